section
/-- a private method of a class that the tables say can be made, by its rows of tables_1 -/
def lw_okq (q : MethodName × Nat) : Prop := (q.1.cls ≠ "java/lang/invoke/MethodHandle" ∧ q.1.cls ≠ "java/lang/invoke/VarHandle") ∧ Cond.instantiable q.1.cls q.2 ∈ tables_1 ∧ Cond.privateMethod q.1 ∈ tables_1 ∧ Cond.instanceMethod q.1 ∈ tables_1
theorem lw_p0 : lw_okq (⟨"java/lang/Throwable", "fillInStackTrace", "(I)Ljava/lang/Throwable;"⟩, 6) := ⟨⟨by decide +kernel, by decide +kernel⟩, List.mem_of_getElem? (i := 383) (by decide +kernel), List.mem_of_getElem? (i := 381) (by decide +kernel), List.mem_of_getElem? (i := 382) (by decide +kernel)⟩
theorem lw_p1 : lw_okq (⟨"ChairStamps", "doCommand", "()I"⟩, 6) := ⟨⟨by decide +kernel, by decide +kernel⟩, List.mem_of_getElem? (i := 20) (by decide +kernel), List.mem_of_getElem? (i := 451) (by decide +kernel), List.mem_of_getElem? (i := 452) (by decide +kernel)⟩
theorem lw_p2 : lw_okq (⟨"ChairStamps", "needChair", "(I)V"⟩, 6) := ⟨⟨by decide +kernel, by decide +kernel⟩, List.mem_of_getElem? (i := 20) (by decide +kernel), List.mem_of_getElem? (i := 550) (by decide +kernel), List.mem_of_getElem? (i := 551) (by decide +kernel)⟩
theorem lw_p3 : lw_okq (⟨"ChairStamps", "needFloor", "(I)V"⟩, 6) := ⟨⟨by decide +kernel, by decide +kernel⟩, List.mem_of_getElem? (i := 20) (by decide +kernel), List.mem_of_getElem? (i := 619) (by decide +kernel), List.mem_of_getElem? (i := 620) (by decide +kernel)⟩
theorem lw_p4 : lw_okq (⟨"ChairStamps", "acted", "(I)I"⟩, 6) := ⟨⟨by decide +kernel, by decide +kernel⟩, List.mem_of_getElem? (i := 20) (by decide +kernel), List.mem_of_getElem? (i := 667) (by decide +kernel), List.mem_of_getElem? (i := 668) (by decide +kernel)⟩
theorem lw_p5 : lw_okq (⟨"ChairStampsModel", "refused", "(I)Z"⟩, 11) := ⟨⟨by decide +kernel, by decide +kernel⟩, List.mem_of_getElem? (i := 858) (by decide +kernel), List.mem_of_getElem? (i := 914) (by decide +kernel), List.mem_of_getElem? (i := 915) (by decide +kernel)⟩
theorem lw_p6 : lw_okq (⟨"ChairStampsModel", "readText", "([I)I"⟩, 11) := ⟨⟨by decide +kernel, by decide +kernel⟩, List.mem_of_getElem? (i := 858) (by decide +kernel), List.mem_of_getElem? (i := 926) (by decide +kernel), List.mem_of_getElem? (i := 927) (by decide +kernel)⟩
theorem lw_p7 : lw_okq (⟨"ChairStampsModel", "readCommand", "([I)Z"⟩, 11) := ⟨⟨by decide +kernel, by decide +kernel⟩, List.mem_of_getElem? (i := 858) (by decide +kernel), List.mem_of_getElem? (i := 930) (by decide +kernel), List.mem_of_getElem? (i := 931) (by decide +kernel)⟩
theorem lw_p8 : lw_okq (⟨"ChairStampsModel", "fourSign", "(I)I"⟩, 11) := ⟨⟨by decide +kernel, by decide +kernel⟩, List.mem_of_getElem? (i := 858) (by decide +kernel), List.mem_of_getElem? (i := 934) (by decide +kernel), List.mem_of_getElem? (i := 935) (by decide +kernel)⟩
theorem lw_p9 : lw_okq (⟨"ChairStampsModel", "figures", "(IIII)I"⟩, 11) := ⟨⟨by decide +kernel, by decide +kernel⟩, List.mem_of_getElem? (i := 858) (by decide +kernel), List.mem_of_getElem? (i := 938) (by decide +kernel), List.mem_of_getElem? (i := 939) (by decide +kernel)⟩
theorem lw_p10 : lw_okq (⟨"ChairStampsModel", "done", "(Z)Z"⟩, 11) := ⟨⟨by decide +kernel, by decide +kernel⟩, List.mem_of_getElem? (i := 858) (by decide +kernel), List.mem_of_getElem? (i := 949) (by decide +kernel), List.mem_of_getElem? (i := 950) (by decide +kernel)⟩
theorem lw_p11 : lw_okq (⟨"ChairStampsModel", "readLeg", "([IZ)Z"⟩, 11) := ⟨⟨by decide +kernel, by decide +kernel⟩, List.mem_of_getElem? (i := 858) (by decide +kernel), List.mem_of_getElem? (i := 953) (by decide +kernel), List.mem_of_getElem? (i := 954) (by decide +kernel)⟩
theorem lw_p12 : lw_okq (⟨"ChairStampsModel", "chairSign", "()I"⟩, 11) := ⟨⟨by decide +kernel, by decide +kernel⟩, List.mem_of_getElem? (i := 858) (by decide +kernel), List.mem_of_getElem? (i := 957) (by decide +kernel), List.mem_of_getElem? (i := 958) (by decide +kernel)⟩
theorem lw_p13 : lw_okq (⟨"ChairStampsModel", "readFloor", "([I)Z"⟩, 11) := ⟨⟨by decide +kernel, by decide +kernel⟩, List.mem_of_getElem? (i := 858) (by decide +kernel), List.mem_of_getElem? (i := 985) (by decide +kernel), List.mem_of_getElem? (i := 986) (by decide +kernel)⟩
theorem lw_p14 : lw_okq (⟨"ChairStampsModel", "readBring", "([I)Z"⟩, 11) := ⟨⟨by decide +kernel, by decide +kernel⟩, List.mem_of_getElem? (i := 858) (by decide +kernel), List.mem_of_getElem? (i := 992) (by decide +kernel), List.mem_of_getElem? (i := 993) (by decide +kernel)⟩
theorem lw_p15 : lw_okq (⟨"ChairStampsModel", "readBound", "([I)Z"⟩, 11) := ⟨⟨by decide +kernel, by decide +kernel⟩, List.mem_of_getElem? (i := 858) (by decide +kernel), List.mem_of_getElem? (i := 1035) (by decide +kernel), List.mem_of_getElem? (i := 1036) (by decide +kernel)⟩
def lw_privs_1 : List (MethodName × Nat) := [(⟨"java/lang/Throwable", "fillInStackTrace", "(I)Ljava/lang/Throwable;"⟩, 6), (⟨"ChairStamps", "doCommand", "()I"⟩, 6), (⟨"ChairStamps", "needChair", "(I)V"⟩, 6), (⟨"ChairStamps", "needFloor", "(I)V"⟩, 6), (⟨"ChairStamps", "acted", "(I)I"⟩, 6), (⟨"ChairStampsModel", "refused", "(I)Z"⟩, 11), (⟨"ChairStampsModel", "readText", "([I)I"⟩, 11), (⟨"ChairStampsModel", "readCommand", "([I)Z"⟩, 11), (⟨"ChairStampsModel", "fourSign", "(I)I"⟩, 11), (⟨"ChairStampsModel", "figures", "(IIII)I"⟩, 11), (⟨"ChairStampsModel", "done", "(Z)Z"⟩, 11), (⟨"ChairStampsModel", "readLeg", "([IZ)Z"⟩, 11), (⟨"ChairStampsModel", "chairSign", "()I"⟩, 11), (⟨"ChairStampsModel", "readFloor", "([I)Z"⟩, 11), (⟨"ChairStampsModel", "readBring", "([I)Z"⟩, 11), (⟨"ChairStampsModel", "readBound", "([I)Z"⟩, 11)]
theorem lw_r1 : ∀ q ∈ lw_privs_1, lw_okq q := List.forall_mem_cons.mpr ⟨lw_p0, List.forall_mem_cons.mpr ⟨lw_p1, List.forall_mem_cons.mpr ⟨lw_p2, List.forall_mem_cons.mpr ⟨lw_p3, List.forall_mem_cons.mpr ⟨lw_p4, List.forall_mem_cons.mpr ⟨lw_p5, List.forall_mem_cons.mpr ⟨lw_p6, List.forall_mem_cons.mpr ⟨lw_p7, List.forall_mem_cons.mpr ⟨lw_p8, List.forall_mem_cons.mpr ⟨lw_p9, List.forall_mem_cons.mpr ⟨lw_p10, List.forall_mem_cons.mpr ⟨lw_p11, List.forall_mem_cons.mpr ⟨lw_p12, List.forall_mem_cons.mpr ⟨lw_p13, List.forall_mem_cons.mpr ⟨lw_p14, List.forall_mem_cons.mpr ⟨lw_p15, fun _ h => absurd h List.not_mem_nil⟩⟩⟩⟩⟩⟩⟩⟩⟩⟩⟩⟩⟩⟩⟩⟩
theorem lw_p16 : lw_okq (⟨"ChairStampsModel", "remember", "()V"⟩, 11) := ⟨⟨by decide +kernel, by decide +kernel⟩, List.mem_of_getElem? (i := 858) (by decide +kernel), List.mem_of_getElem? (i := 1097) (by decide +kernel), List.mem_of_getElem? (i := 1098) (by decide +kernel)⟩
theorem lw_p17 : lw_okq (⟨"ChairStampsModel", "turned", "(II)J"⟩, 11) := ⟨⟨by decide +kernel, by decide +kernel⟩, List.mem_of_getElem? (i := 858) (by decide +kernel), List.mem_of_getElem? (i := 1157) (by decide +kernel), List.mem_of_getElem? (i := 1158) (by decide +kernel)⟩
theorem lw_p18 : lw_okq (⟨"ChairStampsModel", "command", "(II)Z"⟩, 11) := ⟨⟨by decide +kernel, by decide +kernel⟩, List.mem_of_getElem? (i := 858) (by decide +kernel), List.mem_of_getElem? (i := 1183) (by decide +kernel), List.mem_of_getElem? (i := 1184) (by decide +kernel)⟩
theorem lw_p19 : lw_okq (⟨"ChairStampsModel", "commandChair", "(IIIII)Z"⟩, 11) := ⟨⟨by decide +kernel, by decide +kernel⟩, List.mem_of_getElem? (i := 858) (by decide +kernel), List.mem_of_getElem? (i := 1187) (by decide +kernel), List.mem_of_getElem? (i := 1188) (by decide +kernel)⟩
def lw_privs_2 : List (MethodName × Nat) := [(⟨"ChairStampsModel", "remember", "()V"⟩, 11), (⟨"ChairStampsModel", "turned", "(II)J"⟩, 11), (⟨"ChairStampsModel", "command", "(II)Z"⟩, 11), (⟨"ChairStampsModel", "commandChair", "(IIIII)Z"⟩, 11)]
theorem lw_r2 : ∀ q ∈ lw_privs_2, lw_okq q := List.forall_mem_cons.mpr ⟨lw_p16, List.forall_mem_cons.mpr ⟨lw_p17, List.forall_mem_cons.mpr ⟨lw_p18, List.forall_mem_cons.mpr ⟨lw_p19, fun _ h => absurd h List.not_mem_nil⟩⟩⟩⟩
def lw_privs : List (MethodName × Nat) := lw_privs_1 ++ (lw_privs_2)
def lw_tbl : List Cond := k2_sels lw_privs ++ tables_1
theorem lw_privs_ok : ∀ q ∈ lw_privs, lw_okq q := by
  show ∀ q ∈ lw_privs_1 ++ (lw_privs_2), lw_okq q
  exact List.forall_mem_append.mpr ⟨lw_r1, lw_r2⟩
end
section
/-! ===== BEGIN words of one list among another's, by their places ===== -/
theorem goodIn_r {big : List Cond} (ws : List Cond) (ps : List Nat) (hp : ws = ps.filterMap (fun i => big[i]?)) (h : ws.all goodWord = true) : GoodIn big ws := by
  intro w hw
  have h1 := List.all_eq_true.mp h w hw
  rw [hp] at hw
  obtain ⟨i, -, hi⟩ := List.mem_filterMap.mp hw
  have hm : w ∈ big := by first | exact List.mem_of_getElem? hi | exact List.getElem?_mem hi
  exact ⟨hm, good_of_word h1⟩
theorem goodIn_app {big a b : List Cond} (ha : GoodIn big a) (hb : GoodIn big b) : GoodIn big (a ++ b) := fun w h => (List.mem_append.mp h).elim (ha w) (hb w)
theorem goodIn_ca {big a b : List Cond} {c : Cond} (ha : GoodIn big (c :: a)) (hb : GoodIn big b) : GoodIn big (c :: (a ++ b)) := fun w h => (List.mem_cons.mp h).elim (fun e => ha w (List.mem_cons.mpr (Or.inl e))) (fun h => (List.mem_append.mp h).elim (fun h => ha w (List.mem_cons.mpr (Or.inr h))) (hb w))
theorem goodIn_sub {big ws : List Cond} (hm : ∀ w ∈ ws, w ∈ big) (h : ws.all goodWord = true) : GoodIn big ws := fun w hw => ⟨hm w hw, good_of_word (List.all_eq_true.mp h w hw)⟩
/-! ===== END ===== -/

/-! ===== BEGIN exceptions that leave a method, and their catching by the caller (launches without stack traces) ===== -/
section VXA
/-! The laws vx_back, vx_callV, vx_callS, vx_callSW, vx_throw0, vx_throwS follow proofs of the library, with one case more: JvmDerived/Free/Laws.lean (Back.of_free), Shelf42/LK1.lean (callV, callS), Shelf/KitTraced.lean (throwNew0V, throwNewS). -/
/-- where a method has thrown q: the class by its name, the cell, what was written, the world -/
def vx_T (XC : String → State → State → Prop) (st : State) (q : Addr) (t : State) (mc ms : Nat) (free : Addr → Prop) : Prop :=
  ∃ (E : String) (ce : Cell) (L : List Loc), XC E st t ∧ t.heap[q]? = some ce ∧ ce.vm = .none ∧ st.vm.findClass E = some ce.cls ∧ st.WarmedH t.vm ∧ st.sameButNew ({ t with vm := st.vm } : State) L mc ms ∧ ∀ z ∈ L, free z.base
def vx_Q (Qc : Array Value → State → Outcome → State → Prop) (XC : String → State → State → Prop) (mc ms : Nat) (free : Addr → Prop) : Array Value → State → Outcome → State → Prop := fun a st o t =>
  (Qc a st o t ∧ ∃ L, FrameEnd st o t L mc ms ∧ ∀ q ∈ L, free q.base) ∨ ∃ q, o = .threw q ∧ vx_T XC st q t mc ms free
/-- a callee that returns or throws -/
def vx_Met (l : Launch) (y : MethodName) (ws : List Cond) (rm : Room) (Pc : Array Value → State → Prop) (Qc : Array Value → State → Outcome → State → Prop) (XC : String → State → State → Prop) (mc ms : Nat) (free : Addr → Prop) : Prop :=
  MetFree l y (headSpec ws rm) Pc (fun _ _ _ _ _ => True) (vx_Q Qc XC mc ms free)
def vx_Post (XC : String → State → State → Prop) (mc ms : Nat) (free : Addr → Prop) : Pt → Array Value → Addr → Pt → Prop := fun A a q B =>
  ∃ (g : JFrame) (mk : MethodId) (t : State) (L : List Loc) (E : String) (ce : Cell), B.U.heap = t.heap ∧ B.U.vm = t.vm ∧ XC E (A.U.calling g mk a) t ∧ t.heap[q]? = some ce ∧ ce.vm = .none ∧ A.U.vm.findClass E = some ce.cls ∧ B.locs = A.locs ++ L ∧ (∀ z ∈ L, free z.base) ∧ B.cells = A.cells + mc ∧ B.slots = A.slots + ms
def vx_Back (l : Launch) (R : Room) (p : Program) (e : Env) (below : List Frame) (s : State) (sargs : Array Value) (y : MethodName) (len W9 : Nat)
    (Pre : Pt → Array Value → Prop) (Post : Pt → Array Value → Option Value → Pt → Prop) (PostX : Pt → Array Value → Addr → Pt → Prop) : Prop :=
  ∀ (m : MethodId) (meth : Method) (c : Code) (A : Pt) (g : JFrame) (ig : Instr) (mk : MethodId) (a : Array Value),
    Stand p l e R s m sargs below meth c A.U A.locs A.cells A.slots → g.method = m → g.locals.size = c.maxLocals → decode c.code g.pc = .ok (ig, len) →
    2 * g.monitorRoom + (g.stack.map fun v => v.category).sum ≤ W9 → A.U.methodNamed? y = some mk → Pre A a →
    (∃ (v : Option Value) (B : Pt), Stand p l e R s m sargs below meth c B.U B.locs B.cells B.slots ∧ Post A a v B ∧
      Steps p.tables e below (doInvoke e (A.U.setTop g) [] mk a).1 (B.U.setTop { g with pc := g.pc + len, stack := v.toList ++ g.stack })) ∨
    (∃ (q : Addr) (B : Pt), Stand p l e R s m sargs below meth c B.U B.locs B.cells B.slots ∧ PostX A a q B ∧
      Steps p.tables e below (doInvoke e (A.U.setTop g) [] mk a).1 ((B.U.setTop g).pushFrame (.throwing q)))
section Payer
variable {l : Launch} {R : Room} {p : Program} {e : Env} {below : List Frame} {s : State} {sargs : Array Value} {y : MethodName} {len W9 : Nat}
theorem vx_back {ws : List Cond} {rm : Room} {Pc : Array Value → State → Prop} {Qc : Array Value → State → Outcome → State → Prop} {XC : String → State → State → Prop} {mc ms : Nat} {free : Addr → Prop} {bytes : ByteArray} {maxL : Nat} {ret : Option FieldType}
    (hM : vx_Met l y ws rm Pc Qc XC mc ms free) (hblind : FrameBlind Pc) (hrc : rm.cells = mc) (hrs : rm.slots = ms)
    (hframes : rm.frames + 1 ≤ R.frames) (hlocals : W9 + (maxL + 11) + rm.locals ≤ R.locals)
    (hws : ∀ w ∈ ws, ∀ a' U, s.WarmedH U.vm → w.before a' U = true) (hcode : Cond.code y bytes maxL ret ∈ ws) (hinit : ∀ a' U, s.WarmedH U.vm → (Cond.initialized y.cls).before a' U = true) :
    vx_Back l R p e below s sargs y len W9 (PreOf R mc ms Pc) (PostOf Qc mc ms free) (vx_Post XC mc ms free) := by
  intro m meth c A g ig mk a X hg hsize hdg hW hn hp
  have h1 : (headSpec ws rm).pre.before a A.U = true := atoms_intro fun w hw => hws w hw _ _ X.warmed
  have h2 : (Cond.code y bytes maxL ret).before a A.U = true := hws _ hcode _ _ X.warmed
  have h3 : (Cond.initialized y.cls).before a A.U = true := hinit _ _ X.warmed
  have h4 : A.cells + (headSpec ws rm).room.cells ≤ R.cells := by rw [show (headSpec ws rm).room.cells = mc from hrc]; exact hp.1
  have h5 : A.slots + (headSpec ws rm).room.slots ≤ R.slots := by rw [show (headSpec ws rm).room.slots = ms from hrs]; exact hp.2.1
  have hPc : Pc a (A.U.calling g mk a) := hblind _ _ _ _ hp.2.2
  obtain ⟨U, Ls, c0, s0⟩ := A
  dsimp only [Pt.U, Pt.locs, Pt.cells, Pt.slots] at h1 h2 h3 h4 h5 X hn hPc ⊢
  obtain ⟨methY, cY, hmY, hcY, -, hlY, -, -, -, -⟩ := Cond.code_spec hn h2
  obtain ⟨kY, hkY, -⟩ := className_of_methodNamed hn
  have hinitY : kY.init = .initialized := Cond.initialized_spec (findClass_of_methodNamed hn) hkY h3
  have h : At U g.method c below := by rw [hg]; exact X.here
  have hlocals9 : W9 + (maxL + 11) + (headSpec ws rm).room.locals ≤ R.locals := hlocals
  have happ : (headSpec ws rm).appliesLoose y e.platform (U.calling g mk a) = true :=
    Spec.appliesLoose_calling (g := g) h hdg hn hkY hinitY
      (X.room_calling (g := g) (R' := (headSpec ws rm).room) hsize hmY hcY hframes (by rw [hlY]; omega) h4 h5) h1
  obtain ⟨mid, hmid⟩ := h.above
  have hfr : (U.setTop g).frames = (.java g :: mid) ++ below := by rw [State.frames_setTop' g h.top, hmid]; rfl
  obtain ⟨o, s₂, hsteps, -, hend, hq⟩ := Steps.callFree hM p X.admits X.cas X.clock (acts := []) hfr happ hPc trivial
  have hq' : vx_Q Qc XC mc ms free a (U.calling g mk a) o s₂ := hq
  rw [State.frames_setTop' g h.top] at hend
  obtain ⟨g₀, hg0⟩ := Option.isSome_iff_exists.mp h.top
  obtain ⟨r, hr⟩ := State.topJava?_eq_some.mp hg0
  have hr' : (({ U with heap := s₂.heap, slotsUsed := s₂.slotsUsed } : State).setVm s₂.vm).frames = .java g₀ :: r := hr
  rcases hq' with ⟨hqc, L, hfe, hL⟩ | ⟨q, rfl, E, ce, L, hx, hce, hcv, hcl, hW₂, hsm, hL⟩
  · obtain ⟨⟨v, rfl⟩, hW₂, e2, q2, q3, q4, q5, q6⟩ := id hfe
    have e3 : s₂ = ({ (U.calling g mk a).setFrames s₂.frames with heap := s₂.heap, slotsUsed := s₂.slotsUsed } : State).setVm s₂.vm := by
      have : s₂ = ({ s₂ with vm := (U.calling g mk a).vm } : State).setVm s₂.vm := rfl
      rw [e2] at this
      exact this
    obtain ⟨c₂, i₂, len₂, hc₂, hd₂, hf₂⟩ := hend
    have hW' : U.WarmedH s₂.vm := hW₂
    have hcc : c₂ = c := by
      have h1 : s₂.code? g.method = U.code? g.method := by
        rw [State.code?_eq, State.code?_eq, hW'.alike.method?]
      exact Option.some.inj (hc₂.symm.trans (h1.trans h.code))
    subst hcc
    have hlen : len₂ = len := by rw [hdg] at hd₂; cases hd₂; rfl
    subst hlen
    have hs₂ : s₂ = (({ U with heap := s₂.heap, slotsUsed := s₂.slotsUsed } : State).setVm s₂.vm).setTop { g with pc := g.pc + len₂, stack := v.toList ++ g.stack } := by
      refine e3.trans ?_
      rw [hf₂, State.calling_eq h.top, State.setFrames_setFrames, State.setTop_of_frames _ hr', hr]
      rfl
    have hsame : U.sameButNew ({ U with heap := s₂.heap, slotsUsed := s₂.slotsUsed } : State) L mc ms := by
      refine ⟨?_, q2, q3, q4, q5, q6⟩
      obtain ⟨t, ht, -⟩ := State.frames_cons hr
      show ({ U with heap := s₂.heap, slotsUsed := s₂.slotsUsed } : State) = { U.setFrames U.frames with heap := s₂.heap, slotsUsed := s₂.slotsUsed }
      rw [State.setFrames_self ht]
    subst hg
    refine Or.inl ⟨v, ⟨(({ U with heap := s₂.heap, slotsUsed := s₂.slotsUsed } : State).setVm s₂.vm), Ls ++ L, c0 + mc, s0 + ms⟩,
      ⟨X.admits, X.cas, X.clock, X.frames, X.room, X.hears, X.method, X.code, (X.here.setHeapUsed s₂.heap s₂.slotsUsed).setVm hW'.alike, X.tail, State.WarmedH.trans X.warmed hW', X.limits, X.bytes, X.same.trans (hsame.setVm s.vm)⟩,
      ⟨g, mk, s₂, L, rfl, rfl, hqc, rfl, hL, rfl, rfl⟩, ?_⟩
    show Steps p.tables e below _ ((({ U with heap := s₂.heap, slotsUsed := s₂.slotsUsed } : State).setVm s₂.vm).setTop { g with pc := g.pc + len₂, stack := v.toList ++ g.stack })
    rw [← hs₂]
    exact hsteps
  · obtain ⟨e2, q2, q3, q4, q5, q6⟩ := id hsm
    have e3 : s₂ = ({ (U.calling g mk a).setFrames s₂.frames with heap := s₂.heap, slotsUsed := s₂.slotsUsed } : State).setVm s₂.vm := by
      have : s₂ = ({ s₂ with vm := (U.calling g mk a).vm } : State).setVm s₂.vm := rfl
      rw [e2] at this
      exact this
    have hf₂ : s₂.frames = .throwing q :: .java g :: U.frames.tail := hend
    have hW' : U.WarmedH s₂.vm := hW₂
    have hs₂ : s₂ = ((({ U with heap := s₂.heap, slotsUsed := s₂.slotsUsed } : State).setVm s₂.vm).setTop g).pushFrame (.throwing q) := by
      refine e3.trans ?_
      rw [hf₂, State.calling_eq h.top, State.setFrames_setFrames, State.pushFrame, State.frames_setTop _ hr', State.setTop_of_frames _ hr', State.setFrames_setFrames, hr]
      rfl
    have hsame : U.sameButNew ({ U with heap := s₂.heap, slotsUsed := s₂.slotsUsed } : State) L mc ms := by
      refine ⟨?_, q2, q3, q4, q5, q6⟩
      obtain ⟨t, ht, -⟩ := State.frames_cons hr
      show ({ U with heap := s₂.heap, slotsUsed := s₂.slotsUsed } : State) = { U.setFrames U.frames with heap := s₂.heap, slotsUsed := s₂.slotsUsed }
      rw [State.setFrames_self ht]
    subst hg
    refine Or.inr ⟨q, ⟨(({ U with heap := s₂.heap, slotsUsed := s₂.slotsUsed } : State).setVm s₂.vm), Ls ++ L, c0 + mc, s0 + ms⟩,
      ⟨X.admits, X.cas, X.clock, X.frames, X.room, X.hears, X.method, X.code, (X.here.setHeapUsed s₂.heap s₂.slotsUsed).setVm hW'.alike, X.tail, State.WarmedH.trans X.warmed hW', X.limits, X.bytes, X.same.trans (hsame.setVm s.vm)⟩,
      ⟨g, mk, s₂, L, E, ce, rfl, rfl, hx, hce, hcv, hcl, rfl, hL, rfl, rfl⟩, ?_⟩
    show Steps p.tables e below _ (((({ U with heap := s₂.heap, slotsUsed := s₂.slotsUsed } : State).setVm s₂.vm).setTop g).pushFrame (.throwing q))
    rw [← hs₂]
    exact hsteps
end Payer
section Calls
variable {p : Program} {l : Launch} {e : Env} {R : Room} {s : State} {m : MethodId} {args : Array Value} {below : List Frame} {meth : Method} {c : Code} {T : State} {locs : List Loc} {cells slots : Nat}
theorem vx_callV (X : Stand p l e R s m args below meth c T locs cells slots) (hexec : p.tables.exec = Jvm.exec) {own C : String} {index : Nat} {y : MethodName} {bytes : ByteArray} {maxL : Nat} {ret : Option FieldType}
    (hown : s.vm.findClass own = some m.cls) (hlink : (Cond.methodLink own index y).before args s = true) (hinst : (Cond.instanceMethod y).before args s = true) (hsel : (Cond.selects C y y).before args s = true)
    (hcode : (Cond.code y bytes maxL ret).before args s = true) (hy : y.cls ≠ "java/lang/invoke/MethodHandle" ∧ y.cls ≠ "java/lang/invoke/VarHandle")
    {W9 : Nat} {Pre : Pt → Array Value → Prop} {Post : Pt → Array Value → Option Value → Pt → Prop} {PostX : Pt → Array Value → Addr → Pt → Prop} (hK : vx_Back l R p e below s args y 3 W9 Pre Post PostX)
    {b : Addr} {cellB : Cell} (hcell : T.heap[b]? = some cellB) (hobj : cellB.vm.isStatics = false) (hcls : s.vm.findClass C = some cellB.cls)
    {g : JFrame} (hg : g.method = m) (hsize : g.locals.size = c.maxLocals) {argsL rest : List Value} (hlen : ∀ sig, parseMethodDescriptor y.desc = some sig → argsL.length = sig.parameters.length)
    (hstack : g.stack = argsL.reverse ++ .ref b :: rest) (hW : 2 * g.monitorRoom + (rest.map fun v => v.category).sum ≤ W9) (hdg : decode c.code g.pc = .ok (.invokevirtual index, 3))
    (hpre : ∀ vm₁, s.WarmedH vm₁ → Pre ⟨T.setVm vm₁, locs, cells, slots⟩ (Value.ref b :: argsL).toArray) :
    (∃ (v : Option Value) (vm₁ : Vm) (B : Pt), s.WarmedH vm₁ ∧ Stand p l e R s m args below meth c B.U B.locs B.cells B.slots ∧ Post ⟨T.setVm vm₁, locs, cells, slots⟩ (Value.ref b :: argsL).toArray v B ∧
      ∀ target, Steps p.tables e below (B.U.setTop { g with pc := g.pc + 3, stack := v.toList ++ rest }) target → Steps p.tables e below (T.setTop g) target) ∨
    (∃ (q : Addr) (vm₁ : Vm) (B : Pt), s.WarmedH vm₁ ∧ Stand p l e R s m args below meth c B.U B.locs B.cells B.slots ∧ PostX ⟨T.setVm vm₁, locs, cells, slots⟩ (Value.ref b :: argsL).toArray q B ∧
      Steps p.tables e below (T.setTop g) ((B.U.setTop { g with stack := rest }).pushFrame (.throwing q))) := by
  obtain ⟨mk, methM, hnamed, hmethM, hstM, habM⟩ := Cond.instanceMethod_spec hinst
  obtain ⟨methM', cM, hmethM', -, -, -, -, -, -, hsigM⟩ := Cond.code_spec hnamed hcode
  cases hmethM.symm.trans hmethM'
  obtain ⟨c2, r2, m2, q1, q2, q3, q4, kP, hkP, hkPi⟩ := Cond.selects_spec hsel
  cases hcls.symm.trans q1
  cases (State.methodFound?_of_named hnamed hy).symm.trans q2
  cases hnamed.symm.trans q3
  have hselP : selectMethod e.platform s.vm cellB.cls mk = .method mk := by rw [Launch.admits_selectMethod X.admits]; exact q4
  obtain ⟨vm₁, X₁, hstep₁⟩ := X.invokevirtual hexec hown hlink hnamed hmethM hstM hkP hkPi hy (a := b) (cell := cellB) hcell
    (fun z h => by rw [h] at hobj; cases hobj) hselP hmethM habM hkP hkPi (g := g) hg (argsL := argsL) (rest := rest) (hlen _ hsigM) hstack hdg
  rcases hK m meth c ⟨T.setVm vm₁, locs, cells, slots⟩ { g with stack := rest } (.invokevirtual index) mk (Value.ref b :: argsL).toArray X₁ hg hsize hdg hW (X₁.named hnamed) (hpre vm₁ X₁.warmed) with ⟨v, B, X', hpost, hsteps⟩ | ⟨q, B, X', hpost, hsteps⟩
  · exact Or.inl ⟨v, vm₁, B, X₁.warmed, X', hpost, fun target h => hstep₁ _ fun acts => by rw [doInvoke_state]; exact hsteps.trans h⟩
  · exact Or.inr ⟨q, vm₁, B, X₁.warmed, X', hpost, hstep₁ _ fun acts => by rw [doInvoke_state]; exact hsteps⟩
theorem vx_callS (X : Stand p l e R s m args below meth c T locs cells slots) (hexec : p.tables.exec = Jvm.exec) {own : String} {index : Nat} {y : MethodName} {bytes : ByteArray} {maxL : Nat} {ret : Option FieldType}
    (hown : s.vm.findClass own = some m.cls) (hlink : (Cond.methodLink own index y).before args s = true) (hstat : (Cond.static y).before args s = true) (hinit : (Cond.initialized y.cls).before args s = true)
    (hcode : (Cond.code y bytes maxL ret).before args s = true) (hy : y.cls ≠ "java/lang/invoke/MethodHandle" ∧ y.cls ≠ "java/lang/invoke/VarHandle")
    {W9 : Nat} {Pre : Pt → Array Value → Prop} {Post : Pt → Array Value → Option Value → Pt → Prop} {PostX : Pt → Array Value → Addr → Pt → Prop} (hK : vx_Back l R p e below s args y 3 W9 Pre Post PostX)
    {g : JFrame} (hg : g.method = m) (hsize : g.locals.size = c.maxLocals) {argsL rest : List Value} (hlen : ∀ sig, parseMethodDescriptor y.desc = some sig → argsL.length = sig.parameters.length)
    (hstack : g.stack = argsL.reverse ++ rest) (hW : 2 * g.monitorRoom + (rest.map fun v => v.category).sum ≤ W9) (hdg : decode c.code g.pc = .ok (.invokestatic index, 3))
    (hpre : ∀ vm₁, s.WarmedH vm₁ → Pre ⟨T.setVm vm₁, locs, cells, slots⟩ argsL.toArray) :
    (∃ (v : Option Value) (vm₁ : Vm) (B : Pt), s.WarmedH vm₁ ∧ Stand p l e R s m args below meth c B.U B.locs B.cells B.slots ∧ Post ⟨T.setVm vm₁, locs, cells, slots⟩ argsL.toArray v B ∧
      ∀ target, Steps p.tables e below (B.U.setTop { g with pc := g.pc + 3, stack := v.toList ++ rest }) target → Steps p.tables e below (T.setTop g) target) ∨
    (∃ (q : Addr) (vm₁ : Vm) (B : Pt), s.WarmedH vm₁ ∧ Stand p l e R s m args below meth c B.U B.locs B.cells B.slots ∧ PostX ⟨T.setVm vm₁, locs, cells, slots⟩ argsL.toArray q B ∧
      Steps p.tables e below (T.setTop g) ((B.U.setTop { g with stack := rest }).pushFrame (.throwing q))) := by
  obtain ⟨mk, hnamed⟩ := Cond.code_named hcode
  obtain ⟨methM, cM, hmethM, -, -, -, -, -, -, hsigM⟩ := Cond.code_spec hnamed hcode
  have hstatic : methM.isStatic = true := Cond.static_spec hnamed hmethM hstat
  obtain ⟨kP, hkP, -⟩ := className_of_methodNamed hnamed
  have hinitP : kP.init = .initialized := Cond.initialized_spec (findClass_of_methodNamed hnamed) hkP hinit
  obtain ⟨vm₁, X₁, hstep₁⟩ := X.invokestatic hexec hown hlink hnamed hmethM hstatic hkP hinitP hy (g := g) hg (argsL := argsL) (rest := rest) (hlen _ hsigM) hstack hdg
  rcases hK m meth c ⟨T.setVm vm₁, locs, cells, slots⟩ { g with stack := rest } (.invokestatic index) mk argsL.toArray X₁ hg hsize hdg hW (X₁.named hnamed) (hpre vm₁ X₁.warmed) with ⟨v, B, X', hpost, hsteps⟩ | ⟨q, B, X', hpost, hsteps⟩
  · exact Or.inl ⟨v, vm₁, B, X₁.warmed, X', hpost, fun target h => hstep₁ _ fun acts => by rw [doInvoke_state]; exact hsteps.trans h⟩
  · exact Or.inr ⟨q, vm₁, B, X₁.warmed, X', hpost, hstep₁ _ fun acts => by rw [doInvoke_state]; exact hsteps⟩
end Calls
theorem vx_cls {s : State} {T : State} {vm₁ : Vm} {E : String} {k : ClassId} (hW : s.WarmedH vm₁) (h : (T.setVm vm₁).vm.findClass E = some k) : s.vm.findClass E = some k := by
  have h1 : vm₁.findClass E = some k := h
  rw [hW.alike.findClass] at h1
  exact h1
/-- the method's frame g, with q thrown over it -/
def vx_W (p : Program) (l : Launch) (e : Env) (R : Room) (s : State) (m : MethodId) (args : Array Value) (below : List Frame) (meth : Method) (c : Code) (H : Heap) (locs : List Loc) (cells slots : Nat) (Q : State → Prop) (g : JFrame) (q : Addr) : Prop :=
  ∀ T : State, T.heap = H → Stand p l e R s m args below meth c T locs cells slots → ∃ t, Steps p.tables e below ((T.setTop g).pushFrame (.throwing q)) t ∧ Q t
def vx_Run (p : Program) (l : Launch) (e : Env) (R : Room) (s : State) (m : MethodId) (args : Array Value) (below : List Frame) (meth : Method) (c : Code) (H : Heap) (locs : List Loc) (cells slots mc ms : Nat) (g : JFrame) (rest : List Value) (Qa : State → Outcome → State → Prop) (XC : String → State → State → Prop) (free : Addr → Prop) : Prop :=
  ∀ T : State, T.heap = H → Stand p l e R s m args below meth c T locs cells slots →
    (∃ (v : Option Value) (st₀ t T' : State) (L : List Loc), st₀.heap = H ∧ Stand p l e R s m args below meth c T' (locs ++ L) (cells + mc) (slots + ms) ∧ (∀ q ∈ L, free q.base) ∧ T'.heap = t.heap ∧ T'.vm = t.vm ∧ Qa st₀ (.returned v) t ∧
      Goes p e below T g T' { g with pc := g.pc + 3, stack := v.toList ++ rest }) ∨
    (∃ (q : Addr) (st₀ t T' : State) (L : List Loc) (E : String) (ce : Cell), st₀.heap = H ∧ Stand p l e R s m args below meth c T' (locs ++ L) (cells + mc) (slots + ms) ∧ (∀ z ∈ L, free z.base) ∧ T'.heap = t.heap ∧ T'.vm = t.vm ∧ XC E st₀ t ∧ t.heap[q]? = some ce ∧ ce.vm = .none ∧ s.vm.findClass E = some ce.cls ∧
      Steps p.tables e below (T.setTop g) ((T'.setTop { g with stack := rest }).pushFrame (.throwing q)))
def vx_X {S : Type} (px : S → Prop) (B : String → S → State → Prop) (A : Nat → Prop) : String → State → State → Prop := fun E st t => ∃ u : S, px u ∧ B E u t ∧ va_F A st t
section Runs
variable {p : Program} {l : Launch} {e : Env} {R : Room} {s : State} {m : MethodId} {args : Array Value} {below : List Frame} {meth : Method} {c : Code} {H : Heap} {locs : List Loc} {cells slots : Nat}
variable {y : MethodName} {bytes cc : ByteArray} {maxL nL mc ms n index : Nat} {ret : Option FieldType} {ws : List Cond} {rm : Room} {Pc : Array Value → State → Prop} {Qc : Array Value → State → Outcome → State → Prop} {XC : String → State → State → Prop} {free : Addr → Prop} {Ts : List Cond} {own C : String} {b : Addr} {As rest : List Value} {g : JFrame}
theorem vx_callBack (cb : CallB R s args own index y bytes maxL ret ws rm mc ms n) (hM : vx_Met l y ws rm Pc Qc XC mc ms free) (hbl : FrameBlind Pc) : vx_Back l R p e below s args y 3 8 (PreOf R mc ms Pc) (PostOf Qc mc ms free) (vx_Post XC mc ms free) := by
  obtain ⟨hrc, hrs, hfr, hlo, hws, hcw, -, hini, -⟩ := cb
  exact vx_back (bytes := bytes) (maxL := maxL) (ret := ret) hM hbl hrc hrs hfr hlo hws hcw (fun a' U hW => word_at hW (Or.inl (by first | rfl | simp [Cond.onTables, Cond.keeps, Cond.steady])) hini)
theorem vx_runV (S : CallFix p m c cc nL s args Ts own) (hM : vx_Met l y ws rm Pc Qc XC mc ms free) (cw : CallW R s args own C index y bytes maxL ret ws rm mc ms n) (hp : PreV s H C b Pc As)
    (hg : g.method = m) (hn : As.length = n) (hsize : g.locals.size = nL) (hstack : g.stack = As.reverse ++ .ref b :: rest) (hW : 2 * g.monitorRoom + (rest.map fun v => v.category).sum ≤ 8) (hdg : decode cc g.pc = .ok (.invokevirtual index, 3)) (hf : cells + mc ≤ R.cells ∧ slots + ms ≤ R.slots) :
    vx_Run p l e R s m args below meth c H locs cells slots mc ms g rest (Qc (Value.ref b :: As).toArray) XC free := by
  have hK : vx_Back l R p e below s args y 3 8 (PreOf R mc ms Pc) (PostOf Qc mc ms free) (vx_Post XC mc ms free) := vx_callBack cw.1 hM hp.1
  obtain ⟨⟨-, -, -, -, -, -, hcode, -, hy, hlen, hl⟩, hin, hse⟩ := cw
  obtain ⟨hx, hb, hml, ho, -⟩ := S
  obtain ⟨-, ⟨cellB, hcB, hoB, hclB⟩, hPc⟩ := hp
  intro T hT X
  rcases vx_callV X hx (C := C) (bytes := bytes) (maxL := maxL) (ret := ret) ho hl hin hse hcode hy hK (by rw [hT]; exact hcB) hoB hclB hg (hsize.trans hml.symm) (argsL := As) (rest := rest) (fun sig h => hn.trans (hlen sig h)) hstack hW (by rw [hb]; exact hdg)
    (fun vm₁ hW₁ => ⟨hf.1, hf.2, hPc (T.setVm vm₁) hT hW₁⟩) with ⟨v, vm₁, ⟨U', l2, c2, s2⟩, hW₁, X', ⟨g', mk, t, L, e1, e2, hq, h1, hL, h2, h3⟩, st⟩ | ⟨q, vm₁, ⟨U', l2, c2, s2⟩, hW₁, X', ⟨g', mk, t, L, E, ce, e1, e2, hq, hce, hcv, hcl, h1, hL, h2, h3⟩, st⟩
  · dsimp only [Pt.U, Pt.locs, Pt.cells, Pt.slots] at X' e1 e2 h1 h2 h3 st
    subst h1; subst h2; subst h3
    exact Or.inl ⟨v, (T.setVm vm₁).calling g' mk (Value.ref b :: As).toArray, t, U', L, hT, X', hL, e1, e2, hq, st⟩
  · dsimp only [Pt.U, Pt.locs, Pt.cells, Pt.slots] at X' e1 e2 h1 h2 h3 st hcl
    subst h1; subst h2; subst h3
    exact Or.inr ⟨q, (T.setVm vm₁).calling g' mk (Value.ref b :: As).toArray, t, U', L, E, ce, hT, X', hL, e1, e2, hq, hce, hcv, vx_cls hW₁ hcl, st⟩
theorem vx_runS (S : CallFix p m c cc nL s args Ts own) (hM : vx_Met l y ws rm Pc Qc XC mc ms free) (cw : CallB R s args own index y bytes maxL ret ws rm mc ms n ∧ (Cond.static y).before args s = true) (hp : PreS s H Pc As)
    (hg : g.method = m) (hn : As.length = n) (hsize : g.locals.size = nL) (hstack : g.stack = As.reverse ++ rest) (hW : 2 * g.monitorRoom + (rest.map fun v => v.category).sum ≤ 8) (hdg : decode cc g.pc = .ok (.invokestatic index, 3)) (hf : cells + mc ≤ R.cells ∧ slots + ms ≤ R.slots) :
    vx_Run p l e R s m args below meth c H locs cells slots mc ms g rest (Qc As.toArray) XC free := by
  have hK : vx_Back l R p e below s args y 3 8 (PreOf R mc ms Pc) (PostOf Qc mc ms free) (vx_Post XC mc ms free) := vx_callBack cw.1 hM hp.1
  obtain ⟨⟨-, -, -, -, -, -, hcode, hini, hy, hlen, hl⟩, hstt⟩ := cw
  obtain ⟨hx, hb, hml, ho, -⟩ := S
  intro T hT X
  rcases vx_callS X hx (bytes := bytes) (maxL := maxL) (ret := ret) ho hl hstt hini hcode hy hK hg (hsize.trans hml.symm) (argsL := As) (rest := rest) (fun sig h => hn.trans (hlen sig h)) hstack hW (by rw [hb]; exact hdg)
    (fun vm₁ hW₁ => ⟨hf.1, hf.2, hp.2 (T.setVm vm₁) hT hW₁⟩) with ⟨v, vm₁, ⟨U', l2, c2, s2⟩, hW₁, X', ⟨g', mk, t, L, e1, e2, hq, h1, hL, h2, h3⟩, st⟩ | ⟨q, vm₁, ⟨U', l2, c2, s2⟩, hW₁, X', ⟨g', mk, t, L, E, ce, e1, e2, hq, hce, hcv, hcl, h1, hL, h2, h3⟩, st⟩
  · dsimp only [Pt.U, Pt.locs, Pt.cells, Pt.slots] at X' e1 e2 h1 h2 h3 st
    subst h1; subst h2; subst h3
    exact Or.inl ⟨v, (T.setVm vm₁).calling g' mk As.toArray, t, U', L, hT, X', hL, e1, e2, hq, st⟩
  · dsimp only [Pt.U, Pt.locs, Pt.cells, Pt.slots] at X' e1 e2 h1 h2 h3 st hcl
    subst h1; subst h2; subst h3
    exact Or.inr ⟨q, (T.setVm vm₁).calling g' mk As.toArray, t, U', L, E, ce, hT, X', hL, e1, e2, hq, hce, hcv, vx_cls hW₁ hcl, st⟩
end Runs
section Rows
variable {p : Program} {l : Launch} {e : Env} {R : Room} {s : State} {m : MethodId} {args : Array Value} {below : List Frame} {meth : Method} {c : Code} {H : Heap} {locs : List Loc} {cells slots : Nat} {Q : State → Prop}
variable {mc ms : Nat} {free : Addr → Prop} {A0 A1 : Nat → Prop} {H0 : Heap} {a : Array Value} {pc : Nat} {ls : Array Slot} {st0 rest : List Value}
theorem vx_keep {st₀ t T' : State} {L : List Loc} (h0 : st₀.heap = H) (e1 : T'.heap = t.heap) (hS : va_S A0 H0 H locs) (hA : ∀ q, q < H.size → A1 q → A0 q) (hf : ∀ q, free q → A0 q) (hL : ∀ q ∈ L, free q.base) (hF : va_F A1 st₀ t) :
    H.size ≤ T'.heap.size ∧ (∀ q : Nat, q < H.size → ¬ A1 q → T'.heap[q]? = H[q]?) ∧ va_S A0 H0 T'.heap (locs ++ L) := by
  obtain ⟨hz, hk⟩ := hF
  rw [h0] at hz hk
  exact ⟨by rw [e1]; exact hz, fun q h1 h2 => by rw [e1]; exact hk q h1 h2,
    ⟨Nat.le_trans hS.1 (by rw [e1]; exact hz), fun q h1 h2 => by rw [e1, hk q (Nat.lt_of_lt_of_le h1 hS.1) (fun z => h2 (hA q (Nat.lt_of_lt_of_le h1 hS.1) z))]; exact hS.2.1 q h1 h2, fun q hq => by
      rcases List.mem_append.mp hq with h | h
      · exact hS.2.2 q h
      · exact hf _ (hL q h)⟩⟩
theorem vx_calli {S SX : Type} {post : Int32 → S → Prop} {px : SX → Prop} {B : S → State → Prop} {BX : String → SX → State → Prop} {AX : Nat → Prop} (hr : vx_Run p l e R s m args below meth c H locs cells slots mc ms (F0 m pc ls st0) rest (va_Qi post B A1 a) (vx_X px BX AX) free) (hS : va_S A0 H0 H locs) (hA : ∀ q, q < H.size → A1 q → A0 q) (hf : ∀ q, free q → A0 q) (hAX : ∀ q, q < H.size → AX q → A0 q)
    (kx : ∀ (E : String) (ce : Cell) (q9 : Addr) (u : SX) (t : State) (H1 : Heap) (locs1 : List Loc), t.heap = H1 → s.vm.Alike t.vm → px u → BX E u t → H.size ≤ H1.size → (∀ q : Nat, q < H.size → ¬ AX q → H1[q]? = H[q]?) → va_S A0 H0 H1 locs1 → H1[q9]? = some ce → ce.vm = .none → s.vm.findClass E = some ce.cls → vx_W p l e R s m args below meth c H1 locs1 (cells + mc) (slots + ms) Q (F0 m pc ls rest) q9)
    (kk : ∀ (r : Int32) (u : S) (t : State) (H1 : Heap) (locs1 : List Loc), t.heap = H1 → s.vm.Alike t.vm → post r u → B u t → H.size ≤ H1.size → (∀ q : Nat, q < H.size → ¬ A1 q → H1[q]? = H[q]?) → va_S A0 H0 H1 locs1 → W p l e R s m args below meth c H1 locs1 (cells + mc) (slots + ms) Q (F0 m (pc + 3) ls (.int r :: rest))) : W p l e R s m args below meth c H locs cells slots Q (F0 m pc ls st0) := by
  intro T hT X
  rcases hr T hT X with ⟨v, st₀, t, T', L, h0, X', hL, e1, e2, ⟨⟨r, u, hv, hp, hb⟩, hF⟩, st⟩ | ⟨q, st₀, t, T', L, E, ce, h0, X', hL, e1, e2, ⟨u, hp, hb, hF⟩, hce, hcv, hcl, st⟩
  · cases hv
    obtain ⟨k1, k2, k3⟩ := vx_keep h0 e1 hS hA hf hL hF
    obtain ⟨t2, a1, b1⟩ := kk r u t T'.heap (locs ++ L) e1.symm (by rw [← e2]; exact X'.warmed.alike) hp hb k1 k2 k3 T' rfl X'
    exact ⟨t2, st t2 a1, b1⟩
  · obtain ⟨k1, k2, k3⟩ := vx_keep h0 e1 hS hAX hf hL hF
    obtain ⟨t2, a1, b1⟩ := kx E ce q u t T'.heap (locs ++ L) e1.symm (by rw [← e2]; exact X'.warmed.alike) hp hb k1 k2 k3 (by rw [e1]; exact hce) hcv hcl T' rfl X'
    exact ⟨t2, st.trans a1, b1⟩
theorem vx_calll {S SX : Type} {post : Int64 → S → Prop} {px : SX → Prop} {B : S → State → Prop} {BX : String → SX → State → Prop} {AX : Nat → Prop} (hr : vx_Run p l e R s m args below meth c H locs cells slots mc ms (F0 m pc ls st0) rest (va_Ql post B A1 a) (vx_X px BX AX) free) (hS : va_S A0 H0 H locs) (hA : ∀ q, q < H.size → A1 q → A0 q) (hf : ∀ q, free q → A0 q) (hAX : ∀ q, q < H.size → AX q → A0 q)
    (kx : ∀ (E : String) (ce : Cell) (q9 : Addr) (u : SX) (t : State) (H1 : Heap) (locs1 : List Loc), t.heap = H1 → s.vm.Alike t.vm → px u → BX E u t → H.size ≤ H1.size → (∀ q : Nat, q < H.size → ¬ AX q → H1[q]? = H[q]?) → va_S A0 H0 H1 locs1 → H1[q9]? = some ce → ce.vm = .none → s.vm.findClass E = some ce.cls → vx_W p l e R s m args below meth c H1 locs1 (cells + mc) (slots + ms) Q (F0 m pc ls rest) q9)
    (kk : ∀ (r : Int64) (u : S) (t : State) (H1 : Heap) (locs1 : List Loc), t.heap = H1 → s.vm.Alike t.vm → post r u → B u t → H.size ≤ H1.size → (∀ q : Nat, q < H.size → ¬ A1 q → H1[q]? = H[q]?) → va_S A0 H0 H1 locs1 → W p l e R s m args below meth c H1 locs1 (cells + mc) (slots + ms) Q (F0 m (pc + 3) ls (.long r :: rest))) : W p l e R s m args below meth c H locs cells slots Q (F0 m pc ls st0) := by
  intro T hT X
  rcases hr T hT X with ⟨v, st₀, t, T', L, h0, X', hL, e1, e2, ⟨⟨r, u, hv, hp, hb⟩, hF⟩, st⟩ | ⟨q, st₀, t, T', L, E, ce, h0, X', hL, e1, e2, ⟨u, hp, hb, hF⟩, hce, hcv, hcl, st⟩
  · cases hv
    obtain ⟨k1, k2, k3⟩ := vx_keep h0 e1 hS hA hf hL hF
    obtain ⟨t2, a1, b1⟩ := kk r u t T'.heap (locs ++ L) e1.symm (by rw [← e2]; exact X'.warmed.alike) hp hb k1 k2 k3 T' rfl X'
    exact ⟨t2, st t2 a1, b1⟩
  · obtain ⟨k1, k2, k3⟩ := vx_keep h0 e1 hS hAX hf hL hF
    obtain ⟨t2, a1, b1⟩ := kx E ce q u t T'.heap (locs ++ L) e1.symm (by rw [← e2]; exact X'.warmed.alike) hp hb k1 k2 k3 (by rw [e1]; exact hce) hcv hcl T' rfl X'
    exact ⟨t2, st.trans a1, b1⟩
theorem vx_callf {S SX : Type} {post : UInt32 → S → Prop} {px : SX → Prop} {B : S → State → Prop} {BX : String → SX → State → Prop} {AX : Nat → Prop} (hr : vx_Run p l e R s m args below meth c H locs cells slots mc ms (F0 m pc ls st0) rest (va_Qf post B A1 a) (vx_X px BX AX) free) (hS : va_S A0 H0 H locs) (hA : ∀ q, q < H.size → A1 q → A0 q) (hf : ∀ q, free q → A0 q) (hAX : ∀ q, q < H.size → AX q → A0 q)
    (kx : ∀ (E : String) (ce : Cell) (q9 : Addr) (u : SX) (t : State) (H1 : Heap) (locs1 : List Loc), t.heap = H1 → s.vm.Alike t.vm → px u → BX E u t → H.size ≤ H1.size → (∀ q : Nat, q < H.size → ¬ AX q → H1[q]? = H[q]?) → va_S A0 H0 H1 locs1 → H1[q9]? = some ce → ce.vm = .none → s.vm.findClass E = some ce.cls → vx_W p l e R s m args below meth c H1 locs1 (cells + mc) (slots + ms) Q (F0 m pc ls rest) q9)
    (kk : ∀ (r : UInt32) (u : S) (t : State) (H1 : Heap) (locs1 : List Loc), t.heap = H1 → s.vm.Alike t.vm → post r u → B u t → H.size ≤ H1.size → (∀ q : Nat, q < H.size → ¬ A1 q → H1[q]? = H[q]?) → va_S A0 H0 H1 locs1 → W p l e R s m args below meth c H1 locs1 (cells + mc) (slots + ms) Q (F0 m (pc + 3) ls (.float r :: rest))) : W p l e R s m args below meth c H locs cells slots Q (F0 m pc ls st0) := by
  intro T hT X
  rcases hr T hT X with ⟨v, st₀, t, T', L, h0, X', hL, e1, e2, ⟨⟨r, u, hv, hp, hb⟩, hF⟩, st⟩ | ⟨q, st₀, t, T', L, E, ce, h0, X', hL, e1, e2, ⟨u, hp, hb, hF⟩, hce, hcv, hcl, st⟩
  · cases hv
    obtain ⟨k1, k2, k3⟩ := vx_keep h0 e1 hS hA hf hL hF
    obtain ⟨t2, a1, b1⟩ := kk r u t T'.heap (locs ++ L) e1.symm (by rw [← e2]; exact X'.warmed.alike) hp hb k1 k2 k3 T' rfl X'
    exact ⟨t2, st t2 a1, b1⟩
  · obtain ⟨k1, k2, k3⟩ := vx_keep h0 e1 hS hAX hf hL hF
    obtain ⟨t2, a1, b1⟩ := kx E ce q u t T'.heap (locs ++ L) e1.symm (by rw [← e2]; exact X'.warmed.alike) hp hb k1 k2 k3 (by rw [e1]; exact hce) hcv hcl T' rfl X'
    exact ⟨t2, st.trans a1, b1⟩
theorem vx_calld {S SX : Type} {post : UInt64 → S → Prop} {px : SX → Prop} {B : S → State → Prop} {BX : String → SX → State → Prop} {AX : Nat → Prop} (hr : vx_Run p l e R s m args below meth c H locs cells slots mc ms (F0 m pc ls st0) rest (va_Qd post B A1 a) (vx_X px BX AX) free) (hS : va_S A0 H0 H locs) (hA : ∀ q, q < H.size → A1 q → A0 q) (hf : ∀ q, free q → A0 q) (hAX : ∀ q, q < H.size → AX q → A0 q)
    (kx : ∀ (E : String) (ce : Cell) (q9 : Addr) (u : SX) (t : State) (H1 : Heap) (locs1 : List Loc), t.heap = H1 → s.vm.Alike t.vm → px u → BX E u t → H.size ≤ H1.size → (∀ q : Nat, q < H.size → ¬ AX q → H1[q]? = H[q]?) → va_S A0 H0 H1 locs1 → H1[q9]? = some ce → ce.vm = .none → s.vm.findClass E = some ce.cls → vx_W p l e R s m args below meth c H1 locs1 (cells + mc) (slots + ms) Q (F0 m pc ls rest) q9)
    (kk : ∀ (r : UInt64) (u : S) (t : State) (H1 : Heap) (locs1 : List Loc), t.heap = H1 → s.vm.Alike t.vm → post r u → B u t → H.size ≤ H1.size → (∀ q : Nat, q < H.size → ¬ A1 q → H1[q]? = H[q]?) → va_S A0 H0 H1 locs1 → W p l e R s m args below meth c H1 locs1 (cells + mc) (slots + ms) Q (F0 m (pc + 3) ls (.double r :: rest))) : W p l e R s m args below meth c H locs cells slots Q (F0 m pc ls st0) := by
  intro T hT X
  rcases hr T hT X with ⟨v, st₀, t, T', L, h0, X', hL, e1, e2, ⟨⟨r, u, hv, hp, hb⟩, hF⟩, st⟩ | ⟨q, st₀, t, T', L, E, ce, h0, X', hL, e1, e2, ⟨u, hp, hb, hF⟩, hce, hcv, hcl, st⟩
  · cases hv
    obtain ⟨k1, k2, k3⟩ := vx_keep h0 e1 hS hA hf hL hF
    obtain ⟨t2, a1, b1⟩ := kk r u t T'.heap (locs ++ L) e1.symm (by rw [← e2]; exact X'.warmed.alike) hp hb k1 k2 k3 T' rfl X'
    exact ⟨t2, st t2 a1, b1⟩
  · obtain ⟨k1, k2, k3⟩ := vx_keep h0 e1 hS hAX hf hL hF
    obtain ⟨t2, a1, b1⟩ := kx E ce q u t T'.heap (locs ++ L) e1.symm (by rw [← e2]; exact X'.warmed.alike) hp hb k1 k2 k3 (by rw [e1]; exact hce) hcv hcl T' rfl X'
    exact ⟨t2, st.trans a1, b1⟩
theorem vx_callv {S SX : Type} {post : S → Prop} {px : SX → Prop} {B : S → State → Prop} {BX : String → SX → State → Prop} {AX : Nat → Prop} (hr : vx_Run p l e R s m args below meth c H locs cells slots mc ms (F0 m pc ls st0) rest (va_Qv post B A1 a) (vx_X px BX AX) free) (hS : va_S A0 H0 H locs) (hA : ∀ q, q < H.size → A1 q → A0 q) (hf : ∀ q, free q → A0 q) (hAX : ∀ q, q < H.size → AX q → A0 q)
    (kx : ∀ (E : String) (ce : Cell) (q9 : Addr) (u : SX) (t : State) (H1 : Heap) (locs1 : List Loc), t.heap = H1 → s.vm.Alike t.vm → px u → BX E u t → H.size ≤ H1.size → (∀ q : Nat, q < H.size → ¬ AX q → H1[q]? = H[q]?) → va_S A0 H0 H1 locs1 → H1[q9]? = some ce → ce.vm = .none → s.vm.findClass E = some ce.cls → vx_W p l e R s m args below meth c H1 locs1 (cells + mc) (slots + ms) Q (F0 m pc ls rest) q9)
    (kk : ∀ (u : S) (t : State) (H1 : Heap) (locs1 : List Loc), t.heap = H1 → s.vm.Alike t.vm → post u → B u t → H.size ≤ H1.size → (∀ q : Nat, q < H.size → ¬ A1 q → H1[q]? = H[q]?) → va_S A0 H0 H1 locs1 → W p l e R s m args below meth c H1 locs1 (cells + mc) (slots + ms) Q (F0 m (pc + 3) ls (rest))) : W p l e R s m args below meth c H locs cells slots Q (F0 m pc ls st0) := by
  intro T hT X
  rcases hr T hT X with ⟨v, st₀, t, T', L, h0, X', hL, e1, e2, ⟨⟨u, hv, hp, hb⟩, hF⟩, st⟩ | ⟨q, st₀, t, T', L, E, ce, h0, X', hL, e1, e2, ⟨u, hp, hb, hF⟩, hce, hcv, hcl, st⟩
  · cases hv
    obtain ⟨k1, k2, k3⟩ := vx_keep h0 e1 hS hA hf hL hF
    obtain ⟨t2, a1, b1⟩ := kk u t T'.heap (locs ++ L) e1.symm (by rw [← e2]; exact X'.warmed.alike) hp hb k1 k2 k3 T' rfl X'
    exact ⟨t2, st t2 a1, b1⟩
  · obtain ⟨k1, k2, k3⟩ := vx_keep h0 e1 hS hAX hf hL hF
    obtain ⟨t2, a1, b1⟩ := kx E ce q u t T'.heap (locs ++ L) e1.symm (by rw [← e2]; exact X'.warmed.alike) hp hb k1 k2 k3 (by rw [e1]; exact hce) hcv hcl T' rfl X'
    exact ⟨t2, st.trans a1, b1⟩
/-- caught by the row x of this method's table; the rows ahead don't take it -/
theorem vx_catch {own name : String} {E : String} {ce : Cell} {q : Addr} (hown : s.vm.findClass own = some m.cls) (pre : List ExceptionTableEntry) (x : ExceptionTableEntry) (suf : List ExceptionTableEntry) (hsplit : c.exceptionTable.toList = pre ++ x :: suf)
    (hpass : ∀ z ∈ pre, covers z pc = false ∨ (z.catchType ≠ 0 ∧ ∃ nm : String, (Cond.classLink own z.catchType nm).before args s = true ∧ va_Nc E nm s)) (hx : covers x pc = true) (h0 : x.catchType ≠ 0)
    (hlink : (Cond.classLink own x.catchType name).before args s = true) (hcast : (Cond.castable E name).before args s = true) (hcell : H[q]? = some ce) (hv : ce.vm = .none) (hcl : s.vm.findClass E = some ce.cls)
    (kk : W p l e R s m args below meth c H locs cells slots Q (F0 m x.handlerPc ls [.ref q])) : vx_W p l e R s m args below meth c H locs cells slots Q (F0 m pc ls rest) q := by
  intro T hT X
  have hpl : e.platform.magicAccessors = ({} : Platform).magicAccessors := by rw [X.admits.platform]
  obtain ⟨c3, c4, hc3, hc4, hasg⟩ := Cond.castable_spec hcast
  cases Option.some.inj (hc3.symm.trans hcl)
  obtain ⟨c5, hc5, hcl5⟩ := Cond.classLink_spec hown hlink e.platform hpl
  cases Option.some.inj (hc4.symm.trans hc5)
  obtain ⟨vm', X', st⟩ := X.thenCaughtThrough q (g := F0 m pc ls rest) rfl (Steps.refl _) (by rw [hT]; exact hcell) (by rw [hv]; rfl) (by obtain ⟨k9, h9, -⟩ := Vm.findClass_spec hcl; exact ⟨k9, h9⟩) pre x suf hsplit
    (fun z hz => by
      rcases hpass z hz with h | ⟨hz0, nm, hl1, hn1⟩
      · exact Or.inl h
      · obtain ⟨c6, hc6, hcl6⟩ := Cond.classLink_spec hown hl1 e.platform hpl
        obtain ⟨a8, b8, h1, h2, h3⟩ := hn1
        cases Option.some.inj (h1.symm.trans hcl)
        cases Option.some.inj (h2.symm.trans hc6)
        exact Or.inr ⟨hz0, _, hcl6, h3⟩) hx (Or.inr ⟨h0, c4, hcl5, hasg⟩)
  obtain ⟨t, a1, b1⟩ := kk (T.setVm vm') hT X'
  exact ⟨t, st.trans a1, b1⟩
end Rows
section Ends
variable {p : Program} {l : Launch} {e : Env} {R : Room} {s : State} {m : MethodId} {args : Array Value} {below : List Frame} {meth : Method} {c : Code} {H : Heap} {locs : List Loc} {cells slots : Nat} {Q : State → Prop}
variable {mc ms : Nat} {free : Addr → Prop} {A0 A1 : Nat → Prop} {H0 : Heap} {a : Array Value} {ls : Array Slot} {st0 rest : List Value}
variable {Qc : Array Value → State → Outcome → State → Prop} {XC : String → State → State → Prop}
/-- what a body that may throw owes at its end -/
def vx_MQ (below : List Frame) (Qc : Array Value → State → Outcome → State → Prop) (XC : String → State → State → Prop) (a : Array Value) (s : State) (mc ms : Nat) (free : Addr → Prop) : State → Prop := fun t =>
  ∃ o, t.status = .running ∧ Ended t below o ∧ vx_Q Qc XC mc ms free a s o t
theorem vx_ret {g : JFrame} {mc ms : Nat} (k : W p l e R s m args below meth c H locs cells slots (MQ below Qc args s mc ms free) g) : W p l e R s m args below meth c H locs cells slots (vx_MQ below Qc XC args s mc ms free) g := by
  intro T hT X
  obtain ⟨t, a1, o, b1, b2, b3, b4⟩ := k T hT X
  exact ⟨t, a1, o, b1, b2, Or.inl ⟨b3, b4⟩⟩
/-- not caught here: it goes on to the caller -/
theorem vx_widen {g : JFrame} {q : Addr} {k n : Nat} (h1 : cells ≤ k) (h2 : slots ≤ n) (kk : vx_W p l e R s m args below meth c H locs k n Q g q) : vx_W p l e R s m args below meth c H locs cells slots Q g q := fun T hT X => kk T hT (stand_widen X h1 h2)
theorem vx_out {pc : Nat} {E : String} {ce : Cell} {q : Addr} {mc ms : Nat} (hout : ∀ x ∈ c.exceptionTable.toList, covers x pc = false) (hlocks : meth.locks = false) (hcell : H[q]? = some ce) (hv : ce.vm = .none) (hcl : s.vm.findClass E = some ce.cls)
    (hx : ∀ t : State, t.heap = H → s.vm.Alike t.vm → XC E s t) (hf : ∀ z ∈ locs, free z.base) (hc : cells ≤ mc) (hs : slots ≤ ms) :
    vx_W p l e R s m args below meth c H locs cells slots (vx_MQ below Qc XC args s mc ms free) (F0 m pc ls rest) q := by
  intro T hT X
  obtain ⟨st1, hrun, hend, hW, hsm⟩ := X.leaveThrown q (g := F0 m pc ls rest) rfl rfl rfl hout hlocks
  have hcell9 : (T.setFrames (.throwing q :: below)).heap[q]? = some ce := by
    show T.heap[q]? = some ce
    rw [hT]; exact hcell
  exact ⟨_, st1, .threw q, hrun, hend, Or.inr ⟨q, rfl, E, ce, locs, hx _ hT hW.alike, hcell9, hv, hcl, hW, hsm.mono hc hs, hf⟩⟩
theorem vx_frame {U : State} {k n : Nat} (h : s.sameButNew ({ U with vm := s.vm } : State) locs k n) : s.heap.size ≤ U.heap.size ∧ ∀ q : Nat, q < s.heap.size → (∀ z ∈ locs, z.base ≠ q) → U.heap[q]? = s.heap[q]? := by
  obtain ⟨-, h2, -, -, -, h6⟩ := h
  refine ⟨h2, fun q hq hz => ?_⟩
  obtain ⟨c9, e1, e2, e3, e4⟩ := h6 q _ (Array.getElem?_eq_getElem hq)
  have hs : c9.slots = (s.heap[q]).slots := Array.ext_getElem? fun i => e4 i fun hm => hz _ hm rfl
  have h9 : c9 = s.heap[q] := by
    rw [hs] at e2
    exact e2
  have e5 : U.heap[q]? = some c9 := e1
  rw [e5, h9, Array.getElem?_eq_getElem hq]
/-- the words of a throw but the four that speak of the heap -/
def vx_no (w : Cond) : Bool := decide (w ≠ .isRef (.static Bundle.tN "UNASSIGNED_STACK" Bundle.steD)) && decide (w ≠ .isRef (.static Bundle.tN "SUPPRESSED_SENTINEL" Bundle.listD)) && decide (w ≠ .laysStatic Bundle.tN "UNASSIGNED_STACK" Bundle.steD) && decide (w ≠ .laysStatic Bundle.tN "SUPPRESSED_SENTINEL" Bundle.listD)
def vx_at0 (own : String) (ic : Nat) (X : String) (names : List String) : List Cond := (Bundle.ownAtoms0 own ic X names).filter vx_no
def vx_atS (own : String) (ic : Nat) (X : String) (names : List String) : List Cond := (Bundle.ownAtoms own ic X names).filter vx_no
/-- a word that the tables alone decide, or a good one -/
def vx_ot (w : Cond) : Bool := w.onTables || goodWord w
theorem vx_ot_at {args a' : Array Value} {s U : State} {w : Cond} (hW : s.WarmedH U.vm) (hvm : s.vm = U.vm) (hg : vx_ot w = true) (h : w.before args s = true) : w.before a' U = true := by
  simp only [vx_ot, Bool.or_eq_true] at hg
  rcases hg with hg | hg
  · exact va_tabs hg hvm h
  · exact word_at hW (good_of_word hg) h
/-- a list's words: the good ones out of the method's own list, the others by premises of their own -/
theorem vx_hat {args : Array Value} {s : State} {L B : List Cond} (h1 : ∀ w ∈ L.filter goodWord, w.before args s = true) (h2 : ∀ w ∈ L.filter (fun w => !goodWord w), w ∈ B) (h3 : ∀ w ∈ B, w.before args s = true) : ∀ w ∈ L, w.before args s = true := by
  intro w hw
  by_cases g : goodWord w = true
  · exact h1 w (List.mem_filter.mpr ⟨hw, g⟩)
  · refine h3 w (h2 w (List.mem_filter.mpr ⟨hw, ?_⟩))
    show (!goodWord w) = true
    cases hgw : goodWord w
    · rfl
    · exact absurd hgw g
theorem vx_c {args : Array Value} {s : State} {w : Cond} {B : List Cond} (h : w.before args s = true) (t : ∀ w ∈ B, w.before args s = true) : ∀ w' ∈ w :: B, w'.before args s = true := fun w' h' => (List.mem_cons.mp h').elim (fun e => by rw [e]; exact h) (t w')
theorem vx_n {args : Array Value} {s : State} : ∀ w ∈ ([] : List Cond), w.before args s = true := fun _ h => nomatch h
theorem vx_own {args : Array Value} {s : State} {L : List Cond} (h1 : ∀ w ∈ L.filter vx_no, w.before args s = true)
    (hU : (Cond.isRef (.static Bundle.tN "UNASSIGNED_STACK" Bundle.steD)).before args s = true) (hN : (Cond.isRef (.static Bundle.tN "SUPPRESSED_SENTINEL" Bundle.listD)).before args s = true)
    (lU : (Cond.laysStatic Bundle.tN "UNASSIGNED_STACK" Bundle.steD).before args s = true) (lN : (Cond.laysStatic Bundle.tN "SUPPRESSED_SENTINEL" Bundle.listD).before args s = true) : ∀ w ∈ L, w.before args s = true := by
  intro w hw
  by_cases e1 : w = .isRef (.static Bundle.tN "UNASSIGNED_STACK" Bundle.steD)
  · rw [e1]; exact hU
  · by_cases e2 : w = .isRef (.static Bundle.tN "SUPPRESSED_SENTINEL" Bundle.listD)
    · rw [e2]; exact hN
    · by_cases e3 : w = .laysStatic Bundle.tN "UNASSIGNED_STACK" Bundle.steD
      · rw [e3]; exact lU
      · by_cases e4 : w = .laysStatic Bundle.tN "SUPPRESSED_SENTINEL" Bundle.listD
        · rw [e4]; exact lN
        · exact h1 w (List.mem_filter.mpr ⟨hw, by unfold vx_no; rw [decide_eq_true e1, decide_eq_true e2, decide_eq_true e3, decide_eq_true e4]; rfl⟩)
/-- where a static field lies, its class's statics cell in H -/
def vx_L (C n d : String) (A : Nat → Prop) (U : State) (H : Heap) : Prop := ∃ (c : ClassId) (k : Class) (i : Nat) (f : Field) (a : Nat) (cell : Cell), U.vm.findClass C = some c ∧ U.fieldFound? C n d = some (c, k, i, f) ∧ f.isStatic = true ∧ k.statics = some a ∧ H[a]? = some cell ∧ cell.vm.isStatics = true ∧ cell.cls = c ∧ f.slot < cell.slots.size ∧ k.staticTypes[f.slot]? = some f.type ∧ ¬ A a
theorem vx_L.moved {C n d : String} {A : Nat → Prop} {u U : State} {H : Heap} (hvm : u.vm.Alike U.vm) (h : vx_L C n d A u H) : vx_L C n d A U H := by
  obtain ⟨c, k, i, f, a, cell, h1, h2, h3, h4, h5, h6, h7, h8, h9, h10⟩ := h
  obtain ⟨k', hi', he⟩ := State.fieldFound?_setVm hvm h2
  exact ⟨c, k', i, f, a, cell, by rw [hvm.findClass]; exact h1, hi', h3, by rw [he]; exact h4, h5, h6, h7, h8, by rw [he]; exact h9, h10⟩
theorem vx_L.kept {C n d : String} {A : Nat → Prop} {U : State} {H H1 : Heap} (h : vx_L C n d A U H) (hq : ∀ a : Nat, a < H.size → ¬ A a → H1[a]? = H[a]?) : vx_L C n d A U H1 := by
  obtain ⟨c, k, i, f, a, cell, h1, h2, h3, h4, h5, h6, h7, h8, h9, h10⟩ := h
  exact ⟨c, k, i, f, a, cell, h1, h2, h3, h4, by rw [hq a (Array.getElem?_eq_some_iff.mp h5).1 h10]; exact h5, h6, h7, h8, h9, h10⟩
theorem vx_L.narrow {C n d : String} {A B : Nat → Prop} {U : State} {H : Heap} (h : vx_L C n d A U H) (hAB : ∀ q, B q → A q) : vx_L C n d B U H := by
  obtain ⟨c, k, i, f, a, cell, h1, h2, h3, h4, h5, h6, h7, h8, h9, h10⟩ := h
  exact ⟨c, k, i, f, a, cell, h1, h2, h3, h4, h5, h6, h7, h8, h9, fun z => h10 (hAB _ z)⟩
theorem vx_L.word {C n d : String} {A : Nat → Prop} {s : State} {args : Array Value} (h : vx_L C n d A s s.heap) : (Cond.laysStatic C n d).before args s = true := by
  obtain ⟨c, k, i, f, a, cell, h1, h2, h3, h4, h5, h6, h7, h8, h9, -⟩ := h
  show (Cond.laysStatic C n d).holds args s none s [] = true
  exact Cond.laysStatic_of h1 h2 h3 h4 h5 h6 h7 h8 h9
/-- .. and what it holds: null or some reference -/
def vx_Zq (C n d : String) (A : Nat → Prop) (U : State) (H : Heap) : Prop := va_Zq C n d A U H ∧ vx_L C n d A U H
theorem vx_Zq.moved {C n d : String} {A : Nat → Prop} {u U : State} {H : Heap} (hvm : u.vm.Alike U.vm) (h : vx_Zq C n d A u H) : vx_Zq C n d A U H := ⟨va_Zq.moved hvm h.1, vx_L.moved hvm h.2⟩
theorem vx_Zq.kept {C n d : String} {A : Nat → Prop} {U : State} {H H1 : Heap} (h : vx_Zq C n d A U H) (hq : ∀ a : Nat, a < H.size → ¬ A a → H1[a]? = H[a]?) : vx_Zq C n d A U H1 := ⟨va_Zq.kept h.1 hq, vx_L.kept h.2 hq⟩
theorem vx_Zq.narrow {C n d : String} {A B : Nat → Prop} {U : State} {H : Heap} (h : vx_Zq C n d A U H) (hAB : ∀ q, B q → A q) : vx_Zq C n d B U H := ⟨va_Zq.narrow h.1 hAB, vx_L.narrow h.2 hAB⟩
theorem vx_Zqof {args : Array Value} {s : State} {C n d : String} {A : Nat → Prop} (hl : (Cond.laysStatic C n d).before args s = true) (hini : (Cond.initialized C).before args s = true) (h : (Cond.isRef (.static C n d)).before args s = true) (hA : ∀ a : Nat, a < s.heap.size → ¬ A a) : vx_Zq C n d A s s.heap := by
  refine ⟨va_Zqof hl hini h hA, ?_⟩
  obtain ⟨c, k, i, f, a, cell, h1, h2, h3, h4, h5, h6, h7, h8, h9⟩ := Cond.laysStatic_spec hl
  exact ⟨c, k, i, f, a, cell, h1, h2, h3, h4, h5, h6, h7, h8, h9, hA a (Array.getElem?_eq_some_iff.mp h5).1⟩
theorem vx_isRef {C n d : String} {v : Value} {A : Nat → Prop} {s : State} {args : Array Value} (h : va_Z C n d v A s s.heap) (hv : v.isRef = true) : (Cond.isRef (.static C n d)).before args s = true := by
  obtain ⟨cf, kf, fi, f, a, cell, h1, h2, h3, h4, h5, h6, h7, -⟩ := h
  have he : (Term.static C n d).eval args s none [] s = some v := by
    simp [Term.eval, State.fieldNamed?, h1, h2, h4, h5, h6, h7]
  simp only [Cond.before, Cond.holds, Cond.value, he]
  cases v <;> simp_all [Value.isRef]
theorem vx_isRefq {C n d : String} {A : Nat → Prop} {s : State} {args : Array Value} (h : va_Zq C n d A s s.heap) : (Cond.isRef (.static C n d)).before args s = true := by
  rcases h with h | ⟨t, h⟩
  · exact vx_isRef h rfl
  · exact vx_isRef h rfl
/-- the same frame, seen from here: as if the method were called anew in this heap -/
theorem vx_rebase {T : State} (X : Stand p l e R s m args below meth c T locs cells slots) {R' : Room} (hf : R'.frames ≤ R.frames) (hl : R'.locals ≤ R.locals) (hc : cells + R'.cells ≤ R.cells) (hs : slots + R'.slots ≤ R.slots) :
    Stand p l e R' ((T.setVm s.vm).setFrames (.invoking m args :: below)) m args below meth c T [] 0 0 := by
  have htop : (T.setVm s.vm).topJava?.isSome := X.here.top
  have hF : ((T.setVm s.vm).setFrames (.invoking m args :: below)).frames = .invoking m args :: below := State.frames_setFrames _ (State.cur_lt_of_top htop)
  obtain ⟨g₀, hg0⟩ := Option.isSome_iff_exists.mp htop
  obtain ⟨r, hr⟩ := State.topJava?_eq_some.mp hg0
  have hl9 : e.platform.stackLimits (T.setVm s.vm).me = e.platform.stackLimits s.me := X.limits
  have hb9 : (T.setVm s.vm).me.stackBytes = s.me.stackBytes := X.bytes
  refine ⟨X.admits, X.cas, X.clock, hF, ?_, X.hears, X.method, X.code, X.here, X.tail, X.warmed, ?_, ?_, ?_⟩
  · have h := X.room
    have hU : ((T.setVm s.vm).setFrames (.invoking m args :: below)).localsInUse = s.localsInUse := by
      rw [State.localsInUse_invoking hF (meth := meth) (c := c) X.method X.code, State.localsInUse_invoking X.frames X.method X.code]
    simp only [State.hasRoom, Bool.and_eq_true, decide_eq_true_eq] at h ⊢
    obtain ⟨⟨⟨⟨h1, h2, h3, h4, h5, h6⟩, h7⟩, h8⟩, h9⟩ := h
    rw [X.frames, List.length_cons] at h2 h3
    have q1 := X.heapSize
    have q2 := X.used
    simp only [hF, hU, List.length_cons, State.stackLimits_setFrames, State.stackBytes_setFrames, hl9, hb9]
    refine ⟨⟨⟨⟨by omega, by omega, by omega, by omega, by omega, h6⟩, ?_⟩, ?_⟩, X.book⟩
    · show T.heap.size + R'.cells ≤ e.platform.maxCells
      omega
    · show T.slotsUsed + R'.slots ≤ e.platform.maxSlots
      omega
  · rw [State.stackLimits_setFrames]; rfl
  · rw [State.stackBytes_setFrames]; rfl
  · refine ⟨?_, Nat.le_refl _, Nat.le_refl _, ?_, ?_, fun a c9 h9 => ⟨c9, h9, rfl, rfl, fun _ _ => rfl⟩⟩
    · obtain ⟨t, ht, -⟩ := State.frames_cons hr
      show T.setVm s.vm = { ((T.setVm s.vm).setFrames (.invoking m args :: below)).setFrames (T.setVm s.vm).frames with heap := T.heap, slotsUsed := T.slotsUsed }
      rw [State.setFrames_setFrames, State.setFrames_self ht]
      rfl
    · show T.slotsUsed = T.slotsUsed + ((T.heap.toList.drop T.heap.size).map (·.slots.size)).sum
      rw [List.drop_eq_nil_of_le (Nat.le_of_eq Array.length_toList)]
      rfl
    · show ((T.heap.toList.drop T.heap.size).map (·.slots.size)).sum ≤ 0
      rw [List.drop_eq_nil_of_le (Nat.le_of_eq Array.length_toList)]
      exact Nat.le_refl _
/-- 'throw new E()': new; dup; invokespecial; athrow -/
theorem vx_throw0 {cc : ByteArray} {pc : Nat} (hexec : p.tables.exec = Jvm.exec) (hb : c.code = cc) (hl : l.stackTraces = false) {own cls : String} {names : List String} {ik ic mc ms : Nat} {A : Nat → Prop}
    (hown : s.vm.findClass own = some m.cls) (hcls : Bundle.fit cls = true) (hnames : ∀ n ∈ names, Bundle.fit n = true)
    (hk : (Cond.classLink own ik cls).before args s = true) (hini : (Cond.initialized cls).before args s = true) (hat : ∀ w ∈ vx_at0 own ic cls names, w.before args s = true)
    (hgood : ∀ w ∈ Cond.classLink own ik cls :: Cond.initialized cls :: vx_at0 own ic cls names, vx_ot w = true)
    (hU : vx_Zq Bundle.tN "UNASSIGNED_STACK" Bundle.steD A s s.heap) (hN : vx_Zq Bundle.tN "SUPPRESSED_SENTINEL" Bundle.listD A s s.heap) (hS : va_S A s.heap H locs) (hsize : ls.size = c.maxLocals)
    (d0 : decode cc pc = .ok (.new ik, 3)) (d3 : decode cc (pc + 3) = .ok (.dup, 1)) (d4 : decode cc (pc + 4) = .ok (.invokespecial ic, 3)) (d7 : decode cc (pc + 7) = .ok (.athrow, 1))
    (hout : ∀ x ∈ c.exceptionTable.toList, covers x (pc + 7) = false)
    (hRframes : names.length + 3 < R.frames) (hRlocals : (rest.map fun v => v.category).sum + (13 * (names.length + 1) + 42) ≤ R.locals) (hRcells : cells + 1 ≤ R.cells) (hRslots : slots + 6 ≤ R.slots) (hlocks : meth.locks = false)
    (hx : ∀ t : State, s.vm.Alike t.vm → H.size ≤ t.heap.size → (∀ q : Nat, q < H.size → t.heap[q]? = H[q]?) → XC cls s t)
    (hf : ∀ z ∈ locs, free z.base) (hc : cells + 1 ≤ mc) (hs : slots + 6 ≤ ms) :
    W p l e R s m args below meth c H locs cells slots (vx_MQ below Qc XC args s mc ms free) (F0 m pc ls rest) := by
  intro T hT X
  have htr : e.platform.stackTraces = false := (show e.platform.stackTraces = l.stackTraces by rw [X.admits.platform]).trans hl
  have Y := vx_rebase X (R' := { frames := R.frames, locals := R.locals, cells := 1, slots := 6 }) (Nat.le_refl _) (Nat.le_refl _) hRcells hRslots
  obtain ⟨s', hA⟩ : ∃ z, z = (T.setVm s.vm).setFrames (.invoking m args :: below) := ⟨_, rfl⟩
  rw [← hA] at Y
  have hvm : s'.vm = s.vm := by rw [hA]; rfl
  have hhp : s'.heap = H := by rw [hA]; exact hT
  have hW0 : s.WarmedH s'.vm := by rw [hvm]; exact State.WarmedH.refl s
  have hat' : ∀ w ∈ vx_at0 own ic cls names, w.before args s' = true := fun w hw => vx_ot_at hW0 hvm.symm (hgood w (List.mem_cons_of_mem _ (List.mem_cons_of_mem _ hw))) (hat w hw)
  have hk' : (Cond.classLink own ik cls).before args s' = true := vx_ot_at hW0 hvm.symm (hgood _ List.mem_cons_self) hk
  have hini' : (Cond.initialized cls).before args s' = true := vx_ot_at hW0 hvm.symm (hgood _ (List.mem_cons_of_mem _ List.mem_cons_self)) hini
  have hU' : vx_Zq Bundle.tN "UNASSIGNED_STACK" Bundle.steD A s' s'.heap := by rw [hhp]; exact vx_Zq.moved hW0.alike (hU.kept hS.2.1)
  have hN' : vx_Zq Bundle.tN "SUPPRESSED_SENTINEL" Bundle.listD A s' s'.heap := by rw [hhp]; exact vx_Zq.moved hW0.alike (hN.kept hS.2.1)
  have h : ∀ w ∈ Bundle.ownAtoms0 own ic cls names, w.before args s' = true := vx_own hat' (vx_isRefq hU'.1) (vx_isRefq hN'.1) hU'.2.word hN'.2.word
  have hown' : s'.vm.findClass own = some m.cls := by rw [hvm]; exact hown
  have hins : (Cond.instantiable cls 6).before args s' = true := h _ (by simp [Bundle.ownAtoms0])
  obtain ⟨vm₁, cX, kX, hfX, hkX, -, -, X₁, st1⟩ := Y.newCold hexec (own := own) (C := cls) (index := ik) (n := 6) hown' hk' hins hini'
    (g := F0 m pc ls rest) rfl (by rw [hb]; exact d0) (Nat.le_refl _) (Nat.le_refl _)
  generalize hT1 : (T.setVm vm₁).pushCell { cls := cX, slots := kX.instanceTypes.map defaultValue, vm := .none } = T1 at X₁ st1
  have hcat : (Value.ref T.heap.size).category = 1 := rfl
  have hcellA : T1.heap[T.heap.size]? = some (freshCell cX kX) := by rw [← hT1]; exact State.heap_pushCell_size _ _
  have d3' : decode c.code (pc + 3) = .ok (.dup, 1) := by rw [hb]; exact d3
  obtain ⟨U, hsteps, hrun, hend, hW, hsame, ce, hce, hO⟩ := X₁.ctorThrow0 hexec htr (own := own) (cls := cls) (names := names) (ic := ic) hown' hcls hnames h (fun x hx => nomatch hx) hfX hkX hcellA (by rw [hhp, hT]; exact Nat.le_refl _)
    (g := { method := m, pc := pc + 4, locals := ls, stack := .ref T.heap.size :: .ref T.heap.size :: rest, locked := none }) rfl hsize rfl rfl (rest := rest) rfl
    (by rw [hb]; exact d4) (by rw [hb]; exact d7) hout hRframes (by simp only [List.map_cons, List.sum_cons, hcat]; omega) hlocks
  obtain ⟨f1, f2⟩ := vx_frame hsame
  rw [hhp] at f1 f2
  have hWs : s.WarmedH U.vm := State.WarmedH.trans hW0 hW
  have hcl : s.vm.findClass cls = some ce.cls := by
    have h9 := hO.cls
    rw [hvm] at h9
    exact h9
  have hall : s.sameButNew ({ U with vm := s.vm } : State) locs mc ms := by
    subst hA
    obtain ⟨e1, e2⟩ := hsame
    rw [State.setFrames_setFrames] at e1
    have h2 : (T.setVm s.vm).sameButNew ({ U with vm := s.vm } : State) [] (0 + 1) (0 + 6) := ⟨e1, e2⟩
    have h3 := X.same.trans h2
    rw [List.append_nil] at h3
    exact h3.mono hc hs
  refine ⟨U, ?_, .threw T.heap.size, hrun, hend, Or.inr ⟨T.heap.size, rfl, cls, ce, locs, hx U hWs.alike f1 (fun q hq => f2 q hq (fun z hz => nomatch hz)), hce, hO.vm, hcl, hWs, hall, hf⟩⟩
  refine st1 _ ?_
  show Steps p.tables e below (T1.setTop { method := m, pc := pc + 3, locals := ls, stack := .ref T.heap.size :: rest, locked := none }) _
  jvm_step X₁.here [X₁.here.top, hexec, d3', Value.category]
  exact hsteps
/-- 'throw new E("text")': new; dup; ldc; invokespecial; athrow -/
theorem vx_throwS {cc : ByteArray} {pc : Nat} (hexec : p.tables.exec = Jvm.exec) (hb : c.code = cc) (hl : l.stackTraces = false) {own cls text : String} {names : List String} {ik is ic mc ms sa : Nat} {A : Nat → Prop}
    (hown : s.vm.findClass own = some m.cls) (hcls : Bundle.fit cls = true) (hnames : ∀ n ∈ names, Bundle.fit n = true)
    (hk : (Cond.classLink own ik cls).before args s = true) (hini : (Cond.initialized cls).before args s = true) (hstr : vk_R own is text sa s) (hat : ∀ w ∈ vx_atS own ic cls names, w.before args s = true)
    (hgood : ∀ w ∈ Cond.classLink own ik cls :: Cond.initialized cls :: vx_atS own ic cls names, vx_ot w = true)
    (hU : vx_Zq Bundle.tN "UNASSIGNED_STACK" Bundle.steD A s s.heap) (hN : vx_Zq Bundle.tN "SUPPRESSED_SENTINEL" Bundle.listD A s s.heap) (hS : va_S A s.heap H locs) (hsize : ls.size = c.maxLocals)
    (d0 : decode cc pc = .ok (.new ik, 3)) (d3 : decode cc (pc + 3) = .ok (.dup, 1)) (d4 : decode cc (pc + 4) = .ok (.ldc is, 2)) (d6 : decode cc (pc + 6) = .ok (.invokespecial ic, 3)) (d9 : decode cc (pc + 9) = .ok (.athrow, 1))
    (hout : ∀ x ∈ c.exceptionTable.toList, covers x (pc + 9) = false)
    (hRframes : names.length + 3 < R.frames) (hRlocals : (rest.map fun v => v.category).sum + (13 * (names.length + 1) + 43) ≤ R.locals) (hRcells : cells + 1 ≤ R.cells) (hRslots : slots + 6 ≤ R.slots) (hlocks : meth.locks = false)
    (hx : ∀ t : State, s.vm.Alike t.vm → H.size ≤ t.heap.size → (∀ q : Nat, q < H.size → t.heap[q]? = H[q]?) → XC cls s t)
    (hf : ∀ z ∈ locs, free z.base) (hc : cells + 1 ≤ mc) (hs : slots + 6 ≤ ms) :
    W p l e R s m args below meth c H locs cells slots (vx_MQ below Qc XC args s mc ms free) (F0 m pc ls rest) := by
  intro T hT X
  have htr : e.platform.stackTraces = false := (show e.platform.stackTraces = l.stackTraces by rw [X.admits.platform]).trans hl
  have Y := vx_rebase X (R' := { frames := R.frames, locals := R.locals, cells := 1, slots := 6 }) (Nat.le_refl _) (Nat.le_refl _) hRcells hRslots
  obtain ⟨s', hA⟩ : ∃ z, z = (T.setVm s.vm).setFrames (.invoking m args :: below) := ⟨_, rfl⟩
  rw [← hA] at Y
  have hvm : s'.vm = s.vm := by rw [hA]; rfl
  have hhp : s'.heap = H := by rw [hA]; exact hT
  have hW0 : s.WarmedH s'.vm := by rw [hvm]; exact State.WarmedH.refl s
  have hat' : ∀ w ∈ vx_atS own ic cls names, w.before args s' = true := fun w hw => vx_ot_at hW0 hvm.symm (hgood w (List.mem_cons_of_mem _ (List.mem_cons_of_mem _ hw))) (hat w hw)
  have hk' : (Cond.classLink own ik cls).before args s' = true := vx_ot_at hW0 hvm.symm (hgood _ List.mem_cons_self) hk
  have hini' : (Cond.initialized cls).before args s' = true := vx_ot_at hW0 hvm.symm (hgood _ (List.mem_cons_of_mem _ List.mem_cons_self)) hini
  have hU' : vx_Zq Bundle.tN "UNASSIGNED_STACK" Bundle.steD A s' s'.heap := by rw [hhp]; exact vx_Zq.moved hW0.alike (hU.kept hS.2.1)
  have hN' : vx_Zq Bundle.tN "SUPPRESSED_SENTINEL" Bundle.listD A s' s'.heap := by rw [hhp]; exact vx_Zq.moved hW0.alike (hN.kept hS.2.1)
  have h : ∀ w ∈ Bundle.ownAtoms own ic cls names, w.before args s' = true := vx_own hat' (vx_isRefq hU'.1) (vx_isRefq hN'.1) hU'.2.word hN'.2.word
  have hown' : s'.vm.findClass own = some m.cls := by rw [hvm]; exact hown
  have hins : (Cond.instantiable cls 6).before args s' = true := h _ (by simp [Bundle.ownAtoms])
  obtain ⟨vm₁, cX, kX, hfX, hkX, -, -, X₁, st1⟩ := Y.newCold hexec (own := own) (C := cls) (index := ik) (n := 6) hown' hk' hins hini'
    (g := F0 m pc ls rest) rfl (by rw [hb]; exact d0) (Nat.le_refl _) (Nat.le_refl _)
  generalize hT1 : (T.setVm vm₁).pushCell { cls := cX, slots := kX.instanceTypes.map defaultValue, vm := .none } = T1 at X₁ st1
  have hcat : (Value.ref T.heap.size).category = 1 := rfl
  have hcellA : T1.heap[T.heap.size]? = some (freshCell cX kX) := by rw [← hT1]; exact State.heap_pushCell_size _ _
  have d3' : decode c.code (pc + 3) = .ok (.dup, 1) := by rw [hb]; exact d3
  have d4' : decode c.code (pc + 4) = .ok (.ldc is, 2) := by rw [hb]; exact d4
  have hstr' : vk_R own is text sa s' := vk_R.warm hW0 hstr
  obtain ⟨U, hsteps, hrun, hend, hW, hsame, ce, hce, hO⟩ := X₁.ctorThrowS hexec htr (own := own) (cls := cls) (names := names) (ic := ic) hown' hcls hnames h (fun x hx => nomatch hx) hfX hkX hcellA (by rw [hhp, hT]; exact Nat.le_refl _) (msg := .ref sa) rfl
    (g := { method := m, pc := pc + 6, locals := ls, stack := .ref sa :: .ref T.heap.size :: .ref T.heap.size :: rest, locked := none }) rfl hsize rfl rfl (rest := rest) rfl
    (by rw [hb]; exact d6) (by rw [hb]; exact d9) hout hRframes (by simp only [List.map_cons, List.sum_cons, hcat]; omega) hlocks
  obtain ⟨f1, f2⟩ := vx_frame hsame
  rw [hhp] at f1 f2
  have hWs : s.WarmedH U.vm := State.WarmedH.trans hW0 hW
  have hcl : s.vm.findClass cls = some ce.cls := by
    have h9 := hO.cls
    rw [hvm] at h9
    exact h9
  have hall : s.sameButNew ({ U with vm := s.vm } : State) locs mc ms := by
    subst hA
    obtain ⟨e1, e2⟩ := hsame
    rw [State.setFrames_setFrames] at e1
    have h2 : (T.setVm s.vm).sameButNew ({ U with vm := s.vm } : State) [] (0 + 1) (0 + 6) := ⟨e1, e2⟩
    have h3 := X.same.trans h2
    rw [List.append_nil] at h3
    exact h3.mono hc hs
  refine ⟨U, ?_, .threw T.heap.size, hrun, hend, Or.inr ⟨T.heap.size, rfl, cls, ce, locs, hx U hWs.alike f1 (fun q hq => f2 q hq (fun z hz => nomatch hz)), hce, hO.vm, hcl, hWs, hall, hf⟩⟩
  refine st1 _ ?_
  show Steps p.tables e below (T1.setTop { method := m, pc := pc + 3, locals := ls, stack := .ref T.heap.size :: rest, locked := none }) _
  jvm_step X₁.here [X₁.here.top, hexec, d3', Value.category]
  exact X₁.ldcString hexec (own := own) (text := text) (index := is) (a := sa) hown' hstr'.1 hstr'.2
    (g := { method := m, pc := pc + 4, locals := ls, stack := .ref T.heap.size :: .ref T.heap.size :: rest, locked := none }) rfl d4' _ hsteps
/-- 'throw new E("text")', the text by a wide index -/
theorem vx_throwSW {cc : ByteArray} {pc : Nat} (hexec : p.tables.exec = Jvm.exec) (hb : c.code = cc) (hl : l.stackTraces = false) {own cls text : String} {names : List String} {ik is ic mc ms sa : Nat} {A : Nat → Prop}
    (hown : s.vm.findClass own = some m.cls) (hcls : Bundle.fit cls = true) (hnames : ∀ n ∈ names, Bundle.fit n = true)
    (hk : (Cond.classLink own ik cls).before args s = true) (hini : (Cond.initialized cls).before args s = true) (hstr : vk_R own is text sa s) (hat : ∀ w ∈ vx_atS own ic cls names, w.before args s = true)
    (hgood : ∀ w ∈ Cond.classLink own ik cls :: Cond.initialized cls :: vx_atS own ic cls names, vx_ot w = true)
    (hU : vx_Zq Bundle.tN "UNASSIGNED_STACK" Bundle.steD A s s.heap) (hN : vx_Zq Bundle.tN "SUPPRESSED_SENTINEL" Bundle.listD A s s.heap) (hS : va_S A s.heap H locs) (hsize : ls.size = c.maxLocals)
    (d0 : decode cc pc = .ok (.new ik, 3)) (d3 : decode cc (pc + 3) = .ok (.dup, 1)) (d4 : decode cc (pc + 4) = .ok (.ldc_w is, 3)) (d7 : decode cc (pc + 7) = .ok (.invokespecial ic, 3)) (d10 : decode cc (pc + 10) = .ok (.athrow, 1))
    (hout : ∀ x ∈ c.exceptionTable.toList, covers x (pc + 10) = false)
    (hRframes : names.length + 3 < R.frames) (hRlocals : (rest.map fun v => v.category).sum + (13 * (names.length + 1) + 43) ≤ R.locals) (hRcells : cells + 1 ≤ R.cells) (hRslots : slots + 6 ≤ R.slots) (hlocks : meth.locks = false)
    (hx : ∀ t : State, s.vm.Alike t.vm → H.size ≤ t.heap.size → (∀ q : Nat, q < H.size → t.heap[q]? = H[q]?) → XC cls s t)
    (hf : ∀ z ∈ locs, free z.base) (hc : cells + 1 ≤ mc) (hs : slots + 6 ≤ ms) :
    W p l e R s m args below meth c H locs cells slots (vx_MQ below Qc XC args s mc ms free) (F0 m pc ls rest) := by
  intro T hT X
  have htr : e.platform.stackTraces = false := (show e.platform.stackTraces = l.stackTraces by rw [X.admits.platform]).trans hl
  have Y := vx_rebase X (R' := { frames := R.frames, locals := R.locals, cells := 1, slots := 6 }) (Nat.le_refl _) (Nat.le_refl _) hRcells hRslots
  obtain ⟨s', hA⟩ : ∃ z, z = (T.setVm s.vm).setFrames (.invoking m args :: below) := ⟨_, rfl⟩
  rw [← hA] at Y
  have hvm : s'.vm = s.vm := by rw [hA]; rfl
  have hhp : s'.heap = H := by rw [hA]; exact hT
  have hW0 : s.WarmedH s'.vm := by rw [hvm]; exact State.WarmedH.refl s
  have hat' : ∀ w ∈ vx_atS own ic cls names, w.before args s' = true := fun w hw => vx_ot_at hW0 hvm.symm (hgood w (List.mem_cons_of_mem _ (List.mem_cons_of_mem _ hw))) (hat w hw)
  have hk' : (Cond.classLink own ik cls).before args s' = true := vx_ot_at hW0 hvm.symm (hgood _ List.mem_cons_self) hk
  have hini' : (Cond.initialized cls).before args s' = true := vx_ot_at hW0 hvm.symm (hgood _ (List.mem_cons_of_mem _ List.mem_cons_self)) hini
  have hU' : vx_Zq Bundle.tN "UNASSIGNED_STACK" Bundle.steD A s' s'.heap := by rw [hhp]; exact vx_Zq.moved hW0.alike (hU.kept hS.2.1)
  have hN' : vx_Zq Bundle.tN "SUPPRESSED_SENTINEL" Bundle.listD A s' s'.heap := by rw [hhp]; exact vx_Zq.moved hW0.alike (hN.kept hS.2.1)
  have h : ∀ w ∈ Bundle.ownAtoms own ic cls names, w.before args s' = true := vx_own hat' (vx_isRefq hU'.1) (vx_isRefq hN'.1) hU'.2.word hN'.2.word
  have hown' : s'.vm.findClass own = some m.cls := by rw [hvm]; exact hown
  have hins : (Cond.instantiable cls 6).before args s' = true := h _ (by simp [Bundle.ownAtoms])
  obtain ⟨vm₁, cX, kX, hfX, hkX, -, -, X₁, st1⟩ := Y.newCold hexec (own := own) (C := cls) (index := ik) (n := 6) hown' hk' hins hini'
    (g := F0 m pc ls rest) rfl (by rw [hb]; exact d0) (Nat.le_refl _) (Nat.le_refl _)
  generalize hT1 : (T.setVm vm₁).pushCell { cls := cX, slots := kX.instanceTypes.map defaultValue, vm := .none } = T1 at X₁ st1
  have hcat : (Value.ref T.heap.size).category = 1 := rfl
  have hcellA : T1.heap[T.heap.size]? = some (freshCell cX kX) := by rw [← hT1]; exact State.heap_pushCell_size _ _
  have d3' : decode c.code (pc + 3) = .ok (.dup, 1) := by rw [hb]; exact d3
  have d4' : decode c.code (pc + 4) = .ok (.ldc_w is, 3) := by rw [hb]; exact d4
  have hstr' : vk_R own is text sa s' := vk_R.warm hW0 hstr
  obtain ⟨U, hsteps, hrun, hend, hW, hsame, ce, hce, hO⟩ := X₁.ctorThrowS hexec htr (own := own) (cls := cls) (names := names) (ic := ic) hown' hcls hnames h (fun x hx => nomatch hx) hfX hkX hcellA (by rw [hhp, hT]; exact Nat.le_refl _) (msg := .ref sa) rfl
    (g := { method := m, pc := pc + 7, locals := ls, stack := .ref sa :: .ref T.heap.size :: .ref T.heap.size :: rest, locked := none }) rfl hsize rfl rfl (rest := rest) rfl
    (by rw [hb]; exact d7) (by rw [hb]; exact d10) hout hRframes (by simp only [List.map_cons, List.sum_cons, hcat]; omega) hlocks
  obtain ⟨f1, f2⟩ := vx_frame hsame
  rw [hhp] at f1 f2
  have hWs : s.WarmedH U.vm := State.WarmedH.trans hW0 hW
  have hcl : s.vm.findClass cls = some ce.cls := by
    have h9 := hO.cls
    rw [hvm] at h9
    exact h9
  have hall : s.sameButNew ({ U with vm := s.vm } : State) locs mc ms := by
    subst hA
    obtain ⟨e1, e2⟩ := hsame
    rw [State.setFrames_setFrames] at e1
    have h2 : (T.setVm s.vm).sameButNew ({ U with vm := s.vm } : State) [] (0 + 1) (0 + 6) := ⟨e1, e2⟩
    have h3 := X.same.trans h2
    rw [List.append_nil] at h3
    exact h3.mono hc hs
  refine ⟨U, ?_, .threw T.heap.size, hrun, hend, Or.inr ⟨T.heap.size, rfl, cls, ce, locs, hx U hWs.alike f1 (fun q hq => f2 q hq (fun z hz => nomatch hz)), hce, hO.vm, hcl, hWs, hall, hf⟩⟩
  refine st1 _ ?_
  show Steps p.tables e below (T1.setTop { method := m, pc := pc + 3, locals := ls, stack := .ref T.heap.size :: rest, locked := none }) _
  jvm_step X₁.here [X₁.here.top, hexec, d3', Value.category]
  exact X₁.ldcStringW hexec (own := own) (text := text) (index := is) (a := sa) hown' hstr'.1 hstr'.2
    (g := { method := m, pc := pc + 4, locals := ls, stack := .ref T.heap.size :: .ref T.heap.size :: rest, locked := none }) rfl d4' _ hsteps
end Ends
section Bodies
variable {l : Launch}
theorem vx_ofW {y : MethodName} {ws ws' : List Cond} {rm : Room} {Pc : Array Value → State → Prop} {Qc : Array Value → State → Outcome → State → Prop} {XC : String → State → State → Prop} {mc ms : Nat} {free : Addr → Prop} {cc : ByteArray} {maxL : Nat} {ret : Option FieldType}
    (hy : plainName y.cls = true) (hw : ws = Cond.code y cc maxL ret :: ws')
    (body : ∀ p e s m args below meth c s₁, BodyLoose p l y (headSpec ws rm) cc maxL ret e s m args below meth c s₁ → c.maxLocals = maxL → (∀ x ∈ c.exceptionTable.toList, False) → Pc args s →
      W p l e (headSpec ws rm).room s m args below meth c s.heap [] 0 0 (vx_MQ below Qc XC args s mc ms free) (entryFrame m args maxL)) : vx_Met l y ws rm Pc Qc XC mc ms free := by
  refine MetFree.of_bodyS (code := cc) (maxLocals := maxL) (ret := ret) hy ?_ ?_
  · intro args s m h hn
    obtain ⟨meth, c, h1, h2, h3, h4, h5, h6, -, -⟩ := Cond.code_spec hn (atoms_spec (ws := ws) h _ (by rw [hw]; exact List.mem_cons_self))
    exact ⟨meth, c, h1, h2, h3, h4, h5, h6⟩
  · intro p e s m args below meth c s₁ B hml hP _
    have hh0 : s₁.heap = s.heap := by rw [B.state]; rfl
    have ht : ∀ x ∈ c.exceptionTable.toList, False := by
      obtain ⟨meth9, c9, h1, h2, -, -, -, -, h7, -⟩ := Cond.code_spec B.named (atoms_spec (ws := ws) B.pre _ (by rw [hw]; exact List.mem_cons_self))
      cases Option.some.inj (h1.symm.trans B.method)
      cases Option.some.inj (h2.symm.trans (Stand.of_body B).code)
      intro x hx
      rw [Array.isEmpty_iff.mp h7] at hx
      cases hx
    obtain ⟨t, a1, o, b1, b2, b3⟩ := body p e s m args below meth c s₁ B hml ht hP s₁ hh0 (Stand.of_body B)
    exact ⟨t, o, a1, b1, b2, b3⟩
/-- the table of a body with handlers -/
theorem vx_table {p : Program} {x y : MethodName} {S : Spec} {cc bytes : ByteArray} {maxL maxL' : Nat} {ret ret' : Option FieldType} {e : Env} {s s₁ : State} {m : MethodId} {args : Array Value} {below : List Frame} {meth : Method} {c : Code} {hh : List (Nat × Nat × Nat × Nat)}
    (B : BodyLoose p l y S cc maxL ret e s m args below meth c s₁) (h : (Cond.codeWith y bytes maxL' ret' hh).before args s = true) : c.exceptionTable.toList = tableOf hh := by
  obtain ⟨m9, meth9, c9, hn9, h1, h2, -, -, h6, -⟩ := Cond.codeWith_spec h
  cases Option.some.inj (hn9.symm.trans B.named)
  cases Option.some.inj (h1.symm.trans B.method)
  cases Option.some.inj (h2.symm.trans (Stand.of_body B).code)
  rw [← h6, table_eq]
end Bodies
end VXA
/-! ===== END ===== -/
/-! ===== BEGIN a static call of a method with an exception table ===== -/
section VXS
variable {p : Program} {l : Launch} {e : Env} {R : Room} {s : State} {m : MethodId} {args : Array Value} {below : List Frame} {meth : Method} {c : Code} {T : State} {H : Heap} {locs : List Loc} {cells slots : Nat}
abbrev vx_CSW (R : Room) (s : State) (args : Array Value) (own : String) (index : Nat) (y : MethodName) (bytes : ByteArray) (maxL : Nat) (ret : Option FieldType) (hh : List (Nat × Nat × Nat × Nat)) (ws : List Cond) (rm : Room) (mc ms n : Nat) : Prop :=
  (rm.cells = mc ∧ rm.slots = ms ∧ rm.frames + 1 ≤ R.frames ∧ 8 + (maxL + 11) + rm.locals ≤ R.locals ∧ (∀ w ∈ ws, ∀ (a' : Array Value) (U : State), s.WarmedH U.vm → w.before a' U = true) ∧ Cond.codeWith y bytes maxL ret hh ∈ ws) ∧
  (Cond.codeWith y bytes maxL ret hh).before args s = true ∧ (Cond.initialized y.cls).before args s = true ∧ (y.cls ≠ "java/lang/invoke/MethodHandle" ∧ y.cls ≠ "java/lang/invoke/VarHandle") ∧
  (∀ sig, parseMethodDescriptor y.desc = some sig → n = sig.parameters.length) ∧ (Cond.methodLink own index y).before args s = true ∧ (Cond.static y).before args s = true
theorem vx_cwSW {own : String} {index maxL mc ms : Nat} {y : MethodName} {bytes : ByteArray} {ret : Option FieldType} {hh : List (Nat × Nat × Nat × Nat)} {Ts ws ws' : List Cond} {rm : Room} (n : Nat) (ht : ∀ w ∈ Ts, w.before args s = true) (hT : GoodIn Ts (va_wsS own index y ws)) (hw : ws = Cond.codeWith y bytes maxL ret hh :: ws') (hrc : rm.cells = mc) (hrs : rm.slots = ms)
    (hd : y.cls ≠ "java/lang/invoke/MethodHandle" ∧ y.cls ≠ "java/lang/invoke/VarHandle" ∧ (parseMethodDescriptor y.desc).map (fun d => d.parameters.length) = some n) (hR : rm.frames + 1 ≤ R.frames ∧ 8 + (maxL + 11) + rm.locals ≤ R.locals) :
    vx_CSW R s args own index y bytes maxL ret hh ws rm mc ms n := by
  have ok : ∀ w ∈ va_wsS own index y ws, w.before args s = true := fun w h => ht w (hT w h).1
  have hG : GoodIn Ts ws := fun w h => hT w (by unfold va_wsS; exact List.mem_append_right _ h)
  have hc : Cond.codeWith y bytes maxL ret hh ∈ ws := by rw [hw]; exact List.mem_cons_self
  refine ⟨⟨hrc, hrs, hR.1, hR.2, pay_in ht hG, hc⟩, ht _ (hG _ hc).1, ok _ (by simp [va_wsS]), ⟨hd.1, hd.2.1⟩, fun sig h => ?_, ok _ (by simp [va_wsS]), ok _ (by simp [va_wsS])⟩
  have h2 := hd.2.2
  rw [h] at h2
  exact (Option.some.inj h2).symm
theorem vx_callSW (X : Stand p l e R s m args below meth c T locs cells slots) (hexec : p.tables.exec = Jvm.exec) {own : String} {index : Nat} {y : MethodName} {bytes : ByteArray} {maxL : Nat} {ret : Option FieldType} {hh : List (Nat × Nat × Nat × Nat)}
    (hown : s.vm.findClass own = some m.cls) (hlink : (Cond.methodLink own index y).before args s = true) (hstat : (Cond.static y).before args s = true) (hinit : (Cond.initialized y.cls).before args s = true)
    (hcode : (Cond.codeWith y bytes maxL ret hh).before args s = true) (hy : y.cls ≠ "java/lang/invoke/MethodHandle" ∧ y.cls ≠ "java/lang/invoke/VarHandle")
    {W9 : Nat} {Pre : Pt → Array Value → Prop} {Post : Pt → Array Value → Option Value → Pt → Prop} (hK : Back l R p e below s args y 3 W9 Pre Post)
    {g : JFrame} (hg : g.method = m) (hsize : g.locals.size = c.maxLocals) {argsL rest : List Value} (hlen : ∀ sig, parseMethodDescriptor y.desc = some sig → argsL.length = sig.parameters.length)
    (hstack : g.stack = argsL.reverse ++ rest) (hW : 2 * g.monitorRoom + (rest.map fun v => v.category).sum ≤ W9) (hdg : decode c.code g.pc = .ok (.invokestatic index, 3))
    (hpre : ∀ vm₁, s.WarmedH vm₁ → Pre ⟨T.setVm vm₁, locs, cells, slots⟩ argsL.toArray) :
    ∃ (v : Option Value) (vm₁ : Vm) (B : Pt), s.WarmedH vm₁ ∧ Stand p l e R s m args below meth c B.U B.locs B.cells B.slots ∧ Post ⟨T.setVm vm₁, locs, cells, slots⟩ argsL.toArray v B ∧
      ∀ target, Steps p.tables e below (B.U.setTop { g with pc := g.pc + 3, stack := v.toList ++ rest }) target → Steps p.tables e below (T.setTop g) target := by
  obtain ⟨mk, methM, cM, hnamed, hmethM, -, -, -, -, -, -, hsigM⟩ := Cond.codeWith_spec hcode
  have hstatic : methM.isStatic = true := Cond.static_spec hnamed hmethM hstat
  obtain ⟨kP, hkP, -⟩ := className_of_methodNamed hnamed
  have hinitP : kP.init = .initialized := Cond.initialized_spec (findClass_of_methodNamed hnamed) hkP hinit
  obtain ⟨vm₁, X₁, hstep₁⟩ := X.invokestatic hexec hown hlink hnamed hmethM hstatic hkP hinitP hy (g := g) hg (argsL := argsL) (rest := rest) (hlen _ hsigM) hstack hdg
  obtain ⟨v, B, X', hpost, hsteps⟩ := hK m meth c ⟨T.setVm vm₁, locs, cells, slots⟩ { g with stack := rest } (.invokestatic index) mk argsL.toArray X₁ hg hsize hdg hW (X₁.named hnamed) (hpre vm₁ X₁.warmed)
  exact ⟨v, vm₁, B, X₁.warmed, X', hpost, fun target h => hstep₁ _ fun acts => by rw [doInvoke_state]; exact hsteps.trans h⟩
theorem vx_runSW {y : MethodName} {bytes cc : ByteArray} {maxL nL mc ms n index : Nat} {ret : Option FieldType} {hh : List (Nat × Nat × Nat × Nat)} {ws : List Cond} {rm : Room} {Pc : Array Value → State → Prop} {Qc : Array Value → State → Outcome → State → Prop} {free : Addr → Prop} {Ts : List Cond} {own : String} {As rest : List Value} {g : JFrame}
    (S : CallFix p m c cc nL s args Ts own) (hM : Met l y ws rm Pc Qc mc ms free) (cw : vx_CSW R s args own index y bytes maxL ret hh ws rm mc ms n) (hp : PreS s H Pc As)
    (hg : g.method = m) (hn : As.length = n) (hsize : g.locals.size = nL) (hstack : g.stack = As.reverse ++ rest) (hW : 2 * g.monitorRoom + (rest.map fun v => v.category).sum ≤ 8) (hdg : decode cc g.pc = .ok (.invokestatic index, 3)) (hf : cells + mc ≤ R.cells ∧ slots + ms ≤ R.slots) :
    va_Run p l e R s m args below meth c H locs cells slots mc ms g rest (Qc As.toArray) (free) := by
  obtain ⟨⟨hrc, hrs, hfr, hlo, hws, hcw⟩, hcode, hini, hy, hlen, hl, hstt⟩ := cw
  have hK : Back l R p e below s args y 3 8 (PreOf R mc ms Pc) (PostOf Qc mc ms free) := va_backW (hh := hh) (bytes := bytes) (maxL := maxL) (ret := ret) hM hp.1 hrc hrs hfr hlo hws hcw (fun a' U hW => word_at hW (Or.inl (by first | rfl | simp [Cond.onTables, Cond.keeps, Cond.steady])) hini)
  obtain ⟨hx, hb, hml, ho, -⟩ := S
  intro T hT X
  obtain ⟨v, vm₁, ⟨U', l2, c2, s2⟩, hW₁, X', ⟨g', mk, t, L, e1, e2, hq, h1, hL, h2, h3⟩, st⟩ := vx_callSW X hx (hh := hh) (bytes := bytes) (maxL := maxL) (ret := ret) ho hl hstt hini hcode hy hK hg (hsize.trans hml.symm) (argsL := As) (rest := rest) (fun sig h => hn.trans (hlen sig h)) hstack hW (by rw [hb]; exact hdg)
    (fun vm₁ hW₁ => ⟨hf.1, hf.2, hp.2 (T.setVm vm₁) hT hW₁⟩)
  dsimp only [Pt.U, Pt.locs, Pt.cells, Pt.slots] at X' e1 e2 h1 h2 h3 st
  subst h1; subst h2; subst h3
  exact ⟨v, (T.setVm vm₁).calling g' mk As.toArray, t, U', L, hT, X', hL, e1, e2, hq, st⟩
/-- not caught here, past rows that name other classes: it goes on to the caller -/
theorem vx_outP {p : Program} {l : Launch} {e : Env} {R : Room} {s : State} {m : MethodId} {args : Array Value} {below : List Frame} {meth : Method} {c : Code} {H : Heap} {locs : List Loc} {cells slots : Nat} {free : Addr → Prop} {ls : Array Slot} {rest : List Value} {Qc : Array Value → State → Outcome → State → Prop} {XC : String → State → State → Prop}
    {pc : Nat} {own E : String} {ce : Cell} {q : Addr} {mc ms : Nat} (hown : s.vm.findClass own = some m.cls) (hlocks : meth.locks = false)
    (hpass : ∀ z ∈ c.exceptionTable.toList, covers z pc = false ∨ (z.catchType ≠ 0 ∧ ∃ nm : String, (Cond.classLink own z.catchType nm).before args s = true ∧ va_Nc E nm s)) (hcell : H[q]? = some ce) (hv : ce.vm = .none) (hcl : s.vm.findClass E = some ce.cls)
    (hx : ∀ t : State, t.heap = H → s.vm.Alike t.vm → XC E s t) (hf : ∀ z ∈ locs, free z.base) (hc : cells ≤ mc) (hs : slots ≤ ms) :
    vx_W p l e R s m args below meth c H locs cells slots (vx_MQ below Qc XC args s mc ms free) (F0 m pc ls rest) q := by
  intro T hT X
  have hpl : e.platform.magicAccessors = ({} : Platform).magicAccessors := by rw [X.admits.platform]
  obtain ⟨vm', hW', X', st⟩ := X.outThrough hlocks q (g := F0 m pc ls rest) rfl rfl rfl (cell := ce) (by rw [hT]; exact hcell) (by rw [hv]; rfl)
    (by obtain ⟨k9, h9, -⟩ := Vm.findClass_spec hcl; exact ⟨k9, h9⟩) (fun z hz => by
      rcases hpass z hz with h | ⟨hz0, nm, hl1, hn1⟩
      · exact Or.inl h
      · obtain ⟨c6, hc6, hcl6⟩ := Cond.classLink_spec hown hl1 e.platform hpl
        obtain ⟨a8, b8, h1, h2, h3⟩ := hn1
        cases Option.some.inj (h1.symm.trans hcl)
        cases Option.some.inj (h2.symm.trans hc6)
        exact Or.inr ⟨hz0, _, hcl6, h3⟩)
  obtain ⟨g₀, hfr⟩ := X'.frames_eq
  have hcell9 : ((T.setVm vm').setFrames (.throwing q :: below)).heap[q]? = some ce := by
    show T.heap[q]? = some ce
    rw [hT]; exact hcell
  have hend : Ended ((T.setVm vm').setFrames (.throwing q :: below)) below (.threw q) := State.frames_setFrames _ (State.cur_lt_of_frames hfr)
  refine ⟨(T.setVm vm').setFrames (.throwing q :: below), ?_, .threw q, X'.here.running, hend, Or.inr ⟨q, rfl, E, ce, locs, hx _ hT (X'.ends _).1.alike, hcell9, hv, hcl, (X'.ends _).1, (X'.ends _).2.mono hc hs, hf⟩⟩
  rw [X.pushThrowing_eq]
  exact st
/-- a thing of a world lies in the heap -/
theorem vx_lt {D : va_G} {cl : List vw_C} {ws : va_W} {H1 : Heap} (h : va_P D cl ws H1) {k : Nat} {q : Nat × va_E} (hk : ws[k]? = some q) : q.1 < H1.size := (h k q hk).lt
end VXS
/-! ===== END ===== -/
/-! ===== BEGIN methods with a table of their own: called by a name, returning or throwing ===== -/
section VXH
/-! vx_backW, vx_callVX, vx_callSX, vx_callVW, vx_runVW, vx_runVX, vx_runSX, vx_ofWH follow the same proofs as their sisters above (Free/Laws.lean, Shelf42/LK1.lean); vx_outP calls Shelf42/NT130.lean (outThrough). -/
section
variable {l : Launch} {R : Room} {p : Program} {e : Env} {below : List Frame} {s : State} {sargs : Array Value} {y : MethodName} {len W9 : Nat}
theorem vx_backW {ws : List Cond} {rm : Room} {Pc : Array Value → State → Prop} {Qc : Array Value → State → Outcome → State → Prop} {XC : String → State → State → Prop} {mc ms : Nat} {free : Addr → Prop} {bytes : ByteArray} {maxL : Nat} {ret : Option FieldType} {hh : List (Nat × Nat × Nat × Nat)}
    (hM : vx_Met l y ws rm Pc Qc XC mc ms free) (hblind : FrameBlind Pc) (hrc : rm.cells = mc) (hrs : rm.slots = ms)
    (hframes : rm.frames + 1 ≤ R.frames) (hlocals : W9 + (maxL + 11) + rm.locals ≤ R.locals)
    (hws : ∀ w ∈ ws, ∀ a' U, s.WarmedH U.vm → w.before a' U = true) (hcode : Cond.codeWith y bytes maxL ret hh ∈ ws) (hinit : ∀ a' U, s.WarmedH U.vm → (Cond.initialized y.cls).before a' U = true) :
    vx_Back l R p e below s sargs y len W9 (PreOf R mc ms Pc) (PostOf Qc mc ms free) (vx_Post XC mc ms free) := by
  intro m meth c A g ig mk a X hg hsize hdg hW hn hp
  have h1 : (headSpec ws rm).pre.before a A.U = true := atoms_intro fun w hw => hws w hw _ _ X.warmed
  have h2 : (Cond.codeWith y bytes maxL ret hh).before a A.U = true := hws _ hcode _ _ X.warmed
  have h3 : (Cond.initialized y.cls).before a A.U = true := hinit _ _ X.warmed
  have h4 : A.cells + (headSpec ws rm).room.cells ≤ R.cells := by rw [show (headSpec ws rm).room.cells = mc from hrc]; exact hp.1
  have h5 : A.slots + (headSpec ws rm).room.slots ≤ R.slots := by rw [show (headSpec ws rm).room.slots = ms from hrs]; exact hp.2.1
  have hPc : Pc a (A.U.calling g mk a) := hblind _ _ _ _ hp.2.2
  obtain ⟨U, Ls, c0, s0⟩ := A
  dsimp only [Pt.U, Pt.locs, Pt.cells, Pt.slots] at h1 h2 h3 h4 h5 X hn hPc ⊢
  obtain ⟨m9, methY, cY, hn9, hmY, hcY, -, hlY, -⟩ := Cond.codeWith_spec h2
  cases Option.some.inj (hn9.symm.trans hn)
  obtain ⟨kY, hkY, -⟩ := className_of_methodNamed hn
  have hinitY : kY.init = .initialized := Cond.initialized_spec (findClass_of_methodNamed hn) hkY h3
  have h : At U g.method c below := by rw [hg]; exact X.here
  have hlocals9 : W9 + (maxL + 11) + (headSpec ws rm).room.locals ≤ R.locals := hlocals
  have happ : (headSpec ws rm).appliesLoose y e.platform (U.calling g mk a) = true :=
    Spec.appliesLoose_calling (g := g) h hdg hn hkY hinitY
      (X.room_calling (g := g) (R' := (headSpec ws rm).room) hsize hmY hcY hframes (by rw [hlY]; omega) h4 h5) h1
  obtain ⟨mid, hmid⟩ := h.above
  have hfr : (U.setTop g).frames = (.java g :: mid) ++ below := by rw [State.frames_setTop' g h.top, hmid]; rfl
  obtain ⟨o, s₂, hsteps, -, hend, hq⟩ := Steps.callFree hM p X.admits X.cas X.clock (acts := []) hfr happ hPc trivial
  have hq' : vx_Q Qc XC mc ms free a (U.calling g mk a) o s₂ := hq
  rw [State.frames_setTop' g h.top] at hend
  obtain ⟨g₀, hg0⟩ := Option.isSome_iff_exists.mp h.top
  obtain ⟨r, hr⟩ := State.topJava?_eq_some.mp hg0
  have hr' : (({ U with heap := s₂.heap, slotsUsed := s₂.slotsUsed } : State).setVm s₂.vm).frames = .java g₀ :: r := hr
  rcases hq' with ⟨hqc, L, hfe, hL⟩ | ⟨q, rfl, E, ce, L, hx, hce, hcv, hcl, hW₂, hsm, hL⟩
  · obtain ⟨⟨v, rfl⟩, hW₂, e2, q2, q3, q4, q5, q6⟩ := id hfe
    have e3 : s₂ = ({ (U.calling g mk a).setFrames s₂.frames with heap := s₂.heap, slotsUsed := s₂.slotsUsed } : State).setVm s₂.vm := by
      have : s₂ = ({ s₂ with vm := (U.calling g mk a).vm } : State).setVm s₂.vm := rfl
      rw [e2] at this
      exact this
    obtain ⟨c₂, i₂, len₂, hc₂, hd₂, hf₂⟩ := hend
    have hW' : U.WarmedH s₂.vm := hW₂
    have hcc : c₂ = c := by
      have h1 : s₂.code? g.method = U.code? g.method := by
        rw [State.code?_eq, State.code?_eq, hW'.alike.method?]
      exact Option.some.inj (hc₂.symm.trans (h1.trans h.code))
    subst hcc
    have hlen : len₂ = len := by rw [hdg] at hd₂; cases hd₂; rfl
    subst hlen
    have hs₂ : s₂ = (({ U with heap := s₂.heap, slotsUsed := s₂.slotsUsed } : State).setVm s₂.vm).setTop { g with pc := g.pc + len₂, stack := v.toList ++ g.stack } := by
      refine e3.trans ?_
      rw [hf₂, State.calling_eq h.top, State.setFrames_setFrames, State.setTop_of_frames _ hr', hr]
      rfl
    have hsame : U.sameButNew ({ U with heap := s₂.heap, slotsUsed := s₂.slotsUsed } : State) L mc ms := by
      refine ⟨?_, q2, q3, q4, q5, q6⟩
      obtain ⟨t, ht, -⟩ := State.frames_cons hr
      show ({ U with heap := s₂.heap, slotsUsed := s₂.slotsUsed } : State) = { U.setFrames U.frames with heap := s₂.heap, slotsUsed := s₂.slotsUsed }
      rw [State.setFrames_self ht]
    subst hg
    refine Or.inl ⟨v, ⟨(({ U with heap := s₂.heap, slotsUsed := s₂.slotsUsed } : State).setVm s₂.vm), Ls ++ L, c0 + mc, s0 + ms⟩,
      ⟨X.admits, X.cas, X.clock, X.frames, X.room, X.hears, X.method, X.code, (X.here.setHeapUsed s₂.heap s₂.slotsUsed).setVm hW'.alike, X.tail, State.WarmedH.trans X.warmed hW', X.limits, X.bytes, X.same.trans (hsame.setVm s.vm)⟩,
      ⟨g, mk, s₂, L, rfl, rfl, hqc, rfl, hL, rfl, rfl⟩, ?_⟩
    show Steps p.tables e below _ ((({ U with heap := s₂.heap, slotsUsed := s₂.slotsUsed } : State).setVm s₂.vm).setTop { g with pc := g.pc + len₂, stack := v.toList ++ g.stack })
    rw [← hs₂]
    exact hsteps
  · obtain ⟨e2, q2, q3, q4, q5, q6⟩ := id hsm
    have e3 : s₂ = ({ (U.calling g mk a).setFrames s₂.frames with heap := s₂.heap, slotsUsed := s₂.slotsUsed } : State).setVm s₂.vm := by
      have : s₂ = ({ s₂ with vm := (U.calling g mk a).vm } : State).setVm s₂.vm := rfl
      rw [e2] at this
      exact this
    have hf₂ : s₂.frames = .throwing q :: .java g :: U.frames.tail := hend
    have hW' : U.WarmedH s₂.vm := hW₂
    have hs₂ : s₂ = ((({ U with heap := s₂.heap, slotsUsed := s₂.slotsUsed } : State).setVm s₂.vm).setTop g).pushFrame (.throwing q) := by
      refine e3.trans ?_
      rw [hf₂, State.calling_eq h.top, State.setFrames_setFrames, State.pushFrame, State.frames_setTop _ hr', State.setTop_of_frames _ hr', State.setFrames_setFrames, hr]
      rfl
    have hsame : U.sameButNew ({ U with heap := s₂.heap, slotsUsed := s₂.slotsUsed } : State) L mc ms := by
      refine ⟨?_, q2, q3, q4, q5, q6⟩
      obtain ⟨t, ht, -⟩ := State.frames_cons hr
      show ({ U with heap := s₂.heap, slotsUsed := s₂.slotsUsed } : State) = { U.setFrames U.frames with heap := s₂.heap, slotsUsed := s₂.slotsUsed }
      rw [State.setFrames_self ht]
    subst hg
    refine Or.inr ⟨q, ⟨(({ U with heap := s₂.heap, slotsUsed := s₂.slotsUsed } : State).setVm s₂.vm), Ls ++ L, c0 + mc, s0 + ms⟩,
      ⟨X.admits, X.cas, X.clock, X.frames, X.room, X.hears, X.method, X.code, (X.here.setHeapUsed s₂.heap s₂.slotsUsed).setVm hW'.alike, X.tail, State.WarmedH.trans X.warmed hW', X.limits, X.bytes, X.same.trans (hsame.setVm s.vm)⟩,
      ⟨g, mk, s₂, L, E, ce, rfl, rfl, hx, hce, hcv, hcl, rfl, hL, rfl, rfl⟩, ?_⟩
    show Steps p.tables e below _ (((({ U with heap := s₂.heap, slotsUsed := s₂.slotsUsed } : State).setVm s₂.vm).setTop g).pushFrame (.throwing q))
    rw [← hs₂]
    exact hsteps
end
variable {p : Program} {l : Launch} {e : Env} {R : Room} {s : State} {m : MethodId} {args : Array Value} {below : List Frame} {meth : Method} {c : Code} {T : State} {H : Heap} {locs : List Loc} {cells slots : Nat}
theorem vx_callVX (X : Stand p l e R s m args below meth c T locs cells slots) (hexec : p.tables.exec = Jvm.exec) {own C : String} {index : Nat} {y : MethodName} {bytes : ByteArray} {maxL : Nat} {ret : Option FieldType} {hh : List (Nat × Nat × Nat × Nat)}
    (hown : s.vm.findClass own = some m.cls) (hlink : (Cond.methodLink own index y).before args s = true) (hinst : (Cond.instanceMethod y).before args s = true) (hsel : (Cond.selects C y y).before args s = true)
    (hcode : (Cond.codeWith y bytes maxL ret hh).before args s = true) (hy : y.cls ≠ "java/lang/invoke/MethodHandle" ∧ y.cls ≠ "java/lang/invoke/VarHandle")
    {W9 : Nat} {Pre : Pt → Array Value → Prop} {Post : Pt → Array Value → Option Value → Pt → Prop} {PostX : Pt → Array Value → Addr → Pt → Prop} (hK : vx_Back l R p e below s args y 3 W9 Pre Post PostX)
    {b : Addr} {cellB : Cell} (hcell : T.heap[b]? = some cellB) (hobj : cellB.vm.isStatics = false) (hcls : s.vm.findClass C = some cellB.cls)
    {g : JFrame} (hg : g.method = m) (hsize : g.locals.size = c.maxLocals) {argsL rest : List Value} (hlen : ∀ sig, parseMethodDescriptor y.desc = some sig → argsL.length = sig.parameters.length)
    (hstack : g.stack = argsL.reverse ++ .ref b :: rest) (hW : 2 * g.monitorRoom + (rest.map fun v => v.category).sum ≤ W9) (hdg : decode c.code g.pc = .ok (.invokevirtual index, 3))
    (hpre : ∀ vm₁, s.WarmedH vm₁ → Pre ⟨T.setVm vm₁, locs, cells, slots⟩ (Value.ref b :: argsL).toArray) :
    (∃ (v : Option Value) (vm₁ : Vm) (B : Pt), s.WarmedH vm₁ ∧ Stand p l e R s m args below meth c B.U B.locs B.cells B.slots ∧ Post ⟨T.setVm vm₁, locs, cells, slots⟩ (Value.ref b :: argsL).toArray v B ∧
      ∀ target, Steps p.tables e below (B.U.setTop { g with pc := g.pc + 3, stack := v.toList ++ rest }) target → Steps p.tables e below (T.setTop g) target) ∨
    (∃ (q : Addr) (vm₁ : Vm) (B : Pt), s.WarmedH vm₁ ∧ Stand p l e R s m args below meth c B.U B.locs B.cells B.slots ∧ PostX ⟨T.setVm vm₁, locs, cells, slots⟩ (Value.ref b :: argsL).toArray q B ∧
      Steps p.tables e below (T.setTop g) ((B.U.setTop { g with stack := rest }).pushFrame (.throwing q))) := by
  obtain ⟨mk, methM, hnamed, hmethM, hstM, habM⟩ := Cond.instanceMethod_spec hinst
  obtain ⟨m8, methM', cM, hn8, hmethM', -, -, -, -, -, -, hsigM⟩ := Cond.codeWith_spec hcode
  cases Option.some.inj (hn8.symm.trans hnamed)
  cases hmethM.symm.trans hmethM'
  obtain ⟨c2, r2, m2, q1, q2, q3, q4, kP, hkP, hkPi⟩ := Cond.selects_spec hsel
  cases hcls.symm.trans q1
  cases (State.methodFound?_of_named hnamed hy).symm.trans q2
  cases hnamed.symm.trans q3
  have hselP : selectMethod e.platform s.vm cellB.cls mk = .method mk := by rw [Launch.admits_selectMethod X.admits]; exact q4
  obtain ⟨vm₁, X₁, hstep₁⟩ := X.invokevirtual hexec hown hlink hnamed hmethM hstM hkP hkPi hy (a := b) (cell := cellB) hcell
    (fun z h => by rw [h] at hobj; cases hobj) hselP hmethM habM hkP hkPi (g := g) hg (argsL := argsL) (rest := rest) (hlen _ hsigM) hstack hdg
  rcases hK m meth c ⟨T.setVm vm₁, locs, cells, slots⟩ { g with stack := rest } (.invokevirtual index) mk (Value.ref b :: argsL).toArray X₁ hg hsize hdg hW (X₁.named hnamed) (hpre vm₁ X₁.warmed) with ⟨v, B, X', hpost, hsteps⟩ | ⟨q, B, X', hpost, hsteps⟩
  · exact Or.inl ⟨v, vm₁, B, X₁.warmed, X', hpost, fun target h => hstep₁ _ fun acts => by rw [doInvoke_state]; exact hsteps.trans h⟩
  · exact Or.inr ⟨q, vm₁, B, X₁.warmed, X', hpost, hstep₁ _ fun acts => by rw [doInvoke_state]; exact hsteps⟩
theorem vx_callSX (X : Stand p l e R s m args below meth c T locs cells slots) (hexec : p.tables.exec = Jvm.exec) {own : String} {index : Nat} {y : MethodName} {bytes : ByteArray} {maxL : Nat} {ret : Option FieldType} {hh : List (Nat × Nat × Nat × Nat)}
    (hown : s.vm.findClass own = some m.cls) (hlink : (Cond.methodLink own index y).before args s = true) (hstat : (Cond.static y).before args s = true) (hinit : (Cond.initialized y.cls).before args s = true)
    (hcode : (Cond.codeWith y bytes maxL ret hh).before args s = true) (hy : y.cls ≠ "java/lang/invoke/MethodHandle" ∧ y.cls ≠ "java/lang/invoke/VarHandle")
    {W9 : Nat} {Pre : Pt → Array Value → Prop} {Post : Pt → Array Value → Option Value → Pt → Prop} {PostX : Pt → Array Value → Addr → Pt → Prop} (hK : vx_Back l R p e below s args y 3 W9 Pre Post PostX)
    {g : JFrame} (hg : g.method = m) (hsize : g.locals.size = c.maxLocals) {argsL rest : List Value} (hlen : ∀ sig, parseMethodDescriptor y.desc = some sig → argsL.length = sig.parameters.length)
    (hstack : g.stack = argsL.reverse ++ rest) (hW : 2 * g.monitorRoom + (rest.map fun v => v.category).sum ≤ W9) (hdg : decode c.code g.pc = .ok (.invokestatic index, 3))
    (hpre : ∀ vm₁, s.WarmedH vm₁ → Pre ⟨T.setVm vm₁, locs, cells, slots⟩ argsL.toArray) :
    (∃ (v : Option Value) (vm₁ : Vm) (B : Pt), s.WarmedH vm₁ ∧ Stand p l e R s m args below meth c B.U B.locs B.cells B.slots ∧ Post ⟨T.setVm vm₁, locs, cells, slots⟩ argsL.toArray v B ∧
      ∀ target, Steps p.tables e below (B.U.setTop { g with pc := g.pc + 3, stack := v.toList ++ rest }) target → Steps p.tables e below (T.setTop g) target) ∨
    (∃ (q : Addr) (vm₁ : Vm) (B : Pt), s.WarmedH vm₁ ∧ Stand p l e R s m args below meth c B.U B.locs B.cells B.slots ∧ PostX ⟨T.setVm vm₁, locs, cells, slots⟩ argsL.toArray q B ∧
      Steps p.tables e below (T.setTop g) ((B.U.setTop { g with stack := rest }).pushFrame (.throwing q))) := by
  obtain ⟨mk, methM, cM, hnamed, hmethM, -, -, -, -, -, -, hsigM⟩ := Cond.codeWith_spec hcode
  have hstatic : methM.isStatic = true := Cond.static_spec hnamed hmethM hstat
  obtain ⟨kP, hkP, -⟩ := className_of_methodNamed hnamed
  have hinitP : kP.init = .initialized := Cond.initialized_spec (findClass_of_methodNamed hnamed) hkP hinit
  obtain ⟨vm₁, X₁, hstep₁⟩ := X.invokestatic hexec hown hlink hnamed hmethM hstatic hkP hinitP hy (g := g) hg (argsL := argsL) (rest := rest) (hlen _ hsigM) hstack hdg
  rcases hK m meth c ⟨T.setVm vm₁, locs, cells, slots⟩ { g with stack := rest } (.invokestatic index) mk argsL.toArray X₁ hg hsize hdg hW (X₁.named hnamed) (hpre vm₁ X₁.warmed) with ⟨v, B, X', hpost, hsteps⟩ | ⟨q, B, X', hpost, hsteps⟩
  · exact Or.inl ⟨v, vm₁, B, X₁.warmed, X', hpost, fun target h => hstep₁ _ fun acts => by rw [doInvoke_state]; exact hsteps.trans h⟩
  · exact Or.inr ⟨q, vm₁, B, X₁.warmed, X', hpost, hstep₁ _ fun acts => by rw [doInvoke_state]; exact hsteps⟩
theorem vx_callVW (X : Stand p l e R s m args below meth c T locs cells slots) (hexec : p.tables.exec = Jvm.exec) {own C : String} {index : Nat} {y : MethodName} {bytes : ByteArray} {maxL : Nat} {ret : Option FieldType} {hh : List (Nat × Nat × Nat × Nat)}
    (hown : s.vm.findClass own = some m.cls) (hlink : (Cond.methodLink own index y).before args s = true) (hinst : (Cond.instanceMethod y).before args s = true) (hsel : (Cond.selects C y y).before args s = true)
    (hcode : (Cond.codeWith y bytes maxL ret hh).before args s = true) (hy : y.cls ≠ "java/lang/invoke/MethodHandle" ∧ y.cls ≠ "java/lang/invoke/VarHandle")
    {W9 : Nat} {Pre : Pt → Array Value → Prop} {Post : Pt → Array Value → Option Value → Pt → Prop} (hK : Back l R p e below s args y 3 W9 Pre Post)
    {b : Addr} {cellB : Cell} (hcell : T.heap[b]? = some cellB) (hobj : cellB.vm.isStatics = false) (hcls : s.vm.findClass C = some cellB.cls)
    {g : JFrame} (hg : g.method = m) (hsize : g.locals.size = c.maxLocals) {argsL rest : List Value} (hlen : ∀ sig, parseMethodDescriptor y.desc = some sig → argsL.length = sig.parameters.length)
    (hstack : g.stack = argsL.reverse ++ .ref b :: rest) (hW : 2 * g.monitorRoom + (rest.map fun v => v.category).sum ≤ W9) (hdg : decode c.code g.pc = .ok (.invokevirtual index, 3))
    (hpre : ∀ vm₁, s.WarmedH vm₁ → Pre ⟨T.setVm vm₁, locs, cells, slots⟩ (Value.ref b :: argsL).toArray) :
    ∃ (v : Option Value) (vm₁ : Vm) (B : Pt), s.WarmedH vm₁ ∧ Stand p l e R s m args below meth c B.U B.locs B.cells B.slots ∧ Post ⟨T.setVm vm₁, locs, cells, slots⟩ (Value.ref b :: argsL).toArray v B ∧
      ∀ target, Steps p.tables e below (B.U.setTop { g with pc := g.pc + 3, stack := v.toList ++ rest }) target → Steps p.tables e below (T.setTop g) target := by
  obtain ⟨mk, methM, hnamed, hmethM, hstM, habM⟩ := Cond.instanceMethod_spec hinst
  obtain ⟨m8, methM', cM, hn8, hmethM', -, -, -, -, -, -, hsigM⟩ := Cond.codeWith_spec hcode
  cases Option.some.inj (hn8.symm.trans hnamed)
  cases hmethM.symm.trans hmethM'
  obtain ⟨c2, r2, m2, q1, q2, q3, q4, kP, hkP, hkPi⟩ := Cond.selects_spec hsel
  cases hcls.symm.trans q1
  cases (State.methodFound?_of_named hnamed hy).symm.trans q2
  cases hnamed.symm.trans q3
  have hselP : selectMethod e.platform s.vm cellB.cls mk = .method mk := by rw [Launch.admits_selectMethod X.admits]; exact q4
  obtain ⟨vm₁, X₁, hstep₁⟩ := X.invokevirtual hexec hown hlink hnamed hmethM hstM hkP hkPi hy (a := b) (cell := cellB) hcell
    (fun z h => by rw [h] at hobj; cases hobj) hselP hmethM habM hkP hkPi (g := g) hg (argsL := argsL) (rest := rest) (hlen _ hsigM) hstack hdg
  obtain ⟨v, B, X', hpost, hsteps⟩ := hK m meth c ⟨T.setVm vm₁, locs, cells, slots⟩ { g with stack := rest } (.invokevirtual index) mk (Value.ref b :: argsL).toArray X₁ hg hsize hdg hW (X₁.named hnamed) (hpre vm₁ X₁.warmed)
  exact ⟨v, vm₁, B, X₁.warmed, X', hpost, fun target h => hstep₁ _ fun acts => by rw [doInvoke_state]; exact hsteps.trans h⟩
abbrev vx_CVW (R : Room) (s : State) (args : Array Value) (own C : String) (index : Nat) (y : MethodName) (bytes : ByteArray) (maxL : Nat) (ret : Option FieldType) (hh : List (Nat × Nat × Nat × Nat)) (ws : List Cond) (rm : Room) (mc ms n : Nat) : Prop :=
  (rm.cells = mc ∧ rm.slots = ms ∧ rm.frames + 1 ≤ R.frames ∧ 8 + (maxL + 11) + rm.locals ≤ R.locals ∧ (∀ w ∈ ws, ∀ (a' : Array Value) (U : State), s.WarmedH U.vm → w.before a' U = true) ∧ Cond.codeWith y bytes maxL ret hh ∈ ws) ∧
  (Cond.codeWith y bytes maxL ret hh).before args s = true ∧ (Cond.initialized y.cls).before args s = true ∧ (y.cls ≠ "java/lang/invoke/MethodHandle" ∧ y.cls ≠ "java/lang/invoke/VarHandle") ∧
  (∀ sig, parseMethodDescriptor y.desc = some sig → n = sig.parameters.length) ∧ (Cond.methodLink own index y).before args s = true ∧ (Cond.instanceMethod y).before args s = true ∧ (Cond.selects C y y).before args s = true
theorem vx_cwVW {own C : String} {index maxL mc ms : Nat} {y : MethodName} {bytes : ByteArray} {ret : Option FieldType} {hh : List (Nat × Nat × Nat × Nat)} {Ts ws ws' : List Cond} {rm : Room} (n : Nat) (ht : ∀ w ∈ Ts, w.before args s = true) (hT : GoodIn Ts (wsV own index C y ws)) (hw : ws = Cond.codeWith y bytes maxL ret hh :: ws') (hrc : rm.cells = mc) (hrs : rm.slots = ms)
    (hd : y.cls = C ∧ y.cls ≠ "java/lang/invoke/MethodHandle" ∧ y.cls ≠ "java/lang/invoke/VarHandle" ∧ (parseMethodDescriptor y.desc).map (fun d => d.parameters.length) = some n) (hR : rm.frames + 1 ≤ R.frames ∧ 8 + (maxL + 11) + rm.locals ≤ R.locals) :
    vx_CVW R s args own C index y bytes maxL ret hh ws rm mc ms n := by
  obtain ⟨hC, hd⟩ := hd
  subst hC
  have ok : ∀ w ∈ wsV own index y.cls y ws, w.before args s = true := fun w h => ht w (hT w h).1
  have hG : GoodIn Ts ws := fun w h => hT w (by unfold wsV; exact List.mem_append_right _ h)
  have hc : Cond.codeWith y bytes maxL ret hh ∈ ws := by rw [hw]; exact List.mem_cons_self
  refine ⟨⟨hrc, hrs, hR.1, hR.2, pay_in ht hG, hc⟩, ht _ (hG _ hc).1, ok _ (by simp [wsV]), ⟨hd.1, hd.2.1⟩, fun sig h => ?_, ok _ (by simp [wsV]), ok _ (by simp [wsV]), ok _ (by simp [wsV])⟩
  have h2 := hd.2.2
  rw [h] at h2
  exact (Option.some.inj h2).symm
theorem vx_runVW {y : MethodName} {bytes cc : ByteArray} {maxL nL mc ms n index : Nat} {ret : Option FieldType} {hh : List (Nat × Nat × Nat × Nat)} {ws : List Cond} {rm : Room} {Pc : Array Value → State → Prop} {Qc : Array Value → State → Outcome → State → Prop} {free : Addr → Prop} {Ts : List Cond} {own C : String} {b : Addr} {As rest : List Value} {g : JFrame}
    (S : CallFix p m c cc nL s args Ts own) (hM : Met l y ws rm Pc Qc mc ms free) (cw : vx_CVW R s args own C index y bytes maxL ret hh ws rm mc ms n) (hp : PreV s H C b Pc As)
    (hg : g.method = m) (hn : As.length = n) (hsize : g.locals.size = nL) (hstack : g.stack = As.reverse ++ .ref b :: rest) (hW : 2 * g.monitorRoom + (rest.map fun v => v.category).sum ≤ 8) (hdg : decode cc g.pc = .ok (.invokevirtual index, 3)) (hf : cells + mc ≤ R.cells ∧ slots + ms ≤ R.slots) :
    va_Run p l e R s m args below meth c H locs cells slots mc ms g rest (Qc (Value.ref b :: As).toArray) free := by
  obtain ⟨⟨hrc, hrs, hfr, hlo, hws, hcw⟩, hcode, hini, hy, hlen, hl, hin, hse⟩ := cw
  have hK : Back l R p e below s args y 3 8 (PreOf R mc ms Pc) (PostOf Qc mc ms free) := va_backW (hh := hh) (bytes := bytes) (maxL := maxL) (ret := ret) hM hp.1 hrc hrs hfr hlo hws hcw (fun a' U hW => word_at hW (Or.inl (by first | rfl | simp [Cond.onTables, Cond.keeps, Cond.steady])) hini)
  obtain ⟨hx, hb, hml, ho, -⟩ := S
  obtain ⟨-, ⟨cellB, hcB, hoB, hclB⟩, hPc⟩ := hp
  intro T hT X
  obtain ⟨v, vm₁, ⟨U', l2, c2, s2⟩, hW₁, X', ⟨g', mk, t, L, e1, e2, hq, h1, hL, h2, h3⟩, st⟩ := vx_callVW X hx (C := C) (hh := hh) (bytes := bytes) (maxL := maxL) (ret := ret) ho hl hin hse hcode hy hK (by rw [hT]; exact hcB) hoB hclB hg (hsize.trans hml.symm) (argsL := As) (rest := rest) (fun sig h => hn.trans (hlen sig h)) hstack hW (by rw [hb]; exact hdg)
    (fun vm₁ hW₁ => ⟨hf.1, hf.2, hPc (T.setVm vm₁) hT hW₁⟩)
  dsimp only [Pt.U, Pt.locs, Pt.cells, Pt.slots] at X' e1 e2 h1 h2 h3 st
  subst h1; subst h2; subst h3
  exact ⟨v, (T.setVm vm₁).calling g' mk (Value.ref b :: As).toArray, t, U', L, hT, X', hL, e1, e2, hq, st⟩
section
variable {y : MethodName} {bytes cc : ByteArray} {maxL nL mc ms n index : Nat} {ret : Option FieldType} {ws : List Cond} {rm : Room} {Pc : Array Value → State → Prop} {Qc : Array Value → State → Outcome → State → Prop} {XC : String → State → State → Prop} {free : Addr → Prop} {Ts : List Cond} {own C : String} {b : Addr} {As rest : List Value} {g : JFrame}
theorem vx_runVX {hh : List (Nat × Nat × Nat × Nat)} (S : CallFix p m c cc nL s args Ts own) (hM : vx_Met l y ws rm Pc Qc XC mc ms free) (cw : vx_CVW R s args own C index y bytes maxL ret hh ws rm mc ms n) (hp : PreV s H C b Pc As)
    (hg : g.method = m) (hn : As.length = n) (hsize : g.locals.size = nL) (hstack : g.stack = As.reverse ++ .ref b :: rest) (hW : 2 * g.monitorRoom + (rest.map fun v => v.category).sum ≤ 8) (hdg : decode cc g.pc = .ok (.invokevirtual index, 3)) (hf : cells + mc ≤ R.cells ∧ slots + ms ≤ R.slots) :
    vx_Run p l e R s m args below meth c H locs cells slots mc ms g rest (Qc (Value.ref b :: As).toArray) XC free := by
  obtain ⟨⟨hrc, hrs, hfr, hlo, hws, hcw⟩, hcode, hini, hy, hlen, hl, hin, hse⟩ := cw
  have hK : vx_Back l R p e below s args y 3 8 (PreOf R mc ms Pc) (PostOf Qc mc ms free) (vx_Post XC mc ms free) := vx_backW (hh := hh) (bytes := bytes) (maxL := maxL) (ret := ret) hM hp.1 hrc hrs hfr hlo hws hcw (fun a' U hW => word_at hW (Or.inl (by first | rfl | simp [Cond.onTables, Cond.keeps, Cond.steady])) hini)
  obtain ⟨hx, hb, hml, ho, -⟩ := S
  obtain ⟨-, ⟨cellB, hcB, hoB, hclB⟩, hPc⟩ := hp
  intro T hT X
  rcases vx_callVX X hx (C := C) (hh := hh) (bytes := bytes) (maxL := maxL) (ret := ret) ho hl hin hse hcode hy hK (by rw [hT]; exact hcB) hoB hclB hg (hsize.trans hml.symm) (argsL := As) (rest := rest) (fun sig h => hn.trans (hlen sig h)) hstack hW (by rw [hb]; exact hdg)
    (fun vm₁ hW₁ => ⟨hf.1, hf.2, hPc (T.setVm vm₁) hT hW₁⟩) with ⟨v, vm₁, ⟨U', l2, c2, s2⟩, hW₁, X', ⟨g', mk, t, L, e1, e2, hq, h1, hL, h2, h3⟩, st⟩ | ⟨q, vm₁, ⟨U', l2, c2, s2⟩, hW₁, X', ⟨g', mk, t, L, E, ce, e1, e2, hq, hce, hcv, hcl, h1, hL, h2, h3⟩, st⟩
  · dsimp only [Pt.U, Pt.locs, Pt.cells, Pt.slots] at X' e1 e2 h1 h2 h3 st
    subst h1; subst h2; subst h3
    exact Or.inl ⟨v, (T.setVm vm₁).calling g' mk (Value.ref b :: As).toArray, t, U', L, hT, X', hL, e1, e2, hq, st⟩
  · dsimp only [Pt.U, Pt.locs, Pt.cells, Pt.slots] at X' e1 e2 h1 h2 h3 st hcl
    subst h1; subst h2; subst h3
    exact Or.inr ⟨q, (T.setVm vm₁).calling g' mk (Value.ref b :: As).toArray, t, U', L, E, ce, hT, X', hL, e1, e2, hq, hce, hcv, vx_cls hW₁ hcl, st⟩
theorem vx_runSX {hh : List (Nat × Nat × Nat × Nat)} (S : CallFix p m c cc nL s args Ts own) (hM : vx_Met l y ws rm Pc Qc XC mc ms free) (cw : vx_CSW R s args own index y bytes maxL ret hh ws rm mc ms n) (hp : PreS s H Pc As)
    (hg : g.method = m) (hn : As.length = n) (hsize : g.locals.size = nL) (hstack : g.stack = As.reverse ++ rest) (hW : 2 * g.monitorRoom + (rest.map fun v => v.category).sum ≤ 8) (hdg : decode cc g.pc = .ok (.invokestatic index, 3)) (hf : cells + mc ≤ R.cells ∧ slots + ms ≤ R.slots) :
    vx_Run p l e R s m args below meth c H locs cells slots mc ms g rest (Qc As.toArray) XC free := by
  obtain ⟨⟨hrc, hrs, hfr, hlo, hws, hcw⟩, hcode, hini, hy, hlen, hl, hstt⟩ := cw
  have hK : vx_Back l R p e below s args y 3 8 (PreOf R mc ms Pc) (PostOf Qc mc ms free) (vx_Post XC mc ms free) := vx_backW (hh := hh) (bytes := bytes) (maxL := maxL) (ret := ret) hM hp.1 hrc hrs hfr hlo hws hcw (fun a' U hW => word_at hW (Or.inl (by first | rfl | simp [Cond.onTables, Cond.keeps, Cond.steady])) hini)
  obtain ⟨hx, hb, hml, ho, -⟩ := S
  intro T hT X
  rcases vx_callSX X hx (hh := hh) (bytes := bytes) (maxL := maxL) (ret := ret) ho hl hstt hini hcode hy hK hg (hsize.trans hml.symm) (argsL := As) (rest := rest) (fun sig h => hn.trans (hlen sig h)) hstack hW (by rw [hb]; exact hdg)
    (fun vm₁ hW₁ => ⟨hf.1, hf.2, hp.2 (T.setVm vm₁) hT hW₁⟩) with ⟨v, vm₁, ⟨U', l2, c2, s2⟩, hW₁, X', ⟨g', mk, t, L, e1, e2, hq, h1, hL, h2, h3⟩, st⟩ | ⟨q, vm₁, ⟨U', l2, c2, s2⟩, hW₁, X', ⟨g', mk, t, L, E, ce, e1, e2, hq, hce, hcv, hcl, h1, hL, h2, h3⟩, st⟩
  · dsimp only [Pt.U, Pt.locs, Pt.cells, Pt.slots] at X' e1 e2 h1 h2 h3 st
    subst h1; subst h2; subst h3
    exact Or.inl ⟨v, (T.setVm vm₁).calling g' mk As.toArray, t, U', L, hT, X', hL, e1, e2, hq, st⟩
  · dsimp only [Pt.U, Pt.locs, Pt.cells, Pt.slots] at X' e1 e2 h1 h2 h3 st hcl
    subst h1; subst h2; subst h3
    exact Or.inr ⟨q, (T.setVm vm₁).calling g' mk As.toArray, t, U', L, E, ce, hT, X', hL, e1, e2, hq, hce, hcv, vx_cls hW₁ hcl, st⟩
end
end VXH
theorem vx_ofWH {l : Launch} {y : MethodName} {ws ws' : List Cond} {rm : Room} {Pc : Array Value → State → Prop} {Qc : Array Value → State → Outcome → State → Prop} {XC : String → State → State → Prop} {mc ms : Nat} {free : Addr → Prop} {cc : ByteArray} {maxL : Nat} {ret : Option FieldType} {hh : List (Nat × Nat × Nat × Nat)}
    (hy : plainName y.cls = true) (hw : ws = Cond.codeWith y cc maxL ret hh :: ws')
    (body : ∀ p e s m args below meth c s₁, BodyLoose p l y (headSpec ws rm) cc maxL ret e s m args below meth c s₁ → c.maxLocals = maxL → Pc args s →
      W p l e (headSpec ws rm).room s m args below meth c s.heap [] 0 0 (vx_MQ below Qc XC args s mc ms free) (entryFrame m args maxL)) : vx_Met l y ws rm Pc Qc XC mc ms free := by
  refine MetFree.of_bodyS (code := cc) (maxLocals := maxL) (ret := ret) hy ?_ ?_
  · intro args s m h hn
    obtain ⟨m9, meth, c, hn9, h1, h2, h3, h4, -, h5, h6, -⟩ := Cond.codeWith_spec (atoms_spec (ws := ws) h _ (by rw [hw]; exact List.mem_cons_self))
    cases hn.symm.trans hn9
    exact ⟨meth, c, h1, h2, h3, h4, h5, h6⟩
  · intro p e s m args below meth c s₁ B hml hP _
    have hh0 : s₁.heap = s.heap := by rw [B.state]; rfl
    obtain ⟨t, a1, o, b1, b2, b3⟩ := body p e s m args below meth c s₁ B hml hP s₁ hh0 (Stand.of_body B)
    exact ⟨t, o, a1, b1, b2, b3⟩
/-! ===== END ===== -/
end
section
def RX0 : String := "ChairStamps$Memory"
def TX0 : u_T := fun k => match k with
  | 0 => ("ChairStamps$Memory", "places", "[LChairStamps$Office;", true)
  | 1 => ("ChairStamps$Memory", "next", "I", false)
  | _ => ("ChairStamps$Memory", "count", "I", false)
def tyX0 : Nat → FieldType := fun k => match k with
  | 0 => .array (.object "ChairStamps$Office")
  | 1 => .int
  | _ => .int
abbrev wsX00 : List Cond := u_ws RX0 TX0 3
theorem nmX0 : ∀ a, a < 3 → ∀ b, b < 3 → a ≠ b → (TX0 a).2.1 ≠ (TX0 b).2.1 := by decide +kernel
theorem tyX0_ok : ∀ k, k < 3 → parseFieldDescriptor (TX0 k).2.2.1 = some (tyX0 k) := by decide +kernel
abbrev cX0_init : ByteArray := prog_2_method_1_code
def yX0_init : MethodName := ⟨RX0, "<init>", "()V"⟩
abbrev cX0_place : ByteArray := prog_2_method_2_code
def yX0_place : MethodName := ⟨RX0, "place", "(I)LChairStamps$Office;"⟩
abbrev cX0_forget : ByteArray := prog_2_method_3_code
def yX0_forget : MethodName := ⟨RX0, "forget", "()V"⟩
abbrev cX0_draft : ByteArray := prog_2_method_4_code
def yX0_draft : MethodName := ⟨RX0, "draft", "(LChairStamps$Office;)V"⟩
abbrev cX0_keepDraft : ByteArray := prog_2_method_5_code
def yX0_keepDraft : MethodName := ⟨RX0, "keepDraft", "()V"⟩
abbrev cX0_takeBack : ByteArray := prog_2_method_6_code
def yX0_takeBack : MethodName := ⟨RX0, "takeBack", "(LChairStamps$Office;)V"⟩
def RX1 : String := "ChairStamps$Office"
def TX1 : u_T := fun k => match k with
  | 0 => ("ChairStamps$Office", "chairs", "I", false)
  | 1 => ("ChairStamps$Office", "floors", "I", false)
  | 2 => ("ChairStamps$Office", "guilds", "[I", true)
  | 3 => ("ChairStamps$Office", "floorsUnder", "[I", true)
  | 4 => ("ChairStamps$Office", "quarters", "[I", true)
  | 5 => ("ChairStamps$Office", "stamps", "[I", true)
  | 6 => ("ChairStamps$Office", "sitters", "[I", true)
  | 7 => ("ChairStamps$Office", "lengths", "[I", true)
  | 8 => ("ChairStamps$Office", "heights", "[I", true)
  | 9 => ("ChairStamps$Office", "limits", "[I", true)
  | 10 => ("ChairStamps$Office", "values", "[I", true)
  | _ => ("ChairStamps$Office", "totals", "[I", true)
def tyX1 : Nat → FieldType := fun k => match k with
  | 0 => .int
  | 1 => .int
  | 2 => .array .int
  | 3 => .array .int
  | 4 => .array .int
  | 5 => .array .int
  | 6 => .array .int
  | 7 => .array .int
  | 8 => .array .int
  | 9 => .array .int
  | 10 => .array .int
  | _ => .array .int
abbrev wsX10 : List Cond := u_ws RX1 TX1 12
theorem nmX1 : ∀ a, a < 12 → ∀ b, b < 12 → a ≠ b → (TX1 a).2.1 ≠ (TX1 b).2.1 := by decide +kernel
theorem tyX1_ok : ∀ k, k < 12 → parseFieldDescriptor (TX1 k).2.2.1 = some (tyX1 k) := by decide +kernel
abbrev cX1_init : ByteArray := prog_3_method_1_code
def yX1_init : MethodName := ⟨RX1, "<init>", "()V"⟩
abbrev cX1_makeNew : ByteArray := prog_3_method_2_code
def yX1_makeNew : MethodName := ⟨RX1, "makeNew", "()V"⟩
abbrev cX1_copyFrom : ByteArray := prog_3_method_3_code
def yX1_copyFrom : MethodName := ⟨RX1, "copyFrom", "(LChairStamps$Office;)V"⟩
abbrev cX1_hasChair : ByteArray := prog_3_method_4_code
def yX1_hasChair : MethodName := ⟨RX1, "hasChair", "(I)Z"⟩
abbrev cX1_hasFloor : ByteArray := prog_3_method_5_code
def yX1_hasFloor : MethodName := ⟨RX1, "hasFloor", "(I)Z"⟩
abbrev cX1_length : ByteArray := prog_3_method_6_code
def yX1_length : MethodName := ⟨RX1, "length", "(II)I"⟩
abbrev cX1_height : ByteArray := prog_3_method_7_code
def yX1_height : MethodName := ⟨RX1, "height", "(II)I"⟩
abbrev cX1_limit : ByteArray := prog_3_method_8_code
def yX1_limit : MethodName := ⟨RX1, "limit", "(II)I"⟩
abbrev cX1_stampedChairs : ByteArray := prog_3_method_9_code
def yX1_stampedChairs : MethodName := ⟨RX1, "stampedChairs", "()I"⟩
abbrev cX1_reachOn : ByteArray := prog_3_method_10_code
def yX1_reachOn : MethodName := ⟨RX1, "reachOn", "(IIII)I"⟩
abbrev cX1_reachNow : ByteArray := prog_3_method_11_code
def yX1_reachNow : MethodName := ⟨RX1, "reachNow", "(II)I"⟩
abbrev cX1_wobbleOn : ByteArray := prog_3_method_12_code
def yX1_wobbleOn : MethodName := ⟨RX1, "wobbleOn", "(III)I"⟩
abbrev cX1_wobbleNow : ByteArray := prog_3_method_13_code
def yX1_wobbleNow : MethodName := ⟨RX1, "wobbleNow", "(I)I"⟩
abbrev cX1_leanOn : ByteArray := prog_3_method_14_code
def yX1_leanOn : MethodName := ⟨RX1, "leanOn", "(III)I"⟩
abbrev cX1_leanNow : ByteArray := prog_3_method_15_code
def yX1_leanNow : MethodName := ⟨RX1, "leanNow", "(I)I"⟩
abbrev cX1_gapUnder : ByteArray := prog_3_method_16_code
def yX1_gapUnder : MethodName := ⟨RX1, "gapUnder", "(II)I"⟩
abbrev cX1_greatestGap : ByteArray := prog_3_method_17_code
def yX1_greatestGap : MethodName := ⟨RX1, "greatestGap", "(I)I"⟩
abbrev cX1_seatHeight : ByteArray := prog_3_method_18_code
def yX1_seatHeight : MethodName := ⟨RX1, "seatHeight", "(I)I"⟩
abbrev cX1_idleLeg : ByteArray := prog_3_method_19_code
def yX1_idleLeg : MethodName := ⟨RX1, "idleLeg", "(I)I"⟩
abbrev cX1_reason : ByteArray := prog_3_method_20_code
def yX1_reason : MethodName := ⟨RX1, "reason", "(I)I"⟩
abbrev cX1_addChair : ByteArray := prog_3_method_21_code
def yX1_addChair : MethodName := ⟨RX1, "addChair", "(II)I"⟩
abbrev cX1_layFloor : ByteArray := prog_3_method_22_code
def yX1_layFloor : MethodName := ⟨RX1, "layFloor", "(IIII)I"⟩
abbrev cX1_isSpot : ByteArray := prog_3_method_23_code
def yX1_isSpot : MethodName := ⟨RX1, "isSpot", "(I)Z"⟩
abbrev cX1_changeSpot : ByteArray := prog_3_method_24_code
def yX1_changeSpot : MethodName := ⟨RX1, "changeSpot", "(III)I"⟩
abbrev cX1_moveChair : ByteArray := prog_3_method_25_code
def yX1_moveChair : MethodName := ⟨RX1, "moveChair", "(III)I"⟩
abbrev cX1_sawLeg : ByteArray := prog_3_method_26_code
def yX1_sawLeg : MethodName := ⟨RX1, "sawLeg", "(III)I"⟩
abbrev cX1_shimLeg : ByteArray := prog_3_method_27_code
def yX1_shimLeg : MethodName := ⟨RX1, "shimLeg", "(III)I"⟩
abbrev cX1_testChair : ByteArray := prog_3_method_28_code
def yX1_testChair : MethodName := ⟨RX1, "testChair", "(I)I"⟩
abbrev cX1_sitDown : ByteArray := prog_3_method_29_code
def yX1_sitDown : MethodName := ⟨RX1, "sitDown", "(II)I"⟩
abbrev cX1_wearOf : ByteArray := prog_3_method_30_code
def yX1_wearOf : MethodName := ⟨RX1, "wearOf", "(I)I"⟩
abbrev cX1_wearLeg : ByteArray := prog_3_method_31_code
def yX1_wearLeg : MethodName := ⟨RX1, "wearLeg", "(III)I"⟩
abbrev cX1_changeBound : ByteArray := prog_3_method_32_code
def yX1_changeBound : MethodName := ⟨RX1, "changeBound", "(III)I"⟩
abbrev cX1_isBound : ByteArray := prog_3_method_33_code
def yX1_isBound : MethodName := ⟨RX1, "isBound", "(II)Z"⟩
abbrev cX1_changeSetting : ByteArray := prog_3_method_34_code
def yX1_changeSetting : MethodName := ⟨RX1, "changeSetting", "(II)I"⟩
abbrev cX1_voidStamp : ByteArray := prog_3_method_35_code
def yX1_voidStamp : MethodName := ⟨RX1, "voidStamp", "(I)I"⟩
abbrev cX1_count : ByteArray := prog_3_method_36_code
def yX1_count : MethodName := ⟨RX1, "count", "(II)V"⟩
abbrev cX1_bestQuarters : ByteArray := prog_3_method_37_code
def yX1_bestQuarters : MethodName := ⟨RX1, "bestQuarters", "(II)I"⟩
abbrev cX1_bestFloorFor : ByteArray := prog_3_method_38_code
def yX1_bestFloorFor : MethodName := ⟨RX1, "bestFloorFor", "(I)I"⟩
abbrev cX1_bestSawnLeg : ByteArray := prog_3_method_39_code
def yX1_bestSawnLeg : MethodName := ⟨RX1, "bestSawnLeg", "(I)I"⟩
def RX2 : String := "ChairStamps$OfficeText"
def TX2 : u_T := fun k => match k with
  | 0 => ("ChairStamps$OfficeText", "codes", "[I", true)
  | 1 => ("ChairStamps$OfficeText", "length", "I", false)
  | 2 => ("ChairStamps$OfficeText", "position", "I", false)
  | 3 => ("ChairStamps$OfficeText", "letter", "I", false)
  | _ => ("ChairStamps$OfficeText", "numbers", "[I", true)
def tyX2 : Nat → FieldType := fun k => match k with
  | 0 => .array .int
  | 1 => .int
  | 2 => .int
  | 3 => .int
  | _ => .array .int
abbrev wsX20 : List Cond := u_ws RX2 TX2 5
theorem nmX2 : ∀ a, a < 5 → ∀ b, b < 5 → a ≠ b → (TX2 a).2.1 ≠ (TX2 b).2.1 := by decide +kernel
theorem tyX2_ok : ∀ k, k < 5 → parseFieldDescriptor (TX2 k).2.2.1 = some (tyX2 k) := by decide +kernel
abbrev cX2_init : ByteArray := prog_4_method_1_code
def yX2_init : MethodName := ⟨RX2, "<init>", "()V"⟩
abbrev cX2_isFull : ByteArray := prog_4_method_2_code
def yX2_isFull : MethodName := ⟨RX2, "isFull", "()Z"⟩
abbrev cX2_add : ByteArray := prog_4_method_3_code
def yX2_add : MethodName := ⟨RX2, "add", "(I)I"⟩
abbrev cX2_empty : ByteArray := prog_4_method_4_code
def yX2_empty : MethodName := ⟨RX2, "empty", "()I"⟩
abbrev cX2_firstError : ByteArray := prog_4_method_5_code
def yX2_firstError : MethodName := ⟨RX2, "firstError", "()I"⟩
abbrev cX2_goToCommands : ByteArray := prog_4_method_6_code
def yX2_goToCommands : MethodName := ⟨RX2, "goToCommands", "()V"⟩
abbrev cX2_codeAt : ByteArray := prog_4_method_7_code
def yX2_codeAt : MethodName := ⟨RX2, "codeAt", "(I)I"⟩
abbrev cX2_readCommand : ByteArray := prog_4_method_8_code
def yX2_readCommand : MethodName := ⟨RX2, "readCommand", "()Z"⟩
abbrev cX2_readNumber : ByteArray := prog_4_method_9_code
def yX2_readNumber : MethodName := ⟨RX2, "readNumber", "(III)I"⟩
def RX3 : String := "ChairStamps$Slot"
def TX3 : u_T := fun k => match k with
  | 0 => ("ChairStamps$Slot", "content", "LChairStamps$Office;", true)
  | _ => ("ChairStamps$Slot", "used", "Z", false)
def tyX3 : Nat → FieldType := fun k => match k with
  | 0 => .object "ChairStamps$Office"
  | _ => .boolean
abbrev wsX30 : List Cond := u_ws RX3 TX3 2
theorem nmX3 : ∀ a, a < 2 → ∀ b, b < 2 → a ≠ b → (TX3 a).2.1 ≠ (TX3 b).2.1 := by decide +kernel
theorem tyX3_ok : ∀ k, k < 2 → parseFieldDescriptor (TX3 k).2.2.1 = some (tyX3 k) := by decide +kernel
abbrev cX3_init : ByteArray := prog_5_method_1_code
def yX3_init : MethodName := ⟨RX3, "<init>", "()V"⟩
def RX4 : String := "ChairStamps"
def TX4 : u_T := fun k => match k with
  | 0 => ("ChairStamps", "office", "LChairStamps$Office;", true)
  | 1 => ("ChairStamps", "copy", "LChairStamps$Office;", true)
  | 2 => ("ChairStamps", "memory", "LChairStamps$Memory;", true)
  | 3 => ("ChairStamps", "slotZero", "LChairStamps$Slot;", true)
  | 4 => ("ChairStamps", "slotOne", "LChairStamps$Slot;", true)
  | _ => ("ChairStamps", "text", "LChairStamps$OfficeText;", true)
def tyX4 : Nat → FieldType := fun k => match k with
  | 0 => .object "ChairStamps$Office"
  | 1 => .object "ChairStamps$Office"
  | 2 => .object "ChairStamps$Memory"
  | 3 => .object "ChairStamps$Slot"
  | 4 => .object "ChairStamps$Slot"
  | _ => .object "ChairStamps$OfficeText"
abbrev wsX40 : List Cond := u_ws RX4 TX4 6
theorem nmX4 : ∀ a, a < 6 → ∀ b, b < 6 → a ≠ b → (TX4 a).2.1 ≠ (TX4 b).2.1 := by decide +kernel
theorem tyX4_ok : ∀ k, k < 6 → parseFieldDescriptor (TX4 k).2.2.1 = some (tyX4 k) := by decide +kernel
abbrev cX4_init : ByteArray := prog_1_method_1_code
def yX4_init : MethodName := ⟨RX4, "<init>", "()V"⟩
abbrev cX4_append : ByteArray := prog_1_method_2_code
def yX4_append : MethodName := ⟨RX4, "append", "(I)I"⟩
abbrev cX4_clearText : ByteArray := prog_1_method_3_code
def yX4_clearText : MethodName := ⟨RX4, "clearText", "()I"⟩
abbrev cX4_errorPosition : ByteArray := prog_1_method_4_code
def yX4_errorPosition : MethodName := ⟨RX4, "errorPosition", "()I"⟩
abbrev cX4_load : ByteArray := prog_1_method_5_code
def yX4_load : MethodName := ⟨RX4, "load", "()I"⟩
abbrev cX4_about : ByteArray := prog_1_method_6_code
def yX4_about : MethodName := ⟨RX4, "about", "(I)I"⟩
abbrev cX4_chairOf : ByteArray := prog_1_method_7_code
def yX4_chairOf : MethodName := ⟨RX4, "chairOf", "(II)I"⟩
abbrev cX4_wobble : ByteArray := prog_1_method_8_code
def yX4_wobble : MethodName := ⟨RX4, "wobble", "(II)I"⟩
abbrev cX4_legOf : ByteArray := prog_1_method_9_code
def yX4_legOf : MethodName := ⟨RX4, "legOf", "(III)I"⟩
abbrev cX4_spot : ByteArray := prog_1_method_10_code
def yX4_spot : MethodName := ⟨RX4, "spot", "(II)I"⟩
abbrev cX4_boundOf : ByteArray := prog_1_method_11_code
def yX4_boundOf : MethodName := ⟨RX4, "boundOf", "(II)I"⟩
abbrev cX4_setting : ByteArray := prog_1_method_12_code
def yX4_setting : MethodName := ⟨RX4, "setting", "(I)I"⟩
abbrev cX4_chair : ByteArray := prog_1_method_13_code
def yX4_chair : MethodName := ⟨RX4, "chair", "(II)I"⟩
abbrev cX4_floor : ByteArray := prog_1_method_14_code
def yX4_floor : MethodName := ⟨RX4, "floor", "(IIII)I"⟩
abbrev cX4_level : ByteArray := prog_1_method_15_code
def yX4_level : MethodName := ⟨RX4, "level", "(III)I"⟩
abbrev cX4_bring : ByteArray := prog_1_method_16_code
def yX4_bring : MethodName := ⟨RX4, "bring", "(III)I"⟩
abbrev cX4_saw : ByteArray := prog_1_method_17_code
def yX4_saw : MethodName := ⟨RX4, "saw", "(III)I"⟩
abbrev cX4_shim : ByteArray := prog_1_method_18_code
def yX4_shim : MethodName := ⟨RX4, "shim", "(III)I"⟩
abbrev cX4_test : ByteArray := prog_1_method_19_code
def yX4_test : MethodName := ⟨RX4, "test", "(I)I"⟩
abbrev cX4_sit : ByteArray := prog_1_method_20_code
def yX4_sit : MethodName := ⟨RX4, "sit", "(II)I"⟩
abbrev cX4_bound : ByteArray := prog_1_method_21_code
def yX4_bound : MethodName := ⟨RX4, "bound", "(III)I"⟩
abbrev cX4_set : ByteArray := prog_1_method_22_code
def yX4_set : MethodName := ⟨RX4, "set", "(II)I"⟩
abbrev cX4_undo : ByteArray := prog_1_method_23_code
def yX4_undo : MethodName := ⟨RX4, "undo", "()I"⟩
abbrev cX4_bestTurn : ByteArray := prog_1_method_24_code
def yX4_bestTurn : MethodName := ⟨RX4, "bestTurn", "(III)I"⟩
abbrev cX4_bestSaw : ByteArray := prog_1_method_25_code
def yX4_bestSaw : MethodName := ⟨RX4, "bestSaw", "(I)I"⟩
abbrev cX4_failsIn : ByteArray := prog_1_method_26_code
def yX4_failsIn : MethodName := ⟨RX4, "failsIn", "(II)I"⟩
abbrev cX4_bestFloor : ByteArray := prog_1_method_27_code
def yX4_bestFloor : MethodName := ⟨RX4, "bestFloor", "(I)I"⟩
abbrev cX4_sound : ByteArray := prog_1_method_28_code
def yX4_sound : MethodName := ⟨RX4, "sound", "()I"⟩
abbrev cX4_runScript : ByteArray := prog_1_method_29_code
def yX4_runScript : MethodName := ⟨RX4, "runScript", "(IJ)I"⟩
abbrev cX4_simulate : ByteArray := prog_1_method_30_code
def yX4_simulate : MethodName := ⟨RX4, "simulate", "(JI)I"⟩
abbrev cX4_save : ByteArray := prog_1_method_31_code
def yX4_save : MethodName := ⟨RX4, "save", "(I)I"⟩
abbrev cX4_restore : ByteArray := prog_1_method_32_code
def yX4_restore : MethodName := ⟨RX4, "restore", "(I)I"⟩
abbrev cX4_needChair : ByteArray := prog_1_method_33_code
def yX4_needChair : MethodName := ⟨RX4, "needChair", "(I)V"⟩
abbrev cX4_needFloor : ByteArray := prog_1_method_34_code
def yX4_needFloor : MethodName := ⟨RX4, "needFloor", "(I)V"⟩
abbrev cX4_needOneOfFour : ByteArray := prog_1_method_35_code
def yX4_needOneOfFour : MethodName := ⟨RX4, "needOneOfFour", "(I)V"⟩
abbrev cX4_needSlot : ByteArray := prog_1_method_36_code
def yX4_needSlot : MethodName := ⟨RX4, "needSlot", "(I)V"⟩
abbrev cX4_acted : ByteArray := prog_1_method_37_code
def yX4_acted : MethodName := ⟨RX4, "acted", "(I)I"⟩
abbrev cX4_doCommand : ByteArray := prog_1_method_38_code
def yX4_doCommand : MethodName := ⟨RX4, "doCommand", "()I"⟩
abbrev cX4_withoutGroups : ByteArray := prog_1_method_39_code
def yX4_withoutGroups : MethodName := ⟨RX4, "withoutGroups", "(JI)J"⟩
abbrev cX4_groupSucceeds : ByteArray := prog_1_method_40_code
def yX4_groupSucceeds : MethodName := ⟨RX4, "groupSucceeds", "(LChairStamps$Office;I)Z"⟩
abbrev cX4_takeTurn : ByteArray := prog_1_method_41_code
def yX4_takeTurn : MethodName := ⟨RX4, "takeTurn", "(LChairStamps$Office;I)V"⟩
abbrev cX4_within : ByteArray := prog_1_method_42_code
def yX4_within : MethodName := ⟨RX4, "within", "(III)Z"⟩
abbrev cX4_at : ByteArray := prog_1_method_43_code
def yX4_at : MethodName := ⟨RX4, "at", "([II)I"⟩
abbrev cX4_put : ByteArray := prog_1_method_44_code
def yX4_put : MethodName := ⟨RX4, "put", "([III)V"⟩
abbrev cX4_fill : ByteArray := prog_1_method_45_code
def yX4_fill : MethodName := ⟨RX4, "fill", "([II)V"⟩
abbrev cX4_copyRow : ByteArray := prog_1_method_46_code
def yX4_copyRow : MethodName := ⟨RX4, "copyRow", "([I[I)V"⟩
def RX5 : String := "ChairStampsModel"
def TX5 : u_T := fun k => match k with
  | 0 => ("ChairStampsModel", "refusal", "I", false)
  | 1 => ("ChairStampsModel", "text", "[I", true)
  | 2 => ("ChairStampsModel", "size", "I", false)
  | 3 => ("ChairStampsModel", "now", "[I", true)
  | 4 => ("ChairStampsModel", "trial", "[I", true)
  | 5 => ("ChairStampsModel", "diary", "[I", true)
  | 6 => ("ChairStampsModel", "acts", "I", false)
  | 7 => ("ChairStampsModel", "kept", "[I", true)
  | 8 => ("ChairStampsModel", "isKept", "[Z", true)
  | 9 => ("ChairStampsModel", "place", "I", false)
  | _ => ("ChairStampsModel", "out", "I", false)
def tyX5 : Nat → FieldType := fun k => match k with
  | 0 => .int
  | 1 => .array .int
  | 2 => .int
  | 3 => .array .int
  | 4 => .array .int
  | 5 => .array .int
  | 6 => .int
  | 7 => .array .int
  | 8 => .array .boolean
  | 9 => .int
  | _ => .int
abbrev wsX50 : List Cond := u_ws RX5 TX5 11
theorem nmX5 : ∀ a, a < 11 → ∀ b, b < 11 → a ≠ b → (TX5 a).2.1 ≠ (TX5 b).2.1 := by decide +kernel
theorem tyX5_ok : ∀ k, k < 11 → parseFieldDescriptor (TX5 k).2.2.1 = some (tyX5 k) := by decide +kernel
abbrev cX5_init : ByteArray := prog_7_method_1_code
def yX5_init : MethodName := ⟨RX5, "<init>", "()V"⟩
abbrev cX5_thrown : ByteArray := prog_7_method_2_code
def yX5_thrown : MethodName := ⟨RX5, "thrown", "()I"⟩
abbrev cX5_refused : ByteArray := prog_7_method_3_code
def yX5_refused : MethodName := ⟨RX5, "refused", "(I)Z"⟩
abbrev cX5_in : ByteArray := prog_7_method_4_code
def yX5_in : MethodName := ⟨RX5, "in", "(JJJ)Z"⟩
abbrev cX5_copyState : ByteArray := prog_7_method_5_code
def yX5_copyState : MethodName := ⟨RX5, "copyState", "([II[II)V"⟩
abbrev cX5_clear : ByteArray := prog_7_method_6_code
def yX5_clear : MethodName := ⟨RX5, "clear", "([I)V"⟩
abbrev cX5_of : ByteArray := prog_7_method_7_code
def yX5_of : MethodName := ⟨RX5, "of", "([III)I"⟩
abbrev cX5_lay : ByteArray := prog_7_method_8_code
def yX5_lay : MethodName := ⟨RX5, "lay", "([IIII)V"⟩
abbrev cX5_isChair : ByteArray := prog_7_method_9_code
def yX5_isChair : MethodName := ⟨RX5, "isChair", "([II)Z"⟩
abbrev cX5_isFloor : ByteArray := prog_7_method_10_code
def yX5_isFloor : MethodName := ⟨RX5, "isFloor", "([II)Z"⟩
abbrev cX5_isFour : ByteArray := prog_7_method_11_code
def yX5_isFour : MethodName := ⟨RX5, "isFour", "(I)Z"⟩
abbrev cX5_isBound : ByteArray := prog_7_method_12_code
def yX5_isBound : MethodName := ⟨RX5, "isBound", "(II)Z"⟩
abbrev cX5_isSetting : ByteArray := prog_7_method_13_code
def yX5_isSetting : MethodName := ⟨RX5, "isSetting", "(II)Z"⟩
abbrev cX5_without : ByteArray := prog_7_method_14_code
def yX5_without : MethodName := ⟨RX5, "without", "(I)I"⟩
abbrev cX5_spotOf : ByteArray := prog_7_method_15_code
def yX5_spotOf : MethodName := ⟨RX5, "spotOf", "([III)I"⟩
abbrev cX5_reach : ByteArray := prog_7_method_16_code
def yX5_reach : MethodName := ⟨RX5, "reach", "([III)I"⟩
abbrev cX5_tilt : ByteArray := prog_7_method_17_code
def yX5_tilt : MethodName := ⟨RX5, "tilt", "([II)I"⟩
abbrev cX5_wobbleOf : ByteArray := prog_7_method_18_code
def yX5_wobbleOf : MethodName := ⟨RX5, "wobbleOf", "([II)I"⟩
abbrev cX5_leanOf : ByteArray := prog_7_method_19_code
def yX5_leanOf : MethodName := ⟨RX5, "leanOf", "([II)I"⟩
abbrev cX5_seatOf : ByteArray := prog_7_method_20_code
def yX5_seatOf : MethodName := ⟨RX5, "seatOf", "([II)I"⟩
abbrev cX5_idleOf : ByteArray := prog_7_method_21_code
def yX5_idleOf : MethodName := ⟨RX5, "idleOf", "([II)I"⟩
abbrev cX5_reason : ByteArray := prog_7_method_22_code
def yX5_reason : MethodName := ⟨RX5, "reason", "([II)I"⟩
abbrev cX5_stamped : ByteArray := prog_7_method_23_code
def yX5_stamped : MethodName := ⟨RX5, "stamped", "([I)I"⟩
abbrev cX5_voids : ByteArray := prog_7_method_24_code
def yX5_voids : MethodName := ⟨RX5, "voids", "([II)V"⟩
abbrev cX5_chairOn : ByteArray := prog_7_method_25_code
def yX5_chairOn : MethodName := ⟨RX5, "chairOn", "([III)I"⟩
abbrev cX5_floorOn : ByteArray := prog_7_method_26_code
def yX5_floorOn : MethodName := ⟨RX5, "floorOn", "([IIIII)I"⟩
abbrev cX5_levelOn : ByteArray := prog_7_method_27_code
def yX5_levelOn : MethodName := ⟨RX5, "levelOn", "([IIII)I"⟩
abbrev cX5_bringOn : ByteArray := prog_7_method_28_code
def yX5_bringOn : MethodName := ⟨RX5, "bringOn", "([IIII)I"⟩
abbrev cX5_leg : ByteArray := prog_7_method_29_code
def yX5_leg : MethodName := ⟨RX5, "leg", "([IIII)I"⟩
abbrev cX5_sawOn : ByteArray := prog_7_method_30_code
def yX5_sawOn : MethodName := ⟨RX5, "sawOn", "([IIII)I"⟩
abbrev cX5_shimOn : ByteArray := prog_7_method_31_code
def yX5_shimOn : MethodName := ⟨RX5, "shimOn", "([IIII)I"⟩
abbrev cX5_testOn : ByteArray := prog_7_method_32_code
def yX5_testOn : MethodName := ⟨RX5, "testOn", "([II)I"⟩
abbrev cX5_sitOn : ByteArray := prog_7_method_33_code
def yX5_sitOn : MethodName := ⟨RX5, "sitOn", "([III)I"⟩
abbrev cX5_boundOn : ByteArray := prog_7_method_34_code
def yX5_boundOn : MethodName := ⟨RX5, "boundOn", "([IIII)I"⟩
abbrev cX5_change : ByteArray := prog_7_method_35_code
def yX5_change : MethodName := ⟨RX5, "change", "([III)I"⟩
abbrev cX5_canSaw : ByteArray := prog_7_method_36_code
def yX5_canSaw : MethodName := ⟨RX5, "canSaw", "([IIII)Z"⟩
abbrev cX5_canShim : ByteArray := prog_7_method_37_code
def yX5_canShim : MethodName := ⟨RX5, "canShim", "([IIII)Z"⟩
abbrev cX5_append : ByteArray := prog_7_method_38_code
def yX5_append : MethodName := ⟨RX5, "append", "(I)I"⟩
abbrev cX5_clearText : ByteArray := prog_7_method_39_code
def yX5_clearText : MethodName := ⟨RX5, "clearText", "()I"⟩
abbrev cX5_figures : ByteArray := prog_7_method_40_code
def yX5_figures : MethodName := ⟨RX5, "figures", "(IIII)I"⟩
abbrev cX5_chairSign : ByteArray := prog_7_method_41_code
def yX5_chairSign : MethodName := ⟨RX5, "chairSign", "()I"⟩
abbrev cX5_fourSign : ByteArray := prog_7_method_42_code
def yX5_fourSign : MethodName := ⟨RX5, "fourSign", "(I)I"⟩
abbrev cX5_done : ByteArray := prog_7_method_43_code
def yX5_done : MethodName := ⟨RX5, "done", "(Z)Z"⟩
abbrev cX5_readLeg : ByteArray := prog_7_method_44_code
def yX5_readLeg : MethodName := ⟨RX5, "readLeg", "([IZ)Z"⟩
abbrev cX5_readFloor : ByteArray := prog_7_method_45_code
def yX5_readFloor : MethodName := ⟨RX5, "readFloor", "([I)Z"⟩
abbrev cX5_readBring : ByteArray := prog_7_method_46_code
def yX5_readBring : MethodName := ⟨RX5, "readBring", "([I)Z"⟩
abbrev cX5_readBound : ByteArray := prog_7_method_47_code
def yX5_readBound : MethodName := ⟨RX5, "readBound", "([I)Z"⟩
abbrev cX5_readCommand : ByteArray := prog_7_method_48_code
def yX5_readCommand : MethodName := ⟨RX5, "readCommand", "([I)Z"⟩
abbrev cX5_readText : ByteArray := prog_7_method_49_code
def yX5_readText : MethodName := ⟨RX5, "readText", "([I)I"⟩
abbrev cX5_errorPosition : ByteArray := prog_7_method_50_code
def yX5_errorPosition : MethodName := ⟨RX5, "errorPosition", "()I"⟩
abbrev cX5_load : ByteArray := prog_7_method_51_code
def yX5_load : MethodName := ⟨RX5, "load", "()I"⟩
abbrev cX5_about : ByteArray := prog_7_method_52_code
def yX5_about : MethodName := ⟨RX5, "about", "(I)I"⟩
abbrev cX5_chairOf : ByteArray := prog_7_method_53_code
def yX5_chairOf : MethodName := ⟨RX5, "chairOf", "(II)I"⟩
abbrev cX5_wobble : ByteArray := prog_7_method_54_code
def yX5_wobble : MethodName := ⟨RX5, "wobble", "(II)I"⟩
abbrev cX5_legOf : ByteArray := prog_7_method_55_code
def yX5_legOf : MethodName := ⟨RX5, "legOf", "(III)I"⟩
abbrev cX5_spot : ByteArray := prog_7_method_56_code
def yX5_spot : MethodName := ⟨RX5, "spot", "(II)I"⟩
abbrev cX5_boundOf : ByteArray := prog_7_method_57_code
def yX5_boundOf : MethodName := ⟨RX5, "boundOf", "(II)I"⟩
abbrev cX5_setting : ByteArray := prog_7_method_58_code
def yX5_setting : MethodName := ⟨RX5, "setting", "(I)I"⟩
abbrev cX5_remember : ByteArray := prog_7_method_59_code
def yX5_remember : MethodName := ⟨RX5, "remember", "()V"⟩
abbrev cX5_chair : ByteArray := prog_7_method_60_code
def yX5_chair : MethodName := ⟨RX5, "chair", "(II)I"⟩
abbrev cX5_floor : ByteArray := prog_7_method_61_code
def yX5_floor : MethodName := ⟨RX5, "floor", "(IIII)I"⟩
abbrev cX5_level : ByteArray := prog_7_method_62_code
def yX5_level : MethodName := ⟨RX5, "level", "(III)I"⟩
abbrev cX5_bring : ByteArray := prog_7_method_63_code
def yX5_bring : MethodName := ⟨RX5, "bring", "(III)I"⟩
abbrev cX5_saw : ByteArray := prog_7_method_64_code
def yX5_saw : MethodName := ⟨RX5, "saw", "(III)I"⟩
abbrev cX5_shim : ByteArray := prog_7_method_65_code
def yX5_shim : MethodName := ⟨RX5, "shim", "(III)I"⟩
abbrev cX5_test : ByteArray := prog_7_method_66_code
def yX5_test : MethodName := ⟨RX5, "test", "(I)I"⟩
abbrev cX5_sit : ByteArray := prog_7_method_67_code
def yX5_sit : MethodName := ⟨RX5, "sit", "(II)I"⟩
abbrev cX5_bound : ByteArray := prog_7_method_68_code
def yX5_bound : MethodName := ⟨RX5, "bound", "(III)I"⟩
abbrev cX5_set : ByteArray := prog_7_method_69_code
def yX5_set : MethodName := ⟨RX5, "set", "(II)I"⟩
abbrev cX5_undo : ByteArray := prog_7_method_70_code
def yX5_undo : MethodName := ⟨RX5, "undo", "()I"⟩
abbrev cX5_turned : ByteArray := prog_7_method_71_code
def yX5_turned : MethodName := ⟨RX5, "turned", "(II)J"⟩
abbrev cX5_bestTurn : ByteArray := prog_7_method_72_code
def yX5_bestTurn : MethodName := ⟨RX5, "bestTurn", "(III)I"⟩
abbrev cX5_bestSaw : ByteArray := prog_7_method_73_code
def yX5_bestSaw : MethodName := ⟨RX5, "bestSaw", "(I)I"⟩
abbrev cX5_failsIn : ByteArray := prog_7_method_74_code
def yX5_failsIn : MethodName := ⟨RX5, "failsIn", "(II)I"⟩
abbrev cX5_bestFloor : ByteArray := prog_7_method_75_code
def yX5_bestFloor : MethodName := ⟨RX5, "bestFloor", "(I)I"⟩
abbrev cX5_sound : ByteArray := prog_7_method_76_code
def yX5_sound : MethodName := ⟨RX5, "sound", "()I"⟩
abbrev cX5_commandChair : ByteArray := prog_7_method_77_code
def yX5_commandChair : MethodName := ⟨RX5, "commandChair", "(IIIII)Z"⟩
abbrev cX5_command : ByteArray := prog_7_method_78_code
def yX5_command : MethodName := ⟨RX5, "command", "(II)Z"⟩
abbrev cX5_runScript : ByteArray := prog_7_method_79_code
def yX5_runScript : MethodName := ⟨RX5, "runScript", "(IJ)I"⟩
abbrev cX5_turnLeg : ByteArray := prog_7_method_80_code
def yX5_turnLeg : MethodName := ⟨RX5, "turnLeg", "([III)V"⟩
abbrev cX5_turnOf : ByteArray := prog_7_method_81_code
def yX5_turnOf : MethodName := ⟨RX5, "turnOf", "([III)V"⟩
abbrev cX5_simulate : ByteArray := prog_7_method_82_code
def yX5_simulate : MethodName := ⟨RX5, "simulate", "(JI)I"⟩
abbrev cX5_save : ByteArray := prog_7_method_83_code
def yX5_save : MethodName := ⟨RX5, "save", "(I)I"⟩
abbrev cX5_restore : ByteArray := prog_7_method_84_code
def yX5_restore : MethodName := ⟨RX5, "restore", "(I)I"⟩
def RJ11 : String := "java/lang/Character"
def TJ11 : u_T := fun k => match k with
  | _ => ("", "", "", false)
def tyJ11 : Nat → FieldType := fun k => match k with
  | _ => .int
abbrev wsJ110 : List Cond := u_ws RJ11 TJ11 0
theorem nmJ11 : ∀ a, a < 0 → ∀ b, b < 0 → a ≠ b → (TJ11 a).2.1 ≠ (TJ11 b).2.1 := by decide +kernel
theorem tyJ11_ok : ∀ k, k < 0 → parseFieldDescriptor (TJ11 k).2.2.1 = some (tyJ11 k) := by decide +kernel
abbrev cJ11_isValidCodePoint_9a6ad : ByteArray := prog_8_method_11_code
def yJ11_isValidCodePoint_9a6ad : MethodName := ⟨RJ11, "isValidCodePoint", "(I)Z"⟩
abbrev cJ11_highSurrogate_5068e : ByteArray := prog_8_method_28_code
def yJ11_highSurrogate_5068e : MethodName := ⟨RJ11, "highSurrogate", "(I)C"⟩
abbrev cJ11_lowSurrogate_5068e : ByteArray := prog_8_method_29_code
def yJ11_lowSurrogate_5068e : MethodName := ⟨RJ11, "lowSurrogate", "(I)C"⟩
def RJ9 : String := "java/lang/Math"
def TJ9 : u_T := fun k => match k with
  | _ => ("", "", "", false)
def tyJ9 : Nat → FieldType := fun k => match k with
  | _ => .int
abbrev wsJ90 : List Cond := u_ws RJ9 TJ9 0
theorem nmJ9 : ∀ a, a < 0 → ∀ b, b < 0 → a ≠ b → (TJ9 a).2.1 ≠ (TJ9 b).2.1 := by decide +kernel
theorem tyJ9_ok : ∀ k, k < 0 → parseFieldDescriptor (TJ9 k).2.2.1 = some (tyJ9 k) := by decide +kernel
abbrev cJ9_max_7cf53 : ByteArray := prog_13_method_65_code
def yJ9_max_7cf53 : MethodName := ⟨RJ9, "max", "(II)I"⟩
abbrev cJ9_min_7cf53 : ByteArray := prog_13_method_69_code
def yJ9_min_7cf53 : MethodName := ⟨RJ9, "min", "(II)I"⟩
def RJ0 : String := "java/lang/String"
def TJ0 : u_T := fun k => match k with
  | _ => ("", "", "", false)
def tyJ0 : Nat → FieldType := fun k => match k with
  | _ => .int
abbrev wsJ00 : List Cond := u_ws RJ0 TJ0 0
theorem nmJ0 : ∀ a, a < 0 → ∀ b, b < 0 → a ≠ b → (TJ0 a).2.1 ≠ (TJ0 b).2.1 := by decide +kernel
theorem tyJ0_ok : ∀ k, k < 0 → parseFieldDescriptor (TJ0 k).2.2.1 = some (tyJ0 k) := by decide +kernel
abbrev cJ0_length_8abf5 : ByteArray := prog_15_method_54_code
def yJ0_length_8abf5 : MethodName := ⟨RJ0, "length", "()I"⟩
abbrev cJ0_indexOf_0f7a4 : ByteArray := prog_15_method_79_code
def yJ0_indexOf_0f7a4 : MethodName := ⟨RJ0, "indexOf", "(I)I"⟩
abbrev cJ0_indexOf_7cf53 : ByteArray := prog_15_method_80_code
def yJ0_indexOf_7cf53 : MethodName := ⟨RJ0, "indexOf", "(II)I"⟩
abbrev cJ0_coder_7d493 : ByteArray := prog_15_method_152_code
def yJ0_coder_7d493 : MethodName := ⟨RJ0, "coder", "()B"⟩
abbrev cJ0_isLatin1_aae02 : ByteArray := prog_15_method_154_code
def yJ0_isLatin1_aae02 : MethodName := ⟨RJ0, "isLatin1", "()Z"⟩
abbrev cJ0_checkBoundsBeginEnd_23922 : ByteArray := prog_15_method_158_code
def yJ0_checkBoundsBeginEnd_23922 : MethodName := ⟨RJ0, "checkBoundsBeginEnd", "(III)V"⟩
def RJ1 : String := "java/lang/StringLatin1"
def TJ1 : u_T := fun k => match k with
  | _ => ("", "", "", false)
def tyJ1 : Nat → FieldType := fun k => match k with
  | _ => .int
abbrev wsJ10 : List Cond := u_ws RJ1 TJ1 0
theorem nmJ1 : ∀ a, a < 0 → ∀ b, b < 0 → a ≠ b → (TJ1 a).2.1 ≠ (TJ1 b).2.1 := by decide +kernel
theorem tyJ1_ok : ∀ k, k < 0 → parseFieldDescriptor (TJ1 k).2.2.1 = some (tyJ1 k) := by decide +kernel
abbrev cJ1_canEncode_9a6ad : ByteArray := prog_16_method_4_code
def yJ1_canEncode_9a6ad : MethodName := ⟨RJ1, "canEncode", "(I)Z"⟩
abbrev cJ1_indexOf_4cfef : ByteArray := prog_16_method_22_code
def yJ1_indexOf_4cfef : MethodName := ⟨RJ1, "indexOf", "([BIII)I"⟩
abbrev cJ1_indexOfChar_4cfef : ByteArray := prog_16_method_23_code
def yJ1_indexOfChar_4cfef : MethodName := ⟨RJ1, "indexOfChar", "([BIII)I"⟩
def RJ2 : String := "java/lang/StringUTF16"
def TJ2 : u_T := fun k => match k with
  | _ => ("", "", "", false)
def tyJ2 : Nat → FieldType := fun k => match k with
  | _ => .int
abbrev wsJ20 : List Cond := u_ws RJ2 TJ2 0
theorem nmJ2 : ∀ a, a < 0 → ∀ b, b < 0 → a ≠ b → (TJ2 a).2.1 ≠ (TJ2 b).2.1 := by decide +kernel
theorem tyJ2_ok : ∀ k, k < 0 → parseFieldDescriptor (TJ2 k).2.2.1 = some (tyJ2 k) := by decide +kernel
abbrev cJ2_getChar_3b067 : ByteArray := prog_17_method_5_code
def yJ2_getChar_3b067 : MethodName := ⟨RJ2, "getChar", "([BI)C"⟩
abbrev cJ2_length_9d52b : ByteArray := prog_17_method_6_code
def yJ2_length_9d52b : MethodName := ⟨RJ2, "length", "([B)I"⟩
abbrev cJ2_indexOf_4cfef : ByteArray := prog_17_method_40_code
def yJ2_indexOf_4cfef : MethodName := ⟨RJ2, "indexOf", "([BIII)I"⟩
abbrev cJ2_indexOfChar_4cfef : ByteArray := prog_17_method_47_code
def yJ2_indexOfChar_4cfef : MethodName := ⟨RJ2, "indexOfChar", "([BIII)I"⟩
abbrev cJ2_indexOfCharUnsafe_4cfef : ByteArray := prog_17_method_48_code
def yJ2_indexOfCharUnsafe_4cfef : MethodName := ⟨RJ2, "indexOfCharUnsafe", "([BIII)I"⟩
abbrev cJ2_indexOfSupplementary_4cfef : ByteArray := prog_17_method_49_code
def yJ2_indexOfSupplementary_4cfef : MethodName := ⟨RJ2, "indexOfSupplementary", "([BIII)I"⟩
abbrev cJ2_checkBoundsBeginEnd_d044e : ByteArray := prog_17_method_93_code
def yJ2_checkBoundsBeginEnd_d044e : MethodName := ⟨RJ2, "checkBoundsBeginEnd", "(II[B)V"⟩
def RJ3 : String := "jdk/internal/util/Preconditions"
def TJ3 : u_T := fun k => match k with
  | _ => ("", "", "", false)
def tyJ3 : Nat → FieldType := fun k => match k with
  | _ => .int
abbrev wsJ30 : List Cond := u_ws RJ3 TJ3 0
theorem nmJ3 : ∀ a, a < 0 → ∀ b, b < 0 → a ≠ b → (TJ3 a).2.1 ≠ (TJ3 b).2.1 := by decide +kernel
theorem tyJ3_ok : ∀ k, k < 0 → parseFieldDescriptor (TJ3 k).2.2.1 = some (tyJ3 k) := by decide +kernel
abbrev cJ3_checkFromToIndex_8c36e : ByteArray := prog_19_method_12_code
def yJ3_checkFromToIndex_8c36e : MethodName := ⟨RJ3, "checkFromToIndex", "(IIILjava/util/function/BiFunction;)I"⟩
def RL : String := "ChairStampsLaw"
abbrev cL_append : ByteArray := method_3_code
def yL_append : MethodName := ⟨RL, "append", "(LChairStamps;I[J)I"⟩
abbrev cL_load : ByteArray := method_4_code
def yL_load : MethodName := ⟨RL, "load", "(LChairStamps;[J)I"⟩
abbrev cL_about : ByteArray := method_5_code
def yL_about : MethodName := ⟨RL, "about", "(LChairStamps;I[J)I"⟩
abbrev cL_chairOf : ByteArray := method_6_code
def yL_chairOf : MethodName := ⟨RL, "chairOf", "(LChairStamps;II[J)I"⟩
abbrev cL_wobble : ByteArray := method_7_code
def yL_wobble : MethodName := ⟨RL, "wobble", "(LChairStamps;II[J)I"⟩
abbrev cL_legOf : ByteArray := method_8_code
def yL_legOf : MethodName := ⟨RL, "legOf", "(LChairStamps;III[J)I"⟩
abbrev cL_spot : ByteArray := method_9_code
def yL_spot : MethodName := ⟨RL, "spot", "(LChairStamps;II[J)I"⟩
abbrev cL_boundOf : ByteArray := method_10_code
def yL_boundOf : MethodName := ⟨RL, "boundOf", "(LChairStamps;II[J)I"⟩
abbrev cL_setting : ByteArray := method_11_code
def yL_setting : MethodName := ⟨RL, "setting", "(LChairStamps;I[J)I"⟩
abbrev cL_chair : ByteArray := method_12_code
def yL_chair : MethodName := ⟨RL, "chair", "(LChairStamps;II[J)I"⟩
abbrev cL_floor : ByteArray := method_13_code
def yL_floor : MethodName := ⟨RL, "floor", "(LChairStamps;IIII[J)I"⟩
abbrev cL_level : ByteArray := method_14_code
def yL_level : MethodName := ⟨RL, "level", "(LChairStamps;III[J)I"⟩
abbrev cL_bring : ByteArray := method_15_code
def yL_bring : MethodName := ⟨RL, "bring", "(LChairStamps;III[J)I"⟩
abbrev cL_saw : ByteArray := method_16_code
def yL_saw : MethodName := ⟨RL, "saw", "(LChairStamps;III[J)I"⟩
abbrev cL_shim : ByteArray := method_17_code
def yL_shim : MethodName := ⟨RL, "shim", "(LChairStamps;III[J)I"⟩
abbrev cL_test : ByteArray := method_18_code
def yL_test : MethodName := ⟨RL, "test", "(LChairStamps;I[J)I"⟩
abbrev cL_sit : ByteArray := method_19_code
def yL_sit : MethodName := ⟨RL, "sit", "(LChairStamps;II[J)I"⟩
abbrev cL_bound : ByteArray := method_20_code
def yL_bound : MethodName := ⟨RL, "bound", "(LChairStamps;III[J)I"⟩
abbrev cL_set : ByteArray := method_21_code
def yL_set : MethodName := ⟨RL, "set", "(LChairStamps;II[J)I"⟩
abbrev cL_undo : ByteArray := method_22_code
def yL_undo : MethodName := ⟨RL, "undo", "(LChairStamps;[J)I"⟩
abbrev cL_bestTurn : ByteArray := method_23_code
def yL_bestTurn : MethodName := ⟨RL, "bestTurn", "(LChairStamps;III[J)I"⟩
abbrev cL_bestSaw : ByteArray := method_24_code
def yL_bestSaw : MethodName := ⟨RL, "bestSaw", "(LChairStamps;I[J)I"⟩
abbrev cL_failsIn : ByteArray := method_25_code
def yL_failsIn : MethodName := ⟨RL, "failsIn", "(LChairStamps;II[J)I"⟩
abbrev cL_bestFloor : ByteArray := method_26_code
def yL_bestFloor : MethodName := ⟨RL, "bestFloor", "(LChairStamps;I[J)I"⟩
abbrev cL_runScript : ByteArray := method_27_code
def yL_runScript : MethodName := ⟨RL, "runScript", "(LChairStamps;IJ[J)I"⟩
abbrev cL_simulate : ByteArray := method_28_code
def yL_simulate : MethodName := ⟨RL, "simulate", "(LChairStamps;JI[J)I"⟩
abbrev cL_save : ByteArray := method_29_code
def yL_save : MethodName := ⟨RL, "save", "(LChairStamps;I[J)I"⟩
abbrev cL_restore : ByteArray := method_30_code
def yL_restore : MethodName := ⟨RL, "restore", "(LChairStamps;I[J)I"⟩
abbrev cL_law : ByteArray := code
def yL_law : MethodName := ⟨RL, "law", "([I)Z"⟩
abbrev vwCl : List vw_C := [(RX0, TX0, 3), (RX1, TX1, 12), (RX2, TX2, 5), (RX3, TX3, 2), (RX4, TX4, 6), (RX5, TX5, 11)]
end
section
theorem dJ0_length_8abf5_0 : decode cJ0_length_8abf5 0 = .ok (.aload_n 0, 1) := by decide +kernel
theorem dJ0_length_8abf5_1 : decode cJ0_length_8abf5 1 = .ok (.getfield 9, 3) := by decide +kernel
theorem dJ0_length_8abf5_4 : decode cJ0_length_8abf5 4 = .ok (.arraylength, 1) := by decide +kernel
theorem dJ0_length_8abf5_5 : decode cJ0_length_8abf5 5 = .ok (.aload_n 0, 1) := by decide +kernel
theorem dJ0_length_8abf5_6 : decode cJ0_length_8abf5 6 = .ok (.invokevirtual 335, 3) := by decide +kernel
theorem dJ0_length_8abf5_9 : decode cJ0_length_8abf5 9 = .ok (.ishr, 1) := by decide +kernel
theorem dJ0_length_8abf5_10 : decode cJ0_length_8abf5 10 = .ok (.ireturn, 1) := by decide +kernel
theorem dJ0_indexOf_0f7a4_0 : decode cJ0_indexOf_0f7a4 0 = .ok (.aload_n 0, 1) := by decide +kernel
theorem dJ0_indexOf_0f7a4_1 : decode cJ0_indexOf_0f7a4 1 = .ok (.iload_n 1, 1) := by decide +kernel
theorem dJ0_indexOf_0f7a4_2 : decode cJ0_indexOf_0f7a4 2 = .ok (.iconst 0, 1) := by decide +kernel
theorem dJ0_indexOf_0f7a4_3 : decode cJ0_indexOf_0f7a4 3 = .ok (.invokevirtual 633, 3) := by decide +kernel
theorem dJ0_indexOf_0f7a4_6 : decode cJ0_indexOf_0f7a4 6 = .ok (.ireturn, 1) := by decide +kernel
theorem dJ0_indexOf_7cf53_0 : decode cJ0_indexOf_7cf53 0 = .ok (.aload_n 0, 1) := by decide +kernel
theorem dJ0_indexOf_7cf53_1 : decode cJ0_indexOf_7cf53 1 = .ok (.invokevirtual 492, 3) := by decide +kernel
theorem dJ0_indexOf_7cf53_4 : decode cJ0_indexOf_7cf53 4 = .ok (.ifCond .eq 19, 3) := by decide +kernel
theorem dJ0_indexOf_7cf53_7 : decode cJ0_indexOf_7cf53 7 = .ok (.aload_n 0, 1) := by decide +kernel
theorem dJ0_indexOf_7cf53_8 : decode cJ0_indexOf_7cf53 8 = .ok (.getfield 9, 3) := by decide +kernel
theorem dJ0_indexOf_7cf53_11 : decode cJ0_indexOf_7cf53 11 = .ok (.iload_n 1, 1) := by decide +kernel
theorem dJ0_indexOf_7cf53_12 : decode cJ0_indexOf_7cf53 12 = .ok (.iload_n 2, 1) := by decide +kernel
theorem dJ0_indexOf_7cf53_13 : decode cJ0_indexOf_7cf53 13 = .ok (.aload_n 0, 1) := by decide +kernel
theorem dJ0_indexOf_7cf53_14 : decode cJ0_indexOf_7cf53 14 = .ok (.invokevirtual 505, 3) := by decide +kernel
theorem dJ0_indexOf_7cf53_17 : decode cJ0_indexOf_7cf53 17 = .ok (.invokestatic 637, 3) := by decide +kernel
theorem dJ0_indexOf_7cf53_20 : decode cJ0_indexOf_7cf53 20 = .ok (.goto 16, 3) := by decide +kernel
theorem dJ0_indexOf_7cf53_23 : decode cJ0_indexOf_7cf53 23 = .ok (.aload_n 0, 1) := by decide +kernel
theorem dJ0_indexOf_7cf53_24 : decode cJ0_indexOf_7cf53 24 = .ok (.getfield 9, 3) := by decide +kernel
theorem dJ0_indexOf_7cf53_27 : decode cJ0_indexOf_7cf53 27 = .ok (.iload_n 1, 1) := by decide +kernel
theorem dJ0_indexOf_7cf53_28 : decode cJ0_indexOf_7cf53 28 = .ok (.iload_n 2, 1) := by decide +kernel
theorem dJ0_indexOf_7cf53_29 : decode cJ0_indexOf_7cf53 29 = .ok (.aload_n 0, 1) := by decide +kernel
theorem dJ0_indexOf_7cf53_30 : decode cJ0_indexOf_7cf53 30 = .ok (.invokevirtual 505, 3) := by decide +kernel
theorem dJ0_indexOf_7cf53_33 : decode cJ0_indexOf_7cf53 33 = .ok (.invokestatic 640, 3) := by decide +kernel
theorem dJ0_indexOf_7cf53_36 : decode cJ0_indexOf_7cf53 36 = .ok (.ireturn, 1) := by decide +kernel
theorem dJ0_coder_7d493_0 : decode cJ0_coder_7d493 0 = .ok (.getstatic 38, 3) := by decide +kernel
theorem dJ0_coder_7d493_3 : decode cJ0_coder_7d493 3 = .ok (.ifCond .eq 10, 3) := by decide +kernel
theorem dJ0_coder_7d493_6 : decode cJ0_coder_7d493 6 = .ok (.aload_n 0, 1) := by decide +kernel
theorem dJ0_coder_7d493_7 : decode cJ0_coder_7d493 7 = .ok (.getfield 15, 3) := by decide +kernel
theorem dJ0_coder_7d493_10 : decode cJ0_coder_7d493 10 = .ok (.goto 4, 3) := by decide +kernel
theorem dJ0_coder_7d493_13 : decode cJ0_coder_7d493 13 = .ok (.iconst 1, 1) := by decide +kernel
theorem dJ0_coder_7d493_14 : decode cJ0_coder_7d493 14 = .ok (.ireturn, 1) := by decide +kernel
theorem dJ0_isLatin1_aae02_0 : decode cJ0_isLatin1_aae02 0 = .ok (.getstatic 38, 3) := by decide +kernel
theorem dJ0_isLatin1_aae02_3 : decode cJ0_isLatin1_aae02 3 = .ok (.ifCond .eq 14, 3) := by decide +kernel
theorem dJ0_isLatin1_aae02_6 : decode cJ0_isLatin1_aae02 6 = .ok (.aload_n 0, 1) := by decide +kernel
theorem dJ0_isLatin1_aae02_7 : decode cJ0_isLatin1_aae02 7 = .ok (.getfield 15, 3) := by decide +kernel
theorem dJ0_isLatin1_aae02_10 : decode cJ0_isLatin1_aae02 10 = .ok (.ifCond .ne 7, 3) := by decide +kernel
theorem dJ0_isLatin1_aae02_13 : decode cJ0_isLatin1_aae02 13 = .ok (.iconst 1, 1) := by decide +kernel
theorem dJ0_isLatin1_aae02_14 : decode cJ0_isLatin1_aae02 14 = .ok (.goto 4, 3) := by decide +kernel
theorem dJ0_isLatin1_aae02_17 : decode cJ0_isLatin1_aae02 17 = .ok (.iconst 0, 1) := by decide +kernel
theorem dJ0_isLatin1_aae02_18 : decode cJ0_isLatin1_aae02 18 = .ok (.ireturn, 1) := by decide +kernel
theorem dJ0_checkBoundsBeginEnd_23922_0 : decode cJ0_checkBoundsBeginEnd_23922 0 = .ok (.iload_n 0, 1) := by decide +kernel
theorem dJ0_checkBoundsBeginEnd_23922_1 : decode cJ0_checkBoundsBeginEnd_23922 1 = .ok (.iload_n 1, 1) := by decide +kernel
theorem dJ0_checkBoundsBeginEnd_23922_2 : decode cJ0_checkBoundsBeginEnd_23922 2 = .ok (.iload_n 2, 1) := by decide +kernel
theorem dJ0_checkBoundsBeginEnd_23922_3 : decode cJ0_checkBoundsBeginEnd_23922 3 = .ok (.getstatic 1053, 3) := by decide +kernel
theorem dJ0_checkBoundsBeginEnd_23922_6 : decode cJ0_checkBoundsBeginEnd_23922 6 = .ok (.invokestatic 1062, 3) := by decide +kernel
theorem dJ0_checkBoundsBeginEnd_23922_9 : decode cJ0_checkBoundsBeginEnd_23922 9 = .ok (.pop, 1) := by decide +kernel
theorem dJ0_checkBoundsBeginEnd_23922_10 : decode cJ0_checkBoundsBeginEnd_23922 10 = .ok (.return_, 1) := by decide +kernel
theorem dJ1_canEncode_9a6ad_0 : decode cJ1_canEncode_9a6ad 0 = .ok (.iload_n 0, 1) := by decide +kernel
theorem dJ1_canEncode_9a6ad_1 : decode cJ1_canEncode_9a6ad 1 = .ok (.ifCond .lt 14, 3) := by decide +kernel
theorem dJ1_canEncode_9a6ad_4 : decode cJ1_canEncode_9a6ad 4 = .ok (.iload_n 0, 1) := by decide +kernel
theorem dJ1_canEncode_9a6ad_5 : decode cJ1_canEncode_9a6ad 5 = .ok (.sipush 255, 3) := by decide +kernel
theorem dJ1_canEncode_9a6ad_8 : decode cJ1_canEncode_9a6ad 8 = .ok (.if_icmp .gt 7, 3) := by decide +kernel
theorem dJ1_canEncode_9a6ad_11 : decode cJ1_canEncode_9a6ad 11 = .ok (.iconst 1, 1) := by decide +kernel
theorem dJ1_canEncode_9a6ad_12 : decode cJ1_canEncode_9a6ad 12 = .ok (.goto 4, 3) := by decide +kernel
theorem dJ1_canEncode_9a6ad_15 : decode cJ1_canEncode_9a6ad 15 = .ok (.iconst 0, 1) := by decide +kernel
theorem dJ1_canEncode_9a6ad_16 : decode cJ1_canEncode_9a6ad 16 = .ok (.ireturn, 1) := by decide +kernel
theorem dJ1_indexOf_4cfef_0 : decode cJ1_indexOf_4cfef 0 = .ok (.iload_n 1, 1) := by decide +kernel
theorem dJ1_indexOf_4cfef_1 : decode cJ1_indexOf_4cfef 1 = .ok (.invokestatic 88, 3) := by decide +kernel
theorem dJ1_indexOf_4cfef_4 : decode cJ1_indexOf_4cfef 4 = .ok (.ifCond .ne 5, 3) := by decide +kernel
theorem dJ1_indexOf_4cfef_7 : decode cJ1_indexOf_4cfef 7 = .ok (.iconst (-1), 1) := by decide +kernel
theorem dJ1_indexOf_4cfef_8 : decode cJ1_indexOf_4cfef 8 = .ok (.ireturn, 1) := by decide +kernel
theorem dJ1_indexOf_4cfef_9 : decode cJ1_indexOf_4cfef 9 = .ok (.iload_n 2, 1) := by decide +kernel
theorem dJ1_indexOf_4cfef_10 : decode cJ1_indexOf_4cfef 10 = .ok (.iconst 0, 1) := by decide +kernel
theorem dJ1_indexOf_4cfef_11 : decode cJ1_indexOf_4cfef 11 = .ok (.invokestatic 92, 3) := by decide +kernel
theorem dJ1_indexOf_4cfef_14 : decode cJ1_indexOf_4cfef 14 = .ok (.istore_n 2, 1) := by decide +kernel
theorem dJ1_indexOf_4cfef_15 : decode cJ1_indexOf_4cfef 15 = .ok (.iload_n 3, 1) := by decide +kernel
theorem dJ1_indexOf_4cfef_16 : decode cJ1_indexOf_4cfef 16 = .ok (.aload_n 0, 1) := by decide +kernel
theorem dJ1_indexOf_4cfef_17 : decode cJ1_indexOf_4cfef 17 = .ok (.arraylength, 1) := by decide +kernel
theorem dJ1_indexOf_4cfef_18 : decode cJ1_indexOf_4cfef 18 = .ok (.invokestatic 38, 3) := by decide +kernel
theorem dJ1_indexOf_4cfef_21 : decode cJ1_indexOf_4cfef 21 = .ok (.istore_n 3, 1) := by decide +kernel
theorem dJ1_indexOf_4cfef_22 : decode cJ1_indexOf_4cfef 22 = .ok (.iload_n 2, 1) := by decide +kernel
theorem dJ1_indexOf_4cfef_23 : decode cJ1_indexOf_4cfef 23 = .ok (.iload_n 3, 1) := by decide +kernel
theorem dJ1_indexOf_4cfef_24 : decode cJ1_indexOf_4cfef 24 = .ok (.if_icmp .lt 5, 3) := by decide +kernel
theorem dJ1_indexOf_4cfef_27 : decode cJ1_indexOf_4cfef 27 = .ok (.iconst (-1), 1) := by decide +kernel
theorem dJ1_indexOf_4cfef_28 : decode cJ1_indexOf_4cfef 28 = .ok (.ireturn, 1) := by decide +kernel
theorem dJ1_indexOf_4cfef_29 : decode cJ1_indexOf_4cfef 29 = .ok (.aload_n 0, 1) := by decide +kernel
theorem dJ1_indexOf_4cfef_30 : decode cJ1_indexOf_4cfef 30 = .ok (.iload_n 1, 1) := by decide +kernel
theorem dJ1_indexOf_4cfef_31 : decode cJ1_indexOf_4cfef 31 = .ok (.iload_n 2, 1) := by decide +kernel
theorem dJ1_indexOf_4cfef_32 : decode cJ1_indexOf_4cfef 32 = .ok (.iload_n 3, 1) := by decide +kernel
theorem dJ1_indexOf_4cfef_33 : decode cJ1_indexOf_4cfef 33 = .ok (.invokestatic 95, 3) := by decide +kernel
theorem dJ1_indexOf_4cfef_36 : decode cJ1_indexOf_4cfef 36 = .ok (.ireturn, 1) := by decide +kernel
theorem dJ1_indexOfChar_4cfef_0 : decode cJ1_indexOfChar_4cfef 0 = .ok (.iload_n 1, 1) := by decide +kernel
theorem dJ1_indexOfChar_4cfef_1 : decode cJ1_indexOfChar_4cfef 1 = .ok (.i2b, 1) := by decide +kernel
theorem dJ1_indexOfChar_4cfef_2 : decode cJ1_indexOfChar_4cfef 2 = .ok (.istore 4, 2) := by decide +kernel
theorem dJ1_indexOfChar_4cfef_4 : decode cJ1_indexOfChar_4cfef 4 = .ok (.iload_n 2, 1) := by decide +kernel
theorem dJ1_indexOfChar_4cfef_5 : decode cJ1_indexOfChar_4cfef 5 = .ok (.istore 5, 2) := by decide +kernel
theorem dJ1_indexOfChar_4cfef_7 : decode cJ1_indexOfChar_4cfef 7 = .ok (.iload 5, 2) := by decide +kernel
theorem dJ1_indexOfChar_4cfef_9 : decode cJ1_indexOfChar_4cfef 9 = .ok (.iload_n 3, 1) := by decide +kernel
theorem dJ1_indexOfChar_4cfef_10 : decode cJ1_indexOfChar_4cfef 10 = .ok (.if_icmp .ge 21, 3) := by decide +kernel
theorem dJ1_indexOfChar_4cfef_13 : decode cJ1_indexOfChar_4cfef 13 = .ok (.aload_n 0, 1) := by decide +kernel
theorem dJ1_indexOfChar_4cfef_14 : decode cJ1_indexOfChar_4cfef 14 = .ok (.iload 5, 2) := by decide +kernel
theorem dJ1_indexOfChar_4cfef_16 : decode cJ1_indexOfChar_4cfef 16 = .ok (.baload, 1) := by decide +kernel
theorem dJ1_indexOfChar_4cfef_17 : decode cJ1_indexOfChar_4cfef 17 = .ok (.iload 4, 2) := by decide +kernel
theorem dJ1_indexOfChar_4cfef_19 : decode cJ1_indexOfChar_4cfef 19 = .ok (.if_icmp .ne 6, 3) := by decide +kernel
theorem dJ1_indexOfChar_4cfef_22 : decode cJ1_indexOfChar_4cfef 22 = .ok (.iload 5, 2) := by decide +kernel
theorem dJ1_indexOfChar_4cfef_24 : decode cJ1_indexOfChar_4cfef 24 = .ok (.ireturn, 1) := by decide +kernel
theorem dJ1_indexOfChar_4cfef_25 : decode cJ1_indexOfChar_4cfef 25 = .ok (.iinc 5 1, 3) := by decide +kernel
theorem dJ1_indexOfChar_4cfef_28 : decode cJ1_indexOfChar_4cfef 28 = .ok (.goto (-21), 3) := by decide +kernel
theorem dJ1_indexOfChar_4cfef_31 : decode cJ1_indexOfChar_4cfef 31 = .ok (.iconst (-1), 1) := by decide +kernel
theorem dJ1_indexOfChar_4cfef_32 : decode cJ1_indexOfChar_4cfef 32 = .ok (.ireturn, 1) := by decide +kernel
theorem dJ11_isValidCodePoint_9a6ad_0 : decode cJ11_isValidCodePoint_9a6ad 0 = .ok (.iload_n 0, 1) := by decide +kernel
theorem dJ11_isValidCodePoint_9a6ad_1 : decode cJ11_isValidCodePoint_9a6ad 1 = .ok (.bipush 16, 2) := by decide +kernel
theorem dJ11_isValidCodePoint_9a6ad_3 : decode cJ11_isValidCodePoint_9a6ad 3 = .ok (.iushr, 1) := by decide +kernel
theorem dJ11_isValidCodePoint_9a6ad_4 : decode cJ11_isValidCodePoint_9a6ad 4 = .ok (.istore_n 1, 1) := by decide +kernel
theorem dJ11_isValidCodePoint_9a6ad_5 : decode cJ11_isValidCodePoint_9a6ad 5 = .ok (.iload_n 1, 1) := by decide +kernel
theorem dJ11_isValidCodePoint_9a6ad_6 : decode cJ11_isValidCodePoint_9a6ad 6 = .ok (.bipush 17, 2) := by decide +kernel
theorem dJ11_isValidCodePoint_9a6ad_8 : decode cJ11_isValidCodePoint_9a6ad 8 = .ok (.if_icmp .ge 7, 3) := by decide +kernel
theorem dJ11_isValidCodePoint_9a6ad_11 : decode cJ11_isValidCodePoint_9a6ad 11 = .ok (.iconst 1, 1) := by decide +kernel
theorem dJ11_isValidCodePoint_9a6ad_12 : decode cJ11_isValidCodePoint_9a6ad 12 = .ok (.goto 4, 3) := by decide +kernel
theorem dJ11_isValidCodePoint_9a6ad_15 : decode cJ11_isValidCodePoint_9a6ad 15 = .ok (.iconst 0, 1) := by decide +kernel
theorem dJ11_isValidCodePoint_9a6ad_16 : decode cJ11_isValidCodePoint_9a6ad 16 = .ok (.ireturn, 1) := by decide +kernel
theorem dJ11_highSurrogate_5068e_0 : decode cJ11_highSurrogate_5068e 0 = .ok (.iload_n 0, 1) := by decide +kernel
theorem dJ11_highSurrogate_5068e_1 : decode cJ11_highSurrogate_5068e 1 = .ok (.bipush 10, 2) := by decide +kernel
theorem dJ11_highSurrogate_5068e_3 : decode cJ11_highSurrogate_5068e 3 = .ok (.iushr, 1) := by decide +kernel
theorem dJ11_highSurrogate_5068e_4 : decode cJ11_highSurrogate_5068e 4 = .ok (.ldc 110, 2) := by decide +kernel
theorem dJ11_highSurrogate_5068e_6 : decode cJ11_highSurrogate_5068e 6 = .ok (.iadd, 1) := by decide +kernel
theorem dJ11_highSurrogate_5068e_7 : decode cJ11_highSurrogate_5068e 7 = .ok (.i2c, 1) := by decide +kernel
theorem dJ11_highSurrogate_5068e_8 : decode cJ11_highSurrogate_5068e 8 = .ok (.ireturn, 1) := by decide +kernel
theorem dJ11_lowSurrogate_5068e_0 : decode cJ11_lowSurrogate_5068e 0 = .ok (.iload_n 0, 1) := by decide +kernel
theorem dJ11_lowSurrogate_5068e_1 : decode cJ11_lowSurrogate_5068e 1 = .ok (.sipush 1023, 3) := by decide +kernel
theorem dJ11_lowSurrogate_5068e_4 : decode cJ11_lowSurrogate_5068e 4 = .ok (.iand, 1) := by decide +kernel
theorem dJ11_lowSurrogate_5068e_5 : decode cJ11_lowSurrogate_5068e 5 = .ok (.ldc 76, 2) := by decide +kernel
theorem dJ11_lowSurrogate_5068e_7 : decode cJ11_lowSurrogate_5068e 7 = .ok (.iadd, 1) := by decide +kernel
theorem dJ11_lowSurrogate_5068e_8 : decode cJ11_lowSurrogate_5068e 8 = .ok (.i2c, 1) := by decide +kernel
theorem dJ11_lowSurrogate_5068e_9 : decode cJ11_lowSurrogate_5068e 9 = .ok (.ireturn, 1) := by decide +kernel
theorem dJ2_getChar_3b067_0 : decode cJ2_getChar_3b067 0 = .ok (.getstatic 44, 3) := by decide +kernel
theorem dJ2_getChar_3b067_3 : decode cJ2_getChar_3b067 3 = .ok (.ifCond .ne 25, 3) := by decide +kernel
theorem dJ2_getChar_3b067_6 : decode cJ2_getChar_3b067 6 = .ok (.iload_n 1, 1) := by decide +kernel
theorem dJ2_getChar_3b067_7 : decode cJ2_getChar_3b067 7 = .ok (.ifCond .lt 11, 3) := by decide +kernel
theorem dJ2_getChar_3b067_10 : decode cJ2_getChar_3b067 10 = .ok (.iload_n 1, 1) := by decide +kernel
theorem dJ2_getChar_3b067_11 : decode cJ2_getChar_3b067 11 = .ok (.aload_n 0, 1) := by decide +kernel
theorem dJ2_getChar_3b067_12 : decode cJ2_getChar_3b067 12 = .ok (.invokestatic 48, 3) := by decide +kernel
theorem dJ2_getChar_3b067_15 : decode cJ2_getChar_3b067 15 = .ok (.if_icmp .lt 13, 3) := by decide +kernel
theorem dJ2_getChar_3b067_18 : decode cJ2_getChar_3b067 18 = .ok (.new 52, 3) := by decide +kernel
theorem dJ2_getChar_3b067_21 : decode cJ2_getChar_3b067 21 = .ok (.dup, 1) := by decide +kernel
theorem dJ2_getChar_3b067_22 : decode cJ2_getChar_3b067 22 = .ok (.ldc 54, 2) := by decide +kernel
theorem dJ2_getChar_3b067_24 : decode cJ2_getChar_3b067 24 = .ok (.invokespecial 56, 3) := by decide +kernel
theorem dJ2_getChar_3b067_27 : decode cJ2_getChar_3b067 27 = .ok (.athrow, 1) := by decide +kernel
theorem dJ2_getChar_3b067_28 : decode cJ2_getChar_3b067 28 = .ok (.iload_n 1, 1) := by decide +kernel
theorem dJ2_getChar_3b067_29 : decode cJ2_getChar_3b067 29 = .ok (.iconst 1, 1) := by decide +kernel
theorem dJ2_getChar_3b067_30 : decode cJ2_getChar_3b067 30 = .ok (.ishl, 1) := by decide +kernel
theorem dJ2_getChar_3b067_31 : decode cJ2_getChar_3b067 31 = .ok (.istore_n 1, 1) := by decide +kernel
theorem dJ2_getChar_3b067_32 : decode cJ2_getChar_3b067 32 = .ok (.aload_n 0, 1) := by decide +kernel
theorem dJ2_getChar_3b067_33 : decode cJ2_getChar_3b067 33 = .ok (.iload_n 1, 1) := by decide +kernel
theorem dJ2_getChar_3b067_34 : decode cJ2_getChar_3b067 34 = .ok (.iinc 1 1, 3) := by decide +kernel
theorem dJ2_getChar_3b067_37 : decode cJ2_getChar_3b067 37 = .ok (.baload, 1) := by decide +kernel
theorem dJ2_getChar_3b067_38 : decode cJ2_getChar_3b067 38 = .ok (.sipush 255, 3) := by decide +kernel
theorem dJ2_getChar_3b067_41 : decode cJ2_getChar_3b067 41 = .ok (.iand, 1) := by decide +kernel
theorem dJ2_getChar_3b067_42 : decode cJ2_getChar_3b067 42 = .ok (.getstatic 59, 3) := by decide +kernel
theorem dJ2_getChar_3b067_45 : decode cJ2_getChar_3b067 45 = .ok (.ishl, 1) := by decide +kernel
theorem dJ2_getChar_3b067_46 : decode cJ2_getChar_3b067 46 = .ok (.aload_n 0, 1) := by decide +kernel
theorem dJ2_getChar_3b067_47 : decode cJ2_getChar_3b067 47 = .ok (.iload_n 1, 1) := by decide +kernel
theorem dJ2_getChar_3b067_48 : decode cJ2_getChar_3b067 48 = .ok (.baload, 1) := by decide +kernel
theorem dJ2_getChar_3b067_49 : decode cJ2_getChar_3b067 49 = .ok (.sipush 255, 3) := by decide +kernel
theorem dJ2_getChar_3b067_52 : decode cJ2_getChar_3b067 52 = .ok (.iand, 1) := by decide +kernel
theorem dJ2_getChar_3b067_53 : decode cJ2_getChar_3b067 53 = .ok (.getstatic 63, 3) := by decide +kernel
theorem dJ2_getChar_3b067_56 : decode cJ2_getChar_3b067 56 = .ok (.ishl, 1) := by decide +kernel
theorem dJ2_getChar_3b067_57 : decode cJ2_getChar_3b067 57 = .ok (.ior, 1) := by decide +kernel
theorem dJ2_getChar_3b067_58 : decode cJ2_getChar_3b067 58 = .ok (.i2c, 1) := by decide +kernel
theorem dJ2_getChar_3b067_59 : decode cJ2_getChar_3b067 59 = .ok (.ireturn, 1) := by decide +kernel
theorem dJ2_length_9d52b_0 : decode cJ2_length_9d52b 0 = .ok (.aload_n 0, 1) := by decide +kernel
theorem dJ2_length_9d52b_1 : decode cJ2_length_9d52b 1 = .ok (.arraylength, 1) := by decide +kernel
theorem dJ2_length_9d52b_2 : decode cJ2_length_9d52b 2 = .ok (.iconst 1, 1) := by decide +kernel
theorem dJ2_length_9d52b_3 : decode cJ2_length_9d52b 3 = .ok (.ishr, 1) := by decide +kernel
theorem dJ2_length_9d52b_4 : decode cJ2_length_9d52b 4 = .ok (.ireturn, 1) := by decide +kernel
theorem dJ2_indexOf_4cfef_0 : decode cJ2_indexOf_4cfef 0 = .ok (.iload_n 2, 1) := by decide +kernel
theorem dJ2_indexOf_4cfef_1 : decode cJ2_indexOf_4cfef 1 = .ok (.iconst 0, 1) := by decide +kernel
theorem dJ2_indexOf_4cfef_2 : decode cJ2_indexOf_4cfef 2 = .ok (.invokestatic 224, 3) := by decide +kernel
theorem dJ2_indexOf_4cfef_5 : decode cJ2_indexOf_4cfef 5 = .ok (.istore_n 2, 1) := by decide +kernel
theorem dJ2_indexOf_4cfef_6 : decode cJ2_indexOf_4cfef 6 = .ok (.iload_n 3, 1) := by decide +kernel
theorem dJ2_indexOf_4cfef_7 : decode cJ2_indexOf_4cfef 7 = .ok (.aload_n 0, 1) := by decide +kernel
theorem dJ2_indexOf_4cfef_8 : decode cJ2_indexOf_4cfef 8 = .ok (.arraylength, 1) := by decide +kernel
theorem dJ2_indexOf_4cfef_9 : decode cJ2_indexOf_4cfef 9 = .ok (.iconst 1, 1) := by decide +kernel
theorem dJ2_indexOf_4cfef_10 : decode cJ2_indexOf_4cfef 10 = .ok (.ishr, 1) := by decide +kernel
theorem dJ2_indexOf_4cfef_11 : decode cJ2_indexOf_4cfef 11 = .ok (.invokestatic 183, 3) := by decide +kernel
theorem dJ2_indexOf_4cfef_14 : decode cJ2_indexOf_4cfef 14 = .ok (.istore_n 3, 1) := by decide +kernel
theorem dJ2_indexOf_4cfef_15 : decode cJ2_indexOf_4cfef 15 = .ok (.iload_n 2, 1) := by decide +kernel
theorem dJ2_indexOf_4cfef_16 : decode cJ2_indexOf_4cfef 16 = .ok (.iload_n 3, 1) := by decide +kernel
theorem dJ2_indexOf_4cfef_17 : decode cJ2_indexOf_4cfef 17 = .ok (.if_icmp .lt 5, 3) := by decide +kernel
theorem dJ2_indexOf_4cfef_20 : decode cJ2_indexOf_4cfef 20 = .ok (.iconst (-1), 1) := by decide +kernel
theorem dJ2_indexOf_4cfef_21 : decode cJ2_indexOf_4cfef 21 = .ok (.ireturn, 1) := by decide +kernel
theorem dJ2_indexOf_4cfef_22 : decode cJ2_indexOf_4cfef 22 = .ok (.iload_n 1, 1) := by decide +kernel
theorem dJ2_indexOf_4cfef_23 : decode cJ2_indexOf_4cfef 23 = .ok (.ldc 227, 2) := by decide +kernel
theorem dJ2_indexOf_4cfef_25 : decode cJ2_indexOf_4cfef 25 = .ok (.if_icmp .ge 11, 3) := by decide +kernel
theorem dJ2_indexOf_4cfef_28 : decode cJ2_indexOf_4cfef 28 = .ok (.aload_n 0, 1) := by decide +kernel
theorem dJ2_indexOf_4cfef_29 : decode cJ2_indexOf_4cfef 29 = .ok (.iload_n 1, 1) := by decide +kernel
theorem dJ2_indexOf_4cfef_30 : decode cJ2_indexOf_4cfef 30 = .ok (.iload_n 2, 1) := by decide +kernel
theorem dJ2_indexOf_4cfef_31 : decode cJ2_indexOf_4cfef 31 = .ok (.iload_n 3, 1) := by decide +kernel
theorem dJ2_indexOf_4cfef_32 : decode cJ2_indexOf_4cfef 32 = .ok (.invokestatic 228, 3) := by decide +kernel
theorem dJ2_indexOf_4cfef_35 : decode cJ2_indexOf_4cfef 35 = .ok (.ireturn, 1) := by decide +kernel
theorem dJ2_indexOf_4cfef_36 : decode cJ2_indexOf_4cfef 36 = .ok (.aload_n 0, 1) := by decide +kernel
theorem dJ2_indexOf_4cfef_37 : decode cJ2_indexOf_4cfef 37 = .ok (.iload_n 1, 1) := by decide +kernel
theorem dJ2_indexOf_4cfef_38 : decode cJ2_indexOf_4cfef 38 = .ok (.iload_n 2, 1) := by decide +kernel
theorem dJ2_indexOf_4cfef_39 : decode cJ2_indexOf_4cfef 39 = .ok (.iload_n 3, 1) := by decide +kernel
theorem dJ2_indexOf_4cfef_40 : decode cJ2_indexOf_4cfef 40 = .ok (.invokestatic 232, 3) := by decide +kernel
theorem dJ2_indexOf_4cfef_43 : decode cJ2_indexOf_4cfef 43 = .ok (.ireturn, 1) := by decide +kernel
theorem dJ2_indexOfChar_4cfef_0 : decode cJ2_indexOfChar_4cfef 0 = .ok (.iload_n 2, 1) := by decide +kernel
theorem dJ2_indexOfChar_4cfef_1 : decode cJ2_indexOfChar_4cfef 1 = .ok (.iload_n 3, 1) := by decide +kernel
theorem dJ2_indexOfChar_4cfef_2 : decode cJ2_indexOfChar_4cfef 2 = .ok (.aload_n 0, 1) := by decide +kernel
theorem dJ2_indexOfChar_4cfef_3 : decode cJ2_indexOfChar_4cfef 3 = .ok (.invokestatic 96, 3) := by decide +kernel
theorem dJ2_indexOfChar_4cfef_6 : decode cJ2_indexOfChar_4cfef 6 = .ok (.aload_n 0, 1) := by decide +kernel
theorem dJ2_indexOfChar_4cfef_7 : decode cJ2_indexOfChar_4cfef 7 = .ok (.iload_n 1, 1) := by decide +kernel
theorem dJ2_indexOfChar_4cfef_8 : decode cJ2_indexOfChar_4cfef 8 = .ok (.iload_n 2, 1) := by decide +kernel
theorem dJ2_indexOfChar_4cfef_9 : decode cJ2_indexOfChar_4cfef 9 = .ok (.iload_n 3, 1) := by decide +kernel
theorem dJ2_indexOfChar_4cfef_10 : decode cJ2_indexOfChar_4cfef 10 = .ok (.invokestatic 244, 3) := by decide +kernel
theorem dJ2_indexOfChar_4cfef_13 : decode cJ2_indexOfChar_4cfef 13 = .ok (.ireturn, 1) := by decide +kernel
theorem dJ2_indexOfCharUnsafe_4cfef_0 : decode cJ2_indexOfCharUnsafe_4cfef 0 = .ok (.iload_n 2, 1) := by decide +kernel
theorem dJ2_indexOfCharUnsafe_4cfef_1 : decode cJ2_indexOfCharUnsafe_4cfef 1 = .ok (.istore 4, 2) := by decide +kernel
theorem dJ2_indexOfCharUnsafe_4cfef_3 : decode cJ2_indexOfCharUnsafe_4cfef 3 = .ok (.iload 4, 2) := by decide +kernel
theorem dJ2_indexOfCharUnsafe_4cfef_5 : decode cJ2_indexOfCharUnsafe_4cfef 5 = .ok (.iload_n 3, 1) := by decide +kernel
theorem dJ2_indexOfCharUnsafe_4cfef_6 : decode cJ2_indexOfCharUnsafe_4cfef 6 = .ok (.if_icmp .ge 22, 3) := by decide +kernel
theorem dJ2_indexOfCharUnsafe_4cfef_9 : decode cJ2_indexOfCharUnsafe_4cfef 9 = .ok (.aload_n 0, 1) := by decide +kernel
theorem dJ2_indexOfCharUnsafe_4cfef_10 : decode cJ2_indexOfCharUnsafe_4cfef 10 = .ok (.iload 4, 2) := by decide +kernel
theorem dJ2_indexOfCharUnsafe_4cfef_12 : decode cJ2_indexOfCharUnsafe_4cfef 12 = .ok (.invokestatic 71, 3) := by decide +kernel
theorem dJ2_indexOfCharUnsafe_4cfef_15 : decode cJ2_indexOfCharUnsafe_4cfef 15 = .ok (.iload_n 1, 1) := by decide +kernel
theorem dJ2_indexOfCharUnsafe_4cfef_16 : decode cJ2_indexOfCharUnsafe_4cfef 16 = .ok (.if_icmp .ne 6, 3) := by decide +kernel
theorem dJ2_indexOfCharUnsafe_4cfef_19 : decode cJ2_indexOfCharUnsafe_4cfef 19 = .ok (.iload 4, 2) := by decide +kernel
theorem dJ2_indexOfCharUnsafe_4cfef_21 : decode cJ2_indexOfCharUnsafe_4cfef 21 = .ok (.ireturn, 1) := by decide +kernel
theorem dJ2_indexOfCharUnsafe_4cfef_22 : decode cJ2_indexOfCharUnsafe_4cfef 22 = .ok (.iinc 4 1, 3) := by decide +kernel
theorem dJ2_indexOfCharUnsafe_4cfef_25 : decode cJ2_indexOfCharUnsafe_4cfef 25 = .ok (.goto (-22), 3) := by decide +kernel
theorem dJ2_indexOfCharUnsafe_4cfef_28 : decode cJ2_indexOfCharUnsafe_4cfef 28 = .ok (.iconst (-1), 1) := by decide +kernel
theorem dJ2_indexOfCharUnsafe_4cfef_29 : decode cJ2_indexOfCharUnsafe_4cfef 29 = .ok (.ireturn, 1) := by decide +kernel
theorem dJ2_indexOfSupplementary_4cfef_0 : decode cJ2_indexOfSupplementary_4cfef 0 = .ok (.iload_n 1, 1) := by decide +kernel
theorem dJ2_indexOfSupplementary_4cfef_1 : decode cJ2_indexOfSupplementary_4cfef 1 = .ok (.invokestatic 164, 3) := by decide +kernel
theorem dJ2_indexOfSupplementary_4cfef_4 : decode cJ2_indexOfSupplementary_4cfef 4 = .ok (.ifCond .eq 65, 3) := by decide +kernel
theorem dJ2_indexOfSupplementary_4cfef_7 : decode cJ2_indexOfSupplementary_4cfef 7 = .ok (.iload_n 1, 1) := by decide +kernel
theorem dJ2_indexOfSupplementary_4cfef_8 : decode cJ2_indexOfSupplementary_4cfef 8 = .ok (.invokestatic 157, 3) := by decide +kernel
theorem dJ2_indexOfSupplementary_4cfef_11 : decode cJ2_indexOfSupplementary_4cfef 11 = .ok (.istore 4, 2) := by decide +kernel
theorem dJ2_indexOfSupplementary_4cfef_13 : decode cJ2_indexOfSupplementary_4cfef 13 = .ok (.iload_n 1, 1) := by decide +kernel
theorem dJ2_indexOfSupplementary_4cfef_14 : decode cJ2_indexOfSupplementary_4cfef 14 = .ok (.invokestatic 161, 3) := by decide +kernel
theorem dJ2_indexOfSupplementary_4cfef_17 : decode cJ2_indexOfSupplementary_4cfef 17 = .ok (.istore 5, 2) := by decide +kernel
theorem dJ2_indexOfSupplementary_4cfef_19 : decode cJ2_indexOfSupplementary_4cfef 19 = .ok (.iload_n 2, 1) := by decide +kernel
theorem dJ2_indexOfSupplementary_4cfef_20 : decode cJ2_indexOfSupplementary_4cfef 20 = .ok (.iload_n 3, 1) := by decide +kernel
theorem dJ2_indexOfSupplementary_4cfef_21 : decode cJ2_indexOfSupplementary_4cfef 21 = .ok (.aload_n 0, 1) := by decide +kernel
theorem dJ2_indexOfSupplementary_4cfef_22 : decode cJ2_indexOfSupplementary_4cfef 22 = .ok (.invokestatic 96, 3) := by decide +kernel
theorem dJ2_indexOfSupplementary_4cfef_25 : decode cJ2_indexOfSupplementary_4cfef 25 = .ok (.iload_n 2, 1) := by decide +kernel
theorem dJ2_indexOfSupplementary_4cfef_26 : decode cJ2_indexOfSupplementary_4cfef 26 = .ok (.istore 6, 2) := by decide +kernel
theorem dJ2_indexOfSupplementary_4cfef_28 : decode cJ2_indexOfSupplementary_4cfef 28 = .ok (.iload 6, 2) := by decide +kernel
theorem dJ2_indexOfSupplementary_4cfef_30 : decode cJ2_indexOfSupplementary_4cfef 30 = .ok (.iload_n 3, 1) := by decide +kernel
theorem dJ2_indexOfSupplementary_4cfef_31 : decode cJ2_indexOfSupplementary_4cfef 31 = .ok (.iconst 1, 1) := by decide +kernel
theorem dJ2_indexOfSupplementary_4cfef_32 : decode cJ2_indexOfSupplementary_4cfef 32 = .ok (.isub, 1) := by decide +kernel
theorem dJ2_indexOfSupplementary_4cfef_33 : decode cJ2_indexOfSupplementary_4cfef 33 = .ok (.if_icmp .ge 36, 3) := by decide +kernel
theorem dJ2_indexOfSupplementary_4cfef_36 : decode cJ2_indexOfSupplementary_4cfef 36 = .ok (.aload_n 0, 1) := by decide +kernel
theorem dJ2_indexOfSupplementary_4cfef_37 : decode cJ2_indexOfSupplementary_4cfef 37 = .ok (.iload 6, 2) := by decide +kernel
theorem dJ2_indexOfSupplementary_4cfef_39 : decode cJ2_indexOfSupplementary_4cfef 39 = .ok (.invokestatic 71, 3) := by decide +kernel
theorem dJ2_indexOfSupplementary_4cfef_42 : decode cJ2_indexOfSupplementary_4cfef 42 = .ok (.iload 4, 2) := by decide +kernel
theorem dJ2_indexOfSupplementary_4cfef_44 : decode cJ2_indexOfSupplementary_4cfef 44 = .ok (.if_icmp .ne 19, 3) := by decide +kernel
theorem dJ2_indexOfSupplementary_4cfef_47 : decode cJ2_indexOfSupplementary_4cfef 47 = .ok (.aload_n 0, 1) := by decide +kernel
theorem dJ2_indexOfSupplementary_4cfef_48 : decode cJ2_indexOfSupplementary_4cfef 48 = .ok (.iload 6, 2) := by decide +kernel
theorem dJ2_indexOfSupplementary_4cfef_50 : decode cJ2_indexOfSupplementary_4cfef 50 = .ok (.iconst 1, 1) := by decide +kernel
theorem dJ2_indexOfSupplementary_4cfef_51 : decode cJ2_indexOfSupplementary_4cfef 51 = .ok (.iadd, 1) := by decide +kernel
theorem dJ2_indexOfSupplementary_4cfef_52 : decode cJ2_indexOfSupplementary_4cfef 52 = .ok (.invokestatic 71, 3) := by decide +kernel
theorem dJ2_indexOfSupplementary_4cfef_55 : decode cJ2_indexOfSupplementary_4cfef 55 = .ok (.iload 5, 2) := by decide +kernel
theorem dJ2_indexOfSupplementary_4cfef_57 : decode cJ2_indexOfSupplementary_4cfef 57 = .ok (.if_icmp .ne 6, 3) := by decide +kernel
theorem dJ2_indexOfSupplementary_4cfef_60 : decode cJ2_indexOfSupplementary_4cfef 60 = .ok (.iload 6, 2) := by decide +kernel
theorem dJ2_indexOfSupplementary_4cfef_62 : decode cJ2_indexOfSupplementary_4cfef 62 = .ok (.ireturn, 1) := by decide +kernel
theorem dJ2_indexOfSupplementary_4cfef_63 : decode cJ2_indexOfSupplementary_4cfef 63 = .ok (.iinc 6 1, 3) := by decide +kernel
theorem dJ2_indexOfSupplementary_4cfef_66 : decode cJ2_indexOfSupplementary_4cfef 66 = .ok (.goto (-38), 3) := by decide +kernel
theorem dJ2_indexOfSupplementary_4cfef_69 : decode cJ2_indexOfSupplementary_4cfef 69 = .ok (.iconst (-1), 1) := by decide +kernel
theorem dJ2_indexOfSupplementary_4cfef_70 : decode cJ2_indexOfSupplementary_4cfef 70 = .ok (.ireturn, 1) := by decide +kernel
theorem dJ2_checkBoundsBeginEnd_d044e_0 : decode cJ2_checkBoundsBeginEnd_d044e 0 = .ok (.iload_n 0, 1) := by decide +kernel
theorem dJ2_checkBoundsBeginEnd_d044e_1 : decode cJ2_checkBoundsBeginEnd_d044e 1 = .ok (.iload_n 1, 1) := by decide +kernel
theorem dJ2_checkBoundsBeginEnd_d044e_2 : decode cJ2_checkBoundsBeginEnd_d044e 2 = .ok (.aload_n 2, 1) := by decide +kernel
theorem dJ2_checkBoundsBeginEnd_d044e_3 : decode cJ2_checkBoundsBeginEnd_d044e 3 = .ok (.invokestatic 48, 3) := by decide +kernel
theorem dJ2_checkBoundsBeginEnd_d044e_6 : decode cJ2_checkBoundsBeginEnd_d044e 6 = .ok (.invokestatic 241, 3) := by decide +kernel
theorem dJ2_checkBoundsBeginEnd_d044e_9 : decode cJ2_checkBoundsBeginEnd_d044e 9 = .ok (.return_, 1) := by decide +kernel
theorem dJ3_checkFromToIndex_8c36e_0 : decode cJ3_checkFromToIndex_8c36e 0 = .ok (.iload_n 0, 1) := by decide +kernel
theorem dJ3_checkFromToIndex_8c36e_1 : decode cJ3_checkFromToIndex_8c36e 1 = .ok (.ifCond .lt 13, 3) := by decide +kernel
theorem dJ3_checkFromToIndex_8c36e_4 : decode cJ3_checkFromToIndex_8c36e 4 = .ok (.iload_n 0, 1) := by decide +kernel
theorem dJ3_checkFromToIndex_8c36e_5 : decode cJ3_checkFromToIndex_8c36e 5 = .ok (.iload_n 1, 1) := by decide +kernel
theorem dJ3_checkFromToIndex_8c36e_6 : decode cJ3_checkFromToIndex_8c36e 6 = .ok (.if_icmp .gt 8, 3) := by decide +kernel
theorem dJ3_checkFromToIndex_8c36e_9 : decode cJ3_checkFromToIndex_8c36e 9 = .ok (.iload_n 1, 1) := by decide +kernel
theorem dJ3_checkFromToIndex_8c36e_10 : decode cJ3_checkFromToIndex_8c36e 10 = .ok (.iload_n 2, 1) := by decide +kernel
theorem dJ3_checkFromToIndex_8c36e_11 : decode cJ3_checkFromToIndex_8c36e 11 = .ok (.if_icmp .le 11, 3) := by decide +kernel
theorem dJ3_checkFromToIndex_8c36e_14 : decode cJ3_checkFromToIndex_8c36e 14 = .ok (.aload_n 3, 1) := by decide +kernel
theorem dJ3_checkFromToIndex_8c36e_15 : decode cJ3_checkFromToIndex_8c36e 15 = .ok (.iload_n 0, 1) := by decide +kernel
theorem dJ3_checkFromToIndex_8c36e_16 : decode cJ3_checkFromToIndex_8c36e 16 = .ok (.iload_n 1, 1) := by decide +kernel
theorem dJ3_checkFromToIndex_8c36e_17 : decode cJ3_checkFromToIndex_8c36e 17 = .ok (.iload_n 2, 1) := by decide +kernel
theorem dJ3_checkFromToIndex_8c36e_18 : decode cJ3_checkFromToIndex_8c36e 18 = .ok (.invokestatic 99, 3) := by decide +kernel
theorem dJ3_checkFromToIndex_8c36e_21 : decode cJ3_checkFromToIndex_8c36e 21 = .ok (.athrow, 1) := by decide +kernel
theorem dJ3_checkFromToIndex_8c36e_22 : decode cJ3_checkFromToIndex_8c36e 22 = .ok (.iload_n 0, 1) := by decide +kernel
theorem dJ3_checkFromToIndex_8c36e_23 : decode cJ3_checkFromToIndex_8c36e 23 = .ok (.ireturn, 1) := by decide +kernel
theorem dJ9_max_7cf53_0 : decode cJ9_max_7cf53 0 = .ok (.iload_n 0, 1) := by decide +kernel
theorem dJ9_max_7cf53_1 : decode cJ9_max_7cf53 1 = .ok (.iload_n 1, 1) := by decide +kernel
theorem dJ9_max_7cf53_2 : decode cJ9_max_7cf53 2 = .ok (.if_icmp .lt 7, 3) := by decide +kernel
theorem dJ9_max_7cf53_5 : decode cJ9_max_7cf53 5 = .ok (.iload_n 0, 1) := by decide +kernel
theorem dJ9_max_7cf53_6 : decode cJ9_max_7cf53 6 = .ok (.goto 4, 3) := by decide +kernel
theorem dJ9_max_7cf53_9 : decode cJ9_max_7cf53 9 = .ok (.iload_n 1, 1) := by decide +kernel
theorem dJ9_max_7cf53_10 : decode cJ9_max_7cf53 10 = .ok (.ireturn, 1) := by decide +kernel
theorem dJ9_min_7cf53_0 : decode cJ9_min_7cf53 0 = .ok (.iload_n 0, 1) := by decide +kernel
theorem dJ9_min_7cf53_1 : decode cJ9_min_7cf53 1 = .ok (.iload_n 1, 1) := by decide +kernel
theorem dJ9_min_7cf53_2 : decode cJ9_min_7cf53 2 = .ok (.if_icmp .gt 7, 3) := by decide +kernel
theorem dJ9_min_7cf53_5 : decode cJ9_min_7cf53 5 = .ok (.iload_n 0, 1) := by decide +kernel
theorem dJ9_min_7cf53_6 : decode cJ9_min_7cf53 6 = .ok (.goto 4, 3) := by decide +kernel
theorem dJ9_min_7cf53_9 : decode cJ9_min_7cf53 9 = .ok (.iload_n 1, 1) := by decide +kernel
theorem dJ9_min_7cf53_10 : decode cJ9_min_7cf53 10 = .ok (.ireturn, 1) := by decide +kernel
theorem dL_append_0 : decode cL_append 0 = .ok (.aload_n 2, 1) := by decide +kernel
theorem dL_append_1 : decode cL_append 1 = .ok (.iconst 0, 1) := by decide +kernel
theorem dL_append_2 : decode cL_append 2 = .ok (.aload_n 0, 1) := by decide +kernel
theorem dL_append_3 : decode cL_append 3 = .ok (.iload_n 1, 1) := by decide +kernel
theorem dL_append_4 : decode cL_append 4 = .ok (.invokevirtual 7, 3) := by decide +kernel
theorem dL_append_7 : decode cL_append 7 = .ok (.i2l, 1) := by decide +kernel
theorem dL_append_8 : decode cL_append 8 = .ok (.lastore, 1) := by decide +kernel
theorem dL_append_9 : decode cL_append 9 = .ok (.goto 9, 3) := by decide +kernel
theorem dL_append_12 : decode cL_append 12 = .ok (.astore_n 3, 1) := by decide +kernel
theorem dL_append_13 : decode cL_append 13 = .ok (.iconst 1, 1) := by decide +kernel
theorem dL_append_14 : decode cL_append 14 = .ok (.ireturn, 1) := by decide +kernel
theorem dL_append_15 : decode cL_append 15 = .ok (.astore_n 3, 1) := by decide +kernel
theorem dL_append_16 : decode cL_append 16 = .ok (.iconst 2, 1) := by decide +kernel
theorem dL_append_17 : decode cL_append 17 = .ok (.ireturn, 1) := by decide +kernel
theorem dL_append_18 : decode cL_append 18 = .ok (.iconst 0, 1) := by decide +kernel
theorem dL_append_19 : decode cL_append 19 = .ok (.ireturn, 1) := by decide +kernel
theorem dL_load_0 : decode cL_load 0 = .ok (.aload_n 1, 1) := by decide +kernel
theorem dL_load_1 : decode cL_load 1 = .ok (.iconst 0, 1) := by decide +kernel
theorem dL_load_2 : decode cL_load 2 = .ok (.aload_n 0, 1) := by decide +kernel
theorem dL_load_3 : decode cL_load 3 = .ok (.invokevirtual 17, 3) := by decide +kernel
theorem dL_load_6 : decode cL_load 6 = .ok (.i2l, 1) := by decide +kernel
theorem dL_load_7 : decode cL_load 7 = .ok (.lastore, 1) := by decide +kernel
theorem dL_load_8 : decode cL_load 8 = .ok (.goto 6, 3) := by decide +kernel
theorem dL_load_11 : decode cL_load 11 = .ok (.astore_n 2, 1) := by decide +kernel
theorem dL_load_12 : decode cL_load 12 = .ok (.iconst 1, 1) := by decide +kernel
theorem dL_load_13 : decode cL_load 13 = .ok (.ireturn, 1) := by decide +kernel
theorem dL_load_14 : decode cL_load 14 = .ok (.iconst 0, 1) := by decide +kernel
theorem dL_load_15 : decode cL_load 15 = .ok (.ireturn, 1) := by decide +kernel
theorem dL_about_0 : decode cL_about 0 = .ok (.aload_n 2, 1) := by decide +kernel
theorem dL_about_1 : decode cL_about 1 = .ok (.iconst 0, 1) := by decide +kernel
theorem dL_about_2 : decode cL_about 2 = .ok (.aload_n 0, 1) := by decide +kernel
theorem dL_about_3 : decode cL_about 3 = .ok (.iload_n 1, 1) := by decide +kernel
theorem dL_about_4 : decode cL_about 4 = .ok (.invokevirtual 21, 3) := by decide +kernel
theorem dL_about_7 : decode cL_about 7 = .ok (.i2l, 1) := by decide +kernel
theorem dL_about_8 : decode cL_about 8 = .ok (.lastore, 1) := by decide +kernel
theorem dL_about_9 : decode cL_about 9 = .ok (.goto 6, 3) := by decide +kernel
theorem dL_about_12 : decode cL_about 12 = .ok (.astore_n 3, 1) := by decide +kernel
theorem dL_about_13 : decode cL_about 13 = .ok (.iconst 1, 1) := by decide +kernel
theorem dL_about_14 : decode cL_about 14 = .ok (.ireturn, 1) := by decide +kernel
theorem dL_about_15 : decode cL_about 15 = .ok (.iconst 0, 1) := by decide +kernel
theorem dL_about_16 : decode cL_about 16 = .ok (.ireturn, 1) := by decide +kernel
theorem dL_chairOf_0 : decode cL_chairOf 0 = .ok (.aload_n 3, 1) := by decide +kernel
theorem dL_chairOf_1 : decode cL_chairOf 1 = .ok (.iconst 0, 1) := by decide +kernel
theorem dL_chairOf_2 : decode cL_chairOf 2 = .ok (.aload_n 0, 1) := by decide +kernel
theorem dL_chairOf_3 : decode cL_chairOf 3 = .ok (.iload_n 1, 1) := by decide +kernel
theorem dL_chairOf_4 : decode cL_chairOf 4 = .ok (.iload_n 2, 1) := by decide +kernel
theorem dL_chairOf_5 : decode cL_chairOf 5 = .ok (.invokevirtual 24, 3) := by decide +kernel
theorem dL_chairOf_8 : decode cL_chairOf 8 = .ok (.i2l, 1) := by decide +kernel
theorem dL_chairOf_9 : decode cL_chairOf 9 = .ok (.lastore, 1) := by decide +kernel
theorem dL_chairOf_10 : decode cL_chairOf 10 = .ok (.goto 11, 3) := by decide +kernel
theorem dL_chairOf_13 : decode cL_chairOf 13 = .ok (.astore 4, 2) := by decide +kernel
theorem dL_chairOf_15 : decode cL_chairOf 15 = .ok (.iconst 1, 1) := by decide +kernel
theorem dL_chairOf_16 : decode cL_chairOf 16 = .ok (.ireturn, 1) := by decide +kernel
theorem dL_chairOf_17 : decode cL_chairOf 17 = .ok (.astore 4, 2) := by decide +kernel
theorem dL_chairOf_19 : decode cL_chairOf 19 = .ok (.iconst 2, 1) := by decide +kernel
theorem dL_chairOf_20 : decode cL_chairOf 20 = .ok (.ireturn, 1) := by decide +kernel
theorem dL_chairOf_21 : decode cL_chairOf 21 = .ok (.iconst 0, 1) := by decide +kernel
theorem dL_chairOf_22 : decode cL_chairOf 22 = .ok (.ireturn, 1) := by decide +kernel
theorem dL_wobble_0 : decode cL_wobble 0 = .ok (.aload_n 3, 1) := by decide +kernel
theorem dL_wobble_1 : decode cL_wobble 1 = .ok (.iconst 0, 1) := by decide +kernel
theorem dL_wobble_2 : decode cL_wobble 2 = .ok (.aload_n 0, 1) := by decide +kernel
theorem dL_wobble_3 : decode cL_wobble 3 = .ok (.iload_n 1, 1) := by decide +kernel
theorem dL_wobble_4 : decode cL_wobble 4 = .ok (.iload_n 2, 1) := by decide +kernel
theorem dL_wobble_5 : decode cL_wobble 5 = .ok (.invokevirtual 30, 3) := by decide +kernel
theorem dL_wobble_8 : decode cL_wobble 8 = .ok (.i2l, 1) := by decide +kernel
theorem dL_wobble_9 : decode cL_wobble 9 = .ok (.lastore, 1) := by decide +kernel
theorem dL_wobble_10 : decode cL_wobble 10 = .ok (.goto 11, 3) := by decide +kernel
theorem dL_wobble_13 : decode cL_wobble 13 = .ok (.astore 4, 2) := by decide +kernel
theorem dL_wobble_15 : decode cL_wobble 15 = .ok (.iconst 1, 1) := by decide +kernel
theorem dL_wobble_16 : decode cL_wobble 16 = .ok (.ireturn, 1) := by decide +kernel
theorem dL_wobble_17 : decode cL_wobble 17 = .ok (.astore 4, 2) := by decide +kernel
theorem dL_wobble_19 : decode cL_wobble 19 = .ok (.iconst 2, 1) := by decide +kernel
theorem dL_wobble_20 : decode cL_wobble 20 = .ok (.ireturn, 1) := by decide +kernel
theorem dL_wobble_21 : decode cL_wobble 21 = .ok (.iconst 0, 1) := by decide +kernel
theorem dL_wobble_22 : decode cL_wobble 22 = .ok (.ireturn, 1) := by decide +kernel
theorem dL_legOf_0 : decode cL_legOf 0 = .ok (.aload 4, 2) := by decide +kernel
theorem dL_legOf_2 : decode cL_legOf 2 = .ok (.iconst 0, 1) := by decide +kernel
theorem dL_legOf_3 : decode cL_legOf 3 = .ok (.aload_n 0, 1) := by decide +kernel
theorem dL_legOf_4 : decode cL_legOf 4 = .ok (.iload_n 1, 1) := by decide +kernel
theorem dL_legOf_5 : decode cL_legOf 5 = .ok (.iload_n 2, 1) := by decide +kernel
theorem dL_legOf_6 : decode cL_legOf 6 = .ok (.iload_n 3, 1) := by decide +kernel
theorem dL_legOf_7 : decode cL_legOf 7 = .ok (.invokevirtual 33, 3) := by decide +kernel
theorem dL_legOf_10 : decode cL_legOf 10 = .ok (.i2l, 1) := by decide +kernel
theorem dL_legOf_11 : decode cL_legOf 11 = .ok (.lastore, 1) := by decide +kernel
theorem dL_legOf_12 : decode cL_legOf 12 = .ok (.goto 11, 3) := by decide +kernel
theorem dL_legOf_15 : decode cL_legOf 15 = .ok (.astore 5, 2) := by decide +kernel
theorem dL_legOf_17 : decode cL_legOf 17 = .ok (.iconst 1, 1) := by decide +kernel
theorem dL_legOf_18 : decode cL_legOf 18 = .ok (.ireturn, 1) := by decide +kernel
theorem dL_legOf_19 : decode cL_legOf 19 = .ok (.astore 5, 2) := by decide +kernel
theorem dL_legOf_21 : decode cL_legOf 21 = .ok (.iconst 2, 1) := by decide +kernel
theorem dL_legOf_22 : decode cL_legOf 22 = .ok (.ireturn, 1) := by decide +kernel
theorem dL_legOf_23 : decode cL_legOf 23 = .ok (.iconst 0, 1) := by decide +kernel
theorem dL_legOf_24 : decode cL_legOf 24 = .ok (.ireturn, 1) := by decide +kernel
theorem dL_spot_0 : decode cL_spot 0 = .ok (.aload_n 3, 1) := by decide +kernel
theorem dL_spot_1 : decode cL_spot 1 = .ok (.iconst 0, 1) := by decide +kernel
theorem dL_spot_2 : decode cL_spot 2 = .ok (.aload_n 0, 1) := by decide +kernel
theorem dL_spot_3 : decode cL_spot 3 = .ok (.iload_n 1, 1) := by decide +kernel
theorem dL_spot_4 : decode cL_spot 4 = .ok (.iload_n 2, 1) := by decide +kernel
theorem dL_spot_5 : decode cL_spot 5 = .ok (.invokevirtual 37, 3) := by decide +kernel
theorem dL_spot_8 : decode cL_spot 8 = .ok (.i2l, 1) := by decide +kernel
theorem dL_spot_9 : decode cL_spot 9 = .ok (.lastore, 1) := by decide +kernel
theorem dL_spot_10 : decode cL_spot 10 = .ok (.goto 7, 3) := by decide +kernel
theorem dL_spot_13 : decode cL_spot 13 = .ok (.astore 4, 2) := by decide +kernel
theorem dL_spot_15 : decode cL_spot 15 = .ok (.iconst 1, 1) := by decide +kernel
theorem dL_spot_16 : decode cL_spot 16 = .ok (.ireturn, 1) := by decide +kernel
theorem dL_spot_17 : decode cL_spot 17 = .ok (.iconst 0, 1) := by decide +kernel
theorem dL_spot_18 : decode cL_spot 18 = .ok (.ireturn, 1) := by decide +kernel
theorem dL_boundOf_0 : decode cL_boundOf 0 = .ok (.aload_n 3, 1) := by decide +kernel
theorem dL_boundOf_1 : decode cL_boundOf 1 = .ok (.iconst 0, 1) := by decide +kernel
theorem dL_boundOf_2 : decode cL_boundOf 2 = .ok (.aload_n 0, 1) := by decide +kernel
theorem dL_boundOf_3 : decode cL_boundOf 3 = .ok (.iload_n 1, 1) := by decide +kernel
theorem dL_boundOf_4 : decode cL_boundOf 4 = .ok (.iload_n 2, 1) := by decide +kernel
theorem dL_boundOf_5 : decode cL_boundOf 5 = .ok (.invokevirtual 40, 3) := by decide +kernel
theorem dL_boundOf_8 : decode cL_boundOf 8 = .ok (.i2l, 1) := by decide +kernel
theorem dL_boundOf_9 : decode cL_boundOf 9 = .ok (.lastore, 1) := by decide +kernel
theorem dL_boundOf_10 : decode cL_boundOf 10 = .ok (.goto 7, 3) := by decide +kernel
theorem dL_boundOf_13 : decode cL_boundOf 13 = .ok (.astore 4, 2) := by decide +kernel
theorem dL_boundOf_15 : decode cL_boundOf 15 = .ok (.iconst 1, 1) := by decide +kernel
theorem dL_boundOf_16 : decode cL_boundOf 16 = .ok (.ireturn, 1) := by decide +kernel
theorem dL_boundOf_17 : decode cL_boundOf 17 = .ok (.iconst 0, 1) := by decide +kernel
theorem dL_boundOf_18 : decode cL_boundOf 18 = .ok (.ireturn, 1) := by decide +kernel
theorem dL_setting_0 : decode cL_setting 0 = .ok (.aload_n 2, 1) := by decide +kernel
theorem dL_setting_1 : decode cL_setting 1 = .ok (.iconst 0, 1) := by decide +kernel
theorem dL_setting_2 : decode cL_setting 2 = .ok (.aload_n 0, 1) := by decide +kernel
theorem dL_setting_3 : decode cL_setting 3 = .ok (.iload_n 1, 1) := by decide +kernel
theorem dL_setting_4 : decode cL_setting 4 = .ok (.invokevirtual 43, 3) := by decide +kernel
theorem dL_setting_7 : decode cL_setting 7 = .ok (.i2l, 1) := by decide +kernel
theorem dL_setting_8 : decode cL_setting 8 = .ok (.lastore, 1) := by decide +kernel
theorem dL_setting_9 : decode cL_setting 9 = .ok (.goto 6, 3) := by decide +kernel
theorem dL_setting_12 : decode cL_setting 12 = .ok (.astore_n 3, 1) := by decide +kernel
theorem dL_setting_13 : decode cL_setting 13 = .ok (.iconst 1, 1) := by decide +kernel
theorem dL_setting_14 : decode cL_setting 14 = .ok (.ireturn, 1) := by decide +kernel
theorem dL_setting_15 : decode cL_setting 15 = .ok (.iconst 0, 1) := by decide +kernel
theorem dL_setting_16 : decode cL_setting 16 = .ok (.ireturn, 1) := by decide +kernel
theorem dL_chair_0 : decode cL_chair 0 = .ok (.aload_n 3, 1) := by decide +kernel
theorem dL_chair_1 : decode cL_chair 1 = .ok (.iconst 0, 1) := by decide +kernel
theorem dL_chair_2 : decode cL_chair 2 = .ok (.aload_n 0, 1) := by decide +kernel
theorem dL_chair_3 : decode cL_chair 3 = .ok (.iload_n 1, 1) := by decide +kernel
theorem dL_chair_4 : decode cL_chair 4 = .ok (.iload_n 2, 1) := by decide +kernel
theorem dL_chair_5 : decode cL_chair 5 = .ok (.invokevirtual 46, 3) := by decide +kernel
theorem dL_chair_8 : decode cL_chair 8 = .ok (.i2l, 1) := by decide +kernel
theorem dL_chair_9 : decode cL_chair 9 = .ok (.lastore, 1) := by decide +kernel
theorem dL_chair_10 : decode cL_chair 10 = .ok (.goto 15, 3) := by decide +kernel
theorem dL_chair_13 : decode cL_chair 13 = .ok (.astore 4, 2) := by decide +kernel
theorem dL_chair_15 : decode cL_chair 15 = .ok (.iconst 1, 1) := by decide +kernel
theorem dL_chair_16 : decode cL_chair 16 = .ok (.ireturn, 1) := by decide +kernel
theorem dL_chair_17 : decode cL_chair 17 = .ok (.astore 4, 2) := by decide +kernel
theorem dL_chair_19 : decode cL_chair 19 = .ok (.iconst 2, 1) := by decide +kernel
theorem dL_chair_20 : decode cL_chair 20 = .ok (.ireturn, 1) := by decide +kernel
theorem dL_chair_21 : decode cL_chair 21 = .ok (.astore 4, 2) := by decide +kernel
theorem dL_chair_23 : decode cL_chair 23 = .ok (.iconst 3, 1) := by decide +kernel
theorem dL_chair_24 : decode cL_chair 24 = .ok (.ireturn, 1) := by decide +kernel
theorem dL_chair_25 : decode cL_chair 25 = .ok (.iconst 0, 1) := by decide +kernel
theorem dL_chair_26 : decode cL_chair 26 = .ok (.ireturn, 1) := by decide +kernel
theorem dL_floor_0 : decode cL_floor 0 = .ok (.aload 5, 2) := by decide +kernel
theorem dL_floor_2 : decode cL_floor 2 = .ok (.iconst 0, 1) := by decide +kernel
theorem dL_floor_3 : decode cL_floor 3 = .ok (.aload_n 0, 1) := by decide +kernel
theorem dL_floor_4 : decode cL_floor 4 = .ok (.iload_n 1, 1) := by decide +kernel
theorem dL_floor_5 : decode cL_floor 5 = .ok (.iload_n 2, 1) := by decide +kernel
theorem dL_floor_6 : decode cL_floor 6 = .ok (.iload_n 3, 1) := by decide +kernel
theorem dL_floor_7 : decode cL_floor 7 = .ok (.iload 4, 2) := by decide +kernel
theorem dL_floor_9 : decode cL_floor 9 = .ok (.invokevirtual 49, 3) := by decide +kernel
theorem dL_floor_12 : decode cL_floor 12 = .ok (.i2l, 1) := by decide +kernel
theorem dL_floor_13 : decode cL_floor 13 = .ok (.lastore, 1) := by decide +kernel
theorem dL_floor_14 : decode cL_floor 14 = .ok (.goto 11, 3) := by decide +kernel
theorem dL_floor_17 : decode cL_floor 17 = .ok (.astore 6, 2) := by decide +kernel
theorem dL_floor_19 : decode cL_floor 19 = .ok (.iconst 1, 1) := by decide +kernel
theorem dL_floor_20 : decode cL_floor 20 = .ok (.ireturn, 1) := by decide +kernel
theorem dL_floor_21 : decode cL_floor 21 = .ok (.astore 6, 2) := by decide +kernel
theorem dL_floor_23 : decode cL_floor 23 = .ok (.iconst 2, 1) := by decide +kernel
theorem dL_floor_24 : decode cL_floor 24 = .ok (.ireturn, 1) := by decide +kernel
theorem dL_floor_25 : decode cL_floor 25 = .ok (.iconst 0, 1) := by decide +kernel
theorem dL_floor_26 : decode cL_floor 26 = .ok (.ireturn, 1) := by decide +kernel
theorem dL_level_0 : decode cL_level 0 = .ok (.aload 4, 2) := by decide +kernel
theorem dL_level_2 : decode cL_level 2 = .ok (.iconst 0, 1) := by decide +kernel
theorem dL_level_3 : decode cL_level 3 = .ok (.aload_n 0, 1) := by decide +kernel
theorem dL_level_4 : decode cL_level 4 = .ok (.iload_n 1, 1) := by decide +kernel
theorem dL_level_5 : decode cL_level 5 = .ok (.iload_n 2, 1) := by decide +kernel
theorem dL_level_6 : decode cL_level 6 = .ok (.iload_n 3, 1) := by decide +kernel
theorem dL_level_7 : decode cL_level 7 = .ok (.invokevirtual 53, 3) := by decide +kernel
theorem dL_level_10 : decode cL_level 10 = .ok (.i2l, 1) := by decide +kernel
theorem dL_level_11 : decode cL_level 11 = .ok (.lastore, 1) := by decide +kernel
theorem dL_level_12 : decode cL_level 12 = .ok (.goto 11, 3) := by decide +kernel
theorem dL_level_15 : decode cL_level 15 = .ok (.astore 5, 2) := by decide +kernel
theorem dL_level_17 : decode cL_level 17 = .ok (.iconst 1, 1) := by decide +kernel
theorem dL_level_18 : decode cL_level 18 = .ok (.ireturn, 1) := by decide +kernel
theorem dL_level_19 : decode cL_level 19 = .ok (.astore 5, 2) := by decide +kernel
theorem dL_level_21 : decode cL_level 21 = .ok (.iconst 2, 1) := by decide +kernel
theorem dL_level_22 : decode cL_level 22 = .ok (.ireturn, 1) := by decide +kernel
theorem dL_level_23 : decode cL_level 23 = .ok (.iconst 0, 1) := by decide +kernel
theorem dL_level_24 : decode cL_level 24 = .ok (.ireturn, 1) := by decide +kernel
theorem dL_bring_0 : decode cL_bring 0 = .ok (.aload 4, 2) := by decide +kernel
theorem dL_bring_2 : decode cL_bring 2 = .ok (.iconst 0, 1) := by decide +kernel
theorem dL_bring_3 : decode cL_bring 3 = .ok (.aload_n 0, 1) := by decide +kernel
theorem dL_bring_4 : decode cL_bring 4 = .ok (.iload_n 1, 1) := by decide +kernel
theorem dL_bring_5 : decode cL_bring 5 = .ok (.iload_n 2, 1) := by decide +kernel
theorem dL_bring_6 : decode cL_bring 6 = .ok (.iload_n 3, 1) := by decide +kernel
theorem dL_bring_7 : decode cL_bring 7 = .ok (.invokevirtual 56, 3) := by decide +kernel
theorem dL_bring_10 : decode cL_bring 10 = .ok (.i2l, 1) := by decide +kernel
theorem dL_bring_11 : decode cL_bring 11 = .ok (.lastore, 1) := by decide +kernel
theorem dL_bring_12 : decode cL_bring 12 = .ok (.goto 11, 3) := by decide +kernel
theorem dL_bring_15 : decode cL_bring 15 = .ok (.astore 5, 2) := by decide +kernel
theorem dL_bring_17 : decode cL_bring 17 = .ok (.iconst 1, 1) := by decide +kernel
theorem dL_bring_18 : decode cL_bring 18 = .ok (.ireturn, 1) := by decide +kernel
theorem dL_bring_19 : decode cL_bring 19 = .ok (.astore 5, 2) := by decide +kernel
theorem dL_bring_21 : decode cL_bring 21 = .ok (.iconst 2, 1) := by decide +kernel
theorem dL_bring_22 : decode cL_bring 22 = .ok (.ireturn, 1) := by decide +kernel
theorem dL_bring_23 : decode cL_bring 23 = .ok (.iconst 0, 1) := by decide +kernel
theorem dL_bring_24 : decode cL_bring 24 = .ok (.ireturn, 1) := by decide +kernel
theorem dL_saw_0 : decode cL_saw 0 = .ok (.aload 4, 2) := by decide +kernel
theorem dL_saw_2 : decode cL_saw 2 = .ok (.iconst 0, 1) := by decide +kernel
theorem dL_saw_3 : decode cL_saw 3 = .ok (.aload_n 0, 1) := by decide +kernel
theorem dL_saw_4 : decode cL_saw 4 = .ok (.iload_n 1, 1) := by decide +kernel
theorem dL_saw_5 : decode cL_saw 5 = .ok (.iload_n 2, 1) := by decide +kernel
theorem dL_saw_6 : decode cL_saw 6 = .ok (.iload_n 3, 1) := by decide +kernel
theorem dL_saw_7 : decode cL_saw 7 = .ok (.invokevirtual 59, 3) := by decide +kernel
theorem dL_saw_10 : decode cL_saw 10 = .ok (.i2l, 1) := by decide +kernel
theorem dL_saw_11 : decode cL_saw 11 = .ok (.lastore, 1) := by decide +kernel
theorem dL_saw_12 : decode cL_saw 12 = .ok (.goto 15, 3) := by decide +kernel
theorem dL_saw_15 : decode cL_saw 15 = .ok (.astore 5, 2) := by decide +kernel
theorem dL_saw_17 : decode cL_saw 17 = .ok (.iconst 1, 1) := by decide +kernel
theorem dL_saw_18 : decode cL_saw 18 = .ok (.ireturn, 1) := by decide +kernel
theorem dL_saw_19 : decode cL_saw 19 = .ok (.astore 5, 2) := by decide +kernel
theorem dL_saw_21 : decode cL_saw 21 = .ok (.iconst 2, 1) := by decide +kernel
theorem dL_saw_22 : decode cL_saw 22 = .ok (.ireturn, 1) := by decide +kernel
theorem dL_saw_23 : decode cL_saw 23 = .ok (.astore 5, 2) := by decide +kernel
theorem dL_saw_25 : decode cL_saw 25 = .ok (.iconst 3, 1) := by decide +kernel
theorem dL_saw_26 : decode cL_saw 26 = .ok (.ireturn, 1) := by decide +kernel
theorem dL_saw_27 : decode cL_saw 27 = .ok (.iconst 0, 1) := by decide +kernel
theorem dL_saw_28 : decode cL_saw 28 = .ok (.ireturn, 1) := by decide +kernel
theorem dL_shim_0 : decode cL_shim 0 = .ok (.aload 4, 2) := by decide +kernel
theorem dL_shim_2 : decode cL_shim 2 = .ok (.iconst 0, 1) := by decide +kernel
theorem dL_shim_3 : decode cL_shim 3 = .ok (.aload_n 0, 1) := by decide +kernel
theorem dL_shim_4 : decode cL_shim 4 = .ok (.iload_n 1, 1) := by decide +kernel
theorem dL_shim_5 : decode cL_shim 5 = .ok (.iload_n 2, 1) := by decide +kernel
theorem dL_shim_6 : decode cL_shim 6 = .ok (.iload_n 3, 1) := by decide +kernel
theorem dL_shim_7 : decode cL_shim 7 = .ok (.invokevirtual 62, 3) := by decide +kernel
theorem dL_shim_10 : decode cL_shim 10 = .ok (.i2l, 1) := by decide +kernel
theorem dL_shim_11 : decode cL_shim 11 = .ok (.lastore, 1) := by decide +kernel
theorem dL_shim_12 : decode cL_shim 12 = .ok (.goto 15, 3) := by decide +kernel
theorem dL_shim_15 : decode cL_shim 15 = .ok (.astore 5, 2) := by decide +kernel
theorem dL_shim_17 : decode cL_shim 17 = .ok (.iconst 1, 1) := by decide +kernel
theorem dL_shim_18 : decode cL_shim 18 = .ok (.ireturn, 1) := by decide +kernel
theorem dL_shim_19 : decode cL_shim 19 = .ok (.astore 5, 2) := by decide +kernel
theorem dL_shim_21 : decode cL_shim 21 = .ok (.iconst 2, 1) := by decide +kernel
theorem dL_shim_22 : decode cL_shim 22 = .ok (.ireturn, 1) := by decide +kernel
theorem dL_shim_23 : decode cL_shim 23 = .ok (.astore 5, 2) := by decide +kernel
theorem dL_shim_25 : decode cL_shim 25 = .ok (.iconst 3, 1) := by decide +kernel
theorem dL_shim_26 : decode cL_shim 26 = .ok (.ireturn, 1) := by decide +kernel
theorem dL_shim_27 : decode cL_shim 27 = .ok (.iconst 0, 1) := by decide +kernel
theorem dL_shim_28 : decode cL_shim 28 = .ok (.ireturn, 1) := by decide +kernel
theorem dL_test_0 : decode cL_test 0 = .ok (.aload_n 2, 1) := by decide +kernel
theorem dL_test_1 : decode cL_test 1 = .ok (.iconst 0, 1) := by decide +kernel
theorem dL_test_2 : decode cL_test 2 = .ok (.aload_n 0, 1) := by decide +kernel
theorem dL_test_3 : decode cL_test 3 = .ok (.iload_n 1, 1) := by decide +kernel
theorem dL_test_4 : decode cL_test 4 = .ok (.invokevirtual 65, 3) := by decide +kernel
theorem dL_test_7 : decode cL_test 7 = .ok (.i2l, 1) := by decide +kernel
theorem dL_test_8 : decode cL_test 8 = .ok (.lastore, 1) := by decide +kernel
theorem dL_test_9 : decode cL_test 9 = .ok (.goto 6, 3) := by decide +kernel
theorem dL_test_12 : decode cL_test 12 = .ok (.astore_n 3, 1) := by decide +kernel
theorem dL_test_13 : decode cL_test 13 = .ok (.iconst 1, 1) := by decide +kernel
theorem dL_test_14 : decode cL_test 14 = .ok (.ireturn, 1) := by decide +kernel
theorem dL_test_15 : decode cL_test 15 = .ok (.iconst 0, 1) := by decide +kernel
theorem dL_test_16 : decode cL_test 16 = .ok (.ireturn, 1) := by decide +kernel
theorem dL_sit_0 : decode cL_sit 0 = .ok (.aload_n 3, 1) := by decide +kernel
theorem dL_sit_1 : decode cL_sit 1 = .ok (.iconst 0, 1) := by decide +kernel
theorem dL_sit_2 : decode cL_sit 2 = .ok (.aload_n 0, 1) := by decide +kernel
theorem dL_sit_3 : decode cL_sit 3 = .ok (.iload_n 1, 1) := by decide +kernel
theorem dL_sit_4 : decode cL_sit 4 = .ok (.iload_n 2, 1) := by decide +kernel
theorem dL_sit_5 : decode cL_sit 5 = .ok (.invokevirtual 68, 3) := by decide +kernel
theorem dL_sit_8 : decode cL_sit 8 = .ok (.i2l, 1) := by decide +kernel
theorem dL_sit_9 : decode cL_sit 9 = .ok (.lastore, 1) := by decide +kernel
theorem dL_sit_10 : decode cL_sit 10 = .ok (.goto 11, 3) := by decide +kernel
theorem dL_sit_13 : decode cL_sit 13 = .ok (.astore 4, 2) := by decide +kernel
theorem dL_sit_15 : decode cL_sit 15 = .ok (.iconst 1, 1) := by decide +kernel
theorem dL_sit_16 : decode cL_sit 16 = .ok (.ireturn, 1) := by decide +kernel
theorem dL_sit_17 : decode cL_sit 17 = .ok (.astore 4, 2) := by decide +kernel
theorem dL_sit_19 : decode cL_sit 19 = .ok (.iconst 2, 1) := by decide +kernel
theorem dL_sit_20 : decode cL_sit 20 = .ok (.ireturn, 1) := by decide +kernel
theorem dL_sit_21 : decode cL_sit 21 = .ok (.iconst 0, 1) := by decide +kernel
theorem dL_sit_22 : decode cL_sit 22 = .ok (.ireturn, 1) := by decide +kernel
theorem dL_bound_0 : decode cL_bound 0 = .ok (.aload 4, 2) := by decide +kernel
theorem dL_bound_2 : decode cL_bound 2 = .ok (.iconst 0, 1) := by decide +kernel
theorem dL_bound_3 : decode cL_bound 3 = .ok (.aload_n 0, 1) := by decide +kernel
theorem dL_bound_4 : decode cL_bound 4 = .ok (.iload_n 1, 1) := by decide +kernel
theorem dL_bound_5 : decode cL_bound 5 = .ok (.iload_n 2, 1) := by decide +kernel
theorem dL_bound_6 : decode cL_bound 6 = .ok (.iload_n 3, 1) := by decide +kernel
theorem dL_bound_7 : decode cL_bound 7 = .ok (.invokevirtual 71, 3) := by decide +kernel
theorem dL_bound_10 : decode cL_bound 10 = .ok (.i2l, 1) := by decide +kernel
theorem dL_bound_11 : decode cL_bound 11 = .ok (.lastore, 1) := by decide +kernel
theorem dL_bound_12 : decode cL_bound 12 = .ok (.goto 11, 3) := by decide +kernel
theorem dL_bound_15 : decode cL_bound 15 = .ok (.astore 5, 2) := by decide +kernel
theorem dL_bound_17 : decode cL_bound 17 = .ok (.iconst 1, 1) := by decide +kernel
theorem dL_bound_18 : decode cL_bound 18 = .ok (.ireturn, 1) := by decide +kernel
theorem dL_bound_19 : decode cL_bound 19 = .ok (.astore 5, 2) := by decide +kernel
theorem dL_bound_21 : decode cL_bound 21 = .ok (.iconst 2, 1) := by decide +kernel
theorem dL_bound_22 : decode cL_bound 22 = .ok (.ireturn, 1) := by decide +kernel
theorem dL_bound_23 : decode cL_bound 23 = .ok (.iconst 0, 1) := by decide +kernel
theorem dL_bound_24 : decode cL_bound 24 = .ok (.ireturn, 1) := by decide +kernel
theorem dL_set_0 : decode cL_set 0 = .ok (.aload_n 3, 1) := by decide +kernel
theorem dL_set_1 : decode cL_set 1 = .ok (.iconst 0, 1) := by decide +kernel
theorem dL_set_2 : decode cL_set 2 = .ok (.aload_n 0, 1) := by decide +kernel
theorem dL_set_3 : decode cL_set 3 = .ok (.iload_n 1, 1) := by decide +kernel
theorem dL_set_4 : decode cL_set 4 = .ok (.iload_n 2, 1) := by decide +kernel
theorem dL_set_5 : decode cL_set 5 = .ok (.invokevirtual 74, 3) := by decide +kernel
theorem dL_set_8 : decode cL_set 8 = .ok (.i2l, 1) := by decide +kernel
theorem dL_set_9 : decode cL_set 9 = .ok (.lastore, 1) := by decide +kernel
theorem dL_set_10 : decode cL_set 10 = .ok (.goto 7, 3) := by decide +kernel
theorem dL_set_13 : decode cL_set 13 = .ok (.astore 4, 2) := by decide +kernel
theorem dL_set_15 : decode cL_set 15 = .ok (.iconst 1, 1) := by decide +kernel
theorem dL_set_16 : decode cL_set 16 = .ok (.ireturn, 1) := by decide +kernel
theorem dL_set_17 : decode cL_set 17 = .ok (.iconst 0, 1) := by decide +kernel
theorem dL_set_18 : decode cL_set 18 = .ok (.ireturn, 1) := by decide +kernel
theorem dL_undo_0 : decode cL_undo 0 = .ok (.aload_n 1, 1) := by decide +kernel
theorem dL_undo_1 : decode cL_undo 1 = .ok (.iconst 0, 1) := by decide +kernel
theorem dL_undo_2 : decode cL_undo 2 = .ok (.aload_n 0, 1) := by decide +kernel
theorem dL_undo_3 : decode cL_undo 3 = .ok (.invokevirtual 77, 3) := by decide +kernel
theorem dL_undo_6 : decode cL_undo 6 = .ok (.i2l, 1) := by decide +kernel
theorem dL_undo_7 : decode cL_undo 7 = .ok (.lastore, 1) := by decide +kernel
theorem dL_undo_8 : decode cL_undo 8 = .ok (.goto 6, 3) := by decide +kernel
theorem dL_undo_11 : decode cL_undo 11 = .ok (.astore_n 2, 1) := by decide +kernel
theorem dL_undo_12 : decode cL_undo 12 = .ok (.iconst 1, 1) := by decide +kernel
theorem dL_undo_13 : decode cL_undo 13 = .ok (.ireturn, 1) := by decide +kernel
theorem dL_undo_14 : decode cL_undo 14 = .ok (.iconst 0, 1) := by decide +kernel
theorem dL_undo_15 : decode cL_undo 15 = .ok (.ireturn, 1) := by decide +kernel
theorem dL_bestTurn_0 : decode cL_bestTurn 0 = .ok (.aload 4, 2) := by decide +kernel
theorem dL_bestTurn_2 : decode cL_bestTurn 2 = .ok (.iconst 0, 1) := by decide +kernel
theorem dL_bestTurn_3 : decode cL_bestTurn 3 = .ok (.aload_n 0, 1) := by decide +kernel
theorem dL_bestTurn_4 : decode cL_bestTurn 4 = .ok (.iload_n 1, 1) := by decide +kernel
theorem dL_bestTurn_5 : decode cL_bestTurn 5 = .ok (.iload_n 2, 1) := by decide +kernel
theorem dL_bestTurn_6 : decode cL_bestTurn 6 = .ok (.iload_n 3, 1) := by decide +kernel
theorem dL_bestTurn_7 : decode cL_bestTurn 7 = .ok (.invokevirtual 80, 3) := by decide +kernel
theorem dL_bestTurn_10 : decode cL_bestTurn 10 = .ok (.i2l, 1) := by decide +kernel
theorem dL_bestTurn_11 : decode cL_bestTurn 11 = .ok (.lastore, 1) := by decide +kernel
theorem dL_bestTurn_12 : decode cL_bestTurn 12 = .ok (.goto 11, 3) := by decide +kernel
theorem dL_bestTurn_15 : decode cL_bestTurn 15 = .ok (.astore 5, 2) := by decide +kernel
theorem dL_bestTurn_17 : decode cL_bestTurn 17 = .ok (.iconst 1, 1) := by decide +kernel
theorem dL_bestTurn_18 : decode cL_bestTurn 18 = .ok (.ireturn, 1) := by decide +kernel
theorem dL_bestTurn_19 : decode cL_bestTurn 19 = .ok (.astore 5, 2) := by decide +kernel
theorem dL_bestTurn_21 : decode cL_bestTurn 21 = .ok (.iconst 2, 1) := by decide +kernel
theorem dL_bestTurn_22 : decode cL_bestTurn 22 = .ok (.ireturn, 1) := by decide +kernel
theorem dL_bestTurn_23 : decode cL_bestTurn 23 = .ok (.iconst 0, 1) := by decide +kernel
theorem dL_bestTurn_24 : decode cL_bestTurn 24 = .ok (.ireturn, 1) := by decide +kernel
theorem dL_bestSaw_0 : decode cL_bestSaw 0 = .ok (.aload_n 2, 1) := by decide +kernel
theorem dL_bestSaw_1 : decode cL_bestSaw 1 = .ok (.iconst 0, 1) := by decide +kernel
theorem dL_bestSaw_2 : decode cL_bestSaw 2 = .ok (.aload_n 0, 1) := by decide +kernel
theorem dL_bestSaw_3 : decode cL_bestSaw 3 = .ok (.iload_n 1, 1) := by decide +kernel
theorem dL_bestSaw_4 : decode cL_bestSaw 4 = .ok (.invokevirtual 83, 3) := by decide +kernel
theorem dL_bestSaw_7 : decode cL_bestSaw 7 = .ok (.i2l, 1) := by decide +kernel
theorem dL_bestSaw_8 : decode cL_bestSaw 8 = .ok (.lastore, 1) := by decide +kernel
theorem dL_bestSaw_9 : decode cL_bestSaw 9 = .ok (.goto 6, 3) := by decide +kernel
theorem dL_bestSaw_12 : decode cL_bestSaw 12 = .ok (.astore_n 3, 1) := by decide +kernel
theorem dL_bestSaw_13 : decode cL_bestSaw 13 = .ok (.iconst 1, 1) := by decide +kernel
theorem dL_bestSaw_14 : decode cL_bestSaw 14 = .ok (.ireturn, 1) := by decide +kernel
theorem dL_bestSaw_15 : decode cL_bestSaw 15 = .ok (.iconst 0, 1) := by decide +kernel
theorem dL_bestSaw_16 : decode cL_bestSaw 16 = .ok (.ireturn, 1) := by decide +kernel
theorem dL_failsIn_0 : decode cL_failsIn 0 = .ok (.aload_n 3, 1) := by decide +kernel
theorem dL_failsIn_1 : decode cL_failsIn 1 = .ok (.iconst 0, 1) := by decide +kernel
theorem dL_failsIn_2 : decode cL_failsIn 2 = .ok (.aload_n 0, 1) := by decide +kernel
theorem dL_failsIn_3 : decode cL_failsIn 3 = .ok (.iload_n 1, 1) := by decide +kernel
theorem dL_failsIn_4 : decode cL_failsIn 4 = .ok (.iload_n 2, 1) := by decide +kernel
theorem dL_failsIn_5 : decode cL_failsIn 5 = .ok (.invokevirtual 86, 3) := by decide +kernel
theorem dL_failsIn_8 : decode cL_failsIn 8 = .ok (.i2l, 1) := by decide +kernel
theorem dL_failsIn_9 : decode cL_failsIn 9 = .ok (.lastore, 1) := by decide +kernel
theorem dL_failsIn_10 : decode cL_failsIn 10 = .ok (.goto 11, 3) := by decide +kernel
theorem dL_failsIn_13 : decode cL_failsIn 13 = .ok (.astore 4, 2) := by decide +kernel
theorem dL_failsIn_15 : decode cL_failsIn 15 = .ok (.iconst 1, 1) := by decide +kernel
theorem dL_failsIn_16 : decode cL_failsIn 16 = .ok (.ireturn, 1) := by decide +kernel
theorem dL_failsIn_17 : decode cL_failsIn 17 = .ok (.astore 4, 2) := by decide +kernel
theorem dL_failsIn_19 : decode cL_failsIn 19 = .ok (.iconst 2, 1) := by decide +kernel
theorem dL_failsIn_20 : decode cL_failsIn 20 = .ok (.ireturn, 1) := by decide +kernel
theorem dL_failsIn_21 : decode cL_failsIn 21 = .ok (.iconst 0, 1) := by decide +kernel
theorem dL_failsIn_22 : decode cL_failsIn 22 = .ok (.ireturn, 1) := by decide +kernel
theorem dL_bestFloor_0 : decode cL_bestFloor 0 = .ok (.aload_n 2, 1) := by decide +kernel
theorem dL_bestFloor_1 : decode cL_bestFloor 1 = .ok (.iconst 0, 1) := by decide +kernel
theorem dL_bestFloor_2 : decode cL_bestFloor 2 = .ok (.aload_n 0, 1) := by decide +kernel
theorem dL_bestFloor_3 : decode cL_bestFloor 3 = .ok (.iload_n 1, 1) := by decide +kernel
theorem dL_bestFloor_4 : decode cL_bestFloor 4 = .ok (.invokevirtual 89, 3) := by decide +kernel
theorem dL_bestFloor_7 : decode cL_bestFloor 7 = .ok (.i2l, 1) := by decide +kernel
theorem dL_bestFloor_8 : decode cL_bestFloor 8 = .ok (.lastore, 1) := by decide +kernel
theorem dL_bestFloor_9 : decode cL_bestFloor 9 = .ok (.goto 6, 3) := by decide +kernel
theorem dL_bestFloor_12 : decode cL_bestFloor 12 = .ok (.astore_n 3, 1) := by decide +kernel
theorem dL_bestFloor_13 : decode cL_bestFloor 13 = .ok (.iconst 1, 1) := by decide +kernel
theorem dL_bestFloor_14 : decode cL_bestFloor 14 = .ok (.ireturn, 1) := by decide +kernel
theorem dL_bestFloor_15 : decode cL_bestFloor 15 = .ok (.iconst 0, 1) := by decide +kernel
theorem dL_bestFloor_16 : decode cL_bestFloor 16 = .ok (.ireturn, 1) := by decide +kernel
theorem dL_runScript_0 : decode cL_runScript 0 = .ok (.aload 4, 2) := by decide +kernel
theorem dL_runScript_2 : decode cL_runScript 2 = .ok (.iconst 0, 1) := by decide +kernel
theorem dL_runScript_3 : decode cL_runScript 3 = .ok (.aload_n 0, 1) := by decide +kernel
theorem dL_runScript_4 : decode cL_runScript 4 = .ok (.iload_n 1, 1) := by decide +kernel
theorem dL_runScript_5 : decode cL_runScript 5 = .ok (.lload_n 2, 1) := by decide +kernel
theorem dL_runScript_6 : decode cL_runScript 6 = .ok (.invokevirtual 92, 3) := by decide +kernel
theorem dL_runScript_9 : decode cL_runScript 9 = .ok (.i2l, 1) := by decide +kernel
theorem dL_runScript_10 : decode cL_runScript 10 = .ok (.lastore, 1) := by decide +kernel
theorem dL_runScript_11 : decode cL_runScript 11 = .ok (.goto 7, 3) := by decide +kernel
theorem dL_runScript_14 : decode cL_runScript 14 = .ok (.astore 5, 2) := by decide +kernel
theorem dL_runScript_16 : decode cL_runScript 16 = .ok (.iconst 1, 1) := by decide +kernel
theorem dL_runScript_17 : decode cL_runScript 17 = .ok (.ireturn, 1) := by decide +kernel
theorem dL_runScript_18 : decode cL_runScript 18 = .ok (.iconst 0, 1) := by decide +kernel
theorem dL_runScript_19 : decode cL_runScript 19 = .ok (.ireturn, 1) := by decide +kernel
theorem dL_simulate_0 : decode cL_simulate 0 = .ok (.aload 4, 2) := by decide +kernel
theorem dL_simulate_2 : decode cL_simulate 2 = .ok (.iconst 0, 1) := by decide +kernel
theorem dL_simulate_3 : decode cL_simulate 3 = .ok (.aload_n 0, 1) := by decide +kernel
theorem dL_simulate_4 : decode cL_simulate 4 = .ok (.lload_n 1, 1) := by decide +kernel
theorem dL_simulate_5 : decode cL_simulate 5 = .ok (.iload_n 3, 1) := by decide +kernel
theorem dL_simulate_6 : decode cL_simulate 6 = .ok (.invokevirtual 96, 3) := by decide +kernel
theorem dL_simulate_9 : decode cL_simulate 9 = .ok (.i2l, 1) := by decide +kernel
theorem dL_simulate_10 : decode cL_simulate 10 = .ok (.lastore, 1) := by decide +kernel
theorem dL_simulate_11 : decode cL_simulate 11 = .ok (.goto 7, 3) := by decide +kernel
theorem dL_simulate_14 : decode cL_simulate 14 = .ok (.astore 5, 2) := by decide +kernel
theorem dL_simulate_16 : decode cL_simulate 16 = .ok (.iconst 1, 1) := by decide +kernel
theorem dL_simulate_17 : decode cL_simulate 17 = .ok (.ireturn, 1) := by decide +kernel
theorem dL_simulate_18 : decode cL_simulate 18 = .ok (.iconst 0, 1) := by decide +kernel
theorem dL_simulate_19 : decode cL_simulate 19 = .ok (.ireturn, 1) := by decide +kernel
theorem dL_save_0 : decode cL_save 0 = .ok (.aload_n 2, 1) := by decide +kernel
theorem dL_save_1 : decode cL_save 1 = .ok (.iconst 0, 1) := by decide +kernel
theorem dL_save_2 : decode cL_save 2 = .ok (.aload_n 0, 1) := by decide +kernel
theorem dL_save_3 : decode cL_save 3 = .ok (.iload_n 1, 1) := by decide +kernel
theorem dL_save_4 : decode cL_save 4 = .ok (.invokevirtual 100, 3) := by decide +kernel
theorem dL_save_7 : decode cL_save 7 = .ok (.i2l, 1) := by decide +kernel
theorem dL_save_8 : decode cL_save 8 = .ok (.lastore, 1) := by decide +kernel
theorem dL_save_9 : decode cL_save 9 = .ok (.goto 6, 3) := by decide +kernel
theorem dL_save_12 : decode cL_save 12 = .ok (.astore_n 3, 1) := by decide +kernel
theorem dL_save_13 : decode cL_save 13 = .ok (.iconst 1, 1) := by decide +kernel
theorem dL_save_14 : decode cL_save 14 = .ok (.ireturn, 1) := by decide +kernel
theorem dL_save_15 : decode cL_save 15 = .ok (.iconst 0, 1) := by decide +kernel
theorem dL_save_16 : decode cL_save 16 = .ok (.ireturn, 1) := by decide +kernel
theorem dL_restore_0 : decode cL_restore 0 = .ok (.aload_n 2, 1) := by decide +kernel
theorem dL_restore_1 : decode cL_restore 1 = .ok (.iconst 0, 1) := by decide +kernel
theorem dL_restore_2 : decode cL_restore 2 = .ok (.aload_n 0, 1) := by decide +kernel
theorem dL_restore_3 : decode cL_restore 3 = .ok (.iload_n 1, 1) := by decide +kernel
theorem dL_restore_4 : decode cL_restore 4 = .ok (.invokevirtual 103, 3) := by decide +kernel
theorem dL_restore_7 : decode cL_restore 7 = .ok (.i2l, 1) := by decide +kernel
theorem dL_restore_8 : decode cL_restore 8 = .ok (.lastore, 1) := by decide +kernel
theorem dL_restore_9 : decode cL_restore 9 = .ok (.goto 9, 3) := by decide +kernel
theorem dL_restore_12 : decode cL_restore 12 = .ok (.astore_n 3, 1) := by decide +kernel
theorem dL_restore_13 : decode cL_restore 13 = .ok (.iconst 1, 1) := by decide +kernel
theorem dL_restore_14 : decode cL_restore 14 = .ok (.ireturn, 1) := by decide +kernel
theorem dL_restore_15 : decode cL_restore 15 = .ok (.astore_n 3, 1) := by decide +kernel
theorem dL_restore_16 : decode cL_restore 16 = .ok (.iconst 2, 1) := by decide +kernel
theorem dL_restore_17 : decode cL_restore 17 = .ok (.ireturn, 1) := by decide +kernel
theorem dL_restore_18 : decode cL_restore 18 = .ok (.iconst 0, 1) := by decide +kernel
theorem dL_restore_19 : decode cL_restore 19 = .ok (.ireturn, 1) := by decide +kernel
theorem dL_law_0 : decode cL_law 0 = .ok (.new 8, 3) := by decide +kernel
theorem dL_law_3 : decode cL_law 3 = .ok (.dup, 1) := by decide +kernel
theorem dL_law_4 : decode cL_law 4 = .ok (.invokespecial 106, 3) := by decide +kernel
theorem dL_law_7 : decode cL_law 7 = .ok (.astore_n 1, 1) := by decide +kernel
theorem dL_law_8 : decode cL_law 8 = .ok (.new 107, 3) := by decide +kernel
theorem dL_law_11 : decode cL_law 11 = .ok (.dup, 1) := by decide +kernel
theorem dL_law_12 : decode cL_law 12 = .ok (.invokespecial 109, 3) := by decide +kernel
theorem dL_law_15 : decode cL_law 15 = .ok (.astore_n 2, 1) := by decide +kernel
theorem dL_law_16 : decode cL_law 16 = .ok (.iconst 1, 1) := by decide +kernel
theorem dL_law_17 : decode cL_law 17 = .ok (.newarray .long, 2) := by decide +kernel
theorem dL_law_19 : decode cL_law 19 = .ok (.astore_n 3, 1) := by decide +kernel
theorem dL_law_20 : decode cL_law 20 = .ok (.iconst 0, 1) := by decide +kernel
theorem dL_law_21 : decode cL_law 21 = .ok (.istore 4, 2) := by decide +kernel
theorem dL_law_23 : decode cL_law 23 = .ok (.iload 4, 2) := by decide +kernel
theorem dL_law_25 : decode cL_law 25 = .ok (.aload_n 0, 1) := by decide +kernel
theorem dL_law_26 : decode cL_law 26 = .ok (.arraylength, 1) := by decide +kernel
theorem dL_law_27 : decode cL_law 27 = .ok (.iconst 5, 1) := by decide +kernel
theorem dL_law_28 : decode cL_law 28 = .ok (.isub, 1) := by decide +kernel
theorem dL_law_29 : decode cL_law 29 = .ok (.if_icmp .gt 2124, 3) := by decide +kernel
theorem dL_law_32 : decode cL_law 32 = .ok (.aload_n 0, 1) := by decide +kernel
theorem dL_law_33 : decode cL_law 33 = .ok (.iload 4, 2) := by decide +kernel
theorem dL_law_35 : decode cL_law 35 = .ok (.iaload, 1) := by decide +kernel
theorem dL_law_36 : decode cL_law 36 = .ok (.bipush 31, 2) := by decide +kernel
theorem dL_law_38 : decode cL_law 38 = .ok (.iand, 1) := by decide +kernel
theorem dL_law_39 : decode cL_law 39 = .ok (.tableswitch 2108 0 30 #[137, 193, 206, 219, 263, 319, 387, 455, 535, 603, 671, 727, 795, 887, 967, 1047, 1127, 1207, 1263, 1331, 1411, 1479, 1523, 1603, 1659, 1727, 1783, 1796, 1896, 1996, 2052], 137) := by decide +kernel
theorem dL_law_176 : decode cL_law 176 = .ok (.aload_n 1, 1) := by decide +kernel
theorem dL_law_177 : decode cL_law 177 = .ok (.aload_n 0, 1) := by decide +kernel
theorem dL_law_178 : decode cL_law 178 = .ok (.iload 4, 2) := by decide +kernel
theorem dL_law_180 : decode cL_law 180 = .ok (.iconst 1, 1) := by decide +kernel
theorem dL_law_181 : decode cL_law 181 = .ok (.iadd, 1) := by decide +kernel
theorem dL_law_182 : decode cL_law 182 = .ok (.iaload, 1) := by decide +kernel
theorem dL_law_183 : decode cL_law 183 = .ok (.aload_n 3, 1) := by decide +kernel
theorem dL_law_184 : decode cL_law 184 = .ok (.invokestatic 110, 3) := by decide +kernel
theorem dL_law_187 : decode cL_law 187 = .ok (.istore 5, 2) := by decide +kernel
theorem dL_law_189 : decode cL_law 189 = .ok (.aload_n 2, 1) := by decide +kernel
theorem dL_law_190 : decode cL_law 190 = .ok (.aload_n 0, 1) := by decide +kernel
theorem dL_law_191 : decode cL_law 191 = .ok (.iload 4, 2) := by decide +kernel
theorem dL_law_193 : decode cL_law 193 = .ok (.iconst 1, 1) := by decide +kernel
theorem dL_law_194 : decode cL_law 194 = .ok (.iadd, 1) := by decide +kernel
theorem dL_law_195 : decode cL_law 195 = .ok (.iaload, 1) := by decide +kernel
theorem dL_law_196 : decode cL_law 196 = .ok (.invokevirtual 115, 3) := by decide +kernel
theorem dL_law_199 : decode cL_law 199 = .ok (.istore 6, 2) := by decide +kernel
theorem dL_law_201 : decode cL_law 201 = .ok (.aload_n 2, 1) := by decide +kernel
theorem dL_law_202 : decode cL_law 202 = .ok (.invokevirtual 116, 3) := by decide +kernel
theorem dL_law_205 : decode cL_law 205 = .ok (.iload 5, 2) := by decide +kernel
theorem dL_law_207 : decode cL_law 207 = .ok (.if_icmp .eq 5, 3) := by decide +kernel
theorem dL_law_210 : decode cL_law 210 = .ok (.iconst 0, 1) := by decide +kernel
theorem dL_law_211 : decode cL_law 211 = .ok (.ireturn, 1) := by decide +kernel
theorem dL_law_212 : decode cL_law 212 = .ok (.iload 5, 2) := by decide +kernel
theorem dL_law_214 : decode cL_law 214 = .ok (.ifCond .ne 15, 3) := by decide +kernel
theorem dL_law_217 : decode cL_law 217 = .ok (.aload_n 3, 1) := by decide +kernel
theorem dL_law_218 : decode cL_law 218 = .ok (.iconst 0, 1) := by decide +kernel
theorem dL_law_219 : decode cL_law 219 = .ok (.laload, 1) := by decide +kernel
theorem dL_law_220 : decode cL_law 220 = .ok (.iload 6, 2) := by decide +kernel
theorem dL_law_222 : decode cL_law 222 = .ok (.i2l, 1) := by decide +kernel
theorem dL_law_223 : decode cL_law 223 = .ok (.lcmp, 1) := by decide +kernel
theorem dL_law_224 : decode cL_law 224 = .ok (.ifCond .eq 5, 3) := by decide +kernel
theorem dL_law_227 : decode cL_law 227 = .ok (.iconst 0, 1) := by decide +kernel
theorem dL_law_228 : decode cL_law 228 = .ok (.ireturn, 1) := by decide +kernel
theorem dL_law_229 : decode cL_law 229 = .ok (.goto 1918, 3) := by decide +kernel
theorem dL_law_232 : decode cL_law 232 = .ok (.aload_n 1, 1) := by decide +kernel
theorem dL_law_233 : decode cL_law 233 = .ok (.invokevirtual 119, 3) := by decide +kernel
theorem dL_law_236 : decode cL_law 236 = .ok (.aload_n 2, 1) := by decide +kernel
theorem dL_law_237 : decode cL_law 237 = .ok (.invokevirtual 122, 3) := by decide +kernel
theorem dL_law_240 : decode cL_law 240 = .ok (.if_icmp .eq 1907, 3) := by decide +kernel
theorem dL_law_243 : decode cL_law 243 = .ok (.iconst 0, 1) := by decide +kernel
theorem dL_law_244 : decode cL_law 244 = .ok (.ireturn, 1) := by decide +kernel
theorem dL_law_245 : decode cL_law 245 = .ok (.aload_n 1, 1) := by decide +kernel
theorem dL_law_246 : decode cL_law 246 = .ok (.invokevirtual 123, 3) := by decide +kernel
theorem dL_law_249 : decode cL_law 249 = .ok (.aload_n 2, 1) := by decide +kernel
theorem dL_law_250 : decode cL_law 250 = .ok (.invokevirtual 126, 3) := by decide +kernel
theorem dL_law_253 : decode cL_law 253 = .ok (.if_icmp .eq 1894, 3) := by decide +kernel
theorem dL_law_256 : decode cL_law 256 = .ok (.iconst 0, 1) := by decide +kernel
theorem dL_law_257 : decode cL_law 257 = .ok (.ireturn, 1) := by decide +kernel
theorem dL_law_258 : decode cL_law 258 = .ok (.aload_n 1, 1) := by decide +kernel
theorem dL_law_259 : decode cL_law 259 = .ok (.aload_n 3, 1) := by decide +kernel
theorem dL_law_260 : decode cL_law 260 = .ok (.invokestatic 127, 3) := by decide +kernel
theorem dL_law_263 : decode cL_law 263 = .ok (.istore 5, 2) := by decide +kernel
theorem dL_law_265 : decode cL_law 265 = .ok (.aload_n 2, 1) := by decide +kernel
theorem dL_law_266 : decode cL_law 266 = .ok (.invokevirtual 130, 3) := by decide +kernel
theorem dL_law_269 : decode cL_law 269 = .ok (.istore 6, 2) := by decide +kernel
theorem dL_law_271 : decode cL_law 271 = .ok (.aload_n 2, 1) := by decide +kernel
theorem dL_law_272 : decode cL_law 272 = .ok (.invokevirtual 116, 3) := by decide +kernel
theorem dL_law_275 : decode cL_law 275 = .ok (.iload 5, 2) := by decide +kernel
theorem dL_law_277 : decode cL_law 277 = .ok (.if_icmp .eq 5, 3) := by decide +kernel
theorem dL_law_280 : decode cL_law 280 = .ok (.iconst 0, 1) := by decide +kernel
theorem dL_law_281 : decode cL_law 281 = .ok (.ireturn, 1) := by decide +kernel
theorem dL_law_282 : decode cL_law 282 = .ok (.iload 5, 2) := by decide +kernel
theorem dL_law_284 : decode cL_law 284 = .ok (.ifCond .ne 15, 3) := by decide +kernel
theorem dL_law_287 : decode cL_law 287 = .ok (.aload_n 3, 1) := by decide +kernel
theorem dL_law_288 : decode cL_law 288 = .ok (.iconst 0, 1) := by decide +kernel
theorem dL_law_289 : decode cL_law 289 = .ok (.laload, 1) := by decide +kernel
theorem dL_law_290 : decode cL_law 290 = .ok (.iload 6, 2) := by decide +kernel
theorem dL_law_292 : decode cL_law 292 = .ok (.i2l, 1) := by decide +kernel
theorem dL_law_293 : decode cL_law 293 = .ok (.lcmp, 1) := by decide +kernel
theorem dL_law_294 : decode cL_law 294 = .ok (.ifCond .eq 5, 3) := by decide +kernel
theorem dL_law_297 : decode cL_law 297 = .ok (.iconst 0, 1) := by decide +kernel
theorem dL_law_298 : decode cL_law 298 = .ok (.ireturn, 1) := by decide +kernel
theorem dL_law_299 : decode cL_law 299 = .ok (.goto 1848, 3) := by decide +kernel
theorem dL_law_302 : decode cL_law 302 = .ok (.aload_n 1, 1) := by decide +kernel
theorem dL_law_303 : decode cL_law 303 = .ok (.aload_n 0, 1) := by decide +kernel
theorem dL_law_304 : decode cL_law 304 = .ok (.iload 4, 2) := by decide +kernel
theorem dL_law_306 : decode cL_law 306 = .ok (.iconst 1, 1) := by decide +kernel
theorem dL_law_307 : decode cL_law 307 = .ok (.iadd, 1) := by decide +kernel
theorem dL_law_308 : decode cL_law 308 = .ok (.iaload, 1) := by decide +kernel
theorem dL_law_309 : decode cL_law 309 = .ok (.aload_n 3, 1) := by decide +kernel
theorem dL_law_310 : decode cL_law 310 = .ok (.invokestatic 131, 3) := by decide +kernel
theorem dL_law_313 : decode cL_law 313 = .ok (.istore 5, 2) := by decide +kernel
theorem dL_law_315 : decode cL_law 315 = .ok (.aload_n 2, 1) := by decide +kernel
theorem dL_law_316 : decode cL_law 316 = .ok (.aload_n 0, 1) := by decide +kernel
theorem dL_law_317 : decode cL_law 317 = .ok (.iload 4, 2) := by decide +kernel
theorem dL_law_319 : decode cL_law 319 = .ok (.iconst 1, 1) := by decide +kernel
theorem dL_law_320 : decode cL_law 320 = .ok (.iadd, 1) := by decide +kernel
theorem dL_law_321 : decode cL_law 321 = .ok (.iaload, 1) := by decide +kernel
theorem dL_law_322 : decode cL_law 322 = .ok (.invokevirtual 133, 3) := by decide +kernel
theorem dL_law_325 : decode cL_law 325 = .ok (.istore 6, 2) := by decide +kernel
theorem dL_law_327 : decode cL_law 327 = .ok (.aload_n 2, 1) := by decide +kernel
theorem dL_law_328 : decode cL_law 328 = .ok (.invokevirtual 116, 3) := by decide +kernel
theorem dL_law_331 : decode cL_law 331 = .ok (.iload 5, 2) := by decide +kernel
theorem dL_law_333 : decode cL_law 333 = .ok (.if_icmp .eq 5, 3) := by decide +kernel
theorem dL_law_336 : decode cL_law 336 = .ok (.iconst 0, 1) := by decide +kernel
theorem dL_law_337 : decode cL_law 337 = .ok (.ireturn, 1) := by decide +kernel
theorem dL_law_338 : decode cL_law 338 = .ok (.iload 5, 2) := by decide +kernel
theorem dL_law_340 : decode cL_law 340 = .ok (.ifCond .ne 15, 3) := by decide +kernel
theorem dL_law_343 : decode cL_law 343 = .ok (.aload_n 3, 1) := by decide +kernel
theorem dL_law_344 : decode cL_law 344 = .ok (.iconst 0, 1) := by decide +kernel
theorem dL_law_345 : decode cL_law 345 = .ok (.laload, 1) := by decide +kernel
theorem dL_law_346 : decode cL_law 346 = .ok (.iload 6, 2) := by decide +kernel
theorem dL_law_348 : decode cL_law 348 = .ok (.i2l, 1) := by decide +kernel
theorem dL_law_349 : decode cL_law 349 = .ok (.lcmp, 1) := by decide +kernel
theorem dL_law_350 : decode cL_law 350 = .ok (.ifCond .eq 5, 3) := by decide +kernel
theorem dL_law_353 : decode cL_law 353 = .ok (.iconst 0, 1) := by decide +kernel
theorem dL_law_354 : decode cL_law 354 = .ok (.ireturn, 1) := by decide +kernel
theorem dL_law_355 : decode cL_law 355 = .ok (.goto 1792, 3) := by decide +kernel
theorem dL_law_358 : decode cL_law 358 = .ok (.aload_n 1, 1) := by decide +kernel
theorem dL_law_359 : decode cL_law 359 = .ok (.aload_n 0, 1) := by decide +kernel
theorem dL_law_360 : decode cL_law 360 = .ok (.iload 4, 2) := by decide +kernel
theorem dL_law_362 : decode cL_law 362 = .ok (.iconst 1, 1) := by decide +kernel
theorem dL_law_363 : decode cL_law 363 = .ok (.iadd, 1) := by decide +kernel
theorem dL_law_364 : decode cL_law 364 = .ok (.iaload, 1) := by decide +kernel
theorem dL_law_365 : decode cL_law 365 = .ok (.aload_n 0, 1) := by decide +kernel
theorem dL_law_366 : decode cL_law 366 = .ok (.iload 4, 2) := by decide +kernel
theorem dL_law_368 : decode cL_law 368 = .ok (.iconst 2, 1) := by decide +kernel
theorem dL_law_369 : decode cL_law 369 = .ok (.iadd, 1) := by decide +kernel
theorem dL_law_370 : decode cL_law 370 = .ok (.iaload, 1) := by decide +kernel
theorem dL_law_371 : decode cL_law 371 = .ok (.aload_n 3, 1) := by decide +kernel
theorem dL_law_372 : decode cL_law 372 = .ok (.invokestatic 134, 3) := by decide +kernel
theorem dL_law_375 : decode cL_law 375 = .ok (.istore 5, 2) := by decide +kernel
theorem dL_law_377 : decode cL_law 377 = .ok (.aload_n 2, 1) := by decide +kernel
theorem dL_law_378 : decode cL_law 378 = .ok (.aload_n 0, 1) := by decide +kernel
theorem dL_law_379 : decode cL_law 379 = .ok (.iload 4, 2) := by decide +kernel
theorem dL_law_381 : decode cL_law 381 = .ok (.iconst 1, 1) := by decide +kernel
theorem dL_law_382 : decode cL_law 382 = .ok (.iadd, 1) := by decide +kernel
theorem dL_law_383 : decode cL_law 383 = .ok (.iaload, 1) := by decide +kernel
theorem dL_law_384 : decode cL_law 384 = .ok (.aload_n 0, 1) := by decide +kernel
theorem dL_law_385 : decode cL_law 385 = .ok (.iload 4, 2) := by decide +kernel
theorem dL_law_387 : decode cL_law 387 = .ok (.iconst 2, 1) := by decide +kernel
theorem dL_law_388 : decode cL_law 388 = .ok (.iadd, 1) := by decide +kernel
theorem dL_law_389 : decode cL_law 389 = .ok (.iaload, 1) := by decide +kernel
theorem dL_law_390 : decode cL_law 390 = .ok (.invokevirtual 137, 3) := by decide +kernel
theorem dL_law_393 : decode cL_law 393 = .ok (.istore 6, 2) := by decide +kernel
theorem dL_law_395 : decode cL_law 395 = .ok (.aload_n 2, 1) := by decide +kernel
theorem dL_law_396 : decode cL_law 396 = .ok (.invokevirtual 116, 3) := by decide +kernel
theorem dL_law_399 : decode cL_law 399 = .ok (.iload 5, 2) := by decide +kernel
theorem dL_law_401 : decode cL_law 401 = .ok (.if_icmp .eq 5, 3) := by decide +kernel
theorem dL_law_404 : decode cL_law 404 = .ok (.iconst 0, 1) := by decide +kernel
theorem dL_law_405 : decode cL_law 405 = .ok (.ireturn, 1) := by decide +kernel
theorem dL_law_406 : decode cL_law 406 = .ok (.iload 5, 2) := by decide +kernel
theorem dL_law_408 : decode cL_law 408 = .ok (.ifCond .ne 15, 3) := by decide +kernel
theorem dL_law_411 : decode cL_law 411 = .ok (.aload_n 3, 1) := by decide +kernel
theorem dL_law_412 : decode cL_law 412 = .ok (.iconst 0, 1) := by decide +kernel
theorem dL_law_413 : decode cL_law 413 = .ok (.laload, 1) := by decide +kernel
theorem dL_law_414 : decode cL_law 414 = .ok (.iload 6, 2) := by decide +kernel
theorem dL_law_416 : decode cL_law 416 = .ok (.i2l, 1) := by decide +kernel
theorem dL_law_417 : decode cL_law 417 = .ok (.lcmp, 1) := by decide +kernel
theorem dL_law_418 : decode cL_law 418 = .ok (.ifCond .eq 5, 3) := by decide +kernel
theorem dL_law_421 : decode cL_law 421 = .ok (.iconst 0, 1) := by decide +kernel
theorem dL_law_422 : decode cL_law 422 = .ok (.ireturn, 1) := by decide +kernel
theorem dL_law_423 : decode cL_law 423 = .ok (.goto 1724, 3) := by decide +kernel
theorem dL_law_426 : decode cL_law 426 = .ok (.aload_n 1, 1) := by decide +kernel
theorem dL_law_427 : decode cL_law 427 = .ok (.aload_n 0, 1) := by decide +kernel
theorem dL_law_428 : decode cL_law 428 = .ok (.iload 4, 2) := by decide +kernel
theorem dL_law_430 : decode cL_law 430 = .ok (.iconst 1, 1) := by decide +kernel
theorem dL_law_431 : decode cL_law 431 = .ok (.iadd, 1) := by decide +kernel
theorem dL_law_432 : decode cL_law 432 = .ok (.iaload, 1) := by decide +kernel
theorem dL_law_433 : decode cL_law 433 = .ok (.aload_n 0, 1) := by decide +kernel
theorem dL_law_434 : decode cL_law 434 = .ok (.iload 4, 2) := by decide +kernel
theorem dL_law_436 : decode cL_law 436 = .ok (.iconst 2, 1) := by decide +kernel
theorem dL_law_437 : decode cL_law 437 = .ok (.iadd, 1) := by decide +kernel
theorem dL_law_438 : decode cL_law 438 = .ok (.iaload, 1) := by decide +kernel
theorem dL_law_439 : decode cL_law 439 = .ok (.aload_n 3, 1) := by decide +kernel
theorem dL_law_440 : decode cL_law 440 = .ok (.invokestatic 138, 3) := by decide +kernel
theorem dL_law_443 : decode cL_law 443 = .ok (.istore 5, 2) := by decide +kernel
theorem dL_law_445 : decode cL_law 445 = .ok (.aload_n 2, 1) := by decide +kernel
theorem dL_law_446 : decode cL_law 446 = .ok (.aload_n 0, 1) := by decide +kernel
theorem dL_law_447 : decode cL_law 447 = .ok (.iload 4, 2) := by decide +kernel
theorem dL_law_449 : decode cL_law 449 = .ok (.iconst 1, 1) := by decide +kernel
theorem dL_law_450 : decode cL_law 450 = .ok (.iadd, 1) := by decide +kernel
theorem dL_law_451 : decode cL_law 451 = .ok (.iaload, 1) := by decide +kernel
theorem dL_law_452 : decode cL_law 452 = .ok (.aload_n 0, 1) := by decide +kernel
theorem dL_law_453 : decode cL_law 453 = .ok (.iload 4, 2) := by decide +kernel
theorem dL_law_455 : decode cL_law 455 = .ok (.iconst 2, 1) := by decide +kernel
theorem dL_law_456 : decode cL_law 456 = .ok (.iadd, 1) := by decide +kernel
theorem dL_law_457 : decode cL_law 457 = .ok (.iaload, 1) := by decide +kernel
theorem dL_law_458 : decode cL_law 458 = .ok (.invokevirtual 140, 3) := by decide +kernel
theorem dL_law_461 : decode cL_law 461 = .ok (.istore 6, 2) := by decide +kernel
theorem dL_law_463 : decode cL_law 463 = .ok (.aload_n 2, 1) := by decide +kernel
theorem dL_law_464 : decode cL_law 464 = .ok (.invokevirtual 116, 3) := by decide +kernel
theorem dL_law_467 : decode cL_law 467 = .ok (.iload 5, 2) := by decide +kernel
theorem dL_law_469 : decode cL_law 469 = .ok (.if_icmp .eq 5, 3) := by decide +kernel
theorem dL_law_472 : decode cL_law 472 = .ok (.iconst 0, 1) := by decide +kernel
theorem dL_law_473 : decode cL_law 473 = .ok (.ireturn, 1) := by decide +kernel
theorem dL_law_474 : decode cL_law 474 = .ok (.iload 5, 2) := by decide +kernel
theorem dL_law_476 : decode cL_law 476 = .ok (.ifCond .ne 15, 3) := by decide +kernel
theorem dL_law_479 : decode cL_law 479 = .ok (.aload_n 3, 1) := by decide +kernel
theorem dL_law_480 : decode cL_law 480 = .ok (.iconst 0, 1) := by decide +kernel
theorem dL_law_481 : decode cL_law 481 = .ok (.laload, 1) := by decide +kernel
theorem dL_law_482 : decode cL_law 482 = .ok (.iload 6, 2) := by decide +kernel
theorem dL_law_484 : decode cL_law 484 = .ok (.i2l, 1) := by decide +kernel
theorem dL_law_485 : decode cL_law 485 = .ok (.lcmp, 1) := by decide +kernel
theorem dL_law_486 : decode cL_law 486 = .ok (.ifCond .eq 5, 3) := by decide +kernel
theorem dL_law_489 : decode cL_law 489 = .ok (.iconst 0, 1) := by decide +kernel
theorem dL_law_490 : decode cL_law 490 = .ok (.ireturn, 1) := by decide +kernel
theorem dL_law_491 : decode cL_law 491 = .ok (.goto 1656, 3) := by decide +kernel
theorem dL_law_494 : decode cL_law 494 = .ok (.aload_n 1, 1) := by decide +kernel
theorem dL_law_495 : decode cL_law 495 = .ok (.aload_n 0, 1) := by decide +kernel
theorem dL_law_496 : decode cL_law 496 = .ok (.iload 4, 2) := by decide +kernel
theorem dL_law_498 : decode cL_law 498 = .ok (.iconst 1, 1) := by decide +kernel
theorem dL_law_499 : decode cL_law 499 = .ok (.iadd, 1) := by decide +kernel
theorem dL_law_500 : decode cL_law 500 = .ok (.iaload, 1) := by decide +kernel
theorem dL_law_501 : decode cL_law 501 = .ok (.aload_n 0, 1) := by decide +kernel
theorem dL_law_502 : decode cL_law 502 = .ok (.iload 4, 2) := by decide +kernel
theorem dL_law_504 : decode cL_law 504 = .ok (.iconst 2, 1) := by decide +kernel
theorem dL_law_505 : decode cL_law 505 = .ok (.iadd, 1) := by decide +kernel
theorem dL_law_506 : decode cL_law 506 = .ok (.iaload, 1) := by decide +kernel
theorem dL_law_507 : decode cL_law 507 = .ok (.aload_n 0, 1) := by decide +kernel
theorem dL_law_508 : decode cL_law 508 = .ok (.iload 4, 2) := by decide +kernel
theorem dL_law_510 : decode cL_law 510 = .ok (.iconst 3, 1) := by decide +kernel
theorem dL_law_511 : decode cL_law 511 = .ok (.iadd, 1) := by decide +kernel
theorem dL_law_512 : decode cL_law 512 = .ok (.iaload, 1) := by decide +kernel
theorem dL_law_513 : decode cL_law 513 = .ok (.aload_n 3, 1) := by decide +kernel
theorem dL_law_514 : decode cL_law 514 = .ok (.invokestatic 141, 3) := by decide +kernel
theorem dL_law_517 : decode cL_law 517 = .ok (.istore 5, 2) := by decide +kernel
theorem dL_law_519 : decode cL_law 519 = .ok (.aload_n 2, 1) := by decide +kernel
theorem dL_law_520 : decode cL_law 520 = .ok (.aload_n 0, 1) := by decide +kernel
theorem dL_law_521 : decode cL_law 521 = .ok (.iload 4, 2) := by decide +kernel
theorem dL_law_523 : decode cL_law 523 = .ok (.iconst 1, 1) := by decide +kernel
theorem dL_law_524 : decode cL_law 524 = .ok (.iadd, 1) := by decide +kernel
theorem dL_law_525 : decode cL_law 525 = .ok (.iaload, 1) := by decide +kernel
theorem dL_law_526 : decode cL_law 526 = .ok (.aload_n 0, 1) := by decide +kernel
theorem dL_law_527 : decode cL_law 527 = .ok (.iload 4, 2) := by decide +kernel
theorem dL_law_529 : decode cL_law 529 = .ok (.iconst 2, 1) := by decide +kernel
theorem dL_law_530 : decode cL_law 530 = .ok (.iadd, 1) := by decide +kernel
theorem dL_law_531 : decode cL_law 531 = .ok (.iaload, 1) := by decide +kernel
theorem dL_law_532 : decode cL_law 532 = .ok (.aload_n 0, 1) := by decide +kernel
theorem dL_law_533 : decode cL_law 533 = .ok (.iload 4, 2) := by decide +kernel
theorem dL_law_535 : decode cL_law 535 = .ok (.iconst 3, 1) := by decide +kernel
theorem dL_law_536 : decode cL_law 536 = .ok (.iadd, 1) := by decide +kernel
theorem dL_law_537 : decode cL_law 537 = .ok (.iaload, 1) := by decide +kernel
theorem dL_law_538 : decode cL_law 538 = .ok (.invokevirtual 144, 3) := by decide +kernel
theorem dL_law_541 : decode cL_law 541 = .ok (.istore 6, 2) := by decide +kernel
theorem dL_law_543 : decode cL_law 543 = .ok (.aload_n 2, 1) := by decide +kernel
theorem dL_law_544 : decode cL_law 544 = .ok (.invokevirtual 116, 3) := by decide +kernel
theorem dL_law_547 : decode cL_law 547 = .ok (.iload 5, 2) := by decide +kernel
theorem dL_law_549 : decode cL_law 549 = .ok (.if_icmp .eq 5, 3) := by decide +kernel
theorem dL_law_552 : decode cL_law 552 = .ok (.iconst 0, 1) := by decide +kernel
theorem dL_law_553 : decode cL_law 553 = .ok (.ireturn, 1) := by decide +kernel
theorem dL_law_554 : decode cL_law 554 = .ok (.iload 5, 2) := by decide +kernel
theorem dL_law_556 : decode cL_law 556 = .ok (.ifCond .ne 15, 3) := by decide +kernel
theorem dL_law_559 : decode cL_law 559 = .ok (.aload_n 3, 1) := by decide +kernel
theorem dL_law_560 : decode cL_law 560 = .ok (.iconst 0, 1) := by decide +kernel
theorem dL_law_561 : decode cL_law 561 = .ok (.laload, 1) := by decide +kernel
theorem dL_law_562 : decode cL_law 562 = .ok (.iload 6, 2) := by decide +kernel
theorem dL_law_564 : decode cL_law 564 = .ok (.i2l, 1) := by decide +kernel
theorem dL_law_565 : decode cL_law 565 = .ok (.lcmp, 1) := by decide +kernel
theorem dL_law_566 : decode cL_law 566 = .ok (.ifCond .eq 5, 3) := by decide +kernel
theorem dL_law_569 : decode cL_law 569 = .ok (.iconst 0, 1) := by decide +kernel
theorem dL_law_570 : decode cL_law 570 = .ok (.ireturn, 1) := by decide +kernel
theorem dL_law_571 : decode cL_law 571 = .ok (.goto 1576, 3) := by decide +kernel
theorem dL_law_574 : decode cL_law 574 = .ok (.aload_n 1, 1) := by decide +kernel
theorem dL_law_575 : decode cL_law 575 = .ok (.aload_n 0, 1) := by decide +kernel
theorem dL_law_576 : decode cL_law 576 = .ok (.iload 4, 2) := by decide +kernel
theorem dL_law_578 : decode cL_law 578 = .ok (.iconst 1, 1) := by decide +kernel
theorem dL_law_579 : decode cL_law 579 = .ok (.iadd, 1) := by decide +kernel
theorem dL_law_580 : decode cL_law 580 = .ok (.iaload, 1) := by decide +kernel
theorem dL_law_581 : decode cL_law 581 = .ok (.aload_n 0, 1) := by decide +kernel
theorem dL_law_582 : decode cL_law 582 = .ok (.iload 4, 2) := by decide +kernel
theorem dL_law_584 : decode cL_law 584 = .ok (.iconst 2, 1) := by decide +kernel
theorem dL_law_585 : decode cL_law 585 = .ok (.iadd, 1) := by decide +kernel
theorem dL_law_586 : decode cL_law 586 = .ok (.iaload, 1) := by decide +kernel
theorem dL_law_587 : decode cL_law 587 = .ok (.aload_n 3, 1) := by decide +kernel
theorem dL_law_588 : decode cL_law 588 = .ok (.invokestatic 145, 3) := by decide +kernel
theorem dL_law_591 : decode cL_law 591 = .ok (.istore 5, 2) := by decide +kernel
theorem dL_law_593 : decode cL_law 593 = .ok (.aload_n 2, 1) := by decide +kernel
theorem dL_law_594 : decode cL_law 594 = .ok (.aload_n 0, 1) := by decide +kernel
theorem dL_law_595 : decode cL_law 595 = .ok (.iload 4, 2) := by decide +kernel
theorem dL_law_597 : decode cL_law 597 = .ok (.iconst 1, 1) := by decide +kernel
theorem dL_law_598 : decode cL_law 598 = .ok (.iadd, 1) := by decide +kernel
theorem dL_law_599 : decode cL_law 599 = .ok (.iaload, 1) := by decide +kernel
theorem dL_law_600 : decode cL_law 600 = .ok (.aload_n 0, 1) := by decide +kernel
theorem dL_law_601 : decode cL_law 601 = .ok (.iload 4, 2) := by decide +kernel
theorem dL_law_603 : decode cL_law 603 = .ok (.iconst 2, 1) := by decide +kernel
theorem dL_law_604 : decode cL_law 604 = .ok (.iadd, 1) := by decide +kernel
theorem dL_law_605 : decode cL_law 605 = .ok (.iaload, 1) := by decide +kernel
theorem dL_law_606 : decode cL_law 606 = .ok (.invokevirtual 147, 3) := by decide +kernel
theorem dL_law_609 : decode cL_law 609 = .ok (.istore 6, 2) := by decide +kernel
theorem dL_law_611 : decode cL_law 611 = .ok (.aload_n 2, 1) := by decide +kernel
theorem dL_law_612 : decode cL_law 612 = .ok (.invokevirtual 116, 3) := by decide +kernel
theorem dL_law_615 : decode cL_law 615 = .ok (.iload 5, 2) := by decide +kernel
theorem dL_law_617 : decode cL_law 617 = .ok (.if_icmp .eq 5, 3) := by decide +kernel
theorem dL_law_620 : decode cL_law 620 = .ok (.iconst 0, 1) := by decide +kernel
theorem dL_law_621 : decode cL_law 621 = .ok (.ireturn, 1) := by decide +kernel
theorem dL_law_622 : decode cL_law 622 = .ok (.iload 5, 2) := by decide +kernel
theorem dL_law_624 : decode cL_law 624 = .ok (.ifCond .ne 15, 3) := by decide +kernel
theorem dL_law_627 : decode cL_law 627 = .ok (.aload_n 3, 1) := by decide +kernel
theorem dL_law_628 : decode cL_law 628 = .ok (.iconst 0, 1) := by decide +kernel
theorem dL_law_629 : decode cL_law 629 = .ok (.laload, 1) := by decide +kernel
theorem dL_law_630 : decode cL_law 630 = .ok (.iload 6, 2) := by decide +kernel
theorem dL_law_632 : decode cL_law 632 = .ok (.i2l, 1) := by decide +kernel
theorem dL_law_633 : decode cL_law 633 = .ok (.lcmp, 1) := by decide +kernel
theorem dL_law_634 : decode cL_law 634 = .ok (.ifCond .eq 5, 3) := by decide +kernel
theorem dL_law_637 : decode cL_law 637 = .ok (.iconst 0, 1) := by decide +kernel
theorem dL_law_638 : decode cL_law 638 = .ok (.ireturn, 1) := by decide +kernel
theorem dL_law_639 : decode cL_law 639 = .ok (.goto 1508, 3) := by decide +kernel
theorem dL_law_642 : decode cL_law 642 = .ok (.aload_n 1, 1) := by decide +kernel
theorem dL_law_643 : decode cL_law 643 = .ok (.aload_n 0, 1) := by decide +kernel
theorem dL_law_644 : decode cL_law 644 = .ok (.iload 4, 2) := by decide +kernel
theorem dL_law_646 : decode cL_law 646 = .ok (.iconst 1, 1) := by decide +kernel
theorem dL_law_647 : decode cL_law 647 = .ok (.iadd, 1) := by decide +kernel
theorem dL_law_648 : decode cL_law 648 = .ok (.iaload, 1) := by decide +kernel
theorem dL_law_649 : decode cL_law 649 = .ok (.aload_n 0, 1) := by decide +kernel
theorem dL_law_650 : decode cL_law 650 = .ok (.iload 4, 2) := by decide +kernel
theorem dL_law_652 : decode cL_law 652 = .ok (.iconst 2, 1) := by decide +kernel
theorem dL_law_653 : decode cL_law 653 = .ok (.iadd, 1) := by decide +kernel
theorem dL_law_654 : decode cL_law 654 = .ok (.iaload, 1) := by decide +kernel
theorem dL_law_655 : decode cL_law 655 = .ok (.aload_n 3, 1) := by decide +kernel
theorem dL_law_656 : decode cL_law 656 = .ok (.invokestatic 148, 3) := by decide +kernel
theorem dL_law_659 : decode cL_law 659 = .ok (.istore 5, 2) := by decide +kernel
theorem dL_law_661 : decode cL_law 661 = .ok (.aload_n 2, 1) := by decide +kernel
theorem dL_law_662 : decode cL_law 662 = .ok (.aload_n 0, 1) := by decide +kernel
theorem dL_law_663 : decode cL_law 663 = .ok (.iload 4, 2) := by decide +kernel
theorem dL_law_665 : decode cL_law 665 = .ok (.iconst 1, 1) := by decide +kernel
theorem dL_law_666 : decode cL_law 666 = .ok (.iadd, 1) := by decide +kernel
theorem dL_law_667 : decode cL_law 667 = .ok (.iaload, 1) := by decide +kernel
theorem dL_law_668 : decode cL_law 668 = .ok (.aload_n 0, 1) := by decide +kernel
theorem dL_law_669 : decode cL_law 669 = .ok (.iload 4, 2) := by decide +kernel
theorem dL_law_671 : decode cL_law 671 = .ok (.iconst 2, 1) := by decide +kernel
theorem dL_law_672 : decode cL_law 672 = .ok (.iadd, 1) := by decide +kernel
theorem dL_law_673 : decode cL_law 673 = .ok (.iaload, 1) := by decide +kernel
theorem dL_law_674 : decode cL_law 674 = .ok (.invokevirtual 150, 3) := by decide +kernel
theorem dL_law_677 : decode cL_law 677 = .ok (.istore 6, 2) := by decide +kernel
theorem dL_law_679 : decode cL_law 679 = .ok (.aload_n 2, 1) := by decide +kernel
theorem dL_law_680 : decode cL_law 680 = .ok (.invokevirtual 116, 3) := by decide +kernel
theorem dL_law_683 : decode cL_law 683 = .ok (.iload 5, 2) := by decide +kernel
theorem dL_law_685 : decode cL_law 685 = .ok (.if_icmp .eq 5, 3) := by decide +kernel
theorem dL_law_688 : decode cL_law 688 = .ok (.iconst 0, 1) := by decide +kernel
theorem dL_law_689 : decode cL_law 689 = .ok (.ireturn, 1) := by decide +kernel
theorem dL_law_690 : decode cL_law 690 = .ok (.iload 5, 2) := by decide +kernel
theorem dL_law_692 : decode cL_law 692 = .ok (.ifCond .ne 15, 3) := by decide +kernel
theorem dL_law_695 : decode cL_law 695 = .ok (.aload_n 3, 1) := by decide +kernel
theorem dL_law_696 : decode cL_law 696 = .ok (.iconst 0, 1) := by decide +kernel
theorem dL_law_697 : decode cL_law 697 = .ok (.laload, 1) := by decide +kernel
theorem dL_law_698 : decode cL_law 698 = .ok (.iload 6, 2) := by decide +kernel
theorem dL_law_700 : decode cL_law 700 = .ok (.i2l, 1) := by decide +kernel
theorem dL_law_701 : decode cL_law 701 = .ok (.lcmp, 1) := by decide +kernel
theorem dL_law_702 : decode cL_law 702 = .ok (.ifCond .eq 5, 3) := by decide +kernel
theorem dL_law_705 : decode cL_law 705 = .ok (.iconst 0, 1) := by decide +kernel
theorem dL_law_706 : decode cL_law 706 = .ok (.ireturn, 1) := by decide +kernel
theorem dL_law_707 : decode cL_law 707 = .ok (.goto 1440, 3) := by decide +kernel
theorem dL_law_710 : decode cL_law 710 = .ok (.aload_n 1, 1) := by decide +kernel
theorem dL_law_711 : decode cL_law 711 = .ok (.aload_n 0, 1) := by decide +kernel
theorem dL_law_712 : decode cL_law 712 = .ok (.iload 4, 2) := by decide +kernel
theorem dL_law_714 : decode cL_law 714 = .ok (.iconst 1, 1) := by decide +kernel
theorem dL_law_715 : decode cL_law 715 = .ok (.iadd, 1) := by decide +kernel
theorem dL_law_716 : decode cL_law 716 = .ok (.iaload, 1) := by decide +kernel
theorem dL_law_717 : decode cL_law 717 = .ok (.aload_n 3, 1) := by decide +kernel
theorem dL_law_718 : decode cL_law 718 = .ok (.invokestatic 151, 3) := by decide +kernel
theorem dL_law_721 : decode cL_law 721 = .ok (.istore 5, 2) := by decide +kernel
theorem dL_law_723 : decode cL_law 723 = .ok (.aload_n 2, 1) := by decide +kernel
theorem dL_law_724 : decode cL_law 724 = .ok (.aload_n 0, 1) := by decide +kernel
theorem dL_law_725 : decode cL_law 725 = .ok (.iload 4, 2) := by decide +kernel
theorem dL_law_727 : decode cL_law 727 = .ok (.iconst 1, 1) := by decide +kernel
theorem dL_law_728 : decode cL_law 728 = .ok (.iadd, 1) := by decide +kernel
theorem dL_law_729 : decode cL_law 729 = .ok (.iaload, 1) := by decide +kernel
theorem dL_law_730 : decode cL_law 730 = .ok (.invokevirtual 153, 3) := by decide +kernel
theorem dL_law_733 : decode cL_law 733 = .ok (.istore 6, 2) := by decide +kernel
theorem dL_law_735 : decode cL_law 735 = .ok (.aload_n 2, 1) := by decide +kernel
theorem dL_law_736 : decode cL_law 736 = .ok (.invokevirtual 116, 3) := by decide +kernel
theorem dL_law_739 : decode cL_law 739 = .ok (.iload 5, 2) := by decide +kernel
theorem dL_law_741 : decode cL_law 741 = .ok (.if_icmp .eq 5, 3) := by decide +kernel
theorem dL_law_744 : decode cL_law 744 = .ok (.iconst 0, 1) := by decide +kernel
theorem dL_law_745 : decode cL_law 745 = .ok (.ireturn, 1) := by decide +kernel
theorem dL_law_746 : decode cL_law 746 = .ok (.iload 5, 2) := by decide +kernel
theorem dL_law_748 : decode cL_law 748 = .ok (.ifCond .ne 15, 3) := by decide +kernel
theorem dL_law_751 : decode cL_law 751 = .ok (.aload_n 3, 1) := by decide +kernel
theorem dL_law_752 : decode cL_law 752 = .ok (.iconst 0, 1) := by decide +kernel
theorem dL_law_753 : decode cL_law 753 = .ok (.laload, 1) := by decide +kernel
theorem dL_law_754 : decode cL_law 754 = .ok (.iload 6, 2) := by decide +kernel
theorem dL_law_756 : decode cL_law 756 = .ok (.i2l, 1) := by decide +kernel
theorem dL_law_757 : decode cL_law 757 = .ok (.lcmp, 1) := by decide +kernel
theorem dL_law_758 : decode cL_law 758 = .ok (.ifCond .eq 5, 3) := by decide +kernel
theorem dL_law_761 : decode cL_law 761 = .ok (.iconst 0, 1) := by decide +kernel
theorem dL_law_762 : decode cL_law 762 = .ok (.ireturn, 1) := by decide +kernel
theorem dL_law_763 : decode cL_law 763 = .ok (.goto 1384, 3) := by decide +kernel
theorem dL_law_766 : decode cL_law 766 = .ok (.aload_n 1, 1) := by decide +kernel
theorem dL_law_767 : decode cL_law 767 = .ok (.aload_n 0, 1) := by decide +kernel
theorem dL_law_768 : decode cL_law 768 = .ok (.iload 4, 2) := by decide +kernel
theorem dL_law_770 : decode cL_law 770 = .ok (.iconst 1, 1) := by decide +kernel
theorem dL_law_771 : decode cL_law 771 = .ok (.iadd, 1) := by decide +kernel
theorem dL_law_772 : decode cL_law 772 = .ok (.iaload, 1) := by decide +kernel
theorem dL_law_773 : decode cL_law 773 = .ok (.aload_n 0, 1) := by decide +kernel
theorem dL_law_774 : decode cL_law 774 = .ok (.iload 4, 2) := by decide +kernel
theorem dL_law_776 : decode cL_law 776 = .ok (.iconst 2, 1) := by decide +kernel
theorem dL_law_777 : decode cL_law 777 = .ok (.iadd, 1) := by decide +kernel
theorem dL_law_778 : decode cL_law 778 = .ok (.iaload, 1) := by decide +kernel
theorem dL_law_779 : decode cL_law 779 = .ok (.aload_n 3, 1) := by decide +kernel
theorem dL_law_780 : decode cL_law 780 = .ok (.invokestatic 154, 3) := by decide +kernel
theorem dL_law_783 : decode cL_law 783 = .ok (.istore 5, 2) := by decide +kernel
theorem dL_law_785 : decode cL_law 785 = .ok (.aload_n 2, 1) := by decide +kernel
theorem dL_law_786 : decode cL_law 786 = .ok (.aload_n 0, 1) := by decide +kernel
theorem dL_law_787 : decode cL_law 787 = .ok (.iload 4, 2) := by decide +kernel
theorem dL_law_789 : decode cL_law 789 = .ok (.iconst 1, 1) := by decide +kernel
theorem dL_law_790 : decode cL_law 790 = .ok (.iadd, 1) := by decide +kernel
theorem dL_law_791 : decode cL_law 791 = .ok (.iaload, 1) := by decide +kernel
theorem dL_law_792 : decode cL_law 792 = .ok (.aload_n 0, 1) := by decide +kernel
theorem dL_law_793 : decode cL_law 793 = .ok (.iload 4, 2) := by decide +kernel
theorem dL_law_795 : decode cL_law 795 = .ok (.iconst 2, 1) := by decide +kernel
theorem dL_law_796 : decode cL_law 796 = .ok (.iadd, 1) := by decide +kernel
theorem dL_law_797 : decode cL_law 797 = .ok (.iaload, 1) := by decide +kernel
theorem dL_law_798 : decode cL_law 798 = .ok (.invokevirtual 156, 3) := by decide +kernel
theorem dL_law_801 : decode cL_law 801 = .ok (.istore 6, 2) := by decide +kernel
theorem dL_law_803 : decode cL_law 803 = .ok (.aload_n 2, 1) := by decide +kernel
theorem dL_law_804 : decode cL_law 804 = .ok (.invokevirtual 116, 3) := by decide +kernel
theorem dL_law_807 : decode cL_law 807 = .ok (.iload 5, 2) := by decide +kernel
theorem dL_law_809 : decode cL_law 809 = .ok (.if_icmp .eq 5, 3) := by decide +kernel
theorem dL_law_812 : decode cL_law 812 = .ok (.iconst 0, 1) := by decide +kernel
theorem dL_law_813 : decode cL_law 813 = .ok (.ireturn, 1) := by decide +kernel
theorem dL_law_814 : decode cL_law 814 = .ok (.iload 5, 2) := by decide +kernel
theorem dL_law_816 : decode cL_law 816 = .ok (.ifCond .ne 15, 3) := by decide +kernel
theorem dL_law_819 : decode cL_law 819 = .ok (.aload_n 3, 1) := by decide +kernel
theorem dL_law_820 : decode cL_law 820 = .ok (.iconst 0, 1) := by decide +kernel
theorem dL_law_821 : decode cL_law 821 = .ok (.laload, 1) := by decide +kernel
theorem dL_law_822 : decode cL_law 822 = .ok (.iload 6, 2) := by decide +kernel
theorem dL_law_824 : decode cL_law 824 = .ok (.i2l, 1) := by decide +kernel
theorem dL_law_825 : decode cL_law 825 = .ok (.lcmp, 1) := by decide +kernel
theorem dL_law_826 : decode cL_law 826 = .ok (.ifCond .eq 5, 3) := by decide +kernel
theorem dL_law_829 : decode cL_law 829 = .ok (.iconst 0, 1) := by decide +kernel
theorem dL_law_830 : decode cL_law 830 = .ok (.ireturn, 1) := by decide +kernel
theorem dL_law_831 : decode cL_law 831 = .ok (.goto 1316, 3) := by decide +kernel
theorem dL_law_834 : decode cL_law 834 = .ok (.aload_n 1, 1) := by decide +kernel
theorem dL_law_835 : decode cL_law 835 = .ok (.aload_n 0, 1) := by decide +kernel
theorem dL_law_836 : decode cL_law 836 = .ok (.iload 4, 2) := by decide +kernel
theorem dL_law_838 : decode cL_law 838 = .ok (.iconst 1, 1) := by decide +kernel
theorem dL_law_839 : decode cL_law 839 = .ok (.iadd, 1) := by decide +kernel
theorem dL_law_840 : decode cL_law 840 = .ok (.iaload, 1) := by decide +kernel
theorem dL_law_841 : decode cL_law 841 = .ok (.aload_n 0, 1) := by decide +kernel
theorem dL_law_842 : decode cL_law 842 = .ok (.iload 4, 2) := by decide +kernel
theorem dL_law_844 : decode cL_law 844 = .ok (.iconst 2, 1) := by decide +kernel
theorem dL_law_845 : decode cL_law 845 = .ok (.iadd, 1) := by decide +kernel
theorem dL_law_846 : decode cL_law 846 = .ok (.iaload, 1) := by decide +kernel
theorem dL_law_847 : decode cL_law 847 = .ok (.aload_n 0, 1) := by decide +kernel
theorem dL_law_848 : decode cL_law 848 = .ok (.iload 4, 2) := by decide +kernel
theorem dL_law_850 : decode cL_law 850 = .ok (.iconst 3, 1) := by decide +kernel
theorem dL_law_851 : decode cL_law 851 = .ok (.iadd, 1) := by decide +kernel
theorem dL_law_852 : decode cL_law 852 = .ok (.iaload, 1) := by decide +kernel
theorem dL_law_853 : decode cL_law 853 = .ok (.aload_n 0, 1) := by decide +kernel
theorem dL_law_854 : decode cL_law 854 = .ok (.iload 4, 2) := by decide +kernel
theorem dL_law_856 : decode cL_law 856 = .ok (.iconst 4, 1) := by decide +kernel
theorem dL_law_857 : decode cL_law 857 = .ok (.iadd, 1) := by decide +kernel
theorem dL_law_858 : decode cL_law 858 = .ok (.iaload, 1) := by decide +kernel
theorem dL_law_859 : decode cL_law 859 = .ok (.aload_n 3, 1) := by decide +kernel
theorem dL_law_860 : decode cL_law 860 = .ok (.invokestatic 157, 3) := by decide +kernel
theorem dL_law_863 : decode cL_law 863 = .ok (.istore 5, 2) := by decide +kernel
theorem dL_law_865 : decode cL_law 865 = .ok (.aload_n 2, 1) := by decide +kernel
theorem dL_law_866 : decode cL_law 866 = .ok (.aload_n 0, 1) := by decide +kernel
theorem dL_law_867 : decode cL_law 867 = .ok (.iload 4, 2) := by decide +kernel
theorem dL_law_869 : decode cL_law 869 = .ok (.iconst 1, 1) := by decide +kernel
theorem dL_law_870 : decode cL_law 870 = .ok (.iadd, 1) := by decide +kernel
theorem dL_law_871 : decode cL_law 871 = .ok (.iaload, 1) := by decide +kernel
theorem dL_law_872 : decode cL_law 872 = .ok (.aload_n 0, 1) := by decide +kernel
theorem dL_law_873 : decode cL_law 873 = .ok (.iload 4, 2) := by decide +kernel
theorem dL_law_875 : decode cL_law 875 = .ok (.iconst 2, 1) := by decide +kernel
theorem dL_law_876 : decode cL_law 876 = .ok (.iadd, 1) := by decide +kernel
theorem dL_law_877 : decode cL_law 877 = .ok (.iaload, 1) := by decide +kernel
theorem dL_law_878 : decode cL_law 878 = .ok (.aload_n 0, 1) := by decide +kernel
theorem dL_law_879 : decode cL_law 879 = .ok (.iload 4, 2) := by decide +kernel
theorem dL_law_881 : decode cL_law 881 = .ok (.iconst 3, 1) := by decide +kernel
theorem dL_law_882 : decode cL_law 882 = .ok (.iadd, 1) := by decide +kernel
theorem dL_law_883 : decode cL_law 883 = .ok (.iaload, 1) := by decide +kernel
theorem dL_law_884 : decode cL_law 884 = .ok (.aload_n 0, 1) := by decide +kernel
theorem dL_law_885 : decode cL_law 885 = .ok (.iload 4, 2) := by decide +kernel
theorem dL_law_887 : decode cL_law 887 = .ok (.iconst 4, 1) := by decide +kernel
theorem dL_law_888 : decode cL_law 888 = .ok (.iadd, 1) := by decide +kernel
theorem dL_law_889 : decode cL_law 889 = .ok (.iaload, 1) := by decide +kernel
theorem dL_law_890 : decode cL_law 890 = .ok (.invokevirtual 160, 3) := by decide +kernel
theorem dL_law_893 : decode cL_law 893 = .ok (.istore 6, 2) := by decide +kernel
theorem dL_law_895 : decode cL_law 895 = .ok (.aload_n 2, 1) := by decide +kernel
theorem dL_law_896 : decode cL_law 896 = .ok (.invokevirtual 116, 3) := by decide +kernel
theorem dL_law_899 : decode cL_law 899 = .ok (.iload 5, 2) := by decide +kernel
theorem dL_law_901 : decode cL_law 901 = .ok (.if_icmp .eq 5, 3) := by decide +kernel
theorem dL_law_904 : decode cL_law 904 = .ok (.iconst 0, 1) := by decide +kernel
theorem dL_law_905 : decode cL_law 905 = .ok (.ireturn, 1) := by decide +kernel
theorem dL_law_906 : decode cL_law 906 = .ok (.iload 5, 2) := by decide +kernel
theorem dL_law_908 : decode cL_law 908 = .ok (.ifCond .ne 15, 3) := by decide +kernel
theorem dL_law_911 : decode cL_law 911 = .ok (.aload_n 3, 1) := by decide +kernel
theorem dL_law_912 : decode cL_law 912 = .ok (.iconst 0, 1) := by decide +kernel
theorem dL_law_913 : decode cL_law 913 = .ok (.laload, 1) := by decide +kernel
theorem dL_law_914 : decode cL_law 914 = .ok (.iload 6, 2) := by decide +kernel
theorem dL_law_916 : decode cL_law 916 = .ok (.i2l, 1) := by decide +kernel
theorem dL_law_917 : decode cL_law 917 = .ok (.lcmp, 1) := by decide +kernel
theorem dL_law_918 : decode cL_law 918 = .ok (.ifCond .eq 5, 3) := by decide +kernel
theorem dL_law_921 : decode cL_law 921 = .ok (.iconst 0, 1) := by decide +kernel
theorem dL_law_922 : decode cL_law 922 = .ok (.ireturn, 1) := by decide +kernel
theorem dL_law_923 : decode cL_law 923 = .ok (.goto 1224, 3) := by decide +kernel
theorem dL_law_926 : decode cL_law 926 = .ok (.aload_n 1, 1) := by decide +kernel
theorem dL_law_927 : decode cL_law 927 = .ok (.aload_n 0, 1) := by decide +kernel
theorem dL_law_928 : decode cL_law 928 = .ok (.iload 4, 2) := by decide +kernel
theorem dL_law_930 : decode cL_law 930 = .ok (.iconst 1, 1) := by decide +kernel
theorem dL_law_931 : decode cL_law 931 = .ok (.iadd, 1) := by decide +kernel
theorem dL_law_932 : decode cL_law 932 = .ok (.iaload, 1) := by decide +kernel
theorem dL_law_933 : decode cL_law 933 = .ok (.aload_n 0, 1) := by decide +kernel
theorem dL_law_934 : decode cL_law 934 = .ok (.iload 4, 2) := by decide +kernel
theorem dL_law_936 : decode cL_law 936 = .ok (.iconst 2, 1) := by decide +kernel
theorem dL_law_937 : decode cL_law 937 = .ok (.iadd, 1) := by decide +kernel
theorem dL_law_938 : decode cL_law 938 = .ok (.iaload, 1) := by decide +kernel
theorem dL_law_939 : decode cL_law 939 = .ok (.aload_n 0, 1) := by decide +kernel
theorem dL_law_940 : decode cL_law 940 = .ok (.iload 4, 2) := by decide +kernel
theorem dL_law_942 : decode cL_law 942 = .ok (.iconst 3, 1) := by decide +kernel
theorem dL_law_943 : decode cL_law 943 = .ok (.iadd, 1) := by decide +kernel
theorem dL_law_944 : decode cL_law 944 = .ok (.iaload, 1) := by decide +kernel
theorem dL_law_945 : decode cL_law 945 = .ok (.aload_n 3, 1) := by decide +kernel
theorem dL_law_946 : decode cL_law 946 = .ok (.invokestatic 161, 3) := by decide +kernel
theorem dL_law_949 : decode cL_law 949 = .ok (.istore 5, 2) := by decide +kernel
theorem dL_law_951 : decode cL_law 951 = .ok (.aload_n 2, 1) := by decide +kernel
theorem dL_law_952 : decode cL_law 952 = .ok (.aload_n 0, 1) := by decide +kernel
theorem dL_law_953 : decode cL_law 953 = .ok (.iload 4, 2) := by decide +kernel
theorem dL_law_955 : decode cL_law 955 = .ok (.iconst 1, 1) := by decide +kernel
theorem dL_law_956 : decode cL_law 956 = .ok (.iadd, 1) := by decide +kernel
theorem dL_law_957 : decode cL_law 957 = .ok (.iaload, 1) := by decide +kernel
theorem dL_law_958 : decode cL_law 958 = .ok (.aload_n 0, 1) := by decide +kernel
theorem dL_law_959 : decode cL_law 959 = .ok (.iload 4, 2) := by decide +kernel
theorem dL_law_961 : decode cL_law 961 = .ok (.iconst 2, 1) := by decide +kernel
theorem dL_law_962 : decode cL_law 962 = .ok (.iadd, 1) := by decide +kernel
theorem dL_law_963 : decode cL_law 963 = .ok (.iaload, 1) := by decide +kernel
theorem dL_law_964 : decode cL_law 964 = .ok (.aload_n 0, 1) := by decide +kernel
theorem dL_law_965 : decode cL_law 965 = .ok (.iload 4, 2) := by decide +kernel
theorem dL_law_967 : decode cL_law 967 = .ok (.iconst 3, 1) := by decide +kernel
theorem dL_law_968 : decode cL_law 968 = .ok (.iadd, 1) := by decide +kernel
theorem dL_law_969 : decode cL_law 969 = .ok (.iaload, 1) := by decide +kernel
theorem dL_law_970 : decode cL_law 970 = .ok (.invokevirtual 163, 3) := by decide +kernel
theorem dL_law_973 : decode cL_law 973 = .ok (.istore 6, 2) := by decide +kernel
theorem dL_law_975 : decode cL_law 975 = .ok (.aload_n 2, 1) := by decide +kernel
theorem dL_law_976 : decode cL_law 976 = .ok (.invokevirtual 116, 3) := by decide +kernel
theorem dL_law_979 : decode cL_law 979 = .ok (.iload 5, 2) := by decide +kernel
theorem dL_law_981 : decode cL_law 981 = .ok (.if_icmp .eq 5, 3) := by decide +kernel
theorem dL_law_984 : decode cL_law 984 = .ok (.iconst 0, 1) := by decide +kernel
theorem dL_law_985 : decode cL_law 985 = .ok (.ireturn, 1) := by decide +kernel
theorem dL_law_986 : decode cL_law 986 = .ok (.iload 5, 2) := by decide +kernel
theorem dL_law_988 : decode cL_law 988 = .ok (.ifCond .ne 15, 3) := by decide +kernel
theorem dL_law_991 : decode cL_law 991 = .ok (.aload_n 3, 1) := by decide +kernel
theorem dL_law_992 : decode cL_law 992 = .ok (.iconst 0, 1) := by decide +kernel
theorem dL_law_993 : decode cL_law 993 = .ok (.laload, 1) := by decide +kernel
theorem dL_law_994 : decode cL_law 994 = .ok (.iload 6, 2) := by decide +kernel
theorem dL_law_996 : decode cL_law 996 = .ok (.i2l, 1) := by decide +kernel
theorem dL_law_997 : decode cL_law 997 = .ok (.lcmp, 1) := by decide +kernel
theorem dL_law_998 : decode cL_law 998 = .ok (.ifCond .eq 5, 3) := by decide +kernel
theorem dL_law_1001 : decode cL_law 1001 = .ok (.iconst 0, 1) := by decide +kernel
theorem dL_law_1002 : decode cL_law 1002 = .ok (.ireturn, 1) := by decide +kernel
theorem dL_law_1003 : decode cL_law 1003 = .ok (.goto 1144, 3) := by decide +kernel
theorem dL_law_1006 : decode cL_law 1006 = .ok (.aload_n 1, 1) := by decide +kernel
theorem dL_law_1007 : decode cL_law 1007 = .ok (.aload_n 0, 1) := by decide +kernel
theorem dL_law_1008 : decode cL_law 1008 = .ok (.iload 4, 2) := by decide +kernel
theorem dL_law_1010 : decode cL_law 1010 = .ok (.iconst 1, 1) := by decide +kernel
theorem dL_law_1011 : decode cL_law 1011 = .ok (.iadd, 1) := by decide +kernel
theorem dL_law_1012 : decode cL_law 1012 = .ok (.iaload, 1) := by decide +kernel
theorem dL_law_1013 : decode cL_law 1013 = .ok (.aload_n 0, 1) := by decide +kernel
theorem dL_law_1014 : decode cL_law 1014 = .ok (.iload 4, 2) := by decide +kernel
theorem dL_law_1016 : decode cL_law 1016 = .ok (.iconst 2, 1) := by decide +kernel
theorem dL_law_1017 : decode cL_law 1017 = .ok (.iadd, 1) := by decide +kernel
theorem dL_law_1018 : decode cL_law 1018 = .ok (.iaload, 1) := by decide +kernel
theorem dL_law_1019 : decode cL_law 1019 = .ok (.aload_n 0, 1) := by decide +kernel
theorem dL_law_1020 : decode cL_law 1020 = .ok (.iload 4, 2) := by decide +kernel
theorem dL_law_1022 : decode cL_law 1022 = .ok (.iconst 3, 1) := by decide +kernel
theorem dL_law_1023 : decode cL_law 1023 = .ok (.iadd, 1) := by decide +kernel
theorem dL_law_1024 : decode cL_law 1024 = .ok (.iaload, 1) := by decide +kernel
theorem dL_law_1025 : decode cL_law 1025 = .ok (.aload_n 3, 1) := by decide +kernel
theorem dL_law_1026 : decode cL_law 1026 = .ok (.invokestatic 164, 3) := by decide +kernel
theorem dL_law_1029 : decode cL_law 1029 = .ok (.istore 5, 2) := by decide +kernel
theorem dL_law_1031 : decode cL_law 1031 = .ok (.aload_n 2, 1) := by decide +kernel
theorem dL_law_1032 : decode cL_law 1032 = .ok (.aload_n 0, 1) := by decide +kernel
theorem dL_law_1033 : decode cL_law 1033 = .ok (.iload 4, 2) := by decide +kernel
theorem dL_law_1035 : decode cL_law 1035 = .ok (.iconst 1, 1) := by decide +kernel
theorem dL_law_1036 : decode cL_law 1036 = .ok (.iadd, 1) := by decide +kernel
theorem dL_law_1037 : decode cL_law 1037 = .ok (.iaload, 1) := by decide +kernel
theorem dL_law_1038 : decode cL_law 1038 = .ok (.aload_n 0, 1) := by decide +kernel
theorem dL_law_1039 : decode cL_law 1039 = .ok (.iload 4, 2) := by decide +kernel
theorem dL_law_1041 : decode cL_law 1041 = .ok (.iconst 2, 1) := by decide +kernel
theorem dL_law_1042 : decode cL_law 1042 = .ok (.iadd, 1) := by decide +kernel
theorem dL_law_1043 : decode cL_law 1043 = .ok (.iaload, 1) := by decide +kernel
theorem dL_law_1044 : decode cL_law 1044 = .ok (.aload_n 0, 1) := by decide +kernel
theorem dL_law_1045 : decode cL_law 1045 = .ok (.iload 4, 2) := by decide +kernel
theorem dL_law_1047 : decode cL_law 1047 = .ok (.iconst 3, 1) := by decide +kernel
theorem dL_law_1048 : decode cL_law 1048 = .ok (.iadd, 1) := by decide +kernel
theorem dL_law_1049 : decode cL_law 1049 = .ok (.iaload, 1) := by decide +kernel
theorem dL_law_1050 : decode cL_law 1050 = .ok (.invokevirtual 166, 3) := by decide +kernel
theorem dL_law_1053 : decode cL_law 1053 = .ok (.istore 6, 2) := by decide +kernel
theorem dL_law_1055 : decode cL_law 1055 = .ok (.aload_n 2, 1) := by decide +kernel
theorem dL_law_1056 : decode cL_law 1056 = .ok (.invokevirtual 116, 3) := by decide +kernel
theorem dL_law_1059 : decode cL_law 1059 = .ok (.iload 5, 2) := by decide +kernel
theorem dL_law_1061 : decode cL_law 1061 = .ok (.if_icmp .eq 5, 3) := by decide +kernel
theorem dL_law_1064 : decode cL_law 1064 = .ok (.iconst 0, 1) := by decide +kernel
theorem dL_law_1065 : decode cL_law 1065 = .ok (.ireturn, 1) := by decide +kernel
theorem dL_law_1066 : decode cL_law 1066 = .ok (.iload 5, 2) := by decide +kernel
theorem dL_law_1068 : decode cL_law 1068 = .ok (.ifCond .ne 15, 3) := by decide +kernel
theorem dL_law_1071 : decode cL_law 1071 = .ok (.aload_n 3, 1) := by decide +kernel
theorem dL_law_1072 : decode cL_law 1072 = .ok (.iconst 0, 1) := by decide +kernel
theorem dL_law_1073 : decode cL_law 1073 = .ok (.laload, 1) := by decide +kernel
theorem dL_law_1074 : decode cL_law 1074 = .ok (.iload 6, 2) := by decide +kernel
theorem dL_law_1076 : decode cL_law 1076 = .ok (.i2l, 1) := by decide +kernel
theorem dL_law_1077 : decode cL_law 1077 = .ok (.lcmp, 1) := by decide +kernel
theorem dL_law_1078 : decode cL_law 1078 = .ok (.ifCond .eq 5, 3) := by decide +kernel
theorem dL_law_1081 : decode cL_law 1081 = .ok (.iconst 0, 1) := by decide +kernel
theorem dL_law_1082 : decode cL_law 1082 = .ok (.ireturn, 1) := by decide +kernel
theorem dL_law_1083 : decode cL_law 1083 = .ok (.goto 1064, 3) := by decide +kernel
theorem dL_law_1086 : decode cL_law 1086 = .ok (.aload_n 1, 1) := by decide +kernel
theorem dL_law_1087 : decode cL_law 1087 = .ok (.aload_n 0, 1) := by decide +kernel
theorem dL_law_1088 : decode cL_law 1088 = .ok (.iload 4, 2) := by decide +kernel
theorem dL_law_1090 : decode cL_law 1090 = .ok (.iconst 1, 1) := by decide +kernel
theorem dL_law_1091 : decode cL_law 1091 = .ok (.iadd, 1) := by decide +kernel
theorem dL_law_1092 : decode cL_law 1092 = .ok (.iaload, 1) := by decide +kernel
theorem dL_law_1093 : decode cL_law 1093 = .ok (.aload_n 0, 1) := by decide +kernel
theorem dL_law_1094 : decode cL_law 1094 = .ok (.iload 4, 2) := by decide +kernel
theorem dL_law_1096 : decode cL_law 1096 = .ok (.iconst 2, 1) := by decide +kernel
theorem dL_law_1097 : decode cL_law 1097 = .ok (.iadd, 1) := by decide +kernel
theorem dL_law_1098 : decode cL_law 1098 = .ok (.iaload, 1) := by decide +kernel
theorem dL_law_1099 : decode cL_law 1099 = .ok (.aload_n 0, 1) := by decide +kernel
theorem dL_law_1100 : decode cL_law 1100 = .ok (.iload 4, 2) := by decide +kernel
theorem dL_law_1102 : decode cL_law 1102 = .ok (.iconst 3, 1) := by decide +kernel
theorem dL_law_1103 : decode cL_law 1103 = .ok (.iadd, 1) := by decide +kernel
theorem dL_law_1104 : decode cL_law 1104 = .ok (.iaload, 1) := by decide +kernel
theorem dL_law_1105 : decode cL_law 1105 = .ok (.aload_n 3, 1) := by decide +kernel
theorem dL_law_1106 : decode cL_law 1106 = .ok (.invokestatic 167, 3) := by decide +kernel
theorem dL_law_1109 : decode cL_law 1109 = .ok (.istore 5, 2) := by decide +kernel
theorem dL_law_1111 : decode cL_law 1111 = .ok (.aload_n 2, 1) := by decide +kernel
theorem dL_law_1112 : decode cL_law 1112 = .ok (.aload_n 0, 1) := by decide +kernel
theorem dL_law_1113 : decode cL_law 1113 = .ok (.iload 4, 2) := by decide +kernel
theorem dL_law_1115 : decode cL_law 1115 = .ok (.iconst 1, 1) := by decide +kernel
theorem dL_law_1116 : decode cL_law 1116 = .ok (.iadd, 1) := by decide +kernel
theorem dL_law_1117 : decode cL_law 1117 = .ok (.iaload, 1) := by decide +kernel
theorem dL_law_1118 : decode cL_law 1118 = .ok (.aload_n 0, 1) := by decide +kernel
theorem dL_law_1119 : decode cL_law 1119 = .ok (.iload 4, 2) := by decide +kernel
theorem dL_law_1121 : decode cL_law 1121 = .ok (.iconst 2, 1) := by decide +kernel
theorem dL_law_1122 : decode cL_law 1122 = .ok (.iadd, 1) := by decide +kernel
theorem dL_law_1123 : decode cL_law 1123 = .ok (.iaload, 1) := by decide +kernel
theorem dL_law_1124 : decode cL_law 1124 = .ok (.aload_n 0, 1) := by decide +kernel
theorem dL_law_1125 : decode cL_law 1125 = .ok (.iload 4, 2) := by decide +kernel
theorem dL_law_1127 : decode cL_law 1127 = .ok (.iconst 3, 1) := by decide +kernel
end
section
theorem dL_law_1128 : decode cL_law 1128 = .ok (.iadd, 1) := by decide +kernel
theorem dL_law_1129 : decode cL_law 1129 = .ok (.iaload, 1) := by decide +kernel
theorem dL_law_1130 : decode cL_law 1130 = .ok (.invokevirtual 169, 3) := by decide +kernel
theorem dL_law_1133 : decode cL_law 1133 = .ok (.istore 6, 2) := by decide +kernel
theorem dL_law_1135 : decode cL_law 1135 = .ok (.aload_n 2, 1) := by decide +kernel
theorem dL_law_1136 : decode cL_law 1136 = .ok (.invokevirtual 116, 3) := by decide +kernel
theorem dL_law_1139 : decode cL_law 1139 = .ok (.iload 5, 2) := by decide +kernel
theorem dL_law_1141 : decode cL_law 1141 = .ok (.if_icmp .eq 5, 3) := by decide +kernel
theorem dL_law_1144 : decode cL_law 1144 = .ok (.iconst 0, 1) := by decide +kernel
theorem dL_law_1145 : decode cL_law 1145 = .ok (.ireturn, 1) := by decide +kernel
theorem dL_law_1146 : decode cL_law 1146 = .ok (.iload 5, 2) := by decide +kernel
theorem dL_law_1148 : decode cL_law 1148 = .ok (.ifCond .ne 15, 3) := by decide +kernel
theorem dL_law_1151 : decode cL_law 1151 = .ok (.aload_n 3, 1) := by decide +kernel
theorem dL_law_1152 : decode cL_law 1152 = .ok (.iconst 0, 1) := by decide +kernel
theorem dL_law_1153 : decode cL_law 1153 = .ok (.laload, 1) := by decide +kernel
theorem dL_law_1154 : decode cL_law 1154 = .ok (.iload 6, 2) := by decide +kernel
theorem dL_law_1156 : decode cL_law 1156 = .ok (.i2l, 1) := by decide +kernel
theorem dL_law_1157 : decode cL_law 1157 = .ok (.lcmp, 1) := by decide +kernel
theorem dL_law_1158 : decode cL_law 1158 = .ok (.ifCond .eq 5, 3) := by decide +kernel
theorem dL_law_1161 : decode cL_law 1161 = .ok (.iconst 0, 1) := by decide +kernel
theorem dL_law_1162 : decode cL_law 1162 = .ok (.ireturn, 1) := by decide +kernel
theorem dL_law_1163 : decode cL_law 1163 = .ok (.goto 984, 3) := by decide +kernel
theorem dL_law_1166 : decode cL_law 1166 = .ok (.aload_n 1, 1) := by decide +kernel
theorem dL_law_1167 : decode cL_law 1167 = .ok (.aload_n 0, 1) := by decide +kernel
theorem dL_law_1168 : decode cL_law 1168 = .ok (.iload 4, 2) := by decide +kernel
theorem dL_law_1170 : decode cL_law 1170 = .ok (.iconst 1, 1) := by decide +kernel
theorem dL_law_1171 : decode cL_law 1171 = .ok (.iadd, 1) := by decide +kernel
theorem dL_law_1172 : decode cL_law 1172 = .ok (.iaload, 1) := by decide +kernel
theorem dL_law_1173 : decode cL_law 1173 = .ok (.aload_n 0, 1) := by decide +kernel
theorem dL_law_1174 : decode cL_law 1174 = .ok (.iload 4, 2) := by decide +kernel
theorem dL_law_1176 : decode cL_law 1176 = .ok (.iconst 2, 1) := by decide +kernel
theorem dL_law_1177 : decode cL_law 1177 = .ok (.iadd, 1) := by decide +kernel
theorem dL_law_1178 : decode cL_law 1178 = .ok (.iaload, 1) := by decide +kernel
theorem dL_law_1179 : decode cL_law 1179 = .ok (.aload_n 0, 1) := by decide +kernel
theorem dL_law_1180 : decode cL_law 1180 = .ok (.iload 4, 2) := by decide +kernel
theorem dL_law_1182 : decode cL_law 1182 = .ok (.iconst 3, 1) := by decide +kernel
theorem dL_law_1183 : decode cL_law 1183 = .ok (.iadd, 1) := by decide +kernel
theorem dL_law_1184 : decode cL_law 1184 = .ok (.iaload, 1) := by decide +kernel
theorem dL_law_1185 : decode cL_law 1185 = .ok (.aload_n 3, 1) := by decide +kernel
theorem dL_law_1186 : decode cL_law 1186 = .ok (.invokestatic 170, 3) := by decide +kernel
theorem dL_law_1189 : decode cL_law 1189 = .ok (.istore 5, 2) := by decide +kernel
theorem dL_law_1191 : decode cL_law 1191 = .ok (.aload_n 2, 1) := by decide +kernel
theorem dL_law_1192 : decode cL_law 1192 = .ok (.aload_n 0, 1) := by decide +kernel
theorem dL_law_1193 : decode cL_law 1193 = .ok (.iload 4, 2) := by decide +kernel
theorem dL_law_1195 : decode cL_law 1195 = .ok (.iconst 1, 1) := by decide +kernel
theorem dL_law_1196 : decode cL_law 1196 = .ok (.iadd, 1) := by decide +kernel
theorem dL_law_1197 : decode cL_law 1197 = .ok (.iaload, 1) := by decide +kernel
theorem dL_law_1198 : decode cL_law 1198 = .ok (.aload_n 0, 1) := by decide +kernel
theorem dL_law_1199 : decode cL_law 1199 = .ok (.iload 4, 2) := by decide +kernel
theorem dL_law_1201 : decode cL_law 1201 = .ok (.iconst 2, 1) := by decide +kernel
theorem dL_law_1202 : decode cL_law 1202 = .ok (.iadd, 1) := by decide +kernel
theorem dL_law_1203 : decode cL_law 1203 = .ok (.iaload, 1) := by decide +kernel
theorem dL_law_1204 : decode cL_law 1204 = .ok (.aload_n 0, 1) := by decide +kernel
theorem dL_law_1205 : decode cL_law 1205 = .ok (.iload 4, 2) := by decide +kernel
theorem dL_law_1207 : decode cL_law 1207 = .ok (.iconst 3, 1) := by decide +kernel
theorem dL_law_1208 : decode cL_law 1208 = .ok (.iadd, 1) := by decide +kernel
theorem dL_law_1209 : decode cL_law 1209 = .ok (.iaload, 1) := by decide +kernel
theorem dL_law_1210 : decode cL_law 1210 = .ok (.invokevirtual 172, 3) := by decide +kernel
theorem dL_law_1213 : decode cL_law 1213 = .ok (.istore 6, 2) := by decide +kernel
theorem dL_law_1215 : decode cL_law 1215 = .ok (.aload_n 2, 1) := by decide +kernel
theorem dL_law_1216 : decode cL_law 1216 = .ok (.invokevirtual 116, 3) := by decide +kernel
theorem dL_law_1219 : decode cL_law 1219 = .ok (.iload 5, 2) := by decide +kernel
theorem dL_law_1221 : decode cL_law 1221 = .ok (.if_icmp .eq 5, 3) := by decide +kernel
theorem dL_law_1224 : decode cL_law 1224 = .ok (.iconst 0, 1) := by decide +kernel
theorem dL_law_1225 : decode cL_law 1225 = .ok (.ireturn, 1) := by decide +kernel
theorem dL_law_1226 : decode cL_law 1226 = .ok (.iload 5, 2) := by decide +kernel
theorem dL_law_1228 : decode cL_law 1228 = .ok (.ifCond .ne 15, 3) := by decide +kernel
theorem dL_law_1231 : decode cL_law 1231 = .ok (.aload_n 3, 1) := by decide +kernel
theorem dL_law_1232 : decode cL_law 1232 = .ok (.iconst 0, 1) := by decide +kernel
theorem dL_law_1233 : decode cL_law 1233 = .ok (.laload, 1) := by decide +kernel
theorem dL_law_1234 : decode cL_law 1234 = .ok (.iload 6, 2) := by decide +kernel
theorem dL_law_1236 : decode cL_law 1236 = .ok (.i2l, 1) := by decide +kernel
theorem dL_law_1237 : decode cL_law 1237 = .ok (.lcmp, 1) := by decide +kernel
theorem dL_law_1238 : decode cL_law 1238 = .ok (.ifCond .eq 5, 3) := by decide +kernel
theorem dL_law_1241 : decode cL_law 1241 = .ok (.iconst 0, 1) := by decide +kernel
theorem dL_law_1242 : decode cL_law 1242 = .ok (.ireturn, 1) := by decide +kernel
theorem dL_law_1243 : decode cL_law 1243 = .ok (.goto 904, 3) := by decide +kernel
theorem dL_law_1246 : decode cL_law 1246 = .ok (.aload_n 1, 1) := by decide +kernel
theorem dL_law_1247 : decode cL_law 1247 = .ok (.aload_n 0, 1) := by decide +kernel
theorem dL_law_1248 : decode cL_law 1248 = .ok (.iload 4, 2) := by decide +kernel
theorem dL_law_1250 : decode cL_law 1250 = .ok (.iconst 1, 1) := by decide +kernel
theorem dL_law_1251 : decode cL_law 1251 = .ok (.iadd, 1) := by decide +kernel
theorem dL_law_1252 : decode cL_law 1252 = .ok (.iaload, 1) := by decide +kernel
theorem dL_law_1253 : decode cL_law 1253 = .ok (.aload_n 3, 1) := by decide +kernel
theorem dL_law_1254 : decode cL_law 1254 = .ok (.invokestatic 173, 3) := by decide +kernel
theorem dL_law_1257 : decode cL_law 1257 = .ok (.istore 5, 2) := by decide +kernel
theorem dL_law_1259 : decode cL_law 1259 = .ok (.aload_n 2, 1) := by decide +kernel
theorem dL_law_1260 : decode cL_law 1260 = .ok (.aload_n 0, 1) := by decide +kernel
theorem dL_law_1261 : decode cL_law 1261 = .ok (.iload 4, 2) := by decide +kernel
theorem dL_law_1263 : decode cL_law 1263 = .ok (.iconst 1, 1) := by decide +kernel
theorem dL_law_1264 : decode cL_law 1264 = .ok (.iadd, 1) := by decide +kernel
theorem dL_law_1265 : decode cL_law 1265 = .ok (.iaload, 1) := by decide +kernel
theorem dL_law_1266 : decode cL_law 1266 = .ok (.invokevirtual 175, 3) := by decide +kernel
theorem dL_law_1269 : decode cL_law 1269 = .ok (.istore 6, 2) := by decide +kernel
theorem dL_law_1271 : decode cL_law 1271 = .ok (.aload_n 2, 1) := by decide +kernel
theorem dL_law_1272 : decode cL_law 1272 = .ok (.invokevirtual 116, 3) := by decide +kernel
theorem dL_law_1275 : decode cL_law 1275 = .ok (.iload 5, 2) := by decide +kernel
theorem dL_law_1277 : decode cL_law 1277 = .ok (.if_icmp .eq 5, 3) := by decide +kernel
theorem dL_law_1280 : decode cL_law 1280 = .ok (.iconst 0, 1) := by decide +kernel
theorem dL_law_1281 : decode cL_law 1281 = .ok (.ireturn, 1) := by decide +kernel
theorem dL_law_1282 : decode cL_law 1282 = .ok (.iload 5, 2) := by decide +kernel
theorem dL_law_1284 : decode cL_law 1284 = .ok (.ifCond .ne 15, 3) := by decide +kernel
theorem dL_law_1287 : decode cL_law 1287 = .ok (.aload_n 3, 1) := by decide +kernel
theorem dL_law_1288 : decode cL_law 1288 = .ok (.iconst 0, 1) := by decide +kernel
theorem dL_law_1289 : decode cL_law 1289 = .ok (.laload, 1) := by decide +kernel
theorem dL_law_1290 : decode cL_law 1290 = .ok (.iload 6, 2) := by decide +kernel
theorem dL_law_1292 : decode cL_law 1292 = .ok (.i2l, 1) := by decide +kernel
theorem dL_law_1293 : decode cL_law 1293 = .ok (.lcmp, 1) := by decide +kernel
theorem dL_law_1294 : decode cL_law 1294 = .ok (.ifCond .eq 5, 3) := by decide +kernel
theorem dL_law_1297 : decode cL_law 1297 = .ok (.iconst 0, 1) := by decide +kernel
theorem dL_law_1298 : decode cL_law 1298 = .ok (.ireturn, 1) := by decide +kernel
theorem dL_law_1299 : decode cL_law 1299 = .ok (.goto 848, 3) := by decide +kernel
theorem dL_law_1302 : decode cL_law 1302 = .ok (.aload_n 1, 1) := by decide +kernel
theorem dL_law_1303 : decode cL_law 1303 = .ok (.aload_n 0, 1) := by decide +kernel
theorem dL_law_1304 : decode cL_law 1304 = .ok (.iload 4, 2) := by decide +kernel
theorem dL_law_1306 : decode cL_law 1306 = .ok (.iconst 1, 1) := by decide +kernel
theorem dL_law_1307 : decode cL_law 1307 = .ok (.iadd, 1) := by decide +kernel
theorem dL_law_1308 : decode cL_law 1308 = .ok (.iaload, 1) := by decide +kernel
theorem dL_law_1309 : decode cL_law 1309 = .ok (.aload_n 0, 1) := by decide +kernel
theorem dL_law_1310 : decode cL_law 1310 = .ok (.iload 4, 2) := by decide +kernel
theorem dL_law_1312 : decode cL_law 1312 = .ok (.iconst 2, 1) := by decide +kernel
theorem dL_law_1313 : decode cL_law 1313 = .ok (.iadd, 1) := by decide +kernel
theorem dL_law_1314 : decode cL_law 1314 = .ok (.iaload, 1) := by decide +kernel
theorem dL_law_1315 : decode cL_law 1315 = .ok (.aload_n 3, 1) := by decide +kernel
theorem dL_law_1316 : decode cL_law 1316 = .ok (.invokestatic 176, 3) := by decide +kernel
theorem dL_law_1319 : decode cL_law 1319 = .ok (.istore 5, 2) := by decide +kernel
theorem dL_law_1321 : decode cL_law 1321 = .ok (.aload_n 2, 1) := by decide +kernel
theorem dL_law_1322 : decode cL_law 1322 = .ok (.aload_n 0, 1) := by decide +kernel
theorem dL_law_1323 : decode cL_law 1323 = .ok (.iload 4, 2) := by decide +kernel
theorem dL_law_1325 : decode cL_law 1325 = .ok (.iconst 1, 1) := by decide +kernel
theorem dL_law_1326 : decode cL_law 1326 = .ok (.iadd, 1) := by decide +kernel
theorem dL_law_1327 : decode cL_law 1327 = .ok (.iaload, 1) := by decide +kernel
theorem dL_law_1328 : decode cL_law 1328 = .ok (.aload_n 0, 1) := by decide +kernel
theorem dL_law_1329 : decode cL_law 1329 = .ok (.iload 4, 2) := by decide +kernel
theorem dL_law_1331 : decode cL_law 1331 = .ok (.iconst 2, 1) := by decide +kernel
theorem dL_law_1332 : decode cL_law 1332 = .ok (.iadd, 1) := by decide +kernel
theorem dL_law_1333 : decode cL_law 1333 = .ok (.iaload, 1) := by decide +kernel
theorem dL_law_1334 : decode cL_law 1334 = .ok (.invokevirtual 178, 3) := by decide +kernel
theorem dL_law_1337 : decode cL_law 1337 = .ok (.istore 6, 2) := by decide +kernel
theorem dL_law_1339 : decode cL_law 1339 = .ok (.aload_n 2, 1) := by decide +kernel
theorem dL_law_1340 : decode cL_law 1340 = .ok (.invokevirtual 116, 3) := by decide +kernel
theorem dL_law_1343 : decode cL_law 1343 = .ok (.iload 5, 2) := by decide +kernel
theorem dL_law_1345 : decode cL_law 1345 = .ok (.if_icmp .eq 5, 3) := by decide +kernel
theorem dL_law_1348 : decode cL_law 1348 = .ok (.iconst 0, 1) := by decide +kernel
theorem dL_law_1349 : decode cL_law 1349 = .ok (.ireturn, 1) := by decide +kernel
theorem dL_law_1350 : decode cL_law 1350 = .ok (.iload 5, 2) := by decide +kernel
theorem dL_law_1352 : decode cL_law 1352 = .ok (.ifCond .ne 15, 3) := by decide +kernel
theorem dL_law_1355 : decode cL_law 1355 = .ok (.aload_n 3, 1) := by decide +kernel
theorem dL_law_1356 : decode cL_law 1356 = .ok (.iconst 0, 1) := by decide +kernel
theorem dL_law_1357 : decode cL_law 1357 = .ok (.laload, 1) := by decide +kernel
theorem dL_law_1358 : decode cL_law 1358 = .ok (.iload 6, 2) := by decide +kernel
theorem dL_law_1360 : decode cL_law 1360 = .ok (.i2l, 1) := by decide +kernel
theorem dL_law_1361 : decode cL_law 1361 = .ok (.lcmp, 1) := by decide +kernel
theorem dL_law_1362 : decode cL_law 1362 = .ok (.ifCond .eq 5, 3) := by decide +kernel
theorem dL_law_1365 : decode cL_law 1365 = .ok (.iconst 0, 1) := by decide +kernel
theorem dL_law_1366 : decode cL_law 1366 = .ok (.ireturn, 1) := by decide +kernel
theorem dL_law_1367 : decode cL_law 1367 = .ok (.goto 780, 3) := by decide +kernel
theorem dL_law_1370 : decode cL_law 1370 = .ok (.aload_n 1, 1) := by decide +kernel
theorem dL_law_1371 : decode cL_law 1371 = .ok (.aload_n 0, 1) := by decide +kernel
theorem dL_law_1372 : decode cL_law 1372 = .ok (.iload 4, 2) := by decide +kernel
theorem dL_law_1374 : decode cL_law 1374 = .ok (.iconst 1, 1) := by decide +kernel
theorem dL_law_1375 : decode cL_law 1375 = .ok (.iadd, 1) := by decide +kernel
theorem dL_law_1376 : decode cL_law 1376 = .ok (.iaload, 1) := by decide +kernel
theorem dL_law_1377 : decode cL_law 1377 = .ok (.aload_n 0, 1) := by decide +kernel
theorem dL_law_1378 : decode cL_law 1378 = .ok (.iload 4, 2) := by decide +kernel
theorem dL_law_1380 : decode cL_law 1380 = .ok (.iconst 2, 1) := by decide +kernel
theorem dL_law_1381 : decode cL_law 1381 = .ok (.iadd, 1) := by decide +kernel
theorem dL_law_1382 : decode cL_law 1382 = .ok (.iaload, 1) := by decide +kernel
theorem dL_law_1383 : decode cL_law 1383 = .ok (.aload_n 0, 1) := by decide +kernel
theorem dL_law_1384 : decode cL_law 1384 = .ok (.iload 4, 2) := by decide +kernel
theorem dL_law_1386 : decode cL_law 1386 = .ok (.iconst 3, 1) := by decide +kernel
theorem dL_law_1387 : decode cL_law 1387 = .ok (.iadd, 1) := by decide +kernel
theorem dL_law_1388 : decode cL_law 1388 = .ok (.iaload, 1) := by decide +kernel
theorem dL_law_1389 : decode cL_law 1389 = .ok (.aload_n 3, 1) := by decide +kernel
theorem dL_law_1390 : decode cL_law 1390 = .ok (.invokestatic 179, 3) := by decide +kernel
theorem dL_law_1393 : decode cL_law 1393 = .ok (.istore 5, 2) := by decide +kernel
theorem dL_law_1395 : decode cL_law 1395 = .ok (.aload_n 2, 1) := by decide +kernel
theorem dL_law_1396 : decode cL_law 1396 = .ok (.aload_n 0, 1) := by decide +kernel
theorem dL_law_1397 : decode cL_law 1397 = .ok (.iload 4, 2) := by decide +kernel
theorem dL_law_1399 : decode cL_law 1399 = .ok (.iconst 1, 1) := by decide +kernel
theorem dL_law_1400 : decode cL_law 1400 = .ok (.iadd, 1) := by decide +kernel
theorem dL_law_1401 : decode cL_law 1401 = .ok (.iaload, 1) := by decide +kernel
theorem dL_law_1402 : decode cL_law 1402 = .ok (.aload_n 0, 1) := by decide +kernel
theorem dL_law_1403 : decode cL_law 1403 = .ok (.iload 4, 2) := by decide +kernel
theorem dL_law_1405 : decode cL_law 1405 = .ok (.iconst 2, 1) := by decide +kernel
theorem dL_law_1406 : decode cL_law 1406 = .ok (.iadd, 1) := by decide +kernel
theorem dL_law_1407 : decode cL_law 1407 = .ok (.iaload, 1) := by decide +kernel
theorem dL_law_1408 : decode cL_law 1408 = .ok (.aload_n 0, 1) := by decide +kernel
theorem dL_law_1409 : decode cL_law 1409 = .ok (.iload 4, 2) := by decide +kernel
theorem dL_law_1411 : decode cL_law 1411 = .ok (.iconst 3, 1) := by decide +kernel
theorem dL_law_1412 : decode cL_law 1412 = .ok (.iadd, 1) := by decide +kernel
theorem dL_law_1413 : decode cL_law 1413 = .ok (.iaload, 1) := by decide +kernel
theorem dL_law_1414 : decode cL_law 1414 = .ok (.invokevirtual 181, 3) := by decide +kernel
theorem dL_law_1417 : decode cL_law 1417 = .ok (.istore 6, 2) := by decide +kernel
theorem dL_law_1419 : decode cL_law 1419 = .ok (.aload_n 2, 1) := by decide +kernel
theorem dL_law_1420 : decode cL_law 1420 = .ok (.invokevirtual 116, 3) := by decide +kernel
theorem dL_law_1423 : decode cL_law 1423 = .ok (.iload 5, 2) := by decide +kernel
theorem dL_law_1425 : decode cL_law 1425 = .ok (.if_icmp .eq 5, 3) := by decide +kernel
theorem dL_law_1428 : decode cL_law 1428 = .ok (.iconst 0, 1) := by decide +kernel
theorem dL_law_1429 : decode cL_law 1429 = .ok (.ireturn, 1) := by decide +kernel
theorem dL_law_1430 : decode cL_law 1430 = .ok (.iload 5, 2) := by decide +kernel
theorem dL_law_1432 : decode cL_law 1432 = .ok (.ifCond .ne 15, 3) := by decide +kernel
theorem dL_law_1435 : decode cL_law 1435 = .ok (.aload_n 3, 1) := by decide +kernel
theorem dL_law_1436 : decode cL_law 1436 = .ok (.iconst 0, 1) := by decide +kernel
theorem dL_law_1437 : decode cL_law 1437 = .ok (.laload, 1) := by decide +kernel
theorem dL_law_1438 : decode cL_law 1438 = .ok (.iload 6, 2) := by decide +kernel
theorem dL_law_1440 : decode cL_law 1440 = .ok (.i2l, 1) := by decide +kernel
theorem dL_law_1441 : decode cL_law 1441 = .ok (.lcmp, 1) := by decide +kernel
theorem dL_law_1442 : decode cL_law 1442 = .ok (.ifCond .eq 5, 3) := by decide +kernel
theorem dL_law_1445 : decode cL_law 1445 = .ok (.iconst 0, 1) := by decide +kernel
theorem dL_law_1446 : decode cL_law 1446 = .ok (.ireturn, 1) := by decide +kernel
theorem dL_law_1447 : decode cL_law 1447 = .ok (.goto 700, 3) := by decide +kernel
theorem dL_law_1450 : decode cL_law 1450 = .ok (.aload_n 1, 1) := by decide +kernel
theorem dL_law_1451 : decode cL_law 1451 = .ok (.aload_n 0, 1) := by decide +kernel
theorem dL_law_1452 : decode cL_law 1452 = .ok (.iload 4, 2) := by decide +kernel
theorem dL_law_1454 : decode cL_law 1454 = .ok (.iconst 1, 1) := by decide +kernel
theorem dL_law_1455 : decode cL_law 1455 = .ok (.iadd, 1) := by decide +kernel
theorem dL_law_1456 : decode cL_law 1456 = .ok (.iaload, 1) := by decide +kernel
theorem dL_law_1457 : decode cL_law 1457 = .ok (.aload_n 0, 1) := by decide +kernel
theorem dL_law_1458 : decode cL_law 1458 = .ok (.iload 4, 2) := by decide +kernel
theorem dL_law_1460 : decode cL_law 1460 = .ok (.iconst 2, 1) := by decide +kernel
theorem dL_law_1461 : decode cL_law 1461 = .ok (.iadd, 1) := by decide +kernel
theorem dL_law_1462 : decode cL_law 1462 = .ok (.iaload, 1) := by decide +kernel
theorem dL_law_1463 : decode cL_law 1463 = .ok (.aload_n 3, 1) := by decide +kernel
theorem dL_law_1464 : decode cL_law 1464 = .ok (.invokestatic 182, 3) := by decide +kernel
theorem dL_law_1467 : decode cL_law 1467 = .ok (.istore 5, 2) := by decide +kernel
theorem dL_law_1469 : decode cL_law 1469 = .ok (.aload_n 2, 1) := by decide +kernel
theorem dL_law_1470 : decode cL_law 1470 = .ok (.aload_n 0, 1) := by decide +kernel
theorem dL_law_1471 : decode cL_law 1471 = .ok (.iload 4, 2) := by decide +kernel
theorem dL_law_1473 : decode cL_law 1473 = .ok (.iconst 1, 1) := by decide +kernel
theorem dL_law_1474 : decode cL_law 1474 = .ok (.iadd, 1) := by decide +kernel
theorem dL_law_1475 : decode cL_law 1475 = .ok (.iaload, 1) := by decide +kernel
theorem dL_law_1476 : decode cL_law 1476 = .ok (.aload_n 0, 1) := by decide +kernel
theorem dL_law_1477 : decode cL_law 1477 = .ok (.iload 4, 2) := by decide +kernel
theorem dL_law_1479 : decode cL_law 1479 = .ok (.iconst 2, 1) := by decide +kernel
theorem dL_law_1480 : decode cL_law 1480 = .ok (.iadd, 1) := by decide +kernel
theorem dL_law_1481 : decode cL_law 1481 = .ok (.iaload, 1) := by decide +kernel
theorem dL_law_1482 : decode cL_law 1482 = .ok (.invokevirtual 184, 3) := by decide +kernel
theorem dL_law_1485 : decode cL_law 1485 = .ok (.istore 6, 2) := by decide +kernel
theorem dL_law_1487 : decode cL_law 1487 = .ok (.aload_n 2, 1) := by decide +kernel
theorem dL_law_1488 : decode cL_law 1488 = .ok (.invokevirtual 116, 3) := by decide +kernel
theorem dL_law_1491 : decode cL_law 1491 = .ok (.iload 5, 2) := by decide +kernel
theorem dL_law_1493 : decode cL_law 1493 = .ok (.if_icmp .eq 5, 3) := by decide +kernel
theorem dL_law_1496 : decode cL_law 1496 = .ok (.iconst 0, 1) := by decide +kernel
theorem dL_law_1497 : decode cL_law 1497 = .ok (.ireturn, 1) := by decide +kernel
theorem dL_law_1498 : decode cL_law 1498 = .ok (.iload 5, 2) := by decide +kernel
theorem dL_law_1500 : decode cL_law 1500 = .ok (.ifCond .ne 15, 3) := by decide +kernel
theorem dL_law_1503 : decode cL_law 1503 = .ok (.aload_n 3, 1) := by decide +kernel
theorem dL_law_1504 : decode cL_law 1504 = .ok (.iconst 0, 1) := by decide +kernel
theorem dL_law_1505 : decode cL_law 1505 = .ok (.laload, 1) := by decide +kernel
theorem dL_law_1506 : decode cL_law 1506 = .ok (.iload 6, 2) := by decide +kernel
theorem dL_law_1508 : decode cL_law 1508 = .ok (.i2l, 1) := by decide +kernel
theorem dL_law_1509 : decode cL_law 1509 = .ok (.lcmp, 1) := by decide +kernel
theorem dL_law_1510 : decode cL_law 1510 = .ok (.ifCond .eq 5, 3) := by decide +kernel
theorem dL_law_1513 : decode cL_law 1513 = .ok (.iconst 0, 1) := by decide +kernel
theorem dL_law_1514 : decode cL_law 1514 = .ok (.ireturn, 1) := by decide +kernel
theorem dL_law_1515 : decode cL_law 1515 = .ok (.goto 632, 3) := by decide +kernel
theorem dL_law_1518 : decode cL_law 1518 = .ok (.aload_n 1, 1) := by decide +kernel
theorem dL_law_1519 : decode cL_law 1519 = .ok (.aload_n 3, 1) := by decide +kernel
theorem dL_law_1520 : decode cL_law 1520 = .ok (.invokestatic 185, 3) := by decide +kernel
theorem dL_law_1523 : decode cL_law 1523 = .ok (.istore 5, 2) := by decide +kernel
theorem dL_law_1525 : decode cL_law 1525 = .ok (.aload_n 2, 1) := by decide +kernel
theorem dL_law_1526 : decode cL_law 1526 = .ok (.invokevirtual 187, 3) := by decide +kernel
theorem dL_law_1529 : decode cL_law 1529 = .ok (.istore 6, 2) := by decide +kernel
theorem dL_law_1531 : decode cL_law 1531 = .ok (.aload_n 2, 1) := by decide +kernel
theorem dL_law_1532 : decode cL_law 1532 = .ok (.invokevirtual 116, 3) := by decide +kernel
theorem dL_law_1535 : decode cL_law 1535 = .ok (.iload 5, 2) := by decide +kernel
theorem dL_law_1537 : decode cL_law 1537 = .ok (.if_icmp .eq 5, 3) := by decide +kernel
theorem dL_law_1540 : decode cL_law 1540 = .ok (.iconst 0, 1) := by decide +kernel
theorem dL_law_1541 : decode cL_law 1541 = .ok (.ireturn, 1) := by decide +kernel
theorem dL_law_1542 : decode cL_law 1542 = .ok (.iload 5, 2) := by decide +kernel
theorem dL_law_1544 : decode cL_law 1544 = .ok (.ifCond .ne 15, 3) := by decide +kernel
theorem dL_law_1547 : decode cL_law 1547 = .ok (.aload_n 3, 1) := by decide +kernel
theorem dL_law_1548 : decode cL_law 1548 = .ok (.iconst 0, 1) := by decide +kernel
theorem dL_law_1549 : decode cL_law 1549 = .ok (.laload, 1) := by decide +kernel
theorem dL_law_1550 : decode cL_law 1550 = .ok (.iload 6, 2) := by decide +kernel
theorem dL_law_1552 : decode cL_law 1552 = .ok (.i2l, 1) := by decide +kernel
theorem dL_law_1553 : decode cL_law 1553 = .ok (.lcmp, 1) := by decide +kernel
theorem dL_law_1554 : decode cL_law 1554 = .ok (.ifCond .eq 5, 3) := by decide +kernel
theorem dL_law_1557 : decode cL_law 1557 = .ok (.iconst 0, 1) := by decide +kernel
theorem dL_law_1558 : decode cL_law 1558 = .ok (.ireturn, 1) := by decide +kernel
theorem dL_law_1559 : decode cL_law 1559 = .ok (.goto 588, 3) := by decide +kernel
theorem dL_law_1562 : decode cL_law 1562 = .ok (.aload_n 1, 1) := by decide +kernel
theorem dL_law_1563 : decode cL_law 1563 = .ok (.aload_n 0, 1) := by decide +kernel
theorem dL_law_1564 : decode cL_law 1564 = .ok (.iload 4, 2) := by decide +kernel
theorem dL_law_1566 : decode cL_law 1566 = .ok (.iconst 1, 1) := by decide +kernel
theorem dL_law_1567 : decode cL_law 1567 = .ok (.iadd, 1) := by decide +kernel
theorem dL_law_1568 : decode cL_law 1568 = .ok (.iaload, 1) := by decide +kernel
theorem dL_law_1569 : decode cL_law 1569 = .ok (.aload_n 0, 1) := by decide +kernel
theorem dL_law_1570 : decode cL_law 1570 = .ok (.iload 4, 2) := by decide +kernel
theorem dL_law_1572 : decode cL_law 1572 = .ok (.iconst 2, 1) := by decide +kernel
theorem dL_law_1573 : decode cL_law 1573 = .ok (.iadd, 1) := by decide +kernel
theorem dL_law_1574 : decode cL_law 1574 = .ok (.iaload, 1) := by decide +kernel
theorem dL_law_1575 : decode cL_law 1575 = .ok (.aload_n 0, 1) := by decide +kernel
theorem dL_law_1576 : decode cL_law 1576 = .ok (.iload 4, 2) := by decide +kernel
theorem dL_law_1578 : decode cL_law 1578 = .ok (.iconst 3, 1) := by decide +kernel
theorem dL_law_1579 : decode cL_law 1579 = .ok (.iadd, 1) := by decide +kernel
theorem dL_law_1580 : decode cL_law 1580 = .ok (.iaload, 1) := by decide +kernel
theorem dL_law_1581 : decode cL_law 1581 = .ok (.aload_n 3, 1) := by decide +kernel
theorem dL_law_1582 : decode cL_law 1582 = .ok (.invokestatic 188, 3) := by decide +kernel
theorem dL_law_1585 : decode cL_law 1585 = .ok (.istore 5, 2) := by decide +kernel
theorem dL_law_1587 : decode cL_law 1587 = .ok (.aload_n 2, 1) := by decide +kernel
theorem dL_law_1588 : decode cL_law 1588 = .ok (.aload_n 0, 1) := by decide +kernel
theorem dL_law_1589 : decode cL_law 1589 = .ok (.iload 4, 2) := by decide +kernel
theorem dL_law_1591 : decode cL_law 1591 = .ok (.iconst 1, 1) := by decide +kernel
theorem dL_law_1592 : decode cL_law 1592 = .ok (.iadd, 1) := by decide +kernel
theorem dL_law_1593 : decode cL_law 1593 = .ok (.iaload, 1) := by decide +kernel
theorem dL_law_1594 : decode cL_law 1594 = .ok (.aload_n 0, 1) := by decide +kernel
theorem dL_law_1595 : decode cL_law 1595 = .ok (.iload 4, 2) := by decide +kernel
theorem dL_law_1597 : decode cL_law 1597 = .ok (.iconst 2, 1) := by decide +kernel
theorem dL_law_1598 : decode cL_law 1598 = .ok (.iadd, 1) := by decide +kernel
theorem dL_law_1599 : decode cL_law 1599 = .ok (.iaload, 1) := by decide +kernel
theorem dL_law_1600 : decode cL_law 1600 = .ok (.aload_n 0, 1) := by decide +kernel
theorem dL_law_1601 : decode cL_law 1601 = .ok (.iload 4, 2) := by decide +kernel
theorem dL_law_1603 : decode cL_law 1603 = .ok (.iconst 3, 1) := by decide +kernel
theorem dL_law_1604 : decode cL_law 1604 = .ok (.iadd, 1) := by decide +kernel
theorem dL_law_1605 : decode cL_law 1605 = .ok (.iaload, 1) := by decide +kernel
theorem dL_law_1606 : decode cL_law 1606 = .ok (.invokevirtual 190, 3) := by decide +kernel
theorem dL_law_1609 : decode cL_law 1609 = .ok (.istore 6, 2) := by decide +kernel
theorem dL_law_1611 : decode cL_law 1611 = .ok (.aload_n 2, 1) := by decide +kernel
theorem dL_law_1612 : decode cL_law 1612 = .ok (.invokevirtual 116, 3) := by decide +kernel
theorem dL_law_1615 : decode cL_law 1615 = .ok (.iload 5, 2) := by decide +kernel
theorem dL_law_1617 : decode cL_law 1617 = .ok (.if_icmp .eq 5, 3) := by decide +kernel
theorem dL_law_1620 : decode cL_law 1620 = .ok (.iconst 0, 1) := by decide +kernel
theorem dL_law_1621 : decode cL_law 1621 = .ok (.ireturn, 1) := by decide +kernel
theorem dL_law_1622 : decode cL_law 1622 = .ok (.iload 5, 2) := by decide +kernel
theorem dL_law_1624 : decode cL_law 1624 = .ok (.ifCond .ne 15, 3) := by decide +kernel
theorem dL_law_1627 : decode cL_law 1627 = .ok (.aload_n 3, 1) := by decide +kernel
theorem dL_law_1628 : decode cL_law 1628 = .ok (.iconst 0, 1) := by decide +kernel
theorem dL_law_1629 : decode cL_law 1629 = .ok (.laload, 1) := by decide +kernel
theorem dL_law_1630 : decode cL_law 1630 = .ok (.iload 6, 2) := by decide +kernel
theorem dL_law_1632 : decode cL_law 1632 = .ok (.i2l, 1) := by decide +kernel
theorem dL_law_1633 : decode cL_law 1633 = .ok (.lcmp, 1) := by decide +kernel
theorem dL_law_1634 : decode cL_law 1634 = .ok (.ifCond .eq 5, 3) := by decide +kernel
theorem dL_law_1637 : decode cL_law 1637 = .ok (.iconst 0, 1) := by decide +kernel
theorem dL_law_1638 : decode cL_law 1638 = .ok (.ireturn, 1) := by decide +kernel
theorem dL_law_1639 : decode cL_law 1639 = .ok (.goto 508, 3) := by decide +kernel
theorem dL_law_1642 : decode cL_law 1642 = .ok (.aload_n 1, 1) := by decide +kernel
theorem dL_law_1643 : decode cL_law 1643 = .ok (.aload_n 0, 1) := by decide +kernel
theorem dL_law_1644 : decode cL_law 1644 = .ok (.iload 4, 2) := by decide +kernel
theorem dL_law_1646 : decode cL_law 1646 = .ok (.iconst 1, 1) := by decide +kernel
theorem dL_law_1647 : decode cL_law 1647 = .ok (.iadd, 1) := by decide +kernel
theorem dL_law_1648 : decode cL_law 1648 = .ok (.iaload, 1) := by decide +kernel
theorem dL_law_1649 : decode cL_law 1649 = .ok (.aload_n 3, 1) := by decide +kernel
theorem dL_law_1650 : decode cL_law 1650 = .ok (.invokestatic 191, 3) := by decide +kernel
theorem dL_law_1653 : decode cL_law 1653 = .ok (.istore 5, 2) := by decide +kernel
theorem dL_law_1655 : decode cL_law 1655 = .ok (.aload_n 2, 1) := by decide +kernel
theorem dL_law_1656 : decode cL_law 1656 = .ok (.aload_n 0, 1) := by decide +kernel
theorem dL_law_1657 : decode cL_law 1657 = .ok (.iload 4, 2) := by decide +kernel
theorem dL_law_1659 : decode cL_law 1659 = .ok (.iconst 1, 1) := by decide +kernel
theorem dL_law_1660 : decode cL_law 1660 = .ok (.iadd, 1) := by decide +kernel
theorem dL_law_1661 : decode cL_law 1661 = .ok (.iaload, 1) := by decide +kernel
theorem dL_law_1662 : decode cL_law 1662 = .ok (.invokevirtual 193, 3) := by decide +kernel
theorem dL_law_1665 : decode cL_law 1665 = .ok (.istore 6, 2) := by decide +kernel
theorem dL_law_1667 : decode cL_law 1667 = .ok (.aload_n 2, 1) := by decide +kernel
theorem dL_law_1668 : decode cL_law 1668 = .ok (.invokevirtual 116, 3) := by decide +kernel
theorem dL_law_1671 : decode cL_law 1671 = .ok (.iload 5, 2) := by decide +kernel
theorem dL_law_1673 : decode cL_law 1673 = .ok (.if_icmp .eq 5, 3) := by decide +kernel
theorem dL_law_1676 : decode cL_law 1676 = .ok (.iconst 0, 1) := by decide +kernel
theorem dL_law_1677 : decode cL_law 1677 = .ok (.ireturn, 1) := by decide +kernel
theorem dL_law_1678 : decode cL_law 1678 = .ok (.iload 5, 2) := by decide +kernel
theorem dL_law_1680 : decode cL_law 1680 = .ok (.ifCond .ne 15, 3) := by decide +kernel
theorem dL_law_1683 : decode cL_law 1683 = .ok (.aload_n 3, 1) := by decide +kernel
theorem dL_law_1684 : decode cL_law 1684 = .ok (.iconst 0, 1) := by decide +kernel
theorem dL_law_1685 : decode cL_law 1685 = .ok (.laload, 1) := by decide +kernel
theorem dL_law_1686 : decode cL_law 1686 = .ok (.iload 6, 2) := by decide +kernel
theorem dL_law_1688 : decode cL_law 1688 = .ok (.i2l, 1) := by decide +kernel
theorem dL_law_1689 : decode cL_law 1689 = .ok (.lcmp, 1) := by decide +kernel
theorem dL_law_1690 : decode cL_law 1690 = .ok (.ifCond .eq 5, 3) := by decide +kernel
theorem dL_law_1693 : decode cL_law 1693 = .ok (.iconst 0, 1) := by decide +kernel
theorem dL_law_1694 : decode cL_law 1694 = .ok (.ireturn, 1) := by decide +kernel
theorem dL_law_1695 : decode cL_law 1695 = .ok (.goto 452, 3) := by decide +kernel
theorem dL_law_1698 : decode cL_law 1698 = .ok (.aload_n 1, 1) := by decide +kernel
theorem dL_law_1699 : decode cL_law 1699 = .ok (.aload_n 0, 1) := by decide +kernel
theorem dL_law_1700 : decode cL_law 1700 = .ok (.iload 4, 2) := by decide +kernel
theorem dL_law_1702 : decode cL_law 1702 = .ok (.iconst 1, 1) := by decide +kernel
theorem dL_law_1703 : decode cL_law 1703 = .ok (.iadd, 1) := by decide +kernel
theorem dL_law_1704 : decode cL_law 1704 = .ok (.iaload, 1) := by decide +kernel
theorem dL_law_1705 : decode cL_law 1705 = .ok (.aload_n 0, 1) := by decide +kernel
theorem dL_law_1706 : decode cL_law 1706 = .ok (.iload 4, 2) := by decide +kernel
theorem dL_law_1708 : decode cL_law 1708 = .ok (.iconst 2, 1) := by decide +kernel
theorem dL_law_1709 : decode cL_law 1709 = .ok (.iadd, 1) := by decide +kernel
theorem dL_law_1710 : decode cL_law 1710 = .ok (.iaload, 1) := by decide +kernel
theorem dL_law_1711 : decode cL_law 1711 = .ok (.aload_n 3, 1) := by decide +kernel
theorem dL_law_1712 : decode cL_law 1712 = .ok (.invokestatic 194, 3) := by decide +kernel
theorem dL_law_1715 : decode cL_law 1715 = .ok (.istore 5, 2) := by decide +kernel
theorem dL_law_1717 : decode cL_law 1717 = .ok (.aload_n 2, 1) := by decide +kernel
theorem dL_law_1718 : decode cL_law 1718 = .ok (.aload_n 0, 1) := by decide +kernel
theorem dL_law_1719 : decode cL_law 1719 = .ok (.iload 4, 2) := by decide +kernel
theorem dL_law_1721 : decode cL_law 1721 = .ok (.iconst 1, 1) := by decide +kernel
theorem dL_law_1722 : decode cL_law 1722 = .ok (.iadd, 1) := by decide +kernel
theorem dL_law_1723 : decode cL_law 1723 = .ok (.iaload, 1) := by decide +kernel
theorem dL_law_1724 : decode cL_law 1724 = .ok (.aload_n 0, 1) := by decide +kernel
theorem dL_law_1725 : decode cL_law 1725 = .ok (.iload 4, 2) := by decide +kernel
theorem dL_law_1727 : decode cL_law 1727 = .ok (.iconst 2, 1) := by decide +kernel
theorem dL_law_1728 : decode cL_law 1728 = .ok (.iadd, 1) := by decide +kernel
theorem dL_law_1729 : decode cL_law 1729 = .ok (.iaload, 1) := by decide +kernel
theorem dL_law_1730 : decode cL_law 1730 = .ok (.invokevirtual 196, 3) := by decide +kernel
theorem dL_law_1733 : decode cL_law 1733 = .ok (.istore 6, 2) := by decide +kernel
theorem dL_law_1735 : decode cL_law 1735 = .ok (.aload_n 2, 1) := by decide +kernel
theorem dL_law_1736 : decode cL_law 1736 = .ok (.invokevirtual 116, 3) := by decide +kernel
theorem dL_law_1739 : decode cL_law 1739 = .ok (.iload 5, 2) := by decide +kernel
theorem dL_law_1741 : decode cL_law 1741 = .ok (.if_icmp .eq 5, 3) := by decide +kernel
theorem dL_law_1744 : decode cL_law 1744 = .ok (.iconst 0, 1) := by decide +kernel
theorem dL_law_1745 : decode cL_law 1745 = .ok (.ireturn, 1) := by decide +kernel
theorem dL_law_1746 : decode cL_law 1746 = .ok (.iload 5, 2) := by decide +kernel
theorem dL_law_1748 : decode cL_law 1748 = .ok (.ifCond .ne 15, 3) := by decide +kernel
theorem dL_law_1751 : decode cL_law 1751 = .ok (.aload_n 3, 1) := by decide +kernel
theorem dL_law_1752 : decode cL_law 1752 = .ok (.iconst 0, 1) := by decide +kernel
theorem dL_law_1753 : decode cL_law 1753 = .ok (.laload, 1) := by decide +kernel
theorem dL_law_1754 : decode cL_law 1754 = .ok (.iload 6, 2) := by decide +kernel
theorem dL_law_1756 : decode cL_law 1756 = .ok (.i2l, 1) := by decide +kernel
theorem dL_law_1757 : decode cL_law 1757 = .ok (.lcmp, 1) := by decide +kernel
theorem dL_law_1758 : decode cL_law 1758 = .ok (.ifCond .eq 5, 3) := by decide +kernel
theorem dL_law_1761 : decode cL_law 1761 = .ok (.iconst 0, 1) := by decide +kernel
theorem dL_law_1762 : decode cL_law 1762 = .ok (.ireturn, 1) := by decide +kernel
theorem dL_law_1763 : decode cL_law 1763 = .ok (.goto 384, 3) := by decide +kernel
theorem dL_law_1766 : decode cL_law 1766 = .ok (.aload_n 1, 1) := by decide +kernel
theorem dL_law_1767 : decode cL_law 1767 = .ok (.aload_n 0, 1) := by decide +kernel
theorem dL_law_1768 : decode cL_law 1768 = .ok (.iload 4, 2) := by decide +kernel
theorem dL_law_1770 : decode cL_law 1770 = .ok (.iconst 1, 1) := by decide +kernel
theorem dL_law_1771 : decode cL_law 1771 = .ok (.iadd, 1) := by decide +kernel
theorem dL_law_1772 : decode cL_law 1772 = .ok (.iaload, 1) := by decide +kernel
theorem dL_law_1773 : decode cL_law 1773 = .ok (.aload_n 3, 1) := by decide +kernel
theorem dL_law_1774 : decode cL_law 1774 = .ok (.invokestatic 197, 3) := by decide +kernel
theorem dL_law_1777 : decode cL_law 1777 = .ok (.istore 5, 2) := by decide +kernel
theorem dL_law_1779 : decode cL_law 1779 = .ok (.aload_n 2, 1) := by decide +kernel
theorem dL_law_1780 : decode cL_law 1780 = .ok (.aload_n 0, 1) := by decide +kernel
theorem dL_law_1781 : decode cL_law 1781 = .ok (.iload 4, 2) := by decide +kernel
theorem dL_law_1783 : decode cL_law 1783 = .ok (.iconst 1, 1) := by decide +kernel
theorem dL_law_1784 : decode cL_law 1784 = .ok (.iadd, 1) := by decide +kernel
theorem dL_law_1785 : decode cL_law 1785 = .ok (.iaload, 1) := by decide +kernel
theorem dL_law_1786 : decode cL_law 1786 = .ok (.invokevirtual 199, 3) := by decide +kernel
theorem dL_law_1789 : decode cL_law 1789 = .ok (.istore 6, 2) := by decide +kernel
theorem dL_law_1791 : decode cL_law 1791 = .ok (.aload_n 2, 1) := by decide +kernel
theorem dL_law_1792 : decode cL_law 1792 = .ok (.invokevirtual 116, 3) := by decide +kernel
theorem dL_law_1795 : decode cL_law 1795 = .ok (.iload 5, 2) := by decide +kernel
theorem dL_law_1797 : decode cL_law 1797 = .ok (.if_icmp .eq 5, 3) := by decide +kernel
theorem dL_law_1800 : decode cL_law 1800 = .ok (.iconst 0, 1) := by decide +kernel
theorem dL_law_1801 : decode cL_law 1801 = .ok (.ireturn, 1) := by decide +kernel
theorem dL_law_1802 : decode cL_law 1802 = .ok (.iload 5, 2) := by decide +kernel
theorem dL_law_1804 : decode cL_law 1804 = .ok (.ifCond .ne 15, 3) := by decide +kernel
theorem dL_law_1807 : decode cL_law 1807 = .ok (.aload_n 3, 1) := by decide +kernel
theorem dL_law_1808 : decode cL_law 1808 = .ok (.iconst 0, 1) := by decide +kernel
theorem dL_law_1809 : decode cL_law 1809 = .ok (.laload, 1) := by decide +kernel
theorem dL_law_1810 : decode cL_law 1810 = .ok (.iload 6, 2) := by decide +kernel
theorem dL_law_1812 : decode cL_law 1812 = .ok (.i2l, 1) := by decide +kernel
theorem dL_law_1813 : decode cL_law 1813 = .ok (.lcmp, 1) := by decide +kernel
theorem dL_law_1814 : decode cL_law 1814 = .ok (.ifCond .eq 5, 3) := by decide +kernel
theorem dL_law_1817 : decode cL_law 1817 = .ok (.iconst 0, 1) := by decide +kernel
theorem dL_law_1818 : decode cL_law 1818 = .ok (.ireturn, 1) := by decide +kernel
theorem dL_law_1819 : decode cL_law 1819 = .ok (.goto 328, 3) := by decide +kernel
theorem dL_law_1822 : decode cL_law 1822 = .ok (.aload_n 1, 1) := by decide +kernel
theorem dL_law_1823 : decode cL_law 1823 = .ok (.invokevirtual 200, 3) := by decide +kernel
theorem dL_law_1826 : decode cL_law 1826 = .ok (.aload_n 2, 1) := by decide +kernel
theorem dL_law_1827 : decode cL_law 1827 = .ok (.invokevirtual 203, 3) := by decide +kernel
theorem dL_law_1830 : decode cL_law 1830 = .ok (.if_icmp .eq 317, 3) := by decide +kernel
theorem dL_law_1833 : decode cL_law 1833 = .ok (.iconst 0, 1) := by decide +kernel
theorem dL_law_1834 : decode cL_law 1834 = .ok (.ireturn, 1) := by decide +kernel
theorem dL_law_1835 : decode cL_law 1835 = .ok (.aload_n 1, 1) := by decide +kernel
theorem dL_law_1836 : decode cL_law 1836 = .ok (.aload_n 0, 1) := by decide +kernel
theorem dL_law_1837 : decode cL_law 1837 = .ok (.iload 4, 2) := by decide +kernel
theorem dL_law_1839 : decode cL_law 1839 = .ok (.iconst 1, 1) := by decide +kernel
theorem dL_law_1840 : decode cL_law 1840 = .ok (.iadd, 1) := by decide +kernel
theorem dL_law_1841 : decode cL_law 1841 = .ok (.iaload, 1) := by decide +kernel
theorem dL_law_1842 : decode cL_law 1842 = .ok (.aload_n 0, 1) := by decide +kernel
theorem dL_law_1843 : decode cL_law 1843 = .ok (.iload 4, 2) := by decide +kernel
theorem dL_law_1845 : decode cL_law 1845 = .ok (.iconst 2, 1) := by decide +kernel
theorem dL_law_1846 : decode cL_law 1846 = .ok (.iadd, 1) := by decide +kernel
theorem dL_law_1847 : decode cL_law 1847 = .ok (.iaload, 1) := by decide +kernel
theorem dL_law_1848 : decode cL_law 1848 = .ok (.i2l, 1) := by decide +kernel
theorem dL_law_1849 : decode cL_law 1849 = .ok (.bipush 32, 2) := by decide +kernel
theorem dL_law_1851 : decode cL_law 1851 = .ok (.lshl, 1) := by decide +kernel
theorem dL_law_1852 : decode cL_law 1852 = .ok (.aload_n 0, 1) := by decide +kernel
theorem dL_law_1853 : decode cL_law 1853 = .ok (.iload 4, 2) := by decide +kernel
theorem dL_law_1855 : decode cL_law 1855 = .ok (.iconst 3, 1) := by decide +kernel
theorem dL_law_1856 : decode cL_law 1856 = .ok (.iadd, 1) := by decide +kernel
theorem dL_law_1857 : decode cL_law 1857 = .ok (.iaload, 1) := by decide +kernel
theorem dL_law_1858 : decode cL_law 1858 = .ok (.i2l, 1) := by decide +kernel
theorem dL_law_1859 : decode cL_law 1859 = .ok (.ldc2_w 204, 3) := by decide +kernel
theorem dL_law_1862 : decode cL_law 1862 = .ok (.land, 1) := by decide +kernel
theorem dL_law_1863 : decode cL_law 1863 = .ok (.lor, 1) := by decide +kernel
theorem dL_law_1864 : decode cL_law 1864 = .ok (.aload_n 3, 1) := by decide +kernel
theorem dL_law_1865 : decode cL_law 1865 = .ok (.invokestatic 206, 3) := by decide +kernel
theorem dL_law_1868 : decode cL_law 1868 = .ok (.istore 5, 2) := by decide +kernel
theorem dL_law_1870 : decode cL_law 1870 = .ok (.aload_n 2, 1) := by decide +kernel
theorem dL_law_1871 : decode cL_law 1871 = .ok (.aload_n 0, 1) := by decide +kernel
theorem dL_law_1872 : decode cL_law 1872 = .ok (.iload 4, 2) := by decide +kernel
theorem dL_law_1874 : decode cL_law 1874 = .ok (.iconst 1, 1) := by decide +kernel
theorem dL_law_1875 : decode cL_law 1875 = .ok (.iadd, 1) := by decide +kernel
theorem dL_law_1876 : decode cL_law 1876 = .ok (.iaload, 1) := by decide +kernel
theorem dL_law_1877 : decode cL_law 1877 = .ok (.aload_n 0, 1) := by decide +kernel
theorem dL_law_1878 : decode cL_law 1878 = .ok (.iload 4, 2) := by decide +kernel
theorem dL_law_1880 : decode cL_law 1880 = .ok (.iconst 2, 1) := by decide +kernel
theorem dL_law_1881 : decode cL_law 1881 = .ok (.iadd, 1) := by decide +kernel
theorem dL_law_1882 : decode cL_law 1882 = .ok (.iaload, 1) := by decide +kernel
theorem dL_law_1883 : decode cL_law 1883 = .ok (.i2l, 1) := by decide +kernel
theorem dL_law_1884 : decode cL_law 1884 = .ok (.bipush 32, 2) := by decide +kernel
theorem dL_law_1886 : decode cL_law 1886 = .ok (.lshl, 1) := by decide +kernel
theorem dL_law_1887 : decode cL_law 1887 = .ok (.aload_n 0, 1) := by decide +kernel
theorem dL_law_1888 : decode cL_law 1888 = .ok (.iload 4, 2) := by decide +kernel
theorem dL_law_1890 : decode cL_law 1890 = .ok (.iconst 3, 1) := by decide +kernel
theorem dL_law_1891 : decode cL_law 1891 = .ok (.iadd, 1) := by decide +kernel
theorem dL_law_1892 : decode cL_law 1892 = .ok (.iaload, 1) := by decide +kernel
theorem dL_law_1893 : decode cL_law 1893 = .ok (.i2l, 1) := by decide +kernel
theorem dL_law_1894 : decode cL_law 1894 = .ok (.ldc2_w 204, 3) := by decide +kernel
theorem dL_law_1897 : decode cL_law 1897 = .ok (.land, 1) := by decide +kernel
theorem dL_law_1898 : decode cL_law 1898 = .ok (.lor, 1) := by decide +kernel
theorem dL_law_1899 : decode cL_law 1899 = .ok (.invokevirtual 209, 3) := by decide +kernel
theorem dL_law_1902 : decode cL_law 1902 = .ok (.istore 6, 2) := by decide +kernel
theorem dL_law_1904 : decode cL_law 1904 = .ok (.aload_n 2, 1) := by decide +kernel
theorem dL_law_1905 : decode cL_law 1905 = .ok (.invokevirtual 116, 3) := by decide +kernel
theorem dL_law_1908 : decode cL_law 1908 = .ok (.iload 5, 2) := by decide +kernel
theorem dL_law_1910 : decode cL_law 1910 = .ok (.if_icmp .eq 5, 3) := by decide +kernel
theorem dL_law_1913 : decode cL_law 1913 = .ok (.iconst 0, 1) := by decide +kernel
theorem dL_law_1914 : decode cL_law 1914 = .ok (.ireturn, 1) := by decide +kernel
theorem dL_law_1915 : decode cL_law 1915 = .ok (.iload 5, 2) := by decide +kernel
theorem dL_law_1917 : decode cL_law 1917 = .ok (.ifCond .ne 15, 3) := by decide +kernel
theorem dL_law_1920 : decode cL_law 1920 = .ok (.aload_n 3, 1) := by decide +kernel
theorem dL_law_1921 : decode cL_law 1921 = .ok (.iconst 0, 1) := by decide +kernel
theorem dL_law_1922 : decode cL_law 1922 = .ok (.laload, 1) := by decide +kernel
theorem dL_law_1923 : decode cL_law 1923 = .ok (.iload 6, 2) := by decide +kernel
theorem dL_law_1925 : decode cL_law 1925 = .ok (.i2l, 1) := by decide +kernel
theorem dL_law_1926 : decode cL_law 1926 = .ok (.lcmp, 1) := by decide +kernel
theorem dL_law_1927 : decode cL_law 1927 = .ok (.ifCond .eq 5, 3) := by decide +kernel
theorem dL_law_1930 : decode cL_law 1930 = .ok (.iconst 0, 1) := by decide +kernel
theorem dL_law_1931 : decode cL_law 1931 = .ok (.ireturn, 1) := by decide +kernel
theorem dL_law_1932 : decode cL_law 1932 = .ok (.goto 215, 3) := by decide +kernel
theorem dL_law_1935 : decode cL_law 1935 = .ok (.aload_n 1, 1) := by decide +kernel
theorem dL_law_1936 : decode cL_law 1936 = .ok (.aload_n 0, 1) := by decide +kernel
theorem dL_law_1937 : decode cL_law 1937 = .ok (.iload 4, 2) := by decide +kernel
theorem dL_law_1939 : decode cL_law 1939 = .ok (.iconst 1, 1) := by decide +kernel
theorem dL_law_1940 : decode cL_law 1940 = .ok (.iadd, 1) := by decide +kernel
theorem dL_law_1941 : decode cL_law 1941 = .ok (.iaload, 1) := by decide +kernel
theorem dL_law_1942 : decode cL_law 1942 = .ok (.i2l, 1) := by decide +kernel
theorem dL_law_1943 : decode cL_law 1943 = .ok (.bipush 32, 2) := by decide +kernel
theorem dL_law_1945 : decode cL_law 1945 = .ok (.lshl, 1) := by decide +kernel
theorem dL_law_1946 : decode cL_law 1946 = .ok (.aload_n 0, 1) := by decide +kernel
theorem dL_law_1947 : decode cL_law 1947 = .ok (.iload 4, 2) := by decide +kernel
theorem dL_law_1949 : decode cL_law 1949 = .ok (.iconst 2, 1) := by decide +kernel
theorem dL_law_1950 : decode cL_law 1950 = .ok (.iadd, 1) := by decide +kernel
theorem dL_law_1951 : decode cL_law 1951 = .ok (.iaload, 1) := by decide +kernel
theorem dL_law_1952 : decode cL_law 1952 = .ok (.i2l, 1) := by decide +kernel
theorem dL_law_1953 : decode cL_law 1953 = .ok (.ldc2_w 204, 3) := by decide +kernel
theorem dL_law_1956 : decode cL_law 1956 = .ok (.land, 1) := by decide +kernel
theorem dL_law_1957 : decode cL_law 1957 = .ok (.lor, 1) := by decide +kernel
theorem dL_law_1958 : decode cL_law 1958 = .ok (.aload_n 0, 1) := by decide +kernel
theorem dL_law_1959 : decode cL_law 1959 = .ok (.iload 4, 2) := by decide +kernel
theorem dL_law_1961 : decode cL_law 1961 = .ok (.iconst 3, 1) := by decide +kernel
theorem dL_law_1962 : decode cL_law 1962 = .ok (.iadd, 1) := by decide +kernel
theorem dL_law_1963 : decode cL_law 1963 = .ok (.iaload, 1) := by decide +kernel
theorem dL_law_1964 : decode cL_law 1964 = .ok (.aload_n 3, 1) := by decide +kernel
theorem dL_law_1965 : decode cL_law 1965 = .ok (.invokestatic 210, 3) := by decide +kernel
theorem dL_law_1968 : decode cL_law 1968 = .ok (.istore 5, 2) := by decide +kernel
theorem dL_law_1970 : decode cL_law 1970 = .ok (.aload_n 2, 1) := by decide +kernel
theorem dL_law_1971 : decode cL_law 1971 = .ok (.aload_n 0, 1) := by decide +kernel
theorem dL_law_1972 : decode cL_law 1972 = .ok (.iload 4, 2) := by decide +kernel
theorem dL_law_1974 : decode cL_law 1974 = .ok (.iconst 1, 1) := by decide +kernel
theorem dL_law_1975 : decode cL_law 1975 = .ok (.iadd, 1) := by decide +kernel
theorem dL_law_1976 : decode cL_law 1976 = .ok (.iaload, 1) := by decide +kernel
theorem dL_law_1977 : decode cL_law 1977 = .ok (.i2l, 1) := by decide +kernel
theorem dL_law_1978 : decode cL_law 1978 = .ok (.bipush 32, 2) := by decide +kernel
theorem dL_law_1980 : decode cL_law 1980 = .ok (.lshl, 1) := by decide +kernel
theorem dL_law_1981 : decode cL_law 1981 = .ok (.aload_n 0, 1) := by decide +kernel
theorem dL_law_1982 : decode cL_law 1982 = .ok (.iload 4, 2) := by decide +kernel
theorem dL_law_1984 : decode cL_law 1984 = .ok (.iconst 2, 1) := by decide +kernel
theorem dL_law_1985 : decode cL_law 1985 = .ok (.iadd, 1) := by decide +kernel
theorem dL_law_1986 : decode cL_law 1986 = .ok (.iaload, 1) := by decide +kernel
theorem dL_law_1987 : decode cL_law 1987 = .ok (.i2l, 1) := by decide +kernel
theorem dL_law_1988 : decode cL_law 1988 = .ok (.ldc2_w 204, 3) := by decide +kernel
theorem dL_law_1991 : decode cL_law 1991 = .ok (.land, 1) := by decide +kernel
theorem dL_law_1992 : decode cL_law 1992 = .ok (.lor, 1) := by decide +kernel
theorem dL_law_1993 : decode cL_law 1993 = .ok (.aload_n 0, 1) := by decide +kernel
theorem dL_law_1994 : decode cL_law 1994 = .ok (.iload 4, 2) := by decide +kernel
theorem dL_law_1996 : decode cL_law 1996 = .ok (.iconst 3, 1) := by decide +kernel
theorem dL_law_1997 : decode cL_law 1997 = .ok (.iadd, 1) := by decide +kernel
theorem dL_law_1998 : decode cL_law 1998 = .ok (.iaload, 1) := by decide +kernel
theorem dL_law_1999 : decode cL_law 1999 = .ok (.invokevirtual 213, 3) := by decide +kernel
theorem dL_law_2002 : decode cL_law 2002 = .ok (.istore 6, 2) := by decide +kernel
theorem dL_law_2004 : decode cL_law 2004 = .ok (.aload_n 2, 1) := by decide +kernel
theorem dL_law_2005 : decode cL_law 2005 = .ok (.invokevirtual 116, 3) := by decide +kernel
theorem dL_law_2008 : decode cL_law 2008 = .ok (.iload 5, 2) := by decide +kernel
theorem dL_law_2010 : decode cL_law 2010 = .ok (.if_icmp .eq 5, 3) := by decide +kernel
theorem dL_law_2013 : decode cL_law 2013 = .ok (.iconst 0, 1) := by decide +kernel
theorem dL_law_2014 : decode cL_law 2014 = .ok (.ireturn, 1) := by decide +kernel
theorem dL_law_2015 : decode cL_law 2015 = .ok (.iload 5, 2) := by decide +kernel
theorem dL_law_2017 : decode cL_law 2017 = .ok (.ifCond .ne 15, 3) := by decide +kernel
theorem dL_law_2020 : decode cL_law 2020 = .ok (.aload_n 3, 1) := by decide +kernel
theorem dL_law_2021 : decode cL_law 2021 = .ok (.iconst 0, 1) := by decide +kernel
theorem dL_law_2022 : decode cL_law 2022 = .ok (.laload, 1) := by decide +kernel
theorem dL_law_2023 : decode cL_law 2023 = .ok (.iload 6, 2) := by decide +kernel
theorem dL_law_2025 : decode cL_law 2025 = .ok (.i2l, 1) := by decide +kernel
theorem dL_law_2026 : decode cL_law 2026 = .ok (.lcmp, 1) := by decide +kernel
theorem dL_law_2027 : decode cL_law 2027 = .ok (.ifCond .eq 5, 3) := by decide +kernel
theorem dL_law_2030 : decode cL_law 2030 = .ok (.iconst 0, 1) := by decide +kernel
theorem dL_law_2031 : decode cL_law 2031 = .ok (.ireturn, 1) := by decide +kernel
theorem dL_law_2032 : decode cL_law 2032 = .ok (.goto 115, 3) := by decide +kernel
theorem dL_law_2035 : decode cL_law 2035 = .ok (.aload_n 1, 1) := by decide +kernel
theorem dL_law_2036 : decode cL_law 2036 = .ok (.aload_n 0, 1) := by decide +kernel
theorem dL_law_2037 : decode cL_law 2037 = .ok (.iload 4, 2) := by decide +kernel
theorem dL_law_2039 : decode cL_law 2039 = .ok (.iconst 1, 1) := by decide +kernel
theorem dL_law_2040 : decode cL_law 2040 = .ok (.iadd, 1) := by decide +kernel
theorem dL_law_2041 : decode cL_law 2041 = .ok (.iaload, 1) := by decide +kernel
theorem dL_law_2042 : decode cL_law 2042 = .ok (.aload_n 3, 1) := by decide +kernel
theorem dL_law_2043 : decode cL_law 2043 = .ok (.invokestatic 214, 3) := by decide +kernel
theorem dL_law_2046 : decode cL_law 2046 = .ok (.istore 5, 2) := by decide +kernel
theorem dL_law_2048 : decode cL_law 2048 = .ok (.aload_n 2, 1) := by decide +kernel
theorem dL_law_2049 : decode cL_law 2049 = .ok (.aload_n 0, 1) := by decide +kernel
theorem dL_law_2050 : decode cL_law 2050 = .ok (.iload 4, 2) := by decide +kernel
theorem dL_law_2052 : decode cL_law 2052 = .ok (.iconst 1, 1) := by decide +kernel
theorem dL_law_2053 : decode cL_law 2053 = .ok (.iadd, 1) := by decide +kernel
theorem dL_law_2054 : decode cL_law 2054 = .ok (.iaload, 1) := by decide +kernel
theorem dL_law_2055 : decode cL_law 2055 = .ok (.invokevirtual 216, 3) := by decide +kernel
theorem dL_law_2058 : decode cL_law 2058 = .ok (.istore 6, 2) := by decide +kernel
theorem dL_law_2060 : decode cL_law 2060 = .ok (.aload_n 2, 1) := by decide +kernel
theorem dL_law_2061 : decode cL_law 2061 = .ok (.invokevirtual 116, 3) := by decide +kernel
theorem dL_law_2064 : decode cL_law 2064 = .ok (.iload 5, 2) := by decide +kernel
theorem dL_law_2066 : decode cL_law 2066 = .ok (.if_icmp .eq 5, 3) := by decide +kernel
theorem dL_law_2069 : decode cL_law 2069 = .ok (.iconst 0, 1) := by decide +kernel
theorem dL_law_2070 : decode cL_law 2070 = .ok (.ireturn, 1) := by decide +kernel
theorem dL_law_2071 : decode cL_law 2071 = .ok (.iload 5, 2) := by decide +kernel
theorem dL_law_2073 : decode cL_law 2073 = .ok (.ifCond .ne 15, 3) := by decide +kernel
theorem dL_law_2076 : decode cL_law 2076 = .ok (.aload_n 3, 1) := by decide +kernel
theorem dL_law_2077 : decode cL_law 2077 = .ok (.iconst 0, 1) := by decide +kernel
theorem dL_law_2078 : decode cL_law 2078 = .ok (.laload, 1) := by decide +kernel
theorem dL_law_2079 : decode cL_law 2079 = .ok (.iload 6, 2) := by decide +kernel
theorem dL_law_2081 : decode cL_law 2081 = .ok (.i2l, 1) := by decide +kernel
theorem dL_law_2082 : decode cL_law 2082 = .ok (.lcmp, 1) := by decide +kernel
theorem dL_law_2083 : decode cL_law 2083 = .ok (.ifCond .eq 5, 3) := by decide +kernel
theorem dL_law_2086 : decode cL_law 2086 = .ok (.iconst 0, 1) := by decide +kernel
theorem dL_law_2087 : decode cL_law 2087 = .ok (.ireturn, 1) := by decide +kernel
theorem dL_law_2088 : decode cL_law 2088 = .ok (.goto 59, 3) := by decide +kernel
theorem dL_law_2091 : decode cL_law 2091 = .ok (.aload_n 1, 1) := by decide +kernel
theorem dL_law_2092 : decode cL_law 2092 = .ok (.aload_n 0, 1) := by decide +kernel
theorem dL_law_2093 : decode cL_law 2093 = .ok (.iload 4, 2) := by decide +kernel
theorem dL_law_2095 : decode cL_law 2095 = .ok (.iconst 1, 1) := by decide +kernel
theorem dL_law_2096 : decode cL_law 2096 = .ok (.iadd, 1) := by decide +kernel
theorem dL_law_2097 : decode cL_law 2097 = .ok (.iaload, 1) := by decide +kernel
theorem dL_law_2098 : decode cL_law 2098 = .ok (.aload_n 3, 1) := by decide +kernel
theorem dL_law_2099 : decode cL_law 2099 = .ok (.invokestatic 217, 3) := by decide +kernel
theorem dL_law_2102 : decode cL_law 2102 = .ok (.istore 5, 2) := by decide +kernel
theorem dL_law_2104 : decode cL_law 2104 = .ok (.aload_n 2, 1) := by decide +kernel
theorem dL_law_2105 : decode cL_law 2105 = .ok (.aload_n 0, 1) := by decide +kernel
theorem dL_law_2106 : decode cL_law 2106 = .ok (.iload 4, 2) := by decide +kernel
theorem dL_law_2108 : decode cL_law 2108 = .ok (.iconst 1, 1) := by decide +kernel
theorem dL_law_2109 : decode cL_law 2109 = .ok (.iadd, 1) := by decide +kernel
theorem dL_law_2110 : decode cL_law 2110 = .ok (.iaload, 1) := by decide +kernel
theorem dL_law_2111 : decode cL_law 2111 = .ok (.invokevirtual 219, 3) := by decide +kernel
theorem dL_law_2114 : decode cL_law 2114 = .ok (.istore 6, 2) := by decide +kernel
theorem dL_law_2116 : decode cL_law 2116 = .ok (.aload_n 2, 1) := by decide +kernel
theorem dL_law_2117 : decode cL_law 2117 = .ok (.invokevirtual 116, 3) := by decide +kernel
theorem dL_law_2120 : decode cL_law 2120 = .ok (.iload 5, 2) := by decide +kernel
theorem dL_law_2122 : decode cL_law 2122 = .ok (.if_icmp .eq 5, 3) := by decide +kernel
theorem dL_law_2125 : decode cL_law 2125 = .ok (.iconst 0, 1) := by decide +kernel
theorem dL_law_2126 : decode cL_law 2126 = .ok (.ireturn, 1) := by decide +kernel
theorem dL_law_2127 : decode cL_law 2127 = .ok (.iload 5, 2) := by decide +kernel
theorem dL_law_2129 : decode cL_law 2129 = .ok (.ifCond .ne 15, 3) := by decide +kernel
theorem dL_law_2132 : decode cL_law 2132 = .ok (.aload_n 3, 1) := by decide +kernel
theorem dL_law_2133 : decode cL_law 2133 = .ok (.iconst 0, 1) := by decide +kernel
theorem dL_law_2134 : decode cL_law 2134 = .ok (.laload, 1) := by decide +kernel
theorem dL_law_2135 : decode cL_law 2135 = .ok (.iload 6, 2) := by decide +kernel
theorem dL_law_2137 : decode cL_law 2137 = .ok (.i2l, 1) := by decide +kernel
theorem dL_law_2138 : decode cL_law 2138 = .ok (.lcmp, 1) := by decide +kernel
theorem dL_law_2139 : decode cL_law 2139 = .ok (.ifCond .eq 5, 3) := by decide +kernel
theorem dL_law_2142 : decode cL_law 2142 = .ok (.iconst 0, 1) := by decide +kernel
theorem dL_law_2143 : decode cL_law 2143 = .ok (.ireturn, 1) := by decide +kernel
theorem dL_law_2144 : decode cL_law 2144 = .ok (.goto 3, 3) := by decide +kernel
theorem dL_law_2147 : decode cL_law 2147 = .ok (.iinc 4 5, 3) := by decide +kernel
theorem dL_law_2150 : decode cL_law 2150 = .ok (.goto (-2127), 3) := by decide +kernel
theorem dL_law_2153 : decode cL_law 2153 = .ok (.iconst 1, 1) := by decide +kernel
theorem dL_law_2154 : decode cL_law 2154 = .ok (.ireturn, 1) := by decide +kernel
theorem dX0_init_0 : decode cX0_init 0 = .ok (.aload_n 0, 1) := by decide +kernel
theorem dX0_init_1 : decode cX0_init 1 = .ok (.invokespecial 3, 3) := by decide +kernel
theorem dX0_init_4 : decode cX0_init 4 = .ok (.aload_n 0, 1) := by decide +kernel
theorem dX0_init_5 : decode cX0_init 5 = .ok (.bipush 15, 2) := by decide +kernel
theorem dX0_init_7 : decode cX0_init 7 = .ok (.anewarray 11, 3) := by decide +kernel
theorem dX0_init_10 : decode cX0_init 10 = .ok (.putfield 13, 3) := by decide +kernel
theorem dX0_init_13 : decode cX0_init 13 = .ok (.aload_n 0, 1) := by decide +kernel
theorem dX0_init_14 : decode cX0_init 14 = .ok (.iconst 0, 1) := by decide +kernel
theorem dX0_init_15 : decode cX0_init 15 = .ok (.putfield 17, 3) := by decide +kernel
theorem dX0_init_18 : decode cX0_init 18 = .ok (.aload_n 0, 1) := by decide +kernel
theorem dX0_init_19 : decode cX0_init 19 = .ok (.iconst 0, 1) := by decide +kernel
theorem dX0_init_20 : decode cX0_init 20 = .ok (.putfield 21, 3) := by decide +kernel
theorem dX0_init_23 : decode cX0_init 23 = .ok (.iconst 0, 1) := by decide +kernel
theorem dX0_init_24 : decode cX0_init 24 = .ok (.istore_n 1, 1) := by decide +kernel
theorem dX0_init_25 : decode cX0_init 25 = .ok (.iload_n 1, 1) := by decide +kernel
theorem dX0_init_26 : decode cX0_init 26 = .ok (.aload_n 0, 1) := by decide +kernel
theorem dX0_init_27 : decode cX0_init 27 = .ok (.getfield 13, 3) := by decide +kernel
theorem dX0_init_30 : decode cX0_init 30 = .ok (.arraylength, 1) := by decide +kernel
theorem dX0_init_31 : decode cX0_init 31 = .ok (.if_icmp .ge 22, 3) := by decide +kernel
theorem dX0_init_34 : decode cX0_init 34 = .ok (.aload_n 0, 1) := by decide +kernel
theorem dX0_init_35 : decode cX0_init 35 = .ok (.getfield 13, 3) := by decide +kernel
theorem dX0_init_38 : decode cX0_init 38 = .ok (.iload_n 1, 1) := by decide +kernel
theorem dX0_init_39 : decode cX0_init 39 = .ok (.new 11, 3) := by decide +kernel
theorem dX0_init_42 : decode cX0_init 42 = .ok (.dup, 1) := by decide +kernel
theorem dX0_init_43 : decode cX0_init 43 = .ok (.invokespecial 24, 3) := by decide +kernel
theorem dX0_init_46 : decode cX0_init 46 = .ok (.aastore, 1) := by decide +kernel
theorem dX0_init_47 : decode cX0_init 47 = .ok (.iinc 1 1, 3) := by decide +kernel
theorem dX0_init_50 : decode cX0_init 50 = .ok (.goto (-25), 3) := by decide +kernel
theorem dX0_init_53 : decode cX0_init 53 = .ok (.return_, 1) := by decide +kernel
theorem dX0_place_0 : decode cX0_place 0 = .ok (.iload_n 1, 1) := by decide +kernel
theorem dX0_place_1 : decode cX0_place 1 = .ok (.ifCond .lt 21, 3) := by decide +kernel
theorem dX0_place_4 : decode cX0_place 4 = .ok (.iload_n 1, 1) := by decide +kernel
theorem dX0_place_5 : decode cX0_place 5 = .ok (.aload_n 0, 1) := by decide +kernel
theorem dX0_place_6 : decode cX0_place 6 = .ok (.getfield 13, 3) := by decide +kernel
theorem dX0_place_9 : decode cX0_place 9 = .ok (.arraylength, 1) := by decide +kernel
theorem dX0_place_10 : decode cX0_place 10 = .ok (.if_icmp .ge 12, 3) := by decide +kernel
theorem dX0_place_13 : decode cX0_place 13 = .ok (.aload_n 0, 1) := by decide +kernel
theorem dX0_place_14 : decode cX0_place 14 = .ok (.getfield 13, 3) := by decide +kernel
theorem dX0_place_17 : decode cX0_place 17 = .ok (.iload_n 1, 1) := by decide +kernel
theorem dX0_place_18 : decode cX0_place 18 = .ok (.aaload, 1) := by decide +kernel
theorem dX0_place_19 : decode cX0_place 19 = .ok (.goto 4, 3) := by decide +kernel
theorem dX0_place_22 : decode cX0_place 22 = .ok (.aconst_null, 1) := by decide +kernel
theorem dX0_place_23 : decode cX0_place 23 = .ok (.areturn, 1) := by decide +kernel
theorem dX0_forget_0 : decode cX0_forget 0 = .ok (.aload_n 0, 1) := by decide +kernel
theorem dX0_forget_1 : decode cX0_forget 1 = .ok (.iconst 0, 1) := by decide +kernel
theorem dX0_forget_2 : decode cX0_forget 2 = .ok (.putfield 21, 3) := by decide +kernel
theorem dX0_forget_5 : decode cX0_forget 5 = .ok (.return_, 1) := by decide +kernel
theorem dX0_draft_0 : decode cX0_draft 0 = .ok (.aload_n 0, 1) := by decide +kernel
theorem dX0_draft_1 : decode cX0_draft 1 = .ok (.aload_n 0, 1) := by decide +kernel
theorem dX0_draft_2 : decode cX0_draft 2 = .ok (.getfield 17, 3) := by decide +kernel
theorem dX0_draft_5 : decode cX0_draft 5 = .ok (.invokevirtual 25, 3) := by decide +kernel
theorem dX0_draft_8 : decode cX0_draft 8 = .ok (.astore_n 2, 1) := by decide +kernel
theorem dX0_draft_9 : decode cX0_draft 9 = .ok (.aload_n 2, 1) := by decide +kernel
theorem dX0_draft_10 : decode cX0_draft 10 = .ok (.ifnull 8, 3) := by decide +kernel
theorem dX0_draft_13 : decode cX0_draft 13 = .ok (.aload_n 2, 1) := by decide +kernel
theorem dX0_draft_14 : decode cX0_draft 14 = .ok (.aload_n 1, 1) := by decide +kernel
theorem dX0_draft_15 : decode cX0_draft 15 = .ok (.invokevirtual 29, 3) := by decide +kernel
theorem dX0_draft_18 : decode cX0_draft 18 = .ok (.return_, 1) := by decide +kernel
theorem dX0_keepDraft_0 : decode cX0_keepDraft 0 = .ok (.aload_n 0, 1) := by decide +kernel
theorem dX0_keepDraft_1 : decode cX0_keepDraft 1 = .ok (.aload_n 0, 1) := by decide +kernel
theorem dX0_keepDraft_2 : decode cX0_keepDraft 2 = .ok (.getfield 17, 3) := by decide +kernel
theorem dX0_keepDraft_5 : decode cX0_keepDraft 5 = .ok (.iconst 1, 1) := by decide +kernel
theorem dX0_keepDraft_6 : decode cX0_keepDraft 6 = .ok (.iadd, 1) := by decide +kernel
theorem dX0_keepDraft_7 : decode cX0_keepDraft 7 = .ok (.bipush 15, 2) := by decide +kernel
theorem dX0_keepDraft_9 : decode cX0_keepDraft 9 = .ok (.irem, 1) := by decide +kernel
theorem dX0_keepDraft_10 : decode cX0_keepDraft 10 = .ok (.putfield 17, 3) := by decide +kernel
theorem dX0_keepDraft_13 : decode cX0_keepDraft 13 = .ok (.aload_n 0, 1) := by decide +kernel
theorem dX0_keepDraft_14 : decode cX0_keepDraft 14 = .ok (.aload_n 0, 1) := by decide +kernel
theorem dX0_keepDraft_15 : decode cX0_keepDraft 15 = .ok (.getfield 21, 3) := by decide +kernel
theorem dX0_keepDraft_18 : decode cX0_keepDraft 18 = .ok (.iconst 1, 1) := by decide +kernel
theorem dX0_keepDraft_19 : decode cX0_keepDraft 19 = .ok (.iadd, 1) := by decide +kernel
theorem dX0_keepDraft_20 : decode cX0_keepDraft 20 = .ok (.bipush 14, 2) := by decide +kernel
theorem dX0_keepDraft_22 : decode cX0_keepDraft 22 = .ok (.invokestatic 33, 3) := by decide +kernel
theorem dX0_keepDraft_25 : decode cX0_keepDraft 25 = .ok (.putfield 21, 3) := by decide +kernel
theorem dX0_keepDraft_28 : decode cX0_keepDraft 28 = .ok (.return_, 1) := by decide +kernel
theorem dX0_takeBack_0 : decode cX0_takeBack 0 = .ok (.aload_n 0, 1) := by decide +kernel
theorem dX0_takeBack_1 : decode cX0_takeBack 1 = .ok (.getfield 21, 3) := by decide +kernel
theorem dX0_takeBack_4 : decode cX0_takeBack 4 = .ok (.ifCond .ne 4, 3) := by decide +kernel
theorem dX0_takeBack_7 : decode cX0_takeBack 7 = .ok (.return_, 1) := by decide +kernel
theorem dX0_takeBack_8 : decode cX0_takeBack 8 = .ok (.aload_n 0, 1) := by decide +kernel
theorem dX0_takeBack_9 : decode cX0_takeBack 9 = .ok (.dup, 1) := by decide +kernel
theorem dX0_takeBack_10 : decode cX0_takeBack 10 = .ok (.getfield 21, 3) := by decide +kernel
theorem dX0_takeBack_13 : decode cX0_takeBack 13 = .ok (.iconst 1, 1) := by decide +kernel
theorem dX0_takeBack_14 : decode cX0_takeBack 14 = .ok (.isub, 1) := by decide +kernel
theorem dX0_takeBack_15 : decode cX0_takeBack 15 = .ok (.putfield 21, 3) := by decide +kernel
theorem dX0_takeBack_18 : decode cX0_takeBack 18 = .ok (.aload_n 0, 1) := by decide +kernel
theorem dX0_takeBack_19 : decode cX0_takeBack 19 = .ok (.aload_n 0, 1) := by decide +kernel
theorem dX0_takeBack_20 : decode cX0_takeBack 20 = .ok (.getfield 17, 3) := by decide +kernel
theorem dX0_takeBack_23 : decode cX0_takeBack 23 = .ok (.bipush 15, 2) := by decide +kernel
theorem dX0_takeBack_25 : decode cX0_takeBack 25 = .ok (.iadd, 1) := by decide +kernel
theorem dX0_takeBack_26 : decode cX0_takeBack 26 = .ok (.iconst 1, 1) := by decide +kernel
theorem dX0_takeBack_27 : decode cX0_takeBack 27 = .ok (.isub, 1) := by decide +kernel
theorem dX0_takeBack_28 : decode cX0_takeBack 28 = .ok (.bipush 15, 2) := by decide +kernel
theorem dX0_takeBack_30 : decode cX0_takeBack 30 = .ok (.irem, 1) := by decide +kernel
theorem dX0_takeBack_31 : decode cX0_takeBack 31 = .ok (.putfield 17, 3) := by decide +kernel
theorem dX0_takeBack_34 : decode cX0_takeBack 34 = .ok (.aload_n 0, 1) := by decide +kernel
theorem dX0_takeBack_35 : decode cX0_takeBack 35 = .ok (.aload_n 0, 1) := by decide +kernel
theorem dX0_takeBack_36 : decode cX0_takeBack 36 = .ok (.getfield 17, 3) := by decide +kernel
theorem dX0_takeBack_39 : decode cX0_takeBack 39 = .ok (.invokevirtual 25, 3) := by decide +kernel
theorem dX0_takeBack_42 : decode cX0_takeBack 42 = .ok (.astore_n 2, 1) := by decide +kernel
theorem dX0_takeBack_43 : decode cX0_takeBack 43 = .ok (.aload_n 2, 1) := by decide +kernel
theorem dX0_takeBack_44 : decode cX0_takeBack 44 = .ok (.ifnull 8, 3) := by decide +kernel
theorem dX0_takeBack_47 : decode cX0_takeBack 47 = .ok (.aload_n 1, 1) := by decide +kernel
theorem dX0_takeBack_48 : decode cX0_takeBack 48 = .ok (.aload_n 2, 1) := by decide +kernel
theorem dX0_takeBack_49 : decode cX0_takeBack 49 = .ok (.invokevirtual 29, 3) := by decide +kernel
theorem dX0_takeBack_52 : decode cX0_takeBack 52 = .ok (.return_, 1) := by decide +kernel
end
section
theorem dX1_init_0 : decode cX1_init 0 = .ok (.aload_n 0, 1) := by decide +kernel
theorem dX1_init_1 : decode cX1_init 1 = .ok (.invokespecial 3, 3) := by decide +kernel
theorem dX1_init_4 : decode cX1_init 4 = .ok (.aload_n 0, 1) := by decide +kernel
theorem dX1_init_5 : decode cX1_init 5 = .ok (.bipush 10, 2) := by decide +kernel
theorem dX1_init_7 : decode cX1_init 7 = .ok (.newarray .int, 2) := by decide +kernel
theorem dX1_init_9 : decode cX1_init 9 = .ok (.putfield 9, 3) := by decide +kernel
theorem dX1_init_12 : decode cX1_init 12 = .ok (.aload_n 0, 1) := by decide +kernel
theorem dX1_init_13 : decode cX1_init 13 = .ok (.bipush 10, 2) := by decide +kernel
theorem dX1_init_15 : decode cX1_init 15 = .ok (.newarray .int, 2) := by decide +kernel
theorem dX1_init_17 : decode cX1_init 17 = .ok (.putfield 15, 3) := by decide +kernel
theorem dX1_init_20 : decode cX1_init 20 = .ok (.aload_n 0, 1) := by decide +kernel
theorem dX1_init_21 : decode cX1_init 21 = .ok (.bipush 10, 2) := by decide +kernel
theorem dX1_init_23 : decode cX1_init 23 = .ok (.newarray .int, 2) := by decide +kernel
theorem dX1_init_25 : decode cX1_init 25 = .ok (.putfield 18, 3) := by decide +kernel
theorem dX1_init_28 : decode cX1_init 28 = .ok (.aload_n 0, 1) := by decide +kernel
theorem dX1_init_29 : decode cX1_init 29 = .ok (.bipush 10, 2) := by decide +kernel
theorem dX1_init_31 : decode cX1_init 31 = .ok (.newarray .int, 2) := by decide +kernel
theorem dX1_init_33 : decode cX1_init 33 = .ok (.putfield 21, 3) := by decide +kernel
theorem dX1_init_36 : decode cX1_init 36 = .ok (.aload_n 0, 1) := by decide +kernel
theorem dX1_init_37 : decode cX1_init 37 = .ok (.bipush 10, 2) := by decide +kernel
theorem dX1_init_39 : decode cX1_init 39 = .ok (.newarray .int, 2) := by decide +kernel
theorem dX1_init_41 : decode cX1_init 41 = .ok (.putfield 24, 3) := by decide +kernel
theorem dX1_init_44 : decode cX1_init 44 = .ok (.aload_n 0, 1) := by decide +kernel
theorem dX1_init_45 : decode cX1_init 45 = .ok (.bipush 40, 2) := by decide +kernel
theorem dX1_init_47 : decode cX1_init 47 = .ok (.newarray .int, 2) := by decide +kernel
theorem dX1_init_49 : decode cX1_init 49 = .ok (.putfield 27, 3) := by decide +kernel
theorem dX1_init_52 : decode cX1_init 52 = .ok (.aload_n 0, 1) := by decide +kernel
theorem dX1_init_53 : decode cX1_init 53 = .ok (.bipush 16, 2) := by decide +kernel
theorem dX1_init_55 : decode cX1_init 55 = .ok (.newarray .int, 2) := by decide +kernel
theorem dX1_init_57 : decode cX1_init 57 = .ok (.putfield 30, 3) := by decide +kernel
theorem dX1_init_60 : decode cX1_init 60 = .ok (.aload_n 0, 1) := by decide +kernel
theorem dX1_init_61 : decode cX1_init 61 = .ok (.bipush 16, 2) := by decide +kernel
theorem dX1_init_63 : decode cX1_init 63 = .ok (.newarray .int, 2) := by decide +kernel
theorem dX1_init_65 : decode cX1_init 65 = .ok (.putfield 33, 3) := by decide +kernel
theorem dX1_init_68 : decode cX1_init 68 = .ok (.aload_n 0, 1) := by decide +kernel
theorem dX1_init_69 : decode cX1_init 69 = .ok (.iconst 2, 1) := by decide +kernel
theorem dX1_init_70 : decode cX1_init 70 = .ok (.newarray .int, 2) := by decide +kernel
theorem dX1_init_72 : decode cX1_init 72 = .ok (.putfield 36, 3) := by decide +kernel
theorem dX1_init_75 : decode cX1_init 75 = .ok (.aload_n 0, 1) := by decide +kernel
theorem dX1_init_76 : decode cX1_init 76 = .ok (.bipush 11, 2) := by decide +kernel
theorem dX1_init_78 : decode cX1_init 78 = .ok (.newarray .int, 2) := by decide +kernel
theorem dX1_init_80 : decode cX1_init 80 = .ok (.putfield 39, 3) := by decide +kernel
theorem dX1_init_83 : decode cX1_init 83 = .ok (.aload_n 0, 1) := by decide +kernel
theorem dX1_init_84 : decode cX1_init 84 = .ok (.invokevirtual 42, 3) := by decide +kernel
theorem dX1_init_87 : decode cX1_init 87 = .ok (.return_, 1) := by decide +kernel
theorem dX1_makeNew_0 : decode cX1_makeNew 0 = .ok (.aload_n 0, 1) := by decide +kernel
theorem dX1_makeNew_1 : decode cX1_makeNew 1 = .ok (.iconst 0, 1) := by decide +kernel
theorem dX1_makeNew_2 : decode cX1_makeNew 2 = .ok (.putfield 45, 3) := by decide +kernel
theorem dX1_makeNew_5 : decode cX1_makeNew 5 = .ok (.aload_n 0, 1) := by decide +kernel
theorem dX1_makeNew_6 : decode cX1_makeNew 6 = .ok (.iconst 1, 1) := by decide +kernel
theorem dX1_makeNew_7 : decode cX1_makeNew 7 = .ok (.putfield 49, 3) := by decide +kernel
theorem dX1_makeNew_10 : decode cX1_makeNew 10 = .ok (.aload_n 0, 1) := by decide +kernel
theorem dX1_makeNew_11 : decode cX1_makeNew 11 = .ok (.getfield 30, 3) := by decide +kernel
theorem dX1_makeNew_14 : decode cX1_makeNew 14 = .ok (.iconst 0, 1) := by decide +kernel
theorem dX1_makeNew_15 : decode cX1_makeNew 15 = .ok (.invokestatic 52, 3) := by decide +kernel
theorem dX1_makeNew_18 : decode cX1_makeNew 18 = .ok (.aload_n 0, 1) := by decide +kernel
theorem dX1_makeNew_19 : decode cX1_makeNew 19 = .ok (.getfield 39, 3) := by decide +kernel
theorem dX1_makeNew_22 : decode cX1_makeNew 22 = .ok (.iconst 0, 1) := by decide +kernel
theorem dX1_makeNew_23 : decode cX1_makeNew 23 = .ok (.invokestatic 52, 3) := by decide +kernel
theorem dX1_makeNew_26 : decode cX1_makeNew 26 = .ok (.iconst 0, 1) := by decide +kernel
theorem dX1_makeNew_27 : decode cX1_makeNew 27 = .ok (.istore_n 1, 1) := by decide +kernel
theorem dX1_makeNew_28 : decode cX1_makeNew 28 = .ok (.iload_n 1, 1) := by decide +kernel
theorem dX1_makeNew_29 : decode cX1_makeNew 29 = .ok (.iconst 4, 1) := by decide +kernel
theorem dX1_makeNew_30 : decode cX1_makeNew 30 = .ok (.if_icmp .ge 66, 3) := by decide +kernel
theorem dX1_makeNew_33 : decode cX1_makeNew 33 = .ok (.aload_n 0, 1) := by decide +kernel
theorem dX1_makeNew_34 : decode cX1_makeNew 34 = .ok (.getfield 33, 3) := by decide +kernel
theorem dX1_makeNew_37 : decode cX1_makeNew 37 = .ok (.iload_n 1, 1) := by decide +kernel
theorem dX1_makeNew_38 : decode cX1_makeNew 38 = .ok (.iconst 4, 1) := by decide +kernel
theorem dX1_makeNew_39 : decode cX1_makeNew 39 = .ok (.imul, 1) := by decide +kernel
theorem dX1_makeNew_40 : decode cX1_makeNew 40 = .ok (.iconst 0, 1) := by decide +kernel
theorem dX1_makeNew_41 : decode cX1_makeNew 41 = .ok (.iadd, 1) := by decide +kernel
theorem dX1_makeNew_42 : decode cX1_makeNew 42 = .ok (.sipush 400, 3) := by decide +kernel
theorem dX1_makeNew_45 : decode cX1_makeNew 45 = .ok (.invokestatic 56, 3) := by decide +kernel
theorem dX1_makeNew_48 : decode cX1_makeNew 48 = .ok (.aload_n 0, 1) := by decide +kernel
theorem dX1_makeNew_49 : decode cX1_makeNew 49 = .ok (.getfield 33, 3) := by decide +kernel
theorem dX1_makeNew_52 : decode cX1_makeNew 52 = .ok (.iload_n 1, 1) := by decide +kernel
theorem dX1_makeNew_53 : decode cX1_makeNew 53 = .ok (.iconst 4, 1) := by decide +kernel
theorem dX1_makeNew_54 : decode cX1_makeNew 54 = .ok (.imul, 1) := by decide +kernel
theorem dX1_makeNew_55 : decode cX1_makeNew 55 = .ok (.iconst 1, 1) := by decide +kernel
theorem dX1_makeNew_56 : decode cX1_makeNew 56 = .ok (.iadd, 1) := by decide +kernel
theorem dX1_makeNew_57 : decode cX1_makeNew 57 = .ok (.sipush 500, 3) := by decide +kernel
theorem dX1_makeNew_60 : decode cX1_makeNew 60 = .ok (.invokestatic 56, 3) := by decide +kernel
theorem dX1_makeNew_63 : decode cX1_makeNew 63 = .ok (.aload_n 0, 1) := by decide +kernel
theorem dX1_makeNew_64 : decode cX1_makeNew 64 = .ok (.getfield 33, 3) := by decide +kernel
theorem dX1_makeNew_67 : decode cX1_makeNew 67 = .ok (.iload_n 1, 1) := by decide +kernel
theorem dX1_makeNew_68 : decode cX1_makeNew 68 = .ok (.iconst 4, 1) := by decide +kernel
theorem dX1_makeNew_69 : decode cX1_makeNew 69 = .ok (.imul, 1) := by decide +kernel
theorem dX1_makeNew_70 : decode cX1_makeNew 70 = .ok (.iconst 2, 1) := by decide +kernel
theorem dX1_makeNew_71 : decode cX1_makeNew 71 = .ok (.iadd, 1) := by decide +kernel
theorem dX1_makeNew_72 : decode cX1_makeNew 72 = .ok (.iconst 4, 1) := by decide +kernel
theorem dX1_makeNew_73 : decode cX1_makeNew 73 = .ok (.invokestatic 56, 3) := by decide +kernel
theorem dX1_makeNew_76 : decode cX1_makeNew 76 = .ok (.aload_n 0, 1) := by decide +kernel
theorem dX1_makeNew_77 : decode cX1_makeNew 77 = .ok (.getfield 33, 3) := by decide +kernel
theorem dX1_makeNew_80 : decode cX1_makeNew 80 = .ok (.iload_n 1, 1) := by decide +kernel
theorem dX1_makeNew_81 : decode cX1_makeNew 81 = .ok (.iconst 4, 1) := by decide +kernel
theorem dX1_makeNew_82 : decode cX1_makeNew 82 = .ok (.imul, 1) := by decide +kernel
theorem dX1_makeNew_83 : decode cX1_makeNew 83 = .ok (.iconst 3, 1) := by decide +kernel
theorem dX1_makeNew_84 : decode cX1_makeNew 84 = .ok (.iadd, 1) := by decide +kernel
theorem dX1_makeNew_85 : decode cX1_makeNew 85 = .ok (.bipush 12, 2) := by decide +kernel
theorem dX1_makeNew_87 : decode cX1_makeNew 87 = .ok (.invokestatic 56, 3) := by decide +kernel
theorem dX1_makeNew_90 : decode cX1_makeNew 90 = .ok (.iinc 1 1, 3) := by decide +kernel
theorem dX1_makeNew_93 : decode cX1_makeNew 93 = .ok (.goto (-65), 3) := by decide +kernel
theorem dX1_makeNew_96 : decode cX1_makeNew 96 = .ok (.aload_n 0, 1) := by decide +kernel
theorem dX1_makeNew_97 : decode cX1_makeNew 97 = .ok (.getfield 36, 3) := by decide +kernel
theorem dX1_makeNew_100 : decode cX1_makeNew 100 = .ok (.iconst 0, 1) := by decide +kernel
theorem dX1_makeNew_101 : decode cX1_makeNew 101 = .ok (.iconst 5, 1) := by decide +kernel
theorem dX1_makeNew_102 : decode cX1_makeNew 102 = .ok (.invokestatic 56, 3) := by decide +kernel
theorem dX1_makeNew_105 : decode cX1_makeNew 105 = .ok (.aload_n 0, 1) := by decide +kernel
theorem dX1_makeNew_106 : decode cX1_makeNew 106 = .ok (.getfield 36, 3) := by decide +kernel
theorem dX1_makeNew_109 : decode cX1_makeNew 109 = .ok (.iconst 1, 1) := by decide +kernel
theorem dX1_makeNew_110 : decode cX1_makeNew 110 = .ok (.bipush 60, 2) := by decide +kernel
theorem dX1_makeNew_112 : decode cX1_makeNew 112 = .ok (.invokestatic 56, 3) := by decide +kernel
theorem dX1_makeNew_115 : decode cX1_makeNew 115 = .ok (.return_, 1) := by decide +kernel
theorem dX1_copyFrom_0 : decode cX1_copyFrom 0 = .ok (.aload_n 0, 1) := by decide +kernel
theorem dX1_copyFrom_1 : decode cX1_copyFrom 1 = .ok (.aload_n 1, 1) := by decide +kernel
theorem dX1_copyFrom_2 : decode cX1_copyFrom 2 = .ok (.getfield 45, 3) := by decide +kernel
theorem dX1_copyFrom_5 : decode cX1_copyFrom 5 = .ok (.putfield 45, 3) := by decide +kernel
theorem dX1_copyFrom_8 : decode cX1_copyFrom 8 = .ok (.aload_n 0, 1) := by decide +kernel
theorem dX1_copyFrom_9 : decode cX1_copyFrom 9 = .ok (.aload_n 1, 1) := by decide +kernel
theorem dX1_copyFrom_10 : decode cX1_copyFrom 10 = .ok (.getfield 49, 3) := by decide +kernel
theorem dX1_copyFrom_13 : decode cX1_copyFrom 13 = .ok (.putfield 49, 3) := by decide +kernel
theorem dX1_copyFrom_16 : decode cX1_copyFrom 16 = .ok (.aload_n 1, 1) := by decide +kernel
theorem dX1_copyFrom_17 : decode cX1_copyFrom 17 = .ok (.getfield 9, 3) := by decide +kernel
theorem dX1_copyFrom_20 : decode cX1_copyFrom 20 = .ok (.aload_n 0, 1) := by decide +kernel
theorem dX1_copyFrom_21 : decode cX1_copyFrom 21 = .ok (.getfield 9, 3) := by decide +kernel
theorem dX1_copyFrom_24 : decode cX1_copyFrom 24 = .ok (.invokestatic 60, 3) := by decide +kernel
theorem dX1_copyFrom_27 : decode cX1_copyFrom 27 = .ok (.aload_n 1, 1) := by decide +kernel
theorem dX1_copyFrom_28 : decode cX1_copyFrom 28 = .ok (.getfield 15, 3) := by decide +kernel
theorem dX1_copyFrom_31 : decode cX1_copyFrom 31 = .ok (.aload_n 0, 1) := by decide +kernel
theorem dX1_copyFrom_32 : decode cX1_copyFrom 32 = .ok (.getfield 15, 3) := by decide +kernel
theorem dX1_copyFrom_35 : decode cX1_copyFrom 35 = .ok (.invokestatic 60, 3) := by decide +kernel
theorem dX1_copyFrom_38 : decode cX1_copyFrom 38 = .ok (.aload_n 1, 1) := by decide +kernel
theorem dX1_copyFrom_39 : decode cX1_copyFrom 39 = .ok (.getfield 18, 3) := by decide +kernel
theorem dX1_copyFrom_42 : decode cX1_copyFrom 42 = .ok (.aload_n 0, 1) := by decide +kernel
theorem dX1_copyFrom_43 : decode cX1_copyFrom 43 = .ok (.getfield 18, 3) := by decide +kernel
theorem dX1_copyFrom_46 : decode cX1_copyFrom 46 = .ok (.invokestatic 60, 3) := by decide +kernel
theorem dX1_copyFrom_49 : decode cX1_copyFrom 49 = .ok (.aload_n 1, 1) := by decide +kernel
theorem dX1_copyFrom_50 : decode cX1_copyFrom 50 = .ok (.getfield 21, 3) := by decide +kernel
theorem dX1_copyFrom_53 : decode cX1_copyFrom 53 = .ok (.aload_n 0, 1) := by decide +kernel
theorem dX1_copyFrom_54 : decode cX1_copyFrom 54 = .ok (.getfield 21, 3) := by decide +kernel
theorem dX1_copyFrom_57 : decode cX1_copyFrom 57 = .ok (.invokestatic 60, 3) := by decide +kernel
theorem dX1_copyFrom_60 : decode cX1_copyFrom 60 = .ok (.aload_n 1, 1) := by decide +kernel
theorem dX1_copyFrom_61 : decode cX1_copyFrom 61 = .ok (.getfield 24, 3) := by decide +kernel
theorem dX1_copyFrom_64 : decode cX1_copyFrom 64 = .ok (.aload_n 0, 1) := by decide +kernel
theorem dX1_copyFrom_65 : decode cX1_copyFrom 65 = .ok (.getfield 24, 3) := by decide +kernel
theorem dX1_copyFrom_68 : decode cX1_copyFrom 68 = .ok (.invokestatic 60, 3) := by decide +kernel
theorem dX1_copyFrom_71 : decode cX1_copyFrom 71 = .ok (.aload_n 1, 1) := by decide +kernel
theorem dX1_copyFrom_72 : decode cX1_copyFrom 72 = .ok (.getfield 27, 3) := by decide +kernel
theorem dX1_copyFrom_75 : decode cX1_copyFrom 75 = .ok (.aload_n 0, 1) := by decide +kernel
theorem dX1_copyFrom_76 : decode cX1_copyFrom 76 = .ok (.getfield 27, 3) := by decide +kernel
theorem dX1_copyFrom_79 : decode cX1_copyFrom 79 = .ok (.invokestatic 60, 3) := by decide +kernel
theorem dX1_copyFrom_82 : decode cX1_copyFrom 82 = .ok (.aload_n 1, 1) := by decide +kernel
theorem dX1_copyFrom_83 : decode cX1_copyFrom 83 = .ok (.getfield 30, 3) := by decide +kernel
theorem dX1_copyFrom_86 : decode cX1_copyFrom 86 = .ok (.aload_n 0, 1) := by decide +kernel
theorem dX1_copyFrom_87 : decode cX1_copyFrom 87 = .ok (.getfield 30, 3) := by decide +kernel
theorem dX1_copyFrom_90 : decode cX1_copyFrom 90 = .ok (.invokestatic 60, 3) := by decide +kernel
theorem dX1_copyFrom_93 : decode cX1_copyFrom 93 = .ok (.aload_n 1, 1) := by decide +kernel
theorem dX1_copyFrom_94 : decode cX1_copyFrom 94 = .ok (.getfield 33, 3) := by decide +kernel
theorem dX1_copyFrom_97 : decode cX1_copyFrom 97 = .ok (.aload_n 0, 1) := by decide +kernel
theorem dX1_copyFrom_98 : decode cX1_copyFrom 98 = .ok (.getfield 33, 3) := by decide +kernel
theorem dX1_copyFrom_101 : decode cX1_copyFrom 101 = .ok (.invokestatic 60, 3) := by decide +kernel
theorem dX1_copyFrom_104 : decode cX1_copyFrom 104 = .ok (.aload_n 1, 1) := by decide +kernel
theorem dX1_copyFrom_105 : decode cX1_copyFrom 105 = .ok (.getfield 36, 3) := by decide +kernel
theorem dX1_copyFrom_108 : decode cX1_copyFrom 108 = .ok (.aload_n 0, 1) := by decide +kernel
theorem dX1_copyFrom_109 : decode cX1_copyFrom 109 = .ok (.getfield 36, 3) := by decide +kernel
theorem dX1_copyFrom_112 : decode cX1_copyFrom 112 = .ok (.invokestatic 60, 3) := by decide +kernel
theorem dX1_copyFrom_115 : decode cX1_copyFrom 115 = .ok (.aload_n 1, 1) := by decide +kernel
theorem dX1_copyFrom_116 : decode cX1_copyFrom 116 = .ok (.getfield 39, 3) := by decide +kernel
theorem dX1_copyFrom_119 : decode cX1_copyFrom 119 = .ok (.aload_n 0, 1) := by decide +kernel
theorem dX1_copyFrom_120 : decode cX1_copyFrom 120 = .ok (.getfield 39, 3) := by decide +kernel
theorem dX1_copyFrom_123 : decode cX1_copyFrom 123 = .ok (.invokestatic 60, 3) := by decide +kernel
theorem dX1_copyFrom_126 : decode cX1_copyFrom 126 = .ok (.return_, 1) := by decide +kernel
theorem dX1_hasChair_0 : decode cX1_hasChair 0 = .ok (.iload_n 1, 1) := by decide +kernel
theorem dX1_hasChair_1 : decode cX1_hasChair 1 = .ok (.ifCond .lt 15, 3) := by decide +kernel
theorem dX1_hasChair_4 : decode cX1_hasChair 4 = .ok (.iload_n 1, 1) := by decide +kernel
theorem dX1_hasChair_5 : decode cX1_hasChair 5 = .ok (.aload_n 0, 1) := by decide +kernel
theorem dX1_hasChair_6 : decode cX1_hasChair 6 = .ok (.getfield 45, 3) := by decide +kernel
theorem dX1_hasChair_9 : decode cX1_hasChair 9 = .ok (.if_icmp .ge 7, 3) := by decide +kernel
theorem dX1_hasChair_12 : decode cX1_hasChair 12 = .ok (.iconst 1, 1) := by decide +kernel
theorem dX1_hasChair_13 : decode cX1_hasChair 13 = .ok (.goto 4, 3) := by decide +kernel
theorem dX1_hasChair_16 : decode cX1_hasChair 16 = .ok (.iconst 0, 1) := by decide +kernel
theorem dX1_hasChair_17 : decode cX1_hasChair 17 = .ok (.ireturn, 1) := by decide +kernel
theorem dX1_hasFloor_0 : decode cX1_hasFloor 0 = .ok (.iload_n 1, 1) := by decide +kernel
theorem dX1_hasFloor_1 : decode cX1_hasFloor 1 = .ok (.ifCond .lt 15, 3) := by decide +kernel
theorem dX1_hasFloor_4 : decode cX1_hasFloor 4 = .ok (.iload_n 1, 1) := by decide +kernel
theorem dX1_hasFloor_5 : decode cX1_hasFloor 5 = .ok (.aload_n 0, 1) := by decide +kernel
theorem dX1_hasFloor_6 : decode cX1_hasFloor 6 = .ok (.getfield 49, 3) := by decide +kernel
theorem dX1_hasFloor_9 : decode cX1_hasFloor 9 = .ok (.if_icmp .ge 7, 3) := by decide +kernel
theorem dX1_hasFloor_12 : decode cX1_hasFloor 12 = .ok (.iconst 1, 1) := by decide +kernel
theorem dX1_hasFloor_13 : decode cX1_hasFloor 13 = .ok (.goto 4, 3) := by decide +kernel
theorem dX1_hasFloor_16 : decode cX1_hasFloor 16 = .ok (.iconst 0, 1) := by decide +kernel
theorem dX1_hasFloor_17 : decode cX1_hasFloor 17 = .ok (.ireturn, 1) := by decide +kernel
theorem dX1_length_0 : decode cX1_length 0 = .ok (.aload_n 0, 1) := by decide +kernel
theorem dX1_length_1 : decode cX1_length 1 = .ok (.getfield 27, 3) := by decide +kernel
theorem dX1_length_4 : decode cX1_length 4 = .ok (.iload_n 1, 1) := by decide +kernel
theorem dX1_length_5 : decode cX1_length 5 = .ok (.iconst 4, 1) := by decide +kernel
theorem dX1_length_6 : decode cX1_length 6 = .ok (.imul, 1) := by decide +kernel
theorem dX1_length_7 : decode cX1_length 7 = .ok (.iload_n 2, 1) := by decide +kernel
theorem dX1_length_8 : decode cX1_length 8 = .ok (.iadd, 1) := by decide +kernel
theorem dX1_length_9 : decode cX1_length 9 = .ok (.invokestatic 64, 3) := by decide +kernel
theorem dX1_length_12 : decode cX1_length 12 = .ok (.ireturn, 1) := by decide +kernel
theorem dX1_height_0 : decode cX1_height 0 = .ok (.aload_n 0, 1) := by decide +kernel
theorem dX1_height_1 : decode cX1_height 1 = .ok (.getfield 30, 3) := by decide +kernel
theorem dX1_height_4 : decode cX1_height 4 = .ok (.iload_n 1, 1) := by decide +kernel
theorem dX1_height_5 : decode cX1_height 5 = .ok (.iconst 4, 1) := by decide +kernel
theorem dX1_height_6 : decode cX1_height 6 = .ok (.imul, 1) := by decide +kernel
theorem dX1_height_7 : decode cX1_height 7 = .ok (.iload_n 2, 1) := by decide +kernel
theorem dX1_height_8 : decode cX1_height 8 = .ok (.iadd, 1) := by decide +kernel
theorem dX1_height_9 : decode cX1_height 9 = .ok (.invokestatic 64, 3) := by decide +kernel
theorem dX1_height_12 : decode cX1_height 12 = .ok (.ireturn, 1) := by decide +kernel
theorem dX1_limit_0 : decode cX1_limit 0 = .ok (.aload_n 0, 1) := by decide +kernel
theorem dX1_limit_1 : decode cX1_limit 1 = .ok (.getfield 33, 3) := by decide +kernel
theorem dX1_limit_4 : decode cX1_limit 4 = .ok (.iload_n 1, 1) := by decide +kernel
theorem dX1_limit_5 : decode cX1_limit 5 = .ok (.iconst 4, 1) := by decide +kernel
theorem dX1_limit_6 : decode cX1_limit 6 = .ok (.imul, 1) := by decide +kernel
theorem dX1_limit_7 : decode cX1_limit 7 = .ok (.iload_n 2, 1) := by decide +kernel
theorem dX1_limit_8 : decode cX1_limit 8 = .ok (.iadd, 1) := by decide +kernel
theorem dX1_limit_9 : decode cX1_limit 9 = .ok (.invokestatic 64, 3) := by decide +kernel
theorem dX1_limit_12 : decode cX1_limit 12 = .ok (.ireturn, 1) := by decide +kernel
theorem dX1_stampedChairs_0 : decode cX1_stampedChairs 0 = .ok (.iconst 0, 1) := by decide +kernel
theorem dX1_stampedChairs_1 : decode cX1_stampedChairs 1 = .ok (.istore_n 1, 1) := by decide +kernel
theorem dX1_stampedChairs_2 : decode cX1_stampedChairs 2 = .ok (.iconst 0, 1) := by decide +kernel
theorem dX1_stampedChairs_3 : decode cX1_stampedChairs 3 = .ok (.istore_n 2, 1) := by decide +kernel
theorem dX1_stampedChairs_4 : decode cX1_stampedChairs 4 = .ok (.iload_n 2, 1) := by decide +kernel
theorem dX1_stampedChairs_5 : decode cX1_stampedChairs 5 = .ok (.aload_n 0, 1) := by decide +kernel
theorem dX1_stampedChairs_6 : decode cX1_stampedChairs 6 = .ok (.getfield 45, 3) := by decide +kernel
theorem dX1_stampedChairs_9 : decode cX1_stampedChairs 9 = .ok (.if_icmp .ge 20, 3) := by decide +kernel
theorem dX1_stampedChairs_12 : decode cX1_stampedChairs 12 = .ok (.iload_n 1, 1) := by decide +kernel
theorem dX1_stampedChairs_13 : decode cX1_stampedChairs 13 = .ok (.aload_n 0, 1) := by decide +kernel
theorem dX1_stampedChairs_14 : decode cX1_stampedChairs 14 = .ok (.getfield 21, 3) := by decide +kernel
theorem dX1_stampedChairs_17 : decode cX1_stampedChairs 17 = .ok (.iload_n 2, 1) := by decide +kernel
theorem dX1_stampedChairs_18 : decode cX1_stampedChairs 18 = .ok (.invokestatic 64, 3) := by decide +kernel
theorem dX1_stampedChairs_21 : decode cX1_stampedChairs 21 = .ok (.iadd, 1) := by decide +kernel
theorem dX1_stampedChairs_22 : decode cX1_stampedChairs 22 = .ok (.istore_n 1, 1) := by decide +kernel
theorem dX1_stampedChairs_23 : decode cX1_stampedChairs 23 = .ok (.iinc 2 1, 3) := by decide +kernel
theorem dX1_stampedChairs_26 : decode cX1_stampedChairs 26 = .ok (.goto (-22), 3) := by decide +kernel
theorem dX1_stampedChairs_29 : decode cX1_stampedChairs 29 = .ok (.iload_n 1, 1) := by decide +kernel
theorem dX1_stampedChairs_30 : decode cX1_stampedChairs 30 = .ok (.ireturn, 1) := by decide +kernel
theorem dX1_reachOn_0 : decode cX1_reachOn 0 = .ok (.aload_n 0, 1) := by decide +kernel
theorem dX1_reachOn_1 : decode cX1_reachOn 1 = .ok (.getfield 27, 3) := by decide +kernel
theorem dX1_reachOn_4 : decode cX1_reachOn 4 = .ok (.iload_n 1, 1) := by decide +kernel
theorem dX1_reachOn_5 : decode cX1_reachOn 5 = .ok (.iconst 4, 1) := by decide +kernel
theorem dX1_reachOn_6 : decode cX1_reachOn 6 = .ok (.imul, 1) := by decide +kernel
theorem dX1_reachOn_7 : decode cX1_reachOn 7 = .ok (.iload_n 2, 1) := by decide +kernel
theorem dX1_reachOn_8 : decode cX1_reachOn 8 = .ok (.iadd, 1) := by decide +kernel
theorem dX1_reachOn_9 : decode cX1_reachOn 9 = .ok (.invokestatic 64, 3) := by decide +kernel
theorem dX1_reachOn_12 : decode cX1_reachOn 12 = .ok (.aload_n 0, 1) := by decide +kernel
theorem dX1_reachOn_13 : decode cX1_reachOn 13 = .ok (.getfield 30, 3) := by decide +kernel
theorem dX1_reachOn_16 : decode cX1_reachOn 16 = .ok (.iload_n 3, 1) := by decide +kernel
theorem dX1_reachOn_17 : decode cX1_reachOn 17 = .ok (.iconst 4, 1) := by decide +kernel
theorem dX1_reachOn_18 : decode cX1_reachOn 18 = .ok (.imul, 1) := by decide +kernel
theorem dX1_reachOn_19 : decode cX1_reachOn 19 = .ok (.iload_n 2, 1) := by decide +kernel
theorem dX1_reachOn_20 : decode cX1_reachOn 20 = .ok (.iload 4, 2) := by decide +kernel
theorem dX1_reachOn_22 : decode cX1_reachOn 22 = .ok (.iadd, 1) := by decide +kernel
theorem dX1_reachOn_23 : decode cX1_reachOn 23 = .ok (.iconst 4, 1) := by decide +kernel
theorem dX1_reachOn_24 : decode cX1_reachOn 24 = .ok (.irem, 1) := by decide +kernel
theorem dX1_reachOn_25 : decode cX1_reachOn 25 = .ok (.iadd, 1) := by decide +kernel
theorem dX1_reachOn_26 : decode cX1_reachOn 26 = .ok (.invokestatic 64, 3) := by decide +kernel
theorem dX1_reachOn_29 : decode cX1_reachOn 29 = .ok (.isub, 1) := by decide +kernel
theorem dX1_reachOn_30 : decode cX1_reachOn 30 = .ok (.ireturn, 1) := by decide +kernel
theorem dX1_reachNow_0 : decode cX1_reachNow 0 = .ok (.aload_n 0, 1) := by decide +kernel
theorem dX1_reachNow_1 : decode cX1_reachNow 1 = .ok (.iload_n 1, 1) := by decide +kernel
theorem dX1_reachNow_2 : decode cX1_reachNow 2 = .ok (.iload_n 2, 1) := by decide +kernel
theorem dX1_reachNow_3 : decode cX1_reachNow 3 = .ok (.aload_n 0, 1) := by decide +kernel
theorem dX1_reachNow_4 : decode cX1_reachNow 4 = .ok (.getfield 15, 3) := by decide +kernel
theorem dX1_reachNow_7 : decode cX1_reachNow 7 = .ok (.iload_n 1, 1) := by decide +kernel
theorem dX1_reachNow_8 : decode cX1_reachNow 8 = .ok (.invokestatic 64, 3) := by decide +kernel
theorem dX1_reachNow_11 : decode cX1_reachNow 11 = .ok (.aload_n 0, 1) := by decide +kernel
theorem dX1_reachNow_12 : decode cX1_reachNow 12 = .ok (.getfield 18, 3) := by decide +kernel
theorem dX1_reachNow_15 : decode cX1_reachNow 15 = .ok (.iload_n 1, 1) := by decide +kernel
theorem dX1_reachNow_16 : decode cX1_reachNow 16 = .ok (.invokestatic 64, 3) := by decide +kernel
theorem dX1_reachNow_19 : decode cX1_reachNow 19 = .ok (.invokevirtual 68, 3) := by decide +kernel
theorem dX1_reachNow_22 : decode cX1_reachNow 22 = .ok (.ireturn, 1) := by decide +kernel
theorem dX1_wobbleOn_0 : decode cX1_wobbleOn 0 = .ok (.aload_n 0, 1) := by decide +kernel
theorem dX1_wobbleOn_1 : decode cX1_wobbleOn 1 = .ok (.iload_n 1, 1) := by decide +kernel
theorem dX1_wobbleOn_2 : decode cX1_wobbleOn 2 = .ok (.iconst 0, 1) := by decide +kernel
theorem dX1_wobbleOn_3 : decode cX1_wobbleOn 3 = .ok (.iload_n 2, 1) := by decide +kernel
theorem dX1_wobbleOn_4 : decode cX1_wobbleOn 4 = .ok (.iload_n 3, 1) := by decide +kernel
theorem dX1_wobbleOn_5 : decode cX1_wobbleOn 5 = .ok (.invokevirtual 68, 3) := by decide +kernel
theorem dX1_wobbleOn_8 : decode cX1_wobbleOn 8 = .ok (.aload_n 0, 1) := by decide +kernel
theorem dX1_wobbleOn_9 : decode cX1_wobbleOn 9 = .ok (.iload_n 1, 1) := by decide +kernel
theorem dX1_wobbleOn_10 : decode cX1_wobbleOn 10 = .ok (.iconst 2, 1) := by decide +kernel
theorem dX1_wobbleOn_11 : decode cX1_wobbleOn 11 = .ok (.iload_n 2, 1) := by decide +kernel
theorem dX1_wobbleOn_12 : decode cX1_wobbleOn 12 = .ok (.iload_n 3, 1) := by decide +kernel
theorem dX1_wobbleOn_13 : decode cX1_wobbleOn 13 = .ok (.invokevirtual 68, 3) := by decide +kernel
theorem dX1_wobbleOn_16 : decode cX1_wobbleOn 16 = .ok (.iadd, 1) := by decide +kernel
theorem dX1_wobbleOn_17 : decode cX1_wobbleOn 17 = .ok (.istore 4, 2) := by decide +kernel
theorem dX1_wobbleOn_19 : decode cX1_wobbleOn 19 = .ok (.aload_n 0, 1) := by decide +kernel
theorem dX1_wobbleOn_20 : decode cX1_wobbleOn 20 = .ok (.iload_n 1, 1) := by decide +kernel
theorem dX1_wobbleOn_21 : decode cX1_wobbleOn 21 = .ok (.iconst 1, 1) := by decide +kernel
theorem dX1_wobbleOn_22 : decode cX1_wobbleOn 22 = .ok (.iload_n 2, 1) := by decide +kernel
theorem dX1_wobbleOn_23 : decode cX1_wobbleOn 23 = .ok (.iload_n 3, 1) := by decide +kernel
theorem dX1_wobbleOn_24 : decode cX1_wobbleOn 24 = .ok (.invokevirtual 68, 3) := by decide +kernel
theorem dX1_wobbleOn_27 : decode cX1_wobbleOn 27 = .ok (.aload_n 0, 1) := by decide +kernel
theorem dX1_wobbleOn_28 : decode cX1_wobbleOn 28 = .ok (.iload_n 1, 1) := by decide +kernel
theorem dX1_wobbleOn_29 : decode cX1_wobbleOn 29 = .ok (.iconst 3, 1) := by decide +kernel
theorem dX1_wobbleOn_30 : decode cX1_wobbleOn 30 = .ok (.iload_n 2, 1) := by decide +kernel
theorem dX1_wobbleOn_31 : decode cX1_wobbleOn 31 = .ok (.iload_n 3, 1) := by decide +kernel
theorem dX1_wobbleOn_32 : decode cX1_wobbleOn 32 = .ok (.invokevirtual 68, 3) := by decide +kernel
theorem dX1_wobbleOn_35 : decode cX1_wobbleOn 35 = .ok (.iadd, 1) := by decide +kernel
theorem dX1_wobbleOn_36 : decode cX1_wobbleOn 36 = .ok (.istore 5, 2) := by decide +kernel
theorem dX1_wobbleOn_38 : decode cX1_wobbleOn 38 = .ok (.iload 4, 2) := by decide +kernel
theorem dX1_wobbleOn_40 : decode cX1_wobbleOn 40 = .ok (.iload 5, 2) := by decide +kernel
theorem dX1_wobbleOn_42 : decode cX1_wobbleOn 42 = .ok (.if_icmp .le 11, 3) := by decide +kernel
theorem dX1_wobbleOn_45 : decode cX1_wobbleOn 45 = .ok (.iload 4, 2) := by decide +kernel
theorem dX1_wobbleOn_47 : decode cX1_wobbleOn 47 = .ok (.iload 5, 2) := by decide +kernel
theorem dX1_wobbleOn_49 : decode cX1_wobbleOn 49 = .ok (.isub, 1) := by decide +kernel
theorem dX1_wobbleOn_50 : decode cX1_wobbleOn 50 = .ok (.goto 8, 3) := by decide +kernel
theorem dX1_wobbleOn_53 : decode cX1_wobbleOn 53 = .ok (.iload 5, 2) := by decide +kernel
theorem dX1_wobbleOn_55 : decode cX1_wobbleOn 55 = .ok (.iload 4, 2) := by decide +kernel
theorem dX1_wobbleOn_57 : decode cX1_wobbleOn 57 = .ok (.isub, 1) := by decide +kernel
theorem dX1_wobbleOn_58 : decode cX1_wobbleOn 58 = .ok (.ireturn, 1) := by decide +kernel
theorem dX1_wobbleNow_0 : decode cX1_wobbleNow 0 = .ok (.aload_n 0, 1) := by decide +kernel
theorem dX1_wobbleNow_1 : decode cX1_wobbleNow 1 = .ok (.iload_n 1, 1) := by decide +kernel
theorem dX1_wobbleNow_2 : decode cX1_wobbleNow 2 = .ok (.aload_n 0, 1) := by decide +kernel
theorem dX1_wobbleNow_3 : decode cX1_wobbleNow 3 = .ok (.getfield 15, 3) := by decide +kernel
theorem dX1_wobbleNow_6 : decode cX1_wobbleNow 6 = .ok (.iload_n 1, 1) := by decide +kernel
theorem dX1_wobbleNow_7 : decode cX1_wobbleNow 7 = .ok (.invokestatic 64, 3) := by decide +kernel
theorem dX1_wobbleNow_10 : decode cX1_wobbleNow 10 = .ok (.aload_n 0, 1) := by decide +kernel
theorem dX1_wobbleNow_11 : decode cX1_wobbleNow 11 = .ok (.getfield 18, 3) := by decide +kernel
theorem dX1_wobbleNow_14 : decode cX1_wobbleNow 14 = .ok (.iload_n 1, 1) := by decide +kernel
theorem dX1_wobbleNow_15 : decode cX1_wobbleNow 15 = .ok (.invokestatic 64, 3) := by decide +kernel
theorem dX1_wobbleNow_18 : decode cX1_wobbleNow 18 = .ok (.invokevirtual 72, 3) := by decide +kernel
theorem dX1_wobbleNow_21 : decode cX1_wobbleNow 21 = .ok (.ireturn, 1) := by decide +kernel
theorem dX1_leanOn_0 : decode cX1_leanOn 0 = .ok (.aload_n 0, 1) := by decide +kernel
theorem dX1_leanOn_1 : decode cX1_leanOn 1 = .ok (.iload_n 1, 1) := by decide +kernel
theorem dX1_leanOn_2 : decode cX1_leanOn 2 = .ok (.iconst 0, 1) := by decide +kernel
theorem dX1_leanOn_3 : decode cX1_leanOn 3 = .ok (.iload_n 2, 1) := by decide +kernel
theorem dX1_leanOn_4 : decode cX1_leanOn 4 = .ok (.iload_n 3, 1) := by decide +kernel
theorem dX1_leanOn_5 : decode cX1_leanOn 5 = .ok (.invokevirtual 68, 3) := by decide +kernel
theorem dX1_leanOn_8 : decode cX1_leanOn 8 = .ok (.istore 4, 2) := by decide +kernel
theorem dX1_leanOn_10 : decode cX1_leanOn 10 = .ok (.iload 4, 2) := by decide +kernel
theorem dX1_leanOn_12 : decode cX1_leanOn 12 = .ok (.istore 5, 2) := by decide +kernel
theorem dX1_leanOn_14 : decode cX1_leanOn 14 = .ok (.iconst 1, 1) := by decide +kernel
theorem dX1_leanOn_15 : decode cX1_leanOn 15 = .ok (.istore 6, 2) := by decide +kernel
theorem dX1_leanOn_17 : decode cX1_leanOn 17 = .ok (.iload 6, 2) := by decide +kernel
theorem dX1_leanOn_19 : decode cX1_leanOn 19 = .ok (.iconst 4, 1) := by decide +kernel
theorem dX1_leanOn_20 : decode cX1_leanOn 20 = .ok (.if_icmp .ge 38, 3) := by decide +kernel
theorem dX1_leanOn_23 : decode cX1_leanOn 23 = .ok (.aload_n 0, 1) := by decide +kernel
theorem dX1_leanOn_24 : decode cX1_leanOn 24 = .ok (.iload_n 1, 1) := by decide +kernel
theorem dX1_leanOn_25 : decode cX1_leanOn 25 = .ok (.iload 6, 2) := by decide +kernel
theorem dX1_leanOn_27 : decode cX1_leanOn 27 = .ok (.iload_n 2, 1) := by decide +kernel
theorem dX1_leanOn_28 : decode cX1_leanOn 28 = .ok (.iload_n 3, 1) := by decide +kernel
theorem dX1_leanOn_29 : decode cX1_leanOn 29 = .ok (.invokevirtual 68, 3) := by decide +kernel
theorem dX1_leanOn_32 : decode cX1_leanOn 32 = .ok (.istore 7, 2) := by decide +kernel
theorem dX1_leanOn_34 : decode cX1_leanOn 34 = .ok (.iload 4, 2) := by decide +kernel
theorem dX1_leanOn_36 : decode cX1_leanOn 36 = .ok (.iload 7, 2) := by decide +kernel
theorem dX1_leanOn_38 : decode cX1_leanOn 38 = .ok (.invokestatic 76, 3) := by decide +kernel
theorem dX1_leanOn_41 : decode cX1_leanOn 41 = .ok (.istore 4, 2) := by decide +kernel
theorem dX1_leanOn_43 : decode cX1_leanOn 43 = .ok (.iload 5, 2) := by decide +kernel
theorem dX1_leanOn_45 : decode cX1_leanOn 45 = .ok (.iload 7, 2) := by decide +kernel
theorem dX1_leanOn_47 : decode cX1_leanOn 47 = .ok (.invokestatic 82, 3) := by decide +kernel
theorem dX1_leanOn_50 : decode cX1_leanOn 50 = .ok (.istore 5, 2) := by decide +kernel
theorem dX1_leanOn_52 : decode cX1_leanOn 52 = .ok (.iinc 6 1, 3) := by decide +kernel
theorem dX1_leanOn_55 : decode cX1_leanOn 55 = .ok (.goto (-38), 3) := by decide +kernel
theorem dX1_leanOn_58 : decode cX1_leanOn 58 = .ok (.iload 5, 2) := by decide +kernel
theorem dX1_leanOn_60 : decode cX1_leanOn 60 = .ok (.iload 4, 2) := by decide +kernel
theorem dX1_leanOn_62 : decode cX1_leanOn 62 = .ok (.isub, 1) := by decide +kernel
theorem dX1_leanOn_63 : decode cX1_leanOn 63 = .ok (.ireturn, 1) := by decide +kernel
theorem dX1_leanNow_0 : decode cX1_leanNow 0 = .ok (.aload_n 0, 1) := by decide +kernel
theorem dX1_leanNow_1 : decode cX1_leanNow 1 = .ok (.iload_n 1, 1) := by decide +kernel
theorem dX1_leanNow_2 : decode cX1_leanNow 2 = .ok (.aload_n 0, 1) := by decide +kernel
theorem dX1_leanNow_3 : decode cX1_leanNow 3 = .ok (.getfield 15, 3) := by decide +kernel
theorem dX1_leanNow_6 : decode cX1_leanNow 6 = .ok (.iload_n 1, 1) := by decide +kernel
theorem dX1_leanNow_7 : decode cX1_leanNow 7 = .ok (.invokestatic 64, 3) := by decide +kernel
theorem dX1_leanNow_10 : decode cX1_leanNow 10 = .ok (.aload_n 0, 1) := by decide +kernel
theorem dX1_leanNow_11 : decode cX1_leanNow 11 = .ok (.getfield 18, 3) := by decide +kernel
theorem dX1_leanNow_14 : decode cX1_leanNow 14 = .ok (.iload_n 1, 1) := by decide +kernel
theorem dX1_leanNow_15 : decode cX1_leanNow 15 = .ok (.invokestatic 64, 3) := by decide +kernel
theorem dX1_leanNow_18 : decode cX1_leanNow 18 = .ok (.invokevirtual 85, 3) := by decide +kernel
theorem dX1_leanNow_21 : decode cX1_leanNow 21 = .ok (.ireturn, 1) := by decide +kernel
theorem dX1_gapUnder_0 : decode cX1_gapUnder 0 = .ok (.aload_n 0, 1) := by decide +kernel
theorem dX1_gapUnder_1 : decode cX1_gapUnder 1 = .ok (.iload_n 1, 1) := by decide +kernel
theorem dX1_gapUnder_2 : decode cX1_gapUnder 2 = .ok (.iload_n 2, 1) := by decide +kernel
theorem dX1_gapUnder_3 : decode cX1_gapUnder 3 = .ok (.iconst 1, 1) := by decide +kernel
theorem dX1_gapUnder_4 : decode cX1_gapUnder 4 = .ok (.iadd, 1) := by decide +kernel
theorem dX1_gapUnder_5 : decode cX1_gapUnder 5 = .ok (.iconst 4, 1) := by decide +kernel
theorem dX1_gapUnder_6 : decode cX1_gapUnder 6 = .ok (.irem, 1) := by decide +kernel
theorem dX1_gapUnder_7 : decode cX1_gapUnder 7 = .ok (.invokevirtual 88, 3) := by decide +kernel
theorem dX1_gapUnder_10 : decode cX1_gapUnder 10 = .ok (.aload_n 0, 1) := by decide +kernel
theorem dX1_gapUnder_11 : decode cX1_gapUnder 11 = .ok (.iload_n 1, 1) := by decide +kernel
theorem dX1_gapUnder_12 : decode cX1_gapUnder 12 = .ok (.iload_n 2, 1) := by decide +kernel
theorem dX1_gapUnder_13 : decode cX1_gapUnder 13 = .ok (.iconst 3, 1) := by decide +kernel
theorem dX1_gapUnder_14 : decode cX1_gapUnder 14 = .ok (.iadd, 1) := by decide +kernel
theorem dX1_gapUnder_15 : decode cX1_gapUnder 15 = .ok (.iconst 4, 1) := by decide +kernel
theorem dX1_gapUnder_16 : decode cX1_gapUnder 16 = .ok (.irem, 1) := by decide +kernel
theorem dX1_gapUnder_17 : decode cX1_gapUnder 17 = .ok (.invokevirtual 88, 3) := by decide +kernel
theorem dX1_gapUnder_20 : decode cX1_gapUnder 20 = .ok (.iadd, 1) := by decide +kernel
theorem dX1_gapUnder_21 : decode cX1_gapUnder 21 = .ok (.istore_n 3, 1) := by decide +kernel
theorem dX1_gapUnder_22 : decode cX1_gapUnder 22 = .ok (.iload_n 3, 1) := by decide +kernel
theorem dX1_gapUnder_23 : decode cX1_gapUnder 23 = .ok (.aload_n 0, 1) := by decide +kernel
theorem dX1_gapUnder_24 : decode cX1_gapUnder 24 = .ok (.iload_n 1, 1) := by decide +kernel
theorem dX1_gapUnder_25 : decode cX1_gapUnder 25 = .ok (.iload_n 2, 1) := by decide +kernel
theorem dX1_gapUnder_26 : decode cX1_gapUnder 26 = .ok (.iconst 2, 1) := by decide +kernel
theorem dX1_gapUnder_27 : decode cX1_gapUnder 27 = .ok (.iadd, 1) := by decide +kernel
theorem dX1_gapUnder_28 : decode cX1_gapUnder 28 = .ok (.iconst 4, 1) := by decide +kernel
theorem dX1_gapUnder_29 : decode cX1_gapUnder 29 = .ok (.irem, 1) := by decide +kernel
theorem dX1_gapUnder_30 : decode cX1_gapUnder 30 = .ok (.invokevirtual 88, 3) := by decide +kernel
theorem dX1_gapUnder_33 : decode cX1_gapUnder 33 = .ok (.isub, 1) := by decide +kernel
theorem dX1_gapUnder_34 : decode cX1_gapUnder 34 = .ok (.aload_n 0, 1) := by decide +kernel
theorem dX1_gapUnder_35 : decode cX1_gapUnder 35 = .ok (.iload_n 1, 1) := by decide +kernel
theorem dX1_gapUnder_36 : decode cX1_gapUnder 36 = .ok (.iload_n 2, 1) := by decide +kernel
theorem dX1_gapUnder_37 : decode cX1_gapUnder 37 = .ok (.invokevirtual 88, 3) := by decide +kernel
theorem dX1_gapUnder_40 : decode cX1_gapUnder 40 = .ok (.isub, 1) := by decide +kernel
theorem dX1_gapUnder_41 : decode cX1_gapUnder 41 = .ok (.istore 4, 2) := by decide +kernel
theorem dX1_gapUnder_43 : decode cX1_gapUnder 43 = .ok (.iload 4, 2) := by decide +kernel
theorem dX1_gapUnder_45 : decode cX1_gapUnder 45 = .ok (.ifCond .ge 9, 3) := by decide +kernel
theorem dX1_gapUnder_48 : decode cX1_gapUnder 48 = .ok (.iload 4, 2) := by decide +kernel
theorem dX1_gapUnder_50 : decode cX1_gapUnder 50 = .ok (.ineg, 1) := by decide +kernel
theorem dX1_gapUnder_51 : decode cX1_gapUnder 51 = .ok (.goto 5, 3) := by decide +kernel
theorem dX1_gapUnder_54 : decode cX1_gapUnder 54 = .ok (.iload 4, 2) := by decide +kernel
theorem dX1_gapUnder_56 : decode cX1_gapUnder 56 = .ok (.ireturn, 1) := by decide +kernel
theorem dX1_greatestGap_0 : decode cX1_greatestGap 0 = .ok (.iconst 0, 1) := by decide +kernel
theorem dX1_greatestGap_1 : decode cX1_greatestGap 1 = .ok (.istore_n 2, 1) := by decide +kernel
theorem dX1_greatestGap_2 : decode cX1_greatestGap 2 = .ok (.iconst 0, 1) := by decide +kernel
theorem dX1_greatestGap_3 : decode cX1_greatestGap 3 = .ok (.istore_n 3, 1) := by decide +kernel
theorem dX1_greatestGap_4 : decode cX1_greatestGap 4 = .ok (.iload_n 3, 1) := by decide +kernel
theorem dX1_greatestGap_5 : decode cX1_greatestGap 5 = .ok (.iconst 4, 1) := by decide +kernel
theorem dX1_greatestGap_6 : decode cX1_greatestGap 6 = .ok (.if_icmp .ge 20, 3) := by decide +kernel
theorem dX1_greatestGap_9 : decode cX1_greatestGap 9 = .ok (.iload_n 2, 1) := by decide +kernel
theorem dX1_greatestGap_10 : decode cX1_greatestGap 10 = .ok (.aload_n 0, 1) := by decide +kernel
theorem dX1_greatestGap_11 : decode cX1_greatestGap 11 = .ok (.iload_n 1, 1) := by decide +kernel
theorem dX1_greatestGap_12 : decode cX1_greatestGap 12 = .ok (.iload_n 3, 1) := by decide +kernel
theorem dX1_greatestGap_13 : decode cX1_greatestGap 13 = .ok (.invokevirtual 91, 3) := by decide +kernel
theorem dX1_greatestGap_16 : decode cX1_greatestGap 16 = .ok (.invokestatic 82, 3) := by decide +kernel
theorem dX1_greatestGap_19 : decode cX1_greatestGap 19 = .ok (.istore_n 2, 1) := by decide +kernel
theorem dX1_greatestGap_20 : decode cX1_greatestGap 20 = .ok (.iinc 3 1, 3) := by decide +kernel
theorem dX1_greatestGap_23 : decode cX1_greatestGap 23 = .ok (.goto (-19), 3) := by decide +kernel
theorem dX1_greatestGap_26 : decode cX1_greatestGap 26 = .ok (.iload_n 2, 1) := by decide +kernel
theorem dX1_greatestGap_27 : decode cX1_greatestGap 27 = .ok (.ireturn, 1) := by decide +kernel
theorem dX1_seatHeight_0 : decode cX1_seatHeight 0 = .ok (.iconst 0, 1) := by decide +kernel
theorem dX1_seatHeight_1 : decode cX1_seatHeight 1 = .ok (.istore_n 2, 1) := by decide +kernel
theorem dX1_seatHeight_2 : decode cX1_seatHeight 2 = .ok (.iconst 0, 1) := by decide +kernel
theorem dX1_seatHeight_3 : decode cX1_seatHeight 3 = .ok (.istore_n 3, 1) := by decide +kernel
theorem dX1_seatHeight_4 : decode cX1_seatHeight 4 = .ok (.iload_n 3, 1) := by decide +kernel
theorem dX1_seatHeight_5 : decode cX1_seatHeight 5 = .ok (.iconst 4, 1) := by decide +kernel
theorem dX1_seatHeight_6 : decode cX1_seatHeight 6 = .ok (.if_icmp .ge 18, 3) := by decide +kernel
theorem dX1_seatHeight_9 : decode cX1_seatHeight 9 = .ok (.iload_n 2, 1) := by decide +kernel
theorem dX1_seatHeight_10 : decode cX1_seatHeight 10 = .ok (.aload_n 0, 1) := by decide +kernel
theorem dX1_seatHeight_11 : decode cX1_seatHeight 11 = .ok (.iload_n 1, 1) := by decide +kernel
theorem dX1_seatHeight_12 : decode cX1_seatHeight 12 = .ok (.iload_n 3, 1) := by decide +kernel
theorem dX1_seatHeight_13 : decode cX1_seatHeight 13 = .ok (.invokevirtual 94, 3) := by decide +kernel
theorem dX1_seatHeight_16 : decode cX1_seatHeight 16 = .ok (.iadd, 1) := by decide +kernel
theorem dX1_seatHeight_17 : decode cX1_seatHeight 17 = .ok (.istore_n 2, 1) := by decide +kernel
theorem dX1_seatHeight_18 : decode cX1_seatHeight 18 = .ok (.iinc 3 1, 3) := by decide +kernel
theorem dX1_seatHeight_21 : decode cX1_seatHeight 21 = .ok (.goto (-17), 3) := by decide +kernel
theorem dX1_seatHeight_24 : decode cX1_seatHeight 24 = .ok (.iload_n 2, 1) := by decide +kernel
theorem dX1_seatHeight_25 : decode cX1_seatHeight 25 = .ok (.iconst 4, 1) := by decide +kernel
theorem dX1_seatHeight_26 : decode cX1_seatHeight 26 = .ok (.idiv, 1) := by decide +kernel
theorem dX1_seatHeight_27 : decode cX1_seatHeight 27 = .ok (.ireturn, 1) := by decide +kernel
theorem dX1_idleLeg_0 : decode cX1_idleLeg 0 = .ok (.aload_n 0, 1) := by decide +kernel
theorem dX1_idleLeg_1 : decode cX1_idleLeg 1 = .ok (.iload_n 1, 1) := by decide +kernel
theorem dX1_idleLeg_2 : decode cX1_idleLeg 2 = .ok (.iconst 0, 1) := by decide +kernel
theorem dX1_idleLeg_3 : decode cX1_idleLeg 3 = .ok (.invokevirtual 88, 3) := by decide +kernel
theorem dX1_idleLeg_6 : decode cX1_idleLeg 6 = .ok (.istore_n 2, 1) := by decide +kernel
theorem dX1_idleLeg_7 : decode cX1_idleLeg 7 = .ok (.aload_n 0, 1) := by decide +kernel
theorem dX1_idleLeg_8 : decode cX1_idleLeg 8 = .ok (.iload_n 1, 1) := by decide +kernel
theorem dX1_idleLeg_9 : decode cX1_idleLeg 9 = .ok (.iconst 1, 1) := by decide +kernel
theorem dX1_idleLeg_10 : decode cX1_idleLeg 10 = .ok (.invokevirtual 88, 3) := by decide +kernel
theorem dX1_idleLeg_13 : decode cX1_idleLeg 13 = .ok (.istore_n 3, 1) := by decide +kernel
theorem dX1_idleLeg_14 : decode cX1_idleLeg 14 = .ok (.aload_n 0, 1) := by decide +kernel
theorem dX1_idleLeg_15 : decode cX1_idleLeg 15 = .ok (.iload_n 1, 1) := by decide +kernel
theorem dX1_idleLeg_16 : decode cX1_idleLeg 16 = .ok (.iconst 2, 1) := by decide +kernel
theorem dX1_idleLeg_17 : decode cX1_idleLeg 17 = .ok (.invokevirtual 88, 3) := by decide +kernel
theorem dX1_idleLeg_20 : decode cX1_idleLeg 20 = .ok (.istore 4, 2) := by decide +kernel
theorem dX1_idleLeg_22 : decode cX1_idleLeg 22 = .ok (.aload_n 0, 1) := by decide +kernel
theorem dX1_idleLeg_23 : decode cX1_idleLeg 23 = .ok (.iload_n 1, 1) := by decide +kernel
theorem dX1_idleLeg_24 : decode cX1_idleLeg 24 = .ok (.iconst 3, 1) := by decide +kernel
theorem dX1_idleLeg_25 : decode cX1_idleLeg 25 = .ok (.invokevirtual 88, 3) := by decide +kernel
theorem dX1_idleLeg_28 : decode cX1_idleLeg 28 = .ok (.istore 5, 2) := by decide +kernel
theorem dX1_idleLeg_30 : decode cX1_idleLeg 30 = .ok (.iload_n 2, 1) := by decide +kernel
theorem dX1_idleLeg_31 : decode cX1_idleLeg 31 = .ok (.iload 4, 2) := by decide +kernel
theorem dX1_idleLeg_33 : decode cX1_idleLeg 33 = .ok (.iadd, 1) := by decide +kernel
theorem dX1_idleLeg_34 : decode cX1_idleLeg 34 = .ok (.iload_n 3, 1) := by decide +kernel
theorem dX1_idleLeg_35 : decode cX1_idleLeg 35 = .ok (.iload 5, 2) := by decide +kernel
theorem dX1_idleLeg_37 : decode cX1_idleLeg 37 = .ok (.iadd, 1) := by decide +kernel
theorem dX1_idleLeg_38 : decode cX1_idleLeg 38 = .ok (.if_icmp .ne 5, 3) := by decide +kernel
theorem dX1_idleLeg_41 : decode cX1_idleLeg 41 = .ok (.iconst (-1), 1) := by decide +kernel
theorem dX1_idleLeg_42 : decode cX1_idleLeg 42 = .ok (.ireturn, 1) := by decide +kernel
theorem dX1_idleLeg_43 : decode cX1_idleLeg 43 = .ok (.iload_n 2, 1) := by decide +kernel
theorem dX1_idleLeg_44 : decode cX1_idleLeg 44 = .ok (.iload 4, 2) := by decide +kernel
theorem dX1_idleLeg_46 : decode cX1_idleLeg 46 = .ok (.iadd, 1) := by decide +kernel
theorem dX1_idleLeg_47 : decode cX1_idleLeg 47 = .ok (.iload_n 3, 1) := by decide +kernel
theorem dX1_idleLeg_48 : decode cX1_idleLeg 48 = .ok (.iload 5, 2) := by decide +kernel
theorem dX1_idleLeg_50 : decode cX1_idleLeg 50 = .ok (.iadd, 1) := by decide +kernel
theorem dX1_idleLeg_51 : decode cX1_idleLeg 51 = .ok (.if_icmp .ge 15, 3) := by decide +kernel
theorem dX1_idleLeg_54 : decode cX1_idleLeg 54 = .ok (.iload 4, 2) := by decide +kernel
theorem dX1_idleLeg_56 : decode cX1_idleLeg 56 = .ok (.iload_n 2, 1) := by decide +kernel
theorem dX1_idleLeg_57 : decode cX1_idleLeg 57 = .ok (.if_icmp .ge 7, 3) := by decide +kernel
theorem dX1_idleLeg_60 : decode cX1_idleLeg 60 = .ok (.iconst 2, 1) := by decide +kernel
theorem dX1_idleLeg_61 : decode cX1_idleLeg 61 = .ok (.goto 4, 3) := by decide +kernel
theorem dX1_idleLeg_64 : decode cX1_idleLeg 64 = .ok (.iconst 0, 1) := by decide +kernel
theorem dX1_idleLeg_65 : decode cX1_idleLeg 65 = .ok (.ireturn, 1) := by decide +kernel
theorem dX1_idleLeg_66 : decode cX1_idleLeg 66 = .ok (.iload 5, 2) := by decide +kernel
theorem dX1_idleLeg_68 : decode cX1_idleLeg 68 = .ok (.iload_n 3, 1) := by decide +kernel
theorem dX1_idleLeg_69 : decode cX1_idleLeg 69 = .ok (.if_icmp .ge 7, 3) := by decide +kernel
theorem dX1_idleLeg_72 : decode cX1_idleLeg 72 = .ok (.iconst 3, 1) := by decide +kernel
theorem dX1_idleLeg_73 : decode cX1_idleLeg 73 = .ok (.goto 4, 3) := by decide +kernel
theorem dX1_idleLeg_76 : decode cX1_idleLeg 76 = .ok (.iconst 1, 1) := by decide +kernel
theorem dX1_idleLeg_77 : decode cX1_idleLeg 77 = .ok (.ireturn, 1) := by decide +kernel
theorem dX1_reason_0 : decode cX1_reason 0 = .ok (.aload_n 0, 1) := by decide +kernel
theorem dX1_reason_1 : decode cX1_reason 1 = .ok (.getfield 9, 3) := by decide +kernel
theorem dX1_reason_4 : decode cX1_reason 4 = .ok (.iload_n 1, 1) := by decide +kernel
theorem dX1_reason_5 : decode cX1_reason 5 = .ok (.invokestatic 64, 3) := by decide +kernel
theorem dX1_reason_8 : decode cX1_reason 8 = .ok (.istore_n 2, 1) := by decide +kernel
theorem dX1_reason_9 : decode cX1_reason 9 = .ok (.aload_n 0, 1) := by decide +kernel
theorem dX1_reason_10 : decode cX1_reason 10 = .ok (.getfield 15, 3) := by decide +kernel
theorem dX1_reason_13 : decode cX1_reason 13 = .ok (.iload_n 1, 1) := by decide +kernel
theorem dX1_reason_14 : decode cX1_reason 14 = .ok (.invokestatic 64, 3) := by decide +kernel
theorem dX1_reason_17 : decode cX1_reason 17 = .ok (.istore_n 3, 1) := by decide +kernel
theorem dX1_reason_18 : decode cX1_reason 18 = .ok (.aload_n 0, 1) := by decide +kernel
theorem dX1_reason_19 : decode cX1_reason 19 = .ok (.getfield 18, 3) := by decide +kernel
theorem dX1_reason_22 : decode cX1_reason 22 = .ok (.iload_n 1, 1) := by decide +kernel
theorem dX1_reason_23 : decode cX1_reason 23 = .ok (.invokestatic 64, 3) := by decide +kernel
theorem dX1_reason_26 : decode cX1_reason 26 = .ok (.istore 4, 2) := by decide +kernel
theorem dX1_reason_28 : decode cX1_reason 28 = .ok (.aload_n 0, 1) := by decide +kernel
theorem dX1_reason_29 : decode cX1_reason 29 = .ok (.iload_n 1, 1) := by decide +kernel
theorem dX1_reason_30 : decode cX1_reason 30 = .ok (.iload_n 3, 1) := by decide +kernel
theorem dX1_reason_31 : decode cX1_reason 31 = .ok (.iload 4, 2) := by decide +kernel
theorem dX1_reason_33 : decode cX1_reason 33 = .ok (.invokevirtual 72, 3) := by decide +kernel
theorem dX1_reason_36 : decode cX1_reason 36 = .ok (.aload_n 0, 1) := by decide +kernel
theorem dX1_reason_37 : decode cX1_reason 37 = .ok (.iload_n 2, 1) := by decide +kernel
theorem dX1_reason_38 : decode cX1_reason 38 = .ok (.iconst 2, 1) := by decide +kernel
theorem dX1_reason_39 : decode cX1_reason 39 = .ok (.invokevirtual 97, 3) := by decide +kernel
theorem dX1_reason_42 : decode cX1_reason 42 = .ok (.if_icmp .le 5, 3) := by decide +kernel
theorem dX1_reason_45 : decode cX1_reason 45 = .ok (.iconst 1, 1) := by decide +kernel
theorem dX1_reason_46 : decode cX1_reason 46 = .ok (.ireturn, 1) := by decide +kernel
theorem dX1_reason_47 : decode cX1_reason 47 = .ok (.aload_n 0, 1) := by decide +kernel
theorem dX1_reason_48 : decode cX1_reason 48 = .ok (.iload_n 1, 1) := by decide +kernel
theorem dX1_reason_49 : decode cX1_reason 49 = .ok (.iload_n 3, 1) := by decide +kernel
theorem dX1_reason_50 : decode cX1_reason 50 = .ok (.iload 4, 2) := by decide +kernel
theorem dX1_reason_52 : decode cX1_reason 52 = .ok (.invokevirtual 85, 3) := by decide +kernel
theorem dX1_reason_55 : decode cX1_reason 55 = .ok (.aload_n 0, 1) := by decide +kernel
theorem dX1_reason_56 : decode cX1_reason 56 = .ok (.iload_n 2, 1) := by decide +kernel
theorem dX1_reason_57 : decode cX1_reason 57 = .ok (.iconst 3, 1) := by decide +kernel
theorem dX1_reason_58 : decode cX1_reason 58 = .ok (.invokevirtual 97, 3) := by decide +kernel
theorem dX1_reason_61 : decode cX1_reason 61 = .ok (.if_icmp .le 5, 3) := by decide +kernel
theorem dX1_reason_64 : decode cX1_reason 64 = .ok (.iconst 2, 1) := by decide +kernel
theorem dX1_reason_65 : decode cX1_reason 65 = .ok (.ireturn, 1) := by decide +kernel
theorem dX1_reason_66 : decode cX1_reason 66 = .ok (.aload_n 0, 1) := by decide +kernel
theorem dX1_reason_67 : decode cX1_reason 67 = .ok (.iload_n 1, 1) := by decide +kernel
theorem dX1_reason_68 : decode cX1_reason 68 = .ok (.invokevirtual 100, 3) := by decide +kernel
theorem dX1_reason_71 : decode cX1_reason 71 = .ok (.istore 5, 2) := by decide +kernel
theorem dX1_reason_73 : decode cX1_reason 73 = .ok (.iload 5, 2) := by decide +kernel
theorem dX1_reason_75 : decode cX1_reason 75 = .ok (.aload_n 0, 1) := by decide +kernel
theorem dX1_reason_76 : decode cX1_reason 76 = .ok (.iload_n 2, 1) := by decide +kernel
theorem dX1_reason_77 : decode cX1_reason 77 = .ok (.iconst 0, 1) := by decide +kernel
theorem dX1_reason_78 : decode cX1_reason 78 = .ok (.invokevirtual 97, 3) := by decide +kernel
theorem dX1_reason_81 : decode cX1_reason 81 = .ok (.if_icmp .ge 5, 3) := by decide +kernel
theorem dX1_reason_84 : decode cX1_reason 84 = .ok (.iconst 3, 1) := by decide +kernel
theorem dX1_reason_85 : decode cX1_reason 85 = .ok (.ireturn, 1) := by decide +kernel
theorem dX1_reason_86 : decode cX1_reason 86 = .ok (.iload 5, 2) := by decide +kernel
theorem dX1_reason_88 : decode cX1_reason 88 = .ok (.aload_n 0, 1) := by decide +kernel
theorem dX1_reason_89 : decode cX1_reason 89 = .ok (.iload_n 2, 1) := by decide +kernel
theorem dX1_reason_90 : decode cX1_reason 90 = .ok (.iconst 1, 1) := by decide +kernel
theorem dX1_reason_91 : decode cX1_reason 91 = .ok (.invokevirtual 97, 3) := by decide +kernel
theorem dX1_reason_94 : decode cX1_reason 94 = .ok (.if_icmp .le 7, 3) := by decide +kernel
theorem dX1_reason_97 : decode cX1_reason 97 = .ok (.iconst 4, 1) := by decide +kernel
theorem dX1_reason_98 : decode cX1_reason 98 = .ok (.goto 4, 3) := by decide +kernel
theorem dX1_reason_101 : decode cX1_reason 101 = .ok (.iconst 0, 1) := by decide +kernel
theorem dX1_reason_102 : decode cX1_reason 102 = .ok (.ireturn, 1) := by decide +kernel
theorem dX1_addChair_0 : decode cX1_addChair 0 = .ok (.iload_n 1, 1) := by decide +kernel
theorem dX1_addChair_1 : decode cX1_addChair 1 = .ok (.iconst 0, 1) := by decide +kernel
theorem dX1_addChair_2 : decode cX1_addChair 2 = .ok (.iconst 3, 1) := by decide +kernel
theorem dX1_addChair_3 : decode cX1_addChair 3 = .ok (.invokestatic 104, 3) := by decide +kernel
theorem dX1_addChair_6 : decode cX1_addChair 6 = .ok (.ifCond .ne 6, 3) := by decide +kernel
theorem dX1_addChair_9 : decode cX1_addChair 9 = .ok (.bipush (-2), 2) := by decide +kernel
theorem dX1_addChair_11 : decode cX1_addChair 11 = .ok (.ireturn, 1) := by decide +kernel
theorem dX1_addChair_12 : decode cX1_addChair 12 = .ok (.iload_n 2, 1) := by decide +kernel
theorem dX1_addChair_13 : decode cX1_addChair 13 = .ok (.bipush 100, 2) := by decide +kernel
theorem dX1_addChair_15 : decode cX1_addChair 15 = .ok (.sipush 900, 3) := by decide +kernel
theorem dX1_addChair_18 : decode cX1_addChair 18 = .ok (.invokestatic 104, 3) := by decide +kernel
theorem dX1_addChair_21 : decode cX1_addChair 21 = .ok (.ifCond .ne 6, 3) := by decide +kernel
theorem dX1_addChair_24 : decode cX1_addChair 24 = .ok (.bipush (-3), 2) := by decide +kernel
theorem dX1_addChair_26 : decode cX1_addChair 26 = .ok (.ireturn, 1) := by decide +kernel
theorem dX1_addChair_27 : decode cX1_addChair 27 = .ok (.aload_n 0, 1) := by decide +kernel
theorem dX1_addChair_28 : decode cX1_addChair 28 = .ok (.getfield 45, 3) := by decide +kernel
theorem dX1_addChair_31 : decode cX1_addChair 31 = .ok (.bipush 10, 2) := by decide +kernel
theorem dX1_addChair_33 : decode cX1_addChair 33 = .ok (.if_icmp .lt 6, 3) := by decide +kernel
theorem dX1_addChair_36 : decode cX1_addChair 36 = .ok (.bipush (-4), 2) := by decide +kernel
theorem dX1_addChair_38 : decode cX1_addChair 38 = .ok (.ireturn, 1) := by decide +kernel
theorem dX1_addChair_39 : decode cX1_addChair 39 = .ok (.aload_n 0, 1) := by decide +kernel
theorem dX1_addChair_40 : decode cX1_addChair 40 = .ok (.getfield 45, 3) := by decide +kernel
theorem dX1_addChair_43 : decode cX1_addChair 43 = .ok (.istore_n 3, 1) := by decide +kernel
theorem dX1_addChair_44 : decode cX1_addChair 44 = .ok (.aload_n 0, 1) := by decide +kernel
theorem dX1_addChair_45 : decode cX1_addChair 45 = .ok (.dup, 1) := by decide +kernel
theorem dX1_addChair_46 : decode cX1_addChair 46 = .ok (.getfield 45, 3) := by decide +kernel
theorem dX1_addChair_49 : decode cX1_addChair 49 = .ok (.iconst 1, 1) := by decide +kernel
theorem dX1_addChair_50 : decode cX1_addChair 50 = .ok (.iadd, 1) := by decide +kernel
theorem dX1_addChair_51 : decode cX1_addChair 51 = .ok (.putfield 45, 3) := by decide +kernel
theorem dX1_addChair_54 : decode cX1_addChair 54 = .ok (.aload_n 0, 1) := by decide +kernel
theorem dX1_addChair_55 : decode cX1_addChair 55 = .ok (.getfield 9, 3) := by decide +kernel
theorem dX1_addChair_58 : decode cX1_addChair 58 = .ok (.iload_n 3, 1) := by decide +kernel
theorem dX1_addChair_59 : decode cX1_addChair 59 = .ok (.iload_n 1, 1) := by decide +kernel
theorem dX1_addChair_60 : decode cX1_addChair 60 = .ok (.invokestatic 56, 3) := by decide +kernel
theorem dX1_addChair_63 : decode cX1_addChair 63 = .ok (.aload_n 0, 1) := by decide +kernel
theorem dX1_addChair_64 : decode cX1_addChair 64 = .ok (.getfield 15, 3) := by decide +kernel
theorem dX1_addChair_67 : decode cX1_addChair 67 = .ok (.iload_n 3, 1) := by decide +kernel
theorem dX1_addChair_68 : decode cX1_addChair 68 = .ok (.iconst 0, 1) := by decide +kernel
theorem dX1_addChair_69 : decode cX1_addChair 69 = .ok (.invokestatic 56, 3) := by decide +kernel
theorem dX1_addChair_72 : decode cX1_addChair 72 = .ok (.aload_n 0, 1) := by decide +kernel
theorem dX1_addChair_73 : decode cX1_addChair 73 = .ok (.getfield 18, 3) := by decide +kernel
theorem dX1_addChair_76 : decode cX1_addChair 76 = .ok (.iload_n 3, 1) := by decide +kernel
theorem dX1_addChair_77 : decode cX1_addChair 77 = .ok (.iconst 0, 1) := by decide +kernel
theorem dX1_addChair_78 : decode cX1_addChair 78 = .ok (.invokestatic 56, 3) := by decide +kernel
theorem dX1_addChair_81 : decode cX1_addChair 81 = .ok (.aload_n 0, 1) := by decide +kernel
theorem dX1_addChair_82 : decode cX1_addChair 82 = .ok (.getfield 21, 3) := by decide +kernel
theorem dX1_addChair_85 : decode cX1_addChair 85 = .ok (.iload_n 3, 1) := by decide +kernel
theorem dX1_addChair_86 : decode cX1_addChair 86 = .ok (.iconst 0, 1) := by decide +kernel
theorem dX1_addChair_87 : decode cX1_addChair 87 = .ok (.invokestatic 56, 3) := by decide +kernel
theorem dX1_addChair_90 : decode cX1_addChair 90 = .ok (.aload_n 0, 1) := by decide +kernel
theorem dX1_addChair_91 : decode cX1_addChair 91 = .ok (.getfield 24, 3) := by decide +kernel
theorem dX1_addChair_94 : decode cX1_addChair 94 = .ok (.iload_n 3, 1) := by decide +kernel
theorem dX1_addChair_95 : decode cX1_addChair 95 = .ok (.iconst 0, 1) := by decide +kernel
theorem dX1_addChair_96 : decode cX1_addChair 96 = .ok (.invokestatic 56, 3) := by decide +kernel
theorem dX1_addChair_99 : decode cX1_addChair 99 = .ok (.iconst 0, 1) := by decide +kernel
theorem dX1_addChair_100 : decode cX1_addChair 100 = .ok (.istore 4, 2) := by decide +kernel
theorem dX1_addChair_102 : decode cX1_addChair 102 = .ok (.iload 4, 2) := by decide +kernel
theorem dX1_addChair_104 : decode cX1_addChair 104 = .ok (.iconst 4, 1) := by decide +kernel
theorem dX1_addChair_105 : decode cX1_addChair 105 = .ok (.if_icmp .ge 23, 3) := by decide +kernel
theorem dX1_addChair_108 : decode cX1_addChair 108 = .ok (.aload_n 0, 1) := by decide +kernel
theorem dX1_addChair_109 : decode cX1_addChair 109 = .ok (.getfield 27, 3) := by decide +kernel
theorem dX1_addChair_112 : decode cX1_addChair 112 = .ok (.iload_n 3, 1) := by decide +kernel
theorem dX1_addChair_113 : decode cX1_addChair 113 = .ok (.iconst 4, 1) := by decide +kernel
theorem dX1_addChair_114 : decode cX1_addChair 114 = .ok (.imul, 1) := by decide +kernel
theorem dX1_addChair_115 : decode cX1_addChair 115 = .ok (.iload 4, 2) := by decide +kernel
theorem dX1_addChair_117 : decode cX1_addChair 117 = .ok (.iadd, 1) := by decide +kernel
theorem dX1_addChair_118 : decode cX1_addChair 118 = .ok (.iload_n 2, 1) := by decide +kernel
theorem dX1_addChair_119 : decode cX1_addChair 119 = .ok (.invokestatic 56, 3) := by decide +kernel
theorem dX1_addChair_122 : decode cX1_addChair 122 = .ok (.iinc 4 1, 3) := by decide +kernel
theorem dX1_addChair_125 : decode cX1_addChair 125 = .ok (.goto (-23), 3) := by decide +kernel
theorem dX1_addChair_128 : decode cX1_addChair 128 = .ok (.iload_n 3, 1) := by decide +kernel
theorem dX1_addChair_129 : decode cX1_addChair 129 = .ok (.ireturn, 1) := by decide +kernel
theorem dX1_layFloor_0 : decode cX1_layFloor 0 = .ok (.aload_n 0, 1) := by decide +kernel
theorem dX1_layFloor_1 : decode cX1_layFloor 1 = .ok (.iload_n 1, 1) := by decide +kernel
theorem dX1_layFloor_2 : decode cX1_layFloor 2 = .ok (.invokevirtual 108, 3) := by decide +kernel
theorem dX1_layFloor_5 : decode cX1_layFloor 5 = .ok (.ifCond .eq 28, 3) := by decide +kernel
theorem dX1_layFloor_8 : decode cX1_layFloor 8 = .ok (.aload_n 0, 1) := by decide +kernel
theorem dX1_layFloor_9 : decode cX1_layFloor 9 = .ok (.iload_n 2, 1) := by decide +kernel
theorem dX1_layFloor_10 : decode cX1_layFloor 10 = .ok (.invokevirtual 108, 3) := by decide +kernel
theorem dX1_layFloor_13 : decode cX1_layFloor 13 = .ok (.ifCond .eq 20, 3) := by decide +kernel
theorem dX1_layFloor_16 : decode cX1_layFloor 16 = .ok (.aload_n 0, 1) := by decide +kernel
theorem dX1_layFloor_17 : decode cX1_layFloor 17 = .ok (.iload_n 3, 1) := by decide +kernel
theorem dX1_layFloor_18 : decode cX1_layFloor 18 = .ok (.invokevirtual 108, 3) := by decide +kernel
theorem dX1_layFloor_21 : decode cX1_layFloor 21 = .ok (.ifCond .eq 12, 3) := by decide +kernel
theorem dX1_layFloor_24 : decode cX1_layFloor 24 = .ok (.aload_n 0, 1) := by decide +kernel
theorem dX1_layFloor_25 : decode cX1_layFloor 25 = .ok (.iload 4, 2) := by decide +kernel
theorem dX1_layFloor_27 : decode cX1_layFloor 27 = .ok (.invokevirtual 108, 3) := by decide +kernel
theorem dX1_layFloor_30 : decode cX1_layFloor 30 = .ok (.ifCond .ne 6, 3) := by decide +kernel
theorem dX1_layFloor_33 : decode cX1_layFloor 33 = .ok (.bipush (-3), 2) := by decide +kernel
theorem dX1_layFloor_35 : decode cX1_layFloor 35 = .ok (.ireturn, 1) := by decide +kernel
theorem dX1_layFloor_36 : decode cX1_layFloor 36 = .ok (.aload_n 0, 1) := by decide +kernel
theorem dX1_layFloor_37 : decode cX1_layFloor 37 = .ok (.getfield 49, 3) := by decide +kernel
theorem dX1_layFloor_40 : decode cX1_layFloor 40 = .ok (.iconst 4, 1) := by decide +kernel
theorem dX1_layFloor_41 : decode cX1_layFloor 41 = .ok (.if_icmp .lt 6, 3) := by decide +kernel
theorem dX1_layFloor_44 : decode cX1_layFloor 44 = .ok (.bipush (-4), 2) := by decide +kernel
theorem dX1_layFloor_46 : decode cX1_layFloor 46 = .ok (.ireturn, 1) := by decide +kernel
theorem dX1_layFloor_47 : decode cX1_layFloor 47 = .ok (.aload_n 0, 1) := by decide +kernel
theorem dX1_layFloor_48 : decode cX1_layFloor 48 = .ok (.getfield 49, 3) := by decide +kernel
theorem dX1_layFloor_51 : decode cX1_layFloor 51 = .ok (.istore 5, 2) := by decide +kernel
theorem dX1_layFloor_53 : decode cX1_layFloor 53 = .ok (.aload_n 0, 1) := by decide +kernel
theorem dX1_layFloor_54 : decode cX1_layFloor 54 = .ok (.dup, 1) := by decide +kernel
theorem dX1_layFloor_55 : decode cX1_layFloor 55 = .ok (.getfield 49, 3) := by decide +kernel
theorem dX1_layFloor_58 : decode cX1_layFloor 58 = .ok (.iconst 1, 1) := by decide +kernel
theorem dX1_layFloor_59 : decode cX1_layFloor 59 = .ok (.iadd, 1) := by decide +kernel
theorem dX1_layFloor_60 : decode cX1_layFloor 60 = .ok (.putfield 49, 3) := by decide +kernel
theorem dX1_layFloor_63 : decode cX1_layFloor 63 = .ok (.aload_n 0, 1) := by decide +kernel
theorem dX1_layFloor_64 : decode cX1_layFloor 64 = .ok (.getfield 30, 3) := by decide +kernel
theorem dX1_layFloor_67 : decode cX1_layFloor 67 = .ok (.iload 5, 2) := by decide +kernel
theorem dX1_layFloor_69 : decode cX1_layFloor 69 = .ok (.iconst 4, 1) := by decide +kernel
theorem dX1_layFloor_70 : decode cX1_layFloor 70 = .ok (.imul, 1) := by decide +kernel
theorem dX1_layFloor_71 : decode cX1_layFloor 71 = .ok (.iload_n 1, 1) := by decide +kernel
theorem dX1_layFloor_72 : decode cX1_layFloor 72 = .ok (.invokestatic 56, 3) := by decide +kernel
theorem dX1_layFloor_75 : decode cX1_layFloor 75 = .ok (.aload_n 0, 1) := by decide +kernel
theorem dX1_layFloor_76 : decode cX1_layFloor 76 = .ok (.getfield 30, 3) := by decide +kernel
theorem dX1_layFloor_79 : decode cX1_layFloor 79 = .ok (.iload 5, 2) := by decide +kernel
theorem dX1_layFloor_81 : decode cX1_layFloor 81 = .ok (.iconst 4, 1) := by decide +kernel
theorem dX1_layFloor_82 : decode cX1_layFloor 82 = .ok (.imul, 1) := by decide +kernel
theorem dX1_layFloor_83 : decode cX1_layFloor 83 = .ok (.iconst 1, 1) := by decide +kernel
theorem dX1_layFloor_84 : decode cX1_layFloor 84 = .ok (.iadd, 1) := by decide +kernel
theorem dX1_layFloor_85 : decode cX1_layFloor 85 = .ok (.iload_n 2, 1) := by decide +kernel
theorem dX1_layFloor_86 : decode cX1_layFloor 86 = .ok (.invokestatic 56, 3) := by decide +kernel
theorem dX1_layFloor_89 : decode cX1_layFloor 89 = .ok (.aload_n 0, 1) := by decide +kernel
theorem dX1_layFloor_90 : decode cX1_layFloor 90 = .ok (.getfield 30, 3) := by decide +kernel
theorem dX1_layFloor_93 : decode cX1_layFloor 93 = .ok (.iload 5, 2) := by decide +kernel
theorem dX1_layFloor_95 : decode cX1_layFloor 95 = .ok (.iconst 4, 1) := by decide +kernel
theorem dX1_layFloor_96 : decode cX1_layFloor 96 = .ok (.imul, 1) := by decide +kernel
theorem dX1_layFloor_97 : decode cX1_layFloor 97 = .ok (.iconst 2, 1) := by decide +kernel
theorem dX1_layFloor_98 : decode cX1_layFloor 98 = .ok (.iadd, 1) := by decide +kernel
theorem dX1_layFloor_99 : decode cX1_layFloor 99 = .ok (.iload_n 3, 1) := by decide +kernel
theorem dX1_layFloor_100 : decode cX1_layFloor 100 = .ok (.invokestatic 56, 3) := by decide +kernel
theorem dX1_layFloor_103 : decode cX1_layFloor 103 = .ok (.aload_n 0, 1) := by decide +kernel
theorem dX1_layFloor_104 : decode cX1_layFloor 104 = .ok (.getfield 30, 3) := by decide +kernel
theorem dX1_layFloor_107 : decode cX1_layFloor 107 = .ok (.iload 5, 2) := by decide +kernel
theorem dX1_layFloor_109 : decode cX1_layFloor 109 = .ok (.iconst 4, 1) := by decide +kernel
theorem dX1_layFloor_110 : decode cX1_layFloor 110 = .ok (.imul, 1) := by decide +kernel
theorem dX1_layFloor_111 : decode cX1_layFloor 111 = .ok (.iconst 3, 1) := by decide +kernel
theorem dX1_layFloor_112 : decode cX1_layFloor 112 = .ok (.iadd, 1) := by decide +kernel
theorem dX1_layFloor_113 : decode cX1_layFloor 113 = .ok (.iload 4, 2) := by decide +kernel
theorem dX1_layFloor_115 : decode cX1_layFloor 115 = .ok (.invokestatic 56, 3) := by decide +kernel
theorem dX1_layFloor_118 : decode cX1_layFloor 118 = .ok (.iload 5, 2) := by decide +kernel
theorem dX1_layFloor_120 : decode cX1_layFloor 120 = .ok (.ireturn, 1) := by decide +kernel
theorem dX1_isSpot_0 : decode cX1_isSpot 0 = .ok (.iload_n 1, 1) := by decide +kernel
theorem dX1_isSpot_1 : decode cX1_isSpot 1 = .ok (.iconst 0, 1) := by decide +kernel
theorem dX1_isSpot_2 : decode cX1_isSpot 2 = .ok (.bipush 50, 2) := by decide +kernel
theorem dX1_isSpot_4 : decode cX1_isSpot 4 = .ok (.invokestatic 104, 3) := by decide +kernel
theorem dX1_isSpot_7 : decode cX1_isSpot 7 = .ok (.ireturn, 1) := by decide +kernel
theorem dX1_changeSpot_0 : decode cX1_changeSpot 0 = .ok (.aload_n 0, 1) := by decide +kernel
theorem dX1_changeSpot_1 : decode cX1_changeSpot 1 = .ok (.iload_n 1, 1) := by decide +kernel
theorem dX1_changeSpot_2 : decode cX1_changeSpot 2 = .ok (.invokevirtual 112, 3) := by decide +kernel
theorem dX1_changeSpot_5 : decode cX1_changeSpot 5 = .ok (.ifCond .eq 12, 3) := by decide +kernel
theorem dX1_changeSpot_8 : decode cX1_changeSpot 8 = .ok (.iload_n 2, 1) := by decide +kernel
theorem dX1_changeSpot_9 : decode cX1_changeSpot 9 = .ok (.iconst 0, 1) := by decide +kernel
theorem dX1_changeSpot_10 : decode cX1_changeSpot 10 = .ok (.iconst 3, 1) := by decide +kernel
theorem dX1_changeSpot_11 : decode cX1_changeSpot 11 = .ok (.invokestatic 104, 3) := by decide +kernel
theorem dX1_changeSpot_14 : decode cX1_changeSpot 14 = .ok (.ifCond .ne 6, 3) := by decide +kernel
theorem dX1_changeSpot_17 : decode cX1_changeSpot 17 = .ok (.bipush (-2), 2) := by decide +kernel
theorem dX1_changeSpot_19 : decode cX1_changeSpot 19 = .ok (.ireturn, 1) := by decide +kernel
theorem dX1_changeSpot_20 : decode cX1_changeSpot 20 = .ok (.aload_n 0, 1) := by decide +kernel
theorem dX1_changeSpot_21 : decode cX1_changeSpot 21 = .ok (.iload_n 3, 1) := by decide +kernel
theorem dX1_changeSpot_22 : decode cX1_changeSpot 22 = .ok (.invokevirtual 108, 3) := by decide +kernel
theorem dX1_changeSpot_25 : decode cX1_changeSpot 25 = .ok (.ifCond .ne 6, 3) := by decide +kernel
theorem dX1_changeSpot_28 : decode cX1_changeSpot 28 = .ok (.bipush (-3), 2) := by decide +kernel
theorem dX1_changeSpot_30 : decode cX1_changeSpot 30 = .ok (.ireturn, 1) := by decide +kernel
theorem dX1_changeSpot_31 : decode cX1_changeSpot 31 = .ok (.aload_n 0, 1) := by decide +kernel
theorem dX1_changeSpot_32 : decode cX1_changeSpot 32 = .ok (.iload_n 1, 1) := by decide +kernel
theorem dX1_changeSpot_33 : decode cX1_changeSpot 33 = .ok (.iload_n 2, 1) := by decide +kernel
theorem dX1_changeSpot_34 : decode cX1_changeSpot 34 = .ok (.invokevirtual 115, 3) := by decide +kernel
theorem dX1_changeSpot_37 : decode cX1_changeSpot 37 = .ok (.istore 4, 2) := by decide +kernel
theorem dX1_changeSpot_39 : decode cX1_changeSpot 39 = .ok (.aload_n 0, 1) := by decide +kernel
theorem dX1_changeSpot_40 : decode cX1_changeSpot 40 = .ok (.getfield 30, 3) := by decide +kernel
theorem dX1_changeSpot_43 : decode cX1_changeSpot 43 = .ok (.iload_n 1, 1) := by decide +kernel
theorem dX1_changeSpot_44 : decode cX1_changeSpot 44 = .ok (.iconst 4, 1) := by decide +kernel
theorem dX1_changeSpot_45 : decode cX1_changeSpot 45 = .ok (.imul, 1) := by decide +kernel
theorem dX1_changeSpot_46 : decode cX1_changeSpot 46 = .ok (.iload_n 2, 1) := by decide +kernel
theorem dX1_changeSpot_47 : decode cX1_changeSpot 47 = .ok (.iadd, 1) := by decide +kernel
theorem dX1_changeSpot_48 : decode cX1_changeSpot 48 = .ok (.iload_n 3, 1) := by decide +kernel
theorem dX1_changeSpot_49 : decode cX1_changeSpot 49 = .ok (.invokestatic 56, 3) := by decide +kernel
theorem dX1_changeSpot_52 : decode cX1_changeSpot 52 = .ok (.iconst 0, 1) := by decide +kernel
theorem dX1_changeSpot_53 : decode cX1_changeSpot 53 = .ok (.istore 5, 2) := by decide +kernel
theorem dX1_changeSpot_55 : decode cX1_changeSpot 55 = .ok (.iload 5, 2) := by decide +kernel
theorem dX1_changeSpot_57 : decode cX1_changeSpot 57 = .ok (.aload_n 0, 1) := by decide +kernel
theorem dX1_changeSpot_58 : decode cX1_changeSpot 58 = .ok (.getfield 45, 3) := by decide +kernel
theorem dX1_changeSpot_61 : decode cX1_changeSpot 61 = .ok (.if_icmp .ge 35, 3) := by decide +kernel
theorem dX1_changeSpot_64 : decode cX1_changeSpot 64 = .ok (.iload 4, 2) := by decide +kernel
theorem dX1_changeSpot_66 : decode cX1_changeSpot 66 = .ok (.iload_n 3, 1) := by decide +kernel
theorem dX1_changeSpot_67 : decode cX1_changeSpot 67 = .ok (.if_icmp .eq 29, 3) := by decide +kernel
theorem dX1_changeSpot_70 : decode cX1_changeSpot 70 = .ok (.aload_n 0, 1) := by decide +kernel
theorem dX1_changeSpot_71 : decode cX1_changeSpot 71 = .ok (.getfield 15, 3) := by decide +kernel
theorem dX1_changeSpot_74 : decode cX1_changeSpot 74 = .ok (.iload 5, 2) := by decide +kernel
theorem dX1_changeSpot_76 : decode cX1_changeSpot 76 = .ok (.invokestatic 64, 3) := by decide +kernel
theorem dX1_changeSpot_79 : decode cX1_changeSpot 79 = .ok (.iload_n 1, 1) := by decide +kernel
theorem dX1_changeSpot_80 : decode cX1_changeSpot 80 = .ok (.if_icmp .ne 10, 3) := by decide +kernel
theorem dX1_changeSpot_83 : decode cX1_changeSpot 83 = .ok (.aload_n 0, 1) := by decide +kernel
theorem dX1_changeSpot_84 : decode cX1_changeSpot 84 = .ok (.iload 5, 2) := by decide +kernel
theorem dX1_changeSpot_86 : decode cX1_changeSpot 86 = .ok (.invokevirtual 118, 3) := by decide +kernel
theorem dX1_changeSpot_89 : decode cX1_changeSpot 89 = .ok (.pop, 1) := by decide +kernel
theorem dX1_changeSpot_90 : decode cX1_changeSpot 90 = .ok (.iinc 5 1, 3) := by decide +kernel
theorem dX1_changeSpot_93 : decode cX1_changeSpot 93 = .ok (.goto (-38), 3) := by decide +kernel
theorem dX1_changeSpot_96 : decode cX1_changeSpot 96 = .ok (.iload 4, 2) := by decide +kernel
theorem dX1_changeSpot_98 : decode cX1_changeSpot 98 = .ok (.ireturn, 1) := by decide +kernel
theorem dX1_moveChair_0 : decode cX1_moveChair 0 = .ok (.aload_n 0, 1) := by decide +kernel
theorem dX1_moveChair_1 : decode cX1_moveChair 1 = .ok (.iload_n 1, 1) := by decide +kernel
theorem dX1_moveChair_2 : decode cX1_moveChair 2 = .ok (.invokevirtual 121, 3) := by decide +kernel
theorem dX1_moveChair_5 : decode cX1_moveChair 5 = .ok (.ifCond .eq 11, 3) := by decide +kernel
theorem dX1_moveChair_8 : decode cX1_moveChair 8 = .ok (.aload_n 0, 1) := by decide +kernel
theorem dX1_moveChair_9 : decode cX1_moveChair 9 = .ok (.iload_n 2, 1) := by decide +kernel
theorem dX1_moveChair_10 : decode cX1_moveChair 10 = .ok (.invokevirtual 112, 3) := by decide +kernel
theorem dX1_moveChair_13 : decode cX1_moveChair 13 = .ok (.ifCond .ne 6, 3) := by decide +kernel
theorem dX1_moveChair_16 : decode cX1_moveChair 16 = .ok (.bipush (-2), 2) := by decide +kernel
theorem dX1_moveChair_18 : decode cX1_moveChair 18 = .ok (.ireturn, 1) := by decide +kernel
theorem dX1_moveChair_19 : decode cX1_moveChair 19 = .ok (.iload_n 3, 1) := by decide +kernel
theorem dX1_moveChair_20 : decode cX1_moveChair 20 = .ok (.iconst 0, 1) := by decide +kernel
theorem dX1_moveChair_21 : decode cX1_moveChair 21 = .ok (.iconst 3, 1) := by decide +kernel
theorem dX1_moveChair_22 : decode cX1_moveChair 22 = .ok (.invokestatic 104, 3) := by decide +kernel
theorem dX1_moveChair_25 : decode cX1_moveChair 25 = .ok (.ifCond .ne 6, 3) := by decide +kernel
theorem dX1_moveChair_28 : decode cX1_moveChair 28 = .ok (.bipush (-3), 2) := by decide +kernel
theorem dX1_moveChair_30 : decode cX1_moveChair 30 = .ok (.ireturn, 1) := by decide +kernel
theorem dX1_moveChair_31 : decode cX1_moveChair 31 = .ok (.aload_n 0, 1) := by decide +kernel
theorem dX1_moveChair_32 : decode cX1_moveChair 32 = .ok (.getfield 15, 3) := by decide +kernel
theorem dX1_moveChair_35 : decode cX1_moveChair 35 = .ok (.iload_n 1, 1) := by decide +kernel
theorem dX1_moveChair_36 : decode cX1_moveChair 36 = .ok (.invokestatic 64, 3) := by decide +kernel
theorem dX1_moveChair_39 : decode cX1_moveChair 39 = .ok (.iload_n 2, 1) := by decide +kernel
theorem dX1_moveChair_40 : decode cX1_moveChair 40 = .ok (.if_icmp .ne 15, 3) := by decide +kernel
theorem dX1_moveChair_43 : decode cX1_moveChair 43 = .ok (.aload_n 0, 1) := by decide +kernel
theorem dX1_moveChair_44 : decode cX1_moveChair 44 = .ok (.getfield 18, 3) := by decide +kernel
theorem dX1_moveChair_47 : decode cX1_moveChair 47 = .ok (.iload_n 1, 1) := by decide +kernel
theorem dX1_moveChair_48 : decode cX1_moveChair 48 = .ok (.invokestatic 64, 3) := by decide +kernel
theorem dX1_moveChair_51 : decode cX1_moveChair 51 = .ok (.iload_n 3, 1) := by decide +kernel
theorem dX1_moveChair_52 : decode cX1_moveChair 52 = .ok (.if_icmp .eq 9, 3) := by decide +kernel
theorem dX1_moveChair_55 : decode cX1_moveChair 55 = .ok (.aload_n 0, 1) := by decide +kernel
theorem dX1_moveChair_56 : decode cX1_moveChair 56 = .ok (.iload_n 1, 1) := by decide +kernel
theorem dX1_moveChair_57 : decode cX1_moveChair 57 = .ok (.invokevirtual 118, 3) := by decide +kernel
theorem dX1_moveChair_60 : decode cX1_moveChair 60 = .ok (.pop, 1) := by decide +kernel
theorem dX1_moveChair_61 : decode cX1_moveChair 61 = .ok (.aload_n 0, 1) := by decide +kernel
theorem dX1_moveChair_62 : decode cX1_moveChair 62 = .ok (.getfield 15, 3) := by decide +kernel
theorem dX1_moveChair_65 : decode cX1_moveChair 65 = .ok (.iload_n 1, 1) := by decide +kernel
theorem dX1_moveChair_66 : decode cX1_moveChair 66 = .ok (.iload_n 2, 1) := by decide +kernel
theorem dX1_moveChair_67 : decode cX1_moveChair 67 = .ok (.invokestatic 56, 3) := by decide +kernel
theorem dX1_moveChair_70 : decode cX1_moveChair 70 = .ok (.aload_n 0, 1) := by decide +kernel
theorem dX1_moveChair_71 : decode cX1_moveChair 71 = .ok (.getfield 18, 3) := by decide +kernel
theorem dX1_moveChair_74 : decode cX1_moveChair 74 = .ok (.iload_n 1, 1) := by decide +kernel
theorem dX1_moveChair_75 : decode cX1_moveChair 75 = .ok (.iload_n 3, 1) := by decide +kernel
theorem dX1_moveChair_76 : decode cX1_moveChair 76 = .ok (.invokestatic 56, 3) := by decide +kernel
theorem dX1_moveChair_79 : decode cX1_moveChair 79 = .ok (.aload_n 0, 1) := by decide +kernel
theorem dX1_moveChair_80 : decode cX1_moveChair 80 = .ok (.iload_n 1, 1) := by decide +kernel
theorem dX1_moveChair_81 : decode cX1_moveChair 81 = .ok (.iload_n 2, 1) := by decide +kernel
theorem dX1_moveChair_82 : decode cX1_moveChair 82 = .ok (.iload_n 3, 1) := by decide +kernel
theorem dX1_moveChair_83 : decode cX1_moveChair 83 = .ok (.invokevirtual 72, 3) := by decide +kernel
theorem dX1_moveChair_86 : decode cX1_moveChair 86 = .ok (.ireturn, 1) := by decide +kernel
theorem dX1_sawLeg_0 : decode cX1_sawLeg 0 = .ok (.aload_n 0, 1) := by decide +kernel
theorem dX1_sawLeg_1 : decode cX1_sawLeg 1 = .ok (.iload_n 1, 1) := by decide +kernel
theorem dX1_sawLeg_2 : decode cX1_sawLeg 2 = .ok (.invokevirtual 121, 3) := by decide +kernel
theorem dX1_sawLeg_5 : decode cX1_sawLeg 5 = .ok (.ifCond .eq 12, 3) := by decide +kernel
theorem dX1_sawLeg_8 : decode cX1_sawLeg 8 = .ok (.iload_n 2, 1) := by decide +kernel
theorem dX1_sawLeg_9 : decode cX1_sawLeg 9 = .ok (.iconst 0, 1) := by decide +kernel
theorem dX1_sawLeg_10 : decode cX1_sawLeg 10 = .ok (.iconst 3, 1) := by decide +kernel
theorem dX1_sawLeg_11 : decode cX1_sawLeg 11 = .ok (.invokestatic 104, 3) := by decide +kernel
theorem dX1_sawLeg_14 : decode cX1_sawLeg 14 = .ok (.ifCond .ne 6, 3) := by decide +kernel
theorem dX1_sawLeg_17 : decode cX1_sawLeg 17 = .ok (.bipush (-2), 2) := by decide +kernel
theorem dX1_sawLeg_19 : decode cX1_sawLeg 19 = .ok (.ireturn, 1) := by decide +kernel
theorem dX1_sawLeg_20 : decode cX1_sawLeg 20 = .ok (.iload_n 3, 1) := by decide +kernel
theorem dX1_sawLeg_21 : decode cX1_sawLeg 21 = .ok (.iconst 1, 1) := by decide +kernel
theorem dX1_sawLeg_22 : decode cX1_sawLeg 22 = .ok (.sipush 800, 3) := by decide +kernel
theorem dX1_sawLeg_25 : decode cX1_sawLeg 25 = .ok (.invokestatic 104, 3) := by decide +kernel
theorem dX1_sawLeg_28 : decode cX1_sawLeg 28 = .ok (.ifCond .ne 6, 3) := by decide +kernel
theorem dX1_sawLeg_31 : decode cX1_sawLeg 31 = .ok (.bipush (-3), 2) := by decide +kernel
theorem dX1_sawLeg_33 : decode cX1_sawLeg 33 = .ok (.ireturn, 1) := by decide +kernel
theorem dX1_sawLeg_34 : decode cX1_sawLeg 34 = .ok (.aload_n 0, 1) := by decide +kernel
theorem dX1_sawLeg_35 : decode cX1_sawLeg 35 = .ok (.iload_n 1, 1) := by decide +kernel
theorem dX1_sawLeg_36 : decode cX1_sawLeg 36 = .ok (.iload_n 2, 1) := by decide +kernel
theorem dX1_sawLeg_37 : decode cX1_sawLeg 37 = .ok (.invokevirtual 94, 3) := by decide +kernel
theorem dX1_sawLeg_40 : decode cX1_sawLeg 40 = .ok (.iload_n 3, 1) := by decide +kernel
theorem dX1_sawLeg_41 : decode cX1_sawLeg 41 = .ok (.isub, 1) := by decide +kernel
theorem dX1_sawLeg_42 : decode cX1_sawLeg 42 = .ok (.istore 4, 2) := by decide +kernel
theorem dX1_sawLeg_44 : decode cX1_sawLeg 44 = .ok (.iload 4, 2) := by decide +kernel
theorem dX1_sawLeg_46 : decode cX1_sawLeg 46 = .ok (.bipush 100, 2) := by decide +kernel
theorem dX1_sawLeg_48 : decode cX1_sawLeg 48 = .ok (.if_icmp .ge 6, 3) := by decide +kernel
theorem dX1_sawLeg_51 : decode cX1_sawLeg 51 = .ok (.bipush (-4), 2) := by decide +kernel
theorem dX1_sawLeg_53 : decode cX1_sawLeg 53 = .ok (.ireturn, 1) := by decide +kernel
theorem dX1_sawLeg_54 : decode cX1_sawLeg 54 = .ok (.aload_n 0, 1) := by decide +kernel
theorem dX1_sawLeg_55 : decode cX1_sawLeg 55 = .ok (.getfield 27, 3) := by decide +kernel
theorem dX1_sawLeg_58 : decode cX1_sawLeg 58 = .ok (.iload_n 1, 1) := by decide +kernel
theorem dX1_sawLeg_59 : decode cX1_sawLeg 59 = .ok (.iconst 4, 1) := by decide +kernel
theorem dX1_sawLeg_60 : decode cX1_sawLeg 60 = .ok (.imul, 1) := by decide +kernel
theorem dX1_sawLeg_61 : decode cX1_sawLeg 61 = .ok (.iload_n 2, 1) := by decide +kernel
theorem dX1_sawLeg_62 : decode cX1_sawLeg 62 = .ok (.iadd, 1) := by decide +kernel
theorem dX1_sawLeg_63 : decode cX1_sawLeg 63 = .ok (.iload 4, 2) := by decide +kernel
theorem dX1_sawLeg_65 : decode cX1_sawLeg 65 = .ok (.invokestatic 56, 3) := by decide +kernel
theorem dX1_sawLeg_68 : decode cX1_sawLeg 68 = .ok (.aload_n 0, 1) := by decide +kernel
theorem dX1_sawLeg_69 : decode cX1_sawLeg 69 = .ok (.iload_n 1, 1) := by decide +kernel
theorem dX1_sawLeg_70 : decode cX1_sawLeg 70 = .ok (.invokevirtual 118, 3) := by decide +kernel
theorem dX1_sawLeg_73 : decode cX1_sawLeg 73 = .ok (.pop, 1) := by decide +kernel
theorem dX1_sawLeg_74 : decode cX1_sawLeg 74 = .ok (.aload_n 0, 1) := by decide +kernel
theorem dX1_sawLeg_75 : decode cX1_sawLeg 75 = .ok (.bipush 8, 2) := by decide +kernel
theorem dX1_sawLeg_77 : decode cX1_sawLeg 77 = .ok (.iload_n 3, 1) := by decide +kernel
theorem dX1_sawLeg_78 : decode cX1_sawLeg 78 = .ok (.invokevirtual 124, 3) := by decide +kernel
theorem dX1_sawLeg_81 : decode cX1_sawLeg 81 = .ok (.iload 4, 2) := by decide +kernel
theorem dX1_sawLeg_83 : decode cX1_sawLeg 83 = .ok (.ireturn, 1) := by decide +kernel
theorem dX1_shimLeg_0 : decode cX1_shimLeg 0 = .ok (.aload_n 0, 1) := by decide +kernel
theorem dX1_shimLeg_1 : decode cX1_shimLeg 1 = .ok (.iload_n 1, 1) := by decide +kernel
theorem dX1_shimLeg_2 : decode cX1_shimLeg 2 = .ok (.invokevirtual 121, 3) := by decide +kernel
theorem dX1_shimLeg_5 : decode cX1_shimLeg 5 = .ok (.ifCond .eq 12, 3) := by decide +kernel
theorem dX1_shimLeg_8 : decode cX1_shimLeg 8 = .ok (.iload_n 2, 1) := by decide +kernel
theorem dX1_shimLeg_9 : decode cX1_shimLeg 9 = .ok (.iconst 0, 1) := by decide +kernel
theorem dX1_shimLeg_10 : decode cX1_shimLeg 10 = .ok (.iconst 3, 1) := by decide +kernel
theorem dX1_shimLeg_11 : decode cX1_shimLeg 11 = .ok (.invokestatic 104, 3) := by decide +kernel
theorem dX1_shimLeg_14 : decode cX1_shimLeg 14 = .ok (.ifCond .ne 6, 3) := by decide +kernel
theorem dX1_shimLeg_17 : decode cX1_shimLeg 17 = .ok (.bipush (-2), 2) := by decide +kernel
theorem dX1_shimLeg_19 : decode cX1_shimLeg 19 = .ok (.ireturn, 1) := by decide +kernel
theorem dX1_shimLeg_20 : decode cX1_shimLeg 20 = .ok (.iload_n 3, 1) := by decide +kernel
theorem dX1_shimLeg_21 : decode cX1_shimLeg 21 = .ok (.iconst 1, 1) := by decide +kernel
theorem dX1_shimLeg_22 : decode cX1_shimLeg 22 = .ok (.bipush 99, 2) := by decide +kernel
theorem dX1_shimLeg_24 : decode cX1_shimLeg 24 = .ok (.invokestatic 104, 3) := by decide +kernel
theorem dX1_shimLeg_27 : decode cX1_shimLeg 27 = .ok (.ifCond .ne 6, 3) := by decide +kernel
theorem dX1_shimLeg_30 : decode cX1_shimLeg 30 = .ok (.bipush (-3), 2) := by decide +kernel
theorem dX1_shimLeg_32 : decode cX1_shimLeg 32 = .ok (.ireturn, 1) := by decide +kernel
theorem dX1_shimLeg_33 : decode cX1_shimLeg 33 = .ok (.aload_n 0, 1) := by decide +kernel
theorem dX1_shimLeg_34 : decode cX1_shimLeg 34 = .ok (.iload_n 1, 1) := by decide +kernel
theorem dX1_shimLeg_35 : decode cX1_shimLeg 35 = .ok (.iload_n 2, 1) := by decide +kernel
theorem dX1_shimLeg_36 : decode cX1_shimLeg 36 = .ok (.invokevirtual 94, 3) := by decide +kernel
theorem dX1_shimLeg_39 : decode cX1_shimLeg 39 = .ok (.iload_n 3, 1) := by decide +kernel
theorem dX1_shimLeg_40 : decode cX1_shimLeg 40 = .ok (.iadd, 1) := by decide +kernel
theorem dX1_shimLeg_41 : decode cX1_shimLeg 41 = .ok (.istore 4, 2) := by decide +kernel
theorem dX1_shimLeg_43 : decode cX1_shimLeg 43 = .ok (.iload 4, 2) := by decide +kernel
theorem dX1_shimLeg_45 : decode cX1_shimLeg 45 = .ok (.sipush 900, 3) := by decide +kernel
theorem dX1_shimLeg_48 : decode cX1_shimLeg 48 = .ok (.if_icmp .le 6, 3) := by decide +kernel
theorem dX1_shimLeg_51 : decode cX1_shimLeg 51 = .ok (.bipush (-4), 2) := by decide +kernel
theorem dX1_shimLeg_53 : decode cX1_shimLeg 53 = .ok (.ireturn, 1) := by decide +kernel
theorem dX1_shimLeg_54 : decode cX1_shimLeg 54 = .ok (.aload_n 0, 1) := by decide +kernel
theorem dX1_shimLeg_55 : decode cX1_shimLeg 55 = .ok (.getfield 27, 3) := by decide +kernel
theorem dX1_shimLeg_58 : decode cX1_shimLeg 58 = .ok (.iload_n 1, 1) := by decide +kernel
theorem dX1_shimLeg_59 : decode cX1_shimLeg 59 = .ok (.iconst 4, 1) := by decide +kernel
theorem dX1_shimLeg_60 : decode cX1_shimLeg 60 = .ok (.imul, 1) := by decide +kernel
theorem dX1_shimLeg_61 : decode cX1_shimLeg 61 = .ok (.iload_n 2, 1) := by decide +kernel
theorem dX1_shimLeg_62 : decode cX1_shimLeg 62 = .ok (.iadd, 1) := by decide +kernel
theorem dX1_shimLeg_63 : decode cX1_shimLeg 63 = .ok (.iload 4, 2) := by decide +kernel
theorem dX1_shimLeg_65 : decode cX1_shimLeg 65 = .ok (.invokestatic 56, 3) := by decide +kernel
theorem dX1_shimLeg_68 : decode cX1_shimLeg 68 = .ok (.aload_n 0, 1) := by decide +kernel
theorem dX1_shimLeg_69 : decode cX1_shimLeg 69 = .ok (.iload_n 1, 1) := by decide +kernel
theorem dX1_shimLeg_70 : decode cX1_shimLeg 70 = .ok (.invokevirtual 118, 3) := by decide +kernel
theorem dX1_shimLeg_73 : decode cX1_shimLeg 73 = .ok (.pop, 1) := by decide +kernel
theorem dX1_shimLeg_74 : decode cX1_shimLeg 74 = .ok (.aload_n 0, 1) := by decide +kernel
theorem dX1_shimLeg_75 : decode cX1_shimLeg 75 = .ok (.bipush 9, 2) := by decide +kernel
theorem dX1_shimLeg_77 : decode cX1_shimLeg 77 = .ok (.iload_n 3, 1) := by decide +kernel
theorem dX1_shimLeg_78 : decode cX1_shimLeg 78 = .ok (.invokevirtual 124, 3) := by decide +kernel
theorem dX1_shimLeg_81 : decode cX1_shimLeg 81 = .ok (.iload 4, 2) := by decide +kernel
theorem dX1_shimLeg_83 : decode cX1_shimLeg 83 = .ok (.ireturn, 1) := by decide +kernel
theorem dX1_testChair_0 : decode cX1_testChair 0 = .ok (.aload_n 0, 1) := by decide +kernel
theorem dX1_testChair_1 : decode cX1_testChair 1 = .ok (.iload_n 1, 1) := by decide +kernel
theorem dX1_testChair_2 : decode cX1_testChair 2 = .ok (.invokevirtual 121, 3) := by decide +kernel
theorem dX1_testChair_5 : decode cX1_testChair 5 = .ok (.ifCond .ne 6, 3) := by decide +kernel
theorem dX1_testChair_8 : decode cX1_testChair 8 = .ok (.bipush (-2), 2) := by decide +kernel
theorem dX1_testChair_10 : decode cX1_testChair 10 = .ok (.ireturn, 1) := by decide +kernel
theorem dX1_testChair_11 : decode cX1_testChair 11 = .ok (.aload_n 0, 1) := by decide +kernel
theorem dX1_testChair_12 : decode cX1_testChair 12 = .ok (.iconst 3, 1) := by decide +kernel
theorem dX1_testChair_13 : decode cX1_testChair 13 = .ok (.iconst 1, 1) := by decide +kernel
theorem dX1_testChair_14 : decode cX1_testChair 14 = .ok (.invokevirtual 124, 3) := by decide +kernel
theorem dX1_testChair_17 : decode cX1_testChair 17 = .ok (.aload_n 0, 1) := by decide +kernel
theorem dX1_testChair_18 : decode cX1_testChair 18 = .ok (.bipush 6, 2) := by decide +kernel
theorem dX1_testChair_20 : decode cX1_testChair 20 = .ok (.aload_n 0, 1) := by decide +kernel
theorem dX1_testChair_21 : decode cX1_testChair 21 = .ok (.getfield 36, 3) := by decide +kernel
theorem dX1_testChair_24 : decode cX1_testChair 24 = .ok (.iconst 0, 1) := by decide +kernel
theorem dX1_testChair_25 : decode cX1_testChair 25 = .ok (.invokestatic 64, 3) := by decide +kernel
theorem dX1_testChair_28 : decode cX1_testChair 28 = .ok (.invokevirtual 124, 3) := by decide +kernel
theorem dX1_testChair_31 : decode cX1_testChair 31 = .ok (.aload_n 0, 1) := by decide +kernel
theorem dX1_testChair_32 : decode cX1_testChair 32 = .ok (.iload_n 1, 1) := by decide +kernel
theorem dX1_testChair_33 : decode cX1_testChair 33 = .ok (.invokevirtual 128, 3) := by decide +kernel
theorem dX1_testChair_36 : decode cX1_testChair 36 = .ok (.istore_n 2, 1) := by decide +kernel
theorem dX1_testChair_37 : decode cX1_testChair 37 = .ok (.iload_n 2, 1) := by decide +kernel
theorem dX1_testChair_38 : decode cX1_testChair 38 = .ok (.ifCond .ne 29, 3) := by decide +kernel
theorem dX1_testChair_41 : decode cX1_testChair 41 = .ok (.aload_n 0, 1) := by decide +kernel
theorem dX1_testChair_42 : decode cX1_testChair 42 = .ok (.getfield 21, 3) := by decide +kernel
theorem dX1_testChair_45 : decode cX1_testChair 45 = .ok (.iload_n 1, 1) := by decide +kernel
theorem dX1_testChair_46 : decode cX1_testChair 46 = .ok (.invokestatic 64, 3) := by decide +kernel
theorem dX1_testChair_49 : decode cX1_testChair 49 = .ok (.ifCond .ne 18, 3) := by decide +kernel
theorem dX1_testChair_52 : decode cX1_testChair 52 = .ok (.aload_n 0, 1) := by decide +kernel
theorem dX1_testChair_53 : decode cX1_testChair 53 = .ok (.getfield 21, 3) := by decide +kernel
theorem dX1_testChair_56 : decode cX1_testChair 56 = .ok (.iload_n 1, 1) := by decide +kernel
theorem dX1_testChair_57 : decode cX1_testChair 57 = .ok (.iconst 1, 1) := by decide +kernel
theorem dX1_testChair_58 : decode cX1_testChair 58 = .ok (.invokestatic 56, 3) := by decide +kernel
theorem dX1_testChair_61 : decode cX1_testChair 61 = .ok (.aload_n 0, 1) := by decide +kernel
theorem dX1_testChair_62 : decode cX1_testChair 62 = .ok (.iconst 4, 1) := by decide +kernel
theorem dX1_testChair_63 : decode cX1_testChair 63 = .ok (.iconst 1, 1) := by decide +kernel
theorem dX1_testChair_64 : decode cX1_testChair 64 = .ok (.invokevirtual 124, 3) := by decide +kernel
theorem dX1_testChair_67 : decode cX1_testChair 67 = .ok (.iload_n 2, 1) := by decide +kernel
theorem dX1_testChair_68 : decode cX1_testChair 68 = .ok (.ireturn, 1) := by decide +kernel
theorem dX1_sitDown_0 : decode cX1_sitDown 0 = .ok (.aload_n 0, 1) := by decide +kernel
theorem dX1_sitDown_1 : decode cX1_sitDown 1 = .ok (.iload_n 1, 1) := by decide +kernel
theorem dX1_sitDown_2 : decode cX1_sitDown 2 = .ok (.invokevirtual 121, 3) := by decide +kernel
theorem dX1_sitDown_5 : decode cX1_sitDown 5 = .ok (.ifCond .ne 6, 3) := by decide +kernel
theorem dX1_sitDown_8 : decode cX1_sitDown 8 = .ok (.bipush (-2), 2) := by decide +kernel
theorem dX1_sitDown_10 : decode cX1_sitDown 10 = .ok (.ireturn, 1) := by decide +kernel
theorem dX1_sitDown_11 : decode cX1_sitDown 11 = .ok (.iload_n 2, 1) := by decide +kernel
theorem dX1_sitDown_12 : decode cX1_sitDown 12 = .ok (.iconst 1, 1) := by decide +kernel
theorem dX1_sitDown_13 : decode cX1_sitDown 13 = .ok (.sipush 200, 3) := by decide +kernel
theorem dX1_sitDown_16 : decode cX1_sitDown 16 = .ok (.invokestatic 104, 3) := by decide +kernel
theorem dX1_sitDown_19 : decode cX1_sitDown 19 = .ok (.ifCond .ne 6, 3) := by decide +kernel
theorem dX1_sitDown_22 : decode cX1_sitDown 22 = .ok (.bipush (-3), 2) := by decide +kernel
theorem dX1_sitDown_24 : decode cX1_sitDown 24 = .ok (.ireturn, 1) := by decide +kernel
theorem dX1_sitDown_25 : decode cX1_sitDown 25 = .ok (.aload_n 0, 1) := by decide +kernel
theorem dX1_sitDown_26 : decode cX1_sitDown 26 = .ok (.getfield 24, 3) := by decide +kernel
theorem dX1_sitDown_29 : decode cX1_sitDown 29 = .ok (.iload_n 1, 1) := by decide +kernel
theorem dX1_sitDown_30 : decode cX1_sitDown 30 = .ok (.aload_n 0, 1) := by decide +kernel
theorem dX1_sitDown_31 : decode cX1_sitDown 31 = .ok (.getfield 24, 3) := by decide +kernel
theorem dX1_sitDown_34 : decode cX1_sitDown 34 = .ok (.iload_n 1, 1) := by decide +kernel
theorem dX1_sitDown_35 : decode cX1_sitDown 35 = .ok (.invokestatic 64, 3) := by decide +kernel
theorem dX1_sitDown_38 : decode cX1_sitDown 38 = .ok (.iconst 1, 1) := by decide +kernel
theorem dX1_sitDown_39 : decode cX1_sitDown 39 = .ok (.iadd, 1) := by decide +kernel
theorem dX1_sitDown_40 : decode cX1_sitDown 40 = .ok (.invokestatic 56, 3) := by decide +kernel
theorem dX1_sitDown_43 : decode cX1_sitDown 43 = .ok (.aload_n 0, 1) := by decide +kernel
theorem dX1_sitDown_44 : decode cX1_sitDown 44 = .ok (.bipush 7, 2) := by decide +kernel
theorem dX1_sitDown_46 : decode cX1_sitDown 46 = .ok (.iconst 1, 1) := by decide +kernel
theorem dX1_sitDown_47 : decode cX1_sitDown 47 = .ok (.invokevirtual 124, 3) := by decide +kernel
theorem dX1_sitDown_50 : decode cX1_sitDown 50 = .ok (.aload_n 0, 1) := by decide +kernel
theorem dX1_sitDown_51 : decode cX1_sitDown 51 = .ok (.iload_n 1, 1) := by decide +kernel
theorem dX1_sitDown_52 : decode cX1_sitDown 52 = .ok (.invokevirtual 131, 3) := by decide +kernel
theorem dX1_sitDown_55 : decode cX1_sitDown 55 = .ok (.istore_n 3, 1) := by decide +kernel
theorem dX1_sitDown_56 : decode cX1_sitDown 56 = .ok (.aload_n 0, 1) := by decide +kernel
theorem dX1_sitDown_57 : decode cX1_sitDown 57 = .ok (.iload_n 2, 1) := by decide +kernel
theorem dX1_sitDown_58 : decode cX1_sitDown 58 = .ok (.invokevirtual 134, 3) := by decide +kernel
theorem dX1_sitDown_61 : decode cX1_sitDown 61 = .ok (.istore 4, 2) := by decide +kernel
theorem dX1_sitDown_63 : decode cX1_sitDown 63 = .ok (.iconst 0, 1) := by decide +kernel
theorem dX1_sitDown_64 : decode cX1_sitDown 64 = .ok (.istore 5, 2) := by decide +kernel
theorem dX1_sitDown_66 : decode cX1_sitDown 66 = .ok (.iconst 0, 1) := by decide +kernel
theorem dX1_sitDown_67 : decode cX1_sitDown 67 = .ok (.istore 6, 2) := by decide +kernel
theorem dX1_sitDown_69 : decode cX1_sitDown 69 = .ok (.iload 6, 2) := by decide +kernel
theorem dX1_sitDown_71 : decode cX1_sitDown 71 = .ok (.iconst 4, 1) := by decide +kernel
theorem dX1_sitDown_72 : decode cX1_sitDown 72 = .ok (.if_icmp .ge 29, 3) := by decide +kernel
theorem dX1_sitDown_75 : decode cX1_sitDown 75 = .ok (.iload 6, 2) := by decide +kernel
theorem dX1_sitDown_77 : decode cX1_sitDown 77 = .ok (.iload_n 3, 1) := by decide +kernel
theorem dX1_sitDown_78 : decode cX1_sitDown 78 = .ok (.if_icmp .eq 17, 3) := by decide +kernel
theorem dX1_sitDown_81 : decode cX1_sitDown 81 = .ok (.iload 5, 2) := by decide +kernel
theorem dX1_sitDown_83 : decode cX1_sitDown 83 = .ok (.aload_n 0, 1) := by decide +kernel
theorem dX1_sitDown_84 : decode cX1_sitDown 84 = .ok (.iload_n 1, 1) := by decide +kernel
theorem dX1_sitDown_85 : decode cX1_sitDown 85 = .ok (.iload 6, 2) := by decide +kernel
theorem dX1_sitDown_87 : decode cX1_sitDown 87 = .ok (.iload 4, 2) := by decide +kernel
theorem dX1_sitDown_89 : decode cX1_sitDown 89 = .ok (.invokevirtual 137, 3) := by decide +kernel
theorem dX1_sitDown_92 : decode cX1_sitDown 92 = .ok (.iadd, 1) := by decide +kernel
theorem dX1_sitDown_93 : decode cX1_sitDown 93 = .ok (.istore 5, 2) := by decide +kernel
theorem dX1_sitDown_95 : decode cX1_sitDown 95 = .ok (.iinc 6 1, 3) := by decide +kernel
theorem dX1_sitDown_98 : decode cX1_sitDown 98 = .ok (.goto (-29), 3) := by decide +kernel
theorem dX1_sitDown_101 : decode cX1_sitDown 101 = .ok (.aload_n 0, 1) := by decide +kernel
theorem dX1_sitDown_102 : decode cX1_sitDown 102 = .ok (.bipush 10, 2) := by decide +kernel
theorem dX1_sitDown_104 : decode cX1_sitDown 104 = .ok (.iload 5, 2) := by decide +kernel
theorem dX1_sitDown_106 : decode cX1_sitDown 106 = .ok (.invokevirtual 124, 3) := by decide +kernel
theorem dX1_sitDown_109 : decode cX1_sitDown 109 = .ok (.iload 5, 2) := by decide +kernel
theorem dX1_sitDown_111 : decode cX1_sitDown 111 = .ok (.ireturn, 1) := by decide +kernel
theorem dX1_wearOf_0 : decode cX1_wearOf 0 = .ok (.aload_n 0, 1) := by decide +kernel
theorem dX1_wearOf_1 : decode cX1_wearOf 1 = .ok (.getfield 36, 3) := by decide +kernel
theorem dX1_wearOf_4 : decode cX1_wearOf 4 = .ok (.iconst 1, 1) := by decide +kernel
theorem dX1_wearOf_5 : decode cX1_wearOf 5 = .ok (.invokestatic 64, 3) := by decide +kernel
theorem dX1_wearOf_8 : decode cX1_wearOf 8 = .ok (.istore_n 2, 1) := by decide +kernel
theorem dX1_wearOf_9 : decode cX1_wearOf 9 = .ok (.iload_n 2, 1) := by decide +kernel
theorem dX1_wearOf_10 : decode cX1_wearOf 10 = .ok (.iconst 1, 1) := by decide +kernel
theorem dX1_wearOf_11 : decode cX1_wearOf 11 = .ok (.if_icmp .ge 7, 3) := by decide +kernel
theorem dX1_wearOf_14 : decode cX1_wearOf 14 = .ok (.iconst 0, 1) := by decide +kernel
theorem dX1_wearOf_15 : decode cX1_wearOf 15 = .ok (.goto 6, 3) := by decide +kernel
theorem dX1_wearOf_18 : decode cX1_wearOf 18 = .ok (.iload_n 1, 1) := by decide +kernel
theorem dX1_wearOf_19 : decode cX1_wearOf 19 = .ok (.iload_n 2, 1) := by decide +kernel
theorem dX1_wearOf_20 : decode cX1_wearOf 20 = .ok (.idiv, 1) := by decide +kernel
theorem dX1_wearOf_21 : decode cX1_wearOf 21 = .ok (.ireturn, 1) := by decide +kernel
theorem dX1_wearLeg_0 : decode cX1_wearLeg 0 = .ok (.aload_n 0, 1) := by decide +kernel
theorem dX1_wearLeg_1 : decode cX1_wearLeg 1 = .ok (.iload_n 1, 1) := by decide +kernel
theorem dX1_wearLeg_2 : decode cX1_wearLeg 2 = .ok (.iload_n 2, 1) := by decide +kernel
theorem dX1_wearLeg_3 : decode cX1_wearLeg 3 = .ok (.invokevirtual 94, 3) := by decide +kernel
theorem dX1_wearLeg_6 : decode cX1_wearLeg 6 = .ok (.istore 4, 2) := by decide +kernel
theorem dX1_wearLeg_8 : decode cX1_wearLeg 8 = .ok (.iload_n 3, 1) := by decide +kernel
theorem dX1_wearLeg_9 : decode cX1_wearLeg 9 = .ok (.iload 4, 2) := by decide +kernel
theorem dX1_wearLeg_11 : decode cX1_wearLeg 11 = .ok (.bipush 100, 2) := by decide +kernel
theorem dX1_wearLeg_13 : decode cX1_wearLeg 13 = .ok (.isub, 1) := by decide +kernel
theorem dX1_wearLeg_14 : decode cX1_wearLeg 14 = .ok (.invokestatic 76, 3) := by decide +kernel
theorem dX1_wearLeg_17 : decode cX1_wearLeg 17 = .ok (.istore 5, 2) := by decide +kernel
theorem dX1_wearLeg_19 : decode cX1_wearLeg 19 = .ok (.iload 5, 2) := by decide +kernel
theorem dX1_wearLeg_21 : decode cX1_wearLeg 21 = .ok (.ifCond .gt 5, 3) := by decide +kernel
theorem dX1_wearLeg_24 : decode cX1_wearLeg 24 = .ok (.iconst 0, 1) := by decide +kernel
theorem dX1_wearLeg_25 : decode cX1_wearLeg 25 = .ok (.ireturn, 1) := by decide +kernel
theorem dX1_wearLeg_26 : decode cX1_wearLeg 26 = .ok (.aload_n 0, 1) := by decide +kernel
theorem dX1_wearLeg_27 : decode cX1_wearLeg 27 = .ok (.getfield 27, 3) := by decide +kernel
theorem dX1_wearLeg_30 : decode cX1_wearLeg 30 = .ok (.iload_n 1, 1) := by decide +kernel
theorem dX1_wearLeg_31 : decode cX1_wearLeg 31 = .ok (.iconst 4, 1) := by decide +kernel
theorem dX1_wearLeg_32 : decode cX1_wearLeg 32 = .ok (.imul, 1) := by decide +kernel
theorem dX1_wearLeg_33 : decode cX1_wearLeg 33 = .ok (.iload_n 2, 1) := by decide +kernel
theorem dX1_wearLeg_34 : decode cX1_wearLeg 34 = .ok (.iadd, 1) := by decide +kernel
theorem dX1_wearLeg_35 : decode cX1_wearLeg 35 = .ok (.iload 4, 2) := by decide +kernel
theorem dX1_wearLeg_37 : decode cX1_wearLeg 37 = .ok (.iload 5, 2) := by decide +kernel
theorem dX1_wearLeg_39 : decode cX1_wearLeg 39 = .ok (.isub, 1) := by decide +kernel
theorem dX1_wearLeg_40 : decode cX1_wearLeg 40 = .ok (.invokestatic 56, 3) := by decide +kernel
theorem dX1_wearLeg_43 : decode cX1_wearLeg 43 = .ok (.aload_n 0, 1) := by decide +kernel
theorem dX1_wearLeg_44 : decode cX1_wearLeg 44 = .ok (.iload_n 1, 1) := by decide +kernel
theorem dX1_wearLeg_45 : decode cX1_wearLeg 45 = .ok (.invokevirtual 118, 3) := by decide +kernel
theorem dX1_wearLeg_48 : decode cX1_wearLeg 48 = .ok (.pop, 1) := by decide +kernel
theorem dX1_wearLeg_49 : decode cX1_wearLeg 49 = .ok (.iload 5, 2) := by decide +kernel
theorem dX1_wearLeg_51 : decode cX1_wearLeg 51 = .ok (.ireturn, 1) := by decide +kernel
theorem dX1_changeBound_0 : decode cX1_changeBound 0 = .ok (.iload_n 1, 1) := by decide +kernel
theorem dX1_changeBound_1 : decode cX1_changeBound 1 = .ok (.iconst 0, 1) := by decide +kernel
theorem dX1_changeBound_2 : decode cX1_changeBound 2 = .ok (.iconst 3, 1) := by decide +kernel
theorem dX1_changeBound_3 : decode cX1_changeBound 3 = .ok (.invokestatic 104, 3) := by decide +kernel
theorem dX1_changeBound_6 : decode cX1_changeBound 6 = .ok (.ifCond .eq 12, 3) := by decide +kernel
theorem dX1_changeBound_9 : decode cX1_changeBound 9 = .ok (.iload_n 2, 1) := by decide +kernel
theorem dX1_changeBound_10 : decode cX1_changeBound 10 = .ok (.iconst 0, 1) := by decide +kernel
theorem dX1_changeBound_11 : decode cX1_changeBound 11 = .ok (.iconst 3, 1) := by decide +kernel
theorem dX1_changeBound_12 : decode cX1_changeBound 12 = .ok (.invokestatic 104, 3) := by decide +kernel
theorem dX1_changeBound_15 : decode cX1_changeBound 15 = .ok (.ifCond .ne 6, 3) := by decide +kernel
theorem dX1_changeBound_18 : decode cX1_changeBound 18 = .ok (.bipush (-2), 2) := by decide +kernel
theorem dX1_changeBound_20 : decode cX1_changeBound 20 = .ok (.ireturn, 1) := by decide +kernel
theorem dX1_changeBound_21 : decode cX1_changeBound 21 = .ok (.aload_n 0, 1) := by decide +kernel
theorem dX1_changeBound_22 : decode cX1_changeBound 22 = .ok (.iload_n 2, 1) := by decide +kernel
theorem dX1_changeBound_23 : decode cX1_changeBound 23 = .ok (.iload_n 3, 1) := by decide +kernel
theorem dX1_changeBound_24 : decode cX1_changeBound 24 = .ok (.invokevirtual 140, 3) := by decide +kernel
theorem dX1_changeBound_27 : decode cX1_changeBound 27 = .ok (.ifCond .ne 6, 3) := by decide +kernel
theorem dX1_changeBound_30 : decode cX1_changeBound 30 = .ok (.bipush (-3), 2) := by decide +kernel
theorem dX1_changeBound_32 : decode cX1_changeBound 32 = .ok (.ireturn, 1) := by decide +kernel
theorem dX1_changeBound_33 : decode cX1_changeBound 33 = .ok (.aload_n 0, 1) := by decide +kernel
theorem dX1_changeBound_34 : decode cX1_changeBound 34 = .ok (.getfield 33, 3) := by decide +kernel
theorem dX1_changeBound_37 : decode cX1_changeBound 37 = .ok (.iload_n 1, 1) := by decide +kernel
theorem dX1_changeBound_38 : decode cX1_changeBound 38 = .ok (.iconst 4, 1) := by decide +kernel
theorem dX1_changeBound_39 : decode cX1_changeBound 39 = .ok (.imul, 1) := by decide +kernel
theorem dX1_changeBound_40 : decode cX1_changeBound 40 = .ok (.iload_n 2, 1) := by decide +kernel
theorem dX1_changeBound_41 : decode cX1_changeBound 41 = .ok (.iadd, 1) := by decide +kernel
theorem dX1_changeBound_42 : decode cX1_changeBound 42 = .ok (.iload_n 3, 1) := by decide +kernel
theorem dX1_changeBound_43 : decode cX1_changeBound 43 = .ok (.invokestatic 56, 3) := by decide +kernel
theorem dX1_changeBound_46 : decode cX1_changeBound 46 = .ok (.iconst 0, 1) := by decide +kernel
theorem dX1_changeBound_47 : decode cX1_changeBound 47 = .ok (.istore 4, 2) := by decide +kernel
theorem dX1_changeBound_49 : decode cX1_changeBound 49 = .ok (.iconst 0, 1) := by decide +kernel
theorem dX1_changeBound_50 : decode cX1_changeBound 50 = .ok (.istore 5, 2) := by decide +kernel
theorem dX1_changeBound_52 : decode cX1_changeBound 52 = .ok (.iload 5, 2) := by decide +kernel
theorem dX1_changeBound_54 : decode cX1_changeBound 54 = .ok (.aload_n 0, 1) := by decide +kernel
theorem dX1_changeBound_55 : decode cX1_changeBound 55 = .ok (.getfield 45, 3) := by decide +kernel
theorem dX1_changeBound_58 : decode cX1_changeBound 58 = .ok (.if_icmp .ge 42, 3) := by decide +kernel
theorem dX1_changeBound_61 : decode cX1_changeBound 61 = .ok (.aload_n 0, 1) := by decide +kernel
theorem dX1_changeBound_62 : decode cX1_changeBound 62 = .ok (.getfield 9, 3) := by decide +kernel
theorem dX1_changeBound_65 : decode cX1_changeBound 65 = .ok (.iload 5, 2) := by decide +kernel
theorem dX1_changeBound_67 : decode cX1_changeBound 67 = .ok (.invokestatic 64, 3) := by decide +kernel
theorem dX1_changeBound_70 : decode cX1_changeBound 70 = .ok (.iload_n 1, 1) := by decide +kernel
theorem dX1_changeBound_71 : decode cX1_changeBound 71 = .ok (.if_icmp .ne 23, 3) := by decide +kernel
theorem dX1_changeBound_74 : decode cX1_changeBound 74 = .ok (.aload_n 0, 1) := by decide +kernel
theorem dX1_changeBound_75 : decode cX1_changeBound 75 = .ok (.iload 5, 2) := by decide +kernel
theorem dX1_changeBound_77 : decode cX1_changeBound 77 = .ok (.invokevirtual 128, 3) := by decide +kernel
theorem dX1_changeBound_80 : decode cX1_changeBound 80 = .ok (.ifCond .eq 14, 3) := by decide +kernel
theorem dX1_changeBound_83 : decode cX1_changeBound 83 = .ok (.iload 4, 2) := by decide +kernel
theorem dX1_changeBound_85 : decode cX1_changeBound 85 = .ok (.aload_n 0, 1) := by decide +kernel
theorem dX1_changeBound_86 : decode cX1_changeBound 86 = .ok (.iload 5, 2) := by decide +kernel
theorem dX1_changeBound_88 : decode cX1_changeBound 88 = .ok (.invokevirtual 118, 3) := by decide +kernel
theorem dX1_changeBound_91 : decode cX1_changeBound 91 = .ok (.iadd, 1) := by decide +kernel
theorem dX1_changeBound_92 : decode cX1_changeBound 92 = .ok (.istore 4, 2) := by decide +kernel
theorem dX1_changeBound_94 : decode cX1_changeBound 94 = .ok (.iinc 5 1, 3) := by decide +kernel
theorem dX1_changeBound_97 : decode cX1_changeBound 97 = .ok (.goto (-45), 3) := by decide +kernel
theorem dX1_changeBound_100 : decode cX1_changeBound 100 = .ok (.iload 4, 2) := by decide +kernel
theorem dX1_changeBound_102 : decode cX1_changeBound 102 = .ok (.ireturn, 1) := by decide +kernel
theorem dX1_isBound_0 : decode cX1_isBound 0 = .ok (.iload_n 1, 1) := by decide +kernel
theorem dX1_isBound_1 : decode cX1_isBound 1 = .ok (.tableswitch 58 0 3 #[31, 31, 41, 49], 31) := by decide +kernel
theorem dX1_isBound_32 : decode cX1_isBound 32 = .ok (.iload_n 2, 1) := by decide +kernel
theorem dX1_isBound_33 : decode cX1_isBound 33 = .ok (.bipush 100, 2) := by decide +kernel
theorem dX1_isBound_35 : decode cX1_isBound 35 = .ok (.sipush 900, 3) := by decide +kernel
theorem dX1_isBound_38 : decode cX1_isBound 38 = .ok (.invokestatic 104, 3) := by decide +kernel
theorem dX1_isBound_41 : decode cX1_isBound 41 = .ok (.ireturn, 1) := by decide +kernel
theorem dX1_isBound_42 : decode cX1_isBound 42 = .ok (.iload_n 2, 1) := by decide +kernel
theorem dX1_isBound_43 : decode cX1_isBound 43 = .ok (.iconst 0, 1) := by decide +kernel
theorem dX1_isBound_44 : decode cX1_isBound 44 = .ok (.bipush 100, 2) := by decide +kernel
theorem dX1_isBound_46 : decode cX1_isBound 46 = .ok (.invokestatic 104, 3) := by decide +kernel
theorem dX1_isBound_49 : decode cX1_isBound 49 = .ok (.ireturn, 1) := by decide +kernel
theorem dX1_isBound_50 : decode cX1_isBound 50 = .ok (.iload_n 2, 1) := by decide +kernel
theorem dX1_isBound_51 : decode cX1_isBound 51 = .ok (.iconst 0, 1) := by decide +kernel
theorem dX1_isBound_52 : decode cX1_isBound 52 = .ok (.sipush 200, 3) := by decide +kernel
theorem dX1_isBound_55 : decode cX1_isBound 55 = .ok (.invokestatic 104, 3) := by decide +kernel
theorem dX1_isBound_58 : decode cX1_isBound 58 = .ok (.ireturn, 1) := by decide +kernel
theorem dX1_isBound_59 : decode cX1_isBound 59 = .ok (.iconst 0, 1) := by decide +kernel
theorem dX1_isBound_60 : decode cX1_isBound 60 = .ok (.ireturn, 1) := by decide +kernel
theorem dX1_changeSetting_0 : decode cX1_changeSetting 0 = .ok (.iload_n 1, 1) := by decide +kernel
theorem dX1_changeSetting_1 : decode cX1_changeSetting 1 = .ok (.ifCond .ne 17, 3) := by decide +kernel
theorem dX1_changeSetting_4 : decode cX1_changeSetting 4 = .ok (.iload_n 2, 1) := by decide +kernel
theorem dX1_changeSetting_5 : decode cX1_changeSetting 5 = .ok (.iconst 0, 1) := by decide +kernel
theorem dX1_changeSetting_6 : decode cX1_changeSetting 6 = .ok (.bipush 50, 2) := by decide +kernel
theorem dX1_changeSetting_8 : decode cX1_changeSetting 8 = .ok (.invokestatic 104, 3) := by decide +kernel
theorem dX1_changeSetting_11 : decode cX1_changeSetting 11 = .ok (.ifCond .eq 7, 3) := by decide +kernel
theorem dX1_changeSetting_14 : decode cX1_changeSetting 14 = .ok (.iconst 1, 1) := by decide +kernel
theorem dX1_changeSetting_15 : decode cX1_changeSetting 15 = .ok (.goto 4, 3) := by decide +kernel
theorem dX1_changeSetting_18 : decode cX1_changeSetting 18 = .ok (.iconst 0, 1) := by decide +kernel
theorem dX1_changeSetting_19 : decode cX1_changeSetting 19 = .ok (.istore_n 3, 1) := by decide +kernel
theorem dX1_changeSetting_20 : decode cX1_changeSetting 20 = .ok (.iload_n 1, 1) := by decide +kernel
theorem dX1_changeSetting_21 : decode cX1_changeSetting 21 = .ok (.iconst 1, 1) := by decide +kernel
theorem dX1_changeSetting_22 : decode cX1_changeSetting 22 = .ok (.if_icmp .ne 18, 3) := by decide +kernel
theorem dX1_changeSetting_25 : decode cX1_changeSetting 25 = .ok (.iload_n 2, 1) := by decide +kernel
theorem dX1_changeSetting_26 : decode cX1_changeSetting 26 = .ok (.iconst 1, 1) := by decide +kernel
theorem dX1_changeSetting_27 : decode cX1_changeSetting 27 = .ok (.sipush 200, 3) := by decide +kernel
theorem dX1_changeSetting_30 : decode cX1_changeSetting 30 = .ok (.invokestatic 104, 3) := by decide +kernel
theorem dX1_changeSetting_33 : decode cX1_changeSetting 33 = .ok (.ifCond .eq 7, 3) := by decide +kernel
theorem dX1_changeSetting_36 : decode cX1_changeSetting 36 = .ok (.iconst 1, 1) := by decide +kernel
theorem dX1_changeSetting_37 : decode cX1_changeSetting 37 = .ok (.goto 4, 3) := by decide +kernel
theorem dX1_changeSetting_40 : decode cX1_changeSetting 40 = .ok (.iconst 0, 1) := by decide +kernel
theorem dX1_changeSetting_41 : decode cX1_changeSetting 41 = .ok (.istore 4, 2) := by decide +kernel
theorem dX1_changeSetting_43 : decode cX1_changeSetting 43 = .ok (.iload_n 3, 1) := by decide +kernel
theorem dX1_changeSetting_44 : decode cX1_changeSetting 44 = .ok (.ifCond .ne 11, 3) := by decide +kernel
theorem dX1_changeSetting_47 : decode cX1_changeSetting 47 = .ok (.iload 4, 2) := by decide +kernel
theorem dX1_changeSetting_49 : decode cX1_changeSetting 49 = .ok (.ifCond .ne 6, 3) := by decide +kernel
theorem dX1_changeSetting_52 : decode cX1_changeSetting 52 = .ok (.bipush (-3), 2) := by decide +kernel
theorem dX1_changeSetting_54 : decode cX1_changeSetting 54 = .ok (.ireturn, 1) := by decide +kernel
theorem dX1_changeSetting_55 : decode cX1_changeSetting 55 = .ok (.aload_n 0, 1) := by decide +kernel
theorem dX1_changeSetting_56 : decode cX1_changeSetting 56 = .ok (.getfield 36, 3) := by decide +kernel
theorem dX1_changeSetting_59 : decode cX1_changeSetting 59 = .ok (.iload_n 1, 1) := by decide +kernel
theorem dX1_changeSetting_60 : decode cX1_changeSetting 60 = .ok (.invokestatic 64, 3) := by decide +kernel
theorem dX1_changeSetting_63 : decode cX1_changeSetting 63 = .ok (.istore 5, 2) := by decide +kernel
theorem dX1_changeSetting_65 : decode cX1_changeSetting 65 = .ok (.aload_n 0, 1) := by decide +kernel
theorem dX1_changeSetting_66 : decode cX1_changeSetting 66 = .ok (.getfield 36, 3) := by decide +kernel
theorem dX1_changeSetting_69 : decode cX1_changeSetting 69 = .ok (.iload_n 1, 1) := by decide +kernel
theorem dX1_changeSetting_70 : decode cX1_changeSetting 70 = .ok (.iload_n 2, 1) := by decide +kernel
theorem dX1_changeSetting_71 : decode cX1_changeSetting 71 = .ok (.invokestatic 56, 3) := by decide +kernel
theorem dX1_changeSetting_74 : decode cX1_changeSetting 74 = .ok (.iload 5, 2) := by decide +kernel
theorem dX1_changeSetting_76 : decode cX1_changeSetting 76 = .ok (.ireturn, 1) := by decide +kernel
theorem dX1_voidStamp_0 : decode cX1_voidStamp 0 = .ok (.aload_n 0, 1) := by decide +kernel
theorem dX1_voidStamp_1 : decode cX1_voidStamp 1 = .ok (.getfield 21, 3) := by decide +kernel
theorem dX1_voidStamp_4 : decode cX1_voidStamp 4 = .ok (.iload_n 1, 1) := by decide +kernel
theorem dX1_voidStamp_5 : decode cX1_voidStamp 5 = .ok (.invokestatic 64, 3) := by decide +kernel
theorem dX1_voidStamp_8 : decode cX1_voidStamp 8 = .ok (.ifCond .ne 5, 3) := by decide +kernel
theorem dX1_voidStamp_11 : decode cX1_voidStamp 11 = .ok (.iconst 0, 1) := by decide +kernel
theorem dX1_voidStamp_12 : decode cX1_voidStamp 12 = .ok (.ireturn, 1) := by decide +kernel
theorem dX1_voidStamp_13 : decode cX1_voidStamp 13 = .ok (.aload_n 0, 1) := by decide +kernel
theorem dX1_voidStamp_14 : decode cX1_voidStamp 14 = .ok (.getfield 21, 3) := by decide +kernel
theorem dX1_voidStamp_17 : decode cX1_voidStamp 17 = .ok (.iload_n 1, 1) := by decide +kernel
theorem dX1_voidStamp_18 : decode cX1_voidStamp 18 = .ok (.iconst 0, 1) := by decide +kernel
theorem dX1_voidStamp_19 : decode cX1_voidStamp 19 = .ok (.invokestatic 56, 3) := by decide +kernel
theorem dX1_voidStamp_22 : decode cX1_voidStamp 22 = .ok (.aload_n 0, 1) := by decide +kernel
theorem dX1_voidStamp_23 : decode cX1_voidStamp 23 = .ok (.iconst 5, 1) := by decide +kernel
theorem dX1_voidStamp_24 : decode cX1_voidStamp 24 = .ok (.iconst 1, 1) := by decide +kernel
theorem dX1_voidStamp_25 : decode cX1_voidStamp 25 = .ok (.invokevirtual 124, 3) := by decide +kernel
theorem dX1_voidStamp_28 : decode cX1_voidStamp 28 = .ok (.iconst 1, 1) := by decide +kernel
theorem dX1_voidStamp_29 : decode cX1_voidStamp 29 = .ok (.ireturn, 1) := by decide +kernel
theorem dX1_count_0 : decode cX1_count 0 = .ok (.aload_n 0, 1) := by decide +kernel
theorem dX1_count_1 : decode cX1_count 1 = .ok (.getfield 39, 3) := by decide +kernel
theorem dX1_count_4 : decode cX1_count 4 = .ok (.iload_n 1, 1) := by decide +kernel
theorem dX1_count_5 : decode cX1_count 5 = .ok (.aload_n 0, 1) := by decide +kernel
theorem dX1_count_6 : decode cX1_count 6 = .ok (.getfield 39, 3) := by decide +kernel
theorem dX1_count_9 : decode cX1_count 9 = .ok (.iload_n 1, 1) := by decide +kernel
theorem dX1_count_10 : decode cX1_count 10 = .ok (.invokestatic 64, 3) := by decide +kernel
theorem dX1_count_13 : decode cX1_count 13 = .ok (.iload_n 2, 1) := by decide +kernel
theorem dX1_count_14 : decode cX1_count 14 = .ok (.iadd, 1) := by decide +kernel
theorem dX1_count_15 : decode cX1_count 15 = .ok (.invokestatic 56, 3) := by decide +kernel
theorem dX1_count_18 : decode cX1_count 18 = .ok (.return_, 1) := by decide +kernel
theorem dX1_bestQuarters_0 : decode cX1_bestQuarters 0 = .ok (.iconst 0, 1) := by decide +kernel
theorem dX1_bestQuarters_1 : decode cX1_bestQuarters 1 = .ok (.istore_n 3, 1) := by decide +kernel
theorem dX1_bestQuarters_2 : decode cX1_bestQuarters 2 = .ok (.iconst 1, 1) := by decide +kernel
theorem dX1_bestQuarters_3 : decode cX1_bestQuarters 3 = .ok (.istore 4, 2) := by decide +kernel
theorem dX1_bestQuarters_5 : decode cX1_bestQuarters 5 = .ok (.iload 4, 2) := by decide +kernel
theorem dX1_bestQuarters_7 : decode cX1_bestQuarters 7 = .ok (.iconst 4, 1) := by decide +kernel
theorem dX1_bestQuarters_8 : decode cX1_bestQuarters 8 = .ok (.if_icmp .ge 58, 3) := by decide +kernel
theorem dX1_bestQuarters_11 : decode cX1_bestQuarters 11 = .ok (.aload_n 0, 1) := by decide +kernel
theorem dX1_bestQuarters_12 : decode cX1_bestQuarters 12 = .ok (.iload_n 1, 1) := by decide +kernel
theorem dX1_bestQuarters_13 : decode cX1_bestQuarters 13 = .ok (.iload_n 2, 1) := by decide +kernel
theorem dX1_bestQuarters_14 : decode cX1_bestQuarters 14 = .ok (.iload 4, 2) := by decide +kernel
theorem dX1_bestQuarters_16 : decode cX1_bestQuarters 16 = .ok (.invokevirtual 72, 3) := by decide +kernel
theorem dX1_bestQuarters_19 : decode cX1_bestQuarters 19 = .ok (.aload_n 0, 1) := by decide +kernel
theorem dX1_bestQuarters_20 : decode cX1_bestQuarters 20 = .ok (.iload_n 1, 1) := by decide +kernel
theorem dX1_bestQuarters_21 : decode cX1_bestQuarters 21 = .ok (.iload_n 2, 1) := by decide +kernel
theorem dX1_bestQuarters_22 : decode cX1_bestQuarters 22 = .ok (.iload_n 3, 1) := by decide +kernel
theorem dX1_bestQuarters_23 : decode cX1_bestQuarters 23 = .ok (.invokevirtual 72, 3) := by decide +kernel
theorem dX1_bestQuarters_26 : decode cX1_bestQuarters 26 = .ok (.isub, 1) := by decide +kernel
theorem dX1_bestQuarters_27 : decode cX1_bestQuarters 27 = .ok (.istore 5, 2) := by decide +kernel
theorem dX1_bestQuarters_29 : decode cX1_bestQuarters 29 = .ok (.iload 5, 2) := by decide +kernel
theorem dX1_bestQuarters_31 : decode cX1_bestQuarters 31 = .ok (.ifCond .lt 26, 3) := by decide +kernel
theorem dX1_bestQuarters_34 : decode cX1_bestQuarters 34 = .ok (.iload 5, 2) := by decide +kernel
theorem dX1_bestQuarters_36 : decode cX1_bestQuarters 36 = .ok (.ifCond .ne 24, 3) := by decide +kernel
theorem dX1_bestQuarters_39 : decode cX1_bestQuarters 39 = .ok (.aload_n 0, 1) := by decide +kernel
theorem dX1_bestQuarters_40 : decode cX1_bestQuarters 40 = .ok (.iload_n 1, 1) := by decide +kernel
theorem dX1_bestQuarters_41 : decode cX1_bestQuarters 41 = .ok (.iload_n 2, 1) := by decide +kernel
theorem dX1_bestQuarters_42 : decode cX1_bestQuarters 42 = .ok (.iload 4, 2) := by decide +kernel
theorem dX1_bestQuarters_44 : decode cX1_bestQuarters 44 = .ok (.invokevirtual 85, 3) := by decide +kernel
theorem dX1_bestQuarters_47 : decode cX1_bestQuarters 47 = .ok (.aload_n 0, 1) := by decide +kernel
theorem dX1_bestQuarters_48 : decode cX1_bestQuarters 48 = .ok (.iload_n 1, 1) := by decide +kernel
theorem dX1_bestQuarters_49 : decode cX1_bestQuarters 49 = .ok (.iload_n 2, 1) := by decide +kernel
theorem dX1_bestQuarters_50 : decode cX1_bestQuarters 50 = .ok (.iload_n 3, 1) := by decide +kernel
theorem dX1_bestQuarters_51 : decode cX1_bestQuarters 51 = .ok (.invokevirtual 85, 3) := by decide +kernel
theorem dX1_bestQuarters_54 : decode cX1_bestQuarters 54 = .ok (.if_icmp .ge 6, 3) := by decide +kernel
theorem dX1_bestQuarters_57 : decode cX1_bestQuarters 57 = .ok (.iload 4, 2) := by decide +kernel
theorem dX1_bestQuarters_59 : decode cX1_bestQuarters 59 = .ok (.istore_n 3, 1) := by decide +kernel
theorem dX1_bestQuarters_60 : decode cX1_bestQuarters 60 = .ok (.iinc 4 1, 3) := by decide +kernel
theorem dX1_bestQuarters_63 : decode cX1_bestQuarters 63 = .ok (.goto (-58), 3) := by decide +kernel
theorem dX1_bestQuarters_66 : decode cX1_bestQuarters 66 = .ok (.iload_n 3, 1) := by decide +kernel
theorem dX1_bestQuarters_67 : decode cX1_bestQuarters 67 = .ok (.ireturn, 1) := by decide +kernel
theorem dX1_bestFloorFor_0 : decode cX1_bestFloorFor 0 = .ok (.iconst 0, 1) := by decide +kernel
theorem dX1_bestFloorFor_1 : decode cX1_bestFloorFor 1 = .ok (.istore_n 2, 1) := by decide +kernel
theorem dX1_bestFloorFor_2 : decode cX1_bestFloorFor 2 = .ok (.aload_n 0, 1) := by decide +kernel
theorem dX1_bestFloorFor_3 : decode cX1_bestFloorFor 3 = .ok (.iload_n 1, 1) := by decide +kernel
theorem dX1_bestFloorFor_4 : decode cX1_bestFloorFor 4 = .ok (.iconst 0, 1) := by decide +kernel
theorem dX1_bestFloorFor_5 : decode cX1_bestFloorFor 5 = .ok (.aload_n 0, 1) := by decide +kernel
theorem dX1_bestFloorFor_6 : decode cX1_bestFloorFor 6 = .ok (.iload_n 1, 1) := by decide +kernel
theorem dX1_bestFloorFor_7 : decode cX1_bestFloorFor 7 = .ok (.iconst 0, 1) := by decide +kernel
theorem dX1_bestFloorFor_8 : decode cX1_bestFloorFor 8 = .ok (.invokevirtual 144, 3) := by decide +kernel
theorem dX1_bestFloorFor_11 : decode cX1_bestFloorFor 11 = .ok (.invokevirtual 72, 3) := by decide +kernel
theorem dX1_bestFloorFor_14 : decode cX1_bestFloorFor 14 = .ok (.istore_n 3, 1) := by decide +kernel
theorem dX1_bestFloorFor_15 : decode cX1_bestFloorFor 15 = .ok (.iconst 1, 1) := by decide +kernel
theorem dX1_bestFloorFor_16 : decode cX1_bestFloorFor 16 = .ok (.istore 4, 2) := by decide +kernel
theorem dX1_bestFloorFor_18 : decode cX1_bestFloorFor 18 = .ok (.iload 4, 2) := by decide +kernel
theorem dX1_bestFloorFor_20 : decode cX1_bestFloorFor 20 = .ok (.aload_n 0, 1) := by decide +kernel
theorem dX1_bestFloorFor_21 : decode cX1_bestFloorFor 21 = .ok (.getfield 49, 3) := by decide +kernel
theorem dX1_bestFloorFor_24 : decode cX1_bestFloorFor 24 = .ok (.if_icmp .ge 37, 3) := by decide +kernel
theorem dX1_bestFloorFor_27 : decode cX1_bestFloorFor 27 = .ok (.aload_n 0, 1) := by decide +kernel
theorem dX1_bestFloorFor_28 : decode cX1_bestFloorFor 28 = .ok (.iload_n 1, 1) := by decide +kernel
theorem dX1_bestFloorFor_29 : decode cX1_bestFloorFor 29 = .ok (.iload 4, 2) := by decide +kernel
theorem dX1_bestFloorFor_31 : decode cX1_bestFloorFor 31 = .ok (.aload_n 0, 1) := by decide +kernel
theorem dX1_bestFloorFor_32 : decode cX1_bestFloorFor 32 = .ok (.iload_n 1, 1) := by decide +kernel
theorem dX1_bestFloorFor_33 : decode cX1_bestFloorFor 33 = .ok (.iload 4, 2) := by decide +kernel
theorem dX1_bestFloorFor_35 : decode cX1_bestFloorFor 35 = .ok (.invokevirtual 144, 3) := by decide +kernel
theorem dX1_bestFloorFor_38 : decode cX1_bestFloorFor 38 = .ok (.invokevirtual 72, 3) := by decide +kernel
theorem dX1_bestFloorFor_41 : decode cX1_bestFloorFor 41 = .ok (.istore 5, 2) := by decide +kernel
theorem dX1_bestFloorFor_43 : decode cX1_bestFloorFor 43 = .ok (.iload 5, 2) := by decide +kernel
theorem dX1_bestFloorFor_45 : decode cX1_bestFloorFor 45 = .ok (.iload_n 3, 1) := by decide +kernel
theorem dX1_bestFloorFor_46 : decode cX1_bestFloorFor 46 = .ok (.if_icmp .ge 9, 3) := by decide +kernel
theorem dX1_bestFloorFor_49 : decode cX1_bestFloorFor 49 = .ok (.iload 4, 2) := by decide +kernel
theorem dX1_bestFloorFor_51 : decode cX1_bestFloorFor 51 = .ok (.istore_n 2, 1) := by decide +kernel
theorem dX1_bestFloorFor_52 : decode cX1_bestFloorFor 52 = .ok (.iload 5, 2) := by decide +kernel
theorem dX1_bestFloorFor_54 : decode cX1_bestFloorFor 54 = .ok (.istore_n 3, 1) := by decide +kernel
theorem dX1_bestFloorFor_55 : decode cX1_bestFloorFor 55 = .ok (.iinc 4 1, 3) := by decide +kernel
theorem dX1_bestFloorFor_58 : decode cX1_bestFloorFor 58 = .ok (.goto (-40), 3) := by decide +kernel
theorem dX1_bestFloorFor_61 : decode cX1_bestFloorFor 61 = .ok (.iload_n 2, 1) := by decide +kernel
theorem dX1_bestFloorFor_62 : decode cX1_bestFloorFor 62 = .ok (.ireturn, 1) := by decide +kernel
theorem dX1_bestSawnLeg_0 : decode cX1_bestSawnLeg 0 = .ok (.aload_n 0, 1) := by decide +kernel
theorem dX1_bestSawnLeg_1 : decode cX1_bestSawnLeg 1 = .ok (.iload_n 1, 1) := by decide +kernel
theorem dX1_bestSawnLeg_2 : decode cX1_bestSawnLeg 2 = .ok (.invokevirtual 147, 3) := by decide +kernel
theorem dX1_bestSawnLeg_5 : decode cX1_bestSawnLeg 5 = .ok (.istore_n 2, 1) := by decide +kernel
theorem dX1_bestSawnLeg_6 : decode cX1_bestSawnLeg 6 = .ok (.iconst (-1), 1) := by decide +kernel
theorem dX1_bestSawnLeg_7 : decode cX1_bestSawnLeg 7 = .ok (.istore_n 3, 1) := by decide +kernel
theorem dX1_bestSawnLeg_8 : decode cX1_bestSawnLeg 8 = .ok (.iconst 0, 1) := by decide +kernel
theorem dX1_bestSawnLeg_9 : decode cX1_bestSawnLeg 9 = .ok (.istore 4, 2) := by decide +kernel
theorem dX1_bestSawnLeg_11 : decode cX1_bestSawnLeg 11 = .ok (.iconst 0, 1) := by decide +kernel
theorem dX1_bestSawnLeg_12 : decode cX1_bestSawnLeg 12 = .ok (.istore 5, 2) := by decide +kernel
theorem dX1_bestSawnLeg_14 : decode cX1_bestSawnLeg 14 = .ok (.iload 5, 2) := by decide +kernel
theorem dX1_bestSawnLeg_16 : decode cX1_bestSawnLeg 16 = .ok (.iconst 4, 1) := by decide +kernel
theorem dX1_bestSawnLeg_17 : decode cX1_bestSawnLeg 17 = .ok (.if_icmp .ge 100, 3) := by decide +kernel
theorem dX1_bestSawnLeg_20 : decode cX1_bestSawnLeg 20 = .ok (.iload_n 2, 1) := by decide +kernel
theorem dX1_bestSawnLeg_21 : decode cX1_bestSawnLeg 21 = .ok (.ifCond .le 96, 3) := by decide +kernel
theorem dX1_bestSawnLeg_24 : decode cX1_bestSawnLeg 24 = .ok (.aload_n 0, 1) := by decide +kernel
theorem dX1_bestSawnLeg_25 : decode cX1_bestSawnLeg 25 = .ok (.iload_n 1, 1) := by decide +kernel
theorem dX1_bestSawnLeg_26 : decode cX1_bestSawnLeg 26 = .ok (.iload 5, 2) := by decide +kernel
theorem dX1_bestSawnLeg_28 : decode cX1_bestSawnLeg 28 = .ok (.invokevirtual 94, 3) := by decide +kernel
theorem dX1_bestSawnLeg_31 : decode cX1_bestSawnLeg 31 = .ok (.istore 6, 2) := by decide +kernel
theorem dX1_bestSawnLeg_33 : decode cX1_bestSawnLeg 33 = .ok (.iload 6, 2) := by decide +kernel
theorem dX1_bestSawnLeg_35 : decode cX1_bestSawnLeg 35 = .ok (.iload_n 2, 1) := by decide +kernel
theorem dX1_bestSawnLeg_36 : decode cX1_bestSawnLeg 36 = .ok (.isub, 1) := by decide +kernel
theorem dX1_bestSawnLeg_37 : decode cX1_bestSawnLeg 37 = .ok (.bipush 100, 2) := by decide +kernel
theorem dX1_bestSawnLeg_39 : decode cX1_bestSawnLeg 39 = .ok (.if_icmp .ge 6, 3) := by decide +kernel
theorem dX1_bestSawnLeg_42 : decode cX1_bestSawnLeg 42 = .ok (.goto 69, 3) := by decide +kernel
theorem dX1_bestSawnLeg_45 : decode cX1_bestSawnLeg 45 = .ok (.aload_n 0, 1) := by decide +kernel
theorem dX1_bestSawnLeg_46 : decode cX1_bestSawnLeg 46 = .ok (.getfield 27, 3) := by decide +kernel
theorem dX1_bestSawnLeg_49 : decode cX1_bestSawnLeg 49 = .ok (.iload_n 1, 1) := by decide +kernel
theorem dX1_bestSawnLeg_50 : decode cX1_bestSawnLeg 50 = .ok (.iconst 4, 1) := by decide +kernel
theorem dX1_bestSawnLeg_51 : decode cX1_bestSawnLeg 51 = .ok (.imul, 1) := by decide +kernel
theorem dX1_bestSawnLeg_52 : decode cX1_bestSawnLeg 52 = .ok (.iload 5, 2) := by decide +kernel
theorem dX1_bestSawnLeg_54 : decode cX1_bestSawnLeg 54 = .ok (.iadd, 1) := by decide +kernel
theorem dX1_bestSawnLeg_55 : decode cX1_bestSawnLeg 55 = .ok (.iload 6, 2) := by decide +kernel
theorem dX1_bestSawnLeg_57 : decode cX1_bestSawnLeg 57 = .ok (.iload_n 2, 1) := by decide +kernel
theorem dX1_bestSawnLeg_58 : decode cX1_bestSawnLeg 58 = .ok (.isub, 1) := by decide +kernel
theorem dX1_bestSawnLeg_59 : decode cX1_bestSawnLeg 59 = .ok (.invokestatic 56, 3) := by decide +kernel
theorem dX1_bestSawnLeg_62 : decode cX1_bestSawnLeg 62 = .ok (.aload_n 0, 1) := by decide +kernel
theorem dX1_bestSawnLeg_63 : decode cX1_bestSawnLeg 63 = .ok (.iload_n 1, 1) := by decide +kernel
theorem dX1_bestSawnLeg_64 : decode cX1_bestSawnLeg 64 = .ok (.invokevirtual 150, 3) := by decide +kernel
theorem dX1_bestSawnLeg_67 : decode cX1_bestSawnLeg 67 = .ok (.istore 7, 2) := by decide +kernel
theorem dX1_bestSawnLeg_69 : decode cX1_bestSawnLeg 69 = .ok (.aload_n 0, 1) := by decide +kernel
theorem dX1_bestSawnLeg_70 : decode cX1_bestSawnLeg 70 = .ok (.iload_n 1, 1) := by decide +kernel
theorem dX1_bestSawnLeg_71 : decode cX1_bestSawnLeg 71 = .ok (.invokevirtual 147, 3) := by decide +kernel
theorem dX1_bestSawnLeg_74 : decode cX1_bestSawnLeg 74 = .ok (.ifCond .ne 22, 3) := by decide +kernel
theorem dX1_bestSawnLeg_77 : decode cX1_bestSawnLeg 77 = .ok (.iload_n 3, 1) := by decide +kernel
theorem dX1_bestSawnLeg_78 : decode cX1_bestSawnLeg 78 = .ok (.iconst (-1), 1) := by decide +kernel
theorem dX1_bestSawnLeg_79 : decode cX1_bestSawnLeg 79 = .ok (.if_icmp .eq 10, 3) := by decide +kernel
theorem dX1_bestSawnLeg_82 : decode cX1_bestSawnLeg 82 = .ok (.iload 7, 2) := by decide +kernel
theorem dX1_bestSawnLeg_84 : decode cX1_bestSawnLeg 84 = .ok (.iload 4, 2) := by decide +kernel
theorem dX1_bestSawnLeg_86 : decode cX1_bestSawnLeg 86 = .ok (.if_icmp .ge 10, 3) := by decide +kernel
theorem dX1_bestSawnLeg_89 : decode cX1_bestSawnLeg 89 = .ok (.iload 5, 2) := by decide +kernel
theorem dX1_bestSawnLeg_91 : decode cX1_bestSawnLeg 91 = .ok (.istore_n 3, 1) := by decide +kernel
theorem dX1_bestSawnLeg_92 : decode cX1_bestSawnLeg 92 = .ok (.iload 7, 2) := by decide +kernel
theorem dX1_bestSawnLeg_94 : decode cX1_bestSawnLeg 94 = .ok (.istore 4, 2) := by decide +kernel
theorem dX1_bestSawnLeg_96 : decode cX1_bestSawnLeg 96 = .ok (.aload_n 0, 1) := by decide +kernel
theorem dX1_bestSawnLeg_97 : decode cX1_bestSawnLeg 97 = .ok (.getfield 27, 3) := by decide +kernel
theorem dX1_bestSawnLeg_100 : decode cX1_bestSawnLeg 100 = .ok (.iload_n 1, 1) := by decide +kernel
theorem dX1_bestSawnLeg_101 : decode cX1_bestSawnLeg 101 = .ok (.iconst 4, 1) := by decide +kernel
theorem dX1_bestSawnLeg_102 : decode cX1_bestSawnLeg 102 = .ok (.imul, 1) := by decide +kernel
theorem dX1_bestSawnLeg_103 : decode cX1_bestSawnLeg 103 = .ok (.iload 5, 2) := by decide +kernel
theorem dX1_bestSawnLeg_105 : decode cX1_bestSawnLeg 105 = .ok (.iadd, 1) := by decide +kernel
theorem dX1_bestSawnLeg_106 : decode cX1_bestSawnLeg 106 = .ok (.iload 6, 2) := by decide +kernel
theorem dX1_bestSawnLeg_108 : decode cX1_bestSawnLeg 108 = .ok (.invokestatic 56, 3) := by decide +kernel
theorem dX1_bestSawnLeg_111 : decode cX1_bestSawnLeg 111 = .ok (.iinc 5 1, 3) := by decide +kernel
theorem dX1_bestSawnLeg_114 : decode cX1_bestSawnLeg 114 = .ok (.goto (-100), 3) := by decide +kernel
theorem dX1_bestSawnLeg_117 : decode cX1_bestSawnLeg 117 = .ok (.iload_n 3, 1) := by decide +kernel
theorem dX1_bestSawnLeg_118 : decode cX1_bestSawnLeg 118 = .ok (.ireturn, 1) := by decide +kernel
theorem dX2_init_0 : decode cX2_init 0 = .ok (.aload_n 0, 1) := by decide +kernel
theorem dX2_init_1 : decode cX2_init 1 = .ok (.invokespecial 3, 3) := by decide +kernel
theorem dX2_init_4 : decode cX2_init 4 = .ok (.aload_n 0, 1) := by decide +kernel
theorem dX2_init_5 : decode cX2_init 5 = .ok (.bipush 120, 2) := by decide +kernel
theorem dX2_init_7 : decode cX2_init 7 = .ok (.newarray .int, 2) := by decide +kernel
theorem dX2_init_9 : decode cX2_init 9 = .ok (.putfield 9, 3) := by decide +kernel
theorem dX2_init_12 : decode cX2_init 12 = .ok (.aload_n 0, 1) := by decide +kernel
theorem dX2_init_13 : decode cX2_init 13 = .ok (.iconst 0, 1) := by decide +kernel
theorem dX2_init_14 : decode cX2_init 14 = .ok (.putfield 15, 3) := by decide +kernel
theorem dX2_init_17 : decode cX2_init 17 = .ok (.aload_n 0, 1) := by decide +kernel
theorem dX2_init_18 : decode cX2_init 18 = .ok (.iconst 0, 1) := by decide +kernel
theorem dX2_init_19 : decode cX2_init 19 = .ok (.putfield 19, 3) := by decide +kernel
theorem dX2_init_22 : decode cX2_init 22 = .ok (.aload_n 0, 1) := by decide +kernel
theorem dX2_init_23 : decode cX2_init 23 = .ok (.iconst (-1), 1) := by decide +kernel
theorem dX2_init_24 : decode cX2_init 24 = .ok (.putfield 22, 3) := by decide +kernel
theorem dX2_init_27 : decode cX2_init 27 = .ok (.aload_n 0, 1) := by decide +kernel
theorem dX2_init_28 : decode cX2_init 28 = .ok (.iconst 4, 1) := by decide +kernel
theorem dX2_init_29 : decode cX2_init 29 = .ok (.newarray .int, 2) := by decide +kernel
theorem dX2_init_31 : decode cX2_init 31 = .ok (.putfield 25, 3) := by decide +kernel
theorem dX2_init_34 : decode cX2_init 34 = .ok (.return_, 1) := by decide +kernel
theorem dX2_isFull_0 : decode cX2_isFull 0 = .ok (.aload_n 0, 1) := by decide +kernel
theorem dX2_isFull_1 : decode cX2_isFull 1 = .ok (.getfield 15, 3) := by decide +kernel
theorem dX2_isFull_4 : decode cX2_isFull 4 = .ok (.bipush 120, 2) := by decide +kernel
theorem dX2_isFull_6 : decode cX2_isFull 6 = .ok (.if_icmp .lt 7, 3) := by decide +kernel
theorem dX2_isFull_9 : decode cX2_isFull 9 = .ok (.iconst 1, 1) := by decide +kernel
theorem dX2_isFull_10 : decode cX2_isFull 10 = .ok (.goto 4, 3) := by decide +kernel
theorem dX2_isFull_13 : decode cX2_isFull 13 = .ok (.iconst 0, 1) := by decide +kernel
theorem dX2_isFull_14 : decode cX2_isFull 14 = .ok (.ireturn, 1) := by decide +kernel
theorem dX2_add_0 : decode cX2_add 0 = .ok (.aload_n 0, 1) := by decide +kernel
theorem dX2_add_1 : decode cX2_add 1 = .ok (.getfield 9, 3) := by decide +kernel
theorem dX2_add_4 : decode cX2_add 4 = .ok (.aload_n 0, 1) := by decide +kernel
theorem dX2_add_5 : decode cX2_add 5 = .ok (.getfield 15, 3) := by decide +kernel
theorem dX2_add_8 : decode cX2_add 8 = .ok (.iload_n 1, 1) := by decide +kernel
theorem dX2_add_9 : decode cX2_add 9 = .ok (.invokestatic 28, 3) := by decide +kernel
theorem dX2_add_12 : decode cX2_add 12 = .ok (.aload_n 0, 1) := by decide +kernel
theorem dX2_add_13 : decode cX2_add 13 = .ok (.dup, 1) := by decide +kernel
theorem dX2_add_14 : decode cX2_add 14 = .ok (.getfield 15, 3) := by decide +kernel
theorem dX2_add_17 : decode cX2_add 17 = .ok (.iconst 1, 1) := by decide +kernel
theorem dX2_add_18 : decode cX2_add 18 = .ok (.iadd, 1) := by decide +kernel
theorem dX2_add_19 : decode cX2_add 19 = .ok (.putfield 15, 3) := by decide +kernel
theorem dX2_add_22 : decode cX2_add 22 = .ok (.aload_n 0, 1) := by decide +kernel
theorem dX2_add_23 : decode cX2_add 23 = .ok (.getfield 15, 3) := by decide +kernel
theorem dX2_add_26 : decode cX2_add 26 = .ok (.ireturn, 1) := by decide +kernel
theorem dX2_empty_0 : decode cX2_empty 0 = .ok (.aload_n 0, 1) := by decide +kernel
theorem dX2_empty_1 : decode cX2_empty 1 = .ok (.getfield 15, 3) := by decide +kernel
theorem dX2_empty_4 : decode cX2_empty 4 = .ok (.istore_n 1, 1) := by decide +kernel
theorem dX2_empty_5 : decode cX2_empty 5 = .ok (.aload_n 0, 1) := by decide +kernel
theorem dX2_empty_6 : decode cX2_empty 6 = .ok (.iconst 0, 1) := by decide +kernel
theorem dX2_empty_7 : decode cX2_empty 7 = .ok (.putfield 15, 3) := by decide +kernel
theorem dX2_empty_10 : decode cX2_empty 10 = .ok (.iload_n 1, 1) := by decide +kernel
theorem dX2_empty_11 : decode cX2_empty 11 = .ok (.ireturn, 1) := by decide +kernel
theorem dX2_firstError_0 : decode cX2_firstError 0 = .ok (.aload_n 0, 1) := by decide +kernel
theorem dX2_firstError_1 : decode cX2_firstError 1 = .ok (.iconst 0, 1) := by decide +kernel
theorem dX2_firstError_2 : decode cX2_firstError 2 = .ok (.invokevirtual 32, 3) := by decide +kernel
theorem dX2_firstError_5 : decode cX2_firstError 5 = .ok (.bipush 75, 2) := by decide +kernel
theorem dX2_firstError_7 : decode cX2_firstError 7 = .ok (.if_icmp .eq 5, 3) := by decide +kernel
theorem dX2_firstError_10 : decode cX2_firstError 10 = .ok (.iconst 0, 1) := by decide +kernel
theorem dX2_firstError_11 : decode cX2_firstError 11 = .ok (.ireturn, 1) := by decide +kernel
theorem dX2_firstError_12 : decode cX2_firstError 12 = .ok (.aload_n 0, 1) := by decide +kernel
theorem dX2_firstError_13 : decode cX2_firstError 13 = .ok (.invokevirtual 36, 3) := by decide +kernel
theorem dX2_firstError_16 : decode cX2_firstError 16 = .ok (.iconst 0, 1) := by decide +kernel
theorem dX2_firstError_17 : decode cX2_firstError 17 = .ok (.istore_n 1, 1) := by decide +kernel
theorem dX2_firstError_18 : decode cX2_firstError 18 = .ok (.iload_n 1, 1) := by decide +kernel
theorem dX2_firstError_19 : decode cX2_firstError 19 = .ok (.bipush 120, 2) := by decide +kernel
theorem dX2_firstError_21 : decode cX2_firstError 21 = .ok (.if_icmp .ge 32, 3) := by decide +kernel
theorem dX2_firstError_24 : decode cX2_firstError 24 = .ok (.aload_n 0, 1) := by decide +kernel
theorem dX2_firstError_25 : decode cX2_firstError 25 = .ok (.getfield 19, 3) := by decide +kernel
theorem dX2_firstError_28 : decode cX2_firstError 28 = .ok (.aload_n 0, 1) := by decide +kernel
theorem dX2_firstError_29 : decode cX2_firstError 29 = .ok (.getfield 15, 3) := by decide +kernel
theorem dX2_firstError_32 : decode cX2_firstError 32 = .ok (.if_icmp .ge 21, 3) := by decide +kernel
theorem dX2_firstError_35 : decode cX2_firstError 35 = .ok (.aload_n 0, 1) := by decide +kernel
theorem dX2_firstError_36 : decode cX2_firstError 36 = .ok (.invokevirtual 39, 3) := by decide +kernel
theorem dX2_firstError_39 : decode cX2_firstError 39 = .ok (.ifCond .ne 8, 3) := by decide +kernel
theorem dX2_firstError_42 : decode cX2_firstError 42 = .ok (.aload_n 0, 1) := by decide +kernel
theorem dX2_firstError_43 : decode cX2_firstError 43 = .ok (.getfield 19, 3) := by decide +kernel
theorem dX2_firstError_46 : decode cX2_firstError 46 = .ok (.ireturn, 1) := by decide +kernel
theorem dX2_firstError_47 : decode cX2_firstError 47 = .ok (.iinc 1 1, 3) := by decide +kernel
theorem dX2_firstError_50 : decode cX2_firstError 50 = .ok (.goto (-32), 3) := by decide +kernel
theorem dX2_firstError_53 : decode cX2_firstError 53 = .ok (.iconst (-1), 1) := by decide +kernel
theorem dX2_firstError_54 : decode cX2_firstError 54 = .ok (.ireturn, 1) := by decide +kernel
theorem dX2_goToCommands_0 : decode cX2_goToCommands 0 = .ok (.aload_n 0, 1) := by decide +kernel
theorem dX2_goToCommands_1 : decode cX2_goToCommands 1 = .ok (.iconst 1, 1) := by decide +kernel
theorem dX2_goToCommands_2 : decode cX2_goToCommands 2 = .ok (.putfield 19, 3) := by decide +kernel
theorem dX2_goToCommands_5 : decode cX2_goToCommands 5 = .ok (.return_, 1) := by decide +kernel
theorem dX2_codeAt_0 : decode cX2_codeAt 0 = .ok (.iload_n 1, 1) := by decide +kernel
theorem dX2_codeAt_1 : decode cX2_codeAt 1 = .ok (.aload_n 0, 1) := by decide +kernel
theorem dX2_codeAt_2 : decode cX2_codeAt 2 = .ok (.getfield 15, 3) := by decide +kernel
theorem dX2_codeAt_5 : decode cX2_codeAt 5 = .ok (.if_icmp .ge 14, 3) := by decide +kernel
theorem dX2_codeAt_8 : decode cX2_codeAt 8 = .ok (.aload_n 0, 1) := by decide +kernel
theorem dX2_codeAt_9 : decode cX2_codeAt 9 = .ok (.getfield 9, 3) := by decide +kernel
theorem dX2_codeAt_12 : decode cX2_codeAt 12 = .ok (.iload_n 1, 1) := by decide +kernel
theorem dX2_codeAt_13 : decode cX2_codeAt 13 = .ok (.invokestatic 43, 3) := by decide +kernel
theorem dX2_codeAt_16 : decode cX2_codeAt 16 = .ok (.goto 4, 3) := by decide +kernel
theorem dX2_codeAt_19 : decode cX2_codeAt 19 = .ok (.iconst (-1), 1) := by decide +kernel
theorem dX2_codeAt_20 : decode cX2_codeAt 20 = .ok (.ireturn, 1) := by decide +kernel
theorem dX2_readCommand_0 : decode cX2_readCommand 0 = .ok (.aload_n 0, 1) := by decide +kernel
theorem dX2_readCommand_1 : decode cX2_readCommand 1 = .ok (.aload_n 0, 1) := by decide +kernel
theorem dX2_readCommand_2 : decode cX2_readCommand 2 = .ok (.aload_n 0, 1) := by decide +kernel
theorem dX2_readCommand_3 : decode cX2_readCommand 3 = .ok (.getfield 19, 3) := by decide +kernel
theorem dX2_readCommand_6 : decode cX2_readCommand 6 = .ok (.invokevirtual 32, 3) := by decide +kernel
theorem dX2_readCommand_9 : decode cX2_readCommand 9 = .ok (.putfield 22, 3) := by decide +kernel
theorem dX2_readCommand_12 : decode cX2_readCommand 12 = .ok (.aload_n 0, 1) := by decide +kernel
theorem dX2_readCommand_13 : decode cX2_readCommand 13 = .ok (.getfield 22, 3) := by decide +kernel
theorem dX2_readCommand_16 : decode cX2_readCommand 16 = .ok (.iconst (-1), 1) := by decide +kernel
theorem dX2_readCommand_17 : decode cX2_readCommand 17 = .ok (.if_icmp .ne 7, 3) := by decide +kernel
theorem dX2_readCommand_20 : decode cX2_readCommand 20 = .ok (.iconst (-1), 1) := by decide +kernel
theorem dX2_readCommand_21 : decode cX2_readCommand 21 = .ok (.goto 13, 3) := by decide +kernel
theorem dX2_readCommand_24 : decode cX2_readCommand 24 = .ok (.ldc 47, 2) := by decide +kernel
theorem dX2_readCommand_26 : decode cX2_readCommand 26 = .ok (.aload_n 0, 1) := by decide +kernel
theorem dX2_readCommand_27 : decode cX2_readCommand 27 = .ok (.getfield 22, 3) := by decide +kernel
theorem dX2_readCommand_30 : decode cX2_readCommand 30 = .ok (.i2c, 1) := by decide +kernel
theorem dX2_readCommand_31 : decode cX2_readCommand 31 = .ok (.invokevirtual 49, 3) := by decide +kernel
theorem dX2_readCommand_34 : decode cX2_readCommand 34 = .ok (.istore_n 1, 1) := by decide +kernel
theorem dX2_readCommand_35 : decode cX2_readCommand 35 = .ok (.iload_n 1, 1) := by decide +kernel
theorem dX2_readCommand_36 : decode cX2_readCommand 36 = .ok (.iconst (-1), 1) := by decide +kernel
theorem dX2_readCommand_37 : decode cX2_readCommand 37 = .ok (.if_icmp .ne 5, 3) := by decide +kernel
theorem dX2_readCommand_40 : decode cX2_readCommand 40 = .ok (.iconst 0, 1) := by decide +kernel
theorem dX2_readCommand_41 : decode cX2_readCommand 41 = .ok (.ireturn, 1) := by decide +kernel
theorem dX2_readCommand_42 : decode cX2_readCommand 42 = .ok (.aload_n 0, 1) := by decide +kernel
theorem dX2_readCommand_43 : decode cX2_readCommand 43 = .ok (.dup, 1) := by decide +kernel
theorem dX2_readCommand_44 : decode cX2_readCommand 44 = .ok (.getfield 19, 3) := by decide +kernel
theorem dX2_readCommand_47 : decode cX2_readCommand 47 = .ok (.iconst 1, 1) := by decide +kernel
theorem dX2_readCommand_48 : decode cX2_readCommand 48 = .ok (.iadd, 1) := by decide +kernel
theorem dX2_readCommand_49 : decode cX2_readCommand 49 = .ok (.putfield 19, 3) := by decide +kernel
theorem dX2_readCommand_52 : decode cX2_readCommand 52 = .ok (.iconst 0, 1) := by decide +kernel
theorem dX2_readCommand_53 : decode cX2_readCommand 53 = .ok (.istore_n 2, 1) := by decide +kernel
theorem dX2_readCommand_54 : decode cX2_readCommand 54 = .ok (.iload_n 2, 1) := by decide +kernel
theorem dX2_readCommand_55 : decode cX2_readCommand 55 = .ok (.iconst 4, 1) := by decide +kernel
theorem dX2_readCommand_56 : decode cX2_readCommand 56 = .ok (.if_icmp .ge 66, 3) := by decide +kernel
theorem dX2_readCommand_59 : decode cX2_readCommand 59 = .ok (.iload_n 1, 1) := by decide +kernel
theorem dX2_readCommand_60 : decode cX2_readCommand 60 = .ok (.iconst 4, 1) := by decide +kernel
theorem dX2_readCommand_61 : decode cX2_readCommand 61 = .ok (.imul, 1) := by decide +kernel
theorem dX2_readCommand_62 : decode cX2_readCommand 62 = .ok (.iload_n 2, 1) := by decide +kernel
theorem dX2_readCommand_63 : decode cX2_readCommand 63 = .ok (.iadd, 1) := by decide +kernel
theorem dX2_readCommand_64 : decode cX2_readCommand 64 = .ok (.iconst 3, 1) := by decide +kernel
theorem dX2_readCommand_65 : decode cX2_readCommand 65 = .ok (.imul, 1) := by decide +kernel
theorem dX2_readCommand_66 : decode cX2_readCommand 66 = .ok (.istore_n 3, 1) := by decide +kernel
theorem dX2_readCommand_67 : decode cX2_readCommand 67 = .ok (.aload_n 0, 1) := by decide +kernel
theorem dX2_readCommand_68 : decode cX2_readCommand 68 = .ok (.getstatic 54, 3) := by decide +kernel
theorem dX2_readCommand_71 : decode cX2_readCommand 71 = .ok (.iload_n 3, 1) := by decide +kernel
theorem dX2_readCommand_72 : decode cX2_readCommand 72 = .ok (.invokestatic 43, 3) := by decide +kernel
theorem dX2_readCommand_75 : decode cX2_readCommand 75 = .ok (.getstatic 54, 3) := by decide +kernel
theorem dX2_readCommand_78 : decode cX2_readCommand 78 = .ok (.iload_n 3, 1) := by decide +kernel
theorem dX2_readCommand_79 : decode cX2_readCommand 79 = .ok (.iconst 1, 1) := by decide +kernel
theorem dX2_readCommand_80 : decode cX2_readCommand 80 = .ok (.iadd, 1) := by decide +kernel
theorem dX2_readCommand_81 : decode cX2_readCommand 81 = .ok (.invokestatic 43, 3) := by decide +kernel
theorem dX2_readCommand_84 : decode cX2_readCommand 84 = .ok (.getstatic 54, 3) := by decide +kernel
theorem dX2_readCommand_87 : decode cX2_readCommand 87 = .ok (.iload_n 3, 1) := by decide +kernel
theorem dX2_readCommand_88 : decode cX2_readCommand 88 = .ok (.iconst 2, 1) := by decide +kernel
theorem dX2_readCommand_89 : decode cX2_readCommand 89 = .ok (.iadd, 1) := by decide +kernel
theorem dX2_readCommand_90 : decode cX2_readCommand 90 = .ok (.invokestatic 43, 3) := by decide +kernel
theorem dX2_readCommand_93 : decode cX2_readCommand 93 = .ok (.invokevirtual 57, 3) := by decide +kernel
theorem dX2_readCommand_96 : decode cX2_readCommand 96 = .ok (.istore 4, 2) := by decide +kernel
theorem dX2_readCommand_98 : decode cX2_readCommand 98 = .ok (.iload 4, 2) := by decide +kernel
theorem dX2_readCommand_100 : decode cX2_readCommand 100 = .ok (.iconst (-1), 1) := by decide +kernel
theorem dX2_readCommand_101 : decode cX2_readCommand 101 = .ok (.if_icmp .ne 5, 3) := by decide +kernel
theorem dX2_readCommand_104 : decode cX2_readCommand 104 = .ok (.iconst 0, 1) := by decide +kernel
theorem dX2_readCommand_105 : decode cX2_readCommand 105 = .ok (.ireturn, 1) := by decide +kernel
theorem dX2_readCommand_106 : decode cX2_readCommand 106 = .ok (.aload_n 0, 1) := by decide +kernel
theorem dX2_readCommand_107 : decode cX2_readCommand 107 = .ok (.getfield 25, 3) := by decide +kernel
theorem dX2_readCommand_110 : decode cX2_readCommand 110 = .ok (.iload_n 2, 1) := by decide +kernel
theorem dX2_readCommand_111 : decode cX2_readCommand 111 = .ok (.iload 4, 2) := by decide +kernel
theorem dX2_readCommand_113 : decode cX2_readCommand 113 = .ok (.invokestatic 28, 3) := by decide +kernel
theorem dX2_readCommand_116 : decode cX2_readCommand 116 = .ok (.iinc 2 1, 3) := by decide +kernel
theorem dX2_readCommand_119 : decode cX2_readCommand 119 = .ok (.goto (-65), 3) := by decide +kernel
theorem dX2_readCommand_122 : decode cX2_readCommand 122 = .ok (.iconst 1, 1) := by decide +kernel
theorem dX2_readCommand_123 : decode cX2_readCommand 123 = .ok (.ireturn, 1) := by decide +kernel
theorem dX2_readNumber_0 : decode cX2_readNumber 0 = .ok (.iconst 1, 1) := by decide +kernel
theorem dX2_readNumber_1 : decode cX2_readNumber 1 = .ok (.istore 4, 2) := by decide +kernel
theorem dX2_readNumber_3 : decode cX2_readNumber 3 = .ok (.iconst 1, 1) := by decide +kernel
theorem dX2_readNumber_4 : decode cX2_readNumber 4 = .ok (.istore 5, 2) := by decide +kernel
theorem dX2_readNumber_6 : decode cX2_readNumber 6 = .ok (.iload 5, 2) := by decide +kernel
theorem dX2_readNumber_8 : decode cX2_readNumber 8 = .ok (.iload_n 1, 1) := by decide +kernel
theorem dX2_readNumber_9 : decode cX2_readNumber 9 = .ok (.if_icmp .ge 16, 3) := by decide +kernel
theorem dX2_readNumber_12 : decode cX2_readNumber 12 = .ok (.iload 4, 2) := by decide +kernel
theorem dX2_readNumber_14 : decode cX2_readNumber 14 = .ok (.bipush 10, 2) := by decide +kernel
theorem dX2_readNumber_16 : decode cX2_readNumber 16 = .ok (.imul, 1) := by decide +kernel
theorem dX2_readNumber_17 : decode cX2_readNumber 17 = .ok (.istore 4, 2) := by decide +kernel
theorem dX2_readNumber_19 : decode cX2_readNumber 19 = .ok (.iinc 5 1, 3) := by decide +kernel
theorem dX2_readNumber_22 : decode cX2_readNumber 22 = .ok (.goto (-16), 3) := by decide +kernel
theorem dX2_readNumber_25 : decode cX2_readNumber 25 = .ok (.iconst 0, 1) := by decide +kernel
theorem dX2_readNumber_26 : decode cX2_readNumber 26 = .ok (.istore 5, 2) := by decide +kernel
theorem dX2_readNumber_28 : decode cX2_readNumber 28 = .ok (.iconst 0, 1) := by decide +kernel
theorem dX2_readNumber_29 : decode cX2_readNumber 29 = .ok (.istore 6, 2) := by decide +kernel
theorem dX2_readNumber_31 : decode cX2_readNumber 31 = .ok (.iload 6, 2) := by decide +kernel
theorem dX2_readNumber_33 : decode cX2_readNumber 33 = .ok (.iload_n 1, 1) := by decide +kernel
theorem dX2_readNumber_34 : decode cX2_readNumber 34 = .ok (.if_icmp .ge 82, 3) := by decide +kernel
theorem dX2_readNumber_37 : decode cX2_readNumber 37 = .ok (.aload_n 0, 1) := by decide +kernel
theorem dX2_readNumber_38 : decode cX2_readNumber 38 = .ok (.aload_n 0, 1) := by decide +kernel
theorem dX2_readNumber_39 : decode cX2_readNumber 39 = .ok (.getfield 19, 3) := by decide +kernel
theorem dX2_readNumber_42 : decode cX2_readNumber 42 = .ok (.invokevirtual 32, 3) := by decide +kernel
theorem dX2_readNumber_45 : decode cX2_readNumber 45 = .ok (.istore 7, 2) := by decide +kernel
theorem dX2_readNumber_47 : decode cX2_readNumber 47 = .ok (.iload 7, 2) := by decide +kernel
theorem dX2_readNumber_49 : decode cX2_readNumber 49 = .ok (.bipush 48, 2) := by decide +kernel
theorem dX2_readNumber_51 : decode cX2_readNumber 51 = .ok (.bipush 57, 2) := by decide +kernel
theorem dX2_readNumber_53 : decode cX2_readNumber 53 = .ok (.invokestatic 61, 3) := by decide +kernel
theorem dX2_readNumber_56 : decode cX2_readNumber 56 = .ok (.ifCond .ne 5, 3) := by decide +kernel
theorem dX2_readNumber_59 : decode cX2_readNumber 59 = .ok (.iconst (-1), 1) := by decide +kernel
theorem dX2_readNumber_60 : decode cX2_readNumber 60 = .ok (.ireturn, 1) := by decide +kernel
theorem dX2_readNumber_61 : decode cX2_readNumber 61 = .ok (.iload 5, 2) := by decide +kernel
theorem dX2_readNumber_63 : decode cX2_readNumber 63 = .ok (.iload 7, 2) := by decide +kernel
theorem dX2_readNumber_65 : decode cX2_readNumber 65 = .ok (.bipush 48, 2) := by decide +kernel
theorem dX2_readNumber_67 : decode cX2_readNumber 67 = .ok (.isub, 1) := by decide +kernel
theorem dX2_readNumber_68 : decode cX2_readNumber 68 = .ok (.iload 4, 2) := by decide +kernel
theorem dX2_readNumber_70 : decode cX2_readNumber 70 = .ok (.imul, 1) := by decide +kernel
theorem dX2_readNumber_71 : decode cX2_readNumber 71 = .ok (.iadd, 1) := by decide +kernel
theorem dX2_readNumber_72 : decode cX2_readNumber 72 = .ok (.istore 5, 2) := by decide +kernel
theorem dX2_readNumber_74 : decode cX2_readNumber 74 = .ok (.iload 5, 2) := by decide +kernel
theorem dX2_readNumber_76 : decode cX2_readNumber 76 = .ok (.iload_n 3, 1) := by decide +kernel
theorem dX2_readNumber_77 : decode cX2_readNumber 77 = .ok (.if_icmp .gt 14, 3) := by decide +kernel
theorem dX2_readNumber_80 : decode cX2_readNumber 80 = .ok (.iload 5, 2) := by decide +kernel
theorem dX2_readNumber_82 : decode cX2_readNumber 82 = .ok (.iload 4, 2) := by decide +kernel
theorem dX2_readNumber_84 : decode cX2_readNumber 84 = .ok (.iadd, 1) := by decide +kernel
theorem dX2_readNumber_85 : decode cX2_readNumber 85 = .ok (.iconst 1, 1) := by decide +kernel
theorem dX2_readNumber_86 : decode cX2_readNumber 86 = .ok (.isub, 1) := by decide +kernel
theorem dX2_readNumber_87 : decode cX2_readNumber 87 = .ok (.iload_n 2, 1) := by decide +kernel
theorem dX2_readNumber_88 : decode cX2_readNumber 88 = .ok (.if_icmp .ge 5, 3) := by decide +kernel
theorem dX2_readNumber_91 : decode cX2_readNumber 91 = .ok (.iconst (-1), 1) := by decide +kernel
theorem dX2_readNumber_92 : decode cX2_readNumber 92 = .ok (.ireturn, 1) := by decide +kernel
theorem dX2_readNumber_93 : decode cX2_readNumber 93 = .ok (.iload 4, 2) := by decide +kernel
theorem dX2_readNumber_95 : decode cX2_readNumber 95 = .ok (.bipush 10, 2) := by decide +kernel
theorem dX2_readNumber_97 : decode cX2_readNumber 97 = .ok (.idiv, 1) := by decide +kernel
theorem dX2_readNumber_98 : decode cX2_readNumber 98 = .ok (.istore 4, 2) := by decide +kernel
theorem dX2_readNumber_100 : decode cX2_readNumber 100 = .ok (.aload_n 0, 1) := by decide +kernel
theorem dX2_readNumber_101 : decode cX2_readNumber 101 = .ok (.dup, 1) := by decide +kernel
theorem dX2_readNumber_102 : decode cX2_readNumber 102 = .ok (.getfield 19, 3) := by decide +kernel
theorem dX2_readNumber_105 : decode cX2_readNumber 105 = .ok (.iconst 1, 1) := by decide +kernel
theorem dX2_readNumber_106 : decode cX2_readNumber 106 = .ok (.iadd, 1) := by decide +kernel
theorem dX2_readNumber_107 : decode cX2_readNumber 107 = .ok (.putfield 19, 3) := by decide +kernel
theorem dX2_readNumber_110 : decode cX2_readNumber 110 = .ok (.iinc 6 1, 3) := by decide +kernel
theorem dX2_readNumber_113 : decode cX2_readNumber 113 = .ok (.goto (-82), 3) := by decide +kernel
theorem dX2_readNumber_116 : decode cX2_readNumber 116 = .ok (.iload 5, 2) := by decide +kernel
theorem dX2_readNumber_118 : decode cX2_readNumber 118 = .ok (.ireturn, 1) := by decide +kernel
theorem dX3_init_0 : decode cX3_init 0 = .ok (.aload_n 0, 1) := by decide +kernel
theorem dX3_init_1 : decode cX3_init 1 = .ok (.invokespecial 1, 3) := by decide +kernel
theorem dX3_init_4 : decode cX3_init 4 = .ok (.aload_n 0, 1) := by decide +kernel
theorem dX3_init_5 : decode cX3_init 5 = .ok (.new 7, 3) := by decide +kernel
theorem dX3_init_8 : decode cX3_init 8 = .ok (.dup, 1) := by decide +kernel
theorem dX3_init_9 : decode cX3_init 9 = .ok (.invokespecial 9, 3) := by decide +kernel
theorem dX3_init_12 : decode cX3_init 12 = .ok (.putfield 10, 3) := by decide +kernel
theorem dX3_init_15 : decode cX3_init 15 = .ok (.aload_n 0, 1) := by decide +kernel
theorem dX3_init_16 : decode cX3_init 16 = .ok (.iconst 0, 1) := by decide +kernel
theorem dX3_init_17 : decode cX3_init 17 = .ok (.putfield 16, 3) := by decide +kernel
theorem dX3_init_20 : decode cX3_init 20 = .ok (.return_, 1) := by decide +kernel
end
section
theorem dX4_init_0 : decode cX4_init 0 = .ok (.aload_n 0, 1) := by decide +kernel
theorem dX4_init_1 : decode cX4_init 1 = .ok (.invokespecial 1, 3) := by decide +kernel
theorem dX4_init_4 : decode cX4_init 4 = .ok (.aload_n 0, 1) := by decide +kernel
theorem dX4_init_5 : decode cX4_init 5 = .ok (.new 7, 3) := by decide +kernel
theorem dX4_init_8 : decode cX4_init 8 = .ok (.dup, 1) := by decide +kernel
theorem dX4_init_9 : decode cX4_init 9 = .ok (.invokespecial 9, 3) := by decide +kernel
theorem dX4_init_12 : decode cX4_init 12 = .ok (.putfield 10, 3) := by decide +kernel
theorem dX4_init_15 : decode cX4_init 15 = .ok (.aload_n 0, 1) := by decide +kernel
theorem dX4_init_16 : decode cX4_init 16 = .ok (.new 7, 3) := by decide +kernel
theorem dX4_init_19 : decode cX4_init 19 = .ok (.dup, 1) := by decide +kernel
theorem dX4_init_20 : decode cX4_init 20 = .ok (.invokespecial 9, 3) := by decide +kernel
theorem dX4_init_23 : decode cX4_init 23 = .ok (.putfield 16, 3) := by decide +kernel
theorem dX4_init_26 : decode cX4_init 26 = .ok (.aload_n 0, 1) := by decide +kernel
theorem dX4_init_27 : decode cX4_init 27 = .ok (.new 19, 3) := by decide +kernel
theorem dX4_init_30 : decode cX4_init 30 = .ok (.dup, 1) := by decide +kernel
theorem dX4_init_31 : decode cX4_init 31 = .ok (.invokespecial 21, 3) := by decide +kernel
theorem dX4_init_34 : decode cX4_init 34 = .ok (.putfield 22, 3) := by decide +kernel
theorem dX4_init_37 : decode cX4_init 37 = .ok (.aload_n 0, 1) := by decide +kernel
theorem dX4_init_38 : decode cX4_init 38 = .ok (.new 26, 3) := by decide +kernel
theorem dX4_init_41 : decode cX4_init 41 = .ok (.dup, 1) := by decide +kernel
theorem dX4_init_42 : decode cX4_init 42 = .ok (.invokespecial 28, 3) := by decide +kernel
theorem dX4_init_45 : decode cX4_init 45 = .ok (.putfield 29, 3) := by decide +kernel
theorem dX4_init_48 : decode cX4_init 48 = .ok (.aload_n 0, 1) := by decide +kernel
theorem dX4_init_49 : decode cX4_init 49 = .ok (.new 26, 3) := by decide +kernel
theorem dX4_init_52 : decode cX4_init 52 = .ok (.dup, 1) := by decide +kernel
theorem dX4_init_53 : decode cX4_init 53 = .ok (.invokespecial 28, 3) := by decide +kernel
theorem dX4_init_56 : decode cX4_init 56 = .ok (.putfield 33, 3) := by decide +kernel
theorem dX4_init_59 : decode cX4_init 59 = .ok (.aload_n 0, 1) := by decide +kernel
theorem dX4_init_60 : decode cX4_init 60 = .ok (.new 36, 3) := by decide +kernel
theorem dX4_init_63 : decode cX4_init 63 = .ok (.dup, 1) := by decide +kernel
theorem dX4_init_64 : decode cX4_init 64 = .ok (.invokespecial 38, 3) := by decide +kernel
theorem dX4_init_67 : decode cX4_init 67 = .ok (.putfield 39, 3) := by decide +kernel
theorem dX4_init_70 : decode cX4_init 70 = .ok (.return_, 1) := by decide +kernel
theorem dX4_append_0 : decode cX4_append 0 = .ok (.iload_n 1, 1) := by decide +kernel
theorem dX4_append_1 : decode cX4_append 1 = .ok (.iconst 0, 1) := by decide +kernel
theorem dX4_append_2 : decode cX4_append 2 = .ok (.sipush 255, 3) := by decide +kernel
theorem dX4_append_5 : decode cX4_append 5 = .ok (.invokestatic 43, 3) := by decide +kernel
theorem dX4_append_8 : decode cX4_append 8 = .ok (.ifCond .ne 13, 3) := by decide +kernel
theorem dX4_append_11 : decode cX4_append 11 = .ok (.new 47, 3) := by decide +kernel
theorem dX4_append_14 : decode cX4_append 14 = .ok (.dup, 1) := by decide +kernel
theorem dX4_append_15 : decode cX4_append 15 = .ok (.ldc 49, 2) := by decide +kernel
theorem dX4_append_17 : decode cX4_append 17 = .ok (.invokespecial 51, 3) := by decide +kernel
theorem dX4_append_20 : decode cX4_append 20 = .ok (.athrow, 1) := by decide +kernel
theorem dX4_append_21 : decode cX4_append 21 = .ok (.aload_n 0, 1) := by decide +kernel
theorem dX4_append_22 : decode cX4_append 22 = .ok (.getfield 39, 3) := by decide +kernel
theorem dX4_append_25 : decode cX4_append 25 = .ok (.invokevirtual 54, 3) := by decide +kernel
theorem dX4_append_28 : decode cX4_append 28 = .ok (.ifCond .eq 13, 3) := by decide +kernel
theorem dX4_append_31 : decode cX4_append 31 = .ok (.new 58, 3) := by decide +kernel
theorem dX4_append_34 : decode cX4_append 34 = .ok (.dup, 1) := by decide +kernel
theorem dX4_append_35 : decode cX4_append 35 = .ok (.ldc 60, 2) := by decide +kernel
theorem dX4_append_37 : decode cX4_append 37 = .ok (.invokespecial 62, 3) := by decide +kernel
theorem dX4_append_40 : decode cX4_append 40 = .ok (.athrow, 1) := by decide +kernel
theorem dX4_append_41 : decode cX4_append 41 = .ok (.aload_n 0, 1) := by decide +kernel
theorem dX4_append_42 : decode cX4_append 42 = .ok (.getfield 39, 3) := by decide +kernel
theorem dX4_append_45 : decode cX4_append 45 = .ok (.iload_n 1, 1) := by decide +kernel
theorem dX4_append_46 : decode cX4_append 46 = .ok (.invokevirtual 63, 3) := by decide +kernel
theorem dX4_append_49 : decode cX4_append 49 = .ok (.ireturn, 1) := by decide +kernel
theorem dX4_clearText_0 : decode cX4_clearText 0 = .ok (.aload_n 0, 1) := by decide +kernel
theorem dX4_clearText_1 : decode cX4_clearText 1 = .ok (.getfield 39, 3) := by decide +kernel
theorem dX4_clearText_4 : decode cX4_clearText 4 = .ok (.invokevirtual 67, 3) := by decide +kernel
theorem dX4_clearText_7 : decode cX4_clearText 7 = .ok (.ireturn, 1) := by decide +kernel
theorem dX4_errorPosition_0 : decode cX4_errorPosition 0 = .ok (.aload_n 0, 1) := by decide +kernel
theorem dX4_errorPosition_1 : decode cX4_errorPosition 1 = .ok (.getfield 39, 3) := by decide +kernel
theorem dX4_errorPosition_4 : decode cX4_errorPosition 4 = .ok (.invokevirtual 71, 3) := by decide +kernel
theorem dX4_errorPosition_7 : decode cX4_errorPosition 7 = .ok (.ireturn, 1) := by decide +kernel
theorem dX4_load_0 : decode cX4_load 0 = .ok (.aload_n 0, 1) := by decide +kernel
theorem dX4_load_1 : decode cX4_load 1 = .ok (.getfield 39, 3) := by decide +kernel
theorem dX4_load_4 : decode cX4_load 4 = .ok (.invokevirtual 71, 3) := by decide +kernel
theorem dX4_load_7 : decode cX4_load 7 = .ok (.iconst (-1), 1) := by decide +kernel
theorem dX4_load_8 : decode cX4_load 8 = .ok (.if_icmp .eq 13, 3) := by decide +kernel
theorem dX4_load_11 : decode cX4_load 11 = .ok (.new 58, 3) := by decide +kernel
theorem dX4_load_14 : decode cX4_load 14 = .ok (.dup, 1) := by decide +kernel
theorem dX4_load_15 : decode cX4_load 15 = .ok (.ldc 74, 2) := by decide +kernel
theorem dX4_load_17 : decode cX4_load 17 = .ok (.invokespecial 62, 3) := by decide +kernel
theorem dX4_load_20 : decode cX4_load 20 = .ok (.athrow, 1) := by decide +kernel
theorem dX4_load_21 : decode cX4_load 21 = .ok (.aload_n 0, 1) := by decide +kernel
theorem dX4_load_22 : decode cX4_load 22 = .ok (.getfield 10, 3) := by decide +kernel
theorem dX4_load_25 : decode cX4_load 25 = .ok (.invokevirtual 76, 3) := by decide +kernel
theorem dX4_load_28 : decode cX4_load 28 = .ok (.aload_n 0, 1) := by decide +kernel
theorem dX4_load_29 : decode cX4_load 29 = .ok (.getfield 22, 3) := by decide +kernel
theorem dX4_load_32 : decode cX4_load 32 = .ok (.invokevirtual 79, 3) := by decide +kernel
theorem dX4_load_35 : decode cX4_load 35 = .ok (.aload_n 0, 1) := by decide +kernel
theorem dX4_load_36 : decode cX4_load 36 = .ok (.getfield 29, 3) := by decide +kernel
theorem dX4_load_39 : decode cX4_load 39 = .ok (.iconst 0, 1) := by decide +kernel
theorem dX4_load_40 : decode cX4_load 40 = .ok (.putfield 82, 3) := by decide +kernel
theorem dX4_load_43 : decode cX4_load 43 = .ok (.aload_n 0, 1) := by decide +kernel
theorem dX4_load_44 : decode cX4_load 44 = .ok (.getfield 33, 3) := by decide +kernel
theorem dX4_load_47 : decode cX4_load 47 = .ok (.iconst 0, 1) := by decide +kernel
theorem dX4_load_48 : decode cX4_load 48 = .ok (.putfield 82, 3) := by decide +kernel
theorem dX4_load_51 : decode cX4_load 51 = .ok (.iconst 0, 1) := by decide +kernel
theorem dX4_load_52 : decode cX4_load 52 = .ok (.istore_n 1, 1) := by decide +kernel
theorem dX4_load_53 : decode cX4_load 53 = .ok (.aload_n 0, 1) := by decide +kernel
theorem dX4_load_54 : decode cX4_load 54 = .ok (.getfield 39, 3) := by decide +kernel
theorem dX4_load_57 : decode cX4_load 57 = .ok (.invokevirtual 86, 3) := by decide +kernel
theorem dX4_load_60 : decode cX4_load 60 = .ok (.iconst 0, 1) := by decide +kernel
theorem dX4_load_61 : decode cX4_load 61 = .ok (.istore_n 2, 1) := by decide +kernel
theorem dX4_load_62 : decode cX4_load 62 = .ok (.iload_n 2, 1) := by decide +kernel
theorem dX4_load_63 : decode cX4_load 63 = .ok (.bipush 120, 2) := by decide +kernel
theorem dX4_load_65 : decode cX4_load 65 = .ok (.if_icmp .ge 29, 3) := by decide +kernel
theorem dX4_load_68 : decode cX4_load 68 = .ok (.aload_n 0, 1) := by decide +kernel
theorem dX4_load_69 : decode cX4_load 69 = .ok (.getfield 39, 3) := by decide +kernel
theorem dX4_load_72 : decode cX4_load 72 = .ok (.invokevirtual 89, 3) := by decide +kernel
theorem dX4_load_75 : decode cX4_load 75 = .ok (.ifCond .eq 19, 3) := by decide +kernel
theorem dX4_load_78 : decode cX4_load 78 = .ok (.aload_n 0, 1) := by decide +kernel
theorem dX4_load_79 : decode cX4_load 79 = .ok (.invokevirtual 92, 3) := by decide +kernel
theorem dX4_load_82 : decode cX4_load 82 = .ok (.ifCond .ge 6, 3) := by decide +kernel
theorem dX4_load_85 : decode cX4_load 85 = .ok (.iinc 1 1, 3) := by decide +kernel
theorem dX4_load_88 : decode cX4_load 88 = .ok (.iinc 2 1, 3) := by decide +kernel
theorem dX4_load_91 : decode cX4_load 91 = .ok (.goto (-29), 3) := by decide +kernel
theorem dX4_load_94 : decode cX4_load 94 = .ok (.iload_n 1, 1) := by decide +kernel
theorem dX4_load_95 : decode cX4_load 95 = .ok (.ireturn, 1) := by decide +kernel
theorem dX4_about_0 : decode cX4_about 0 = .ok (.iload_n 1, 1) := by decide +kernel
theorem dX4_about_1 : decode cX4_about 1 = .ok (.iconst 0, 1) := by decide +kernel
theorem dX4_about_2 : decode cX4_about 2 = .ok (.bipush 10, 2) := by decide +kernel
theorem dX4_about_4 : decode cX4_about 4 = .ok (.invokestatic 43, 3) := by decide +kernel
theorem dX4_about_7 : decode cX4_about 7 = .ok (.ifCond .ne 13, 3) := by decide +kernel
theorem dX4_about_10 : decode cX4_about 10 = .ok (.new 47, 3) := by decide +kernel
theorem dX4_about_13 : decode cX4_about 13 = .ok (.dup, 1) := by decide +kernel
theorem dX4_about_14 : decode cX4_about 14 = .ok (.ldc 95, 2) := by decide +kernel
theorem dX4_about_16 : decode cX4_about 16 = .ok (.invokespecial 51, 3) := by decide +kernel
theorem dX4_about_19 : decode cX4_about 19 = .ok (.athrow, 1) := by decide +kernel
theorem dX4_about_20 : decode cX4_about 20 = .ok (.iload_n 1, 1) := by decide +kernel
theorem dX4_about_21 : decode cX4_about 21 = .ok (.tableswitch 51 0 2 #[27, 35, 43], 27) := by decide +kernel
theorem dX4_about_48 : decode cX4_about 48 = .ok (.aload_n 0, 1) := by decide +kernel
theorem dX4_about_49 : decode cX4_about 49 = .ok (.getfield 10, 3) := by decide +kernel
theorem dX4_about_52 : decode cX4_about 52 = .ok (.getfield 97, 3) := by decide +kernel
theorem dX4_about_55 : decode cX4_about 55 = .ok (.ireturn, 1) := by decide +kernel
theorem dX4_about_56 : decode cX4_about 56 = .ok (.aload_n 0, 1) := by decide +kernel
theorem dX4_about_57 : decode cX4_about 57 = .ok (.getfield 10, 3) := by decide +kernel
theorem dX4_about_60 : decode cX4_about 60 = .ok (.getfield 101, 3) := by decide +kernel
theorem dX4_about_63 : decode cX4_about 63 = .ok (.ireturn, 1) := by decide +kernel
theorem dX4_about_64 : decode cX4_about 64 = .ok (.aload_n 0, 1) := by decide +kernel
theorem dX4_about_65 : decode cX4_about 65 = .ok (.getfield 10, 3) := by decide +kernel
theorem dX4_about_68 : decode cX4_about 68 = .ok (.invokevirtual 104, 3) := by decide +kernel
theorem dX4_about_71 : decode cX4_about 71 = .ok (.ireturn, 1) := by decide +kernel
theorem dX4_about_72 : decode cX4_about 72 = .ok (.aload_n 0, 1) := by decide +kernel
theorem dX4_about_73 : decode cX4_about 73 = .ok (.getfield 10, 3) := by decide +kernel
theorem dX4_about_76 : decode cX4_about 76 = .ok (.getfield 107, 3) := by decide +kernel
theorem dX4_about_79 : decode cX4_about 79 = .ok (.iload_n 1, 1) := by decide +kernel
theorem dX4_about_80 : decode cX4_about 80 = .ok (.invokestatic 111, 3) := by decide +kernel
theorem dX4_about_83 : decode cX4_about 83 = .ok (.ireturn, 1) := by decide +kernel
theorem dX4_chairOf_0 : decode cX4_chairOf 0 = .ok (.aload_n 0, 1) := by decide +kernel
theorem dX4_chairOf_1 : decode cX4_chairOf 1 = .ok (.iload_n 1, 1) := by decide +kernel
theorem dX4_chairOf_2 : decode cX4_chairOf 2 = .ok (.invokevirtual 115, 3) := by decide +kernel
theorem dX4_chairOf_5 : decode cX4_chairOf 5 = .ok (.iload_n 2, 1) := by decide +kernel
theorem dX4_chairOf_6 : decode cX4_chairOf 6 = .ok (.tableswitch 146 0 8 #[50, 62, 74, 86, 95, 104, 113, 125, 134], 50) := by decide +kernel
theorem dX4_chairOf_56 : decode cX4_chairOf 56 = .ok (.aload_n 0, 1) := by decide +kernel
theorem dX4_chairOf_57 : decode cX4_chairOf 57 = .ok (.getfield 10, 3) := by decide +kernel
theorem dX4_chairOf_60 : decode cX4_chairOf 60 = .ok (.getfield 119, 3) := by decide +kernel
theorem dX4_chairOf_63 : decode cX4_chairOf 63 = .ok (.iload_n 1, 1) := by decide +kernel
theorem dX4_chairOf_64 : decode cX4_chairOf 64 = .ok (.invokestatic 111, 3) := by decide +kernel
theorem dX4_chairOf_67 : decode cX4_chairOf 67 = .ok (.ireturn, 1) := by decide +kernel
theorem dX4_chairOf_68 : decode cX4_chairOf 68 = .ok (.aload_n 0, 1) := by decide +kernel
theorem dX4_chairOf_69 : decode cX4_chairOf 69 = .ok (.getfield 10, 3) := by decide +kernel
theorem dX4_chairOf_72 : decode cX4_chairOf 72 = .ok (.getfield 122, 3) := by decide +kernel
theorem dX4_chairOf_75 : decode cX4_chairOf 75 = .ok (.iload_n 1, 1) := by decide +kernel
theorem dX4_chairOf_76 : decode cX4_chairOf 76 = .ok (.invokestatic 111, 3) := by decide +kernel
theorem dX4_chairOf_79 : decode cX4_chairOf 79 = .ok (.ireturn, 1) := by decide +kernel
theorem dX4_chairOf_80 : decode cX4_chairOf 80 = .ok (.aload_n 0, 1) := by decide +kernel
theorem dX4_chairOf_81 : decode cX4_chairOf 81 = .ok (.getfield 10, 3) := by decide +kernel
theorem dX4_chairOf_84 : decode cX4_chairOf 84 = .ok (.getfield 125, 3) := by decide +kernel
theorem dX4_chairOf_87 : decode cX4_chairOf 87 = .ok (.iload_n 1, 1) := by decide +kernel
theorem dX4_chairOf_88 : decode cX4_chairOf 88 = .ok (.invokestatic 111, 3) := by decide +kernel
theorem dX4_chairOf_91 : decode cX4_chairOf 91 = .ok (.ireturn, 1) := by decide +kernel
theorem dX4_chairOf_92 : decode cX4_chairOf 92 = .ok (.aload_n 0, 1) := by decide +kernel
theorem dX4_chairOf_93 : decode cX4_chairOf 93 = .ok (.getfield 10, 3) := by decide +kernel
theorem dX4_chairOf_96 : decode cX4_chairOf 96 = .ok (.iload_n 1, 1) := by decide +kernel
theorem dX4_chairOf_97 : decode cX4_chairOf 97 = .ok (.invokevirtual 128, 3) := by decide +kernel
theorem dX4_chairOf_100 : decode cX4_chairOf 100 = .ok (.ireturn, 1) := by decide +kernel
theorem dX4_chairOf_101 : decode cX4_chairOf 101 = .ok (.aload_n 0, 1) := by decide +kernel
theorem dX4_chairOf_102 : decode cX4_chairOf 102 = .ok (.getfield 10, 3) := by decide +kernel
theorem dX4_chairOf_105 : decode cX4_chairOf 105 = .ok (.iload_n 1, 1) := by decide +kernel
theorem dX4_chairOf_106 : decode cX4_chairOf 106 = .ok (.invokevirtual 131, 3) := by decide +kernel
theorem dX4_chairOf_109 : decode cX4_chairOf 109 = .ok (.ireturn, 1) := by decide +kernel
theorem dX4_chairOf_110 : decode cX4_chairOf 110 = .ok (.aload_n 0, 1) := by decide +kernel
theorem dX4_chairOf_111 : decode cX4_chairOf 111 = .ok (.getfield 10, 3) := by decide +kernel
theorem dX4_chairOf_114 : decode cX4_chairOf 114 = .ok (.iload_n 1, 1) := by decide +kernel
theorem dX4_chairOf_115 : decode cX4_chairOf 115 = .ok (.invokevirtual 134, 3) := by decide +kernel
theorem dX4_chairOf_118 : decode cX4_chairOf 118 = .ok (.ireturn, 1) := by decide +kernel
theorem dX4_chairOf_119 : decode cX4_chairOf 119 = .ok (.aload_n 0, 1) := by decide +kernel
theorem dX4_chairOf_120 : decode cX4_chairOf 120 = .ok (.getfield 10, 3) := by decide +kernel
theorem dX4_chairOf_123 : decode cX4_chairOf 123 = .ok (.getfield 137, 3) := by decide +kernel
theorem dX4_chairOf_126 : decode cX4_chairOf 126 = .ok (.iload_n 1, 1) := by decide +kernel
theorem dX4_chairOf_127 : decode cX4_chairOf 127 = .ok (.invokestatic 111, 3) := by decide +kernel
theorem dX4_chairOf_130 : decode cX4_chairOf 130 = .ok (.ireturn, 1) := by decide +kernel
theorem dX4_chairOf_131 : decode cX4_chairOf 131 = .ok (.aload_n 0, 1) := by decide +kernel
theorem dX4_chairOf_132 : decode cX4_chairOf 132 = .ok (.getfield 10, 3) := by decide +kernel
theorem dX4_chairOf_135 : decode cX4_chairOf 135 = .ok (.iload_n 1, 1) := by decide +kernel
theorem dX4_chairOf_136 : decode cX4_chairOf 136 = .ok (.invokevirtual 140, 3) := by decide +kernel
theorem dX4_chairOf_139 : decode cX4_chairOf 139 = .ok (.ireturn, 1) := by decide +kernel
theorem dX4_chairOf_140 : decode cX4_chairOf 140 = .ok (.aload_n 0, 1) := by decide +kernel
theorem dX4_chairOf_141 : decode cX4_chairOf 141 = .ok (.getfield 10, 3) := by decide +kernel
theorem dX4_chairOf_144 : decode cX4_chairOf 144 = .ok (.getfield 143, 3) := by decide +kernel
theorem dX4_chairOf_147 : decode cX4_chairOf 147 = .ok (.iload_n 1, 1) := by decide +kernel
theorem dX4_chairOf_148 : decode cX4_chairOf 148 = .ok (.invokestatic 111, 3) := by decide +kernel
theorem dX4_chairOf_151 : decode cX4_chairOf 151 = .ok (.ireturn, 1) := by decide +kernel
theorem dX4_chairOf_152 : decode cX4_chairOf 152 = .ok (.new 47, 3) := by decide +kernel
theorem dX4_chairOf_155 : decode cX4_chairOf 155 = .ok (.dup, 1) := by decide +kernel
theorem dX4_chairOf_156 : decode cX4_chairOf 156 = .ok (.ldc 146, 2) := by decide +kernel
theorem dX4_chairOf_158 : decode cX4_chairOf 158 = .ok (.invokespecial 51, 3) := by decide +kernel
theorem dX4_chairOf_161 : decode cX4_chairOf 161 = .ok (.athrow, 1) := by decide +kernel
theorem dX4_wobble_0 : decode cX4_wobble 0 = .ok (.aload_n 0, 1) := by decide +kernel
theorem dX4_wobble_1 : decode cX4_wobble 1 = .ok (.iload_n 1, 1) := by decide +kernel
theorem dX4_wobble_2 : decode cX4_wobble 2 = .ok (.invokevirtual 115, 3) := by decide +kernel
theorem dX4_wobble_5 : decode cX4_wobble 5 = .ok (.iload_n 2, 1) := by decide +kernel
theorem dX4_wobble_6 : decode cX4_wobble 6 = .ok (.iconst 0, 1) := by decide +kernel
theorem dX4_wobble_7 : decode cX4_wobble 7 = .ok (.iconst 1, 1) := by decide +kernel
theorem dX4_wobble_8 : decode cX4_wobble 8 = .ok (.invokestatic 43, 3) := by decide +kernel
theorem dX4_wobble_11 : decode cX4_wobble 11 = .ok (.ifCond .ne 13, 3) := by decide +kernel
theorem dX4_wobble_14 : decode cX4_wobble 14 = .ok (.new 47, 3) := by decide +kernel
theorem dX4_wobble_17 : decode cX4_wobble 17 = .ok (.dup, 1) := by decide +kernel
theorem dX4_wobble_18 : decode cX4_wobble 18 = .ok (.ldc 148, 2) := by decide +kernel
theorem dX4_wobble_20 : decode cX4_wobble 20 = .ok (.invokespecial 51, 3) := by decide +kernel
theorem dX4_wobble_23 : decode cX4_wobble 23 = .ok (.athrow, 1) := by decide +kernel
theorem dX4_wobble_24 : decode cX4_wobble 24 = .ok (.iload_n 2, 1) := by decide +kernel
theorem dX4_wobble_25 : decode cX4_wobble 25 = .ok (.ifCond .ne 14, 3) := by decide +kernel
theorem dX4_wobble_28 : decode cX4_wobble 28 = .ok (.aload_n 0, 1) := by decide +kernel
theorem dX4_wobble_29 : decode cX4_wobble 29 = .ok (.getfield 10, 3) := by decide +kernel
theorem dX4_wobble_32 : decode cX4_wobble 32 = .ok (.iload_n 1, 1) := by decide +kernel
theorem dX4_wobble_33 : decode cX4_wobble 33 = .ok (.invokevirtual 150, 3) := by decide +kernel
theorem dX4_wobble_36 : decode cX4_wobble 36 = .ok (.goto 11, 3) := by decide +kernel
theorem dX4_wobble_39 : decode cX4_wobble 39 = .ok (.aload_n 0, 1) := by decide +kernel
theorem dX4_wobble_40 : decode cX4_wobble 40 = .ok (.getfield 10, 3) := by decide +kernel
theorem dX4_wobble_43 : decode cX4_wobble 43 = .ok (.iload_n 1, 1) := by decide +kernel
theorem dX4_wobble_44 : decode cX4_wobble 44 = .ok (.invokevirtual 153, 3) := by decide +kernel
theorem dX4_wobble_47 : decode cX4_wobble 47 = .ok (.ireturn, 1) := by decide +kernel
theorem dX4_legOf_0 : decode cX4_legOf 0 = .ok (.aload_n 0, 1) := by decide +kernel
theorem dX4_legOf_1 : decode cX4_legOf 1 = .ok (.iload_n 1, 1) := by decide +kernel
theorem dX4_legOf_2 : decode cX4_legOf 2 = .ok (.invokevirtual 115, 3) := by decide +kernel
theorem dX4_legOf_5 : decode cX4_legOf 5 = .ok (.iload_n 2, 1) := by decide +kernel
theorem dX4_legOf_6 : decode cX4_legOf 6 = .ok (.invokestatic 156, 3) := by decide +kernel
theorem dX4_legOf_9 : decode cX4_legOf 9 = .ok (.iload_n 3, 1) := by decide +kernel
theorem dX4_legOf_10 : decode cX4_legOf 10 = .ok (.tableswitch 62 0 2 #[26, 36, 46], 26) := by decide +kernel
theorem dX4_legOf_36 : decode cX4_legOf 36 = .ok (.aload_n 0, 1) := by decide +kernel
theorem dX4_legOf_37 : decode cX4_legOf 37 = .ok (.getfield 10, 3) := by decide +kernel
theorem dX4_legOf_40 : decode cX4_legOf 40 = .ok (.iload_n 1, 1) := by decide +kernel
theorem dX4_legOf_41 : decode cX4_legOf 41 = .ok (.iload_n 2, 1) := by decide +kernel
theorem dX4_legOf_42 : decode cX4_legOf 42 = .ok (.invokevirtual 159, 3) := by decide +kernel
theorem dX4_legOf_45 : decode cX4_legOf 45 = .ok (.ireturn, 1) := by decide +kernel
theorem dX4_legOf_46 : decode cX4_legOf 46 = .ok (.aload_n 0, 1) := by decide +kernel
theorem dX4_legOf_47 : decode cX4_legOf 47 = .ok (.getfield 10, 3) := by decide +kernel
theorem dX4_legOf_50 : decode cX4_legOf 50 = .ok (.iload_n 1, 1) := by decide +kernel
theorem dX4_legOf_51 : decode cX4_legOf 51 = .ok (.iload_n 2, 1) := by decide +kernel
theorem dX4_legOf_52 : decode cX4_legOf 52 = .ok (.invokevirtual 163, 3) := by decide +kernel
theorem dX4_legOf_55 : decode cX4_legOf 55 = .ok (.ireturn, 1) := by decide +kernel
theorem dX4_legOf_56 : decode cX4_legOf 56 = .ok (.iload_n 2, 1) := by decide +kernel
theorem dX4_legOf_57 : decode cX4_legOf 57 = .ok (.aload_n 0, 1) := by decide +kernel
theorem dX4_legOf_58 : decode cX4_legOf 58 = .ok (.getfield 10, 3) := by decide +kernel
theorem dX4_legOf_61 : decode cX4_legOf 61 = .ok (.getfield 125, 3) := by decide +kernel
theorem dX4_legOf_64 : decode cX4_legOf 64 = .ok (.iload_n 1, 1) := by decide +kernel
theorem dX4_legOf_65 : decode cX4_legOf 65 = .ok (.invokestatic 111, 3) := by decide +kernel
theorem dX4_legOf_68 : decode cX4_legOf 68 = .ok (.iadd, 1) := by decide +kernel
theorem dX4_legOf_69 : decode cX4_legOf 69 = .ok (.iconst 4, 1) := by decide +kernel
theorem dX4_legOf_70 : decode cX4_legOf 70 = .ok (.irem, 1) := by decide +kernel
theorem dX4_legOf_71 : decode cX4_legOf 71 = .ok (.ireturn, 1) := by decide +kernel
theorem dX4_legOf_72 : decode cX4_legOf 72 = .ok (.new 47, 3) := by decide +kernel
theorem dX4_legOf_75 : decode cX4_legOf 75 = .ok (.dup, 1) := by decide +kernel
theorem dX4_legOf_76 : decode cX4_legOf 76 = .ok (.ldc 166, 2) := by decide +kernel
theorem dX4_legOf_78 : decode cX4_legOf 78 = .ok (.invokespecial 51, 3) := by decide +kernel
theorem dX4_legOf_81 : decode cX4_legOf 81 = .ok (.athrow, 1) := by decide +kernel
theorem dX4_spot_0 : decode cX4_spot 0 = .ok (.aload_n 0, 1) := by decide +kernel
theorem dX4_spot_1 : decode cX4_spot 1 = .ok (.iload_n 1, 1) := by decide +kernel
theorem dX4_spot_2 : decode cX4_spot 2 = .ok (.invokevirtual 168, 3) := by decide +kernel
theorem dX4_spot_5 : decode cX4_spot 5 = .ok (.iload_n 2, 1) := by decide +kernel
theorem dX4_spot_6 : decode cX4_spot 6 = .ok (.invokestatic 156, 3) := by decide +kernel
theorem dX4_spot_9 : decode cX4_spot 9 = .ok (.aload_n 0, 1) := by decide +kernel
theorem dX4_spot_10 : decode cX4_spot 10 = .ok (.getfield 10, 3) := by decide +kernel
theorem dX4_spot_13 : decode cX4_spot 13 = .ok (.iload_n 1, 1) := by decide +kernel
theorem dX4_spot_14 : decode cX4_spot 14 = .ok (.iload_n 2, 1) := by decide +kernel
theorem dX4_spot_15 : decode cX4_spot 15 = .ok (.invokevirtual 171, 3) := by decide +kernel
theorem dX4_spot_18 : decode cX4_spot 18 = .ok (.ireturn, 1) := by decide +kernel
theorem dX4_boundOf_0 : decode cX4_boundOf 0 = .ok (.iload_n 1, 1) := by decide +kernel
theorem dX4_boundOf_1 : decode cX4_boundOf 1 = .ok (.invokestatic 156, 3) := by decide +kernel
theorem dX4_boundOf_4 : decode cX4_boundOf 4 = .ok (.iload_n 2, 1) := by decide +kernel
theorem dX4_boundOf_5 : decode cX4_boundOf 5 = .ok (.invokestatic 156, 3) := by decide +kernel
theorem dX4_boundOf_8 : decode cX4_boundOf 8 = .ok (.aload_n 0, 1) := by decide +kernel
theorem dX4_boundOf_9 : decode cX4_boundOf 9 = .ok (.getfield 10, 3) := by decide +kernel
theorem dX4_boundOf_12 : decode cX4_boundOf 12 = .ok (.iload_n 1, 1) := by decide +kernel
theorem dX4_boundOf_13 : decode cX4_boundOf 13 = .ok (.iload_n 2, 1) := by decide +kernel
theorem dX4_boundOf_14 : decode cX4_boundOf 14 = .ok (.invokevirtual 174, 3) := by decide +kernel
theorem dX4_boundOf_17 : decode cX4_boundOf 17 = .ok (.ireturn, 1) := by decide +kernel
theorem dX4_setting_0 : decode cX4_setting 0 = .ok (.iload_n 1, 1) := by decide +kernel
theorem dX4_setting_1 : decode cX4_setting 1 = .ok (.iconst 0, 1) := by decide +kernel
theorem dX4_setting_2 : decode cX4_setting 2 = .ok (.iconst 1, 1) := by decide +kernel
theorem dX4_setting_3 : decode cX4_setting 3 = .ok (.invokestatic 43, 3) := by decide +kernel
theorem dX4_setting_6 : decode cX4_setting 6 = .ok (.ifCond .ne 13, 3) := by decide +kernel
theorem dX4_setting_9 : decode cX4_setting 9 = .ok (.new 47, 3) := by decide +kernel
theorem dX4_setting_12 : decode cX4_setting 12 = .ok (.dup, 1) := by decide +kernel
theorem dX4_setting_13 : decode cX4_setting 13 = .ok (.ldc 177, 2) := by decide +kernel
theorem dX4_setting_15 : decode cX4_setting 15 = .ok (.invokespecial 51, 3) := by decide +kernel
theorem dX4_setting_18 : decode cX4_setting 18 = .ok (.athrow, 1) := by decide +kernel
theorem dX4_setting_19 : decode cX4_setting 19 = .ok (.aload_n 0, 1) := by decide +kernel
theorem dX4_setting_20 : decode cX4_setting 20 = .ok (.getfield 10, 3) := by decide +kernel
theorem dX4_setting_23 : decode cX4_setting 23 = .ok (.getfield 179, 3) := by decide +kernel
theorem dX4_setting_26 : decode cX4_setting 26 = .ok (.iload_n 1, 1) := by decide +kernel
theorem dX4_setting_27 : decode cX4_setting 27 = .ok (.invokestatic 111, 3) := by decide +kernel
theorem dX4_setting_30 : decode cX4_setting 30 = .ok (.ireturn, 1) := by decide +kernel
theorem dX4_chair_0 : decode cX4_chair 0 = .ok (.aload_n 0, 1) := by decide +kernel
theorem dX4_chair_1 : decode cX4_chair 1 = .ok (.getfield 22, 3) := by decide +kernel
theorem dX4_chair_4 : decode cX4_chair 4 = .ok (.aload_n 0, 1) := by decide +kernel
theorem dX4_chair_5 : decode cX4_chair 5 = .ok (.getfield 10, 3) := by decide +kernel
theorem dX4_chair_8 : decode cX4_chair 8 = .ok (.invokevirtual 182, 3) := by decide +kernel
theorem dX4_chair_11 : decode cX4_chair 11 = .ok (.aload_n 0, 1) := by decide +kernel
theorem dX4_chair_12 : decode cX4_chair 12 = .ok (.aload_n 0, 1) := by decide +kernel
theorem dX4_chair_13 : decode cX4_chair 13 = .ok (.getfield 10, 3) := by decide +kernel
theorem dX4_chair_16 : decode cX4_chair 16 = .ok (.iload_n 1, 1) := by decide +kernel
theorem dX4_chair_17 : decode cX4_chair 17 = .ok (.iload_n 2, 1) := by decide +kernel
theorem dX4_chair_18 : decode cX4_chair 18 = .ok (.invokevirtual 186, 3) := by decide +kernel
theorem dX4_chair_21 : decode cX4_chair 21 = .ok (.invokevirtual 189, 3) := by decide +kernel
theorem dX4_chair_24 : decode cX4_chair 24 = .ok (.ireturn, 1) := by decide +kernel
theorem dX4_floor_0 : decode cX4_floor 0 = .ok (.aload_n 0, 1) := by decide +kernel
theorem dX4_floor_1 : decode cX4_floor 1 = .ok (.getfield 22, 3) := by decide +kernel
theorem dX4_floor_4 : decode cX4_floor 4 = .ok (.aload_n 0, 1) := by decide +kernel
theorem dX4_floor_5 : decode cX4_floor 5 = .ok (.getfield 10, 3) := by decide +kernel
theorem dX4_floor_8 : decode cX4_floor 8 = .ok (.invokevirtual 182, 3) := by decide +kernel
theorem dX4_floor_11 : decode cX4_floor 11 = .ok (.aload_n 0, 1) := by decide +kernel
theorem dX4_floor_12 : decode cX4_floor 12 = .ok (.aload_n 0, 1) := by decide +kernel
theorem dX4_floor_13 : decode cX4_floor 13 = .ok (.getfield 10, 3) := by decide +kernel
theorem dX4_floor_16 : decode cX4_floor 16 = .ok (.iload_n 1, 1) := by decide +kernel
theorem dX4_floor_17 : decode cX4_floor 17 = .ok (.iload_n 2, 1) := by decide +kernel
theorem dX4_floor_18 : decode cX4_floor 18 = .ok (.iload_n 3, 1) := by decide +kernel
theorem dX4_floor_19 : decode cX4_floor 19 = .ok (.iload 4, 2) := by decide +kernel
theorem dX4_floor_21 : decode cX4_floor 21 = .ok (.invokevirtual 192, 3) := by decide +kernel
theorem dX4_floor_24 : decode cX4_floor 24 = .ok (.invokevirtual 189, 3) := by decide +kernel
theorem dX4_floor_27 : decode cX4_floor 27 = .ok (.ireturn, 1) := by decide +kernel
theorem dX4_level_0 : decode cX4_level 0 = .ok (.aload_n 0, 1) := by decide +kernel
theorem dX4_level_1 : decode cX4_level 1 = .ok (.getfield 22, 3) := by decide +kernel
theorem dX4_level_4 : decode cX4_level 4 = .ok (.aload_n 0, 1) := by decide +kernel
theorem dX4_level_5 : decode cX4_level 5 = .ok (.getfield 10, 3) := by decide +kernel
theorem dX4_level_8 : decode cX4_level 8 = .ok (.invokevirtual 182, 3) := by decide +kernel
theorem dX4_level_11 : decode cX4_level 11 = .ok (.aload_n 0, 1) := by decide +kernel
theorem dX4_level_12 : decode cX4_level 12 = .ok (.aload_n 0, 1) := by decide +kernel
theorem dX4_level_13 : decode cX4_level 13 = .ok (.getfield 10, 3) := by decide +kernel
theorem dX4_level_16 : decode cX4_level 16 = .ok (.iload_n 1, 1) := by decide +kernel
theorem dX4_level_17 : decode cX4_level 17 = .ok (.iload_n 2, 1) := by decide +kernel
theorem dX4_level_18 : decode cX4_level 18 = .ok (.iload_n 3, 1) := by decide +kernel
theorem dX4_level_19 : decode cX4_level 19 = .ok (.invokevirtual 196, 3) := by decide +kernel
theorem dX4_level_22 : decode cX4_level 22 = .ok (.invokevirtual 189, 3) := by decide +kernel
theorem dX4_level_25 : decode cX4_level 25 = .ok (.ireturn, 1) := by decide +kernel
theorem dX4_bring_0 : decode cX4_bring 0 = .ok (.aload_n 0, 1) := by decide +kernel
theorem dX4_bring_1 : decode cX4_bring 1 = .ok (.getfield 22, 3) := by decide +kernel
theorem dX4_bring_4 : decode cX4_bring 4 = .ok (.aload_n 0, 1) := by decide +kernel
theorem dX4_bring_5 : decode cX4_bring 5 = .ok (.getfield 10, 3) := by decide +kernel
theorem dX4_bring_8 : decode cX4_bring 8 = .ok (.invokevirtual 182, 3) := by decide +kernel
theorem dX4_bring_11 : decode cX4_bring 11 = .ok (.aload_n 0, 1) := by decide +kernel
theorem dX4_bring_12 : decode cX4_bring 12 = .ok (.aload_n 0, 1) := by decide +kernel
theorem dX4_bring_13 : decode cX4_bring 13 = .ok (.getfield 10, 3) := by decide +kernel
theorem dX4_bring_16 : decode cX4_bring 16 = .ok (.iload_n 1, 1) := by decide +kernel
theorem dX4_bring_17 : decode cX4_bring 17 = .ok (.iload_n 2, 1) := by decide +kernel
theorem dX4_bring_18 : decode cX4_bring 18 = .ok (.iload_n 3, 1) := by decide +kernel
theorem dX4_bring_19 : decode cX4_bring 19 = .ok (.invokevirtual 200, 3) := by decide +kernel
theorem dX4_bring_22 : decode cX4_bring 22 = .ok (.invokevirtual 189, 3) := by decide +kernel
theorem dX4_bring_25 : decode cX4_bring 25 = .ok (.ireturn, 1) := by decide +kernel
theorem dX4_saw_0 : decode cX4_saw 0 = .ok (.aload_n 0, 1) := by decide +kernel
theorem dX4_saw_1 : decode cX4_saw 1 = .ok (.getfield 22, 3) := by decide +kernel
theorem dX4_saw_4 : decode cX4_saw 4 = .ok (.aload_n 0, 1) := by decide +kernel
theorem dX4_saw_5 : decode cX4_saw 5 = .ok (.getfield 10, 3) := by decide +kernel
theorem dX4_saw_8 : decode cX4_saw 8 = .ok (.invokevirtual 182, 3) := by decide +kernel
theorem dX4_saw_11 : decode cX4_saw 11 = .ok (.aload_n 0, 1) := by decide +kernel
theorem dX4_saw_12 : decode cX4_saw 12 = .ok (.aload_n 0, 1) := by decide +kernel
theorem dX4_saw_13 : decode cX4_saw 13 = .ok (.getfield 10, 3) := by decide +kernel
theorem dX4_saw_16 : decode cX4_saw 16 = .ok (.iload_n 1, 1) := by decide +kernel
theorem dX4_saw_17 : decode cX4_saw 17 = .ok (.iload_n 2, 1) := by decide +kernel
theorem dX4_saw_18 : decode cX4_saw 18 = .ok (.iload_n 3, 1) := by decide +kernel
theorem dX4_saw_19 : decode cX4_saw 19 = .ok (.invokevirtual 203, 3) := by decide +kernel
theorem dX4_saw_22 : decode cX4_saw 22 = .ok (.invokevirtual 189, 3) := by decide +kernel
theorem dX4_saw_25 : decode cX4_saw 25 = .ok (.ireturn, 1) := by decide +kernel
theorem dX4_shim_0 : decode cX4_shim 0 = .ok (.aload_n 0, 1) := by decide +kernel
theorem dX4_shim_1 : decode cX4_shim 1 = .ok (.getfield 22, 3) := by decide +kernel
theorem dX4_shim_4 : decode cX4_shim 4 = .ok (.aload_n 0, 1) := by decide +kernel
theorem dX4_shim_5 : decode cX4_shim 5 = .ok (.getfield 10, 3) := by decide +kernel
theorem dX4_shim_8 : decode cX4_shim 8 = .ok (.invokevirtual 182, 3) := by decide +kernel
theorem dX4_shim_11 : decode cX4_shim 11 = .ok (.aload_n 0, 1) := by decide +kernel
theorem dX4_shim_12 : decode cX4_shim 12 = .ok (.aload_n 0, 1) := by decide +kernel
theorem dX4_shim_13 : decode cX4_shim 13 = .ok (.getfield 10, 3) := by decide +kernel
theorem dX4_shim_16 : decode cX4_shim 16 = .ok (.iload_n 1, 1) := by decide +kernel
theorem dX4_shim_17 : decode cX4_shim 17 = .ok (.iload_n 2, 1) := by decide +kernel
theorem dX4_shim_18 : decode cX4_shim 18 = .ok (.iload_n 3, 1) := by decide +kernel
theorem dX4_shim_19 : decode cX4_shim 19 = .ok (.invokevirtual 206, 3) := by decide +kernel
theorem dX4_shim_22 : decode cX4_shim 22 = .ok (.invokevirtual 189, 3) := by decide +kernel
theorem dX4_shim_25 : decode cX4_shim 25 = .ok (.ireturn, 1) := by decide +kernel
theorem dX4_test_0 : decode cX4_test 0 = .ok (.aload_n 0, 1) := by decide +kernel
theorem dX4_test_1 : decode cX4_test 1 = .ok (.getfield 22, 3) := by decide +kernel
theorem dX4_test_4 : decode cX4_test 4 = .ok (.aload_n 0, 1) := by decide +kernel
theorem dX4_test_5 : decode cX4_test 5 = .ok (.getfield 10, 3) := by decide +kernel
theorem dX4_test_8 : decode cX4_test 8 = .ok (.invokevirtual 182, 3) := by decide +kernel
theorem dX4_test_11 : decode cX4_test 11 = .ok (.aload_n 0, 1) := by decide +kernel
theorem dX4_test_12 : decode cX4_test 12 = .ok (.aload_n 0, 1) := by decide +kernel
theorem dX4_test_13 : decode cX4_test 13 = .ok (.getfield 10, 3) := by decide +kernel
theorem dX4_test_16 : decode cX4_test 16 = .ok (.iload_n 1, 1) := by decide +kernel
theorem dX4_test_17 : decode cX4_test 17 = .ok (.invokevirtual 209, 3) := by decide +kernel
theorem dX4_test_20 : decode cX4_test 20 = .ok (.invokevirtual 189, 3) := by decide +kernel
theorem dX4_test_23 : decode cX4_test 23 = .ok (.ireturn, 1) := by decide +kernel
theorem dX4_sit_0 : decode cX4_sit 0 = .ok (.aload_n 0, 1) := by decide +kernel
theorem dX4_sit_1 : decode cX4_sit 1 = .ok (.getfield 22, 3) := by decide +kernel
theorem dX4_sit_4 : decode cX4_sit 4 = .ok (.aload_n 0, 1) := by decide +kernel
theorem dX4_sit_5 : decode cX4_sit 5 = .ok (.getfield 10, 3) := by decide +kernel
theorem dX4_sit_8 : decode cX4_sit 8 = .ok (.invokevirtual 182, 3) := by decide +kernel
theorem dX4_sit_11 : decode cX4_sit 11 = .ok (.aload_n 0, 1) := by decide +kernel
theorem dX4_sit_12 : decode cX4_sit 12 = .ok (.aload_n 0, 1) := by decide +kernel
theorem dX4_sit_13 : decode cX4_sit 13 = .ok (.getfield 10, 3) := by decide +kernel
theorem dX4_sit_16 : decode cX4_sit 16 = .ok (.iload_n 1, 1) := by decide +kernel
theorem dX4_sit_17 : decode cX4_sit 17 = .ok (.iload_n 2, 1) := by decide +kernel
theorem dX4_sit_18 : decode cX4_sit 18 = .ok (.invokevirtual 212, 3) := by decide +kernel
theorem dX4_sit_21 : decode cX4_sit 21 = .ok (.invokevirtual 189, 3) := by decide +kernel
theorem dX4_sit_24 : decode cX4_sit 24 = .ok (.ireturn, 1) := by decide +kernel
theorem dX4_bound_0 : decode cX4_bound 0 = .ok (.aload_n 0, 1) := by decide +kernel
theorem dX4_bound_1 : decode cX4_bound 1 = .ok (.getfield 22, 3) := by decide +kernel
theorem dX4_bound_4 : decode cX4_bound 4 = .ok (.aload_n 0, 1) := by decide +kernel
theorem dX4_bound_5 : decode cX4_bound 5 = .ok (.getfield 10, 3) := by decide +kernel
theorem dX4_bound_8 : decode cX4_bound 8 = .ok (.invokevirtual 182, 3) := by decide +kernel
theorem dX4_bound_11 : decode cX4_bound 11 = .ok (.aload_n 0, 1) := by decide +kernel
theorem dX4_bound_12 : decode cX4_bound 12 = .ok (.aload_n 0, 1) := by decide +kernel
theorem dX4_bound_13 : decode cX4_bound 13 = .ok (.getfield 10, 3) := by decide +kernel
theorem dX4_bound_16 : decode cX4_bound 16 = .ok (.iload_n 1, 1) := by decide +kernel
theorem dX4_bound_17 : decode cX4_bound 17 = .ok (.iload_n 2, 1) := by decide +kernel
theorem dX4_bound_18 : decode cX4_bound 18 = .ok (.iload_n 3, 1) := by decide +kernel
theorem dX4_bound_19 : decode cX4_bound 19 = .ok (.invokevirtual 215, 3) := by decide +kernel
theorem dX4_bound_22 : decode cX4_bound 22 = .ok (.invokevirtual 189, 3) := by decide +kernel
theorem dX4_bound_25 : decode cX4_bound 25 = .ok (.ireturn, 1) := by decide +kernel
theorem dX4_set_0 : decode cX4_set 0 = .ok (.aload_n 0, 1) := by decide +kernel
theorem dX4_set_1 : decode cX4_set 1 = .ok (.getfield 22, 3) := by decide +kernel
theorem dX4_set_4 : decode cX4_set 4 = .ok (.aload_n 0, 1) := by decide +kernel
theorem dX4_set_5 : decode cX4_set 5 = .ok (.getfield 10, 3) := by decide +kernel
theorem dX4_set_8 : decode cX4_set 8 = .ok (.invokevirtual 182, 3) := by decide +kernel
theorem dX4_set_11 : decode cX4_set 11 = .ok (.aload_n 0, 1) := by decide +kernel
theorem dX4_set_12 : decode cX4_set 12 = .ok (.aload_n 0, 1) := by decide +kernel
theorem dX4_set_13 : decode cX4_set 13 = .ok (.getfield 10, 3) := by decide +kernel
theorem dX4_set_16 : decode cX4_set 16 = .ok (.iload_n 1, 1) := by decide +kernel
theorem dX4_set_17 : decode cX4_set 17 = .ok (.iload_n 2, 1) := by decide +kernel
theorem dX4_set_18 : decode cX4_set 18 = .ok (.invokevirtual 218, 3) := by decide +kernel
theorem dX4_set_21 : decode cX4_set 21 = .ok (.invokevirtual 189, 3) := by decide +kernel
theorem dX4_set_24 : decode cX4_set 24 = .ok (.ireturn, 1) := by decide +kernel
theorem dX4_undo_0 : decode cX4_undo 0 = .ok (.aload_n 0, 1) := by decide +kernel
theorem dX4_undo_1 : decode cX4_undo 1 = .ok (.getfield 22, 3) := by decide +kernel
theorem dX4_undo_4 : decode cX4_undo 4 = .ok (.getfield 221, 3) := by decide +kernel
theorem dX4_undo_7 : decode cX4_undo 7 = .ok (.ifCond .ne 13, 3) := by decide +kernel
theorem dX4_undo_10 : decode cX4_undo 10 = .ok (.new 58, 3) := by decide +kernel
theorem dX4_undo_13 : decode cX4_undo 13 = .ok (.dup, 1) := by decide +kernel
theorem dX4_undo_14 : decode cX4_undo 14 = .ok (.ldc 224, 2) := by decide +kernel
theorem dX4_undo_16 : decode cX4_undo 16 = .ok (.invokespecial 62, 3) := by decide +kernel
theorem dX4_undo_19 : decode cX4_undo 19 = .ok (.athrow, 1) := by decide +kernel
theorem dX4_undo_20 : decode cX4_undo 20 = .ok (.aload_n 0, 1) := by decide +kernel
theorem dX4_undo_21 : decode cX4_undo 21 = .ok (.getfield 22, 3) := by decide +kernel
theorem dX4_undo_24 : decode cX4_undo 24 = .ok (.aload_n 0, 1) := by decide +kernel
theorem dX4_undo_25 : decode cX4_undo 25 = .ok (.getfield 10, 3) := by decide +kernel
theorem dX4_undo_28 : decode cX4_undo 28 = .ok (.invokevirtual 226, 3) := by decide +kernel
theorem dX4_undo_31 : decode cX4_undo 31 = .ok (.aload_n 0, 1) := by decide +kernel
theorem dX4_undo_32 : decode cX4_undo 32 = .ok (.getfield 22, 3) := by decide +kernel
theorem dX4_undo_35 : decode cX4_undo 35 = .ok (.getfield 221, 3) := by decide +kernel
theorem dX4_undo_38 : decode cX4_undo 38 = .ok (.ireturn, 1) := by decide +kernel
theorem dX4_bestTurn_0 : decode cX4_bestTurn 0 = .ok (.aload_n 0, 1) := by decide +kernel
theorem dX4_bestTurn_1 : decode cX4_bestTurn 1 = .ok (.iload_n 1, 1) := by decide +kernel
theorem dX4_bestTurn_2 : decode cX4_bestTurn 2 = .ok (.invokevirtual 115, 3) := by decide +kernel
theorem dX4_bestTurn_5 : decode cX4_bestTurn 5 = .ok (.aload_n 0, 1) := by decide +kernel
theorem dX4_bestTurn_6 : decode cX4_bestTurn 6 = .ok (.iload_n 2, 1) := by decide +kernel
theorem dX4_bestTurn_7 : decode cX4_bestTurn 7 = .ok (.invokevirtual 168, 3) := by decide +kernel
theorem dX4_bestTurn_10 : decode cX4_bestTurn 10 = .ok (.iload_n 3, 1) := by decide +kernel
theorem dX4_bestTurn_11 : decode cX4_bestTurn 11 = .ok (.iconst 0, 1) := by decide +kernel
theorem dX4_bestTurn_12 : decode cX4_bestTurn 12 = .ok (.iconst 1, 1) := by decide +kernel
theorem dX4_bestTurn_13 : decode cX4_bestTurn 13 = .ok (.invokestatic 43, 3) := by decide +kernel
theorem dX4_bestTurn_16 : decode cX4_bestTurn 16 = .ok (.ifCond .ne 13, 3) := by decide +kernel
theorem dX4_bestTurn_19 : decode cX4_bestTurn 19 = .ok (.new 47, 3) := by decide +kernel
theorem dX4_bestTurn_22 : decode cX4_bestTurn 22 = .ok (.dup, 1) := by decide +kernel
theorem dX4_bestTurn_23 : decode cX4_bestTurn 23 = .ok (.ldc 229, 2) := by decide +kernel
theorem dX4_bestTurn_25 : decode cX4_bestTurn 25 = .ok (.invokespecial 51, 3) := by decide +kernel
theorem dX4_bestTurn_28 : decode cX4_bestTurn 28 = .ok (.athrow, 1) := by decide +kernel
theorem dX4_bestTurn_29 : decode cX4_bestTurn 29 = .ok (.aload_n 0, 1) := by decide +kernel
theorem dX4_bestTurn_30 : decode cX4_bestTurn 30 = .ok (.getfield 10, 3) := by decide +kernel
theorem dX4_bestTurn_33 : decode cX4_bestTurn 33 = .ok (.iload_n 1, 1) := by decide +kernel
theorem dX4_bestTurn_34 : decode cX4_bestTurn 34 = .ok (.iload_n 2, 1) := by decide +kernel
theorem dX4_bestTurn_35 : decode cX4_bestTurn 35 = .ok (.invokevirtual 231, 3) := by decide +kernel
theorem dX4_bestTurn_38 : decode cX4_bestTurn 38 = .ok (.istore 4, 2) := by decide +kernel
theorem dX4_bestTurn_40 : decode cX4_bestTurn 40 = .ok (.iload_n 3, 1) := by decide +kernel
theorem dX4_bestTurn_41 : decode cX4_bestTurn 41 = .ok (.ifCond .ne 8, 3) := by decide +kernel
theorem dX4_bestTurn_44 : decode cX4_bestTurn 44 = .ok (.iload 4, 2) := by decide +kernel
theorem dX4_bestTurn_46 : decode cX4_bestTurn 46 = .ok (.goto 14, 3) := by decide +kernel
theorem dX4_bestTurn_49 : decode cX4_bestTurn 49 = .ok (.aload_n 0, 1) := by decide +kernel
theorem dX4_bestTurn_50 : decode cX4_bestTurn 50 = .ok (.getfield 10, 3) := by decide +kernel
theorem dX4_bestTurn_53 : decode cX4_bestTurn 53 = .ok (.iload_n 1, 1) := by decide +kernel
theorem dX4_bestTurn_54 : decode cX4_bestTurn 54 = .ok (.iload_n 2, 1) := by decide +kernel
theorem dX4_bestTurn_55 : decode cX4_bestTurn 55 = .ok (.iload 4, 2) := by decide +kernel
theorem dX4_bestTurn_57 : decode cX4_bestTurn 57 = .ok (.invokevirtual 234, 3) := by decide +kernel
theorem dX4_bestTurn_60 : decode cX4_bestTurn 60 = .ok (.ireturn, 1) := by decide +kernel
theorem dX4_bestSaw_0 : decode cX4_bestSaw 0 = .ok (.aload_n 0, 1) := by decide +kernel
theorem dX4_bestSaw_1 : decode cX4_bestSaw 1 = .ok (.iload_n 1, 1) := by decide +kernel
theorem dX4_bestSaw_2 : decode cX4_bestSaw 2 = .ok (.invokevirtual 115, 3) := by decide +kernel
theorem dX4_bestSaw_5 : decode cX4_bestSaw 5 = .ok (.aload_n 0, 1) := by decide +kernel
theorem dX4_bestSaw_6 : decode cX4_bestSaw 6 = .ok (.getfield 16, 3) := by decide +kernel
theorem dX4_bestSaw_9 : decode cX4_bestSaw 9 = .ok (.aload_n 0, 1) := by decide +kernel
theorem dX4_bestSaw_10 : decode cX4_bestSaw 10 = .ok (.getfield 10, 3) := by decide +kernel
theorem dX4_bestSaw_13 : decode cX4_bestSaw 13 = .ok (.invokevirtual 237, 3) := by decide +kernel
theorem dX4_bestSaw_16 : decode cX4_bestSaw 16 = .ok (.aload_n 0, 1) := by decide +kernel
theorem dX4_bestSaw_17 : decode cX4_bestSaw 17 = .ok (.getfield 16, 3) := by decide +kernel
theorem dX4_bestSaw_20 : decode cX4_bestSaw 20 = .ok (.iload_n 1, 1) := by decide +kernel
theorem dX4_bestSaw_21 : decode cX4_bestSaw 21 = .ok (.invokevirtual 240, 3) := by decide +kernel
theorem dX4_bestSaw_24 : decode cX4_bestSaw 24 = .ok (.ireturn, 1) := by decide +kernel
theorem dX4_failsIn_0 : decode cX4_failsIn 0 = .ok (.aload_n 0, 1) := by decide +kernel
theorem dX4_failsIn_1 : decode cX4_failsIn 1 = .ok (.iload_n 1, 1) := by decide +kernel
theorem dX4_failsIn_2 : decode cX4_failsIn 2 = .ok (.invokevirtual 115, 3) := by decide +kernel
theorem dX4_failsIn_5 : decode cX4_failsIn 5 = .ok (.iload_n 2, 1) := by decide +kernel
theorem dX4_failsIn_6 : decode cX4_failsIn 6 = .ok (.iconst 1, 1) := by decide +kernel
theorem dX4_failsIn_7 : decode cX4_failsIn 7 = .ok (.sipush 200, 3) := by decide +kernel
theorem dX4_failsIn_10 : decode cX4_failsIn 10 = .ok (.invokestatic 43, 3) := by decide +kernel
theorem dX4_failsIn_13 : decode cX4_failsIn 13 = .ok (.ifCond .ne 13, 3) := by decide +kernel
theorem dX4_failsIn_16 : decode cX4_failsIn 16 = .ok (.new 47, 3) := by decide +kernel
theorem dX4_failsIn_19 : decode cX4_failsIn 19 = .ok (.dup, 1) := by decide +kernel
theorem dX4_failsIn_20 : decode cX4_failsIn 20 = .ok (.ldc 243, 2) := by decide +kernel
theorem dX4_failsIn_22 : decode cX4_failsIn 22 = .ok (.invokespecial 51, 3) := by decide +kernel
theorem dX4_failsIn_25 : decode cX4_failsIn 25 = .ok (.athrow, 1) := by decide +kernel
theorem dX4_failsIn_26 : decode cX4_failsIn 26 = .ok (.aload_n 0, 1) := by decide +kernel
theorem dX4_failsIn_27 : decode cX4_failsIn 27 = .ok (.getfield 16, 3) := by decide +kernel
theorem dX4_failsIn_30 : decode cX4_failsIn 30 = .ok (.aload_n 0, 1) := by decide +kernel
theorem dX4_failsIn_31 : decode cX4_failsIn 31 = .ok (.getfield 10, 3) := by decide +kernel
theorem dX4_failsIn_34 : decode cX4_failsIn 34 = .ok (.invokevirtual 237, 3) := by decide +kernel
theorem dX4_failsIn_37 : decode cX4_failsIn 37 = .ok (.iconst 0, 1) := by decide +kernel
theorem dX4_failsIn_38 : decode cX4_failsIn 38 = .ok (.istore_n 3, 1) := by decide +kernel
theorem dX4_failsIn_39 : decode cX4_failsIn 39 = .ok (.iload_n 3, 1) := by decide +kernel
theorem dX4_failsIn_40 : decode cX4_failsIn 40 = .ok (.bipush 100, 2) := by decide +kernel
theorem dX4_failsIn_42 : decode cX4_failsIn 42 = .ok (.if_icmp .gt 32, 3) := by decide +kernel
theorem dX4_failsIn_45 : decode cX4_failsIn 45 = .ok (.aload_n 0, 1) := by decide +kernel
theorem dX4_failsIn_46 : decode cX4_failsIn 46 = .ok (.getfield 16, 3) := by decide +kernel
theorem dX4_failsIn_49 : decode cX4_failsIn 49 = .ok (.iload_n 1, 1) := by decide +kernel
theorem dX4_failsIn_50 : decode cX4_failsIn 50 = .ok (.invokevirtual 140, 3) := by decide +kernel
theorem dX4_failsIn_53 : decode cX4_failsIn 53 = .ok (.ifCond .eq 5, 3) := by decide +kernel
theorem dX4_failsIn_56 : decode cX4_failsIn 56 = .ok (.iload_n 3, 1) := by decide +kernel
theorem dX4_failsIn_57 : decode cX4_failsIn 57 = .ok (.ireturn, 1) := by decide +kernel
theorem dX4_failsIn_58 : decode cX4_failsIn 58 = .ok (.aload_n 0, 1) := by decide +kernel
theorem dX4_failsIn_59 : decode cX4_failsIn 59 = .ok (.getfield 16, 3) := by decide +kernel
theorem dX4_failsIn_62 : decode cX4_failsIn 62 = .ok (.iload_n 1, 1) := by decide +kernel
theorem dX4_failsIn_63 : decode cX4_failsIn 63 = .ok (.iload_n 2, 1) := by decide +kernel
theorem dX4_failsIn_64 : decode cX4_failsIn 64 = .ok (.invokevirtual 212, 3) := by decide +kernel
theorem dX4_failsIn_67 : decode cX4_failsIn 67 = .ok (.pop, 1) := by decide +kernel
theorem dX4_failsIn_68 : decode cX4_failsIn 68 = .ok (.iinc 3 1, 3) := by decide +kernel
theorem dX4_failsIn_71 : decode cX4_failsIn 71 = .ok (.goto (-32), 3) := by decide +kernel
theorem dX4_failsIn_74 : decode cX4_failsIn 74 = .ok (.iconst (-1), 1) := by decide +kernel
theorem dX4_failsIn_75 : decode cX4_failsIn 75 = .ok (.ireturn, 1) := by decide +kernel
theorem dX4_bestFloor_0 : decode cX4_bestFloor 0 = .ok (.aload_n 0, 1) := by decide +kernel
theorem dX4_bestFloor_1 : decode cX4_bestFloor 1 = .ok (.iload_n 1, 1) := by decide +kernel
theorem dX4_bestFloor_2 : decode cX4_bestFloor 2 = .ok (.invokevirtual 115, 3) := by decide +kernel
theorem dX4_bestFloor_5 : decode cX4_bestFloor 5 = .ok (.aload_n 0, 1) := by decide +kernel
theorem dX4_bestFloor_6 : decode cX4_bestFloor 6 = .ok (.getfield 10, 3) := by decide +kernel
theorem dX4_bestFloor_9 : decode cX4_bestFloor 9 = .ok (.iload_n 1, 1) := by decide +kernel
theorem dX4_bestFloor_10 : decode cX4_bestFloor 10 = .ok (.invokevirtual 245, 3) := by decide +kernel
theorem dX4_bestFloor_13 : decode cX4_bestFloor 13 = .ok (.ireturn, 1) := by decide +kernel
theorem dX4_sound_0 : decode cX4_sound 0 = .ok (.iconst 0, 1) := by decide +kernel
theorem dX4_sound_1 : decode cX4_sound 1 = .ok (.istore_n 1, 1) := by decide +kernel
theorem dX4_sound_2 : decode cX4_sound 2 = .ok (.iconst 0, 1) := by decide +kernel
theorem dX4_sound_3 : decode cX4_sound 3 = .ok (.istore_n 2, 1) := by decide +kernel
theorem dX4_sound_4 : decode cX4_sound 4 = .ok (.iload_n 2, 1) := by decide +kernel
theorem dX4_sound_5 : decode cX4_sound 5 = .ok (.aload_n 0, 1) := by decide +kernel
theorem dX4_sound_6 : decode cX4_sound 6 = .ok (.getfield 10, 3) := by decide +kernel
theorem dX4_sound_9 : decode cX4_sound 9 = .ok (.getfield 97, 3) := by decide +kernel
theorem dX4_sound_12 : decode cX4_sound 12 = .ok (.if_icmp .ge 26, 3) := by decide +kernel
theorem dX4_sound_15 : decode cX4_sound 15 = .ok (.aload_n 0, 1) := by decide +kernel
theorem dX4_sound_16 : decode cX4_sound 16 = .ok (.getfield 10, 3) := by decide +kernel
theorem dX4_sound_19 : decode cX4_sound 19 = .ok (.iload_n 2, 1) := by decide +kernel
theorem dX4_sound_20 : decode cX4_sound 20 = .ok (.invokevirtual 140, 3) := by decide +kernel
theorem dX4_sound_23 : decode cX4_sound 23 = .ok (.ifCond .ne 9, 3) := by decide +kernel
theorem dX4_sound_26 : decode cX4_sound 26 = .ok (.iload_n 1, 1) := by decide +kernel
theorem dX4_sound_27 : decode cX4_sound 27 = .ok (.iconst 1, 1) := by decide +kernel
theorem dX4_sound_28 : decode cX4_sound 28 = .ok (.iload_n 2, 1) := by decide +kernel
theorem dX4_sound_29 : decode cX4_sound 29 = .ok (.ishl, 1) := by decide +kernel
theorem dX4_sound_30 : decode cX4_sound 30 = .ok (.ior, 1) := by decide +kernel
theorem dX4_sound_31 : decode cX4_sound 31 = .ok (.istore_n 1, 1) := by decide +kernel
theorem dX4_sound_32 : decode cX4_sound 32 = .ok (.iinc 2 1, 3) := by decide +kernel
theorem dX4_sound_35 : decode cX4_sound 35 = .ok (.goto (-31), 3) := by decide +kernel
theorem dX4_sound_38 : decode cX4_sound 38 = .ok (.iload_n 1, 1) := by decide +kernel
theorem dX4_sound_39 : decode cX4_sound 39 = .ok (.ireturn, 1) := by decide +kernel
theorem dX4_runScript_0 : decode cX4_runScript 0 = .ok (.iload_n 1, 1) := by decide +kernel
theorem dX4_runScript_1 : decode cX4_runScript 1 = .ok (.iconst 1, 1) := by decide +kernel
theorem dX4_runScript_2 : decode cX4_runScript 2 = .ok (.iconst 3, 1) := by decide +kernel
theorem dX4_runScript_3 : decode cX4_runScript 3 = .ok (.invokestatic 43, 3) := by decide +kernel
theorem dX4_runScript_6 : decode cX4_runScript 6 = .ok (.ifCond .eq 19, 3) := by decide +kernel
theorem dX4_runScript_9 : decode cX4_runScript 9 = .ok (.lload_n 2, 1) := by decide +kernel
theorem dX4_runScript_10 : decode cX4_runScript 10 = .ok (.lconst 0, 1) := by decide +kernel
theorem dX4_runScript_11 : decode cX4_runScript 11 = .ok (.lcmp, 1) := by decide +kernel
theorem dX4_runScript_12 : decode cX4_runScript 12 = .ok (.ifCond .lt 13, 3) := by decide +kernel
theorem dX4_runScript_15 : decode cX4_runScript 15 = .ok (.lload_n 2, 1) := by decide +kernel
theorem dX4_runScript_16 : decode cX4_runScript 16 = .ok (.iload_n 1, 1) := by decide +kernel
theorem dX4_runScript_17 : decode cX4_runScript 17 = .ok (.invokestatic 248, 3) := by decide +kernel
theorem dX4_runScript_20 : decode cX4_runScript 20 = .ok (.lconst 0, 1) := by decide +kernel
theorem dX4_runScript_21 : decode cX4_runScript 21 = .ok (.lcmp, 1) := by decide +kernel
theorem dX4_runScript_22 : decode cX4_runScript 22 = .ok (.ifCond .eq 13, 3) := by decide +kernel
theorem dX4_runScript_25 : decode cX4_runScript 25 = .ok (.new 47, 3) := by decide +kernel
theorem dX4_runScript_28 : decode cX4_runScript 28 = .ok (.dup, 1) := by decide +kernel
theorem dX4_runScript_29 : decode cX4_runScript 29 = .ok (.ldc 252, 2) := by decide +kernel
theorem dX4_runScript_31 : decode cX4_runScript 31 = .ok (.invokespecial 51, 3) := by decide +kernel
theorem dX4_runScript_34 : decode cX4_runScript 34 = .ok (.athrow, 1) := by decide +kernel
theorem dX4_runScript_35 : decode cX4_runScript 35 = .ok (.aload_n 0, 1) := by decide +kernel
theorem dX4_runScript_36 : decode cX4_runScript 36 = .ok (.getfield 16, 3) := by decide +kernel
theorem dX4_runScript_39 : decode cX4_runScript 39 = .ok (.aload_n 0, 1) := by decide +kernel
theorem dX4_runScript_40 : decode cX4_runScript 40 = .ok (.getfield 10, 3) := by decide +kernel
theorem dX4_runScript_43 : decode cX4_runScript 43 = .ok (.invokevirtual 237, 3) := by decide +kernel
theorem dX4_runScript_46 : decode cX4_runScript 46 = .ok (.iconst 0, 1) := by decide +kernel
theorem dX4_runScript_47 : decode cX4_runScript 47 = .ok (.istore 4, 2) := by decide +kernel
theorem dX4_runScript_49 : decode cX4_runScript 49 = .ok (.iload 4, 2) := by decide +kernel
theorem dX4_runScript_51 : decode cX4_runScript 51 = .ok (.iload_n 1, 1) := by decide +kernel
theorem dX4_runScript_52 : decode cX4_runScript 52 = .ok (.if_icmp .ge 41, 3) := by decide +kernel
theorem dX4_runScript_55 : decode cX4_runScript 55 = .ok (.lload_n 2, 1) := by decide +kernel
theorem dX4_runScript_56 : decode cX4_runScript 56 = .ok (.iload_n 1, 1) := by decide +kernel
theorem dX4_runScript_57 : decode cX4_runScript 57 = .ok (.iconst 1, 1) := by decide +kernel
theorem dX4_runScript_58 : decode cX4_runScript 58 = .ok (.isub, 1) := by decide +kernel
theorem dX4_runScript_59 : decode cX4_runScript 59 = .ok (.iload 4, 2) := by decide +kernel
theorem dX4_runScript_61 : decode cX4_runScript 61 = .ok (.isub, 1) := by decide +kernel
theorem dX4_runScript_62 : decode cX4_runScript 62 = .ok (.invokestatic 248, 3) := by decide +kernel
theorem dX4_runScript_65 : decode cX4_runScript 65 = .ok (.ldc2_w 254, 3) := by decide +kernel
theorem dX4_runScript_68 : decode cX4_runScript 68 = .ok (.lrem, 1) := by decide +kernel
theorem dX4_runScript_69 : decode cX4_runScript 69 = .ok (.l2i, 1) := by decide +kernel
theorem dX4_runScript_70 : decode cX4_runScript 70 = .ok (.istore 5, 2) := by decide +kernel
theorem dX4_runScript_72 : decode cX4_runScript 72 = .ok (.aload_n 0, 1) := by decide +kernel
theorem dX4_runScript_73 : decode cX4_runScript 73 = .ok (.getfield 16, 3) := by decide +kernel
theorem dX4_runScript_76 : decode cX4_runScript 76 = .ok (.iload 5, 2) := by decide +kernel
theorem dX4_runScript_78 : decode cX4_runScript 78 = .ok (.invokestatic 256, 3) := by decide +kernel
theorem dX4_runScript_81 : decode cX4_runScript 81 = .ok (.ifCond .ne 6, 3) := by decide +kernel
theorem dX4_runScript_84 : decode cX4_runScript 84 = .ok (.iload 4, 2) := by decide +kernel
theorem dX4_runScript_86 : decode cX4_runScript 86 = .ok (.ireturn, 1) := by decide +kernel
theorem dX4_runScript_87 : decode cX4_runScript 87 = .ok (.iinc 4 1, 3) := by decide +kernel
theorem dX4_runScript_90 : decode cX4_runScript 90 = .ok (.goto (-41), 3) := by decide +kernel
theorem dX4_runScript_93 : decode cX4_runScript 93 = .ok (.iconst (-1), 1) := by decide +kernel
theorem dX4_runScript_94 : decode cX4_runScript 94 = .ok (.ireturn, 1) := by decide +kernel
theorem dX4_simulate_0 : decode cX4_simulate 0 = .ok (.iload_n 3, 1) := by decide +kernel
theorem dX4_simulate_1 : decode cX4_simulate 1 = .ok (.iconst 1, 1) := by decide +kernel
theorem dX4_simulate_2 : decode cX4_simulate 2 = .ok (.bipush 60, 2) := by decide +kernel
theorem dX4_simulate_4 : decode cX4_simulate 4 = .ok (.invokestatic 43, 3) := by decide +kernel
theorem dX4_simulate_7 : decode cX4_simulate 7 = .ok (.ifCond .ne 14, 3) := by decide +kernel
theorem dX4_simulate_10 : decode cX4_simulate 10 = .ok (.new 47, 3) := by decide +kernel
theorem dX4_simulate_13 : decode cX4_simulate 13 = .ok (.dup, 1) := by decide +kernel
theorem dX4_simulate_14 : decode cX4_simulate 14 = .ok (.ldc_w 260, 3) := by decide +kernel
theorem dX4_simulate_17 : decode cX4_simulate 17 = .ok (.invokespecial 51, 3) := by decide +kernel
theorem dX4_simulate_20 : decode cX4_simulate 20 = .ok (.athrow, 1) := by decide +kernel
theorem dX4_simulate_21 : decode cX4_simulate 21 = .ok (.aload_n 0, 1) := by decide +kernel
theorem dX4_simulate_22 : decode cX4_simulate 22 = .ok (.getfield 16, 3) := by decide +kernel
theorem dX4_simulate_25 : decode cX4_simulate 25 = .ok (.aload_n 0, 1) := by decide +kernel
theorem dX4_simulate_26 : decode cX4_simulate 26 = .ok (.getfield 10, 3) := by decide +kernel
theorem dX4_simulate_29 : decode cX4_simulate 29 = .ok (.invokevirtual 237, 3) := by decide +kernel
theorem dX4_simulate_32 : decode cX4_simulate 32 = .ok (.lload_n 1, 1) := by decide +kernel
theorem dX4_simulate_33 : decode cX4_simulate 33 = .ok (.lstore 4, 2) := by decide +kernel
theorem dX4_simulate_35 : decode cX4_simulate 35 = .ok (.iconst 0, 1) := by decide +kernel
theorem dX4_simulate_36 : decode cX4_simulate 36 = .ok (.istore 6, 2) := by decide +kernel
theorem dX4_simulate_38 : decode cX4_simulate 38 = .ok (.iload 6, 2) := by decide +kernel
theorem dX4_simulate_40 : decode cX4_simulate 40 = .ok (.iload_n 3, 1) := by decide +kernel
theorem dX4_simulate_41 : decode cX4_simulate 41 = .ok (.if_icmp .ge 34, 3) := by decide +kernel
theorem dX4_simulate_44 : decode cX4_simulate 44 = .ok (.lload 4, 2) := by decide +kernel
theorem dX4_simulate_46 : decode cX4_simulate 46 = .ok (.ldc2_w 262, 3) := by decide +kernel
theorem dX4_simulate_49 : decode cX4_simulate 49 = .ok (.lmul, 1) := by decide +kernel
theorem dX4_simulate_50 : decode cX4_simulate 50 = .ok (.ldc2_w 264, 3) := by decide +kernel
theorem dX4_simulate_53 : decode cX4_simulate 53 = .ok (.ladd, 1) := by decide +kernel
theorem dX4_simulate_54 : decode cX4_simulate 54 = .ok (.lstore 4, 2) := by decide +kernel
theorem dX4_simulate_56 : decode cX4_simulate 56 = .ok (.aload_n 0, 1) := by decide +kernel
theorem dX4_simulate_57 : decode cX4_simulate 57 = .ok (.getfield 16, 3) := by decide +kernel
theorem dX4_simulate_60 : decode cX4_simulate 60 = .ok (.lload 4, 2) := by decide +kernel
theorem dX4_simulate_62 : decode cX4_simulate 62 = .ok (.bipush 33, 2) := by decide +kernel
theorem dX4_simulate_64 : decode cX4_simulate 64 = .ok (.lushr, 1) := by decide +kernel
theorem dX4_simulate_65 : decode cX4_simulate 65 = .ok (.l2i, 1) := by decide +kernel
theorem dX4_simulate_66 : decode cX4_simulate 66 = .ok (.invokestatic 266, 3) := by decide +kernel
theorem dX4_simulate_69 : decode cX4_simulate 69 = .ok (.iinc 6 1, 3) := by decide +kernel
theorem dX4_simulate_72 : decode cX4_simulate 72 = .ok (.goto (-34), 3) := by decide +kernel
theorem dX4_simulate_75 : decode cX4_simulate 75 = .ok (.aload_n 0, 1) := by decide +kernel
theorem dX4_simulate_76 : decode cX4_simulate 76 = .ok (.getfield 16, 3) := by decide +kernel
theorem dX4_simulate_79 : decode cX4_simulate 79 = .ok (.getfield 107, 3) := by decide +kernel
theorem dX4_simulate_82 : decode cX4_simulate 82 = .ok (.iconst 4, 1) := by decide +kernel
theorem dX4_simulate_83 : decode cX4_simulate 83 = .ok (.invokestatic 111, 3) := by decide +kernel
theorem dX4_simulate_86 : decode cX4_simulate 86 = .ok (.aload_n 0, 1) := by decide +kernel
theorem dX4_simulate_87 : decode cX4_simulate 87 = .ok (.getfield 10, 3) := by decide +kernel
theorem dX4_simulate_90 : decode cX4_simulate 90 = .ok (.getfield 107, 3) := by decide +kernel
theorem dX4_simulate_93 : decode cX4_simulate 93 = .ok (.iconst 4, 1) := by decide +kernel
theorem dX4_simulate_94 : decode cX4_simulate 94 = .ok (.invokestatic 111, 3) := by decide +kernel
theorem dX4_simulate_97 : decode cX4_simulate 97 = .ok (.isub, 1) := by decide +kernel
theorem dX4_simulate_98 : decode cX4_simulate 98 = .ok (.istore 6, 2) := by decide +kernel
theorem dX4_simulate_100 : decode cX4_simulate 100 = .ok (.aload_n 0, 1) := by decide +kernel
theorem dX4_simulate_101 : decode cX4_simulate 101 = .ok (.getfield 16, 3) := by decide +kernel
theorem dX4_simulate_104 : decode cX4_simulate 104 = .ok (.getfield 107, 3) := by decide +kernel
theorem dX4_simulate_107 : decode cX4_simulate 107 = .ok (.iconst 5, 1) := by decide +kernel
theorem dX4_simulate_108 : decode cX4_simulate 108 = .ok (.invokestatic 111, 3) := by decide +kernel
theorem dX4_simulate_111 : decode cX4_simulate 111 = .ok (.aload_n 0, 1) := by decide +kernel
theorem dX4_simulate_112 : decode cX4_simulate 112 = .ok (.getfield 10, 3) := by decide +kernel
theorem dX4_simulate_115 : decode cX4_simulate 115 = .ok (.getfield 107, 3) := by decide +kernel
theorem dX4_simulate_118 : decode cX4_simulate 118 = .ok (.iconst 5, 1) := by decide +kernel
theorem dX4_simulate_119 : decode cX4_simulate 119 = .ok (.invokestatic 111, 3) := by decide +kernel
theorem dX4_simulate_122 : decode cX4_simulate 122 = .ok (.isub, 1) := by decide +kernel
theorem dX4_simulate_123 : decode cX4_simulate 123 = .ok (.istore 7, 2) := by decide +kernel
theorem dX4_simulate_125 : decode cX4_simulate 125 = .ok (.sipush 10000, 3) := by decide +kernel
theorem dX4_simulate_128 : decode cX4_simulate 128 = .ok (.iload 6, 2) := by decide +kernel
theorem dX4_simulate_130 : decode cX4_simulate 130 = .ok (.imul, 1) := by decide +kernel
theorem dX4_simulate_131 : decode cX4_simulate 131 = .ok (.bipush 100, 2) := by decide +kernel
theorem dX4_simulate_133 : decode cX4_simulate 133 = .ok (.aload_n 0, 1) := by decide +kernel
theorem dX4_simulate_134 : decode cX4_simulate 134 = .ok (.getfield 16, 3) := by decide +kernel
theorem dX4_simulate_137 : decode cX4_simulate 137 = .ok (.invokevirtual 104, 3) := by decide +kernel
theorem dX4_simulate_140 : decode cX4_simulate 140 = .ok (.imul, 1) := by decide +kernel
theorem dX4_simulate_141 : decode cX4_simulate 141 = .ok (.iadd, 1) := by decide +kernel
theorem dX4_simulate_142 : decode cX4_simulate 142 = .ok (.iload 7, 2) := by decide +kernel
theorem dX4_simulate_144 : decode cX4_simulate 144 = .ok (.iadd, 1) := by decide +kernel
theorem dX4_simulate_145 : decode cX4_simulate 145 = .ok (.ireturn, 1) := by decide +kernel
theorem dX4_save_0 : decode cX4_save 0 = .ok (.iload_n 1, 1) := by decide +kernel
theorem dX4_save_1 : decode cX4_save 1 = .ok (.invokestatic 270, 3) := by decide +kernel
theorem dX4_save_4 : decode cX4_save 4 = .ok (.iload_n 1, 1) := by decide +kernel
theorem dX4_save_5 : decode cX4_save 5 = .ok (.ifCond .ne 10, 3) := by decide +kernel
theorem dX4_save_8 : decode cX4_save 8 = .ok (.aload_n 0, 1) := by decide +kernel
theorem dX4_save_9 : decode cX4_save 9 = .ok (.getfield 29, 3) := by decide +kernel
theorem dX4_save_12 : decode cX4_save 12 = .ok (.goto 7, 3) := by decide +kernel
theorem dX4_save_15 : decode cX4_save 15 = .ok (.aload_n 0, 1) := by decide +kernel
theorem dX4_save_16 : decode cX4_save 16 = .ok (.getfield 33, 3) := by decide +kernel
theorem dX4_save_19 : decode cX4_save 19 = .ok (.astore_n 2, 1) := by decide +kernel
theorem dX4_save_20 : decode cX4_save 20 = .ok (.aload_n 2, 1) := by decide +kernel
theorem dX4_save_21 : decode cX4_save 21 = .ok (.getfield 273, 3) := by decide +kernel
theorem dX4_save_24 : decode cX4_save 24 = .ok (.aload_n 0, 1) := by decide +kernel
theorem dX4_save_25 : decode cX4_save 25 = .ok (.getfield 10, 3) := by decide +kernel
theorem dX4_save_28 : decode cX4_save 28 = .ok (.invokevirtual 237, 3) := by decide +kernel
theorem dX4_save_31 : decode cX4_save 31 = .ok (.aload_n 2, 1) := by decide +kernel
theorem dX4_save_32 : decode cX4_save 32 = .ok (.iconst 1, 1) := by decide +kernel
theorem dX4_save_33 : decode cX4_save 33 = .ok (.putfield 82, 3) := by decide +kernel
theorem dX4_save_36 : decode cX4_save 36 = .ok (.aload_n 0, 1) := by decide +kernel
theorem dX4_save_37 : decode cX4_save 37 = .ok (.getfield 10, 3) := by decide +kernel
theorem dX4_save_40 : decode cX4_save 40 = .ok (.invokevirtual 104, 3) := by decide +kernel
theorem dX4_save_43 : decode cX4_save 43 = .ok (.ireturn, 1) := by decide +kernel
theorem dX4_restore_0 : decode cX4_restore 0 = .ok (.iload_n 1, 1) := by decide +kernel
theorem dX4_restore_1 : decode cX4_restore 1 = .ok (.invokestatic 270, 3) := by decide +kernel
theorem dX4_restore_4 : decode cX4_restore 4 = .ok (.iload_n 1, 1) := by decide +kernel
theorem dX4_restore_5 : decode cX4_restore 5 = .ok (.ifCond .ne 10, 3) := by decide +kernel
theorem dX4_restore_8 : decode cX4_restore 8 = .ok (.aload_n 0, 1) := by decide +kernel
theorem dX4_restore_9 : decode cX4_restore 9 = .ok (.getfield 29, 3) := by decide +kernel
theorem dX4_restore_12 : decode cX4_restore 12 = .ok (.goto 7, 3) := by decide +kernel
theorem dX4_restore_15 : decode cX4_restore 15 = .ok (.aload_n 0, 1) := by decide +kernel
theorem dX4_restore_16 : decode cX4_restore 16 = .ok (.getfield 33, 3) := by decide +kernel
theorem dX4_restore_19 : decode cX4_restore 19 = .ok (.astore_n 2, 1) := by decide +kernel
theorem dX4_restore_20 : decode cX4_restore 20 = .ok (.aload_n 2, 1) := by decide +kernel
theorem dX4_restore_21 : decode cX4_restore 21 = .ok (.getfield 82, 3) := by decide +kernel
theorem dX4_restore_24 : decode cX4_restore 24 = .ok (.ifCond .ne 14, 3) := by decide +kernel
theorem dX4_restore_27 : decode cX4_restore 27 = .ok (.new 58, 3) := by decide +kernel
theorem dX4_restore_30 : decode cX4_restore 30 = .ok (.dup, 1) := by decide +kernel
theorem dX4_restore_31 : decode cX4_restore 31 = .ok (.ldc_w 276, 3) := by decide +kernel
theorem dX4_restore_34 : decode cX4_restore 34 = .ok (.invokespecial 62, 3) := by decide +kernel
theorem dX4_restore_37 : decode cX4_restore 37 = .ok (.athrow, 1) := by decide +kernel
theorem dX4_restore_38 : decode cX4_restore 38 = .ok (.aload_n 0, 1) := by decide +kernel
theorem dX4_restore_39 : decode cX4_restore 39 = .ok (.getfield 10, 3) := by decide +kernel
theorem dX4_restore_42 : decode cX4_restore 42 = .ok (.aload_n 2, 1) := by decide +kernel
theorem dX4_restore_43 : decode cX4_restore 43 = .ok (.getfield 273, 3) := by decide +kernel
theorem dX4_restore_46 : decode cX4_restore 46 = .ok (.invokevirtual 237, 3) := by decide +kernel
theorem dX4_restore_49 : decode cX4_restore 49 = .ok (.aload_n 0, 1) := by decide +kernel
theorem dX4_restore_50 : decode cX4_restore 50 = .ok (.getfield 22, 3) := by decide +kernel
theorem dX4_restore_53 : decode cX4_restore 53 = .ok (.invokevirtual 79, 3) := by decide +kernel
theorem dX4_restore_56 : decode cX4_restore 56 = .ok (.aload_n 0, 1) := by decide +kernel
theorem dX4_restore_57 : decode cX4_restore 57 = .ok (.getfield 10, 3) := by decide +kernel
theorem dX4_restore_60 : decode cX4_restore 60 = .ok (.invokevirtual 104, 3) := by decide +kernel
theorem dX4_restore_63 : decode cX4_restore 63 = .ok (.ireturn, 1) := by decide +kernel
theorem dX4_needChair_0 : decode cX4_needChair 0 = .ok (.aload_n 0, 1) := by decide +kernel
theorem dX4_needChair_1 : decode cX4_needChair 1 = .ok (.getfield 10, 3) := by decide +kernel
theorem dX4_needChair_4 : decode cX4_needChair 4 = .ok (.iload_n 1, 1) := by decide +kernel
theorem dX4_needChair_5 : decode cX4_needChair 5 = .ok (.invokevirtual 278, 3) := by decide +kernel
theorem dX4_needChair_8 : decode cX4_needChair 8 = .ok (.ifCond .ne 14, 3) := by decide +kernel
theorem dX4_needChair_11 : decode cX4_needChair 11 = .ok (.new 282, 3) := by decide +kernel
theorem dX4_needChair_14 : decode cX4_needChair 14 = .ok (.dup, 1) := by decide +kernel
theorem dX4_needChair_15 : decode cX4_needChair 15 = .ok (.ldc_w 284, 3) := by decide +kernel
theorem dX4_needChair_18 : decode cX4_needChair 18 = .ok (.invokespecial 286, 3) := by decide +kernel
theorem dX4_needChair_21 : decode cX4_needChair 21 = .ok (.athrow, 1) := by decide +kernel
theorem dX4_needChair_22 : decode cX4_needChair 22 = .ok (.return_, 1) := by decide +kernel
theorem dX4_needFloor_0 : decode cX4_needFloor 0 = .ok (.aload_n 0, 1) := by decide +kernel
theorem dX4_needFloor_1 : decode cX4_needFloor 1 = .ok (.getfield 10, 3) := by decide +kernel
theorem dX4_needFloor_4 : decode cX4_needFloor 4 = .ok (.iload_n 1, 1) := by decide +kernel
theorem dX4_needFloor_5 : decode cX4_needFloor 5 = .ok (.invokevirtual 287, 3) := by decide +kernel
theorem dX4_needFloor_8 : decode cX4_needFloor 8 = .ok (.ifCond .ne 14, 3) := by decide +kernel
theorem dX4_needFloor_11 : decode cX4_needFloor 11 = .ok (.new 282, 3) := by decide +kernel
theorem dX4_needFloor_14 : decode cX4_needFloor 14 = .ok (.dup, 1) := by decide +kernel
theorem dX4_needFloor_15 : decode cX4_needFloor 15 = .ok (.ldc_w 290, 3) := by decide +kernel
theorem dX4_needFloor_18 : decode cX4_needFloor 18 = .ok (.invokespecial 286, 3) := by decide +kernel
theorem dX4_needFloor_21 : decode cX4_needFloor 21 = .ok (.athrow, 1) := by decide +kernel
theorem dX4_needFloor_22 : decode cX4_needFloor 22 = .ok (.return_, 1) := by decide +kernel
theorem dX4_needOneOfFour_0 : decode cX4_needOneOfFour 0 = .ok (.iload_n 0, 1) := by decide +kernel
theorem dX4_needOneOfFour_1 : decode cX4_needOneOfFour 1 = .ok (.iconst 0, 1) := by decide +kernel
theorem dX4_needOneOfFour_2 : decode cX4_needOneOfFour 2 = .ok (.iconst 3, 1) := by decide +kernel
theorem dX4_needOneOfFour_3 : decode cX4_needOneOfFour 3 = .ok (.invokestatic 43, 3) := by decide +kernel
theorem dX4_needOneOfFour_6 : decode cX4_needOneOfFour 6 = .ok (.ifCond .ne 14, 3) := by decide +kernel
theorem dX4_needOneOfFour_9 : decode cX4_needOneOfFour 9 = .ok (.new 282, 3) := by decide +kernel
theorem dX4_needOneOfFour_12 : decode cX4_needOneOfFour 12 = .ok (.dup, 1) := by decide +kernel
theorem dX4_needOneOfFour_13 : decode cX4_needOneOfFour 13 = .ok (.ldc_w 292, 3) := by decide +kernel
theorem dX4_needOneOfFour_16 : decode cX4_needOneOfFour 16 = .ok (.invokespecial 286, 3) := by decide +kernel
theorem dX4_needOneOfFour_19 : decode cX4_needOneOfFour 19 = .ok (.athrow, 1) := by decide +kernel
theorem dX4_needOneOfFour_20 : decode cX4_needOneOfFour 20 = .ok (.return_, 1) := by decide +kernel
theorem dX4_needSlot_0 : decode cX4_needSlot 0 = .ok (.iload_n 0, 1) := by decide +kernel
theorem dX4_needSlot_1 : decode cX4_needSlot 1 = .ok (.iconst 0, 1) := by decide +kernel
theorem dX4_needSlot_2 : decode cX4_needSlot 2 = .ok (.iconst 1, 1) := by decide +kernel
theorem dX4_needSlot_3 : decode cX4_needSlot 3 = .ok (.invokestatic 43, 3) := by decide +kernel
theorem dX4_needSlot_6 : decode cX4_needSlot 6 = .ok (.ifCond .ne 14, 3) := by decide +kernel
theorem dX4_needSlot_9 : decode cX4_needSlot 9 = .ok (.new 282, 3) := by decide +kernel
theorem dX4_needSlot_12 : decode cX4_needSlot 12 = .ok (.dup, 1) := by decide +kernel
theorem dX4_needSlot_13 : decode cX4_needSlot 13 = .ok (.ldc_w 294, 3) := by decide +kernel
theorem dX4_needSlot_16 : decode cX4_needSlot 16 = .ok (.invokespecial 286, 3) := by decide +kernel
theorem dX4_needSlot_19 : decode cX4_needSlot 19 = .ok (.athrow, 1) := by decide +kernel
theorem dX4_needSlot_20 : decode cX4_needSlot 20 = .ok (.return_, 1) := by decide +kernel
theorem dX4_acted_0 : decode cX4_acted 0 = .ok (.iload_n 1, 1) := by decide +kernel
theorem dX4_acted_1 : decode cX4_acted 1 = .ok (.bipush (-2), 2) := by decide +kernel
theorem dX4_acted_3 : decode cX4_acted 3 = .ok (.if_icmp .ne 14, 3) := by decide +kernel
theorem dX4_acted_6 : decode cX4_acted 6 = .ok (.new 282, 3) := by decide +kernel
theorem dX4_acted_9 : decode cX4_acted 9 = .ok (.dup, 1) := by decide +kernel
theorem dX4_acted_10 : decode cX4_acted 10 = .ok (.ldc_w 296, 3) := by decide +kernel
theorem dX4_acted_13 : decode cX4_acted 13 = .ok (.invokespecial 286, 3) := by decide +kernel
theorem dX4_acted_16 : decode cX4_acted 16 = .ok (.athrow, 1) := by decide +kernel
theorem dX4_acted_17 : decode cX4_acted 17 = .ok (.iload_n 1, 1) := by decide +kernel
theorem dX4_acted_18 : decode cX4_acted 18 = .ok (.bipush (-3), 2) := by decide +kernel
theorem dX4_acted_20 : decode cX4_acted 20 = .ok (.if_icmp .ne 14, 3) := by decide +kernel
theorem dX4_acted_23 : decode cX4_acted 23 = .ok (.new 47, 3) := by decide +kernel
theorem dX4_acted_26 : decode cX4_acted 26 = .ok (.dup, 1) := by decide +kernel
theorem dX4_acted_27 : decode cX4_acted 27 = .ok (.ldc_w 298, 3) := by decide +kernel
theorem dX4_acted_30 : decode cX4_acted 30 = .ok (.invokespecial 51, 3) := by decide +kernel
theorem dX4_acted_33 : decode cX4_acted 33 = .ok (.athrow, 1) := by decide +kernel
theorem dX4_acted_34 : decode cX4_acted 34 = .ok (.iload_n 1, 1) := by decide +kernel
theorem dX4_acted_35 : decode cX4_acted 35 = .ok (.bipush (-4), 2) := by decide +kernel
theorem dX4_acted_37 : decode cX4_acted 37 = .ok (.if_icmp .ne 14, 3) := by decide +kernel
theorem dX4_acted_40 : decode cX4_acted 40 = .ok (.new 58, 3) := by decide +kernel
theorem dX4_acted_43 : decode cX4_acted 43 = .ok (.dup, 1) := by decide +kernel
theorem dX4_acted_44 : decode cX4_acted 44 = .ok (.ldc_w 300, 3) := by decide +kernel
theorem dX4_acted_47 : decode cX4_acted 47 = .ok (.invokespecial 62, 3) := by decide +kernel
theorem dX4_acted_50 : decode cX4_acted 50 = .ok (.athrow, 1) := by decide +kernel
theorem dX4_acted_51 : decode cX4_acted 51 = .ok (.aload_n 0, 1) := by decide +kernel
theorem dX4_acted_52 : decode cX4_acted 52 = .ok (.getfield 22, 3) := by decide +kernel
theorem dX4_acted_55 : decode cX4_acted 55 = .ok (.invokevirtual 302, 3) := by decide +kernel
theorem dX4_acted_58 : decode cX4_acted 58 = .ok (.iload_n 1, 1) := by decide +kernel
theorem dX4_acted_59 : decode cX4_acted 59 = .ok (.ireturn, 1) := by decide +kernel
theorem dX4_doCommand_0 : decode cX4_doCommand 0 = .ok (.aload_n 0, 1) := by decide +kernel
theorem dX4_doCommand_1 : decode cX4_doCommand 1 = .ok (.getfield 39, 3) := by decide +kernel
theorem dX4_doCommand_4 : decode cX4_doCommand 4 = .ok (.getfield 305, 3) := by decide +kernel
theorem dX4_doCommand_7 : decode cX4_doCommand 7 = .ok (.iconst 0, 1) := by decide +kernel
theorem dX4_doCommand_8 : decode cX4_doCommand 8 = .ok (.invokestatic 111, 3) := by decide +kernel
theorem dX4_doCommand_11 : decode cX4_doCommand 11 = .ok (.istore_n 1, 1) := by decide +kernel
theorem dX4_doCommand_12 : decode cX4_doCommand 12 = .ok (.aload_n 0, 1) := by decide +kernel
theorem dX4_doCommand_13 : decode cX4_doCommand 13 = .ok (.getfield 39, 3) := by decide +kernel
theorem dX4_doCommand_16 : decode cX4_doCommand 16 = .ok (.getfield 305, 3) := by decide +kernel
theorem dX4_doCommand_19 : decode cX4_doCommand 19 = .ok (.iconst 1, 1) := by decide +kernel
theorem dX4_doCommand_20 : decode cX4_doCommand 20 = .ok (.invokestatic 111, 3) := by decide +kernel
theorem dX4_doCommand_23 : decode cX4_doCommand 23 = .ok (.istore_n 2, 1) := by decide +kernel
theorem dX4_doCommand_24 : decode cX4_doCommand 24 = .ok (.aload_n 0, 1) := by decide +kernel
theorem dX4_doCommand_25 : decode cX4_doCommand 25 = .ok (.getfield 39, 3) := by decide +kernel
theorem dX4_doCommand_28 : decode cX4_doCommand 28 = .ok (.getfield 305, 3) := by decide +kernel
theorem dX4_doCommand_31 : decode cX4_doCommand 31 = .ok (.iconst 2, 1) := by decide +kernel
theorem dX4_doCommand_32 : decode cX4_doCommand 32 = .ok (.invokestatic 111, 3) := by decide +kernel
theorem dX4_doCommand_35 : decode cX4_doCommand 35 = .ok (.istore_n 3, 1) := by decide +kernel
theorem dX4_doCommand_36 : decode cX4_doCommand 36 = .ok (.aload_n 0, 1) := by decide +kernel
theorem dX4_doCommand_37 : decode cX4_doCommand 37 = .ok (.getfield 39, 3) := by decide +kernel
theorem dX4_doCommand_40 : decode cX4_doCommand 40 = .ok (.getfield 305, 3) := by decide +kernel
theorem dX4_doCommand_43 : decode cX4_doCommand 43 = .ok (.iconst 3, 1) := by decide +kernel
theorem dX4_doCommand_44 : decode cX4_doCommand 44 = .ok (.invokestatic 111, 3) := by decide +kernel
theorem dX4_doCommand_47 : decode cX4_doCommand 47 = .ok (.istore 4, 2) := by decide +kernel
theorem dX4_doCommand_49 : decode cX4_doCommand 49 = .ok (.aload_n 0, 1) := by decide +kernel
theorem dX4_doCommand_50 : decode cX4_doCommand 50 = .ok (.getfield 39, 3) := by decide +kernel
theorem dX4_doCommand_53 : decode cX4_doCommand 53 = .ok (.getfield 308, 3) := by decide +kernel
theorem dX4_doCommand_56 : decode cX4_doCommand 56 = .ok (.tableswitch 190 98 119 #[149, 104, 190, 190, 136, 179, 125, 190, 190, 190, 190, 190, 190, 190, 190, 190, 190, 114, 160, 190, 190, 169], 104) := by decide +kernel
theorem dX4_doCommand_160 : decode cX4_doCommand 160 = .ok (.aload_n 0, 1) := by decide +kernel
theorem dX4_doCommand_161 : decode cX4_doCommand 161 = .ok (.getfield 10, 3) := by decide +kernel
theorem dX4_doCommand_164 : decode cX4_doCommand 164 = .ok (.iload_n 1, 1) := by decide +kernel
theorem dX4_doCommand_165 : decode cX4_doCommand 165 = .ok (.iload_n 2, 1) := by decide +kernel
theorem dX4_doCommand_166 : decode cX4_doCommand 166 = .ok (.invokevirtual 186, 3) := by decide +kernel
theorem dX4_doCommand_169 : decode cX4_doCommand 169 = .ok (.ireturn, 1) := by decide +kernel
theorem dX4_doCommand_170 : decode cX4_doCommand 170 = .ok (.aload_n 0, 1) := by decide +kernel
theorem dX4_doCommand_171 : decode cX4_doCommand 171 = .ok (.getfield 10, 3) := by decide +kernel
theorem dX4_doCommand_174 : decode cX4_doCommand 174 = .ok (.iload_n 1, 1) := by decide +kernel
theorem dX4_doCommand_175 : decode cX4_doCommand 175 = .ok (.iload_n 2, 1) := by decide +kernel
theorem dX4_doCommand_176 : decode cX4_doCommand 176 = .ok (.iload_n 3, 1) := by decide +kernel
theorem dX4_doCommand_177 : decode cX4_doCommand 177 = .ok (.invokevirtual 203, 3) := by decide +kernel
theorem dX4_doCommand_180 : decode cX4_doCommand 180 = .ok (.ireturn, 1) := by decide +kernel
theorem dX4_doCommand_181 : decode cX4_doCommand 181 = .ok (.aload_n 0, 1) := by decide +kernel
theorem dX4_doCommand_182 : decode cX4_doCommand 182 = .ok (.getfield 10, 3) := by decide +kernel
theorem dX4_doCommand_185 : decode cX4_doCommand 185 = .ok (.iload_n 1, 1) := by decide +kernel
theorem dX4_doCommand_186 : decode cX4_doCommand 186 = .ok (.iload_n 2, 1) := by decide +kernel
theorem dX4_doCommand_187 : decode cX4_doCommand 187 = .ok (.iload_n 3, 1) := by decide +kernel
theorem dX4_doCommand_188 : decode cX4_doCommand 188 = .ok (.invokevirtual 206, 3) := by decide +kernel
theorem dX4_doCommand_191 : decode cX4_doCommand 191 = .ok (.ireturn, 1) := by decide +kernel
theorem dX4_doCommand_192 : decode cX4_doCommand 192 = .ok (.aload_n 0, 1) := by decide +kernel
theorem dX4_doCommand_193 : decode cX4_doCommand 193 = .ok (.getfield 10, 3) := by decide +kernel
theorem dX4_doCommand_196 : decode cX4_doCommand 196 = .ok (.iload_n 1, 1) := by decide +kernel
theorem dX4_doCommand_197 : decode cX4_doCommand 197 = .ok (.iload_n 2, 1) := by decide +kernel
theorem dX4_doCommand_198 : decode cX4_doCommand 198 = .ok (.iload_n 3, 1) := by decide +kernel
theorem dX4_doCommand_199 : decode cX4_doCommand 199 = .ok (.iload 4, 2) := by decide +kernel
theorem dX4_doCommand_201 : decode cX4_doCommand 201 = .ok (.invokevirtual 192, 3) := by decide +kernel
theorem dX4_doCommand_204 : decode cX4_doCommand 204 = .ok (.ireturn, 1) := by decide +kernel
theorem dX4_doCommand_205 : decode cX4_doCommand 205 = .ok (.aload_n 0, 1) := by decide +kernel
theorem dX4_doCommand_206 : decode cX4_doCommand 206 = .ok (.getfield 10, 3) := by decide +kernel
theorem dX4_doCommand_209 : decode cX4_doCommand 209 = .ok (.iload_n 1, 1) := by decide +kernel
theorem dX4_doCommand_210 : decode cX4_doCommand 210 = .ok (.iload_n 2, 1) := by decide +kernel
theorem dX4_doCommand_211 : decode cX4_doCommand 211 = .ok (.iload_n 3, 1) := by decide +kernel
theorem dX4_doCommand_212 : decode cX4_doCommand 212 = .ok (.invokevirtual 200, 3) := by decide +kernel
theorem dX4_doCommand_215 : decode cX4_doCommand 215 = .ok (.ireturn, 1) := by decide +kernel
theorem dX4_doCommand_216 : decode cX4_doCommand 216 = .ok (.aload_n 0, 1) := by decide +kernel
theorem dX4_doCommand_217 : decode cX4_doCommand 217 = .ok (.getfield 10, 3) := by decide +kernel
theorem dX4_doCommand_220 : decode cX4_doCommand 220 = .ok (.iload_n 1, 1) := by decide +kernel
theorem dX4_doCommand_221 : decode cX4_doCommand 221 = .ok (.invokevirtual 209, 3) := by decide +kernel
theorem dX4_doCommand_224 : decode cX4_doCommand 224 = .ok (.ireturn, 1) := by decide +kernel
theorem dX4_doCommand_225 : decode cX4_doCommand 225 = .ok (.aload_n 0, 1) := by decide +kernel
theorem dX4_doCommand_226 : decode cX4_doCommand 226 = .ok (.getfield 10, 3) := by decide +kernel
theorem dX4_doCommand_229 : decode cX4_doCommand 229 = .ok (.iload_n 1, 1) := by decide +kernel
theorem dX4_doCommand_230 : decode cX4_doCommand 230 = .ok (.iload_n 2, 1) := by decide +kernel
theorem dX4_doCommand_231 : decode cX4_doCommand 231 = .ok (.invokevirtual 212, 3) := by decide +kernel
theorem dX4_doCommand_234 : decode cX4_doCommand 234 = .ok (.ireturn, 1) := by decide +kernel
theorem dX4_doCommand_235 : decode cX4_doCommand 235 = .ok (.aload_n 0, 1) := by decide +kernel
theorem dX4_doCommand_236 : decode cX4_doCommand 236 = .ok (.getfield 10, 3) := by decide +kernel
theorem dX4_doCommand_239 : decode cX4_doCommand 239 = .ok (.iload_n 1, 1) := by decide +kernel
theorem dX4_doCommand_240 : decode cX4_doCommand 240 = .ok (.iload_n 2, 1) := by decide +kernel
theorem dX4_doCommand_241 : decode cX4_doCommand 241 = .ok (.iload_n 3, 1) := by decide +kernel
theorem dX4_doCommand_242 : decode cX4_doCommand 242 = .ok (.invokevirtual 215, 3) := by decide +kernel
theorem dX4_doCommand_245 : decode cX4_doCommand 245 = .ok (.ireturn, 1) := by decide +kernel
theorem dX4_doCommand_246 : decode cX4_doCommand 246 = .ok (.bipush (-3), 2) := by decide +kernel
theorem dX4_doCommand_248 : decode cX4_doCommand 248 = .ok (.ireturn, 1) := by decide +kernel
theorem dX4_withoutGroups_0 : decode cX4_withoutGroups 0 = .ok (.lload_n 0, 1) := by decide +kernel
theorem dX4_withoutGroups_1 : decode cX4_withoutGroups 1 = .ok (.lstore_n 3, 1) := by decide +kernel
theorem dX4_withoutGroups_2 : decode cX4_withoutGroups 2 = .ok (.iconst 0, 1) := by decide +kernel
theorem dX4_withoutGroups_3 : decode cX4_withoutGroups 3 = .ok (.istore 5, 2) := by decide +kernel
theorem dX4_withoutGroups_5 : decode cX4_withoutGroups 5 = .ok (.iload 5, 2) := by decide +kernel
theorem dX4_withoutGroups_7 : decode cX4_withoutGroups 7 = .ok (.iload_n 2, 1) := by decide +kernel
theorem dX4_withoutGroups_8 : decode cX4_withoutGroups 8 = .ok (.if_icmp .ge 15, 3) := by decide +kernel
theorem dX4_withoutGroups_11 : decode cX4_withoutGroups 11 = .ok (.lload_n 3, 1) := by decide +kernel
theorem dX4_withoutGroups_12 : decode cX4_withoutGroups 12 = .ok (.ldc2_w 254, 3) := by decide +kernel
theorem dX4_withoutGroups_15 : decode cX4_withoutGroups 15 = .ok (.ldiv, 1) := by decide +kernel
theorem dX4_withoutGroups_16 : decode cX4_withoutGroups 16 = .ok (.lstore_n 3, 1) := by decide +kernel
theorem dX4_withoutGroups_17 : decode cX4_withoutGroups 17 = .ok (.iinc 5 1, 3) := by decide +kernel
theorem dX4_withoutGroups_20 : decode cX4_withoutGroups 20 = .ok (.goto (-15), 3) := by decide +kernel
theorem dX4_withoutGroups_23 : decode cX4_withoutGroups 23 = .ok (.lload_n 3, 1) := by decide +kernel
theorem dX4_withoutGroups_24 : decode cX4_withoutGroups 24 = .ok (.lreturn, 1) := by decide +kernel
theorem dX4_groupSucceeds_0 : decode cX4_groupSucceeds 0 = .ok (.iload_n 1, 1) := by decide +kernel
theorem dX4_groupSucceeds_1 : decode cX4_groupSucceeds 1 = .ok (.sipush 10000, 3) := by decide +kernel
theorem dX4_groupSucceeds_4 : decode cX4_groupSucceeds 4 = .ok (.idiv, 1) := by decide +kernel
theorem dX4_groupSucceeds_5 : decode cX4_groupSucceeds 5 = .ok (.bipush 10, 2) := by decide +kernel
theorem dX4_groupSucceeds_7 : decode cX4_groupSucceeds 7 = .ok (.irem, 1) := by decide +kernel
theorem dX4_groupSucceeds_8 : decode cX4_groupSucceeds 8 = .ok (.istore_n 2, 1) := by decide +kernel
theorem dX4_groupSucceeds_9 : decode cX4_groupSucceeds 9 = .ok (.iload_n 1, 1) := by decide +kernel
theorem dX4_groupSucceeds_10 : decode cX4_groupSucceeds 10 = .ok (.sipush 1000, 3) := by decide +kernel
theorem dX4_groupSucceeds_13 : decode cX4_groupSucceeds 13 = .ok (.idiv, 1) := by decide +kernel
theorem dX4_groupSucceeds_14 : decode cX4_groupSucceeds 14 = .ok (.bipush 10, 2) := by decide +kernel
theorem dX4_groupSucceeds_16 : decode cX4_groupSucceeds 16 = .ok (.irem, 1) := by decide +kernel
theorem dX4_groupSucceeds_17 : decode cX4_groupSucceeds 17 = .ok (.istore_n 3, 1) := by decide +kernel
theorem dX4_groupSucceeds_18 : decode cX4_groupSucceeds 18 = .ok (.iload_n 1, 1) := by decide +kernel
theorem dX4_groupSucceeds_19 : decode cX4_groupSucceeds 19 = .ok (.sipush 1000, 3) := by decide +kernel
theorem dX4_groupSucceeds_22 : decode cX4_groupSucceeds 22 = .ok (.irem, 1) := by decide +kernel
theorem dX4_groupSucceeds_23 : decode cX4_groupSucceeds 23 = .ok (.istore 4, 2) := by decide +kernel
theorem dX4_groupSucceeds_25 : decode cX4_groupSucceeds 25 = .ok (.iload_n 3, 1) := by decide +kernel
theorem dX4_groupSucceeds_26 : decode cX4_groupSucceeds 26 = .ok (.ifCond .ne 7, 3) := by decide +kernel
theorem dX4_groupSucceeds_29 : decode cX4_groupSucceeds 29 = .ok (.iconst 1, 1) := by decide +kernel
theorem dX4_groupSucceeds_30 : decode cX4_groupSucceeds 30 = .ok (.goto 4, 3) := by decide +kernel
theorem dX4_groupSucceeds_33 : decode cX4_groupSucceeds 33 = .ok (.iconst 0, 1) := by decide +kernel
theorem dX4_groupSucceeds_34 : decode cX4_groupSucceeds 34 = .ok (.istore 5, 2) := by decide +kernel
theorem dX4_groupSucceeds_36 : decode cX4_groupSucceeds 36 = .ok (.iload_n 1, 1) := by decide +kernel
theorem dX4_groupSucceeds_37 : decode cX4_groupSucceeds 37 = .ok (.ldc_w 311, 3) := by decide +kernel
theorem dX4_groupSucceeds_40 : decode cX4_groupSucceeds 40 = .ok (.idiv, 1) := by decide +kernel
theorem dX4_groupSucceeds_41 : decode cX4_groupSucceeds 41 = .ok (.tableswitch 276 1 9 #[51, 68, 92, 120, 148, 169, 186, 215, 247], 51) := by decide +kernel
theorem dX4_groupSucceeds_92 : decode cX4_groupSucceeds 92 = .ok (.aload_n 0, 1) := by decide +kernel
theorem dX4_groupSucceeds_93 : decode cX4_groupSucceeds 93 = .ok (.iload_n 2, 1) := by decide +kernel
theorem dX4_groupSucceeds_94 : decode cX4_groupSucceeds 94 = .ok (.iload_n 3, 1) := by decide +kernel
theorem dX4_groupSucceeds_95 : decode cX4_groupSucceeds 95 = .ok (.iload 4, 2) := by decide +kernel
theorem dX4_groupSucceeds_97 : decode cX4_groupSucceeds 97 = .ok (.invokevirtual 203, 3) := by decide +kernel
theorem dX4_groupSucceeds_100 : decode cX4_groupSucceeds 100 = .ok (.ifCond .lt 7, 3) := by decide +kernel
theorem dX4_groupSucceeds_103 : decode cX4_groupSucceeds 103 = .ok (.iconst 1, 1) := by decide +kernel
theorem dX4_groupSucceeds_104 : decode cX4_groupSucceeds 104 = .ok (.goto 4, 3) := by decide +kernel
theorem dX4_groupSucceeds_107 : decode cX4_groupSucceeds 107 = .ok (.iconst 0, 1) := by decide +kernel
theorem dX4_groupSucceeds_108 : decode cX4_groupSucceeds 108 = .ok (.ireturn, 1) := by decide +kernel
theorem dX4_groupSucceeds_109 : decode cX4_groupSucceeds 109 = .ok (.iload 4, 2) := by decide +kernel
theorem dX4_groupSucceeds_111 : decode cX4_groupSucceeds 111 = .ok (.bipush 99, 2) := by decide +kernel
theorem dX4_groupSucceeds_113 : decode cX4_groupSucceeds 113 = .ok (.if_icmp .gt 18, 3) := by decide +kernel
theorem dX4_groupSucceeds_116 : decode cX4_groupSucceeds 116 = .ok (.aload_n 0, 1) := by decide +kernel
theorem dX4_groupSucceeds_117 : decode cX4_groupSucceeds 117 = .ok (.iload_n 2, 1) := by decide +kernel
theorem dX4_groupSucceeds_118 : decode cX4_groupSucceeds 118 = .ok (.iload_n 3, 1) := by decide +kernel
theorem dX4_groupSucceeds_119 : decode cX4_groupSucceeds 119 = .ok (.iload 4, 2) := by decide +kernel
theorem dX4_groupSucceeds_121 : decode cX4_groupSucceeds 121 = .ok (.invokevirtual 206, 3) := by decide +kernel
theorem dX4_groupSucceeds_124 : decode cX4_groupSucceeds 124 = .ok (.ifCond .lt 7, 3) := by decide +kernel
theorem dX4_groupSucceeds_127 : decode cX4_groupSucceeds 127 = .ok (.iconst 1, 1) := by decide +kernel
theorem dX4_groupSucceeds_128 : decode cX4_groupSucceeds 128 = .ok (.goto 4, 3) := by decide +kernel
theorem dX4_groupSucceeds_131 : decode cX4_groupSucceeds 131 = .ok (.iconst 0, 1) := by decide +kernel
theorem dX4_groupSucceeds_132 : decode cX4_groupSucceeds 132 = .ok (.ireturn, 1) := by decide +kernel
theorem dX4_groupSucceeds_133 : decode cX4_groupSucceeds 133 = .ok (.iload 4, 2) := by decide +kernel
theorem dX4_groupSucceeds_135 : decode cX4_groupSucceeds 135 = .ok (.bipush 100, 2) := by decide +kernel
theorem dX4_groupSucceeds_137 : decode cX4_groupSucceeds 137 = .ok (.irem, 1) := by decide +kernel
theorem dX4_groupSucceeds_138 : decode cX4_groupSucceeds 138 = .ok (.ifCond .ne 21, 3) := by decide +kernel
theorem dX4_groupSucceeds_141 : decode cX4_groupSucceeds 141 = .ok (.aload_n 0, 1) := by decide +kernel
theorem dX4_groupSucceeds_142 : decode cX4_groupSucceeds 142 = .ok (.iload_n 2, 1) := by decide +kernel
theorem dX4_groupSucceeds_143 : decode cX4_groupSucceeds 143 = .ok (.iload_n 3, 1) := by decide +kernel
theorem dX4_groupSucceeds_144 : decode cX4_groupSucceeds 144 = .ok (.iload 4, 2) := by decide +kernel
theorem dX4_groupSucceeds_146 : decode cX4_groupSucceeds 146 = .ok (.bipush 100, 2) := by decide +kernel
theorem dX4_groupSucceeds_148 : decode cX4_groupSucceeds 148 = .ok (.idiv, 1) := by decide +kernel
theorem dX4_groupSucceeds_149 : decode cX4_groupSucceeds 149 = .ok (.invokevirtual 200, 3) := by decide +kernel
theorem dX4_groupSucceeds_152 : decode cX4_groupSucceeds 152 = .ok (.ifCond .lt 7, 3) := by decide +kernel
theorem dX4_groupSucceeds_155 : decode cX4_groupSucceeds 155 = .ok (.iconst 1, 1) := by decide +kernel
theorem dX4_groupSucceeds_156 : decode cX4_groupSucceeds 156 = .ok (.goto 4, 3) := by decide +kernel
theorem dX4_groupSucceeds_159 : decode cX4_groupSucceeds 159 = .ok (.iconst 0, 1) := by decide +kernel
theorem dX4_groupSucceeds_160 : decode cX4_groupSucceeds 160 = .ok (.ireturn, 1) := by decide +kernel
theorem dX4_groupSucceeds_161 : decode cX4_groupSucceeds 161 = .ok (.iload 5, 2) := by decide +kernel
theorem dX4_groupSucceeds_163 : decode cX4_groupSucceeds 163 = .ok (.ifCond .eq 24, 3) := by decide +kernel
theorem dX4_groupSucceeds_166 : decode cX4_groupSucceeds 166 = .ok (.iload 4, 2) := by decide +kernel
theorem dX4_groupSucceeds_168 : decode cX4_groupSucceeds 168 = .ok (.bipush 9, 2) := by decide +kernel
theorem dX4_groupSucceeds_170 : decode cX4_groupSucceeds 170 = .ok (.if_icmp .gt 17, 3) := by decide +kernel
theorem dX4_groupSucceeds_173 : decode cX4_groupSucceeds 173 = .ok (.aload_n 0, 1) := by decide +kernel
theorem dX4_groupSucceeds_174 : decode cX4_groupSucceeds 174 = .ok (.iload_n 2, 1) := by decide +kernel
theorem dX4_groupSucceeds_175 : decode cX4_groupSucceeds 175 = .ok (.invokevirtual 209, 3) := by decide +kernel
theorem dX4_groupSucceeds_178 : decode cX4_groupSucceeds 178 = .ok (.iload 4, 2) := by decide +kernel
theorem dX4_groupSucceeds_180 : decode cX4_groupSucceeds 180 = .ok (.if_icmp .ne 7, 3) := by decide +kernel
theorem dX4_groupSucceeds_183 : decode cX4_groupSucceeds 183 = .ok (.iconst 1, 1) := by decide +kernel
theorem dX4_groupSucceeds_184 : decode cX4_groupSucceeds 184 = .ok (.goto 4, 3) := by decide +kernel
theorem dX4_groupSucceeds_187 : decode cX4_groupSucceeds 187 = .ok (.iconst 0, 1) := by decide +kernel
theorem dX4_groupSucceeds_188 : decode cX4_groupSucceeds 188 = .ok (.ireturn, 1) := by decide +kernel
theorem dX4_groupSucceeds_189 : decode cX4_groupSucceeds 189 = .ok (.iload 5, 2) := by decide +kernel
theorem dX4_groupSucceeds_191 : decode cX4_groupSucceeds 191 = .ok (.ifCond .eq 17, 3) := by decide +kernel
theorem dX4_groupSucceeds_194 : decode cX4_groupSucceeds 194 = .ok (.aload_n 0, 1) := by decide +kernel
theorem dX4_groupSucceeds_195 : decode cX4_groupSucceeds 195 = .ok (.iload_n 2, 1) := by decide +kernel
theorem dX4_groupSucceeds_196 : decode cX4_groupSucceeds 196 = .ok (.iload 4, 2) := by decide +kernel
theorem dX4_groupSucceeds_198 : decode cX4_groupSucceeds 198 = .ok (.invokevirtual 212, 3) := by decide +kernel
theorem dX4_groupSucceeds_201 : decode cX4_groupSucceeds 201 = .ok (.ifCond .lt 7, 3) := by decide +kernel
theorem dX4_groupSucceeds_204 : decode cX4_groupSucceeds 204 = .ok (.iconst 1, 1) := by decide +kernel
theorem dX4_groupSucceeds_205 : decode cX4_groupSucceeds 205 = .ok (.goto 4, 3) := by decide +kernel
theorem dX4_groupSucceeds_208 : decode cX4_groupSucceeds 208 = .ok (.iconst 0, 1) := by decide +kernel
theorem dX4_groupSucceeds_209 : decode cX4_groupSucceeds 209 = .ok (.ireturn, 1) := by decide +kernel
theorem dX4_groupSucceeds_210 : decode cX4_groupSucceeds 210 = .ok (.aload_n 0, 1) := by decide +kernel
theorem dX4_groupSucceeds_211 : decode cX4_groupSucceeds 211 = .ok (.iload_n 2, 1) := by decide +kernel
theorem dX4_groupSucceeds_212 : decode cX4_groupSucceeds 212 = .ok (.iload_n 3, 1) := by decide +kernel
theorem dX4_groupSucceeds_213 : decode cX4_groupSucceeds 213 = .ok (.iload 4, 2) := by decide +kernel
theorem dX4_groupSucceeds_215 : decode cX4_groupSucceeds 215 = .ok (.invokevirtual 215, 3) := by decide +kernel
theorem dX4_groupSucceeds_218 : decode cX4_groupSucceeds 218 = .ok (.ifCond .lt 7, 3) := by decide +kernel
theorem dX4_groupSucceeds_221 : decode cX4_groupSucceeds 221 = .ok (.iconst 1, 1) := by decide +kernel
theorem dX4_groupSucceeds_222 : decode cX4_groupSucceeds 222 = .ok (.goto 4, 3) := by decide +kernel
theorem dX4_groupSucceeds_225 : decode cX4_groupSucceeds 225 = .ok (.iconst 0, 1) := by decide +kernel
theorem dX4_groupSucceeds_226 : decode cX4_groupSucceeds 226 = .ok (.ireturn, 1) := by decide +kernel
theorem dX4_groupSucceeds_227 : decode cX4_groupSucceeds 227 = .ok (.iload 5, 2) := by decide +kernel
theorem dX4_groupSucceeds_229 : decode cX4_groupSucceeds 229 = .ok (.ifCond .eq 25, 3) := by decide +kernel
theorem dX4_groupSucceeds_232 : decode cX4_groupSucceeds 232 = .ok (.aload_n 0, 1) := by decide +kernel
theorem dX4_groupSucceeds_233 : decode cX4_groupSucceeds 233 = .ok (.iload_n 2, 1) := by decide +kernel
theorem dX4_groupSucceeds_234 : decode cX4_groupSucceeds 234 = .ok (.invokevirtual 278, 3) := by decide +kernel
theorem dX4_groupSucceeds_237 : decode cX4_groupSucceeds 237 = .ok (.ifCond .eq 17, 3) := by decide +kernel
theorem dX4_groupSucceeds_240 : decode cX4_groupSucceeds 240 = .ok (.aload_n 0, 1) := by decide +kernel
theorem dX4_groupSucceeds_241 : decode cX4_groupSucceeds 241 = .ok (.iload_n 2, 1) := by decide +kernel
theorem dX4_groupSucceeds_242 : decode cX4_groupSucceeds 242 = .ok (.invokevirtual 150, 3) := by decide +kernel
theorem dX4_groupSucceeds_245 : decode cX4_groupSucceeds 245 = .ok (.iload 4, 2) := by decide +kernel
theorem dX4_groupSucceeds_247 : decode cX4_groupSucceeds 247 = .ok (.if_icmp .gt 7, 3) := by decide +kernel
theorem dX4_groupSucceeds_250 : decode cX4_groupSucceeds 250 = .ok (.iconst 1, 1) := by decide +kernel
theorem dX4_groupSucceeds_251 : decode cX4_groupSucceeds 251 = .ok (.goto 4, 3) := by decide +kernel
theorem dX4_groupSucceeds_254 : decode cX4_groupSucceeds 254 = .ok (.iconst 0, 1) := by decide +kernel
theorem dX4_groupSucceeds_255 : decode cX4_groupSucceeds 255 = .ok (.ireturn, 1) := by decide +kernel
theorem dX4_groupSucceeds_256 : decode cX4_groupSucceeds 256 = .ok (.iload 5, 2) := by decide +kernel
theorem dX4_groupSucceeds_258 : decode cX4_groupSucceeds 258 = .ok (.ifCond .eq 28, 3) := by decide +kernel
theorem dX4_groupSucceeds_261 : decode cX4_groupSucceeds 261 = .ok (.aload_n 0, 1) := by decide +kernel
theorem dX4_groupSucceeds_262 : decode cX4_groupSucceeds 262 = .ok (.iload_n 2, 1) := by decide +kernel
theorem dX4_groupSucceeds_263 : decode cX4_groupSucceeds 263 = .ok (.invokevirtual 278, 3) := by decide +kernel
theorem dX4_groupSucceeds_266 : decode cX4_groupSucceeds 266 = .ok (.ifCond .eq 20, 3) := by decide +kernel
theorem dX4_groupSucceeds_269 : decode cX4_groupSucceeds 269 = .ok (.aload_n 0, 1) := by decide +kernel
theorem dX4_groupSucceeds_270 : decode cX4_groupSucceeds 270 = .ok (.getfield 137, 3) := by decide +kernel
theorem dX4_groupSucceeds_273 : decode cX4_groupSucceeds 273 = .ok (.iload_n 2, 1) := by decide +kernel
theorem dX4_groupSucceeds_274 : decode cX4_groupSucceeds 274 = .ok (.invokestatic 111, 3) := by decide +kernel
theorem dX4_groupSucceeds_277 : decode cX4_groupSucceeds 277 = .ok (.iload 4, 2) := by decide +kernel
theorem dX4_groupSucceeds_279 : decode cX4_groupSucceeds 279 = .ok (.if_icmp .ne 7, 3) := by decide +kernel
theorem dX4_groupSucceeds_282 : decode cX4_groupSucceeds 282 = .ok (.iconst 1, 1) := by decide +kernel
theorem dX4_groupSucceeds_283 : decode cX4_groupSucceeds 283 = .ok (.goto 4, 3) := by decide +kernel
theorem dX4_groupSucceeds_286 : decode cX4_groupSucceeds 286 = .ok (.iconst 0, 1) := by decide +kernel
theorem dX4_groupSucceeds_287 : decode cX4_groupSucceeds 287 = .ok (.ireturn, 1) := by decide +kernel
theorem dX4_groupSucceeds_288 : decode cX4_groupSucceeds 288 = .ok (.iload 5, 2) := by decide +kernel
theorem dX4_groupSucceeds_290 : decode cX4_groupSucceeds 290 = .ok (.ifCond .eq 25, 3) := by decide +kernel
theorem dX4_groupSucceeds_293 : decode cX4_groupSucceeds 293 = .ok (.aload_n 0, 1) := by decide +kernel
theorem dX4_groupSucceeds_294 : decode cX4_groupSucceeds 294 = .ok (.iload_n 2, 1) := by decide +kernel
theorem dX4_groupSucceeds_295 : decode cX4_groupSucceeds 295 = .ok (.invokevirtual 278, 3) := by decide +kernel
theorem dX4_groupSucceeds_298 : decode cX4_groupSucceeds 298 = .ok (.ifCond .eq 17, 3) := by decide +kernel
theorem dX4_groupSucceeds_301 : decode cX4_groupSucceeds 301 = .ok (.aload_n 0, 1) := by decide +kernel
theorem dX4_groupSucceeds_302 : decode cX4_groupSucceeds 302 = .ok (.iload_n 2, 1) := by decide +kernel
theorem dX4_groupSucceeds_303 : decode cX4_groupSucceeds 303 = .ok (.invokevirtual 128, 3) := by decide +kernel
theorem dX4_groupSucceeds_306 : decode cX4_groupSucceeds 306 = .ok (.iload 4, 2) := by decide +kernel
theorem dX4_groupSucceeds_308 : decode cX4_groupSucceeds 308 = .ok (.if_icmp .gt 7, 3) := by decide +kernel
theorem dX4_groupSucceeds_311 : decode cX4_groupSucceeds 311 = .ok (.iconst 1, 1) := by decide +kernel
theorem dX4_groupSucceeds_312 : decode cX4_groupSucceeds 312 = .ok (.goto 4, 3) := by decide +kernel
theorem dX4_groupSucceeds_315 : decode cX4_groupSucceeds 315 = .ok (.iconst 0, 1) := by decide +kernel
theorem dX4_groupSucceeds_316 : decode cX4_groupSucceeds 316 = .ok (.ireturn, 1) := by decide +kernel
theorem dX4_groupSucceeds_317 : decode cX4_groupSucceeds 317 = .ok (.iconst 0, 1) := by decide +kernel
theorem dX4_groupSucceeds_318 : decode cX4_groupSucceeds 318 = .ok (.ireturn, 1) := by decide +kernel
theorem dX4_takeTurn_0 : decode cX4_takeTurn 0 = .ok (.iload_n 1, 1) := by decide +kernel
theorem dX4_takeTurn_1 : decode cX4_takeTurn 1 = .ok (.bipush 16, 2) := by decide +kernel
theorem dX4_takeTurn_3 : decode cX4_takeTurn 3 = .ok (.idiv, 1) := by decide +kernel
theorem dX4_takeTurn_4 : decode cX4_takeTurn 4 = .ok (.istore_n 2, 1) := by decide +kernel
theorem dX4_takeTurn_5 : decode cX4_takeTurn 5 = .ok (.iload_n 1, 1) := by decide +kernel
theorem dX4_takeTurn_6 : decode cX4_takeTurn 6 = .ok (.bipush 16, 2) := by decide +kernel
theorem dX4_takeTurn_8 : decode cX4_takeTurn 8 = .ok (.irem, 1) := by decide +kernel
theorem dX4_takeTurn_9 : decode cX4_takeTurn 9 = .ok (.tableswitch 256 0 11 #[63, 63, 84, 118, 141, 141, 168, 195, 219, 219, 219, 231], 63) := by decide +kernel
theorem dX4_takeTurn_72 : decode cX4_takeTurn 72 = .ok (.aload_n 0, 1) := by decide +kernel
theorem dX4_takeTurn_73 : decode cX4_takeTurn 73 = .ok (.iload_n 2, 1) := by decide +kernel
theorem dX4_takeTurn_74 : decode cX4_takeTurn 74 = .ok (.iconst 4, 1) := by decide +kernel
theorem dX4_takeTurn_75 : decode cX4_takeTurn 75 = .ok (.irem, 1) := by decide +kernel
theorem dX4_takeTurn_76 : decode cX4_takeTurn 76 = .ok (.sipush 400, 3) := by decide +kernel
theorem dX4_takeTurn_79 : decode cX4_takeTurn 79 = .ok (.iload_n 2, 1) := by decide +kernel
theorem dX4_takeTurn_80 : decode cX4_takeTurn 80 = .ok (.iconst 4, 1) := by decide +kernel
theorem dX4_takeTurn_81 : decode cX4_takeTurn 81 = .ok (.idiv, 1) := by decide +kernel
theorem dX4_takeTurn_82 : decode cX4_takeTurn 82 = .ok (.bipush 101, 2) := by decide +kernel
theorem dX4_takeTurn_84 : decode cX4_takeTurn 84 = .ok (.irem, 1) := by decide +kernel
theorem dX4_takeTurn_85 : decode cX4_takeTurn 85 = .ok (.iadd, 1) := by decide +kernel
theorem dX4_takeTurn_86 : decode cX4_takeTurn 86 = .ok (.invokevirtual 186, 3) := by decide +kernel
theorem dX4_takeTurn_89 : decode cX4_takeTurn 89 = .ok (.pop, 1) := by decide +kernel
theorem dX4_takeTurn_90 : decode cX4_takeTurn 90 = .ok (.goto 194, 3) := by decide +kernel
theorem dX4_takeTurn_93 : decode cX4_takeTurn 93 = .ok (.aload_n 0, 1) := by decide +kernel
theorem dX4_takeTurn_94 : decode cX4_takeTurn 94 = .ok (.iload_n 2, 1) := by decide +kernel
theorem dX4_takeTurn_95 : decode cX4_takeTurn 95 = .ok (.bipush 9, 2) := by decide +kernel
theorem dX4_takeTurn_97 : decode cX4_takeTurn 97 = .ok (.irem, 1) := by decide +kernel
theorem dX4_takeTurn_98 : decode cX4_takeTurn 98 = .ok (.iload_n 2, 1) := by decide +kernel
theorem dX4_takeTurn_99 : decode cX4_takeTurn 99 = .ok (.bipush 9, 2) := by decide +kernel
theorem dX4_takeTurn_101 : decode cX4_takeTurn 101 = .ok (.idiv, 1) := by decide +kernel
theorem dX4_takeTurn_102 : decode cX4_takeTurn 102 = .ok (.bipush 9, 2) := by decide +kernel
theorem dX4_takeTurn_104 : decode cX4_takeTurn 104 = .ok (.irem, 1) := by decide +kernel
theorem dX4_takeTurn_105 : decode cX4_takeTurn 105 = .ok (.iload_n 2, 1) := by decide +kernel
theorem dX4_takeTurn_106 : decode cX4_takeTurn 106 = .ok (.bipush 81, 2) := by decide +kernel
theorem dX4_takeTurn_108 : decode cX4_takeTurn 108 = .ok (.idiv, 1) := by decide +kernel
theorem dX4_takeTurn_109 : decode cX4_takeTurn 109 = .ok (.bipush 9, 2) := by decide +kernel
theorem dX4_takeTurn_111 : decode cX4_takeTurn 111 = .ok (.irem, 1) := by decide +kernel
theorem dX4_takeTurn_112 : decode cX4_takeTurn 112 = .ok (.iload_n 2, 1) := by decide +kernel
theorem dX4_takeTurn_113 : decode cX4_takeTurn 113 = .ok (.sipush 729, 3) := by decide +kernel
theorem dX4_takeTurn_116 : decode cX4_takeTurn 116 = .ok (.idiv, 1) := by decide +kernel
theorem dX4_takeTurn_117 : decode cX4_takeTurn 117 = .ok (.bipush 9, 2) := by decide +kernel
theorem dX4_takeTurn_119 : decode cX4_takeTurn 119 = .ok (.irem, 1) := by decide +kernel
theorem dX4_takeTurn_120 : decode cX4_takeTurn 120 = .ok (.invokevirtual 192, 3) := by decide +kernel
theorem dX4_takeTurn_123 : decode cX4_takeTurn 123 = .ok (.pop, 1) := by decide +kernel
theorem dX4_takeTurn_124 : decode cX4_takeTurn 124 = .ok (.goto 160, 3) := by decide +kernel
theorem dX4_takeTurn_127 : decode cX4_takeTurn 127 = .ok (.aload_n 0, 1) := by decide +kernel
theorem dX4_takeTurn_128 : decode cX4_takeTurn 128 = .ok (.iload_n 2, 1) := by decide +kernel
theorem dX4_takeTurn_129 : decode cX4_takeTurn 129 = .ok (.iconst 4, 1) := by decide +kernel
theorem dX4_takeTurn_130 : decode cX4_takeTurn 130 = .ok (.irem, 1) := by decide +kernel
theorem dX4_takeTurn_131 : decode cX4_takeTurn 131 = .ok (.iload_n 2, 1) := by decide +kernel
theorem dX4_takeTurn_132 : decode cX4_takeTurn 132 = .ok (.iconst 4, 1) := by decide +kernel
theorem dX4_takeTurn_133 : decode cX4_takeTurn 133 = .ok (.idiv, 1) := by decide +kernel
theorem dX4_takeTurn_134 : decode cX4_takeTurn 134 = .ok (.iconst 4, 1) := by decide +kernel
theorem dX4_takeTurn_135 : decode cX4_takeTurn 135 = .ok (.irem, 1) := by decide +kernel
theorem dX4_takeTurn_136 : decode cX4_takeTurn 136 = .ok (.iload_n 2, 1) := by decide +kernel
theorem dX4_takeTurn_137 : decode cX4_takeTurn 137 = .ok (.bipush 16, 2) := by decide +kernel
theorem dX4_takeTurn_139 : decode cX4_takeTurn 139 = .ok (.idiv, 1) := by decide +kernel
theorem dX4_takeTurn_140 : decode cX4_takeTurn 140 = .ok (.bipush 12, 2) := by decide +kernel
theorem dX4_takeTurn_142 : decode cX4_takeTurn 142 = .ok (.irem, 1) := by decide +kernel
theorem dX4_takeTurn_143 : decode cX4_takeTurn 143 = .ok (.invokevirtual 196, 3) := by decide +kernel
theorem dX4_takeTurn_146 : decode cX4_takeTurn 146 = .ok (.pop, 1) := by decide +kernel
theorem dX4_takeTurn_147 : decode cX4_takeTurn 147 = .ok (.goto 137, 3) := by decide +kernel
theorem dX4_takeTurn_150 : decode cX4_takeTurn 150 = .ok (.aload_n 0, 1) := by decide +kernel
theorem dX4_takeTurn_151 : decode cX4_takeTurn 151 = .ok (.iload_n 2, 1) := by decide +kernel
theorem dX4_takeTurn_152 : decode cX4_takeTurn 152 = .ok (.bipush 10, 2) := by decide +kernel
theorem dX4_takeTurn_154 : decode cX4_takeTurn 154 = .ok (.irem, 1) := by decide +kernel
theorem dX4_takeTurn_155 : decode cX4_takeTurn 155 = .ok (.iload_n 2, 1) := by decide +kernel
theorem dX4_takeTurn_156 : decode cX4_takeTurn 156 = .ok (.bipush 16, 2) := by decide +kernel
theorem dX4_takeTurn_158 : decode cX4_takeTurn 158 = .ok (.idiv, 1) := by decide +kernel
theorem dX4_takeTurn_159 : decode cX4_takeTurn 159 = .ok (.iconst 4, 1) := by decide +kernel
theorem dX4_takeTurn_160 : decode cX4_takeTurn 160 = .ok (.irem, 1) := by decide +kernel
theorem dX4_takeTurn_161 : decode cX4_takeTurn 161 = .ok (.iconst 1, 1) := by decide +kernel
theorem dX4_takeTurn_162 : decode cX4_takeTurn 162 = .ok (.iload_n 2, 1) := by decide +kernel
theorem dX4_takeTurn_163 : decode cX4_takeTurn 163 = .ok (.bipush 64, 2) := by decide +kernel
theorem dX4_takeTurn_165 : decode cX4_takeTurn 165 = .ok (.idiv, 1) := by decide +kernel
theorem dX4_takeTurn_166 : decode cX4_takeTurn 166 = .ok (.bipush 9, 2) := by decide +kernel
theorem dX4_takeTurn_168 : decode cX4_takeTurn 168 = .ok (.irem, 1) := by decide +kernel
theorem dX4_takeTurn_169 : decode cX4_takeTurn 169 = .ok (.iadd, 1) := by decide +kernel
theorem dX4_takeTurn_170 : decode cX4_takeTurn 170 = .ok (.invokevirtual 203, 3) := by decide +kernel
theorem dX4_takeTurn_173 : decode cX4_takeTurn 173 = .ok (.pop, 1) := by decide +kernel
theorem dX4_takeTurn_174 : decode cX4_takeTurn 174 = .ok (.goto 110, 3) := by decide +kernel
theorem dX4_takeTurn_177 : decode cX4_takeTurn 177 = .ok (.aload_n 0, 1) := by decide +kernel
theorem dX4_takeTurn_178 : decode cX4_takeTurn 178 = .ok (.iload_n 2, 1) := by decide +kernel
theorem dX4_takeTurn_179 : decode cX4_takeTurn 179 = .ok (.bipush 10, 2) := by decide +kernel
theorem dX4_takeTurn_181 : decode cX4_takeTurn 181 = .ok (.irem, 1) := by decide +kernel
theorem dX4_takeTurn_182 : decode cX4_takeTurn 182 = .ok (.iload_n 2, 1) := by decide +kernel
theorem dX4_takeTurn_183 : decode cX4_takeTurn 183 = .ok (.bipush 16, 2) := by decide +kernel
theorem dX4_takeTurn_185 : decode cX4_takeTurn 185 = .ok (.idiv, 1) := by decide +kernel
theorem dX4_takeTurn_186 : decode cX4_takeTurn 186 = .ok (.iconst 4, 1) := by decide +kernel
theorem dX4_takeTurn_187 : decode cX4_takeTurn 187 = .ok (.irem, 1) := by decide +kernel
theorem dX4_takeTurn_188 : decode cX4_takeTurn 188 = .ok (.iconst 1, 1) := by decide +kernel
theorem dX4_takeTurn_189 : decode cX4_takeTurn 189 = .ok (.iload_n 2, 1) := by decide +kernel
theorem dX4_takeTurn_190 : decode cX4_takeTurn 190 = .ok (.bipush 64, 2) := by decide +kernel
theorem dX4_takeTurn_192 : decode cX4_takeTurn 192 = .ok (.idiv, 1) := by decide +kernel
theorem dX4_takeTurn_193 : decode cX4_takeTurn 193 = .ok (.bipush 9, 2) := by decide +kernel
theorem dX4_takeTurn_195 : decode cX4_takeTurn 195 = .ok (.irem, 1) := by decide +kernel
theorem dX4_takeTurn_196 : decode cX4_takeTurn 196 = .ok (.iadd, 1) := by decide +kernel
theorem dX4_takeTurn_197 : decode cX4_takeTurn 197 = .ok (.invokevirtual 206, 3) := by decide +kernel
theorem dX4_takeTurn_200 : decode cX4_takeTurn 200 = .ok (.pop, 1) := by decide +kernel
theorem dX4_takeTurn_201 : decode cX4_takeTurn 201 = .ok (.goto 83, 3) := by decide +kernel
theorem dX4_takeTurn_204 : decode cX4_takeTurn 204 = .ok (.aload_n 0, 1) := by decide +kernel
theorem dX4_takeTurn_205 : decode cX4_takeTurn 205 = .ok (.iload_n 2, 1) := by decide +kernel
theorem dX4_takeTurn_206 : decode cX4_takeTurn 206 = .ok (.bipush 10, 2) := by decide +kernel
theorem dX4_takeTurn_208 : decode cX4_takeTurn 208 = .ok (.irem, 1) := by decide +kernel
theorem dX4_takeTurn_209 : decode cX4_takeTurn 209 = .ok (.iload_n 2, 1) := by decide +kernel
theorem dX4_takeTurn_210 : decode cX4_takeTurn 210 = .ok (.bipush 16, 2) := by decide +kernel
theorem dX4_takeTurn_212 : decode cX4_takeTurn 212 = .ok (.idiv, 1) := by decide +kernel
theorem dX4_takeTurn_213 : decode cX4_takeTurn 213 = .ok (.iconst 4, 1) := by decide +kernel
theorem dX4_takeTurn_214 : decode cX4_takeTurn 214 = .ok (.irem, 1) := by decide +kernel
theorem dX4_takeTurn_215 : decode cX4_takeTurn 215 = .ok (.iload_n 2, 1) := by decide +kernel
theorem dX4_takeTurn_216 : decode cX4_takeTurn 216 = .ok (.bipush 64, 2) := by decide +kernel
theorem dX4_takeTurn_218 : decode cX4_takeTurn 218 = .ok (.idiv, 1) := by decide +kernel
theorem dX4_takeTurn_219 : decode cX4_takeTurn 219 = .ok (.iconst 4, 1) := by decide +kernel
theorem dX4_takeTurn_220 : decode cX4_takeTurn 220 = .ok (.irem, 1) := by decide +kernel
theorem dX4_takeTurn_221 : decode cX4_takeTurn 221 = .ok (.invokevirtual 200, 3) := by decide +kernel
theorem dX4_takeTurn_224 : decode cX4_takeTurn 224 = .ok (.pop, 1) := by decide +kernel
theorem dX4_takeTurn_225 : decode cX4_takeTurn 225 = .ok (.goto 59, 3) := by decide +kernel
theorem dX4_takeTurn_228 : decode cX4_takeTurn 228 = .ok (.aload_n 0, 1) := by decide +kernel
theorem dX4_takeTurn_229 : decode cX4_takeTurn 229 = .ok (.iload_n 2, 1) := by decide +kernel
theorem dX4_takeTurn_230 : decode cX4_takeTurn 230 = .ok (.bipush 10, 2) := by decide +kernel
theorem dX4_takeTurn_232 : decode cX4_takeTurn 232 = .ok (.irem, 1) := by decide +kernel
theorem dX4_takeTurn_233 : decode cX4_takeTurn 233 = .ok (.invokevirtual 209, 3) := by decide +kernel
theorem dX4_takeTurn_236 : decode cX4_takeTurn 236 = .ok (.pop, 1) := by decide +kernel
theorem dX4_takeTurn_237 : decode cX4_takeTurn 237 = .ok (.goto 47, 3) := by decide +kernel
theorem dX4_takeTurn_240 : decode cX4_takeTurn 240 = .ok (.aload_n 0, 1) := by decide +kernel
theorem dX4_takeTurn_241 : decode cX4_takeTurn 241 = .ok (.iload_n 2, 1) := by decide +kernel
theorem dX4_takeTurn_242 : decode cX4_takeTurn 242 = .ok (.iconst 4, 1) := by decide +kernel
theorem dX4_takeTurn_243 : decode cX4_takeTurn 243 = .ok (.irem, 1) := by decide +kernel
theorem dX4_takeTurn_244 : decode cX4_takeTurn 244 = .ok (.iconst 2, 1) := by decide +kernel
theorem dX4_takeTurn_245 : decode cX4_takeTurn 245 = .ok (.iload_n 2, 1) := by decide +kernel
theorem dX4_takeTurn_246 : decode cX4_takeTurn 246 = .ok (.iconst 4, 1) := by decide +kernel
theorem dX4_takeTurn_247 : decode cX4_takeTurn 247 = .ok (.idiv, 1) := by decide +kernel
theorem dX4_takeTurn_248 : decode cX4_takeTurn 248 = .ok (.iconst 2, 1) := by decide +kernel
theorem dX4_takeTurn_249 : decode cX4_takeTurn 249 = .ok (.irem, 1) := by decide +kernel
theorem dX4_takeTurn_250 : decode cX4_takeTurn 250 = .ok (.iadd, 1) := by decide +kernel
theorem dX4_takeTurn_251 : decode cX4_takeTurn 251 = .ok (.iload_n 2, 1) := by decide +kernel
theorem dX4_takeTurn_252 : decode cX4_takeTurn 252 = .ok (.bipush 8, 2) := by decide +kernel
theorem dX4_takeTurn_254 : decode cX4_takeTurn 254 = .ok (.idiv, 1) := by decide +kernel
theorem dX4_takeTurn_255 : decode cX4_takeTurn 255 = .ok (.bipush 30, 2) := by decide +kernel
theorem dX4_takeTurn_257 : decode cX4_takeTurn 257 = .ok (.irem, 1) := by decide +kernel
theorem dX4_takeTurn_258 : decode cX4_takeTurn 258 = .ok (.invokevirtual 215, 3) := by decide +kernel
theorem dX4_takeTurn_261 : decode cX4_takeTurn 261 = .ok (.pop, 1) := by decide +kernel
theorem dX4_takeTurn_262 : decode cX4_takeTurn 262 = .ok (.goto 22, 3) := by decide +kernel
theorem dX4_takeTurn_265 : decode cX4_takeTurn 265 = .ok (.aload_n 0, 1) := by decide +kernel
theorem dX4_takeTurn_266 : decode cX4_takeTurn 266 = .ok (.iload_n 2, 1) := by decide +kernel
theorem dX4_takeTurn_267 : decode cX4_takeTurn 267 = .ok (.bipush 10, 2) := by decide +kernel
theorem dX4_takeTurn_269 : decode cX4_takeTurn 269 = .ok (.irem, 1) := by decide +kernel
theorem dX4_takeTurn_270 : decode cX4_takeTurn 270 = .ok (.iconst 1, 1) := by decide +kernel
theorem dX4_takeTurn_271 : decode cX4_takeTurn 271 = .ok (.iload_n 2, 1) := by decide +kernel
theorem dX4_takeTurn_272 : decode cX4_takeTurn 272 = .ok (.bipush 16, 2) := by decide +kernel
theorem dX4_takeTurn_274 : decode cX4_takeTurn 274 = .ok (.idiv, 1) := by decide +kernel
theorem dX4_takeTurn_275 : decode cX4_takeTurn 275 = .ok (.sipush 200, 3) := by decide +kernel
theorem dX4_takeTurn_278 : decode cX4_takeTurn 278 = .ok (.irem, 1) := by decide +kernel
theorem dX4_takeTurn_279 : decode cX4_takeTurn 279 = .ok (.iadd, 1) := by decide +kernel
theorem dX4_takeTurn_280 : decode cX4_takeTurn 280 = .ok (.invokevirtual 212, 3) := by decide +kernel
theorem dX4_takeTurn_283 : decode cX4_takeTurn 283 = .ok (.pop, 1) := by decide +kernel
theorem dX4_takeTurn_284 : decode cX4_takeTurn 284 = .ok (.return_, 1) := by decide +kernel
theorem dX4_within_0 : decode cX4_within 0 = .ok (.iload_n 0, 1) := by decide +kernel
theorem dX4_within_1 : decode cX4_within 1 = .ok (.iload_n 1, 1) := by decide +kernel
theorem dX4_within_2 : decode cX4_within 2 = .ok (.if_icmp .lt 12, 3) := by decide +kernel
theorem dX4_within_5 : decode cX4_within 5 = .ok (.iload_n 0, 1) := by decide +kernel
theorem dX4_within_6 : decode cX4_within 6 = .ok (.iload_n 2, 1) := by decide +kernel
theorem dX4_within_7 : decode cX4_within 7 = .ok (.if_icmp .gt 7, 3) := by decide +kernel
theorem dX4_within_10 : decode cX4_within 10 = .ok (.iconst 1, 1) := by decide +kernel
theorem dX4_within_11 : decode cX4_within 11 = .ok (.goto 4, 3) := by decide +kernel
theorem dX4_within_14 : decode cX4_within 14 = .ok (.iconst 0, 1) := by decide +kernel
theorem dX4_within_15 : decode cX4_within 15 = .ok (.ireturn, 1) := by decide +kernel
theorem dX4_at_0 : decode cX4_at 0 = .ok (.iload_n 1, 1) := by decide +kernel
theorem dX4_at_1 : decode cX4_at 1 = .ok (.ifCond .lt 15, 3) := by decide +kernel
theorem dX4_at_4 : decode cX4_at 4 = .ok (.iload_n 1, 1) := by decide +kernel
theorem dX4_at_5 : decode cX4_at 5 = .ok (.aload_n 0, 1) := by decide +kernel
theorem dX4_at_6 : decode cX4_at 6 = .ok (.arraylength, 1) := by decide +kernel
theorem dX4_at_7 : decode cX4_at 7 = .ok (.if_icmp .ge 9, 3) := by decide +kernel
theorem dX4_at_10 : decode cX4_at 10 = .ok (.aload_n 0, 1) := by decide +kernel
theorem dX4_at_11 : decode cX4_at 11 = .ok (.iload_n 1, 1) := by decide +kernel
theorem dX4_at_12 : decode cX4_at 12 = .ok (.iaload, 1) := by decide +kernel
theorem dX4_at_13 : decode cX4_at 13 = .ok (.goto 4, 3) := by decide +kernel
theorem dX4_at_16 : decode cX4_at 16 = .ok (.iconst 0, 1) := by decide +kernel
theorem dX4_at_17 : decode cX4_at 17 = .ok (.ireturn, 1) := by decide +kernel
theorem dX4_put_0 : decode cX4_put 0 = .ok (.iload_n 1, 1) := by decide +kernel
theorem dX4_put_1 : decode cX4_put 1 = .ok (.ifCond .lt 13, 3) := by decide +kernel
theorem dX4_put_4 : decode cX4_put 4 = .ok (.iload_n 1, 1) := by decide +kernel
theorem dX4_put_5 : decode cX4_put 5 = .ok (.aload_n 0, 1) := by decide +kernel
theorem dX4_put_6 : decode cX4_put 6 = .ok (.arraylength, 1) := by decide +kernel
theorem dX4_put_7 : decode cX4_put 7 = .ok (.if_icmp .ge 7, 3) := by decide +kernel
theorem dX4_put_10 : decode cX4_put 10 = .ok (.aload_n 0, 1) := by decide +kernel
theorem dX4_put_11 : decode cX4_put 11 = .ok (.iload_n 1, 1) := by decide +kernel
theorem dX4_put_12 : decode cX4_put 12 = .ok (.iload_n 2, 1) := by decide +kernel
theorem dX4_put_13 : decode cX4_put 13 = .ok (.iastore, 1) := by decide +kernel
theorem dX4_put_14 : decode cX4_put 14 = .ok (.return_, 1) := by decide +kernel
theorem dX4_fill_0 : decode cX4_fill 0 = .ok (.iconst 0, 1) := by decide +kernel
theorem dX4_fill_1 : decode cX4_fill 1 = .ok (.istore_n 2, 1) := by decide +kernel
theorem dX4_fill_2 : decode cX4_fill 2 = .ok (.iload_n 2, 1) := by decide +kernel
theorem dX4_fill_3 : decode cX4_fill 3 = .ok (.aload_n 0, 1) := by decide +kernel
theorem dX4_fill_4 : decode cX4_fill 4 = .ok (.arraylength, 1) := by decide +kernel
theorem dX4_fill_5 : decode cX4_fill 5 = .ok (.if_icmp .ge 13, 3) := by decide +kernel
theorem dX4_fill_8 : decode cX4_fill 8 = .ok (.aload_n 0, 1) := by decide +kernel
theorem dX4_fill_9 : decode cX4_fill 9 = .ok (.iload_n 2, 1) := by decide +kernel
theorem dX4_fill_10 : decode cX4_fill 10 = .ok (.iload_n 1, 1) := by decide +kernel
theorem dX4_fill_11 : decode cX4_fill 11 = .ok (.iastore, 1) := by decide +kernel
theorem dX4_fill_12 : decode cX4_fill 12 = .ok (.iinc 2 1, 3) := by decide +kernel
theorem dX4_fill_15 : decode cX4_fill 15 = .ok (.goto (-13), 3) := by decide +kernel
theorem dX4_fill_18 : decode cX4_fill 18 = .ok (.return_, 1) := by decide +kernel
theorem dX4_copyRow_0 : decode cX4_copyRow 0 = .ok (.iconst 0, 1) := by decide +kernel
theorem dX4_copyRow_1 : decode cX4_copyRow 1 = .ok (.istore_n 2, 1) := by decide +kernel
theorem dX4_copyRow_2 : decode cX4_copyRow 2 = .ok (.iload_n 2, 1) := by decide +kernel
theorem dX4_copyRow_3 : decode cX4_copyRow 3 = .ok (.aload_n 0, 1) := by decide +kernel
theorem dX4_copyRow_4 : decode cX4_copyRow 4 = .ok (.arraylength, 1) := by decide +kernel
theorem dX4_copyRow_5 : decode cX4_copyRow 5 = .ok (.if_icmp .ge 21, 3) := by decide +kernel
theorem dX4_copyRow_8 : decode cX4_copyRow 8 = .ok (.iload_n 2, 1) := by decide +kernel
theorem dX4_copyRow_9 : decode cX4_copyRow 9 = .ok (.aload_n 1, 1) := by decide +kernel
theorem dX4_copyRow_10 : decode cX4_copyRow 10 = .ok (.arraylength, 1) := by decide +kernel
theorem dX4_copyRow_11 : decode cX4_copyRow 11 = .ok (.if_icmp .ge 15, 3) := by decide +kernel
theorem dX4_copyRow_14 : decode cX4_copyRow 14 = .ok (.aload_n 1, 1) := by decide +kernel
theorem dX4_copyRow_15 : decode cX4_copyRow 15 = .ok (.iload_n 2, 1) := by decide +kernel
theorem dX4_copyRow_16 : decode cX4_copyRow 16 = .ok (.aload_n 0, 1) := by decide +kernel
theorem dX4_copyRow_17 : decode cX4_copyRow 17 = .ok (.iload_n 2, 1) := by decide +kernel
theorem dX4_copyRow_18 : decode cX4_copyRow 18 = .ok (.iaload, 1) := by decide +kernel
theorem dX4_copyRow_19 : decode cX4_copyRow 19 = .ok (.iastore, 1) := by decide +kernel
theorem dX4_copyRow_20 : decode cX4_copyRow 20 = .ok (.iinc 2 1, 3) := by decide +kernel
theorem dX4_copyRow_23 : decode cX4_copyRow 23 = .ok (.goto (-21), 3) := by decide +kernel
theorem dX4_copyRow_26 : decode cX4_copyRow 26 = .ok (.return_, 1) := by decide +kernel
end
section
theorem dX5_init_0 : decode cX5_init 0 = .ok (.aload_n 0, 1) := by decide +kernel
theorem dX5_init_1 : decode cX5_init 1 = .ok (.invokespecial 1, 3) := by decide +kernel
theorem dX5_init_4 : decode cX5_init 4 = .ok (.aload_n 0, 1) := by decide +kernel
theorem dX5_init_5 : decode cX5_init 5 = .ok (.bipush 120, 2) := by decide +kernel
theorem dX5_init_7 : decode cX5_init 7 = .ok (.newarray .int, 2) := by decide +kernel
theorem dX5_init_9 : decode cX5_init 9 = .ok (.putfield 7, 3) := by decide +kernel
theorem dX5_init_12 : decode cX5_init 12 = .ok (.aload_n 0, 1) := by decide +kernel
theorem dX5_init_13 : decode cX5_init 13 = .ok (.sipush 134, 3) := by decide +kernel
theorem dX5_init_16 : decode cX5_init 16 = .ok (.newarray .int, 2) := by decide +kernel
theorem dX5_init_18 : decode cX5_init 18 = .ok (.putfield 13, 3) := by decide +kernel
theorem dX5_init_21 : decode cX5_init 21 = .ok (.aload_n 0, 1) := by decide +kernel
theorem dX5_init_22 : decode cX5_init 22 = .ok (.sipush 134, 3) := by decide +kernel
theorem dX5_init_25 : decode cX5_init 25 = .ok (.newarray .int, 2) := by decide +kernel
theorem dX5_init_27 : decode cX5_init 27 = .ok (.putfield 16, 3) := by decide +kernel
theorem dX5_init_30 : decode cX5_init 30 = .ok (.aload_n 0, 1) := by decide +kernel
theorem dX5_init_31 : decode cX5_init 31 = .ok (.sipush 1876, 3) := by decide +kernel
theorem dX5_init_34 : decode cX5_init 34 = .ok (.newarray .int, 2) := by decide +kernel
theorem dX5_init_36 : decode cX5_init 36 = .ok (.putfield 19, 3) := by decide +kernel
theorem dX5_init_39 : decode cX5_init 39 = .ok (.aload_n 0, 1) := by decide +kernel
theorem dX5_init_40 : decode cX5_init 40 = .ok (.sipush 268, 3) := by decide +kernel
theorem dX5_init_43 : decode cX5_init 43 = .ok (.newarray .int, 2) := by decide +kernel
theorem dX5_init_45 : decode cX5_init 45 = .ok (.putfield 22, 3) := by decide +kernel
theorem dX5_init_48 : decode cX5_init 48 = .ok (.aload_n 0, 1) := by decide +kernel
theorem dX5_init_49 : decode cX5_init 49 = .ok (.iconst 2, 1) := by decide +kernel
theorem dX5_init_50 : decode cX5_init 50 = .ok (.newarray .boolean, 2) := by decide +kernel
theorem dX5_init_52 : decode cX5_init 52 = .ok (.putfield 25, 3) := by decide +kernel
theorem dX5_init_55 : decode cX5_init 55 = .ok (.aload_n 0, 1) := by decide +kernel
theorem dX5_init_56 : decode cX5_init 56 = .ok (.getfield 13, 3) := by decide +kernel
theorem dX5_init_59 : decode cX5_init 59 = .ok (.invokestatic 29, 3) := by decide +kernel
theorem dX5_init_62 : decode cX5_init 62 = .ok (.return_, 1) := by decide +kernel
theorem dX5_thrown_0 : decode cX5_thrown 0 = .ok (.aload_n 0, 1) := by decide +kernel
theorem dX5_thrown_1 : decode cX5_thrown 1 = .ok (.getfield 33, 3) := by decide +kernel
theorem dX5_thrown_4 : decode cX5_thrown 4 = .ok (.ireturn, 1) := by decide +kernel
theorem dX5_refused_0 : decode cX5_refused 0 = .ok (.aload_n 0, 1) := by decide +kernel
theorem dX5_refused_1 : decode cX5_refused 1 = .ok (.iload_n 1, 1) := by decide +kernel
theorem dX5_refused_2 : decode cX5_refused 2 = .ok (.putfield 33, 3) := by decide +kernel
theorem dX5_refused_5 : decode cX5_refused 5 = .ok (.iload_n 1, 1) := by decide +kernel
theorem dX5_refused_6 : decode cX5_refused 6 = .ok (.ifCond .le 7, 3) := by decide +kernel
theorem dX5_refused_9 : decode cX5_refused 9 = .ok (.iconst 1, 1) := by decide +kernel
theorem dX5_refused_10 : decode cX5_refused 10 = .ok (.goto 4, 3) := by decide +kernel
theorem dX5_refused_13 : decode cX5_refused 13 = .ok (.iconst 0, 1) := by decide +kernel
theorem dX5_refused_14 : decode cX5_refused 14 = .ok (.ireturn, 1) := by decide +kernel
theorem dX5_in_0 : decode cX5_in 0 = .ok (.lload_n 0, 1) := by decide +kernel
theorem dX5_in_1 : decode cX5_in 1 = .ok (.lload_n 2, 1) := by decide +kernel
theorem dX5_in_2 : decode cX5_in 2 = .ok (.lcmp, 1) := by decide +kernel
theorem dX5_in_3 : decode cX5_in 3 = .ok (.ifCond .lt 14, 3) := by decide +kernel
theorem dX5_in_6 : decode cX5_in 6 = .ok (.lload_n 0, 1) := by decide +kernel
theorem dX5_in_7 : decode cX5_in 7 = .ok (.lload 4, 2) := by decide +kernel
theorem dX5_in_9 : decode cX5_in 9 = .ok (.lcmp, 1) := by decide +kernel
theorem dX5_in_10 : decode cX5_in 10 = .ok (.ifCond .gt 7, 3) := by decide +kernel
theorem dX5_in_13 : decode cX5_in 13 = .ok (.iconst 1, 1) := by decide +kernel
theorem dX5_in_14 : decode cX5_in 14 = .ok (.goto 4, 3) := by decide +kernel
theorem dX5_in_17 : decode cX5_in 17 = .ok (.iconst 0, 1) := by decide +kernel
theorem dX5_in_18 : decode cX5_in 18 = .ok (.ireturn, 1) := by decide +kernel
theorem dX5_copyState_0 : decode cX5_copyState 0 = .ok (.iconst 0, 1) := by decide +kernel
theorem dX5_copyState_1 : decode cX5_copyState 1 = .ok (.istore 4, 2) := by decide +kernel
theorem dX5_copyState_3 : decode cX5_copyState 3 = .ok (.iload 4, 2) := by decide +kernel
theorem dX5_copyState_5 : decode cX5_copyState 5 = .ok (.sipush 134, 3) := by decide +kernel
theorem dX5_copyState_8 : decode cX5_copyState 8 = .ok (.if_icmp .ge 21, 3) := by decide +kernel
theorem dX5_copyState_11 : decode cX5_copyState 11 = .ok (.aload_n 2, 1) := by decide +kernel
theorem dX5_copyState_12 : decode cX5_copyState 12 = .ok (.iload_n 3, 1) := by decide +kernel
theorem dX5_copyState_13 : decode cX5_copyState 13 = .ok (.iload 4, 2) := by decide +kernel
theorem dX5_copyState_15 : decode cX5_copyState 15 = .ok (.iadd, 1) := by decide +kernel
theorem dX5_copyState_16 : decode cX5_copyState 16 = .ok (.aload_n 0, 1) := by decide +kernel
theorem dX5_copyState_17 : decode cX5_copyState 17 = .ok (.iload_n 1, 1) := by decide +kernel
theorem dX5_copyState_18 : decode cX5_copyState 18 = .ok (.iload 4, 2) := by decide +kernel
theorem dX5_copyState_20 : decode cX5_copyState 20 = .ok (.iadd, 1) := by decide +kernel
theorem dX5_copyState_21 : decode cX5_copyState 21 = .ok (.iaload, 1) := by decide +kernel
theorem dX5_copyState_22 : decode cX5_copyState 22 = .ok (.iastore, 1) := by decide +kernel
theorem dX5_copyState_23 : decode cX5_copyState 23 = .ok (.iinc 4 1, 3) := by decide +kernel
theorem dX5_copyState_26 : decode cX5_copyState 26 = .ok (.goto (-23), 3) := by decide +kernel
theorem dX5_copyState_29 : decode cX5_copyState 29 = .ok (.return_, 1) := by decide +kernel
theorem dX5_clear_0 : decode cX5_clear 0 = .ok (.iconst 0, 1) := by decide +kernel
theorem dX5_clear_1 : decode cX5_clear 1 = .ok (.istore_n 1, 1) := by decide +kernel
theorem dX5_clear_2 : decode cX5_clear 2 = .ok (.iload_n 1, 1) := by decide +kernel
theorem dX5_clear_3 : decode cX5_clear 3 = .ok (.sipush 134, 3) := by decide +kernel
theorem dX5_clear_6 : decode cX5_clear 6 = .ok (.if_icmp .ge 13, 3) := by decide +kernel
theorem dX5_clear_9 : decode cX5_clear 9 = .ok (.aload_n 0, 1) := by decide +kernel
theorem dX5_clear_10 : decode cX5_clear 10 = .ok (.iload_n 1, 1) := by decide +kernel
theorem dX5_clear_11 : decode cX5_clear 11 = .ok (.iconst 0, 1) := by decide +kernel
theorem dX5_clear_12 : decode cX5_clear 12 = .ok (.iastore, 1) := by decide +kernel
theorem dX5_clear_13 : decode cX5_clear 13 = .ok (.iinc 1 1, 3) := by decide +kernel
theorem dX5_clear_16 : decode cX5_clear 16 = .ok (.goto (-14), 3) := by decide +kernel
theorem dX5_clear_19 : decode cX5_clear 19 = .ok (.aload_n 0, 1) := by decide +kernel
theorem dX5_clear_20 : decode cX5_clear 20 = .ok (.iconst 1, 1) := by decide +kernel
theorem dX5_clear_21 : decode cX5_clear 21 = .ok (.iconst 1, 1) := by decide +kernel
theorem dX5_clear_22 : decode cX5_clear 22 = .ok (.iastore, 1) := by decide +kernel
theorem dX5_clear_23 : decode cX5_clear 23 = .ok (.aload_n 0, 1) := by decide +kernel
theorem dX5_clear_24 : decode cX5_clear 24 = .ok (.bipush 10, 2) := by decide +kernel
theorem dX5_clear_26 : decode cX5_clear 26 = .ok (.iconst 5, 1) := by decide +kernel
theorem dX5_clear_27 : decode cX5_clear 27 = .ok (.iastore, 1) := by decide +kernel
theorem dX5_clear_28 : decode cX5_clear 28 = .ok (.aload_n 0, 1) := by decide +kernel
theorem dX5_clear_29 : decode cX5_clear 29 = .ok (.bipush 11, 2) := by decide +kernel
theorem dX5_clear_31 : decode cX5_clear 31 = .ok (.bipush 60, 2) := by decide +kernel
theorem dX5_clear_33 : decode cX5_clear 33 = .ok (.iastore, 1) := by decide +kernel
theorem dX5_clear_34 : decode cX5_clear 34 = .ok (.iconst 0, 1) := by decide +kernel
theorem dX5_clear_35 : decode cX5_clear 35 = .ok (.istore_n 1, 1) := by decide +kernel
theorem dX5_clear_36 : decode cX5_clear 36 = .ok (.iload_n 1, 1) := by decide +kernel
theorem dX5_clear_37 : decode cX5_clear 37 = .ok (.iconst 4, 1) := by decide +kernel
theorem dX5_clear_38 : decode cX5_clear 38 = .ok (.if_icmp .ge 56, 3) := by decide +kernel
theorem dX5_clear_41 : decode cX5_clear 41 = .ok (.aload_n 0, 1) := by decide +kernel
theorem dX5_clear_42 : decode cX5_clear 42 = .ok (.bipush 28, 2) := by decide +kernel
theorem dX5_clear_44 : decode cX5_clear 44 = .ok (.iconst 4, 1) := by decide +kernel
theorem dX5_clear_45 : decode cX5_clear 45 = .ok (.iload_n 1, 1) := by decide +kernel
theorem dX5_clear_46 : decode cX5_clear 46 = .ok (.imul, 1) := by decide +kernel
theorem dX5_clear_47 : decode cX5_clear 47 = .ok (.iadd, 1) := by decide +kernel
theorem dX5_clear_48 : decode cX5_clear 48 = .ok (.sipush 400, 3) := by decide +kernel
theorem dX5_clear_51 : decode cX5_clear 51 = .ok (.iastore, 1) := by decide +kernel
theorem dX5_clear_52 : decode cX5_clear 52 = .ok (.aload_n 0, 1) := by decide +kernel
theorem dX5_clear_53 : decode cX5_clear 53 = .ok (.bipush 28, 2) := by decide +kernel
theorem dX5_clear_55 : decode cX5_clear 55 = .ok (.iconst 4, 1) := by decide +kernel
theorem dX5_clear_56 : decode cX5_clear 56 = .ok (.iload_n 1, 1) := by decide +kernel
theorem dX5_clear_57 : decode cX5_clear 57 = .ok (.imul, 1) := by decide +kernel
theorem dX5_clear_58 : decode cX5_clear 58 = .ok (.iadd, 1) := by decide +kernel
theorem dX5_clear_59 : decode cX5_clear 59 = .ok (.iconst 1, 1) := by decide +kernel
theorem dX5_clear_60 : decode cX5_clear 60 = .ok (.iadd, 1) := by decide +kernel
theorem dX5_clear_61 : decode cX5_clear 61 = .ok (.sipush 500, 3) := by decide +kernel
theorem dX5_clear_64 : decode cX5_clear 64 = .ok (.iastore, 1) := by decide +kernel
theorem dX5_clear_65 : decode cX5_clear 65 = .ok (.aload_n 0, 1) := by decide +kernel
theorem dX5_clear_66 : decode cX5_clear 66 = .ok (.bipush 28, 2) := by decide +kernel
theorem dX5_clear_68 : decode cX5_clear 68 = .ok (.iconst 4, 1) := by decide +kernel
theorem dX5_clear_69 : decode cX5_clear 69 = .ok (.iload_n 1, 1) := by decide +kernel
theorem dX5_clear_70 : decode cX5_clear 70 = .ok (.imul, 1) := by decide +kernel
theorem dX5_clear_71 : decode cX5_clear 71 = .ok (.iadd, 1) := by decide +kernel
theorem dX5_clear_72 : decode cX5_clear 72 = .ok (.iconst 2, 1) := by decide +kernel
theorem dX5_clear_73 : decode cX5_clear 73 = .ok (.iadd, 1) := by decide +kernel
theorem dX5_clear_74 : decode cX5_clear 74 = .ok (.iconst 4, 1) := by decide +kernel
theorem dX5_clear_75 : decode cX5_clear 75 = .ok (.iastore, 1) := by decide +kernel
theorem dX5_clear_76 : decode cX5_clear 76 = .ok (.aload_n 0, 1) := by decide +kernel
theorem dX5_clear_77 : decode cX5_clear 77 = .ok (.bipush 28, 2) := by decide +kernel
theorem dX5_clear_79 : decode cX5_clear 79 = .ok (.iconst 4, 1) := by decide +kernel
theorem dX5_clear_80 : decode cX5_clear 80 = .ok (.iload_n 1, 1) := by decide +kernel
theorem dX5_clear_81 : decode cX5_clear 81 = .ok (.imul, 1) := by decide +kernel
theorem dX5_clear_82 : decode cX5_clear 82 = .ok (.iadd, 1) := by decide +kernel
theorem dX5_clear_83 : decode cX5_clear 83 = .ok (.iconst 3, 1) := by decide +kernel
theorem dX5_clear_84 : decode cX5_clear 84 = .ok (.iadd, 1) := by decide +kernel
theorem dX5_clear_85 : decode cX5_clear 85 = .ok (.bipush 12, 2) := by decide +kernel
theorem dX5_clear_87 : decode cX5_clear 87 = .ok (.iastore, 1) := by decide +kernel
theorem dX5_clear_88 : decode cX5_clear 88 = .ok (.iinc 1 1, 3) := by decide +kernel
theorem dX5_clear_91 : decode cX5_clear 91 = .ok (.goto (-55), 3) := by decide +kernel
theorem dX5_clear_94 : decode cX5_clear 94 = .ok (.return_, 1) := by decide +kernel
theorem dX5_of_0 : decode cX5_of 0 = .ok (.aload_n 0, 1) := by decide +kernel
theorem dX5_of_1 : decode cX5_of 1 = .ok (.bipush 44, 2) := by decide +kernel
theorem dX5_of_3 : decode cX5_of 3 = .ok (.bipush 9, 2) := by decide +kernel
theorem dX5_of_5 : decode cX5_of 5 = .ok (.iload_n 1, 1) := by decide +kernel
theorem dX5_of_6 : decode cX5_of 6 = .ok (.imul, 1) := by decide +kernel
theorem dX5_of_7 : decode cX5_of 7 = .ok (.iadd, 1) := by decide +kernel
theorem dX5_of_8 : decode cX5_of 8 = .ok (.iload_n 2, 1) := by decide +kernel
theorem dX5_of_9 : decode cX5_of 9 = .ok (.iadd, 1) := by decide +kernel
theorem dX5_of_10 : decode cX5_of 10 = .ok (.iaload, 1) := by decide +kernel
theorem dX5_of_11 : decode cX5_of 11 = .ok (.ireturn, 1) := by decide +kernel
theorem dX5_lay_0 : decode cX5_lay 0 = .ok (.aload_n 0, 1) := by decide +kernel
theorem dX5_lay_1 : decode cX5_lay 1 = .ok (.bipush 44, 2) := by decide +kernel
theorem dX5_lay_3 : decode cX5_lay 3 = .ok (.bipush 9, 2) := by decide +kernel
theorem dX5_lay_5 : decode cX5_lay 5 = .ok (.iload_n 1, 1) := by decide +kernel
theorem dX5_lay_6 : decode cX5_lay 6 = .ok (.imul, 1) := by decide +kernel
theorem dX5_lay_7 : decode cX5_lay 7 = .ok (.iadd, 1) := by decide +kernel
theorem dX5_lay_8 : decode cX5_lay 8 = .ok (.iload_n 2, 1) := by decide +kernel
theorem dX5_lay_9 : decode cX5_lay 9 = .ok (.iadd, 1) := by decide +kernel
theorem dX5_lay_10 : decode cX5_lay 10 = .ok (.iload_n 3, 1) := by decide +kernel
theorem dX5_lay_11 : decode cX5_lay 11 = .ok (.iastore, 1) := by decide +kernel
theorem dX5_lay_12 : decode cX5_lay 12 = .ok (.return_, 1) := by decide +kernel
theorem dX5_isChair_0 : decode cX5_isChair 0 = .ok (.iload_n 1, 1) := by decide +kernel
theorem dX5_isChair_1 : decode cX5_isChair 1 = .ok (.i2l, 1) := by decide +kernel
theorem dX5_isChair_2 : decode cX5_isChair 2 = .ok (.lconst 0, 1) := by decide +kernel
theorem dX5_isChair_3 : decode cX5_isChair 3 = .ok (.aload_n 0, 1) := by decide +kernel
theorem dX5_isChair_4 : decode cX5_isChair 4 = .ok (.iconst 0, 1) := by decide +kernel
theorem dX5_isChair_5 : decode cX5_isChair 5 = .ok (.iaload, 1) := by decide +kernel
theorem dX5_isChair_6 : decode cX5_isChair 6 = .ok (.iconst 1, 1) := by decide +kernel
theorem dX5_isChair_7 : decode cX5_isChair 7 = .ok (.isub, 1) := by decide +kernel
theorem dX5_isChair_8 : decode cX5_isChair 8 = .ok (.i2l, 1) := by decide +kernel
theorem dX5_isChair_9 : decode cX5_isChair 9 = .ok (.invokestatic 37, 3) := by decide +kernel
theorem dX5_isChair_12 : decode cX5_isChair 12 = .ok (.ireturn, 1) := by decide +kernel
theorem dX5_isFloor_0 : decode cX5_isFloor 0 = .ok (.iload_n 1, 1) := by decide +kernel
theorem dX5_isFloor_1 : decode cX5_isFloor 1 = .ok (.i2l, 1) := by decide +kernel
theorem dX5_isFloor_2 : decode cX5_isFloor 2 = .ok (.lconst 0, 1) := by decide +kernel
theorem dX5_isFloor_3 : decode cX5_isFloor 3 = .ok (.aload_n 0, 1) := by decide +kernel
theorem dX5_isFloor_4 : decode cX5_isFloor 4 = .ok (.iconst 1, 1) := by decide +kernel
theorem dX5_isFloor_5 : decode cX5_isFloor 5 = .ok (.iaload, 1) := by decide +kernel
theorem dX5_isFloor_6 : decode cX5_isFloor 6 = .ok (.iconst 1, 1) := by decide +kernel
theorem dX5_isFloor_7 : decode cX5_isFloor 7 = .ok (.isub, 1) := by decide +kernel
theorem dX5_isFloor_8 : decode cX5_isFloor 8 = .ok (.i2l, 1) := by decide +kernel
theorem dX5_isFloor_9 : decode cX5_isFloor 9 = .ok (.invokestatic 37, 3) := by decide +kernel
theorem dX5_isFloor_12 : decode cX5_isFloor 12 = .ok (.ireturn, 1) := by decide +kernel
theorem dX5_isFour_0 : decode cX5_isFour 0 = .ok (.iload_n 0, 1) := by decide +kernel
theorem dX5_isFour_1 : decode cX5_isFour 1 = .ok (.i2l, 1) := by decide +kernel
theorem dX5_isFour_2 : decode cX5_isFour 2 = .ok (.lconst 0, 1) := by decide +kernel
theorem dX5_isFour_3 : decode cX5_isFour 3 = .ok (.ldc2_w 41, 3) := by decide +kernel
theorem dX5_isFour_6 : decode cX5_isFour 6 = .ok (.invokestatic 37, 3) := by decide +kernel
theorem dX5_isFour_9 : decode cX5_isFour 9 = .ok (.ireturn, 1) := by decide +kernel
theorem dX5_isBound_0 : decode cX5_isBound 0 = .ok (.iload_n 0, 1) := by decide +kernel
theorem dX5_isBound_1 : decode cX5_isBound 1 = .ok (.iconst 2, 1) := by decide +kernel
theorem dX5_isBound_2 : decode cX5_isBound 2 = .ok (.if_icmp .ge 17, 3) := by decide +kernel
theorem dX5_isBound_5 : decode cX5_isBound 5 = .ok (.iload_n 1, 1) := by decide +kernel
theorem dX5_isBound_6 : decode cX5_isBound 6 = .ok (.i2l, 1) := by decide +kernel
theorem dX5_isBound_7 : decode cX5_isBound 7 = .ok (.ldc2_w 43, 3) := by decide +kernel
theorem dX5_isBound_10 : decode cX5_isBound 10 = .ok (.ldc2_w 45, 3) := by decide +kernel
theorem dX5_isBound_13 : decode cX5_isBound 13 = .ok (.invokestatic 37, 3) := by decide +kernel
theorem dX5_isBound_16 : decode cX5_isBound 16 = .ok (.goto 29, 3) := by decide +kernel
theorem dX5_isBound_19 : decode cX5_isBound 19 = .ok (.iload_n 0, 1) := by decide +kernel
theorem dX5_isBound_20 : decode cX5_isBound 20 = .ok (.iconst 2, 1) := by decide +kernel
theorem dX5_isBound_21 : decode cX5_isBound 21 = .ok (.if_icmp .ne 15, 3) := by decide +kernel
theorem dX5_isBound_24 : decode cX5_isBound 24 = .ok (.iload_n 1, 1) := by decide +kernel
theorem dX5_isBound_25 : decode cX5_isBound 25 = .ok (.i2l, 1) := by decide +kernel
theorem dX5_isBound_26 : decode cX5_isBound 26 = .ok (.lconst 0, 1) := by decide +kernel
theorem dX5_isBound_27 : decode cX5_isBound 27 = .ok (.ldc2_w 43, 3) := by decide +kernel
theorem dX5_isBound_30 : decode cX5_isBound 30 = .ok (.invokestatic 37, 3) := by decide +kernel
theorem dX5_isBound_33 : decode cX5_isBound 33 = .ok (.goto 12, 3) := by decide +kernel
theorem dX5_isBound_36 : decode cX5_isBound 36 = .ok (.iload_n 1, 1) := by decide +kernel
theorem dX5_isBound_37 : decode cX5_isBound 37 = .ok (.i2l, 1) := by decide +kernel
theorem dX5_isBound_38 : decode cX5_isBound 38 = .ok (.lconst 0, 1) := by decide +kernel
theorem dX5_isBound_39 : decode cX5_isBound 39 = .ok (.ldc2_w 47, 3) := by decide +kernel
theorem dX5_isBound_42 : decode cX5_isBound 42 = .ok (.invokestatic 37, 3) := by decide +kernel
theorem dX5_isBound_45 : decode cX5_isBound 45 = .ok (.ireturn, 1) := by decide +kernel
theorem dX5_isSetting_0 : decode cX5_isSetting 0 = .ok (.iload_n 0, 1) := by decide +kernel
theorem dX5_isSetting_1 : decode cX5_isSetting 1 = .ok (.ifCond .ne 15, 3) := by decide +kernel
theorem dX5_isSetting_4 : decode cX5_isSetting 4 = .ok (.iload_n 1, 1) := by decide +kernel
theorem dX5_isSetting_5 : decode cX5_isSetting 5 = .ok (.i2l, 1) := by decide +kernel
theorem dX5_isSetting_6 : decode cX5_isSetting 6 = .ok (.lconst 0, 1) := by decide +kernel
theorem dX5_isSetting_7 : decode cX5_isSetting 7 = .ok (.ldc2_w 49, 3) := by decide +kernel
theorem dX5_isSetting_10 : decode cX5_isSetting 10 = .ok (.invokestatic 37, 3) := by decide +kernel
theorem dX5_isSetting_13 : decode cX5_isSetting 13 = .ok (.ifCond .ne 20, 3) := by decide +kernel
theorem dX5_isSetting_16 : decode cX5_isSetting 16 = .ok (.iload_n 0, 1) := by decide +kernel
theorem dX5_isSetting_17 : decode cX5_isSetting 17 = .ok (.iconst 1, 1) := by decide +kernel
theorem dX5_isSetting_18 : decode cX5_isSetting 18 = .ok (.if_icmp .ne 19, 3) := by decide +kernel
theorem dX5_isSetting_21 : decode cX5_isSetting 21 = .ok (.iload_n 1, 1) := by decide +kernel
theorem dX5_isSetting_22 : decode cX5_isSetting 22 = .ok (.i2l, 1) := by decide +kernel
theorem dX5_isSetting_23 : decode cX5_isSetting 23 = .ok (.lconst 1, 1) := by decide +kernel
theorem dX5_isSetting_24 : decode cX5_isSetting 24 = .ok (.ldc2_w 47, 3) := by decide +kernel
theorem dX5_isSetting_27 : decode cX5_isSetting 27 = .ok (.invokestatic 37, 3) := by decide +kernel
theorem dX5_isSetting_30 : decode cX5_isSetting 30 = .ok (.ifCond .eq 7, 3) := by decide +kernel
theorem dX5_isSetting_33 : decode cX5_isSetting 33 = .ok (.iconst 1, 1) := by decide +kernel
theorem dX5_isSetting_34 : decode cX5_isSetting 34 = .ok (.goto 4, 3) := by decide +kernel
theorem dX5_isSetting_37 : decode cX5_isSetting 37 = .ok (.iconst 0, 1) := by decide +kernel
theorem dX5_isSetting_38 : decode cX5_isSetting 38 = .ok (.ireturn, 1) := by decide +kernel
theorem dX5_without_0 : decode cX5_without 0 = .ok (.iload_n 0, 1) := by decide +kernel
theorem dX5_without_1 : decode cX5_without 1 = .ok (.ifCond .ge 8, 3) := by decide +kernel
theorem dX5_without_4 : decode cX5_without 4 = .ok (.iload_n 0, 1) := by decide +kernel
theorem dX5_without_5 : decode cX5_without 5 = .ok (.ineg, 1) := by decide +kernel
theorem dX5_without_6 : decode cX5_without 6 = .ok (.goto 4, 3) := by decide +kernel
theorem dX5_without_9 : decode cX5_without 9 = .ok (.iload_n 0, 1) := by decide +kernel
theorem dX5_without_10 : decode cX5_without 10 = .ok (.ireturn, 1) := by decide +kernel
theorem dX5_spotOf_0 : decode cX5_spotOf 0 = .ok (.iload_n 2, 1) := by decide +kernel
theorem dX5_spotOf_1 : decode cX5_spotOf 1 = .ok (.aload_n 0, 1) := by decide +kernel
theorem dX5_spotOf_2 : decode cX5_spotOf 2 = .ok (.iload_n 1, 1) := by decide +kernel
theorem dX5_spotOf_3 : decode cX5_spotOf 3 = .ok (.iconst 2, 1) := by decide +kernel
theorem dX5_spotOf_4 : decode cX5_spotOf 4 = .ok (.invokestatic 51, 3) := by decide +kernel
theorem dX5_spotOf_7 : decode cX5_spotOf 7 = .ok (.iadd, 1) := by decide +kernel
theorem dX5_spotOf_8 : decode cX5_spotOf 8 = .ok (.iconst 4, 1) := by decide +kernel
theorem dX5_spotOf_9 : decode cX5_spotOf 9 = .ok (.irem, 1) := by decide +kernel
theorem dX5_spotOf_10 : decode cX5_spotOf 10 = .ok (.ireturn, 1) := by decide +kernel
theorem dX5_reach_0 : decode cX5_reach 0 = .ok (.aload_n 0, 1) := by decide +kernel
theorem dX5_reach_1 : decode cX5_reach 1 = .ok (.iload_n 1, 1) := by decide +kernel
theorem dX5_reach_2 : decode cX5_reach 2 = .ok (.iconst 5, 1) := by decide +kernel
theorem dX5_reach_3 : decode cX5_reach 3 = .ok (.iload_n 2, 1) := by decide +kernel
theorem dX5_reach_4 : decode cX5_reach 4 = .ok (.iadd, 1) := by decide +kernel
theorem dX5_reach_5 : decode cX5_reach 5 = .ok (.invokestatic 51, 3) := by decide +kernel
theorem dX5_reach_8 : decode cX5_reach 8 = .ok (.aload_n 0, 1) := by decide +kernel
theorem dX5_reach_9 : decode cX5_reach 9 = .ok (.bipush 12, 2) := by decide +kernel
theorem dX5_reach_11 : decode cX5_reach 11 = .ok (.iconst 4, 1) := by decide +kernel
theorem dX5_reach_12 : decode cX5_reach 12 = .ok (.aload_n 0, 1) := by decide +kernel
theorem dX5_reach_13 : decode cX5_reach 13 = .ok (.iload_n 1, 1) := by decide +kernel
theorem dX5_reach_14 : decode cX5_reach 14 = .ok (.iconst 1, 1) := by decide +kernel
theorem dX5_reach_15 : decode cX5_reach 15 = .ok (.invokestatic 51, 3) := by decide +kernel
theorem dX5_reach_18 : decode cX5_reach 18 = .ok (.imul, 1) := by decide +kernel
theorem dX5_reach_19 : decode cX5_reach 19 = .ok (.iadd, 1) := by decide +kernel
theorem dX5_reach_20 : decode cX5_reach 20 = .ok (.aload_n 0, 1) := by decide +kernel
theorem dX5_reach_21 : decode cX5_reach 21 = .ok (.iload_n 1, 1) := by decide +kernel
theorem dX5_reach_22 : decode cX5_reach 22 = .ok (.iload_n 2, 1) := by decide +kernel
theorem dX5_reach_23 : decode cX5_reach 23 = .ok (.invokestatic 55, 3) := by decide +kernel
theorem dX5_reach_26 : decode cX5_reach 26 = .ok (.iadd, 1) := by decide +kernel
theorem dX5_reach_27 : decode cX5_reach 27 = .ok (.iaload, 1) := by decide +kernel
theorem dX5_reach_28 : decode cX5_reach 28 = .ok (.isub, 1) := by decide +kernel
theorem dX5_reach_29 : decode cX5_reach 29 = .ok (.ireturn, 1) := by decide +kernel
theorem dX5_tilt_0 : decode cX5_tilt 0 = .ok (.aload_n 0, 1) := by decide +kernel
theorem dX5_tilt_1 : decode cX5_tilt 1 = .ok (.iload_n 1, 1) := by decide +kernel
theorem dX5_tilt_2 : decode cX5_tilt 2 = .ok (.iconst 0, 1) := by decide +kernel
theorem dX5_tilt_3 : decode cX5_tilt 3 = .ok (.invokestatic 58, 3) := by decide +kernel
theorem dX5_tilt_6 : decode cX5_tilt 6 = .ok (.aload_n 0, 1) := by decide +kernel
theorem dX5_tilt_7 : decode cX5_tilt 7 = .ok (.iload_n 1, 1) := by decide +kernel
theorem dX5_tilt_8 : decode cX5_tilt 8 = .ok (.iconst 2, 1) := by decide +kernel
theorem dX5_tilt_9 : decode cX5_tilt 9 = .ok (.invokestatic 58, 3) := by decide +kernel
theorem dX5_tilt_12 : decode cX5_tilt 12 = .ok (.iadd, 1) := by decide +kernel
theorem dX5_tilt_13 : decode cX5_tilt 13 = .ok (.aload_n 0, 1) := by decide +kernel
theorem dX5_tilt_14 : decode cX5_tilt 14 = .ok (.iload_n 1, 1) := by decide +kernel
theorem dX5_tilt_15 : decode cX5_tilt 15 = .ok (.iconst 1, 1) := by decide +kernel
theorem dX5_tilt_16 : decode cX5_tilt 16 = .ok (.invokestatic 58, 3) := by decide +kernel
theorem dX5_tilt_19 : decode cX5_tilt 19 = .ok (.isub, 1) := by decide +kernel
theorem dX5_tilt_20 : decode cX5_tilt 20 = .ok (.aload_n 0, 1) := by decide +kernel
theorem dX5_tilt_21 : decode cX5_tilt 21 = .ok (.iload_n 1, 1) := by decide +kernel
theorem dX5_tilt_22 : decode cX5_tilt 22 = .ok (.iconst 3, 1) := by decide +kernel
theorem dX5_tilt_23 : decode cX5_tilt 23 = .ok (.invokestatic 58, 3) := by decide +kernel
theorem dX5_tilt_26 : decode cX5_tilt 26 = .ok (.isub, 1) := by decide +kernel
theorem dX5_tilt_27 : decode cX5_tilt 27 = .ok (.ireturn, 1) := by decide +kernel
theorem dX5_wobbleOf_0 : decode cX5_wobbleOf 0 = .ok (.aload_n 0, 1) := by decide +kernel
theorem dX5_wobbleOf_1 : decode cX5_wobbleOf 1 = .ok (.iload_n 1, 1) := by decide +kernel
theorem dX5_wobbleOf_2 : decode cX5_wobbleOf 2 = .ok (.invokestatic 61, 3) := by decide +kernel
theorem dX5_wobbleOf_5 : decode cX5_wobbleOf 5 = .ok (.invokestatic 65, 3) := by decide +kernel
theorem dX5_wobbleOf_8 : decode cX5_wobbleOf 8 = .ok (.ireturn, 1) := by decide +kernel
theorem dX5_leanOf_0 : decode cX5_leanOf 0 = .ok (.aload_n 0, 1) := by decide +kernel
theorem dX5_leanOf_1 : decode cX5_leanOf 1 = .ok (.iload_n 1, 1) := by decide +kernel
theorem dX5_leanOf_2 : decode cX5_leanOf 2 = .ok (.iconst 0, 1) := by decide +kernel
theorem dX5_leanOf_3 : decode cX5_leanOf 3 = .ok (.invokestatic 58, 3) := by decide +kernel
theorem dX5_leanOf_6 : decode cX5_leanOf 6 = .ok (.istore_n 2, 1) := by decide +kernel
theorem dX5_leanOf_7 : decode cX5_leanOf 7 = .ok (.iload_n 2, 1) := by decide +kernel
theorem dX5_leanOf_8 : decode cX5_leanOf 8 = .ok (.istore_n 3, 1) := by decide +kernel
theorem dX5_leanOf_9 : decode cX5_leanOf 9 = .ok (.iconst 1, 1) := by decide +kernel
theorem dX5_leanOf_10 : decode cX5_leanOf 10 = .ok (.istore 4, 2) := by decide +kernel
theorem dX5_leanOf_12 : decode cX5_leanOf 12 = .ok (.iload 4, 2) := by decide +kernel
theorem dX5_leanOf_14 : decode cX5_leanOf 14 = .ok (.iconst 4, 1) := by decide +kernel
theorem dX5_leanOf_15 : decode cX5_leanOf 15 = .ok (.if_icmp .ge 44, 3) := by decide +kernel
theorem dX5_leanOf_18 : decode cX5_leanOf 18 = .ok (.aload_n 0, 1) := by decide +kernel
theorem dX5_leanOf_19 : decode cX5_leanOf 19 = .ok (.iload_n 1, 1) := by decide +kernel
theorem dX5_leanOf_20 : decode cX5_leanOf 20 = .ok (.iload 4, 2) := by decide +kernel
theorem dX5_leanOf_22 : decode cX5_leanOf 22 = .ok (.invokestatic 58, 3) := by decide +kernel
theorem dX5_leanOf_25 : decode cX5_leanOf 25 = .ok (.istore 5, 2) := by decide +kernel
theorem dX5_leanOf_27 : decode cX5_leanOf 27 = .ok (.iload 5, 2) := by decide +kernel
theorem dX5_leanOf_29 : decode cX5_leanOf 29 = .ok (.iload_n 2, 1) := by decide +kernel
theorem dX5_leanOf_30 : decode cX5_leanOf 30 = .ok (.if_icmp .ge 8, 3) := by decide +kernel
theorem dX5_leanOf_33 : decode cX5_leanOf 33 = .ok (.iload 5, 2) := by decide +kernel
theorem dX5_leanOf_35 : decode cX5_leanOf 35 = .ok (.goto 4, 3) := by decide +kernel
theorem dX5_leanOf_38 : decode cX5_leanOf 38 = .ok (.iload_n 2, 1) := by decide +kernel
theorem dX5_leanOf_39 : decode cX5_leanOf 39 = .ok (.istore_n 2, 1) := by decide +kernel
theorem dX5_leanOf_40 : decode cX5_leanOf 40 = .ok (.iload 5, 2) := by decide +kernel
theorem dX5_leanOf_42 : decode cX5_leanOf 42 = .ok (.iload_n 3, 1) := by decide +kernel
theorem dX5_leanOf_43 : decode cX5_leanOf 43 = .ok (.if_icmp .le 8, 3) := by decide +kernel
theorem dX5_leanOf_46 : decode cX5_leanOf 46 = .ok (.iload 5, 2) := by decide +kernel
theorem dX5_leanOf_48 : decode cX5_leanOf 48 = .ok (.goto 4, 3) := by decide +kernel
theorem dX5_leanOf_51 : decode cX5_leanOf 51 = .ok (.iload_n 3, 1) := by decide +kernel
theorem dX5_leanOf_52 : decode cX5_leanOf 52 = .ok (.istore_n 3, 1) := by decide +kernel
theorem dX5_leanOf_53 : decode cX5_leanOf 53 = .ok (.iinc 4 1, 3) := by decide +kernel
theorem dX5_leanOf_56 : decode cX5_leanOf 56 = .ok (.goto (-44), 3) := by decide +kernel
theorem dX5_leanOf_59 : decode cX5_leanOf 59 = .ok (.iload_n 3, 1) := by decide +kernel
theorem dX5_leanOf_60 : decode cX5_leanOf 60 = .ok (.iload_n 2, 1) := by decide +kernel
theorem dX5_leanOf_61 : decode cX5_leanOf 61 = .ok (.isub, 1) := by decide +kernel
theorem dX5_leanOf_62 : decode cX5_leanOf 62 = .ok (.ireturn, 1) := by decide +kernel
theorem dX5_seatOf_0 : decode cX5_seatOf 0 = .ok (.iconst 0, 1) := by decide +kernel
theorem dX5_seatOf_1 : decode cX5_seatOf 1 = .ok (.istore_n 2, 1) := by decide +kernel
theorem dX5_seatOf_2 : decode cX5_seatOf 2 = .ok (.iconst 0, 1) := by decide +kernel
theorem dX5_seatOf_3 : decode cX5_seatOf 3 = .ok (.istore_n 3, 1) := by decide +kernel
theorem dX5_seatOf_4 : decode cX5_seatOf 4 = .ok (.iload_n 3, 1) := by decide +kernel
theorem dX5_seatOf_5 : decode cX5_seatOf 5 = .ok (.iconst 4, 1) := by decide +kernel
theorem dX5_seatOf_6 : decode cX5_seatOf 6 = .ok (.if_icmp .ge 20, 3) := by decide +kernel
theorem dX5_seatOf_9 : decode cX5_seatOf 9 = .ok (.iload_n 2, 1) := by decide +kernel
theorem dX5_seatOf_10 : decode cX5_seatOf 10 = .ok (.aload_n 0, 1) := by decide +kernel
theorem dX5_seatOf_11 : decode cX5_seatOf 11 = .ok (.iload_n 1, 1) := by decide +kernel
theorem dX5_seatOf_12 : decode cX5_seatOf 12 = .ok (.iconst 5, 1) := by decide +kernel
theorem dX5_seatOf_13 : decode cX5_seatOf 13 = .ok (.iload_n 3, 1) := by decide +kernel
theorem dX5_seatOf_14 : decode cX5_seatOf 14 = .ok (.iadd, 1) := by decide +kernel
theorem dX5_seatOf_15 : decode cX5_seatOf 15 = .ok (.invokestatic 51, 3) := by decide +kernel
theorem dX5_seatOf_18 : decode cX5_seatOf 18 = .ok (.iadd, 1) := by decide +kernel
theorem dX5_seatOf_19 : decode cX5_seatOf 19 = .ok (.istore_n 2, 1) := by decide +kernel
theorem dX5_seatOf_20 : decode cX5_seatOf 20 = .ok (.iinc 3 1, 3) := by decide +kernel
theorem dX5_seatOf_23 : decode cX5_seatOf 23 = .ok (.goto (-19), 3) := by decide +kernel
theorem dX5_seatOf_26 : decode cX5_seatOf 26 = .ok (.iload_n 2, 1) := by decide +kernel
theorem dX5_seatOf_27 : decode cX5_seatOf 27 = .ok (.iconst 4, 1) := by decide +kernel
theorem dX5_seatOf_28 : decode cX5_seatOf 28 = .ok (.idiv, 1) := by decide +kernel
theorem dX5_seatOf_29 : decode cX5_seatOf 29 = .ok (.ireturn, 1) := by decide +kernel
theorem dX5_idleOf_0 : decode cX5_idleOf 0 = .ok (.aload_n 0, 1) := by decide +kernel
theorem dX5_idleOf_1 : decode cX5_idleOf 1 = .ok (.iload_n 1, 1) := by decide +kernel
theorem dX5_idleOf_2 : decode cX5_idleOf 2 = .ok (.invokestatic 61, 3) := by decide +kernel
theorem dX5_idleOf_5 : decode cX5_idleOf 5 = .ok (.istore_n 2, 1) := by decide +kernel
theorem dX5_idleOf_6 : decode cX5_idleOf 6 = .ok (.iload_n 2, 1) := by decide +kernel
theorem dX5_idleOf_7 : decode cX5_idleOf 7 = .ok (.ifCond .ne 5, 3) := by decide +kernel
theorem dX5_idleOf_10 : decode cX5_idleOf 10 = .ok (.iconst (-1), 1) := by decide +kernel
theorem dX5_idleOf_11 : decode cX5_idleOf 11 = .ok (.ireturn, 1) := by decide +kernel
theorem dX5_idleOf_12 : decode cX5_idleOf 12 = .ok (.iload_n 2, 1) := by decide +kernel
theorem dX5_idleOf_13 : decode cX5_idleOf 13 = .ok (.ifCond .ge 7, 3) := by decide +kernel
theorem dX5_idleOf_16 : decode cX5_idleOf 16 = .ok (.iconst 0, 1) := by decide +kernel
theorem dX5_idleOf_17 : decode cX5_idleOf 17 = .ok (.goto 4, 3) := by decide +kernel
theorem dX5_idleOf_20 : decode cX5_idleOf 20 = .ok (.iconst 1, 1) := by decide +kernel
theorem dX5_idleOf_21 : decode cX5_idleOf 21 = .ok (.istore_n 3, 1) := by decide +kernel
theorem dX5_idleOf_22 : decode cX5_idleOf 22 = .ok (.aload_n 0, 1) := by decide +kernel
theorem dX5_idleOf_23 : decode cX5_idleOf 23 = .ok (.iload_n 1, 1) := by decide +kernel
theorem dX5_idleOf_24 : decode cX5_idleOf 24 = .ok (.iload_n 3, 1) := by decide +kernel
theorem dX5_idleOf_25 : decode cX5_idleOf 25 = .ok (.iconst 2, 1) := by decide +kernel
theorem dX5_idleOf_26 : decode cX5_idleOf 26 = .ok (.iadd, 1) := by decide +kernel
theorem dX5_idleOf_27 : decode cX5_idleOf 27 = .ok (.invokestatic 58, 3) := by decide +kernel
theorem dX5_idleOf_30 : decode cX5_idleOf 30 = .ok (.aload_n 0, 1) := by decide +kernel
theorem dX5_idleOf_31 : decode cX5_idleOf 31 = .ok (.iload_n 1, 1) := by decide +kernel
theorem dX5_idleOf_32 : decode cX5_idleOf 32 = .ok (.iload_n 3, 1) := by decide +kernel
theorem dX5_idleOf_33 : decode cX5_idleOf 33 = .ok (.invokestatic 58, 3) := by decide +kernel
theorem dX5_idleOf_36 : decode cX5_idleOf 36 = .ok (.if_icmp .ge 9, 3) := by decide +kernel
theorem dX5_idleOf_39 : decode cX5_idleOf 39 = .ok (.iload_n 3, 1) := by decide +kernel
theorem dX5_idleOf_40 : decode cX5_idleOf 40 = .ok (.iconst 2, 1) := by decide +kernel
theorem dX5_idleOf_41 : decode cX5_idleOf 41 = .ok (.iadd, 1) := by decide +kernel
theorem dX5_idleOf_42 : decode cX5_idleOf 42 = .ok (.goto 4, 3) := by decide +kernel
theorem dX5_idleOf_45 : decode cX5_idleOf 45 = .ok (.iload_n 3, 1) := by decide +kernel
theorem dX5_idleOf_46 : decode cX5_idleOf 46 = .ok (.ireturn, 1) := by decide +kernel
theorem dX5_reason_0 : decode cX5_reason 0 = .ok (.bipush 28, 2) := by decide +kernel
theorem dX5_reason_2 : decode cX5_reason 2 = .ok (.iconst 4, 1) := by decide +kernel
theorem dX5_reason_3 : decode cX5_reason 3 = .ok (.aload_n 0, 1) := by decide +kernel
theorem dX5_reason_4 : decode cX5_reason 4 = .ok (.iload_n 1, 1) := by decide +kernel
theorem dX5_reason_5 : decode cX5_reason 5 = .ok (.iconst 0, 1) := by decide +kernel
theorem dX5_reason_6 : decode cX5_reason 6 = .ok (.invokestatic 51, 3) := by decide +kernel
theorem dX5_reason_9 : decode cX5_reason 9 = .ok (.imul, 1) := by decide +kernel
theorem dX5_reason_10 : decode cX5_reason 10 = .ok (.iadd, 1) := by decide +kernel
theorem dX5_reason_11 : decode cX5_reason 11 = .ok (.istore_n 2, 1) := by decide +kernel
theorem dX5_reason_12 : decode cX5_reason 12 = .ok (.aload_n 0, 1) := by decide +kernel
theorem dX5_reason_13 : decode cX5_reason 13 = .ok (.iload_n 1, 1) := by decide +kernel
theorem dX5_reason_14 : decode cX5_reason 14 = .ok (.invokestatic 69, 3) := by decide +kernel
theorem dX5_reason_17 : decode cX5_reason 17 = .ok (.aload_n 0, 1) := by decide +kernel
theorem dX5_reason_18 : decode cX5_reason 18 = .ok (.iload_n 2, 1) := by decide +kernel
theorem dX5_reason_19 : decode cX5_reason 19 = .ok (.iconst 2, 1) := by decide +kernel
theorem dX5_reason_20 : decode cX5_reason 20 = .ok (.iadd, 1) := by decide +kernel
theorem dX5_reason_21 : decode cX5_reason 21 = .ok (.iaload, 1) := by decide +kernel
theorem dX5_reason_22 : decode cX5_reason 22 = .ok (.if_icmp .le 7, 3) := by decide +kernel
theorem dX5_reason_25 : decode cX5_reason 25 = .ok (.iconst 1, 1) := by decide +kernel
theorem dX5_reason_26 : decode cX5_reason 26 = .ok (.goto 53, 3) := by decide +kernel
theorem dX5_reason_29 : decode cX5_reason 29 = .ok (.aload_n 0, 1) := by decide +kernel
theorem dX5_reason_30 : decode cX5_reason 30 = .ok (.iload_n 1, 1) := by decide +kernel
theorem dX5_reason_31 : decode cX5_reason 31 = .ok (.invokestatic 72, 3) := by decide +kernel
theorem dX5_reason_34 : decode cX5_reason 34 = .ok (.aload_n 0, 1) := by decide +kernel
theorem dX5_reason_35 : decode cX5_reason 35 = .ok (.iload_n 2, 1) := by decide +kernel
theorem dX5_reason_36 : decode cX5_reason 36 = .ok (.iconst 3, 1) := by decide +kernel
theorem dX5_reason_37 : decode cX5_reason 37 = .ok (.iadd, 1) := by decide +kernel
theorem dX5_reason_38 : decode cX5_reason 38 = .ok (.iaload, 1) := by decide +kernel
theorem dX5_reason_39 : decode cX5_reason 39 = .ok (.if_icmp .le 7, 3) := by decide +kernel
theorem dX5_reason_42 : decode cX5_reason 42 = .ok (.iconst 2, 1) := by decide +kernel
theorem dX5_reason_43 : decode cX5_reason 43 = .ok (.goto 36, 3) := by decide +kernel
theorem dX5_reason_46 : decode cX5_reason 46 = .ok (.aload_n 0, 1) := by decide +kernel
theorem dX5_reason_47 : decode cX5_reason 47 = .ok (.iload_n 1, 1) := by decide +kernel
theorem dX5_reason_48 : decode cX5_reason 48 = .ok (.invokestatic 75, 3) := by decide +kernel
theorem dX5_reason_51 : decode cX5_reason 51 = .ok (.aload_n 0, 1) := by decide +kernel
theorem dX5_reason_52 : decode cX5_reason 52 = .ok (.iload_n 2, 1) := by decide +kernel
theorem dX5_reason_53 : decode cX5_reason 53 = .ok (.iaload, 1) := by decide +kernel
theorem dX5_reason_54 : decode cX5_reason 54 = .ok (.if_icmp .ge 7, 3) := by decide +kernel
theorem dX5_reason_57 : decode cX5_reason 57 = .ok (.iconst 3, 1) := by decide +kernel
theorem dX5_reason_58 : decode cX5_reason 58 = .ok (.goto 21, 3) := by decide +kernel
theorem dX5_reason_61 : decode cX5_reason 61 = .ok (.aload_n 0, 1) := by decide +kernel
theorem dX5_reason_62 : decode cX5_reason 62 = .ok (.iload_n 1, 1) := by decide +kernel
theorem dX5_reason_63 : decode cX5_reason 63 = .ok (.invokestatic 75, 3) := by decide +kernel
theorem dX5_reason_66 : decode cX5_reason 66 = .ok (.aload_n 0, 1) := by decide +kernel
theorem dX5_reason_67 : decode cX5_reason 67 = .ok (.iload_n 2, 1) := by decide +kernel
theorem dX5_reason_68 : decode cX5_reason 68 = .ok (.iconst 1, 1) := by decide +kernel
theorem dX5_reason_69 : decode cX5_reason 69 = .ok (.iadd, 1) := by decide +kernel
theorem dX5_reason_70 : decode cX5_reason 70 = .ok (.iaload, 1) := by decide +kernel
theorem dX5_reason_71 : decode cX5_reason 71 = .ok (.if_icmp .le 7, 3) := by decide +kernel
theorem dX5_reason_74 : decode cX5_reason 74 = .ok (.iconst 4, 1) := by decide +kernel
theorem dX5_reason_75 : decode cX5_reason 75 = .ok (.goto 4, 3) := by decide +kernel
theorem dX5_reason_78 : decode cX5_reason 78 = .ok (.iconst 0, 1) := by decide +kernel
theorem dX5_reason_79 : decode cX5_reason 79 = .ok (.ireturn, 1) := by decide +kernel
theorem dX5_stamped_0 : decode cX5_stamped 0 = .ok (.iconst 0, 1) := by decide +kernel
theorem dX5_stamped_1 : decode cX5_stamped 1 = .ok (.istore_n 1, 1) := by decide +kernel
theorem dX5_stamped_2 : decode cX5_stamped 2 = .ok (.iconst 0, 1) := by decide +kernel
theorem dX5_stamped_3 : decode cX5_stamped 3 = .ok (.istore_n 2, 1) := by decide +kernel
theorem dX5_stamped_4 : decode cX5_stamped 4 = .ok (.iload_n 2, 1) := by decide +kernel
theorem dX5_stamped_5 : decode cX5_stamped 5 = .ok (.aload_n 0, 1) := by decide +kernel
theorem dX5_stamped_6 : decode cX5_stamped 6 = .ok (.iconst 0, 1) := by decide +kernel
theorem dX5_stamped_7 : decode cX5_stamped 7 = .ok (.iaload, 1) := by decide +kernel
theorem dX5_stamped_8 : decode cX5_stamped 8 = .ok (.if_icmp .ge 18, 3) := by decide +kernel
theorem dX5_stamped_11 : decode cX5_stamped 11 = .ok (.iload_n 1, 1) := by decide +kernel
theorem dX5_stamped_12 : decode cX5_stamped 12 = .ok (.aload_n 0, 1) := by decide +kernel
theorem dX5_stamped_13 : decode cX5_stamped 13 = .ok (.iload_n 2, 1) := by decide +kernel
theorem dX5_stamped_14 : decode cX5_stamped 14 = .ok (.iconst 3, 1) := by decide +kernel
theorem dX5_stamped_15 : decode cX5_stamped 15 = .ok (.invokestatic 51, 3) := by decide +kernel
theorem dX5_stamped_18 : decode cX5_stamped 18 = .ok (.iadd, 1) := by decide +kernel
theorem dX5_stamped_19 : decode cX5_stamped 19 = .ok (.istore_n 1, 1) := by decide +kernel
theorem dX5_stamped_20 : decode cX5_stamped 20 = .ok (.iinc 2 1, 3) := by decide +kernel
theorem dX5_stamped_23 : decode cX5_stamped 23 = .ok (.goto (-19), 3) := by decide +kernel
theorem dX5_stamped_26 : decode cX5_stamped 26 = .ok (.iload_n 1, 1) := by decide +kernel
theorem dX5_stamped_27 : decode cX5_stamped 27 = .ok (.ireturn, 1) := by decide +kernel
theorem dX5_voids_0 : decode cX5_voids 0 = .ok (.aload_n 0, 1) := by decide +kernel
theorem dX5_voids_1 : decode cX5_voids 1 = .ok (.iconst 4, 1) := by decide +kernel
theorem dX5_voids_2 : decode cX5_voids 2 = .ok (.dup2, 1) := by decide +kernel
theorem dX5_voids_3 : decode cX5_voids 3 = .ok (.iaload, 1) := by decide +kernel
theorem dX5_voids_4 : decode cX5_voids 4 = .ok (.aload_n 0, 1) := by decide +kernel
theorem dX5_voids_5 : decode cX5_voids 5 = .ok (.iload_n 1, 1) := by decide +kernel
theorem dX5_voids_6 : decode cX5_voids 6 = .ok (.iconst 3, 1) := by decide +kernel
theorem dX5_voids_7 : decode cX5_voids 7 = .ok (.invokestatic 51, 3) := by decide +kernel
theorem dX5_voids_10 : decode cX5_voids 10 = .ok (.iadd, 1) := by decide +kernel
theorem dX5_voids_11 : decode cX5_voids 11 = .ok (.iastore, 1) := by decide +kernel
theorem dX5_voids_12 : decode cX5_voids 12 = .ok (.aload_n 0, 1) := by decide +kernel
theorem dX5_voids_13 : decode cX5_voids 13 = .ok (.iload_n 1, 1) := by decide +kernel
theorem dX5_voids_14 : decode cX5_voids 14 = .ok (.iconst 3, 1) := by decide +kernel
theorem dX5_voids_15 : decode cX5_voids 15 = .ok (.iconst 0, 1) := by decide +kernel
theorem dX5_voids_16 : decode cX5_voids 16 = .ok (.invokestatic 78, 3) := by decide +kernel
theorem dX5_voids_19 : decode cX5_voids 19 = .ok (.return_, 1) := by decide +kernel
theorem dX5_chairOn_0 : decode cX5_chairOn 0 = .ok (.aload_n 0, 1) := by decide +kernel
theorem dX5_chairOn_1 : decode cX5_chairOn 1 = .ok (.iconst 0, 1) := by decide +kernel
theorem dX5_chairOn_2 : decode cX5_chairOn 2 = .ok (.iaload, 1) := by decide +kernel
theorem dX5_chairOn_3 : decode cX5_chairOn 3 = .ok (.istore_n 3, 1) := by decide +kernel
theorem dX5_chairOn_4 : decode cX5_chairOn 4 = .ok (.iconst 0, 1) := by decide +kernel
theorem dX5_chairOn_5 : decode cX5_chairOn 5 = .ok (.istore 4, 2) := by decide +kernel
theorem dX5_chairOn_7 : decode cX5_chairOn 7 = .ok (.iload 4, 2) := by decide +kernel
theorem dX5_chairOn_9 : decode cX5_chairOn 9 = .ok (.bipush 9, 2) := by decide +kernel
theorem dX5_chairOn_11 : decode cX5_chairOn 11 = .ok (.if_icmp .ge 27, 3) := by decide +kernel
theorem dX5_chairOn_14 : decode cX5_chairOn 14 = .ok (.aload_n 0, 1) := by decide +kernel
theorem dX5_chairOn_15 : decode cX5_chairOn 15 = .ok (.iload_n 3, 1) := by decide +kernel
theorem dX5_chairOn_16 : decode cX5_chairOn 16 = .ok (.iload 4, 2) := by decide +kernel
theorem dX5_chairOn_18 : decode cX5_chairOn 18 = .ok (.iload 4, 2) := by decide +kernel
theorem dX5_chairOn_20 : decode cX5_chairOn 20 = .ok (.iconst 5, 1) := by decide +kernel
theorem dX5_chairOn_21 : decode cX5_chairOn 21 = .ok (.if_icmp .ge 7, 3) := by decide +kernel
theorem dX5_chairOn_24 : decode cX5_chairOn 24 = .ok (.iconst 0, 1) := by decide +kernel
theorem dX5_chairOn_25 : decode cX5_chairOn 25 = .ok (.goto 4, 3) := by decide +kernel
theorem dX5_chairOn_28 : decode cX5_chairOn 28 = .ok (.iload_n 2, 1) := by decide +kernel
theorem dX5_chairOn_29 : decode cX5_chairOn 29 = .ok (.invokestatic 78, 3) := by decide +kernel
theorem dX5_chairOn_32 : decode cX5_chairOn 32 = .ok (.iinc 4 1, 3) := by decide +kernel
theorem dX5_chairOn_35 : decode cX5_chairOn 35 = .ok (.goto (-28), 3) := by decide +kernel
theorem dX5_chairOn_38 : decode cX5_chairOn 38 = .ok (.aload_n 0, 1) := by decide +kernel
theorem dX5_chairOn_39 : decode cX5_chairOn 39 = .ok (.iload_n 3, 1) := by decide +kernel
theorem dX5_chairOn_40 : decode cX5_chairOn 40 = .ok (.iconst 0, 1) := by decide +kernel
theorem dX5_chairOn_41 : decode cX5_chairOn 41 = .ok (.iload_n 1, 1) := by decide +kernel
theorem dX5_chairOn_42 : decode cX5_chairOn 42 = .ok (.invokestatic 78, 3) := by decide +kernel
theorem dX5_chairOn_45 : decode cX5_chairOn 45 = .ok (.aload_n 0, 1) := by decide +kernel
theorem dX5_chairOn_46 : decode cX5_chairOn 46 = .ok (.iconst 0, 1) := by decide +kernel
theorem dX5_chairOn_47 : decode cX5_chairOn 47 = .ok (.dup2, 1) := by decide +kernel
theorem dX5_chairOn_48 : decode cX5_chairOn 48 = .ok (.iaload, 1) := by decide +kernel
theorem dX5_chairOn_49 : decode cX5_chairOn 49 = .ok (.iconst 1, 1) := by decide +kernel
theorem dX5_chairOn_50 : decode cX5_chairOn 50 = .ok (.iadd, 1) := by decide +kernel
theorem dX5_chairOn_51 : decode cX5_chairOn 51 = .ok (.iastore, 1) := by decide +kernel
theorem dX5_chairOn_52 : decode cX5_chairOn 52 = .ok (.iload_n 3, 1) := by decide +kernel
theorem dX5_chairOn_53 : decode cX5_chairOn 53 = .ok (.ireturn, 1) := by decide +kernel
theorem dX5_floorOn_0 : decode cX5_floorOn 0 = .ok (.bipush 12, 2) := by decide +kernel
theorem dX5_floorOn_2 : decode cX5_floorOn 2 = .ok (.iconst 4, 1) := by decide +kernel
theorem dX5_floorOn_3 : decode cX5_floorOn 3 = .ok (.aload_n 0, 1) := by decide +kernel
theorem dX5_floorOn_4 : decode cX5_floorOn 4 = .ok (.iconst 1, 1) := by decide +kernel
theorem dX5_floorOn_5 : decode cX5_floorOn 5 = .ok (.iaload, 1) := by decide +kernel
theorem dX5_floorOn_6 : decode cX5_floorOn 6 = .ok (.imul, 1) := by decide +kernel
theorem dX5_floorOn_7 : decode cX5_floorOn 7 = .ok (.iadd, 1) := by decide +kernel
theorem dX5_floorOn_8 : decode cX5_floorOn 8 = .ok (.istore 5, 2) := by decide +kernel
theorem dX5_floorOn_10 : decode cX5_floorOn 10 = .ok (.aload_n 0, 1) := by decide +kernel
theorem dX5_floorOn_11 : decode cX5_floorOn 11 = .ok (.iload 5, 2) := by decide +kernel
theorem dX5_floorOn_13 : decode cX5_floorOn 13 = .ok (.iload_n 1, 1) := by decide +kernel
theorem dX5_floorOn_14 : decode cX5_floorOn 14 = .ok (.iastore, 1) := by decide +kernel
theorem dX5_floorOn_15 : decode cX5_floorOn 15 = .ok (.aload_n 0, 1) := by decide +kernel
theorem dX5_floorOn_16 : decode cX5_floorOn 16 = .ok (.iload 5, 2) := by decide +kernel
theorem dX5_floorOn_18 : decode cX5_floorOn 18 = .ok (.iconst 1, 1) := by decide +kernel
theorem dX5_floorOn_19 : decode cX5_floorOn 19 = .ok (.iadd, 1) := by decide +kernel
theorem dX5_floorOn_20 : decode cX5_floorOn 20 = .ok (.iload_n 2, 1) := by decide +kernel
theorem dX5_floorOn_21 : decode cX5_floorOn 21 = .ok (.iastore, 1) := by decide +kernel
theorem dX5_floorOn_22 : decode cX5_floorOn 22 = .ok (.aload_n 0, 1) := by decide +kernel
theorem dX5_floorOn_23 : decode cX5_floorOn 23 = .ok (.iload 5, 2) := by decide +kernel
theorem dX5_floorOn_25 : decode cX5_floorOn 25 = .ok (.iconst 2, 1) := by decide +kernel
theorem dX5_floorOn_26 : decode cX5_floorOn 26 = .ok (.iadd, 1) := by decide +kernel
theorem dX5_floorOn_27 : decode cX5_floorOn 27 = .ok (.iload_n 3, 1) := by decide +kernel
theorem dX5_floorOn_28 : decode cX5_floorOn 28 = .ok (.iastore, 1) := by decide +kernel
theorem dX5_floorOn_29 : decode cX5_floorOn 29 = .ok (.aload_n 0, 1) := by decide +kernel
theorem dX5_floorOn_30 : decode cX5_floorOn 30 = .ok (.iload 5, 2) := by decide +kernel
theorem dX5_floorOn_32 : decode cX5_floorOn 32 = .ok (.iconst 3, 1) := by decide +kernel
theorem dX5_floorOn_33 : decode cX5_floorOn 33 = .ok (.iadd, 1) := by decide +kernel
theorem dX5_floorOn_34 : decode cX5_floorOn 34 = .ok (.iload 4, 2) := by decide +kernel
theorem dX5_floorOn_36 : decode cX5_floorOn 36 = .ok (.iastore, 1) := by decide +kernel
theorem dX5_floorOn_37 : decode cX5_floorOn 37 = .ok (.aload_n 0, 1) := by decide +kernel
theorem dX5_floorOn_38 : decode cX5_floorOn 38 = .ok (.iconst 1, 1) := by decide +kernel
theorem dX5_floorOn_39 : decode cX5_floorOn 39 = .ok (.dup2, 1) := by decide +kernel
theorem dX5_floorOn_40 : decode cX5_floorOn 40 = .ok (.iaload, 1) := by decide +kernel
theorem dX5_floorOn_41 : decode cX5_floorOn 41 = .ok (.iconst 1, 1) := by decide +kernel
theorem dX5_floorOn_42 : decode cX5_floorOn 42 = .ok (.iadd, 1) := by decide +kernel
theorem dX5_floorOn_43 : decode cX5_floorOn 43 = .ok (.iastore, 1) := by decide +kernel
theorem dX5_floorOn_44 : decode cX5_floorOn 44 = .ok (.aload_n 0, 1) := by decide +kernel
theorem dX5_floorOn_45 : decode cX5_floorOn 45 = .ok (.iconst 1, 1) := by decide +kernel
theorem dX5_floorOn_46 : decode cX5_floorOn 46 = .ok (.iaload, 1) := by decide +kernel
theorem dX5_floorOn_47 : decode cX5_floorOn 47 = .ok (.iconst 1, 1) := by decide +kernel
theorem dX5_floorOn_48 : decode cX5_floorOn 48 = .ok (.isub, 1) := by decide +kernel
theorem dX5_floorOn_49 : decode cX5_floorOn 49 = .ok (.ireturn, 1) := by decide +kernel
theorem dX5_levelOn_0 : decode cX5_levelOn 0 = .ok (.aload_n 0, 1) := by decide +kernel
theorem dX5_levelOn_1 : decode cX5_levelOn 1 = .ok (.bipush 12, 2) := by decide +kernel
theorem dX5_levelOn_3 : decode cX5_levelOn 3 = .ok (.iconst 4, 1) := by decide +kernel
theorem dX5_levelOn_4 : decode cX5_levelOn 4 = .ok (.iload_n 1, 1) := by decide +kernel
theorem dX5_levelOn_5 : decode cX5_levelOn 5 = .ok (.imul, 1) := by decide +kernel
theorem dX5_levelOn_6 : decode cX5_levelOn 6 = .ok (.iadd, 1) := by decide +kernel
theorem dX5_levelOn_7 : decode cX5_levelOn 7 = .ok (.iload_n 2, 1) := by decide +kernel
theorem dX5_levelOn_8 : decode cX5_levelOn 8 = .ok (.iadd, 1) := by decide +kernel
theorem dX5_levelOn_9 : decode cX5_levelOn 9 = .ok (.iaload, 1) := by decide +kernel
theorem dX5_levelOn_10 : decode cX5_levelOn 10 = .ok (.istore 4, 2) := by decide +kernel
theorem dX5_levelOn_12 : decode cX5_levelOn 12 = .ok (.aload_n 0, 1) := by decide +kernel
theorem dX5_levelOn_13 : decode cX5_levelOn 13 = .ok (.bipush 12, 2) := by decide +kernel
theorem dX5_levelOn_15 : decode cX5_levelOn 15 = .ok (.iconst 4, 1) := by decide +kernel
theorem dX5_levelOn_16 : decode cX5_levelOn 16 = .ok (.iload_n 1, 1) := by decide +kernel
theorem dX5_levelOn_17 : decode cX5_levelOn 17 = .ok (.imul, 1) := by decide +kernel
theorem dX5_levelOn_18 : decode cX5_levelOn 18 = .ok (.iadd, 1) := by decide +kernel
theorem dX5_levelOn_19 : decode cX5_levelOn 19 = .ok (.iload_n 2, 1) := by decide +kernel
theorem dX5_levelOn_20 : decode cX5_levelOn 20 = .ok (.iadd, 1) := by decide +kernel
theorem dX5_levelOn_21 : decode cX5_levelOn 21 = .ok (.iload_n 3, 1) := by decide +kernel
theorem dX5_levelOn_22 : decode cX5_levelOn 22 = .ok (.iastore, 1) := by decide +kernel
theorem dX5_levelOn_23 : decode cX5_levelOn 23 = .ok (.iconst 0, 1) := by decide +kernel
theorem dX5_levelOn_24 : decode cX5_levelOn 24 = .ok (.istore 5, 2) := by decide +kernel
theorem dX5_levelOn_26 : decode cX5_levelOn 26 = .ok (.iload 5, 2) := by decide +kernel
theorem dX5_levelOn_28 : decode cX5_levelOn 28 = .ok (.aload_n 0, 1) := by decide +kernel
theorem dX5_levelOn_29 : decode cX5_levelOn 29 = .ok (.iconst 0, 1) := by decide +kernel
theorem dX5_levelOn_30 : decode cX5_levelOn 30 = .ok (.iaload, 1) := by decide +kernel
theorem dX5_levelOn_31 : decode cX5_levelOn 31 = .ok (.if_icmp .ge 32, 3) := by decide +kernel
theorem dX5_levelOn_34 : decode cX5_levelOn 34 = .ok (.iload_n 3, 1) := by decide +kernel
theorem dX5_levelOn_35 : decode cX5_levelOn 35 = .ok (.iload 4, 2) := by decide +kernel
theorem dX5_levelOn_37 : decode cX5_levelOn 37 = .ok (.if_icmp .eq 26, 3) := by decide +kernel
theorem dX5_levelOn_40 : decode cX5_levelOn 40 = .ok (.aload_n 0, 1) := by decide +kernel
theorem dX5_levelOn_41 : decode cX5_levelOn 41 = .ok (.iload 5, 2) := by decide +kernel
theorem dX5_levelOn_43 : decode cX5_levelOn 43 = .ok (.iconst 1, 1) := by decide +kernel
theorem dX5_levelOn_44 : decode cX5_levelOn 44 = .ok (.invokestatic 51, 3) := by decide +kernel
theorem dX5_levelOn_47 : decode cX5_levelOn 47 = .ok (.iload_n 1, 1) := by decide +kernel
theorem dX5_levelOn_48 : decode cX5_levelOn 48 = .ok (.if_icmp .ne 9, 3) := by decide +kernel
theorem dX5_levelOn_51 : decode cX5_levelOn 51 = .ok (.aload_n 0, 1) := by decide +kernel
theorem dX5_levelOn_52 : decode cX5_levelOn 52 = .ok (.iload 5, 2) := by decide +kernel
theorem dX5_levelOn_54 : decode cX5_levelOn 54 = .ok (.invokestatic 82, 3) := by decide +kernel
theorem dX5_levelOn_57 : decode cX5_levelOn 57 = .ok (.iinc 5 1, 3) := by decide +kernel
theorem dX5_levelOn_60 : decode cX5_levelOn 60 = .ok (.goto (-34), 3) := by decide +kernel
theorem dX5_levelOn_63 : decode cX5_levelOn 63 = .ok (.iload 4, 2) := by decide +kernel
theorem dX5_levelOn_65 : decode cX5_levelOn 65 = .ok (.ireturn, 1) := by decide +kernel
theorem dX5_bringOn_0 : decode cX5_bringOn 0 = .ok (.aload_n 0, 1) := by decide +kernel
theorem dX5_bringOn_1 : decode cX5_bringOn 1 = .ok (.iload_n 1, 1) := by decide +kernel
theorem dX5_bringOn_2 : decode cX5_bringOn 2 = .ok (.iconst 1, 1) := by decide +kernel
theorem dX5_bringOn_3 : decode cX5_bringOn 3 = .ok (.invokestatic 51, 3) := by decide +kernel
theorem dX5_bringOn_6 : decode cX5_bringOn 6 = .ok (.iload_n 2, 1) := by decide +kernel
theorem dX5_bringOn_7 : decode cX5_bringOn 7 = .ok (.if_icmp .ne 13, 3) := by decide +kernel
theorem dX5_bringOn_10 : decode cX5_bringOn 10 = .ok (.aload_n 0, 1) := by decide +kernel
theorem dX5_bringOn_11 : decode cX5_bringOn 11 = .ok (.iload_n 1, 1) := by decide +kernel
theorem dX5_bringOn_12 : decode cX5_bringOn 12 = .ok (.iconst 2, 1) := by decide +kernel
theorem dX5_bringOn_13 : decode cX5_bringOn 13 = .ok (.invokestatic 51, 3) := by decide +kernel
theorem dX5_bringOn_16 : decode cX5_bringOn 16 = .ok (.iload_n 3, 1) := by decide +kernel
theorem dX5_bringOn_17 : decode cX5_bringOn 17 = .ok (.if_icmp .eq 8, 3) := by decide +kernel
theorem dX5_bringOn_20 : decode cX5_bringOn 20 = .ok (.aload_n 0, 1) := by decide +kernel
theorem dX5_bringOn_21 : decode cX5_bringOn 21 = .ok (.iload_n 1, 1) := by decide +kernel
theorem dX5_bringOn_22 : decode cX5_bringOn 22 = .ok (.invokestatic 82, 3) := by decide +kernel
theorem dX5_bringOn_25 : decode cX5_bringOn 25 = .ok (.aload_n 0, 1) := by decide +kernel
theorem dX5_bringOn_26 : decode cX5_bringOn 26 = .ok (.iload_n 1, 1) := by decide +kernel
theorem dX5_bringOn_27 : decode cX5_bringOn 27 = .ok (.iconst 1, 1) := by decide +kernel
theorem dX5_bringOn_28 : decode cX5_bringOn 28 = .ok (.iload_n 2, 1) := by decide +kernel
theorem dX5_bringOn_29 : decode cX5_bringOn 29 = .ok (.invokestatic 78, 3) := by decide +kernel
theorem dX5_bringOn_32 : decode cX5_bringOn 32 = .ok (.aload_n 0, 1) := by decide +kernel
theorem dX5_bringOn_33 : decode cX5_bringOn 33 = .ok (.iload_n 1, 1) := by decide +kernel
theorem dX5_bringOn_34 : decode cX5_bringOn 34 = .ok (.iconst 2, 1) := by decide +kernel
theorem dX5_bringOn_35 : decode cX5_bringOn 35 = .ok (.iload_n 3, 1) := by decide +kernel
theorem dX5_bringOn_36 : decode cX5_bringOn 36 = .ok (.invokestatic 78, 3) := by decide +kernel
theorem dX5_bringOn_39 : decode cX5_bringOn 39 = .ok (.aload_n 0, 1) := by decide +kernel
theorem dX5_bringOn_40 : decode cX5_bringOn 40 = .ok (.iload_n 1, 1) := by decide +kernel
theorem dX5_bringOn_41 : decode cX5_bringOn 41 = .ok (.invokestatic 69, 3) := by decide +kernel
theorem dX5_bringOn_44 : decode cX5_bringOn 44 = .ok (.ireturn, 1) := by decide +kernel
theorem dX5_leg_0 : decode cX5_leg 0 = .ok (.aload_n 0, 1) := by decide +kernel
theorem dX5_leg_1 : decode cX5_leg 1 = .ok (.iload_n 1, 1) := by decide +kernel
theorem dX5_leg_2 : decode cX5_leg 2 = .ok (.iconst 5, 1) := by decide +kernel
theorem dX5_leg_3 : decode cX5_leg 3 = .ok (.iload_n 2, 1) := by decide +kernel
theorem dX5_leg_4 : decode cX5_leg 4 = .ok (.iadd, 1) := by decide +kernel
theorem dX5_leg_5 : decode cX5_leg 5 = .ok (.aload_n 0, 1) := by decide +kernel
theorem dX5_leg_6 : decode cX5_leg 6 = .ok (.iload_n 1, 1) := by decide +kernel
theorem dX5_leg_7 : decode cX5_leg 7 = .ok (.iconst 5, 1) := by decide +kernel
theorem dX5_leg_8 : decode cX5_leg 8 = .ok (.iload_n 2, 1) := by decide +kernel
theorem dX5_leg_9 : decode cX5_leg 9 = .ok (.iadd, 1) := by decide +kernel
theorem dX5_leg_10 : decode cX5_leg 10 = .ok (.invokestatic 51, 3) := by decide +kernel
theorem dX5_leg_13 : decode cX5_leg 13 = .ok (.iload_n 3, 1) := by decide +kernel
theorem dX5_leg_14 : decode cX5_leg 14 = .ok (.iadd, 1) := by decide +kernel
theorem dX5_leg_15 : decode cX5_leg 15 = .ok (.invokestatic 78, 3) := by decide +kernel
theorem dX5_leg_18 : decode cX5_leg 18 = .ok (.iload_n 3, 1) := by decide +kernel
theorem dX5_leg_19 : decode cX5_leg 19 = .ok (.ifCond .eq 8, 3) := by decide +kernel
theorem dX5_leg_22 : decode cX5_leg 22 = .ok (.aload_n 0, 1) := by decide +kernel
theorem dX5_leg_23 : decode cX5_leg 23 = .ok (.iload_n 1, 1) := by decide +kernel
theorem dX5_leg_24 : decode cX5_leg 24 = .ok (.invokestatic 82, 3) := by decide +kernel
theorem dX5_leg_27 : decode cX5_leg 27 = .ok (.aload_n 0, 1) := by decide +kernel
theorem dX5_leg_28 : decode cX5_leg 28 = .ok (.iload_n 1, 1) := by decide +kernel
theorem dX5_leg_29 : decode cX5_leg 29 = .ok (.iconst 5, 1) := by decide +kernel
theorem dX5_leg_30 : decode cX5_leg 30 = .ok (.iload_n 2, 1) := by decide +kernel
theorem dX5_leg_31 : decode cX5_leg 31 = .ok (.iadd, 1) := by decide +kernel
theorem dX5_leg_32 : decode cX5_leg 32 = .ok (.invokestatic 51, 3) := by decide +kernel
theorem dX5_leg_35 : decode cX5_leg 35 = .ok (.ireturn, 1) := by decide +kernel
theorem dX5_sawOn_0 : decode cX5_sawOn 0 = .ok (.aload_n 0, 1) := by decide +kernel
theorem dX5_sawOn_1 : decode cX5_sawOn 1 = .ok (.bipush 7, 2) := by decide +kernel
theorem dX5_sawOn_3 : decode cX5_sawOn 3 = .ok (.dup2, 1) := by decide +kernel
theorem dX5_sawOn_4 : decode cX5_sawOn 4 = .ok (.iaload, 1) := by decide +kernel
theorem dX5_sawOn_5 : decode cX5_sawOn 5 = .ok (.iload_n 3, 1) := by decide +kernel
theorem dX5_sawOn_6 : decode cX5_sawOn 6 = .ok (.iadd, 1) := by decide +kernel
theorem dX5_sawOn_7 : decode cX5_sawOn 7 = .ok (.iastore, 1) := by decide +kernel
theorem dX5_sawOn_8 : decode cX5_sawOn 8 = .ok (.aload_n 0, 1) := by decide +kernel
theorem dX5_sawOn_9 : decode cX5_sawOn 9 = .ok (.iload_n 1, 1) := by decide +kernel
theorem dX5_sawOn_10 : decode cX5_sawOn 10 = .ok (.iload_n 2, 1) := by decide +kernel
theorem dX5_sawOn_11 : decode cX5_sawOn 11 = .ok (.iload_n 3, 1) := by decide +kernel
theorem dX5_sawOn_12 : decode cX5_sawOn 12 = .ok (.ineg, 1) := by decide +kernel
theorem dX5_sawOn_13 : decode cX5_sawOn 13 = .ok (.invokestatic 86, 3) := by decide +kernel
theorem dX5_sawOn_16 : decode cX5_sawOn 16 = .ok (.ireturn, 1) := by decide +kernel
theorem dX5_shimOn_0 : decode cX5_shimOn 0 = .ok (.aload_n 0, 1) := by decide +kernel
theorem dX5_shimOn_1 : decode cX5_shimOn 1 = .ok (.bipush 8, 2) := by decide +kernel
theorem dX5_shimOn_3 : decode cX5_shimOn 3 = .ok (.dup2, 1) := by decide +kernel
theorem dX5_shimOn_4 : decode cX5_shimOn 4 = .ok (.iaload, 1) := by decide +kernel
theorem dX5_shimOn_5 : decode cX5_shimOn 5 = .ok (.iload_n 3, 1) := by decide +kernel
theorem dX5_shimOn_6 : decode cX5_shimOn 6 = .ok (.iadd, 1) := by decide +kernel
theorem dX5_shimOn_7 : decode cX5_shimOn 7 = .ok (.iastore, 1) := by decide +kernel
theorem dX5_shimOn_8 : decode cX5_shimOn 8 = .ok (.aload_n 0, 1) := by decide +kernel
theorem dX5_shimOn_9 : decode cX5_shimOn 9 = .ok (.iload_n 1, 1) := by decide +kernel
theorem dX5_shimOn_10 : decode cX5_shimOn 10 = .ok (.iload_n 2, 1) := by decide +kernel
theorem dX5_shimOn_11 : decode cX5_shimOn 11 = .ok (.iload_n 3, 1) := by decide +kernel
theorem dX5_shimOn_12 : decode cX5_shimOn 12 = .ok (.invokestatic 86, 3) := by decide +kernel
theorem dX5_shimOn_15 : decode cX5_shimOn 15 = .ok (.ireturn, 1) := by decide +kernel
theorem dX5_testOn_0 : decode cX5_testOn 0 = .ok (.aload_n 0, 1) := by decide +kernel
theorem dX5_testOn_1 : decode cX5_testOn 1 = .ok (.iload_n 1, 1) := by decide +kernel
theorem dX5_testOn_2 : decode cX5_testOn 2 = .ok (.invokestatic 90, 3) := by decide +kernel
theorem dX5_testOn_5 : decode cX5_testOn 5 = .ok (.istore_n 2, 1) := by decide +kernel
theorem dX5_testOn_6 : decode cX5_testOn 6 = .ok (.aload_n 0, 1) := by decide +kernel
theorem dX5_testOn_7 : decode cX5_testOn 7 = .ok (.iconst 2, 1) := by decide +kernel
theorem dX5_testOn_8 : decode cX5_testOn 8 = .ok (.dup2, 1) := by decide +kernel
theorem dX5_testOn_9 : decode cX5_testOn 9 = .ok (.iaload, 1) := by decide +kernel
theorem dX5_testOn_10 : decode cX5_testOn 10 = .ok (.iconst 1, 1) := by decide +kernel
theorem dX5_testOn_11 : decode cX5_testOn 11 = .ok (.iadd, 1) := by decide +kernel
theorem dX5_testOn_12 : decode cX5_testOn 12 = .ok (.iastore, 1) := by decide +kernel
theorem dX5_testOn_13 : decode cX5_testOn 13 = .ok (.aload_n 0, 1) := by decide +kernel
theorem dX5_testOn_14 : decode cX5_testOn 14 = .ok (.iconst 5, 1) := by decide +kernel
theorem dX5_testOn_15 : decode cX5_testOn 15 = .ok (.dup2, 1) := by decide +kernel
theorem dX5_testOn_16 : decode cX5_testOn 16 = .ok (.iaload, 1) := by decide +kernel
theorem dX5_testOn_17 : decode cX5_testOn 17 = .ok (.aload_n 0, 1) := by decide +kernel
theorem dX5_testOn_18 : decode cX5_testOn 18 = .ok (.bipush 10, 2) := by decide +kernel
theorem dX5_testOn_20 : decode cX5_testOn 20 = .ok (.iaload, 1) := by decide +kernel
theorem dX5_testOn_21 : decode cX5_testOn 21 = .ok (.iadd, 1) := by decide +kernel
theorem dX5_testOn_22 : decode cX5_testOn 22 = .ok (.iastore, 1) := by decide +kernel
theorem dX5_testOn_23 : decode cX5_testOn 23 = .ok (.iload_n 2, 1) := by decide +kernel
theorem dX5_testOn_24 : decode cX5_testOn 24 = .ok (.ifCond .ne 26, 3) := by decide +kernel
theorem dX5_testOn_27 : decode cX5_testOn 27 = .ok (.aload_n 0, 1) := by decide +kernel
theorem dX5_testOn_28 : decode cX5_testOn 28 = .ok (.iload_n 1, 1) := by decide +kernel
theorem dX5_testOn_29 : decode cX5_testOn 29 = .ok (.iconst 3, 1) := by decide +kernel
theorem dX5_testOn_30 : decode cX5_testOn 30 = .ok (.invokestatic 51, 3) := by decide +kernel
theorem dX5_testOn_33 : decode cX5_testOn 33 = .ok (.ifCond .ne 17, 3) := by decide +kernel
theorem dX5_testOn_36 : decode cX5_testOn 36 = .ok (.aload_n 0, 1) := by decide +kernel
theorem dX5_testOn_37 : decode cX5_testOn 37 = .ok (.iload_n 1, 1) := by decide +kernel
theorem dX5_testOn_38 : decode cX5_testOn 38 = .ok (.iconst 3, 1) := by decide +kernel
theorem dX5_testOn_39 : decode cX5_testOn 39 = .ok (.iconst 1, 1) := by decide +kernel
theorem dX5_testOn_40 : decode cX5_testOn 40 = .ok (.invokestatic 78, 3) := by decide +kernel
theorem dX5_testOn_43 : decode cX5_testOn 43 = .ok (.aload_n 0, 1) := by decide +kernel
theorem dX5_testOn_44 : decode cX5_testOn 44 = .ok (.iconst 3, 1) := by decide +kernel
theorem dX5_testOn_45 : decode cX5_testOn 45 = .ok (.dup2, 1) := by decide +kernel
theorem dX5_testOn_46 : decode cX5_testOn 46 = .ok (.iaload, 1) := by decide +kernel
theorem dX5_testOn_47 : decode cX5_testOn 47 = .ok (.iconst 1, 1) := by decide +kernel
theorem dX5_testOn_48 : decode cX5_testOn 48 = .ok (.iadd, 1) := by decide +kernel
theorem dX5_testOn_49 : decode cX5_testOn 49 = .ok (.iastore, 1) := by decide +kernel
theorem dX5_testOn_50 : decode cX5_testOn 50 = .ok (.iload_n 2, 1) := by decide +kernel
theorem dX5_testOn_51 : decode cX5_testOn 51 = .ok (.ireturn, 1) := by decide +kernel
theorem dX5_sitOn_0 : decode cX5_sitOn 0 = .ok (.aload_n 0, 1) := by decide +kernel
theorem dX5_sitOn_1 : decode cX5_sitOn 1 = .ok (.iload_n 1, 1) := by decide +kernel
theorem dX5_sitOn_2 : decode cX5_sitOn 2 = .ok (.invokestatic 93, 3) := by decide +kernel
theorem dX5_sitOn_5 : decode cX5_sitOn 5 = .ok (.istore_n 3, 1) := by decide +kernel
theorem dX5_sitOn_6 : decode cX5_sitOn 6 = .ok (.iload_n 2, 1) := by decide +kernel
theorem dX5_sitOn_7 : decode cX5_sitOn 7 = .ok (.aload_n 0, 1) := by decide +kernel
theorem dX5_sitOn_8 : decode cX5_sitOn 8 = .ok (.bipush 11, 2) := by decide +kernel
theorem dX5_sitOn_10 : decode cX5_sitOn 10 = .ok (.iaload, 1) := by decide +kernel
theorem dX5_sitOn_11 : decode cX5_sitOn 11 = .ok (.idiv, 1) := by decide +kernel
theorem dX5_sitOn_12 : decode cX5_sitOn 12 = .ok (.istore 4, 2) := by decide +kernel
theorem dX5_sitOn_14 : decode cX5_sitOn 14 = .ok (.iconst 0, 1) := by decide +kernel
theorem dX5_sitOn_15 : decode cX5_sitOn 15 = .ok (.istore 5, 2) := by decide +kernel
theorem dX5_sitOn_17 : decode cX5_sitOn 17 = .ok (.iconst 0, 1) := by decide +kernel
theorem dX5_sitOn_18 : decode cX5_sitOn 18 = .ok (.istore 6, 2) := by decide +kernel
theorem dX5_sitOn_20 : decode cX5_sitOn 20 = .ok (.iload 6, 2) := by decide +kernel
theorem dX5_sitOn_22 : decode cX5_sitOn 22 = .ok (.iconst 4, 1) := by decide +kernel
theorem dX5_sitOn_23 : decode cX5_sitOn 23 = .ok (.if_icmp .ge 67, 3) := by decide +kernel
theorem dX5_sitOn_26 : decode cX5_sitOn 26 = .ok (.aload_n 0, 1) := by decide +kernel
theorem dX5_sitOn_27 : decode cX5_sitOn 27 = .ok (.iload_n 1, 1) := by decide +kernel
theorem dX5_sitOn_28 : decode cX5_sitOn 28 = .ok (.iconst 5, 1) := by decide +kernel
theorem dX5_sitOn_29 : decode cX5_sitOn 29 = .ok (.iload 6, 2) := by decide +kernel
theorem dX5_sitOn_31 : decode cX5_sitOn 31 = .ok (.iadd, 1) := by decide +kernel
theorem dX5_sitOn_32 : decode cX5_sitOn 32 = .ok (.invokestatic 51, 3) := by decide +kernel
theorem dX5_sitOn_35 : decode cX5_sitOn 35 = .ok (.bipush 100, 2) := by decide +kernel
theorem dX5_sitOn_37 : decode cX5_sitOn 37 = .ok (.isub, 1) := by decide +kernel
theorem dX5_sitOn_38 : decode cX5_sitOn 38 = .ok (.istore 7, 2) := by decide +kernel
theorem dX5_sitOn_40 : decode cX5_sitOn 40 = .ok (.iload 6, 2) := by decide +kernel
theorem dX5_sitOn_42 : decode cX5_sitOn 42 = .ok (.iload_n 3, 1) := by decide +kernel
theorem dX5_sitOn_43 : decode cX5_sitOn 43 = .ok (.if_icmp .ne 7, 3) := by decide +kernel
theorem dX5_sitOn_46 : decode cX5_sitOn 46 = .ok (.iconst 0, 1) := by decide +kernel
theorem dX5_sitOn_47 : decode cX5_sitOn 47 = .ok (.goto 17, 3) := by decide +kernel
theorem dX5_sitOn_50 : decode cX5_sitOn 50 = .ok (.iload 4, 2) := by decide +kernel
theorem dX5_sitOn_52 : decode cX5_sitOn 52 = .ok (.iload 7, 2) := by decide +kernel
theorem dX5_sitOn_54 : decode cX5_sitOn 54 = .ok (.if_icmp .ge 8, 3) := by decide +kernel
theorem dX5_sitOn_57 : decode cX5_sitOn 57 = .ok (.iload 4, 2) := by decide +kernel
theorem dX5_sitOn_59 : decode cX5_sitOn 59 = .ok (.goto 5, 3) := by decide +kernel
theorem dX5_sitOn_62 : decode cX5_sitOn 62 = .ok (.iload 7, 2) := by decide +kernel
theorem dX5_sitOn_64 : decode cX5_sitOn 64 = .ok (.istore 8, 2) := by decide +kernel
theorem dX5_sitOn_66 : decode cX5_sitOn 66 = .ok (.aload_n 0, 1) := by decide +kernel
theorem dX5_sitOn_67 : decode cX5_sitOn 67 = .ok (.iload_n 1, 1) := by decide +kernel
theorem dX5_sitOn_68 : decode cX5_sitOn 68 = .ok (.iload 6, 2) := by decide +kernel
theorem dX5_sitOn_70 : decode cX5_sitOn 70 = .ok (.iload 8, 2) := by decide +kernel
theorem dX5_sitOn_72 : decode cX5_sitOn 72 = .ok (.ineg, 1) := by decide +kernel
theorem dX5_sitOn_73 : decode cX5_sitOn 73 = .ok (.invokestatic 86, 3) := by decide +kernel
theorem dX5_sitOn_76 : decode cX5_sitOn 76 = .ok (.pop, 1) := by decide +kernel
theorem dX5_sitOn_77 : decode cX5_sitOn 77 = .ok (.iload 5, 2) := by decide +kernel
theorem dX5_sitOn_79 : decode cX5_sitOn 79 = .ok (.iload 8, 2) := by decide +kernel
theorem dX5_sitOn_81 : decode cX5_sitOn 81 = .ok (.iadd, 1) := by decide +kernel
theorem dX5_sitOn_82 : decode cX5_sitOn 82 = .ok (.istore 5, 2) := by decide +kernel
theorem dX5_sitOn_84 : decode cX5_sitOn 84 = .ok (.iinc 6 1, 3) := by decide +kernel
theorem dX5_sitOn_87 : decode cX5_sitOn 87 = .ok (.goto (-67), 3) := by decide +kernel
theorem dX5_sitOn_90 : decode cX5_sitOn 90 = .ok (.aload_n 0, 1) := by decide +kernel
theorem dX5_sitOn_91 : decode cX5_sitOn 91 = .ok (.bipush 6, 2) := by decide +kernel
theorem dX5_sitOn_93 : decode cX5_sitOn 93 = .ok (.dup2, 1) := by decide +kernel
theorem dX5_sitOn_94 : decode cX5_sitOn 94 = .ok (.iaload, 1) := by decide +kernel
theorem dX5_sitOn_95 : decode cX5_sitOn 95 = .ok (.iconst 1, 1) := by decide +kernel
theorem dX5_sitOn_96 : decode cX5_sitOn 96 = .ok (.iadd, 1) := by decide +kernel
theorem dX5_sitOn_97 : decode cX5_sitOn 97 = .ok (.iastore, 1) := by decide +kernel
theorem dX5_sitOn_98 : decode cX5_sitOn 98 = .ok (.aload_n 0, 1) := by decide +kernel
theorem dX5_sitOn_99 : decode cX5_sitOn 99 = .ok (.bipush 9, 2) := by decide +kernel
theorem dX5_sitOn_101 : decode cX5_sitOn 101 = .ok (.dup2, 1) := by decide +kernel
theorem dX5_sitOn_102 : decode cX5_sitOn 102 = .ok (.iaload, 1) := by decide +kernel
theorem dX5_sitOn_103 : decode cX5_sitOn 103 = .ok (.iload 5, 2) := by decide +kernel
theorem dX5_sitOn_105 : decode cX5_sitOn 105 = .ok (.iadd, 1) := by decide +kernel
theorem dX5_sitOn_106 : decode cX5_sitOn 106 = .ok (.iastore, 1) := by decide +kernel
theorem dX5_sitOn_107 : decode cX5_sitOn 107 = .ok (.aload_n 0, 1) := by decide +kernel
theorem dX5_sitOn_108 : decode cX5_sitOn 108 = .ok (.iload_n 1, 1) := by decide +kernel
theorem dX5_sitOn_109 : decode cX5_sitOn 109 = .ok (.iconst 4, 1) := by decide +kernel
theorem dX5_sitOn_110 : decode cX5_sitOn 110 = .ok (.aload_n 0, 1) := by decide +kernel
theorem dX5_sitOn_111 : decode cX5_sitOn 111 = .ok (.iload_n 1, 1) := by decide +kernel
theorem dX5_sitOn_112 : decode cX5_sitOn 112 = .ok (.iconst 4, 1) := by decide +kernel
theorem dX5_sitOn_113 : decode cX5_sitOn 113 = .ok (.invokestatic 51, 3) := by decide +kernel
theorem dX5_sitOn_116 : decode cX5_sitOn 116 = .ok (.iconst 1, 1) := by decide +kernel
theorem dX5_sitOn_117 : decode cX5_sitOn 117 = .ok (.iadd, 1) := by decide +kernel
theorem dX5_sitOn_118 : decode cX5_sitOn 118 = .ok (.invokestatic 78, 3) := by decide +kernel
theorem dX5_sitOn_121 : decode cX5_sitOn 121 = .ok (.iload 5, 2) := by decide +kernel
theorem dX5_sitOn_123 : decode cX5_sitOn 123 = .ok (.ireturn, 1) := by decide +kernel
theorem dX5_boundOn_0 : decode cX5_boundOn 0 = .ok (.aload_n 0, 1) := by decide +kernel
theorem dX5_boundOn_1 : decode cX5_boundOn 1 = .ok (.iconst 4, 1) := by decide +kernel
theorem dX5_boundOn_2 : decode cX5_boundOn 2 = .ok (.iaload, 1) := by decide +kernel
theorem dX5_boundOn_3 : decode cX5_boundOn 3 = .ok (.istore 4, 2) := by decide +kernel
theorem dX5_boundOn_5 : decode cX5_boundOn 5 = .ok (.aload_n 0, 1) := by decide +kernel
theorem dX5_boundOn_6 : decode cX5_boundOn 6 = .ok (.bipush 28, 2) := by decide +kernel
theorem dX5_boundOn_8 : decode cX5_boundOn 8 = .ok (.iconst 4, 1) := by decide +kernel
theorem dX5_boundOn_9 : decode cX5_boundOn 9 = .ok (.iload_n 1, 1) := by decide +kernel
theorem dX5_boundOn_10 : decode cX5_boundOn 10 = .ok (.imul, 1) := by decide +kernel
theorem dX5_boundOn_11 : decode cX5_boundOn 11 = .ok (.iadd, 1) := by decide +kernel
theorem dX5_boundOn_12 : decode cX5_boundOn 12 = .ok (.iload_n 2, 1) := by decide +kernel
theorem dX5_boundOn_13 : decode cX5_boundOn 13 = .ok (.iadd, 1) := by decide +kernel
theorem dX5_boundOn_14 : decode cX5_boundOn 14 = .ok (.iload_n 3, 1) := by decide +kernel
theorem dX5_boundOn_15 : decode cX5_boundOn 15 = .ok (.iastore, 1) := by decide +kernel
theorem dX5_boundOn_16 : decode cX5_boundOn 16 = .ok (.iconst 0, 1) := by decide +kernel
theorem dX5_boundOn_17 : decode cX5_boundOn 17 = .ok (.istore 5, 2) := by decide +kernel
theorem dX5_boundOn_19 : decode cX5_boundOn 19 = .ok (.iload 5, 2) := by decide +kernel
theorem dX5_boundOn_21 : decode cX5_boundOn 21 = .ok (.aload_n 0, 1) := by decide +kernel
theorem dX5_boundOn_22 : decode cX5_boundOn 22 = .ok (.iconst 0, 1) := by decide +kernel
theorem dX5_boundOn_23 : decode cX5_boundOn 23 = .ok (.iaload, 1) := by decide +kernel
theorem dX5_boundOn_24 : decode cX5_boundOn 24 = .ok (.if_icmp .ge 35, 3) := by decide +kernel
theorem dX5_boundOn_27 : decode cX5_boundOn 27 = .ok (.aload_n 0, 1) := by decide +kernel
theorem dX5_boundOn_28 : decode cX5_boundOn 28 = .ok (.iload 5, 2) := by decide +kernel
theorem dX5_boundOn_30 : decode cX5_boundOn 30 = .ok (.iconst 0, 1) := by decide +kernel
theorem dX5_boundOn_31 : decode cX5_boundOn 31 = .ok (.invokestatic 51, 3) := by decide +kernel
theorem dX5_boundOn_34 : decode cX5_boundOn 34 = .ok (.iload_n 1, 1) := by decide +kernel
theorem dX5_boundOn_35 : decode cX5_boundOn 35 = .ok (.if_icmp .ne 18, 3) := by decide +kernel
theorem dX5_boundOn_38 : decode cX5_boundOn 38 = .ok (.aload_n 0, 1) := by decide +kernel
theorem dX5_boundOn_39 : decode cX5_boundOn 39 = .ok (.iload 5, 2) := by decide +kernel
theorem dX5_boundOn_41 : decode cX5_boundOn 41 = .ok (.invokestatic 90, 3) := by decide +kernel
theorem dX5_boundOn_44 : decode cX5_boundOn 44 = .ok (.ifCond .le 9, 3) := by decide +kernel
theorem dX5_boundOn_47 : decode cX5_boundOn 47 = .ok (.aload_n 0, 1) := by decide +kernel
theorem dX5_boundOn_48 : decode cX5_boundOn 48 = .ok (.iload 5, 2) := by decide +kernel
theorem dX5_boundOn_50 : decode cX5_boundOn 50 = .ok (.invokestatic 82, 3) := by decide +kernel
theorem dX5_boundOn_53 : decode cX5_boundOn 53 = .ok (.iinc 5 1, 3) := by decide +kernel
theorem dX5_boundOn_56 : decode cX5_boundOn 56 = .ok (.goto (-37), 3) := by decide +kernel
theorem dX5_boundOn_59 : decode cX5_boundOn 59 = .ok (.aload_n 0, 1) := by decide +kernel
theorem dX5_boundOn_60 : decode cX5_boundOn 60 = .ok (.iconst 4, 1) := by decide +kernel
theorem dX5_boundOn_61 : decode cX5_boundOn 61 = .ok (.iaload, 1) := by decide +kernel
theorem dX5_boundOn_62 : decode cX5_boundOn 62 = .ok (.iload 4, 2) := by decide +kernel
theorem dX5_boundOn_64 : decode cX5_boundOn 64 = .ok (.isub, 1) := by decide +kernel
theorem dX5_boundOn_65 : decode cX5_boundOn 65 = .ok (.ireturn, 1) := by decide +kernel
theorem dX5_change_0 : decode cX5_change 0 = .ok (.aload_n 0, 1) := by decide +kernel
theorem dX5_change_1 : decode cX5_change 1 = .ok (.bipush 10, 2) := by decide +kernel
theorem dX5_change_3 : decode cX5_change 3 = .ok (.iload_n 1, 1) := by decide +kernel
theorem dX5_change_4 : decode cX5_change 4 = .ok (.iadd, 1) := by decide +kernel
theorem dX5_change_5 : decode cX5_change 5 = .ok (.iaload, 1) := by decide +kernel
theorem dX5_change_6 : decode cX5_change 6 = .ok (.istore_n 3, 1) := by decide +kernel
theorem dX5_change_7 : decode cX5_change 7 = .ok (.aload_n 0, 1) := by decide +kernel
theorem dX5_change_8 : decode cX5_change 8 = .ok (.bipush 10, 2) := by decide +kernel
theorem dX5_change_10 : decode cX5_change 10 = .ok (.iload_n 1, 1) := by decide +kernel
theorem dX5_change_11 : decode cX5_change 11 = .ok (.iadd, 1) := by decide +kernel
theorem dX5_change_12 : decode cX5_change 12 = .ok (.iload_n 2, 1) := by decide +kernel
theorem dX5_change_13 : decode cX5_change 13 = .ok (.iastore, 1) := by decide +kernel
theorem dX5_change_14 : decode cX5_change 14 = .ok (.iload_n 3, 1) := by decide +kernel
theorem dX5_change_15 : decode cX5_change 15 = .ok (.ireturn, 1) := by decide +kernel
theorem dX5_canSaw_0 : decode cX5_canSaw 0 = .ok (.aload_n 0, 1) := by decide +kernel
theorem dX5_canSaw_1 : decode cX5_canSaw 1 = .ok (.iload_n 1, 1) := by decide +kernel
theorem dX5_canSaw_2 : decode cX5_canSaw 2 = .ok (.invokestatic 96, 3) := by decide +kernel
theorem dX5_canSaw_5 : decode cX5_canSaw 5 = .ok (.ifCond .eq 22, 3) := by decide +kernel
theorem dX5_canSaw_8 : decode cX5_canSaw 8 = .ok (.aload_n 0, 1) := by decide +kernel
theorem dX5_canSaw_9 : decode cX5_canSaw 9 = .ok (.iload_n 1, 1) := by decide +kernel
theorem dX5_canSaw_10 : decode cX5_canSaw 10 = .ok (.iconst 5, 1) := by decide +kernel
theorem dX5_canSaw_11 : decode cX5_canSaw 11 = .ok (.iload_n 2, 1) := by decide +kernel
theorem dX5_canSaw_12 : decode cX5_canSaw 12 = .ok (.iadd, 1) := by decide +kernel
theorem dX5_canSaw_13 : decode cX5_canSaw 13 = .ok (.invokestatic 51, 3) := by decide +kernel
theorem dX5_canSaw_16 : decode cX5_canSaw 16 = .ok (.iload_n 3, 1) := by decide +kernel
theorem dX5_canSaw_17 : decode cX5_canSaw 17 = .ok (.isub, 1) := by decide +kernel
theorem dX5_canSaw_18 : decode cX5_canSaw 18 = .ok (.bipush 100, 2) := by decide +kernel
theorem dX5_canSaw_20 : decode cX5_canSaw 20 = .ok (.if_icmp .lt 7, 3) := by decide +kernel
theorem dX5_canSaw_23 : decode cX5_canSaw 23 = .ok (.iconst 1, 1) := by decide +kernel
theorem dX5_canSaw_24 : decode cX5_canSaw 24 = .ok (.goto 4, 3) := by decide +kernel
theorem dX5_canSaw_27 : decode cX5_canSaw 27 = .ok (.iconst 0, 1) := by decide +kernel
theorem dX5_canSaw_28 : decode cX5_canSaw 28 = .ok (.ireturn, 1) := by decide +kernel
theorem dX5_canShim_0 : decode cX5_canShim 0 = .ok (.aload_n 0, 1) := by decide +kernel
theorem dX5_canShim_1 : decode cX5_canShim 1 = .ok (.iload_n 1, 1) := by decide +kernel
theorem dX5_canShim_2 : decode cX5_canShim 2 = .ok (.invokestatic 96, 3) := by decide +kernel
theorem dX5_canShim_5 : decode cX5_canShim 5 = .ok (.ifCond .eq 23, 3) := by decide +kernel
theorem dX5_canShim_8 : decode cX5_canShim 8 = .ok (.aload_n 0, 1) := by decide +kernel
theorem dX5_canShim_9 : decode cX5_canShim 9 = .ok (.iload_n 1, 1) := by decide +kernel
theorem dX5_canShim_10 : decode cX5_canShim 10 = .ok (.iconst 5, 1) := by decide +kernel
theorem dX5_canShim_11 : decode cX5_canShim 11 = .ok (.iload_n 2, 1) := by decide +kernel
theorem dX5_canShim_12 : decode cX5_canShim 12 = .ok (.iadd, 1) := by decide +kernel
theorem dX5_canShim_13 : decode cX5_canShim 13 = .ok (.invokestatic 51, 3) := by decide +kernel
theorem dX5_canShim_16 : decode cX5_canShim 16 = .ok (.iload_n 3, 1) := by decide +kernel
theorem dX5_canShim_17 : decode cX5_canShim 17 = .ok (.iadd, 1) := by decide +kernel
theorem dX5_canShim_18 : decode cX5_canShim 18 = .ok (.sipush 900, 3) := by decide +kernel
theorem dX5_canShim_21 : decode cX5_canShim 21 = .ok (.if_icmp .gt 7, 3) := by decide +kernel
theorem dX5_canShim_24 : decode cX5_canShim 24 = .ok (.iconst 1, 1) := by decide +kernel
theorem dX5_canShim_25 : decode cX5_canShim 25 = .ok (.goto 4, 3) := by decide +kernel
theorem dX5_canShim_28 : decode cX5_canShim 28 = .ok (.iconst 0, 1) := by decide +kernel
theorem dX5_canShim_29 : decode cX5_canShim 29 = .ok (.ireturn, 1) := by decide +kernel
theorem dX5_append_0 : decode cX5_append 0 = .ok (.aload_n 0, 1) := by decide +kernel
theorem dX5_append_1 : decode cX5_append 1 = .ok (.iload_n 1, 1) := by decide +kernel
theorem dX5_append_2 : decode cX5_append 2 = .ok (.i2l, 1) := by decide +kernel
theorem dX5_append_3 : decode cX5_append 3 = .ok (.lconst 0, 1) := by decide +kernel
theorem dX5_append_4 : decode cX5_append 4 = .ok (.ldc2_w 100, 3) := by decide +kernel
theorem dX5_append_7 : decode cX5_append 7 = .ok (.invokestatic 37, 3) := by decide +kernel
theorem dX5_append_10 : decode cX5_append 10 = .ok (.ifCond .ne 7, 3) := by decide +kernel
theorem dX5_append_13 : decode cX5_append 13 = .ok (.iconst 1, 1) := by decide +kernel
theorem dX5_append_14 : decode cX5_append 14 = .ok (.goto 17, 3) := by decide +kernel
theorem dX5_append_17 : decode cX5_append 17 = .ok (.aload_n 0, 1) := by decide +kernel
theorem dX5_append_18 : decode cX5_append 18 = .ok (.getfield 102, 3) := by decide +kernel
theorem dX5_append_21 : decode cX5_append 21 = .ok (.bipush 120, 2) := by decide +kernel
theorem dX5_append_23 : decode cX5_append 23 = .ok (.if_icmp .ne 7, 3) := by decide +kernel
theorem dX5_append_26 : decode cX5_append 26 = .ok (.iconst 2, 1) := by decide +kernel
theorem dX5_append_27 : decode cX5_append 27 = .ok (.goto 4, 3) := by decide +kernel
theorem dX5_append_30 : decode cX5_append 30 = .ok (.iconst 0, 1) := by decide +kernel
theorem dX5_append_31 : decode cX5_append 31 = .ok (.invokevirtual 105, 3) := by decide +kernel
theorem dX5_append_34 : decode cX5_append 34 = .ok (.ifCond .eq 5, 3) := by decide +kernel
theorem dX5_append_37 : decode cX5_append 37 = .ok (.iconst 0, 1) := by decide +kernel
theorem dX5_append_38 : decode cX5_append 38 = .ok (.ireturn, 1) := by decide +kernel
theorem dX5_append_39 : decode cX5_append 39 = .ok (.aload_n 0, 1) := by decide +kernel
theorem dX5_append_40 : decode cX5_append 40 = .ok (.getfield 7, 3) := by decide +kernel
theorem dX5_append_43 : decode cX5_append 43 = .ok (.aload_n 0, 1) := by decide +kernel
theorem dX5_append_44 : decode cX5_append 44 = .ok (.getfield 102, 3) := by decide +kernel
theorem dX5_append_47 : decode cX5_append 47 = .ok (.iload_n 1, 1) := by decide +kernel
theorem dX5_append_48 : decode cX5_append 48 = .ok (.iastore, 1) := by decide +kernel
theorem dX5_append_49 : decode cX5_append 49 = .ok (.aload_n 0, 1) := by decide +kernel
theorem dX5_append_50 : decode cX5_append 50 = .ok (.dup, 1) := by decide +kernel
theorem dX5_append_51 : decode cX5_append 51 = .ok (.getfield 102, 3) := by decide +kernel
theorem dX5_append_54 : decode cX5_append 54 = .ok (.iconst 1, 1) := by decide +kernel
theorem dX5_append_55 : decode cX5_append 55 = .ok (.iadd, 1) := by decide +kernel
theorem dX5_append_56 : decode cX5_append 56 = .ok (.putfield 102, 3) := by decide +kernel
theorem dX5_append_59 : decode cX5_append 59 = .ok (.aload_n 0, 1) := by decide +kernel
theorem dX5_append_60 : decode cX5_append 60 = .ok (.getfield 102, 3) := by decide +kernel
theorem dX5_append_63 : decode cX5_append 63 = .ok (.ireturn, 1) := by decide +kernel
theorem dX5_clearText_0 : decode cX5_clearText 0 = .ok (.aload_n 0, 1) := by decide +kernel
theorem dX5_clearText_1 : decode cX5_clearText 1 = .ok (.iconst 0, 1) := by decide +kernel
theorem dX5_clearText_2 : decode cX5_clearText 2 = .ok (.putfield 33, 3) := by decide +kernel
theorem dX5_clearText_5 : decode cX5_clearText 5 = .ok (.aload_n 0, 1) := by decide +kernel
theorem dX5_clearText_6 : decode cX5_clearText 6 = .ok (.getfield 102, 3) := by decide +kernel
theorem dX5_clearText_9 : decode cX5_clearText 9 = .ok (.istore_n 1, 1) := by decide +kernel
theorem dX5_clearText_10 : decode cX5_clearText 10 = .ok (.aload_n 0, 1) := by decide +kernel
theorem dX5_clearText_11 : decode cX5_clearText 11 = .ok (.iconst 0, 1) := by decide +kernel
theorem dX5_clearText_12 : decode cX5_clearText 12 = .ok (.putfield 102, 3) := by decide +kernel
theorem dX5_clearText_15 : decode cX5_clearText 15 = .ok (.iload_n 1, 1) := by decide +kernel
theorem dX5_clearText_16 : decode cX5_clearText 16 = .ok (.ireturn, 1) := by decide +kernel
theorem dX5_figures_0 : decode cX5_figures 0 = .ok (.iconst 0, 1) := by decide +kernel
theorem dX5_figures_1 : decode cX5_figures 1 = .ok (.istore 5, 2) := by decide +kernel
theorem dX5_figures_3 : decode cX5_figures 3 = .ok (.iload_n 2, 1) := by decide +kernel
theorem dX5_figures_4 : decode cX5_figures 4 = .ok (.istore 6, 2) := by decide +kernel
theorem dX5_figures_6 : decode cX5_figures 6 = .ok (.iload 6, 2) := by decide +kernel
theorem dX5_figures_8 : decode cX5_figures 8 = .ok (.ifCond .le 104, 3) := by decide +kernel
theorem dX5_figures_11 : decode cX5_figures 11 = .ok (.iload_n 1, 1) := by decide +kernel
theorem dX5_figures_12 : decode cX5_figures 12 = .ok (.iconst (-1), 1) := by decide +kernel
theorem dX5_figures_13 : decode cX5_figures 13 = .ok (.if_icmp .eq 99, 3) := by decide +kernel
theorem dX5_figures_16 : decode cX5_figures 16 = .ok (.aload_n 0, 1) := by decide +kernel
theorem dX5_figures_17 : decode cX5_figures 17 = .ok (.getfield 109, 3) := by decide +kernel
theorem dX5_figures_20 : decode cX5_figures 20 = .ok (.aload_n 0, 1) := by decide +kernel
theorem dX5_figures_21 : decode cX5_figures 21 = .ok (.getfield 102, 3) := by decide +kernel
theorem dX5_figures_24 : decode cX5_figures 24 = .ok (.if_icmp .ge 18, 3) := by decide +kernel
theorem dX5_figures_27 : decode cX5_figures 27 = .ok (.aload_n 0, 1) := by decide +kernel
theorem dX5_figures_28 : decode cX5_figures 28 = .ok (.getfield 7, 3) := by decide +kernel
theorem dX5_figures_31 : decode cX5_figures 31 = .ok (.aload_n 0, 1) := by decide +kernel
theorem dX5_figures_32 : decode cX5_figures 32 = .ok (.getfield 109, 3) := by decide +kernel
theorem dX5_figures_35 : decode cX5_figures 35 = .ok (.iaload, 1) := by decide +kernel
theorem dX5_figures_36 : decode cX5_figures 36 = .ok (.bipush 48, 2) := by decide +kernel
theorem dX5_figures_38 : decode cX5_figures 38 = .ok (.isub, 1) := by decide +kernel
theorem dX5_figures_39 : decode cX5_figures 39 = .ok (.goto 4, 3) := by decide +kernel
theorem dX5_figures_42 : decode cX5_figures 42 = .ok (.iconst (-1), 1) := by decide +kernel
theorem dX5_figures_43 : decode cX5_figures 43 = .ok (.istore 7, 2) := by decide +kernel
theorem dX5_figures_45 : decode cX5_figures 45 = .ok (.iload 5, 2) := by decide +kernel
theorem dX5_figures_47 : decode cX5_figures 47 = .ok (.iload 7, 2) := by decide +kernel
theorem dX5_figures_49 : decode cX5_figures 49 = .ok (.iload 6, 2) := by decide +kernel
theorem dX5_figures_51 : decode cX5_figures 51 = .ok (.imul, 1) := by decide +kernel
theorem dX5_figures_52 : decode cX5_figures 52 = .ok (.iadd, 1) := by decide +kernel
theorem dX5_figures_53 : decode cX5_figures 53 = .ok (.istore 8, 2) := by decide +kernel
theorem dX5_figures_55 : decode cX5_figures 55 = .ok (.iload 7, 2) := by decide +kernel
theorem dX5_figures_57 : decode cX5_figures 57 = .ok (.i2l, 1) := by decide +kernel
theorem dX5_figures_58 : decode cX5_figures 58 = .ok (.lconst 0, 1) := by decide +kernel
theorem dX5_figures_59 : decode cX5_figures 59 = .ok (.ldc2_w 112, 3) := by decide +kernel
theorem dX5_figures_62 : decode cX5_figures 62 = .ok (.invokestatic 37, 3) := by decide +kernel
theorem dX5_figures_65 : decode cX5_figures 65 = .ok (.ifCond .eq 21, 3) := by decide +kernel
theorem dX5_figures_68 : decode cX5_figures 68 = .ok (.iload 8, 2) := by decide +kernel
theorem dX5_figures_70 : decode cX5_figures 70 = .ok (.iload 4, 2) := by decide +kernel
theorem dX5_figures_72 : decode cX5_figures 72 = .ok (.if_icmp .gt 14, 3) := by decide +kernel
theorem dX5_figures_75 : decode cX5_figures 75 = .ok (.iload 8, 2) := by decide +kernel
theorem dX5_figures_77 : decode cX5_figures 77 = .ok (.iload 6, 2) := by decide +kernel
theorem dX5_figures_79 : decode cX5_figures 79 = .ok (.iadd, 1) := by decide +kernel
theorem dX5_figures_80 : decode cX5_figures 80 = .ok (.iconst 1, 1) := by decide +kernel
theorem dX5_figures_81 : decode cX5_figures 81 = .ok (.isub, 1) := by decide +kernel
theorem dX5_figures_82 : decode cX5_figures 82 = .ok (.iload_n 3, 1) := by decide +kernel
theorem dX5_figures_83 : decode cX5_figures 83 = .ok (.if_icmp .ge 5, 3) := by decide +kernel
theorem dX5_figures_86 : decode cX5_figures 86 = .ok (.iconst (-1), 1) := by decide +kernel
theorem dX5_figures_87 : decode cX5_figures 87 = .ok (.ireturn, 1) := by decide +kernel
theorem dX5_figures_88 : decode cX5_figures 88 = .ok (.iload 8, 2) := by decide +kernel
theorem dX5_figures_90 : decode cX5_figures 90 = .ok (.istore 5, 2) := by decide +kernel
theorem dX5_figures_92 : decode cX5_figures 92 = .ok (.aload_n 0, 1) := by decide +kernel
theorem dX5_figures_93 : decode cX5_figures 93 = .ok (.dup, 1) := by decide +kernel
theorem dX5_figures_94 : decode cX5_figures 94 = .ok (.getfield 109, 3) := by decide +kernel
theorem dX5_figures_97 : decode cX5_figures 97 = .ok (.iconst 1, 1) := by decide +kernel
theorem dX5_figures_98 : decode cX5_figures 98 = .ok (.iadd, 1) := by decide +kernel
theorem dX5_figures_99 : decode cX5_figures 99 = .ok (.putfield 109, 3) := by decide +kernel
theorem dX5_figures_102 : decode cX5_figures 102 = .ok (.iload 6, 2) := by decide +kernel
theorem dX5_figures_104 : decode cX5_figures 104 = .ok (.bipush 10, 2) := by decide +kernel
theorem dX5_figures_106 : decode cX5_figures 106 = .ok (.idiv, 1) := by decide +kernel
theorem dX5_figures_107 : decode cX5_figures 107 = .ok (.istore 6, 2) := by decide +kernel
theorem dX5_figures_109 : decode cX5_figures 109 = .ok (.goto (-103), 3) := by decide +kernel
theorem dX5_figures_112 : decode cX5_figures 112 = .ok (.iload_n 1, 1) := by decide +kernel
theorem dX5_figures_113 : decode cX5_figures 113 = .ok (.iconst (-1), 1) := by decide +kernel
theorem dX5_figures_114 : decode cX5_figures 114 = .ok (.if_icmp .ne 7, 3) := by decide +kernel
theorem dX5_figures_117 : decode cX5_figures 117 = .ok (.iconst (-1), 1) := by decide +kernel
theorem dX5_figures_118 : decode cX5_figures 118 = .ok (.goto 5, 3) := by decide +kernel
theorem dX5_figures_121 : decode cX5_figures 121 = .ok (.iload 5, 2) := by decide +kernel
theorem dX5_figures_123 : decode cX5_figures 123 = .ok (.ireturn, 1) := by decide +kernel
theorem dX5_chairSign_0 : decode cX5_chairSign 0 = .ok (.aload_n 0, 1) := by decide +kernel
theorem dX5_chairSign_1 : decode cX5_chairSign 1 = .ok (.iconst 0, 1) := by decide +kernel
theorem dX5_chairSign_2 : decode cX5_chairSign 2 = .ok (.iconst 1, 1) := by decide +kernel
theorem dX5_chairSign_3 : decode cX5_chairSign 3 = .ok (.iconst 0, 1) := by decide +kernel
theorem dX5_chairSign_4 : decode cX5_chairSign 4 = .ok (.bipush 9, 2) := by decide +kernel
theorem dX5_chairSign_6 : decode cX5_chairSign 6 = .ok (.invokevirtual 114, 3) := by decide +kernel
theorem dX5_chairSign_9 : decode cX5_chairSign 9 = .ok (.ireturn, 1) := by decide +kernel
theorem dX5_fourSign_0 : decode cX5_fourSign 0 = .ok (.aload_n 0, 1) := by decide +kernel
theorem dX5_fourSign_1 : decode cX5_fourSign 1 = .ok (.iload_n 1, 1) := by decide +kernel
theorem dX5_fourSign_2 : decode cX5_fourSign 2 = .ok (.iconst 1, 1) := by decide +kernel
theorem dX5_fourSign_3 : decode cX5_fourSign 3 = .ok (.iconst 0, 1) := by decide +kernel
theorem dX5_fourSign_4 : decode cX5_fourSign 4 = .ok (.iconst 3, 1) := by decide +kernel
theorem dX5_fourSign_5 : decode cX5_fourSign 5 = .ok (.invokevirtual 114, 3) := by decide +kernel
theorem dX5_fourSign_8 : decode cX5_fourSign 8 = .ok (.ireturn, 1) := by decide +kernel
theorem dX5_done_0 : decode cX5_done 0 = .ok (.aload_n 0, 1) := by decide +kernel
theorem dX5_done_1 : decode cX5_done 1 = .ok (.dup, 1) := by decide +kernel
theorem dX5_done_2 : decode cX5_done 2 = .ok (.getfield 118, 3) := by decide +kernel
theorem dX5_done_5 : decode cX5_done 5 = .ok (.iload_n 1, 1) := by decide +kernel
theorem dX5_done_6 : decode cX5_done 6 = .ok (.ifCond .eq 7, 3) := by decide +kernel
theorem dX5_done_9 : decode cX5_done 9 = .ok (.iconst 0, 1) := by decide +kernel
theorem dX5_done_10 : decode cX5_done 10 = .ok (.goto 4, 3) := by decide +kernel
theorem dX5_done_13 : decode cX5_done 13 = .ok (.iconst 1, 1) := by decide +kernel
theorem dX5_done_14 : decode cX5_done 14 = .ok (.iadd, 1) := by decide +kernel
theorem dX5_done_15 : decode cX5_done 15 = .ok (.putfield 118, 3) := by decide +kernel
theorem dX5_done_18 : decode cX5_done 18 = .ok (.iconst 1, 1) := by decide +kernel
theorem dX5_done_19 : decode cX5_done 19 = .ok (.ireturn, 1) := by decide +kernel
theorem dX5_readLeg_0 : decode cX5_readLeg 0 = .ok (.aload_n 0, 1) := by decide +kernel
theorem dX5_readLeg_1 : decode cX5_readLeg 1 = .ok (.invokevirtual 121, 3) := by decide +kernel
theorem dX5_readLeg_4 : decode cX5_readLeg 4 = .ok (.istore_n 3, 1) := by decide +kernel
theorem dX5_readLeg_5 : decode cX5_readLeg 5 = .ok (.aload_n 0, 1) := by decide +kernel
theorem dX5_readLeg_6 : decode cX5_readLeg 6 = .ok (.iload_n 3, 1) := by decide +kernel
theorem dX5_readLeg_7 : decode cX5_readLeg 7 = .ok (.invokevirtual 125, 3) := by decide +kernel
theorem dX5_readLeg_10 : decode cX5_readLeg 10 = .ok (.istore 4, 2) := by decide +kernel
theorem dX5_readLeg_12 : decode cX5_readLeg 12 = .ok (.iload_n 2, 1) := by decide +kernel
theorem dX5_readLeg_13 : decode cX5_readLeg 13 = .ok (.ifCond .eq 18, 3) := by decide +kernel
theorem dX5_readLeg_16 : decode cX5_readLeg 16 = .ok (.aload_n 0, 1) := by decide +kernel
theorem dX5_readLeg_17 : decode cX5_readLeg 17 = .ok (.iload 4, 2) := by decide +kernel
theorem dX5_readLeg_19 : decode cX5_readLeg 19 = .ok (.bipush 100, 2) := by decide +kernel
theorem dX5_readLeg_21 : decode cX5_readLeg 21 = .ok (.iconst 1, 1) := by decide +kernel
theorem dX5_readLeg_22 : decode cX5_readLeg 22 = .ok (.sipush 800, 3) := by decide +kernel
theorem dX5_readLeg_25 : decode cX5_readLeg 25 = .ok (.invokevirtual 114, 3) := by decide +kernel
theorem dX5_readLeg_28 : decode cX5_readLeg 28 = .ok (.goto 14, 3) := by decide +kernel
theorem dX5_readLeg_31 : decode cX5_readLeg 31 = .ok (.aload_n 0, 1) := by decide +kernel
theorem dX5_readLeg_32 : decode cX5_readLeg 32 = .ok (.iload 4, 2) := by decide +kernel
theorem dX5_readLeg_34 : decode cX5_readLeg 34 = .ok (.bipush 10, 2) := by decide +kernel
theorem dX5_readLeg_36 : decode cX5_readLeg 36 = .ok (.iconst 1, 1) := by decide +kernel
theorem dX5_readLeg_37 : decode cX5_readLeg 37 = .ok (.bipush 99, 2) := by decide +kernel
theorem dX5_readLeg_39 : decode cX5_readLeg 39 = .ok (.invokevirtual 114, 3) := by decide +kernel
theorem dX5_readLeg_42 : decode cX5_readLeg 42 = .ok (.istore 5, 2) := by decide +kernel
theorem dX5_readLeg_44 : decode cX5_readLeg 44 = .ok (.iload 5, 2) := by decide +kernel
theorem dX5_readLeg_46 : decode cX5_readLeg 46 = .ok (.iconst (-1), 1) := by decide +kernel
theorem dX5_readLeg_47 : decode cX5_readLeg 47 = .ok (.if_icmp .eq 83, 3) := by decide +kernel
theorem dX5_readLeg_50 : decode cX5_readLeg 50 = .ok (.aload_n 0, 1) := by decide +kernel
theorem dX5_readLeg_51 : decode cX5_readLeg 51 = .ok (.iload_n 2, 1) := by decide +kernel
theorem dX5_readLeg_52 : decode cX5_readLeg 52 = .ok (.ifCond .eq 37, 3) := by decide +kernel
theorem dX5_readLeg_55 : decode cX5_readLeg 55 = .ok (.aload_n 1, 1) := by decide +kernel
theorem dX5_readLeg_56 : decode cX5_readLeg 56 = .ok (.iload_n 3, 1) := by decide +kernel
theorem dX5_readLeg_57 : decode cX5_readLeg 57 = .ok (.iload 4, 2) := by decide +kernel
theorem dX5_readLeg_59 : decode cX5_readLeg 59 = .ok (.iload 5, 2) := by decide +kernel
theorem dX5_readLeg_61 : decode cX5_readLeg 61 = .ok (.invokestatic 128, 3) := by decide +kernel
theorem dX5_readLeg_64 : decode cX5_readLeg 64 = .ok (.ifCond .eq 21, 3) := by decide +kernel
theorem dX5_readLeg_67 : decode cX5_readLeg 67 = .ok (.aload_n 1, 1) := by decide +kernel
theorem dX5_readLeg_68 : decode cX5_readLeg 68 = .ok (.iload_n 3, 1) := by decide +kernel
theorem dX5_readLeg_69 : decode cX5_readLeg 69 = .ok (.iload 4, 2) := by decide +kernel
theorem dX5_readLeg_71 : decode cX5_readLeg 71 = .ok (.iload 5, 2) := by decide +kernel
theorem dX5_readLeg_73 : decode cX5_readLeg 73 = .ok (.invokestatic 132, 3) := by decide +kernel
theorem dX5_readLeg_76 : decode cX5_readLeg 76 = .ok (.bipush 100, 2) := by decide +kernel
theorem dX5_readLeg_78 : decode cX5_readLeg 78 = .ok (.if_icmp .lt 7, 3) := by decide +kernel
theorem dX5_readLeg_81 : decode cX5_readLeg 81 = .ok (.iconst 1, 1) := by decide +kernel
theorem dX5_readLeg_82 : decode cX5_readLeg 82 = .ok (.goto 38, 3) := by decide +kernel
theorem dX5_readLeg_85 : decode cX5_readLeg 85 = .ok (.iconst 0, 1) := by decide +kernel
theorem dX5_readLeg_86 : decode cX5_readLeg 86 = .ok (.goto 34, 3) := by decide +kernel
theorem dX5_readLeg_89 : decode cX5_readLeg 89 = .ok (.aload_n 1, 1) := by decide +kernel
theorem dX5_readLeg_90 : decode cX5_readLeg 90 = .ok (.iload_n 3, 1) := by decide +kernel
theorem dX5_readLeg_91 : decode cX5_readLeg 91 = .ok (.iload 4, 2) := by decide +kernel
theorem dX5_readLeg_93 : decode cX5_readLeg 93 = .ok (.iload 5, 2) := by decide +kernel
theorem dX5_readLeg_95 : decode cX5_readLeg 95 = .ok (.invokestatic 135, 3) := by decide +kernel
theorem dX5_readLeg_98 : decode cX5_readLeg 98 = .ok (.ifCond .eq 21, 3) := by decide +kernel
theorem dX5_readLeg_101 : decode cX5_readLeg 101 = .ok (.aload_n 1, 1) := by decide +kernel
theorem dX5_readLeg_102 : decode cX5_readLeg 102 = .ok (.iload_n 3, 1) := by decide +kernel
theorem dX5_readLeg_103 : decode cX5_readLeg 103 = .ok (.iload 4, 2) := by decide +kernel
theorem dX5_readLeg_105 : decode cX5_readLeg 105 = .ok (.iload 5, 2) := by decide +kernel
theorem dX5_readLeg_107 : decode cX5_readLeg 107 = .ok (.invokestatic 138, 3) := by decide +kernel
theorem dX5_readLeg_110 : decode cX5_readLeg 110 = .ok (.bipush 100, 2) := by decide +kernel
theorem dX5_readLeg_112 : decode cX5_readLeg 112 = .ok (.if_icmp .lt 7, 3) := by decide +kernel
theorem dX5_readLeg_115 : decode cX5_readLeg 115 = .ok (.iconst 1, 1) := by decide +kernel
theorem dX5_readLeg_116 : decode cX5_readLeg 116 = .ok (.goto 4, 3) := by decide +kernel
theorem dX5_readLeg_119 : decode cX5_readLeg 119 = .ok (.iconst 0, 1) := by decide +kernel
theorem dX5_readLeg_120 : decode cX5_readLeg 120 = .ok (.invokevirtual 141, 3) := by decide +kernel
theorem dX5_readLeg_123 : decode cX5_readLeg 123 = .ok (.ifCond .eq 7, 3) := by decide +kernel
theorem dX5_readLeg_126 : decode cX5_readLeg 126 = .ok (.iconst 1, 1) := by decide +kernel
theorem dX5_readLeg_127 : decode cX5_readLeg 127 = .ok (.goto 4, 3) := by decide +kernel
theorem dX5_readLeg_130 : decode cX5_readLeg 130 = .ok (.iconst 0, 1) := by decide +kernel
theorem dX5_readLeg_131 : decode cX5_readLeg 131 = .ok (.ireturn, 1) := by decide +kernel
theorem dX5_readFloor_0 : decode cX5_readFloor 0 = .ok (.aload_n 0, 1) := by decide +kernel
end
section
theorem dX5_readFloor_1 : decode cX5_readFloor 1 = .ok (.iconst 0, 1) := by decide +kernel
theorem dX5_readFloor_2 : decode cX5_readFloor 2 = .ok (.bipush 10, 2) := by decide +kernel
theorem dX5_readFloor_4 : decode cX5_readFloor 4 = .ok (.iconst 0, 1) := by decide +kernel
theorem dX5_readFloor_5 : decode cX5_readFloor 5 = .ok (.bipush 50, 2) := by decide +kernel
theorem dX5_readFloor_7 : decode cX5_readFloor 7 = .ok (.invokevirtual 114, 3) := by decide +kernel
theorem dX5_readFloor_10 : decode cX5_readFloor 10 = .ok (.istore_n 2, 1) := by decide +kernel
theorem dX5_readFloor_11 : decode cX5_readFloor 11 = .ok (.aload_n 0, 1) := by decide +kernel
theorem dX5_readFloor_12 : decode cX5_readFloor 12 = .ok (.iload_n 2, 1) := by decide +kernel
theorem dX5_readFloor_13 : decode cX5_readFloor 13 = .ok (.bipush 10, 2) := by decide +kernel
theorem dX5_readFloor_15 : decode cX5_readFloor 15 = .ok (.iconst 0, 1) := by decide +kernel
theorem dX5_readFloor_16 : decode cX5_readFloor 16 = .ok (.bipush 50, 2) := by decide +kernel
theorem dX5_readFloor_18 : decode cX5_readFloor 18 = .ok (.invokevirtual 114, 3) := by decide +kernel
theorem dX5_readFloor_21 : decode cX5_readFloor 21 = .ok (.istore_n 3, 1) := by decide +kernel
theorem dX5_readFloor_22 : decode cX5_readFloor 22 = .ok (.aload_n 0, 1) := by decide +kernel
theorem dX5_readFloor_23 : decode cX5_readFloor 23 = .ok (.iload_n 3, 1) := by decide +kernel
theorem dX5_readFloor_24 : decode cX5_readFloor 24 = .ok (.bipush 10, 2) := by decide +kernel
theorem dX5_readFloor_26 : decode cX5_readFloor 26 = .ok (.iconst 0, 1) := by decide +kernel
theorem dX5_readFloor_27 : decode cX5_readFloor 27 = .ok (.bipush 50, 2) := by decide +kernel
theorem dX5_readFloor_29 : decode cX5_readFloor 29 = .ok (.invokevirtual 114, 3) := by decide +kernel
theorem dX5_readFloor_32 : decode cX5_readFloor 32 = .ok (.istore 4, 2) := by decide +kernel
theorem dX5_readFloor_34 : decode cX5_readFloor 34 = .ok (.aload_n 0, 1) := by decide +kernel
theorem dX5_readFloor_35 : decode cX5_readFloor 35 = .ok (.iload 4, 2) := by decide +kernel
theorem dX5_readFloor_37 : decode cX5_readFloor 37 = .ok (.bipush 10, 2) := by decide +kernel
theorem dX5_readFloor_39 : decode cX5_readFloor 39 = .ok (.iconst 0, 1) := by decide +kernel
theorem dX5_readFloor_40 : decode cX5_readFloor 40 = .ok (.bipush 50, 2) := by decide +kernel
theorem dX5_readFloor_42 : decode cX5_readFloor 42 = .ok (.invokevirtual 114, 3) := by decide +kernel
theorem dX5_readFloor_45 : decode cX5_readFloor 45 = .ok (.istore 5, 2) := by decide +kernel
theorem dX5_readFloor_47 : decode cX5_readFloor 47 = .ok (.iload 5, 2) := by decide +kernel
theorem dX5_readFloor_49 : decode cX5_readFloor 49 = .ok (.iconst (-1), 1) := by decide +kernel
theorem dX5_readFloor_50 : decode cX5_readFloor 50 = .ok (.if_icmp .eq 39, 3) := by decide +kernel
theorem dX5_readFloor_53 : decode cX5_readFloor 53 = .ok (.aload_n 0, 1) := by decide +kernel
theorem dX5_readFloor_54 : decode cX5_readFloor 54 = .ok (.aload_n 1, 1) := by decide +kernel
theorem dX5_readFloor_55 : decode cX5_readFloor 55 = .ok (.iconst 1, 1) := by decide +kernel
theorem dX5_readFloor_56 : decode cX5_readFloor 56 = .ok (.iaload, 1) := by decide +kernel
theorem dX5_readFloor_57 : decode cX5_readFloor 57 = .ok (.iconst 4, 1) := by decide +kernel
theorem dX5_readFloor_58 : decode cX5_readFloor 58 = .ok (.if_icmp .ge 20, 3) := by decide +kernel
theorem dX5_readFloor_61 : decode cX5_readFloor 61 = .ok (.aload_n 1, 1) := by decide +kernel
theorem dX5_readFloor_62 : decode cX5_readFloor 62 = .ok (.iload_n 2, 1) := by decide +kernel
theorem dX5_readFloor_63 : decode cX5_readFloor 63 = .ok (.iload_n 3, 1) := by decide +kernel
theorem dX5_readFloor_64 : decode cX5_readFloor 64 = .ok (.iload 4, 2) := by decide +kernel
theorem dX5_readFloor_66 : decode cX5_readFloor 66 = .ok (.iload 5, 2) := by decide +kernel
theorem dX5_readFloor_68 : decode cX5_readFloor 68 = .ok (.invokestatic 145, 3) := by decide +kernel
theorem dX5_readFloor_71 : decode cX5_readFloor 71 = .ok (.ifCond .le 7, 3) := by decide +kernel
theorem dX5_readFloor_74 : decode cX5_readFloor 74 = .ok (.iconst 1, 1) := by decide +kernel
theorem dX5_readFloor_75 : decode cX5_readFloor 75 = .ok (.goto 4, 3) := by decide +kernel
theorem dX5_readFloor_78 : decode cX5_readFloor 78 = .ok (.iconst 0, 1) := by decide +kernel
theorem dX5_readFloor_79 : decode cX5_readFloor 79 = .ok (.invokevirtual 141, 3) := by decide +kernel
theorem dX5_readFloor_82 : decode cX5_readFloor 82 = .ok (.ifCond .eq 7, 3) := by decide +kernel
theorem dX5_readFloor_85 : decode cX5_readFloor 85 = .ok (.iconst 1, 1) := by decide +kernel
theorem dX5_readFloor_86 : decode cX5_readFloor 86 = .ok (.goto 4, 3) := by decide +kernel
theorem dX5_readFloor_89 : decode cX5_readFloor 89 = .ok (.iconst 0, 1) := by decide +kernel
theorem dX5_readFloor_90 : decode cX5_readFloor 90 = .ok (.ireturn, 1) := by decide +kernel
theorem dX5_readBring_0 : decode cX5_readBring 0 = .ok (.aload_n 0, 1) := by decide +kernel
theorem dX5_readBring_1 : decode cX5_readBring 1 = .ok (.invokevirtual 121, 3) := by decide +kernel
theorem dX5_readBring_4 : decode cX5_readBring 4 = .ok (.istore_n 2, 1) := by decide +kernel
theorem dX5_readBring_5 : decode cX5_readBring 5 = .ok (.aload_n 0, 1) := by decide +kernel
theorem dX5_readBring_6 : decode cX5_readBring 6 = .ok (.iload_n 2, 1) := by decide +kernel
theorem dX5_readBring_7 : decode cX5_readBring 7 = .ok (.invokevirtual 125, 3) := by decide +kernel
theorem dX5_readBring_10 : decode cX5_readBring 10 = .ok (.istore_n 3, 1) := by decide +kernel
theorem dX5_readBring_11 : decode cX5_readBring 11 = .ok (.aload_n 0, 1) := by decide +kernel
theorem dX5_readBring_12 : decode cX5_readBring 12 = .ok (.iload_n 3, 1) := by decide +kernel
theorem dX5_readBring_13 : decode cX5_readBring 13 = .ok (.invokevirtual 125, 3) := by decide +kernel
theorem dX5_readBring_16 : decode cX5_readBring 16 = .ok (.istore 4, 2) := by decide +kernel
theorem dX5_readBring_18 : decode cX5_readBring 18 = .ok (.iload 4, 2) := by decide +kernel
theorem dX5_readBring_20 : decode cX5_readBring 20 = .ok (.iconst (-1), 1) := by decide +kernel
theorem dX5_readBring_21 : decode cX5_readBring 21 = .ok (.if_icmp .eq 46, 3) := by decide +kernel
theorem dX5_readBring_24 : decode cX5_readBring 24 = .ok (.aload_n 0, 1) := by decide +kernel
theorem dX5_readBring_25 : decode cX5_readBring 25 = .ok (.aload_n 1, 1) := by decide +kernel
theorem dX5_readBring_26 : decode cX5_readBring 26 = .ok (.iload_n 2, 1) := by decide +kernel
theorem dX5_readBring_27 : decode cX5_readBring 27 = .ok (.invokestatic 96, 3) := by decide +kernel
theorem dX5_readBring_30 : decode cX5_readBring 30 = .ok (.ifCond .eq 26, 3) := by decide +kernel
theorem dX5_readBring_33 : decode cX5_readBring 33 = .ok (.aload_n 1, 1) := by decide +kernel
theorem dX5_readBring_34 : decode cX5_readBring 34 = .ok (.iload_n 3, 1) := by decide +kernel
theorem dX5_readBring_35 : decode cX5_readBring 35 = .ok (.invokestatic 149, 3) := by decide +kernel
theorem dX5_readBring_38 : decode cX5_readBring 38 = .ok (.ifCond .eq 18, 3) := by decide +kernel
theorem dX5_readBring_41 : decode cX5_readBring 41 = .ok (.aload_n 1, 1) := by decide +kernel
theorem dX5_readBring_42 : decode cX5_readBring 42 = .ok (.iload_n 2, 1) := by decide +kernel
theorem dX5_readBring_43 : decode cX5_readBring 43 = .ok (.iload_n 3, 1) := by decide +kernel
theorem dX5_readBring_44 : decode cX5_readBring 44 = .ok (.iload 4, 2) := by decide +kernel
theorem dX5_readBring_46 : decode cX5_readBring 46 = .ok (.invokestatic 152, 3) := by decide +kernel
theorem dX5_readBring_49 : decode cX5_readBring 49 = .ok (.ifCond .lt 7, 3) := by decide +kernel
theorem dX5_readBring_52 : decode cX5_readBring 52 = .ok (.iconst 1, 1) := by decide +kernel
theorem dX5_readBring_53 : decode cX5_readBring 53 = .ok (.goto 4, 3) := by decide +kernel
theorem dX5_readBring_56 : decode cX5_readBring 56 = .ok (.iconst 0, 1) := by decide +kernel
theorem dX5_readBring_57 : decode cX5_readBring 57 = .ok (.invokevirtual 141, 3) := by decide +kernel
theorem dX5_readBring_60 : decode cX5_readBring 60 = .ok (.ifCond .eq 7, 3) := by decide +kernel
theorem dX5_readBring_63 : decode cX5_readBring 63 = .ok (.iconst 1, 1) := by decide +kernel
theorem dX5_readBring_64 : decode cX5_readBring 64 = .ok (.goto 4, 3) := by decide +kernel
theorem dX5_readBring_67 : decode cX5_readBring 67 = .ok (.iconst 0, 1) := by decide +kernel
theorem dX5_readBring_68 : decode cX5_readBring 68 = .ok (.ireturn, 1) := by decide +kernel
theorem dX5_readBound_0 : decode cX5_readBound 0 = .ok (.aload_n 0, 1) := by decide +kernel
theorem dX5_readBound_1 : decode cX5_readBound 1 = .ok (.iconst 0, 1) := by decide +kernel
theorem dX5_readBound_2 : decode cX5_readBound 2 = .ok (.invokevirtual 125, 3) := by decide +kernel
theorem dX5_readBound_5 : decode cX5_readBound 5 = .ok (.istore_n 2, 1) := by decide +kernel
theorem dX5_readBound_6 : decode cX5_readBound 6 = .ok (.aload_n 0, 1) := by decide +kernel
theorem dX5_readBound_7 : decode cX5_readBound 7 = .ok (.iload_n 2, 1) := by decide +kernel
theorem dX5_readBound_8 : decode cX5_readBound 8 = .ok (.invokevirtual 125, 3) := by decide +kernel
theorem dX5_readBound_11 : decode cX5_readBound 11 = .ok (.istore_n 3, 1) := by decide +kernel
theorem dX5_readBound_12 : decode cX5_readBound 12 = .ok (.aload_n 0, 1) := by decide +kernel
theorem dX5_readBound_13 : decode cX5_readBound 13 = .ok (.iload_n 3, 1) := by decide +kernel
theorem dX5_readBound_14 : decode cX5_readBound 14 = .ok (.bipush 100, 2) := by decide +kernel
theorem dX5_readBound_16 : decode cX5_readBound 16 = .ok (.iconst 0, 1) := by decide +kernel
theorem dX5_readBound_17 : decode cX5_readBound 17 = .ok (.sipush 900, 3) := by decide +kernel
theorem dX5_readBound_20 : decode cX5_readBound 20 = .ok (.invokevirtual 114, 3) := by decide +kernel
theorem dX5_readBound_23 : decode cX5_readBound 23 = .ok (.istore 4, 2) := by decide +kernel
theorem dX5_readBound_25 : decode cX5_readBound 25 = .ok (.iload 4, 2) := by decide +kernel
theorem dX5_readBound_27 : decode cX5_readBound 27 = .ok (.iconst (-1), 1) := by decide +kernel
theorem dX5_readBound_28 : decode cX5_readBound 28 = .ok (.if_icmp .eq 39, 3) := by decide +kernel
theorem dX5_readBound_31 : decode cX5_readBound 31 = .ok (.aload_n 0, 1) := by decide +kernel
theorem dX5_readBound_32 : decode cX5_readBound 32 = .ok (.iload_n 3, 1) := by decide +kernel
theorem dX5_readBound_33 : decode cX5_readBound 33 = .ok (.iload 4, 2) := by decide +kernel
theorem dX5_readBound_35 : decode cX5_readBound 35 = .ok (.invokestatic 155, 3) := by decide +kernel
theorem dX5_readBound_38 : decode cX5_readBound 38 = .ok (.ifCond .eq 18, 3) := by decide +kernel
theorem dX5_readBound_41 : decode cX5_readBound 41 = .ok (.aload_n 1, 1) := by decide +kernel
theorem dX5_readBound_42 : decode cX5_readBound 42 = .ok (.iload_n 2, 1) := by decide +kernel
theorem dX5_readBound_43 : decode cX5_readBound 43 = .ok (.iload_n 3, 1) := by decide +kernel
theorem dX5_readBound_44 : decode cX5_readBound 44 = .ok (.iload 4, 2) := by decide +kernel
theorem dX5_readBound_46 : decode cX5_readBound 46 = .ok (.invokestatic 159, 3) := by decide +kernel
theorem dX5_readBound_49 : decode cX5_readBound 49 = .ok (.ifCond .lt 7, 3) := by decide +kernel
theorem dX5_readBound_52 : decode cX5_readBound 52 = .ok (.iconst 1, 1) := by decide +kernel
theorem dX5_readBound_53 : decode cX5_readBound 53 = .ok (.goto 4, 3) := by decide +kernel
theorem dX5_readBound_56 : decode cX5_readBound 56 = .ok (.iconst 0, 1) := by decide +kernel
theorem dX5_readBound_57 : decode cX5_readBound 57 = .ok (.invokevirtual 141, 3) := by decide +kernel
theorem dX5_readBound_60 : decode cX5_readBound 60 = .ok (.ifCond .eq 7, 3) := by decide +kernel
theorem dX5_readBound_63 : decode cX5_readBound 63 = .ok (.iconst 1, 1) := by decide +kernel
theorem dX5_readBound_64 : decode cX5_readBound 64 = .ok (.goto 4, 3) := by decide +kernel
theorem dX5_readBound_67 : decode cX5_readBound 67 = .ok (.iconst 0, 1) := by decide +kernel
theorem dX5_readBound_68 : decode cX5_readBound 68 = .ok (.ireturn, 1) := by decide +kernel
theorem dX5_readCommand_0 : decode cX5_readCommand 0 = .ok (.aload_n 0, 1) := by decide +kernel
theorem dX5_readCommand_1 : decode cX5_readCommand 1 = .ok (.getfield 7, 3) := by decide +kernel
theorem dX5_readCommand_4 : decode cX5_readCommand 4 = .ok (.aload_n 0, 1) := by decide +kernel
theorem dX5_readCommand_5 : decode cX5_readCommand 5 = .ok (.getfield 109, 3) := by decide +kernel
theorem dX5_readCommand_8 : decode cX5_readCommand 8 = .ok (.iaload, 1) := by decide +kernel
theorem dX5_readCommand_9 : decode cX5_readCommand 9 = .ok (.istore_n 2, 1) := by decide +kernel
theorem dX5_readCommand_10 : decode cX5_readCommand 10 = .ok (.aload_n 0, 1) := by decide +kernel
theorem dX5_readCommand_11 : decode cX5_readCommand 11 = .ok (.dup, 1) := by decide +kernel
theorem dX5_readCommand_12 : decode cX5_readCommand 12 = .ok (.getfield 109, 3) := by decide +kernel
theorem dX5_readCommand_15 : decode cX5_readCommand 15 = .ok (.iconst 1, 1) := by decide +kernel
theorem dX5_readCommand_16 : decode cX5_readCommand 16 = .ok (.iadd, 1) := by decide +kernel
theorem dX5_readCommand_17 : decode cX5_readCommand 17 = .ok (.putfield 109, 3) := by decide +kernel
theorem dX5_readCommand_20 : decode cX5_readCommand 20 = .ok (.iload_n 2, 1) := by decide +kernel
theorem dX5_readCommand_21 : decode cX5_readCommand 21 = .ok (.tableswitch 304 98 119 #[188, 103, 304, 304, 182, 298, 165, 304, 304, 304, 304, 304, 304, 304, 304, 304, 304, 165, 194, 304, 304, 238], 103) := by decide +kernel
theorem dX5_readCommand_124 : decode cX5_readCommand 124 = .ok (.aload_n 0, 1) := by decide +kernel
theorem dX5_readCommand_125 : decode cX5_readCommand 125 = .ok (.iconst 0, 1) := by decide +kernel
theorem dX5_readCommand_126 : decode cX5_readCommand 126 = .ok (.invokevirtual 125, 3) := by decide +kernel
theorem dX5_readCommand_129 : decode cX5_readCommand 129 = .ok (.istore_n 3, 1) := by decide +kernel
theorem dX5_readCommand_130 : decode cX5_readCommand 130 = .ok (.aload_n 0, 1) := by decide +kernel
theorem dX5_readCommand_131 : decode cX5_readCommand 131 = .ok (.iload_n 3, 1) := by decide +kernel
theorem dX5_readCommand_132 : decode cX5_readCommand 132 = .ok (.bipush 100, 2) := by decide +kernel
theorem dX5_readCommand_134 : decode cX5_readCommand 134 = .ok (.bipush 100, 2) := by decide +kernel
theorem dX5_readCommand_136 : decode cX5_readCommand 136 = .ok (.sipush 900, 3) := by decide +kernel
theorem dX5_readCommand_139 : decode cX5_readCommand 139 = .ok (.invokevirtual 114, 3) := by decide +kernel
theorem dX5_readCommand_142 : decode cX5_readCommand 142 = .ok (.istore 4, 2) := by decide +kernel
theorem dX5_readCommand_144 : decode cX5_readCommand 144 = .ok (.iload 4, 2) := by decide +kernel
theorem dX5_readCommand_146 : decode cX5_readCommand 146 = .ok (.iconst (-1), 1) := by decide +kernel
theorem dX5_readCommand_147 : decode cX5_readCommand 147 = .ok (.if_icmp .eq 37, 3) := by decide +kernel
theorem dX5_readCommand_150 : decode cX5_readCommand 150 = .ok (.aload_n 0, 1) := by decide +kernel
theorem dX5_readCommand_151 : decode cX5_readCommand 151 = .ok (.aload_n 1, 1) := by decide +kernel
theorem dX5_readCommand_152 : decode cX5_readCommand 152 = .ok (.iconst 0, 1) := by decide +kernel
theorem dX5_readCommand_153 : decode cX5_readCommand 153 = .ok (.iaload, 1) := by decide +kernel
theorem dX5_readCommand_154 : decode cX5_readCommand 154 = .ok (.bipush 10, 2) := by decide +kernel
theorem dX5_readCommand_156 : decode cX5_readCommand 156 = .ok (.if_icmp .ge 17, 3) := by decide +kernel
theorem dX5_readCommand_159 : decode cX5_readCommand 159 = .ok (.aload_n 1, 1) := by decide +kernel
theorem dX5_readCommand_160 : decode cX5_readCommand 160 = .ok (.iload_n 3, 1) := by decide +kernel
theorem dX5_readCommand_161 : decode cX5_readCommand 161 = .ok (.iload 4, 2) := by decide +kernel
theorem dX5_readCommand_163 : decode cX5_readCommand 163 = .ok (.invokestatic 162, 3) := by decide +kernel
theorem dX5_readCommand_166 : decode cX5_readCommand 166 = .ok (.ifCond .lt 7, 3) := by decide +kernel
theorem dX5_readCommand_169 : decode cX5_readCommand 169 = .ok (.iconst 1, 1) := by decide +kernel
theorem dX5_readCommand_170 : decode cX5_readCommand 170 = .ok (.goto 4, 3) := by decide +kernel
theorem dX5_readCommand_173 : decode cX5_readCommand 173 = .ok (.iconst 0, 1) := by decide +kernel
theorem dX5_readCommand_174 : decode cX5_readCommand 174 = .ok (.invokevirtual 141, 3) := by decide +kernel
theorem dX5_readCommand_177 : decode cX5_readCommand 177 = .ok (.ifCond .eq 7, 3) := by decide +kernel
theorem dX5_readCommand_180 : decode cX5_readCommand 180 = .ok (.iconst 1, 1) := by decide +kernel
theorem dX5_readCommand_181 : decode cX5_readCommand 181 = .ok (.goto 4, 3) := by decide +kernel
theorem dX5_readCommand_184 : decode cX5_readCommand 184 = .ok (.iconst 0, 1) := by decide +kernel
theorem dX5_readCommand_185 : decode cX5_readCommand 185 = .ok (.ireturn, 1) := by decide +kernel
theorem dX5_readCommand_186 : decode cX5_readCommand 186 = .ok (.aload_n 0, 1) := by decide +kernel
theorem dX5_readCommand_187 : decode cX5_readCommand 187 = .ok (.aload_n 1, 1) := by decide +kernel
theorem dX5_readCommand_188 : decode cX5_readCommand 188 = .ok (.iload_n 2, 1) := by decide +kernel
theorem dX5_readCommand_189 : decode cX5_readCommand 189 = .ok (.bipush 115, 2) := by decide +kernel
theorem dX5_readCommand_191 : decode cX5_readCommand 191 = .ok (.if_icmp .ne 7, 3) := by decide +kernel
theorem dX5_readCommand_194 : decode cX5_readCommand 194 = .ok (.iconst 1, 1) := by decide +kernel
theorem dX5_readCommand_195 : decode cX5_readCommand 195 = .ok (.goto 4, 3) := by decide +kernel
theorem dX5_readCommand_198 : decode cX5_readCommand 198 = .ok (.iconst 0, 1) := by decide +kernel
theorem dX5_readCommand_199 : decode cX5_readCommand 199 = .ok (.invokevirtual 165, 3) := by decide +kernel
theorem dX5_readCommand_202 : decode cX5_readCommand 202 = .ok (.ireturn, 1) := by decide +kernel
theorem dX5_readCommand_203 : decode cX5_readCommand 203 = .ok (.aload_n 0, 1) := by decide +kernel
theorem dX5_readCommand_204 : decode cX5_readCommand 204 = .ok (.aload_n 1, 1) := by decide +kernel
theorem dX5_readCommand_205 : decode cX5_readCommand 205 = .ok (.invokevirtual 169, 3) := by decide +kernel
theorem dX5_readCommand_208 : decode cX5_readCommand 208 = .ok (.ireturn, 1) := by decide +kernel
theorem dX5_readCommand_209 : decode cX5_readCommand 209 = .ok (.aload_n 0, 1) := by decide +kernel
theorem dX5_readCommand_210 : decode cX5_readCommand 210 = .ok (.aload_n 1, 1) := by decide +kernel
theorem dX5_readCommand_211 : decode cX5_readCommand 211 = .ok (.invokevirtual 173, 3) := by decide +kernel
theorem dX5_readCommand_214 : decode cX5_readCommand 214 = .ok (.ireturn, 1) := by decide +kernel
theorem dX5_readCommand_215 : decode cX5_readCommand 215 = .ok (.aload_n 0, 1) := by decide +kernel
theorem dX5_readCommand_216 : decode cX5_readCommand 216 = .ok (.invokevirtual 121, 3) := by decide +kernel
theorem dX5_readCommand_219 : decode cX5_readCommand 219 = .ok (.istore_n 3, 1) := by decide +kernel
theorem dX5_readCommand_220 : decode cX5_readCommand 220 = .ok (.iload_n 3, 1) := by decide +kernel
theorem dX5_readCommand_221 : decode cX5_readCommand 221 = .ok (.iconst (-1), 1) := by decide +kernel
theorem dX5_readCommand_222 : decode cX5_readCommand 222 = .ok (.if_icmp .eq 35, 3) := by decide +kernel
theorem dX5_readCommand_225 : decode cX5_readCommand 225 = .ok (.aload_n 0, 1) := by decide +kernel
theorem dX5_readCommand_226 : decode cX5_readCommand 226 = .ok (.aload_n 1, 1) := by decide +kernel
theorem dX5_readCommand_227 : decode cX5_readCommand 227 = .ok (.iload_n 3, 1) := by decide +kernel
theorem dX5_readCommand_228 : decode cX5_readCommand 228 = .ok (.invokestatic 96, 3) := by decide +kernel
theorem dX5_readCommand_231 : decode cX5_readCommand 231 = .ok (.ifCond .eq 15, 3) := by decide +kernel
theorem dX5_readCommand_234 : decode cX5_readCommand 234 = .ok (.aload_n 1, 1) := by decide +kernel
theorem dX5_readCommand_235 : decode cX5_readCommand 235 = .ok (.iload_n 3, 1) := by decide +kernel
theorem dX5_readCommand_236 : decode cX5_readCommand 236 = .ok (.invokestatic 176, 3) := by decide +kernel
theorem dX5_readCommand_239 : decode cX5_readCommand 239 = .ok (.ifCond .lt 7, 3) := by decide +kernel
theorem dX5_readCommand_242 : decode cX5_readCommand 242 = .ok (.iconst 1, 1) := by decide +kernel
theorem dX5_readCommand_243 : decode cX5_readCommand 243 = .ok (.goto 4, 3) := by decide +kernel
theorem dX5_readCommand_246 : decode cX5_readCommand 246 = .ok (.iconst 0, 1) := by decide +kernel
theorem dX5_readCommand_247 : decode cX5_readCommand 247 = .ok (.invokevirtual 141, 3) := by decide +kernel
theorem dX5_readCommand_250 : decode cX5_readCommand 250 = .ok (.ifCond .eq 7, 3) := by decide +kernel
theorem dX5_readCommand_253 : decode cX5_readCommand 253 = .ok (.iconst 1, 1) := by decide +kernel
theorem dX5_readCommand_254 : decode cX5_readCommand 254 = .ok (.goto 4, 3) := by decide +kernel
theorem dX5_readCommand_257 : decode cX5_readCommand 257 = .ok (.iconst 0, 1) := by decide +kernel
theorem dX5_readCommand_258 : decode cX5_readCommand 258 = .ok (.ireturn, 1) := by decide +kernel
theorem dX5_readCommand_259 : decode cX5_readCommand 259 = .ok (.aload_n 0, 1) := by decide +kernel
theorem dX5_readCommand_260 : decode cX5_readCommand 260 = .ok (.invokevirtual 121, 3) := by decide +kernel
theorem dX5_readCommand_263 : decode cX5_readCommand 263 = .ok (.istore_n 3, 1) := by decide +kernel
theorem dX5_readCommand_264 : decode cX5_readCommand 264 = .ok (.aload_n 0, 1) := by decide +kernel
theorem dX5_readCommand_265 : decode cX5_readCommand 265 = .ok (.iload_n 3, 1) := by decide +kernel
theorem dX5_readCommand_266 : decode cX5_readCommand 266 = .ok (.bipush 100, 2) := by decide +kernel
theorem dX5_readCommand_268 : decode cX5_readCommand 268 = .ok (.iconst 1, 1) := by decide +kernel
theorem dX5_readCommand_269 : decode cX5_readCommand 269 = .ok (.sipush 200, 3) := by decide +kernel
theorem dX5_readCommand_272 : decode cX5_readCommand 272 = .ok (.invokevirtual 114, 3) := by decide +kernel
theorem dX5_readCommand_275 : decode cX5_readCommand 275 = .ok (.istore 4, 2) := by decide +kernel
theorem dX5_readCommand_277 : decode cX5_readCommand 277 = .ok (.iload 4, 2) := by decide +kernel
theorem dX5_readCommand_279 : decode cX5_readCommand 279 = .ok (.iconst (-1), 1) := by decide +kernel
theorem dX5_readCommand_280 : decode cX5_readCommand 280 = .ok (.if_icmp .eq 37, 3) := by decide +kernel
theorem dX5_readCommand_283 : decode cX5_readCommand 283 = .ok (.aload_n 0, 1) := by decide +kernel
theorem dX5_readCommand_284 : decode cX5_readCommand 284 = .ok (.aload_n 1, 1) := by decide +kernel
theorem dX5_readCommand_285 : decode cX5_readCommand 285 = .ok (.iload_n 3, 1) := by decide +kernel
theorem dX5_readCommand_286 : decode cX5_readCommand 286 = .ok (.invokestatic 96, 3) := by decide +kernel
theorem dX5_readCommand_289 : decode cX5_readCommand 289 = .ok (.ifCond .eq 17, 3) := by decide +kernel
theorem dX5_readCommand_292 : decode cX5_readCommand 292 = .ok (.aload_n 1, 1) := by decide +kernel
theorem dX5_readCommand_293 : decode cX5_readCommand 293 = .ok (.iload_n 3, 1) := by decide +kernel
theorem dX5_readCommand_294 : decode cX5_readCommand 294 = .ok (.iload 4, 2) := by decide +kernel
theorem dX5_readCommand_296 : decode cX5_readCommand 296 = .ok (.invokestatic 179, 3) := by decide +kernel
theorem dX5_readCommand_299 : decode cX5_readCommand 299 = .ok (.ifCond .lt 7, 3) := by decide +kernel
theorem dX5_readCommand_302 : decode cX5_readCommand 302 = .ok (.iconst 1, 1) := by decide +kernel
theorem dX5_readCommand_303 : decode cX5_readCommand 303 = .ok (.goto 4, 3) := by decide +kernel
theorem dX5_readCommand_306 : decode cX5_readCommand 306 = .ok (.iconst 0, 1) := by decide +kernel
theorem dX5_readCommand_307 : decode cX5_readCommand 307 = .ok (.invokevirtual 141, 3) := by decide +kernel
theorem dX5_readCommand_310 : decode cX5_readCommand 310 = .ok (.ifCond .eq 7, 3) := by decide +kernel
theorem dX5_readCommand_313 : decode cX5_readCommand 313 = .ok (.iconst 1, 1) := by decide +kernel
theorem dX5_readCommand_314 : decode cX5_readCommand 314 = .ok (.goto 4, 3) := by decide +kernel
theorem dX5_readCommand_317 : decode cX5_readCommand 317 = .ok (.iconst 0, 1) := by decide +kernel
theorem dX5_readCommand_318 : decode cX5_readCommand 318 = .ok (.ireturn, 1) := by decide +kernel
theorem dX5_readCommand_319 : decode cX5_readCommand 319 = .ok (.aload_n 0, 1) := by decide +kernel
theorem dX5_readCommand_320 : decode cX5_readCommand 320 = .ok (.aload_n 1, 1) := by decide +kernel
theorem dX5_readCommand_321 : decode cX5_readCommand 321 = .ok (.invokevirtual 182, 3) := by decide +kernel
theorem dX5_readCommand_324 : decode cX5_readCommand 324 = .ok (.ireturn, 1) := by decide +kernel
theorem dX5_readCommand_325 : decode cX5_readCommand 325 = .ok (.aload_n 0, 1) := by decide +kernel
theorem dX5_readCommand_326 : decode cX5_readCommand 326 = .ok (.dup, 1) := by decide +kernel
theorem dX5_readCommand_327 : decode cX5_readCommand 327 = .ok (.getfield 109, 3) := by decide +kernel
theorem dX5_readCommand_330 : decode cX5_readCommand 330 = .ok (.iconst 1, 1) := by decide +kernel
theorem dX5_readCommand_331 : decode cX5_readCommand 331 = .ok (.isub, 1) := by decide +kernel
theorem dX5_readCommand_332 : decode cX5_readCommand 332 = .ok (.putfield 109, 3) := by decide +kernel
theorem dX5_readCommand_335 : decode cX5_readCommand 335 = .ok (.iconst 0, 1) := by decide +kernel
theorem dX5_readCommand_336 : decode cX5_readCommand 336 = .ok (.ireturn, 1) := by decide +kernel
theorem dX5_readText_0 : decode cX5_readText 0 = .ok (.aload_n 1, 1) := by decide +kernel
theorem dX5_readText_1 : decode cX5_readText 1 = .ok (.invokestatic 29, 3) := by decide +kernel
theorem dX5_readText_4 : decode cX5_readText 4 = .ok (.aload_n 0, 1) := by decide +kernel
theorem dX5_readText_5 : decode cX5_readText 5 = .ok (.iconst 0, 1) := by decide +kernel
theorem dX5_readText_6 : decode cX5_readText 6 = .ok (.putfield 118, 3) := by decide +kernel
theorem dX5_readText_9 : decode cX5_readText 9 = .ok (.aload_n 0, 1) := by decide +kernel
theorem dX5_readText_10 : decode cX5_readText 10 = .ok (.iconst 0, 1) := by decide +kernel
theorem dX5_readText_11 : decode cX5_readText 11 = .ok (.putfield 109, 3) := by decide +kernel
theorem dX5_readText_14 : decode cX5_readText 14 = .ok (.aload_n 0, 1) := by decide +kernel
theorem dX5_readText_15 : decode cX5_readText 15 = .ok (.getfield 102, 3) := by decide +kernel
theorem dX5_readText_18 : decode cX5_readText 18 = .ok (.ifCond .eq 14, 3) := by decide +kernel
theorem dX5_readText_21 : decode cX5_readText 21 = .ok (.aload_n 0, 1) := by decide +kernel
theorem dX5_readText_22 : decode cX5_readText 22 = .ok (.getfield 7, 3) := by decide +kernel
theorem dX5_readText_25 : decode cX5_readText 25 = .ok (.iconst 0, 1) := by decide +kernel
theorem dX5_readText_26 : decode cX5_readText 26 = .ok (.iaload, 1) := by decide +kernel
theorem dX5_readText_27 : decode cX5_readText 27 = .ok (.bipush 75, 2) := by decide +kernel
theorem dX5_readText_29 : decode cX5_readText 29 = .ok (.if_icmp .eq 5, 3) := by decide +kernel
theorem dX5_readText_32 : decode cX5_readText 32 = .ok (.iconst 0, 1) := by decide +kernel
theorem dX5_readText_33 : decode cX5_readText 33 = .ok (.ireturn, 1) := by decide +kernel
theorem dX5_readText_34 : decode cX5_readText 34 = .ok (.aload_n 0, 1) := by decide +kernel
theorem dX5_readText_35 : decode cX5_readText 35 = .ok (.iconst 1, 1) := by decide +kernel
theorem dX5_readText_36 : decode cX5_readText 36 = .ok (.putfield 109, 3) := by decide +kernel
theorem dX5_readText_39 : decode cX5_readText 39 = .ok (.aload_n 0, 1) := by decide +kernel
theorem dX5_readText_40 : decode cX5_readText 40 = .ok (.getfield 109, 3) := by decide +kernel
theorem dX5_readText_43 : decode cX5_readText 43 = .ok (.aload_n 0, 1) := by decide +kernel
theorem dX5_readText_44 : decode cX5_readText 44 = .ok (.getfield 102, 3) := by decide +kernel
theorem dX5_readText_47 : decode cX5_readText 47 = .ok (.if_icmp .ge 16, 3) := by decide +kernel
theorem dX5_readText_50 : decode cX5_readText 50 = .ok (.aload_n 0, 1) := by decide +kernel
theorem dX5_readText_51 : decode cX5_readText 51 = .ok (.aload_n 1, 1) := by decide +kernel
theorem dX5_readText_52 : decode cX5_readText 52 = .ok (.invokevirtual 185, 3) := by decide +kernel
theorem dX5_readText_55 : decode cX5_readText 55 = .ok (.ifCond .ne (-16), 3) := by decide +kernel
theorem dX5_readText_58 : decode cX5_readText 58 = .ok (.aload_n 0, 1) := by decide +kernel
theorem dX5_readText_59 : decode cX5_readText 59 = .ok (.getfield 109, 3) := by decide +kernel
theorem dX5_readText_62 : decode cX5_readText 62 = .ok (.ireturn, 1) := by decide +kernel
theorem dX5_readText_63 : decode cX5_readText 63 = .ok (.iconst (-1), 1) := by decide +kernel
theorem dX5_readText_64 : decode cX5_readText 64 = .ok (.ireturn, 1) := by decide +kernel
theorem dX5_errorPosition_0 : decode cX5_errorPosition 0 = .ok (.aload_n 0, 1) := by decide +kernel
theorem dX5_errorPosition_1 : decode cX5_errorPosition 1 = .ok (.iconst 0, 1) := by decide +kernel
theorem dX5_errorPosition_2 : decode cX5_errorPosition 2 = .ok (.putfield 33, 3) := by decide +kernel
theorem dX5_errorPosition_5 : decode cX5_errorPosition 5 = .ok (.aload_n 0, 1) := by decide +kernel
theorem dX5_errorPosition_6 : decode cX5_errorPosition 6 = .ok (.aload_n 0, 1) := by decide +kernel
theorem dX5_errorPosition_7 : decode cX5_errorPosition 7 = .ok (.getfield 16, 3) := by decide +kernel
theorem dX5_errorPosition_10 : decode cX5_errorPosition 10 = .ok (.invokevirtual 188, 3) := by decide +kernel
theorem dX5_errorPosition_13 : decode cX5_errorPosition 13 = .ok (.ireturn, 1) := by decide +kernel
theorem dX5_load_0 : decode cX5_load 0 = .ok (.aload_n 0, 1) := by decide +kernel
theorem dX5_load_1 : decode cX5_load 1 = .ok (.aload_n 0, 1) := by decide +kernel
theorem dX5_load_2 : decode cX5_load 2 = .ok (.aload_n 0, 1) := by decide +kernel
theorem dX5_load_3 : decode cX5_load 3 = .ok (.getfield 16, 3) := by decide +kernel
theorem dX5_load_6 : decode cX5_load 6 = .ok (.invokevirtual 188, 3) := by decide +kernel
theorem dX5_load_9 : decode cX5_load 9 = .ok (.iconst (-1), 1) := by decide +kernel
theorem dX5_load_10 : decode cX5_load 10 = .ok (.if_icmp .ne 7, 3) := by decide +kernel
theorem dX5_load_13 : decode cX5_load 13 = .ok (.iconst 0, 1) := by decide +kernel
theorem dX5_load_14 : decode cX5_load 14 = .ok (.goto 4, 3) := by decide +kernel
theorem dX5_load_17 : decode cX5_load 17 = .ok (.iconst 1, 1) := by decide +kernel
theorem dX5_load_18 : decode cX5_load 18 = .ok (.invokevirtual 105, 3) := by decide +kernel
theorem dX5_load_21 : decode cX5_load 21 = .ok (.ifCond .eq 5, 3) := by decide +kernel
theorem dX5_load_24 : decode cX5_load 24 = .ok (.iconst 0, 1) := by decide +kernel
theorem dX5_load_25 : decode cX5_load 25 = .ok (.ireturn, 1) := by decide +kernel
theorem dX5_load_26 : decode cX5_load 26 = .ok (.aload_n 0, 1) := by decide +kernel
theorem dX5_load_27 : decode cX5_load 27 = .ok (.getfield 16, 3) := by decide +kernel
theorem dX5_load_30 : decode cX5_load 30 = .ok (.iconst 0, 1) := by decide +kernel
theorem dX5_load_31 : decode cX5_load 31 = .ok (.aload_n 0, 1) := by decide +kernel
theorem dX5_load_32 : decode cX5_load 32 = .ok (.getfield 13, 3) := by decide +kernel
theorem dX5_load_35 : decode cX5_load 35 = .ok (.iconst 0, 1) := by decide +kernel
theorem dX5_load_36 : decode cX5_load 36 = .ok (.invokestatic 192, 3) := by decide +kernel
theorem dX5_load_39 : decode cX5_load 39 = .ok (.aload_n 0, 1) := by decide +kernel
theorem dX5_load_40 : decode cX5_load 40 = .ok (.iconst 0, 1) := by decide +kernel
theorem dX5_load_41 : decode cX5_load 41 = .ok (.putfield 196, 3) := by decide +kernel
theorem dX5_load_44 : decode cX5_load 44 = .ok (.aload_n 0, 1) := by decide +kernel
theorem dX5_load_45 : decode cX5_load 45 = .ok (.getfield 25, 3) := by decide +kernel
theorem dX5_load_48 : decode cX5_load 48 = .ok (.iconst 0, 1) := by decide +kernel
theorem dX5_load_49 : decode cX5_load 49 = .ok (.iconst 0, 1) := by decide +kernel
theorem dX5_load_50 : decode cX5_load 50 = .ok (.bastore, 1) := by decide +kernel
theorem dX5_load_51 : decode cX5_load 51 = .ok (.aload_n 0, 1) := by decide +kernel
theorem dX5_load_52 : decode cX5_load 52 = .ok (.getfield 25, 3) := by decide +kernel
theorem dX5_load_55 : decode cX5_load 55 = .ok (.iconst 1, 1) := by decide +kernel
theorem dX5_load_56 : decode cX5_load 56 = .ok (.iconst 0, 1) := by decide +kernel
theorem dX5_load_57 : decode cX5_load 57 = .ok (.bastore, 1) := by decide +kernel
theorem dX5_load_58 : decode cX5_load 58 = .ok (.aload_n 0, 1) := by decide +kernel
theorem dX5_load_59 : decode cX5_load 59 = .ok (.getfield 118, 3) := by decide +kernel
theorem dX5_load_62 : decode cX5_load 62 = .ok (.ireturn, 1) := by decide +kernel
theorem dX5_about_0 : decode cX5_about 0 = .ok (.aload_n 0, 1) := by decide +kernel
theorem dX5_about_1 : decode cX5_about 1 = .ok (.iload_n 1, 1) := by decide +kernel
theorem dX5_about_2 : decode cX5_about 2 = .ok (.i2l, 1) := by decide +kernel
theorem dX5_about_3 : decode cX5_about 3 = .ok (.lconst 0, 1) := by decide +kernel
theorem dX5_about_4 : decode cX5_about 4 = .ok (.ldc2_w 199, 3) := by decide +kernel
theorem dX5_about_7 : decode cX5_about 7 = .ok (.invokestatic 37, 3) := by decide +kernel
theorem dX5_about_10 : decode cX5_about 10 = .ok (.ifCond .eq 7, 3) := by decide +kernel
theorem dX5_about_13 : decode cX5_about 13 = .ok (.iconst 0, 1) := by decide +kernel
theorem dX5_about_14 : decode cX5_about 14 = .ok (.goto 4, 3) := by decide +kernel
theorem dX5_about_17 : decode cX5_about 17 = .ok (.iconst 1, 1) := by decide +kernel
theorem dX5_about_18 : decode cX5_about 18 = .ok (.invokevirtual 105, 3) := by decide +kernel
theorem dX5_about_21 : decode cX5_about 21 = .ok (.ifCond .eq 5, 3) := by decide +kernel
theorem dX5_about_24 : decode cX5_about 24 = .ok (.iconst 0, 1) := by decide +kernel
theorem dX5_about_25 : decode cX5_about 25 = .ok (.ireturn, 1) := by decide +kernel
theorem dX5_about_26 : decode cX5_about 26 = .ok (.iload_n 1, 1) := by decide +kernel
theorem dX5_about_27 : decode cX5_about 27 = .ok (.iconst 2, 1) := by decide +kernel
theorem dX5_about_28 : decode cX5_about 28 = .ok (.if_icmp .ge 12, 3) := by decide +kernel
theorem dX5_about_31 : decode cX5_about 31 = .ok (.aload_n 0, 1) := by decide +kernel
theorem dX5_about_32 : decode cX5_about 32 = .ok (.getfield 13, 3) := by decide +kernel
theorem dX5_about_35 : decode cX5_about 35 = .ok (.iload_n 1, 1) := by decide +kernel
theorem dX5_about_36 : decode cX5_about 36 = .ok (.iaload, 1) := by decide +kernel
theorem dX5_about_37 : decode cX5_about 37 = .ok (.goto 26, 3) := by decide +kernel
theorem dX5_about_40 : decode cX5_about 40 = .ok (.iload_n 1, 1) := by decide +kernel
theorem dX5_about_41 : decode cX5_about 41 = .ok (.iconst 2, 1) := by decide +kernel
theorem dX5_about_42 : decode cX5_about 42 = .ok (.if_icmp .ne 13, 3) := by decide +kernel
theorem dX5_about_45 : decode cX5_about 45 = .ok (.aload_n 0, 1) := by decide +kernel
theorem dX5_about_46 : decode cX5_about 46 = .ok (.getfield 13, 3) := by decide +kernel
theorem dX5_about_49 : decode cX5_about 49 = .ok (.invokestatic 201, 3) := by decide +kernel
theorem dX5_about_52 : decode cX5_about 52 = .ok (.goto 11, 3) := by decide +kernel
theorem dX5_about_55 : decode cX5_about 55 = .ok (.aload_n 0, 1) := by decide +kernel
theorem dX5_about_56 : decode cX5_about 56 = .ok (.getfield 13, 3) := by decide +kernel
theorem dX5_about_59 : decode cX5_about 59 = .ok (.iload_n 1, 1) := by decide +kernel
theorem dX5_about_60 : decode cX5_about 60 = .ok (.iconst 1, 1) := by decide +kernel
theorem dX5_about_61 : decode cX5_about 61 = .ok (.isub, 1) := by decide +kernel
theorem dX5_about_62 : decode cX5_about 62 = .ok (.iaload, 1) := by decide +kernel
theorem dX5_about_63 : decode cX5_about 63 = .ok (.ireturn, 1) := by decide +kernel
theorem dX5_chairOf_0 : decode cX5_chairOf 0 = .ok (.aload_n 0, 1) := by decide +kernel
theorem dX5_chairOf_1 : decode cX5_chairOf 1 = .ok (.aload_n 0, 1) := by decide +kernel
theorem dX5_chairOf_2 : decode cX5_chairOf 2 = .ok (.getfield 13, 3) := by decide +kernel
theorem dX5_chairOf_5 : decode cX5_chairOf 5 = .ok (.iload_n 1, 1) := by decide +kernel
theorem dX5_chairOf_6 : decode cX5_chairOf 6 = .ok (.invokestatic 96, 3) := by decide +kernel
theorem dX5_chairOf_9 : decode cX5_chairOf 9 = .ok (.ifCond .ne 7, 3) := by decide +kernel
theorem dX5_chairOf_12 : decode cX5_chairOf 12 = .ok (.iconst 1, 1) := by decide +kernel
theorem dX5_chairOf_13 : decode cX5_chairOf 13 = .ok (.goto 20, 3) := by decide +kernel
theorem dX5_chairOf_16 : decode cX5_chairOf 16 = .ok (.iload_n 2, 1) := by decide +kernel
theorem dX5_chairOf_17 : decode cX5_chairOf 17 = .ok (.i2l, 1) := by decide +kernel
theorem dX5_chairOf_18 : decode cX5_chairOf 18 = .ok (.lconst 0, 1) := by decide +kernel
theorem dX5_chairOf_19 : decode cX5_chairOf 19 = .ok (.ldc2_w 204, 3) := by decide +kernel
theorem dX5_chairOf_22 : decode cX5_chairOf 22 = .ok (.invokestatic 37, 3) := by decide +kernel
theorem dX5_chairOf_25 : decode cX5_chairOf 25 = .ok (.ifCond .eq 7, 3) := by decide +kernel
theorem dX5_chairOf_28 : decode cX5_chairOf 28 = .ok (.iconst 0, 1) := by decide +kernel
theorem dX5_chairOf_29 : decode cX5_chairOf 29 = .ok (.goto 4, 3) := by decide +kernel
theorem dX5_chairOf_32 : decode cX5_chairOf 32 = .ok (.iconst 2, 1) := by decide +kernel
theorem dX5_chairOf_33 : decode cX5_chairOf 33 = .ok (.invokevirtual 105, 3) := by decide +kernel
theorem dX5_chairOf_36 : decode cX5_chairOf 36 = .ok (.ifCond .eq 5, 3) := by decide +kernel
theorem dX5_chairOf_39 : decode cX5_chairOf 39 = .ok (.iconst 0, 1) := by decide +kernel
theorem dX5_chairOf_40 : decode cX5_chairOf 40 = .ok (.ireturn, 1) := by decide +kernel
theorem dX5_chairOf_41 : decode cX5_chairOf 41 = .ok (.iload_n 2, 1) := by decide +kernel
theorem dX5_chairOf_42 : decode cX5_chairOf 42 = .ok (.tableswitch 94 3 8 #[38, 47, 56, 65, 75, 84], 38) := by decide +kernel
theorem dX5_chairOf_80 : decode cX5_chairOf 80 = .ok (.aload_n 0, 1) := by decide +kernel
theorem dX5_chairOf_81 : decode cX5_chairOf 81 = .ok (.getfield 13, 3) := by decide +kernel
theorem dX5_chairOf_84 : decode cX5_chairOf 84 = .ok (.iload_n 1, 1) := by decide +kernel
theorem dX5_chairOf_85 : decode cX5_chairOf 85 = .ok (.invokestatic 72, 3) := by decide +kernel
theorem dX5_chairOf_88 : decode cX5_chairOf 88 = .ok (.ireturn, 1) := by decide +kernel
theorem dX5_chairOf_89 : decode cX5_chairOf 89 = .ok (.aload_n 0, 1) := by decide +kernel
theorem dX5_chairOf_90 : decode cX5_chairOf 90 = .ok (.getfield 13, 3) := by decide +kernel
theorem dX5_chairOf_93 : decode cX5_chairOf 93 = .ok (.iload_n 1, 1) := by decide +kernel
theorem dX5_chairOf_94 : decode cX5_chairOf 94 = .ok (.invokestatic 75, 3) := by decide +kernel
theorem dX5_chairOf_97 : decode cX5_chairOf 97 = .ok (.ireturn, 1) := by decide +kernel
theorem dX5_chairOf_98 : decode cX5_chairOf 98 = .ok (.aload_n 0, 1) := by decide +kernel
theorem dX5_chairOf_99 : decode cX5_chairOf 99 = .ok (.getfield 13, 3) := by decide +kernel
theorem dX5_chairOf_102 : decode cX5_chairOf 102 = .ok (.iload_n 1, 1) := by decide +kernel
theorem dX5_chairOf_103 : decode cX5_chairOf 103 = .ok (.invokestatic 93, 3) := by decide +kernel
theorem dX5_chairOf_106 : decode cX5_chairOf 106 = .ok (.ireturn, 1) := by decide +kernel
theorem dX5_chairOf_107 : decode cX5_chairOf 107 = .ok (.aload_n 0, 1) := by decide +kernel
theorem dX5_chairOf_108 : decode cX5_chairOf 108 = .ok (.getfield 13, 3) := by decide +kernel
theorem dX5_chairOf_111 : decode cX5_chairOf 111 = .ok (.iload_n 1, 1) := by decide +kernel
theorem dX5_chairOf_112 : decode cX5_chairOf 112 = .ok (.iconst 3, 1) := by decide +kernel
theorem dX5_chairOf_113 : decode cX5_chairOf 113 = .ok (.invokestatic 51, 3) := by decide +kernel
theorem dX5_chairOf_116 : decode cX5_chairOf 116 = .ok (.ireturn, 1) := by decide +kernel
theorem dX5_chairOf_117 : decode cX5_chairOf 117 = .ok (.aload_n 0, 1) := by decide +kernel
theorem dX5_chairOf_118 : decode cX5_chairOf 118 = .ok (.getfield 13, 3) := by decide +kernel
theorem dX5_chairOf_121 : decode cX5_chairOf 121 = .ok (.iload_n 1, 1) := by decide +kernel
theorem dX5_chairOf_122 : decode cX5_chairOf 122 = .ok (.invokestatic 90, 3) := by decide +kernel
theorem dX5_chairOf_125 : decode cX5_chairOf 125 = .ok (.ireturn, 1) := by decide +kernel
theorem dX5_chairOf_126 : decode cX5_chairOf 126 = .ok (.aload_n 0, 1) := by decide +kernel
theorem dX5_chairOf_127 : decode cX5_chairOf 127 = .ok (.getfield 13, 3) := by decide +kernel
theorem dX5_chairOf_130 : decode cX5_chairOf 130 = .ok (.iload_n 1, 1) := by decide +kernel
theorem dX5_chairOf_131 : decode cX5_chairOf 131 = .ok (.iconst 4, 1) := by decide +kernel
theorem dX5_chairOf_132 : decode cX5_chairOf 132 = .ok (.invokestatic 51, 3) := by decide +kernel
theorem dX5_chairOf_135 : decode cX5_chairOf 135 = .ok (.ireturn, 1) := by decide +kernel
theorem dX5_chairOf_136 : decode cX5_chairOf 136 = .ok (.aload_n 0, 1) := by decide +kernel
theorem dX5_chairOf_137 : decode cX5_chairOf 137 = .ok (.getfield 13, 3) := by decide +kernel
theorem dX5_chairOf_140 : decode cX5_chairOf 140 = .ok (.iload_n 1, 1) := by decide +kernel
theorem dX5_chairOf_141 : decode cX5_chairOf 141 = .ok (.iload_n 2, 1) := by decide +kernel
theorem dX5_chairOf_142 : decode cX5_chairOf 142 = .ok (.invokestatic 51, 3) := by decide +kernel
theorem dX5_chairOf_145 : decode cX5_chairOf 145 = .ok (.ireturn, 1) := by decide +kernel
theorem dX5_wobble_0 : decode cX5_wobble 0 = .ok (.aload_n 0, 1) := by decide +kernel
theorem dX5_wobble_1 : decode cX5_wobble 1 = .ok (.aload_n 0, 1) := by decide +kernel
theorem dX5_wobble_2 : decode cX5_wobble 2 = .ok (.getfield 13, 3) := by decide +kernel
theorem dX5_wobble_5 : decode cX5_wobble 5 = .ok (.iload_n 1, 1) := by decide +kernel
theorem dX5_wobble_6 : decode cX5_wobble 6 = .ok (.invokestatic 96, 3) := by decide +kernel
theorem dX5_wobble_9 : decode cX5_wobble 9 = .ok (.ifCond .ne 7, 3) := by decide +kernel
theorem dX5_wobble_12 : decode cX5_wobble 12 = .ok (.iconst 1, 1) := by decide +kernel
theorem dX5_wobble_13 : decode cX5_wobble 13 = .ok (.goto 18, 3) := by decide +kernel
theorem dX5_wobble_16 : decode cX5_wobble 16 = .ok (.iload_n 2, 1) := by decide +kernel
theorem dX5_wobble_17 : decode cX5_wobble 17 = .ok (.i2l, 1) := by decide +kernel
theorem dX5_wobble_18 : decode cX5_wobble 18 = .ok (.lconst 0, 1) := by decide +kernel
theorem dX5_wobble_19 : decode cX5_wobble 19 = .ok (.lconst 1, 1) := by decide +kernel
theorem dX5_wobble_20 : decode cX5_wobble 20 = .ok (.invokestatic 37, 3) := by decide +kernel
theorem dX5_wobble_23 : decode cX5_wobble 23 = .ok (.ifCond .eq 7, 3) := by decide +kernel
theorem dX5_wobble_26 : decode cX5_wobble 26 = .ok (.iconst 0, 1) := by decide +kernel
theorem dX5_wobble_27 : decode cX5_wobble 27 = .ok (.goto 4, 3) := by decide +kernel
theorem dX5_wobble_30 : decode cX5_wobble 30 = .ok (.iconst 2, 1) := by decide +kernel
theorem dX5_wobble_31 : decode cX5_wobble 31 = .ok (.invokevirtual 105, 3) := by decide +kernel
theorem dX5_wobble_34 : decode cX5_wobble 34 = .ok (.ifCond .eq 5, 3) := by decide +kernel
theorem dX5_wobble_37 : decode cX5_wobble 37 = .ok (.iconst 0, 1) := by decide +kernel
theorem dX5_wobble_38 : decode cX5_wobble 38 = .ok (.ireturn, 1) := by decide +kernel
theorem dX5_wobble_39 : decode cX5_wobble 39 = .ok (.aload_n 0, 1) := by decide +kernel
theorem dX5_wobble_40 : decode cX5_wobble 40 = .ok (.getfield 13, 3) := by decide +kernel
theorem dX5_wobble_43 : decode cX5_wobble 43 = .ok (.iload_n 1, 1) := by decide +kernel
theorem dX5_wobble_44 : decode cX5_wobble 44 = .ok (.invokestatic 69, 3) := by decide +kernel
theorem dX5_wobble_47 : decode cX5_wobble 47 = .ok (.ireturn, 1) := by decide +kernel
theorem dX5_legOf_0 : decode cX5_legOf 0 = .ok (.aload_n 0, 1) := by decide +kernel
theorem dX5_legOf_1 : decode cX5_legOf 1 = .ok (.aload_n 0, 1) := by decide +kernel
theorem dX5_legOf_2 : decode cX5_legOf 2 = .ok (.getfield 13, 3) := by decide +kernel
theorem dX5_legOf_5 : decode cX5_legOf 5 = .ok (.iload_n 1, 1) := by decide +kernel
theorem dX5_legOf_6 : decode cX5_legOf 6 = .ok (.invokestatic 96, 3) := by decide +kernel
theorem dX5_legOf_9 : decode cX5_legOf 9 = .ok (.ifCond .eq 10, 3) := by decide +kernel
theorem dX5_legOf_12 : decode cX5_legOf 12 = .ok (.iload_n 2, 1) := by decide +kernel
theorem dX5_legOf_13 : decode cX5_legOf 13 = .ok (.invokestatic 206, 3) := by decide +kernel
theorem dX5_legOf_16 : decode cX5_legOf 16 = .ok (.ifCond .ne 7, 3) := by decide +kernel
theorem dX5_legOf_19 : decode cX5_legOf 19 = .ok (.iconst 1, 1) := by decide +kernel
theorem dX5_legOf_20 : decode cX5_legOf 20 = .ok (.goto 20, 3) := by decide +kernel
theorem dX5_legOf_23 : decode cX5_legOf 23 = .ok (.iload_n 3, 1) := by decide +kernel
theorem dX5_legOf_24 : decode cX5_legOf 24 = .ok (.i2l, 1) := by decide +kernel
theorem dX5_legOf_25 : decode cX5_legOf 25 = .ok (.lconst 0, 1) := by decide +kernel
theorem dX5_legOf_26 : decode cX5_legOf 26 = .ok (.ldc2_w 209, 3) := by decide +kernel
theorem dX5_legOf_29 : decode cX5_legOf 29 = .ok (.invokestatic 37, 3) := by decide +kernel
theorem dX5_legOf_32 : decode cX5_legOf 32 = .ok (.ifCond .eq 7, 3) := by decide +kernel
theorem dX5_legOf_35 : decode cX5_legOf 35 = .ok (.iconst 0, 1) := by decide +kernel
theorem dX5_legOf_36 : decode cX5_legOf 36 = .ok (.goto 4, 3) := by decide +kernel
theorem dX5_legOf_39 : decode cX5_legOf 39 = .ok (.iconst 2, 1) := by decide +kernel
theorem dX5_legOf_40 : decode cX5_legOf 40 = .ok (.invokevirtual 105, 3) := by decide +kernel
theorem dX5_legOf_43 : decode cX5_legOf 43 = .ok (.ifCond .eq 5, 3) := by decide +kernel
theorem dX5_legOf_46 : decode cX5_legOf 46 = .ok (.iconst 0, 1) := by decide +kernel
theorem dX5_legOf_47 : decode cX5_legOf 47 = .ok (.ireturn, 1) := by decide +kernel
theorem dX5_legOf_48 : decode cX5_legOf 48 = .ok (.iload_n 3, 1) := by decide +kernel
theorem dX5_legOf_49 : decode cX5_legOf 49 = .ok (.ifCond .ne 17, 3) := by decide +kernel
theorem dX5_legOf_52 : decode cX5_legOf 52 = .ok (.aload_n 0, 1) := by decide +kernel
theorem dX5_legOf_53 : decode cX5_legOf 53 = .ok (.getfield 13, 3) := by decide +kernel
theorem dX5_legOf_56 : decode cX5_legOf 56 = .ok (.iload_n 1, 1) := by decide +kernel
theorem dX5_legOf_57 : decode cX5_legOf 57 = .ok (.iconst 5, 1) := by decide +kernel
theorem dX5_legOf_58 : decode cX5_legOf 58 = .ok (.iload_n 2, 1) := by decide +kernel
theorem dX5_legOf_59 : decode cX5_legOf 59 = .ok (.iadd, 1) := by decide +kernel
theorem dX5_legOf_60 : decode cX5_legOf 60 = .ok (.invokestatic 51, 3) := by decide +kernel
theorem dX5_legOf_63 : decode cX5_legOf 63 = .ok (.goto 29, 3) := by decide +kernel
theorem dX5_legOf_66 : decode cX5_legOf 66 = .ok (.iload_n 3, 1) := by decide +kernel
theorem dX5_legOf_67 : decode cX5_legOf 67 = .ok (.iconst 1, 1) := by decide +kernel
theorem dX5_legOf_68 : decode cX5_legOf 68 = .ok (.if_icmp .ne 15, 3) := by decide +kernel
theorem dX5_legOf_71 : decode cX5_legOf 71 = .ok (.aload_n 0, 1) := by decide +kernel
theorem dX5_legOf_72 : decode cX5_legOf 72 = .ok (.getfield 13, 3) := by decide +kernel
theorem dX5_legOf_75 : decode cX5_legOf 75 = .ok (.iload_n 1, 1) := by decide +kernel
theorem dX5_legOf_76 : decode cX5_legOf 76 = .ok (.iload_n 2, 1) := by decide +kernel
theorem dX5_legOf_77 : decode cX5_legOf 77 = .ok (.invokestatic 58, 3) := by decide +kernel
theorem dX5_legOf_80 : decode cX5_legOf 80 = .ok (.goto 12, 3) := by decide +kernel
theorem dX5_legOf_83 : decode cX5_legOf 83 = .ok (.aload_n 0, 1) := by decide +kernel
theorem dX5_legOf_84 : decode cX5_legOf 84 = .ok (.getfield 13, 3) := by decide +kernel
theorem dX5_legOf_87 : decode cX5_legOf 87 = .ok (.iload_n 1, 1) := by decide +kernel
theorem dX5_legOf_88 : decode cX5_legOf 88 = .ok (.iload_n 2, 1) := by decide +kernel
theorem dX5_legOf_89 : decode cX5_legOf 89 = .ok (.invokestatic 55, 3) := by decide +kernel
theorem dX5_legOf_92 : decode cX5_legOf 92 = .ok (.ireturn, 1) := by decide +kernel
theorem dX5_spot_0 : decode cX5_spot 0 = .ok (.aload_n 0, 1) := by decide +kernel
theorem dX5_spot_1 : decode cX5_spot 1 = .ok (.aload_n 0, 1) := by decide +kernel
theorem dX5_spot_2 : decode cX5_spot 2 = .ok (.getfield 13, 3) := by decide +kernel
theorem dX5_spot_5 : decode cX5_spot 5 = .ok (.iload_n 1, 1) := by decide +kernel
theorem dX5_spot_6 : decode cX5_spot 6 = .ok (.invokestatic 149, 3) := by decide +kernel
theorem dX5_spot_9 : decode cX5_spot 9 = .ok (.ifCond .eq 14, 3) := by decide +kernel
theorem dX5_spot_12 : decode cX5_spot 12 = .ok (.iload_n 2, 1) := by decide +kernel
theorem dX5_spot_13 : decode cX5_spot 13 = .ok (.invokestatic 206, 3) := by decide +kernel
theorem dX5_spot_16 : decode cX5_spot 16 = .ok (.ifCond .eq 7, 3) := by decide +kernel
theorem dX5_spot_19 : decode cX5_spot 19 = .ok (.iconst 0, 1) := by decide +kernel
theorem dX5_spot_20 : decode cX5_spot 20 = .ok (.goto 4, 3) := by decide +kernel
theorem dX5_spot_23 : decode cX5_spot 23 = .ok (.iconst 1, 1) := by decide +kernel
theorem dX5_spot_24 : decode cX5_spot 24 = .ok (.invokevirtual 105, 3) := by decide +kernel
theorem dX5_spot_27 : decode cX5_spot 27 = .ok (.ifCond .eq 5, 3) := by decide +kernel
theorem dX5_spot_30 : decode cX5_spot 30 = .ok (.iconst 0, 1) := by decide +kernel
theorem dX5_spot_31 : decode cX5_spot 31 = .ok (.ireturn, 1) := by decide +kernel
theorem dX5_spot_32 : decode cX5_spot 32 = .ok (.aload_n 0, 1) := by decide +kernel
theorem dX5_spot_33 : decode cX5_spot 33 = .ok (.getfield 13, 3) := by decide +kernel
theorem dX5_spot_36 : decode cX5_spot 36 = .ok (.bipush 12, 2) := by decide +kernel
theorem dX5_spot_38 : decode cX5_spot 38 = .ok (.iconst 4, 1) := by decide +kernel
theorem dX5_spot_39 : decode cX5_spot 39 = .ok (.iload_n 1, 1) := by decide +kernel
theorem dX5_spot_40 : decode cX5_spot 40 = .ok (.imul, 1) := by decide +kernel
theorem dX5_spot_41 : decode cX5_spot 41 = .ok (.iadd, 1) := by decide +kernel
theorem dX5_spot_42 : decode cX5_spot 42 = .ok (.iload_n 2, 1) := by decide +kernel
theorem dX5_spot_43 : decode cX5_spot 43 = .ok (.iadd, 1) := by decide +kernel
theorem dX5_spot_44 : decode cX5_spot 44 = .ok (.iaload, 1) := by decide +kernel
theorem dX5_spot_45 : decode cX5_spot 45 = .ok (.ireturn, 1) := by decide +kernel
theorem dX5_boundOf_0 : decode cX5_boundOf 0 = .ok (.aload_n 0, 1) := by decide +kernel
theorem dX5_boundOf_1 : decode cX5_boundOf 1 = .ok (.iload_n 1, 1) := by decide +kernel
theorem dX5_boundOf_2 : decode cX5_boundOf 2 = .ok (.invokestatic 206, 3) := by decide +kernel
theorem dX5_boundOf_5 : decode cX5_boundOf 5 = .ok (.ifCond .eq 14, 3) := by decide +kernel
theorem dX5_boundOf_8 : decode cX5_boundOf 8 = .ok (.iload_n 2, 1) := by decide +kernel
theorem dX5_boundOf_9 : decode cX5_boundOf 9 = .ok (.invokestatic 206, 3) := by decide +kernel
theorem dX5_boundOf_12 : decode cX5_boundOf 12 = .ok (.ifCond .eq 7, 3) := by decide +kernel
theorem dX5_boundOf_15 : decode cX5_boundOf 15 = .ok (.iconst 0, 1) := by decide +kernel
theorem dX5_boundOf_16 : decode cX5_boundOf 16 = .ok (.goto 4, 3) := by decide +kernel
theorem dX5_boundOf_19 : decode cX5_boundOf 19 = .ok (.iconst 1, 1) := by decide +kernel
theorem dX5_boundOf_20 : decode cX5_boundOf 20 = .ok (.invokevirtual 105, 3) := by decide +kernel
theorem dX5_boundOf_23 : decode cX5_boundOf 23 = .ok (.ifCond .eq 5, 3) := by decide +kernel
theorem dX5_boundOf_26 : decode cX5_boundOf 26 = .ok (.iconst 0, 1) := by decide +kernel
theorem dX5_boundOf_27 : decode cX5_boundOf 27 = .ok (.ireturn, 1) := by decide +kernel
theorem dX5_boundOf_28 : decode cX5_boundOf 28 = .ok (.aload_n 0, 1) := by decide +kernel
theorem dX5_boundOf_29 : decode cX5_boundOf 29 = .ok (.getfield 13, 3) := by decide +kernel
theorem dX5_boundOf_32 : decode cX5_boundOf 32 = .ok (.bipush 28, 2) := by decide +kernel
theorem dX5_boundOf_34 : decode cX5_boundOf 34 = .ok (.iconst 4, 1) := by decide +kernel
theorem dX5_boundOf_35 : decode cX5_boundOf 35 = .ok (.iload_n 1, 1) := by decide +kernel
theorem dX5_boundOf_36 : decode cX5_boundOf 36 = .ok (.imul, 1) := by decide +kernel
theorem dX5_boundOf_37 : decode cX5_boundOf 37 = .ok (.iadd, 1) := by decide +kernel
theorem dX5_boundOf_38 : decode cX5_boundOf 38 = .ok (.iload_n 2, 1) := by decide +kernel
theorem dX5_boundOf_39 : decode cX5_boundOf 39 = .ok (.iadd, 1) := by decide +kernel
theorem dX5_boundOf_40 : decode cX5_boundOf 40 = .ok (.iaload, 1) := by decide +kernel
theorem dX5_boundOf_41 : decode cX5_boundOf 41 = .ok (.ireturn, 1) := by decide +kernel
theorem dX5_setting_0 : decode cX5_setting 0 = .ok (.aload_n 0, 1) := by decide +kernel
theorem dX5_setting_1 : decode cX5_setting 1 = .ok (.iload_n 1, 1) := by decide +kernel
theorem dX5_setting_2 : decode cX5_setting 2 = .ok (.i2l, 1) := by decide +kernel
theorem dX5_setting_3 : decode cX5_setting 3 = .ok (.lconst 0, 1) := by decide +kernel
theorem dX5_setting_4 : decode cX5_setting 4 = .ok (.lconst 1, 1) := by decide +kernel
theorem dX5_setting_5 : decode cX5_setting 5 = .ok (.invokestatic 37, 3) := by decide +kernel
theorem dX5_setting_8 : decode cX5_setting 8 = .ok (.ifCond .eq 7, 3) := by decide +kernel
theorem dX5_setting_11 : decode cX5_setting 11 = .ok (.iconst 0, 1) := by decide +kernel
theorem dX5_setting_12 : decode cX5_setting 12 = .ok (.goto 4, 3) := by decide +kernel
theorem dX5_setting_15 : decode cX5_setting 15 = .ok (.iconst 1, 1) := by decide +kernel
theorem dX5_setting_16 : decode cX5_setting 16 = .ok (.invokevirtual 105, 3) := by decide +kernel
theorem dX5_setting_19 : decode cX5_setting 19 = .ok (.ifCond .eq 5, 3) := by decide +kernel
theorem dX5_setting_22 : decode cX5_setting 22 = .ok (.iconst 0, 1) := by decide +kernel
theorem dX5_setting_23 : decode cX5_setting 23 = .ok (.ireturn, 1) := by decide +kernel
theorem dX5_setting_24 : decode cX5_setting 24 = .ok (.aload_n 0, 1) := by decide +kernel
theorem dX5_setting_25 : decode cX5_setting 25 = .ok (.getfield 13, 3) := by decide +kernel
theorem dX5_setting_28 : decode cX5_setting 28 = .ok (.bipush 10, 2) := by decide +kernel
theorem dX5_setting_30 : decode cX5_setting 30 = .ok (.iload_n 1, 1) := by decide +kernel
theorem dX5_setting_31 : decode cX5_setting 31 = .ok (.iadd, 1) := by decide +kernel
theorem dX5_setting_32 : decode cX5_setting 32 = .ok (.iaload, 1) := by decide +kernel
theorem dX5_setting_33 : decode cX5_setting 33 = .ok (.ireturn, 1) := by decide +kernel
theorem dX5_remember_0 : decode cX5_remember 0 = .ok (.aload_n 0, 1) := by decide +kernel
theorem dX5_remember_1 : decode cX5_remember 1 = .ok (.getfield 196, 3) := by decide +kernel
theorem dX5_remember_4 : decode cX5_remember 4 = .ok (.bipush 14, 2) := by decide +kernel
theorem dX5_remember_6 : decode cX5_remember 6 = .ok (.if_icmp .ne 44, 3) := by decide +kernel
theorem dX5_remember_9 : decode cX5_remember 9 = .ok (.iconst 0, 1) := by decide +kernel
theorem dX5_remember_10 : decode cX5_remember 10 = .ok (.istore_n 1, 1) := by decide +kernel
theorem dX5_remember_11 : decode cX5_remember 11 = .ok (.iload_n 1, 1) := by decide +kernel
theorem dX5_remember_12 : decode cX5_remember 12 = .ok (.sipush 1742, 3) := by decide +kernel
theorem dX5_remember_15 : decode cX5_remember 15 = .ok (.if_icmp .ge 25, 3) := by decide +kernel
theorem dX5_remember_18 : decode cX5_remember 18 = .ok (.aload_n 0, 1) := by decide +kernel
theorem dX5_remember_19 : decode cX5_remember 19 = .ok (.getfield 19, 3) := by decide +kernel
theorem dX5_remember_22 : decode cX5_remember 22 = .ok (.iload_n 1, 1) := by decide +kernel
theorem dX5_remember_23 : decode cX5_remember 23 = .ok (.aload_n 0, 1) := by decide +kernel
theorem dX5_remember_24 : decode cX5_remember 24 = .ok (.getfield 19, 3) := by decide +kernel
theorem dX5_remember_27 : decode cX5_remember 27 = .ok (.iload_n 1, 1) := by decide +kernel
theorem dX5_remember_28 : decode cX5_remember 28 = .ok (.sipush 134, 3) := by decide +kernel
theorem dX5_remember_31 : decode cX5_remember 31 = .ok (.iadd, 1) := by decide +kernel
theorem dX5_remember_32 : decode cX5_remember 32 = .ok (.iaload, 1) := by decide +kernel
theorem dX5_remember_33 : decode cX5_remember 33 = .ok (.iastore, 1) := by decide +kernel
theorem dX5_remember_34 : decode cX5_remember 34 = .ok (.iinc 1 1, 3) := by decide +kernel
theorem dX5_remember_37 : decode cX5_remember 37 = .ok (.goto (-26), 3) := by decide +kernel
theorem dX5_remember_40 : decode cX5_remember 40 = .ok (.aload_n 0, 1) := by decide +kernel
theorem dX5_remember_41 : decode cX5_remember 41 = .ok (.dup, 1) := by decide +kernel
theorem dX5_remember_42 : decode cX5_remember 42 = .ok (.getfield 196, 3) := by decide +kernel
theorem dX5_remember_45 : decode cX5_remember 45 = .ok (.iconst 1, 1) := by decide +kernel
theorem dX5_remember_46 : decode cX5_remember 46 = .ok (.isub, 1) := by decide +kernel
theorem dX5_remember_47 : decode cX5_remember 47 = .ok (.putfield 196, 3) := by decide +kernel
theorem dX5_remember_50 : decode cX5_remember 50 = .ok (.aload_n 0, 1) := by decide +kernel
theorem dX5_remember_51 : decode cX5_remember 51 = .ok (.getfield 13, 3) := by decide +kernel
theorem dX5_remember_54 : decode cX5_remember 54 = .ok (.iconst 0, 1) := by decide +kernel
theorem dX5_remember_55 : decode cX5_remember 55 = .ok (.aload_n 0, 1) := by decide +kernel
theorem dX5_remember_56 : decode cX5_remember 56 = .ok (.getfield 19, 3) := by decide +kernel
theorem dX5_remember_59 : decode cX5_remember 59 = .ok (.sipush 134, 3) := by decide +kernel
theorem dX5_remember_62 : decode cX5_remember 62 = .ok (.aload_n 0, 1) := by decide +kernel
theorem dX5_remember_63 : decode cX5_remember 63 = .ok (.getfield 196, 3) := by decide +kernel
theorem dX5_remember_66 : decode cX5_remember 66 = .ok (.imul, 1) := by decide +kernel
theorem dX5_remember_67 : decode cX5_remember 67 = .ok (.invokestatic 192, 3) := by decide +kernel
theorem dX5_remember_70 : decode cX5_remember 70 = .ok (.aload_n 0, 1) := by decide +kernel
theorem dX5_remember_71 : decode cX5_remember 71 = .ok (.dup, 1) := by decide +kernel
theorem dX5_remember_72 : decode cX5_remember 72 = .ok (.getfield 196, 3) := by decide +kernel
theorem dX5_remember_75 : decode cX5_remember 75 = .ok (.iconst 1, 1) := by decide +kernel
theorem dX5_remember_76 : decode cX5_remember 76 = .ok (.iadd, 1) := by decide +kernel
theorem dX5_remember_77 : decode cX5_remember 77 = .ok (.putfield 196, 3) := by decide +kernel
theorem dX5_remember_80 : decode cX5_remember 80 = .ok (.return_, 1) := by decide +kernel
theorem dX5_chair_0 : decode cX5_chair 0 = .ok (.aload_n 0, 1) := by decide +kernel
theorem dX5_chair_1 : decode cX5_chair 1 = .ok (.iload_n 1, 1) := by decide +kernel
theorem dX5_chair_2 : decode cX5_chair 2 = .ok (.invokestatic 206, 3) := by decide +kernel
theorem dX5_chair_5 : decode cX5_chair 5 = .ok (.ifCond .ne 7, 3) := by decide +kernel
theorem dX5_chair_8 : decode cX5_chair 8 = .ok (.iconst 1, 1) := by decide +kernel
theorem dX5_chair_9 : decode cX5_chair 9 = .ok (.goto 37, 3) := by decide +kernel
theorem dX5_chair_12 : decode cX5_chair 12 = .ok (.iload_n 2, 1) := by decide +kernel
theorem dX5_chair_13 : decode cX5_chair 13 = .ok (.i2l, 1) := by decide +kernel
theorem dX5_chair_14 : decode cX5_chair 14 = .ok (.ldc2_w 43, 3) := by decide +kernel
theorem dX5_chair_17 : decode cX5_chair 17 = .ok (.ldc2_w 45, 3) := by decide +kernel
theorem dX5_chair_20 : decode cX5_chair 20 = .ok (.invokestatic 37, 3) := by decide +kernel
theorem dX5_chair_23 : decode cX5_chair 23 = .ok (.ifCond .ne 7, 3) := by decide +kernel
theorem dX5_chair_26 : decode cX5_chair 26 = .ok (.iconst 2, 1) := by decide +kernel
theorem dX5_chair_27 : decode cX5_chair 27 = .ok (.goto 19, 3) := by decide +kernel
theorem dX5_chair_30 : decode cX5_chair 30 = .ok (.aload_n 0, 1) := by decide +kernel
theorem dX5_chair_31 : decode cX5_chair 31 = .ok (.getfield 13, 3) := by decide +kernel
theorem dX5_chair_34 : decode cX5_chair 34 = .ok (.iconst 0, 1) := by decide +kernel
theorem dX5_chair_35 : decode cX5_chair 35 = .ok (.iaload, 1) := by decide +kernel
theorem dX5_chair_36 : decode cX5_chair 36 = .ok (.bipush 10, 2) := by decide +kernel
theorem dX5_chair_38 : decode cX5_chair 38 = .ok (.if_icmp .ge 7, 3) := by decide +kernel
theorem dX5_chair_41 : decode cX5_chair 41 = .ok (.iconst 0, 1) := by decide +kernel
theorem dX5_chair_42 : decode cX5_chair 42 = .ok (.goto 4, 3) := by decide +kernel
theorem dX5_chair_45 : decode cX5_chair 45 = .ok (.iconst 3, 1) := by decide +kernel
theorem dX5_chair_46 : decode cX5_chair 46 = .ok (.invokevirtual 105, 3) := by decide +kernel
theorem dX5_chair_49 : decode cX5_chair 49 = .ok (.ifCond .eq 5, 3) := by decide +kernel
theorem dX5_chair_52 : decode cX5_chair 52 = .ok (.iconst 0, 1) := by decide +kernel
theorem dX5_chair_53 : decode cX5_chair 53 = .ok (.ireturn, 1) := by decide +kernel
theorem dX5_chair_54 : decode cX5_chair 54 = .ok (.aload_n 0, 1) := by decide +kernel
theorem dX5_chair_55 : decode cX5_chair 55 = .ok (.invokevirtual 211, 3) := by decide +kernel
theorem dX5_chair_58 : decode cX5_chair 58 = .ok (.aload_n 0, 1) := by decide +kernel
theorem dX5_chair_59 : decode cX5_chair 59 = .ok (.getfield 13, 3) := by decide +kernel
theorem dX5_chair_62 : decode cX5_chair 62 = .ok (.iload_n 1, 1) := by decide +kernel
theorem dX5_chair_63 : decode cX5_chair 63 = .ok (.iload_n 2, 1) := by decide +kernel
theorem dX5_chair_64 : decode cX5_chair 64 = .ok (.invokestatic 162, 3) := by decide +kernel
theorem dX5_chair_67 : decode cX5_chair 67 = .ok (.ireturn, 1) := by decide +kernel
theorem dX5_floor_0 : decode cX5_floor 0 = .ok (.iload_n 1, 1) := by decide +kernel
theorem dX5_floor_1 : decode cX5_floor 1 = .ok (.i2l, 1) := by decide +kernel
theorem dX5_floor_2 : decode cX5_floor 2 = .ok (.lconst 0, 1) := by decide +kernel
theorem dX5_floor_3 : decode cX5_floor 3 = .ok (.ldc2_w 49, 3) := by decide +kernel
theorem dX5_floor_6 : decode cX5_floor 6 = .ok (.invokestatic 37, 3) := by decide +kernel
theorem dX5_floor_9 : decode cX5_floor 9 = .ok (.ifCond .eq 44, 3) := by decide +kernel
theorem dX5_floor_12 : decode cX5_floor 12 = .ok (.iload_n 2, 1) := by decide +kernel
theorem dX5_floor_13 : decode cX5_floor 13 = .ok (.i2l, 1) := by decide +kernel
theorem dX5_floor_14 : decode cX5_floor 14 = .ok (.lconst 0, 1) := by decide +kernel
theorem dX5_floor_15 : decode cX5_floor 15 = .ok (.ldc2_w 49, 3) := by decide +kernel
theorem dX5_floor_18 : decode cX5_floor 18 = .ok (.invokestatic 37, 3) := by decide +kernel
theorem dX5_floor_21 : decode cX5_floor 21 = .ok (.ifCond .eq 32, 3) := by decide +kernel
theorem dX5_floor_24 : decode cX5_floor 24 = .ok (.iload_n 3, 1) := by decide +kernel
theorem dX5_floor_25 : decode cX5_floor 25 = .ok (.i2l, 1) := by decide +kernel
theorem dX5_floor_26 : decode cX5_floor 26 = .ok (.lconst 0, 1) := by decide +kernel
theorem dX5_floor_27 : decode cX5_floor 27 = .ok (.ldc2_w 49, 3) := by decide +kernel
theorem dX5_floor_30 : decode cX5_floor 30 = .ok (.invokestatic 37, 3) := by decide +kernel
theorem dX5_floor_33 : decode cX5_floor 33 = .ok (.ifCond .eq 20, 3) := by decide +kernel
theorem dX5_floor_36 : decode cX5_floor 36 = .ok (.iload 4, 2) := by decide +kernel
theorem dX5_floor_38 : decode cX5_floor 38 = .ok (.i2l, 1) := by decide +kernel
theorem dX5_floor_39 : decode cX5_floor 39 = .ok (.lconst 0, 1) := by decide +kernel
theorem dX5_floor_40 : decode cX5_floor 40 = .ok (.ldc2_w 49, 3) := by decide +kernel
theorem dX5_floor_43 : decode cX5_floor 43 = .ok (.invokestatic 37, 3) := by decide +kernel
theorem dX5_floor_46 : decode cX5_floor 46 = .ok (.ifCond .eq 7, 3) := by decide +kernel
theorem dX5_floor_49 : decode cX5_floor 49 = .ok (.iconst 1, 1) := by decide +kernel
theorem dX5_floor_50 : decode cX5_floor 50 = .ok (.goto 4, 3) := by decide +kernel
theorem dX5_floor_53 : decode cX5_floor 53 = .ok (.iconst 0, 1) := by decide +kernel
theorem dX5_floor_54 : decode cX5_floor 54 = .ok (.istore 5, 2) := by decide +kernel
theorem dX5_floor_56 : decode cX5_floor 56 = .ok (.aload_n 0, 1) := by decide +kernel
theorem dX5_floor_57 : decode cX5_floor 57 = .ok (.iload 5, 2) := by decide +kernel
theorem dX5_floor_59 : decode cX5_floor 59 = .ok (.ifCond .ne 7, 3) := by decide +kernel
theorem dX5_floor_62 : decode cX5_floor 62 = .ok (.iconst 1, 1) := by decide +kernel
theorem dX5_floor_63 : decode cX5_floor 63 = .ok (.goto 18, 3) := by decide +kernel
theorem dX5_floor_66 : decode cX5_floor 66 = .ok (.aload_n 0, 1) := by decide +kernel
theorem dX5_floor_67 : decode cX5_floor 67 = .ok (.getfield 13, 3) := by decide +kernel
theorem dX5_floor_70 : decode cX5_floor 70 = .ok (.iconst 1, 1) := by decide +kernel
theorem dX5_floor_71 : decode cX5_floor 71 = .ok (.iaload, 1) := by decide +kernel
theorem dX5_floor_72 : decode cX5_floor 72 = .ok (.iconst 4, 1) := by decide +kernel
theorem dX5_floor_73 : decode cX5_floor 73 = .ok (.if_icmp .ge 7, 3) := by decide +kernel
theorem dX5_floor_76 : decode cX5_floor 76 = .ok (.iconst 0, 1) := by decide +kernel
theorem dX5_floor_77 : decode cX5_floor 77 = .ok (.goto 4, 3) := by decide +kernel
theorem dX5_floor_80 : decode cX5_floor 80 = .ok (.iconst 2, 1) := by decide +kernel
theorem dX5_floor_81 : decode cX5_floor 81 = .ok (.invokevirtual 105, 3) := by decide +kernel
theorem dX5_floor_84 : decode cX5_floor 84 = .ok (.ifCond .eq 5, 3) := by decide +kernel
theorem dX5_floor_87 : decode cX5_floor 87 = .ok (.iconst 0, 1) := by decide +kernel
theorem dX5_floor_88 : decode cX5_floor 88 = .ok (.ireturn, 1) := by decide +kernel
theorem dX5_floor_89 : decode cX5_floor 89 = .ok (.aload_n 0, 1) := by decide +kernel
theorem dX5_floor_90 : decode cX5_floor 90 = .ok (.invokevirtual 211, 3) := by decide +kernel
theorem dX5_floor_93 : decode cX5_floor 93 = .ok (.aload_n 0, 1) := by decide +kernel
theorem dX5_floor_94 : decode cX5_floor 94 = .ok (.getfield 13, 3) := by decide +kernel
theorem dX5_floor_97 : decode cX5_floor 97 = .ok (.iload_n 1, 1) := by decide +kernel
theorem dX5_floor_98 : decode cX5_floor 98 = .ok (.iload_n 2, 1) := by decide +kernel
theorem dX5_floor_99 : decode cX5_floor 99 = .ok (.iload_n 3, 1) := by decide +kernel
theorem dX5_floor_100 : decode cX5_floor 100 = .ok (.iload 4, 2) := by decide +kernel
theorem dX5_floor_102 : decode cX5_floor 102 = .ok (.invokestatic 145, 3) := by decide +kernel
theorem dX5_floor_105 : decode cX5_floor 105 = .ok (.ireturn, 1) := by decide +kernel
theorem dX5_level_0 : decode cX5_level 0 = .ok (.aload_n 0, 1) := by decide +kernel
theorem dX5_level_1 : decode cX5_level 1 = .ok (.aload_n 0, 1) := by decide +kernel
theorem dX5_level_2 : decode cX5_level 2 = .ok (.getfield 13, 3) := by decide +kernel
theorem dX5_level_5 : decode cX5_level 5 = .ok (.iload_n 1, 1) := by decide +kernel
theorem dX5_level_6 : decode cX5_level 6 = .ok (.invokestatic 149, 3) := by decide +kernel
theorem dX5_level_9 : decode cX5_level 9 = .ok (.ifCond .eq 10, 3) := by decide +kernel
theorem dX5_level_12 : decode cX5_level 12 = .ok (.iload_n 2, 1) := by decide +kernel
theorem dX5_level_13 : decode cX5_level 13 = .ok (.invokestatic 206, 3) := by decide +kernel
theorem dX5_level_16 : decode cX5_level 16 = .ok (.ifCond .ne 7, 3) := by decide +kernel
theorem dX5_level_19 : decode cX5_level 19 = .ok (.iconst 1, 1) := by decide +kernel
theorem dX5_level_20 : decode cX5_level 20 = .ok (.goto 20, 3) := by decide +kernel
theorem dX5_level_23 : decode cX5_level 23 = .ok (.iload_n 3, 1) := by decide +kernel
theorem dX5_level_24 : decode cX5_level 24 = .ok (.i2l, 1) := by decide +kernel
theorem dX5_level_25 : decode cX5_level 25 = .ok (.lconst 0, 1) := by decide +kernel
theorem dX5_level_26 : decode cX5_level 26 = .ok (.ldc2_w 49, 3) := by decide +kernel
theorem dX5_level_29 : decode cX5_level 29 = .ok (.invokestatic 37, 3) := by decide +kernel
theorem dX5_level_32 : decode cX5_level 32 = .ok (.ifCond .eq 7, 3) := by decide +kernel
theorem dX5_level_35 : decode cX5_level 35 = .ok (.iconst 0, 1) := by decide +kernel
theorem dX5_level_36 : decode cX5_level 36 = .ok (.goto 4, 3) := by decide +kernel
theorem dX5_level_39 : decode cX5_level 39 = .ok (.iconst 2, 1) := by decide +kernel
theorem dX5_level_40 : decode cX5_level 40 = .ok (.invokevirtual 105, 3) := by decide +kernel
theorem dX5_level_43 : decode cX5_level 43 = .ok (.ifCond .eq 5, 3) := by decide +kernel
theorem dX5_level_46 : decode cX5_level 46 = .ok (.iconst 0, 1) := by decide +kernel
theorem dX5_level_47 : decode cX5_level 47 = .ok (.ireturn, 1) := by decide +kernel
theorem dX5_level_48 : decode cX5_level 48 = .ok (.aload_n 0, 1) := by decide +kernel
theorem dX5_level_49 : decode cX5_level 49 = .ok (.invokevirtual 211, 3) := by decide +kernel
theorem dX5_level_52 : decode cX5_level 52 = .ok (.aload_n 0, 1) := by decide +kernel
theorem dX5_level_53 : decode cX5_level 53 = .ok (.getfield 13, 3) := by decide +kernel
theorem dX5_level_56 : decode cX5_level 56 = .ok (.iload_n 1, 1) := by decide +kernel
theorem dX5_level_57 : decode cX5_level 57 = .ok (.iload_n 2, 1) := by decide +kernel
theorem dX5_level_58 : decode cX5_level 58 = .ok (.iload_n 3, 1) := by decide +kernel
theorem dX5_level_59 : decode cX5_level 59 = .ok (.invokestatic 214, 3) := by decide +kernel
theorem dX5_level_62 : decode cX5_level 62 = .ok (.ireturn, 1) := by decide +kernel
theorem dX5_bring_0 : decode cX5_bring 0 = .ok (.aload_n 0, 1) := by decide +kernel
theorem dX5_bring_1 : decode cX5_bring 1 = .ok (.aload_n 0, 1) := by decide +kernel
theorem dX5_bring_2 : decode cX5_bring 2 = .ok (.getfield 13, 3) := by decide +kernel
theorem dX5_bring_5 : decode cX5_bring 5 = .ok (.iload_n 1, 1) := by decide +kernel
theorem dX5_bring_6 : decode cX5_bring 6 = .ok (.invokestatic 96, 3) := by decide +kernel
theorem dX5_bring_9 : decode cX5_bring 9 = .ok (.ifCond .eq 14, 3) := by decide +kernel
theorem dX5_bring_12 : decode cX5_bring 12 = .ok (.aload_n 0, 1) := by decide +kernel
theorem dX5_bring_13 : decode cX5_bring 13 = .ok (.getfield 13, 3) := by decide +kernel
theorem dX5_bring_16 : decode cX5_bring 16 = .ok (.iload_n 2, 1) := by decide +kernel
theorem dX5_bring_17 : decode cX5_bring 17 = .ok (.invokestatic 149, 3) := by decide +kernel
theorem dX5_bring_20 : decode cX5_bring 20 = .ok (.ifCond .ne 7, 3) := by decide +kernel
theorem dX5_bring_23 : decode cX5_bring 23 = .ok (.iconst 1, 1) := by decide +kernel
theorem dX5_bring_24 : decode cX5_bring 24 = .ok (.goto 15, 3) := by decide +kernel
theorem dX5_bring_27 : decode cX5_bring 27 = .ok (.iload_n 3, 1) := by decide +kernel
theorem dX5_bring_28 : decode cX5_bring 28 = .ok (.invokestatic 206, 3) := by decide +kernel
theorem dX5_bring_31 : decode cX5_bring 31 = .ok (.ifCond .eq 7, 3) := by decide +kernel
theorem dX5_bring_34 : decode cX5_bring 34 = .ok (.iconst 0, 1) := by decide +kernel
theorem dX5_bring_35 : decode cX5_bring 35 = .ok (.goto 4, 3) := by decide +kernel
theorem dX5_bring_38 : decode cX5_bring 38 = .ok (.iconst 2, 1) := by decide +kernel
theorem dX5_bring_39 : decode cX5_bring 39 = .ok (.invokevirtual 105, 3) := by decide +kernel
theorem dX5_bring_42 : decode cX5_bring 42 = .ok (.ifCond .eq 5, 3) := by decide +kernel
theorem dX5_bring_45 : decode cX5_bring 45 = .ok (.iconst 0, 1) := by decide +kernel
theorem dX5_bring_46 : decode cX5_bring 46 = .ok (.ireturn, 1) := by decide +kernel
theorem dX5_bring_47 : decode cX5_bring 47 = .ok (.aload_n 0, 1) := by decide +kernel
theorem dX5_bring_48 : decode cX5_bring 48 = .ok (.invokevirtual 211, 3) := by decide +kernel
theorem dX5_bring_51 : decode cX5_bring 51 = .ok (.aload_n 0, 1) := by decide +kernel
theorem dX5_bring_52 : decode cX5_bring 52 = .ok (.getfield 13, 3) := by decide +kernel
theorem dX5_bring_55 : decode cX5_bring 55 = .ok (.iload_n 1, 1) := by decide +kernel
theorem dX5_bring_56 : decode cX5_bring 56 = .ok (.iload_n 2, 1) := by decide +kernel
theorem dX5_bring_57 : decode cX5_bring 57 = .ok (.iload_n 3, 1) := by decide +kernel
theorem dX5_bring_58 : decode cX5_bring 58 = .ok (.invokestatic 152, 3) := by decide +kernel
theorem dX5_bring_61 : decode cX5_bring 61 = .ok (.ireturn, 1) := by decide +kernel
theorem dX5_saw_0 : decode cX5_saw 0 = .ok (.aload_n 0, 1) := by decide +kernel
theorem dX5_saw_1 : decode cX5_saw 1 = .ok (.aload_n 0, 1) := by decide +kernel
theorem dX5_saw_2 : decode cX5_saw 2 = .ok (.getfield 13, 3) := by decide +kernel
theorem dX5_saw_5 : decode cX5_saw 5 = .ok (.iload_n 1, 1) := by decide +kernel
theorem dX5_saw_6 : decode cX5_saw 6 = .ok (.invokestatic 96, 3) := by decide +kernel
theorem dX5_saw_9 : decode cX5_saw 9 = .ok (.ifCond .eq 10, 3) := by decide +kernel
theorem dX5_saw_12 : decode cX5_saw 12 = .ok (.iload_n 2, 1) := by decide +kernel
theorem dX5_saw_13 : decode cX5_saw 13 = .ok (.invokestatic 206, 3) := by decide +kernel
theorem dX5_saw_16 : decode cX5_saw 16 = .ok (.ifCond .ne 7, 3) := by decide +kernel
theorem dX5_saw_19 : decode cX5_saw 19 = .ok (.iconst 1, 1) := by decide +kernel
theorem dX5_saw_20 : decode cX5_saw 20 = .ok (.goto 37, 3) := by decide +kernel
theorem dX5_saw_23 : decode cX5_saw 23 = .ok (.iload_n 3, 1) := by decide +kernel
theorem dX5_saw_24 : decode cX5_saw 24 = .ok (.i2l, 1) := by decide +kernel
theorem dX5_saw_25 : decode cX5_saw 25 = .ok (.lconst 1, 1) := by decide +kernel
theorem dX5_saw_26 : decode cX5_saw 26 = .ok (.ldc2_w 217, 3) := by decide +kernel
theorem dX5_saw_29 : decode cX5_saw 29 = .ok (.invokestatic 37, 3) := by decide +kernel
theorem dX5_saw_32 : decode cX5_saw 32 = .ok (.ifCond .ne 7, 3) := by decide +kernel
theorem dX5_saw_35 : decode cX5_saw 35 = .ok (.iconst 2, 1) := by decide +kernel
theorem dX5_saw_36 : decode cX5_saw 36 = .ok (.goto 21, 3) := by decide +kernel
theorem dX5_saw_39 : decode cX5_saw 39 = .ok (.aload_n 0, 1) := by decide +kernel
theorem dX5_saw_40 : decode cX5_saw 40 = .ok (.getfield 13, 3) := by decide +kernel
theorem dX5_saw_43 : decode cX5_saw 43 = .ok (.iload_n 1, 1) := by decide +kernel
theorem dX5_saw_44 : decode cX5_saw 44 = .ok (.iload_n 2, 1) := by decide +kernel
theorem dX5_saw_45 : decode cX5_saw 45 = .ok (.iload_n 3, 1) := by decide +kernel
theorem dX5_saw_46 : decode cX5_saw 46 = .ok (.invokestatic 128, 3) := by decide +kernel
theorem dX5_saw_49 : decode cX5_saw 49 = .ok (.ifCond .eq 7, 3) := by decide +kernel
theorem dX5_saw_52 : decode cX5_saw 52 = .ok (.iconst 0, 1) := by decide +kernel
theorem dX5_saw_53 : decode cX5_saw 53 = .ok (.goto 4, 3) := by decide +kernel
theorem dX5_saw_56 : decode cX5_saw 56 = .ok (.iconst 3, 1) := by decide +kernel
theorem dX5_saw_57 : decode cX5_saw 57 = .ok (.invokevirtual 105, 3) := by decide +kernel
theorem dX5_saw_60 : decode cX5_saw 60 = .ok (.ifCond .eq 5, 3) := by decide +kernel
theorem dX5_saw_63 : decode cX5_saw 63 = .ok (.iconst 0, 1) := by decide +kernel
theorem dX5_saw_64 : decode cX5_saw 64 = .ok (.ireturn, 1) := by decide +kernel
theorem dX5_saw_65 : decode cX5_saw 65 = .ok (.aload_n 0, 1) := by decide +kernel
theorem dX5_saw_66 : decode cX5_saw 66 = .ok (.invokevirtual 211, 3) := by decide +kernel
theorem dX5_saw_69 : decode cX5_saw 69 = .ok (.aload_n 0, 1) := by decide +kernel
theorem dX5_saw_70 : decode cX5_saw 70 = .ok (.getfield 13, 3) := by decide +kernel
theorem dX5_saw_73 : decode cX5_saw 73 = .ok (.iload_n 1, 1) := by decide +kernel
theorem dX5_saw_74 : decode cX5_saw 74 = .ok (.iload_n 2, 1) := by decide +kernel
theorem dX5_saw_75 : decode cX5_saw 75 = .ok (.iload_n 3, 1) := by decide +kernel
theorem dX5_saw_76 : decode cX5_saw 76 = .ok (.invokestatic 132, 3) := by decide +kernel
theorem dX5_saw_79 : decode cX5_saw 79 = .ok (.ireturn, 1) := by decide +kernel
theorem dX5_shim_0 : decode cX5_shim 0 = .ok (.aload_n 0, 1) := by decide +kernel
theorem dX5_shim_1 : decode cX5_shim 1 = .ok (.aload_n 0, 1) := by decide +kernel
theorem dX5_shim_2 : decode cX5_shim 2 = .ok (.getfield 13, 3) := by decide +kernel
theorem dX5_shim_5 : decode cX5_shim 5 = .ok (.iload_n 1, 1) := by decide +kernel
theorem dX5_shim_6 : decode cX5_shim 6 = .ok (.invokestatic 96, 3) := by decide +kernel
theorem dX5_shim_9 : decode cX5_shim 9 = .ok (.ifCond .eq 10, 3) := by decide +kernel
theorem dX5_shim_12 : decode cX5_shim 12 = .ok (.iload_n 2, 1) := by decide +kernel
theorem dX5_shim_13 : decode cX5_shim 13 = .ok (.invokestatic 206, 3) := by decide +kernel
theorem dX5_shim_16 : decode cX5_shim 16 = .ok (.ifCond .ne 7, 3) := by decide +kernel
theorem dX5_shim_19 : decode cX5_shim 19 = .ok (.iconst 1, 1) := by decide +kernel
theorem dX5_shim_20 : decode cX5_shim 20 = .ok (.goto 37, 3) := by decide +kernel
theorem dX5_shim_23 : decode cX5_shim 23 = .ok (.iload_n 3, 1) := by decide +kernel
theorem dX5_shim_24 : decode cX5_shim 24 = .ok (.i2l, 1) := by decide +kernel
theorem dX5_shim_25 : decode cX5_shim 25 = .ok (.lconst 1, 1) := by decide +kernel
theorem dX5_shim_26 : decode cX5_shim 26 = .ok (.ldc2_w 219, 3) := by decide +kernel
theorem dX5_shim_29 : decode cX5_shim 29 = .ok (.invokestatic 37, 3) := by decide +kernel
theorem dX5_shim_32 : decode cX5_shim 32 = .ok (.ifCond .ne 7, 3) := by decide +kernel
theorem dX5_shim_35 : decode cX5_shim 35 = .ok (.iconst 2, 1) := by decide +kernel
theorem dX5_shim_36 : decode cX5_shim 36 = .ok (.goto 21, 3) := by decide +kernel
theorem dX5_shim_39 : decode cX5_shim 39 = .ok (.aload_n 0, 1) := by decide +kernel
theorem dX5_shim_40 : decode cX5_shim 40 = .ok (.getfield 13, 3) := by decide +kernel
theorem dX5_shim_43 : decode cX5_shim 43 = .ok (.iload_n 1, 1) := by decide +kernel
theorem dX5_shim_44 : decode cX5_shim 44 = .ok (.iload_n 2, 1) := by decide +kernel
theorem dX5_shim_45 : decode cX5_shim 45 = .ok (.iload_n 3, 1) := by decide +kernel
theorem dX5_shim_46 : decode cX5_shim 46 = .ok (.invokestatic 135, 3) := by decide +kernel
theorem dX5_shim_49 : decode cX5_shim 49 = .ok (.ifCond .eq 7, 3) := by decide +kernel
theorem dX5_shim_52 : decode cX5_shim 52 = .ok (.iconst 0, 1) := by decide +kernel
theorem dX5_shim_53 : decode cX5_shim 53 = .ok (.goto 4, 3) := by decide +kernel
theorem dX5_shim_56 : decode cX5_shim 56 = .ok (.iconst 3, 1) := by decide +kernel
theorem dX5_shim_57 : decode cX5_shim 57 = .ok (.invokevirtual 105, 3) := by decide +kernel
theorem dX5_shim_60 : decode cX5_shim 60 = .ok (.ifCond .eq 5, 3) := by decide +kernel
theorem dX5_shim_63 : decode cX5_shim 63 = .ok (.iconst 0, 1) := by decide +kernel
theorem dX5_shim_64 : decode cX5_shim 64 = .ok (.ireturn, 1) := by decide +kernel
theorem dX5_shim_65 : decode cX5_shim 65 = .ok (.aload_n 0, 1) := by decide +kernel
theorem dX5_shim_66 : decode cX5_shim 66 = .ok (.invokevirtual 211, 3) := by decide +kernel
theorem dX5_shim_69 : decode cX5_shim 69 = .ok (.aload_n 0, 1) := by decide +kernel
theorem dX5_shim_70 : decode cX5_shim 70 = .ok (.getfield 13, 3) := by decide +kernel
theorem dX5_shim_73 : decode cX5_shim 73 = .ok (.iload_n 1, 1) := by decide +kernel
theorem dX5_shim_74 : decode cX5_shim 74 = .ok (.iload_n 2, 1) := by decide +kernel
theorem dX5_shim_75 : decode cX5_shim 75 = .ok (.iload_n 3, 1) := by decide +kernel
theorem dX5_shim_76 : decode cX5_shim 76 = .ok (.invokestatic 138, 3) := by decide +kernel
theorem dX5_shim_79 : decode cX5_shim 79 = .ok (.ireturn, 1) := by decide +kernel
theorem dX5_test_0 : decode cX5_test 0 = .ok (.aload_n 0, 1) := by decide +kernel
theorem dX5_test_1 : decode cX5_test 1 = .ok (.aload_n 0, 1) := by decide +kernel
theorem dX5_test_2 : decode cX5_test 2 = .ok (.getfield 13, 3) := by decide +kernel
theorem dX5_test_5 : decode cX5_test 5 = .ok (.iload_n 1, 1) := by decide +kernel
theorem dX5_test_6 : decode cX5_test 6 = .ok (.invokestatic 96, 3) := by decide +kernel
theorem dX5_test_9 : decode cX5_test 9 = .ok (.ifCond .eq 7, 3) := by decide +kernel
theorem dX5_test_12 : decode cX5_test 12 = .ok (.iconst 0, 1) := by decide +kernel
theorem dX5_test_13 : decode cX5_test 13 = .ok (.goto 4, 3) := by decide +kernel
theorem dX5_test_16 : decode cX5_test 16 = .ok (.iconst 1, 1) := by decide +kernel
theorem dX5_test_17 : decode cX5_test 17 = .ok (.invokevirtual 105, 3) := by decide +kernel
theorem dX5_test_20 : decode cX5_test 20 = .ok (.ifCond .eq 5, 3) := by decide +kernel
theorem dX5_test_23 : decode cX5_test 23 = .ok (.iconst 0, 1) := by decide +kernel
theorem dX5_test_24 : decode cX5_test 24 = .ok (.ireturn, 1) := by decide +kernel
theorem dX5_test_25 : decode cX5_test 25 = .ok (.aload_n 0, 1) := by decide +kernel
theorem dX5_test_26 : decode cX5_test 26 = .ok (.invokevirtual 211, 3) := by decide +kernel
theorem dX5_test_29 : decode cX5_test 29 = .ok (.aload_n 0, 1) := by decide +kernel
theorem dX5_test_30 : decode cX5_test 30 = .ok (.getfield 13, 3) := by decide +kernel
theorem dX5_test_33 : decode cX5_test 33 = .ok (.iload_n 1, 1) := by decide +kernel
theorem dX5_test_34 : decode cX5_test 34 = .ok (.invokestatic 176, 3) := by decide +kernel
theorem dX5_test_37 : decode cX5_test 37 = .ok (.ireturn, 1) := by decide +kernel
theorem dX5_sit_0 : decode cX5_sit 0 = .ok (.aload_n 0, 1) := by decide +kernel
theorem dX5_sit_1 : decode cX5_sit 1 = .ok (.aload_n 0, 1) := by decide +kernel
theorem dX5_sit_2 : decode cX5_sit 2 = .ok (.getfield 13, 3) := by decide +kernel
theorem dX5_sit_5 : decode cX5_sit 5 = .ok (.iload_n 1, 1) := by decide +kernel
theorem dX5_sit_6 : decode cX5_sit 6 = .ok (.invokestatic 96, 3) := by decide +kernel
theorem dX5_sit_9 : decode cX5_sit 9 = .ok (.ifCond .ne 7, 3) := by decide +kernel
theorem dX5_sit_12 : decode cX5_sit 12 = .ok (.iconst 1, 1) := by decide +kernel
theorem dX5_sit_13 : decode cX5_sit 13 = .ok (.goto 20, 3) := by decide +kernel
theorem dX5_sit_16 : decode cX5_sit 16 = .ok (.iload_n 2, 1) := by decide +kernel
theorem dX5_sit_17 : decode cX5_sit 17 = .ok (.i2l, 1) := by decide +kernel
theorem dX5_sit_18 : decode cX5_sit 18 = .ok (.lconst 1, 1) := by decide +kernel
theorem dX5_sit_19 : decode cX5_sit 19 = .ok (.ldc2_w 47, 3) := by decide +kernel
theorem dX5_sit_22 : decode cX5_sit 22 = .ok (.invokestatic 37, 3) := by decide +kernel
theorem dX5_sit_25 : decode cX5_sit 25 = .ok (.ifCond .eq 7, 3) := by decide +kernel
theorem dX5_sit_28 : decode cX5_sit 28 = .ok (.iconst 0, 1) := by decide +kernel
theorem dX5_sit_29 : decode cX5_sit 29 = .ok (.goto 4, 3) := by decide +kernel
theorem dX5_sit_32 : decode cX5_sit 32 = .ok (.iconst 2, 1) := by decide +kernel
theorem dX5_sit_33 : decode cX5_sit 33 = .ok (.invokevirtual 105, 3) := by decide +kernel
theorem dX5_sit_36 : decode cX5_sit 36 = .ok (.ifCond .eq 5, 3) := by decide +kernel
theorem dX5_sit_39 : decode cX5_sit 39 = .ok (.iconst 0, 1) := by decide +kernel
theorem dX5_sit_40 : decode cX5_sit 40 = .ok (.ireturn, 1) := by decide +kernel
theorem dX5_sit_41 : decode cX5_sit 41 = .ok (.aload_n 0, 1) := by decide +kernel
theorem dX5_sit_42 : decode cX5_sit 42 = .ok (.invokevirtual 211, 3) := by decide +kernel
theorem dX5_sit_45 : decode cX5_sit 45 = .ok (.aload_n 0, 1) := by decide +kernel
theorem dX5_sit_46 : decode cX5_sit 46 = .ok (.getfield 13, 3) := by decide +kernel
theorem dX5_sit_49 : decode cX5_sit 49 = .ok (.iload_n 1, 1) := by decide +kernel
theorem dX5_sit_50 : decode cX5_sit 50 = .ok (.iload_n 2, 1) := by decide +kernel
theorem dX5_sit_51 : decode cX5_sit 51 = .ok (.invokestatic 179, 3) := by decide +kernel
theorem dX5_sit_54 : decode cX5_sit 54 = .ok (.ireturn, 1) := by decide +kernel
theorem dX5_bound_0 : decode cX5_bound 0 = .ok (.aload_n 0, 1) := by decide +kernel
theorem dX5_bound_1 : decode cX5_bound 1 = .ok (.iload_n 1, 1) := by decide +kernel
theorem dX5_bound_2 : decode cX5_bound 2 = .ok (.invokestatic 206, 3) := by decide +kernel
theorem dX5_bound_5 : decode cX5_bound 5 = .ok (.ifCond .eq 10, 3) := by decide +kernel
theorem dX5_bound_8 : decode cX5_bound 8 = .ok (.iload_n 2, 1) := by decide +kernel
theorem dX5_bound_9 : decode cX5_bound 9 = .ok (.invokestatic 206, 3) := by decide +kernel
theorem dX5_bound_12 : decode cX5_bound 12 = .ok (.ifCond .ne 7, 3) := by decide +kernel
theorem dX5_bound_15 : decode cX5_bound 15 = .ok (.iconst 1, 1) := by decide +kernel
theorem dX5_bound_16 : decode cX5_bound 16 = .ok (.goto 16, 3) := by decide +kernel
theorem dX5_bound_19 : decode cX5_bound 19 = .ok (.iload_n 2, 1) := by decide +kernel
theorem dX5_bound_20 : decode cX5_bound 20 = .ok (.iload_n 3, 1) := by decide +kernel
theorem dX5_bound_21 : decode cX5_bound 21 = .ok (.invokestatic 155, 3) := by decide +kernel
theorem dX5_bound_24 : decode cX5_bound 24 = .ok (.ifCond .eq 7, 3) := by decide +kernel
theorem dX5_bound_27 : decode cX5_bound 27 = .ok (.iconst 0, 1) := by decide +kernel
theorem dX5_bound_28 : decode cX5_bound 28 = .ok (.goto 4, 3) := by decide +kernel
theorem dX5_bound_31 : decode cX5_bound 31 = .ok (.iconst 2, 1) := by decide +kernel
theorem dX5_bound_32 : decode cX5_bound 32 = .ok (.invokevirtual 105, 3) := by decide +kernel
theorem dX5_bound_35 : decode cX5_bound 35 = .ok (.ifCond .eq 5, 3) := by decide +kernel
theorem dX5_bound_38 : decode cX5_bound 38 = .ok (.iconst 0, 1) := by decide +kernel
theorem dX5_bound_39 : decode cX5_bound 39 = .ok (.ireturn, 1) := by decide +kernel
theorem dX5_bound_40 : decode cX5_bound 40 = .ok (.aload_n 0, 1) := by decide +kernel
theorem dX5_bound_41 : decode cX5_bound 41 = .ok (.invokevirtual 211, 3) := by decide +kernel
theorem dX5_bound_44 : decode cX5_bound 44 = .ok (.aload_n 0, 1) := by decide +kernel
theorem dX5_bound_45 : decode cX5_bound 45 = .ok (.getfield 13, 3) := by decide +kernel
theorem dX5_bound_48 : decode cX5_bound 48 = .ok (.iload_n 1, 1) := by decide +kernel
theorem dX5_bound_49 : decode cX5_bound 49 = .ok (.iload_n 2, 1) := by decide +kernel
theorem dX5_bound_50 : decode cX5_bound 50 = .ok (.iload_n 3, 1) := by decide +kernel
theorem dX5_bound_51 : decode cX5_bound 51 = .ok (.invokestatic 159, 3) := by decide +kernel
theorem dX5_bound_54 : decode cX5_bound 54 = .ok (.ireturn, 1) := by decide +kernel
theorem dX5_set_0 : decode cX5_set 0 = .ok (.aload_n 0, 1) := by decide +kernel
theorem dX5_set_1 : decode cX5_set 1 = .ok (.iload_n 1, 1) := by decide +kernel
theorem dX5_set_2 : decode cX5_set 2 = .ok (.iload_n 2, 1) := by decide +kernel
theorem dX5_set_3 : decode cX5_set 3 = .ok (.invokestatic 221, 3) := by decide +kernel
theorem dX5_set_6 : decode cX5_set 6 = .ok (.ifCond .eq 7, 3) := by decide +kernel
theorem dX5_set_9 : decode cX5_set 9 = .ok (.iconst 0, 1) := by decide +kernel
theorem dX5_set_10 : decode cX5_set 10 = .ok (.goto 4, 3) := by decide +kernel
theorem dX5_set_13 : decode cX5_set 13 = .ok (.iconst 1, 1) := by decide +kernel
theorem dX5_set_14 : decode cX5_set 14 = .ok (.invokevirtual 105, 3) := by decide +kernel
theorem dX5_set_17 : decode cX5_set 17 = .ok (.ifCond .eq 5, 3) := by decide +kernel
theorem dX5_set_20 : decode cX5_set 20 = .ok (.iconst 0, 1) := by decide +kernel
theorem dX5_set_21 : decode cX5_set 21 = .ok (.ireturn, 1) := by decide +kernel
theorem dX5_set_22 : decode cX5_set 22 = .ok (.aload_n 0, 1) := by decide +kernel
theorem dX5_set_23 : decode cX5_set 23 = .ok (.invokevirtual 211, 3) := by decide +kernel
theorem dX5_set_26 : decode cX5_set 26 = .ok (.aload_n 0, 1) := by decide +kernel
theorem dX5_set_27 : decode cX5_set 27 = .ok (.getfield 13, 3) := by decide +kernel
theorem dX5_set_30 : decode cX5_set 30 = .ok (.iload_n 1, 1) := by decide +kernel
theorem dX5_set_31 : decode cX5_set 31 = .ok (.iload_n 2, 1) := by decide +kernel
theorem dX5_set_32 : decode cX5_set 32 = .ok (.invokestatic 224, 3) := by decide +kernel
theorem dX5_set_35 : decode cX5_set 35 = .ok (.ireturn, 1) := by decide +kernel
theorem dX5_undo_0 : decode cX5_undo 0 = .ok (.aload_n 0, 1) := by decide +kernel
theorem dX5_undo_1 : decode cX5_undo 1 = .ok (.aload_n 0, 1) := by decide +kernel
theorem dX5_undo_2 : decode cX5_undo 2 = .ok (.getfield 196, 3) := by decide +kernel
theorem dX5_undo_5 : decode cX5_undo 5 = .ok (.ifCond .ne 7, 3) := by decide +kernel
theorem dX5_undo_8 : decode cX5_undo 8 = .ok (.iconst 1, 1) := by decide +kernel
theorem dX5_undo_9 : decode cX5_undo 9 = .ok (.goto 4, 3) := by decide +kernel
theorem dX5_undo_12 : decode cX5_undo 12 = .ok (.iconst 0, 1) := by decide +kernel
theorem dX5_undo_13 : decode cX5_undo 13 = .ok (.invokevirtual 105, 3) := by decide +kernel
theorem dX5_undo_16 : decode cX5_undo 16 = .ok (.ifCond .eq 5, 3) := by decide +kernel
theorem dX5_undo_19 : decode cX5_undo 19 = .ok (.iconst 0, 1) := by decide +kernel
theorem dX5_undo_20 : decode cX5_undo 20 = .ok (.ireturn, 1) := by decide +kernel
theorem dX5_undo_21 : decode cX5_undo 21 = .ok (.aload_n 0, 1) := by decide +kernel
theorem dX5_undo_22 : decode cX5_undo 22 = .ok (.dup, 1) := by decide +kernel
theorem dX5_undo_23 : decode cX5_undo 23 = .ok (.getfield 196, 3) := by decide +kernel
theorem dX5_undo_26 : decode cX5_undo 26 = .ok (.iconst 1, 1) := by decide +kernel
theorem dX5_undo_27 : decode cX5_undo 27 = .ok (.isub, 1) := by decide +kernel
theorem dX5_undo_28 : decode cX5_undo 28 = .ok (.putfield 196, 3) := by decide +kernel
theorem dX5_undo_31 : decode cX5_undo 31 = .ok (.aload_n 0, 1) := by decide +kernel
theorem dX5_undo_32 : decode cX5_undo 32 = .ok (.getfield 19, 3) := by decide +kernel
theorem dX5_undo_35 : decode cX5_undo 35 = .ok (.sipush 134, 3) := by decide +kernel
theorem dX5_undo_38 : decode cX5_undo 38 = .ok (.aload_n 0, 1) := by decide +kernel
theorem dX5_undo_39 : decode cX5_undo 39 = .ok (.getfield 196, 3) := by decide +kernel
theorem dX5_undo_42 : decode cX5_undo 42 = .ok (.imul, 1) := by decide +kernel
theorem dX5_undo_43 : decode cX5_undo 43 = .ok (.aload_n 0, 1) := by decide +kernel
theorem dX5_undo_44 : decode cX5_undo 44 = .ok (.getfield 13, 3) := by decide +kernel
theorem dX5_undo_47 : decode cX5_undo 47 = .ok (.iconst 0, 1) := by decide +kernel
theorem dX5_undo_48 : decode cX5_undo 48 = .ok (.invokestatic 192, 3) := by decide +kernel
theorem dX5_undo_51 : decode cX5_undo 51 = .ok (.aload_n 0, 1) := by decide +kernel
theorem dX5_undo_52 : decode cX5_undo 52 = .ok (.getfield 196, 3) := by decide +kernel
theorem dX5_undo_55 : decode cX5_undo 55 = .ok (.ireturn, 1) := by decide +kernel
theorem dX5_turned_0 : decode cX5_turned 0 = .ok (.aload_n 0, 1) := by decide +kernel
theorem dX5_turned_1 : decode cX5_turned 1 = .ok (.getfield 13, 3) := by decide +kernel
theorem dX5_turned_4 : decode cX5_turned 4 = .ok (.iconst 0, 1) := by decide +kernel
theorem dX5_turned_5 : decode cX5_turned 5 = .ok (.aload_n 0, 1) := by decide +kernel
theorem dX5_turned_6 : decode cX5_turned 6 = .ok (.getfield 16, 3) := by decide +kernel
theorem dX5_turned_9 : decode cX5_turned 9 = .ok (.iconst 0, 1) := by decide +kernel
theorem dX5_turned_10 : decode cX5_turned 10 = .ok (.invokestatic 192, 3) := by decide +kernel
theorem dX5_turned_13 : decode cX5_turned 13 = .ok (.lconst 0, 1) := by decide +kernel
theorem dX5_turned_14 : decode cX5_turned 14 = .ok (.lstore_n 3, 1) := by decide +kernel
theorem dX5_turned_15 : decode cX5_turned 15 = .ok (.iconst 0, 1) := by decide +kernel
theorem dX5_turned_16 : decode cX5_turned 16 = .ok (.istore 5, 2) := by decide +kernel
theorem dX5_turned_18 : decode cX5_turned 18 = .ok (.iload 5, 2) := by decide +kernel
theorem dX5_turned_20 : decode cX5_turned 20 = .ok (.iconst 4, 1) := by decide +kernel
theorem dX5_turned_21 : decode cX5_turned 21 = .ok (.if_icmp .ge 64, 3) := by decide +kernel
theorem dX5_turned_24 : decode cX5_turned 24 = .ok (.ldc2_w 227, 3) := by decide +kernel
theorem dX5_turned_27 : decode cX5_turned 27 = .ok (.aload_n 0, 1) := by decide +kernel
theorem dX5_turned_28 : decode cX5_turned 28 = .ok (.getfield 16, 3) := by decide +kernel
theorem dX5_turned_31 : decode cX5_turned 31 = .ok (.iload_n 1, 1) := by decide +kernel
theorem dX5_turned_32 : decode cX5_turned 32 = .ok (.iload_n 2, 1) := by decide +kernel
theorem dX5_turned_33 : decode cX5_turned 33 = .ok (.iload 5, 2) := by decide +kernel
theorem dX5_turned_35 : decode cX5_turned 35 = .ok (.invokestatic 152, 3) := by decide +kernel
theorem dX5_turned_38 : decode cX5_turned 38 = .ok (.i2l, 1) := by decide +kernel
theorem dX5_turned_39 : decode cX5_turned 39 = .ok (.lmul, 1) := by decide +kernel
theorem dX5_turned_40 : decode cX5_turned 40 = .ok (.ldc2_w 199, 3) := by decide +kernel
theorem dX5_turned_43 : decode cX5_turned 43 = .ok (.aload_n 0, 1) := by decide +kernel
theorem dX5_turned_44 : decode cX5_turned 44 = .ok (.getfield 16, 3) := by decide +kernel
theorem dX5_turned_47 : decode cX5_turned 47 = .ok (.iload_n 1, 1) := by decide +kernel
theorem dX5_turned_48 : decode cX5_turned 48 = .ok (.invokestatic 72, 3) := by decide +kernel
theorem dX5_turned_51 : decode cX5_turned 51 = .ok (.i2l, 1) := by decide +kernel
theorem dX5_turned_52 : decode cX5_turned 52 = .ok (.lmul, 1) := by decide +kernel
theorem dX5_turned_53 : decode cX5_turned 53 = .ok (.ladd, 1) := by decide +kernel
theorem dX5_turned_54 : decode cX5_turned 54 = .ok (.iload 5, 2) := by decide +kernel
theorem dX5_turned_56 : decode cX5_turned 56 = .ok (.i2l, 1) := by decide +kernel
theorem dX5_turned_57 : decode cX5_turned 57 = .ok (.ladd, 1) := by decide +kernel
theorem dX5_turned_58 : decode cX5_turned 58 = .ok (.lstore 6, 2) := by decide +kernel
theorem dX5_turned_60 : decode cX5_turned 60 = .ok (.iload 5, 2) := by decide +kernel
theorem dX5_turned_62 : decode cX5_turned 62 = .ok (.ifCond .eq 10, 3) := by decide +kernel
theorem dX5_turned_65 : decode cX5_turned 65 = .ok (.lload 6, 2) := by decide +kernel
theorem dX5_turned_67 : decode cX5_turned 67 = .ok (.lload_n 3, 1) := by decide +kernel
theorem dX5_turned_68 : decode cX5_turned 68 = .ok (.lcmp, 1) := by decide +kernel
theorem dX5_turned_69 : decode cX5_turned 69 = .ok (.ifCond .ge 8, 3) := by decide +kernel
theorem dX5_turned_72 : decode cX5_turned 72 = .ok (.lload 6, 2) := by decide +kernel
theorem dX5_turned_74 : decode cX5_turned 74 = .ok (.goto 4, 3) := by decide +kernel
theorem dX5_turned_77 : decode cX5_turned 77 = .ok (.lload_n 3, 1) := by decide +kernel
theorem dX5_turned_78 : decode cX5_turned 78 = .ok (.lstore_n 3, 1) := by decide +kernel
theorem dX5_turned_79 : decode cX5_turned 79 = .ok (.iinc 5 1, 3) := by decide +kernel
theorem dX5_turned_82 : decode cX5_turned 82 = .ok (.goto (-64), 3) := by decide +kernel
theorem dX5_turned_85 : decode cX5_turned 85 = .ok (.lload_n 3, 1) := by decide +kernel
theorem dX5_turned_86 : decode cX5_turned 86 = .ok (.lreturn, 1) := by decide +kernel
theorem dX5_bestTurn_0 : decode cX5_bestTurn 0 = .ok (.aload_n 0, 1) := by decide +kernel
theorem dX5_bestTurn_1 : decode cX5_bestTurn 1 = .ok (.aload_n 0, 1) := by decide +kernel
theorem dX5_bestTurn_2 : decode cX5_bestTurn 2 = .ok (.getfield 13, 3) := by decide +kernel
theorem dX5_bestTurn_5 : decode cX5_bestTurn 5 = .ok (.iload_n 1, 1) := by decide +kernel
theorem dX5_bestTurn_6 : decode cX5_bestTurn 6 = .ok (.invokestatic 96, 3) := by decide +kernel
theorem dX5_bestTurn_9 : decode cX5_bestTurn 9 = .ok (.ifCond .eq 14, 3) := by decide +kernel
theorem dX5_bestTurn_12 : decode cX5_bestTurn 12 = .ok (.aload_n 0, 1) := by decide +kernel
theorem dX5_bestTurn_13 : decode cX5_bestTurn 13 = .ok (.getfield 13, 3) := by decide +kernel
theorem dX5_bestTurn_16 : decode cX5_bestTurn 16 = .ok (.iload_n 2, 1) := by decide +kernel
theorem dX5_bestTurn_17 : decode cX5_bestTurn 17 = .ok (.invokestatic 149, 3) := by decide +kernel
theorem dX5_bestTurn_20 : decode cX5_bestTurn 20 = .ok (.ifCond .ne 7, 3) := by decide +kernel
theorem dX5_bestTurn_23 : decode cX5_bestTurn 23 = .ok (.iconst 1, 1) := by decide +kernel
theorem dX5_bestTurn_24 : decode cX5_bestTurn 24 = .ok (.goto 18, 3) := by decide +kernel
theorem dX5_bestTurn_27 : decode cX5_bestTurn 27 = .ok (.iload_n 3, 1) := by decide +kernel
theorem dX5_bestTurn_28 : decode cX5_bestTurn 28 = .ok (.i2l, 1) := by decide +kernel
theorem dX5_bestTurn_29 : decode cX5_bestTurn 29 = .ok (.lconst 0, 1) := by decide +kernel
theorem dX5_bestTurn_30 : decode cX5_bestTurn 30 = .ok (.lconst 1, 1) := by decide +kernel
theorem dX5_bestTurn_31 : decode cX5_bestTurn 31 = .ok (.invokestatic 37, 3) := by decide +kernel
theorem dX5_bestTurn_34 : decode cX5_bestTurn 34 = .ok (.ifCond .eq 7, 3) := by decide +kernel
theorem dX5_bestTurn_37 : decode cX5_bestTurn 37 = .ok (.iconst 0, 1) := by decide +kernel
theorem dX5_bestTurn_38 : decode cX5_bestTurn 38 = .ok (.goto 4, 3) := by decide +kernel
theorem dX5_bestTurn_41 : decode cX5_bestTurn 41 = .ok (.iconst 2, 1) := by decide +kernel
theorem dX5_bestTurn_42 : decode cX5_bestTurn 42 = .ok (.invokevirtual 105, 3) := by decide +kernel
theorem dX5_bestTurn_45 : decode cX5_bestTurn 45 = .ok (.ifCond .eq 5, 3) := by decide +kernel
theorem dX5_bestTurn_48 : decode cX5_bestTurn 48 = .ok (.iconst 0, 1) := by decide +kernel
theorem dX5_bestTurn_49 : decode cX5_bestTurn 49 = .ok (.ireturn, 1) := by decide +kernel
theorem dX5_bestTurn_50 : decode cX5_bestTurn 50 = .ok (.aload_n 0, 1) := by decide +kernel
theorem dX5_bestTurn_51 : decode cX5_bestTurn 51 = .ok (.iload_n 1, 1) := by decide +kernel
theorem dX5_bestTurn_52 : decode cX5_bestTurn 52 = .ok (.iload_n 2, 1) := by decide +kernel
theorem dX5_bestTurn_53 : decode cX5_bestTurn 53 = .ok (.invokevirtual 229, 3) := by decide +kernel
theorem dX5_bestTurn_56 : decode cX5_bestTurn 56 = .ok (.lstore 4, 2) := by decide +kernel
theorem dX5_bestTurn_58 : decode cX5_bestTurn 58 = .ok (.iload_n 3, 1) := by decide +kernel
theorem dX5_bestTurn_59 : decode cX5_bestTurn 59 = .ok (.ifCond .ne 13, 3) := by decide +kernel
theorem dX5_bestTurn_62 : decode cX5_bestTurn 62 = .ok (.lload 4, 2) := by decide +kernel
theorem dX5_bestTurn_64 : decode cX5_bestTurn 64 = .ok (.ldc2_w 199, 3) := by decide +kernel
theorem dX5_bestTurn_67 : decode cX5_bestTurn 67 = .ok (.lrem, 1) := by decide +kernel
theorem dX5_bestTurn_68 : decode cX5_bestTurn 68 = .ok (.l2i, 1) := by decide +kernel
theorem dX5_bestTurn_69 : decode cX5_bestTurn 69 = .ok (.goto 10, 3) := by decide +kernel
theorem dX5_bestTurn_72 : decode cX5_bestTurn 72 = .ok (.lload 4, 2) := by decide +kernel
theorem dX5_bestTurn_74 : decode cX5_bestTurn 74 = .ok (.ldc2_w 227, 3) := by decide +kernel
theorem dX5_bestTurn_77 : decode cX5_bestTurn 77 = .ok (.ldiv, 1) := by decide +kernel
theorem dX5_bestTurn_78 : decode cX5_bestTurn 78 = .ok (.l2i, 1) := by decide +kernel
theorem dX5_bestTurn_79 : decode cX5_bestTurn 79 = .ok (.ireturn, 1) := by decide +kernel
theorem dX5_bestSaw_0 : decode cX5_bestSaw 0 = .ok (.aload_n 0, 1) := by decide +kernel
theorem dX5_bestSaw_1 : decode cX5_bestSaw 1 = .ok (.aload_n 0, 1) := by decide +kernel
theorem dX5_bestSaw_2 : decode cX5_bestSaw 2 = .ok (.getfield 13, 3) := by decide +kernel
theorem dX5_bestSaw_5 : decode cX5_bestSaw 5 = .ok (.iload_n 1, 1) := by decide +kernel
theorem dX5_bestSaw_6 : decode cX5_bestSaw 6 = .ok (.invokestatic 96, 3) := by decide +kernel
theorem dX5_bestSaw_9 : decode cX5_bestSaw 9 = .ok (.ifCond .eq 7, 3) := by decide +kernel
theorem dX5_bestSaw_12 : decode cX5_bestSaw 12 = .ok (.iconst 0, 1) := by decide +kernel
theorem dX5_bestSaw_13 : decode cX5_bestSaw 13 = .ok (.goto 4, 3) := by decide +kernel
end
section
theorem dX5_bestSaw_16 : decode cX5_bestSaw 16 = .ok (.iconst 1, 1) := by decide +kernel
theorem dX5_bestSaw_17 : decode cX5_bestSaw 17 = .ok (.invokevirtual 105, 3) := by decide +kernel
theorem dX5_bestSaw_20 : decode cX5_bestSaw 20 = .ok (.ifCond .eq 5, 3) := by decide +kernel
theorem dX5_bestSaw_23 : decode cX5_bestSaw 23 = .ok (.iconst 0, 1) := by decide +kernel
theorem dX5_bestSaw_24 : decode cX5_bestSaw 24 = .ok (.ireturn, 1) := by decide +kernel
theorem dX5_bestSaw_25 : decode cX5_bestSaw 25 = .ok (.aload_n 0, 1) := by decide +kernel
theorem dX5_bestSaw_26 : decode cX5_bestSaw 26 = .ok (.getfield 13, 3) := by decide +kernel
theorem dX5_bestSaw_29 : decode cX5_bestSaw 29 = .ok (.iload_n 1, 1) := by decide +kernel
theorem dX5_bestSaw_30 : decode cX5_bestSaw 30 = .ok (.invokestatic 69, 3) := by decide +kernel
theorem dX5_bestSaw_33 : decode cX5_bestSaw 33 = .ok (.istore_n 2, 1) := by decide +kernel
theorem dX5_bestSaw_34 : decode cX5_bestSaw 34 = .ok (.iconst (-1), 1) := by decide +kernel
theorem dX5_bestSaw_35 : decode cX5_bestSaw 35 = .ok (.istore_n 3, 1) := by decide +kernel
theorem dX5_bestSaw_36 : decode cX5_bestSaw 36 = .ok (.iconst 0, 1) := by decide +kernel
theorem dX5_bestSaw_37 : decode cX5_bestSaw 37 = .ok (.istore 4, 2) := by decide +kernel
theorem dX5_bestSaw_39 : decode cX5_bestSaw 39 = .ok (.iconst 0, 1) := by decide +kernel
theorem dX5_bestSaw_40 : decode cX5_bestSaw 40 = .ok (.istore 5, 2) := by decide +kernel
theorem dX5_bestSaw_42 : decode cX5_bestSaw 42 = .ok (.iload 5, 2) := by decide +kernel
theorem dX5_bestSaw_44 : decode cX5_bestSaw 44 = .ok (.iconst 4, 1) := by decide +kernel
theorem dX5_bestSaw_45 : decode cX5_bestSaw 45 = .ok (.if_icmp .ge 120, 3) := by decide +kernel
theorem dX5_bestSaw_48 : decode cX5_bestSaw 48 = .ok (.iload_n 2, 1) := by decide +kernel
theorem dX5_bestSaw_49 : decode cX5_bestSaw 49 = .ok (.ifCond .le 116, 3) := by decide +kernel
theorem dX5_bestSaw_52 : decode cX5_bestSaw 52 = .ok (.aload_n 0, 1) := by decide +kernel
theorem dX5_bestSaw_53 : decode cX5_bestSaw 53 = .ok (.getfield 13, 3) := by decide +kernel
theorem dX5_bestSaw_56 : decode cX5_bestSaw 56 = .ok (.iload_n 1, 1) := by decide +kernel
theorem dX5_bestSaw_57 : decode cX5_bestSaw 57 = .ok (.iload 5, 2) := by decide +kernel
theorem dX5_bestSaw_59 : decode cX5_bestSaw 59 = .ok (.iload_n 2, 1) := by decide +kernel
theorem dX5_bestSaw_60 : decode cX5_bestSaw 60 = .ok (.invokestatic 128, 3) := by decide +kernel
theorem dX5_bestSaw_63 : decode cX5_bestSaw 63 = .ok (.ifCond .eq 96, 3) := by decide +kernel
theorem dX5_bestSaw_66 : decode cX5_bestSaw 66 = .ok (.aload_n 0, 1) := by decide +kernel
theorem dX5_bestSaw_67 : decode cX5_bestSaw 67 = .ok (.getfield 13, 3) := by decide +kernel
theorem dX5_bestSaw_70 : decode cX5_bestSaw 70 = .ok (.iconst 0, 1) := by decide +kernel
theorem dX5_bestSaw_71 : decode cX5_bestSaw 71 = .ok (.aload_n 0, 1) := by decide +kernel
theorem dX5_bestSaw_72 : decode cX5_bestSaw 72 = .ok (.getfield 16, 3) := by decide +kernel
theorem dX5_bestSaw_75 : decode cX5_bestSaw 75 = .ok (.iconst 0, 1) := by decide +kernel
theorem dX5_bestSaw_76 : decode cX5_bestSaw 76 = .ok (.invokestatic 192, 3) := by decide +kernel
theorem dX5_bestSaw_79 : decode cX5_bestSaw 79 = .ok (.aload_n 0, 1) := by decide +kernel
theorem dX5_bestSaw_80 : decode cX5_bestSaw 80 = .ok (.getfield 16, 3) := by decide +kernel
theorem dX5_bestSaw_83 : decode cX5_bestSaw 83 = .ok (.iload_n 1, 1) := by decide +kernel
theorem dX5_bestSaw_84 : decode cX5_bestSaw 84 = .ok (.iload 5, 2) := by decide +kernel
theorem dX5_bestSaw_86 : decode cX5_bestSaw 86 = .ok (.iload_n 2, 1) := by decide +kernel
theorem dX5_bestSaw_87 : decode cX5_bestSaw 87 = .ok (.invokestatic 132, 3) := by decide +kernel
theorem dX5_bestSaw_90 : decode cX5_bestSaw 90 = .ok (.pop, 1) := by decide +kernel
theorem dX5_bestSaw_91 : decode cX5_bestSaw 91 = .ok (.aload_n 0, 1) := by decide +kernel
theorem dX5_bestSaw_92 : decode cX5_bestSaw 92 = .ok (.getfield 16, 3) := by decide +kernel
theorem dX5_bestSaw_95 : decode cX5_bestSaw 95 = .ok (.iload_n 1, 1) := by decide +kernel
theorem dX5_bestSaw_96 : decode cX5_bestSaw 96 = .ok (.invokestatic 69, 3) := by decide +kernel
theorem dX5_bestSaw_99 : decode cX5_bestSaw 99 = .ok (.ifCond .ne 25, 3) := by decide +kernel
theorem dX5_bestSaw_102 : decode cX5_bestSaw 102 = .ok (.iload_n 3, 1) := by decide +kernel
theorem dX5_bestSaw_103 : decode cX5_bestSaw 103 = .ok (.iconst (-1), 1) := by decide +kernel
theorem dX5_bestSaw_104 : decode cX5_bestSaw 104 = .ok (.if_icmp .eq 16, 3) := by decide +kernel
theorem dX5_bestSaw_107 : decode cX5_bestSaw 107 = .ok (.aload_n 0, 1) := by decide +kernel
theorem dX5_bestSaw_108 : decode cX5_bestSaw 108 = .ok (.getfield 16, 3) := by decide +kernel
theorem dX5_bestSaw_111 : decode cX5_bestSaw 111 = .ok (.iload_n 1, 1) := by decide +kernel
theorem dX5_bestSaw_112 : decode cX5_bestSaw 112 = .ok (.invokestatic 72, 3) := by decide +kernel
theorem dX5_bestSaw_115 : decode cX5_bestSaw 115 = .ok (.iload 4, 2) := by decide +kernel
theorem dX5_bestSaw_117 : decode cX5_bestSaw 117 = .ok (.if_icmp .ge 7, 3) := by decide +kernel
theorem dX5_bestSaw_120 : decode cX5_bestSaw 120 = .ok (.iconst 1, 1) := by decide +kernel
theorem dX5_bestSaw_121 : decode cX5_bestSaw 121 = .ok (.goto 4, 3) := by decide +kernel
theorem dX5_bestSaw_124 : decode cX5_bestSaw 124 = .ok (.iconst 0, 1) := by decide +kernel
theorem dX5_bestSaw_125 : decode cX5_bestSaw 125 = .ok (.istore 6, 2) := by decide +kernel
theorem dX5_bestSaw_127 : decode cX5_bestSaw 127 = .ok (.iload 6, 2) := by decide +kernel
theorem dX5_bestSaw_129 : decode cX5_bestSaw 129 = .ok (.ifCond .eq 8, 3) := by decide +kernel
theorem dX5_bestSaw_132 : decode cX5_bestSaw 132 = .ok (.iload 5, 2) := by decide +kernel
theorem dX5_bestSaw_134 : decode cX5_bestSaw 134 = .ok (.goto 4, 3) := by decide +kernel
theorem dX5_bestSaw_137 : decode cX5_bestSaw 137 = .ok (.iload_n 3, 1) := by decide +kernel
theorem dX5_bestSaw_138 : decode cX5_bestSaw 138 = .ok (.istore_n 3, 1) := by decide +kernel
theorem dX5_bestSaw_139 : decode cX5_bestSaw 139 = .ok (.iload 6, 2) := by decide +kernel
theorem dX5_bestSaw_141 : decode cX5_bestSaw 141 = .ok (.ifCond .eq 14, 3) := by decide +kernel
theorem dX5_bestSaw_144 : decode cX5_bestSaw 144 = .ok (.aload_n 0, 1) := by decide +kernel
theorem dX5_bestSaw_145 : decode cX5_bestSaw 145 = .ok (.getfield 16, 3) := by decide +kernel
theorem dX5_bestSaw_148 : decode cX5_bestSaw 148 = .ok (.iload_n 1, 1) := by decide +kernel
theorem dX5_bestSaw_149 : decode cX5_bestSaw 149 = .ok (.invokestatic 72, 3) := by decide +kernel
theorem dX5_bestSaw_152 : decode cX5_bestSaw 152 = .ok (.goto 5, 3) := by decide +kernel
theorem dX5_bestSaw_155 : decode cX5_bestSaw 155 = .ok (.iload 4, 2) := by decide +kernel
theorem dX5_bestSaw_157 : decode cX5_bestSaw 157 = .ok (.istore 4, 2) := by decide +kernel
theorem dX5_bestSaw_159 : decode cX5_bestSaw 159 = .ok (.iinc 5 1, 3) := by decide +kernel
theorem dX5_bestSaw_162 : decode cX5_bestSaw 162 = .ok (.goto (-120), 3) := by decide +kernel
theorem dX5_bestSaw_165 : decode cX5_bestSaw 165 = .ok (.iload_n 3, 1) := by decide +kernel
theorem dX5_bestSaw_166 : decode cX5_bestSaw 166 = .ok (.ireturn, 1) := by decide +kernel
theorem dX5_failsIn_0 : decode cX5_failsIn 0 = .ok (.aload_n 0, 1) := by decide +kernel
theorem dX5_failsIn_1 : decode cX5_failsIn 1 = .ok (.aload_n 0, 1) := by decide +kernel
theorem dX5_failsIn_2 : decode cX5_failsIn 2 = .ok (.getfield 13, 3) := by decide +kernel
theorem dX5_failsIn_5 : decode cX5_failsIn 5 = .ok (.iload_n 1, 1) := by decide +kernel
theorem dX5_failsIn_6 : decode cX5_failsIn 6 = .ok (.invokestatic 96, 3) := by decide +kernel
theorem dX5_failsIn_9 : decode cX5_failsIn 9 = .ok (.ifCond .ne 7, 3) := by decide +kernel
theorem dX5_failsIn_12 : decode cX5_failsIn 12 = .ok (.iconst 1, 1) := by decide +kernel
theorem dX5_failsIn_13 : decode cX5_failsIn 13 = .ok (.goto 20, 3) := by decide +kernel
theorem dX5_failsIn_16 : decode cX5_failsIn 16 = .ok (.iload_n 2, 1) := by decide +kernel
theorem dX5_failsIn_17 : decode cX5_failsIn 17 = .ok (.i2l, 1) := by decide +kernel
theorem dX5_failsIn_18 : decode cX5_failsIn 18 = .ok (.lconst 1, 1) := by decide +kernel
theorem dX5_failsIn_19 : decode cX5_failsIn 19 = .ok (.ldc2_w 47, 3) := by decide +kernel
theorem dX5_failsIn_22 : decode cX5_failsIn 22 = .ok (.invokestatic 37, 3) := by decide +kernel
theorem dX5_failsIn_25 : decode cX5_failsIn 25 = .ok (.ifCond .eq 7, 3) := by decide +kernel
theorem dX5_failsIn_28 : decode cX5_failsIn 28 = .ok (.iconst 0, 1) := by decide +kernel
theorem dX5_failsIn_29 : decode cX5_failsIn 29 = .ok (.goto 4, 3) := by decide +kernel
theorem dX5_failsIn_32 : decode cX5_failsIn 32 = .ok (.iconst 2, 1) := by decide +kernel
theorem dX5_failsIn_33 : decode cX5_failsIn 33 = .ok (.invokevirtual 105, 3) := by decide +kernel
theorem dX5_failsIn_36 : decode cX5_failsIn 36 = .ok (.ifCond .eq 5, 3) := by decide +kernel
theorem dX5_failsIn_39 : decode cX5_failsIn 39 = .ok (.iconst 0, 1) := by decide +kernel
theorem dX5_failsIn_40 : decode cX5_failsIn 40 = .ok (.ireturn, 1) := by decide +kernel
theorem dX5_failsIn_41 : decode cX5_failsIn 41 = .ok (.aload_n 0, 1) := by decide +kernel
theorem dX5_failsIn_42 : decode cX5_failsIn 42 = .ok (.getfield 13, 3) := by decide +kernel
theorem dX5_failsIn_45 : decode cX5_failsIn 45 = .ok (.iconst 0, 1) := by decide +kernel
theorem dX5_failsIn_46 : decode cX5_failsIn 46 = .ok (.aload_n 0, 1) := by decide +kernel
theorem dX5_failsIn_47 : decode cX5_failsIn 47 = .ok (.getfield 16, 3) := by decide +kernel
theorem dX5_failsIn_50 : decode cX5_failsIn 50 = .ok (.iconst 0, 1) := by decide +kernel
theorem dX5_failsIn_51 : decode cX5_failsIn 51 = .ok (.invokestatic 192, 3) := by decide +kernel
theorem dX5_failsIn_54 : decode cX5_failsIn 54 = .ok (.iconst 0, 1) := by decide +kernel
theorem dX5_failsIn_55 : decode cX5_failsIn 55 = .ok (.istore_n 3, 1) := by decide +kernel
theorem dX5_failsIn_56 : decode cX5_failsIn 56 = .ok (.iload_n 3, 1) := by decide +kernel
theorem dX5_failsIn_57 : decode cX5_failsIn 57 = .ok (.bipush 100, 2) := by decide +kernel
theorem dX5_failsIn_59 : decode cX5_failsIn 59 = .ok (.if_icmp .gt 32, 3) := by decide +kernel
theorem dX5_failsIn_62 : decode cX5_failsIn 62 = .ok (.aload_n 0, 1) := by decide +kernel
theorem dX5_failsIn_63 : decode cX5_failsIn 63 = .ok (.getfield 16, 3) := by decide +kernel
theorem dX5_failsIn_66 : decode cX5_failsIn 66 = .ok (.iload_n 1, 1) := by decide +kernel
theorem dX5_failsIn_67 : decode cX5_failsIn 67 = .ok (.invokestatic 90, 3) := by decide +kernel
theorem dX5_failsIn_70 : decode cX5_failsIn 70 = .ok (.ifCond .le 5, 3) := by decide +kernel
theorem dX5_failsIn_73 : decode cX5_failsIn 73 = .ok (.iload_n 3, 1) := by decide +kernel
theorem dX5_failsIn_74 : decode cX5_failsIn 74 = .ok (.ireturn, 1) := by decide +kernel
theorem dX5_failsIn_75 : decode cX5_failsIn 75 = .ok (.aload_n 0, 1) := by decide +kernel
theorem dX5_failsIn_76 : decode cX5_failsIn 76 = .ok (.getfield 16, 3) := by decide +kernel
theorem dX5_failsIn_79 : decode cX5_failsIn 79 = .ok (.iload_n 1, 1) := by decide +kernel
theorem dX5_failsIn_80 : decode cX5_failsIn 80 = .ok (.iload_n 2, 1) := by decide +kernel
theorem dX5_failsIn_81 : decode cX5_failsIn 81 = .ok (.invokestatic 179, 3) := by decide +kernel
theorem dX5_failsIn_84 : decode cX5_failsIn 84 = .ok (.pop, 1) := by decide +kernel
theorem dX5_failsIn_85 : decode cX5_failsIn 85 = .ok (.iinc 3 1, 3) := by decide +kernel
theorem dX5_failsIn_88 : decode cX5_failsIn 88 = .ok (.goto (-32), 3) := by decide +kernel
theorem dX5_failsIn_91 : decode cX5_failsIn 91 = .ok (.iconst (-1), 1) := by decide +kernel
theorem dX5_failsIn_92 : decode cX5_failsIn 92 = .ok (.ireturn, 1) := by decide +kernel
theorem dX5_bestFloor_0 : decode cX5_bestFloor 0 = .ok (.aload_n 0, 1) := by decide +kernel
theorem dX5_bestFloor_1 : decode cX5_bestFloor 1 = .ok (.aload_n 0, 1) := by decide +kernel
theorem dX5_bestFloor_2 : decode cX5_bestFloor 2 = .ok (.getfield 13, 3) := by decide +kernel
theorem dX5_bestFloor_5 : decode cX5_bestFloor 5 = .ok (.iload_n 1, 1) := by decide +kernel
theorem dX5_bestFloor_6 : decode cX5_bestFloor 6 = .ok (.invokestatic 96, 3) := by decide +kernel
theorem dX5_bestFloor_9 : decode cX5_bestFloor 9 = .ok (.ifCond .eq 7, 3) := by decide +kernel
theorem dX5_bestFloor_12 : decode cX5_bestFloor 12 = .ok (.iconst 0, 1) := by decide +kernel
theorem dX5_bestFloor_13 : decode cX5_bestFloor 13 = .ok (.goto 4, 3) := by decide +kernel
theorem dX5_bestFloor_16 : decode cX5_bestFloor 16 = .ok (.iconst 1, 1) := by decide +kernel
theorem dX5_bestFloor_17 : decode cX5_bestFloor 17 = .ok (.invokevirtual 105, 3) := by decide +kernel
theorem dX5_bestFloor_20 : decode cX5_bestFloor 20 = .ok (.ifCond .eq 5, 3) := by decide +kernel
theorem dX5_bestFloor_23 : decode cX5_bestFloor 23 = .ok (.iconst 0, 1) := by decide +kernel
theorem dX5_bestFloor_24 : decode cX5_bestFloor 24 = .ok (.ireturn, 1) := by decide +kernel
theorem dX5_bestFloor_25 : decode cX5_bestFloor 25 = .ok (.iconst 0, 1) := by decide +kernel
theorem dX5_bestFloor_26 : decode cX5_bestFloor 26 = .ok (.istore_n 2, 1) := by decide +kernel
theorem dX5_bestFloor_27 : decode cX5_bestFloor 27 = .ok (.iconst 1, 1) := by decide +kernel
theorem dX5_bestFloor_28 : decode cX5_bestFloor 28 = .ok (.istore_n 3, 1) := by decide +kernel
theorem dX5_bestFloor_29 : decode cX5_bestFloor 29 = .ok (.iload_n 3, 1) := by decide +kernel
theorem dX5_bestFloor_30 : decode cX5_bestFloor 30 = .ok (.aload_n 0, 1) := by decide +kernel
theorem dX5_bestFloor_31 : decode cX5_bestFloor 31 = .ok (.getfield 13, 3) := by decide +kernel
theorem dX5_bestFloor_34 : decode cX5_bestFloor 34 = .ok (.iconst 1, 1) := by decide +kernel
theorem dX5_bestFloor_35 : decode cX5_bestFloor 35 = .ok (.iaload, 1) := by decide +kernel
theorem dX5_bestFloor_36 : decode cX5_bestFloor 36 = .ok (.if_icmp .ge 39, 3) := by decide +kernel
theorem dX5_bestFloor_39 : decode cX5_bestFloor 39 = .ok (.aload_n 0, 1) := by decide +kernel
theorem dX5_bestFloor_40 : decode cX5_bestFloor 40 = .ok (.iload_n 1, 1) := by decide +kernel
theorem dX5_bestFloor_41 : decode cX5_bestFloor 41 = .ok (.iload_n 3, 1) := by decide +kernel
theorem dX5_bestFloor_42 : decode cX5_bestFloor 42 = .ok (.invokevirtual 229, 3) := by decide +kernel
theorem dX5_bestFloor_45 : decode cX5_bestFloor 45 = .ok (.ldc2_w 227, 3) := by decide +kernel
theorem dX5_bestFloor_48 : decode cX5_bestFloor 48 = .ok (.ldiv, 1) := by decide +kernel
theorem dX5_bestFloor_49 : decode cX5_bestFloor 49 = .ok (.aload_n 0, 1) := by decide +kernel
theorem dX5_bestFloor_50 : decode cX5_bestFloor 50 = .ok (.iload_n 1, 1) := by decide +kernel
theorem dX5_bestFloor_51 : decode cX5_bestFloor 51 = .ok (.iload_n 2, 1) := by decide +kernel
theorem dX5_bestFloor_52 : decode cX5_bestFloor 52 = .ok (.invokevirtual 229, 3) := by decide +kernel
theorem dX5_bestFloor_55 : decode cX5_bestFloor 55 = .ok (.ldc2_w 227, 3) := by decide +kernel
theorem dX5_bestFloor_58 : decode cX5_bestFloor 58 = .ok (.ldiv, 1) := by decide +kernel
theorem dX5_bestFloor_59 : decode cX5_bestFloor 59 = .ok (.lcmp, 1) := by decide +kernel
theorem dX5_bestFloor_60 : decode cX5_bestFloor 60 = .ok (.ifCond .ge 7, 3) := by decide +kernel
theorem dX5_bestFloor_63 : decode cX5_bestFloor 63 = .ok (.iload_n 3, 1) := by decide +kernel
theorem dX5_bestFloor_64 : decode cX5_bestFloor 64 = .ok (.goto 4, 3) := by decide +kernel
theorem dX5_bestFloor_67 : decode cX5_bestFloor 67 = .ok (.iload_n 2, 1) := by decide +kernel
theorem dX5_bestFloor_68 : decode cX5_bestFloor 68 = .ok (.istore_n 2, 1) := by decide +kernel
theorem dX5_bestFloor_69 : decode cX5_bestFloor 69 = .ok (.iinc 3 1, 3) := by decide +kernel
theorem dX5_bestFloor_72 : decode cX5_bestFloor 72 = .ok (.goto (-43), 3) := by decide +kernel
theorem dX5_bestFloor_75 : decode cX5_bestFloor 75 = .ok (.iload_n 2, 1) := by decide +kernel
theorem dX5_bestFloor_76 : decode cX5_bestFloor 76 = .ok (.ireturn, 1) := by decide +kernel
theorem dX5_sound_0 : decode cX5_sound 0 = .ok (.aload_n 0, 1) := by decide +kernel
theorem dX5_sound_1 : decode cX5_sound 1 = .ok (.iconst 0, 1) := by decide +kernel
theorem dX5_sound_2 : decode cX5_sound 2 = .ok (.putfield 33, 3) := by decide +kernel
theorem dX5_sound_5 : decode cX5_sound 5 = .ok (.iconst 0, 1) := by decide +kernel
theorem dX5_sound_6 : decode cX5_sound 6 = .ok (.istore_n 1, 1) := by decide +kernel
theorem dX5_sound_7 : decode cX5_sound 7 = .ok (.iconst 0, 1) := by decide +kernel
theorem dX5_sound_8 : decode cX5_sound 8 = .ok (.istore_n 2, 1) := by decide +kernel
theorem dX5_sound_9 : decode cX5_sound 9 = .ok (.iload_n 2, 1) := by decide +kernel
theorem dX5_sound_10 : decode cX5_sound 10 = .ok (.aload_n 0, 1) := by decide +kernel
theorem dX5_sound_11 : decode cX5_sound 11 = .ok (.getfield 13, 3) := by decide +kernel
theorem dX5_sound_14 : decode cX5_sound 14 = .ok (.iconst 0, 1) := by decide +kernel
theorem dX5_sound_15 : decode cX5_sound 15 = .ok (.iaload, 1) := by decide +kernel
theorem dX5_sound_16 : decode cX5_sound 16 = .ok (.if_icmp .ge 30, 3) := by decide +kernel
theorem dX5_sound_19 : decode cX5_sound 19 = .ok (.iload_n 1, 1) := by decide +kernel
theorem dX5_sound_20 : decode cX5_sound 20 = .ok (.aload_n 0, 1) := by decide +kernel
theorem dX5_sound_21 : decode cX5_sound 21 = .ok (.getfield 13, 3) := by decide +kernel
theorem dX5_sound_24 : decode cX5_sound 24 = .ok (.iload_n 2, 1) := by decide +kernel
theorem dX5_sound_25 : decode cX5_sound 25 = .ok (.invokestatic 90, 3) := by decide +kernel
theorem dX5_sound_28 : decode cX5_sound 28 = .ok (.ifCond .ne 9, 3) := by decide +kernel
theorem dX5_sound_31 : decode cX5_sound 31 = .ok (.iconst 1, 1) := by decide +kernel
theorem dX5_sound_32 : decode cX5_sound 32 = .ok (.iload_n 2, 1) := by decide +kernel
theorem dX5_sound_33 : decode cX5_sound 33 = .ok (.ishl, 1) := by decide +kernel
theorem dX5_sound_34 : decode cX5_sound 34 = .ok (.goto 4, 3) := by decide +kernel
theorem dX5_sound_37 : decode cX5_sound 37 = .ok (.iconst 0, 1) := by decide +kernel
theorem dX5_sound_38 : decode cX5_sound 38 = .ok (.ior, 1) := by decide +kernel
theorem dX5_sound_39 : decode cX5_sound 39 = .ok (.istore_n 1, 1) := by decide +kernel
theorem dX5_sound_40 : decode cX5_sound 40 = .ok (.iinc 2 1, 3) := by decide +kernel
theorem dX5_sound_43 : decode cX5_sound 43 = .ok (.goto (-34), 3) := by decide +kernel
theorem dX5_sound_46 : decode cX5_sound 46 = .ok (.iload_n 1, 1) := by decide +kernel
theorem dX5_sound_47 : decode cX5_sound 47 = .ok (.ireturn, 1) := by decide +kernel
theorem dX5_commandChair_0 : decode cX5_commandChair 0 = .ok (.iload_n 1, 1) := by decide +kernel
theorem dX5_commandChair_1 : decode cX5_commandChair 1 = .ok (.tableswitch 332 1 8 #[47, 103, 159, 212, 242, 332, 278, 301], 47) := by decide +kernel
theorem dX5_commandChair_48 : decode cX5_commandChair 48 = .ok (.iload_n 3, 1) := by decide +kernel
theorem dX5_commandChair_49 : decode cX5_commandChair 49 = .ok (.invokestatic 206, 3) := by decide +kernel
theorem dX5_commandChair_52 : decode cX5_commandChair 52 = .ok (.ifCond .eq 50, 3) := by decide +kernel
theorem dX5_commandChair_55 : decode cX5_commandChair 55 = .ok (.iload 4, 2) := by decide +kernel
theorem dX5_commandChair_57 : decode cX5_commandChair 57 = .ok (.i2l, 1) := by decide +kernel
theorem dX5_commandChair_58 : decode cX5_commandChair 58 = .ok (.lconst 1, 1) := by decide +kernel
theorem dX5_commandChair_59 : decode cX5_commandChair 59 = .ok (.ldc2_w 217, 3) := by decide +kernel
theorem dX5_commandChair_62 : decode cX5_commandChair 62 = .ok (.invokestatic 37, 3) := by decide +kernel
theorem dX5_commandChair_65 : decode cX5_commandChair 65 = .ok (.ifCond .eq 37, 3) := by decide +kernel
theorem dX5_commandChair_68 : decode cX5_commandChair 68 = .ok (.aload_n 0, 1) := by decide +kernel
theorem dX5_commandChair_69 : decode cX5_commandChair 69 = .ok (.getfield 16, 3) := by decide +kernel
theorem dX5_commandChair_72 : decode cX5_commandChair 72 = .ok (.iload_n 2, 1) := by decide +kernel
theorem dX5_commandChair_73 : decode cX5_commandChair 73 = .ok (.iload_n 3, 1) := by decide +kernel
theorem dX5_commandChair_74 : decode cX5_commandChair 74 = .ok (.iload 4, 2) := by decide +kernel
theorem dX5_commandChair_76 : decode cX5_commandChair 76 = .ok (.invokestatic 128, 3) := by decide +kernel
theorem dX5_commandChair_79 : decode cX5_commandChair 79 = .ok (.ifCond .eq 23, 3) := by decide +kernel
theorem dX5_commandChair_82 : decode cX5_commandChair 82 = .ok (.aload_n 0, 1) := by decide +kernel
theorem dX5_commandChair_83 : decode cX5_commandChair 83 = .ok (.getfield 16, 3) := by decide +kernel
theorem dX5_commandChair_86 : decode cX5_commandChair 86 = .ok (.iload_n 2, 1) := by decide +kernel
theorem dX5_commandChair_87 : decode cX5_commandChair 87 = .ok (.iload_n 3, 1) := by decide +kernel
theorem dX5_commandChair_88 : decode cX5_commandChair 88 = .ok (.iload 4, 2) := by decide +kernel
theorem dX5_commandChair_90 : decode cX5_commandChair 90 = .ok (.invokestatic 132, 3) := by decide +kernel
theorem dX5_commandChair_93 : decode cX5_commandChair 93 = .ok (.bipush 100, 2) := by decide +kernel
theorem dX5_commandChair_95 : decode cX5_commandChair 95 = .ok (.if_icmp .lt 7, 3) := by decide +kernel
theorem dX5_commandChair_98 : decode cX5_commandChair 98 = .ok (.iconst 1, 1) := by decide +kernel
theorem dX5_commandChair_99 : decode cX5_commandChair 99 = .ok (.goto 4, 3) := by decide +kernel
theorem dX5_commandChair_102 : decode cX5_commandChair 102 = .ok (.iconst 0, 1) := by decide +kernel
theorem dX5_commandChair_103 : decode cX5_commandChair 103 = .ok (.ireturn, 1) := by decide +kernel
theorem dX5_commandChair_104 : decode cX5_commandChair 104 = .ok (.iload_n 3, 1) := by decide +kernel
theorem dX5_commandChair_105 : decode cX5_commandChair 105 = .ok (.invokestatic 206, 3) := by decide +kernel
theorem dX5_commandChair_108 : decode cX5_commandChair 108 = .ok (.ifCond .eq 50, 3) := by decide +kernel
theorem dX5_commandChair_111 : decode cX5_commandChair 111 = .ok (.iload 4, 2) := by decide +kernel
theorem dX5_commandChair_113 : decode cX5_commandChair 113 = .ok (.i2l, 1) := by decide +kernel
theorem dX5_commandChair_114 : decode cX5_commandChair 114 = .ok (.lconst 1, 1) := by decide +kernel
theorem dX5_commandChair_115 : decode cX5_commandChair 115 = .ok (.ldc2_w 219, 3) := by decide +kernel
theorem dX5_commandChair_118 : decode cX5_commandChair 118 = .ok (.invokestatic 37, 3) := by decide +kernel
theorem dX5_commandChair_121 : decode cX5_commandChair 121 = .ok (.ifCond .eq 37, 3) := by decide +kernel
theorem dX5_commandChair_124 : decode cX5_commandChair 124 = .ok (.aload_n 0, 1) := by decide +kernel
theorem dX5_commandChair_125 : decode cX5_commandChair 125 = .ok (.getfield 16, 3) := by decide +kernel
theorem dX5_commandChair_128 : decode cX5_commandChair 128 = .ok (.iload_n 2, 1) := by decide +kernel
theorem dX5_commandChair_129 : decode cX5_commandChair 129 = .ok (.iload_n 3, 1) := by decide +kernel
theorem dX5_commandChair_130 : decode cX5_commandChair 130 = .ok (.iload 4, 2) := by decide +kernel
theorem dX5_commandChair_132 : decode cX5_commandChair 132 = .ok (.invokestatic 135, 3) := by decide +kernel
theorem dX5_commandChair_135 : decode cX5_commandChair 135 = .ok (.ifCond .eq 23, 3) := by decide +kernel
theorem dX5_commandChair_138 : decode cX5_commandChair 138 = .ok (.aload_n 0, 1) := by decide +kernel
theorem dX5_commandChair_139 : decode cX5_commandChair 139 = .ok (.getfield 16, 3) := by decide +kernel
theorem dX5_commandChair_142 : decode cX5_commandChair 142 = .ok (.iload_n 2, 1) := by decide +kernel
theorem dX5_commandChair_143 : decode cX5_commandChair 143 = .ok (.iload_n 3, 1) := by decide +kernel
theorem dX5_commandChair_144 : decode cX5_commandChair 144 = .ok (.iload 4, 2) := by decide +kernel
theorem dX5_commandChair_146 : decode cX5_commandChair 146 = .ok (.invokestatic 138, 3) := by decide +kernel
theorem dX5_commandChair_149 : decode cX5_commandChair 149 = .ok (.bipush 100, 2) := by decide +kernel
theorem dX5_commandChair_151 : decode cX5_commandChair 151 = .ok (.if_icmp .lt 7, 3) := by decide +kernel
theorem dX5_commandChair_154 : decode cX5_commandChair 154 = .ok (.iconst 1, 1) := by decide +kernel
theorem dX5_commandChair_155 : decode cX5_commandChair 155 = .ok (.goto 4, 3) := by decide +kernel
theorem dX5_commandChair_158 : decode cX5_commandChair 158 = .ok (.iconst 0, 1) := by decide +kernel
theorem dX5_commandChair_159 : decode cX5_commandChair 159 = .ok (.ireturn, 1) := by decide +kernel
theorem dX5_commandChair_160 : decode cX5_commandChair 160 = .ok (.iload 4, 2) := by decide +kernel
theorem dX5_commandChair_162 : decode cX5_commandChair 162 = .ok (.bipush 100, 2) := by decide +kernel
theorem dX5_commandChair_164 : decode cX5_commandChair 164 = .ok (.irem, 1) := by decide +kernel
theorem dX5_commandChair_165 : decode cX5_commandChair 165 = .ok (.ifCond .ne 46, 3) := by decide +kernel
theorem dX5_commandChair_168 : decode cX5_commandChair 168 = .ok (.aload_n 0, 1) := by decide +kernel
theorem dX5_commandChair_169 : decode cX5_commandChair 169 = .ok (.getfield 16, 3) := by decide +kernel
theorem dX5_commandChair_172 : decode cX5_commandChair 172 = .ok (.iload_n 3, 1) := by decide +kernel
theorem dX5_commandChair_173 : decode cX5_commandChair 173 = .ok (.invokestatic 149, 3) := by decide +kernel
theorem dX5_commandChair_176 : decode cX5_commandChair 176 = .ok (.ifCond .eq 35, 3) := by decide +kernel
theorem dX5_commandChair_179 : decode cX5_commandChair 179 = .ok (.iload 4, 2) := by decide +kernel
theorem dX5_commandChair_181 : decode cX5_commandChair 181 = .ok (.bipush 100, 2) := by decide +kernel
theorem dX5_commandChair_183 : decode cX5_commandChair 183 = .ok (.idiv, 1) := by decide +kernel
theorem dX5_commandChair_184 : decode cX5_commandChair 184 = .ok (.invokestatic 206, 3) := by decide +kernel
theorem dX5_commandChair_187 : decode cX5_commandChair 187 = .ok (.ifCond .eq 24, 3) := by decide +kernel
theorem dX5_commandChair_190 : decode cX5_commandChair 190 = .ok (.aload_n 0, 1) := by decide +kernel
theorem dX5_commandChair_191 : decode cX5_commandChair 191 = .ok (.getfield 16, 3) := by decide +kernel
theorem dX5_commandChair_194 : decode cX5_commandChair 194 = .ok (.iload_n 2, 1) := by decide +kernel
theorem dX5_commandChair_195 : decode cX5_commandChair 195 = .ok (.iload_n 3, 1) := by decide +kernel
theorem dX5_commandChair_196 : decode cX5_commandChair 196 = .ok (.iload 4, 2) := by decide +kernel
theorem dX5_commandChair_198 : decode cX5_commandChair 198 = .ok (.bipush 100, 2) := by decide +kernel
theorem dX5_commandChair_200 : decode cX5_commandChair 200 = .ok (.idiv, 1) := by decide +kernel
theorem dX5_commandChair_201 : decode cX5_commandChair 201 = .ok (.invokestatic 152, 3) := by decide +kernel
theorem dX5_commandChair_204 : decode cX5_commandChair 204 = .ok (.ifCond .lt 7, 3) := by decide +kernel
theorem dX5_commandChair_207 : decode cX5_commandChair 207 = .ok (.iconst 1, 1) := by decide +kernel
theorem dX5_commandChair_208 : decode cX5_commandChair 208 = .ok (.goto 4, 3) := by decide +kernel
theorem dX5_commandChair_211 : decode cX5_commandChair 211 = .ok (.iconst 0, 1) := by decide +kernel
theorem dX5_commandChair_212 : decode cX5_commandChair 212 = .ok (.ireturn, 1) := by decide +kernel
theorem dX5_commandChair_213 : decode cX5_commandChair 213 = .ok (.iload_n 3, 1) := by decide +kernel
theorem dX5_commandChair_214 : decode cX5_commandChair 214 = .ok (.ifCond .ne 27, 3) := by decide +kernel
theorem dX5_commandChair_217 : decode cX5_commandChair 217 = .ok (.iload 4, 2) := by decide +kernel
theorem dX5_commandChair_219 : decode cX5_commandChair 219 = .ok (.bipush 10, 2) := by decide +kernel
theorem dX5_commandChair_221 : decode cX5_commandChair 221 = .ok (.if_icmp .ge 20, 3) := by decide +kernel
theorem dX5_commandChair_224 : decode cX5_commandChair 224 = .ok (.aload_n 0, 1) := by decide +kernel
theorem dX5_commandChair_225 : decode cX5_commandChair 225 = .ok (.getfield 16, 3) := by decide +kernel
theorem dX5_commandChair_228 : decode cX5_commandChair 228 = .ok (.iload_n 2, 1) := by decide +kernel
theorem dX5_commandChair_229 : decode cX5_commandChair 229 = .ok (.invokestatic 176, 3) := by decide +kernel
theorem dX5_commandChair_232 : decode cX5_commandChair 232 = .ok (.iload 5, 2) := by decide +kernel
theorem dX5_commandChair_234 : decode cX5_commandChair 234 = .ok (.if_icmp .ne 7, 3) := by decide +kernel
theorem dX5_commandChair_237 : decode cX5_commandChair 237 = .ok (.iconst 1, 1) := by decide +kernel
theorem dX5_commandChair_238 : decode cX5_commandChair 238 = .ok (.goto 4, 3) := by decide +kernel
theorem dX5_commandChair_241 : decode cX5_commandChair 241 = .ok (.iconst 0, 1) := by decide +kernel
theorem dX5_commandChair_242 : decode cX5_commandChair 242 = .ok (.ireturn, 1) := by decide +kernel
theorem dX5_commandChair_243 : decode cX5_commandChair 243 = .ok (.iload_n 3, 1) := by decide +kernel
theorem dX5_commandChair_244 : decode cX5_commandChair 244 = .ok (.ifCond .ne 33, 3) := by decide +kernel
theorem dX5_commandChair_247 : decode cX5_commandChair 247 = .ok (.iload 4, 2) := by decide +kernel
theorem dX5_commandChair_249 : decode cX5_commandChair 249 = .ok (.i2l, 1) := by decide +kernel
theorem dX5_commandChair_250 : decode cX5_commandChair 250 = .ok (.lconst 1, 1) := by decide +kernel
theorem dX5_commandChair_251 : decode cX5_commandChair 251 = .ok (.ldc2_w 47, 3) := by decide +kernel
theorem dX5_commandChair_254 : decode cX5_commandChair 254 = .ok (.invokestatic 37, 3) := by decide +kernel
theorem dX5_commandChair_257 : decode cX5_commandChair 257 = .ok (.ifCond .eq 20, 3) := by decide +kernel
theorem dX5_commandChair_260 : decode cX5_commandChair 260 = .ok (.aload_n 0, 1) := by decide +kernel
theorem dX5_commandChair_261 : decode cX5_commandChair 261 = .ok (.getfield 16, 3) := by decide +kernel
theorem dX5_commandChair_264 : decode cX5_commandChair 264 = .ok (.iload_n 2, 1) := by decide +kernel
theorem dX5_commandChair_265 : decode cX5_commandChair 265 = .ok (.iload 4, 2) := by decide +kernel
theorem dX5_commandChair_267 : decode cX5_commandChair 267 = .ok (.invokestatic 179, 3) := by decide +kernel
theorem dX5_commandChair_270 : decode cX5_commandChair 270 = .ok (.ifCond .lt 7, 3) := by decide +kernel
theorem dX5_commandChair_273 : decode cX5_commandChair 273 = .ok (.iconst 1, 1) := by decide +kernel
theorem dX5_commandChair_274 : decode cX5_commandChair 274 = .ok (.goto 4, 3) := by decide +kernel
theorem dX5_commandChair_277 : decode cX5_commandChair 277 = .ok (.iconst 0, 1) := by decide +kernel
theorem dX5_commandChair_278 : decode cX5_commandChair 278 = .ok (.ireturn, 1) := by decide +kernel
theorem dX5_commandChair_279 : decode cX5_commandChair 279 = .ok (.iload_n 3, 1) := by decide +kernel
theorem dX5_commandChair_280 : decode cX5_commandChair 280 = .ok (.ifCond .ne 20, 3) := by decide +kernel
theorem dX5_commandChair_283 : decode cX5_commandChair 283 = .ok (.aload_n 0, 1) := by decide +kernel
theorem dX5_commandChair_284 : decode cX5_commandChair 284 = .ok (.getfield 16, 3) := by decide +kernel
theorem dX5_commandChair_287 : decode cX5_commandChair 287 = .ok (.iload_n 2, 1) := by decide +kernel
theorem dX5_commandChair_288 : decode cX5_commandChair 288 = .ok (.invokestatic 69, 3) := by decide +kernel
theorem dX5_commandChair_291 : decode cX5_commandChair 291 = .ok (.iload 4, 2) := by decide +kernel
theorem dX5_commandChair_293 : decode cX5_commandChair 293 = .ok (.if_icmp .gt 7, 3) := by decide +kernel
theorem dX5_commandChair_296 : decode cX5_commandChair 296 = .ok (.iconst 1, 1) := by decide +kernel
theorem dX5_commandChair_297 : decode cX5_commandChair 297 = .ok (.goto 4, 3) := by decide +kernel
theorem dX5_commandChair_300 : decode cX5_commandChair 300 = .ok (.iconst 0, 1) := by decide +kernel
theorem dX5_commandChair_301 : decode cX5_commandChair 301 = .ok (.ireturn, 1) := by decide +kernel
theorem dX5_commandChair_302 : decode cX5_commandChair 302 = .ok (.iload_n 3, 1) := by decide +kernel
theorem dX5_commandChair_303 : decode cX5_commandChair 303 = .ok (.ifCond .ne 28, 3) := by decide +kernel
theorem dX5_commandChair_306 : decode cX5_commandChair 306 = .ok (.iload 4, 2) := by decide +kernel
theorem dX5_commandChair_308 : decode cX5_commandChair 308 = .ok (.bipush 10, 2) := by decide +kernel
theorem dX5_commandChair_310 : decode cX5_commandChair 310 = .ok (.if_icmp .ge 21, 3) := by decide +kernel
theorem dX5_commandChair_313 : decode cX5_commandChair 313 = .ok (.aload_n 0, 1) := by decide +kernel
theorem dX5_commandChair_314 : decode cX5_commandChair 314 = .ok (.getfield 16, 3) := by decide +kernel
theorem dX5_commandChair_317 : decode cX5_commandChair 317 = .ok (.iload_n 2, 1) := by decide +kernel
theorem dX5_commandChair_318 : decode cX5_commandChair 318 = .ok (.iconst 3, 1) := by decide +kernel
theorem dX5_commandChair_319 : decode cX5_commandChair 319 = .ok (.invokestatic 51, 3) := by decide +kernel
theorem dX5_commandChair_322 : decode cX5_commandChair 322 = .ok (.iload 5, 2) := by decide +kernel
theorem dX5_commandChair_324 : decode cX5_commandChair 324 = .ok (.if_icmp .ne 7, 3) := by decide +kernel
theorem dX5_commandChair_327 : decode cX5_commandChair 327 = .ok (.iconst 1, 1) := by decide +kernel
theorem dX5_commandChair_328 : decode cX5_commandChair 328 = .ok (.goto 4, 3) := by decide +kernel
theorem dX5_commandChair_331 : decode cX5_commandChair 331 = .ok (.iconst 0, 1) := by decide +kernel
theorem dX5_commandChair_332 : decode cX5_commandChair 332 = .ok (.ireturn, 1) := by decide +kernel
theorem dX5_commandChair_333 : decode cX5_commandChair 333 = .ok (.iload_n 3, 1) := by decide +kernel
theorem dX5_commandChair_334 : decode cX5_commandChair 334 = .ok (.ifCond .ne 20, 3) := by decide +kernel
theorem dX5_commandChair_337 : decode cX5_commandChair 337 = .ok (.aload_n 0, 1) := by decide +kernel
theorem dX5_commandChair_338 : decode cX5_commandChair 338 = .ok (.getfield 16, 3) := by decide +kernel
theorem dX5_commandChair_341 : decode cX5_commandChair 341 = .ok (.iload_n 2, 1) := by decide +kernel
theorem dX5_commandChair_342 : decode cX5_commandChair 342 = .ok (.invokestatic 72, 3) := by decide +kernel
theorem dX5_commandChair_345 : decode cX5_commandChair 345 = .ok (.iload 4, 2) := by decide +kernel
theorem dX5_commandChair_347 : decode cX5_commandChair 347 = .ok (.if_icmp .gt 7, 3) := by decide +kernel
theorem dX5_commandChair_350 : decode cX5_commandChair 350 = .ok (.iconst 1, 1) := by decide +kernel
theorem dX5_commandChair_351 : decode cX5_commandChair 351 = .ok (.goto 4, 3) := by decide +kernel
theorem dX5_commandChair_354 : decode cX5_commandChair 354 = .ok (.iconst 0, 1) := by decide +kernel
theorem dX5_commandChair_355 : decode cX5_commandChair 355 = .ok (.ireturn, 1) := by decide +kernel
theorem dX5_command_0 : decode cX5_command 0 = .ok (.iload_n 2, 1) := by decide +kernel
theorem dX5_command_1 : decode cX5_command 1 = .ok (.sipush 10000, 3) := by decide +kernel
theorem dX5_command_4 : decode cX5_command 4 = .ok (.idiv, 1) := by decide +kernel
theorem dX5_command_5 : decode cX5_command 5 = .ok (.istore_n 3, 1) := by decide +kernel
theorem dX5_command_6 : decode cX5_command 6 = .ok (.iload_n 2, 1) := by decide +kernel
theorem dX5_command_7 : decode cX5_command 7 = .ok (.sipush 1000, 3) := by decide +kernel
theorem dX5_command_10 : decode cX5_command 10 = .ok (.idiv, 1) := by decide +kernel
theorem dX5_command_11 : decode cX5_command 11 = .ok (.bipush 10, 2) := by decide +kernel
theorem dX5_command_13 : decode cX5_command 13 = .ok (.irem, 1) := by decide +kernel
theorem dX5_command_14 : decode cX5_command 14 = .ok (.istore 4, 2) := by decide +kernel
theorem dX5_command_16 : decode cX5_command 16 = .ok (.iload_n 2, 1) := by decide +kernel
theorem dX5_command_17 : decode cX5_command 17 = .ok (.sipush 1000, 3) := by decide +kernel
theorem dX5_command_20 : decode cX5_command 20 = .ok (.irem, 1) := by decide +kernel
theorem dX5_command_21 : decode cX5_command 21 = .ok (.istore 5, 2) := by decide +kernel
theorem dX5_command_23 : decode cX5_command 23 = .ok (.iload_n 1, 1) := by decide +kernel
theorem dX5_command_24 : decode cX5_command 24 = .ok (.bipush 6, 2) := by decide +kernel
theorem dX5_command_26 : decode cX5_command 26 = .ok (.if_icmp .ne 49, 3) := by decide +kernel
theorem dX5_command_29 : decode cX5_command 29 = .ok (.iload_n 3, 1) := by decide +kernel
theorem dX5_command_30 : decode cX5_command 30 = .ok (.invokestatic 206, 3) := by decide +kernel
theorem dX5_command_33 : decode cX5_command 33 = .ok (.ifCond .eq 40, 3) := by decide +kernel
theorem dX5_command_36 : decode cX5_command 36 = .ok (.iload 4, 2) := by decide +kernel
theorem dX5_command_38 : decode cX5_command 38 = .ok (.invokestatic 206, 3) := by decide +kernel
theorem dX5_command_41 : decode cX5_command 41 = .ok (.ifCond .eq 32, 3) := by decide +kernel
theorem dX5_command_44 : decode cX5_command 44 = .ok (.iload 4, 2) := by decide +kernel
theorem dX5_command_46 : decode cX5_command 46 = .ok (.iload 5, 2) := by decide +kernel
theorem dX5_command_48 : decode cX5_command 48 = .ok (.invokestatic 155, 3) := by decide +kernel
theorem dX5_command_51 : decode cX5_command 51 = .ok (.ifCond .eq 22, 3) := by decide +kernel
theorem dX5_command_54 : decode cX5_command 54 = .ok (.aload_n 0, 1) := by decide +kernel
theorem dX5_command_55 : decode cX5_command 55 = .ok (.getfield 16, 3) := by decide +kernel
theorem dX5_command_58 : decode cX5_command 58 = .ok (.iload_n 3, 1) := by decide +kernel
theorem dX5_command_59 : decode cX5_command 59 = .ok (.iload 4, 2) := by decide +kernel
theorem dX5_command_61 : decode cX5_command 61 = .ok (.iload 5, 2) := by decide +kernel
theorem dX5_command_63 : decode cX5_command 63 = .ok (.invokestatic 159, 3) := by decide +kernel
theorem dX5_command_66 : decode cX5_command 66 = .ok (.ifCond .lt 7, 3) := by decide +kernel
theorem dX5_command_69 : decode cX5_command 69 = .ok (.iconst 1, 1) := by decide +kernel
theorem dX5_command_70 : decode cX5_command 70 = .ok (.goto 4, 3) := by decide +kernel
theorem dX5_command_73 : decode cX5_command 73 = .ok (.iconst 0, 1) := by decide +kernel
theorem dX5_command_74 : decode cX5_command 74 = .ok (.ireturn, 1) := by decide +kernel
theorem dX5_command_75 : decode cX5_command 75 = .ok (.iload_n 1, 1) := by decide +kernel
theorem dX5_command_76 : decode cX5_command 76 = .ok (.ifCond .le 35, 3) := by decide +kernel
theorem dX5_command_79 : decode cX5_command 79 = .ok (.aload_n 0, 1) := by decide +kernel
theorem dX5_command_80 : decode cX5_command 80 = .ok (.getfield 16, 3) := by decide +kernel
theorem dX5_command_83 : decode cX5_command 83 = .ok (.iload_n 3, 1) := by decide +kernel
theorem dX5_command_84 : decode cX5_command 84 = .ok (.invokestatic 96, 3) := by decide +kernel
theorem dX5_command_87 : decode cX5_command 87 = .ok (.ifCond .eq 24, 3) := by decide +kernel
theorem dX5_command_90 : decode cX5_command 90 = .ok (.aload_n 0, 1) := by decide +kernel
theorem dX5_command_91 : decode cX5_command 91 = .ok (.iload_n 1, 1) := by decide +kernel
theorem dX5_command_92 : decode cX5_command 92 = .ok (.iload_n 3, 1) := by decide +kernel
theorem dX5_command_93 : decode cX5_command 93 = .ok (.iload 4, 2) := by decide +kernel
theorem dX5_command_95 : decode cX5_command 95 = .ok (.iload 5, 2) := by decide +kernel
theorem dX5_command_97 : decode cX5_command 97 = .ok (.iload_n 2, 1) := by decide +kernel
theorem dX5_command_98 : decode cX5_command 98 = .ok (.bipush 10, 2) := by decide +kernel
theorem dX5_command_100 : decode cX5_command 100 = .ok (.irem, 1) := by decide +kernel
theorem dX5_command_101 : decode cX5_command 101 = .ok (.invokevirtual 233, 3) := by decide +kernel
theorem dX5_command_104 : decode cX5_command 104 = .ok (.ifCond .eq 7, 3) := by decide +kernel
theorem dX5_command_107 : decode cX5_command 107 = .ok (.iconst 1, 1) := by decide +kernel
theorem dX5_command_108 : decode cX5_command 108 = .ok (.goto 4, 3) := by decide +kernel
theorem dX5_command_111 : decode cX5_command 111 = .ok (.iconst 0, 1) := by decide +kernel
theorem dX5_command_112 : decode cX5_command 112 = .ok (.ireturn, 1) := by decide +kernel
theorem dX5_runScript_0 : decode cX5_runScript 0 = .ok (.lconst 1, 1) := by decide +kernel
theorem dX5_runScript_1 : decode cX5_runScript 1 = .ok (.lstore 4, 2) := by decide +kernel
theorem dX5_runScript_3 : decode cX5_runScript 3 = .ok (.iconst 0, 1) := by decide +kernel
theorem dX5_runScript_4 : decode cX5_runScript 4 = .ok (.istore 6, 2) := by decide +kernel
theorem dX5_runScript_6 : decode cX5_runScript 6 = .ok (.iload 6, 2) := by decide +kernel
theorem dX5_runScript_8 : decode cX5_runScript 8 = .ok (.iload_n 1, 1) := by decide +kernel
theorem dX5_runScript_9 : decode cX5_runScript 9 = .ok (.if_icmp .ge 23, 3) := by decide +kernel
theorem dX5_runScript_12 : decode cX5_runScript 12 = .ok (.iload 6, 2) := by decide +kernel
theorem dX5_runScript_14 : decode cX5_runScript 14 = .ok (.iconst 3, 1) := by decide +kernel
theorem dX5_runScript_15 : decode cX5_runScript 15 = .ok (.if_icmp .ge 17, 3) := by decide +kernel
theorem dX5_runScript_18 : decode cX5_runScript 18 = .ok (.lload 4, 2) := by decide +kernel
theorem dX5_runScript_20 : decode cX5_runScript 20 = .ok (.ldc2_w 227, 3) := by decide +kernel
theorem dX5_runScript_23 : decode cX5_runScript 23 = .ok (.lmul, 1) := by decide +kernel
theorem dX5_runScript_24 : decode cX5_runScript 24 = .ok (.lstore 4, 2) := by decide +kernel
theorem dX5_runScript_26 : decode cX5_runScript 26 = .ok (.iinc 6 1, 3) := by decide +kernel
theorem dX5_runScript_29 : decode cX5_runScript 29 = .ok (.goto (-23), 3) := by decide +kernel
theorem dX5_runScript_32 : decode cX5_runScript 32 = .ok (.aload_n 0, 1) := by decide +kernel
theorem dX5_runScript_33 : decode cX5_runScript 33 = .ok (.iload_n 1, 1) := by decide +kernel
theorem dX5_runScript_34 : decode cX5_runScript 34 = .ok (.i2l, 1) := by decide +kernel
theorem dX5_runScript_35 : decode cX5_runScript 35 = .ok (.lconst 1, 1) := by decide +kernel
theorem dX5_runScript_36 : decode cX5_runScript 36 = .ok (.ldc2_w 41, 3) := by decide +kernel
theorem dX5_runScript_39 : decode cX5_runScript 39 = .ok (.invokestatic 37, 3) := by decide +kernel
theorem dX5_runScript_42 : decode cX5_runScript 42 = .ok (.ifCond .eq 19, 3) := by decide +kernel
theorem dX5_runScript_45 : decode cX5_runScript 45 = .ok (.lload_n 2, 1) := by decide +kernel
theorem dX5_runScript_46 : decode cX5_runScript 46 = .ok (.lconst 0, 1) := by decide +kernel
theorem dX5_runScript_47 : decode cX5_runScript 47 = .ok (.lload 4, 2) := by decide +kernel
theorem dX5_runScript_49 : decode cX5_runScript 49 = .ok (.lconst 1, 1) := by decide +kernel
theorem dX5_runScript_50 : decode cX5_runScript 50 = .ok (.lsub, 1) := by decide +kernel
theorem dX5_runScript_51 : decode cX5_runScript 51 = .ok (.invokestatic 37, 3) := by decide +kernel
theorem dX5_runScript_54 : decode cX5_runScript 54 = .ok (.ifCond .eq 7, 3) := by decide +kernel
theorem dX5_runScript_57 : decode cX5_runScript 57 = .ok (.iconst 0, 1) := by decide +kernel
theorem dX5_runScript_58 : decode cX5_runScript 58 = .ok (.goto 4, 3) := by decide +kernel
theorem dX5_runScript_61 : decode cX5_runScript 61 = .ok (.iconst 1, 1) := by decide +kernel
theorem dX5_runScript_62 : decode cX5_runScript 62 = .ok (.invokevirtual 105, 3) := by decide +kernel
theorem dX5_runScript_65 : decode cX5_runScript 65 = .ok (.ifCond .eq 5, 3) := by decide +kernel
theorem dX5_runScript_68 : decode cX5_runScript 68 = .ok (.iconst 0, 1) := by decide +kernel
theorem dX5_runScript_69 : decode cX5_runScript 69 = .ok (.ireturn, 1) := by decide +kernel
theorem dX5_runScript_70 : decode cX5_runScript 70 = .ok (.aload_n 0, 1) := by decide +kernel
theorem dX5_runScript_71 : decode cX5_runScript 71 = .ok (.getfield 13, 3) := by decide +kernel
theorem dX5_runScript_74 : decode cX5_runScript 74 = .ok (.iconst 0, 1) := by decide +kernel
theorem dX5_runScript_75 : decode cX5_runScript 75 = .ok (.aload_n 0, 1) := by decide +kernel
theorem dX5_runScript_76 : decode cX5_runScript 76 = .ok (.getfield 16, 3) := by decide +kernel
theorem dX5_runScript_79 : decode cX5_runScript 79 = .ok (.iconst 0, 1) := by decide +kernel
theorem dX5_runScript_80 : decode cX5_runScript 80 = .ok (.invokestatic 192, 3) := by decide +kernel
theorem dX5_runScript_83 : decode cX5_runScript 83 = .ok (.iconst 0, 1) := by decide +kernel
theorem dX5_runScript_84 : decode cX5_runScript 84 = .ok (.istore 6, 2) := by decide +kernel
theorem dX5_runScript_86 : decode cX5_runScript 86 = .ok (.iload 6, 2) := by decide +kernel
theorem dX5_runScript_88 : decode cX5_runScript 88 = .ok (.iload_n 1, 1) := by decide +kernel
theorem dX5_runScript_89 : decode cX5_runScript 89 = .ok (.if_icmp .ge 48, 3) := by decide +kernel
theorem dX5_runScript_92 : decode cX5_runScript 92 = .ok (.lload 4, 2) := by decide +kernel
theorem dX5_runScript_94 : decode cX5_runScript 94 = .ok (.ldc2_w 227, 3) := by decide +kernel
theorem dX5_runScript_97 : decode cX5_runScript 97 = .ok (.ldiv, 1) := by decide +kernel
theorem dX5_runScript_98 : decode cX5_runScript 98 = .ok (.lstore 4, 2) := by decide +kernel
theorem dX5_runScript_100 : decode cX5_runScript 100 = .ok (.lload_n 2, 1) := by decide +kernel
theorem dX5_runScript_101 : decode cX5_runScript 101 = .ok (.lload 4, 2) := by decide +kernel
theorem dX5_runScript_103 : decode cX5_runScript 103 = .ok (.ldiv, 1) := by decide +kernel
theorem dX5_runScript_104 : decode cX5_runScript 104 = .ok (.ldc2_w 227, 3) := by decide +kernel
theorem dX5_runScript_107 : decode cX5_runScript 107 = .ok (.lrem, 1) := by decide +kernel
theorem dX5_runScript_108 : decode cX5_runScript 108 = .ok (.l2i, 1) := by decide +kernel
theorem dX5_runScript_109 : decode cX5_runScript 109 = .ok (.istore 7, 2) := by decide +kernel
theorem dX5_runScript_111 : decode cX5_runScript 111 = .ok (.aload_n 0, 1) := by decide +kernel
theorem dX5_runScript_112 : decode cX5_runScript 112 = .ok (.iload 7, 2) := by decide +kernel
theorem dX5_runScript_114 : decode cX5_runScript 114 = .ok (.ldc 237, 2) := by decide +kernel
theorem dX5_runScript_116 : decode cX5_runScript 116 = .ok (.idiv, 1) := by decide +kernel
theorem dX5_runScript_117 : decode cX5_runScript 117 = .ok (.iload 7, 2) := by decide +kernel
theorem dX5_runScript_119 : decode cX5_runScript 119 = .ok (.ldc 237, 2) := by decide +kernel
theorem dX5_runScript_121 : decode cX5_runScript 121 = .ok (.irem, 1) := by decide +kernel
theorem dX5_runScript_122 : decode cX5_runScript 122 = .ok (.invokevirtual 238, 3) := by decide +kernel
theorem dX5_runScript_125 : decode cX5_runScript 125 = .ok (.ifCond .ne 6, 3) := by decide +kernel
theorem dX5_runScript_128 : decode cX5_runScript 128 = .ok (.iload 6, 2) := by decide +kernel
theorem dX5_runScript_130 : decode cX5_runScript 130 = .ok (.ireturn, 1) := by decide +kernel
theorem dX5_runScript_131 : decode cX5_runScript 131 = .ok (.iinc 6 1, 3) := by decide +kernel
theorem dX5_runScript_134 : decode cX5_runScript 134 = .ok (.goto (-48), 3) := by decide +kernel
theorem dX5_runScript_137 : decode cX5_runScript 137 = .ok (.iconst (-1), 1) := by decide +kernel
theorem dX5_runScript_138 : decode cX5_runScript 138 = .ok (.ireturn, 1) := by decide +kernel
theorem dX5_turnLeg_0 : decode cX5_turnLeg 0 = .ok (.iload_n 2, 1) := by decide +kernel
theorem dX5_turnLeg_1 : decode cX5_turnLeg 1 = .ok (.bipush 10, 2) := by decide +kernel
theorem dX5_turnLeg_3 : decode cX5_turnLeg 3 = .ok (.irem, 1) := by decide +kernel
theorem dX5_turnLeg_4 : decode cX5_turnLeg 4 = .ok (.istore_n 3, 1) := by decide +kernel
theorem dX5_turnLeg_5 : decode cX5_turnLeg 5 = .ok (.iload_n 2, 1) := by decide +kernel
theorem dX5_turnLeg_6 : decode cX5_turnLeg 6 = .ok (.bipush 16, 2) := by decide +kernel
theorem dX5_turnLeg_8 : decode cX5_turnLeg 8 = .ok (.idiv, 1) := by decide +kernel
theorem dX5_turnLeg_9 : decode cX5_turnLeg 9 = .ok (.iconst 4, 1) := by decide +kernel
theorem dX5_turnLeg_10 : decode cX5_turnLeg 10 = .ok (.irem, 1) := by decide +kernel
theorem dX5_turnLeg_11 : decode cX5_turnLeg 11 = .ok (.istore 4, 2) := by decide +kernel
theorem dX5_turnLeg_13 : decode cX5_turnLeg 13 = .ok (.iconst 1, 1) := by decide +kernel
theorem dX5_turnLeg_14 : decode cX5_turnLeg 14 = .ok (.iload_n 2, 1) := by decide +kernel
theorem dX5_turnLeg_15 : decode cX5_turnLeg 15 = .ok (.bipush 64, 2) := by decide +kernel
theorem dX5_turnLeg_17 : decode cX5_turnLeg 17 = .ok (.idiv, 1) := by decide +kernel
theorem dX5_turnLeg_18 : decode cX5_turnLeg 18 = .ok (.bipush 9, 2) := by decide +kernel
theorem dX5_turnLeg_20 : decode cX5_turnLeg 20 = .ok (.irem, 1) := by decide +kernel
theorem dX5_turnLeg_21 : decode cX5_turnLeg 21 = .ok (.iadd, 1) := by decide +kernel
theorem dX5_turnLeg_22 : decode cX5_turnLeg 22 = .ok (.istore 5, 2) := by decide +kernel
theorem dX5_turnLeg_24 : decode cX5_turnLeg 24 = .ok (.iload_n 1, 1) := by decide +kernel
theorem dX5_turnLeg_25 : decode cX5_turnLeg 25 = .ok (.bipush 6, 2) := by decide +kernel
theorem dX5_turnLeg_27 : decode cX5_turnLeg 27 = .ok (.if_icmp .ge 28, 3) := by decide +kernel
theorem dX5_turnLeg_30 : decode cX5_turnLeg 30 = .ok (.aload_n 0, 1) := by decide +kernel
theorem dX5_turnLeg_31 : decode cX5_turnLeg 31 = .ok (.iload_n 3, 1) := by decide +kernel
theorem dX5_turnLeg_32 : decode cX5_turnLeg 32 = .ok (.iload 4, 2) := by decide +kernel
theorem dX5_turnLeg_34 : decode cX5_turnLeg 34 = .ok (.iload 5, 2) := by decide +kernel
theorem dX5_turnLeg_36 : decode cX5_turnLeg 36 = .ok (.invokestatic 128, 3) := by decide +kernel
theorem dX5_turnLeg_39 : decode cX5_turnLeg 39 = .ok (.ifCond .eq 38, 3) := by decide +kernel
theorem dX5_turnLeg_42 : decode cX5_turnLeg 42 = .ok (.aload_n 0, 1) := by decide +kernel
theorem dX5_turnLeg_43 : decode cX5_turnLeg 43 = .ok (.iload_n 3, 1) := by decide +kernel
theorem dX5_turnLeg_44 : decode cX5_turnLeg 44 = .ok (.iload 4, 2) := by decide +kernel
theorem dX5_turnLeg_46 : decode cX5_turnLeg 46 = .ok (.iload 5, 2) := by decide +kernel
theorem dX5_turnLeg_48 : decode cX5_turnLeg 48 = .ok (.invokestatic 132, 3) := by decide +kernel
theorem dX5_turnLeg_51 : decode cX5_turnLeg 51 = .ok (.pop, 1) := by decide +kernel
theorem dX5_turnLeg_52 : decode cX5_turnLeg 52 = .ok (.goto 25, 3) := by decide +kernel
theorem dX5_turnLeg_55 : decode cX5_turnLeg 55 = .ok (.aload_n 0, 1) := by decide +kernel
theorem dX5_turnLeg_56 : decode cX5_turnLeg 56 = .ok (.iload_n 3, 1) := by decide +kernel
theorem dX5_turnLeg_57 : decode cX5_turnLeg 57 = .ok (.iload 4, 2) := by decide +kernel
theorem dX5_turnLeg_59 : decode cX5_turnLeg 59 = .ok (.iload 5, 2) := by decide +kernel
theorem dX5_turnLeg_61 : decode cX5_turnLeg 61 = .ok (.invokestatic 135, 3) := by decide +kernel
theorem dX5_turnLeg_64 : decode cX5_turnLeg 64 = .ok (.ifCond .eq 13, 3) := by decide +kernel
theorem dX5_turnLeg_67 : decode cX5_turnLeg 67 = .ok (.aload_n 0, 1) := by decide +kernel
theorem dX5_turnLeg_68 : decode cX5_turnLeg 68 = .ok (.iload_n 3, 1) := by decide +kernel
theorem dX5_turnLeg_69 : decode cX5_turnLeg 69 = .ok (.iload 4, 2) := by decide +kernel
theorem dX5_turnLeg_71 : decode cX5_turnLeg 71 = .ok (.iload 5, 2) := by decide +kernel
theorem dX5_turnLeg_73 : decode cX5_turnLeg 73 = .ok (.invokestatic 138, 3) := by decide +kernel
theorem dX5_turnLeg_76 : decode cX5_turnLeg 76 = .ok (.pop, 1) := by decide +kernel
theorem dX5_turnLeg_77 : decode cX5_turnLeg 77 = .ok (.return_, 1) := by decide +kernel
theorem dX5_turnOf_0 : decode cX5_turnOf 0 = .ok (.iload_n 2, 1) := by decide +kernel
theorem dX5_turnOf_1 : decode cX5_turnOf 1 = .ok (.bipush 10, 2) := by decide +kernel
theorem dX5_turnOf_3 : decode cX5_turnOf 3 = .ok (.irem, 1) := by decide +kernel
theorem dX5_turnOf_4 : decode cX5_turnOf 4 = .ok (.istore_n 3, 1) := by decide +kernel
theorem dX5_turnOf_5 : decode cX5_turnOf 5 = .ok (.iload_n 1, 1) := by decide +kernel
theorem dX5_turnOf_6 : decode cX5_turnOf 6 = .ok (.iconst 2, 1) := by decide +kernel
theorem dX5_turnOf_7 : decode cX5_turnOf 7 = .ok (.if_icmp .ge 32, 3) := by decide +kernel
theorem dX5_turnOf_10 : decode cX5_turnOf 10 = .ok (.aload_n 0, 1) := by decide +kernel
theorem dX5_turnOf_11 : decode cX5_turnOf 11 = .ok (.iconst 0, 1) := by decide +kernel
theorem dX5_turnOf_12 : decode cX5_turnOf 12 = .ok (.iaload, 1) := by decide +kernel
theorem dX5_turnOf_13 : decode cX5_turnOf 13 = .ok (.bipush 10, 2) := by decide +kernel
theorem dX5_turnOf_15 : decode cX5_turnOf 15 = .ok (.if_icmp .ge 241, 3) := by decide +kernel
theorem dX5_turnOf_18 : decode cX5_turnOf 18 = .ok (.aload_n 0, 1) := by decide +kernel
theorem dX5_turnOf_19 : decode cX5_turnOf 19 = .ok (.iload_n 2, 1) := by decide +kernel
theorem dX5_turnOf_20 : decode cX5_turnOf 20 = .ok (.iconst 4, 1) := by decide +kernel
theorem dX5_turnOf_21 : decode cX5_turnOf 21 = .ok (.irem, 1) := by decide +kernel
theorem dX5_turnOf_22 : decode cX5_turnOf 22 = .ok (.sipush 400, 3) := by decide +kernel
theorem dX5_turnOf_25 : decode cX5_turnOf 25 = .ok (.iload_n 2, 1) := by decide +kernel
theorem dX5_turnOf_26 : decode cX5_turnOf 26 = .ok (.iconst 4, 1) := by decide +kernel
theorem dX5_turnOf_27 : decode cX5_turnOf 27 = .ok (.idiv, 1) := by decide +kernel
theorem dX5_turnOf_28 : decode cX5_turnOf 28 = .ok (.bipush 101, 2) := by decide +kernel
theorem dX5_turnOf_30 : decode cX5_turnOf 30 = .ok (.irem, 1) := by decide +kernel
theorem dX5_turnOf_31 : decode cX5_turnOf 31 = .ok (.iadd, 1) := by decide +kernel
theorem dX5_turnOf_32 : decode cX5_turnOf 32 = .ok (.invokestatic 162, 3) := by decide +kernel
theorem dX5_turnOf_35 : decode cX5_turnOf 35 = .ok (.pop, 1) := by decide +kernel
theorem dX5_turnOf_36 : decode cX5_turnOf 36 = .ok (.goto 220, 3) := by decide +kernel
theorem dX5_turnOf_39 : decode cX5_turnOf 39 = .ok (.iload_n 1, 1) := by decide +kernel
theorem dX5_turnOf_40 : decode cX5_turnOf 40 = .ok (.iconst 2, 1) := by decide +kernel
theorem dX5_turnOf_41 : decode cX5_turnOf 41 = .ok (.if_icmp .ne 44, 3) := by decide +kernel
theorem dX5_turnOf_44 : decode cX5_turnOf 44 = .ok (.aload_n 0, 1) := by decide +kernel
theorem dX5_turnOf_45 : decode cX5_turnOf 45 = .ok (.iconst 1, 1) := by decide +kernel
theorem dX5_turnOf_46 : decode cX5_turnOf 46 = .ok (.iaload, 1) := by decide +kernel
theorem dX5_turnOf_47 : decode cX5_turnOf 47 = .ok (.iconst 4, 1) := by decide +kernel
theorem dX5_turnOf_48 : decode cX5_turnOf 48 = .ok (.if_icmp .ge 208, 3) := by decide +kernel
theorem dX5_turnOf_51 : decode cX5_turnOf 51 = .ok (.aload_n 0, 1) := by decide +kernel
theorem dX5_turnOf_52 : decode cX5_turnOf 52 = .ok (.iload_n 2, 1) := by decide +kernel
theorem dX5_turnOf_53 : decode cX5_turnOf 53 = .ok (.bipush 9, 2) := by decide +kernel
theorem dX5_turnOf_55 : decode cX5_turnOf 55 = .ok (.irem, 1) := by decide +kernel
theorem dX5_turnOf_56 : decode cX5_turnOf 56 = .ok (.iload_n 2, 1) := by decide +kernel
theorem dX5_turnOf_57 : decode cX5_turnOf 57 = .ok (.bipush 9, 2) := by decide +kernel
theorem dX5_turnOf_59 : decode cX5_turnOf 59 = .ok (.idiv, 1) := by decide +kernel
theorem dX5_turnOf_60 : decode cX5_turnOf 60 = .ok (.bipush 9, 2) := by decide +kernel
theorem dX5_turnOf_62 : decode cX5_turnOf 62 = .ok (.irem, 1) := by decide +kernel
theorem dX5_turnOf_63 : decode cX5_turnOf 63 = .ok (.iload_n 2, 1) := by decide +kernel
theorem dX5_turnOf_64 : decode cX5_turnOf 64 = .ok (.bipush 81, 2) := by decide +kernel
theorem dX5_turnOf_66 : decode cX5_turnOf 66 = .ok (.idiv, 1) := by decide +kernel
theorem dX5_turnOf_67 : decode cX5_turnOf 67 = .ok (.bipush 9, 2) := by decide +kernel
theorem dX5_turnOf_69 : decode cX5_turnOf 69 = .ok (.irem, 1) := by decide +kernel
theorem dX5_turnOf_70 : decode cX5_turnOf 70 = .ok (.iload_n 2, 1) := by decide +kernel
theorem dX5_turnOf_71 : decode cX5_turnOf 71 = .ok (.sipush 729, 3) := by decide +kernel
theorem dX5_turnOf_74 : decode cX5_turnOf 74 = .ok (.idiv, 1) := by decide +kernel
theorem dX5_turnOf_75 : decode cX5_turnOf 75 = .ok (.bipush 9, 2) := by decide +kernel
theorem dX5_turnOf_77 : decode cX5_turnOf 77 = .ok (.irem, 1) := by decide +kernel
theorem dX5_turnOf_78 : decode cX5_turnOf 78 = .ok (.invokestatic 145, 3) := by decide +kernel
theorem dX5_turnOf_81 : decode cX5_turnOf 81 = .ok (.pop, 1) := by decide +kernel
theorem dX5_turnOf_82 : decode cX5_turnOf 82 = .ok (.goto 174, 3) := by decide +kernel
theorem dX5_turnOf_85 : decode cX5_turnOf 85 = .ok (.iload_n 1, 1) := by decide +kernel
theorem dX5_turnOf_86 : decode cX5_turnOf 86 = .ok (.iconst 3, 1) := by decide +kernel
theorem dX5_turnOf_87 : decode cX5_turnOf 87 = .ok (.if_icmp .ne 36, 3) := by decide +kernel
theorem dX5_turnOf_90 : decode cX5_turnOf 90 = .ok (.aload_n 0, 1) := by decide +kernel
theorem dX5_turnOf_91 : decode cX5_turnOf 91 = .ok (.iload_n 2, 1) := by decide +kernel
theorem dX5_turnOf_92 : decode cX5_turnOf 92 = .ok (.iconst 4, 1) := by decide +kernel
theorem dX5_turnOf_93 : decode cX5_turnOf 93 = .ok (.irem, 1) := by decide +kernel
theorem dX5_turnOf_94 : decode cX5_turnOf 94 = .ok (.invokestatic 149, 3) := by decide +kernel
theorem dX5_turnOf_97 : decode cX5_turnOf 97 = .ok (.ifCond .eq 159, 3) := by decide +kernel
theorem dX5_turnOf_100 : decode cX5_turnOf 100 = .ok (.aload_n 0, 1) := by decide +kernel
theorem dX5_turnOf_101 : decode cX5_turnOf 101 = .ok (.iload_n 2, 1) := by decide +kernel
theorem dX5_turnOf_102 : decode cX5_turnOf 102 = .ok (.iconst 4, 1) := by decide +kernel
theorem dX5_turnOf_103 : decode cX5_turnOf 103 = .ok (.irem, 1) := by decide +kernel
theorem dX5_turnOf_104 : decode cX5_turnOf 104 = .ok (.iload_n 2, 1) := by decide +kernel
theorem dX5_turnOf_105 : decode cX5_turnOf 105 = .ok (.iconst 4, 1) := by decide +kernel
theorem dX5_turnOf_106 : decode cX5_turnOf 106 = .ok (.idiv, 1) := by decide +kernel
theorem dX5_turnOf_107 : decode cX5_turnOf 107 = .ok (.iconst 4, 1) := by decide +kernel
theorem dX5_turnOf_108 : decode cX5_turnOf 108 = .ok (.irem, 1) := by decide +kernel
theorem dX5_turnOf_109 : decode cX5_turnOf 109 = .ok (.iload_n 2, 1) := by decide +kernel
theorem dX5_turnOf_110 : decode cX5_turnOf 110 = .ok (.bipush 16, 2) := by decide +kernel
theorem dX5_turnOf_112 : decode cX5_turnOf 112 = .ok (.idiv, 1) := by decide +kernel
theorem dX5_turnOf_113 : decode cX5_turnOf 113 = .ok (.bipush 12, 2) := by decide +kernel
theorem dX5_turnOf_115 : decode cX5_turnOf 115 = .ok (.irem, 1) := by decide +kernel
theorem dX5_turnOf_116 : decode cX5_turnOf 116 = .ok (.invokestatic 214, 3) := by decide +kernel
theorem dX5_turnOf_119 : decode cX5_turnOf 119 = .ok (.pop, 1) := by decide +kernel
theorem dX5_turnOf_120 : decode cX5_turnOf 120 = .ok (.goto 136, 3) := by decide +kernel
theorem dX5_turnOf_123 : decode cX5_turnOf 123 = .ok (.iload_n 1, 1) := by decide +kernel
theorem dX5_turnOf_124 : decode cX5_turnOf 124 = .ok (.bipush 7, 2) := by decide +kernel
theorem dX5_turnOf_126 : decode cX5_turnOf 126 = .ok (.if_icmp .ge 12, 3) := by decide +kernel
theorem dX5_turnOf_129 : decode cX5_turnOf 129 = .ok (.aload_n 0, 1) := by decide +kernel
theorem dX5_turnOf_130 : decode cX5_turnOf 130 = .ok (.iload_n 1, 1) := by decide +kernel
theorem dX5_turnOf_131 : decode cX5_turnOf 131 = .ok (.iload_n 2, 1) := by decide +kernel
theorem dX5_turnOf_132 : decode cX5_turnOf 132 = .ok (.invokestatic 241, 3) := by decide +kernel
theorem dX5_turnOf_135 : decode cX5_turnOf 135 = .ok (.goto 121, 3) := by decide +kernel
theorem dX5_turnOf_138 : decode cX5_turnOf 138 = .ok (.iload_n 1, 1) := by decide +kernel
theorem dX5_turnOf_139 : decode cX5_turnOf 139 = .ok (.bipush 7, 2) := by decide +kernel
theorem dX5_turnOf_141 : decode cX5_turnOf 141 = .ok (.if_icmp .ne 45, 3) := by decide +kernel
theorem dX5_turnOf_144 : decode cX5_turnOf 144 = .ok (.aload_n 0, 1) := by decide +kernel
theorem dX5_turnOf_145 : decode cX5_turnOf 145 = .ok (.iload_n 3, 1) := by decide +kernel
theorem dX5_turnOf_146 : decode cX5_turnOf 146 = .ok (.invokestatic 96, 3) := by decide +kernel
theorem dX5_turnOf_149 : decode cX5_turnOf 149 = .ok (.ifCond .eq 107, 3) := by decide +kernel
theorem dX5_turnOf_152 : decode cX5_turnOf 152 = .ok (.aload_n 0, 1) := by decide +kernel
theorem dX5_turnOf_153 : decode cX5_turnOf 153 = .ok (.iload_n 2, 1) := by decide +kernel
theorem dX5_turnOf_154 : decode cX5_turnOf 154 = .ok (.bipush 16, 2) := by decide +kernel
theorem dX5_turnOf_156 : decode cX5_turnOf 156 = .ok (.idiv, 1) := by decide +kernel
theorem dX5_turnOf_157 : decode cX5_turnOf 157 = .ok (.iconst 4, 1) := by decide +kernel
theorem dX5_turnOf_158 : decode cX5_turnOf 158 = .ok (.irem, 1) := by decide +kernel
theorem dX5_turnOf_159 : decode cX5_turnOf 159 = .ok (.invokestatic 149, 3) := by decide +kernel
theorem dX5_turnOf_162 : decode cX5_turnOf 162 = .ok (.ifCond .eq 94, 3) := by decide +kernel
theorem dX5_turnOf_165 : decode cX5_turnOf 165 = .ok (.aload_n 0, 1) := by decide +kernel
theorem dX5_turnOf_166 : decode cX5_turnOf 166 = .ok (.iload_n 3, 1) := by decide +kernel
theorem dX5_turnOf_167 : decode cX5_turnOf 167 = .ok (.iload_n 2, 1) := by decide +kernel
theorem dX5_turnOf_168 : decode cX5_turnOf 168 = .ok (.bipush 16, 2) := by decide +kernel
theorem dX5_turnOf_170 : decode cX5_turnOf 170 = .ok (.idiv, 1) := by decide +kernel
theorem dX5_turnOf_171 : decode cX5_turnOf 171 = .ok (.iconst 4, 1) := by decide +kernel
theorem dX5_turnOf_172 : decode cX5_turnOf 172 = .ok (.irem, 1) := by decide +kernel
theorem dX5_turnOf_173 : decode cX5_turnOf 173 = .ok (.iload_n 2, 1) := by decide +kernel
theorem dX5_turnOf_174 : decode cX5_turnOf 174 = .ok (.bipush 64, 2) := by decide +kernel
theorem dX5_turnOf_176 : decode cX5_turnOf 176 = .ok (.idiv, 1) := by decide +kernel
theorem dX5_turnOf_177 : decode cX5_turnOf 177 = .ok (.iconst 4, 1) := by decide +kernel
theorem dX5_turnOf_178 : decode cX5_turnOf 178 = .ok (.irem, 1) := by decide +kernel
theorem dX5_turnOf_179 : decode cX5_turnOf 179 = .ok (.invokestatic 152, 3) := by decide +kernel
theorem dX5_turnOf_182 : decode cX5_turnOf 182 = .ok (.pop, 1) := by decide +kernel
theorem dX5_turnOf_183 : decode cX5_turnOf 183 = .ok (.goto 73, 3) := by decide +kernel
theorem dX5_turnOf_186 : decode cX5_turnOf 186 = .ok (.iload_n 1, 1) := by decide +kernel
theorem dX5_turnOf_187 : decode cX5_turnOf 187 = .ok (.bipush 11, 2) := by decide +kernel
theorem dX5_turnOf_189 : decode cX5_turnOf 189 = .ok (.if_icmp .ne 28, 3) := by decide +kernel
theorem dX5_turnOf_192 : decode cX5_turnOf 192 = .ok (.aload_n 0, 1) := by decide +kernel
theorem dX5_turnOf_193 : decode cX5_turnOf 193 = .ok (.iload_n 2, 1) := by decide +kernel
theorem dX5_turnOf_194 : decode cX5_turnOf 194 = .ok (.iconst 4, 1) := by decide +kernel
theorem dX5_turnOf_195 : decode cX5_turnOf 195 = .ok (.irem, 1) := by decide +kernel
theorem dX5_turnOf_196 : decode cX5_turnOf 196 = .ok (.iconst 2, 1) := by decide +kernel
theorem dX5_turnOf_197 : decode cX5_turnOf 197 = .ok (.iload_n 2, 1) := by decide +kernel
theorem dX5_turnOf_198 : decode cX5_turnOf 198 = .ok (.iconst 4, 1) := by decide +kernel
theorem dX5_turnOf_199 : decode cX5_turnOf 199 = .ok (.idiv, 1) := by decide +kernel
theorem dX5_turnOf_200 : decode cX5_turnOf 200 = .ok (.iconst 2, 1) := by decide +kernel
theorem dX5_turnOf_201 : decode cX5_turnOf 201 = .ok (.irem, 1) := by decide +kernel
theorem dX5_turnOf_202 : decode cX5_turnOf 202 = .ok (.iadd, 1) := by decide +kernel
theorem dX5_turnOf_203 : decode cX5_turnOf 203 = .ok (.iload_n 2, 1) := by decide +kernel
theorem dX5_turnOf_204 : decode cX5_turnOf 204 = .ok (.bipush 8, 2) := by decide +kernel
theorem dX5_turnOf_206 : decode cX5_turnOf 206 = .ok (.idiv, 1) := by decide +kernel
theorem dX5_turnOf_207 : decode cX5_turnOf 207 = .ok (.bipush 30, 2) := by decide +kernel
theorem dX5_turnOf_209 : decode cX5_turnOf 209 = .ok (.irem, 1) := by decide +kernel
theorem dX5_turnOf_210 : decode cX5_turnOf 210 = .ok (.invokestatic 159, 3) := by decide +kernel
theorem dX5_turnOf_213 : decode cX5_turnOf 213 = .ok (.pop, 1) := by decide +kernel
theorem dX5_turnOf_214 : decode cX5_turnOf 214 = .ok (.goto 42, 3) := by decide +kernel
theorem dX5_turnOf_217 : decode cX5_turnOf 217 = .ok (.aload_n 0, 1) := by decide +kernel
theorem dX5_turnOf_218 : decode cX5_turnOf 218 = .ok (.iload_n 3, 1) := by decide +kernel
theorem dX5_turnOf_219 : decode cX5_turnOf 219 = .ok (.invokestatic 96, 3) := by decide +kernel
theorem dX5_turnOf_222 : decode cX5_turnOf 222 = .ok (.ifCond .eq 34, 3) := by decide +kernel
theorem dX5_turnOf_225 : decode cX5_turnOf 225 = .ok (.iload_n 1, 1) := by decide +kernel
theorem dX5_turnOf_226 : decode cX5_turnOf 226 = .ok (.bipush 11, 2) := by decide +kernel
theorem dX5_turnOf_228 : decode cX5_turnOf 228 = .ok (.if_icmp .ge 12, 3) := by decide +kernel
theorem dX5_turnOf_231 : decode cX5_turnOf 231 = .ok (.aload_n 0, 1) := by decide +kernel
theorem dX5_turnOf_232 : decode cX5_turnOf 232 = .ok (.iload_n 3, 1) := by decide +kernel
theorem dX5_turnOf_233 : decode cX5_turnOf 233 = .ok (.invokestatic 176, 3) := by decide +kernel
theorem dX5_turnOf_236 : decode cX5_turnOf 236 = .ok (.pop, 1) := by decide +kernel
theorem dX5_turnOf_237 : decode cX5_turnOf 237 = .ok (.goto 19, 3) := by decide +kernel
theorem dX5_turnOf_240 : decode cX5_turnOf 240 = .ok (.aload_n 0, 1) := by decide +kernel
theorem dX5_turnOf_241 : decode cX5_turnOf 241 = .ok (.iload_n 3, 1) := by decide +kernel
theorem dX5_turnOf_242 : decode cX5_turnOf 242 = .ok (.iconst 1, 1) := by decide +kernel
theorem dX5_turnOf_243 : decode cX5_turnOf 243 = .ok (.iload_n 2, 1) := by decide +kernel
theorem dX5_turnOf_244 : decode cX5_turnOf 244 = .ok (.bipush 16, 2) := by decide +kernel
theorem dX5_turnOf_246 : decode cX5_turnOf 246 = .ok (.idiv, 1) := by decide +kernel
theorem dX5_turnOf_247 : decode cX5_turnOf 247 = .ok (.sipush 200, 3) := by decide +kernel
theorem dX5_turnOf_250 : decode cX5_turnOf 250 = .ok (.irem, 1) := by decide +kernel
theorem dX5_turnOf_251 : decode cX5_turnOf 251 = .ok (.iadd, 1) := by decide +kernel
theorem dX5_turnOf_252 : decode cX5_turnOf 252 = .ok (.invokestatic 179, 3) := by decide +kernel
theorem dX5_turnOf_255 : decode cX5_turnOf 255 = .ok (.pop, 1) := by decide +kernel
theorem dX5_turnOf_256 : decode cX5_turnOf 256 = .ok (.return_, 1) := by decide +kernel
theorem dX5_simulate_0 : decode cX5_simulate 0 = .ok (.aload_n 0, 1) := by decide +kernel
theorem dX5_simulate_1 : decode cX5_simulate 1 = .ok (.iload_n 3, 1) := by decide +kernel
theorem dX5_simulate_2 : decode cX5_simulate 2 = .ok (.i2l, 1) := by decide +kernel
theorem dX5_simulate_3 : decode cX5_simulate 3 = .ok (.lconst 1, 1) := by decide +kernel
theorem dX5_simulate_4 : decode cX5_simulate 4 = .ok (.ldc2_w 245, 3) := by decide +kernel
theorem dX5_simulate_7 : decode cX5_simulate 7 = .ok (.invokestatic 37, 3) := by decide +kernel
theorem dX5_simulate_10 : decode cX5_simulate 10 = .ok (.ifCond .eq 7, 3) := by decide +kernel
theorem dX5_simulate_13 : decode cX5_simulate 13 = .ok (.iconst 0, 1) := by decide +kernel
theorem dX5_simulate_14 : decode cX5_simulate 14 = .ok (.goto 4, 3) := by decide +kernel
theorem dX5_simulate_17 : decode cX5_simulate 17 = .ok (.iconst 1, 1) := by decide +kernel
theorem dX5_simulate_18 : decode cX5_simulate 18 = .ok (.invokevirtual 105, 3) := by decide +kernel
theorem dX5_simulate_21 : decode cX5_simulate 21 = .ok (.ifCond .eq 5, 3) := by decide +kernel
theorem dX5_simulate_24 : decode cX5_simulate 24 = .ok (.iconst 0, 1) := by decide +kernel
theorem dX5_simulate_25 : decode cX5_simulate 25 = .ok (.ireturn, 1) := by decide +kernel
theorem dX5_simulate_26 : decode cX5_simulate 26 = .ok (.aload_n 0, 1) := by decide +kernel
theorem dX5_simulate_27 : decode cX5_simulate 27 = .ok (.getfield 13, 3) := by decide +kernel
theorem dX5_simulate_30 : decode cX5_simulate 30 = .ok (.iconst 0, 1) := by decide +kernel
theorem dX5_simulate_31 : decode cX5_simulate 31 = .ok (.aload_n 0, 1) := by decide +kernel
theorem dX5_simulate_32 : decode cX5_simulate 32 = .ok (.getfield 16, 3) := by decide +kernel
theorem dX5_simulate_35 : decode cX5_simulate 35 = .ok (.iconst 0, 1) := by decide +kernel
theorem dX5_simulate_36 : decode cX5_simulate 36 = .ok (.invokestatic 192, 3) := by decide +kernel
theorem dX5_simulate_39 : decode cX5_simulate 39 = .ok (.lload_n 1, 1) := by decide +kernel
theorem dX5_simulate_40 : decode cX5_simulate 40 = .ok (.lstore 4, 2) := by decide +kernel
theorem dX5_simulate_42 : decode cX5_simulate 42 = .ok (.iconst 0, 1) := by decide +kernel
theorem dX5_simulate_43 : decode cX5_simulate 43 = .ok (.istore 6, 2) := by decide +kernel
theorem dX5_simulate_45 : decode cX5_simulate 45 = .ok (.iload 6, 2) := by decide +kernel
theorem dX5_simulate_47 : decode cX5_simulate 47 = .ok (.iload_n 3, 1) := by decide +kernel
theorem dX5_simulate_48 : decode cX5_simulate 48 = .ok (.if_icmp .ge 46, 3) := by decide +kernel
theorem dX5_simulate_51 : decode cX5_simulate 51 = .ok (.lload 4, 2) := by decide +kernel
theorem dX5_simulate_53 : decode cX5_simulate 53 = .ok (.ldc2_w 247, 3) := by decide +kernel
theorem dX5_simulate_56 : decode cX5_simulate 56 = .ok (.lmul, 1) := by decide +kernel
theorem dX5_simulate_57 : decode cX5_simulate 57 = .ok (.ldc2_w 249, 3) := by decide +kernel
theorem dX5_simulate_60 : decode cX5_simulate 60 = .ok (.ladd, 1) := by decide +kernel
theorem dX5_simulate_61 : decode cX5_simulate 61 = .ok (.lstore 4, 2) := by decide +kernel
theorem dX5_simulate_63 : decode cX5_simulate 63 = .ok (.lload 4, 2) := by decide +kernel
theorem dX5_simulate_65 : decode cX5_simulate 65 = .ok (.bipush 33, 2) := by decide +kernel
theorem dX5_simulate_67 : decode cX5_simulate 67 = .ok (.lushr, 1) := by decide +kernel
theorem dX5_simulate_68 : decode cX5_simulate 68 = .ok (.l2i, 1) := by decide +kernel
theorem dX5_simulate_69 : decode cX5_simulate 69 = .ok (.istore 7, 2) := by decide +kernel
theorem dX5_simulate_71 : decode cX5_simulate 71 = .ok (.aload_n 0, 1) := by decide +kernel
theorem dX5_simulate_72 : decode cX5_simulate 72 = .ok (.getfield 16, 3) := by decide +kernel
theorem dX5_simulate_75 : decode cX5_simulate 75 = .ok (.iload 7, 2) := by decide +kernel
theorem dX5_simulate_77 : decode cX5_simulate 77 = .ok (.bipush 16, 2) := by decide +kernel
theorem dX5_simulate_79 : decode cX5_simulate 79 = .ok (.irem, 1) := by decide +kernel
theorem dX5_simulate_80 : decode cX5_simulate 80 = .ok (.iload 7, 2) := by decide +kernel
theorem dX5_simulate_82 : decode cX5_simulate 82 = .ok (.bipush 16, 2) := by decide +kernel
theorem dX5_simulate_84 : decode cX5_simulate 84 = .ok (.idiv, 1) := by decide +kernel
theorem dX5_simulate_85 : decode cX5_simulate 85 = .ok (.invokestatic 251, 3) := by decide +kernel
theorem dX5_simulate_88 : decode cX5_simulate 88 = .ok (.iinc 6 1, 3) := by decide +kernel
theorem dX5_simulate_91 : decode cX5_simulate 91 = .ok (.goto (-46), 3) := by decide +kernel
theorem dX5_simulate_94 : decode cX5_simulate 94 = .ok (.sipush 10000, 3) := by decide +kernel
theorem dX5_simulate_97 : decode cX5_simulate 97 = .ok (.aload_n 0, 1) := by decide +kernel
theorem dX5_simulate_98 : decode cX5_simulate 98 = .ok (.getfield 16, 3) := by decide +kernel
theorem dX5_simulate_101 : decode cX5_simulate 101 = .ok (.iconst 3, 1) := by decide +kernel
theorem dX5_simulate_102 : decode cX5_simulate 102 = .ok (.iaload, 1) := by decide +kernel
theorem dX5_simulate_103 : decode cX5_simulate 103 = .ok (.aload_n 0, 1) := by decide +kernel
theorem dX5_simulate_104 : decode cX5_simulate 104 = .ok (.getfield 13, 3) := by decide +kernel
theorem dX5_simulate_107 : decode cX5_simulate 107 = .ok (.iconst 3, 1) := by decide +kernel
theorem dX5_simulate_108 : decode cX5_simulate 108 = .ok (.iaload, 1) := by decide +kernel
theorem dX5_simulate_109 : decode cX5_simulate 109 = .ok (.isub, 1) := by decide +kernel
theorem dX5_simulate_110 : decode cX5_simulate 110 = .ok (.imul, 1) := by decide +kernel
theorem dX5_simulate_111 : decode cX5_simulate 111 = .ok (.bipush 100, 2) := by decide +kernel
theorem dX5_simulate_113 : decode cX5_simulate 113 = .ok (.aload_n 0, 1) := by decide +kernel
theorem dX5_simulate_114 : decode cX5_simulate 114 = .ok (.getfield 16, 3) := by decide +kernel
theorem dX5_simulate_117 : decode cX5_simulate 117 = .ok (.invokestatic 201, 3) := by decide +kernel
theorem dX5_simulate_120 : decode cX5_simulate 120 = .ok (.imul, 1) := by decide +kernel
theorem dX5_simulate_121 : decode cX5_simulate 121 = .ok (.iadd, 1) := by decide +kernel
theorem dX5_simulate_122 : decode cX5_simulate 122 = .ok (.aload_n 0, 1) := by decide +kernel
theorem dX5_simulate_123 : decode cX5_simulate 123 = .ok (.getfield 16, 3) := by decide +kernel
theorem dX5_simulate_126 : decode cX5_simulate 126 = .ok (.iconst 4, 1) := by decide +kernel
theorem dX5_simulate_127 : decode cX5_simulate 127 = .ok (.iaload, 1) := by decide +kernel
theorem dX5_simulate_128 : decode cX5_simulate 128 = .ok (.iadd, 1) := by decide +kernel
theorem dX5_simulate_129 : decode cX5_simulate 129 = .ok (.aload_n 0, 1) := by decide +kernel
theorem dX5_simulate_130 : decode cX5_simulate 130 = .ok (.getfield 13, 3) := by decide +kernel
theorem dX5_simulate_133 : decode cX5_simulate 133 = .ok (.iconst 4, 1) := by decide +kernel
theorem dX5_simulate_134 : decode cX5_simulate 134 = .ok (.iaload, 1) := by decide +kernel
theorem dX5_simulate_135 : decode cX5_simulate 135 = .ok (.isub, 1) := by decide +kernel
theorem dX5_simulate_136 : decode cX5_simulate 136 = .ok (.ireturn, 1) := by decide +kernel
theorem dX5_save_0 : decode cX5_save 0 = .ok (.aload_n 0, 1) := by decide +kernel
theorem dX5_save_1 : decode cX5_save 1 = .ok (.iload_n 1, 1) := by decide +kernel
theorem dX5_save_2 : decode cX5_save 2 = .ok (.i2l, 1) := by decide +kernel
theorem dX5_save_3 : decode cX5_save 3 = .ok (.lconst 0, 1) := by decide +kernel
theorem dX5_save_4 : decode cX5_save 4 = .ok (.lconst 1, 1) := by decide +kernel
theorem dX5_save_5 : decode cX5_save 5 = .ok (.invokestatic 37, 3) := by decide +kernel
theorem dX5_save_8 : decode cX5_save 8 = .ok (.ifCond .eq 7, 3) := by decide +kernel
theorem dX5_save_11 : decode cX5_save 11 = .ok (.iconst 0, 1) := by decide +kernel
theorem dX5_save_12 : decode cX5_save 12 = .ok (.goto 4, 3) := by decide +kernel
theorem dX5_save_15 : decode cX5_save 15 = .ok (.iconst 1, 1) := by decide +kernel
theorem dX5_save_16 : decode cX5_save 16 = .ok (.invokevirtual 105, 3) := by decide +kernel
theorem dX5_save_19 : decode cX5_save 19 = .ok (.ifCond .eq 5, 3) := by decide +kernel
theorem dX5_save_22 : decode cX5_save 22 = .ok (.iconst 0, 1) := by decide +kernel
theorem dX5_save_23 : decode cX5_save 23 = .ok (.ireturn, 1) := by decide +kernel
theorem dX5_save_24 : decode cX5_save 24 = .ok (.aload_n 0, 1) := by decide +kernel
theorem dX5_save_25 : decode cX5_save 25 = .ok (.getfield 13, 3) := by decide +kernel
theorem dX5_save_28 : decode cX5_save 28 = .ok (.iconst 0, 1) := by decide +kernel
theorem dX5_save_29 : decode cX5_save 29 = .ok (.aload_n 0, 1) := by decide +kernel
theorem dX5_save_30 : decode cX5_save 30 = .ok (.getfield 22, 3) := by decide +kernel
theorem dX5_save_33 : decode cX5_save 33 = .ok (.sipush 134, 3) := by decide +kernel
theorem dX5_save_36 : decode cX5_save 36 = .ok (.iload_n 1, 1) := by decide +kernel
theorem dX5_save_37 : decode cX5_save 37 = .ok (.imul, 1) := by decide +kernel
theorem dX5_save_38 : decode cX5_save 38 = .ok (.invokestatic 192, 3) := by decide +kernel
theorem dX5_save_41 : decode cX5_save 41 = .ok (.aload_n 0, 1) := by decide +kernel
theorem dX5_save_42 : decode cX5_save 42 = .ok (.getfield 25, 3) := by decide +kernel
theorem dX5_save_45 : decode cX5_save 45 = .ok (.iload_n 1, 1) := by decide +kernel
theorem dX5_save_46 : decode cX5_save 46 = .ok (.iconst 1, 1) := by decide +kernel
theorem dX5_save_47 : decode cX5_save 47 = .ok (.bastore, 1) := by decide +kernel
theorem dX5_save_48 : decode cX5_save 48 = .ok (.aload_n 0, 1) := by decide +kernel
theorem dX5_save_49 : decode cX5_save 49 = .ok (.getfield 13, 3) := by decide +kernel
theorem dX5_save_52 : decode cX5_save 52 = .ok (.invokestatic 201, 3) := by decide +kernel
theorem dX5_save_55 : decode cX5_save 55 = .ok (.ireturn, 1) := by decide +kernel
theorem dX5_restore_0 : decode cX5_restore 0 = .ok (.aload_n 0, 1) := by decide +kernel
theorem dX5_restore_1 : decode cX5_restore 1 = .ok (.iload_n 1, 1) := by decide +kernel
theorem dX5_restore_2 : decode cX5_restore 2 = .ok (.i2l, 1) := by decide +kernel
theorem dX5_restore_3 : decode cX5_restore 3 = .ok (.lconst 0, 1) := by decide +kernel
theorem dX5_restore_4 : decode cX5_restore 4 = .ok (.lconst 1, 1) := by decide +kernel
theorem dX5_restore_5 : decode cX5_restore 5 = .ok (.invokestatic 37, 3) := by decide +kernel
theorem dX5_restore_8 : decode cX5_restore 8 = .ok (.ifCond .ne 7, 3) := by decide +kernel
theorem dX5_restore_11 : decode cX5_restore 11 = .ok (.iconst 1, 1) := by decide +kernel
theorem dX5_restore_12 : decode cX5_restore 12 = .ok (.goto 17, 3) := by decide +kernel
theorem dX5_restore_15 : decode cX5_restore 15 = .ok (.aload_n 0, 1) := by decide +kernel
theorem dX5_restore_16 : decode cX5_restore 16 = .ok (.getfield 25, 3) := by decide +kernel
theorem dX5_restore_19 : decode cX5_restore 19 = .ok (.iload_n 1, 1) := by decide +kernel
theorem dX5_restore_20 : decode cX5_restore 20 = .ok (.baload, 1) := by decide +kernel
theorem dX5_restore_21 : decode cX5_restore 21 = .ok (.ifCond .ne 7, 3) := by decide +kernel
theorem dX5_restore_24 : decode cX5_restore 24 = .ok (.iconst 2, 1) := by decide +kernel
theorem dX5_restore_25 : decode cX5_restore 25 = .ok (.goto 4, 3) := by decide +kernel
theorem dX5_restore_28 : decode cX5_restore 28 = .ok (.iconst 0, 1) := by decide +kernel
theorem dX5_restore_29 : decode cX5_restore 29 = .ok (.invokevirtual 105, 3) := by decide +kernel
theorem dX5_restore_32 : decode cX5_restore 32 = .ok (.ifCond .eq 5, 3) := by decide +kernel
theorem dX5_restore_35 : decode cX5_restore 35 = .ok (.iconst 0, 1) := by decide +kernel
theorem dX5_restore_36 : decode cX5_restore 36 = .ok (.ireturn, 1) := by decide +kernel
theorem dX5_restore_37 : decode cX5_restore 37 = .ok (.aload_n 0, 1) := by decide +kernel
theorem dX5_restore_38 : decode cX5_restore 38 = .ok (.getfield 22, 3) := by decide +kernel
theorem dX5_restore_41 : decode cX5_restore 41 = .ok (.sipush 134, 3) := by decide +kernel
theorem dX5_restore_44 : decode cX5_restore 44 = .ok (.iload_n 1, 1) := by decide +kernel
theorem dX5_restore_45 : decode cX5_restore 45 = .ok (.imul, 1) := by decide +kernel
theorem dX5_restore_46 : decode cX5_restore 46 = .ok (.aload_n 0, 1) := by decide +kernel
theorem dX5_restore_47 : decode cX5_restore 47 = .ok (.getfield 13, 3) := by decide +kernel
theorem dX5_restore_50 : decode cX5_restore 50 = .ok (.iconst 0, 1) := by decide +kernel
theorem dX5_restore_51 : decode cX5_restore 51 = .ok (.invokestatic 192, 3) := by decide +kernel
theorem dX5_restore_54 : decode cX5_restore 54 = .ok (.aload_n 0, 1) := by decide +kernel
theorem dX5_restore_55 : decode cX5_restore 55 = .ok (.iconst 0, 1) := by decide +kernel
theorem dX5_restore_56 : decode cX5_restore 56 = .ok (.putfield 196, 3) := by decide +kernel
theorem dX5_restore_59 : decode cX5_restore 59 = .ok (.aload_n 0, 1) := by decide +kernel
theorem dX5_restore_60 : decode cX5_restore 60 = .ok (.getfield 13, 3) := by decide +kernel
theorem dX5_restore_63 : decode cX5_restore 63 = .ok (.invokestatic 201, 3) := by decide +kernel
theorem dX5_restore_66 : decode cX5_restore 66 = .ok (.ireturn, 1) := by decide +kernel
end
