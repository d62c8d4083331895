/-- the words of a throw of cls, whose chain is names -/
def thL (own cls : String) (names : List String) (ik ic : Nat) : List Cond := Cond.classLink own ik cls :: Cond.initialized cls :: vx_atS own ic cls names
def thG : Cond → Bool
  | .castable .. => false
  | .declares .. => false
  | _ => true
def thD : List MethodName := [Bundle.initS "java/lang/RuntimeException", Bundle.initS "java/lang/Exception", Bundle.initS "java/lang/Throwable"]
def thW (own cls : String) (names : List String) (ik ic : Nat) : Prop := Bundle.fit cls = true ∧ names.all Bundle.fit = true ∧ (∀ w ∈ (thL own cls names ik ic).filter thG, w ∈ BIG) ∧ Cond.instantiable cls 6 ∈ BIG ∧ ((thL own cls names ik ic).filter (fun w => !thG w)).all (fun w => decide (w = Cond.castable cls cls) || decide (w ∈ thD.map Cond.declares)) = true
/-- a method with its code is declared -/
theorem decl_of {args : Array Value} {s : State} {x : MethodName} {b : ByteArray} {n : Nat} {r : Option FieldType} (h1 : (Cond.instanceMethod x).before args s = true) (h2 : (Cond.code x b n r).before args s = true) : (Cond.declares x).before args s = true := by
  obtain ⟨m, meth, hn, hm, hst, -⟩ := Cond.instanceMethod_spec h1
  obtain ⟨meth2, c, hm2, -, -, -, -, -, -, hsig⟩ := Cond.code_spec hn h2
  cases hm.symm.trans hm2
  show (Cond.declares x).holds args s none s [] = true
  simp [Cond.holds, Cond.value, hn, hm, hst, hsig]
theorem decl_all : ∀ x ∈ thD, Cond.instanceMethod x ∈ BIG ∧ ∃ b n r, Cond.code x b n r ∈ BIG := by
  intro x hx
  simp only [thD, List.mem_cons, List.not_mem_nil, or_false] at hx
  rcases hx with rfl | rfl | rfl
  · exact ⟨big_in (i := 235) (by decide +kernel) (by decide +kernel), prog_14_method_2_code, 2, none, big_in (i := 236) (by decide +kernel) (by decide +kernel)⟩
  · exact ⟨big_in (i := 238) (by decide +kernel) (by decide +kernel), prog_9_method_2_code, 2, none, big_in (i := 239) (by decide +kernel) (by decide +kernel)⟩
  · exact ⟨big_in (i := 241) (by decide +kernel) (by decide +kernel), prog_18_method_2_code, 2, none, big_in (i := 242) (by decide +kernel) (by decide +kernel)⟩
/-- a class can be cast to itself -/
theorem cast_self {args : Array Value} {s : State} {C : String} {c : ClassId} (h : s.vm.findClass C = some c) : (Cond.castable C C).before args s = true := by
  have e : s.vm.assignable c c = true := by
    show s.vm.assignableAux (255 + 1) c c = true
    rw [Vm.assignableAux]
    simp
  show (Cond.castable C C).holds args s none s [] = true
  simp [Cond.holds, Cond.value, h, e]
def thR (R : Room) (κ : Nat × Nat) (names : List String) (st : List Value) (mc ms : Nat) : Bool := decide (names.length + 3 < R.frames) && (decide ((st.map fun v => v.category).sum + (13 * (names.length + 1) + 43) ≤ R.locals) && (decide (κ.1 + 1 ≤ R.cells) && (decide (κ.2 + 6 ≤ R.slots) && (decide (κ.1 + 1 ≤ mc) && decide (κ.2 + 6 ≤ ms)))))
theorem thR_sp {R : Room} {κ : Nat × Nat} {names : List String} {st : List Value} {mc ms : Nat} (h : thR R κ names st mc ms = true) : names.length + 3 < R.frames ∧ (st.map fun v => v.category).sum + (13 * (names.length + 1) + 43) ≤ R.locals ∧ κ.1 + 1 ≤ R.cells ∧ κ.2 + 6 ≤ R.slots ∧ κ.1 + 1 ≤ mc ∧ κ.2 + 6 ≤ ms := by
  simpa [thR] using h
def xIA : String := "java/lang/IllegalArgumentException"
def xIS : String := "java/lang/IllegalStateException"
def xIO : String := "java/lang/IndexOutOfBoundsException"
def xNm : List String := ["java/lang/RuntimeException", "java/lang/Exception"]
set_option maxRecDepth 100000 in
set_option maxHeartbeats 4000000 in
theorem th_IA : thW RX4 xIA xNm 47 51 := ⟨by decide +kernel, by decide +kernel, big_all [189, 14, 11, 211, 220, 224, 227, 229, 212, 213, 29, 30, 214, 219, 225, 245, 201, 246, 203, 247, 205, 215, 217, 207, 241, 242, 244, 207, 232, 233, 234, 235, 235, 236, 237, 238, 238, 239, 240, 241, 231, 190, 198, 199, 200, 202, 204, 206, 243, 209, 208] (by decide +kernel), big_in (i := 190) (by decide +kernel) (by decide +kernel), by decide +kernel⟩
set_option maxRecDepth 100000 in
set_option maxHeartbeats 4000000 in
theorem th_IS : thW RX4 xIS xNm 58 62 := ⟨by decide +kernel, by decide +kernel, big_all [261, 15, 11, 211, 220, 224, 227, 229, 212, 213, 29, 30, 214, 219, 225, 245, 201, 246, 203, 247, 205, 215, 217, 207, 241, 242, 244, 207, 272, 273, 274, 235, 235, 236, 237, 238, 238, 239, 240, 241, 271, 262, 264, 222, 265, 266, 267, 268, 243, 209, 269] (by decide +kernel), big_in (i := 262) (by decide +kernel) (by decide +kernel), by decide +kernel⟩
set_option maxRecDepth 100000 in
set_option maxHeartbeats 4000000 in
theorem th_IO : thW RX4 xIO xNm 282 286 := ⟨by decide +kernel, by decide +kernel, big_all [546, 22, 11, 211, 220, 224, 227, 229, 212, 213, 29, 30, 214, 219, 225, 245, 201, 246, 203, 247, 205, 215, 217, 207, 241, 242, 244, 207, 557, 558, 559, 235, 235, 236, 237, 238, 238, 239, 240, 241, 556, 547, 549, 223, 550, 551, 552, 553, 243, 209, 554] (by decide +kernel), big_in (i := 547) (by decide +kernel) (by decide +kernel), by decide +kernel⟩
section XT
variable {Γ : VG} {D : DD} {Λ : LY} {own : String} {cc : ByteArray} {nL : Nat} {l : Launch} {R : Room} {M : MM} {κ : Nat × Nat} {pc q : Nat} {lv : List (Option Value)} {st : List Value}
theorem V_throwS {cls text : String} {names : List String} {ik is ic mc ms : Nat} {ret : Option FieldType} {Qc : Array Value → State → Outcome → State → Prop} {Ξ : String → MM → Prop} (g : VOk Γ D Λ own cc nL l R) (r : RetQX Γ ret Qc (XCm D Λ (gs Γ).heap.size Ξ) mc ms (Aw Λ (gs Γ).heap.size) []) (hl : l.stackTraces = false) (w : thW own cls names ik ic) (hs : (own, is, text) ∈ strW)
    (d0 : decode cc pc = .ok (.new ik, 3)) (d3 : decode cc (pc + 3) = .ok (.dup, 1)) (d4 : decode cc (pc + 4) = .ok (.ldc is, 2)) (d6 : decode cc (pc + 6) = .ok (.invokespecial ic, 3)) (d9 : decode cc (pc + 9) = .ok (.athrow, 1)) (hR : thR R κ names st mc ms = true) (h : Ξ cls M) : V Γ D Λ M κ pc lv st := by
  intro H locs ls h1 h2 h3
  obtain ⟨r1, r2, r3, r4, r5, r6⟩ := thR_sp hR
  obtain ⟨w1, w2, w3, w4, w5⟩ := w
  obtain ⟨cX, kX, hcX, -⟩ := Cond.instantiable_spec (args := ga Γ) (first := gs Γ) (o := none) (s := gs Γ) (idx := []) (g.hts _ w4)
  have hW : ∀ w ∈ thL own cls names ik ic, w.before (ga Γ) (gs Γ) = true ∧ vx_ot w = true := by
    intro w hw
    by_cases e : thG w = true
    · have hm := w3 w (List.mem_filter.mpr ⟨hw, e⟩)
      refine ⟨g.hts _ hm, ?_⟩
      unfold vx_ot
      rw [Bool.or_eq_true]
      exact Or.inr (List.mem_filter.mp hm).2
    · have hm := List.all_eq_true.mp w5 w (List.mem_filter.mpr ⟨hw, by simpa using e⟩)
      rw [Bool.or_eq_true, decide_eq_true_eq, decide_eq_true_eq] at hm
      rcases hm with rfl | hm
      · exact ⟨cast_self hcX, rfl⟩
      · obtain ⟨x, hx, rfl⟩ := List.mem_map.mp hm
        obtain ⟨q1, b, n, r, q2⟩ := decl_all x hx
        exact ⟨decl_of (g.hts _ q1) (g.hts _ q2), rfl⟩
  have h8 : gl Γ = l := g.gl
  have h9 : gR Γ = R := g.room
  obtain ⟨s1, s2, s3, s4, s5, -⟩ := g.hst
  obtain ⟨sa, hsa⟩ := s3 _ hs
  rw [r.1]
  refine vx_throwS (cls := cls) (names := names) (A := Aw Λ (gs Γ).heap.size) g.exec g.code (by rw [h8]; exact hl) g.hown w1 (fun n hn => List.all_eq_true.mp w2 n hn) (hW _ List.mem_cons_self).1 (hW _ (List.mem_cons_of_mem _ List.mem_cons_self)).1 hsa (fun w hw => (hW _ (List.mem_cons_of_mem _ (List.mem_cons_of_mem _ hw))).1) (fun w hw => (hW w hw).2) s4 s5 h2 ((lvH.size g h3).trans g.ml.symm) d0 d3 d4 d6 d9 (fun x hx => by rw [r.2.2] at hx; cases hx) (by rw [h9]; exact r1) (by rw [h9]; exact r2) (by rw [h9]; exact r3) (by rw [h9]; exact r4) g.locks (fun t ht hz hk => ⟨M, trivial, ⟨h, fun a K ha => (h1 a K ha).kept (hk a (h1 a K ha).lt)⟩, ⟨Nat.le_trans h2.1 hz, fun q q1 q2 => (hk q (Nat.lt_of_lt_of_le q1 h2.1)).trans (h2.2.1 q q1 q2)⟩⟩) h2.2.2 r5 r6
theorem V_throwSW {cls text : String} {names : List String} {ik is ic mc ms : Nat} {ret : Option FieldType} {Qc : Array Value → State → Outcome → State → Prop} {Ξ : String → MM → Prop} (g : VOk Γ D Λ own cc nL l R) (r : RetQX Γ ret Qc (XCm D Λ (gs Γ).heap.size Ξ) mc ms (Aw Λ (gs Γ).heap.size) []) (hl : l.stackTraces = false) (w : thW own cls names ik ic) (hs : (own, is, text) ∈ strW)
    (d0 : decode cc pc = .ok (.new ik, 3)) (d3 : decode cc (pc + 3) = .ok (.dup, 1)) (d4 : decode cc (pc + 4) = .ok (.ldc_w is, 3)) (d6 : decode cc (pc + 7) = .ok (.invokespecial ic, 3)) (d9 : decode cc (pc + 10) = .ok (.athrow, 1)) (hR : thR R κ names st mc ms = true) (h : Ξ cls M) : V Γ D Λ M κ pc lv st := by
  intro H locs ls h1 h2 h3
  obtain ⟨r1, r2, r3, r4, r5, r6⟩ := thR_sp hR
  obtain ⟨w1, w2, w3, w4, w5⟩ := w
  obtain ⟨cX, kX, hcX, -⟩ := Cond.instantiable_spec (args := ga Γ) (first := gs Γ) (o := none) (s := gs Γ) (idx := []) (g.hts _ w4)
  have hW : ∀ w ∈ thL own cls names ik ic, w.before (ga Γ) (gs Γ) = true ∧ vx_ot w = true := by
    intro w hw
    by_cases e : thG w = true
    · have hm := w3 w (List.mem_filter.mpr ⟨hw, e⟩)
      refine ⟨g.hts _ hm, ?_⟩
      unfold vx_ot
      rw [Bool.or_eq_true]
      exact Or.inr (List.mem_filter.mp hm).2
    · have hm := List.all_eq_true.mp w5 w (List.mem_filter.mpr ⟨hw, by simpa using e⟩)
      rw [Bool.or_eq_true, decide_eq_true_eq, decide_eq_true_eq] at hm
      rcases hm with rfl | hm
      · exact ⟨cast_self hcX, rfl⟩
      · obtain ⟨x, hx, rfl⟩ := List.mem_map.mp hm
        obtain ⟨q1, b, n, r, q2⟩ := decl_all x hx
        exact ⟨decl_of (g.hts _ q1) (g.hts _ q2), rfl⟩
  have h8 : gl Γ = l := g.gl
  have h9 : gR Γ = R := g.room
  obtain ⟨s1, s2, s3, s4, s5, -⟩ := g.hst
  obtain ⟨sa, hsa⟩ := s3 _ hs
  rw [r.1]
  refine vx_throwSW (cls := cls) (names := names) (A := Aw Λ (gs Γ).heap.size) g.exec g.code (by rw [h8]; exact hl) g.hown w1 (fun n hn => List.all_eq_true.mp w2 n hn) (hW _ List.mem_cons_self).1 (hW _ (List.mem_cons_of_mem _ List.mem_cons_self)).1 hsa (fun w hw => (hW _ (List.mem_cons_of_mem _ (List.mem_cons_of_mem _ hw))).1) (fun w hw => (hW w hw).2) s4 s5 h2 ((lvH.size g h3).trans g.ml.symm) d0 d3 d4 d6 d9 (fun x hx => by rw [r.2.2] at hx; cases hx) (by rw [h9]; exact r1) (by rw [h9]; exact r2) (by rw [h9]; exact r3) (by rw [h9]; exact r4) g.locks (fun t ht hz hk => ⟨M, trivial, ⟨h, fun a K ha => (h1 a K ha).kept (hk a (h1 a K ha).lt)⟩, ⟨Nat.le_trans h2.1 hz, fun q q1 q2 => (hk q (Nat.lt_of_lt_of_le q1 h2.1)).trans (h2.2.1 q q1 q2)⟩⟩) h2.2.2 r5 r6
/-- caught here; the rows ahead take other types -/
theorem V_catch {E : String} {T : List ExceptionTableEntry} {ret : Option FieldType} {Qc : Array Value → State → Outcome → State → Prop} {XC : String → State → State → Prop} {mc ms : Nat} {A : Nat → Prop} (g : VOk Γ D Λ own cc nL l R) (r : RetQX Γ ret Qc XC mc ms A T) (pre : List ExceptionTableEntry) (x : ExceptionTableEntry) (suf : List ExceptionTableEntry) (hT : T = pre ++ x :: suf) (hpass : ∀ z ∈ pre, z.catchType ≠ 0 ∧ ∃ nm : String, Cond.classLink own z.catchType nm ∈ BIG ∧ (E, nm) ∈ ncW) (hx : covers x pc = true) (h0 : x.catchType ≠ 0) (hk : Cond.classLink own x.catchType E ∈ BIG) (hq : x.handlerPc = q) (k : ∀ qa : Nat, V Γ D Λ M κ q lv [.ref qa]) : VX Γ D Λ M κ pc lv E := by
  subst hq
  intro H locs ls st qa ce h1 h2 h3 hce hv hcl
  exact vx_catch g.hown pre x suf (r.2.2.trans hT) (fun z hz => Or.inr ⟨(hpass z hz).1, (hpass z hz).2.imp fun nm h => ⟨g.hts _ h.1, g.hst.2.1 _ h.2⟩⟩) hx h0 (g.hts _ hk) (cast_self hcl) hce hv hcl (k qa H locs ls h1 h2 h3)
end XT
theorem cl_IA : Cond.classLink RL 13 xIA ∈ BIG := big_in (i := 180) (by decide +kernel) (by decide +kernel)
theorem cl_IS : Cond.classLink RL 16 xIS ∈ BIG := big_in (i := 181) (by decide +kernel) (by decide +kernel)
theorem cl_IO : Cond.classLink RL 42 xIO ∈ BIG := big_in (i := 536) (by decide +kernel) (by decide +kernel)
