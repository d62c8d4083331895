/-- the one word of the tables that the world of contracts has not -/
def Eao : EP := fun _ U _ => va_AO "ChairStamps$Office" U
theorem Eao_ok : EOk Eao := ⟨fun _ _ _ _ h _ => h, fun _ _ _ _ hW h => va_AO.moved hW.alike h, fun _ _ _ _ h _ => h⟩
def one (o : Nat) (K : KD) : LY := fun b => if b = o then some K else none
theorem one_eq (o : Nat) (K : KD) : one o K o = some K := if_pos rfl
theorem one_ne {o b : Nat} {K : KD} (h : b ≠ o) : one o K b = none := if_neg h
def lay1 (Λ : LY) (a : Nat) (K : KD) : LY := fun b => if b = a then some K else Λ b
theorem lay1_eq (Λ : LY) (a : Nat) (K : KD) : lay1 Λ a K a = some K := if_pos rfl
theorem lay1_ne {a b : Nat} (Λ : LY) (K : KD) (h : b ≠ a) : lay1 Λ a K b = Λ b := if_neg h
/-- an object under construction: its values as they are -/
def kRw (ci : Nat) (vs : List Value) : KD := fun _ => .inr (ci, vs)
def kQ0 (D : DD) (n : Nat) (f : Nat → Option Nat) : KD := fun _ => .inl (D.2 3, n, .inr (.inr (.inr (.inr f))))
/-- one world over another -/
def orW (W1 Λ : LY) : LY := fun b => match W1 b with
  | some K => some K
  | none => Λ b
def orM (W1 : LY) (M1 M : MM) : MM := fun b => match W1 b with
  | some _ => M1 b
  | none => M b
theorem orW_1 {W1 Λ : LY} {b : Nat} {K : KD} (h : W1 b = some K) : orW W1 Λ b = some K := by simp [orW, h]
theorem orW_0 {W1 Λ : LY} {b : Nat} (h : W1 b = none) : orW W1 Λ b = Λ b := by simp [orW, h]
theorem orM_1 {W1 : LY} {M1 M : MM} {b : Nat} {K : KD} (h : W1 b = some K) : orM W1 M1 M b = M1 b := by simp [orM, h]
theorem orM_0 {W1 : LY} {M1 M : MM} {b : Nat} (h : W1 b = none) : orM W1 M1 M b = M b := by simp [orM, h]
theorem Hd.new {D : DD} {Λ : LY} {M M1 : MM} {H H1 : Heap} {a : Nat} {K : KD} (h : Hd D Λ M H) (o1 : ∀ q : Nat, q < H.size → H1[q]? = H[q]?) (hM : ∀ b : Nat, b ≠ a → M1 b = M b) (h1 : va_at D.1 vwCl (a, K (M1 a)) H1) : Hd D (lay1 Λ a K) M1 H1 := by
  intro b K' hb
  by_cases e : b = a
  · subst e
    rw [lay1_eq] at hb
    cases hb
    exact h1
  · rw [lay1_ne _ _ e] at hb
    rw [hM b e]
    exact (h b K' hb).kept (o1 b (h b K' hb).lt)
/-- the judgement, with the heap's size: the world Λ grows; what may be written is what B and the new cells are -/
def VU (Γ : VG) (D : DD) (B Λ : LY) (M : MM) (w : Nat) (κ : Nat × Nat) (pc : Nat) (lv : List (Option Value)) (st : List Value) : Prop :=
  ∀ (H : Heap) (locs : List Loc) (ls : Array Slot), H.size = w → Hd D Λ M H → va_S (Aw B (gs Γ).heap.size) (gs Γ).heap H locs → lvH ls (gnL Γ) lv →
    W (gp Γ) (gl Γ) (ge Γ) (gR Γ) (gs Γ) (gm Γ) (ga Γ) (gb Γ) (gM Γ) (gc Γ) H locs κ.1 κ.2 (gQ Γ) (F0 (gm Γ) pc ls st)
theorem W_le {p : Program} {l : Launch} {e : Env} {R : Room} {s : State} {m : MethodId} {args : Array Value} {below : List Frame} {meth : Method} {c : Code} {H : Heap} {locs : List Loc} {cells slots : Nat} {Q : State → Prop} {g : JFrame} (k : H.size ≤ s.heap.size + cells → W p l e R s m args below meth c H locs cells slots Q g) : W p l e R s m args below meth c H locs cells slots Q g := by
  intro T hT X
  have h := X.heapSize
  rw [hT] at h
  exact k h T hT X
/-- a constructor's contract: its object at o, new, at the heap's end; the world W1 behind it -/
def CN (l : Launch) (y : MethodName) (cc : ByteArray) (nL : Nat) (rm : Room) (o : Nat) (K0 : KD) (D : DD) (W1 : LY) (Ψ : MM → Prop) : Prop := ∀ M, Met l y (WS y cc nL none) rm (fun a U => Pw D (one o K0) M (o + 1) [.ref o] a U ∧ Eao (Aw (one o K0) (o + 1)) U U.heap) (va_Qv (S := MM) Ψ (fun M' t => Hd D W1 M' t.heap ∧ o + 1 + rm.cells ≤ t.heap.size) (Aw (one o K0) (o + 1))) rm.cells rm.slots (Aw (one o K0) (o + 1))
def RetN (Γ : VG) (D : DD) (o : Nat) (K0 : KD) (rm : Room) (W1 : LY) (Ψ : MM → Prop) : Prop := gQ Γ = MQ (gb Γ) (va_Qv (S := MM) Ψ (fun M' t => Hd D W1 M' t.heap ∧ o + 1 + rm.cells ≤ t.heap.size) (Aw (one o K0) (o + 1))) (ga Γ) (gs Γ) rm.cells rm.slots (Aw (one o K0) (o + 1)) ∧ (gM Γ).sig.returnType = none ∧ (gM Γ).name = "<init>" ∧ (gs Γ).heap.size = o + 1 ∧ va_AO "ChairStamps$Office" (gs Γ)
theorem CN_of {l : Launch} {y : MethodName} {cc : ByteArray} {nL : Nat} {rm : Room} {o : Nat} {K0 : KD} {D : DD} {W1 : LY} {Ψ : MM → Prop} {lv : List (Option Value)} (hy : plainName y.cls = true) (hyn : y.name = "<init>") (hlv : lvOf [.ref o] nL = lv) (hlen : (lg_sl [.ref o]).length ≤ nL)
    (body : ∀ Γ M, VOk Γ D (one o K0) y.cls cc nL l rm → RetN Γ D o K0 rm W1 Ψ → VU Γ D (one o K0) (one o K0) M (o + 1) (0, 0) 0 lv []) : CN l y cc nL rm o K0 D W1 Ψ := by
  intro M
  subst hlv
  refine Met.ofW (cc := cc) (maxL := nL) (ret := none) hy rfl ?_
  intro p e s m args below meth c s₁ BB hml hv
  obtain ⟨⟨rfl, hsz, hP, hK, hst⟩, hE⟩ := hv
  have hts := atoms_spec (ws := WS y cc nL none) BB.pre
  have hk := body ((p, l, e, (headSpec (WS y cc nL none) rm).room, s), (m, [.ref o].toArray, below, meth, c), (nL, MQ below (va_Qv (S := MM) Ψ (fun M' t => Hd D W1 M' t.heap ∧ o + 1 + rm.cells ≤ t.heap.size) (Aw (one o K0) (o + 1))) [.ref o].toArray s rm.cells rm.slots (Aw (one o K0) (o + 1)))) M
    ⟨BB.exec, BB.bytes, hml, rfl, findClass_of_methodNamed BB.named, fun w hw => hts w (List.mem_cons_of_mem _ hw), hK, by show St (Aw (one o K0) s.heap.size) s s.heap; rw [hsz]; exact hst, BB.notSynchronized, rfl, rfl⟩ ⟨rfl, BB.returns, (name_of_methodNamed BB.named BB.method).1.trans hyn, hsz, hE⟩
  rw [lg_entry_eq]
  exact hk s.heap [] _ hsz hP va_S.rf (lvH_entry [.ref o] hlen)
section VUR
variable {Γ : VG} {D : DD} {B Λ : LY} {own : String} {cc : ByteArray} {nL : Nat} {l : Launch} {R : Room} {M : MM} {w : Nat} {κ : Nat × Nat} {pc q : Nat} {lv : List (Option Value)} {st : List Value}
theorem VU_iconst {n : Int} (g : VOk Γ D B own cc nL l R) (d : decode cc pc = .ok (.iconst n, 1))  (hq : pc + 1 = q) (k : VU Γ D B Λ M w κ q lv (vi n :: st)) : VU Γ D B Λ M w κ pc lv st := by
  subst hq
  intro H locs ls h0 h1 h2 h3
  exact lv_iconst g.exec g.code d rfl (k H locs ls h0 h1 h2 h3)
theorem VU_bipush {n : Int} (g : VOk Γ D B own cc nL l R) (d : decode cc pc = .ok (.bipush n, 2)) (hn : -128 ≤ n ∧ n < 128) (hq : pc + 2 = q) (k : VU Γ D B Λ M w κ q lv (vi n :: st)) : VU Γ D B Λ M w κ pc lv st := by
  subst hq
  intro H locs ls h0 h1 h2 h3
  exact lv_bipush g.exec g.code d (iI_bp hn) (k H locs ls h0 h1 h2 h3)
theorem VU_sipush {n : Int} (g : VOk Γ D B own cc nL l R) (d : decode cc pc = .ok (.sipush n, 3)) (hn : -32768 ≤ n ∧ n < 32768) (hq : pc + 3 = q) (k : VU Γ D B Λ M w κ q lv (vi n :: st)) : VU Γ D B Λ M w κ pc lv st := by
  subst hq
  intro H locs ls h0 h1 h2 h3
  exact lv_sipush g.exec g.code d (iI_sp hn) (k H locs ls h0 h1 h2 h3)
theorem VU_iload_n {i : Fin 4} {x : Int32} (g : VOk Γ D B own cc nL l R) (d : decode cc pc = .ok (.iload_n i, 1)) (hv : lv[(i : Nat)]? = some (some (.int x))) (hq : pc + 1 = q) (k : VU Γ D B Λ M w κ q lv (.int x :: st)) : VU Γ D B Λ M w κ pc lv st := by
  subst hq
  intro H locs ls h0 h1 h2 h3
  exact lv_iload_n g.exec g.code d rfl (h3.2.2 _ _ hv) (k H locs ls h0 h1 h2 h3)
theorem VU_istore_n0 {i : Fin 4} {x : Int32} (g : VOk Γ D B own cc nL l R) (d : decode cc pc = .ok (.istore_n i, 1)) (hi : (i : Nat) < nL) (hp : lvPrev lv i = true) (hq : pc + 1 = q) (k : VU Γ D B Λ M w κ q (lv.set i (some (.int x))) st) : VU Γ D B Λ M w κ pc lv (.int x :: st) := by
  subst hq
  intro H locs ls h0 h1 h2 h3
  have hn : gnL Γ = nL := g.nl
  rw [hn] at h3
  refine lv_istore_n g.exec g.code d rfl h3.has hi rfl (fun ls1 h4 => k H locs ls1 h0 h1 h2 ?_)
  rw [hn]
  exact lvH.st1 hp h4
theorem VU_aload_n {i : Fin 4} {x : Nat} (g : VOk Γ D B own cc nL l R) (d : decode cc pc = .ok (.aload_n i, 1)) (hv : lv[(i : Nat)]? = some (some (.ref x))) (hq : pc + 1 = q) (k : VU Γ D B Λ M w κ q lv (.ref x :: st)) : VU Γ D B Λ M w κ pc lv st := by
  subst hq
  intro H locs ls h0 h1 h2 h3
  exact lv_aload_n g.exec g.code d rfl (h3.2.2 _ _ hv) (k H locs ls h0 h1 h2 h3)
theorem VU_astore_n0 {i : Fin 4} {x : Nat} (g : VOk Γ D B own cc nL l R) (d : decode cc pc = .ok (.astore_n i, 1)) (hi : (i : Nat) < nL) (hp : lvPrev lv i = true) (hq : pc + 1 = q) (k : VU Γ D B Λ M w κ q (lv.set i (some (.ref x))) st) : VU Γ D B Λ M w κ pc lv (.ref x :: st) := by
  subst hq
  intro H locs ls h0 h1 h2 h3
  have hn : gnL Γ = nL := g.nl
  rw [hn] at h3
  refine lv_astore_n g.exec g.code d rfl h3.has hi rfl (fun ls1 h4 => k H locs ls1 h0 h1 h2 ?_)
  rw [hn]
  exact lvH.st1 hp h4
theorem VU_iinc0 {i : Nat} {n x : Int} (g : VOk Γ D B own cc nL l R) (d : decode cc pc = .ok (.iinc i n, 3)) (hi : i < nL) (hp : lvPrev lv i = true) (hv : lv[i]? = some (some (vi x))) (hq : pc + 3 = q) (k : VU Γ D B Λ M w κ q (lv.set i (some (vi (x + n)))) st) : VU Γ D B Λ M w κ pc lv st := by
  subst hq
  intro H locs ls h0 h1 h2 h3
  have hn : gnL Γ = nL := g.nl
  rw [hn] at h3
  obtain ⟨k0, hk0⟩ := List.getElem?_of_mem (mem_lvKs hv)
  refine lv_iinc (k := k0) (v := iI (x + n)) g.exec g.code d h3.has hk0 (iI_add x n) hi rfl (fun ls1 h4 => k H locs ls1 h0 h1 h2 ?_)
  rw [hn]
  exact lvH.st1 hp h4
theorem VU_dup {x : Value} (g : VOk Γ D B own cc nL l R) (d : decode cc pc = .ok (.dup, 1)) (hc : x.category = 1) (hq : pc + 1 = q) (k : VU Γ D B Λ M w κ q lv (x :: x :: st)) : VU Γ D B Λ M w κ pc lv (x :: st) := by
  subst hq
  intro H locs ls h0 h1 h2 h3
  exact lv_dup g.exec g.code d hc (k H locs ls h0 h1 h2 h3)
theorem VU_goto {off : Int} {tgt : Nat} (g : VOk Γ D B own cc nL l R) (d : decode cc pc = .ok (.goto off, 3)) (ht : (pc : Int) + off = (tgt : Int)) (k : VU Γ D B Λ M w κ tgt lv st) : VU Γ D B Λ M w κ pc lv st := by
  intro H locs ls h0 h1 h2 h3
  exact lv_goto g.exec g.code d ht (k H locs ls h0 h1 h2 h3)
theorem VU_icmp_ge {a b : Int} {off : Int} {tgt : Nat} (g : VOk Γ D B own cc nL l R) (d : decode cc pc = .ok (.if_icmp .ge off, 3)) (ht : (pc : Int) + off = (tgt : Int)) (hq : pc + 3 = q) (ha : inR a) (hb : inR b) (kt : b ≤ a → VU Γ D B Λ M w κ tgt lv st) (kf : ¬ b ≤ a → VU Γ D B Λ M w κ q lv st) : VU Γ D B Λ M w κ pc lv (vi b :: vi a :: st) := by
  subst hq
  intro H locs ls h0 h1 h2 h3
  exact lv_icmp_ge g.exec g.code d ht (fun h => kt ((iI_le hb ha).mp h) H locs ls h0 h1 h2 h3) (fun h => kf (fun z => h ((iI_le hb ha).mpr z)) H locs ls h0 h1 h2 h3)
theorem VU_new {ci idx N : Nat} {C : String} {T : u_T} {ty : Nat → FieldType} {vs : List Value} (g : VOk Γ D B own cc nL l R) (d : decode cc pc = .ok (.new idx, 3)) (hw : Cond.classLink own idx C ∈ BIG ∧ Cond.instantiable C N ∈ BIG ∧ Cond.initialized C ∈ BIG) (hu : ∀ w ∈ u_ws C T N, w ∈ BIG) (hc : vwCl[ci]? = some (C, T, N)) (hty : ∀ k, k < N → parseFieldDescriptor (T k).2.2.1 = some (ty k)) (hfs : ∀ j, j < N → defaultValue (ty j) = vp_V vs j) (hr : decide (κ.1 + 1 ≤ R.cells ∧ κ.2 + N ≤ R.slots) = true) (hq : pc + 3 = q) (k : VU Γ D B (lay1 Λ w (kRw ci vs)) M (w + 1) (κ.1 + 1, κ.2 + N) q lv (.ref w :: st)) : VU Γ D B Λ M w κ pc lv st := by
  subst hq
  intro H locs ls h0 h1 h2 h3
  subst h0
  have h9 : gR Γ = R := g.room
  have hKn := g.hK.1 ci _ hc
  have hr := of_decide_eq_true hr
  refine W.newcK g.exec g.code g.hown (g.hts _ hw.1) (g.hts _ hw.2.1) (g.hts _ hw.2.2) rfl d (by rw [h9]; exact hr.1) (by rw [h9]; exact hr.2) hKn.2.1 rfl fun H1 kC hkC e1 z1 o1 => ?_
  exact k H1 locs ls z1 (h1.new o1 (fun _ _ => rfl) ⟨_, hc, (u_born ty g.hts hu hKn hkC e1 hty).to hfs⟩) ⟨Nat.le_trans h2.1 (by omega), fun x a1 a2 => (o1 x (Nat.lt_of_lt_of_le a1 h2.1)).trans (h2.2.1 x a1 a2), h2.2.2⟩ h3
theorem VU_newI {n : Nat} (g : VOk Γ D B own cc nL l R) (d : decode cc pc = .ok (.newarray .int, 2)) (hw : Cond.arrayClass .int ∈ BIG) (hn : n < 60000000) (hr : decide (κ.1 + 1 ≤ R.cells ∧ κ.2 + n ≤ R.slots) = true) (hq : pc + 2 = q) (k : VU Γ D B (lay1 Λ w (kI D n)) (aset M w (fun _ => 0)) (w + 1) (κ.1 + 1, κ.2 + n) q lv (.ref w :: st)) : VU Γ D B Λ M w κ pc lv (vi n :: st) := by
  subst hq
  intro H locs ls h0 h1 h2 h3
  subst h0
  have h9 : gR Γ = R := g.room
  have hr := of_decide_eq_true hr
  have hcl : (iI n).toNatClampNeg = n := by rw [iI_cl ⟨by omega, by omega⟩, Int.toNat_natCast]
  refine va_newaK (atype := .int) (n := iI n) (N := n) g.exec g.code (g.hts _ hw) rfl d rfl (fun q => by
      have q1 : iI n < iI 0 := q
      rw [iI_lt ⟨by omega, by omega⟩ (by decide)] at q1
      omega) hcl (by show n * 4 ≤ 536870912; omega) (by rw [h9]; exact hr.1) (by rw [h9]; exact hr.2) rfl fun H1 cA e1 z1 o1 hAr hNm => ?_
  have hcA : cA = D.2 0 := Option.some.inj (hNm.symm.trans (g.hK.2 0 _ rfl).2)
  subst hcA
  refine k H1 locs ls z1 (h1.new o1 (fun b hb => aset_ne _ _ hb) ?_) ⟨Nat.le_trans h2.1 (by omega), fun x a1 a2 => (o1 x (Nat.lt_of_lt_of_le a1 h2.1)).trans (h2.2.1 x a1 a2), h2.2.2⟩ h3
  show H1[H.size]? = some (vp_cell (D.2 0) (n, .inl (fun j => iI ((aset M H.size (fun _ => 0)) H.size j))))
  rw [e1, vp_cell_i, aset_at]
  rfl
theorem VU_newQ {n idx : Nat} (g : VOk Γ D B own cc nL l R) (d : decode cc pc = .ok (.anewarray idx, 3)) (hE : va_AO "ChairStamps$Office" (gs Γ)) (hw : Cond.classLink own idx "ChairStamps$Office" ∈ BIG) (hn : n < 60000000) (hr : decide (κ.1 + 1 ≤ R.cells ∧ κ.2 + n ≤ R.slots) = true) (hq : pc + 3 = q) (k : VU Γ D B (lay1 Λ w (kQ0 D n (fun _ => none))) M (w + 1) (κ.1 + 1, κ.2 + n) q lv (.ref w :: st)) : VU Γ D B Λ M w κ pc lv (vi n :: st) := by
  subst hq
  intro H locs ls h0 h1 h2 h3
  subst h0
  have h9 : gR Γ = R := g.room
  have hr := of_decide_eq_true hr
  have hcl : (iI n).toNatClampNeg = n := by rw [iI_cl ⟨by omega, by omega⟩, Int.toNat_natCast]
  refine W.anew (n := iI n) g.exec g.code g.hown (g.hts _ hw) (va_AO.use hE) rfl d rfl (fun q => by
      have q1 : iI n < iI 0 := q
      rw [iI_lt ⟨by omega, by omega⟩ (by decide)] at q1
      omega) (by rw [hcl]; omega) (by rw [h9]; exact hr.1) (by rw [h9, hcl]; exact hr.2) fun cA kA comp f1 f2 f3 f4 => ?_
  rw [hcl]
  obtain ⟨kA9, comp9, k1, k2, k3, k4⟩ := (g.hK.2 3 _ rfl).2
  have hcA : cA = D.2 3 := Option.some.inj (f1.symm.trans k4)
  subst hcA
  generalize hH1 : H.push ({ cls := D.2 3, slots := Array.replicate n .null, vm := .none } : Cell) = H1
  have z1 : H1.size = H.size + 1 := by rw [← hH1, Array.size_push]
  have e1 : H1[H.size]? = some (arrV (D.2 3) n (fun _ => .null)) := by rw [← hH1, Array.getElem?_push_size, ← arrV_new]
  have o1 : ∀ q : Nat, q < H.size → H1[q]? = H[q]? := fun q hq => by rw [← hH1, Array.getElem?_push, if_neg (Nat.ne_of_lt hq)]
  refine k H1 locs ls z1 (h1.new o1 (fun b hb => rfl) ?_) ⟨Nat.le_trans h2.1 (by omega), fun x a1 a2 => (o1 x (Nat.lt_of_lt_of_le a1 h2.1)).trans (h2.2.1 x a1 a2), h2.2.2⟩ h3
  show H1[H.size]? = some (vp_cell (D.2 3) (n, .inr (.inr (.inr (.inr (fun _ => none))))))
  rw [e1, vp_cell_q]
  rfl
theorem VU_putR {ci idx k a N : Nat} {b : Nat} {C : String} {T : u_T} {vs : List Value} {ty0 : Nat → FieldType} {ty : FieldType} (g : VOk Γ D B own cc nL l R) (hnm2 : (gM Γ).name = "<init>") (d : decode cc pc = .ok (.putfield idx, 3)) (hf : fdW own idx C T N k) (hty : ∀ k, k < N → parseFieldDescriptor (T k).2.2.1 = some (ty0 k)) (hnm : ∀ a, a < N → ∀ b, b < N → a ≠ b → (T a).2.1 ≠ (T b).2.1) (hc : vwCl[ci]? = some (C, T, N)) (hΛ : Λ a = some (kRw ci vs)) (hA : Aw B (gs Γ).heap.size a) (hfin : (T k).2.2.2 = true) (hdecl : (T k).1 = own) (htk : ty0 k = ty) (hn : narrow ty (.ref b) = .ref b) (hfit : fits ty (.ref b) = true) (hl : k < vs.length) (hq : pc + 3 = q) (kk : VU Γ D B (lay1 Λ a (kRw ci (vs.set k (.ref b)))) M w κ q lv st) : VU Γ D B Λ M w κ pc lv (.ref b :: .ref a :: st) := by
  subst hq
  intro H locs ls h0 h1 h2 h3
  obtain ⟨f1, f2, f3, f4⟩ := hf
  subst htk
  have hap := va_apart (own := own) g.hts f2 ty0 hty hnm g.hK hc
  obtain ⟨r, e1, cell, q1, q2, q3, q4⟩ := h1 a _ hΛ
  have hr : r = (C, T, N) := Option.some.inj (e1.symm.trans hc)
  subst hr
  obtain ⟨hS, hfc, kC, hkC, hkind⟩ := g.hK.1 ci _ hc
  obtain ⟨cf, kf, fi, f, hi, hsl⟩ := hS k f4
  have hlay := g.hts _ (f2 _ (u_in_lay f4))
  unfold u_lay at hlay
  rw [if_pos hfin] at hlay
  have hst := (u_facts hfc hkC (u_lays g.hts f2 f4) hi).1
  have hcf : (gm Γ).cls = cf := by
    obtain ⟨_, _, c', _, _, _, -, -, hf', -, -, -, hown2, -⟩ := Cond.laysFinal_spec hlay
    have e9 : c' = cf := by have := hi.symm.trans hf'; simp at this; exact this.1.symm
    rw [hdecl] at hown2
    rw [← e9]; exact Option.some.inj (g.hown.symm.trans hown2)
  have h6 := u_fits hfc hkC hkind (Or.inr hlay) hi (hty k f4) hn hfit
  refine W.putFinK g.exec g.code g.hown (g.hts _ f1) (by rw [f3] at hi; exact hi) hst hcf hnm2 (by rw [q2]; exact h6) q1 q3 (by rw [hsl]; exact k2_hasslot (q4 k f4)) rfl rfl d fun H' e1 e2 e3 => ?_
  rw [hsl] at e1 ⊢
  refine kk H' _ ls (e2.trans h0) ?_ (h2.put e2 e3 hA) h3
  intro b9 K9 hb9
  by_cases e9 : b9 = a
  · subst e9
    rw [lay1_eq] at hb9
    cases hb9
    exact ⟨_, hc, t_OB.to (V := updV (vp_V vs) k (.ref b)) ⟨_, e1, q2, q3, t_set q4 hap f4 (.ref b)⟩ (fun j _ => vp_updV_set hl (.ref b) j)⟩
  · rw [lay1_ne _ _ e9] at hb9
    exact (h1 b9 K9 hb9).kept (e3 b9 e9)
theorem VU_putI {ci idx k a N : Nat} {b : Int} {C : String} {T : u_T} {vs : List Value} {ty0 : Nat → FieldType} {ty : FieldType} (g : VOk Γ D B own cc nL l R) (d : decode cc pc = .ok (.putfield idx, 3)) (hf : fdW own idx C T N k) (hty : ∀ k, k < N → parseFieldDescriptor (T k).2.2.1 = some (ty0 k)) (hnm : ∀ a, a < N → ∀ b, b < N → a ≠ b → (T a).2.1 ≠ (T b).2.1) (hc : vwCl[ci]? = some (C, T, N)) (hΛ : Λ a = some (kRw ci vs)) (hA : Aw B (gs Γ).heap.size a) (hfin : (T k).2.2.2 = false) (htk : ty0 k = ty) (hn : narrow ty (vi b) = vi b) (hfit : fits ty (vi b) = true) (hl : k < vs.length) (hq : pc + 3 = q) (kk : VU Γ D B (lay1 Λ a (kRw ci (vs.set k (vi b)))) M w κ q lv st) : VU Γ D B Λ M w κ pc lv (vi b :: .ref a :: st) := by
  subst hq
  intro H locs ls h0 h1 h2 h3
  obtain ⟨f1, f2, f3, f4⟩ := hf
  subst htk
  have hap := va_apart (own := own) g.hts f2 ty0 hty hnm g.hK hc
  obtain ⟨r, e1, cell, q1, q2, q3, q4⟩ := h1 a _ hΛ
  have hr : r = (C, T, N) := Option.some.inj (e1.symm.trans hc)
  subst hr
  obtain ⟨hS, hfc, kC, hkC, hkind⟩ := g.hK.1 ci _ hc
  obtain ⟨cf, kf, fi, f, hi, hsl⟩ := hS k f4
  have hlay := g.hts _ (f2 _ (u_in_lay f4))
  unfold u_lay at hlay
  rw [if_neg (by rw [hfin]; decide)] at hlay
  have hst := (u_facts hfc hkC (u_lays g.hts f2 f4) hi).1
  have h6 := u_store hfc hkC hkind hlay hi (hty k f4) hn hfit
  have hi2 : (gs Γ).fieldFound? C (T k).2.1 (T k).2.2.1 = some (cf, kf, fi, f) := by rw [f3] at hi; exact hi
  refine W.putK g.exec g.code (f := f) ⟨g.hown, g.hts _ f1, ⟨_, _, _, hi2⟩, hst⟩ (by rw [q2]; exact h6) q1 q3 (by rw [hsl]; exact k2_hasslot (q4 k f4)) rfl rfl d fun H' e1 e2 e3 => ?_
  rw [hsl] at e1 ⊢
  refine kk H' _ ls (e2.trans h0) ?_ (h2.put e2 e3 hA) h3
  intro b9 K9 hb9
  by_cases e9 : b9 = a
  · subst e9
    rw [lay1_eq] at hb9
    cases hb9
    exact ⟨_, hc, t_OB.to (V := updV (vp_V vs) k (vi b)) ⟨_, e1, q2, q3, t_set q4 hap f4 (vi b)⟩ (fun j _ => vp_updV_set hl (vi b) j)⟩
  · rw [lay1_ne _ _ e9] at hb9
    exact (h1 b9 K9 hb9).kept (e3 b9 e9)
theorem VU_getR {ci idx k a b N : Nat} {C : String} {T : u_T} {vs : List Value} (g : VOk Γ D B own cc nL l R) (d : decode cc pc = .ok (.getfield idx, 3)) (hf : fdW own idx C T N k) (hc : vwCl[ci]? = some (C, T, N)) (hΛ : Λ a = some (kRw ci vs)) (hk : vs[k]? = some (.ref b)) (hq : pc + 3 = q) (kk : VU Γ D B Λ M w κ q lv (.ref b :: st)) : VU Γ D B Λ M w κ pc lv (.ref a :: st) := by
  subst hq
  intro H locs ls h0 h1 h2 h3
  obtain ⟨f1, f2, f3, f4⟩ := hf
  exact va_get (D := D.1) (ci := ci) (v := .ref b) (fs := vs) (own := own) g.exec g.code g.hts f2 g.hown g.hK (h1.one hΛ) 0 rfl hc k f4 (g.hts _ f1) (fun x hx => by rw [f3] at hx; exact hx) hk d (kk H locs ls h0 h1 h2 h3)
theorem VU_alenQ {a n : Nat} {f : Nat → Option Nat} (g : VOk Γ D B own cc nL l R) (d : decode cc pc = .ok (.arraylength, 1)) (hΛ : Λ a = some (kQ0 D n f)) (hq : pc + 1 = q) (k : VU Γ D B Λ M w κ q lv (vi n :: st)) : VU Γ D B Λ M w κ pc lv (.ref a :: st) := by
  subst hq
  intro H locs ls h0 h1 h2 h3
  exact va_alen g.exec g.code g.hK (h1.one hΛ) 0 3 rfl rfl (iI_nat n) d (k H locs ls h0 h1 h2 h3)
theorem VU_aastore {a v n : Nat} {i : Int} {f : Nat → Option Nat} {fl : List (Option Nat)} (g : VOk Γ D B own cc nL l R) (d : decode cc pc = .ok (.aastore, 1)) (hΛ : Λ a = some (kQ0 D n f)) (hv : Λ v = some (kO 1 fl)) (hA : Aw B (gs Γ).heap.size a) (hi : 0 ≤ i ∧ i < n) (hn : n < 2147483648) (hq : pc + 1 = q) (k : VU Γ D B (lay1 Λ a (kQ0 D n (va_up f i.toNat (some v)))) M w κ q lv st) : VU Γ D B Λ M w κ pc lv (.ref v :: vi i :: .ref a :: st) := by
  subst hq
  intro H locs ls h0 h1 h2 h3
  have h4 : H[a]? = some (vp_cell (D.2 3) (n, .inr (.inr (.inr (.inr f))))) := h1 a _ hΛ
  obtain ⟨r', hr', cellV, g1, g2, g3, -⟩ := h1 v _ hv
  have hcls := (g.hK.1 1 _ rfl).2
  obtain ⟨kA, comp, k1, k2, k3, -⟩ := (g.hK.2 3 _ rfl).2
  have hcomp : comp = D.1.1 1 := Option.some.inj (k3.symm.trans hcls.1)
  subst hcomp
  obtain ⟨kC, hkC, -⟩ := hcls.2
  have hc9 := iI_cl (a := i) ⟨hi.1, by omega⟩
  refine W.aast g.exec g.code h4 (fun q h => by cases h) (fun h => by cases h) k1 k2 rfl hkC ⟨fun q => by
      have q1 : iI i < iI 0 := q
      rw [iI_lt ⟨by omega, by omega⟩ (by decide)] at q1
      omega, by show _ < (arrV _ _ _).slots.size; rw [arrV_size, hc9]; omega⟩ g1 (fun q h => by rw [g3] at h; cases h) (by rw [g2]; exact hkC) (by rw [g2]; exact va_assign hcls) rfl rfl d fun H1 e z oq => ?_
  refine k H1 _ ls (z.trans h0) ?_ (h2.put z oq hA) h3
  intro b9 K9 hb9
  by_cases e9 : b9 = a
  · subst e9
    rw [lay1_eq] at hb9
    cases hb9
    show H1[b9]? = some (vp_cell _ _)
    rw [e]
    rw [vp_cell_q, vp_cell_q, arrV_store, hc9]
    congr 2
    funext q
    by_cases hq : q = i.toNat
    · subst hq
      simp [updV, va_up, va_rf]
    · simp [updV, va_up, hq]
  · rw [lay1_ne _ _ e9] at hb9
    exact (h1 b9 K9 hb9).kept (oq b9 e9)
theorem VU_objInit {idx a : Nat} (g : VOk Γ D B own cc nL l R) (d : decode cc pc = .ok (.invokespecial idx, 3)) (hw : ∀ w ∈ [Cond.methodLink own idx Lib.objectInit, .instanceMethod Lib.objectInit, .code Lib.objectInit ⟨#[0xb1]⟩ 1 none], w ∈ BIG) (hr : decide (1 ≤ R.frames ∧ 20 ≤ R.locals) = true) (hs : stOk st = true) (hq : pc + 3 = q) (k : VU Γ D B Λ M w κ q lv st) : VU Γ D B Λ M w κ pc lv (.ref a :: st) := by
  subst hq
  intro H locs ls h0 h1 h2 h3
  have h9 : gR Γ = R := g.room
  have hr := of_decide_eq_true hr
  have hs9 : (st.map fun v => v.category).sum ≤ 8 := by simpa [stOk] using hs
  refine W.objInit g.exec g.code g.hown (g.hts _ (hw _ (by simp))) (g.hts _ (hw _ (by simp))) (g.hts _ (hw _ (by simp))) rfl ((lvH.size g h3).trans g.ml.symm) rfl d (by rw [h9]; exact hr.1) (by rw [h9]; show 0 + (st.map fun v => v.category).sum + 12 ≤ R.locals; omega) ?_
  exact k H locs ls h0 h1 h2 h3
/-- the world seen otherwise -/
theorem VU_to {Λ1 : LY} {M1 : MM} (h : ∀ (a : Nat) (K1 : KD), Λ1 a = some K1 → ∃ K, Λ a = some K ∧ K1 (M1 a) = K (M a)) (k : VU Γ D B Λ1 M1 w κ pc lv st) : VU Γ D B Λ M w κ pc lv st := by
  intro H locs ls h0 h1 h2 h3
  refine k H locs ls h0 (fun a K1 ha => ?_) h2 h3
  obtain ⟨K, e1, e2⟩ := h a K1 ha
  rw [e2]
  exact h1 a K e1
theorem VU_ret {o : Nat} {K0 : KD} {rm : Room} {W1 : LY} {Ψ : MM → Prop} (g : VOk Γ D (one o K0) own cc nL l R) (r : RetN Γ D o K0 rm W1 Ψ) (d : decode cc pc = .ok (.return_, 1)) (hκ : leK κ rm.cells rm.slots = true) (hw : o + 1 + rm.cells ≤ w) (h : Ψ M) : VU Γ D (one o K0) W1 M w κ pc lv [] := by
  intro H locs ls h0 h1 h2 h3
  obtain ⟨k1, k2⟩ := leK_sp hκ
  rw [r.1]
  have h2' : va_S (Aw (one o K0) (o + 1)) (gs Γ).heap H locs := by rw [← r.2.2.2.1]; exact h2
  have hk : W (gp Γ) (gl Γ) (ge Γ) (gR Γ) (gs Γ) (gm Γ) (ga Γ) (gb Γ) (gM Γ) (gc Γ) H locs rm.cells rm.slots (MQ (gb Γ) (va_Qv (S := MM) Ψ (fun M' t => Hd D W1 M' t.heap ∧ o + 1 + rm.cells ≤ t.heap.size) (Aw (one o K0) (o + 1))) (ga Γ) (gs Γ) rm.cells rm.slots (Aw (one o K0) (o + 1))) (F0 (gm Γ) pc ls []) := W.vret (hlocks := g.locks) g.exec g.code r.2.1 (fun t ht hW => ⟨⟨M, rfl, h, by rw [ht]; exact h1, by rw [ht, h0]; exact hw⟩, h2'.F ht⟩) h2'.2.2 d
  exact fun T hT X => hk T hT (stand_widen X k1 k2)
def lkI (own : String) (idx : Nat) (y : MethodName) (cc : ByteArray) (nL : Nat) : Prop := (∀ w ∈ [Cond.methodLink own idx y, .instanceMethod y, .initialized y.cls, .code y cc nL none], w ∈ BIG) ∧ yOk y 0 = true ∧ y.name = "<init>"
def lkIN (own : String) (idx : Nat) (y : MethodName) (cc : ByteArray) (nL : Nat) : Prop := (∃ host, Cond.methodLinkNest own idx y host ∈ nestW) ∧ (∀ w ∈ [Cond.instanceMethod y, .initialized y.cls, .code y cc nL none], w ∈ BIG) ∧ yOk y 0 = true ∧ y.name = "<init>"
theorem orHd {H H1 : Heap} {W1 : LY} {M1 : MM} {o : Nat} {K0 : KD} (h1 : Hd D Λ M H) (h : Hd D W1 M1 H1) (ho : (W1 o).isSome = true) (hw : H.size = o + 1) (hk : ∀ q : Nat, q < H.size → ¬ Aw (one o K0) (o + 1) q → H1[q]? = H[q]?) : Hd D (orW W1 Λ) (orM W1 M1 M) H1 := by
  intro b K hb
  cases hW : W1 b with
  | some K' =>
    rw [orW_1 hW] at hb
    cases hb
    rw [orM_1 hW]
    exact h b K hW
  | none =>
    rw [orW_0 hW] at hb
    rw [orM_0 hW]
    have hl := (h1 b K hb).lt
    have hne : b ≠ o := fun e => by subst e; rw [hW] at ho; cases ho
    refine (h1 b K hb).kept (hk b hl ?_)
    rintro (⟨K9, h9⟩ | h9)
    · rw [one_ne hne] at h9; cases h9
    · have h9' : o + 1 ≤ b := h9
      have hl' : b < H.size := hl
      omega
theorem PwN.at {H : Heap} {locs : List Loc} {U : State} {o : Nat} {K0 : KD} (g : VOk Γ D B own cc nL l R) (hE : va_AO "ChairStamps$Office" (gs Γ)) (h1 : Hd D Λ M H) (h2 : va_S (Aw B (gs Γ).heap.size) (gs Γ).heap H locs) (hΛ : Λ o = some K0) (hA : Aw B (gs Γ).heap.size o) (hw : H.size = o + 1) (hU : U.heap = H) (hW : (gs Γ).WarmedH U.vm) : Pw D (one o K0) M (o + 1) [.ref o] [.ref o].toArray U ∧ Eao (Aw (one o K0) (o + 1)) U U.heap := by
  have hsub : ∀ q : Nat, Aw (one o K0) (o + 1) q → Aw B (gs Γ).heap.size q := by
    rintro q (⟨K9, h9⟩ | h9)
    · by_cases e : q = o
      · subst e; exact hA
      · rw [one_ne e] at h9; cases h9
    · have h9' : o + 1 ≤ q := h9
      exact Or.inr (by have := h2.1; omega)
  refine ⟨⟨rfl, by rw [hU]; exact hw, ?_, va_K.moved hW.alike g.hK, ?_⟩, va_AO.moved hW.alike hE⟩
  · rw [hU]
    intro b K hb
    by_cases e : b = o
    · subst e
      rw [one_eq] at hb
      cases hb
      exact h1 b _ hΛ
    · rw [one_ne e] at hb; cases hb
  · rw [hU]
    exact St.warm hW ((g.hst.kept h2.2.1).narrow hsub)
theorem PwN.blind {D : DD} {Λ : LY} {M : MM} {sz : Nat} {As : List Value} : FrameBlind (fun a U => Pw D Λ M sz As a U ∧ Eao (Aw Λ sz) U U.heap) := PwE.blind Eao_ok
theorem VU_callI {y : MethodName} {bytes : ByteArray} {maxL idx o : Nat} {rm : Room} {K0 : KD} {W1 : LY} {Ψ : MM → Prop} (g : VOk Γ D B own cc nL l R) (hM : CN l y bytes maxL rm o K0 D W1 Ψ) (hE : va_AO "ChairStamps$Office" (gs Γ)) (d : decode cc pc = .ok (.invokespecial idx, 3)) (hk : lkI own idx y bytes maxL) (hΛ : Λ o = some K0) (hA : Aw B (gs Γ).heap.size o) (hw : w = o + 1) (hκ : (gs Γ).heap.size + κ.1 = w) (ho : (W1 o).isSome = true) (hr : rmOk rm maxL R κ = true) (hs : stOk st = true) (hq : pc + 3 = q) (kk : ∀ M1, Ψ M1 → VU Γ D B (orW W1 Λ) (orM W1 M1 M) (w + rm.cells) (κ.1 + rm.cells, κ.2 + rm.slots) q lv st) : VU Γ D B Λ M w κ pc lv (.ref o :: st) := by
  subst hq
  intro H locs ls h0 h1 h2 h3
  obtain ⟨r1, r2⟩ := rmOk_sp hr
  have h8 : gl Γ = l := g.gl
  have h9 : gR Γ = R := g.room
  obtain ⟨k1, k2, k3⟩ := hk
  have hsub : ∀ q : Nat, Aw (one o K0) (o + 1) q → Aw B (gs Γ).heap.size q := by
    rintro q (⟨K9, h9⟩ | h9)
    · by_cases e : q = o
      · subst e; exact hA
      · rw [one_ne e] at h9; cases h9
    · have h9' : o + 1 ≤ q := h9
      exact Or.inr (by have := h2.1; omega)
  refine va_callv (mc := rm.cells) (ms := rm.slots) (a := [Value.ref o].toArray) (free := Aw (one o K0) (o + 1)) (A1 := Aw (one o K0) (o + 1)) (va_runI (As := []) (rest := st) ⟨g.exec, g.code, g.ml, g.hown, g.hts⟩ (h8 ▸ hM M) (cwI 0 g.hts (fun w hw => ws_good (wx := [Cond.methodLink own idx y, .instanceMethod y, .initialized y.cls]) k1 w (List.mem_append_right _ hw)) rfl rfl rfl (g.hts _ (k1 _ (by simp))) (g.hts _ (k1 _ (by simp))) (g.hts _ (k1 _ (by simp))) k3 (yOk_sp k2) (by rw [h9]; exact r1)) ⟨PwN.blind, fun U hU hW => PwN.at g hE h1 h2 hΛ hA (h0.trans hw) hU hW⟩ rfl rfl (lvH.size g h3) rfl (stOk_sp hs) d (by rw [h9]; exact r2)) h2 (fun q _ h => hsub q h) hsub (fun u t H1 locs1 ht hvm hp hB hz hk2 hS => ?_)
  refine W_le (fun hle => ?_)
  have hB2 := hB.2
  rw [ht] at hB2
  exact kk u hp H1 locs1 ls (by omega) (orHd h1 (by rw [← ht]; exact hB.1) ho (h0.trans hw) hk2) hS h3
theorem VU_callIN {y : MethodName} {bytes : ByteArray} {maxL idx o : Nat} {rm : Room} {K0 : KD} {W1 : LY} {Ψ : MM → Prop} (g : VOk Γ D B own cc nL l R) (hM : CN l y bytes maxL rm o K0 D W1 Ψ) (hE : va_AO "ChairStamps$Office" (gs Γ)) (d : decode cc pc = .ok (.invokespecial idx, 3)) (hk : lkIN own idx y bytes maxL) (hΛ : Λ o = some K0) (hA : Aw B (gs Γ).heap.size o) (hw : w = o + 1) (hκ : (gs Γ).heap.size + κ.1 = w) (ho : (W1 o).isSome = true) (hr : rmOk rm maxL R κ = true) (hs : stOk st = true) (hq : pc + 3 = q) (kk : ∀ M1, Ψ M1 → VU Γ D B (orW W1 Λ) (orM W1 M1 M) (w + rm.cells) (κ.1 + rm.cells, κ.2 + rm.slots) q lv st) : VU Γ D B Λ M w κ pc lv (.ref o :: st) := by
  subst hq
  intro H locs ls h0 h1 h2 h3
  obtain ⟨r1, r2⟩ := rmOk_sp hr
  have h8 : gl Γ = l := g.gl
  have h9 : gR Γ = R := g.room
  obtain ⟨⟨host, k0⟩, k1, k2, k3⟩ := hk
  have hsub : ∀ q : Nat, Aw (one o K0) (o + 1) q → Aw B (gs Γ).heap.size q := by
    rintro q (⟨K9, h9⟩ | h9)
    · by_cases e : q = o
      · subst e; exact hA
      · rw [one_ne e] at h9; cases h9
    · have h9' : o + 1 ≤ q := h9
      exact Or.inr (by have := h2.1; omega)
  refine va_callv (mc := rm.cells) (ms := rm.slots) (a := [Value.ref o].toArray) (free := Aw (one o K0) (o + 1)) (A1 := Aw (one o K0) (o + 1)) (va_runIN (host := host) (As := []) (rest := st) ⟨g.exec, g.code, g.ml, g.hown, g.hts⟩ (h8 ▸ hM M) ⟨va_cnB 0 g.hts (fun w hw => ws_good (wx := [Cond.instanceMethod y, .initialized y.cls]) k1 w (List.mem_append_right _ hw)) rfl rfl rfl (g.hst.1 _ k0) (g.hts _ (k1 _ (by simp))) (yOk_sp k2) (by rw [h9]; exact r1), k3, g.hts _ (k1 _ (by simp))⟩ ⟨PwN.blind, fun U hU hW => PwN.at g hE h1 h2 hΛ hA (h0.trans hw) hU hW⟩ rfl rfl (lvH.size g h3) rfl (stOk_sp hs) d (by rw [h9]; exact r2)) h2 (fun q _ h => hsub q h) hsub (fun u t H1 locs1 ht hvm hp hB hz hk2 hS => ?_)
  refine W_le (fun hle => ?_)
  have hB2 := hB.2
  rw [ht] at hB2
  exact kk u hp H1 locs1 ls (by omega) (orHd h1 (by rw [← ht]; exact hB.1) ho (h0.trans hw) hk2) hS h3
theorem PwU.at {H : Heap} {locs : List Loc} {U : State} {As : List Value} (g : VOk Γ D B own cc nL l R) (h1 : Hd D Λ M H) (h2 : va_S (Aw B (gs Γ).heap.size) (gs Γ).heap H locs) (hsub : ∀ q : Nat, Aw Λ H.size q → Aw B (gs Γ).heap.size q) (hU : U.heap = H) (hW : (gs Γ).WarmedH U.vm) : Pw D Λ M H.size As As.toArray U :=
  ⟨rfl, by rw [hU], by rw [hU]; exact h1, va_K.moved hW.alike g.hK, by rw [hU]; exact St.warm hW ((g.hst.kept h2.2.1).narrow hsub)⟩
theorem VU_callVV {y : MethodName} {bytes : ByteArray} {maxL idx b ci : Nat} {fl : List (Option Nat)} {cT : vw_C} {rm : Room} {Ψ : MM → Prop} (g : VOk Γ D B own cc nL l R) (hM : CV l y bytes maxL rm [.ref b] D Λ M Ψ) (d : decode cc pc = .ok (.invokevirtual idx, 3)) (hk : lkV own idx y bytes maxL none 0) (hΛ : Λ b = some (kO ci fl)) (hc : vwCl[ci]? = some cT) (hcy : cT.1 = y.cls) (hsub : ∀ q : Nat, Aw Λ w q → Aw B (gs Γ).heap.size q) (hκ : (gs Γ).heap.size + κ.1 = w) (hr : rmOk rm maxL R κ = true) (hs : stOk st = true) (hz0 : rm.cells = 0 ∧ rm.slots = 0) (hq : pc + 3 = q) (kk : ∀ M1, Ψ M1 → VU Γ D B Λ M1 w κ q lv st) : VU Γ D B Λ M w κ pc lv (.ref b :: st) := by
  subst hq
  intro H locs ls h0 h1 h2 h3
  subst h0
  obtain ⟨r1, r2⟩ := rmOk_sp hr
  have r3 : κ.1 + 0 ≤ R.cells ∧ κ.2 + 0 ≤ R.slots := by rw [hz0.1, hz0.2] at r2; exact r2
  have h8 : gl Γ = l := g.gl
  have h9 : gR Γ = R := g.room
  have hrc := va_recv g.hK (h1.one hΛ) hc (q0 := 0) rfl
  rw [hcy] at hrc
  refine va_callv (mc := 0) (ms := 0) (a := [Value.ref b].toArray) (free := Aw Λ H.size) (A1 := Aw Λ H.size) (va_runV (C := y.cls) (As := []) (rest := st) ⟨g.exec, g.code, g.ml, g.hown, g.hts⟩ (h8 ▸ hM H.size) (cwV 0 g.hts (ws_good (wx := [Cond.methodLink own idx y, .instanceMethod y, .selects y.cls y y, .initialized y.cls]) hk.1) rfl hz0.1 hz0.2 ⟨rfl, yOk_sp hk.2⟩ (by rw [h9]; exact r1)) ⟨Pw.blind, hrc, fun U hU hW => PwU.at g h1 h2 hsub hU hW⟩ rfl rfl (lvH.size g h3) rfl (stOk_sp hs) d (by rw [h9]; exact r3)) h2 (fun q _ h => hsub q h) hsub (fun u t H1 locs1 ht hvm hp hB hz hk hS => ?_)
  refine W_le (fun hle => ?_)
  exact kk u hp H1 locs1 ls (by omega) (by rw [← ht]; exact hB) hS h3
theorem VU_callSV {y : MethodName} {bytes : ByteArray} {maxL idx : Nat} {x0 : Value} {rm : Room} {Ψ : MM → Prop} (g : VOk Γ D B own cc nL l R) (hM : CV l y bytes maxL rm [x0] D Λ M Ψ) (d : decode cc pc = .ok (.invokestatic idx, 3)) (hk : lkS own idx y bytes maxL none 1) (hsub : ∀ q : Nat, Aw Λ w q → Aw B (gs Γ).heap.size q) (hκ : (gs Γ).heap.size + κ.1 = w) (hr : rmOk rm maxL R κ = true) (hs : stOk st = true) (hz0 : rm.cells = 0 ∧ rm.slots = 0) (hq : pc + 3 = q) (kk : ∀ M1, Ψ M1 → VU Γ D B Λ M1 w κ q lv st) : VU Γ D B Λ M w κ pc lv (x0 :: st) := by
  subst hq
  intro H locs ls h0 h1 h2 h3
  subst h0
  obtain ⟨r1, r2⟩ := rmOk_sp hr
  have r3 : κ.1 + 0 ≤ R.cells ∧ κ.2 + 0 ≤ R.slots := by rw [hz0.1, hz0.2] at r2; exact r2
  have h8 : gl Γ = l := g.gl
  have h9 : gR Γ = R := g.room
  refine va_callv (mc := 0) (ms := 0) (a := [x0].toArray) (free := Aw Λ H.size) (A1 := Aw Λ H.size) (va_runS (As := [x0]) (rest := st) ⟨g.exec, g.code, g.ml, g.hown, g.hts⟩ (h8 ▸ hM H.size) (va_cwS 1 g.hts (ws_good (wx := [Cond.methodLink own idx y, .static y, .initialized y.cls]) hk.1) rfl hz0.1 hz0.2 (yOk_sp hk.2) (by rw [h9]; exact r1)) ⟨Pw.blind, fun U hU hW => PwU.at g h1 h2 hsub hU hW⟩ rfl rfl (lvH.size g h3) rfl (stOk_sp hs) d (by rw [h9]; exact r3)) h2 (fun q _ h => hsub q h) hsub (fun u t H1 locs1 ht hvm hp hB hz hk hS => ?_)
  refine W_le (fun hle => ?_)
  exact kk u hp H1 locs1 ls (by omega) (by rw [← ht]; exact hB) hS h3
end VUR
