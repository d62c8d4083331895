/-! the judgement V -/
abbrev VG : Type := (Program × Launch × Env × Room × State) × (MethodId × Array Value × List Frame × Method × Code) × (Nat × (State → Prop))
def gp (Γ : VG) : Program := Γ.1.1
def gl (Γ : VG) : Launch := Γ.1.2.1
def ge (Γ : VG) : Env := Γ.1.2.2.1
def gR (Γ : VG) : Room := Γ.1.2.2.2.1
def gs (Γ : VG) : State := Γ.1.2.2.2.2
def gm (Γ : VG) : MethodId := Γ.2.1.1
def ga (Γ : VG) : Array Value := Γ.2.1.2.1
def gb (Γ : VG) : List Frame := Γ.2.1.2.2.1
def gM (Γ : VG) : Method := Γ.2.1.2.2.2.1
def gc (Γ : VG) : Code := Γ.2.1.2.2.2.2
def gnL (Γ : VG) : Nat := Γ.2.2.1
def gQ (Γ : VG) : State → Prop := Γ.2.2.2
/-- the locals, by place; none: nothing is known -/
def lvH (ls : Array Slot) (nL : Nat) (lv : List (Option Value)) : Prop := ls.size = nL ∧ lv_wf ls ∧ ∀ (i : Nat) (v : Value), lv[i]? = some (some v) → ls[i]? = some (.val v)
def V (Γ : VG) (D : DD) (Λ : LY) (M : MM) (κ : Nat × Nat) (pc : Nat) (lv : List (Option Value)) (st : List Value) : Prop :=
  ∀ (H : Heap) (locs : List Loc) (ls : Array Slot), Hd D Λ M H → va_S (Aw Λ (gs Γ).heap.size) (gs Γ).heap H locs → lvH ls (gnL Γ) lv →
    W (gp Γ) (gl Γ) (ge Γ) (gR Γ) (gs Γ) (gm Γ) (ga Γ) (gb Γ) (gM Γ) (gc Γ) H locs κ.1 κ.2 (gQ Γ) (F0 (gm Γ) pc ls st)
def VOk (Γ : VG) (D : DD) (Λ : LY) (own : String) (cc : ByteArray) (nL : Nat) (l : Launch) (R : Room) : Prop :=
  (gp Γ).tables.exec = Jvm.exec ∧ (gc Γ).code = cc ∧ (gc Γ).maxLocals = nL ∧ gnL Γ = nL ∧ (gs Γ).vm.findClass own = some (gm Γ).cls ∧ (∀ w ∈ BIG, w.before (ga Γ) (gs Γ) = true) ∧ va_K D.1 vwCl (tysD D) (gs Γ) ∧ St (Aw Λ (gs Γ).heap.size) (gs Γ) (gs Γ).heap ∧ (gM Γ).locks = false ∧ gl Γ = l ∧ gR Γ = R
section VR
variable {Γ : VG} {D : DD} {Λ : LY} {own : String} {cc : ByteArray} {nL : Nat} {l : Launch} {R : Room} {M : MM} {κ : Nat × Nat} {pc q : Nat} {lv : List (Option Value)} {st : List Value}
theorem VOk.exec (g : VOk Γ D Λ own cc nL l R) : (gp Γ).tables.exec = Jvm.exec := g.1
theorem VOk.code (g : VOk Γ D Λ own cc nL l R) : (gc Γ).code = cc := g.2.1
theorem VOk.ml (g : VOk Γ D Λ own cc nL l R) : (gc Γ).maxLocals = nL := g.2.2.1
theorem VOk.nl (g : VOk Γ D Λ own cc nL l R) : gnL Γ = nL := g.2.2.2.1
theorem VOk.hown (g : VOk Γ D Λ own cc nL l R) : (gs Γ).vm.findClass own = some (gm Γ).cls := g.2.2.2.2.1
theorem VOk.hts (g : VOk Γ D Λ own cc nL l R) : ∀ w ∈ BIG, w.before (ga Γ) (gs Γ) = true := g.2.2.2.2.2.1
theorem VOk.hK (g : VOk Γ D Λ own cc nL l R) : va_K D.1 vwCl (tysD D) (gs Γ) := g.2.2.2.2.2.2.1
theorem VOk.hst (g : VOk Γ D Λ own cc nL l R) : St (Aw Λ (gs Γ).heap.size) (gs Γ) (gs Γ).heap := g.2.2.2.2.2.2.2.1
theorem VOk.locks (g : VOk Γ D Λ own cc nL l R) : (gM Γ).locks = false := g.2.2.2.2.2.2.2.2.1
theorem VOk.gl (g : VOk Γ D Λ own cc nL l R) : gl Γ = l := g.2.2.2.2.2.2.2.2.2.1
theorem VOk.room (g : VOk Γ D Λ own cc nL l R) : gR Γ = R := g.2.2.2.2.2.2.2.2.2.2
theorem iI_0 : iI 0 = (0 : Int32) := by decide
theorem aw_out {sz : Nat} : ∀ q : Nat, sz ≤ q → Aw Λ sz q := fun _ h => Or.inr h
theorem aw_sub {sz sz' : Nat} (h : sz ≤ sz') : ∀ q : Nat, Aw Λ sz' q → Aw Λ sz q := fun _ z => z.elim Or.inl (fun z => Or.inr (Nat.le_trans h z))
theorem Hd.one {a : Nat} {K : KD} {H : Heap} (h : Hd D Λ M H) (ha : Λ a = some K) : va_P D.1 vwCl [(a, K (M a))] H := by
  intro k x hk
  match k, hk with
  | 0, hk => cases hk; exact h a K ha
  | k + 1, hk => simp at hk
theorem Hd.set {a : Nat} {K : KD} {H H1 : Heap} {i v : Int} (h : Hd D Λ M H) (ha : Λ a = some K) (h1 : va_at D.1 vwCl (a, K (up (M a) i v)) H1) (hk : ∀ b : Nat, b ≠ a → H1[b]? = H[b]?) : Hd D Λ (wr M a i v) H1 := by
  intro b K' hb
  by_cases e : b = a
  · subst e
    cases ha.symm.trans hb
    rw [wr_at]
    exact h1
  · rw [wr_ne M i v e]
    exact (h b K' hb).kept (hk b e)
/-- storing a value of one slot -/
def lvPrev (lv : List (Option Value)) (i : Nat) : Bool := match i with
  | 0 => true
  | j + 1 => match lv[j]? with
    | some (some v) => v.category == 1
    | _ => true
theorem lvPrev_c {lv : List (Option Value)} {j : Nat} {w : Value} (hp : lvPrev lv (j + 1) = true) (hj : lv[j]? = some (some w)) : w.category = 1 := by
  simp only [lvPrev, hj] at hp
  simpa using hp
theorem lv_toK {ls : Array Slot} (h : lvH ls nL lv) (i : Nat) (v : Value) (hv : lv[i]? = some (some v)) : ls[i]? = some (.val v) := h.2.2 i v hv
def lvKs (lv : List (Option Value)) : List (Nat × Value) := (List.range lv.length).filterMap (fun i => match lv[i]? with | some (some v) => some (i, v) | _ => none)
theorem lvKs_mem {q : Nat × Value} (h : q ∈ lvKs lv) : lv[q.1]? = some (some q.2) := by
  obtain ⟨i, -, hi⟩ := List.mem_filterMap.mp h
  split at hi
  · rename_i v hv
    cases hi
    exact hv
  · cases hi
theorem mem_lvKs {i : Nat} {v : Value} (h : lv[i]? = some (some v)) : (i, v) ∈ lvKs lv := by
  refine List.mem_filterMap.mpr ⟨i, List.mem_range.mpr (List.getElem?_eq_some_iff.mp h).1, ?_⟩
  rw [h]
theorem lvH.has {ls : Array Slot} (h : lvH ls nL lv) : lv_has ls nL (lvKs lv) := ⟨h.1, h.2.1, fun _ hq => h.2.2 _ _ (lvKs_mem hq)⟩
theorem lvH.st1 {ls' : Array Slot} {i : Nat} {v : Value} (hp : lvPrev lv i = true) (h : lv_has ls' nL ((i, v) :: (lvKs lv).filter (fun q => !(q.1 == i) && !(q.1 + 1 == i && q.2.category == 2)))) : lvH ls' nL (lv.set i (some v)) := by
  refine ⟨h.1, h.2.1, fun j w hj => ?_⟩
  by_cases e : j = i
  · subst e
    have hl : j < (lv.set j (some v)).length := (List.getElem?_eq_some_iff.mp hj).1
    rw [List.getElem?_set_self (by simpa using hl)] at hj
    cases hj
    exact h.2.2 (j, v) List.mem_cons_self
  · rw [List.getElem?_set_ne (Ne.symm e)] at hj
    refine h.2.2 (j, w) (List.mem_cons_of_mem _ (List.mem_filter.mpr ⟨mem_lvKs hj, ?_⟩))
    cases i with
    | zero => simp [e]
    | succ i =>
      by_cases e2 : j = i
      · subst e2
        have hc : w.category = 1 := lvPrev_c hp hj
        simp [hc]
      · simp [e, e2]
theorem lvH.st2 {ls' : Array Slot} {i : Nat} {v : Value} (hp : lvPrev lv i = true) (h : lv_has ls' nL ((i, v) :: (lvKs lv).filter (fun q => !(q.1 == i) && (!(q.1 == i + 1) && !(q.1 + 1 == i && q.2.category == 2))))) : lvH ls' nL ((lv.set i (some v)).set (i + 1) none) := by
  refine ⟨h.1, h.2.1, fun j w hj => ?_⟩
  by_cases e1 : j = i + 1
  · subst e1
    have hl : i + 1 < ((lv.set i (some v)).set (i + 1) none).length := (List.getElem?_eq_some_iff.mp hj).1
    rw [List.getElem?_set_self (by simpa using hl)] at hj
    cases hj
  · rw [List.getElem?_set_ne (Ne.symm e1)] at hj
    by_cases e : j = i
    · subst e
      have hl : j < (lv.set j (some v)).length := (List.getElem?_eq_some_iff.mp hj).1
      rw [List.getElem?_set_self (by simpa using hl)] at hj
      cases hj
      exact h.2.2 (j, v) List.mem_cons_self
    · rw [List.getElem?_set_ne (Ne.symm e)] at hj
      refine h.2.2 (j, w) (List.mem_cons_of_mem _ (List.mem_filter.mpr ⟨mem_lvKs hj, ?_⟩))
      cases i with
      | zero => simp [e]; omega
      | succ i =>
        by_cases e2 : j = i
        · subst e2
          have hc : w.category = 1 := lvPrev_c hp hj
          simp [hc]; omega
        · simp [e, e2]; omega

theorem V_iconst {n : Int} (g : VOk Γ D Λ own cc nL l R) (d : decode cc pc = .ok (.iconst n, 1))  (hq : pc + 1 = q) (k : V Γ D Λ M κ q lv (vi n :: st)) : V Γ D Λ M κ pc lv st := by
  subst hq
  intro H locs ls h1 h2 h3
  exact lv_iconst g.exec g.code d rfl (k H locs ls h1 h2 h3)
theorem V_bipush {n : Int} (g : VOk Γ D Λ own cc nL l R) (d : decode cc pc = .ok (.bipush n, 2)) (hn : -128 ≤ n ∧ n < 128) (hq : pc + 2 = q) (k : V Γ D Λ M κ q lv (vi n :: st)) : V Γ D Λ M κ pc lv st := by
  subst hq
  intro H locs ls h1 h2 h3
  exact lv_bipush g.exec g.code d (iI_bp hn) (k H locs ls h1 h2 h3)
theorem V_sipush {n : Int} (g : VOk Γ D Λ own cc nL l R) (d : decode cc pc = .ok (.sipush n, 3)) (hn : -32768 ≤ n ∧ n < 32768) (hq : pc + 3 = q) (k : V Γ D Λ M κ q lv (vi n :: st)) : V Γ D Λ M κ pc lv st := by
  subst hq
  intro H locs ls h1 h2 h3
  exact lv_sipush g.exec g.code d (iI_sp hn) (k H locs ls h1 h2 h3)
theorem V_lconst {n : Fin 2} {z : Int} (g : VOk Γ D Λ own cc nL l R) (d : decode cc pc = .ok (.lconst n, 1)) (hz : Int64.ofNat (n : Nat) = lI z) (hq : pc + 1 = q) (k : V Γ D Λ M κ q lv (vl z :: st)) : V Γ D Λ M κ pc lv st := by
  subst hq
  intro H locs ls h1 h2 h3
  exact lv_lconst g.exec g.code d hz (k H locs ls h1 h2 h3)
theorem V_ldc {i : Nat} {v : Int32} {z : Int} (g : VOk Γ D Λ own cc nL l R) (d : decode cc pc = .ok (.ldc i, 2)) (hw : Cond.constant own i v ∈ BIG) (hz : v = iI z) (hq : pc + 2 = q) (k : V Γ D Λ M κ q lv (vi z :: st)) : V Γ D Λ M κ pc lv st := by
  subst hq
  intro H locs ls h1 h2 h3
  subst hz
  exact lv_ldc g.exec g.code g.hown (g.hts _ hw) d (k H locs ls h1 h2 h3)
theorem V_ldc2 {i : Nat} {v : Int64} {z : Int} (g : VOk Γ D Λ own cc nL l R) (d : decode cc pc = .ok (.ldc2_w i, 3)) (hw : Cond.constantLong own i v ∈ BIG) (hz : v = lI z) (hq : pc + 3 = q) (k : V Γ D Λ M κ q lv (vl z :: st)) : V Γ D Λ M κ pc lv st := by
  subst hq
  intro H locs ls h1 h2 h3
  subst hz
  exact lv_ldc2 g.exec g.code g.hown (g.hts _ hw) d (k H locs ls h1 h2 h3)
theorem V_iload_n {i : Fin 4} {x : Int32} (g : VOk Γ D Λ own cc nL l R) (d : decode cc pc = .ok (.iload_n i, 1)) (hv : lv[(i : Nat)]? = some (some (.int x))) (hq : pc + 1 = q) (k : V Γ D Λ M κ q lv (.int x :: st)) : V Γ D Λ M κ pc lv st := by
  subst hq
  intro H locs ls h1 h2 h3
  exact lv_iload_n g.exec g.code d rfl (h3.2.2 _ _ hv) (k H locs ls h1 h2 h3)
theorem V_iload {i : Nat} {x : Int32} (g : VOk Γ D Λ own cc nL l R) (d : decode cc pc = .ok (.iload i, 2)) (hv : lv[i]? = some (some (.int x))) (hq : pc + 2 = q) (k : V Γ D Λ M κ q lv (.int x :: st)) : V Γ D Λ M κ pc lv st := by
  subst hq
  intro H locs ls h1 h2 h3
  exact lv_iload g.exec g.code d (h3.2.2 _ _ hv) (k H locs ls h1 h2 h3)
theorem V_lload_n {i : Fin 4} {x : Int64} (g : VOk Γ D Λ own cc nL l R) (d : decode cc pc = .ok (.lload_n i, 1)) (hv : lv[(i : Nat)]? = some (some (.long x))) (hq : pc + 1 = q) (k : V Γ D Λ M κ q lv (.long x :: st)) : V Γ D Λ M κ pc lv st := by
  subst hq
  intro H locs ls h1 h2 h3
  exact lv_lload_n g.exec g.code d rfl (h3.2.2 _ _ hv) (k H locs ls h1 h2 h3)
theorem V_lload {i : Nat} {x : Int64} (g : VOk Γ D Λ own cc nL l R) (d : decode cc pc = .ok (.lload i, 2)) (hv : lv[i]? = some (some (.long x))) (hq : pc + 2 = q) (k : V Γ D Λ M κ q lv (.long x :: st)) : V Γ D Λ M κ pc lv st := by
  subst hq
  intro H locs ls h1 h2 h3
  exact lv_lload g.exec g.code d (h3.2.2 _ _ hv) (k H locs ls h1 h2 h3)
theorem V_aload_n {i : Fin 4} {x : Nat} (g : VOk Γ D Λ own cc nL l R) (d : decode cc pc = .ok (.aload_n i, 1)) (hv : lv[(i : Nat)]? = some (some (.ref x))) (hq : pc + 1 = q) (k : V Γ D Λ M κ q lv (.ref x :: st)) : V Γ D Λ M κ pc lv st := by
  subst hq
  intro H locs ls h1 h2 h3
  exact lv_aload_n g.exec g.code d rfl (h3.2.2 _ _ hv) (k H locs ls h1 h2 h3)
theorem V_aload {i : Nat} {x : Nat} (g : VOk Γ D Λ own cc nL l R) (d : decode cc pc = .ok (.aload i, 2)) (hv : lv[i]? = some (some (.ref x))) (hq : pc + 2 = q) (k : V Γ D Λ M κ q lv (.ref x :: st)) : V Γ D Λ M κ pc lv st := by
  subst hq
  intro H locs ls h1 h2 h3
  exact lv_aload g.exec g.code d (h3.2.2 _ _ hv) (k H locs ls h1 h2 h3)
theorem V_istore_n0 {i : Fin 4} {x : Int32} (g : VOk Γ D Λ own cc nL l R) (d : decode cc pc = .ok (.istore_n i, 1)) (hi : (i : Nat) < nL) (hp : lvPrev lv i = true) (hq : pc + 1 = q) (k : V Γ D Λ M κ q (lv.set i (some (.int x))) st) : V Γ D Λ M κ pc lv (.int x :: st) := by
  subst hq
  intro H locs ls h1 h2 h3
  have hn : gnL Γ = nL := g.nl
  rw [hn] at h3
  refine lv_istore_n g.exec g.code d rfl h3.has hi rfl (fun ls1 h4 => k H locs ls1 h1 h2 ?_)
  rw [hn]
  exact lvH.st1 hp h4
theorem V_istore0 {i : Nat} {x : Int32} (g : VOk Γ D Λ own cc nL l R) (d : decode cc pc = .ok (.istore i, 2)) (hi : (i : Nat) < nL) (hp : lvPrev lv i = true) (hq : pc + 2 = q) (k : V Γ D Λ M κ q (lv.set i (some (.int x))) st) : V Γ D Λ M κ pc lv (.int x :: st) := by
  subst hq
  intro H locs ls h1 h2 h3
  have hn : gnL Γ = nL := g.nl
  rw [hn] at h3
  refine lv_istore g.exec g.code d h3.has hi rfl (fun ls1 h4 => k H locs ls1 h1 h2 ?_)
  rw [hn]
  exact lvH.st1 hp h4
theorem V_astore_n0 {i : Fin 4} {x : Nat} (g : VOk Γ D Λ own cc nL l R) (d : decode cc pc = .ok (.astore_n i, 1)) (hi : (i : Nat) < nL) (hp : lvPrev lv i = true) (hq : pc + 1 = q) (k : V Γ D Λ M κ q (lv.set i (some (.ref x))) st) : V Γ D Λ M κ pc lv (.ref x :: st) := by
  subst hq
  intro H locs ls h1 h2 h3
  have hn : gnL Γ = nL := g.nl
  rw [hn] at h3
  refine lv_astore_n g.exec g.code d rfl h3.has hi rfl (fun ls1 h4 => k H locs ls1 h1 h2 ?_)
  rw [hn]
  exact lvH.st1 hp h4
theorem V_astore0 {i : Nat} {x : Nat} (g : VOk Γ D Λ own cc nL l R) (d : decode cc pc = .ok (.astore i, 2)) (hi : (i : Nat) < nL) (hp : lvPrev lv i = true) (hq : pc + 2 = q) (k : V Γ D Λ M κ q (lv.set i (some (.ref x))) st) : V Γ D Λ M κ pc lv (.ref x :: st) := by
  subst hq
  intro H locs ls h1 h2 h3
  have hn : gnL Γ = nL := g.nl
  rw [hn] at h3
  refine lv_astore g.exec g.code d h3.has hi rfl (fun ls1 h4 => k H locs ls1 h1 h2 ?_)
  rw [hn]
  exact lvH.st1 hp h4
theorem V_lstore_n0 {i : Fin 4} {x : Int64} (g : VOk Γ D Λ own cc nL l R) (d : decode cc pc = .ok (.lstore_n i, 1)) (hi : (i : Nat) + 1 < nL) (hp : lvPrev lv i = true) (hq : pc + 1 = q) (k : V Γ D Λ M κ q ((lv.set i (some (.long x))).set (i + 1) none) st) : V Γ D Λ M κ pc lv (.long x :: st) := by
  subst hq
  intro H locs ls h1 h2 h3
  have hn : gnL Γ = nL := g.nl
  rw [hn] at h3
  refine lv_lstore_n g.exec g.code d rfl h3.has hi rfl (fun ls1 h4 => k H locs ls1 h1 h2 ?_)
  rw [hn]
  exact lvH.st2 hp h4
theorem V_lstore0 {i : Nat} {x : Int64} (g : VOk Γ D Λ own cc nL l R) (d : decode cc pc = .ok (.lstore i, 2)) (hi : (i : Nat) + 1 < nL) (hp : lvPrev lv i = true) (hq : pc + 2 = q) (k : V Γ D Λ M κ q ((lv.set i (some (.long x))).set (i + 1) none) st) : V Γ D Λ M κ pc lv (.long x :: st) := by
  subst hq
  intro H locs ls h1 h2 h3
  have hn : gnL Γ = nL := g.nl
  rw [hn] at h3
  refine lv_lstore g.exec g.code d h3.has hi rfl (fun ls1 h4 => k H locs ls1 h1 h2 ?_)
  rw [hn]
  exact lvH.st2 hp h4
theorem V_iinc0 {i : Nat} {n x : Int} (g : VOk Γ D Λ own cc nL l R) (d : decode cc pc = .ok (.iinc i n, 3)) (hi : i < nL) (hp : lvPrev lv i = true) (hv : lv[i]? = some (some (vi x))) (hq : pc + 3 = q) (k : V Γ D Λ M κ q (lv.set i (some (vi (x + n)))) st) : V Γ D Λ M κ pc lv st := by
  subst hq
  intro H locs ls h1 h2 h3
  have hn : gnL Γ = nL := g.nl
  rw [hn] at h3
  obtain ⟨k0, hk0⟩ := List.getElem?_of_mem (mem_lvKs hv)
  refine lv_iinc (k := k0) (v := iI (x + n)) g.exec g.code d h3.has hk0 (iI_add x n) hi rfl (fun ls1 h4 => k H locs ls1 h1 h2 ?_)
  rw [hn]
  exact lvH.st1 hp h4
theorem V_istore_n_0 {y : Option Value} {r : List (Option Value)} {x : Int32} (g : VOk Γ D Λ own cc nL l R) (d : decode cc pc = .ok (.istore_n 0, 1)) (hi : 0 < nL)  (hq : pc + 1 = q) (k : V Γ D Λ M κ q (some (.int x) :: r) st) : V Γ D Λ M κ pc (y :: r) (.int x :: st) := V_istore_n0 (i := 0) g d hi rfl hq k
theorem V_istore_0 {y : Option Value} {r : List (Option Value)} {x : Int32} (g : VOk Γ D Λ own cc nL l R) (d : decode cc pc = .ok (.istore 0, 2)) (hi : 0 < nL)  (hq : pc + 2 = q) (k : V Γ D Λ M κ q (some (.int x) :: r) st) : V Γ D Λ M κ pc (y :: r) (.int x :: st) := V_istore0 (i := 0) g d hi rfl hq k
theorem V_astore_n_0 {y : Option Value} {r : List (Option Value)} {x : Nat} (g : VOk Γ D Λ own cc nL l R) (d : decode cc pc = .ok (.astore_n 0, 1)) (hi : 0 < nL)  (hq : pc + 1 = q) (k : V Γ D Λ M κ q (some (.ref x) :: r) st) : V Γ D Λ M κ pc (y :: r) (.ref x :: st) := V_astore_n0 (i := 0) g d hi rfl hq k
theorem V_astore_0 {y : Option Value} {r : List (Option Value)} {x : Nat} (g : VOk Γ D Λ own cc nL l R) (d : decode cc pc = .ok (.astore 0, 2)) (hi : 0 < nL)  (hq : pc + 2 = q) (k : V Γ D Λ M κ q (some (.ref x) :: r) st) : V Γ D Λ M κ pc (y :: r) (.ref x :: st) := V_astore0 (i := 0) g d hi rfl hq k
theorem V_lstore_n_0 {y : Option Value} {z : Option Value} {r : List (Option Value)} {x : Int64} (g : VOk Γ D Λ own cc nL l R) (d : decode cc pc = .ok (.lstore_n 0, 1)) (hi : 1 < nL)  (hq : pc + 1 = q) (k : V Γ D Λ M κ q (some (.long x) :: none :: r) st) : V Γ D Λ M κ pc (y :: z :: r) (.long x :: st) := V_lstore_n0 (i := 0) g d hi rfl hq k
theorem V_lstore_0 {y : Option Value} {z : Option Value} {r : List (Option Value)} {x : Int64} (g : VOk Γ D Λ own cc nL l R) (d : decode cc pc = .ok (.lstore 0, 2)) (hi : 1 < nL)  (hq : pc + 2 = q) (k : V Γ D Λ M κ q (some (.long x) :: none :: r) st) : V Γ D Λ M κ pc (y :: z :: r) (.long x :: st) := V_lstore0 (i := 0) g d hi rfl hq k
theorem V_iinc_0  {r : List (Option Value)} {n x : Int} (g : VOk Γ D Λ own cc nL l R) (d : decode cc pc = .ok (.iinc 0 n, 3)) (hi : 0 < nL)  (hq : pc + 3 = q) (k : V Γ D Λ M κ q (some (vi (x + n)) :: r) st) : V Γ D Λ M κ pc (some (vi x) :: r) st := V_iinc0 (i := 0) g d hi rfl rfl hq k
theorem V_istore_n_1 {x0 y : Option Value} {r : List (Option Value)} {x : Int32} (g : VOk Γ D Λ own cc nL l R) (d : decode cc pc = .ok (.istore_n 1, 1)) (hi : 1 < nL) (hp : lvPrev [x0] 1 = true) (hq : pc + 1 = q) (k : V Γ D Λ M κ q (x0 :: some (.int x) :: r) st) : V Γ D Λ M κ pc (x0 :: y :: r) (.int x :: st) := V_istore_n0 (i := 1) g d hi (by simpa [lvPrev] using hp) hq k
theorem V_istore_1 {x0 y : Option Value} {r : List (Option Value)} {x : Int32} (g : VOk Γ D Λ own cc nL l R) (d : decode cc pc = .ok (.istore 1, 2)) (hi : 1 < nL) (hp : lvPrev [x0] 1 = true) (hq : pc + 2 = q) (k : V Γ D Λ M κ q (x0 :: some (.int x) :: r) st) : V Γ D Λ M κ pc (x0 :: y :: r) (.int x :: st) := V_istore0 (i := 1) g d hi (by simpa [lvPrev] using hp) hq k
theorem V_astore_n_1 {x0 y : Option Value} {r : List (Option Value)} {x : Nat} (g : VOk Γ D Λ own cc nL l R) (d : decode cc pc = .ok (.astore_n 1, 1)) (hi : 1 < nL) (hp : lvPrev [x0] 1 = true) (hq : pc + 1 = q) (k : V Γ D Λ M κ q (x0 :: some (.ref x) :: r) st) : V Γ D Λ M κ pc (x0 :: y :: r) (.ref x :: st) := V_astore_n0 (i := 1) g d hi (by simpa [lvPrev] using hp) hq k
theorem V_astore_1 {x0 y : Option Value} {r : List (Option Value)} {x : Nat} (g : VOk Γ D Λ own cc nL l R) (d : decode cc pc = .ok (.astore 1, 2)) (hi : 1 < nL) (hp : lvPrev [x0] 1 = true) (hq : pc + 2 = q) (k : V Γ D Λ M κ q (x0 :: some (.ref x) :: r) st) : V Γ D Λ M κ pc (x0 :: y :: r) (.ref x :: st) := V_astore0 (i := 1) g d hi (by simpa [lvPrev] using hp) hq k
theorem V_lstore_n_1 {x0 y : Option Value} {z : Option Value} {r : List (Option Value)} {x : Int64} (g : VOk Γ D Λ own cc nL l R) (d : decode cc pc = .ok (.lstore_n 1, 1)) (hi : 2 < nL) (hp : lvPrev [x0] 1 = true) (hq : pc + 1 = q) (k : V Γ D Λ M κ q (x0 :: some (.long x) :: none :: r) st) : V Γ D Λ M κ pc (x0 :: y :: z :: r) (.long x :: st) := V_lstore_n0 (i := 1) g d hi (by simpa [lvPrev] using hp) hq k
theorem V_lstore_1 {x0 y : Option Value} {z : Option Value} {r : List (Option Value)} {x : Int64} (g : VOk Γ D Λ own cc nL l R) (d : decode cc pc = .ok (.lstore 1, 2)) (hi : 2 < nL) (hp : lvPrev [x0] 1 = true) (hq : pc + 2 = q) (k : V Γ D Λ M κ q (x0 :: some (.long x) :: none :: r) st) : V Γ D Λ M κ pc (x0 :: y :: z :: r) (.long x :: st) := V_lstore0 (i := 1) g d hi (by simpa [lvPrev] using hp) hq k
theorem V_iinc_1 {x0 : Option Value} {r : List (Option Value)} {n x : Int} (g : VOk Γ D Λ own cc nL l R) (d : decode cc pc = .ok (.iinc 1 n, 3)) (hi : 1 < nL) (hp : lvPrev [x0] 1 = true) (hq : pc + 3 = q) (k : V Γ D Λ M κ q (x0 :: some (vi (x + n)) :: r) st) : V Γ D Λ M κ pc (x0 :: some (vi x) :: r) st := V_iinc0 (i := 1) g d hi (by simpa [lvPrev] using hp) rfl hq k
theorem V_istore_n_2 {x0 x1 y : Option Value} {r : List (Option Value)} {x : Int32} (g : VOk Γ D Λ own cc nL l R) (d : decode cc pc = .ok (.istore_n 2, 1)) (hi : 2 < nL) (hp : lvPrev [x1] 1 = true) (hq : pc + 1 = q) (k : V Γ D Λ M κ q (x0 :: x1 :: some (.int x) :: r) st) : V Γ D Λ M κ pc (x0 :: x1 :: y :: r) (.int x :: st) := V_istore_n0 (i := 2) g d hi (by simpa [lvPrev] using hp) hq k
theorem V_istore_2 {x0 x1 y : Option Value} {r : List (Option Value)} {x : Int32} (g : VOk Γ D Λ own cc nL l R) (d : decode cc pc = .ok (.istore 2, 2)) (hi : 2 < nL) (hp : lvPrev [x1] 1 = true) (hq : pc + 2 = q) (k : V Γ D Λ M κ q (x0 :: x1 :: some (.int x) :: r) st) : V Γ D Λ M κ pc (x0 :: x1 :: y :: r) (.int x :: st) := V_istore0 (i := 2) g d hi (by simpa [lvPrev] using hp) hq k
theorem V_astore_n_2 {x0 x1 y : Option Value} {r : List (Option Value)} {x : Nat} (g : VOk Γ D Λ own cc nL l R) (d : decode cc pc = .ok (.astore_n 2, 1)) (hi : 2 < nL) (hp : lvPrev [x1] 1 = true) (hq : pc + 1 = q) (k : V Γ D Λ M κ q (x0 :: x1 :: some (.ref x) :: r) st) : V Γ D Λ M κ pc (x0 :: x1 :: y :: r) (.ref x :: st) := V_astore_n0 (i := 2) g d hi (by simpa [lvPrev] using hp) hq k
theorem V_astore_2 {x0 x1 y : Option Value} {r : List (Option Value)} {x : Nat} (g : VOk Γ D Λ own cc nL l R) (d : decode cc pc = .ok (.astore 2, 2)) (hi : 2 < nL) (hp : lvPrev [x1] 1 = true) (hq : pc + 2 = q) (k : V Γ D Λ M κ q (x0 :: x1 :: some (.ref x) :: r) st) : V Γ D Λ M κ pc (x0 :: x1 :: y :: r) (.ref x :: st) := V_astore0 (i := 2) g d hi (by simpa [lvPrev] using hp) hq k
theorem V_lstore_n_2 {x0 x1 y : Option Value} {z : Option Value} {r : List (Option Value)} {x : Int64} (g : VOk Γ D Λ own cc nL l R) (d : decode cc pc = .ok (.lstore_n 2, 1)) (hi : 3 < nL) (hp : lvPrev [x1] 1 = true) (hq : pc + 1 = q) (k : V Γ D Λ M κ q (x0 :: x1 :: some (.long x) :: none :: r) st) : V Γ D Λ M κ pc (x0 :: x1 :: y :: z :: r) (.long x :: st) := V_lstore_n0 (i := 2) g d hi (by simpa [lvPrev] using hp) hq k
theorem V_lstore_2 {x0 x1 y : Option Value} {z : Option Value} {r : List (Option Value)} {x : Int64} (g : VOk Γ D Λ own cc nL l R) (d : decode cc pc = .ok (.lstore 2, 2)) (hi : 3 < nL) (hp : lvPrev [x1] 1 = true) (hq : pc + 2 = q) (k : V Γ D Λ M κ q (x0 :: x1 :: some (.long x) :: none :: r) st) : V Γ D Λ M κ pc (x0 :: x1 :: y :: z :: r) (.long x :: st) := V_lstore0 (i := 2) g d hi (by simpa [lvPrev] using hp) hq k
theorem V_iinc_2 {x0 x1 : Option Value} {r : List (Option Value)} {n x : Int} (g : VOk Γ D Λ own cc nL l R) (d : decode cc pc = .ok (.iinc 2 n, 3)) (hi : 2 < nL) (hp : lvPrev [x1] 1 = true) (hq : pc + 3 = q) (k : V Γ D Λ M κ q (x0 :: x1 :: some (vi (x + n)) :: r) st) : V Γ D Λ M κ pc (x0 :: x1 :: some (vi x) :: r) st := V_iinc0 (i := 2) g d hi (by simpa [lvPrev] using hp) rfl hq k
theorem V_istore_n_3 {x0 x1 x2 y : Option Value} {r : List (Option Value)} {x : Int32} (g : VOk Γ D Λ own cc nL l R) (d : decode cc pc = .ok (.istore_n 3, 1)) (hi : 3 < nL) (hp : lvPrev [x2] 1 = true) (hq : pc + 1 = q) (k : V Γ D Λ M κ q (x0 :: x1 :: x2 :: some (.int x) :: r) st) : V Γ D Λ M κ pc (x0 :: x1 :: x2 :: y :: r) (.int x :: st) := V_istore_n0 (i := 3) g d hi (by simpa [lvPrev] using hp) hq k
theorem V_istore_3 {x0 x1 x2 y : Option Value} {r : List (Option Value)} {x : Int32} (g : VOk Γ D Λ own cc nL l R) (d : decode cc pc = .ok (.istore 3, 2)) (hi : 3 < nL) (hp : lvPrev [x2] 1 = true) (hq : pc + 2 = q) (k : V Γ D Λ M κ q (x0 :: x1 :: x2 :: some (.int x) :: r) st) : V Γ D Λ M κ pc (x0 :: x1 :: x2 :: y :: r) (.int x :: st) := V_istore0 (i := 3) g d hi (by simpa [lvPrev] using hp) hq k
theorem V_astore_n_3 {x0 x1 x2 y : Option Value} {r : List (Option Value)} {x : Nat} (g : VOk Γ D Λ own cc nL l R) (d : decode cc pc = .ok (.astore_n 3, 1)) (hi : 3 < nL) (hp : lvPrev [x2] 1 = true) (hq : pc + 1 = q) (k : V Γ D Λ M κ q (x0 :: x1 :: x2 :: some (.ref x) :: r) st) : V Γ D Λ M κ pc (x0 :: x1 :: x2 :: y :: r) (.ref x :: st) := V_astore_n0 (i := 3) g d hi (by simpa [lvPrev] using hp) hq k
theorem V_astore_3 {x0 x1 x2 y : Option Value} {r : List (Option Value)} {x : Nat} (g : VOk Γ D Λ own cc nL l R) (d : decode cc pc = .ok (.astore 3, 2)) (hi : 3 < nL) (hp : lvPrev [x2] 1 = true) (hq : pc + 2 = q) (k : V Γ D Λ M κ q (x0 :: x1 :: x2 :: some (.ref x) :: r) st) : V Γ D Λ M κ pc (x0 :: x1 :: x2 :: y :: r) (.ref x :: st) := V_astore0 (i := 3) g d hi (by simpa [lvPrev] using hp) hq k
theorem V_lstore_n_3 {x0 x1 x2 y : Option Value} {z : Option Value} {r : List (Option Value)} {x : Int64} (g : VOk Γ D Λ own cc nL l R) (d : decode cc pc = .ok (.lstore_n 3, 1)) (hi : 4 < nL) (hp : lvPrev [x2] 1 = true) (hq : pc + 1 = q) (k : V Γ D Λ M κ q (x0 :: x1 :: x2 :: some (.long x) :: none :: r) st) : V Γ D Λ M κ pc (x0 :: x1 :: x2 :: y :: z :: r) (.long x :: st) := V_lstore_n0 (i := 3) g d hi (by simpa [lvPrev] using hp) hq k
theorem V_lstore_3 {x0 x1 x2 y : Option Value} {z : Option Value} {r : List (Option Value)} {x : Int64} (g : VOk Γ D Λ own cc nL l R) (d : decode cc pc = .ok (.lstore 3, 2)) (hi : 4 < nL) (hp : lvPrev [x2] 1 = true) (hq : pc + 2 = q) (k : V Γ D Λ M κ q (x0 :: x1 :: x2 :: some (.long x) :: none :: r) st) : V Γ D Λ M κ pc (x0 :: x1 :: x2 :: y :: z :: r) (.long x :: st) := V_lstore0 (i := 3) g d hi (by simpa [lvPrev] using hp) hq k
theorem V_iinc_3 {x0 x1 x2 : Option Value} {r : List (Option Value)} {n x : Int} (g : VOk Γ D Λ own cc nL l R) (d : decode cc pc = .ok (.iinc 3 n, 3)) (hi : 3 < nL) (hp : lvPrev [x2] 1 = true) (hq : pc + 3 = q) (k : V Γ D Λ M κ q (x0 :: x1 :: x2 :: some (vi (x + n)) :: r) st) : V Γ D Λ M κ pc (x0 :: x1 :: x2 :: some (vi x) :: r) st := V_iinc0 (i := 3) g d hi (by simpa [lvPrev] using hp) rfl hq k
theorem V_istore_4 {x0 x1 x2 x3 y : Option Value} {r : List (Option Value)} {x : Int32} (g : VOk Γ D Λ own cc nL l R) (d : decode cc pc = .ok (.istore 4, 2)) (hi : 4 < nL) (hp : lvPrev [x3] 1 = true) (hq : pc + 2 = q) (k : V Γ D Λ M κ q (x0 :: x1 :: x2 :: x3 :: some (.int x) :: r) st) : V Γ D Λ M κ pc (x0 :: x1 :: x2 :: x3 :: y :: r) (.int x :: st) := V_istore0 (i := 4) g d hi (by simpa [lvPrev] using hp) hq k
theorem V_astore_4 {x0 x1 x2 x3 y : Option Value} {r : List (Option Value)} {x : Nat} (g : VOk Γ D Λ own cc nL l R) (d : decode cc pc = .ok (.astore 4, 2)) (hi : 4 < nL) (hp : lvPrev [x3] 1 = true) (hq : pc + 2 = q) (k : V Γ D Λ M κ q (x0 :: x1 :: x2 :: x3 :: some (.ref x) :: r) st) : V Γ D Λ M κ pc (x0 :: x1 :: x2 :: x3 :: y :: r) (.ref x :: st) := V_astore0 (i := 4) g d hi (by simpa [lvPrev] using hp) hq k
theorem V_lstore_4 {x0 x1 x2 x3 y : Option Value} {z : Option Value} {r : List (Option Value)} {x : Int64} (g : VOk Γ D Λ own cc nL l R) (d : decode cc pc = .ok (.lstore 4, 2)) (hi : 5 < nL) (hp : lvPrev [x3] 1 = true) (hq : pc + 2 = q) (k : V Γ D Λ M κ q (x0 :: x1 :: x2 :: x3 :: some (.long x) :: none :: r) st) : V Γ D Λ M κ pc (x0 :: x1 :: x2 :: x3 :: y :: z :: r) (.long x :: st) := V_lstore0 (i := 4) g d hi (by simpa [lvPrev] using hp) hq k
theorem V_iinc_4 {x0 x1 x2 x3 : Option Value} {r : List (Option Value)} {n x : Int} (g : VOk Γ D Λ own cc nL l R) (d : decode cc pc = .ok (.iinc 4 n, 3)) (hi : 4 < nL) (hp : lvPrev [x3] 1 = true) (hq : pc + 3 = q) (k : V Γ D Λ M κ q (x0 :: x1 :: x2 :: x3 :: some (vi (x + n)) :: r) st) : V Γ D Λ M κ pc (x0 :: x1 :: x2 :: x3 :: some (vi x) :: r) st := V_iinc0 (i := 4) g d hi (by simpa [lvPrev] using hp) rfl hq k
theorem V_istore_5 {x0 x1 x2 x3 x4 y : Option Value} {r : List (Option Value)} {x : Int32} (g : VOk Γ D Λ own cc nL l R) (d : decode cc pc = .ok (.istore 5, 2)) (hi : 5 < nL) (hp : lvPrev [x4] 1 = true) (hq : pc + 2 = q) (k : V Γ D Λ M κ q (x0 :: x1 :: x2 :: x3 :: x4 :: some (.int x) :: r) st) : V Γ D Λ M κ pc (x0 :: x1 :: x2 :: x3 :: x4 :: y :: r) (.int x :: st) := V_istore0 (i := 5) g d hi (by simpa [lvPrev] using hp) hq k
theorem V_astore_5 {x0 x1 x2 x3 x4 y : Option Value} {r : List (Option Value)} {x : Nat} (g : VOk Γ D Λ own cc nL l R) (d : decode cc pc = .ok (.astore 5, 2)) (hi : 5 < nL) (hp : lvPrev [x4] 1 = true) (hq : pc + 2 = q) (k : V Γ D Λ M κ q (x0 :: x1 :: x2 :: x3 :: x4 :: some (.ref x) :: r) st) : V Γ D Λ M κ pc (x0 :: x1 :: x2 :: x3 :: x4 :: y :: r) (.ref x :: st) := V_astore0 (i := 5) g d hi (by simpa [lvPrev] using hp) hq k
theorem V_lstore_5 {x0 x1 x2 x3 x4 y : Option Value} {z : Option Value} {r : List (Option Value)} {x : Int64} (g : VOk Γ D Λ own cc nL l R) (d : decode cc pc = .ok (.lstore 5, 2)) (hi : 6 < nL) (hp : lvPrev [x4] 1 = true) (hq : pc + 2 = q) (k : V Γ D Λ M κ q (x0 :: x1 :: x2 :: x3 :: x4 :: some (.long x) :: none :: r) st) : V Γ D Λ M κ pc (x0 :: x1 :: x2 :: x3 :: x4 :: y :: z :: r) (.long x :: st) := V_lstore0 (i := 5) g d hi (by simpa [lvPrev] using hp) hq k
theorem V_iinc_5 {x0 x1 x2 x3 x4 : Option Value} {r : List (Option Value)} {n x : Int} (g : VOk Γ D Λ own cc nL l R) (d : decode cc pc = .ok (.iinc 5 n, 3)) (hi : 5 < nL) (hp : lvPrev [x4] 1 = true) (hq : pc + 3 = q) (k : V Γ D Λ M κ q (x0 :: x1 :: x2 :: x3 :: x4 :: some (vi (x + n)) :: r) st) : V Γ D Λ M κ pc (x0 :: x1 :: x2 :: x3 :: x4 :: some (vi x) :: r) st := V_iinc0 (i := 5) g d hi (by simpa [lvPrev] using hp) rfl hq k
theorem V_istore_6 {x0 x1 x2 x3 x4 x5 y : Option Value} {r : List (Option Value)} {x : Int32} (g : VOk Γ D Λ own cc nL l R) (d : decode cc pc = .ok (.istore 6, 2)) (hi : 6 < nL) (hp : lvPrev [x5] 1 = true) (hq : pc + 2 = q) (k : V Γ D Λ M κ q (x0 :: x1 :: x2 :: x3 :: x4 :: x5 :: some (.int x) :: r) st) : V Γ D Λ M κ pc (x0 :: x1 :: x2 :: x3 :: x4 :: x5 :: y :: r) (.int x :: st) := V_istore0 (i := 6) g d hi (by simpa [lvPrev] using hp) hq k
theorem V_astore_6 {x0 x1 x2 x3 x4 x5 y : Option Value} {r : List (Option Value)} {x : Nat} (g : VOk Γ D Λ own cc nL l R) (d : decode cc pc = .ok (.astore 6, 2)) (hi : 6 < nL) (hp : lvPrev [x5] 1 = true) (hq : pc + 2 = q) (k : V Γ D Λ M κ q (x0 :: x1 :: x2 :: x3 :: x4 :: x5 :: some (.ref x) :: r) st) : V Γ D Λ M κ pc (x0 :: x1 :: x2 :: x3 :: x4 :: x5 :: y :: r) (.ref x :: st) := V_astore0 (i := 6) g d hi (by simpa [lvPrev] using hp) hq k
theorem V_lstore_6 {x0 x1 x2 x3 x4 x5 y : Option Value} {z : Option Value} {r : List (Option Value)} {x : Int64} (g : VOk Γ D Λ own cc nL l R) (d : decode cc pc = .ok (.lstore 6, 2)) (hi : 7 < nL) (hp : lvPrev [x5] 1 = true) (hq : pc + 2 = q) (k : V Γ D Λ M κ q (x0 :: x1 :: x2 :: x3 :: x4 :: x5 :: some (.long x) :: none :: r) st) : V Γ D Λ M κ pc (x0 :: x1 :: x2 :: x3 :: x4 :: x5 :: y :: z :: r) (.long x :: st) := V_lstore0 (i := 6) g d hi (by simpa [lvPrev] using hp) hq k
theorem V_iinc_6 {x0 x1 x2 x3 x4 x5 : Option Value} {r : List (Option Value)} {n x : Int} (g : VOk Γ D Λ own cc nL l R) (d : decode cc pc = .ok (.iinc 6 n, 3)) (hi : 6 < nL) (hp : lvPrev [x5] 1 = true) (hq : pc + 3 = q) (k : V Γ D Λ M κ q (x0 :: x1 :: x2 :: x3 :: x4 :: x5 :: some (vi (x + n)) :: r) st) : V Γ D Λ M κ pc (x0 :: x1 :: x2 :: x3 :: x4 :: x5 :: some (vi x) :: r) st := V_iinc0 (i := 6) g d hi (by simpa [lvPrev] using hp) rfl hq k
theorem V_istore_7 {x0 x1 x2 x3 x4 x5 x6 y : Option Value} {r : List (Option Value)} {x : Int32} (g : VOk Γ D Λ own cc nL l R) (d : decode cc pc = .ok (.istore 7, 2)) (hi : 7 < nL) (hp : lvPrev [x6] 1 = true) (hq : pc + 2 = q) (k : V Γ D Λ M κ q (x0 :: x1 :: x2 :: x3 :: x4 :: x5 :: x6 :: some (.int x) :: r) st) : V Γ D Λ M κ pc (x0 :: x1 :: x2 :: x3 :: x4 :: x5 :: x6 :: y :: r) (.int x :: st) := V_istore0 (i := 7) g d hi (by simpa [lvPrev] using hp) hq k
theorem V_astore_7 {x0 x1 x2 x3 x4 x5 x6 y : Option Value} {r : List (Option Value)} {x : Nat} (g : VOk Γ D Λ own cc nL l R) (d : decode cc pc = .ok (.astore 7, 2)) (hi : 7 < nL) (hp : lvPrev [x6] 1 = true) (hq : pc + 2 = q) (k : V Γ D Λ M κ q (x0 :: x1 :: x2 :: x3 :: x4 :: x5 :: x6 :: some (.ref x) :: r) st) : V Γ D Λ M κ pc (x0 :: x1 :: x2 :: x3 :: x4 :: x5 :: x6 :: y :: r) (.ref x :: st) := V_astore0 (i := 7) g d hi (by simpa [lvPrev] using hp) hq k
theorem V_lstore_7 {x0 x1 x2 x3 x4 x5 x6 y : Option Value} {z : Option Value} {r : List (Option Value)} {x : Int64} (g : VOk Γ D Λ own cc nL l R) (d : decode cc pc = .ok (.lstore 7, 2)) (hi : 8 < nL) (hp : lvPrev [x6] 1 = true) (hq : pc + 2 = q) (k : V Γ D Λ M κ q (x0 :: x1 :: x2 :: x3 :: x4 :: x5 :: x6 :: some (.long x) :: none :: r) st) : V Γ D Λ M κ pc (x0 :: x1 :: x2 :: x3 :: x4 :: x5 :: x6 :: y :: z :: r) (.long x :: st) := V_lstore0 (i := 7) g d hi (by simpa [lvPrev] using hp) hq k
theorem V_iinc_7 {x0 x1 x2 x3 x4 x5 x6 : Option Value} {r : List (Option Value)} {n x : Int} (g : VOk Γ D Λ own cc nL l R) (d : decode cc pc = .ok (.iinc 7 n, 3)) (hi : 7 < nL) (hp : lvPrev [x6] 1 = true) (hq : pc + 3 = q) (k : V Γ D Λ M κ q (x0 :: x1 :: x2 :: x3 :: x4 :: x5 :: x6 :: some (vi (x + n)) :: r) st) : V Γ D Λ M κ pc (x0 :: x1 :: x2 :: x3 :: x4 :: x5 :: x6 :: some (vi x) :: r) st := V_iinc0 (i := 7) g d hi (by simpa [lvPrev] using hp) rfl hq k
theorem V_istore_8 {x0 x1 x2 x3 x4 x5 x6 x7 y : Option Value} {r : List (Option Value)} {x : Int32} (g : VOk Γ D Λ own cc nL l R) (d : decode cc pc = .ok (.istore 8, 2)) (hi : 8 < nL) (hp : lvPrev [x7] 1 = true) (hq : pc + 2 = q) (k : V Γ D Λ M κ q (x0 :: x1 :: x2 :: x3 :: x4 :: x5 :: x6 :: x7 :: some (.int x) :: r) st) : V Γ D Λ M κ pc (x0 :: x1 :: x2 :: x3 :: x4 :: x5 :: x6 :: x7 :: y :: r) (.int x :: st) := V_istore0 (i := 8) g d hi (by simpa [lvPrev] using hp) hq k
theorem V_astore_8 {x0 x1 x2 x3 x4 x5 x6 x7 y : Option Value} {r : List (Option Value)} {x : Nat} (g : VOk Γ D Λ own cc nL l R) (d : decode cc pc = .ok (.astore 8, 2)) (hi : 8 < nL) (hp : lvPrev [x7] 1 = true) (hq : pc + 2 = q) (k : V Γ D Λ M κ q (x0 :: x1 :: x2 :: x3 :: x4 :: x5 :: x6 :: x7 :: some (.ref x) :: r) st) : V Γ D Λ M κ pc (x0 :: x1 :: x2 :: x3 :: x4 :: x5 :: x6 :: x7 :: y :: r) (.ref x :: st) := V_astore0 (i := 8) g d hi (by simpa [lvPrev] using hp) hq k
theorem V_lstore_8 {x0 x1 x2 x3 x4 x5 x6 x7 y : Option Value} {z : Option Value} {r : List (Option Value)} {x : Int64} (g : VOk Γ D Λ own cc nL l R) (d : decode cc pc = .ok (.lstore 8, 2)) (hi : 9 < nL) (hp : lvPrev [x7] 1 = true) (hq : pc + 2 = q) (k : V Γ D Λ M κ q (x0 :: x1 :: x2 :: x3 :: x4 :: x5 :: x6 :: x7 :: some (.long x) :: none :: r) st) : V Γ D Λ M κ pc (x0 :: x1 :: x2 :: x3 :: x4 :: x5 :: x6 :: x7 :: y :: z :: r) (.long x :: st) := V_lstore0 (i := 8) g d hi (by simpa [lvPrev] using hp) hq k
theorem V_iinc_8 {x0 x1 x2 x3 x4 x5 x6 x7 : Option Value} {r : List (Option Value)} {n x : Int} (g : VOk Γ D Λ own cc nL l R) (d : decode cc pc = .ok (.iinc 8 n, 3)) (hi : 8 < nL) (hp : lvPrev [x7] 1 = true) (hq : pc + 3 = q) (k : V Γ D Λ M κ q (x0 :: x1 :: x2 :: x3 :: x4 :: x5 :: x6 :: x7 :: some (vi (x + n)) :: r) st) : V Γ D Λ M κ pc (x0 :: x1 :: x2 :: x3 :: x4 :: x5 :: x6 :: x7 :: some (vi x) :: r) st := V_iinc0 (i := 8) g d hi (by simpa [lvPrev] using hp) rfl hq k
theorem V_istore_9 {x0 x1 x2 x3 x4 x5 x6 x7 x8 y : Option Value} {r : List (Option Value)} {x : Int32} (g : VOk Γ D Λ own cc nL l R) (d : decode cc pc = .ok (.istore 9, 2)) (hi : 9 < nL) (hp : lvPrev [x8] 1 = true) (hq : pc + 2 = q) (k : V Γ D Λ M κ q (x0 :: x1 :: x2 :: x3 :: x4 :: x5 :: x6 :: x7 :: x8 :: some (.int x) :: r) st) : V Γ D Λ M κ pc (x0 :: x1 :: x2 :: x3 :: x4 :: x5 :: x6 :: x7 :: x8 :: y :: r) (.int x :: st) := V_istore0 (i := 9) g d hi (by simpa [lvPrev] using hp) hq k
theorem V_astore_9 {x0 x1 x2 x3 x4 x5 x6 x7 x8 y : Option Value} {r : List (Option Value)} {x : Nat} (g : VOk Γ D Λ own cc nL l R) (d : decode cc pc = .ok (.astore 9, 2)) (hi : 9 < nL) (hp : lvPrev [x8] 1 = true) (hq : pc + 2 = q) (k : V Γ D Λ M κ q (x0 :: x1 :: x2 :: x3 :: x4 :: x5 :: x6 :: x7 :: x8 :: some (.ref x) :: r) st) : V Γ D Λ M κ pc (x0 :: x1 :: x2 :: x3 :: x4 :: x5 :: x6 :: x7 :: x8 :: y :: r) (.ref x :: st) := V_astore0 (i := 9) g d hi (by simpa [lvPrev] using hp) hq k
theorem V_lstore_9 {x0 x1 x2 x3 x4 x5 x6 x7 x8 y : Option Value} {z : Option Value} {r : List (Option Value)} {x : Int64} (g : VOk Γ D Λ own cc nL l R) (d : decode cc pc = .ok (.lstore 9, 2)) (hi : 10 < nL) (hp : lvPrev [x8] 1 = true) (hq : pc + 2 = q) (k : V Γ D Λ M κ q (x0 :: x1 :: x2 :: x3 :: x4 :: x5 :: x6 :: x7 :: x8 :: some (.long x) :: none :: r) st) : V Γ D Λ M κ pc (x0 :: x1 :: x2 :: x3 :: x4 :: x5 :: x6 :: x7 :: x8 :: y :: z :: r) (.long x :: st) := V_lstore0 (i := 9) g d hi (by simpa [lvPrev] using hp) hq k
theorem V_iinc_9 {x0 x1 x2 x3 x4 x5 x6 x7 x8 : Option Value} {r : List (Option Value)} {n x : Int} (g : VOk Γ D Λ own cc nL l R) (d : decode cc pc = .ok (.iinc 9 n, 3)) (hi : 9 < nL) (hp : lvPrev [x8] 1 = true) (hq : pc + 3 = q) (k : V Γ D Λ M κ q (x0 :: x1 :: x2 :: x3 :: x4 :: x5 :: x6 :: x7 :: x8 :: some (vi (x + n)) :: r) st) : V Γ D Λ M κ pc (x0 :: x1 :: x2 :: x3 :: x4 :: x5 :: x6 :: x7 :: x8 :: some (vi x) :: r) st := V_iinc0 (i := 9) g d hi (by simpa [lvPrev] using hp) rfl hq k
theorem V_istore_10 {x0 x1 x2 x3 x4 x5 x6 x7 x8 x9 y : Option Value} {r : List (Option Value)} {x : Int32} (g : VOk Γ D Λ own cc nL l R) (d : decode cc pc = .ok (.istore 10, 2)) (hi : 10 < nL) (hp : lvPrev [x9] 1 = true) (hq : pc + 2 = q) (k : V Γ D Λ M κ q (x0 :: x1 :: x2 :: x3 :: x4 :: x5 :: x6 :: x7 :: x8 :: x9 :: some (.int x) :: r) st) : V Γ D Λ M κ pc (x0 :: x1 :: x2 :: x3 :: x4 :: x5 :: x6 :: x7 :: x8 :: x9 :: y :: r) (.int x :: st) := V_istore0 (i := 10) g d hi (by simpa [lvPrev] using hp) hq k
theorem V_astore_10 {x0 x1 x2 x3 x4 x5 x6 x7 x8 x9 y : Option Value} {r : List (Option Value)} {x : Nat} (g : VOk Γ D Λ own cc nL l R) (d : decode cc pc = .ok (.astore 10, 2)) (hi : 10 < nL) (hp : lvPrev [x9] 1 = true) (hq : pc + 2 = q) (k : V Γ D Λ M κ q (x0 :: x1 :: x2 :: x3 :: x4 :: x5 :: x6 :: x7 :: x8 :: x9 :: some (.ref x) :: r) st) : V Γ D Λ M κ pc (x0 :: x1 :: x2 :: x3 :: x4 :: x5 :: x6 :: x7 :: x8 :: x9 :: y :: r) (.ref x :: st) := V_astore0 (i := 10) g d hi (by simpa [lvPrev] using hp) hq k
theorem V_lstore_10 {x0 x1 x2 x3 x4 x5 x6 x7 x8 x9 y : Option Value} {z : Option Value} {r : List (Option Value)} {x : Int64} (g : VOk Γ D Λ own cc nL l R) (d : decode cc pc = .ok (.lstore 10, 2)) (hi : 11 < nL) (hp : lvPrev [x9] 1 = true) (hq : pc + 2 = q) (k : V Γ D Λ M κ q (x0 :: x1 :: x2 :: x3 :: x4 :: x5 :: x6 :: x7 :: x8 :: x9 :: some (.long x) :: none :: r) st) : V Γ D Λ M κ pc (x0 :: x1 :: x2 :: x3 :: x4 :: x5 :: x6 :: x7 :: x8 :: x9 :: y :: z :: r) (.long x :: st) := V_lstore0 (i := 10) g d hi (by simpa [lvPrev] using hp) hq k
theorem V_iinc_10 {x0 x1 x2 x3 x4 x5 x6 x7 x8 x9 : Option Value} {r : List (Option Value)} {n x : Int} (g : VOk Γ D Λ own cc nL l R) (d : decode cc pc = .ok (.iinc 10 n, 3)) (hi : 10 < nL) (hp : lvPrev [x9] 1 = true) (hq : pc + 3 = q) (k : V Γ D Λ M κ q (x0 :: x1 :: x2 :: x3 :: x4 :: x5 :: x6 :: x7 :: x8 :: x9 :: some (vi (x + n)) :: r) st) : V Γ D Λ M κ pc (x0 :: x1 :: x2 :: x3 :: x4 :: x5 :: x6 :: x7 :: x8 :: x9 :: some (vi x) :: r) st := V_iinc0 (i := 10) g d hi (by simpa [lvPrev] using hp) rfl hq k
theorem V_istore_11 {x0 x1 x2 x3 x4 x5 x6 x7 x8 x9 x10 y : Option Value} {r : List (Option Value)} {x : Int32} (g : VOk Γ D Λ own cc nL l R) (d : decode cc pc = .ok (.istore 11, 2)) (hi : 11 < nL) (hp : lvPrev [x10] 1 = true) (hq : pc + 2 = q) (k : V Γ D Λ M κ q (x0 :: x1 :: x2 :: x3 :: x4 :: x5 :: x6 :: x7 :: x8 :: x9 :: x10 :: some (.int x) :: r) st) : V Γ D Λ M κ pc (x0 :: x1 :: x2 :: x3 :: x4 :: x5 :: x6 :: x7 :: x8 :: x9 :: x10 :: y :: r) (.int x :: st) := V_istore0 (i := 11) g d hi (by simpa [lvPrev] using hp) hq k
theorem V_astore_11 {x0 x1 x2 x3 x4 x5 x6 x7 x8 x9 x10 y : Option Value} {r : List (Option Value)} {x : Nat} (g : VOk Γ D Λ own cc nL l R) (d : decode cc pc = .ok (.astore 11, 2)) (hi : 11 < nL) (hp : lvPrev [x10] 1 = true) (hq : pc + 2 = q) (k : V Γ D Λ M κ q (x0 :: x1 :: x2 :: x3 :: x4 :: x5 :: x6 :: x7 :: x8 :: x9 :: x10 :: some (.ref x) :: r) st) : V Γ D Λ M κ pc (x0 :: x1 :: x2 :: x3 :: x4 :: x5 :: x6 :: x7 :: x8 :: x9 :: x10 :: y :: r) (.ref x :: st) := V_astore0 (i := 11) g d hi (by simpa [lvPrev] using hp) hq k
theorem V_lstore_11 {x0 x1 x2 x3 x4 x5 x6 x7 x8 x9 x10 y : Option Value} {z : Option Value} {r : List (Option Value)} {x : Int64} (g : VOk Γ D Λ own cc nL l R) (d : decode cc pc = .ok (.lstore 11, 2)) (hi : 12 < nL) (hp : lvPrev [x10] 1 = true) (hq : pc + 2 = q) (k : V Γ D Λ M κ q (x0 :: x1 :: x2 :: x3 :: x4 :: x5 :: x6 :: x7 :: x8 :: x9 :: x10 :: some (.long x) :: none :: r) st) : V Γ D Λ M κ pc (x0 :: x1 :: x2 :: x3 :: x4 :: x5 :: x6 :: x7 :: x8 :: x9 :: x10 :: y :: z :: r) (.long x :: st) := V_lstore0 (i := 11) g d hi (by simpa [lvPrev] using hp) hq k
theorem V_iinc_11 {x0 x1 x2 x3 x4 x5 x6 x7 x8 x9 x10 : Option Value} {r : List (Option Value)} {n x : Int} (g : VOk Γ D Λ own cc nL l R) (d : decode cc pc = .ok (.iinc 11 n, 3)) (hi : 11 < nL) (hp : lvPrev [x10] 1 = true) (hq : pc + 3 = q) (k : V Γ D Λ M κ q (x0 :: x1 :: x2 :: x3 :: x4 :: x5 :: x6 :: x7 :: x8 :: x9 :: x10 :: some (vi (x + n)) :: r) st) : V Γ D Λ M κ pc (x0 :: x1 :: x2 :: x3 :: x4 :: x5 :: x6 :: x7 :: x8 :: x9 :: x10 :: some (vi x) :: r) st := V_iinc0 (i := 11) g d hi (by simpa [lvPrev] using hp) rfl hq k
theorem V_iadd {a b : Int} (g : VOk Γ D Λ own cc nL l R) (d : decode cc pc = .ok (.iadd, 1))  (hq : pc + 1 = q) (k : V Γ D Λ M κ q lv (vi (a + b) :: st)) : V Γ D Λ M κ pc lv (vi b :: vi a :: st) := by
  subst hq
  intro H locs ls h1 h2 h3
  refine lv_iadd g.exec g.code d ?_
  rw [iI_add]
  exact k H locs ls h1 h2 h3
theorem V_ladd {a b : Int} (g : VOk Γ D Λ own cc nL l R) (d : decode cc pc = .ok (.ladd, 1))  (hq : pc + 1 = q) (k : V Γ D Λ M κ q lv (vl (a + b) :: st)) : V Γ D Λ M κ pc lv (vl b :: vl a :: st) := by
  subst hq
  intro H locs ls h1 h2 h3
  refine lv_ladd g.exec g.code d ?_
  rw [lI_add]
  exact k H locs ls h1 h2 h3
theorem V_isub {a b : Int} (g : VOk Γ D Λ own cc nL l R) (d : decode cc pc = .ok (.isub, 1))  (hq : pc + 1 = q) (k : V Γ D Λ M κ q lv (vi (a - b) :: st)) : V Γ D Λ M κ pc lv (vi b :: vi a :: st) := by
  subst hq
  intro H locs ls h1 h2 h3
  refine lv_isub g.exec g.code d ?_
  rw [iI_sub]
  exact k H locs ls h1 h2 h3
theorem V_lsub {a b : Int} (g : VOk Γ D Λ own cc nL l R) (d : decode cc pc = .ok (.lsub, 1))  (hq : pc + 1 = q) (k : V Γ D Λ M κ q lv (vl (a - b) :: st)) : V Γ D Λ M κ pc lv (vl b :: vl a :: st) := by
  subst hq
  intro H locs ls h1 h2 h3
  refine lv_lsub g.exec g.code d ?_
  rw [lI_sub]
  exact k H locs ls h1 h2 h3
theorem V_imul {a b : Int} (g : VOk Γ D Λ own cc nL l R) (d : decode cc pc = .ok (.imul, 1))  (hq : pc + 1 = q) (k : V Γ D Λ M κ q lv (vi (a * b) :: st)) : V Γ D Λ M κ pc lv (vi b :: vi a :: st) := by
  subst hq
  intro H locs ls h1 h2 h3
  refine lv_imul g.exec g.code d ?_
  rw [iI_mul]
  exact k H locs ls h1 h2 h3
theorem V_lmul {a b : Int} (g : VOk Γ D Λ own cc nL l R) (d : decode cc pc = .ok (.lmul, 1))  (hq : pc + 1 = q) (k : V Γ D Λ M κ q lv (vl (a * b) :: st)) : V Γ D Λ M κ pc lv (vl b :: vl a :: st) := by
  subst hq
  intro H locs ls h1 h2 h3
  refine lv_lmul g.exec g.code d ?_
  rw [lI_mul]
  exact k H locs ls h1 h2 h3
theorem V_ineg {a : Int} (g : VOk Γ D Λ own cc nL l R) (d : decode cc pc = .ok (.ineg, 1))  (hq : pc + 1 = q) (k : V Γ D Λ M κ q lv (vi (-a) :: st)) : V Γ D Λ M κ pc lv (vi a :: st) := by
  subst hq
  intro H locs ls h1 h2 h3
  refine lv_ineg g.exec g.code d ?_
  rw [iI_neg]
  exact k H locs ls h1 h2 h3
theorem V_idiv {a b : Int} (g : VOk Γ D Λ own cc nL l R) (d : decode cc pc = .ok (.idiv, 1)) (ha : 0 ≤ a ∧ a < 2147483648) (hb : 0 < b ∧ b < 2147483648) (hq : pc + 1 = q) (k : V Γ D Λ M κ q lv (vi (a / b) :: st)) : V Γ D Λ M κ pc lv (vi b :: vi a :: st) := by
  subst hq
  intro H locs ls h1 h2 h3
  refine lv_idiv g.exec g.code d (iI_ne0 hb.1 ⟨by omega, hb.2⟩) ?_
  rw [iI_div ha.1 ha.2 hb.1 hb.2]
  exact k H locs ls h1 h2 h3
theorem V_irem {a b : Int} (g : VOk Γ D Λ own cc nL l R) (d : decode cc pc = .ok (.irem, 1)) (ha : 0 ≤ a ∧ a < 2147483648) (hb : 0 < b ∧ b < 2147483648) (hq : pc + 1 = q) (k : V Γ D Λ M κ q lv (vi (a % b) :: st)) : V Γ D Λ M κ pc lv (vi b :: vi a :: st) := by
  subst hq
  intro H locs ls h1 h2 h3
  refine lv_irem g.exec g.code d (iI_ne0 hb.1 ⟨by omega, hb.2⟩) ?_
  rw [iI_rem ha.1 ha.2 hb.1 hb.2]
  exact k H locs ls h1 h2 h3
theorem V_ldiv {a b : Int} (g : VOk Γ D Λ own cc nL l R) (d : decode cc pc = .ok (.ldiv, 1)) (ha : 0 ≤ a ∧ a < 9223372036854775808) (hb : 0 < b ∧ b < 9223372036854775808) (hq : pc + 1 = q) (k : V Γ D Λ M κ q lv (vl (a / b) :: st)) : V Γ D Λ M κ pc lv (vl b :: vl a :: st) := by
  subst hq
  intro H locs ls h1 h2 h3
  refine lv_ldiv g.exec g.code d (lI_ne0 hb.1 ⟨by omega, hb.2⟩) ?_
  rw [lI_div ha.1 ha.2 hb.1 hb.2]
  exact k H locs ls h1 h2 h3
theorem V_lrem {a b : Int} (g : VOk Γ D Λ own cc nL l R) (d : decode cc pc = .ok (.lrem, 1)) (ha : 0 ≤ a ∧ a < 9223372036854775808) (hb : 0 < b ∧ b < 9223372036854775808) (hq : pc + 1 = q) (k : V Γ D Λ M κ q lv (vl (a % b) :: st)) : V Γ D Λ M κ pc lv (vl b :: vl a :: st) := by
  subst hq
  intro H locs ls h1 h2 h3
  refine lv_lrem g.exec g.code d (lI_ne0 hb.1 ⟨by omega, hb.2⟩) ?_
  rw [lI_rem ha.1 ha.2 hb.1 hb.2]
  exact k H locs ls h1 h2 h3
theorem V_i2l {a : Int} (g : VOk Γ D Λ own cc nL l R) (d : decode cc pc = .ok (.i2l, 1)) (ha : inR a) (hq : pc + 1 = q) (k : V Γ D Λ M κ q lv (vl a :: st)) : V Γ D Λ M κ pc lv (vi a :: st) := by
  subst hq
  intro H locs ls h1 h2 h3
  exact lv_i2l g.exec g.code d (iI_l ha) (k H locs ls h1 h2 h3)
theorem V_l2i {a : Int} (g : VOk Γ D Λ own cc nL l R) (d : decode cc pc = .ok (.l2i, 1))  (hq : pc + 1 = q) (k : V Γ D Λ M κ q lv (vi a :: st)) : V Γ D Λ M κ pc lv (vl a :: st) := by
  subst hq
  intro H locs ls h1 h2 h3
  exact lv_l2i g.exec g.code d (lI_i a) (k H locs ls h1 h2 h3)
theorem V_ior0 {x y : Int32} (g : VOk Γ D Λ own cc nL l R) (d : decode cc pc = .ok (.ior, 1))  (hq : pc + 1 = q) (k : V Γ D Λ M κ q lv (.int (x ||| y) :: st)) : V Γ D Λ M κ pc lv (.int y :: .int x :: st) := by
  subst hq
  intro H locs ls h1 h2 h3
  exact lv_ior g.exec g.code d (k H locs ls h1 h2 h3)
theorem V_iand0 {x y : Int32} (g : VOk Γ D Λ own cc nL l R) (d : decode cc pc = .ok (.iand, 1))  (hq : pc + 1 = q) (k : V Γ D Λ M κ q lv (.int (x &&& y) :: st)) : V Γ D Λ M κ pc lv (.int y :: .int x :: st) := by
  subst hq
  intro H locs ls h1 h2 h3
  exact lv_iand g.exec g.code d (k H locs ls h1 h2 h3)
theorem V_ishl0 {x y : Int32} (g : VOk Γ D Λ own cc nL l R) (d : decode cc pc = .ok (.ishl, 1))  (hq : pc + 1 = q) (k : V Γ D Λ M κ q lv (.int (x <<< (y &&& 31)) :: st)) : V Γ D Λ M κ pc lv (.int y :: .int x :: st) := by
  subst hq
  intro H locs ls h1 h2 h3
  exact lv_ishl g.exec g.code d (k H locs ls h1 h2 h3)
theorem V_ishr0 {x y : Int32} (g : VOk Γ D Λ own cc nL l R) (d : decode cc pc = .ok (.ishr, 1))  (hq : pc + 1 = q) (k : V Γ D Λ M κ q lv (.int (x >>> (y &&& 31)) :: st)) : V Γ D Λ M κ pc lv (.int y :: .int x :: st) := by
  subst hq
  intro H locs ls h1 h2 h3
  exact lv_ishr g.exec g.code d (k H locs ls h1 h2 h3)
theorem V_lor0 {x y : Int64} (g : VOk Γ D Λ own cc nL l R) (d : decode cc pc = .ok (.lor, 1))  (hq : pc + 1 = q) (k : V Γ D Λ M κ q lv (.long (x ||| y) :: st)) : V Γ D Λ M κ pc lv (.long y :: .long x :: st) := by
  subst hq
  intro H locs ls h1 h2 h3
  exact lv_lor g.exec g.code d (k H locs ls h1 h2 h3)
theorem V_land0 {x y : Int64} (g : VOk Γ D Λ own cc nL l R) (d : decode cc pc = .ok (.land, 1))  (hq : pc + 1 = q) (k : V Γ D Λ M κ q lv (.long (x &&& y) :: st)) : V Γ D Λ M κ pc lv (.long y :: .long x :: st) := by
  subst hq
  intro H locs ls h1 h2 h3
  exact lv_land g.exec g.code d (k H locs ls h1 h2 h3)
theorem V_lshl0 {x : Int64} {y : Int32} (g : VOk Γ D Λ own cc nL l R) (d : decode cc pc = .ok (.lshl, 1))  (hq : pc + 1 = q) (k : V Γ D Λ M κ q lv (.long (x <<< (y.toInt64 &&& 63)) :: st)) : V Γ D Λ M κ pc lv (.int y :: .long x :: st) := by
  subst hq
  intro H locs ls h1 h2 h3
  exact lv_lshl g.exec g.code d rfl (k H locs ls h1 h2 h3)
theorem V_lushr0 {x : Int64} {y : Int32} (g : VOk Γ D Λ own cc nL l R) (d : decode cc pc = .ok (.lushr, 1))  (hq : pc + 1 = q) (k : V Γ D Λ M κ q lv (.long ((x.toUInt64 >>> (y.toInt64.toUInt64 &&& Int64.toUInt64 63)).toInt64) :: st)) : V Γ D Λ M κ pc lv (.int y :: .long x :: st) := by
  subst hq
  intro H locs ls h1 h2 h3
  exact lv_lushr g.exec g.code d rfl (k H locs ls h1 h2 h3)
theorem V_i2c0 {x : Int32} (g : VOk Γ D Λ own cc nL l R) (d : decode cc pc = .ok (.i2c, 1))  (hq : pc + 1 = q) (k : V Γ D Λ M κ q lv (.int ((x.toUInt32 % 65536).toInt32) :: st)) : V Γ D Λ M κ pc lv (.int x :: st) := by
  subst hq
  intro H locs ls h1 h2 h3
  exact lv_i2c g.exec g.code d rfl (k H locs ls h1 h2 h3)
theorem V_dup {x : Value} (g : VOk Γ D Λ own cc nL l R) (d : decode cc pc = .ok (.dup, 1)) (hc : x.category = 1) (hq : pc + 1 = q) (k : V Γ D Λ M κ q lv (x :: x :: st)) : V Γ D Λ M κ pc lv (x :: st) := by
  subst hq
  intro H locs ls h1 h2 h3
  exact lv_dup g.exec g.code d hc (k H locs ls h1 h2 h3)
theorem V_pop {x : Value} (g : VOk Γ D Λ own cc nL l R) (d : decode cc pc = .ok (.pop, 1)) (hc : x.category = 1) (hq : pc + 1 = q) (k : V Γ D Λ M κ q lv st) : V Γ D Λ M κ pc lv (x :: st) := by
  subst hq
  intro H locs ls h1 h2 h3
  exact lv_pop g.exec g.code d hc (k H locs ls h1 h2 h3)
theorem V_dup2 {x y : Value} (g : VOk Γ D Λ own cc nL l R) (d : decode cc pc = .ok (.dup2, 1)) (hc : x.category = 1) (hc2 : y.category = 1) (hq : pc + 1 = q) (k : V Γ D Λ M κ q lv (x :: y :: x :: y :: st)) : V Γ D Λ M κ pc lv (x :: y :: st) := by
  subst hq
  intro H locs ls h1 h2 h3
  exact lv_dup2_11 g.exec g.code d hc hc2 (k H locs ls h1 h2 h3)
theorem V_goto {off : Int} {tgt : Nat} (g : VOk Γ D Λ own cc nL l R) (d : decode cc pc = .ok (.goto off, 3)) (ht : (pc : Int) + off = (tgt : Int)) (k : V Γ D Λ M κ tgt lv st) : V Γ D Λ M κ pc lv st := by
  intro H locs ls h1 h2 h3
  exact lv_goto g.exec g.code d ht (k H locs ls h1 h2 h3)
theorem V_if_eq {a : Int} {off : Int} {tgt : Nat} (g : VOk Γ D Λ own cc nL l R) (d : decode cc pc = .ok (.ifCond .eq off, 3)) (ht : (pc : Int) + off = (tgt : Int)) (hq : pc + 3 = q) (ha : inR a)  (kt : a = 0 → V Γ D Λ M κ tgt lv st) (kf : ¬ a = 0 → V Γ D Λ M κ q lv st) : V Γ D Λ M κ pc lv (vi a :: st) := by
  subst hq
  intro H locs ls h1 h2 h3
  exact lv_if_eq g.exec g.code d ht (fun h => kt ((iI_eq ha (by decide)).mp h) H locs ls h1 h2 h3) (fun h => kf (fun z => h ((iI_eq ha (by decide)).mpr z)) H locs ls h1 h2 h3)
theorem V_icmp_eq {a b : Int} {off : Int} {tgt : Nat} (g : VOk Γ D Λ own cc nL l R) (d : decode cc pc = .ok (.if_icmp .eq off, 3)) (ht : (pc : Int) + off = (tgt : Int)) (hq : pc + 3 = q) (ha : inR a) (hb : inR b) (kt : a = b → V Γ D Λ M κ tgt lv st) (kf : ¬ a = b → V Γ D Λ M κ q lv st) : V Γ D Λ M κ pc lv (vi b :: vi a :: st) := by
  subst hq
  intro H locs ls h1 h2 h3
  exact lv_icmp_eq g.exec g.code d ht (fun h => kt ((iI_eq ha hb).mp h) H locs ls h1 h2 h3) (fun h => kf (fun z => h ((iI_eq ha hb).mpr z)) H locs ls h1 h2 h3)
theorem V_if_ne {a : Int} {off : Int} {tgt : Nat} (g : VOk Γ D Λ own cc nL l R) (d : decode cc pc = .ok (.ifCond .ne off, 3)) (ht : (pc : Int) + off = (tgt : Int)) (hq : pc + 3 = q) (ha : inR a)  (kt : ¬ a = 0 → V Γ D Λ M κ tgt lv st) (kf : a = 0 → V Γ D Λ M κ q lv st) : V Γ D Λ M κ pc lv (vi a :: st) := by
  subst hq
  intro H locs ls h1 h2 h3
  exact lv_if_ne g.exec g.code d ht (fun h => kt (fun z => h ((iI_eq ha (by decide)).mpr z)) H locs ls h1 h2 h3) (fun h => kf ((iI_eq ha (by decide)).mp h) H locs ls h1 h2 h3)
theorem V_icmp_ne {a b : Int} {off : Int} {tgt : Nat} (g : VOk Γ D Λ own cc nL l R) (d : decode cc pc = .ok (.if_icmp .ne off, 3)) (ht : (pc : Int) + off = (tgt : Int)) (hq : pc + 3 = q) (ha : inR a) (hb : inR b) (kt : ¬ a = b → V Γ D Λ M κ tgt lv st) (kf : a = b → V Γ D Λ M κ q lv st) : V Γ D Λ M κ pc lv (vi b :: vi a :: st) := by
  subst hq
  intro H locs ls h1 h2 h3
  exact lv_icmp_ne g.exec g.code d ht (fun h => kt (fun z => h ((iI_eq ha hb).mpr z)) H locs ls h1 h2 h3) (fun h => kf ((iI_eq ha hb).mp h) H locs ls h1 h2 h3)
theorem V_if_lt {a : Int} {off : Int} {tgt : Nat} (g : VOk Γ D Λ own cc nL l R) (d : decode cc pc = .ok (.ifCond .lt off, 3)) (ht : (pc : Int) + off = (tgt : Int)) (hq : pc + 3 = q) (ha : inR a)  (kt : a < 0 → V Γ D Λ M κ tgt lv st) (kf : ¬ a < 0 → V Γ D Λ M κ q lv st) : V Γ D Λ M κ pc lv (vi a :: st) := by
  subst hq
  intro H locs ls h1 h2 h3
  exact lv_if_lt g.exec g.code d ht (fun h => kt ((iI_lt ha (by decide)).mp h) H locs ls h1 h2 h3) (fun h => kf (fun z => h ((iI_lt ha (by decide)).mpr z)) H locs ls h1 h2 h3)
theorem V_icmp_lt {a b : Int} {off : Int} {tgt : Nat} (g : VOk Γ D Λ own cc nL l R) (d : decode cc pc = .ok (.if_icmp .lt off, 3)) (ht : (pc : Int) + off = (tgt : Int)) (hq : pc + 3 = q) (ha : inR a) (hb : inR b) (kt : a < b → V Γ D Λ M κ tgt lv st) (kf : ¬ a < b → V Γ D Λ M κ q lv st) : V Γ D Λ M κ pc lv (vi b :: vi a :: st) := by
  subst hq
  intro H locs ls h1 h2 h3
  exact lv_icmp_lt g.exec g.code d ht (fun h => kt ((iI_lt ha hb).mp h) H locs ls h1 h2 h3) (fun h => kf (fun z => h ((iI_lt ha hb).mpr z)) H locs ls h1 h2 h3)
theorem V_if_ge {a : Int} {off : Int} {tgt : Nat} (g : VOk Γ D Λ own cc nL l R) (d : decode cc pc = .ok (.ifCond .ge off, 3)) (ht : (pc : Int) + off = (tgt : Int)) (hq : pc + 3 = q) (ha : inR a)  (kt : 0 ≤ a → V Γ D Λ M κ tgt lv st) (kf : ¬ 0 ≤ a → V Γ D Λ M κ q lv st) : V Γ D Λ M κ pc lv (vi a :: st) := by
  subst hq
  intro H locs ls h1 h2 h3
  exact lv_if_ge g.exec g.code d ht (fun h => kt ((iI_le (by decide) ha).mp h) H locs ls h1 h2 h3) (fun h => kf (fun z => h ((iI_le (by decide) ha).mpr z)) H locs ls h1 h2 h3)
theorem V_icmp_ge {a b : Int} {off : Int} {tgt : Nat} (g : VOk Γ D Λ own cc nL l R) (d : decode cc pc = .ok (.if_icmp .ge off, 3)) (ht : (pc : Int) + off = (tgt : Int)) (hq : pc + 3 = q) (ha : inR a) (hb : inR b) (kt : b ≤ a → V Γ D Λ M κ tgt lv st) (kf : ¬ b ≤ a → V Γ D Λ M κ q lv st) : V Γ D Λ M κ pc lv (vi b :: vi a :: st) := by
  subst hq
  intro H locs ls h1 h2 h3
  exact lv_icmp_ge g.exec g.code d ht (fun h => kt ((iI_le hb ha).mp h) H locs ls h1 h2 h3) (fun h => kf (fun z => h ((iI_le hb ha).mpr z)) H locs ls h1 h2 h3)
theorem V_if_gt {a : Int} {off : Int} {tgt : Nat} (g : VOk Γ D Λ own cc nL l R) (d : decode cc pc = .ok (.ifCond .gt off, 3)) (ht : (pc : Int) + off = (tgt : Int)) (hq : pc + 3 = q) (ha : inR a)  (kt : 0 < a → V Γ D Λ M κ tgt lv st) (kf : ¬ 0 < a → V Γ D Λ M κ q lv st) : V Γ D Λ M κ pc lv (vi a :: st) := by
  subst hq
  intro H locs ls h1 h2 h3
  exact lv_if_gt g.exec g.code d ht (fun h => kt ((iI_lt (by decide) ha).mp h) H locs ls h1 h2 h3) (fun h => kf (fun z => h ((iI_lt (by decide) ha).mpr z)) H locs ls h1 h2 h3)
theorem V_icmp_gt {a b : Int} {off : Int} {tgt : Nat} (g : VOk Γ D Λ own cc nL l R) (d : decode cc pc = .ok (.if_icmp .gt off, 3)) (ht : (pc : Int) + off = (tgt : Int)) (hq : pc + 3 = q) (ha : inR a) (hb : inR b) (kt : b < a → V Γ D Λ M κ tgt lv st) (kf : ¬ b < a → V Γ D Λ M κ q lv st) : V Γ D Λ M κ pc lv (vi b :: vi a :: st) := by
  subst hq
  intro H locs ls h1 h2 h3
  exact lv_icmp_gt g.exec g.code d ht (fun h => kt ((iI_lt hb ha).mp h) H locs ls h1 h2 h3) (fun h => kf (fun z => h ((iI_lt hb ha).mpr z)) H locs ls h1 h2 h3)
theorem V_if_le {a : Int} {off : Int} {tgt : Nat} (g : VOk Γ D Λ own cc nL l R) (d : decode cc pc = .ok (.ifCond .le off, 3)) (ht : (pc : Int) + off = (tgt : Int)) (hq : pc + 3 = q) (ha : inR a)  (kt : a ≤ 0 → V Γ D Λ M κ tgt lv st) (kf : ¬ a ≤ 0 → V Γ D Λ M κ q lv st) : V Γ D Λ M κ pc lv (vi a :: st) := by
  subst hq
  intro H locs ls h1 h2 h3
  exact lv_if_le g.exec g.code d ht (fun h => kt ((iI_le ha (by decide)).mp h) H locs ls h1 h2 h3) (fun h => kf (fun z => h ((iI_le ha (by decide)).mpr z)) H locs ls h1 h2 h3)
theorem V_icmp_le {a b : Int} {off : Int} {tgt : Nat} (g : VOk Γ D Λ own cc nL l R) (d : decode cc pc = .ok (.if_icmp .le off, 3)) (ht : (pc : Int) + off = (tgt : Int)) (hq : pc + 3 = q) (ha : inR a) (hb : inR b) (kt : a ≤ b → V Γ D Λ M κ tgt lv st) (kf : ¬ a ≤ b → V Γ D Λ M κ q lv st) : V Γ D Λ M κ pc lv (vi b :: vi a :: st) := by
  subst hq
  intro H locs ls h1 h2 h3
  exact lv_icmp_le g.exec g.code d ht (fun h => kt ((iI_le ha hb).mp h) H locs ls h1 h2 h3) (fun h => kf (fun z => h ((iI_le ha hb).mpr z)) H locs ls h1 h2 h3)
theorem lg_lt {a b : Int} (ha : inL a) (hb : inL b) : lg_cmp (lI a) (lI b) = if a < b then -1 else if a = b then 0 else 1 := by
  unfold lg_cmp
  have e1 : lI b < lI a ↔ b < a := lI_lt hb ha
  have e2 : lI a < lI b ↔ a < b := lI_lt ha hb
  have e3 : lI a = lI b ↔ a = b := lI_eq ha hb
  by_cases h1 : a < b
  · have h2 : ¬ b < a := by omega
    have h3 : ¬ a = b := by omega
    simp [e1, e2, e3, h1, h2, h3]
  · by_cases h3 : a = b
    · subst h3
      have h4 : ¬ a < a := by omega
      simp
    · have h2 : b < a := by omega
      simp [e1, e2, e3, h1, h2, h3]
theorem V_lcmp {a b : Int} (g : VOk Γ D Λ own cc nL l R) (d : decode cc pc = .ok (.lcmp, 1)) (hq : pc + 1 = q) (ha : inL a) (hb : inL b) (k : V Γ D Λ M κ q lv (vi (if a < b then -1 else if a = b then 0 else 1) :: st)) : V Γ D Λ M κ pc lv (vl b :: vl a :: st) := by
  subst hq
  intro H locs ls h1 h2 h3
  refine W.lcmp g.exec g.code d ?_
  rw [lg_lt ha hb, show (if a < b then (-1 : Int32) else if a = b then 0 else 1) = iI (if a < b then -1 else if a = b then 0 else 1) by split <;> (try split) <;> decide]
  exact k H locs ls h1 h2 h3
theorem V_iaload {a n : Nat} {i : Int} (g : VOk Γ D Λ own cc nL l R) (d : decode cc pc = .ok (.iaload, 1)) (hq : pc + 1 = q) (hΛ : Λ a = some (kI D n)) (hi : 0 ≤ i ∧ i < n) (hn : n < 2147483648) (k : V Γ D Λ M κ q lv (vi (M a i) :: st)) : V Γ D Λ M κ pc lv (vi i :: .ref a :: st) := by
  subst hq
  intro H locs ls h1 h2 h3
  refine va_iald g.exec g.code g.hK (h1.one hΛ) 0 0 rfl rfl (iI_in hi hn) d ?_
  rw [iI_cl ⟨hi.1, by omega⟩, Int.toNat_of_nonneg hi.1]
  exact k H locs ls h1 h2 h3
theorem V_alen {a n : Nat} (g : VOk Γ D Λ own cc nL l R) (d : decode cc pc = .ok (.arraylength, 1)) (hq : pc + 1 = q) (hΛ : Λ a = some (kI D n)) (k : V Γ D Λ M κ q lv (vi n :: st)) : V Γ D Λ M κ pc lv (.ref a :: st) := by
  subst hq
  intro H locs ls h1 h2 h3
  exact va_alen g.exec g.code g.hK (h1.one hΛ) 0 0 rfl rfl (iI_nat n) d (k H locs ls h1 h2 h3)
theorem V_alenQ {a n : Nat} {f : Nat → Nat} (g : VOk Γ D Λ own cc nL l R) (d : decode cc pc = .ok (.arraylength, 1)) (hq : pc + 1 = q) (hΛ : Λ a = some (kQ D n f)) (k : V Γ D Λ M κ q lv (vi n :: st)) : V Γ D Λ M κ pc lv (.ref a :: st) := by
  subst hq
  intro H locs ls h1 h2 h3
  exact va_alen g.exec g.code g.hK (h1.one hΛ) 0 3 rfl rfl (iI_nat n) d (k H locs ls h1 h2 h3)
theorem V_iastore {a n : Nat} {i x : Int} (g : VOk Γ D Λ own cc nL l R) (d : decode cc pc = .ok (.iastore, 1)) (hq : pc + 1 = q) (hΛ : Λ a = some (kI D n)) (hi : 0 ≤ i ∧ i < n) (hn : n < 2147483648) (k : V Γ D Λ (wr M a i x) κ q lv st) : V Γ D Λ M κ pc lv (vi x :: vi i :: .ref a :: st) := by
  subst hq
  intro H locs ls h1 h2 h3
  have h4 : H[a]? = some (vp_cell (D.2 0) (n, .inl (fun j => iI (M a j)))) := h1 a _ hΛ
  refine W.iast g.exec g.code h4 ((g.hK.2 0 _ rfl).1 n (fun j => .int (iI (M a j)))) (fun q => by cases q) (by show ¬ (iI i < 0 ∨ (arrV _ _ _).slots.size ≤ _); rw [arrV_size]; exact iI_in hi hn) rfl rfl d fun H1 e z oq => ?_
  refine k H1 _ ls (h1.set hΛ ?_ oq) (h2.put z oq (Or.inl ⟨_, hΛ⟩)) h3
  show H1[a]? = some (vp_cell _ _)
  rw [e]
  rw [vp_cell_i, vp_cell_i, arrV_store]
  congr 2
  funext q
  rw [iI_cl ⟨hi.1, by omega⟩]
  by_cases hq : q = i.toNat
  · subst hq
    simp [updV, up, Int.toNat_of_nonneg hi.1]
  · have hq2 : ¬ (q : Int) = i := by omega
    simp [updV, up, hq, hq2]

/-- a field of a class of ours, its word and the class's layout words -/
def fdW (own : String) (idx : Nat) (C : String) (T : u_T) (N k : Nat) : Prop := (Cond.fieldLink own idx C (T k).2.1 (T k).2.2.1) ∈ BIG ∧ (∀ w ∈ u_ws C T N, w ∈ BIG) ∧ (T k).1 = C ∧ k < N
theorem V_getR {ci idx k a b N : Nat} {C : String} {T : u_T} {fl : List (Option Nat)} (g : VOk Γ D Λ own cc nL l R) (d : decode cc pc = .ok (.getfield idx, 3)) (hq : pc + 3 = q) (hf : fdW own idx C T N k) (hc : vwCl[ci]? = some (C, T, N)) (hΛ : Λ a = some (kO ci fl)) (hk : fl[k]? = some (some b)) (kk : V Γ D Λ M κ q lv (.ref b :: st)) : V Γ D Λ M κ pc lv (.ref a :: st) := by
  subst hq
  intro H locs ls h1 h2 h3
  obtain ⟨f1, f2, f3, f4⟩ := hf
  exact va_get (D := D.1) (ci := ci) (v := .ref b) (fs := fO fl (M a) 0) (own := own) g.exec g.code g.hts f2 g.hown g.hK (h1.one hΛ) 0 rfl hc k f4 (g.hts _ f1) (fun x hx => by rw [f3] at hx; exact hx) (fO_at fl (M a) 0 k _ hk) d (kk H locs ls h1 h2 h3)
theorem V_getI {ci idx k a N : Nat} {C : String} {T : u_T} {fl : List (Option Nat)} {j : Int} (g : VOk Γ D Λ own cc nL l R) (d : decode cc pc = .ok (.getfield idx, 3)) (hq : pc + 3 = q) (hf : fdW own idx C T N k) (hc : vwCl[ci]? = some (C, T, N)) (hΛ : Λ a = some (kO ci fl)) (hk : fl[k]? = some none) (hj : (k : Int) = j) (kk : V Γ D Λ M κ q lv (vi (M a j) :: st)) : V Γ D Λ M κ pc lv (.ref a :: st) := by
  subst hq
  intro H locs ls h1 h2 h3
  obtain ⟨f1, f2, f3, f4⟩ := hf
  subst hj
  have h9 := fO_at fl (M a) 0 k _ hk
  rw [Int.zero_add] at h9
  exact va_get (D := D.1) (ci := ci) (v := vi (M a k)) (fs := fO fl (M a) 0) (own := own) g.exec g.code g.hts f2 g.hown g.hK (h1.one hΛ) 0 rfl hc k f4 (g.hts _ f1) (fun x hx => by rw [f3] at hx; exact hx) h9 d (kk H locs ls h1 h2 h3)
/-- .. of a nest mate, private -/
def fdN (own : String) (idx : Nat) (C : String) (T : u_T) (N k : Nat) : Prop := (∃ host, (Cond.fieldLinkNest own idx C (T k).2.1 (T k).2.2.1 host) ∈ nestW) ∧ (∀ w ∈ u_ws C T N, w ∈ BIG) ∧ (T k).1 = C ∧ k < N
theorem V_getRN {ci idx k a b N : Nat} {C : String} {T : u_T} {fl : List (Option Nat)} (g : VOk Γ D Λ own cc nL l R) (d : decode cc pc = .ok (.getfield idx, 3)) (hq : pc + 3 = q) (hf : fdN own idx C T N k) (hc : vwCl[ci]? = some (C, T, N)) (hΛ : Λ a = some (kO ci fl)) (hk : fl[k]? = some (some b)) (kk : V Γ D Λ M κ q lv (.ref b :: st)) : V Γ D Λ M κ pc lv (.ref a :: st) := by
  subst hq
  intro H locs ls h1 h2 h3
  obtain ⟨⟨host, f1⟩, f2, f3, f4⟩ := hf
  exact va_getN (D := D.1) (ci := ci) (v := .ref b) (fs := fO fl (M a) 0) (own := own) g.exec g.code g.hts f2 g.hown g.hK (h1.one hΛ) 0 rfl hc k f4 (g.hst.1 _ f1) (fun x hx => by rw [f3] at hx; exact hx) (fO_at fl (M a) 0 k _ hk) d (kk H locs ls h1 h2 h3)
theorem V_getIN {ci idx k a N : Nat} {C : String} {T : u_T} {fl : List (Option Nat)} {j : Int} (g : VOk Γ D Λ own cc nL l R) (d : decode cc pc = .ok (.getfield idx, 3)) (hq : pc + 3 = q) (hf : fdN own idx C T N k) (hc : vwCl[ci]? = some (C, T, N)) (hΛ : Λ a = some (kO ci fl)) (hk : fl[k]? = some none) (hj : (k : Int) = j) (kk : V Γ D Λ M κ q lv (vi (M a j) :: st)) : V Γ D Λ M κ pc lv (.ref a :: st) := by
  subst hq
  intro H locs ls h1 h2 h3
  obtain ⟨⟨host, f1⟩, f2, f3, f4⟩ := hf
  subst hj
  have h9 := fO_at fl (M a) 0 k _ hk
  rw [Int.zero_add] at h9
  exact va_getN (D := D.1) (ci := ci) (v := vi (M a k)) (fs := fO fl (M a) 0) (own := own) g.exec g.code g.hts f2 g.hown g.hK (h1.one hΛ) 0 rfl hc k f4 (g.hst.1 _ f1) (fun x hx => by rw [f3] at hx; exact hx) h9 d (kk H locs ls h1 h2 h3)

theorem V_putI {ci idx k a N : Nat} {C : String} {T : u_T} {fl : List (Option Nat)} {j x : Int} {ty0 : Nat → FieldType} {ty : FieldType} (g : VOk Γ D Λ own cc nL l R) (d : decode cc pc = .ok (.putfield idx, 3)) (hq : pc + 3 = q) (hf : fdW own idx C T N k) (hty : ∀ k, k < N → parseFieldDescriptor (T k).2.2.1 = some (ty0 k)) (hnm : ∀ a, a < N → ∀ b, b < N → a ≠ b → (T a).2.1 ≠ (T b).2.1) (hc : vwCl[ci]? = some (C, T, N)) (hΛ : Λ a = some (kO ci fl)) (hk : fl[k]? = some none) (hfin : (T k).2.2.2 = false) (htk : ty0 k = ty) (hn : narrow ty (vi x) = vi x) (hfit : fits ty (vi x) = true) (hj : (k : Int) = j) (kk : V Γ D Λ (wr M a j x) κ q lv st) : V Γ D Λ M κ pc lv (vi x :: .ref a :: st) := by
  subst hq
  intro H locs ls h1 h2 h3
  obtain ⟨f1, f2, f3, f4⟩ := hf
  subst hj
  subst htk
  have hap := va_apart (own := own) g.hts f2 ty0 hty hnm g.hK hc
  obtain ⟨r, e1, cell, q1, q2, q3, q4⟩ := h1 a _ hΛ
  have hr : r = (C, T, N) := Option.some.inj (e1.symm.trans hc)
  subst hr
  obtain ⟨hS, hfc, kC, hkC, hkind⟩ := g.hK.1 ci _ hc
  obtain ⟨cf, kf, fi, f, hi, hsl⟩ := hS k f4
  have hlay := g.hts _ (f2 _ (u_in_lay f4))
  unfold u_lay at hlay
  rw [if_neg (by rw [hfin]; decide)] at hlay
  have hst := (u_facts hfc hkC (u_lays g.hts f2 f4) hi).1
  have h6 := u_store hfc hkC hkind hlay hi (hty k f4) hn hfit
  have hi2 : (gs Γ).fieldFound? C (T k).2.1 (T k).2.2.1 = some (cf, kf, fi, f) := by rw [f3] at hi; exact hi
  refine W.putK g.exec g.code (f := f) ⟨g.hown, g.hts _ f1, ⟨_, _, _, hi2⟩, hst⟩ (by rw [q2]; exact h6) q1 q3 (by rw [hsl]; exact k2_hasslot (q4 k f4)) rfl rfl d fun H' e1 e2 e3 => ?_
  rw [hsl] at e1 ⊢
  refine kk H' _ ls (h1.set hΛ ?_ e3) (h2.put e2 e3 (Or.inl ⟨_, hΛ⟩)) h3
  have hl : k < (fO fl (M a) 0).length := by rw [fO_len]; exact (List.getElem?_eq_some_iff.mp hk).1
  have h9 := fO_set fl (M a) 0 k x hk
  rw [Int.zero_add] at h9
  refine ⟨_, hc, ?_⟩
  show t_OB a _ _ _ _ (vp_V (fO fl (up (M a) k x) 0))
  rw [← h9]
  exact t_OB.to (V := updV (vp_V (fO fl (M a) 0)) k (vi x)) ⟨_, e1, q2, q3, t_set q4 hap f4 (vi x)⟩ (fun j _ => vp_updV_set hl (vi x) j)

/-! contracts -/
def Pw (D : DD) (Λ : LY) (M : MM) (sz : Nat) (As : List Value) : Array Value → State → Prop := va_Pc As (fun U => U.heap.size = sz ∧ Hd D Λ M U.heap ∧ va_K D.1 vwCl (tysD D) U ∧ St (Aw Λ sz) U U.heap)
def QcI (D : DD) (Λ : LY) (sz : Nat) (Ψ : Int → MM → Prop) : Array Value → State → Outcome → State → Prop := va_Qi (S := MM) (fun r M' => ∃ z, r = iI z ∧ Ψ z M') (fun M' t => Hd D Λ M' t.heap) (Aw Λ sz)
def QcL (D : DD) (Λ : LY) (sz : Nat) (Ψ : Int → MM → Prop) : Array Value → State → Outcome → State → Prop := va_Ql (S := MM) (fun r M' => ∃ z, r = lI z ∧ Ψ z M') (fun M' t => Hd D Λ M' t.heap) (Aw Λ sz)
def QcV (D : DD) (Λ : LY) (sz : Nat) (Ψ : MM → Prop) : Array Value → State → Outcome → State → Prop := va_Qv (S := MM) Ψ (fun M' t => Hd D Λ M' t.heap) (Aw Λ sz)
def QcA (D : DD) (Λ : LY) (sz : Nat) (Ψ : Nat → MM → Prop) : Array Value → State → Outcome → State → Prop := va_Qr (S := MM × Nat) (fun u => Ψ u.2 u.1) (fun u a t => u.2 = a ∧ Hd D Λ u.1 t.heap) (Aw Λ sz)
def CI (l : Launch) (y : MethodName) (cc : ByteArray) (nL : Nat) (ret : FieldType) (rm : Room) (As : List Value) (D : DD) (Λ : LY) (M : MM) (Ψ : Int → MM → Prop) : Prop := ∀ sz, Met l y (WS y cc nL (some ret)) rm (Pw D Λ M sz As) (QcI D Λ sz Ψ) 0 0 (Aw Λ sz)
def CL (l : Launch) (y : MethodName) (cc : ByteArray) (nL : Nat) (rm : Room) (As : List Value) (D : DD) (Λ : LY) (M : MM) (Ψ : Int → MM → Prop) : Prop := ∀ sz, Met l y (WS y cc nL (some .long)) rm (Pw D Λ M sz As) (QcL D Λ sz Ψ) 0 0 (Aw Λ sz)
def CV (l : Launch) (y : MethodName) (cc : ByteArray) (nL : Nat) (rm : Room) (As : List Value) (D : DD) (Λ : LY) (M : MM) (Ψ : MM → Prop) : Prop := ∀ sz, Met l y (WS y cc nL none) rm (Pw D Λ M sz As) (QcV D Λ sz Ψ) 0 0 (Aw Λ sz)
def CA (l : Launch) (y : MethodName) (cc : ByteArray) (nL : Nat) (ret : FieldType) (rm : Room) (As : List Value) (D : DD) (Λ : LY) (M : MM) (Ψ : Nat → MM → Prop) : Prop := ∀ sz, Met l y (WS y cc nL (some ret)) rm (Pw D Λ M sz As) (QcA D Λ sz Ψ) 0 0 (Aw Λ sz)
/-- what a body owes at its end -/
def RetQ (Γ : VG) (ret : Option FieldType) (Qc : Array Value → State → Outcome → State → Prop) (A : Nat → Prop) : Prop := gQ Γ = MQ (gb Γ) Qc (ga Γ) (gs Γ) 0 0 A ∧ (gM Γ).sig.returnType = ret
theorem V_ireturn {z : Int} {ty : FieldType} {Ψ : Int → MM → Prop} (g : VOk Γ D Λ own cc nL l R) (r : RetQ Γ (some ty) (QcI D Λ (gs Γ).heap.size Ψ) (Aw Λ (gs Γ).heap.size)) (d : decode cc pc = .ok (.ireturn, 1)) (hn : narrow ty (vi z) = vi z) (h : Ψ z M) : V Γ D Λ M (0, 0) pc lv [vi z] := by
  intro H locs ls h1 h2 h3
  rw [r.1]
  exact W.zret (hlocks := g.locks) g.exec g.code r.2 hn (fun t ht hW => ⟨⟨iI z, M, rfl, ⟨z, rfl, h⟩, by show Hd D Λ M t.heap; rw [ht]; exact h1⟩, h2.F ht⟩) h2.2.2 d
theorem V_lreturn {z : Int} {Ψ : Int → MM → Prop} (g : VOk Γ D Λ own cc nL l R) (r : RetQ Γ (some .long) (QcL D Λ (gs Γ).heap.size Ψ) (Aw Λ (gs Γ).heap.size)) (d : decode cc pc = .ok (.lreturn, 1)) (h : Ψ z M) : V Γ D Λ M (0, 0) pc lv [vl z] := by
  intro H locs ls h1 h2 h3
  rw [r.1]
  exact W.lret (hlocks := g.locks) g.exec g.code r.2 (fun t ht hW => ⟨⟨lI z, M, rfl, ⟨z, rfl, h⟩, by show Hd D Λ M t.heap; rw [ht]; exact h1⟩, h2.F ht⟩) h2.2.2 d
theorem V_return {Ψ : MM → Prop} (g : VOk Γ D Λ own cc nL l R) (r : RetQ Γ none (QcV D Λ (gs Γ).heap.size Ψ) (Aw Λ (gs Γ).heap.size)) (d : decode cc pc = .ok (.return_, 1)) (h : Ψ M) : V Γ D Λ M (0, 0) pc lv [] := by
  intro H locs ls h1 h2 h3
  rw [r.1]
  exact W.vret (hlocks := g.locks) g.exec g.code r.2 (fun t ht hW => ⟨⟨M, rfl, h, by show Hd D Λ M t.heap; rw [ht]; exact h1⟩, h2.F ht⟩) h2.2.2 d
theorem V_areturn {a : Nat} {rt : FieldType} {Ψ : Nat → MM → Prop} (g : VOk Γ D Λ own cc nL l R) (r : RetQ Γ (some rt) (QcA D Λ (gs Γ).heap.size Ψ) (Aw Λ (gs Γ).heap.size)) (hrt : ∃ n, rt = .object n) (d : decode cc pc = .ok (.areturn, 1)) (h : Ψ a M) : V Γ D Λ M (0, 0) pc lv [.ref a] := by
  intro H locs ls h1 h2 h3
  rw [r.1]
  exact W.aret (hlocks := g.locks) g.exec g.code r.2 (Or.inl hrt) (Or.inr ⟨a, rfl⟩) (fun t ht hW => ⟨⟨(M, a), a, rfl, h, rfl, by show Hd D Λ M t.heap; rw [ht]; exact h1⟩, h2.F ht⟩) h2.2.2 d
/-- the locals at a method's entry -/
def lvSv : Slot → Option Value
  | .val v => some v
  | _ => none
def lvOf (As : List Value) (n : Nat) : List (Option Value) := (lg_sl As ++ List.replicate (n - (lg_sl As).length) Slot.unset).map lvSv
theorem lvH_entry (As : List Value) {n : Nat} (h : (lg_sl As).length ≤ n) : lvH ((lg_sl As ++ List.replicate (n - (lg_sl As).length) Slot.unset).toArray) n (lvOf As n) := by
  obtain ⟨e1, e2, -⟩ := lv_entry As h
  refine ⟨e1, e2, fun i v hv => ?_⟩
  unfold lvOf at hv
  rw [List.getElem?_map] at hv
  rw [List.getElem?_toArray]
  cases hx : (lg_sl As ++ List.replicate (n - (lg_sl As).length) Slot.unset)[i]? with
  | none => rw [hx] at hv; cases hv
  | some x =>
    rw [hx] at hv
    cases x with
    | val w => cases hv; rfl
    | _ => cases hv
theorem Pw.blind {sz : Nat} {As : List Value} : FrameBlind (Pw D Λ M sz As) := fun a U g mk h => ⟨h.1, h.2.1, h.2.2.1, va_K.moved (u := U) (U := U.calling g mk a) (Vm.Alike.refl U.vm) h.2.2.2.1, St.same (s := U) (U := U.calling g mk a) rfl h.2.2.2.2⟩
end VR
section VC
variable {D : DD} {Λ : LY} {l : Launch} {M : MM} {y : MethodName} {cc : ByteArray} {nL : Nat} {rm : Room} {As : List Value} {lv : List (Option Value)}
theorem C_of {ret : Option FieldType} {Qc : Nat → Array Value → State → Outcome → State → Prop} (hy : plainName y.cls = true) (hlv : lvOf As nL = lv) (hlen : (lg_sl As).length ≤ nL)
    (body : ∀ Γ, VOk Γ D Λ y.cls cc nL l rm → RetQ Γ ret (Qc (gs Γ).heap.size) (Aw Λ (gs Γ).heap.size) → V Γ D Λ M (0, 0) 0 lv []) (sz : Nat) : Met l y (WS y cc nL ret) rm (Pw D Λ M sz As) (Qc sz) 0 0 (Aw Λ sz) := by
  subst hlv
  refine Met.ofW (cc := cc) (maxL := nL) (ret := ret) hy rfl ?_
  intro p e s m args below meth c s₁ B hml hv
  obtain ⟨rfl, hsz, hP, hK, hst⟩ := hv
  subst hsz
  have hts := atoms_spec (ws := WS y cc nL ret) B.pre
  have hk := body ((p, l, e, (headSpec (WS y cc nL ret) rm).room, s), (m, As.toArray, below, meth, c), (nL, MQ below (Qc s.heap.size) As.toArray s 0 0 (Aw Λ s.heap.size)))
    ⟨B.exec, B.bytes, hml, rfl, findClass_of_methodNamed B.named, fun w hw => hts w (List.mem_cons_of_mem _ hw), hK, hst, B.notSynchronized, rfl, rfl⟩ ⟨rfl, B.returns⟩
  rw [lg_entry_eq]
  exact hk s.heap [] _ hP va_S.rf (lvH_entry As hlen)
theorem CI_of {ret : FieldType} {Ψ : Int → MM → Prop} (hy : plainName y.cls = true) (hlv : lvOf As nL = lv) (hlen : (lg_sl As).length ≤ nL)
    (body : ∀ Γ, VOk Γ D Λ y.cls cc nL l rm → RetQ Γ (some ret) (QcI D Λ (gs Γ).heap.size Ψ) (Aw Λ (gs Γ).heap.size) → V Γ D Λ M (0, 0) 0 lv []) : CI l y cc nL ret rm As D Λ M Ψ := fun sz => C_of (Qc := fun sz => QcI D Λ sz Ψ) hy hlv hlen body sz
theorem CL_of {Ψ : Int → MM → Prop} (hy : plainName y.cls = true) (hlv : lvOf As nL = lv) (hlen : (lg_sl As).length ≤ nL)
    (body : ∀ Γ, VOk Γ D Λ y.cls cc nL l rm → RetQ Γ (some .long) (QcL D Λ (gs Γ).heap.size Ψ) (Aw Λ (gs Γ).heap.size) → V Γ D Λ M (0, 0) 0 lv []) : CL l y cc nL rm As D Λ M Ψ := fun sz => C_of (Qc := fun sz => QcL D Λ sz Ψ) hy hlv hlen body sz
theorem CV_of {Ψ : MM → Prop} (hy : plainName y.cls = true) (hlv : lvOf As nL = lv) (hlen : (lg_sl As).length ≤ nL)
    (body : ∀ Γ, VOk Γ D Λ y.cls cc nL l rm → RetQ Γ none (QcV D Λ (gs Γ).heap.size Ψ) (Aw Λ (gs Γ).heap.size) → V Γ D Λ M (0, 0) 0 lv []) : CV l y cc nL rm As D Λ M Ψ := fun sz => C_of (Qc := fun sz => QcV D Λ sz Ψ) hy hlv hlen body sz
theorem CA_of {ret : FieldType} {Ψ : Nat → MM → Prop} (hy : plainName y.cls = true) (hlv : lvOf As nL = lv) (hlen : (lg_sl As).length ≤ nL)
    (body : ∀ Γ, VOk Γ D Λ y.cls cc nL l rm → RetQ Γ (some ret) (QcA D Λ (gs Γ).heap.size Ψ) (Aw Λ (gs Γ).heap.size) → V Γ D Λ M (0, 0) 0 lv []) : CA l y cc nL ret rm As D Λ M Ψ := fun sz => C_of (Qc := fun sz => QcA D Λ sz Ψ) hy hlv hlen body sz
end VC
/-! calls -/
def rmOk (rm : Room) (maxL : Nat) (R : Room) (κ : Nat × Nat) : Bool := decide (rm.frames + 1 ≤ R.frames) && (decide (8 + (maxL + 11) + rm.locals ≤ R.locals) && (decide (κ.1 + rm.cells ≤ R.cells) && decide (κ.2 + rm.slots ≤ R.slots)))
theorem rmOk_sp {rm R : Room} {maxL : Nat} {κ : Nat × Nat} (h : rmOk rm maxL R κ = true) : (rm.frames + 1 ≤ R.frames ∧ 8 + (maxL + 11) + rm.locals ≤ R.locals) ∧ κ.1 + rm.cells ≤ R.cells ∧ κ.2 + rm.slots ≤ R.slots := by
  simpa [rmOk, and_assoc] using h
def stOk (st : List Value) : Bool := decide ((st.map fun v => v.category).sum ≤ 8)
def yOk (y : MethodName) (n : Nat) : Bool := decide (y.cls ≠ "java/lang/invoke/MethodHandle") && (decide (y.cls ≠ "java/lang/invoke/VarHandle") && decide ((parseMethodDescriptor y.desc).map (fun d => d.parameters.length) = some n))
theorem yOk_sp {y : MethodName} {n : Nat} (h : yOk y n = true) : y.cls ≠ "java/lang/invoke/MethodHandle" ∧ y.cls ≠ "java/lang/invoke/VarHandle" ∧ (parseMethodDescriptor y.desc).map (fun d => d.parameters.length) = some n := by
  simpa [yOk, and_assoc] using h
/-- the words of a call -/
def lkV (own : String) (idx : Nat) (y : MethodName) (cc : ByteArray) (nL : Nat) (ret : Option FieldType) (n : Nat) : Prop := (∀ w ∈ [Cond.methodLink own idx y, .instanceMethod y, .selects y.cls y y, .initialized y.cls, .code y cc nL ret], w ∈ BIG) ∧ yOk y n = true
def lkS (own : String) (idx : Nat) (y : MethodName) (cc : ByteArray) (nL : Nat) (ret : Option FieldType) (n : Nat) : Prop := (∀ w ∈ [Cond.methodLink own idx y, .static y, .initialized y.cls, .code y cc nL ret], w ∈ BIG) ∧ yOk y n = true
def lkN (own : String) (idx : Nat) (y : MethodName) (cc : ByteArray) (nL : Nat) (ret : Option FieldType) (n : Nat) : Prop := (∃ host, Cond.methodLinkNest own idx y host ∈ nestW) ∧ (∀ w ∈ [Cond.static y, .initialized y.cls, .code y cc nL ret], w ∈ BIG) ∧ yOk y n = true
section VK
variable {Γ : VG} {D : DD} {Λ : LY} {own : String} {cc : ByteArray} {nL : Nat} {l : Launch} {R : Room} {M : MM} {κ : Nat × Nat} {pc q : Nat} {lv : List (Option Value)} {st : List Value} {y : MethodName} {bytes : ByteArray} {maxL idx n : Nat} {ret : Option FieldType} {rm : Room} {As : List Value}
theorem ws_good {wx : List Cond} (h : ∀ w ∈ wx ++ [Cond.code y bytes maxL ret], w ∈ BIG) : GoodIn BIG (wx ++ WS y bytes maxL ret) := by
  intro w hw
  rcases List.mem_append.mp hw with hw | hw
  · exact big_good w (h w (List.mem_append_left _ hw))
  · rcases List.mem_cons.mp hw with rfl | hw
    · exact big_good _ (h _ (List.mem_append_right _ List.mem_cons_self))
    · exact big_good w hw
theorem Pw.at {H : Heap} {locs : List Loc} {U : State} (g : VOk Γ D Λ own cc nL l R) (h1 : Hd D Λ M H) (h2 : va_S (Aw Λ (gs Γ).heap.size) (gs Γ).heap H locs) (hU : U.heap = H) (hW : (gs Γ).WarmedH U.vm) : Pw D Λ M H.size As As.toArray U :=
  ⟨rfl, by rw [hU], by rw [hU]; exact h1, va_K.moved hW.alike g.hK, by rw [hU]; exact St.warm hW ((g.hst.kept h2.2.1).narrow (aw_sub h2.1))⟩
theorem lvH.size {ls : Array Slot} (g : VOk Γ D Λ own cc nL l R) (h : lvH ls (gnL Γ) lv) : ls.size = nL := h.1.trans g.nl
theorem stOk_sp {lsx : Array Slot} {m : MethodId} {s2 : List Value} (h : stOk st = true) : 2 * (F0 m pc lsx s2).monitorRoom + (st.map fun v => v.category).sum ≤ 8 := by
  have h9 : (st.map fun v => v.category).sum ≤ 8 := by simpa [stOk] using h
  exact lv_room h9

theorem V_callSI0 {rt : FieldType} {Ψ : Int → MM → Prop} (g : VOk Γ D Λ own cc nL l R) (hM : CI l y bytes maxL rt rm As D Λ M Ψ) (d : decode cc pc = .ok (.invokestatic idx, 3)) (hk : lkS own idx y bytes maxL (some rt) n) (hn : As.length = n) (hr : rmOk rm maxL R κ = true) (hs : stOk st = true) (hz0 : rm.cells = 0 ∧ rm.slots = 0) (hq : pc + 3 = q) (kk : ∀ z M1, Ψ z M1 → V Γ D Λ M1 κ q lv (vi z :: st)) : V Γ D Λ M κ pc lv (As.reverse ++ st) := by
  subst hq
  intro H locs ls h1 h2 h3
  obtain ⟨r1, r2⟩ := rmOk_sp hr
  have r3 : κ.1 + 0 ≤ R.cells ∧ κ.2 + 0 ≤ R.slots := by rw [hz0.1, hz0.2] at r2; exact r2
  have h8 : gl Γ = l := g.gl
  have h9 : gR Γ = R := g.room
  refine va_calli (mc := 0) (ms := 0) (a := As.toArray) (free := Aw Λ H.size) (A1 := Aw Λ H.size) (va_runS (As := As) (rest := st) ⟨g.exec, g.code, g.ml, g.hown, g.hts⟩ (h8 ▸ hM H.size) (va_cwS n g.hts (ws_good (wx := [Cond.methodLink own idx y, .static y, .initialized y.cls]) hk.1) rfl hz0.1 hz0.2 (yOk_sp hk.2) (by rw [h9]; exact r1)) ⟨Pw.blind, fun U hU hW => Pw.at g h1 h2 hU hW⟩ rfl hn (lvH.size g h3) rfl (stOk_sp hs) d (by rw [h9]; exact r3)) h2 (fun q _ h => aw_sub h2.1 q h) (aw_sub h2.1) (fun r u t H1 locs1 ht hvm hp hB hz hk hS => ?_)
  obtain ⟨z, rfl, hΨ⟩ := hp
  exact kk z u hΨ H1 locs1 ls (by rw [← ht]; exact hB) hS h3
theorem V_callNI0 {rt : FieldType} {Ψ : Int → MM → Prop} (g : VOk Γ D Λ own cc nL l R) (hM : CI l y bytes maxL rt rm As D Λ M Ψ) (d : decode cc pc = .ok (.invokestatic idx, 3)) (hk : lkN own idx y bytes maxL (some rt) n) (hn : As.length = n) (hr : rmOk rm maxL R κ = true) (hs : stOk st = true) (hz0 : rm.cells = 0 ∧ rm.slots = 0) (hq : pc + 3 = q) (kk : ∀ z M1, Ψ z M1 → V Γ D Λ M1 κ q lv (vi z :: st)) : V Γ D Λ M κ pc lv (As.reverse ++ st) := by
  subst hq
  intro H locs ls h1 h2 h3
  obtain ⟨r1, r2⟩ := rmOk_sp hr
  have r3 : κ.1 + 0 ≤ R.cells ∧ κ.2 + 0 ≤ R.slots := by rw [hz0.1, hz0.2] at r2; exact r2
  have h8 : gl Γ = l := g.gl
  have h9 : gR Γ = R := g.room
  obtain ⟨⟨host, k0⟩, k1, k2⟩ := hk
  refine va_calli (mc := 0) (ms := 0) (a := As.toArray) (free := Aw Λ H.size) (A1 := Aw Λ H.size) (va_runSN (host := host) (As := As) (rest := st) ⟨g.exec, g.code, g.ml, g.hown, g.hts⟩ (h8 ▸ hM H.size) ⟨va_cnB n g.hts (fun w hw => ws_good (wx := [Cond.static y, .initialized y.cls]) k1 w (List.mem_append_right _ hw)) rfl hz0.1 hz0.2 (g.hst.1 _ k0) (g.hts _ (k1 _ (by simp))) (yOk_sp k2) (by rw [h9]; exact r1), g.hts _ (k1 _ (by simp)), trivial⟩ ⟨Pw.blind, fun U hU hW => Pw.at g h1 h2 hU hW⟩ rfl hn (lvH.size g h3) rfl (stOk_sp hs) d (by rw [h9]; exact r3)) h2 (fun q _ h => aw_sub h2.1 q h) (aw_sub h2.1) (fun r u t H1 locs1 ht hvm hp hB hz hk hS => ?_)
  obtain ⟨z, rfl, hΨ⟩ := hp
  exact kk z u hΨ H1 locs1 ls (by rw [← ht]; exact hB) hS h3
theorem V_callVI0 {rt : FieldType} {Ψ : Int → MM → Prop} {b ci : Nat} {fl : List (Option Nat)} {cT : vw_C} (g : VOk Γ D Λ own cc nL l R) (hM : CI l y bytes maxL rt rm (.ref b :: As) D Λ M Ψ) (d : decode cc pc = .ok (.invokevirtual idx, 3)) (hk : lkV own idx y bytes maxL (some rt) n) (hn : As.length = n) (hΛ : Λ b = some (kO ci fl)) (hc : vwCl[ci]? = some cT) (hcy : cT.1 = y.cls) (hr : rmOk rm maxL R κ = true) (hs : stOk st = true) (hz0 : rm.cells = 0 ∧ rm.slots = 0) (hq : pc + 3 = q) (kk : ∀ z M1, Ψ z M1 → V Γ D Λ M1 κ q lv (vi z :: st)) : V Γ D Λ M κ pc lv (As.reverse ++ .ref b :: st) := by
  subst hq
  intro H locs ls h1 h2 h3
  obtain ⟨r1, r2⟩ := rmOk_sp hr
  have r3 : κ.1 + 0 ≤ R.cells ∧ κ.2 + 0 ≤ R.slots := by rw [hz0.1, hz0.2] at r2; exact r2
  have h8 : gl Γ = l := g.gl
  have h9 : gR Γ = R := g.room
  have hrc := va_recv g.hK (h1.one hΛ) hc (q0 := 0) rfl
  rw [hcy] at hrc
  refine va_calli (mc := 0) (ms := 0) (a := (Value.ref b :: As).toArray) (free := Aw Λ H.size) (A1 := Aw Λ H.size) (va_runV (C := y.cls) (As := As) (rest := st) ⟨g.exec, g.code, g.ml, g.hown, g.hts⟩ (h8 ▸ hM H.size) (cwV n g.hts (ws_good (wx := [Cond.methodLink own idx y, .instanceMethod y, .selects y.cls y y, .initialized y.cls]) hk.1) rfl hz0.1 hz0.2 ⟨rfl, yOk_sp hk.2⟩ (by rw [h9]; exact r1)) ⟨Pw.blind, hrc, fun U hU hW => Pw.at g h1 h2 hU hW⟩ rfl hn (lvH.size g h3) rfl (stOk_sp hs) d (by rw [h9]; exact r3)) h2 (fun q _ h => aw_sub h2.1 q h) (aw_sub h2.1) (fun r u t H1 locs1 ht hvm hp hB hz hk hS => ?_)
  obtain ⟨z, rfl, hΨ⟩ := hp
  exact kk z u hΨ H1 locs1 ls (by rw [← ht]; exact hB) hS h3
theorem V_callSI_0 {rt : FieldType} {Ψ : Int → MM → Prop} (g : VOk Γ D Λ own cc nL l R) (hM : CI l y bytes maxL rt rm [] D Λ M Ψ) (d : decode cc pc = .ok (.invokestatic idx, 3)) (hk : lkS own idx y bytes maxL (some rt) 0) (hr : rmOk rm maxL R κ = true) (hs : stOk st = true) (hz0 : rm.cells = 0 ∧ rm.slots = 0) (hq : pc + 3 = q) (kk : ∀ z M1, Ψ z M1 → V Γ D Λ M1 κ q lv (vi z :: st)) : V Γ D Λ M κ pc lv (st) := V_callSI0 (As := []) g hM d hk rfl hr hs hz0 hq kk
theorem V_callSI_1 {rt : FieldType} {Ψ : Int → MM → Prop} {x0 : Value} (g : VOk Γ D Λ own cc nL l R) (hM : CI l y bytes maxL rt rm [x0] D Λ M Ψ) (d : decode cc pc = .ok (.invokestatic idx, 3)) (hk : lkS own idx y bytes maxL (some rt) 1) (hr : rmOk rm maxL R κ = true) (hs : stOk st = true) (hz0 : rm.cells = 0 ∧ rm.slots = 0) (hq : pc + 3 = q) (kk : ∀ z M1, Ψ z M1 → V Γ D Λ M1 κ q lv (vi z :: st)) : V Γ D Λ M κ pc lv (x0 :: st) := V_callSI0 (As := [x0]) g hM d hk rfl hr hs hz0 hq kk
theorem V_callSI_2 {rt : FieldType} {Ψ : Int → MM → Prop} {x0 x1 : Value} (g : VOk Γ D Λ own cc nL l R) (hM : CI l y bytes maxL rt rm [x0, x1] D Λ M Ψ) (d : decode cc pc = .ok (.invokestatic idx, 3)) (hk : lkS own idx y bytes maxL (some rt) 2) (hr : rmOk rm maxL R κ = true) (hs : stOk st = true) (hz0 : rm.cells = 0 ∧ rm.slots = 0) (hq : pc + 3 = q) (kk : ∀ z M1, Ψ z M1 → V Γ D Λ M1 κ q lv (vi z :: st)) : V Γ D Λ M κ pc lv (x1 :: x0 :: st) := V_callSI0 (As := [x0, x1]) g hM d hk rfl hr hs hz0 hq kk
theorem V_callSI_3 {rt : FieldType} {Ψ : Int → MM → Prop} {x0 x1 x2 : Value} (g : VOk Γ D Λ own cc nL l R) (hM : CI l y bytes maxL rt rm [x0, x1, x2] D Λ M Ψ) (d : decode cc pc = .ok (.invokestatic idx, 3)) (hk : lkS own idx y bytes maxL (some rt) 3) (hr : rmOk rm maxL R κ = true) (hs : stOk st = true) (hz0 : rm.cells = 0 ∧ rm.slots = 0) (hq : pc + 3 = q) (kk : ∀ z M1, Ψ z M1 → V Γ D Λ M1 κ q lv (vi z :: st)) : V Γ D Λ M κ pc lv (x2 :: x1 :: x0 :: st) := V_callSI0 (As := [x0, x1, x2]) g hM d hk rfl hr hs hz0 hq kk
theorem V_callSI_4 {rt : FieldType} {Ψ : Int → MM → Prop} {x0 x1 x2 x3 : Value} (g : VOk Γ D Λ own cc nL l R) (hM : CI l y bytes maxL rt rm [x0, x1, x2, x3] D Λ M Ψ) (d : decode cc pc = .ok (.invokestatic idx, 3)) (hk : lkS own idx y bytes maxL (some rt) 4) (hr : rmOk rm maxL R κ = true) (hs : stOk st = true) (hz0 : rm.cells = 0 ∧ rm.slots = 0) (hq : pc + 3 = q) (kk : ∀ z M1, Ψ z M1 → V Γ D Λ M1 κ q lv (vi z :: st)) : V Γ D Λ M κ pc lv (x3 :: x2 :: x1 :: x0 :: st) := V_callSI0 (As := [x0, x1, x2, x3]) g hM d hk rfl hr hs hz0 hq kk
theorem V_callSI_5 {rt : FieldType} {Ψ : Int → MM → Prop} {x0 x1 x2 x3 x4 : Value} (g : VOk Γ D Λ own cc nL l R) (hM : CI l y bytes maxL rt rm [x0, x1, x2, x3, x4] D Λ M Ψ) (d : decode cc pc = .ok (.invokestatic idx, 3)) (hk : lkS own idx y bytes maxL (some rt) 5) (hr : rmOk rm maxL R κ = true) (hs : stOk st = true) (hz0 : rm.cells = 0 ∧ rm.slots = 0) (hq : pc + 3 = q) (kk : ∀ z M1, Ψ z M1 → V Γ D Λ M1 κ q lv (vi z :: st)) : V Γ D Λ M κ pc lv (x4 :: x3 :: x2 :: x1 :: x0 :: st) := V_callSI0 (As := [x0, x1, x2, x3, x4]) g hM d hk rfl hr hs hz0 hq kk
theorem V_callSI_6 {rt : FieldType} {Ψ : Int → MM → Prop} {x0 x1 x2 x3 x4 x5 : Value} (g : VOk Γ D Λ own cc nL l R) (hM : CI l y bytes maxL rt rm [x0, x1, x2, x3, x4, x5] D Λ M Ψ) (d : decode cc pc = .ok (.invokestatic idx, 3)) (hk : lkS own idx y bytes maxL (some rt) 6) (hr : rmOk rm maxL R κ = true) (hs : stOk st = true) (hz0 : rm.cells = 0 ∧ rm.slots = 0) (hq : pc + 3 = q) (kk : ∀ z M1, Ψ z M1 → V Γ D Λ M1 κ q lv (vi z :: st)) : V Γ D Λ M κ pc lv (x5 :: x4 :: x3 :: x2 :: x1 :: x0 :: st) := V_callSI0 (As := [x0, x1, x2, x3, x4, x5]) g hM d hk rfl hr hs hz0 hq kk
theorem V_callNI_0 {rt : FieldType} {Ψ : Int → MM → Prop} (g : VOk Γ D Λ own cc nL l R) (hM : CI l y bytes maxL rt rm [] D Λ M Ψ) (d : decode cc pc = .ok (.invokestatic idx, 3)) (hk : lkN own idx y bytes maxL (some rt) 0) (hr : rmOk rm maxL R κ = true) (hs : stOk st = true) (hz0 : rm.cells = 0 ∧ rm.slots = 0) (hq : pc + 3 = q) (kk : ∀ z M1, Ψ z M1 → V Γ D Λ M1 κ q lv (vi z :: st)) : V Γ D Λ M κ pc lv (st) := V_callNI0 (As := []) g hM d hk rfl hr hs hz0 hq kk
theorem V_callNI_1 {rt : FieldType} {Ψ : Int → MM → Prop} {x0 : Value} (g : VOk Γ D Λ own cc nL l R) (hM : CI l y bytes maxL rt rm [x0] D Λ M Ψ) (d : decode cc pc = .ok (.invokestatic idx, 3)) (hk : lkN own idx y bytes maxL (some rt) 1) (hr : rmOk rm maxL R κ = true) (hs : stOk st = true) (hz0 : rm.cells = 0 ∧ rm.slots = 0) (hq : pc + 3 = q) (kk : ∀ z M1, Ψ z M1 → V Γ D Λ M1 κ q lv (vi z :: st)) : V Γ D Λ M κ pc lv (x0 :: st) := V_callNI0 (As := [x0]) g hM d hk rfl hr hs hz0 hq kk
theorem V_callNI_2 {rt : FieldType} {Ψ : Int → MM → Prop} {x0 x1 : Value} (g : VOk Γ D Λ own cc nL l R) (hM : CI l y bytes maxL rt rm [x0, x1] D Λ M Ψ) (d : decode cc pc = .ok (.invokestatic idx, 3)) (hk : lkN own idx y bytes maxL (some rt) 2) (hr : rmOk rm maxL R κ = true) (hs : stOk st = true) (hz0 : rm.cells = 0 ∧ rm.slots = 0) (hq : pc + 3 = q) (kk : ∀ z M1, Ψ z M1 → V Γ D Λ M1 κ q lv (vi z :: st)) : V Γ D Λ M κ pc lv (x1 :: x0 :: st) := V_callNI0 (As := [x0, x1]) g hM d hk rfl hr hs hz0 hq kk
theorem V_callNI_3 {rt : FieldType} {Ψ : Int → MM → Prop} {x0 x1 x2 : Value} (g : VOk Γ D Λ own cc nL l R) (hM : CI l y bytes maxL rt rm [x0, x1, x2] D Λ M Ψ) (d : decode cc pc = .ok (.invokestatic idx, 3)) (hk : lkN own idx y bytes maxL (some rt) 3) (hr : rmOk rm maxL R κ = true) (hs : stOk st = true) (hz0 : rm.cells = 0 ∧ rm.slots = 0) (hq : pc + 3 = q) (kk : ∀ z M1, Ψ z M1 → V Γ D Λ M1 κ q lv (vi z :: st)) : V Γ D Λ M κ pc lv (x2 :: x1 :: x0 :: st) := V_callNI0 (As := [x0, x1, x2]) g hM d hk rfl hr hs hz0 hq kk
theorem V_callNI_4 {rt : FieldType} {Ψ : Int → MM → Prop} {x0 x1 x2 x3 : Value} (g : VOk Γ D Λ own cc nL l R) (hM : CI l y bytes maxL rt rm [x0, x1, x2, x3] D Λ M Ψ) (d : decode cc pc = .ok (.invokestatic idx, 3)) (hk : lkN own idx y bytes maxL (some rt) 4) (hr : rmOk rm maxL R κ = true) (hs : stOk st = true) (hz0 : rm.cells = 0 ∧ rm.slots = 0) (hq : pc + 3 = q) (kk : ∀ z M1, Ψ z M1 → V Γ D Λ M1 κ q lv (vi z :: st)) : V Γ D Λ M κ pc lv (x3 :: x2 :: x1 :: x0 :: st) := V_callNI0 (As := [x0, x1, x2, x3]) g hM d hk rfl hr hs hz0 hq kk
theorem V_callNI_5 {rt : FieldType} {Ψ : Int → MM → Prop} {x0 x1 x2 x3 x4 : Value} (g : VOk Γ D Λ own cc nL l R) (hM : CI l y bytes maxL rt rm [x0, x1, x2, x3, x4] D Λ M Ψ) (d : decode cc pc = .ok (.invokestatic idx, 3)) (hk : lkN own idx y bytes maxL (some rt) 5) (hr : rmOk rm maxL R κ = true) (hs : stOk st = true) (hz0 : rm.cells = 0 ∧ rm.slots = 0) (hq : pc + 3 = q) (kk : ∀ z M1, Ψ z M1 → V Γ D Λ M1 κ q lv (vi z :: st)) : V Γ D Λ M κ pc lv (x4 :: x3 :: x2 :: x1 :: x0 :: st) := V_callNI0 (As := [x0, x1, x2, x3, x4]) g hM d hk rfl hr hs hz0 hq kk
theorem V_callNI_6 {rt : FieldType} {Ψ : Int → MM → Prop} {x0 x1 x2 x3 x4 x5 : Value} (g : VOk Γ D Λ own cc nL l R) (hM : CI l y bytes maxL rt rm [x0, x1, x2, x3, x4, x5] D Λ M Ψ) (d : decode cc pc = .ok (.invokestatic idx, 3)) (hk : lkN own idx y bytes maxL (some rt) 6) (hr : rmOk rm maxL R κ = true) (hs : stOk st = true) (hz0 : rm.cells = 0 ∧ rm.slots = 0) (hq : pc + 3 = q) (kk : ∀ z M1, Ψ z M1 → V Γ D Λ M1 κ q lv (vi z :: st)) : V Γ D Λ M κ pc lv (x5 :: x4 :: x3 :: x2 :: x1 :: x0 :: st) := V_callNI0 (As := [x0, x1, x2, x3, x4, x5]) g hM d hk rfl hr hs hz0 hq kk
theorem V_callVI_0 {rt : FieldType} {Ψ : Int → MM → Prop} {b ci : Nat} {fl : List (Option Nat)} {cT : vw_C} (g : VOk Γ D Λ own cc nL l R) (hM : CI l y bytes maxL rt rm (.ref b :: []) D Λ M Ψ) (d : decode cc pc = .ok (.invokevirtual idx, 3)) (hk : lkV own idx y bytes maxL (some rt) 0) (hΛ : Λ b = some (kO ci fl)) (hc : vwCl[ci]? = some cT) (hcy : cT.1 = y.cls) (hr : rmOk rm maxL R κ = true) (hs : stOk st = true) (hz0 : rm.cells = 0 ∧ rm.slots = 0) (hq : pc + 3 = q) (kk : ∀ z M1, Ψ z M1 → V Γ D Λ M1 κ q lv (vi z :: st)) : V Γ D Λ M κ pc lv (.ref b :: st) := V_callVI0 (As := []) g hM d hk rfl hΛ hc hcy hr hs hz0 hq kk
theorem V_callVI_1 {rt : FieldType} {Ψ : Int → MM → Prop} {x0 : Value} {b ci : Nat} {fl : List (Option Nat)} {cT : vw_C} (g : VOk Γ D Λ own cc nL l R) (hM : CI l y bytes maxL rt rm (.ref b :: [x0]) D Λ M Ψ) (d : decode cc pc = .ok (.invokevirtual idx, 3)) (hk : lkV own idx y bytes maxL (some rt) 1) (hΛ : Λ b = some (kO ci fl)) (hc : vwCl[ci]? = some cT) (hcy : cT.1 = y.cls) (hr : rmOk rm maxL R κ = true) (hs : stOk st = true) (hz0 : rm.cells = 0 ∧ rm.slots = 0) (hq : pc + 3 = q) (kk : ∀ z M1, Ψ z M1 → V Γ D Λ M1 κ q lv (vi z :: st)) : V Γ D Λ M κ pc lv (x0 :: .ref b :: st) := V_callVI0 (As := [x0]) g hM d hk rfl hΛ hc hcy hr hs hz0 hq kk
theorem V_callVI_2 {rt : FieldType} {Ψ : Int → MM → Prop} {x0 x1 : Value} {b ci : Nat} {fl : List (Option Nat)} {cT : vw_C} (g : VOk Γ D Λ own cc nL l R) (hM : CI l y bytes maxL rt rm (.ref b :: [x0, x1]) D Λ M Ψ) (d : decode cc pc = .ok (.invokevirtual idx, 3)) (hk : lkV own idx y bytes maxL (some rt) 2) (hΛ : Λ b = some (kO ci fl)) (hc : vwCl[ci]? = some cT) (hcy : cT.1 = y.cls) (hr : rmOk rm maxL R κ = true) (hs : stOk st = true) (hz0 : rm.cells = 0 ∧ rm.slots = 0) (hq : pc + 3 = q) (kk : ∀ z M1, Ψ z M1 → V Γ D Λ M1 κ q lv (vi z :: st)) : V Γ D Λ M κ pc lv (x1 :: x0 :: .ref b :: st) := V_callVI0 (As := [x0, x1]) g hM d hk rfl hΛ hc hcy hr hs hz0 hq kk
theorem V_callVI_3 {rt : FieldType} {Ψ : Int → MM → Prop} {x0 x1 x2 : Value} {b ci : Nat} {fl : List (Option Nat)} {cT : vw_C} (g : VOk Γ D Λ own cc nL l R) (hM : CI l y bytes maxL rt rm (.ref b :: [x0, x1, x2]) D Λ M Ψ) (d : decode cc pc = .ok (.invokevirtual idx, 3)) (hk : lkV own idx y bytes maxL (some rt) 3) (hΛ : Λ b = some (kO ci fl)) (hc : vwCl[ci]? = some cT) (hcy : cT.1 = y.cls) (hr : rmOk rm maxL R κ = true) (hs : stOk st = true) (hz0 : rm.cells = 0 ∧ rm.slots = 0) (hq : pc + 3 = q) (kk : ∀ z M1, Ψ z M1 → V Γ D Λ M1 κ q lv (vi z :: st)) : V Γ D Λ M κ pc lv (x2 :: x1 :: x0 :: .ref b :: st) := V_callVI0 (As := [x0, x1, x2]) g hM d hk rfl hΛ hc hcy hr hs hz0 hq kk
theorem V_callVI_4 {rt : FieldType} {Ψ : Int → MM → Prop} {x0 x1 x2 x3 : Value} {b ci : Nat} {fl : List (Option Nat)} {cT : vw_C} (g : VOk Γ D Λ own cc nL l R) (hM : CI l y bytes maxL rt rm (.ref b :: [x0, x1, x2, x3]) D Λ M Ψ) (d : decode cc pc = .ok (.invokevirtual idx, 3)) (hk : lkV own idx y bytes maxL (some rt) 4) (hΛ : Λ b = some (kO ci fl)) (hc : vwCl[ci]? = some cT) (hcy : cT.1 = y.cls) (hr : rmOk rm maxL R κ = true) (hs : stOk st = true) (hz0 : rm.cells = 0 ∧ rm.slots = 0) (hq : pc + 3 = q) (kk : ∀ z M1, Ψ z M1 → V Γ D Λ M1 κ q lv (vi z :: st)) : V Γ D Λ M κ pc lv (x3 :: x2 :: x1 :: x0 :: .ref b :: st) := V_callVI0 (As := [x0, x1, x2, x3]) g hM d hk rfl hΛ hc hcy hr hs hz0 hq kk
theorem V_callVI_5 {rt : FieldType} {Ψ : Int → MM → Prop} {x0 x1 x2 x3 x4 : Value} {b ci : Nat} {fl : List (Option Nat)} {cT : vw_C} (g : VOk Γ D Λ own cc nL l R) (hM : CI l y bytes maxL rt rm (.ref b :: [x0, x1, x2, x3, x4]) D Λ M Ψ) (d : decode cc pc = .ok (.invokevirtual idx, 3)) (hk : lkV own idx y bytes maxL (some rt) 5) (hΛ : Λ b = some (kO ci fl)) (hc : vwCl[ci]? = some cT) (hcy : cT.1 = y.cls) (hr : rmOk rm maxL R κ = true) (hs : stOk st = true) (hz0 : rm.cells = 0 ∧ rm.slots = 0) (hq : pc + 3 = q) (kk : ∀ z M1, Ψ z M1 → V Γ D Λ M1 κ q lv (vi z :: st)) : V Γ D Λ M κ pc lv (x4 :: x3 :: x2 :: x1 :: x0 :: .ref b :: st) := V_callVI0 (As := [x0, x1, x2, x3, x4]) g hM d hk rfl hΛ hc hcy hr hs hz0 hq kk
theorem V_callVI_6 {rt : FieldType} {Ψ : Int → MM → Prop} {x0 x1 x2 x3 x4 x5 : Value} {b ci : Nat} {fl : List (Option Nat)} {cT : vw_C} (g : VOk Γ D Λ own cc nL l R) (hM : CI l y bytes maxL rt rm (.ref b :: [x0, x1, x2, x3, x4, x5]) D Λ M Ψ) (d : decode cc pc = .ok (.invokevirtual idx, 3)) (hk : lkV own idx y bytes maxL (some rt) 6) (hΛ : Λ b = some (kO ci fl)) (hc : vwCl[ci]? = some cT) (hcy : cT.1 = y.cls) (hr : rmOk rm maxL R κ = true) (hs : stOk st = true) (hz0 : rm.cells = 0 ∧ rm.slots = 0) (hq : pc + 3 = q) (kk : ∀ z M1, Ψ z M1 → V Γ D Λ M1 κ q lv (vi z :: st)) : V Γ D Λ M κ pc lv (x5 :: x4 :: x3 :: x2 :: x1 :: x0 :: .ref b :: st) := V_callVI0 (As := [x0, x1, x2, x3, x4, x5]) g hM d hk rfl hΛ hc hcy hr hs hz0 hq kk
theorem V_callSL0 {Ψ : Int → MM → Prop} (g : VOk Γ D Λ own cc nL l R) (hM : CL l y bytes maxL rm As D Λ M Ψ) (d : decode cc pc = .ok (.invokestatic idx, 3)) (hk : lkS own idx y bytes maxL (some .long) n) (hn : As.length = n) (hr : rmOk rm maxL R κ = true) (hs : stOk st = true) (hz0 : rm.cells = 0 ∧ rm.slots = 0) (hq : pc + 3 = q) (kk : ∀ z M1, Ψ z M1 → V Γ D Λ M1 κ q lv (vl z :: st)) : V Γ D Λ M κ pc lv (As.reverse ++ st) := by
  subst hq
  intro H locs ls h1 h2 h3
  obtain ⟨r1, r2⟩ := rmOk_sp hr
  have r3 : κ.1 + 0 ≤ R.cells ∧ κ.2 + 0 ≤ R.slots := by rw [hz0.1, hz0.2] at r2; exact r2
  have h8 : gl Γ = l := g.gl
  have h9 : gR Γ = R := g.room
  refine va_calll (mc := 0) (ms := 0) (a := As.toArray) (free := Aw Λ H.size) (A1 := Aw Λ H.size) (va_runS (As := As) (rest := st) ⟨g.exec, g.code, g.ml, g.hown, g.hts⟩ (h8 ▸ hM H.size) (va_cwS n g.hts (ws_good (wx := [Cond.methodLink own idx y, .static y, .initialized y.cls]) hk.1) rfl hz0.1 hz0.2 (yOk_sp hk.2) (by rw [h9]; exact r1)) ⟨Pw.blind, fun U hU hW => Pw.at g h1 h2 hU hW⟩ rfl hn (lvH.size g h3) rfl (stOk_sp hs) d (by rw [h9]; exact r3)) h2 (fun q _ h => aw_sub h2.1 q h) (aw_sub h2.1) (fun r u t H1 locs1 ht hvm hp hB hz hk hS => ?_)
  obtain ⟨z, rfl, hΨ⟩ := hp
  exact kk z u hΨ H1 locs1 ls (by rw [← ht]; exact hB) hS h3
theorem V_callNL0 {Ψ : Int → MM → Prop} (g : VOk Γ D Λ own cc nL l R) (hM : CL l y bytes maxL rm As D Λ M Ψ) (d : decode cc pc = .ok (.invokestatic idx, 3)) (hk : lkN own idx y bytes maxL (some .long) n) (hn : As.length = n) (hr : rmOk rm maxL R κ = true) (hs : stOk st = true) (hz0 : rm.cells = 0 ∧ rm.slots = 0) (hq : pc + 3 = q) (kk : ∀ z M1, Ψ z M1 → V Γ D Λ M1 κ q lv (vl z :: st)) : V Γ D Λ M κ pc lv (As.reverse ++ st) := by
  subst hq
  intro H locs ls h1 h2 h3
  obtain ⟨r1, r2⟩ := rmOk_sp hr
  have r3 : κ.1 + 0 ≤ R.cells ∧ κ.2 + 0 ≤ R.slots := by rw [hz0.1, hz0.2] at r2; exact r2
  have h8 : gl Γ = l := g.gl
  have h9 : gR Γ = R := g.room
  obtain ⟨⟨host, k0⟩, k1, k2⟩ := hk
  refine va_calll (mc := 0) (ms := 0) (a := As.toArray) (free := Aw Λ H.size) (A1 := Aw Λ H.size) (va_runSN (host := host) (As := As) (rest := st) ⟨g.exec, g.code, g.ml, g.hown, g.hts⟩ (h8 ▸ hM H.size) ⟨va_cnB n g.hts (fun w hw => ws_good (wx := [Cond.static y, .initialized y.cls]) k1 w (List.mem_append_right _ hw)) rfl hz0.1 hz0.2 (g.hst.1 _ k0) (g.hts _ (k1 _ (by simp))) (yOk_sp k2) (by rw [h9]; exact r1), g.hts _ (k1 _ (by simp)), trivial⟩ ⟨Pw.blind, fun U hU hW => Pw.at g h1 h2 hU hW⟩ rfl hn (lvH.size g h3) rfl (stOk_sp hs) d (by rw [h9]; exact r3)) h2 (fun q _ h => aw_sub h2.1 q h) (aw_sub h2.1) (fun r u t H1 locs1 ht hvm hp hB hz hk hS => ?_)
  obtain ⟨z, rfl, hΨ⟩ := hp
  exact kk z u hΨ H1 locs1 ls (by rw [← ht]; exact hB) hS h3
theorem V_callVL0 {Ψ : Int → MM → Prop} {b ci : Nat} {fl : List (Option Nat)} {cT : vw_C} (g : VOk Γ D Λ own cc nL l R) (hM : CL l y bytes maxL rm (.ref b :: As) D Λ M Ψ) (d : decode cc pc = .ok (.invokevirtual idx, 3)) (hk : lkV own idx y bytes maxL (some .long) n) (hn : As.length = n) (hΛ : Λ b = some (kO ci fl)) (hc : vwCl[ci]? = some cT) (hcy : cT.1 = y.cls) (hr : rmOk rm maxL R κ = true) (hs : stOk st = true) (hz0 : rm.cells = 0 ∧ rm.slots = 0) (hq : pc + 3 = q) (kk : ∀ z M1, Ψ z M1 → V Γ D Λ M1 κ q lv (vl z :: st)) : V Γ D Λ M κ pc lv (As.reverse ++ .ref b :: st) := by
  subst hq
  intro H locs ls h1 h2 h3
  obtain ⟨r1, r2⟩ := rmOk_sp hr
  have r3 : κ.1 + 0 ≤ R.cells ∧ κ.2 + 0 ≤ R.slots := by rw [hz0.1, hz0.2] at r2; exact r2
  have h8 : gl Γ = l := g.gl
  have h9 : gR Γ = R := g.room
  have hrc := va_recv g.hK (h1.one hΛ) hc (q0 := 0) rfl
  rw [hcy] at hrc
  refine va_calll (mc := 0) (ms := 0) (a := (Value.ref b :: As).toArray) (free := Aw Λ H.size) (A1 := Aw Λ H.size) (va_runV (C := y.cls) (As := As) (rest := st) ⟨g.exec, g.code, g.ml, g.hown, g.hts⟩ (h8 ▸ hM H.size) (cwV n g.hts (ws_good (wx := [Cond.methodLink own idx y, .instanceMethod y, .selects y.cls y y, .initialized y.cls]) hk.1) rfl hz0.1 hz0.2 ⟨rfl, yOk_sp hk.2⟩ (by rw [h9]; exact r1)) ⟨Pw.blind, hrc, fun U hU hW => Pw.at g h1 h2 hU hW⟩ rfl hn (lvH.size g h3) rfl (stOk_sp hs) d (by rw [h9]; exact r3)) h2 (fun q _ h => aw_sub h2.1 q h) (aw_sub h2.1) (fun r u t H1 locs1 ht hvm hp hB hz hk hS => ?_)
  obtain ⟨z, rfl, hΨ⟩ := hp
  exact kk z u hΨ H1 locs1 ls (by rw [← ht]; exact hB) hS h3
theorem V_callSL_0 {Ψ : Int → MM → Prop} (g : VOk Γ D Λ own cc nL l R) (hM : CL l y bytes maxL rm [] D Λ M Ψ) (d : decode cc pc = .ok (.invokestatic idx, 3)) (hk : lkS own idx y bytes maxL (some .long) 0) (hr : rmOk rm maxL R κ = true) (hs : stOk st = true) (hz0 : rm.cells = 0 ∧ rm.slots = 0) (hq : pc + 3 = q) (kk : ∀ z M1, Ψ z M1 → V Γ D Λ M1 κ q lv (vl z :: st)) : V Γ D Λ M κ pc lv (st) := V_callSL0 (As := []) g hM d hk rfl hr hs hz0 hq kk
theorem V_callSL_1 {Ψ : Int → MM → Prop} {x0 : Value} (g : VOk Γ D Λ own cc nL l R) (hM : CL l y bytes maxL rm [x0] D Λ M Ψ) (d : decode cc pc = .ok (.invokestatic idx, 3)) (hk : lkS own idx y bytes maxL (some .long) 1) (hr : rmOk rm maxL R κ = true) (hs : stOk st = true) (hz0 : rm.cells = 0 ∧ rm.slots = 0) (hq : pc + 3 = q) (kk : ∀ z M1, Ψ z M1 → V Γ D Λ M1 κ q lv (vl z :: st)) : V Γ D Λ M κ pc lv (x0 :: st) := V_callSL0 (As := [x0]) g hM d hk rfl hr hs hz0 hq kk
theorem V_callSL_2 {Ψ : Int → MM → Prop} {x0 x1 : Value} (g : VOk Γ D Λ own cc nL l R) (hM : CL l y bytes maxL rm [x0, x1] D Λ M Ψ) (d : decode cc pc = .ok (.invokestatic idx, 3)) (hk : lkS own idx y bytes maxL (some .long) 2) (hr : rmOk rm maxL R κ = true) (hs : stOk st = true) (hz0 : rm.cells = 0 ∧ rm.slots = 0) (hq : pc + 3 = q) (kk : ∀ z M1, Ψ z M1 → V Γ D Λ M1 κ q lv (vl z :: st)) : V Γ D Λ M κ pc lv (x1 :: x0 :: st) := V_callSL0 (As := [x0, x1]) g hM d hk rfl hr hs hz0 hq kk
theorem V_callSL_3 {Ψ : Int → MM → Prop} {x0 x1 x2 : Value} (g : VOk Γ D Λ own cc nL l R) (hM : CL l y bytes maxL rm [x0, x1, x2] D Λ M Ψ) (d : decode cc pc = .ok (.invokestatic idx, 3)) (hk : lkS own idx y bytes maxL (some .long) 3) (hr : rmOk rm maxL R κ = true) (hs : stOk st = true) (hz0 : rm.cells = 0 ∧ rm.slots = 0) (hq : pc + 3 = q) (kk : ∀ z M1, Ψ z M1 → V Γ D Λ M1 κ q lv (vl z :: st)) : V Γ D Λ M κ pc lv (x2 :: x1 :: x0 :: st) := V_callSL0 (As := [x0, x1, x2]) g hM d hk rfl hr hs hz0 hq kk
theorem V_callSL_4 {Ψ : Int → MM → Prop} {x0 x1 x2 x3 : Value} (g : VOk Γ D Λ own cc nL l R) (hM : CL l y bytes maxL rm [x0, x1, x2, x3] D Λ M Ψ) (d : decode cc pc = .ok (.invokestatic idx, 3)) (hk : lkS own idx y bytes maxL (some .long) 4) (hr : rmOk rm maxL R κ = true) (hs : stOk st = true) (hz0 : rm.cells = 0 ∧ rm.slots = 0) (hq : pc + 3 = q) (kk : ∀ z M1, Ψ z M1 → V Γ D Λ M1 κ q lv (vl z :: st)) : V Γ D Λ M κ pc lv (x3 :: x2 :: x1 :: x0 :: st) := V_callSL0 (As := [x0, x1, x2, x3]) g hM d hk rfl hr hs hz0 hq kk
theorem V_callSL_5 {Ψ : Int → MM → Prop} {x0 x1 x2 x3 x4 : Value} (g : VOk Γ D Λ own cc nL l R) (hM : CL l y bytes maxL rm [x0, x1, x2, x3, x4] D Λ M Ψ) (d : decode cc pc = .ok (.invokestatic idx, 3)) (hk : lkS own idx y bytes maxL (some .long) 5) (hr : rmOk rm maxL R κ = true) (hs : stOk st = true) (hz0 : rm.cells = 0 ∧ rm.slots = 0) (hq : pc + 3 = q) (kk : ∀ z M1, Ψ z M1 → V Γ D Λ M1 κ q lv (vl z :: st)) : V Γ D Λ M κ pc lv (x4 :: x3 :: x2 :: x1 :: x0 :: st) := V_callSL0 (As := [x0, x1, x2, x3, x4]) g hM d hk rfl hr hs hz0 hq kk
theorem V_callSL_6 {Ψ : Int → MM → Prop} {x0 x1 x2 x3 x4 x5 : Value} (g : VOk Γ D Λ own cc nL l R) (hM : CL l y bytes maxL rm [x0, x1, x2, x3, x4, x5] D Λ M Ψ) (d : decode cc pc = .ok (.invokestatic idx, 3)) (hk : lkS own idx y bytes maxL (some .long) 6) (hr : rmOk rm maxL R κ = true) (hs : stOk st = true) (hz0 : rm.cells = 0 ∧ rm.slots = 0) (hq : pc + 3 = q) (kk : ∀ z M1, Ψ z M1 → V Γ D Λ M1 κ q lv (vl z :: st)) : V Γ D Λ M κ pc lv (x5 :: x4 :: x3 :: x2 :: x1 :: x0 :: st) := V_callSL0 (As := [x0, x1, x2, x3, x4, x5]) g hM d hk rfl hr hs hz0 hq kk
theorem V_callNL_0 {Ψ : Int → MM → Prop} (g : VOk Γ D Λ own cc nL l R) (hM : CL l y bytes maxL rm [] D Λ M Ψ) (d : decode cc pc = .ok (.invokestatic idx, 3)) (hk : lkN own idx y bytes maxL (some .long) 0) (hr : rmOk rm maxL R κ = true) (hs : stOk st = true) (hz0 : rm.cells = 0 ∧ rm.slots = 0) (hq : pc + 3 = q) (kk : ∀ z M1, Ψ z M1 → V Γ D Λ M1 κ q lv (vl z :: st)) : V Γ D Λ M κ pc lv (st) := V_callNL0 (As := []) g hM d hk rfl hr hs hz0 hq kk
theorem V_callNL_1 {Ψ : Int → MM → Prop} {x0 : Value} (g : VOk Γ D Λ own cc nL l R) (hM : CL l y bytes maxL rm [x0] D Λ M Ψ) (d : decode cc pc = .ok (.invokestatic idx, 3)) (hk : lkN own idx y bytes maxL (some .long) 1) (hr : rmOk rm maxL R κ = true) (hs : stOk st = true) (hz0 : rm.cells = 0 ∧ rm.slots = 0) (hq : pc + 3 = q) (kk : ∀ z M1, Ψ z M1 → V Γ D Λ M1 κ q lv (vl z :: st)) : V Γ D Λ M κ pc lv (x0 :: st) := V_callNL0 (As := [x0]) g hM d hk rfl hr hs hz0 hq kk
theorem V_callNL_2 {Ψ : Int → MM → Prop} {x0 x1 : Value} (g : VOk Γ D Λ own cc nL l R) (hM : CL l y bytes maxL rm [x0, x1] D Λ M Ψ) (d : decode cc pc = .ok (.invokestatic idx, 3)) (hk : lkN own idx y bytes maxL (some .long) 2) (hr : rmOk rm maxL R κ = true) (hs : stOk st = true) (hz0 : rm.cells = 0 ∧ rm.slots = 0) (hq : pc + 3 = q) (kk : ∀ z M1, Ψ z M1 → V Γ D Λ M1 κ q lv (vl z :: st)) : V Γ D Λ M κ pc lv (x1 :: x0 :: st) := V_callNL0 (As := [x0, x1]) g hM d hk rfl hr hs hz0 hq kk
theorem V_callNL_3 {Ψ : Int → MM → Prop} {x0 x1 x2 : Value} (g : VOk Γ D Λ own cc nL l R) (hM : CL l y bytes maxL rm [x0, x1, x2] D Λ M Ψ) (d : decode cc pc = .ok (.invokestatic idx, 3)) (hk : lkN own idx y bytes maxL (some .long) 3) (hr : rmOk rm maxL R κ = true) (hs : stOk st = true) (hz0 : rm.cells = 0 ∧ rm.slots = 0) (hq : pc + 3 = q) (kk : ∀ z M1, Ψ z M1 → V Γ D Λ M1 κ q lv (vl z :: st)) : V Γ D Λ M κ pc lv (x2 :: x1 :: x0 :: st) := V_callNL0 (As := [x0, x1, x2]) g hM d hk rfl hr hs hz0 hq kk
theorem V_callNL_4 {Ψ : Int → MM → Prop} {x0 x1 x2 x3 : Value} (g : VOk Γ D Λ own cc nL l R) (hM : CL l y bytes maxL rm [x0, x1, x2, x3] D Λ M Ψ) (d : decode cc pc = .ok (.invokestatic idx, 3)) (hk : lkN own idx y bytes maxL (some .long) 4) (hr : rmOk rm maxL R κ = true) (hs : stOk st = true) (hz0 : rm.cells = 0 ∧ rm.slots = 0) (hq : pc + 3 = q) (kk : ∀ z M1, Ψ z M1 → V Γ D Λ M1 κ q lv (vl z :: st)) : V Γ D Λ M κ pc lv (x3 :: x2 :: x1 :: x0 :: st) := V_callNL0 (As := [x0, x1, x2, x3]) g hM d hk rfl hr hs hz0 hq kk
theorem V_callNL_5 {Ψ : Int → MM → Prop} {x0 x1 x2 x3 x4 : Value} (g : VOk Γ D Λ own cc nL l R) (hM : CL l y bytes maxL rm [x0, x1, x2, x3, x4] D Λ M Ψ) (d : decode cc pc = .ok (.invokestatic idx, 3)) (hk : lkN own idx y bytes maxL (some .long) 5) (hr : rmOk rm maxL R κ = true) (hs : stOk st = true) (hz0 : rm.cells = 0 ∧ rm.slots = 0) (hq : pc + 3 = q) (kk : ∀ z M1, Ψ z M1 → V Γ D Λ M1 κ q lv (vl z :: st)) : V Γ D Λ M κ pc lv (x4 :: x3 :: x2 :: x1 :: x0 :: st) := V_callNL0 (As := [x0, x1, x2, x3, x4]) g hM d hk rfl hr hs hz0 hq kk
theorem V_callNL_6 {Ψ : Int → MM → Prop} {x0 x1 x2 x3 x4 x5 : Value} (g : VOk Γ D Λ own cc nL l R) (hM : CL l y bytes maxL rm [x0, x1, x2, x3, x4, x5] D Λ M Ψ) (d : decode cc pc = .ok (.invokestatic idx, 3)) (hk : lkN own idx y bytes maxL (some .long) 6) (hr : rmOk rm maxL R κ = true) (hs : stOk st = true) (hz0 : rm.cells = 0 ∧ rm.slots = 0) (hq : pc + 3 = q) (kk : ∀ z M1, Ψ z M1 → V Γ D Λ M1 κ q lv (vl z :: st)) : V Γ D Λ M κ pc lv (x5 :: x4 :: x3 :: x2 :: x1 :: x0 :: st) := V_callNL0 (As := [x0, x1, x2, x3, x4, x5]) g hM d hk rfl hr hs hz0 hq kk
theorem V_callVL_0 {Ψ : Int → MM → Prop} {b ci : Nat} {fl : List (Option Nat)} {cT : vw_C} (g : VOk Γ D Λ own cc nL l R) (hM : CL l y bytes maxL rm (.ref b :: []) D Λ M Ψ) (d : decode cc pc = .ok (.invokevirtual idx, 3)) (hk : lkV own idx y bytes maxL (some .long) 0) (hΛ : Λ b = some (kO ci fl)) (hc : vwCl[ci]? = some cT) (hcy : cT.1 = y.cls) (hr : rmOk rm maxL R κ = true) (hs : stOk st = true) (hz0 : rm.cells = 0 ∧ rm.slots = 0) (hq : pc + 3 = q) (kk : ∀ z M1, Ψ z M1 → V Γ D Λ M1 κ q lv (vl z :: st)) : V Γ D Λ M κ pc lv (.ref b :: st) := V_callVL0 (As := []) g hM d hk rfl hΛ hc hcy hr hs hz0 hq kk
theorem V_callVL_1 {Ψ : Int → MM → Prop} {x0 : Value} {b ci : Nat} {fl : List (Option Nat)} {cT : vw_C} (g : VOk Γ D Λ own cc nL l R) (hM : CL l y bytes maxL rm (.ref b :: [x0]) D Λ M Ψ) (d : decode cc pc = .ok (.invokevirtual idx, 3)) (hk : lkV own idx y bytes maxL (some .long) 1) (hΛ : Λ b = some (kO ci fl)) (hc : vwCl[ci]? = some cT) (hcy : cT.1 = y.cls) (hr : rmOk rm maxL R κ = true) (hs : stOk st = true) (hz0 : rm.cells = 0 ∧ rm.slots = 0) (hq : pc + 3 = q) (kk : ∀ z M1, Ψ z M1 → V Γ D Λ M1 κ q lv (vl z :: st)) : V Γ D Λ M κ pc lv (x0 :: .ref b :: st) := V_callVL0 (As := [x0]) g hM d hk rfl hΛ hc hcy hr hs hz0 hq kk
theorem V_callVL_2 {Ψ : Int → MM → Prop} {x0 x1 : Value} {b ci : Nat} {fl : List (Option Nat)} {cT : vw_C} (g : VOk Γ D Λ own cc nL l R) (hM : CL l y bytes maxL rm (.ref b :: [x0, x1]) D Λ M Ψ) (d : decode cc pc = .ok (.invokevirtual idx, 3)) (hk : lkV own idx y bytes maxL (some .long) 2) (hΛ : Λ b = some (kO ci fl)) (hc : vwCl[ci]? = some cT) (hcy : cT.1 = y.cls) (hr : rmOk rm maxL R κ = true) (hs : stOk st = true) (hz0 : rm.cells = 0 ∧ rm.slots = 0) (hq : pc + 3 = q) (kk : ∀ z M1, Ψ z M1 → V Γ D Λ M1 κ q lv (vl z :: st)) : V Γ D Λ M κ pc lv (x1 :: x0 :: .ref b :: st) := V_callVL0 (As := [x0, x1]) g hM d hk rfl hΛ hc hcy hr hs hz0 hq kk
theorem V_callVL_3 {Ψ : Int → MM → Prop} {x0 x1 x2 : Value} {b ci : Nat} {fl : List (Option Nat)} {cT : vw_C} (g : VOk Γ D Λ own cc nL l R) (hM : CL l y bytes maxL rm (.ref b :: [x0, x1, x2]) D Λ M Ψ) (d : decode cc pc = .ok (.invokevirtual idx, 3)) (hk : lkV own idx y bytes maxL (some .long) 3) (hΛ : Λ b = some (kO ci fl)) (hc : vwCl[ci]? = some cT) (hcy : cT.1 = y.cls) (hr : rmOk rm maxL R κ = true) (hs : stOk st = true) (hz0 : rm.cells = 0 ∧ rm.slots = 0) (hq : pc + 3 = q) (kk : ∀ z M1, Ψ z M1 → V Γ D Λ M1 κ q lv (vl z :: st)) : V Γ D Λ M κ pc lv (x2 :: x1 :: x0 :: .ref b :: st) := V_callVL0 (As := [x0, x1, x2]) g hM d hk rfl hΛ hc hcy hr hs hz0 hq kk
theorem V_callVL_4 {Ψ : Int → MM → Prop} {x0 x1 x2 x3 : Value} {b ci : Nat} {fl : List (Option Nat)} {cT : vw_C} (g : VOk Γ D Λ own cc nL l R) (hM : CL l y bytes maxL rm (.ref b :: [x0, x1, x2, x3]) D Λ M Ψ) (d : decode cc pc = .ok (.invokevirtual idx, 3)) (hk : lkV own idx y bytes maxL (some .long) 4) (hΛ : Λ b = some (kO ci fl)) (hc : vwCl[ci]? = some cT) (hcy : cT.1 = y.cls) (hr : rmOk rm maxL R κ = true) (hs : stOk st = true) (hz0 : rm.cells = 0 ∧ rm.slots = 0) (hq : pc + 3 = q) (kk : ∀ z M1, Ψ z M1 → V Γ D Λ M1 κ q lv (vl z :: st)) : V Γ D Λ M κ pc lv (x3 :: x2 :: x1 :: x0 :: .ref b :: st) := V_callVL0 (As := [x0, x1, x2, x3]) g hM d hk rfl hΛ hc hcy hr hs hz0 hq kk
theorem V_callVL_5 {Ψ : Int → MM → Prop} {x0 x1 x2 x3 x4 : Value} {b ci : Nat} {fl : List (Option Nat)} {cT : vw_C} (g : VOk Γ D Λ own cc nL l R) (hM : CL l y bytes maxL rm (.ref b :: [x0, x1, x2, x3, x4]) D Λ M Ψ) (d : decode cc pc = .ok (.invokevirtual idx, 3)) (hk : lkV own idx y bytes maxL (some .long) 5) (hΛ : Λ b = some (kO ci fl)) (hc : vwCl[ci]? = some cT) (hcy : cT.1 = y.cls) (hr : rmOk rm maxL R κ = true) (hs : stOk st = true) (hz0 : rm.cells = 0 ∧ rm.slots = 0) (hq : pc + 3 = q) (kk : ∀ z M1, Ψ z M1 → V Γ D Λ M1 κ q lv (vl z :: st)) : V Γ D Λ M κ pc lv (x4 :: x3 :: x2 :: x1 :: x0 :: .ref b :: st) := V_callVL0 (As := [x0, x1, x2, x3, x4]) g hM d hk rfl hΛ hc hcy hr hs hz0 hq kk
theorem V_callVL_6 {Ψ : Int → MM → Prop} {x0 x1 x2 x3 x4 x5 : Value} {b ci : Nat} {fl : List (Option Nat)} {cT : vw_C} (g : VOk Γ D Λ own cc nL l R) (hM : CL l y bytes maxL rm (.ref b :: [x0, x1, x2, x3, x4, x5]) D Λ M Ψ) (d : decode cc pc = .ok (.invokevirtual idx, 3)) (hk : lkV own idx y bytes maxL (some .long) 6) (hΛ : Λ b = some (kO ci fl)) (hc : vwCl[ci]? = some cT) (hcy : cT.1 = y.cls) (hr : rmOk rm maxL R κ = true) (hs : stOk st = true) (hz0 : rm.cells = 0 ∧ rm.slots = 0) (hq : pc + 3 = q) (kk : ∀ z M1, Ψ z M1 → V Γ D Λ M1 κ q lv (vl z :: st)) : V Γ D Λ M κ pc lv (x5 :: x4 :: x3 :: x2 :: x1 :: x0 :: .ref b :: st) := V_callVL0 (As := [x0, x1, x2, x3, x4, x5]) g hM d hk rfl hΛ hc hcy hr hs hz0 hq kk
theorem V_callSV0 {Ψ : MM → Prop} (g : VOk Γ D Λ own cc nL l R) (hM : CV l y bytes maxL rm As D Λ M Ψ) (d : decode cc pc = .ok (.invokestatic idx, 3)) (hk : lkS own idx y bytes maxL none n) (hn : As.length = n) (hr : rmOk rm maxL R κ = true) (hs : stOk st = true) (hz0 : rm.cells = 0 ∧ rm.slots = 0) (hq : pc + 3 = q) (kk : ∀ M1, Ψ M1 → V Γ D Λ M1 κ q lv st) : V Γ D Λ M κ pc lv (As.reverse ++ st) := by
  subst hq
  intro H locs ls h1 h2 h3
  obtain ⟨r1, r2⟩ := rmOk_sp hr
  have r3 : κ.1 + 0 ≤ R.cells ∧ κ.2 + 0 ≤ R.slots := by rw [hz0.1, hz0.2] at r2; exact r2
  have h8 : gl Γ = l := g.gl
  have h9 : gR Γ = R := g.room
  refine va_callv (mc := 0) (ms := 0) (a := As.toArray) (free := Aw Λ H.size) (A1 := Aw Λ H.size) (va_runS (As := As) (rest := st) ⟨g.exec, g.code, g.ml, g.hown, g.hts⟩ (h8 ▸ hM H.size) (va_cwS n g.hts (ws_good (wx := [Cond.methodLink own idx y, .static y, .initialized y.cls]) hk.1) rfl hz0.1 hz0.2 (yOk_sp hk.2) (by rw [h9]; exact r1)) ⟨Pw.blind, fun U hU hW => Pw.at g h1 h2 hU hW⟩ rfl hn (lvH.size g h3) rfl (stOk_sp hs) d (by rw [h9]; exact r3)) h2 (fun q _ h => aw_sub h2.1 q h) (aw_sub h2.1) (fun u t H1 locs1 ht hvm hp hB hz hk hS => ?_)
  exact kk u hp H1 locs1 ls (by rw [← ht]; exact hB) hS h3
theorem V_callNV0 {Ψ : MM → Prop} (g : VOk Γ D Λ own cc nL l R) (hM : CV l y bytes maxL rm As D Λ M Ψ) (d : decode cc pc = .ok (.invokestatic idx, 3)) (hk : lkN own idx y bytes maxL none n) (hn : As.length = n) (hr : rmOk rm maxL R κ = true) (hs : stOk st = true) (hz0 : rm.cells = 0 ∧ rm.slots = 0) (hq : pc + 3 = q) (kk : ∀ M1, Ψ M1 → V Γ D Λ M1 κ q lv st) : V Γ D Λ M κ pc lv (As.reverse ++ st) := by
  subst hq
  intro H locs ls h1 h2 h3
  obtain ⟨r1, r2⟩ := rmOk_sp hr
  have r3 : κ.1 + 0 ≤ R.cells ∧ κ.2 + 0 ≤ R.slots := by rw [hz0.1, hz0.2] at r2; exact r2
  have h8 : gl Γ = l := g.gl
  have h9 : gR Γ = R := g.room
  obtain ⟨⟨host, k0⟩, k1, k2⟩ := hk
  refine va_callv (mc := 0) (ms := 0) (a := As.toArray) (free := Aw Λ H.size) (A1 := Aw Λ H.size) (va_runSN (host := host) (As := As) (rest := st) ⟨g.exec, g.code, g.ml, g.hown, g.hts⟩ (h8 ▸ hM H.size) ⟨va_cnB n g.hts (fun w hw => ws_good (wx := [Cond.static y, .initialized y.cls]) k1 w (List.mem_append_right _ hw)) rfl hz0.1 hz0.2 (g.hst.1 _ k0) (g.hts _ (k1 _ (by simp))) (yOk_sp k2) (by rw [h9]; exact r1), g.hts _ (k1 _ (by simp)), trivial⟩ ⟨Pw.blind, fun U hU hW => Pw.at g h1 h2 hU hW⟩ rfl hn (lvH.size g h3) rfl (stOk_sp hs) d (by rw [h9]; exact r3)) h2 (fun q _ h => aw_sub h2.1 q h) (aw_sub h2.1) (fun u t H1 locs1 ht hvm hp hB hz hk hS => ?_)
  exact kk u hp H1 locs1 ls (by rw [← ht]; exact hB) hS h3
theorem V_callVV0 {Ψ : MM → Prop} {b ci : Nat} {fl : List (Option Nat)} {cT : vw_C} (g : VOk Γ D Λ own cc nL l R) (hM : CV l y bytes maxL rm (.ref b :: As) D Λ M Ψ) (d : decode cc pc = .ok (.invokevirtual idx, 3)) (hk : lkV own idx y bytes maxL none n) (hn : As.length = n) (hΛ : Λ b = some (kO ci fl)) (hc : vwCl[ci]? = some cT) (hcy : cT.1 = y.cls) (hr : rmOk rm maxL R κ = true) (hs : stOk st = true) (hz0 : rm.cells = 0 ∧ rm.slots = 0) (hq : pc + 3 = q) (kk : ∀ M1, Ψ M1 → V Γ D Λ M1 κ q lv st) : V Γ D Λ M κ pc lv (As.reverse ++ .ref b :: st) := by
  subst hq
  intro H locs ls h1 h2 h3
  obtain ⟨r1, r2⟩ := rmOk_sp hr
  have r3 : κ.1 + 0 ≤ R.cells ∧ κ.2 + 0 ≤ R.slots := by rw [hz0.1, hz0.2] at r2; exact r2
  have h8 : gl Γ = l := g.gl
  have h9 : gR Γ = R := g.room
  have hrc := va_recv g.hK (h1.one hΛ) hc (q0 := 0) rfl
  rw [hcy] at hrc
  refine va_callv (mc := 0) (ms := 0) (a := (Value.ref b :: As).toArray) (free := Aw Λ H.size) (A1 := Aw Λ H.size) (va_runV (C := y.cls) (As := As) (rest := st) ⟨g.exec, g.code, g.ml, g.hown, g.hts⟩ (h8 ▸ hM H.size) (cwV n g.hts (ws_good (wx := [Cond.methodLink own idx y, .instanceMethod y, .selects y.cls y y, .initialized y.cls]) hk.1) rfl hz0.1 hz0.2 ⟨rfl, yOk_sp hk.2⟩ (by rw [h9]; exact r1)) ⟨Pw.blind, hrc, fun U hU hW => Pw.at g h1 h2 hU hW⟩ rfl hn (lvH.size g h3) rfl (stOk_sp hs) d (by rw [h9]; exact r3)) h2 (fun q _ h => aw_sub h2.1 q h) (aw_sub h2.1) (fun u t H1 locs1 ht hvm hp hB hz hk hS => ?_)
  exact kk u hp H1 locs1 ls (by rw [← ht]; exact hB) hS h3
theorem V_callSV_0 {Ψ : MM → Prop} (g : VOk Γ D Λ own cc nL l R) (hM : CV l y bytes maxL rm [] D Λ M Ψ) (d : decode cc pc = .ok (.invokestatic idx, 3)) (hk : lkS own idx y bytes maxL none 0) (hr : rmOk rm maxL R κ = true) (hs : stOk st = true) (hz0 : rm.cells = 0 ∧ rm.slots = 0) (hq : pc + 3 = q) (kk : ∀ M1, Ψ M1 → V Γ D Λ M1 κ q lv st) : V Γ D Λ M κ pc lv (st) := V_callSV0 (As := []) g hM d hk rfl hr hs hz0 hq kk
theorem V_callSV_1 {Ψ : MM → Prop} {x0 : Value} (g : VOk Γ D Λ own cc nL l R) (hM : CV l y bytes maxL rm [x0] D Λ M Ψ) (d : decode cc pc = .ok (.invokestatic idx, 3)) (hk : lkS own idx y bytes maxL none 1) (hr : rmOk rm maxL R κ = true) (hs : stOk st = true) (hz0 : rm.cells = 0 ∧ rm.slots = 0) (hq : pc + 3 = q) (kk : ∀ M1, Ψ M1 → V Γ D Λ M1 κ q lv st) : V Γ D Λ M κ pc lv (x0 :: st) := V_callSV0 (As := [x0]) g hM d hk rfl hr hs hz0 hq kk
theorem V_callSV_2 {Ψ : MM → Prop} {x0 x1 : Value} (g : VOk Γ D Λ own cc nL l R) (hM : CV l y bytes maxL rm [x0, x1] D Λ M Ψ) (d : decode cc pc = .ok (.invokestatic idx, 3)) (hk : lkS own idx y bytes maxL none 2) (hr : rmOk rm maxL R κ = true) (hs : stOk st = true) (hz0 : rm.cells = 0 ∧ rm.slots = 0) (hq : pc + 3 = q) (kk : ∀ M1, Ψ M1 → V Γ D Λ M1 κ q lv st) : V Γ D Λ M κ pc lv (x1 :: x0 :: st) := V_callSV0 (As := [x0, x1]) g hM d hk rfl hr hs hz0 hq kk
theorem V_callSV_3 {Ψ : MM → Prop} {x0 x1 x2 : Value} (g : VOk Γ D Λ own cc nL l R) (hM : CV l y bytes maxL rm [x0, x1, x2] D Λ M Ψ) (d : decode cc pc = .ok (.invokestatic idx, 3)) (hk : lkS own idx y bytes maxL none 3) (hr : rmOk rm maxL R κ = true) (hs : stOk st = true) (hz0 : rm.cells = 0 ∧ rm.slots = 0) (hq : pc + 3 = q) (kk : ∀ M1, Ψ M1 → V Γ D Λ M1 κ q lv st) : V Γ D Λ M κ pc lv (x2 :: x1 :: x0 :: st) := V_callSV0 (As := [x0, x1, x2]) g hM d hk rfl hr hs hz0 hq kk
theorem V_callSV_4 {Ψ : MM → Prop} {x0 x1 x2 x3 : Value} (g : VOk Γ D Λ own cc nL l R) (hM : CV l y bytes maxL rm [x0, x1, x2, x3] D Λ M Ψ) (d : decode cc pc = .ok (.invokestatic idx, 3)) (hk : lkS own idx y bytes maxL none 4) (hr : rmOk rm maxL R κ = true) (hs : stOk st = true) (hz0 : rm.cells = 0 ∧ rm.slots = 0) (hq : pc + 3 = q) (kk : ∀ M1, Ψ M1 → V Γ D Λ M1 κ q lv st) : V Γ D Λ M κ pc lv (x3 :: x2 :: x1 :: x0 :: st) := V_callSV0 (As := [x0, x1, x2, x3]) g hM d hk rfl hr hs hz0 hq kk
theorem V_callSV_5 {Ψ : MM → Prop} {x0 x1 x2 x3 x4 : Value} (g : VOk Γ D Λ own cc nL l R) (hM : CV l y bytes maxL rm [x0, x1, x2, x3, x4] D Λ M Ψ) (d : decode cc pc = .ok (.invokestatic idx, 3)) (hk : lkS own idx y bytes maxL none 5) (hr : rmOk rm maxL R κ = true) (hs : stOk st = true) (hz0 : rm.cells = 0 ∧ rm.slots = 0) (hq : pc + 3 = q) (kk : ∀ M1, Ψ M1 → V Γ D Λ M1 κ q lv st) : V Γ D Λ M κ pc lv (x4 :: x3 :: x2 :: x1 :: x0 :: st) := V_callSV0 (As := [x0, x1, x2, x3, x4]) g hM d hk rfl hr hs hz0 hq kk
theorem V_callSV_6 {Ψ : MM → Prop} {x0 x1 x2 x3 x4 x5 : Value} (g : VOk Γ D Λ own cc nL l R) (hM : CV l y bytes maxL rm [x0, x1, x2, x3, x4, x5] D Λ M Ψ) (d : decode cc pc = .ok (.invokestatic idx, 3)) (hk : lkS own idx y bytes maxL none 6) (hr : rmOk rm maxL R κ = true) (hs : stOk st = true) (hz0 : rm.cells = 0 ∧ rm.slots = 0) (hq : pc + 3 = q) (kk : ∀ M1, Ψ M1 → V Γ D Λ M1 κ q lv st) : V Γ D Λ M κ pc lv (x5 :: x4 :: x3 :: x2 :: x1 :: x0 :: st) := V_callSV0 (As := [x0, x1, x2, x3, x4, x5]) g hM d hk rfl hr hs hz0 hq kk
theorem V_callNV_0 {Ψ : MM → Prop} (g : VOk Γ D Λ own cc nL l R) (hM : CV l y bytes maxL rm [] D Λ M Ψ) (d : decode cc pc = .ok (.invokestatic idx, 3)) (hk : lkN own idx y bytes maxL none 0) (hr : rmOk rm maxL R κ = true) (hs : stOk st = true) (hz0 : rm.cells = 0 ∧ rm.slots = 0) (hq : pc + 3 = q) (kk : ∀ M1, Ψ M1 → V Γ D Λ M1 κ q lv st) : V Γ D Λ M κ pc lv (st) := V_callNV0 (As := []) g hM d hk rfl hr hs hz0 hq kk
theorem V_callNV_1 {Ψ : MM → Prop} {x0 : Value} (g : VOk Γ D Λ own cc nL l R) (hM : CV l y bytes maxL rm [x0] D Λ M Ψ) (d : decode cc pc = .ok (.invokestatic idx, 3)) (hk : lkN own idx y bytes maxL none 1) (hr : rmOk rm maxL R κ = true) (hs : stOk st = true) (hz0 : rm.cells = 0 ∧ rm.slots = 0) (hq : pc + 3 = q) (kk : ∀ M1, Ψ M1 → V Γ D Λ M1 κ q lv st) : V Γ D Λ M κ pc lv (x0 :: st) := V_callNV0 (As := [x0]) g hM d hk rfl hr hs hz0 hq kk
theorem V_callNV_2 {Ψ : MM → Prop} {x0 x1 : Value} (g : VOk Γ D Λ own cc nL l R) (hM : CV l y bytes maxL rm [x0, x1] D Λ M Ψ) (d : decode cc pc = .ok (.invokestatic idx, 3)) (hk : lkN own idx y bytes maxL none 2) (hr : rmOk rm maxL R κ = true) (hs : stOk st = true) (hz0 : rm.cells = 0 ∧ rm.slots = 0) (hq : pc + 3 = q) (kk : ∀ M1, Ψ M1 → V Γ D Λ M1 κ q lv st) : V Γ D Λ M κ pc lv (x1 :: x0 :: st) := V_callNV0 (As := [x0, x1]) g hM d hk rfl hr hs hz0 hq kk
theorem V_callNV_3 {Ψ : MM → Prop} {x0 x1 x2 : Value} (g : VOk Γ D Λ own cc nL l R) (hM : CV l y bytes maxL rm [x0, x1, x2] D Λ M Ψ) (d : decode cc pc = .ok (.invokestatic idx, 3)) (hk : lkN own idx y bytes maxL none 3) (hr : rmOk rm maxL R κ = true) (hs : stOk st = true) (hz0 : rm.cells = 0 ∧ rm.slots = 0) (hq : pc + 3 = q) (kk : ∀ M1, Ψ M1 → V Γ D Λ M1 κ q lv st) : V Γ D Λ M κ pc lv (x2 :: x1 :: x0 :: st) := V_callNV0 (As := [x0, x1, x2]) g hM d hk rfl hr hs hz0 hq kk
theorem V_callNV_4 {Ψ : MM → Prop} {x0 x1 x2 x3 : Value} (g : VOk Γ D Λ own cc nL l R) (hM : CV l y bytes maxL rm [x0, x1, x2, x3] D Λ M Ψ) (d : decode cc pc = .ok (.invokestatic idx, 3)) (hk : lkN own idx y bytes maxL none 4) (hr : rmOk rm maxL R κ = true) (hs : stOk st = true) (hz0 : rm.cells = 0 ∧ rm.slots = 0) (hq : pc + 3 = q) (kk : ∀ M1, Ψ M1 → V Γ D Λ M1 κ q lv st) : V Γ D Λ M κ pc lv (x3 :: x2 :: x1 :: x0 :: st) := V_callNV0 (As := [x0, x1, x2, x3]) g hM d hk rfl hr hs hz0 hq kk
theorem V_callNV_5 {Ψ : MM → Prop} {x0 x1 x2 x3 x4 : Value} (g : VOk Γ D Λ own cc nL l R) (hM : CV l y bytes maxL rm [x0, x1, x2, x3, x4] D Λ M Ψ) (d : decode cc pc = .ok (.invokestatic idx, 3)) (hk : lkN own idx y bytes maxL none 5) (hr : rmOk rm maxL R κ = true) (hs : stOk st = true) (hz0 : rm.cells = 0 ∧ rm.slots = 0) (hq : pc + 3 = q) (kk : ∀ M1, Ψ M1 → V Γ D Λ M1 κ q lv st) : V Γ D Λ M κ pc lv (x4 :: x3 :: x2 :: x1 :: x0 :: st) := V_callNV0 (As := [x0, x1, x2, x3, x4]) g hM d hk rfl hr hs hz0 hq kk
theorem V_callNV_6 {Ψ : MM → Prop} {x0 x1 x2 x3 x4 x5 : Value} (g : VOk Γ D Λ own cc nL l R) (hM : CV l y bytes maxL rm [x0, x1, x2, x3, x4, x5] D Λ M Ψ) (d : decode cc pc = .ok (.invokestatic idx, 3)) (hk : lkN own idx y bytes maxL none 6) (hr : rmOk rm maxL R κ = true) (hs : stOk st = true) (hz0 : rm.cells = 0 ∧ rm.slots = 0) (hq : pc + 3 = q) (kk : ∀ M1, Ψ M1 → V Γ D Λ M1 κ q lv st) : V Γ D Λ M κ pc lv (x5 :: x4 :: x3 :: x2 :: x1 :: x0 :: st) := V_callNV0 (As := [x0, x1, x2, x3, x4, x5]) g hM d hk rfl hr hs hz0 hq kk
theorem V_callVV_0 {Ψ : MM → Prop} {b ci : Nat} {fl : List (Option Nat)} {cT : vw_C} (g : VOk Γ D Λ own cc nL l R) (hM : CV l y bytes maxL rm (.ref b :: []) D Λ M Ψ) (d : decode cc pc = .ok (.invokevirtual idx, 3)) (hk : lkV own idx y bytes maxL none 0) (hΛ : Λ b = some (kO ci fl)) (hc : vwCl[ci]? = some cT) (hcy : cT.1 = y.cls) (hr : rmOk rm maxL R κ = true) (hs : stOk st = true) (hz0 : rm.cells = 0 ∧ rm.slots = 0) (hq : pc + 3 = q) (kk : ∀ M1, Ψ M1 → V Γ D Λ M1 κ q lv st) : V Γ D Λ M κ pc lv (.ref b :: st) := V_callVV0 (As := []) g hM d hk rfl hΛ hc hcy hr hs hz0 hq kk
theorem V_callVV_1 {Ψ : MM → Prop} {x0 : Value} {b ci : Nat} {fl : List (Option Nat)} {cT : vw_C} (g : VOk Γ D Λ own cc nL l R) (hM : CV l y bytes maxL rm (.ref b :: [x0]) D Λ M Ψ) (d : decode cc pc = .ok (.invokevirtual idx, 3)) (hk : lkV own idx y bytes maxL none 1) (hΛ : Λ b = some (kO ci fl)) (hc : vwCl[ci]? = some cT) (hcy : cT.1 = y.cls) (hr : rmOk rm maxL R κ = true) (hs : stOk st = true) (hz0 : rm.cells = 0 ∧ rm.slots = 0) (hq : pc + 3 = q) (kk : ∀ M1, Ψ M1 → V Γ D Λ M1 κ q lv st) : V Γ D Λ M κ pc lv (x0 :: .ref b :: st) := V_callVV0 (As := [x0]) g hM d hk rfl hΛ hc hcy hr hs hz0 hq kk
theorem V_callVV_2 {Ψ : MM → Prop} {x0 x1 : Value} {b ci : Nat} {fl : List (Option Nat)} {cT : vw_C} (g : VOk Γ D Λ own cc nL l R) (hM : CV l y bytes maxL rm (.ref b :: [x0, x1]) D Λ M Ψ) (d : decode cc pc = .ok (.invokevirtual idx, 3)) (hk : lkV own idx y bytes maxL none 2) (hΛ : Λ b = some (kO ci fl)) (hc : vwCl[ci]? = some cT) (hcy : cT.1 = y.cls) (hr : rmOk rm maxL R κ = true) (hs : stOk st = true) (hz0 : rm.cells = 0 ∧ rm.slots = 0) (hq : pc + 3 = q) (kk : ∀ M1, Ψ M1 → V Γ D Λ M1 κ q lv st) : V Γ D Λ M κ pc lv (x1 :: x0 :: .ref b :: st) := V_callVV0 (As := [x0, x1]) g hM d hk rfl hΛ hc hcy hr hs hz0 hq kk
theorem V_callVV_3 {Ψ : MM → Prop} {x0 x1 x2 : Value} {b ci : Nat} {fl : List (Option Nat)} {cT : vw_C} (g : VOk Γ D Λ own cc nL l R) (hM : CV l y bytes maxL rm (.ref b :: [x0, x1, x2]) D Λ M Ψ) (d : decode cc pc = .ok (.invokevirtual idx, 3)) (hk : lkV own idx y bytes maxL none 3) (hΛ : Λ b = some (kO ci fl)) (hc : vwCl[ci]? = some cT) (hcy : cT.1 = y.cls) (hr : rmOk rm maxL R κ = true) (hs : stOk st = true) (hz0 : rm.cells = 0 ∧ rm.slots = 0) (hq : pc + 3 = q) (kk : ∀ M1, Ψ M1 → V Γ D Λ M1 κ q lv st) : V Γ D Λ M κ pc lv (x2 :: x1 :: x0 :: .ref b :: st) := V_callVV0 (As := [x0, x1, x2]) g hM d hk rfl hΛ hc hcy hr hs hz0 hq kk
theorem V_callVV_4 {Ψ : MM → Prop} {x0 x1 x2 x3 : Value} {b ci : Nat} {fl : List (Option Nat)} {cT : vw_C} (g : VOk Γ D Λ own cc nL l R) (hM : CV l y bytes maxL rm (.ref b :: [x0, x1, x2, x3]) D Λ M Ψ) (d : decode cc pc = .ok (.invokevirtual idx, 3)) (hk : lkV own idx y bytes maxL none 4) (hΛ : Λ b = some (kO ci fl)) (hc : vwCl[ci]? = some cT) (hcy : cT.1 = y.cls) (hr : rmOk rm maxL R κ = true) (hs : stOk st = true) (hz0 : rm.cells = 0 ∧ rm.slots = 0) (hq : pc + 3 = q) (kk : ∀ M1, Ψ M1 → V Γ D Λ M1 κ q lv st) : V Γ D Λ M κ pc lv (x3 :: x2 :: x1 :: x0 :: .ref b :: st) := V_callVV0 (As := [x0, x1, x2, x3]) g hM d hk rfl hΛ hc hcy hr hs hz0 hq kk
theorem V_callVV_5 {Ψ : MM → Prop} {x0 x1 x2 x3 x4 : Value} {b ci : Nat} {fl : List (Option Nat)} {cT : vw_C} (g : VOk Γ D Λ own cc nL l R) (hM : CV l y bytes maxL rm (.ref b :: [x0, x1, x2, x3, x4]) D Λ M Ψ) (d : decode cc pc = .ok (.invokevirtual idx, 3)) (hk : lkV own idx y bytes maxL none 5) (hΛ : Λ b = some (kO ci fl)) (hc : vwCl[ci]? = some cT) (hcy : cT.1 = y.cls) (hr : rmOk rm maxL R κ = true) (hs : stOk st = true) (hz0 : rm.cells = 0 ∧ rm.slots = 0) (hq : pc + 3 = q) (kk : ∀ M1, Ψ M1 → V Γ D Λ M1 κ q lv st) : V Γ D Λ M κ pc lv (x4 :: x3 :: x2 :: x1 :: x0 :: .ref b :: st) := V_callVV0 (As := [x0, x1, x2, x3, x4]) g hM d hk rfl hΛ hc hcy hr hs hz0 hq kk
theorem V_callVV_6 {Ψ : MM → Prop} {x0 x1 x2 x3 x4 x5 : Value} {b ci : Nat} {fl : List (Option Nat)} {cT : vw_C} (g : VOk Γ D Λ own cc nL l R) (hM : CV l y bytes maxL rm (.ref b :: [x0, x1, x2, x3, x4, x5]) D Λ M Ψ) (d : decode cc pc = .ok (.invokevirtual idx, 3)) (hk : lkV own idx y bytes maxL none 6) (hΛ : Λ b = some (kO ci fl)) (hc : vwCl[ci]? = some cT) (hcy : cT.1 = y.cls) (hr : rmOk rm maxL R κ = true) (hs : stOk st = true) (hz0 : rm.cells = 0 ∧ rm.slots = 0) (hq : pc + 3 = q) (kk : ∀ M1, Ψ M1 → V Γ D Λ M1 κ q lv st) : V Γ D Λ M κ pc lv (x5 :: x4 :: x3 :: x2 :: x1 :: x0 :: .ref b :: st) := V_callVV0 (As := [x0, x1, x2, x3, x4, x5]) g hM d hk rfl hΛ hc hcy hr hs hz0 hq kk
theorem V_callSA0 {rt : FieldType} {Ψ : Nat → MM → Prop} (g : VOk Γ D Λ own cc nL l R) (hM : CA l y bytes maxL rt rm As D Λ M Ψ) (d : decode cc pc = .ok (.invokestatic idx, 3)) (hk : lkS own idx y bytes maxL (some rt) n) (hn : As.length = n) (hr : rmOk rm maxL R κ = true) (hs : stOk st = true) (hz0 : rm.cells = 0 ∧ rm.slots = 0) (hq : pc + 3 = q) (kk : ∀ a M1, Ψ a M1 → V Γ D Λ M1 κ q lv (.ref a :: st)) : V Γ D Λ M κ pc lv (As.reverse ++ st) := by
  subst hq
  intro H locs ls h1 h2 h3
  obtain ⟨r1, r2⟩ := rmOk_sp hr
  have r3 : κ.1 + 0 ≤ R.cells ∧ κ.2 + 0 ≤ R.slots := by rw [hz0.1, hz0.2] at r2; exact r2
  have h8 : gl Γ = l := g.gl
  have h9 : gR Γ = R := g.room
  refine va_callr (mc := 0) (ms := 0) (a := As.toArray) (free := Aw Λ H.size) (A1 := Aw Λ H.size) (va_runS (As := As) (rest := st) ⟨g.exec, g.code, g.ml, g.hown, g.hts⟩ (h8 ▸ hM H.size) (va_cwS n g.hts (ws_good (wx := [Cond.methodLink own idx y, .static y, .initialized y.cls]) hk.1) rfl hz0.1 hz0.2 (yOk_sp hk.2) (by rw [h9]; exact r1)) ⟨Pw.blind, fun U hU hW => Pw.at g h1 h2 hU hW⟩ rfl hn (lvH.size g h3) rfl (stOk_sp hs) d (by rw [h9]; exact r3)) h2 (fun q _ h => aw_sub h2.1 q h) (aw_sub h2.1) (fun u ra t H1 locs1 ht hvm hp hB hz hk hS => ?_)
  obtain ⟨hB1, hB2⟩ := hB
  subst hB1
  exact kk u.2 u.1 hp H1 locs1 ls (by rw [← ht]; exact hB2) hS h3
theorem V_callNA0 {rt : FieldType} {Ψ : Nat → MM → Prop} (g : VOk Γ D Λ own cc nL l R) (hM : CA l y bytes maxL rt rm As D Λ M Ψ) (d : decode cc pc = .ok (.invokestatic idx, 3)) (hk : lkN own idx y bytes maxL (some rt) n) (hn : As.length = n) (hr : rmOk rm maxL R κ = true) (hs : stOk st = true) (hz0 : rm.cells = 0 ∧ rm.slots = 0) (hq : pc + 3 = q) (kk : ∀ a M1, Ψ a M1 → V Γ D Λ M1 κ q lv (.ref a :: st)) : V Γ D Λ M κ pc lv (As.reverse ++ st) := by
  subst hq
  intro H locs ls h1 h2 h3
  obtain ⟨r1, r2⟩ := rmOk_sp hr
  have r3 : κ.1 + 0 ≤ R.cells ∧ κ.2 + 0 ≤ R.slots := by rw [hz0.1, hz0.2] at r2; exact r2
  have h8 : gl Γ = l := g.gl
  have h9 : gR Γ = R := g.room
  obtain ⟨⟨host, k0⟩, k1, k2⟩ := hk
  refine va_callr (mc := 0) (ms := 0) (a := As.toArray) (free := Aw Λ H.size) (A1 := Aw Λ H.size) (va_runSN (host := host) (As := As) (rest := st) ⟨g.exec, g.code, g.ml, g.hown, g.hts⟩ (h8 ▸ hM H.size) ⟨va_cnB n g.hts (fun w hw => ws_good (wx := [Cond.static y, .initialized y.cls]) k1 w (List.mem_append_right _ hw)) rfl hz0.1 hz0.2 (g.hst.1 _ k0) (g.hts _ (k1 _ (by simp))) (yOk_sp k2) (by rw [h9]; exact r1), g.hts _ (k1 _ (by simp)), trivial⟩ ⟨Pw.blind, fun U hU hW => Pw.at g h1 h2 hU hW⟩ rfl hn (lvH.size g h3) rfl (stOk_sp hs) d (by rw [h9]; exact r3)) h2 (fun q _ h => aw_sub h2.1 q h) (aw_sub h2.1) (fun u ra t H1 locs1 ht hvm hp hB hz hk hS => ?_)
  obtain ⟨hB1, hB2⟩ := hB
  subst hB1
  exact kk u.2 u.1 hp H1 locs1 ls (by rw [← ht]; exact hB2) hS h3
theorem V_callVA0 {rt : FieldType} {Ψ : Nat → MM → Prop} {b ci : Nat} {fl : List (Option Nat)} {cT : vw_C} (g : VOk Γ D Λ own cc nL l R) (hM : CA l y bytes maxL rt rm (.ref b :: As) D Λ M Ψ) (d : decode cc pc = .ok (.invokevirtual idx, 3)) (hk : lkV own idx y bytes maxL (some rt) n) (hn : As.length = n) (hΛ : Λ b = some (kO ci fl)) (hc : vwCl[ci]? = some cT) (hcy : cT.1 = y.cls) (hr : rmOk rm maxL R κ = true) (hs : stOk st = true) (hz0 : rm.cells = 0 ∧ rm.slots = 0) (hq : pc + 3 = q) (kk : ∀ a M1, Ψ a M1 → V Γ D Λ M1 κ q lv (.ref a :: st)) : V Γ D Λ M κ pc lv (As.reverse ++ .ref b :: st) := by
  subst hq
  intro H locs ls h1 h2 h3
  obtain ⟨r1, r2⟩ := rmOk_sp hr
  have r3 : κ.1 + 0 ≤ R.cells ∧ κ.2 + 0 ≤ R.slots := by rw [hz0.1, hz0.2] at r2; exact r2
  have h8 : gl Γ = l := g.gl
  have h9 : gR Γ = R := g.room
  have hrc := va_recv g.hK (h1.one hΛ) hc (q0 := 0) rfl
  rw [hcy] at hrc
  refine va_callr (mc := 0) (ms := 0) (a := (Value.ref b :: As).toArray) (free := Aw Λ H.size) (A1 := Aw Λ H.size) (va_runV (C := y.cls) (As := As) (rest := st) ⟨g.exec, g.code, g.ml, g.hown, g.hts⟩ (h8 ▸ hM H.size) (cwV n g.hts (ws_good (wx := [Cond.methodLink own idx y, .instanceMethod y, .selects y.cls y y, .initialized y.cls]) hk.1) rfl hz0.1 hz0.2 ⟨rfl, yOk_sp hk.2⟩ (by rw [h9]; exact r1)) ⟨Pw.blind, hrc, fun U hU hW => Pw.at g h1 h2 hU hW⟩ rfl hn (lvH.size g h3) rfl (stOk_sp hs) d (by rw [h9]; exact r3)) h2 (fun q _ h => aw_sub h2.1 q h) (aw_sub h2.1) (fun u ra t H1 locs1 ht hvm hp hB hz hk hS => ?_)
  obtain ⟨hB1, hB2⟩ := hB
  subst hB1
  exact kk u.2 u.1 hp H1 locs1 ls (by rw [← ht]; exact hB2) hS h3
theorem V_callSA_0 {rt : FieldType} {Ψ : Nat → MM → Prop} (g : VOk Γ D Λ own cc nL l R) (hM : CA l y bytes maxL rt rm [] D Λ M Ψ) (d : decode cc pc = .ok (.invokestatic idx, 3)) (hk : lkS own idx y bytes maxL (some rt) 0) (hr : rmOk rm maxL R κ = true) (hs : stOk st = true) (hz0 : rm.cells = 0 ∧ rm.slots = 0) (hq : pc + 3 = q) (kk : ∀ a M1, Ψ a M1 → V Γ D Λ M1 κ q lv (.ref a :: st)) : V Γ D Λ M κ pc lv (st) := V_callSA0 (As := []) g hM d hk rfl hr hs hz0 hq kk
theorem V_callSA_1 {rt : FieldType} {Ψ : Nat → MM → Prop} {x0 : Value} (g : VOk Γ D Λ own cc nL l R) (hM : CA l y bytes maxL rt rm [x0] D Λ M Ψ) (d : decode cc pc = .ok (.invokestatic idx, 3)) (hk : lkS own idx y bytes maxL (some rt) 1) (hr : rmOk rm maxL R κ = true) (hs : stOk st = true) (hz0 : rm.cells = 0 ∧ rm.slots = 0) (hq : pc + 3 = q) (kk : ∀ a M1, Ψ a M1 → V Γ D Λ M1 κ q lv (.ref a :: st)) : V Γ D Λ M κ pc lv (x0 :: st) := V_callSA0 (As := [x0]) g hM d hk rfl hr hs hz0 hq kk
theorem V_callSA_2 {rt : FieldType} {Ψ : Nat → MM → Prop} {x0 x1 : Value} (g : VOk Γ D Λ own cc nL l R) (hM : CA l y bytes maxL rt rm [x0, x1] D Λ M Ψ) (d : decode cc pc = .ok (.invokestatic idx, 3)) (hk : lkS own idx y bytes maxL (some rt) 2) (hr : rmOk rm maxL R κ = true) (hs : stOk st = true) (hz0 : rm.cells = 0 ∧ rm.slots = 0) (hq : pc + 3 = q) (kk : ∀ a M1, Ψ a M1 → V Γ D Λ M1 κ q lv (.ref a :: st)) : V Γ D Λ M κ pc lv (x1 :: x0 :: st) := V_callSA0 (As := [x0, x1]) g hM d hk rfl hr hs hz0 hq kk
theorem V_callSA_3 {rt : FieldType} {Ψ : Nat → MM → Prop} {x0 x1 x2 : Value} (g : VOk Γ D Λ own cc nL l R) (hM : CA l y bytes maxL rt rm [x0, x1, x2] D Λ M Ψ) (d : decode cc pc = .ok (.invokestatic idx, 3)) (hk : lkS own idx y bytes maxL (some rt) 3) (hr : rmOk rm maxL R κ = true) (hs : stOk st = true) (hz0 : rm.cells = 0 ∧ rm.slots = 0) (hq : pc + 3 = q) (kk : ∀ a M1, Ψ a M1 → V Γ D Λ M1 κ q lv (.ref a :: st)) : V Γ D Λ M κ pc lv (x2 :: x1 :: x0 :: st) := V_callSA0 (As := [x0, x1, x2]) g hM d hk rfl hr hs hz0 hq kk
theorem V_callSA_4 {rt : FieldType} {Ψ : Nat → MM → Prop} {x0 x1 x2 x3 : Value} (g : VOk Γ D Λ own cc nL l R) (hM : CA l y bytes maxL rt rm [x0, x1, x2, x3] D Λ M Ψ) (d : decode cc pc = .ok (.invokestatic idx, 3)) (hk : lkS own idx y bytes maxL (some rt) 4) (hr : rmOk rm maxL R κ = true) (hs : stOk st = true) (hz0 : rm.cells = 0 ∧ rm.slots = 0) (hq : pc + 3 = q) (kk : ∀ a M1, Ψ a M1 → V Γ D Λ M1 κ q lv (.ref a :: st)) : V Γ D Λ M κ pc lv (x3 :: x2 :: x1 :: x0 :: st) := V_callSA0 (As := [x0, x1, x2, x3]) g hM d hk rfl hr hs hz0 hq kk
theorem V_callSA_5 {rt : FieldType} {Ψ : Nat → MM → Prop} {x0 x1 x2 x3 x4 : Value} (g : VOk Γ D Λ own cc nL l R) (hM : CA l y bytes maxL rt rm [x0, x1, x2, x3, x4] D Λ M Ψ) (d : decode cc pc = .ok (.invokestatic idx, 3)) (hk : lkS own idx y bytes maxL (some rt) 5) (hr : rmOk rm maxL R κ = true) (hs : stOk st = true) (hz0 : rm.cells = 0 ∧ rm.slots = 0) (hq : pc + 3 = q) (kk : ∀ a M1, Ψ a M1 → V Γ D Λ M1 κ q lv (.ref a :: st)) : V Γ D Λ M κ pc lv (x4 :: x3 :: x2 :: x1 :: x0 :: st) := V_callSA0 (As := [x0, x1, x2, x3, x4]) g hM d hk rfl hr hs hz0 hq kk
theorem V_callSA_6 {rt : FieldType} {Ψ : Nat → MM → Prop} {x0 x1 x2 x3 x4 x5 : Value} (g : VOk Γ D Λ own cc nL l R) (hM : CA l y bytes maxL rt rm [x0, x1, x2, x3, x4, x5] D Λ M Ψ) (d : decode cc pc = .ok (.invokestatic idx, 3)) (hk : lkS own idx y bytes maxL (some rt) 6) (hr : rmOk rm maxL R κ = true) (hs : stOk st = true) (hz0 : rm.cells = 0 ∧ rm.slots = 0) (hq : pc + 3 = q) (kk : ∀ a M1, Ψ a M1 → V Γ D Λ M1 κ q lv (.ref a :: st)) : V Γ D Λ M κ pc lv (x5 :: x4 :: x3 :: x2 :: x1 :: x0 :: st) := V_callSA0 (As := [x0, x1, x2, x3, x4, x5]) g hM d hk rfl hr hs hz0 hq kk
theorem V_callNA_0 {rt : FieldType} {Ψ : Nat → MM → Prop} (g : VOk Γ D Λ own cc nL l R) (hM : CA l y bytes maxL rt rm [] D Λ M Ψ) (d : decode cc pc = .ok (.invokestatic idx, 3)) (hk : lkN own idx y bytes maxL (some rt) 0) (hr : rmOk rm maxL R κ = true) (hs : stOk st = true) (hz0 : rm.cells = 0 ∧ rm.slots = 0) (hq : pc + 3 = q) (kk : ∀ a M1, Ψ a M1 → V Γ D Λ M1 κ q lv (.ref a :: st)) : V Γ D Λ M κ pc lv (st) := V_callNA0 (As := []) g hM d hk rfl hr hs hz0 hq kk
theorem V_callNA_1 {rt : FieldType} {Ψ : Nat → MM → Prop} {x0 : Value} (g : VOk Γ D Λ own cc nL l R) (hM : CA l y bytes maxL rt rm [x0] D Λ M Ψ) (d : decode cc pc = .ok (.invokestatic idx, 3)) (hk : lkN own idx y bytes maxL (some rt) 1) (hr : rmOk rm maxL R κ = true) (hs : stOk st = true) (hz0 : rm.cells = 0 ∧ rm.slots = 0) (hq : pc + 3 = q) (kk : ∀ a M1, Ψ a M1 → V Γ D Λ M1 κ q lv (.ref a :: st)) : V Γ D Λ M κ pc lv (x0 :: st) := V_callNA0 (As := [x0]) g hM d hk rfl hr hs hz0 hq kk
theorem V_callNA_2 {rt : FieldType} {Ψ : Nat → MM → Prop} {x0 x1 : Value} (g : VOk Γ D Λ own cc nL l R) (hM : CA l y bytes maxL rt rm [x0, x1] D Λ M Ψ) (d : decode cc pc = .ok (.invokestatic idx, 3)) (hk : lkN own idx y bytes maxL (some rt) 2) (hr : rmOk rm maxL R κ = true) (hs : stOk st = true) (hz0 : rm.cells = 0 ∧ rm.slots = 0) (hq : pc + 3 = q) (kk : ∀ a M1, Ψ a M1 → V Γ D Λ M1 κ q lv (.ref a :: st)) : V Γ D Λ M κ pc lv (x1 :: x0 :: st) := V_callNA0 (As := [x0, x1]) g hM d hk rfl hr hs hz0 hq kk
theorem V_callNA_3 {rt : FieldType} {Ψ : Nat → MM → Prop} {x0 x1 x2 : Value} (g : VOk Γ D Λ own cc nL l R) (hM : CA l y bytes maxL rt rm [x0, x1, x2] D Λ M Ψ) (d : decode cc pc = .ok (.invokestatic idx, 3)) (hk : lkN own idx y bytes maxL (some rt) 3) (hr : rmOk rm maxL R κ = true) (hs : stOk st = true) (hz0 : rm.cells = 0 ∧ rm.slots = 0) (hq : pc + 3 = q) (kk : ∀ a M1, Ψ a M1 → V Γ D Λ M1 κ q lv (.ref a :: st)) : V Γ D Λ M κ pc lv (x2 :: x1 :: x0 :: st) := V_callNA0 (As := [x0, x1, x2]) g hM d hk rfl hr hs hz0 hq kk
theorem V_callNA_4 {rt : FieldType} {Ψ : Nat → MM → Prop} {x0 x1 x2 x3 : Value} (g : VOk Γ D Λ own cc nL l R) (hM : CA l y bytes maxL rt rm [x0, x1, x2, x3] D Λ M Ψ) (d : decode cc pc = .ok (.invokestatic idx, 3)) (hk : lkN own idx y bytes maxL (some rt) 4) (hr : rmOk rm maxL R κ = true) (hs : stOk st = true) (hz0 : rm.cells = 0 ∧ rm.slots = 0) (hq : pc + 3 = q) (kk : ∀ a M1, Ψ a M1 → V Γ D Λ M1 κ q lv (.ref a :: st)) : V Γ D Λ M κ pc lv (x3 :: x2 :: x1 :: x0 :: st) := V_callNA0 (As := [x0, x1, x2, x3]) g hM d hk rfl hr hs hz0 hq kk
theorem V_callNA_5 {rt : FieldType} {Ψ : Nat → MM → Prop} {x0 x1 x2 x3 x4 : Value} (g : VOk Γ D Λ own cc nL l R) (hM : CA l y bytes maxL rt rm [x0, x1, x2, x3, x4] D Λ M Ψ) (d : decode cc pc = .ok (.invokestatic idx, 3)) (hk : lkN own idx y bytes maxL (some rt) 5) (hr : rmOk rm maxL R κ = true) (hs : stOk st = true) (hz0 : rm.cells = 0 ∧ rm.slots = 0) (hq : pc + 3 = q) (kk : ∀ a M1, Ψ a M1 → V Γ D Λ M1 κ q lv (.ref a :: st)) : V Γ D Λ M κ pc lv (x4 :: x3 :: x2 :: x1 :: x0 :: st) := V_callNA0 (As := [x0, x1, x2, x3, x4]) g hM d hk rfl hr hs hz0 hq kk
theorem V_callNA_6 {rt : FieldType} {Ψ : Nat → MM → Prop} {x0 x1 x2 x3 x4 x5 : Value} (g : VOk Γ D Λ own cc nL l R) (hM : CA l y bytes maxL rt rm [x0, x1, x2, x3, x4, x5] D Λ M Ψ) (d : decode cc pc = .ok (.invokestatic idx, 3)) (hk : lkN own idx y bytes maxL (some rt) 6) (hr : rmOk rm maxL R κ = true) (hs : stOk st = true) (hz0 : rm.cells = 0 ∧ rm.slots = 0) (hq : pc + 3 = q) (kk : ∀ a M1, Ψ a M1 → V Γ D Λ M1 κ q lv (.ref a :: st)) : V Γ D Λ M κ pc lv (x5 :: x4 :: x3 :: x2 :: x1 :: x0 :: st) := V_callNA0 (As := [x0, x1, x2, x3, x4, x5]) g hM d hk rfl hr hs hz0 hq kk
theorem V_callVA_0 {rt : FieldType} {Ψ : Nat → MM → Prop} {b ci : Nat} {fl : List (Option Nat)} {cT : vw_C} (g : VOk Γ D Λ own cc nL l R) (hM : CA l y bytes maxL rt rm (.ref b :: []) D Λ M Ψ) (d : decode cc pc = .ok (.invokevirtual idx, 3)) (hk : lkV own idx y bytes maxL (some rt) 0) (hΛ : Λ b = some (kO ci fl)) (hc : vwCl[ci]? = some cT) (hcy : cT.1 = y.cls) (hr : rmOk rm maxL R κ = true) (hs : stOk st = true) (hz0 : rm.cells = 0 ∧ rm.slots = 0) (hq : pc + 3 = q) (kk : ∀ a M1, Ψ a M1 → V Γ D Λ M1 κ q lv (.ref a :: st)) : V Γ D Λ M κ pc lv (.ref b :: st) := V_callVA0 (As := []) g hM d hk rfl hΛ hc hcy hr hs hz0 hq kk
theorem V_callVA_1 {rt : FieldType} {Ψ : Nat → MM → Prop} {x0 : Value} {b ci : Nat} {fl : List (Option Nat)} {cT : vw_C} (g : VOk Γ D Λ own cc nL l R) (hM : CA l y bytes maxL rt rm (.ref b :: [x0]) D Λ M Ψ) (d : decode cc pc = .ok (.invokevirtual idx, 3)) (hk : lkV own idx y bytes maxL (some rt) 1) (hΛ : Λ b = some (kO ci fl)) (hc : vwCl[ci]? = some cT) (hcy : cT.1 = y.cls) (hr : rmOk rm maxL R κ = true) (hs : stOk st = true) (hz0 : rm.cells = 0 ∧ rm.slots = 0) (hq : pc + 3 = q) (kk : ∀ a M1, Ψ a M1 → V Γ D Λ M1 κ q lv (.ref a :: st)) : V Γ D Λ M κ pc lv (x0 :: .ref b :: st) := V_callVA0 (As := [x0]) g hM d hk rfl hΛ hc hcy hr hs hz0 hq kk
theorem V_callVA_2 {rt : FieldType} {Ψ : Nat → MM → Prop} {x0 x1 : Value} {b ci : Nat} {fl : List (Option Nat)} {cT : vw_C} (g : VOk Γ D Λ own cc nL l R) (hM : CA l y bytes maxL rt rm (.ref b :: [x0, x1]) D Λ M Ψ) (d : decode cc pc = .ok (.invokevirtual idx, 3)) (hk : lkV own idx y bytes maxL (some rt) 2) (hΛ : Λ b = some (kO ci fl)) (hc : vwCl[ci]? = some cT) (hcy : cT.1 = y.cls) (hr : rmOk rm maxL R κ = true) (hs : stOk st = true) (hz0 : rm.cells = 0 ∧ rm.slots = 0) (hq : pc + 3 = q) (kk : ∀ a M1, Ψ a M1 → V Γ D Λ M1 κ q lv (.ref a :: st)) : V Γ D Λ M κ pc lv (x1 :: x0 :: .ref b :: st) := V_callVA0 (As := [x0, x1]) g hM d hk rfl hΛ hc hcy hr hs hz0 hq kk
theorem V_callVA_3 {rt : FieldType} {Ψ : Nat → MM → Prop} {x0 x1 x2 : Value} {b ci : Nat} {fl : List (Option Nat)} {cT : vw_C} (g : VOk Γ D Λ own cc nL l R) (hM : CA l y bytes maxL rt rm (.ref b :: [x0, x1, x2]) D Λ M Ψ) (d : decode cc pc = .ok (.invokevirtual idx, 3)) (hk : lkV own idx y bytes maxL (some rt) 3) (hΛ : Λ b = some (kO ci fl)) (hc : vwCl[ci]? = some cT) (hcy : cT.1 = y.cls) (hr : rmOk rm maxL R κ = true) (hs : stOk st = true) (hz0 : rm.cells = 0 ∧ rm.slots = 0) (hq : pc + 3 = q) (kk : ∀ a M1, Ψ a M1 → V Γ D Λ M1 κ q lv (.ref a :: st)) : V Γ D Λ M κ pc lv (x2 :: x1 :: x0 :: .ref b :: st) := V_callVA0 (As := [x0, x1, x2]) g hM d hk rfl hΛ hc hcy hr hs hz0 hq kk
theorem V_callVA_4 {rt : FieldType} {Ψ : Nat → MM → Prop} {x0 x1 x2 x3 : Value} {b ci : Nat} {fl : List (Option Nat)} {cT : vw_C} (g : VOk Γ D Λ own cc nL l R) (hM : CA l y bytes maxL rt rm (.ref b :: [x0, x1, x2, x3]) D Λ M Ψ) (d : decode cc pc = .ok (.invokevirtual idx, 3)) (hk : lkV own idx y bytes maxL (some rt) 4) (hΛ : Λ b = some (kO ci fl)) (hc : vwCl[ci]? = some cT) (hcy : cT.1 = y.cls) (hr : rmOk rm maxL R κ = true) (hs : stOk st = true) (hz0 : rm.cells = 0 ∧ rm.slots = 0) (hq : pc + 3 = q) (kk : ∀ a M1, Ψ a M1 → V Γ D Λ M1 κ q lv (.ref a :: st)) : V Γ D Λ M κ pc lv (x3 :: x2 :: x1 :: x0 :: .ref b :: st) := V_callVA0 (As := [x0, x1, x2, x3]) g hM d hk rfl hΛ hc hcy hr hs hz0 hq kk
theorem V_callVA_5 {rt : FieldType} {Ψ : Nat → MM → Prop} {x0 x1 x2 x3 x4 : Value} {b ci : Nat} {fl : List (Option Nat)} {cT : vw_C} (g : VOk Γ D Λ own cc nL l R) (hM : CA l y bytes maxL rt rm (.ref b :: [x0, x1, x2, x3, x4]) D Λ M Ψ) (d : decode cc pc = .ok (.invokevirtual idx, 3)) (hk : lkV own idx y bytes maxL (some rt) 5) (hΛ : Λ b = some (kO ci fl)) (hc : vwCl[ci]? = some cT) (hcy : cT.1 = y.cls) (hr : rmOk rm maxL R κ = true) (hs : stOk st = true) (hz0 : rm.cells = 0 ∧ rm.slots = 0) (hq : pc + 3 = q) (kk : ∀ a M1, Ψ a M1 → V Γ D Λ M1 κ q lv (.ref a :: st)) : V Γ D Λ M κ pc lv (x4 :: x3 :: x2 :: x1 :: x0 :: .ref b :: st) := V_callVA0 (As := [x0, x1, x2, x3, x4]) g hM d hk rfl hΛ hc hcy hr hs hz0 hq kk
theorem V_callVA_6 {rt : FieldType} {Ψ : Nat → MM → Prop} {x0 x1 x2 x3 x4 x5 : Value} {b ci : Nat} {fl : List (Option Nat)} {cT : vw_C} (g : VOk Γ D Λ own cc nL l R) (hM : CA l y bytes maxL rt rm (.ref b :: [x0, x1, x2, x3, x4, x5]) D Λ M Ψ) (d : decode cc pc = .ok (.invokevirtual idx, 3)) (hk : lkV own idx y bytes maxL (some rt) 6) (hΛ : Λ b = some (kO ci fl)) (hc : vwCl[ci]? = some cT) (hcy : cT.1 = y.cls) (hr : rmOk rm maxL R κ = true) (hs : stOk st = true) (hz0 : rm.cells = 0 ∧ rm.slots = 0) (hq : pc + 3 = q) (kk : ∀ a M1, Ψ a M1 → V Γ D Λ M1 κ q lv (.ref a :: st)) : V Γ D Λ M κ pc lv (x5 :: x4 :: x3 :: x2 :: x1 :: x0 :: .ref b :: st) := V_callVA0 (As := [x0, x1, x2, x3, x4, x5]) g hM d hk rfl hΛ hc hcy hr hs hz0 hq kk
end VK
