abbrev PRE : Cond := Jvm.Cond.and given_1 narrow_1
theorem hv_of {args : Array Value} {s : State} (h : PRE.before args s = true) {w : Cond} (hw : w ∈ flatC PRE) : w.before args s = true := flat_of_before _ h w hw
theorem pre_str : ∀ x ∈ strW, Cond.exactly (.string x.1 x.2.1) "java/lang/String" ∈ flatC PRE := by decide +kernel
theorem tbl_str : ∀ x ∈ strW, Cond.stringRef x.1 x.2.1 x.2.2 ∈ lw_tbl := by decide +kernel
theorem pre_nc : ∀ x ∈ ncW, Cond.not (.castable x.1 x.2) ∈ flatC PRE := by decide +kernel
theorem tbl_nest : ∀ w ∈ nestW, w ∈ lw_tbl := by decide +kernel
theorem nest_tab : ∀ w ∈ nestW, w.onTables = true := by decide +kernel
theorem pre_forms : ∀ j : Nat, j < 96 → Cond.eq (.elem (.static "ChairStamps$OfficeText" "FORMS" "[I") (.int (Int32.ofNat j))) (.int (iI (formsL.getD j 0))) ∈ flatC PRE := by decide +kernel
theorem pre_let : ∀ j : Nat, j < 8 → Cond.eq (.elem (.field (.string "ChairStamps$OfficeText" 47) "java/lang/String" "value" "[B") (.int (Int32.ofNat j))) (.int (lettersL.getD j 0)) ∈ flatC PRE := by decide +kernel
theorem tbl_in {w : Cond} (h : w ∈ BIG) : w ∈ lw_tbl := (List.mem_filter.mp h).1
theorem nowA {sz : Nat} : ∀ a : Nat, a < sz → ¬ Aw (fun _ => none) sz a := fun a h => by
  rintro (⟨K, h1⟩ | h1)
  · cases h1
  · exact absurd h (Nat.not_lt.mpr h1)
/-- what stands in the heap at the law's entry -/
theorem st_start {args : Array Value} {s : State} (hts : ∀ w ∈ lw_tbl, w.before args s = true) (hgv : PRE.before args s = true) : St (Aw (fun _ => none) s.heap.size) s s.heap := by
  have hA : ∀ a : Nat, a < s.heap.size → ¬ Aw (fun _ => none) s.heap.size a := nowA
  refine ⟨fun w hw => va_Nw.of (nest_tab w hw) (hts w (tbl_nest w hw)), fun x hx => va_Nc.of (hv_of hgv (pre_nc x hx)), fun x hx => ?_, ?_, ?_, ?_, ?_, ?_⟩
  · obtain ⟨a, c, cell, k, q1, -⟩ := Cond.exactly_spec (hv_of hgv (pre_str x hx))
    exact ⟨a, vk_R.of (hts _ (tbl_str x hx)) q1⟩
  · exact vx_Zqof (hts (.laysStatic Bundle.tN "UNASSIGNED_STACK" Bundle.steD) (by decide +kernel)) (hts (.initialized Bundle.tN) (by decide +kernel)) (hv_of hgv (w := .isRef (.static Bundle.tN "UNASSIGNED_STACK" Bundle.steD)) (by decide +kernel)) hA
  · exact vx_Zqof (hts (.laysStatic Bundle.tN "SUPPRESSED_SENTINEL" Bundle.listD) (by decide +kernel)) (hts (.initialized Bundle.tN) (by decide +kernel)) (hv_of hgv (w := .isRef (.static Bundle.tN "SUPPRESSED_SENTINEL" Bundle.listD)) (by decide +kernel)) hA
  · obtain ⟨t, ht, hT⟩ := va_Tof (tm := .static "ChairStamps$OfficeText" "FORMS" "[I") (ty := .int) (N := 96) (f := fun j => .int (iI (formsL.getD j 0))) (by decide) (hv_of hgv (w := .arrayOf (.static "ChairStamps$OfficeText" "FORMS" "[I") .int) (by decide +kernel)) (va_eqt (hv_of hgv (w := .eq (.length (.static "ChairStamps$OfficeText" "FORMS" "[I")) (.int (Int32.ofNat 96))) (by decide +kernel))) (fun j hj => va_eqt (hv_of hgv (pre_forms j hj))) hA
    exact ⟨t, va_Zref (hts (.laysStatic "ChairStamps$OfficeText" "FORMS" "[I") (by decide +kernel)) (hts (.initialized "ChairStamps$OfficeText") (by decide +kernel)) ht hA, hT⟩
  · obtain ⟨adK, adV, hS, hv⟩ := vk_Sof (args := args) (s := s) (N := 1) (tm := fun _ => .string "ChairStamps$OfficeText" 47) (len := [8]) (byt := [lettersL]) (A := Aw (fun _ => none) s.heap.size)
      (fun i hi => by obtain rfl : i = 0 := by omega
                      decide)
      (fun i hi => hv_of hgv (w := .exactly (.string "ChairStamps$OfficeText" 47) "java/lang/String") (by decide +kernel))
      (fun i hi => hv_of hgv (w := .eq (.field (.string "ChairStamps$OfficeText" 47) "java/lang/String" "coder" "B") (.int 0)) (by decide +kernel))
      (fun i hi => hv_of hgv (w := .arrayOf (.field (.string "ChairStamps$OfficeText" 47) "java/lang/String" "value" "[B") .byte) (by decide +kernel))
      (fun i hi => by
        obtain rfl : i = 0 := by omega
        exact hv_of hgv (w := .eq (.length (.field (.string "ChairStamps$OfficeText" 47) "java/lang/String" "value" "[B")) (.int (Int32.ofNat 8))) (by decide +kernel))
      (fun i hi j hj => by
        obtain rfl : i = 0 := by omega
        exact hv_of hgv (pre_let j hj))
      (fun i j hi hj hn => absurd (by omega) hn) hA
    refine ⟨adK 0, adV 0, vk_R.of (hts (.stringRef "ChairStamps$OfficeText" 47 "cshfbtwg") (by decide +kernel)) (hv 0 (by decide)), fun i hi => ?_, fun i j hi hj _ => by omega⟩
    have h0 := hS.1 0 (by decide)
    obtain rfl : i = 0 := by omega
    exact h0
  · exact va_Zof (hts (.laysStatic "java/lang/String" "COMPACT_STRINGS" "Z") (by decide +kernel)) (hts (.initialized "java/lang/String") (by decide +kernel)) (va_eqi (hv_of hgv (w := .eq (.static "java/lang/String" "COMPACT_STRINGS" "Z") (.int 1)) (by decide +kernel))) hA
theorem arr_start {args : Array Value} {s : State} {ty : FieldType} (h : (Cond.arrayClass ty).before args s = true) : ∃ cA : ClassId, ArrOfT s cA ty ∧ s.vm.findClass ("[" ++ ty.toString) = some cA := by
  obtain ⟨c, k, comp, h1, h2, h3⟩ := Cond.arrayClass_spec h
  exact ⟨c, fun n z => ⟨(fun k h => by cases h), k, h2, comp, h3⟩, h1⟩
/-- the types as the tables have them -/
theorem k_start {args : Array Value} {s : State} (hts : ∀ w ∈ lw_tbl, w.before args s = true) : ∃ D : DD, va_K D.1 vwCl (tysD D) s := by
  have hb : ∀ w ∈ BIG, w.before args s = true := fun w hw => hts w (tbl_in hw)
  obtain ⟨c0, i0, k0⟩ := u_known (C := RX0) (T := TX0) (N := 3) (n := 3) hb u_X0 (hb _ n_X4_19.2.1)
  obtain ⟨c1, i1, k1⟩ := u_known (C := RX1) (T := TX1) (N := 12) (n := 12) hb u_X1 (hb _ n_X4_7.2.1)
  obtain ⟨c2, i2, k2⟩ := u_known (C := RX2) (T := TX2) (N := 5) (n := 5) hb u_X2 (hb _ n_X4_36.2.1)
  obtain ⟨c3, i3, k3⟩ := u_known (C := RX3) (T := TX3) (N := 2) (n := 2) hb u_X3 (hb _ n_X4_26.2.1)
  obtain ⟨c4, i4, k4⟩ := u_known (C := RX4) (T := TX4) (N := 6) (n := 6) hb u_X4 (hb _ n_L_8.2.1)
  obtain ⟨aI, hI, fI⟩ := arr_start (hb _ a_newI)
  obtain ⟨comp, aQ, kQ9, q1, -, q3, q4, q5⟩ := Cond.arrayOver_spec (hts (.arrayOver (.object "ChairStamps$Office")) (by decide +kernel))
  refine ⟨((fun k => if k = 0 then c0 else if k = 1 then c1 else if k = 2 then c2 else if k = 3 then c3 else c4, fun k => if k = 0 then i0 else if k = 1 then i1 else if k = 2 then i2 else if k = 3 then i3 else i4), fun k => if k = 0 then aI else aQ), ?_, ?_⟩
  · intro k q hq
    match k, hq with
    | 0, hq => cases hq; exact k0
    | 1, hq => cases hq; exact k1
    | 2, hq => cases hq; exact k2
    | 3, hq => cases hq; exact k3
    | 4, hq => cases hq; exact k4
    | k + 5, hq => simp at hq
  · intro k q hq
    match k, hq with
    | 0, hq => cases hq; exact ⟨hI, fI⟩
    | 1, hq => cases hq; exact ⟨hI, fI⟩
    | 2, hq => cases hq; exact ⟨hI, fI⟩
    | 3, hq => cases hq; exact ⟨fun n z => ⟨(fun k h => by cases h), kQ9, q3, comp, q4⟩, kQ9, comp, q3, q4, q1, q5⟩
    | k + 4, hq => simp [tysD] at hq
theorem MemL.eqv {D : DD} {Λ Λ1 : LY} {y : Nat} (h : MemL D Λ y) (e : ∀ b : Nat, y ≤ b → b < y + 167 → Λ1 b = Λ b) : MemL D Λ1 y :=
  ⟨(e _ (by omega) (by omega)).trans h.1, (e _ (by omega) (by omega)).trans h.2.1, fun i hi => (h.2.2 i hi).eqv (fun b b1 b2 => by unfold gO at b1 b2; exact e b (by omega) (by omega))⟩
theorem ClsL.eqv {D : DD} {Λ Λ1 : LY} {s : Nat} (h : ClsL D Λ s) (e : ∀ b : Nat, s ≤ b → b < s + 217 → Λ1 b = Λ b) : ClsL D Λ1 s := by
  obtain ⟨h0, h1, h2, h3, h4, h5, h6, h7, h8, h9, h10⟩ := h
  exact ⟨(e _ (by omega) (by omega)).trans h0, h1.eqv (fun b b1 b2 => e b (by omega) (by omega)), h2.eqv (fun b b1 b2 => e b (by omega) (by omega)), h3.eqv (fun b b1 b2 => e b (by omega) (by omega)), (e _ (by omega) (by omega)).trans h4, h5.eqv (fun b b1 b2 => e b (by omega) (by omega)), (e _ (by omega) (by omega)).trans h6, h7.eqv (fun b b1 b2 => e b (by omega) (by omega)), (e _ (by omega) (by omega)).trans h8, (e _ (by omega) (by omega)).trans h9, (e _ (by omega) (by omega)).trans h10⟩
/-- the world that was made is the world that stays -/
theorem VU_V {Γ : VG} {D : DD} {Λ : LY} {M : MM} {w : Nat} {κ : Nat × Nat} {pc : Nat} {lv : List (Option Value)} {st : List Value} (hΛ : ∀ (b : Nat) (K : KD), Λ b = some K → (gs Γ).heap.size ≤ b) (k : V Γ D Λ M κ pc lv st) : VU Γ D (fun _ => none) Λ M w κ pc lv st := by
  intro H locs ls h0 h1 h2 h3
  have hsub : ∀ q : Nat, Aw (fun _ => none) (gs Γ).heap.size q → Aw Λ (gs Γ).heap.size q := by
    rintro q (⟨K, h⟩ | h)
    · cases h
    · exact Or.inr h
  exact k H locs ls h1 ⟨h2.1, fun q hq hn => h2.2.1 q hq (fun h => hn (hsub q h)), fun l hl => hsub _ (h2.2.2 l hl)⟩ h3
theorem VOk.grow {Γ : VG} {D : DD} {Λ : LY} {own : String} {cc : ByteArray} {nL : Nat} {l : Launch} {R : Room} (hΛ : ∀ (b : Nat) (K : KD), Λ b = some K → (gs Γ).heap.size ≤ b) (g : VOk Γ D (fun _ => none) own cc nL l R) : VOk Γ D Λ own cc nL l R := by
  obtain ⟨g1, g2, g3, g4, g5, g6, g7, g8, g9⟩ := g
  exact ⟨g1, g2, g3, g4, g5, g6, g7, g8.narrow (fun q h => by
    rcases h with ⟨K, h⟩ | h
    · exact Or.inr (hΛ q K h)
    · exact Or.inr h), g9⟩
/-- the law's world: both objects -/
def lw2 (D : DD) (s : Nat) : LY := fun a => if a < s + 217 then clsW D s a else clsW D (s + 217) a
theorem lw2_1 {D : DD} {s a : Nat} (h : a < s + 217) : lw2 D s a = clsW D s a := if_pos h
theorem lw2_2 {D : DD} {s a : Nat} (h : s + 217 ≤ a) : lw2 D s a = clsW D (s + 217) a := if_neg (by omega)
theorem lw2_lo {D : DD} {s a : Nat} {K : KD} (h : lw2 D s a = some K) : s ≤ a := by
  by_cases h1 : a < s + 217
  · rw [lw2_1 h1] at h
    exact (clsW_some h).1
  · omega
theorem lw2_L {D : DD} {s : Nat} : ClsL D (lw2 D s) s ∧ ClsL D (lw2 D s) (s + 217) := ⟨clsW_L.eqv (fun a h1 h2 => lw2_1 h2), clsW_L.eqv (fun a h1 h2 => lw2_2 h1)⟩
/-- an object as it is made -/
theorem Os_new {M M4 : MM} {s : Nat} (h4 : Off M4 (s + 1) fNew ∧ (M4 (s + 23) 1 = 0 ∧ M4 (s + 23) 2 = 0) ∧ M4 (s + 190) 1 = 0 ∧ M4 (s + 202) 1 = 0 ∧ M4 (s + 214) 1 = 0 ∧ M4 (s + 215) = fun _ => 0) (hq : ∀ a : Nat, ((s + 1 ≤ a ∧ a ≤ s + 11) ∨ a = s + 23 ∨ a = s + 190 ∨ a = s + 202 ∨ a = s + 214) → M a = M4 a) : Os M s s0 := by
  obtain ⟨o4, ⟨m1, m2⟩, a1, a2, t1, -⟩ := h4
  refine ⟨⟨o4.eqv (fun a b1 b2 => hq a (by omega)), Inv_new⟩, ⟨?_, ?_, ?_, fun i u hi => ?_⟩, ⟨Or.inl ⟨rfl, ?_⟩, Or.inl ⟨rfl, ?_⟩⟩, ?_⟩
  · rw [hq _ (by omega), m1]; decide
  · rw [hq _ (by omega), m2]; rfl
  · exact Nat.zero_le _
  · have hi2 : ([] : List (Int → Int))[i]? = some u := hi
    simp at hi2
  · rw [hq _ (by omega), a1]
  · rw [hq _ (by omega), a2]
  · rw [hq _ (by omega), t1]; decide
