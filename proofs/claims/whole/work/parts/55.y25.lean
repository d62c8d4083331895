abbrev PRE : Cond := Jvm.Cond.and given_1 narrow_1
theorem hv_of {args : Array Value} {s : State} (h : PRE.before args s = true) {w : Cond} (hw : w ∈ flatC PRE) : w.before args s = true := flat_of_before _ h w hw
theorem pre_str : ∀ x ∈ strW, Cond.exactly (.string x.1 x.2.1) "java/lang/String" ∈ flatC PRE := by decide +kernel
theorem tbl_str : ∀ x ∈ strW, Cond.stringRef x.1 x.2.1 x.2.2 ∈ lw_tbl := by decide +kernel
theorem pre_nc : ∀ x ∈ ncW, Cond.not (.castable x.1 x.2) ∈ flatC PRE := by decide +kernel
theorem tbl_nest : ∀ w ∈ nestW, w ∈ lw_tbl := by decide +kernel
theorem nest_tab : ∀ w ∈ nestW, w.onTables = true := by decide +kernel
theorem pre_forms : ∀ j : Nat, j < 96 → Cond.eq (.elem (.static "ChairStamps$OfficeText" "FORMS" "[I") (.int (Int32.ofNat j))) (.int (iI (formsL.getD j 0))) ∈ flatC PRE := by decide +kernel
theorem pre_let : ∀ j : Nat, j < 8 → Cond.eq (.elem (.field (.string "ChairStamps$OfficeText" 47) "java/lang/String" "value" "[B") (.int (Int32.ofNat j))) (.int (lettersL.getD j 0)) ∈ flatC PRE := by decide +kernel
theorem tbl_in {w : Cond} (h : w ∈ BIG) : w ∈ lw_tbl := (List.mem_filter.mp h).1
theorem nowA {sz : Nat} : ∀ a : Nat, a < sz → ¬ Aw (fun _ => none) sz a := fun a h => by
  rintro (⟨K, h1⟩ | h1)
  · cases h1
  · exact absurd h (Nat.not_lt.mpr h1)
/-- what stands in the heap at the law's entry -/
theorem st_start {args : Array Value} {s : State} (hts : ∀ w ∈ lw_tbl, w.before args s = true) (hgv : PRE.before args s = true) : St (Aw (fun _ => none) s.heap.size) s s.heap := by
  have hA : ∀ a : Nat, a < s.heap.size → ¬ Aw (fun _ => none) s.heap.size a := nowA
  refine ⟨fun w hw => va_Nw.of (nest_tab w hw) (hts w (tbl_nest w hw)), fun x hx => va_Nc.of (hv_of hgv (pre_nc x hx)), fun x hx => ?_, ?_, ?_, ?_, ?_, ?_⟩
  · obtain ⟨a, c, cell, k, q1, -⟩ := Cond.exactly_spec (hv_of hgv (pre_str x hx))
    exact ⟨a, vk_R.of (hts _ (tbl_str x hx)) q1⟩
  · exact vx_Zqof (hts (.laysStatic Bundle.tN "UNASSIGNED_STACK" Bundle.steD) (by decide +kernel)) (hts (.initialized Bundle.tN) (by decide +kernel)) (hv_of hgv (w := .isRef (.static Bundle.tN "UNASSIGNED_STACK" Bundle.steD)) (by decide +kernel)) hA
  · exact vx_Zqof (hts (.laysStatic Bundle.tN "SUPPRESSED_SENTINEL" Bundle.listD) (by decide +kernel)) (hts (.initialized Bundle.tN) (by decide +kernel)) (hv_of hgv (w := .isRef (.static Bundle.tN "SUPPRESSED_SENTINEL" Bundle.listD)) (by decide +kernel)) hA
  · obtain ⟨t, ht, hT⟩ := va_Tof (tm := .static "ChairStamps$OfficeText" "FORMS" "[I") (ty := .int) (N := 96) (f := fun j => .int (iI (formsL.getD j 0))) (by decide) (hv_of hgv (w := .arrayOf (.static "ChairStamps$OfficeText" "FORMS" "[I") .int) (by decide +kernel)) (va_eqt (hv_of hgv (w := .eq (.length (.static "ChairStamps$OfficeText" "FORMS" "[I")) (.int (Int32.ofNat 96))) (by decide +kernel))) (fun j hj => va_eqt (hv_of hgv (pre_forms j hj))) hA
    exact ⟨t, va_Zref (hts (.laysStatic "ChairStamps$OfficeText" "FORMS" "[I") (by decide +kernel)) (hts (.initialized "ChairStamps$OfficeText") (by decide +kernel)) ht hA, hT⟩
  · obtain ⟨adK, adV, hS, hv⟩ := vk_Sof (args := args) (s := s) (N := 1) (tm := fun _ => .string "ChairStamps$OfficeText" 47) (len := [8]) (byt := [lettersL]) (A := Aw (fun _ => none) s.heap.size)
      (fun i hi => by obtain rfl : i = 0 := by omega
                      decide)
      (fun i hi => hv_of hgv (w := .exactly (.string "ChairStamps$OfficeText" 47) "java/lang/String") (by decide +kernel))
      (fun i hi => hv_of hgv (w := .eq (.field (.string "ChairStamps$OfficeText" 47) "java/lang/String" "coder" "B") (.int 0)) (by decide +kernel))
      (fun i hi => hv_of hgv (w := .arrayOf (.field (.string "ChairStamps$OfficeText" 47) "java/lang/String" "value" "[B") .byte) (by decide +kernel))
      (fun i hi => by
        obtain rfl : i = 0 := by omega
        exact hv_of hgv (w := .eq (.length (.field (.string "ChairStamps$OfficeText" 47) "java/lang/String" "value" "[B")) (.int (Int32.ofNat 8))) (by decide +kernel))
      (fun i hi j hj => by
        obtain rfl : i = 0 := by omega
        exact hv_of hgv (pre_let j hj))
      (fun i j hi hj hn => absurd (by omega) hn) hA
    refine ⟨adK 0, adV 0, vk_R.of (hts (.stringRef "ChairStamps$OfficeText" 47 "cshfbtwg") (by decide +kernel)) (hv 0 (by decide)), fun i hi => ?_, fun i j hi hj _ => by omega⟩
    have h0 := hS.1 0 (by decide)
    obtain rfl : i = 0 := by omega
    exact h0
  · exact va_Zof (hts (.laysStatic "java/lang/String" "COMPACT_STRINGS" "Z") (by decide +kernel)) (hts (.initialized "java/lang/String") (by decide +kernel)) (va_eqi (hv_of hgv (w := .eq (.static "java/lang/String" "COMPACT_STRINGS" "Z") (.int 1)) (by decide +kernel))) hA
theorem arr_start {args : Array Value} {s : State} {ty : FieldType} (h : (Cond.arrayClass ty).before args s = true) : ∃ cA : ClassId, ArrOfT s cA ty ∧ s.vm.findClass ("[" ++ ty.toString) = some cA := by
  obtain ⟨c, k, comp, h1, h2, h3⟩ := Cond.arrayClass_spec h
  exact ⟨c, fun n z => ⟨(fun k h => by cases h), k, h2, comp, h3⟩, h1⟩
/-- the types as the tables have them -/
theorem k_start {args : Array Value} {s : State} (hts : ∀ w ∈ lw_tbl, w.before args s = true) : ∃ D : DD, va_K D.1 vwCl (tysD D) s := by
  have hb : ∀ w ∈ BIG, w.before args s = true := fun w hw => hts w (tbl_in hw)
  obtain ⟨c0, i0, k0⟩ := u_known (C := RX0) (T := TX0) (N := 3) (n := 3) hb u_X0 (hb _ n_X4_19.2.1)
  obtain ⟨c1, i1, k1⟩ := u_known (C := RX1) (T := TX1) (N := 12) (n := 12) hb u_X1 (hb _ n_X4_7.2.1)
  obtain ⟨c2, i2, k2⟩ := u_known (C := RX2) (T := TX2) (N := 5) (n := 5) hb u_X2 (hb _ n_X4_36.2.1)
  obtain ⟨c3, i3, k3⟩ := u_known (C := RX3) (T := TX3) (N := 2) (n := 2) hb u_X3 (hb _ n_X4_26.2.1)
  obtain ⟨c4, i4, k4⟩ := u_known (C := RX4) (T := TX4) (N := 6) (n := 6) hb u_X4 (hb _ n_L_8.2.1)
  obtain ⟨c5, i5, k5⟩ := u_known (C := RX5) (T := TX5) (N := 11) (n := 11) hb u_X5 (hb _ n_L_107.2.1)
  obtain ⟨aI, hI, fI⟩ := arr_start (hb _ a_newI)
  obtain ⟨aZ, hZ, fZ⟩ := arr_start (hb _ a_newZ)
  obtain ⟨aJ, hJ, fJ⟩ := arr_start (hb _ a_newJ)
  obtain ⟨comp, aQ, kQ9, q1, -, q3, q4, q5⟩ := Cond.arrayOver_spec (hts (.arrayOver (.object "ChairStamps$Office")) (by decide +kernel))
  refine ⟨((fun k => if k = 0 then c0 else if k = 1 then c1 else if k = 2 then c2 else if k = 3 then c3 else if k = 4 then c4 else c5, fun k => if k = 0 then i0 else if k = 1 then i1 else if k = 2 then i2 else if k = 3 then i3 else if k = 4 then i4 else i5), fun k => if k = 0 then aI else if k = 1 then aZ else if k = 2 then aJ else aQ), ?_, ?_⟩
  · intro k q hq
    match k, hq with
    | 0, hq => cases hq; exact k0
    | 1, hq => cases hq; exact k1
    | 2, hq => cases hq; exact k2
    | 3, hq => cases hq; exact k3
    | 4, hq => cases hq; exact k4
    | 5, hq => cases hq; exact k5
    | k + 6, hq => simp at hq
  · intro k q hq
    match k, hq with
    | 0, hq => cases hq; exact ⟨hI, fI⟩
    | 1, hq => cases hq; exact ⟨hZ, fZ⟩
    | 2, hq => cases hq; exact ⟨hJ, fJ⟩
    | 3, hq => cases hq; exact ⟨fun n z => ⟨(fun k h => by cases h), kQ9, q3, comp, q4⟩, kQ9, comp, q3, q4, q1, q5⟩
    | k + 4, hq => simp [tysD] at hq
theorem MemL.eqv {D : DD} {Λ Λ1 : LY} {y : Nat} (h : MemL D Λ y) (e : ∀ b : Nat, y ≤ b → b < y + 167 → Λ1 b = Λ b) : MemL D Λ1 y :=
  ⟨(e _ (by omega) (by omega)).trans h.1, (e _ (by omega) (by omega)).trans h.2.1, fun i hi => (h.2.2 i hi).eqv (fun b b1 b2 => by unfold gO at b1 b2; exact e b (by omega) (by omega))⟩
theorem ClsL.eqv {D : DD} {Λ Λ1 : LY} {s : Nat} (h : ClsL D Λ s) (e : ∀ b : Nat, s ≤ b → b < s + 217 → Λ1 b = Λ b) : ClsL D Λ1 s := by
  obtain ⟨h0, h1, h2, h3, h4, h5, h6, h7, h8, h9, h10⟩ := h
  exact ⟨(e _ (by omega) (by omega)).trans h0, h1.eqv (fun b b1 b2 => e b (by omega) (by omega)), h2.eqv (fun b b1 b2 => e b (by omega) (by omega)), h3.eqv (fun b b1 b2 => e b (by omega) (by omega)), (e _ (by omega) (by omega)).trans h4, h5.eqv (fun b b1 b2 => e b (by omega) (by omega)), (e _ (by omega) (by omega)).trans h6, h7.eqv (fun b b1 b2 => e b (by omega) (by omega)), (e _ (by omega) (by omega)).trans h8, (e _ (by omega) (by omega)).trans h9, (e _ (by omega) (by omega)).trans h10⟩
theorem MdL.eqv {D : DD} {Λ Λ1 : LY} {m : Nat} (h : MdL D Λ m) (e : ∀ b : Nat, m ≤ b → b ≤ m + 6 → Λ1 b = Λ b) : MdL D Λ1 m := by
  obtain ⟨h0, h1, h2, h3, h4, h5, h6⟩ := h
  exact ⟨(e _ (by omega) (by omega)).trans h0, (e _ (by omega) (by omega)).trans h1, (e _ (by omega) (by omega)).trans h2, (e _ (by omega) (by omega)).trans h3, (e _ (by omega) (by omega)).trans h4, (e _ (by omega) (by omega)).trans h5, (e _ (by omega) (by omega)).trans h6⟩
/-- the law's world: both objects and the array of one answer -/
def lwW (D : DD) (s : Nat) : LY := fun b => if b < s then none else if b < s + 217 then clsW D s b else if b < s + 224 then mdW D (s + 217) b else if b = s + 224 then some (kJ D 1) else none
theorem lwW_1 {D : DD} {s b : Nat} (h : s ≤ b ∧ b < s + 217) : lwW D s b = clsW D s b := by unfold lwW; rw [if_neg (by omega), if_pos (by omega)]
theorem lwW_2 {D : DD} {s b : Nat} (h : s + 217 ≤ b ∧ b < s + 224) : lwW D s b = mdW D (s + 217) b := by unfold lwW; rw [if_neg (by omega), if_neg (by omega), if_pos (by omega)]
theorem lwW_3 {D : DD} {s : Nat} : lwW D s (s + 224) = some (kJ D 1) := by unfold lwW; rw [if_neg (by omega), if_neg (by omega), if_neg (by omega), if_pos rfl]
theorem lwW_lo {D : DD} {s b : Nat} {K : KD} (h : lwW D s b = some K) : s ≤ b ∧ b ≤ s + 224 := by
  unfold lwW at h
  by_cases h1 : b < s
  · rw [if_pos h1] at h; cases h
  · by_cases h2 : b ≤ s + 224
    · omega
    · rw [if_neg (by omega), if_neg (by omega), if_neg (by omega), if_neg (by omega)] at h; cases h
theorem lwW_L {D : DD} {s : Nat} : ClsL D (lwW D s) s ∧ MdL D (lwW D s) (s + 217) ∧ lwW D s (s + 224) = some (kJ D 1) := ⟨clsW_L.eqv (fun b b1 b2 => lwW_1 ⟨b1, b2⟩), mdW_L.eqv (fun b b1 b2 => lwW_2 (by omega)), lwW_3⟩
/-- both objects as they are made are in step -/
theorem rel_new {M M4 M5 : MM} {s : Nat} (e4 : Off M4 (s + 1) fNew ∧ (M4 (s + 23) 1 = 0 ∧ M4 (s + 23) 2 = 0) ∧ M4 (s + 190) 1 = 0 ∧ M4 (s + 202) 1 = 0 ∧ M4 (s + 214) 1 = 0 ∧ M4 (s + 215) = fun _ => 0) (e5 : M5 (s + 217) 2 = 0 ∧ M5 (s + 217) 6 = 0 ∧ M5 (s + 217 + 1) = (fun _ => 0) ∧ M5 (s + 217 + 2) = fNew ∧ M5 (s + 217 + 6) 0 = 0 ∧ M5 (s + 217 + 6) 1 = 0)
    (h4 : ∀ b : Nat, s ≤ b → b < s + 217 → M b = M4 b ∨ ((b < s + 1 ∨ s + 11 < b) ∧ b ≠ s + 23 ∧ b ≠ s + 190 ∧ b ≠ s + 202 ∧ b ≠ s + 214 ∧ b ≠ s + 215)) (h5 : ∀ b : Nat, s + 217 ≤ b → b < s + 224 → M b = M5 b) : Rel M s fNew := by
  obtain ⟨o4, ⟨m1, m2⟩, a1, a2, t1, t2⟩ := e4
  obtain ⟨r2, r6, r1, rn, k0, k1⟩ := e5
  have f4 : ∀ b : Nat, s ≤ b → b < s + 217 → ¬ ((b < s + 1 ∨ s + 11 < b) ∧ b ≠ s + 23 ∧ b ≠ s + 190 ∧ b ≠ s + 202 ∧ b ≠ s + 214 ∧ b ≠ s + 215) → M b = M4 b := fun b b1 b2 hn => (h4 b b1 b2).resolve_right hn
  have q23 : M (s + 23) = M4 (s + 23) := f4 _ (by omega) (by omega) (by omega)
  have q190 : M (s + 190) = M4 (s + 190) := f4 _ (by omega) (by omega) (by omega)
  have q202 : M (s + 202) = M4 (s + 202) := f4 _ (by omega) (by omega) (by omega)
  have q214 : M (s + 214) = M4 (s + 214) := f4 _ (by omega) (by omega) (by omega)
  have q215 : M (s + 214 + 1) = M4 (s + 215) := f4 _ (by omega) (by omega) (by omega)
  have p0 : M (s + 217) = M5 (s + 217) := h5 _ (by omega) (by omega)
  have p1 : M (s + 217 + 1) = M5 (s + 217 + 1) := h5 _ (by omega) (by omega)
  have p2 : M (s + 217 + 2) = M5 (s + 217 + 2) := h5 _ (by omega) (by omega)
  have p6 : M (s + 217 + 6) = M5 (s + 217 + 6) := h5 _ (by omega) (by omega)
  refine ⟨⟨o4.eqv (fun b b1 b2 => f4 b (by omega) (by omega) (by omega)), Inv_new, p2.trans rn⟩, ⟨?_, ?_, ?_, ?_⟩, ⟨⟨?_, ?_, ?_⟩, ⟨?_, ?_, ?_⟩⟩, ?_, ?_, ?_⟩
  · rw [q23, m1]; decide
  · rw [q23, m2]; decide
  · rw [q23, m2, p0, r6]
  · intro i h0 hi
    rw [q23, m2] at hi
    omega
  · rw [q190, a1]; decide
  · rw [q190, a1, p6, k0]
  · intro hn
    exact absurd (by rw [q190, a1]) hn
  · rw [q202, a2]; decide
  · rw [q202, a2, p6, k1]
  · intro hn
    exact absurd (by rw [q202, a2]) hn
  · rw [q214, t1, p0, r2]
  · rw [q215, t2, p1, r1]
  · rw [p0, r2]
    exact ⟨by decide, fun j j1 j2 => by omega⟩
/-- the world that was made is the world that stays -/
theorem VU_V {Γ : VG} {D : DD} {Λ : LY} {M : MM} {w : Nat} {κ : Nat × Nat} {pc : Nat} {lv : List (Option Value)} {st : List Value} (hΛ : ∀ (b : Nat) (K : KD), Λ b = some K → (gs Γ).heap.size ≤ b) (k : V Γ D Λ M κ pc lv st) : VU Γ D (fun _ => none) Λ M w κ pc lv st := by
  intro H locs ls h0 h1 h2 h3
  have hsub : ∀ q : Nat, Aw (fun _ => none) (gs Γ).heap.size q → Aw Λ (gs Γ).heap.size q := by
    rintro q (⟨K, h⟩ | h)
    · cases h
    · exact Or.inr h
  exact k H locs ls h1 ⟨h2.1, fun q hq hn => h2.2.1 q hq (fun h => hn (hsub q h)), fun l hl => hsub _ (h2.2.2 l hl)⟩ h3
theorem VOk.grow {Γ : VG} {D : DD} {Λ : LY} {own : String} {cc : ByteArray} {nL : Nat} {l : Launch} {R : Room} (hΛ : ∀ (b : Nat) (K : KD), Λ b = some K → (gs Γ).heap.size ≤ b) (g : VOk Γ D (fun _ => none) own cc nL l R) : VOk Γ D Λ own cc nL l R := by
  obtain ⟨g1, g2, g3, g4, g5, g6, g7, g8, g9⟩ := g
  exact ⟨g1, g2, g3, g4, g5, g6, g7, g8.narrow (fun q h => by
    rcases h with ⟨K, h⟩ | h
    · exact Or.inr (hΛ q K h)
    · exact Or.inr h), g9⟩
