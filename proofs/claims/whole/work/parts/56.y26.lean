set_option maxHeartbeats 4000000 in
set_option maxRecDepth 100000 in
/-- from the entry: both objects are made, then the loop -/
theorem law_start {Γ : VG} {D : DD} {l : Launch} {b L : Nat} {xs : Nat → Int32} (hfl : l.stackTraces = false) (hL : L ≤ 2560) (g : VOk Γ D (fun _ => none) RL cL_law 7 l room_1) (hE : va_AO "ChairStamps$Office" (gs Γ)) (hX : va_X b L xs (gs Γ) (gs Γ).heap) (hbl : b < (gs Γ).heap.size)
    (hend : ∀ (Λ : LY), (∀ (a : Nat) (K : KD), Λ a = some K → (gs Γ).heap.size ≤ a) → ∀ (M : MM) (κ : Nat × Nat) (lv : List (Option Value)), κ.1 ≤ 601024 ∧ κ.2 ≤ 7293034 → V Γ D Λ M κ 2154 lv [vi 1]) :
    VU Γ D (fun _ => none) (fun _ => none) (fun _ _ => 0) (gs Γ).heap.size (0, 0) 0 [some (.ref b), none, none, none, none, none, none] [] := by
  obtain ⟨s, hs⟩ : ∃ s, (gs Γ).heap.size = s := ⟨_, rfl⟩
  rw [hs]
  refine VU_new (ci := 4) (q := 3) g dL_law_0 n_L_8 u_X4 rfl tyX4_ok vX4_ok rfl rfl ?_
  refine VU_dup (q := 4) g dL_law_3 rfl rfl ?_
  refine VU_callI (q := 7) g (c_X4_init l s) hE dL_law_4 k_L_106 (lay1_eq _ _ _) (Or.inr (Nat.le_of_eq hs)) rfl (by show (gs Γ).heap.size + 1 = s + 1; omega) (soW clsW_0) rfl rfl rfl (fun M4 e4 => ?_)
  refine VU_nm (w' := s + 217) (κ' := (217, 2950)) (by show s + 1 + 216 = s + 217; omega) rfl ?_
  refine VU_astore_n0 (q := 8) g dL_law_7 (by decide) rfl rfl ?_
  refine VU_new (ci := 5) (q := 11) g dL_law_8 n_L_107 u_X5 rfl tyX5_ok vX5_ok rfl rfl ?_
  refine VU_dup (q := 12) g dL_law_11 rfl rfl ?_
  refine VU_callI (q := 15) g (c_X5_init l (s + 217)) hE dL_law_12 k_L_109 (lay1_eq _ _ _) (Or.inr (by omega)) rfl (by show (gs Γ).heap.size + 218 = s + 217 + 1; omega) (soW mdW_0) rfl rfl rfl (fun M5 e5 => ?_)
  refine VU_nm (w' := s + 224) (κ' := (224, 5495)) (by show s + 217 + 1 + 6 = s + 224; omega) rfl ?_
  refine VU_astore_n0 (q := 16) g dL_law_15 (by decide) rfl rfl ?_
  refine VU_iconst (q := 17) g dL_law_16 rfl ?_
  refine VU_newJ (n := 1) (q := 19) g dL_law_17 a_newJ (by decide) rfl rfl ?_
  refine VU_astore_n0 (q := 20) g dL_law_19 (by decide) rfl rfl ?_
  refine VU_nm (w' := s + 225) (κ' := (225, 5496)) rfl rfl ?_
  generalize hM : aset (orM (mdW D (s + 217)) M5 (orM (clsW D s) M4 (fun _ _ => 0))) (s + 224) (fun _ => 0) = M
  refine VU_to (Λ1 := lwW D s) (M1 := M) (fun a K1 ha => ?_) ?_
  · have h9 := lwW_lo ha
    rcases (by omega : a < s + 217 ∨ (s + 217 ≤ a ∧ a < s + 224) ∨ a = s + 224) with h | h | h
    · rw [lwW_1 ⟨h9.1, h⟩] at ha
      exact ⟨K1, (lay1_ne _ _ (by omega)).trans ((orW_0 (mdW_none (Or.inl h))).trans ((lay1_ne _ _ (by omega)).trans (orW_1 ha))), rfl⟩
    · rw [lwW_2 h] at ha
      exact ⟨K1, (lay1_ne _ _ (by omega)).trans (orW_1 ha), rfl⟩
    · subst h
      rw [lwW_3] at ha
      exact ⟨K1, (lay1_eq _ _ _).trans ha, rfl⟩
  have hΛ : ∀ (a : Nat) (K : KD), lwW D s a = some K → (gs Γ).heap.size ≤ a := fun a K ha => by have := (lwW_lo ha).1; omega
  have g2 := g.grow hΛ
  have w : LC Γ D (lwW D s) l s b L xs := ⟨g2, lwW_L, hX, hbl, fun h => by
    rcases h with ⟨K, h⟩ | h
    · have := hΛ b K h; omega
    · omega, hL⟩
  have hR : Rel M s fNew := by
    refine rel_new e4 e5 (fun a b1 b2 => ?_) (fun a b1 b2 => ?_)
    · have key : ∀ K, clsW D s a = some K → M a = M4 a := fun K hK => by rw [← hM, aset_ne _ _ (by omega), orM_0 (mdW_none (by omega)), orM_1 hK]
      rcases (by omega : (s + 1 ≤ a ∧ a ≤ s + 1 + 10) ∨ a = s + 23 ∨ a = s + 190 ∨ a = s + 202 ∨ a = s + 214 ∨ a = s + 215 ∨ ((a < s + 1 ∨ s + 11 < a) ∧ a ≠ s + 23 ∧ a ≠ s + 190 ∧ a ≠ s + 202 ∧ a ≠ s + 214 ∧ a ≠ s + 215)) with h | rfl | rfl | rfl | rfl | rfl | h
      · obtain ⟨K, hK⟩ := offW_is (D := D) h
        exact Or.inl (key K ((clsW_1 (by omega)).trans hK))
      · exact Or.inl (key _ ((clsW_3 (by omega)).trans memW_0))
      · exact Or.inl (key _ ((clsW_4 (by omega)).trans slotW_0))
      · exact Or.inl (key _ ((clsW_5 (by omega)).trans slotW_0))
      · exact Or.inl (key _ ((clsW_6 (by omega)).trans txW_0))
      · exact Or.inl (key _ ((clsW_6 (by omega)).trans txW_1))
      · exact Or.inr h
    · obtain ⟨K, hK⟩ := mdW_is (D := D) (m := s + 217) (b := a) (by omega)
      rw [← hM, aset_ne _ _ (by omega), orM_1 hK]
  refine VU_V hΛ ?_
  show V Γ D (lwW D s) M (225, 5496) 20 [some (.ref b), some (.ref s), some (.ref (s + 217)), some (.ref (s + 224)), none, none, none] []
  refine V_iconst (q := 21) g2 dL_law_20 rfl ?_
  refine V_istore_4 (q := 23) g2 dL_law_21 (by decide) rfl rfl ?_
  exact lw_loop hfl w (hend _ hΛ) 512 0 M (225, 5496) none none fNew (by omega) (by decide) (by decide) hR
