set_option maxHeartbeats 4000000 in
set_option maxRecDepth 100000 in
/-- from the entry: both objects are made, then the loop -/
theorem law_start {Γ : VG} {D : DD} {l : Launch} {b L : Nat} {xs : Nat → Int32} (hfl : l.stackTraces = false) (hLx : L ≤ 1000) (g : VOk Γ D (fun _ => none) RL cL_law 9 l room_1) (hE : va_AO "ChairStamps$Office" (gs Γ)) (hX : va_X b L xs (gs Γ) (gs Γ).heap) (hbl : b < (gs Γ).heap.size)
    (hend : ∀ (Λ : LY), (∀ (a : Nat) (K : KD), Λ a = some K → (gs Γ).heap.size ≤ a) → ∀ (M : MM) (κ : Nat × Nat) (lv : List (Option Value)), κ.1 ≤ 934783 ∧ κ.2 ≤ 6297275 → V Γ D Λ M κ 311 lv [vi 1]) :
    VU Γ D (fun _ => none) (fun _ => none) (fun _ _ => 0) (gs Γ).heap.size (0, 0) 0 [some (.ref b), none, none, none, none, none, none, none, none] [] := by
  obtain ⟨s, hs⟩ : ∃ s, (gs Γ).heap.size = s := ⟨_, rfl⟩
  rw [hs]
  refine VU_new (ci := 4) (q := 3) g dL_law_0 n_L_8 u_X4 rfl tyX4_ok vX4_ok rfl rfl ?_
  refine VU_dup (q := 4) g dL_law_3 rfl rfl ?_
  refine VU_callI (q := 7) g (c_X4_init l s) hE dL_law_4 k_L_215 (lay1_eq _ _ _) (Or.inr (Nat.le_of_eq hs)) rfl (by show (gs Γ).heap.size + 1 = s + 1; omega) (soW clsW_0) rfl rfl rfl (fun M4 h4 => ?_)
  refine VU_nm (w' := s + 217) (κ' := (217, 2950)) (by show s + 1 + 216 = s + 217; omega) rfl ?_
  refine VU_astore_n0 (q := 8) g dL_law_7 (by decide) rfl rfl ?_
  refine VU_new (ci := 4) (q := 11) g dL_law_8 n_L_8 u_X4 rfl tyX4_ok vX4_ok rfl rfl ?_
  refine VU_dup (q := 12) g dL_law_11 rfl rfl ?_
  refine VU_callI (q := 15) g (c_X4_init l (s + 217)) hE dL_law_12 k_L_215 (lay1_eq _ _ _) (Or.inr (by omega)) rfl (by show (gs Γ).heap.size + 218 = s + 217 + 1; omega) (soW clsW_0) rfl rfl rfl (fun M5 h5 => ?_)
  refine VU_nm (w' := s + 434) (κ' := (434, 5900)) (by show s + 217 + 1 + 216 = s + 434; omega) rfl ?_
  refine VU_astore_n0 (q := 16) g dL_law_15 (by decide) rfl rfl ?_
  generalize hM : orM (clsW D (s + 217)) M5 (orM (clsW D s) M4 (fun _ _ => 0)) = M
  refine VU_to (Λ1 := lw2 D s) (M1 := M) (fun a K1 ha => ?_) ?_
  · have hlo := lw2_lo ha
    rcases (by omega : a < s + 217 ∨ s + 217 ≤ a) with h | h
    · rw [lw2_1 h] at ha
      exact ⟨K1, (orW_0 (clsW_none (Or.inl h))).trans ((lay1_ne _ _ (by omega)).trans (orW_1 ha)), rfl⟩
    · rw [lw2_2 h] at ha
      exact ⟨K1, orW_1 ha, rfl⟩
  have hΛ : ∀ (a : Nat) (K : KD), lw2 D s a = some K → (gs Γ).heap.size ≤ a := fun a K ha => by have := lw2_lo ha; omega
  have g2 := g.grow hΛ
  have hbA : ¬ Aw (lw2 D s) (gs Γ).heap.size b := fun h => by
    rcases h with ⟨K, h⟩ | h
    · have := hΛ b K h; omega
    · omega
  have key4 : ∀ (a : Nat) (K : KD), clsW D s a = some K → M a = M4 a := fun a K hK => by
    have hr := clsW_some hK
    rw [← hM, orM_0 (clsW_none (by omega)), orM_1 hK]
  have key5 : ∀ (a : Nat) (K : KD), clsW D (s + 217) a = some K → M a = M5 a := fun a K hK => by rw [← hM, orM_1 hK]
  have wis : ∀ (o a : Nat), ((o + 1 ≤ a ∧ a ≤ o + 11) ∨ a = o + 23 ∨ a = o + 190 ∨ a = o + 202 ∨ a = o + 214) → ∃ K, clsW D o a = some K := fun o a h => by
    rcases h with h | rfl | rfl | rfl | rfl
    · obtain ⟨K, hK⟩ := offW_is (D := D) (o := o + 1) (b := a) (by omega)
      exact ⟨K, (clsW_1 (by omega)).trans hK⟩
    · exact ⟨_, (clsW_3 (by omega)).trans memW_0⟩
    · exact ⟨_, (clsW_4 (by omega)).trans slotW_0⟩
    · exact ⟨_, (clsW_5 (by omega)).trans slotW_0⟩
    · exact ⟨_, (clsW_6 (by omega)).trans txW_0⟩
  have hO : Os M s s0 := Os_new h4 (fun a ha => by
    obtain ⟨K, hK⟩ := wis s a ha
    exact key4 a K hK)
  have hQ : Os M (s + 217) s0 := Os_new h5 (fun a ha => by
    obtain ⟨K, hK⟩ := wis (s + 217) a ha
    exact key5 a K hK)
  refine VU_V hΛ ?_
  show V Γ D (lw2 D s) M (434, 5900) 16 [some (.ref b), some (.ref s), some (.ref (s + 217)), none, none, none, none, none, none] []
  exact lw_begin hfl hLx g2 ⟨hX, hbl, hbA⟩ (Or.inl (Nat.le_refl _)) lw2_L.1 lw2_L.2 (hend _ hΛ) hO hQ ⟨by decide, by decide⟩
