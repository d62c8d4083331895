abbrev rm_X4_chair : Room := { frames := 7, cells := 1, slots := 6, locals := 111 }
set_option maxHeartbeats 4000000 in
set_option maxRecDepth 100000 in
theorem c_X4_chair (l : Launch) (hfl : l.stackTraces = false) {D : DD} {Λ : LY} {M : MM} {s : Nat} {f : Int → Int} {gu len : Int} (hL : ClsL D Λ s) (hO : Off M (s + 1) f) (hI : Inv f) (hn : 0 ≤ M (s + 23) 1 ∧ M (s + 23) 1 < 15) (hc : 0 ≤ M (s + 23) 2 ∧ M (s + 23) 2 ≤ 14) (hr1 : inR gu) (hr2 : inR len) : CXI l yX4_chair cX4_chair 3 .int rm_X4_chair [.ref s, vi gu, vi len] D Λ M (fun z M1 => (0 ≤ gu ∧ gu < 4) ∧ (100 ≤ len ∧ len ≤ 900) ∧ (f 0 < 10) ∧ z = f 0 ∧ Act M s f (fChair f gu len) M1) (fun E M1 => (¬ (0 ≤ gu ∧ gu < 4) ∧ E = xIO ∧ Dft M s f M1) ∨ ((0 ≤ gu ∧ gu < 4) ∧ ¬ (100 ≤ len ∧ len ≤ 900) ∧ E = xIA ∧ Dft M s f M1) ∨ ((0 ≤ gu ∧ gu < 4) ∧ (100 ≤ len ∧ len ≤ 900) ∧ ¬ (f 0 < 10) ∧ E = xIS ∧ Dft M s f M1)) := by
  refine CXI_of rfl rfl (Nat.le_of_ble_eq_true rfl) (fun Γ g r => ?_)
  have h0 := hI.1
  have h1 := hI.2.1
  refine V_aload_n (q := 1) g dX4_chair_0 rfl rfl ?_
  refine V_getR (q := 4) g dX4_chair_1 rfl f_X4_22 rfl hL.1 rfl ?_
  refine V_aload_n (q := 5) g dX4_chair_4 rfl rfl ?_
  refine V_getR (q := 8) g dX4_chair_5 rfl f_X4_10 rfl hL.1 rfl ?_
  refine V_callVV_1 (q := 11) g (c_X0_draft l hL.2.2.2.1 hL.2.1 hO hI hn (fun i hi => by unfold gO; omega)) dX4_chair_8 k_X4_182 hL.2.2.2.1.1 rfl rfl rfl rfl ⟨rfl, rfl⟩ rfl (fun M1 e1 => ?_)
  obtain ⟨hO1, hT1⟩ := e1
  have hOd : Off M1 (s + 1) f := hO.oth hT1 (Or.inl (by unfold gO; omega))
  have hD : M1 (s + 23) = M (s + 23) := hT1 _ (by unfold gO; omega)
  refine V_aload_n (q := 12) g dX4_chair_11 rfl rfl ?_
  refine V_aload_n (q := 13) g dX4_chair_12 rfl rfl ?_
  refine V_getR (q := 16) g dX4_chair_13 rfl f_X4_10 rfl hL.1 rfl ?_
  refine V_iload_n (q := 17) g dX4_chair_16 rfl rfl ?_
  refine V_iload_n (q := 18) g dX4_chair_17 rfl rfl ?_
  refine V_callVI_2 (q := 21) g (c_X1_addChair l hL.2.1 hOd hI (by omega) (by omega)) dX4_chair_18 k_X4_186 hL.2.1.1 rfl rfl rfl rfl ⟨rfl, rfl⟩ rfl (fun z2 M2 e2 => ?_)
  obtain e2 := e2
  have hz9 : (z2 = -2 ∨ z2 = -3 ∨ z2 = -4 ∨ 0 ≤ z2) ∧ z2 < 2147483648 := by
    rcases e2 with ⟨q0, q1, _⟩ | ⟨q0, q1, q2, _⟩ | ⟨q0, q1, q2, q3, _⟩ | ⟨q0, q1, q2, q3, _, hT9⟩
    · omega
    · omega
    · omega
    · skip
      omega
  have hm9 : M2 (s + 23) = M1 (s + 23) := by
    rcases e2 with ⟨q0, q1, rfl⟩ | ⟨q0, q1, q2, rfl⟩ | ⟨q0, q1, q2, q3, rfl⟩ | ⟨q0, q1, q2, q3, hO9, hT9⟩
    · rfl
    · rfl
    · rfl
    · exact hT9 _ (by omega)
  refine V_callVXI_1 (q := 24) g (c_X4_acted l hfl hL hz9 (by rw [hm9, hD]; exact hn) (by rw [hm9, hD]; exact hc)) dX4_chair_21 k_X4_189 hL.1 rfl rfl rfl rfl rfl (fun z3 M3 e3 => ?_) (fun E3 M3 x3 => VX_out g r rfl ((by
      rcases x3 with ⟨a9, rfl, rfl⟩ | ⟨a9, rfl, rfl⟩ | ⟨a9, rfl, rfl⟩ <;> rcases e2 with ⟨q0, q1, rfl⟩ | ⟨q0, q1, q2, rfl⟩ | ⟨q0, q1, q2, q3, rfl⟩ | ⟨q0, q1, q2, q3, hO9, hT9⟩ <;> first | (exfalso; omega) | exact Or.inl (⟨by omega, rfl, hO1, hT1⟩) | exact Or.inr (Or.inl (⟨by omega, by omega, rfl, hO1, hT1⟩)) | exact Or.inr (Or.inr (⟨by omega, by omega, by omega, rfl, hO1, hT1⟩)))))
  obtain ⟨q9, e3, hk3⟩ := e3
  exact V_ireturnX g r rfl dX4_chair_24 rfl (by
      rcases e2 with ⟨q0, q1, rfl⟩ | ⟨q0, q1, q2, rfl⟩ | ⟨q0, q1, q2, q3, rfl⟩ | ⟨q0, q1, q2, q3, hO9, hT9⟩
      · exfalso; omega
      · exfalso; omega
      · exfalso; omega
      · exact ⟨by omega, by omega, by omega, e3.trans q0, M1, M2, ⟨hO1, hT1⟩, hO9, hT9, hk3⟩)
abbrev rm_X4_floor : Room := { frames := 7, cells := 1, slots := 6, locals := 111 }
set_option maxHeartbeats 4000000 in
set_option maxRecDepth 100000 in
theorem c_X4_floor (l : Launch) (hfl : l.stackTraces = false) {D : DD} {Λ : LY} {M : MM} {s : Nat} {f : Int → Int} {x1 x2 x3 x4 : Int} (hL : ClsL D Λ s) (hO : Off M (s + 1) f) (hI : Inv f) (hn : 0 ≤ M (s + 23) 1 ∧ M (s + 23) 1 < 15) (hc : 0 ≤ M (s + 23) 2 ∧ M (s + 23) 2 ≤ 14) (hr1 : inR x1) (hr2 : inR x2) (hr3 : inR x3) (hr4 : inR x4) : CXI l yX4_floor cX4_floor 5 .int rm_X4_floor [.ref s, vi x1, vi x2, vi x3, vi x4] D Λ M (fun z M1 => ((0 ≤ x1 ∧ x1 ≤ 50) ∧ (0 ≤ x2 ∧ x2 ≤ 50) ∧ (0 ≤ x3 ∧ x3 ≤ 50) ∧ (0 ≤ x4 ∧ x4 ≤ 50)) ∧ (f 1 < 4) ∧ z = f 1 ∧ Act M s f (fFloor f x1 x2 x3 x4) M1) (fun E M1 => (¬ ((0 ≤ x1 ∧ x1 ≤ 50) ∧ (0 ≤ x2 ∧ x2 ≤ 50) ∧ (0 ≤ x3 ∧ x3 ≤ 50) ∧ (0 ≤ x4 ∧ x4 ≤ 50)) ∧ E = xIA ∧ Dft M s f M1) ∨ (((0 ≤ x1 ∧ x1 ≤ 50) ∧ (0 ≤ x2 ∧ x2 ≤ 50) ∧ (0 ≤ x3 ∧ x3 ≤ 50) ∧ (0 ≤ x4 ∧ x4 ≤ 50)) ∧ ¬ (f 1 < 4) ∧ E = xIS ∧ Dft M s f M1)) := by
  refine CXI_of rfl rfl (Nat.le_of_ble_eq_true rfl) (fun Γ g r => ?_)
  have h0 := hI.1
  have h1 := hI.2.1
  refine V_aload_n (q := 1) g dX4_floor_0 rfl rfl ?_
  refine V_getR (q := 4) g dX4_floor_1 rfl f_X4_22 rfl hL.1 rfl ?_
  refine V_aload_n (q := 5) g dX4_floor_4 rfl rfl ?_
  refine V_getR (q := 8) g dX4_floor_5 rfl f_X4_10 rfl hL.1 rfl ?_
  refine V_callVV_1 (q := 11) g (c_X0_draft l hL.2.2.2.1 hL.2.1 hO hI hn (fun i hi => by unfold gO; omega)) dX4_floor_8 k_X4_182 hL.2.2.2.1.1 rfl rfl rfl rfl ⟨rfl, rfl⟩ rfl (fun M1 e1 => ?_)
  obtain ⟨hO1, hT1⟩ := e1
  have hOd : Off M1 (s + 1) f := hO.oth hT1 (Or.inl (by unfold gO; omega))
  have hD : M1 (s + 23) = M (s + 23) := hT1 _ (by unfold gO; omega)
  refine V_aload_n (q := 12) g dX4_floor_11 rfl rfl ?_
  refine V_aload_n (q := 13) g dX4_floor_12 rfl rfl ?_
  refine V_getR (q := 16) g dX4_floor_13 rfl f_X4_10 rfl hL.1 rfl ?_
  refine V_iload_n (q := 17) g dX4_floor_16 rfl rfl ?_
  refine V_iload_n (q := 18) g dX4_floor_17 rfl rfl ?_
  refine V_iload_n (q := 19) g dX4_floor_18 rfl rfl ?_
  refine V_iload (q := 21) g dX4_floor_19 rfl rfl ?_
  refine V_callVI_4 (q := 24) g (c_X1_layFloor l hL.2.1 hOd hI (by omega) (by omega) (by omega) (by omega)) dX4_floor_21 k_X4_192 hL.2.1.1 rfl rfl rfl rfl ⟨rfl, rfl⟩ rfl (fun z2 M2 e2 => ?_)
  obtain e2 := e2
  have hz9 : (z2 = -2 ∨ z2 = -3 ∨ z2 = -4 ∨ 0 ≤ z2) ∧ z2 < 2147483648 := by
    rcases e2 with ⟨q0, q1, _⟩ | ⟨q0, q1, q2, _⟩ | ⟨q0, q1, q2, _, hT9⟩
    · omega
    · omega
    · skip
      omega
  have hm9 : M2 (s + 23) = M1 (s + 23) := by
    rcases e2 with ⟨q0, q1, rfl⟩ | ⟨q0, q1, q2, rfl⟩ | ⟨q0, q1, q2, hO9, hT9⟩
    · rfl
    · rfl
    · exact hT9 _ (by omega)
  refine V_callVXI_1 (q := 27) g (c_X4_acted l hfl hL hz9 (by rw [hm9, hD]; exact hn) (by rw [hm9, hD]; exact hc)) dX4_floor_24 k_X4_189 hL.1 rfl rfl rfl rfl rfl (fun z3 M3 e3 => ?_) (fun E3 M3 x3 => VX_out g r rfl ((by
      rcases x3 with ⟨a9, rfl, rfl⟩ | ⟨a9, rfl, rfl⟩ | ⟨a9, rfl, rfl⟩ <;> rcases e2 with ⟨q0, q1, rfl⟩ | ⟨q0, q1, q2, rfl⟩ | ⟨q0, q1, q2, hO9, hT9⟩ <;> first | (exfalso; omega) | exact Or.inl (⟨by omega, rfl, hO1, hT1⟩) | exact Or.inr (⟨by omega, by omega, rfl, hO1, hT1⟩))))
  obtain ⟨q9, e3, hk3⟩ := e3
  exact V_ireturnX g r rfl dX4_floor_27 rfl (by
      rcases e2 with ⟨q0, q1, rfl⟩ | ⟨q0, q1, q2, rfl⟩ | ⟨q0, q1, q2, hO9, hT9⟩
      · exfalso; omega
      · exfalso; omega
      · exact ⟨by omega, by omega, e3.trans q0, M1, M2, ⟨hO1, hT1⟩, hO9, hT9, hk3⟩)
abbrev rm_X4_level : Room := { frames := 7, cells := 1, slots := 6, locals := 111 }
set_option maxHeartbeats 4000000 in
set_option maxRecDepth 100000 in
theorem c_X4_level (l : Launch) (hfl : l.stackTraces = false) {D : DD} {Λ : LY} {M : MM} {s : Nat} {f : Int → Int} {fl k v : Int} (hL : ClsL D Λ s) (hO : Off M (s + 1) f) (hI : Inv f) (hn : 0 ≤ M (s + 23) 1 ∧ M (s + 23) 1 < 15) (hc : 0 ≤ M (s + 23) 2 ∧ M (s + 23) 2 ≤ 14) (hr1 : inR fl) (hr2 : inR k) (hr3 : inR v) : CXI l yX4_level cX4_level 4 .int rm_X4_level [.ref s, vi fl, vi k, vi v] D Λ M (fun z M1 => ((0 ≤ fl ∧ fl < f 1) ∧ 0 ≤ k ∧ k < 4) ∧ (0 ≤ v ∧ v ≤ 50) ∧ z = f (12 + (4 * fl + k)) ∧ Act M s f (fLevel f fl k v) M1) (fun E M1 => (¬ ((0 ≤ fl ∧ fl < f 1) ∧ 0 ≤ k ∧ k < 4) ∧ E = xIO ∧ Dft M s f M1) ∨ (((0 ≤ fl ∧ fl < f 1) ∧ 0 ≤ k ∧ k < 4) ∧ ¬ (0 ≤ v ∧ v ≤ 50) ∧ E = xIA ∧ Dft M s f M1)) := by
  refine CXI_of rfl rfl (Nat.le_of_ble_eq_true rfl) (fun Γ g r => ?_)
  have h0 := hI.1
  have h1 := hI.2.1
  refine V_aload_n (q := 1) g dX4_level_0 rfl rfl ?_
  refine V_getR (q := 4) g dX4_level_1 rfl f_X4_22 rfl hL.1 rfl ?_
  refine V_aload_n (q := 5) g dX4_level_4 rfl rfl ?_
  refine V_getR (q := 8) g dX4_level_5 rfl f_X4_10 rfl hL.1 rfl ?_
  refine V_callVV_1 (q := 11) g (c_X0_draft l hL.2.2.2.1 hL.2.1 hO hI hn (fun i hi => by unfold gO; omega)) dX4_level_8 k_X4_182 hL.2.2.2.1.1 rfl rfl rfl rfl ⟨rfl, rfl⟩ rfl (fun M1 e1 => ?_)
  obtain ⟨hO1, hT1⟩ := e1
  have hOd : Off M1 (s + 1) f := hO.oth hT1 (Or.inl (by unfold gO; omega))
  have hD : M1 (s + 23) = M (s + 23) := hT1 _ (by unfold gO; omega)
  refine V_aload_n (q := 12) g dX4_level_11 rfl rfl ?_
  refine V_aload_n (q := 13) g dX4_level_12 rfl rfl ?_
  refine V_getR (q := 16) g dX4_level_13 rfl f_X4_10 rfl hL.1 rfl ?_
  refine V_iload_n (q := 17) g dX4_level_16 rfl rfl ?_
  refine V_iload_n (q := 18) g dX4_level_17 rfl rfl ?_
  refine V_iload_n (q := 19) g dX4_level_18 rfl rfl ?_
  refine V_callVI_3 (q := 22) g (c_X1_changeSpot l hL.2.1 hOd hI (by omega) (by omega) (by omega)) dX4_level_19 k_X4_196 hL.2.1.1 rfl rfl rfl rfl ⟨rfl, rfl⟩ rfl (fun z2 M2 e2 => ?_)
  obtain e2 := e2
  have hz9 : (z2 = -2 ∨ z2 = -3 ∨ z2 = -4 ∨ 0 ≤ z2) ∧ z2 < 2147483648 := by
    rcases e2 with ⟨q0, q1, _⟩ | ⟨q0, q1, q2, _⟩ | ⟨q0, q1, q2, q3, _, hT9⟩
    · omega
    · omega
    · have := hI.2.2.2.2.1 (4 * fl + k) (by omega) (by omega)
      omega
  have hm9 : M2 (s + 23) = M1 (s + 23) := by
    rcases e2 with ⟨q0, q1, rfl⟩ | ⟨q0, q1, q2, rfl⟩ | ⟨q0, q1, q2, q3, hO9, hT9⟩
    · rfl
    · rfl
    · exact hT9 _ (by omega)
  refine V_callVXI_1 (q := 25) g (c_X4_acted l hfl hL hz9 (by rw [hm9, hD]; exact hn) (by rw [hm9, hD]; exact hc)) dX4_level_22 k_X4_189 hL.1 rfl rfl rfl rfl rfl (fun z3 M3 e3 => ?_) (fun E3 M3 x3 => VX_out g r rfl ((by
      rcases x3 with ⟨a9, rfl, rfl⟩ | ⟨a9, rfl, rfl⟩ | ⟨a9, rfl, rfl⟩ <;> rcases e2 with ⟨q0, q1, rfl⟩ | ⟨q0, q1, q2, rfl⟩ | ⟨q0, q1, q2, q3, hO9, hT9⟩ <;> first | (exfalso; omega) | exact Or.inl (⟨by omega, rfl, hO1, hT1⟩) | exact Or.inr (⟨by omega, by omega, rfl, hO1, hT1⟩))))
  obtain ⟨q9, e3, hk3⟩ := e3
  exact V_ireturnX g r rfl dX4_level_25 rfl (by
      rcases e2 with ⟨q0, q1, rfl⟩ | ⟨q0, q1, q2, rfl⟩ | ⟨q0, q1, q2, q3, hO9, hT9⟩
      · exfalso; omega
      · exfalso; omega
      · exact ⟨by omega, by omega, e3.trans q0, M1, M2, ⟨hO1, hT1⟩, hO9, hT9, hk3⟩)
abbrev rm_X4_bring : Room := { frames := 7, cells := 1, slots := 6, locals := 111 }
set_option maxHeartbeats 4000000 in
set_option maxRecDepth 100000 in
theorem c_X4_bring (l : Launch) (hfl : l.stackTraces = false) {D : DD} {Λ : LY} {M : MM} {s : Nat} {f : Int → Int} {c fl q : Int} (hL : ClsL D Λ s) (hO : Off M (s + 1) f) (hI : Inv f) (hn : 0 ≤ M (s + 23) 1 ∧ M (s + 23) 1 < 15) (hc : 0 ≤ M (s + 23) 2 ∧ M (s + 23) 2 ≤ 14) (hr1 : inR c) (hr2 : inR fl) (hr3 : inR q) : CXI l yX4_bring cX4_bring 4 .int rm_X4_bring [.ref s, vi c, vi fl, vi q] D Λ M (fun z M1 => ((0 ≤ c ∧ c < f 0) ∧ (0 ≤ fl ∧ fl < f 1)) ∧ (0 ≤ q ∧ q < 4) ∧ z = sWob f c fl q ∧ Act M s f (fBring f c fl q) M1) (fun E M1 => (¬ ((0 ≤ c ∧ c < f 0) ∧ (0 ≤ fl ∧ fl < f 1)) ∧ E = xIO ∧ Dft M s f M1) ∨ (((0 ≤ c ∧ c < f 0) ∧ (0 ≤ fl ∧ fl < f 1)) ∧ ¬ (0 ≤ q ∧ q < 4) ∧ E = xIA ∧ Dft M s f M1)) := by
  refine CXI_of rfl rfl (Nat.le_of_ble_eq_true rfl) (fun Γ g r => ?_)
  have h0 := hI.1
  have h1 := hI.2.1
  refine V_aload_n (q := 1) g dX4_bring_0 rfl rfl ?_
  refine V_getR (q := 4) g dX4_bring_1 rfl f_X4_22 rfl hL.1 rfl ?_
  refine V_aload_n (q := 5) g dX4_bring_4 rfl rfl ?_
  refine V_getR (q := 8) g dX4_bring_5 rfl f_X4_10 rfl hL.1 rfl ?_
  refine V_callVV_1 (q := 11) g (c_X0_draft l hL.2.2.2.1 hL.2.1 hO hI hn (fun i hi => by unfold gO; omega)) dX4_bring_8 k_X4_182 hL.2.2.2.1.1 rfl rfl rfl rfl ⟨rfl, rfl⟩ rfl (fun M1 e1 => ?_)
  obtain ⟨hO1, hT1⟩ := e1
  have hOd : Off M1 (s + 1) f := hO.oth hT1 (Or.inl (by unfold gO; omega))
  have hD : M1 (s + 23) = M (s + 23) := hT1 _ (by unfold gO; omega)
  refine V_aload_n (q := 12) g dX4_bring_11 rfl rfl ?_
  refine V_aload_n (q := 13) g dX4_bring_12 rfl rfl ?_
  refine V_getR (q := 16) g dX4_bring_13 rfl f_X4_10 rfl hL.1 rfl ?_
  refine V_iload_n (q := 17) g dX4_bring_16 rfl rfl ?_
  refine V_iload_n (q := 18) g dX4_bring_17 rfl rfl ?_
  refine V_iload_n (q := 19) g dX4_bring_18 rfl rfl ?_
  refine V_callVI_3 (q := 22) g (c_X1_moveChair l hL.2.1 hOd hI (by omega) (by omega) (by omega)) dX4_bring_19 k_X4_200 hL.2.1.1 rfl rfl rfl rfl ⟨rfl, rfl⟩ rfl (fun z2 M2 e2 => ?_)
  obtain e2 := e2
  have hz9 : (z2 = -2 ∨ z2 = -3 ∨ z2 = -4 ∨ 0 ≤ z2) ∧ z2 < 2147483648 := by
    rcases e2 with ⟨q0, q1, _⟩ | ⟨q0, q1, q2, _⟩ | ⟨q0, q1, q2, q3, _, hT9⟩
    · omega
    · omega
    · have := sWob_r hI (c := c) (fl := fl) (q := q) (by omega) (by omega) (by omega)
      omega
  have hm9 : M2 (s + 23) = M1 (s + 23) := by
    rcases e2 with ⟨q0, q1, rfl⟩ | ⟨q0, q1, q2, rfl⟩ | ⟨q0, q1, q2, q3, hO9, hT9⟩
    · rfl
    · rfl
    · exact hT9 _ (by omega)
  refine V_callVXI_1 (q := 25) g (c_X4_acted l hfl hL hz9 (by rw [hm9, hD]; exact hn) (by rw [hm9, hD]; exact hc)) dX4_bring_22 k_X4_189 hL.1 rfl rfl rfl rfl rfl (fun z3 M3 e3 => ?_) (fun E3 M3 x3 => VX_out g r rfl ((by
      rcases x3 with ⟨a9, rfl, rfl⟩ | ⟨a9, rfl, rfl⟩ | ⟨a9, rfl, rfl⟩ <;> rcases e2 with ⟨q0, q1, rfl⟩ | ⟨q0, q1, q2, rfl⟩ | ⟨q0, q1, q2, q3, hO9, hT9⟩ <;> first | (exfalso; omega) | exact Or.inl (⟨by omega, rfl, hO1, hT1⟩) | exact Or.inr (⟨by omega, by omega, rfl, hO1, hT1⟩))))
  obtain ⟨q9, e3, hk3⟩ := e3
  exact V_ireturnX g r rfl dX4_bring_25 rfl (by
      rcases e2 with ⟨q0, q1, rfl⟩ | ⟨q0, q1, q2, rfl⟩ | ⟨q0, q1, q2, q3, hO9, hT9⟩
      · exfalso; omega
      · exfalso; omega
      · exact ⟨by omega, by omega, e3.trans q0, M1, M2, ⟨hO1, hT1⟩, hO9, hT9, hk3⟩)
abbrev rm_X4_saw : Room := { frames := 7, cells := 1, slots := 6, locals := 111 }
set_option maxHeartbeats 4000000 in
set_option maxRecDepth 100000 in
theorem c_X4_saw (l : Launch) (hfl : l.stackTraces = false) {D : DD} {Λ : LY} {M : MM} {s : Nat} {f : Int → Int} {c k n : Int} (hL : ClsL D Λ s) (hO : Off M (s + 1) f) (hI : Inv f) (hn : 0 ≤ M (s + 23) 1 ∧ M (s + 23) 1 < 15) (hc : 0 ≤ M (s + 23) 2 ∧ M (s + 23) 2 ≤ 14) (hr1 : inR c) (hr2 : inR k) (hr3 : inR n) : CXI l yX4_saw cX4_saw 4 .int rm_X4_saw [.ref s, vi c, vi k, vi n] D Λ M (fun z M1 => ((0 ≤ c ∧ c < f 0) ∧ 0 ≤ k ∧ k < 4) ∧ (1 ≤ n ∧ n ≤ 800) ∧ (100 ≤ f (49 + 9 * c + k) - n) ∧ z = f (49 + 9 * c + k) - n ∧ Act M s f (fSaw f c k n) M1) (fun E M1 => (¬ ((0 ≤ c ∧ c < f 0) ∧ 0 ≤ k ∧ k < 4) ∧ E = xIO ∧ Dft M s f M1) ∨ (((0 ≤ c ∧ c < f 0) ∧ 0 ≤ k ∧ k < 4) ∧ ¬ (1 ≤ n ∧ n ≤ 800) ∧ E = xIA ∧ Dft M s f M1) ∨ (((0 ≤ c ∧ c < f 0) ∧ 0 ≤ k ∧ k < 4) ∧ (1 ≤ n ∧ n ≤ 800) ∧ ¬ (100 ≤ f (49 + 9 * c + k) - n) ∧ E = xIS ∧ Dft M s f M1)) := by
  refine CXI_of rfl rfl (Nat.le_of_ble_eq_true rfl) (fun Γ g r => ?_)
  have h0 := hI.1
  have h1 := hI.2.1
  refine V_aload_n (q := 1) g dX4_saw_0 rfl rfl ?_
  refine V_getR (q := 4) g dX4_saw_1 rfl f_X4_22 rfl hL.1 rfl ?_
  refine V_aload_n (q := 5) g dX4_saw_4 rfl rfl ?_
  refine V_getR (q := 8) g dX4_saw_5 rfl f_X4_10 rfl hL.1 rfl ?_
  refine V_callVV_1 (q := 11) g (c_X0_draft l hL.2.2.2.1 hL.2.1 hO hI hn (fun i hi => by unfold gO; omega)) dX4_saw_8 k_X4_182 hL.2.2.2.1.1 rfl rfl rfl rfl ⟨rfl, rfl⟩ rfl (fun M1 e1 => ?_)
  obtain ⟨hO1, hT1⟩ := e1
  have hOd : Off M1 (s + 1) f := hO.oth hT1 (Or.inl (by unfold gO; omega))
  have hD : M1 (s + 23) = M (s + 23) := hT1 _ (by unfold gO; omega)
  refine V_aload_n (q := 12) g dX4_saw_11 rfl rfl ?_
  refine V_aload_n (q := 13) g dX4_saw_12 rfl rfl ?_
  refine V_getR (q := 16) g dX4_saw_13 rfl f_X4_10 rfl hL.1 rfl ?_
  refine V_iload_n (q := 17) g dX4_saw_16 rfl rfl ?_
  refine V_iload_n (q := 18) g dX4_saw_17 rfl rfl ?_
  refine V_iload_n (q := 19) g dX4_saw_18 rfl rfl ?_
  refine V_callVI_3 (q := 22) g (c_X1_sawLeg l hL.2.1 hOd hI (by omega) (by omega) (by omega)) dX4_saw_19 k_X4_203 hL.2.1.1 rfl rfl rfl rfl ⟨rfl, rfl⟩ rfl (fun z2 M2 e2 => ?_)
  obtain e2 := e2
  have hz9 : (z2 = -2 ∨ z2 = -3 ∨ z2 = -4 ∨ 0 ≤ z2) ∧ z2 < 2147483648 := by
    rcases e2 with ⟨q0, q1, _⟩ | ⟨q0, q1, q2, _⟩ | ⟨q0, q1, q2, q3, _⟩ | ⟨q0, q1, q2, q3, _, hT9⟩
    · omega
    · omega
    · omega
    · skip
      omega
  have hm9 : M2 (s + 23) = M1 (s + 23) := by
    rcases e2 with ⟨q0, q1, rfl⟩ | ⟨q0, q1, q2, rfl⟩ | ⟨q0, q1, q2, q3, rfl⟩ | ⟨q0, q1, q2, q3, hO9, hT9⟩
    · rfl
    · rfl
    · rfl
    · exact hT9 _ (by omega)
  refine V_callVXI_1 (q := 25) g (c_X4_acted l hfl hL hz9 (by rw [hm9, hD]; exact hn) (by rw [hm9, hD]; exact hc)) dX4_saw_22 k_X4_189 hL.1 rfl rfl rfl rfl rfl (fun z3 M3 e3 => ?_) (fun E3 M3 x3 => VX_out g r rfl ((by
      rcases x3 with ⟨a9, rfl, rfl⟩ | ⟨a9, rfl, rfl⟩ | ⟨a9, rfl, rfl⟩ <;> rcases e2 with ⟨q0, q1, rfl⟩ | ⟨q0, q1, q2, rfl⟩ | ⟨q0, q1, q2, q3, rfl⟩ | ⟨q0, q1, q2, q3, hO9, hT9⟩ <;> first | (exfalso; omega) | exact Or.inl (⟨by omega, rfl, hO1, hT1⟩) | exact Or.inr (Or.inl (⟨by omega, by omega, rfl, hO1, hT1⟩)) | exact Or.inr (Or.inr (⟨by omega, by omega, by omega, rfl, hO1, hT1⟩)))))
  obtain ⟨q9, e3, hk3⟩ := e3
  exact V_ireturnX g r rfl dX4_saw_25 rfl (by
      rcases e2 with ⟨q0, q1, rfl⟩ | ⟨q0, q1, q2, rfl⟩ | ⟨q0, q1, q2, q3, rfl⟩ | ⟨q0, q1, q2, q3, hO9, hT9⟩
      · exfalso; omega
      · exfalso; omega
      · exfalso; omega
      · exact ⟨by omega, by omega, by omega, e3.trans q0, M1, M2, ⟨hO1, hT1⟩, hO9, hT9, hk3⟩)
abbrev rm_X4_shim : Room := { frames := 7, cells := 1, slots := 6, locals := 111 }
set_option maxHeartbeats 4000000 in
set_option maxRecDepth 100000 in
theorem c_X4_shim (l : Launch) (hfl : l.stackTraces = false) {D : DD} {Λ : LY} {M : MM} {s : Nat} {f : Int → Int} {c k n : Int} (hL : ClsL D Λ s) (hO : Off M (s + 1) f) (hI : Inv f) (hn : 0 ≤ M (s + 23) 1 ∧ M (s + 23) 1 < 15) (hc : 0 ≤ M (s + 23) 2 ∧ M (s + 23) 2 ≤ 14) (hr1 : inR c) (hr2 : inR k) (hr3 : inR n) : CXI l yX4_shim cX4_shim 4 .int rm_X4_shim [.ref s, vi c, vi k, vi n] D Λ M (fun z M1 => ((0 ≤ c ∧ c < f 0) ∧ 0 ≤ k ∧ k < 4) ∧ (1 ≤ n ∧ n ≤ 99) ∧ (f (49 + 9 * c + k) + n ≤ 900) ∧ z = f (49 + 9 * c + k) + n ∧ Act M s f (fShim f c k n) M1) (fun E M1 => (¬ ((0 ≤ c ∧ c < f 0) ∧ 0 ≤ k ∧ k < 4) ∧ E = xIO ∧ Dft M s f M1) ∨ (((0 ≤ c ∧ c < f 0) ∧ 0 ≤ k ∧ k < 4) ∧ ¬ (1 ≤ n ∧ n ≤ 99) ∧ E = xIA ∧ Dft M s f M1) ∨ (((0 ≤ c ∧ c < f 0) ∧ 0 ≤ k ∧ k < 4) ∧ (1 ≤ n ∧ n ≤ 99) ∧ ¬ (f (49 + 9 * c + k) + n ≤ 900) ∧ E = xIS ∧ Dft M s f M1)) := by
  refine CXI_of rfl rfl (Nat.le_of_ble_eq_true rfl) (fun Γ g r => ?_)
  have h0 := hI.1
  have h1 := hI.2.1
  refine V_aload_n (q := 1) g dX4_shim_0 rfl rfl ?_
  refine V_getR (q := 4) g dX4_shim_1 rfl f_X4_22 rfl hL.1 rfl ?_
  refine V_aload_n (q := 5) g dX4_shim_4 rfl rfl ?_
  refine V_getR (q := 8) g dX4_shim_5 rfl f_X4_10 rfl hL.1 rfl ?_
  refine V_callVV_1 (q := 11) g (c_X0_draft l hL.2.2.2.1 hL.2.1 hO hI hn (fun i hi => by unfold gO; omega)) dX4_shim_8 k_X4_182 hL.2.2.2.1.1 rfl rfl rfl rfl ⟨rfl, rfl⟩ rfl (fun M1 e1 => ?_)
  obtain ⟨hO1, hT1⟩ := e1
  have hOd : Off M1 (s + 1) f := hO.oth hT1 (Or.inl (by unfold gO; omega))
  have hD : M1 (s + 23) = M (s + 23) := hT1 _ (by unfold gO; omega)
  refine V_aload_n (q := 12) g dX4_shim_11 rfl rfl ?_
  refine V_aload_n (q := 13) g dX4_shim_12 rfl rfl ?_
  refine V_getR (q := 16) g dX4_shim_13 rfl f_X4_10 rfl hL.1 rfl ?_
  refine V_iload_n (q := 17) g dX4_shim_16 rfl rfl ?_
  refine V_iload_n (q := 18) g dX4_shim_17 rfl rfl ?_
  refine V_iload_n (q := 19) g dX4_shim_18 rfl rfl ?_
  refine V_callVI_3 (q := 22) g (c_X1_shimLeg l hL.2.1 hOd hI (by omega) (by omega) (by omega)) dX4_shim_19 k_X4_206 hL.2.1.1 rfl rfl rfl rfl ⟨rfl, rfl⟩ rfl (fun z2 M2 e2 => ?_)
  obtain e2 := e2
  have hz9 : (z2 = -2 ∨ z2 = -3 ∨ z2 = -4 ∨ 0 ≤ z2) ∧ z2 < 2147483648 := by
    rcases e2 with ⟨q0, q1, _⟩ | ⟨q0, q1, q2, _⟩ | ⟨q0, q1, q2, q3, _⟩ | ⟨q0, q1, q2, q3, _, hT9⟩
    · omega
    · omega
    · omega
    · skip
      omega
  have hm9 : M2 (s + 23) = M1 (s + 23) := by
    rcases e2 with ⟨q0, q1, rfl⟩ | ⟨q0, q1, q2, rfl⟩ | ⟨q0, q1, q2, q3, rfl⟩ | ⟨q0, q1, q2, q3, hO9, hT9⟩
    · rfl
    · rfl
    · rfl
    · exact hT9 _ (by omega)
  refine V_callVXI_1 (q := 25) g (c_X4_acted l hfl hL hz9 (by rw [hm9, hD]; exact hn) (by rw [hm9, hD]; exact hc)) dX4_shim_22 k_X4_189 hL.1 rfl rfl rfl rfl rfl (fun z3 M3 e3 => ?_) (fun E3 M3 x3 => VX_out g r rfl ((by
      rcases x3 with ⟨a9, rfl, rfl⟩ | ⟨a9, rfl, rfl⟩ | ⟨a9, rfl, rfl⟩ <;> rcases e2 with ⟨q0, q1, rfl⟩ | ⟨q0, q1, q2, rfl⟩ | ⟨q0, q1, q2, q3, rfl⟩ | ⟨q0, q1, q2, q3, hO9, hT9⟩ <;> first | (exfalso; omega) | exact Or.inl (⟨by omega, rfl, hO1, hT1⟩) | exact Or.inr (Or.inl (⟨by omega, by omega, rfl, hO1, hT1⟩)) | exact Or.inr (Or.inr (⟨by omega, by omega, by omega, rfl, hO1, hT1⟩)))))
  obtain ⟨q9, e3, hk3⟩ := e3
  exact V_ireturnX g r rfl dX4_shim_25 rfl (by
      rcases e2 with ⟨q0, q1, rfl⟩ | ⟨q0, q1, q2, rfl⟩ | ⟨q0, q1, q2, q3, rfl⟩ | ⟨q0, q1, q2, q3, hO9, hT9⟩
      · exfalso; omega
      · exfalso; omega
      · exfalso; omega
      · exact ⟨by omega, by omega, by omega, e3.trans q0, M1, M2, ⟨hO1, hT1⟩, hO9, hT9, hk3⟩)
abbrev rm_X4_test : Room := { frames := 7, cells := 1, slots := 6, locals := 119 }
set_option maxHeartbeats 4000000 in
set_option maxRecDepth 100000 in
theorem c_X4_test (l : Launch) (hfl : l.stackTraces = false) {D : DD} {Λ : LY} {M : MM} {s : Nat} {f : Int → Int} {c : Int} (hL : ClsL D Λ s) (hO : Off M (s + 1) f) (hI : Inv f) (hn : 0 ≤ M (s + 23) 1 ∧ M (s + 23) 1 < 15) (hc : 0 ≤ M (s + 23) 2 ∧ M (s + 23) 2 ≤ 14) (hr1 : inR c) : CXI l yX4_test cX4_test 2 .int rm_X4_test [.ref s, vi c] D Λ M (fun z M1 => ((0 ≤ c ∧ c < f 0)) ∧ z = sWhy f c ∧ Act M s f (fTest f c) M1) (fun E M1 => ¬ ((0 ≤ c ∧ c < f 0)) ∧ E = xIO ∧ Dft M s f M1) := by
  refine CXI_of rfl rfl (Nat.le_of_ble_eq_true rfl) (fun Γ g r => ?_)
  have h0 := hI.1
  have h1 := hI.2.1
  refine V_aload_n (q := 1) g dX4_test_0 rfl rfl ?_
  refine V_getR (q := 4) g dX4_test_1 rfl f_X4_22 rfl hL.1 rfl ?_
  refine V_aload_n (q := 5) g dX4_test_4 rfl rfl ?_
  refine V_getR (q := 8) g dX4_test_5 rfl f_X4_10 rfl hL.1 rfl ?_
  refine V_callVV_1 (q := 11) g (c_X0_draft l hL.2.2.2.1 hL.2.1 hO hI hn (fun i hi => by unfold gO; omega)) dX4_test_8 k_X4_182 hL.2.2.2.1.1 rfl rfl rfl rfl ⟨rfl, rfl⟩ rfl (fun M1 e1 => ?_)
  obtain ⟨hO1, hT1⟩ := e1
  have hOd : Off M1 (s + 1) f := hO.oth hT1 (Or.inl (by unfold gO; omega))
  have hD : M1 (s + 23) = M (s + 23) := hT1 _ (by unfold gO; omega)
  refine V_aload_n (q := 12) g dX4_test_11 rfl rfl ?_
  refine V_aload_n (q := 13) g dX4_test_12 rfl rfl ?_
  refine V_getR (q := 16) g dX4_test_13 rfl f_X4_10 rfl hL.1 rfl ?_
  refine V_iload_n (q := 17) g dX4_test_16 rfl rfl ?_
  refine V_callVI_1 (q := 20) g (c_X1_testChair l hL.2.1 hOd hI (by omega)) dX4_test_17 k_X4_209 hL.2.1.1 rfl rfl rfl rfl ⟨rfl, rfl⟩ rfl (fun z2 M2 e2 => ?_)
  obtain e2 := e2
  have hz9 : (z2 = -2 ∨ z2 = -3 ∨ z2 = -4 ∨ 0 ≤ z2) ∧ z2 < 2147483648 := by
    rcases e2 with ⟨q0, q1, _⟩ | ⟨q0, q1, q2, _, hT9⟩
    · omega
    · have := sWhy_r f c
      omega
  have hm9 : M2 (s + 23) = M1 (s + 23) := by
    rcases e2 with ⟨q0, q1, rfl⟩ | ⟨q0, q1, q2, hO9, hT9⟩
    · rfl
    · exact hT9 _ (by omega)
  refine V_callVXI_1 (q := 23) g (c_X4_acted l hfl hL hz9 (by rw [hm9, hD]; exact hn) (by rw [hm9, hD]; exact hc)) dX4_test_20 k_X4_189 hL.1 rfl rfl rfl rfl rfl (fun z3 M3 e3 => ?_) (fun E3 M3 x3 => VX_out g r rfl ((by
      rcases x3 with ⟨a9, rfl, rfl⟩ | ⟨a9, rfl, rfl⟩ | ⟨a9, rfl, rfl⟩ <;> rcases e2 with ⟨q0, q1, rfl⟩ | ⟨q0, q1, q2, hO9, hT9⟩ <;> first | (exfalso; omega) | exact ⟨by omega, rfl, hO1, hT1⟩)))
  obtain ⟨q9, e3, hk3⟩ := e3
  exact V_ireturnX g r rfl dX4_test_23 rfl (by
      rcases e2 with ⟨q0, q1, rfl⟩ | ⟨q0, q1, q2, hO9, hT9⟩
      · exfalso; omega
      · exact ⟨by omega, e3.trans q0, M1, M2, ⟨hO1, hT1⟩, hO9, hT9, hk3⟩)
abbrev rm_X4_sit : Room := { frames := 7, cells := 1, slots := 6, locals := 118 }
set_option maxHeartbeats 4000000 in
set_option maxRecDepth 100000 in
theorem c_X4_sit (l : Launch) (hfl : l.stackTraces = false) {D : DD} {Λ : LY} {M : MM} {s : Nat} {f : Int → Int} {c wt : Int} (hL : ClsL D Λ s) (hO : Off M (s + 1) f) (hI : Inv f) (hn : 0 ≤ M (s + 23) 1 ∧ M (s + 23) 1 < 15) (hc : 0 ≤ M (s + 23) 2 ∧ M (s + 23) 2 ≤ 14) (hr1 : inR c) (hr2 : inR wt) : CXI l yX4_sit cX4_sit 3 .int rm_X4_sit [.ref s, vi c, vi wt] D Λ M (fun z M1 => ((0 ≤ c ∧ c < f 0)) ∧ (1 ≤ wt ∧ wt ≤ 200) ∧ z = sSitN f c (wt / f 11) (sIdle f c) 4 ∧ Act M s f (fSit f c wt) M1) (fun E M1 => (¬ ((0 ≤ c ∧ c < f 0)) ∧ E = xIO ∧ Dft M s f M1) ∨ (((0 ≤ c ∧ c < f 0)) ∧ ¬ (1 ≤ wt ∧ wt ≤ 200) ∧ E = xIA ∧ Dft M s f M1)) := by
  refine CXI_of rfl rfl (Nat.le_of_ble_eq_true rfl) (fun Γ g r => ?_)
  have h0 := hI.1
  have h1 := hI.2.1
  refine V_aload_n (q := 1) g dX4_sit_0 rfl rfl ?_
  refine V_getR (q := 4) g dX4_sit_1 rfl f_X4_22 rfl hL.1 rfl ?_
  refine V_aload_n (q := 5) g dX4_sit_4 rfl rfl ?_
  refine V_getR (q := 8) g dX4_sit_5 rfl f_X4_10 rfl hL.1 rfl ?_
  refine V_callVV_1 (q := 11) g (c_X0_draft l hL.2.2.2.1 hL.2.1 hO hI hn (fun i hi => by unfold gO; omega)) dX4_sit_8 k_X4_182 hL.2.2.2.1.1 rfl rfl rfl rfl ⟨rfl, rfl⟩ rfl (fun M1 e1 => ?_)
  obtain ⟨hO1, hT1⟩ := e1
  have hOd : Off M1 (s + 1) f := hO.oth hT1 (Or.inl (by unfold gO; omega))
  have hD : M1 (s + 23) = M (s + 23) := hT1 _ (by unfold gO; omega)
  refine V_aload_n (q := 12) g dX4_sit_11 rfl rfl ?_
  refine V_aload_n (q := 13) g dX4_sit_12 rfl rfl ?_
  refine V_getR (q := 16) g dX4_sit_13 rfl f_X4_10 rfl hL.1 rfl ?_
  refine V_iload_n (q := 17) g dX4_sit_16 rfl rfl ?_
  refine V_iload_n (q := 18) g dX4_sit_17 rfl rfl ?_
  refine V_callVI_2 (q := 21) g (c_X1_sitDown l hL.2.1 hOd hI (by omega) (by omega)) dX4_sit_18 k_X4_212 hL.2.1.1 rfl rfl rfl rfl ⟨rfl, rfl⟩ rfl (fun z2 M2 e2 => ?_)
  obtain e2 := e2
  have hz9 : (z2 = -2 ∨ z2 = -3 ∨ z2 = -4 ∨ 0 ≤ z2) ∧ z2 < 2147483648 := by
    rcases e2 with ⟨q0, q1, _⟩ | ⟨q0, q1, q2, _⟩ | ⟨q0, q1, q2, q3, _, hT9⟩
    · omega
    · omega
    · have := (sitN (idle := sIdle f c) hI (by omega : 0 ≤ c ∧ c < f 0) (w := wt / f 11) (Int.ediv_nonneg (by omega) (by have := hI.2.2.2.1; omega)) 4 (by decide)).2.2
      omega
  have hm9 : M2 (s + 23) = M1 (s + 23) := by
    rcases e2 with ⟨q0, q1, rfl⟩ | ⟨q0, q1, q2, rfl⟩ | ⟨q0, q1, q2, q3, hO9, hT9⟩
    · rfl
    · rfl
    · exact hT9 _ (by omega)
  refine V_callVXI_1 (q := 24) g (c_X4_acted l hfl hL hz9 (by rw [hm9, hD]; exact hn) (by rw [hm9, hD]; exact hc)) dX4_sit_21 k_X4_189 hL.1 rfl rfl rfl rfl rfl (fun z3 M3 e3 => ?_) (fun E3 M3 x3 => VX_out g r rfl ((by
      rcases x3 with ⟨a9, rfl, rfl⟩ | ⟨a9, rfl, rfl⟩ | ⟨a9, rfl, rfl⟩ <;> rcases e2 with ⟨q0, q1, rfl⟩ | ⟨q0, q1, q2, rfl⟩ | ⟨q0, q1, q2, q3, hO9, hT9⟩ <;> first | (exfalso; omega) | exact Or.inl (⟨by omega, rfl, hO1, hT1⟩) | exact Or.inr (⟨by omega, by omega, rfl, hO1, hT1⟩))))
  obtain ⟨q9, e3, hk3⟩ := e3
  exact V_ireturnX g r rfl dX4_sit_24 rfl (by
      rcases e2 with ⟨q0, q1, rfl⟩ | ⟨q0, q1, q2, rfl⟩ | ⟨q0, q1, q2, q3, hO9, hT9⟩
      · exfalso; omega
      · exfalso; omega
      · exact ⟨by omega, by omega, e3.trans q0, M1, M2, ⟨hO1, hT1⟩, hO9, hT9, hk3⟩)
abbrev rm_X4_bound : Room := { frames := 7, cells := 1, slots := 6, locals := 122 }
set_option maxHeartbeats 4000000 in
set_option maxRecDepth 100000 in
theorem c_X4_bound (l : Launch) (hfl : l.stackTraces = false) {D : DD} {Λ : LY} {M : MM} {s : Nat} {f : Int → Int} {gu k v : Int} (hL : ClsL D Λ s) (hO : Off M (s + 1) f) (hI : Inv f) (hn : 0 ≤ M (s + 23) 1 ∧ M (s + 23) 1 < 15) (hc : 0 ≤ M (s + 23) 2 ∧ M (s + 23) 2 ≤ 14) (hr1 : inR gu) (hr2 : inR k) (hr3 : inR v) : CXI l yX4_bound cX4_bound 4 .int rm_X4_bound [.ref s, vi gu, vi k, vi v] D Λ M (fun z M1 => ((0 ≤ gu ∧ gu < 4) ∧ 0 ≤ k ∧ k < 4) ∧ ((k < 2 ∧ 100 ≤ v ∧ v ≤ 900 ∨ k = 2 ∧ 0 ≤ v ∧ v ≤ 100 ∨ k = 3 ∧ 0 ≤ v ∧ v ≤ 200)) ∧ z = fBound f gu k v 4 - f 4 ∧ Act M s f (fBound f gu k v) M1) (fun E M1 => (¬ ((0 ≤ gu ∧ gu < 4) ∧ 0 ≤ k ∧ k < 4) ∧ E = xIO ∧ Dft M s f M1) ∨ (((0 ≤ gu ∧ gu < 4) ∧ 0 ≤ k ∧ k < 4) ∧ ¬ ((k < 2 ∧ 100 ≤ v ∧ v ≤ 900 ∨ k = 2 ∧ 0 ≤ v ∧ v ≤ 100 ∨ k = 3 ∧ 0 ≤ v ∧ v ≤ 200)) ∧ E = xIA ∧ Dft M s f M1)) := by
  refine CXI_of rfl rfl (Nat.le_of_ble_eq_true rfl) (fun Γ g r => ?_)
  have h0 := hI.1
  have h1 := hI.2.1
  refine V_aload_n (q := 1) g dX4_bound_0 rfl rfl ?_
  refine V_getR (q := 4) g dX4_bound_1 rfl f_X4_22 rfl hL.1 rfl ?_
  refine V_aload_n (q := 5) g dX4_bound_4 rfl rfl ?_
  refine V_getR (q := 8) g dX4_bound_5 rfl f_X4_10 rfl hL.1 rfl ?_
  refine V_callVV_1 (q := 11) g (c_X0_draft l hL.2.2.2.1 hL.2.1 hO hI hn (fun i hi => by unfold gO; omega)) dX4_bound_8 k_X4_182 hL.2.2.2.1.1 rfl rfl rfl rfl ⟨rfl, rfl⟩ rfl (fun M1 e1 => ?_)
  obtain ⟨hO1, hT1⟩ := e1
  have hOd : Off M1 (s + 1) f := hO.oth hT1 (Or.inl (by unfold gO; omega))
  have hD : M1 (s + 23) = M (s + 23) := hT1 _ (by unfold gO; omega)
  refine V_aload_n (q := 12) g dX4_bound_11 rfl rfl ?_
  refine V_aload_n (q := 13) g dX4_bound_12 rfl rfl ?_
  refine V_getR (q := 16) g dX4_bound_13 rfl f_X4_10 rfl hL.1 rfl ?_
  refine V_iload_n (q := 17) g dX4_bound_16 rfl rfl ?_
  refine V_iload_n (q := 18) g dX4_bound_17 rfl rfl ?_
  refine V_iload_n (q := 19) g dX4_bound_18 rfl rfl ?_
  refine V_callVI_3 (q := 22) g (c_X1_changeBound l hL.2.1 hOd hI (by omega) (by omega) (by omega)) dX4_bound_19 k_X4_215 hL.2.1.1 rfl rfl rfl rfl ⟨rfl, rfl⟩ rfl (fun z2 M2 e2 => ?_)
  obtain e2 := e2
  have hz9 : (z2 = -2 ∨ z2 = -3 ∨ z2 = -4 ∨ 0 ≤ z2) ∧ z2 < 2147483648 := by
    rcases e2 with ⟨q0, q1, _⟩ | ⟨q0, q1, q2, _⟩ | ⟨q0, q1, q2, q3, _, hT9⟩
    · omega
    · omega
    · have := bnd_v hI (gu := gu) (k := k) (v := v) (by omega) (by omega) (by omega)
      omega
  have hm9 : M2 (s + 23) = M1 (s + 23) := by
    rcases e2 with ⟨q0, q1, rfl⟩ | ⟨q0, q1, q2, rfl⟩ | ⟨q0, q1, q2, q3, hO9, hT9⟩
    · rfl
    · rfl
    · exact hT9 _ (by omega)
  refine V_callVXI_1 (q := 25) g (c_X4_acted l hfl hL hz9 (by rw [hm9, hD]; exact hn) (by rw [hm9, hD]; exact hc)) dX4_bound_22 k_X4_189 hL.1 rfl rfl rfl rfl rfl (fun z3 M3 e3 => ?_) (fun E3 M3 x3 => VX_out g r rfl ((by
      rcases x3 with ⟨a9, rfl, rfl⟩ | ⟨a9, rfl, rfl⟩ | ⟨a9, rfl, rfl⟩ <;> rcases e2 with ⟨q0, q1, rfl⟩ | ⟨q0, q1, q2, rfl⟩ | ⟨q0, q1, q2, q3, hO9, hT9⟩ <;> first | (exfalso; omega) | exact Or.inl (⟨by omega, rfl, hO1, hT1⟩) | exact Or.inr (⟨by omega, by omega, rfl, hO1, hT1⟩))))
  obtain ⟨q9, e3, hk3⟩ := e3
  exact V_ireturnX g r rfl dX4_bound_25 rfl (by
      rcases e2 with ⟨q0, q1, rfl⟩ | ⟨q0, q1, q2, rfl⟩ | ⟨q0, q1, q2, q3, hO9, hT9⟩
      · exfalso; omega
      · exfalso; omega
      · exact ⟨by omega, by omega, e3.trans q0, M1, M2, ⟨hO1, hT1⟩, hO9, hT9, hk3⟩)
abbrev rm_X4_set : Room := { frames := 7, cells := 1, slots := 6, locals := 111 }
set_option maxHeartbeats 4000000 in
set_option maxRecDepth 100000 in
theorem c_X4_set (l : Launch) (hfl : l.stackTraces = false) {D : DD} {Λ : LY} {M : MM} {s : Nat} {f : Int → Int} {wh v : Int} (hL : ClsL D Λ s) (hO : Off M (s + 1) f) (hI : Inv f) (hn : 0 ≤ M (s + 23) 1 ∧ M (s + 23) 1 < 15) (hc : 0 ≤ M (s + 23) 2 ∧ M (s + 23) 2 ≤ 14) (hr1 : inR wh) (hr2 : inR v) : CXI l yX4_set cX4_set 3 .int rm_X4_set [.ref s, vi wh, vi v] D Λ M (fun z M1 => ((wh = 0 ∧ 0 ≤ v ∧ v ≤ 50 ∨ wh = 1 ∧ 1 ≤ v ∧ v ≤ 200)) ∧ z = f (10 + wh) ∧ Act M s f (fSet f wh v) M1) (fun E M1 => ¬ ((wh = 0 ∧ 0 ≤ v ∧ v ≤ 50 ∨ wh = 1 ∧ 1 ≤ v ∧ v ≤ 200)) ∧ E = xIA ∧ Dft M s f M1) := by
  refine CXI_of rfl rfl (Nat.le_of_ble_eq_true rfl) (fun Γ g r => ?_)
  have h0 := hI.1
  have h1 := hI.2.1
  refine V_aload_n (q := 1) g dX4_set_0 rfl rfl ?_
  refine V_getR (q := 4) g dX4_set_1 rfl f_X4_22 rfl hL.1 rfl ?_
  refine V_aload_n (q := 5) g dX4_set_4 rfl rfl ?_
  refine V_getR (q := 8) g dX4_set_5 rfl f_X4_10 rfl hL.1 rfl ?_
  refine V_callVV_1 (q := 11) g (c_X0_draft l hL.2.2.2.1 hL.2.1 hO hI hn (fun i hi => by unfold gO; omega)) dX4_set_8 k_X4_182 hL.2.2.2.1.1 rfl rfl rfl rfl ⟨rfl, rfl⟩ rfl (fun M1 e1 => ?_)
  obtain ⟨hO1, hT1⟩ := e1
  have hOd : Off M1 (s + 1) f := hO.oth hT1 (Or.inl (by unfold gO; omega))
  have hD : M1 (s + 23) = M (s + 23) := hT1 _ (by unfold gO; omega)
  refine V_aload_n (q := 12) g dX4_set_11 rfl rfl ?_
  refine V_aload_n (q := 13) g dX4_set_12 rfl rfl ?_
  refine V_getR (q := 16) g dX4_set_13 rfl f_X4_10 rfl hL.1 rfl ?_
  refine V_iload_n (q := 17) g dX4_set_16 rfl rfl ?_
  refine V_iload_n (q := 18) g dX4_set_17 rfl rfl ?_
  refine V_callVI_2 (q := 21) g (c_X1_changeSetting l hL.2.1 hOd hI (by omega) (by omega)) dX4_set_18 k_X4_218 hL.2.1.1 rfl rfl rfl rfl ⟨rfl, rfl⟩ rfl (fun z2 M2 e2 => ?_)
  obtain e2 := e2
  have hz9 : (z2 = -2 ∨ z2 = -3 ∨ z2 = -4 ∨ 0 ≤ z2) ∧ z2 < 2147483648 := by
    rcases e2 with ⟨q0, q1, _⟩ | ⟨q0, q1, q2, _, hT9⟩
    · omega
    · have h10 := hI.2.2.1
      have h11 := hI.2.2.2.1
      have : f (10 + wh) ≤ 200 := by
        rcases (by omega : wh = 0 ∨ wh = 1) with rfl | rfl
        · show f 10 ≤ 200
          omega
        · show f 11 ≤ 200
          omega
      omega
  have hm9 : M2 (s + 23) = M1 (s + 23) := by
    rcases e2 with ⟨q0, q1, rfl⟩ | ⟨q0, q1, q2, hO9, hT9⟩
    · rfl
    · exact hT9 _ (by omega)
  refine V_callVXI_1 (q := 24) g (c_X4_acted l hfl hL hz9 (by rw [hm9, hD]; exact hn) (by rw [hm9, hD]; exact hc)) dX4_set_21 k_X4_189 hL.1 rfl rfl rfl rfl rfl (fun z3 M3 e3 => ?_) (fun E3 M3 x3 => VX_out g r rfl ((by
      rcases x3 with ⟨a9, rfl, rfl⟩ | ⟨a9, rfl, rfl⟩ | ⟨a9, rfl, rfl⟩ <;> rcases e2 with ⟨q0, q1, rfl⟩ | ⟨q0, q1, q2, hO9, hT9⟩ <;> first | (exfalso; omega) | exact ⟨by omega, rfl, hO1, hT1⟩)))
  obtain ⟨q9, e3, hk3⟩ := e3
  exact V_ireturnX g r rfl dX4_set_24 rfl (by
      rcases e2 with ⟨q0, q1, rfl⟩ | ⟨q0, q1, q2, hO9, hT9⟩
      · exfalso; omega
      · exact ⟨by omega, e3.trans q0, M1, M2, ⟨hO1, hT1⟩, hO9, hT9, hk3⟩)
