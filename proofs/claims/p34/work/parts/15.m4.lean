theorem sit_eq {f g : Int → Int} {c wt s : Int} {n : Nat} (hg : g = up (up f (48 + 9 * c) (f (48 + 9 * c) + 1)) 6 (f 6 + 1)) (hc : 0 ≤ c) (hs : s = sSitN g c (wt / f 11) (sIdle f c) 4) (hn : n = 4) : up (fSitN g c (wt / f 11) (sIdle f c) n) 9 (f 9 + s) = fSit f c wt := by
  subst hg
  subst hn
  rw [hs]
  unfold fSit
  rw [(sitN_up hc (Or.inl rfl) 4 (by omega)).1, (sitN_up hc (Or.inr rfl) 4 (by omega)).1, (sitN_up hc (Or.inl rfl) 4 (by omega)).2, (sitN_up hc (Or.inr rfl) 4 (by omega)).2, up_comm _ _ _ (show (48 + 9 * c : Int) ≠ 6 by omega), up_comm _ _ _ (show (48 + 9 * c : Int) ≠ 9 by omega)]
theorem test_eq {f : Int → Int} {c : Int} (hc : 0 ≤ c) : (if sWhy f c = 0 ∧ f (47 + 9 * c) = 0 then up (up (up (up f 2 (f 2 + 1)) 5 (f 5 + f 10)) (47 + 9 * c) 1) 3 (f 3 + 1) else up (up f 2 (f 2 + 1)) 5 (f 5 + f 10)) = fTest f c := rfl
abbrev rm_X1_sawLeg : Room := { frames := 3, cells := 0, slots := 0, locals := 65 }
set_option maxHeartbeats 4000000 in
set_option maxRecDepth 100000 in
theorem c_X1_sawLeg (l : Launch) {D : DD} {Λ : LY} {M : MM} {o : Nat} {f : Int → Int} {c k n : Int} (hL : OffL D Λ o) (hO : Off M o f) (hI : Inv f) (hr1 : inR c) (hr2 : inR k) (hr3 : inR n) : CI l yX1_sawLeg cX1_sawLeg 5 .int rm_X1_sawLeg [.ref o, vi c, vi k, vi n] D Λ M (fun z M1 => (z = -2 ∧ ¬ ((0 ≤ c ∧ c < f 0) ∧ 0 ≤ k ∧ k < 4) ∧ M = M1) ∨ (z = -3 ∧ ((0 ≤ c ∧ c < f 0) ∧ 0 ≤ k ∧ k < 4) ∧ ¬ (1 ≤ n ∧ n ≤ 800) ∧ M = M1) ∨ (z = -4 ∧ ((0 ≤ c ∧ c < f 0) ∧ 0 ≤ k ∧ k < 4) ∧ (1 ≤ n ∧ n ≤ 800) ∧ f (49 + 9 * c + k) - n < 100 ∧ M = M1) ∨ (z = f (49 + 9 * c + k) - n ∧ ((0 ≤ c ∧ c < f 0) ∧ 0 ≤ k ∧ k < 4) ∧ (1 ≤ n ∧ n ≤ 800) ∧ (100 ≤ z ∧ z ≤ 900) ∧ Off M1 o (fSaw f c k n) ∧ Oth M M1 o)) := by
  refine CI_of rfl rfl (Nat.le_of_ble_eq_true rfl) (fun Γ g r => ?_)
  have h0 := hI.1
  have h1 := hI.2.1
  have hT : Oth M M o := Oth.rf
  refine V_aload_n (q := 1) g dX1_sawLeg_0 rfl rfl ?_
  refine V_iload_n (q := 2) g dX1_sawLeg_1 rfl rfl ?_
  refine V_callVI_1 (q := 5) g (c_X1_hasChair l hL hO hI (by omega)) dX1_sawLeg_2 k_X1_121 hL.1 rfl rfl rfl rfl ⟨rfl, rfl⟩ rfl (fun z1 M1 e1 => ?_)
  obtain ⟨e1, rfl⟩ := e1
  refine V_if_eq (q := 8) g dX1_sawLeg_5 (tgt := 17) (by decide) rfl (by omega) (fun h5 => ?_) (fun h5 => ?_)
  · refine V_bipush (q := 19) g dX1_sawLeg_17 (by decide) rfl ?_
    exact V_ireturn g r dX1_sawLeg_19 rfl (.inl ⟨rfl, by omega, rfl⟩)
  · refine V_iload_n (q := 9) g dX1_sawLeg_8 rfl rfl ?_
    refine V_iconst (q := 10) g dX1_sawLeg_9 rfl ?_
    refine V_iconst (q := 11) g dX1_sawLeg_10 rfl ?_
    refine V_callNI_3 (q := 14) g (c_X4_within l (by omega) (by omega) (by omega)) dX1_sawLeg_11 k_X1_104 rfl rfl ⟨rfl, rfl⟩ rfl (fun z2 M2 e2 => ?_)
    obtain ⟨e2, rfl⟩ := e2
    refine V_if_ne (q := 17) g dX1_sawLeg_14 (tgt := 20) (by decide) rfl (by omega) (fun h14 => ?_) (fun h14 => ?_)
    · refine V_iload_n (q := 21) g dX1_sawLeg_20 rfl rfl ?_
      refine V_iconst (q := 22) g dX1_sawLeg_21 rfl ?_
      refine V_sipush (q := 25) g dX1_sawLeg_22 (by decide) rfl ?_
      refine V_callNI_3 (q := 28) g (c_X4_within l (by omega) (by omega) (by omega)) dX1_sawLeg_25 k_X1_104 rfl rfl ⟨rfl, rfl⟩ rfl (fun z3 M3 e3 => ?_)
      obtain ⟨e3, rfl⟩ := e3
      refine V_if_ne (q := 31) g dX1_sawLeg_28 (tgt := 34) (by decide) rfl (by omega) (fun h28 => ?_) (fun h28 => ?_)
      · refine V_aload_n (q := 35) g dX1_sawLeg_34 rfl rfl ?_
        refine V_iload_n (q := 36) g dX1_sawLeg_35 rfl rfl ?_
        refine V_iload_n (q := 37) g dX1_sawLeg_36 rfl rfl ?_
        refine V_callVI_2 (q := 40) g (c_X1_length l hL hO hI (by omega) (by omega)) dX1_sawLeg_37 k_X1_94 hL.1 rfl rfl rfl rfl ⟨rfl, rfl⟩ rfl (fun z4 M4 e4 => ?_)
        obtain ⟨⟨e4, b4⟩, rfl⟩ := e4
        refine V_iload_n (q := 41) g dX1_sawLeg_40 rfl rfl ?_
        refine V_isub (q := 42) g dX1_sawLeg_41 rfl ?_
        refine V_istore_4 (q := 44) g dX1_sawLeg_42 (by decide) rfl rfl ?_
        refine V_iload (q := 46) g dX1_sawLeg_44 rfl rfl ?_
        refine V_bipush (q := 48) g dX1_sawLeg_46 (by decide) rfl ?_
        refine V_icmp_ge (q := 51) g dX1_sawLeg_48 (tgt := 54) (by decide) rfl (by omega) (by omega) (fun h48 => ?_) (fun h48 => ?_)
        · refine V_aload_n (q := 55) g dX1_sawLeg_54 rfl rfl ?_
          refine V_getR (q := 58) g dX1_sawLeg_55 rfl f_X1_27 rfl hL.1 rfl ?_
          refine V_iload_n (q := 59) g dX1_sawLeg_58 rfl rfl ?_
          refine V_iconst (q := 60) g dX1_sawLeg_59 rfl ?_
          refine V_imul (q := 61) g dX1_sawLeg_60 rfl ?_
          refine V_iload_n (q := 62) g dX1_sawLeg_61 rfl rfl ?_
          refine V_iadd (q := 63) g dX1_sawLeg_62 rfl ?_
          refine V_iload (q := 65) g dX1_sawLeg_63 rfl rfl ?_
          have hc : 0 ≤ c ∧ c < f 0 := by omega
          have hk : 0 ≤ k ∧ k < 4 := by omega
          refine V_callNV_3 (q := 68) g (p_lengths l hL hO c k (by omega) (by omega) (by omega)) dX1_sawLeg_65 k_X1_56 rfl rfl ⟨rfl, rfl⟩ rfl (fun M5 e5 => ?_)
          obtain ⟨hO5, hT5⟩ := e5
          have hO := hO5
          have hT := hT.tr hT5
          have hI2 := Inv_len hI (v := z4 - n) hc.1 hk (by omega)
          refine V_aload_n (q := 69) g dX1_sawLeg_68 rfl rfl ?_
          refine V_iload_n (q := 70) g dX1_sawLeg_69 rfl rfl ?_
          refine V_callVI_1 (q := 73) g (c_X1_voidStamp l hL hO hI2 (by rw [up_ne (by omega)]; exact hc)) dX1_sawLeg_70 k_X1_118 hL.1 rfl rfl rfl rfl ⟨rfl, rfl⟩ rfl (fun z6 M6 e6 => ?_)
          obtain ⟨e6, hO6, hT6⟩ := e6
          have hO := hO6
          have hT := hT.tr hT6
          refine V_pop (q := 74) g dX1_sawLeg_73 rfl rfl ?_
          refine V_aload_n (q := 75) g dX1_sawLeg_74 rfl rfl ?_
          refine V_bipush (q := 77) g dX1_sawLeg_75 (by decide) rfl ?_
          refine V_iload_n (q := 78) g dX1_sawLeg_77 rfl rfl ?_
          refine V_callVV_2 (q := 81) g (c_X1_count l hL hO (by omega)) dX1_sawLeg_78 k_X1_124 hL.1 rfl rfl rfl rfl ⟨rfl, rfl⟩ rfl (fun M7 e7 => ?_)
          obtain ⟨hO7, hT7⟩ := e7
          have hO := hO7
          have hT := hT.tr hT7
          refine V_iload (q := 83) g dX1_sawLeg_81 rfl rfl ?_
          exact V_ireturn g r dX1_sawLeg_83 rfl (.inr (.inr (.inr ⟨by omega, by omega, by omega, by omega, by rw [← saw_eq hc.1 hk (by omega) (show z4 - n = _ by omega)]; exact hO, hT⟩)))
        · refine V_bipush (q := 53) g dX1_sawLeg_51 (by decide) rfl ?_
          exact V_ireturn g r dX1_sawLeg_53 rfl (.inr (.inr (.inl ⟨rfl, by omega, by omega, by omega, rfl⟩)))
      · refine V_bipush (q := 33) g dX1_sawLeg_31 (by decide) rfl ?_
        exact V_ireturn g r dX1_sawLeg_33 rfl (.inr (.inl ⟨rfl, by omega, by omega, rfl⟩))
    · refine V_bipush (q := 19) g dX1_sawLeg_17 (by decide) rfl ?_
      exact V_ireturn g r dX1_sawLeg_19 rfl (.inl ⟨rfl, by omega, rfl⟩)
abbrev rm_X1_shimLeg : Room := { frames := 3, cells := 0, slots := 0, locals := 65 }
set_option maxHeartbeats 4000000 in
set_option maxRecDepth 100000 in
theorem c_X1_shimLeg (l : Launch) {D : DD} {Λ : LY} {M : MM} {o : Nat} {f : Int → Int} {c k n : Int} (hL : OffL D Λ o) (hO : Off M o f) (hI : Inv f) (hr1 : inR c) (hr2 : inR k) (hr3 : inR n) : CI l yX1_shimLeg cX1_shimLeg 5 .int rm_X1_shimLeg [.ref o, vi c, vi k, vi n] D Λ M (fun z M1 => (z = -2 ∧ ¬ ((0 ≤ c ∧ c < f 0) ∧ 0 ≤ k ∧ k < 4) ∧ M = M1) ∨ (z = -3 ∧ ((0 ≤ c ∧ c < f 0) ∧ 0 ≤ k ∧ k < 4) ∧ ¬ (1 ≤ n ∧ n ≤ 99) ∧ M = M1) ∨ (z = -4 ∧ ((0 ≤ c ∧ c < f 0) ∧ 0 ≤ k ∧ k < 4) ∧ (1 ≤ n ∧ n ≤ 99) ∧ 900 < f (49 + 9 * c + k) + n ∧ M = M1) ∨ (z = f (49 + 9 * c + k) + n ∧ ((0 ≤ c ∧ c < f 0) ∧ 0 ≤ k ∧ k < 4) ∧ (1 ≤ n ∧ n ≤ 99) ∧ (100 ≤ z ∧ z ≤ 900) ∧ Off M1 o (fShim f c k n) ∧ Oth M M1 o)) := by
  refine CI_of rfl rfl (Nat.le_of_ble_eq_true rfl) (fun Γ g r => ?_)
  have h0 := hI.1
  have h1 := hI.2.1
  have hT : Oth M M o := Oth.rf
  refine V_aload_n (q := 1) g dX1_shimLeg_0 rfl rfl ?_
  refine V_iload_n (q := 2) g dX1_shimLeg_1 rfl rfl ?_
  refine V_callVI_1 (q := 5) g (c_X1_hasChair l hL hO hI (by omega)) dX1_shimLeg_2 k_X1_121 hL.1 rfl rfl rfl rfl ⟨rfl, rfl⟩ rfl (fun z1 M1 e1 => ?_)
  obtain ⟨e1, rfl⟩ := e1
  refine V_if_eq (q := 8) g dX1_shimLeg_5 (tgt := 17) (by decide) rfl (by omega) (fun h5 => ?_) (fun h5 => ?_)
  · refine V_bipush (q := 19) g dX1_shimLeg_17 (by decide) rfl ?_
    exact V_ireturn g r dX1_shimLeg_19 rfl (.inl ⟨rfl, by omega, rfl⟩)
  · refine V_iload_n (q := 9) g dX1_shimLeg_8 rfl rfl ?_
    refine V_iconst (q := 10) g dX1_shimLeg_9 rfl ?_
    refine V_iconst (q := 11) g dX1_shimLeg_10 rfl ?_
    refine V_callNI_3 (q := 14) g (c_X4_within l (by omega) (by omega) (by omega)) dX1_shimLeg_11 k_X1_104 rfl rfl ⟨rfl, rfl⟩ rfl (fun z2 M2 e2 => ?_)
    obtain ⟨e2, rfl⟩ := e2
    refine V_if_ne (q := 17) g dX1_shimLeg_14 (tgt := 20) (by decide) rfl (by omega) (fun h14 => ?_) (fun h14 => ?_)
    · refine V_iload_n (q := 21) g dX1_shimLeg_20 rfl rfl ?_
      refine V_iconst (q := 22) g dX1_shimLeg_21 rfl ?_
      refine V_bipush (q := 24) g dX1_shimLeg_22 (by decide) rfl ?_
      refine V_callNI_3 (q := 27) g (c_X4_within l (by omega) (by omega) (by omega)) dX1_shimLeg_24 k_X1_104 rfl rfl ⟨rfl, rfl⟩ rfl (fun z3 M3 e3 => ?_)
      obtain ⟨e3, rfl⟩ := e3
      refine V_if_ne (q := 30) g dX1_shimLeg_27 (tgt := 33) (by decide) rfl (by omega) (fun h27 => ?_) (fun h27 => ?_)
      · refine V_aload_n (q := 34) g dX1_shimLeg_33 rfl rfl ?_
        refine V_iload_n (q := 35) g dX1_shimLeg_34 rfl rfl ?_
        refine V_iload_n (q := 36) g dX1_shimLeg_35 rfl rfl ?_
        refine V_callVI_2 (q := 39) g (c_X1_length l hL hO hI (by omega) (by omega)) dX1_shimLeg_36 k_X1_94 hL.1 rfl rfl rfl rfl ⟨rfl, rfl⟩ rfl (fun z4 M4 e4 => ?_)
        obtain ⟨⟨e4, b4⟩, rfl⟩ := e4
        refine V_iload_n (q := 40) g dX1_shimLeg_39 rfl rfl ?_
        refine V_iadd (q := 41) g dX1_shimLeg_40 rfl ?_
        refine V_istore_4 (q := 43) g dX1_shimLeg_41 (by decide) rfl rfl ?_
        refine V_iload (q := 45) g dX1_shimLeg_43 rfl rfl ?_
        refine V_sipush (q := 48) g dX1_shimLeg_45 (by decide) rfl ?_
        refine V_icmp_le (q := 51) g dX1_shimLeg_48 (tgt := 54) (by decide) rfl (by omega) (by omega) (fun h48 => ?_) (fun h48 => ?_)
        · refine V_aload_n (q := 55) g dX1_shimLeg_54 rfl rfl ?_
          refine V_getR (q := 58) g dX1_shimLeg_55 rfl f_X1_27 rfl hL.1 rfl ?_
          refine V_iload_n (q := 59) g dX1_shimLeg_58 rfl rfl ?_
          refine V_iconst (q := 60) g dX1_shimLeg_59 rfl ?_
          refine V_imul (q := 61) g dX1_shimLeg_60 rfl ?_
          refine V_iload_n (q := 62) g dX1_shimLeg_61 rfl rfl ?_
          refine V_iadd (q := 63) g dX1_shimLeg_62 rfl ?_
          refine V_iload (q := 65) g dX1_shimLeg_63 rfl rfl ?_
          have hc : 0 ≤ c ∧ c < f 0 := by omega
          have hk : 0 ≤ k ∧ k < 4 := by omega
          refine V_callNV_3 (q := 68) g (p_lengths l hL hO c k (by omega) (by omega) (by omega)) dX1_shimLeg_65 k_X1_56 rfl rfl ⟨rfl, rfl⟩ rfl (fun M5 e5 => ?_)
          obtain ⟨hO5, hT5⟩ := e5
          have hO := hO5
          have hT := hT.tr hT5
          have hI2 := Inv_len hI (v := z4 + n) hc.1 hk (by omega)
          refine V_aload_n (q := 69) g dX1_shimLeg_68 rfl rfl ?_
          refine V_iload_n (q := 70) g dX1_shimLeg_69 rfl rfl ?_
          refine V_callVI_1 (q := 73) g (c_X1_voidStamp l hL hO hI2 (by rw [up_ne (by omega)]; exact hc)) dX1_shimLeg_70 k_X1_118 hL.1 rfl rfl rfl rfl ⟨rfl, rfl⟩ rfl (fun z6 M6 e6 => ?_)
          obtain ⟨e6, hO6, hT6⟩ := e6
          have hO := hO6
          have hT := hT.tr hT6
          refine V_pop (q := 74) g dX1_shimLeg_73 rfl rfl ?_
          refine V_aload_n (q := 75) g dX1_shimLeg_74 rfl rfl ?_
          refine V_bipush (q := 77) g dX1_shimLeg_75 (by decide) rfl ?_
          refine V_iload_n (q := 78) g dX1_shimLeg_77 rfl rfl ?_
          refine V_callVV_2 (q := 81) g (c_X1_count l hL hO (by omega)) dX1_shimLeg_78 k_X1_124 hL.1 rfl rfl rfl rfl ⟨rfl, rfl⟩ rfl (fun M7 e7 => ?_)
          obtain ⟨hO7, hT7⟩ := e7
          have hO := hO7
          have hT := hT.tr hT7
          refine V_iload (q := 83) g dX1_shimLeg_81 rfl rfl ?_
          exact V_ireturn g r dX1_shimLeg_83 rfl (.inr (.inr (.inr ⟨by omega, by omega, by omega, by omega, by rw [← shim_eq hc.1 hk (by omega) (show z4 + n = _ by omega)]; exact hO, hT⟩)))
        · refine V_bipush (q := 53) g dX1_shimLeg_51 (by decide) rfl ?_
          exact V_ireturn g r dX1_shimLeg_53 rfl (.inr (.inr (.inl ⟨rfl, by omega, by omega, by omega, rfl⟩)))
      · refine V_bipush (q := 32) g dX1_shimLeg_30 (by decide) rfl ?_
        exact V_ireturn g r dX1_shimLeg_32 rfl (.inr (.inl ⟨rfl, by omega, by omega, rfl⟩))
    · refine V_bipush (q := 19) g dX1_shimLeg_17 (by decide) rfl ?_
      exact V_ireturn g r dX1_shimLeg_19 rfl (.inl ⟨rfl, by omega, rfl⟩)
abbrev rm_X1_testChair : Room := { frames := 4, cells := 0, slots := 0, locals := 97 }
set_option maxHeartbeats 4000000 in
set_option maxRecDepth 100000 in
theorem c_X1_testChair (l : Launch) {D : DD} {Λ : LY} {M : MM} {o : Nat} {f : Int → Int} {c : Int} (hL : OffL D Λ o) (hO : Off M o f) (hI : Inv f) (hr1 : inR c) : CI l yX1_testChair cX1_testChair 3 .int rm_X1_testChair [.ref o, vi c] D Λ M (fun z M1 => (z = -2 ∧ ¬ (0 ≤ c ∧ c < f 0) ∧ M = M1) ∨ (z = sWhy f c ∧ (0 ≤ c ∧ c < f 0) ∧ 0 ≤ z ∧ Off M1 o (fTest f c) ∧ Oth M M1 o)) := by
  refine CI_of rfl rfl (Nat.le_of_ble_eq_true rfl) (fun Γ g r => ?_)
  have h0 := hI.1
  have h1 := hI.2.1
  have hT : Oth M M o := Oth.rf
  refine V_aload_n (q := 1) g dX1_testChair_0 rfl rfl ?_
  refine V_iload_n (q := 2) g dX1_testChair_1 rfl rfl ?_
  refine V_callVI_1 (q := 5) g (c_X1_hasChair l hL hO hI (by omega)) dX1_testChair_2 k_X1_121 hL.1 rfl rfl rfl rfl ⟨rfl, rfl⟩ rfl (fun z1 M1 e1 => ?_)
  obtain ⟨e1, rfl⟩ := e1
  refine V_if_ne (q := 8) g dX1_testChair_5 (tgt := 11) (by decide) rfl (by omega) (fun h5 => ?_) (fun h5 => ?_)
  · refine V_aload_n (q := 12) g dX1_testChair_11 rfl rfl ?_
    refine V_iconst (q := 13) g dX1_testChair_12 rfl ?_
    refine V_iconst (q := 14) g dX1_testChair_13 rfl ?_
    refine V_callVV_2 (q := 17) g (c_X1_count l hL hO (by omega)) dX1_testChair_14 k_X1_124 hL.1 rfl rfl rfl rfl ⟨rfl, rfl⟩ rfl (fun M2 e2 => ?_)
    obtain ⟨hO2, hT2⟩ := e2
    have hO := hO2
    have hT := hT.tr hT2
    refine V_aload_n (q := 18) g dX1_testChair_17 rfl rfl ?_
    refine V_bipush (q := 20) g dX1_testChair_18 (by decide) rfl ?_
    refine V_aload_n (q := 21) g dX1_testChair_20 rfl rfl ?_
    refine V_getR (q := 24) g dX1_testChair_21 rfl f_X1_36 rfl hL.1 rfl ?_
    refine V_iconst (q := 25) g dX1_testChair_24 rfl ?_
    refine V_callNI_2 (q := 28) g (a_values0 l hL hO) dX1_testChair_25 k_X1_64 rfl rfl ⟨rfl, rfl⟩ rfl (fun z3 M3 e3 => ?_)
    obtain ⟨e3, rfl⟩ := e3
    rw [up_ne (by omega)] at e3
    refine V_callVV_2 (q := 31) g (c_X1_count l hL hO (by omega)) dX1_testChair_28 k_X1_124 hL.1 rfl rfl rfl rfl ⟨rfl, rfl⟩ rfl (fun M4 e4 => ?_)
    obtain ⟨hO4, hT4⟩ := e4
    have hO := hO4
    have hT := hT.tr hT4
    have hc : 0 ≤ c ∧ c < f 0 := by omega
    have hIp : Inv (up (up f 2 (f 2 + 1)) 5 (f 5 + f 10)) := Inv_paid hI
    have hs : Shp (up (up f 2 (f 2 + 1)) 5 (f 5 + f 10)) f := (Shp_up (by decide)).tr (Shp_up (by decide))
    have hO : Off M4 o (up (up f 2 (f 2 + 1)) 5 (f 5 + f 10)) := by
      have q := hO
      rw [e3] at q
      exact q
    have hq := hI.2.2.2.2.2.2 c hc.1 hc.2
    obtain ⟨hg1, hg2, hg3, hg4, -⟩ := hq
    refine V_aload_n (q := 32) g dX1_testChair_31 rfl rfl ?_
    refine V_iload_n (q := 33) g dX1_testChair_32 rfl rfl ?_
    refine V_callVI_1 (q := 36) g (c_X1_reason l hL hO hIp (by rw [up_ne (by omega), up_ne (by omega)]; exact hc)) dX1_testChair_33 k_X1_128 hL.1 rfl rfl rfl rfl ⟨rfl, rfl⟩ rfl (fun z5 M5 e5 => ?_)
    obtain ⟨⟨e5, b5⟩, rfl⟩ := e5
    rw [sWhy_shp hs hc.1 (by rw [hs _ (by omega) (by omega)]; omega) (by rw [hs _ (by omega) (by omega)]; omega) (by rw [hs _ (by omega) (by omega)]; omega)] at e5
    refine V_istore_n_2 (q := 37) g dX1_testChair_36 (by decide) rfl rfl ?_
    refine V_iload_n (q := 38) g dX1_testChair_37 rfl rfl ?_
    refine V_if_ne (q := 41) g dX1_testChair_38 (tgt := 67) (by decide) rfl (by omega) (fun h38 => ?_) (fun h38 => ?_)
    · refine V_iload_n (q := 68) g dX1_testChair_67 rfl rfl ?_
      exact V_ireturn g r dX1_testChair_68 rfl (.inr ⟨by omega, hc, by omega, by rw [← test_eq hc.1, if_neg (by omega)]; exact hO, hT⟩)
    · refine V_aload_n (q := 42) g dX1_testChair_41 rfl rfl ?_
      refine V_getR (q := 45) g dX1_testChair_42 rfl f_X1_21 rfl hL.1 rfl ?_
      refine V_iload_n (q := 46) g dX1_testChair_45 rfl rfl ?_
      refine V_callNI_2 (q := 49) g (a_stamps l hL hO hIp (by rw [up_ne (by omega), up_ne (by omega)]; exact hc)) dX1_testChair_46 k_X1_64 rfl rfl ⟨rfl, rfl⟩ rfl (fun z6 M6 e6 => ?_)
      obtain ⟨⟨e6, b6⟩, rfl⟩ := e6
      rw [up_ne (by omega), up_ne (by omega)] at e6
      refine V_if_ne (q := 52) g dX1_testChair_49 (tgt := 67) (by decide) rfl (by omega) (fun h49 => ?_) (fun h49 => ?_)
      · refine V_iload_n (q := 68) g dX1_testChair_67 rfl rfl ?_
        exact V_ireturn g r dX1_testChair_68 rfl (.inr ⟨by omega, hc, by omega, by rw [← test_eq hc.1, if_neg (by omega)]; exact hO, hT⟩)
      · refine V_aload_n (q := 53) g dX1_testChair_52 rfl rfl ?_
        refine V_getR (q := 56) g dX1_testChair_53 rfl f_X1_21 rfl hL.1 rfl ?_
        refine V_iload_n (q := 57) g dX1_testChair_56 rfl rfl ?_
        refine V_iconst (q := 58) g dX1_testChair_57 rfl ?_
        refine V_callNV_3 (q := 61) g (p_stamps l hL hO (by rw [up_ne (by omega), up_ne (by omega)]; omega)) dX1_testChair_58 k_X1_56 rfl rfl ⟨rfl, rfl⟩ rfl (fun M7 e7 => ?_)
        obtain ⟨hO7, hT7⟩ := e7
        have hO := hO7
        have hT := hT.tr hT7
        refine V_aload_n (q := 62) g dX1_testChair_61 rfl rfl ?_
        refine V_iconst (q := 63) g dX1_testChair_62 rfl ?_
        refine V_iconst (q := 64) g dX1_testChair_63 rfl ?_
        refine V_callVV_2 (q := 67) g (c_X1_count l hL hO (by omega)) dX1_testChair_64 k_X1_124 hL.1 rfl rfl rfl rfl ⟨rfl, rfl⟩ rfl (fun M8 e8 => ?_)
        obtain ⟨hO8, hT8⟩ := e8
        have hO := hO8
        have hT := hT.tr hT8
        refine V_iload_n (q := 68) g dX1_testChair_67 rfl rfl ?_
        exact V_ireturn g r dX1_testChair_68 rfl (.inr ⟨by omega, hc, by omega, by rw [← test_eq hc.1, if_pos (by omega)]; have q := hO; rw [show ((4 : Int) - 1) = 3 from rfl, up_ne (by omega), up_ne (by omega), up_ne (by omega)] at q; exact q, hT⟩)
  · refine V_bipush (q := 10) g dX1_testChair_8 (by decide) rfl ?_
    exact V_ireturn g r dX1_testChair_10 rfl (.inl ⟨rfl, by omega, rfl⟩)
abbrev rm_X1_sitDown : Room := { frames := 4, cells := 0, slots := 0, locals := 92 }
set_option maxHeartbeats 4000000 in
set_option maxRecDepth 100000 in
theorem c_X1_sitDown (l : Launch) {D : DD} {Λ : LY} {M : MM} {o : Nat} {f : Int → Int} {c wt : Int} (hL : OffL D Λ o) (hO : Off M o f) (hI : Inv f) (hr1 : inR c) (hr2 : inR wt) : CI l yX1_sitDown cX1_sitDown 7 .int rm_X1_sitDown [.ref o, vi c, vi wt] D Λ M (fun z M1 => (z = -2 ∧ ¬ (0 ≤ c ∧ c < f 0) ∧ M = M1) ∨ (z = -3 ∧ (0 ≤ c ∧ c < f 0) ∧ ¬ (1 ≤ wt ∧ wt ≤ 200) ∧ M = M1) ∨ (z = sSitN f c (wt / f 11) (sIdle f c) 4 ∧ (0 ≤ c ∧ c < f 0) ∧ (1 ≤ wt ∧ wt ≤ 200) ∧ 0 ≤ z ∧ Off M1 o (fSit f c wt) ∧ Oth M M1 o)) := by
  refine CI_of rfl rfl (Nat.le_of_ble_eq_true rfl) (fun Γ g r => ?_)
  have h0 := hI.1
  have h1 := hI.2.1
  have hT : Oth M M o := Oth.rf
  refine V_aload_n (q := 1) g dX1_sitDown_0 rfl rfl ?_
  refine V_iload_n (q := 2) g dX1_sitDown_1 rfl rfl ?_
  refine V_callVI_1 (q := 5) g (c_X1_hasChair l hL hO hI (by omega)) dX1_sitDown_2 k_X1_121 hL.1 rfl rfl rfl rfl ⟨rfl, rfl⟩ rfl (fun z1 M1 e1 => ?_)
  obtain ⟨e1, rfl⟩ := e1
  refine V_if_ne (q := 8) g dX1_sitDown_5 (tgt := 11) (by decide) rfl (by omega) (fun h5 => ?_) (fun h5 => ?_)
  · refine V_iload_n (q := 12) g dX1_sitDown_11 rfl rfl ?_
    refine V_iconst (q := 13) g dX1_sitDown_12 rfl ?_
    refine V_sipush (q := 16) g dX1_sitDown_13 (by decide) rfl ?_
    refine V_callNI_3 (q := 19) g (c_X4_within l (by omega) (by omega) (by omega)) dX1_sitDown_16 k_X1_104 rfl rfl ⟨rfl, rfl⟩ rfl (fun z2 M2 e2 => ?_)
    obtain ⟨e2, rfl⟩ := e2
    refine V_if_ne (q := 22) g dX1_sitDown_19 (tgt := 25) (by decide) rfl (by omega) (fun h19 => ?_) (fun h19 => ?_)
    · refine V_aload_n (q := 26) g dX1_sitDown_25 rfl rfl ?_
      refine V_getR (q := 29) g dX1_sitDown_26 rfl f_X1_24 rfl hL.1 rfl ?_
      refine V_iload_n (q := 30) g dX1_sitDown_29 rfl rfl ?_
      refine V_aload_n (q := 31) g dX1_sitDown_30 rfl rfl ?_
      refine V_getR (q := 34) g dX1_sitDown_31 rfl f_X1_24 rfl hL.1 rfl ?_
      refine V_iload_n (q := 35) g dX1_sitDown_34 rfl rfl ?_
      have hc : 0 ≤ c ∧ c < f 0 := by omega
      refine V_callNI_2 (q := 38) g (a_sitters l hL hO (by omega)) dX1_sitDown_35 k_X1_64 rfl rfl ⟨rfl, rfl⟩ rfl (fun z3 M3 e3 => ?_)
      obtain ⟨e3, rfl⟩ := e3
      rw [e3]
      refine V_iconst (q := 39) g dX1_sitDown_38 rfl ?_
      refine V_iadd (q := 40) g dX1_sitDown_39 rfl ?_
      refine V_callNV_3 (q := 43) g (p_sitters l hL hO (by omega)) dX1_sitDown_40 k_X1_56 rfl rfl ⟨rfl, rfl⟩ rfl (fun M4 e4 => ?_)
      obtain ⟨hO4, hT4⟩ := e4
      have hO := hO4
      have hT := hT.tr hT4
      refine V_aload_n (q := 44) g dX1_sitDown_43 rfl rfl ?_
      refine V_bipush (q := 46) g dX1_sitDown_44 (by decide) rfl ?_
      refine V_iconst (q := 47) g dX1_sitDown_46 rfl ?_
      refine V_callVV_2 (q := 50) g (c_X1_count l hL hO (by omega)) dX1_sitDown_47 k_X1_124 hL.1 rfl rfl rfl rfl ⟨rfl, rfl⟩ rfl (fun M5 e5 => ?_)
      obtain ⟨hO5, hT5⟩ := e5
      have hO := hO5
      have hT := hT.tr hT5
      have hO : Off M5 o (up (up f (48 + 9 * c) (f (48 + 9 * c) + 1)) 6 (f 6 + 1)) := by
        have q := hO
        rw [show ((7 : Int) - 1) = 6 from rfl, up_ne (by omega)] at q
        exact q
      have hIg : Inv (up (up f (48 + 9 * c) (f (48 + 9 * c) + 1)) 6 (f 6 + 1)) := Inv_cnt (Inv_own hI hc.1) (by decide)
      have hs : Shp (up (up f (48 + 9 * c) (f (48 + 9 * c) + 1)) 6 (f 6 + 1)) f := (Shp_up (by decide)).tr (Shp_up (by omega))
      have hcg : 0 ≤ c ∧ c < (up (up f (48 + 9 * c) (f (48 + 9 * c) + 1)) 6 (f 6 + 1)) 0 := by rw [up_ne (by omega), up_ne (by omega)]; exact hc
      obtain ⟨hg1, hg2, hg3, hg4, -⟩ := hI.2.2.2.2.2.2 c hc.1 hc.2
      refine V_aload_n (q := 51) g dX1_sitDown_50 rfl rfl ?_
      refine V_iload_n (q := 52) g dX1_sitDown_51 rfl rfl ?_
      refine V_callVI_1 (q := 55) g (c_X1_idleLeg l hL hO hIg hcg) dX1_sitDown_52 k_X1_131 hL.1 rfl rfl rfl rfl ⟨rfl, rfl⟩ rfl (fun z6 M6 e6 => ?_)
      obtain ⟨⟨e6, b6⟩, rfl⟩ := e6
      rw [sIdle_shp hs hc.1 (by rw [hs _ (by omega) (by omega)]; omega) (by rw [hs _ (by omega) (by omega)]; omega)] at e6
      refine V_istore_n_3 (q := 56) g dX1_sitDown_55 (by decide) rfl rfl ?_
      refine V_aload_n (q := 57) g dX1_sitDown_56 rfl rfl ?_
      refine V_iload_n (q := 58) g dX1_sitDown_57 rfl rfl ?_
      refine V_callVI_1 (q := 61) g (c_X1_wearOf l hL hO hIg (by omega)) dX1_sitDown_58 k_X1_134 hL.1 rfl rfl rfl rfl ⟨rfl, rfl⟩ rfl (fun z7 M7 e7 => ?_)
      obtain ⟨⟨e7, b7⟩, rfl⟩ := e7
      rw [up_ne (by omega), up_ne (by omega)] at e7
      have hw0 : 0 ≤ wt / f 11 := by omega
      have hw1 : wt / f 11 ≤ 200 := by omega
      have hss : sSitN (up (up f (48 + 9 * c) (f (48 + 9 * c) + 1)) 6 (f 6 + 1)) c (wt / f 11) (sIdle f c) 4 = sSitN f c (wt / f 11) (sIdle f c) 4 := by rw [(sitN_up hc.1 (Or.inl rfl) 4 (by omega)).2, (sitN_up hc.1 (Or.inr rfl) 4 (by omega)).2]
      have hid := b6
      rw [e6] at hid
      refine V_istore_4 (q := 63) g dX1_sitDown_61 (by decide) rfl rfl ?_
      refine V_iconst (q := 64) g dX1_sitDown_63 rfl ?_
      refine V_istore_5 (q := 66) g dX1_sitDown_64 (by decide) rfl rfl ?_
      refine V_iconst (q := 67) g dX1_sitDown_66 rfl ?_
      refine V_istore_6 (q := 69) g dX1_sitDown_67 (by decide) rfl rfl ?_
      rw [e6, e7]
      have hloop : ∀ (k9 : Nat) (n : Nat) (Mx : MM), n ≤ 4 → 4 - n ≤ k9 → Off Mx o (fSitN (up (up f (48 + 9 * c) (f (48 + 9 * c) + 1)) 6 (f 6 + 1)) c (wt / f 11) (sIdle f c) n) → Oth M Mx o → V Γ D Λ Mx (0, 0) 69 [some (.ref o), some (vi c), some (vi wt), some (vi (sIdle f c)), some (vi (wt / f 11)), some (vi (sSitN (up (up f (48 + 9 * c) (f (48 + 9 * c) + 1)) 6 (f 6 + 1)) c (wt / f 11) (sIdle f c) n)), some (vi (n : Int))] [] := by
        intro k9
        induction k9 with
        | zero =>
          intro n Mx h2 h3 hO hTx
          obtain ⟨j1, j2, j3, j4⟩ := sitN (idle := sIdle f c) hIg hcg hw0 n (by omega)
          have hcn : 0 ≤ c ∧ c < fSitN (up (up f (48 + 9 * c) (f (48 + 9 * c) + 1)) 6 (f 6 + 1)) c (wt / f 11) (sIdle f c) n 0 := by rw [j2 0 (by omega) (by omega) (by omega)]; exact hcg
          refine V_iload (q := 71) g dX1_sitDown_69 rfl rfl ?_
          refine V_iconst (q := 72) g dX1_sitDown_71 rfl ?_
          refine V_icmp_ge (q := 75) g dX1_sitDown_72 (tgt := 101) (by decide) rfl (by omega) (by omega) (fun h72 => ?_) (fun h72 => absurd h72 (by omega))
          have h9 : n = 4 := by omega
          refine V_aload_n (q := 102) g dX1_sitDown_101 rfl rfl ?_
          refine V_bipush (q := 104) g dX1_sitDown_102 (by decide) rfl ?_
          refine V_iload (q := 106) g dX1_sitDown_104 rfl rfl ?_
          have hI9 := hIg
          refine V_callVV_2 (q := 109) g (c_X1_count l hL hO (by omega)) dX1_sitDown_106 k_X1_124 hL.1 rfl rfl rfl rfl ⟨rfl, rfl⟩ rfl (fun M8 e8 => ?_)
          obtain ⟨hO8, hT8⟩ := e8
          refine V_iload (q := 111) g dX1_sitDown_109 rfl rfl ?_
          exact V_ireturn g r dX1_sitDown_111 rfl (.inr (.inr ⟨by rw [h9]; exact hss, hc, by omega, j3, by
            have q := hO8
            rw [show ((10 : Int) - 1) = 9 from rfl, j2 9 (by omega) (by omega) (by omega), up_ne (by omega), up_ne (by omega)] at q
            rw [← sit_eq rfl hc.1 rfl h9, ← h9]
            exact q, hTx.tr hT8⟩))
        | succ k9 ih =>
          intro n Mx h2 h3 hO hTx
          obtain ⟨j1, j2, j3, j4⟩ := sitN (idle := sIdle f c) hIg hcg hw0 n (by omega)
          have hcn : 0 ≤ c ∧ c < fSitN (up (up f (48 + 9 * c) (f (48 + 9 * c) + 1)) 6 (f 6 + 1)) c (wt / f 11) (sIdle f c) n 0 := by rw [j2 0 (by omega) (by omega) (by omega)]; exact hcg
          refine V_iload (q := 71) g dX1_sitDown_69 rfl rfl ?_
          refine V_iconst (q := 72) g dX1_sitDown_71 rfl ?_
          refine V_icmp_ge (q := 75) g dX1_sitDown_72 (tgt := 101) (by decide) rfl (by omega) (by omega) (fun h72 => ?_) (fun h72 => ?_)
          · have h9 : n = 4 := by omega
            refine V_aload_n (q := 102) g dX1_sitDown_101 rfl rfl ?_
            refine V_bipush (q := 104) g dX1_sitDown_102 (by decide) rfl ?_
            refine V_iload (q := 106) g dX1_sitDown_104 rfl rfl ?_
            have hI9 := hIg
            refine V_callVV_2 (q := 109) g (c_X1_count l hL hO (by omega)) dX1_sitDown_106 k_X1_124 hL.1 rfl rfl rfl rfl ⟨rfl, rfl⟩ rfl (fun M9 e9 => ?_)
            obtain ⟨hO9, hT9⟩ := e9
            refine V_iload (q := 111) g dX1_sitDown_109 rfl rfl ?_
            exact V_ireturn g r dX1_sitDown_111 rfl (.inr (.inr ⟨by rw [h9]; exact hss, hc, by omega, j3, by
              have q := hO9
              rw [show ((10 : Int) - 1) = 9 from rfl, j2 9 (by omega) (by omega) (by omega), up_ne (by omega), up_ne (by omega)] at q
              rw [← sit_eq rfl hc.1 rfl h9, ← h9]
              exact q, hTx.tr hT9⟩))
          · refine V_iload (q := 77) g dX1_sitDown_75 rfl rfl ?_
            refine V_iload_n (q := 78) g dX1_sitDown_77 rfl rfl ?_
            refine V_icmp_eq (q := 81) g dX1_sitDown_78 (tgt := 95) (by decide) rfl (by omega) (by omega) (fun h78 => ?_) (fun h78 => ?_)
            · have hb : sBy (fSitN (up (up f (48 + 9 * c) (f (48 + 9 * c) + 1)) 6 (f 6 + 1)) c (wt / f 11) (sIdle f c) n) c (wt / f 11) (sIdle f c) n = 0 := by unfold sBy; rw [if_pos (by omega)]
              refine V_iinc_6 (q := 98) g dX1_sitDown_95 (by decide) rfl rfl ?_
              refine V_goto g dX1_sitDown_98 (tgt := 69) (by decide) ?_
              first
                | (have q9 := ih (n + 1) Mx (by omega) (by omega) (by show Off Mx o (fLeg _ c n (-(sBy _ c _ _ n))); rw [hb]; rw [show (-(0 : Int)) = 0 from rfl, fLeg_0]; exact hO) hTx
                   simp only [sSitN] at q9
                   rw [hb, Int.add_zero] at q9
                   exact q9)
                | (have q9 := ih (n + 1) M9 (by omega) (by omega) (by show Off M9 o (fLeg _ c n (-(sBy _ c _ _ n))); rw [hb]; exact hO9) (hTx.tr hT9)
                   simp only [sSitN] at q9
                   rw [hb] at q9
                   exact q9)
            · refine V_iload (q := 83) g dX1_sitDown_81 rfl rfl ?_
              refine V_aload_n (q := 84) g dX1_sitDown_83 rfl rfl ?_
              refine V_iload_n (q := 85) g dX1_sitDown_84 rfl rfl ?_
              refine V_iload (q := 87) g dX1_sitDown_85 rfl rfl ?_
              refine V_iload (q := 89) g dX1_sitDown_87 rfl rfl ?_
              refine V_callVI_3 (q := 92) g (c_X1_wearLeg l hL hO j1 hcn (by omega) (by omega)) dX1_sitDown_89 k_X1_137 hL.1 rfl rfl rfl rfl ⟨rfl, rfl⟩ rfl (fun z10 M10 e10 => ?_)
              obtain ⟨⟨e10, b10⟩, hO10, hT10⟩ := e10
              have hb : sBy (fSitN (up (up f (48 + 9 * c) (f (48 + 9 * c) + 1)) 6 (f 6 + 1)) c (wt / f 11) (sIdle f c) n) c (wt / f 11) (sIdle f c) n = z10 := by unfold sBy; rw [if_neg (by omega)]; exact e10.symm
              refine V_iadd (q := 93) g dX1_sitDown_92 rfl ?_
              refine V_istore_5 (q := 95) g dX1_sitDown_93 (by decide) rfl rfl ?_
              refine V_iinc_6 (q := 98) g dX1_sitDown_95 (by decide) rfl rfl ?_
              refine V_goto g dX1_sitDown_98 (tgt := 69) (by decide) ?_
              first
                | (have q9 := ih (n + 1) Mx (by omega) (by omega) (by show Off Mx o (fLeg _ c n (-(sBy _ c _ _ n))); rw [hb]; rw [show (-(0 : Int)) = 0 from rfl, fLeg_0]; exact hO) hTx
                   simp only [sSitN] at q9
                   rw [hb, Int.add_zero] at q9
                   exact q9)
                | (have q9 := ih (n + 1) M10 (by omega) (by omega) (by show Off M10 o (fLeg _ c n (-(sBy _ c _ _ n))); rw [hb]; exact hO10) (hTx.tr hT10)
                   simp only [sSitN] at q9
                   rw [hb] at q9
                   exact q9)
      exact hloop 4 0 M5 (by omega) (by omega) hO hT
    · refine V_bipush (q := 24) g dX1_sitDown_22 (by decide) rfl ?_
      exact V_ireturn g r dX1_sitDown_24 rfl (.inr (.inl ⟨rfl, by omega, by omega, rfl⟩))
  · refine V_bipush (q := 10) g dX1_sitDown_8 (by decide) rfl ?_
    exact V_ireturn g r dX1_sitDown_10 rfl (.inl ⟨rfl, by omega, rfl⟩)
abbrev rm_X1_moveChair : Room := { frames := 3, cells := 0, slots := 0, locals := 70 }
set_option maxHeartbeats 4000000 in
set_option maxRecDepth 100000 in
theorem c_X1_moveChair (l : Launch) {D : DD} {Λ : LY} {M : MM} {o : Nat} {f : Int → Int} {c fl q : Int} (hL : OffL D Λ o) (hO : Off M o f) (hI : Inv f) (hr1 : inR c) (hr2 : inR fl) (hr3 : inR q) : CI l yX1_moveChair cX1_moveChair 4 .int rm_X1_moveChair [.ref o, vi c, vi fl, vi q] D Λ M (fun z M1 => (z = -2 ∧ ¬ ((0 ≤ c ∧ c < f 0) ∧ (0 ≤ fl ∧ fl < f 1)) ∧ M = M1) ∨ (z = -3 ∧ ((0 ≤ c ∧ c < f 0) ∧ (0 ≤ fl ∧ fl < f 1)) ∧ ¬ (0 ≤ q ∧ q < 4) ∧ M = M1) ∨ (z = sWob f c fl q ∧ ((0 ≤ c ∧ c < f 0) ∧ (0 ≤ fl ∧ fl < f 1)) ∧ (0 ≤ q ∧ q < 4) ∧ 0 ≤ z ∧ Off M1 o (fBring f c fl q) ∧ Oth M M1 o)) := by
  refine CI_of rfl rfl (Nat.le_of_ble_eq_true rfl) (fun Γ g r => ?_)
  have h0 := hI.1
  have h1 := hI.2.1
  have hT : Oth M M o := Oth.rf
  refine V_aload_n (q := 1) g dX1_moveChair_0 rfl rfl ?_
  refine V_iload_n (q := 2) g dX1_moveChair_1 rfl rfl ?_
  refine V_callVI_1 (q := 5) g (c_X1_hasChair l hL hO hI (by omega)) dX1_moveChair_2 k_X1_121 hL.1 rfl rfl rfl rfl ⟨rfl, rfl⟩ rfl (fun z1 M1 e1 => ?_)
  obtain ⟨e1, rfl⟩ := e1
  refine V_if_eq (q := 8) g dX1_moveChair_5 (tgt := 16) (by decide) rfl (by omega) (fun h5 => ?_) (fun h5 => ?_)
  · refine V_bipush (q := 18) g dX1_moveChair_16 (by decide) rfl ?_
    exact V_ireturn g r dX1_moveChair_18 rfl (.inl ⟨rfl, by omega, rfl⟩)
  · refine V_aload_n (q := 9) g dX1_moveChair_8 rfl rfl ?_
    refine V_iload_n (q := 10) g dX1_moveChair_9 rfl rfl ?_
    refine V_callVI_1 (q := 13) g (c_X1_hasFloor l hL hO hI (by omega)) dX1_moveChair_10 k_X1_112 hL.1 rfl rfl rfl rfl ⟨rfl, rfl⟩ rfl (fun z2 M2 e2 => ?_)
    obtain ⟨e2, rfl⟩ := e2
    refine V_if_ne (q := 16) g dX1_moveChair_13 (tgt := 19) (by decide) rfl (by omega) (fun h13 => ?_) (fun h13 => ?_)
    · refine V_iload_n (q := 20) g dX1_moveChair_19 rfl rfl ?_
      refine V_iconst (q := 21) g dX1_moveChair_20 rfl ?_
      refine V_iconst (q := 22) g dX1_moveChair_21 rfl ?_
      refine V_callNI_3 (q := 25) g (c_X4_within l (by omega) (by omega) (by omega)) dX1_moveChair_22 k_X1_104 rfl rfl ⟨rfl, rfl⟩ rfl (fun z3 M3 e3 => ?_)
      obtain ⟨e3, rfl⟩ := e3
      refine V_if_ne (q := 28) g dX1_moveChair_25 (tgt := 31) (by decide) rfl (by omega) (fun h25 => ?_) (fun h25 => ?_)
      · refine V_aload_n (q := 32) g dX1_moveChair_31 rfl rfl ?_
        refine V_getR (q := 35) g dX1_moveChair_32 rfl f_X1_15 rfl hL.1 rfl ?_
        refine V_iload_n (q := 36) g dX1_moveChair_35 rfl rfl ?_
        have hc : 0 ≤ c ∧ c < f 0 := by omega
        refine V_callNI_2 (q := 39) g (a_floorsUnder l hL hO hI (by omega)) dX1_moveChair_36 k_X1_64 rfl rfl ⟨rfl, rfl⟩ rfl (fun z4 M4 e4 => ?_)
        obtain ⟨⟨e4, b4⟩, rfl⟩ := e4
        refine V_iload_n (q := 40) g dX1_moveChair_39 rfl rfl ?_
        refine V_icmp_ne (q := 43) g dX1_moveChair_40 (tgt := 55) (by decide) rfl (by omega) (by omega) (fun h40 => ?_) (fun h40 => ?_)
        · refine V_aload_n (q := 56) g dX1_moveChair_55 rfl rfl ?_
          refine V_iload_n (q := 57) g dX1_moveChair_56 rfl rfl ?_
          have hc : 0 ≤ c ∧ c < f 0 := by omega
          refine V_callVI_1 (q := 60) g (c_X1_voidStamp l hL hO hI hc) dX1_moveChair_57 k_X1_118 hL.1 rfl rfl rfl rfl ⟨rfl, rfl⟩ rfl (fun z5 M5 e5 => ?_)
          obtain ⟨e5, hO5, hT5⟩ := e5
          have hO := hO5
          have hT := hT.tr hT5
          refine V_pop (q := 61) g dX1_moveChair_60 rfl rfl ?_
          refine V_aload_n (q := 62) g dX1_moveChair_61 rfl rfl ?_
          refine V_getR (q := 65) g dX1_moveChair_62 rfl f_X1_15 rfl hL.1 rfl ?_
          refine V_iload_n (q := 66) g dX1_moveChair_65 rfl rfl ?_
          refine V_iload_n (q := 67) g dX1_moveChair_66 rfl rfl ?_
          have hc : 0 ≤ c ∧ c < f 0 := by omega
          have e0 : fVoid f c 0 = f 0 := fVoid_at (by omega) (by omega)
          refine V_callNV_3 (q := 70) g (p_floorsUnder l hL hO (by omega)) dX1_moveChair_67 k_X1_56 rfl rfl ⟨rfl, rfl⟩ rfl (fun M6 e6 => ?_)
          obtain ⟨hO6, hT6⟩ := e6
          have hO := hO6
          have hT := hT.tr hT6
          refine V_aload_n (q := 71) g dX1_moveChair_70 rfl rfl ?_
          refine V_getR (q := 74) g dX1_moveChair_71 rfl f_X1_18 rfl hL.1 rfl ?_
          refine V_iload_n (q := 75) g dX1_moveChair_74 rfl rfl ?_
          refine V_iload_n (q := 76) g dX1_moveChair_75 rfl rfl ?_
          refine V_callNV_3 (q := 79) g (p_quarters l hL hO (by rw [up_ne (by omega)]; omega)) dX1_moveChair_76 k_X1_56 rfl rfl ⟨rfl, rfl⟩ rfl (fun M7 e7 => ?_)
          obtain ⟨hO7, hT7⟩ := e7
          have hO := hO7
          have hT := hT.tr hT7
          refine V_aload_n (q := 80) g dX1_moveChair_79 rfl rfl ?_
          refine V_iload_n (q := 81) g dX1_moveChair_80 rfl rfl ?_
          refine V_iload_n (q := 82) g dX1_moveChair_81 rfl rfl ?_
          refine V_iload_n (q := 83) g dX1_moveChair_82 rfl rfl ?_
          have hI3 : Inv (up (up (fVoid f c) (45 + 9 * c) fl) (46 + 9 * c) q) := Inv_quart (Inv_under (Inv_void hI hc.1) hc.1 (by rw [fVoid_at (by omega) (by omega)]; omega)) hc.1 (by omega)
          have hs : ∀ k9 : Int, 0 ≤ k9 → k9 < 4 → sRe (up (up (fVoid f c) (45 + 9 * c) fl) (46 + 9 * c) q) c k9 fl q = sRe f c k9 fl q := by
            intro k9 x1 x2
            unfold sRe
            rw [up_ne (by omega), up_ne (by omega), up_ne (by omega), up_ne (by omega), fVoid_at (by omega) (by omega), fVoid_at (by omega) (by omega)]
          refine V_callVI_3 (q := 86) g (c_X1_wobbleOn l hL hO hI3 (by rw [up_ne (by omega), up_ne (by omega)]; omega) (by omega) (by omega)) dX1_moveChair_83 k_X1_72 hL.1 rfl rfl rfl rfl ⟨rfl, rfl⟩ rfl (fun z8 M8 e8 => ?_)
          obtain ⟨⟨e8, b8⟩, rfl⟩ := e8
          have hw : sWob (up (up (fVoid f c) (45 + 9 * c) fl) (46 + 9 * c) q) c fl q = sWob f c fl q := by unfold sWob sTilt; rw [hs 0 (by decide) (by decide), hs 1 (by decide) (by decide), hs 2 (by decide) (by decide), hs 3 (by decide) (by decide)]
          have hb : fBring f c fl q = up (up (fVoid f c) (45 + 9 * c) fl) (46 + 9 * c) q := by unfold fBring; rw [if_neg (by omega)]
          exact V_ireturn g r dX1_moveChair_86 rfl (.inr (.inr ⟨e8.trans hw, by omega, by omega, by omega, by rw [hb]; exact hO, hT⟩))
        · refine V_aload_n (q := 44) g dX1_moveChair_43 rfl rfl ?_
          refine V_getR (q := 47) g dX1_moveChair_44 rfl f_X1_18 rfl hL.1 rfl ?_
          refine V_iload_n (q := 48) g dX1_moveChair_47 rfl rfl ?_
          refine V_callNI_2 (q := 51) g (a_quarters l hL hO hI (by omega)) dX1_moveChair_48 k_X1_64 rfl rfl ⟨rfl, rfl⟩ rfl (fun z9 M9 e9 => ?_)
          obtain ⟨⟨e9, b9⟩, rfl⟩ := e9
          refine V_iload_n (q := 52) g dX1_moveChair_51 rfl rfl ?_
          refine V_icmp_eq (q := 55) g dX1_moveChair_52 (tgt := 61) (by decide) rfl (by omega) (by omega) (fun h52 => ?_) (fun h52 => ?_)
          · refine V_aload_n (q := 62) g dX1_moveChair_61 rfl rfl ?_
            refine V_getR (q := 65) g dX1_moveChair_62 rfl f_X1_15 rfl hL.1 rfl ?_
            refine V_iload_n (q := 66) g dX1_moveChair_65 rfl rfl ?_
            refine V_iload_n (q := 67) g dX1_moveChair_66 rfl rfl ?_
            have hc : 0 ≤ c ∧ c < f 0 := by omega
            refine V_callNV_3 (q := 70) g (p_floorsUnder l hL hO (by omega)) dX1_moveChair_67 k_X1_56 rfl rfl ⟨rfl, rfl⟩ rfl (fun M10 e10 => ?_)
            obtain ⟨hO10, hT10⟩ := e10
            have hO := hO10
            have hT := hT.tr hT10
            refine V_aload_n (q := 71) g dX1_moveChair_70 rfl rfl ?_
            refine V_getR (q := 74) g dX1_moveChair_71 rfl f_X1_18 rfl hL.1 rfl ?_
            refine V_iload_n (q := 75) g dX1_moveChair_74 rfl rfl ?_
            refine V_iload_n (q := 76) g dX1_moveChair_75 rfl rfl ?_
            refine V_callNV_3 (q := 79) g (p_quarters l hL hO (by rw [up_ne (by omega)]; omega)) dX1_moveChair_76 k_X1_56 rfl rfl ⟨rfl, rfl⟩ rfl (fun M11 e11 => ?_)
            obtain ⟨hO11, hT11⟩ := e11
            have hO := hO11
            have hT := hT.tr hT11
            refine V_aload_n (q := 80) g dX1_moveChair_79 rfl rfl ?_
            refine V_iload_n (q := 81) g dX1_moveChair_80 rfl rfl ?_
            refine V_iload_n (q := 82) g dX1_moveChair_81 rfl rfl ?_
            refine V_iload_n (q := 83) g dX1_moveChair_82 rfl rfl ?_
            have hI3 : Inv (up (up (f) (45 + 9 * c) fl) (46 + 9 * c) q) := Inv_quart (Inv_under hI hc.1 (by omega)) hc.1 (by omega)
            have hs : ∀ k9 : Int, 0 ≤ k9 → k9 < 4 → sRe (up (up (f) (45 + 9 * c) fl) (46 + 9 * c) q) c k9 fl q = sRe f c k9 fl q := by
              intro k9 x1 x2
              unfold sRe
              rw [up_ne (by omega), up_ne (by omega), up_ne (by omega), up_ne (by omega)]
            refine V_callVI_3 (q := 86) g (c_X1_wobbleOn l hL hO hI3 (by rw [up_ne (by omega), up_ne (by omega)]; omega) (by omega) (by omega)) dX1_moveChair_83 k_X1_72 hL.1 rfl rfl rfl rfl ⟨rfl, rfl⟩ rfl (fun z12 M12 e12 => ?_)
            obtain ⟨⟨e12, b12⟩, rfl⟩ := e12
            have hw : sWob (up (up (f) (45 + 9 * c) fl) (46 + 9 * c) q) c fl q = sWob f c fl q := by unfold sWob sTilt; rw [hs 0 (by decide) (by decide), hs 1 (by decide) (by decide), hs 2 (by decide) (by decide), hs 3 (by decide) (by decide)]
            have hb : fBring f c fl q = up (up (f) (45 + 9 * c) fl) (46 + 9 * c) q := by unfold fBring; rw [if_pos (by omega)]
            exact V_ireturn g r dX1_moveChair_86 rfl (.inr (.inr ⟨e12.trans hw, by omega, by omega, by omega, by rw [hb]; exact hO, hT⟩))
          · refine V_aload_n (q := 56) g dX1_moveChair_55 rfl rfl ?_
            refine V_iload_n (q := 57) g dX1_moveChair_56 rfl rfl ?_
            have hc : 0 ≤ c ∧ c < f 0 := by omega
            refine V_callVI_1 (q := 60) g (c_X1_voidStamp l hL hO hI hc) dX1_moveChair_57 k_X1_118 hL.1 rfl rfl rfl rfl ⟨rfl, rfl⟩ rfl (fun z13 M13 e13 => ?_)
            obtain ⟨e13, hO13, hT13⟩ := e13
            have hO := hO13
            have hT := hT.tr hT13
            refine V_pop (q := 61) g dX1_moveChair_60 rfl rfl ?_
            refine V_aload_n (q := 62) g dX1_moveChair_61 rfl rfl ?_
            refine V_getR (q := 65) g dX1_moveChair_62 rfl f_X1_15 rfl hL.1 rfl ?_
            refine V_iload_n (q := 66) g dX1_moveChair_65 rfl rfl ?_
            refine V_iload_n (q := 67) g dX1_moveChair_66 rfl rfl ?_
            have hc : 0 ≤ c ∧ c < f 0 := by omega
            have e0 : fVoid f c 0 = f 0 := fVoid_at (by omega) (by omega)
            refine V_callNV_3 (q := 70) g (p_floorsUnder l hL hO (by omega)) dX1_moveChair_67 k_X1_56 rfl rfl ⟨rfl, rfl⟩ rfl (fun M14 e14 => ?_)
            obtain ⟨hO14, hT14⟩ := e14
            have hO := hO14
            have hT := hT.tr hT14
            refine V_aload_n (q := 71) g dX1_moveChair_70 rfl rfl ?_
            refine V_getR (q := 74) g dX1_moveChair_71 rfl f_X1_18 rfl hL.1 rfl ?_
            refine V_iload_n (q := 75) g dX1_moveChair_74 rfl rfl ?_
            refine V_iload_n (q := 76) g dX1_moveChair_75 rfl rfl ?_
            refine V_callNV_3 (q := 79) g (p_quarters l hL hO (by rw [up_ne (by omega)]; omega)) dX1_moveChair_76 k_X1_56 rfl rfl ⟨rfl, rfl⟩ rfl (fun M15 e15 => ?_)
            obtain ⟨hO15, hT15⟩ := e15
            have hO := hO15
            have hT := hT.tr hT15
            refine V_aload_n (q := 80) g dX1_moveChair_79 rfl rfl ?_
            refine V_iload_n (q := 81) g dX1_moveChair_80 rfl rfl ?_
            refine V_iload_n (q := 82) g dX1_moveChair_81 rfl rfl ?_
            refine V_iload_n (q := 83) g dX1_moveChair_82 rfl rfl ?_
            have hI3 : Inv (up (up (fVoid f c) (45 + 9 * c) fl) (46 + 9 * c) q) := Inv_quart (Inv_under (Inv_void hI hc.1) hc.1 (by rw [fVoid_at (by omega) (by omega)]; omega)) hc.1 (by omega)
            have hs : ∀ k9 : Int, 0 ≤ k9 → k9 < 4 → sRe (up (up (fVoid f c) (45 + 9 * c) fl) (46 + 9 * c) q) c k9 fl q = sRe f c k9 fl q := by
              intro k9 x1 x2
              unfold sRe
              rw [up_ne (by omega), up_ne (by omega), up_ne (by omega), up_ne (by omega), fVoid_at (by omega) (by omega), fVoid_at (by omega) (by omega)]
            refine V_callVI_3 (q := 86) g (c_X1_wobbleOn l hL hO hI3 (by rw [up_ne (by omega), up_ne (by omega)]; omega) (by omega) (by omega)) dX1_moveChair_83 k_X1_72 hL.1 rfl rfl rfl rfl ⟨rfl, rfl⟩ rfl (fun z16 M16 e16 => ?_)
            obtain ⟨⟨e16, b16⟩, rfl⟩ := e16
            have hw : sWob (up (up (fVoid f c) (45 + 9 * c) fl) (46 + 9 * c) q) c fl q = sWob f c fl q := by unfold sWob sTilt; rw [hs 0 (by decide) (by decide), hs 1 (by decide) (by decide), hs 2 (by decide) (by decide), hs 3 (by decide) (by decide)]
            have hb : fBring f c fl q = up (up (fVoid f c) (45 + 9 * c) fl) (46 + 9 * c) q := by unfold fBring; rw [if_neg (by omega)]
            exact V_ireturn g r dX1_moveChair_86 rfl (.inr (.inr ⟨e16.trans hw, by omega, by omega, by omega, by rw [hb]; exact hO, hT⟩))
      · refine V_bipush (q := 30) g dX1_moveChair_28 (by decide) rfl ?_
        exact V_ireturn g r dX1_moveChair_30 rfl (.inr (.inl ⟨rfl, by omega, by omega, rfl⟩))
    · refine V_bipush (q := 18) g dX1_moveChair_16 (by decide) rfl ?_
      exact V_ireturn g r dX1_moveChair_18 rfl (.inl ⟨rfl, by omega, rfl⟩)
