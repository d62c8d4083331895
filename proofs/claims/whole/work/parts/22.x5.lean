abbrev rm_X5_remember : Room := { frames := 1, cells := 0, slots := 0, locals := 24 }
set_option maxHeartbeats 4000000 in
set_option maxRecDepth 100000 in
theorem c_X5_remember (l : Launch) {D : DD} {Λ : LY} {M : MM} {m : Nat} (hL : MdL D Λ m) (hac : 0 ≤ M m 6 ∧ M m 6 ≤ 14) : CV l yX5_remember cX5_remember 2 rm_X5_remember [.ref m] D Λ M (fun M1 => remM M m = M1) := by
  refine CV_of rfl rfl (Nat.le_of_ble_eq_true rfl) (fun Γ g r => ?_)
  refine V_aload_n (q := 1) g dX5_remember_0 rfl rfl ?_
  refine V_getI (q := 4) g dX5_remember_1 rfl f_X5_196 rfl hL.1 rfl (j := 6) rfl ?_
  refine V_bipush (q := 6) g dX5_remember_4 (by decide) rfl ?_
  refine V_icmp_ne (q := 9) g dX5_remember_6 (tgt := 50) (by decide) rfl (by omega) (by omega) (fun h6 => ?_) (fun h6 => ?_)
  · refine V_aload_n (q := 51) g dX5_remember_50 rfl rfl ?_
    refine V_getR (q := 54) g dX5_remember_51 rfl f_X5_13 rfl hL.1 rfl ?_
    refine V_iconst (q := 55) g dX5_remember_54 rfl ?_
    refine V_aload_n (q := 56) g dX5_remember_55 rfl rfl ?_
    refine V_getR (q := 59) g dX5_remember_56 rfl f_X5_19 rfl hL.1 rfl ?_
    refine V_sipush (q := 62) g dX5_remember_59 (by decide) rfl ?_
    refine V_aload_n (q := 63) g dX5_remember_62 rfl rfl ?_
    refine V_getI (q := 66) g dX5_remember_63 rfl f_X5_196 rfl hL.1 rfl (j := 6) rfl ?_
    refine V_imul (q := 67) g dX5_remember_66 rfl ?_
    refine V_callSV_4 (q := 70) g (c_X5_copyState l hL.2.2.1 hL.2.2.2.2.1 (by decide) (by decide) (by omega) (by omega) (by omega)) dX5_remember_67 k_X5_192 rfl rfl ⟨rfl, rfl⟩ rfl (fun M1 e1 => ?_)
    obtain rfl := e1
    try simp only [aset_aset]
    refine V_aload_n (q := 71) g dX5_remember_70 rfl rfl ?_
    refine V_dup (q := 72) g dX5_remember_71 rfl rfl ?_
    refine V_getI (q := 75) g dX5_remember_72 rfl f_X5_196 rfl hL.1 rfl (j := 6) rfl ?_
    rw [aset_ne _ _ (show m ≠ m + 4 by omega)]
    refine V_iconst (q := 76) g dX5_remember_75 rfl ?_
    refine V_iadd (q := 77) g dX5_remember_76 rfl ?_
    refine V_putI (q := 80) g dX5_remember_77 rfl f_X5_196 tyX5_ok nmX5 rfl hL.1 rfl rfl (ty := .int) rfl rfl rfl (j := 6) rfl ?_
    rw [rem_1 (by omega)]
    exact V_return g r dX5_remember_80 rfl
  · have h14 : M m 6 = 14 := by omega
    refine V_iconst (q := 10) g dX5_remember_9 rfl ?_
    refine V_istore_n_1 (q := 11) g dX5_remember_10 (by decide) rfl rfl ?_
    have hloop : ∀ (k9 : Nat) (n : Nat), (n : Int) ≤ 1742 → 1742 - n ≤ k9 → V Γ D Λ (aset M (m + 4) (fCpy (M (m + 4)) 134 (M (m + 4)) 0 n)) (0, 0) 11 [some (.ref m), some (vi (n : Int))] [] := by
      intro k9
      induction k9 with
      | zero =>
        intro n h2 h3
        refine V_iload_n (q := 12) g dX5_remember_11 rfl rfl ?_
        refine V_sipush (q := 15) g dX5_remember_12 (by decide) rfl ?_
        refine V_icmp_ge (q := 18) g dX5_remember_15 (tgt := 40) (by decide) rfl (by omega) (by omega) (fun h15 => ?_) (fun h15 => absurd h15 (by omega))
        have hn : n = 1742 := by omega
        subst hn
        rw [show ((1742 : Nat) : Int) = 1742 from rfl]
        refine V_aload_n (q := 41) g dX5_remember_40 rfl rfl ?_
        refine V_dup (q := 42) g dX5_remember_41 rfl rfl ?_
        refine V_getI (q := 45) g dX5_remember_42 rfl f_X5_196 rfl hL.1 rfl (j := 6) rfl ?_
        rw [aset_ne _ _ (show m ≠ m + 4 by omega), h14]
        refine V_iconst (q := 46) g dX5_remember_45 rfl ?_
        refine V_isub (q := 47) g dX5_remember_46 rfl ?_
        refine V_putI (q := 50) g dX5_remember_47 rfl f_X5_196 tyX5_ok nmX5 rfl hL.1 rfl rfl (ty := .int) rfl rfl rfl (j := 6) rfl ?_
        simp only [Int.reduceSub]
        refine V_aload_n (q := 51) g dX5_remember_50 rfl rfl ?_
        refine V_getR (q := 54) g dX5_remember_51 rfl f_X5_13 rfl hL.1 rfl ?_
        refine V_iconst (q := 55) g dX5_remember_54 rfl ?_
        refine V_aload_n (q := 56) g dX5_remember_55 rfl rfl ?_
        refine V_getR (q := 59) g dX5_remember_56 rfl f_X5_19 rfl hL.1 rfl ?_
        refine V_sipush (q := 62) g dX5_remember_59 (by decide) rfl ?_
        refine V_aload_n (q := 63) g dX5_remember_62 rfl rfl ?_
        refine V_getI (q := 66) g dX5_remember_63 rfl f_X5_196 rfl hL.1 rfl (j := 6) rfl ?_
        rw [wr_iv]
        refine V_imul (q := 67) g dX5_remember_66 rfl ?_
        simp only [Int.reduceMul]
        refine V_callSV_4 (q := 70) g (c_X5_copyState l hL.2.2.1 hL.2.2.2.2.1 (by decide) (by decide) (by omega) (by omega) (by omega)) dX5_remember_67 k_X5_192 rfl rfl ⟨rfl, rfl⟩ rfl (fun M2 e2 => ?_)
        obtain rfl := e2
        try simp only [aset_aset]
        rw [wr_ne _ _ _ (show m + 2 ≠ m by omega), aset_ne _ _ (show m + 2 ≠ m + 4 by omega), wr_ne _ _ _ (show m + 4 ≠ m by omega), aset_at]
        refine V_aload_n (q := 71) g dX5_remember_70 rfl rfl ?_
        refine V_dup (q := 72) g dX5_remember_71 rfl rfl ?_
        refine V_getI (q := 75) g dX5_remember_72 rfl f_X5_196 rfl hL.1 rfl (j := 6) rfl ?_
        rw [aset_ne _ _ (show m ≠ m + 4 by omega), wr_iv]
        refine V_iconst (q := 76) g dX5_remember_75 rfl ?_
        refine V_iadd (q := 77) g dX5_remember_76 rfl ?_
        simp only [Int.reduceAdd]
        refine V_putI (q := 80) g dX5_remember_77 rfl f_X5_196 tyX5_ok nmX5 rfl hL.1 rfl rfl (ty := .int) rfl rfl rfl (j := 6) rfl ?_
        rw [rem_2 h14]
        exact V_return g r dX5_remember_80 rfl
      | succ k9 ih =>
        intro n h2 h3
        refine V_iload_n (q := 12) g dX5_remember_11 rfl rfl ?_
        refine V_sipush (q := 15) g dX5_remember_12 (by decide) rfl ?_
        refine V_icmp_ge (q := 18) g dX5_remember_15 (tgt := 40) (by decide) rfl (by omega) (by omega) (fun h15 => ?_) (fun h15 => ?_)
        · have hn : n = 1742 := by omega
          subst hn
          rw [show ((1742 : Nat) : Int) = 1742 from rfl]
          refine V_aload_n (q := 41) g dX5_remember_40 rfl rfl ?_
          refine V_dup (q := 42) g dX5_remember_41 rfl rfl ?_
          refine V_getI (q := 45) g dX5_remember_42 rfl f_X5_196 rfl hL.1 rfl (j := 6) rfl ?_
          rw [aset_ne _ _ (show m ≠ m + 4 by omega), h14]
          refine V_iconst (q := 46) g dX5_remember_45 rfl ?_
          refine V_isub (q := 47) g dX5_remember_46 rfl ?_
          refine V_putI (q := 50) g dX5_remember_47 rfl f_X5_196 tyX5_ok nmX5 rfl hL.1 rfl rfl (ty := .int) rfl rfl rfl (j := 6) rfl ?_
          simp only [Int.reduceSub]
          refine V_aload_n (q := 51) g dX5_remember_50 rfl rfl ?_
          refine V_getR (q := 54) g dX5_remember_51 rfl f_X5_13 rfl hL.1 rfl ?_
          refine V_iconst (q := 55) g dX5_remember_54 rfl ?_
          refine V_aload_n (q := 56) g dX5_remember_55 rfl rfl ?_
          refine V_getR (q := 59) g dX5_remember_56 rfl f_X5_19 rfl hL.1 rfl ?_
          refine V_sipush (q := 62) g dX5_remember_59 (by decide) rfl ?_
          refine V_aload_n (q := 63) g dX5_remember_62 rfl rfl ?_
          refine V_getI (q := 66) g dX5_remember_63 rfl f_X5_196 rfl hL.1 rfl (j := 6) rfl ?_
          rw [wr_iv]
          refine V_imul (q := 67) g dX5_remember_66 rfl ?_
          simp only [Int.reduceMul]
          refine V_callSV_4 (q := 70) g (c_X5_copyState l hL.2.2.1 hL.2.2.2.2.1 (by decide) (by decide) (by omega) (by omega) (by omega)) dX5_remember_67 k_X5_192 rfl rfl ⟨rfl, rfl⟩ rfl (fun M3 e3 => ?_)
          obtain rfl := e3
          try simp only [aset_aset]
          rw [wr_ne _ _ _ (show m + 2 ≠ m by omega), aset_ne _ _ (show m + 2 ≠ m + 4 by omega), wr_ne _ _ _ (show m + 4 ≠ m by omega), aset_at]
          refine V_aload_n (q := 71) g dX5_remember_70 rfl rfl ?_
          refine V_dup (q := 72) g dX5_remember_71 rfl rfl ?_
          refine V_getI (q := 75) g dX5_remember_72 rfl f_X5_196 rfl hL.1 rfl (j := 6) rfl ?_
          rw [aset_ne _ _ (show m ≠ m + 4 by omega), wr_iv]
          refine V_iconst (q := 76) g dX5_remember_75 rfl ?_
          refine V_iadd (q := 77) g dX5_remember_76 rfl ?_
          simp only [Int.reduceAdd]
          refine V_putI (q := 80) g dX5_remember_77 rfl f_X5_196 tyX5_ok nmX5 rfl hL.1 rfl rfl (ty := .int) rfl rfl rfl (j := 6) rfl ?_
          rw [rem_2 h14]
          exact V_return g r dX5_remember_80 rfl
        · refine V_aload_n (q := 19) g dX5_remember_18 rfl rfl ?_
          refine V_getR (q := 22) g dX5_remember_19 rfl f_X5_19 rfl hL.1 rfl ?_
          refine V_iload_n (q := 23) g dX5_remember_22 rfl rfl ?_
          refine V_aload_n (q := 24) g dX5_remember_23 rfl rfl ?_
          refine V_getR (q := 27) g dX5_remember_24 rfl f_X5_19 rfl hL.1 rfl ?_
          refine V_iload_n (q := 28) g dX5_remember_27 rfl rfl ?_
          refine V_sipush (q := 31) g dX5_remember_28 (by decide) rfl ?_
          refine V_iadd (q := 32) g dX5_remember_31 rfl ?_
          refine V_iaload (q := 33) g dX5_remember_32 rfl hL.2.2.2.2.1 (by omega) (by decide) ?_
          rw [aset_at, show (fCpy (M (m + 4)) 134 (M (m + 4)) 0 n) ((n : Int) + 134) = M (m + 4) (134 + n) by unfold fCpy; rw [if_neg (by omega)]; congr 1; omega]
          refine V_iastore (q := 34) g dX5_remember_33 rfl hL.2.2.2.2.1 (by omega) (by decide) ?_
          rw [wr_aset]
          have w9 := fCpy_s (M (m + 4)) (M (m + 4)) 134 0 (i := n) (by omega)
          rw [Int.zero_add] at w9
          rw [w9]
          refine V_iinc_1 (q := 37) g dX5_remember_34 (by decide) rfl rfl ?_
          refine V_goto g dX5_remember_37 (tgt := 11) (by decide) ?_
          exact ih (n + 1) (by omega) (by omega)
    have hM : M = aset M (m + 4) (fCpy (M (m + 4)) 134 (M (m + 4)) 0 0) := by rw [fCpy_0, aset_self]
    have q9 := hloop 1742 0 (by decide) (by decide)
    rw [show ((0 : Nat) : Int) = 0 from rfl, ← hM] at q9
    exact q9
abbrev rm_X5_chair : Room := { frames := 2, cells := 0, slots := 0, locals := 47 }
set_option maxHeartbeats 4000000 in
set_option maxRecDepth 100000 in
theorem c_X5_chair (l : Launch) {D : DD} {Λ : LY} {M : MM} {m : Nat} {f : Int → Int} {gu len : Int} (hL : MdL D Λ m) (hO : M (m + 2) = f) (hI : Inv f) (hac : 0 ≤ M m 6 ∧ M m 6 ≤ 14) (hr1 : inR gu) (hr2 : inR len) : CI l yX5_chair cX5_chair 3 .int rm_X5_chair [.ref m, vi gu, vi len] D Λ M (fun z M1 => (¬ ((0 ≤ gu ∧ gu < 4)) ∧ wr M m 0 1 = M1) ∨ ((0 ≤ gu ∧ gu < 4) ∧ ¬ ((100 ≤ len ∧ len ≤ 900)) ∧ wr M m 0 2 = M1) ∨ ((0 ≤ gu ∧ gu < 4) ∧ (100 ≤ len ∧ len ≤ 900) ∧ ¬ ((f 0 < 10)) ∧ wr M m 0 3 = M1) ∨ ((0 ≤ gu ∧ gu < 4) ∧ (100 ≤ len ∧ len ≤ 900) ∧ (f 0 < 10) ∧ z = f 0 ∧ aset (remM (wr M m 0 0) m) (m + 2) (fChair f gu len) = M1)) := by
  refine CI_of rfl rfl (Nat.le_of_ble_eq_true rfl) (fun Γ g r => ?_)
  have h0 := hI.1
  have h1 := hI.2.1
  refine V_aload_n (q := 1) g dX5_chair_0 rfl rfl ?_
  refine V_iload_n (q := 2) g dX5_chair_1 rfl rfl ?_
  refine V_callSI_1 (q := 5) g (c_X5_isFour l (by omega)) dX5_chair_2 k_X5_206 rfl rfl ⟨rfl, rfl⟩ rfl (fun z1 M1 e1 => ?_)
  obtain ⟨e1, rfl⟩ := e1
  refine V_if_ne (q := 8) g dX5_chair_5 (tgt := 12) (by decide) rfl (by omega) (fun h5 => ?_) (fun h5 => ?_)
  · refine V_iload_n (q := 13) g dX5_chair_12 rfl rfl ?_
    refine V_i2l (q := 14) g dX5_chair_13 (by omega) rfl ?_
    refine V_ldc2 (q := 17) g dX5_chair_14 (z := 100) q_X5_43 (by decide) rfl ?_
    refine V_ldc2 (q := 20) g dX5_chair_17 (z := 900) q_X5_45 (by decide) rfl ?_
    refine V_callSI_3 (q := 23) g (c_X5_in l (by omega) (by omega) (by omega)) dX5_chair_20 k_X5_37 rfl rfl ⟨rfl, rfl⟩ rfl (fun z2 M2 e2 => ?_)
    obtain ⟨e2, rfl⟩ := e2
    refine V_if_ne (q := 26) g dX5_chair_23 (tgt := 30) (by decide) rfl (by omega) (fun h23 => ?_) (fun h23 => ?_)
    · refine V_aload_n (q := 31) g dX5_chair_30 rfl rfl ?_
      refine V_getR (q := 34) g dX5_chair_31 rfl f_X5_13 rfl hL.1 rfl ?_
      refine V_iconst (q := 35) g dX5_chair_34 rfl ?_
      refine V_iaload (q := 36) g dX5_chair_35 rfl hL.2.2.1 (by omega) (by decide) ?_
      rw [hO]
      refine V_bipush (q := 38) g dX5_chair_36 (by decide) rfl ?_
      refine V_icmp_ge (q := 41) g dX5_chair_38 (tgt := 45) (by decide) rfl (by omega) (by omega) (fun h38 => ?_) (fun h38 => ?_)
      · refine V_iconst (q := 46) g dX5_chair_45 rfl ?_
        refine V_callVI_1 (q := 49) g (b_refn l hL (by decide)) dX5_chair_46 k_X5_105 hL.1 rfl rfl rfl rfl ⟨rfl, rfl⟩ rfl (fun z3 M3 e3 => ?_)
        obtain ⟨rfl, rfl⟩ := e3
        refine V_if_eq (q := 52) g dX5_chair_49 (tgt := 54) (by decide) rfl (by omega) (fun h49 => absurd h49 (by omega)) (fun h49 => ?_)
        refine V_iconst (q := 53) g dX5_chair_52 rfl ?_
        exact V_ireturn g r dX5_chair_53 rfl (Or.inr (Or.inr (Or.inl ⟨by omega, by omega, by omega, rfl⟩)))
      · refine V_iconst (q := 42) g dX5_chair_41 rfl ?_
        refine V_goto g dX5_chair_42 (tgt := 46) (by decide) ?_
        refine V_callVI_1 (q := 49) g (b_ref0 l hL) dX5_chair_46 k_X5_105 hL.1 rfl rfl rfl rfl ⟨rfl, rfl⟩ rfl (fun z4 M4 e4 => ?_)
        obtain ⟨rfl, rfl⟩ := e4
        have hP : wr M m 0 0 (m + 2) = f := wrO hO (by omega)
        refine V_if_eq (q := 52) g dX5_chair_49 (tgt := 54) (by decide) rfl (by omega) (fun h49 => ?_) (fun h49 => absurd h49 (by omega))
        refine V_aload_n (q := 55) g dX5_chair_54 rfl rfl ?_
        refine V_callVV_0 (q := 58) g (c_X5_remember l hL (by rw [wr_ii M m 0 (by decide)]; exact hac)) dX5_chair_55 k_X5_211 hL.1 rfl rfl rfl rfl ⟨rfl, rfl⟩ rfl (fun M5 e5 => ?_)
        obtain rfl := e5
        have hQ : remM (wr M m 0 0) m (m + 2) = f := remO hP (by omega) (by omega)
        refine V_aload_n (q := 59) g dX5_chair_58 rfl rfl ?_
        refine V_getR (q := 62) g dX5_chair_59 rfl f_X5_13 rfl hL.1 rfl ?_
        refine V_iload_n (q := 63) g dX5_chair_62 rfl rfl ?_
        refine V_iload_n (q := 64) g dX5_chair_63 rfl rfl ?_
        refine V_callSI_3 (q := 67) g (c_X5_chairOn l hL.2.2.1 hQ hI (by omega)) dX5_chair_64 k_X5_162 rfl rfl ⟨rfl, rfl⟩ rfl (fun z6 M6 e6 => ?_)
        obtain ⟨⟨e6, b6⟩, rfl⟩ := e6
        try simp only [aset_aset]
        exact V_ireturn g r dX5_chair_67 rfl (Or.inr (Or.inr (Or.inr ⟨by omega, by omega, by omega, by omega, rfl⟩)))
    · refine V_iconst (q := 27) g dX5_chair_26 rfl ?_
      refine V_goto g dX5_chair_27 (tgt := 46) (by decide) ?_
      refine V_callVI_1 (q := 49) g (b_refn l hL (by decide)) dX5_chair_46 k_X5_105 hL.1 rfl rfl rfl rfl ⟨rfl, rfl⟩ rfl (fun z7 M7 e7 => ?_)
      obtain ⟨rfl, rfl⟩ := e7
      refine V_if_eq (q := 52) g dX5_chair_49 (tgt := 54) (by decide) rfl (by omega) (fun h49 => absurd h49 (by omega)) (fun h49 => ?_)
      refine V_iconst (q := 53) g dX5_chair_52 rfl ?_
      exact V_ireturn g r dX5_chair_53 rfl (Or.inr (Or.inl ⟨by omega, by omega, rfl⟩))
  · refine V_iconst (q := 9) g dX5_chair_8 rfl ?_
    refine V_goto g dX5_chair_9 (tgt := 46) (by decide) ?_
    refine V_callVI_1 (q := 49) g (b_refn l hL (by decide)) dX5_chair_46 k_X5_105 hL.1 rfl rfl rfl rfl ⟨rfl, rfl⟩ rfl (fun z8 M8 e8 => ?_)
    obtain ⟨rfl, rfl⟩ := e8
    refine V_if_eq (q := 52) g dX5_chair_49 (tgt := 54) (by decide) rfl (by omega) (fun h49 => absurd h49 (by omega)) (fun h49 => ?_)
    refine V_iconst (q := 53) g dX5_chair_52 rfl ?_
    exact V_ireturn g r dX5_chair_53 rfl (Or.inl ⟨by omega, rfl⟩)
abbrev rm_X5_floor : Room := { frames := 2, cells := 0, slots := 0, locals := 45 }
set_option maxHeartbeats 4000000 in
set_option maxRecDepth 100000 in
theorem c_X5_floor (l : Launch) {D : DD} {Λ : LY} {M : MM} {m : Nat} {f : Int → Int} {x1 x2 x3 x4 : Int} (hL : MdL D Λ m) (hO : M (m + 2) = f) (hI : Inv f) (hac : 0 ≤ M m 6 ∧ M m 6 ≤ 14) (hr1 : inR x1) (hr2 : inR x2) (hr3 : inR x3) (hr4 : inR x4) : CI l yX5_floor cX5_floor 6 .int rm_X5_floor [.ref m, vi x1, vi x2, vi x3, vi x4] D Λ M (fun z M1 => (¬ (((0 ≤ x1 ∧ x1 ≤ 50) ∧ (0 ≤ x2 ∧ x2 ≤ 50) ∧ (0 ≤ x3 ∧ x3 ≤ 50) ∧ (0 ≤ x4 ∧ x4 ≤ 50))) ∧ wr M m 0 1 = M1) ∨ (((0 ≤ x1 ∧ x1 ≤ 50) ∧ (0 ≤ x2 ∧ x2 ≤ 50) ∧ (0 ≤ x3 ∧ x3 ≤ 50) ∧ (0 ≤ x4 ∧ x4 ≤ 50)) ∧ ¬ ((f 1 < 4)) ∧ wr M m 0 2 = M1) ∨ (((0 ≤ x1 ∧ x1 ≤ 50) ∧ (0 ≤ x2 ∧ x2 ≤ 50) ∧ (0 ≤ x3 ∧ x3 ≤ 50) ∧ (0 ≤ x4 ∧ x4 ≤ 50)) ∧ (f 1 < 4) ∧ z = f 1 ∧ aset (remM (wr M m 0 0) m) (m + 2) (fFloor f x1 x2 x3 x4) = M1)) := by
  refine CI_of rfl rfl (Nat.le_of_ble_eq_true rfl) (fun Γ g r => ?_)
  have h0 := hI.1
  have h1 := hI.2.1
  refine V_iload_n (q := 1) g dX5_floor_0 rfl rfl ?_
  refine V_i2l (q := 2) g dX5_floor_1 (by omega) rfl ?_
  refine V_lconst (q := 3) g dX5_floor_2 (z := 0) (by decide) rfl ?_
  refine V_ldc2 (q := 6) g dX5_floor_3 (z := 50) q_X5_49 (by decide) rfl ?_
  refine V_callSI_3 (q := 9) g (c_X5_in l (by omega) (by omega) (by omega)) dX5_floor_6 k_X5_37 rfl rfl ⟨rfl, rfl⟩ rfl (fun z1 M1 e1 => ?_)
  obtain ⟨e1, rfl⟩ := e1
  refine V_if_eq (q := 12) g dX5_floor_9 (tgt := 53) (by decide) rfl (by omega) (fun h9 => ?_) (fun h9 => ?_)
  · refine V_iconst (q := 54) g dX5_floor_53 rfl ?_
    refine V_istore_5 (q := 56) g dX5_floor_54 (by decide) rfl rfl ?_
    refine V_aload_n (q := 57) g dX5_floor_56 rfl rfl ?_
    refine V_iload (q := 59) g dX5_floor_57 rfl rfl ?_
    refine V_if_ne (q := 62) g dX5_floor_59 (tgt := 66) (by decide) rfl (by omega) (fun h59 => absurd h59 (by omega)) (fun h59 => ?_)
    refine V_iconst (q := 63) g dX5_floor_62 rfl ?_
    refine V_goto g dX5_floor_63 (tgt := 81) (by decide) ?_
    refine V_callVI_1 (q := 84) g (b_refn l hL (by decide)) dX5_floor_81 k_X5_105 hL.1 rfl rfl rfl rfl ⟨rfl, rfl⟩ rfl (fun z2 M2 e2 => ?_)
    obtain ⟨rfl, rfl⟩ := e2
    refine V_if_eq (q := 87) g dX5_floor_84 (tgt := 89) (by decide) rfl (by omega) (fun h84 => absurd h84 (by omega)) (fun h84 => ?_)
    refine V_iconst (q := 88) g dX5_floor_87 rfl ?_
    exact V_ireturn g r dX5_floor_88 rfl (Or.inl ⟨by omega, rfl⟩)
  · refine V_iload_n (q := 13) g dX5_floor_12 rfl rfl ?_
    refine V_i2l (q := 14) g dX5_floor_13 (by omega) rfl ?_
    refine V_lconst (q := 15) g dX5_floor_14 (z := 0) (by decide) rfl ?_
    refine V_ldc2 (q := 18) g dX5_floor_15 (z := 50) q_X5_49 (by decide) rfl ?_
    refine V_callSI_3 (q := 21) g (c_X5_in l (by omega) (by omega) (by omega)) dX5_floor_18 k_X5_37 rfl rfl ⟨rfl, rfl⟩ rfl (fun z3 M3 e3 => ?_)
    obtain ⟨e3, rfl⟩ := e3
    refine V_if_eq (q := 24) g dX5_floor_21 (tgt := 53) (by decide) rfl (by omega) (fun h21 => ?_) (fun h21 => ?_)
    · refine V_iconst (q := 54) g dX5_floor_53 rfl ?_
      refine V_istore_5 (q := 56) g dX5_floor_54 (by decide) rfl rfl ?_
      refine V_aload_n (q := 57) g dX5_floor_56 rfl rfl ?_
      refine V_iload (q := 59) g dX5_floor_57 rfl rfl ?_
      refine V_if_ne (q := 62) g dX5_floor_59 (tgt := 66) (by decide) rfl (by omega) (fun h59 => absurd h59 (by omega)) (fun h59 => ?_)
      refine V_iconst (q := 63) g dX5_floor_62 rfl ?_
      refine V_goto g dX5_floor_63 (tgt := 81) (by decide) ?_
      refine V_callVI_1 (q := 84) g (b_refn l hL (by decide)) dX5_floor_81 k_X5_105 hL.1 rfl rfl rfl rfl ⟨rfl, rfl⟩ rfl (fun z4 M4 e4 => ?_)
      obtain ⟨rfl, rfl⟩ := e4
      refine V_if_eq (q := 87) g dX5_floor_84 (tgt := 89) (by decide) rfl (by omega) (fun h84 => absurd h84 (by omega)) (fun h84 => ?_)
      refine V_iconst (q := 88) g dX5_floor_87 rfl ?_
      exact V_ireturn g r dX5_floor_88 rfl (Or.inl ⟨by omega, rfl⟩)
    · refine V_iload_n (q := 25) g dX5_floor_24 rfl rfl ?_
      refine V_i2l (q := 26) g dX5_floor_25 (by omega) rfl ?_
      refine V_lconst (q := 27) g dX5_floor_26 (z := 0) (by decide) rfl ?_
      refine V_ldc2 (q := 30) g dX5_floor_27 (z := 50) q_X5_49 (by decide) rfl ?_
      refine V_callSI_3 (q := 33) g (c_X5_in l (by omega) (by omega) (by omega)) dX5_floor_30 k_X5_37 rfl rfl ⟨rfl, rfl⟩ rfl (fun z5 M5 e5 => ?_)
      obtain ⟨e5, rfl⟩ := e5
      refine V_if_eq (q := 36) g dX5_floor_33 (tgt := 53) (by decide) rfl (by omega) (fun h33 => ?_) (fun h33 => ?_)
      · refine V_iconst (q := 54) g dX5_floor_53 rfl ?_
        refine V_istore_5 (q := 56) g dX5_floor_54 (by decide) rfl rfl ?_
        refine V_aload_n (q := 57) g dX5_floor_56 rfl rfl ?_
        refine V_iload (q := 59) g dX5_floor_57 rfl rfl ?_
        refine V_if_ne (q := 62) g dX5_floor_59 (tgt := 66) (by decide) rfl (by omega) (fun h59 => absurd h59 (by omega)) (fun h59 => ?_)
        refine V_iconst (q := 63) g dX5_floor_62 rfl ?_
        refine V_goto g dX5_floor_63 (tgt := 81) (by decide) ?_
        refine V_callVI_1 (q := 84) g (b_refn l hL (by decide)) dX5_floor_81 k_X5_105 hL.1 rfl rfl rfl rfl ⟨rfl, rfl⟩ rfl (fun z6 M6 e6 => ?_)
        obtain ⟨rfl, rfl⟩ := e6
        refine V_if_eq (q := 87) g dX5_floor_84 (tgt := 89) (by decide) rfl (by omega) (fun h84 => absurd h84 (by omega)) (fun h84 => ?_)
        refine V_iconst (q := 88) g dX5_floor_87 rfl ?_
        exact V_ireturn g r dX5_floor_88 rfl (Or.inl ⟨by omega, rfl⟩)
      · refine V_iload (q := 38) g dX5_floor_36 rfl rfl ?_
        refine V_i2l (q := 39) g dX5_floor_38 (by omega) rfl ?_
        refine V_lconst (q := 40) g dX5_floor_39 (z := 0) (by decide) rfl ?_
        refine V_ldc2 (q := 43) g dX5_floor_40 (z := 50) q_X5_49 (by decide) rfl ?_
        refine V_callSI_3 (q := 46) g (c_X5_in l (by omega) (by omega) (by omega)) dX5_floor_43 k_X5_37 rfl rfl ⟨rfl, rfl⟩ rfl (fun z7 M7 e7 => ?_)
        obtain ⟨e7, rfl⟩ := e7
        refine V_if_eq (q := 49) g dX5_floor_46 (tgt := 53) (by decide) rfl (by omega) (fun h46 => ?_) (fun h46 => ?_)
        · refine V_iconst (q := 54) g dX5_floor_53 rfl ?_
          refine V_istore_5 (q := 56) g dX5_floor_54 (by decide) rfl rfl ?_
          refine V_aload_n (q := 57) g dX5_floor_56 rfl rfl ?_
          refine V_iload (q := 59) g dX5_floor_57 rfl rfl ?_
          refine V_if_ne (q := 62) g dX5_floor_59 (tgt := 66) (by decide) rfl (by omega) (fun h59 => absurd h59 (by omega)) (fun h59 => ?_)
          refine V_iconst (q := 63) g dX5_floor_62 rfl ?_
          refine V_goto g dX5_floor_63 (tgt := 81) (by decide) ?_
          refine V_callVI_1 (q := 84) g (b_refn l hL (by decide)) dX5_floor_81 k_X5_105 hL.1 rfl rfl rfl rfl ⟨rfl, rfl⟩ rfl (fun z8 M8 e8 => ?_)
          obtain ⟨rfl, rfl⟩ := e8
          refine V_if_eq (q := 87) g dX5_floor_84 (tgt := 89) (by decide) rfl (by omega) (fun h84 => absurd h84 (by omega)) (fun h84 => ?_)
          refine V_iconst (q := 88) g dX5_floor_87 rfl ?_
          exact V_ireturn g r dX5_floor_88 rfl (Or.inl ⟨by omega, rfl⟩)
        · refine V_iconst (q := 50) g dX5_floor_49 rfl ?_
          refine V_goto g dX5_floor_50 (tgt := 54) (by decide) ?_
          refine V_istore_5 (q := 56) g dX5_floor_54 (by decide) rfl rfl ?_
          refine V_aload_n (q := 57) g dX5_floor_56 rfl rfl ?_
          refine V_iload (q := 59) g dX5_floor_57 rfl rfl ?_
          refine V_if_ne (q := 62) g dX5_floor_59 (tgt := 66) (by decide) rfl (by omega) (fun h59 => ?_) (fun h59 => absurd h59 (by omega))
          refine V_aload_n (q := 67) g dX5_floor_66 rfl rfl ?_
          refine V_getR (q := 70) g dX5_floor_67 rfl f_X5_13 rfl hL.1 rfl ?_
          refine V_iconst (q := 71) g dX5_floor_70 rfl ?_
          refine V_iaload (q := 72) g dX5_floor_71 rfl hL.2.2.1 (by omega) (by decide) ?_
          rw [hO]
          refine V_iconst (q := 73) g dX5_floor_72 rfl ?_
          refine V_icmp_ge (q := 76) g dX5_floor_73 (tgt := 80) (by decide) rfl (by omega) (by omega) (fun h73 => ?_) (fun h73 => ?_)
          · refine V_iconst (q := 81) g dX5_floor_80 rfl ?_
            refine V_callVI_1 (q := 84) g (b_refn l hL (by decide)) dX5_floor_81 k_X5_105 hL.1 rfl rfl rfl rfl ⟨rfl, rfl⟩ rfl (fun z9 M9 e9 => ?_)
            obtain ⟨rfl, rfl⟩ := e9
            refine V_if_eq (q := 87) g dX5_floor_84 (tgt := 89) (by decide) rfl (by omega) (fun h84 => absurd h84 (by omega)) (fun h84 => ?_)
            refine V_iconst (q := 88) g dX5_floor_87 rfl ?_
            exact V_ireturn g r dX5_floor_88 rfl (Or.inr (Or.inl ⟨by omega, by omega, rfl⟩))
          · refine V_iconst (q := 77) g dX5_floor_76 rfl ?_
            refine V_goto g dX5_floor_77 (tgt := 81) (by decide) ?_
            refine V_callVI_1 (q := 84) g (b_ref0 l hL) dX5_floor_81 k_X5_105 hL.1 rfl rfl rfl rfl ⟨rfl, rfl⟩ rfl (fun z10 M10 e10 => ?_)
            obtain ⟨rfl, rfl⟩ := e10
            have hP : wr M m 0 0 (m + 2) = f := wrO hO (by omega)
            refine V_if_eq (q := 87) g dX5_floor_84 (tgt := 89) (by decide) rfl (by omega) (fun h84 => ?_) (fun h84 => absurd h84 (by omega))
            refine V_aload_n (q := 90) g dX5_floor_89 rfl rfl ?_
            refine V_callVV_0 (q := 93) g (c_X5_remember l hL (by rw [wr_ii M m 0 (by decide)]; exact hac)) dX5_floor_90 k_X5_211 hL.1 rfl rfl rfl rfl ⟨rfl, rfl⟩ rfl (fun M11 e11 => ?_)
            obtain rfl := e11
            have hQ : remM (wr M m 0 0) m (m + 2) = f := remO hP (by omega) (by omega)
            refine V_aload_n (q := 94) g dX5_floor_93 rfl rfl ?_
            refine V_getR (q := 97) g dX5_floor_94 rfl f_X5_13 rfl hL.1 rfl ?_
            refine V_iload_n (q := 98) g dX5_floor_97 rfl rfl ?_
            refine V_iload_n (q := 99) g dX5_floor_98 rfl rfl ?_
            refine V_iload_n (q := 100) g dX5_floor_99 rfl rfl ?_
            refine V_iload (q := 102) g dX5_floor_100 rfl rfl ?_
            refine V_callSI_5 (q := 105) g (c_X5_floorOn l hL.2.2.1 hQ hI (by omega)) dX5_floor_102 k_X5_145 rfl rfl ⟨rfl, rfl⟩ rfl (fun z12 M12 e12 => ?_)
            obtain ⟨⟨e12, b12⟩, rfl⟩ := e12
            try simp only [aset_aset]
            exact V_ireturn g r dX5_floor_105 rfl (Or.inr (Or.inr ⟨by omega, by omega, by omega, rfl⟩))
abbrev rm_X5_level : Room := { frames := 3, cells := 0, slots := 0, locals := 69 }
set_option maxHeartbeats 4000000 in
set_option maxRecDepth 100000 in
theorem c_X5_level (l : Launch) {D : DD} {Λ : LY} {M : MM} {m : Nat} {f : Int → Int} {fl k v : Int} (hL : MdL D Λ m) (hO : M (m + 2) = f) (hI : Inv f) (hac : 0 ≤ M m 6 ∧ M m 6 ≤ 14) (hr1 : inR fl) (hr2 : inR k) (hr3 : inR v) : CI l yX5_level cX5_level 4 .int rm_X5_level [.ref m, vi fl, vi k, vi v] D Λ M (fun z M1 => (¬ (((0 ≤ fl ∧ fl < f 1) ∧ 0 ≤ k ∧ k < 4)) ∧ wr M m 0 1 = M1) ∨ (((0 ≤ fl ∧ fl < f 1) ∧ 0 ≤ k ∧ k < 4) ∧ ¬ ((0 ≤ v ∧ v ≤ 50)) ∧ wr M m 0 2 = M1) ∨ (((0 ≤ fl ∧ fl < f 1) ∧ 0 ≤ k ∧ k < 4) ∧ (0 ≤ v ∧ v ≤ 50) ∧ z = f (12 + (4 * fl + k)) ∧ aset (remM (wr M m 0 0) m) (m + 2) (fLevel f fl k v) = M1)) := by
  refine CI_of rfl rfl (Nat.le_of_ble_eq_true rfl) (fun Γ g r => ?_)
  have h0 := hI.1
  have h1 := hI.2.1
  refine V_aload_n (q := 1) g dX5_level_0 rfl rfl ?_
  refine V_aload_n (q := 2) g dX5_level_1 rfl rfl ?_
  refine V_getR (q := 5) g dX5_level_2 rfl f_X5_13 rfl hL.1 rfl ?_
  refine V_iload_n (q := 6) g dX5_level_5 rfl rfl ?_
  refine V_callSI_2 (q := 9) g (c_X5_isFloor l hL.2.2.1 hO hI (by omega)) dX5_level_6 k_X5_149 rfl rfl ⟨rfl, rfl⟩ rfl (fun z1 M1 e1 => ?_)
  obtain ⟨e1, rfl⟩ := e1
  refine V_if_eq (q := 12) g dX5_level_9 (tgt := 19) (by decide) rfl (by omega) (fun h9 => ?_) (fun h9 => ?_)
  · refine V_iconst (q := 20) g dX5_level_19 rfl ?_
    refine V_goto g dX5_level_20 (tgt := 40) (by decide) ?_
    refine V_callVI_1 (q := 43) g (b_refn l hL (by decide)) dX5_level_40 k_X5_105 hL.1 rfl rfl rfl rfl ⟨rfl, rfl⟩ rfl (fun z2 M2 e2 => ?_)
    obtain ⟨rfl, rfl⟩ := e2
    refine V_if_eq (q := 46) g dX5_level_43 (tgt := 48) (by decide) rfl (by omega) (fun h43 => absurd h43 (by omega)) (fun h43 => ?_)
    refine V_iconst (q := 47) g dX5_level_46 rfl ?_
    exact V_ireturn g r dX5_level_47 rfl (Or.inl ⟨by omega, rfl⟩)
  · refine V_iload_n (q := 13) g dX5_level_12 rfl rfl ?_
    refine V_callSI_1 (q := 16) g (c_X5_isFour l (by omega)) dX5_level_13 k_X5_206 rfl rfl ⟨rfl, rfl⟩ rfl (fun z3 M3 e3 => ?_)
    obtain ⟨e3, rfl⟩ := e3
    refine V_if_ne (q := 19) g dX5_level_16 (tgt := 23) (by decide) rfl (by omega) (fun h16 => ?_) (fun h16 => ?_)
    · refine V_iload_n (q := 24) g dX5_level_23 rfl rfl ?_
      refine V_i2l (q := 25) g dX5_level_24 (by omega) rfl ?_
      refine V_lconst (q := 26) g dX5_level_25 (z := 0) (by decide) rfl ?_
      refine V_ldc2 (q := 29) g dX5_level_26 (z := 50) q_X5_49 (by decide) rfl ?_
      refine V_callSI_3 (q := 32) g (c_X5_in l (by omega) (by omega) (by omega)) dX5_level_29 k_X5_37 rfl rfl ⟨rfl, rfl⟩ rfl (fun z4 M4 e4 => ?_)
      obtain ⟨e4, rfl⟩ := e4
      refine V_if_eq (q := 35) g dX5_level_32 (tgt := 39) (by decide) rfl (by omega) (fun h32 => ?_) (fun h32 => ?_)
      · refine V_iconst (q := 40) g dX5_level_39 rfl ?_
        refine V_callVI_1 (q := 43) g (b_refn l hL (by decide)) dX5_level_40 k_X5_105 hL.1 rfl rfl rfl rfl ⟨rfl, rfl⟩ rfl (fun z5 M5 e5 => ?_)
        obtain ⟨rfl, rfl⟩ := e5
        refine V_if_eq (q := 46) g dX5_level_43 (tgt := 48) (by decide) rfl (by omega) (fun h43 => absurd h43 (by omega)) (fun h43 => ?_)
        refine V_iconst (q := 47) g dX5_level_46 rfl ?_
        exact V_ireturn g r dX5_level_47 rfl (Or.inr (Or.inl ⟨by omega, by omega, rfl⟩))
      · refine V_iconst (q := 36) g dX5_level_35 rfl ?_
        refine V_goto g dX5_level_36 (tgt := 40) (by decide) ?_
        refine V_callVI_1 (q := 43) g (b_ref0 l hL) dX5_level_40 k_X5_105 hL.1 rfl rfl rfl rfl ⟨rfl, rfl⟩ rfl (fun z6 M6 e6 => ?_)
        obtain ⟨rfl, rfl⟩ := e6
        have hP : wr M m 0 0 (m + 2) = f := wrO hO (by omega)
        refine V_if_eq (q := 46) g dX5_level_43 (tgt := 48) (by decide) rfl (by omega) (fun h43 => ?_) (fun h43 => absurd h43 (by omega))
        refine V_aload_n (q := 49) g dX5_level_48 rfl rfl ?_
        refine V_callVV_0 (q := 52) g (c_X5_remember l hL (by rw [wr_ii M m 0 (by decide)]; exact hac)) dX5_level_49 k_X5_211 hL.1 rfl rfl rfl rfl ⟨rfl, rfl⟩ rfl (fun M7 e7 => ?_)
        obtain rfl := e7
        have hQ : remM (wr M m 0 0) m (m + 2) = f := remO hP (by omega) (by omega)
        refine V_aload_n (q := 53) g dX5_level_52 rfl rfl ?_
        refine V_getR (q := 56) g dX5_level_53 rfl f_X5_13 rfl hL.1 rfl ?_
        refine V_iload_n (q := 57) g dX5_level_56 rfl rfl ?_
        refine V_iload_n (q := 58) g dX5_level_57 rfl rfl ?_
        refine V_iload_n (q := 59) g dX5_level_58 rfl rfl ?_
        refine V_callSI_4 (q := 62) g (c_X5_levelOn l hL.2.2.1 hQ hI (by omega) (by omega) (by omega)) dX5_level_59 k_X5_214 rfl rfl ⟨rfl, rfl⟩ rfl (fun z8 M8 e8 => ?_)
        obtain ⟨⟨e8, b8⟩, rfl⟩ := e8
        try simp only [aset_aset]
        exact V_ireturn g r dX5_level_62 rfl (Or.inr (Or.inr ⟨by omega, by omega, by omega, rfl⟩))
    · refine V_iconst (q := 20) g dX5_level_19 rfl ?_
      refine V_goto g dX5_level_20 (tgt := 40) (by decide) ?_
      refine V_callVI_1 (q := 43) g (b_refn l hL (by decide)) dX5_level_40 k_X5_105 hL.1 rfl rfl rfl rfl ⟨rfl, rfl⟩ rfl (fun z9 M9 e9 => ?_)
      obtain ⟨rfl, rfl⟩ := e9
      refine V_if_eq (q := 46) g dX5_level_43 (tgt := 48) (by decide) rfl (by omega) (fun h43 => absurd h43 (by omega)) (fun h43 => ?_)
      refine V_iconst (q := 47) g dX5_level_46 rfl ?_
      exact V_ireturn g r dX5_level_47 rfl (Or.inl ⟨by omega, rfl⟩)
abbrev rm_X5_bring : Room := { frames := 6, cells := 0, slots := 0, locals := 131 }
set_option maxHeartbeats 4000000 in
set_option maxRecDepth 100000 in
theorem c_X5_bring (l : Launch) {D : DD} {Λ : LY} {M : MM} {m : Nat} {f : Int → Int} {c fl q : Int} (hL : MdL D Λ m) (hO : M (m + 2) = f) (hI : Inv f) (hac : 0 ≤ M m 6 ∧ M m 6 ≤ 14) (hr1 : inR c) (hr2 : inR fl) (hr3 : inR q) : CI l yX5_bring cX5_bring 4 .int rm_X5_bring [.ref m, vi c, vi fl, vi q] D Λ M (fun z M1 => (¬ (((0 ≤ c ∧ c < f 0) ∧ (0 ≤ fl ∧ fl < f 1))) ∧ wr M m 0 1 = M1) ∨ (((0 ≤ c ∧ c < f 0) ∧ (0 ≤ fl ∧ fl < f 1)) ∧ ¬ ((0 ≤ q ∧ q < 4)) ∧ wr M m 0 2 = M1) ∨ (((0 ≤ c ∧ c < f 0) ∧ (0 ≤ fl ∧ fl < f 1)) ∧ (0 ≤ q ∧ q < 4) ∧ z = sWob f c fl q ∧ aset (remM (wr M m 0 0) m) (m + 2) (fBring f c fl q) = M1)) := by
  refine CI_of rfl rfl (Nat.le_of_ble_eq_true rfl) (fun Γ g r => ?_)
  have h0 := hI.1
  have h1 := hI.2.1
  refine V_aload_n (q := 1) g dX5_bring_0 rfl rfl ?_
  refine V_aload_n (q := 2) g dX5_bring_1 rfl rfl ?_
  refine V_getR (q := 5) g dX5_bring_2 rfl f_X5_13 rfl hL.1 rfl ?_
  refine V_iload_n (q := 6) g dX5_bring_5 rfl rfl ?_
  refine V_callSI_2 (q := 9) g (c_X5_isChair l hL.2.2.1 hO hI (by omega)) dX5_bring_6 k_X5_96 rfl rfl ⟨rfl, rfl⟩ rfl (fun z1 M1 e1 => ?_)
  obtain ⟨e1, rfl⟩ := e1
  refine V_if_eq (q := 12) g dX5_bring_9 (tgt := 23) (by decide) rfl (by omega) (fun h9 => ?_) (fun h9 => ?_)
  · refine V_iconst (q := 24) g dX5_bring_23 rfl ?_
    refine V_goto g dX5_bring_24 (tgt := 39) (by decide) ?_
    refine V_callVI_1 (q := 42) g (b_refn l hL (by decide)) dX5_bring_39 k_X5_105 hL.1 rfl rfl rfl rfl ⟨rfl, rfl⟩ rfl (fun z2 M2 e2 => ?_)
    obtain ⟨rfl, rfl⟩ := e2
    refine V_if_eq (q := 45) g dX5_bring_42 (tgt := 47) (by decide) rfl (by omega) (fun h42 => absurd h42 (by omega)) (fun h42 => ?_)
    refine V_iconst (q := 46) g dX5_bring_45 rfl ?_
    exact V_ireturn g r dX5_bring_46 rfl (Or.inl ⟨by omega, rfl⟩)
  · refine V_aload_n (q := 13) g dX5_bring_12 rfl rfl ?_
    refine V_getR (q := 16) g dX5_bring_13 rfl f_X5_13 rfl hL.1 rfl ?_
    refine V_iload_n (q := 17) g dX5_bring_16 rfl rfl ?_
    refine V_callSI_2 (q := 20) g (c_X5_isFloor l hL.2.2.1 hO hI (by omega)) dX5_bring_17 k_X5_149 rfl rfl ⟨rfl, rfl⟩ rfl (fun z3 M3 e3 => ?_)
    obtain ⟨e3, rfl⟩ := e3
    refine V_if_ne (q := 23) g dX5_bring_20 (tgt := 27) (by decide) rfl (by omega) (fun h20 => ?_) (fun h20 => ?_)
    · refine V_iload_n (q := 28) g dX5_bring_27 rfl rfl ?_
      refine V_callSI_1 (q := 31) g (c_X5_isFour l (by omega)) dX5_bring_28 k_X5_206 rfl rfl ⟨rfl, rfl⟩ rfl (fun z4 M4 e4 => ?_)
      obtain ⟨e4, rfl⟩ := e4
      refine V_if_eq (q := 34) g dX5_bring_31 (tgt := 38) (by decide) rfl (by omega) (fun h31 => ?_) (fun h31 => ?_)
      · refine V_iconst (q := 39) g dX5_bring_38 rfl ?_
        refine V_callVI_1 (q := 42) g (b_refn l hL (by decide)) dX5_bring_39 k_X5_105 hL.1 rfl rfl rfl rfl ⟨rfl, rfl⟩ rfl (fun z5 M5 e5 => ?_)
        obtain ⟨rfl, rfl⟩ := e5
        refine V_if_eq (q := 45) g dX5_bring_42 (tgt := 47) (by decide) rfl (by omega) (fun h42 => absurd h42 (by omega)) (fun h42 => ?_)
        refine V_iconst (q := 46) g dX5_bring_45 rfl ?_
        exact V_ireturn g r dX5_bring_46 rfl (Or.inr (Or.inl ⟨by omega, by omega, rfl⟩))
      · refine V_iconst (q := 35) g dX5_bring_34 rfl ?_
        refine V_goto g dX5_bring_35 (tgt := 39) (by decide) ?_
        refine V_callVI_1 (q := 42) g (b_ref0 l hL) dX5_bring_39 k_X5_105 hL.1 rfl rfl rfl rfl ⟨rfl, rfl⟩ rfl (fun z6 M6 e6 => ?_)
        obtain ⟨rfl, rfl⟩ := e6
        have hP : wr M m 0 0 (m + 2) = f := wrO hO (by omega)
        refine V_if_eq (q := 45) g dX5_bring_42 (tgt := 47) (by decide) rfl (by omega) (fun h42 => ?_) (fun h42 => absurd h42 (by omega))
        refine V_aload_n (q := 48) g dX5_bring_47 rfl rfl ?_
        refine V_callVV_0 (q := 51) g (c_X5_remember l hL (by rw [wr_ii M m 0 (by decide)]; exact hac)) dX5_bring_48 k_X5_211 hL.1 rfl rfl rfl rfl ⟨rfl, rfl⟩ rfl (fun M7 e7 => ?_)
        obtain rfl := e7
        have hQ : remM (wr M m 0 0) m (m + 2) = f := remO hP (by omega) (by omega)
        refine V_aload_n (q := 52) g dX5_bring_51 rfl rfl ?_
        refine V_getR (q := 55) g dX5_bring_52 rfl f_X5_13 rfl hL.1 rfl ?_
        refine V_iload_n (q := 56) g dX5_bring_55 rfl rfl ?_
        refine V_iload_n (q := 57) g dX5_bring_56 rfl rfl ?_
        refine V_iload_n (q := 58) g dX5_bring_57 rfl rfl ?_
        refine V_callSI_4 (q := 61) g (c_X5_bringOn l hL.2.2.1 hQ hI (by omega) (by omega) (by omega)) dX5_bring_58 k_X5_152 rfl rfl ⟨rfl, rfl⟩ rfl (fun z8 M8 e8 => ?_)
        obtain ⟨⟨e8, b8⟩, rfl⟩ := e8
        try simp only [aset_aset]
        exact V_ireturn g r dX5_bring_61 rfl (Or.inr (Or.inr ⟨by omega, by omega, by omega, rfl⟩))
    · refine V_iconst (q := 24) g dX5_bring_23 rfl ?_
      refine V_goto g dX5_bring_24 (tgt := 39) (by decide) ?_
      refine V_callVI_1 (q := 42) g (b_refn l hL (by decide)) dX5_bring_39 k_X5_105 hL.1 rfl rfl rfl rfl ⟨rfl, rfl⟩ rfl (fun z9 M9 e9 => ?_)
      obtain ⟨rfl, rfl⟩ := e9
      refine V_if_eq (q := 45) g dX5_bring_42 (tgt := 47) (by decide) rfl (by omega) (fun h42 => absurd h42 (by omega)) (fun h42 => ?_)
      refine V_iconst (q := 46) g dX5_bring_45 rfl ?_
      exact V_ireturn g r dX5_bring_46 rfl (Or.inl ⟨by omega, rfl⟩)
abbrev rm_X5_saw : Room := { frames := 4, cells := 0, slots := 0, locals := 90 }
set_option maxHeartbeats 4000000 in
set_option maxRecDepth 100000 in
theorem c_X5_saw (l : Launch) {D : DD} {Λ : LY} {M : MM} {m : Nat} {f : Int → Int} {c k n : Int} (hL : MdL D Λ m) (hO : M (m + 2) = f) (hI : Inv f) (hac : 0 ≤ M m 6 ∧ M m 6 ≤ 14) (hr1 : inR c) (hr2 : inR k) (hr3 : inR n) : CI l yX5_saw cX5_saw 4 .int rm_X5_saw [.ref m, vi c, vi k, vi n] D Λ M (fun z M1 => (¬ (((0 ≤ c ∧ c < f 0) ∧ 0 ≤ k ∧ k < 4)) ∧ wr M m 0 1 = M1) ∨ (((0 ≤ c ∧ c < f 0) ∧ 0 ≤ k ∧ k < 4) ∧ ¬ ((1 ≤ n ∧ n ≤ 800)) ∧ wr M m 0 2 = M1) ∨ (((0 ≤ c ∧ c < f 0) ∧ 0 ≤ k ∧ k < 4) ∧ (1 ≤ n ∧ n ≤ 800) ∧ ¬ ((100 ≤ f (49 + 9 * c + k) - n)) ∧ wr M m 0 3 = M1) ∨ (((0 ≤ c ∧ c < f 0) ∧ 0 ≤ k ∧ k < 4) ∧ (1 ≤ n ∧ n ≤ 800) ∧ (100 ≤ f (49 + 9 * c + k) - n) ∧ z = f (49 + 9 * c + k) - n ∧ aset (remM (wr M m 0 0) m) (m + 2) (fSaw f c k n) = M1)) := by
  refine CI_of rfl rfl (Nat.le_of_ble_eq_true rfl) (fun Γ g r => ?_)
  have h0 := hI.1
  have h1 := hI.2.1
  have hlg : ∀ a b : Int, 0 ≤ a ∧ a < f 0 → 0 ≤ b ∧ b < 4 → 100 ≤ f (49 + 9 * a + b) ∧ f (49 + 9 * a + b) ≤ 900 := fun a b ha hb => (hI.2.2.2.2.2.2 a ha.1 ha.2).2.2.2.2 b hb.1 hb.2
  refine V_aload_n (q := 1) g dX5_saw_0 rfl rfl ?_
  refine V_aload_n (q := 2) g dX5_saw_1 rfl rfl ?_
  refine V_getR (q := 5) g dX5_saw_2 rfl f_X5_13 rfl hL.1 rfl ?_
  refine V_iload_n (q := 6) g dX5_saw_5 rfl rfl ?_
  refine V_callSI_2 (q := 9) g (c_X5_isChair l hL.2.2.1 hO hI (by omega)) dX5_saw_6 k_X5_96 rfl rfl ⟨rfl, rfl⟩ rfl (fun z1 M1 e1 => ?_)
  obtain ⟨e1, rfl⟩ := e1
  refine V_if_eq (q := 12) g dX5_saw_9 (tgt := 19) (by decide) rfl (by omega) (fun h9 => ?_) (fun h9 => ?_)
  · refine V_iconst (q := 20) g dX5_saw_19 rfl ?_
    refine V_goto g dX5_saw_20 (tgt := 57) (by decide) ?_
    refine V_callVI_1 (q := 60) g (b_refn l hL (by decide)) dX5_saw_57 k_X5_105 hL.1 rfl rfl rfl rfl ⟨rfl, rfl⟩ rfl (fun z2 M2 e2 => ?_)
    obtain ⟨rfl, rfl⟩ := e2
    refine V_if_eq (q := 63) g dX5_saw_60 (tgt := 65) (by decide) rfl (by omega) (fun h60 => absurd h60 (by omega)) (fun h60 => ?_)
    refine V_iconst (q := 64) g dX5_saw_63 rfl ?_
    exact V_ireturn g r dX5_saw_64 rfl (Or.inl ⟨by omega, rfl⟩)
  · refine V_iload_n (q := 13) g dX5_saw_12 rfl rfl ?_
    refine V_callSI_1 (q := 16) g (c_X5_isFour l (by omega)) dX5_saw_13 k_X5_206 rfl rfl ⟨rfl, rfl⟩ rfl (fun z3 M3 e3 => ?_)
    obtain ⟨e3, rfl⟩ := e3
    refine V_if_ne (q := 19) g dX5_saw_16 (tgt := 23) (by decide) rfl (by omega) (fun h16 => ?_) (fun h16 => ?_)
    · refine V_iload_n (q := 24) g dX5_saw_23 rfl rfl ?_
      refine V_i2l (q := 25) g dX5_saw_24 (by omega) rfl ?_
      refine V_lconst (q := 26) g dX5_saw_25 (z := 1) (by decide) rfl ?_
      refine V_ldc2 (q := 29) g dX5_saw_26 (z := 800) q_X5_217 (by decide) rfl ?_
      refine V_callSI_3 (q := 32) g (c_X5_in l (by omega) (by omega) (by omega)) dX5_saw_29 k_X5_37 rfl rfl ⟨rfl, rfl⟩ rfl (fun z4 M4 e4 => ?_)
      obtain ⟨e4, rfl⟩ := e4
      refine V_if_ne (q := 35) g dX5_saw_32 (tgt := 39) (by decide) rfl (by omega) (fun h32 => ?_) (fun h32 => ?_)
      · refine V_aload_n (q := 40) g dX5_saw_39 rfl rfl ?_
        refine V_getR (q := 43) g dX5_saw_40 rfl f_X5_13 rfl hL.1 rfl ?_
        refine V_iload_n (q := 44) g dX5_saw_43 rfl rfl ?_
        refine V_iload_n (q := 45) g dX5_saw_44 rfl rfl ?_
        refine V_iload_n (q := 46) g dX5_saw_45 rfl rfl ?_
        refine V_callSI_4 (q := 49) g (c_X5_canSaw l hL.2.2.1 hO hI (by omega) (by omega) (by omega)) dX5_saw_46 k_X5_128 rfl rfl ⟨rfl, rfl⟩ rfl (fun z5 M5 e5 => ?_)
        obtain ⟨e5, rfl⟩ := e5
        refine V_if_eq (q := 52) g dX5_saw_49 (tgt := 56) (by decide) rfl (by omega) (fun h49 => ?_) (fun h49 => ?_)
        · refine V_iconst (q := 57) g dX5_saw_56 rfl ?_
          refine V_callVI_1 (q := 60) g (b_refn l hL (by decide)) dX5_saw_57 k_X5_105 hL.1 rfl rfl rfl rfl ⟨rfl, rfl⟩ rfl (fun z6 M6 e6 => ?_)
          obtain ⟨rfl, rfl⟩ := e6
          refine V_if_eq (q := 63) g dX5_saw_60 (tgt := 65) (by decide) rfl (by omega) (fun h60 => absurd h60 (by omega)) (fun h60 => ?_)
          refine V_iconst (q := 64) g dX5_saw_63 rfl ?_
          exact V_ireturn g r dX5_saw_64 rfl (Or.inr (Or.inr (Or.inl ⟨by omega, by omega, by omega, rfl⟩)))
        · refine V_iconst (q := 53) g dX5_saw_52 rfl ?_
          refine V_goto g dX5_saw_53 (tgt := 57) (by decide) ?_
          refine V_callVI_1 (q := 60) g (b_ref0 l hL) dX5_saw_57 k_X5_105 hL.1 rfl rfl rfl rfl ⟨rfl, rfl⟩ rfl (fun z7 M7 e7 => ?_)
          obtain ⟨rfl, rfl⟩ := e7
          have hP : wr M m 0 0 (m + 2) = f := wrO hO (by omega)
          refine V_if_eq (q := 63) g dX5_saw_60 (tgt := 65) (by decide) rfl (by omega) (fun h60 => ?_) (fun h60 => absurd h60 (by omega))
          refine V_aload_n (q := 66) g dX5_saw_65 rfl rfl ?_
          refine V_callVV_0 (q := 69) g (c_X5_remember l hL (by rw [wr_ii M m 0 (by decide)]; exact hac)) dX5_saw_66 k_X5_211 hL.1 rfl rfl rfl rfl ⟨rfl, rfl⟩ rfl (fun M8 e8 => ?_)
          obtain rfl := e8
          have hQ : remM (wr M m 0 0) m (m + 2) = f := remO hP (by omega) (by omega)
          refine V_aload_n (q := 70) g dX5_saw_69 rfl rfl ?_
          refine V_getR (q := 73) g dX5_saw_70 rfl f_X5_13 rfl hL.1 rfl ?_
          have hl := hlg c k (by omega) (by omega)
          refine V_iload_n (q := 74) g dX5_saw_73 rfl rfl ?_
          refine V_iload_n (q := 75) g dX5_saw_74 rfl rfl ?_
          refine V_iload_n (q := 76) g dX5_saw_75 rfl rfl ?_
          refine V_callSI_4 (q := 79) g (c_X5_sawOn l hL.2.2.1 hQ hI (by omega) (by omega) (by omega) (by omega)) dX5_saw_76 k_X5_132 rfl rfl ⟨rfl, rfl⟩ rfl (fun z9 M9 e9 => ?_)
          obtain ⟨e9, rfl⟩ := e9
          try simp only [aset_aset]
          exact V_ireturn g r dX5_saw_79 rfl (Or.inr (Or.inr (Or.inr ⟨by omega, by omega, by omega, by omega, rfl⟩)))
      · refine V_iconst (q := 36) g dX5_saw_35 rfl ?_
        refine V_goto g dX5_saw_36 (tgt := 57) (by decide) ?_
        refine V_callVI_1 (q := 60) g (b_refn l hL (by decide)) dX5_saw_57 k_X5_105 hL.1 rfl rfl rfl rfl ⟨rfl, rfl⟩ rfl (fun z10 M10 e10 => ?_)
        obtain ⟨rfl, rfl⟩ := e10
        refine V_if_eq (q := 63) g dX5_saw_60 (tgt := 65) (by decide) rfl (by omega) (fun h60 => absurd h60 (by omega)) (fun h60 => ?_)
        refine V_iconst (q := 64) g dX5_saw_63 rfl ?_
        exact V_ireturn g r dX5_saw_64 rfl (Or.inr (Or.inl ⟨by omega, by omega, rfl⟩))
    · refine V_iconst (q := 20) g dX5_saw_19 rfl ?_
      refine V_goto g dX5_saw_20 (tgt := 57) (by decide) ?_
      refine V_callVI_1 (q := 60) g (b_refn l hL (by decide)) dX5_saw_57 k_X5_105 hL.1 rfl rfl rfl rfl ⟨rfl, rfl⟩ rfl (fun z11 M11 e11 => ?_)
      obtain ⟨rfl, rfl⟩ := e11
      refine V_if_eq (q := 63) g dX5_saw_60 (tgt := 65) (by decide) rfl (by omega) (fun h60 => absurd h60 (by omega)) (fun h60 => ?_)
      refine V_iconst (q := 64) g dX5_saw_63 rfl ?_
      exact V_ireturn g r dX5_saw_64 rfl (Or.inl ⟨by omega, rfl⟩)
abbrev rm_X5_shim : Room := { frames := 4, cells := 0, slots := 0, locals := 90 }
set_option maxHeartbeats 4000000 in
set_option maxRecDepth 100000 in
theorem c_X5_shim (l : Launch) {D : DD} {Λ : LY} {M : MM} {m : Nat} {f : Int → Int} {c k n : Int} (hL : MdL D Λ m) (hO : M (m + 2) = f) (hI : Inv f) (hac : 0 ≤ M m 6 ∧ M m 6 ≤ 14) (hr1 : inR c) (hr2 : inR k) (hr3 : inR n) : CI l yX5_shim cX5_shim 4 .int rm_X5_shim [.ref m, vi c, vi k, vi n] D Λ M (fun z M1 => (¬ (((0 ≤ c ∧ c < f 0) ∧ 0 ≤ k ∧ k < 4)) ∧ wr M m 0 1 = M1) ∨ (((0 ≤ c ∧ c < f 0) ∧ 0 ≤ k ∧ k < 4) ∧ ¬ ((1 ≤ n ∧ n ≤ 99)) ∧ wr M m 0 2 = M1) ∨ (((0 ≤ c ∧ c < f 0) ∧ 0 ≤ k ∧ k < 4) ∧ (1 ≤ n ∧ n ≤ 99) ∧ ¬ ((f (49 + 9 * c + k) + n ≤ 900)) ∧ wr M m 0 3 = M1) ∨ (((0 ≤ c ∧ c < f 0) ∧ 0 ≤ k ∧ k < 4) ∧ (1 ≤ n ∧ n ≤ 99) ∧ (f (49 + 9 * c + k) + n ≤ 900) ∧ z = f (49 + 9 * c + k) + n ∧ aset (remM (wr M m 0 0) m) (m + 2) (fShim f c k n) = M1)) := by
  refine CI_of rfl rfl (Nat.le_of_ble_eq_true rfl) (fun Γ g r => ?_)
  have h0 := hI.1
  have h1 := hI.2.1
  have hlg : ∀ a b : Int, 0 ≤ a ∧ a < f 0 → 0 ≤ b ∧ b < 4 → 100 ≤ f (49 + 9 * a + b) ∧ f (49 + 9 * a + b) ≤ 900 := fun a b ha hb => (hI.2.2.2.2.2.2 a ha.1 ha.2).2.2.2.2 b hb.1 hb.2
  refine V_aload_n (q := 1) g dX5_shim_0 rfl rfl ?_
  refine V_aload_n (q := 2) g dX5_shim_1 rfl rfl ?_
  refine V_getR (q := 5) g dX5_shim_2 rfl f_X5_13 rfl hL.1 rfl ?_
  refine V_iload_n (q := 6) g dX5_shim_5 rfl rfl ?_
  refine V_callSI_2 (q := 9) g (c_X5_isChair l hL.2.2.1 hO hI (by omega)) dX5_shim_6 k_X5_96 rfl rfl ⟨rfl, rfl⟩ rfl (fun z1 M1 e1 => ?_)
  obtain ⟨e1, rfl⟩ := e1
  refine V_if_eq (q := 12) g dX5_shim_9 (tgt := 19) (by decide) rfl (by omega) (fun h9 => ?_) (fun h9 => ?_)
  · refine V_iconst (q := 20) g dX5_shim_19 rfl ?_
    refine V_goto g dX5_shim_20 (tgt := 57) (by decide) ?_
    refine V_callVI_1 (q := 60) g (b_refn l hL (by decide)) dX5_shim_57 k_X5_105 hL.1 rfl rfl rfl rfl ⟨rfl, rfl⟩ rfl (fun z2 M2 e2 => ?_)
    obtain ⟨rfl, rfl⟩ := e2
    refine V_if_eq (q := 63) g dX5_shim_60 (tgt := 65) (by decide) rfl (by omega) (fun h60 => absurd h60 (by omega)) (fun h60 => ?_)
    refine V_iconst (q := 64) g dX5_shim_63 rfl ?_
    exact V_ireturn g r dX5_shim_64 rfl (Or.inl ⟨by omega, rfl⟩)
  · refine V_iload_n (q := 13) g dX5_shim_12 rfl rfl ?_
    refine V_callSI_1 (q := 16) g (c_X5_isFour l (by omega)) dX5_shim_13 k_X5_206 rfl rfl ⟨rfl, rfl⟩ rfl (fun z3 M3 e3 => ?_)
    obtain ⟨e3, rfl⟩ := e3
    refine V_if_ne (q := 19) g dX5_shim_16 (tgt := 23) (by decide) rfl (by omega) (fun h16 => ?_) (fun h16 => ?_)
    · refine V_iload_n (q := 24) g dX5_shim_23 rfl rfl ?_
      refine V_i2l (q := 25) g dX5_shim_24 (by omega) rfl ?_
      refine V_lconst (q := 26) g dX5_shim_25 (z := 1) (by decide) rfl ?_
      refine V_ldc2 (q := 29) g dX5_shim_26 (z := 99) q_X5_219 (by decide) rfl ?_
      refine V_callSI_3 (q := 32) g (c_X5_in l (by omega) (by omega) (by omega)) dX5_shim_29 k_X5_37 rfl rfl ⟨rfl, rfl⟩ rfl (fun z4 M4 e4 => ?_)
      obtain ⟨e4, rfl⟩ := e4
      refine V_if_ne (q := 35) g dX5_shim_32 (tgt := 39) (by decide) rfl (by omega) (fun h32 => ?_) (fun h32 => ?_)
      · refine V_aload_n (q := 40) g dX5_shim_39 rfl rfl ?_
        refine V_getR (q := 43) g dX5_shim_40 rfl f_X5_13 rfl hL.1 rfl ?_
        refine V_iload_n (q := 44) g dX5_shim_43 rfl rfl ?_
        refine V_iload_n (q := 45) g dX5_shim_44 rfl rfl ?_
        refine V_iload_n (q := 46) g dX5_shim_45 rfl rfl ?_
        refine V_callSI_4 (q := 49) g (c_X5_canShim l hL.2.2.1 hO hI (by omega) (by omega) (by omega)) dX5_shim_46 k_X5_135 rfl rfl ⟨rfl, rfl⟩ rfl (fun z5 M5 e5 => ?_)
        obtain ⟨e5, rfl⟩ := e5
        refine V_if_eq (q := 52) g dX5_shim_49 (tgt := 56) (by decide) rfl (by omega) (fun h49 => ?_) (fun h49 => ?_)
        · refine V_iconst (q := 57) g dX5_shim_56 rfl ?_
          refine V_callVI_1 (q := 60) g (b_refn l hL (by decide)) dX5_shim_57 k_X5_105 hL.1 rfl rfl rfl rfl ⟨rfl, rfl⟩ rfl (fun z6 M6 e6 => ?_)
          obtain ⟨rfl, rfl⟩ := e6
          refine V_if_eq (q := 63) g dX5_shim_60 (tgt := 65) (by decide) rfl (by omega) (fun h60 => absurd h60 (by omega)) (fun h60 => ?_)
          refine V_iconst (q := 64) g dX5_shim_63 rfl ?_
          exact V_ireturn g r dX5_shim_64 rfl (Or.inr (Or.inr (Or.inl ⟨by omega, by omega, by omega, rfl⟩)))
        · refine V_iconst (q := 53) g dX5_shim_52 rfl ?_
          refine V_goto g dX5_shim_53 (tgt := 57) (by decide) ?_
          refine V_callVI_1 (q := 60) g (b_ref0 l hL) dX5_shim_57 k_X5_105 hL.1 rfl rfl rfl rfl ⟨rfl, rfl⟩ rfl (fun z7 M7 e7 => ?_)
          obtain ⟨rfl, rfl⟩ := e7
          have hP : wr M m 0 0 (m + 2) = f := wrO hO (by omega)
          refine V_if_eq (q := 63) g dX5_shim_60 (tgt := 65) (by decide) rfl (by omega) (fun h60 => ?_) (fun h60 => absurd h60 (by omega))
          refine V_aload_n (q := 66) g dX5_shim_65 rfl rfl ?_
          refine V_callVV_0 (q := 69) g (c_X5_remember l hL (by rw [wr_ii M m 0 (by decide)]; exact hac)) dX5_shim_66 k_X5_211 hL.1 rfl rfl rfl rfl ⟨rfl, rfl⟩ rfl (fun M8 e8 => ?_)
          obtain rfl := e8
          have hQ : remM (wr M m 0 0) m (m + 2) = f := remO hP (by omega) (by omega)
          refine V_aload_n (q := 70) g dX5_shim_69 rfl rfl ?_
          refine V_getR (q := 73) g dX5_shim_70 rfl f_X5_13 rfl hL.1 rfl ?_
          have hl := hlg c k (by omega) (by omega)
          refine V_iload_n (q := 74) g dX5_shim_73 rfl rfl ?_
          refine V_iload_n (q := 75) g dX5_shim_74 rfl rfl ?_
          refine V_iload_n (q := 76) g dX5_shim_75 rfl rfl ?_
          refine V_callSI_4 (q := 79) g (c_X5_shimOn l hL.2.2.1 hQ hI (by omega) (by omega) (by omega) (by omega)) dX5_shim_76 k_X5_138 rfl rfl ⟨rfl, rfl⟩ rfl (fun z9 M9 e9 => ?_)
          obtain ⟨e9, rfl⟩ := e9
          try simp only [aset_aset]
          exact V_ireturn g r dX5_shim_79 rfl (Or.inr (Or.inr (Or.inr ⟨by omega, by omega, by omega, by omega, rfl⟩)))
      · refine V_iconst (q := 36) g dX5_shim_35 rfl ?_
        refine V_goto g dX5_shim_36 (tgt := 57) (by decide) ?_
        refine V_callVI_1 (q := 60) g (b_refn l hL (by decide)) dX5_shim_57 k_X5_105 hL.1 rfl rfl rfl rfl ⟨rfl, rfl⟩ rfl (fun z10 M10 e10 => ?_)
        obtain ⟨rfl, rfl⟩ := e10
        refine V_if_eq (q := 63) g dX5_shim_60 (tgt := 65) (by decide) rfl (by omega) (fun h60 => absurd h60 (by omega)) (fun h60 => ?_)
        refine V_iconst (q := 64) g dX5_shim_63 rfl ?_
        exact V_ireturn g r dX5_shim_64 rfl (Or.inr (Or.inl ⟨by omega, by omega, rfl⟩))
    · refine V_iconst (q := 20) g dX5_shim_19 rfl ?_
      refine V_goto g dX5_shim_20 (tgt := 57) (by decide) ?_
      refine V_callVI_1 (q := 60) g (b_refn l hL (by decide)) dX5_shim_57 k_X5_105 hL.1 rfl rfl rfl rfl ⟨rfl, rfl⟩ rfl (fun z11 M11 e11 => ?_)
      obtain ⟨rfl, rfl⟩ := e11
      refine V_if_eq (q := 63) g dX5_shim_60 (tgt := 65) (by decide) rfl (by omega) (fun h60 => absurd h60 (by omega)) (fun h60 => ?_)
      refine V_iconst (q := 64) g dX5_shim_63 rfl ?_
      exact V_ireturn g r dX5_shim_64 rfl (Or.inl ⟨by omega, rfl⟩)
abbrev rm_X5_test : Room := { frames := 7, cells := 0, slots := 0, locals := 152 }
set_option maxHeartbeats 4000000 in
set_option maxRecDepth 100000 in
theorem c_X5_test (l : Launch) {D : DD} {Λ : LY} {M : MM} {m : Nat} {f : Int → Int} {c : Int} (hL : MdL D Λ m) (hO : M (m + 2) = f) (hI : Inv f) (hac : 0 ≤ M m 6 ∧ M m 6 ≤ 14) (hr1 : inR c) : CI l yX5_test cX5_test 2 .int rm_X5_test [.ref m, vi c] D Λ M (fun z M1 => (¬ ((0 ≤ c ∧ c < f 0)) ∧ wr M m 0 1 = M1) ∨ ((0 ≤ c ∧ c < f 0) ∧ z = sWhy f c ∧ aset (remM (wr M m 0 0) m) (m + 2) (fTest f c) = M1)) := by
  refine CI_of rfl rfl (Nat.le_of_ble_eq_true rfl) (fun Γ g r => ?_)
  have h0 := hI.1
  have h1 := hI.2.1
  refine V_aload_n (q := 1) g dX5_test_0 rfl rfl ?_
  refine V_aload_n (q := 2) g dX5_test_1 rfl rfl ?_
  refine V_getR (q := 5) g dX5_test_2 rfl f_X5_13 rfl hL.1 rfl ?_
  refine V_iload_n (q := 6) g dX5_test_5 rfl rfl ?_
  refine V_callSI_2 (q := 9) g (c_X5_isChair l hL.2.2.1 hO hI (by omega)) dX5_test_6 k_X5_96 rfl rfl ⟨rfl, rfl⟩ rfl (fun z1 M1 e1 => ?_)
  obtain ⟨e1, rfl⟩ := e1
  refine V_if_eq (q := 12) g dX5_test_9 (tgt := 16) (by decide) rfl (by omega) (fun h9 => ?_) (fun h9 => ?_)
  · refine V_iconst (q := 17) g dX5_test_16 rfl ?_
    refine V_callVI_1 (q := 20) g (b_refn l hL (by decide)) dX5_test_17 k_X5_105 hL.1 rfl rfl rfl rfl ⟨rfl, rfl⟩ rfl (fun z2 M2 e2 => ?_)
    obtain ⟨rfl, rfl⟩ := e2
    refine V_if_eq (q := 23) g dX5_test_20 (tgt := 25) (by decide) rfl (by omega) (fun h20 => absurd h20 (by omega)) (fun h20 => ?_)
    refine V_iconst (q := 24) g dX5_test_23 rfl ?_
    exact V_ireturn g r dX5_test_24 rfl (Or.inl ⟨by omega, rfl⟩)
  · refine V_iconst (q := 13) g dX5_test_12 rfl ?_
    refine V_goto g dX5_test_13 (tgt := 17) (by decide) ?_
    refine V_callVI_1 (q := 20) g (b_ref0 l hL) dX5_test_17 k_X5_105 hL.1 rfl rfl rfl rfl ⟨rfl, rfl⟩ rfl (fun z3 M3 e3 => ?_)
    obtain ⟨rfl, rfl⟩ := e3
    have hP : wr M m 0 0 (m + 2) = f := wrO hO (by omega)
    refine V_if_eq (q := 23) g dX5_test_20 (tgt := 25) (by decide) rfl (by omega) (fun h20 => ?_) (fun h20 => absurd h20 (by omega))
    refine V_aload_n (q := 26) g dX5_test_25 rfl rfl ?_
    refine V_callVV_0 (q := 29) g (c_X5_remember l hL (by rw [wr_ii M m 0 (by decide)]; exact hac)) dX5_test_26 k_X5_211 hL.1 rfl rfl rfl rfl ⟨rfl, rfl⟩ rfl (fun M4 e4 => ?_)
    obtain rfl := e4
    have hQ : remM (wr M m 0 0) m (m + 2) = f := remO hP (by omega) (by omega)
    refine V_aload_n (q := 30) g dX5_test_29 rfl rfl ?_
    refine V_getR (q := 33) g dX5_test_30 rfl f_X5_13 rfl hL.1 rfl ?_
    refine V_iload_n (q := 34) g dX5_test_33 rfl rfl ?_
    refine V_callSI_2 (q := 37) g (c_X5_testOn l hL.2.2.1 hQ hI (by omega)) dX5_test_34 k_X5_176 rfl rfl ⟨rfl, rfl⟩ rfl (fun z5 M5 e5 => ?_)
    obtain ⟨⟨e5, b5⟩, rfl⟩ := e5
    try simp only [aset_aset]
    exact V_ireturn g r dX5_test_37 rfl (Or.inr ⟨by omega, by omega, rfl⟩)
abbrev rm_X5_sit : Room := { frames := 6, cells := 0, slots := 0, locals := 138 }
set_option maxHeartbeats 4000000 in
set_option maxRecDepth 100000 in
theorem c_X5_sit (l : Launch) {D : DD} {Λ : LY} {M : MM} {m : Nat} {f : Int → Int} {c wt : Int} (hL : MdL D Λ m) (hO : M (m + 2) = f) (hI : Inv f) (hac : 0 ≤ M m 6 ∧ M m 6 ≤ 14) (hr1 : inR c) (hr2 : inR wt) : CI l yX5_sit cX5_sit 3 .int rm_X5_sit [.ref m, vi c, vi wt] D Λ M (fun z M1 => (¬ ((0 ≤ c ∧ c < f 0)) ∧ wr M m 0 1 = M1) ∨ ((0 ≤ c ∧ c < f 0) ∧ ¬ ((1 ≤ wt ∧ wt ≤ 200)) ∧ wr M m 0 2 = M1) ∨ ((0 ≤ c ∧ c < f 0) ∧ (1 ≤ wt ∧ wt ≤ 200) ∧ z = sSitN f c (wt / f 11) (sIdle f c) 4 ∧ aset (remM (wr M m 0 0) m) (m + 2) (fSit f c wt) = M1)) := by
  refine CI_of rfl rfl (Nat.le_of_ble_eq_true rfl) (fun Γ g r => ?_)
  have h0 := hI.1
  have h1 := hI.2.1
  refine V_aload_n (q := 1) g dX5_sit_0 rfl rfl ?_
  refine V_aload_n (q := 2) g dX5_sit_1 rfl rfl ?_
  refine V_getR (q := 5) g dX5_sit_2 rfl f_X5_13 rfl hL.1 rfl ?_
  refine V_iload_n (q := 6) g dX5_sit_5 rfl rfl ?_
  refine V_callSI_2 (q := 9) g (c_X5_isChair l hL.2.2.1 hO hI (by omega)) dX5_sit_6 k_X5_96 rfl rfl ⟨rfl, rfl⟩ rfl (fun z1 M1 e1 => ?_)
  obtain ⟨e1, rfl⟩ := e1
  refine V_if_ne (q := 12) g dX5_sit_9 (tgt := 16) (by decide) rfl (by omega) (fun h9 => ?_) (fun h9 => ?_)
  · refine V_iload_n (q := 17) g dX5_sit_16 rfl rfl ?_
    refine V_i2l (q := 18) g dX5_sit_17 (by omega) rfl ?_
    refine V_lconst (q := 19) g dX5_sit_18 (z := 1) (by decide) rfl ?_
    refine V_ldc2 (q := 22) g dX5_sit_19 (z := 200) q_X5_47 (by decide) rfl ?_
    refine V_callSI_3 (q := 25) g (c_X5_in l (by omega) (by omega) (by omega)) dX5_sit_22 k_X5_37 rfl rfl ⟨rfl, rfl⟩ rfl (fun z2 M2 e2 => ?_)
    obtain ⟨e2, rfl⟩ := e2
    refine V_if_eq (q := 28) g dX5_sit_25 (tgt := 32) (by decide) rfl (by omega) (fun h25 => ?_) (fun h25 => ?_)
    · refine V_iconst (q := 33) g dX5_sit_32 rfl ?_
      refine V_callVI_1 (q := 36) g (b_refn l hL (by decide)) dX5_sit_33 k_X5_105 hL.1 rfl rfl rfl rfl ⟨rfl, rfl⟩ rfl (fun z3 M3 e3 => ?_)
      obtain ⟨rfl, rfl⟩ := e3
      refine V_if_eq (q := 39) g dX5_sit_36 (tgt := 41) (by decide) rfl (by omega) (fun h36 => absurd h36 (by omega)) (fun h36 => ?_)
      refine V_iconst (q := 40) g dX5_sit_39 rfl ?_
      exact V_ireturn g r dX5_sit_40 rfl (Or.inr (Or.inl ⟨by omega, by omega, rfl⟩))
    · refine V_iconst (q := 29) g dX5_sit_28 rfl ?_
      refine V_goto g dX5_sit_29 (tgt := 33) (by decide) ?_
      refine V_callVI_1 (q := 36) g (b_ref0 l hL) dX5_sit_33 k_X5_105 hL.1 rfl rfl rfl rfl ⟨rfl, rfl⟩ rfl (fun z4 M4 e4 => ?_)
      obtain ⟨rfl, rfl⟩ := e4
      have hP : wr M m 0 0 (m + 2) = f := wrO hO (by omega)
      refine V_if_eq (q := 39) g dX5_sit_36 (tgt := 41) (by decide) rfl (by omega) (fun h36 => ?_) (fun h36 => absurd h36 (by omega))
      refine V_aload_n (q := 42) g dX5_sit_41 rfl rfl ?_
      refine V_callVV_0 (q := 45) g (c_X5_remember l hL (by rw [wr_ii M m 0 (by decide)]; exact hac)) dX5_sit_42 k_X5_211 hL.1 rfl rfl rfl rfl ⟨rfl, rfl⟩ rfl (fun M5 e5 => ?_)
      obtain rfl := e5
      have hQ : remM (wr M m 0 0) m (m + 2) = f := remO hP (by omega) (by omega)
      refine V_aload_n (q := 46) g dX5_sit_45 rfl rfl ?_
      refine V_getR (q := 49) g dX5_sit_46 rfl f_X5_13 rfl hL.1 rfl ?_
      refine V_iload_n (q := 50) g dX5_sit_49 rfl rfl ?_
      refine V_iload_n (q := 51) g dX5_sit_50 rfl rfl ?_
      refine V_callSI_3 (q := 54) g (c_X5_sitOn l hL.2.2.1 hQ hI (by omega) (by omega)) dX5_sit_51 k_X5_179 rfl rfl ⟨rfl, rfl⟩ rfl (fun z6 M6 e6 => ?_)
      obtain ⟨⟨e6, b6⟩, rfl⟩ := e6
      try simp only [aset_aset]
      exact V_ireturn g r dX5_sit_54 rfl (Or.inr (Or.inr ⟨by omega, by omega, by omega, rfl⟩))
  · refine V_iconst (q := 13) g dX5_sit_12 rfl ?_
    refine V_goto g dX5_sit_13 (tgt := 33) (by decide) ?_
    refine V_callVI_1 (q := 36) g (b_refn l hL (by decide)) dX5_sit_33 k_X5_105 hL.1 rfl rfl rfl rfl ⟨rfl, rfl⟩ rfl (fun z7 M7 e7 => ?_)
    obtain ⟨rfl, rfl⟩ := e7
    refine V_if_eq (q := 39) g dX5_sit_36 (tgt := 41) (by decide) rfl (by omega) (fun h36 => absurd h36 (by omega)) (fun h36 => ?_)
    refine V_iconst (q := 40) g dX5_sit_39 rfl ?_
    exact V_ireturn g r dX5_sit_40 rfl (Or.inl ⟨by omega, rfl⟩)
abbrev rm_X5_bound : Room := { frames := 7, cells := 0, slots := 0, locals := 155 }
set_option maxHeartbeats 4000000 in
set_option maxRecDepth 100000 in
theorem c_X5_bound (l : Launch) {D : DD} {Λ : LY} {M : MM} {m : Nat} {f : Int → Int} {gu k v : Int} (hL : MdL D Λ m) (hO : M (m + 2) = f) (hI : Inv f) (hac : 0 ≤ M m 6 ∧ M m 6 ≤ 14) (hr1 : inR gu) (hr2 : inR k) (hr3 : inR v) : CI l yX5_bound cX5_bound 4 .int rm_X5_bound [.ref m, vi gu, vi k, vi v] D Λ M (fun z M1 => (¬ (((0 ≤ gu ∧ gu < 4) ∧ 0 ≤ k ∧ k < 4)) ∧ wr M m 0 1 = M1) ∨ (((0 ≤ gu ∧ gu < 4) ∧ 0 ≤ k ∧ k < 4) ∧ ¬ ((k < 2 ∧ 100 ≤ v ∧ v ≤ 900 ∨ k = 2 ∧ 0 ≤ v ∧ v ≤ 100 ∨ k = 3 ∧ 0 ≤ v ∧ v ≤ 200)) ∧ wr M m 0 2 = M1) ∨ (((0 ≤ gu ∧ gu < 4) ∧ 0 ≤ k ∧ k < 4) ∧ (k < 2 ∧ 100 ≤ v ∧ v ≤ 900 ∨ k = 2 ∧ 0 ≤ v ∧ v ≤ 100 ∨ k = 3 ∧ 0 ≤ v ∧ v ≤ 200) ∧ z = fBound f gu k v 4 - f 4 ∧ aset (remM (wr M m 0 0) m) (m + 2) (fBound f gu k v) = M1)) := by
  refine CI_of rfl rfl (Nat.le_of_ble_eq_true rfl) (fun Γ g r => ?_)
  have h0 := hI.1
  have h1 := hI.2.1
  refine V_aload_n (q := 1) g dX5_bound_0 rfl rfl ?_
  refine V_iload_n (q := 2) g dX5_bound_1 rfl rfl ?_
  refine V_callSI_1 (q := 5) g (c_X5_isFour l (by omega)) dX5_bound_2 k_X5_206 rfl rfl ⟨rfl, rfl⟩ rfl (fun z1 M1 e1 => ?_)
  obtain ⟨e1, rfl⟩ := e1
  refine V_if_eq (q := 8) g dX5_bound_5 (tgt := 15) (by decide) rfl (by omega) (fun h5 => ?_) (fun h5 => ?_)
  · refine V_iconst (q := 16) g dX5_bound_15 rfl ?_
    refine V_goto g dX5_bound_16 (tgt := 32) (by decide) ?_
    refine V_callVI_1 (q := 35) g (b_refn l hL (by decide)) dX5_bound_32 k_X5_105 hL.1 rfl rfl rfl rfl ⟨rfl, rfl⟩ rfl (fun z2 M2 e2 => ?_)
    obtain ⟨rfl, rfl⟩ := e2
    refine V_if_eq (q := 38) g dX5_bound_35 (tgt := 40) (by decide) rfl (by omega) (fun h35 => absurd h35 (by omega)) (fun h35 => ?_)
    refine V_iconst (q := 39) g dX5_bound_38 rfl ?_
    exact V_ireturn g r dX5_bound_39 rfl (Or.inl ⟨by omega, rfl⟩)
  · refine V_iload_n (q := 9) g dX5_bound_8 rfl rfl ?_
    refine V_callSI_1 (q := 12) g (c_X5_isFour l (by omega)) dX5_bound_9 k_X5_206 rfl rfl ⟨rfl, rfl⟩ rfl (fun z3 M3 e3 => ?_)
    obtain ⟨e3, rfl⟩ := e3
    refine V_if_ne (q := 15) g dX5_bound_12 (tgt := 19) (by decide) rfl (by omega) (fun h12 => ?_) (fun h12 => ?_)
    · refine V_iload_n (q := 20) g dX5_bound_19 rfl rfl ?_
      refine V_iload_n (q := 21) g dX5_bound_20 rfl rfl ?_
      refine V_callSI_2 (q := 24) g (c_X5_isBound l (by omega) (by omega)) dX5_bound_21 k_X5_155 rfl rfl ⟨rfl, rfl⟩ rfl (fun z4 M4 e4 => ?_)
      obtain ⟨e4, rfl⟩ := e4
      refine V_if_eq (q := 27) g dX5_bound_24 (tgt := 31) (by decide) rfl (by omega) (fun h24 => ?_) (fun h24 => ?_)
      · refine V_iconst (q := 32) g dX5_bound_31 rfl ?_
        refine V_callVI_1 (q := 35) g (b_refn l hL (by decide)) dX5_bound_32 k_X5_105 hL.1 rfl rfl rfl rfl ⟨rfl, rfl⟩ rfl (fun z5 M5 e5 => ?_)
        obtain ⟨rfl, rfl⟩ := e5
        refine V_if_eq (q := 38) g dX5_bound_35 (tgt := 40) (by decide) rfl (by omega) (fun h35 => absurd h35 (by omega)) (fun h35 => ?_)
        refine V_iconst (q := 39) g dX5_bound_38 rfl ?_
        exact V_ireturn g r dX5_bound_39 rfl (Or.inr (Or.inl ⟨by omega, by omega, rfl⟩))
      · refine V_iconst (q := 28) g dX5_bound_27 rfl ?_
        refine V_goto g dX5_bound_28 (tgt := 32) (by decide) ?_
        refine V_callVI_1 (q := 35) g (b_ref0 l hL) dX5_bound_32 k_X5_105 hL.1 rfl rfl rfl rfl ⟨rfl, rfl⟩ rfl (fun z6 M6 e6 => ?_)
        obtain ⟨rfl, rfl⟩ := e6
        have hP : wr M m 0 0 (m + 2) = f := wrO hO (by omega)
        refine V_if_eq (q := 38) g dX5_bound_35 (tgt := 40) (by decide) rfl (by omega) (fun h35 => ?_) (fun h35 => absurd h35 (by omega))
        refine V_aload_n (q := 41) g dX5_bound_40 rfl rfl ?_
        refine V_callVV_0 (q := 44) g (c_X5_remember l hL (by rw [wr_ii M m 0 (by decide)]; exact hac)) dX5_bound_41 k_X5_211 hL.1 rfl rfl rfl rfl ⟨rfl, rfl⟩ rfl (fun M7 e7 => ?_)
        obtain rfl := e7
        have hQ : remM (wr M m 0 0) m (m + 2) = f := remO hP (by omega) (by omega)
        refine V_aload_n (q := 45) g dX5_bound_44 rfl rfl ?_
        refine V_getR (q := 48) g dX5_bound_45 rfl f_X5_13 rfl hL.1 rfl ?_
        refine V_iload_n (q := 49) g dX5_bound_48 rfl rfl ?_
        refine V_iload_n (q := 50) g dX5_bound_49 rfl rfl ?_
        refine V_iload_n (q := 51) g dX5_bound_50 rfl rfl ?_
        refine V_callSI_4 (q := 54) g (c_X5_boundOn l hL.2.2.1 hQ hI (by omega) (by omega) (by omega)) dX5_bound_51 k_X5_159 rfl rfl ⟨rfl, rfl⟩ rfl (fun z8 M8 e8 => ?_)
        obtain ⟨e8, rfl⟩ := e8
        try simp only [aset_aset]
        exact V_ireturn g r dX5_bound_54 rfl (Or.inr (Or.inr ⟨by omega, by omega, by omega, rfl⟩))
    · refine V_iconst (q := 16) g dX5_bound_15 rfl ?_
      refine V_goto g dX5_bound_16 (tgt := 32) (by decide) ?_
      refine V_callVI_1 (q := 35) g (b_refn l hL (by decide)) dX5_bound_32 k_X5_105 hL.1 rfl rfl rfl rfl ⟨rfl, rfl⟩ rfl (fun z9 M9 e9 => ?_)
      obtain ⟨rfl, rfl⟩ := e9
      refine V_if_eq (q := 38) g dX5_bound_35 (tgt := 40) (by decide) rfl (by omega) (fun h35 => absurd h35 (by omega)) (fun h35 => ?_)
      refine V_iconst (q := 39) g dX5_bound_38 rfl ?_
      exact V_ireturn g r dX5_bound_39 rfl (Or.inl ⟨by omega, rfl⟩)
abbrev rm_X5_set : Room := { frames := 2, cells := 0, slots := 0, locals := 46 }
set_option maxHeartbeats 4000000 in
set_option maxRecDepth 100000 in
theorem c_X5_set (l : Launch) {D : DD} {Λ : LY} {M : MM} {m : Nat} {f : Int → Int} {wh v : Int} (hL : MdL D Λ m) (hO : M (m + 2) = f) (hI : Inv f) (hac : 0 ≤ M m 6 ∧ M m 6 ≤ 14) (hr1 : inR wh) (hr2 : inR v) : CI l yX5_set cX5_set 3 .int rm_X5_set [.ref m, vi wh, vi v] D Λ M (fun z M1 => (¬ ((wh = 0 ∧ 0 ≤ v ∧ v ≤ 50 ∨ wh = 1 ∧ 1 ≤ v ∧ v ≤ 200)) ∧ wr M m 0 1 = M1) ∨ ((wh = 0 ∧ 0 ≤ v ∧ v ≤ 50 ∨ wh = 1 ∧ 1 ≤ v ∧ v ≤ 200) ∧ z = f (10 + wh) ∧ aset (remM (wr M m 0 0) m) (m + 2) (fSet f wh v) = M1)) := by
  refine CI_of rfl rfl (Nat.le_of_ble_eq_true rfl) (fun Γ g r => ?_)
  have h0 := hI.1
  have h1 := hI.2.1
  refine V_aload_n (q := 1) g dX5_set_0 rfl rfl ?_
  refine V_iload_n (q := 2) g dX5_set_1 rfl rfl ?_
  refine V_iload_n (q := 3) g dX5_set_2 rfl rfl ?_
  refine V_callSI_2 (q := 6) g (c_X5_isSetting l (by omega) (by omega)) dX5_set_3 k_X5_221 rfl rfl ⟨rfl, rfl⟩ rfl (fun z1 M1 e1 => ?_)
  obtain ⟨e1, rfl⟩ := e1
  refine V_if_eq (q := 9) g dX5_set_6 (tgt := 13) (by decide) rfl (by omega) (fun h6 => ?_) (fun h6 => ?_)
  · refine V_iconst (q := 14) g dX5_set_13 rfl ?_
    refine V_callVI_1 (q := 17) g (b_refn l hL (by decide)) dX5_set_14 k_X5_105 hL.1 rfl rfl rfl rfl ⟨rfl, rfl⟩ rfl (fun z2 M2 e2 => ?_)
    obtain ⟨rfl, rfl⟩ := e2
    refine V_if_eq (q := 20) g dX5_set_17 (tgt := 22) (by decide) rfl (by omega) (fun h17 => absurd h17 (by omega)) (fun h17 => ?_)
    refine V_iconst (q := 21) g dX5_set_20 rfl ?_
    exact V_ireturn g r dX5_set_21 rfl (Or.inl ⟨by omega, rfl⟩)
  · refine V_iconst (q := 10) g dX5_set_9 rfl ?_
    refine V_goto g dX5_set_10 (tgt := 14) (by decide) ?_
    refine V_callVI_1 (q := 17) g (b_ref0 l hL) dX5_set_14 k_X5_105 hL.1 rfl rfl rfl rfl ⟨rfl, rfl⟩ rfl (fun z3 M3 e3 => ?_)
    obtain ⟨rfl, rfl⟩ := e3
    have hP : wr M m 0 0 (m + 2) = f := wrO hO (by omega)
    refine V_if_eq (q := 20) g dX5_set_17 (tgt := 22) (by decide) rfl (by omega) (fun h17 => ?_) (fun h17 => absurd h17 (by omega))
    refine V_aload_n (q := 23) g dX5_set_22 rfl rfl ?_
    refine V_callVV_0 (q := 26) g (c_X5_remember l hL (by rw [wr_ii M m 0 (by decide)]; exact hac)) dX5_set_23 k_X5_211 hL.1 rfl rfl rfl rfl ⟨rfl, rfl⟩ rfl (fun M4 e4 => ?_)
    obtain rfl := e4
    have hQ : remM (wr M m 0 0) m (m + 2) = f := remO hP (by omega) (by omega)
    refine V_aload_n (q := 27) g dX5_set_26 rfl rfl ?_
    refine V_getR (q := 30) g dX5_set_27 rfl f_X5_13 rfl hL.1 rfl ?_
    refine V_iload_n (q := 31) g dX5_set_30 rfl rfl ?_
    refine V_iload_n (q := 32) g dX5_set_31 rfl rfl ?_
    refine V_callSI_3 (q := 35) g (c_X5_change l hL.2.2.1 hQ hI (by omega)) dX5_set_32 k_X5_224 rfl rfl ⟨rfl, rfl⟩ rfl (fun z5 M5 e5 => ?_)
    obtain ⟨e5, rfl⟩ := e5
    try simp only [aset_aset]
    exact V_ireturn g r dX5_set_35 rfl (Or.inr ⟨by omega, by omega, rfl⟩)
abbrev rm_X5_undo : Room := { frames := 1, cells := 0, slots := 0, locals := 24 }
set_option maxHeartbeats 4000000 in
set_option maxRecDepth 100000 in
theorem c_X5_undo (l : Launch) {D : DD} {Λ : LY} {M : MM} {m : Nat} {f : Int → Int}  (hL : MdL D Λ m) (hO : M (m + 2) = f) (hI : Inv f) (hac : 0 ≤ M m 6 ∧ M m 6 ≤ 14) : CI l yX5_undo cX5_undo 1 .int rm_X5_undo [.ref m] D Λ M (fun z M1 => (¬ ((M m 6 ≠ 0)) ∧ wr M m 0 1 = M1) ∨ ((M m 6 ≠ 0) ∧ z = M m 6 - 1 ∧ aset (wr (wr M m 0 0) m 6 (M m 6 - 1)) (m + 2) (rowOf (M (m + 4)) (134 * (M m 6 - 1))) = M1)) := by
  refine CI_of rfl rfl (Nat.le_of_ble_eq_true rfl) (fun Γ g r => ?_)
  have h0 := hI.1
  have h1 := hI.2.1
  refine V_aload_n (q := 1) g dX5_undo_0 rfl rfl ?_
  refine V_aload_n (q := 2) g dX5_undo_1 rfl rfl ?_
  refine V_getI (q := 5) g dX5_undo_2 rfl f_X5_196 rfl hL.1 rfl (j := 6) rfl ?_
  refine V_if_ne (q := 8) g dX5_undo_5 (tgt := 12) (by decide) rfl (by omega) (fun h5 => ?_) (fun h5 => ?_)
  · refine V_iconst (q := 13) g dX5_undo_12 rfl ?_
    refine V_callVI_1 (q := 16) g (b_ref0 l hL) dX5_undo_13 k_X5_105 hL.1 rfl rfl rfl rfl ⟨rfl, rfl⟩ rfl (fun z1 M1 e1 => ?_)
    obtain ⟨rfl, rfl⟩ := e1
    have hP : wr M m 0 0 (m + 2) = f := wrO hO (by omega)
    refine V_if_eq (q := 19) g dX5_undo_16 (tgt := 21) (by decide) rfl (by omega) (fun h16 => ?_) (fun h16 => absurd h16 (by omega))
    refine V_aload_n (q := 22) g dX5_undo_21 rfl rfl ?_
    refine V_dup (q := 23) g dX5_undo_22 rfl rfl ?_
    refine V_getI (q := 26) g dX5_undo_23 rfl f_X5_196 rfl hL.1 rfl (j := 6) rfl ?_
    rw [wr_ii M m 0 (by decide)]
    refine V_iconst (q := 27) g dX5_undo_26 rfl ?_
    refine V_isub (q := 28) g dX5_undo_27 rfl ?_
    refine V_putI (q := 31) g dX5_undo_28 rfl f_X5_196 tyX5_ok nmX5 rfl hL.1 rfl rfl (ty := .int) rfl rfl rfl (j := 6) rfl ?_
    refine V_aload_n (q := 32) g dX5_undo_31 rfl rfl ?_
    refine V_getR (q := 35) g dX5_undo_32 rfl f_X5_19 rfl hL.1 rfl ?_
    refine V_sipush (q := 38) g dX5_undo_35 (by decide) rfl ?_
    refine V_aload_n (q := 39) g dX5_undo_38 rfl rfl ?_
    refine V_getI (q := 42) g dX5_undo_39 rfl f_X5_196 rfl hL.1 rfl (j := 6) rfl ?_
    rw [wr_iv]
    refine V_imul (q := 43) g dX5_undo_42 rfl ?_
    refine V_aload_n (q := 44) g dX5_undo_43 rfl rfl ?_
    refine V_getR (q := 47) g dX5_undo_44 rfl f_X5_13 rfl hL.1 rfl ?_
    refine V_iconst (q := 48) g dX5_undo_47 rfl ?_
    refine V_callSV_4 (q := 51) g (b_cpyR l hL.2.2.2.2.1 hL.2.2.1 (by decide) (by omega) (by omega)) dX5_undo_48 k_X5_192 rfl rfl ⟨rfl, rfl⟩ rfl (fun M2 e2 => ?_)
    obtain rfl := e2
    try simp only [aset_aset]
    rw [wr_ne _ _ _ (show m + 4 ≠ m by omega), wr_ne _ _ _ (show m + 4 ≠ m by omega)]
    refine V_aload_n (q := 52) g dX5_undo_51 rfl rfl ?_
    refine V_getI (q := 55) g dX5_undo_52 rfl f_X5_196 rfl hL.1 rfl (j := 6) rfl ?_
    rw [aset_ne _ _ (show m ≠ m + 2 by omega), wr_iv]
    exact V_ireturn g r dX5_undo_55 rfl (Or.inr ⟨by omega, by omega, rfl⟩)
  · refine V_iconst (q := 9) g dX5_undo_8 rfl ?_
    refine V_goto g dX5_undo_9 (tgt := 13) (by decide) ?_
    refine V_callVI_1 (q := 16) g (b_refn l hL (by decide)) dX5_undo_13 k_X5_105 hL.1 rfl rfl rfl rfl ⟨rfl, rfl⟩ rfl (fun z3 M3 e3 => ?_)
    obtain ⟨rfl, rfl⟩ := e3
    refine V_if_eq (q := 19) g dX5_undo_16 (tgt := 21) (by decide) rfl (by omega) (fun h16 => absurd h16 (by omega)) (fun h16 => ?_)
    refine V_iconst (q := 20) g dX5_undo_19 rfl ?_
    exact V_ireturn g r dX5_undo_20 rfl (Or.inl ⟨by omega, rfl⟩)
abbrev rm_X5_save : Room := { frames := 2, cells := 0, slots := 0, locals := 44 }
set_option maxHeartbeats 4000000 in
set_option maxRecDepth 100000 in
theorem c_X5_save (l : Launch) {D : DD} {Λ : LY} {M : MM} {m : Nat} {f : Int → Int} {s : Int} (hL : MdL D Λ m) (hO : M (m + 2) = f) (hI : Inv f) (hr1 : inR s) : CI l yX5_save cX5_save 2 .int rm_X5_save [.ref m, vi s] D Λ M (fun z M1 => (¬ ((0 ≤ s ∧ s ≤ 1)) ∧ wr M m 0 1 = M1) ∨ ((0 ≤ s ∧ s ≤ 1) ∧ z = sStamped f ∧ wr (aset (wr M m 0 0) (m + 5) (fCpy f 0 (M (m + 5)) (134 * s) 134)) (m + 6) s 1 = M1)) := by
  refine CI_of rfl rfl (Nat.le_of_ble_eq_true rfl) (fun Γ g r => ?_)
  have h0 := hI.1
  have h1 := hI.2.1
  refine V_aload_n (q := 1) g dX5_save_0 rfl rfl ?_
  refine V_iload_n (q := 2) g dX5_save_1 rfl rfl ?_
  refine V_i2l (q := 3) g dX5_save_2 (by omega) rfl ?_
  refine V_lconst (q := 4) g dX5_save_3 (z := 0) (by decide) rfl ?_
  refine V_lconst (q := 5) g dX5_save_4 (z := 1) (by decide) rfl ?_
  refine V_callSI_3 (q := 8) g (c_X5_in l (by omega) (by omega) (by omega)) dX5_save_5 k_X5_37 rfl rfl ⟨rfl, rfl⟩ rfl (fun z1 M1 e1 => ?_)
  obtain ⟨e1, rfl⟩ := e1
  refine V_if_eq (q := 11) g dX5_save_8 (tgt := 15) (by decide) rfl (by omega) (fun h8 => ?_) (fun h8 => ?_)
  · refine V_iconst (q := 16) g dX5_save_15 rfl ?_
    refine V_callVI_1 (q := 19) g (b_refn l hL (by decide)) dX5_save_16 k_X5_105 hL.1 rfl rfl rfl rfl ⟨rfl, rfl⟩ rfl (fun z2 M2 e2 => ?_)
    obtain ⟨rfl, rfl⟩ := e2
    refine V_if_eq (q := 22) g dX5_save_19 (tgt := 24) (by decide) rfl (by omega) (fun h19 => absurd h19 (by omega)) (fun h19 => ?_)
    refine V_iconst (q := 23) g dX5_save_22 rfl ?_
    exact V_ireturn g r dX5_save_23 rfl (Or.inl ⟨by omega, rfl⟩)
  · refine V_iconst (q := 12) g dX5_save_11 rfl ?_
    refine V_goto g dX5_save_12 (tgt := 16) (by decide) ?_
    refine V_callVI_1 (q := 19) g (b_ref0 l hL) dX5_save_16 k_X5_105 hL.1 rfl rfl rfl rfl ⟨rfl, rfl⟩ rfl (fun z3 M3 e3 => ?_)
    obtain ⟨rfl, rfl⟩ := e3
    have hP : wr M m 0 0 (m + 2) = f := wrO hO (by omega)
    refine V_if_eq (q := 22) g dX5_save_19 (tgt := 24) (by decide) rfl (by omega) (fun h19 => ?_) (fun h19 => absurd h19 (by omega))
    refine V_aload_n (q := 25) g dX5_save_24 rfl rfl ?_
    refine V_getR (q := 28) g dX5_save_25 rfl f_X5_13 rfl hL.1 rfl ?_
    refine V_iconst (q := 29) g dX5_save_28 rfl ?_
    refine V_aload_n (q := 30) g dX5_save_29 rfl rfl ?_
    refine V_getR (q := 33) g dX5_save_30 rfl f_X5_22 rfl hL.1 rfl ?_
    refine V_sipush (q := 36) g dX5_save_33 (by decide) rfl ?_
    refine V_iload_n (q := 37) g dX5_save_36 rfl rfl ?_
    refine V_imul (q := 38) g dX5_save_37 rfl ?_
    refine V_callSV_4 (q := 41) g (c_X5_copyState l hL.2.2.1 hL.2.2.2.2.2.1 (by decide) (by decide) (by omega) (by omega) (by omega)) dX5_save_38 k_X5_192 rfl rfl ⟨rfl, rfl⟩ rfl (fun M4 e4 => ?_)
    obtain rfl := e4
    try simp only [aset_aset]
    rw [hP, wr_ne _ _ _ (show m + 5 ≠ m by omega)]
    refine V_aload_n (q := 42) g dX5_save_41 rfl rfl ?_
    refine V_getR (q := 45) g dX5_save_42 rfl f_X5_25 rfl hL.1 rfl ?_
    refine V_iload_n (q := 46) g dX5_save_45 rfl rfl ?_
    refine V_iconst (q := 47) g dX5_save_46 rfl ?_
    refine V_zastore (q := 48) g dX5_save_47 rfl hL.2.2.2.2.2.2 (by omega) (by decide) (by decide) ?_
    refine V_aload_n (q := 49) g dX5_save_48 rfl rfl ?_
    refine V_getR (q := 52) g dX5_save_49 rfl f_X5_13 rfl hL.1 rfl ?_
    refine V_callSI_1 (q := 55) g (c_X5_stamped l hL.2.2.1 (wrO (by rw [aset_ne _ _ (show m + 2 ≠ m + 5 by omega)]; exact hP) (by omega)) hI) dX5_save_52 k_X5_201 rfl rfl ⟨rfl, rfl⟩ rfl (fun z5 M5 e5 => ?_)
    obtain ⟨⟨e5, b5⟩, rfl⟩ := e5
    exact V_ireturn g r dX5_save_55 rfl (Or.inr ⟨by omega, by omega, rfl⟩)
abbrev rm_X5_restore : Room := { frames := 2, cells := 0, slots := 0, locals := 44 }
set_option maxHeartbeats 4000000 in
set_option maxRecDepth 100000 in
theorem c_X5_restore (l : Launch) {D : DD} {Λ : LY} {M : MM} {m : Nat} {f : Int → Int} {s : Int} (hL : MdL D Λ m) (hO : M (m + 2) = f) (hI : Inv f) (hr1 : inR s) (hz : 0 ≤ s ∧ s ≤ 1 → 0 ≤ M (m + 6) s ∧ M (m + 6) s ≤ 1) (hJ : 0 ≤ s ∧ s ≤ 1 → M (m + 6) s ≠ 0 → Inv (rowOf (M (m + 5)) (134 * s))) : CI l yX5_restore cX5_restore 2 .int rm_X5_restore [.ref m, vi s] D Λ M (fun z M1 => (¬ ((0 ≤ s ∧ s ≤ 1)) ∧ wr M m 0 1 = M1) ∨ ((0 ≤ s ∧ s ≤ 1) ∧ ¬ ((M (m + 6) s ≠ 0)) ∧ wr M m 0 2 = M1) ∨ ((0 ≤ s ∧ s ≤ 1) ∧ (M (m + 6) s ≠ 0) ∧ z = sStamped (rowOf (M (m + 5)) (134 * s)) ∧ wr (aset (wr M m 0 0) (m + 2) (rowOf (M (m + 5)) (134 * s))) m 6 0 = M1)) := by
  refine CI_of rfl rfl (Nat.le_of_ble_eq_true rfl) (fun Γ g r => ?_)
  have h0 := hI.1
  have h1 := hI.2.1
  refine V_aload_n (q := 1) g dX5_restore_0 rfl rfl ?_
  refine V_iload_n (q := 2) g dX5_restore_1 rfl rfl ?_
  refine V_i2l (q := 3) g dX5_restore_2 (by omega) rfl ?_
  refine V_lconst (q := 4) g dX5_restore_3 (z := 0) (by decide) rfl ?_
  refine V_lconst (q := 5) g dX5_restore_4 (z := 1) (by decide) rfl ?_
  refine V_callSI_3 (q := 8) g (c_X5_in l (by omega) (by omega) (by omega)) dX5_restore_5 k_X5_37 rfl rfl ⟨rfl, rfl⟩ rfl (fun z1 M1 e1 => ?_)
  obtain ⟨e1, rfl⟩ := e1
  refine V_if_ne (q := 11) g dX5_restore_8 (tgt := 15) (by decide) rfl (by omega) (fun h8 => ?_) (fun h8 => ?_)
  · refine V_aload_n (q := 16) g dX5_restore_15 rfl rfl ?_
    refine V_getR (q := 19) g dX5_restore_16 rfl f_X5_25 rfl hL.1 rfl ?_
    refine V_iload_n (q := 20) g dX5_restore_19 rfl rfl ?_
    refine V_zaload (q := 21) g dX5_restore_20 rfl hL.2.2.2.2.2.2 (by omega) (by decide) ?_
    have hz := hz (by omega)
    refine V_if_ne (q := 24) g dX5_restore_21 (tgt := 28) (by decide) rfl (by omega) (fun h21 => ?_) (fun h21 => ?_)
    · refine V_iconst (q := 29) g dX5_restore_28 rfl ?_
      refine V_callVI_1 (q := 32) g (b_ref0 l hL) dX5_restore_29 k_X5_105 hL.1 rfl rfl rfl rfl ⟨rfl, rfl⟩ rfl (fun z2 M2 e2 => ?_)
      obtain ⟨rfl, rfl⟩ := e2
      have hP : wr M m 0 0 (m + 2) = f := wrO hO (by omega)
      refine V_if_eq (q := 35) g dX5_restore_32 (tgt := 37) (by decide) rfl (by omega) (fun h32 => ?_) (fun h32 => absurd h32 (by omega))
      refine V_aload_n (q := 38) g dX5_restore_37 rfl rfl ?_
      refine V_getR (q := 41) g dX5_restore_38 rfl f_X5_22 rfl hL.1 rfl ?_
      refine V_sipush (q := 44) g dX5_restore_41 (by decide) rfl ?_
      refine V_iload_n (q := 45) g dX5_restore_44 rfl rfl ?_
      refine V_imul (q := 46) g dX5_restore_45 rfl ?_
      refine V_aload_n (q := 47) g dX5_restore_46 rfl rfl ?_
      refine V_getR (q := 50) g dX5_restore_47 rfl f_X5_13 rfl hL.1 rfl ?_
      refine V_iconst (q := 51) g dX5_restore_50 rfl ?_
      have hJ2 := hJ (by omega) (by omega)
      refine V_callSV_4 (q := 54) g (b_cpyR l hL.2.2.2.2.2.1 hL.2.2.1 (by decide) (by omega) (by omega)) dX5_restore_51 k_X5_192 rfl rfl ⟨rfl, rfl⟩ rfl (fun M3 e3 => ?_)
      obtain rfl := e3
      try simp only [aset_aset]
      rw [wr_ne _ _ _ (show m + 5 ≠ m by omega)]
      refine V_aload_n (q := 55) g dX5_restore_54 rfl rfl ?_
      refine V_iconst (q := 56) g dX5_restore_55 rfl ?_
      refine V_putI (q := 59) g dX5_restore_56 rfl f_X5_196 tyX5_ok nmX5 rfl hL.1 rfl rfl (ty := .int) rfl rfl rfl (j := 6) rfl ?_
      refine V_aload_n (q := 60) g dX5_restore_59 rfl rfl ?_
      refine V_getR (q := 63) g dX5_restore_60 rfl f_X5_13 rfl hL.1 rfl ?_
      refine V_callSI_1 (q := 66) g (c_X5_stamped l hL.2.2.1 (wrO (aset_at _ _ _) (by omega)) hJ2) dX5_restore_63 k_X5_201 rfl rfl ⟨rfl, rfl⟩ rfl (fun z4 M4 e4 => ?_)
      obtain ⟨⟨e4, b4⟩, rfl⟩ := e4
      exact V_ireturn g r dX5_restore_66 rfl (Or.inr (Or.inr ⟨by omega, by omega, by omega, rfl⟩))
    · refine V_iconst (q := 25) g dX5_restore_24 rfl ?_
      refine V_goto g dX5_restore_25 (tgt := 29) (by decide) ?_
      refine V_callVI_1 (q := 32) g (b_refn l hL (by decide)) dX5_restore_29 k_X5_105 hL.1 rfl rfl rfl rfl ⟨rfl, rfl⟩ rfl (fun z5 M5 e5 => ?_)
      obtain ⟨rfl, rfl⟩ := e5
      refine V_if_eq (q := 35) g dX5_restore_32 (tgt := 37) (by decide) rfl (by omega) (fun h32 => absurd h32 (by omega)) (fun h32 => ?_)
      refine V_iconst (q := 36) g dX5_restore_35 rfl ?_
      exact V_ireturn g r dX5_restore_36 rfl (Or.inr (Or.inl ⟨by omega, by omega, rfl⟩))
  · refine V_iconst (q := 12) g dX5_restore_11 rfl ?_
    refine V_goto g dX5_restore_12 (tgt := 29) (by decide) ?_
    refine V_callVI_1 (q := 32) g (b_refn l hL (by decide)) dX5_restore_29 k_X5_105 hL.1 rfl rfl rfl rfl ⟨rfl, rfl⟩ rfl (fun z6 M6 e6 => ?_)
    obtain ⟨rfl, rfl⟩ := e6
    refine V_if_eq (q := 35) g dX5_restore_32 (tgt := 37) (by decide) rfl (by omega) (fun h32 => absurd h32 (by omega)) (fun h32 => ?_)
    refine V_iconst (q := 36) g dX5_restore_35 rfl ?_
    exact V_ireturn g r dX5_restore_36 rfl (Or.inl ⟨by omega, rfl⟩)
