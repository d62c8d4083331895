abbrev rm_X5_append : Room := { frames := 1, cells := 0, slots := 0, locals := 25 }
set_option maxHeartbeats 4000000 in
set_option maxRecDepth 100000 in
theorem c_X5_append (l : Launch) {D : DD} {Λ : LY} {M : MM} {m : Nat} {f : Int → Int} {c : Int} (hL : MdL D Λ m) (hO : M (m + 2) = f) (hI : Inv f) (hr1 : inR c) (hz : 0 ≤ M m 2 ∧ M m 2 ≤ 120) : CI l yX5_append cX5_append 2 .int rm_X5_append [.ref m, vi c] D Λ M (fun z M1 => (¬ ((0 ≤ c ∧ c ≤ 255)) ∧ wr M m 0 1 = M1) ∨ ((0 ≤ c ∧ c ≤ 255) ∧ ¬ ((M m 2 ≠ 120)) ∧ wr M m 0 2 = M1) ∨ ((0 ≤ c ∧ c ≤ 255) ∧ (M m 2 ≠ 120) ∧ z = M m 2 + 1 ∧ wr (wr (wr M m 0 0) (m + 1) (M m 2) c) m 2 (M m 2 + 1) = M1)) := by
  refine CI_of rfl rfl (Nat.le_of_ble_eq_true rfl) (fun Γ g r => ?_)
  have h0 := hI.1
  have h1 := hI.2.1
  refine V_aload_n (q := 1) g dX5_append_0 rfl rfl ?_
  refine V_iload_n (q := 2) g dX5_append_1 rfl rfl ?_
  refine V_i2l (q := 3) g dX5_append_2 (by omega) rfl ?_
  refine V_lconst (q := 4) g dX5_append_3 (z := 0) (by decide) rfl ?_
  refine V_ldc2 (q := 7) g dX5_append_4 (z := 255) q_X5_100 (by decide) rfl ?_
  refine V_callSI_3 (q := 10) g (c_X5_in l (by omega) (by omega) (by omega)) dX5_append_7 k_X5_37 rfl rfl ⟨rfl, rfl⟩ rfl (fun z1 M1 e1 => ?_)
  obtain ⟨e1, rfl⟩ := e1
  refine V_if_ne (q := 13) g dX5_append_10 (tgt := 17) (by decide) rfl (by omega) (fun h10 => ?_) (fun h10 => ?_)
  · refine V_aload_n (q := 18) g dX5_append_17 rfl rfl ?_
    refine V_getI (q := 21) g dX5_append_18 rfl f_X5_102 rfl hL.1 rfl (j := 2) rfl ?_
    refine V_bipush (q := 23) g dX5_append_21 (by decide) rfl ?_
    refine V_icmp_ne (q := 26) g dX5_append_23 (tgt := 30) (by decide) rfl (by omega) (by omega) (fun h23 => ?_) (fun h23 => ?_)
    · refine V_iconst (q := 31) g dX5_append_30 rfl ?_
      refine V_callVI_1 (q := 34) g (b_ref0 l hL) dX5_append_31 k_X5_105 hL.1 rfl rfl rfl rfl ⟨rfl, rfl⟩ rfl (fun z2 M2 e2 => ?_)
      obtain ⟨rfl, rfl⟩ := e2
      have hP : wr M m 0 0 (m + 2) = f := wrO hO (by omega)
      refine V_if_eq (q := 37) g dX5_append_34 (tgt := 39) (by decide) rfl (by omega) (fun h34 => ?_) (fun h34 => absurd h34 (by omega))
      refine V_aload_n (q := 40) g dX5_append_39 rfl rfl ?_
      refine V_getR (q := 43) g dX5_append_40 rfl f_X5_7 rfl hL.1 rfl ?_
      refine V_aload_n (q := 44) g dX5_append_43 rfl rfl ?_
      refine V_getI (q := 47) g dX5_append_44 rfl f_X5_102 rfl hL.1 rfl (j := 2) rfl ?_
      rw [wr_ii M m 0 (by decide)]
      refine V_iload_n (q := 48) g dX5_append_47 rfl rfl ?_
      refine V_iastore (q := 49) g dX5_append_48 rfl hL.2.1 (by omega) (by decide) ?_
      refine V_aload_n (q := 50) g dX5_append_49 rfl rfl ?_
      refine V_dup (q := 51) g dX5_append_50 rfl rfl ?_
      refine V_getI (q := 54) g dX5_append_51 rfl f_X5_102 rfl hL.1 rfl (j := 2) rfl ?_
      rw [wr_ne _ _ _ (show m ≠ m + 1 by omega), wr_ii M m 0 (by decide)]
      refine V_iconst (q := 55) g dX5_append_54 rfl ?_
      refine V_iadd (q := 56) g dX5_append_55 rfl ?_
      refine V_putI (q := 59) g dX5_append_56 rfl f_X5_102 tyX5_ok nmX5 rfl hL.1 rfl rfl (ty := .int) rfl rfl rfl (j := 2) rfl ?_
      refine V_aload_n (q := 60) g dX5_append_59 rfl rfl ?_
      refine V_getI (q := 63) g dX5_append_60 rfl f_X5_102 rfl hL.1 rfl (j := 2) rfl ?_
      rw [wr_iv]
      exact V_ireturn g r dX5_append_63 rfl (Or.inr (Or.inr ⟨by omega, by omega, rfl, rfl⟩))
    · refine V_iconst (q := 27) g dX5_append_26 rfl ?_
      refine V_goto g dX5_append_27 (tgt := 31) (by decide) ?_
      refine V_callVI_1 (q := 34) g (b_refn l hL (by decide)) dX5_append_31 k_X5_105 hL.1 rfl rfl rfl rfl ⟨rfl, rfl⟩ rfl (fun z3 M3 e3 => ?_)
      obtain ⟨rfl, rfl⟩ := e3
      refine V_if_eq (q := 37) g dX5_append_34 (tgt := 39) (by decide) rfl (by omega) (fun h34 => absurd h34 (by omega)) (fun h34 => ?_)
      refine V_iconst (q := 38) g dX5_append_37 rfl ?_
      exact V_ireturn g r dX5_append_38 rfl (Or.inr (Or.inl ⟨by omega, by omega, rfl⟩))
  · refine V_iconst (q := 14) g dX5_append_13 rfl ?_
    refine V_goto g dX5_append_14 (tgt := 31) (by decide) ?_
    refine V_callVI_1 (q := 34) g (b_refn l hL (by decide)) dX5_append_31 k_X5_105 hL.1 rfl rfl rfl rfl ⟨rfl, rfl⟩ rfl (fun z4 M4 e4 => ?_)
    obtain ⟨rfl, rfl⟩ := e4
    refine V_if_eq (q := 37) g dX5_append_34 (tgt := 39) (by decide) rfl (by omega) (fun h34 => absurd h34 (by omega)) (fun h34 => ?_)
    refine V_iconst (q := 38) g dX5_append_37 rfl ?_
    exact V_ireturn g r dX5_append_38 rfl (Or.inl ⟨by omega, rfl⟩)
abbrev rm_X5_figures : Room := { frames := 1, cells := 0, slots := 0, locals := 25 }
set_option maxHeartbeats 4000000 in
set_option maxRecDepth 100000 in
theorem c_X5_figures (l : Launch) {D : DD} {Λ : LY} {M : MM} {m : Nat} {M0 : MM} {t f : Int → Int} {sz p o : Int} {ah u lo hi : Int} {k : Nat} (hL : MdL D Λ m) (hT : Tx M0 M m p o f) (hz : M0 m 2 = sz) (ht : M0 (m + 1) = t) (hC : Txt t sz) (hp : 0 ≤ p ∧ p ≤ sz) (hah : -1 ≤ ah ∧ ah ≤ 900) (hk : (k = 1 ∧ u = 1) ∨ (k = 2 ∧ u = 10) ∨ (k = 3 ∧ u = 100)) (hlo : 0 ≤ lo ∧ lo ≤ hi ∧ hi ≤ 900) : CI l yX5_figures cX5_figures 9 .int rm_X5_figures [.ref m, vi ah, vi u, vi lo, vi hi] D Λ M (fun z M1 => z = (sFig t sz ah k p lo hi).1 ∧ Tx M0 M1 m (sFig t sz ah k p lo hi).2 o f) := by
  refine CI_of rfl rfl (Nat.le_of_ble_eq_true rfl) (fun Γ g r => ?_)
  have hC1 := hC.1
  refine V_iconst (q := 1) g dX5_figures_0 rfl ?_
  refine V_istore_5 (q := 3) g dX5_figures_1 (by decide) rfl rfl ?_
  refine V_iload_n (q := 4) g dX5_figures_3 rfl rfl ?_
  refine V_istore_6 (q := 6) g dX5_figures_4 (by decide) rfl rfl ?_
  have hloop : ∀ (k9 : Nat) (v p9 : Int) (Mx : MM) (y2 y7 y8 : Option Value), k9 ≤ 3 → 0 ≤ v → v ≤ hi → (0 ≤ p9 ∧ p9 ≤ sz) → (ah = -1 → k9 ≠ 0 ∧ p9 = p) → (ah ≠ -1 → sNum t sz k p 0 lo hi = sNum t sz k9 p9 v lo hi) → Tx M0 Mx m p9 o f → V Γ D Λ Mx (0, 0) 6 [some (.ref m), some (vi ah), y2, some (vi lo), some (vi hi), some (vi v), some (vi (sUn k9)), y7, y8] [] := by
    intro k9
    induction k9 with
    | zero =>
      intro v p9 Mx y2 y7 y8 h2 h3 h4 h5 h6 h7 hTT
      have hah : ah ≠ -1 := fun e => (h6 e).1 rfl
      refine V_iload (q := 8) g dX5_figures_6 rfl rfl ?_
      refine V_if_le (q := 11) g dX5_figures_8 (tgt := 112) (by decide) rfl (by show inR 0; decide) (fun h8 => ?_) (fun h8 => absurd h8 (by simp [sUn] at h8; try omega))
      refine V_iload_n (q := 113) g dX5_figures_112 rfl rfl ?_
      refine V_iconst (q := 114) g dX5_figures_113 rfl ?_
      refine V_icmp_ne (q := 117) g dX5_figures_114 (tgt := 121) (by decide) rfl (by omega) (by omega) (fun h114 => ?_) (fun h114 => absurd h114 (by omega))
      refine V_iload (q := 123) g dX5_figures_121 rfl rfl ?_
      exact V_ireturn g r dX5_figures_123 rfl ⟨by unfold sFig; rw [if_neg (by omega), h7 hah]; rfl, by unfold sFig; rw [if_neg (by omega), h7 hah]; exact hTT⟩
    | succ k9 ih =>
      intro v p9 Mx y2 y7 y8 h2 h3 h4 h5 h6 h7 hTT
      have hu : sUn (k9 + 1) = sT k9 := rfl
      have hr := sT_r k9
      have hdv := sT_div (k := k9) (by omega)
      have hd := sDg_r hC h5.1
      have hm := sT_mul (k := k9) (d := sDg t sz p9) (by omega)
      rw [hu]
      refine V_iload (q := 8) g dX5_figures_6 rfl rfl ?_
      refine V_if_le (q := 11) g dX5_figures_8 (tgt := 112) (by decide) rfl (by omega) (fun h8 => absurd h8 (by omega)) (fun h8 => ?_)
      refine V_iload_n (q := 12) g dX5_figures_11 rfl rfl ?_
      refine V_iconst (q := 13) g dX5_figures_12 rfl ?_
      refine V_icmp_eq (q := 16) g dX5_figures_13 (tgt := 112) (by decide) rfl (by omega) (by omega) (fun h13 => ?_) (fun h13 => ?_)
      · obtain ⟨-, hp9⟩ := h6 (by omega)
        refine V_iload_n (q := 113) g dX5_figures_112 rfl rfl ?_
        refine V_iconst (q := 114) g dX5_figures_113 rfl ?_
        refine V_icmp_ne (q := 117) g dX5_figures_114 (tgt := 121) (by decide) rfl (by omega) (by omega) (fun h114 => absurd h114 (by omega)) (fun h114 => ?_)
        refine V_iconst (q := 118) g dX5_figures_117 rfl ?_
        refine V_goto g dX5_figures_118 (tgt := 123) (by decide) ?_
        exact V_ireturn g r dX5_figures_123 rfl ⟨by unfold sFig; rw [if_pos (by omega)], by unfold sFig; rw [if_pos (by omega)]; rw [← hp9]; exact hTT⟩
      · refine V_aload_n (q := 17) g dX5_figures_16 rfl rfl ?_
        refine V_getI (q := 20) g dX5_figures_17 rfl f_X5_109 rfl hL.1 rfl (j := 9) rfl ?_
        rw [hTT.1]
        refine V_aload_n (q := 21) g dX5_figures_20 rfl rfl ?_
        refine V_getI (q := 24) g dX5_figures_21 rfl f_X5_102 rfl hL.1 rfl (j := 2) rfl ?_
        rw [hTT.sz, hz]
        refine V_icmp_ge (q := 27) g dX5_figures_24 (tgt := 42) (by decide) rfl (by omega) (by omega) (fun h24 => ?_) (fun h24 => ?_)
        · refine V_iconst (q := 43) g dX5_figures_42 rfl ?_
          have hdg : sDg t sz p9 = -1 := by unfold sDg; rw [if_neg (by omega)]
          rw [← hdg]
          refine V_istore_7 (q := 45) g dX5_figures_43 (by decide) rfl rfl ?_
          refine V_iload (q := 47) g dX5_figures_45 rfl rfl ?_
          refine V_iload (q := 49) g dX5_figures_47 rfl rfl ?_
          refine V_iload (q := 51) g dX5_figures_49 rfl rfl ?_
          refine V_imul (q := 52) g dX5_figures_51 rfl ?_
          refine V_iadd (q := 53) g dX5_figures_52 rfl ?_
          refine V_istore_8 (q := 55) g dX5_figures_53 (by decide) rfl rfl ?_
          refine V_iload (q := 57) g dX5_figures_55 rfl rfl ?_
          refine V_i2l (q := 58) g dX5_figures_57 (by omega) rfl ?_
          refine V_lconst (q := 59) g dX5_figures_58 (z := 0) (by decide) rfl ?_
          refine V_ldc2 (q := 62) g dX5_figures_59 (z := 9) q_X5_112 (by decide) rfl ?_
          refine V_callSI_3 (q := 65) g (c_X5_in l (by omega) (by omega) (by omega)) dX5_figures_62 k_X5_37 rfl rfl ⟨rfl, rfl⟩ rfl (fun z1 M1 e1 => ?_)
          obtain ⟨e1, rfl⟩ := e1
          refine V_if_eq (q := 68) g dX5_figures_65 (tgt := 86) (by decide) rfl (by omega) (fun h65 => ?_) (fun h65 => ?_)
          · refine V_iconst (q := 87) g dX5_figures_86 rfl ?_
            exact V_ireturn g r dX5_figures_87 rfl ⟨by unfold sFig; rw [if_neg (by omega), h7 (by omega), sNum, if_neg (by omega)], by unfold sFig; rw [if_neg (by omega), h7 (by omega), sNum, if_neg (by omega)]; exact hTT⟩
          · refine V_iload (q := 70) g dX5_figures_68 rfl rfl ?_
            refine V_iload (q := 72) g dX5_figures_70 rfl rfl ?_
            refine V_icmp_gt (q := 75) g dX5_figures_72 (tgt := 86) (by decide) rfl (by omega) (by omega) (fun h72 => ?_) (fun h72 => ?_)
            · refine V_iconst (q := 87) g dX5_figures_86 rfl ?_
              exact V_ireturn g r dX5_figures_87 rfl ⟨by unfold sFig; rw [if_neg (by omega), h7 (by omega), sNum, if_neg (by omega)], by unfold sFig; rw [if_neg (by omega), h7 (by omega), sNum, if_neg (by omega)]; exact hTT⟩
            · refine V_iload (q := 77) g dX5_figures_75 rfl rfl ?_
              refine V_iload (q := 79) g dX5_figures_77 rfl rfl ?_
              refine V_iadd (q := 80) g dX5_figures_79 rfl ?_
              refine V_iconst (q := 81) g dX5_figures_80 rfl ?_
              refine V_isub (q := 82) g dX5_figures_81 rfl ?_
              refine V_iload_n (q := 83) g dX5_figures_82 rfl rfl ?_
              refine V_icmp_ge (q := 86) g dX5_figures_83 (tgt := 88) (by decide) rfl (by omega) (by omega) (fun h83 => ?_) (fun h83 => ?_)
              · refine V_iload (q := 90) g dX5_figures_88 rfl rfl ?_
                refine V_istore_5 (q := 92) g dX5_figures_90 (by decide) rfl rfl ?_
                refine V_aload_n (q := 93) g dX5_figures_92 rfl rfl ?_
                refine V_dup (q := 94) g dX5_figures_93 rfl rfl ?_
                refine V_getI (q := 97) g dX5_figures_94 rfl f_X5_109 rfl hL.1 rfl (j := 9) rfl ?_
                rw [hTT.1]
                refine V_iconst (q := 98) g dX5_figures_97 rfl ?_
                refine V_iadd (q := 99) g dX5_figures_98 rfl ?_
                refine V_putI (q := 102) g dX5_figures_99 rfl f_X5_109 tyX5_ok nmX5 rfl hL.1 rfl rfl (ty := .int) rfl rfl rfl (j := 9) rfl ?_
                refine V_iload (q := 104) g dX5_figures_102 rfl rfl ?_
                refine V_bipush (q := 106) g dX5_figures_104 (by decide) rfl ?_
                refine V_idiv (q := 107) g dX5_figures_106 (by omega) (by omega) rfl ?_
                refine V_istore_6 (q := 109) g dX5_figures_107 (by decide) rfl rfl ?_
                refine V_goto g dX5_figures_109 (tgt := 6) (by decide) ?_
                rw [hdv]
                have hsm : sNum t sz k p 0 lo hi = sNum t sz k9 (p9 + 1) (v + sDg t sz p9 * sT k9) lo hi := by rw [h7 (by omega), sNum, if_pos (by omega)]
                have hnn := sT_nn (k := k9) (d := sDg t sz p9) (by omega)
                exact ih _ _ _ _ _ _ (by omega) (by omega) (by omega) (by omega) (fun e => absurd e (by omega)) (fun _ => hsm) hTT.p9
              · refine V_iconst (q := 87) g dX5_figures_86 rfl ?_
                exact V_ireturn g r dX5_figures_87 rfl ⟨by unfold sFig; rw [if_neg (by omega), h7 (by omega), sNum, if_neg (by omega)], by unfold sFig; rw [if_neg (by omega), h7 (by omega), sNum, if_neg (by omega)]; exact hTT⟩
        · refine V_aload_n (q := 28) g dX5_figures_27 rfl rfl ?_
          refine V_getR (q := 31) g dX5_figures_28 rfl f_X5_7 rfl hL.1 rfl ?_
          refine V_aload_n (q := 32) g dX5_figures_31 rfl rfl ?_
          refine V_getI (q := 35) g dX5_figures_32 rfl f_X5_109 rfl hL.1 rfl (j := 9) rfl ?_
          rw [hTT.1]
          refine V_iaload (q := 36) g dX5_figures_35 rfl hL.2.1 (by omega) (by decide) ?_
          rw [hTT.tx, ht]
          have hc9 := hC.2 p9 h5.1 (by omega)
          refine V_bipush (q := 38) g dX5_figures_36 (by decide) rfl ?_
          refine V_isub (q := 39) g dX5_figures_38 rfl ?_
          have hdg : sDg t sz p9 = t p9 - 48 := by unfold sDg; first | (rw [if_pos (by omega)]; done) | (rw [if_neg (by omega)]; done)
          rw [← hdg]
          refine V_goto g dX5_figures_39 (tgt := 43) (by decide) ?_
          refine V_istore_7 (q := 45) g dX5_figures_43 (by decide) rfl rfl ?_
          refine V_iload (q := 47) g dX5_figures_45 rfl rfl ?_
          refine V_iload (q := 49) g dX5_figures_47 rfl rfl ?_
          refine V_iload (q := 51) g dX5_figures_49 rfl rfl ?_
          refine V_imul (q := 52) g dX5_figures_51 rfl ?_
          refine V_iadd (q := 53) g dX5_figures_52 rfl ?_
          refine V_istore_8 (q := 55) g dX5_figures_53 (by decide) rfl rfl ?_
          refine V_iload (q := 57) g dX5_figures_55 rfl rfl ?_
          refine V_i2l (q := 58) g dX5_figures_57 (by omega) rfl ?_
          refine V_lconst (q := 59) g dX5_figures_58 (z := 0) (by decide) rfl ?_
          refine V_ldc2 (q := 62) g dX5_figures_59 (z := 9) q_X5_112 (by decide) rfl ?_
          refine V_callSI_3 (q := 65) g (c_X5_in l (by omega) (by omega) (by omega)) dX5_figures_62 k_X5_37 rfl rfl ⟨rfl, rfl⟩ rfl (fun z2 M2 e2 => ?_)
          obtain ⟨e2, rfl⟩ := e2
          refine V_if_eq (q := 68) g dX5_figures_65 (tgt := 86) (by decide) rfl (by omega) (fun h65 => ?_) (fun h65 => ?_)
          · refine V_iconst (q := 87) g dX5_figures_86 rfl ?_
            exact V_ireturn g r dX5_figures_87 rfl ⟨by unfold sFig; rw [if_neg (by omega), h7 (by omega), sNum, if_neg (by omega)], by unfold sFig; rw [if_neg (by omega), h7 (by omega), sNum, if_neg (by omega)]; exact hTT⟩
          · refine V_iload (q := 70) g dX5_figures_68 rfl rfl ?_
            refine V_iload (q := 72) g dX5_figures_70 rfl rfl ?_
            refine V_icmp_gt (q := 75) g dX5_figures_72 (tgt := 86) (by decide) rfl (by omega) (by omega) (fun h72 => ?_) (fun h72 => ?_)
            · refine V_iconst (q := 87) g dX5_figures_86 rfl ?_
              exact V_ireturn g r dX5_figures_87 rfl ⟨by unfold sFig; rw [if_neg (by omega), h7 (by omega), sNum, if_neg (by omega)], by unfold sFig; rw [if_neg (by omega), h7 (by omega), sNum, if_neg (by omega)]; exact hTT⟩
            · refine V_iload (q := 77) g dX5_figures_75 rfl rfl ?_
              refine V_iload (q := 79) g dX5_figures_77 rfl rfl ?_
              refine V_iadd (q := 80) g dX5_figures_79 rfl ?_
              refine V_iconst (q := 81) g dX5_figures_80 rfl ?_
              refine V_isub (q := 82) g dX5_figures_81 rfl ?_
              refine V_iload_n (q := 83) g dX5_figures_82 rfl rfl ?_
              refine V_icmp_ge (q := 86) g dX5_figures_83 (tgt := 88) (by decide) rfl (by omega) (by omega) (fun h83 => ?_) (fun h83 => ?_)
              · refine V_iload (q := 90) g dX5_figures_88 rfl rfl ?_
                refine V_istore_5 (q := 92) g dX5_figures_90 (by decide) rfl rfl ?_
                refine V_aload_n (q := 93) g dX5_figures_92 rfl rfl ?_
                refine V_dup (q := 94) g dX5_figures_93 rfl rfl ?_
                refine V_getI (q := 97) g dX5_figures_94 rfl f_X5_109 rfl hL.1 rfl (j := 9) rfl ?_
                rw [hTT.1]
                refine V_iconst (q := 98) g dX5_figures_97 rfl ?_
                refine V_iadd (q := 99) g dX5_figures_98 rfl ?_
                refine V_putI (q := 102) g dX5_figures_99 rfl f_X5_109 tyX5_ok nmX5 rfl hL.1 rfl rfl (ty := .int) rfl rfl rfl (j := 9) rfl ?_
                refine V_iload (q := 104) g dX5_figures_102 rfl rfl ?_
                refine V_bipush (q := 106) g dX5_figures_104 (by decide) rfl ?_
                refine V_idiv (q := 107) g dX5_figures_106 (by omega) (by omega) rfl ?_
                refine V_istore_6 (q := 109) g dX5_figures_107 (by decide) rfl rfl ?_
                refine V_goto g dX5_figures_109 (tgt := 6) (by decide) ?_
                rw [hdv]
                have hsm : sNum t sz k p 0 lo hi = sNum t sz k9 (p9 + 1) (v + sDg t sz p9 * sT k9) lo hi := by rw [h7 (by omega), sNum, if_pos (by omega)]
                have hnn := sT_nn (k := k9) (d := sDg t sz p9) (by omega)
                exact ih _ _ _ _ _ _ (by omega) (by omega) (by omega) (by omega) (fun e => absurd e (by omega)) (fun _ => hsm) hTT.p9
              · refine V_iconst (q := 87) g dX5_figures_86 rfl ?_
                exact V_ireturn g r dX5_figures_87 rfl ⟨by unfold sFig; rw [if_neg (by omega), h7 (by omega), sNum, if_neg (by omega)], by unfold sFig; rw [if_neg (by omega), h7 (by omega), sNum, if_neg (by omega)]; exact hTT⟩
  have hk3 : u = sUn k := by rcases hk with ⟨e1, e2⟩ | ⟨e1, e2⟩ | ⟨e1, e2⟩ <;> (subst e1; subst e2; rfl)
  rw [hk3]
  exact hloop k 0 p M _ _ _ (by omega) (by omega) (by omega) hp (fun _ => ⟨by omega, rfl⟩) (fun _ => rfl) hT
