theorem lt_div0 {a b : Int} (hb : 0 < b) (h : a / b = 0) : a < b := by
  have h1 := Int.emod_lt_of_pos a hb
  have h2 := Int.emod_def a b
  rw [h, Int.mul_zero] at h2
  omega
abbrev rm_X4_runScript : Room := { frames := 6, cells := 1, slots := 6, locals := 147 }
set_option maxHeartbeats 4000000 in
set_option maxRecDepth 100000 in
theorem c_X4_runScript (l : Launch) (hfl : l.stackTraces = false) {D : DD} {Λ : LY} {M : MM} {s : Nat} {f : Int → Int} {n sc : Int} (hL : ClsL D Λ s) (hO : Off M (s + 1) f) (hI : Inv f) (hr1 : inR n) (hr2 : inL sc) : CXI l yX4_runScript cX4_runScript 6 .int rm_X4_runScript [.ref s, vi n, vl sc] D Λ M (fun z M1 => (1 ≤ n ∧ n ≤ 3 ∧ 0 ≤ sc ∧ sc < sP n.toNat) ∧ z = sRun sc n.toNat 0 f ∧ Oth M M1 (s + 12)) (fun E M1 => ¬ (1 ≤ n ∧ n ≤ 3 ∧ 0 ≤ sc ∧ sc < sP n.toNat) ∧ E = xIA ∧ M = M1) := by
  refine CXI_of rfl rfl (Nat.le_of_ble_eq_true rfl) (fun Γ g r => ?_)
  have h0 := hI.1
  have h1 := hI.2.1
  refine V_iload_n (q := 1) g dX4_runScript_0 rfl rfl ?_
  refine V_iconst (q := 2) g dX4_runScript_1 rfl ?_
  refine V_iconst (q := 3) g dX4_runScript_2 rfl ?_
  refine V_callSI_3 (q := 6) g (c_X4_within l (by omega) (by omega) (by omega)) dX4_runScript_3 k_X4_43 rfl rfl ⟨rfl, rfl⟩ rfl (fun z1 M1 e1 => ?_)
  obtain ⟨e1, rfl⟩ := e1
  refine V_if_eq (q := 9) g dX4_runScript_6 (tgt := 25) (by decide) rfl (by omega) (fun h6 => ?_) (fun h6 => ?_)
  · exact V_throwS g r hfl th_IA (List.mem_of_getElem? (i := 20) rfl) dX4_runScript_25 dX4_runScript_28 dX4_runScript_29 dX4_runScript_31 dX4_runScript_34 rfl (by first | exact ⟨by omega, rfl, rfl⟩ | exact ⟨fun q => by have := Int.ediv_eq_zero_of_lt q.2.2.1 q.2.2.2; omega, rfl, rfl⟩)
  · refine V_lload_n (q := 10) g dX4_runScript_9 rfl rfl ?_
    refine V_lconst (q := 11) g dX4_runScript_10 (z := 0) (by decide) rfl ?_
    refine V_lcmpx (q := 12) g dX4_runScript_11 rfl (by omega) (by omega) (fun x11 w11 => ?_)
    refine V_if_lt (q := 15) g dX4_runScript_12 (tgt := 25) (by decide) rfl (by omega) (fun h12 => ?_) (fun h12 => ?_)
    · exact V_throwS g r hfl th_IA (List.mem_of_getElem? (i := 20) rfl) dX4_runScript_25 dX4_runScript_28 dX4_runScript_29 dX4_runScript_31 dX4_runScript_34 rfl (by first | exact ⟨by omega, rfl, rfl⟩ | exact ⟨fun q => by have := Int.ediv_eq_zero_of_lt q.2.2.1 q.2.2.2; omega, rfl, rfl⟩)
    · refine V_lload_n (q := 16) g dX4_runScript_15 rfl rfl ?_
      refine V_iload_n (q := 17) g dX4_runScript_16 rfl rfl ?_
      refine V_callSL_2 (q := 20) g (c_X4_withoutGroups l (by omega) (by omega)) dX4_runScript_17 k_X4_248 rfl rfl ⟨rfl, rfl⟩ rfl (fun z2 M2 e2 => ?_)
      obtain ⟨e2, rfl⟩ := e2
      have jp := sP_r n.toNat (by omega)
      have jd : 0 ≤ sc / sP n.toNat := Int.ediv_nonneg (by omega) (by omega)
      have jl : sc / sP n.toNat ≤ sc := Int.ediv_le_self _ (by omega)
      refine V_lconst (q := 21) g dX4_runScript_20 (z := 0) (by decide) rfl ?_
      refine V_lcmpx (q := 22) g dX4_runScript_21 rfl (by omega) (by omega) (fun x21 w21 => ?_)
      refine V_if_eq (q := 25) g dX4_runScript_22 (tgt := 35) (by decide) rfl (by omega) (fun h22 => ?_) (fun h22 => ?_)
      · have hA : 1 ≤ n ∧ n ≤ 3 ∧ 0 ≤ sc ∧ sc < sP n.toNat := ⟨by omega, by omega, by omega, lt_div0 (by omega) (by omega)⟩
        refine V_aload_n (q := 36) g dX4_runScript_35 rfl rfl ?_
        refine V_getR (q := 39) g dX4_runScript_36 rfl f_X4_16 rfl hL.1 rfl ?_
        refine V_aload_n (q := 40) g dX4_runScript_39 rfl rfl ?_
        refine V_getR (q := 43) g dX4_runScript_40 rfl f_X4_10 rfl hL.1 rfl ?_
        refine V_callVV_1 (q := 46) g (c_X1_copyFrom l hL.2.2.1 hL.2.1 hO hI (by omega)) dX4_runScript_43 k_X4_237 hL.2.2.1.1 rfl rfl rfl rfl ⟨rfl, rfl⟩ rfl (fun M3 e3 => ?_)
        obtain ⟨hO3, hT3⟩ := e3
        refine V_iconst (q := 47) g dX4_runScript_46 rfl ?_
        refine V_istore_4 (q := 49) g dX4_runScript_47 (by decide) rfl rfl ?_
        have hloop : ∀ (k9 : Nat) (i : Nat) (gf : Int → Int) (Mx : MM) (y5 : Option Value), i + k9 = n.toNat → Inv gf → sRun sc n.toNat 0 f = sRun sc k9 i gf → Off Mx (s + 12) gf → Oth M Mx (s + 12) → V Γ D Λ Mx (0, 0) 49 [some (.ref s), some (vi n), some (vl sc), none, some (vi (i : Int)), y5] [] := by
          intro k9
          induction k9 with
          | zero =>
            intro i gf Mx y5 h2 hIx h3 hOx hTx
            refine V_iload (q := 51) g dX4_runScript_49 rfl rfl ?_
            refine V_iload_n (q := 52) g dX4_runScript_51 rfl rfl ?_
            refine V_icmp_ge (q := 55) g dX4_runScript_52 (tgt := 93) (by decide) rfl (by omega) (by omega) (fun h52 => ?_) (fun h52 => absurd h52 (by omega))
            refine V_iconst (q := 94) g dX4_runScript_93 rfl ?_
            exact V_ireturnX g r rfl dX4_runScript_94 rfl ⟨hA, h3.symm, hTx⟩
          | succ k9 ih =>
            intro i gf Mx y5 h2 hIx h3 hOx hTx
            refine V_iload (q := 51) g dX4_runScript_49 rfl rfl ?_
            refine V_iload_n (q := 52) g dX4_runScript_51 rfl rfl ?_
            refine V_icmp_ge (q := 55) g dX4_runScript_52 (tgt := 93) (by decide) rfl (by omega) (by omega) (fun h52 => absurd h52 (by omega)) (fun h52 => ?_)
            refine V_lload_n (q := 56) g dX4_runScript_55 rfl rfl ?_
            refine V_iload_n (q := 57) g dX4_runScript_56 rfl rfl ?_
            refine V_iconst (q := 58) g dX4_runScript_57 rfl ?_
            refine V_isub (q := 59) g dX4_runScript_58 rfl ?_
            refine V_iload (q := 61) g dX4_runScript_59 rfl rfl ?_
            refine V_isub (q := 62) g dX4_runScript_61 rfl ?_
            refine V_callSL_2 (q := 65) g (c_X4_withoutGroups l (by omega) (by omega)) dX4_runScript_62 k_X4_248 rfl rfl ⟨rfl, rfl⟩ rfl (fun z4 M4 e4 => ?_)
            obtain ⟨e4, rfl⟩ := e4
            rw [show (n - 1 - (i : Int)).toNat = k9 by omega] at e4
            have jp := sP_r k9 (by omega)
            have jd : 0 ≤ sc / sP k9 := Int.ediv_nonneg (by omega) (by omega)
            have jl : sc / sP k9 ≤ sc := Int.ediv_le_self _ (by omega)
            refine V_ldc2 (q := 68) g dX4_runScript_65 (z := 1000000) q_X4_254 (by decide) rfl ?_
            refine V_lrem (q := 69) g dX4_runScript_68 (by omega) (by omega) rfl ?_
            refine V_l2i (q := 70) g dX4_runScript_69 rfl ?_
            rw [e4, show sc / sP k9 % 1000000 = sGr sc k9 from rfl]
            have hg1 : 0 ≤ sGr sc k9 ∧ sGr sc k9 < 1000000 := by unfold sGr; omega
            refine V_istore_5 (q := 72) g dX4_runScript_70 (by decide) rfl rfl ?_
            refine V_aload_n (q := 73) g dX4_runScript_72 rfl rfl ?_
            refine V_getR (q := 76) g dX4_runScript_73 rfl f_X4_16 rfl hL.1 rfl ?_
            refine V_iload (q := 78) g dX4_runScript_76 rfl rfl ?_
            refine V_callSI_2 (q := 81) g (c_X4_groupSucceeds l hL.2.2.1 hOx hIx hg1) dX4_runScript_78 k_X4_256 rfl rfl ⟨rfl, rfl⟩ rfl (fun z5 M5 e5 => ?_)
            obtain e5 := e5
            refine V_if_ne (q := 84) g dX4_runScript_81 (tgt := 87) (by decide) rfl (by rcases e5 with ⟨-, q, -⟩ | ⟨-, q, -⟩ <;> omega) (fun h81 => ?_) (fun h81 => ?_)
            · obtain ⟨q9, -, hO9, hT9⟩ := e5.resolve_right (fun q => by have := q.2.1; omega)
              refine V_iinc_4 (q := 90) g dX4_runScript_87 (by decide) rfl rfl ?_
              refine V_goto g dX4_runScript_90 (tgt := 49) (by decide) ?_
              exact ih (i + 1) _ _ _ (by omega) (Inv_G hIx hg1.1 q9) (h3.trans (sRun_1 q9)) hO9 (hTx.tr hT9)
            · obtain ⟨q9, -, f9, -, hO9, hT9⟩ := e5.resolve_left (fun q => by have := q.2.1; omega)
              refine V_iload (q := 86) g dX4_runScript_84 rfl rfl ?_
              exact V_ireturnX g r rfl dX4_runScript_86 rfl ⟨hA, (h3.trans (sRun_0 q9)).symm, hTx.tr hT9⟩
        exact hloop n.toNat 0 f _ _ (by omega) hI rfl hO3 hT3
      · exact V_throwS g r hfl th_IA (List.mem_of_getElem? (i := 20) rfl) dX4_runScript_25 dX4_runScript_28 dX4_runScript_29 dX4_runScript_31 dX4_runScript_34 rfl (by first | exact ⟨by omega, rfl, rfl⟩ | exact ⟨fun q => by have := Int.ediv_eq_zero_of_lt q.2.2.1 q.2.2.2; omega, rfl, rfl⟩)
abbrev rm_X4_simulate : Room := { frames := 6, cells := 1, slots := 6, locals := 144 }
set_option maxHeartbeats 4000000 in
set_option maxRecDepth 100000 in
theorem c_X4_simulate (l : Launch) (hfl : l.stackTraces = false) {D : DD} {Λ : LY} {M : MM} {s : Nat} {f : Int → Int} {sd n : Int} (hL : ClsL D Λ s) (hO : Off M (s + 1) f) (hI : Inv f) (hr1 : inR n) : CXI l yX4_simulate cX4_simulate 8 .int rm_X4_simulate [.ref s, vl sd, vi n] D Λ M (fun z M1 => (1 ≤ n ∧ n ≤ 60) ∧ z = sSim f sd n.toNat ∧ Oth M M1 (s + 12)) (fun E M1 => ¬ (1 ≤ n ∧ n ≤ 60) ∧ E = xIA ∧ M = M1) := by
  refine CXI_of rfl rfl (Nat.le_of_ble_eq_true rfl) (fun Γ g r => ?_)
  have h0 := hI.1
  have h1 := hI.2.1
  refine V_iload_n (q := 1) g dX4_simulate_0 rfl rfl ?_
  refine V_iconst (q := 2) g dX4_simulate_1 rfl ?_
  refine V_bipush (q := 4) g dX4_simulate_2 (by decide) rfl ?_
  refine V_callSI_3 (q := 7) g (c_X4_within l (by omega) (by omega) (by omega)) dX4_simulate_4 k_X4_43 rfl rfl ⟨rfl, rfl⟩ rfl (fun z1 M1 e1 => ?_)
  obtain ⟨e1, rfl⟩ := e1
  refine V_if_ne (q := 10) g dX4_simulate_7 (tgt := 21) (by decide) rfl (by omega) (fun h7 => ?_) (fun h7 => ?_)
  · refine V_aload_n (q := 22) g dX4_simulate_21 rfl rfl ?_
    refine V_getR (q := 25) g dX4_simulate_22 rfl f_X4_16 rfl hL.1 rfl ?_
    refine V_aload_n (q := 26) g dX4_simulate_25 rfl rfl ?_
    refine V_getR (q := 29) g dX4_simulate_26 rfl f_X4_10 rfl hL.1 rfl ?_
    refine V_callVV_1 (q := 32) g (c_X1_copyFrom l hL.2.2.1 hL.2.1 hO hI (by omega)) dX4_simulate_29 k_X4_237 hL.2.2.1.1 rfl rfl rfl rfl ⟨rfl, rfl⟩ rfl (fun M2 e2 => ?_)
    obtain ⟨hO2, hT2⟩ := e2
    refine V_lload_n (q := 33) g dX4_simulate_32 rfl rfl ?_
    refine V_lstore_4 (q := 35) g dX4_simulate_33 (by decide) rfl rfl ?_
    refine V_iconst (q := 36) g dX4_simulate_35 rfl ?_
    refine V_istore_6 (q := 38) g dX4_simulate_36 (by decide) rfl rfl ?_
    have hloop : ∀ (k9 : Nat) (i : Nat) (Mx : MM) (y7 : Option Value), (i : Int) ≤ n → n - i ≤ k9 → Off Mx (s + 12) (fSimN f sd i) → Oth M Mx (s + 12) → V Γ D Λ Mx (0, 0) 38 [some (.ref s), some (vl sd), none, some (vi n), some (vl (zN sd i)), none, some (vi (i : Int)), y7] [] := by
      intro k9
      induction k9 with
      | zero =>
        intro i Mx y7 h2 h3 hOx hTx
        refine V_iload (q := 40) g dX4_simulate_38 rfl rfl ?_
        refine V_iload_n (q := 41) g dX4_simulate_40 rfl rfl ?_
        refine V_icmp_ge (q := 44) g dX4_simulate_41 (tgt := 75) (by decide) rfl (by omega) (by omega) (fun h41 => ?_) (fun h41 => absurd h41 (by omega))
        have hn : n = (i : Int) := by omega
        subst hn
        have hOo : Off Mx (s + 1) f := hO.oth hTx (by omega)
        refine V_aload_n (q := 76) g dX4_simulate_75 rfl rfl ?_
        refine V_getR (q := 79) g dX4_simulate_76 rfl f_X4_16 rfl hL.1 rfl ?_
        refine V_getRN (q := 82) g dX4_simulate_79 rfl f_X4_107 rfl hL.2.2.1.1 rfl ?_
        refine V_iconst (q := 83) g dX4_simulate_82 rfl ?_
        refine V_callSI_2 (q := 86) g (a_totals l hL.2.2.1 hOx (by omega)) dX4_simulate_83 k_X4_111 rfl rfl ⟨rfl, rfl⟩ rfl (fun z3 M3 e3 => ?_)
        obtain ⟨e3, rfl⟩ := e3
        rw [show (4 : Int) - 1 = 3 from rfl] at e3
        refine V_aload_n (q := 87) g dX4_simulate_86 rfl rfl ?_
        refine V_getR (q := 90) g dX4_simulate_87 rfl f_X4_10 rfl hL.1 rfl ?_
        refine V_getRN (q := 93) g dX4_simulate_90 rfl f_X4_107 rfl hL.2.1.1 rfl ?_
        refine V_iconst (q := 94) g dX4_simulate_93 rfl ?_
        refine V_callSI_2 (q := 97) g (a_totals l hL.2.1 hOo (by omega)) dX4_simulate_94 k_X4_111 rfl rfl ⟨rfl, rfl⟩ rfl (fun z4 M4 e4 => ?_)
        obtain ⟨e4, rfl⟩ := e4
        rw [show (4 : Int) - 1 = 3 from rfl] at e4
        refine V_isub (q := 98) g dX4_simulate_97 rfl ?_
        refine V_istore_6 (q := 100) g dX4_simulate_98 (by decide) rfl rfl ?_
        refine V_aload_n (q := 101) g dX4_simulate_100 rfl rfl ?_
        refine V_getR (q := 104) g dX4_simulate_101 rfl f_X4_16 rfl hL.1 rfl ?_
        refine V_getRN (q := 107) g dX4_simulate_104 rfl f_X4_107 rfl hL.2.2.1.1 rfl ?_
        refine V_iconst (q := 108) g dX4_simulate_107 rfl ?_
        refine V_callSI_2 (q := 111) g (a_totals l hL.2.2.1 hOx (by omega)) dX4_simulate_108 k_X4_111 rfl rfl ⟨rfl, rfl⟩ rfl (fun z5 M5 e5 => ?_)
        obtain ⟨e5, rfl⟩ := e5
        rw [show (5 : Int) - 1 = 4 from rfl] at e5
        refine V_aload_n (q := 112) g dX4_simulate_111 rfl rfl ?_
        refine V_getR (q := 115) g dX4_simulate_112 rfl f_X4_10 rfl hL.1 rfl ?_
        refine V_getRN (q := 118) g dX4_simulate_115 rfl f_X4_107 rfl hL.2.1.1 rfl ?_
        refine V_iconst (q := 119) g dX4_simulate_118 rfl ?_
        refine V_callSI_2 (q := 122) g (a_totals l hL.2.1 hOo (by omega)) dX4_simulate_119 k_X4_111 rfl rfl ⟨rfl, rfl⟩ rfl (fun z6 M6 e6 => ?_)
        obtain ⟨e6, rfl⟩ := e6
        rw [show (5 : Int) - 1 = 4 from rfl] at e6
        refine V_isub (q := 123) g dX4_simulate_122 rfl ?_
        refine V_istore_7 (q := 125) g dX4_simulate_123 (by decide) rfl rfl ?_
        refine V_sipush (q := 128) g dX4_simulate_125 (by decide) rfl ?_
        refine V_iload (q := 130) g dX4_simulate_128 rfl rfl ?_
        refine V_imul (q := 131) g dX4_simulate_130 rfl ?_
        refine V_bipush (q := 133) g dX4_simulate_131 (by decide) rfl ?_
        refine V_aload_n (q := 134) g dX4_simulate_133 rfl rfl ?_
        refine V_getR (q := 137) g dX4_simulate_134 rfl f_X4_16 rfl hL.1 rfl ?_
        refine V_callVI_0 (q := 140) g (c_X1_stampedChairs l hL.2.2.1 hOx (Inv_sim hI sd i)) dX4_simulate_137 k_X4_104 hL.2.2.1.1 rfl rfl rfl rfl ⟨rfl, rfl⟩ rfl (fun z7 M7 e7 => ?_)
        obtain ⟨⟨e7, b7⟩, rfl⟩ := e7
        refine V_imul (q := 141) g dX4_simulate_140 rfl ?_
        refine V_iadd (q := 142) g dX4_simulate_141 rfl ?_
        refine V_iload (q := 144) g dX4_simulate_142 rfl rfl ?_
        refine V_iadd (q := 145) g dX4_simulate_144 rfl ?_
        exact V_ireturnX g r rfl dX4_simulate_145 rfl ⟨by omega, (by
            have q : sSim f sd ((i : Int)).toNat = 10000 * (fSimN f sd i 3 - f 3) + 100 * sStamped (fSimN f sd i) + fSimN f sd i 4 - f 4 := rfl
            omega), hTx⟩
      | succ k9 ih =>
        intro i Mx y7 h2 h3 hOx hTx
        refine V_iload (q := 40) g dX4_simulate_38 rfl rfl ?_
        refine V_iload_n (q := 41) g dX4_simulate_40 rfl rfl ?_
        refine V_icmp_ge (q := 44) g dX4_simulate_41 (tgt := 75) (by decide) rfl (by omega) (by omega) (fun h41 => ?_) (fun h41 => ?_)
        · have hn : n = (i : Int) := by omega
          subst hn
          have hOo : Off Mx (s + 1) f := hO.oth hTx (by omega)
          refine V_aload_n (q := 76) g dX4_simulate_75 rfl rfl ?_
          refine V_getR (q := 79) g dX4_simulate_76 rfl f_X4_16 rfl hL.1 rfl ?_
          refine V_getRN (q := 82) g dX4_simulate_79 rfl f_X4_107 rfl hL.2.2.1.1 rfl ?_
          refine V_iconst (q := 83) g dX4_simulate_82 rfl ?_
          refine V_callSI_2 (q := 86) g (a_totals l hL.2.2.1 hOx (by omega)) dX4_simulate_83 k_X4_111 rfl rfl ⟨rfl, rfl⟩ rfl (fun z8 M8 e8 => ?_)
          obtain ⟨e8, rfl⟩ := e8
          rw [show (4 : Int) - 1 = 3 from rfl] at e8
          refine V_aload_n (q := 87) g dX4_simulate_86 rfl rfl ?_
          refine V_getR (q := 90) g dX4_simulate_87 rfl f_X4_10 rfl hL.1 rfl ?_
          refine V_getRN (q := 93) g dX4_simulate_90 rfl f_X4_107 rfl hL.2.1.1 rfl ?_
          refine V_iconst (q := 94) g dX4_simulate_93 rfl ?_
          refine V_callSI_2 (q := 97) g (a_totals l hL.2.1 hOo (by omega)) dX4_simulate_94 k_X4_111 rfl rfl ⟨rfl, rfl⟩ rfl (fun z9 M9 e9 => ?_)
          obtain ⟨e9, rfl⟩ := e9
          rw [show (4 : Int) - 1 = 3 from rfl] at e9
          refine V_isub (q := 98) g dX4_simulate_97 rfl ?_
          refine V_istore_6 (q := 100) g dX4_simulate_98 (by decide) rfl rfl ?_
          refine V_aload_n (q := 101) g dX4_simulate_100 rfl rfl ?_
          refine V_getR (q := 104) g dX4_simulate_101 rfl f_X4_16 rfl hL.1 rfl ?_
          refine V_getRN (q := 107) g dX4_simulate_104 rfl f_X4_107 rfl hL.2.2.1.1 rfl ?_
          refine V_iconst (q := 108) g dX4_simulate_107 rfl ?_
          refine V_callSI_2 (q := 111) g (a_totals l hL.2.2.1 hOx (by omega)) dX4_simulate_108 k_X4_111 rfl rfl ⟨rfl, rfl⟩ rfl (fun z10 M10 e10 => ?_)
          obtain ⟨e10, rfl⟩ := e10
          rw [show (5 : Int) - 1 = 4 from rfl] at e10
          refine V_aload_n (q := 112) g dX4_simulate_111 rfl rfl ?_
          refine V_getR (q := 115) g dX4_simulate_112 rfl f_X4_10 rfl hL.1 rfl ?_
          refine V_getRN (q := 118) g dX4_simulate_115 rfl f_X4_107 rfl hL.2.1.1 rfl ?_
          refine V_iconst (q := 119) g dX4_simulate_118 rfl ?_
          refine V_callSI_2 (q := 122) g (a_totals l hL.2.1 hOo (by omega)) dX4_simulate_119 k_X4_111 rfl rfl ⟨rfl, rfl⟩ rfl (fun z11 M11 e11 => ?_)
          obtain ⟨e11, rfl⟩ := e11
          rw [show (5 : Int) - 1 = 4 from rfl] at e11
          refine V_isub (q := 123) g dX4_simulate_122 rfl ?_
          refine V_istore_7 (q := 125) g dX4_simulate_123 (by decide) rfl rfl ?_
          refine V_sipush (q := 128) g dX4_simulate_125 (by decide) rfl ?_
          refine V_iload (q := 130) g dX4_simulate_128 rfl rfl ?_
          refine V_imul (q := 131) g dX4_simulate_130 rfl ?_
          refine V_bipush (q := 133) g dX4_simulate_131 (by decide) rfl ?_
          refine V_aload_n (q := 134) g dX4_simulate_133 rfl rfl ?_
          refine V_getR (q := 137) g dX4_simulate_134 rfl f_X4_16 rfl hL.1 rfl ?_
          refine V_callVI_0 (q := 140) g (c_X1_stampedChairs l hL.2.2.1 hOx (Inv_sim hI sd i)) dX4_simulate_137 k_X4_104 hL.2.2.1.1 rfl rfl rfl rfl ⟨rfl, rfl⟩ rfl (fun z12 M12 e12 => ?_)
          obtain ⟨⟨e12, b12⟩, rfl⟩ := e12
          refine V_imul (q := 141) g dX4_simulate_140 rfl ?_
          refine V_iadd (q := 142) g dX4_simulate_141 rfl ?_
          refine V_iload (q := 144) g dX4_simulate_142 rfl rfl ?_
          refine V_iadd (q := 145) g dX4_simulate_144 rfl ?_
          exact V_ireturnX g r rfl dX4_simulate_145 rfl ⟨by omega, (by
              have q : sSim f sd ((i : Int)).toNat = 10000 * (fSimN f sd i 3 - f 3) + 100 * sStamped (fSimN f sd i) + fSimN f sd i 4 - f 4 := rfl
              omega), hTx⟩
        · refine V_lload (q := 46) g dX4_simulate_44 rfl rfl ?_
          refine V_ldc2 (q := 49) g dX4_simulate_46 (z := 6364136223846793005) q_X4_262 (by decide) rfl ?_
          refine V_lmul (q := 50) g dX4_simulate_49 rfl ?_
          refine V_ldc2 (q := 53) g dX4_simulate_50 (z := 1442695040888963407) q_X4_264 (by decide) rfl ?_
          refine V_ladd (q := 54) g dX4_simulate_53 rfl ?_
          refine V_lstore_4 (q := 56) g dX4_simulate_54 (by decide) rfl rfl ?_
          refine V_aload_n (q := 57) g dX4_simulate_56 rfl rfl ?_
          refine V_getR (q := 60) g dX4_simulate_57 rfl f_X4_16 rfl hL.1 rfl ?_
          refine V_lload (q := 62) g dX4_simulate_60 rfl rfl ?_
          refine V_bipush (q := 64) g dX4_simulate_62 (by decide) rfl ?_
          refine V_lushr0 (q := 65) g dX4_simulate_64 rfl ?_
          have hr9 := sR_r (zN sd (i + 1))
          have hu : Value.long ((lI (zN sd i * 6364136223846793005 + 1442695040888963407)).toUInt64 >>> ((iI 33).toInt64.toUInt64 &&& Int64.toUInt64 63)).toInt64 = vl (sR (zN sd (i + 1))) := sU_l (zN sd (i + 1))
          rw [hu]
          refine V_l2i (q := 66) g dX4_simulate_65 rfl ?_
          refine V_callSV_2 (q := 69) g (c_X4_takeTurn l hL.2.2.1 hOx (Inv_sim hI sd i) hr9) dX4_simulate_66 k_X4_266 rfl rfl ⟨rfl, rfl⟩ rfl (fun M13 e13 => ?_)
          obtain ⟨hO9, hT9⟩ := e13
          refine V_iinc_6 (q := 72) g dX4_simulate_69 (by decide) rfl rfl ?_
          refine V_goto g dX4_simulate_72 (tgt := 38) (by decide) ?_
          exact ih (i + 1) _ _ (by omega) (by omega) hO9 (hTx.tr hT9)
    exact hloop n.toNat 0 _ _ (by omega) (by omega) hO2 hT2
  · exact V_throwSW g r hfl th_IA (List.mem_of_getElem? (i := 21) rfl) dX4_simulate_10 dX4_simulate_13 dX4_simulate_14 dX4_simulate_17 dX4_simulate_20 rfl (by first | exact ⟨by omega, rfl, rfl⟩ | exact Or.inl ⟨by omega, rfl, rfl⟩ | exact Or.inr ⟨by omega, by omega, rfl, rfl⟩ | exact Or.inr (Or.inl ⟨by omega, by omega, rfl, rfl⟩))
