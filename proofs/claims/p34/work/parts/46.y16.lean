theorem lt_div0 {a b : Int} (hb : 0 < b) (h : a / b = 0) : a < b := by
  have h1 := Int.emod_lt_of_pos a hb
  have h2 := Int.emod_def a b
  rw [h, Int.mul_zero] at h2
  omega
/-- what loading changes beside the office -/
def LdW (M0 M : MM) (s : Nat) : Prop := M (s + 23) = up (M0 (s + 23)) 2 0 ∧ M (s + 190) = up (M0 (s + 190)) 1 0 ∧ M (s + 202) = up (M0 (s + 202)) 1 0 ∧ M (s + 214) 1 = M0 (s + 214) 1 ∧ M (s + 214 + 1) = M0 (s + 214 + 1) ∧ ∀ b : Nat, (b < s + 1 ∨ s + 11 < b) → b ≠ s + 23 → b ≠ s + 190 → b ≠ s + 202 → b ≠ s + 214 → b ≠ s + 216 → M b = M0 b
theorem LdW.cx {M0 M M1 : MM} {s : Nat} {p c : Int} (h : LdW M0 M s) (h2 : Cx M M1 (s + 214) p c) : LdW M0 M1 s := by
  obtain ⟨a1, a2, a3, a4, a5, a6⟩ := h
  obtain ⟨-, -, b3, b4⟩ := h2
  exact ⟨by rw [b4 _ (by omega) (by omega)]; exact a1, by rw [b4 _ (by omega) (by omega)]; exact a2, by rw [b4 _ (by omega) (by omega)]; exact a3, (b3 1 (by decide) (by decide)).trans a4, by rw [b4 _ (by omega) (by omega)]; exact a5, fun b c1 c2 c3 c4 c5 c6 => (b4 b (by omega) (by omega)).trans (a6 b c1 c2 c3 c4 c5 c6)⟩
theorem LdW.act {M0 M M1 : MM} {s : Nat} (h : LdW M0 M s) (h2 : Oth M M1 (s + 1)) : LdW M0 M1 s := by
  obtain ⟨a1, a2, a3, a4, a5, a6⟩ := h
  exact ⟨by rw [h2 _ (by omega)]; exact a1, by rw [h2 _ (by omega)]; exact a2, by rw [h2 _ (by omega)]; exact a3, by rw [h2 _ (by omega)]; exact a4, by rw [h2 _ (by omega)]; exact a5, fun b c1 c2 c3 c4 c5 c6 => (h2 b (by omega)).trans (a6 b c1 c2 c3 c4 c5 c6)⟩
theorem LdW.new {M M1 M2 : MM} {s : Nat} {p c : Int} (h : Cx M M1 (s + 214) p c) (h2 : Oth M1 M2 (s + 1)) : LdW M (wr (wr (wr (wr M2 (s + 23) 2 0) (s + 190) 1 0) (s + 202) 1 0) (s + 214) 2 1) s := by
  obtain ⟨-, -, b3, b4⟩ := h
  have e : ∀ b : Nat, (b < s + 1 ∨ s + 11 < b) → b ≠ s + 214 → b ≠ s + 216 → M2 b = M b := fun b c1 c2 c3 => (h2 b (by omega)).trans (b4 b c2 (by omega))
  refine ⟨?_, ?_, ?_, ?_, ?_, fun b c1 c2 c3 c4 c5 c6 => ?_⟩
  · rw [wr_ne _ _ _ (by omega), wr_ne _ _ _ (by omega), wr_ne _ _ _ (by omega), wr_at, e _ (by omega) (by omega) (by omega)]
  · rw [wr_ne _ _ _ (by omega), wr_ne _ _ _ (by omega), wr_at, wr_ne _ _ _ (by omega), e _ (by omega) (by omega) (by omega)]
  · rw [wr_ne _ _ _ (by omega), wr_at, wr_ne _ _ _ (by omega), wr_ne _ _ _ (by omega), e _ (by omega) (by omega) (by omega)]
  · rw [wr_ii _ _ _ (by decide), wr_ne _ _ _ (by omega), wr_ne _ _ _ (by omega), wr_ne _ _ _ (by omega), h2 _ (by omega)]
    exact b3 1 (by decide) (by decide)
  · rw [wr_ne _ _ _ (by omega), wr_ne _ _ _ (by omega), wr_ne _ _ _ (by omega), wr_ne _ _ _ (by omega), h2 _ (by omega)]
    exact b4 _ (by omega) (by omega)
  · rw [wr_ne _ _ _ c5, wr_ne _ _ _ c4, wr_ne _ _ _ c3, wr_ne _ _ _ c2]
    exact e b c1 c5 c6
/-- the numbers of a command that was read are in their ranges -/
theorem sXs_rng {t : Int → Int} {sz p : Int} {r : Nat} (hr : r ≤ 7) (h : (sXs t sz r p 3).1 ≠ -1) : (fLo r 0 ≤ (sXs t sz r p 0).1 ∧ (sXs t sz r p 0).1 ≤ fHi r 0) ∧ (fLo r 1 ≤ (sXs t sz r p 1).1 ∧ (sXs t sz r p 1).1 ≤ fHi r 1) ∧ (fLo r 2 ≤ (sXs t sz r p 2).1 ∧ (sXs t sz r p 2).1 ≤ fHi r 2) ∧ (fLo r 3 ≤ (sXs t sz r p 3).1 ∧ (sXs t sz r p 3).1 ≤ fHi r 3) := by
  have h2 : (sXs t sz r p 2).1 ≠ -1 := fun q => h (sXs_fail q).1
  have h1 : (sXs t sz r p 1).1 ≠ -1 := fun q => h2 (sXs_fail q).1
  have h0 : (sXs t sz r p 0).1 ≠ -1 := fun q => h1 (sXs_fail q).1
  exact ⟨(sXs_p hr 0 (by decide)).1.resolve_left h0, (sXs_p hr 1 (by decide)).1.resolve_left h1, (sXs_p hr 2 (by decide)).1.resolve_left h2, (sXs_p hr 3 (by decide)).1.resolve_left h⟩
abbrev rm_X4_runScript : Room := { frames := 6, cells := 1, slots := 6, locals := 147 }
set_option maxHeartbeats 4000000 in
set_option maxRecDepth 100000 in
theorem c_X4_runScript (l : Launch) (hfl : l.stackTraces = false) {D : DD} {Λ : LY} {M : MM} {s : Nat} {f : Int → Int} {n sc : Int} (hL : ClsL D Λ s) (hO : Off M (s + 1) f) (hI : Inv f) (hr1 : inR n) (hr2 : inL sc) : CXI l yX4_runScript cX4_runScript 6 .int rm_X4_runScript [.ref s, vi n, vl sc] D Λ M (fun z M1 => (1 ≤ n ∧ n ≤ 3 ∧ 0 ≤ sc ∧ sc < sP n.toNat) ∧ z = sRun sc n.toNat 0 f ∧ Oth M M1 (s + 12)) (fun E M1 => ¬ (1 ≤ n ∧ n ≤ 3 ∧ 0 ≤ sc ∧ sc < sP n.toNat) ∧ E = xIA ∧ M = M1) := by
  refine CXI_of rfl rfl (Nat.le_of_ble_eq_true rfl) (fun Γ g r => ?_)
  have h0 := hI.1
  have h1 := hI.2.1
  refine V_iload_n (q := 1) g dX4_runScript_0 rfl rfl ?_
  refine V_iconst (q := 2) g dX4_runScript_1 rfl ?_
  refine V_iconst (q := 3) g dX4_runScript_2 rfl ?_
  refine V_callSI_3 (q := 6) g (c_X4_within l (by omega) (by omega) (by omega)) dX4_runScript_3 k_X4_43 rfl rfl ⟨rfl, rfl⟩ rfl (fun z1 M1 e1 => ?_)
  obtain ⟨e1, rfl⟩ := e1
  refine V_if_eq (q := 9) g dX4_runScript_6 (tgt := 25) (by decide) rfl (by omega) (fun h6 => ?_) (fun h6 => ?_)
  · exact V_throwS g r hfl th_IA (List.mem_of_getElem? (i := 20) rfl) dX4_runScript_25 dX4_runScript_28 dX4_runScript_29 dX4_runScript_31 dX4_runScript_34 rfl (by first | exact ⟨by omega, rfl, rfl⟩ | exact ⟨fun q => by have := Int.ediv_eq_zero_of_lt q.2.2.1 q.2.2.2; omega, rfl, rfl⟩)
  · refine V_lload_n (q := 10) g dX4_runScript_9 rfl rfl ?_
    refine V_lconst (q := 11) g dX4_runScript_10 (z := 0) (by decide) rfl ?_
    refine V_lcmpx (q := 12) g dX4_runScript_11 rfl (by omega) (by omega) (fun x11 w11 => ?_)
    refine V_if_lt (q := 15) g dX4_runScript_12 (tgt := 25) (by decide) rfl (by omega) (fun h12 => ?_) (fun h12 => ?_)
    · exact V_throwS g r hfl th_IA (List.mem_of_getElem? (i := 20) rfl) dX4_runScript_25 dX4_runScript_28 dX4_runScript_29 dX4_runScript_31 dX4_runScript_34 rfl (by first | exact ⟨by omega, rfl, rfl⟩ | exact ⟨fun q => by have := Int.ediv_eq_zero_of_lt q.2.2.1 q.2.2.2; omega, rfl, rfl⟩)
    · refine V_lload_n (q := 16) g dX4_runScript_15 rfl rfl ?_
      refine V_iload_n (q := 17) g dX4_runScript_16 rfl rfl ?_
      refine V_callSL_2 (q := 20) g (c_X4_withoutGroups l (by omega) (by omega)) dX4_runScript_17 k_X4_248 rfl rfl ⟨rfl, rfl⟩ rfl (fun z2 M2 e2 => ?_)
      obtain ⟨e2, rfl⟩ := e2
      have jp := sP_r n.toNat (by omega)
      have jd : 0 ≤ sc / sP n.toNat := Int.ediv_nonneg (by omega) (by omega)
      have jl : sc / sP n.toNat ≤ sc := Int.ediv_le_self _ (by omega)
      refine V_lconst (q := 21) g dX4_runScript_20 (z := 0) (by decide) rfl ?_
      refine V_lcmpx (q := 22) g dX4_runScript_21 rfl (by omega) (by omega) (fun x21 w21 => ?_)
      refine V_if_eq (q := 25) g dX4_runScript_22 (tgt := 35) (by decide) rfl (by omega) (fun h22 => ?_) (fun h22 => ?_)
      · have hA : 1 ≤ n ∧ n ≤ 3 ∧ 0 ≤ sc ∧ sc < sP n.toNat := ⟨by omega, by omega, by omega, lt_div0 (by omega) (by omega)⟩
        refine V_aload_n (q := 36) g dX4_runScript_35 rfl rfl ?_
        refine V_getR (q := 39) g dX4_runScript_36 rfl f_X4_16 rfl hL.1 rfl ?_
        refine V_aload_n (q := 40) g dX4_runScript_39 rfl rfl ?_
        refine V_getR (q := 43) g dX4_runScript_40 rfl f_X4_10 rfl hL.1 rfl ?_
        refine V_callVV_1 (q := 46) g (c_X1_copyFrom l hL.2.2.1 hL.2.1 hO hI (by omega)) dX4_runScript_43 k_X4_237 hL.2.2.1.1 rfl rfl rfl rfl ⟨rfl, rfl⟩ rfl (fun M3 e3 => ?_)
        obtain ⟨hO3, hT3⟩ := e3
        refine V_iconst (q := 47) g dX4_runScript_46 rfl ?_
        refine V_istore_4 (q := 49) g dX4_runScript_47 (by decide) rfl rfl ?_
        have hloop : ∀ (k9 : Nat) (i : Nat) (gf : Int → Int) (Mx : MM) (y5 : Option Value), i + k9 = n.toNat → Inv gf → sRun sc n.toNat 0 f = sRun sc k9 i gf → Off Mx (s + 12) gf → Oth M Mx (s + 12) → V Γ D Λ Mx (0, 0) 49 [some (.ref s), some (vi n), some (vl sc), none, some (vi (i : Int)), y5] [] := by
          intro k9
          induction k9 with
          | zero =>
            intro i gf Mx y5 h2 hIx h3 hOx hTx
            refine V_iload (q := 51) g dX4_runScript_49 rfl rfl ?_
            refine V_iload_n (q := 52) g dX4_runScript_51 rfl rfl ?_
            refine V_icmp_ge (q := 55) g dX4_runScript_52 (tgt := 93) (by decide) rfl (by omega) (by omega) (fun h52 => ?_) (fun h52 => absurd h52 (by omega))
            refine V_iconst (q := 94) g dX4_runScript_93 rfl ?_
            exact V_ireturnX g r rfl dX4_runScript_94 rfl ⟨hA, h3.symm, hTx⟩
          | succ k9 ih =>
            intro i gf Mx y5 h2 hIx h3 hOx hTx
            refine V_iload (q := 51) g dX4_runScript_49 rfl rfl ?_
            refine V_iload_n (q := 52) g dX4_runScript_51 rfl rfl ?_
            refine V_icmp_ge (q := 55) g dX4_runScript_52 (tgt := 93) (by decide) rfl (by omega) (by omega) (fun h52 => absurd h52 (by omega)) (fun h52 => ?_)
            refine V_lload_n (q := 56) g dX4_runScript_55 rfl rfl ?_
            refine V_iload_n (q := 57) g dX4_runScript_56 rfl rfl ?_
            refine V_iconst (q := 58) g dX4_runScript_57 rfl ?_
            refine V_isub (q := 59) g dX4_runScript_58 rfl ?_
            refine V_iload (q := 61) g dX4_runScript_59 rfl rfl ?_
            refine V_isub (q := 62) g dX4_runScript_61 rfl ?_
            refine V_callSL_2 (q := 65) g (c_X4_withoutGroups l (by omega) (by omega)) dX4_runScript_62 k_X4_248 rfl rfl ⟨rfl, rfl⟩ rfl (fun z4 M4 e4 => ?_)
            obtain ⟨e4, rfl⟩ := e4
            rw [show (n - 1 - (i : Int)).toNat = k9 by omega] at e4
            have jp := sP_r k9 (by omega)
            have jd : 0 ≤ sc / sP k9 := Int.ediv_nonneg (by omega) (by omega)
            have jl : sc / sP k9 ≤ sc := Int.ediv_le_self _ (by omega)
            refine V_ldc2 (q := 68) g dX4_runScript_65 (z := 1000000) q_X4_254 (by decide) rfl ?_
            refine V_lrem (q := 69) g dX4_runScript_68 (by omega) (by omega) rfl ?_
            refine V_l2i (q := 70) g dX4_runScript_69 rfl ?_
            rw [e4, show sc / sP k9 % 1000000 = sGr sc k9 from rfl]
            have hg1 : 0 ≤ sGr sc k9 ∧ sGr sc k9 < 1000000 := by unfold sGr; omega
            refine V_istore_5 (q := 72) g dX4_runScript_70 (by decide) rfl rfl ?_
            refine V_aload_n (q := 73) g dX4_runScript_72 rfl rfl ?_
            refine V_getR (q := 76) g dX4_runScript_73 rfl f_X4_16 rfl hL.1 rfl ?_
            refine V_iload (q := 78) g dX4_runScript_76 rfl rfl ?_
            refine V_callSI_2 (q := 81) g (c_X4_groupSucceeds l hL.2.2.1 hOx hIx hg1) dX4_runScript_78 k_X4_256 rfl rfl ⟨rfl, rfl⟩ rfl (fun z5 M5 e5 => ?_)
            obtain e5 := e5
            refine V_if_ne (q := 84) g dX4_runScript_81 (tgt := 87) (by decide) rfl (by rcases e5 with ⟨-, q, -⟩ | ⟨-, q, -⟩ <;> omega) (fun h81 => ?_) (fun h81 => ?_)
            · obtain ⟨q9, -, hO9, hT9⟩ := e5.resolve_right (fun q => by have := q.2.1; omega)
              refine V_iinc_4 (q := 90) g dX4_runScript_87 (by decide) rfl rfl ?_
              refine V_goto g dX4_runScript_90 (tgt := 49) (by decide) ?_
              exact ih (i + 1) _ _ _ (by omega) (Inv_G hIx hg1.1 q9) (h3.trans (sRun_1 q9)) hO9 (hTx.tr hT9)
            · obtain ⟨q9, -, f9, -, hO9, hT9⟩ := e5.resolve_left (fun q => by have := q.2.1; omega)
              refine V_iload (q := 86) g dX4_runScript_84 rfl rfl ?_
              exact V_ireturnX g r rfl dX4_runScript_86 rfl ⟨hA, (h3.trans (sRun_0 q9)).symm, hTx.tr hT9⟩
        exact hloop n.toNat 0 f _ _ (by omega) hI rfl hO3 hT3
      · exact V_throwS g r hfl th_IA (List.mem_of_getElem? (i := 20) rfl) dX4_runScript_25 dX4_runScript_28 dX4_runScript_29 dX4_runScript_31 dX4_runScript_34 rfl (by first | exact ⟨by omega, rfl, rfl⟩ | exact ⟨fun q => by have := Int.ediv_eq_zero_of_lt q.2.2.1 q.2.2.2; omega, rfl, rfl⟩)
abbrev rm_X4_simulate : Room := { frames := 6, cells := 1, slots := 6, locals := 144 }
set_option maxHeartbeats 4000000 in
set_option maxRecDepth 100000 in
theorem c_X4_simulate (l : Launch) (hfl : l.stackTraces = false) {D : DD} {Λ : LY} {M : MM} {s : Nat} {f : Int → Int} {sd n : Int} (hL : ClsL D Λ s) (hO : Off M (s + 1) f) (hI : Inv f) (hr1 : inR n) : CXI l yX4_simulate cX4_simulate 8 .int rm_X4_simulate [.ref s, vl sd, vi n] D Λ M (fun z M1 => (1 ≤ n ∧ n ≤ 60) ∧ z = sSim f sd n.toNat ∧ Oth M M1 (s + 12)) (fun E M1 => ¬ (1 ≤ n ∧ n ≤ 60) ∧ E = xIA ∧ M = M1) := by
  refine CXI_of rfl rfl (Nat.le_of_ble_eq_true rfl) (fun Γ g r => ?_)
  have h0 := hI.1
  have h1 := hI.2.1
  refine V_iload_n (q := 1) g dX4_simulate_0 rfl rfl ?_
  refine V_iconst (q := 2) g dX4_simulate_1 rfl ?_
  refine V_bipush (q := 4) g dX4_simulate_2 (by decide) rfl ?_
  refine V_callSI_3 (q := 7) g (c_X4_within l (by omega) (by omega) (by omega)) dX4_simulate_4 k_X4_43 rfl rfl ⟨rfl, rfl⟩ rfl (fun z1 M1 e1 => ?_)
  obtain ⟨e1, rfl⟩ := e1
  refine V_if_ne (q := 10) g dX4_simulate_7 (tgt := 21) (by decide) rfl (by omega) (fun h7 => ?_) (fun h7 => ?_)
  · refine V_aload_n (q := 22) g dX4_simulate_21 rfl rfl ?_
    refine V_getR (q := 25) g dX4_simulate_22 rfl f_X4_16 rfl hL.1 rfl ?_
    refine V_aload_n (q := 26) g dX4_simulate_25 rfl rfl ?_
    refine V_getR (q := 29) g dX4_simulate_26 rfl f_X4_10 rfl hL.1 rfl ?_
    refine V_callVV_1 (q := 32) g (c_X1_copyFrom l hL.2.2.1 hL.2.1 hO hI (by omega)) dX4_simulate_29 k_X4_237 hL.2.2.1.1 rfl rfl rfl rfl ⟨rfl, rfl⟩ rfl (fun M2 e2 => ?_)
    obtain ⟨hO2, hT2⟩ := e2
    refine V_lload_n (q := 33) g dX4_simulate_32 rfl rfl ?_
    refine V_lstore_4 (q := 35) g dX4_simulate_33 (by decide) rfl rfl ?_
    refine V_iconst (q := 36) g dX4_simulate_35 rfl ?_
    refine V_istore_6 (q := 38) g dX4_simulate_36 (by decide) rfl rfl ?_
    have hloop : ∀ (k9 : Nat) (i : Nat) (Mx : MM) (y7 : Option Value), (i : Int) ≤ n → n - i ≤ k9 → Off Mx (s + 12) (fSimN f sd i) → Oth M Mx (s + 12) → V Γ D Λ Mx (0, 0) 38 [some (.ref s), some (vl sd), none, some (vi n), some (vl (zN sd i)), none, some (vi (i : Int)), y7] [] := by
      intro k9
      induction k9 with
      | zero =>
        intro i Mx y7 h2 h3 hOx hTx
        refine V_iload (q := 40) g dX4_simulate_38 rfl rfl ?_
        refine V_iload_n (q := 41) g dX4_simulate_40 rfl rfl ?_
        refine V_icmp_ge (q := 44) g dX4_simulate_41 (tgt := 75) (by decide) rfl (by omega) (by omega) (fun h41 => ?_) (fun h41 => absurd h41 (by omega))
        have hn : n = (i : Int) := by omega
        subst hn
        have hOo : Off Mx (s + 1) f := hO.oth hTx (by omega)
        refine V_aload_n (q := 76) g dX4_simulate_75 rfl rfl ?_
        refine V_getR (q := 79) g dX4_simulate_76 rfl f_X4_16 rfl hL.1 rfl ?_
        refine V_getRN (q := 82) g dX4_simulate_79 rfl f_X4_107 rfl hL.2.2.1.1 rfl ?_
        refine V_iconst (q := 83) g dX4_simulate_82 rfl ?_
        refine V_callSI_2 (q := 86) g (a_totals l hL.2.2.1 hOx (by omega)) dX4_simulate_83 k_X4_111 rfl rfl ⟨rfl, rfl⟩ rfl (fun z3 M3 e3 => ?_)
        obtain ⟨e3, rfl⟩ := e3
        rw [show (4 : Int) - 1 = 3 from rfl] at e3
        refine V_aload_n (q := 87) g dX4_simulate_86 rfl rfl ?_
        refine V_getR (q := 90) g dX4_simulate_87 rfl f_X4_10 rfl hL.1 rfl ?_
        refine V_getRN (q := 93) g dX4_simulate_90 rfl f_X4_107 rfl hL.2.1.1 rfl ?_
        refine V_iconst (q := 94) g dX4_simulate_93 rfl ?_
        refine V_callSI_2 (q := 97) g (a_totals l hL.2.1 hOo (by omega)) dX4_simulate_94 k_X4_111 rfl rfl ⟨rfl, rfl⟩ rfl (fun z4 M4 e4 => ?_)
        obtain ⟨e4, rfl⟩ := e4
        rw [show (4 : Int) - 1 = 3 from rfl] at e4
        refine V_isub (q := 98) g dX4_simulate_97 rfl ?_
        refine V_istore_6 (q := 100) g dX4_simulate_98 (by decide) rfl rfl ?_
        refine V_aload_n (q := 101) g dX4_simulate_100 rfl rfl ?_
        refine V_getR (q := 104) g dX4_simulate_101 rfl f_X4_16 rfl hL.1 rfl ?_
        refine V_getRN (q := 107) g dX4_simulate_104 rfl f_X4_107 rfl hL.2.2.1.1 rfl ?_
        refine V_iconst (q := 108) g dX4_simulate_107 rfl ?_
        refine V_callSI_2 (q := 111) g (a_totals l hL.2.2.1 hOx (by omega)) dX4_simulate_108 k_X4_111 rfl rfl ⟨rfl, rfl⟩ rfl (fun z5 M5 e5 => ?_)
        obtain ⟨e5, rfl⟩ := e5
        rw [show (5 : Int) - 1 = 4 from rfl] at e5
        refine V_aload_n (q := 112) g dX4_simulate_111 rfl rfl ?_
        refine V_getR (q := 115) g dX4_simulate_112 rfl f_X4_10 rfl hL.1 rfl ?_
        refine V_getRN (q := 118) g dX4_simulate_115 rfl f_X4_107 rfl hL.2.1.1 rfl ?_
        refine V_iconst (q := 119) g dX4_simulate_118 rfl ?_
        refine V_callSI_2 (q := 122) g (a_totals l hL.2.1 hOo (by omega)) dX4_simulate_119 k_X4_111 rfl rfl ⟨rfl, rfl⟩ rfl (fun z6 M6 e6 => ?_)
        obtain ⟨e6, rfl⟩ := e6
        rw [show (5 : Int) - 1 = 4 from rfl] at e6
        refine V_isub (q := 123) g dX4_simulate_122 rfl ?_
        refine V_istore_7 (q := 125) g dX4_simulate_123 (by decide) rfl rfl ?_
        refine V_sipush (q := 128) g dX4_simulate_125 (by decide) rfl ?_
        refine V_iload (q := 130) g dX4_simulate_128 rfl rfl ?_
        refine V_imul (q := 131) g dX4_simulate_130 rfl ?_
        refine V_bipush (q := 133) g dX4_simulate_131 (by decide) rfl ?_
        refine V_aload_n (q := 134) g dX4_simulate_133 rfl rfl ?_
        refine V_getR (q := 137) g dX4_simulate_134 rfl f_X4_16 rfl hL.1 rfl ?_
        refine V_callVI_0 (q := 140) g (c_X1_stampedChairs l hL.2.2.1 hOx (Inv_sim hI sd i)) dX4_simulate_137 k_X4_104 hL.2.2.1.1 rfl rfl rfl rfl ⟨rfl, rfl⟩ rfl (fun z7 M7 e7 => ?_)
        obtain ⟨⟨e7, b7⟩, rfl⟩ := e7
        refine V_imul (q := 141) g dX4_simulate_140 rfl ?_
        refine V_iadd (q := 142) g dX4_simulate_141 rfl ?_
        refine V_iload (q := 144) g dX4_simulate_142 rfl rfl ?_
        refine V_iadd (q := 145) g dX4_simulate_144 rfl ?_
        exact V_ireturnX g r rfl dX4_simulate_145 rfl ⟨by omega, (by
            have q : sSim f sd ((i : Int)).toNat = 10000 * (fSimN f sd i 3 - f 3) + 100 * sStamped (fSimN f sd i) + fSimN f sd i 4 - f 4 := rfl
            omega), hTx⟩
      | succ k9 ih =>
        intro i Mx y7 h2 h3 hOx hTx
        refine V_iload (q := 40) g dX4_simulate_38 rfl rfl ?_
        refine V_iload_n (q := 41) g dX4_simulate_40 rfl rfl ?_
        refine V_icmp_ge (q := 44) g dX4_simulate_41 (tgt := 75) (by decide) rfl (by omega) (by omega) (fun h41 => ?_) (fun h41 => ?_)
        · have hn : n = (i : Int) := by omega
          subst hn
          have hOo : Off Mx (s + 1) f := hO.oth hTx (by omega)
          refine V_aload_n (q := 76) g dX4_simulate_75 rfl rfl ?_
          refine V_getR (q := 79) g dX4_simulate_76 rfl f_X4_16 rfl hL.1 rfl ?_
          refine V_getRN (q := 82) g dX4_simulate_79 rfl f_X4_107 rfl hL.2.2.1.1 rfl ?_
          refine V_iconst (q := 83) g dX4_simulate_82 rfl ?_
          refine V_callSI_2 (q := 86) g (a_totals l hL.2.2.1 hOx (by omega)) dX4_simulate_83 k_X4_111 rfl rfl ⟨rfl, rfl⟩ rfl (fun z8 M8 e8 => ?_)
          obtain ⟨e8, rfl⟩ := e8
          rw [show (4 : Int) - 1 = 3 from rfl] at e8
          refine V_aload_n (q := 87) g dX4_simulate_86 rfl rfl ?_
          refine V_getR (q := 90) g dX4_simulate_87 rfl f_X4_10 rfl hL.1 rfl ?_
          refine V_getRN (q := 93) g dX4_simulate_90 rfl f_X4_107 rfl hL.2.1.1 rfl ?_
          refine V_iconst (q := 94) g dX4_simulate_93 rfl ?_
          refine V_callSI_2 (q := 97) g (a_totals l hL.2.1 hOo (by omega)) dX4_simulate_94 k_X4_111 rfl rfl ⟨rfl, rfl⟩ rfl (fun z9 M9 e9 => ?_)
          obtain ⟨e9, rfl⟩ := e9
          rw [show (4 : Int) - 1 = 3 from rfl] at e9
          refine V_isub (q := 98) g dX4_simulate_97 rfl ?_
          refine V_istore_6 (q := 100) g dX4_simulate_98 (by decide) rfl rfl ?_
          refine V_aload_n (q := 101) g dX4_simulate_100 rfl rfl ?_
          refine V_getR (q := 104) g dX4_simulate_101 rfl f_X4_16 rfl hL.1 rfl ?_
          refine V_getRN (q := 107) g dX4_simulate_104 rfl f_X4_107 rfl hL.2.2.1.1 rfl ?_
          refine V_iconst (q := 108) g dX4_simulate_107 rfl ?_
          refine V_callSI_2 (q := 111) g (a_totals l hL.2.2.1 hOx (by omega)) dX4_simulate_108 k_X4_111 rfl rfl ⟨rfl, rfl⟩ rfl (fun z10 M10 e10 => ?_)
          obtain ⟨e10, rfl⟩ := e10
          rw [show (5 : Int) - 1 = 4 from rfl] at e10
          refine V_aload_n (q := 112) g dX4_simulate_111 rfl rfl ?_
          refine V_getR (q := 115) g dX4_simulate_112 rfl f_X4_10 rfl hL.1 rfl ?_
          refine V_getRN (q := 118) g dX4_simulate_115 rfl f_X4_107 rfl hL.2.1.1 rfl ?_
          refine V_iconst (q := 119) g dX4_simulate_118 rfl ?_
          refine V_callSI_2 (q := 122) g (a_totals l hL.2.1 hOo (by omega)) dX4_simulate_119 k_X4_111 rfl rfl ⟨rfl, rfl⟩ rfl (fun z11 M11 e11 => ?_)
          obtain ⟨e11, rfl⟩ := e11
          rw [show (5 : Int) - 1 = 4 from rfl] at e11
          refine V_isub (q := 123) g dX4_simulate_122 rfl ?_
          refine V_istore_7 (q := 125) g dX4_simulate_123 (by decide) rfl rfl ?_
          refine V_sipush (q := 128) g dX4_simulate_125 (by decide) rfl ?_
          refine V_iload (q := 130) g dX4_simulate_128 rfl rfl ?_
          refine V_imul (q := 131) g dX4_simulate_130 rfl ?_
          refine V_bipush (q := 133) g dX4_simulate_131 (by decide) rfl ?_
          refine V_aload_n (q := 134) g dX4_simulate_133 rfl rfl ?_
          refine V_getR (q := 137) g dX4_simulate_134 rfl f_X4_16 rfl hL.1 rfl ?_
          refine V_callVI_0 (q := 140) g (c_X1_stampedChairs l hL.2.2.1 hOx (Inv_sim hI sd i)) dX4_simulate_137 k_X4_104 hL.2.2.1.1 rfl rfl rfl rfl ⟨rfl, rfl⟩ rfl (fun z12 M12 e12 => ?_)
          obtain ⟨⟨e12, b12⟩, rfl⟩ := e12
          refine V_imul (q := 141) g dX4_simulate_140 rfl ?_
          refine V_iadd (q := 142) g dX4_simulate_141 rfl ?_
          refine V_iload (q := 144) g dX4_simulate_142 rfl rfl ?_
          refine V_iadd (q := 145) g dX4_simulate_144 rfl ?_
          exact V_ireturnX g r rfl dX4_simulate_145 rfl ⟨by omega, (by
              have q : sSim f sd ((i : Int)).toNat = 10000 * (fSimN f sd i 3 - f 3) + 100 * sStamped (fSimN f sd i) + fSimN f sd i 4 - f 4 := rfl
              omega), hTx⟩
        · refine V_lload (q := 46) g dX4_simulate_44 rfl rfl ?_
          refine V_ldc2 (q := 49) g dX4_simulate_46 (z := 6364136223846793005) q_X4_262 (by decide) rfl ?_
          refine V_lmul (q := 50) g dX4_simulate_49 rfl ?_
          refine V_ldc2 (q := 53) g dX4_simulate_50 (z := 1442695040888963407) q_X4_264 (by decide) rfl ?_
          refine V_ladd (q := 54) g dX4_simulate_53 rfl ?_
          refine V_lstore_4 (q := 56) g dX4_simulate_54 (by decide) rfl rfl ?_
          refine V_aload_n (q := 57) g dX4_simulate_56 rfl rfl ?_
          refine V_getR (q := 60) g dX4_simulate_57 rfl f_X4_16 rfl hL.1 rfl ?_
          refine V_lload (q := 62) g dX4_simulate_60 rfl rfl ?_
          refine V_bipush (q := 64) g dX4_simulate_62 (by decide) rfl ?_
          refine V_lushr0 (q := 65) g dX4_simulate_64 rfl ?_
          have hr9 := sR_r (zN sd (i + 1))
          have hu : Value.long ((lI (zN sd i * 6364136223846793005 + 1442695040888963407)).toUInt64 >>> ((iI 33).toInt64.toUInt64 &&& Int64.toUInt64 63)).toInt64 = vl (sR (zN sd (i + 1))) := sU_l (zN sd (i + 1))
          rw [hu]
          refine V_l2i (q := 66) g dX4_simulate_65 rfl ?_
          refine V_callSV_2 (q := 69) g (c_X4_takeTurn l hL.2.2.1 hOx (Inv_sim hI sd i) hr9) dX4_simulate_66 k_X4_266 rfl rfl ⟨rfl, rfl⟩ rfl (fun M13 e13 => ?_)
          obtain ⟨hO9, hT9⟩ := e13
          refine V_iinc_6 (q := 72) g dX4_simulate_69 (by decide) rfl rfl ?_
          refine V_goto g dX4_simulate_72 (tgt := 38) (by decide) ?_
          exact ih (i + 1) _ _ (by omega) (by omega) hO9 (hTx.tr hT9)
    exact hloop n.toNat 0 _ _ (by omega) (by omega) hO2 hT2
  · exact V_throwSW g r hfl th_IA (List.mem_of_getElem? (i := 21) rfl) dX4_simulate_10 dX4_simulate_13 dX4_simulate_14 dX4_simulate_17 dX4_simulate_20 rfl (by first | exact ⟨by omega, rfl, rfl⟩ | exact Or.inl ⟨by omega, rfl, rfl⟩ | exact Or.inr ⟨by omega, by omega, rfl, rfl⟩ | exact Or.inr (Or.inl ⟨by omega, by omega, rfl, rfl⟩))
abbrev rm_X4_load : Room := { frames := 6, cells := 1, slots := 6, locals := 146 }
set_option maxHeartbeats 4000000 in
set_option maxRecDepth 100000 in
theorem c_X4_load (l : Launch) (hfl : l.stackTraces = false) {D : DD} {Λ : LY} {M : MM} {s : Nat} {t : Int → Int} {sz : Int} (hL : ClsL D Λ s) (hz : M (s + 214) 1 = sz) (ht : M (s + 214 + 1) = t) (hC : Txt t sz) : CXI l yX4_load cX4_load 3 .int rm_X4_load [.ref s] D Λ M (fun z M1 => (sErr t sz = -1) ∧ z = (sTxt t sz).2.2.1 ∧ Off M1 (s + 1) (sTxt t sz).2.2.2 ∧ Inv (sTxt t sz).2.2.2 ∧ LdW M M1 s) (fun E M1 => ¬ (sErr t sz = -1) ∧ E = xIS ∧ ∃ p c, Cx M M1 (s + 214) p c) := by
  refine CXI_of rfl rfl (Nat.le_of_ble_eq_true rfl) (fun Γ g r => ?_)
  have hC1 := hC.1
  refine V_aload_n (q := 1) g dX4_load_0 rfl rfl ?_
  refine V_getR (q := 4) g dX4_load_1 rfl f_X4_39 rfl hL.1 rfl ?_
  refine V_callVI_0 (q := 7) g (c_X2_firstError l hL.2.2.2.2.2.2.2.2 hz ht hC) dX4_load_4 k_X4_71 hL.2.2.2.2.2.2.2.2.1 rfl rfl rfl rfl ⟨rfl, rfl⟩ rfl (fun z1 M1 e1 => ?_)
  obtain ⟨e1, p1, c1, hT1⟩ := e1
  refine V_iconst (q := 8) g dX4_load_7 rfl ?_
  refine V_icmp_eq (q := 11) g dX4_load_8 (tgt := 21) (by decide) rfl (by rw [e1]; exact sErr_r hC) (by omega) (fun h8 => ?_) (fun h8 => ?_)
  · have hE : sErr t sz = -1 := by omega
    refine V_aload_n (q := 22) g dX4_load_21 rfl rfl ?_
    refine V_getR (q := 25) g dX4_load_22 rfl f_X4_10 rfl hL.1 rfl ?_
    refine V_callVV_0 (q := 28) g (c_X1_makeNew l hL.2.1) dX4_load_25 k_X4_76 hL.2.1.1 rfl rfl rfl rfl ⟨rfl, rfl⟩ rfl (fun M2 e2 => ?_)
    obtain ⟨hO2, hT2⟩ := e2
    refine V_aload_n (q := 29) g dX4_load_28 rfl rfl ?_
    refine V_getR (q := 32) g dX4_load_29 rfl f_X4_22 rfl hL.1 rfl ?_
    refine V_callVV_0 (q := 35) g (c_X0_forget l hL.2.2.2.1) dX4_load_32 k_X4_79 hL.2.2.2.1.1 rfl rfl rfl rfl ⟨rfl, rfl⟩ rfl (fun M3 e3 => ?_)
    obtain rfl := e3
    refine V_aload_n (q := 36) g dX4_load_35 rfl rfl ?_
    refine V_getR (q := 39) g dX4_load_36 rfl f_X4_29 rfl hL.1 rfl ?_
    refine V_iconst (q := 40) g dX4_load_39 rfl ?_
    refine V_putIN (q := 43) g dX4_load_40 rfl f_X4_82 tyX3_ok nmX3 rfl hL.2.2.2.2.1 rfl rfl (ty := .boolean) rfl (by decide) (by decide) (j := 1) rfl ?_
    refine V_aload_n (q := 44) g dX4_load_43 rfl rfl ?_
    refine V_getR (q := 47) g dX4_load_44 rfl f_X4_33 rfl hL.1 rfl ?_
    refine V_iconst (q := 48) g dX4_load_47 rfl ?_
    refine V_putIN (q := 51) g dX4_load_48 rfl f_X4_82 tyX3_ok nmX3 rfl hL.2.2.2.2.2.2.1 rfl rfl (ty := .boolean) rfl (by decide) (by decide) (j := 1) rfl ?_
    refine V_iconst (q := 52) g dX4_load_51 rfl ?_
    refine V_istore_n_1 (q := 53) g dX4_load_52 (by decide) rfl rfl ?_
    refine V_aload_n (q := 54) g dX4_load_53 rfl rfl ?_
    refine V_getR (q := 57) g dX4_load_54 rfl f_X4_39 rfl hL.1 rfl ?_
    refine V_callVV_0 (q := 60) g (c_X2_goToCommands l hL.2.2.2.2.2.2.2.2) dX4_load_57 k_X4_86 hL.2.2.2.2.2.2.2.2.1 rfl rfl rfl rfl ⟨rfl, rfl⟩ rfl (fun M4 e4 => ?_)
    obtain rfl := e4
    refine V_iconst (q := 61) g dX4_load_60 rfl ?_
    refine V_istore_n_2 (q := 62) g dX4_load_61 (by decide) rfl rfl ?_
    have hs1 : 1 ≤ sz := by
      unfold sErr at hE
      split at hE
      · exact absurd hE (by decide)
      · omega
    have hO5 : Off (wr (wr (wr (wr M2 (s + 23) 2 0) (s + 190) 1 0) (s + 202) 1 0) (s + 214) 2 1) (s + 1) fNew := hO2.eqv (fun b h1 h2 => by rw [wr_ne _ _ _ (by omega), wr_ne _ _ _ (by omega), wr_ne _ _ _ (by omega), wr_ne _ _ _ (by omega)])
    have hloop : ∀ (k9 : Nat) (i : Nat) (p o : Int) (fc : Int → Int) (Mx : MM), i + k9 = 120 → (1 ≤ p ∧ p ≤ sz) → Inv fc → sGo t sz 120 1 0 fNew = sGo t sz k9 p o fc → Off Mx (s + 1) fc → Mx (s + 214) 2 = p → LdW M Mx s → V Γ D Λ Mx (0, 0) 62 [some (.ref s), some (vi o), some (vi (i : Int))] [] := by
      intro k9
      induction k9 with
      | zero =>
        intro i p o fc Mx h2 h3 hIx h5 hOx hP hW
        refine V_iload_n (q := 63) g dX4_load_62 rfl rfl ?_
        refine V_bipush (q := 65) g dX4_load_63 (by decide) rfl ?_
        refine V_icmp_ge (q := 68) g dX4_load_65 (tgt := 94) (by decide) rfl (by omega) (by omega) (fun h65 => ?_) (fun h65 => absurd h65 (by omega))
        refine V_iload_n (q := 95) g dX4_load_94 rfl rfl ?_
        exact V_ireturnX g r rfl dX4_load_95 rfl (by
            have eg2 : sTxt t sz = (-1, p, o, fc) := h5
            exact ⟨hE, by rw [eg2], by rw [eg2]; exact hOx, by rw [eg2]; exact hIx, hW⟩)
      | succ k9 ih =>
        intro i p o fc Mx h2 h3 hIx h5 hOx hP hW
        refine V_iload_n (q := 63) g dX4_load_62 rfl rfl ?_
        refine V_bipush (q := 65) g dX4_load_63 (by decide) rfl ?_
        refine V_icmp_ge (q := 68) g dX4_load_65 (tgt := 94) (by decide) rfl (by omega) (by omega) (fun h65 => absurd h65 (by omega)) (fun h65 => ?_)
        refine V_aload_n (q := 69) g dX4_load_68 rfl rfl ?_
        refine V_getR (q := 72) g dX4_load_69 rfl f_X4_39 rfl hL.1 rfl ?_
        refine V_callVI_0 (q := 75) g (c_X2_readCommand l hL.2.2.2.2.2.2.2.2 (hW.2.2.2.1.trans hz) (hW.2.2.2.2.1.trans ht) hC hP (by omega)) dX4_load_72 k_X4_89 hL.2.2.2.2.2.2.2.2.1 rfl rfl rfl rfl ⟨rfl, rfl⟩ rfl (fun z5 M5 e5 => ?_)
        obtain e5 := e5
        refine V_if_eq (q := 78) g dX4_load_75 (tgt := 94) (by decide) rfl (by have := rc_z e5; omega) (fun h75 => ?_) (fun h75 => ?_)
        · have hend : ¬ p < sz ∧ Cx Mx M5 (s + 214) p (sCd t sz p) := by
            have hE2 : (sTxt t sz).1 = -1 := by
              unfold sErr at hE
              split at hE
              · exact absurd hE (by decide)
              · exact hE
            rcases e5 with ⟨q1, -, q2⟩ | ⟨r9, q1, q2, q3, ⟨q4, -, q5⟩ | ⟨-, q4, -⟩⟩
            · by_cases hp : p < sz
              · have eg := h5.trans (sGo_no hp (q1.resolve_left (fun q => q hp)))
                have eg2 : (sTxt t sz).1 = p := by unfold sTxt; rw [eg]
                exfalso; omega
              · exact ⟨hp, q2⟩
            · have eg := h5.trans (sGo_bad q1 q2 q4)
              have eg2 : (sTxt t sz).1 = (sXs t sz r9 (p + 1) 3).2 := by unfold sTxt; rw [eg]
              have hps := sXs_pos (t := t) (sz := sz) (r := r9) (p := p + 1) q3
              exfalso; omega
            · exfalso; omega
          refine V_iload_n (q := 95) g dX4_load_94 rfl rfl ?_
          exact V_ireturnX g r rfl dX4_load_95 rfl (by
              have eg := h5.trans (sGo_end hend.1)
              have eg2 : sTxt t sz = (-1, p, o, fc) := eg
              exact ⟨hE, by rw [eg2], by rw [eg2]; exact (hOx.eqv (fun b h1 h2 => hend.2.2.2.2 b (by omega) (by omega))), by rw [eg2]; exact hIx, hW.cx hend.2⟩)
        · obtain ⟨r9, hps, er, hr9, hq9⟩ := e5.resolve_left (fun q => h75 q.2.1)
          obtain ⟨hx, -, hT9, n0, n1, n2, n3⟩ := hq9.resolve_left (fun q => h75 q.2.1)
          have hrd := rdI hr9 hIx hx
          have hrg := sXs_rng hr9 hx
          have hOc : Off M5 (s + 1) fc := hOx.eqv (fun b h1 h2 => hT9.2.2.2 b (by omega) (by omega))
          have htp := hC.2 p (by omega) hps
          refine V_aload_n (q := 79) g dX4_load_78 rfl rfl ?_
          refine V_callVI_0 (q := 82) g (c_X4_doCommand l hL hOc hIx hT9.2.1 htp er n0 n1 n2 n3 hrg.1 hrg.2.1 hrg.2.2.1 hrg.2.2.2) dX4_load_79 k_X4_92 hL.1 rfl rfl rfl rfl ⟨rfl, rfl⟩ rfl (fun z6 M6 e6 => ?_)
          obtain e6 := e6
          refine V_if_ge (q := 85) g dX4_load_82 (tgt := 88) (by decide) rfl (by rcases e6 with ⟨-, q, -⟩ | ⟨-, q, -⟩ <;> omega) (fun h82 => ?_) (fun h82 => ?_)
          · obtain ⟨hok, -, hO9, hT8⟩ := e6.resolve_right (fun q => by have := q.2.1; omega)
            have hN9 := hrd.2 hok
            have h59 := h5.trans (sGo_do hps er hx hok)
            have hP9 : M6 (s + 214) 2 = (sXs t sz r9 (p + 1) 3).2 := by rw [hT8 _ (by omega)]; exact hT9.1
            have hW9 := (hW.cx hT9).act hT8
            refine V_iinc_2 (q := 91) g dX4_load_88 (by decide) rfl rfl ?_
            refine V_goto g dX4_load_91 (tgt := 62) (by decide) ?_
            exact ih (i + 1) _ _ _ _ (by omega) (by omega) hN9 h59 hO9 hP9 hW9
          · obtain ⟨hok, -, hM9⟩ := e6.resolve_left (fun q => by have := q.2.1; omega)
            subst hM9
            have hN9 := hIx
            have hO9 := hOc
            have h59 := h5.trans (sGo_skip hps er hx hok)
            have hP9 := hT9.1
            have hW9 := hW.cx hT9
            refine V_iinc_1 (q := 88) g dX4_load_85 (by decide) rfl rfl ?_
            refine V_iinc_2 (q := 91) g dX4_load_88 (by decide) rfl rfl ?_
            refine V_goto g dX4_load_91 (tgt := 62) (by decide) ?_
            exact ih (i + 1) _ _ _ _ (by omega) (by omega) hN9 h59 hO9 hP9 hW9
    exact hloop 120 0 1 0 fNew _ (by omega) (by omega) Inv_new rfl hO5 (wr_iv _ _ _ _) (LdW.new hT1 hT2)
  · exact V_throwS g r hfl th_IS (List.mem_of_getElem? (i := 3) rfl) dX4_load_11 dX4_load_14 dX4_load_15 dX4_load_17 dX4_load_20 rfl ⟨by omega, rfl, _, _, hT1⟩
