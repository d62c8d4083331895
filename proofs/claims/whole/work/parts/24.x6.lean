theorem sBsN_b {f : Int → Int} (hI : Inv f) {c : Int} (hc : 0 ≤ c ∧ c < f 0) : ∀ n : Nat, n ≤ 4 → 0 ≤ (sBsN f c n).2 ∧ (sBsN f c n).2 ≤ 850
  | 0, _ => ⟨Int.le_refl 0, by show (0 : Int) ≤ 850; decide⟩
  | n + 1, h => by
    have ih := sBsN_b hI hc n (by omega)
    have hw : 0 ≤ sWn f c := by have := @sAbs_r (sTilt f c (f (45 + 9 * c)) (f (46 + 9 * c))); unfold sWn sWob; omega
    rw [sBsN]
    split
    · rename_i hcd
      have hIc : Inv (sCut f c n) := by
        have hl := (hI.2.2.2.2.2.2 c hc.1 hc.2).2.2.2.2 n (by omega) (by omega)
        exact Inv_len hI hc.1 (by omega) (by omega)
      have hcc : 0 ≤ c ∧ c < sCut f c n 0 := by unfold sCut; rw [up_ne (by omega)]; exact hc
      exact sLn_r hIc hcc
    · exact ih
abbrev rm_X5_turned : Room := { frames := 6, cells := 0, slots := 0, locals := 131 }
set_option maxHeartbeats 4000000 in
set_option maxRecDepth 100000 in
theorem c_X5_turned (l : Launch) {D : DD} {Λ : LY} {M : MM} {m : Nat} {f : Int → Int} {c fl : Int} (hL : MdL D Λ m) (hO : M (m + 2) = f) (hI : Inv f) (hc : 0 ≤ c ∧ c < f 0) (hf : 0 ≤ fl ∧ fl < f 1) : CL l yX5_turned cX5_turned 8 rm_X5_turned [.ref m, vi c, vi fl] D Λ M (fun z M1 => (z = sKey f c fl (sBq f c fl) ∧ 0 ≤ z ∧ z ≤ 1700008503 ∧ z / 1000000 = sWq f c fl ∧ z % 10 = sBq f c fl) ∧ ∃ t, aset M (m + 3) t = M1) := by
  refine CL_of rfl rfl (Nat.le_of_ble_eq_true rfl) (fun Γ g r => ?_)
  have h0 := hI.1
  have h1 := hI.2.1
  refine V_aload_n (q := 1) g dX5_turned_0 rfl rfl ?_
  refine V_getR (q := 4) g dX5_turned_1 rfl f_X5_13 rfl hL.1 rfl ?_
  refine V_iconst (q := 5) g dX5_turned_4 rfl ?_
  refine V_aload_n (q := 6) g dX5_turned_5 rfl rfl ?_
  refine V_getR (q := 9) g dX5_turned_6 rfl f_X5_16 rfl hL.1 rfl ?_
  refine V_iconst (q := 10) g dX5_turned_9 rfl ?_
  refine V_callSV_4 (q := 13) g (b_cpy0 l hL.2.2.1 hL.2.2.2.1 hO (by omega)) dX5_turned_10 k_X5_192 rfl rfl ⟨rfl, rfl⟩ rfl (fun M1 e1 => ?_)
  obtain rfl := e1
  try simp only [aset_aset]
  refine V_lconst (q := 14) g dX5_turned_13 (z := 0) (by decide) rfl ?_
  refine V_lstore_n_3 (q := 15) g dX5_turned_14 (by decide) rfl rfl ?_
  refine V_iconst (q := 16) g dX5_turned_15 rfl ?_
  refine V_istore_5 (q := 18) g dX5_turned_16 (by decide) rfl rfl ?_
  have hloop : ∀ (k9 : Nat) (n : Nat) (y6 : Option Value), n ≤ 4 → 4 - n ≤ k9 → V Γ D Λ (aset M (m + 3) (fTurN f c fl n)) (0, 0) 18 [some (.ref m), some (vi c), some (vi fl), some (vl (sKb f c fl n)), none, some (vi (n : Int)), y6, none] [] := by
    intro k9
    induction k9 with
    | zero =>
      intro n y6 h2 h3
      have jn := turN hI hc hf n h2
      have j0 : 0 ≤ c ∧ c < fTurN f c fl n 0 := by rw [jn.2 0 (by decide) (by omega) (by omega) (by omega)]; exact hc
      have j1 : 0 ≤ fl ∧ fl < fTurN f c fl n 1 := by rw [jn.2 1 (by decide) (by omega) (by omega) (by omega)]; exact hf
      have jr := sBqN_r f c fl (n - 1)
      have jq := sKey_r hI hc (fl := fl) (q := sBqN f c fl (n - 1)) (by omega) (by omega)
      have jk : (n = 0 ∧ sKb f c fl n = 0) ∨ (1 ≤ n ∧ sKb f c fl n = sKey f c fl (sBqN f c fl (n - 1))) := by
        match n with
        | 0 => exact Or.inl ⟨rfl, rfl⟩
        | i + 1 => exact Or.inr ⟨by omega, rfl⟩
      refine V_iload (q := 20) g dX5_turned_18 rfl rfl ?_
      refine V_iconst (q := 21) g dX5_turned_20 rfl ?_
      refine V_icmp_ge (q := 24) g dX5_turned_21 (tgt := 85) (by decide) rfl (by omega) (by omega) (fun h21 => ?_) (fun h21 => absurd h21 (by omega))
      have hn : n = 4 := by omega
      subst hn
      refine V_lload_n (q := 86) g dX5_turned_85 rfl rfl ?_
      exact V_lreturn g r dX5_turned_86 ⟨⟨rfl, jq.1, by show sKey f c fl (sBqN f c fl 3) ≤ _; exact jq.2.1, jq.2.2.1, jq.2.2.2⟩, _, rfl⟩
    | succ k9 ih =>
      intro n y6 h2 h3
      have jn := turN hI hc hf n h2
      have j0 : 0 ≤ c ∧ c < fTurN f c fl n 0 := by rw [jn.2 0 (by decide) (by omega) (by omega) (by omega)]; exact hc
      have j1 : 0 ≤ fl ∧ fl < fTurN f c fl n 1 := by rw [jn.2 1 (by decide) (by omega) (by omega) (by omega)]; exact hf
      have jr := sBqN_r f c fl (n - 1)
      have jq := sKey_r hI hc (fl := fl) (q := sBqN f c fl (n - 1)) (by omega) (by omega)
      have jk : (n = 0 ∧ sKb f c fl n = 0) ∨ (1 ≤ n ∧ sKb f c fl n = sKey f c fl (sBqN f c fl (n - 1))) := by
        match n with
        | 0 => exact Or.inl ⟨rfl, rfl⟩
        | i + 1 => exact Or.inr ⟨by omega, rfl⟩
      refine V_iload (q := 20) g dX5_turned_18 rfl rfl ?_
      refine V_iconst (q := 21) g dX5_turned_20 rfl ?_
      refine V_icmp_ge (q := 24) g dX5_turned_21 (tgt := 85) (by decide) rfl (by omega) (by omega) (fun h21 => ?_) (fun h21 => ?_)
      · have hn : n = 4 := by omega
        subst hn
        refine V_lload_n (q := 86) g dX5_turned_85 rfl rfl ?_
        exact V_lreturn g r dX5_turned_86 ⟨⟨rfl, jq.1, by show sKey f c fl (sBqN f c fl 3) ≤ _; exact jq.2.1, jq.2.2.1, jq.2.2.2⟩, _, rfl⟩
      · refine V_ldc2 (q := 27) g dX5_turned_24 (z := 1000000) q_X5_227 (by decide) rfl ?_
        refine V_aload_n (q := 28) g dX5_turned_27 rfl rfl ?_
        refine V_getR (q := 31) g dX5_turned_28 rfl f_X5_16 rfl hL.1 rfl ?_
        refine V_iload_n (q := 32) g dX5_turned_31 rfl rfl ?_
        refine V_iload_n (q := 33) g dX5_turned_32 rfl rfl ?_
        refine V_iload (q := 35) g dX5_turned_33 rfl rfl ?_
        refine V_callSI_4 (q := 38) g (c_X5_bringOn l hL.2.2.2.1 (aset_at _ _ _) jn.1 j0 j1 (by omega)) dX5_turned_35 k_X5_152 rfl rfl ⟨rfl, rfl⟩ rfl (fun z2 M2 e2 => ?_)
        obtain ⟨⟨e2, b2⟩, rfl⟩ := e2
        try simp only [aset_aset]
        have jw := tur_wob hc.1 jn.2 (fl := fl) (q := n) (by omega) (by omega)
        have jz := sKey_r hI hc (fl := fl) (q := n) (by omega) (by omega)
        rw [jw.1] at e2
        refine V_i2l (q := 39) g dX5_turned_38 (by omega) rfl ?_
        refine V_lmul (q := 40) g dX5_turned_39 rfl ?_
        refine V_ldc2 (q := 43) g dX5_turned_40 (z := 10) q_X5_199 (by decide) rfl ?_
        refine V_aload_n (q := 44) g dX5_turned_43 rfl rfl ?_
        refine V_getR (q := 47) g dX5_turned_44 rfl f_X5_16 rfl hL.1 rfl ?_
        refine V_iload_n (q := 48) g dX5_turned_47 rfl rfl ?_
        refine V_callSI_2 (q := 51) g (c_X5_leanOf l hL.2.2.2.1 (aset_at _ _ _) (Inv_bring jn.1 hc.1 j1 (by omega)) (by rw [bring_at (by omega) (by omega) (by omega) (by omega)]; exact j0)) dX5_turned_48 k_X5_72 rfl rfl ⟨rfl, rfl⟩ rfl (fun z3 M3 e3 => ?_)
        obtain ⟨⟨e3, b3⟩, rfl⟩ := e3
        rw [bring_ln hc.1 (by omega) (by omega), jw.2] at e3
        refine V_i2l (q := 52) g dX5_turned_51 (by omega) rfl ?_
        refine V_lmul (q := 53) g dX5_turned_52 rfl ?_
        refine V_ladd (q := 54) g dX5_turned_53 rfl ?_
        refine V_iload (q := 56) g dX5_turned_54 rfl rfl ?_
        refine V_i2l (q := 57) g dX5_turned_56 (by omega) rfl ?_
        refine V_ladd (q := 58) g dX5_turned_57 rfl ?_
        have hk : 1000000 * z2 + 10 * z3 + (n : Int) = sKey f c fl n := by rw [e2, e3]; rfl
        rw [hk]
        refine V_lstore_6 (q := 60) g dX5_turned_58 (by decide) rfl rfl ?_
        refine V_iload (q := 62) g dX5_turned_60 rfl rfl ?_
        refine V_if_eq (q := 65) g dX5_turned_62 (tgt := 72) (by decide) rfl (by omega) (fun h62 => ?_) (fun h62 => ?_)
        · refine V_lload (q := 74) g dX5_turned_72 rfl rfl ?_
          refine V_goto g dX5_turned_74 (tgt := 78) (by decide) ?_
          refine V_lstore_n_3 (q := 79) g dX5_turned_78 (by decide) rfl rfl ?_
          refine V_iinc_5 (q := 82) g dX5_turned_79 (by decide) rfl rfl ?_
          refine V_goto g dX5_turned_82 (tgt := 18) (by decide) ?_
          have q9 := fun y6 => ih (n + 1) y6 (by omega) (by omega)
          have hx : sKey f c fl n = sKb f c fl (n + 1) := by
            match n, jk with
            | 0, _ => first | rfl | omega
            | i + 1, jk =>
              show _ = sKey f c fl (sBqN f c fl (i + 1))
              rw [sBqN]
              have jk3 : sKey f c fl ((i + 1 : Nat) : Int) = sKey f c fl ((i : Int) + 1) := rfl
              have jk2 : sKb f c fl (i + 1) = sKey f c fl (sBqN f c fl i) := rfl
              first
                | (rw [if_pos (by omega)]; first | rfl | omega)
                | (rw [if_neg (by omega)]; first | rfl | omega)
          rw [hx]
          exact q9 _
        · refine V_lload (q := 67) g dX5_turned_65 rfl rfl ?_
          refine V_lload_n (q := 68) g dX5_turned_67 rfl rfl ?_
          refine V_lcmpx (q := 69) g dX5_turned_68 rfl (by omega) (by omega) (fun x68 w68 => ?_)
          refine V_if_ge (q := 72) g dX5_turned_69 (tgt := 77) (by decide) rfl (by omega) (fun h69 => ?_) (fun h69 => ?_)
          · refine V_lload_n (q := 78) g dX5_turned_77 rfl rfl ?_
            refine V_lstore_n_3 (q := 79) g dX5_turned_78 (by decide) rfl rfl ?_
            refine V_iinc_5 (q := 82) g dX5_turned_79 (by decide) rfl rfl ?_
            refine V_goto g dX5_turned_82 (tgt := 18) (by decide) ?_
            have q9 := fun y6 => ih (n + 1) y6 (by omega) (by omega)
            have hx : sKb f c fl n = sKb f c fl (n + 1) := by
              match n, jk with
              | 0, _ => first | rfl | omega
              | i + 1, jk =>
                show _ = sKey f c fl (sBqN f c fl (i + 1))
                rw [sBqN]
                have jk3 : sKey f c fl ((i + 1 : Nat) : Int) = sKey f c fl ((i : Int) + 1) := rfl
                have jk2 : sKb f c fl (i + 1) = sKey f c fl (sBqN f c fl i) := rfl
                first
                  | (rw [if_pos (by omega)]; first | rfl | omega)
                  | (rw [if_neg (by omega)]; first | rfl | omega)
            rw [hx]
            exact q9 _
          · refine V_lload (q := 74) g dX5_turned_72 rfl rfl ?_
            refine V_goto g dX5_turned_74 (tgt := 78) (by decide) ?_
            refine V_lstore_n_3 (q := 79) g dX5_turned_78 (by decide) rfl rfl ?_
            refine V_iinc_5 (q := 82) g dX5_turned_79 (by decide) rfl rfl ?_
            refine V_goto g dX5_turned_82 (tgt := 18) (by decide) ?_
            have q9 := fun y6 => ih (n + 1) y6 (by omega) (by omega)
            have hx : sKey f c fl n = sKb f c fl (n + 1) := by
              match n, jk with
              | 0, _ => first | rfl | omega
              | i + 1, jk =>
                show _ = sKey f c fl (sBqN f c fl (i + 1))
                rw [sBqN]
                have jk3 : sKey f c fl ((i + 1 : Nat) : Int) = sKey f c fl ((i : Int) + 1) := rfl
                have jk2 : sKb f c fl (i + 1) = sKey f c fl (sBqN f c fl i) := rfl
                first
                  | (rw [if_pos (by omega)]; first | rfl | omega)
                  | (rw [if_neg (by omega)]; first | rfl | omega)
            rw [hx]
            exact q9 _
  exact hloop 4 0 _ (by omega) (by omega)
abbrev rm_X5_bestTurn : Room := { frames := 7, cells := 0, slots := 0, locals := 158 }
set_option maxHeartbeats 4000000 in
set_option maxRecDepth 100000 in
theorem c_X5_bestTurn (l : Launch) {D : DD} {Λ : LY} {M : MM} {m : Nat} {f : Int → Int} {c fl w : Int} (hL : MdL D Λ m) (hO : M (m + 2) = f) (hI : Inv f) (hr1 : inR c) (hr2 : inR fl) (hr3 : inR w) : CI l yX5_bestTurn cX5_bestTurn 6 .int rm_X5_bestTurn [.ref m, vi c, vi fl, vi w] D Λ M (fun z M1 => (¬ (((0 ≤ c ∧ c < f 0) ∧ (0 ≤ fl ∧ fl < f 1))) ∧ wr M m 0 1 = M1) ∨ (((0 ≤ c ∧ c < f 0) ∧ (0 ≤ fl ∧ fl < f 1)) ∧ ¬ ((0 ≤ w ∧ w ≤ 1)) ∧ wr M m 0 2 = M1) ∨ (((0 ≤ c ∧ c < f 0) ∧ (0 ≤ fl ∧ fl < f 1)) ∧ (0 ≤ w ∧ w ≤ 1) ∧ z = (if w = 0 then sBq f c fl else sWq f c fl) ∧ ∃ t, aset (wr M m 0 0) (m + 3) t = M1)) := by
  refine CI_of rfl rfl (Nat.le_of_ble_eq_true rfl) (fun Γ g r => ?_)
  have h0 := hI.1
  have h1 := hI.2.1
  refine V_aload_n (q := 1) g dX5_bestTurn_0 rfl rfl ?_
  refine V_aload_n (q := 2) g dX5_bestTurn_1 rfl rfl ?_
  refine V_getR (q := 5) g dX5_bestTurn_2 rfl f_X5_13 rfl hL.1 rfl ?_
  refine V_iload_n (q := 6) g dX5_bestTurn_5 rfl rfl ?_
  refine V_callSI_2 (q := 9) g (c_X5_isChair l hL.2.2.1 hO hI (by omega)) dX5_bestTurn_6 k_X5_96 rfl rfl ⟨rfl, rfl⟩ rfl (fun z1 M1 e1 => ?_)
  obtain ⟨e1, rfl⟩ := e1
  refine V_if_eq (q := 12) g dX5_bestTurn_9 (tgt := 23) (by decide) rfl (by omega) (fun h9 => ?_) (fun h9 => ?_)
  · refine V_iconst (q := 24) g dX5_bestTurn_23 rfl ?_
    refine V_goto g dX5_bestTurn_24 (tgt := 42) (by decide) ?_
    refine V_callVI_1 (q := 45) g (b_refn l hL (by decide)) dX5_bestTurn_42 k_X5_105 hL.1 rfl rfl rfl rfl ⟨rfl, rfl⟩ rfl (fun z2 M2 e2 => ?_)
    obtain ⟨rfl, rfl⟩ := e2
    refine V_if_eq (q := 48) g dX5_bestTurn_45 (tgt := 50) (by decide) rfl (by omega) (fun h45 => absurd h45 (by omega)) (fun h45 => ?_)
    refine V_iconst (q := 49) g dX5_bestTurn_48 rfl ?_
    exact V_ireturn g r dX5_bestTurn_49 rfl (Or.inl ⟨by omega, rfl⟩)
  · refine V_aload_n (q := 13) g dX5_bestTurn_12 rfl rfl ?_
    refine V_getR (q := 16) g dX5_bestTurn_13 rfl f_X5_13 rfl hL.1 rfl ?_
    refine V_iload_n (q := 17) g dX5_bestTurn_16 rfl rfl ?_
    refine V_callSI_2 (q := 20) g (c_X5_isFloor l hL.2.2.1 hO hI (by omega)) dX5_bestTurn_17 k_X5_149 rfl rfl ⟨rfl, rfl⟩ rfl (fun z3 M3 e3 => ?_)
    obtain ⟨e3, rfl⟩ := e3
    refine V_if_ne (q := 23) g dX5_bestTurn_20 (tgt := 27) (by decide) rfl (by omega) (fun h20 => ?_) (fun h20 => ?_)
    · refine V_iload_n (q := 28) g dX5_bestTurn_27 rfl rfl ?_
      refine V_i2l (q := 29) g dX5_bestTurn_28 (by omega) rfl ?_
      refine V_lconst (q := 30) g dX5_bestTurn_29 (z := 0) (by decide) rfl ?_
      refine V_lconst (q := 31) g dX5_bestTurn_30 (z := 1) (by decide) rfl ?_
      refine V_callSI_3 (q := 34) g (c_X5_in l (by omega) (by omega) (by omega)) dX5_bestTurn_31 k_X5_37 rfl rfl ⟨rfl, rfl⟩ rfl (fun z4 M4 e4 => ?_)
      obtain ⟨e4, rfl⟩ := e4
      refine V_if_eq (q := 37) g dX5_bestTurn_34 (tgt := 41) (by decide) rfl (by omega) (fun h34 => ?_) (fun h34 => ?_)
      · refine V_iconst (q := 42) g dX5_bestTurn_41 rfl ?_
        refine V_callVI_1 (q := 45) g (b_refn l hL (by decide)) dX5_bestTurn_42 k_X5_105 hL.1 rfl rfl rfl rfl ⟨rfl, rfl⟩ rfl (fun z5 M5 e5 => ?_)
        obtain ⟨rfl, rfl⟩ := e5
        refine V_if_eq (q := 48) g dX5_bestTurn_45 (tgt := 50) (by decide) rfl (by omega) (fun h45 => absurd h45 (by omega)) (fun h45 => ?_)
        refine V_iconst (q := 49) g dX5_bestTurn_48 rfl ?_
        exact V_ireturn g r dX5_bestTurn_49 rfl (Or.inr (Or.inl ⟨by omega, by omega, rfl⟩))
      · refine V_iconst (q := 38) g dX5_bestTurn_37 rfl ?_
        refine V_goto g dX5_bestTurn_38 (tgt := 42) (by decide) ?_
        refine V_callVI_1 (q := 45) g (b_ref0 l hL) dX5_bestTurn_42 k_X5_105 hL.1 rfl rfl rfl rfl ⟨rfl, rfl⟩ rfl (fun z6 M6 e6 => ?_)
        obtain ⟨rfl, rfl⟩ := e6
        have hP : wr M m 0 0 (m + 2) = f := wrO hO (by omega)
        refine V_if_eq (q := 48) g dX5_bestTurn_45 (tgt := 50) (by decide) rfl (by omega) (fun h45 => ?_) (fun h45 => absurd h45 (by omega))
        refine V_aload_n (q := 51) g dX5_bestTurn_50 rfl rfl ?_
        refine V_iload_n (q := 52) g dX5_bestTurn_51 rfl rfl ?_
        refine V_iload_n (q := 53) g dX5_bestTurn_52 rfl rfl ?_
        refine V_callVL_2 (q := 56) g (c_X5_turned l hL hP hI (by omega) (by omega)) dX5_bestTurn_53 k_X5_229 hL.1 rfl rfl rfl rfl ⟨rfl, rfl⟩ rfl (fun z7 M7 e7 => ?_)
        obtain ⟨⟨e7, b7⟩, t7, rfl⟩ := e7
        refine V_lstore_4 (q := 58) g dX5_bestTurn_56 (by decide) rfl rfl ?_
        refine V_iload_n (q := 59) g dX5_bestTurn_58 rfl rfl ?_
        refine V_if_ne (q := 62) g dX5_bestTurn_59 (tgt := 72) (by decide) rfl (by omega) (fun h59 => ?_) (fun h59 => ?_)
        · refine V_lload (q := 74) g dX5_bestTurn_72 rfl rfl ?_
          refine V_ldc2 (q := 77) g dX5_bestTurn_74 (z := 1000000) q_X5_227 (by decide) rfl ?_
          refine V_ldiv (q := 78) g dX5_bestTurn_77 (by omega) (by omega) rfl ?_
          refine V_l2i (q := 79) g dX5_bestTurn_78 rfl ?_
          exact V_ireturn g r dX5_bestTurn_79 rfl (Or.inr (Or.inr ⟨by omega, by omega, (by first | (rw [if_pos (by omega)]; omega) | (rw [if_neg (by omega)]; omega)), ⟨_, rfl⟩⟩))
        · refine V_lload (q := 64) g dX5_bestTurn_62 rfl rfl ?_
          refine V_ldc2 (q := 67) g dX5_bestTurn_64 (z := 10) q_X5_199 (by decide) rfl ?_
          refine V_lrem (q := 68) g dX5_bestTurn_67 (by omega) (by omega) rfl ?_
          refine V_l2i (q := 69) g dX5_bestTurn_68 rfl ?_
          refine V_goto g dX5_bestTurn_69 (tgt := 79) (by decide) ?_
          exact V_ireturn g r dX5_bestTurn_79 rfl (Or.inr (Or.inr ⟨by omega, by omega, (by first | (rw [if_pos (by omega)]; omega) | (rw [if_neg (by omega)]; omega)), ⟨_, rfl⟩⟩))
    · refine V_iconst (q := 24) g dX5_bestTurn_23 rfl ?_
      refine V_goto g dX5_bestTurn_24 (tgt := 42) (by decide) ?_
      refine V_callVI_1 (q := 45) g (b_refn l hL (by decide)) dX5_bestTurn_42 k_X5_105 hL.1 rfl rfl rfl rfl ⟨rfl, rfl⟩ rfl (fun z8 M8 e8 => ?_)
      obtain ⟨rfl, rfl⟩ := e8
      refine V_if_eq (q := 48) g dX5_bestTurn_45 (tgt := 50) (by decide) rfl (by omega) (fun h45 => absurd h45 (by omega)) (fun h45 => ?_)
      refine V_iconst (q := 49) g dX5_bestTurn_48 rfl ?_
      exact V_ireturn g r dX5_bestTurn_49 rfl (Or.inl ⟨by omega, rfl⟩)
abbrev rm_X5_bestFloor : Room := { frames := 7, cells := 0, slots := 0, locals := 158 }
set_option maxHeartbeats 4000000 in
set_option maxRecDepth 100000 in
theorem c_X5_bestFloor (l : Launch) {D : DD} {Λ : LY} {M : MM} {m : Nat} {f : Int → Int} {c : Int} (hL : MdL D Λ m) (hO : M (m + 2) = f) (hI : Inv f) (hr1 : inR c) : CI l yX5_bestFloor cX5_bestFloor 4 .int rm_X5_bestFloor [.ref m, vi c] D Λ M (fun z M1 => (¬ ((0 ≤ c ∧ c < f 0)) ∧ wr M m 0 1 = M1) ∨ ((0 ≤ c ∧ c < f 0) ∧ z = sBf f c ∧ ∃ t, aset (wr M m 0 0) (m + 3) t = M1)) := by
  refine CI_of rfl rfl (Nat.le_of_ble_eq_true rfl) (fun Γ g r => ?_)
  have h0 := hI.1
  have h1 := hI.2.1
  refine V_aload_n (q := 1) g dX5_bestFloor_0 rfl rfl ?_
  refine V_aload_n (q := 2) g dX5_bestFloor_1 rfl rfl ?_
  refine V_getR (q := 5) g dX5_bestFloor_2 rfl f_X5_13 rfl hL.1 rfl ?_
  refine V_iload_n (q := 6) g dX5_bestFloor_5 rfl rfl ?_
  refine V_callSI_2 (q := 9) g (c_X5_isChair l hL.2.2.1 hO hI (by omega)) dX5_bestFloor_6 k_X5_96 rfl rfl ⟨rfl, rfl⟩ rfl (fun z1 M1 e1 => ?_)
  obtain ⟨e1, rfl⟩ := e1
  refine V_if_eq (q := 12) g dX5_bestFloor_9 (tgt := 16) (by decide) rfl (by omega) (fun h9 => ?_) (fun h9 => ?_)
  · refine V_iconst (q := 17) g dX5_bestFloor_16 rfl ?_
    refine V_callVI_1 (q := 20) g (b_refn l hL (by decide)) dX5_bestFloor_17 k_X5_105 hL.1 rfl rfl rfl rfl ⟨rfl, rfl⟩ rfl (fun z2 M2 e2 => ?_)
    obtain ⟨rfl, rfl⟩ := e2
    refine V_if_eq (q := 23) g dX5_bestFloor_20 (tgt := 25) (by decide) rfl (by omega) (fun h20 => absurd h20 (by omega)) (fun h20 => ?_)
    refine V_iconst (q := 24) g dX5_bestFloor_23 rfl ?_
    exact V_ireturn g r dX5_bestFloor_24 rfl (Or.inl ⟨by omega, rfl⟩)
  · refine V_iconst (q := 13) g dX5_bestFloor_12 rfl ?_
    refine V_goto g dX5_bestFloor_13 (tgt := 17) (by decide) ?_
    refine V_callVI_1 (q := 20) g (b_ref0 l hL) dX5_bestFloor_17 k_X5_105 hL.1 rfl rfl rfl rfl ⟨rfl, rfl⟩ rfl (fun z3 M3 e3 => ?_)
    obtain ⟨rfl, rfl⟩ := e3
    have hP : wr M m 0 0 (m + 2) = f := wrO hO (by omega)
    refine V_if_eq (q := 23) g dX5_bestFloor_20 (tgt := 25) (by decide) rfl (by omega) (fun h20 => ?_) (fun h20 => absurd h20 (by omega))
    refine V_iconst (q := 26) g dX5_bestFloor_25 rfl ?_
    refine V_istore_n_2 (q := 27) g dX5_bestFloor_26 (by decide) rfl rfl ?_
    refine V_iconst (q := 28) g dX5_bestFloor_27 rfl ?_
    refine V_istore_n_3 (q := 29) g dX5_bestFloor_28 (by decide) rfl rfl ?_
    have hloop : ∀ (k9 : Nat) (n : Nat) (t : Int → Int), (n : Int) + 1 ≤ f 1 → f 1 - 1 - n ≤ k9 → V Γ D Λ (aset (wr M m 0 0) (m + 3) t) (0, 0) 29 [some (.ref m), some (vi c), some (vi (sBfN f c n)), some (vi ((n : Int) + 1))] [] := by
      intro k9
      induction k9 with
      | zero =>
        intro n t h2 h3
        have jr := sBfN_r f c n
        refine V_iload_n (q := 30) g dX5_bestFloor_29 rfl rfl ?_
        refine V_aload_n (q := 31) g dX5_bestFloor_30 rfl rfl ?_
        refine V_getR (q := 34) g dX5_bestFloor_31 rfl f_X5_13 rfl hL.1 rfl ?_
        refine V_iconst (q := 35) g dX5_bestFloor_34 rfl ?_
        refine V_iaload (q := 36) g dX5_bestFloor_35 rfl hL.2.2.1 (by omega) (by decide) ?_
        rw [(asetO hP (by omega))]
        refine V_icmp_ge (q := 39) g dX5_bestFloor_36 (tgt := 75) (by decide) rfl (by omega) (by omega) (fun h36 => ?_) (fun h36 => absurd h36 (by omega))
        have hn : n = (f 1 - 1).toNat := by omega
        subst hn
        refine V_iload_n (q := 76) g dX5_bestFloor_75 rfl rfl ?_
        exact V_ireturn g r dX5_bestFloor_76 rfl (Or.inr ⟨by omega, rfl, ⟨_, rfl⟩⟩)
      | succ k9 ih =>
        intro n t h2 h3
        have jr := sBfN_r f c n
        refine V_iload_n (q := 30) g dX5_bestFloor_29 rfl rfl ?_
        refine V_aload_n (q := 31) g dX5_bestFloor_30 rfl rfl ?_
        refine V_getR (q := 34) g dX5_bestFloor_31 rfl f_X5_13 rfl hL.1 rfl ?_
        refine V_iconst (q := 35) g dX5_bestFloor_34 rfl ?_
        refine V_iaload (q := 36) g dX5_bestFloor_35 rfl hL.2.2.1 (by omega) (by decide) ?_
        rw [(asetO hP (by omega))]
        refine V_icmp_ge (q := 39) g dX5_bestFloor_36 (tgt := 75) (by decide) rfl (by omega) (by omega) (fun h36 => ?_) (fun h36 => ?_)
        · have hn : n = (f 1 - 1).toNat := by omega
          subst hn
          refine V_iload_n (q := 76) g dX5_bestFloor_75 rfl rfl ?_
          exact V_ireturn g r dX5_bestFloor_76 rfl (Or.inr ⟨by omega, rfl, ⟨_, rfl⟩⟩)
        · refine V_aload_n (q := 40) g dX5_bestFloor_39 rfl rfl ?_
          refine V_iload_n (q := 41) g dX5_bestFloor_40 rfl rfl ?_
          refine V_iload_n (q := 42) g dX5_bestFloor_41 rfl rfl ?_
          refine V_callVL_2 (q := 45) g (c_X5_turned l hL (asetO hP (by omega)) hI (by omega) (by omega)) dX5_bestFloor_42 k_X5_229 hL.1 rfl rfl rfl rfl ⟨rfl, rfl⟩ rfl (fun z4 M4 e4 => ?_)
          obtain ⟨⟨e4, b4⟩, t4, rfl⟩ := e4
          try simp only [aset_aset]
          refine V_ldc2 (q := 48) g dX5_bestFloor_45 (z := 1000000) q_X5_227 (by decide) rfl ?_
          refine V_ldiv (q := 49) g dX5_bestFloor_48 (by omega) (by omega) rfl ?_
          refine V_aload_n (q := 50) g dX5_bestFloor_49 rfl rfl ?_
          refine V_iload_n (q := 51) g dX5_bestFloor_50 rfl rfl ?_
          refine V_iload_n (q := 52) g dX5_bestFloor_51 rfl rfl ?_
          refine V_callVL_2 (q := 55) g (c_X5_turned l hL (asetO hP (by omega)) hI (by omega) (by omega)) dX5_bestFloor_52 k_X5_229 hL.1 rfl rfl rfl rfl ⟨rfl, rfl⟩ rfl (fun z5 M5 e5 => ?_)
          obtain ⟨⟨e5, b5⟩, t5, rfl⟩ := e5
          try simp only [aset_aset]
          refine V_ldc2 (q := 58) g dX5_bestFloor_55 (z := 1000000) q_X5_227 (by decide) rfl ?_
          refine V_ldiv (q := 59) g dX5_bestFloor_58 (by omega) (by omega) rfl ?_
          refine V_lcmpx (q := 60) g dX5_bestFloor_59 rfl (by omega) (by omega) (fun x59 w59 => ?_)
          refine V_if_ge (q := 63) g dX5_bestFloor_60 (tgt := 67) (by decide) rfl (by omega) (fun h60 => ?_) (fun h60 => ?_)
          · refine V_iload_n (q := 68) g dX5_bestFloor_67 rfl rfl ?_
            refine V_istore_n_2 (q := 69) g dX5_bestFloor_68 (by decide) rfl rfl ?_
            refine V_iinc_3 (q := 72) g dX5_bestFloor_69 (by decide) rfl rfl ?_
            refine V_goto g dX5_bestFloor_72 (tgt := 29) (by decide) ?_
            have q9 := fun t => ih (n + 1) t (by omega) (by omega)
            rw [sBfN] at q9
            first
              | (rw [if_pos (by omega)] at q9; exact q9 _)
              | (rw [if_neg (by omega)] at q9; exact q9 _)
          · refine V_iload_n (q := 64) g dX5_bestFloor_63 rfl rfl ?_
            refine V_goto g dX5_bestFloor_64 (tgt := 68) (by decide) ?_
            refine V_istore_n_2 (q := 69) g dX5_bestFloor_68 (by decide) rfl rfl ?_
            refine V_iinc_3 (q := 72) g dX5_bestFloor_69 (by decide) rfl rfl ?_
            refine V_goto g dX5_bestFloor_72 (tgt := 29) (by decide) ?_
            have q9 := fun t => ih (n + 1) t (by omega) (by omega)
            rw [sBfN] at q9
            first
              | (rw [if_pos (by omega)] at q9; exact q9 _)
              | (rw [if_neg (by omega)] at q9; exact q9 _)
    rw [← aset_self (wr M m 0 0) (m + 3)]
    exact hloop (f 1 - 1).toNat 0 _ (by omega) (by omega)
abbrev rm_X5_failsIn : Room := { frames := 6, cells := 0, slots := 0, locals := 138 }
set_option maxHeartbeats 4000000 in
set_option maxRecDepth 100000 in
theorem c_X5_failsIn (l : Launch) {D : DD} {Λ : LY} {M : MM} {m : Nat} {f : Int → Int} {c wt : Int} (hL : MdL D Λ m) (hO : M (m + 2) = f) (hI : Inv f) (hr1 : inR c) (hr2 : inR wt) : CI l yX5_failsIn cX5_failsIn 4 .int rm_X5_failsIn [.ref m, vi c, vi wt] D Λ M (fun z M1 => (¬ ((0 ≤ c ∧ c < f 0)) ∧ wr M m 0 1 = M1) ∨ ((0 ≤ c ∧ c < f 0) ∧ ¬ ((1 ≤ wt ∧ wt ≤ 200)) ∧ wr M m 0 2 = M1) ∨ ((0 ≤ c ∧ c < f 0) ∧ (1 ≤ wt ∧ wt ≤ 200) ∧ z = sFail f c wt ∧ ∃ t, aset (wr M m 0 0) (m + 3) t = M1)) := by
  refine CI_of rfl rfl (Nat.le_of_ble_eq_true rfl) (fun Γ g r => ?_)
  have h0 := hI.1
  have h1 := hI.2.1
  refine V_aload_n (q := 1) g dX5_failsIn_0 rfl rfl ?_
  refine V_aload_n (q := 2) g dX5_failsIn_1 rfl rfl ?_
  refine V_getR (q := 5) g dX5_failsIn_2 rfl f_X5_13 rfl hL.1 rfl ?_
  refine V_iload_n (q := 6) g dX5_failsIn_5 rfl rfl ?_
  refine V_callSI_2 (q := 9) g (c_X5_isChair l hL.2.2.1 hO hI (by omega)) dX5_failsIn_6 k_X5_96 rfl rfl ⟨rfl, rfl⟩ rfl (fun z1 M1 e1 => ?_)
  obtain ⟨e1, rfl⟩ := e1
  refine V_if_ne (q := 12) g dX5_failsIn_9 (tgt := 16) (by decide) rfl (by omega) (fun h9 => ?_) (fun h9 => ?_)
  · refine V_iload_n (q := 17) g dX5_failsIn_16 rfl rfl ?_
    refine V_i2l (q := 18) g dX5_failsIn_17 (by omega) rfl ?_
    refine V_lconst (q := 19) g dX5_failsIn_18 (z := 1) (by decide) rfl ?_
    refine V_ldc2 (q := 22) g dX5_failsIn_19 (z := 200) q_X5_47 (by decide) rfl ?_
    refine V_callSI_3 (q := 25) g (c_X5_in l (by omega) (by omega) (by omega)) dX5_failsIn_22 k_X5_37 rfl rfl ⟨rfl, rfl⟩ rfl (fun z2 M2 e2 => ?_)
    obtain ⟨e2, rfl⟩ := e2
    refine V_if_eq (q := 28) g dX5_failsIn_25 (tgt := 32) (by decide) rfl (by omega) (fun h25 => ?_) (fun h25 => ?_)
    · refine V_iconst (q := 33) g dX5_failsIn_32 rfl ?_
      refine V_callVI_1 (q := 36) g (b_refn l hL (by decide)) dX5_failsIn_33 k_X5_105 hL.1 rfl rfl rfl rfl ⟨rfl, rfl⟩ rfl (fun z3 M3 e3 => ?_)
      obtain ⟨rfl, rfl⟩ := e3
      refine V_if_eq (q := 39) g dX5_failsIn_36 (tgt := 41) (by decide) rfl (by omega) (fun h36 => absurd h36 (by omega)) (fun h36 => ?_)
      refine V_iconst (q := 40) g dX5_failsIn_39 rfl ?_
      exact V_ireturn g r dX5_failsIn_40 rfl (Or.inr (Or.inl ⟨by omega, by omega, rfl⟩))
    · refine V_iconst (q := 29) g dX5_failsIn_28 rfl ?_
      refine V_goto g dX5_failsIn_29 (tgt := 33) (by decide) ?_
      refine V_callVI_1 (q := 36) g (b_ref0 l hL) dX5_failsIn_33 k_X5_105 hL.1 rfl rfl rfl rfl ⟨rfl, rfl⟩ rfl (fun z4 M4 e4 => ?_)
      obtain ⟨rfl, rfl⟩ := e4
      have hP : wr M m 0 0 (m + 2) = f := wrO hO (by omega)
      refine V_if_eq (q := 39) g dX5_failsIn_36 (tgt := 41) (by decide) rfl (by omega) (fun h36 => ?_) (fun h36 => absurd h36 (by omega))
      refine V_aload_n (q := 42) g dX5_failsIn_41 rfl rfl ?_
      refine V_getR (q := 45) g dX5_failsIn_42 rfl f_X5_13 rfl hL.1 rfl ?_
      refine V_iconst (q := 46) g dX5_failsIn_45 rfl ?_
      refine V_aload_n (q := 47) g dX5_failsIn_46 rfl rfl ?_
      refine V_getR (q := 50) g dX5_failsIn_47 rfl f_X5_16 rfl hL.1 rfl ?_
      refine V_iconst (q := 51) g dX5_failsIn_50 rfl ?_
      refine V_callSV_4 (q := 54) g (b_cpy0 l hL.2.2.1 hL.2.2.2.1 hP (by omega)) dX5_failsIn_51 k_X5_192 rfl rfl ⟨rfl, rfl⟩ rfl (fun M5 e5 => ?_)
      obtain rfl := e5
      try simp only [aset_aset]
      refine V_iconst (q := 55) g dX5_failsIn_54 rfl ?_
      refine V_istore_n_3 (q := 56) g dX5_failsIn_55 (by decide) rfl rfl ?_
      have hloop : ∀ (k9 : Nat) (n : Nat), n + k9 = 101 → sFl f c wt 101 0 = sFl f c wt k9 n → V Γ D Λ (aset (wr M m 0 0) (m + 3) (fSitI f c wt n)) (0, 0) 56 [some (.ref m), some (vi c), some (vi wt), some (vi (n : Int))] [] := by
        intro k9
        induction k9 with
        | zero =>
          intro n h2 h3
          have jn := fSitI_r hI (c := c) (by omega) (wt := wt) (by omega) n
          have jc : 0 ≤ c ∧ c < fSitI f c wt n 0 := by rw [jn.2]; omega
          refine V_iload_n (q := 57) g dX5_failsIn_56 rfl rfl ?_
          refine V_bipush (q := 59) g dX5_failsIn_57 (by decide) rfl ?_
          refine V_icmp_gt (q := 62) g dX5_failsIn_59 (tgt := 91) (by decide) rfl (by omega) (by omega) (fun h59 => ?_) (fun h59 => absurd h59 (by omega))
          refine V_iconst (q := 92) g dX5_failsIn_91 rfl ?_
          exact V_ireturn g r dX5_failsIn_92 rfl (Or.inr (Or.inr ⟨by omega, by omega, (by unfold sFail; rw [h3]; rfl), ⟨_, rfl⟩⟩))
        | succ k9 ih =>
          intro n h2 h3
          have jn := fSitI_r hI (c := c) (by omega) (wt := wt) (by omega) n
          have jc : 0 ≤ c ∧ c < fSitI f c wt n 0 := by rw [jn.2]; omega
          refine V_iload_n (q := 57) g dX5_failsIn_56 rfl rfl ?_
          refine V_bipush (q := 59) g dX5_failsIn_57 (by decide) rfl ?_
          refine V_icmp_gt (q := 62) g dX5_failsIn_59 (tgt := 91) (by decide) rfl (by omega) (by omega) (fun h59 => absurd h59 (by omega)) (fun h59 => ?_)
          refine V_aload_n (q := 63) g dX5_failsIn_62 rfl rfl ?_
          refine V_getR (q := 66) g dX5_failsIn_63 rfl f_X5_16 rfl hL.1 rfl ?_
          refine V_iload_n (q := 67) g dX5_failsIn_66 rfl rfl ?_
          refine V_callSI_2 (q := 70) g (c_X5_reason l hL.2.2.2.1 (aset_at _ _ _) jn.1 jc) dX5_failsIn_67 k_X5_90 rfl rfl ⟨rfl, rfl⟩ rfl (fun z6 M6 e6 => ?_)
          obtain ⟨⟨e6, b6⟩, rfl⟩ := e6
          refine V_if_le (q := 73) g dX5_failsIn_70 (tgt := 75) (by decide) rfl (by omega) (fun h70 => ?_) (fun h70 => ?_)
          · refine V_aload_n (q := 76) g dX5_failsIn_75 rfl rfl ?_
            refine V_getR (q := 79) g dX5_failsIn_76 rfl f_X5_16 rfl hL.1 rfl ?_
            refine V_iload_n (q := 80) g dX5_failsIn_79 rfl rfl ?_
            refine V_iload_n (q := 81) g dX5_failsIn_80 rfl rfl ?_
            refine V_callSI_3 (q := 84) g (c_X5_sitOn l hL.2.2.2.1 (aset_at _ _ _) jn.1 jc (by omega)) dX5_failsIn_81 k_X5_179 rfl rfl ⟨rfl, rfl⟩ rfl (fun z7 M7 e7 => ?_)
            obtain ⟨⟨e7, b7⟩, rfl⟩ := e7
            try simp only [aset_aset]
            try simp only [aset_aset]
            refine V_pop (q := 85) g dX5_failsIn_84 rfl rfl ?_
            refine V_iinc_3 (q := 88) g dX5_failsIn_85 (by decide) rfl rfl ?_
            refine V_goto g dX5_failsIn_88 (tgt := 56) (by decide) ?_
            exact ih (n + 1) (by omega) (by rw [h3, sFl, if_neg (by omega)])
          · refine V_iload_n (q := 74) g dX5_failsIn_73 rfl rfl ?_
            exact V_ireturn g r dX5_failsIn_74 rfl (Or.inr (Or.inr ⟨by omega, by omega, (by unfold sFail; rw [h3, sFl, if_pos (by omega)]), ⟨_, rfl⟩⟩))
      exact hloop 101 0 (by omega) rfl
  · refine V_iconst (q := 13) g dX5_failsIn_12 rfl ?_
    refine V_goto g dX5_failsIn_13 (tgt := 33) (by decide) ?_
    refine V_callVI_1 (q := 36) g (b_refn l hL (by decide)) dX5_failsIn_33 k_X5_105 hL.1 rfl rfl rfl rfl ⟨rfl, rfl⟩ rfl (fun z8 M8 e8 => ?_)
    obtain ⟨rfl, rfl⟩ := e8
    refine V_if_eq (q := 39) g dX5_failsIn_36 (tgt := 41) (by decide) rfl (by omega) (fun h36 => absurd h36 (by omega)) (fun h36 => ?_)
    refine V_iconst (q := 40) g dX5_failsIn_39 rfl ?_
    exact V_ireturn g r dX5_failsIn_40 rfl (Or.inl ⟨by omega, rfl⟩)
abbrev rm_X5_bestSaw : Room := { frames := 5, cells := 0, slots := 0, locals := 108 }
set_option maxHeartbeats 4000000 in
set_option maxRecDepth 100000 in
theorem c_X5_bestSaw (l : Launch) {D : DD} {Λ : LY} {M : MM} {m : Nat} {f : Int → Int} {c : Int} (hL : MdL D Λ m) (hO : M (m + 2) = f) (hI : Inv f) (hr1 : inR c) : CI l yX5_bestSaw cX5_bestSaw 7 .int rm_X5_bestSaw [.ref m, vi c] D Λ M (fun z M1 => (¬ ((0 ≤ c ∧ c < f 0)) ∧ wr M m 0 1 = M1) ∨ ((0 ≤ c ∧ c < f 0) ∧ z = sBs f c ∧ ∃ t, aset (wr M m 0 0) (m + 3) t = M1)) := by
  refine CI_of rfl rfl (Nat.le_of_ble_eq_true rfl) (fun Γ g r => ?_)
  have h0 := hI.1
  have h1 := hI.2.1
  refine V_aload_n (q := 1) g dX5_bestSaw_0 rfl rfl ?_
  refine V_aload_n (q := 2) g dX5_bestSaw_1 rfl rfl ?_
  refine V_getR (q := 5) g dX5_bestSaw_2 rfl f_X5_13 rfl hL.1 rfl ?_
  refine V_iload_n (q := 6) g dX5_bestSaw_5 rfl rfl ?_
  refine V_callSI_2 (q := 9) g (c_X5_isChair l hL.2.2.1 hO hI (by omega)) dX5_bestSaw_6 k_X5_96 rfl rfl ⟨rfl, rfl⟩ rfl (fun z1 M1 e1 => ?_)
  obtain ⟨e1, rfl⟩ := e1
  refine V_if_eq (q := 12) g dX5_bestSaw_9 (tgt := 16) (by decide) rfl (by omega) (fun h9 => ?_) (fun h9 => ?_)
  · refine V_iconst (q := 17) g dX5_bestSaw_16 rfl ?_
    refine V_callVI_1 (q := 20) g (b_refn l hL (by decide)) dX5_bestSaw_17 k_X5_105 hL.1 rfl rfl rfl rfl ⟨rfl, rfl⟩ rfl (fun z2 M2 e2 => ?_)
    obtain ⟨rfl, rfl⟩ := e2
    refine V_if_eq (q := 23) g dX5_bestSaw_20 (tgt := 25) (by decide) rfl (by omega) (fun h20 => absurd h20 (by omega)) (fun h20 => ?_)
    refine V_iconst (q := 24) g dX5_bestSaw_23 rfl ?_
    exact V_ireturn g r dX5_bestSaw_24 rfl (Or.inl ⟨by omega, rfl⟩)
  · refine V_iconst (q := 13) g dX5_bestSaw_12 rfl ?_
    refine V_goto g dX5_bestSaw_13 (tgt := 17) (by decide) ?_
    refine V_callVI_1 (q := 20) g (b_ref0 l hL) dX5_bestSaw_17 k_X5_105 hL.1 rfl rfl rfl rfl ⟨rfl, rfl⟩ rfl (fun z3 M3 e3 => ?_)
    obtain ⟨rfl, rfl⟩ := e3
    have hP : wr M m 0 0 (m + 2) = f := wrO hO (by omega)
    refine V_if_eq (q := 23) g dX5_bestSaw_20 (tgt := 25) (by decide) rfl (by omega) (fun h20 => ?_) (fun h20 => absurd h20 (by omega))
    refine V_aload_n (q := 26) g dX5_bestSaw_25 rfl rfl ?_
    refine V_getR (q := 29) g dX5_bestSaw_26 rfl f_X5_13 rfl hL.1 rfl ?_
    refine V_iload_n (q := 30) g dX5_bestSaw_29 rfl rfl ?_
    refine V_callSI_2 (q := 33) g (c_X5_wobbleOf l hL.2.2.1 hP hI (by omega)) dX5_bestSaw_30 k_X5_69 rfl rfl ⟨rfl, rfl⟩ rfl (fun z4 M4 e4 => ?_)
    obtain ⟨⟨e4, b4⟩, rfl⟩ := e4
    refine V_istore_n_2 (q := 34) g dX5_bestSaw_33 (by decide) rfl rfl ?_
    refine V_iconst (q := 35) g dX5_bestSaw_34 rfl ?_
    refine V_istore_n_3 (q := 36) g dX5_bestSaw_35 (by decide) rfl rfl ?_
    refine V_iconst (q := 37) g dX5_bestSaw_36 rfl ?_
    refine V_istore_4 (q := 39) g dX5_bestSaw_37 (by decide) rfl rfl ?_
    refine V_iconst (q := 40) g dX5_bestSaw_39 rfl ?_
    refine V_istore_5 (q := 42) g dX5_bestSaw_40 (by decide) rfl rfl ?_
    have hcc : 0 ≤ c ∧ c < f 0 := by omega
    have hbd : ∀ n : Nat, n ≤ 4 → 0 ≤ (sBsN f c n).2 ∧ (sBsN f c n).2 ≤ 850 := sBsN_b hI hcc
    rw [e4]
    have hloop : ∀ (k9 : Nat) (n : Nat) (t : Int → Int) (y6 : Option Value), n ≤ 4 → 4 - n ≤ k9 → (n ≠ 0 → 0 < sWn f c) → V Γ D Λ (aset (wr M m 0 0) (m + 3) t) (0, 0) 42 [some (.ref m), some (vi c), some (vi (sWn f c)), some (vi (sBsN f c n).1), some (vi (sBsN f c n).2), some (vi (n : Int)), y6] [] := by
      intro k9
      induction k9 with
      | zero =>
        intro n t y6 h2 h3 h4
        have j0 := sBsN_r f c n
        have j1 := hbd n h2
        refine V_iload (q := 44) g dX5_bestSaw_42 rfl rfl ?_
        refine V_iconst (q := 45) g dX5_bestSaw_44 rfl ?_
        refine V_icmp_ge (q := 48) g dX5_bestSaw_45 (tgt := 165) (by decide) rfl (by omega) (by omega) (fun h45 => ?_) (fun h45 => absurd h45 (by omega))
        have hn : n = 4 := by omega
        subst hn
        refine V_iload_n (q := 166) g dX5_bestSaw_165 rfl rfl ?_
        exact V_ireturn g r dX5_bestSaw_166 rfl (Or.inr ⟨by omega, (by unfold sBs; first | (rw [if_pos (by omega)]; done) | (rw [if_neg (by omega), show n = 0 by omega]; rfl)), ⟨_, rfl⟩⟩)
      | succ k9 ih =>
        intro n t y6 h2 h3 h4
        have j0 := sBsN_r f c n
        have j1 := hbd n h2
        refine V_iload (q := 44) g dX5_bestSaw_42 rfl rfl ?_
        refine V_iconst (q := 45) g dX5_bestSaw_44 rfl ?_
        refine V_icmp_ge (q := 48) g dX5_bestSaw_45 (tgt := 165) (by decide) rfl (by omega) (by omega) (fun h45 => ?_) (fun h45 => ?_)
        · have hn : n = 4 := by omega
          subst hn
          refine V_iload_n (q := 166) g dX5_bestSaw_165 rfl rfl ?_
          exact V_ireturn g r dX5_bestSaw_166 rfl (Or.inr ⟨by omega, (by unfold sBs; first | (rw [if_pos (by omega)]; done) | (rw [if_neg (by omega), show n = 0 by omega]; rfl)), ⟨_, rfl⟩⟩)
        · refine V_iload_n (q := 49) g dX5_bestSaw_48 rfl rfl ?_
          refine V_if_le (q := 52) g dX5_bestSaw_49 (tgt := 165) (by decide) rfl (by omega) (fun h49 => ?_) (fun h49 => ?_)
          · refine V_iload_n (q := 166) g dX5_bestSaw_165 rfl rfl ?_
            exact V_ireturn g r dX5_bestSaw_166 rfl (Or.inr ⟨by omega, (by unfold sBs; first | (rw [if_pos (by omega)]; done) | (rw [if_neg (by omega), show n = 0 by omega]; rfl)), ⟨_, rfl⟩⟩)
          · refine V_aload_n (q := 53) g dX5_bestSaw_52 rfl rfl ?_
            refine V_getR (q := 56) g dX5_bestSaw_53 rfl f_X5_13 rfl hL.1 rfl ?_
            refine V_iload_n (q := 57) g dX5_bestSaw_56 rfl rfl ?_
            refine V_iload (q := 59) g dX5_bestSaw_57 rfl rfl ?_
            refine V_iload_n (q := 60) g dX5_bestSaw_59 rfl rfl ?_
            refine V_callSI_4 (q := 63) g (c_X5_canSaw l hL.2.2.1 (asetO hP (by omega)) hI (by omega) (by omega) (by omega)) dX5_bestSaw_60 k_X5_128 rfl rfl ⟨rfl, rfl⟩ rfl (fun z5 M5 e5 => ?_)
            obtain ⟨e5, rfl⟩ := e5
            refine V_if_eq (q := 66) g dX5_bestSaw_63 (tgt := 159) (by decide) rfl (by omega) (fun h63 => ?_) (fun h63 => ?_)
            · refine V_iinc_5 (q := 162) g dX5_bestSaw_159 (by decide) rfl rfl ?_
              refine V_goto g dX5_bestSaw_162 (tgt := 42) (by decide) ?_
              have q9 := fun t y6 => ih (n + 1) t y6 (by omega) (by omega) (fun _ => by omega)
              rw [sBsN] at q9
              first
                | (rw [if_neg (by omega)] at q9; exact q9 _ _)
                | (rw [if_pos (by omega)] at q9; rw [← e5] at q9; exact q9 _ _)
            · refine V_aload_n (q := 67) g dX5_bestSaw_66 rfl rfl ?_
              refine V_getR (q := 70) g dX5_bestSaw_67 rfl f_X5_13 rfl hL.1 rfl ?_
              refine V_iconst (q := 71) g dX5_bestSaw_70 rfl ?_
              refine V_aload_n (q := 72) g dX5_bestSaw_71 rfl rfl ?_
              refine V_getR (q := 75) g dX5_bestSaw_72 rfl f_X5_16 rfl hL.1 rfl ?_
              refine V_iconst (q := 76) g dX5_bestSaw_75 rfl ?_
              refine V_callSV_4 (q := 79) g (b_cpy0 l hL.2.2.1 hL.2.2.2.1 (asetO hP (by omega)) (by omega)) dX5_bestSaw_76 k_X5_192 rfl rfl ⟨rfl, rfl⟩ rfl (fun M6 e6 => ?_)
              obtain rfl := e6
              try simp only [aset_aset]
              try simp only [aset_aset]
              refine V_aload_n (q := 80) g dX5_bestSaw_79 rfl rfl ?_
              refine V_getR (q := 83) g dX5_bestSaw_80 rfl f_X5_16 rfl hL.1 rfl ?_
              refine V_iload_n (q := 84) g dX5_bestSaw_83 rfl rfl ?_
              refine V_iload (q := 86) g dX5_bestSaw_84 rfl rfl ?_
              refine V_iload_n (q := 87) g dX5_bestSaw_86 rfl rfl ?_
              have hl := (hI.2.2.2.2.2.2 c hcc.1 hcc.2).2.2.2.2 n (by omega) (by omega)
              refine V_callSI_4 (q := 90) g (c_X5_sawOn l hL.2.2.2.1 (aset_at _ _ _) hI (by omega) (by omega) (by omega) (by omega)) dX5_bestSaw_87 k_X5_132 rfl rfl ⟨rfl, rfl⟩ rfl (fun z7 M7 e7 => ?_)
              obtain ⟨e7, rfl⟩ := e7
              try simp only [aset_aset]
              try simp only [aset_aset]
              refine V_pop (q := 91) g dX5_bestSaw_90 rfl rfl ?_
              refine V_aload_n (q := 92) g dX5_bestSaw_91 rfl rfl ?_
              refine V_getR (q := 95) g dX5_bestSaw_92 rfl f_X5_16 rfl hL.1 rfl ?_
              refine V_iload_n (q := 96) g dX5_bestSaw_95 rfl rfl ?_
              refine V_callSI_2 (q := 99) g (c_X5_wobbleOf l hL.2.2.2.1 (aset_at _ _ _) (Inv_saw hI hcc.1 (by omega) (by omega)) (by rw [(saw_cut hcc.1 (by omega) (by omega)).2.2.2]; exact hcc)) dX5_bestSaw_96 k_X5_69 rfl rfl ⟨rfl, rfl⟩ rfl (fun z8 M8 e8 => ?_)
              obtain ⟨⟨e8, b8⟩, rfl⟩ := e8
              have jb8 := saw_wn hI hcc (k := (n : Int)) (by omega) (by omega)
              rw [jb8.1] at e8
              refine V_if_ne (q := 102) g dX5_bestSaw_99 (tgt := 124) (by decide) rfl (by omega) (fun h99 => ?_) (fun h99 => ?_)
              · refine V_iconst (q := 125) g dX5_bestSaw_124 rfl ?_
                refine V_istore_6 (q := 127) g dX5_bestSaw_125 (by decide) rfl rfl ?_
                refine V_iload (q := 129) g dX5_bestSaw_127 rfl rfl ?_
                refine V_if_eq (q := 132) g dX5_bestSaw_129 (tgt := 137) (by decide) rfl (by omega) (fun h129 => ?_) (fun h129 => absurd h129 (by omega))
                refine V_iload_n (q := 138) g dX5_bestSaw_137 rfl rfl ?_
                refine V_istore_n_3 (q := 139) g dX5_bestSaw_138 (by decide) rfl rfl ?_
                refine V_iload (q := 141) g dX5_bestSaw_139 rfl rfl ?_
                refine V_if_eq (q := 144) g dX5_bestSaw_141 (tgt := 155) (by decide) rfl (by omega) (fun h141 => ?_) (fun h141 => absurd h141 (by omega))
                refine V_iload (q := 157) g dX5_bestSaw_155 rfl rfl ?_
                refine V_istore_4 (q := 159) g dX5_bestSaw_157 (by decide) rfl rfl ?_
                refine V_iinc_5 (q := 162) g dX5_bestSaw_159 (by decide) rfl rfl ?_
                refine V_goto g dX5_bestSaw_162 (tgt := 42) (by decide) ?_
                have q9 := fun t y6 => ih (n + 1) t y6 (by omega) (by omega) (fun _ => by omega)
                rw [sBsN] at q9
                first
                  | (rw [if_neg (by omega)] at q9; exact q9 _ _)
                  | (rw [if_pos (by omega)] at q9; rw [← e8] at q9; exact q9 _ _)
              · refine V_iload_n (q := 103) g dX5_bestSaw_102 rfl rfl ?_
                refine V_iconst (q := 104) g dX5_bestSaw_103 rfl ?_
                refine V_icmp_eq (q := 107) g dX5_bestSaw_104 (tgt := 120) (by decide) rfl (by omega) (by omega) (fun h104 => ?_) (fun h104 => ?_)
                · refine V_iconst (q := 121) g dX5_bestSaw_120 rfl ?_
                  refine V_goto g dX5_bestSaw_121 (tgt := 125) (by decide) ?_
                  refine V_istore_6 (q := 127) g dX5_bestSaw_125 (by decide) rfl rfl ?_
                  refine V_iload (q := 129) g dX5_bestSaw_127 rfl rfl ?_
                  refine V_if_eq (q := 132) g dX5_bestSaw_129 (tgt := 137) (by decide) rfl (by omega) (fun h129 => absurd h129 (by omega)) (fun h129 => ?_)
                  refine V_iload (q := 134) g dX5_bestSaw_132 rfl rfl ?_
                  refine V_goto g dX5_bestSaw_134 (tgt := 138) (by decide) ?_
                  refine V_istore_n_3 (q := 139) g dX5_bestSaw_138 (by decide) rfl rfl ?_
                  refine V_iload (q := 141) g dX5_bestSaw_139 rfl rfl ?_
                  refine V_if_eq (q := 144) g dX5_bestSaw_141 (tgt := 155) (by decide) rfl (by omega) (fun h141 => absurd h141 (by omega)) (fun h141 => ?_)
                  refine V_aload_n (q := 145) g dX5_bestSaw_144 rfl rfl ?_
                  refine V_getR (q := 148) g dX5_bestSaw_145 rfl f_X5_16 rfl hL.1 rfl ?_
                  refine V_iload_n (q := 149) g dX5_bestSaw_148 rfl rfl ?_
                  refine V_callSI_2 (q := 152) g (c_X5_leanOf l hL.2.2.2.1 (aset_at _ _ _) (Inv_saw hI hcc.1 (by omega) (by omega)) (by rw [(saw_cut hcc.1 (by omega) (by omega)).2.2.2]; exact hcc)) dX5_bestSaw_149 k_X5_72 rfl rfl ⟨rfl, rfl⟩ rfl (fun z9 M9 e9 => ?_)
                  obtain ⟨⟨e9, b9⟩, rfl⟩ := e9
                  rw [jb8.2] at e9
                  refine V_goto g dX5_bestSaw_152 (tgt := 157) (by decide) ?_
                  refine V_istore_4 (q := 159) g dX5_bestSaw_157 (by decide) rfl rfl ?_
                  refine V_iinc_5 (q := 162) g dX5_bestSaw_159 (by decide) rfl rfl ?_
                  refine V_goto g dX5_bestSaw_162 (tgt := 42) (by decide) ?_
                  have q9 := fun t y6 => ih (n + 1) t y6 (by omega) (by omega) (fun _ => by omega)
                  rw [sBsN] at q9
                  first
                    | (rw [if_neg (by omega)] at q9; exact q9 _ _)
                    | (rw [if_pos (by omega)] at q9; rw [← e9] at q9; exact q9 _ _)
                · refine V_aload_n (q := 108) g dX5_bestSaw_107 rfl rfl ?_
                  refine V_getR (q := 111) g dX5_bestSaw_108 rfl f_X5_16 rfl hL.1 rfl ?_
                  refine V_iload_n (q := 112) g dX5_bestSaw_111 rfl rfl ?_
                  refine V_callSI_2 (q := 115) g (c_X5_leanOf l hL.2.2.2.1 (aset_at _ _ _) (Inv_saw hI hcc.1 (by omega) (by omega)) (by rw [(saw_cut hcc.1 (by omega) (by omega)).2.2.2]; exact hcc)) dX5_bestSaw_112 k_X5_72 rfl rfl ⟨rfl, rfl⟩ rfl (fun z10 M10 e10 => ?_)
                  obtain ⟨⟨e10, b10⟩, rfl⟩ := e10
                  rw [jb8.2] at e10
                  refine V_iload (q := 117) g dX5_bestSaw_115 rfl rfl ?_
                  refine V_icmp_ge (q := 120) g dX5_bestSaw_117 (tgt := 124) (by decide) rfl (by omega) (by omega) (fun h117 => ?_) (fun h117 => ?_)
                  · refine V_iconst (q := 125) g dX5_bestSaw_124 rfl ?_
                    refine V_istore_6 (q := 127) g dX5_bestSaw_125 (by decide) rfl rfl ?_
                    refine V_iload (q := 129) g dX5_bestSaw_127 rfl rfl ?_
                    refine V_if_eq (q := 132) g dX5_bestSaw_129 (tgt := 137) (by decide) rfl (by omega) (fun h129 => ?_) (fun h129 => absurd h129 (by omega))
                    refine V_iload_n (q := 138) g dX5_bestSaw_137 rfl rfl ?_
                    refine V_istore_n_3 (q := 139) g dX5_bestSaw_138 (by decide) rfl rfl ?_
                    refine V_iload (q := 141) g dX5_bestSaw_139 rfl rfl ?_
                    refine V_if_eq (q := 144) g dX5_bestSaw_141 (tgt := 155) (by decide) rfl (by omega) (fun h141 => ?_) (fun h141 => absurd h141 (by omega))
                    refine V_iload (q := 157) g dX5_bestSaw_155 rfl rfl ?_
                    refine V_istore_4 (q := 159) g dX5_bestSaw_157 (by decide) rfl rfl ?_
                    refine V_iinc_5 (q := 162) g dX5_bestSaw_159 (by decide) rfl rfl ?_
                    refine V_goto g dX5_bestSaw_162 (tgt := 42) (by decide) ?_
                    have q9 := fun t y6 => ih (n + 1) t y6 (by omega) (by omega) (fun _ => by omega)
                    rw [sBsN] at q9
                    first
                      | (rw [if_neg (by omega)] at q9; exact q9 _ _)
                      | (rw [if_pos (by omega)] at q9; rw [← e10] at q9; exact q9 _ _)
                  · refine V_iconst (q := 121) g dX5_bestSaw_120 rfl ?_
                    refine V_goto g dX5_bestSaw_121 (tgt := 125) (by decide) ?_
                    refine V_istore_6 (q := 127) g dX5_bestSaw_125 (by decide) rfl rfl ?_
                    refine V_iload (q := 129) g dX5_bestSaw_127 rfl rfl ?_
                    refine V_if_eq (q := 132) g dX5_bestSaw_129 (tgt := 137) (by decide) rfl (by omega) (fun h129 => absurd h129 (by omega)) (fun h129 => ?_)
                    refine V_iload (q := 134) g dX5_bestSaw_132 rfl rfl ?_
                    refine V_goto g dX5_bestSaw_134 (tgt := 138) (by decide) ?_
                    refine V_istore_n_3 (q := 139) g dX5_bestSaw_138 (by decide) rfl rfl ?_
                    refine V_iload (q := 141) g dX5_bestSaw_139 rfl rfl ?_
                    refine V_if_eq (q := 144) g dX5_bestSaw_141 (tgt := 155) (by decide) rfl (by omega) (fun h141 => absurd h141 (by omega)) (fun h141 => ?_)
                    refine V_aload_n (q := 145) g dX5_bestSaw_144 rfl rfl ?_
                    refine V_getR (q := 148) g dX5_bestSaw_145 rfl f_X5_16 rfl hL.1 rfl ?_
                    refine V_iload_n (q := 149) g dX5_bestSaw_148 rfl rfl ?_
                    refine V_callSI_2 (q := 152) g (c_X5_leanOf l hL.2.2.2.1 (aset_at _ _ _) (Inv_saw hI hcc.1 (by omega) (by omega)) (by rw [(saw_cut hcc.1 (by omega) (by omega)).2.2.2]; exact hcc)) dX5_bestSaw_149 k_X5_72 rfl rfl ⟨rfl, rfl⟩ rfl (fun z11 M11 e11 => ?_)
                    obtain ⟨⟨e11, b11⟩, rfl⟩ := e11
                    rw [jb8.2] at e11
                    refine V_goto g dX5_bestSaw_152 (tgt := 157) (by decide) ?_
                    refine V_istore_4 (q := 159) g dX5_bestSaw_157 (by decide) rfl rfl ?_
                    refine V_iinc_5 (q := 162) g dX5_bestSaw_159 (by decide) rfl rfl ?_
                    refine V_goto g dX5_bestSaw_162 (tgt := 42) (by decide) ?_
                    have q9 := fun t y6 => ih (n + 1) t y6 (by omega) (by omega) (fun _ => by omega)
                    rw [sBsN] at q9
                    first
                      | (rw [if_neg (by omega)] at q9; exact q9 _ _)
                      | (rw [if_pos (by omega)] at q9; rw [← e11] at q9; exact q9 _ _)
    rw [← aset_self (wr M m 0 0) (m + 3)]
    exact hloop 4 0 _ _ (by omega) (by omega) (fun h => absurd rfl h)
abbrev rm_X5_sound : Room := { frames := 6, cells := 0, slots := 0, locals := 130 }
set_option maxHeartbeats 4000000 in
set_option maxRecDepth 100000 in
theorem c_X5_sound (l : Launch) {D : DD} {Λ : LY} {M : MM} {m : Nat} {f : Int → Int} (hL : MdL D Λ m) (hO : M (m + 2) = f) (hI : Inv f) : CI l yX5_sound cX5_sound 3 .int rm_X5_sound [.ref m] D Λ M (fun z M1 => z = (sSnd f (f 0).toNat).toInt ∧ wr M m 0 0 = M1) := by
  refine CI_of rfl rfl (Nat.le_of_ble_eq_true rfl) (fun Γ g r => ?_)
  have h0 := hI.1
  have h1 := hI.2.1
  refine V_aload_n (q := 1) g dX5_sound_0 rfl rfl ?_
  refine V_iconst (q := 2) g dX5_sound_1 rfl ?_
  refine V_putI (q := 5) g dX5_sound_2 rfl f_X5_33 tyX5_ok nmX5 rfl hL.1 rfl rfl (ty := .int) rfl rfl rfl (j := 0) rfl ?_
  refine V_iconst (q := 6) g dX5_sound_5 rfl ?_
  refine V_istore_n_1 (q := 7) g dX5_sound_6 (by decide) rfl rfl ?_
  refine V_iconst (q := 8) g dX5_sound_7 rfl ?_
  refine V_istore_n_2 (q := 9) g dX5_sound_8 (by decide) rfl rfl ?_
  have hP : wr M m 0 0 (m + 2) = f := wrO hO (by omega)
  have hloop : ∀ (k9 : Nat) (n : Nat), (n : Int) ≤ f 0 → f 0 - n ≤ k9 → V Γ D Λ (wr M m 0 0) (0, 0) 9 [some (.ref m), some (.int (sSnd f n)), some (vi (n : Int))] [] := by
    intro k9
    induction k9 with
    | zero =>
      intro n h2 h3
      refine V_iload_n (q := 10) g dX5_sound_9 rfl rfl ?_
      refine V_aload_n (q := 11) g dX5_sound_10 rfl rfl ?_
      refine V_getR (q := 14) g dX5_sound_11 rfl f_X5_13 rfl hL.1 rfl ?_
      refine V_iconst (q := 15) g dX5_sound_14 rfl ?_
      refine V_iaload (q := 16) g dX5_sound_15 rfl hL.2.2.1 (by omega) (by decide) ?_
      rw [hP]
      refine V_icmp_ge (q := 19) g dX5_sound_16 (tgt := 46) (by decide) rfl (by omega) (by omega) (fun h16 => ?_) (fun h16 => absurd h16 (by omega))
      have hn : n = (f 0).toNat := by omega
      subst hn
      refine V_iload_n (q := 47) g dX5_sound_46 rfl rfl ?_
      rw [← iI_self (sSnd f (f 0).toNat)]
      exact V_ireturn g r dX5_sound_47 rfl ⟨rfl, rfl⟩
    | succ k9 ih =>
      intro n h2 h3
      refine V_iload_n (q := 10) g dX5_sound_9 rfl rfl ?_
      refine V_aload_n (q := 11) g dX5_sound_10 rfl rfl ?_
      refine V_getR (q := 14) g dX5_sound_11 rfl f_X5_13 rfl hL.1 rfl ?_
      refine V_iconst (q := 15) g dX5_sound_14 rfl ?_
      refine V_iaload (q := 16) g dX5_sound_15 rfl hL.2.2.1 (by omega) (by decide) ?_
      rw [hP]
      refine V_icmp_ge (q := 19) g dX5_sound_16 (tgt := 46) (by decide) rfl (by omega) (by omega) (fun h16 => ?_) (fun h16 => ?_)
      · have hn : n = (f 0).toNat := by omega
        subst hn
        refine V_iload_n (q := 47) g dX5_sound_46 rfl rfl ?_
        rw [← iI_self (sSnd f (f 0).toNat)]
        exact V_ireturn g r dX5_sound_47 rfl ⟨rfl, rfl⟩
      · refine V_iload_n (q := 20) g dX5_sound_19 rfl rfl ?_
        refine V_aload_n (q := 21) g dX5_sound_20 rfl rfl ?_
        refine V_getR (q := 24) g dX5_sound_21 rfl f_X5_13 rfl hL.1 rfl ?_
        refine V_iload_n (q := 25) g dX5_sound_24 rfl rfl ?_
        refine V_callSI_2 (q := 28) g (c_X5_reason l hL.2.2.1 hP hI (by omega)) dX5_sound_25 k_X5_90 rfl rfl ⟨rfl, rfl⟩ rfl (fun z1 M1 e1 => ?_)
        obtain ⟨⟨e1, b1⟩, rfl⟩ := e1
        refine V_if_ne (q := 31) g dX5_sound_28 (tgt := 37) (by decide) rfl (by omega) (fun h28 => ?_) (fun h28 => ?_)
        · refine V_iconst (q := 38) g dX5_sound_37 rfl ?_
          refine V_ior0 (q := 39) g dX5_sound_38 rfl ?_
          have hx : sSnd f n ||| iI 0 = sSnd f (n + 1) := by rw [sSnd]; first | (rw [if_pos (by omega)]; done) | (rw [if_neg (by omega)]; exact Int32.or_zero)
          rw [hx]
          refine V_istore_n_1 (q := 40) g dX5_sound_39 (by decide) rfl rfl ?_
          refine V_iinc_2 (q := 43) g dX5_sound_40 (by decide) rfl rfl ?_
          refine V_goto g dX5_sound_43 (tgt := 9) (by decide) ?_
          exact ih (n + 1) (by omega) (by omega)
        · refine V_iconst (q := 32) g dX5_sound_31 rfl ?_
          refine V_iload_n (q := 33) g dX5_sound_32 rfl rfl ?_
          refine V_ishl0 (q := 34) g dX5_sound_33 rfl ?_
          refine V_goto g dX5_sound_34 (tgt := 38) (by decide) ?_
          refine V_ior0 (q := 39) g dX5_sound_38 rfl ?_
          have hx : sSnd f n ||| (iI 1 <<< (iI n &&& 31)) = sSnd f (n + 1) := by rw [sSnd]; first | (rw [if_pos (by omega)]; done) | (rw [if_neg (by omega)]; exact Int32.or_zero)
          rw [hx]
          refine V_istore_n_1 (q := 40) g dX5_sound_39 (by decide) rfl rfl ?_
          refine V_iinc_2 (q := 43) g dX5_sound_40 (by decide) rfl rfl ?_
          refine V_goto g dX5_sound_43 (tgt := 9) (by decide) ?_
          exact ih (n + 1) (by omega) (by omega)
  exact hloop (f 0).toNat 0 (by omega) (by omega)
