theorem sWob_r {f : Int → Int} (hI : Inv f) {c fl q : Int} (hc : 0 ≤ c ∧ c < f 0) (hf : 0 ≤ fl ∧ fl < 4) (hq : 0 ≤ q ∧ q < 4) : 0 ≤ sWob f c fl q ∧ sWob f c fl q ≤ 1700 := by
  have h0 := sRe_r hI hc (k := 0) (by decide) hf hq
  have h1 := sRe_r hI hc (k := 1) (by decide) hf hq
  have h2 := sRe_r hI hc (k := 2) (by decide) hf hq
  have h3 := sRe_r hI hc (k := 3) (by decide) hf hq
  have h := @sAbs_r (sTilt f c fl q)
  unfold sWob
  unfold sTilt at *
  omega
theorem sLean_r {f : Int → Int} (hI : Inv f) {c fl q : Int} (hc : 0 ≤ c ∧ c < f 0) (hf : 0 ≤ fl ∧ fl < 4) (hq : 0 ≤ q ∧ q < 4) : 0 ≤ sLean f c fl q ∧ sLean f c fl q ≤ 850 := by
  have h0 := sRe_r hI hc (k := 0) (by decide) hf hq
  have h1 := sRe_r hI hc (k := 1) (by decide) hf hq
  have h2 := sRe_r hI hc (k := 2) (by decide) hf hq
  have h3 := sRe_r hI hc (k := 3) (by decide) hf hq
  have a1 := @sMax_r (sRe f c 0 fl q) (sRe f c 1 fl q)
  have a2 := @sMax_r (sMax (sRe f c 0 fl q) (sRe f c 1 fl q)) (sRe f c 2 fl q)
  have a3 := @sMax_r (sMax (sMax (sRe f c 0 fl q) (sRe f c 1 fl q)) (sRe f c 2 fl q)) (sRe f c 3 fl q)
  have b1 := @sMin_r (sRe f c 0 fl q) (sRe f c 1 fl q)
  have b2 := @sMin_r (sMin (sRe f c 0 fl q) (sRe f c 1 fl q)) (sRe f c 2 fl q)
  have b3 := @sMin_r (sMin (sMin (sRe f c 0 fl q) (sRe f c 1 fl q)) (sRe f c 2 fl q)) (sRe f c 3 fl q)
  unfold sLean
  omega
theorem Off_back {M : MM} {o : Nat} {f : Int → Int} {i v w : Int} (h : Off M o (up (up f i v) i w)) (hw : w = f i) : Off M o f := by
  rw [up_up, up_self f hw] at h
  exact h
abbrev rm_X1_bestQuarters : Room := { frames := 3, cells := 0, slots := 0, locals := 72 }
set_option maxHeartbeats 4000000 in
set_option maxRecDepth 100000 in
theorem c_X1_bestQuarters (l : Launch) {D : DD} {Λ : LY} {M : MM} {o : Nat} {f : Int → Int} {c fl : Int} (hL : OffL D Λ o) (hO : Off M o f) (hI : Inv f) (hc : 0 ≤ c ∧ c < f 0) (hf : 0 ≤ fl ∧ fl < 4) : CI l yX1_bestQuarters cX1_bestQuarters 6 .int rm_X1_bestQuarters [.ref o, vi c, vi fl] D Λ M (fun z M1 => (z = sBq f c fl ∧ 0 ≤ z ∧ z ≤ 3) ∧ M = M1) := by
  refine CI_of rfl rfl (Nat.le_of_ble_eq_true rfl) (fun Γ g r => ?_)
  refine V_iconst (q := 1) g dX1_bestQuarters_0 rfl ?_
  refine V_istore_n_3 (q := 2) g dX1_bestQuarters_1 (by decide) rfl rfl ?_
  refine V_iconst (q := 3) g dX1_bestQuarters_2 rfl ?_
  refine V_istore_4 (q := 5) g dX1_bestQuarters_3 (by decide) rfl rfl ?_
  have hloop : ∀ (k9 : Nat) (n : Nat) (y5 : Option Value), n ≤ 3 → 3 - n ≤ k9 → V Γ D Λ M (0, 0) 5 [some (.ref o), some (vi c), some (vi fl), some (vi (sBqN f c fl n)), some (vi ((n : Int) + 1)), y5] [] := by
    intro k9
    induction k9 with
    | zero =>
      intro n y5 h2 h3
      have j0 := sBqN_r f c fl n
      have p1 := sLean_r hI hc hf (q := n + 1)
      have p2 := sLean_r hI hc hf (q := sBqN f c fl n) (by omega)
      refine V_iload (q := 7) g dX1_bestQuarters_5 rfl rfl ?_
      refine V_iconst (q := 8) g dX1_bestQuarters_7 rfl ?_
      refine V_icmp_ge (q := 11) g dX1_bestQuarters_8 (tgt := 66) (by decide) rfl (by omega) (by omega) (fun h8 => ?_) (fun h8 => absurd h8 (by omega))
      have hn : n = 3 := by omega
      subst hn
      refine V_iload_n (q := 67) g dX1_bestQuarters_66 rfl rfl ?_
      exact V_ireturn g r dX1_bestQuarters_67 rfl ⟨⟨rfl, by omega, by omega⟩, rfl⟩
    | succ k9 ih =>
      intro n y5 h2 h3
      have j0 := sBqN_r f c fl n
      have p1 := sLean_r hI hc hf (q := n + 1)
      have p2 := sLean_r hI hc hf (q := sBqN f c fl n) (by omega)
      refine V_iload (q := 7) g dX1_bestQuarters_5 rfl rfl ?_
      refine V_iconst (q := 8) g dX1_bestQuarters_7 rfl ?_
      refine V_icmp_ge (q := 11) g dX1_bestQuarters_8 (tgt := 66) (by decide) rfl (by omega) (by omega) (fun h8 => ?_) (fun h8 => ?_)
      · have hn : n = 3 := by omega
        subst hn
        refine V_iload_n (q := 67) g dX1_bestQuarters_66 rfl rfl ?_
        exact V_ireturn g r dX1_bestQuarters_67 rfl ⟨⟨rfl, by omega, by omega⟩, rfl⟩
      · have p1 := p1 (by omega)
        refine V_aload_n (q := 12) g dX1_bestQuarters_11 rfl rfl ?_
        refine V_iload_n (q := 13) g dX1_bestQuarters_12 rfl rfl ?_
        refine V_iload_n (q := 14) g dX1_bestQuarters_13 rfl rfl ?_
        refine V_iload (q := 16) g dX1_bestQuarters_14 rfl rfl ?_
        refine V_callVI_3 (q := 19) g (c_X1_wobbleOn l hL hO hI (by omega) (by omega) (by omega)) dX1_bestQuarters_16 k_X1_72 hL.1 rfl rfl rfl rfl ⟨rfl, rfl⟩ rfl (fun z1 M1 e1 => ?_)
        obtain ⟨⟨e1, b1⟩, rfl⟩ := e1
        refine V_aload_n (q := 20) g dX1_bestQuarters_19 rfl rfl ?_
        refine V_iload_n (q := 21) g dX1_bestQuarters_20 rfl rfl ?_
        refine V_iload_n (q := 22) g dX1_bestQuarters_21 rfl rfl ?_
        refine V_iload_n (q := 23) g dX1_bestQuarters_22 rfl rfl ?_
        refine V_callVI_3 (q := 26) g (c_X1_wobbleOn l hL hO hI (by omega) (by omega) (by omega)) dX1_bestQuarters_23 k_X1_72 hL.1 rfl rfl rfl rfl ⟨rfl, rfl⟩ rfl (fun z2 M2 e2 => ?_)
        obtain ⟨⟨e2, b2⟩, rfl⟩ := e2
        refine V_isub (q := 27) g dX1_bestQuarters_26 rfl ?_
        refine V_istore_5 (q := 29) g dX1_bestQuarters_27 (by decide) rfl rfl ?_
        refine V_iload (q := 31) g dX1_bestQuarters_29 rfl rfl ?_
        refine V_if_lt (q := 34) g dX1_bestQuarters_31 (tgt := 57) (by decide) rfl (by omega) (fun h31 => ?_) (fun h31 => ?_)
        · have hx : sBqN f c fl (n + 1) = n + 1 := by rw [sBqN, if_pos (by unfold sKey; omega)]
          refine V_iload (q := 59) g dX1_bestQuarters_57 rfl rfl ?_
          refine V_istore_n_3 (q := 60) g dX1_bestQuarters_59 (by decide) rfl rfl ?_
          refine V_iinc_4 (q := 63) g dX1_bestQuarters_60 (by decide) rfl rfl ?_
          refine V_goto g dX1_bestQuarters_63 (tgt := 5) (by decide) ?_
          have q9 := fun y9 => ih (n + 1) y9 (by omega) (by omega)
          rw [hx] at q9
          exact q9 _
        · refine V_iload (q := 36) g dX1_bestQuarters_34 rfl rfl ?_
          refine V_if_ne (q := 39) g dX1_bestQuarters_36 (tgt := 60) (by decide) rfl (by omega) (fun h36 => ?_) (fun h36 => ?_)
          · have hx : sBqN f c fl (n + 1) = sBqN f c fl n := by rw [sBqN, if_neg (by unfold sKey; omega)]
            refine V_iinc_4 (q := 63) g dX1_bestQuarters_60 (by decide) rfl rfl ?_
            refine V_goto g dX1_bestQuarters_63 (tgt := 5) (by decide) ?_
            have q9 := fun y9 => ih (n + 1) y9 (by omega) (by omega)
            rw [hx] at q9
            exact q9 _
          · refine V_aload_n (q := 40) g dX1_bestQuarters_39 rfl rfl ?_
            refine V_iload_n (q := 41) g dX1_bestQuarters_40 rfl rfl ?_
            refine V_iload_n (q := 42) g dX1_bestQuarters_41 rfl rfl ?_
            refine V_iload (q := 44) g dX1_bestQuarters_42 rfl rfl ?_
            refine V_callVI_3 (q := 47) g (c_X1_leanOn l hL hO hI (by omega) (by omega) (by omega)) dX1_bestQuarters_44 k_X1_85 hL.1 rfl rfl rfl rfl ⟨rfl, rfl⟩ rfl (fun z3 M3 e3 => ?_)
            obtain ⟨⟨e3, b3⟩, rfl⟩ := e3
            refine V_aload_n (q := 48) g dX1_bestQuarters_47 rfl rfl ?_
            refine V_iload_n (q := 49) g dX1_bestQuarters_48 rfl rfl ?_
            refine V_iload_n (q := 50) g dX1_bestQuarters_49 rfl rfl ?_
            refine V_iload_n (q := 51) g dX1_bestQuarters_50 rfl rfl ?_
            refine V_callVI_3 (q := 54) g (c_X1_leanOn l hL hO hI (by omega) (by omega) (by omega)) dX1_bestQuarters_51 k_X1_85 hL.1 rfl rfl rfl rfl ⟨rfl, rfl⟩ rfl (fun z4 M4 e4 => ?_)
            obtain ⟨⟨e4, b4⟩, rfl⟩ := e4
            refine V_icmp_ge (q := 57) g dX1_bestQuarters_54 (tgt := 60) (by decide) rfl (by omega) (by omega) (fun h54 => ?_) (fun h54 => ?_)
            · have hx : sBqN f c fl (n + 1) = sBqN f c fl n := by rw [sBqN, if_neg (by unfold sKey; omega)]
              refine V_iinc_4 (q := 63) g dX1_bestQuarters_60 (by decide) rfl rfl ?_
              refine V_goto g dX1_bestQuarters_63 (tgt := 5) (by decide) ?_
              have q9 := fun y9 => ih (n + 1) y9 (by omega) (by omega)
              rw [hx] at q9
              exact q9 _
            · have hx : sBqN f c fl (n + 1) = n + 1 := by rw [sBqN, if_pos (by unfold sKey; omega)]
              refine V_iload (q := 59) g dX1_bestQuarters_57 rfl rfl ?_
              refine V_istore_n_3 (q := 60) g dX1_bestQuarters_59 (by decide) rfl rfl ?_
              refine V_iinc_4 (q := 63) g dX1_bestQuarters_60 (by decide) rfl rfl ?_
              refine V_goto g dX1_bestQuarters_63 (tgt := 5) (by decide) ?_
              have q9 := fun y9 => ih (n + 1) y9 (by omega) (by omega)
              rw [hx] at q9
              exact q9 _
  exact hloop 3 0 _ (by omega) (by omega)
abbrev rm_X1_bestFloorFor : Room := { frames := 4, cells := 0, slots := 0, locals := 97 }
set_option maxHeartbeats 4000000 in
set_option maxRecDepth 100000 in
theorem c_X1_bestFloorFor (l : Launch) {D : DD} {Λ : LY} {M : MM} {o : Nat} {f : Int → Int} {c : Int} (hL : OffL D Λ o) (hO : Off M o f) (hI : Inv f) (hc : 0 ≤ c ∧ c < f 0) : CI l yX1_bestFloorFor cX1_bestFloorFor 6 .int rm_X1_bestFloorFor [.ref o, vi c] D Λ M (fun z M1 => (z = sBf f c ∧ 0 ≤ z ∧ z < f 1) ∧ M = M1) := by
  refine CI_of rfl rfl (Nat.le_of_ble_eq_true rfl) (fun Γ g r => ?_)
  have h1 := hI.2.1
  refine V_iconst (q := 1) g dX1_bestFloorFor_0 rfl ?_
  refine V_istore_n_2 (q := 2) g dX1_bestFloorFor_1 (by decide) rfl rfl ?_
  refine V_aload_n (q := 3) g dX1_bestFloorFor_2 rfl rfl ?_
  refine V_iload_n (q := 4) g dX1_bestFloorFor_3 rfl rfl ?_
  refine V_iconst (q := 5) g dX1_bestFloorFor_4 rfl ?_
  refine V_aload_n (q := 6) g dX1_bestFloorFor_5 rfl rfl ?_
  refine V_iload_n (q := 7) g dX1_bestFloorFor_6 rfl rfl ?_
  refine V_iconst (q := 8) g dX1_bestFloorFor_7 rfl ?_
  refine V_callVI_2 (q := 11) g (c_X1_bestQuarters l hL hO hI (by omega) (by omega)) dX1_bestFloorFor_8 k_X1_144 hL.1 rfl rfl rfl rfl ⟨rfl, rfl⟩ rfl (fun z1 M1 e1 => ?_)
  obtain ⟨⟨e1, b1⟩, rfl⟩ := e1
  refine V_callVI_3 (q := 14) g (c_X1_wobbleOn l hL hO hI (by omega) (by omega) (by omega)) dX1_bestFloorFor_11 k_X1_72 hL.1 rfl rfl rfl rfl ⟨rfl, rfl⟩ rfl (fun z2 M2 e2 => ?_)
  obtain ⟨⟨e2, b2⟩, rfl⟩ := e2
  refine V_istore_n_3 (q := 15) g dX1_bestFloorFor_14 (by decide) rfl rfl ?_
  refine V_iconst (q := 16) g dX1_bestFloorFor_15 rfl ?_
  refine V_istore_4 (q := 18) g dX1_bestFloorFor_16 (by decide) rfl rfl ?_
  have hs : z2 = sWq f c (sBfN f c 0) := by rw [e2, e1]; rfl
  rw [hs]
  have hloop : ∀ (k9 : Nat) (n : Nat) (y5 : Option Value), (n : Int) + 1 ≤ f 1 → f 1 - 1 - n ≤ k9 → V Γ D Λ M (0, 0) 18 [some (.ref o), some (vi c), some (vi (sBfN f c n)), some (vi (sWq f c (sBfN f c n))), some (vi ((n : Int) + 1)), y5] [] := by
    intro k9
    induction k9 with
    | zero =>
      intro n y5 h2 h3
      have j0 := sBfN_r f c n
      have j1 := sBqN_r f c (sBfN f c n) 3
      have p2 := sWob_r hI hc (fl := sBfN f c n) (q := sBq f c (sBfN f c n)) (by omega) (by unfold sBq; omega)
      have p3 : 0 ≤ sWq f c (sBfN f c n) ∧ sWq f c (sBfN f c n) ≤ 1700 := p2
      refine V_iload (q := 20) g dX1_bestFloorFor_18 rfl rfl ?_
      refine V_aload_n (q := 21) g dX1_bestFloorFor_20 rfl rfl ?_
      refine V_getI (q := 24) g dX1_bestFloorFor_21 rfl f_X1_49 rfl hL.1 rfl (j := 1) rfl ?_
      rw [hO.2.1]
      refine V_icmp_ge (q := 27) g dX1_bestFloorFor_24 (tgt := 61) (by decide) rfl (by omega) (by omega) (fun h24 => ?_) (fun h24 => absurd h24 (by omega))
      have hn : n = (f 1 - 1).toNat := by omega
      subst hn
      refine V_iload_n (q := 62) g dX1_bestFloorFor_61 rfl rfl ?_
      exact V_ireturn g r dX1_bestFloorFor_62 rfl ⟨⟨rfl, by omega, by omega⟩, rfl⟩
    | succ k9 ih =>
      intro n y5 h2 h3
      have j0 := sBfN_r f c n
      have j1 := sBqN_r f c (sBfN f c n) 3
      have p2 := sWob_r hI hc (fl := sBfN f c n) (q := sBq f c (sBfN f c n)) (by omega) (by unfold sBq; omega)
      have p3 : 0 ≤ sWq f c (sBfN f c n) ∧ sWq f c (sBfN f c n) ≤ 1700 := p2
      refine V_iload (q := 20) g dX1_bestFloorFor_18 rfl rfl ?_
      refine V_aload_n (q := 21) g dX1_bestFloorFor_20 rfl rfl ?_
      refine V_getI (q := 24) g dX1_bestFloorFor_21 rfl f_X1_49 rfl hL.1 rfl (j := 1) rfl ?_
      rw [hO.2.1]
      refine V_icmp_ge (q := 27) g dX1_bestFloorFor_24 (tgt := 61) (by decide) rfl (by omega) (by omega) (fun h24 => ?_) (fun h24 => ?_)
      · have hn : n = (f 1 - 1).toNat := by omega
        subst hn
        refine V_iload_n (q := 62) g dX1_bestFloorFor_61 rfl rfl ?_
        exact V_ireturn g r dX1_bestFloorFor_62 rfl ⟨⟨rfl, by omega, by omega⟩, rfl⟩
      · refine V_aload_n (q := 28) g dX1_bestFloorFor_27 rfl rfl ?_
        refine V_iload_n (q := 29) g dX1_bestFloorFor_28 rfl rfl ?_
        refine V_iload (q := 31) g dX1_bestFloorFor_29 rfl rfl ?_
        refine V_aload_n (q := 32) g dX1_bestFloorFor_31 rfl rfl ?_
        refine V_iload_n (q := 33) g dX1_bestFloorFor_32 rfl rfl ?_
        refine V_iload (q := 35) g dX1_bestFloorFor_33 rfl rfl ?_
        refine V_callVI_2 (q := 38) g (c_X1_bestQuarters l hL hO hI (by omega) (by omega)) dX1_bestFloorFor_35 k_X1_144 hL.1 rfl rfl rfl rfl ⟨rfl, rfl⟩ rfl (fun z3 M3 e3 => ?_)
        obtain ⟨⟨e3, b3⟩, rfl⟩ := e3
        refine V_callVI_3 (q := 41) g (c_X1_wobbleOn l hL hO hI (by omega) (by omega) (by omega)) dX1_bestFloorFor_38 k_X1_72 hL.1 rfl rfl rfl rfl ⟨rfl, rfl⟩ rfl (fun z4 M4 e4 => ?_)
        obtain ⟨⟨e4, b4⟩, rfl⟩ := e4
        have w4 : z4 = sWq f c (n + 1) := by rw [e4, e3]; rfl
        refine V_istore_5 (q := 43) g dX1_bestFloorFor_41 (by decide) rfl rfl ?_
        refine V_iload (q := 45) g dX1_bestFloorFor_43 rfl rfl ?_
        refine V_iload_n (q := 46) g dX1_bestFloorFor_45 rfl rfl ?_
        refine V_icmp_ge (q := 49) g dX1_bestFloorFor_46 (tgt := 55) (by decide) rfl (by omega) (by omega) (fun h46 => ?_) (fun h46 => ?_)
        · have hx : sBfN f c (n + 1) = sBfN f c n := by rw [sBfN, if_neg (by omega)]
          refine V_iinc_4 (q := 58) g dX1_bestFloorFor_55 (by decide) rfl rfl ?_
          refine V_goto g dX1_bestFloorFor_58 (tgt := 18) (by decide) ?_
          have q9 := fun y9 => ih (n + 1) y9 (by omega) (by omega)
          rw [hx] at q9
          first
            | exact q9 _
            | (rw [← w4] at q9; exact q9 _)
        · have hx : sBfN f c (n + 1) = n + 1 := by rw [sBfN, if_pos (by omega)]
          refine V_iload (q := 51) g dX1_bestFloorFor_49 rfl rfl ?_
          refine V_istore_n_2 (q := 52) g dX1_bestFloorFor_51 (by decide) rfl rfl ?_
          refine V_iload (q := 54) g dX1_bestFloorFor_52 rfl rfl ?_
          refine V_istore_n_3 (q := 55) g dX1_bestFloorFor_54 (by decide) rfl rfl ?_
          refine V_iinc_4 (q := 58) g dX1_bestFloorFor_55 (by decide) rfl rfl ?_
          refine V_goto g dX1_bestFloorFor_58 (tgt := 18) (by decide) ?_
          have q9 := fun y9 => ih (n + 1) y9 (by omega) (by omega)
          rw [hx] at q9
          first
            | exact q9 _
            | (rw [← w4] at q9; exact q9 _)
  exact hloop (f 1 - 1).toNat 0 _ (by omega) (by omega)
abbrev rm_X1_bestSawnLeg : Room := { frames := 4, cells := 0, slots := 0, locals := 93 }
set_option maxHeartbeats 4000000 in
set_option maxRecDepth 100000 in
theorem c_X1_bestSawnLeg (l : Launch) {D : DD} {Λ : LY} {M : MM} {o : Nat} {f : Int → Int} {c : Int} (hL : OffL D Λ o) (hO : Off M o f) (hI : Inv f) (hc : 0 ≤ c ∧ c < f 0) : CI l yX1_bestSawnLeg cX1_bestSawnLeg 8 .int rm_X1_bestSawnLeg [.ref o, vi c] D Λ M (fun z M1 => (z = sBs f c ∧ -1 ≤ z ∧ z ≤ 3) ∧ Off M1 o f ∧ Oth M M1 o) := by
  refine CI_of rfl rfl (Nat.le_of_ble_eq_true rfl) (fun Γ g r => ?_)
  have h0 := hI.1
  have h1 := hI.2.1
  refine V_aload_n (q := 1) g dX1_bestSawnLeg_0 rfl rfl ?_
  refine V_iload_n (q := 2) g dX1_bestSawnLeg_1 rfl rfl ?_
  refine V_callVI_1 (q := 5) g (c_X1_wobbleNow l hL hO hI (by omega)) dX1_bestSawnLeg_2 k_X1_147 hL.1 rfl rfl rfl rfl ⟨rfl, rfl⟩ rfl (fun z1 M1 e1 => ?_)
  obtain ⟨⟨e1, b1⟩, rfl⟩ := e1
  have hwp : 0 ≤ sWn f c ∧ sWn f c ≤ 1700 := by rw [← e1]; exact b1
  refine V_istore_n_2 (q := 6) g dX1_bestSawnLeg_5 (by decide) rfl rfl ?_
  refine V_iconst (q := 7) g dX1_bestSawnLeg_6 rfl ?_
  refine V_istore_n_3 (q := 8) g dX1_bestSawnLeg_7 (by decide) rfl rfl ?_
  refine V_iconst (q := 9) g dX1_bestSawnLeg_8 rfl ?_
  refine V_istore_4 (q := 11) g dX1_bestSawnLeg_9 (by decide) rfl rfl ?_
  refine V_iconst (q := 12) g dX1_bestSawnLeg_11 rfl ?_
  refine V_istore_5 (q := 14) g dX1_bestSawnLeg_12 (by decide) rfl rfl ?_
  have hbd : ∀ n : Nat, n ≤ 4 → 0 ≤ (sBsN f c n).2 ∧ (sBsN f c n).2 ≤ 850 := by
    intro n
    induction n with
    | zero => intro _; exact ⟨by show (0 : Int) ≤ 0; decide, by show (0 : Int) ≤ 850; decide⟩
    | succ n ih =>
      intro hn
      unfold sBsN
      split
      · rename_i hcd
        have hIc : Inv (sCut f c n) := by
          have hl := (hI.2.2.2.2.2.2 c hc.1 hc.2).2.2.2.2 n (by omega) (by omega)
          exact Inv_len hI hc.1 (by omega) (by omega)
        have hcc : 0 ≤ c ∧ c < sCut f c n 0 := by unfold sCut; rw [up_ne (by omega)]; exact hc
        obtain ⟨hq1, hq2, hq3, -⟩ := hIc.2.2.2.2.2.2 c hcc.1 hcc.2
        have h1c := hIc.2.1
        exact sLean_r hIc hcc (by omega) (by omega)
      · exact ih (by omega)
  rw [e1]
  have hloop : ∀ (k9 : Nat) (n : Nat) (Mx : MM) (y6 y7 : Option Value), n ≤ 4 → 4 - n ≤ k9 → (n ≠ 0 → 0 < sWn f c) → Off Mx o f → Oth M Mx o → V Γ D Λ Mx (0, 0) 14 [some (.ref o), some (vi c), some (vi (sWn f c)), some (vi (sBsN f c n).1), some (vi (sBsN f c n).2), some (vi (n : Int)), y6, y7] [] := by
    intro k9
    induction k9 with
    | zero =>
      intro n Mx y6 y7 h2 h3 h4 hO hTx
      have j0 := sBsN_r f c n
      have j1 := hbd n h2
      refine V_iload (q := 16) g dX1_bestSawnLeg_14 rfl rfl ?_
      refine V_iconst (q := 17) g dX1_bestSawnLeg_16 rfl ?_
      refine V_icmp_ge (q := 20) g dX1_bestSawnLeg_17 (tgt := 117) (by decide) rfl (by omega) (by omega) (fun h17 => ?_) (fun h17 => absurd h17 (by omega))
      have hn : n = 4 := by omega
      subst hn
      have hfin : (sBsN f c 4).1 = sBs f c := by unfold sBs; rw [if_pos (h4 (by omega))]
      refine V_iload_n (q := 118) g dX1_bestSawnLeg_117 rfl rfl ?_
      exact V_ireturn g r dX1_bestSawnLeg_118 rfl ⟨⟨hfin, by omega, by omega⟩, hO, hTx⟩
    | succ k9 ih =>
      intro n Mx y6 y7 h2 h3 h4 hO hTx
      have j0 := sBsN_r f c n
      have j1 := hbd n h2
      refine V_iload (q := 16) g dX1_bestSawnLeg_14 rfl rfl ?_
      refine V_iconst (q := 17) g dX1_bestSawnLeg_16 rfl ?_
      refine V_icmp_ge (q := 20) g dX1_bestSawnLeg_17 (tgt := 117) (by decide) rfl (by omega) (by omega) (fun h17 => ?_) (fun h17 => ?_)
      · have hn : n = 4 := by omega
        subst hn
        have hfin : (sBsN f c 4).1 = sBs f c := by unfold sBs; rw [if_pos (h4 (by omega))]
        refine V_iload_n (q := 118) g dX1_bestSawnLeg_117 rfl rfl ?_
        exact V_ireturn g r dX1_bestSawnLeg_118 rfl ⟨⟨hfin, by omega, by omega⟩, hO, hTx⟩
      · refine V_iload_n (q := 21) g dX1_bestSawnLeg_20 rfl rfl ?_
        refine V_if_le (q := 24) g dX1_bestSawnLeg_21 (tgt := 117) (by decide) rfl (by omega) (fun h21 => ?_) (fun h21 => ?_)
        · have hn : n = 0 := Classical.byContradiction fun q9 => by have := h4 q9; omega
          subst hn
          have hfin : (sBsN f c 0).1 = sBs f c := by unfold sBs; rw [if_neg (by omega)]; rfl
          refine V_iload_n (q := 118) g dX1_bestSawnLeg_117 rfl rfl ?_
          exact V_ireturn g r dX1_bestSawnLeg_118 rfl ⟨⟨hfin, by omega, by omega⟩, hO, hTx⟩
        · refine V_aload_n (q := 25) g dX1_bestSawnLeg_24 rfl rfl ?_
          refine V_iload_n (q := 26) g dX1_bestSawnLeg_25 rfl rfl ?_
          refine V_iload (q := 28) g dX1_bestSawnLeg_26 rfl rfl ?_
          refine V_callVI_2 (q := 31) g (c_X1_length l hL hO hI (by omega) (by omega)) dX1_bestSawnLeg_28 k_X1_94 hL.1 rfl rfl rfl rfl ⟨rfl, rfl⟩ rfl (fun z2 M2 e2 => ?_)
          obtain ⟨⟨e2, b2⟩, rfl⟩ := e2
          refine V_istore_6 (q := 33) g dX1_bestSawnLeg_31 (by decide) rfl rfl ?_
          refine V_iload (q := 35) g dX1_bestSawnLeg_33 rfl rfl ?_
          refine V_iload_n (q := 36) g dX1_bestSawnLeg_35 rfl rfl ?_
          refine V_isub (q := 37) g dX1_bestSawnLeg_36 rfl ?_
          refine V_bipush (q := 39) g dX1_bestSawnLeg_37 (by decide) rfl ?_
          refine V_icmp_ge (q := 42) g dX1_bestSawnLeg_39 (tgt := 45) (by decide) rfl (by omega) (by omega) (fun h39 => ?_) (fun h39 => ?_)
          · refine V_aload_n (q := 46) g dX1_bestSawnLeg_45 rfl rfl ?_
            refine V_getR (q := 49) g dX1_bestSawnLeg_46 rfl f_X1_27 rfl hL.1 rfl ?_
            refine V_iload_n (q := 50) g dX1_bestSawnLeg_49 rfl rfl ?_
            refine V_iconst (q := 51) g dX1_bestSawnLeg_50 rfl ?_
            refine V_imul (q := 52) g dX1_bestSawnLeg_51 rfl ?_
            refine V_iload (q := 54) g dX1_bestSawnLeg_52 rfl rfl ?_
            refine V_iadd (q := 55) g dX1_bestSawnLeg_54 rfl ?_
            refine V_iload (q := 57) g dX1_bestSawnLeg_55 rfl rfl ?_
            refine V_iload_n (q := 58) g dX1_bestSawnLeg_57 rfl rfl ?_
            refine V_isub (q := 59) g dX1_bestSawnLeg_58 rfl ?_
            refine V_callNV_3 (q := 62) g (p_lengths l hL hO c n (by omega) (by omega) (by omega)) dX1_bestSawnLeg_59 k_X1_56 rfl rfl ⟨rfl, rfl⟩ rfl (fun M3 e3 => ?_)
            obtain ⟨hO3, hT3⟩ := e3
            have hIc : Inv (sCut f c n) := Inv_len hI hc.1 (by omega) (by omega)
            have hOc : Off M3 o (sCut f c n) := by
              have q9 := hO3
              rw [e2] at q9
              exact q9
            have hcc : 0 ≤ c ∧ c < (sCut f c n) 0 := by unfold sCut; rw [up_ne (by omega)]; exact hc
            refine V_aload_n (q := 63) g dX1_bestSawnLeg_62 rfl rfl ?_
            refine V_iload_n (q := 64) g dX1_bestSawnLeg_63 rfl rfl ?_
            refine V_callVI_1 (q := 67) g (c_X1_leanNow l hL hOc hIc hcc) dX1_bestSawnLeg_64 k_X1_150 hL.1 rfl rfl rfl rfl ⟨rfl, rfl⟩ rfl (fun z4 M4 e4 => ?_)
            obtain ⟨⟨e4, b4⟩, rfl⟩ := e4
            refine V_istore_7 (q := 69) g dX1_bestSawnLeg_67 (by decide) rfl rfl ?_
            refine V_aload_n (q := 70) g dX1_bestSawnLeg_69 rfl rfl ?_
            refine V_iload_n (q := 71) g dX1_bestSawnLeg_70 rfl rfl ?_
            refine V_callVI_1 (q := 74) g (c_X1_wobbleNow l hL hOc hIc hcc) dX1_bestSawnLeg_71 k_X1_147 hL.1 rfl rfl rfl rfl ⟨rfl, rfl⟩ rfl (fun z5 M5 e5 => ?_)
            obtain ⟨⟨e5, b5⟩, rfl⟩ := e5
            refine V_if_ne (q := 77) g dX1_bestSawnLeg_74 (tgt := 96) (by decide) rfl (by omega) (fun h74 => ?_) (fun h74 => ?_)
            · have hx : sBsN f c (n + 1) = sBsN f c n := by rw [sBsN, if_neg (by omega)]
              refine V_aload_n (q := 97) g dX1_bestSawnLeg_96 rfl rfl ?_
              refine V_getR (q := 100) g dX1_bestSawnLeg_97 rfl f_X1_27 rfl hL.1 rfl ?_
              refine V_iload_n (q := 101) g dX1_bestSawnLeg_100 rfl rfl ?_
              refine V_iconst (q := 102) g dX1_bestSawnLeg_101 rfl ?_
              refine V_imul (q := 103) g dX1_bestSawnLeg_102 rfl ?_
              refine V_iload (q := 105) g dX1_bestSawnLeg_103 rfl rfl ?_
              refine V_iadd (q := 106) g dX1_bestSawnLeg_105 rfl ?_
              refine V_iload (q := 108) g dX1_bestSawnLeg_106 rfl rfl ?_
              refine V_callNV_3 (q := 111) g (p_lengths l hL hOc c n (by have q9 := hcc.2; have q8 := hIc.1.2; omega) (by omega) (by omega)) dX1_bestSawnLeg_108 k_X1_56 rfl rfl ⟨rfl, rfl⟩ rfl (fun M6 e6 => ?_)
              obtain ⟨hO6, hT6⟩ := e6
              have hM : Off M6 o f := Off_back hO6 e2
              have hTn := (hTx.tr hT3).tr hT6
              refine V_iinc_5 (q := 114) g dX1_bestSawnLeg_111 (by decide) rfl rfl ?_
              refine V_goto g dX1_bestSawnLeg_114 (tgt := 14) (by decide) ?_
              have q9 := fun y8 y9 => ih (n + 1) _ y8 y9 (by omega) (by omega) (fun _ => by omega) hM hTn
              rw [hx] at q9
              first
                | exact q9 _ _
                | (rw [← e4] at q9; exact q9 _ _)
            · refine V_iload_n (q := 78) g dX1_bestSawnLeg_77 rfl rfl ?_
              refine V_iconst (q := 79) g dX1_bestSawnLeg_78 rfl ?_
              refine V_icmp_eq (q := 82) g dX1_bestSawnLeg_79 (tgt := 89) (by decide) rfl (by omega) (by omega) (fun h79 => ?_) (fun h79 => ?_)
              · have hx : sBsN f c (n + 1) = ((n : Int), sLn (sCut f c n) c) := by rw [sBsN, if_pos (by omega)]
                refine V_iload (q := 91) g dX1_bestSawnLeg_89 rfl rfl ?_
                refine V_istore_n_3 (q := 92) g dX1_bestSawnLeg_91 (by decide) rfl rfl ?_
                refine V_iload (q := 94) g dX1_bestSawnLeg_92 rfl rfl ?_
                refine V_istore_4 (q := 96) g dX1_bestSawnLeg_94 (by decide) rfl rfl ?_
                refine V_aload_n (q := 97) g dX1_bestSawnLeg_96 rfl rfl ?_
                refine V_getR (q := 100) g dX1_bestSawnLeg_97 rfl f_X1_27 rfl hL.1 rfl ?_
                refine V_iload_n (q := 101) g dX1_bestSawnLeg_100 rfl rfl ?_
                refine V_iconst (q := 102) g dX1_bestSawnLeg_101 rfl ?_
                refine V_imul (q := 103) g dX1_bestSawnLeg_102 rfl ?_
                refine V_iload (q := 105) g dX1_bestSawnLeg_103 rfl rfl ?_
                refine V_iadd (q := 106) g dX1_bestSawnLeg_105 rfl ?_
                refine V_iload (q := 108) g dX1_bestSawnLeg_106 rfl rfl ?_
                refine V_callNV_3 (q := 111) g (p_lengths l hL hOc c n (by have q9 := hcc.2; have q8 := hIc.1.2; omega) (by omega) (by omega)) dX1_bestSawnLeg_108 k_X1_56 rfl rfl ⟨rfl, rfl⟩ rfl (fun M7 e7 => ?_)
                obtain ⟨hO7, hT7⟩ := e7
                have hM : Off M7 o f := Off_back hO7 e2
                have hTn := (hTx.tr hT3).tr hT7
                refine V_iinc_5 (q := 114) g dX1_bestSawnLeg_111 (by decide) rfl rfl ?_
                refine V_goto g dX1_bestSawnLeg_114 (tgt := 14) (by decide) ?_
                have q9 := fun y8 y9 => ih (n + 1) _ y8 y9 (by omega) (by omega) (fun _ => by omega) hM hTn
                rw [hx] at q9
                first
                  | exact q9 _ _
                  | (rw [← e4] at q9; exact q9 _ _)
              · refine V_iload (q := 84) g dX1_bestSawnLeg_82 rfl rfl ?_
                refine V_iload (q := 86) g dX1_bestSawnLeg_84 rfl rfl ?_
                refine V_icmp_ge (q := 89) g dX1_bestSawnLeg_86 (tgt := 96) (by decide) rfl (by omega) (by omega) (fun h86 => ?_) (fun h86 => ?_)
                · have hx : sBsN f c (n + 1) = sBsN f c n := by rw [sBsN, if_neg (by omega)]
                  refine V_aload_n (q := 97) g dX1_bestSawnLeg_96 rfl rfl ?_
                  refine V_getR (q := 100) g dX1_bestSawnLeg_97 rfl f_X1_27 rfl hL.1 rfl ?_
                  refine V_iload_n (q := 101) g dX1_bestSawnLeg_100 rfl rfl ?_
                  refine V_iconst (q := 102) g dX1_bestSawnLeg_101 rfl ?_
                  refine V_imul (q := 103) g dX1_bestSawnLeg_102 rfl ?_
                  refine V_iload (q := 105) g dX1_bestSawnLeg_103 rfl rfl ?_
                  refine V_iadd (q := 106) g dX1_bestSawnLeg_105 rfl ?_
                  refine V_iload (q := 108) g dX1_bestSawnLeg_106 rfl rfl ?_
                  refine V_callNV_3 (q := 111) g (p_lengths l hL hOc c n (by have q9 := hcc.2; have q8 := hIc.1.2; omega) (by omega) (by omega)) dX1_bestSawnLeg_108 k_X1_56 rfl rfl ⟨rfl, rfl⟩ rfl (fun M8 e8 => ?_)
                  obtain ⟨hO8, hT8⟩ := e8
                  have hM : Off M8 o f := Off_back hO8 e2
                  have hTn := (hTx.tr hT3).tr hT8
                  refine V_iinc_5 (q := 114) g dX1_bestSawnLeg_111 (by decide) rfl rfl ?_
                  refine V_goto g dX1_bestSawnLeg_114 (tgt := 14) (by decide) ?_
                  have q9 := fun y8 y9 => ih (n + 1) _ y8 y9 (by omega) (by omega) (fun _ => by omega) hM hTn
                  rw [hx] at q9
                  first
                    | exact q9 _ _
                    | (rw [← e4] at q9; exact q9 _ _)
                · have hx : sBsN f c (n + 1) = ((n : Int), sLn (sCut f c n) c) := by rw [sBsN, if_pos (by omega)]
                  refine V_iload (q := 91) g dX1_bestSawnLeg_89 rfl rfl ?_
                  refine V_istore_n_3 (q := 92) g dX1_bestSawnLeg_91 (by decide) rfl rfl ?_
                  refine V_iload (q := 94) g dX1_bestSawnLeg_92 rfl rfl ?_
                  refine V_istore_4 (q := 96) g dX1_bestSawnLeg_94 (by decide) rfl rfl ?_
                  refine V_aload_n (q := 97) g dX1_bestSawnLeg_96 rfl rfl ?_
                  refine V_getR (q := 100) g dX1_bestSawnLeg_97 rfl f_X1_27 rfl hL.1 rfl ?_
                  refine V_iload_n (q := 101) g dX1_bestSawnLeg_100 rfl rfl ?_
                  refine V_iconst (q := 102) g dX1_bestSawnLeg_101 rfl ?_
                  refine V_imul (q := 103) g dX1_bestSawnLeg_102 rfl ?_
                  refine V_iload (q := 105) g dX1_bestSawnLeg_103 rfl rfl ?_
                  refine V_iadd (q := 106) g dX1_bestSawnLeg_105 rfl ?_
                  refine V_iload (q := 108) g dX1_bestSawnLeg_106 rfl rfl ?_
                  refine V_callNV_3 (q := 111) g (p_lengths l hL hOc c n (by have q9 := hcc.2; have q8 := hIc.1.2; omega) (by omega) (by omega)) dX1_bestSawnLeg_108 k_X1_56 rfl rfl ⟨rfl, rfl⟩ rfl (fun M9 e9 => ?_)
                  obtain ⟨hO9, hT9⟩ := e9
                  have hM : Off M9 o f := Off_back hO9 e2
                  have hTn := (hTx.tr hT3).tr hT9
                  refine V_iinc_5 (q := 114) g dX1_bestSawnLeg_111 (by decide) rfl rfl ?_
                  refine V_goto g dX1_bestSawnLeg_114 (tgt := 14) (by decide) ?_
                  have q9 := fun y8 y9 => ih (n + 1) _ y8 y9 (by omega) (by omega) (fun _ => by omega) hM hTn
                  rw [hx] at q9
                  first
                    | exact q9 _ _
                    | (rw [← e4] at q9; exact q9 _ _)
          · have hx : sBsN f c (n + 1) = sBsN f c n := by rw [sBsN, if_neg (by omega)]
            have hM := hO
            have hTn := hTx
            refine V_goto g dX1_bestSawnLeg_42 (tgt := 111) (by decide) ?_
            refine V_iinc_5 (q := 114) g dX1_bestSawnLeg_111 (by decide) rfl rfl ?_
            refine V_goto g dX1_bestSawnLeg_114 (tgt := 14) (by decide) ?_
            have q9 := fun y8 y9 => ih (n + 1) _ y8 y9 (by omega) (by omega) (fun _ => by omega) hM hTn
            rw [hx] at q9
            first
              | exact q9 _ _
              | (rw [← e4] at q9; exact q9 _ _)
  exact hloop 4 0 M _ _ (by omega) (by omega) (fun q9 => absurd rfl q9) hO Oth.rf
