theorem lvl_up {f : Int → Int} {fl k v : Int} {n : Nat} (h : v = f (12 + (4 * fl + k)) → n = 0) (h2 : v ≠ f (12 + (4 * fl + k)) → n = (f 0).toNat) : fLevel f fl k v = fLvlN (up f (12 + (4 * fl + k)) v) fl n := by
  unfold fLevel
  by_cases e : v = f (12 + (4 * fl + k))
  · rw [if_pos e, h e]; rfl
  · rw [if_neg e, h2 e]
theorem sit_end (f : Int → Int) (c wt : Int) : up (up (up (fSitN f c (wt / f 11) (sIdle f c) 4) 6 (f 6 + 1)) 9 (f 9 + sSitN f c (wt / f 11) (sIdle f c) 4)) (48 + 9 * c) (f (48 + 9 * c) + 1) = fSit f c wt := rfl
/-- the limits of the first n guilds are written -/
def fClG (f : Int → Int) (n : Int) : Int → Int := fun j => if 28 ≤ j ∧ j < 28 + 4 * n then (if j % 4 = 0 then 400 else if j % 4 = 1 then 500 else if j % 4 = 2 then 4 else 12) else up (up (up (fClN f 134) 1 1) 10 5) 11 60 j
theorem fClG_0 (f : Int → Int) : fClG f 0 = up (up (up (fClN f 134) 1 1) 10 5) 11 60 := by funext j; unfold fClG; rw [if_neg (by omega)]
theorem fClG_s (f : Int → Int) {n : Int} (hn : 0 ≤ n) : up (up (up (up (fClG f n) (28 + 4 * n) 400) (28 + 4 * n + 1) 500) (28 + 4 * n + 2) 4) (28 + 4 * n + 3) 12 = fClG f (n + 1) := by
  funext j
  simp only [up_if]
  unfold fClG
  by_cases h0 : j = 28 + 4 * n
  · rw [if_neg (by omega), if_neg (by omega), if_neg (by omega), if_pos h0, if_pos (by omega), if_pos (by omega)]
  · by_cases h1 : j = 28 + 4 * n + 1
    · rw [if_neg (by omega), if_neg (by omega), if_pos h1, if_pos (by omega), if_neg (by omega), if_pos (by omega)]
    · by_cases h2 : j = 28 + 4 * n + 2
      · rw [if_neg (by omega), if_pos h2, if_pos (by omega), if_neg (by omega), if_neg (by omega), if_pos (by omega)]
      · by_cases h3 : j = 28 + 4 * n + 3
        · rw [if_pos h3, if_pos (by omega), if_neg (by omega), if_neg (by omega), if_neg (by omega)]
        · rw [if_neg h3, if_neg h2, if_neg h1, if_neg h0]
          by_cases h : 28 ≤ j ∧ j < 28 + 4 * n
          · rw [if_pos h, if_pos (show 28 ≤ j ∧ j < 28 + 4 * (n + 1) by omega)]
          · rw [if_neg h, if_neg (show ¬ (28 ≤ j ∧ j < 28 + 4 * (n + 1)) by omega)]
theorem fClG_4 (f : Int → Int) : fClG f 4 = fClr f := by
  funext j
  unfold fClG fClr fNew fClN
  simp only [up_if]
  by_cases h : 28 ≤ j ∧ j < 44
  · rw [if_pos (show 28 ≤ j ∧ j < 28 + 4 * 4 by omega), if_pos (show 0 ≤ j ∧ j < 134 by omega), if_neg (show ¬ j = 1 by omega), if_neg (show ¬ j = 10 by omega), if_neg (show ¬ j = 11 by omega), if_pos h]
  · rw [if_neg (show ¬ (28 ≤ j ∧ j < 28 + 4 * 4) by omega)]
    by_cases h1 : j = 11
    · rw [if_pos h1, if_pos (show 0 ≤ j ∧ j < 134 by omega), if_neg (show ¬ j = 1 by omega), if_neg (show ¬ j = 10 by omega), if_pos h1]
    · rw [if_neg h1]
      by_cases h2 : j = 10
      · rw [if_pos h2, if_pos (show 0 ≤ j ∧ j < 134 by omega), if_neg (show ¬ j = 1 by omega), if_pos h2]
      · rw [if_neg h2]
        by_cases h3 : j = 1
        · rw [if_pos h3, if_pos (show 0 ≤ j ∧ j < 134 by omega), if_pos h3]
        · rw [if_neg h3]
          by_cases h4 : 0 ≤ j ∧ j < 134
          · rw [if_pos h4, if_pos h4, if_neg h3, if_neg h2, if_neg h1, if_neg h]
          · rw [if_neg h4, if_neg h4]
abbrev rm_X5_chairOn : Room := { frames := 1, cells := 0, slots := 0, locals := 23 }
set_option maxHeartbeats 4000000 in
set_option maxRecDepth 100000 in
theorem c_X5_chairOn (l : Launch) {D : DD} {Λ : LY} {M : MM} {b : Nat} {f : Int → Int} {gu len : Int} (hA0 : Λ b = some (kI D 134)) (hO : M b = f) (hI : Inv f) (hn : f 0 < 10) : CI l yX5_chairOn cX5_chairOn 5 .int rm_X5_chairOn [.ref b, vi gu, vi len] D Λ M (fun z M1 => (z = f 0 ∧ 0 ≤ z ∧ z < 10) ∧ aset M b (fChair f gu len) = M1) := by
  refine CI_of rfl rfl (Nat.le_of_ble_eq_true rfl) (fun Γ g r => ?_)
  have h0 := hI.1
  have h1 := hI.2.1
  refine V_aload_n (q := 1) g dX5_chairOn_0 rfl rfl ?_
  refine V_iconst (q := 2) g dX5_chairOn_1 rfl ?_
  refine V_iaload (q := 3) g dX5_chairOn_2 rfl hA0 (by omega) (by decide) ?_
  rw [hO]
  refine V_istore_n_3 (q := 4) g dX5_chairOn_3 (by decide) rfl rfl ?_
  refine V_iconst (q := 5) g dX5_chairOn_4 rfl ?_
  refine V_istore_4 (q := 7) g dX5_chairOn_5 (by decide) rfl rfl ?_
  refine V_iload (q := 9) g dX5_chairOn_7 rfl rfl ?_
  refine V_bipush (q := 11) g dX5_chairOn_9 (by decide) rfl ?_
  refine V_icmp_ge (q := 14) g dX5_chairOn_11 (tgt := 38) (by decide) rfl (by omega) (by omega) (fun h11 => absurd h11 (by omega)) (fun h11 => ?_)
  refine V_aload_n (q := 15) g dX5_chairOn_14 rfl rfl ?_
  refine V_iload_n (q := 16) g dX5_chairOn_15 rfl rfl ?_
  refine V_iload (q := 18) g dX5_chairOn_16 rfl rfl ?_
  refine V_iload (q := 20) g dX5_chairOn_18 rfl rfl ?_
  refine V_iconst (q := 21) g dX5_chairOn_20 rfl ?_
  refine V_icmp_ge (q := 24) g dX5_chairOn_21 (tgt := 28) (by decide) rfl (by omega) (by omega) (fun h21 => absurd h21 (by omega)) (fun h21 => ?_)
  refine V_iconst (q := 25) g dX5_chairOn_24 rfl ?_
  refine V_goto g dX5_chairOn_25 (tgt := 29) (by decide) ?_
  refine V_callSV_4 (q := 32) g (b_lay l hA0 hO (j := 44 + 9 * (f 0)) (by omega) (by omega) (by omega)) dX5_chairOn_29 k_X5_78 rfl rfl ⟨rfl, rfl⟩ rfl (fun M1 e1 => ?_)
  obtain rfl := e1
  try simp only [aset_aset]
  refine V_iinc_4 (q := 35) g dX5_chairOn_32 (by decide) rfl rfl ?_
  simp only [Int.reduceAdd]
  refine V_goto g dX5_chairOn_35 (tgt := 7) (by decide) ?_
  refine V_iload (q := 9) g dX5_chairOn_7 rfl rfl ?_
  refine V_bipush (q := 11) g dX5_chairOn_9 (by decide) rfl ?_
  refine V_icmp_ge (q := 14) g dX5_chairOn_11 (tgt := 38) (by decide) rfl (by omega) (by omega) (fun h11 => absurd h11 (by omega)) (fun h11 => ?_)
  refine V_aload_n (q := 15) g dX5_chairOn_14 rfl rfl ?_
  refine V_iload_n (q := 16) g dX5_chairOn_15 rfl rfl ?_
  refine V_iload (q := 18) g dX5_chairOn_16 rfl rfl ?_
  refine V_iload (q := 20) g dX5_chairOn_18 rfl rfl ?_
  refine V_iconst (q := 21) g dX5_chairOn_20 rfl ?_
  refine V_icmp_ge (q := 24) g dX5_chairOn_21 (tgt := 28) (by decide) rfl (by omega) (by omega) (fun h21 => absurd h21 (by omega)) (fun h21 => ?_)
  refine V_iconst (q := 25) g dX5_chairOn_24 rfl ?_
  refine V_goto g dX5_chairOn_25 (tgt := 29) (by decide) ?_
  refine V_callSV_4 (q := 32) g (b_lay l hA0 (aset_at _ _ _) (j := 45 + 9 * (f 0)) (by omega) (by omega) (by omega)) dX5_chairOn_29 k_X5_78 rfl rfl ⟨rfl, rfl⟩ rfl (fun M2 e2 => ?_)
  obtain rfl := e2
  try simp only [aset_aset]
  refine V_iinc_4 (q := 35) g dX5_chairOn_32 (by decide) rfl rfl ?_
  simp only [Int.reduceAdd]
  refine V_goto g dX5_chairOn_35 (tgt := 7) (by decide) ?_
  refine V_iload (q := 9) g dX5_chairOn_7 rfl rfl ?_
  refine V_bipush (q := 11) g dX5_chairOn_9 (by decide) rfl ?_
  refine V_icmp_ge (q := 14) g dX5_chairOn_11 (tgt := 38) (by decide) rfl (by omega) (by omega) (fun h11 => absurd h11 (by omega)) (fun h11 => ?_)
  refine V_aload_n (q := 15) g dX5_chairOn_14 rfl rfl ?_
  refine V_iload_n (q := 16) g dX5_chairOn_15 rfl rfl ?_
  refine V_iload (q := 18) g dX5_chairOn_16 rfl rfl ?_
  refine V_iload (q := 20) g dX5_chairOn_18 rfl rfl ?_
  refine V_iconst (q := 21) g dX5_chairOn_20 rfl ?_
  refine V_icmp_ge (q := 24) g dX5_chairOn_21 (tgt := 28) (by decide) rfl (by omega) (by omega) (fun h21 => absurd h21 (by omega)) (fun h21 => ?_)
  refine V_iconst (q := 25) g dX5_chairOn_24 rfl ?_
  refine V_goto g dX5_chairOn_25 (tgt := 29) (by decide) ?_
  refine V_callSV_4 (q := 32) g (b_lay l hA0 (aset_at _ _ _) (j := 46 + 9 * (f 0)) (by omega) (by omega) (by omega)) dX5_chairOn_29 k_X5_78 rfl rfl ⟨rfl, rfl⟩ rfl (fun M3 e3 => ?_)
  obtain rfl := e3
  try simp only [aset_aset]
  refine V_iinc_4 (q := 35) g dX5_chairOn_32 (by decide) rfl rfl ?_
  simp only [Int.reduceAdd]
  refine V_goto g dX5_chairOn_35 (tgt := 7) (by decide) ?_
  refine V_iload (q := 9) g dX5_chairOn_7 rfl rfl ?_
  refine V_bipush (q := 11) g dX5_chairOn_9 (by decide) rfl ?_
  refine V_icmp_ge (q := 14) g dX5_chairOn_11 (tgt := 38) (by decide) rfl (by omega) (by omega) (fun h11 => absurd h11 (by omega)) (fun h11 => ?_)
  refine V_aload_n (q := 15) g dX5_chairOn_14 rfl rfl ?_
  refine V_iload_n (q := 16) g dX5_chairOn_15 rfl rfl ?_
  refine V_iload (q := 18) g dX5_chairOn_16 rfl rfl ?_
  refine V_iload (q := 20) g dX5_chairOn_18 rfl rfl ?_
  refine V_iconst (q := 21) g dX5_chairOn_20 rfl ?_
  refine V_icmp_ge (q := 24) g dX5_chairOn_21 (tgt := 28) (by decide) rfl (by omega) (by omega) (fun h21 => absurd h21 (by omega)) (fun h21 => ?_)
  refine V_iconst (q := 25) g dX5_chairOn_24 rfl ?_
  refine V_goto g dX5_chairOn_25 (tgt := 29) (by decide) ?_
  refine V_callSV_4 (q := 32) g (b_lay l hA0 (aset_at _ _ _) (j := 47 + 9 * (f 0)) (by omega) (by omega) (by omega)) dX5_chairOn_29 k_X5_78 rfl rfl ⟨rfl, rfl⟩ rfl (fun M4 e4 => ?_)
  obtain rfl := e4
  try simp only [aset_aset]
  refine V_iinc_4 (q := 35) g dX5_chairOn_32 (by decide) rfl rfl ?_
  simp only [Int.reduceAdd]
  refine V_goto g dX5_chairOn_35 (tgt := 7) (by decide) ?_
  refine V_iload (q := 9) g dX5_chairOn_7 rfl rfl ?_
  refine V_bipush (q := 11) g dX5_chairOn_9 (by decide) rfl ?_
  refine V_icmp_ge (q := 14) g dX5_chairOn_11 (tgt := 38) (by decide) rfl (by omega) (by omega) (fun h11 => absurd h11 (by omega)) (fun h11 => ?_)
  refine V_aload_n (q := 15) g dX5_chairOn_14 rfl rfl ?_
  refine V_iload_n (q := 16) g dX5_chairOn_15 rfl rfl ?_
  refine V_iload (q := 18) g dX5_chairOn_16 rfl rfl ?_
  refine V_iload (q := 20) g dX5_chairOn_18 rfl rfl ?_
  refine V_iconst (q := 21) g dX5_chairOn_20 rfl ?_
  refine V_icmp_ge (q := 24) g dX5_chairOn_21 (tgt := 28) (by decide) rfl (by omega) (by omega) (fun h21 => absurd h21 (by omega)) (fun h21 => ?_)
  refine V_iconst (q := 25) g dX5_chairOn_24 rfl ?_
  refine V_goto g dX5_chairOn_25 (tgt := 29) (by decide) ?_
  refine V_callSV_4 (q := 32) g (b_lay l hA0 (aset_at _ _ _) (j := 48 + 9 * (f 0)) (by omega) (by omega) (by omega)) dX5_chairOn_29 k_X5_78 rfl rfl ⟨rfl, rfl⟩ rfl (fun M5 e5 => ?_)
  obtain rfl := e5
  try simp only [aset_aset]
  refine V_iinc_4 (q := 35) g dX5_chairOn_32 (by decide) rfl rfl ?_
  simp only [Int.reduceAdd]
  refine V_goto g dX5_chairOn_35 (tgt := 7) (by decide) ?_
  refine V_iload (q := 9) g dX5_chairOn_7 rfl rfl ?_
  refine V_bipush (q := 11) g dX5_chairOn_9 (by decide) rfl ?_
  refine V_icmp_ge (q := 14) g dX5_chairOn_11 (tgt := 38) (by decide) rfl (by omega) (by omega) (fun h11 => absurd h11 (by omega)) (fun h11 => ?_)
  refine V_aload_n (q := 15) g dX5_chairOn_14 rfl rfl ?_
  refine V_iload_n (q := 16) g dX5_chairOn_15 rfl rfl ?_
  refine V_iload (q := 18) g dX5_chairOn_16 rfl rfl ?_
  refine V_iload (q := 20) g dX5_chairOn_18 rfl rfl ?_
  refine V_iconst (q := 21) g dX5_chairOn_20 rfl ?_
  refine V_icmp_ge (q := 24) g dX5_chairOn_21 (tgt := 28) (by decide) rfl (by omega) (by omega) (fun h21 => ?_) (fun h21 => absurd h21 (by omega))
  refine V_iload_n (q := 29) g dX5_chairOn_28 rfl rfl ?_
  refine V_callSV_4 (q := 32) g (b_lay l hA0 (aset_at _ _ _) (j := 49 + 9 * (f 0)) (by omega) (by omega) (by omega)) dX5_chairOn_29 k_X5_78 rfl rfl ⟨rfl, rfl⟩ rfl (fun M6 e6 => ?_)
  obtain rfl := e6
  try simp only [aset_aset]
  refine V_iinc_4 (q := 35) g dX5_chairOn_32 (by decide) rfl rfl ?_
  simp only [Int.reduceAdd]
  refine V_goto g dX5_chairOn_35 (tgt := 7) (by decide) ?_
  refine V_iload (q := 9) g dX5_chairOn_7 rfl rfl ?_
  refine V_bipush (q := 11) g dX5_chairOn_9 (by decide) rfl ?_
  refine V_icmp_ge (q := 14) g dX5_chairOn_11 (tgt := 38) (by decide) rfl (by omega) (by omega) (fun h11 => absurd h11 (by omega)) (fun h11 => ?_)
  refine V_aload_n (q := 15) g dX5_chairOn_14 rfl rfl ?_
  refine V_iload_n (q := 16) g dX5_chairOn_15 rfl rfl ?_
  refine V_iload (q := 18) g dX5_chairOn_16 rfl rfl ?_
  refine V_iload (q := 20) g dX5_chairOn_18 rfl rfl ?_
  refine V_iconst (q := 21) g dX5_chairOn_20 rfl ?_
  refine V_icmp_ge (q := 24) g dX5_chairOn_21 (tgt := 28) (by decide) rfl (by omega) (by omega) (fun h21 => ?_) (fun h21 => absurd h21 (by omega))
  refine V_iload_n (q := 29) g dX5_chairOn_28 rfl rfl ?_
  refine V_callSV_4 (q := 32) g (b_lay l hA0 (aset_at _ _ _) (j := 50 + 9 * (f 0)) (by omega) (by omega) (by omega)) dX5_chairOn_29 k_X5_78 rfl rfl ⟨rfl, rfl⟩ rfl (fun M7 e7 => ?_)
  obtain rfl := e7
  try simp only [aset_aset]
  refine V_iinc_4 (q := 35) g dX5_chairOn_32 (by decide) rfl rfl ?_
  simp only [Int.reduceAdd]
  refine V_goto g dX5_chairOn_35 (tgt := 7) (by decide) ?_
  refine V_iload (q := 9) g dX5_chairOn_7 rfl rfl ?_
  refine V_bipush (q := 11) g dX5_chairOn_9 (by decide) rfl ?_
  refine V_icmp_ge (q := 14) g dX5_chairOn_11 (tgt := 38) (by decide) rfl (by omega) (by omega) (fun h11 => absurd h11 (by omega)) (fun h11 => ?_)
  refine V_aload_n (q := 15) g dX5_chairOn_14 rfl rfl ?_
  refine V_iload_n (q := 16) g dX5_chairOn_15 rfl rfl ?_
  refine V_iload (q := 18) g dX5_chairOn_16 rfl rfl ?_
  refine V_iload (q := 20) g dX5_chairOn_18 rfl rfl ?_
  refine V_iconst (q := 21) g dX5_chairOn_20 rfl ?_
  refine V_icmp_ge (q := 24) g dX5_chairOn_21 (tgt := 28) (by decide) rfl (by omega) (by omega) (fun h21 => ?_) (fun h21 => absurd h21 (by omega))
  refine V_iload_n (q := 29) g dX5_chairOn_28 rfl rfl ?_
  refine V_callSV_4 (q := 32) g (b_lay l hA0 (aset_at _ _ _) (j := 51 + 9 * (f 0)) (by omega) (by omega) (by omega)) dX5_chairOn_29 k_X5_78 rfl rfl ⟨rfl, rfl⟩ rfl (fun M8 e8 => ?_)
  obtain rfl := e8
  try simp only [aset_aset]
  refine V_iinc_4 (q := 35) g dX5_chairOn_32 (by decide) rfl rfl ?_
  simp only [Int.reduceAdd]
  refine V_goto g dX5_chairOn_35 (tgt := 7) (by decide) ?_
  refine V_iload (q := 9) g dX5_chairOn_7 rfl rfl ?_
  refine V_bipush (q := 11) g dX5_chairOn_9 (by decide) rfl ?_
  refine V_icmp_ge (q := 14) g dX5_chairOn_11 (tgt := 38) (by decide) rfl (by omega) (by omega) (fun h11 => absurd h11 (by omega)) (fun h11 => ?_)
  refine V_aload_n (q := 15) g dX5_chairOn_14 rfl rfl ?_
  refine V_iload_n (q := 16) g dX5_chairOn_15 rfl rfl ?_
  refine V_iload (q := 18) g dX5_chairOn_16 rfl rfl ?_
  refine V_iload (q := 20) g dX5_chairOn_18 rfl rfl ?_
  refine V_iconst (q := 21) g dX5_chairOn_20 rfl ?_
  refine V_icmp_ge (q := 24) g dX5_chairOn_21 (tgt := 28) (by decide) rfl (by omega) (by omega) (fun h21 => ?_) (fun h21 => absurd h21 (by omega))
  refine V_iload_n (q := 29) g dX5_chairOn_28 rfl rfl ?_
  refine V_callSV_4 (q := 32) g (b_lay l hA0 (aset_at _ _ _) (j := 52 + 9 * (f 0)) (by omega) (by omega) (by omega)) dX5_chairOn_29 k_X5_78 rfl rfl ⟨rfl, rfl⟩ rfl (fun M9 e9 => ?_)
  obtain rfl := e9
  try simp only [aset_aset]
  refine V_iinc_4 (q := 35) g dX5_chairOn_32 (by decide) rfl rfl ?_
  simp only [Int.reduceAdd]
  refine V_goto g dX5_chairOn_35 (tgt := 7) (by decide) ?_
  refine V_iload (q := 9) g dX5_chairOn_7 rfl rfl ?_
  refine V_bipush (q := 11) g dX5_chairOn_9 (by decide) rfl ?_
  refine V_icmp_ge (q := 14) g dX5_chairOn_11 (tgt := 38) (by decide) rfl (by omega) (by omega) (fun h11 => ?_) (fun h11 => absurd h11 (by omega))
  refine V_aload_n (q := 39) g dX5_chairOn_38 rfl rfl ?_
  refine V_iload_n (q := 40) g dX5_chairOn_39 rfl rfl ?_
  refine V_iconst (q := 41) g dX5_chairOn_40 rfl ?_
  refine V_iload_n (q := 42) g dX5_chairOn_41 rfl rfl ?_
  refine V_callSV_4 (q := 45) g (b_lay l hA0 (aset_at _ _ _) (j := 44 + 9 * (f 0)) (by omega) (by omega) (by omega)) dX5_chairOn_42 k_X5_78 rfl rfl ⟨rfl, rfl⟩ rfl (fun M10 e10 => ?_)
  obtain rfl := e10
  try simp only [aset_aset]
  refine V_aload_n (q := 46) g dX5_chairOn_45 rfl rfl ?_
  refine V_iconst (q := 47) g dX5_chairOn_46 rfl ?_
  refine V_dup2 (q := 48) g dX5_chairOn_47 rfl rfl rfl ?_
  refine V_iaload (q := 49) g dX5_chairOn_48 rfl hA0 (by omega) (by decide) ?_
  rw [aset_at]
  rw [up_ne (by omega), up_ne (by omega), up_ne (by omega), up_ne (by omega), up_ne (by omega), up_ne (by omega), up_ne (by omega), up_ne (by omega), up_ne (by omega), up_ne (by omega)]
  refine V_iconst (q := 50) g dX5_chairOn_49 rfl ?_
  refine V_iadd (q := 51) g dX5_chairOn_50 rfl ?_
  refine V_iastore (q := 52) g dX5_chairOn_51 rfl hA0 (by omega) (by decide) ?_
  simp only [wr_self, aset_aset, aset_at, hO]
  refine V_iload_n (q := 53) g dX5_chairOn_52 rfl rfl ?_
  exact V_ireturn g r dX5_chairOn_53 rfl ⟨⟨rfl, by omega, by omega⟩, (by congr 1; funext j; unfold fChair; simp only [up_if]; (repeat' split) <;> first | rfl | omega)⟩
abbrev rm_X5_floorOn : Room := { frames := 0, cells := 0, slots := 0, locals := 0 }
set_option maxHeartbeats 4000000 in
set_option maxRecDepth 100000 in
theorem c_X5_floorOn (l : Launch) {D : DD} {Λ : LY} {M : MM} {b : Nat} {f : Int → Int} {x1 x2 x3 x4 : Int} (hA0 : Λ b = some (kI D 134)) (hO : M b = f) (hI : Inv f) (hn : f 1 < 4) : CI l yX5_floorOn cX5_floorOn 6 .int rm_X5_floorOn [.ref b, vi x1, vi x2, vi x3, vi x4] D Λ M (fun z M1 => (z = f 1 ∧ 1 ≤ z ∧ z < 4) ∧ aset M b (fFloor f x1 x2 x3 x4) = M1) := by
  refine CI_of rfl rfl (Nat.le_of_ble_eq_true rfl) (fun Γ g r => ?_)
  have h0 := hI.1
  have h1 := hI.2.1
  refine V_bipush (q := 2) g dX5_floorOn_0 (by decide) rfl ?_
  refine V_iconst (q := 3) g dX5_floorOn_2 rfl ?_
  refine V_aload_n (q := 4) g dX5_floorOn_3 rfl rfl ?_
  refine V_iconst (q := 5) g dX5_floorOn_4 rfl ?_
  refine V_iaload (q := 6) g dX5_floorOn_5 rfl hA0 (by omega) (by decide) ?_
  rw [hO]
  refine V_imul (q := 7) g dX5_floorOn_6 rfl ?_
  refine V_iadd (q := 8) g dX5_floorOn_7 rfl ?_
  refine V_istore_5 (q := 10) g dX5_floorOn_8 (by decide) rfl rfl ?_
  refine V_aload_n (q := 11) g dX5_floorOn_10 rfl rfl ?_
  refine V_iload (q := 13) g dX5_floorOn_11 rfl rfl ?_
  refine V_iload_n (q := 14) g dX5_floorOn_13 rfl rfl ?_
  refine V_iastore (q := 15) g dX5_floorOn_14 rfl hA0 (by omega) (by decide) ?_
  simp only [wr_self, aset_aset, aset_at, hO]
  refine V_aload_n (q := 16) g dX5_floorOn_15 rfl rfl ?_
  refine V_iload (q := 18) g dX5_floorOn_16 rfl rfl ?_
  refine V_iconst (q := 19) g dX5_floorOn_18 rfl ?_
  refine V_iadd (q := 20) g dX5_floorOn_19 rfl ?_
  refine V_iload_n (q := 21) g dX5_floorOn_20 rfl rfl ?_
  refine V_iastore (q := 22) g dX5_floorOn_21 rfl hA0 (by omega) (by decide) ?_
  simp only [wr_self, aset_aset, aset_at, hO]
  refine V_aload_n (q := 23) g dX5_floorOn_22 rfl rfl ?_
  refine V_iload (q := 25) g dX5_floorOn_23 rfl rfl ?_
  refine V_iconst (q := 26) g dX5_floorOn_25 rfl ?_
  refine V_iadd (q := 27) g dX5_floorOn_26 rfl ?_
  refine V_iload_n (q := 28) g dX5_floorOn_27 rfl rfl ?_
  refine V_iastore (q := 29) g dX5_floorOn_28 rfl hA0 (by omega) (by decide) ?_
  simp only [wr_self, aset_aset, aset_at, hO]
  refine V_aload_n (q := 30) g dX5_floorOn_29 rfl rfl ?_
  refine V_iload (q := 32) g dX5_floorOn_30 rfl rfl ?_
  refine V_iconst (q := 33) g dX5_floorOn_32 rfl ?_
  refine V_iadd (q := 34) g dX5_floorOn_33 rfl ?_
  refine V_iload (q := 36) g dX5_floorOn_34 rfl rfl ?_
  refine V_iastore (q := 37) g dX5_floorOn_36 rfl hA0 (by omega) (by decide) ?_
  simp only [wr_self, aset_aset, aset_at, hO]
  refine V_aload_n (q := 38) g dX5_floorOn_37 rfl rfl ?_
  refine V_iconst (q := 39) g dX5_floorOn_38 rfl ?_
  refine V_dup2 (q := 40) g dX5_floorOn_39 rfl rfl rfl ?_
  refine V_iaload (q := 41) g dX5_floorOn_40 rfl hA0 (by omega) (by decide) ?_
  rw [aset_at]
  rw [up_ne (by omega), up_ne (by omega), up_ne (by omega), up_ne (by omega)]
  refine V_iconst (q := 42) g dX5_floorOn_41 rfl ?_
  refine V_iadd (q := 43) g dX5_floorOn_42 rfl ?_
  refine V_iastore (q := 44) g dX5_floorOn_43 rfl hA0 (by omega) (by decide) ?_
  simp only [wr_self, aset_aset, aset_at, hO]
  refine V_aload_n (q := 45) g dX5_floorOn_44 rfl rfl ?_
  refine V_iconst (q := 46) g dX5_floorOn_45 rfl ?_
  refine V_iaload (q := 47) g dX5_floorOn_46 rfl hA0 (by omega) (by decide) ?_
  rw [aset_at]
  rw [up_eq]
  refine V_iconst (q := 48) g dX5_floorOn_47 rfl ?_
  refine V_isub (q := 49) g dX5_floorOn_48 rfl ?_
  exact V_ireturn g r dX5_floorOn_49 rfl ⟨⟨by omega, by omega, by omega⟩, (by congr 1; funext j; unfold fFloor; simp only [up_if]; (repeat' split) <;> first | rfl | omega)⟩
abbrev rm_X5_levelOn : Room := { frames := 2, cells := 0, slots := 0, locals := 44 }
set_option maxHeartbeats 4000000 in
set_option maxRecDepth 100000 in
theorem c_X5_levelOn (l : Launch) {D : DD} {Λ : LY} {M : MM} {b : Nat} {f : Int → Int} {fl k v : Int} (hA0 : Λ b = some (kI D 134)) (hO : M b = f) (hI : Inv f) (hf : 0 ≤ fl ∧ fl < 4) (hk : 0 ≤ k ∧ k < 4) (hv : 0 ≤ v ∧ v ≤ 50) : CI l yX5_levelOn cX5_levelOn 6 .int rm_X5_levelOn [.ref b, vi fl, vi k, vi v] D Λ M (fun z M1 => (z = f (12 + (4 * fl + k)) ∧ 0 ≤ z ∧ z ≤ 50) ∧ aset M b (fLevel f fl k v) = M1) := by
  refine CI_of rfl rfl (Nat.le_of_ble_eq_true rfl) (fun Γ g r => ?_)
  have h0 := hI.1
  have h1 := hI.2.1
  have hs := hI.2.2.2.2.1 (4 * fl + k) (by omega) (by omega)
  refine V_aload_n (q := 1) g dX5_levelOn_0 rfl rfl ?_
  refine V_bipush (q := 3) g dX5_levelOn_1 (by decide) rfl ?_
  refine V_iconst (q := 4) g dX5_levelOn_3 rfl ?_
  refine V_iload_n (q := 5) g dX5_levelOn_4 rfl rfl ?_
  refine V_imul (q := 6) g dX5_levelOn_5 rfl ?_
  refine V_iadd (q := 7) g dX5_levelOn_6 rfl ?_
  refine V_iload_n (q := 8) g dX5_levelOn_7 rfl rfl ?_
  refine V_iadd (q := 9) g dX5_levelOn_8 rfl ?_
  refine V_iaload (q := 10) g dX5_levelOn_9 rfl hA0 (by omega) (by decide) ?_
  rw [hO]
  rw [show (12 + 4 * fl + k : Int) = 12 + (4 * fl + k) by omega]
  refine V_istore_4 (q := 12) g dX5_levelOn_10 (by decide) rfl rfl ?_
  refine V_aload_n (q := 13) g dX5_levelOn_12 rfl rfl ?_
  refine V_bipush (q := 15) g dX5_levelOn_13 (by decide) rfl ?_
  refine V_iconst (q := 16) g dX5_levelOn_15 rfl ?_
  refine V_iload_n (q := 17) g dX5_levelOn_16 rfl rfl ?_
  refine V_imul (q := 18) g dX5_levelOn_17 rfl ?_
  refine V_iadd (q := 19) g dX5_levelOn_18 rfl ?_
  refine V_iload_n (q := 20) g dX5_levelOn_19 rfl rfl ?_
  refine V_iadd (q := 21) g dX5_levelOn_20 rfl ?_
  refine V_iload_n (q := 22) g dX5_levelOn_21 rfl rfl ?_
  refine V_iastore (q := 23) g dX5_levelOn_22 rfl hA0 (by omega) (by decide) ?_
  simp only [wr_self, aset_aset, aset_at, hO]
  try rw [show (12 + 4 * fl + k : Int) = 12 + (4 * fl + k) by omega]
  refine V_iconst (q := 24) g dX5_levelOn_23 rfl ?_
  refine V_istore_5 (q := 26) g dX5_levelOn_24 (by decide) rfl rfl ?_
  have hI1 := Inv_spot (i := 4 * fl + k) (v := v) hI (by omega) hv
  have hloop : ∀ (k9 : Nat) (n : Nat), (v = f (12 + (4 * fl + k)) → n = 0) → (n : Int) ≤ f 0 → f 0 - n ≤ k9 → V Γ D Λ (aset M b (fLvlN (up f (12 + (4 * fl + k)) v) fl n)) (0, 0) 26 [some (.ref b), some (vi fl), some (vi k), some (vi v), some (vi (f (12 + (4 * fl + k)))), some (vi (n : Int))] [] := by
    intro k9
    induction k9 with
    | zero =>
      intro n hv0 h2 h3
      have jn := lvlN (fl := fl) hI1 n
      have j0 : fLvlN (up f (12 + (4 * fl + k)) v) fl n 0 = f 0 := by rw [jn.2 0 (by decide) (fun c _ _ => by omega), up_ne (by omega)]
      have j1 : fLvlN (up f (12 + (4 * fl + k)) v) fl n 1 = f 1 := by rw [jn.2 1 (by decide) (fun c _ _ => by omega), up_ne (by omega)]
      refine V_iload (q := 28) g dX5_levelOn_26 rfl rfl ?_
      refine V_aload_n (q := 29) g dX5_levelOn_28 rfl rfl ?_
      refine V_iconst (q := 30) g dX5_levelOn_29 rfl ?_
      refine V_iaload (q := 31) g dX5_levelOn_30 rfl hA0 (by omega) (by decide) ?_
      rw [aset_at]
      rw [j0]
      refine V_icmp_ge (q := 34) g dX5_levelOn_31 (tgt := 63) (by decide) rfl (by omega) (by omega) (fun h31 => ?_) (fun h31 => absurd h31 (by omega))
      have hn : n = (f 0).toNat := by omega
      refine V_iload (q := 65) g dX5_levelOn_63 rfl rfl ?_
      exact V_ireturn g r dX5_levelOn_65 rfl ⟨⟨rfl, by omega, by omega⟩, by rw [lvl_up (n := n) (by omega) (by omega)]⟩
    | succ k9 ih =>
      intro n hv0 h2 h3
      have jn := lvlN (fl := fl) hI1 n
      have j0 : fLvlN (up f (12 + (4 * fl + k)) v) fl n 0 = f 0 := by rw [jn.2 0 (by decide) (fun c _ _ => by omega), up_ne (by omega)]
      have j1 : fLvlN (up f (12 + (4 * fl + k)) v) fl n 1 = f 1 := by rw [jn.2 1 (by decide) (fun c _ _ => by omega), up_ne (by omega)]
      refine V_iload (q := 28) g dX5_levelOn_26 rfl rfl ?_
      refine V_aload_n (q := 29) g dX5_levelOn_28 rfl rfl ?_
      refine V_iconst (q := 30) g dX5_levelOn_29 rfl ?_
      refine V_iaload (q := 31) g dX5_levelOn_30 rfl hA0 (by omega) (by decide) ?_
      rw [aset_at]
      rw [j0]
      refine V_icmp_ge (q := 34) g dX5_levelOn_31 (tgt := 63) (by decide) rfl (by omega) (by omega) (fun h31 => ?_) (fun h31 => ?_)
      · have hn : n = (f 0).toNat := by omega
        refine V_iload (q := 65) g dX5_levelOn_63 rfl rfl ?_
        exact V_ireturn g r dX5_levelOn_65 rfl ⟨⟨rfl, by omega, by omega⟩, by rw [lvl_up (n := n) (by omega) (by omega)]⟩
      · refine V_iload_n (q := 35) g dX5_levelOn_34 rfl rfl ?_
        refine V_iload (q := 37) g dX5_levelOn_35 rfl rfl ?_
        refine V_icmp_eq (q := 40) g dX5_levelOn_37 (tgt := 63) (by decide) rfl (by omega) (by omega) (fun h37 => ?_) (fun h37 => ?_)
        · refine V_iload (q := 65) g dX5_levelOn_63 rfl rfl ?_
          exact V_ireturn g r dX5_levelOn_65 rfl ⟨⟨rfl, by omega, by omega⟩, by rw [lvl_up (n := n) (by omega) (by omega)]⟩
        · refine V_aload_n (q := 41) g dX5_levelOn_40 rfl rfl ?_
          refine V_iload (q := 43) g dX5_levelOn_41 rfl rfl ?_
          refine V_iconst (q := 44) g dX5_levelOn_43 rfl ?_
          refine V_callSI_3 (q := 47) g (b_of1 l hA0 (aset_at _ _ _) jn.1 (by omega)) dX5_levelOn_44 k_X5_51 rfl rfl ⟨rfl, rfl⟩ rfl (fun z1 M1 e1 => ?_)
          obtain ⟨⟨e1, b1⟩, rfl⟩ := e1
          refine V_iload_n (q := 48) g dX5_levelOn_47 rfl rfl ?_
          refine V_icmp_ne (q := 51) g dX5_levelOn_48 (tgt := 57) (by decide) rfl (by omega) (by omega) (fun h48 => ?_) (fun h48 => ?_)
          · refine V_iinc_5 (q := 60) g dX5_levelOn_57 (by decide) rfl rfl ?_
            refine V_goto g dX5_levelOn_60 (tgt := 26) (by decide) ?_
            have q9 := ih (n + 1) (by omega) (by omega) (by omega)
            rw [fLvlN] at q9
            first
              | (rw [if_pos (by omega)] at q9; exact q9)
              | (rw [if_neg (by omega)] at q9; exact q9)
          · refine V_aload_n (q := 52) g dX5_levelOn_51 rfl rfl ?_
            refine V_iload (q := 54) g dX5_levelOn_52 rfl rfl ?_
            refine V_callSV_2 (q := 57) g (c_X5_voids l hA0 (aset_at _ _ _) jn.1 (by omega)) dX5_levelOn_54 k_X5_82 rfl rfl ⟨rfl, rfl⟩ rfl (fun M2 e2 => ?_)
            obtain rfl := e2
            try simp only [aset_aset]
            refine V_iinc_5 (q := 60) g dX5_levelOn_57 (by decide) rfl rfl ?_
            refine V_goto g dX5_levelOn_60 (tgt := 26) (by decide) ?_
            have q9 := ih (n + 1) (by omega) (by omega) (by omega)
            rw [fLvlN] at q9
            first
              | (rw [if_pos (by omega)] at q9; exact q9)
              | (rw [if_neg (by omega)] at q9; exact q9)
  exact hloop (f 0).toNat 0 (fun _ => rfl) (by omega) (by omega)
abbrev rm_X5_boundOn : Room := { frames := 6, cells := 0, slots := 0, locals := 130 }
set_option maxHeartbeats 4000000 in
set_option maxRecDepth 100000 in
theorem c_X5_boundOn (l : Launch) {D : DD} {Λ : LY} {M : MM} {b : Nat} {f : Int → Int} {gu k v : Int} (hA0 : Λ b = some (kI D 134)) (hO : M b = f) (hI : Inv f) (hg : 0 ≤ gu ∧ gu < 4) (hk : 0 ≤ k ∧ k < 4) (hv : k < 2 ∧ 100 ≤ v ∧ v ≤ 900 ∨ k = 2 ∧ 0 ≤ v ∧ v ≤ 100 ∨ k = 3 ∧ 0 ≤ v ∧ v ≤ 200) : CI l yX5_boundOn cX5_boundOn 6 .int rm_X5_boundOn [.ref b, vi gu, vi k, vi v] D Λ M (fun z M1 => z = fBound f gu k v 4 - f 4 ∧ aset M b (fBound f gu k v) = M1) := by
  refine CI_of rfl rfl (Nat.le_of_ble_eq_true rfl) (fun Γ g r => ?_)
  have h0 := hI.1
  have h1 := hI.2.1
  refine V_aload_n (q := 1) g dX5_boundOn_0 rfl rfl ?_
  refine V_iconst (q := 2) g dX5_boundOn_1 rfl ?_
  refine V_iaload (q := 3) g dX5_boundOn_2 rfl hA0 (by omega) (by decide) ?_
  rw [hO]
  refine V_istore_4 (q := 5) g dX5_boundOn_3 (by decide) rfl rfl ?_
  refine V_aload_n (q := 6) g dX5_boundOn_5 rfl rfl ?_
  refine V_bipush (q := 8) g dX5_boundOn_6 (by decide) rfl ?_
  refine V_iconst (q := 9) g dX5_boundOn_8 rfl ?_
  refine V_iload_n (q := 10) g dX5_boundOn_9 rfl rfl ?_
  refine V_imul (q := 11) g dX5_boundOn_10 rfl ?_
  refine V_iadd (q := 12) g dX5_boundOn_11 rfl ?_
  refine V_iload_n (q := 13) g dX5_boundOn_12 rfl rfl ?_
  refine V_iadd (q := 14) g dX5_boundOn_13 rfl ?_
  refine V_iload_n (q := 15) g dX5_boundOn_14 rfl rfl ?_
  refine V_iastore (q := 16) g dX5_boundOn_15 rfl hA0 (by omega) (by decide) ?_
  simp only [wr_self, aset_aset, aset_at, hO]
  rw [show (28 + 4 * gu + k : Int) = 28 + (4 * gu + k) by omega]
  refine V_iconst (q := 17) g dX5_boundOn_16 rfl ?_
  refine V_istore_5 (q := 19) g dX5_boundOn_17 (by decide) rfl rfl ?_
  have hI1 := Inv_lim (gu := gu) (k := k) (v := v) hI hg hk (by omega)
  have hloop : ∀ (k9 : Nat) (n : Nat), (n : Int) ≤ f 0 → f 0 - n ≤ k9 → V Γ D Λ (aset M b (fBndN (up f (28 + (4 * gu + k)) v) gu n)) (0, 0) 19 [some (.ref b), some (vi gu), some (vi k), some (vi v), some (vi (f 4)), some (vi (n : Int))] [] := by
    intro k9
    induction k9 with
    | zero =>
      intro n h2 h3
      have jn := bndN (gu := gu) hI1 n
      have j0 : fBndN (up f (28 + (4 * gu + k)) v) gu n 0 = f 0 := by rw [jn.2 0 (by decide) (fun c _ _ => by omega), up_ne (by omega)]
      refine V_iload (q := 21) g dX5_boundOn_19 rfl rfl ?_
      refine V_aload_n (q := 22) g dX5_boundOn_21 rfl rfl ?_
      refine V_iconst (q := 23) g dX5_boundOn_22 rfl ?_
      refine V_iaload (q := 24) g dX5_boundOn_23 rfl hA0 (by omega) (by decide) ?_
      rw [aset_at]
      rw [j0]
      refine V_icmp_ge (q := 27) g dX5_boundOn_24 (tgt := 59) (by decide) rfl (by omega) (by omega) (fun h24 => ?_) (fun h24 => absurd h24 (by omega))
      have hn : n = (f 0).toNat := by omega
      subst hn
      refine V_aload_n (q := 60) g dX5_boundOn_59 rfl rfl ?_
      refine V_iconst (q := 61) g dX5_boundOn_60 rfl ?_
      refine V_iaload (q := 62) g dX5_boundOn_61 rfl hA0 (by omega) (by decide) ?_
      rw [aset_at]
      refine V_iload (q := 64) g dX5_boundOn_62 rfl rfl ?_
      refine V_isub (q := 65) g dX5_boundOn_64 rfl ?_
      exact V_ireturn g r dX5_boundOn_65 rfl ⟨rfl, rfl⟩
    | succ k9 ih =>
      intro n h2 h3
      have jn := bndN (gu := gu) hI1 n
      have j0 : fBndN (up f (28 + (4 * gu + k)) v) gu n 0 = f 0 := by rw [jn.2 0 (by decide) (fun c _ _ => by omega), up_ne (by omega)]
      refine V_iload (q := 21) g dX5_boundOn_19 rfl rfl ?_
      refine V_aload_n (q := 22) g dX5_boundOn_21 rfl rfl ?_
      refine V_iconst (q := 23) g dX5_boundOn_22 rfl ?_
      refine V_iaload (q := 24) g dX5_boundOn_23 rfl hA0 (by omega) (by decide) ?_
      rw [aset_at]
      rw [j0]
      refine V_icmp_ge (q := 27) g dX5_boundOn_24 (tgt := 59) (by decide) rfl (by omega) (by omega) (fun h24 => ?_) (fun h24 => ?_)
      · have hn : n = (f 0).toNat := by omega
        subst hn
        refine V_aload_n (q := 60) g dX5_boundOn_59 rfl rfl ?_
        refine V_iconst (q := 61) g dX5_boundOn_60 rfl ?_
        refine V_iaload (q := 62) g dX5_boundOn_61 rfl hA0 (by omega) (by decide) ?_
        rw [aset_at]
        refine V_iload (q := 64) g dX5_boundOn_62 rfl rfl ?_
        refine V_isub (q := 65) g dX5_boundOn_64 rfl ?_
        exact V_ireturn g r dX5_boundOn_65 rfl ⟨rfl, rfl⟩
      · refine V_aload_n (q := 28) g dX5_boundOn_27 rfl rfl ?_
        refine V_iload (q := 30) g dX5_boundOn_28 rfl rfl ?_
        refine V_iconst (q := 31) g dX5_boundOn_30 rfl ?_
        refine V_callSI_3 (q := 34) g (b_of0 l hA0 (aset_at _ _ _) jn.1 (by omega)) dX5_boundOn_31 k_X5_51 rfl rfl ⟨rfl, rfl⟩ rfl (fun z1 M1 e1 => ?_)
        obtain ⟨⟨e1, b1⟩, rfl⟩ := e1
        refine V_iload_n (q := 35) g dX5_boundOn_34 rfl rfl ?_
        refine V_icmp_ne (q := 38) g dX5_boundOn_35 (tgt := 53) (by decide) rfl (by omega) (by omega) (fun h35 => ?_) (fun h35 => ?_)
        · refine V_iinc_5 (q := 56) g dX5_boundOn_53 (by decide) rfl rfl ?_
          refine V_goto g dX5_boundOn_56 (tgt := 19) (by decide) ?_
          have q9 := ih (n + 1) (by omega) (by omega)
          rw [fBndN] at q9
          first
            | (rw [if_pos (by omega)] at q9; exact q9)
            | (rw [if_neg (by omega)] at q9; exact q9)
        · refine V_aload_n (q := 39) g dX5_boundOn_38 rfl rfl ?_
          refine V_iload (q := 41) g dX5_boundOn_39 rfl rfl ?_
          refine V_callSI_2 (q := 44) g (c_X5_reason l hA0 (aset_at _ _ _) jn.1 (by omega)) dX5_boundOn_41 k_X5_90 rfl rfl ⟨rfl, rfl⟩ rfl (fun z2 M2 e2 => ?_)
          obtain ⟨⟨e2, b2⟩, rfl⟩ := e2
          refine V_if_le (q := 47) g dX5_boundOn_44 (tgt := 53) (by decide) rfl (by omega) (fun h44 => ?_) (fun h44 => ?_)
          · refine V_iinc_5 (q := 56) g dX5_boundOn_53 (by decide) rfl rfl ?_
            refine V_goto g dX5_boundOn_56 (tgt := 19) (by decide) ?_
            have q9 := ih (n + 1) (by omega) (by omega)
            rw [fBndN] at q9
            first
              | (rw [if_pos (by omega)] at q9; exact q9)
              | (rw [if_neg (by omega)] at q9; exact q9)
          · refine V_aload_n (q := 48) g dX5_boundOn_47 rfl rfl ?_
            refine V_iload (q := 50) g dX5_boundOn_48 rfl rfl ?_
            refine V_callSV_2 (q := 53) g (c_X5_voids l hA0 (aset_at _ _ _) jn.1 (by omega)) dX5_boundOn_50 k_X5_82 rfl rfl ⟨rfl, rfl⟩ rfl (fun M3 e3 => ?_)
            obtain rfl := e3
            try simp only [aset_aset]
            refine V_iinc_5 (q := 56) g dX5_boundOn_53 (by decide) rfl rfl ?_
            refine V_goto g dX5_boundOn_56 (tgt := 19) (by decide) ?_
            have q9 := ih (n + 1) (by omega) (by omega)
            rw [fBndN] at q9
            first
              | (rw [if_pos (by omega)] at q9; exact q9)
              | (rw [if_neg (by omega)] at q9; exact q9)
  exact hloop (f 0).toNat 0 (by omega) (by omega)
abbrev rm_X5_sitOn : Room := { frames := 5, cells := 0, slots := 0, locals := 110 }
set_option maxHeartbeats 4000000 in
set_option maxRecDepth 100000 in
theorem c_X5_sitOn (l : Launch) {D : DD} {Λ : LY} {M : MM} {b : Nat} {f : Int → Int} {c wt : Int} (hA0 : Λ b = some (kI D 134)) (hO : M b = f) (hI : Inv f) (hc : 0 ≤ c ∧ c < f 0) (hw : 0 ≤ wt ∧ wt ≤ 200) : CI l yX5_sitOn cX5_sitOn 9 .int rm_X5_sitOn [.ref b, vi c, vi wt] D Λ M (fun z M1 => (z = (sSitN f c (wt / f 11) (sIdle f c) 4) ∧ 0 ≤ z ∧ z ≤ 3200) ∧ aset M b (fSit f c wt) = M1) := by
  refine CI_of rfl rfl (Nat.le_of_ble_eq_true rfl) (fun Γ g r => ?_)
  have h0 := hI.1
  have h1 := hI.2.1
  have h11 := hI.2.2.2.1
  have hw0 : 0 ≤ wt / f 11 := Int.ediv_nonneg hw.1 (by omega)
  have hw1 : wt / f 11 ≤ wt := Int.ediv_le_self _ hw.1
  refine V_aload_n (q := 1) g dX5_sitOn_0 rfl rfl ?_
  refine V_iload_n (q := 2) g dX5_sitOn_1 rfl rfl ?_
  refine V_callSI_2 (q := 5) g (c_X5_idleOf l hA0 hO hI (by omega)) dX5_sitOn_2 k_X5_93 rfl rfl ⟨rfl, rfl⟩ rfl (fun z1 M1 e1 => ?_)
  obtain ⟨⟨e1, b1⟩, rfl⟩ := e1
  refine V_istore_n_3 (q := 6) g dX5_sitOn_5 (by decide) rfl rfl ?_
  refine V_iload_n (q := 7) g dX5_sitOn_6 rfl rfl ?_
  refine V_aload_n (q := 8) g dX5_sitOn_7 rfl rfl ?_
  refine V_bipush (q := 10) g dX5_sitOn_8 (by decide) rfl ?_
  refine V_iaload (q := 11) g dX5_sitOn_10 rfl hA0 (by omega) (by decide) ?_
  rw [hO]
  refine V_idiv (q := 12) g dX5_sitOn_11 (by omega) (by omega) rfl ?_
  refine V_istore_4 (q := 14) g dX5_sitOn_12 (by decide) rfl rfl ?_
  refine V_iconst (q := 15) g dX5_sitOn_14 rfl ?_
  refine V_istore_5 (q := 17) g dX5_sitOn_15 (by decide) rfl rfl ?_
  refine V_iconst (q := 18) g dX5_sitOn_17 rfl ?_
  refine V_istore_6 (q := 20) g dX5_sitOn_18 (by decide) rfl rfl ?_
  have hM : M = aset M b (fSitN f c (wt / f 11) (sIdle f c) 0) := (aset_id hO).symm
  rw [e1, hM]
  have hloop : ∀ (k9 : Nat) (n : Nat) (y7 y8 : Option Value), n ≤ 4 → 4 - n ≤ k9 → V Γ D Λ (aset M b (fSitN f c (wt / f 11) (sIdle f c) n)) (0, 0) 20 [some (.ref b), some (vi c), some (vi wt), some (vi (sIdle f c)), some (vi (wt / f 11)), some (vi (sSitN f c (wt / f 11) (sIdle f c) n)), some (vi (n : Int)), y7, y8] [] := by
    intro k9
    induction k9 with
    | zero =>
      intro n y7 y8 h2 h3
      have jn := sitN (idle := (sIdle f c)) hI hc hw0 n h2
      have jc : 0 ≤ c ∧ c < (fSitN f c (wt / f 11) (sIdle f c) n) 0 := by rw [jn.2.1 0 (by decide) (by omega) (by omega)]; exact hc
      refine V_iload (q := 22) g dX5_sitOn_20 rfl rfl ?_
      refine V_iconst (q := 23) g dX5_sitOn_22 rfl ?_
      refine V_icmp_ge (q := 26) g dX5_sitOn_23 (tgt := 90) (by decide) rfl (by omega) (by omega) (fun h23 => ?_) (fun h23 => absurd h23 (by omega))
      have hn : n = 4 := by omega
      subst hn
      refine V_aload_n (q := 91) g dX5_sitOn_90 rfl rfl ?_
      refine V_bipush (q := 93) g dX5_sitOn_91 (by decide) rfl ?_
      refine V_dup2 (q := 94) g dX5_sitOn_93 rfl rfl rfl ?_
      refine V_iaload (q := 95) g dX5_sitOn_94 rfl hA0 (by omega) (by decide) ?_
      rw [aset_at]
      rw [jn.2.1 6 (by decide) (by omega) (by omega)]
      refine V_iconst (q := 96) g dX5_sitOn_95 rfl ?_
      refine V_iadd (q := 97) g dX5_sitOn_96 rfl ?_
      refine V_iastore (q := 98) g dX5_sitOn_97 rfl hA0 (by omega) (by decide) ?_
      simp only [wr_self, aset_aset, aset_at, hO]
      refine V_aload_n (q := 99) g dX5_sitOn_98 rfl rfl ?_
      refine V_bipush (q := 101) g dX5_sitOn_99 (by decide) rfl ?_
      refine V_dup2 (q := 102) g dX5_sitOn_101 rfl rfl rfl ?_
      refine V_iaload (q := 103) g dX5_sitOn_102 rfl hA0 (by omega) (by decide) ?_
      rw [aset_at]
      rw [up_ne (by omega), jn.2.1 9 (by decide) (by omega) (by omega)]
      refine V_iload (q := 105) g dX5_sitOn_103 rfl rfl ?_
      refine V_iadd (q := 106) g dX5_sitOn_105 rfl ?_
      refine V_iastore (q := 107) g dX5_sitOn_106 rfl hA0 (by omega) (by decide) ?_
      simp only [wr_self, aset_aset, aset_at, hO]
      refine V_aload_n (q := 108) g dX5_sitOn_107 rfl rfl ?_
      refine V_iload_n (q := 109) g dX5_sitOn_108 rfl rfl ?_
      refine V_iconst (q := 110) g dX5_sitOn_109 rfl ?_
      refine V_aload_n (q := 111) g dX5_sitOn_110 rfl rfl ?_
      refine V_iload_n (q := 112) g dX5_sitOn_111 rfl rfl ?_
      refine V_iconst (q := 113) g dX5_sitOn_112 rfl ?_
      refine V_callSI_3 (q := 116) g (b_of4 l hA0 (aset_at _ _ _) (by omega)) dX5_sitOn_113 k_X5_51 rfl rfl ⟨rfl, rfl⟩ rfl (fun z2 M2 e2 => ?_)
      obtain ⟨e2, rfl⟩ := e2
      rw [up_ne (by omega), up_ne (by omega), jn.2.1 (48 + 9 * c) (by omega) (by omega) (by omega)] at e2
      rw [e2]
      refine V_iconst (q := 117) g dX5_sitOn_116 rfl ?_
      refine V_iadd (q := 118) g dX5_sitOn_117 rfl ?_
      refine V_callSV_4 (q := 121) g (b_lay l hA0 (aset_at _ _ _) (j := 48 + 9 * c) (by omega) (by omega) (by omega)) dX5_sitOn_118 k_X5_78 rfl rfl ⟨rfl, rfl⟩ rfl (fun M3 e3 => ?_)
      obtain rfl := e3
      try simp only [aset_aset]
      rw [sit_end]
      refine V_iload (q := 123) g dX5_sitOn_121 rfl rfl ?_
      exact V_ireturn g r dX5_sitOn_123 rfl ⟨⟨rfl, by omega, by omega⟩, rfl⟩
    | succ k9 ih =>
      intro n y7 y8 h2 h3
      have jn := sitN (idle := (sIdle f c)) hI hc hw0 n h2
      have jc : 0 ≤ c ∧ c < (fSitN f c (wt / f 11) (sIdle f c) n) 0 := by rw [jn.2.1 0 (by decide) (by omega) (by omega)]; exact hc
      refine V_iload (q := 22) g dX5_sitOn_20 rfl rfl ?_
      refine V_iconst (q := 23) g dX5_sitOn_22 rfl ?_
      refine V_icmp_ge (q := 26) g dX5_sitOn_23 (tgt := 90) (by decide) rfl (by omega) (by omega) (fun h23 => ?_) (fun h23 => ?_)
      · have hn : n = 4 := by omega
        subst hn
        refine V_aload_n (q := 91) g dX5_sitOn_90 rfl rfl ?_
        refine V_bipush (q := 93) g dX5_sitOn_91 (by decide) rfl ?_
        refine V_dup2 (q := 94) g dX5_sitOn_93 rfl rfl rfl ?_
        refine V_iaload (q := 95) g dX5_sitOn_94 rfl hA0 (by omega) (by decide) ?_
        rw [aset_at]
        rw [jn.2.1 6 (by decide) (by omega) (by omega)]
        refine V_iconst (q := 96) g dX5_sitOn_95 rfl ?_
        refine V_iadd (q := 97) g dX5_sitOn_96 rfl ?_
        refine V_iastore (q := 98) g dX5_sitOn_97 rfl hA0 (by omega) (by decide) ?_
        simp only [wr_self, aset_aset, aset_at, hO]
        refine V_aload_n (q := 99) g dX5_sitOn_98 rfl rfl ?_
        refine V_bipush (q := 101) g dX5_sitOn_99 (by decide) rfl ?_
        refine V_dup2 (q := 102) g dX5_sitOn_101 rfl rfl rfl ?_
        refine V_iaload (q := 103) g dX5_sitOn_102 rfl hA0 (by omega) (by decide) ?_
        rw [aset_at]
        rw [up_ne (by omega), jn.2.1 9 (by decide) (by omega) (by omega)]
        refine V_iload (q := 105) g dX5_sitOn_103 rfl rfl ?_
        refine V_iadd (q := 106) g dX5_sitOn_105 rfl ?_
        refine V_iastore (q := 107) g dX5_sitOn_106 rfl hA0 (by omega) (by decide) ?_
        simp only [wr_self, aset_aset, aset_at, hO]
        refine V_aload_n (q := 108) g dX5_sitOn_107 rfl rfl ?_
        refine V_iload_n (q := 109) g dX5_sitOn_108 rfl rfl ?_
        refine V_iconst (q := 110) g dX5_sitOn_109 rfl ?_
        refine V_aload_n (q := 111) g dX5_sitOn_110 rfl rfl ?_
        refine V_iload_n (q := 112) g dX5_sitOn_111 rfl rfl ?_
        refine V_iconst (q := 113) g dX5_sitOn_112 rfl ?_
        refine V_callSI_3 (q := 116) g (b_of4 l hA0 (aset_at _ _ _) (by omega)) dX5_sitOn_113 k_X5_51 rfl rfl ⟨rfl, rfl⟩ rfl (fun z4 M4 e4 => ?_)
        obtain ⟨e4, rfl⟩ := e4
        rw [up_ne (by omega), up_ne (by omega), jn.2.1 (48 + 9 * c) (by omega) (by omega) (by omega)] at e4
        rw [e4]
        refine V_iconst (q := 117) g dX5_sitOn_116 rfl ?_
        refine V_iadd (q := 118) g dX5_sitOn_117 rfl ?_
        refine V_callSV_4 (q := 121) g (b_lay l hA0 (aset_at _ _ _) (j := 48 + 9 * c) (by omega) (by omega) (by omega)) dX5_sitOn_118 k_X5_78 rfl rfl ⟨rfl, rfl⟩ rfl (fun M5 e5 => ?_)
        obtain rfl := e5
        try simp only [aset_aset]
        rw [sit_end]
        refine V_iload (q := 123) g dX5_sitOn_121 rfl rfl ?_
        exact V_ireturn g r dX5_sitOn_123 rfl ⟨⟨rfl, by omega, by omega⟩, rfl⟩
      · refine V_aload_n (q := 27) g dX5_sitOn_26 rfl rfl ?_
        refine V_iload_n (q := 28) g dX5_sitOn_27 rfl rfl ?_
        refine V_iconst (q := 29) g dX5_sitOn_28 rfl ?_
        refine V_iload (q := 31) g dX5_sitOn_29 rfl rfl ?_
        refine V_iadd (q := 32) g dX5_sitOn_31 rfl ?_
        refine V_callSI_3 (q := 35) g (b_leg l hA0 (aset_at _ _ _) jn.1 jc (by omega)) dX5_sitOn_32 k_X5_51 rfl rfl ⟨rfl, rfl⟩ rfl (fun z6 M6 e6 => ?_)
        obtain ⟨⟨e6, b6⟩, rfl⟩ := e6
        rw [e6]
        refine V_bipush (q := 37) g dX5_sitOn_35 (by decide) rfl ?_
        refine V_isub (q := 38) g dX5_sitOn_37 rfl ?_
        refine V_istore_7 (q := 40) g dX5_sitOn_38 (by decide) rfl rfl ?_
        refine V_iload (q := 42) g dX5_sitOn_40 rfl rfl ?_
        refine V_iload_n (q := 43) g dX5_sitOn_42 rfl rfl ?_
        refine V_icmp_ne (q := 46) g dX5_sitOn_43 (tgt := 50) (by decide) rfl (by omega) (by omega) (fun h43 => ?_) (fun h43 => ?_)
        · refine V_iload (q := 52) g dX5_sitOn_50 rfl rfl ?_
          refine V_iload (q := 54) g dX5_sitOn_52 rfl rfl ?_
          refine V_icmp_ge (q := 57) g dX5_sitOn_54 (tgt := 62) (by decide) rfl (by omega) (by omega) (fun h54 => ?_) (fun h54 => ?_)
          · refine V_iload (q := 64) g dX5_sitOn_62 rfl rfl ?_
            have hb := sBy_r (idle := (sIdle f c)) (k := (n : Int)) jn.1 jc (by omega) hw0
            have hE : sBy (fSitN f c (wt / f 11) (sIdle f c) n) c (wt / f 11) (sIdle f c) n = ((fSitN f c (wt / f 11) (sIdle f c) n) (49 + 9 * c + n) - 100) := by unfold sBy; repeat (first | rw [if_pos (by omega)] | rw [if_neg (by omega)])
            refine V_istore_8 (q := 66) g dX5_sitOn_64 (by decide) rfl rfl ?_
            refine V_aload_n (q := 67) g dX5_sitOn_66 rfl rfl ?_
            refine V_iload_n (q := 68) g dX5_sitOn_67 rfl rfl ?_
            refine V_iload (q := 70) g dX5_sitOn_68 rfl rfl ?_
            refine V_iload (q := 72) g dX5_sitOn_70 rfl rfl ?_
            refine V_ineg (q := 73) g dX5_sitOn_72 rfl ?_
            refine V_callSI_4 (q := 76) g (c_X5_leg l hA0 (aset_at _ _ _) jn.1 jc (by omega) (by omega)) dX5_sitOn_73 k_X5_86 rfl rfl ⟨rfl, rfl⟩ rfl (fun z7 M7 e7 => ?_)
            obtain ⟨e7, rfl⟩ := e7
            try simp only [aset_aset]
            refine V_pop (q := 77) g dX5_sitOn_76 rfl rfl ?_
            refine V_iload (q := 79) g dX5_sitOn_77 rfl rfl ?_
            refine V_iload (q := 81) g dX5_sitOn_79 rfl rfl ?_
            refine V_iadd (q := 82) g dX5_sitOn_81 rfl ?_
            refine V_istore_5 (q := 84) g dX5_sitOn_82 (by decide) rfl rfl ?_
            refine V_iinc_6 (q := 87) g dX5_sitOn_84 (by decide) rfl rfl ?_
            refine V_goto g dX5_sitOn_87 (tgt := 20) (by decide) ?_
            have q9 := fun y7 y8 => ih (n + 1) y7 y8 (by omega) (by omega)
            rw [fSitN, sSitN, hE] at q9
            exact q9 _ _
          · refine V_iload (q := 59) g dX5_sitOn_57 rfl rfl ?_
            refine V_goto g dX5_sitOn_59 (tgt := 64) (by decide) ?_
            have hb := sBy_r (idle := (sIdle f c)) (k := (n : Int)) jn.1 jc (by omega) hw0
            have hE : sBy (fSitN f c (wt / f 11) (sIdle f c) n) c (wt / f 11) (sIdle f c) n = (wt / f 11) := by unfold sBy; repeat (first | rw [if_pos (by omega)] | rw [if_neg (by omega)])
            refine V_istore_8 (q := 66) g dX5_sitOn_64 (by decide) rfl rfl ?_
            refine V_aload_n (q := 67) g dX5_sitOn_66 rfl rfl ?_
            refine V_iload_n (q := 68) g dX5_sitOn_67 rfl rfl ?_
            refine V_iload (q := 70) g dX5_sitOn_68 rfl rfl ?_
            refine V_iload (q := 72) g dX5_sitOn_70 rfl rfl ?_
            refine V_ineg (q := 73) g dX5_sitOn_72 rfl ?_
            refine V_callSI_4 (q := 76) g (c_X5_leg l hA0 (aset_at _ _ _) jn.1 jc (by omega) (by omega)) dX5_sitOn_73 k_X5_86 rfl rfl ⟨rfl, rfl⟩ rfl (fun z8 M8 e8 => ?_)
            obtain ⟨e8, rfl⟩ := e8
            try simp only [aset_aset]
            refine V_pop (q := 77) g dX5_sitOn_76 rfl rfl ?_
            refine V_iload (q := 79) g dX5_sitOn_77 rfl rfl ?_
            refine V_iload (q := 81) g dX5_sitOn_79 rfl rfl ?_
            refine V_iadd (q := 82) g dX5_sitOn_81 rfl ?_
            refine V_istore_5 (q := 84) g dX5_sitOn_82 (by decide) rfl rfl ?_
            refine V_iinc_6 (q := 87) g dX5_sitOn_84 (by decide) rfl rfl ?_
            refine V_goto g dX5_sitOn_87 (tgt := 20) (by decide) ?_
            have q9 := fun y7 y8 => ih (n + 1) y7 y8 (by omega) (by omega)
            rw [fSitN, sSitN, hE] at q9
            exact q9 _ _
        · refine V_iconst (q := 47) g dX5_sitOn_46 rfl ?_
          refine V_goto g dX5_sitOn_47 (tgt := 64) (by decide) ?_
          have hb := sBy_r (idle := (sIdle f c)) (k := (n : Int)) jn.1 jc (by omega) hw0
          have hE : sBy (fSitN f c (wt / f 11) (sIdle f c) n) c (wt / f 11) (sIdle f c) n = (0 : Int) := by unfold sBy; repeat (first | rw [if_pos (by omega)] | rw [if_neg (by omega)])
          refine V_istore_8 (q := 66) g dX5_sitOn_64 (by decide) rfl rfl ?_
          refine V_aload_n (q := 67) g dX5_sitOn_66 rfl rfl ?_
          refine V_iload_n (q := 68) g dX5_sitOn_67 rfl rfl ?_
          refine V_iload (q := 70) g dX5_sitOn_68 rfl rfl ?_
          refine V_iload (q := 72) g dX5_sitOn_70 rfl rfl ?_
          refine V_ineg (q := 73) g dX5_sitOn_72 rfl ?_
          refine V_callSI_4 (q := 76) g (c_X5_leg l hA0 (aset_at _ _ _) jn.1 jc (by omega) (by omega)) dX5_sitOn_73 k_X5_86 rfl rfl ⟨rfl, rfl⟩ rfl (fun z9 M9 e9 => ?_)
          obtain ⟨e9, rfl⟩ := e9
          try simp only [aset_aset]
          refine V_pop (q := 77) g dX5_sitOn_76 rfl rfl ?_
          refine V_iload (q := 79) g dX5_sitOn_77 rfl rfl ?_
          refine V_iload (q := 81) g dX5_sitOn_79 rfl rfl ?_
          refine V_iadd (q := 82) g dX5_sitOn_81 rfl ?_
          refine V_istore_5 (q := 84) g dX5_sitOn_82 (by decide) rfl rfl ?_
          refine V_iinc_6 (q := 87) g dX5_sitOn_84 (by decide) rfl rfl ?_
          refine V_goto g dX5_sitOn_87 (tgt := 20) (by decide) ?_
          have q9 := fun y7 y8 => ih (n + 1) y7 y8 (by omega) (by omega)
          rw [fSitN, sSitN, hE] at q9
          exact q9 _ _
  exact hloop 4 0 _ _ (by omega) (by omega)
abbrev rm_X5_copyState : Room := { frames := 0, cells := 0, slots := 0, locals := 0 }
set_option maxHeartbeats 4000000 in
set_option maxRecDepth 100000 in
theorem c_X5_copyState (l : Launch) {D : DD} {Λ : LY} {M : MM} {a b n1 n2 : Nat} {p q : Int} (hA0 : Λ a = some (kI D n1)) (hA2 : Λ b = some (kI D n2)) (hn1 : n1 < 2147483648) (hn2 : n2 < 2147483648) (hp : 0 ≤ p ∧ p + 134 ≤ n1) (hq : 0 ≤ q ∧ q + 134 ≤ n2) (hab : a ≠ b) : CV l yX5_copyState cX5_copyState 5 rm_X5_copyState [.ref a, vi p, .ref b, vi q] D Λ M (fun M1 => aset M b (fCpy (M a) p (M b) q 134) = M1) := by
  refine CV_of rfl rfl (Nat.le_of_ble_eq_true rfl) (fun Γ g r => ?_)
  have hloop : ∀ (k : Nat) (i : Int), 0 ≤ i → i ≤ 134 → 134 - i ≤ k → V Γ D Λ (aset M b (fCpy (M a) p (M b) q i)) (0, 0) 3 [some (.ref a), some (vi p), some (.ref b), some (vi q), some (vi i)] [] := by
    intro k
    induction k with
    | zero =>
      intro i h1 h2 h3
      refine V_iload (q := 5) g dX5_copyState_3 rfl rfl ?_
      refine V_sipush (q := 8) g dX5_copyState_5 (by decide) rfl ?_
      refine V_icmp_ge (q := 11) g dX5_copyState_8 (tgt := 29) (by decide) rfl (by omega) (by omega) (fun h8 => ?_) (fun h8 => ?_)
      · have h9 : i = 134 := by omega
        subst h9
        exact V_return g r dX5_copyState_29 rfl
      · refine V_aload_n (q := 12) g dX5_copyState_11 rfl rfl ?_
        refine V_iload_n (q := 13) g dX5_copyState_12 rfl rfl ?_
        refine V_iload (q := 15) g dX5_copyState_13 rfl rfl ?_
        refine V_iadd (q := 16) g dX5_copyState_15 rfl ?_
        refine V_aload_n (q := 17) g dX5_copyState_16 rfl rfl ?_
        refine V_iload_n (q := 18) g dX5_copyState_17 rfl rfl ?_
        refine V_iload (q := 20) g dX5_copyState_18 rfl rfl ?_
        refine V_iadd (q := 21) g dX5_copyState_20 rfl ?_
        refine V_iaload (q := 22) g dX5_copyState_21 rfl hA0 (by omega) hn1 ?_
        rw [aset_ne M _ hab]
        refine V_iastore (q := 23) g dX5_copyState_22 rfl hA2 (by omega) hn2 ?_
        rw [wr_aset, fCpy_s _ _ _ _ h1]
        refine V_iinc_4 (q := 26) g dX5_copyState_23 (by decide) rfl rfl ?_
        refine V_goto g dX5_copyState_26 (tgt := 3) (by decide) ?_
        exact False.elim (by omega)
    | succ k ih =>
      intro i h1 h2 h3
      refine V_iload (q := 5) g dX5_copyState_3 rfl rfl ?_
      refine V_sipush (q := 8) g dX5_copyState_5 (by decide) rfl ?_
      refine V_icmp_ge (q := 11) g dX5_copyState_8 (tgt := 29) (by decide) rfl (by omega) (by omega) (fun h8 => ?_) (fun h8 => ?_)
      · have h9 : i = 134 := by omega
        subst h9
        exact V_return g r dX5_copyState_29 rfl
      · refine V_aload_n (q := 12) g dX5_copyState_11 rfl rfl ?_
        refine V_iload_n (q := 13) g dX5_copyState_12 rfl rfl ?_
        refine V_iload (q := 15) g dX5_copyState_13 rfl rfl ?_
        refine V_iadd (q := 16) g dX5_copyState_15 rfl ?_
        refine V_aload_n (q := 17) g dX5_copyState_16 rfl rfl ?_
        refine V_iload_n (q := 18) g dX5_copyState_17 rfl rfl ?_
        refine V_iload (q := 20) g dX5_copyState_18 rfl rfl ?_
        refine V_iadd (q := 21) g dX5_copyState_20 rfl ?_
        refine V_iaload (q := 22) g dX5_copyState_21 rfl hA0 (by omega) hn1 ?_
        rw [aset_ne M _ hab]
        refine V_iastore (q := 23) g dX5_copyState_22 rfl hA2 (by omega) hn2 ?_
        rw [wr_aset, fCpy_s _ _ _ _ h1]
        refine V_iinc_4 (q := 26) g dX5_copyState_23 (by decide) rfl rfl ?_
        refine V_goto g dX5_copyState_26 (tgt := 3) (by decide) ?_
        exact ih (i + 1) (by omega) (by omega) (by omega)
  refine V_iconst (q := 1) g dX5_copyState_0 rfl ?_
  refine V_istore_4 (q := 3) g dX5_copyState_1 (by decide) rfl rfl ?_
  have hM : M = aset M b (fCpy (M a) p (M b) q 0) := by rw [fCpy_0, aset_self]
  rw [hM]
  exact hloop 134 0 (by decide) (by decide) (by decide)
abbrev rm_X5_clear : Room := { frames := 0, cells := 0, slots := 0, locals := 0 }
set_option maxHeartbeats 4000000 in
set_option maxRecDepth 100000 in
theorem c_X5_clear (l : Launch) {D : DD} {Λ : LY} {M : MM} {b : Nat} {f : Int → Int} (hA0 : Λ b = some (kI D 134)) (hO : M b = f) : CV l yX5_clear cX5_clear 2 rm_X5_clear [.ref b] D Λ M (fun M1 => aset M b (fClr f) = M1) := by
  refine CV_of rfl rfl (Nat.le_of_ble_eq_true rfl) (fun Γ g r => ?_)
  refine V_iconst (q := 1) g dX5_clear_0 rfl ?_
  refine V_istore_n_1 (q := 2) g dX5_clear_1 (by decide) rfl rfl ?_
  have hloop : ∀ (k9 : Nat) (n : Nat), (n : Int) ≤ 134 → 134 - n ≤ k9 → V Γ D Λ (aset M b (fClN f n)) (0, 0) 2 [some (.ref b), some (vi (n : Int))] [] := by
    intro k9
    induction k9 with
    | zero =>
      intro n h2 h3
      refine V_iload_n (q := 3) g dX5_clear_2 rfl rfl ?_
      refine V_sipush (q := 6) g dX5_clear_3 (by decide) rfl ?_
      refine V_icmp_ge (q := 9) g dX5_clear_6 (tgt := 19) (by decide) rfl (by omega) (by omega) (fun h6 => ?_) (fun h6 => absurd h6 (by omega))
      have hn : n = 134 := by omega
      subst hn
      rw [show ((134 : Nat) : Int) = 134 from rfl]
      refine V_aload_n (q := 20) g dX5_clear_19 rfl rfl ?_
      refine V_iconst (q := 21) g dX5_clear_20 rfl ?_
      refine V_iconst (q := 22) g dX5_clear_21 rfl ?_
      refine V_iastore (q := 23) g dX5_clear_22 rfl hA0 (by omega) (by decide) ?_
      simp only [wr_self, aset_aset, aset_at, hO]
      refine V_aload_n (q := 24) g dX5_clear_23 rfl rfl ?_
      refine V_bipush (q := 26) g dX5_clear_24 (by decide) rfl ?_
      refine V_iconst (q := 27) g dX5_clear_26 rfl ?_
      refine V_iastore (q := 28) g dX5_clear_27 rfl hA0 (by omega) (by decide) ?_
      simp only [wr_self, aset_aset, aset_at, hO]
      refine V_aload_n (q := 29) g dX5_clear_28 rfl rfl ?_
      refine V_bipush (q := 31) g dX5_clear_29 (by decide) rfl ?_
      refine V_bipush (q := 33) g dX5_clear_31 (by decide) rfl ?_
      refine V_iastore (q := 34) g dX5_clear_33 rfl hA0 (by omega) (by decide) ?_
      simp only [wr_self, aset_aset, aset_at, hO]
      refine V_iconst (q := 35) g dX5_clear_34 rfl ?_
      refine V_istore_n_1 (q := 36) g dX5_clear_35 (by decide) rfl rfl ?_
      have hloop2 : ∀ (k9 : Nat) (n : Nat), (n : Int) ≤ 4 → 4 - n ≤ k9 → V Γ D Λ (aset M b (fClG f n)) (0, 0) 36 [some (.ref b), some (vi (n : Int))] [] := by
        intro k9
        induction k9 with
        | zero =>
          intro n h2 h3
          refine V_iload_n (q := 37) g dX5_clear_36 rfl rfl ?_
          refine V_iconst (q := 38) g dX5_clear_37 rfl ?_
          refine V_icmp_ge (q := 41) g dX5_clear_38 (tgt := 94) (by decide) rfl (by omega) (by omega) (fun h38 => ?_) (fun h38 => absurd h38 (by omega))
          have hn : n = 4 := by omega
          subst hn
          exact V_return g r dX5_clear_94 (by rw [← fClG_4]; rfl)
        | succ k9 ih =>
          intro n h2 h3
          refine V_iload_n (q := 37) g dX5_clear_36 rfl rfl ?_
          refine V_iconst (q := 38) g dX5_clear_37 rfl ?_
          refine V_icmp_ge (q := 41) g dX5_clear_38 (tgt := 94) (by decide) rfl (by omega) (by omega) (fun h38 => ?_) (fun h38 => ?_)
          · have hn : n = 4 := by omega
            subst hn
            exact V_return g r dX5_clear_94 (by rw [← fClG_4]; rfl)
          · refine V_aload_n (q := 42) g dX5_clear_41 rfl rfl ?_
            refine V_bipush (q := 44) g dX5_clear_42 (by decide) rfl ?_
            refine V_iconst (q := 45) g dX5_clear_44 rfl ?_
            refine V_iload_n (q := 46) g dX5_clear_45 rfl rfl ?_
            refine V_imul (q := 47) g dX5_clear_46 rfl ?_
            refine V_iadd (q := 48) g dX5_clear_47 rfl ?_
            refine V_sipush (q := 51) g dX5_clear_48 (by decide) rfl ?_
            refine V_iastore (q := 52) g dX5_clear_51 rfl hA0 (by omega) (by decide) ?_
            simp only [wr_self, aset_aset, aset_at, hO]
            refine V_aload_n (q := 53) g dX5_clear_52 rfl rfl ?_
            refine V_bipush (q := 55) g dX5_clear_53 (by decide) rfl ?_
            refine V_iconst (q := 56) g dX5_clear_55 rfl ?_
            refine V_iload_n (q := 57) g dX5_clear_56 rfl rfl ?_
            refine V_imul (q := 58) g dX5_clear_57 rfl ?_
            refine V_iadd (q := 59) g dX5_clear_58 rfl ?_
            refine V_iconst (q := 60) g dX5_clear_59 rfl ?_
            refine V_iadd (q := 61) g dX5_clear_60 rfl ?_
            refine V_sipush (q := 64) g dX5_clear_61 (by decide) rfl ?_
            refine V_iastore (q := 65) g dX5_clear_64 rfl hA0 (by omega) (by decide) ?_
            simp only [wr_self, aset_aset, aset_at, hO]
            refine V_aload_n (q := 66) g dX5_clear_65 rfl rfl ?_
            refine V_bipush (q := 68) g dX5_clear_66 (by decide) rfl ?_
            refine V_iconst (q := 69) g dX5_clear_68 rfl ?_
            refine V_iload_n (q := 70) g dX5_clear_69 rfl rfl ?_
            refine V_imul (q := 71) g dX5_clear_70 rfl ?_
            refine V_iadd (q := 72) g dX5_clear_71 rfl ?_
            refine V_iconst (q := 73) g dX5_clear_72 rfl ?_
            refine V_iadd (q := 74) g dX5_clear_73 rfl ?_
            refine V_iconst (q := 75) g dX5_clear_74 rfl ?_
            refine V_iastore (q := 76) g dX5_clear_75 rfl hA0 (by omega) (by decide) ?_
            simp only [wr_self, aset_aset, aset_at, hO]
            refine V_aload_n (q := 77) g dX5_clear_76 rfl rfl ?_
            refine V_bipush (q := 79) g dX5_clear_77 (by decide) rfl ?_
            refine V_iconst (q := 80) g dX5_clear_79 rfl ?_
            refine V_iload_n (q := 81) g dX5_clear_80 rfl rfl ?_
            refine V_imul (q := 82) g dX5_clear_81 rfl ?_
            refine V_iadd (q := 83) g dX5_clear_82 rfl ?_
            refine V_iconst (q := 84) g dX5_clear_83 rfl ?_
            refine V_iadd (q := 85) g dX5_clear_84 rfl ?_
            refine V_bipush (q := 87) g dX5_clear_85 (by decide) rfl ?_
            refine V_iastore (q := 88) g dX5_clear_87 rfl hA0 (by omega) (by decide) ?_
            simp only [wr_self, aset_aset, aset_at, hO]
            refine V_iinc_1 (q := 91) g dX5_clear_88 (by decide) rfl rfl ?_
            refine V_goto g dX5_clear_91 (tgt := 36) (by decide) ?_
            rw [fClG_s f (by omega)]
            exact ih (n + 1) (by omega) (by omega)
      rw [← fClG_0]
      exact hloop2 4 0 (by decide) (by decide)
    | succ k9 ih =>
      intro n h2 h3
      refine V_iload_n (q := 3) g dX5_clear_2 rfl rfl ?_
      refine V_sipush (q := 6) g dX5_clear_3 (by decide) rfl ?_
      refine V_icmp_ge (q := 9) g dX5_clear_6 (tgt := 19) (by decide) rfl (by omega) (by omega) (fun h6 => ?_) (fun h6 => ?_)
      · have hn : n = 134 := by omega
        subst hn
        rw [show ((134 : Nat) : Int) = 134 from rfl]
        refine V_aload_n (q := 20) g dX5_clear_19 rfl rfl ?_
        refine V_iconst (q := 21) g dX5_clear_20 rfl ?_
        refine V_iconst (q := 22) g dX5_clear_21 rfl ?_
        refine V_iastore (q := 23) g dX5_clear_22 rfl hA0 (by omega) (by decide) ?_
        simp only [wr_self, aset_aset, aset_at, hO]
        refine V_aload_n (q := 24) g dX5_clear_23 rfl rfl ?_
        refine V_bipush (q := 26) g dX5_clear_24 (by decide) rfl ?_
        refine V_iconst (q := 27) g dX5_clear_26 rfl ?_
        refine V_iastore (q := 28) g dX5_clear_27 rfl hA0 (by omega) (by decide) ?_
        simp only [wr_self, aset_aset, aset_at, hO]
        refine V_aload_n (q := 29) g dX5_clear_28 rfl rfl ?_
        refine V_bipush (q := 31) g dX5_clear_29 (by decide) rfl ?_
        refine V_bipush (q := 33) g dX5_clear_31 (by decide) rfl ?_
        refine V_iastore (q := 34) g dX5_clear_33 rfl hA0 (by omega) (by decide) ?_
        simp only [wr_self, aset_aset, aset_at, hO]
        refine V_iconst (q := 35) g dX5_clear_34 rfl ?_
        refine V_istore_n_1 (q := 36) g dX5_clear_35 (by decide) rfl rfl ?_
        have hloop2 : ∀ (k9 : Nat) (n : Nat), (n : Int) ≤ 4 → 4 - n ≤ k9 → V Γ D Λ (aset M b (fClG f n)) (0, 0) 36 [some (.ref b), some (vi (n : Int))] [] := by
          intro k9
          induction k9 with
          | zero =>
            intro n h2 h3
            refine V_iload_n (q := 37) g dX5_clear_36 rfl rfl ?_
            refine V_iconst (q := 38) g dX5_clear_37 rfl ?_
            refine V_icmp_ge (q := 41) g dX5_clear_38 (tgt := 94) (by decide) rfl (by omega) (by omega) (fun h38 => ?_) (fun h38 => absurd h38 (by omega))
            have hn : n = 4 := by omega
            subst hn
            exact V_return g r dX5_clear_94 (by rw [← fClG_4]; rfl)
          | succ k9 ih =>
            intro n h2 h3
            refine V_iload_n (q := 37) g dX5_clear_36 rfl rfl ?_
            refine V_iconst (q := 38) g dX5_clear_37 rfl ?_
            refine V_icmp_ge (q := 41) g dX5_clear_38 (tgt := 94) (by decide) rfl (by omega) (by omega) (fun h38 => ?_) (fun h38 => ?_)
            · have hn : n = 4 := by omega
              subst hn
              exact V_return g r dX5_clear_94 (by rw [← fClG_4]; rfl)
            · refine V_aload_n (q := 42) g dX5_clear_41 rfl rfl ?_
              refine V_bipush (q := 44) g dX5_clear_42 (by decide) rfl ?_
              refine V_iconst (q := 45) g dX5_clear_44 rfl ?_
              refine V_iload_n (q := 46) g dX5_clear_45 rfl rfl ?_
              refine V_imul (q := 47) g dX5_clear_46 rfl ?_
              refine V_iadd (q := 48) g dX5_clear_47 rfl ?_
              refine V_sipush (q := 51) g dX5_clear_48 (by decide) rfl ?_
              refine V_iastore (q := 52) g dX5_clear_51 rfl hA0 (by omega) (by decide) ?_
              simp only [wr_self, aset_aset, aset_at, hO]
              refine V_aload_n (q := 53) g dX5_clear_52 rfl rfl ?_
              refine V_bipush (q := 55) g dX5_clear_53 (by decide) rfl ?_
              refine V_iconst (q := 56) g dX5_clear_55 rfl ?_
              refine V_iload_n (q := 57) g dX5_clear_56 rfl rfl ?_
              refine V_imul (q := 58) g dX5_clear_57 rfl ?_
              refine V_iadd (q := 59) g dX5_clear_58 rfl ?_
              refine V_iconst (q := 60) g dX5_clear_59 rfl ?_
              refine V_iadd (q := 61) g dX5_clear_60 rfl ?_
              refine V_sipush (q := 64) g dX5_clear_61 (by decide) rfl ?_
              refine V_iastore (q := 65) g dX5_clear_64 rfl hA0 (by omega) (by decide) ?_
              simp only [wr_self, aset_aset, aset_at, hO]
              refine V_aload_n (q := 66) g dX5_clear_65 rfl rfl ?_
              refine V_bipush (q := 68) g dX5_clear_66 (by decide) rfl ?_
              refine V_iconst (q := 69) g dX5_clear_68 rfl ?_
              refine V_iload_n (q := 70) g dX5_clear_69 rfl rfl ?_
              refine V_imul (q := 71) g dX5_clear_70 rfl ?_
              refine V_iadd (q := 72) g dX5_clear_71 rfl ?_
              refine V_iconst (q := 73) g dX5_clear_72 rfl ?_
              refine V_iadd (q := 74) g dX5_clear_73 rfl ?_
              refine V_iconst (q := 75) g dX5_clear_74 rfl ?_
              refine V_iastore (q := 76) g dX5_clear_75 rfl hA0 (by omega) (by decide) ?_
              simp only [wr_self, aset_aset, aset_at, hO]
              refine V_aload_n (q := 77) g dX5_clear_76 rfl rfl ?_
              refine V_bipush (q := 79) g dX5_clear_77 (by decide) rfl ?_
              refine V_iconst (q := 80) g dX5_clear_79 rfl ?_
              refine V_iload_n (q := 81) g dX5_clear_80 rfl rfl ?_
              refine V_imul (q := 82) g dX5_clear_81 rfl ?_
              refine V_iadd (q := 83) g dX5_clear_82 rfl ?_
              refine V_iconst (q := 84) g dX5_clear_83 rfl ?_
              refine V_iadd (q := 85) g dX5_clear_84 rfl ?_
              refine V_bipush (q := 87) g dX5_clear_85 (by decide) rfl ?_
              refine V_iastore (q := 88) g dX5_clear_87 rfl hA0 (by omega) (by decide) ?_
              simp only [wr_self, aset_aset, aset_at, hO]
              refine V_iinc_1 (q := 91) g dX5_clear_88 (by decide) rfl rfl ?_
              refine V_goto g dX5_clear_91 (tgt := 36) (by decide) ?_
              rw [fClG_s f (by omega)]
              exact ih (n + 1) (by omega) (by omega)
        rw [← fClG_0]
        exact hloop2 4 0 (by decide) (by decide)
      · refine V_aload_n (q := 10) g dX5_clear_9 rfl rfl ?_
        refine V_iload_n (q := 11) g dX5_clear_10 rfl rfl ?_
        refine V_iconst (q := 12) g dX5_clear_11 rfl ?_
        refine V_iastore (q := 13) g dX5_clear_12 rfl hA0 (by omega) (by decide) ?_
        simp only [wr_self, aset_aset, aset_at, hO]
        rw [fClN_s f (by omega)]
        refine V_iinc_1 (q := 16) g dX5_clear_13 (by decide) rfl rfl ?_
        refine V_goto g dX5_clear_16 (tgt := 2) (by decide) ?_
        exact ih (n + 1) (by omega) (by omega)
  have hM : M = aset M b (fClN f 0) := by rw [fClN_0, aset_id hO]
  rw [hM]
  exact hloop 134 0 (by decide) (by decide)
