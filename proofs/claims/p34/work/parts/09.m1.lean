abbrev rm_X4_within : Room := { frames := 0, cells := 0, slots := 0, locals := 0 }
set_option maxHeartbeats 4000000 in
set_option maxRecDepth 100000 in
theorem c_X4_within (l : Launch) {D : DD} {Λ : LY} {M : MM} {a b d : Int} (ha : inR a) (hb : inR b) (hd : inR d) : CI l yX4_within cX4_within 3 .boolean rm_X4_within [vi a, vi b, vi d] D Λ M (fun z M1 => ((b ≤ a ∧ a ≤ d ∧ z = 1) ∨ (¬ (b ≤ a ∧ a ≤ d) ∧ z = 0)) ∧ M = M1) := by
  refine CI_of rfl rfl (Nat.le_of_ble_eq_true rfl) (fun Γ g r => ?_)
  refine V_iload_n (q := 1) g dX4_within_0 rfl rfl ?_
  refine V_iload_n (q := 2) g dX4_within_1 rfl rfl ?_
  refine V_icmp_lt (q := 5) g dX4_within_2 (tgt := 14) (by decide) rfl (by omega) (by omega) (fun h2 => ?_) (fun h2 => ?_)
  · refine V_iconst (q := 15) g dX4_within_14 rfl ?_
    exact V_ireturn g r dX4_within_15 rfl ⟨by omega, rfl⟩
  · refine V_iload_n (q := 6) g dX4_within_5 rfl rfl ?_
    refine V_iload_n (q := 7) g dX4_within_6 rfl rfl ?_
    refine V_icmp_gt (q := 10) g dX4_within_7 (tgt := 14) (by decide) rfl (by omega) (by omega) (fun h7 => ?_) (fun h7 => ?_)
    · refine V_iconst (q := 15) g dX4_within_14 rfl ?_
      exact V_ireturn g r dX4_within_15 rfl ⟨by omega, rfl⟩
    · refine V_iconst (q := 11) g dX4_within_10 rfl ?_
      refine V_goto g dX4_within_11 (tgt := 15) (by decide) ?_
      exact V_ireturn g r dX4_within_15 rfl ⟨by omega, rfl⟩
abbrev rm_X4_at : Room := { frames := 0, cells := 0, slots := 0, locals := 0 }
set_option maxHeartbeats 4000000 in
set_option maxRecDepth 100000 in
theorem c_X4_at (l : Launch) {D : DD} {Λ : LY} {M : MM} {a n : Nat} {i : Int} (hA0 : Λ a = some (kI D n)) (hn : n < 2147483648) (hi : 0 ≤ i ∧ i < n) : CI l yX4_at cX4_at 2 .int rm_X4_at [.ref a, vi i] D Λ M (fun z M1 => z = M a i ∧ M = M1) := by
  refine CI_of rfl rfl (Nat.le_of_ble_eq_true rfl) (fun Γ g r => ?_)
  refine V_iload_n (q := 1) g dX4_at_0 rfl rfl ?_
  refine V_if_lt (q := 4) g dX4_at_1 (tgt := 16) (by decide) rfl (by omega) (fun h1 => absurd h1 (by omega)) (fun h1 => ?_)
  refine V_iload_n (q := 5) g dX4_at_4 rfl rfl ?_
  refine V_aload_n (q := 6) g dX4_at_5 rfl rfl ?_
  refine V_alen (q := 7) g dX4_at_6 rfl hA0 ?_
  refine V_icmp_ge (q := 10) g dX4_at_7 (tgt := 16) (by decide) rfl (by omega) (by omega) (fun h7 => absurd h7 (by omega)) (fun h7 => ?_)
  refine V_aload_n (q := 11) g dX4_at_10 rfl rfl ?_
  refine V_iload_n (q := 12) g dX4_at_11 rfl rfl ?_
  refine V_iaload (q := 13) g dX4_at_12 rfl hA0 hi hn ?_
  refine V_goto g dX4_at_13 (tgt := 17) (by decide) ?_
  exact V_ireturn g r dX4_at_17 rfl ⟨rfl, rfl⟩
abbrev rm_X4_put : Room := { frames := 0, cells := 0, slots := 0, locals := 0 }
set_option maxHeartbeats 4000000 in
set_option maxRecDepth 100000 in
theorem c_X4_put (l : Launch) {D : DD} {Λ : LY} {M : MM} {a n : Nat} {i v : Int} (hA0 : Λ a = some (kI D n)) (hn : n < 2147483648) (hi : 0 ≤ i ∧ i < n) : CV l yX4_put cX4_put 3 rm_X4_put [.ref a, vi i, vi v] D Λ M (fun M1 => wr M a i v = M1) := by
  refine CV_of rfl rfl (Nat.le_of_ble_eq_true rfl) (fun Γ g r => ?_)
  refine V_iload_n (q := 1) g dX4_put_0 rfl rfl ?_
  refine V_if_lt (q := 4) g dX4_put_1 (tgt := 14) (by decide) rfl (by omega) (fun h1 => absurd h1 (by omega)) (fun h1 => ?_)
  refine V_iload_n (q := 5) g dX4_put_4 rfl rfl ?_
  refine V_aload_n (q := 6) g dX4_put_5 rfl rfl ?_
  refine V_alen (q := 7) g dX4_put_6 rfl hA0 ?_
  refine V_icmp_ge (q := 10) g dX4_put_7 (tgt := 14) (by decide) rfl (by omega) (by omega) (fun h7 => absurd h7 (by omega)) (fun h7 => ?_)
  refine V_aload_n (q := 11) g dX4_put_10 rfl rfl ?_
  refine V_iload_n (q := 12) g dX4_put_11 rfl rfl ?_
  refine V_iload_n (q := 13) g dX4_put_12 rfl rfl ?_
  refine V_iastore (q := 14) g dX4_put_13 rfl hA0 hi hn ?_
  exact V_return g r dX4_put_14 rfl
def fillM (M : MM) (a : Nat) (n v : Int) : MM := fun b j => if b = a ∧ 0 ≤ j ∧ j < n then v else M b j
theorem fillM_0 (M : MM) (a : Nat) (v : Int) : fillM M a 0 v = M := by
  funext b j
  unfold fillM
  rw [if_neg (by omega)]
theorem fillM_s (M : MM) (a : Nat) {i v : Int} (h : 0 ≤ i) : wr (fillM M a i v) a i v = fillM M a (i + 1) v := by
  funext b j
  unfold wr fillM
  by_cases h1 : b = a ∧ j = i
  · rw [if_pos h1, if_pos (by omega)]
  · rw [if_neg h1]
    by_cases h2 : b = a ∧ 0 ≤ j ∧ j < i
    · rw [if_pos h2, if_pos (by omega)]
    · rw [if_neg h2, if_neg (by omega)]
def cpyM (M : MM) (a b : Nat) (n : Int) : MM := fun c j => if c = b ∧ 0 ≤ j ∧ j < n then M a j else M c j
theorem cpyM_0 (M : MM) (a b : Nat) : cpyM M a b 0 = M := by
  funext c j
  unfold cpyM
  rw [if_neg (by omega)]
theorem cpyM_s (M : MM) {a b : Nat} {i : Int} (h : 0 ≤ i) (hab : a ≠ b) : wr (cpyM M a b i) b i (cpyM M a b i a i) = cpyM M a b (i + 1) := by
  funext c j
  unfold wr cpyM
  by_cases h1 : c = b ∧ j = i
  · obtain ⟨rfl, rfl⟩ := h1
    rw [if_pos ⟨rfl, rfl⟩, if_neg (by omega), if_pos (by omega)]
  · rw [if_neg h1]
    by_cases h2 : c = b ∧ 0 ≤ j ∧ j < i
    · rw [if_pos h2, if_pos (by omega)]
    · rw [if_neg h2, if_neg (by omega)]
abbrev rm_X4_fill : Room := { frames := 0, cells := 0, slots := 0, locals := 0 }
set_option maxHeartbeats 4000000 in
set_option maxRecDepth 100000 in
theorem c_X4_fill (l : Launch) {D : DD} {Λ : LY} {M : MM} {a n : Nat} {v : Int} (hA0 : Λ a = some (kI D n)) (hn : n < 2147483648) : CV l yX4_fill cX4_fill 3 rm_X4_fill [.ref a, vi v] D Λ M (fun M1 => fillM M a n v = M1) := by
  refine CV_of rfl rfl (Nat.le_of_ble_eq_true rfl) (fun Γ g r => ?_)
  have hloop : ∀ (k : Nat) (i : Int), 0 ≤ i → i ≤ n → (n : Int) - i ≤ k → V Γ D Λ (fillM M a i v) (0, 0) 2 [some (.ref a), some (vi v), some (vi i)] [] := by
    intro k
    induction k with
    | zero =>
      intro i h1 h2 h3
      refine V_iload_n (q := 3) g dX4_fill_2 rfl rfl ?_
      refine V_aload_n (q := 4) g dX4_fill_3 rfl rfl ?_
      refine V_alen (q := 5) g dX4_fill_4 rfl hA0 ?_
      refine V_icmp_ge (q := 8) g dX4_fill_5 (tgt := 18) (by decide) rfl (by omega) (by omega) (fun h5 => ?_) (fun h5 => ?_)
      · have h9 : i = n := by omega
        subst h9
        exact V_return g r dX4_fill_18 rfl
      · refine V_aload_n (q := 9) g dX4_fill_8 rfl rfl ?_
        refine V_iload_n (q := 10) g dX4_fill_9 rfl rfl ?_
        refine V_iload_n (q := 11) g dX4_fill_10 rfl rfl ?_
        refine V_iastore (q := 12) g dX4_fill_11 rfl hA0 (by omega) hn ?_
        rw [fillM_s M a h1]
        refine V_iinc_2 (q := 15) g dX4_fill_12 (by decide) rfl rfl ?_
        refine V_goto g dX4_fill_15 (tgt := 2) (by decide) ?_
        exact False.elim (by omega)
    | succ k ih =>
      intro i h1 h2 h3
      refine V_iload_n (q := 3) g dX4_fill_2 rfl rfl ?_
      refine V_aload_n (q := 4) g dX4_fill_3 rfl rfl ?_
      refine V_alen (q := 5) g dX4_fill_4 rfl hA0 ?_
      refine V_icmp_ge (q := 8) g dX4_fill_5 (tgt := 18) (by decide) rfl (by omega) (by omega) (fun h5 => ?_) (fun h5 => ?_)
      · have h9 : i = n := by omega
        subst h9
        exact V_return g r dX4_fill_18 rfl
      · refine V_aload_n (q := 9) g dX4_fill_8 rfl rfl ?_
        refine V_iload_n (q := 10) g dX4_fill_9 rfl rfl ?_
        refine V_iload_n (q := 11) g dX4_fill_10 rfl rfl ?_
        refine V_iastore (q := 12) g dX4_fill_11 rfl hA0 (by omega) hn ?_
        rw [fillM_s M a h1]
        refine V_iinc_2 (q := 15) g dX4_fill_12 (by decide) rfl rfl ?_
        refine V_goto g dX4_fill_15 (tgt := 2) (by decide) ?_
        exact ih (i + 1) (by omega) (by omega) (by omega)
  refine V_iconst (q := 1) g dX4_fill_0 rfl ?_
  refine V_istore_n_2 (q := 2) g dX4_fill_1 (by decide) rfl rfl ?_
  rw [← fillM_0 M a v]
  exact hloop n 0 (by omega) (by omega) (by omega)
abbrev rm_X4_copyRow : Room := { frames := 0, cells := 0, slots := 0, locals := 0 }
set_option maxHeartbeats 4000000 in
set_option maxRecDepth 100000 in
theorem c_X4_copyRow (l : Launch) {D : DD} {Λ : LY} {M : MM} {a b n : Nat} (hA0 : Λ a = some (kI D n)) (hA1 : Λ b = some (kI D n)) (hn : n < 2147483648) (hab : a ≠ b) : CV l yX4_copyRow cX4_copyRow 3 rm_X4_copyRow [.ref a, .ref b] D Λ M (fun M1 => cpyM M a b n = M1) := by
  refine CV_of rfl rfl (Nat.le_of_ble_eq_true rfl) (fun Γ g r => ?_)
  have hloop : ∀ (k : Nat) (i : Int), 0 ≤ i → i ≤ n → (n : Int) - i ≤ k → V Γ D Λ (cpyM M a b i) (0, 0) 2 [some (.ref a), some (.ref b), some (vi i)] [] := by
    intro k
    induction k with
    | zero =>
      intro i h1 h2 h3
      refine V_iload_n (q := 3) g dX4_copyRow_2 rfl rfl ?_
      refine V_aload_n (q := 4) g dX4_copyRow_3 rfl rfl ?_
      refine V_alen (q := 5) g dX4_copyRow_4 rfl hA0 ?_
      refine V_icmp_ge (q := 8) g dX4_copyRow_5 (tgt := 26) (by decide) rfl (by omega) (by omega) (fun h5 => ?_) (fun h5 => ?_)
      · have h9 : i = n := by omega
        subst h9
        exact V_return g r dX4_copyRow_26 rfl
      · refine V_iload_n (q := 9) g dX4_copyRow_8 rfl rfl ?_
        refine V_aload_n (q := 10) g dX4_copyRow_9 rfl rfl ?_
        refine V_alen (q := 11) g dX4_copyRow_10 rfl hA1 ?_
        refine V_icmp_ge (q := 14) g dX4_copyRow_11 (tgt := 26) (by decide) rfl (by omega) (by omega) (fun h11 => absurd h11 (by omega)) (fun h11 => ?_)
        refine V_aload_n (q := 15) g dX4_copyRow_14 rfl rfl ?_
        refine V_iload_n (q := 16) g dX4_copyRow_15 rfl rfl ?_
        refine V_aload_n (q := 17) g dX4_copyRow_16 rfl rfl ?_
        refine V_iload_n (q := 18) g dX4_copyRow_17 rfl rfl ?_
        refine V_iaload (q := 19) g dX4_copyRow_18 rfl hA0 (by omega) hn ?_
        refine V_iastore (q := 20) g dX4_copyRow_19 rfl hA1 (by omega) hn ?_
        rw [cpyM_s M h1 hab]
        refine V_iinc_2 (q := 23) g dX4_copyRow_20 (by decide) rfl rfl ?_
        refine V_goto g dX4_copyRow_23 (tgt := 2) (by decide) ?_
        exact False.elim (by omega)
    | succ k ih =>
      intro i h1 h2 h3
      refine V_iload_n (q := 3) g dX4_copyRow_2 rfl rfl ?_
      refine V_aload_n (q := 4) g dX4_copyRow_3 rfl rfl ?_
      refine V_alen (q := 5) g dX4_copyRow_4 rfl hA0 ?_
      refine V_icmp_ge (q := 8) g dX4_copyRow_5 (tgt := 26) (by decide) rfl (by omega) (by omega) (fun h5 => ?_) (fun h5 => ?_)
      · have h9 : i = n := by omega
        subst h9
        exact V_return g r dX4_copyRow_26 rfl
      · refine V_iload_n (q := 9) g dX4_copyRow_8 rfl rfl ?_
        refine V_aload_n (q := 10) g dX4_copyRow_9 rfl rfl ?_
        refine V_alen (q := 11) g dX4_copyRow_10 rfl hA1 ?_
        refine V_icmp_ge (q := 14) g dX4_copyRow_11 (tgt := 26) (by decide) rfl (by omega) (by omega) (fun h11 => absurd h11 (by omega)) (fun h11 => ?_)
        refine V_aload_n (q := 15) g dX4_copyRow_14 rfl rfl ?_
        refine V_iload_n (q := 16) g dX4_copyRow_15 rfl rfl ?_
        refine V_aload_n (q := 17) g dX4_copyRow_16 rfl rfl ?_
        refine V_iload_n (q := 18) g dX4_copyRow_17 rfl rfl ?_
        refine V_iaload (q := 19) g dX4_copyRow_18 rfl hA0 (by omega) hn ?_
        refine V_iastore (q := 20) g dX4_copyRow_19 rfl hA1 (by omega) hn ?_
        rw [cpyM_s M h1 hab]
        refine V_iinc_2 (q := 23) g dX4_copyRow_20 (by decide) rfl rfl ?_
        refine V_goto g dX4_copyRow_23 (tgt := 2) (by decide) ?_
        exact ih (i + 1) (by omega) (by omega) (by omega)
  refine V_iconst (q := 1) g dX4_copyRow_0 rfl ?_
  refine V_istore_n_2 (q := 2) g dX4_copyRow_1 (by decide) rfl rfl ?_
  rw [← cpyM_0 M a b]
  exact hloop n 0 (by omega) (by omega) (by omega)
