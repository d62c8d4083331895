theorem a_guilds (l : Launch) {D : DD} {Λ : LY} {M : MM} {o : Nat} {f : Int → Int} {c : Int} (hL : OffL D Λ o) (hO : Off M o f) (hI : Inv f) (hc : 0 ≤ c ∧ c < f 0) : CI l yX4_at cX4_at 2 .int rm_X4_at [.ref (o + 1), vi c] D Λ M (fun z M1 => (z = f (44 + 9 * c) ∧ 0 ≤ z ∧ z ≤ 3) ∧ M = M1) := by
  have h0 := hI.1
  refine (c_X4_at l hL.2.1 (by decide) (by omega)).mono (fun z M1 h => ?_)
  have q := hI.2.2.2.2.2.2 c hc.1 hc.2
  have e := (hO.2.2.1 c hc.1 hc.2).1
  obtain ⟨h1, h2⟩ := h
  refine ⟨⟨h1.trans e, ?_⟩, h2⟩
  rw [h1, e]
  exact q.1
theorem a_floorsUnder (l : Launch) {D : DD} {Λ : LY} {M : MM} {o : Nat} {f : Int → Int} {c : Int} (hL : OffL D Λ o) (hO : Off M o f) (hI : Inv f) (hc : 0 ≤ c ∧ c < f 0) : CI l yX4_at cX4_at 2 .int rm_X4_at [.ref (o + 2), vi c] D Λ M (fun z M1 => (z = f (45 + 9 * c) ∧ 0 ≤ z ∧ z < f 1) ∧ M = M1) := by
  have h0 := hI.1
  refine (c_X4_at l hL.2.2.1 (by decide) (by omega)).mono (fun z M1 h => ?_)
  have q := hI.2.2.2.2.2.2 c hc.1 hc.2
  have e := (hO.2.2.1 c hc.1 hc.2).2.1
  obtain ⟨h1, h2⟩ := h
  refine ⟨⟨h1.trans e, ?_⟩, h2⟩
  rw [h1, e]
  exact q.2.1
theorem a_quarters (l : Launch) {D : DD} {Λ : LY} {M : MM} {o : Nat} {f : Int → Int} {c : Int} (hL : OffL D Λ o) (hO : Off M o f) (hI : Inv f) (hc : 0 ≤ c ∧ c < f 0) : CI l yX4_at cX4_at 2 .int rm_X4_at [.ref (o + 3), vi c] D Λ M (fun z M1 => (z = f (46 + 9 * c) ∧ 0 ≤ z ∧ z ≤ 3) ∧ M = M1) := by
  have h0 := hI.1
  refine (c_X4_at l hL.2.2.2.1 (by decide) (by omega)).mono (fun z M1 h => ?_)
  have q := hI.2.2.2.2.2.2 c hc.1 hc.2
  have e := (hO.2.2.1 c hc.1 hc.2).2.2.1
  obtain ⟨h1, h2⟩ := h
  refine ⟨⟨h1.trans e, ?_⟩, h2⟩
  rw [h1, e]
  exact q.2.2.1
theorem a_stamps (l : Launch) {D : DD} {Λ : LY} {M : MM} {o : Nat} {f : Int → Int} {c : Int} (hL : OffL D Λ o) (hO : Off M o f) (hI : Inv f) (hc : 0 ≤ c ∧ c < f 0) : CI l yX4_at cX4_at 2 .int rm_X4_at [.ref (o + 4), vi c] D Λ M (fun z M1 => (z = f (47 + 9 * c) ∧ 0 ≤ z ∧ z ≤ 1) ∧ M = M1) := by
  have h0 := hI.1
  refine (c_X4_at l hL.2.2.2.2.1 (by decide) (by omega)).mono (fun z M1 h => ?_)
  have q := hI.2.2.2.2.2.2 c hc.1 hc.2
  have e := (hO.2.2.1 c hc.1 hc.2).2.2.2.1
  obtain ⟨h1, h2⟩ := h
  refine ⟨⟨h1.trans e, ?_⟩, h2⟩
  rw [h1, e]
  exact q.2.2.2.1
theorem a_sitters (l : Launch) {D : DD} {Λ : LY} {M : MM} {o : Nat} {f : Int → Int} {c : Int} (hL : OffL D Λ o) (hO : Off M o f) (hc : (0 ≤ c ∧ c < f 0) ∧ f 0 ≤ 10) : CI l yX4_at cX4_at 2 .int rm_X4_at [.ref (o + 5), vi c] D Λ M (fun z M1 => z = f (48 + 9 * c) ∧ M = M1) := by
  refine (c_X4_at l hL.2.2.2.2.2.1 (by decide) (by omega)).mono (fun z M1 h => ?_)
  exact ⟨h.1.trans (hO.2.2.1 c hc.1.1 hc.1.2).2.2.2.2.1, h.2⟩
theorem a_lengths (l : Launch) {D : DD} {Λ : LY} {M : MM} {o : Nat} {f : Int → Int} {j : Int} (hL : OffL D Λ o) (hO : Off M o f) (hI : Inv f) (c k : Int) (hc : 0 ≤ c ∧ c < f 0) (hk : 0 ≤ k ∧ k < 4) (hj : j = 4 * c + k) : CI l yX4_at cX4_at 2 .int rm_X4_at [.ref (o + 6), vi j] D Λ M (fun z M1 => (z = f (49 + 9 * c + k) ∧ 100 ≤ z ∧ z ≤ 900) ∧ M = M1) := by
  have h0 := hI.1
  subst hj
  refine (c_X4_at l hL.2.2.2.2.2.2.1 (by decide) (by omega)).mono (fun z M1 h => ?_)
  have e := (hO.2.2.1 c hc.1 hc.2).2.2.2.2.2 k hk.1 hk.2
  obtain ⟨h1, h2⟩ := h
  refine ⟨⟨h1.trans e, ?_⟩, h2⟩
  rw [h1, e]
  exact (hI.2.2.2.2.2.2 c hc.1 hc.2).2.2.2.2 k hk.1 hk.2
theorem a_heights (l : Launch) {D : DD} {Λ : LY} {M : MM} {o : Nat} {f : Int → Int} {j : Int} (hL : OffL D Λ o) (hO : Off M o f) (hI : Inv f) (hj : 0 ≤ j ∧ j < 16) : CI l yX4_at cX4_at 2 .int rm_X4_at [.ref (o + 7), vi j] D Λ M (fun z M1 => (z = f (12 + j) ∧ 0 ≤ z ∧ z ≤ 50) ∧ M = M1) := by
  refine (c_X4_at l hL.2.2.2.2.2.2.2.1 (by decide) (by omega)).mono (fun z M1 h => ?_)
  have e := hO.2.2.2.1 j hj.1 hj.2
  obtain ⟨h1, h2⟩ := h
  refine ⟨⟨h1.trans e, ?_⟩, h2⟩
  rw [h1, e]
  exact hI.2.2.2.2.1 j hj.1 hj.2
theorem a_limits (l : Launch) {D : DD} {Λ : LY} {M : MM} {o : Nat} {f : Int → Int} {j : Int} (hL : OffL D Λ o) (hO : Off M o f) (hI : Inv f) (hj : 0 ≤ j ∧ j < 16) : CI l yX4_at cX4_at 2 .int rm_X4_at [.ref (o + 8), vi j] D Λ M (fun z M1 => (z = f (28 + j) ∧ 0 ≤ z ∧ z ≤ 900) ∧ M = M1) := by
  refine (c_X4_at l hL.2.2.2.2.2.2.2.2.1 (by decide) (by omega)).mono (fun z M1 h => ?_)
  have e := hO.2.2.2.2.1 j hj.1 hj.2
  obtain ⟨h1, h2⟩ := h
  refine ⟨⟨h1.trans e, ?_⟩, h2⟩
  rw [h1, e]
  obtain ⟨q0, q1, q2, q3⟩ := hI.2.2.2.2.2.1 (j / 4) (by omega) (by omega)
  rcases (by omega : j = 4 * (j / 4) ∨ j = 4 * (j / 4) + 1 ∨ j = 4 * (j / 4) + 2 ∨ j = 4 * (j / 4) + 3) with h | h | h | h
  · rw [show 28 + j = 28 + 4 * (j / 4) by omega]; omega
  · rw [show 28 + j = 29 + 4 * (j / 4) by omega]; omega
  · rw [show 28 + j = 30 + 4 * (j / 4) by omega]; omega
  · rw [show 28 + j = 31 + 4 * (j / 4) by omega]; omega
theorem a_totals (l : Launch) {D : DD} {Λ : LY} {M : MM} {o : Nat} {f : Int → Int} {j : Int} (hL : OffL D Λ o) (hO : Off M o f) (hj : 3 ≤ j ∧ j ≤ 10) : CI l yX4_at cX4_at 2 .int rm_X4_at [.ref (o + 10), vi j] D Λ M (fun z M1 => z = f (j - 1) ∧ M = M1) := by
  refine (c_X4_at l hL.2.2.2.2.2.2.2.2.2.2 (by decide) (by omega)).mono (fun z M1 h => ?_)
  exact ⟨h.1.trans (hO.2.2.2.2.2.2.2 j hj.1 hj.2), h.2⟩
theorem a_values0 (l : Launch) {D : DD} {Λ : LY} {M : MM} {o : Nat} {f : Int → Int} (hL : OffL D Λ o) (hO : Off M o f) : CI l yX4_at cX4_at 2 .int rm_X4_at [.ref (o + 9), vi 0] D Λ M (fun z M1 => z = f 10 ∧ M = M1) := (c_X4_at l hL.2.2.2.2.2.2.2.2.2.1 (by decide) (by decide)).mono (fun z M1 h => ⟨h.1.trans hO.2.2.2.2.2.1, h.2⟩)
theorem a_values1 (l : Launch) {D : DD} {Λ : LY} {M : MM} {o : Nat} {f : Int → Int} (hL : OffL D Λ o) (hO : Off M o f) : CI l yX4_at cX4_at 2 .int rm_X4_at [.ref (o + 9), vi 1] D Λ M (fun z M1 => z = f 11 ∧ M = M1) := (c_X4_at l hL.2.2.2.2.2.2.2.2.2.1 (by decide) (by decide)).mono (fun z M1 h => ⟨h.1.trans hO.2.2.2.2.2.2.1, h.2⟩)
abbrev rm_X1_hasChair : Room := { frames := 0, cells := 0, slots := 0, locals := 0 }
set_option maxHeartbeats 4000000 in
set_option maxRecDepth 100000 in
theorem c_X1_hasChair (l : Launch) {D : DD} {Λ : LY} {M : MM} {o : Nat} {f : Int → Int} {c : Int} (hL : OffL D Λ o) (hO : Off M o f) (hI : Inv f) (hr : inR c) : CI l yX1_hasChair cX1_hasChair 2 .boolean rm_X1_hasChair [.ref o, vi c] D Λ M (fun z M1 => ((0 ≤ c ∧ c < f 0) ∧ z = 1 ∨ ¬ (0 ≤ c ∧ c < f 0) ∧ z = 0) ∧ M = M1) := by
  refine CI_of rfl rfl (Nat.le_of_ble_eq_true rfl) (fun Γ g r => ?_)
  have h0 := hI.1
  have h1 := hI.2.1
  refine V_iload_n (q := 1) g dX1_hasChair_0 rfl rfl ?_
  refine V_if_lt (q := 4) g dX1_hasChair_1 (tgt := 16) (by decide) rfl (by omega) (fun h1 => ?_) (fun h1 => ?_)
  · refine V_iconst (q := 17) g dX1_hasChair_16 rfl ?_
    exact V_ireturn g r dX1_hasChair_17 rfl ⟨by omega, rfl⟩
  · refine V_iload_n (q := 5) g dX1_hasChair_4 rfl rfl ?_
    refine V_aload_n (q := 6) g dX1_hasChair_5 rfl rfl ?_
    refine V_getI (q := 9) g dX1_hasChair_6 rfl f_X1_45 rfl hL.1 rfl (j := 0) rfl ?_
    rw [hO.1]
    refine V_icmp_ge (q := 12) g dX1_hasChair_9 (tgt := 16) (by decide) rfl (by omega) (by omega) (fun h9 => ?_) (fun h9 => ?_)
    · refine V_iconst (q := 17) g dX1_hasChair_16 rfl ?_
      exact V_ireturn g r dX1_hasChair_17 rfl ⟨by omega, rfl⟩
    · refine V_iconst (q := 13) g dX1_hasChair_12 rfl ?_
      refine V_goto g dX1_hasChair_13 (tgt := 17) (by decide) ?_
      exact V_ireturn g r dX1_hasChair_17 rfl ⟨by omega, rfl⟩
abbrev rm_X1_hasFloor : Room := { frames := 0, cells := 0, slots := 0, locals := 0 }
set_option maxHeartbeats 4000000 in
set_option maxRecDepth 100000 in
theorem c_X1_hasFloor (l : Launch) {D : DD} {Λ : LY} {M : MM} {o : Nat} {f : Int → Int} {c : Int} (hL : OffL D Λ o) (hO : Off M o f) (hI : Inv f) (hr : inR c) : CI l yX1_hasFloor cX1_hasFloor 2 .boolean rm_X1_hasFloor [.ref o, vi c] D Λ M (fun z M1 => ((0 ≤ c ∧ c < f 1) ∧ z = 1 ∨ ¬ (0 ≤ c ∧ c < f 1) ∧ z = 0) ∧ M = M1) := by
  refine CI_of rfl rfl (Nat.le_of_ble_eq_true rfl) (fun Γ g r => ?_)
  have h0 := hI.1
  have h1 := hI.2.1
  refine V_iload_n (q := 1) g dX1_hasFloor_0 rfl rfl ?_
  refine V_if_lt (q := 4) g dX1_hasFloor_1 (tgt := 16) (by decide) rfl (by omega) (fun h1 => ?_) (fun h1 => ?_)
  · refine V_iconst (q := 17) g dX1_hasFloor_16 rfl ?_
    exact V_ireturn g r dX1_hasFloor_17 rfl ⟨by omega, rfl⟩
  · refine V_iload_n (q := 5) g dX1_hasFloor_4 rfl rfl ?_
    refine V_aload_n (q := 6) g dX1_hasFloor_5 rfl rfl ?_
    refine V_getI (q := 9) g dX1_hasFloor_6 rfl f_X1_49 rfl hL.1 rfl (j := 1) rfl ?_
    rw [hO.2.1]
    refine V_icmp_ge (q := 12) g dX1_hasFloor_9 (tgt := 16) (by decide) rfl (by omega) (by omega) (fun h9 => ?_) (fun h9 => ?_)
    · refine V_iconst (q := 17) g dX1_hasFloor_16 rfl ?_
      exact V_ireturn g r dX1_hasFloor_17 rfl ⟨by omega, rfl⟩
    · refine V_iconst (q := 13) g dX1_hasFloor_12 rfl ?_
      refine V_goto g dX1_hasFloor_13 (tgt := 17) (by decide) ?_
      exact V_ireturn g r dX1_hasFloor_17 rfl ⟨by omega, rfl⟩
abbrev rm_X1_length : Room := { frames := 1, cells := 0, slots := 0, locals := 21 }
set_option maxHeartbeats 4000000 in
set_option maxRecDepth 100000 in
theorem c_X1_length (l : Launch) {D : DD} {Λ : LY} {M : MM} {o : Nat} {f : Int → Int} {c k : Int} (hL : OffL D Λ o) (hO : Off M o f) (hI : Inv f) (hc : 0 ≤ c ∧ c < f 0) (hk : 0 ≤ k ∧ k < 4) : CI l yX1_length cX1_length 3 .int rm_X1_length [.ref o, vi c, vi k] D Λ M (fun z M1 => (z = f (49 + 9 * c + k) ∧ 100 ≤ z ∧ z ≤ 900) ∧ M = M1) := by
  refine CI_of rfl rfl (Nat.le_of_ble_eq_true rfl) (fun Γ g r => ?_)
  refine V_aload_n (q := 1) g dX1_length_0 rfl rfl ?_
  refine V_getR (q := 4) g dX1_length_1 rfl f_X1_27 rfl hL.1 rfl ?_
  refine V_iload_n (q := 5) g dX1_length_4 rfl rfl ?_
  refine V_iconst (q := 6) g dX1_length_5 rfl ?_
  refine V_imul (q := 7) g dX1_length_6 rfl ?_
  refine V_iload_n (q := 8) g dX1_length_7 rfl rfl ?_
  refine V_iadd (q := 9) g dX1_length_8 rfl ?_
  refine V_callNI_2 (q := 12) g (a_lengths l hL hO hI c k (by omega) (by omega) (by omega)) dX1_length_9 k_X1_64 rfl rfl ⟨rfl, rfl⟩ rfl (fun z1 M1 e1 => ?_)
  obtain ⟨⟨e1, b1⟩, rfl⟩ := e1
  exact V_ireturn g r dX1_length_12 rfl ⟨⟨e1, b1⟩, rfl⟩
abbrev rm_X1_height : Room := { frames := 1, cells := 0, slots := 0, locals := 21 }
set_option maxHeartbeats 4000000 in
set_option maxRecDepth 100000 in
theorem c_X1_height (l : Launch) {D : DD} {Λ : LY} {M : MM} {o : Nat} {f : Int → Int} {fl k : Int} (hL : OffL D Λ o) (hO : Off M o f) (hI : Inv f) (hf : 0 ≤ fl ∧ fl < 4) (hk : 0 ≤ k ∧ k < 4) : CI l yX1_height cX1_height 3 .int rm_X1_height [.ref o, vi fl, vi k] D Λ M (fun z M1 => (z = f (12 + (4 * fl + k)) ∧ 0 ≤ z ∧ z ≤ 50) ∧ M = M1) := by
  refine CI_of rfl rfl (Nat.le_of_ble_eq_true rfl) (fun Γ g r => ?_)
  refine V_aload_n (q := 1) g dX1_height_0 rfl rfl ?_
  refine V_getR (q := 4) g dX1_height_1 rfl f_X1_30 rfl hL.1 rfl ?_
  refine V_iload_n (q := 5) g dX1_height_4 rfl rfl ?_
  refine V_iconst (q := 6) g dX1_height_5 rfl ?_
  refine V_imul (q := 7) g dX1_height_6 rfl ?_
  refine V_iload_n (q := 8) g dX1_height_7 rfl rfl ?_
  refine V_iadd (q := 9) g dX1_height_8 rfl ?_
  refine V_callNI_2 (q := 12) g (a_heights l hL hO hI  (by omega)) dX1_height_9 k_X1_64 rfl rfl ⟨rfl, rfl⟩ rfl (fun z1 M1 e1 => ?_)
  obtain ⟨⟨e1, b1⟩, rfl⟩ := e1
  exact V_ireturn g r dX1_height_12 rfl ⟨⟨by rw [e1]; congr 1; omega, b1⟩, rfl⟩
abbrev rm_X1_limit : Room := { frames := 1, cells := 0, slots := 0, locals := 21 }
set_option maxHeartbeats 4000000 in
set_option maxRecDepth 100000 in
theorem c_X1_limit (l : Launch) {D : DD} {Λ : LY} {M : MM} {o : Nat} {f : Int → Int} {gu k : Int} (hL : OffL D Λ o) (hO : Off M o f) (hI : Inv f) (hg : 0 ≤ gu ∧ gu < 4) (hk : 0 ≤ k ∧ k < 4) : CI l yX1_limit cX1_limit 3 .int rm_X1_limit [.ref o, vi gu, vi k] D Λ M (fun z M1 => (z = f (28 + (4 * gu + k)) ∧ 0 ≤ z ∧ z ≤ 900) ∧ M = M1) := by
  refine CI_of rfl rfl (Nat.le_of_ble_eq_true rfl) (fun Γ g r => ?_)
  refine V_aload_n (q := 1) g dX1_limit_0 rfl rfl ?_
  refine V_getR (q := 4) g dX1_limit_1 rfl f_X1_33 rfl hL.1 rfl ?_
  refine V_iload_n (q := 5) g dX1_limit_4 rfl rfl ?_
  refine V_iconst (q := 6) g dX1_limit_5 rfl ?_
  refine V_imul (q := 7) g dX1_limit_6 rfl ?_
  refine V_iload_n (q := 8) g dX1_limit_7 rfl rfl ?_
  refine V_iadd (q := 9) g dX1_limit_8 rfl ?_
  refine V_callNI_2 (q := 12) g (a_limits l hL hO hI  (by omega)) dX1_limit_9 k_X1_64 rfl rfl ⟨rfl, rfl⟩ rfl (fun z1 M1 e1 => ?_)
  obtain ⟨⟨e1, b1⟩, rfl⟩ := e1
  exact V_ireturn g r dX1_limit_12 rfl ⟨⟨by rw [e1]; congr 1; omega, b1⟩, rfl⟩
abbrev rm_X1_reachOn : Room := { frames := 1, cells := 0, slots := 0, locals := 21 }
set_option maxHeartbeats 4000000 in
set_option maxRecDepth 100000 in
theorem c_X1_reachOn (l : Launch) {D : DD} {Λ : LY} {M : MM} {o : Nat} {f : Int → Int} {c k fl q : Int} (hL : OffL D Λ o) (hO : Off M o f) (hI : Inv f) (hc : 0 ≤ c ∧ c < f 0) (hk : 0 ≤ k ∧ k < 4) (hf : 0 ≤ fl ∧ fl < 4) (hq : 0 ≤ q ∧ q < 4) : CI l yX1_reachOn cX1_reachOn 5 .int rm_X1_reachOn [.ref o, vi c, vi k, vi fl, vi q] D Λ M (fun z M1 => (z = sRe f c k fl q ∧ 50 ≤ z ∧ z ≤ 900) ∧ M = M1) := by
  refine CI_of rfl rfl (Nat.le_of_ble_eq_true rfl) (fun Γ g r => ?_)
  refine V_aload_n (q := 1) g dX1_reachOn_0 rfl rfl ?_
  refine V_getR (q := 4) g dX1_reachOn_1 rfl f_X1_27 rfl hL.1 rfl ?_
  refine V_iload_n (q := 5) g dX1_reachOn_4 rfl rfl ?_
  refine V_iconst (q := 6) g dX1_reachOn_5 rfl ?_
  refine V_imul (q := 7) g dX1_reachOn_6 rfl ?_
  refine V_iload_n (q := 8) g dX1_reachOn_7 rfl rfl ?_
  refine V_iadd (q := 9) g dX1_reachOn_8 rfl ?_
  refine V_callNI_2 (q := 12) g (a_lengths l hL hO hI c k (by omega) (by omega) (by omega)) dX1_reachOn_9 k_X1_64 rfl rfl ⟨rfl, rfl⟩ rfl (fun z1 M1 e1 => ?_)
  obtain ⟨⟨e1, b1⟩, rfl⟩ := e1
  refine V_aload_n (q := 13) g dX1_reachOn_12 rfl rfl ?_
  refine V_getR (q := 16) g dX1_reachOn_13 rfl f_X1_30 rfl hL.1 rfl ?_
  refine V_iload_n (q := 17) g dX1_reachOn_16 rfl rfl ?_
  refine V_iconst (q := 18) g dX1_reachOn_17 rfl ?_
  refine V_imul (q := 19) g dX1_reachOn_18 rfl ?_
  refine V_iload_n (q := 20) g dX1_reachOn_19 rfl rfl ?_
  refine V_iload (q := 22) g dX1_reachOn_20 rfl rfl ?_
  refine V_iadd (q := 23) g dX1_reachOn_22 rfl ?_
  refine V_iconst (q := 24) g dX1_reachOn_23 rfl ?_
  refine V_irem (q := 25) g dX1_reachOn_24 (by omega) (by omega) rfl ?_
  refine V_iadd (q := 26) g dX1_reachOn_25 rfl ?_
  refine V_callNI_2 (q := 29) g (a_heights l hL hO hI  (by omega)) dX1_reachOn_26 k_X1_64 rfl rfl ⟨rfl, rfl⟩ rfl (fun z2 M2 e2 => ?_)
  obtain ⟨⟨e2, b2⟩, rfl⟩ := e2
  refine V_isub (q := 30) g dX1_reachOn_29 rfl ?_
  exact V_ireturn g r dX1_reachOn_30 rfl ⟨⟨by rw [e1, e2]; unfold sRe; rw [show fl * 4 + (k + q) % 4 = 4 * fl + (k + q) % 4 by omega], by omega⟩, rfl⟩
abbrev rm_X1_reachNow : Room := { frames := 2, cells := 0, slots := 0, locals := 45 }
set_option maxHeartbeats 4000000 in
set_option maxRecDepth 100000 in
theorem c_X1_reachNow (l : Launch) {D : DD} {Λ : LY} {M : MM} {o : Nat} {f : Int → Int} {c k : Int} (hL : OffL D Λ o) (hO : Off M o f) (hI : Inv f) (hc : 0 ≤ c ∧ c < f 0) (hk : 0 ≤ k ∧ k < 4) : CI l yX1_reachNow cX1_reachNow 3 .int rm_X1_reachNow [.ref o, vi c, vi k] D Λ M (fun z M1 => (z = sRn f c k ∧ 50 ≤ z ∧ z ≤ 900) ∧ M = M1) := by
  refine CI_of rfl rfl (Nat.le_of_ble_eq_true rfl) (fun Γ g r => ?_)
  have h0 := hI.1
  have h1 := hI.2.1
  refine V_aload_n (q := 1) g dX1_reachNow_0 rfl rfl ?_
  refine V_iload_n (q := 2) g dX1_reachNow_1 rfl rfl ?_
  refine V_iload_n (q := 3) g dX1_reachNow_2 rfl rfl ?_
  refine V_aload_n (q := 4) g dX1_reachNow_3 rfl rfl ?_
  refine V_getR (q := 7) g dX1_reachNow_4 rfl f_X1_15 rfl hL.1 rfl ?_
  refine V_iload_n (q := 8) g dX1_reachNow_7 rfl rfl ?_
  refine V_callNI_2 (q := 11) g (a_floorsUnder l hL hO hI (by omega)) dX1_reachNow_8 k_X1_64 rfl rfl ⟨rfl, rfl⟩ rfl (fun z1 M1 e1 => ?_)
  obtain ⟨⟨e1, b1⟩, rfl⟩ := e1
  refine V_aload_n (q := 12) g dX1_reachNow_11 rfl rfl ?_
  refine V_getR (q := 15) g dX1_reachNow_12 rfl f_X1_18 rfl hL.1 rfl ?_
  refine V_iload_n (q := 16) g dX1_reachNow_15 rfl rfl ?_
  refine V_callNI_2 (q := 19) g (a_quarters l hL hO hI (by omega)) dX1_reachNow_16 k_X1_64 rfl rfl ⟨rfl, rfl⟩ rfl (fun z2 M2 e2 => ?_)
  obtain ⟨⟨e2, b2⟩, rfl⟩ := e2
  refine V_callVI_4 (q := 22) g (c_X1_reachOn l hL hO hI (by omega) (by omega) (by omega) (by omega)) dX1_reachNow_19 k_X1_68 hL.1 rfl rfl rfl rfl ⟨rfl, rfl⟩ rfl (fun z3 M3 e3 => ?_)
  obtain ⟨⟨e3, b3⟩, rfl⟩ := e3
  exact V_ireturn g r dX1_reachNow_22 rfl ⟨⟨by rw [e3, e1, e2]; rfl, b3⟩, rfl⟩
abbrev rm_X1_wobbleOn : Room := { frames := 2, cells := 0, slots := 0, locals := 45 }
set_option maxHeartbeats 4000000 in
set_option maxRecDepth 100000 in
theorem c_X1_wobbleOn (l : Launch) {D : DD} {Λ : LY} {M : MM} {o : Nat} {f : Int → Int} {c fl q : Int} (hL : OffL D Λ o) (hO : Off M o f) (hI : Inv f) (hc : 0 ≤ c ∧ c < f 0) (hf : 0 ≤ fl ∧ fl < 4) (hq : 0 ≤ q ∧ q < 4) : CI l yX1_wobbleOn cX1_wobbleOn 6 .int rm_X1_wobbleOn [.ref o, vi c, vi fl, vi q] D Λ M (fun z M1 => (z = sWob f c fl q ∧ 0 ≤ z ∧ z ≤ 1700) ∧ M = M1) := by
  refine CI_of rfl rfl (Nat.le_of_ble_eq_true rfl) (fun Γ g r => ?_)
  refine V_aload_n (q := 1) g dX1_wobbleOn_0 rfl rfl ?_
  refine V_iload_n (q := 2) g dX1_wobbleOn_1 rfl rfl ?_
  refine V_iconst (q := 3) g dX1_wobbleOn_2 rfl ?_
  refine V_iload_n (q := 4) g dX1_wobbleOn_3 rfl rfl ?_
  refine V_iload_n (q := 5) g dX1_wobbleOn_4 rfl rfl ?_
  refine V_callVI_4 (q := 8) g (c_X1_reachOn l hL hO hI (by omega) (by omega) (by omega) (by omega)) dX1_wobbleOn_5 k_X1_68 hL.1 rfl rfl rfl rfl ⟨rfl, rfl⟩ rfl (fun z1 M1 e1 => ?_)
  obtain ⟨⟨e1, b1⟩, rfl⟩ := e1
  refine V_aload_n (q := 9) g dX1_wobbleOn_8 rfl rfl ?_
  refine V_iload_n (q := 10) g dX1_wobbleOn_9 rfl rfl ?_
  refine V_iconst (q := 11) g dX1_wobbleOn_10 rfl ?_
  refine V_iload_n (q := 12) g dX1_wobbleOn_11 rfl rfl ?_
  refine V_iload_n (q := 13) g dX1_wobbleOn_12 rfl rfl ?_
  refine V_callVI_4 (q := 16) g (c_X1_reachOn l hL hO hI (by omega) (by omega) (by omega) (by omega)) dX1_wobbleOn_13 k_X1_68 hL.1 rfl rfl rfl rfl ⟨rfl, rfl⟩ rfl (fun z2 M2 e2 => ?_)
  obtain ⟨⟨e2, b2⟩, rfl⟩ := e2
  refine V_iadd (q := 17) g dX1_wobbleOn_16 rfl ?_
  refine V_istore_4 (q := 19) g dX1_wobbleOn_17 (by decide) rfl rfl ?_
  refine V_aload_n (q := 20) g dX1_wobbleOn_19 rfl rfl ?_
  refine V_iload_n (q := 21) g dX1_wobbleOn_20 rfl rfl ?_
  refine V_iconst (q := 22) g dX1_wobbleOn_21 rfl ?_
  refine V_iload_n (q := 23) g dX1_wobbleOn_22 rfl rfl ?_
  refine V_iload_n (q := 24) g dX1_wobbleOn_23 rfl rfl ?_
  refine V_callVI_4 (q := 27) g (c_X1_reachOn l hL hO hI (by omega) (by omega) (by omega) (by omega)) dX1_wobbleOn_24 k_X1_68 hL.1 rfl rfl rfl rfl ⟨rfl, rfl⟩ rfl (fun z3 M3 e3 => ?_)
  obtain ⟨⟨e3, b3⟩, rfl⟩ := e3
  refine V_aload_n (q := 28) g dX1_wobbleOn_27 rfl rfl ?_
  refine V_iload_n (q := 29) g dX1_wobbleOn_28 rfl rfl ?_
  refine V_iconst (q := 30) g dX1_wobbleOn_29 rfl ?_
  refine V_iload_n (q := 31) g dX1_wobbleOn_30 rfl rfl ?_
  refine V_iload_n (q := 32) g dX1_wobbleOn_31 rfl rfl ?_
  refine V_callVI_4 (q := 35) g (c_X1_reachOn l hL hO hI (by omega) (by omega) (by omega) (by omega)) dX1_wobbleOn_32 k_X1_68 hL.1 rfl rfl rfl rfl ⟨rfl, rfl⟩ rfl (fun z4 M4 e4 => ?_)
  obtain ⟨⟨e4, b4⟩, rfl⟩ := e4
  refine V_iadd (q := 36) g dX1_wobbleOn_35 rfl ?_
  refine V_istore_5 (q := 38) g dX1_wobbleOn_36 (by decide) rfl rfl ?_
  refine V_iload (q := 40) g dX1_wobbleOn_38 rfl rfl ?_
  refine V_iload (q := 42) g dX1_wobbleOn_40 rfl rfl ?_
  refine V_icmp_le (q := 45) g dX1_wobbleOn_42 (tgt := 53) (by decide) rfl (by omega) (by omega) (fun h42 => ?_) (fun h42 => ?_)
  · refine V_iload (q := 55) g dX1_wobbleOn_53 rfl rfl ?_
    refine V_iload (q := 57) g dX1_wobbleOn_55 rfl rfl ?_
    refine V_isub (q := 58) g dX1_wobbleOn_57 rfl ?_
    have h9 := @sAbs_r (sTilt f c fl q)
    unfold sTilt at h9
    exact V_ireturn g r dX1_wobbleOn_58 rfl ⟨⟨by unfold sWob sTilt; omega, by omega⟩, rfl⟩
  · refine V_iload (q := 47) g dX1_wobbleOn_45 rfl rfl ?_
    refine V_iload (q := 49) g dX1_wobbleOn_47 rfl rfl ?_
    refine V_isub (q := 50) g dX1_wobbleOn_49 rfl ?_
    refine V_goto g dX1_wobbleOn_50 (tgt := 58) (by decide) ?_
    have h9 := @sAbs_r (sTilt f c fl q)
    unfold sTilt at h9
    exact V_ireturn g r dX1_wobbleOn_58 rfl ⟨⟨by unfold sWob sTilt; omega, by omega⟩, rfl⟩
abbrev rm_X1_wobbleNow : Room := { frames := 3, cells := 0, slots := 0, locals := 70 }
set_option maxHeartbeats 4000000 in
set_option maxRecDepth 100000 in
theorem c_X1_wobbleNow (l : Launch) {D : DD} {Λ : LY} {M : MM} {o : Nat} {f : Int → Int} {c : Int} (hL : OffL D Λ o) (hO : Off M o f) (hI : Inv f) (hc : 0 ≤ c ∧ c < f 0) : CI l yX1_wobbleNow cX1_wobbleNow 2 .int rm_X1_wobbleNow [.ref o, vi c] D Λ M (fun z M1 => (z = sWn f c ∧ 0 ≤ z ∧ z ≤ 1700) ∧ M = M1) := by
  refine CI_of rfl rfl (Nat.le_of_ble_eq_true rfl) (fun Γ g r => ?_)
  have h0 := hI.1
  have h1 := hI.2.1
  refine V_aload_n (q := 1) g dX1_wobbleNow_0 rfl rfl ?_
  refine V_iload_n (q := 2) g dX1_wobbleNow_1 rfl rfl ?_
  refine V_aload_n (q := 3) g dX1_wobbleNow_2 rfl rfl ?_
  refine V_getR (q := 6) g dX1_wobbleNow_3 rfl f_X1_15 rfl hL.1 rfl ?_
  refine V_iload_n (q := 7) g dX1_wobbleNow_6 rfl rfl ?_
  refine V_callNI_2 (q := 10) g (a_floorsUnder l hL hO hI (by omega)) dX1_wobbleNow_7 k_X1_64 rfl rfl ⟨rfl, rfl⟩ rfl (fun z1 M1 e1 => ?_)
  obtain ⟨⟨e1, b1⟩, rfl⟩ := e1
  refine V_aload_n (q := 11) g dX1_wobbleNow_10 rfl rfl ?_
  refine V_getR (q := 14) g dX1_wobbleNow_11 rfl f_X1_18 rfl hL.1 rfl ?_
  refine V_iload_n (q := 15) g dX1_wobbleNow_14 rfl rfl ?_
  refine V_callNI_2 (q := 18) g (a_quarters l hL hO hI (by omega)) dX1_wobbleNow_15 k_X1_64 rfl rfl ⟨rfl, rfl⟩ rfl (fun z2 M2 e2 => ?_)
  obtain ⟨⟨e2, b2⟩, rfl⟩ := e2
  refine V_callVI_3 (q := 21) g (c_X1_wobbleOn l hL hO hI (by omega) (by omega) (by omega)) dX1_wobbleNow_18 k_X1_72 hL.1 rfl rfl rfl rfl ⟨rfl, rfl⟩ rfl (fun z3 M3 e3 => ?_)
  obtain ⟨⟨e3, b3⟩, rfl⟩ := e3
  exact V_ireturn g r dX1_wobbleNow_21 rfl ⟨⟨by rw [e3, e1, e2]; rfl, b3⟩, rfl⟩
abbrev rm_X1_leanOn : Room := { frames := 2, cells := 0, slots := 0, locals := 45 }
set_option maxHeartbeats 4000000 in
set_option maxRecDepth 100000 in
theorem c_X1_leanOn (l : Launch) {D : DD} {Λ : LY} {M : MM} {o : Nat} {f : Int → Int} {c fl q : Int} (hL : OffL D Λ o) (hO : Off M o f) (hI : Inv f) (hc : 0 ≤ c ∧ c < f 0) (hf : 0 ≤ fl ∧ fl < 4) (hq : 0 ≤ q ∧ q < 4) : CI l yX1_leanOn cX1_leanOn 8 .int rm_X1_leanOn [.ref o, vi c, vi fl, vi q] D Λ M (fun z M1 => (z = sLean f c fl q ∧ 0 ≤ z ∧ z ≤ 850) ∧ M = M1) := by
  refine CI_of rfl rfl (Nat.le_of_ble_eq_true rfl) (fun Γ g r => ?_)
  refine V_aload_n (q := 1) g dX1_leanOn_0 rfl rfl ?_
  refine V_iload_n (q := 2) g dX1_leanOn_1 rfl rfl ?_
  refine V_iconst (q := 3) g dX1_leanOn_2 rfl ?_
  refine V_iload_n (q := 4) g dX1_leanOn_3 rfl rfl ?_
  refine V_iload_n (q := 5) g dX1_leanOn_4 rfl rfl ?_
  refine V_callVI_4 (q := 8) g (c_X1_reachOn l hL hO hI (by omega) (by omega) (by omega) (by omega)) dX1_leanOn_5 k_X1_68 hL.1 rfl rfl rfl rfl ⟨rfl, rfl⟩ rfl (fun z1 M1 e1 => ?_)
  obtain ⟨⟨e1, b1⟩, rfl⟩ := e1
  refine V_istore_4 (q := 10) g dX1_leanOn_8 (by decide) rfl rfl ?_
  refine V_iload (q := 12) g dX1_leanOn_10 rfl rfl ?_
  refine V_istore_5 (q := 14) g dX1_leanOn_12 (by decide) rfl rfl ?_
  refine V_iconst (q := 15) g dX1_leanOn_14 rfl ?_
  refine V_istore_6 (q := 17) g dX1_leanOn_15 (by decide) rfl rfl ?_
  refine V_iload (q := 19) g dX1_leanOn_17 rfl rfl ?_
  refine V_iconst (q := 20) g dX1_leanOn_19 rfl ?_
  refine V_icmp_ge (q := 23) g dX1_leanOn_20 (tgt := 58) (by decide) rfl (by omega) (by omega) (fun h20 => absurd h20 (by omega)) (fun h20 => ?_)
  refine V_aload_n (q := 24) g dX1_leanOn_23 rfl rfl ?_
  refine V_iload_n (q := 25) g dX1_leanOn_24 rfl rfl ?_
  refine V_iload (q := 27) g dX1_leanOn_25 rfl rfl ?_
  refine V_iload_n (q := 28) g dX1_leanOn_27 rfl rfl ?_
  refine V_iload_n (q := 29) g dX1_leanOn_28 rfl rfl ?_
  refine V_callVI_4 (q := 32) g (c_X1_reachOn l hL hO hI (by omega) (by omega) (by omega) (by omega)) dX1_leanOn_29 k_X1_68 hL.1 rfl rfl rfl rfl ⟨rfl, rfl⟩ rfl (fun z2 M2 e2 => ?_)
  obtain ⟨⟨e2, b2⟩, rfl⟩ := e2
  refine V_istore_7 (q := 34) g dX1_leanOn_32 (by decide) rfl rfl ?_
  refine V_iload (q := 36) g dX1_leanOn_34 rfl rfl ?_
  refine V_iload (q := 38) g dX1_leanOn_36 rfl rfl ?_
  refine V_mmin g dX1_leanOn_38 m_X1_76 (by omega) (by omega) rfl rfl rfl (fun z3 e3 => ?_)
  have r3 := @sMin_r z1 z2
  rw [← e3] at r3
  refine V_istore_4 (q := 43) g dX1_leanOn_41 (by decide) rfl rfl ?_
  refine V_iload (q := 45) g dX1_leanOn_43 rfl rfl ?_
  refine V_iload (q := 47) g dX1_leanOn_45 rfl rfl ?_
  refine V_mmax g dX1_leanOn_47 m_X1_82 (by omega) (by omega) rfl rfl rfl (fun z4 e4 => ?_)
  have r4 := @sMax_r z1 z2
  rw [← e4] at r4
  refine V_istore_5 (q := 52) g dX1_leanOn_50 (by decide) rfl rfl ?_
  refine V_iinc_6 (q := 55) g dX1_leanOn_52 (by decide) rfl rfl ?_
  simp only [Int.reduceAdd]
  refine V_goto g dX1_leanOn_55 (tgt := 17) (by decide) ?_
  refine V_iload (q := 19) g dX1_leanOn_17 rfl rfl ?_
  refine V_iconst (q := 20) g dX1_leanOn_19 rfl ?_
  refine V_icmp_ge (q := 23) g dX1_leanOn_20 (tgt := 58) (by decide) rfl (by omega) (by omega) (fun h20 => absurd h20 (by omega)) (fun h20 => ?_)
  refine V_aload_n (q := 24) g dX1_leanOn_23 rfl rfl ?_
  refine V_iload_n (q := 25) g dX1_leanOn_24 rfl rfl ?_
  refine V_iload (q := 27) g dX1_leanOn_25 rfl rfl ?_
  refine V_iload_n (q := 28) g dX1_leanOn_27 rfl rfl ?_
  refine V_iload_n (q := 29) g dX1_leanOn_28 rfl rfl ?_
  refine V_callVI_4 (q := 32) g (c_X1_reachOn l hL hO hI (by omega) (by omega) (by omega) (by omega)) dX1_leanOn_29 k_X1_68 hL.1 rfl rfl rfl rfl ⟨rfl, rfl⟩ rfl (fun z5 M5 e5 => ?_)
  obtain ⟨⟨e5, b5⟩, rfl⟩ := e5
  refine V_istore_7 (q := 34) g dX1_leanOn_32 (by decide) rfl rfl ?_
  refine V_iload (q := 36) g dX1_leanOn_34 rfl rfl ?_
  refine V_iload (q := 38) g dX1_leanOn_36 rfl rfl ?_
  refine V_mmin g dX1_leanOn_38 m_X1_76 (by omega) (by omega) rfl rfl rfl (fun z6 e6 => ?_)
  have r6 := @sMin_r z3 z5
  rw [← e6] at r6
  refine V_istore_4 (q := 43) g dX1_leanOn_41 (by decide) rfl rfl ?_
  refine V_iload (q := 45) g dX1_leanOn_43 rfl rfl ?_
  refine V_iload (q := 47) g dX1_leanOn_45 rfl rfl ?_
  refine V_mmax g dX1_leanOn_47 m_X1_82 (by omega) (by omega) rfl rfl rfl (fun z7 e7 => ?_)
  have r7 := @sMax_r z4 z5
  rw [← e7] at r7
  refine V_istore_5 (q := 52) g dX1_leanOn_50 (by decide) rfl rfl ?_
  refine V_iinc_6 (q := 55) g dX1_leanOn_52 (by decide) rfl rfl ?_
  simp only [Int.reduceAdd]
  refine V_goto g dX1_leanOn_55 (tgt := 17) (by decide) ?_
  refine V_iload (q := 19) g dX1_leanOn_17 rfl rfl ?_
  refine V_iconst (q := 20) g dX1_leanOn_19 rfl ?_
  refine V_icmp_ge (q := 23) g dX1_leanOn_20 (tgt := 58) (by decide) rfl (by omega) (by omega) (fun h20 => absurd h20 (by omega)) (fun h20 => ?_)
  refine V_aload_n (q := 24) g dX1_leanOn_23 rfl rfl ?_
  refine V_iload_n (q := 25) g dX1_leanOn_24 rfl rfl ?_
  refine V_iload (q := 27) g dX1_leanOn_25 rfl rfl ?_
  refine V_iload_n (q := 28) g dX1_leanOn_27 rfl rfl ?_
  refine V_iload_n (q := 29) g dX1_leanOn_28 rfl rfl ?_
  refine V_callVI_4 (q := 32) g (c_X1_reachOn l hL hO hI (by omega) (by omega) (by omega) (by omega)) dX1_leanOn_29 k_X1_68 hL.1 rfl rfl rfl rfl ⟨rfl, rfl⟩ rfl (fun z8 M8 e8 => ?_)
  obtain ⟨⟨e8, b8⟩, rfl⟩ := e8
  refine V_istore_7 (q := 34) g dX1_leanOn_32 (by decide) rfl rfl ?_
  refine V_iload (q := 36) g dX1_leanOn_34 rfl rfl ?_
  refine V_iload (q := 38) g dX1_leanOn_36 rfl rfl ?_
  refine V_mmin g dX1_leanOn_38 m_X1_76 (by omega) (by omega) rfl rfl rfl (fun z9 e9 => ?_)
  have r9 := @sMin_r z6 z8
  rw [← e9] at r9
  refine V_istore_4 (q := 43) g dX1_leanOn_41 (by decide) rfl rfl ?_
  refine V_iload (q := 45) g dX1_leanOn_43 rfl rfl ?_
  refine V_iload (q := 47) g dX1_leanOn_45 rfl rfl ?_
  refine V_mmax g dX1_leanOn_47 m_X1_82 (by omega) (by omega) rfl rfl rfl (fun z10 e10 => ?_)
  have r10 := @sMax_r z7 z8
  rw [← e10] at r10
  refine V_istore_5 (q := 52) g dX1_leanOn_50 (by decide) rfl rfl ?_
  refine V_iinc_6 (q := 55) g dX1_leanOn_52 (by decide) rfl rfl ?_
  simp only [Int.reduceAdd]
  refine V_goto g dX1_leanOn_55 (tgt := 17) (by decide) ?_
  refine V_iload (q := 19) g dX1_leanOn_17 rfl rfl ?_
  refine V_iconst (q := 20) g dX1_leanOn_19 rfl ?_
  refine V_icmp_ge (q := 23) g dX1_leanOn_20 (tgt := 58) (by decide) rfl (by omega) (by omega) (fun h20 => ?_) (fun h20 => absurd h20 (by omega))
  refine V_iload (q := 60) g dX1_leanOn_58 rfl rfl ?_
  refine V_iload (q := 62) g dX1_leanOn_60 rfl rfl ?_
  refine V_isub (q := 63) g dX1_leanOn_62 rfl ?_
  exact V_ireturn g r dX1_leanOn_63 rfl ⟨⟨by rw [e10, e7, e4, e9, e6, e3, e1, e2, e5, e8]; rfl, by omega⟩, rfl⟩
abbrev rm_X1_leanNow : Room := { frames := 3, cells := 0, slots := 0, locals := 72 }
set_option maxHeartbeats 4000000 in
set_option maxRecDepth 100000 in
theorem c_X1_leanNow (l : Launch) {D : DD} {Λ : LY} {M : MM} {o : Nat} {f : Int → Int} {c : Int} (hL : OffL D Λ o) (hO : Off M o f) (hI : Inv f) (hc : 0 ≤ c ∧ c < f 0) : CI l yX1_leanNow cX1_leanNow 2 .int rm_X1_leanNow [.ref o, vi c] D Λ M (fun z M1 => (z = sLn f c ∧ 0 ≤ z ∧ z ≤ 850) ∧ M = M1) := by
  refine CI_of rfl rfl (Nat.le_of_ble_eq_true rfl) (fun Γ g r => ?_)
  have h0 := hI.1
  have h1 := hI.2.1
  refine V_aload_n (q := 1) g dX1_leanNow_0 rfl rfl ?_
  refine V_iload_n (q := 2) g dX1_leanNow_1 rfl rfl ?_
  refine V_aload_n (q := 3) g dX1_leanNow_2 rfl rfl ?_
  refine V_getR (q := 6) g dX1_leanNow_3 rfl f_X1_15 rfl hL.1 rfl ?_
  refine V_iload_n (q := 7) g dX1_leanNow_6 rfl rfl ?_
  refine V_callNI_2 (q := 10) g (a_floorsUnder l hL hO hI (by omega)) dX1_leanNow_7 k_X1_64 rfl rfl ⟨rfl, rfl⟩ rfl (fun z1 M1 e1 => ?_)
  obtain ⟨⟨e1, b1⟩, rfl⟩ := e1
  refine V_aload_n (q := 11) g dX1_leanNow_10 rfl rfl ?_
  refine V_getR (q := 14) g dX1_leanNow_11 rfl f_X1_18 rfl hL.1 rfl ?_
  refine V_iload_n (q := 15) g dX1_leanNow_14 rfl rfl ?_
  refine V_callNI_2 (q := 18) g (a_quarters l hL hO hI (by omega)) dX1_leanNow_15 k_X1_64 rfl rfl ⟨rfl, rfl⟩ rfl (fun z2 M2 e2 => ?_)
  obtain ⟨⟨e2, b2⟩, rfl⟩ := e2
  refine V_callVI_3 (q := 21) g (c_X1_leanOn l hL hO hI (by omega) (by omega) (by omega)) dX1_leanNow_18 k_X1_85 hL.1 rfl rfl rfl rfl ⟨rfl, rfl⟩ rfl (fun z3 M3 e3 => ?_)
  obtain ⟨⟨e3, b3⟩, rfl⟩ := e3
  exact V_ireturn g r dX1_leanNow_21 rfl ⟨⟨by rw [e3, e1, e2]; rfl, b3⟩, rfl⟩
theorem gap_eq {f : Int → Int} {c k : Int} (hk : 0 ≤ k ∧ k < 4) : sAbs (sRn f c ((k + 1) % 4) + sRn f c ((k + 3) % 4) - sRn f c ((k + 2) % 4) - sRn f c k) = sWn f c := by
  have h := @sAbs_r (sTilt f c (f (45 + 9 * c)) (f (46 + 9 * c)))
  unfold sWn sWob
  have h2 := @sAbs_r (sRn f c ((k + 1) % 4) + sRn f c ((k + 3) % 4) - sRn f c ((k + 2) % 4) - sRn f c k)
  unfold sTilt at *
  unfold sRn at *
  rcases (by omega : k = 0 ∨ k = 1 ∨ k = 2 ∨ k = 3) with rfl | rfl | rfl | rfl <;> simp only [Int.reduceAdd, Int.reduceMod] at * <;> omega
abbrev rm_X1_gapUnder : Room := { frames := 3, cells := 0, slots := 0, locals := 67 }
set_option maxHeartbeats 4000000 in
set_option maxRecDepth 100000 in
theorem c_X1_gapUnder (l : Launch) {D : DD} {Λ : LY} {M : MM} {o : Nat} {f : Int → Int} {c k : Int} (hL : OffL D Λ o) (hO : Off M o f) (hI : Inv f) (hc : 0 ≤ c ∧ c < f 0) (hk : 0 ≤ k ∧ k < 4) : CI l yX1_gapUnder cX1_gapUnder 5 .int rm_X1_gapUnder [.ref o, vi c, vi k] D Λ M (fun z M1 => (z = sWn f c ∧ 0 ≤ z ∧ z ≤ 1700) ∧ M = M1) := by
  refine CI_of rfl rfl (Nat.le_of_ble_eq_true rfl) (fun Γ g r => ?_)
  refine V_aload_n (q := 1) g dX1_gapUnder_0 rfl rfl ?_
  refine V_iload_n (q := 2) g dX1_gapUnder_1 rfl rfl ?_
  refine V_iload_n (q := 3) g dX1_gapUnder_2 rfl rfl ?_
  refine V_iconst (q := 4) g dX1_gapUnder_3 rfl ?_
  refine V_iadd (q := 5) g dX1_gapUnder_4 rfl ?_
  refine V_iconst (q := 6) g dX1_gapUnder_5 rfl ?_
  refine V_irem (q := 7) g dX1_gapUnder_6 (by omega) (by omega) rfl ?_
  refine V_callVI_2 (q := 10) g (c_X1_reachNow l hL hO hI (by omega) (by omega)) dX1_gapUnder_7 k_X1_88 hL.1 rfl rfl rfl rfl ⟨rfl, rfl⟩ rfl (fun z1 M1 e1 => ?_)
  obtain ⟨⟨e1, b1⟩, rfl⟩ := e1
  refine V_aload_n (q := 11) g dX1_gapUnder_10 rfl rfl ?_
  refine V_iload_n (q := 12) g dX1_gapUnder_11 rfl rfl ?_
  refine V_iload_n (q := 13) g dX1_gapUnder_12 rfl rfl ?_
  refine V_iconst (q := 14) g dX1_gapUnder_13 rfl ?_
  refine V_iadd (q := 15) g dX1_gapUnder_14 rfl ?_
  refine V_iconst (q := 16) g dX1_gapUnder_15 rfl ?_
  refine V_irem (q := 17) g dX1_gapUnder_16 (by omega) (by omega) rfl ?_
  refine V_callVI_2 (q := 20) g (c_X1_reachNow l hL hO hI (by omega) (by omega)) dX1_gapUnder_17 k_X1_88 hL.1 rfl rfl rfl rfl ⟨rfl, rfl⟩ rfl (fun z2 M2 e2 => ?_)
  obtain ⟨⟨e2, b2⟩, rfl⟩ := e2
  refine V_iadd (q := 21) g dX1_gapUnder_20 rfl ?_
  refine V_istore_n_3 (q := 22) g dX1_gapUnder_21 (by decide) rfl rfl ?_
  refine V_iload_n (q := 23) g dX1_gapUnder_22 rfl rfl ?_
  refine V_aload_n (q := 24) g dX1_gapUnder_23 rfl rfl ?_
  refine V_iload_n (q := 25) g dX1_gapUnder_24 rfl rfl ?_
  refine V_iload_n (q := 26) g dX1_gapUnder_25 rfl rfl ?_
  refine V_iconst (q := 27) g dX1_gapUnder_26 rfl ?_
  refine V_iadd (q := 28) g dX1_gapUnder_27 rfl ?_
  refine V_iconst (q := 29) g dX1_gapUnder_28 rfl ?_
  refine V_irem (q := 30) g dX1_gapUnder_29 (by omega) (by omega) rfl ?_
  refine V_callVI_2 (q := 33) g (c_X1_reachNow l hL hO hI (by omega) (by omega)) dX1_gapUnder_30 k_X1_88 hL.1 rfl rfl rfl rfl ⟨rfl, rfl⟩ rfl (fun z3 M3 e3 => ?_)
  obtain ⟨⟨e3, b3⟩, rfl⟩ := e3
  refine V_isub (q := 34) g dX1_gapUnder_33 rfl ?_
  refine V_aload_n (q := 35) g dX1_gapUnder_34 rfl rfl ?_
  refine V_iload_n (q := 36) g dX1_gapUnder_35 rfl rfl ?_
  refine V_iload_n (q := 37) g dX1_gapUnder_36 rfl rfl ?_
  refine V_callVI_2 (q := 40) g (c_X1_reachNow l hL hO hI (by omega) (by omega)) dX1_gapUnder_37 k_X1_88 hL.1 rfl rfl rfl rfl ⟨rfl, rfl⟩ rfl (fun z4 M4 e4 => ?_)
  obtain ⟨⟨e4, b4⟩, rfl⟩ := e4
  refine V_isub (q := 41) g dX1_gapUnder_40 rfl ?_
  refine V_istore_4 (q := 43) g dX1_gapUnder_41 (by decide) rfl rfl ?_
  refine V_iload (q := 45) g dX1_gapUnder_43 rfl rfl ?_
  refine V_if_ge (q := 48) g dX1_gapUnder_45 (tgt := 54) (by decide) rfl (by omega) (fun h45 => ?_) (fun h45 => ?_)
  · refine V_iload (q := 56) g dX1_gapUnder_54 rfl rfl ?_
    have h9 := @gap_eq f c k hk
    rw [← e1, ← e2, ← e3, ← e4] at h9
    have h8 := @sAbs_r (z1 + z2 - z3 - z4)
    exact V_ireturn g r dX1_gapUnder_56 rfl ⟨⟨by omega, by omega⟩, rfl⟩
  · refine V_iload (q := 50) g dX1_gapUnder_48 rfl rfl ?_
    refine V_ineg (q := 51) g dX1_gapUnder_50 rfl ?_
    refine V_goto g dX1_gapUnder_51 (tgt := 56) (by decide) ?_
    have h9 := @gap_eq f c k hk
    rw [← e1, ← e2, ← e3, ← e4] at h9
    have h8 := @sAbs_r (z1 + z2 - z3 - z4)
    exact V_ireturn g r dX1_gapUnder_56 rfl ⟨⟨by omega, by omega⟩, rfl⟩
abbrev rm_X1_greatestGap : Room := { frames := 4, cells := 0, slots := 0, locals := 91 }
set_option maxHeartbeats 4000000 in
set_option maxRecDepth 100000 in
theorem c_X1_greatestGap (l : Launch) {D : DD} {Λ : LY} {M : MM} {o : Nat} {f : Int → Int} {c : Int} (hL : OffL D Λ o) (hO : Off M o f) (hI : Inv f) (hc : 0 ≤ c ∧ c < f 0) : CI l yX1_greatestGap cX1_greatestGap 4 .int rm_X1_greatestGap [.ref o, vi c] D Λ M (fun z M1 => (z = sWn f c ∧ 0 ≤ z ∧ z ≤ 1700) ∧ M = M1) := by
  refine CI_of rfl rfl (Nat.le_of_ble_eq_true rfl) (fun Γ g r => ?_)
  refine V_iconst (q := 1) g dX1_greatestGap_0 rfl ?_
  refine V_istore_n_2 (q := 2) g dX1_greatestGap_1 (by decide) rfl rfl ?_
  refine V_iconst (q := 3) g dX1_greatestGap_2 rfl ?_
  refine V_istore_n_3 (q := 4) g dX1_greatestGap_3 (by decide) rfl rfl ?_
  refine V_iload_n (q := 5) g dX1_greatestGap_4 rfl rfl ?_
  refine V_iconst (q := 6) g dX1_greatestGap_5 rfl ?_
  refine V_icmp_ge (q := 9) g dX1_greatestGap_6 (tgt := 26) (by decide) rfl (by omega) (by omega) (fun h6 => absurd h6 (by omega)) (fun h6 => ?_)
  refine V_iload_n (q := 10) g dX1_greatestGap_9 rfl rfl ?_
  refine V_aload_n (q := 11) g dX1_greatestGap_10 rfl rfl ?_
  refine V_iload_n (q := 12) g dX1_greatestGap_11 rfl rfl ?_
  refine V_iload_n (q := 13) g dX1_greatestGap_12 rfl rfl ?_
  refine V_callVI_2 (q := 16) g (c_X1_gapUnder l hL hO hI (by omega) (by omega)) dX1_greatestGap_13 k_X1_91 hL.1 rfl rfl rfl rfl ⟨rfl, rfl⟩ rfl (fun z1 M1 e1 => ?_)
  obtain ⟨⟨e1, b1⟩, rfl⟩ := e1
  refine V_mmax g dX1_greatestGap_16 m_X1_82 (by omega) (by omega) rfl rfl rfl (fun z2 e2 => ?_)
  have r2 := @sMax_r 0 z1
  rw [← e2] at r2
  refine V_istore_n_2 (q := 20) g dX1_greatestGap_19 (by decide) rfl rfl ?_
  refine V_iinc_3 (q := 23) g dX1_greatestGap_20 (by decide) rfl rfl ?_
  simp only [Int.reduceAdd]
  refine V_goto g dX1_greatestGap_23 (tgt := 4) (by decide) ?_
  refine V_iload_n (q := 5) g dX1_greatestGap_4 rfl rfl ?_
  refine V_iconst (q := 6) g dX1_greatestGap_5 rfl ?_
  refine V_icmp_ge (q := 9) g dX1_greatestGap_6 (tgt := 26) (by decide) rfl (by omega) (by omega) (fun h6 => absurd h6 (by omega)) (fun h6 => ?_)
  refine V_iload_n (q := 10) g dX1_greatestGap_9 rfl rfl ?_
  refine V_aload_n (q := 11) g dX1_greatestGap_10 rfl rfl ?_
  refine V_iload_n (q := 12) g dX1_greatestGap_11 rfl rfl ?_
  refine V_iload_n (q := 13) g dX1_greatestGap_12 rfl rfl ?_
  refine V_callVI_2 (q := 16) g (c_X1_gapUnder l hL hO hI (by omega) (by omega)) dX1_greatestGap_13 k_X1_91 hL.1 rfl rfl rfl rfl ⟨rfl, rfl⟩ rfl (fun z3 M3 e3 => ?_)
  obtain ⟨⟨e3, b3⟩, rfl⟩ := e3
  refine V_mmax g dX1_greatestGap_16 m_X1_82 (by omega) (by omega) rfl rfl rfl (fun z4 e4 => ?_)
  have r4 := @sMax_r z2 z3
  rw [← e4] at r4
  refine V_istore_n_2 (q := 20) g dX1_greatestGap_19 (by decide) rfl rfl ?_
  refine V_iinc_3 (q := 23) g dX1_greatestGap_20 (by decide) rfl rfl ?_
  simp only [Int.reduceAdd]
  refine V_goto g dX1_greatestGap_23 (tgt := 4) (by decide) ?_
  refine V_iload_n (q := 5) g dX1_greatestGap_4 rfl rfl ?_
  refine V_iconst (q := 6) g dX1_greatestGap_5 rfl ?_
  refine V_icmp_ge (q := 9) g dX1_greatestGap_6 (tgt := 26) (by decide) rfl (by omega) (by omega) (fun h6 => absurd h6 (by omega)) (fun h6 => ?_)
  refine V_iload_n (q := 10) g dX1_greatestGap_9 rfl rfl ?_
  refine V_aload_n (q := 11) g dX1_greatestGap_10 rfl rfl ?_
  refine V_iload_n (q := 12) g dX1_greatestGap_11 rfl rfl ?_
  refine V_iload_n (q := 13) g dX1_greatestGap_12 rfl rfl ?_
  refine V_callVI_2 (q := 16) g (c_X1_gapUnder l hL hO hI (by omega) (by omega)) dX1_greatestGap_13 k_X1_91 hL.1 rfl rfl rfl rfl ⟨rfl, rfl⟩ rfl (fun z5 M5 e5 => ?_)
  obtain ⟨⟨e5, b5⟩, rfl⟩ := e5
  refine V_mmax g dX1_greatestGap_16 m_X1_82 (by omega) (by omega) rfl rfl rfl (fun z6 e6 => ?_)
  have r6 := @sMax_r z4 z5
  rw [← e6] at r6
  refine V_istore_n_2 (q := 20) g dX1_greatestGap_19 (by decide) rfl rfl ?_
  refine V_iinc_3 (q := 23) g dX1_greatestGap_20 (by decide) rfl rfl ?_
  simp only [Int.reduceAdd]
  refine V_goto g dX1_greatestGap_23 (tgt := 4) (by decide) ?_
  refine V_iload_n (q := 5) g dX1_greatestGap_4 rfl rfl ?_
  refine V_iconst (q := 6) g dX1_greatestGap_5 rfl ?_
  refine V_icmp_ge (q := 9) g dX1_greatestGap_6 (tgt := 26) (by decide) rfl (by omega) (by omega) (fun h6 => absurd h6 (by omega)) (fun h6 => ?_)
  refine V_iload_n (q := 10) g dX1_greatestGap_9 rfl rfl ?_
  refine V_aload_n (q := 11) g dX1_greatestGap_10 rfl rfl ?_
  refine V_iload_n (q := 12) g dX1_greatestGap_11 rfl rfl ?_
  refine V_iload_n (q := 13) g dX1_greatestGap_12 rfl rfl ?_
  refine V_callVI_2 (q := 16) g (c_X1_gapUnder l hL hO hI (by omega) (by omega)) dX1_greatestGap_13 k_X1_91 hL.1 rfl rfl rfl rfl ⟨rfl, rfl⟩ rfl (fun z7 M7 e7 => ?_)
  obtain ⟨⟨e7, b7⟩, rfl⟩ := e7
  refine V_mmax g dX1_greatestGap_16 m_X1_82 (by omega) (by omega) rfl rfl rfl (fun z8 e8 => ?_)
  have r8 := @sMax_r z6 z7
  rw [← e8] at r8
  refine V_istore_n_2 (q := 20) g dX1_greatestGap_19 (by decide) rfl rfl ?_
  refine V_iinc_3 (q := 23) g dX1_greatestGap_20 (by decide) rfl rfl ?_
  simp only [Int.reduceAdd]
  refine V_goto g dX1_greatestGap_23 (tgt := 4) (by decide) ?_
  refine V_iload_n (q := 5) g dX1_greatestGap_4 rfl rfl ?_
  refine V_iconst (q := 6) g dX1_greatestGap_5 rfl ?_
  refine V_icmp_ge (q := 9) g dX1_greatestGap_6 (tgt := 26) (by decide) rfl (by omega) (by omega) (fun h6 => ?_) (fun h6 => absurd h6 (by omega))
  refine V_iload_n (q := 27) g dX1_greatestGap_26 rfl rfl ?_
  exact V_ireturn g r dX1_greatestGap_27 rfl ⟨⟨by omega, by omega⟩, rfl⟩
abbrev rm_X1_seatHeight : Room := { frames := 2, cells := 0, slots := 0, locals := 43 }
set_option maxHeartbeats 4000000 in
set_option maxRecDepth 100000 in
theorem c_X1_seatHeight (l : Launch) {D : DD} {Λ : LY} {M : MM} {o : Nat} {f : Int → Int} {c : Int} (hL : OffL D Λ o) (hO : Off M o f) (hI : Inv f) (hc : 0 ≤ c ∧ c < f 0) : CI l yX1_seatHeight cX1_seatHeight 4 .int rm_X1_seatHeight [.ref o, vi c] D Λ M (fun z M1 => (z = sSeat f c ∧ 100 ≤ z ∧ z ≤ 900) ∧ M = M1) := by
  refine CI_of rfl rfl (Nat.le_of_ble_eq_true rfl) (fun Γ g r => ?_)
  refine V_iconst (q := 1) g dX1_seatHeight_0 rfl ?_
  refine V_istore_n_2 (q := 2) g dX1_seatHeight_1 (by decide) rfl rfl ?_
  refine V_iconst (q := 3) g dX1_seatHeight_2 rfl ?_
  refine V_istore_n_3 (q := 4) g dX1_seatHeight_3 (by decide) rfl rfl ?_
  refine V_iload_n (q := 5) g dX1_seatHeight_4 rfl rfl ?_
  refine V_iconst (q := 6) g dX1_seatHeight_5 rfl ?_
  refine V_icmp_ge (q := 9) g dX1_seatHeight_6 (tgt := 24) (by decide) rfl (by omega) (by omega) (fun h6 => absurd h6 (by omega)) (fun h6 => ?_)
  refine V_iload_n (q := 10) g dX1_seatHeight_9 rfl rfl ?_
  refine V_aload_n (q := 11) g dX1_seatHeight_10 rfl rfl ?_
  refine V_iload_n (q := 12) g dX1_seatHeight_11 rfl rfl ?_
  refine V_iload_n (q := 13) g dX1_seatHeight_12 rfl rfl ?_
  refine V_callVI_2 (q := 16) g (c_X1_length l hL hO hI (by omega) (by omega)) dX1_seatHeight_13 k_X1_94 hL.1 rfl rfl rfl rfl ⟨rfl, rfl⟩ rfl (fun z1 M1 e1 => ?_)
  obtain ⟨⟨e1, b1⟩, rfl⟩ := e1
  refine V_iadd (q := 17) g dX1_seatHeight_16 rfl ?_
  refine V_istore_n_2 (q := 18) g dX1_seatHeight_17 (by decide) rfl rfl ?_
  refine V_iinc_3 (q := 21) g dX1_seatHeight_18 (by decide) rfl rfl ?_
  simp only [Int.reduceAdd]
  refine V_goto g dX1_seatHeight_21 (tgt := 4) (by decide) ?_
  refine V_iload_n (q := 5) g dX1_seatHeight_4 rfl rfl ?_
  refine V_iconst (q := 6) g dX1_seatHeight_5 rfl ?_
  refine V_icmp_ge (q := 9) g dX1_seatHeight_6 (tgt := 24) (by decide) rfl (by omega) (by omega) (fun h6 => absurd h6 (by omega)) (fun h6 => ?_)
  refine V_iload_n (q := 10) g dX1_seatHeight_9 rfl rfl ?_
  refine V_aload_n (q := 11) g dX1_seatHeight_10 rfl rfl ?_
  refine V_iload_n (q := 12) g dX1_seatHeight_11 rfl rfl ?_
  refine V_iload_n (q := 13) g dX1_seatHeight_12 rfl rfl ?_
  refine V_callVI_2 (q := 16) g (c_X1_length l hL hO hI (by omega) (by omega)) dX1_seatHeight_13 k_X1_94 hL.1 rfl rfl rfl rfl ⟨rfl, rfl⟩ rfl (fun z2 M2 e2 => ?_)
  obtain ⟨⟨e2, b2⟩, rfl⟩ := e2
  refine V_iadd (q := 17) g dX1_seatHeight_16 rfl ?_
  refine V_istore_n_2 (q := 18) g dX1_seatHeight_17 (by decide) rfl rfl ?_
  refine V_iinc_3 (q := 21) g dX1_seatHeight_18 (by decide) rfl rfl ?_
  simp only [Int.reduceAdd]
  refine V_goto g dX1_seatHeight_21 (tgt := 4) (by decide) ?_
  refine V_iload_n (q := 5) g dX1_seatHeight_4 rfl rfl ?_
  refine V_iconst (q := 6) g dX1_seatHeight_5 rfl ?_
  refine V_icmp_ge (q := 9) g dX1_seatHeight_6 (tgt := 24) (by decide) rfl (by omega) (by omega) (fun h6 => absurd h6 (by omega)) (fun h6 => ?_)
  refine V_iload_n (q := 10) g dX1_seatHeight_9 rfl rfl ?_
  refine V_aload_n (q := 11) g dX1_seatHeight_10 rfl rfl ?_
  refine V_iload_n (q := 12) g dX1_seatHeight_11 rfl rfl ?_
  refine V_iload_n (q := 13) g dX1_seatHeight_12 rfl rfl ?_
  refine V_callVI_2 (q := 16) g (c_X1_length l hL hO hI (by omega) (by omega)) dX1_seatHeight_13 k_X1_94 hL.1 rfl rfl rfl rfl ⟨rfl, rfl⟩ rfl (fun z3 M3 e3 => ?_)
  obtain ⟨⟨e3, b3⟩, rfl⟩ := e3
  refine V_iadd (q := 17) g dX1_seatHeight_16 rfl ?_
  refine V_istore_n_2 (q := 18) g dX1_seatHeight_17 (by decide) rfl rfl ?_
  refine V_iinc_3 (q := 21) g dX1_seatHeight_18 (by decide) rfl rfl ?_
  simp only [Int.reduceAdd]
  refine V_goto g dX1_seatHeight_21 (tgt := 4) (by decide) ?_
  refine V_iload_n (q := 5) g dX1_seatHeight_4 rfl rfl ?_
  refine V_iconst (q := 6) g dX1_seatHeight_5 rfl ?_
  refine V_icmp_ge (q := 9) g dX1_seatHeight_6 (tgt := 24) (by decide) rfl (by omega) (by omega) (fun h6 => absurd h6 (by omega)) (fun h6 => ?_)
  refine V_iload_n (q := 10) g dX1_seatHeight_9 rfl rfl ?_
  refine V_aload_n (q := 11) g dX1_seatHeight_10 rfl rfl ?_
  refine V_iload_n (q := 12) g dX1_seatHeight_11 rfl rfl ?_
  refine V_iload_n (q := 13) g dX1_seatHeight_12 rfl rfl ?_
  refine V_callVI_2 (q := 16) g (c_X1_length l hL hO hI (by omega) (by omega)) dX1_seatHeight_13 k_X1_94 hL.1 rfl rfl rfl rfl ⟨rfl, rfl⟩ rfl (fun z4 M4 e4 => ?_)
  obtain ⟨⟨e4, b4⟩, rfl⟩ := e4
  refine V_iadd (q := 17) g dX1_seatHeight_16 rfl ?_
  refine V_istore_n_2 (q := 18) g dX1_seatHeight_17 (by decide) rfl rfl ?_
  refine V_iinc_3 (q := 21) g dX1_seatHeight_18 (by decide) rfl rfl ?_
  simp only [Int.reduceAdd]
  refine V_goto g dX1_seatHeight_21 (tgt := 4) (by decide) ?_
  refine V_iload_n (q := 5) g dX1_seatHeight_4 rfl rfl ?_
  refine V_iconst (q := 6) g dX1_seatHeight_5 rfl ?_
  refine V_icmp_ge (q := 9) g dX1_seatHeight_6 (tgt := 24) (by decide) rfl (by omega) (by omega) (fun h6 => ?_) (fun h6 => absurd h6 (by omega))
  refine V_iload_n (q := 25) g dX1_seatHeight_24 rfl rfl ?_
  refine V_iconst (q := 26) g dX1_seatHeight_25 rfl ?_
  refine V_idiv (q := 27) g dX1_seatHeight_26 (by omega) (by omega) rfl ?_
  exact V_ireturn g r dX1_seatHeight_27 rfl ⟨⟨by rw [e1, e2, e3, e4]; unfold sSeat; rw [show 49 + 9 * c + 0 = 49 + 9 * c by omega, show 49 + 9 * c + 1 = 50 + 9 * c by omega, show 49 + 9 * c + 2 = 51 + 9 * c by omega, show 49 + 9 * c + 3 = 52 + 9 * c by omega, Int.zero_add], by omega⟩, rfl⟩
abbrev rm_X1_idleLeg : Room := { frames := 3, cells := 0, slots := 0, locals := 67 }
set_option maxHeartbeats 4000000 in
set_option maxRecDepth 100000 in
theorem c_X1_idleLeg (l : Launch) {D : DD} {Λ : LY} {M : MM} {o : Nat} {f : Int → Int} {c : Int} (hL : OffL D Λ o) (hO : Off M o f) (hI : Inv f) (hc : 0 ≤ c ∧ c < f 0) : CI l yX1_idleLeg cX1_idleLeg 6 .int rm_X1_idleLeg [.ref o, vi c] D Λ M (fun z M1 => (z = sIdle f c ∧ -1 ≤ z ∧ z ≤ 3) ∧ M = M1) := by
  refine CI_of rfl rfl (Nat.le_of_ble_eq_true rfl) (fun Γ g r => ?_)
  refine V_aload_n (q := 1) g dX1_idleLeg_0 rfl rfl ?_
  refine V_iload_n (q := 2) g dX1_idleLeg_1 rfl rfl ?_
  refine V_iconst (q := 3) g dX1_idleLeg_2 rfl ?_
  refine V_callVI_2 (q := 6) g (c_X1_reachNow l hL hO hI (by omega) (by omega)) dX1_idleLeg_3 k_X1_88 hL.1 rfl rfl rfl rfl ⟨rfl, rfl⟩ rfl (fun z1 M1 e1 => ?_)
  obtain ⟨⟨e1, b1⟩, rfl⟩ := e1
  refine V_istore_n_2 (q := 7) g dX1_idleLeg_6 (by decide) rfl rfl ?_
  refine V_aload_n (q := 8) g dX1_idleLeg_7 rfl rfl ?_
  refine V_iload_n (q := 9) g dX1_idleLeg_8 rfl rfl ?_
  refine V_iconst (q := 10) g dX1_idleLeg_9 rfl ?_
  refine V_callVI_2 (q := 13) g (c_X1_reachNow l hL hO hI (by omega) (by omega)) dX1_idleLeg_10 k_X1_88 hL.1 rfl rfl rfl rfl ⟨rfl, rfl⟩ rfl (fun z2 M2 e2 => ?_)
  obtain ⟨⟨e2, b2⟩, rfl⟩ := e2
  refine V_istore_n_3 (q := 14) g dX1_idleLeg_13 (by decide) rfl rfl ?_
  refine V_aload_n (q := 15) g dX1_idleLeg_14 rfl rfl ?_
  refine V_iload_n (q := 16) g dX1_idleLeg_15 rfl rfl ?_
  refine V_iconst (q := 17) g dX1_idleLeg_16 rfl ?_
  refine V_callVI_2 (q := 20) g (c_X1_reachNow l hL hO hI (by omega) (by omega)) dX1_idleLeg_17 k_X1_88 hL.1 rfl rfl rfl rfl ⟨rfl, rfl⟩ rfl (fun z3 M3 e3 => ?_)
  obtain ⟨⟨e3, b3⟩, rfl⟩ := e3
  refine V_istore_4 (q := 22) g dX1_idleLeg_20 (by decide) rfl rfl ?_
  refine V_aload_n (q := 23) g dX1_idleLeg_22 rfl rfl ?_
  refine V_iload_n (q := 24) g dX1_idleLeg_23 rfl rfl ?_
  refine V_iconst (q := 25) g dX1_idleLeg_24 rfl ?_
  refine V_callVI_2 (q := 28) g (c_X1_reachNow l hL hO hI (by omega) (by omega)) dX1_idleLeg_25 k_X1_88 hL.1 rfl rfl rfl rfl ⟨rfl, rfl⟩ rfl (fun z4 M4 e4 => ?_)
  obtain ⟨⟨e4, b4⟩, rfl⟩ := e4
  refine V_istore_5 (q := 30) g dX1_idleLeg_28 (by decide) rfl rfl ?_
  refine V_iload_n (q := 31) g dX1_idleLeg_30 rfl rfl ?_
  refine V_iload (q := 33) g dX1_idleLeg_31 rfl rfl ?_
  refine V_iadd (q := 34) g dX1_idleLeg_33 rfl ?_
  refine V_iload_n (q := 35) g dX1_idleLeg_34 rfl rfl ?_
  refine V_iload (q := 37) g dX1_idleLeg_35 rfl rfl ?_
  refine V_iadd (q := 38) g dX1_idleLeg_37 rfl ?_
  refine V_icmp_ne (q := 41) g dX1_idleLeg_38 (tgt := 43) (by decide) rfl (by omega) (by omega) (fun h38 => ?_) (fun h38 => ?_)
  · refine V_iload_n (q := 44) g dX1_idleLeg_43 rfl rfl ?_
    refine V_iload (q := 46) g dX1_idleLeg_44 rfl rfl ?_
    refine V_iadd (q := 47) g dX1_idleLeg_46 rfl ?_
    refine V_iload_n (q := 48) g dX1_idleLeg_47 rfl rfl ?_
    refine V_iload (q := 50) g dX1_idleLeg_48 rfl rfl ?_
    refine V_iadd (q := 51) g dX1_idleLeg_50 rfl ?_
    refine V_icmp_ge (q := 54) g dX1_idleLeg_51 (tgt := 66) (by decide) rfl (by omega) (by omega) (fun h51 => ?_) (fun h51 => ?_)
    · refine V_iload (q := 68) g dX1_idleLeg_66 rfl rfl ?_
      refine V_iload_n (q := 69) g dX1_idleLeg_68 rfl rfl ?_
      refine V_icmp_ge (q := 72) g dX1_idleLeg_69 (tgt := 76) (by decide) rfl (by omega) (by omega) (fun h69 => ?_) (fun h69 => ?_)
      · refine V_iconst (q := 77) g dX1_idleLeg_76 rfl ?_
        exact V_ireturn g r dX1_idleLeg_77 rfl ⟨⟨by unfold sIdle sTilt; unfold sRn at *; rw [← e1, ← e2, ← e3, ← e4]; rw [if_neg (by omega), if_neg (by omega), if_neg (by omega)], by omega⟩, rfl⟩
      · refine V_iconst (q := 73) g dX1_idleLeg_72 rfl ?_
        refine V_goto g dX1_idleLeg_73 (tgt := 77) (by decide) ?_
        exact V_ireturn g r dX1_idleLeg_77 rfl ⟨⟨by unfold sIdle sTilt; unfold sRn at *; rw [← e1, ← e2, ← e3, ← e4]; rw [if_neg (by omega), if_neg (by omega), if_pos (by omega)], by omega⟩, rfl⟩
    · refine V_iload (q := 56) g dX1_idleLeg_54 rfl rfl ?_
      refine V_iload_n (q := 57) g dX1_idleLeg_56 rfl rfl ?_
      refine V_icmp_ge (q := 60) g dX1_idleLeg_57 (tgt := 64) (by decide) rfl (by omega) (by omega) (fun h57 => ?_) (fun h57 => ?_)
      · refine V_iconst (q := 65) g dX1_idleLeg_64 rfl ?_
        exact V_ireturn g r dX1_idleLeg_65 rfl ⟨⟨by unfold sIdle sTilt; unfold sRn at *; rw [← e1, ← e2, ← e3, ← e4]; rw [if_neg (by omega), if_pos (by omega), if_neg (by omega)], by omega⟩, rfl⟩
      · refine V_iconst (q := 61) g dX1_idleLeg_60 rfl ?_
        refine V_goto g dX1_idleLeg_61 (tgt := 65) (by decide) ?_
        exact V_ireturn g r dX1_idleLeg_65 rfl ⟨⟨by unfold sIdle sTilt; unfold sRn at *; rw [← e1, ← e2, ← e3, ← e4]; rw [if_neg (by omega), if_pos (by omega), if_pos (by omega)], by omega⟩, rfl⟩
  · refine V_iconst (q := 42) g dX1_idleLeg_41 rfl ?_
    exact V_ireturn g r dX1_idleLeg_42 rfl ⟨⟨by unfold sIdle sTilt; unfold sRn at *; rw [← e1, ← e2, ← e3, ← e4]; rw [if_pos (by omega)], by omega⟩, rfl⟩
abbrev rm_X1_reason : Room := { frames := 3, cells := 0, slots := 0, locals := 72 }
set_option maxHeartbeats 4000000 in
set_option maxRecDepth 100000 in
theorem c_X1_reason (l : Launch) {D : DD} {Λ : LY} {M : MM} {o : Nat} {f : Int → Int} {c : Int} (hL : OffL D Λ o) (hO : Off M o f) (hI : Inv f) (hc : 0 ≤ c ∧ c < f 0) : CI l yX1_reason cX1_reason 6 .int rm_X1_reason [.ref o, vi c] D Λ M (fun z M1 => (z = sWhy f c ∧ 0 ≤ z ∧ z ≤ 4) ∧ M = M1) := by
  refine CI_of rfl rfl (Nat.le_of_ble_eq_true rfl) (fun Γ g r => ?_)
  have h0 := hI.1
  have h1 := hI.2.1
  refine V_aload_n (q := 1) g dX1_reason_0 rfl rfl ?_
  refine V_getR (q := 4) g dX1_reason_1 rfl f_X1_9 rfl hL.1 rfl ?_
  refine V_iload_n (q := 5) g dX1_reason_4 rfl rfl ?_
  refine V_callNI_2 (q := 8) g (a_guilds l hL hO hI (by omega)) dX1_reason_5 k_X1_64 rfl rfl ⟨rfl, rfl⟩ rfl (fun z1 M1 e1 => ?_)
  obtain ⟨⟨e1, b1⟩, rfl⟩ := e1
  refine V_istore_n_2 (q := 9) g dX1_reason_8 (by decide) rfl rfl ?_
  refine V_aload_n (q := 10) g dX1_reason_9 rfl rfl ?_
  refine V_getR (q := 13) g dX1_reason_10 rfl f_X1_15 rfl hL.1 rfl ?_
  refine V_iload_n (q := 14) g dX1_reason_13 rfl rfl ?_
  refine V_callNI_2 (q := 17) g (a_floorsUnder l hL hO hI (by omega)) dX1_reason_14 k_X1_64 rfl rfl ⟨rfl, rfl⟩ rfl (fun z2 M2 e2 => ?_)
  obtain ⟨⟨e2, b2⟩, rfl⟩ := e2
  refine V_istore_n_3 (q := 18) g dX1_reason_17 (by decide) rfl rfl ?_
  refine V_aload_n (q := 19) g dX1_reason_18 rfl rfl ?_
  refine V_getR (q := 22) g dX1_reason_19 rfl f_X1_18 rfl hL.1 rfl ?_
  refine V_iload_n (q := 23) g dX1_reason_22 rfl rfl ?_
  refine V_callNI_2 (q := 26) g (a_quarters l hL hO hI (by omega)) dX1_reason_23 k_X1_64 rfl rfl ⟨rfl, rfl⟩ rfl (fun z3 M3 e3 => ?_)
  obtain ⟨⟨e3, b3⟩, rfl⟩ := e3
  refine V_istore_4 (q := 28) g dX1_reason_26 (by decide) rfl rfl ?_
  refine V_aload_n (q := 29) g dX1_reason_28 rfl rfl ?_
  refine V_iload_n (q := 30) g dX1_reason_29 rfl rfl ?_
  refine V_iload_n (q := 31) g dX1_reason_30 rfl rfl ?_
  refine V_iload (q := 33) g dX1_reason_31 rfl rfl ?_
  refine V_callVI_3 (q := 36) g (c_X1_wobbleOn l hL hO hI (by omega) (by omega) (by omega)) dX1_reason_33 k_X1_72 hL.1 rfl rfl rfl rfl ⟨rfl, rfl⟩ rfl (fun z4 M4 e4 => ?_)
  obtain ⟨⟨e4, b4⟩, rfl⟩ := e4
  have w4 : z4 = sWn f c := by rw [e4, e2, e3]; rfl
  refine V_aload_n (q := 37) g dX1_reason_36 rfl rfl ?_
  refine V_iload_n (q := 38) g dX1_reason_37 rfl rfl ?_
  refine V_iconst (q := 39) g dX1_reason_38 rfl ?_
  refine V_callVI_2 (q := 42) g (c_X1_limit l hL hO hI (by omega) (by omega)) dX1_reason_39 k_X1_97 hL.1 rfl rfl rfl rfl ⟨rfl, rfl⟩ rfl (fun z5 M5 e5 => ?_)
  obtain ⟨⟨e5, b5⟩, rfl⟩ := e5
  have w5 : z5 = f (30 + 4 * f (44 + 9 * c)) := by rw [e5, e1]; congr 1; omega
  refine V_icmp_le (q := 45) g dX1_reason_42 (tgt := 47) (by decide) rfl (by omega) (by omega) (fun h42 => ?_) (fun h42 => ?_)
  · refine V_aload_n (q := 48) g dX1_reason_47 rfl rfl ?_
    refine V_iload_n (q := 49) g dX1_reason_48 rfl rfl ?_
    refine V_iload_n (q := 50) g dX1_reason_49 rfl rfl ?_
    refine V_iload (q := 52) g dX1_reason_50 rfl rfl ?_
    refine V_callVI_3 (q := 55) g (c_X1_leanOn l hL hO hI (by omega) (by omega) (by omega)) dX1_reason_52 k_X1_85 hL.1 rfl rfl rfl rfl ⟨rfl, rfl⟩ rfl (fun z6 M6 e6 => ?_)
    obtain ⟨⟨e6, b6⟩, rfl⟩ := e6
    have w6 : z6 = sLn f c := by rw [e6, e2, e3]; rfl
    refine V_aload_n (q := 56) g dX1_reason_55 rfl rfl ?_
    refine V_iload_n (q := 57) g dX1_reason_56 rfl rfl ?_
    refine V_iconst (q := 58) g dX1_reason_57 rfl ?_
    refine V_callVI_2 (q := 61) g (c_X1_limit l hL hO hI (by omega) (by omega)) dX1_reason_58 k_X1_97 hL.1 rfl rfl rfl rfl ⟨rfl, rfl⟩ rfl (fun z7 M7 e7 => ?_)
    obtain ⟨⟨e7, b7⟩, rfl⟩ := e7
    have w7 : z7 = f (31 + 4 * f (44 + 9 * c)) := by rw [e7, e1]; congr 1; omega
    refine V_icmp_le (q := 64) g dX1_reason_61 (tgt := 66) (by decide) rfl (by omega) (by omega) (fun h61 => ?_) (fun h61 => ?_)
    · refine V_aload_n (q := 67) g dX1_reason_66 rfl rfl ?_
      refine V_iload_n (q := 68) g dX1_reason_67 rfl rfl ?_
      refine V_callVI_1 (q := 71) g (c_X1_seatHeight l hL hO hI (by omega)) dX1_reason_68 k_X1_100 hL.1 rfl rfl rfl rfl ⟨rfl, rfl⟩ rfl (fun z8 M8 e8 => ?_)
      obtain ⟨⟨e8, b8⟩, rfl⟩ := e8
      refine V_istore_5 (q := 73) g dX1_reason_71 (by decide) rfl rfl ?_
      refine V_iload (q := 75) g dX1_reason_73 rfl rfl ?_
      refine V_aload_n (q := 76) g dX1_reason_75 rfl rfl ?_
      refine V_iload_n (q := 77) g dX1_reason_76 rfl rfl ?_
      refine V_iconst (q := 78) g dX1_reason_77 rfl ?_
      refine V_callVI_2 (q := 81) g (c_X1_limit l hL hO hI (by omega) (by omega)) dX1_reason_78 k_X1_97 hL.1 rfl rfl rfl rfl ⟨rfl, rfl⟩ rfl (fun z9 M9 e9 => ?_)
      obtain ⟨⟨e9, b9⟩, rfl⟩ := e9
      have w9 : z9 = f (28 + 4 * f (44 + 9 * c)) := by rw [e9, e1]; congr 1; omega
      refine V_icmp_ge (q := 84) g dX1_reason_81 (tgt := 86) (by decide) rfl (by omega) (by omega) (fun h81 => ?_) (fun h81 => ?_)
      · refine V_iload (q := 88) g dX1_reason_86 rfl rfl ?_
        refine V_aload_n (q := 89) g dX1_reason_88 rfl rfl ?_
        refine V_iload_n (q := 90) g dX1_reason_89 rfl rfl ?_
        refine V_iconst (q := 91) g dX1_reason_90 rfl ?_
        refine V_callVI_2 (q := 94) g (c_X1_limit l hL hO hI (by omega) (by omega)) dX1_reason_91 k_X1_97 hL.1 rfl rfl rfl rfl ⟨rfl, rfl⟩ rfl (fun z10 M10 e10 => ?_)
        obtain ⟨⟨e10, b10⟩, rfl⟩ := e10
        have w10 : z10 = f (29 + 4 * f (44 + 9 * c)) := by rw [e10, e1]; congr 1; omega
        refine V_icmp_le (q := 97) g dX1_reason_94 (tgt := 101) (by decide) rfl (by omega) (by omega) (fun h94 => ?_) (fun h94 => ?_)
        · refine V_iconst (q := 102) g dX1_reason_101 rfl ?_
          exact V_ireturn g r dX1_reason_102 rfl ⟨⟨by unfold sWhy; rw [← w4, ← w5, ← w6, ← w7, ← e8, ← w9, ← w10, if_neg (by omega), if_neg (by omega), if_neg (by omega), if_neg (by omega)], by omega⟩, rfl⟩
        · refine V_iconst (q := 98) g dX1_reason_97 rfl ?_
          refine V_goto g dX1_reason_98 (tgt := 102) (by decide) ?_
          exact V_ireturn g r dX1_reason_102 rfl ⟨⟨by unfold sWhy; rw [← w4, ← w5, ← w6, ← w7, ← e8, ← w9, ← w10, if_neg (by omega), if_neg (by omega), if_neg (by omega), if_pos (by omega)], by omega⟩, rfl⟩
      · refine V_iconst (q := 85) g dX1_reason_84 rfl ?_
        exact V_ireturn g r dX1_reason_85 rfl ⟨⟨by unfold sWhy; rw [← w4, ← w5, ← w6, ← w7, ← e8, ← w9, if_neg (by omega), if_neg (by omega), if_pos (by omega)], by omega⟩, rfl⟩
    · refine V_iconst (q := 65) g dX1_reason_64 rfl ?_
      exact V_ireturn g r dX1_reason_65 rfl ⟨⟨by unfold sWhy; rw [← w4, ← w5, ← w6, ← w7, if_neg (by omega), if_pos (by omega)], by omega⟩, rfl⟩
  · refine V_iconst (q := 46) g dX1_reason_45 rfl ?_
    exact V_ireturn g r dX1_reason_46 rfl ⟨⟨by unfold sWhy; rw [← w4, ← w5, if_pos (by omega)], by omega⟩, rfl⟩
