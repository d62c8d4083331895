theorem V_lcmpx {Γ : VG} {D : DD} {Λ : LY} {own : String} {cc : ByteArray} {nL : Nat} {l : Launch} {R : Room} {M : MM} {κ : Nat × Nat} {pc q : Nat} {lv : List (Option Value)} {st : List Value} {a b : Int} (g : VOk Γ D Λ own cc nL l R) (d : decode cc pc = .ok (.lcmp, 1)) (hq : pc + 1 = q) (ha : inL a) (hb : inL b) (k : ∀ x : Int, (a < b ∧ x = -1) ∨ (a = b ∧ x = 0) ∨ (b < a ∧ x = 1) → V Γ D Λ M κ q lv (vi x :: st)) : V Γ D Λ M κ pc lv (vl b :: vl a :: st) := by
  refine V_lcmp g d hq ha hb (k _ ?_)
  by_cases h : a < b
  · rw [if_pos h]; exact Or.inl ⟨h, rfl⟩
  · rw [if_neg h]
    by_cases h2 : a = b
    · rw [if_pos h2]; exact Or.inr (Or.inl ⟨h2, rfl⟩)
    · rw [if_neg h2]; exact Or.inr (Or.inr ⟨by omega, rfl⟩)
theorem nrZ {z : Int} (h : z = 0 ∨ z = 1) : narrow .boolean (vi z) = vi z := by rcases h with rfl | rfl <;> rfl
def sLoN (f : Int → Int) (c : Int) : Nat → Int
  | 0 => sRn f c 0
  | n + 1 => sMin (sLoN f c n) (sRn f c (n + 1))
def sHiN (f : Int → Int) (c : Int) : Nat → Int
  | 0 => sRn f c 0
  | n + 1 => sMax (sHiN f c n) (sRn f c (n + 1))
theorem sLn_n (f : Int → Int) (c : Int) : sHiN f c 3 - sLoN f c 3 = sLn f c := rfl
theorem sRn_r {f : Int → Int} (hI : Inv f) {c k : Int} (hc : 0 ≤ c ∧ c < f 0) (hk : 0 ≤ k ∧ k < 4) : 50 ≤ sRn f c k ∧ sRn f c k ≤ 900 := by
  have h1 := hI.2.1
  obtain ⟨-, h2, h3, -⟩ := hI.2.2.2.2.2.2 c hc.1 hc.2
  exact sRe_r hI hc hk (by omega) (by omega)
theorem sLn_r {f : Int → Int} (hI : Inv f) {c : Int} (hc : 0 ≤ c ∧ c < f 0) : 0 ≤ sLn f c ∧ sLn f c ≤ 850 := by
  have h1 := hI.2.1
  obtain ⟨-, h2, h3, -⟩ := hI.2.2.2.2.2.2 c hc.1 hc.2
  exact sLean_r hI hc (by omega) (by omega)
theorem sLoN_r {f : Int → Int} (hI : Inv f) {c : Int} (hc : 0 ≤ c ∧ c < f 0) : ∀ n : Nat, n ≤ 3 → 50 ≤ sLoN f c n ∧ sLoN f c n ≤ 900
  | 0, _ => sRn_r hI hc (by decide)
  | n + 1, h => by
    have h1 := sLoN_r hI hc n (by omega)
    have h2 := sRn_r hI hc (k := n + 1) (by omega)
    have h3 := @sMin_r (sLoN f c n) (sRn f c (n + 1))
    rw [sLoN]
    omega
theorem sHiN_r {f : Int → Int} (hI : Inv f) {c : Int} (hc : 0 ≤ c ∧ c < f 0) : ∀ n : Nat, n ≤ 3 → 50 ≤ sHiN f c n ∧ sHiN f c n ≤ 900
  | 0, _ => sRn_r hI hc (by decide)
  | n + 1, h => by
    have h1 := sHiN_r hI hc n (by omega)
    have h2 := sRn_r hI hc (k := n + 1) (by omega)
    have h3 := @sMax_r (sHiN f c n) (sRn f c (n + 1))
    rw [sHiN]
    omega
abbrev rm_X5_in : Room := { frames := 0, cells := 0, slots := 0, locals := 0 }
set_option maxHeartbeats 4000000 in
set_option maxRecDepth 100000 in
theorem c_X5_in (l : Launch) {D : DD} {Λ : LY} {M : MM} {v lo hi : Int} (hr1 : inL v) (hr2 : inL lo) (hr3 : inL hi) : CI l yX5_in cX5_in 6 .boolean rm_X5_in [vl v, vl lo, vl hi] D Λ M (fun z M1 => ((lo ≤ v ∧ v ≤ hi) ∧ z = 1 ∨ ¬ (lo ≤ v ∧ v ≤ hi) ∧ z = 0) ∧ M = M1) := by
  refine CI_of rfl rfl (Nat.le_of_ble_eq_true rfl) (fun Γ g r => ?_)
  refine V_lload_n (q := 1) g dX5_in_0 rfl rfl ?_
  refine V_lload_n (q := 2) g dX5_in_1 rfl rfl ?_
  refine V_lcmpx (q := 3) g dX5_in_2 rfl (by omega) (by omega) (fun x2 w2 => ?_)
  refine V_if_lt (q := 6) g dX5_in_3 (tgt := 17) (by decide) rfl (by omega) (fun h3 => ?_) (fun h3 => ?_)
  · refine V_iconst (q := 18) g dX5_in_17 rfl ?_
    exact V_ireturn g r dX5_in_18 rfl ⟨by omega, rfl⟩
  · refine V_lload_n (q := 7) g dX5_in_6 rfl rfl ?_
    refine V_lload (q := 9) g dX5_in_7 rfl rfl ?_
    refine V_lcmpx (q := 10) g dX5_in_9 rfl (by omega) (by omega) (fun x9 w9 => ?_)
    refine V_if_gt (q := 13) g dX5_in_10 (tgt := 17) (by decide) rfl (by omega) (fun h10 => ?_) (fun h10 => ?_)
    · refine V_iconst (q := 18) g dX5_in_17 rfl ?_
      exact V_ireturn g r dX5_in_18 rfl ⟨by omega, rfl⟩
    · refine V_iconst (q := 14) g dX5_in_13 rfl ?_
      refine V_goto g dX5_in_14 (tgt := 18) (by decide) ?_
      exact V_ireturn g r dX5_in_18 rfl ⟨by omega, rfl⟩
abbrev rm_X5_of : Room := { frames := 0, cells := 0, slots := 0, locals := 0 }
set_option maxHeartbeats 4000000 in
set_option maxRecDepth 100000 in
theorem c_X5_of (l : Launch) {D : DD} {Λ : LY} {M : MM} {b : Nat} {f : Int → Int} {c wh : Int} (hA0 : Λ b = some (kI D 134)) (hO : M b = f) (hc : 0 ≤ c ∧ c < 10) (hw : 0 ≤ wh ∧ wh < 9) : CI l yX5_of cX5_of 3 .int rm_X5_of [.ref b, vi c, vi wh] D Λ M (fun z M1 => z = f (44 + 9 * c + wh) ∧ M = M1) := by
  refine CI_of rfl rfl (Nat.le_of_ble_eq_true rfl) (fun Γ g r => ?_)
  refine V_aload_n (q := 1) g dX5_of_0 rfl rfl ?_
  refine V_bipush (q := 3) g dX5_of_1 (by decide) rfl ?_
  refine V_bipush (q := 5) g dX5_of_3 (by decide) rfl ?_
  refine V_iload_n (q := 6) g dX5_of_5 rfl rfl ?_
  refine V_imul (q := 7) g dX5_of_6 rfl ?_
  refine V_iadd (q := 8) g dX5_of_7 rfl ?_
  refine V_iload_n (q := 9) g dX5_of_8 rfl rfl ?_
  refine V_iadd (q := 10) g dX5_of_9 rfl ?_
  refine V_iaload (q := 11) g dX5_of_10 rfl hA0 (by omega) (by decide) ?_
  rw [hO]
  exact V_ireturn g r dX5_of_11 rfl ⟨by omega, rfl⟩
abbrev rm_X5_lay : Room := { frames := 0, cells := 0, slots := 0, locals := 0 }
set_option maxHeartbeats 4000000 in
set_option maxRecDepth 100000 in
theorem c_X5_lay (l : Launch) {D : DD} {Λ : LY} {M : MM} {b : Nat} {f : Int → Int} {c wh v : Int} (hA0 : Λ b = some (kI D 134)) (hO : M b = f) (hc : 0 ≤ c ∧ c < 10) (hw : 0 ≤ wh ∧ wh < 9) : CV l yX5_lay cX5_lay 4 rm_X5_lay [.ref b, vi c, vi wh, vi v] D Λ M (fun M1 => aset M b (up f (44 + 9 * c + wh) v) = M1) := by
  refine CV_of rfl rfl (Nat.le_of_ble_eq_true rfl) (fun Γ g r => ?_)
  refine V_aload_n (q := 1) g dX5_lay_0 rfl rfl ?_
  refine V_bipush (q := 3) g dX5_lay_1 (by decide) rfl ?_
  refine V_bipush (q := 5) g dX5_lay_3 (by decide) rfl ?_
  refine V_iload_n (q := 6) g dX5_lay_5 rfl rfl ?_
  refine V_imul (q := 7) g dX5_lay_6 rfl ?_
  refine V_iadd (q := 8) g dX5_lay_7 rfl ?_
  refine V_iload_n (q := 9) g dX5_lay_8 rfl rfl ?_
  refine V_iadd (q := 10) g dX5_lay_9 rfl ?_
  refine V_iload_n (q := 11) g dX5_lay_10 rfl rfl ?_
  refine V_iastore (q := 12) g dX5_lay_11 rfl hA0 (by omega) (by decide) ?_
  simp only [wr_self, aset_aset, aset_at, hO]
  exact V_return g r dX5_lay_12 rfl
theorem b_of0 (l : Launch) {D : DD} {Λ : LY} {M : MM} {b : Nat} {f : Int → Int} {c : Int} (hA0 : Λ b = some (kI D 134)) (hO : M b = f) (hI : Inv f) (hc : 0 ≤ c ∧ c < f 0) : CI l yX5_of cX5_of 3 .int rm_X5_of [.ref b, vi c, vi 0] D Λ M (fun z M1 => (z = f (44 + 9 * c) ∧ 0 ≤ z ∧ z ≤ 3) ∧ M = M1) := by
  have h0 := hI.1
  refine (c_X5_of l hA0 hO (by omega) (by omega)).mono (fun z M1 h => ?_)
  have q := hI.2.2.2.2.2.2 c hc.1 hc.2
  obtain ⟨h1, h2⟩ := h
  rw [show (44 + 9 * c + 0 : Int) = 44 + 9 * c by omega] at h1
  refine ⟨⟨h1, ?_⟩, h2⟩
  rw [h1]
  exact q.1
theorem b_of1 (l : Launch) {D : DD} {Λ : LY} {M : MM} {b : Nat} {f : Int → Int} {c : Int} (hA0 : Λ b = some (kI D 134)) (hO : M b = f) (hI : Inv f) (hc : 0 ≤ c ∧ c < f 0) : CI l yX5_of cX5_of 3 .int rm_X5_of [.ref b, vi c, vi 1] D Λ M (fun z M1 => (z = f (45 + 9 * c) ∧ 0 ≤ z ∧ z < f 1) ∧ M = M1) := by
  have h0 := hI.1
  refine (c_X5_of l hA0 hO (by omega) (by omega)).mono (fun z M1 h => ?_)
  have q := hI.2.2.2.2.2.2 c hc.1 hc.2
  obtain ⟨h1, h2⟩ := h
  rw [show (44 + 9 * c + 1 : Int) = 45 + 9 * c by omega] at h1
  refine ⟨⟨h1, ?_⟩, h2⟩
  rw [h1]
  exact q.2.1
theorem b_of2 (l : Launch) {D : DD} {Λ : LY} {M : MM} {b : Nat} {f : Int → Int} {c : Int} (hA0 : Λ b = some (kI D 134)) (hO : M b = f) (hI : Inv f) (hc : 0 ≤ c ∧ c < f 0) : CI l yX5_of cX5_of 3 .int rm_X5_of [.ref b, vi c, vi 2] D Λ M (fun z M1 => (z = f (46 + 9 * c) ∧ 0 ≤ z ∧ z ≤ 3) ∧ M = M1) := by
  have h0 := hI.1
  refine (c_X5_of l hA0 hO (by omega) (by omega)).mono (fun z M1 h => ?_)
  have q := hI.2.2.2.2.2.2 c hc.1 hc.2
  obtain ⟨h1, h2⟩ := h
  rw [show (44 + 9 * c + 2 : Int) = 46 + 9 * c by omega] at h1
  refine ⟨⟨h1, ?_⟩, h2⟩
  rw [h1]
  exact q.2.2.1
theorem b_of3 (l : Launch) {D : DD} {Λ : LY} {M : MM} {b : Nat} {f : Int → Int} {c : Int} (hA0 : Λ b = some (kI D 134)) (hO : M b = f) (hI : Inv f) (hc : 0 ≤ c ∧ c < f 0) : CI l yX5_of cX5_of 3 .int rm_X5_of [.ref b, vi c, vi 3] D Λ M (fun z M1 => (z = f (47 + 9 * c) ∧ 0 ≤ z ∧ z ≤ 1) ∧ M = M1) := by
  have h0 := hI.1
  refine (c_X5_of l hA0 hO (by omega) (by omega)).mono (fun z M1 h => ?_)
  have q := hI.2.2.2.2.2.2 c hc.1 hc.2
  obtain ⟨h1, h2⟩ := h
  rw [show (44 + 9 * c + 3 : Int) = 47 + 9 * c by omega] at h1
  refine ⟨⟨h1, ?_⟩, h2⟩
  rw [h1]
  exact q.2.2.2.1
theorem b_of4 (l : Launch) {D : DD} {Λ : LY} {M : MM} {b : Nat} {f : Int → Int} {c : Int} (hA0 : Λ b = some (kI D 134)) (hO : M b = f) (hc : 0 ≤ c ∧ c < 10) : CI l yX5_of cX5_of 3 .int rm_X5_of [.ref b, vi c, vi 4] D Λ M (fun z M1 => z = f (48 + 9 * c) ∧ M = M1) := by
  refine (c_X5_of l hA0 hO (by omega) (by omega)).mono (fun z M1 h => ?_)
  obtain ⟨h1, h2⟩ := h
  rw [show (44 + 9 * c + 4 : Int) = 48 + 9 * c by omega] at h1
  exact ⟨h1, h2⟩
theorem b_leg (l : Launch) {D : DD} {Λ : LY} {M : MM} {b : Nat} {f : Int → Int} {c k : Int} (hA0 : Λ b = some (kI D 134)) (hO : M b = f) (hI : Inv f) (hc : 0 ≤ c ∧ c < f 0) (hk : 0 ≤ k ∧ k < 4) : CI l yX5_of cX5_of 3 .int rm_X5_of [.ref b, vi c, vi (5 + k)] D Λ M (fun z M1 => (z = f (49 + 9 * c + k) ∧ 100 ≤ z ∧ z ≤ 900) ∧ M = M1) := by
  have h0 := hI.1
  refine (c_X5_of l hA0 hO (by omega) (by omega)).mono (fun z M1 h => ?_)
  have q := (hI.2.2.2.2.2.2 c hc.1 hc.2).2.2.2.2 k hk.1 hk.2
  obtain ⟨h1, h2⟩ := h
  rw [show (44 + 9 * c + (5 + k) : Int) = 49 + 9 * c + k by omega] at h1
  refine ⟨⟨h1, ?_⟩, h2⟩
  rw [h1]
  exact q
abbrev rm_X5_isChair : Room := { frames := 1, cells := 0, slots := 0, locals := 25 }
set_option maxHeartbeats 4000000 in
set_option maxRecDepth 100000 in
theorem c_X5_isChair (l : Launch) {D : DD} {Λ : LY} {M : MM} {b : Nat} {f : Int → Int} {c : Int} (hA0 : Λ b = some (kI D 134)) (hO : M b = f) (hI : Inv f) (hr : inR c) : CI l yX5_isChair cX5_isChair 2 .boolean rm_X5_isChair [.ref b, vi c] D Λ M (fun z M1 => ((0 ≤ c ∧ c < f 0) ∧ z = 1 ∨ ¬ (0 ≤ c ∧ c < f 0) ∧ z = 0) ∧ M = M1) := by
  refine CI_of rfl rfl (Nat.le_of_ble_eq_true rfl) (fun Γ g r => ?_)
  have h0 := hI.1
  have h1 := hI.2.1
  refine V_iload_n (q := 1) g dX5_isChair_0 rfl rfl ?_
  refine V_i2l (q := 2) g dX5_isChair_1 (by omega) rfl ?_
  refine V_lconst (q := 3) g dX5_isChair_2 (z := 0) (by decide) rfl ?_
  refine V_aload_n (q := 4) g dX5_isChair_3 rfl rfl ?_
  refine V_iconst (q := 5) g dX5_isChair_4 rfl ?_
  refine V_iaload (q := 6) g dX5_isChair_5 rfl hA0 (by omega) (by decide) ?_
  rw [hO]
  refine V_iconst (q := 7) g dX5_isChair_6 rfl ?_
  refine V_isub (q := 8) g dX5_isChair_7 rfl ?_
  refine V_i2l (q := 9) g dX5_isChair_8 (by omega) rfl ?_
  refine V_callSI_3 (q := 12) g (c_X5_in l (by omega) (by omega) (by omega)) dX5_isChair_9 k_X5_37 rfl rfl ⟨rfl, rfl⟩ rfl (fun z1 M1 e1 => ?_)
  obtain ⟨e1, rfl⟩ := e1
  exact V_ireturn g r dX5_isChair_12 (nrZ (by omega)) ⟨by omega, rfl⟩
abbrev rm_X5_isFloor : Room := { frames := 1, cells := 0, slots := 0, locals := 25 }
set_option maxHeartbeats 4000000 in
set_option maxRecDepth 100000 in
theorem c_X5_isFloor (l : Launch) {D : DD} {Λ : LY} {M : MM} {b : Nat} {f : Int → Int} {c : Int} (hA0 : Λ b = some (kI D 134)) (hO : M b = f) (hI : Inv f) (hr : inR c) : CI l yX5_isFloor cX5_isFloor 2 .boolean rm_X5_isFloor [.ref b, vi c] D Λ M (fun z M1 => ((0 ≤ c ∧ c < f 1) ∧ z = 1 ∨ ¬ (0 ≤ c ∧ c < f 1) ∧ z = 0) ∧ M = M1) := by
  refine CI_of rfl rfl (Nat.le_of_ble_eq_true rfl) (fun Γ g r => ?_)
  have h0 := hI.1
  have h1 := hI.2.1
  refine V_iload_n (q := 1) g dX5_isFloor_0 rfl rfl ?_
  refine V_i2l (q := 2) g dX5_isFloor_1 (by omega) rfl ?_
  refine V_lconst (q := 3) g dX5_isFloor_2 (z := 0) (by decide) rfl ?_
  refine V_aload_n (q := 4) g dX5_isFloor_3 rfl rfl ?_
  refine V_iconst (q := 5) g dX5_isFloor_4 rfl ?_
  refine V_iaload (q := 6) g dX5_isFloor_5 rfl hA0 (by omega) (by decide) ?_
  rw [hO]
  refine V_iconst (q := 7) g dX5_isFloor_6 rfl ?_
  refine V_isub (q := 8) g dX5_isFloor_7 rfl ?_
  refine V_i2l (q := 9) g dX5_isFloor_8 (by omega) rfl ?_
  refine V_callSI_3 (q := 12) g (c_X5_in l (by omega) (by omega) (by omega)) dX5_isFloor_9 k_X5_37 rfl rfl ⟨rfl, rfl⟩ rfl (fun z1 M1 e1 => ?_)
  obtain ⟨e1, rfl⟩ := e1
  exact V_ireturn g r dX5_isFloor_12 (nrZ (by omega)) ⟨by omega, rfl⟩
abbrev rm_X5_isFour : Room := { frames := 1, cells := 0, slots := 0, locals := 25 }
set_option maxHeartbeats 4000000 in
set_option maxRecDepth 100000 in
theorem c_X5_isFour (l : Launch) {D : DD} {Λ : LY} {M : MM} {k : Int} (hr : inR k) : CI l yX5_isFour cX5_isFour 1 .boolean rm_X5_isFour [vi k] D Λ M (fun z M1 => ((0 ≤ k ∧ k < 4) ∧ z = 1 ∨ ¬ (0 ≤ k ∧ k < 4) ∧ z = 0) ∧ M = M1) := by
  refine CI_of rfl rfl (Nat.le_of_ble_eq_true rfl) (fun Γ g r => ?_)
  refine V_iload_n (q := 1) g dX5_isFour_0 rfl rfl ?_
  refine V_i2l (q := 2) g dX5_isFour_1 (by omega) rfl ?_
  refine V_lconst (q := 3) g dX5_isFour_2 (z := 0) (by decide) rfl ?_
  refine V_ldc2 (q := 6) g dX5_isFour_3 (z := 3) q_X5_41 (by decide) rfl ?_
  refine V_callSI_3 (q := 9) g (c_X5_in l (by omega) (by omega) (by omega)) dX5_isFour_6 k_X5_37 rfl rfl ⟨rfl, rfl⟩ rfl (fun z1 M1 e1 => ?_)
  obtain ⟨e1, rfl⟩ := e1
  exact V_ireturn g r dX5_isFour_9 (nrZ (by omega)) ⟨by omega, rfl⟩
abbrev rm_X5_isBound : Room := { frames := 1, cells := 0, slots := 0, locals := 25 }
set_option maxHeartbeats 4000000 in
set_option maxRecDepth 100000 in
theorem c_X5_isBound (l : Launch) {D : DD} {Λ : LY} {M : MM} {k x : Int} (hk : inR k) (hr : inR x) : CI l yX5_isBound cX5_isBound 2 .boolean rm_X5_isBound [vi k, vi x] D Λ M (fun z M1 => ((k < 2 ∧ 100 ≤ x ∧ x ≤ 900 ∨ k = 2 ∧ 0 ≤ x ∧ x ≤ 100 ∨ 2 < k ∧ 0 ≤ x ∧ x ≤ 200) ∧ z = 1 ∨ ¬ (k < 2 ∧ 100 ≤ x ∧ x ≤ 900 ∨ k = 2 ∧ 0 ≤ x ∧ x ≤ 100 ∨ 2 < k ∧ 0 ≤ x ∧ x ≤ 200) ∧ z = 0) ∧ M = M1) := by
  refine CI_of rfl rfl (Nat.le_of_ble_eq_true rfl) (fun Γ g r => ?_)
  refine V_iload_n (q := 1) g dX5_isBound_0 rfl rfl ?_
  refine V_iconst (q := 2) g dX5_isBound_1 rfl ?_
  refine V_icmp_ge (q := 5) g dX5_isBound_2 (tgt := 19) (by decide) rfl (by omega) (by omega) (fun h2 => ?_) (fun h2 => ?_)
  · refine V_iload_n (q := 20) g dX5_isBound_19 rfl rfl ?_
    refine V_iconst (q := 21) g dX5_isBound_20 rfl ?_
    refine V_icmp_ne (q := 24) g dX5_isBound_21 (tgt := 36) (by decide) rfl (by omega) (by omega) (fun h21 => ?_) (fun h21 => ?_)
    · refine V_iload_n (q := 37) g dX5_isBound_36 rfl rfl ?_
      refine V_i2l (q := 38) g dX5_isBound_37 (by omega) rfl ?_
      refine V_lconst (q := 39) g dX5_isBound_38 (z := 0) (by decide) rfl ?_
      refine V_ldc2 (q := 42) g dX5_isBound_39 (z := 200) q_X5_47 (by decide) rfl ?_
      refine V_callSI_3 (q := 45) g (c_X5_in l (by omega) (by omega) (by omega)) dX5_isBound_42 k_X5_37 rfl rfl ⟨rfl, rfl⟩ rfl (fun z1 M1 e1 => ?_)
      obtain ⟨e1, rfl⟩ := e1
      exact V_ireturn g r dX5_isBound_45 (nrZ (by omega)) ⟨by omega, rfl⟩
    · refine V_iload_n (q := 25) g dX5_isBound_24 rfl rfl ?_
      refine V_i2l (q := 26) g dX5_isBound_25 (by omega) rfl ?_
      refine V_lconst (q := 27) g dX5_isBound_26 (z := 0) (by decide) rfl ?_
      refine V_ldc2 (q := 30) g dX5_isBound_27 (z := 100) q_X5_43 (by decide) rfl ?_
      refine V_callSI_3 (q := 33) g (c_X5_in l (by omega) (by omega) (by omega)) dX5_isBound_30 k_X5_37 rfl rfl ⟨rfl, rfl⟩ rfl (fun z2 M2 e2 => ?_)
      obtain ⟨e2, rfl⟩ := e2
      refine V_goto g dX5_isBound_33 (tgt := 45) (by decide) ?_
      exact V_ireturn g r dX5_isBound_45 (nrZ (by omega)) ⟨by omega, rfl⟩
  · refine V_iload_n (q := 6) g dX5_isBound_5 rfl rfl ?_
    refine V_i2l (q := 7) g dX5_isBound_6 (by omega) rfl ?_
    refine V_ldc2 (q := 10) g dX5_isBound_7 (z := 100) q_X5_43 (by decide) rfl ?_
    refine V_ldc2 (q := 13) g dX5_isBound_10 (z := 900) q_X5_45 (by decide) rfl ?_
    refine V_callSI_3 (q := 16) g (c_X5_in l (by omega) (by omega) (by omega)) dX5_isBound_13 k_X5_37 rfl rfl ⟨rfl, rfl⟩ rfl (fun z3 M3 e3 => ?_)
    obtain ⟨e3, rfl⟩ := e3
    refine V_goto g dX5_isBound_16 (tgt := 45) (by decide) ?_
    exact V_ireturn g r dX5_isBound_45 (nrZ (by omega)) ⟨by omega, rfl⟩
abbrev rm_X5_isSetting : Room := { frames := 1, cells := 0, slots := 0, locals := 25 }
set_option maxHeartbeats 4000000 in
set_option maxRecDepth 100000 in
theorem c_X5_isSetting (l : Launch) {D : DD} {Λ : LY} {M : MM} {wh v : Int} (hk : inR wh) (hr : inR v) : CI l yX5_isSetting cX5_isSetting 2 .boolean rm_X5_isSetting [vi wh, vi v] D Λ M (fun z M1 => ((wh = 0 ∧ 0 ≤ v ∧ v ≤ 50 ∨ wh = 1 ∧ 1 ≤ v ∧ v ≤ 200) ∧ z = 1 ∨ ¬ (wh = 0 ∧ 0 ≤ v ∧ v ≤ 50 ∨ wh = 1 ∧ 1 ≤ v ∧ v ≤ 200) ∧ z = 0) ∧ M = M1) := by
  refine CI_of rfl rfl (Nat.le_of_ble_eq_true rfl) (fun Γ g r => ?_)
  refine V_iload_n (q := 1) g dX5_isSetting_0 rfl rfl ?_
  refine V_if_ne (q := 4) g dX5_isSetting_1 (tgt := 16) (by decide) rfl (by omega) (fun h1 => ?_) (fun h1 => ?_)
  · refine V_iload_n (q := 17) g dX5_isSetting_16 rfl rfl ?_
    refine V_iconst (q := 18) g dX5_isSetting_17 rfl ?_
    refine V_icmp_ne (q := 21) g dX5_isSetting_18 (tgt := 37) (by decide) rfl (by omega) (by omega) (fun h18 => ?_) (fun h18 => ?_)
    · refine V_iconst (q := 38) g dX5_isSetting_37 rfl ?_
      exact V_ireturn g r dX5_isSetting_38 rfl ⟨by omega, rfl⟩
    · refine V_iload_n (q := 22) g dX5_isSetting_21 rfl rfl ?_
      refine V_i2l (q := 23) g dX5_isSetting_22 (by omega) rfl ?_
      refine V_lconst (q := 24) g dX5_isSetting_23 (z := 1) (by decide) rfl ?_
      refine V_ldc2 (q := 27) g dX5_isSetting_24 (z := 200) q_X5_47 (by decide) rfl ?_
      refine V_callSI_3 (q := 30) g (c_X5_in l (by omega) (by omega) (by omega)) dX5_isSetting_27 k_X5_37 rfl rfl ⟨rfl, rfl⟩ rfl (fun z1 M1 e1 => ?_)
      obtain ⟨e1, rfl⟩ := e1
      refine V_if_eq (q := 33) g dX5_isSetting_30 (tgt := 37) (by decide) rfl (by omega) (fun h30 => ?_) (fun h30 => ?_)
      · refine V_iconst (q := 38) g dX5_isSetting_37 rfl ?_
        exact V_ireturn g r dX5_isSetting_38 rfl ⟨by omega, rfl⟩
      · refine V_iconst (q := 34) g dX5_isSetting_33 rfl ?_
        refine V_goto g dX5_isSetting_34 (tgt := 38) (by decide) ?_
        exact V_ireturn g r dX5_isSetting_38 rfl ⟨by omega, rfl⟩
  · refine V_iload_n (q := 5) g dX5_isSetting_4 rfl rfl ?_
    refine V_i2l (q := 6) g dX5_isSetting_5 (by omega) rfl ?_
    refine V_lconst (q := 7) g dX5_isSetting_6 (z := 0) (by decide) rfl ?_
    refine V_ldc2 (q := 10) g dX5_isSetting_7 (z := 50) q_X5_49 (by decide) rfl ?_
    refine V_callSI_3 (q := 13) g (c_X5_in l (by omega) (by omega) (by omega)) dX5_isSetting_10 k_X5_37 rfl rfl ⟨rfl, rfl⟩ rfl (fun z2 M2 e2 => ?_)
    obtain ⟨e2, rfl⟩ := e2
    refine V_if_ne (q := 16) g dX5_isSetting_13 (tgt := 33) (by decide) rfl (by omega) (fun h13 => ?_) (fun h13 => ?_)
    · refine V_iconst (q := 34) g dX5_isSetting_33 rfl ?_
      refine V_goto g dX5_isSetting_34 (tgt := 38) (by decide) ?_
      exact V_ireturn g r dX5_isSetting_38 rfl ⟨by omega, rfl⟩
    · refine V_iload_n (q := 17) g dX5_isSetting_16 rfl rfl ?_
      refine V_iconst (q := 18) g dX5_isSetting_17 rfl ?_
      refine V_icmp_ne (q := 21) g dX5_isSetting_18 (tgt := 37) (by decide) rfl (by omega) (by omega) (fun h18 => ?_) (fun h18 => ?_)
      · refine V_iconst (q := 38) g dX5_isSetting_37 rfl ?_
        exact V_ireturn g r dX5_isSetting_38 rfl ⟨by omega, rfl⟩
      · refine V_iload_n (q := 22) g dX5_isSetting_21 rfl rfl ?_
        refine V_i2l (q := 23) g dX5_isSetting_22 (by omega) rfl ?_
        refine V_lconst (q := 24) g dX5_isSetting_23 (z := 1) (by decide) rfl ?_
        refine V_ldc2 (q := 27) g dX5_isSetting_24 (z := 200) q_X5_47 (by decide) rfl ?_
        refine V_callSI_3 (q := 30) g (c_X5_in l (by omega) (by omega) (by omega)) dX5_isSetting_27 k_X5_37 rfl rfl ⟨rfl, rfl⟩ rfl (fun z3 M3 e3 => ?_)
        obtain ⟨e3, rfl⟩ := e3
        refine V_if_eq (q := 33) g dX5_isSetting_30 (tgt := 37) (by decide) rfl (by omega) (fun h30 => ?_) (fun h30 => ?_)
        · refine V_iconst (q := 38) g dX5_isSetting_37 rfl ?_
          exact V_ireturn g r dX5_isSetting_38 rfl ⟨by omega, rfl⟩
        · refine V_iconst (q := 34) g dX5_isSetting_33 rfl ?_
          refine V_goto g dX5_isSetting_34 (tgt := 38) (by decide) ?_
          exact V_ireturn g r dX5_isSetting_38 rfl ⟨by omega, rfl⟩
abbrev rm_X5_without : Room := { frames := 0, cells := 0, slots := 0, locals := 0 }
set_option maxHeartbeats 4000000 in
set_option maxRecDepth 100000 in
theorem c_X5_without (l : Launch) {D : DD} {Λ : LY} {M : MM} {v : Int} (hv : -2147483648 < v ∧ v < 2147483648) : CI l yX5_without cX5_without 1 .int rm_X5_without [vi v] D Λ M (fun z M1 => z = sAbs v ∧ M = M1) := by
  refine CI_of rfl rfl (Nat.le_of_ble_eq_true rfl) (fun Γ g r => ?_)
  refine V_iload_n (q := 1) g dX5_without_0 rfl rfl ?_
  refine V_if_ge (q := 4) g dX5_without_1 (tgt := 9) (by decide) rfl (by omega) (fun h1 => ?_) (fun h1 => ?_)
  · refine V_iload_n (q := 10) g dX5_without_9 rfl rfl ?_
    exact V_ireturn g r dX5_without_10 rfl ⟨by unfold sAbs; first | rw [if_pos (by omega)] | rw [if_neg (by omega)], rfl⟩
  · refine V_iload_n (q := 5) g dX5_without_4 rfl rfl ?_
    refine V_ineg (q := 6) g dX5_without_5 rfl ?_
    refine V_goto g dX5_without_6 (tgt := 10) (by decide) ?_
    exact V_ireturn g r dX5_without_10 rfl ⟨by unfold sAbs; first | rw [if_pos (by omega)] | rw [if_neg (by omega)], rfl⟩
abbrev rm_X5_spotOf : Room := { frames := 1, cells := 0, slots := 0, locals := 22 }
set_option maxHeartbeats 4000000 in
set_option maxRecDepth 100000 in
theorem c_X5_spotOf (l : Launch) {D : DD} {Λ : LY} {M : MM} {b : Nat} {f : Int → Int} {c k : Int} (hA0 : Λ b = some (kI D 134)) (hO : M b = f) (hI : Inv f) (hc : 0 ≤ c ∧ c < f 0) (hk : 0 ≤ k ∧ k < 4) : CI l yX5_spotOf cX5_spotOf 3 .int rm_X5_spotOf [.ref b, vi c, vi k] D Λ M (fun z M1 => (z = (k + f (46 + 9 * c)) % 4 ∧ 0 ≤ z ∧ z ≤ 3) ∧ M = M1) := by
  refine CI_of rfl rfl (Nat.le_of_ble_eq_true rfl) (fun Γ g r => ?_)
  have h0 := hI.1
  have h1 := hI.2.1
  refine V_iload_n (q := 1) g dX5_spotOf_0 rfl rfl ?_
  refine V_aload_n (q := 2) g dX5_spotOf_1 rfl rfl ?_
  refine V_iload_n (q := 3) g dX5_spotOf_2 rfl rfl ?_
  refine V_iconst (q := 4) g dX5_spotOf_3 rfl ?_
  refine V_callSI_3 (q := 7) g (b_of2 l hA0 hO hI (by omega)) dX5_spotOf_4 k_X5_51 rfl rfl ⟨rfl, rfl⟩ rfl (fun z1 M1 e1 => ?_)
  obtain ⟨⟨e1, b1⟩, rfl⟩ := e1
  refine V_iadd (q := 8) g dX5_spotOf_7 rfl ?_
  refine V_iconst (q := 9) g dX5_spotOf_8 rfl ?_
  refine V_irem (q := 10) g dX5_spotOf_9 (by omega) (by omega) rfl ?_
  exact V_ireturn g r dX5_spotOf_10 rfl ⟨⟨by rw [e1], by omega, by omega⟩, rfl⟩
abbrev rm_X5_reach : Room := { frames := 2, cells := 0, slots := 0, locals := 44 }
set_option maxHeartbeats 4000000 in
set_option maxRecDepth 100000 in
theorem c_X5_reach (l : Launch) {D : DD} {Λ : LY} {M : MM} {b : Nat} {f : Int → Int} {c k : Int} (hA0 : Λ b = some (kI D 134)) (hO : M b = f) (hI : Inv f) (hc : 0 ≤ c ∧ c < f 0) (hk : 0 ≤ k ∧ k < 4) : CI l yX5_reach cX5_reach 3 .int rm_X5_reach [.ref b, vi c, vi k] D Λ M (fun z M1 => (z = sRn f c k ∧ 50 ≤ z ∧ z ≤ 900) ∧ M = M1) := by
  refine CI_of rfl rfl (Nat.le_of_ble_eq_true rfl) (fun Γ g r => ?_)
  have h0 := hI.1
  have h1 := hI.2.1
  refine V_aload_n (q := 1) g dX5_reach_0 rfl rfl ?_
  refine V_iload_n (q := 2) g dX5_reach_1 rfl rfl ?_
  refine V_iconst (q := 3) g dX5_reach_2 rfl ?_
  refine V_iload_n (q := 4) g dX5_reach_3 rfl rfl ?_
  refine V_iadd (q := 5) g dX5_reach_4 rfl ?_
  refine V_callSI_3 (q := 8) g (b_leg l hA0 hO hI (by omega) (by omega)) dX5_reach_5 k_X5_51 rfl rfl ⟨rfl, rfl⟩ rfl (fun z1 M1 e1 => ?_)
  obtain ⟨⟨e1, b1⟩, rfl⟩ := e1
  refine V_aload_n (q := 9) g dX5_reach_8 rfl rfl ?_
  refine V_bipush (q := 11) g dX5_reach_9 (by decide) rfl ?_
  refine V_iconst (q := 12) g dX5_reach_11 rfl ?_
  refine V_aload_n (q := 13) g dX5_reach_12 rfl rfl ?_
  refine V_iload_n (q := 14) g dX5_reach_13 rfl rfl ?_
  refine V_iconst (q := 15) g dX5_reach_14 rfl ?_
  refine V_callSI_3 (q := 18) g (b_of1 l hA0 hO hI (by omega)) dX5_reach_15 k_X5_51 rfl rfl ⟨rfl, rfl⟩ rfl (fun z2 M2 e2 => ?_)
  obtain ⟨⟨e2, b2⟩, rfl⟩ := e2
  refine V_imul (q := 19) g dX5_reach_18 rfl ?_
  refine V_iadd (q := 20) g dX5_reach_19 rfl ?_
  refine V_aload_n (q := 21) g dX5_reach_20 rfl rfl ?_
  refine V_iload_n (q := 22) g dX5_reach_21 rfl rfl ?_
  refine V_iload_n (q := 23) g dX5_reach_22 rfl rfl ?_
  refine V_callSI_3 (q := 26) g (c_X5_spotOf l hA0 hO hI (by omega) (by omega)) dX5_reach_23 k_X5_55 rfl rfl ⟨rfl, rfl⟩ rfl (fun z3 M3 e3 => ?_)
  obtain ⟨⟨e3, b3⟩, rfl⟩ := e3
  refine V_iadd (q := 27) g dX5_reach_26 rfl ?_
  refine V_iaload (q := 28) g dX5_reach_27 rfl hA0 (by omega) (by decide) ?_
  rw [hO]
  refine V_isub (q := 29) g dX5_reach_28 rfl ?_
  have p := sRn_r hI hc hk
  have w : z1 - f (12 + 4 * z2 + z3) = sRn f c k := by
    unfold sRn sRe
    rw [e1, e3, e2, show (12 + 4 * f (45 + 9 * c) + (k + f (46 + 9 * c)) % 4 : Int) = 12 + (4 * f (45 + 9 * c) + (k + f (46 + 9 * c)) % 4) by omega]
  exact V_ireturn g r dX5_reach_29 rfl ⟨⟨w, by omega, by omega⟩, rfl⟩
abbrev rm_X5_tilt : Room := { frames := 3, cells := 0, slots := 0, locals := 66 }
set_option maxHeartbeats 4000000 in
set_option maxRecDepth 100000 in
theorem c_X5_tilt (l : Launch) {D : DD} {Λ : LY} {M : MM} {b : Nat} {f : Int → Int} {c : Int} (hA0 : Λ b = some (kI D 134)) (hO : M b = f) (hI : Inv f) (hc : 0 ≤ c ∧ c < f 0) : CI l yX5_tilt cX5_tilt 2 .int rm_X5_tilt [.ref b, vi c] D Λ M (fun z M1 => (z = sTilt f c (f (45 + 9 * c)) (f (46 + 9 * c)) ∧ -1700 ≤ z ∧ z ≤ 1700) ∧ M = M1) := by
  refine CI_of rfl rfl (Nat.le_of_ble_eq_true rfl) (fun Γ g r => ?_)
  refine V_aload_n (q := 1) g dX5_tilt_0 rfl rfl ?_
  refine V_iload_n (q := 2) g dX5_tilt_1 rfl rfl ?_
  refine V_iconst (q := 3) g dX5_tilt_2 rfl ?_
  refine V_callSI_3 (q := 6) g (c_X5_reach l hA0 hO hI (by omega) (by omega)) dX5_tilt_3 k_X5_58 rfl rfl ⟨rfl, rfl⟩ rfl (fun z1 M1 e1 => ?_)
  obtain ⟨⟨e1, b1⟩, rfl⟩ := e1
  refine V_aload_n (q := 7) g dX5_tilt_6 rfl rfl ?_
  refine V_iload_n (q := 8) g dX5_tilt_7 rfl rfl ?_
  refine V_iconst (q := 9) g dX5_tilt_8 rfl ?_
  refine V_callSI_3 (q := 12) g (c_X5_reach l hA0 hO hI (by omega) (by omega)) dX5_tilt_9 k_X5_58 rfl rfl ⟨rfl, rfl⟩ rfl (fun z2 M2 e2 => ?_)
  obtain ⟨⟨e2, b2⟩, rfl⟩ := e2
  refine V_iadd (q := 13) g dX5_tilt_12 rfl ?_
  refine V_aload_n (q := 14) g dX5_tilt_13 rfl rfl ?_
  refine V_iload_n (q := 15) g dX5_tilt_14 rfl rfl ?_
  refine V_iconst (q := 16) g dX5_tilt_15 rfl ?_
  refine V_callSI_3 (q := 19) g (c_X5_reach l hA0 hO hI (by omega) (by omega)) dX5_tilt_16 k_X5_58 rfl rfl ⟨rfl, rfl⟩ rfl (fun z3 M3 e3 => ?_)
  obtain ⟨⟨e3, b3⟩, rfl⟩ := e3
  refine V_isub (q := 20) g dX5_tilt_19 rfl ?_
  refine V_aload_n (q := 21) g dX5_tilt_20 rfl rfl ?_
  refine V_iload_n (q := 22) g dX5_tilt_21 rfl rfl ?_
  refine V_iconst (q := 23) g dX5_tilt_22 rfl ?_
  refine V_callSI_3 (q := 26) g (c_X5_reach l hA0 hO hI (by omega) (by omega)) dX5_tilt_23 k_X5_58 rfl rfl ⟨rfl, rfl⟩ rfl (fun z4 M4 e4 => ?_)
  obtain ⟨⟨e4, b4⟩, rfl⟩ := e4
  refine V_isub (q := 27) g dX5_tilt_26 rfl ?_
  exact V_ireturn g r dX5_tilt_27 rfl ⟨⟨by rw [e1, e2, e3, e4]; rfl, by omega, by omega⟩, rfl⟩
abbrev rm_X5_wobbleOf : Room := { frames := 4, cells := 0, slots := 0, locals := 87 }
set_option maxHeartbeats 4000000 in
set_option maxRecDepth 100000 in
theorem c_X5_wobbleOf (l : Launch) {D : DD} {Λ : LY} {M : MM} {b : Nat} {f : Int → Int} {c : Int} (hA0 : Λ b = some (kI D 134)) (hO : M b = f) (hI : Inv f) (hc : 0 ≤ c ∧ c < f 0) : CI l yX5_wobbleOf cX5_wobbleOf 2 .int rm_X5_wobbleOf [.ref b, vi c] D Λ M (fun z M1 => (z = sWn f c ∧ 0 ≤ z ∧ z ≤ 1700) ∧ M = M1) := by
  refine CI_of rfl rfl (Nat.le_of_ble_eq_true rfl) (fun Γ g r => ?_)
  refine V_aload_n (q := 1) g dX5_wobbleOf_0 rfl rfl ?_
  refine V_iload_n (q := 2) g dX5_wobbleOf_1 rfl rfl ?_
  refine V_callSI_2 (q := 5) g (c_X5_tilt l hA0 hO hI (by omega)) dX5_wobbleOf_2 k_X5_61 rfl rfl ⟨rfl, rfl⟩ rfl (fun z1 M1 e1 => ?_)
  obtain ⟨⟨e1, b1⟩, rfl⟩ := e1
  refine V_callSI_1 (q := 8) g (c_X5_without l (by omega)) dX5_wobbleOf_5 k_X5_65 rfl rfl ⟨rfl, rfl⟩ rfl (fun z2 M2 e2 => ?_)
  obtain ⟨e2, rfl⟩ := e2
  have p := @sAbs_r z1
  exact V_ireturn g r dX5_wobbleOf_8 rfl ⟨⟨by rw [e2, e1]; rfl, by omega, by omega⟩, rfl⟩
abbrev rm_X5_leanOf : Room := { frames := 3, cells := 0, slots := 0, locals := 66 }
set_option maxHeartbeats 4000000 in
set_option maxRecDepth 100000 in
theorem c_X5_leanOf (l : Launch) {D : DD} {Λ : LY} {M : MM} {b : Nat} {f : Int → Int} {c : Int} (hA0 : Λ b = some (kI D 134)) (hO : M b = f) (hI : Inv f) (hc : 0 ≤ c ∧ c < f 0) : CI l yX5_leanOf cX5_leanOf 6 .int rm_X5_leanOf [.ref b, vi c] D Λ M (fun z M1 => (z = sLn f c ∧ 0 ≤ z ∧ z ≤ 850) ∧ M = M1) := by
  refine CI_of rfl rfl (Nat.le_of_ble_eq_true rfl) (fun Γ g r => ?_)
  have h0 := hI.1
  have h1 := hI.2.1
  refine V_aload_n (q := 1) g dX5_leanOf_0 rfl rfl ?_
  refine V_iload_n (q := 2) g dX5_leanOf_1 rfl rfl ?_
  refine V_iconst (q := 3) g dX5_leanOf_2 rfl ?_
  refine V_callSI_3 (q := 6) g (c_X5_reach l hA0 hO hI (by omega) (by omega)) dX5_leanOf_3 k_X5_58 rfl rfl ⟨rfl, rfl⟩ rfl (fun z1 M1 e1 => ?_)
  obtain ⟨⟨e1, b1⟩, rfl⟩ := e1
  refine V_istore_n_2 (q := 7) g dX5_leanOf_6 (by decide) rfl rfl ?_
  refine V_iload_n (q := 8) g dX5_leanOf_7 rfl rfl ?_
  refine V_istore_n_3 (q := 9) g dX5_leanOf_8 (by decide) rfl rfl ?_
  refine V_iconst (q := 10) g dX5_leanOf_9 rfl ?_
  refine V_istore_4 (q := 12) g dX5_leanOf_10 (by decide) rfl rfl ?_
  have hs : z1 = sLoN f c 0 := e1
  have hs2 : sLoN f c 0 = sHiN f c 0 := rfl
  rw [hs]
  have hloop : ∀ (k9 : Nat) (n : Nat) (y5 : Option Value), n ≤ 3 → 3 - n ≤ k9 → V Γ D Λ M (0, 0) 12 [some (.ref b), some (vi c), some (vi (sLoN f c n)), some (vi (sHiN f c n)), some (vi ((n : Int) + 1)), y5] [] := by
    intro k9
    induction k9 with
    | zero =>
      intro n y5 h2 h3
      have j0 := sLoN_r hI hc n h2
      have j1 := sHiN_r hI hc n h2
      refine V_iload (q := 14) g dX5_leanOf_12 rfl rfl ?_
      refine V_iconst (q := 15) g dX5_leanOf_14 rfl ?_
      refine V_icmp_ge (q := 18) g dX5_leanOf_15 (tgt := 59) (by decide) rfl (by omega) (by omega) (fun h15 => ?_) (fun h15 => absurd h15 (by omega))
      have hn : n = 3 := by omega
      subst hn
      refine V_iload_n (q := 60) g dX5_leanOf_59 rfl rfl ?_
      refine V_iload_n (q := 61) g dX5_leanOf_60 rfl rfl ?_
      refine V_isub (q := 62) g dX5_leanOf_61 rfl ?_
      have w := sLn_n f c
      have p := sLn_r hI hc
      exact V_ireturn g r dX5_leanOf_62 rfl ⟨⟨w, by omega, by omega⟩, rfl⟩
    | succ k9 ih =>
      intro n y5 h2 h3
      have j0 := sLoN_r hI hc n h2
      have j1 := sHiN_r hI hc n h2
      refine V_iload (q := 14) g dX5_leanOf_12 rfl rfl ?_
      refine V_iconst (q := 15) g dX5_leanOf_14 rfl ?_
      refine V_icmp_ge (q := 18) g dX5_leanOf_15 (tgt := 59) (by decide) rfl (by omega) (by omega) (fun h15 => ?_) (fun h15 => ?_)
      · have hn : n = 3 := by omega
        subst hn
        refine V_iload_n (q := 60) g dX5_leanOf_59 rfl rfl ?_
        refine V_iload_n (q := 61) g dX5_leanOf_60 rfl rfl ?_
        refine V_isub (q := 62) g dX5_leanOf_61 rfl ?_
        have w := sLn_n f c
        have p := sLn_r hI hc
        exact V_ireturn g r dX5_leanOf_62 rfl ⟨⟨w, by omega, by omega⟩, rfl⟩
      · refine V_aload_n (q := 19) g dX5_leanOf_18 rfl rfl ?_
        refine V_iload_n (q := 20) g dX5_leanOf_19 rfl rfl ?_
        refine V_iload (q := 22) g dX5_leanOf_20 rfl rfl ?_
        refine V_callSI_3 (q := 25) g (c_X5_reach l hA0 hO hI (by omega) (by omega)) dX5_leanOf_22 k_X5_58 rfl rfl ⟨rfl, rfl⟩ rfl (fun z2 M2 e2 => ?_)
        obtain ⟨⟨e2, b2⟩, rfl⟩ := e2
        refine V_istore_5 (q := 27) g dX5_leanOf_25 (by decide) rfl rfl ?_
        refine V_iload (q := 29) g dX5_leanOf_27 rfl rfl ?_
        refine V_iload_n (q := 30) g dX5_leanOf_29 rfl rfl ?_
        refine V_icmp_ge (q := 33) g dX5_leanOf_30 (tgt := 38) (by decide) rfl (by omega) (by omega) (fun h30 => ?_) (fun h30 => ?_)
        · refine V_iload_n (q := 39) g dX5_leanOf_38 rfl rfl ?_
          refine V_istore_n_2 (q := 40) g dX5_leanOf_39 (by decide) rfl rfl ?_
          refine V_iload (q := 42) g dX5_leanOf_40 rfl rfl ?_
          refine V_iload_n (q := 43) g dX5_leanOf_42 rfl rfl ?_
          refine V_icmp_le (q := 46) g dX5_leanOf_43 (tgt := 51) (by decide) rfl (by omega) (by omega) (fun h43 => ?_) (fun h43 => ?_)
          · refine V_iload_n (q := 52) g dX5_leanOf_51 rfl rfl ?_
            refine V_istore_n_3 (q := 53) g dX5_leanOf_52 (by decide) rfl rfl ?_
            refine V_iinc_4 (q := 56) g dX5_leanOf_53 (by decide) rfl rfl ?_
            refine V_goto g dX5_leanOf_56 (tgt := 12) (by decide) ?_
            have q9 := fun y9 => ih (n + 1) y9 (by omega) (by omega)
            rw [sLoN, sHiN, ← e2] at q9
            unfold sMin sMax at q9
            first
              | (rw [if_pos (by omega), if_pos (by omega)] at q9; exact q9 _)
              | (rw [if_pos (by omega), if_neg (by omega)] at q9; exact q9 _)
              | (rw [if_neg (by omega), if_pos (by omega)] at q9; exact q9 _)
              | (rw [if_neg (by omega), if_neg (by omega)] at q9; exact q9 _)
          · refine V_iload (q := 48) g dX5_leanOf_46 rfl rfl ?_
            refine V_goto g dX5_leanOf_48 (tgt := 52) (by decide) ?_
            refine V_istore_n_3 (q := 53) g dX5_leanOf_52 (by decide) rfl rfl ?_
            refine V_iinc_4 (q := 56) g dX5_leanOf_53 (by decide) rfl rfl ?_
            refine V_goto g dX5_leanOf_56 (tgt := 12) (by decide) ?_
            have q9 := fun y9 => ih (n + 1) y9 (by omega) (by omega)
            rw [sLoN, sHiN, ← e2] at q9
            unfold sMin sMax at q9
            first
              | (rw [if_pos (by omega), if_pos (by omega)] at q9; exact q9 _)
              | (rw [if_pos (by omega), if_neg (by omega)] at q9; exact q9 _)
              | (rw [if_neg (by omega), if_pos (by omega)] at q9; exact q9 _)
              | (rw [if_neg (by omega), if_neg (by omega)] at q9; exact q9 _)
        · refine V_iload (q := 35) g dX5_leanOf_33 rfl rfl ?_
          refine V_goto g dX5_leanOf_35 (tgt := 39) (by decide) ?_
          refine V_istore_n_2 (q := 40) g dX5_leanOf_39 (by decide) rfl rfl ?_
          refine V_iload (q := 42) g dX5_leanOf_40 rfl rfl ?_
          refine V_iload_n (q := 43) g dX5_leanOf_42 rfl rfl ?_
          refine V_icmp_le (q := 46) g dX5_leanOf_43 (tgt := 51) (by decide) rfl (by omega) (by omega) (fun h43 => ?_) (fun h43 => ?_)
          · refine V_iload_n (q := 52) g dX5_leanOf_51 rfl rfl ?_
            refine V_istore_n_3 (q := 53) g dX5_leanOf_52 (by decide) rfl rfl ?_
            refine V_iinc_4 (q := 56) g dX5_leanOf_53 (by decide) rfl rfl ?_
            refine V_goto g dX5_leanOf_56 (tgt := 12) (by decide) ?_
            have q9 := fun y9 => ih (n + 1) y9 (by omega) (by omega)
            rw [sLoN, sHiN, ← e2] at q9
            unfold sMin sMax at q9
            first
              | (rw [if_pos (by omega), if_pos (by omega)] at q9; exact q9 _)
              | (rw [if_pos (by omega), if_neg (by omega)] at q9; exact q9 _)
              | (rw [if_neg (by omega), if_pos (by omega)] at q9; exact q9 _)
              | (rw [if_neg (by omega), if_neg (by omega)] at q9; exact q9 _)
          · refine V_iload (q := 48) g dX5_leanOf_46 rfl rfl ?_
            refine V_goto g dX5_leanOf_48 (tgt := 52) (by decide) ?_
            refine V_istore_n_3 (q := 53) g dX5_leanOf_52 (by decide) rfl rfl ?_
            refine V_iinc_4 (q := 56) g dX5_leanOf_53 (by decide) rfl rfl ?_
            refine V_goto g dX5_leanOf_56 (tgt := 12) (by decide) ?_
            have q9 := fun y9 => ih (n + 1) y9 (by omega) (by omega)
            rw [sLoN, sHiN, ← e2] at q9
            unfold sMin sMax at q9
            first
              | (rw [if_pos (by omega), if_pos (by omega)] at q9; exact q9 _)
              | (rw [if_pos (by omega), if_neg (by omega)] at q9; exact q9 _)
              | (rw [if_neg (by omega), if_pos (by omega)] at q9; exact q9 _)
              | (rw [if_neg (by omega), if_neg (by omega)] at q9; exact q9 _)
  exact hloop 3 0 _ (by omega) (by omega)
abbrev rm_X5_seatOf : Room := { frames := 1, cells := 0, slots := 0, locals := 22 }
set_option maxHeartbeats 4000000 in
set_option maxRecDepth 100000 in
theorem c_X5_seatOf (l : Launch) {D : DD} {Λ : LY} {M : MM} {b : Nat} {f : Int → Int} {c : Int} (hA0 : Λ b = some (kI D 134)) (hO : M b = f) (hI : Inv f) (hc : 0 ≤ c ∧ c < f 0) : CI l yX5_seatOf cX5_seatOf 4 .int rm_X5_seatOf [.ref b, vi c] D Λ M (fun z M1 => (z = sSeat f c ∧ 100 ≤ z ∧ z ≤ 900) ∧ M = M1) := by
  refine CI_of rfl rfl (Nat.le_of_ble_eq_true rfl) (fun Γ g r => ?_)
  refine V_iconst (q := 1) g dX5_seatOf_0 rfl ?_
  refine V_istore_n_2 (q := 2) g dX5_seatOf_1 (by decide) rfl rfl ?_
  refine V_iconst (q := 3) g dX5_seatOf_2 rfl ?_
  refine V_istore_n_3 (q := 4) g dX5_seatOf_3 (by decide) rfl rfl ?_
  refine V_iload_n (q := 5) g dX5_seatOf_4 rfl rfl ?_
  refine V_iconst (q := 6) g dX5_seatOf_5 rfl ?_
  refine V_icmp_ge (q := 9) g dX5_seatOf_6 (tgt := 26) (by decide) rfl (by omega) (by omega) (fun h6 => absurd h6 (by omega)) (fun h6 => ?_)
  refine V_iload_n (q := 10) g dX5_seatOf_9 rfl rfl ?_
  refine V_aload_n (q := 11) g dX5_seatOf_10 rfl rfl ?_
  refine V_iload_n (q := 12) g dX5_seatOf_11 rfl rfl ?_
  refine V_iconst (q := 13) g dX5_seatOf_12 rfl ?_
  refine V_iload_n (q := 14) g dX5_seatOf_13 rfl rfl ?_
  refine V_iadd (q := 15) g dX5_seatOf_14 rfl ?_
  refine V_callSI_3 (q := 18) g (b_leg l hA0 hO hI (by omega) (by omega)) dX5_seatOf_15 k_X5_51 rfl rfl ⟨rfl, rfl⟩ rfl (fun z1 M1 e1 => ?_)
  obtain ⟨⟨e1, b1⟩, rfl⟩ := e1
  refine V_iadd (q := 19) g dX5_seatOf_18 rfl ?_
  refine V_istore_n_2 (q := 20) g dX5_seatOf_19 (by decide) rfl rfl ?_
  refine V_iinc_3 (q := 23) g dX5_seatOf_20 (by decide) rfl rfl ?_
  simp only [Int.reduceAdd]
  refine V_goto g dX5_seatOf_23 (tgt := 4) (by decide) ?_
  refine V_iload_n (q := 5) g dX5_seatOf_4 rfl rfl ?_
  refine V_iconst (q := 6) g dX5_seatOf_5 rfl ?_
  refine V_icmp_ge (q := 9) g dX5_seatOf_6 (tgt := 26) (by decide) rfl (by omega) (by omega) (fun h6 => absurd h6 (by omega)) (fun h6 => ?_)
  refine V_iload_n (q := 10) g dX5_seatOf_9 rfl rfl ?_
  refine V_aload_n (q := 11) g dX5_seatOf_10 rfl rfl ?_
  refine V_iload_n (q := 12) g dX5_seatOf_11 rfl rfl ?_
  refine V_iconst (q := 13) g dX5_seatOf_12 rfl ?_
  refine V_iload_n (q := 14) g dX5_seatOf_13 rfl rfl ?_
  refine V_iadd (q := 15) g dX5_seatOf_14 rfl ?_
  refine V_callSI_3 (q := 18) g (b_leg l hA0 hO hI (by omega) (by omega)) dX5_seatOf_15 k_X5_51 rfl rfl ⟨rfl, rfl⟩ rfl (fun z2 M2 e2 => ?_)
  obtain ⟨⟨e2, b2⟩, rfl⟩ := e2
  refine V_iadd (q := 19) g dX5_seatOf_18 rfl ?_
  refine V_istore_n_2 (q := 20) g dX5_seatOf_19 (by decide) rfl rfl ?_
  refine V_iinc_3 (q := 23) g dX5_seatOf_20 (by decide) rfl rfl ?_
  simp only [Int.reduceAdd]
  refine V_goto g dX5_seatOf_23 (tgt := 4) (by decide) ?_
  refine V_iload_n (q := 5) g dX5_seatOf_4 rfl rfl ?_
  refine V_iconst (q := 6) g dX5_seatOf_5 rfl ?_
  refine V_icmp_ge (q := 9) g dX5_seatOf_6 (tgt := 26) (by decide) rfl (by omega) (by omega) (fun h6 => absurd h6 (by omega)) (fun h6 => ?_)
  refine V_iload_n (q := 10) g dX5_seatOf_9 rfl rfl ?_
  refine V_aload_n (q := 11) g dX5_seatOf_10 rfl rfl ?_
  refine V_iload_n (q := 12) g dX5_seatOf_11 rfl rfl ?_
  refine V_iconst (q := 13) g dX5_seatOf_12 rfl ?_
  refine V_iload_n (q := 14) g dX5_seatOf_13 rfl rfl ?_
  refine V_iadd (q := 15) g dX5_seatOf_14 rfl ?_
  refine V_callSI_3 (q := 18) g (b_leg l hA0 hO hI (by omega) (by omega)) dX5_seatOf_15 k_X5_51 rfl rfl ⟨rfl, rfl⟩ rfl (fun z3 M3 e3 => ?_)
  obtain ⟨⟨e3, b3⟩, rfl⟩ := e3
  refine V_iadd (q := 19) g dX5_seatOf_18 rfl ?_
  refine V_istore_n_2 (q := 20) g dX5_seatOf_19 (by decide) rfl rfl ?_
  refine V_iinc_3 (q := 23) g dX5_seatOf_20 (by decide) rfl rfl ?_
  simp only [Int.reduceAdd]
  refine V_goto g dX5_seatOf_23 (tgt := 4) (by decide) ?_
  refine V_iload_n (q := 5) g dX5_seatOf_4 rfl rfl ?_
  refine V_iconst (q := 6) g dX5_seatOf_5 rfl ?_
  refine V_icmp_ge (q := 9) g dX5_seatOf_6 (tgt := 26) (by decide) rfl (by omega) (by omega) (fun h6 => absurd h6 (by omega)) (fun h6 => ?_)
  refine V_iload_n (q := 10) g dX5_seatOf_9 rfl rfl ?_
  refine V_aload_n (q := 11) g dX5_seatOf_10 rfl rfl ?_
  refine V_iload_n (q := 12) g dX5_seatOf_11 rfl rfl ?_
  refine V_iconst (q := 13) g dX5_seatOf_12 rfl ?_
  refine V_iload_n (q := 14) g dX5_seatOf_13 rfl rfl ?_
  refine V_iadd (q := 15) g dX5_seatOf_14 rfl ?_
  refine V_callSI_3 (q := 18) g (b_leg l hA0 hO hI (by omega) (by omega)) dX5_seatOf_15 k_X5_51 rfl rfl ⟨rfl, rfl⟩ rfl (fun z4 M4 e4 => ?_)
  obtain ⟨⟨e4, b4⟩, rfl⟩ := e4
  refine V_iadd (q := 19) g dX5_seatOf_18 rfl ?_
  refine V_istore_n_2 (q := 20) g dX5_seatOf_19 (by decide) rfl rfl ?_
  refine V_iinc_3 (q := 23) g dX5_seatOf_20 (by decide) rfl rfl ?_
  simp only [Int.reduceAdd]
  refine V_goto g dX5_seatOf_23 (tgt := 4) (by decide) ?_
  refine V_iload_n (q := 5) g dX5_seatOf_4 rfl rfl ?_
  refine V_iconst (q := 6) g dX5_seatOf_5 rfl ?_
  refine V_icmp_ge (q := 9) g dX5_seatOf_6 (tgt := 26) (by decide) rfl (by omega) (by omega) (fun h6 => ?_) (fun h6 => absurd h6 (by omega))
  refine V_iload_n (q := 27) g dX5_seatOf_26 rfl rfl ?_
  refine V_iconst (q := 28) g dX5_seatOf_27 rfl ?_
  refine V_idiv (q := 29) g dX5_seatOf_28 (by omega) (by omega) rfl ?_
  exact V_ireturn g r dX5_seatOf_29 rfl ⟨⟨by rw [e1, e2, e3, e4]; unfold sSeat; rw [show 49 + 9 * c + 0 = 49 + 9 * c by omega, show 49 + 9 * c + 1 = 50 + 9 * c by omega, show 49 + 9 * c + 2 = 51 + 9 * c by omega, show 49 + 9 * c + 3 = 52 + 9 * c by omega, Int.zero_add], by omega⟩, rfl⟩
abbrev rm_X5_idleOf : Room := { frames := 4, cells := 0, slots := 0, locals := 87 }
set_option maxHeartbeats 4000000 in
set_option maxRecDepth 100000 in
theorem c_X5_idleOf (l : Launch) {D : DD} {Λ : LY} {M : MM} {b : Nat} {f : Int → Int} {c : Int} (hA0 : Λ b = some (kI D 134)) (hO : M b = f) (hI : Inv f) (hc : 0 ≤ c ∧ c < f 0) : CI l yX5_idleOf cX5_idleOf 4 .int rm_X5_idleOf [.ref b, vi c] D Λ M (fun z M1 => (z = sIdle f c ∧ -1 ≤ z ∧ z ≤ 3) ∧ M = M1) := by
  refine CI_of rfl rfl (Nat.le_of_ble_eq_true rfl) (fun Γ g r => ?_)
  refine V_aload_n (q := 1) g dX5_idleOf_0 rfl rfl ?_
  refine V_iload_n (q := 2) g dX5_idleOf_1 rfl rfl ?_
  refine V_callSI_2 (q := 5) g (c_X5_tilt l hA0 hO hI (by omega)) dX5_idleOf_2 k_X5_61 rfl rfl ⟨rfl, rfl⟩ rfl (fun z1 M1 e1 => ?_)
  obtain ⟨⟨e1, b1⟩, rfl⟩ := e1
  refine V_istore_n_2 (q := 6) g dX5_idleOf_5 (by decide) rfl rfl ?_
  refine V_iload_n (q := 7) g dX5_idleOf_6 rfl rfl ?_
  refine V_if_ne (q := 10) g dX5_idleOf_7 (tgt := 12) (by decide) rfl (by omega) (fun h7 => ?_) (fun h7 => ?_)
  · refine V_iload_n (q := 13) g dX5_idleOf_12 rfl rfl ?_
    refine V_if_ge (q := 16) g dX5_idleOf_13 (tgt := 20) (by decide) rfl (by omega) (fun h13 => ?_) (fun h13 => ?_)
    · refine V_iconst (q := 21) g dX5_idleOf_20 rfl ?_
      refine V_istore_n_3 (q := 22) g dX5_idleOf_21 (by decide) rfl rfl ?_
      refine V_aload_n (q := 23) g dX5_idleOf_22 rfl rfl ?_
      refine V_iload_n (q := 24) g dX5_idleOf_23 rfl rfl ?_
      refine V_iload_n (q := 25) g dX5_idleOf_24 rfl rfl ?_
      refine V_iconst (q := 26) g dX5_idleOf_25 rfl ?_
      refine V_iadd (q := 27) g dX5_idleOf_26 rfl ?_
      simp only [Int.reduceAdd]
      refine V_callSI_3 (q := 30) g (c_X5_reach l hA0 hO hI (by omega) (by omega)) dX5_idleOf_27 k_X5_58 rfl rfl ⟨rfl, rfl⟩ rfl (fun z2 M2 e2 => ?_)
      obtain ⟨⟨e2, b2⟩, rfl⟩ := e2
      refine V_aload_n (q := 31) g dX5_idleOf_30 rfl rfl ?_
      refine V_iload_n (q := 32) g dX5_idleOf_31 rfl rfl ?_
      refine V_iload_n (q := 33) g dX5_idleOf_32 rfl rfl ?_
      refine V_callSI_3 (q := 36) g (c_X5_reach l hA0 hO hI (by omega) (by omega)) dX5_idleOf_33 k_X5_58 rfl rfl ⟨rfl, rfl⟩ rfl (fun z3 M3 e3 => ?_)
      obtain ⟨⟨e3, b3⟩, rfl⟩ := e3
      refine V_icmp_ge (q := 39) g dX5_idleOf_36 (tgt := 45) (by decide) rfl (by omega) (by omega) (fun h36 => ?_) (fun h36 => ?_)
      · refine V_iload_n (q := 46) g dX5_idleOf_45 rfl rfl ?_
        try simp only [Int.reduceAdd]
        exact V_ireturn g r dX5_idleOf_46 rfl ⟨⟨by unfold sIdle; rw [← e1]; first | (rw [if_neg (by omega), if_pos (by omega), ← e2, ← e3]; first | rw [if_pos (by omega)] | rw [if_neg (by omega)]) | (rw [if_neg (by omega), if_neg (by omega), ← e2, ← e3]; first | rw [if_pos (by omega)] | rw [if_neg (by omega)]), by omega, by omega⟩, rfl⟩
      · refine V_iload_n (q := 40) g dX5_idleOf_39 rfl rfl ?_
        refine V_iconst (q := 41) g dX5_idleOf_40 rfl ?_
        refine V_iadd (q := 42) g dX5_idleOf_41 rfl ?_
        refine V_goto g dX5_idleOf_42 (tgt := 46) (by decide) ?_
        try simp only [Int.reduceAdd]
        exact V_ireturn g r dX5_idleOf_46 rfl ⟨⟨by unfold sIdle; rw [← e1]; first | (rw [if_neg (by omega), if_pos (by omega), ← e2, ← e3]; first | rw [if_pos (by omega)] | rw [if_neg (by omega)]) | (rw [if_neg (by omega), if_neg (by omega), ← e2, ← e3]; first | rw [if_pos (by omega)] | rw [if_neg (by omega)]), by omega, by omega⟩, rfl⟩
    · refine V_iconst (q := 17) g dX5_idleOf_16 rfl ?_
      refine V_goto g dX5_idleOf_17 (tgt := 21) (by decide) ?_
      refine V_istore_n_3 (q := 22) g dX5_idleOf_21 (by decide) rfl rfl ?_
      refine V_aload_n (q := 23) g dX5_idleOf_22 rfl rfl ?_
      refine V_iload_n (q := 24) g dX5_idleOf_23 rfl rfl ?_
      refine V_iload_n (q := 25) g dX5_idleOf_24 rfl rfl ?_
      refine V_iconst (q := 26) g dX5_idleOf_25 rfl ?_
      refine V_iadd (q := 27) g dX5_idleOf_26 rfl ?_
      simp only [Int.reduceAdd]
      refine V_callSI_3 (q := 30) g (c_X5_reach l hA0 hO hI (by omega) (by omega)) dX5_idleOf_27 k_X5_58 rfl rfl ⟨rfl, rfl⟩ rfl (fun z4 M4 e4 => ?_)
      obtain ⟨⟨e4, b4⟩, rfl⟩ := e4
      refine V_aload_n (q := 31) g dX5_idleOf_30 rfl rfl ?_
      refine V_iload_n (q := 32) g dX5_idleOf_31 rfl rfl ?_
      refine V_iload_n (q := 33) g dX5_idleOf_32 rfl rfl ?_
      refine V_callSI_3 (q := 36) g (c_X5_reach l hA0 hO hI (by omega) (by omega)) dX5_idleOf_33 k_X5_58 rfl rfl ⟨rfl, rfl⟩ rfl (fun z5 M5 e5 => ?_)
      obtain ⟨⟨e5, b5⟩, rfl⟩ := e5
      refine V_icmp_ge (q := 39) g dX5_idleOf_36 (tgt := 45) (by decide) rfl (by omega) (by omega) (fun h36 => ?_) (fun h36 => ?_)
      · refine V_iload_n (q := 46) g dX5_idleOf_45 rfl rfl ?_
        try simp only [Int.reduceAdd]
        exact V_ireturn g r dX5_idleOf_46 rfl ⟨⟨by unfold sIdle; rw [← e1]; first | (rw [if_neg (by omega), if_pos (by omega), ← e4, ← e5]; first | rw [if_pos (by omega)] | rw [if_neg (by omega)]) | (rw [if_neg (by omega), if_neg (by omega), ← e4, ← e5]; first | rw [if_pos (by omega)] | rw [if_neg (by omega)]), by omega, by omega⟩, rfl⟩
      · refine V_iload_n (q := 40) g dX5_idleOf_39 rfl rfl ?_
        refine V_iconst (q := 41) g dX5_idleOf_40 rfl ?_
        refine V_iadd (q := 42) g dX5_idleOf_41 rfl ?_
        refine V_goto g dX5_idleOf_42 (tgt := 46) (by decide) ?_
        try simp only [Int.reduceAdd]
        exact V_ireturn g r dX5_idleOf_46 rfl ⟨⟨by unfold sIdle; rw [← e1]; first | (rw [if_neg (by omega), if_pos (by omega), ← e4, ← e5]; first | rw [if_pos (by omega)] | rw [if_neg (by omega)]) | (rw [if_neg (by omega), if_neg (by omega), ← e4, ← e5]; first | rw [if_pos (by omega)] | rw [if_neg (by omega)]), by omega, by omega⟩, rfl⟩
  · refine V_iconst (q := 11) g dX5_idleOf_10 rfl ?_
    exact V_ireturn g r dX5_idleOf_11 rfl ⟨⟨by unfold sIdle; rw [← e1, if_pos (by omega)], by omega, by omega⟩, rfl⟩
abbrev rm_X5_reason : Room := { frames := 5, cells := 0, slots := 0, locals := 108 }
set_option maxHeartbeats 4000000 in
set_option maxRecDepth 100000 in
theorem c_X5_reason (l : Launch) {D : DD} {Λ : LY} {M : MM} {b : Nat} {f : Int → Int} {c : Int} (hA0 : Λ b = some (kI D 134)) (hO : M b = f) (hI : Inv f) (hc : 0 ≤ c ∧ c < f 0) : CI l yX5_reason cX5_reason 3 .int rm_X5_reason [.ref b, vi c] D Λ M (fun z M1 => (z = sWhy f c ∧ 0 ≤ z ∧ z ≤ 4) ∧ M = M1) := by
  refine CI_of rfl rfl (Nat.le_of_ble_eq_true rfl) (fun Γ g r => ?_)
  have h0 := hI.1
  have h1 := hI.2.1
  refine V_bipush (q := 2) g dX5_reason_0 (by decide) rfl ?_
  refine V_iconst (q := 3) g dX5_reason_2 rfl ?_
  refine V_aload_n (q := 4) g dX5_reason_3 rfl rfl ?_
  refine V_iload_n (q := 5) g dX5_reason_4 rfl rfl ?_
  refine V_iconst (q := 6) g dX5_reason_5 rfl ?_
  refine V_callSI_3 (q := 9) g (b_of0 l hA0 hO hI (by omega)) dX5_reason_6 k_X5_51 rfl rfl ⟨rfl, rfl⟩ rfl (fun z1 M1 e1 => ?_)
  obtain ⟨⟨e1, b1⟩, rfl⟩ := e1
  refine V_imul (q := 10) g dX5_reason_9 rfl ?_
  refine V_iadd (q := 11) g dX5_reason_10 rfl ?_
  refine V_istore_n_2 (q := 12) g dX5_reason_11 (by decide) rfl rfl ?_
  have ig := hI.2.2.2.2.2.1 z1 (by omega) (by omega)
  unfold InvG at ig
  refine V_aload_n (q := 13) g dX5_reason_12 rfl rfl ?_
  refine V_iload_n (q := 14) g dX5_reason_13 rfl rfl ?_
  refine V_callSI_2 (q := 17) g (c_X5_wobbleOf l hA0 hO hI (by omega)) dX5_reason_14 k_X5_69 rfl rfl ⟨rfl, rfl⟩ rfl (fun z2 M2 e2 => ?_)
  obtain ⟨⟨e2, b2⟩, rfl⟩ := e2
  refine V_aload_n (q := 18) g dX5_reason_17 rfl rfl ?_
  refine V_iload_n (q := 19) g dX5_reason_18 rfl rfl ?_
  refine V_iconst (q := 20) g dX5_reason_19 rfl ?_
  refine V_iadd (q := 21) g dX5_reason_20 rfl ?_
  refine V_iaload (q := 22) g dX5_reason_21 rfl hA0 (by omega) (by decide) ?_
  rw [hO]
  rw [show (28 + 4 * z1 + 2 : Int) = 30 + 4 * z1 by omega]
  refine V_icmp_le (q := 25) g dX5_reason_22 (tgt := 29) (by decide) rfl (by omega) (by omega) (fun h22 => ?_) (fun h22 => ?_)
  · refine V_aload_n (q := 30) g dX5_reason_29 rfl rfl ?_
    refine V_iload_n (q := 31) g dX5_reason_30 rfl rfl ?_
    refine V_callSI_2 (q := 34) g (c_X5_leanOf l hA0 hO hI (by omega)) dX5_reason_31 k_X5_72 rfl rfl ⟨rfl, rfl⟩ rfl (fun z3 M3 e3 => ?_)
    obtain ⟨⟨e3, b3⟩, rfl⟩ := e3
    refine V_aload_n (q := 35) g dX5_reason_34 rfl rfl ?_
    refine V_iload_n (q := 36) g dX5_reason_35 rfl rfl ?_
    refine V_iconst (q := 37) g dX5_reason_36 rfl ?_
    refine V_iadd (q := 38) g dX5_reason_37 rfl ?_
    refine V_iaload (q := 39) g dX5_reason_38 rfl hA0 (by omega) (by decide) ?_
    rw [hO]
    rw [show (28 + 4 * z1 + 3 : Int) = 31 + 4 * z1 by omega]
    refine V_icmp_le (q := 42) g dX5_reason_39 (tgt := 46) (by decide) rfl (by omega) (by omega) (fun h39 => ?_) (fun h39 => ?_)
    · refine V_aload_n (q := 47) g dX5_reason_46 rfl rfl ?_
      refine V_iload_n (q := 48) g dX5_reason_47 rfl rfl ?_
      refine V_callSI_2 (q := 51) g (c_X5_seatOf l hA0 hO hI (by omega)) dX5_reason_48 k_X5_75 rfl rfl ⟨rfl, rfl⟩ rfl (fun z4 M4 e4 => ?_)
      obtain ⟨⟨e4, b4⟩, rfl⟩ := e4
      refine V_aload_n (q := 52) g dX5_reason_51 rfl rfl ?_
      refine V_iload_n (q := 53) g dX5_reason_52 rfl rfl ?_
      refine V_iaload (q := 54) g dX5_reason_53 rfl hA0 (by omega) (by decide) ?_
      rw [hO]
      refine V_icmp_ge (q := 57) g dX5_reason_54 (tgt := 61) (by decide) rfl (by omega) (by omega) (fun h54 => ?_) (fun h54 => ?_)
      · refine V_aload_n (q := 62) g dX5_reason_61 rfl rfl ?_
        refine V_iload_n (q := 63) g dX5_reason_62 rfl rfl ?_
        refine V_callSI_2 (q := 66) g (c_X5_seatOf l hA0 hO hI (by omega)) dX5_reason_63 k_X5_75 rfl rfl ⟨rfl, rfl⟩ rfl (fun z5 M5 e5 => ?_)
        obtain ⟨⟨e5, b5⟩, rfl⟩ := e5
        refine V_aload_n (q := 67) g dX5_reason_66 rfl rfl ?_
        refine V_iload_n (q := 68) g dX5_reason_67 rfl rfl ?_
        refine V_iconst (q := 69) g dX5_reason_68 rfl ?_
        refine V_iadd (q := 70) g dX5_reason_69 rfl ?_
        refine V_iaload (q := 71) g dX5_reason_70 rfl hA0 (by omega) (by decide) ?_
        rw [hO]
        rw [show (28 + 4 * z1 + 1 : Int) = 29 + 4 * z1 by omega]
        refine V_icmp_le (q := 74) g dX5_reason_71 (tgt := 78) (by decide) rfl (by omega) (by omega) (fun h71 => ?_) (fun h71 => ?_)
        · refine V_iconst (q := 79) g dX5_reason_78 rfl ?_
          exact V_ireturn g r dX5_reason_79 rfl ⟨⟨by unfold sWhy; rw [← e1]; repeat (first | rw [if_pos (by omega)] | rw [if_neg (by omega)]), by omega, by omega⟩, rfl⟩
        · refine V_iconst (q := 75) g dX5_reason_74 rfl ?_
          refine V_goto g dX5_reason_75 (tgt := 79) (by decide) ?_
          exact V_ireturn g r dX5_reason_79 rfl ⟨⟨by unfold sWhy; rw [← e1]; repeat (first | rw [if_pos (by omega)] | rw [if_neg (by omega)]), by omega, by omega⟩, rfl⟩
      · refine V_iconst (q := 58) g dX5_reason_57 rfl ?_
        refine V_goto g dX5_reason_58 (tgt := 79) (by decide) ?_
        exact V_ireturn g r dX5_reason_79 rfl ⟨⟨by unfold sWhy; rw [← e1]; repeat (first | rw [if_pos (by omega)] | rw [if_neg (by omega)]), by omega, by omega⟩, rfl⟩
    · refine V_iconst (q := 43) g dX5_reason_42 rfl ?_
      refine V_goto g dX5_reason_43 (tgt := 79) (by decide) ?_
      exact V_ireturn g r dX5_reason_79 rfl ⟨⟨by unfold sWhy; rw [← e1]; repeat (first | rw [if_pos (by omega)] | rw [if_neg (by omega)]), by omega, by omega⟩, rfl⟩
  · refine V_iconst (q := 26) g dX5_reason_25 rfl ?_
    refine V_goto g dX5_reason_26 (tgt := 79) (by decide) ?_
    exact V_ireturn g r dX5_reason_79 rfl ⟨⟨by unfold sWhy; rw [← e1]; repeat (first | rw [if_pos (by omega)] | rw [if_neg (by omega)]), by omega, by omega⟩, rfl⟩
abbrev rm_X5_stamped : Room := { frames := 1, cells := 0, slots := 0, locals := 22 }
set_option maxHeartbeats 4000000 in
set_option maxRecDepth 100000 in
theorem c_X5_stamped (l : Launch) {D : DD} {Λ : LY} {M : MM} {b : Nat} {f : Int → Int} (hA0 : Λ b = some (kI D 134)) (hO : M b = f) (hI : Inv f) : CI l yX5_stamped cX5_stamped 3 .int rm_X5_stamped [.ref b] D Λ M (fun z M1 => (z = sStamped f ∧ 0 ≤ z ∧ z ≤ 10) ∧ M = M1) := by
  refine CI_of rfl rfl (Nat.le_of_ble_eq_true rfl) (fun Γ g r => ?_)
  have h0 := hI.1
  have hloop : ∀ (k : Nat) (i : Nat), (i : Int) ≤ f 0 → f 0 - i ≤ k → V Γ D Λ M (0, 0) 4 [some (.ref b), some (vi (sStN f i)), some (vi (i : Int))] [] := by
    intro k
    induction k with
    | zero =>
      intro i h2 h3
      refine V_iload_n (q := 5) g dX5_stamped_4 rfl rfl ?_
      refine V_aload_n (q := 6) g dX5_stamped_5 rfl rfl ?_
      refine V_iconst (q := 7) g dX5_stamped_6 rfl ?_
      refine V_iaload (q := 8) g dX5_stamped_7 rfl hA0 (by omega) (by decide) ?_
      rw [hO]
      refine V_icmp_ge (q := 11) g dX5_stamped_8 (tgt := 26) (by decide) rfl (by omega) (by omega) (fun h8 => ?_) (fun h8 => ?_)
      · have h9 : i = (f 0).toNat := by omega
        subst h9
        have hs := stN hI (f 0).toNat (by omega)
        refine V_iload_n (q := 27) g dX5_stamped_26 rfl rfl ?_
        exact V_ireturn g r dX5_stamped_27 rfl ⟨⟨rfl, by omega, by omega⟩, rfl⟩
      · refine V_iload_n (q := 12) g dX5_stamped_11 rfl rfl ?_
        refine V_aload_n (q := 13) g dX5_stamped_12 rfl rfl ?_
        refine V_iload_n (q := 14) g dX5_stamped_13 rfl rfl ?_
        refine V_iconst (q := 15) g dX5_stamped_14 rfl ?_
        refine V_callSI_3 (q := 18) g (b_of3 l hA0 hO hI (by omega)) dX5_stamped_15 k_X5_51 rfl rfl ⟨rfl, rfl⟩ rfl (fun z1 M1 e1 => ?_)
        obtain ⟨⟨e1, b1⟩, rfl⟩ := e1
        rw [e1]
        refine V_iadd (q := 19) g dX5_stamped_18 rfl ?_
        refine V_istore_n_1 (q := 20) g dX5_stamped_19 (by decide) rfl rfl ?_
        refine V_iinc_2 (q := 23) g dX5_stamped_20 (by decide) rfl rfl ?_
        refine V_goto g dX5_stamped_23 (tgt := 4) (by decide) ?_
        exact False.elim (by omega)
    | succ k ih =>
      intro i h2 h3
      refine V_iload_n (q := 5) g dX5_stamped_4 rfl rfl ?_
      refine V_aload_n (q := 6) g dX5_stamped_5 rfl rfl ?_
      refine V_iconst (q := 7) g dX5_stamped_6 rfl ?_
      refine V_iaload (q := 8) g dX5_stamped_7 rfl hA0 (by omega) (by decide) ?_
      rw [hO]
      refine V_icmp_ge (q := 11) g dX5_stamped_8 (tgt := 26) (by decide) rfl (by omega) (by omega) (fun h8 => ?_) (fun h8 => ?_)
      · have h9 : i = (f 0).toNat := by omega
        subst h9
        have hs := stN hI (f 0).toNat (by omega)
        refine V_iload_n (q := 27) g dX5_stamped_26 rfl rfl ?_
        exact V_ireturn g r dX5_stamped_27 rfl ⟨⟨rfl, by omega, by omega⟩, rfl⟩
      · refine V_iload_n (q := 12) g dX5_stamped_11 rfl rfl ?_
        refine V_aload_n (q := 13) g dX5_stamped_12 rfl rfl ?_
        refine V_iload_n (q := 14) g dX5_stamped_13 rfl rfl ?_
        refine V_iconst (q := 15) g dX5_stamped_14 rfl ?_
        refine V_callSI_3 (q := 18) g (b_of3 l hA0 hO hI (by omega)) dX5_stamped_15 k_X5_51 rfl rfl ⟨rfl, rfl⟩ rfl (fun z2 M2 e2 => ?_)
        obtain ⟨⟨e2, b2⟩, rfl⟩ := e2
        rw [e2]
        refine V_iadd (q := 19) g dX5_stamped_18 rfl ?_
        refine V_istore_n_1 (q := 20) g dX5_stamped_19 (by decide) rfl rfl ?_
        refine V_iinc_2 (q := 23) g dX5_stamped_20 (by decide) rfl rfl ?_
        refine V_goto g dX5_stamped_23 (tgt := 4) (by decide) ?_
        exact ih (i + 1) (by omega) (by omega)
  refine V_iconst (q := 1) g dX5_stamped_0 rfl ?_
  refine V_istore_n_1 (q := 2) g dX5_stamped_1 (by decide) rfl rfl ?_
  refine V_iconst (q := 3) g dX5_stamped_2 rfl ?_
  refine V_istore_n_2 (q := 4) g dX5_stamped_3 (by decide) rfl rfl ?_
  exact hloop (f 0).toNat 0 (by omega) (by omega)
