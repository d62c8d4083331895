theorem b_lay (l : Launch) {D : DD} {Λ : LY} {M : MM} {b : Nat} {f : Int → Int} {c wh v j : Int} (hA0 : Λ b = some (kI D 134)) (hO : M b = f) (hc : 0 ≤ c ∧ c < 10) (hw : 0 ≤ wh ∧ wh < 9) (hj : 44 + 9 * c + wh = j) : CV l yX5_lay cX5_lay 4 rm_X5_lay [.ref b, vi c, vi wh, vi v] D Λ M (fun M1 => aset M b (up f j v) = M1) := by
  subst hj
  exact c_X5_lay l hA0 hO hc hw
theorem aset_id {M : MM} {b : Nat} {f : Int → Int} (h : M b = f) : aset M b f = M := by rw [← h, aset_self]
theorem bring_at {f : Int → Int} {c fl q j : Int} (h1 : j ≠ 4) (h2 : j ≠ 45 + 9 * c) (h3 : j ≠ 46 + 9 * c) (h4 : j ≠ 47 + 9 * c) : fBring f c fl q j = f j := by
  unfold fBring
  rw [up_ne h3, up_ne h2]
  split
  · rfl
  · exact fVoid_at h1 h4
theorem bring_wn {f : Int → Int} {c fl q : Int} (hc : 0 ≤ c) (hf : 0 ≤ fl ∧ fl < 4) (hq : 0 ≤ q ∧ q < 4) : sWn (fBring f c fl q) c = sWob f c fl q := by
  have e1 : fBring f c fl q (45 + 9 * c) = fl := by unfold fBring; rw [up_ne (by omega), up_eq]
  have e2 : fBring f c fl q (46 + 9 * c) = q := by unfold fBring; rw [up_eq]
  have e : ∀ k : Int, 0 ≤ k ∧ k < 4 → sRe (fBring f c fl q) c k fl q = sRe f c k fl q := fun k hk => by
    unfold sRe
    rw [bring_at (by omega) (by omega) (by omega) (by omega), bring_at (by omega) (by omega) (by omega) (by omega)]
  unfold sWn sWob sTilt
  rw [e1, e2, e 0 (by decide), e 1 (by decide), e 2 (by decide), e 3 (by decide)]
theorem cpyA_s (g h : Int → Int) (i : Int) (p q : Int) : up (fun j => if q ≤ j ∧ j < q + i then g (j - q + p) else h j) (q + i) (g (p + i)) = (fun j => if q ≤ j ∧ j < q + (i + 1) then g (j - q + p) else h j) ∨ i < 0 := by
  by_cases hi : i < 0
  · exact Or.inr hi
  · left
    funext j
    rw [up_if]
    by_cases h1 : j = q + i
    · rw [if_pos h1, if_pos (by omega), show j - q + p = p + i by omega]
    · rw [if_neg h1]
      by_cases h2 : q ≤ j ∧ j < q + i
      · rw [if_pos h2, if_pos (by omega)]
      · rw [if_neg h2, if_neg (by omega)]
/-- a row of 134 numbers of g from p on, laid into h from q on -/
def fCpy (g : Int → Int) (p : Int) (h : Int → Int) (q n : Int) : Int → Int := fun j => if q ≤ j ∧ j < q + n then g (j - q + p) else h j
theorem fCpy_0 (g h : Int → Int) (p q : Int) : fCpy g p h q 0 = h := by funext j; unfold fCpy; rw [if_neg (by omega)]
theorem fCpy_s (g h : Int → Int) (p q : Int) {i : Int} (hi : 0 ≤ i) : up (fCpy g p h q i) (q + i) (g (p + i)) = fCpy g p h q (i + 1) := (cpyA_s g h i p q).resolve_right (by omega)
def fClN (f : Int → Int) (n : Int) : Int → Int := fun j => if 0 ≤ j ∧ j < n then 0 else f j
theorem fClN_0 (f : Int → Int) : fClN f 0 = f := by funext j; unfold fClN; rw [if_neg (by omega)]
theorem fClN_s (f : Int → Int) {i : Int} (hi : 0 ≤ i) : up (fClN f i) i 0 = fClN f (i + 1) := by
  funext j
  rw [up_if]
  unfold fClN
  by_cases h1 : j = i
  · rw [if_pos h1, if_pos (by omega)]
  · rw [if_neg h1]
    by_cases h2 : 0 ≤ j ∧ j < i
    · rw [if_pos h2, if_pos (by omega)]
    · rw [if_neg h2, if_neg (by omega)]
/-- the row as a new office -/
def fClr (f : Int → Int) : Int → Int := fun j => if 0 ≤ j ∧ j < 134 then fNew j else f j
abbrev rm_X5_voids : Room := { frames := 1, cells := 0, slots := 0, locals := 23 }
set_option maxHeartbeats 4000000 in
set_option maxRecDepth 100000 in
theorem c_X5_voids (l : Launch) {D : DD} {Λ : LY} {M : MM} {b : Nat} {f : Int → Int} {c : Int} (hA0 : Λ b = some (kI D 134)) (hO : M b = f) (hI : Inv f) (hc : 0 ≤ c ∧ c < f 0) : CV l yX5_voids cX5_voids 2 rm_X5_voids [.ref b, vi c] D Λ M (fun M1 => aset M b (fVoid f c) = M1) := by
  refine CV_of rfl rfl (Nat.le_of_ble_eq_true rfl) (fun Γ g r => ?_)
  have h0 := hI.1
  have h1 := hI.2.1
  refine V_aload_n (q := 1) g dX5_voids_0 rfl rfl ?_
  refine V_iconst (q := 2) g dX5_voids_1 rfl ?_
  refine V_dup2 (q := 3) g dX5_voids_2 rfl rfl rfl ?_
  refine V_iaload (q := 4) g dX5_voids_3 rfl hA0 (by omega) (by decide) ?_
  rw [hO]
  refine V_aload_n (q := 5) g dX5_voids_4 rfl rfl ?_
  refine V_iload_n (q := 6) g dX5_voids_5 rfl rfl ?_
  refine V_iconst (q := 7) g dX5_voids_6 rfl ?_
  refine V_callSI_3 (q := 10) g (b_of3 l hA0 hO hI (by omega)) dX5_voids_7 k_X5_51 rfl rfl ⟨rfl, rfl⟩ rfl (fun z1 M1 e1 => ?_)
  obtain ⟨⟨e1, b1⟩, rfl⟩ := e1
  refine V_iadd (q := 11) g dX5_voids_10 rfl ?_
  refine V_iastore (q := 12) g dX5_voids_11 rfl hA0 (by omega) (by decide) ?_
  simp only [wr_self, aset_aset, aset_at, hO]
  refine V_aload_n (q := 13) g dX5_voids_12 rfl rfl ?_
  refine V_iload_n (q := 14) g dX5_voids_13 rfl rfl ?_
  refine V_iconst (q := 15) g dX5_voids_14 rfl ?_
  refine V_iconst (q := 16) g dX5_voids_15 rfl ?_
  refine V_callSV_4 (q := 19) g (b_lay l hA0 (aset_at _ _ _) (j := 47 + 9 * c) (by omega) (by omega) (by omega)) dX5_voids_16 k_X5_78 rfl rfl ⟨rfl, rfl⟩ rfl (fun M2 e2 => ?_)
  obtain rfl := e2
  try simp only [aset_aset]
  exact V_return g r dX5_voids_19 (by rw [e1]; rfl)
abbrev rm_X5_leg : Room := { frames := 2, cells := 0, slots := 0, locals := 44 }
set_option maxHeartbeats 4000000 in
set_option maxRecDepth 100000 in
theorem c_X5_leg (l : Launch) {D : DD} {Λ : LY} {M : MM} {b : Nat} {f : Int → Int} {c k d : Int} (hA0 : Λ b = some (kI D 134)) (hO : M b = f) (hI : Inv f) (hc : 0 ≤ c ∧ c < f 0) (hk : 0 ≤ k ∧ k < 4) (hv : 100 ≤ f (49 + 9 * c + k) + d ∧ f (49 + 9 * c + k) + d ≤ 900) : CI l yX5_leg cX5_leg 4 .int rm_X5_leg [.ref b, vi c, vi k, vi d] D Λ M (fun z M1 => z = f (49 + 9 * c + k) + d ∧ aset M b (fLeg f c k d) = M1) := by
  refine CI_of rfl rfl (Nat.le_of_ble_eq_true rfl) (fun Γ g r => ?_)
  have h0 := hI.1
  have h1 := hI.2.1
  refine V_aload_n (q := 1) g dX5_leg_0 rfl rfl ?_
  refine V_iload_n (q := 2) g dX5_leg_1 rfl rfl ?_
  refine V_iconst (q := 3) g dX5_leg_2 rfl ?_
  refine V_iload_n (q := 4) g dX5_leg_3 rfl rfl ?_
  refine V_iadd (q := 5) g dX5_leg_4 rfl ?_
  refine V_aload_n (q := 6) g dX5_leg_5 rfl rfl ?_
  refine V_iload_n (q := 7) g dX5_leg_6 rfl rfl ?_
  refine V_iconst (q := 8) g dX5_leg_7 rfl ?_
  refine V_iload_n (q := 9) g dX5_leg_8 rfl rfl ?_
  refine V_iadd (q := 10) g dX5_leg_9 rfl ?_
  refine V_callSI_3 (q := 13) g (b_leg l hA0 hO hI (by omega) (by omega)) dX5_leg_10 k_X5_51 rfl rfl ⟨rfl, rfl⟩ rfl (fun z1 M1 e1 => ?_)
  obtain ⟨⟨e1, b1⟩, rfl⟩ := e1
  refine V_iload_n (q := 14) g dX5_leg_13 rfl rfl ?_
  refine V_iadd (q := 15) g dX5_leg_14 rfl ?_
  refine V_callSV_4 (q := 18) g (b_lay l hA0 hO (j := 49 + 9 * c + k) (by omega) (by omega) (by omega)) dX5_leg_15 k_X5_78 rfl rfl ⟨rfl, rfl⟩ rfl (fun M2 e2 => ?_)
  obtain rfl := e2
  try simp only [aset_aset]
  rw [e1]
  refine V_iload_n (q := 19) g dX5_leg_18 rfl rfl ?_
  refine V_if_eq (q := 22) g dX5_leg_19 (tgt := 27) (by decide) rfl (by omega) (fun h19 => ?_) (fun h19 => ?_)
  · have w : up f (49 + 9 * c + k) (f (49 + 9 * c + k) + d) = fLeg f c k d := by unfold fLeg; rw [if_pos (by omega)]
    rw [w]
    refine V_aload_n (q := 28) g dX5_leg_27 rfl rfl ?_
    refine V_iload_n (q := 29) g dX5_leg_28 rfl rfl ?_
    refine V_iconst (q := 30) g dX5_leg_29 rfl ?_
    refine V_iload_n (q := 31) g dX5_leg_30 rfl rfl ?_
    refine V_iadd (q := 32) g dX5_leg_31 rfl ?_
    refine V_callSI_3 (q := 35) g (b_leg l hA0 (aset_at _ _ _) (Inv_leg hI hc.1 hk hv) (by rw [fLeg_at (by omega) (by omega) (by omega)]; exact hc) (by omega)) dX5_leg_32 k_X5_51 rfl rfl ⟨rfl, rfl⟩ rfl (fun z3 M3 e3 => ?_)
    obtain ⟨⟨e3, b3⟩, rfl⟩ := e3
    rw [fLeg_len hc.1 hk.1] at e3
    exact V_ireturn g r dX5_leg_35 rfl ⟨by omega, rfl⟩
  · refine V_aload_n (q := 23) g dX5_leg_22 rfl rfl ?_
    refine V_iload_n (q := 24) g dX5_leg_23 rfl rfl ?_
    refine V_callSV_2 (q := 27) g (c_X5_voids l hA0 (aset_at _ _ _) (Inv_len hI hc.1 hk hv) (by rw [up_ne (by omega)]; exact hc)) dX5_leg_24 k_X5_82 rfl rfl ⟨rfl, rfl⟩ rfl (fun M4 e4 => ?_)
    obtain rfl := e4
    try simp only [aset_aset]
    have w : fVoid (up f (49 + 9 * c + k) (f (49 + 9 * c + k) + d)) c = fLeg f c k d := by unfold fLeg; rw [if_neg (by omega)]
    rw [w]
    refine V_aload_n (q := 28) g dX5_leg_27 rfl rfl ?_
    refine V_iload_n (q := 29) g dX5_leg_28 rfl rfl ?_
    refine V_iconst (q := 30) g dX5_leg_29 rfl ?_
    refine V_iload_n (q := 31) g dX5_leg_30 rfl rfl ?_
    refine V_iadd (q := 32) g dX5_leg_31 rfl ?_
    refine V_callSI_3 (q := 35) g (b_leg l hA0 (aset_at _ _ _) (Inv_leg hI hc.1 hk hv) (by rw [fLeg_at (by omega) (by omega) (by omega)]; exact hc) (by omega)) dX5_leg_32 k_X5_51 rfl rfl ⟨rfl, rfl⟩ rfl (fun z5 M5 e5 => ?_)
    obtain ⟨⟨e5, b5⟩, rfl⟩ := e5
    rw [fLeg_len hc.1 hk.1] at e5
    exact V_ireturn g r dX5_leg_35 rfl ⟨by omega, rfl⟩
abbrev rm_X5_sawOn : Room := { frames := 3, cells := 0, slots := 0, locals := 67 }
set_option maxHeartbeats 4000000 in
set_option maxRecDepth 100000 in
theorem c_X5_sawOn (l : Launch) {D : DD} {Λ : LY} {M : MM} {b : Nat} {f : Int → Int} {c k n : Int} (hA0 : Λ b = some (kI D 134)) (hO : M b = f) (hI : Inv f) (hc : 0 ≤ c ∧ c < f 0) (hk : 0 ≤ k ∧ k < 4) (hn : 0 ≤ n ∧ n ≤ 800) (hv : 100 ≤ f (49 + 9 * c + k) - n ∧ f (49 + 9 * c + k) - n ≤ 900) : CI l yX5_sawOn cX5_sawOn 4 .int rm_X5_sawOn [.ref b, vi c, vi k, vi n] D Λ M (fun z M1 => z = f (49 + 9 * c + k) - n ∧ aset M b (fSaw f c k n) = M1) := by
  refine CI_of rfl rfl (Nat.le_of_ble_eq_true rfl) (fun Γ g r => ?_)
  have h0 := hI.1
  have h1 := hI.2.1
  refine V_aload_n (q := 1) g dX5_sawOn_0 rfl rfl ?_
  refine V_bipush (q := 3) g dX5_sawOn_1 (by decide) rfl ?_
  refine V_dup2 (q := 4) g dX5_sawOn_3 rfl rfl rfl ?_
  refine V_iaload (q := 5) g dX5_sawOn_4 rfl hA0 (by omega) (by decide) ?_
  rw [hO]
  refine V_iload_n (q := 6) g dX5_sawOn_5 rfl rfl ?_
  refine V_iadd (q := 7) g dX5_sawOn_6 rfl ?_
  refine V_iastore (q := 8) g dX5_sawOn_7 rfl hA0 (by omega) (by decide) ?_
  simp only [wr_self, aset_aset, aset_at, hO]
  refine V_aload_n (q := 9) g dX5_sawOn_8 rfl rfl ?_
  refine V_iload_n (q := 10) g dX5_sawOn_9 rfl rfl ?_
  refine V_iload_n (q := 11) g dX5_sawOn_10 rfl rfl ?_
  refine V_iload_n (q := 12) g dX5_sawOn_11 rfl rfl ?_
  refine V_ineg (q := 13) g dX5_sawOn_12 rfl ?_
  refine V_callSI_4 (q := 16) g (c_X5_leg l hA0 (aset_at _ _ _) (Inv_cnt hI (by decide)) (by rw [up_ne (by omega)]; exact hc) (by omega) (by rw [up_ne (by omega)]; omega)) dX5_sawOn_13 k_X5_86 rfl rfl ⟨rfl, rfl⟩ rfl (fun z1 M1 e1 => ?_)
  obtain ⟨e1, rfl⟩ := e1
  try simp only [aset_aset]
  rw [up_ne (by omega)] at e1
  exact V_ireturn g r dX5_sawOn_16 rfl ⟨by omega, rfl⟩
abbrev rm_X5_shimOn : Room := { frames := 3, cells := 0, slots := 0, locals := 67 }
set_option maxHeartbeats 4000000 in
set_option maxRecDepth 100000 in
theorem c_X5_shimOn (l : Launch) {D : DD} {Λ : LY} {M : MM} {b : Nat} {f : Int → Int} {c k n : Int} (hA0 : Λ b = some (kI D 134)) (hO : M b = f) (hI : Inv f) (hc : 0 ≤ c ∧ c < f 0) (hk : 0 ≤ k ∧ k < 4) (hn : 0 ≤ n ∧ n ≤ 800) (hv : 100 ≤ f (49 + 9 * c + k) + n ∧ f (49 + 9 * c + k) + n ≤ 900) : CI l yX5_shimOn cX5_shimOn 4 .int rm_X5_shimOn [.ref b, vi c, vi k, vi n] D Λ M (fun z M1 => z = f (49 + 9 * c + k) + n ∧ aset M b (fShim f c k n) = M1) := by
  refine CI_of rfl rfl (Nat.le_of_ble_eq_true rfl) (fun Γ g r => ?_)
  have h0 := hI.1
  have h1 := hI.2.1
  refine V_aload_n (q := 1) g dX5_shimOn_0 rfl rfl ?_
  refine V_bipush (q := 3) g dX5_shimOn_1 (by decide) rfl ?_
  refine V_dup2 (q := 4) g dX5_shimOn_3 rfl rfl rfl ?_
  refine V_iaload (q := 5) g dX5_shimOn_4 rfl hA0 (by omega) (by decide) ?_
  rw [hO]
  refine V_iload_n (q := 6) g dX5_shimOn_5 rfl rfl ?_
  refine V_iadd (q := 7) g dX5_shimOn_6 rfl ?_
  refine V_iastore (q := 8) g dX5_shimOn_7 rfl hA0 (by omega) (by decide) ?_
  simp only [wr_self, aset_aset, aset_at, hO]
  refine V_aload_n (q := 9) g dX5_shimOn_8 rfl rfl ?_
  refine V_iload_n (q := 10) g dX5_shimOn_9 rfl rfl ?_
  refine V_iload_n (q := 11) g dX5_shimOn_10 rfl rfl ?_
  refine V_iload_n (q := 12) g dX5_shimOn_11 rfl rfl ?_
  refine V_callSI_4 (q := 15) g (c_X5_leg l hA0 (aset_at _ _ _) (Inv_cnt hI (by decide)) (by rw [up_ne (by omega)]; exact hc) (by omega) (by rw [up_ne (by omega)]; omega)) dX5_shimOn_12 k_X5_86 rfl rfl ⟨rfl, rfl⟩ rfl (fun z1 M1 e1 => ?_)
  obtain ⟨e1, rfl⟩ := e1
  try simp only [aset_aset]
  rw [up_ne (by omega)] at e1
  exact V_ireturn g r dX5_shimOn_15 rfl ⟨by omega, rfl⟩
abbrev rm_X5_testOn : Room := { frames := 6, cells := 0, slots := 0, locals := 130 }
set_option maxHeartbeats 4000000 in
set_option maxRecDepth 100000 in
theorem c_X5_testOn (l : Launch) {D : DD} {Λ : LY} {M : MM} {b : Nat} {f : Int → Int} {c : Int} (hA0 : Λ b = some (kI D 134)) (hO : M b = f) (hI : Inv f) (hc : 0 ≤ c ∧ c < f 0) : CI l yX5_testOn cX5_testOn 3 .int rm_X5_testOn [.ref b, vi c] D Λ M (fun z M1 => (z = sWhy f c ∧ 0 ≤ z ∧ z ≤ 4) ∧ aset M b (fTest f c) = M1) := by
  refine CI_of rfl rfl (Nat.le_of_ble_eq_true rfl) (fun Γ g r => ?_)
  have h0 := hI.1
  have h1 := hI.2.1
  refine V_aload_n (q := 1) g dX5_testOn_0 rfl rfl ?_
  refine V_iload_n (q := 2) g dX5_testOn_1 rfl rfl ?_
  refine V_callSI_2 (q := 5) g (c_X5_reason l hA0 hO hI (by omega)) dX5_testOn_2 k_X5_90 rfl rfl ⟨rfl, rfl⟩ rfl (fun z1 M1 e1 => ?_)
  obtain ⟨⟨e1, b1⟩, rfl⟩ := e1
  refine V_istore_n_2 (q := 6) g dX5_testOn_5 (by decide) rfl rfl ?_
  refine V_aload_n (q := 7) g dX5_testOn_6 rfl rfl ?_
  refine V_iconst (q := 8) g dX5_testOn_7 rfl ?_
  refine V_dup2 (q := 9) g dX5_testOn_8 rfl rfl rfl ?_
  refine V_iaload (q := 10) g dX5_testOn_9 rfl hA0 (by omega) (by decide) ?_
  rw [hO]
  refine V_iconst (q := 11) g dX5_testOn_10 rfl ?_
  refine V_iadd (q := 12) g dX5_testOn_11 rfl ?_
  refine V_iastore (q := 13) g dX5_testOn_12 rfl hA0 (by omega) (by decide) ?_
  simp only [wr_self, aset_aset, aset_at, hO]
  refine V_aload_n (q := 14) g dX5_testOn_13 rfl rfl ?_
  refine V_iconst (q := 15) g dX5_testOn_14 rfl ?_
  refine V_dup2 (q := 16) g dX5_testOn_15 rfl rfl rfl ?_
  refine V_iaload (q := 17) g dX5_testOn_16 rfl hA0 (by omega) (by decide) ?_
  rw [aset_at]
  rw [up_ne (by omega)]
  refine V_aload_n (q := 18) g dX5_testOn_17 rfl rfl ?_
  refine V_bipush (q := 20) g dX5_testOn_18 (by decide) rfl ?_
  refine V_iaload (q := 21) g dX5_testOn_20 rfl hA0 (by omega) (by decide) ?_
  rw [aset_at]
  rw [up_ne (by omega)]
  refine V_iadd (q := 22) g dX5_testOn_21 rfl ?_
  refine V_iastore (q := 23) g dX5_testOn_22 rfl hA0 (by omega) (by decide) ?_
  simp only [wr_self, aset_aset, aset_at, hO]
  rw [show up (up f 2 (f 2 + 1)) 5 (f 5 + f 10) = fPaid f from rfl]
  refine V_iload_n (q := 24) g dX5_testOn_23 rfl rfl ?_
  refine V_if_ne (q := 27) g dX5_testOn_24 (tgt := 50) (by decide) rfl (by omega) (fun h24 => ?_) (fun h24 => ?_)
  · have w : fPaid f = fTest f c := by unfold fTest; rw [if_neg (by omega)]
    rw [w]
    refine V_iload_n (q := 51) g dX5_testOn_50 rfl rfl ?_
    exact V_ireturn g r dX5_testOn_51 rfl ⟨by omega, rfl⟩
  · refine V_aload_n (q := 28) g dX5_testOn_27 rfl rfl ?_
    refine V_iload_n (q := 29) g dX5_testOn_28 rfl rfl ?_
    refine V_iconst (q := 30) g dX5_testOn_29 rfl ?_
    refine V_callSI_3 (q := 33) g (b_of3 l hA0 (aset_at _ _ _) (Inv_paid hI) (by unfold fPaid; rw [up_ne (by omega), up_ne (by omega)]; exact hc)) dX5_testOn_30 k_X5_51 rfl rfl ⟨rfl, rfl⟩ rfl (fun z2 M2 e2 => ?_)
    obtain ⟨⟨e2, b2⟩, rfl⟩ := e2
    have w2 : fPaid f (47 + 9 * c) = f (47 + 9 * c) := by unfold fPaid; rw [up_ne (by omega), up_ne (by omega)]
    refine V_if_ne (q := 36) g dX5_testOn_33 (tgt := 50) (by decide) rfl (by omega) (fun h33 => ?_) (fun h33 => ?_)
    · have w : fPaid f = fTest f c := by unfold fTest; rw [if_neg (by omega)]
      rw [w]
      refine V_iload_n (q := 51) g dX5_testOn_50 rfl rfl ?_
      exact V_ireturn g r dX5_testOn_51 rfl ⟨by omega, rfl⟩
    · refine V_aload_n (q := 37) g dX5_testOn_36 rfl rfl ?_
      refine V_iload_n (q := 38) g dX5_testOn_37 rfl rfl ?_
      refine V_iconst (q := 39) g dX5_testOn_38 rfl ?_
      refine V_iconst (q := 40) g dX5_testOn_39 rfl ?_
      refine V_callSV_4 (q := 43) g (b_lay l hA0 (aset_at _ _ _) (j := 47 + 9 * c) (by omega) (by omega) (by omega)) dX5_testOn_40 k_X5_78 rfl rfl ⟨rfl, rfl⟩ rfl (fun M3 e3 => ?_)
      obtain rfl := e3
      try simp only [aset_aset]
      refine V_aload_n (q := 44) g dX5_testOn_43 rfl rfl ?_
      refine V_iconst (q := 45) g dX5_testOn_44 rfl ?_
      refine V_dup2 (q := 46) g dX5_testOn_45 rfl rfl rfl ?_
      refine V_iaload (q := 47) g dX5_testOn_46 rfl hA0 (by omega) (by decide) ?_
      rw [aset_at]
      rw [up_ne (by omega), show fPaid f 3 = f 3 by unfold fPaid; rw [up_ne (by omega), up_ne (by omega)]]
      refine V_iconst (q := 48) g dX5_testOn_47 rfl ?_
      refine V_iadd (q := 49) g dX5_testOn_48 rfl ?_
      refine V_iastore (q := 50) g dX5_testOn_49 rfl hA0 (by omega) (by decide) ?_
      simp only [wr_self, aset_aset, aset_at, hO]
      have w : up (up (fPaid f) (47 + 9 * c) 1) 3 (f 3 + 1) = fTest f c := by unfold fTest; rw [if_pos (by omega)]
      rw [w]
      refine V_iload_n (q := 51) g dX5_testOn_50 rfl rfl ?_
      exact V_ireturn g r dX5_testOn_51 rfl ⟨by omega, rfl⟩
abbrev rm_X5_bringOn : Room := { frames := 5, cells := 0, slots := 0, locals := 108 }
set_option maxHeartbeats 4000000 in
set_option maxRecDepth 100000 in
theorem c_X5_bringOn (l : Launch) {D : DD} {Λ : LY} {M : MM} {b : Nat} {f : Int → Int} {c fl q : Int} (hA0 : Λ b = some (kI D 134)) (hO : M b = f) (hI : Inv f) (hc : 0 ≤ c ∧ c < f 0) (hf : 0 ≤ fl ∧ fl < f 1) (hq : 0 ≤ q ∧ q < 4) : CI l yX5_bringOn cX5_bringOn 4 .int rm_X5_bringOn [.ref b, vi c, vi fl, vi q] D Λ M (fun z M1 => (z = sWob f c fl q ∧ 0 ≤ z ∧ z ≤ 1700) ∧ aset M b (fBring f c fl q) = M1) := by
  refine CI_of rfl rfl (Nat.le_of_ble_eq_true rfl) (fun Γ g r => ?_)
  have h0 := hI.1
  have h1 := hI.2.1
  refine V_aload_n (q := 1) g dX5_bringOn_0 rfl rfl ?_
  refine V_iload_n (q := 2) g dX5_bringOn_1 rfl rfl ?_
  refine V_iconst (q := 3) g dX5_bringOn_2 rfl ?_
  refine V_callSI_3 (q := 6) g (b_of1 l hA0 hO hI (by omega)) dX5_bringOn_3 k_X5_51 rfl rfl ⟨rfl, rfl⟩ rfl (fun z1 M1 e1 => ?_)
  obtain ⟨⟨e1, b1⟩, rfl⟩ := e1
  refine V_iload_n (q := 7) g dX5_bringOn_6 rfl rfl ?_
  refine V_icmp_ne (q := 10) g dX5_bringOn_7 (tgt := 20) (by decide) rfl (by omega) (by omega) (fun h7 => ?_) (fun h7 => ?_)
  · refine V_aload_n (q := 21) g dX5_bringOn_20 rfl rfl ?_
    refine V_iload_n (q := 22) g dX5_bringOn_21 rfl rfl ?_
    refine V_callSV_2 (q := 25) g (c_X5_voids l hA0 hO hI (by omega)) dX5_bringOn_22 k_X5_82 rfl rfl ⟨rfl, rfl⟩ rfl (fun M2 e2 => ?_)
    obtain rfl := e2
    try simp only [aset_aset]
    have w : fVoid f c = (if f (45 + 9 * c) = fl ∧ f (46 + 9 * c) = q then f else fVoid f c) := by rw [if_neg (by omega)]
    rw [w]
    refine V_aload_n (q := 26) g dX5_bringOn_25 rfl rfl ?_
    refine V_iload_n (q := 27) g dX5_bringOn_26 rfl rfl ?_
    refine V_iconst (q := 28) g dX5_bringOn_27 rfl ?_
    refine V_iload_n (q := 29) g dX5_bringOn_28 rfl rfl ?_
    refine V_callSV_4 (q := 32) g (b_lay l hA0 (aset_at _ _ _) (j := 45 + 9 * c) (by omega) (by omega) (by omega)) dX5_bringOn_29 k_X5_78 rfl rfl ⟨rfl, rfl⟩ rfl (fun M3 e3 => ?_)
    obtain rfl := e3
    try simp only [aset_aset]
    refine V_aload_n (q := 33) g dX5_bringOn_32 rfl rfl ?_
    refine V_iload_n (q := 34) g dX5_bringOn_33 rfl rfl ?_
    refine V_iconst (q := 35) g dX5_bringOn_34 rfl ?_
    refine V_iload_n (q := 36) g dX5_bringOn_35 rfl rfl ?_
    refine V_callSV_4 (q := 39) g (b_lay l hA0 (aset_at _ _ _) (j := 46 + 9 * c) (by omega) (by omega) (by omega)) dX5_bringOn_36 k_X5_78 rfl rfl ⟨rfl, rfl⟩ rfl (fun M4 e4 => ?_)
    obtain rfl := e4
    try simp only [aset_aset]
    rw [show up (up (if f (45 + 9 * c) = fl ∧ f (46 + 9 * c) = q then f else fVoid f c) (45 + 9 * c) fl) (46 + 9 * c) q = fBring f c fl q from rfl]
    refine V_aload_n (q := 40) g dX5_bringOn_39 rfl rfl ?_
    refine V_iload_n (q := 41) g dX5_bringOn_40 rfl rfl ?_
    refine V_callSI_2 (q := 44) g (c_X5_wobbleOf l hA0 (aset_at _ _ _) (Inv_bring hI hc.1 hf hq) (by rw [bring_at (by omega) (by omega) (by omega) (by omega)]; exact hc)) dX5_bringOn_41 k_X5_69 rfl rfl ⟨rfl, rfl⟩ rfl (fun z5 M5 e5 => ?_)
    obtain ⟨⟨e5, b5⟩, rfl⟩ := e5
    rw [bring_wn hc.1 (by omega) hq] at e5
    exact V_ireturn g r dX5_bringOn_44 rfl ⟨⟨by omega, by omega, by omega⟩, rfl⟩
  · refine V_aload_n (q := 11) g dX5_bringOn_10 rfl rfl ?_
    refine V_iload_n (q := 12) g dX5_bringOn_11 rfl rfl ?_
    refine V_iconst (q := 13) g dX5_bringOn_12 rfl ?_
    refine V_callSI_3 (q := 16) g (b_of2 l hA0 hO hI (by omega)) dX5_bringOn_13 k_X5_51 rfl rfl ⟨rfl, rfl⟩ rfl (fun z6 M6 e6 => ?_)
    obtain ⟨⟨e6, b6⟩, rfl⟩ := e6
    refine V_iload_n (q := 17) g dX5_bringOn_16 rfl rfl ?_
    refine V_icmp_eq (q := 20) g dX5_bringOn_17 (tgt := 25) (by decide) rfl (by omega) (by omega) (fun h17 => ?_) (fun h17 => ?_)
    · have w : M = aset M b (if f (45 + 9 * c) = fl ∧ f (46 + 9 * c) = q then f else fVoid f c) := by rw [if_pos (by omega)]; exact (aset_id hO).symm
      rw [w]
      refine V_aload_n (q := 26) g dX5_bringOn_25 rfl rfl ?_
      refine V_iload_n (q := 27) g dX5_bringOn_26 rfl rfl ?_
      refine V_iconst (q := 28) g dX5_bringOn_27 rfl ?_
      refine V_iload_n (q := 29) g dX5_bringOn_28 rfl rfl ?_
      refine V_callSV_4 (q := 32) g (b_lay l hA0 (aset_at _ _ _) (j := 45 + 9 * c) (by omega) (by omega) (by omega)) dX5_bringOn_29 k_X5_78 rfl rfl ⟨rfl, rfl⟩ rfl (fun M7 e7 => ?_)
      obtain rfl := e7
      try simp only [aset_aset]
      refine V_aload_n (q := 33) g dX5_bringOn_32 rfl rfl ?_
      refine V_iload_n (q := 34) g dX5_bringOn_33 rfl rfl ?_
      refine V_iconst (q := 35) g dX5_bringOn_34 rfl ?_
      refine V_iload_n (q := 36) g dX5_bringOn_35 rfl rfl ?_
      refine V_callSV_4 (q := 39) g (b_lay l hA0 (aset_at _ _ _) (j := 46 + 9 * c) (by omega) (by omega) (by omega)) dX5_bringOn_36 k_X5_78 rfl rfl ⟨rfl, rfl⟩ rfl (fun M8 e8 => ?_)
      obtain rfl := e8
      try simp only [aset_aset]
      rw [show up (up (if f (45 + 9 * c) = fl ∧ f (46 + 9 * c) = q then f else fVoid f c) (45 + 9 * c) fl) (46 + 9 * c) q = fBring f c fl q from rfl]
      refine V_aload_n (q := 40) g dX5_bringOn_39 rfl rfl ?_
      refine V_iload_n (q := 41) g dX5_bringOn_40 rfl rfl ?_
      refine V_callSI_2 (q := 44) g (c_X5_wobbleOf l hA0 (aset_at _ _ _) (Inv_bring hI hc.1 hf hq) (by rw [bring_at (by omega) (by omega) (by omega) (by omega)]; exact hc)) dX5_bringOn_41 k_X5_69 rfl rfl ⟨rfl, rfl⟩ rfl (fun z9 M9 e9 => ?_)
      obtain ⟨⟨e9, b9⟩, rfl⟩ := e9
      rw [bring_wn hc.1 (by omega) hq] at e9
      exact V_ireturn g r dX5_bringOn_44 rfl ⟨⟨by omega, by omega, by omega⟩, rfl⟩
    · refine V_aload_n (q := 21) g dX5_bringOn_20 rfl rfl ?_
      refine V_iload_n (q := 22) g dX5_bringOn_21 rfl rfl ?_
      refine V_callSV_2 (q := 25) g (c_X5_voids l hA0 hO hI (by omega)) dX5_bringOn_22 k_X5_82 rfl rfl ⟨rfl, rfl⟩ rfl (fun M10 e10 => ?_)
      obtain rfl := e10
      try simp only [aset_aset]
      have w : fVoid f c = (if f (45 + 9 * c) = fl ∧ f (46 + 9 * c) = q then f else fVoid f c) := by rw [if_neg (by omega)]
      rw [w]
      refine V_aload_n (q := 26) g dX5_bringOn_25 rfl rfl ?_
      refine V_iload_n (q := 27) g dX5_bringOn_26 rfl rfl ?_
      refine V_iconst (q := 28) g dX5_bringOn_27 rfl ?_
      refine V_iload_n (q := 29) g dX5_bringOn_28 rfl rfl ?_
      refine V_callSV_4 (q := 32) g (b_lay l hA0 (aset_at _ _ _) (j := 45 + 9 * c) (by omega) (by omega) (by omega)) dX5_bringOn_29 k_X5_78 rfl rfl ⟨rfl, rfl⟩ rfl (fun M11 e11 => ?_)
      obtain rfl := e11
      try simp only [aset_aset]
      refine V_aload_n (q := 33) g dX5_bringOn_32 rfl rfl ?_
      refine V_iload_n (q := 34) g dX5_bringOn_33 rfl rfl ?_
      refine V_iconst (q := 35) g dX5_bringOn_34 rfl ?_
      refine V_iload_n (q := 36) g dX5_bringOn_35 rfl rfl ?_
      refine V_callSV_4 (q := 39) g (b_lay l hA0 (aset_at _ _ _) (j := 46 + 9 * c) (by omega) (by omega) (by omega)) dX5_bringOn_36 k_X5_78 rfl rfl ⟨rfl, rfl⟩ rfl (fun M12 e12 => ?_)
      obtain rfl := e12
      try simp only [aset_aset]
      rw [show up (up (if f (45 + 9 * c) = fl ∧ f (46 + 9 * c) = q then f else fVoid f c) (45 + 9 * c) fl) (46 + 9 * c) q = fBring f c fl q from rfl]
      refine V_aload_n (q := 40) g dX5_bringOn_39 rfl rfl ?_
      refine V_iload_n (q := 41) g dX5_bringOn_40 rfl rfl ?_
      refine V_callSI_2 (q := 44) g (c_X5_wobbleOf l hA0 (aset_at _ _ _) (Inv_bring hI hc.1 hf hq) (by rw [bring_at (by omega) (by omega) (by omega) (by omega)]; exact hc)) dX5_bringOn_41 k_X5_69 rfl rfl ⟨rfl, rfl⟩ rfl (fun z13 M13 e13 => ?_)
      obtain ⟨⟨e13, b13⟩, rfl⟩ := e13
      rw [bring_wn hc.1 (by omega) hq] at e13
      exact V_ireturn g r dX5_bringOn_44 rfl ⟨⟨by omega, by omega, by omega⟩, rfl⟩
abbrev rm_X5_change : Room := { frames := 0, cells := 0, slots := 0, locals := 0 }
set_option maxHeartbeats 4000000 in
set_option maxRecDepth 100000 in
theorem c_X5_change (l : Launch) {D : DD} {Λ : LY} {M : MM} {b : Nat} {f : Int → Int} {wh v : Int} (hA0 : Λ b = some (kI D 134)) (hO : M b = f) (hI : Inv f) (hw : 0 ≤ wh ∧ wh < 2) : CI l yX5_change cX5_change 4 .int rm_X5_change [.ref b, vi wh, vi v] D Λ M (fun z M1 => z = f (10 + wh) ∧ aset M b (fSet f wh v) = M1) := by
  refine CI_of rfl rfl (Nat.le_of_ble_eq_true rfl) (fun Γ g r => ?_)
  refine V_aload_n (q := 1) g dX5_change_0 rfl rfl ?_
  refine V_bipush (q := 3) g dX5_change_1 (by decide) rfl ?_
  refine V_iload_n (q := 4) g dX5_change_3 rfl rfl ?_
  refine V_iadd (q := 5) g dX5_change_4 rfl ?_
  refine V_iaload (q := 6) g dX5_change_5 rfl hA0 (by omega) (by decide) ?_
  rw [hO]
  refine V_istore_n_3 (q := 7) g dX5_change_6 (by decide) rfl rfl ?_
  refine V_aload_n (q := 8) g dX5_change_7 rfl rfl ?_
  refine V_bipush (q := 10) g dX5_change_8 (by decide) rfl ?_
  refine V_iload_n (q := 11) g dX5_change_10 rfl rfl ?_
  refine V_iadd (q := 12) g dX5_change_11 rfl ?_
  refine V_iload_n (q := 13) g dX5_change_12 rfl rfl ?_
  refine V_iastore (q := 14) g dX5_change_13 rfl hA0 (by omega) (by decide) ?_
  simp only [wr_self, aset_aset, aset_at, hO]
  refine V_iload_n (q := 15) g dX5_change_14 rfl rfl ?_
  exact V_ireturn g r dX5_change_15 rfl ⟨rfl, rfl⟩
abbrev rm_X5_canSaw : Room := { frames := 2, cells := 0, slots := 0, locals := 46 }
set_option maxHeartbeats 4000000 in
set_option maxRecDepth 100000 in
theorem c_X5_canSaw (l : Launch) {D : DD} {Λ : LY} {M : MM} {b : Nat} {f : Int → Int} {c k n : Int} (hA0 : Λ b = some (kI D 134)) (hO : M b = f) (hI : Inv f) (hk : 0 ≤ k ∧ k < 4) (hr : inR c) (hn : 0 ≤ n ∧ n ≤ 1700) : CI l yX5_canSaw cX5_canSaw 4 .boolean rm_X5_canSaw [.ref b, vi c, vi k, vi n] D Λ M (fun z M1 => (((0 ≤ c ∧ c < f 0) ∧ 100 ≤ f (49 + 9 * c + k) - n) ∧ z = 1 ∨ ¬ ((0 ≤ c ∧ c < f 0) ∧ 100 ≤ f (49 + 9 * c + k) - n) ∧ z = 0) ∧ M = M1) := by
  refine CI_of rfl rfl (Nat.le_of_ble_eq_true rfl) (fun Γ g r => ?_)
  have h0 := hI.1
  have h1 := hI.2.1
  refine V_aload_n (q := 1) g dX5_canSaw_0 rfl rfl ?_
  refine V_iload_n (q := 2) g dX5_canSaw_1 rfl rfl ?_
  refine V_callSI_2 (q := 5) g (c_X5_isChair l hA0 hO hI (by omega)) dX5_canSaw_2 k_X5_96 rfl rfl ⟨rfl, rfl⟩ rfl (fun z1 M1 e1 => ?_)
  obtain ⟨e1, rfl⟩ := e1
  refine V_if_eq (q := 8) g dX5_canSaw_5 (tgt := 27) (by decide) rfl (by omega) (fun h5 => ?_) (fun h5 => ?_)
  · refine V_iconst (q := 28) g dX5_canSaw_27 rfl ?_
    exact V_ireturn g r dX5_canSaw_28 rfl ⟨by omega, rfl⟩
  · refine V_aload_n (q := 9) g dX5_canSaw_8 rfl rfl ?_
    refine V_iload_n (q := 10) g dX5_canSaw_9 rfl rfl ?_
    refine V_iconst (q := 11) g dX5_canSaw_10 rfl ?_
    refine V_iload_n (q := 12) g dX5_canSaw_11 rfl rfl ?_
    refine V_iadd (q := 13) g dX5_canSaw_12 rfl ?_
    refine V_callSI_3 (q := 16) g (b_leg l hA0 hO hI (by omega) (by omega)) dX5_canSaw_13 k_X5_51 rfl rfl ⟨rfl, rfl⟩ rfl (fun z2 M2 e2 => ?_)
    obtain ⟨⟨e2, b2⟩, rfl⟩ := e2
    refine V_iload_n (q := 17) g dX5_canSaw_16 rfl rfl ?_
    refine V_isub (q := 18) g dX5_canSaw_17 rfl ?_
    refine V_bipush (q := 20) g dX5_canSaw_18 (by decide) rfl ?_
    refine V_icmp_lt (q := 23) g dX5_canSaw_20 (tgt := 27) (by decide) rfl (by omega) (by omega) (fun h20 => ?_) (fun h20 => ?_)
    · refine V_iconst (q := 28) g dX5_canSaw_27 rfl ?_
      exact V_ireturn g r dX5_canSaw_28 rfl ⟨by omega, rfl⟩
    · refine V_iconst (q := 24) g dX5_canSaw_23 rfl ?_
      refine V_goto g dX5_canSaw_24 (tgt := 28) (by decide) ?_
      exact V_ireturn g r dX5_canSaw_28 rfl ⟨by omega, rfl⟩
abbrev rm_X5_canShim : Room := { frames := 2, cells := 0, slots := 0, locals := 46 }
set_option maxHeartbeats 4000000 in
set_option maxRecDepth 100000 in
theorem c_X5_canShim (l : Launch) {D : DD} {Λ : LY} {M : MM} {b : Nat} {f : Int → Int} {c k n : Int} (hA0 : Λ b = some (kI D 134)) (hO : M b = f) (hI : Inv f) (hk : 0 ≤ k ∧ k < 4) (hr : inR c) (hn : 0 ≤ n ∧ n ≤ 1700) : CI l yX5_canShim cX5_canShim 4 .boolean rm_X5_canShim [.ref b, vi c, vi k, vi n] D Λ M (fun z M1 => (((0 ≤ c ∧ c < f 0) ∧ f (49 + 9 * c + k) + n ≤ 900) ∧ z = 1 ∨ ¬ ((0 ≤ c ∧ c < f 0) ∧ f (49 + 9 * c + k) + n ≤ 900) ∧ z = 0) ∧ M = M1) := by
  refine CI_of rfl rfl (Nat.le_of_ble_eq_true rfl) (fun Γ g r => ?_)
  have h0 := hI.1
  have h1 := hI.2.1
  refine V_aload_n (q := 1) g dX5_canShim_0 rfl rfl ?_
  refine V_iload_n (q := 2) g dX5_canShim_1 rfl rfl ?_
  refine V_callSI_2 (q := 5) g (c_X5_isChair l hA0 hO hI (by omega)) dX5_canShim_2 k_X5_96 rfl rfl ⟨rfl, rfl⟩ rfl (fun z1 M1 e1 => ?_)
  obtain ⟨e1, rfl⟩ := e1
  refine V_if_eq (q := 8) g dX5_canShim_5 (tgt := 28) (by decide) rfl (by omega) (fun h5 => ?_) (fun h5 => ?_)
  · refine V_iconst (q := 29) g dX5_canShim_28 rfl ?_
    exact V_ireturn g r dX5_canShim_29 rfl ⟨by omega, rfl⟩
  · refine V_aload_n (q := 9) g dX5_canShim_8 rfl rfl ?_
    refine V_iload_n (q := 10) g dX5_canShim_9 rfl rfl ?_
    refine V_iconst (q := 11) g dX5_canShim_10 rfl ?_
    refine V_iload_n (q := 12) g dX5_canShim_11 rfl rfl ?_
    refine V_iadd (q := 13) g dX5_canShim_12 rfl ?_
    refine V_callSI_3 (q := 16) g (b_leg l hA0 hO hI (by omega) (by omega)) dX5_canShim_13 k_X5_51 rfl rfl ⟨rfl, rfl⟩ rfl (fun z2 M2 e2 => ?_)
    obtain ⟨⟨e2, b2⟩, rfl⟩ := e2
    refine V_iload_n (q := 17) g dX5_canShim_16 rfl rfl ?_
    refine V_iadd (q := 18) g dX5_canShim_17 rfl ?_
    refine V_sipush (q := 21) g dX5_canShim_18 (by decide) rfl ?_
    refine V_icmp_gt (q := 24) g dX5_canShim_21 (tgt := 28) (by decide) rfl (by omega) (by omega) (fun h21 => ?_) (fun h21 => ?_)
    · refine V_iconst (q := 29) g dX5_canShim_28 rfl ?_
      exact V_ireturn g r dX5_canShim_29 rfl ⟨by omega, rfl⟩
    · refine V_iconst (q := 25) g dX5_canShim_24 rfl ?_
      refine V_goto g dX5_canShim_25 (tgt := 29) (by decide) ?_
      exact V_ireturn g r dX5_canShim_29 rfl ⟨by omega, rfl⟩
