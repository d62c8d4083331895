/-! what the law asks of the numbers -/
theorem qBn_0 {f : Int → Int} {gu : Int} (h : 0 ≤ gu ∧ gu < 4) : qBnd f gu 0 = f (28 + 4 * gu) := by rw [qBn_ok h (by decide)]; exact congrArg f (by omega)
theorem qBn_1 {f : Int → Int} {gu : Int} (h : 0 ≤ gu ∧ gu < 4) : qBnd f gu 1 = f (29 + 4 * gu) := by rw [qBn_ok h (by decide)]; exact congrArg f (by omega)
theorem qBn_2 {f : Int → Int} {gu : Int} (h : 0 ≤ gu ∧ gu < 4) : qBnd f gu 2 = f (30 + 4 * gu) := by rw [qBn_ok h (by decide)]; exact congrArg f (by omega)
theorem qBn_3 {f : Int → Int} {gu : Int} (h : 0 ≤ gu ∧ gu < 4) : qBnd f gu 3 = f (31 + 4 * gu) := by rw [qBn_ok h (by decide)]; exact congrArg f (by omega)
theorem hd_tilt (f : Int → Int) (c : Int) : sAbs (0 + sRn f c 0 + -(sRn f c 1) + sRn f c 2 + -(sRn f c 3)) = sWn f c := by
  unfold sWn sWob sTilt sRn
  congr 1
  omega
theorem hd_seat (f : Int → Int) (c : Int) : (0 + f (49 + 9 * c + 0) + f (49 + 9 * c + 1) + f (49 + 9 * c + 2) + f (49 + 9 * c + 3)) / 4 = sSeat f c := by
  unfold sSeat
  rw [show 49 + 9 * c + 0 = 49 + 9 * c by omega, show 49 + 9 * c + 1 = 50 + 9 * c by omega, show 49 + 9 * c + 2 = 51 + 9 * c by omega, show 49 + 9 * c + 3 = 52 + 9 * c by omega, Int.zero_add]
theorem idle_iff (f : Int → Int) (c : Int) : sIdle f c = -1 ↔ sWn f c = 0 := by
  unfold sIdle sWn sWob
  rcases sAbs_r (a := sTilt f c (f (45 + 9 * c)) (f (46 + 9 * c))) with ⟨h1, h2⟩ | ⟨h1, h2⟩
  all_goals
    rw [h1]
    (repeat' split) <;> omega
theorem idle_r (f : Int → Int) (c : Int) : -1 ≤ sIdle f c ∧ sIdle f c ≤ 3 := by
  unfold sIdle
  split
  · omega
  · split
    · split <;> omega
    · split <;> omega
theorem idle_le {f : Int → Int} {c : Int} (h : sIdle f c ≠ -1) : sRn f c (sIdle f c) ≤ sRn f c ((sIdle f c + 2) % 4) := by
  unfold sIdle at h ⊢
  split at h
  · exact absurd rfl h
  · rename_i h1
    rw [if_neg h1]
    split
    · split
      · rename_i h2
        show sRn f c 2 ≤ sRn f c 0
        omega
      · rename_i h2
        show sRn f c 0 ≤ sRn f c 2
        omega
    · split
      · rename_i h2
        show sRn f c 3 ≤ sRn f c 1
        omega
      · rename_i h2
        show sRn f c 1 ≤ sRn f c 3
        omega
theorem lean_2 (f : Int → Int) (c fl q : Int) : sWob f c fl q ≤ 2 * sLean f c fl q := by
  unfold sWob sTilt sLean
  generalize sRe f c 0 fl q = a
  generalize sRe f c 1 fl q = b
  generalize sRe f c 2 fl q = d
  generalize sRe f c 3 fl q = e
  have h1 := @sMax_r a b
  have h2 := @sMax_r (sMax a b) d
  have h3 := @sMax_r (sMax (sMax a b) d) e
  have h4 := @sMin_r a b
  have h5 := @sMin_r (sMin a b) d
  have h6 := @sMin_r (sMin (sMin a b) d) e
  have h7 := @sAbs_r (a + d - b - e)
  omega
theorem fl_0 (f : Int → Int) (c wt : Int) : ∀ (k n : Nat), sFl f c wt k n = -1 ∨ ((n : Int) ≤ sFl f c wt k n ∧ sFl f c wt k n < n + k)
  | 0, _ => Or.inl rfl
  | k + 1, n => by
    unfold sFl
    split
    · exact Or.inr (by omega)
    · rcases fl_0 f c wt k (n + 1) with h | h
      · exact Or.inl h
      · exact Or.inr (by omega)
theorem fail_iff (f : Int → Int) (c wt : Int) : sFail f c wt = 0 ↔ sWhy f c > 0 := by
  unfold sFail sFl
  split
  · rename_i h
    exact ⟨fun _ => h, fun _ => rfl⟩
  · rename_i h
    have := fl_0 f c wt 100 (0 + 1)
    exact ⟨fun q => by omega, fun q => absurd q h⟩
theorem fail_r (f : Int → Int) (c wt : Int) : -1 ≤ sFail f c wt ∧ sFail f c wt ≤ 100 := by
  have := fl_0 f c wt 101 0
  unfold sFail
  omega
theorem bq_min (f : Int → Int) (c fl : Int) : ∀ (n : Nat) (q : Int), 0 ≤ q → q ≤ n → sKey f c fl (sBqN f c fl n) ≤ sKey f c fl q
  | 0, q, a, b => by
    have : q = 0 := by omega
    subst this
    exact Int.le_refl _
  | n + 1, q, a, b => by
    have ih := bq_min f c fl n
    unfold sBqN
    by_cases e : q = n + 1
    · subst e
      split <;> omega
    · have := ih q a (by omega)
      split <;> omega
theorem bq_r (f : Int → Int) (c fl : Int) : 0 ≤ sBq f c fl ∧ sBq f c fl < 4 := by
  have := sBqN_r f c fl 3
  unfold sBq
  omega
/-- the best turn: least wobble, then least lean, then the fewest quarters -/
theorem bq_best {f : Int → Int} (hI : Inv f) {c fl q : Int} (hc : 0 ≤ c ∧ c < f 0) (hf : 0 ≤ fl ∧ fl < 4) (hq : 0 ≤ q ∧ q < 4) : sWq f c fl ≤ sWob f c fl q ∧ (sWq f c fl < sWob f c fl q ∨ sLean f c fl (sBq f c fl) < sLean f c fl q ∨ (sLean f c fl q = sLean f c fl (sBq f c fl) ∧ sBq f c fl ≤ q)) := by
  have h := bq_min f c fl 3 q hq.1 (by omega)
  have hr := bq_r f c fl
  have l1 := sLean_r hI hc hf hq
  have l2 := sLean_r hI hc hf hr
  unfold sBq at hr l2
  unfold sWq sBq
  unfold sKey at h
  omega
theorem wq_le {f : Int → Int} (hI : Inv f) {c : Int} (hc : 0 ≤ c ∧ c < f 0) : sWq f c (f (45 + 9 * c)) ≤ sWn f c := by
  obtain ⟨-, c2, c3, -⟩ := hI.2.2.2.2.2.2 c hc.1 hc.2
  have := hI.2.1
  exact (bq_best hI hc (by omega) (q := f (46 + 9 * c)) (by omega)).1
theorem wn_r {f : Int → Int} (hI : Inv f) {c : Int} (hc : 0 ≤ c ∧ c < f 0) : (0 ≤ sWn f c ∧ sWn f c ≤ 1700) ∧ (0 ≤ sLn f c ∧ sLn f c ≤ 850) ∧ (100 ≤ sSeat f c ∧ sSeat f c ≤ 900) := by
  obtain ⟨-, c2, c3, -, c5⟩ := hI.2.2.2.2.2.2 c hc.1 hc.2
  have := hI.2.1
  refine ⟨sWob_r hI hc (by omega) (by omega), sLean_r hI hc (by omega) (by omega), ?_⟩
  have l0 := c5 0 (by decide) (by decide)
  have l1 := c5 1 (by decide) (by decide)
  have l2 := c5 2 (by decide) (by decide)
  have l3 := c5 3 (by decide) (by decide)
  rw [← hd_seat]
  omega
theorem rn_r {f : Int → Int} (hI : Inv f) {c k : Int} (hc : 0 ≤ c ∧ c < f 0) (hk : 0 ≤ k ∧ k < 4) : 50 ≤ sRn f c k ∧ sRn f c k ≤ 900 := by
  obtain ⟨-, c2, c3, -, c5⟩ := hI.2.2.2.2.2.2 c hc.1 hc.2
  have := hI.2.1
  exact sRe_r hI hc hk (by omega) (by omega)
theorem siN_r {f : Int → Int} (h : ∀ c : Int, 0 ≤ c → c < f 0 → 0 ≤ f (48 + 9 * c)) : ∀ (n m : Nat), (n : Int) + m ≤ f 0 → 0 ≤ sSiN f n ∧ sSiN f n ≤ sSiN f (n + m)
  | 0, 0, _ => ⟨Int.le_refl _, Int.le_refl _⟩
  | n + 1, 0, hn => by
    have ih := siN_r h n 0 (by omega)
    have h1 := h n (by omega) (by omega)
    refine ⟨?_, Int.le_refl _⟩
    show 0 ≤ sSiN f n + f (48 + 9 * n)
    omega
  | n, m + 1, hn => by
    have ih := siN_r h n m (by omega)
    have h1 := h ((n + m : Nat) : Int) (by omega) (by omega)
    refine ⟨ih.1, ?_⟩
    show sSiN f n ≤ sSiN f (n + m) + f (48 + 9 * ((n + m : Nat) : Int))
    omega
/-! bits -/
theorem bit_1 (x : BitVec 32) (c : Nat) (hc : c < 32) : (x.sshiftRight c) &&& 1#32 = if x.getLsbD c then 1#32 else 0#32 := by
  apply BitVec.eq_of_getLsbD_eq
  intro i hi
  rw [BitVec.getLsbD_and, BitVec.getLsbD_sshiftRight]
  by_cases h0 : i = 0
  · subst h0
    cases hb : x.getLsbD c <;> simp [hc, hb]
  · have h1 : (1#32).getLsbD i = false := by
      rw [BitVec.getLsbD_one]
      simp [h0]
    rw [h1, Bool.and_false]
    cases hb : x.getLsbD c <;> simp [h1]
theorem xor_2 {i : Int} (h : 0 ≤ i ∧ i < 4) : Value.int (iI i ^^^ iI 2) = vi ((i + 2) % 4) := by
  rcases (by omega : i = 0 ∨ i = 1 ∨ i = 2 ∨ i = 3) with rfl | rfl | rfl | rfl
  all_goals exact congrArg Value.int (by decide)
theorem shl_bit {n c : Nat} (hn : n < 10) (hc : c < 10) : (iI 1 <<< (iI (n : Int) &&& 31)).toBitVec.getLsbD c = decide (c = n) := by
  have key : ∀ n : Fin 10, ∀ c : Fin 10, (iI 1 <<< (iI (n.val : Int) &&& 31)).toBitVec.getLsbD c.val = decide (c.val = n.val) := by decide +kernel
  exact key ⟨n, hn⟩ ⟨c, hc⟩
theorem snd_bit (f : Int → Int) {c : Nat} (hc : c < 10) : ∀ n : Nat, n ≤ 10 → (sSnd f n).toBitVec.getLsbD c = decide (c < n ∧ sWhy f c = 0)
  | 0, _ => by
    rw [show decide (c < 0 ∧ sWhy f c = 0) = false from decide_eq_false (by omega)]
    have key : ∀ c : Fin 10, (0 : Int32).toBitVec.getLsbD c.val = false := by decide +kernel
    exact key ⟨c, hc⟩
  | n + 1, h => by
    have ih := snd_bit f hc n (by omega)
    unfold sSnd
    by_cases hw : sWhy f n = 0
    · rw [if_pos hw, Int32.toBitVec_or, BitVec.getLsbD_or, ih, shl_bit (by omega) hc]
      by_cases e : c = n
      · subst e
        simp [hw]
      · have : (c < n + 1) ↔ (c < n) := by omega
        simp [e, this]
    · rw [if_neg hw, ih]
      by_cases e : c = n
      · subst e
        simp [hw]
      · have : (c < n + 1) ↔ (c < n) := by omega
        simp [this]
theorem shr_nat (x : Int32) {c : Nat} (hc : c < 10) : (x >>> (iI (c : Int) &&& 31)).toBitVec = x.toBitVec.sshiftRight c := by
  have key : ∀ c : Fin 10, ((iI (c.val : Int) &&& 31).toBitVec.smod 32).toNat = c.val := by decide +kernel
  rw [Int32.toBitVec_shiftRight]
  have := key ⟨c, hc⟩
  show x.toBitVec.sshiftRight _ = _
  exact congrArg _ this
/-- the bit of a chair -/
theorem snd_at (f : Int → Int) {c n : Nat} (hc : c < n) (hn : n ≤ 10) : Value.int ((iI (sSnd f n).toInt >>> (iI (c : Int) &&& 31)) &&& iI 1) = vi (if sWhy f c = 0 then 1 else 0) := by
  refine congrArg Value.int ?_
  rw [iI_self]
  apply Int32.toBitVec_inj.mp
  rw [Int32.toBitVec_and, shr_nat _ (by omega), show (iI 1).toBitVec = 1#32 from by decide, bit_1 _ _ (by omega), snd_bit f (by omega) n hn]
  by_cases h : sWhy f c = 0
  · rw [if_pos (by simp [hc, h]), if_pos h]
    decide
  · rw [if_neg (by simp [h]), if_neg h]
    decide
