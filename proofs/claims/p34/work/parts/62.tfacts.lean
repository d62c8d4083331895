/-! what the law asks of turns and saws -/
/-- the same state, less of it remembered -/
def Lt (σ τ : SG) : Prop := τ.1 = σ.1 ∧ τ.2.2 = σ.2.2 ∧ ∃ n, τ.2.1 = σ.2.1.take n
theorem Lt.rf {σ : SG} : Lt σ σ := ⟨rfl, rfl, σ.2.1.length, (List.take_length).symm⟩
theorem Lt.tr {σ τ υ : SG} (h : Lt σ τ) (k : Lt τ υ) : Lt σ υ := by
  obtain ⟨a1, a2, n, a3⟩ := h
  obtain ⟨b1, b2, m, b3⟩ := k
  exact ⟨b1.trans a1, b2.trans a2, min m n, by rw [b3, a3, List.take_take]⟩
def pt (σ : SG) : SG := (σ.1, (σ.2.1.take 13, σ.2.2))
theorem Lt.pt {σ : SG} : Lt σ (pt σ) := ⟨rfl, rfl, 13, rfl⟩
theorem nUndo_push (σ : SG) (g : Int → Int) : nUndo (push σ g) = pt σ := rfl
theorem qUndo_push (σ : SG) (g : Int → Int) : qUndo (push σ g) = ((σ.2.1.take 13).length : Int) := rfl
theorem push_1 (σ : SG) (g : Int → Int) : (push σ g).1 = g := rfl
theorem t13 (us : List (Int → Int)) : (us.take 13).length ≤ 13 := by rw [List.length_take]; omega
theorem sThr_0 {v : Int} (h : 0 ≤ v) : sThr v = 0 := if_neg (by omega)
theorem bf_min (f : Int → Int) (c : Int) : ∀ (n : Nat) (g : Int), 0 ≤ g → g ≤ n → sWq f c (sBfN f c n) ≤ sWq f c g ∧ (g < sBfN f c n → sWq f c (sBfN f c n) < sWq f c g)
  | 0, g, a, b => by
    have : g = 0 := by omega
    subst this
    exact ⟨Int.le_refl _, fun h => absurd h (by show ¬ (0 : Int) < 0; decide)⟩
  | n + 1, g, a, b => by
    have ih := bf_min f c n
    have hr := sBfN_r f c n
    unfold sBfN
    by_cases e : g = n + 1
    · subst e
      split
      · exact ⟨Int.le_refl _, fun h => absurd h (by omega)⟩
      · exact ⟨by omega, fun h => absurd h (by omega)⟩
    · have h1 := ih g a (by omega)
      split
      · refine ⟨by omega, fun h => ?_⟩
        omega
      · exact h1
theorem bf_best {f : Int → Int} (hI : Inv f) (c : Int) : (0 ≤ sBf f c ∧ sBf f c < f 1) ∧ ∀ g : Int, 0 ≤ g → g < f 1 → sWq f c (sBf f c) ≤ sWq f c g ∧ (g < sBf f c → sWq f c (sBf f c) < sWq f c g) := by
  have h1 := hI.2.1
  have hr := sBfN_r f c (f 1 - 1).toNat
  unfold sBf
  exact ⟨by omega, fun g a b => bf_min f c _ g a (by omega)⟩
theorem bs_ok0 (f : Int → Int) (c : Int) : ∀ n : Nat, n ≤ 4 → (sBsN f c n).1 = -1 ∨ ((0 ≤ (sBsN f c n).1 ∧ (sBsN f c n).1 < 4) ∧ 100 ≤ f (49 + 9 * c + (sBsN f c n).1) - sWn f c ∧ sWn (sCut f c (sBsN f c n).1) c = 0)
  | 0, _ => Or.inl rfl
  | n + 1, h => by
    have ih := bs_ok0 f c n (by omega)
    unfold sBsN
    split
    · rename_i q
      refine Or.inr ⟨?_, q.1⟩
      show 0 ≤ (n : Int) ∧ (n : Int) < 4
      omega
    · exact ih
theorem bs_ok {f : Int → Int} {c : Int} (h : sBs f c ≠ -1) : 0 < sWn f c ∧ (0 ≤ sBs f c ∧ sBs f c < 4) ∧ 100 ≤ f (49 + 9 * c + sBs f c) - sWn f c ∧ sWn (sCut f c (sBs f c)) c = 0 := by
  unfold sBs at h ⊢
  by_cases q : sWn f c > 0
  · rw [if_pos q] at h ⊢
    exact ⟨q, (bs_ok0 f c 4 (by decide)).resolve_left h⟩
  · rw [if_neg q] at h
    exact absurd rfl h
theorem bs_r (f : Int → Int) (c : Int) : -1 ≤ sBs f c ∧ sBs f c < 4 := by
  by_cases h : sBs f c = -1
  · omega
  · have := (bs_ok h).2.1
    omega
theorem saw_47 {f : Int → Int} {c k n : Int} (hc : 0 ≤ c) (hk : 0 ≤ k) (hn : n ≠ 0) : fSaw f c k n (47 + 9 * c) = 0 := by
  unfold fSaw
  rw [leg_47 hc hk, if_neg (by omega)]
theorem tn_bring {f : Int → Int} {c fl q : Int} (hI : Inv f) (hc : 0 ≤ c ∧ c < f 0) (hf : 0 ≤ fl ∧ fl < f 1) (hq : 0 ≤ q ∧ q < 4) : (0 ≤ c ∧ c < fBring f c fl q 0) ∧ sWn (fBring f c fl q) c = sWob f c fl q ∧ sLn (fBring f c fl q) c = sLean f c fl q := by
  have h1 := hI.2.1
  rw [bring_at (by decide) (by omega) (by omega) (by omega)]
  exact ⟨hc, bring_wn hc.1 (by omega) hq, bring_ln hc.1 (by omega) hq⟩
