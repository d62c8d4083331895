/-! what the law asks of sitters and tests -/
/-- what is remembered when n sat, the newest first -/
def Lk (σ : SG) (c wt : Int) : Nat → List (Int → Int)
  | 0 => σ.2.1
  | n + 1 => fSitI σ.1 c wt n :: Lk σ c wt n
/-- n sat; of what is remembered, m -/
def Sk (σ : SG) (c wt : Int) (n m : Nat) : SG := (fSitI σ.1 c wt n, ((Lk σ c wt n).take m, σ.2.2))
theorem Sk_0 {σ : SG} {c wt : Int} (h : σ.2.1.length ≤ 14) : Sk σ c wt 0 14 = σ := by
  unfold Sk Lk
  rw [List.take_of_length_le h]
  rfl
theorem Sk_push {σ : SG} {c wt : Int} {n : Nat} : push (Sk σ c wt n 14) (fSit (fSitI σ.1 c wt n) c wt) = Sk σ c wt (n + 1) 14 := by
  show (fSit (fSitI σ.1 c wt n) c wt, ((fSitI σ.1 c wt n :: (Lk σ c wt n).take 14).take 14, σ.2.2)) = (fSit (fSitI σ.1 c wt n) c wt, ((fSitI σ.1 c wt n :: Lk σ c wt n).take 14, σ.2.2))
  have e : (fSitI σ.1 c wt n :: (Lk σ c wt n).take 14).take 14 = (fSitI σ.1 c wt n :: Lk σ c wt n).take 14 := by
    show fSitI σ.1 c wt n :: ((Lk σ c wt n).take 14).take 13 = fSitI σ.1 c wt n :: (Lk σ c wt n).take 13
    rw [List.take_take]
    rfl
  rw [e]
theorem nUndo_Sk (σ : SG) (c wt : Int) (n m : Nat) : nUndo (Sk σ c wt (n + 1) (m + 1)) = Sk σ c wt n m := rfl
theorem qUndo_Sk (σ : SG) (c wt : Int) (n m : Nat) : qUndo (Sk σ c wt (n + 1) (m + 1)) = (((Lk σ c wt n).take m).length : Int) := rfl
theorem Lt.Sk {σ : SG} {c wt : Int} {m : Nat} : Lt σ (Sk σ c wt 0 m) := ⟨rfl, rfl, m, rfl⟩
theorem Lk_len {σ : SG} {c wt : Int} {n m : Nat} : ((Lk σ c wt n).take m).length ≤ m := by rw [List.length_take]; omega
/-- how much the legs wear by the sitter n -/
def sBk (f : Int → Int) (c wt : Int) (n : Nat) : Int := sSitN (fSitI f c wt n) c (wt / fSitI f c wt n 11) (sIdle (fSitI f c wt n) c) 4
theorem sBy_w {f : Int → Int} {c w idle k : Int} (hw : 0 ≤ w) : sBy f c w idle k ≤ w := by
  unfold sBy
  split
  · exact hw
  · split <;> omega
theorem sit_w {f : Int → Int} {c w idle : Int} (hw : 0 ≤ w) : ∀ n : Nat, sSitN f c w idle n ≤ n * w
  | 0 => by show (0 : Int) ≤ ((0 : Nat) : Int) * w; simp
  | n + 1 => by
    have ih := sit_w (f := f) (c := c) (idle := idle) hw n
    have h1 := sBy_w (f := fSitN f c w idle n) (c := c) (idle := idle) (k := n) hw
    have e : ((n + 1 : Nat) : Int) * w = n * w + w := by rw [Int.natCast_add, Int.add_mul]; simp
    show sSitN f c w idle n + sBy (fSitN f c w idle n) c w idle n ≤ _
    omega
theorem sit_v {f : Int → Int} {c w idle : Int} (hI : Inv f) (hc : 0 ≤ c ∧ c < f 0) (hw : 0 ≤ w) : ∀ n : Nat, n ≤ 4 → (sSitN f c w idle n ≠ 0 → fSitN f c w idle n (47 + 9 * c) = 0) ∧ (fSitN f c w idle n (47 + 9 * c) = 0 ∨ fSitN f c w idle n (47 + 9 * c) = f (47 + 9 * c))
  | 0, _ => ⟨fun h => absurd rfl h, Or.inr rfl⟩
  | n + 1, hn => by
    obtain ⟨a, b⟩ := sit_v (idle := idle) hI hc hw n (by omega)
    have hs := sitN (idle := idle) hI hc hw n (by omega)
    have hc2 : 0 ≤ c ∧ c < fSitN f c w idle n 0 := by rw [hs.2.1 0 (by omega) (by omega) (by omega)]; exact hc
    have h1 := sBy_r (idle := idle) hs.1 hc2 (k := n) (by omega) hw
    have e : fSitN f c w idle (n + 1) (47 + 9 * c) = if -(sBy (fSitN f c w idle n) c w idle n) = 0 then fSitN f c w idle n (47 + 9 * c) else 0 := leg_47 hc.1 (by omega)
    have e2 : sSitN f c w idle (n + 1) = sSitN f c w idle n + sBy (fSitN f c w idle n) c w idle n := rfl
    rw [e, e2]
    split
    · exact ⟨fun h => a (by omega), b⟩
    · exact ⟨fun _ => rfl, Or.inl rfl⟩
theorem sit_9 {f : Int → Int} {c wt : Int} (hc : 0 ≤ c) : fSit f c wt 9 = f 9 + sSitN f c (wt / f 11) (sIdle f c) 4 := by
  unfold fSit
  rw [up_ne (by omega), up_eq]
theorem sit_47 {f : Int → Int} {c wt : Int} (hc : 0 ≤ c) : fSit f c wt (47 + 9 * c) = fSitN f c (wt / f 11) (sIdle f c) 4 (47 + 9 * c) := by
  unfold fSit
  rw [up_ne (by omega), up_ne (by omega), up_ne (by omega)]
theorem fI_11 {f : Int → Int} {c wt : Int} (hI : Inv f) (hc : 0 ≤ c ∧ c < f 0) (hw : 0 ≤ wt) : ∀ n : Nat, fSitI f c wt n 11 = f 11
  | 0 => rfl
  | n + 1 => by
    obtain ⟨h1, h2⟩ := fSitI_r hI hc hw n
    show fSit (fSitI f c wt n) c wt 11 = f 11
    rw [fSit_at h1 (by rw [h2]; exact hc) hw (by decide) (by decide) (by decide) (by omega), fI_11 hI hc hw n]
theorem sk_fact {f : Int → Int} {c wt : Int} (hI : Inv f) (hc : 0 ≤ c ∧ c < f 0) (hw : 1 ≤ wt ∧ wt ≤ 200) (n : Nat) : (0 ≤ sBk f c wt n ∧ sBk f c wt n ≤ 4 * (wt / f 11)) ∧ (0 ≤ wt / f 11 ∧ wt / f 11 ≤ 200) ∧ (sBk f c wt n ≠ 0 → fSitI f c wt (n + 1) (47 + 9 * c) = 0) ∧ fSitI f c wt (n + 1) 9 = fSitI f c wt n 9 + sBk f c wt n ∧ fSitI f c wt n 11 = f 11 ∧ fSitI f c wt n 0 = f 0 ∧ Inv (fSitI f c wt n) := by
  obtain ⟨h1, h2⟩ := fSitI_r hI hc (by omega : 0 ≤ wt) n
  have h11 := fI_11 hI hc (by omega : 0 ≤ wt) n
  have hi := hI.2.2.2.1
  have hc2 : 0 ≤ c ∧ c < fSitI f c wt n 0 := by rw [h2]; exact hc
  have w1 : 0 ≤ wt / f 11 := Int.ediv_nonneg (by omega) (by omega)
  have w2 : wt / f 11 ≤ wt := Int.ediv_le_self _ (by omega)
  have hs := sitN (idle := sIdle (fSitI f c wt n) c) h1 hc2 (w := wt / f 11) w1 4 (by decide)
  have hv := sit_v (idle := sIdle (fSitI f c wt n) c) h1 hc2 (w := wt / f 11) w1 4 (by decide)
  have hl := sit_w (f := fSitI f c wt n) (c := c) (idle := sIdle (fSitI f c wt n) c) (w := wt / f 11) w1 4
  have eb : sBk f c wt n = sSitN (fSitI f c wt n) c (wt / f 11) (sIdle (fSitI f c wt n) c) 4 := by unfold sBk; rw [h11]
  refine ⟨⟨by rw [eb]; exact hs.2.2.1, by rw [eb]; exact hl⟩, ⟨w1, by omega⟩, fun q => ?_, ?_, h11, h2, h1⟩
  · show fSit (fSitI f c wt n) c wt (47 + 9 * c) = 0
    rw [sit_47 hc.1, h11]
    exact hv.1 (by rw [← eb]; exact q)
  · show fSit (fSitI f c wt n) c wt 9 = _
    rw [sit_9 hc.1]
    rfl
theorem fl_lt (f : Int → Int) (c wt : Int) : ∀ (k n i : Nat), n ≤ i → i < n + k → (sFl f c wt k n = -1 ∨ (i : Int) < sFl f c wt k n) → sWhy (fSitI f c wt i) c = 0
  | 0, n, i, h1, h2, _ => by omega
  | k + 1, n, i, h1, h2, h3 => by
    unfold sFl at h3
    split at h3
    · omega
    · rename_i hq
      by_cases e : i = n
      · subst e
        have := sWhy_r (fSitI f c wt i) c
        omega
      · exact fl_lt f c wt k (n + 1) i (by omega) (by omega) h3
theorem fl_at (f : Int → Int) (c wt : Int) : ∀ (k n : Nat), sFl f c wt k n ≠ -1 → sWhy (fSitI f c wt (sFl f c wt k n).toNat) c > 0
  | 0, n, h => absurd rfl h
  | k + 1, n, h => by
    unfold sFl at h ⊢
    split
    · rename_i hq
      rw [show ((n : Int)).toNat = n from Int.toNat_natCast n]
      exact hq
    · rename_i hq
      rw [if_neg hq] at h
      exact fl_at f c wt k (n + 1) h
/-- when as many sat as was told (10 at most) -/
theorem fail_n {f : Int → Int} {c wt : Int} {N : Nat} (h : ((sFail f c wt = -1 ∨ 10 < sFail f c wt) ∧ (N : Int) = 10) ∨ ((0 ≤ sFail f c wt ∧ sFail f c wt ≤ 10) ∧ (N : Int) = sFail f c wt)) : N ≤ 10 ∧ (∀ i : Nat, i < N → sWhy (fSitI f c wt i) c = 0) ∧ (sWhy (fSitI f c wt N) c > 0 ↔ sFail f c wt = N) := by
  have hlt : ∀ i : Nat, i < 101 → (sFail f c wt = -1 ∨ (i : Int) < sFail f c wt) → sWhy (fSitI f c wt i) c = 0 := fun i a b => fl_lt f c wt 101 0 i (by omega) (by omega) b
  refine ⟨by omega, fun i hi => hlt i (by omega) (by omega), ?_⟩
  rcases h with ⟨a, b⟩ | ⟨a, b⟩
  · have h0 := hlt N (by omega) (by omega)
    exact ⟨fun q => by omega, fun q => by omega⟩
  · have h1 : sWhy (fSitI f c wt (sFail f c wt).toNat) c > 0 := fl_at f c wt 101 0 (by unfold sFail at a; omega)
    rw [show (sFail f c wt).toNat = N by omega] at h1
    exact ⟨fun _ => b.symm, fun _ => h1⟩
theorem test_fact {f : Int → Int} {c : Int} (hI : Inv f) (hc : 0 ≤ c ∧ c < f 0) (hk : Sok f) : fTest f c 0 = f 0 ∧ fTest f c 5 = f 5 + f 10 ∧ fTest f c 10 = f 10 ∧ ((sWhy f c = 0 ∧ fTest f c (47 + 9 * c) = 1 ∧ fTest f c 3 = f 3 + 1 - f (47 + 9 * c)) ∨ (sWhy f c ≠ 0 ∧ fTest f c (47 + 9 * c) = 0 ∧ fTest f c 3 = f 3)) := by
  have hf := hI.fl hc
  have hs := hk c hc.1 hc.2
  have p0 : ∀ j : Int, j ≠ 2 → j ≠ 5 → fPaid f j = f j := fun j a b => by unfold fPaid; rw [up_ne b, up_ne a]
  have p5 : fPaid f 5 = f 5 + f 10 := by unfold fPaid; rw [up_eq]
  unfold fTest
  split
  · rename_i h
    have e : ∀ j : Int, j ≠ 3 → j ≠ 47 + 9 * c → up (up (fPaid f) (47 + 9 * c) 1) 3 (f 3 + 1) j = fPaid f j := fun j a b => by rw [up_ne a, up_ne b]
    refine ⟨by rw [e 0 (by decide) (by omega), p0 0 (by decide) (by decide)], by rw [e 5 (by decide) (by omega), p5], by rw [e 10 (by decide) (by omega), p0 10 (by decide) (by decide)], Or.inl ⟨h.1, ?_, ?_⟩⟩
    · rw [up_ne (by omega), up_eq]
    · rw [up_eq]
      omega
  · rename_i h
    refine ⟨p0 0 (by decide) (by decide), p5, p0 10 (by decide) (by decide), ?_⟩
    rw [p0 (47 + 9 * c) (by omega) (by omega), p0 3 (by decide) (by decide)]
    omega
