/-! reading -/
def sT : Nat → Int
  | 0 => 1
  | 1 => 10
  | _ => 100
def sUn : Nat → Int
  | 0 => 0
  | n + 1 => sT n
theorem sT_r (k : Nat) : 1 ≤ sT k ∧ sT k ≤ 100 := by
  match k with
  | 0 => decide
  | 1 => decide
  | k + 2 => exact (by decide : (1 : Int) ≤ 100 ∧ (100 : Int) ≤ 100)
theorem sT_div {k : Nat} (h : k ≤ 2) : sT k / 10 = sUn k := by
  match k, h with
  | 0, _ => decide
  | 1, _ => decide
  | 2, _ => decide
theorem sT_mul {k : Nat} {d : Int} (h : -100 ≤ d ∧ d ≤ 300) : -10000 ≤ d * sT k ∧ d * sT k ≤ 30000 := by
  match k with
  | 0 => show -10000 ≤ d * 1 ∧ d * 1 ≤ 30000; omega
  | 1 => show -10000 ≤ d * 10 ∧ d * 10 ≤ 30000; omega
  | k + 2 => show -10000 ≤ d * 100 ∧ d * 100 ≤ 30000; omega
theorem sT_nn {k : Nat} {d : Int} (h : 0 ≤ d) : 0 ≤ d * sT k := Int.mul_nonneg h (by have := sT_r k; omega)
/-- the digit at a place, if it is one -/
def sDg (t : Int → Int) (sz p : Int) : Int := if p < sz then t p - 48 else -1
/-- a number of k digits more, from the place p on, when v was read: the number or -1, and the place behind it or that of the error -/
def sNum (t : Int → Int) (sz : Int) : Nat → Int → Int → Int → Int → Int × Int
  | 0, p, v, _, _ => (v, p)
  | k + 1, p, v, lo, hi => if (0 ≤ sDg t sz p ∧ sDg t sz p ≤ 9) ∧ v + sDg t sz p * sT k ≤ hi ∧ lo ≤ v + sDg t sz p * sT k + sT k - 1 then sNum t sz k (p + 1) (v + sDg t sz p * sT k) lo hi else (-1, p)
theorem sNum_r {t : Int → Int} {sz lo hi : Int} (hlo : 0 ≤ lo) : ∀ (k : Nat) (p v : Int), 0 ≤ v → (k = 0 → lo ≤ v ∧ v ≤ hi) → ((sNum t sz k p v lo hi).1 = -1 ∨ (lo ≤ (sNum t sz k p v lo hi).1 ∧ (sNum t sz k p v lo hi).1 ≤ hi)) ∧ p ≤ (sNum t sz k p v lo hi).2 ∧ (p ≤ sz → (sNum t sz k p v lo hi).2 ≤ sz)
  | 0, p, v, h, h2 => ⟨Or.inr (h2 rfl), Int.le_refl _, fun h => h⟩
  | k + 1, p, v, h, _ => by
    rw [sNum]
    by_cases hc : (0 ≤ sDg t sz p ∧ sDg t sz p ≤ 9) ∧ v + sDg t sz p * sT k ≤ hi ∧ lo ≤ v + sDg t sz p * sT k + sT k - 1
    · rw [if_pos hc]
      have hn := sT_nn (k := k) hc.1.1
      have hps : p < sz := by
        have h1 := hc.1.1
        unfold sDg at h1
        split at h1 <;> omega
      have ih := sNum_r (t := t) (sz := sz) (hi := hi) hlo k (p + 1) (v + sDg t sz p * sT k) (by omega) (fun e => by
        subst e
        have : sT 0 = 1 := rfl
        omega)
      exact ⟨ih.1, by omega, fun _ => ih.2.2 (by omega)⟩
    · rw [if_neg hc]
      exact ⟨Or.inl rfl, Int.le_refl _, fun h => h⟩
/-- the same behind a number that was read, or not -/
def sFig (t : Int → Int) (sz ah : Int) (k : Nat) (p lo hi : Int) : Int × Int := if ah = -1 then (-1, p) else sNum t sz k p 0 lo hi
theorem sFig_r {t : Int → Int} {sz ah lo hi p : Int} {k : Nat} (hlo : 0 ≤ lo ∧ lo ≤ hi) (hk : 1 ≤ k) : ((sFig t sz ah k p lo hi).1 = -1 ∨ (ah ≠ -1 ∧ lo ≤ (sFig t sz ah k p lo hi).1 ∧ (sFig t sz ah k p lo hi).1 ≤ hi)) ∧ p ≤ (sFig t sz ah k p lo hi).2 ∧ (p ≤ sz → (sFig t sz ah k p lo hi).2 ≤ sz) := by
  unfold sFig
  by_cases h : ah = -1
  · rw [if_pos h]; exact ⟨Or.inl rfl, Int.le_refl _, fun h => h⟩
  · rw [if_neg h]
    obtain ⟨h1, h2, h3⟩ := sNum_r (t := t) (sz := sz) (hi := hi) hlo.1 k p 0 (by decide) (fun e => by omega)
    exact ⟨h1.imp_right fun q => ⟨h, q⟩, h2, h3⟩
theorem sFig_0 {t : Int → Int} {sz ah p : Int} : sFig t sz ah 0 p 0 0 = if ah = -1 then (-1, p) else (0, p) := rfl
/-- the forms of a command's numbers: digits, least, most -/
def fD (r i : Nat) : Nat := (formsL.getD (12 * r + 3 * i) 0).toNat
def fLo (r i : Nat) : Int := formsL.getD (12 * r + 3 * i + 1) 0
def fHi (r i : Nat) : Int := formsL.getD (12 * r + 3 * i + 2) 0
/-- a command's numbers one behind another -/
def sXs (t : Int → Int) (sz : Int) (r : Nat) (p : Int) : Nat → Int × Int
  | 0 => sFig t sz 0 (fD r 0) p (fLo r 0) (fHi r 0)
  | i + 1 => sFig t sz (sXs t sz r p i).1 (fD r (i + 1)) (sXs t sz r p i).2 (fLo r (i + 1)) (fHi r (i + 1))
theorem sXs_pass {t : Int → Int} {sz p : Int} {r i : Nat} (h : fD r (i + 1) = 0 ∧ fLo r (i + 1) = 0 ∧ fHi r (i + 1) = 0) : (sXs t sz r p (i + 1)).2 = (sXs t sz r p i).2 ∧ ((sXs t sz r p (i + 1)).1 = -1 ↔ (sXs t sz r p i).1 = -1) := by
  rw [sXs, h.1, h.2.1, h.2.2, sFig_0]
  by_cases e : (sXs t sz r p i).1 = -1
  · rw [if_pos e]; exact ⟨rfl, ⟨fun _ => e, fun _ => rfl⟩⟩
  · rw [if_neg e]; exact ⟨rfl, ⟨fun q => absurd q (by show ¬ (0 : Int) = -1; decide), fun q => absurd q e⟩⟩
/-- which command a letter is -/
def sRow (c : Int) : Option Nat := if c = 99 then some 0 else if c = 115 then some 1 else if c = 104 then some 2 else if c = 102 then some 3 else if c = 98 then some 4 else if c = 116 then some 5 else if c = 119 then some 6 else if c = 103 then some 7 else none
/-- whether a command that was read can be done -/
def xOk (f : Int → Int) (r : Nat) (a b c : Int) : Prop :=
  if r = 0 then f 0 < 10
  else if r = 1 then (0 ≤ a ∧ a < f 0) ∧ 100 ≤ f (49 + 9 * a + b) - c
  else if r = 2 then (0 ≤ a ∧ a < f 0) ∧ f (49 + 9 * a + b) + c ≤ 900
  else if r = 3 then f 1 < 4
  else if r = 4 then (0 ≤ a ∧ a < f 0) ∧ (0 ≤ b ∧ b < f 1)
  else if r = 5 then 0 ≤ a ∧ a < f 0
  else if r = 6 then 0 ≤ a ∧ a < f 0
  else b < 2 ∧ 100 ≤ c ∧ c ≤ 900 ∨ b = 2 ∧ 0 ≤ c ∧ c ≤ 100 ∨ b = 3 ∧ 0 ≤ c ∧ c ≤ 200
def xF (f : Int → Int) (r : Nat) (a b c d : Int) : Int → Int := if r = 0 then fChair f a b else if r = 1 then fSaw f a b c else if r = 2 then fShim f a b c else if r = 3 then fFloor f a b c d else if r = 4 then fBring f a b c else if r = 5 then fTest f a else if r = 6 then fSit f a b else fBound f a b c
/-- the reference's object while it reads: place, left out, the row -/
def Tx (M0 M : MM) (m : Nat) (p o : Int) (f : Int → Int) : Prop := M m 9 = p ∧ M m 10 = o ∧ M (m + 3) = f ∧ (∀ j : Int, j ≠ 9 → j ≠ 10 → M m j = M0 m j) ∧ ∀ b : Nat, b ≠ m → b ≠ m + 3 → M b = M0 b
theorem Tx.p9 {M0 M : MM} {m : Nat} {p o v : Int} {f : Int → Int} (h : Tx M0 M m p o f) : Tx M0 (wr M m 9 v) m v o f := ⟨wr_iv _ _ _ _, by rw [wr_ii _ _ _ (by decide)]; exact h.2.1, by rw [wr_ne _ _ _ (by omega)]; exact h.2.2.1, fun j h1 h2 => by rw [wr_ii _ _ _ h1]; exact h.2.2.2.1 j h1 h2, fun b h1 h2 => by rw [wr_ne _ _ _ h1]; exact h.2.2.2.2 b h1 h2⟩
theorem Tx.o10 {M0 M : MM} {m : Nat} {p o v : Int} {f : Int → Int} (h : Tx M0 M m p o f) : Tx M0 (wr M m 10 v) m p v f := ⟨by rw [wr_ii _ _ _ (by decide)]; exact h.1, wr_iv _ _ _ _, by rw [wr_ne _ _ _ (by omega)]; exact h.2.2.1, fun j h1 h2 => by rw [wr_ii _ _ _ h2]; exact h.2.2.2.1 j h1 h2, fun b h1 h2 => by rw [wr_ne _ _ _ h1]; exact h.2.2.2.2 b h1 h2⟩
theorem Tx.row {M0 M : MM} {m : Nat} {p o : Int} {f g : Int → Int} (h : Tx M0 M m p o f) : Tx M0 (aset M (m + 3) g) m p o g := ⟨by rw [aset_ne _ _ (by omega)]; exact h.1, by rw [aset_ne _ _ (by omega)]; exact h.2.1, aset_at _ _ _, fun j h1 h2 => by rw [aset_ne _ _ (by omega)]; exact h.2.2.2.1 j h1 h2, fun b h1 h2 => by rw [aset_ne _ _ h2]; exact h.2.2.2.2 b h1 h2⟩
theorem Tx.sz {M0 M : MM} {m : Nat} {p o : Int} {f : Int → Int} (h : Tx M0 M m p o f) : M m 2 = M0 m 2 := h.2.2.2.1 2 (by decide) (by decide)
theorem Tx.tx {M0 M : MM} {m : Nat} {p o : Int} {f : Int → Int} (h : Tx M0 M m p o f) : M (m + 1) = M0 (m + 1) := h.2.2.2.2 (m + 1) (by omega) (by omega)
/-- a text -/
def Txt (t : Int → Int) (sz : Int) : Prop := (0 ≤ sz ∧ sz ≤ 120) ∧ ∀ j : Int, 0 ≤ j → j < sz → 0 ≤ t j ∧ t j ≤ 255
theorem sDg_r {t : Int → Int} {sz p : Int} (h : Txt t sz) (hp : 0 ≤ p) : -48 ≤ sDg t sz p ∧ sDg t sz p ≤ 207 := by
  unfold sDg
  split
  · have := h.2 p hp (by omega)
    omega
  · omega
