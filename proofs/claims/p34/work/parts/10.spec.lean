theorem up_eq (f : Int → Int) (k v : Int) : up f k v k = v := by simp [up]
theorem up_ne {f : Int → Int} {k v j : Int} (h : j ≠ k) : up f k v j = f j := by simp [up, h]
theorem up_if (f : Int → Int) (k v j : Int) : up f k v j = if j = k then v else f j := rfl
/-- the row of a cell, as a whole -/
def aset (M : MM) (a : Nat) (f : Int → Int) : MM := fun b => if b = a then f else M b
theorem aset_at (M : MM) (a : Nat) (f : Int → Int) : aset M a f a = f := by simp [aset]
theorem aset_ne (M : MM) {a b : Nat} (f : Int → Int) (h : b ≠ a) : aset M a f b = M b := by simp [aset, h]
theorem aset_self (M : MM) (a : Nat) : aset M a (M a) = M := by
  funext b
  by_cases h : b = a
  · subst h; simp [aset]
  · simp [aset, h]
theorem aset_aset (M : MM) (a : Nat) (f f' : Int → Int) : aset (aset M a f) a f' = aset M a f' := by
  funext b
  by_cases h : b = a
  · simp [aset, h]
  · simp [aset, h]
theorem wr_aset (M : MM) (a : Nat) (f : Int → Int) (k v : Int) : wr (aset M a f) a k v = aset M a (up f k v) := by
  funext b j
  by_cases h : b = a
  · simp [aset, wr, up, h]
  · simp [aset, wr, h]
theorem wr_self (M : MM) (a : Nat) (k v : Int) : wr M a k v = aset M a (up (M a) k v) := by
  funext b j
  by_cases h : b = a
  · subst h; simp [aset, wr, up]
  · simp [aset, wr, h]
/-! what calls do to the numbers -/
def fVoid (f : Int → Int) (c : Int) : Int → Int := up (up f 4 (f 4 + f (47 + 9 * c))) (47 + 9 * c) 0
def fLeg (f : Int → Int) (c k b : Int) : Int → Int := if b = 0 then up f (49 + 9 * c + k) (f (49 + 9 * c + k) + b) else fVoid (up f (49 + 9 * c + k) (f (49 + 9 * c + k) + b)) c
def fSaw (f : Int → Int) (c k n : Int) : Int → Int := fLeg (up f 7 (f 7 + n)) c k (-n)
def fShim (f : Int → Int) (c k n : Int) : Int → Int := fLeg (up f 8 (f 8 + n)) c k n
def fPaid (f : Int → Int) : Int → Int := up (up f 2 (f 2 + 1)) 5 (f 5 + f 10)
def fTest (f : Int → Int) (c : Int) : Int → Int := if sWhy f c = 0 ∧ f (47 + 9 * c) = 0 then up (up (fPaid f) (47 + 9 * c) 1) 3 (f 3 + 1) else fPaid f
def sBy (f : Int → Int) (c w idle k : Int) : Int := if k = idle then 0 else if w < f (49 + 9 * c + k) - 100 then w else f (49 + 9 * c + k) - 100
def fSitN (f : Int → Int) (c w idle : Int) : Nat → (Int → Int)
  | 0 => f
  | n + 1 => fLeg (fSitN f c w idle n) c n (-(sBy (fSitN f c w idle n) c w idle n))
def sSitN (f : Int → Int) (c w idle : Int) : Nat → Int
  | 0 => 0
  | n + 1 => sSitN f c w idle n + sBy (fSitN f c w idle n) c w idle n
def fSit (f : Int → Int) (c weight : Int) : Int → Int :=
  up (up (up (fSitN f c (weight / f 11) (sIdle f c) 4) 6 (f 6 + 1)) 9 (f 9 + sSitN f c (weight / f 11) (sIdle f c) 4)) (48 + 9 * c) (f (48 + 9 * c) + 1)
def fBndN (f : Int → Int) (g : Int) : Nat → (Int → Int)
  | 0 => f
  | n + 1 => if fBndN f g n (44 + 9 * n) = g ∧ sWhy (fBndN f g n) n > 0 then fVoid (fBndN f g n) n else fBndN f g n
def fBound (f : Int → Int) (g k v : Int) : Int → Int := fBndN (up f (28 + (4 * g + k)) v) g (f 0).toNat
def fLvlN (f : Int → Int) (fl : Int) : Nat → (Int → Int)
  | 0 => f
  | n + 1 => if fLvlN f fl n (45 + 9 * n) = fl then fVoid (fLvlN f fl n) n else fLvlN f fl n
def fLevel (f : Int → Int) (fl k v : Int) : Int → Int := if v = f (12 + (4 * fl + k)) then up f (12 + (4 * fl + k)) v else fLvlN (up f (12 + (4 * fl + k)) v) fl (f 0).toNat
def fBring (f : Int → Int) (c fl q : Int) : Int → Int := up (up (if f (45 + 9 * c) = fl ∧ f (46 + 9 * c) = q then f else fVoid f c) (45 + 9 * c) fl) (46 + 9 * c) q
def fChair (f : Int → Int) (g len : Int) : Int → Int := fun j => if j = 0 then f 0 + 1 else if j = 44 + 9 * f 0 then g else if 45 + 9 * f 0 ≤ j ∧ j < 49 + 9 * f 0 then 0 else if 49 + 9 * f 0 ≤ j ∧ j < 53 + 9 * f 0 then len else f j
def fFloor (f : Int → Int) (a b c d : Int) : Int → Int := fun j => if j = 1 then f 1 + 1 else if j = 12 + 4 * f 1 then a else if j = 13 + 4 * f 1 then b else if j = 14 + 4 * f 1 then c else if j = 15 + 4 * f 1 then d else f j
def fNew : Int → Int := fun j => if j = 1 then 1 else if j = 10 then 5 else if j = 11 then 60 else if 28 ≤ j ∧ j < 44 then (if j % 4 = 0 then 400 else if j % 4 = 1 then 500 else if j % 4 = 2 then 4 else 12) else 0
def sStN (f : Int → Int) : Nat → Int
  | 0 => 0
  | n + 1 => sStN f n + f (47 + 9 * n)
/-- the stamped chairs -/
def sStamped (f : Int → Int) : Int := sStN f (f 0).toNat

theorem Off_p1 {M : MM} {o : Nat} {f : Int → Int} (h : Off M o f) {c v : Int} (hc : 0 ≤ c ∧ c < f 0) : Off (wr M (o + 1) c v) o (up f (44 + 9 * c) v) := by
  obtain ⟨h0, h1, hc9, hh, hl, hv0, hv1, ht⟩ := h
  refine ⟨(by rw [wr_ne _ _ _ (by omega), up_ne (by omega)]; exact h0), (by rw [wr_ne _ _ _ (by omega), up_ne (by omega)]; exact h1), fun c9 b1 b2 => ?_, fun j d1 d2 => ?_, fun j d1 d2 => ?_, ?_, ?_, fun j d1 d2 => ?_⟩
  · rw [up_ne (by omega)] at b2
    have q9 := hc9 c9 b1 b2
    exact ⟨(by
      by_cases e : c9 = c
      · subst e; rw [wr_at, up_eq, up_eq]
      · rw [wr_at, up_ne e, up_ne (by omega)]; exact q9.1),
      (by rw [wr_ne _ _ _ (by omega), up_ne (by omega)]; exact q9.2.1),
      (by rw [wr_ne _ _ _ (by omega), up_ne (by omega)]; exact q9.2.2.1),
      (by rw [wr_ne _ _ _ (by omega), up_ne (by omega)]; exact q9.2.2.2.1),
      (by rw [wr_ne _ _ _ (by omega), up_ne (by omega)]; exact q9.2.2.2.2.1),
      fun k9 d1 d2 => (by rw [wr_ne _ _ _ (by omega), up_ne (by omega)]; exact q9.2.2.2.2.2 k9 d1 d2)⟩
  · rw [wr_ne _ _ _ (by omega), up_ne (by omega)]; exact hh j d1 d2
  · rw [wr_ne _ _ _ (by omega), up_ne (by omega)]; exact hl j d1 d2
  · rw [wr_ne _ _ _ (by omega), up_ne (by omega)]; exact hv0
  · rw [wr_ne _ _ _ (by omega), up_ne (by omega)]; exact hv1
  · rw [wr_ne _ _ _ (by omega), up_ne (by omega)]; exact ht j d1 d2
theorem Off_p2 {M : MM} {o : Nat} {f : Int → Int} (h : Off M o f) {c v : Int} (hc : 0 ≤ c ∧ c < f 0) : Off (wr M (o + 2) c v) o (up f (45 + 9 * c) v) := by
  obtain ⟨h0, h1, hc9, hh, hl, hv0, hv1, ht⟩ := h
  refine ⟨(by rw [wr_ne _ _ _ (by omega), up_ne (by omega)]; exact h0), (by rw [wr_ne _ _ _ (by omega), up_ne (by omega)]; exact h1), fun c9 b1 b2 => ?_, fun j d1 d2 => ?_, fun j d1 d2 => ?_, ?_, ?_, fun j d1 d2 => ?_⟩
  · rw [up_ne (by omega)] at b2
    have q9 := hc9 c9 b1 b2
    exact ⟨(by rw [wr_ne _ _ _ (by omega), up_ne (by omega)]; exact q9.1),
      (by
      by_cases e : c9 = c
      · subst e; rw [wr_at, up_eq, up_eq]
      · rw [wr_at, up_ne e, up_ne (by omega)]; exact q9.2.1),
      (by rw [wr_ne _ _ _ (by omega), up_ne (by omega)]; exact q9.2.2.1),
      (by rw [wr_ne _ _ _ (by omega), up_ne (by omega)]; exact q9.2.2.2.1),
      (by rw [wr_ne _ _ _ (by omega), up_ne (by omega)]; exact q9.2.2.2.2.1),
      fun k9 d1 d2 => (by rw [wr_ne _ _ _ (by omega), up_ne (by omega)]; exact q9.2.2.2.2.2 k9 d1 d2)⟩
  · rw [wr_ne _ _ _ (by omega), up_ne (by omega)]; exact hh j d1 d2
  · rw [wr_ne _ _ _ (by omega), up_ne (by omega)]; exact hl j d1 d2
  · rw [wr_ne _ _ _ (by omega), up_ne (by omega)]; exact hv0
  · rw [wr_ne _ _ _ (by omega), up_ne (by omega)]; exact hv1
  · rw [wr_ne _ _ _ (by omega), up_ne (by omega)]; exact ht j d1 d2
theorem Off_p3 {M : MM} {o : Nat} {f : Int → Int} (h : Off M o f) {c v : Int} (hc : 0 ≤ c ∧ c < f 0) : Off (wr M (o + 3) c v) o (up f (46 + 9 * c) v) := by
  obtain ⟨h0, h1, hc9, hh, hl, hv0, hv1, ht⟩ := h
  refine ⟨(by rw [wr_ne _ _ _ (by omega), up_ne (by omega)]; exact h0), (by rw [wr_ne _ _ _ (by omega), up_ne (by omega)]; exact h1), fun c9 b1 b2 => ?_, fun j d1 d2 => ?_, fun j d1 d2 => ?_, ?_, ?_, fun j d1 d2 => ?_⟩
  · rw [up_ne (by omega)] at b2
    have q9 := hc9 c9 b1 b2
    exact ⟨(by rw [wr_ne _ _ _ (by omega), up_ne (by omega)]; exact q9.1),
      (by rw [wr_ne _ _ _ (by omega), up_ne (by omega)]; exact q9.2.1),
      (by
      by_cases e : c9 = c
      · subst e; rw [wr_at, up_eq, up_eq]
      · rw [wr_at, up_ne e, up_ne (by omega)]; exact q9.2.2.1),
      (by rw [wr_ne _ _ _ (by omega), up_ne (by omega)]; exact q9.2.2.2.1),
      (by rw [wr_ne _ _ _ (by omega), up_ne (by omega)]; exact q9.2.2.2.2.1),
      fun k9 d1 d2 => (by rw [wr_ne _ _ _ (by omega), up_ne (by omega)]; exact q9.2.2.2.2.2 k9 d1 d2)⟩
  · rw [wr_ne _ _ _ (by omega), up_ne (by omega)]; exact hh j d1 d2
  · rw [wr_ne _ _ _ (by omega), up_ne (by omega)]; exact hl j d1 d2
  · rw [wr_ne _ _ _ (by omega), up_ne (by omega)]; exact hv0
  · rw [wr_ne _ _ _ (by omega), up_ne (by omega)]; exact hv1
  · rw [wr_ne _ _ _ (by omega), up_ne (by omega)]; exact ht j d1 d2
theorem Off_p4 {M : MM} {o : Nat} {f : Int → Int} (h : Off M o f) {c v : Int} (hc : 0 ≤ c ∧ c < f 0) : Off (wr M (o + 4) c v) o (up f (47 + 9 * c) v) := by
  obtain ⟨h0, h1, hc9, hh, hl, hv0, hv1, ht⟩ := h
  refine ⟨(by rw [wr_ne _ _ _ (by omega), up_ne (by omega)]; exact h0), (by rw [wr_ne _ _ _ (by omega), up_ne (by omega)]; exact h1), fun c9 b1 b2 => ?_, fun j d1 d2 => ?_, fun j d1 d2 => ?_, ?_, ?_, fun j d1 d2 => ?_⟩
  · rw [up_ne (by omega)] at b2
    have q9 := hc9 c9 b1 b2
    exact ⟨(by rw [wr_ne _ _ _ (by omega), up_ne (by omega)]; exact q9.1),
      (by rw [wr_ne _ _ _ (by omega), up_ne (by omega)]; exact q9.2.1),
      (by rw [wr_ne _ _ _ (by omega), up_ne (by omega)]; exact q9.2.2.1),
      (by
      by_cases e : c9 = c
      · subst e; rw [wr_at, up_eq, up_eq]
      · rw [wr_at, up_ne e, up_ne (by omega)]; exact q9.2.2.2.1),
      (by rw [wr_ne _ _ _ (by omega), up_ne (by omega)]; exact q9.2.2.2.2.1),
      fun k9 d1 d2 => (by rw [wr_ne _ _ _ (by omega), up_ne (by omega)]; exact q9.2.2.2.2.2 k9 d1 d2)⟩
  · rw [wr_ne _ _ _ (by omega), up_ne (by omega)]; exact hh j d1 d2
  · rw [wr_ne _ _ _ (by omega), up_ne (by omega)]; exact hl j d1 d2
  · rw [wr_ne _ _ _ (by omega), up_ne (by omega)]; exact hv0
  · rw [wr_ne _ _ _ (by omega), up_ne (by omega)]; exact hv1
  · rw [wr_ne _ _ _ (by omega), up_ne (by omega)]; exact ht j d1 d2
theorem Off_p5 {M : MM} {o : Nat} {f : Int → Int} (h : Off M o f) {c v : Int} (hc : 0 ≤ c ∧ c < f 0) : Off (wr M (o + 5) c v) o (up f (48 + 9 * c) v) := by
  obtain ⟨h0, h1, hc9, hh, hl, hv0, hv1, ht⟩ := h
  refine ⟨(by rw [wr_ne _ _ _ (by omega), up_ne (by omega)]; exact h0), (by rw [wr_ne _ _ _ (by omega), up_ne (by omega)]; exact h1), fun c9 b1 b2 => ?_, fun j d1 d2 => ?_, fun j d1 d2 => ?_, ?_, ?_, fun j d1 d2 => ?_⟩
  · rw [up_ne (by omega)] at b2
    have q9 := hc9 c9 b1 b2
    exact ⟨(by rw [wr_ne _ _ _ (by omega), up_ne (by omega)]; exact q9.1),
      (by rw [wr_ne _ _ _ (by omega), up_ne (by omega)]; exact q9.2.1),
      (by rw [wr_ne _ _ _ (by omega), up_ne (by omega)]; exact q9.2.2.1),
      (by rw [wr_ne _ _ _ (by omega), up_ne (by omega)]; exact q9.2.2.2.1),
      (by
      by_cases e : c9 = c
      · subst e; rw [wr_at, up_eq, up_eq]
      · rw [wr_at, up_ne e, up_ne (by omega)]; exact q9.2.2.2.2.1),
      fun k9 d1 d2 => (by rw [wr_ne _ _ _ (by omega), up_ne (by omega)]; exact q9.2.2.2.2.2 k9 d1 d2)⟩
  · rw [wr_ne _ _ _ (by omega), up_ne (by omega)]; exact hh j d1 d2
  · rw [wr_ne _ _ _ (by omega), up_ne (by omega)]; exact hl j d1 d2
  · rw [wr_ne _ _ _ (by omega), up_ne (by omega)]; exact hv0
  · rw [wr_ne _ _ _ (by omega), up_ne (by omega)]; exact hv1
  · rw [wr_ne _ _ _ (by omega), up_ne (by omega)]; exact ht j d1 d2
theorem Off_p6 {M : MM} {o : Nat} {f : Int → Int} (h : Off M o f) {c k v : Int} (hc : 0 ≤ c ∧ c < f 0) (hk : 0 ≤ k ∧ k < 4) : Off (wr M (o + 6) (4 * c + k) v) o (up f (49 + 9 * c + k) v) := by
  obtain ⟨h0, h1, hc9, hh, hl, hv0, hv1, ht⟩ := h
  refine ⟨(by rw [wr_ne _ _ _ (by omega), up_ne (by omega)]; exact h0), (by rw [wr_ne _ _ _ (by omega), up_ne (by omega)]; exact h1), fun c9 b1 b2 => ?_, fun j d1 d2 => ?_, fun j d1 d2 => ?_, ?_, ?_, fun j d1 d2 => ?_⟩
  · rw [up_ne (by omega)] at b2
    have q9 := hc9 c9 b1 b2
    exact ⟨(by rw [wr_ne _ _ _ (by omega), up_ne (by omega)]; exact q9.1),
      (by rw [wr_ne _ _ _ (by omega), up_ne (by omega)]; exact q9.2.1),
      (by rw [wr_ne _ _ _ (by omega), up_ne (by omega)]; exact q9.2.2.1),
      (by rw [wr_ne _ _ _ (by omega), up_ne (by omega)]; exact q9.2.2.2.1),
      (by rw [wr_ne _ _ _ (by omega), up_ne (by omega)]; exact q9.2.2.2.2.1),
      fun k9 d1 d2 => (by
      by_cases e : 4 * c9 + k9 = 4 * c + k
      · rw [wr_at, e, up_eq, show 49 + 9 * c9 + k9 = 49 + 9 * c + k by omega, up_eq]
      · rw [wr_at, up_ne e, up_ne (by omega)]; exact q9.2.2.2.2.2 k9 d1 d2)⟩
  · rw [wr_ne _ _ _ (by omega), up_ne (by omega)]; exact hh j d1 d2
  · rw [wr_ne _ _ _ (by omega), up_ne (by omega)]; exact hl j d1 d2
  · rw [wr_ne _ _ _ (by omega), up_ne (by omega)]; exact hv0
  · rw [wr_ne _ _ _ (by omega), up_ne (by omega)]; exact hv1
  · rw [wr_ne _ _ _ (by omega), up_ne (by omega)]; exact ht j d1 d2
theorem Off_p7 {M : MM} {o : Nat} {f : Int → Int} (h : Off M o f) {i v : Int} (hi : 0 ≤ i ∧ i < 16) : Off (wr M (o + 7) i v) o (up f (12 + i) v) := by
  obtain ⟨h0, h1, hc9, hh, hl, hv0, hv1, ht⟩ := h
  refine ⟨(by rw [wr_ne _ _ _ (by omega), up_ne (by omega)]; exact h0), (by rw [wr_ne _ _ _ (by omega), up_ne (by omega)]; exact h1), fun c9 b1 b2 => ?_, fun j d1 d2 => ?_, fun j d1 d2 => ?_, ?_, ?_, fun j d1 d2 => ?_⟩
  · rw [up_ne (by omega)] at b2
    have q9 := hc9 c9 b1 b2
    exact ⟨(by rw [wr_ne _ _ _ (by omega), up_ne (by omega)]; exact q9.1),
      (by rw [wr_ne _ _ _ (by omega), up_ne (by omega)]; exact q9.2.1),
      (by rw [wr_ne _ _ _ (by omega), up_ne (by omega)]; exact q9.2.2.1),
      (by rw [wr_ne _ _ _ (by omega), up_ne (by omega)]; exact q9.2.2.2.1),
      (by rw [wr_ne _ _ _ (by omega), up_ne (by omega)]; exact q9.2.2.2.2.1),
      fun k9 d1 d2 => (by rw [wr_ne _ _ _ (by omega), up_ne (by omega)]; exact q9.2.2.2.2.2 k9 d1 d2)⟩
  · by_cases e : j = i
    · subst e; rw [wr_at, up_eq, up_eq]
    · rw [wr_at, up_ne e, up_ne (by omega)]; exact hh j d1 d2
  · rw [wr_ne _ _ _ (by omega), up_ne (by omega)]; exact hl j d1 d2
  · rw [wr_ne _ _ _ (by omega), up_ne (by omega)]; exact hv0
  · rw [wr_ne _ _ _ (by omega), up_ne (by omega)]; exact hv1
  · rw [wr_ne _ _ _ (by omega), up_ne (by omega)]; exact ht j d1 d2
theorem Off_p8 {M : MM} {o : Nat} {f : Int → Int} (h : Off M o f) {i v : Int} (hi : 0 ≤ i ∧ i < 16) : Off (wr M (o + 8) i v) o (up f (28 + i) v) := by
  obtain ⟨h0, h1, hc9, hh, hl, hv0, hv1, ht⟩ := h
  refine ⟨(by rw [wr_ne _ _ _ (by omega), up_ne (by omega)]; exact h0), (by rw [wr_ne _ _ _ (by omega), up_ne (by omega)]; exact h1), fun c9 b1 b2 => ?_, fun j d1 d2 => ?_, fun j d1 d2 => ?_, ?_, ?_, fun j d1 d2 => ?_⟩
  · rw [up_ne (by omega)] at b2
    have q9 := hc9 c9 b1 b2
    exact ⟨(by rw [wr_ne _ _ _ (by omega), up_ne (by omega)]; exact q9.1),
      (by rw [wr_ne _ _ _ (by omega), up_ne (by omega)]; exact q9.2.1),
      (by rw [wr_ne _ _ _ (by omega), up_ne (by omega)]; exact q9.2.2.1),
      (by rw [wr_ne _ _ _ (by omega), up_ne (by omega)]; exact q9.2.2.2.1),
      (by rw [wr_ne _ _ _ (by omega), up_ne (by omega)]; exact q9.2.2.2.2.1),
      fun k9 d1 d2 => (by rw [wr_ne _ _ _ (by omega), up_ne (by omega)]; exact q9.2.2.2.2.2 k9 d1 d2)⟩
  · rw [wr_ne _ _ _ (by omega), up_ne (by omega)]; exact hh j d1 d2
  · by_cases e : j = i
    · subst e; rw [wr_at, up_eq, up_eq]
    · rw [wr_at, up_ne e, up_ne (by omega)]; exact hl j d1 d2
  · rw [wr_ne _ _ _ (by omega), up_ne (by omega)]; exact hv0
  · rw [wr_ne _ _ _ (by omega), up_ne (by omega)]; exact hv1
  · rw [wr_ne _ _ _ (by omega), up_ne (by omega)]; exact ht j d1 d2
theorem Off_p9 {M : MM} {o : Nat} {f : Int → Int} (h : Off M o f) {i v : Int} (hi : 0 ≤ i ∧ i < 2) : Off (wr M (o + 9) i v) o (up f (10 + i) v) := by
  obtain ⟨h0, h1, hc9, hh, hl, hv0, hv1, ht⟩ := h
  refine ⟨(by rw [wr_ne _ _ _ (by omega), up_ne (by omega)]; exact h0), (by rw [wr_ne _ _ _ (by omega), up_ne (by omega)]; exact h1), fun c9 b1 b2 => ?_, fun j d1 d2 => ?_, fun j d1 d2 => ?_, ?_, ?_, fun j d1 d2 => ?_⟩
  · rw [up_ne (by omega)] at b2
    have q9 := hc9 c9 b1 b2
    exact ⟨(by rw [wr_ne _ _ _ (by omega), up_ne (by omega)]; exact q9.1),
      (by rw [wr_ne _ _ _ (by omega), up_ne (by omega)]; exact q9.2.1),
      (by rw [wr_ne _ _ _ (by omega), up_ne (by omega)]; exact q9.2.2.1),
      (by rw [wr_ne _ _ _ (by omega), up_ne (by omega)]; exact q9.2.2.2.1),
      (by rw [wr_ne _ _ _ (by omega), up_ne (by omega)]; exact q9.2.2.2.2.1),
      fun k9 d1 d2 => (by rw [wr_ne _ _ _ (by omega), up_ne (by omega)]; exact q9.2.2.2.2.2 k9 d1 d2)⟩
  · rw [wr_ne _ _ _ (by omega), up_ne (by omega)]; exact hh j d1 d2
  · rw [wr_ne _ _ _ (by omega), up_ne (by omega)]; exact hl j d1 d2
  · by_cases e : (0 : Int) = i
    · subst e; rw [wr_at, up_eq]; exact (up_eq f 10 v).symm
    · rw [wr_at, up_ne e, up_ne (by omega)]; exact hv0
  · by_cases e : (1 : Int) = i
    · subst e; rw [wr_at, up_eq]; exact (up_eq f 11 v).symm
    · rw [wr_at, up_ne e, up_ne (by omega)]; exact hv1
  · rw [wr_ne _ _ _ (by omega), up_ne (by omega)]; exact ht j d1 d2
theorem Off_p10 {M : MM} {o : Nat} {f : Int → Int} (h : Off M o f) {i v : Int} (hi : 3 ≤ i ∧ i ≤ 10) : Off (wr M (o + 10) i v) o (up f (i - 1) v) := by
  obtain ⟨h0, h1, hc9, hh, hl, hv0, hv1, ht⟩ := h
  refine ⟨(by rw [wr_ne _ _ _ (by omega), up_ne (by omega)]; exact h0), (by rw [wr_ne _ _ _ (by omega), up_ne (by omega)]; exact h1), fun c9 b1 b2 => ?_, fun j d1 d2 => ?_, fun j d1 d2 => ?_, ?_, ?_, fun j d1 d2 => ?_⟩
  · rw [up_ne (by omega)] at b2
    have q9 := hc9 c9 b1 b2
    exact ⟨(by rw [wr_ne _ _ _ (by omega), up_ne (by omega)]; exact q9.1),
      (by rw [wr_ne _ _ _ (by omega), up_ne (by omega)]; exact q9.2.1),
      (by rw [wr_ne _ _ _ (by omega), up_ne (by omega)]; exact q9.2.2.1),
      (by rw [wr_ne _ _ _ (by omega), up_ne (by omega)]; exact q9.2.2.2.1),
      (by rw [wr_ne _ _ _ (by omega), up_ne (by omega)]; exact q9.2.2.2.2.1),
      fun k9 d1 d2 => (by rw [wr_ne _ _ _ (by omega), up_ne (by omega)]; exact q9.2.2.2.2.2 k9 d1 d2)⟩
  · rw [wr_ne _ _ _ (by omega), up_ne (by omega)]; exact hh j d1 d2
  · rw [wr_ne _ _ _ (by omega), up_ne (by omega)]; exact hl j d1 d2
  · rw [wr_ne _ _ _ (by omega), up_ne (by omega)]; exact hv0
  · rw [wr_ne _ _ _ (by omega), up_ne (by omega)]; exact hv1
  · by_cases e : j = i
    · subst e; rw [wr_at, up_eq, up_eq]
    · rw [wr_at, up_ne e, up_ne (by omega)]; exact ht j d1 d2
/-- what stands outside of the office at o stays -/
def Oth (M M1 : MM) (o : Nat) : Prop := ∀ b : Nat, (b < o ∨ o + 10 < b) → M1 b = M b
theorem Oth.rf {M : MM} {o : Nat} : Oth M M o := fun _ _ => rfl
theorem Oth.tr {M M1 M2 : MM} {o : Nat} (h : Oth M M1 o) (h2 : Oth M1 M2 o) : Oth M M2 o := fun b hb => (h2 b hb).trans (h b hb)
theorem Oth.wr {M : MM} {o a : Nat} {k v : Int} (h : o ≤ a ∧ a ≤ o + 10) : Oth M (wr M a k v) o := fun b hb => wr_ne M k v (by omega)
/-- numbers that agree where an office looks -/
def Eqf (f f' : Int → Int) : Prop := ∀ j : Int, 0 ≤ j → f j = f' j
theorem Off.cg {M : MM} {o : Nat} {f f' : Int → Int} (h : Off M o f) (e : Eqf f f') : Off M o f' := by
  obtain ⟨h0, h1, hc9, hh, hl, hv0, hv1, ht⟩ := h
  have e0 := e 0 (by omega)
  refine ⟨h0.trans e0, h1.trans (e 1 (by omega)), fun c b1 b2 => ?_, fun j d1 d2 => (hh j d1 d2).trans (e _ (by omega)), fun j d1 d2 => (hl j d1 d2).trans (e _ (by omega)), hv0.trans (e _ (by omega)), hv1.trans (e _ (by omega)), fun j d1 d2 => (ht j d1 d2).trans (e _ (by omega))⟩
  obtain ⟨q1, q2, q3, q4, q5, q6⟩ := hc9 c b1 (by omega)
  exact ⟨q1.trans (e _ (by omega)), q2.trans (e _ (by omega)), q3.trans (e _ (by omega)), q4.trans (e _ (by omega)), q5.trans (e _ (by omega)), fun k d1 d2 => (q6 k d1 d2).trans (e _ (by omega))⟩
section CM
variable {D : DD} {Λ : LY} {l : Launch} {M : MM} {y : MethodName} {cc : ByteArray} {nL : Nat} {ret : FieldType} {rm : Room} {As : List Value}
theorem CI.mono {Ψ Ψ' : Int → MM → Prop} (h : CI l y cc nL ret rm As D Λ M Ψ) (hm : ∀ z M1, Ψ z M1 → Ψ' z M1) : CI l y cc nL ret rm As D Λ M Ψ' := fun sz =>
  MetFree.mono (h sz) (fun _ _ h => h) (fun _ _ _ _ _ h => h) (fun a s o t _ hq => by
    obtain ⟨⟨⟨r, u, e1, ⟨z, e2, hz⟩, hB⟩, hF⟩, hL⟩ := hq
    exact ⟨⟨⟨r, u, e1, ⟨z, e2, hm z u hz⟩, hB⟩, hF⟩, hL⟩)
theorem CV.mono {Ψ Ψ' : MM → Prop} (h : CV l y cc nL rm As D Λ M Ψ) (hm : ∀ M1, Ψ M1 → Ψ' M1) : CV l y cc nL rm As D Λ M Ψ' := fun sz =>
  MetFree.mono (h sz) (fun _ _ h => h) (fun _ _ _ _ _ h => h) (fun a s o t _ hq => by
    obtain ⟨⟨⟨u, e1, hz, hB⟩, hF⟩, hL⟩ := hq
    exact ⟨⟨⟨u, e1, hm u hz, hB⟩, hF⟩, hL⟩)
end CM
