/-! what holds of every office -/
def sSiN (f : Int → Int) : Nat → Int
  | 0 => 0
  | n + 1 => sSiN f n + f (48 + 9 * n)
/-- the sitters of all chairs -/
def sSitters (f : Int → Int) : Int := sSiN f (f 0).toNat
theorem stN_cg {f g : Int → Int} : ∀ n : Nat, (∀ i : Int, 0 ≤ i → i < n → g (47 + 9 * i) = f (47 + 9 * i)) → sStN g n = sStN f n
  | 0, _ => rfl
  | n + 1, h => by
    show sStN g n + g (47 + 9 * n) = sStN f n + f (47 + 9 * n)
    rw [stN_cg n (fun i a b => h i a (by omega)), h n (by omega) (by omega)]
theorem siN_cg {f g : Int → Int} : ∀ n : Nat, (∀ i : Int, 0 ≤ i → i < n → g (48 + 9 * i) = f (48 + 9 * i)) → sSiN g n = sSiN f n
  | 0, _ => rfl
  | n + 1, h => by
    show sSiN g n + g (48 + 9 * n) = sSiN f n + f (48 + 9 * n)
    rw [siN_cg n (fun i a b => h i a (by omega)), h n (by omega) (by omega)]
theorem stN_up {f : Int → Int} {c v : Int} (hc : 0 ≤ c) : ∀ n : Nat, sStN (up f (47 + 9 * c) v) n = sStN f n + (if c < n then v - f (47 + 9 * c) else 0)
  | 0 => by rw [if_neg (by omega)]; rfl
  | n + 1 => by
    show sStN (up f (47 + 9 * c) v) n + up f (47 + 9 * c) v (47 + 9 * n) = sStN f n + f (47 + 9 * n) + _
    rw [stN_up hc n]
    by_cases e : c = n
    · subst e
      rw [up_eq, if_neg (by omega), if_pos (by omega)]
      omega
    · rw [up_ne (by omega)]
      by_cases h : c < n
      · rw [if_pos h, if_pos (by omega)]
        omega
      · rw [if_neg h, if_neg (by omega)]
        omega
theorem siN_up {f : Int → Int} {c v : Int} (hc : 0 ≤ c) : ∀ n : Nat, sSiN (up f (48 + 9 * c) v) n = sSiN f n + (if c < n then v - f (48 + 9 * c) else 0)
  | 0 => by rw [if_neg (by omega)]; rfl
  | n + 1 => by
    show sSiN (up f (48 + 9 * c) v) n + up f (48 + 9 * c) v (48 + 9 * n) = sSiN f n + f (48 + 9 * n) + _
    rw [siN_up hc n]
    by_cases e : c = n
    · subst e
      rw [up_eq, if_neg (by omega), if_pos (by omega)]
      omega
    · rw [up_ne (by omega)]
      by_cases h : c < n
      · rw [if_pos h, if_pos (by omega)]
        omega
      · rw [if_neg h, if_neg (by omega)]
        omega
/-- given stamps are there or void; the sitters are the chairs' -/
def Bal (f : Int → Int) : Prop := f 3 = sStamped f + f 4 ∧ f 6 = sSitters f
/-- what is stamped does not fail -/
def Sok (f : Int → Int) : Prop := ∀ c : Int, 0 ≤ c → c < f 0 → f (47 + 9 * c) = 1 → sWhy f c = 0
/-- the counters, after at most t acts -/
def Cnt (t : Int) (f : Int → Int) : Prop := (f 3 ≤ f 2 ∧ 0 ≤ f 4) ∧ (∀ c : Int, 0 ≤ c → c < f 0 → 0 ≤ f (48 + 9 * c)) ∧ (0 ≤ f 2 ∧ f 2 ≤ t) ∧ (0 ≤ f 5 ∧ f 5 ≤ 50 * t) ∧ f 6 ≤ t ∧ (0 ≤ f 9 ∧ f 9 ≤ 3200 * t)
def Gd (t : Int) (f : Int → Int) : Prop := Inv f ∧ Bal f ∧ Sok f ∧ Cnt t f
theorem Bal.cg {f g : Int → Int} (h : Bal f) (e0 : g 0 = f 0) (e3 : g 3 = f 3) (e4 : g 4 = f 4) (e6 : g 6 = f 6) (es : ∀ i : Int, 0 ≤ i → i < f 0 → g (47 + 9 * i) = f (47 + 9 * i)) (et : ∀ i : Int, 0 ≤ i → i < f 0 → g (48 + 9 * i) = f (48 + 9 * i)) : Bal g := by
  obtain ⟨a, b⟩ := h
  unfold Bal sStamped sSitters at *
  rw [e0, e3, e4, e6, stN_cg (f := f) _ (fun i x y => es i x (by omega)), siN_cg (f := f) _ (fun i x y => et i x (by omega))]
  exact ⟨a, b⟩
theorem void_st {f : Int → Int} {c : Int} (hc : 0 ≤ c ∧ c < f 0) : sStamped (fVoid f c) = sStamped f - f (47 + 9 * c) := by
  have e0 : fVoid f c 0 = f 0 := fVoid_at (by decide) (by omega)
  unfold sStamped
  rw [e0, fVoid_1, stN_up hc.1, if_pos (by omega), stN_cg (f := f) (g := up f 4 _) _ (fun i x y => up_ne (by omega)), up_ne (by omega)]
  omega
theorem Bal.void {f : Int → Int} {c : Int} (h : Bal f) (hc : 0 ≤ c ∧ c < f 0) : Bal (fVoid f c) := by
  obtain ⟨a, b⟩ := h
  have e0 : fVoid f c 0 = f 0 := fVoid_at (by decide) (by omega)
  have e4 : fVoid f c 4 = f 4 + f (47 + 9 * c) := by unfold fVoid; rw [up_ne (by omega), up_eq]
  refine ⟨?_, ?_⟩
  · rw [void_st hc, e4, fVoid_at (by decide) (by omega)]
    omega
  · unfold sSitters
    rw [e0, siN_cg (f := f) (g := fVoid f c) _ (fun i x y => fVoid_at (by omega) (by omega)), fVoid_at (by decide) (by omega)]
    exact b
/-- the reason of a chair hangs on its numbers, its floor's, its guild's -/
theorem sWhy_cg {f g : Int → Int} {d : Int} (hq : 0 ≤ f (46 + 9 * d) ∧ f (46 + 9 * d) < 4) (h44 : g (44 + 9 * d) = f (44 + 9 * d)) (h45 : g (45 + 9 * d) = f (45 + 9 * d)) (h46 : g (46 + 9 * d) = f (46 + 9 * d)) (hl : ∀ k : Int, 0 ≤ k → k < 4 → g (49 + 9 * d + k) = f (49 + 9 * d + k)) (hs : ∀ j : Int, 0 ≤ j → j < 4 → g (12 + (4 * f (45 + 9 * d) + j)) = f (12 + (4 * f (45 + 9 * d) + j))) (hb : ∀ j : Int, 0 ≤ j → j < 4 → g (28 + j + 4 * f (44 + 9 * d)) = f (28 + j + 4 * f (44 + 9 * d))) : sWhy g d = sWhy f d := by
  have e : ∀ k : Int, 0 ≤ k → k < 4 → sRe g d k (f (45 + 9 * d)) (f (46 + 9 * d)) = sRe f d k (f (45 + 9 * d)) (f (46 + 9 * d)) := fun k a b => by
    unfold sRe
    rw [hl k a b, hs _ (by omega) (by omega)]
  have l0 : g (49 + 9 * d) = f (49 + 9 * d) := by have := hl 0 (by decide) (by decide); rwa [Int.add_zero] at this
  have l1 : g (50 + 9 * d) = f (50 + 9 * d) := by have := hl 1 (by decide) (by decide); rwa [show 49 + 9 * d + 1 = 50 + 9 * d by omega] at this
  have l2 : g (51 + 9 * d) = f (51 + 9 * d) := by have := hl 2 (by decide) (by decide); rwa [show 49 + 9 * d + 2 = 51 + 9 * d by omega] at this
  have l3 : g (52 + 9 * d) = f (52 + 9 * d) := by have := hl 3 (by decide) (by decide); rwa [show 49 + 9 * d + 3 = 52 + 9 * d by omega] at this
  have b0 := hb 0 (by decide) (by decide)
  have b1 := hb 1 (by decide) (by decide)
  have b2 := hb 2 (by decide) (by decide)
  have b3 := hb 3 (by decide) (by decide)
  rw [show (28 : Int) + 0 = 28 from rfl] at b0
  rw [show (28 : Int) + 1 = 29 from rfl] at b1
  rw [show (28 : Int) + 2 = 30 from rfl] at b2
  rw [show (28 : Int) + 3 = 31 from rfl] at b3
  unfold sWhy sWn sLn sSeat sWob sTilt sLean
  rw [h44, h45, h46, e 0 (by decide) (by decide), e 1 (by decide) (by decide), e 2 (by decide) (by decide), e 3 (by decide) (by decide), l0, l1, l2, l3, b0, b1, b2, b3]
/-- when only counters and stamps change -/
theorem sWhy_ct {f g : Int → Int} (hI : Inv f) {d : Int} (hd : 0 ≤ d ∧ d < f 0) (h : ∀ j : Int, 12 ≤ j → (j < 44 ∨ (j % 9 ≠ 2 ∧ j % 9 ≠ 3)) → g j = f j) : sWhy g d = sWhy f d := by
  obtain ⟨c1, c2, c3, -, -⟩ := hI.2.2.2.2.2.2 d hd.1 hd.2
  have c0 := hI.2.1
  exact sWhy_cg (by omega) (h _ (by omega) (by omega)) (h _ (by omega) (by omega)) (h _ (by omega) (by omega)) (fun k a b => h _ (by omega) (by omega)) (fun j a b => h _ (by omega) (by omega)) (fun j a b => h _ (by omega) (by omega))
theorem Sok.void {f : Int → Int} {c : Int} (hI : Inv f) (h : Sok f) (hc : 0 ≤ c) : Sok (fVoid f c) := by
  intro d a b e
  have e0 : fVoid f c 0 = f 0 := fVoid_at (by decide) (by omega)
  rw [e0] at b
  rw [sWhy_ct hI ⟨a, b⟩ (fun j x y => fVoid_at (by omega) (by omega))]
  by_cases q : d = c
  · subst q
    unfold fVoid at e
    rw [up_eq] at e
    exact absurd e (by decide)
  · rw [fVoid_at (by omega) (by omega)] at e
    exact h d a b e
theorem Inv.fl {f : Int → Int} (hI : Inv f) {c : Int} (hc : 0 ≤ c ∧ c < f 0) : 0 ≤ f (47 + 9 * c) ∧ f (47 + 9 * c) ≤ 1 := (hI.2.2.2.2.2.2 c hc.1 hc.2).2.2.2.1
/-- a leg changes -/
theorem leg_4 {f : Int → Int} {c k b : Int} (hc : 0 ≤ c) (hk : 0 ≤ k) : fLeg f c k b 4 = f 4 + (if b = 0 then 0 else f (47 + 9 * c)) := by
  unfold fLeg
  split
  · rw [up_ne (by omega), Int.add_zero]
  · unfold fVoid
    rw [up_ne (by omega), up_eq, up_ne (by omega), up_ne (by omega)]
theorem leg_47 {f : Int → Int} {c k b : Int} (hc : 0 ≤ c) (hk : 0 ≤ k) : fLeg f c k b (47 + 9 * c) = if b = 0 then f (47 + 9 * c) else 0 := by
  unfold fLeg
  split
  · rw [up_ne (by omega)]
  · unfold fVoid
    rw [up_eq]
theorem Bal.leg {f : Int → Int} {c k b : Int} (h : Bal f) (hc : 0 ≤ c ∧ c < f 0) (hk : 0 ≤ k ∧ k < 4) : Bal (fLeg f c k b) := by
  by_cases q : b = 0
  · subst q; rw [fLeg_0]; exact h
  · rw [fLeg_n q]
    have e0 : up f (49 + 9 * c + k) (f (49 + 9 * c + k) + b) 0 = f 0 := up_ne (by omega)
    refine Bal.void (h.cg e0 (up_ne (by omega)) (up_ne (by omega)) (up_ne (by omega)) (fun i x y => up_ne (by omega)) (fun i x y => up_ne (by omega))) (by rw [e0]; exact hc)
theorem Sok.leg {f : Int → Int} {c k b : Int} (hI : Inv f) (h : Sok f) (hc : 0 ≤ c ∧ c < f 0) (hk : 0 ≤ k ∧ k < 4) : Sok (fLeg f c k b) := by
  by_cases q : b = 0
  · subst q; rw [fLeg_0]; exact h
  · intro d a b1 e
    rw [fLeg_at (by decide) (by omega) (by omega)] at b1
    by_cases qd : d = c
    · subst qd
      rw [leg_47 hc.1 hk.1, if_neg q] at e
      exact absurd e (by decide)
    · rw [fLeg_at (by omega) (by omega) (by omega)] at e
      obtain ⟨c1, c2, c3, -, -⟩ := hI.2.2.2.2.2.2 d a b1
      have c0 := hI.2.1
      rw [sWhy_cg (f := f) (by omega) (fLeg_at (by omega) (by omega) (by omega)) (fLeg_at (by omega) (by omega) (by omega)) (fLeg_at (by omega) (by omega) (by omega)) (fun j x y => fLeg_at (by omega) (by omega) (by omega)) (fun j x y => fLeg_at (by omega) (by omega) (by omega)) (fun j x y => fLeg_at (by omega) (by omega) (by omega))]
      exact h d a b1 e
