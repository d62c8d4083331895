theorem Inv.up1 {f : Int → Int} {i v : Int} (hI : Inv f) (h0 : i ≠ 0) (h1 : i ≠ 1) (h10 : i = 10 → 0 ≤ v ∧ v ≤ 50) (h11 : i = 11 → 1 ≤ v ∧ v ≤ 200) (hs : ∀ j : Int, 0 ≤ j → j < 16 → i = 12 + j → 0 ≤ v ∧ v ≤ 50)
    (hb : ∀ g : Int, 0 ≤ g → g < 4 → (i = 28 + 4 * g → 100 ≤ v ∧ v ≤ 900) ∧ (i = 29 + 4 * g → 100 ≤ v ∧ v ≤ 900) ∧ (i = 30 + 4 * g → 0 ≤ v ∧ v ≤ 100) ∧ (i = 31 + 4 * g → 0 ≤ v ∧ v ≤ 200))
    (hc : ∀ c : Int, 0 ≤ c → c < f 0 → (i = 44 + 9 * c → 0 ≤ v ∧ v ≤ 3) ∧ (i = 45 + 9 * c → 0 ≤ v ∧ v < f 1) ∧ (i = 46 + 9 * c → 0 ≤ v ∧ v ≤ 3) ∧ (i = 47 + 9 * c → 0 ≤ v ∧ v ≤ 1) ∧ ∀ k : Int, 0 ≤ k → k < 4 → i = 49 + 9 * c + k → 100 ≤ v ∧ v ≤ 900) : Inv (up f i v) := by
  obtain ⟨i0, i1, i2, i3, i4, i5, i6⟩ := hI
  have key : ∀ (j : Int) (P : Int → Prop), (i = j → P v) → P (f j) → P (up f i v j) := by
    intro j P a b
    by_cases e : j = i
    · subst e; rw [up_eq]; exact a rfl
    · rw [up_ne e]; exact b
  refine ⟨?_, ?_, key 10 (fun x => 0 ≤ x ∧ x ≤ 50) h10 i2, key 11 (fun x => 1 ≤ x ∧ x ≤ 200) h11 i3, fun j a b => key _ (fun x => 0 ≤ x ∧ x ≤ 50) (hs j a b) (i4 j a b), fun g a b => ?_, fun c a b => ?_⟩
  · rw [up_ne (Ne.symm h0)]; exact i0
  · rw [up_ne (Ne.symm h1)]; exact i1
  · obtain ⟨q1, q2, q3, q4⟩ := hb g a b
    obtain ⟨r1, r2, r3, r4⟩ := i5 g a b
    exact ⟨key _ (fun x => 100 ≤ x ∧ x ≤ 900) q1 r1, key _ (fun x => 100 ≤ x ∧ x ≤ 900) q2 r2, key _ (fun x => 0 ≤ x ∧ x ≤ 100) q3 r3, key _ (fun x => 0 ≤ x ∧ x ≤ 200) q4 r4⟩
  · rw [up_ne (Ne.symm h0)] at b
    obtain ⟨q1, q2, q3, q4, q5⟩ := hc c a b
    obtain ⟨r1, r2, r3, r4, r5⟩ := i6 c a b
    exact ⟨key _ (fun x => 0 ≤ x ∧ x ≤ 3) q1 r1, by rw [up_ne (Ne.symm h1)]; exact key _ (fun x => 0 ≤ x ∧ x < f 1) q2 r2, key _ (fun x => 0 ≤ x ∧ x ≤ 3) q3 r3, key _ (fun x => 0 ≤ x ∧ x ≤ 1) q4 r4, fun k d e => key _ (fun x => 100 ≤ x ∧ x ≤ 900) (q5 k d e) (r5 k d e)⟩
theorem Inv_cnt {f : Int → Int} {i v : Int} (hI : Inv f) (hi : 2 ≤ i ∧ i ≤ 9) : Inv (up f (i) v) := by
  have h0 := hI.1
  have h1 := hI.2.1
  exact hI.up1 (by omega) (by omega) (by omega) (by omega) (fun j _ _ _ => by omega) (fun g9 _ _ => ⟨by omega, by omega, by omega, by omega⟩) (fun c9 _ _ => ⟨by omega, by omega, by omega, by omega, fun k9 _ _ _ => by omega⟩)
theorem Inv_stamp {f : Int → Int} {c v : Int} (hI : Inv f) (hc : 0 ≤ c) (hv : 0 ≤ v ∧ v ≤ 1) : Inv (up f (47 + 9 * c) v) := by
  have h0 := hI.1
  have h1 := hI.2.1
  exact hI.up1 (by omega) (by omega) (by omega) (by omega) (fun j _ _ _ => by omega) (fun g9 _ _ => ⟨by omega, by omega, by omega, by omega⟩) (fun c9 _ _ => ⟨by omega, by omega, by omega, by omega, fun k9 _ _ _ => by omega⟩)
theorem Inv_own {f : Int → Int} {c v : Int} (hI : Inv f) (hc : 0 ≤ c) : Inv (up f (48 + 9 * c) v) := by
  have h0 := hI.1
  have h1 := hI.2.1
  exact hI.up1 (by omega) (by omega) (by omega) (by omega) (fun j _ _ _ => by omega) (fun g9 _ _ => ⟨by omega, by omega, by omega, by omega⟩) (fun c9 _ _ => ⟨by omega, by omega, by omega, by omega, fun k9 _ _ _ => by omega⟩)
theorem Inv_len {f : Int → Int} {c k v : Int} (hI : Inv f) (hc : 0 ≤ c) (hk : 0 ≤ k ∧ k < 4) (hv : 100 ≤ v ∧ v ≤ 900) : Inv (up f (49 + 9 * c + k) v) := by
  have h0 := hI.1
  have h1 := hI.2.1
  exact hI.up1 (by omega) (by omega) (by omega) (by omega) (fun j _ _ _ => by omega) (fun g9 _ _ => ⟨by omega, by omega, by omega, by omega⟩) (fun c9 _ _ => ⟨by omega, by omega, by omega, by omega, fun k9 _ _ _ => by omega⟩)
theorem Inv_under {f : Int → Int} {c v : Int} (hI : Inv f) (hc : 0 ≤ c) (hv : 0 ≤ v ∧ v < f 1) : Inv (up f (45 + 9 * c) v) := by
  have h0 := hI.1
  have h1 := hI.2.1
  exact hI.up1 (by omega) (by omega) (by omega) (by omega) (fun j _ _ _ => by omega) (fun g9 _ _ => ⟨by omega, by omega, by omega, by omega⟩) (fun c9 _ _ => ⟨by omega, by omega, by omega, by omega, fun k9 _ _ _ => by omega⟩)
theorem Inv_quart {f : Int → Int} {c v : Int} (hI : Inv f) (hc : 0 ≤ c) (hv : 0 ≤ v ∧ v ≤ 3) : Inv (up f (46 + 9 * c) v) := by
  have h0 := hI.1
  have h1 := hI.2.1
  exact hI.up1 (by omega) (by omega) (by omega) (by omega) (fun j _ _ _ => by omega) (fun g9 _ _ => ⟨by omega, by omega, by omega, by omega⟩) (fun c9 _ _ => ⟨by omega, by omega, by omega, by omega, fun k9 _ _ _ => by omega⟩)
theorem Inv_spot {f : Int → Int} {i v : Int} (hI : Inv f) (hi : 0 ≤ i ∧ i < 16) (hv : 0 ≤ v ∧ v ≤ 50) : Inv (up f (12 + i) v) := by
  have h0 := hI.1
  have h1 := hI.2.1
  exact hI.up1 (by omega) (by omega) (by omega) (by omega) (fun j _ _ _ => by omega) (fun g9 _ _ => ⟨by omega, by omega, by omega, by omega⟩) (fun c9 _ _ => ⟨by omega, by omega, by omega, by omega, fun k9 _ _ _ => by omega⟩)
theorem Inv_lim {f : Int → Int} {gu k v : Int} (hI : Inv f) (hg : 0 ≤ gu ∧ gu < 4) (hk : 0 ≤ k ∧ k < 4) (hv : (k < 2 → 100 ≤ v ∧ v ≤ 900) ∧ (k = 2 → 0 ≤ v ∧ v ≤ 100) ∧ (k = 3 → 0 ≤ v ∧ v ≤ 200)) : Inv (up f (28 + (4 * gu + k)) v) := by
  have h0 := hI.1
  have h1 := hI.2.1
  exact hI.up1 (by omega) (by omega) (by omega) (by omega) (fun j _ _ _ => by omega) (fun g9 _ _ => ⟨by omega, by omega, by omega, by omega⟩) (fun c9 _ _ => ⟨by omega, by omega, by omega, by omega, fun k9 _ _ _ => by omega⟩)
theorem Inv_set {f : Int → Int} {i v : Int} (hI : Inv f) (hv : (i = 0 ∧ 0 ≤ v ∧ v ≤ 50) ∨ (i = 1 ∧ 1 ≤ v ∧ v ≤ 200)) : Inv (up f (10 + i) v) := by
  have h0 := hI.1
  have h1 := hI.2.1
  exact hI.up1 (by omega) (by omega) (by omega) (by omega) (fun j _ _ _ => by omega) (fun g9 _ _ => ⟨by omega, by omega, by omega, by omega⟩) (fun c9 _ _ => ⟨by omega, by omega, by omega, by omega, fun k9 _ _ _ => by omega⟩)
theorem up_comm (f : Int → Int) {a b : Int} (x y : Int) (h : a ≠ b) : up (up f a x) b y = up (up f b y) a x := by
  funext j
  simp only [up_if]
  by_cases h1 : j = a
  · have h2 : ¬ j = b := fun e => h (h1.symm.trans e)
    rw [if_neg h2, if_pos h1, if_pos h1]
  · by_cases h2 : j = b
    · rw [if_pos h2, if_neg h1, if_pos h2]
    · rw [if_neg h2, if_neg h1, if_neg h1, if_neg h2]
theorem up_up (f : Int → Int) (a x y : Int) : up (up f a x) a y = up f a y := by
  funext j
  simp only [up_if]
  by_cases h1 : j = a
  · rw [if_pos h1, if_pos h1]
  · rw [if_neg h1, if_neg h1]; rw [if_neg h1]
theorem up_self (f : Int → Int) {a x : Int} (h : x = f a) : up f a x = f := by
  funext j
  simp only [up_if]
  by_cases h1 : j = a
  · rw [if_pos h1, h, h1]
  · rw [if_neg h1]
theorem fVoid_0 {f : Int → Int} {c : Int} (h : f (47 + 9 * c) = 0) (hc : 0 ≤ c) : fVoid f c = f := by
  unfold fVoid
  rw [up_self f (by omega), up_self f h.symm]
theorem fVoid_1 {f : Int → Int} {c : Int} : fVoid f c = up (up f 4 (f 4 + f (47 + 9 * c))) (47 + 9 * c) 0 := rfl
theorem fVoid_at {f : Int → Int} {c j : Int} (h : j ≠ 4) (h2 : j ≠ 47 + 9 * c) : fVoid f c j = f j := by
  unfold fVoid
  rw [up_ne h2, up_ne h]
theorem Inv_void {f : Int → Int} {c : Int} (hI : Inv f) (hc : 0 ≤ c) : Inv (fVoid f c) := Inv_stamp (Inv_cnt hI (by decide)) hc (by decide)
theorem fLeg_at {f : Int → Int} {c k b j : Int} (h : j ≠ 4) (h2 : j ≠ 47 + 9 * c) (h3 : j ≠ 49 + 9 * c + k) : fLeg f c k b j = f j := by
  unfold fLeg
  split
  · rw [up_ne h3]
  · rw [fVoid_at h h2, up_ne h3]
theorem fLeg_len {f : Int → Int} {c k b : Int} (hc : 0 ≤ c) (hk : 0 ≤ k) : fLeg f c k b (49 + 9 * c + k) = f (49 + 9 * c + k) + b := by
  unfold fLeg
  split
  · rw [up_eq]
  · rw [fVoid_at (by omega) (by omega), up_eq]
theorem Inv_leg {f : Int → Int} {c k b : Int} (hI : Inv f) (hc : 0 ≤ c) (hk : 0 ≤ k ∧ k < 4) (hv : 100 ≤ f (49 + 9 * c + k) + b ∧ f (49 + 9 * c + k) + b ≤ 900) : Inv (fLeg f c k b) := by
  unfold fLeg
  split
  · exact Inv_len hI hc hk hv
  · exact Inv_void (Inv_len hI hc hk hv) hc
theorem Inv_saw {f : Int → Int} {c k n : Int} (hI : Inv f) (hc : 0 ≤ c) (hk : 0 ≤ k ∧ k < 4) (hv : 100 ≤ f (49 + 9 * c + k) - n ∧ f (49 + 9 * c + k) - n ≤ 900) : Inv (fSaw f c k n) := by
  unfold fSaw
  refine Inv_leg (Inv_cnt hI (by decide)) hc hk ?_
  rw [up_ne (by omega)]
  omega
theorem Inv_shim {f : Int → Int} {c k n : Int} (hI : Inv f) (hc : 0 ≤ c) (hk : 0 ≤ k ∧ k < 4) (hv : 100 ≤ f (49 + 9 * c + k) + n ∧ f (49 + 9 * c + k) + n ≤ 900) : Inv (fShim f c k n) := by
  unfold fShim
  refine Inv_leg (Inv_cnt hI (by decide)) hc hk ?_
  rw [up_ne (by omega)]
  omega
theorem Inv_paid {f : Int → Int} (hI : Inv f) : Inv (fPaid f) := Inv_cnt (Inv_cnt hI (by decide)) (by decide)
theorem Inv_test {f : Int → Int} {c : Int} (hI : Inv f) (hc : 0 ≤ c) : Inv (fTest f c) := by
  unfold fTest
  split
  · exact Inv_cnt (Inv_stamp (Inv_paid hI) hc (by decide)) (by decide)
  · exact Inv_paid hI
theorem sBy_r {f : Int → Int} {c w idle k : Int} (hI : Inv f) (hc : 0 ≤ c ∧ c < f 0) (hk : 0 ≤ k ∧ k < 4) (hw : 0 ≤ w) : 0 ≤ sBy f c w idle k ∧ sBy f c w idle k ≤ f (49 + 9 * c + k) - 100 ∧ sBy f c w idle k ≤ 800 := by
  have h := (hI.2.2.2.2.2.2 c hc.1 hc.2).2.2.2.2 k hk.1 hk.2
  unfold sBy
  split
  · omega
  · split <;> omega
theorem sitN {f : Int → Int} {c w idle : Int} (hI : Inv f) (hc : 0 ≤ c ∧ c < f 0) (hw : 0 ≤ w) : ∀ n : Nat, n ≤ 4 → Inv (fSitN f c w idle n) ∧ (∀ j : Int, j ≠ 4 → j ≠ 47 + 9 * c → (j < 49 + 9 * c ∨ 49 + 9 * c + n ≤ j) → fSitN f c w idle n j = f j) ∧ 0 ≤ sSitN f c w idle n ∧ sSitN f c w idle n ≤ 800 * n := by
  intro n
  induction n with
  | zero => intro _; exact ⟨hI, fun j _ _ _ => rfl, by simp [sSitN], by simp [sSitN]⟩
  | succ n ih =>
    intro hn
    obtain ⟨h1, h2, h3, h4⟩ := ih (by omega)
    have hc2 : 0 ≤ c ∧ c < fSitN f c w idle n 0 := by rw [h2 0 (by omega) (by omega) (by omega)]; exact hc
    have hb := sBy_r (idle := idle) h1 hc2 (k := n) (by omega) hw
    have hr := (h1.2.2.2.2.2.2 c hc2.1 hc2.2).2.2.2.2 n (by omega) (by omega)
    refine ⟨Inv_leg h1 hc.1 (by omega) (by omega), fun j a b d => ?_, ?_, ?_⟩
    · show fLeg _ _ _ _ _ = _
      rw [fLeg_at a b (by omega), h2 j a b (by omega)]
    · show 0 ≤ sSitN f c w idle n + _
      omega
    · show sSitN f c w idle n + _ ≤ _
      omega
theorem Inv_sit {f : Int → Int} {c wt : Int} (hI : Inv f) (hc : 0 ≤ c ∧ c < f 0) (hw : 0 ≤ wt) : Inv (fSit f c wt) := by
  have h := (sitN (idle := sIdle f c) hI hc (w := wt / f 11) (Int.ediv_nonneg hw (by have := hI.2.2.2.1; omega)) 4 (by omega)).1
  exact Inv_own (Inv_cnt (Inv_cnt h (by decide)) (by decide)) hc.1
theorem bndN {f : Int → Int} {gu : Int} (hI : Inv f) : ∀ n : Nat, Inv (fBndN f gu n) ∧ ∀ j : Int, j ≠ 4 → (∀ c : Int, 0 ≤ c → c < n → j ≠ 47 + 9 * c) → fBndN f gu n j = f j := by
  intro n
  induction n with
  | zero => exact ⟨hI, fun _ _ _ => rfl⟩
  | succ n ih =>
    unfold fBndN
    split
    · exact ⟨Inv_void ih.1 (by omega), fun j a b => by rw [fVoid_at a (b n (by omega) (by omega)), ih.2 j a (fun c h1 h2 => b c h1 (by omega))]⟩
    · exact ⟨ih.1, fun j a b => ih.2 j a (fun c h1 h2 => b c h1 (by omega))⟩
theorem Inv_bound {f : Int → Int} {gu k v : Int} (hI : Inv f) (hg : 0 ≤ gu ∧ gu < 4) (hk : 0 ≤ k ∧ k < 4) (hv : (k < 2 → 100 ≤ v ∧ v ≤ 900) ∧ (k = 2 → 0 ≤ v ∧ v ≤ 100) ∧ (k = 3 → 0 ≤ v ∧ v ≤ 200)) : Inv (fBound f gu k v) := (bndN (Inv_lim hI hg hk hv) _).1
theorem lvlN {f : Int → Int} {fl : Int} (hI : Inv f) : ∀ n : Nat, Inv (fLvlN f fl n) ∧ ∀ j : Int, j ≠ 4 → (∀ c : Int, 0 ≤ c → c < n → j ≠ 47 + 9 * c) → fLvlN f fl n j = f j := by
  intro n
  induction n with
  | zero => exact ⟨hI, fun _ _ _ => rfl⟩
  | succ n ih =>
    unfold fLvlN
    split
    · exact ⟨Inv_void ih.1 (by omega), fun j a b => by rw [fVoid_at a (b n (by omega) (by omega)), ih.2 j a (fun c h1 h2 => b c h1 (by omega))]⟩
    · exact ⟨ih.1, fun j a b => ih.2 j a (fun c h1 h2 => b c h1 (by omega))⟩
theorem Inv_level {f : Int → Int} {fl k v : Int} (hI : Inv f) (hf : 0 ≤ fl ∧ fl < 4) (hk : 0 ≤ k ∧ k < 4) (hv : 0 ≤ v ∧ v ≤ 50) : Inv (fLevel f fl k v) := by
  unfold fLevel
  split
  · exact Inv_spot hI (by omega) hv
  · exact (lvlN (Inv_spot hI (by omega) hv) _).1
theorem Inv_bring {f : Int → Int} {c fl q : Int} (hI : Inv f) (hc : 0 ≤ c) (hf : 0 ≤ fl ∧ fl < f 1) (hq : 0 ≤ q ∧ q < 4) : Inv (fBring f c fl q) := by
  unfold fBring
  split
  · exact Inv_quart (Inv_under hI hc hf) hc (by omega)
  · exact Inv_quart (Inv_under (Inv_void hI hc) hc (by rw [fVoid_at (by omega) (by omega)]; exact hf)) hc (by omega)
theorem Inv_chair {f : Int → Int} {gu len : Int} (hI : Inv f) (hn : f 0 < 10) (hg : 0 ≤ gu ∧ gu < 4) (hl : 100 ≤ len ∧ len ≤ 900) : Inv (fChair f gu len) := by
  obtain ⟨i0, i1, i2, i3, i4, i5, i6⟩ := hI
  have e : ∀ j : Int, 0 < j → j < 44 + 9 * f 0 → fChair f gu len j = f j := by
    intro j a b
    unfold fChair
    rw [if_neg (by omega), if_neg (by omega), if_neg (by omega), if_neg (by omega)]
  have e0 : fChair f gu len 0 = f 0 + 1 := by unfold fChair; rw [if_pos rfl]
  refine ⟨by omega, by rw [e 1 (by omega) (by omega)]; exact i1, by rw [e 10 (by omega) (by omega)]; exact i2, by rw [e 11 (by omega) (by omega)]; exact i3, fun j a b => by rw [e _ (by omega) (by omega)]; exact i4 j a b, fun g a b => ?_, fun c a b => ?_⟩
  · unfold InvG
    rw [e (28 + 4 * g) (by omega) (by omega), e (29 + 4 * g) (by omega) (by omega), e (30 + 4 * g) (by omega) (by omega), e (31 + 4 * g) (by omega) (by omega)]
    exact i5 g a b
  · rw [e0] at b
    unfold InvC
    rw [e 1 (by omega) (by omega)]
    by_cases h : c < f 0
    · obtain ⟨r1, r2, r3, r4, r5⟩ := i6 c a h
      rw [e _ (by omega) (by omega), e _ (by omega) (by omega), e _ (by omega) (by omega), e _ (by omega) (by omega)]
      exact ⟨r1, r2, r3, r4, fun k d d2 => by rw [e _ (by omega) (by omega)]; exact r5 k d d2⟩
    · have hc : c = f 0 := by omega
      subst hc
      unfold fChair
      refine ⟨?_, ?_, ?_, ?_, fun k d d2 => ?_⟩
      · rw [if_neg (by omega), if_pos (by omega)]; omega
      · rw [if_neg (by omega), if_neg (by omega), if_pos (by omega)]; omega
      · rw [if_neg (by omega), if_neg (by omega), if_pos (by omega)]; omega
      · rw [if_neg (by omega), if_neg (by omega), if_pos (by omega)]; omega
      · rw [if_neg (by omega), if_neg (by omega), if_neg (by omega), if_pos (by omega)]; omega
theorem Inv_floor {f : Int → Int} {a b c d : Int} (hI : Inv f) (hn : f 1 < 4) (ha : 0 ≤ a ∧ a ≤ 50) (hb : 0 ≤ b ∧ b ≤ 50) (hc : 0 ≤ c ∧ c ≤ 50) (hd : 0 ≤ d ∧ d ≤ 50) : Inv (fFloor f a b c d) := by
  obtain ⟨i0, i1, i2, i3, i4, i5, i6⟩ := hI
  have e : ∀ j : Int, j ≠ 1 → (j < 12 ∨ 28 ≤ j) → fFloor f a b c d j = f j := by
    intro j x y
    unfold fFloor
    rw [if_neg x, if_neg (by omega), if_neg (by omega), if_neg (by omega), if_neg (by omega)]
  have e1 : fFloor f a b c d 1 = f 1 + 1 := by unfold fFloor; rw [if_pos rfl]
  refine ⟨by rw [e 0 (by omega) (by omega)]; exact i0, by omega, by rw [e 10 (by omega) (by omega)]; exact i2, by rw [e 11 (by omega) (by omega)]; exact i3, fun j x y => ?_, fun g x y => ?_, fun c9 x y => ?_⟩
  · have h := i4 j x y
    unfold fFloor
    split
    · omega
    · split
      · exact ha
      · split
        · exact hb
        · split
          · exact hc
          · split
            · exact hd
            · exact h
  · unfold InvG
    rw [e _ (by omega) (by omega), e _ (by omega) (by omega), e _ (by omega) (by omega), e _ (by omega) (by omega)]
    exact i5 g x y
  · rw [e 0 (by omega) (by omega)] at y
    obtain ⟨r1, r2, r3, r4, r5⟩ := i6 c9 x y
    unfold InvC
    rw [e1, e _ (by omega) (by omega), e _ (by omega) (by omega), e _ (by omega) (by omega), e _ (by omega) (by omega)]
    exact ⟨r1, by omega, r3, r4, fun k d1 d2 => by rw [e _ (by omega) (by omega)]; exact r5 k d1 d2⟩
theorem Inv_new : Inv fNew := by
  refine ⟨by decide, by decide, by decide, by decide, fun j a b => ?_, fun g a b => ?_, fun c a b => absurd b (Int.not_lt.mpr a)⟩
  · unfold fNew
    rw [if_neg (by omega), if_neg (by omega), if_neg (by omega), if_neg (by omega)]; omega
  · unfold InvG fNew
    refine ⟨?_, ?_, ?_, ?_⟩
    · rw [if_neg (by omega), if_neg (by omega), if_neg (by omega), if_pos (by omega), if_pos (by omega)]; omega
    · rw [if_neg (by omega), if_neg (by omega), if_neg (by omega), if_pos (by omega), if_neg (by omega), if_pos (by omega)]; omega
    · rw [if_neg (by omega), if_neg (by omega), if_neg (by omega), if_pos (by omega), if_neg (by omega), if_neg (by omega), if_pos (by omega)]; omega
    · rw [if_neg (by omega), if_neg (by omega), if_neg (by omega), if_pos (by omega), if_neg (by omega), if_neg (by omega), if_neg (by omega)]; omega
theorem sWhy_r (f : Int → Int) (c : Int) : 0 ≤ sWhy f c ∧ sWhy f c ≤ 4 := by
  unfold sWhy
  split
  · omega
  · split
    · omega
    · split
      · omega
      · split <;> omega
theorem stN {f : Int → Int} (hI : Inv f) : ∀ n : Nat, (n : Int) ≤ f 0 → 0 ≤ sStN f n ∧ sStN f n ≤ n := by
  intro n
  induction n with
  | zero => intro _; exact ⟨Int.le_refl 0, Int.le_refl 0⟩
  | succ n ih =>
    intro h
    obtain ⟨a, b⟩ := ih (by omega)
    have q := (hI.2.2.2.2.2.2 n (by omega) (by omega)).2.2.2.1
    show 0 ≤ sStN f n + f (47 + 9 * n) ∧ sStN f n + f (47 + 9 * n) ≤ _
    omega
