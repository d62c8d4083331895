/-! what holds of an office holds behind every act -/
theorem Cnt.cg {t : Int} {f g : Int → Int} (h : Cnt t f) (e0 : g 0 = f 0) (e2 : g 2 = f 2) (e3 : g 3 = f 3) (e4 : f 4 ≤ g 4) (e5 : g 5 = f 5) (e6 : g 6 = f 6) (e9 : g 9 = f 9) (e48 : ∀ c : Int, 0 ≤ c → c < f 0 → g (48 + 9 * c) = f (48 + 9 * c)) : Cnt t g := by
  obtain ⟨⟨a1, a2⟩, b, c1, d1, e1, f1⟩ := h
  refine ⟨⟨by omega, by omega⟩, fun c x y => ?_, by omega, by omega, by omega, by omega⟩
  rw [e0] at y
  rw [e48 c x y]
  exact b c x y
theorem Cnt.mono {t u : Int} {f : Int → Int} (h : Cnt t f) (hu : t ≤ u) : Cnt u f := by
  obtain ⟨a, b, c1, d1, e1, f1⟩ := h
  exact ⟨a, b, by omega, by omega, by omega, by omega⟩
theorem Gd.mono {t u : Int} {f : Int → Int} (h : Gd t f) (hu : t ≤ u) : Gd u f := ⟨h.1, h.2.1, h.2.2.1, h.2.2.2.mono hu⟩
/-! a chair comes -/
theorem ch_lo {f : Int → Int} {gu len j : Int} (hn : 0 ≤ f 0) (h1 : 1 ≤ j) (h2 : j < 44 + 9 * f 0) : fChair f gu len j = f j := by
  unfold fChair
  rw [if_neg (by omega), if_neg (by omega), if_neg (by omega), if_neg (by omega)]
theorem ch_0 {f : Int → Int} {gu len : Int} : fChair f gu len 0 = f 0 + 1 := if_pos rfl
theorem ch_z {f : Int → Int} {gu len j : Int} (hn : 0 ≤ f 0) (h1 : 45 + 9 * f 0 ≤ j) (h2 : j < 49 + 9 * f 0) : fChair f gu len j = 0 := by
  unfold fChair
  rw [if_neg (by omega), if_neg (by omega), if_pos ⟨h1, h2⟩]
theorem Gd.chair {t : Int} {f : Int → Int} {gu len : Int} (h : Gd t f) (hn : f 0 < 10) (hg : 0 ≤ gu ∧ gu < 4) (hl : 100 ≤ len ∧ len ≤ 900) : Gd t (fChair f gu len) := by
  obtain ⟨hI, ⟨b1, b2⟩, hs, c1, c2, c3⟩ := h
  have h0 := hI.1
  have hF := hI.2.1
  have lo : ∀ j : Int, 1 ≤ j → j < 44 + 9 * f 0 → fChair f gu len j = f j := fun j a b => ch_lo h0.1 a b
  have en : (f 0 + 1).toNat = (f 0).toNat + 1 := by omega
  have e1 : sStamped (fChair f gu len) = sStamped f := by
    unfold sStamped
    rw [ch_0, en]
    show sStN (fChair f gu len) (f 0).toNat + fChair f gu len (47 + 9 * ((f 0).toNat : Int)) = _
    rw [stN_cg (f := f) (g := fChair f gu len) _ (fun i x y => lo _ (by omega) (by omega)), ch_z h0.1 (by omega) (by omega), Int.add_zero]
  have e2 : sSitters (fChair f gu len) = sSitters f := by
    unfold sSitters
    rw [ch_0, en]
    show sSiN (fChair f gu len) (f 0).toNat + fChair f gu len (48 + 9 * ((f 0).toNat : Int)) = _
    rw [siN_cg (f := f) (g := fChair f gu len) _ (fun i x y => lo _ (by omega) (by omega)), ch_z h0.1 (by omega) (by omega), Int.add_zero]
  refine ⟨Inv_chair hI hn hg hl, ⟨by rw [e1, lo 3 (by decide) (by omega), lo 4 (by decide) (by omega)]; exact b1, by rw [e2, lo 6 (by decide) (by omega)]; exact b2⟩, ?_, ?_, ?_, ?_⟩
  · intro d a b e
    rw [ch_0] at b
    by_cases q : d = f 0
    · subst q
      rw [ch_z h0.1 (by omega) (by omega)] at e
      exact absurd e (by decide)
    · have hd : 0 ≤ d ∧ d < f 0 := by omega
      rw [lo _ (by omega) (by omega)] at e
      obtain ⟨q1, q2, q3, -, -⟩ := hI.2.2.2.2.2.2 d hd.1 hd.2
      rw [sWhy_cg (f := f) (by omega) (lo _ (by omega) (by omega)) (lo _ (by omega) (by omega)) (lo _ (by omega) (by omega)) (fun k x y => lo _ (by omega) (by omega)) (fun k x y => lo _ (by omega) (by omega)) (fun k x y => lo _ (by omega) (by omega))]
      exact hs d hd.1 hd.2 e
  · rw [lo 3 (by decide) (by omega), lo 2 (by decide) (by omega), lo 4 (by decide) (by omega)]
    exact c1
  · intro d a b
    rw [ch_0] at b
    by_cases q : d = f 0
    · subst q
      rw [ch_z h0.1 (by omega) (by omega)]
      decide
    · rw [lo _ (by omega) (by omega)]
      exact c2 d a (by omega)
  · rw [lo 2 (by decide) (by omega), lo 5 (by decide) (by omega), lo 6 (by decide) (by omega), lo 9 (by decide) (by omega)]
    exact c3
/-! a floor is laid -/
theorem fl_at0 {f : Int → Int} {a b c d j : Int} (h1 : j ≠ 1) (h : j < 12 + 4 * f 1 ∨ 15 + 4 * f 1 < j) : fFloor f a b c d j = f j := by
  unfold fFloor
  rw [if_neg h1, if_neg (by omega), if_neg (by omega), if_neg (by omega), if_neg (by omega)]
theorem Gd.floor {t : Int} {f : Int → Int} {a b c d : Int} (h : Gd t f) (hn : f 1 < 4) (ha : 0 ≤ a ∧ a ≤ 50) (hb : 0 ≤ b ∧ b ≤ 50) (hc : 0 ≤ c ∧ c ≤ 50) (hd : 0 ≤ d ∧ d ≤ 50) : Gd t (fFloor f a b c d) := by
  obtain ⟨hI, hB, hs, hC⟩ := h
  have h0 := hI.1
  have hF := hI.2.1
  have lo : ∀ j : Int, j ≠ 1 → (j < 12 + 4 * f 1 ∨ 15 + 4 * f 1 < j) → fFloor f a b c d j = f j := fun j x y => fl_at0 x y
  refine ⟨Inv_floor hI hn ha hb hc hd, hB.cg (lo _ (by omega) (by omega)) (lo _ (by omega) (by omega)) (lo _ (by omega) (by omega)) (lo _ (by omega) (by omega)) (fun i x y => lo _ (by omega) (by omega)) (fun i x y => lo _ (by omega) (by omega)), ?_, hC.cg (lo _ (by omega) (by omega)) (lo _ (by omega) (by omega)) (lo _ (by omega) (by omega)) (by rw [lo 4 (by omega) (by omega)]; exact Int.le_refl _) (lo _ (by omega) (by omega)) (lo _ (by omega) (by omega)) (lo _ (by omega) (by omega)) (fun i x y => lo _ (by omega) (by omega))⟩
  intro e x y z
  rw [lo 0 (by omega) (by omega)] at y
  rw [lo _ (by omega) (by omega)] at z
  obtain ⟨q1, q2, q3, -, -⟩ := hI.2.2.2.2.2.2 e x y
  rw [sWhy_cg (f := f) (by omega) (lo _ (by omega) (by omega)) (lo _ (by omega) (by omega)) (lo _ (by omega) (by omega)) (fun k u v => lo _ (by omega) (by omega)) (fun k u v => lo _ (by omega) (by omega)) (fun k u v => lo _ (by omega) (by omega))]
  exact hs e x y z
/-! a spot changes -/
theorem void_47 {f : Int → Int} {c : Int} : fVoid f c (47 + 9 * c) = 0 := by unfold fVoid; rw [up_eq]
theorem void_4 {f : Int → Int} {c : Int} (hc : 0 ≤ c) : fVoid f c 4 = f 4 + f (47 + 9 * c) := by unfold fVoid; rw [up_ne (by omega), up_eq]
theorem lvl_fact {h : Int → Int} {fl : Int} (hI : Inv h) (hB : Bal h) : ∀ n : Nat, (n : Int) ≤ h 0 → Bal (fLvlN h fl n) ∧ h 4 ≤ fLvlN h fl n 4 ∧ ∀ d : Int, 0 ≤ d → d < h 0 → fLvlN h fl n (47 + 9 * d) = if d < n ∧ h (45 + 9 * d) = fl then 0 else h (47 + 9 * d)
  | 0, _ => ⟨hB, Int.le_refl _, fun d a b => by rw [if_neg (by omega)]; rfl⟩
  | n + 1, hn => by
    obtain ⟨a1, a2, a3⟩ := lvl_fact (fl := fl) hI hB n (by omega)
    obtain ⟨i1, i2⟩ := lvlN (fl := fl) hI n
    have e45 : fLvlN h fl n (45 + 9 * (n : Int)) = h (45 + 9 * (n : Int)) := i2 _ (by omega) (fun c x y => by omega)
    have e0 : fLvlN h fl n 0 = h 0 := i2 _ (by omega) (fun c x y => by omega)
    have hf := i1.fl (c := n) (by rw [e0]; omega)
    unfold fLvlN
    split
    · rename_i q
      rw [e45] at q
      refine ⟨a1.void (by rw [e0]; omega), by rw [void_4 (by omega)]; omega, fun d x y => ?_⟩
      by_cases e : d = n
      · subst e
        rw [void_47, if_pos ⟨by omega, q⟩]
      · rw [fVoid_at (by omega) (by omega), a3 d x y]
        by_cases p : d < n ∧ h (45 + 9 * d) = fl
        · rw [if_pos p, if_pos ⟨by omega, p.2⟩]
        · rw [if_neg p, if_neg (fun z => p ⟨by omega, z.2⟩)]
    · rename_i q
      rw [e45] at q
      refine ⟨a1, a2, fun d x y => ?_⟩
      rw [a3 d x y]
      by_cases p : d < n ∧ h (45 + 9 * d) = fl
      · rw [if_pos p, if_pos ⟨by omega, p.2⟩]
      · rw [if_neg p, if_neg (fun z => ?_)]
        by_cases e : d = n
        · subst e; exact q z.2
        · exact p ⟨by omega, z.2⟩
theorem Gd.level {t : Int} {f : Int → Int} {fl k v : Int} (h : Gd t f) (hf : 0 ≤ fl ∧ fl < f 1) (hk : 0 ≤ k ∧ k < 4) (hv : 0 ≤ v ∧ v ≤ 50) : Gd t (fLevel f fl k v) := by
  obtain ⟨hI, hB, hs, hC⟩ := id h
  have h0 := hI.1
  have hF := hI.2.1
  by_cases q : v = f (12 + (4 * fl + k))
  · unfold fLevel
    rw [if_pos q, up_self f q]
    exact h
  have hIL := Inv_level hI (fl := fl) (by omega) hk hv
  unfold fLevel at hIL ⊢
  rw [if_neg q] at hIL ⊢
  generalize hh : up f (12 + (4 * fl + k)) v = g at hIL ⊢
  have u : ∀ j : Int, j ≠ 12 + (4 * fl + k) → g j = f j := fun j x => by rw [← hh, up_ne x]
  have gI : Inv g := by rw [← hh]; exact Inv_spot hI (by omega) hv
  have gB : Bal g := hB.cg (u _ (by omega)) (u _ (by omega)) (u _ (by omega)) (u _ (by omega)) (fun i x y => u _ (by omega)) (fun i x y => u _ (by omega))
  have g0 : g 0 = f 0 := u _ (by omega)
  obtain ⟨b1, b2, b3⟩ := lvl_fact (fl := fl) gI gB (f 0).toNat (by omega)
  obtain ⟨-, i2⟩ := lvlN (fl := fl) gI (f 0).toNat
  have w : ∀ j : Int, j ≠ 4 → (j < 44 ∨ j % 9 ≠ 2) → fLvlN g fl (f 0).toNat j = g j := fun j x y => i2 j x (fun c p r => by omega)
  refine ⟨hIL, b1, ?_, hC.cg (by rw [w 0 (by omega) (by omega), g0]) (by rw [w 2 (by omega) (by omega), u 2 (by omega)]) (by rw [w 3 (by omega) (by omega), u 3 (by omega)]) (by rw [u 4 (by omega)] at b2; exact b2) (by rw [w 5 (by omega) (by omega), u 5 (by omega)]) (by rw [w 6 (by omega) (by omega), u 6 (by omega)]) (by rw [w 9 (by omega) (by omega), u 9 (by omega)]) (fun c x y => by rw [w _ (by omega) (by omega), u _ (by omega)])⟩
  intro d x y z
  rw [w 0 (by omega) (by omega), g0] at y
  rw [b3 d x (by omega)] at z
  obtain ⟨q1, q2, q3, -, -⟩ := hI.2.2.2.2.2.2 d x y
  by_cases p : d < (f 0).toNat ∧ g (45 + 9 * d) = fl
  · rw [if_pos p] at z
    exact absurd z (by decide)
  · rw [if_neg p, u _ (by omega)] at z
    rw [u _ (by omega)] at p
    have hne : f (45 + 9 * d) ≠ fl := fun e => p ⟨by omega, e⟩
    have al : ∀ j : Int, j ≠ 4 → (j < 44 ∨ j % 9 ≠ 2) → j ≠ 12 + (4 * fl + k) → fLvlN g fl (f 0).toNat j = f j := fun j a b c => by rw [w j a b, u j c]
    rw [sWhy_cg (f := f) (by omega) (al _ (by omega) (by omega) (by omega)) (al _ (by omega) (by omega) (by omega)) (al _ (by omega) (by omega) (by omega)) (fun j a b => al _ (by omega) (by omega) (by omega)) (fun j a b => al _ (by omega) (by omega) (by omega)) (fun j a b => al _ (by omega) (by omega) (by omega))]
    exact hs d x y z
/-! a chair comes to another place -/
theorem Gd.void {t : Int} {f : Int → Int} {c : Int} (h : Gd t f) (hc : 0 ≤ c ∧ c < f 0) : Gd t (fVoid f c) := by
  obtain ⟨hI, hB, hs, hC⟩ := h
  have hf := hI.fl hc
  exact ⟨Inv_void hI hc.1, hB.void hc, hs.void hI hc.1, hC.cg (fVoid_at (by decide) (by omega)) (fVoid_at (by decide) (by omega)) (fVoid_at (by decide) (by omega)) (by rw [void_4 hc.1]; omega) (fVoid_at (by decide) (by omega)) (fVoid_at (by decide) (by omega)) (fVoid_at (by decide) (by omega)) (fun i x y => fVoid_at (by omega) (by omega))⟩
theorem Gd.bring {t : Int} {f : Int → Int} {c fl q : Int} (h : Gd t f) (hc : 0 ≤ c ∧ c < f 0) (hf : 0 ≤ fl ∧ fl < f 1) (hq : 0 ≤ q ∧ q < 4) : Gd t (fBring f c fl q) := by
  have hIB := Inv_bring h.1 hc.1 hf hq
  unfold fBring at hIB ⊢
  by_cases p : f (45 + 9 * c) = fl ∧ f (46 + 9 * c) = q
  · rw [if_pos p, up_self f p.1.symm, up_self f p.2.symm]
    exact h
  rw [if_neg p] at hIB ⊢
  obtain ⟨hI, hB, hs, hC⟩ := h.void hc
  have v0 : fVoid f c 0 = f 0 := fVoid_at (by decide) (by omega)
  have u : ∀ j : Int, j ≠ 45 + 9 * c → j ≠ 46 + 9 * c → up (up (fVoid f c) (45 + 9 * c) fl) (46 + 9 * c) q j = fVoid f c j := fun j x y => by rw [up_ne y, up_ne x]
  refine ⟨hIB, hB.cg (u _ (by omega) (by omega)) (u _ (by omega) (by omega)) (u _ (by omega) (by omega)) (u _ (by omega) (by omega)) (fun i x y => u _ (by omega) (by omega)) (fun i x y => u _ (by omega) (by omega)), ?_, hC.cg (u _ (by omega) (by omega)) (u _ (by omega) (by omega)) (u _ (by omega) (by omega)) (by rw [u 4 (by omega) (by omega)]; exact Int.le_refl _) (u _ (by omega) (by omega)) (u _ (by omega) (by omega)) (u _ (by omega) (by omega)) (fun i x y => u _ (by omega) (by omega))⟩
  intro d x y z
  rw [u 0 (by omega) (by omega)] at y
  rw [u _ (by omega) (by omega)] at z
  by_cases e : d = c
  · subst e
    rw [void_47] at z
    exact absurd z (by decide)
  · have hF := hI.2.1
    obtain ⟨q1, q2, q3, -, -⟩ := hI.2.2.2.2.2.2 d x y
    rw [sWhy_cg (f := fVoid f c) (by omega) (u _ (by omega) (by omega)) (u _ (by omega) (by omega)) (u _ (by omega) (by omega)) (fun j a b => u _ (by omega) (by omega)) (fun j a b => u _ (by omega) (by omega)) (fun j a b => u _ (by omega) (by omega))]
    exact hs d x y z
/-! a leg changes -/
theorem Gd.cnt7 {t : Int} {f : Int → Int} {i v : Int} (h : Gd t f) (hi : i = 7 ∨ i = 8) : Gd t (up f i v) := by
  obtain ⟨hI, hB, hs, hC⟩ := h
  have u : ∀ j : Int, j ≠ i → up f i v j = f j := fun j x => up_ne x
  refine ⟨Inv_cnt hI (by omega), hB.cg (u _ (by omega)) (u _ (by omega)) (u _ (by omega)) (u _ (by omega)) (fun i x y => u _ (by omega)) (fun i x y => u _ (by omega)), ?_, hC.cg (u _ (by omega)) (u _ (by omega)) (u _ (by omega)) (by rw [u 4 (by omega)]; exact Int.le_refl _) (u _ (by omega)) (u _ (by omega)) (u _ (by omega)) (fun i x y => u _ (by omega))⟩
  intro d x y z
  rw [u 0 (by omega)] at y
  rw [u _ (by omega)] at z
  rw [sWhy_ct hI ⟨x, y⟩ (fun j a b => u j (by omega))]
  exact hs d x y z
theorem Gd.leg {t : Int} {f : Int → Int} {c k b : Int} (h : Gd t f) (hc : 0 ≤ c ∧ c < f 0) (hk : 0 ≤ k ∧ k < 4) (hv : 100 ≤ f (49 + 9 * c + k) + b ∧ f (49 + 9 * c + k) + b ≤ 900) : Gd t (fLeg f c k b) := by
  obtain ⟨hI, hB, hs, hC⟩ := h
  have hf := hI.fl hc
  have u : ∀ j : Int, j ≠ 4 → j ≠ 47 + 9 * c → j ≠ 49 + 9 * c + k → fLeg f c k b j = f j := fun j x y z => fLeg_at x y z
  refine ⟨Inv_leg hI hc.1 hk hv, hB.leg hc hk, hs.leg hI hc hk, hC.cg (u _ (by omega) (by omega) (by omega)) (u _ (by omega) (by omega) (by omega)) (u _ (by omega) (by omega) (by omega)) ?_ (u _ (by omega) (by omega) (by omega)) (u _ (by omega) (by omega) (by omega)) (u _ (by omega) (by omega) (by omega)) (fun i x y => u _ (by omega) (by omega) (by omega))⟩
  rw [leg_4 hc.1 hk.1]
  split <;> omega
theorem Gd.saw {t : Int} {f : Int → Int} {c k n : Int} (h : Gd t f) (hc : 0 ≤ c ∧ c < f 0) (hk : 0 ≤ k ∧ k < 4) (hn : 1 ≤ n) (hv : 100 ≤ f (49 + 9 * c + k) - n) : Gd t (fSaw f c k n) := by
  have hl := (h.1.2.2.2.2.2.2 c hc.1 hc.2).2.2.2.2 k hk.1 hk.2
  unfold fSaw
  exact (h.cnt7 (Or.inl rfl)).leg (by rw [up_ne (by omega)]; exact hc) hk (by rw [up_ne (by omega)]; omega)
theorem Gd.shim {t : Int} {f : Int → Int} {c k n : Int} (h : Gd t f) (hc : 0 ≤ c ∧ c < f 0) (hk : 0 ≤ k ∧ k < 4) (hn : 1 ≤ n) (hv : f (49 + 9 * c + k) + n ≤ 900) : Gd t (fShim f c k n) := by
  have hl := (h.1.2.2.2.2.2.2 c hc.1 hc.2).2.2.2.2 k hk.1 hk.2
  unfold fShim
  exact (h.cnt7 (Or.inr rfl)).leg (by rw [up_ne (by omega)]; exact hc) hk (by rw [up_ne (by omega)]; omega)
/-! a chair is tested -/
theorem Gd.paid {t : Int} {f : Int → Int} (h : Gd t f) : Gd (t + 1) (fPaid f) := by
  obtain ⟨hI, hB, hs, ⟨⟨a1, a2⟩, b1, c1, d1, e1, f1⟩⟩ := h
  have h10 := hI.2.2.1
  have u : ∀ j : Int, j ≠ 2 → j ≠ 5 → fPaid f j = f j := fun j x y => by unfold fPaid; rw [up_ne y, up_ne x]
  have u2 : fPaid f 2 = f 2 + 1 := by unfold fPaid; rw [up_ne (by decide), up_eq]
  have u5 : fPaid f 5 = f 5 + f 10 := by unfold fPaid; rw [up_eq]
  refine ⟨Inv_paid hI, hB.cg (u _ (by omega) (by omega)) (u _ (by omega) (by omega)) (u _ (by omega) (by omega)) (u _ (by omega) (by omega)) (fun i x y => u _ (by omega) (by omega)) (fun i x y => u _ (by omega) (by omega)), ?_, ⟨by rw [u2, u 3 (by omega) (by omega)]; omega, by rw [u 4 (by omega) (by omega)]; exact a2⟩, fun c x y => ?_, by rw [u2]; omega, by rw [u5]; omega, by rw [u 6 (by omega) (by omega)]; omega, by rw [u 9 (by omega) (by omega)]; omega⟩
  · intro d x y z
    rw [u 0 (by omega) (by omega)] at y
    rw [u _ (by omega) (by omega)] at z
    rw [sWhy_ct hI ⟨x, y⟩ (fun j a b => u j (by omega) (by omega))]
    exact hs d x y z
  · rw [u 0 (by omega) (by omega)] at y
    rw [u _ (by omega) (by omega)]
    exact b1 c x y
theorem Gd.test {t : Int} {f : Int → Int} {c : Int} (h : Gd t f) (hc : 0 ≤ c ∧ c < f 0) : Gd (t + 1) (fTest f c) := by
  have hIT := Inv_test (c := c) h.1 hc.1
  have hp := h.paid
  have hh := h.2.2.2.1.1
  unfold fTest at hIT ⊢
  split
  · rename_i q
    rw [if_pos q] at hIT
    have u : ∀ j : Int, j ≠ 2 → j ≠ 5 → fPaid f j = f j := fun j x y => by unfold fPaid; rw [up_ne y, up_ne x]
    have p2 : fPaid f 2 = f 2 + 1 := by unfold fPaid; rw [up_ne (by decide), up_eq]
    have hI := h.1
    obtain ⟨hIp, ⟨b1, b2⟩, hs, ⟨⟨a1, a2⟩, c1, c2, c3, c4, c5⟩⟩ := hp
    generalize hg : fPaid f = g at *
    have e0 : g 0 = f 0 := u 0 (by omega) (by omega)
    have w : ∀ j : Int, j ≠ 3 → j ≠ 47 + 9 * c → up (up g (47 + 9 * c) 1) 3 (f 3 + 1) j = g j := fun j x y => by rw [up_ne x, up_ne y]
    have w3 : up (up g (47 + 9 * c) 1) 3 (f 3 + 1) 3 = f 3 + 1 := up_eq _ _ _
    have w47 : up (up g (47 + 9 * c) 1) 3 (f 3 + 1) (47 + 9 * c) = 1 := by rw [up_ne (by omega), up_eq]
    have e3 : g 3 = f 3 := u 3 (by omega) (by omega)
    have e47 : g (47 + 9 * c) = 0 := by rw [u _ (by omega) (by omega)]; exact q.2
    have es : sStamped (up (up g (47 + 9 * c) 1) 3 (f 3 + 1)) = sStamped g + 1 := by
      unfold sStamped
      rw [w 0 (by omega) (by omega), stN_cg (f := up g (47 + 9 * c) 1) (g := up (up g (47 + 9 * c) 1) 3 (f 3 + 1)) _ (fun i x y => up_ne (by omega)), stN_up hc.1, if_pos (by omega), e47]
      rfl
    have et : sSitters (up (up g (47 + 9 * c) 1) 3 (f 3 + 1)) = sSitters g := by
      unfold sSitters
      rw [w 0 (by omega) (by omega), siN_cg (f := g) (g := up (up g (47 + 9 * c) 1) 3 (f 3 + 1)) _ (fun i x y => w _ (by omega) (by omega))]
    refine ⟨hIT, ⟨by rw [w3, es, w 4 (by omega) (by omega)]; omega, by rw [et, w 6 (by omega) (by omega)]; exact b2⟩, ?_, ⟨by rw [w3, w 2 (by omega) (by omega)]; omega, by rw [w 4 (by omega) (by omega)]; exact a2⟩, fun d x y => ?_, by rw [w 2 (by omega) (by omega)]; exact c2, by rw [w 5 (by omega) (by omega)]; exact c3, by rw [w 6 (by omega) (by omega)]; exact c4, by rw [w 9 (by omega) (by omega)]; exact c5⟩
    · intro d x y z
      rw [w 0 (by omega) (by omega)] at y
      rw [sWhy_ct hIp ⟨x, y⟩ (fun j a b => w j (by omega) (by omega))]
      by_cases e : d = c
      · subst e
        rw [← hg, sWhy_ct hI hc (fun j a b => by rw [hg]; exact u j (by omega) (by omega))]
        exact q.1
      · rw [w _ (by omega) (by omega)] at z
        exact hs d x y z
    · rw [w 0 (by omega) (by omega)] at y
      rw [w _ (by omega) (by omega)]
      exact c1 d x y
  · exact hp
/-! a sitter -/
theorem Gd.sat {t : Int} {f : Int → Int} {c w idle : Int} (h : Gd t f) (hc : 0 ≤ c ∧ c < f 0) (hw : 0 ≤ w) : ∀ n : Nat, n ≤ 4 → Gd t (fSitN f c w idle n)
  | 0, _ => h
  | n + 1, hn => by
    have ih := Gd.sat (idle := idle) h hc hw n (by omega)
    have hs := sitN (idle := idle) h.1 hc hw n (by omega)
    have e0 : fSitN f c w idle n 0 = f 0 := hs.2.1 0 (by omega) (by omega) (by omega)
    have hc2 : 0 ≤ c ∧ c < fSitN f c w idle n 0 := by rw [e0]; exact hc
    have hb := sBy_r (idle := idle) hs.1 hc2 (k := n) (by omega) hw
    have hr := (hs.1.2.2.2.2.2.2 c hc2.1 hc2.2).2.2.2.2 n (by omega) (by omega)
    exact ih.leg hc2 (by omega) (by omega)
theorem Gd.sit {t : Int} {f : Int → Int} {c wt : Int} (h : Gd t f) (hc : 0 ≤ c ∧ c < f 0) (hw : 0 ≤ wt) : Gd (t + 1) (fSit f c wt) := by
  have hi := h.1.2.2.2.1
  have w0 : 0 ≤ wt / f 11 := Int.ediv_nonneg hw (by omega)
  have hn := h.sat (idle := sIdle f c) hc w0 4 (by decide)
  have hs := sitN (idle := sIdle f c) h.1 hc w0 4 (by decide)
  have hIS := Inv_sit h.1 hc hw
  unfold fSit at hIS ⊢
  generalize hg : fSitN f c (wt / f 11) (sIdle f c) 4 = g at *
  generalize sSitN f c (wt / f 11) (sIdle f c) 4 = v at *
  obtain ⟨hI, ⟨b1, b2⟩, hk, ⟨⟨a1, a2⟩, c1, c2, c3, c4, c5⟩⟩ := hn
  obtain ⟨-, s2, s3, s4⟩ := hs
  have h9 := h.2.2.2.2.2.2.2.2
  have h6 := h.2.2.2.2.2.2.2.1
  have e0 : g 0 = f 0 := s2 0 (by omega) (by omega) (by omega)
  have e6 : g 6 = f 6 := s2 6 (by omega) (by omega) (by omega)
  have e48 : g (48 + 9 * c) = f (48 + 9 * c) := s2 _ (by omega) (by omega) (by omega)
  have w : ∀ j : Int, j ≠ 6 → j ≠ 9 → j ≠ 48 + 9 * c → up (up (up g 6 (f 6 + 1)) 9 (f 9 + v)) (48 + 9 * c) (f (48 + 9 * c) + 1) j = g j := fun j x y z => by rw [up_ne z, up_ne y, up_ne x]
  have w6 : up (up (up g 6 (f 6 + 1)) 9 (f 9 + v)) (48 + 9 * c) (f (48 + 9 * c) + 1) 6 = f 6 + 1 := by rw [up_ne (by omega), up_ne (by omega), up_eq]
  have w9 : up (up (up g 6 (f 6 + 1)) 9 (f 9 + v)) (48 + 9 * c) (f (48 + 9 * c) + 1) 9 = f 9 + v := by rw [up_ne (by omega), up_eq]
  have w48 : up (up (up g 6 (f 6 + 1)) 9 (f 9 + v)) (48 + 9 * c) (f (48 + 9 * c) + 1) (48 + 9 * c) = f (48 + 9 * c) + 1 := up_eq _ _ _
  have hf48 := h.2.2.2.2.1 c hc.1 hc.2
  generalize hG : up (up (up g 6 (f 6 + 1)) 9 (f 9 + v)) (48 + 9 * c) (f (48 + 9 * c) + 1) = G at *
  refine ⟨hIS, ⟨?_, ?_⟩, ?_, ⟨by rw [w 3 (by omega) (by omega) (by omega), w 2 (by omega) (by omega) (by omega)]; exact a1, by rw [w 4 (by omega) (by omega) (by omega)]; exact a2⟩, fun d x y => ?_, by rw [w 2 (by omega) (by omega) (by omega)]; omega, by rw [w 5 (by omega) (by omega) (by omega)]; omega, by rw [w6]; omega, by rw [w9]; omega⟩
  · unfold sStamped
    rw [w 3 (by omega) (by omega) (by omega), w 4 (by omega) (by omega) (by omega), w 0 (by omega) (by omega) (by omega), stN_cg (f := g) (g := G) _ (fun i x y => w _ (by omega) (by omega) (by omega))]
    exact b1
  · unfold sSitters
    rw [w6, w 0 (by omega) (by omega) (by omega), ← hG, siN_up hc.1, if_pos (by omega), siN_cg (f := g) (g := up (up g 6 (f 6 + 1)) 9 (f 9 + v)) _ (fun i x y => by rw [up_ne (by omega), up_ne (by omega)]), up_ne (by omega), up_ne (by omega)]
    unfold sSitters at b2
    omega
  · intro d x y z
    rw [w 0 (by omega) (by omega) (by omega)] at y
    rw [w _ (by omega) (by omega) (by omega)] at z
    rw [sWhy_ct hI ⟨x, y⟩ (fun j a b => w j (by omega) (by omega) (by omega))]
    exact hk d x y z
  · rw [w 0 (by omega) (by omega) (by omega)] at y
    by_cases e : d = c
    · subst e
      rw [w48]
      omega
    · rw [w _ (by omega) (by omega) (by omega)]
      exact c1 d x y
/-! a bound changes -/
theorem bnd_fact {h : Int → Int} {gu : Int} (hI : Inv h) (hB : Bal h) : ∀ n : Nat, (n : Int) ≤ h 0 → Bal (fBndN h gu n) ∧ h 4 ≤ fBndN h gu n 4 ∧ ∀ d : Int, 0 ≤ d → d < h 0 → fBndN h gu n (47 + 9 * d) = if d < n ∧ h (44 + 9 * d) = gu ∧ sWhy h d > 0 then 0 else h (47 + 9 * d)
  | 0, _ => ⟨hB, Int.le_refl _, fun d a b => by rw [if_neg (by omega)]; rfl⟩
  | n + 1, hn => by
    obtain ⟨a1, a2, a3⟩ := bnd_fact (gu := gu) hI hB n (by omega)
    obtain ⟨i1, i2⟩ := bndN (gu := gu) hI n
    have e44 : fBndN h gu n (44 + 9 * (n : Int)) = h (44 + 9 * (n : Int)) := i2 _ (by omega) (fun c x y => by omega)
    have e0 : fBndN h gu n 0 = h 0 := i2 _ (by omega) (fun c x y => by omega)
    have ew : sWhy (fBndN h gu n) n = sWhy h n := sWhy_ct hI (by omega) (fun j a b => i2 j (by omega) (fun c x y => by omega))
    have hf := i1.fl (c := n) (by rw [e0]; omega)
    unfold fBndN
    split
    · rename_i q
      rw [e44, ew] at q
      refine ⟨a1.void (by rw [e0]; omega), by rw [void_4 (by omega)]; omega, fun d x y => ?_⟩
      by_cases e : d = n
      · subst e
        rw [void_47, if_pos ⟨by omega, q⟩]
      · rw [fVoid_at (by omega) (by omega), a3 d x y]
        by_cases p : d < n ∧ h (44 + 9 * d) = gu ∧ sWhy h d > 0
        · rw [if_pos p, if_pos ⟨by omega, p.2⟩]
        · rw [if_neg p, if_neg (fun z => p ⟨by omega, z.2⟩)]
    · rename_i q
      rw [e44, ew] at q
      refine ⟨a1, a2, fun d x y => ?_⟩
      rw [a3 d x y]
      by_cases p : d < n ∧ h (44 + 9 * d) = gu ∧ sWhy h d > 0
      · rw [if_pos p, if_pos ⟨by omega, p.2⟩]
      · rw [if_neg p, if_neg (fun z => ?_)]
        by_cases e : d = n
        · subst e; exact q z.2
        · exact p ⟨by omega, z.2⟩
theorem Gd.bound {t : Int} {f : Int → Int} {gu k v : Int} (h : Gd t f) (hg : 0 ≤ gu ∧ gu < 4) (hk : 0 ≤ k ∧ k < 4) (hv : (k < 2 → 100 ≤ v ∧ v ≤ 900) ∧ (k = 2 → 0 ≤ v ∧ v ≤ 100) ∧ (k = 3 → 0 ≤ v ∧ v ≤ 200)) : Gd t (fBound f gu k v) := by
  obtain ⟨hI, hB, hs, hC⟩ := id h
  have h0 := hI.1
  have hF := hI.2.1
  have hIL := Inv_bound hI hg hk hv
  unfold fBound at hIL ⊢
  have gI : Inv (up f (28 + (4 * gu + k)) v) := Inv_lim hI hg hk hv
  generalize hh : up f (28 + (4 * gu + k)) v = g at hIL gI ⊢
  have u : ∀ j : Int, j ≠ 28 + (4 * gu + k) → g j = f j := fun j x => by rw [← hh, up_ne x]
  have gB : Bal g := hB.cg (u _ (by omega)) (u _ (by omega)) (u _ (by omega)) (u _ (by omega)) (fun i x y => u _ (by omega)) (fun i x y => u _ (by omega))
  have g0 : g 0 = f 0 := u _ (by omega)
  obtain ⟨b1, b2, b3⟩ := bnd_fact (gu := gu) gI gB (f 0).toNat (by omega)
  obtain ⟨-, i2⟩ := bndN (gu := gu) gI (f 0).toNat
  have w : ∀ j : Int, j ≠ 4 → (j < 44 ∨ j % 9 ≠ 2) → fBndN g gu (f 0).toNat j = g j := fun j x y => i2 j x (fun c p r => by omega)
  refine ⟨hIL, b1, ?_, hC.cg (by rw [w 0 (by omega) (by omega), g0]) (by rw [w 2 (by omega) (by omega), u 2 (by omega)]) (by rw [w 3 (by omega) (by omega), u 3 (by omega)]) (by rw [u 4 (by omega)] at b2; exact b2) (by rw [w 5 (by omega) (by omega), u 5 (by omega)]) (by rw [w 6 (by omega) (by omega), u 6 (by omega)]) (by rw [w 9 (by omega) (by omega), u 9 (by omega)]) (fun c x y => by rw [w _ (by omega) (by omega), u _ (by omega)])⟩
  intro d x y z
  rw [w 0 (by omega) (by omega), g0] at y
  rw [b3 d x (by omega)] at z
  obtain ⟨q1, q2, q3, -, -⟩ := hI.2.2.2.2.2.2 d x y
  by_cases p : d < (f 0).toNat ∧ g (44 + 9 * d) = gu ∧ sWhy g d > 0
  · rw [if_pos p] at z
    exact absurd z (by decide)
  · rw [if_neg p, u _ (by omega)] at z
    have e1 : sWhy (fBndN g gu (f 0).toNat) d = sWhy g d := sWhy_ct gI (by omega) (fun j a b => w j (by omega) (by omega))
    rw [e1]
    by_cases e : f (44 + 9 * d) = gu
    · have e2 : g (44 + 9 * d) = gu := by rw [u _ (by omega)]; exact e
      have := sWhy_r g d
      have p2 : ¬ sWhy g d > 0 := fun r => p ⟨by omega, e2, r⟩
      omega
    · rw [sWhy_cg (f := f) (by omega) (u _ (by omega)) (u _ (by omega)) (u _ (by omega)) (fun j a b => u _ (by omega)) (fun j a b => u _ (by omega)) (fun j a b => u _ (by omega))]
      exact hs d x y z
/-! a setting changes -/
theorem Gd.put {t : Int} {f : Int → Int} {i v : Int} (h : Gd t f) (hv : (i = 0 ∧ 0 ≤ v ∧ v ≤ 50) ∨ (i = 1 ∧ 1 ≤ v ∧ v ≤ 200)) : Gd t (fSet f i v) := by
  obtain ⟨hI, hB, hs, hC⟩ := h
  have hIS := Inv_set hI hv
  unfold fSet
  have u : ∀ j : Int, j ≠ 10 + i → up f (10 + i) v j = f j := fun j x => up_ne x
  refine ⟨hIS, hB.cg (u _ (by omega)) (u _ (by omega)) (u _ (by omega)) (u _ (by omega)) (fun i x y => u _ (by omega)) (fun i x y => u _ (by omega)), ?_, hC.cg (u _ (by omega)) (u _ (by omega)) (u _ (by omega)) (by rw [u 4 (by omega)]; exact Int.le_refl _) (u _ (by omega)) (u _ (by omega)) (u _ (by omega)) (fun i x y => u _ (by omega))⟩
  intro d x y z
  rw [u 0 (by omega)] at y
  rw [u _ (by omega)] at z
  rw [sWhy_ct hI ⟨x, y⟩ (fun j a b => u j (by omega))]
  exact hs d x y z
theorem Gd.new {t : Int} (ht : 0 ≤ t) : Gd t fNew := by
  refine ⟨Inv_new, ⟨rfl, rfl⟩, fun c a b => ?_, ⟨by decide, by decide⟩, fun c a b => ?_, ?_, ?_, ?_, ?_⟩
  · have : fNew 0 = 0 := rfl
    omega
  · have : fNew 0 = 0 := rfl
    omega
  · show 0 ≤ (0 : Int) ∧ (0 : Int) ≤ t
    omega
  · show 0 ≤ (0 : Int) ∧ (0 : Int) ≤ 50 * t
    omega
  · show (0 : Int) ≤ t
    omega
  · show 0 ≤ (0 : Int) ∧ (0 : Int) ≤ 3200 * t
    omega
