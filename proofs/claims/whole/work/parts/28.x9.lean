theorem xOk_0 {f : Int → Int} {a b c : Int} : xOk f 0 a b c ↔ (f 0 < 10) := Iff.rfl
theorem xOk_1 {f : Int → Int} {a b c : Int} : xOk f 1 a b c ↔ ((0 ≤ a ∧ a < f 0) ∧ 100 ≤ f (49 + 9 * a + b) - c) := Iff.rfl
theorem xOk_2 {f : Int → Int} {a b c : Int} : xOk f 2 a b c ↔ ((0 ≤ a ∧ a < f 0) ∧ f (49 + 9 * a + b) + c ≤ 900) := Iff.rfl
theorem xOk_3 {f : Int → Int} {a b c : Int} : xOk f 3 a b c ↔ (f 1 < 4) := Iff.rfl
theorem xOk_4 {f : Int → Int} {a b c : Int} : xOk f 4 a b c ↔ ((0 ≤ a ∧ a < f 0) ∧ (0 ≤ b ∧ b < f 1)) := Iff.rfl
theorem xOk_5 {f : Int → Int} {a b c : Int} : xOk f 5 a b c ↔ (0 ≤ a ∧ a < f 0) := Iff.rfl
theorem xOk_6 {f : Int → Int} {a b c : Int} : xOk f 6 a b c ↔ (0 ≤ a ∧ a < f 0) := Iff.rfl
theorem xOk_7 {f : Int → Int} {a b c : Int} : xOk f 7 a b c ↔ (b < 2 ∧ 100 ≤ c ∧ c ≤ 900 ∨ b = 2 ∧ 0 ≤ c ∧ c ≤ 100 ∨ b = 3 ∧ 0 ≤ c ∧ c ≤ 200) := Iff.rfl
theorem sXs_e0 (t : Int → Int) (sz p : Int) : (sXs t sz 0 p 3).2 = (sXs t sz 0 p 1).2 ∧ ((sXs t sz 0 p 3).1 = -1 ↔ (sXs t sz 0 p 1).1 = -1) := by
  have p2 := sXs_pass (t := t) (sz := sz) (p := p) (r := 0) (i := 2) (by decide)
  have p1 := sXs_pass (t := t) (sz := sz) (p := p) (r := 0) (i := 1) (by decide)
  exact ⟨(p2.1).trans p1.1, (p2.2).trans p1.2⟩
theorem sXs_e1 (t : Int → Int) (sz p : Int) : (sXs t sz 1 p 3).2 = (sXs t sz 1 p 2).2 ∧ ((sXs t sz 1 p 3).1 = -1 ↔ (sXs t sz 1 p 2).1 = -1) := by
  have p2 := sXs_pass (t := t) (sz := sz) (p := p) (r := 1) (i := 2) (by decide)
  exact ⟨p2.1, p2.2⟩
theorem sXs_e2 (t : Int → Int) (sz p : Int) : (sXs t sz 2 p 3).2 = (sXs t sz 2 p 2).2 ∧ ((sXs t sz 2 p 3).1 = -1 ↔ (sXs t sz 2 p 2).1 = -1) := by
  have p2 := sXs_pass (t := t) (sz := sz) (p := p) (r := 2) (i := 2) (by decide)
  exact ⟨p2.1, p2.2⟩
theorem sXs_e3 (t : Int → Int) (sz p : Int) : (sXs t sz 3 p 3).2 = (sXs t sz 3 p 3).2 ∧ ((sXs t sz 3 p 3).1 = -1 ↔ (sXs t sz 3 p 3).1 = -1) := by
  exact ⟨rfl, Iff.rfl⟩
theorem sXs_e4 (t : Int → Int) (sz p : Int) : (sXs t sz 4 p 3).2 = (sXs t sz 4 p 2).2 ∧ ((sXs t sz 4 p 3).1 = -1 ↔ (sXs t sz 4 p 2).1 = -1) := by
  have p2 := sXs_pass (t := t) (sz := sz) (p := p) (r := 4) (i := 2) (by decide)
  exact ⟨p2.1, p2.2⟩
theorem sXs_e5 (t : Int → Int) (sz p : Int) : (sXs t sz 5 p 3).2 = (sXs t sz 5 p 0).2 ∧ ((sXs t sz 5 p 3).1 = -1 ↔ (sXs t sz 5 p 0).1 = -1) := by
  have p2 := sXs_pass (t := t) (sz := sz) (p := p) (r := 5) (i := 2) (by decide)
  have p1 := sXs_pass (t := t) (sz := sz) (p := p) (r := 5) (i := 1) (by decide)
  have p0 := sXs_pass (t := t) (sz := sz) (p := p) (r := 5) (i := 0) (by decide)
  exact ⟨((p2.1).trans p1.1).trans p0.1, ((p2.2).trans p1.2).trans p0.2⟩
theorem sXs_e6 (t : Int → Int) (sz p : Int) : (sXs t sz 6 p 3).2 = (sXs t sz 6 p 1).2 ∧ ((sXs t sz 6 p 3).1 = -1 ↔ (sXs t sz 6 p 1).1 = -1) := by
  have p2 := sXs_pass (t := t) (sz := sz) (p := p) (r := 6) (i := 2) (by decide)
  have p1 := sXs_pass (t := t) (sz := sz) (p := p) (r := 6) (i := 1) (by decide)
  exact ⟨(p2.1).trans p1.1, (p2.2).trans p1.2⟩
theorem sXs_e7 (t : Int → Int) (sz p : Int) : (sXs t sz 7 p 3).2 = (sXs t sz 7 p 2).2 ∧ ((sXs t sz 7 p 3).1 = -1 ↔ (sXs t sz 7 p 2).1 = -1) := by
  have p2 := sXs_pass (t := t) (sz := sz) (p := p) (r := 7) (i := 2) (by decide)
  exact ⟨p2.1, p2.2⟩
/-- what the reading of a command's numbers answers, and does -/
def rdPost (M0 : MM) (m : Nat) (t : Int → Int) (sz : Int) (r : Nat) (p o : Int) (f : Int → Int) (z : Int) (M1 : MM) : Prop :=
  ((sXs t sz r p 3).1 = -1 ∧ z = 0 ∧ Tx M0 M1 m (sXs t sz r p 3).2 o f) ∨
  ((sXs t sz r p 3).1 ≠ -1 ∧ z = 1 ∧ ((xOk f r (sXs t sz r p 0).1 (sXs t sz r p 1).1 (sXs t sz r p 2).1 ∧ Tx M0 M1 m (sXs t sz r p 3).2 o (xF f r (sXs t sz r p 0).1 (sXs t sz r p 1).1 (sXs t sz r p 2).1 (sXs t sz r p 3).1)) ∨
    (¬ xOk f r (sXs t sz r p 0).1 (sXs t sz r p 1).1 (sXs t sz r p 2).1 ∧ Tx M0 M1 m (sXs t sz r p 3).2 (o + 1) f)))
theorem rd_f0 {M0 M1 : MM} {m : Nat} {t f : Int → Int} {sz p o : Int} {za zb : Int} (ha : za = (sXs t sz 0 p 0).1) (hb : zb = (sXs t sz 0 p 1).1) (hn : zb = -1) (hT : Tx M0 M1 m (sXs t sz 0 p 1).2 o f) : rdPost M0 m t sz 0 p o f 0 M1 := by
  have e := sXs_e0 t sz p
  exact Or.inl ⟨e.2.mpr (by rw [← hb]; exact hn), rfl, by rw [e.1]; exact hT⟩
theorem rd_y0 {M0 M1 : MM} {m : Nat} {t f : Int → Int} {sz p o : Int} {za zb : Int} (ha : za = (sXs t sz 0 p 0).1) (hb : zb = (sXs t sz 0 p 1).1) (hn : zb ≠ -1) (ok : f 0 < 10) (hT : Tx M0 M1 m (sXs t sz 0 p 1).2 (o + 0) (fChair f za zb)) : rdPost M0 m t sz 0 p o f 1 M1 := by
  have e := sXs_e0 t sz p
  subst ha; subst hb
  rw [Int.add_zero] at hT
  exact Or.inr ⟨fun q => hn (e.2.mp q), rfl, Or.inl ⟨xOk_0.mpr ok, by rw [e.1]; exact hT⟩⟩
theorem rd_n0 {M0 M1 : MM} {m : Nat} {t f : Int → Int} {sz p o : Int} {za zb : Int} (ha : za = (sXs t sz 0 p 0).1) (hb : zb = (sXs t sz 0 p 1).1) (hn : zb ≠ -1) (ok : ¬ (f 0 < 10)) (hT : Tx M0 M1 m (sXs t sz 0 p 1).2 (o + 1) f) : rdPost M0 m t sz 0 p o f 1 M1 := by
  have e := sXs_e0 t sz p
  subst ha; subst hb
  exact Or.inr ⟨fun q => hn (e.2.mp q), rfl, Or.inr ⟨fun q => ok (xOk_0.mp q), by rw [e.1]; exact hT⟩⟩
theorem rd_f1 {M0 M1 : MM} {m : Nat} {t f : Int → Int} {sz p o : Int} {za zb zc : Int} (ha : za = (sXs t sz 1 p 0).1) (hb : zb = (sXs t sz 1 p 1).1) (hc : zc = (sXs t sz 1 p 2).1) (hn : zc = -1) (hT : Tx M0 M1 m (sXs t sz 1 p 2).2 o f) : rdPost M0 m t sz 1 p o f 0 M1 := by
  have e := sXs_e1 t sz p
  exact Or.inl ⟨e.2.mpr (by rw [← hc]; exact hn), rfl, by rw [e.1]; exact hT⟩
theorem rd_y1 {M0 M1 : MM} {m : Nat} {t f : Int → Int} {sz p o : Int} {za zb zc : Int} (ha : za = (sXs t sz 1 p 0).1) (hb : zb = (sXs t sz 1 p 1).1) (hc : zc = (sXs t sz 1 p 2).1) (hn : zc ≠ -1) (ok : (0 ≤ za ∧ za < f 0) ∧ 100 ≤ f (49 + 9 * za + zb) - zc) (hT : Tx M0 M1 m (sXs t sz 1 p 2).2 (o + 0) (fSaw f za zb zc)) : rdPost M0 m t sz 1 p o f 1 M1 := by
  have e := sXs_e1 t sz p
  subst ha; subst hb; subst hc
  rw [Int.add_zero] at hT
  exact Or.inr ⟨fun q => hn (e.2.mp q), rfl, Or.inl ⟨xOk_1.mpr ok, by rw [e.1]; exact hT⟩⟩
theorem rd_n1 {M0 M1 : MM} {m : Nat} {t f : Int → Int} {sz p o : Int} {za zb zc : Int} (ha : za = (sXs t sz 1 p 0).1) (hb : zb = (sXs t sz 1 p 1).1) (hc : zc = (sXs t sz 1 p 2).1) (hn : zc ≠ -1) (ok : ¬ ((0 ≤ za ∧ za < f 0) ∧ 100 ≤ f (49 + 9 * za + zb) - zc)) (hT : Tx M0 M1 m (sXs t sz 1 p 2).2 (o + 1) f) : rdPost M0 m t sz 1 p o f 1 M1 := by
  have e := sXs_e1 t sz p
  subst ha; subst hb; subst hc
  exact Or.inr ⟨fun q => hn (e.2.mp q), rfl, Or.inr ⟨fun q => ok (xOk_1.mp q), by rw [e.1]; exact hT⟩⟩
theorem rd_f2 {M0 M1 : MM} {m : Nat} {t f : Int → Int} {sz p o : Int} {za zb zc : Int} (ha : za = (sXs t sz 2 p 0).1) (hb : zb = (sXs t sz 2 p 1).1) (hc : zc = (sXs t sz 2 p 2).1) (hn : zc = -1) (hT : Tx M0 M1 m (sXs t sz 2 p 2).2 o f) : rdPost M0 m t sz 2 p o f 0 M1 := by
  have e := sXs_e2 t sz p
  exact Or.inl ⟨e.2.mpr (by rw [← hc]; exact hn), rfl, by rw [e.1]; exact hT⟩
theorem rd_y2 {M0 M1 : MM} {m : Nat} {t f : Int → Int} {sz p o : Int} {za zb zc : Int} (ha : za = (sXs t sz 2 p 0).1) (hb : zb = (sXs t sz 2 p 1).1) (hc : zc = (sXs t sz 2 p 2).1) (hn : zc ≠ -1) (ok : (0 ≤ za ∧ za < f 0) ∧ f (49 + 9 * za + zb) + zc ≤ 900) (hT : Tx M0 M1 m (sXs t sz 2 p 2).2 (o + 0) (fShim f za zb zc)) : rdPost M0 m t sz 2 p o f 1 M1 := by
  have e := sXs_e2 t sz p
  subst ha; subst hb; subst hc
  rw [Int.add_zero] at hT
  exact Or.inr ⟨fun q => hn (e.2.mp q), rfl, Or.inl ⟨xOk_2.mpr ok, by rw [e.1]; exact hT⟩⟩
theorem rd_n2 {M0 M1 : MM} {m : Nat} {t f : Int → Int} {sz p o : Int} {za zb zc : Int} (ha : za = (sXs t sz 2 p 0).1) (hb : zb = (sXs t sz 2 p 1).1) (hc : zc = (sXs t sz 2 p 2).1) (hn : zc ≠ -1) (ok : ¬ ((0 ≤ za ∧ za < f 0) ∧ f (49 + 9 * za + zb) + zc ≤ 900)) (hT : Tx M0 M1 m (sXs t sz 2 p 2).2 (o + 1) f) : rdPost M0 m t sz 2 p o f 1 M1 := by
  have e := sXs_e2 t sz p
  subst ha; subst hb; subst hc
  exact Or.inr ⟨fun q => hn (e.2.mp q), rfl, Or.inr ⟨fun q => ok (xOk_2.mp q), by rw [e.1]; exact hT⟩⟩
theorem rd_f3 {M0 M1 : MM} {m : Nat} {t f : Int → Int} {sz p o : Int} {za zb zc zd : Int} (ha : za = (sXs t sz 3 p 0).1) (hb : zb = (sXs t sz 3 p 1).1) (hc : zc = (sXs t sz 3 p 2).1) (hd : zd = (sXs t sz 3 p 3).1) (hn : zd = -1) (hT : Tx M0 M1 m (sXs t sz 3 p 3).2 o f) : rdPost M0 m t sz 3 p o f 0 M1 := by
  have e := sXs_e3 t sz p
  exact Or.inl ⟨e.2.mpr (by rw [← hd]; exact hn), rfl, by rw [e.1]; exact hT⟩
theorem rd_y3 {M0 M1 : MM} {m : Nat} {t f : Int → Int} {sz p o : Int} {za zb zc zd : Int} (ha : za = (sXs t sz 3 p 0).1) (hb : zb = (sXs t sz 3 p 1).1) (hc : zc = (sXs t sz 3 p 2).1) (hd : zd = (sXs t sz 3 p 3).1) (hn : zd ≠ -1) (ok : f 1 < 4) (hT : Tx M0 M1 m (sXs t sz 3 p 3).2 (o + 0) (fFloor f za zb zc zd)) : rdPost M0 m t sz 3 p o f 1 M1 := by
  have e := sXs_e3 t sz p
  subst ha; subst hb; subst hc; subst hd
  rw [Int.add_zero] at hT
  exact Or.inr ⟨fun q => hn (e.2.mp q), rfl, Or.inl ⟨xOk_3.mpr ok, by rw [e.1]; exact hT⟩⟩
theorem rd_n3 {M0 M1 : MM} {m : Nat} {t f : Int → Int} {sz p o : Int} {za zb zc zd : Int} (ha : za = (sXs t sz 3 p 0).1) (hb : zb = (sXs t sz 3 p 1).1) (hc : zc = (sXs t sz 3 p 2).1) (hd : zd = (sXs t sz 3 p 3).1) (hn : zd ≠ -1) (ok : ¬ (f 1 < 4)) (hT : Tx M0 M1 m (sXs t sz 3 p 3).2 (o + 1) f) : rdPost M0 m t sz 3 p o f 1 M1 := by
  have e := sXs_e3 t sz p
  subst ha; subst hb; subst hc; subst hd
  exact Or.inr ⟨fun q => hn (e.2.mp q), rfl, Or.inr ⟨fun q => ok (xOk_3.mp q), by rw [e.1]; exact hT⟩⟩
theorem rd_f4 {M0 M1 : MM} {m : Nat} {t f : Int → Int} {sz p o : Int} {za zb zc : Int} (ha : za = (sXs t sz 4 p 0).1) (hb : zb = (sXs t sz 4 p 1).1) (hc : zc = (sXs t sz 4 p 2).1) (hn : zc = -1) (hT : Tx M0 M1 m (sXs t sz 4 p 2).2 o f) : rdPost M0 m t sz 4 p o f 0 M1 := by
  have e := sXs_e4 t sz p
  exact Or.inl ⟨e.2.mpr (by rw [← hc]; exact hn), rfl, by rw [e.1]; exact hT⟩
theorem rd_y4 {M0 M1 : MM} {m : Nat} {t f : Int → Int} {sz p o : Int} {za zb zc : Int} (ha : za = (sXs t sz 4 p 0).1) (hb : zb = (sXs t sz 4 p 1).1) (hc : zc = (sXs t sz 4 p 2).1) (hn : zc ≠ -1) (ok : (0 ≤ za ∧ za < f 0) ∧ (0 ≤ zb ∧ zb < f 1)) (hT : Tx M0 M1 m (sXs t sz 4 p 2).2 (o + 0) (fBring f za zb zc)) : rdPost M0 m t sz 4 p o f 1 M1 := by
  have e := sXs_e4 t sz p
  subst ha; subst hb; subst hc
  rw [Int.add_zero] at hT
  exact Or.inr ⟨fun q => hn (e.2.mp q), rfl, Or.inl ⟨xOk_4.mpr ok, by rw [e.1]; exact hT⟩⟩
theorem rd_n4 {M0 M1 : MM} {m : Nat} {t f : Int → Int} {sz p o : Int} {za zb zc : Int} (ha : za = (sXs t sz 4 p 0).1) (hb : zb = (sXs t sz 4 p 1).1) (hc : zc = (sXs t sz 4 p 2).1) (hn : zc ≠ -1) (ok : ¬ ((0 ≤ za ∧ za < f 0) ∧ (0 ≤ zb ∧ zb < f 1))) (hT : Tx M0 M1 m (sXs t sz 4 p 2).2 (o + 1) f) : rdPost M0 m t sz 4 p o f 1 M1 := by
  have e := sXs_e4 t sz p
  subst ha; subst hb; subst hc
  exact Or.inr ⟨fun q => hn (e.2.mp q), rfl, Or.inr ⟨fun q => ok (xOk_4.mp q), by rw [e.1]; exact hT⟩⟩
theorem rd_f5 {M0 M1 : MM} {m : Nat} {t f : Int → Int} {sz p o : Int} {za : Int} (ha : za = (sXs t sz 5 p 0).1) (hn : za = -1) (hT : Tx M0 M1 m (sXs t sz 5 p 0).2 o f) : rdPost M0 m t sz 5 p o f 0 M1 := by
  have e := sXs_e5 t sz p
  exact Or.inl ⟨e.2.mpr (by rw [← ha]; exact hn), rfl, by rw [e.1]; exact hT⟩
theorem rd_y5 {M0 M1 : MM} {m : Nat} {t f : Int → Int} {sz p o : Int} {za : Int} (ha : za = (sXs t sz 5 p 0).1) (hn : za ≠ -1) (ok : 0 ≤ za ∧ za < f 0) (hT : Tx M0 M1 m (sXs t sz 5 p 0).2 (o + 0) (fTest f za)) : rdPost M0 m t sz 5 p o f 1 M1 := by
  have e := sXs_e5 t sz p
  subst ha
  rw [Int.add_zero] at hT
  exact Or.inr ⟨fun q => hn (e.2.mp q), rfl, Or.inl ⟨xOk_5.mpr ok, by rw [e.1]; exact hT⟩⟩
theorem rd_n5 {M0 M1 : MM} {m : Nat} {t f : Int → Int} {sz p o : Int} {za : Int} (ha : za = (sXs t sz 5 p 0).1) (hn : za ≠ -1) (ok : ¬ (0 ≤ za ∧ za < f 0)) (hT : Tx M0 M1 m (sXs t sz 5 p 0).2 (o + 1) f) : rdPost M0 m t sz 5 p o f 1 M1 := by
  have e := sXs_e5 t sz p
  subst ha
  exact Or.inr ⟨fun q => hn (e.2.mp q), rfl, Or.inr ⟨fun q => ok (xOk_5.mp q), by rw [e.1]; exact hT⟩⟩
theorem rd_f6 {M0 M1 : MM} {m : Nat} {t f : Int → Int} {sz p o : Int} {za zb : Int} (ha : za = (sXs t sz 6 p 0).1) (hb : zb = (sXs t sz 6 p 1).1) (hn : zb = -1) (hT : Tx M0 M1 m (sXs t sz 6 p 1).2 o f) : rdPost M0 m t sz 6 p o f 0 M1 := by
  have e := sXs_e6 t sz p
  exact Or.inl ⟨e.2.mpr (by rw [← hb]; exact hn), rfl, by rw [e.1]; exact hT⟩
theorem rd_y6 {M0 M1 : MM} {m : Nat} {t f : Int → Int} {sz p o : Int} {za zb : Int} (ha : za = (sXs t sz 6 p 0).1) (hb : zb = (sXs t sz 6 p 1).1) (hn : zb ≠ -1) (ok : 0 ≤ za ∧ za < f 0) (hT : Tx M0 M1 m (sXs t sz 6 p 1).2 (o + 0) (fSit f za zb)) : rdPost M0 m t sz 6 p o f 1 M1 := by
  have e := sXs_e6 t sz p
  subst ha; subst hb
  rw [Int.add_zero] at hT
  exact Or.inr ⟨fun q => hn (e.2.mp q), rfl, Or.inl ⟨xOk_6.mpr ok, by rw [e.1]; exact hT⟩⟩
theorem rd_n6 {M0 M1 : MM} {m : Nat} {t f : Int → Int} {sz p o : Int} {za zb : Int} (ha : za = (sXs t sz 6 p 0).1) (hb : zb = (sXs t sz 6 p 1).1) (hn : zb ≠ -1) (ok : ¬ (0 ≤ za ∧ za < f 0)) (hT : Tx M0 M1 m (sXs t sz 6 p 1).2 (o + 1) f) : rdPost M0 m t sz 6 p o f 1 M1 := by
  have e := sXs_e6 t sz p
  subst ha; subst hb
  exact Or.inr ⟨fun q => hn (e.2.mp q), rfl, Or.inr ⟨fun q => ok (xOk_6.mp q), by rw [e.1]; exact hT⟩⟩
theorem rd_f7 {M0 M1 : MM} {m : Nat} {t f : Int → Int} {sz p o : Int} {za zb zc : Int} (ha : za = (sXs t sz 7 p 0).1) (hb : zb = (sXs t sz 7 p 1).1) (hc : zc = (sXs t sz 7 p 2).1) (hn : zc = -1) (hT : Tx M0 M1 m (sXs t sz 7 p 2).2 o f) : rdPost M0 m t sz 7 p o f 0 M1 := by
  have e := sXs_e7 t sz p
  exact Or.inl ⟨e.2.mpr (by rw [← hc]; exact hn), rfl, by rw [e.1]; exact hT⟩
theorem rd_y7 {M0 M1 : MM} {m : Nat} {t f : Int → Int} {sz p o : Int} {za zb zc : Int} (ha : za = (sXs t sz 7 p 0).1) (hb : zb = (sXs t sz 7 p 1).1) (hc : zc = (sXs t sz 7 p 2).1) (hn : zc ≠ -1) (ok : zb < 2 ∧ 100 ≤ zc ∧ zc ≤ 900 ∨ zb = 2 ∧ 0 ≤ zc ∧ zc ≤ 100 ∨ zb = 3 ∧ 0 ≤ zc ∧ zc ≤ 200) (hT : Tx M0 M1 m (sXs t sz 7 p 2).2 (o + 0) (fBound f za zb zc)) : rdPost M0 m t sz 7 p o f 1 M1 := by
  have e := sXs_e7 t sz p
  subst ha; subst hb; subst hc
  rw [Int.add_zero] at hT
  exact Or.inr ⟨fun q => hn (e.2.mp q), rfl, Or.inl ⟨xOk_7.mpr ok, by rw [e.1]; exact hT⟩⟩
theorem rd_n7 {M0 M1 : MM} {m : Nat} {t f : Int → Int} {sz p o : Int} {za zb zc : Int} (ha : za = (sXs t sz 7 p 0).1) (hb : zb = (sXs t sz 7 p 1).1) (hc : zc = (sXs t sz 7 p 2).1) (hn : zc ≠ -1) (ok : ¬ (zb < 2 ∧ 100 ≤ zc ∧ zc ≤ 900 ∨ zb = 2 ∧ 0 ≤ zc ∧ zc ≤ 100 ∨ zb = 3 ∧ 0 ≤ zc ∧ zc ≤ 200)) (hT : Tx M0 M1 m (sXs t sz 7 p 2).2 (o + 1) f) : rdPost M0 m t sz 7 p o f 1 M1 := by
  have e := sXs_e7 t sz p
  subst ha; subst hb; subst hc
  exact Or.inr ⟨fun q => hn (e.2.mp q), rfl, Or.inr ⟨fun q => ok (xOk_7.mp q), by rw [e.1]; exact hT⟩⟩
abbrev rm_X5_chairSign : Room := { frames := 2, cells := 0, slots := 0, locals := 53 }
set_option maxHeartbeats 4000000 in
set_option maxRecDepth 100000 in
theorem c_X5_chairSign (l : Launch) {D : DD} {Λ : LY} {M : MM} {m : Nat} {M0 : MM} {t f : Int → Int} {sz p o : Int} (hL : MdL D Λ m) (hT : Tx M0 M m p o f) (hz : M0 m 2 = sz) (ht : M0 (m + 1) = t) (hC : Txt t sz) (hp : 0 ≤ p ∧ p ≤ sz) : CI l yX5_chairSign cX5_chairSign 1 .int rm_X5_chairSign [.ref m] D Λ M (fun z M1 => z = (sFig t sz 0 1 p 0 9).1 ∧ Tx M0 M1 m (sFig t sz 0 1 p 0 9).2 o f) := by
  refine CI_of rfl rfl (Nat.le_of_ble_eq_true rfl) (fun Γ g r => ?_)
  refine V_aload_n (q := 1) g dX5_chairSign_0 rfl rfl ?_
  refine V_iconst (q := 2) g dX5_chairSign_1 rfl ?_
  refine V_iconst (q := 3) g dX5_chairSign_2 rfl ?_
  refine V_iconst (q := 4) g dX5_chairSign_3 rfl ?_
  refine V_bipush (q := 6) g dX5_chairSign_4 (by decide) rfl ?_
  refine V_callVI_4 (q := 9) g (c_X5_figures l hL hT hz ht hC hp (by decide) (k := 1) (Or.inl ⟨rfl, rfl⟩) (by decide)) dX5_chairSign_6 k_X5_114 hL.1 rfl rfl rfl rfl ⟨rfl, rfl⟩ rfl (fun z1 M1 e1 => ?_)
  obtain ⟨e1, hT1⟩ := e1
  exact V_ireturn g r dX5_chairSign_9 rfl ⟨e1, hT1⟩
abbrev rm_X5_fourSign : Room := { frames := 2, cells := 0, slots := 0, locals := 53 }
set_option maxHeartbeats 4000000 in
set_option maxRecDepth 100000 in
theorem c_X5_fourSign (l : Launch) {D : DD} {Λ : LY} {M : MM} {m : Nat} {M0 : MM} {t f : Int → Int} {sz p o : Int} {ah : Int} (hL : MdL D Λ m) (hT : Tx M0 M m p o f) (hz : M0 m 2 = sz) (ht : M0 (m + 1) = t) (hC : Txt t sz) (hp : 0 ≤ p ∧ p ≤ sz) (hah : -1 ≤ ah ∧ ah ≤ 900) : CI l yX5_fourSign cX5_fourSign 2 .int rm_X5_fourSign [.ref m, vi ah] D Λ M (fun z M1 => z = (sFig t sz ah 1 p 0 3).1 ∧ Tx M0 M1 m (sFig t sz ah 1 p 0 3).2 o f) := by
  refine CI_of rfl rfl (Nat.le_of_ble_eq_true rfl) (fun Γ g r => ?_)
  refine V_aload_n (q := 1) g dX5_fourSign_0 rfl rfl ?_
  refine V_iload_n (q := 2) g dX5_fourSign_1 rfl rfl ?_
  refine V_iconst (q := 3) g dX5_fourSign_2 rfl ?_
  refine V_iconst (q := 4) g dX5_fourSign_3 rfl ?_
  refine V_iconst (q := 5) g dX5_fourSign_4 rfl ?_
  refine V_callVI_4 (q := 8) g (c_X5_figures l hL hT hz ht hC hp hah (k := 1) (Or.inl ⟨rfl, rfl⟩) (by decide)) dX5_fourSign_5 k_X5_114 hL.1 rfl rfl rfl rfl ⟨rfl, rfl⟩ rfl (fun z1 M1 e1 => ?_)
  obtain ⟨e1, hT1⟩ := e1
  exact V_ireturn g r dX5_fourSign_8 rfl ⟨e1, hT1⟩
abbrev rm_X5_done : Room := { frames := 0, cells := 0, slots := 0, locals := 0 }
set_option maxHeartbeats 4000000 in
set_option maxRecDepth 100000 in
theorem c_X5_done (l : Launch) {D : DD} {Λ : LY} {M : MM} {m : Nat} {M0 : MM} {f : Int → Int} {p o w d : Int} (hL : MdL D Λ m) (hT : Tx M0 M m p o f) (hd : (w = 1 ∧ d = 0) ∨ (w = 0 ∧ d = 1)) : CI l yX5_done cX5_done 2 .boolean rm_X5_done [.ref m, vi w] D Λ M (fun z M1 => 1 = z ∧ Tx M0 M1 m p (o + d) f) := by
  refine CI_of rfl rfl (Nat.le_of_ble_eq_true rfl) (fun Γ g r => ?_)
  refine V_aload_n (q := 1) g dX5_done_0 rfl rfl ?_
  refine V_dup (q := 2) g dX5_done_1 rfl rfl ?_
  refine V_getI (q := 5) g dX5_done_2 rfl f_X5_118 rfl hL.1 rfl (j := 10) rfl ?_
  rw [hT.2.1]
  refine V_iload_n (q := 6) g dX5_done_5 rfl rfl ?_
  refine V_if_eq (q := 9) g dX5_done_6 (tgt := 13) (by decide) rfl (by omega) (fun h6 => ?_) (fun h6 => ?_)
  · refine V_iconst (q := 14) g dX5_done_13 rfl ?_
    refine V_iadd (q := 15) g dX5_done_14 rfl ?_
    refine V_putI (q := 18) g dX5_done_15 rfl f_X5_118 tyX5_ok nmX5 rfl hL.1 rfl rfl (ty := .int) rfl rfl rfl (j := 10) rfl ?_
    refine V_iconst (q := 19) g dX5_done_18 rfl ?_
    exact V_ireturn g r dX5_done_19 rfl ⟨rfl, by first | (rw [show d = 0 by omega]; exact hT.o10) | (rw [show d = 1 by omega]; exact hT.o10)⟩
  · refine V_iconst (q := 10) g dX5_done_9 rfl ?_
    refine V_goto g dX5_done_10 (tgt := 14) (by decide) ?_
    refine V_iadd (q := 15) g dX5_done_14 rfl ?_
    refine V_putI (q := 18) g dX5_done_15 rfl f_X5_118 tyX5_ok nmX5 rfl hL.1 rfl rfl (ty := .int) rfl rfl rfl (j := 10) rfl ?_
    refine V_iconst (q := 19) g dX5_done_18 rfl ?_
    exact V_ireturn g r dX5_done_19 rfl ⟨rfl, by first | (rw [show d = 0 by omega]; exact hT.o10) | (rw [show d = 1 by omega]; exact hT.o10)⟩
abbrev rm_X5_readFloor : Room := { frames := 2, cells := 0, slots := 0, locals := 53 }
set_option maxHeartbeats 4000000 in
set_option maxRecDepth 100000 in
theorem c_X5_readFloor (l : Launch) {D : DD} {Λ : LY} {M : MM} {m : Nat} {M0 : MM} {t f : Int → Int} {sz p o : Int} (hL : MdL D Λ m) (hT : Tx M0 M m p o f) (hz : M0 m 2 = sz) (ht : M0 (m + 1) = t) (hC : Txt t sz) (hI : Inv f) (hp : 0 ≤ p ∧ p ≤ sz) : CI l yX5_readFloor cX5_readFloor 6 .boolean rm_X5_readFloor [.ref m, .ref (m + 3)] D Λ M (fun z M1 => rdPost M0 m t sz 3 p o f z M1) := by
  refine CI_of rfl rfl (Nat.le_of_ble_eq_true rfl) (fun Γ g r => ?_)
  have hC1 := hC.1
  have h0 := hI.1
  have h1 := hI.2.1
  have h11 := hI.2.2.2.1
  refine V_aload_n (q := 1) g dX5_readFloor_0 rfl rfl ?_
  refine V_iconst (q := 2) g dX5_readFloor_1 rfl ?_
  refine V_bipush (q := 4) g dX5_readFloor_2 (by decide) rfl ?_
  refine V_iconst (q := 5) g dX5_readFloor_4 rfl ?_
  refine V_bipush (q := 7) g dX5_readFloor_5 (by decide) rfl ?_
  refine V_callVI_4 (q := 10) g (c_X5_figures l hL hT hz ht hC hp (by omega) (k := 2) (Or.inr (Or.inl ⟨rfl, rfl⟩)) (by decide)) dX5_readFloor_7 k_X5_114 hL.1 rfl rfl rfl rfl ⟨rfl, rfl⟩ rfl (fun z1 M1 e1 => ?_)
  obtain ⟨e1, hT1⟩ := e1
  have a0 : z1 = (sXs t sz 3 p 0).1 := e1
  have hX0 : Tx M0 M1 m (sXs t sz 3 p 0).2 o f := hT1
  have g0 : ((sXs t sz 3 p 0).1 = -1 ∨ ((0 : Int) ≠ -1 ∧ 0 ≤ (sXs t sz 3 p 0).1 ∧ (sXs t sz 3 p 0).1 ≤ 50)) ∧ p ≤ (sXs t sz 3 p 0).2 ∧ (p ≤ sz → (sXs t sz 3 p 0).2 ≤ sz) := sFig_r (by decide) (by decide)
  refine V_istore_n_2 (q := 11) g dX5_readFloor_10 (by decide) rfl rfl ?_
  refine V_aload_n (q := 12) g dX5_readFloor_11 rfl rfl ?_
  refine V_iload_n (q := 13) g dX5_readFloor_12 rfl rfl ?_
  refine V_bipush (q := 15) g dX5_readFloor_13 (by decide) rfl ?_
  refine V_iconst (q := 16) g dX5_readFloor_15 rfl ?_
  refine V_bipush (q := 18) g dX5_readFloor_16 (by decide) rfl ?_
  refine V_callVI_4 (q := 21) g (c_X5_figures l hL hX0 hz ht hC (by omega) (by omega) (k := 2) (Or.inr (Or.inl ⟨rfl, rfl⟩)) (by decide)) dX5_readFloor_18 k_X5_114 hL.1 rfl rfl rfl rfl ⟨rfl, rfl⟩ rfl (fun z2 M2 e2 => ?_)
  obtain ⟨e2, hT2⟩ := e2
  have a1 : z2 = (sXs t sz 3 p 1).1 := by rw [e2, a0]; rfl
  rw [a0] at hT2
  have hX1 : Tx M0 M2 m (sXs t sz 3 p 1).2 o f := hT2
  have g1 : ((sXs t sz 3 p 1).1 = -1 ∨ ((sXs t sz 3 p 0).1 ≠ -1 ∧ 0 ≤ (sXs t sz 3 p 1).1 ∧ (sXs t sz 3 p 1).1 ≤ 50)) ∧ (sXs t sz 3 p 0).2 ≤ (sXs t sz 3 p 1).2 ∧ ((sXs t sz 3 p 0).2 ≤ sz → (sXs t sz 3 p 1).2 ≤ sz) := sFig_r (by decide) (by decide)
  refine V_istore_n_3 (q := 22) g dX5_readFloor_21 (by decide) rfl rfl ?_
  refine V_aload_n (q := 23) g dX5_readFloor_22 rfl rfl ?_
  refine V_iload_n (q := 24) g dX5_readFloor_23 rfl rfl ?_
  refine V_bipush (q := 26) g dX5_readFloor_24 (by decide) rfl ?_
  refine V_iconst (q := 27) g dX5_readFloor_26 rfl ?_
  refine V_bipush (q := 29) g dX5_readFloor_27 (by decide) rfl ?_
  refine V_callVI_4 (q := 32) g (c_X5_figures l hL hX1 hz ht hC (by omega) (by omega) (k := 2) (Or.inr (Or.inl ⟨rfl, rfl⟩)) (by decide)) dX5_readFloor_29 k_X5_114 hL.1 rfl rfl rfl rfl ⟨rfl, rfl⟩ rfl (fun z3 M3 e3 => ?_)
  obtain ⟨e3, hT3⟩ := e3
  have a2 : z3 = (sXs t sz 3 p 2).1 := by rw [e3, a1]; rfl
  rw [a1] at hT3
  have hX2 : Tx M0 M3 m (sXs t sz 3 p 2).2 o f := hT3
  have g2 : ((sXs t sz 3 p 2).1 = -1 ∨ ((sXs t sz 3 p 1).1 ≠ -1 ∧ 0 ≤ (sXs t sz 3 p 2).1 ∧ (sXs t sz 3 p 2).1 ≤ 50)) ∧ (sXs t sz 3 p 1).2 ≤ (sXs t sz 3 p 2).2 ∧ ((sXs t sz 3 p 1).2 ≤ sz → (sXs t sz 3 p 2).2 ≤ sz) := sFig_r (by decide) (by decide)
  refine V_istore_4 (q := 34) g dX5_readFloor_32 (by decide) rfl rfl ?_
  refine V_aload_n (q := 35) g dX5_readFloor_34 rfl rfl ?_
  refine V_iload (q := 37) g dX5_readFloor_35 rfl rfl ?_
  refine V_bipush (q := 39) g dX5_readFloor_37 (by decide) rfl ?_
  refine V_iconst (q := 40) g dX5_readFloor_39 rfl ?_
  refine V_bipush (q := 42) g dX5_readFloor_40 (by decide) rfl ?_
  refine V_callVI_4 (q := 45) g (c_X5_figures l hL hX2 hz ht hC (by omega) (by omega) (k := 2) (Or.inr (Or.inl ⟨rfl, rfl⟩)) (by decide)) dX5_readFloor_42 k_X5_114 hL.1 rfl rfl rfl rfl ⟨rfl, rfl⟩ rfl (fun z4 M4 e4 => ?_)
  obtain ⟨e4, hT4⟩ := e4
  have a3 : z4 = (sXs t sz 3 p 3).1 := by rw [e4, a2]; rfl
  rw [a2] at hT4
  have hX3 : Tx M0 M4 m (sXs t sz 3 p 3).2 o f := hT4
  have g3 : ((sXs t sz 3 p 3).1 = -1 ∨ ((sXs t sz 3 p 2).1 ≠ -1 ∧ 0 ≤ (sXs t sz 3 p 3).1 ∧ (sXs t sz 3 p 3).1 ≤ 50)) ∧ (sXs t sz 3 p 2).2 ≤ (sXs t sz 3 p 3).2 ∧ ((sXs t sz 3 p 2).2 ≤ sz → (sXs t sz 3 p 3).2 ≤ sz) := sFig_r (by decide) (by decide)
  refine V_istore_5 (q := 47) g dX5_readFloor_45 (by decide) rfl rfl ?_
  refine V_iload (q := 49) g dX5_readFloor_47 rfl rfl ?_
  refine V_iconst (q := 50) g dX5_readFloor_49 rfl ?_
  refine V_icmp_eq (q := 53) g dX5_readFloor_50 (tgt := 89) (by decide) rfl (by omega) (by omega) (fun h50 => ?_) (fun h50 => ?_)
  · refine V_iconst (q := 90) g dX5_readFloor_89 rfl ?_
    exact V_ireturn g r dX5_readFloor_90 rfl (rd_f3 a0 a1 a2 a3 (by omega) hX3)
  · refine V_aload_n (q := 54) g dX5_readFloor_53 rfl rfl ?_
    refine V_aload_n (q := 55) g dX5_readFloor_54 rfl rfl ?_
    refine V_iconst (q := 56) g dX5_readFloor_55 rfl ?_
    refine V_iaload (q := 57) g dX5_readFloor_56 rfl hL.2.2.2.1 (by omega) (by decide) ?_
    rw [hX3.2.2.1]
    refine V_iconst (q := 58) g dX5_readFloor_57 rfl ?_
    refine V_icmp_ge (q := 61) g dX5_readFloor_58 (tgt := 78) (by decide) rfl (by omega) (by omega) (fun h58 => ?_) (fun h58 => ?_)
    · refine V_iconst (q := 79) g dX5_readFloor_78 rfl ?_
      refine V_callVI_1 (q := 82) g (c_X5_done l hL hX3 (w := 0) (d := 1) (by decide)) dX5_readFloor_79 k_X5_141 hL.1 rfl rfl rfl rfl ⟨rfl, rfl⟩ rfl (fun z5 M5 e5 => ?_)
      obtain ⟨rfl, hT5⟩ := e5
      refine V_if_eq (q := 85) g dX5_readFloor_82 (tgt := 89) (by decide) rfl (by omega) (fun h82 => absurd h82 (by omega)) (fun h82 => ?_)
      refine V_iconst (q := 86) g dX5_readFloor_85 rfl ?_
      refine V_goto g dX5_readFloor_86 (tgt := 90) (by decide) ?_
      exact V_ireturn g r dX5_readFloor_90 rfl (by first | exact rd_y3 a0 a1 a2 a3 (by omega) (by omega) hT5 | exact rd_n3 a0 a1 a2 a3 (by omega) (by omega) hT5)
    · refine V_aload_n (q := 62) g dX5_readFloor_61 rfl rfl ?_
      refine V_iload_n (q := 63) g dX5_readFloor_62 rfl rfl ?_
      refine V_iload_n (q := 64) g dX5_readFloor_63 rfl rfl ?_
      refine V_iload (q := 66) g dX5_readFloor_64 rfl rfl ?_
      refine V_iload (q := 68) g dX5_readFloor_66 rfl rfl ?_
      refine V_callSI_5 (q := 71) g (c_X5_floorOn l hL.2.2.2.1 hX3.2.2.1 hI (by omega)) dX5_readFloor_68 k_X5_145 rfl rfl ⟨rfl, rfl⟩ rfl (fun z6 M6 e6 => ?_)
      obtain ⟨⟨e6, b6⟩, rfl⟩ := e6
      try simp only [aset_aset]
      have hXA := hX3.row (g := fFloor f z1 z2 z3 z4)
      refine V_if_le (q := 74) g dX5_readFloor_71 (tgt := 78) (by decide) rfl (by omega) (fun h71 => absurd h71 (by omega)) (fun h71 => ?_)
      refine V_iconst (q := 75) g dX5_readFloor_74 rfl ?_
      refine V_goto g dX5_readFloor_75 (tgt := 79) (by decide) ?_
      refine V_callVI_1 (q := 82) g (c_X5_done l hL hXA (w := 1) (d := 0) (by decide)) dX5_readFloor_79 k_X5_141 hL.1 rfl rfl rfl rfl ⟨rfl, rfl⟩ rfl (fun z7 M7 e7 => ?_)
      obtain ⟨rfl, hT7⟩ := e7
      refine V_if_eq (q := 85) g dX5_readFloor_82 (tgt := 89) (by decide) rfl (by omega) (fun h82 => absurd h82 (by omega)) (fun h82 => ?_)
      refine V_iconst (q := 86) g dX5_readFloor_85 rfl ?_
      refine V_goto g dX5_readFloor_86 (tgt := 90) (by decide) ?_
      exact V_ireturn g r dX5_readFloor_90 rfl (by first | exact rd_y3 a0 a1 a2 a3 (by omega) (by omega) hT7 | exact rd_n3 a0 a1 a2 a3 (by omega) (by omega) hT7)
abbrev rm_X5_readBring : Room := { frames := 6, cells := 0, slots := 0, locals := 131 }
set_option maxHeartbeats 4000000 in
set_option maxRecDepth 100000 in
theorem c_X5_readBring (l : Launch) {D : DD} {Λ : LY} {M : MM} {m : Nat} {M0 : MM} {t f : Int → Int} {sz p o : Int} (hL : MdL D Λ m) (hT : Tx M0 M m p o f) (hz : M0 m 2 = sz) (ht : M0 (m + 1) = t) (hC : Txt t sz) (hI : Inv f) (hp : 0 ≤ p ∧ p ≤ sz) : CI l yX5_readBring cX5_readBring 5 .boolean rm_X5_readBring [.ref m, .ref (m + 3)] D Λ M (fun z M1 => rdPost M0 m t sz 4 p o f z M1) := by
  refine CI_of rfl rfl (Nat.le_of_ble_eq_true rfl) (fun Γ g r => ?_)
  have hC1 := hC.1
  have h0 := hI.1
  have h1 := hI.2.1
  have h11 := hI.2.2.2.1
  refine V_aload_n (q := 1) g dX5_readBring_0 rfl rfl ?_
  refine V_callVI_0 (q := 4) g (c_X5_chairSign l hL hT (by omega) (by omega) hC hp) dX5_readBring_1 k_X5_121 hL.1 rfl rfl rfl rfl ⟨rfl, rfl⟩ rfl (fun z1 M1 e1 => ?_)
  obtain ⟨e1, hT1⟩ := e1
  have a0 : z1 = (sXs t sz 4 p 0).1 := e1
  have hX0 : Tx M0 M1 m (sXs t sz 4 p 0).2 o f := hT1
  have g0 : ((sXs t sz 4 p 0).1 = -1 ∨ ((0 : Int) ≠ -1 ∧ 0 ≤ (sXs t sz 4 p 0).1 ∧ (sXs t sz 4 p 0).1 ≤ 9)) ∧ p ≤ (sXs t sz 4 p 0).2 ∧ (p ≤ sz → (sXs t sz 4 p 0).2 ≤ sz) := sFig_r (by decide) (by decide)
  refine V_istore_n_2 (q := 5) g dX5_readBring_4 (by decide) rfl rfl ?_
  refine V_aload_n (q := 6) g dX5_readBring_5 rfl rfl ?_
  refine V_iload_n (q := 7) g dX5_readBring_6 rfl rfl ?_
  refine V_callVI_1 (q := 10) g (c_X5_fourSign l hL hX0 (by omega) (by omega) hC (by omega) (by omega)) dX5_readBring_7 k_X5_125 hL.1 rfl rfl rfl rfl ⟨rfl, rfl⟩ rfl (fun z2 M2 e2 => ?_)
  obtain ⟨e2, hT2⟩ := e2
  have a1 : z2 = (sXs t sz 4 p 1).1 := by rw [e2, a0]; rfl
  rw [a0] at hT2
  have hX1 : Tx M0 M2 m (sXs t sz 4 p 1).2 o f := hT2
  have g1 : ((sXs t sz 4 p 1).1 = -1 ∨ ((sXs t sz 4 p 0).1 ≠ -1 ∧ 0 ≤ (sXs t sz 4 p 1).1 ∧ (sXs t sz 4 p 1).1 ≤ 3)) ∧ (sXs t sz 4 p 0).2 ≤ (sXs t sz 4 p 1).2 ∧ ((sXs t sz 4 p 0).2 ≤ sz → (sXs t sz 4 p 1).2 ≤ sz) := sFig_r (by decide) (by decide)
  refine V_istore_n_3 (q := 11) g dX5_readBring_10 (by decide) rfl rfl ?_
  refine V_aload_n (q := 12) g dX5_readBring_11 rfl rfl ?_
  refine V_iload_n (q := 13) g dX5_readBring_12 rfl rfl ?_
  refine V_callVI_1 (q := 16) g (c_X5_fourSign l hL hX1 (by omega) (by omega) hC (by omega) (by omega)) dX5_readBring_13 k_X5_125 hL.1 rfl rfl rfl rfl ⟨rfl, rfl⟩ rfl (fun z3 M3 e3 => ?_)
  obtain ⟨e3, hT3⟩ := e3
  have a2 : z3 = (sXs t sz 4 p 2).1 := by rw [e3, a1]; rfl
  rw [a1] at hT3
  have hX2 : Tx M0 M3 m (sXs t sz 4 p 2).2 o f := hT3
  have g2 : ((sXs t sz 4 p 2).1 = -1 ∨ ((sXs t sz 4 p 1).1 ≠ -1 ∧ 0 ≤ (sXs t sz 4 p 2).1 ∧ (sXs t sz 4 p 2).1 ≤ 3)) ∧ (sXs t sz 4 p 1).2 ≤ (sXs t sz 4 p 2).2 ∧ ((sXs t sz 4 p 1).2 ≤ sz → (sXs t sz 4 p 2).2 ≤ sz) := sFig_r (by decide) (by decide)
  refine V_istore_4 (q := 18) g dX5_readBring_16 (by decide) rfl rfl ?_
  refine V_iload (q := 20) g dX5_readBring_18 rfl rfl ?_
  refine V_iconst (q := 21) g dX5_readBring_20 rfl ?_
  refine V_icmp_eq (q := 24) g dX5_readBring_21 (tgt := 67) (by decide) rfl (by omega) (by omega) (fun h21 => ?_) (fun h21 => ?_)
  · refine V_iconst (q := 68) g dX5_readBring_67 rfl ?_
    exact V_ireturn g r dX5_readBring_68 rfl (rd_f4 a0 a1 a2 (by omega) hX2)
  · refine V_aload_n (q := 25) g dX5_readBring_24 rfl rfl ?_
    refine V_aload_n (q := 26) g dX5_readBring_25 rfl rfl ?_
    refine V_iload_n (q := 27) g dX5_readBring_26 rfl rfl ?_
    refine V_callSI_2 (q := 30) g (c_X5_isChair l hL.2.2.2.1 hX2.2.2.1 hI (by omega)) dX5_readBring_27 k_X5_96 rfl rfl ⟨rfl, rfl⟩ rfl (fun z4 M4 e4 => ?_)
    obtain ⟨e4, rfl⟩ := e4
    refine V_if_eq (q := 33) g dX5_readBring_30 (tgt := 56) (by decide) rfl (by omega) (fun h30 => ?_) (fun h30 => ?_)
    · refine V_iconst (q := 57) g dX5_readBring_56 rfl ?_
      refine V_callVI_1 (q := 60) g (c_X5_done l hL hX2 (w := 0) (d := 1) (by decide)) dX5_readBring_57 k_X5_141 hL.1 rfl rfl rfl rfl ⟨rfl, rfl⟩ rfl (fun z5 M5 e5 => ?_)
      obtain ⟨rfl, hT5⟩ := e5
      refine V_if_eq (q := 63) g dX5_readBring_60 (tgt := 67) (by decide) rfl (by omega) (fun h60 => absurd h60 (by omega)) (fun h60 => ?_)
      refine V_iconst (q := 64) g dX5_readBring_63 rfl ?_
      refine V_goto g dX5_readBring_64 (tgt := 68) (by decide) ?_
      exact V_ireturn g r dX5_readBring_68 rfl (by first | exact rd_y4 a0 a1 a2 (by omega) (by omega) hT5 | exact rd_n4 a0 a1 a2 (by omega) (by omega) hT5)
    · refine V_aload_n (q := 34) g dX5_readBring_33 rfl rfl ?_
      refine V_iload_n (q := 35) g dX5_readBring_34 rfl rfl ?_
      refine V_callSI_2 (q := 38) g (c_X5_isFloor l hL.2.2.2.1 hX2.2.2.1 hI (by omega)) dX5_readBring_35 k_X5_149 rfl rfl ⟨rfl, rfl⟩ rfl (fun z6 M6 e6 => ?_)
      obtain ⟨e6, rfl⟩ := e6
      refine V_if_eq (q := 41) g dX5_readBring_38 (tgt := 56) (by decide) rfl (by omega) (fun h38 => ?_) (fun h38 => ?_)
      · refine V_iconst (q := 57) g dX5_readBring_56 rfl ?_
        refine V_callVI_1 (q := 60) g (c_X5_done l hL hX2 (w := 0) (d := 1) (by decide)) dX5_readBring_57 k_X5_141 hL.1 rfl rfl rfl rfl ⟨rfl, rfl⟩ rfl (fun z7 M7 e7 => ?_)
        obtain ⟨rfl, hT7⟩ := e7
        refine V_if_eq (q := 63) g dX5_readBring_60 (tgt := 67) (by decide) rfl (by omega) (fun h60 => absurd h60 (by omega)) (fun h60 => ?_)
        refine V_iconst (q := 64) g dX5_readBring_63 rfl ?_
        refine V_goto g dX5_readBring_64 (tgt := 68) (by decide) ?_
        exact V_ireturn g r dX5_readBring_68 rfl (by first | exact rd_y4 a0 a1 a2 (by omega) (by omega) hT7 | exact rd_n4 a0 a1 a2 (by omega) (by omega) hT7)
      · refine V_aload_n (q := 42) g dX5_readBring_41 rfl rfl ?_
        refine V_iload_n (q := 43) g dX5_readBring_42 rfl rfl ?_
        refine V_iload_n (q := 44) g dX5_readBring_43 rfl rfl ?_
        refine V_iload (q := 46) g dX5_readBring_44 rfl rfl ?_
        refine V_callSI_4 (q := 49) g (c_X5_bringOn l hL.2.2.2.1 hX2.2.2.1 hI (by omega) (by omega) (by omega)) dX5_readBring_46 k_X5_152 rfl rfl ⟨rfl, rfl⟩ rfl (fun z8 M8 e8 => ?_)
        obtain ⟨⟨e8, b8⟩, rfl⟩ := e8
        try simp only [aset_aset]
        have hXA := hX2.row (g := fBring f z1 z2 z3)
        refine V_if_lt (q := 52) g dX5_readBring_49 (tgt := 56) (by decide) rfl (by omega) (fun h49 => absurd h49 (by omega)) (fun h49 => ?_)
        refine V_iconst (q := 53) g dX5_readBring_52 rfl ?_
        refine V_goto g dX5_readBring_53 (tgt := 57) (by decide) ?_
        refine V_callVI_1 (q := 60) g (c_X5_done l hL hXA (w := 1) (d := 0) (by decide)) dX5_readBring_57 k_X5_141 hL.1 rfl rfl rfl rfl ⟨rfl, rfl⟩ rfl (fun z9 M9 e9 => ?_)
        obtain ⟨rfl, hT9⟩ := e9
        refine V_if_eq (q := 63) g dX5_readBring_60 (tgt := 67) (by decide) rfl (by omega) (fun h60 => absurd h60 (by omega)) (fun h60 => ?_)
        refine V_iconst (q := 64) g dX5_readBring_63 rfl ?_
        refine V_goto g dX5_readBring_64 (tgt := 68) (by decide) ?_
        exact V_ireturn g r dX5_readBring_68 rfl (by first | exact rd_y4 a0 a1 a2 (by omega) (by omega) hT9 | exact rd_n4 a0 a1 a2 (by omega) (by omega) hT9)
abbrev rm_X5_readBound : Room := { frames := 7, cells := 0, slots := 0, locals := 155 }
set_option maxHeartbeats 4000000 in
set_option maxRecDepth 100000 in
theorem c_X5_readBound (l : Launch) {D : DD} {Λ : LY} {M : MM} {m : Nat} {M0 : MM} {t f : Int → Int} {sz p o : Int} (hL : MdL D Λ m) (hT : Tx M0 M m p o f) (hz : M0 m 2 = sz) (ht : M0 (m + 1) = t) (hC : Txt t sz) (hI : Inv f) (hp : 0 ≤ p ∧ p ≤ sz) : CI l yX5_readBound cX5_readBound 5 .boolean rm_X5_readBound [.ref m, .ref (m + 3)] D Λ M (fun z M1 => rdPost M0 m t sz 7 p o f z M1) := by
  refine CI_of rfl rfl (Nat.le_of_ble_eq_true rfl) (fun Γ g r => ?_)
  have hC1 := hC.1
  have h0 := hI.1
  have h1 := hI.2.1
  have h11 := hI.2.2.2.1
  refine V_aload_n (q := 1) g dX5_readBound_0 rfl rfl ?_
  refine V_iconst (q := 2) g dX5_readBound_1 rfl ?_
  refine V_callVI_1 (q := 5) g (c_X5_fourSign l hL hT (by omega) (by omega) hC hp (by omega)) dX5_readBound_2 k_X5_125 hL.1 rfl rfl rfl rfl ⟨rfl, rfl⟩ rfl (fun z1 M1 e1 => ?_)
  obtain ⟨e1, hT1⟩ := e1
  have a0 : z1 = (sXs t sz 7 p 0).1 := e1
  have hX0 : Tx M0 M1 m (sXs t sz 7 p 0).2 o f := hT1
  have g0 : ((sXs t sz 7 p 0).1 = -1 ∨ ((0 : Int) ≠ -1 ∧ 0 ≤ (sXs t sz 7 p 0).1 ∧ (sXs t sz 7 p 0).1 ≤ 3)) ∧ p ≤ (sXs t sz 7 p 0).2 ∧ (p ≤ sz → (sXs t sz 7 p 0).2 ≤ sz) := sFig_r (by decide) (by decide)
  refine V_istore_n_2 (q := 6) g dX5_readBound_5 (by decide) rfl rfl ?_
  refine V_aload_n (q := 7) g dX5_readBound_6 rfl rfl ?_
  refine V_iload_n (q := 8) g dX5_readBound_7 rfl rfl ?_
  refine V_callVI_1 (q := 11) g (c_X5_fourSign l hL hX0 (by omega) (by omega) hC (by omega) (by omega)) dX5_readBound_8 k_X5_125 hL.1 rfl rfl rfl rfl ⟨rfl, rfl⟩ rfl (fun z2 M2 e2 => ?_)
  obtain ⟨e2, hT2⟩ := e2
  have a1 : z2 = (sXs t sz 7 p 1).1 := by rw [e2, a0]; rfl
  rw [a0] at hT2
  have hX1 : Tx M0 M2 m (sXs t sz 7 p 1).2 o f := hT2
  have g1 : ((sXs t sz 7 p 1).1 = -1 ∨ ((sXs t sz 7 p 0).1 ≠ -1 ∧ 0 ≤ (sXs t sz 7 p 1).1 ∧ (sXs t sz 7 p 1).1 ≤ 3)) ∧ (sXs t sz 7 p 0).2 ≤ (sXs t sz 7 p 1).2 ∧ ((sXs t sz 7 p 0).2 ≤ sz → (sXs t sz 7 p 1).2 ≤ sz) := sFig_r (by decide) (by decide)
  refine V_istore_n_3 (q := 12) g dX5_readBound_11 (by decide) rfl rfl ?_
  refine V_aload_n (q := 13) g dX5_readBound_12 rfl rfl ?_
  refine V_iload_n (q := 14) g dX5_readBound_13 rfl rfl ?_
  refine V_bipush (q := 16) g dX5_readBound_14 (by decide) rfl ?_
  refine V_iconst (q := 17) g dX5_readBound_16 rfl ?_
  refine V_sipush (q := 20) g dX5_readBound_17 (by decide) rfl ?_
  refine V_callVI_4 (q := 23) g (c_X5_figures l hL hX1 hz ht hC (by omega) (by omega) (k := 3) (Or.inr (Or.inr ⟨rfl, rfl⟩)) (by decide)) dX5_readBound_20 k_X5_114 hL.1 rfl rfl rfl rfl ⟨rfl, rfl⟩ rfl (fun z3 M3 e3 => ?_)
  obtain ⟨e3, hT3⟩ := e3
  have a2 : z3 = (sXs t sz 7 p 2).1 := by rw [e3, a1]; rfl
  rw [a1] at hT3
  have hX2 : Tx M0 M3 m (sXs t sz 7 p 2).2 o f := hT3
  have g2 : ((sXs t sz 7 p 2).1 = -1 ∨ ((sXs t sz 7 p 1).1 ≠ -1 ∧ 0 ≤ (sXs t sz 7 p 2).1 ∧ (sXs t sz 7 p 2).1 ≤ 900)) ∧ (sXs t sz 7 p 1).2 ≤ (sXs t sz 7 p 2).2 ∧ ((sXs t sz 7 p 1).2 ≤ sz → (sXs t sz 7 p 2).2 ≤ sz) := sFig_r (by decide) (by decide)
  refine V_istore_4 (q := 25) g dX5_readBound_23 (by decide) rfl rfl ?_
  refine V_iload (q := 27) g dX5_readBound_25 rfl rfl ?_
  refine V_iconst (q := 28) g dX5_readBound_27 rfl ?_
  refine V_icmp_eq (q := 31) g dX5_readBound_28 (tgt := 67) (by decide) rfl (by omega) (by omega) (fun h28 => ?_) (fun h28 => ?_)
  · refine V_iconst (q := 68) g dX5_readBound_67 rfl ?_
    exact V_ireturn g r dX5_readBound_68 rfl (rd_f7 a0 a1 a2 (by omega) hX2)
  · refine V_aload_n (q := 32) g dX5_readBound_31 rfl rfl ?_
    refine V_iload_n (q := 33) g dX5_readBound_32 rfl rfl ?_
    refine V_iload (q := 35) g dX5_readBound_33 rfl rfl ?_
    refine V_callSI_2 (q := 38) g (c_X5_isBound l (by omega) (by omega)) dX5_readBound_35 k_X5_155 rfl rfl ⟨rfl, rfl⟩ rfl (fun z4 M4 e4 => ?_)
    obtain ⟨e4, rfl⟩ := e4
    refine V_if_eq (q := 41) g dX5_readBound_38 (tgt := 56) (by decide) rfl (by omega) (fun h38 => ?_) (fun h38 => ?_)
    · refine V_iconst (q := 57) g dX5_readBound_56 rfl ?_
      refine V_callVI_1 (q := 60) g (c_X5_done l hL hX2 (w := 0) (d := 1) (by decide)) dX5_readBound_57 k_X5_141 hL.1 rfl rfl rfl rfl ⟨rfl, rfl⟩ rfl (fun z5 M5 e5 => ?_)
      obtain ⟨rfl, hT5⟩ := e5
      refine V_if_eq (q := 63) g dX5_readBound_60 (tgt := 67) (by decide) rfl (by omega) (fun h60 => absurd h60 (by omega)) (fun h60 => ?_)
      refine V_iconst (q := 64) g dX5_readBound_63 rfl ?_
      refine V_goto g dX5_readBound_64 (tgt := 68) (by decide) ?_
      exact V_ireturn g r dX5_readBound_68 rfl (by first | exact rd_y7 a0 a1 a2 (by omega) (by omega) hT5 | exact rd_n7 a0 a1 a2 (by omega) (by omega) hT5)
    · refine V_aload_n (q := 42) g dX5_readBound_41 rfl rfl ?_
      refine V_iload_n (q := 43) g dX5_readBound_42 rfl rfl ?_
      refine V_iload_n (q := 44) g dX5_readBound_43 rfl rfl ?_
      refine V_iload (q := 46) g dX5_readBound_44 rfl rfl ?_
      refine V_callSI_4 (q := 49) g (c_X5_boundOn l hL.2.2.2.1 hX2.2.2.1 hI (by omega) (by omega) (by omega)) dX5_readBound_46 k_X5_159 rfl rfl ⟨rfl, rfl⟩ rfl (fun z6 M6 e6 => ?_)
      obtain ⟨e6, rfl⟩ := e6
      try simp only [aset_aset]
      have hXA := hX2.row (g := fBound f z1 z2 z3)
      have hb9 := bnd_v hI (gu := z1) (k := z2) (v := z3) (by omega) (by omega) (by omega)
      refine V_if_lt (q := 52) g dX5_readBound_49 (tgt := 56) (by decide) rfl (by omega) (fun h49 => absurd h49 (by omega)) (fun h49 => ?_)
      refine V_iconst (q := 53) g dX5_readBound_52 rfl ?_
      refine V_goto g dX5_readBound_53 (tgt := 57) (by decide) ?_
      refine V_callVI_1 (q := 60) g (c_X5_done l hL hXA (w := 1) (d := 0) (by decide)) dX5_readBound_57 k_X5_141 hL.1 rfl rfl rfl rfl ⟨rfl, rfl⟩ rfl (fun z7 M7 e7 => ?_)
      obtain ⟨rfl, hT7⟩ := e7
      refine V_if_eq (q := 63) g dX5_readBound_60 (tgt := 67) (by decide) rfl (by omega) (fun h60 => absurd h60 (by omega)) (fun h60 => ?_)
      refine V_iconst (q := 64) g dX5_readBound_63 rfl ?_
      refine V_goto g dX5_readBound_64 (tgt := 68) (by decide) ?_
      exact V_ireturn g r dX5_readBound_68 rfl (by first | exact rd_y7 a0 a1 a2 (by omega) (by omega) hT7 | exact rd_n7 a0 a1 a2 (by omega) (by omega) hT7)
abbrev rm_X5_readLeg : Room := { frames := 4, cells := 0, slots := 0, locals := 90 }
set_option maxHeartbeats 4000000 in
set_option maxRecDepth 100000 in
theorem c_X5_readLeg (l : Launch) {D : DD} {Λ : LY} {M : MM} {m : Nat} {M0 : MM} {t f : Int → Int} {sz p o : Int} {sw : Int} {r : Nat} (hL : MdL D Λ m) (hT : Tx M0 M m p o f) (hz : M0 m 2 = sz) (ht : M0 (m + 1) = t) (hC : Txt t sz) (hI : Inv f) (hp : 0 ≤ p ∧ p ≤ sz) (hsw : (sw = 1 ∧ r = 1) ∨ (sw = 0 ∧ r = 2)) : CI l yX5_readLeg cX5_readLeg 6 .boolean rm_X5_readLeg [.ref m, .ref (m + 3), vi sw] D Λ M (fun z M1 => rdPost M0 m t sz r p o f z M1) := by
  refine CI_of rfl rfl (Nat.le_of_ble_eq_true rfl) (fun Γ g r => ?_)
  have hC1 := hC.1
  have h0 := hI.1
  have h1 := hI.2.1
  have h11 := hI.2.2.2.1
  have hlg : ∀ a b : Int, 0 ≤ a ∧ a < f 0 → 0 ≤ b ∧ b < 4 → 100 ≤ f (49 + 9 * a + b) ∧ f (49 + 9 * a + b) ≤ 900 := fun a b ha hb => (hI.2.2.2.2.2.2 a ha.1 ha.2).2.2.2.2 b hb.1 hb.2
  rcases hsw with ⟨rfl, rfl⟩ | ⟨rfl, rfl⟩
  · refine V_aload_n (q := 1) g dX5_readLeg_0 rfl rfl ?_
    refine V_callVI_0 (q := 4) g (c_X5_chairSign l hL hT (by omega) (by omega) hC hp) dX5_readLeg_1 k_X5_121 hL.1 rfl rfl rfl rfl ⟨rfl, rfl⟩ rfl (fun z1 M1 e1 => ?_)
    obtain ⟨e1, hT1⟩ := e1
    have a0 : z1 = (sXs t sz 1 p 0).1 := e1
    have hX0 : Tx M0 M1 m (sXs t sz 1 p 0).2 o f := hT1
    have g0 : ((sXs t sz 1 p 0).1 = -1 ∨ ((0 : Int) ≠ -1 ∧ 0 ≤ (sXs t sz 1 p 0).1 ∧ (sXs t sz 1 p 0).1 ≤ 9)) ∧ p ≤ (sXs t sz 1 p 0).2 ∧ (p ≤ sz → (sXs t sz 1 p 0).2 ≤ sz) := sFig_r (by decide) (by decide)
    refine V_istore_n_3 (q := 5) g dX5_readLeg_4 (by decide) rfl rfl ?_
    refine V_aload_n (q := 6) g dX5_readLeg_5 rfl rfl ?_
    refine V_iload_n (q := 7) g dX5_readLeg_6 rfl rfl ?_
    refine V_callVI_1 (q := 10) g (c_X5_fourSign l hL hX0 (by omega) (by omega) hC (by omega) (by omega)) dX5_readLeg_7 k_X5_125 hL.1 rfl rfl rfl rfl ⟨rfl, rfl⟩ rfl (fun z2 M2 e2 => ?_)
    obtain ⟨e2, hT2⟩ := e2
    have a1 : z2 = (sXs t sz 1 p 1).1 := by rw [e2, a0]; rfl
    rw [a0] at hT2
    have hX1 : Tx M0 M2 m (sXs t sz 1 p 1).2 o f := hT2
    have g1 : ((sXs t sz 1 p 1).1 = -1 ∨ ((sXs t sz 1 p 0).1 ≠ -1 ∧ 0 ≤ (sXs t sz 1 p 1).1 ∧ (sXs t sz 1 p 1).1 ≤ 3)) ∧ (sXs t sz 1 p 0).2 ≤ (sXs t sz 1 p 1).2 ∧ ((sXs t sz 1 p 0).2 ≤ sz → (sXs t sz 1 p 1).2 ≤ sz) := sFig_r (by decide) (by decide)
    refine V_istore_4 (q := 12) g dX5_readLeg_10 (by decide) rfl rfl ?_
    refine V_iload_n (q := 13) g dX5_readLeg_12 rfl rfl ?_
    refine V_if_eq (q := 16) g dX5_readLeg_13 (tgt := 31) (by decide) rfl (by omega) (fun h13 => absurd h13 (by omega)) (fun h13 => ?_)
    refine V_aload_n (q := 17) g dX5_readLeg_16 rfl rfl ?_
    refine V_iload (q := 19) g dX5_readLeg_17 rfl rfl ?_
    refine V_bipush (q := 21) g dX5_readLeg_19 (by decide) rfl ?_
    refine V_iconst (q := 22) g dX5_readLeg_21 rfl ?_
    refine V_sipush (q := 25) g dX5_readLeg_22 (by decide) rfl ?_
    refine V_callVI_4 (q := 28) g (c_X5_figures l hL hX1 hz ht hC (by omega) (by omega) (k := 3) (Or.inr (Or.inr ⟨rfl, rfl⟩)) (by decide)) dX5_readLeg_25 k_X5_114 hL.1 rfl rfl rfl rfl ⟨rfl, rfl⟩ rfl (fun z3 M3 e3 => ?_)
    obtain ⟨e3, hT3⟩ := e3
    have a2 : z3 = (sXs t sz 1 p 2).1 := by rw [e3, a1]; rfl
    rw [a1] at hT3
    have hX2 : Tx M0 M3 m (sXs t sz 1 p 2).2 o f := hT3
    have g2 : ((sXs t sz 1 p 2).1 = -1 ∨ ((sXs t sz 1 p 1).1 ≠ -1 ∧ 1 ≤ (sXs t sz 1 p 2).1 ∧ (sXs t sz 1 p 2).1 ≤ 800)) ∧ (sXs t sz 1 p 1).2 ≤ (sXs t sz 1 p 2).2 ∧ ((sXs t sz 1 p 1).2 ≤ sz → (sXs t sz 1 p 2).2 ≤ sz) := sFig_r (by decide) (by decide)
    refine V_goto g dX5_readLeg_28 (tgt := 42) (by decide) ?_
    refine V_istore_5 (q := 44) g dX5_readLeg_42 (by decide) rfl rfl ?_
    refine V_iload (q := 46) g dX5_readLeg_44 rfl rfl ?_
    refine V_iconst (q := 47) g dX5_readLeg_46 rfl ?_
    refine V_icmp_eq (q := 50) g dX5_readLeg_47 (tgt := 130) (by decide) rfl (by omega) (by omega) (fun h47 => ?_) (fun h47 => ?_)
    · refine V_iconst (q := 131) g dX5_readLeg_130 rfl ?_
      exact V_ireturn g r dX5_readLeg_131 rfl (rd_f1 a0 a1 a2 (by omega) hX2)
    · refine V_aload_n (q := 51) g dX5_readLeg_50 rfl rfl ?_
      refine V_iload_n (q := 52) g dX5_readLeg_51 rfl rfl ?_
      refine V_if_eq (q := 55) g dX5_readLeg_52 (tgt := 89) (by decide) rfl (by omega) (fun h52 => absurd h52 (by omega)) (fun h52 => ?_)
      refine V_aload_n (q := 56) g dX5_readLeg_55 rfl rfl ?_
      refine V_iload_n (q := 57) g dX5_readLeg_56 rfl rfl ?_
      refine V_iload (q := 59) g dX5_readLeg_57 rfl rfl ?_
      refine V_iload (q := 61) g dX5_readLeg_59 rfl rfl ?_
      refine V_callSI_4 (q := 64) g (c_X5_canSaw l hL.2.2.2.1 hX2.2.2.1 hI (by omega) (by omega) (by omega)) dX5_readLeg_61 k_X5_128 rfl rfl ⟨rfl, rfl⟩ rfl (fun z4 M4 e4 => ?_)
      obtain ⟨e4, rfl⟩ := e4
      refine V_if_eq (q := 67) g dX5_readLeg_64 (tgt := 85) (by decide) rfl (by omega) (fun h64 => ?_) (fun h64 => ?_)
      · refine V_iconst (q := 86) g dX5_readLeg_85 rfl ?_
        refine V_goto g dX5_readLeg_86 (tgt := 120) (by decide) ?_
        refine V_callVI_1 (q := 123) g (c_X5_done l hL hX2 (w := 0) (d := 1) (by decide)) dX5_readLeg_120 k_X5_141 hL.1 rfl rfl rfl rfl ⟨rfl, rfl⟩ rfl (fun z5 M5 e5 => ?_)
        obtain ⟨rfl, hT5⟩ := e5
        refine V_if_eq (q := 126) g dX5_readLeg_123 (tgt := 130) (by decide) rfl (by omega) (fun h123 => absurd h123 (by omega)) (fun h123 => ?_)
        refine V_iconst (q := 127) g dX5_readLeg_126 rfl ?_
        refine V_goto g dX5_readLeg_127 (tgt := 131) (by decide) ?_
        exact V_ireturn g r dX5_readLeg_131 rfl (by first | exact rd_y1 a0 a1 a2 (by omega) (by omega) hT5 | exact rd_n1 a0 a1 a2 (by omega) (by omega) hT5)
      · have hl := hlg z1 z2 (by omega) (by omega)
        refine V_aload_n (q := 68) g dX5_readLeg_67 rfl rfl ?_
        refine V_iload_n (q := 69) g dX5_readLeg_68 rfl rfl ?_
        refine V_iload (q := 71) g dX5_readLeg_69 rfl rfl ?_
        refine V_iload (q := 73) g dX5_readLeg_71 rfl rfl ?_
        refine V_callSI_4 (q := 76) g (c_X5_sawOn l hL.2.2.2.1 hX2.2.2.1 hI (by omega) (by omega) (by omega) (by omega)) dX5_readLeg_73 k_X5_132 rfl rfl ⟨rfl, rfl⟩ rfl (fun z6 M6 e6 => ?_)
        obtain ⟨e6, rfl⟩ := e6
        try simp only [aset_aset]
        have hXA := hX2.row (g := fSaw f z1 z2 z3)
        refine V_bipush (q := 78) g dX5_readLeg_76 (by decide) rfl ?_
        refine V_icmp_lt (q := 81) g dX5_readLeg_78 (tgt := 85) (by decide) rfl (by omega) (by omega) (fun h78 => absurd h78 (by omega)) (fun h78 => ?_)
        refine V_iconst (q := 82) g dX5_readLeg_81 rfl ?_
        refine V_goto g dX5_readLeg_82 (tgt := 120) (by decide) ?_
        refine V_callVI_1 (q := 123) g (c_X5_done l hL hXA (w := 1) (d := 0) (by decide)) dX5_readLeg_120 k_X5_141 hL.1 rfl rfl rfl rfl ⟨rfl, rfl⟩ rfl (fun z7 M7 e7 => ?_)
        obtain ⟨rfl, hT7⟩ := e7
        refine V_if_eq (q := 126) g dX5_readLeg_123 (tgt := 130) (by decide) rfl (by omega) (fun h123 => absurd h123 (by omega)) (fun h123 => ?_)
        refine V_iconst (q := 127) g dX5_readLeg_126 rfl ?_
        refine V_goto g dX5_readLeg_127 (tgt := 131) (by decide) ?_
        exact V_ireturn g r dX5_readLeg_131 rfl (by first | exact rd_y1 a0 a1 a2 (by omega) (by omega) hT7 | exact rd_n1 a0 a1 a2 (by omega) (by omega) hT7)
  · refine V_aload_n (q := 1) g dX5_readLeg_0 rfl rfl ?_
    refine V_callVI_0 (q := 4) g (c_X5_chairSign l hL hT (by omega) (by omega) hC hp) dX5_readLeg_1 k_X5_121 hL.1 rfl rfl rfl rfl ⟨rfl, rfl⟩ rfl (fun z8 M8 e8 => ?_)
    obtain ⟨e8, hT8⟩ := e8
    have a0 : z8 = (sXs t sz 2 p 0).1 := e8
    have hX0 : Tx M0 M8 m (sXs t sz 2 p 0).2 o f := hT8
    have g0 : ((sXs t sz 2 p 0).1 = -1 ∨ ((0 : Int) ≠ -1 ∧ 0 ≤ (sXs t sz 2 p 0).1 ∧ (sXs t sz 2 p 0).1 ≤ 9)) ∧ p ≤ (sXs t sz 2 p 0).2 ∧ (p ≤ sz → (sXs t sz 2 p 0).2 ≤ sz) := sFig_r (by decide) (by decide)
    refine V_istore_n_3 (q := 5) g dX5_readLeg_4 (by decide) rfl rfl ?_
    refine V_aload_n (q := 6) g dX5_readLeg_5 rfl rfl ?_
    refine V_iload_n (q := 7) g dX5_readLeg_6 rfl rfl ?_
    refine V_callVI_1 (q := 10) g (c_X5_fourSign l hL hX0 (by omega) (by omega) hC (by omega) (by omega)) dX5_readLeg_7 k_X5_125 hL.1 rfl rfl rfl rfl ⟨rfl, rfl⟩ rfl (fun z9 M9 e9 => ?_)
    obtain ⟨e9, hT9⟩ := e9
    have a1 : z9 = (sXs t sz 2 p 1).1 := by rw [e9, a0]; rfl
    rw [a0] at hT9
    have hX1 : Tx M0 M9 m (sXs t sz 2 p 1).2 o f := hT9
    have g1 : ((sXs t sz 2 p 1).1 = -1 ∨ ((sXs t sz 2 p 0).1 ≠ -1 ∧ 0 ≤ (sXs t sz 2 p 1).1 ∧ (sXs t sz 2 p 1).1 ≤ 3)) ∧ (sXs t sz 2 p 0).2 ≤ (sXs t sz 2 p 1).2 ∧ ((sXs t sz 2 p 0).2 ≤ sz → (sXs t sz 2 p 1).2 ≤ sz) := sFig_r (by decide) (by decide)
    refine V_istore_4 (q := 12) g dX5_readLeg_10 (by decide) rfl rfl ?_
    refine V_iload_n (q := 13) g dX5_readLeg_12 rfl rfl ?_
    refine V_if_eq (q := 16) g dX5_readLeg_13 (tgt := 31) (by decide) rfl (by omega) (fun h13 => ?_) (fun h13 => absurd h13 (by omega))
    refine V_aload_n (q := 32) g dX5_readLeg_31 rfl rfl ?_
    refine V_iload (q := 34) g dX5_readLeg_32 rfl rfl ?_
    refine V_bipush (q := 36) g dX5_readLeg_34 (by decide) rfl ?_
    refine V_iconst (q := 37) g dX5_readLeg_36 rfl ?_
    refine V_bipush (q := 39) g dX5_readLeg_37 (by decide) rfl ?_
    refine V_callVI_4 (q := 42) g (c_X5_figures l hL hX1 hz ht hC (by omega) (by omega) (k := 2) (Or.inr (Or.inl ⟨rfl, rfl⟩)) (by decide)) dX5_readLeg_39 k_X5_114 hL.1 rfl rfl rfl rfl ⟨rfl, rfl⟩ rfl (fun z10 M10 e10 => ?_)
    obtain ⟨e10, hT10⟩ := e10
    have a2 : z10 = (sXs t sz 2 p 2).1 := by rw [e10, a1]; rfl
    rw [a1] at hT10
    have hX2 : Tx M0 M10 m (sXs t sz 2 p 2).2 o f := hT10
    have g2 : ((sXs t sz 2 p 2).1 = -1 ∨ ((sXs t sz 2 p 1).1 ≠ -1 ∧ 1 ≤ (sXs t sz 2 p 2).1 ∧ (sXs t sz 2 p 2).1 ≤ 99)) ∧ (sXs t sz 2 p 1).2 ≤ (sXs t sz 2 p 2).2 ∧ ((sXs t sz 2 p 1).2 ≤ sz → (sXs t sz 2 p 2).2 ≤ sz) := sFig_r (by decide) (by decide)
    refine V_istore_5 (q := 44) g dX5_readLeg_42 (by decide) rfl rfl ?_
    refine V_iload (q := 46) g dX5_readLeg_44 rfl rfl ?_
    refine V_iconst (q := 47) g dX5_readLeg_46 rfl ?_
    refine V_icmp_eq (q := 50) g dX5_readLeg_47 (tgt := 130) (by decide) rfl (by omega) (by omega) (fun h47 => ?_) (fun h47 => ?_)
    · refine V_iconst (q := 131) g dX5_readLeg_130 rfl ?_
      exact V_ireturn g r dX5_readLeg_131 rfl (rd_f2 a0 a1 a2 (by omega) hX2)
    · refine V_aload_n (q := 51) g dX5_readLeg_50 rfl rfl ?_
      refine V_iload_n (q := 52) g dX5_readLeg_51 rfl rfl ?_
      refine V_if_eq (q := 55) g dX5_readLeg_52 (tgt := 89) (by decide) rfl (by omega) (fun h52 => ?_) (fun h52 => absurd h52 (by omega))
      refine V_aload_n (q := 90) g dX5_readLeg_89 rfl rfl ?_
      refine V_iload_n (q := 91) g dX5_readLeg_90 rfl rfl ?_
      refine V_iload (q := 93) g dX5_readLeg_91 rfl rfl ?_
      refine V_iload (q := 95) g dX5_readLeg_93 rfl rfl ?_
      refine V_callSI_4 (q := 98) g (c_X5_canShim l hL.2.2.2.1 hX2.2.2.1 hI (by omega) (by omega) (by omega)) dX5_readLeg_95 k_X5_135 rfl rfl ⟨rfl, rfl⟩ rfl (fun z11 M11 e11 => ?_)
      obtain ⟨e11, rfl⟩ := e11
      refine V_if_eq (q := 101) g dX5_readLeg_98 (tgt := 119) (by decide) rfl (by omega) (fun h98 => ?_) (fun h98 => ?_)
      · refine V_iconst (q := 120) g dX5_readLeg_119 rfl ?_
        refine V_callVI_1 (q := 123) g (c_X5_done l hL hX2 (w := 0) (d := 1) (by decide)) dX5_readLeg_120 k_X5_141 hL.1 rfl rfl rfl rfl ⟨rfl, rfl⟩ rfl (fun z12 M12 e12 => ?_)
        obtain ⟨rfl, hT12⟩ := e12
        refine V_if_eq (q := 126) g dX5_readLeg_123 (tgt := 130) (by decide) rfl (by omega) (fun h123 => absurd h123 (by omega)) (fun h123 => ?_)
        refine V_iconst (q := 127) g dX5_readLeg_126 rfl ?_
        refine V_goto g dX5_readLeg_127 (tgt := 131) (by decide) ?_
        exact V_ireturn g r dX5_readLeg_131 rfl (by first | exact rd_y2 a0 a1 a2 (by omega) (by omega) hT12 | exact rd_n2 a0 a1 a2 (by omega) (by omega) hT12)
      · have hl := hlg z8 z9 (by omega) (by omega)
        refine V_aload_n (q := 102) g dX5_readLeg_101 rfl rfl ?_
        refine V_iload_n (q := 103) g dX5_readLeg_102 rfl rfl ?_
        refine V_iload (q := 105) g dX5_readLeg_103 rfl rfl ?_
        refine V_iload (q := 107) g dX5_readLeg_105 rfl rfl ?_
        refine V_callSI_4 (q := 110) g (c_X5_shimOn l hL.2.2.2.1 hX2.2.2.1 hI (by omega) (by omega) (by omega) (by omega)) dX5_readLeg_107 k_X5_138 rfl rfl ⟨rfl, rfl⟩ rfl (fun z13 M13 e13 => ?_)
        obtain ⟨e13, rfl⟩ := e13
        try simp only [aset_aset]
        have hXA := hX2.row (g := fShim f z8 z9 z10)
        refine V_bipush (q := 112) g dX5_readLeg_110 (by decide) rfl ?_
        refine V_icmp_lt (q := 115) g dX5_readLeg_112 (tgt := 119) (by decide) rfl (by omega) (by omega) (fun h112 => absurd h112 (by omega)) (fun h112 => ?_)
        refine V_iconst (q := 116) g dX5_readLeg_115 rfl ?_
        refine V_goto g dX5_readLeg_116 (tgt := 120) (by decide) ?_
        refine V_callVI_1 (q := 123) g (c_X5_done l hL hXA (w := 1) (d := 0) (by decide)) dX5_readLeg_120 k_X5_141 hL.1 rfl rfl rfl rfl ⟨rfl, rfl⟩ rfl (fun z14 M14 e14 => ?_)
        obtain ⟨rfl, hT14⟩ := e14
        refine V_if_eq (q := 126) g dX5_readLeg_123 (tgt := 130) (by decide) rfl (by omega) (fun h123 => absurd h123 (by omega)) (fun h123 => ?_)
        refine V_iconst (q := 127) g dX5_readLeg_126 rfl ?_
        refine V_goto g dX5_readLeg_127 (tgt := 131) (by decide) ?_
        exact V_ireturn g r dX5_readLeg_131 rfl (by first | exact rd_y2 a0 a1 a2 (by omega) (by omega) hT14 | exact rd_n2 a0 a1 a2 (by omega) (by omega) hT14)
