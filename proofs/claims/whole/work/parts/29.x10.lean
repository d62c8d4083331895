theorem rdI_0 {t f : Int → Int} {sz p : Int} (hI : Inv f) (hn : (sXs t sz 0 p 3).1 ≠ -1) : (p ≤ (sXs t sz 0 p 3).2 ∧ (p ≤ sz → (sXs t sz 0 p 3).2 ≤ sz)) ∧ (xOk f 0 (sXs t sz 0 p 0).1 (sXs t sz 0 p 1).1 (sXs t sz 0 p 2).1 → Inv (xF f 0 (sXs t sz 0 p 0).1 (sXs t sz 0 p 1).1 (sXs t sz 0 p 2).1 (sXs t sz 0 p 3).1)) := by
  have e := sXs_e0 t sz p
  have g0 : ((sXs t sz 0 p 0).1 = -1 ∨ ((0 : Int) ≠ -1 ∧ 0 ≤ (sXs t sz 0 p 0).1 ∧ (sXs t sz 0 p 0).1 ≤ 3)) ∧ p ≤ (sXs t sz 0 p 0).2 ∧ (p ≤ sz → (sXs t sz 0 p 0).2 ≤ sz) := sFig_r (by decide) (by decide)
  have g1 : ((sXs t sz 0 p 1).1 = -1 ∨ ((sXs t sz 0 p 0).1 ≠ -1 ∧ 100 ≤ (sXs t sz 0 p 1).1 ∧ (sXs t sz 0 p 1).1 ≤ 900)) ∧ (sXs t sz 0 p 0).2 ≤ (sXs t sz 0 p 1).2 ∧ ((sXs t sz 0 p 0).2 ≤ sz → (sXs t sz 0 p 1).2 ≤ sz) := sFig_r (by decide) (by decide)
  have hj : (sXs t sz 0 p 1).1 ≠ -1 := fun q => hn (e.2.mpr q)
  have hlg : ∀ a b : Int, 0 ≤ a ∧ a < f 0 → 0 ≤ b ∧ b < 4 → 100 ≤ f (49 + 9 * a + b) ∧ f (49 + 9 * a + b) ≤ 900 := fun a b ha hb => (hI.2.2.2.2.2.2 a ha.1 ha.2).2.2.2.2 b hb.1 hb.2
  refine ⟨⟨by rw [e.1]; omega, fun h => by rw [e.1]; omega⟩, fun ok => ?_⟩
  have ok := xOk_0.mp ok
  exact Inv_chair hI ok (by omega) (by omega)
theorem rdI_1 {t f : Int → Int} {sz p : Int} (hI : Inv f) (hn : (sXs t sz 1 p 3).1 ≠ -1) : (p ≤ (sXs t sz 1 p 3).2 ∧ (p ≤ sz → (sXs t sz 1 p 3).2 ≤ sz)) ∧ (xOk f 1 (sXs t sz 1 p 0).1 (sXs t sz 1 p 1).1 (sXs t sz 1 p 2).1 → Inv (xF f 1 (sXs t sz 1 p 0).1 (sXs t sz 1 p 1).1 (sXs t sz 1 p 2).1 (sXs t sz 1 p 3).1)) := by
  have e := sXs_e1 t sz p
  have g0 : ((sXs t sz 1 p 0).1 = -1 ∨ ((0 : Int) ≠ -1 ∧ 0 ≤ (sXs t sz 1 p 0).1 ∧ (sXs t sz 1 p 0).1 ≤ 9)) ∧ p ≤ (sXs t sz 1 p 0).2 ∧ (p ≤ sz → (sXs t sz 1 p 0).2 ≤ sz) := sFig_r (by decide) (by decide)
  have g1 : ((sXs t sz 1 p 1).1 = -1 ∨ ((sXs t sz 1 p 0).1 ≠ -1 ∧ 0 ≤ (sXs t sz 1 p 1).1 ∧ (sXs t sz 1 p 1).1 ≤ 3)) ∧ (sXs t sz 1 p 0).2 ≤ (sXs t sz 1 p 1).2 ∧ ((sXs t sz 1 p 0).2 ≤ sz → (sXs t sz 1 p 1).2 ≤ sz) := sFig_r (by decide) (by decide)
  have g2 : ((sXs t sz 1 p 2).1 = -1 ∨ ((sXs t sz 1 p 1).1 ≠ -1 ∧ 1 ≤ (sXs t sz 1 p 2).1 ∧ (sXs t sz 1 p 2).1 ≤ 800)) ∧ (sXs t sz 1 p 1).2 ≤ (sXs t sz 1 p 2).2 ∧ ((sXs t sz 1 p 1).2 ≤ sz → (sXs t sz 1 p 2).2 ≤ sz) := sFig_r (by decide) (by decide)
  have hj : (sXs t sz 1 p 2).1 ≠ -1 := fun q => hn (e.2.mpr q)
  have hlg : ∀ a b : Int, 0 ≤ a ∧ a < f 0 → 0 ≤ b ∧ b < 4 → 100 ≤ f (49 + 9 * a + b) ∧ f (49 + 9 * a + b) ≤ 900 := fun a b ha hb => (hI.2.2.2.2.2.2 a ha.1 ha.2).2.2.2.2 b hb.1 hb.2
  refine ⟨⟨by rw [e.1]; omega, fun h => by rw [e.1]; omega⟩, fun ok => ?_⟩
  have ok := xOk_1.mp ok
  have hl := hlg _ _ ok.1 (show 0 ≤ (sXs t sz 1 p 1).1 ∧ (sXs t sz 1 p 1).1 < 4 by omega)
  exact Inv_saw hI (by omega) (by omega) (by omega)
theorem rdI_2 {t f : Int → Int} {sz p : Int} (hI : Inv f) (hn : (sXs t sz 2 p 3).1 ≠ -1) : (p ≤ (sXs t sz 2 p 3).2 ∧ (p ≤ sz → (sXs t sz 2 p 3).2 ≤ sz)) ∧ (xOk f 2 (sXs t sz 2 p 0).1 (sXs t sz 2 p 1).1 (sXs t sz 2 p 2).1 → Inv (xF f 2 (sXs t sz 2 p 0).1 (sXs t sz 2 p 1).1 (sXs t sz 2 p 2).1 (sXs t sz 2 p 3).1)) := by
  have e := sXs_e2 t sz p
  have g0 : ((sXs t sz 2 p 0).1 = -1 ∨ ((0 : Int) ≠ -1 ∧ 0 ≤ (sXs t sz 2 p 0).1 ∧ (sXs t sz 2 p 0).1 ≤ 9)) ∧ p ≤ (sXs t sz 2 p 0).2 ∧ (p ≤ sz → (sXs t sz 2 p 0).2 ≤ sz) := sFig_r (by decide) (by decide)
  have g1 : ((sXs t sz 2 p 1).1 = -1 ∨ ((sXs t sz 2 p 0).1 ≠ -1 ∧ 0 ≤ (sXs t sz 2 p 1).1 ∧ (sXs t sz 2 p 1).1 ≤ 3)) ∧ (sXs t sz 2 p 0).2 ≤ (sXs t sz 2 p 1).2 ∧ ((sXs t sz 2 p 0).2 ≤ sz → (sXs t sz 2 p 1).2 ≤ sz) := sFig_r (by decide) (by decide)
  have g2 : ((sXs t sz 2 p 2).1 = -1 ∨ ((sXs t sz 2 p 1).1 ≠ -1 ∧ 1 ≤ (sXs t sz 2 p 2).1 ∧ (sXs t sz 2 p 2).1 ≤ 99)) ∧ (sXs t sz 2 p 1).2 ≤ (sXs t sz 2 p 2).2 ∧ ((sXs t sz 2 p 1).2 ≤ sz → (sXs t sz 2 p 2).2 ≤ sz) := sFig_r (by decide) (by decide)
  have hj : (sXs t sz 2 p 2).1 ≠ -1 := fun q => hn (e.2.mpr q)
  have hlg : ∀ a b : Int, 0 ≤ a ∧ a < f 0 → 0 ≤ b ∧ b < 4 → 100 ≤ f (49 + 9 * a + b) ∧ f (49 + 9 * a + b) ≤ 900 := fun a b ha hb => (hI.2.2.2.2.2.2 a ha.1 ha.2).2.2.2.2 b hb.1 hb.2
  refine ⟨⟨by rw [e.1]; omega, fun h => by rw [e.1]; omega⟩, fun ok => ?_⟩
  have ok := xOk_2.mp ok
  have hl := hlg _ _ ok.1 (show 0 ≤ (sXs t sz 2 p 1).1 ∧ (sXs t sz 2 p 1).1 < 4 by omega)
  exact Inv_shim hI (by omega) (by omega) (by omega)
theorem rdI_3 {t f : Int → Int} {sz p : Int} (hI : Inv f) (hn : (sXs t sz 3 p 3).1 ≠ -1) : (p ≤ (sXs t sz 3 p 3).2 ∧ (p ≤ sz → (sXs t sz 3 p 3).2 ≤ sz)) ∧ (xOk f 3 (sXs t sz 3 p 0).1 (sXs t sz 3 p 1).1 (sXs t sz 3 p 2).1 → Inv (xF f 3 (sXs t sz 3 p 0).1 (sXs t sz 3 p 1).1 (sXs t sz 3 p 2).1 (sXs t sz 3 p 3).1)) := by
  have e := sXs_e3 t sz p
  have g0 : ((sXs t sz 3 p 0).1 = -1 ∨ ((0 : Int) ≠ -1 ∧ 0 ≤ (sXs t sz 3 p 0).1 ∧ (sXs t sz 3 p 0).1 ≤ 50)) ∧ p ≤ (sXs t sz 3 p 0).2 ∧ (p ≤ sz → (sXs t sz 3 p 0).2 ≤ sz) := sFig_r (by decide) (by decide)
  have g1 : ((sXs t sz 3 p 1).1 = -1 ∨ ((sXs t sz 3 p 0).1 ≠ -1 ∧ 0 ≤ (sXs t sz 3 p 1).1 ∧ (sXs t sz 3 p 1).1 ≤ 50)) ∧ (sXs t sz 3 p 0).2 ≤ (sXs t sz 3 p 1).2 ∧ ((sXs t sz 3 p 0).2 ≤ sz → (sXs t sz 3 p 1).2 ≤ sz) := sFig_r (by decide) (by decide)
  have g2 : ((sXs t sz 3 p 2).1 = -1 ∨ ((sXs t sz 3 p 1).1 ≠ -1 ∧ 0 ≤ (sXs t sz 3 p 2).1 ∧ (sXs t sz 3 p 2).1 ≤ 50)) ∧ (sXs t sz 3 p 1).2 ≤ (sXs t sz 3 p 2).2 ∧ ((sXs t sz 3 p 1).2 ≤ sz → (sXs t sz 3 p 2).2 ≤ sz) := sFig_r (by decide) (by decide)
  have g3 : ((sXs t sz 3 p 3).1 = -1 ∨ ((sXs t sz 3 p 2).1 ≠ -1 ∧ 0 ≤ (sXs t sz 3 p 3).1 ∧ (sXs t sz 3 p 3).1 ≤ 50)) ∧ (sXs t sz 3 p 2).2 ≤ (sXs t sz 3 p 3).2 ∧ ((sXs t sz 3 p 2).2 ≤ sz → (sXs t sz 3 p 3).2 ≤ sz) := sFig_r (by decide) (by decide)
  have hj : (sXs t sz 3 p 3).1 ≠ -1 := fun q => hn (e.2.mpr q)
  have hlg : ∀ a b : Int, 0 ≤ a ∧ a < f 0 → 0 ≤ b ∧ b < 4 → 100 ≤ f (49 + 9 * a + b) ∧ f (49 + 9 * a + b) ≤ 900 := fun a b ha hb => (hI.2.2.2.2.2.2 a ha.1 ha.2).2.2.2.2 b hb.1 hb.2
  refine ⟨⟨by rw [e.1]; omega, fun h => by rw [e.1]; omega⟩, fun ok => ?_⟩
  have ok := xOk_3.mp ok
  exact Inv_floor hI ok (by omega) (by omega) (by omega) (by omega)
theorem rdI_4 {t f : Int → Int} {sz p : Int} (hI : Inv f) (hn : (sXs t sz 4 p 3).1 ≠ -1) : (p ≤ (sXs t sz 4 p 3).2 ∧ (p ≤ sz → (sXs t sz 4 p 3).2 ≤ sz)) ∧ (xOk f 4 (sXs t sz 4 p 0).1 (sXs t sz 4 p 1).1 (sXs t sz 4 p 2).1 → Inv (xF f 4 (sXs t sz 4 p 0).1 (sXs t sz 4 p 1).1 (sXs t sz 4 p 2).1 (sXs t sz 4 p 3).1)) := by
  have e := sXs_e4 t sz p
  have g0 : ((sXs t sz 4 p 0).1 = -1 ∨ ((0 : Int) ≠ -1 ∧ 0 ≤ (sXs t sz 4 p 0).1 ∧ (sXs t sz 4 p 0).1 ≤ 9)) ∧ p ≤ (sXs t sz 4 p 0).2 ∧ (p ≤ sz → (sXs t sz 4 p 0).2 ≤ sz) := sFig_r (by decide) (by decide)
  have g1 : ((sXs t sz 4 p 1).1 = -1 ∨ ((sXs t sz 4 p 0).1 ≠ -1 ∧ 0 ≤ (sXs t sz 4 p 1).1 ∧ (sXs t sz 4 p 1).1 ≤ 3)) ∧ (sXs t sz 4 p 0).2 ≤ (sXs t sz 4 p 1).2 ∧ ((sXs t sz 4 p 0).2 ≤ sz → (sXs t sz 4 p 1).2 ≤ sz) := sFig_r (by decide) (by decide)
  have g2 : ((sXs t sz 4 p 2).1 = -1 ∨ ((sXs t sz 4 p 1).1 ≠ -1 ∧ 0 ≤ (sXs t sz 4 p 2).1 ∧ (sXs t sz 4 p 2).1 ≤ 3)) ∧ (sXs t sz 4 p 1).2 ≤ (sXs t sz 4 p 2).2 ∧ ((sXs t sz 4 p 1).2 ≤ sz → (sXs t sz 4 p 2).2 ≤ sz) := sFig_r (by decide) (by decide)
  have hj : (sXs t sz 4 p 2).1 ≠ -1 := fun q => hn (e.2.mpr q)
  have hlg : ∀ a b : Int, 0 ≤ a ∧ a < f 0 → 0 ≤ b ∧ b < 4 → 100 ≤ f (49 + 9 * a + b) ∧ f (49 + 9 * a + b) ≤ 900 := fun a b ha hb => (hI.2.2.2.2.2.2 a ha.1 ha.2).2.2.2.2 b hb.1 hb.2
  refine ⟨⟨by rw [e.1]; omega, fun h => by rw [e.1]; omega⟩, fun ok => ?_⟩
  have ok := xOk_4.mp ok
  exact Inv_bring hI (by omega) ok.2 (by omega)
theorem rdI_5 {t f : Int → Int} {sz p : Int} (hI : Inv f) (hn : (sXs t sz 5 p 3).1 ≠ -1) : (p ≤ (sXs t sz 5 p 3).2 ∧ (p ≤ sz → (sXs t sz 5 p 3).2 ≤ sz)) ∧ (xOk f 5 (sXs t sz 5 p 0).1 (sXs t sz 5 p 1).1 (sXs t sz 5 p 2).1 → Inv (xF f 5 (sXs t sz 5 p 0).1 (sXs t sz 5 p 1).1 (sXs t sz 5 p 2).1 (sXs t sz 5 p 3).1)) := by
  have e := sXs_e5 t sz p
  have g0 : ((sXs t sz 5 p 0).1 = -1 ∨ ((0 : Int) ≠ -1 ∧ 0 ≤ (sXs t sz 5 p 0).1 ∧ (sXs t sz 5 p 0).1 ≤ 9)) ∧ p ≤ (sXs t sz 5 p 0).2 ∧ (p ≤ sz → (sXs t sz 5 p 0).2 ≤ sz) := sFig_r (by decide) (by decide)
  have hj : (sXs t sz 5 p 0).1 ≠ -1 := fun q => hn (e.2.mpr q)
  have hlg : ∀ a b : Int, 0 ≤ a ∧ a < f 0 → 0 ≤ b ∧ b < 4 → 100 ≤ f (49 + 9 * a + b) ∧ f (49 + 9 * a + b) ≤ 900 := fun a b ha hb => (hI.2.2.2.2.2.2 a ha.1 ha.2).2.2.2.2 b hb.1 hb.2
  refine ⟨⟨by rw [e.1]; omega, fun h => by rw [e.1]; omega⟩, fun ok => ?_⟩
  have ok := xOk_5.mp ok
  exact Inv_test hI (by omega)
theorem rdI_6 {t f : Int → Int} {sz p : Int} (hI : Inv f) (hn : (sXs t sz 6 p 3).1 ≠ -1) : (p ≤ (sXs t sz 6 p 3).2 ∧ (p ≤ sz → (sXs t sz 6 p 3).2 ≤ sz)) ∧ (xOk f 6 (sXs t sz 6 p 0).1 (sXs t sz 6 p 1).1 (sXs t sz 6 p 2).1 → Inv (xF f 6 (sXs t sz 6 p 0).1 (sXs t sz 6 p 1).1 (sXs t sz 6 p 2).1 (sXs t sz 6 p 3).1)) := by
  have e := sXs_e6 t sz p
  have g0 : ((sXs t sz 6 p 0).1 = -1 ∨ ((0 : Int) ≠ -1 ∧ 0 ≤ (sXs t sz 6 p 0).1 ∧ (sXs t sz 6 p 0).1 ≤ 9)) ∧ p ≤ (sXs t sz 6 p 0).2 ∧ (p ≤ sz → (sXs t sz 6 p 0).2 ≤ sz) := sFig_r (by decide) (by decide)
  have g1 : ((sXs t sz 6 p 1).1 = -1 ∨ ((sXs t sz 6 p 0).1 ≠ -1 ∧ 1 ≤ (sXs t sz 6 p 1).1 ∧ (sXs t sz 6 p 1).1 ≤ 200)) ∧ (sXs t sz 6 p 0).2 ≤ (sXs t sz 6 p 1).2 ∧ ((sXs t sz 6 p 0).2 ≤ sz → (sXs t sz 6 p 1).2 ≤ sz) := sFig_r (by decide) (by decide)
  have hj : (sXs t sz 6 p 1).1 ≠ -1 := fun q => hn (e.2.mpr q)
  have hlg : ∀ a b : Int, 0 ≤ a ∧ a < f 0 → 0 ≤ b ∧ b < 4 → 100 ≤ f (49 + 9 * a + b) ∧ f (49 + 9 * a + b) ≤ 900 := fun a b ha hb => (hI.2.2.2.2.2.2 a ha.1 ha.2).2.2.2.2 b hb.1 hb.2
  refine ⟨⟨by rw [e.1]; omega, fun h => by rw [e.1]; omega⟩, fun ok => ?_⟩
  have ok := xOk_6.mp ok
  exact Inv_sit hI ok (by omega)
theorem rdI_7 {t f : Int → Int} {sz p : Int} (hI : Inv f) (hn : (sXs t sz 7 p 3).1 ≠ -1) : (p ≤ (sXs t sz 7 p 3).2 ∧ (p ≤ sz → (sXs t sz 7 p 3).2 ≤ sz)) ∧ (xOk f 7 (sXs t sz 7 p 0).1 (sXs t sz 7 p 1).1 (sXs t sz 7 p 2).1 → Inv (xF f 7 (sXs t sz 7 p 0).1 (sXs t sz 7 p 1).1 (sXs t sz 7 p 2).1 (sXs t sz 7 p 3).1)) := by
  have e := sXs_e7 t sz p
  have g0 : ((sXs t sz 7 p 0).1 = -1 ∨ ((0 : Int) ≠ -1 ∧ 0 ≤ (sXs t sz 7 p 0).1 ∧ (sXs t sz 7 p 0).1 ≤ 3)) ∧ p ≤ (sXs t sz 7 p 0).2 ∧ (p ≤ sz → (sXs t sz 7 p 0).2 ≤ sz) := sFig_r (by decide) (by decide)
  have g1 : ((sXs t sz 7 p 1).1 = -1 ∨ ((sXs t sz 7 p 0).1 ≠ -1 ∧ 0 ≤ (sXs t sz 7 p 1).1 ∧ (sXs t sz 7 p 1).1 ≤ 3)) ∧ (sXs t sz 7 p 0).2 ≤ (sXs t sz 7 p 1).2 ∧ ((sXs t sz 7 p 0).2 ≤ sz → (sXs t sz 7 p 1).2 ≤ sz) := sFig_r (by decide) (by decide)
  have g2 : ((sXs t sz 7 p 2).1 = -1 ∨ ((sXs t sz 7 p 1).1 ≠ -1 ∧ 0 ≤ (sXs t sz 7 p 2).1 ∧ (sXs t sz 7 p 2).1 ≤ 900)) ∧ (sXs t sz 7 p 1).2 ≤ (sXs t sz 7 p 2).2 ∧ ((sXs t sz 7 p 1).2 ≤ sz → (sXs t sz 7 p 2).2 ≤ sz) := sFig_r (by decide) (by decide)
  have hj : (sXs t sz 7 p 2).1 ≠ -1 := fun q => hn (e.2.mpr q)
  have hlg : ∀ a b : Int, 0 ≤ a ∧ a < f 0 → 0 ≤ b ∧ b < 4 → 100 ≤ f (49 + 9 * a + b) ∧ f (49 + 9 * a + b) ≤ 900 := fun a b ha hb => (hI.2.2.2.2.2.2 a ha.1 ha.2).2.2.2.2 b hb.1 hb.2
  refine ⟨⟨by rw [e.1]; omega, fun h => by rw [e.1]; omega⟩, fun ok => ?_⟩
  have ok := xOk_7.mp ok
  exact Inv_bound hI (by omega) (by omega) (by omega)
theorem rdI {t f : Int → Int} {sz p : Int} {r : Nat} (hr : r ≤ 7) (hI : Inv f) (hn : (sXs t sz r p 3).1 ≠ -1) : (p ≤ (sXs t sz r p 3).2 ∧ (p ≤ sz → (sXs t sz r p 3).2 ≤ sz)) ∧ (xOk f r (sXs t sz r p 0).1 (sXs t sz r p 1).1 (sXs t sz r p 2).1 → Inv (xF f r (sXs t sz r p 0).1 (sXs t sz r p 1).1 (sXs t sz r p 2).1 (sXs t sz r p 3).1)) := by
  match r, hr with
  | 0, _ => exact rdI_0 hI hn
  | 1, _ => exact rdI_1 hI hn
  | 2, _ => exact rdI_2 hI hn
  | 3, _ => exact rdI_3 hI hn
  | 4, _ => exact rdI_4 hI hn
  | 5, _ => exact rdI_5 hI hn
  | 6, _ => exact rdI_6 hI hn
  | 7, _ => exact rdI_7 hI hn
theorem rd_z {M0 M1 : MM} {m r : Nat} {t f : Int → Int} {sz p o z : Int} (h : rdPost M0 m t sz r p o f z M1) : z = 0 ∨ z = 1 := by
  rcases h with ⟨-, h, -⟩ | ⟨-, h, -⟩
  · exact Or.inl h
  · exact Or.inr h
/-- the reading of a text from a place on: the answer, the place, the left out, the row -/
noncomputable def sGo (t : Int → Int) (sz : Int) : Nat → Int → Int → (Int → Int) → Int × Int × Int × (Int → Int)
  | 0, p, o, f => (-1, p, o, f)
  | n + 1, p, o, f => if p < sz then (match sRow (t p) with
      | none => (p, p, o, f)
      | some r => if (sXs t sz r (p + 1) 3).1 = -1 then ((sXs t sz r (p + 1) 3).2, (sXs t sz r (p + 1) 3).2, o, f)
          else @ite _ (xOk f r (sXs t sz r (p + 1) 0).1 (sXs t sz r (p + 1) 1).1 (sXs t sz r (p + 1) 2).1) (Classical.propDecidable _)
            (sGo t sz n (sXs t sz r (p + 1) 3).2 o (xF f r (sXs t sz r (p + 1) 0).1 (sXs t sz r (p + 1) 1).1 (sXs t sz r (p + 1) 2).1 (sXs t sz r (p + 1) 3).1))
            (sGo t sz n (sXs t sz r (p + 1) 3).2 (o + 1) f)) else (-1, p, o, f)
section GO
variable {t f : Int → Int} {sz p o : Int} {n r : Nat}
theorem sGo_end (h : ¬ p < sz) : sGo t sz n p o f = (-1, p, o, f) := by
  match n with
  | 0 => rfl
  | n + 1 => rw [sGo, if_neg h]
theorem sGo_no (h : p < sz) (hr : sRow (t p) = none) : sGo t sz (n + 1) p o f = (p, p, o, f) := by rw [sGo, if_pos h, hr]
theorem sGo_bad (h : p < sz) (hr : sRow (t p) = some r) (hx : (sXs t sz r (p + 1) 3).1 = -1) : sGo t sz (n + 1) p o f = ((sXs t sz r (p + 1) 3).2, (sXs t sz r (p + 1) 3).2, o, f) := by
  rw [sGo, if_pos h, hr]
  exact if_pos hx
theorem sGo_do (h : p < sz) (hr : sRow (t p) = some r) (hx : (sXs t sz r (p + 1) 3).1 ≠ -1) (ok : xOk f r (sXs t sz r (p + 1) 0).1 (sXs t sz r (p + 1) 1).1 (sXs t sz r (p + 1) 2).1) : sGo t sz (n + 1) p o f = sGo t sz n (sXs t sz r (p + 1) 3).2 o (xF f r (sXs t sz r (p + 1) 0).1 (sXs t sz r (p + 1) 1).1 (sXs t sz r (p + 1) 2).1 (sXs t sz r (p + 1) 3).1) := by
  rw [sGo, if_pos h, hr]
  exact (if_neg hx).trans (if_pos ok)
theorem sGo_skip (h : p < sz) (hr : sRow (t p) = some r) (hx : (sXs t sz r (p + 1) 3).1 ≠ -1) (ok : ¬ xOk f r (sXs t sz r (p + 1) 0).1 (sXs t sz r (p + 1) 1).1 (sXs t sz r (p + 1) 2).1) : sGo t sz (n + 1) p o f = sGo t sz n (sXs t sz r (p + 1) 3).2 (o + 1) f := by
  rw [sGo, if_pos h, hr]
  exact (if_neg hx).trans (if_neg ok)
end GO
noncomputable def sTxt (t : Int → Int) (sz : Int) : Int × Int × Int × (Int → Int) := sGo t sz 120 1 0 fNew
noncomputable def sErr (t : Int → Int) (sz : Int) : Int := if sz = 0 ∨ t 0 ≠ 75 then 0 else (sTxt t sz).1
theorem Tx.rf {M : MM} {m : Nat} : Tx M M m (M m 9) (M m 10) (M (m + 3)) := ⟨rfl, rfl, rfl, fun _ _ _ => rfl, fun _ _ _ => rfl⟩
abbrev rm_X5_readCommand : Room := { frames := 8, cells := 0, slots := 0, locals := 179 }
set_option maxHeartbeats 4000000 in
set_option maxRecDepth 100000 in
theorem c_X5_readCommand (l : Launch) {D : DD} {Λ : LY} {M : MM} {m : Nat} {M0 : MM} {t f : Int → Int} {sz p o : Int} (hL : MdL D Λ m) (hT : Tx M0 M m p o f) (hz : M0 m 2 = sz) (ht : M0 (m + 1) = t) (hC : Txt t sz) (hI : Inv f) (hp : 0 ≤ p ∧ p < sz) : CI l yX5_readCommand cX5_readCommand 5 .boolean rm_X5_readCommand [.ref m, .ref (m + 3)] D Λ M (fun z M1 => (sRow (t p) = none ∧ z = 0 ∧ Tx M0 M1 m p o f) ∨ ∃ r, sRow (t p) = some r ∧ r ≤ 7 ∧ rdPost M0 m t sz r (p + 1) o f z M1) := by
  refine CI_of rfl rfl (Nat.le_of_ble_eq_true rfl) (fun Γ g r => ?_)
  have hC1 := hC.1
  have h0 := hI.1
  have h1 := hI.2.1
  have h11 := hI.2.2.2.1
  refine V_aload_n (q := 1) g dX5_readCommand_0 rfl rfl ?_
  refine V_getR (q := 4) g dX5_readCommand_1 rfl f_X5_7 rfl hL.1 rfl ?_
  refine V_aload_n (q := 5) g dX5_readCommand_4 rfl rfl ?_
  refine V_getI (q := 8) g dX5_readCommand_5 rfl f_X5_109 rfl hL.1 rfl (j := 9) rfl ?_
  rw [hT.1]
  refine V_iaload (q := 9) g dX5_readCommand_8 rfl hL.2.1 (by omega) (by decide) ?_
  rw [hT.tx, ht]
  have ht9 := hC.2 p (by omega) (by omega)
  refine V_istore_n_2 (q := 10) g dX5_readCommand_9 (by decide) rfl rfl ?_
  refine V_aload_n (q := 11) g dX5_readCommand_10 rfl rfl ?_
  refine V_dup (q := 12) g dX5_readCommand_11 rfl rfl ?_
  refine V_getI (q := 15) g dX5_readCommand_12 rfl f_X5_109 rfl hL.1 rfl (j := 9) rfl ?_
  rw [hT.1]
  refine V_iconst (q := 16) g dX5_readCommand_15 rfl ?_
  refine V_iadd (q := 17) g dX5_readCommand_16 rfl ?_
  refine V_putI (q := 20) g dX5_readCommand_17 rfl f_X5_109 tyX5_ok nmX5 rfl hL.1 rfl rfl (ty := .int) rfl rfl rfl (j := 9) rfl ?_
  have hTq := hT.p9 (v := p + 1)
  refine V_iload_n (q := 21) g dX5_readCommand_20 rfl rfl ?_
  rcases (by omega : t p = 98 ∨ t p = 99 ∨ t p = 100 ∨ t p = 101 ∨ t p = 102 ∨ t p = 103 ∨ t p = 104 ∨ t p = 105 ∨ t p = 106 ∨ t p = 107 ∨ t p = 108 ∨ t p = 109 ∨ t p = 110 ∨ t p = 111 ∨ t p = 112 ∨ t p = 113 ∨ t p = 114 ∨ t p = 115 ∨ t p = 116 ∨ t p = 117 ∨ t p = 118 ∨ t p = 119 ∨ (t p < 98 ∨ 119 < t p)) with h21 | h21 | h21 | h21 | h21 | h21 | h21 | h21 | h21 | h21 | h21 | h21 | h21 | h21 | h21 | h21 | h21 | h21 | h21 | h21 | h21 | h21 | h21
  · refine V_tabAt g dX5_readCommand_21 (n := 98) h21 (by decide) (by decide) (by decide) (off := 188) rfl (tgt := 209) (by decide) ?_
    refine V_aload_n (q := 210) g dX5_readCommand_209 rfl rfl ?_
    refine V_aload_n (q := 211) g dX5_readCommand_210 rfl rfl ?_
    refine V_callVI_1 (q := 214) g (c_X5_readBring l hL hTq (by omega) (by omega) hC hI (by omega)) dX5_readCommand_211 k_X5_173 hL.1 rfl rfl rfl rfl ⟨rfl, rfl⟩ rfl (fun z1 M1 e1 => ?_)
    obtain e1 := e1
    exact V_ireturn g r dX5_readCommand_214 (nrZ (rd_z e1)) (Or.inr ⟨4, by rw [h21]; rfl, by decide, e1⟩)
  · refine V_tabAt g dX5_readCommand_21 (n := 99) h21 (by decide) (by decide) (by decide) (off := 103) rfl (tgt := 124) (by decide) ?_
    refine V_aload_n (q := 125) g dX5_readCommand_124 rfl rfl ?_
    refine V_iconst (q := 126) g dX5_readCommand_125 rfl ?_
    refine V_callVI_1 (q := 129) g (c_X5_fourSign l hL hTq (by omega) (by omega) hC (by omega) (by omega)) dX5_readCommand_126 k_X5_125 hL.1 rfl rfl rfl rfl ⟨rfl, rfl⟩ rfl (fun z2 M2 e2 => ?_)
    obtain ⟨e2, hT2⟩ := e2
    have a0 : z2 = (sXs t sz 0 (p + 1) 0).1 := e2
    have hX0 : Tx M0 M2 m (sXs t sz 0 (p + 1) 0).2 o f := hT2
    have g0 : ((sXs t sz 0 (p + 1) 0).1 = -1 ∨ ((0 : Int) ≠ -1 ∧ 0 ≤ (sXs t sz 0 (p + 1) 0).1 ∧ (sXs t sz 0 (p + 1) 0).1 ≤ 3)) ∧ (p + 1) ≤ (sXs t sz 0 (p + 1) 0).2 ∧ ((p + 1) ≤ sz → (sXs t sz 0 (p + 1) 0).2 ≤ sz) := sFig_r (by decide) (by decide)
    refine V_istore_n_3 (q := 130) g dX5_readCommand_129 (by decide) rfl rfl ?_
    refine V_aload_n (q := 131) g dX5_readCommand_130 rfl rfl ?_
    refine V_iload_n (q := 132) g dX5_readCommand_131 rfl rfl ?_
    refine V_bipush (q := 134) g dX5_readCommand_132 (by decide) rfl ?_
    refine V_bipush (q := 136) g dX5_readCommand_134 (by decide) rfl ?_
    refine V_sipush (q := 139) g dX5_readCommand_136 (by decide) rfl ?_
    refine V_callVI_4 (q := 142) g (c_X5_figures l hL hX0 hz ht hC (by omega) (by omega) (k := 3) (Or.inr (Or.inr ⟨rfl, rfl⟩)) (by decide)) dX5_readCommand_139 k_X5_114 hL.1 rfl rfl rfl rfl ⟨rfl, rfl⟩ rfl (fun z3 M3 e3 => ?_)
    obtain ⟨e3, hT3⟩ := e3
    have a1 : z3 = (sXs t sz 0 (p + 1) 1).1 := by rw [e3, a0]; rfl
    rw [a0] at hT3
    have hX1 : Tx M0 M3 m (sXs t sz 0 (p + 1) 1).2 o f := hT3
    have g1 : ((sXs t sz 0 (p + 1) 1).1 = -1 ∨ ((sXs t sz 0 (p + 1) 0).1 ≠ -1 ∧ 100 ≤ (sXs t sz 0 (p + 1) 1).1 ∧ (sXs t sz 0 (p + 1) 1).1 ≤ 900)) ∧ (sXs t sz 0 (p + 1) 0).2 ≤ (sXs t sz 0 (p + 1) 1).2 ∧ ((sXs t sz 0 (p + 1) 0).2 ≤ sz → (sXs t sz 0 (p + 1) 1).2 ≤ sz) := sFig_r (by decide) (by decide)
    refine V_istore_4 (q := 144) g dX5_readCommand_142 (by decide) rfl rfl ?_
    refine V_iload (q := 146) g dX5_readCommand_144 rfl rfl ?_
    refine V_iconst (q := 147) g dX5_readCommand_146 rfl ?_
    refine V_icmp_eq (q := 150) g dX5_readCommand_147 (tgt := 184) (by decide) rfl (by omega) (by omega) (fun h147 => ?_) (fun h147 => ?_)
    · refine V_iconst (q := 185) g dX5_readCommand_184 rfl ?_
      exact V_ireturn g r dX5_readCommand_185 rfl (Or.inr ⟨0, by rw [h21]; rfl, by decide, (rd_f0 a0 a1 (by omega) hX1)⟩)
    · refine V_aload_n (q := 151) g dX5_readCommand_150 rfl rfl ?_
      refine V_aload_n (q := 152) g dX5_readCommand_151 rfl rfl ?_
      refine V_iconst (q := 153) g dX5_readCommand_152 rfl ?_
      refine V_iaload (q := 154) g dX5_readCommand_153 rfl hL.2.2.2.1 (by omega) (by decide) ?_
      rw [hX1.2.2.1]
      refine V_bipush (q := 156) g dX5_readCommand_154 (by decide) rfl ?_
      refine V_icmp_ge (q := 159) g dX5_readCommand_156 (tgt := 173) (by decide) rfl (by omega) (by omega) (fun h156 => ?_) (fun h156 => ?_)
      · refine V_iconst (q := 174) g dX5_readCommand_173 rfl ?_
        refine V_callVI_1 (q := 177) g (c_X5_done l hL hX1 (w := 0) (d := 1) (by decide)) dX5_readCommand_174 k_X5_141 hL.1 rfl rfl rfl rfl ⟨rfl, rfl⟩ rfl (fun z4 M4 e4 => ?_)
        obtain ⟨rfl, hT4⟩ := e4
        refine V_if_eq (q := 180) g dX5_readCommand_177 (tgt := 184) (by decide) rfl (by omega) (fun h177 => absurd h177 (by omega)) (fun h177 => ?_)
        refine V_iconst (q := 181) g dX5_readCommand_180 rfl ?_
        refine V_goto g dX5_readCommand_181 (tgt := 185) (by decide) ?_
        exact V_ireturn g r dX5_readCommand_185 rfl (Or.inr ⟨0, by rw [h21]; rfl, by decide, (by first | exact rd_y0 a0 a1 (by omega) (by omega) hT4 | exact rd_n0 a0 a1 (by omega) (by omega) hT4)⟩)
      · refine V_aload_n (q := 160) g dX5_readCommand_159 rfl rfl ?_
        refine V_iload_n (q := 161) g dX5_readCommand_160 rfl rfl ?_
        refine V_iload (q := 163) g dX5_readCommand_161 rfl rfl ?_
        refine V_callSI_3 (q := 166) g (c_X5_chairOn l hL.2.2.2.1 hX1.2.2.1 hI (by omega)) dX5_readCommand_163 k_X5_162 rfl rfl ⟨rfl, rfl⟩ rfl (fun z5 M5 e5 => ?_)
        obtain ⟨⟨e5, b5⟩, rfl⟩ := e5
        try simp only [aset_aset]
        have hXA := hX1.row (g := fChair f z2 z3)
        refine V_if_lt (q := 169) g dX5_readCommand_166 (tgt := 173) (by decide) rfl (by omega) (fun h166 => absurd h166 (by omega)) (fun h166 => ?_)
        refine V_iconst (q := 170) g dX5_readCommand_169 rfl ?_
        refine V_goto g dX5_readCommand_170 (tgt := 174) (by decide) ?_
        refine V_callVI_1 (q := 177) g (c_X5_done l hL hXA (w := 1) (d := 0) (by decide)) dX5_readCommand_174 k_X5_141 hL.1 rfl rfl rfl rfl ⟨rfl, rfl⟩ rfl (fun z6 M6 e6 => ?_)
        obtain ⟨rfl, hT6⟩ := e6
        refine V_if_eq (q := 180) g dX5_readCommand_177 (tgt := 184) (by decide) rfl (by omega) (fun h177 => absurd h177 (by omega)) (fun h177 => ?_)
        refine V_iconst (q := 181) g dX5_readCommand_180 rfl ?_
        refine V_goto g dX5_readCommand_181 (tgt := 185) (by decide) ?_
        exact V_ireturn g r dX5_readCommand_185 rfl (Or.inr ⟨0, by rw [h21]; rfl, by decide, (by first | exact rd_y0 a0 a1 (by omega) (by omega) hT6 | exact rd_n0 a0 a1 (by omega) (by omega) hT6)⟩)
  · refine V_tabAt g dX5_readCommand_21 (n := 100) h21 (by decide) (by decide) (by decide) (off := 304) rfl (tgt := 325) (by decide) ?_
    refine V_aload_n (q := 326) g dX5_readCommand_325 rfl rfl ?_
    refine V_dup (q := 327) g dX5_readCommand_326 rfl rfl ?_
    refine V_getI (q := 330) g dX5_readCommand_327 rfl f_X5_109 rfl hL.1 rfl (j := 9) rfl ?_
    rw [hTq.1]
    refine V_iconst (q := 331) g dX5_readCommand_330 rfl ?_
    refine V_isub (q := 332) g dX5_readCommand_331 rfl ?_
    refine V_putI (q := 335) g dX5_readCommand_332 rfl f_X5_109 tyX5_ok nmX5 rfl hL.1 rfl rfl (ty := .int) rfl rfl rfl (j := 9) rfl ?_
    refine V_iconst (q := 336) g dX5_readCommand_335 rfl ?_
    exact V_ireturn g r dX5_readCommand_336 rfl (Or.inl ⟨by unfold sRow; rw [if_neg (by omega), if_neg (by omega), if_neg (by omega), if_neg (by omega), if_neg (by omega), if_neg (by omega), if_neg (by omega), if_neg (by omega)], rfl, by have q := hTq.p9 (v := p + 1 - 1); rw [show p + 1 - 1 = p by omega] at q ⊢; exact q⟩)
  · refine V_tabAt g dX5_readCommand_21 (n := 101) h21 (by decide) (by decide) (by decide) (off := 304) rfl (tgt := 325) (by decide) ?_
    refine V_aload_n (q := 326) g dX5_readCommand_325 rfl rfl ?_
    refine V_dup (q := 327) g dX5_readCommand_326 rfl rfl ?_
    refine V_getI (q := 330) g dX5_readCommand_327 rfl f_X5_109 rfl hL.1 rfl (j := 9) rfl ?_
    rw [hTq.1]
    refine V_iconst (q := 331) g dX5_readCommand_330 rfl ?_
    refine V_isub (q := 332) g dX5_readCommand_331 rfl ?_
    refine V_putI (q := 335) g dX5_readCommand_332 rfl f_X5_109 tyX5_ok nmX5 rfl hL.1 rfl rfl (ty := .int) rfl rfl rfl (j := 9) rfl ?_
    refine V_iconst (q := 336) g dX5_readCommand_335 rfl ?_
    exact V_ireturn g r dX5_readCommand_336 rfl (Or.inl ⟨by unfold sRow; rw [if_neg (by omega), if_neg (by omega), if_neg (by omega), if_neg (by omega), if_neg (by omega), if_neg (by omega), if_neg (by omega), if_neg (by omega)], rfl, by have q := hTq.p9 (v := p + 1 - 1); rw [show p + 1 - 1 = p by omega] at q ⊢; exact q⟩)
  · refine V_tabAt g dX5_readCommand_21 (n := 102) h21 (by decide) (by decide) (by decide) (off := 182) rfl (tgt := 203) (by decide) ?_
    refine V_aload_n (q := 204) g dX5_readCommand_203 rfl rfl ?_
    refine V_aload_n (q := 205) g dX5_readCommand_204 rfl rfl ?_
    refine V_callVI_1 (q := 208) g (c_X5_readFloor l hL hTq (by omega) (by omega) hC hI (by omega)) dX5_readCommand_205 k_X5_169 hL.1 rfl rfl rfl rfl ⟨rfl, rfl⟩ rfl (fun z7 M7 e7 => ?_)
    obtain e7 := e7
    exact V_ireturn g r dX5_readCommand_208 (nrZ (rd_z e7)) (Or.inr ⟨3, by rw [h21]; rfl, by decide, e7⟩)
  · refine V_tabAt g dX5_readCommand_21 (n := 103) h21 (by decide) (by decide) (by decide) (off := 298) rfl (tgt := 319) (by decide) ?_
    refine V_aload_n (q := 320) g dX5_readCommand_319 rfl rfl ?_
    refine V_aload_n (q := 321) g dX5_readCommand_320 rfl rfl ?_
    refine V_callVI_1 (q := 324) g (c_X5_readBound l hL hTq (by omega) (by omega) hC hI (by omega)) dX5_readCommand_321 k_X5_182 hL.1 rfl rfl rfl rfl ⟨rfl, rfl⟩ rfl (fun z8 M8 e8 => ?_)
    obtain e8 := e8
    exact V_ireturn g r dX5_readCommand_324 (nrZ (rd_z e8)) (Or.inr ⟨7, by rw [h21]; rfl, by decide, e8⟩)
  · refine V_tabAt g dX5_readCommand_21 (n := 104) h21 (by decide) (by decide) (by decide) (off := 165) rfl (tgt := 186) (by decide) ?_
    refine V_aload_n (q := 187) g dX5_readCommand_186 rfl rfl ?_
    refine V_aload_n (q := 188) g dX5_readCommand_187 rfl rfl ?_
    refine V_iload_n (q := 189) g dX5_readCommand_188 rfl rfl ?_
    refine V_bipush (q := 191) g dX5_readCommand_189 (by decide) rfl ?_
    refine V_icmp_ne (q := 194) g dX5_readCommand_191 (tgt := 198) (by decide) rfl (by omega) (by omega) (fun h191 => ?_) (fun h191 => absurd h191 (by omega))
    refine V_iconst (q := 199) g dX5_readCommand_198 rfl ?_
    refine V_callVI_2 (q := 202) g (c_X5_readLeg l hL hTq hz ht hC hI (by omega) (r := 2) (by decide)) dX5_readCommand_199 k_X5_165 hL.1 rfl rfl rfl rfl ⟨rfl, rfl⟩ rfl (fun z9 M9 e9 => ?_)
    obtain e9 := e9
    exact V_ireturn g r dX5_readCommand_202 (nrZ (rd_z e9)) (Or.inr ⟨2, by rw [h21]; rfl, by decide, e9⟩)
  · refine V_tabAt g dX5_readCommand_21 (n := 105) h21 (by decide) (by decide) (by decide) (off := 304) rfl (tgt := 325) (by decide) ?_
    refine V_aload_n (q := 326) g dX5_readCommand_325 rfl rfl ?_
    refine V_dup (q := 327) g dX5_readCommand_326 rfl rfl ?_
    refine V_getI (q := 330) g dX5_readCommand_327 rfl f_X5_109 rfl hL.1 rfl (j := 9) rfl ?_
    rw [hTq.1]
    refine V_iconst (q := 331) g dX5_readCommand_330 rfl ?_
    refine V_isub (q := 332) g dX5_readCommand_331 rfl ?_
    refine V_putI (q := 335) g dX5_readCommand_332 rfl f_X5_109 tyX5_ok nmX5 rfl hL.1 rfl rfl (ty := .int) rfl rfl rfl (j := 9) rfl ?_
    refine V_iconst (q := 336) g dX5_readCommand_335 rfl ?_
    exact V_ireturn g r dX5_readCommand_336 rfl (Or.inl ⟨by unfold sRow; rw [if_neg (by omega), if_neg (by omega), if_neg (by omega), if_neg (by omega), if_neg (by omega), if_neg (by omega), if_neg (by omega), if_neg (by omega)], rfl, by have q := hTq.p9 (v := p + 1 - 1); rw [show p + 1 - 1 = p by omega] at q ⊢; exact q⟩)
  · refine V_tabAt g dX5_readCommand_21 (n := 106) h21 (by decide) (by decide) (by decide) (off := 304) rfl (tgt := 325) (by decide) ?_
    refine V_aload_n (q := 326) g dX5_readCommand_325 rfl rfl ?_
    refine V_dup (q := 327) g dX5_readCommand_326 rfl rfl ?_
    refine V_getI (q := 330) g dX5_readCommand_327 rfl f_X5_109 rfl hL.1 rfl (j := 9) rfl ?_
    rw [hTq.1]
    refine V_iconst (q := 331) g dX5_readCommand_330 rfl ?_
    refine V_isub (q := 332) g dX5_readCommand_331 rfl ?_
    refine V_putI (q := 335) g dX5_readCommand_332 rfl f_X5_109 tyX5_ok nmX5 rfl hL.1 rfl rfl (ty := .int) rfl rfl rfl (j := 9) rfl ?_
    refine V_iconst (q := 336) g dX5_readCommand_335 rfl ?_
    exact V_ireturn g r dX5_readCommand_336 rfl (Or.inl ⟨by unfold sRow; rw [if_neg (by omega), if_neg (by omega), if_neg (by omega), if_neg (by omega), if_neg (by omega), if_neg (by omega), if_neg (by omega), if_neg (by omega)], rfl, by have q := hTq.p9 (v := p + 1 - 1); rw [show p + 1 - 1 = p by omega] at q ⊢; exact q⟩)
  · refine V_tabAt g dX5_readCommand_21 (n := 107) h21 (by decide) (by decide) (by decide) (off := 304) rfl (tgt := 325) (by decide) ?_
    refine V_aload_n (q := 326) g dX5_readCommand_325 rfl rfl ?_
    refine V_dup (q := 327) g dX5_readCommand_326 rfl rfl ?_
    refine V_getI (q := 330) g dX5_readCommand_327 rfl f_X5_109 rfl hL.1 rfl (j := 9) rfl ?_
    rw [hTq.1]
    refine V_iconst (q := 331) g dX5_readCommand_330 rfl ?_
    refine V_isub (q := 332) g dX5_readCommand_331 rfl ?_
    refine V_putI (q := 335) g dX5_readCommand_332 rfl f_X5_109 tyX5_ok nmX5 rfl hL.1 rfl rfl (ty := .int) rfl rfl rfl (j := 9) rfl ?_
    refine V_iconst (q := 336) g dX5_readCommand_335 rfl ?_
    exact V_ireturn g r dX5_readCommand_336 rfl (Or.inl ⟨by unfold sRow; rw [if_neg (by omega), if_neg (by omega), if_neg (by omega), if_neg (by omega), if_neg (by omega), if_neg (by omega), if_neg (by omega), if_neg (by omega)], rfl, by have q := hTq.p9 (v := p + 1 - 1); rw [show p + 1 - 1 = p by omega] at q ⊢; exact q⟩)
  · refine V_tabAt g dX5_readCommand_21 (n := 108) h21 (by decide) (by decide) (by decide) (off := 304) rfl (tgt := 325) (by decide) ?_
    refine V_aload_n (q := 326) g dX5_readCommand_325 rfl rfl ?_
    refine V_dup (q := 327) g dX5_readCommand_326 rfl rfl ?_
    refine V_getI (q := 330) g dX5_readCommand_327 rfl f_X5_109 rfl hL.1 rfl (j := 9) rfl ?_
    rw [hTq.1]
    refine V_iconst (q := 331) g dX5_readCommand_330 rfl ?_
    refine V_isub (q := 332) g dX5_readCommand_331 rfl ?_
    refine V_putI (q := 335) g dX5_readCommand_332 rfl f_X5_109 tyX5_ok nmX5 rfl hL.1 rfl rfl (ty := .int) rfl rfl rfl (j := 9) rfl ?_
    refine V_iconst (q := 336) g dX5_readCommand_335 rfl ?_
    exact V_ireturn g r dX5_readCommand_336 rfl (Or.inl ⟨by unfold sRow; rw [if_neg (by omega), if_neg (by omega), if_neg (by omega), if_neg (by omega), if_neg (by omega), if_neg (by omega), if_neg (by omega), if_neg (by omega)], rfl, by have q := hTq.p9 (v := p + 1 - 1); rw [show p + 1 - 1 = p by omega] at q ⊢; exact q⟩)
  · refine V_tabAt g dX5_readCommand_21 (n := 109) h21 (by decide) (by decide) (by decide) (off := 304) rfl (tgt := 325) (by decide) ?_
    refine V_aload_n (q := 326) g dX5_readCommand_325 rfl rfl ?_
    refine V_dup (q := 327) g dX5_readCommand_326 rfl rfl ?_
    refine V_getI (q := 330) g dX5_readCommand_327 rfl f_X5_109 rfl hL.1 rfl (j := 9) rfl ?_
    rw [hTq.1]
    refine V_iconst (q := 331) g dX5_readCommand_330 rfl ?_
    refine V_isub (q := 332) g dX5_readCommand_331 rfl ?_
    refine V_putI (q := 335) g dX5_readCommand_332 rfl f_X5_109 tyX5_ok nmX5 rfl hL.1 rfl rfl (ty := .int) rfl rfl rfl (j := 9) rfl ?_
    refine V_iconst (q := 336) g dX5_readCommand_335 rfl ?_
    exact V_ireturn g r dX5_readCommand_336 rfl (Or.inl ⟨by unfold sRow; rw [if_neg (by omega), if_neg (by omega), if_neg (by omega), if_neg (by omega), if_neg (by omega), if_neg (by omega), if_neg (by omega), if_neg (by omega)], rfl, by have q := hTq.p9 (v := p + 1 - 1); rw [show p + 1 - 1 = p by omega] at q ⊢; exact q⟩)
  · refine V_tabAt g dX5_readCommand_21 (n := 110) h21 (by decide) (by decide) (by decide) (off := 304) rfl (tgt := 325) (by decide) ?_
    refine V_aload_n (q := 326) g dX5_readCommand_325 rfl rfl ?_
    refine V_dup (q := 327) g dX5_readCommand_326 rfl rfl ?_
    refine V_getI (q := 330) g dX5_readCommand_327 rfl f_X5_109 rfl hL.1 rfl (j := 9) rfl ?_
    rw [hTq.1]
    refine V_iconst (q := 331) g dX5_readCommand_330 rfl ?_
    refine V_isub (q := 332) g dX5_readCommand_331 rfl ?_
    refine V_putI (q := 335) g dX5_readCommand_332 rfl f_X5_109 tyX5_ok nmX5 rfl hL.1 rfl rfl (ty := .int) rfl rfl rfl (j := 9) rfl ?_
    refine V_iconst (q := 336) g dX5_readCommand_335 rfl ?_
    exact V_ireturn g r dX5_readCommand_336 rfl (Or.inl ⟨by unfold sRow; rw [if_neg (by omega), if_neg (by omega), if_neg (by omega), if_neg (by omega), if_neg (by omega), if_neg (by omega), if_neg (by omega), if_neg (by omega)], rfl, by have q := hTq.p9 (v := p + 1 - 1); rw [show p + 1 - 1 = p by omega] at q ⊢; exact q⟩)
  · refine V_tabAt g dX5_readCommand_21 (n := 111) h21 (by decide) (by decide) (by decide) (off := 304) rfl (tgt := 325) (by decide) ?_
    refine V_aload_n (q := 326) g dX5_readCommand_325 rfl rfl ?_
    refine V_dup (q := 327) g dX5_readCommand_326 rfl rfl ?_
    refine V_getI (q := 330) g dX5_readCommand_327 rfl f_X5_109 rfl hL.1 rfl (j := 9) rfl ?_
    rw [hTq.1]
    refine V_iconst (q := 331) g dX5_readCommand_330 rfl ?_
    refine V_isub (q := 332) g dX5_readCommand_331 rfl ?_
    refine V_putI (q := 335) g dX5_readCommand_332 rfl f_X5_109 tyX5_ok nmX5 rfl hL.1 rfl rfl (ty := .int) rfl rfl rfl (j := 9) rfl ?_
    refine V_iconst (q := 336) g dX5_readCommand_335 rfl ?_
    exact V_ireturn g r dX5_readCommand_336 rfl (Or.inl ⟨by unfold sRow; rw [if_neg (by omega), if_neg (by omega), if_neg (by omega), if_neg (by omega), if_neg (by omega), if_neg (by omega), if_neg (by omega), if_neg (by omega)], rfl, by have q := hTq.p9 (v := p + 1 - 1); rw [show p + 1 - 1 = p by omega] at q ⊢; exact q⟩)
  · refine V_tabAt g dX5_readCommand_21 (n := 112) h21 (by decide) (by decide) (by decide) (off := 304) rfl (tgt := 325) (by decide) ?_
    refine V_aload_n (q := 326) g dX5_readCommand_325 rfl rfl ?_
    refine V_dup (q := 327) g dX5_readCommand_326 rfl rfl ?_
    refine V_getI (q := 330) g dX5_readCommand_327 rfl f_X5_109 rfl hL.1 rfl (j := 9) rfl ?_
    rw [hTq.1]
    refine V_iconst (q := 331) g dX5_readCommand_330 rfl ?_
    refine V_isub (q := 332) g dX5_readCommand_331 rfl ?_
    refine V_putI (q := 335) g dX5_readCommand_332 rfl f_X5_109 tyX5_ok nmX5 rfl hL.1 rfl rfl (ty := .int) rfl rfl rfl (j := 9) rfl ?_
    refine V_iconst (q := 336) g dX5_readCommand_335 rfl ?_
    exact V_ireturn g r dX5_readCommand_336 rfl (Or.inl ⟨by unfold sRow; rw [if_neg (by omega), if_neg (by omega), if_neg (by omega), if_neg (by omega), if_neg (by omega), if_neg (by omega), if_neg (by omega), if_neg (by omega)], rfl, by have q := hTq.p9 (v := p + 1 - 1); rw [show p + 1 - 1 = p by omega] at q ⊢; exact q⟩)
  · refine V_tabAt g dX5_readCommand_21 (n := 113) h21 (by decide) (by decide) (by decide) (off := 304) rfl (tgt := 325) (by decide) ?_
    refine V_aload_n (q := 326) g dX5_readCommand_325 rfl rfl ?_
    refine V_dup (q := 327) g dX5_readCommand_326 rfl rfl ?_
    refine V_getI (q := 330) g dX5_readCommand_327 rfl f_X5_109 rfl hL.1 rfl (j := 9) rfl ?_
    rw [hTq.1]
    refine V_iconst (q := 331) g dX5_readCommand_330 rfl ?_
    refine V_isub (q := 332) g dX5_readCommand_331 rfl ?_
    refine V_putI (q := 335) g dX5_readCommand_332 rfl f_X5_109 tyX5_ok nmX5 rfl hL.1 rfl rfl (ty := .int) rfl rfl rfl (j := 9) rfl ?_
    refine V_iconst (q := 336) g dX5_readCommand_335 rfl ?_
    exact V_ireturn g r dX5_readCommand_336 rfl (Or.inl ⟨by unfold sRow; rw [if_neg (by omega), if_neg (by omega), if_neg (by omega), if_neg (by omega), if_neg (by omega), if_neg (by omega), if_neg (by omega), if_neg (by omega)], rfl, by have q := hTq.p9 (v := p + 1 - 1); rw [show p + 1 - 1 = p by omega] at q ⊢; exact q⟩)
  · refine V_tabAt g dX5_readCommand_21 (n := 114) h21 (by decide) (by decide) (by decide) (off := 304) rfl (tgt := 325) (by decide) ?_
    refine V_aload_n (q := 326) g dX5_readCommand_325 rfl rfl ?_
    refine V_dup (q := 327) g dX5_readCommand_326 rfl rfl ?_
    refine V_getI (q := 330) g dX5_readCommand_327 rfl f_X5_109 rfl hL.1 rfl (j := 9) rfl ?_
    rw [hTq.1]
    refine V_iconst (q := 331) g dX5_readCommand_330 rfl ?_
    refine V_isub (q := 332) g dX5_readCommand_331 rfl ?_
    refine V_putI (q := 335) g dX5_readCommand_332 rfl f_X5_109 tyX5_ok nmX5 rfl hL.1 rfl rfl (ty := .int) rfl rfl rfl (j := 9) rfl ?_
    refine V_iconst (q := 336) g dX5_readCommand_335 rfl ?_
    exact V_ireturn g r dX5_readCommand_336 rfl (Or.inl ⟨by unfold sRow; rw [if_neg (by omega), if_neg (by omega), if_neg (by omega), if_neg (by omega), if_neg (by omega), if_neg (by omega), if_neg (by omega), if_neg (by omega)], rfl, by have q := hTq.p9 (v := p + 1 - 1); rw [show p + 1 - 1 = p by omega] at q ⊢; exact q⟩)
  · refine V_tabAt g dX5_readCommand_21 (n := 115) h21 (by decide) (by decide) (by decide) (off := 165) rfl (tgt := 186) (by decide) ?_
    refine V_aload_n (q := 187) g dX5_readCommand_186 rfl rfl ?_
    refine V_aload_n (q := 188) g dX5_readCommand_187 rfl rfl ?_
    refine V_iload_n (q := 189) g dX5_readCommand_188 rfl rfl ?_
    refine V_bipush (q := 191) g dX5_readCommand_189 (by decide) rfl ?_
    refine V_icmp_ne (q := 194) g dX5_readCommand_191 (tgt := 198) (by decide) rfl (by omega) (by omega) (fun h191 => absurd h191 (by omega)) (fun h191 => ?_)
    refine V_iconst (q := 195) g dX5_readCommand_194 rfl ?_
    refine V_goto g dX5_readCommand_195 (tgt := 199) (by decide) ?_
    refine V_callVI_2 (q := 202) g (c_X5_readLeg l hL hTq hz ht hC hI (by omega) (r := 1) (by decide)) dX5_readCommand_199 k_X5_165 hL.1 rfl rfl rfl rfl ⟨rfl, rfl⟩ rfl (fun z10 M10 e10 => ?_)
    obtain e10 := e10
    exact V_ireturn g r dX5_readCommand_202 (nrZ (rd_z e10)) (Or.inr ⟨1, by rw [h21]; rfl, by decide, e10⟩)
  · refine V_tabAt g dX5_readCommand_21 (n := 116) h21 (by decide) (by decide) (by decide) (off := 194) rfl (tgt := 215) (by decide) ?_
    refine V_aload_n (q := 216) g dX5_readCommand_215 rfl rfl ?_
    refine V_callVI_0 (q := 219) g (c_X5_chairSign l hL hTq (by omega) (by omega) hC (by omega)) dX5_readCommand_216 k_X5_121 hL.1 rfl rfl rfl rfl ⟨rfl, rfl⟩ rfl (fun z11 M11 e11 => ?_)
    obtain ⟨e11, hT11⟩ := e11
    have a0 : z11 = (sXs t sz 5 (p + 1) 0).1 := e11
    have hX0 : Tx M0 M11 m (sXs t sz 5 (p + 1) 0).2 o f := hT11
    have g0 : ((sXs t sz 5 (p + 1) 0).1 = -1 ∨ ((0 : Int) ≠ -1 ∧ 0 ≤ (sXs t sz 5 (p + 1) 0).1 ∧ (sXs t sz 5 (p + 1) 0).1 ≤ 9)) ∧ (p + 1) ≤ (sXs t sz 5 (p + 1) 0).2 ∧ ((p + 1) ≤ sz → (sXs t sz 5 (p + 1) 0).2 ≤ sz) := sFig_r (by decide) (by decide)
    refine V_istore_n_3 (q := 220) g dX5_readCommand_219 (by decide) rfl rfl ?_
    refine V_iload_n (q := 221) g dX5_readCommand_220 rfl rfl ?_
    refine V_iconst (q := 222) g dX5_readCommand_221 rfl ?_
    refine V_icmp_eq (q := 225) g dX5_readCommand_222 (tgt := 257) (by decide) rfl (by omega) (by omega) (fun h222 => ?_) (fun h222 => ?_)
    · refine V_iconst (q := 258) g dX5_readCommand_257 rfl ?_
      exact V_ireturn g r dX5_readCommand_258 rfl (Or.inr ⟨5, by rw [h21]; rfl, by decide, (rd_f5 a0 (by omega) hX0)⟩)
    · refine V_aload_n (q := 226) g dX5_readCommand_225 rfl rfl ?_
      refine V_aload_n (q := 227) g dX5_readCommand_226 rfl rfl ?_
      refine V_iload_n (q := 228) g dX5_readCommand_227 rfl rfl ?_
      refine V_callSI_2 (q := 231) g (c_X5_isChair l hL.2.2.2.1 hX0.2.2.1 hI (by omega)) dX5_readCommand_228 k_X5_96 rfl rfl ⟨rfl, rfl⟩ rfl (fun z12 M12 e12 => ?_)
      obtain ⟨e12, rfl⟩ := e12
      refine V_if_eq (q := 234) g dX5_readCommand_231 (tgt := 246) (by decide) rfl (by omega) (fun h231 => ?_) (fun h231 => ?_)
      · refine V_iconst (q := 247) g dX5_readCommand_246 rfl ?_
        refine V_callVI_1 (q := 250) g (c_X5_done l hL hX0 (w := 0) (d := 1) (by decide)) dX5_readCommand_247 k_X5_141 hL.1 rfl rfl rfl rfl ⟨rfl, rfl⟩ rfl (fun z13 M13 e13 => ?_)
        obtain ⟨rfl, hT13⟩ := e13
        refine V_if_eq (q := 253) g dX5_readCommand_250 (tgt := 257) (by decide) rfl (by omega) (fun h250 => absurd h250 (by omega)) (fun h250 => ?_)
        refine V_iconst (q := 254) g dX5_readCommand_253 rfl ?_
        refine V_goto g dX5_readCommand_254 (tgt := 258) (by decide) ?_
        exact V_ireturn g r dX5_readCommand_258 rfl (Or.inr ⟨5, by rw [h21]; rfl, by decide, (by first | exact rd_y5 a0 (by omega) (by omega) hT13 | exact rd_n5 a0 (by omega) (by omega) hT13)⟩)
      · refine V_aload_n (q := 235) g dX5_readCommand_234 rfl rfl ?_
        refine V_iload_n (q := 236) g dX5_readCommand_235 rfl rfl ?_
        refine V_callSI_2 (q := 239) g (c_X5_testOn l hL.2.2.2.1 hX0.2.2.1 hI (by omega)) dX5_readCommand_236 k_X5_176 rfl rfl ⟨rfl, rfl⟩ rfl (fun z14 M14 e14 => ?_)
        obtain ⟨⟨e14, b14⟩, rfl⟩ := e14
        try simp only [aset_aset]
        have hXA := hX0.row (g := fTest f z11)
        refine V_if_lt (q := 242) g dX5_readCommand_239 (tgt := 246) (by decide) rfl (by omega) (fun h239 => absurd h239 (by omega)) (fun h239 => ?_)
        refine V_iconst (q := 243) g dX5_readCommand_242 rfl ?_
        refine V_goto g dX5_readCommand_243 (tgt := 247) (by decide) ?_
        refine V_callVI_1 (q := 250) g (c_X5_done l hL hXA (w := 1) (d := 0) (by decide)) dX5_readCommand_247 k_X5_141 hL.1 rfl rfl rfl rfl ⟨rfl, rfl⟩ rfl (fun z15 M15 e15 => ?_)
        obtain ⟨rfl, hT15⟩ := e15
        refine V_if_eq (q := 253) g dX5_readCommand_250 (tgt := 257) (by decide) rfl (by omega) (fun h250 => absurd h250 (by omega)) (fun h250 => ?_)
        refine V_iconst (q := 254) g dX5_readCommand_253 rfl ?_
        refine V_goto g dX5_readCommand_254 (tgt := 258) (by decide) ?_
        exact V_ireturn g r dX5_readCommand_258 rfl (Or.inr ⟨5, by rw [h21]; rfl, by decide, (by first | exact rd_y5 a0 (by omega) (by omega) hT15 | exact rd_n5 a0 (by omega) (by omega) hT15)⟩)
  · refine V_tabAt g dX5_readCommand_21 (n := 117) h21 (by decide) (by decide) (by decide) (off := 304) rfl (tgt := 325) (by decide) ?_
    refine V_aload_n (q := 326) g dX5_readCommand_325 rfl rfl ?_
    refine V_dup (q := 327) g dX5_readCommand_326 rfl rfl ?_
    refine V_getI (q := 330) g dX5_readCommand_327 rfl f_X5_109 rfl hL.1 rfl (j := 9) rfl ?_
    rw [hTq.1]
    refine V_iconst (q := 331) g dX5_readCommand_330 rfl ?_
    refine V_isub (q := 332) g dX5_readCommand_331 rfl ?_
    refine V_putI (q := 335) g dX5_readCommand_332 rfl f_X5_109 tyX5_ok nmX5 rfl hL.1 rfl rfl (ty := .int) rfl rfl rfl (j := 9) rfl ?_
    refine V_iconst (q := 336) g dX5_readCommand_335 rfl ?_
    exact V_ireturn g r dX5_readCommand_336 rfl (Or.inl ⟨by unfold sRow; rw [if_neg (by omega), if_neg (by omega), if_neg (by omega), if_neg (by omega), if_neg (by omega), if_neg (by omega), if_neg (by omega), if_neg (by omega)], rfl, by have q := hTq.p9 (v := p + 1 - 1); rw [show p + 1 - 1 = p by omega] at q ⊢; exact q⟩)
  · refine V_tabAt g dX5_readCommand_21 (n := 118) h21 (by decide) (by decide) (by decide) (off := 304) rfl (tgt := 325) (by decide) ?_
    refine V_aload_n (q := 326) g dX5_readCommand_325 rfl rfl ?_
    refine V_dup (q := 327) g dX5_readCommand_326 rfl rfl ?_
    refine V_getI (q := 330) g dX5_readCommand_327 rfl f_X5_109 rfl hL.1 rfl (j := 9) rfl ?_
    rw [hTq.1]
    refine V_iconst (q := 331) g dX5_readCommand_330 rfl ?_
    refine V_isub (q := 332) g dX5_readCommand_331 rfl ?_
    refine V_putI (q := 335) g dX5_readCommand_332 rfl f_X5_109 tyX5_ok nmX5 rfl hL.1 rfl rfl (ty := .int) rfl rfl rfl (j := 9) rfl ?_
    refine V_iconst (q := 336) g dX5_readCommand_335 rfl ?_
    exact V_ireturn g r dX5_readCommand_336 rfl (Or.inl ⟨by unfold sRow; rw [if_neg (by omega), if_neg (by omega), if_neg (by omega), if_neg (by omega), if_neg (by omega), if_neg (by omega), if_neg (by omega), if_neg (by omega)], rfl, by have q := hTq.p9 (v := p + 1 - 1); rw [show p + 1 - 1 = p by omega] at q ⊢; exact q⟩)
  · refine V_tabAt g dX5_readCommand_21 (n := 119) h21 (by decide) (by decide) (by decide) (off := 238) rfl (tgt := 259) (by decide) ?_
    refine V_aload_n (q := 260) g dX5_readCommand_259 rfl rfl ?_
    refine V_callVI_0 (q := 263) g (c_X5_chairSign l hL hTq (by omega) (by omega) hC (by omega)) dX5_readCommand_260 k_X5_121 hL.1 rfl rfl rfl rfl ⟨rfl, rfl⟩ rfl (fun z16 M16 e16 => ?_)
    obtain ⟨e16, hT16⟩ := e16
    have a0 : z16 = (sXs t sz 6 (p + 1) 0).1 := e16
    have hX0 : Tx M0 M16 m (sXs t sz 6 (p + 1) 0).2 o f := hT16
    have g0 : ((sXs t sz 6 (p + 1) 0).1 = -1 ∨ ((0 : Int) ≠ -1 ∧ 0 ≤ (sXs t sz 6 (p + 1) 0).1 ∧ (sXs t sz 6 (p + 1) 0).1 ≤ 9)) ∧ (p + 1) ≤ (sXs t sz 6 (p + 1) 0).2 ∧ ((p + 1) ≤ sz → (sXs t sz 6 (p + 1) 0).2 ≤ sz) := sFig_r (by decide) (by decide)
    refine V_istore_n_3 (q := 264) g dX5_readCommand_263 (by decide) rfl rfl ?_
    refine V_aload_n (q := 265) g dX5_readCommand_264 rfl rfl ?_
    refine V_iload_n (q := 266) g dX5_readCommand_265 rfl rfl ?_
    refine V_bipush (q := 268) g dX5_readCommand_266 (by decide) rfl ?_
    refine V_iconst (q := 269) g dX5_readCommand_268 rfl ?_
    refine V_sipush (q := 272) g dX5_readCommand_269 (by decide) rfl ?_
    refine V_callVI_4 (q := 275) g (c_X5_figures l hL hX0 hz ht hC (by omega) (by omega) (k := 3) (Or.inr (Or.inr ⟨rfl, rfl⟩)) (by decide)) dX5_readCommand_272 k_X5_114 hL.1 rfl rfl rfl rfl ⟨rfl, rfl⟩ rfl (fun z17 M17 e17 => ?_)
    obtain ⟨e17, hT17⟩ := e17
    have a1 : z17 = (sXs t sz 6 (p + 1) 1).1 := by rw [e17, a0]; rfl
    rw [a0] at hT17
    have hX1 : Tx M0 M17 m (sXs t sz 6 (p + 1) 1).2 o f := hT17
    have g1 : ((sXs t sz 6 (p + 1) 1).1 = -1 ∨ ((sXs t sz 6 (p + 1) 0).1 ≠ -1 ∧ 1 ≤ (sXs t sz 6 (p + 1) 1).1 ∧ (sXs t sz 6 (p + 1) 1).1 ≤ 200)) ∧ (sXs t sz 6 (p + 1) 0).2 ≤ (sXs t sz 6 (p + 1) 1).2 ∧ ((sXs t sz 6 (p + 1) 0).2 ≤ sz → (sXs t sz 6 (p + 1) 1).2 ≤ sz) := sFig_r (by decide) (by decide)
    refine V_istore_4 (q := 277) g dX5_readCommand_275 (by decide) rfl rfl ?_
    refine V_iload (q := 279) g dX5_readCommand_277 rfl rfl ?_
    refine V_iconst (q := 280) g dX5_readCommand_279 rfl ?_
    refine V_icmp_eq (q := 283) g dX5_readCommand_280 (tgt := 317) (by decide) rfl (by omega) (by omega) (fun h280 => ?_) (fun h280 => ?_)
    · refine V_iconst (q := 318) g dX5_readCommand_317 rfl ?_
      exact V_ireturn g r dX5_readCommand_318 rfl (Or.inr ⟨6, by rw [h21]; rfl, by decide, (rd_f6 a0 a1 (by omega) hX1)⟩)
    · refine V_aload_n (q := 284) g dX5_readCommand_283 rfl rfl ?_
      refine V_aload_n (q := 285) g dX5_readCommand_284 rfl rfl ?_
      refine V_iload_n (q := 286) g dX5_readCommand_285 rfl rfl ?_
      refine V_callSI_2 (q := 289) g (c_X5_isChair l hL.2.2.2.1 hX1.2.2.1 hI (by omega)) dX5_readCommand_286 k_X5_96 rfl rfl ⟨rfl, rfl⟩ rfl (fun z18 M18 e18 => ?_)
      obtain ⟨e18, rfl⟩ := e18
      refine V_if_eq (q := 292) g dX5_readCommand_289 (tgt := 306) (by decide) rfl (by omega) (fun h289 => ?_) (fun h289 => ?_)
      · refine V_iconst (q := 307) g dX5_readCommand_306 rfl ?_
        refine V_callVI_1 (q := 310) g (c_X5_done l hL hX1 (w := 0) (d := 1) (by decide)) dX5_readCommand_307 k_X5_141 hL.1 rfl rfl rfl rfl ⟨rfl, rfl⟩ rfl (fun z19 M19 e19 => ?_)
        obtain ⟨rfl, hT19⟩ := e19
        refine V_if_eq (q := 313) g dX5_readCommand_310 (tgt := 317) (by decide) rfl (by omega) (fun h310 => absurd h310 (by omega)) (fun h310 => ?_)
        refine V_iconst (q := 314) g dX5_readCommand_313 rfl ?_
        refine V_goto g dX5_readCommand_314 (tgt := 318) (by decide) ?_
        exact V_ireturn g r dX5_readCommand_318 rfl (Or.inr ⟨6, by rw [h21]; rfl, by decide, (by first | exact rd_y6 a0 a1 (by omega) (by omega) hT19 | exact rd_n6 a0 a1 (by omega) (by omega) hT19)⟩)
      · refine V_aload_n (q := 293) g dX5_readCommand_292 rfl rfl ?_
        refine V_iload_n (q := 294) g dX5_readCommand_293 rfl rfl ?_
        refine V_iload (q := 296) g dX5_readCommand_294 rfl rfl ?_
        refine V_callSI_3 (q := 299) g (c_X5_sitOn l hL.2.2.2.1 hX1.2.2.1 hI (by omega) (by omega)) dX5_readCommand_296 k_X5_179 rfl rfl ⟨rfl, rfl⟩ rfl (fun z20 M20 e20 => ?_)
        obtain ⟨⟨e20, b20⟩, rfl⟩ := e20
        try simp only [aset_aset]
        have hXA := hX1.row (g := fSit f z16 z17)
        refine V_if_lt (q := 302) g dX5_readCommand_299 (tgt := 306) (by decide) rfl (by omega) (fun h299 => absurd h299 (by omega)) (fun h299 => ?_)
        refine V_iconst (q := 303) g dX5_readCommand_302 rfl ?_
        refine V_goto g dX5_readCommand_303 (tgt := 307) (by decide) ?_
        refine V_callVI_1 (q := 310) g (c_X5_done l hL hXA (w := 1) (d := 0) (by decide)) dX5_readCommand_307 k_X5_141 hL.1 rfl rfl rfl rfl ⟨rfl, rfl⟩ rfl (fun z21 M21 e21 => ?_)
        obtain ⟨rfl, hT21⟩ := e21
        refine V_if_eq (q := 313) g dX5_readCommand_310 (tgt := 317) (by decide) rfl (by omega) (fun h310 => absurd h310 (by omega)) (fun h310 => ?_)
        refine V_iconst (q := 314) g dX5_readCommand_313 rfl ?_
        refine V_goto g dX5_readCommand_314 (tgt := 318) (by decide) ?_
        exact V_ireturn g r dX5_readCommand_318 rfl (Or.inr ⟨6, by rw [h21]; rfl, by decide, (by first | exact rd_y6 a0 a1 (by omega) (by omega) hT21 | exact rd_n6 a0 a1 (by omega) (by omega) hT21)⟩)
  · refine V_tabOut g dX5_readCommand_21 (by omega) h21 (tgt := 325) (by decide) ?_
    refine V_aload_n (q := 326) g dX5_readCommand_325 rfl rfl ?_
    refine V_dup (q := 327) g dX5_readCommand_326 rfl rfl ?_
    refine V_getI (q := 330) g dX5_readCommand_327 rfl f_X5_109 rfl hL.1 rfl (j := 9) rfl ?_
    rw [hTq.1]
    refine V_iconst (q := 331) g dX5_readCommand_330 rfl ?_
    refine V_isub (q := 332) g dX5_readCommand_331 rfl ?_
    refine V_putI (q := 335) g dX5_readCommand_332 rfl f_X5_109 tyX5_ok nmX5 rfl hL.1 rfl rfl (ty := .int) rfl rfl rfl (j := 9) rfl ?_
    refine V_iconst (q := 336) g dX5_readCommand_335 rfl ?_
    exact V_ireturn g r dX5_readCommand_336 rfl (Or.inl ⟨by unfold sRow; rw [if_neg (by omega), if_neg (by omega), if_neg (by omega), if_neg (by omega), if_neg (by omega), if_neg (by omega), if_neg (by omega), if_neg (by omega)], rfl, by have q := hTq.p9 (v := p + 1 - 1); rw [show p + 1 - 1 = p by omega] at q ⊢; exact q⟩)
