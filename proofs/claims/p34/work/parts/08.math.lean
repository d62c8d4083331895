/-! Math.min, Math.max -/
def sMin (a b : Int) : Int := if b < a then b else a
def sMax (a b : Int) : Int := if a < b then b else a
theorem V_mmin {Γ : VG} {D : DD} {Λ : LY} {own : String} {cc : ByteArray} {nL : Nat} {l : Launch} {R : Room} {M : MM} {κ : Nat × Nat} {pc q idx : Nat} {lv : List (Option Value)} {st : List Value} {a b : Int} (g : VOk Γ D Λ own cc nL l R) (d : decode cc pc = .ok (.invokestatic idx, 3)) (hk : ∀ w ∈ [Cond.methodLink own idx Lib.Math.min.name, .static Lib.Math.min.name, .initialized "java/lang/Math", .code Lib.Math.min.name Lib.Math.min.code 2 (some .int)], w ∈ BIG) (ha : inR a) (hb : inR b) (hr : rmOk { frames := 0, cells := 0, slots := 0, locals := 0 } 2 R κ = true) (hs : stOk st = true) (hq : pc + 3 = q) (k : ∀ z, z = sMin a b → V Γ D Λ M κ q lv (vi z :: st)) : V Γ D Λ M κ pc lv (vi b :: vi a :: st) := by
  subst hq
  intro H locs ls h1 h2 h3
  obtain ⟨⟨r1, r2⟩, r3, r4⟩ := rmOk_sp hr
  have h9 : gR Γ = R := g.room
  have hs9 : (st.map fun v => v.category).sum ≤ 8 := by simpa [stOk] using hs
  refine va_mmin g.exec g.code (g.ml.trans (lvH.size g h3).symm) g.hown (g.hts _ (hk _ (by simp))) (g.hts _ (hk _ (by simp))) (g.hts _ (hk _ (by simp))) (g.hts _ (hk _ (by simp))) (by rw [h9]; exact Nat.le_of_succ_le_succ (Nat.succ_le_succ r1)) (by rw [h9]; have r2' : 8 + (2 + 11) + 0 ≤ R.locals := r2; omega) (by rw [h9]; exact r3) (by rw [h9]; exact r4) d ?_
  have e : (if iI b < iI a then iI b else iI a) = iI (sMin a b) := by
    unfold sMin
    by_cases h : b < a
    · rw [if_pos h, if_pos ((iI_lt hb ha).mpr h)]
    · rw [if_neg h, if_neg (fun z => h ((iI_lt hb ha).mp z))]
  rw [e]
  exact k _ rfl H locs ls h1 h2 h3
theorem V_mmax {Γ : VG} {D : DD} {Λ : LY} {own : String} {cc : ByteArray} {nL : Nat} {l : Launch} {R : Room} {M : MM} {κ : Nat × Nat} {pc q idx : Nat} {lv : List (Option Value)} {st : List Value} {a b : Int} (g : VOk Γ D Λ own cc nL l R) (d : decode cc pc = .ok (.invokestatic idx, 3)) (hk : ∀ w ∈ [Cond.methodLink own idx Lib.Math.max.name, .static Lib.Math.max.name, .initialized "java/lang/Math", .code Lib.Math.max.name Lib.Math.max.code 2 (some .int)], w ∈ BIG) (ha : inR a) (hb : inR b) (hr : rmOk { frames := 0, cells := 0, slots := 0, locals := 0 } 2 R κ = true) (hs : stOk st = true) (hq : pc + 3 = q) (k : ∀ z, z = sMax a b → V Γ D Λ M κ q lv (vi z :: st)) : V Γ D Λ M κ pc lv (vi b :: vi a :: st) := by
  subst hq
  intro H locs ls h1 h2 h3
  obtain ⟨⟨r1, r2⟩, r3, r4⟩ := rmOk_sp hr
  have h9 : gR Γ = R := g.room
  have hs9 : (st.map fun v => v.category).sum ≤ 8 := by simpa [stOk] using hs
  refine va_mmax g.exec g.code (g.ml.trans (lvH.size g h3).symm) g.hown (g.hts _ (hk _ (by simp))) (g.hts _ (hk _ (by simp))) (g.hts _ (hk _ (by simp))) (g.hts _ (hk _ (by simp))) (by rw [h9]; exact Nat.le_of_succ_le_succ (Nat.succ_le_succ r1)) (by rw [h9]; have r2' : 8 + (2 + 11) + 0 ≤ R.locals := r2; omega) (by rw [h9]; exact r3) (by rw [h9]; exact r4) d ?_
  have e : (if iI a < iI b then iI b else iI a) = iI (sMax a b) := by
    unfold sMax
    by_cases h : a < b
    · rw [if_pos h, if_pos ((iI_lt ha hb).mpr h)]
    · rw [if_neg h, if_neg (fun z => h ((iI_lt ha hb).mp z))]
  rw [e]
  exact k _ rfl H locs ls h1 h2 h3
theorem m_X0_33 : ∀ w ∈ [Cond.methodLink RX0 33 Lib.Math.min.name, .static Lib.Math.min.name, .initialized "java/lang/Math", .code Lib.Math.min.name Lib.Math.min.code 2 (some .int)], w ∈ BIG := big_all [671, 343, 18, 344] (by decide +kernel)
theorem m_X1_76 : ∀ w ∈ [Cond.methodLink RX1 76 Lib.Math.min.name, .static Lib.Math.min.name, .initialized "java/lang/Math", .code Lib.Math.min.name Lib.Math.min.code 2 (some .int)], w ∈ BIG := big_all [487, 343, 18, 344] (by decide +kernel)
theorem m_X1_82 : ∀ w ∈ [Cond.methodLink RX1 82 Lib.Math.max.name, .static Lib.Math.max.name, .initialized "java/lang/Math", .code Lib.Math.max.name Lib.Math.max.code 2 (some .int)], w ∈ BIG := big_all [488, 340, 18, 341] (by decide +kernel)
theorem m_J1_38 : ∀ w ∈ [Cond.methodLink RJ1 38 Lib.Math.min.name, .static Lib.Math.min.name, .initialized "java/lang/Math", .code Lib.Math.min.name Lib.Math.min.code 2 (some .int)], w ∈ BIG := big_all [342, 343, 18, 344] (by decide +kernel)
theorem m_J1_92 : ∀ w ∈ [Cond.methodLink RJ1 92 Lib.Math.max.name, .static Lib.Math.max.name, .initialized "java/lang/Math", .code Lib.Math.max.name Lib.Math.max.code 2 (some .int)], w ∈ BIG := big_all [339, 340, 18, 341] (by decide +kernel)
theorem m_J2_183 : ∀ w ∈ [Cond.methodLink RJ2 183 Lib.Math.min.name, .static Lib.Math.min.name, .initialized "java/lang/Math", .code Lib.Math.min.name Lib.Math.min.code 2 (some .int)], w ∈ BIG := big_all [352, 343, 18, 344] (by decide +kernel)
theorem m_J2_224 : ∀ w ∈ [Cond.methodLink RJ2 224 Lib.Math.max.name, .static Lib.Math.max.name, .initialized "java/lang/Math", .code Lib.Math.max.name Lib.Math.max.code 2 (some .int)], w ∈ BIG := big_all [351, 340, 18, 341] (by decide +kernel)
/-! the office in numbers: f is what the one row of 134 numbers holds -/
/-- the cells of an office at o: itself, its ten rows behind it -/
def oFl (o : Nat) : List (Option Nat) := [none, none, some (o + 1), some (o + 2), some (o + 3), some (o + 4), some (o + 5), some (o + 6), some (o + 7), some (o + 8), some (o + 9), some (o + 10)]
def OffL (D : DD) (Λ : LY) (o : Nat) : Prop := Λ o = some (kO 1 (oFl o)) ∧ Λ (o + 1) = some (kI D 10) ∧ Λ (o + 2) = some (kI D 10) ∧ Λ (o + 3) = some (kI D 10) ∧ Λ (o + 4) = some (kI D 10) ∧ Λ (o + 5) = some (kI D 10) ∧ Λ (o + 6) = some (kI D 40) ∧ Λ (o + 7) = some (kI D 16) ∧ Λ (o + 8) = some (kI D 16) ∧ Λ (o + 9) = some (kI D 2) ∧ Λ (o + 10) = some (kI D 11)
/-- a chair's numbers in an office -/
def OffC (M : MM) (o : Nat) (f : Int → Int) (c : Int) : Prop := M (o + 1) c = f (44 + 9 * c) ∧ M (o + 2) c = f (45 + 9 * c) ∧ M (o + 3) c = f (46 + 9 * c) ∧ M (o + 4) c = f (47 + 9 * c) ∧ M (o + 5) c = f (48 + 9 * c) ∧ ∀ k : Int, 0 ≤ k → k < 4 → M (o + 6) (4 * c + k) = f (49 + 9 * c + k)
/-- the office at o holds the numbers f -/
def Off (M : MM) (o : Nat) (f : Int → Int) : Prop :=
  M o 0 = f 0 ∧ M o 1 = f 1 ∧ (∀ c : Int, 0 ≤ c → c < f 0 → OffC M o f c) ∧
  (∀ j : Int, 0 ≤ j → j < 16 → M (o + 7) j = f (12 + j)) ∧ (∀ j : Int, 0 ≤ j → j < 16 → M (o + 8) j = f (28 + j)) ∧ M (o + 9) 0 = f 10 ∧ M (o + 9) 1 = f 11 ∧ (∀ j : Int, 3 ≤ j → j ≤ 10 → M (o + 10) j = f (j - 1))
/-- a chair's numbers are in their ranges -/
def InvC (f : Int → Int) (c : Int) : Prop := (0 ≤ f (44 + 9 * c) ∧ f (44 + 9 * c) ≤ 3) ∧ (0 ≤ f (45 + 9 * c) ∧ f (45 + 9 * c) < f 1) ∧ (0 ≤ f (46 + 9 * c) ∧ f (46 + 9 * c) ≤ 3) ∧ (0 ≤ f (47 + 9 * c) ∧ f (47 + 9 * c) ≤ 1) ∧ ∀ k : Int, 0 ≤ k → k < 4 → 100 ≤ f (49 + 9 * c + k) ∧ f (49 + 9 * c + k) ≤ 900
def InvG (f : Int → Int) (g : Int) : Prop := (100 ≤ f (28 + 4 * g) ∧ f (28 + 4 * g) ≤ 900) ∧ (100 ≤ f (29 + 4 * g) ∧ f (29 + 4 * g) ≤ 900) ∧ (0 ≤ f (30 + 4 * g) ∧ f (30 + 4 * g) ≤ 100) ∧ (0 ≤ f (31 + 4 * g) ∧ f (31 + 4 * g) ≤ 200)
/-- what no call breaks -/
def Inv (f : Int → Int) : Prop :=
  (0 ≤ f 0 ∧ f 0 ≤ 10) ∧ (1 ≤ f 1 ∧ f 1 ≤ 4) ∧ (0 ≤ f 10 ∧ f 10 ≤ 50) ∧ (1 ≤ f 11 ∧ f 11 ≤ 200) ∧
  (∀ j : Int, 0 ≤ j → j < 16 → 0 ≤ f (12 + j) ∧ f (12 + j) ≤ 50) ∧ (∀ g : Int, 0 ≤ g → g < 4 → InvG f g) ∧ (∀ c : Int, 0 ≤ c → c < f 0 → InvC f c)
/-- the reach of a leg on a floor, turned -/
def sRe (f : Int → Int) (c k fl q : Int) : Int := f (49 + 9 * c + k) - f (12 + (4 * fl + (k + q) % 4))
def sAbs (x : Int) : Int := if x < 0 then -x else x
def sTilt (f : Int → Int) (c fl q : Int) : Int := sRe f c 0 fl q + sRe f c 2 fl q - sRe f c 1 fl q - sRe f c 3 fl q
def sWob (f : Int → Int) (c fl q : Int) : Int := sAbs (sTilt f c fl q)
def sLean (f : Int → Int) (c fl q : Int) : Int := sMax (sMax (sMax (sRe f c 0 fl q) (sRe f c 1 fl q)) (sRe f c 2 fl q)) (sRe f c 3 fl q) - sMin (sMin (sMin (sRe f c 0 fl q) (sRe f c 1 fl q)) (sRe f c 2 fl q)) (sRe f c 3 fl q)
def sSeat (f : Int → Int) (c : Int) : Int := (f (49 + 9 * c) + f (50 + 9 * c) + f (51 + 9 * c) + f (52 + 9 * c)) / 4
/-- chair c where it is -/
def sRn (f : Int → Int) (c k : Int) : Int := sRe f c k (f (45 + 9 * c)) (f (46 + 9 * c))
def sWn (f : Int → Int) (c : Int) : Int := sWob f c (f (45 + 9 * c)) (f (46 + 9 * c))
def sLn (f : Int → Int) (c : Int) : Int := sLean f c (f (45 + 9 * c)) (f (46 + 9 * c))
def sIdle (f : Int → Int) (c : Int) : Int := if sTilt f c (f (45 + 9 * c)) (f (46 + 9 * c)) = 0 then -1 else if sTilt f c (f (45 + 9 * c)) (f (46 + 9 * c)) < 0 then (if sRn f c 2 < sRn f c 0 then 2 else 0) else (if sRn f c 3 < sRn f c 1 then 3 else 1)
def sWhy (f : Int → Int) (c : Int) : Int := if sWn f c > f (30 + 4 * f (44 + 9 * c)) then 1 else if sLn f c > f (31 + 4 * f (44 + 9 * c)) then 2 else if sSeat f c < f (28 + 4 * f (44 + 9 * c)) then 3 else if sSeat f c > f (29 + 4 * f (44 + 9 * c)) then 4 else 0
theorem sRe_r {f : Int → Int} (hI : Inv f) {c k fl q : Int} (hc : 0 ≤ c ∧ c < f 0) (hk : 0 ≤ k ∧ k < 4) (hf : 0 ≤ fl ∧ fl < 4) (hq : 0 ≤ q ∧ q < 4) : 50 ≤ sRe f c k fl q ∧ sRe f c k fl q ≤ 900 := by
  have h1 := (hI.2.2.2.2.2.2 c hc.1 hc.2).2.2.2.2 k hk.1 hk.2
  have h2 := hI.2.2.2.2.1 (4 * fl + (k + q) % 4) (by omega) (by omega)
  unfold sRe
  omega
theorem sMin_r {a b : Int} : (sMin a b = a ∧ a ≤ b) ∨ (sMin a b = b ∧ b < a) := by unfold sMin; split <;> omega
theorem sMax_r {a b : Int} : (sMax a b = a ∧ b ≤ a) ∨ (sMax a b = b ∧ a < b) := by unfold sMax; split <;> omega
theorem sAbs_r {a : Int} : (sAbs a = a ∧ 0 ≤ a) ∨ (sAbs a = -a ∧ a < 0) := by unfold sAbs; split <;> omega
