theorem asetO {M : MM} {a b : Nat} {f g : Int → Int} (h : M b = f) (hn : b ≠ a) : aset M a g b = f := by rw [aset_ne M g hn, h]
/-- sitters one behind another -/
def fSitI (f : Int → Int) (c wt : Int) : Nat → (Int → Int)
  | 0 => f
  | n + 1 => fSit (fSitI f c wt n) c wt
def sFl (f : Int → Int) (c wt : Int) : Nat → Nat → Int
  | 0, _ => -1
  | k + 1, n => if sWhy (fSitI f c wt n) c > 0 then n else sFl f c wt k (n + 1)
def sFail (f : Int → Int) (c wt : Int) : Int := sFl f c wt 101 0
theorem fSit_at {f : Int → Int} {c wt j : Int} (hI : Inv f) (hc : 0 ≤ c ∧ c < f 0) (hw : 0 ≤ wt) (h1 : j ≠ 4) (h2 : j ≠ 6) (h3 : j ≠ 9) (h4 : j < 47 + 9 * c) : fSit f c wt j = f j := by
  have h11 := hI.2.2.2.1
  unfold fSit
  rw [up_ne (by omega), up_ne (by omega), up_ne (by omega)]
  exact (sitN hI hc (Int.ediv_nonneg hw (by omega)) 4 (by decide)).2.1 j h1 (by omega) (by omega)
theorem fSitI_r {f : Int → Int} {c wt : Int} (hI : Inv f) (hc : 0 ≤ c ∧ c < f 0) (hw : 0 ≤ wt) : ∀ n : Nat, Inv (fSitI f c wt n) ∧ fSitI f c wt n 0 = f 0
  | 0 => ⟨hI, rfl⟩
  | n + 1 => by
    obtain ⟨h1, h2⟩ := fSitI_r hI hc hw n
    have h3 : 0 ≤ c ∧ c < fSitI f c wt n 0 := by rw [h2]; exact hc
    refine ⟨Inv_sit h1 h3 hw, ?_⟩
    show fSit (fSitI f c wt n) c wt 0 = f 0
    rw [fSit_at h1 h3 hw (by decide) (by decide) (by decide) (by omega), h2]
/-- a chair turned on a floor, again and again -/
def fTurN (f : Int → Int) (c fl : Int) : Nat → (Int → Int)
  | 0 => f
  | n + 1 => fBring (fTurN f c fl n) c fl n
def sKb (f : Int → Int) (c fl : Int) : Nat → Int
  | 0 => 0
  | n + 1 => sKey f c fl (sBqN f c fl n)
theorem turN {f : Int → Int} {c fl : Int} (hI : Inv f) (hc : 0 ≤ c ∧ c < f 0) (hf : 0 ≤ fl ∧ fl < f 1) : ∀ n : Nat, n ≤ 4 → Inv (fTurN f c fl n) ∧ ∀ j : Int, j ≠ 4 → j ≠ 45 + 9 * c → j ≠ 46 + 9 * c → j ≠ 47 + 9 * c → fTurN f c fl n j = f j
  | 0, _ => ⟨hI, fun _ _ _ _ _ => rfl⟩
  | n + 1, h => by
    obtain ⟨h1, h2⟩ := turN hI hc hf n (by omega)
    refine ⟨Inv_bring h1 hc.1 (by rw [h2 1 (by decide) (by omega) (by omega) (by omega)]; exact hf) (by omega), fun j q1 q2 q3 q4 => ?_⟩
    show fBring (fTurN f c fl n) c fl n j = f j
    rw [bring_at q1 q2 q3 q4, h2 j q1 q2 q3 q4]
theorem bring_ln {f : Int → Int} {c fl q : Int} (hc : 0 ≤ c) (hf : 0 ≤ fl ∧ fl < 4) (hq : 0 ≤ q ∧ q < 4) : sLn (fBring f c fl q) c = sLean f c fl q := by
  have e1 : fBring f c fl q (45 + 9 * c) = fl := by unfold fBring; rw [up_ne (by omega), up_eq]
  have e2 : fBring f c fl q (46 + 9 * c) = q := by unfold fBring; rw [up_eq]
  have e : ∀ k : Int, 0 ≤ k ∧ k < 4 → sRe (fBring f c fl q) c k fl q = sRe f c k fl q := fun k hk => by
    unfold sRe
    rw [bring_at (by omega) (by omega) (by omega) (by omega), bring_at (by omega) (by omega) (by omega) (by omega)]
  unfold sLn sLean
  rw [e1, e2, e 0 (by decide), e 1 (by decide), e 2 (by decide), e 3 (by decide)]
theorem tur_shp {f g : Int → Int} {c : Int} (hc : 0 ≤ c) (h : ∀ j : Int, j ≠ 4 → j ≠ 45 + 9 * c → j ≠ 46 + 9 * c → j ≠ 47 + 9 * c → g j = f j) {k fl q : Int} (hk : 0 ≤ k ∧ k < 4) (hf : 0 ≤ fl ∧ fl < 4) (hq : 0 ≤ q ∧ q < 4) : sRe g c k fl q = sRe f c k fl q := by
  unfold sRe
  rw [h _ (by omega) (by omega) (by omega) (by omega), h _ (by omega) (by omega) (by omega) (by omega)]
theorem tur_wob {f g : Int → Int} {c : Int} (hc : 0 ≤ c) (h : ∀ j : Int, j ≠ 4 → j ≠ 45 + 9 * c → j ≠ 46 + 9 * c → j ≠ 47 + 9 * c → g j = f j) {fl q : Int} (hf : 0 ≤ fl ∧ fl < 4) (hq : 0 ≤ q ∧ q < 4) : sWob g c fl q = sWob f c fl q ∧ sLean g c fl q = sLean f c fl q := by
  have e := fun k hk => tur_shp hc h (k := k) hk hf hq
  unfold sWob sTilt sLean
  rw [e 0 (by decide), e 1 (by decide), e 2 (by decide), e 3 (by decide)]
  exact ⟨rfl, rfl⟩
theorem sKey_r {f : Int → Int} (hI : Inv f) {c fl q : Int} (hc : 0 ≤ c ∧ c < f 0) (hf : 0 ≤ fl ∧ fl < 4) (hq : 0 ≤ q ∧ q < 4) : 0 ≤ sKey f c fl q ∧ sKey f c fl q ≤ 1700008503 ∧ sKey f c fl q / 1000000 = sWob f c fl q ∧ sKey f c fl q % 10 = q := by
  have h1 := sWob_r hI hc hf hq
  have h2 := sLean_r hI hc hf hq
  unfold sKey
  omega
theorem saw_cut {f : Int → Int} {c k : Int} (hc : 0 ≤ c) (hk : 0 ≤ k ∧ k < 4) (hw : 0 < sWn f c) : Shp (fSaw f c k (sWn f c)) (sCut f c k) ∧ fSaw f c k (sWn f c) (45 + 9 * c) = f (45 + 9 * c) ∧ fSaw f c k (sWn f c) (46 + 9 * c) = f (46 + 9 * c) ∧ fSaw f c k (sWn f c) 0 = f 0 := by
  have e : fSaw f c k (sWn f c) = fVoid (up (up f 7 (f 7 + sWn f c)) (49 + 9 * c + k) (f (49 + 9 * c + k) + -sWn f c)) c := by
    unfold fSaw fLeg
    rw [if_neg (by omega), up_ne (by omega)]
  refine ⟨fun j h1 h2 => ?_, ?_, ?_, ?_⟩
  · rw [e, fVoid_at (by omega) (by omega)]
    unfold sCut
    by_cases hj : j = 49 + 9 * c + k
    · subst hj
      rw [up_eq, up_eq]
      omega
    · rw [up_ne hj, up_ne (by omega), up_ne hj]
  · rw [e, fVoid_at (by omega) (by omega), up_ne (by omega), up_ne (by omega)]
  · rw [e, fVoid_at (by omega) (by omega), up_ne (by omega), up_ne (by omega)]
  · rw [e, fVoid_at (by omega) (by omega), up_ne (by omega), up_ne (by omega)]
theorem saw_wn {f : Int → Int} (hI : Inv f) {c k : Int} (hc : 0 ≤ c ∧ c < f 0) (hk : 0 ≤ k ∧ k < 4) (hw : 0 < sWn f c) : sWn (fSaw f c k (sWn f c)) c = sWn (sCut f c k) c ∧ sLn (fSaw f c k (sWn f c)) c = sLn (sCut f c k) c := by
  obtain ⟨h1, h2, h3, -⟩ := saw_cut hc.1 hk hw
  have h4 := hI.2.1
  obtain ⟨-, h5, h6, -⟩ := hI.2.2.2.2.2.2 c hc.1 hc.2
  have e1 : sCut f c k (45 + 9 * c) = f (45 + 9 * c) := by unfold sCut; exact up_ne (by omega)
  have e2 : sCut f c k (46 + 9 * c) = f (46 + 9 * c) := by unfold sCut; exact up_ne (by omega)
  generalize fSaw f c k (sWn f c) = g at *
  unfold sWn sLn sWob
  rw [h2, h3, e1, e2, sTilt_shp h1 hc.1 (by omega) (by omega), sLean_shp h1 hc.1 (by omega) (by omega)]
  exact ⟨rfl, rfl⟩
/-- the chairs that a test would not refuse, as bits -/
def sSnd (f : Int → Int) : Nat → Int32
  | 0 => 0
  | n + 1 => if sWhy f n = 0 then sSnd f n ||| (iI 1 <<< (iI n &&& 31)) else sSnd f n
/-! scripts -/
def okCmd (f : Int → Int) (h a b n : Int) : Prop :=
  if h = 1 then (0 ≤ a ∧ a < f 0) ∧ b < 4 ∧ (1 ≤ n ∧ n ≤ 800) ∧ 100 ≤ f (49 + 9 * a + b) - n
  else if h = 2 then (0 ≤ a ∧ a < f 0) ∧ b < 4 ∧ (1 ≤ n ∧ n ≤ 99) ∧ f (49 + 9 * a + b) + n ≤ 900
  else if h = 3 then n % 100 = 0 ∧ (0 ≤ a ∧ a < f 0) ∧ (0 ≤ b ∧ b < f 1) ∧ n / 100 < 4
  else if h = 4 then b = 0 ∧ n < 10 ∧ (0 ≤ a ∧ a < f 0) ∧ sWhy f a = n
  else if h = 5 then b = 0 ∧ (0 ≤ a ∧ a < f 0) ∧ (1 ≤ n ∧ n ≤ 200)
  else if h = 6 then a < 4 ∧ b < 4 ∧ (b < 2 ∧ 100 ≤ n ∧ n ≤ 900 ∨ b = 2 ∧ 0 ≤ n ∧ n ≤ 100 ∨ b = 3 ∧ 0 ≤ n ∧ n ≤ 200)
  else if h = 7 then b = 0 ∧ (0 ≤ a ∧ a < f 0) ∧ sWn f a ≤ n
  else if h = 8 then b = 0 ∧ (0 ≤ a ∧ a < f 0) ∧ f (47 + 9 * a) = n
  else if h = 9 then b = 0 ∧ (0 ≤ a ∧ a < f 0) ∧ sLn f a ≤ n
  else False
def fCmd (f : Int → Int) (h a b n : Int) : Int → Int := if h = 1 then fSaw f a b n else if h = 2 then fShim f a b n else if h = 3 then fBring f a b (n / 100) else if h = 4 then fTest f a else if h = 5 then fSit f a n else if h = 6 then fBound f a b n else f
theorem Inv_cmd {f : Int → Int} (hI : Inv f) {h a b n : Int} (ha : 0 ≤ a) (hb : 0 ≤ b) (hn : 0 ≤ n) (ok : okCmd f h a b n) : Inv (fCmd f h a b n) := by
  unfold fCmd
  unfold okCmd at ok
  have hl : (0 ≤ a ∧ a < f 0) → b < 4 → 100 ≤ f (49 + 9 * a + b) ∧ f (49 + 9 * a + b) ≤ 900 := fun q1 q2 => (hI.2.2.2.2.2.2 a q1.1 q1.2).2.2.2.2 b hb q2
  by_cases h1 : h = 1
  · rw [if_pos h1] at ok ⊢
    have := hl ok.1 ok.2.1
    exact Inv_saw hI ha (by omega) (by omega)
  rw [if_neg h1] at ok ⊢
  by_cases h1 : h = 2
  · rw [if_pos h1] at ok ⊢
    have := hl ok.1 ok.2.1
    exact Inv_shim hI ha (by omega) (by omega)
  rw [if_neg h1] at ok ⊢
  by_cases h1 : h = 3
  · rw [if_pos h1] at ok ⊢
    exact Inv_bring hI ha (by omega) (by omega)
  rw [if_neg h1] at ok ⊢
  by_cases h1 : h = 4
  · rw [if_pos h1] at ok ⊢
    exact Inv_test hI ha
  rw [if_neg h1] at ok ⊢
  by_cases h1 : h = 5
  · rw [if_pos h1] at ok ⊢
    exact Inv_sit hI ok.2.1 hn
  rw [if_neg h1] at ok ⊢
  by_cases h1 : h = 6
  · rw [if_pos h1] at ok ⊢
    exact Inv_bound hI (by omega) (by omega) (by omega)
  rw [if_neg h1]
  exact hI
def sP : Nat → Int
  | 0 => 1
  | 1 => 1000000
  | 2 => 1000000000000
  | _ => 1000000000000000000
/-- the group of a script that stands before n others -/
def sGr (s : Int) (n : Nat) : Int := s / sP n % 1000000
def okG (f : Int → Int) (x : Int) : Prop := okCmd f (x / 100000) (x / 10000 % 10) (x / 1000 % 10) (x % 1000)
def fG (f : Int → Int) (x : Int) : Int → Int := fCmd f (x / 100000) (x / 10000 % 10) (x / 1000 % 10) (x % 1000)
theorem Inv_G {f : Int → Int} (hI : Inv f) {x : Int} (h0 : 0 ≤ x) (ok : okG f x) : Inv (fG f x) := Inv_cmd hI (by omega) (by omega) (by omega) ok
/-- the number of the first group that fails, or none -/
noncomputable def sRun (s : Int) : Nat → Int → (Int → Int) → Int
  | 0, _, _ => -1
  | n + 1, k, f => @ite Int (okG f (sGr s n)) (Classical.propDecidable _) (sRun s n (k + 1) (fG f (sGr s n))) k
/-! simulations -/
def fTurn (f : Int → Int) (h q : Int) : Int → Int :=
  if h < 2 then (if f 0 < 10 then fChair f (q % 4) (400 + q / 4 % 101) else f)
  else if h = 2 then (if f 1 < 4 then fFloor f (q % 9) (q / 9 % 9) (q / 81 % 9) (q / 729 % 9) else f)
  else if h = 3 then (if q % 4 < f 1 then fLevel f (q % 4) (q / 4 % 4) (q / 16 % 12) else f)
  else if h < 6 then (if q % 10 < f 0 ∧ 100 ≤ f (49 + 9 * (q % 10) + q / 16 % 4) - (1 + q / 64 % 9) then fSaw f (q % 10) (q / 16 % 4) (1 + q / 64 % 9) else f)
  else if h = 6 then (if q % 10 < f 0 ∧ f (49 + 9 * (q % 10) + q / 16 % 4) + (1 + q / 64 % 9) ≤ 900 then fShim f (q % 10) (q / 16 % 4) (1 + q / 64 % 9) else f)
  else if h = 7 then (if q % 10 < f 0 ∧ q / 16 % 4 < f 1 then fBring f (q % 10) (q / 16 % 4) (q / 64 % 4) else f)
  else if h < 11 then (if q % 10 < f 0 then fTest f (q % 10) else f)
  else if h = 11 then fBound f (q % 4) (2 + q / 4 % 2) (q / 8 % 30)
  else (if q % 10 < f 0 then fSit f (q % 10) (1 + q / 16 % 200) else f)
theorem Inv_turn {f : Int → Int} (hI : Inv f) {h q : Int} (hq : 0 ≤ q) : Inv (fTurn f h q) := by
  have h0 := hI.1
  have h1 := hI.2.1
  have hl : ∀ a b : Int, (0 ≤ a ∧ a < f 0) → 0 ≤ b ∧ b < 4 → 100 ≤ f (49 + 9 * a + b) ∧ f (49 + 9 * a + b) ≤ 900 := fun a b q1 q2 => (hI.2.2.2.2.2.2 a q1.1 q1.2).2.2.2.2 b q2.1 q2.2
  unfold fTurn
  split
  · split
    · exact Inv_chair hI (by omega) (by omega) (by omega)
    · exact hI
  split
  · split
    · exact Inv_floor hI (by omega) (by omega) (by omega) (by omega) (by omega)
    · exact hI
  split
  · split
    · exact Inv_level hI (by omega) (by omega) (by omega)
    · exact hI
  split
  · split
    · have := hl (q % 10) (q / 16 % 4) (by omega) (by omega)
      exact Inv_saw hI (by omega) (by omega) (by omega)
    · exact hI
  split
  · split
    · have := hl (q % 10) (q / 16 % 4) (by omega) (by omega)
      exact Inv_shim hI (by omega) (by omega) (by omega)
    · exact hI
  split
  · split
    · exact Inv_bring hI (by omega) (by omega) (by omega)
    · exact hI
  split
  · split
    · exact Inv_test hI (by omega)
    · exact hI
  split
  · exact Inv_bound hI (by omega) (by omega) (by omega)
  · split
    · exact Inv_sit hI (by omega) (by omega)
    · exact hI
def zN (s : Int) : Nat → Int
  | 0 => s
  | n + 1 => zN s n * 6364136223846793005 + 1442695040888963407
/-- the bits of a number that a turn takes -/
def sU (z : Int) : Int64 := (((lI z).toUInt64 >>> ((iI 33).toInt64.toUInt64 &&& Int64.toUInt64 63)).toInt64)
def sR (z : Int) : Int := (sU z).toInt
theorem sR_r (z : Int) : 0 ≤ sR z ∧ sR z < 2147483648 := by
  have e : ((iI 33).toInt64.toUInt64 &&& Int64.toUInt64 63) = (33 : UInt64) := by decide
  unfold sR sU
  rw [e]
  have h1 : ((lI z).toUInt64 >>> (33 : UInt64)).toNat = (lI z).toUInt64.toNat / 8589934592 := by
    rw [UInt64.toNat_shiftRight]
    rw [show (33 : UInt64).toNat % 64 = 33 from rfl, Nat.shiftRight_eq_div_pow]
  have h2 : (lI z).toUInt64.toNat < 18446744073709551616 := (lI z).toUInt64.toNat_lt
  have h3 : ((lI z).toUInt64 >>> (33 : UInt64)).toInt64.toInt = (((lI z).toUInt64 >>> (33 : UInt64)).toNat : Int) := by
    show (((lI z).toUInt64 >>> (33 : UInt64)).toBitVec).toInt = _
    rw [BitVec.toInt_eq_toNat_of_lt (by show 2 * ((lI z).toUInt64 >>> (33 : UInt64)).toNat < _; omega)]
    rfl
  rw [h3, h1]
  omega
theorem sU_l (z : Int) : (Value.long (sU z)) = vl (sR z) := by
  show Value.long (sU z) = Value.long (lI (sU z).toInt)
  rw [lI_self]
def fSimN (f : Int → Int) (s : Int) : Nat → (Int → Int)
  | 0 => f
  | n + 1 => fTurn (fSimN f s n) (sR (zN s (n + 1)) % 16) (sR (zN s (n + 1)) / 16)
theorem Inv_sim {f : Int → Int} (hI : Inv f) (s : Int) : ∀ n : Nat, Inv (fSimN f s n)
  | 0 => hI
  | n + 1 => Inv_turn (Inv_sim hI s n) (by have := sR_r (zN s (n + 1)); omega)
def sSim (f : Int → Int) (s : Int) (n : Nat) : Int := 10000 * (fSimN f s n 3 - f 3) + 100 * sStamped (fSimN f s n) + fSimN f s n 4 - f 4
