theorem V_lcmpx {Γ : VG} {D : DD} {Λ : LY} {own : String} {cc : ByteArray} {nL : Nat} {l : Launch} {R : Room} {M : MM} {κ : Nat × Nat} {pc q : Nat} {lv : List (Option Value)} {st : List Value} {a b : Int} (g : VOk Γ D Λ own cc nL l R) (d : decode cc pc = .ok (.lcmp, 1)) (hq : pc + 1 = q) (ha : inL a) (hb : inL b) (k : ∀ x : Int, (a < b ∧ x = -1) ∨ (a = b ∧ x = 0) ∨ (b < a ∧ x = 1) → V Γ D Λ M κ q lv (vi x :: st)) : V Γ D Λ M κ pc lv (vl b :: vl a :: st) := by
  refine V_lcmp g d hq ha hb (k _ ?_)
  by_cases h : a < b
  · rw [if_pos h]; exact Or.inl ⟨h, rfl⟩
  · rw [if_neg h]
    by_cases h2 : a = b
    · rw [if_pos h2]; exact Or.inr (Or.inl ⟨h2, rfl⟩)
    · rw [if_neg h2]; exact Or.inr (Or.inr ⟨by omega, rfl⟩)
theorem bring_at {f : Int → Int} {c fl q j : Int} (h1 : j ≠ 4) (h2 : j ≠ 45 + 9 * c) (h3 : j ≠ 46 + 9 * c) (h4 : j ≠ 47 + 9 * c) : fBring f c fl q j = f j := by
  unfold fBring
  rw [up_ne h3, up_ne h2]
  split
  · rfl
  · exact fVoid_at h1 h4
theorem bring_wn {f : Int → Int} {c fl q : Int} (hc : 0 ≤ c) (hf : 0 ≤ fl ∧ fl < 4) (hq : 0 ≤ q ∧ q < 4) : sWn (fBring f c fl q) c = sWob f c fl q := by
  have e1 : fBring f c fl q (45 + 9 * c) = fl := by unfold fBring; rw [up_ne (by omega), up_eq]
  have e2 : fBring f c fl q (46 + 9 * c) = q := by unfold fBring; rw [up_eq]
  have e : ∀ k : Int, 0 ≤ k ∧ k < 4 → sRe (fBring f c fl q) c k fl q = sRe f c k fl q := fun k hk => by
    unfold sRe
    rw [bring_at (by omega) (by omega) (by omega) (by omega), bring_at (by omega) (by omega) (by omega) (by omega)]
  unfold sWn sWob sTilt
  rw [e1, e2, e 0 (by decide), e 1 (by decide), e 2 (by decide), e 3 (by decide)]
theorem arrV_cg (cI : ClassId) (n : Nat) {f g : Nat → Value} (h : ∀ j : Nat, j < n → f j = g j) : arrV cI n f = arrV cI n g := by
  unfold arrV
  rw [show (fun j : Fin n => f j.val) = fun j : Fin n => g j.val from funext fun j => h j.val j.isLt]
theorem wr_in (M : MM) (a : Nat) (k v j : Int) : wr M a k v a j = if j = k then v else M a j := by rw [wr_at]; rfl
theorem wr_ii (M : MM) (a : Nat) {k j : Int} (v : Int) (h : j ≠ k) : wr M a k v a j = M a j := by rw [wr_in, if_neg h]
theorem wr_iv (M : MM) (a : Nat) (k v : Int) : wr M a k v a k = v := by rw [wr_in, if_pos rfl]
def sAbout (f : Int → Int) (w : Int) : Int := if w < 2 then f w else if w = 2 then sStamped f else f (w - 1)
def sChairOf (f : Int → Int) (c w : Int) : Int := if w = 3 then sLn f c else if w = 4 then sSeat f c else if w = 5 then sIdle f c else if w = 6 then f (47 + 9 * c) else if w = 7 then sWhy f c else if w = 8 then f (48 + 9 * c) else f (44 + 9 * c + w)
def sLegOf (f : Int → Int) (c k w : Int) : Int := if w = 0 then f (49 + 9 * c + k) else if w = 1 then sRn f c k else (k + f (46 + 9 * c)) % 4
theorem bndV {f : Int → Int} {gu : Int} (hI : Inv f) : ∀ n : Nat, (n : Int) ≤ f 0 → f 4 ≤ fBndN f gu n 4 ∧ fBndN f gu n 4 ≤ f 4 + n
  | 0, _ => ⟨Int.le_refl _, by show f 4 ≤ f 4 + ((0 : Nat) : Int); omega⟩
  | n + 1, h => by
    have ih := bndV (gu := gu) hI n (by omega)
    have h1 := (bndN (gu := gu) hI n).2 (47 + 9 * n) (by omega) (fun c h1 h2 => by omega)
    obtain ⟨-, -, -, h2, -⟩ := hI.2.2.2.2.2.2 n (by omega) (by omega)
    rw [fBndN]
    split
    · have e : fVoid (fBndN f gu n) n 4 = fBndN f gu n 4 + fBndN f gu n (47 + 9 * n) := by unfold fVoid; rw [up_ne (by omega), up_eq]
      rw [e]
      omega
    · omega
theorem bnd_v {f : Int → Int} (hI : Inv f) {gu k v : Int} (hg : 0 ≤ gu ∧ gu < 4) (hk : 0 ≤ k ∧ k < 4) (hv : (k < 2 → 100 ≤ v ∧ v ≤ 900) ∧ (k = 2 → 0 ≤ v ∧ v ≤ 100) ∧ (k = 3 → 0 ≤ v ∧ v ≤ 200)) : 0 ≤ fBound f gu k v 4 - f 4 ∧ fBound f gu k v 4 - f 4 ≤ 10 := by
  have hI1 := Inv_lim hI hg hk hv
  have h0 := hI.1
  have e0 : up f (28 + (4 * gu + k)) v 0 = f 0 := up_ne (by omega)
  have e4 : up f (28 + (4 * gu + k)) v 4 = f 4 := up_ne (by omega)
  have h := bndV (gu := gu) hI1 (f 0).toNat (by omega)
  unfold fBound
  omega
