theorem arrV_cg (cI : ClassId) (n : Nat) {f g : Nat → Value} (h : ∀ j : Nat, j < n → f j = g j) : arrV cI n f = arrV cI n g := by
  unfold arrV
  rw [show (fun j : Fin n => f j.val) = fun j : Fin n => g j.val from funext fun j => h j.val j.isLt]
theorem Hd.norm {D : DD} {Λ : LY} {M : MM} {H : Heap} {b n : Nat} {f : Int → Int} (h : Hd D Λ M H) (hb : Λ b = some (kI D n)) (hf : ∀ j : Int, 0 ≤ j → j < n → M b j = f j) : Hd D Λ (aset M b f) H := by
  intro a K ha
  by_cases e : a = b
  · subst e
    cases ha.symm.trans hb
    rw [aset_at]
    have h1 : H[a]? = some (vp_cell (D.2 0) (n, .inl (fun j => iI (M a j)))) := h a _ hb
    show H[a]? = some (vp_cell (D.2 0) (n, .inl (fun j => iI (f j))))
    rw [h1, vp_cell_i, vp_cell_i]
    congr 1
    exact arrV_cg _ _ fun j hj => by rw [hf j (by omega) (by omega)]
  · rw [aset_ne M f e]
    exact h a K ha
theorem V_norm {Γ : VG} {D : DD} {Λ : LY} {M : MM} {κ : Nat × Nat} {pc : Nat} {lv : List (Option Value)} {st : List Value} {b n : Nat} {f : Int → Int} (hb : Λ b = some (kI D n)) (hf : ∀ j : Int, 0 ≤ j → j < n → M b j = f j) (k : V Γ D Λ (aset M b f) κ pc lv st) : V Γ D Λ M κ pc lv st := fun H locs ls h1 h2 h3 => k H locs ls (h1.norm hb hf) h2 h3
section CM
variable {D : DD} {Λ : LY} {l : Launch} {M : MM} {y : MethodName} {cc : ByteArray} {nL : Nat} {ret : FieldType} {rm : Room} {As : List Value}
theorem CV.norm {Ψ Ψ' : MM → Prop} (h : CV l y cc nL rm As D Λ M Ψ) (hm : ∀ M1, Ψ M1 → ∃ (b n : Nat) (f : Int → Int), Λ b = some (kI D n) ∧ (∀ j : Int, 0 ≤ j → j < n → M1 b j = f j) ∧ Ψ' (aset M1 b f)) : CV l y cc nL rm As D Λ M Ψ' := fun sz =>
  MetFree.mono (h sz) (fun _ _ h => h) (fun _ _ _ _ _ h => h) (fun a s o t _ hq => by
    obtain ⟨⟨⟨u, e1, hz, hB⟩, hF⟩, hL⟩ := hq
    obtain ⟨b, n, f, q1, q2, q3⟩ := hm u hz
    exact ⟨⟨⟨aset u b f, e1, q3, hB.norm q1 q2⟩, hF⟩, hL⟩)
end CM
theorem fClr_eq (f : Int → Int) {j : Int} (h : 0 ≤ j) (h2 : j < 134) : fClr f j = fNew j := by unfold fClr; rw [if_pos ⟨h, h2⟩]
theorem b_clear (l : Launch) {D : DD} {Λ : LY} {M : MM} {b : Nat} (hA0 : Λ b = some (kI D 134)) : CV l yX5_clear cX5_clear 2 rm_X5_clear [.ref b] D Λ M (fun M1 => aset M b fNew = M1) := by
  refine (c_X5_clear l hA0 (f := M b) rfl).norm (fun M1 e => ⟨b, 134, fNew, hA0, fun j h1 h2 => ?_, ?_⟩)
  · rw [← e, aset_at]; exact fClr_eq _ h1 (by omega)
  · rw [← e, aset_aset]
/-- a row of another, from p on -/
def rowOf (h : Int → Int) (p : Int) : Int → Int := fun j => h (p + j)
theorem rowOf_0 (h : Int → Int) : rowOf h 0 = h := by funext j; unfold rowOf; rw [Int.zero_add]
theorem b_cpyR (l : Launch) {D : DD} {Λ : LY} {M : MM} {a b n1 : Nat} {p : Int} (hA0 : Λ a = some (kI D n1)) (hA2 : Λ b = some (kI D 134)) (hn1 : n1 < 2147483648) (hp : 0 ≤ p ∧ p + 134 ≤ n1) (hab : a ≠ b) : CV l yX5_copyState cX5_copyState 5 rm_X5_copyState [.ref a, vi p, .ref b, vi 0] D Λ M (fun M1 => aset M b (rowOf (M a) p) = M1) := by
  refine (c_X5_copyState l hA0 hA2 hn1 (by decide) hp (by decide) hab).norm (fun M1 e => ⟨b, 134, rowOf (M a) p, hA2, fun j h1 h2 => ?_, ?_⟩)
  · rw [← e, aset_at]
    unfold fCpy rowOf
    rw [if_pos (by omega), show j - 0 + p = p + j by omega]
  · rw [← e, aset_aset]
theorem b_cpy0 (l : Launch) {D : DD} {Λ : LY} {M : MM} {a b : Nat} {f : Int → Int} (hA0 : Λ a = some (kI D 134)) (hA2 : Λ b = some (kI D 134)) (hO : M a = f) (hab : a ≠ b) : CV l yX5_copyState cX5_copyState 5 rm_X5_copyState [.ref a, vi 0, .ref b, vi 0] D Λ M (fun M1 => aset M b f = M1) :=
  (b_cpyR l hA0 hA2 (by decide) (by decide) hab).mono (fun M1 e => by rw [← e, rowOf_0, hO])
/-! the reference's object at m, its rows behind it -/
def mFl (m : Nat) : List (Option Nat) := [none, some (m + 1), none, some (m + 2), some (m + 3), some (m + 4), none, some (m + 5), some (m + 6), none, none]
def MdL (D : DD) (Λ : LY) (m : Nat) : Prop := Λ m = some (kO 5 (mFl m)) ∧ Λ (m + 1) = some (kI D 120) ∧ Λ (m + 2) = some (kI D 134) ∧ Λ (m + 3) = some (kI D 134) ∧ Λ (m + 4) = some (kI D 1876) ∧ Λ (m + 5) = some (kI D 268) ∧ Λ (m + 6) = some (kZ D 2)
theorem wrO {M : MM} {a b : Nat} {k v : Int} {f : Int → Int} (h : M b = f) (hn : b ≠ a) : wr M a k v b = f := by rw [wr_ne M k v hn, h]
theorem wr_in (M : MM) (a : Nat) (k v j : Int) : wr M a k v a j = if j = k then v else M a j := by rw [wr_at]; rfl
theorem wr_ii (M : MM) (a : Nat) {k j : Int} (v : Int) (h : j ≠ k) : wr M a k v a j = M a j := by rw [wr_in, if_neg h]
theorem wr_iv (M : MM) (a : Nat) (k v : Int) : wr M a k v a k = v := by rw [wr_in, if_pos rfl]
/-- the state before is the newest of at most 14 that are remembered -/
def remA (a : Int) : Int := if a = 14 then 13 else a
def remD (d f : Int → Int) (a : Int) : Int → Int := fCpy f 0 (if a = 14 then fCpy d 134 d 0 1742 else d) (134 * remA a) 134
def remM (M : MM) (m : Nat) : MM := aset (aset M m (up (M m) 6 (remA (M m 6) + 1))) (m + 4) (remD (M (m + 4)) (M (m + 2)) (M m 6))
theorem remM_ne {M : MM} {m b : Nat} (h : b ≠ m) (h2 : b ≠ m + 4) : remM M m b = M b := by unfold remM; rw [aset_ne _ _ h2, aset_ne _ _ h]
theorem remO {M : MM} {m b : Nat} {f : Int → Int} (e : M b = f) (h : b ≠ m) (h2 : b ≠ m + 4) : remM M m b = f := by rw [remM_ne h h2, e]
theorem rem_1 {M : MM} {m : Nat} (h : M m 6 ≠ 14) : wr (aset M (m + 4) (fCpy (M (m + 2)) 0 (M (m + 4)) (134 * M m 6) 134)) m 6 (M m 6 + 1) = remM M m := by
  unfold remM remD remA
  rw [if_neg h, if_neg h, wr_self, aset_ne _ _ (by omega : m ≠ m + 4)]
  funext b
  by_cases h1 : b = m
  · subst h1; rw [aset_at, aset_ne _ _ (by omega), aset_at]
  · rw [aset_ne _ _ h1]
    by_cases h2 : b = m + 4
    · subst h2; rw [aset_at, aset_at]
    · rw [aset_ne _ _ h2, aset_ne _ _ h2, aset_ne _ _ h1]
theorem rem_2 {M : MM} {m : Nat} (h : M m 6 = 14) : wr (aset (wr (aset M (m + 4) (fCpy (M (m + 4)) 134 (M (m + 4)) 0 1742)) m 6 13) (m + 4) (fCpy (M (m + 2)) 0 (fCpy (M (m + 4)) 134 (M (m + 4)) 0 1742) 1742 134)) m 6 14 = remM M m := by
  unfold remM remD remA
  rw [h, if_pos rfl, if_pos rfl, wr_self, wr_self]
  simp only [aset_ne _ _ (show m ≠ m + 4 by omega), aset_at, up_up]
  funext b
  by_cases h1 : b = m
  · subst h1; rw [aset_at, aset_ne _ _ (by omega), aset_at]; rfl
  · rw [aset_ne _ _ h1]
    by_cases h2 : b = m + 4
    · subst h2; rw [aset_at, aset_at]; rfl
    · rw [aset_ne _ _ h2, aset_ne _ _ h2, aset_ne _ _ h1, aset_ne _ _ h2, aset_ne _ _ h1]
def sAbout (f : Int → Int) (w : Int) : Int := if w < 2 then f w else if w = 2 then sStamped f else f (w - 1)
def sChairOf (f : Int → Int) (c w : Int) : Int := if w = 3 then sLn f c else if w = 4 then sSeat f c else if w = 5 then sIdle f c else if w = 6 then f (47 + 9 * c) else if w = 7 then sWhy f c else if w = 8 then f (48 + 9 * c) else f (44 + 9 * c + w)
def sLegOf (f : Int → Int) (c k w : Int) : Int := if w = 0 then f (49 + 9 * c + k) else if w = 1 then sRn f c k else (k + f (46 + 9 * c)) % 4
abbrev rm_X5_refused : Room := { frames := 0, cells := 0, slots := 0, locals := 0 }
set_option maxHeartbeats 4000000 in
set_option maxRecDepth 100000 in
theorem c_X5_refused (l : Launch) {D : DD} {Λ : LY} {M : MM} {m : Nat} {w : Int} (hL : MdL D Λ m) (hw : 0 ≤ w ∧ w ≤ 3) : CI l yX5_refused cX5_refused 2 .boolean rm_X5_refused [.ref m, vi w] D Λ M (fun z M1 => (0 < w ∧ z = 1 ∨ ¬ 0 < w ∧ z = 0) ∧ wr M m 0 w = M1) := by
  refine CI_of rfl rfl (Nat.le_of_ble_eq_true rfl) (fun Γ g r => ?_)
  refine V_aload_n (q := 1) g dX5_refused_0 rfl rfl ?_
  refine V_iload_n (q := 2) g dX5_refused_1 rfl rfl ?_
  refine V_putI (q := 5) g dX5_refused_2 rfl f_X5_33 tyX5_ok nmX5 rfl hL.1 rfl rfl (ty := .int) rfl rfl rfl (j := 0) rfl ?_
  refine V_iload_n (q := 6) g dX5_refused_5 rfl rfl ?_
  refine V_if_le (q := 9) g dX5_refused_6 (tgt := 13) (by decide) rfl (by omega) (fun h6 => ?_) (fun h6 => ?_)
  · refine V_iconst (q := 14) g dX5_refused_13 rfl ?_
    exact V_ireturn g r dX5_refused_14 rfl ⟨by omega, rfl⟩
  · refine V_iconst (q := 10) g dX5_refused_9 rfl ?_
    refine V_goto g dX5_refused_10 (tgt := 14) (by decide) ?_
    exact V_ireturn g r dX5_refused_14 rfl ⟨by omega, rfl⟩
theorem b_ref0 (l : Launch) {D : DD} {Λ : LY} {M : MM} {m : Nat} (hL : MdL D Λ m) : CI l yX5_refused cX5_refused 2 .boolean rm_X5_refused [.ref m, vi 0] D Λ M (fun z M1 => 0 = z ∧ wr M m 0 0 = M1) := (c_X5_refused l hL (by decide)).mono (fun z M1 h => ⟨by omega, h.2⟩)
theorem b_refn (l : Launch) {D : DD} {Λ : LY} {M : MM} {m : Nat} {w : Int} (hL : MdL D Λ m) (hw : 0 < w ∧ w ≤ 3) : CI l yX5_refused cX5_refused 2 .boolean rm_X5_refused [.ref m, vi w] D Λ M (fun z M1 => 1 = z ∧ wr M m 0 w = M1) := (c_X5_refused l hL (by omega)).mono (fun z M1 h => ⟨by omega, h.2⟩)
abbrev rm_X5_thrown : Room := { frames := 0, cells := 0, slots := 0, locals := 0 }
set_option maxHeartbeats 4000000 in
set_option maxRecDepth 100000 in
theorem c_X5_thrown (l : Launch) {D : DD} {Λ : LY} {M : MM} {m : Nat} (hL : MdL D Λ m) : CI l yX5_thrown cX5_thrown 1 .int rm_X5_thrown [.ref m] D Λ M (fun z M1 => z = M m 0 ∧ M = M1) := by
  refine CI_of rfl rfl (Nat.le_of_ble_eq_true rfl) (fun Γ g r => ?_)
  refine V_aload_n (q := 1) g dX5_thrown_0 rfl rfl ?_
  refine V_getI (q := 4) g dX5_thrown_1 rfl f_X5_33 rfl hL.1 rfl (j := 0) rfl ?_
  exact V_ireturn g r dX5_thrown_4 rfl ⟨rfl, rfl⟩
abbrev rm_X5_clearText : Room := { frames := 0, cells := 0, slots := 0, locals := 0 }
set_option maxHeartbeats 4000000 in
set_option maxRecDepth 100000 in
theorem c_X5_clearText (l : Launch) {D : DD} {Λ : LY} {M : MM} {m : Nat} (hL : MdL D Λ m) : CI l yX5_clearText cX5_clearText 2 .int rm_X5_clearText [.ref m] D Λ M (fun z M1 => z = M m 2 ∧ wr (wr M m 0 0) m 2 0 = M1) := by
  refine CI_of rfl rfl (Nat.le_of_ble_eq_true rfl) (fun Γ g r => ?_)
  refine V_aload_n (q := 1) g dX5_clearText_0 rfl rfl ?_
  refine V_iconst (q := 2) g dX5_clearText_1 rfl ?_
  refine V_putI (q := 5) g dX5_clearText_2 rfl f_X5_33 tyX5_ok nmX5 rfl hL.1 rfl rfl (ty := .int) rfl rfl rfl (j := 0) rfl ?_
  refine V_aload_n (q := 6) g dX5_clearText_5 rfl rfl ?_
  refine V_getI (q := 9) g dX5_clearText_6 rfl f_X5_102 rfl hL.1 rfl (j := 2) rfl ?_
  rw [wr_ii M m 0 (by decide)]
  refine V_istore_n_1 (q := 10) g dX5_clearText_9 (by decide) rfl rfl ?_
  refine V_aload_n (q := 11) g dX5_clearText_10 rfl rfl ?_
  refine V_iconst (q := 12) g dX5_clearText_11 rfl ?_
  refine V_putI (q := 15) g dX5_clearText_12 rfl f_X5_102 tyX5_ok nmX5 rfl hL.1 rfl rfl (ty := .int) rfl rfl rfl (j := 2) rfl ?_
  refine V_iload_n (q := 16) g dX5_clearText_15 rfl rfl ?_
  exact V_ireturn g r dX5_clearText_16 rfl ⟨rfl, rfl⟩
abbrev rm_X5_about : Room := { frames := 2, cells := 0, slots := 0, locals := 44 }
set_option maxHeartbeats 4000000 in
set_option maxRecDepth 100000 in
theorem c_X5_about (l : Launch) {D : DD} {Λ : LY} {M : MM} {m : Nat} {f : Int → Int} {w : Int} (hL : MdL D Λ m) (hO : M (m + 2) = f) (hI : Inv f) (hr1 : inR w) : CI l yX5_about cX5_about 2 .int rm_X5_about [.ref m, vi w] D Λ M (fun z M1 => (¬ ((0 ≤ w ∧ w ≤ 10)) ∧ wr M m 0 1 = M1) ∨ ((0 ≤ w ∧ w ≤ 10) ∧ z = sAbout f w ∧ wr M m 0 0 = M1)) := by
  refine CI_of rfl rfl (Nat.le_of_ble_eq_true rfl) (fun Γ g r => ?_)
  have h0 := hI.1
  have h1 := hI.2.1
  refine V_aload_n (q := 1) g dX5_about_0 rfl rfl ?_
  refine V_iload_n (q := 2) g dX5_about_1 rfl rfl ?_
  refine V_i2l (q := 3) g dX5_about_2 (by omega) rfl ?_
  refine V_lconst (q := 4) g dX5_about_3 (z := 0) (by decide) rfl ?_
  refine V_ldc2 (q := 7) g dX5_about_4 (z := 10) q_X5_199 (by decide) rfl ?_
  refine V_callSI_3 (q := 10) g (c_X5_in l (by omega) (by omega) (by omega)) dX5_about_7 k_X5_37 rfl rfl ⟨rfl, rfl⟩ rfl (fun z1 M1 e1 => ?_)
  obtain ⟨e1, rfl⟩ := e1
  refine V_if_eq (q := 13) g dX5_about_10 (tgt := 17) (by decide) rfl (by omega) (fun h10 => ?_) (fun h10 => ?_)
  · refine V_iconst (q := 18) g dX5_about_17 rfl ?_
    refine V_callVI_1 (q := 21) g (b_refn l hL (by decide)) dX5_about_18 k_X5_105 hL.1 rfl rfl rfl rfl ⟨rfl, rfl⟩ rfl (fun z2 M2 e2 => ?_)
    obtain ⟨rfl, rfl⟩ := e2
    refine V_if_eq (q := 24) g dX5_about_21 (tgt := 26) (by decide) rfl (by omega) (fun h21 => absurd h21 (by omega)) (fun h21 => ?_)
    refine V_iconst (q := 25) g dX5_about_24 rfl ?_
    exact V_ireturn g r dX5_about_25 rfl (Or.inl ⟨by omega, rfl⟩)
  · refine V_iconst (q := 14) g dX5_about_13 rfl ?_
    refine V_goto g dX5_about_14 (tgt := 18) (by decide) ?_
    refine V_callVI_1 (q := 21) g (b_ref0 l hL) dX5_about_18 k_X5_105 hL.1 rfl rfl rfl rfl ⟨rfl, rfl⟩ rfl (fun z3 M3 e3 => ?_)
    obtain ⟨rfl, rfl⟩ := e3
    have hP : wr M m 0 0 (m + 2) = f := wrO hO (by omega)
    refine V_if_eq (q := 24) g dX5_about_21 (tgt := 26) (by decide) rfl (by omega) (fun h21 => ?_) (fun h21 => absurd h21 (by omega))
    refine V_iload_n (q := 27) g dX5_about_26 rfl rfl ?_
    refine V_iconst (q := 28) g dX5_about_27 rfl ?_
    refine V_icmp_ge (q := 31) g dX5_about_28 (tgt := 40) (by decide) rfl (by omega) (by omega) (fun h28 => ?_) (fun h28 => ?_)
    · refine V_iload_n (q := 41) g dX5_about_40 rfl rfl ?_
      refine V_iconst (q := 42) g dX5_about_41 rfl ?_
      refine V_icmp_ne (q := 45) g dX5_about_42 (tgt := 55) (by decide) rfl (by omega) (by omega) (fun h42 => ?_) (fun h42 => ?_)
      · refine V_aload_n (q := 56) g dX5_about_55 rfl rfl ?_
        refine V_getR (q := 59) g dX5_about_56 rfl f_X5_13 rfl hL.1 rfl ?_
        refine V_iload_n (q := 60) g dX5_about_59 rfl rfl ?_
        refine V_iconst (q := 61) g dX5_about_60 rfl ?_
        refine V_isub (q := 62) g dX5_about_61 rfl ?_
        refine V_iaload (q := 63) g dX5_about_62 rfl hL.2.2.1 (by omega) (by decide) ?_
        rw [hP]
        exact V_ireturn g r dX5_about_63 rfl (Or.inr ⟨by omega, (by unfold sAbout; repeat (first | rw [if_pos (by omega)] | rw [if_neg (by omega)]); try first | rfl | omega), rfl⟩)
      · refine V_aload_n (q := 46) g dX5_about_45 rfl rfl ?_
        refine V_getR (q := 49) g dX5_about_46 rfl f_X5_13 rfl hL.1 rfl ?_
        refine V_callSI_1 (q := 52) g (c_X5_stamped l hL.2.2.1 hP hI) dX5_about_49 k_X5_201 rfl rfl ⟨rfl, rfl⟩ rfl (fun z4 M4 e4 => ?_)
        obtain ⟨⟨e4, b4⟩, rfl⟩ := e4
        refine V_goto g dX5_about_52 (tgt := 63) (by decide) ?_
        exact V_ireturn g r dX5_about_63 rfl (Or.inr ⟨by omega, (by unfold sAbout; repeat (first | rw [if_pos (by omega)] | rw [if_neg (by omega)]); try first | rfl | omega), rfl⟩)
    · refine V_aload_n (q := 32) g dX5_about_31 rfl rfl ?_
      refine V_getR (q := 35) g dX5_about_32 rfl f_X5_13 rfl hL.1 rfl ?_
      refine V_iload_n (q := 36) g dX5_about_35 rfl rfl ?_
      refine V_iaload (q := 37) g dX5_about_36 rfl hL.2.2.1 (by omega) (by decide) ?_
      rw [hP]
      refine V_goto g dX5_about_37 (tgt := 63) (by decide) ?_
      exact V_ireturn g r dX5_about_63 rfl (Or.inr ⟨by omega, (by unfold sAbout; repeat (first | rw [if_pos (by omega)] | rw [if_neg (by omega)]); try first | rfl | omega), rfl⟩)
abbrev rm_X5_chairOf : Room := { frames := 6, cells := 0, slots := 0, locals := 130 }
set_option maxHeartbeats 4000000 in
set_option maxRecDepth 100000 in
theorem c_X5_chairOf (l : Launch) {D : DD} {Λ : LY} {M : MM} {m : Nat} {f : Int → Int} {c w : Int} (hL : MdL D Λ m) (hO : M (m + 2) = f) (hI : Inv f) (hr1 : inR c) (hr2 : inR w) : CI l yX5_chairOf cX5_chairOf 3 .int rm_X5_chairOf [.ref m, vi c, vi w] D Λ M (fun z M1 => (¬ ((0 ≤ c ∧ c < f 0)) ∧ wr M m 0 1 = M1) ∨ ((0 ≤ c ∧ c < f 0) ∧ ¬ ((0 ≤ w ∧ w ≤ 8)) ∧ wr M m 0 2 = M1) ∨ ((0 ≤ c ∧ c < f 0) ∧ (0 ≤ w ∧ w ≤ 8) ∧ z = sChairOf f c w ∧ wr M m 0 0 = M1)) := by
  refine CI_of rfl rfl (Nat.le_of_ble_eq_true rfl) (fun Γ g r => ?_)
  have h0 := hI.1
  have h1 := hI.2.1
  refine V_aload_n (q := 1) g dX5_chairOf_0 rfl rfl ?_
  refine V_aload_n (q := 2) g dX5_chairOf_1 rfl rfl ?_
  refine V_getR (q := 5) g dX5_chairOf_2 rfl f_X5_13 rfl hL.1 rfl ?_
  refine V_iload_n (q := 6) g dX5_chairOf_5 rfl rfl ?_
  refine V_callSI_2 (q := 9) g (c_X5_isChair l hL.2.2.1 hO hI (by omega)) dX5_chairOf_6 k_X5_96 rfl rfl ⟨rfl, rfl⟩ rfl (fun z1 M1 e1 => ?_)
  obtain ⟨e1, rfl⟩ := e1
  refine V_if_ne (q := 12) g dX5_chairOf_9 (tgt := 16) (by decide) rfl (by omega) (fun h9 => ?_) (fun h9 => ?_)
  · refine V_iload_n (q := 17) g dX5_chairOf_16 rfl rfl ?_
    refine V_i2l (q := 18) g dX5_chairOf_17 (by omega) rfl ?_
    refine V_lconst (q := 19) g dX5_chairOf_18 (z := 0) (by decide) rfl ?_
    refine V_ldc2 (q := 22) g dX5_chairOf_19 (z := 8) q_X5_204 (by decide) rfl ?_
    refine V_callSI_3 (q := 25) g (c_X5_in l (by omega) (by omega) (by omega)) dX5_chairOf_22 k_X5_37 rfl rfl ⟨rfl, rfl⟩ rfl (fun z2 M2 e2 => ?_)
    obtain ⟨e2, rfl⟩ := e2
    refine V_if_eq (q := 28) g dX5_chairOf_25 (tgt := 32) (by decide) rfl (by omega) (fun h25 => ?_) (fun h25 => ?_)
    · refine V_iconst (q := 33) g dX5_chairOf_32 rfl ?_
      refine V_callVI_1 (q := 36) g (b_refn l hL (by decide)) dX5_chairOf_33 k_X5_105 hL.1 rfl rfl rfl rfl ⟨rfl, rfl⟩ rfl (fun z3 M3 e3 => ?_)
      obtain ⟨rfl, rfl⟩ := e3
      refine V_if_eq (q := 39) g dX5_chairOf_36 (tgt := 41) (by decide) rfl (by omega) (fun h36 => absurd h36 (by omega)) (fun h36 => ?_)
      refine V_iconst (q := 40) g dX5_chairOf_39 rfl ?_
      exact V_ireturn g r dX5_chairOf_40 rfl (Or.inr (Or.inl ⟨by omega, by omega, rfl⟩))
    · refine V_iconst (q := 29) g dX5_chairOf_28 rfl ?_
      refine V_goto g dX5_chairOf_29 (tgt := 33) (by decide) ?_
      refine V_callVI_1 (q := 36) g (b_ref0 l hL) dX5_chairOf_33 k_X5_105 hL.1 rfl rfl rfl rfl ⟨rfl, rfl⟩ rfl (fun z4 M4 e4 => ?_)
      obtain ⟨rfl, rfl⟩ := e4
      have hP : wr M m 0 0 (m + 2) = f := wrO hO (by omega)
      refine V_if_eq (q := 39) g dX5_chairOf_36 (tgt := 41) (by decide) rfl (by omega) (fun h36 => ?_) (fun h36 => absurd h36 (by omega))
      refine V_iload_n (q := 42) g dX5_chairOf_41 rfl rfl ?_
      rcases (by omega : w = 3 ∨ w = 4 ∨ w = 5 ∨ w = 6 ∨ w = 7 ∨ w = 8 ∨ (w < 3 ∨ 8 < w)) with h42 | h42 | h42 | h42 | h42 | h42 | h42
      · refine V_tabAt g dX5_chairOf_42 (n := 3) h42 (by decide) (by decide) (by decide) (off := 38) rfl (tgt := 80) (by decide) ?_
        refine V_aload_n (q := 81) g dX5_chairOf_80 rfl rfl ?_
        refine V_getR (q := 84) g dX5_chairOf_81 rfl f_X5_13 rfl hL.1 rfl ?_
        refine V_iload_n (q := 85) g dX5_chairOf_84 rfl rfl ?_
        refine V_callSI_2 (q := 88) g (c_X5_leanOf l hL.2.2.1 hP hI (by omega)) dX5_chairOf_85 k_X5_72 rfl rfl ⟨rfl, rfl⟩ rfl (fun z5 M5 e5 => ?_)
        obtain ⟨⟨e5, b5⟩, rfl⟩ := e5
        exact V_ireturn g r dX5_chairOf_88 rfl (Or.inr (Or.inr ⟨by omega, by omega, (by unfold sChairOf; repeat (first | rw [if_pos (by omega)] | rw [if_neg (by omega)]); first | omega | exact e5), rfl⟩))
      · refine V_tabAt g dX5_chairOf_42 (n := 4) h42 (by decide) (by decide) (by decide) (off := 47) rfl (tgt := 89) (by decide) ?_
        refine V_aload_n (q := 90) g dX5_chairOf_89 rfl rfl ?_
        refine V_getR (q := 93) g dX5_chairOf_90 rfl f_X5_13 rfl hL.1 rfl ?_
        refine V_iload_n (q := 94) g dX5_chairOf_93 rfl rfl ?_
        refine V_callSI_2 (q := 97) g (c_X5_seatOf l hL.2.2.1 hP hI (by omega)) dX5_chairOf_94 k_X5_75 rfl rfl ⟨rfl, rfl⟩ rfl (fun z6 M6 e6 => ?_)
        obtain ⟨⟨e6, b6⟩, rfl⟩ := e6
        exact V_ireturn g r dX5_chairOf_97 rfl (Or.inr (Or.inr ⟨by omega, by omega, (by unfold sChairOf; repeat (first | rw [if_pos (by omega)] | rw [if_neg (by omega)]); first | omega | exact e6), rfl⟩))
      · refine V_tabAt g dX5_chairOf_42 (n := 5) h42 (by decide) (by decide) (by decide) (off := 56) rfl (tgt := 98) (by decide) ?_
        refine V_aload_n (q := 99) g dX5_chairOf_98 rfl rfl ?_
        refine V_getR (q := 102) g dX5_chairOf_99 rfl f_X5_13 rfl hL.1 rfl ?_
        refine V_iload_n (q := 103) g dX5_chairOf_102 rfl rfl ?_
        refine V_callSI_2 (q := 106) g (c_X5_idleOf l hL.2.2.1 hP hI (by omega)) dX5_chairOf_103 k_X5_93 rfl rfl ⟨rfl, rfl⟩ rfl (fun z7 M7 e7 => ?_)
        obtain ⟨⟨e7, b7⟩, rfl⟩ := e7
        exact V_ireturn g r dX5_chairOf_106 rfl (Or.inr (Or.inr ⟨by omega, by omega, (by unfold sChairOf; repeat (first | rw [if_pos (by omega)] | rw [if_neg (by omega)]); first | omega | exact e7), rfl⟩))
      · refine V_tabAt g dX5_chairOf_42 (n := 6) h42 (by decide) (by decide) (by decide) (off := 65) rfl (tgt := 107) (by decide) ?_
        refine V_aload_n (q := 108) g dX5_chairOf_107 rfl rfl ?_
        refine V_getR (q := 111) g dX5_chairOf_108 rfl f_X5_13 rfl hL.1 rfl ?_
        refine V_iload_n (q := 112) g dX5_chairOf_111 rfl rfl ?_
        refine V_iconst (q := 113) g dX5_chairOf_112 rfl ?_
        refine V_callSI_3 (q := 116) g (b_of3 l hL.2.2.1 hP hI (by omega)) dX5_chairOf_113 k_X5_51 rfl rfl ⟨rfl, rfl⟩ rfl (fun z8 M8 e8 => ?_)
        obtain ⟨⟨e8, b8⟩, rfl⟩ := e8
        exact V_ireturn g r dX5_chairOf_116 rfl (Or.inr (Or.inr ⟨by omega, by omega, (by unfold sChairOf; repeat (first | rw [if_pos (by omega)] | rw [if_neg (by omega)]); first | omega | exact e8), rfl⟩))
      · refine V_tabAt g dX5_chairOf_42 (n := 7) h42 (by decide) (by decide) (by decide) (off := 75) rfl (tgt := 117) (by decide) ?_
        refine V_aload_n (q := 118) g dX5_chairOf_117 rfl rfl ?_
        refine V_getR (q := 121) g dX5_chairOf_118 rfl f_X5_13 rfl hL.1 rfl ?_
        refine V_iload_n (q := 122) g dX5_chairOf_121 rfl rfl ?_
        refine V_callSI_2 (q := 125) g (c_X5_reason l hL.2.2.1 hP hI (by omega)) dX5_chairOf_122 k_X5_90 rfl rfl ⟨rfl, rfl⟩ rfl (fun z9 M9 e9 => ?_)
        obtain ⟨⟨e9, b9⟩, rfl⟩ := e9
        exact V_ireturn g r dX5_chairOf_125 rfl (Or.inr (Or.inr ⟨by omega, by omega, (by unfold sChairOf; repeat (first | rw [if_pos (by omega)] | rw [if_neg (by omega)]); first | omega | exact e9), rfl⟩))
      · refine V_tabAt g dX5_chairOf_42 (n := 8) h42 (by decide) (by decide) (by decide) (off := 84) rfl (tgt := 126) (by decide) ?_
        refine V_aload_n (q := 127) g dX5_chairOf_126 rfl rfl ?_
        refine V_getR (q := 130) g dX5_chairOf_127 rfl f_X5_13 rfl hL.1 rfl ?_
        refine V_iload_n (q := 131) g dX5_chairOf_130 rfl rfl ?_
        refine V_iconst (q := 132) g dX5_chairOf_131 rfl ?_
        refine V_callSI_3 (q := 135) g (b_of4 l hL.2.2.1 hP (by omega)) dX5_chairOf_132 k_X5_51 rfl rfl ⟨rfl, rfl⟩ rfl (fun z10 M10 e10 => ?_)
        obtain ⟨e10, rfl⟩ := e10
        exact V_ireturn g r dX5_chairOf_135 rfl (Or.inr (Or.inr ⟨by omega, by omega, (by unfold sChairOf; repeat (first | rw [if_pos (by omega)] | rw [if_neg (by omega)]); first | omega | exact e10), rfl⟩))
      · refine V_tabOut g dX5_chairOf_42 (by omega) h42 (tgt := 136) (by decide) ?_
        refine V_aload_n (q := 137) g dX5_chairOf_136 rfl rfl ?_
        refine V_getR (q := 140) g dX5_chairOf_137 rfl f_X5_13 rfl hL.1 rfl ?_
        refine V_iload_n (q := 141) g dX5_chairOf_140 rfl rfl ?_
        refine V_iload_n (q := 142) g dX5_chairOf_141 rfl rfl ?_
        refine V_callSI_3 (q := 145) g (c_X5_of l hL.2.2.1 hP (by omega) (by omega)) dX5_chairOf_142 k_X5_51 rfl rfl ⟨rfl, rfl⟩ rfl (fun z11 M11 e11 => ?_)
        obtain ⟨⟨e11, b11⟩, rfl⟩ := e11
        exact V_ireturn g r dX5_chairOf_145 rfl (Or.inr (Or.inr ⟨by omega, by omega, (by unfold sChairOf; repeat (first | rw [if_pos (by omega)] | rw [if_neg (by omega)]); first | omega | exact e11), rfl⟩))
  · refine V_iconst (q := 13) g dX5_chairOf_12 rfl ?_
    refine V_goto g dX5_chairOf_13 (tgt := 33) (by decide) ?_
    refine V_callVI_1 (q := 36) g (b_refn l hL (by decide)) dX5_chairOf_33 k_X5_105 hL.1 rfl rfl rfl rfl ⟨rfl, rfl⟩ rfl (fun z12 M12 e12 => ?_)
    obtain ⟨rfl, rfl⟩ := e12
    refine V_if_eq (q := 39) g dX5_chairOf_36 (tgt := 41) (by decide) rfl (by omega) (fun h36 => absurd h36 (by omega)) (fun h36 => ?_)
    refine V_iconst (q := 40) g dX5_chairOf_39 rfl ?_
    exact V_ireturn g r dX5_chairOf_40 rfl (Or.inl ⟨by omega, rfl⟩)
abbrev rm_X5_wobble : Room := { frames := 5, cells := 0, slots := 0, locals := 108 }
set_option maxHeartbeats 4000000 in
set_option maxRecDepth 100000 in
theorem c_X5_wobble (l : Launch) {D : DD} {Λ : LY} {M : MM} {m : Nat} {f : Int → Int} {c w : Int} (hL : MdL D Λ m) (hO : M (m + 2) = f) (hI : Inv f) (hr1 : inR c) (hr2 : inR w) : CI l yX5_wobble cX5_wobble 3 .int rm_X5_wobble [.ref m, vi c, vi w] D Λ M (fun z M1 => (¬ ((0 ≤ c ∧ c < f 0)) ∧ wr M m 0 1 = M1) ∨ ((0 ≤ c ∧ c < f 0) ∧ ¬ ((0 ≤ w ∧ w ≤ 1)) ∧ wr M m 0 2 = M1) ∨ ((0 ≤ c ∧ c < f 0) ∧ (0 ≤ w ∧ w ≤ 1) ∧ z = sWn f c ∧ wr M m 0 0 = M1)) := by
  refine CI_of rfl rfl (Nat.le_of_ble_eq_true rfl) (fun Γ g r => ?_)
  have h0 := hI.1
  have h1 := hI.2.1
  refine V_aload_n (q := 1) g dX5_wobble_0 rfl rfl ?_
  refine V_aload_n (q := 2) g dX5_wobble_1 rfl rfl ?_
  refine V_getR (q := 5) g dX5_wobble_2 rfl f_X5_13 rfl hL.1 rfl ?_
  refine V_iload_n (q := 6) g dX5_wobble_5 rfl rfl ?_
  refine V_callSI_2 (q := 9) g (c_X5_isChair l hL.2.2.1 hO hI (by omega)) dX5_wobble_6 k_X5_96 rfl rfl ⟨rfl, rfl⟩ rfl (fun z1 M1 e1 => ?_)
  obtain ⟨e1, rfl⟩ := e1
  refine V_if_ne (q := 12) g dX5_wobble_9 (tgt := 16) (by decide) rfl (by omega) (fun h9 => ?_) (fun h9 => ?_)
  · refine V_iload_n (q := 17) g dX5_wobble_16 rfl rfl ?_
    refine V_i2l (q := 18) g dX5_wobble_17 (by omega) rfl ?_
    refine V_lconst (q := 19) g dX5_wobble_18 (z := 0) (by decide) rfl ?_
    refine V_lconst (q := 20) g dX5_wobble_19 (z := 1) (by decide) rfl ?_
    refine V_callSI_3 (q := 23) g (c_X5_in l (by omega) (by omega) (by omega)) dX5_wobble_20 k_X5_37 rfl rfl ⟨rfl, rfl⟩ rfl (fun z2 M2 e2 => ?_)
    obtain ⟨e2, rfl⟩ := e2
    refine V_if_eq (q := 26) g dX5_wobble_23 (tgt := 30) (by decide) rfl (by omega) (fun h23 => ?_) (fun h23 => ?_)
    · refine V_iconst (q := 31) g dX5_wobble_30 rfl ?_
      refine V_callVI_1 (q := 34) g (b_refn l hL (by decide)) dX5_wobble_31 k_X5_105 hL.1 rfl rfl rfl rfl ⟨rfl, rfl⟩ rfl (fun z3 M3 e3 => ?_)
      obtain ⟨rfl, rfl⟩ := e3
      refine V_if_eq (q := 37) g dX5_wobble_34 (tgt := 39) (by decide) rfl (by omega) (fun h34 => absurd h34 (by omega)) (fun h34 => ?_)
      refine V_iconst (q := 38) g dX5_wobble_37 rfl ?_
      exact V_ireturn g r dX5_wobble_38 rfl (Or.inr (Or.inl ⟨by omega, by omega, rfl⟩))
    · refine V_iconst (q := 27) g dX5_wobble_26 rfl ?_
      refine V_goto g dX5_wobble_27 (tgt := 31) (by decide) ?_
      refine V_callVI_1 (q := 34) g (b_ref0 l hL) dX5_wobble_31 k_X5_105 hL.1 rfl rfl rfl rfl ⟨rfl, rfl⟩ rfl (fun z4 M4 e4 => ?_)
      obtain ⟨rfl, rfl⟩ := e4
      have hP : wr M m 0 0 (m + 2) = f := wrO hO (by omega)
      refine V_if_eq (q := 37) g dX5_wobble_34 (tgt := 39) (by decide) rfl (by omega) (fun h34 => ?_) (fun h34 => absurd h34 (by omega))
      refine V_aload_n (q := 40) g dX5_wobble_39 rfl rfl ?_
      refine V_getR (q := 43) g dX5_wobble_40 rfl f_X5_13 rfl hL.1 rfl ?_
      refine V_iload_n (q := 44) g dX5_wobble_43 rfl rfl ?_
      refine V_callSI_2 (q := 47) g (c_X5_wobbleOf l hL.2.2.1 hP hI (by omega)) dX5_wobble_44 k_X5_69 rfl rfl ⟨rfl, rfl⟩ rfl (fun z5 M5 e5 => ?_)
      obtain ⟨⟨e5, b5⟩, rfl⟩ := e5
      exact V_ireturn g r dX5_wobble_47 rfl (Or.inr (Or.inr ⟨by omega, by omega, by omega, rfl⟩))
  · refine V_iconst (q := 13) g dX5_wobble_12 rfl ?_
    refine V_goto g dX5_wobble_13 (tgt := 31) (by decide) ?_
    refine V_callVI_1 (q := 34) g (b_refn l hL (by decide)) dX5_wobble_31 k_X5_105 hL.1 rfl rfl rfl rfl ⟨rfl, rfl⟩ rfl (fun z6 M6 e6 => ?_)
    obtain ⟨rfl, rfl⟩ := e6
    refine V_if_eq (q := 37) g dX5_wobble_34 (tgt := 39) (by decide) rfl (by omega) (fun h34 => absurd h34 (by omega)) (fun h34 => ?_)
    refine V_iconst (q := 38) g dX5_wobble_37 rfl ?_
    exact V_ireturn g r dX5_wobble_38 rfl (Or.inl ⟨by omega, rfl⟩)
abbrev rm_X5_legOf : Room := { frames := 3, cells := 0, slots := 0, locals := 66 }
set_option maxHeartbeats 4000000 in
set_option maxRecDepth 100000 in
theorem c_X5_legOf (l : Launch) {D : DD} {Λ : LY} {M : MM} {m : Nat} {f : Int → Int} {c k w : Int} (hL : MdL D Λ m) (hO : M (m + 2) = f) (hI : Inv f) (hr1 : inR c) (hr2 : inR k) (hr3 : inR w) : CI l yX5_legOf cX5_legOf 4 .int rm_X5_legOf [.ref m, vi c, vi k, vi w] D Λ M (fun z M1 => (¬ (((0 ≤ c ∧ c < f 0) ∧ 0 ≤ k ∧ k < 4)) ∧ wr M m 0 1 = M1) ∨ (((0 ≤ c ∧ c < f 0) ∧ 0 ≤ k ∧ k < 4) ∧ ¬ ((0 ≤ w ∧ w ≤ 2)) ∧ wr M m 0 2 = M1) ∨ (((0 ≤ c ∧ c < f 0) ∧ 0 ≤ k ∧ k < 4) ∧ (0 ≤ w ∧ w ≤ 2) ∧ z = sLegOf f c k w ∧ wr M m 0 0 = M1)) := by
  refine CI_of rfl rfl (Nat.le_of_ble_eq_true rfl) (fun Γ g r => ?_)
  have h0 := hI.1
  have h1 := hI.2.1
  refine V_aload_n (q := 1) g dX5_legOf_0 rfl rfl ?_
  refine V_aload_n (q := 2) g dX5_legOf_1 rfl rfl ?_
  refine V_getR (q := 5) g dX5_legOf_2 rfl f_X5_13 rfl hL.1 rfl ?_
  refine V_iload_n (q := 6) g dX5_legOf_5 rfl rfl ?_
  refine V_callSI_2 (q := 9) g (c_X5_isChair l hL.2.2.1 hO hI (by omega)) dX5_legOf_6 k_X5_96 rfl rfl ⟨rfl, rfl⟩ rfl (fun z1 M1 e1 => ?_)
  obtain ⟨e1, rfl⟩ := e1
  refine V_if_eq (q := 12) g dX5_legOf_9 (tgt := 19) (by decide) rfl (by omega) (fun h9 => ?_) (fun h9 => ?_)
  · refine V_iconst (q := 20) g dX5_legOf_19 rfl ?_
    refine V_goto g dX5_legOf_20 (tgt := 40) (by decide) ?_
    refine V_callVI_1 (q := 43) g (b_refn l hL (by decide)) dX5_legOf_40 k_X5_105 hL.1 rfl rfl rfl rfl ⟨rfl, rfl⟩ rfl (fun z2 M2 e2 => ?_)
    obtain ⟨rfl, rfl⟩ := e2
    refine V_if_eq (q := 46) g dX5_legOf_43 (tgt := 48) (by decide) rfl (by omega) (fun h43 => absurd h43 (by omega)) (fun h43 => ?_)
    refine V_iconst (q := 47) g dX5_legOf_46 rfl ?_
    exact V_ireturn g r dX5_legOf_47 rfl (Or.inl ⟨by omega, rfl⟩)
  · refine V_iload_n (q := 13) g dX5_legOf_12 rfl rfl ?_
    refine V_callSI_1 (q := 16) g (c_X5_isFour l (by omega)) dX5_legOf_13 k_X5_206 rfl rfl ⟨rfl, rfl⟩ rfl (fun z3 M3 e3 => ?_)
    obtain ⟨e3, rfl⟩ := e3
    refine V_if_ne (q := 19) g dX5_legOf_16 (tgt := 23) (by decide) rfl (by omega) (fun h16 => ?_) (fun h16 => ?_)
    · refine V_iload_n (q := 24) g dX5_legOf_23 rfl rfl ?_
      refine V_i2l (q := 25) g dX5_legOf_24 (by omega) rfl ?_
      refine V_lconst (q := 26) g dX5_legOf_25 (z := 0) (by decide) rfl ?_
      refine V_ldc2 (q := 29) g dX5_legOf_26 (z := 2) q_X5_209 (by decide) rfl ?_
      refine V_callSI_3 (q := 32) g (c_X5_in l (by omega) (by omega) (by omega)) dX5_legOf_29 k_X5_37 rfl rfl ⟨rfl, rfl⟩ rfl (fun z4 M4 e4 => ?_)
      obtain ⟨e4, rfl⟩ := e4
      refine V_if_eq (q := 35) g dX5_legOf_32 (tgt := 39) (by decide) rfl (by omega) (fun h32 => ?_) (fun h32 => ?_)
      · refine V_iconst (q := 40) g dX5_legOf_39 rfl ?_
        refine V_callVI_1 (q := 43) g (b_refn l hL (by decide)) dX5_legOf_40 k_X5_105 hL.1 rfl rfl rfl rfl ⟨rfl, rfl⟩ rfl (fun z5 M5 e5 => ?_)
        obtain ⟨rfl, rfl⟩ := e5
        refine V_if_eq (q := 46) g dX5_legOf_43 (tgt := 48) (by decide) rfl (by omega) (fun h43 => absurd h43 (by omega)) (fun h43 => ?_)
        refine V_iconst (q := 47) g dX5_legOf_46 rfl ?_
        exact V_ireturn g r dX5_legOf_47 rfl (Or.inr (Or.inl ⟨by omega, by omega, rfl⟩))
      · refine V_iconst (q := 36) g dX5_legOf_35 rfl ?_
        refine V_goto g dX5_legOf_36 (tgt := 40) (by decide) ?_
        refine V_callVI_1 (q := 43) g (b_ref0 l hL) dX5_legOf_40 k_X5_105 hL.1 rfl rfl rfl rfl ⟨rfl, rfl⟩ rfl (fun z6 M6 e6 => ?_)
        obtain ⟨rfl, rfl⟩ := e6
        have hP : wr M m 0 0 (m + 2) = f := wrO hO (by omega)
        refine V_if_eq (q := 46) g dX5_legOf_43 (tgt := 48) (by decide) rfl (by omega) (fun h43 => ?_) (fun h43 => absurd h43 (by omega))
        refine V_iload_n (q := 49) g dX5_legOf_48 rfl rfl ?_
        refine V_if_ne (q := 52) g dX5_legOf_49 (tgt := 66) (by decide) rfl (by omega) (fun h49 => ?_) (fun h49 => ?_)
        · refine V_iload_n (q := 67) g dX5_legOf_66 rfl rfl ?_
          refine V_iconst (q := 68) g dX5_legOf_67 rfl ?_
          refine V_icmp_ne (q := 71) g dX5_legOf_68 (tgt := 83) (by decide) rfl (by omega) (by omega) (fun h68 => ?_) (fun h68 => ?_)
          · refine V_aload_n (q := 84) g dX5_legOf_83 rfl rfl ?_
            refine V_getR (q := 87) g dX5_legOf_84 rfl f_X5_13 rfl hL.1 rfl ?_
            refine V_iload_n (q := 88) g dX5_legOf_87 rfl rfl ?_
            refine V_iload_n (q := 89) g dX5_legOf_88 rfl rfl ?_
            refine V_callSI_3 (q := 92) g (c_X5_spotOf l hL.2.2.1 hP hI (by omega) (by omega)) dX5_legOf_89 k_X5_55 rfl rfl ⟨rfl, rfl⟩ rfl (fun z7 M7 e7 => ?_)
            obtain ⟨⟨e7, b7⟩, rfl⟩ := e7
            exact V_ireturn g r dX5_legOf_92 rfl (Or.inr (Or.inr ⟨by omega, by omega, (by unfold sLegOf; repeat (first | rw [if_pos (by omega)] | rw [if_neg (by omega)]); first | omega | exact e7.1 | exact e7), rfl⟩))
          · refine V_aload_n (q := 72) g dX5_legOf_71 rfl rfl ?_
            refine V_getR (q := 75) g dX5_legOf_72 rfl f_X5_13 rfl hL.1 rfl ?_
            refine V_iload_n (q := 76) g dX5_legOf_75 rfl rfl ?_
            refine V_iload_n (q := 77) g dX5_legOf_76 rfl rfl ?_
            refine V_callSI_3 (q := 80) g (c_X5_reach l hL.2.2.1 hP hI (by omega) (by omega)) dX5_legOf_77 k_X5_58 rfl rfl ⟨rfl, rfl⟩ rfl (fun z8 M8 e8 => ?_)
            obtain ⟨⟨e8, b8⟩, rfl⟩ := e8
            refine V_goto g dX5_legOf_80 (tgt := 92) (by decide) ?_
            exact V_ireturn g r dX5_legOf_92 rfl (Or.inr (Or.inr ⟨by omega, by omega, (by unfold sLegOf; repeat (first | rw [if_pos (by omega)] | rw [if_neg (by omega)]); first | omega | exact e8.1 | exact e8), rfl⟩))
        · refine V_aload_n (q := 53) g dX5_legOf_52 rfl rfl ?_
          refine V_getR (q := 56) g dX5_legOf_53 rfl f_X5_13 rfl hL.1 rfl ?_
          refine V_iload_n (q := 57) g dX5_legOf_56 rfl rfl ?_
          refine V_iconst (q := 58) g dX5_legOf_57 rfl ?_
          refine V_iload_n (q := 59) g dX5_legOf_58 rfl rfl ?_
          refine V_iadd (q := 60) g dX5_legOf_59 rfl ?_
          refine V_callSI_3 (q := 63) g (b_leg l hL.2.2.1 hP hI (by omega) (by omega)) dX5_legOf_60 k_X5_51 rfl rfl ⟨rfl, rfl⟩ rfl (fun z9 M9 e9 => ?_)
          obtain ⟨⟨e9, b9⟩, rfl⟩ := e9
          refine V_goto g dX5_legOf_63 (tgt := 92) (by decide) ?_
          exact V_ireturn g r dX5_legOf_92 rfl (Or.inr (Or.inr ⟨by omega, by omega, (by unfold sLegOf; repeat (first | rw [if_pos (by omega)] | rw [if_neg (by omega)]); first | omega | exact e9.1 | exact e9), rfl⟩))
    · refine V_iconst (q := 20) g dX5_legOf_19 rfl ?_
      refine V_goto g dX5_legOf_20 (tgt := 40) (by decide) ?_
      refine V_callVI_1 (q := 43) g (b_refn l hL (by decide)) dX5_legOf_40 k_X5_105 hL.1 rfl rfl rfl rfl ⟨rfl, rfl⟩ rfl (fun z10 M10 e10 => ?_)
      obtain ⟨rfl, rfl⟩ := e10
      refine V_if_eq (q := 46) g dX5_legOf_43 (tgt := 48) (by decide) rfl (by omega) (fun h43 => absurd h43 (by omega)) (fun h43 => ?_)
      refine V_iconst (q := 47) g dX5_legOf_46 rfl ?_
      exact V_ireturn g r dX5_legOf_47 rfl (Or.inl ⟨by omega, rfl⟩)
abbrev rm_X5_spot : Room := { frames := 2, cells := 0, slots := 0, locals := 46 }
set_option maxHeartbeats 4000000 in
set_option maxRecDepth 100000 in
theorem c_X5_spot (l : Launch) {D : DD} {Λ : LY} {M : MM} {m : Nat} {f : Int → Int} {fl k : Int} (hL : MdL D Λ m) (hO : M (m + 2) = f) (hI : Inv f) (hr1 : inR fl) (hr2 : inR k) : CI l yX5_spot cX5_spot 3 .int rm_X5_spot [.ref m, vi fl, vi k] D Λ M (fun z M1 => (¬ (((0 ≤ fl ∧ fl < f 1) ∧ 0 ≤ k ∧ k < 4)) ∧ wr M m 0 1 = M1) ∨ (((0 ≤ fl ∧ fl < f 1) ∧ 0 ≤ k ∧ k < 4) ∧ z = f (12 + (4 * fl + k)) ∧ wr M m 0 0 = M1)) := by
  refine CI_of rfl rfl (Nat.le_of_ble_eq_true rfl) (fun Γ g r => ?_)
  have h0 := hI.1
  have h1 := hI.2.1
  refine V_aload_n (q := 1) g dX5_spot_0 rfl rfl ?_
  refine V_aload_n (q := 2) g dX5_spot_1 rfl rfl ?_
  refine V_getR (q := 5) g dX5_spot_2 rfl f_X5_13 rfl hL.1 rfl ?_
  refine V_iload_n (q := 6) g dX5_spot_5 rfl rfl ?_
  refine V_callSI_2 (q := 9) g (c_X5_isFloor l hL.2.2.1 hO hI (by omega)) dX5_spot_6 k_X5_149 rfl rfl ⟨rfl, rfl⟩ rfl (fun z1 M1 e1 => ?_)
  obtain ⟨e1, rfl⟩ := e1
  refine V_if_eq (q := 12) g dX5_spot_9 (tgt := 23) (by decide) rfl (by omega) (fun h9 => ?_) (fun h9 => ?_)
  · refine V_iconst (q := 24) g dX5_spot_23 rfl ?_
    refine V_callVI_1 (q := 27) g (b_refn l hL (by decide)) dX5_spot_24 k_X5_105 hL.1 rfl rfl rfl rfl ⟨rfl, rfl⟩ rfl (fun z2 M2 e2 => ?_)
    obtain ⟨rfl, rfl⟩ := e2
    refine V_if_eq (q := 30) g dX5_spot_27 (tgt := 32) (by decide) rfl (by omega) (fun h27 => absurd h27 (by omega)) (fun h27 => ?_)
    refine V_iconst (q := 31) g dX5_spot_30 rfl ?_
    exact V_ireturn g r dX5_spot_31 rfl (Or.inl ⟨by omega, rfl⟩)
  · refine V_iload_n (q := 13) g dX5_spot_12 rfl rfl ?_
    refine V_callSI_1 (q := 16) g (c_X5_isFour l (by omega)) dX5_spot_13 k_X5_206 rfl rfl ⟨rfl, rfl⟩ rfl (fun z3 M3 e3 => ?_)
    obtain ⟨e3, rfl⟩ := e3
    refine V_if_eq (q := 19) g dX5_spot_16 (tgt := 23) (by decide) rfl (by omega) (fun h16 => ?_) (fun h16 => ?_)
    · refine V_iconst (q := 24) g dX5_spot_23 rfl ?_
      refine V_callVI_1 (q := 27) g (b_refn l hL (by decide)) dX5_spot_24 k_X5_105 hL.1 rfl rfl rfl rfl ⟨rfl, rfl⟩ rfl (fun z4 M4 e4 => ?_)
      obtain ⟨rfl, rfl⟩ := e4
      refine V_if_eq (q := 30) g dX5_spot_27 (tgt := 32) (by decide) rfl (by omega) (fun h27 => absurd h27 (by omega)) (fun h27 => ?_)
      refine V_iconst (q := 31) g dX5_spot_30 rfl ?_
      exact V_ireturn g r dX5_spot_31 rfl (Or.inl ⟨by omega, rfl⟩)
    · refine V_iconst (q := 20) g dX5_spot_19 rfl ?_
      refine V_goto g dX5_spot_20 (tgt := 24) (by decide) ?_
      refine V_callVI_1 (q := 27) g (b_ref0 l hL) dX5_spot_24 k_X5_105 hL.1 rfl rfl rfl rfl ⟨rfl, rfl⟩ rfl (fun z5 M5 e5 => ?_)
      obtain ⟨rfl, rfl⟩ := e5
      have hP : wr M m 0 0 (m + 2) = f := wrO hO (by omega)
      refine V_if_eq (q := 30) g dX5_spot_27 (tgt := 32) (by decide) rfl (by omega) (fun h27 => ?_) (fun h27 => absurd h27 (by omega))
      refine V_aload_n (q := 33) g dX5_spot_32 rfl rfl ?_
      refine V_getR (q := 36) g dX5_spot_33 rfl f_X5_13 rfl hL.1 rfl ?_
      refine V_bipush (q := 38) g dX5_spot_36 (by decide) rfl ?_
      refine V_iconst (q := 39) g dX5_spot_38 rfl ?_
      refine V_iload_n (q := 40) g dX5_spot_39 rfl rfl ?_
      refine V_imul (q := 41) g dX5_spot_40 rfl ?_
      refine V_iadd (q := 42) g dX5_spot_41 rfl ?_
      refine V_iload_n (q := 43) g dX5_spot_42 rfl rfl ?_
      refine V_iadd (q := 44) g dX5_spot_43 rfl ?_
      refine V_iaload (q := 45) g dX5_spot_44 rfl hL.2.2.1 (by omega) (by decide) ?_
      rw [hP]
      rw [show (12 + 4 * fl + k : Int) = 12 + (4 * fl + k) by omega]
      exact V_ireturn g r dX5_spot_45 rfl (Or.inr ⟨by omega, by omega, rfl⟩)
abbrev rm_X5_boundOf : Room := { frames := 2, cells := 0, slots := 0, locals := 45 }
set_option maxHeartbeats 4000000 in
set_option maxRecDepth 100000 in
theorem c_X5_boundOf (l : Launch) {D : DD} {Λ : LY} {M : MM} {m : Nat} {f : Int → Int} {gu k : Int} (hL : MdL D Λ m) (hO : M (m + 2) = f) (hI : Inv f) (hr1 : inR gu) (hr2 : inR k) : CI l yX5_boundOf cX5_boundOf 3 .int rm_X5_boundOf [.ref m, vi gu, vi k] D Λ M (fun z M1 => (¬ (((0 ≤ gu ∧ gu < 4) ∧ 0 ≤ k ∧ k < 4)) ∧ wr M m 0 1 = M1) ∨ (((0 ≤ gu ∧ gu < 4) ∧ 0 ≤ k ∧ k < 4) ∧ z = f (28 + (4 * gu + k)) ∧ wr M m 0 0 = M1)) := by
  refine CI_of rfl rfl (Nat.le_of_ble_eq_true rfl) (fun Γ g r => ?_)
  have h0 := hI.1
  have h1 := hI.2.1
  refine V_aload_n (q := 1) g dX5_boundOf_0 rfl rfl ?_
  refine V_iload_n (q := 2) g dX5_boundOf_1 rfl rfl ?_
  refine V_callSI_1 (q := 5) g (c_X5_isFour l (by omega)) dX5_boundOf_2 k_X5_206 rfl rfl ⟨rfl, rfl⟩ rfl (fun z1 M1 e1 => ?_)
  obtain ⟨e1, rfl⟩ := e1
  refine V_if_eq (q := 8) g dX5_boundOf_5 (tgt := 19) (by decide) rfl (by omega) (fun h5 => ?_) (fun h5 => ?_)
  · refine V_iconst (q := 20) g dX5_boundOf_19 rfl ?_
    refine V_callVI_1 (q := 23) g (b_refn l hL (by decide)) dX5_boundOf_20 k_X5_105 hL.1 rfl rfl rfl rfl ⟨rfl, rfl⟩ rfl (fun z2 M2 e2 => ?_)
    obtain ⟨rfl, rfl⟩ := e2
    refine V_if_eq (q := 26) g dX5_boundOf_23 (tgt := 28) (by decide) rfl (by omega) (fun h23 => absurd h23 (by omega)) (fun h23 => ?_)
    refine V_iconst (q := 27) g dX5_boundOf_26 rfl ?_
    exact V_ireturn g r dX5_boundOf_27 rfl (Or.inl ⟨by omega, rfl⟩)
  · refine V_iload_n (q := 9) g dX5_boundOf_8 rfl rfl ?_
    refine V_callSI_1 (q := 12) g (c_X5_isFour l (by omega)) dX5_boundOf_9 k_X5_206 rfl rfl ⟨rfl, rfl⟩ rfl (fun z3 M3 e3 => ?_)
    obtain ⟨e3, rfl⟩ := e3
    refine V_if_eq (q := 15) g dX5_boundOf_12 (tgt := 19) (by decide) rfl (by omega) (fun h12 => ?_) (fun h12 => ?_)
    · refine V_iconst (q := 20) g dX5_boundOf_19 rfl ?_
      refine V_callVI_1 (q := 23) g (b_refn l hL (by decide)) dX5_boundOf_20 k_X5_105 hL.1 rfl rfl rfl rfl ⟨rfl, rfl⟩ rfl (fun z4 M4 e4 => ?_)
      obtain ⟨rfl, rfl⟩ := e4
      refine V_if_eq (q := 26) g dX5_boundOf_23 (tgt := 28) (by decide) rfl (by omega) (fun h23 => absurd h23 (by omega)) (fun h23 => ?_)
      refine V_iconst (q := 27) g dX5_boundOf_26 rfl ?_
      exact V_ireturn g r dX5_boundOf_27 rfl (Or.inl ⟨by omega, rfl⟩)
    · refine V_iconst (q := 16) g dX5_boundOf_15 rfl ?_
      refine V_goto g dX5_boundOf_16 (tgt := 20) (by decide) ?_
      refine V_callVI_1 (q := 23) g (b_ref0 l hL) dX5_boundOf_20 k_X5_105 hL.1 rfl rfl rfl rfl ⟨rfl, rfl⟩ rfl (fun z5 M5 e5 => ?_)
      obtain ⟨rfl, rfl⟩ := e5
      have hP : wr M m 0 0 (m + 2) = f := wrO hO (by omega)
      refine V_if_eq (q := 26) g dX5_boundOf_23 (tgt := 28) (by decide) rfl (by omega) (fun h23 => ?_) (fun h23 => absurd h23 (by omega))
      refine V_aload_n (q := 29) g dX5_boundOf_28 rfl rfl ?_
      refine V_getR (q := 32) g dX5_boundOf_29 rfl f_X5_13 rfl hL.1 rfl ?_
      refine V_bipush (q := 34) g dX5_boundOf_32 (by decide) rfl ?_
      refine V_iconst (q := 35) g dX5_boundOf_34 rfl ?_
      refine V_iload_n (q := 36) g dX5_boundOf_35 rfl rfl ?_
      refine V_imul (q := 37) g dX5_boundOf_36 rfl ?_
      refine V_iadd (q := 38) g dX5_boundOf_37 rfl ?_
      refine V_iload_n (q := 39) g dX5_boundOf_38 rfl rfl ?_
      refine V_iadd (q := 40) g dX5_boundOf_39 rfl ?_
      refine V_iaload (q := 41) g dX5_boundOf_40 rfl hL.2.2.1 (by omega) (by decide) ?_
      rw [hP]
      rw [show (28 + 4 * gu + k : Int) = 28 + (4 * gu + k) by omega]
      exact V_ireturn g r dX5_boundOf_41 rfl (Or.inr ⟨by omega, by omega, rfl⟩)
abbrev rm_X5_setting : Room := { frames := 1, cells := 0, slots := 0, locals := 25 }
set_option maxHeartbeats 4000000 in
set_option maxRecDepth 100000 in
theorem c_X5_setting (l : Launch) {D : DD} {Λ : LY} {M : MM} {m : Nat} {f : Int → Int} {w : Int} (hL : MdL D Λ m) (hO : M (m + 2) = f) (hI : Inv f) (hr1 : inR w) : CI l yX5_setting cX5_setting 2 .int rm_X5_setting [.ref m, vi w] D Λ M (fun z M1 => (¬ ((0 ≤ w ∧ w ≤ 1)) ∧ wr M m 0 1 = M1) ∨ ((0 ≤ w ∧ w ≤ 1) ∧ z = f (10 + w) ∧ wr M m 0 0 = M1)) := by
  refine CI_of rfl rfl (Nat.le_of_ble_eq_true rfl) (fun Γ g r => ?_)
  have h0 := hI.1
  have h1 := hI.2.1
  refine V_aload_n (q := 1) g dX5_setting_0 rfl rfl ?_
  refine V_iload_n (q := 2) g dX5_setting_1 rfl rfl ?_
  refine V_i2l (q := 3) g dX5_setting_2 (by omega) rfl ?_
  refine V_lconst (q := 4) g dX5_setting_3 (z := 0) (by decide) rfl ?_
  refine V_lconst (q := 5) g dX5_setting_4 (z := 1) (by decide) rfl ?_
  refine V_callSI_3 (q := 8) g (c_X5_in l (by omega) (by omega) (by omega)) dX5_setting_5 k_X5_37 rfl rfl ⟨rfl, rfl⟩ rfl (fun z1 M1 e1 => ?_)
  obtain ⟨e1, rfl⟩ := e1
  refine V_if_eq (q := 11) g dX5_setting_8 (tgt := 15) (by decide) rfl (by omega) (fun h8 => ?_) (fun h8 => ?_)
  · refine V_iconst (q := 16) g dX5_setting_15 rfl ?_
    refine V_callVI_1 (q := 19) g (b_refn l hL (by decide)) dX5_setting_16 k_X5_105 hL.1 rfl rfl rfl rfl ⟨rfl, rfl⟩ rfl (fun z2 M2 e2 => ?_)
    obtain ⟨rfl, rfl⟩ := e2
    refine V_if_eq (q := 22) g dX5_setting_19 (tgt := 24) (by decide) rfl (by omega) (fun h19 => absurd h19 (by omega)) (fun h19 => ?_)
    refine V_iconst (q := 23) g dX5_setting_22 rfl ?_
    exact V_ireturn g r dX5_setting_23 rfl (Or.inl ⟨by omega, rfl⟩)
  · refine V_iconst (q := 12) g dX5_setting_11 rfl ?_
    refine V_goto g dX5_setting_12 (tgt := 16) (by decide) ?_
    refine V_callVI_1 (q := 19) g (b_ref0 l hL) dX5_setting_16 k_X5_105 hL.1 rfl rfl rfl rfl ⟨rfl, rfl⟩ rfl (fun z3 M3 e3 => ?_)
    obtain ⟨rfl, rfl⟩ := e3
    have hP : wr M m 0 0 (m + 2) = f := wrO hO (by omega)
    refine V_if_eq (q := 22) g dX5_setting_19 (tgt := 24) (by decide) rfl (by omega) (fun h19 => ?_) (fun h19 => absurd h19 (by omega))
    refine V_aload_n (q := 25) g dX5_setting_24 rfl rfl ?_
    refine V_getR (q := 28) g dX5_setting_25 rfl f_X5_13 rfl hL.1 rfl ?_
    refine V_bipush (q := 30) g dX5_setting_28 (by decide) rfl ?_
    refine V_iload_n (q := 31) g dX5_setting_30 rfl rfl ?_
    refine V_iadd (q := 32) g dX5_setting_31 rfl ?_
    refine V_iaload (q := 33) g dX5_setting_32 rfl hL.2.2.1 (by omega) (by decide) ?_
    rw [hP]
    exact V_ireturn g r dX5_setting_33 rfl (Or.inr ⟨by omega, by omega, rfl⟩)
