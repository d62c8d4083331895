theorem i2c_x {c : Int} (h : 0 ≤ c ∧ c ≤ 255) : ((iI c).toUInt32 % 65536).toInt32 = iI c := by
  have q : ∀ n : Fin 256, ((iI ((n.val : Nat) : Int)).toUInt32 % 65536).toInt32 = iI ((n.val : Nat) : Int) := by decide +kernel
  have e := q ⟨c.toNat, by omega⟩
  rw [show ((c.toNat : Nat) : Int) = c by omega] at e
  exact e
theorem fD_all : ∀ r : Fin 8, ∀ i : Fin 4, (formsL.getD (12 * r.val + 3 * i.val) 0 = ((fD r.val i.val : Nat) : Int)) ∧ fD r.val i.val ≤ 3 ∧ (0 ≤ fLo r.val i.val ∧ fLo r.val i.val ≤ fHi r.val i.val ∧ fHi r.val i.val ≤ 900) ∧ (fD r.val i.val = 0 → fLo r.val i.val = 0 ∧ fHi r.val i.val = 0) := by decide +kernel
theorem fD_at {r i : Nat} (hr : r ≤ 7) (hi : i < 4) : (formsL.getD (12 * r + 3 * i) 0 = ((fD r i : Nat) : Int)) ∧ fD r i ≤ 3 ∧ (0 ≤ fLo r i ∧ fLo r i ≤ fHi r i ∧ fHi r i ≤ 900) ∧ (fD r i = 0 → fLo r i = 0 ∧ fHi r i = 0) := fD_all ⟨r, by omega⟩ ⟨i, hi⟩
theorem sFig_p {t : Int → Int} {sz ah lo hi p : Int} {k : Nat} (hlo : 0 ≤ lo) (h0 : k = 0 → lo = 0 ∧ hi = 0) : ((sFig t sz ah k p lo hi).1 = -1 ∨ (lo ≤ (sFig t sz ah k p lo hi).1 ∧ (sFig t sz ah k p lo hi).1 ≤ hi)) ∧ p ≤ (sFig t sz ah k p lo hi).2 ∧ (p ≤ sz → (sFig t sz ah k p lo hi).2 ≤ sz) := by
  unfold sFig
  by_cases h : ah = -1
  · rw [if_pos h]; exact ⟨Or.inl rfl, Int.le_refl _, fun h => h⟩
  · rw [if_neg h]
    exact sNum_r (t := t) (sz := sz) (hi := hi) hlo k p 0 (by decide) (fun e => by have := h0 e; omega)
theorem sXs_p {t : Int → Int} {sz p : Int} {r : Nat} (hr : r ≤ 7) : ∀ i : Nat, i < 4 → ((sXs t sz r p i).1 = -1 ∨ (fLo r i ≤ (sXs t sz r p i).1 ∧ (sXs t sz r p i).1 ≤ fHi r i)) ∧ p ≤ (sXs t sz r p i).2 ∧ (p ≤ sz → (sXs t sz r p i).2 ≤ sz)
  | 0, h => by
    have q := fD_at hr (i := 0) h
    exact sFig_p q.2.2.1.1 q.2.2.2
  | i + 1, h => by
    have q := fD_at hr (i := i + 1) h
    have ih := sXs_p (t := t) (sz := sz) (p := p) hr i (by omega)
    have g := sFig_p (t := t) (sz := sz) (ah := (sXs t sz r p i).1) (p := (sXs t sz r p i).2) q.2.2.1.1 q.2.2.2
    rw [sXs]
    exact ⟨g.1, by omega, fun h => g.2.2 (ih.2.2 h)⟩
theorem sXs_fail {t : Int → Int} {sz p : Int} {r i : Nat} (h : (sXs t sz r p i).1 = -1) : (sXs t sz r p (i + 1)).1 = -1 ∧ (sXs t sz r p (i + 1)).2 = (sXs t sz r p i).2 := by
  rw [sXs]
  unfold sFig
  rw [if_pos h]
  exact ⟨rfl, rfl⟩
theorem sXs_go {t : Int → Int} {sz p : Int} {r i : Nat} (h : (sXs t sz r p i).1 ≠ -1) : sXs t sz r p (i + 1) = sNum t sz (fD r (i + 1)) (sXs t sz r p i).2 0 (fLo r (i + 1)) (fHi r (i + 1)) := by
  rw [sXs]
  unfold sFig
  rw [if_neg h]
theorem sXs_go0 {t : Int → Int} {sz p : Int} {r : Nat} : sXs t sz r p 0 = sNum t sz (fD r 0) p 0 (fLo r 0) (fHi r 0) := by
  rw [sXs]
  unfold sFig
  rw [if_neg (by decide)]
theorem sRow_le {c : Int} {r : Nat} (h : sRow c = some r) : r ≤ 7 := by
  unfold sRow at h
  repeat (split at h; · cases h; decide)
  cases h
/-- the program's text while it reads: place, letter -/
def Cx (M0 M : MM) (x : Nat) (p c : Int) : Prop := M x 2 = p ∧ M x 3 = c ∧ (∀ j : Int, j ≠ 2 → j ≠ 3 → M x j = M0 x j) ∧ ∀ b : Nat, b ≠ x → b ≠ x + 2 → M b = M0 b
theorem Cx.new {M : MM} {x : Nat} {p c : Int} (h : M x 2 = p) : Cx M (wr M x 3 c) x p c := ⟨by rw [wr_ii _ _ _ (by decide)]; exact h, wr_iv _ _ _ _, fun j h1 h2 => wr_ii _ _ _ h2, fun b h1 h2 => wr_ne _ _ _ h1⟩
theorem Cx.pos {M0 M : MM} {x : Nat} {p c v : Int} (h : Cx M0 M x p c) : Cx M0 (wr M x 2 v) x v c := ⟨wr_iv _ _ _ _, by rw [wr_ii _ _ _ (by decide)]; exact h.2.1, fun j h1 h2 => by rw [wr_ii _ _ _ h1]; exact h.2.2.1 j h1 h2, fun b h1 h2 => by rw [wr_ne _ _ _ h1]; exact h.2.2.2 b h1 h2⟩
theorem Cx.num {M0 M : MM} {x : Nat} {p c i v : Int} (h : Cx M0 M x p c) : Cx M0 (wr M (x + 2) i v) x p c := ⟨by rw [wr_ne _ _ _ (by omega)]; exact h.1, by rw [wr_ne _ _ _ (by omega)]; exact h.2.1, fun j h1 h2 => by rw [wr_ne _ _ _ (by omega)]; exact h.2.2.1 j h1 h2, fun b h1 h2 => by rw [wr_ne _ _ _ h2]; exact h.2.2.2 b h1 h2⟩
theorem Cx.to {M0 M : MM} {x : Nat} {p q c : Int} (h : Cx M0 M x p c) (e : q = p) : Cx M0 M x q c := by rw [e]; exact h
theorem Cx.sz {M0 M : MM} {x : Nat} {p c : Int} (h : Cx M0 M x p c) : M x 1 = M0 x 1 := h.2.2.1 1 (by decide) (by decide)
theorem Cx.tx {M0 M : MM} {x : Nat} {p c : Int} (h : Cx M0 M x p c) : M (x + 1) = M0 (x + 1) := h.2.2.2 (x + 1) (by omega) (by omega)
theorem Cx.tr {M0 M M1 : MM} {x : Nat} {p c p2 c2 : Int} (h : Cx M0 M x p c) (h2 : Cx M M1 x p2 c2) : Cx M0 M1 x p2 c2 := ⟨h2.1, h2.2.1, fun j a b => (h2.2.2.1 j a b).trans (h.2.2.1 j a b), fun b u w => (h2.2.2.2 b u w).trans (h.2.2.2 b u w)⟩
def rcPost (M : MM) (x : Nat) (t : Int → Int) (sz p z : Int) (M1 : MM) : Prop :=
  ((¬ p < sz ∨ sRow (t p) = none) ∧ z = 0 ∧ Cx M M1 x p (sCd t sz p)) ∨
  ∃ r, p < sz ∧ sRow (t p) = some r ∧ r ≤ 7 ∧ (((sXs t sz r (p + 1) 3).1 = -1 ∧ z = 0 ∧ Cx M M1 x (sXs t sz r (p + 1) 3).2 (t p)) ∨
    ((sXs t sz r (p + 1) 3).1 ≠ -1 ∧ z = 1 ∧ Cx M M1 x (sXs t sz r (p + 1) 3).2 (t p) ∧ M1 (x + 2) 0 = (sXs t sz r (p + 1) 0).1 ∧ M1 (x + 2) 1 = (sXs t sz r (p + 1) 1).1 ∧ M1 (x + 2) 2 = (sXs t sz r (p + 1) 2).1 ∧ M1 (x + 2) 3 = (sXs t sz r (p + 1) 3).1))
abbrev rm_X2_readCommand : Room := { frames := 4, cells := 0, slots := 0, locals := 91 }
set_option maxHeartbeats 4000000 in
set_option maxRecDepth 100000 in
theorem c_X2_readCommand (l : Launch) {D : DD} {Λ : LY} {M : MM} {x : Nat} {t : Int → Int} {sz : Int} {p : Int} (hL : TxL D Λ x) (hz : M x 1 = sz) (ht : M (x + 1) = t) (hC : Txt t sz) (hp2 : M x 2 = p) (hp : 0 ≤ p ∧ p ≤ sz) : CI l yX2_readCommand cX2_readCommand 5 .boolean rm_X2_readCommand [.ref x] D Λ M (fun z M1 => rcPost M x t sz p z M1) := by
  refine CI_of rfl rfl (Nat.le_of_ble_eq_true rfl) (fun Γ g r => ?_)
  have hC1 := hC.1
  have hcd := sCd_r hC hp.1
  obtain ⟨-, -, -, -, -, ⟨t9, hZ9, hT9⟩, ⟨a9, v9, hR9, hS9⟩, hCS⟩ := g.hst
  refine V_aload_n (q := 1) g dX2_readCommand_0 rfl rfl ?_
  refine V_aload_n (q := 2) g dX2_readCommand_1 rfl rfl ?_
  refine V_aload_n (q := 3) g dX2_readCommand_2 rfl rfl ?_
  refine V_getI (q := 6) g dX2_readCommand_3 rfl f_X2_19 rfl hL.1 rfl (j := 2) rfl ?_
  rw [hp2]
  refine V_callVI_1 (q := 9) g (c_X2_codeAt l hL (by omega) (by omega) hC (by omega)) dX2_readCommand_6 k_X2_32 hL.1 rfl rfl rfl rfl ⟨rfl, rfl⟩ rfl (fun z1 M1 e1 => ?_)
  obtain ⟨rfl, rfl⟩ := e1
  refine V_putI (q := 12) g dX2_readCommand_9 rfl f_X2_22 tyX2_ok nmX2 rfl hL.1 rfl rfl (ty := .int) rfl rfl rfl (j := 3) rfl ?_
  have hX := Cx.new (x := x) (c := sCd t sz p) hp2
  refine V_aload_n (q := 13) g dX2_readCommand_12 rfl rfl ?_
  refine V_getI (q := 16) g dX2_readCommand_13 rfl f_X2_22 rfl hL.1 rfl (j := 3) rfl ?_
  rw [wr_iv]
  refine V_iconst (q := 17) g dX2_readCommand_16 rfl ?_
  refine V_icmp_ne (q := 20) g dX2_readCommand_17 (tgt := 24) (by decide) rfl (by omega) (by omega) (fun h17 => ?_) (fun h17 => ?_)
  · have hps : p < sz := by
      have e8 := h17
      unfold sCd at e8
      split at e8
      · assumption
      · exact absurd rfl e8
    have hcx : sCd t sz p = t p := by unfold sCd; rw [if_pos hps]
    have hch := hC.2 p hp.1 hps
    refine V_ldcS g dX2_readCommand_24 hR9 rfl ?_
    refine V_aload_n (q := 27) g dX2_readCommand_26 rfl rfl ?_
    refine V_getI (q := 30) g dX2_readCommand_27 rfl f_X2_22 rfl hL.1 rfl (j := 3) rfl ?_
    rw [wr_iv]
    rw [hcx]
    refine V_i2c0 g dX2_readCommand_30 rfl ?_
    rw [i2c_x hch]
    refine V_callVIE_1 (q := 34) g (Es_ok a9 v9) ⟨hS9, hCS⟩ (c_J0_indexOf_0f7a4 l hch) dX2_readCommand_31 k_X2_49 (Es_recv ⟨hS9, hCS⟩) rfl rfl ⟨rfl, rfl⟩ rfl (fun z9 M9 e9 => ?_)
    obtain ⟨e9, rfl⟩ := e9
    have hsr : (sRow (t p) = none ∧ z9 = -1) ∨ ∃ r9, sRow (t p) = some r9 ∧ z9 = (r9 : Int) := by
      rw [e9]
      unfold sIx
      cases hr9 : sRow (t p) with
      | none => exact Or.inl ⟨rfl, rfl⟩
      | some r => exact Or.inr ⟨r, rfl, rfl⟩
    refine V_istore_n_1 (q := 35) g dX2_readCommand_34 (by decide) rfl rfl ?_
    refine V_iload_n (q := 36) g dX2_readCommand_35 rfl rfl ?_
    refine V_iconst (q := 37) g dX2_readCommand_36 rfl ?_
    have hrz : inR z9 := by
      rcases hsr with ⟨_, q⟩ | ⟨r9, q1, q2⟩
      · omega
      · have := sRow_le q1
        omega
    refine V_icmp_ne (q := 40) g dX2_readCommand_37 (tgt := 42) (by decide) rfl hrz (by omega) (fun h37 => ?_) (fun h37 => ?_)
    · obtain ⟨r9, hsr1, hz9⟩ := hsr.resolve_left (fun q => h37 q.2)
      have hr7 := sRow_le hsr1
      rw [hz9]
      rw [hcx] at hX
      have hX0 := hX.pos (v := p + 1)
      refine V_aload_n (q := 43) g dX2_readCommand_42 rfl rfl ?_
      refine V_dup (q := 44) g dX2_readCommand_43 rfl rfl ?_
      refine V_getI (q := 47) g dX2_readCommand_44 rfl f_X2_19 rfl hL.1 rfl (j := 2) rfl ?_
      rw [hX.1]
      refine V_iconst (q := 48) g dX2_readCommand_47 rfl ?_
      refine V_iadd (q := 49) g dX2_readCommand_48 rfl ?_
      refine V_putI (q := 52) g dX2_readCommand_49 rfl f_X2_19 tyX2_ok nmX2 rfl hL.1 rfl rfl (ty := .int) rfl rfl rfl (j := 2) rfl ?_
      refine V_iconst (q := 53) g dX2_readCommand_52 rfl ?_
      refine V_istore_n_2 (q := 54) g dX2_readCommand_53 (by decide) rfl rfl ?_
      refine V_iload_n (q := 55) g dX2_readCommand_54 rfl rfl ?_
      refine V_iconst (q := 56) g dX2_readCommand_55 rfl ?_
      refine V_icmp_ge (q := 59) g dX2_readCommand_56 (tgt := 122) (by decide) rfl (by omega) (by omega) (fun h56 => absurd h56 (by omega)) (fun h56 => ?_)
      refine V_iload_n (q := 60) g dX2_readCommand_59 rfl rfl ?_
      refine V_iconst (q := 61) g dX2_readCommand_60 rfl ?_
      refine V_imul (q := 62) g dX2_readCommand_61 rfl ?_
      refine V_iload_n (q := 63) g dX2_readCommand_62 rfl rfl ?_
      refine V_iadd (q := 64) g dX2_readCommand_63 rfl ?_
      refine V_iconst (q := 65) g dX2_readCommand_64 rfl ?_
      refine V_imul (q := 66) g dX2_readCommand_65 rfl ?_
      refine V_istore_n_3 (q := 67) g dX2_readCommand_66 (by decide) rfl rfl ?_
      refine V_aload_n (q := 68) g dX2_readCommand_67 rfl rfl ?_
      refine V_gets (v := .ref t9) g dX2_readCommand_68 hZ9 j_forms (fun x h => h) rfl ?_
      refine V_iload_n (q := 72) g dX2_readCommand_71 rfl rfl ?_
      refine V_callNIE_2 (q := 75) g (Ef_ok t9) hT9 (ct_at l (x := ((fD r9 0 : Nat) : Int)) (by omega) (by have q := fD_at hr7 (i := 0) (by decide); rw [← q.1]; congr 1; omega)) dX2_readCommand_72 k_X2_43 rfl rfl ⟨rfl, rfl⟩ rfl (fun z9 M9 e9 => ?_)
      obtain ⟨rfl, rfl⟩ := e9
      refine V_gets (v := .ref t9) g dX2_readCommand_75 hZ9 j_forms (fun x h => h) rfl ?_
      refine V_iload_n (q := 79) g dX2_readCommand_78 rfl rfl ?_
      refine V_iconst (q := 80) g dX2_readCommand_79 rfl ?_
      refine V_iadd (q := 81) g dX2_readCommand_80 rfl ?_
      refine V_callNIE_2 (q := 84) g (Ef_ok t9) hT9 (ct_at l (x := fLo r9 0) (by omega) (by unfold fLo; congr 1; omega)) dX2_readCommand_81 k_X2_43 rfl rfl ⟨rfl, rfl⟩ rfl (fun z9 M9 e9 => ?_)
      obtain ⟨rfl, rfl⟩ := e9
      refine V_gets (v := .ref t9) g dX2_readCommand_84 hZ9 j_forms (fun x h => h) rfl ?_
      refine V_iload_n (q := 88) g dX2_readCommand_87 rfl rfl ?_
      refine V_iconst (q := 89) g dX2_readCommand_88 rfl ?_
      refine V_iadd (q := 90) g dX2_readCommand_89 rfl ?_
      refine V_callNIE_2 (q := 93) g (Ef_ok t9) hT9 (ct_at l (x := fHi r9 0) (by omega) (by unfold fHi; congr 1; omega)) dX2_readCommand_90 k_X2_43 rfl rfl ⟨rfl, rfl⟩ rfl (fun z9 M9 e9 => ?_)
      obtain ⟨rfl, rfl⟩ := e9
      refine V_callVI_3 (q := 96) g (c_X2_readNumber l hL (hX0.sz.trans hz) (hX0.tx.trans ht) hC hX0.1 (by omega) (fD_at hr7 (i := 0) (by decide)).2.1 (fD_at hr7 (i := 0) (by decide)).2.2.1) dX2_readCommand_93 k_X2_57 hL.1 rfl rfl rfl rfl ⟨rfl, rfl⟩ rfl (fun z2 M2 e2 => ?_)
      obtain ⟨e2, rfl⟩ := e2
      rw [← (show sXs t sz r9 (p + 1) 0 = _ from sXs_go0)] at e2
      rw [← (show sXs t sz r9 (p + 1) 0 = _ from sXs_go0)]
      have hY0 := hX0.pos (v := (sXs t sz r9 (p + 1) 0).2)
      have sp0 := sXs_p (t := t) (sz := sz) (p := p + 1) hr7 0 (by decide)
      have sq0 := (fD_at hr7 (i := 0) (by decide)).2.2.1
      refine V_istore_4 (q := 98) g dX2_readCommand_96 (by decide) rfl rfl ?_
      refine V_iload (q := 100) g dX2_readCommand_98 rfl rfl ?_
      refine V_iconst (q := 101) g dX2_readCommand_100 rfl ?_
      refine V_icmp_ne (q := 104) g dX2_readCommand_101 (tgt := 106) (by decide) rfl (by omega) (by omega) (fun h101 => ?_) (fun h101 => ?_)
      · have hk0 : (sXs t sz r9 (p + 1) 0).1 ≠ -1 := fun q => h101 (e2.trans q)
        refine V_aload_n (q := 107) g dX2_readCommand_106 rfl rfl ?_
        refine V_getR (q := 110) g dX2_readCommand_107 rfl f_X2_25 rfl hL.1 rfl ?_
        refine V_iload_n (q := 111) g dX2_readCommand_110 rfl rfl ?_
        refine V_iload (q := 113) g dX2_readCommand_111 rfl rfl ?_
        refine V_callNV_3 (q := 116) g (c_X4_put l hL.2.2 (by decide) (by decide)) dX2_readCommand_113 k_X2_28 rfl rfl ⟨rfl, rfl⟩ rfl (fun M3 e3 => ?_)
        obtain rfl := e3
        have hX1 := hY0.num (i := 0) (v := z2)
        refine V_iinc_2 (q := 119) g dX2_readCommand_116 (by decide) rfl rfl ?_
        simp only [Int.reduceAdd]
        refine V_goto g dX2_readCommand_119 (tgt := 54) (by decide) ?_
        refine V_iload_n (q := 55) g dX2_readCommand_54 rfl rfl ?_
        refine V_iconst (q := 56) g dX2_readCommand_55 rfl ?_
        refine V_icmp_ge (q := 59) g dX2_readCommand_56 (tgt := 122) (by decide) rfl (by omega) (by omega) (fun h56 => absurd h56 (by omega)) (fun h56 => ?_)
        refine V_iload_n (q := 60) g dX2_readCommand_59 rfl rfl ?_
        refine V_iconst (q := 61) g dX2_readCommand_60 rfl ?_
        refine V_imul (q := 62) g dX2_readCommand_61 rfl ?_
        refine V_iload_n (q := 63) g dX2_readCommand_62 rfl rfl ?_
        refine V_iadd (q := 64) g dX2_readCommand_63 rfl ?_
        refine V_iconst (q := 65) g dX2_readCommand_64 rfl ?_
        refine V_imul (q := 66) g dX2_readCommand_65 rfl ?_
        refine V_istore_n_3 (q := 67) g dX2_readCommand_66 (by decide) rfl rfl ?_
        refine V_aload_n (q := 68) g dX2_readCommand_67 rfl rfl ?_
        refine V_gets (v := .ref t9) g dX2_readCommand_68 hZ9 j_forms (fun x h => h) rfl ?_
        refine V_iload_n (q := 72) g dX2_readCommand_71 rfl rfl ?_
        refine V_callNIE_2 (q := 75) g (Ef_ok t9) hT9 (ct_at l (x := ((fD r9 1 : Nat) : Int)) (by omega) (by have q := fD_at hr7 (i := 1) (by decide); rw [← q.1]; congr 1; omega)) dX2_readCommand_72 k_X2_43 rfl rfl ⟨rfl, rfl⟩ rfl (fun z9 M9 e9 => ?_)
        obtain ⟨rfl, rfl⟩ := e9
        refine V_gets (v := .ref t9) g dX2_readCommand_75 hZ9 j_forms (fun x h => h) rfl ?_
        refine V_iload_n (q := 79) g dX2_readCommand_78 rfl rfl ?_
        refine V_iconst (q := 80) g dX2_readCommand_79 rfl ?_
        refine V_iadd (q := 81) g dX2_readCommand_80 rfl ?_
        refine V_callNIE_2 (q := 84) g (Ef_ok t9) hT9 (ct_at l (x := fLo r9 1) (by omega) (by unfold fLo; congr 1; omega)) dX2_readCommand_81 k_X2_43 rfl rfl ⟨rfl, rfl⟩ rfl (fun z9 M9 e9 => ?_)
        obtain ⟨rfl, rfl⟩ := e9
        refine V_gets (v := .ref t9) g dX2_readCommand_84 hZ9 j_forms (fun x h => h) rfl ?_
        refine V_iload_n (q := 88) g dX2_readCommand_87 rfl rfl ?_
        refine V_iconst (q := 89) g dX2_readCommand_88 rfl ?_
        refine V_iadd (q := 90) g dX2_readCommand_89 rfl ?_
        refine V_callNIE_2 (q := 93) g (Ef_ok t9) hT9 (ct_at l (x := fHi r9 1) (by omega) (by unfold fHi; congr 1; omega)) dX2_readCommand_90 k_X2_43 rfl rfl ⟨rfl, rfl⟩ rfl (fun z9 M9 e9 => ?_)
        obtain ⟨rfl, rfl⟩ := e9
        refine V_callVI_3 (q := 96) g (c_X2_readNumber l hL (hX1.sz.trans hz) (hX1.tx.trans ht) hC hX1.1 (by omega) (fD_at hr7 (i := 1) (by decide)).2.1 (fD_at hr7 (i := 1) (by decide)).2.2.1) dX2_readCommand_93 k_X2_57 hL.1 rfl rfl rfl rfl ⟨rfl, rfl⟩ rfl (fun z4 M4 e4 => ?_)
        obtain ⟨e4, rfl⟩ := e4
        rw [← (show sXs t sz r9 (p + 1) 1 = _ from sXs_go hk0)] at e4
        rw [← (show sXs t sz r9 (p + 1) 1 = _ from sXs_go hk0)]
        have hY1 := hX1.pos (v := (sXs t sz r9 (p + 1) 1).2)
        have sp1 := sXs_p (t := t) (sz := sz) (p := p + 1) hr7 1 (by decide)
        have sq1 := (fD_at hr7 (i := 1) (by decide)).2.2.1
        refine V_istore_4 (q := 98) g dX2_readCommand_96 (by decide) rfl rfl ?_
        refine V_iload (q := 100) g dX2_readCommand_98 rfl rfl ?_
        refine V_iconst (q := 101) g dX2_readCommand_100 rfl ?_
        refine V_icmp_ne (q := 104) g dX2_readCommand_101 (tgt := 106) (by decide) rfl (by omega) (by omega) (fun h101 => ?_) (fun h101 => ?_)
        · have hk1 : (sXs t sz r9 (p + 1) 1).1 ≠ -1 := fun q => h101 (e4.trans q)
          refine V_aload_n (q := 107) g dX2_readCommand_106 rfl rfl ?_
          refine V_getR (q := 110) g dX2_readCommand_107 rfl f_X2_25 rfl hL.1 rfl ?_
          refine V_iload_n (q := 111) g dX2_readCommand_110 rfl rfl ?_
          refine V_iload (q := 113) g dX2_readCommand_111 rfl rfl ?_
          refine V_callNV_3 (q := 116) g (c_X4_put l hL.2.2 (by decide) (by decide)) dX2_readCommand_113 k_X2_28 rfl rfl ⟨rfl, rfl⟩ rfl (fun M5 e5 => ?_)
          obtain rfl := e5
          have hX2 := hY1.num (i := 1) (v := z4)
          refine V_iinc_2 (q := 119) g dX2_readCommand_116 (by decide) rfl rfl ?_
          simp only [Int.reduceAdd]
          refine V_goto g dX2_readCommand_119 (tgt := 54) (by decide) ?_
          refine V_iload_n (q := 55) g dX2_readCommand_54 rfl rfl ?_
          refine V_iconst (q := 56) g dX2_readCommand_55 rfl ?_
          refine V_icmp_ge (q := 59) g dX2_readCommand_56 (tgt := 122) (by decide) rfl (by omega) (by omega) (fun h56 => absurd h56 (by omega)) (fun h56 => ?_)
          refine V_iload_n (q := 60) g dX2_readCommand_59 rfl rfl ?_
          refine V_iconst (q := 61) g dX2_readCommand_60 rfl ?_
          refine V_imul (q := 62) g dX2_readCommand_61 rfl ?_
          refine V_iload_n (q := 63) g dX2_readCommand_62 rfl rfl ?_
          refine V_iadd (q := 64) g dX2_readCommand_63 rfl ?_
          refine V_iconst (q := 65) g dX2_readCommand_64 rfl ?_
          refine V_imul (q := 66) g dX2_readCommand_65 rfl ?_
          refine V_istore_n_3 (q := 67) g dX2_readCommand_66 (by decide) rfl rfl ?_
          refine V_aload_n (q := 68) g dX2_readCommand_67 rfl rfl ?_
          refine V_gets (v := .ref t9) g dX2_readCommand_68 hZ9 j_forms (fun x h => h) rfl ?_
          refine V_iload_n (q := 72) g dX2_readCommand_71 rfl rfl ?_
          refine V_callNIE_2 (q := 75) g (Ef_ok t9) hT9 (ct_at l (x := ((fD r9 2 : Nat) : Int)) (by omega) (by have q := fD_at hr7 (i := 2) (by decide); rw [← q.1]; congr 1; omega)) dX2_readCommand_72 k_X2_43 rfl rfl ⟨rfl, rfl⟩ rfl (fun z9 M9 e9 => ?_)
          obtain ⟨rfl, rfl⟩ := e9
          refine V_gets (v := .ref t9) g dX2_readCommand_75 hZ9 j_forms (fun x h => h) rfl ?_
          refine V_iload_n (q := 79) g dX2_readCommand_78 rfl rfl ?_
          refine V_iconst (q := 80) g dX2_readCommand_79 rfl ?_
          refine V_iadd (q := 81) g dX2_readCommand_80 rfl ?_
          refine V_callNIE_2 (q := 84) g (Ef_ok t9) hT9 (ct_at l (x := fLo r9 2) (by omega) (by unfold fLo; congr 1; omega)) dX2_readCommand_81 k_X2_43 rfl rfl ⟨rfl, rfl⟩ rfl (fun z9 M9 e9 => ?_)
          obtain ⟨rfl, rfl⟩ := e9
          refine V_gets (v := .ref t9) g dX2_readCommand_84 hZ9 j_forms (fun x h => h) rfl ?_
          refine V_iload_n (q := 88) g dX2_readCommand_87 rfl rfl ?_
          refine V_iconst (q := 89) g dX2_readCommand_88 rfl ?_
          refine V_iadd (q := 90) g dX2_readCommand_89 rfl ?_
          refine V_callNIE_2 (q := 93) g (Ef_ok t9) hT9 (ct_at l (x := fHi r9 2) (by omega) (by unfold fHi; congr 1; omega)) dX2_readCommand_90 k_X2_43 rfl rfl ⟨rfl, rfl⟩ rfl (fun z9 M9 e9 => ?_)
          obtain ⟨rfl, rfl⟩ := e9
          refine V_callVI_3 (q := 96) g (c_X2_readNumber l hL (hX2.sz.trans hz) (hX2.tx.trans ht) hC hX2.1 (by omega) (fD_at hr7 (i := 2) (by decide)).2.1 (fD_at hr7 (i := 2) (by decide)).2.2.1) dX2_readCommand_93 k_X2_57 hL.1 rfl rfl rfl rfl ⟨rfl, rfl⟩ rfl (fun z6 M6 e6 => ?_)
          obtain ⟨e6, rfl⟩ := e6
          rw [← (show sXs t sz r9 (p + 1) 2 = _ from sXs_go hk1)] at e6
          rw [← (show sXs t sz r9 (p + 1) 2 = _ from sXs_go hk1)]
          have hY2 := hX2.pos (v := (sXs t sz r9 (p + 1) 2).2)
          have sp2 := sXs_p (t := t) (sz := sz) (p := p + 1) hr7 2 (by decide)
          have sq2 := (fD_at hr7 (i := 2) (by decide)).2.2.1
          refine V_istore_4 (q := 98) g dX2_readCommand_96 (by decide) rfl rfl ?_
          refine V_iload (q := 100) g dX2_readCommand_98 rfl rfl ?_
          refine V_iconst (q := 101) g dX2_readCommand_100 rfl ?_
          refine V_icmp_ne (q := 104) g dX2_readCommand_101 (tgt := 106) (by decide) rfl (by omega) (by omega) (fun h101 => ?_) (fun h101 => ?_)
          · have hk2 : (sXs t sz r9 (p + 1) 2).1 ≠ -1 := fun q => h101 (e6.trans q)
            refine V_aload_n (q := 107) g dX2_readCommand_106 rfl rfl ?_
            refine V_getR (q := 110) g dX2_readCommand_107 rfl f_X2_25 rfl hL.1 rfl ?_
            refine V_iload_n (q := 111) g dX2_readCommand_110 rfl rfl ?_
            refine V_iload (q := 113) g dX2_readCommand_111 rfl rfl ?_
            refine V_callNV_3 (q := 116) g (c_X4_put l hL.2.2 (by decide) (by decide)) dX2_readCommand_113 k_X2_28 rfl rfl ⟨rfl, rfl⟩ rfl (fun M7 e7 => ?_)
            obtain rfl := e7
            have hX3 := hY2.num (i := 2) (v := z6)
            refine V_iinc_2 (q := 119) g dX2_readCommand_116 (by decide) rfl rfl ?_
            simp only [Int.reduceAdd]
            refine V_goto g dX2_readCommand_119 (tgt := 54) (by decide) ?_
            refine V_iload_n (q := 55) g dX2_readCommand_54 rfl rfl ?_
            refine V_iconst (q := 56) g dX2_readCommand_55 rfl ?_
            refine V_icmp_ge (q := 59) g dX2_readCommand_56 (tgt := 122) (by decide) rfl (by omega) (by omega) (fun h56 => absurd h56 (by omega)) (fun h56 => ?_)
            refine V_iload_n (q := 60) g dX2_readCommand_59 rfl rfl ?_
            refine V_iconst (q := 61) g dX2_readCommand_60 rfl ?_
            refine V_imul (q := 62) g dX2_readCommand_61 rfl ?_
            refine V_iload_n (q := 63) g dX2_readCommand_62 rfl rfl ?_
            refine V_iadd (q := 64) g dX2_readCommand_63 rfl ?_
            refine V_iconst (q := 65) g dX2_readCommand_64 rfl ?_
            refine V_imul (q := 66) g dX2_readCommand_65 rfl ?_
            refine V_istore_n_3 (q := 67) g dX2_readCommand_66 (by decide) rfl rfl ?_
            refine V_aload_n (q := 68) g dX2_readCommand_67 rfl rfl ?_
            refine V_gets (v := .ref t9) g dX2_readCommand_68 hZ9 j_forms (fun x h => h) rfl ?_
            refine V_iload_n (q := 72) g dX2_readCommand_71 rfl rfl ?_
            refine V_callNIE_2 (q := 75) g (Ef_ok t9) hT9 (ct_at l (x := ((fD r9 3 : Nat) : Int)) (by omega) (by have q := fD_at hr7 (i := 3) (by decide); rw [← q.1]; congr 1; omega)) dX2_readCommand_72 k_X2_43 rfl rfl ⟨rfl, rfl⟩ rfl (fun z9 M9 e9 => ?_)
            obtain ⟨rfl, rfl⟩ := e9
            refine V_gets (v := .ref t9) g dX2_readCommand_75 hZ9 j_forms (fun x h => h) rfl ?_
            refine V_iload_n (q := 79) g dX2_readCommand_78 rfl rfl ?_
            refine V_iconst (q := 80) g dX2_readCommand_79 rfl ?_
            refine V_iadd (q := 81) g dX2_readCommand_80 rfl ?_
            refine V_callNIE_2 (q := 84) g (Ef_ok t9) hT9 (ct_at l (x := fLo r9 3) (by omega) (by unfold fLo; congr 1; omega)) dX2_readCommand_81 k_X2_43 rfl rfl ⟨rfl, rfl⟩ rfl (fun z9 M9 e9 => ?_)
            obtain ⟨rfl, rfl⟩ := e9
            refine V_gets (v := .ref t9) g dX2_readCommand_84 hZ9 j_forms (fun x h => h) rfl ?_
            refine V_iload_n (q := 88) g dX2_readCommand_87 rfl rfl ?_
            refine V_iconst (q := 89) g dX2_readCommand_88 rfl ?_
            refine V_iadd (q := 90) g dX2_readCommand_89 rfl ?_
            refine V_callNIE_2 (q := 93) g (Ef_ok t9) hT9 (ct_at l (x := fHi r9 3) (by omega) (by unfold fHi; congr 1; omega)) dX2_readCommand_90 k_X2_43 rfl rfl ⟨rfl, rfl⟩ rfl (fun z9 M9 e9 => ?_)
            obtain ⟨rfl, rfl⟩ := e9
            refine V_callVI_3 (q := 96) g (c_X2_readNumber l hL (hX3.sz.trans hz) (hX3.tx.trans ht) hC hX3.1 (by omega) (fD_at hr7 (i := 3) (by decide)).2.1 (fD_at hr7 (i := 3) (by decide)).2.2.1) dX2_readCommand_93 k_X2_57 hL.1 rfl rfl rfl rfl ⟨rfl, rfl⟩ rfl (fun z8 M8 e8 => ?_)
            obtain ⟨e8, rfl⟩ := e8
            rw [← (show sXs t sz r9 (p + 1) 3 = _ from sXs_go hk2)] at e8
            rw [← (show sXs t sz r9 (p + 1) 3 = _ from sXs_go hk2)]
            have hY3 := hX3.pos (v := (sXs t sz r9 (p + 1) 3).2)
            have sp3 := sXs_p (t := t) (sz := sz) (p := p + 1) hr7 3 (by decide)
            have sq3 := (fD_at hr7 (i := 3) (by decide)).2.2.1
            refine V_istore_4 (q := 98) g dX2_readCommand_96 (by decide) rfl rfl ?_
            refine V_iload (q := 100) g dX2_readCommand_98 rfl rfl ?_
            refine V_iconst (q := 101) g dX2_readCommand_100 rfl ?_
            refine V_icmp_ne (q := 104) g dX2_readCommand_101 (tgt := 106) (by decide) rfl (by omega) (by omega) (fun h101 => ?_) (fun h101 => ?_)
            · have hk3 : (sXs t sz r9 (p + 1) 3).1 ≠ -1 := fun q => h101 (e8.trans q)
              refine V_aload_n (q := 107) g dX2_readCommand_106 rfl rfl ?_
              refine V_getR (q := 110) g dX2_readCommand_107 rfl f_X2_25 rfl hL.1 rfl ?_
              refine V_iload_n (q := 111) g dX2_readCommand_110 rfl rfl ?_
              refine V_iload (q := 113) g dX2_readCommand_111 rfl rfl ?_
              refine V_callNV_3 (q := 116) g (c_X4_put l hL.2.2 (by decide) (by decide)) dX2_readCommand_113 k_X2_28 rfl rfl ⟨rfl, rfl⟩ rfl (fun M9 e9 => ?_)
              obtain rfl := e9
              have hX4 := hY3.num (i := 3) (v := z8)
              refine V_iinc_2 (q := 119) g dX2_readCommand_116 (by decide) rfl rfl ?_
              simp only [Int.reduceAdd]
              refine V_goto g dX2_readCommand_119 (tgt := 54) (by decide) ?_
              refine V_iload_n (q := 55) g dX2_readCommand_54 rfl rfl ?_
              refine V_iconst (q := 56) g dX2_readCommand_55 rfl ?_
              refine V_icmp_ge (q := 59) g dX2_readCommand_56 (tgt := 122) (by decide) rfl (by omega) (by omega) (fun h56 => ?_) (fun h56 => absurd h56 (by omega))
              refine V_iconst (q := 123) g dX2_readCommand_122 rfl ?_
              exact V_ireturn g r dX2_readCommand_123 rfl (Or.inr ⟨r9, hps, hsr1, hr7, Or.inr ⟨hk3, rfl, hX4, by simp [wr]; assumption, by simp [wr]; assumption, by simp [wr]; assumption, by simp [wr]; assumption⟩⟩)
            · skip
              refine V_iconst (q := 105) g dX2_readCommand_104 rfl ?_
              exact V_ireturn g r dX2_readCommand_105 rfl (Or.inr ⟨r9, hps, hsr1, hr7, Or.inl ⟨(e8.symm.trans h101), rfl, hY3⟩⟩)
          · have f2 := sXs_fail (t := t) (sz := sz) (r := r9) (p := p + 1) (i := 2) (e6.symm.trans h101)
            have hfin := hY2.to (f2.2)
            refine V_iconst (q := 105) g dX2_readCommand_104 rfl ?_
            exact V_ireturn g r dX2_readCommand_105 rfl (Or.inr ⟨r9, hps, hsr1, hr7, Or.inl ⟨f2.1, rfl, hfin⟩⟩)
        · have f1 := sXs_fail (t := t) (sz := sz) (r := r9) (p := p + 1) (i := 1) (e4.symm.trans h101)
          have f2 := sXs_fail (t := t) (sz := sz) (r := r9) (p := p + 1) (i := 2) f1.1
          have hfin := hY1.to ((f2.2).trans f1.2)
          refine V_iconst (q := 105) g dX2_readCommand_104 rfl ?_
          exact V_ireturn g r dX2_readCommand_105 rfl (Or.inr ⟨r9, hps, hsr1, hr7, Or.inl ⟨f2.1, rfl, hfin⟩⟩)
      · have f0 := sXs_fail (t := t) (sz := sz) (r := r9) (p := p + 1) (i := 0) (e2.symm.trans h101)
        have f1 := sXs_fail (t := t) (sz := sz) (r := r9) (p := p + 1) (i := 1) f0.1
        have f2 := sXs_fail (t := t) (sz := sz) (r := r9) (p := p + 1) (i := 2) f1.1
        have hfin := hY0.to (((f2.2).trans f1.2).trans f0.2)
        refine V_iconst (q := 105) g dX2_readCommand_104 rfl ?_
        exact V_ireturn g r dX2_readCommand_105 rfl (Or.inr ⟨r9, hps, hsr1, hr7, Or.inl ⟨f2.1, rfl, hfin⟩⟩)
    · have hno : sRow (t p) = none := by
        rcases hsr with ⟨q, _⟩ | ⟨r, _, q2⟩
        · exact q
        · exact absurd q2 (by omega)
      refine V_iconst (q := 41) g dX2_readCommand_40 rfl ?_
      exact V_ireturn g r dX2_readCommand_41 rfl (by first | exact Or.inl ⟨Or.inl hps, rfl, hX⟩ | exact Or.inl ⟨Or.inr hno, rfl, by rw [hcx] at hX ⊢; exact hX⟩)
  · have hps : ¬ p < sz := fun q => by
      have e8 : sCd t sz p = t p := by unfold sCd; rw [if_pos q]
      have := hC.2 p hp.1 q
      omega
    refine V_iconst (q := 21) g dX2_readCommand_20 rfl ?_
    refine V_goto g dX2_readCommand_21 (tgt := 34) (by decide) ?_
    refine V_istore_n_1 (q := 35) g dX2_readCommand_34 (by decide) rfl rfl ?_
    refine V_iload_n (q := 36) g dX2_readCommand_35 rfl rfl ?_
    refine V_iconst (q := 37) g dX2_readCommand_36 rfl ?_
    refine V_icmp_ne (q := 40) g dX2_readCommand_37 (tgt := 42) (by decide) rfl (by omega) (by omega) (fun h37 => absurd h37 (by omega)) (fun h37 => ?_)
    refine V_iconst (q := 41) g dX2_readCommand_40 rfl ?_
    exact V_ireturn g r dX2_readCommand_41 rfl (by first | exact Or.inl ⟨Or.inl hps, rfl, hX⟩ | exact Or.inl ⟨Or.inr hno, rfl, by rw [hcx] at hX ⊢; exact hX⟩)
