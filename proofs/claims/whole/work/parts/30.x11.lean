theorem Tx.new {M : MM} {m : Nat} : Tx M (wr (wr (aset M (m + 3) fNew) m 10 0) m 9 0) m 0 0 fNew := ((Tx.rf (M := M) (m := m)).row (g := fNew)).o10.p9
/-- what reading a text leaves: z its answer -/
def rtPost (M : MM) (m : Nat) (t : Int → Int) (sz z : Int) (M1 : MM) : Prop := z = sErr t sz ∧ ∃ p o g, Tx M M1 m p o g ∧ (z = -1 → o = (sTxt t sz).2.2.1 ∧ g = (sTxt t sz).2.2.2 ∧ Inv g)
theorem sXs_pos {t : Int → Int} {sz p : Int} : ∀ {r : Nat}, r ≤ 7 → p ≤ (sXs t sz r p 3).2 ∧ (p ≤ sz → (sXs t sz r p 3).2 ≤ sz)
  | 0, _ => by
    have e := sXs_e0 t sz p
    have g0 : ((sXs t sz 0 p 0).1 = -1 ∨ ((0 : Int) ≠ -1 ∧ 0 ≤ (sXs t sz 0 p 0).1 ∧ (sXs t sz 0 p 0).1 ≤ 3)) ∧ p ≤ (sXs t sz 0 p 0).2 ∧ (p ≤ sz → (sXs t sz 0 p 0).2 ≤ sz) := sFig_r (by decide) (by decide)
    have g1 : ((sXs t sz 0 p 1).1 = -1 ∨ ((sXs t sz 0 p 0).1 ≠ -1 ∧ 100 ≤ (sXs t sz 0 p 1).1 ∧ (sXs t sz 0 p 1).1 ≤ 900)) ∧ (sXs t sz 0 p 0).2 ≤ (sXs t sz 0 p 1).2 ∧ ((sXs t sz 0 p 0).2 ≤ sz → (sXs t sz 0 p 1).2 ≤ sz) := sFig_r (by decide) (by decide)
    rw [e.1]; omega
  | 1, _ => by
    have e := sXs_e1 t sz p
    have g0 : ((sXs t sz 1 p 0).1 = -1 ∨ ((0 : Int) ≠ -1 ∧ 0 ≤ (sXs t sz 1 p 0).1 ∧ (sXs t sz 1 p 0).1 ≤ 9)) ∧ p ≤ (sXs t sz 1 p 0).2 ∧ (p ≤ sz → (sXs t sz 1 p 0).2 ≤ sz) := sFig_r (by decide) (by decide)
    have g1 : ((sXs t sz 1 p 1).1 = -1 ∨ ((sXs t sz 1 p 0).1 ≠ -1 ∧ 0 ≤ (sXs t sz 1 p 1).1 ∧ (sXs t sz 1 p 1).1 ≤ 3)) ∧ (sXs t sz 1 p 0).2 ≤ (sXs t sz 1 p 1).2 ∧ ((sXs t sz 1 p 0).2 ≤ sz → (sXs t sz 1 p 1).2 ≤ sz) := sFig_r (by decide) (by decide)
    have g2 : ((sXs t sz 1 p 2).1 = -1 ∨ ((sXs t sz 1 p 1).1 ≠ -1 ∧ 1 ≤ (sXs t sz 1 p 2).1 ∧ (sXs t sz 1 p 2).1 ≤ 800)) ∧ (sXs t sz 1 p 1).2 ≤ (sXs t sz 1 p 2).2 ∧ ((sXs t sz 1 p 1).2 ≤ sz → (sXs t sz 1 p 2).2 ≤ sz) := sFig_r (by decide) (by decide)
    rw [e.1]; omega
  | 2, _ => by
    have e := sXs_e2 t sz p
    have g0 : ((sXs t sz 2 p 0).1 = -1 ∨ ((0 : Int) ≠ -1 ∧ 0 ≤ (sXs t sz 2 p 0).1 ∧ (sXs t sz 2 p 0).1 ≤ 9)) ∧ p ≤ (sXs t sz 2 p 0).2 ∧ (p ≤ sz → (sXs t sz 2 p 0).2 ≤ sz) := sFig_r (by decide) (by decide)
    have g1 : ((sXs t sz 2 p 1).1 = -1 ∨ ((sXs t sz 2 p 0).1 ≠ -1 ∧ 0 ≤ (sXs t sz 2 p 1).1 ∧ (sXs t sz 2 p 1).1 ≤ 3)) ∧ (sXs t sz 2 p 0).2 ≤ (sXs t sz 2 p 1).2 ∧ ((sXs t sz 2 p 0).2 ≤ sz → (sXs t sz 2 p 1).2 ≤ sz) := sFig_r (by decide) (by decide)
    have g2 : ((sXs t sz 2 p 2).1 = -1 ∨ ((sXs t sz 2 p 1).1 ≠ -1 ∧ 1 ≤ (sXs t sz 2 p 2).1 ∧ (sXs t sz 2 p 2).1 ≤ 99)) ∧ (sXs t sz 2 p 1).2 ≤ (sXs t sz 2 p 2).2 ∧ ((sXs t sz 2 p 1).2 ≤ sz → (sXs t sz 2 p 2).2 ≤ sz) := sFig_r (by decide) (by decide)
    rw [e.1]; omega
  | 3, _ => by
    have e := sXs_e3 t sz p
    have g0 : ((sXs t sz 3 p 0).1 = -1 ∨ ((0 : Int) ≠ -1 ∧ 0 ≤ (sXs t sz 3 p 0).1 ∧ (sXs t sz 3 p 0).1 ≤ 50)) ∧ p ≤ (sXs t sz 3 p 0).2 ∧ (p ≤ sz → (sXs t sz 3 p 0).2 ≤ sz) := sFig_r (by decide) (by decide)
    have g1 : ((sXs t sz 3 p 1).1 = -1 ∨ ((sXs t sz 3 p 0).1 ≠ -1 ∧ 0 ≤ (sXs t sz 3 p 1).1 ∧ (sXs t sz 3 p 1).1 ≤ 50)) ∧ (sXs t sz 3 p 0).2 ≤ (sXs t sz 3 p 1).2 ∧ ((sXs t sz 3 p 0).2 ≤ sz → (sXs t sz 3 p 1).2 ≤ sz) := sFig_r (by decide) (by decide)
    have g2 : ((sXs t sz 3 p 2).1 = -1 ∨ ((sXs t sz 3 p 1).1 ≠ -1 ∧ 0 ≤ (sXs t sz 3 p 2).1 ∧ (sXs t sz 3 p 2).1 ≤ 50)) ∧ (sXs t sz 3 p 1).2 ≤ (sXs t sz 3 p 2).2 ∧ ((sXs t sz 3 p 1).2 ≤ sz → (sXs t sz 3 p 2).2 ≤ sz) := sFig_r (by decide) (by decide)
    have g3 : ((sXs t sz 3 p 3).1 = -1 ∨ ((sXs t sz 3 p 2).1 ≠ -1 ∧ 0 ≤ (sXs t sz 3 p 3).1 ∧ (sXs t sz 3 p 3).1 ≤ 50)) ∧ (sXs t sz 3 p 2).2 ≤ (sXs t sz 3 p 3).2 ∧ ((sXs t sz 3 p 2).2 ≤ sz → (sXs t sz 3 p 3).2 ≤ sz) := sFig_r (by decide) (by decide)
    rw [e.1]; omega
  | 4, _ => by
    have e := sXs_e4 t sz p
    have g0 : ((sXs t sz 4 p 0).1 = -1 ∨ ((0 : Int) ≠ -1 ∧ 0 ≤ (sXs t sz 4 p 0).1 ∧ (sXs t sz 4 p 0).1 ≤ 9)) ∧ p ≤ (sXs t sz 4 p 0).2 ∧ (p ≤ sz → (sXs t sz 4 p 0).2 ≤ sz) := sFig_r (by decide) (by decide)
    have g1 : ((sXs t sz 4 p 1).1 = -1 ∨ ((sXs t sz 4 p 0).1 ≠ -1 ∧ 0 ≤ (sXs t sz 4 p 1).1 ∧ (sXs t sz 4 p 1).1 ≤ 3)) ∧ (sXs t sz 4 p 0).2 ≤ (sXs t sz 4 p 1).2 ∧ ((sXs t sz 4 p 0).2 ≤ sz → (sXs t sz 4 p 1).2 ≤ sz) := sFig_r (by decide) (by decide)
    have g2 : ((sXs t sz 4 p 2).1 = -1 ∨ ((sXs t sz 4 p 1).1 ≠ -1 ∧ 0 ≤ (sXs t sz 4 p 2).1 ∧ (sXs t sz 4 p 2).1 ≤ 3)) ∧ (sXs t sz 4 p 1).2 ≤ (sXs t sz 4 p 2).2 ∧ ((sXs t sz 4 p 1).2 ≤ sz → (sXs t sz 4 p 2).2 ≤ sz) := sFig_r (by decide) (by decide)
    rw [e.1]; omega
  | 5, _ => by
    have e := sXs_e5 t sz p
    have g0 : ((sXs t sz 5 p 0).1 = -1 ∨ ((0 : Int) ≠ -1 ∧ 0 ≤ (sXs t sz 5 p 0).1 ∧ (sXs t sz 5 p 0).1 ≤ 9)) ∧ p ≤ (sXs t sz 5 p 0).2 ∧ (p ≤ sz → (sXs t sz 5 p 0).2 ≤ sz) := sFig_r (by decide) (by decide)
    rw [e.1]; omega
  | 6, _ => by
    have e := sXs_e6 t sz p
    have g0 : ((sXs t sz 6 p 0).1 = -1 ∨ ((0 : Int) ≠ -1 ∧ 0 ≤ (sXs t sz 6 p 0).1 ∧ (sXs t sz 6 p 0).1 ≤ 9)) ∧ p ≤ (sXs t sz 6 p 0).2 ∧ (p ≤ sz → (sXs t sz 6 p 0).2 ≤ sz) := sFig_r (by decide) (by decide)
    have g1 : ((sXs t sz 6 p 1).1 = -1 ∨ ((sXs t sz 6 p 0).1 ≠ -1 ∧ 1 ≤ (sXs t sz 6 p 1).1 ∧ (sXs t sz 6 p 1).1 ≤ 200)) ∧ (sXs t sz 6 p 0).2 ≤ (sXs t sz 6 p 1).2 ∧ ((sXs t sz 6 p 0).2 ≤ sz → (sXs t sz 6 p 1).2 ≤ sz) := sFig_r (by decide) (by decide)
    rw [e.1]; omega
  | 7, _ => by
    have e := sXs_e7 t sz p
    have g0 : ((sXs t sz 7 p 0).1 = -1 ∨ ((0 : Int) ≠ -1 ∧ 0 ≤ (sXs t sz 7 p 0).1 ∧ (sXs t sz 7 p 0).1 ≤ 3)) ∧ p ≤ (sXs t sz 7 p 0).2 ∧ (p ≤ sz → (sXs t sz 7 p 0).2 ≤ sz) := sFig_r (by decide) (by decide)
    have g1 : ((sXs t sz 7 p 1).1 = -1 ∨ ((sXs t sz 7 p 0).1 ≠ -1 ∧ 0 ≤ (sXs t sz 7 p 1).1 ∧ (sXs t sz 7 p 1).1 ≤ 3)) ∧ (sXs t sz 7 p 0).2 ≤ (sXs t sz 7 p 1).2 ∧ ((sXs t sz 7 p 0).2 ≤ sz → (sXs t sz 7 p 1).2 ≤ sz) := sFig_r (by decide) (by decide)
    have g2 : ((sXs t sz 7 p 2).1 = -1 ∨ ((sXs t sz 7 p 1).1 ≠ -1 ∧ 0 ≤ (sXs t sz 7 p 2).1 ∧ (sXs t sz 7 p 2).1 ≤ 900)) ∧ (sXs t sz 7 p 1).2 ≤ (sXs t sz 7 p 2).2 ∧ ((sXs t sz 7 p 1).2 ≤ sz → (sXs t sz 7 p 2).2 ≤ sz) := sFig_r (by decide) (by decide)
    rw [e.1]; omega
theorem sGo_r {t : Int → Int} {sz : Int} : ∀ (n : Nat) (p o : Int) (f : Int → Int), 0 ≤ p → p ≤ sz → -1 ≤ (sGo t sz n p o f).1 ∧ (sGo t sz n p o f).1 ≤ sz
  | 0, p, o, f, h, h2 => ⟨Int.le_refl _, by show (-1 : Int) ≤ sz; omega⟩
  | n + 1, p, o, f, h, h2 => by
    by_cases hp : p < sz
    · cases hr : sRow (t p) with
      | none => rw [sGo_no hp hr]; exact ⟨by show -1 ≤ p; omega, h2⟩
      | some r =>
        have hr7 : r ≤ 7 := by
          unfold sRow at hr
          repeat (split at hr; · cases hr; decide)
          cases hr
        have hps := sXs_pos (t := t) (sz := sz) (p := p + 1) hr7
        by_cases hx : (sXs t sz r (p + 1) 3).1 = -1
        · rw [sGo_bad hp hr hx]; exact ⟨by show -1 ≤ (sXs t sz r (p + 1) 3).2; omega, hps.2 (by omega)⟩
        · by_cases ok : xOk f r (sXs t sz r (p + 1) 0).1 (sXs t sz r (p + 1) 1).1 (sXs t sz r (p + 1) 2).1
          · rw [sGo_do hp hr hx ok]; exact sGo_r n _ _ _ (by omega) (hps.2 (by omega))
          · rw [sGo_skip hp hr hx ok]; exact sGo_r n _ _ _ (by omega) (hps.2 (by omega))
    · rw [sGo_end hp]; exact ⟨Int.le_refl _, by show (-1 : Int) ≤ sz; omega⟩
theorem sErr_r {t : Int → Int} {sz : Int} (h : Txt t sz) : -2147483648 ≤ sErr t sz ∧ sErr t sz < 2147483648 := by
  have h1 := h.1
  unfold sErr
  split
  · decide
  · have := sGo_r (t := t) (sz := sz) 120 1 0 fNew (by decide) (by omega)
    unfold sTxt
    omega
abbrev rm_X5_readText : Room := { frames := 9, cells := 0, slots := 0, locals := 203 }
set_option maxHeartbeats 4000000 in
set_option maxRecDepth 100000 in
theorem c_X5_readText (l : Launch) {D : DD} {Λ : LY} {M : MM} {m : Nat} {t : Int → Int} {sz : Int} (hL : MdL D Λ m) (hz : M m 2 = sz) (ht : M (m + 1) = t) (hC : Txt t sz) : CI l yX5_readText cX5_readText 2 .int rm_X5_readText [.ref m, .ref (m + 3)] D Λ M (fun z M1 => rtPost M m t sz z M1) := by
  refine CI_of rfl rfl (Nat.le_of_ble_eq_true rfl) (fun Γ g r => ?_)
  have hC1 := hC.1
  have hN := Tx.new (M := M) (m := m)
  refine V_aload_n (q := 1) g dX5_readText_0 rfl rfl ?_
  refine V_callSV_1 (q := 4) g (b_clear l hL.2.2.2.1) dX5_readText_1 k_X5_29 rfl rfl ⟨rfl, rfl⟩ rfl (fun M1 e1 => ?_)
  obtain rfl := e1
  try simp only [aset_aset]
  refine V_aload_n (q := 5) g dX5_readText_4 rfl rfl ?_
  refine V_iconst (q := 6) g dX5_readText_5 rfl ?_
  refine V_putI (q := 9) g dX5_readText_6 rfl f_X5_118 tyX5_ok nmX5 rfl hL.1 rfl rfl (ty := .int) rfl rfl rfl (j := 10) rfl ?_
  refine V_aload_n (q := 10) g dX5_readText_9 rfl rfl ?_
  refine V_iconst (q := 11) g dX5_readText_10 rfl ?_
  refine V_putI (q := 14) g dX5_readText_11 rfl f_X5_109 tyX5_ok nmX5 rfl hL.1 rfl rfl (ty := .int) rfl rfl rfl (j := 9) rfl ?_
  refine V_aload_n (q := 15) g dX5_readText_14 rfl rfl ?_
  refine V_getI (q := 18) g dX5_readText_15 rfl f_X5_102 rfl hL.1 rfl (j := 2) rfl ?_
  rw [hN.sz, hz]
  refine V_if_eq (q := 21) g dX5_readText_18 (tgt := 32) (by decide) rfl (by omega) (fun h18 => ?_) (fun h18 => ?_)
  · refine V_iconst (q := 33) g dX5_readText_32 rfl ?_
    have e : sErr t sz = 0 := by unfold sErr; rw [if_pos (by omega)]
    exact V_ireturn g r dX5_readText_33 rfl ⟨e.symm, _, _, _, hN, fun q => absurd q (by decide)⟩
  · refine V_aload_n (q := 22) g dX5_readText_21 rfl rfl ?_
    refine V_getR (q := 25) g dX5_readText_22 rfl f_X5_7 rfl hL.1 rfl ?_
    refine V_iconst (q := 26) g dX5_readText_25 rfl ?_
    refine V_iaload (q := 27) g dX5_readText_26 rfl hL.2.1 (by omega) (by decide) ?_
    rw [hN.tx, ht]
    have ht0 := hC.2 0 (by omega) (by omega)
    refine V_bipush (q := 29) g dX5_readText_27 (by decide) rfl ?_
    refine V_icmp_eq (q := 32) g dX5_readText_29 (tgt := 34) (by decide) rfl (by omega) (by omega) (fun h29 => ?_) (fun h29 => ?_)
    · refine V_aload_n (q := 35) g dX5_readText_34 rfl rfl ?_
      refine V_iconst (q := 36) g dX5_readText_35 rfl ?_
      refine V_putI (q := 39) g dX5_readText_36 rfl f_X5_109 tyX5_ok nmX5 rfl hL.1 rfl rfl (ty := .int) rfl rfl rfl (j := 9) rfl ?_
      have hloop : ∀ (k9 : Nat) (p o : Int) (f : Int → Int) (Mx : MM), (0 ≤ p ∧ p ≤ sz) → sz - p ≤ k9 → Inv f → sGo t sz 120 1 0 fNew = sGo t sz k9 p o f → Tx M Mx m p o f → V Γ D Λ Mx (0, 0) 39 [some (.ref m), some (.ref (m + 3))] [] := by
        intro k9
        induction k9 with
        | zero =>
          intro p o f Mx h2 h3 h4 h5 h6
          refine V_aload_n (q := 40) g dX5_readText_39 rfl rfl ?_
          refine V_getI (q := 43) g dX5_readText_40 rfl f_X5_109 rfl hL.1 rfl (j := 9) rfl ?_
          rw [h6.1]
          refine V_aload_n (q := 44) g dX5_readText_43 rfl rfl ?_
          refine V_getI (q := 47) g dX5_readText_44 rfl f_X5_102 rfl hL.1 rfl (j := 2) rfl ?_
          rw [h6.sz, hz]
          refine V_icmp_ge (q := 50) g dX5_readText_47 (tgt := 63) (by decide) rfl (by omega) (by omega) (fun h47 => ?_) (fun h47 => absurd h47 (by omega))
          have es : sErr t sz = (sTxt t sz).1 := by unfold sErr; rw [if_neg (by omega)]
          have eg := h5.trans (sGo_end (by omega))
          refine V_iconst (q := 64) g dX5_readText_63 rfl ?_
          exact V_ireturn g r dX5_readText_64 rfl ⟨by rw [es]; unfold sTxt; rw [eg], p, o, f, h6, fun _ => ⟨by unfold sTxt; rw [eg], by unfold sTxt; rw [eg], h4⟩⟩
        | succ k9 ih =>
          intro p o f Mx h2 h3 h4 h5 h6
          refine V_aload_n (q := 40) g dX5_readText_39 rfl rfl ?_
          refine V_getI (q := 43) g dX5_readText_40 rfl f_X5_109 rfl hL.1 rfl (j := 9) rfl ?_
          rw [h6.1]
          refine V_aload_n (q := 44) g dX5_readText_43 rfl rfl ?_
          refine V_getI (q := 47) g dX5_readText_44 rfl f_X5_102 rfl hL.1 rfl (j := 2) rfl ?_
          rw [h6.sz, hz]
          refine V_icmp_ge (q := 50) g dX5_readText_47 (tgt := 63) (by decide) rfl (by omega) (by omega) (fun h47 => ?_) (fun h47 => ?_)
          · have es : sErr t sz = (sTxt t sz).1 := by unfold sErr; rw [if_neg (by omega)]
            have eg := h5.trans (sGo_end (by omega))
            refine V_iconst (q := 64) g dX5_readText_63 rfl ?_
            exact V_ireturn g r dX5_readText_64 rfl ⟨by rw [es]; unfold sTxt; rw [eg], p, o, f, h6, fun _ => ⟨by unfold sTxt; rw [eg], by unfold sTxt; rw [eg], h4⟩⟩
          · refine V_aload_n (q := 51) g dX5_readText_50 rfl rfl ?_
            refine V_aload_n (q := 52) g dX5_readText_51 rfl rfl ?_
            refine V_callVI_1 (q := 55) g (c_X5_readCommand l hL h6 hz ht hC h4 (by omega)) dX5_readText_52 k_X5_185 hL.1 rfl rfl rfl rfl ⟨rfl, rfl⟩ rfl (fun z2 M2 e2 => ?_)
            obtain e2 := e2
            refine V_if_ne (q := 58) g dX5_readText_55 (tgt := 39) (by decide) rfl (by rcases e2 with ⟨_, q, _⟩ | ⟨_, _, _, q⟩ <;> first | omega | (have := rd_z q; omega)) (fun h55 => ?_) (fun h55 => ?_)
            · obtain ⟨r9, er, hr9, hq9⟩ := e2.resolve_left (fun q => h55 q.2.1)
              obtain ⟨hx, -, hw9⟩ := hq9.resolve_left (fun q => h55 q.2.1)
              have hrd := rdI hr9 h4 hx
              rcases hw9 with ⟨hok, hT9⟩ | ⟨hok, hT9⟩
              · exact ih _ _ _ _ (by omega) (by omega) (hrd.2 hok) (h5.trans (sGo_do (by omega) er hx hok)) hT9
              · exact ih _ _ _ _ (by omega) (by omega) h4 (h5.trans (sGo_skip (by omega) er hx hok)) hT9
              
            · have es : sErr t sz = (sTxt t sz).1 := by unfold sErr; rw [if_neg (by omega)]
              have hz0 : z2 = 0 := by omega
              rcases e2 with ⟨er, -, hT9⟩ | ⟨r9, er, hr9, hq9⟩
              · refine V_aload_n (q := 59) g dX5_readText_58 rfl rfl ?_
                refine V_getI (q := 62) g dX5_readText_59 rfl f_X5_109 rfl hL.1 rfl (j := 9) rfl ?_
                rw [hT9.1]
                have eg := h5.trans (sGo_no (by omega) er)
                exact V_ireturn g r dX5_readText_62 rfl ⟨by rw [es]; unfold sTxt; rw [eg], _, _, _, hT9, fun q => absurd q (by omega)⟩
              · obtain ⟨hx, -, hT9⟩ := hq9.resolve_right (fun q => by have := q.2.1; omega)
                refine V_aload_n (q := 59) g dX5_readText_58 rfl rfl ?_
                refine V_getI (q := 62) g dX5_readText_59 rfl f_X5_109 rfl hL.1 rfl (j := 9) rfl ?_
                rw [hT9.1]
                have eg := h5.trans (sGo_bad (by omega) er hx)
                have hps := sXs_pos (t := t) (sz := sz) (r := r9) (p := p + 1) hr9
                exact V_ireturn g r dX5_readText_62 rfl ⟨by rw [es]; unfold sTxt; rw [eg], _, _, _, hT9, fun q => absurd q (by omega)⟩
      exact hloop 120 1 0 fNew _ (by omega) (by omega) Inv_new rfl (Tx.new.p9)
    · refine V_iconst (q := 33) g dX5_readText_32 rfl ?_
      have e : sErr t sz = 0 := by unfold sErr; rw [if_pos (by omega)]
      exact V_ireturn g r dX5_readText_33 rfl ⟨e.symm, _, _, _, hN, fun q => absurd q (by decide)⟩
abbrev rm_X5_errorPosition : Room := { frames := 10, cells := 0, slots := 0, locals := 224 }
set_option maxHeartbeats 4000000 in
set_option maxRecDepth 100000 in
theorem c_X5_errorPosition (l : Launch) {D : DD} {Λ : LY} {M : MM} {m : Nat} {t : Int → Int} {sz : Int} (hL : MdL D Λ m) (hz : M m 2 = sz) (ht : M (m + 1) = t) (hC : Txt t sz) : CI l yX5_errorPosition cX5_errorPosition 1 .int rm_X5_errorPosition [.ref m] D Λ M (fun z M1 => rtPost (wr M m 0 0) m t sz z M1) := by
  refine CI_of rfl rfl (Nat.le_of_ble_eq_true rfl) (fun Γ g r => ?_)
  refine V_aload_n (q := 1) g dX5_errorPosition_0 rfl rfl ?_
  refine V_iconst (q := 2) g dX5_errorPosition_1 rfl ?_
  refine V_putI (q := 5) g dX5_errorPosition_2 rfl f_X5_33 tyX5_ok nmX5 rfl hL.1 rfl rfl (ty := .int) rfl rfl rfl (j := 0) rfl ?_
  refine V_aload_n (q := 6) g dX5_errorPosition_5 rfl rfl ?_
  refine V_aload_n (q := 7) g dX5_errorPosition_6 rfl rfl ?_
  refine V_getR (q := 10) g dX5_errorPosition_7 rfl f_X5_16 rfl hL.1 rfl ?_
  refine V_callVI_1 (q := 13) g (c_X5_readText l hL (by rw [wr_ii M m 0 (by decide)]; exact hz) (by rw [wr_ne _ _ _ (by omega)]; exact ht) hC) dX5_errorPosition_10 k_X5_188 hL.1 rfl rfl rfl rfl ⟨rfl, rfl⟩ rfl (fun z1 M1 e1 => ?_)
  obtain e1 := e1
  exact V_ireturn g r dX5_errorPosition_13 rfl e1
abbrev rm_X5_load : Room := { frames := 10, cells := 0, slots := 0, locals := 224 }
set_option maxHeartbeats 4000000 in
set_option maxRecDepth 100000 in
theorem c_X5_load (l : Launch) {D : DD} {Λ : LY} {M : MM} {m : Nat} {t : Int → Int} {sz : Int} (hL : MdL D Λ m) (hz : M m 2 = sz) (ht : M (m + 1) = t) (hC : Txt t sz) : CI l yX5_load cX5_load 1 .int rm_X5_load [.ref m] D Λ M (fun z M1 => ∃ M9 p o g, Tx M M9 m p o g ∧ ((sErr t sz ≠ -1 ∧ wr M9 m 0 1 = M1) ∨ (sErr t sz = -1 ∧ z = (sTxt t sz).2.2.1 ∧ g = (sTxt t sz).2.2.2 ∧ Inv g ∧ wr (wr (wr (aset (wr M9 m 0 0) (m + 2) g) m 6 0) (m + 6) 0 0) (m + 6) 1 0 = M1))) := by
  refine CI_of rfl rfl (Nat.le_of_ble_eq_true rfl) (fun Γ g r => ?_)
  refine V_aload_n (q := 1) g dX5_load_0 rfl rfl ?_
  refine V_aload_n (q := 2) g dX5_load_1 rfl rfl ?_
  refine V_aload_n (q := 3) g dX5_load_2 rfl rfl ?_
  refine V_getR (q := 6) g dX5_load_3 rfl f_X5_16 rfl hL.1 rfl ?_
  refine V_callVI_1 (q := 9) g (c_X5_readText l hL hz ht hC) dX5_load_6 k_X5_188 hL.1 rfl rfl rfl rfl ⟨rfl, rfl⟩ rfl (fun z1 M1 e1 => ?_)
  obtain ⟨e1, p1, o1, g1, hT1, hG1⟩ := e1
  refine V_iconst (q := 10) g dX5_load_9 rfl ?_
  refine V_icmp_ne (q := 13) g dX5_load_10 (tgt := 17) (by decide) rfl (by rw [e1]; exact sErr_r hC) (by omega) (fun h10 => ?_) (fun h10 => ?_)
  · have hE : sErr t sz ≠ -1 := by omega
    refine V_iconst (q := 18) g dX5_load_17 rfl ?_
    refine V_callVI_1 (q := 21) g (b_refn l hL (by decide)) dX5_load_18 k_X5_105 hL.1 rfl rfl rfl rfl ⟨rfl, rfl⟩ rfl (fun z2 M2 e2 => ?_)
    obtain ⟨rfl, rfl⟩ := e2
    refine V_if_eq (q := 24) g dX5_load_21 (tgt := 26) (by decide) rfl (by omega) (fun h21 => absurd h21 (by omega)) (fun h21 => ?_)
    refine V_iconst (q := 25) g dX5_load_24 rfl ?_
    exact V_ireturn g r dX5_load_25 rfl ⟨_, _, _, _, hT1, Or.inl ⟨hE, rfl⟩⟩
  · obtain ⟨ho, hg, hI⟩ := hG1 (by omega)
    refine V_iconst (q := 14) g dX5_load_13 rfl ?_
    refine V_goto g dX5_load_14 (tgt := 18) (by decide) ?_
    refine V_callVI_1 (q := 21) g (b_ref0 l hL) dX5_load_18 k_X5_105 hL.1 rfl rfl rfl rfl ⟨rfl, rfl⟩ rfl (fun z3 M3 e3 => ?_)
    obtain ⟨rfl, rfl⟩ := e3
    have hP : wr M1 m 0 0 (m + 3) = g1 := wrO hT1.2.2.1 (by omega)
    refine V_if_eq (q := 24) g dX5_load_21 (tgt := 26) (by decide) rfl (by omega) (fun h21 => ?_) (fun h21 => absurd h21 (by omega))
    refine V_aload_n (q := 27) g dX5_load_26 rfl rfl ?_
    refine V_getR (q := 30) g dX5_load_27 rfl f_X5_16 rfl hL.1 rfl ?_
    refine V_iconst (q := 31) g dX5_load_30 rfl ?_
    refine V_aload_n (q := 32) g dX5_load_31 rfl rfl ?_
    refine V_getR (q := 35) g dX5_load_32 rfl f_X5_13 rfl hL.1 rfl ?_
    refine V_iconst (q := 36) g dX5_load_35 rfl ?_
    refine V_callSV_4 (q := 39) g (b_cpy0 l hL.2.2.2.1 hL.2.2.1 hP (by omega)) dX5_load_36 k_X5_192 rfl rfl ⟨rfl, rfl⟩ rfl (fun M4 e4 => ?_)
    obtain rfl := e4
    try simp only [aset_aset]
    refine V_aload_n (q := 40) g dX5_load_39 rfl rfl ?_
    refine V_iconst (q := 41) g dX5_load_40 rfl ?_
    refine V_putI (q := 44) g dX5_load_41 rfl f_X5_196 tyX5_ok nmX5 rfl hL.1 rfl rfl (ty := .int) rfl rfl rfl (j := 6) rfl ?_
    refine V_aload_n (q := 45) g dX5_load_44 rfl rfl ?_
    refine V_getR (q := 48) g dX5_load_45 rfl f_X5_25 rfl hL.1 rfl ?_
    refine V_iconst (q := 49) g dX5_load_48 rfl ?_
    refine V_iconst (q := 50) g dX5_load_49 rfl ?_
    refine V_zastore (q := 51) g dX5_load_50 rfl hL.2.2.2.2.2.2 (by omega) (by decide) (by decide) ?_
    refine V_aload_n (q := 52) g dX5_load_51 rfl rfl ?_
    refine V_getR (q := 55) g dX5_load_52 rfl f_X5_25 rfl hL.1 rfl ?_
    refine V_iconst (q := 56) g dX5_load_55 rfl ?_
    refine V_iconst (q := 57) g dX5_load_56 rfl ?_
    refine V_zastore (q := 58) g dX5_load_57 rfl hL.2.2.2.2.2.2 (by omega) (by decide) (by decide) ?_
    refine V_aload_n (q := 59) g dX5_load_58 rfl rfl ?_
    refine V_getI (q := 62) g dX5_load_59 rfl f_X5_118 rfl hL.1 rfl (j := 10) rfl ?_
    rw [wr_ne _ _ _ (by omega), wr_ne _ _ _ (by omega), wr_ii _ _ _ (by decide), aset_ne _ _ (by omega), wr_ii _ _ _ (by decide), hT1.2.1]
    exact V_ireturn g r dX5_load_62 rfl ⟨_, _, _, _, hT1, Or.inr ⟨by omega, ho, hg, hI, rfl⟩⟩
