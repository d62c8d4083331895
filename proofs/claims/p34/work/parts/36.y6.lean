/-- where a text is wrong, from a place on -/
def sPa (t : Int → Int) (sz : Int) : Nat → Int → Int
  | 0, _ => -1
  | n + 1, p => if p < sz then (match sRow (t p) with
      | none => p
      | some r => if (sXs t sz r (p + 1) 3).1 = -1 then (sXs t sz r (p + 1) 3).2 else sPa t sz n (sXs t sz r (p + 1) 3).2) else -1
section PA
variable {t : Int → Int} {sz p : Int} {n r : Nat}
theorem sPa_end (h : ¬ p < sz) : sPa t sz n p = -1 := by
  match n with
  | 0 => rfl
  | n + 1 => rw [sPa, if_neg h]
theorem sPa_no (h : p < sz) (hr : sRow (t p) = none) : sPa t sz (n + 1) p = p := by rw [sPa, if_pos h, hr]
theorem sPa_bad (h : p < sz) (hr : sRow (t p) = some r) (hx : (sXs t sz r (p + 1) 3).1 = -1) : sPa t sz (n + 1) p = (sXs t sz r (p + 1) 3).2 := by
  rw [sPa, if_pos h, hr]
  exact if_pos hx
theorem sPa_go (h : p < sz) (hr : sRow (t p) = some r) (hx : (sXs t sz r (p + 1) 3).1 ≠ -1) : sPa t sz (n + 1) p = sPa t sz n (sXs t sz r (p + 1) 3).2 := by
  rw [sPa, if_pos h, hr]
  exact if_neg hx
theorem sGo_pa : ∀ (n : Nat) (p o : Int) (f : Int → Int), (sGo t sz n p o f).1 = sPa t sz n p
  | 0, p, o, f => rfl
  | n + 1, p, o, f => by
    by_cases hp : p < sz
    · cases hr : sRow (t p) with
      | none => rw [sGo_no hp hr, sPa_no hp hr]
      | some r =>
        by_cases hx : (sXs t sz r (p + 1) 3).1 = -1
        · rw [sGo_bad hp hr hx, sPa_bad hp hr hx]
        · rw [sPa_go hp hr hx]
          by_cases ok : xOk f r (sXs t sz r (p + 1) 0).1 (sXs t sz r (p + 1) 1).1 (sXs t sz r (p + 1) 2).1
          · rw [sGo_do hp hr hx ok]; exact sGo_pa n _ _ _
          · rw [sGo_skip hp hr hx ok]; exact sGo_pa n _ _ _
    · rw [sGo_end hp, sPa_end hp]
theorem sErr_pa : sErr t sz = if sz = 0 ∨ t 0 ≠ 75 then 0 else sPa t sz 120 1 := by
  unfold sErr sTxt
  rw [sGo_pa]
end PA
theorem Cx.rf {M : MM} {x : Nat} : Cx M M x (M x 2) (M x 3) := ⟨rfl, rfl, fun _ _ _ => rfl, fun _ _ _ => rfl⟩
theorem rc_z {M M1 : MM} {x : Nat} {t : Int → Int} {sz p z : Int} (h : rcPost M x t sz p z M1) : z = 0 ∨ z = 1 := by
  rcases h with ⟨-, h, -⟩ | ⟨r, -, -, -, ⟨-, h, -⟩ | ⟨-, h, -⟩⟩
  · exact Or.inl h
  · exact Or.inl h
  · exact Or.inr h
abbrev rm_X2_firstError : Room := { frames := 5, cells := 0, slots := 0, locals := 115 }
set_option maxHeartbeats 4000000 in
set_option maxRecDepth 100000 in
theorem c_X2_firstError (l : Launch) {D : DD} {Λ : LY} {M : MM} {x : Nat} {t : Int → Int} {sz : Int} (hL : TxL D Λ x) (hz : M x 1 = sz) (ht : M (x + 1) = t) (hC : Txt t sz) : CI l yX2_firstError cX2_firstError 2 .int rm_X2_firstError [.ref x] D Λ M (fun z M1 => z = sErr t sz ∧ ∃ p c, Cx M M1 x p c) := by
  refine CI_of rfl rfl (Nat.le_of_ble_eq_true rfl) (fun Γ g r => ?_)
  have hC1 := hC.1
  have hcd := sCd_r hC (Int.le_refl 0)
  refine V_aload_n (q := 1) g dX2_firstError_0 rfl rfl ?_
  refine V_iconst (q := 2) g dX2_firstError_1 rfl ?_
  refine V_callVI_1 (q := 5) g (c_X2_codeAt l hL (by omega) (by omega) hC (by omega)) dX2_firstError_2 k_X2_32 hL.1 rfl rfl rfl rfl ⟨rfl, rfl⟩ rfl (fun z1 M1 e1 => ?_)
  obtain ⟨e1, rfl⟩ := e1
  refine V_bipush (q := 7) g dX2_firstError_5 (by decide) rfl ?_
  refine V_icmp_eq (q := 10) g dX2_firstError_7 (tgt := 12) (by decide) rfl (by omega) (by omega) (fun h7 => ?_) (fun h7 => ?_)
  · have hs0 : 0 < sz ∧ t 0 = 75 := by
      unfold sCd at e1
      split at e1
      · exact ⟨by assumption, by omega⟩
      · omega
    refine V_aload_n (q := 13) g dX2_firstError_12 rfl rfl ?_
    refine V_callVV_0 (q := 16) g (c_X2_goToCommands l hL) dX2_firstError_13 k_X2_36 hL.1 rfl rfl rfl rfl ⟨rfl, rfl⟩ rfl (fun M2 e2 => ?_)
    obtain rfl := e2
    have hG := (Cx.rf (M := M) (x := x)).pos (v := 1)
    refine V_iconst (q := 17) g dX2_firstError_16 rfl ?_
    refine V_istore_n_1 (q := 18) g dX2_firstError_17 (by decide) rfl rfl ?_
    have hloop : ∀ (k9 : Nat) (n : Nat) (p c : Int) (Mx : MM), (1 + (n : Int) ≤ p ∧ p ≤ sz) → sz - p ≤ k9 → sPa t sz 120 1 = sPa t sz k9 p → Cx M Mx x p c → V Γ D Λ Mx (0, 0) 18 [some (.ref x), some (vi (n : Int))] [] := by
      intro k9
      induction k9 with
      | zero =>
        intro n p c Mx h2 h3 h5 h6
        refine V_iload_n (q := 19) g dX2_firstError_18 rfl rfl ?_
        refine V_bipush (q := 21) g dX2_firstError_19 (by decide) rfl ?_
        refine V_icmp_ge (q := 24) g dX2_firstError_21 (tgt := 53) (by decide) rfl (by omega) (by omega) (fun h21 => absurd h21 (by omega)) (fun h21 => ?_)
        refine V_aload_n (q := 25) g dX2_firstError_24 rfl rfl ?_
        refine V_getI (q := 28) g dX2_firstError_25 rfl f_X2_19 rfl hL.1 rfl (j := 2) rfl ?_
        rw [h6.1]
        refine V_aload_n (q := 29) g dX2_firstError_28 rfl rfl ?_
        refine V_getI (q := 32) g dX2_firstError_29 rfl f_X2_15 rfl hL.1 rfl (j := 1) rfl ?_
        rw [h6.sz, hz]
        refine V_icmp_ge (q := 35) g dX2_firstError_32 (tgt := 53) (by decide) rfl (by omega) (by omega) (fun h32 => ?_) (fun h32 => absurd h32 (by omega))
        have es : sErr t sz = sPa t sz 120 1 := by rw [sErr_pa, if_neg (by omega)]
        have eg := h5.trans (sPa_end (by omega))
        refine V_iconst (q := 54) g dX2_firstError_53 rfl ?_
        exact V_ireturn g r dX2_firstError_54 rfl ⟨by rw [es, eg], _, _, h6⟩
      | succ k9 ih =>
        intro n p c Mx h2 h3 h5 h6
        refine V_iload_n (q := 19) g dX2_firstError_18 rfl rfl ?_
        refine V_bipush (q := 21) g dX2_firstError_19 (by decide) rfl ?_
        refine V_icmp_ge (q := 24) g dX2_firstError_21 (tgt := 53) (by decide) rfl (by omega) (by omega) (fun h21 => absurd h21 (by omega)) (fun h21 => ?_)
        refine V_aload_n (q := 25) g dX2_firstError_24 rfl rfl ?_
        refine V_getI (q := 28) g dX2_firstError_25 rfl f_X2_19 rfl hL.1 rfl (j := 2) rfl ?_
        rw [h6.1]
        refine V_aload_n (q := 29) g dX2_firstError_28 rfl rfl ?_
        refine V_getI (q := 32) g dX2_firstError_29 rfl f_X2_15 rfl hL.1 rfl (j := 1) rfl ?_
        rw [h6.sz, hz]
        refine V_icmp_ge (q := 35) g dX2_firstError_32 (tgt := 53) (by decide) rfl (by omega) (by omega) (fun h32 => ?_) (fun h32 => ?_)
        · have es : sErr t sz = sPa t sz 120 1 := by rw [sErr_pa, if_neg (by omega)]
          have eg := h5.trans (sPa_end (by omega))
          refine V_iconst (q := 54) g dX2_firstError_53 rfl ?_
          exact V_ireturn g r dX2_firstError_54 rfl ⟨by rw [es, eg], _, _, h6⟩
        · refine V_aload_n (q := 36) g dX2_firstError_35 rfl rfl ?_
          refine V_callVI_0 (q := 39) g (c_X2_readCommand l hL (h6.sz.trans hz) (h6.tx.trans ht) hC h6.1 (by omega)) dX2_firstError_36 k_X2_39 hL.1 rfl rfl rfl rfl ⟨rfl, rfl⟩ rfl (fun z3 M3 e3 => ?_)
          obtain e3 := e3
          refine V_if_ne (q := 42) g dX2_firstError_39 (tgt := 47) (by decide) rfl (by have := rc_z e3; omega) (fun h39 => ?_) (fun h39 => ?_)
          · obtain ⟨r9, hps, er, hr9, hq9⟩ := e3.resolve_left (fun q => h39 q.2.1)
            obtain ⟨hx, -, hT9, -⟩ := hq9.resolve_left (fun q => h39 q.2.1)
            have hrd := sXs_pos (t := t) (sz := sz) (p := p + 1) hr9
            refine V_iinc_1 (q := 50) g dX2_firstError_47 (by decide) rfl rfl ?_
            refine V_goto g dX2_firstError_50 (tgt := 18) (by decide) ?_
            exact ih (n + 1) _ _ _ (by omega) (by omega) (h5.trans (sPa_go (by omega) er hx)) (h6.tr hT9)
          · have es : sErr t sz = sPa t sz 120 1 := by rw [sErr_pa, if_neg (by omega)]
            have hz0 : z3 = 0 := by have := rc_z e3; omega
            rcases e3 with ⟨er, -, hT9⟩ | ⟨r9, hps, er, hr9, hq9⟩
            · have er2 := er.resolve_left (fun q => q (by omega))
              have eg := h5.trans (sPa_no (by omega) er2)
              refine V_aload_n (q := 43) g dX2_firstError_42 rfl rfl ?_
              refine V_getI (q := 46) g dX2_firstError_43 rfl f_X2_19 rfl hL.1 rfl (j := 2) rfl ?_
              rw [hT9.1]
              exact V_ireturn g r dX2_firstError_46 rfl ⟨by rw [es, eg], _, _, h6.tr hT9⟩
            · obtain ⟨hx, -, hT9⟩ := hq9.resolve_right (fun q => by have := q.2.1; omega)
              have eg := h5.trans (sPa_bad (by omega) er hx)
              refine V_aload_n (q := 43) g dX2_firstError_42 rfl rfl ?_
              refine V_getI (q := 46) g dX2_firstError_43 rfl f_X2_19 rfl hL.1 rfl (j := 2) rfl ?_
              rw [hT9.1]
              exact V_ireturn g r dX2_firstError_46 rfl ⟨by rw [es, eg], _, _, h6.tr hT9⟩
    exact hloop 120 0 1 _ _ (by omega) (by omega) rfl hG
  · have e9 : sErr t sz = 0 := by
      rw [sErr_pa, if_pos]
      unfold sCd at e1
      split at e1
      · exact Or.inr (by omega)
      · exact Or.inl (by omega)
    refine V_iconst (q := 11) g dX2_firstError_10 rfl ?_
    exact V_ireturn g r dX2_firstError_11 rfl ⟨e9.symm, _, _, Cx.rf⟩
