/-- the program's text at x: its codes behind it, then its numbers -/
def tFl (x : Nat) : List (Option Nat) := [some (x + 1), none, none, none, some (x + 2)]
def TxL (D : DD) (Λ : LY) (x : Nat) : Prop := Λ x = some (kO 2 (tFl x)) ∧ Λ (x + 1) = some (kI D 120) ∧ Λ (x + 2) = some (kI D 4)
def sCd (t : Int → Int) (sz i : Int) : Int := if i < sz then t i else -1
theorem sCd_r {t : Int → Int} {sz i : Int} (h : Txt t sz) (hi : 0 ≤ i) : -1 ≤ sCd t sz i ∧ sCd t sz i ≤ 255 := by
  unfold sCd
  split
  · have := h.2 i hi (by omega)
    omega
  · omega
theorem sCd_d {t : Int → Int} {sz i : Int} : (0 ≤ sDg t sz i ∧ sDg t sz i ≤ 9 ↔ 48 ≤ sCd t sz i ∧ sCd t sz i ≤ 57) ∧ (48 ≤ sCd t sz i → sCd t sz i - 48 = sDg t sz i) := by
  unfold sCd sDg
  split <;> omega
theorem wr_wr (M : MM) (a : Nat) (k v w : Int) : wr (wr M a k v) a k w = wr M a k w := by
  funext b j
  unfold wr
  by_cases h : b = a ∧ j = k
  · rw [if_pos h, if_pos h]
  · rw [if_neg h, if_neg h, if_neg h]
theorem wr_id {M : MM} {a : Nat} {k v : Int} (h : M a k = v) : wr M a k v = M := by
  funext b j
  unfold wr
  by_cases e : b = a ∧ j = k
  · rw [if_pos e, e.1, e.2, h]
  · rw [if_neg e]
theorem sT_s {n : Nat} (h : n ≤ 1) : sT n * 10 = sT (n + 1) := by
  match n, h with
  | 0, _ => rfl
  | 1, _ => rfl
abbrev rm_X2_isFull : Room := { frames := 0, cells := 0, slots := 0, locals := 0 }
set_option maxHeartbeats 4000000 in
set_option maxRecDepth 100000 in
theorem c_X2_isFull (l : Launch) {D : DD} {Λ : LY} {M : MM} {x : Nat} (hL : TxL D Λ x) (hz : 0 ≤ M x 1 ∧ M x 1 ≤ 120) : CI l yX2_isFull cX2_isFull 1 .boolean rm_X2_isFull [.ref x] D Λ M (fun z M1 => (M x 1 = 120 ∧ z = 1 ∨ M x 1 ≠ 120 ∧ z = 0) ∧ M = M1) := by
  refine CI_of rfl rfl (Nat.le_of_ble_eq_true rfl) (fun Γ g r => ?_)
  refine V_aload_n (q := 1) g dX2_isFull_0 rfl rfl ?_
  refine V_getI (q := 4) g dX2_isFull_1 rfl f_X2_15 rfl hL.1 rfl (j := 1) rfl ?_
  refine V_bipush (q := 6) g dX2_isFull_4 (by decide) rfl ?_
  refine V_icmp_lt (q := 9) g dX2_isFull_6 (tgt := 13) (by decide) rfl (by omega) (by omega) (fun h6 => ?_) (fun h6 => ?_)
  · refine V_iconst (q := 14) g dX2_isFull_13 rfl ?_
    exact V_ireturn g r dX2_isFull_14 rfl ⟨by omega, rfl⟩
  · refine V_iconst (q := 10) g dX2_isFull_9 rfl ?_
    refine V_goto g dX2_isFull_10 (tgt := 14) (by decide) ?_
    exact V_ireturn g r dX2_isFull_14 rfl ⟨by omega, rfl⟩
abbrev rm_X2_add : Room := { frames := 1, cells := 0, slots := 0, locals := 22 }
set_option maxHeartbeats 4000000 in
set_option maxRecDepth 100000 in
theorem c_X2_add (l : Launch) {D : DD} {Λ : LY} {M : MM} {x : Nat} {c : Int} (hL : TxL D Λ x) (hz : 0 ≤ M x 1 ∧ M x 1 < 120) : CI l yX2_add cX2_add 2 .int rm_X2_add [.ref x, vi c] D Λ M (fun z M1 => z = M x 1 + 1 ∧ wr (wr M (x + 1) (M x 1) c) x 1 (M x 1 + 1) = M1) := by
  refine CI_of rfl rfl (Nat.le_of_ble_eq_true rfl) (fun Γ g r => ?_)
  refine V_aload_n (q := 1) g dX2_add_0 rfl rfl ?_
  refine V_getR (q := 4) g dX2_add_1 rfl f_X2_9 rfl hL.1 rfl ?_
  refine V_aload_n (q := 5) g dX2_add_4 rfl rfl ?_
  refine V_getI (q := 8) g dX2_add_5 rfl f_X2_15 rfl hL.1 rfl (j := 1) rfl ?_
  refine V_iload_n (q := 9) g dX2_add_8 rfl rfl ?_
  refine V_callNV_3 (q := 12) g (c_X4_put l hL.2.1 (by decide) (by omega)) dX2_add_9 k_X2_28 rfl rfl ⟨rfl, rfl⟩ rfl (fun M1 e1 => ?_)
  obtain rfl := e1
  refine V_aload_n (q := 13) g dX2_add_12 rfl rfl ?_
  refine V_dup (q := 14) g dX2_add_13 rfl rfl ?_
  refine V_getI (q := 17) g dX2_add_14 rfl f_X2_15 rfl hL.1 rfl (j := 1) rfl ?_
  rw [wr_ne _ _ _ (show x ≠ x + 1 by omega)]
  refine V_iconst (q := 18) g dX2_add_17 rfl ?_
  refine V_iadd (q := 19) g dX2_add_18 rfl ?_
  refine V_putI (q := 22) g dX2_add_19 rfl f_X2_15 tyX2_ok nmX2 rfl hL.1 rfl rfl (ty := .int) rfl rfl rfl (j := 1) rfl ?_
  refine V_aload_n (q := 23) g dX2_add_22 rfl rfl ?_
  refine V_getI (q := 26) g dX2_add_23 rfl f_X2_15 rfl hL.1 rfl (j := 1) rfl ?_
  rw [wr_iv]
  exact V_ireturn g r dX2_add_26 rfl ⟨rfl, rfl⟩
abbrev rm_X2_goToCommands : Room := { frames := 0, cells := 0, slots := 0, locals := 0 }
set_option maxHeartbeats 4000000 in
set_option maxRecDepth 100000 in
theorem c_X2_goToCommands (l : Launch) {D : DD} {Λ : LY} {M : MM} {x : Nat} (hL : TxL D Λ x) : CV l yX2_goToCommands cX2_goToCommands 1 rm_X2_goToCommands [.ref x] D Λ M (fun M1 => wr M x 2 1 = M1) := by
  refine CV_of rfl rfl (Nat.le_of_ble_eq_true rfl) (fun Γ g r => ?_)
  refine V_aload_n (q := 1) g dX2_goToCommands_0 rfl rfl ?_
  refine V_iconst (q := 2) g dX2_goToCommands_1 rfl ?_
  refine V_putI (q := 5) g dX2_goToCommands_2 rfl f_X2_19 tyX2_ok nmX2 rfl hL.1 rfl rfl (ty := .int) rfl rfl rfl (j := 2) rfl ?_
  exact V_return g r dX2_goToCommands_5 rfl
abbrev rm_X2_codeAt : Room := { frames := 1, cells := 0, slots := 0, locals := 21 }
set_option maxHeartbeats 4000000 in
set_option maxRecDepth 100000 in
theorem c_X2_codeAt (l : Launch) {D : DD} {Λ : LY} {M : MM} {x : Nat} {t : Int → Int} {sz : Int} {i : Int} (hL : TxL D Λ x) (hz : M x 1 = sz) (ht : M (x + 1) = t) (hC : Txt t sz) (hi : 0 ≤ i ∧ i ≤ 120) : CI l yX2_codeAt cX2_codeAt 2 .int rm_X2_codeAt [.ref x, vi i] D Λ M (fun z M1 => z = sCd t sz i ∧ M = M1) := by
  refine CI_of rfl rfl (Nat.le_of_ble_eq_true rfl) (fun Γ g r => ?_)
  have hC1 := hC.1
  refine V_iload_n (q := 1) g dX2_codeAt_0 rfl rfl ?_
  refine V_aload_n (q := 2) g dX2_codeAt_1 rfl rfl ?_
  refine V_getI (q := 5) g dX2_codeAt_2 rfl f_X2_15 rfl hL.1 rfl (j := 1) rfl ?_
  rw [hz]
  refine V_icmp_ge (q := 8) g dX2_codeAt_5 (tgt := 19) (by decide) rfl (by omega) (by omega) (fun h5 => ?_) (fun h5 => ?_)
  · refine V_iconst (q := 20) g dX2_codeAt_19 rfl ?_
    exact V_ireturn g r dX2_codeAt_20 rfl ⟨by unfold sCd; first | (rw [if_pos (by omega)]; omega) | (rw [if_neg (by omega)]), rfl⟩
  · refine V_aload_n (q := 9) g dX2_codeAt_8 rfl rfl ?_
    refine V_getR (q := 12) g dX2_codeAt_9 rfl f_X2_9 rfl hL.1 rfl ?_
    refine V_iload_n (q := 13) g dX2_codeAt_12 rfl rfl ?_
    refine V_callNI_2 (q := 16) g (c_X4_at l hL.2.1 (by decide) (by omega)) dX2_codeAt_13 k_X2_43 rfl rfl ⟨rfl, rfl⟩ rfl (fun z1 M1 e1 => ?_)
    obtain ⟨e1, rfl⟩ := e1
    rw [ht] at e1
    refine V_goto g dX2_codeAt_16 (tgt := 20) (by decide) ?_
    exact V_ireturn g r dX2_codeAt_20 rfl ⟨by unfold sCd; first | (rw [if_pos (by omega)]; omega) | (rw [if_neg (by omega)]), rfl⟩
abbrev rm_X2_readNumber : Room := { frames := 2, cells := 0, slots := 0, locals := 42 }
set_option maxHeartbeats 4000000 in
set_option maxRecDepth 100000 in
theorem c_X2_readNumber (l : Launch) {D : DD} {Λ : LY} {M : MM} {x : Nat} {t : Int → Int} {sz : Int} {lo hi p : Int} {k : Nat} (hL : TxL D Λ x) (hz : M x 1 = sz) (ht : M (x + 1) = t) (hC : Txt t sz) (hp2 : M x 2 = p) (hp : 0 ≤ p ∧ p ≤ sz) (hk : k ≤ 3) (hlo : 0 ≤ lo ∧ lo ≤ hi ∧ hi ≤ 900) : CI l yX2_readNumber cX2_readNumber 8 .int rm_X2_readNumber [.ref x, vi k, vi lo, vi hi] D Λ M (fun z M1 => z = (sNum t sz k p 0 lo hi).1 ∧ wr M x 2 (sNum t sz k p 0 lo hi).2 = M1) := by
  refine CI_of rfl rfl (Nat.le_of_ble_eq_true rfl) (fun Γ g r => ?_)
  have hC1 := hC.1
  refine V_iconst (q := 1) g dX2_readNumber_0 rfl ?_
  refine V_istore_4 (q := 3) g dX2_readNumber_1 (by decide) rfl rfl ?_
  refine V_iconst (q := 4) g dX2_readNumber_3 rfl ?_
  refine V_istore_5 (q := 6) g dX2_readNumber_4 (by decide) rfl rfl ?_
  have hloop : ∀ (k9 : Nat) (n : Nat), (n = 0 ∨ n + 1 ≤ k) → k - n ≤ k9 → V Γ D Λ M (0, 0) 6 [some (.ref x), some (vi k), some (vi lo), some (vi hi), some (vi (sT n)), some (vi ((n : Int) + 1)), none, none] [] := by
    intro k9
    induction k9 with
    | zero =>
      intro n h5 h6
      refine V_iload (q := 8) g dX2_readNumber_6 rfl rfl ?_
      refine V_iload_n (q := 9) g dX2_readNumber_8 rfl rfl ?_
      refine V_icmp_ge (q := 12) g dX2_readNumber_9 (tgt := 25) (by decide) rfl (by omega) (by omega) (fun h9 => ?_) (fun h9 => absurd h9 (by omega))
      refine V_iconst (q := 26) g dX2_readNumber_25 rfl ?_
      refine V_istore_5 (q := 28) g dX2_readNumber_26 (by decide) rfl rfl ?_
      refine V_iconst (q := 29) g dX2_readNumber_28 rfl ?_
      refine V_istore_6 (q := 31) g dX2_readNumber_29 (by decide) rfl rfl ?_
      have hloop2 : ∀ (k9 : Nat) (u v p9 : Int) (y7 : Option Value), k9 ≤ 3 → (k9 ≠ 0 → u = sUn k9) → (u = 1 ∨ u = sUn k9) → 0 ≤ v → v ≤ hi → (0 ≤ p9 ∧ p9 ≤ sz) → k9 ≤ k → sNum t sz k p 0 lo hi = sNum t sz k9 p9 v lo hi → V Γ D Λ (wr M x 2 p9) (0, 0) 31 [some (.ref x), some (vi k), some (vi lo), some (vi hi), some (vi u), some (vi v), some (vi ((k : Int) - k9)), y7] [] := by
        intro k9
        induction k9 with
        | zero =>
          intro u v p9 y7 h2 hu1 hu2 h3 h4 hp9 hk9 hsm
          refine V_iload (q := 33) g dX2_readNumber_31 rfl rfl ?_
          refine V_iload_n (q := 34) g dX2_readNumber_33 rfl rfl ?_
          refine V_icmp_ge (q := 37) g dX2_readNumber_34 (tgt := 116) (by decide) rfl (by omega) (by omega) (fun h34 => ?_) (fun h34 => absurd h34 (by omega))
          refine V_iload (q := 118) g dX2_readNumber_116 rfl rfl ?_
          exact V_ireturn g r dX2_readNumber_118 rfl ⟨by rw [hsm]; rfl, by rw [hsm]; rfl⟩
        | succ k9 ih =>
          intro u v p9 y7 h2 hu1 hu2 h3 h4 hp9 hk9 hsm
          have hu9 : u = sT k9 := hu1 (by omega)
          subst hu9
          have hr := sT_r k9
          have hdv := sT_div (k := k9) (by omega)
          have hd := sCd_r hC hp9.1
          have hm := sT_mul (k := k9) (d := sCd t sz p9 - 48) (by omega)
          have hcd := @sCd_d t sz p9
          refine V_iload (q := 33) g dX2_readNumber_31 rfl rfl ?_
          refine V_iload_n (q := 34) g dX2_readNumber_33 rfl rfl ?_
          refine V_icmp_ge (q := 37) g dX2_readNumber_34 (tgt := 116) (by decide) rfl (by omega) (by omega) (fun h34 => absurd h34 (by omega)) (fun h34 => ?_)
          refine V_aload_n (q := 38) g dX2_readNumber_37 rfl rfl ?_
          refine V_aload_n (q := 39) g dX2_readNumber_38 rfl rfl ?_
          refine V_getI (q := 42) g dX2_readNumber_39 rfl f_X2_19 rfl hL.1 rfl (j := 2) rfl ?_
          rw [wr_iv]
          refine V_callVI_1 (q := 45) g (c_X2_codeAt l hL (by rw [wr_ii _ _ _ (by decide)]; exact hz) (by rw [wr_ne _ _ _ (by omega)]; exact ht) hC (by omega)) dX2_readNumber_42 k_X2_32 hL.1 rfl rfl rfl rfl ⟨rfl, rfl⟩ rfl (fun z1 M1 e1 => ?_)
          obtain ⟨e1, rfl⟩ := e1
          rw [e1]
          refine V_istore_7 (q := 47) g dX2_readNumber_45 (by decide) rfl rfl ?_
          refine V_iload (q := 49) g dX2_readNumber_47 rfl rfl ?_
          refine V_bipush (q := 51) g dX2_readNumber_49 (by decide) rfl ?_
          refine V_bipush (q := 53) g dX2_readNumber_51 (by decide) rfl ?_
          refine V_callNI_3 (q := 56) g (c_X4_within l (by omega) (by omega) (by omega)) dX2_readNumber_53 k_X2_61 rfl rfl ⟨rfl, rfl⟩ rfl (fun z2 M2 e2 => ?_)
          obtain ⟨e2, rfl⟩ := e2
          refine V_if_ne (q := 59) g dX2_readNumber_56 (tgt := 61) (by decide) rfl (by omega) (fun h56 => ?_) (fun h56 => ?_)
          · refine V_iload (q := 63) g dX2_readNumber_61 rfl rfl ?_
            refine V_iload (q := 65) g dX2_readNumber_63 rfl rfl ?_
            refine V_bipush (q := 67) g dX2_readNumber_65 (by decide) rfl ?_
            refine V_isub (q := 68) g dX2_readNumber_67 rfl ?_
            refine V_iload (q := 70) g dX2_readNumber_68 rfl rfl ?_
            refine V_imul (q := 71) g dX2_readNumber_70 rfl ?_
            refine V_iadd (q := 72) g dX2_readNumber_71 rfl ?_
            refine V_istore_5 (q := 74) g dX2_readNumber_72 (by decide) rfl rfl ?_
            refine V_iload (q := 76) g dX2_readNumber_74 rfl rfl ?_
            refine V_iload_n (q := 77) g dX2_readNumber_76 rfl rfl ?_
            refine V_icmp_gt (q := 80) g dX2_readNumber_77 (tgt := 91) (by decide) rfl (by omega) (by omega) (fun h77 => ?_) (fun h77 => ?_)
            · refine V_iconst (q := 92) g dX2_readNumber_91 rfl ?_
              have hde := hcd.2 (by omega)
              exact V_ireturn g r dX2_readNumber_92 rfl ⟨by rw [hsm, sNum, ← hde, if_neg (by omega)], by rw [hsm, sNum, ← hde, if_neg (by omega)]⟩
            · refine V_iload (q := 82) g dX2_readNumber_80 rfl rfl ?_
              refine V_iload (q := 84) g dX2_readNumber_82 rfl rfl ?_
              refine V_iadd (q := 85) g dX2_readNumber_84 rfl ?_
              refine V_iconst (q := 86) g dX2_readNumber_85 rfl ?_
              refine V_isub (q := 87) g dX2_readNumber_86 rfl ?_
              refine V_iload_n (q := 88) g dX2_readNumber_87 rfl rfl ?_
              refine V_icmp_ge (q := 91) g dX2_readNumber_88 (tgt := 93) (by decide) rfl (by omega) (by omega) (fun h88 => ?_) (fun h88 => ?_)
              · refine V_iload (q := 95) g dX2_readNumber_93 rfl rfl ?_
                refine V_bipush (q := 97) g dX2_readNumber_95 (by decide) rfl ?_
                refine V_idiv (q := 98) g dX2_readNumber_97 (by omega) (by omega) rfl ?_
                refine V_istore_4 (q := 100) g dX2_readNumber_98 (by decide) rfl rfl ?_
                refine V_aload_n (q := 101) g dX2_readNumber_100 rfl rfl ?_
                refine V_dup (q := 102) g dX2_readNumber_101 rfl rfl ?_
                refine V_getI (q := 105) g dX2_readNumber_102 rfl f_X2_19 rfl hL.1 rfl (j := 2) rfl ?_
                rw [wr_iv]
                refine V_iconst (q := 106) g dX2_readNumber_105 rfl ?_
                refine V_iadd (q := 107) g dX2_readNumber_106 rfl ?_
                refine V_putI (q := 110) g dX2_readNumber_107 rfl f_X2_19 tyX2_ok nmX2 rfl hL.1 rfl rfl (ty := .int) rfl rfl rfl (j := 2) rfl ?_
                rw [wr_wr]
                refine V_iinc_6 (q := 113) g dX2_readNumber_110 (by decide) rfl rfl ?_
                refine V_goto g dX2_readNumber_113 (tgt := 31) (by decide) ?_
                have hps : p9 < sz := by
                  have hh : 48 ≤ sCd t sz p9 := by omega
                  unfold sCd at hh
                  split at hh <;> omega
                have hnn := sT_nn (k := k9) (d := sCd t sz p9 - 48) (by omega)
                have hs9 : sNum t sz k p 0 lo hi = sNum t sz k9 (p9 + 1) (v + (sCd t sz p9 - 48) * sT k9) lo hi := by rw [hsm, sNum, ← hcd.2 (by omega), if_pos (by omega)]
                have q9 := fun y7 => ih (sT k9 / 10) (v + (sCd t sz p9 - 48) * sT k9) (p9 + 1) y7 (by omega) (fun _ => hdv) (Or.inr hdv) (by omega) (by omega) (by omega) (by omega) hs9
                rw [show (k : Int) - (k9 : Nat) = (k : Int) - ((k9 + 1 : Nat) : Int) + 1 by omega] at q9
                exact q9 _
              · refine V_iconst (q := 92) g dX2_readNumber_91 rfl ?_
                have hde := hcd.2 (by omega)
                exact V_ireturn g r dX2_readNumber_92 rfl ⟨by rw [hsm, sNum, ← hde, if_neg (by omega)], by rw [hsm, sNum, ← hde, if_neg (by omega)]⟩
          · refine V_iconst (q := 60) g dX2_readNumber_59 rfl ?_
            have hno : ¬ (0 ≤ sDg t sz p9 ∧ sDg t sz p9 ≤ 9) := by omega
            exact V_ireturn g r dX2_readNumber_60 rfl ⟨by rw [hsm, sNum, if_neg (fun q => hno q.1)], by rw [hsm, sNum, if_neg (fun q => hno q.1)]⟩
      have hMM : M = wr M x 2 p := (wr_id hp2).symm
      rw [hMM]
      have hu8 : k ≠ 0 → sT n = sUn k := fun h => by
        obtain ⟨j, rfl⟩ : ∃ j, k = j + 1 := ⟨k - 1, by omega⟩
        rw [show n = j by omega]
        rfl
      have hu7 : sT n = 1 ∨ sT n = sUn k := by
        rcases h5 with h5 | h5
        · subst h5; exact Or.inl rfl
        · exact Or.inr (hu8 (by omega))
      have q9 := hloop2 k (sT n) 0 p none (by omega) hu8 hu7 (by decide) (by omega) hp (Nat.le_refl k) rfl
      rw [show (k : Int) - (k : Nat) = 0 by omega] at q9
      exact q9
    | succ k9 ih =>
      intro n h5 h6
      refine V_iload (q := 8) g dX2_readNumber_6 rfl rfl ?_
      refine V_iload_n (q := 9) g dX2_readNumber_8 rfl rfl ?_
      refine V_icmp_ge (q := 12) g dX2_readNumber_9 (tgt := 25) (by decide) rfl (by omega) (by omega) (fun h9 => ?_) (fun h9 => ?_)
      · refine V_iconst (q := 26) g dX2_readNumber_25 rfl ?_
        refine V_istore_5 (q := 28) g dX2_readNumber_26 (by decide) rfl rfl ?_
        refine V_iconst (q := 29) g dX2_readNumber_28 rfl ?_
        refine V_istore_6 (q := 31) g dX2_readNumber_29 (by decide) rfl rfl ?_
        have hloop2 : ∀ (k9 : Nat) (u v p9 : Int) (y7 : Option Value), k9 ≤ 3 → (k9 ≠ 0 → u = sUn k9) → (u = 1 ∨ u = sUn k9) → 0 ≤ v → v ≤ hi → (0 ≤ p9 ∧ p9 ≤ sz) → k9 ≤ k → sNum t sz k p 0 lo hi = sNum t sz k9 p9 v lo hi → V Γ D Λ (wr M x 2 p9) (0, 0) 31 [some (.ref x), some (vi k), some (vi lo), some (vi hi), some (vi u), some (vi v), some (vi ((k : Int) - k9)), y7] [] := by
          intro k9
          induction k9 with
          | zero =>
            intro u v p9 y7 h2 hu1 hu2 h3 h4 hp9 hk9 hsm
            refine V_iload (q := 33) g dX2_readNumber_31 rfl rfl ?_
            refine V_iload_n (q := 34) g dX2_readNumber_33 rfl rfl ?_
            refine V_icmp_ge (q := 37) g dX2_readNumber_34 (tgt := 116) (by decide) rfl (by omega) (by omega) (fun h34 => ?_) (fun h34 => absurd h34 (by omega))
            refine V_iload (q := 118) g dX2_readNumber_116 rfl rfl ?_
            exact V_ireturn g r dX2_readNumber_118 rfl ⟨by rw [hsm]; rfl, by rw [hsm]; rfl⟩
          | succ k9 ih =>
            intro u v p9 y7 h2 hu1 hu2 h3 h4 hp9 hk9 hsm
            have hu9 : u = sT k9 := hu1 (by omega)
            subst hu9
            have hr := sT_r k9
            have hdv := sT_div (k := k9) (by omega)
            have hd := sCd_r hC hp9.1
            have hm := sT_mul (k := k9) (d := sCd t sz p9 - 48) (by omega)
            have hcd := @sCd_d t sz p9
            refine V_iload (q := 33) g dX2_readNumber_31 rfl rfl ?_
            refine V_iload_n (q := 34) g dX2_readNumber_33 rfl rfl ?_
            refine V_icmp_ge (q := 37) g dX2_readNumber_34 (tgt := 116) (by decide) rfl (by omega) (by omega) (fun h34 => absurd h34 (by omega)) (fun h34 => ?_)
            refine V_aload_n (q := 38) g dX2_readNumber_37 rfl rfl ?_
            refine V_aload_n (q := 39) g dX2_readNumber_38 rfl rfl ?_
            refine V_getI (q := 42) g dX2_readNumber_39 rfl f_X2_19 rfl hL.1 rfl (j := 2) rfl ?_
            rw [wr_iv]
            refine V_callVI_1 (q := 45) g (c_X2_codeAt l hL (by rw [wr_ii _ _ _ (by decide)]; exact hz) (by rw [wr_ne _ _ _ (by omega)]; exact ht) hC (by omega)) dX2_readNumber_42 k_X2_32 hL.1 rfl rfl rfl rfl ⟨rfl, rfl⟩ rfl (fun z3 M3 e3 => ?_)
            obtain ⟨e3, rfl⟩ := e3
            rw [e3]
            refine V_istore_7 (q := 47) g dX2_readNumber_45 (by decide) rfl rfl ?_
            refine V_iload (q := 49) g dX2_readNumber_47 rfl rfl ?_
            refine V_bipush (q := 51) g dX2_readNumber_49 (by decide) rfl ?_
            refine V_bipush (q := 53) g dX2_readNumber_51 (by decide) rfl ?_
            refine V_callNI_3 (q := 56) g (c_X4_within l (by omega) (by omega) (by omega)) dX2_readNumber_53 k_X2_61 rfl rfl ⟨rfl, rfl⟩ rfl (fun z4 M4 e4 => ?_)
            obtain ⟨e4, rfl⟩ := e4
            refine V_if_ne (q := 59) g dX2_readNumber_56 (tgt := 61) (by decide) rfl (by omega) (fun h56 => ?_) (fun h56 => ?_)
            · refine V_iload (q := 63) g dX2_readNumber_61 rfl rfl ?_
              refine V_iload (q := 65) g dX2_readNumber_63 rfl rfl ?_
              refine V_bipush (q := 67) g dX2_readNumber_65 (by decide) rfl ?_
              refine V_isub (q := 68) g dX2_readNumber_67 rfl ?_
              refine V_iload (q := 70) g dX2_readNumber_68 rfl rfl ?_
              refine V_imul (q := 71) g dX2_readNumber_70 rfl ?_
              refine V_iadd (q := 72) g dX2_readNumber_71 rfl ?_
              refine V_istore_5 (q := 74) g dX2_readNumber_72 (by decide) rfl rfl ?_
              refine V_iload (q := 76) g dX2_readNumber_74 rfl rfl ?_
              refine V_iload_n (q := 77) g dX2_readNumber_76 rfl rfl ?_
              refine V_icmp_gt (q := 80) g dX2_readNumber_77 (tgt := 91) (by decide) rfl (by omega) (by omega) (fun h77 => ?_) (fun h77 => ?_)
              · refine V_iconst (q := 92) g dX2_readNumber_91 rfl ?_
                have hde := hcd.2 (by omega)
                exact V_ireturn g r dX2_readNumber_92 rfl ⟨by rw [hsm, sNum, ← hde, if_neg (by omega)], by rw [hsm, sNum, ← hde, if_neg (by omega)]⟩
              · refine V_iload (q := 82) g dX2_readNumber_80 rfl rfl ?_
                refine V_iload (q := 84) g dX2_readNumber_82 rfl rfl ?_
                refine V_iadd (q := 85) g dX2_readNumber_84 rfl ?_
                refine V_iconst (q := 86) g dX2_readNumber_85 rfl ?_
                refine V_isub (q := 87) g dX2_readNumber_86 rfl ?_
                refine V_iload_n (q := 88) g dX2_readNumber_87 rfl rfl ?_
                refine V_icmp_ge (q := 91) g dX2_readNumber_88 (tgt := 93) (by decide) rfl (by omega) (by omega) (fun h88 => ?_) (fun h88 => ?_)
                · refine V_iload (q := 95) g dX2_readNumber_93 rfl rfl ?_
                  refine V_bipush (q := 97) g dX2_readNumber_95 (by decide) rfl ?_
                  refine V_idiv (q := 98) g dX2_readNumber_97 (by omega) (by omega) rfl ?_
                  refine V_istore_4 (q := 100) g dX2_readNumber_98 (by decide) rfl rfl ?_
                  refine V_aload_n (q := 101) g dX2_readNumber_100 rfl rfl ?_
                  refine V_dup (q := 102) g dX2_readNumber_101 rfl rfl ?_
                  refine V_getI (q := 105) g dX2_readNumber_102 rfl f_X2_19 rfl hL.1 rfl (j := 2) rfl ?_
                  rw [wr_iv]
                  refine V_iconst (q := 106) g dX2_readNumber_105 rfl ?_
                  refine V_iadd (q := 107) g dX2_readNumber_106 rfl ?_
                  refine V_putI (q := 110) g dX2_readNumber_107 rfl f_X2_19 tyX2_ok nmX2 rfl hL.1 rfl rfl (ty := .int) rfl rfl rfl (j := 2) rfl ?_
                  rw [wr_wr]
                  refine V_iinc_6 (q := 113) g dX2_readNumber_110 (by decide) rfl rfl ?_
                  refine V_goto g dX2_readNumber_113 (tgt := 31) (by decide) ?_
                  have hps : p9 < sz := by
                    have hh : 48 ≤ sCd t sz p9 := by omega
                    unfold sCd at hh
                    split at hh <;> omega
                  have hnn := sT_nn (k := k9) (d := sCd t sz p9 - 48) (by omega)
                  have hs9 : sNum t sz k p 0 lo hi = sNum t sz k9 (p9 + 1) (v + (sCd t sz p9 - 48) * sT k9) lo hi := by rw [hsm, sNum, ← hcd.2 (by omega), if_pos (by omega)]
                  have q9 := fun y7 => ih (sT k9 / 10) (v + (sCd t sz p9 - 48) * sT k9) (p9 + 1) y7 (by omega) (fun _ => hdv) (Or.inr hdv) (by omega) (by omega) (by omega) (by omega) hs9
                  rw [show (k : Int) - (k9 : Nat) = (k : Int) - ((k9 + 1 : Nat) : Int) + 1 by omega] at q9
                  exact q9 _
                · refine V_iconst (q := 92) g dX2_readNumber_91 rfl ?_
                  have hde := hcd.2 (by omega)
                  exact V_ireturn g r dX2_readNumber_92 rfl ⟨by rw [hsm, sNum, ← hde, if_neg (by omega)], by rw [hsm, sNum, ← hde, if_neg (by omega)]⟩
            · refine V_iconst (q := 60) g dX2_readNumber_59 rfl ?_
              have hno : ¬ (0 ≤ sDg t sz p9 ∧ sDg t sz p9 ≤ 9) := by omega
              exact V_ireturn g r dX2_readNumber_60 rfl ⟨by rw [hsm, sNum, if_neg (fun q => hno q.1)], by rw [hsm, sNum, if_neg (fun q => hno q.1)]⟩
        have hMM : M = wr M x 2 p := (wr_id hp2).symm
        rw [hMM]
        have hu8 : k ≠ 0 → sT n = sUn k := fun h => by
          obtain ⟨j, rfl⟩ : ∃ j, k = j + 1 := ⟨k - 1, by omega⟩
          rw [show n = j by omega]
          rfl
        have hu7 : sT n = 1 ∨ sT n = sUn k := by
          rcases h5 with h5 | h5
          · subst h5; exact Or.inl rfl
          · exact Or.inr (hu8 (by omega))
        have q9 := hloop2 k (sT n) 0 p none (by omega) hu8 hu7 (by decide) (by omega) hp (Nat.le_refl k) rfl
        rw [show (k : Int) - (k : Nat) = 0 by omega] at q9
        exact q9
      · refine V_iload (q := 14) g dX2_readNumber_12 rfl rfl ?_
        refine V_bipush (q := 16) g dX2_readNumber_14 (by decide) rfl ?_
        refine V_imul (q := 17) g dX2_readNumber_16 rfl ?_
        rw [sT_s (by omega)]
        refine V_istore_4 (q := 19) g dX2_readNumber_17 (by decide) rfl rfl ?_
        refine V_iinc_5 (q := 22) g dX2_readNumber_19 (by decide) rfl rfl ?_
        refine V_goto g dX2_readNumber_22 (tgt := 6) (by decide) ?_
        exact ih (n + 1) (by omega) (by omega)
  exact hloop (k + 1) 0 (Or.inl rfl) (by omega)
