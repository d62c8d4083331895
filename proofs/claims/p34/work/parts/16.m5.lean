theorem a_values (l : Launch) {D : DD} {Λ : LY} {M : MM} {o : Nat} {f : Int → Int} {j : Int} (hL : OffL D Λ o) (hO : Off M o f) (hj : 0 ≤ j ∧ j < 2) : CI l yX4_at cX4_at 2 .int rm_X4_at [.ref (o + 9), vi j] D Λ M (fun z M1 => z = f (10 + j) ∧ M = M1) := by
  rcases (by omega : j = 0 ∨ j = 1) with rfl | rfl
  · exact a_values0 l hL hO
  · exact a_values1 l hL hO
def fSet (f : Int → Int) (w v : Int) : Int → Int := up f (10 + w) v
/-- the best turn on a floor, as a number -/
def sKey (f : Int → Int) (c fl q : Int) : Int := 1000000 * sWob f c fl q + 10 * sLean f c fl q + q
def sBqN (f : Int → Int) (c fl : Int) : Nat → Int
  | 0 => 0
  | n + 1 => if sKey f c fl (n + 1) < sKey f c fl (sBqN f c fl n) then n + 1 else sBqN f c fl n
def sBq (f : Int → Int) (c fl : Int) : Int := sBqN f c fl 3
theorem sBqN_r (f : Int → Int) (c fl : Int) : ∀ n : Nat, 0 ≤ sBqN f c fl n ∧ sBqN f c fl n ≤ n := by
  intro n
  induction n with
  | zero => exact ⟨Int.le_refl 0, Int.le_refl 0⟩
  | succ n ih =>
    unfold sBqN
    split <;> omega
def sWq (f : Int → Int) (c fl : Int) : Int := sWob f c fl (sBq f c fl)
def sBfN (f : Int → Int) (c : Int) : Nat → Int
  | 0 => 0
  | n + 1 => if sWq f c (n + 1) < sWq f c (sBfN f c n) then n + 1 else sBfN f c n
theorem sBfN_r (f : Int → Int) (c : Int) : ∀ n : Nat, 0 ≤ sBfN f c n ∧ sBfN f c n ≤ n := by
  intro n
  induction n with
  | zero => exact ⟨Int.le_refl 0, Int.le_refl 0⟩
  | succ n ih =>
    unfold sBfN
    split <;> omega
def sBf (f : Int → Int) (c : Int) : Int := sBfN f c (f 1 - 1).toNat
/-- a leg sawn by the wobble -/
def sCut (f : Int → Int) (c k : Int) : Int → Int := up f (49 + 9 * c + k) (f (49 + 9 * c + k) - sWn f c)
def sBsN (f : Int → Int) (c : Int) : Nat → Int × Int
  | 0 => (-1, 0)
  | n + 1 => if (100 ≤ f (49 + 9 * c + n) - sWn f c ∧ sWn (sCut f c n) c = 0) ∧ ((sBsN f c n).1 = -1 ∨ sLn (sCut f c n) c < (sBsN f c n).2) then (n, sLn (sCut f c n) c) else sBsN f c n
def sBs (f : Int → Int) (c : Int) : Int := if sWn f c > 0 then (sBsN f c 4).1 else -1
theorem sBsN_r (f : Int → Int) (c : Int) : ∀ n : Nat, -1 ≤ (sBsN f c n).1 ∧ (sBsN f c n).1 < n := by
  intro n
  induction n with
  | zero => exact ⟨Int.le_refl (-1), by show (-1 : Int) < ((0 : Nat) : Int); decide⟩
  | succ n ih =>
    unfold sBsN
    split
    · exact ⟨by show -1 ≤ (n : Int); omega, by show (n : Int) < _; omega⟩
    · omega
abbrev rm_X1_changeSpot : Room := { frames := 3, cells := 0, slots := 0, locals := 65 }
set_option maxHeartbeats 4000000 in
set_option maxRecDepth 100000 in
theorem c_X1_changeSpot (l : Launch) {D : DD} {Λ : LY} {M : MM} {o : Nat} {f : Int → Int} {fl k v : Int} (hL : OffL D Λ o) (hO : Off M o f) (hI : Inv f) (hr1 : inR fl) (hr2 : inR k) (hr3 : inR v) : CI l yX1_changeSpot cX1_changeSpot 6 .int rm_X1_changeSpot [.ref o, vi fl, vi k, vi v] D Λ M (fun z M1 => (z = -2 ∧ ¬ ((0 ≤ fl ∧ fl < f 1) ∧ 0 ≤ k ∧ k < 4) ∧ M = M1) ∨ (z = -3 ∧ ((0 ≤ fl ∧ fl < f 1) ∧ 0 ≤ k ∧ k < 4) ∧ ¬ (0 ≤ v ∧ v ≤ 50) ∧ M = M1) ∨ (z = f (12 + (4 * fl + k)) ∧ ((0 ≤ fl ∧ fl < f 1) ∧ 0 ≤ k ∧ k < 4) ∧ (0 ≤ v ∧ v ≤ 50) ∧ 0 ≤ z ∧ Off M1 o (fLevel f fl k v) ∧ Oth M M1 o)) := by
  refine CI_of rfl rfl (Nat.le_of_ble_eq_true rfl) (fun Γ g r => ?_)
  have h0 := hI.1
  have h1 := hI.2.1
  have hT : Oth M M o := Oth.rf
  refine V_aload_n (q := 1) g dX1_changeSpot_0 rfl rfl ?_
  refine V_iload_n (q := 2) g dX1_changeSpot_1 rfl rfl ?_
  refine V_callVI_1 (q := 5) g (c_X1_hasFloor l hL hO hI (by omega)) dX1_changeSpot_2 k_X1_112 hL.1 rfl rfl rfl rfl ⟨rfl, rfl⟩ rfl (fun z1 M1 e1 => ?_)
  obtain ⟨e1, rfl⟩ := e1
  refine V_if_eq (q := 8) g dX1_changeSpot_5 (tgt := 17) (by decide) rfl (by omega) (fun h5 => ?_) (fun h5 => ?_)
  · refine V_bipush (q := 19) g dX1_changeSpot_17 (by decide) rfl ?_
    exact V_ireturn g r dX1_changeSpot_19 rfl (.inl ⟨rfl, by omega, rfl⟩)
  · refine V_iload_n (q := 9) g dX1_changeSpot_8 rfl rfl ?_
    refine V_iconst (q := 10) g dX1_changeSpot_9 rfl ?_
    refine V_iconst (q := 11) g dX1_changeSpot_10 rfl ?_
    refine V_callNI_3 (q := 14) g (c_X4_within l (by omega) (by omega) (by omega)) dX1_changeSpot_11 k_X1_104 rfl rfl ⟨rfl, rfl⟩ rfl (fun z2 M2 e2 => ?_)
    obtain ⟨e2, rfl⟩ := e2
    refine V_if_ne (q := 17) g dX1_changeSpot_14 (tgt := 20) (by decide) rfl (by omega) (fun h14 => ?_) (fun h14 => ?_)
    · refine V_aload_n (q := 21) g dX1_changeSpot_20 rfl rfl ?_
      refine V_iload_n (q := 22) g dX1_changeSpot_21 rfl rfl ?_
      refine V_callVI_1 (q := 25) g (c_X1_isSpot l (by omega)) dX1_changeSpot_22 k_X1_108 hL.1 rfl rfl rfl rfl ⟨rfl, rfl⟩ rfl (fun z3 M3 e3 => ?_)
      obtain ⟨e3, rfl⟩ := e3
      refine V_if_ne (q := 28) g dX1_changeSpot_25 (tgt := 31) (by decide) rfl (by omega) (fun h25 => ?_) (fun h25 => ?_)
      · refine V_aload_n (q := 32) g dX1_changeSpot_31 rfl rfl ?_
        refine V_iload_n (q := 33) g dX1_changeSpot_32 rfl rfl ?_
        refine V_iload_n (q := 34) g dX1_changeSpot_33 rfl rfl ?_
        refine V_callVI_2 (q := 37) g (c_X1_height l hL hO hI (by omega) (by omega)) dX1_changeSpot_34 k_X1_115 hL.1 rfl rfl rfl rfl ⟨rfl, rfl⟩ rfl (fun z4 M4 e4 => ?_)
        obtain ⟨⟨e4, b4⟩, rfl⟩ := e4
        refine V_istore_4 (q := 39) g dX1_changeSpot_37 (by decide) rfl rfl ?_
        refine V_aload_n (q := 40) g dX1_changeSpot_39 rfl rfl ?_
        refine V_getR (q := 43) g dX1_changeSpot_40 rfl f_X1_30 rfl hL.1 rfl ?_
        refine V_iload_n (q := 44) g dX1_changeSpot_43 rfl rfl ?_
        refine V_iconst (q := 45) g dX1_changeSpot_44 rfl ?_
        refine V_imul (q := 46) g dX1_changeSpot_45 rfl ?_
        refine V_iload_n (q := 47) g dX1_changeSpot_46 rfl rfl ?_
        refine V_iadd (q := 48) g dX1_changeSpot_47 rfl ?_
        refine V_iload_n (q := 49) g dX1_changeSpot_48 rfl rfl ?_
        refine V_callNV_3 (q := 52) g (p_heights l hL hO (by omega)) dX1_changeSpot_49 k_X1_56 rfl rfl ⟨rfl, rfl⟩ rfl (fun M5 e5 => ?_)
        obtain ⟨hO5, hT5⟩ := e5
        have hO := hO5
        have hT := hT.tr hT5
        have hO : Off M5 o (up f (12 + (4 * fl + k)) v) := by
          have q := hO
          rw [show fl * 4 + k = 4 * fl + k by omega] at q
          exact q
        have hIg : Inv (up f (12 + (4 * fl + k)) v) := Inv_spot hI (by omega) (by omega)
        refine V_iconst (q := 53) g dX1_changeSpot_52 rfl ?_
        refine V_istore_5 (q := 55) g dX1_changeSpot_53 (by decide) rfl rfl ?_
        rw [e4]
        have hloop : ∀ (k9 : Nat) (n : Nat) (Mx : MM), (n : Int) ≤ f 0 → f 0 - n ≤ k9 → (n ≠ 0 → v ≠ f (12 + (4 * fl + k))) → Off Mx o (fLvlN (up f (12 + (4 * fl + k)) v) fl n) → Oth M Mx o → V Γ D Λ Mx (0, 0) 55 [some (.ref o), some (vi fl), some (vi k), some (vi v), some (vi (f (12 + (4 * fl + k)))), some (vi (n : Int))] [] := by
          intro k9
          induction k9 with
          | zero =>
            intro n Mx h2 h3 h4 hO hTx
            obtain ⟨j1, j2⟩ := lvlN (fl := fl) hIg n
            have e0 : fLvlN (up f (12 + (4 * fl + k)) v) fl n 0 = f 0 := by rw [j2 0 (by decide) (fun c9 a9 b9 => by omega), up_ne (by omega)]
            have e01 : fLvlN (up f (12 + (4 * fl + k)) v) fl n 1 = f 1 := by rw [j2 1 (by decide) (fun c9 a9 b9 => by omega), up_ne (by omega)]
            refine V_iload (q := 57) g dX1_changeSpot_55 rfl rfl ?_
            refine V_aload_n (q := 58) g dX1_changeSpot_57 rfl rfl ?_
            refine V_getI (q := 61) g dX1_changeSpot_58 rfl f_X1_45 rfl hL.1 rfl (j := 0) rfl ?_
            rw [hO.1, e0]
            refine V_icmp_ge (q := 64) g dX1_changeSpot_61 (tgt := 96) (by decide) rfl (by omega) (by omega) (fun h61 => ?_) (fun h61 => absurd h61 (by omega))
            have hfin : Off Mx o (fLevel f fl k v) := by
              unfold fLevel
              split
              · rename_i e9
                have hn : n = 0 := Classical.byContradiction fun q9 => h4 q9 e9
                subst hn; exact hO
              · have hn : n = (f 0).toNat := by omega
                subst hn; exact hO
            refine V_iload (q := 98) g dX1_changeSpot_96 rfl rfl ?_
            exact V_ireturn g r dX1_changeSpot_98 rfl (.inr (.inr ⟨rfl, by omega, by omega, by omega, hfin, hTx⟩))
          | succ k9 ih =>
            intro n Mx h2 h3 h4 hO hTx
            obtain ⟨j1, j2⟩ := lvlN (fl := fl) hIg n
            have e0 : fLvlN (up f (12 + (4 * fl + k)) v) fl n 0 = f 0 := by rw [j2 0 (by decide) (fun c9 a9 b9 => by omega), up_ne (by omega)]
            have e01 : fLvlN (up f (12 + (4 * fl + k)) v) fl n 1 = f 1 := by rw [j2 1 (by decide) (fun c9 a9 b9 => by omega), up_ne (by omega)]
            refine V_iload (q := 57) g dX1_changeSpot_55 rfl rfl ?_
            refine V_aload_n (q := 58) g dX1_changeSpot_57 rfl rfl ?_
            refine V_getI (q := 61) g dX1_changeSpot_58 rfl f_X1_45 rfl hL.1 rfl (j := 0) rfl ?_
            rw [hO.1, e0]
            refine V_icmp_ge (q := 64) g dX1_changeSpot_61 (tgt := 96) (by decide) rfl (by omega) (by omega) (fun h61 => ?_) (fun h61 => ?_)
            · have hfin : Off Mx o (fLevel f fl k v) := by
                unfold fLevel
                split
                · rename_i e9
                  have hn : n = 0 := Classical.byContradiction fun q9 => h4 q9 e9
                  subst hn; exact hO
                · have hn : n = (f 0).toNat := by omega
                  subst hn; exact hO
              refine V_iload (q := 98) g dX1_changeSpot_96 rfl rfl ?_
              exact V_ireturn g r dX1_changeSpot_98 rfl (.inr (.inr ⟨rfl, by omega, by omega, by omega, hfin, hTx⟩))
            · refine V_iload (q := 66) g dX1_changeSpot_64 rfl rfl ?_
              refine V_iload_n (q := 67) g dX1_changeSpot_66 rfl rfl ?_
              refine V_icmp_eq (q := 70) g dX1_changeSpot_67 (tgt := 96) (by decide) rfl (by omega) (by omega) (fun h67 => ?_) (fun h67 => ?_)
              · have hfin : Off Mx o (fLevel f fl k v) := by
                  unfold fLevel
                  rw [if_pos (by omega)]
                  have hn : n = 0 := Classical.byContradiction fun q9 => h4 q9 (by omega)
                  subst hn; exact hO
                refine V_iload (q := 98) g dX1_changeSpot_96 rfl rfl ?_
                exact V_ireturn g r dX1_changeSpot_98 rfl (.inr (.inr ⟨rfl, by omega, by omega, by omega, hfin, hTx⟩))
              · refine V_aload_n (q := 71) g dX1_changeSpot_70 rfl rfl ?_
                refine V_getR (q := 74) g dX1_changeSpot_71 rfl f_X1_15 rfl hL.1 rfl ?_
                refine V_iload (q := 76) g dX1_changeSpot_74 rfl rfl ?_
                refine V_callNI_2 (q := 79) g (a_floorsUnder l hL hO j1 (by omega)) dX1_changeSpot_76 k_X1_64 rfl rfl ⟨rfl, rfl⟩ rfl (fun z6 M6 e6 => ?_)
                obtain ⟨⟨e6, b6⟩, rfl⟩ := e6
                refine V_iload_n (q := 80) g dX1_changeSpot_79 rfl rfl ?_
                refine V_icmp_ne (q := 83) g dX1_changeSpot_80 (tgt := 90) (by decide) rfl (by omega) (by omega) (fun h80 => ?_) (fun h80 => ?_)
                · have hx : fLvlN (up f (12 + (4 * fl + k)) v) fl (n + 1) = fLvlN (up f (12 + (4 * fl + k)) v) fl n := by rw [fLvlN, if_neg (by omega)]
                  have hM : Off Mx o (fLvlN (up f (12 + (4 * fl + k)) v) fl (n + 1)) := by rw [hx]; exact hO
                  have hTn := hTx
                  refine V_iinc_5 (q := 93) g dX1_changeSpot_90 (by decide) rfl rfl ?_
                  refine V_goto g dX1_changeSpot_93 (tgt := 55) (by decide) ?_
                  exact ih (n + 1) _ (by omega) (by omega) (fun _ => by omega) hM hTn
                · refine V_aload_n (q := 84) g dX1_changeSpot_83 rfl rfl ?_
                  refine V_iload (q := 86) g dX1_changeSpot_84 rfl rfl ?_
                  refine V_callVI_1 (q := 89) g (c_X1_voidStamp l hL hO j1 (by omega)) dX1_changeSpot_86 k_X1_118 hL.1 rfl rfl rfl rfl ⟨rfl, rfl⟩ rfl (fun z7 M7 e7 => ?_)
                  obtain ⟨e7, hO7, hT7⟩ := e7
                  have hx : fLvlN (up f (12 + (4 * fl + k)) v) fl (n + 1) = fVoid (fLvlN (up f (12 + (4 * fl + k)) v) fl n) n := by rw [fLvlN, if_pos (by omega)]
                  have hM : Off M7 o (fLvlN (up f (12 + (4 * fl + k)) v) fl (n + 1)) := by rw [hx]; exact hO7
                  have hTn := hTx.tr hT7
                  refine V_pop (q := 90) g dX1_changeSpot_89 rfl rfl ?_
                  refine V_iinc_5 (q := 93) g dX1_changeSpot_90 (by decide) rfl rfl ?_
                  refine V_goto g dX1_changeSpot_93 (tgt := 55) (by decide) ?_
                  exact ih (n + 1) _ (by omega) (by omega) (fun _ => by omega) hM hTn
        exact hloop (f 0).toNat 0 M5 (by omega) (by omega) (fun q9 => absurd rfl q9) hO hT
      · refine V_bipush (q := 30) g dX1_changeSpot_28 (by decide) rfl ?_
        exact V_ireturn g r dX1_changeSpot_30 rfl (.inr (.inl ⟨rfl, by omega, by omega, rfl⟩))
    · refine V_bipush (q := 19) g dX1_changeSpot_17 (by decide) rfl ?_
      exact V_ireturn g r dX1_changeSpot_19 rfl (.inl ⟨rfl, by omega, rfl⟩)
abbrev rm_X1_changeBound : Room := { frames := 4, cells := 0, slots := 0, locals := 97 }
set_option maxHeartbeats 4000000 in
set_option maxRecDepth 100000 in
theorem c_X1_changeBound (l : Launch) {D : DD} {Λ : LY} {M : MM} {o : Nat} {f : Int → Int} {gu k v : Int} (hL : OffL D Λ o) (hO : Off M o f) (hI : Inv f) (hr1 : inR gu) (hr2 : inR k) (hr3 : inR v) : CI l yX1_changeBound cX1_changeBound 6 .int rm_X1_changeBound [.ref o, vi gu, vi k, vi v] D Λ M (fun z M1 => (z = -2 ∧ ¬ ((0 ≤ gu ∧ gu < 4) ∧ 0 ≤ k ∧ k < 4) ∧ M = M1) ∨ (z = -3 ∧ ((0 ≤ gu ∧ gu < 4) ∧ 0 ≤ k ∧ k < 4) ∧ ¬ (k < 2 ∧ 100 ≤ v ∧ v ≤ 900 ∨ k = 2 ∧ 0 ≤ v ∧ v ≤ 100 ∨ k = 3 ∧ 0 ≤ v ∧ v ≤ 200) ∧ M = M1) ∨ (z = fBound f gu k v 4 - f 4 ∧ ((0 ≤ gu ∧ gu < 4) ∧ 0 ≤ k ∧ k < 4) ∧ (k < 2 ∧ 100 ≤ v ∧ v ≤ 900 ∨ k = 2 ∧ 0 ≤ v ∧ v ≤ 100 ∨ k = 3 ∧ 0 ≤ v ∧ v ≤ 200) ∧ 0 ≤ z ∧ Off M1 o (fBound f gu k v) ∧ Oth M M1 o)) := by
  refine CI_of rfl rfl (Nat.le_of_ble_eq_true rfl) (fun Γ g r => ?_)
  have h0 := hI.1
  have h1 := hI.2.1
  have hT : Oth M M o := Oth.rf
  refine V_iload_n (q := 1) g dX1_changeBound_0 rfl rfl ?_
  refine V_iconst (q := 2) g dX1_changeBound_1 rfl ?_
  refine V_iconst (q := 3) g dX1_changeBound_2 rfl ?_
  refine V_callNI_3 (q := 6) g (c_X4_within l (by omega) (by omega) (by omega)) dX1_changeBound_3 k_X1_104 rfl rfl ⟨rfl, rfl⟩ rfl (fun z1 M1 e1 => ?_)
  obtain ⟨e1, rfl⟩ := e1
  refine V_if_eq (q := 9) g dX1_changeBound_6 (tgt := 18) (by decide) rfl (by omega) (fun h6 => ?_) (fun h6 => ?_)
  · refine V_bipush (q := 20) g dX1_changeBound_18 (by decide) rfl ?_
    exact V_ireturn g r dX1_changeBound_20 rfl (.inl ⟨rfl, by omega, rfl⟩)
  · refine V_iload_n (q := 10) g dX1_changeBound_9 rfl rfl ?_
    refine V_iconst (q := 11) g dX1_changeBound_10 rfl ?_
    refine V_iconst (q := 12) g dX1_changeBound_11 rfl ?_
    refine V_callNI_3 (q := 15) g (c_X4_within l (by omega) (by omega) (by omega)) dX1_changeBound_12 k_X1_104 rfl rfl ⟨rfl, rfl⟩ rfl (fun z2 M2 e2 => ?_)
    obtain ⟨e2, rfl⟩ := e2
    refine V_if_ne (q := 18) g dX1_changeBound_15 (tgt := 21) (by decide) rfl (by omega) (fun h15 => ?_) (fun h15 => ?_)
    · refine V_aload_n (q := 22) g dX1_changeBound_21 rfl rfl ?_
      refine V_iload_n (q := 23) g dX1_changeBound_22 rfl rfl ?_
      refine V_iload_n (q := 24) g dX1_changeBound_23 rfl rfl ?_
      refine V_callVI_2 (q := 27) g (c_X1_isBound l (by omega) (by omega)) dX1_changeBound_24 k_X1_140 hL.1 rfl rfl rfl rfl ⟨rfl, rfl⟩ rfl (fun z3 M3 e3 => ?_)
      obtain ⟨e3, rfl⟩ := e3
      refine V_if_ne (q := 30) g dX1_changeBound_27 (tgt := 33) (by decide) rfl (by omega) (fun h27 => ?_) (fun h27 => ?_)
      · refine V_aload_n (q := 34) g dX1_changeBound_33 rfl rfl ?_
        refine V_getR (q := 37) g dX1_changeBound_34 rfl f_X1_33 rfl hL.1 rfl ?_
        refine V_iload_n (q := 38) g dX1_changeBound_37 rfl rfl ?_
        refine V_iconst (q := 39) g dX1_changeBound_38 rfl ?_
        refine V_imul (q := 40) g dX1_changeBound_39 rfl ?_
        refine V_iload_n (q := 41) g dX1_changeBound_40 rfl rfl ?_
        refine V_iadd (q := 42) g dX1_changeBound_41 rfl ?_
        refine V_iload_n (q := 43) g dX1_changeBound_42 rfl rfl ?_
        refine V_callNV_3 (q := 46) g (p_limits l hL hO (by omega)) dX1_changeBound_43 k_X1_56 rfl rfl ⟨rfl, rfl⟩ rfl (fun M4 e4 => ?_)
        obtain ⟨hO4, hT4⟩ := e4
        have hO := hO4
        have hT := hT.tr hT4
        have hO : Off M4 o (up f (28 + (4 * gu + k)) v) := by
          have q := hO
          rw [show gu * 4 + k = 4 * gu + k by omega] at q
          exact q
        have hIg : Inv (up f (28 + (4 * gu + k)) v) := Inv_lim hI (by omega) (by omega) ⟨fun _ => by omega, fun _ => by omega, fun _ => by omega⟩
        refine V_iconst (q := 47) g dX1_changeBound_46 rfl ?_
        refine V_istore_4 (q := 49) g dX1_changeBound_47 (by decide) rfl rfl ?_
        refine V_iconst (q := 50) g dX1_changeBound_49 rfl ?_
        refine V_istore_5 (q := 52) g dX1_changeBound_50 (by decide) rfl rfl ?_
        have hloop : ∀ (k9 : Nat) (n : Nat) (vo : Int) (Mx : MM), (n : Int) ≤ f 0 → f 0 - n ≤ k9 → vo = fBndN (up f (28 + (4 * gu + k)) v) gu n 4 - f 4 → (0 ≤ vo ∧ vo ≤ n) → Off Mx o (fBndN (up f (28 + (4 * gu + k)) v) gu n) → Oth M Mx o → V Γ D Λ Mx (0, 0) 52 [some (.ref o), some (vi gu), some (vi k), some (vi v), some (vi vo), some (vi (n : Int))] [] := by
          intro k9
          induction k9 with
          | zero =>
            intro n vo Mx h2 h3 h4 h5 hO hTx
            obtain ⟨j1, j2⟩ := bndN (gu := gu) hIg n
            have e0 : fBndN (up f (28 + (4 * gu + k)) v) gu n 0 = f 0 := by rw [j2 0 (by decide) (fun c9 a9 b9 => by omega), up_ne (by omega)]
            refine V_iload (q := 54) g dX1_changeBound_52 rfl rfl ?_
            refine V_aload_n (q := 55) g dX1_changeBound_54 rfl rfl ?_
            refine V_getI (q := 58) g dX1_changeBound_55 rfl f_X1_45 rfl hL.1 rfl (j := 0) rfl ?_
            rw [hO.1, e0]
            refine V_icmp_ge (q := 61) g dX1_changeBound_58 (tgt := 100) (by decide) rfl (by omega) (by omega) (fun h58 => ?_) (fun h58 => absurd h58 (by omega))
            have hn : n = (f 0).toNat := by omega
            subst hn
            refine V_iload (q := 102) g dX1_changeBound_100 rfl rfl ?_
            exact V_ireturn g r dX1_changeBound_102 rfl (.inr (.inr ⟨h4, by omega, by omega, by omega, hO, hTx⟩))
          | succ k9 ih =>
            intro n vo Mx h2 h3 h4 h5 hO hTx
            obtain ⟨j1, j2⟩ := bndN (gu := gu) hIg n
            have e0 : fBndN (up f (28 + (4 * gu + k)) v) gu n 0 = f 0 := by rw [j2 0 (by decide) (fun c9 a9 b9 => by omega), up_ne (by omega)]
            refine V_iload (q := 54) g dX1_changeBound_52 rfl rfl ?_
            refine V_aload_n (q := 55) g dX1_changeBound_54 rfl rfl ?_
            refine V_getI (q := 58) g dX1_changeBound_55 rfl f_X1_45 rfl hL.1 rfl (j := 0) rfl ?_
            rw [hO.1, e0]
            refine V_icmp_ge (q := 61) g dX1_changeBound_58 (tgt := 100) (by decide) rfl (by omega) (by omega) (fun h58 => ?_) (fun h58 => ?_)
            · have hn : n = (f 0).toNat := by omega
              subst hn
              refine V_iload (q := 102) g dX1_changeBound_100 rfl rfl ?_
              exact V_ireturn g r dX1_changeBound_102 rfl (.inr (.inr ⟨h4, by omega, by omega, by omega, hO, hTx⟩))
            · refine V_aload_n (q := 62) g dX1_changeBound_61 rfl rfl ?_
              refine V_getR (q := 65) g dX1_changeBound_62 rfl f_X1_9 rfl hL.1 rfl ?_
              refine V_iload (q := 67) g dX1_changeBound_65 rfl rfl ?_
              refine V_callNI_2 (q := 70) g (a_guilds l hL hO j1 (by omega)) dX1_changeBound_67 k_X1_64 rfl rfl ⟨rfl, rfl⟩ rfl (fun z5 M5 e5 => ?_)
              obtain ⟨⟨e5, b5⟩, rfl⟩ := e5
              refine V_iload_n (q := 71) g dX1_changeBound_70 rfl rfl ?_
              refine V_icmp_ne (q := 74) g dX1_changeBound_71 (tgt := 94) (by decide) rfl (by omega) (by omega) (fun h71 => ?_) (fun h71 => ?_)
              · have hx : fBndN (up f (28 + (4 * gu + k)) v) gu (n + 1) = fBndN (up f (28 + (4 * gu + k)) v) gu n := by rw [fBndN, if_neg (by omega)]
                have hM : Off Mx o (fBndN (up f (28 + (4 * gu + k)) v) gu (n + 1)) := by rw [hx]; exact hO
                have hTn := hTx
                have hvo : vo = fBndN (up f (28 + (4 * gu + k)) v) gu (n + 1) 4 - f 4 := by rw [hx]; exact h4
                refine V_iinc_5 (q := 97) g dX1_changeBound_94 (by decide) rfl rfl ?_
                refine V_goto g dX1_changeBound_97 (tgt := 52) (by decide) ?_
                exact ih (n + 1) _ _ (by omega) (by omega) hvo (by omega) hM hTn
              · refine V_aload_n (q := 75) g dX1_changeBound_74 rfl rfl ?_
                refine V_iload (q := 77) g dX1_changeBound_75 rfl rfl ?_
                refine V_callVI_1 (q := 80) g (c_X1_reason l hL hO j1 (by omega)) dX1_changeBound_77 k_X1_128 hL.1 rfl rfl rfl rfl ⟨rfl, rfl⟩ rfl (fun z6 M6 e6 => ?_)
                obtain ⟨⟨e6, b6⟩, rfl⟩ := e6
                refine V_if_eq (q := 83) g dX1_changeBound_80 (tgt := 94) (by decide) rfl (by omega) (fun h80 => ?_) (fun h80 => ?_)
                · have hx : fBndN (up f (28 + (4 * gu + k)) v) gu (n + 1) = fBndN (up f (28 + (4 * gu + k)) v) gu n := by rw [fBndN, if_neg (by omega)]
                  have hM : Off Mx o (fBndN (up f (28 + (4 * gu + k)) v) gu (n + 1)) := by rw [hx]; exact hO
                  have hTn := hTx
                  have hvo : vo = fBndN (up f (28 + (4 * gu + k)) v) gu (n + 1) 4 - f 4 := by rw [hx]; exact h4
                  refine V_iinc_5 (q := 97) g dX1_changeBound_94 (by decide) rfl rfl ?_
                  refine V_goto g dX1_changeBound_97 (tgt := 52) (by decide) ?_
                  exact ih (n + 1) _ _ (by omega) (by omega) hvo (by omega) hM hTn
                · refine V_iload (q := 85) g dX1_changeBound_83 rfl rfl ?_
                  refine V_aload_n (q := 86) g dX1_changeBound_85 rfl rfl ?_
                  refine V_iload (q := 88) g dX1_changeBound_86 rfl rfl ?_
                  refine V_callVI_1 (q := 91) g (c_X1_voidStamp l hL hO j1 (by omega)) dX1_changeBound_88 k_X1_118 hL.1 rfl rfl rfl rfl ⟨rfl, rfl⟩ rfl (fun z7 M7 e7 => ?_)
                  obtain ⟨e7, hO7, hT7⟩ := e7
                  have hx : fBndN (up f (28 + (4 * gu + k)) v) gu (n + 1) = fVoid (fBndN (up f (28 + (4 * gu + k)) v) gu n) n := by rw [fBndN, if_pos (by omega)]
                  have hM : Off M7 o (fBndN (up f (28 + (4 * gu + k)) v) gu (n + 1)) := by rw [hx]; exact hO7
                  have hTn := hTx.tr hT7
                  have hst := (j1.2.2.2.2.2.2 n (by omega) (by omega)).2.2.2.1
                  have hvo : vo + z7 = fBndN (up f (28 + (4 * gu + k)) v) gu (n + 1) 4 - f 4 := by
                    rw [hx]
                    unfold fVoid
                    rw [up_ne (by omega), up_eq]
                    omega
                  refine V_iadd (q := 92) g dX1_changeBound_91 rfl ?_
                  refine V_istore_4 (q := 94) g dX1_changeBound_92 (by decide) rfl rfl ?_
                  refine V_iinc_5 (q := 97) g dX1_changeBound_94 (by decide) rfl rfl ?_
                  refine V_goto g dX1_changeBound_97 (tgt := 52) (by decide) ?_
                  exact ih (n + 1) _ _ (by omega) (by omega) hvo (by omega) hM hTn
        exact hloop (f 0).toNat 0 0 M4 (by omega) (by omega) (by show (0 : Int) = up f _ v 4 - f 4; rw [up_ne (by omega)]; omega) (by omega) hO hT
      · refine V_bipush (q := 32) g dX1_changeBound_30 (by decide) rfl ?_
        exact V_ireturn g r dX1_changeBound_32 rfl (.inr (.inl ⟨rfl, by omega, by omega, rfl⟩))
    · refine V_bipush (q := 20) g dX1_changeBound_18 (by decide) rfl ?_
      exact V_ireturn g r dX1_changeBound_20 rfl (.inl ⟨rfl, by omega, rfl⟩)
abbrev rm_X1_addChair : Room := { frames := 1, cells := 0, slots := 0, locals := 22 }
set_option maxHeartbeats 4000000 in
set_option maxRecDepth 100000 in
theorem c_X1_addChair (l : Launch) {D : DD} {Λ : LY} {M : MM} {o : Nat} {f : Int → Int} {gu len : Int} (hL : OffL D Λ o) (hO : Off M o f) (hI : Inv f) (hr1 : inR gu) (hr2 : inR len) : CI l yX1_addChair cX1_addChair 5 .int rm_X1_addChair [.ref o, vi gu, vi len] D Λ M (fun z M1 => (z = -2 ∧ ¬ (0 ≤ gu ∧ gu < 4) ∧ M = M1) ∨ (z = -3 ∧ (0 ≤ gu ∧ gu < 4) ∧ ¬ (100 ≤ len ∧ len ≤ 900) ∧ M = M1) ∨ (z = -4 ∧ (0 ≤ gu ∧ gu < 4) ∧ (100 ≤ len ∧ len ≤ 900) ∧ 10 ≤ f 0 ∧ M = M1) ∨ (z = f 0 ∧ (0 ≤ gu ∧ gu < 4) ∧ (100 ≤ len ∧ len ≤ 900) ∧ (0 ≤ z ∧ z < 10) ∧ Off M1 o (fChair f gu len) ∧ Oth M M1 o)) := by
  refine CI_of rfl rfl (Nat.le_of_ble_eq_true rfl) (fun Γ g r => ?_)
  have h0 := hI.1
  have h1 := hI.2.1
  refine V_iload_n (q := 1) g dX1_addChair_0 rfl rfl ?_
  refine V_iconst (q := 2) g dX1_addChair_1 rfl ?_
  refine V_iconst (q := 3) g dX1_addChair_2 rfl ?_
  refine V_callNI_3 (q := 6) g (c_X4_within l (by omega) (by omega) (by omega)) dX1_addChair_3 k_X1_104 rfl rfl ⟨rfl, rfl⟩ rfl (fun z1 M1 e1 => ?_)
  obtain ⟨e1, rfl⟩ := e1
  refine V_if_ne (q := 9) g dX1_addChair_6 (tgt := 12) (by decide) rfl (by omega) (fun h6 => ?_) (fun h6 => ?_)
  · refine V_iload_n (q := 13) g dX1_addChair_12 rfl rfl ?_
    refine V_bipush (q := 15) g dX1_addChair_13 (by decide) rfl ?_
    refine V_sipush (q := 18) g dX1_addChair_15 (by decide) rfl ?_
    refine V_callNI_3 (q := 21) g (c_X4_within l (by omega) (by omega) (by omega)) dX1_addChair_18 k_X1_104 rfl rfl ⟨rfl, rfl⟩ rfl (fun z2 M2 e2 => ?_)
    obtain ⟨e2, rfl⟩ := e2
    refine V_if_ne (q := 24) g dX1_addChair_21 (tgt := 27) (by decide) rfl (by omega) (fun h21 => ?_) (fun h21 => ?_)
    · refine V_aload_n (q := 28) g dX1_addChair_27 rfl rfl ?_
      refine V_getI (q := 31) g dX1_addChair_28 rfl f_X1_45 rfl hL.1 rfl (j := 0) rfl ?_
      rw [hO.1]
      refine V_bipush (q := 33) g dX1_addChair_31 (by decide) rfl ?_
      refine V_icmp_lt (q := 36) g dX1_addChair_33 (tgt := 39) (by decide) rfl (by omega) (by omega) (fun h33 => ?_) (fun h33 => ?_)
      · refine V_aload_n (q := 40) g dX1_addChair_39 rfl rfl ?_
        refine V_getI (q := 43) g dX1_addChair_40 rfl f_X1_45 rfl hL.1 rfl (j := 0) rfl ?_
        rw [hO.1]
        refine V_istore_n_3 (q := 44) g dX1_addChair_43 (by decide) rfl rfl ?_
        refine V_aload_n (q := 45) g dX1_addChair_44 rfl rfl ?_
        refine V_dup (q := 46) g dX1_addChair_45 rfl rfl ?_
        refine V_getI (q := 49) g dX1_addChair_46 rfl f_X1_45 rfl hL.1 rfl (j := 0) rfl ?_
        rw [hO.1]
        refine V_iconst (q := 50) g dX1_addChair_49 rfl ?_
        refine V_iadd (q := 51) g dX1_addChair_50 rfl ?_
        refine V_putI (q := 54) g dX1_addChair_51 rfl f_X1_45 tyX1_ok nmX1 rfl hL.1 rfl rfl (ty := .int) rfl rfl rfl (j := 0) rfl ?_
        refine V_aload_n (q := 55) g dX1_addChair_54 rfl rfl ?_
        refine V_getR (q := 58) g dX1_addChair_55 rfl f_X1_9 rfl hL.1 rfl ?_
        refine V_iload_n (q := 59) g dX1_addChair_58 rfl rfl ?_
        refine V_iload_n (q := 60) g dX1_addChair_59 rfl rfl ?_
        refine V_callNV_3 (q := 63) g (c_X4_put l hL.2.1 (by decide) (by omega)) dX1_addChair_60 k_X1_56 rfl rfl ⟨rfl, rfl⟩ rfl (fun M3 e3 => ?_)
        obtain rfl := e3
        refine V_aload_n (q := 64) g dX1_addChair_63 rfl rfl ?_
        refine V_getR (q := 67) g dX1_addChair_64 rfl f_X1_15 rfl hL.1 rfl ?_
        refine V_iload_n (q := 68) g dX1_addChair_67 rfl rfl ?_
        refine V_iconst (q := 69) g dX1_addChair_68 rfl ?_
        refine V_callNV_3 (q := 72) g (c_X4_put l hL.2.2.1 (by decide) (by omega)) dX1_addChair_69 k_X1_56 rfl rfl ⟨rfl, rfl⟩ rfl (fun M4 e4 => ?_)
        obtain rfl := e4
        refine V_aload_n (q := 73) g dX1_addChair_72 rfl rfl ?_
        refine V_getR (q := 76) g dX1_addChair_73 rfl f_X1_18 rfl hL.1 rfl ?_
        refine V_iload_n (q := 77) g dX1_addChair_76 rfl rfl ?_
        refine V_iconst (q := 78) g dX1_addChair_77 rfl ?_
        refine V_callNV_3 (q := 81) g (c_X4_put l hL.2.2.2.1 (by decide) (by omega)) dX1_addChair_78 k_X1_56 rfl rfl ⟨rfl, rfl⟩ rfl (fun M5 e5 => ?_)
        obtain rfl := e5
        refine V_aload_n (q := 82) g dX1_addChair_81 rfl rfl ?_
        refine V_getR (q := 85) g dX1_addChair_82 rfl f_X1_21 rfl hL.1 rfl ?_
        refine V_iload_n (q := 86) g dX1_addChair_85 rfl rfl ?_
        refine V_iconst (q := 87) g dX1_addChair_86 rfl ?_
        refine V_callNV_3 (q := 90) g (c_X4_put l hL.2.2.2.2.1 (by decide) (by omega)) dX1_addChair_87 k_X1_56 rfl rfl ⟨rfl, rfl⟩ rfl (fun M6 e6 => ?_)
        obtain rfl := e6
        refine V_aload_n (q := 91) g dX1_addChair_90 rfl rfl ?_
        refine V_getR (q := 94) g dX1_addChair_91 rfl f_X1_24 rfl hL.1 rfl ?_
        refine V_iload_n (q := 95) g dX1_addChair_94 rfl rfl ?_
        refine V_iconst (q := 96) g dX1_addChair_95 rfl ?_
        refine V_callNV_3 (q := 99) g (c_X4_put l hL.2.2.2.2.2.1 (by decide) (by omega)) dX1_addChair_96 k_X1_56 rfl rfl ⟨rfl, rfl⟩ rfl (fun M7 e7 => ?_)
        obtain rfl := e7
        refine V_iconst (q := 100) g dX1_addChair_99 rfl ?_
        refine V_istore_4 (q := 102) g dX1_addChair_100 (by decide) rfl rfl ?_
        refine V_iload (q := 104) g dX1_addChair_102 rfl rfl ?_
        refine V_iconst (q := 105) g dX1_addChair_104 rfl ?_
        refine V_icmp_ge (q := 108) g dX1_addChair_105 (tgt := 128) (by decide) rfl (by omega) (by omega) (fun h105 => absurd h105 (by omega)) (fun h105 => ?_)
        refine V_aload_n (q := 109) g dX1_addChair_108 rfl rfl ?_
        refine V_getR (q := 112) g dX1_addChair_109 rfl f_X1_27 rfl hL.1 rfl ?_
        refine V_iload_n (q := 113) g dX1_addChair_112 rfl rfl ?_
        refine V_iconst (q := 114) g dX1_addChair_113 rfl ?_
        refine V_imul (q := 115) g dX1_addChair_114 rfl ?_
        refine V_iload (q := 117) g dX1_addChair_115 rfl rfl ?_
        refine V_iadd (q := 118) g dX1_addChair_117 rfl ?_
        refine V_iload_n (q := 119) g dX1_addChair_118 rfl rfl ?_
        refine V_callNV_3 (q := 122) g (c_X4_put l hL.2.2.2.2.2.2.1 (by decide) (by omega)) dX1_addChair_119 k_X1_56 rfl rfl ⟨rfl, rfl⟩ rfl (fun M8 e8 => ?_)
        obtain rfl := e8
        refine V_iinc_4 (q := 125) g dX1_addChair_122 (by decide) rfl rfl ?_
        simp only [Int.reduceAdd]
        refine V_goto g dX1_addChair_125 (tgt := 102) (by decide) ?_
        refine V_iload (q := 104) g dX1_addChair_102 rfl rfl ?_
        refine V_iconst (q := 105) g dX1_addChair_104 rfl ?_
        refine V_icmp_ge (q := 108) g dX1_addChair_105 (tgt := 128) (by decide) rfl (by omega) (by omega) (fun h105 => absurd h105 (by omega)) (fun h105 => ?_)
        refine V_aload_n (q := 109) g dX1_addChair_108 rfl rfl ?_
        refine V_getR (q := 112) g dX1_addChair_109 rfl f_X1_27 rfl hL.1 rfl ?_
        refine V_iload_n (q := 113) g dX1_addChair_112 rfl rfl ?_
        refine V_iconst (q := 114) g dX1_addChair_113 rfl ?_
        refine V_imul (q := 115) g dX1_addChair_114 rfl ?_
        refine V_iload (q := 117) g dX1_addChair_115 rfl rfl ?_
        refine V_iadd (q := 118) g dX1_addChair_117 rfl ?_
        refine V_iload_n (q := 119) g dX1_addChair_118 rfl rfl ?_
        refine V_callNV_3 (q := 122) g (c_X4_put l hL.2.2.2.2.2.2.1 (by decide) (by omega)) dX1_addChair_119 k_X1_56 rfl rfl ⟨rfl, rfl⟩ rfl (fun M9 e9 => ?_)
        obtain rfl := e9
        refine V_iinc_4 (q := 125) g dX1_addChair_122 (by decide) rfl rfl ?_
        simp only [Int.reduceAdd]
        refine V_goto g dX1_addChair_125 (tgt := 102) (by decide) ?_
        refine V_iload (q := 104) g dX1_addChair_102 rfl rfl ?_
        refine V_iconst (q := 105) g dX1_addChair_104 rfl ?_
        refine V_icmp_ge (q := 108) g dX1_addChair_105 (tgt := 128) (by decide) rfl (by omega) (by omega) (fun h105 => absurd h105 (by omega)) (fun h105 => ?_)
        refine V_aload_n (q := 109) g dX1_addChair_108 rfl rfl ?_
        refine V_getR (q := 112) g dX1_addChair_109 rfl f_X1_27 rfl hL.1 rfl ?_
        refine V_iload_n (q := 113) g dX1_addChair_112 rfl rfl ?_
        refine V_iconst (q := 114) g dX1_addChair_113 rfl ?_
        refine V_imul (q := 115) g dX1_addChair_114 rfl ?_
        refine V_iload (q := 117) g dX1_addChair_115 rfl rfl ?_
        refine V_iadd (q := 118) g dX1_addChair_117 rfl ?_
        refine V_iload_n (q := 119) g dX1_addChair_118 rfl rfl ?_
        refine V_callNV_3 (q := 122) g (c_X4_put l hL.2.2.2.2.2.2.1 (by decide) (by omega)) dX1_addChair_119 k_X1_56 rfl rfl ⟨rfl, rfl⟩ rfl (fun M10 e10 => ?_)
        obtain rfl := e10
        refine V_iinc_4 (q := 125) g dX1_addChair_122 (by decide) rfl rfl ?_
        simp only [Int.reduceAdd]
        refine V_goto g dX1_addChair_125 (tgt := 102) (by decide) ?_
        refine V_iload (q := 104) g dX1_addChair_102 rfl rfl ?_
        refine V_iconst (q := 105) g dX1_addChair_104 rfl ?_
        refine V_icmp_ge (q := 108) g dX1_addChair_105 (tgt := 128) (by decide) rfl (by omega) (by omega) (fun h105 => absurd h105 (by omega)) (fun h105 => ?_)
        refine V_aload_n (q := 109) g dX1_addChair_108 rfl rfl ?_
        refine V_getR (q := 112) g dX1_addChair_109 rfl f_X1_27 rfl hL.1 rfl ?_
        refine V_iload_n (q := 113) g dX1_addChair_112 rfl rfl ?_
        refine V_iconst (q := 114) g dX1_addChair_113 rfl ?_
        refine V_imul (q := 115) g dX1_addChair_114 rfl ?_
        refine V_iload (q := 117) g dX1_addChair_115 rfl rfl ?_
        refine V_iadd (q := 118) g dX1_addChair_117 rfl ?_
        refine V_iload_n (q := 119) g dX1_addChair_118 rfl rfl ?_
        refine V_callNV_3 (q := 122) g (c_X4_put l hL.2.2.2.2.2.2.1 (by decide) (by omega)) dX1_addChair_119 k_X1_56 rfl rfl ⟨rfl, rfl⟩ rfl (fun M11 e11 => ?_)
        obtain rfl := e11
        refine V_iinc_4 (q := 125) g dX1_addChair_122 (by decide) rfl rfl ?_
        simp only [Int.reduceAdd]
        refine V_goto g dX1_addChair_125 (tgt := 102) (by decide) ?_
        refine V_iload (q := 104) g dX1_addChair_102 rfl rfl ?_
        refine V_iconst (q := 105) g dX1_addChair_104 rfl ?_
        refine V_icmp_ge (q := 108) g dX1_addChair_105 (tgt := 128) (by decide) rfl (by omega) (by omega) (fun h105 => ?_) (fun h105 => absurd h105 (by omega))
        refine V_iload_n (q := 129) g dX1_addChair_128 rfl rfl ?_
        exact V_ireturn g r dX1_addChair_129 rfl (.inr (.inr (.inr ⟨rfl, by omega, by omega, by omega, Off_chair hO h0.1, ((((((((((Oth.rf.tr (Oth.wr (by omega))).tr (Oth.wr (by omega))).tr (Oth.wr (by omega))).tr (Oth.wr (by omega))).tr (Oth.wr (by omega))).tr (Oth.wr (by omega))).tr (Oth.wr (by omega))).tr (Oth.wr (by omega))).tr (Oth.wr (by omega))).tr (Oth.wr (by omega)))⟩)))
      · refine V_bipush (q := 38) g dX1_addChair_36 (by decide) rfl ?_
        exact V_ireturn g r dX1_addChair_38 rfl (.inr (.inr (.inl ⟨rfl, by omega, by omega, by omega, rfl⟩)))
    · refine V_bipush (q := 26) g dX1_addChair_24 (by decide) rfl ?_
      exact V_ireturn g r dX1_addChair_26 rfl (.inr (.inl ⟨rfl, by omega, by omega, rfl⟩))
  · refine V_bipush (q := 11) g dX1_addChair_9 (by decide) rfl ?_
    exact V_ireturn g r dX1_addChair_11 rfl (.inl ⟨rfl, by omega, rfl⟩)
abbrev rm_X1_layFloor : Room := { frames := 2, cells := 0, slots := 0, locals := 43 }
set_option maxHeartbeats 4000000 in
set_option maxRecDepth 100000 in
theorem c_X1_layFloor (l : Launch) {D : DD} {Λ : LY} {M : MM} {o : Nat} {f : Int → Int} {x1 x2 x3 x4 : Int} (hL : OffL D Λ o) (hO : Off M o f) (hI : Inv f) (hr1 : inR x1) (hr2 : inR x2) (hr3 : inR x3) (hr4 : inR x4) : CI l yX1_layFloor cX1_layFloor 6 .int rm_X1_layFloor [.ref o, vi x1, vi x2, vi x3, vi x4] D Λ M (fun z M1 => (z = -3 ∧ ¬ ((0 ≤ x1 ∧ x1 ≤ 50) ∧ (0 ≤ x2 ∧ x2 ≤ 50) ∧ (0 ≤ x3 ∧ x3 ≤ 50) ∧ (0 ≤ x4 ∧ x4 ≤ 50)) ∧ M = M1) ∨ (z = -4 ∧ ((0 ≤ x1 ∧ x1 ≤ 50) ∧ (0 ≤ x2 ∧ x2 ≤ 50) ∧ (0 ≤ x3 ∧ x3 ≤ 50) ∧ (0 ≤ x4 ∧ x4 ≤ 50)) ∧ 4 ≤ f 1 ∧ M = M1) ∨ (z = f 1 ∧ ((0 ≤ x1 ∧ x1 ≤ 50) ∧ (0 ≤ x2 ∧ x2 ≤ 50) ∧ (0 ≤ x3 ∧ x3 ≤ 50) ∧ (0 ≤ x4 ∧ x4 ≤ 50)) ∧ (1 ≤ z ∧ z < 4) ∧ Off M1 o (fFloor f x1 x2 x3 x4) ∧ Oth M M1 o)) := by
  refine CI_of rfl rfl (Nat.le_of_ble_eq_true rfl) (fun Γ g r => ?_)
  have h0 := hI.1
  have h1 := hI.2.1
  refine V_aload_n (q := 1) g dX1_layFloor_0 rfl rfl ?_
  refine V_iload_n (q := 2) g dX1_layFloor_1 rfl rfl ?_
  refine V_callVI_1 (q := 5) g (c_X1_isSpot l (by omega)) dX1_layFloor_2 k_X1_108 hL.1 rfl rfl rfl rfl ⟨rfl, rfl⟩ rfl (fun z1 M1 e1 => ?_)
  obtain ⟨e1, rfl⟩ := e1
  refine V_if_eq (q := 8) g dX1_layFloor_5 (tgt := 33) (by decide) rfl (by omega) (fun h5 => ?_) (fun h5 => ?_)
  · refine V_bipush (q := 35) g dX1_layFloor_33 (by decide) rfl ?_
    exact V_ireturn g r dX1_layFloor_35 rfl (.inl ⟨rfl, by omega, rfl⟩)
  · refine V_aload_n (q := 9) g dX1_layFloor_8 rfl rfl ?_
    refine V_iload_n (q := 10) g dX1_layFloor_9 rfl rfl ?_
    refine V_callVI_1 (q := 13) g (c_X1_isSpot l (by omega)) dX1_layFloor_10 k_X1_108 hL.1 rfl rfl rfl rfl ⟨rfl, rfl⟩ rfl (fun z2 M2 e2 => ?_)
    obtain ⟨e2, rfl⟩ := e2
    refine V_if_eq (q := 16) g dX1_layFloor_13 (tgt := 33) (by decide) rfl (by omega) (fun h13 => ?_) (fun h13 => ?_)
    · refine V_bipush (q := 35) g dX1_layFloor_33 (by decide) rfl ?_
      exact V_ireturn g r dX1_layFloor_35 rfl (.inl ⟨rfl, by omega, rfl⟩)
    · refine V_aload_n (q := 17) g dX1_layFloor_16 rfl rfl ?_
      refine V_iload_n (q := 18) g dX1_layFloor_17 rfl rfl ?_
      refine V_callVI_1 (q := 21) g (c_X1_isSpot l (by omega)) dX1_layFloor_18 k_X1_108 hL.1 rfl rfl rfl rfl ⟨rfl, rfl⟩ rfl (fun z3 M3 e3 => ?_)
      obtain ⟨e3, rfl⟩ := e3
      refine V_if_eq (q := 24) g dX1_layFloor_21 (tgt := 33) (by decide) rfl (by omega) (fun h21 => ?_) (fun h21 => ?_)
      · refine V_bipush (q := 35) g dX1_layFloor_33 (by decide) rfl ?_
        exact V_ireturn g r dX1_layFloor_35 rfl (.inl ⟨rfl, by omega, rfl⟩)
      · refine V_aload_n (q := 25) g dX1_layFloor_24 rfl rfl ?_
        refine V_iload (q := 27) g dX1_layFloor_25 rfl rfl ?_
        refine V_callVI_1 (q := 30) g (c_X1_isSpot l (by omega)) dX1_layFloor_27 k_X1_108 hL.1 rfl rfl rfl rfl ⟨rfl, rfl⟩ rfl (fun z4 M4 e4 => ?_)
        obtain ⟨e4, rfl⟩ := e4
        refine V_if_ne (q := 33) g dX1_layFloor_30 (tgt := 36) (by decide) rfl (by omega) (fun h30 => ?_) (fun h30 => ?_)
        · refine V_aload_n (q := 37) g dX1_layFloor_36 rfl rfl ?_
          refine V_getI (q := 40) g dX1_layFloor_37 rfl f_X1_49 rfl hL.1 rfl (j := 1) rfl ?_
          rw [hO.2.1]
          refine V_iconst (q := 41) g dX1_layFloor_40 rfl ?_
          refine V_icmp_lt (q := 44) g dX1_layFloor_41 (tgt := 47) (by decide) rfl (by omega) (by omega) (fun h41 => ?_) (fun h41 => ?_)
          · refine V_aload_n (q := 48) g dX1_layFloor_47 rfl rfl ?_
            refine V_getI (q := 51) g dX1_layFloor_48 rfl f_X1_49 rfl hL.1 rfl (j := 1) rfl ?_
            rw [hO.2.1]
            refine V_istore_5 (q := 53) g dX1_layFloor_51 (by decide) rfl rfl ?_
            refine V_aload_n (q := 54) g dX1_layFloor_53 rfl rfl ?_
            refine V_dup (q := 55) g dX1_layFloor_54 rfl rfl ?_
            refine V_getI (q := 58) g dX1_layFloor_55 rfl f_X1_49 rfl hL.1 rfl (j := 1) rfl ?_
            rw [hO.2.1]
            refine V_iconst (q := 59) g dX1_layFloor_58 rfl ?_
            refine V_iadd (q := 60) g dX1_layFloor_59 rfl ?_
            refine V_putI (q := 63) g dX1_layFloor_60 rfl f_X1_49 tyX1_ok nmX1 rfl hL.1 rfl rfl (ty := .int) rfl rfl rfl (j := 1) rfl ?_
            refine V_aload_n (q := 64) g dX1_layFloor_63 rfl rfl ?_
            refine V_getR (q := 67) g dX1_layFloor_64 rfl f_X1_30 rfl hL.1 rfl ?_
            refine V_iload (q := 69) g dX1_layFloor_67 rfl rfl ?_
            refine V_iconst (q := 70) g dX1_layFloor_69 rfl ?_
            refine V_imul (q := 71) g dX1_layFloor_70 rfl ?_
            refine V_iload_n (q := 72) g dX1_layFloor_71 rfl rfl ?_
            refine V_callNV_3 (q := 75) g (c_X4_put l hL.2.2.2.2.2.2.2.1 (by decide) (by omega)) dX1_layFloor_72 k_X1_56 rfl rfl ⟨rfl, rfl⟩ rfl (fun M5 e5 => ?_)
            obtain rfl := e5
            refine V_aload_n (q := 76) g dX1_layFloor_75 rfl rfl ?_
            refine V_getR (q := 79) g dX1_layFloor_76 rfl f_X1_30 rfl hL.1 rfl ?_
            refine V_iload (q := 81) g dX1_layFloor_79 rfl rfl ?_
            refine V_iconst (q := 82) g dX1_layFloor_81 rfl ?_
            refine V_imul (q := 83) g dX1_layFloor_82 rfl ?_
            refine V_iconst (q := 84) g dX1_layFloor_83 rfl ?_
            refine V_iadd (q := 85) g dX1_layFloor_84 rfl ?_
            refine V_iload_n (q := 86) g dX1_layFloor_85 rfl rfl ?_
            refine V_callNV_3 (q := 89) g (c_X4_put l hL.2.2.2.2.2.2.2.1 (by decide) (by omega)) dX1_layFloor_86 k_X1_56 rfl rfl ⟨rfl, rfl⟩ rfl (fun M6 e6 => ?_)
            obtain rfl := e6
            refine V_aload_n (q := 90) g dX1_layFloor_89 rfl rfl ?_
            refine V_getR (q := 93) g dX1_layFloor_90 rfl f_X1_30 rfl hL.1 rfl ?_
            refine V_iload (q := 95) g dX1_layFloor_93 rfl rfl ?_
            refine V_iconst (q := 96) g dX1_layFloor_95 rfl ?_
            refine V_imul (q := 97) g dX1_layFloor_96 rfl ?_
            refine V_iconst (q := 98) g dX1_layFloor_97 rfl ?_
            refine V_iadd (q := 99) g dX1_layFloor_98 rfl ?_
            refine V_iload_n (q := 100) g dX1_layFloor_99 rfl rfl ?_
            refine V_callNV_3 (q := 103) g (c_X4_put l hL.2.2.2.2.2.2.2.1 (by decide) (by omega)) dX1_layFloor_100 k_X1_56 rfl rfl ⟨rfl, rfl⟩ rfl (fun M7 e7 => ?_)
            obtain rfl := e7
            refine V_aload_n (q := 104) g dX1_layFloor_103 rfl rfl ?_
            refine V_getR (q := 107) g dX1_layFloor_104 rfl f_X1_30 rfl hL.1 rfl ?_
            refine V_iload (q := 109) g dX1_layFloor_107 rfl rfl ?_
            refine V_iconst (q := 110) g dX1_layFloor_109 rfl ?_
            refine V_imul (q := 111) g dX1_layFloor_110 rfl ?_
            refine V_iconst (q := 112) g dX1_layFloor_111 rfl ?_
            refine V_iadd (q := 113) g dX1_layFloor_112 rfl ?_
            refine V_iload (q := 115) g dX1_layFloor_113 rfl rfl ?_
            refine V_callNV_3 (q := 118) g (c_X4_put l hL.2.2.2.2.2.2.2.1 (by decide) (by omega)) dX1_layFloor_115 k_X1_56 rfl rfl ⟨rfl, rfl⟩ rfl (fun M8 e8 => ?_)
            obtain rfl := e8
            refine V_iload (q := 120) g dX1_layFloor_118 rfl rfl ?_
            exact V_ireturn g r dX1_layFloor_120 rfl (.inr (.inr ⟨rfl, by omega, by omega, Off_floor hO (by omega), (((((Oth.rf.tr (Oth.wr (by omega))).tr (Oth.wr (by omega))).tr (Oth.wr (by omega))).tr (Oth.wr (by omega))).tr (Oth.wr (by omega)))⟩))
          · refine V_bipush (q := 46) g dX1_layFloor_44 (by decide) rfl ?_
            exact V_ireturn g r dX1_layFloor_46 rfl (.inr (.inl ⟨rfl, by omega, by omega, rfl⟩))
        · refine V_bipush (q := 35) g dX1_layFloor_33 (by decide) rfl ?_
          exact V_ireturn g r dX1_layFloor_35 rfl (.inl ⟨rfl, by omega, rfl⟩)
abbrev rm_X1_changeSetting : Room := { frames := 1, cells := 0, slots := 0, locals := 22 }
set_option maxHeartbeats 4000000 in
set_option maxRecDepth 100000 in
theorem c_X1_changeSetting (l : Launch) {D : DD} {Λ : LY} {M : MM} {o : Nat} {f : Int → Int} {wh v : Int} (hL : OffL D Λ o) (hO : Off M o f) (hI : Inv f) (hr1 : inR wh) (hr2 : inR v) : CI l yX1_changeSetting cX1_changeSetting 6 .int rm_X1_changeSetting [.ref o, vi wh, vi v] D Λ M (fun z M1 => (z = -3 ∧ ¬ (wh = 0 ∧ 0 ≤ v ∧ v ≤ 50 ∨ wh = 1 ∧ 1 ≤ v ∧ v ≤ 200) ∧ M = M1) ∨ (z = f (10 + wh) ∧ (wh = 0 ∧ 0 ≤ v ∧ v ≤ 50 ∨ wh = 1 ∧ 1 ≤ v ∧ v ≤ 200) ∧ 0 ≤ z ∧ Off M1 o (fSet f wh v) ∧ Oth M M1 o)) := by
  refine CI_of rfl rfl (Nat.le_of_ble_eq_true rfl) (fun Γ g r => ?_)
  have h0 := hI.1
  have h1 := hI.2.1
  have hT : Oth M M o := Oth.rf
  have h10 := hI.2.2.1
  have h11 := hI.2.2.2.1
  refine V_iload_n (q := 1) g dX1_changeSetting_0 rfl rfl ?_
  refine V_if_ne (q := 4) g dX1_changeSetting_1 (tgt := 18) (by decide) rfl (by omega) (fun h1 => ?_) (fun h1 => ?_)
  · refine V_iconst (q := 19) g dX1_changeSetting_18 rfl ?_
    refine V_istore_n_3 (q := 20) g dX1_changeSetting_19 (by decide) rfl rfl ?_
    refine V_iload_n (q := 21) g dX1_changeSetting_20 rfl rfl ?_
    refine V_iconst (q := 22) g dX1_changeSetting_21 rfl ?_
    refine V_icmp_ne (q := 25) g dX1_changeSetting_22 (tgt := 40) (by decide) rfl (by omega) (by omega) (fun h22 => ?_) (fun h22 => ?_)
    · refine V_iconst (q := 41) g dX1_changeSetting_40 rfl ?_
      refine V_istore_4 (q := 43) g dX1_changeSetting_41 (by decide) rfl rfl ?_
      refine V_iload_n (q := 44) g dX1_changeSetting_43 rfl rfl ?_
      refine V_if_ne (q := 47) g dX1_changeSetting_44 (tgt := 55) (by decide) rfl (by omega) (fun h44 => absurd h44 (by omega)) (fun h44 => ?_)
      refine V_iload (q := 49) g dX1_changeSetting_47 rfl rfl ?_
      refine V_if_ne (q := 52) g dX1_changeSetting_49 (tgt := 55) (by decide) rfl (by omega) (fun h49 => absurd h49 (by omega)) (fun h49 => ?_)
      refine V_bipush (q := 54) g dX1_changeSetting_52 (by decide) rfl ?_
      exact V_ireturn g r dX1_changeSetting_54 rfl (.inl ⟨rfl, by omega, rfl⟩)
    · refine V_iload_n (q := 26) g dX1_changeSetting_25 rfl rfl ?_
      refine V_iconst (q := 27) g dX1_changeSetting_26 rfl ?_
      refine V_sipush (q := 30) g dX1_changeSetting_27 (by decide) rfl ?_
      refine V_callNI_3 (q := 33) g (c_X4_within l (by omega) (by omega) (by omega)) dX1_changeSetting_30 k_X1_104 rfl rfl ⟨rfl, rfl⟩ rfl (fun z1 M1 e1 => ?_)
      obtain ⟨e1, rfl⟩ := e1
      refine V_if_eq (q := 36) g dX1_changeSetting_33 (tgt := 40) (by decide) rfl (by omega) (fun h33 => ?_) (fun h33 => ?_)
      · refine V_iconst (q := 41) g dX1_changeSetting_40 rfl ?_
        refine V_istore_4 (q := 43) g dX1_changeSetting_41 (by decide) rfl rfl ?_
        refine V_iload_n (q := 44) g dX1_changeSetting_43 rfl rfl ?_
        refine V_if_ne (q := 47) g dX1_changeSetting_44 (tgt := 55) (by decide) rfl (by omega) (fun h44 => absurd h44 (by omega)) (fun h44 => ?_)
        refine V_iload (q := 49) g dX1_changeSetting_47 rfl rfl ?_
        refine V_if_ne (q := 52) g dX1_changeSetting_49 (tgt := 55) (by decide) rfl (by omega) (fun h49 => absurd h49 (by omega)) (fun h49 => ?_)
        refine V_bipush (q := 54) g dX1_changeSetting_52 (by decide) rfl ?_
        exact V_ireturn g r dX1_changeSetting_54 rfl (.inl ⟨rfl, by omega, rfl⟩)
      · refine V_iconst (q := 37) g dX1_changeSetting_36 rfl ?_
        refine V_goto g dX1_changeSetting_37 (tgt := 41) (by decide) ?_
        refine V_istore_4 (q := 43) g dX1_changeSetting_41 (by decide) rfl rfl ?_
        refine V_iload_n (q := 44) g dX1_changeSetting_43 rfl rfl ?_
        refine V_if_ne (q := 47) g dX1_changeSetting_44 (tgt := 55) (by decide) rfl (by omega) (fun h44 => absurd h44 (by omega)) (fun h44 => ?_)
        refine V_iload (q := 49) g dX1_changeSetting_47 rfl rfl ?_
        refine V_if_ne (q := 52) g dX1_changeSetting_49 (tgt := 55) (by decide) rfl (by omega) (fun h49 => ?_) (fun h49 => absurd h49 (by omega))
        refine V_aload_n (q := 56) g dX1_changeSetting_55 rfl rfl ?_
        refine V_getR (q := 59) g dX1_changeSetting_56 rfl f_X1_36 rfl hL.1 rfl ?_
        refine V_iload_n (q := 60) g dX1_changeSetting_59 rfl rfl ?_
        refine V_callNI_2 (q := 63) g (a_values l hL hO (by omega)) dX1_changeSetting_60 k_X1_64 rfl rfl ⟨rfl, rfl⟩ rfl (fun z2 M2 e2 => ?_)
        obtain ⟨e2, rfl⟩ := e2
        have hz : 0 ≤ f (10 + wh) := by
          rcases (by omega : wh = 0 ∨ wh = 1) with rfl | rfl
          · exact h10.1
          · show 0 ≤ f 11; omega
        refine V_istore_5 (q := 65) g dX1_changeSetting_63 (by decide) rfl rfl ?_
        refine V_aload_n (q := 66) g dX1_changeSetting_65 rfl rfl ?_
        refine V_getR (q := 69) g dX1_changeSetting_66 rfl f_X1_36 rfl hL.1 rfl ?_
        refine V_iload_n (q := 70) g dX1_changeSetting_69 rfl rfl ?_
        refine V_iload_n (q := 71) g dX1_changeSetting_70 rfl rfl ?_
        refine V_callNV_3 (q := 74) g (p_values l hL hO (by omega)) dX1_changeSetting_71 k_X1_56 rfl rfl ⟨rfl, rfl⟩ rfl (fun M3 e3 => ?_)
        obtain ⟨hO3, hT3⟩ := e3
        have hO := hO3
        have hT := hT.tr hT3
        refine V_iload (q := 76) g dX1_changeSetting_74 rfl rfl ?_
        exact V_ireturn g r dX1_changeSetting_76 rfl (.inr ⟨by omega, by omega, by omega, hO, hT⟩)
  · refine V_iload_n (q := 5) g dX1_changeSetting_4 rfl rfl ?_
    refine V_iconst (q := 6) g dX1_changeSetting_5 rfl ?_
    refine V_bipush (q := 8) g dX1_changeSetting_6 (by decide) rfl ?_
    refine V_callNI_3 (q := 11) g (c_X4_within l (by omega) (by omega) (by omega)) dX1_changeSetting_8 k_X1_104 rfl rfl ⟨rfl, rfl⟩ rfl (fun z4 M4 e4 => ?_)
    obtain ⟨e4, rfl⟩ := e4
    refine V_if_eq (q := 14) g dX1_changeSetting_11 (tgt := 18) (by decide) rfl (by omega) (fun h11 => ?_) (fun h11 => ?_)
    · refine V_iconst (q := 19) g dX1_changeSetting_18 rfl ?_
      refine V_istore_n_3 (q := 20) g dX1_changeSetting_19 (by decide) rfl rfl ?_
      refine V_iload_n (q := 21) g dX1_changeSetting_20 rfl rfl ?_
      refine V_iconst (q := 22) g dX1_changeSetting_21 rfl ?_
      refine V_icmp_ne (q := 25) g dX1_changeSetting_22 (tgt := 40) (by decide) rfl (by omega) (by omega) (fun h22 => ?_) (fun h22 => ?_)
      · refine V_iconst (q := 41) g dX1_changeSetting_40 rfl ?_
        refine V_istore_4 (q := 43) g dX1_changeSetting_41 (by decide) rfl rfl ?_
        refine V_iload_n (q := 44) g dX1_changeSetting_43 rfl rfl ?_
        refine V_if_ne (q := 47) g dX1_changeSetting_44 (tgt := 55) (by decide) rfl (by omega) (fun h44 => absurd h44 (by omega)) (fun h44 => ?_)
        refine V_iload (q := 49) g dX1_changeSetting_47 rfl rfl ?_
        refine V_if_ne (q := 52) g dX1_changeSetting_49 (tgt := 55) (by decide) rfl (by omega) (fun h49 => absurd h49 (by omega)) (fun h49 => ?_)
        refine V_bipush (q := 54) g dX1_changeSetting_52 (by decide) rfl ?_
        exact V_ireturn g r dX1_changeSetting_54 rfl (.inl ⟨rfl, by omega, rfl⟩)
      · refine V_iload_n (q := 26) g dX1_changeSetting_25 rfl rfl ?_
        refine V_iconst (q := 27) g dX1_changeSetting_26 rfl ?_
        refine V_sipush (q := 30) g dX1_changeSetting_27 (by decide) rfl ?_
        refine V_callNI_3 (q := 33) g (c_X4_within l (by omega) (by omega) (by omega)) dX1_changeSetting_30 k_X1_104 rfl rfl ⟨rfl, rfl⟩ rfl (fun z5 M5 e5 => ?_)
        obtain ⟨e5, rfl⟩ := e5
        refine V_if_eq (q := 36) g dX1_changeSetting_33 (tgt := 40) (by decide) rfl (by omega) (fun h33 => ?_) (fun h33 => ?_)
        · refine V_iconst (q := 41) g dX1_changeSetting_40 rfl ?_
          refine V_istore_4 (q := 43) g dX1_changeSetting_41 (by decide) rfl rfl ?_
          refine V_iload_n (q := 44) g dX1_changeSetting_43 rfl rfl ?_
          refine V_if_ne (q := 47) g dX1_changeSetting_44 (tgt := 55) (by decide) rfl (by omega) (fun h44 => absurd h44 (by omega)) (fun h44 => ?_)
          refine V_iload (q := 49) g dX1_changeSetting_47 rfl rfl ?_
          refine V_if_ne (q := 52) g dX1_changeSetting_49 (tgt := 55) (by decide) rfl (by omega) (fun h49 => absurd h49 (by omega)) (fun h49 => ?_)
          refine V_bipush (q := 54) g dX1_changeSetting_52 (by decide) rfl ?_
          exact V_ireturn g r dX1_changeSetting_54 rfl (.inl ⟨rfl, by omega, rfl⟩)
        · refine V_iconst (q := 37) g dX1_changeSetting_36 rfl ?_
          refine V_goto g dX1_changeSetting_37 (tgt := 41) (by decide) ?_
          refine V_istore_4 (q := 43) g dX1_changeSetting_41 (by decide) rfl rfl ?_
          refine V_iload_n (q := 44) g dX1_changeSetting_43 rfl rfl ?_
          refine V_if_ne (q := 47) g dX1_changeSetting_44 (tgt := 55) (by decide) rfl (by omega) (fun h44 => absurd h44 (by omega)) (fun h44 => ?_)
          refine V_iload (q := 49) g dX1_changeSetting_47 rfl rfl ?_
          refine V_if_ne (q := 52) g dX1_changeSetting_49 (tgt := 55) (by decide) rfl (by omega) (fun h49 => ?_) (fun h49 => absurd h49 (by omega))
          refine V_aload_n (q := 56) g dX1_changeSetting_55 rfl rfl ?_
          refine V_getR (q := 59) g dX1_changeSetting_56 rfl f_X1_36 rfl hL.1 rfl ?_
          refine V_iload_n (q := 60) g dX1_changeSetting_59 rfl rfl ?_
          refine V_callNI_2 (q := 63) g (a_values l hL hO (by omega)) dX1_changeSetting_60 k_X1_64 rfl rfl ⟨rfl, rfl⟩ rfl (fun z6 M6 e6 => ?_)
          obtain ⟨e6, rfl⟩ := e6
          have hz : 0 ≤ f (10 + wh) := by
            rcases (by omega : wh = 0 ∨ wh = 1) with rfl | rfl
            · exact h10.1
            · show 0 ≤ f 11; omega
          refine V_istore_5 (q := 65) g dX1_changeSetting_63 (by decide) rfl rfl ?_
          refine V_aload_n (q := 66) g dX1_changeSetting_65 rfl rfl ?_
          refine V_getR (q := 69) g dX1_changeSetting_66 rfl f_X1_36 rfl hL.1 rfl ?_
          refine V_iload_n (q := 70) g dX1_changeSetting_69 rfl rfl ?_
          refine V_iload_n (q := 71) g dX1_changeSetting_70 rfl rfl ?_
          refine V_callNV_3 (q := 74) g (p_values l hL hO (by omega)) dX1_changeSetting_71 k_X1_56 rfl rfl ⟨rfl, rfl⟩ rfl (fun M7 e7 => ?_)
          obtain ⟨hO7, hT7⟩ := e7
          have hO := hO7
          have hT := hT.tr hT7
          refine V_iload (q := 76) g dX1_changeSetting_74 rfl rfl ?_
          exact V_ireturn g r dX1_changeSetting_76 rfl (.inr ⟨by omega, by omega, by omega, hO, hT⟩)
    · refine V_iconst (q := 15) g dX1_changeSetting_14 rfl ?_
      refine V_goto g dX1_changeSetting_15 (tgt := 19) (by decide) ?_
      refine V_istore_n_3 (q := 20) g dX1_changeSetting_19 (by decide) rfl rfl ?_
      refine V_iload_n (q := 21) g dX1_changeSetting_20 rfl rfl ?_
      refine V_iconst (q := 22) g dX1_changeSetting_21 rfl ?_
      refine V_icmp_ne (q := 25) g dX1_changeSetting_22 (tgt := 40) (by decide) rfl (by omega) (by omega) (fun h22 => ?_) (fun h22 => ?_)
      · refine V_iconst (q := 41) g dX1_changeSetting_40 rfl ?_
        refine V_istore_4 (q := 43) g dX1_changeSetting_41 (by decide) rfl rfl ?_
        refine V_iload_n (q := 44) g dX1_changeSetting_43 rfl rfl ?_
        refine V_if_ne (q := 47) g dX1_changeSetting_44 (tgt := 55) (by decide) rfl (by omega) (fun h44 => ?_) (fun h44 => absurd h44 (by omega))
        refine V_aload_n (q := 56) g dX1_changeSetting_55 rfl rfl ?_
        refine V_getR (q := 59) g dX1_changeSetting_56 rfl f_X1_36 rfl hL.1 rfl ?_
        refine V_iload_n (q := 60) g dX1_changeSetting_59 rfl rfl ?_
        refine V_callNI_2 (q := 63) g (a_values l hL hO (by omega)) dX1_changeSetting_60 k_X1_64 rfl rfl ⟨rfl, rfl⟩ rfl (fun z8 M8 e8 => ?_)
        obtain ⟨e8, rfl⟩ := e8
        have hz : 0 ≤ f (10 + wh) := by
          rcases (by omega : wh = 0 ∨ wh = 1) with rfl | rfl
          · exact h10.1
          · show 0 ≤ f 11; omega
        refine V_istore_5 (q := 65) g dX1_changeSetting_63 (by decide) rfl rfl ?_
        refine V_aload_n (q := 66) g dX1_changeSetting_65 rfl rfl ?_
        refine V_getR (q := 69) g dX1_changeSetting_66 rfl f_X1_36 rfl hL.1 rfl ?_
        refine V_iload_n (q := 70) g dX1_changeSetting_69 rfl rfl ?_
        refine V_iload_n (q := 71) g dX1_changeSetting_70 rfl rfl ?_
        refine V_callNV_3 (q := 74) g (p_values l hL hO (by omega)) dX1_changeSetting_71 k_X1_56 rfl rfl ⟨rfl, rfl⟩ rfl (fun M9 e9 => ?_)
        obtain ⟨hO9, hT9⟩ := e9
        have hO := hO9
        have hT := hT.tr hT9
        refine V_iload (q := 76) g dX1_changeSetting_74 rfl rfl ?_
        exact V_ireturn g r dX1_changeSetting_76 rfl (.inr ⟨by omega, by omega, by omega, hO, hT⟩)
      · refine V_iload_n (q := 26) g dX1_changeSetting_25 rfl rfl ?_
        refine V_iconst (q := 27) g dX1_changeSetting_26 rfl ?_
        refine V_sipush (q := 30) g dX1_changeSetting_27 (by decide) rfl ?_
        refine V_callNI_3 (q := 33) g (c_X4_within l (by omega) (by omega) (by omega)) dX1_changeSetting_30 k_X1_104 rfl rfl ⟨rfl, rfl⟩ rfl (fun z10 M10 e10 => ?_)
        obtain ⟨e10, rfl⟩ := e10
        refine V_if_eq (q := 36) g dX1_changeSetting_33 (tgt := 40) (by decide) rfl (by omega) (fun h33 => ?_) (fun h33 => ?_)
        · refine V_iconst (q := 41) g dX1_changeSetting_40 rfl ?_
          refine V_istore_4 (q := 43) g dX1_changeSetting_41 (by decide) rfl rfl ?_
          refine V_iload_n (q := 44) g dX1_changeSetting_43 rfl rfl ?_
          refine V_if_ne (q := 47) g dX1_changeSetting_44 (tgt := 55) (by decide) rfl (by omega) (fun h44 => ?_) (fun h44 => absurd h44 (by omega))
          refine V_aload_n (q := 56) g dX1_changeSetting_55 rfl rfl ?_
          refine V_getR (q := 59) g dX1_changeSetting_56 rfl f_X1_36 rfl hL.1 rfl ?_
          refine V_iload_n (q := 60) g dX1_changeSetting_59 rfl rfl ?_
          refine V_callNI_2 (q := 63) g (a_values l hL hO (by omega)) dX1_changeSetting_60 k_X1_64 rfl rfl ⟨rfl, rfl⟩ rfl (fun z11 M11 e11 => ?_)
          obtain ⟨e11, rfl⟩ := e11
          have hz : 0 ≤ f (10 + wh) := by
            rcases (by omega : wh = 0 ∨ wh = 1) with rfl | rfl
            · exact h10.1
            · show 0 ≤ f 11; omega
          refine V_istore_5 (q := 65) g dX1_changeSetting_63 (by decide) rfl rfl ?_
          refine V_aload_n (q := 66) g dX1_changeSetting_65 rfl rfl ?_
          refine V_getR (q := 69) g dX1_changeSetting_66 rfl f_X1_36 rfl hL.1 rfl ?_
          refine V_iload_n (q := 70) g dX1_changeSetting_69 rfl rfl ?_
          refine V_iload_n (q := 71) g dX1_changeSetting_70 rfl rfl ?_
          refine V_callNV_3 (q := 74) g (p_values l hL hO (by omega)) dX1_changeSetting_71 k_X1_56 rfl rfl ⟨rfl, rfl⟩ rfl (fun M12 e12 => ?_)
          obtain ⟨hO12, hT12⟩ := e12
          have hO := hO12
          have hT := hT.tr hT12
          refine V_iload (q := 76) g dX1_changeSetting_74 rfl rfl ?_
          exact V_ireturn g r dX1_changeSetting_76 rfl (.inr ⟨by omega, by omega, by omega, hO, hT⟩)
        · refine V_iconst (q := 37) g dX1_changeSetting_36 rfl ?_
          refine V_goto g dX1_changeSetting_37 (tgt := 41) (by decide) ?_
          refine V_istore_4 (q := 43) g dX1_changeSetting_41 (by decide) rfl rfl ?_
          refine V_iload_n (q := 44) g dX1_changeSetting_43 rfl rfl ?_
          refine V_if_ne (q := 47) g dX1_changeSetting_44 (tgt := 55) (by decide) rfl (by omega) (fun h44 => ?_) (fun h44 => absurd h44 (by omega))
          refine V_aload_n (q := 56) g dX1_changeSetting_55 rfl rfl ?_
          refine V_getR (q := 59) g dX1_changeSetting_56 rfl f_X1_36 rfl hL.1 rfl ?_
          refine V_iload_n (q := 60) g dX1_changeSetting_59 rfl rfl ?_
          refine V_callNI_2 (q := 63) g (a_values l hL hO (by omega)) dX1_changeSetting_60 k_X1_64 rfl rfl ⟨rfl, rfl⟩ rfl (fun z13 M13 e13 => ?_)
          obtain ⟨e13, rfl⟩ := e13
          have hz : 0 ≤ f (10 + wh) := by
            rcases (by omega : wh = 0 ∨ wh = 1) with rfl | rfl
            · exact h10.1
            · show 0 ≤ f 11; omega
          refine V_istore_5 (q := 65) g dX1_changeSetting_63 (by decide) rfl rfl ?_
          refine V_aload_n (q := 66) g dX1_changeSetting_65 rfl rfl ?_
          refine V_getR (q := 69) g dX1_changeSetting_66 rfl f_X1_36 rfl hL.1 rfl ?_
          refine V_iload_n (q := 70) g dX1_changeSetting_69 rfl rfl ?_
          refine V_iload_n (q := 71) g dX1_changeSetting_70 rfl rfl ?_
          refine V_callNV_3 (q := 74) g (p_values l hL hO (by omega)) dX1_changeSetting_71 k_X1_56 rfl rfl ⟨rfl, rfl⟩ rfl (fun M14 e14 => ?_)
          obtain ⟨hO14, hT14⟩ := e14
          have hO := hO14
          have hT := hT.tr hT14
          refine V_iload (q := 76) g dX1_changeSetting_74 rfl rfl ?_
          exact V_ireturn g r dX1_changeSetting_76 rfl (.inr ⟨by omega, by omega, by omega, hO, hT⟩)
abbrev rm_X1_copyFrom : Room := { frames := 1, cells := 0, slots := 0, locals := 22 }
set_option maxHeartbeats 4000000 in
set_option maxRecDepth 100000 in
theorem c_X1_copyFrom (l : Launch) {D : DD} {Λ : LY} {M : MM} {o o2 : Nat} {f : Int → Int} (hL : OffL D Λ o) (hL2 : OffL D Λ o2) (hO : Off M o2 f) (hI : Inv f) (ho : o2 + 10 < o ∨ o + 10 < o2) : CV l yX1_copyFrom cX1_copyFrom 2 rm_X1_copyFrom [.ref o, .ref o2] D Λ M (fun M1 => Off M1 o f ∧ Oth M M1 o) := by
  refine CV_of rfl rfl (Nat.le_of_ble_eq_true rfl) (fun Γ g r => ?_)
  refine V_aload_n (q := 1) g dX1_copyFrom_0 rfl rfl ?_
  refine V_aload_n (q := 2) g dX1_copyFrom_1 rfl rfl ?_
  refine V_getI (q := 5) g dX1_copyFrom_2 rfl f_X1_45 rfl hL2.1 rfl (j := 0) rfl ?_
  refine V_putI (q := 8) g dX1_copyFrom_5 rfl f_X1_45 tyX1_ok nmX1 rfl hL.1 rfl rfl (ty := .int) rfl rfl rfl (j := 0) rfl ?_
  refine V_aload_n (q := 9) g dX1_copyFrom_8 rfl rfl ?_
  refine V_aload_n (q := 10) g dX1_copyFrom_9 rfl rfl ?_
  refine V_getI (q := 13) g dX1_copyFrom_10 rfl f_X1_49 rfl hL2.1 rfl (j := 1) rfl ?_
  refine V_putI (q := 16) g dX1_copyFrom_13 rfl f_X1_49 tyX1_ok nmX1 rfl hL.1 rfl rfl (ty := .int) rfl rfl rfl (j := 1) rfl ?_
  refine V_aload_n (q := 17) g dX1_copyFrom_16 rfl rfl ?_
  refine V_getR (q := 20) g dX1_copyFrom_17 rfl f_X1_9 rfl hL2.1 rfl ?_
  refine V_aload_n (q := 21) g dX1_copyFrom_20 rfl rfl ?_
  refine V_getR (q := 24) g dX1_copyFrom_21 rfl f_X1_9 rfl hL.1 rfl ?_
  refine V_callNV_2 (q := 27) g (c_X4_copyRow l hL2.2.1 hL.2.1 (by omega) (by omega)) dX1_copyFrom_24 k_X1_60 rfl rfl ⟨rfl, rfl⟩ rfl (fun M1 e1 => ?_)
  obtain rfl := e1
  refine V_aload_n (q := 28) g dX1_copyFrom_27 rfl rfl ?_
  refine V_getR (q := 31) g dX1_copyFrom_28 rfl f_X1_15 rfl hL2.1 rfl ?_
  refine V_aload_n (q := 32) g dX1_copyFrom_31 rfl rfl ?_
  refine V_getR (q := 35) g dX1_copyFrom_32 rfl f_X1_15 rfl hL.1 rfl ?_
  refine V_callNV_2 (q := 38) g (c_X4_copyRow l hL2.2.2.1 hL.2.2.1 (by omega) (by omega)) dX1_copyFrom_35 k_X1_60 rfl rfl ⟨rfl, rfl⟩ rfl (fun M2 e2 => ?_)
  obtain rfl := e2
  refine V_aload_n (q := 39) g dX1_copyFrom_38 rfl rfl ?_
  refine V_getR (q := 42) g dX1_copyFrom_39 rfl f_X1_18 rfl hL2.1 rfl ?_
  refine V_aload_n (q := 43) g dX1_copyFrom_42 rfl rfl ?_
  refine V_getR (q := 46) g dX1_copyFrom_43 rfl f_X1_18 rfl hL.1 rfl ?_
  refine V_callNV_2 (q := 49) g (c_X4_copyRow l hL2.2.2.2.1 hL.2.2.2.1 (by omega) (by omega)) dX1_copyFrom_46 k_X1_60 rfl rfl ⟨rfl, rfl⟩ rfl (fun M3 e3 => ?_)
  obtain rfl := e3
  refine V_aload_n (q := 50) g dX1_copyFrom_49 rfl rfl ?_
  refine V_getR (q := 53) g dX1_copyFrom_50 rfl f_X1_21 rfl hL2.1 rfl ?_
  refine V_aload_n (q := 54) g dX1_copyFrom_53 rfl rfl ?_
  refine V_getR (q := 57) g dX1_copyFrom_54 rfl f_X1_21 rfl hL.1 rfl ?_
  refine V_callNV_2 (q := 60) g (c_X4_copyRow l hL2.2.2.2.2.1 hL.2.2.2.2.1 (by omega) (by omega)) dX1_copyFrom_57 k_X1_60 rfl rfl ⟨rfl, rfl⟩ rfl (fun M4 e4 => ?_)
  obtain rfl := e4
  refine V_aload_n (q := 61) g dX1_copyFrom_60 rfl rfl ?_
  refine V_getR (q := 64) g dX1_copyFrom_61 rfl f_X1_24 rfl hL2.1 rfl ?_
  refine V_aload_n (q := 65) g dX1_copyFrom_64 rfl rfl ?_
  refine V_getR (q := 68) g dX1_copyFrom_65 rfl f_X1_24 rfl hL.1 rfl ?_
  refine V_callNV_2 (q := 71) g (c_X4_copyRow l hL2.2.2.2.2.2.1 hL.2.2.2.2.2.1 (by omega) (by omega)) dX1_copyFrom_68 k_X1_60 rfl rfl ⟨rfl, rfl⟩ rfl (fun M5 e5 => ?_)
  obtain rfl := e5
  refine V_aload_n (q := 72) g dX1_copyFrom_71 rfl rfl ?_
  refine V_getR (q := 75) g dX1_copyFrom_72 rfl f_X1_27 rfl hL2.1 rfl ?_
  refine V_aload_n (q := 76) g dX1_copyFrom_75 rfl rfl ?_
  refine V_getR (q := 79) g dX1_copyFrom_76 rfl f_X1_27 rfl hL.1 rfl ?_
  refine V_callNV_2 (q := 82) g (c_X4_copyRow l hL2.2.2.2.2.2.2.1 hL.2.2.2.2.2.2.1 (by omega) (by omega)) dX1_copyFrom_79 k_X1_60 rfl rfl ⟨rfl, rfl⟩ rfl (fun M6 e6 => ?_)
  obtain rfl := e6
  refine V_aload_n (q := 83) g dX1_copyFrom_82 rfl rfl ?_
  refine V_getR (q := 86) g dX1_copyFrom_83 rfl f_X1_30 rfl hL2.1 rfl ?_
  refine V_aload_n (q := 87) g dX1_copyFrom_86 rfl rfl ?_
  refine V_getR (q := 90) g dX1_copyFrom_87 rfl f_X1_30 rfl hL.1 rfl ?_
  refine V_callNV_2 (q := 93) g (c_X4_copyRow l hL2.2.2.2.2.2.2.2.1 hL.2.2.2.2.2.2.2.1 (by omega) (by omega)) dX1_copyFrom_90 k_X1_60 rfl rfl ⟨rfl, rfl⟩ rfl (fun M7 e7 => ?_)
  obtain rfl := e7
  refine V_aload_n (q := 94) g dX1_copyFrom_93 rfl rfl ?_
  refine V_getR (q := 97) g dX1_copyFrom_94 rfl f_X1_33 rfl hL2.1 rfl ?_
  refine V_aload_n (q := 98) g dX1_copyFrom_97 rfl rfl ?_
  refine V_getR (q := 101) g dX1_copyFrom_98 rfl f_X1_33 rfl hL.1 rfl ?_
  refine V_callNV_2 (q := 104) g (c_X4_copyRow l hL2.2.2.2.2.2.2.2.2.1 hL.2.2.2.2.2.2.2.2.1 (by omega) (by omega)) dX1_copyFrom_101 k_X1_60 rfl rfl ⟨rfl, rfl⟩ rfl (fun M8 e8 => ?_)
  obtain rfl := e8
  refine V_aload_n (q := 105) g dX1_copyFrom_104 rfl rfl ?_
  refine V_getR (q := 108) g dX1_copyFrom_105 rfl f_X1_36 rfl hL2.1 rfl ?_
  refine V_aload_n (q := 109) g dX1_copyFrom_108 rfl rfl ?_
  refine V_getR (q := 112) g dX1_copyFrom_109 rfl f_X1_36 rfl hL.1 rfl ?_
  refine V_callNV_2 (q := 115) g (c_X4_copyRow l hL2.2.2.2.2.2.2.2.2.2.1 hL.2.2.2.2.2.2.2.2.2.1 (by omega) (by omega)) dX1_copyFrom_112 k_X1_60 rfl rfl ⟨rfl, rfl⟩ rfl (fun M9 e9 => ?_)
  obtain rfl := e9
  refine V_aload_n (q := 116) g dX1_copyFrom_115 rfl rfl ?_
  refine V_getR (q := 119) g dX1_copyFrom_116 rfl f_X1_39 rfl hL2.1 rfl ?_
  refine V_aload_n (q := 120) g dX1_copyFrom_119 rfl rfl ?_
  refine V_getR (q := 123) g dX1_copyFrom_120 rfl f_X1_39 rfl hL.1 rfl ?_
  refine V_callNV_2 (q := 126) g (c_X4_copyRow l hL2.2.2.2.2.2.2.2.2.2.2 hL.2.2.2.2.2.2.2.2.2.2 (by omega) (by omega)) dX1_copyFrom_123 k_X1_60 rfl rfl ⟨rfl, rfl⟩ rfl (fun M10 e10 => ?_)
  obtain rfl := e10
  exact V_return g r dX1_copyFrom_126 (show Off (cpyO M o2 o) o f ∧ Oth M (cpyO M o2 o) o from ⟨Off_cpyO hO hI ho, Oth_cpyO⟩)
abbrev rm_X1_makeNew : Room := { frames := 1, cells := 0, slots := 0, locals := 22 }
set_option maxHeartbeats 4000000 in
set_option maxRecDepth 100000 in
theorem c_X1_makeNew (l : Launch) {D : DD} {Λ : LY} {M : MM} {o : Nat} (hL : OffL D Λ o) : CV l yX1_makeNew cX1_makeNew 2 rm_X1_makeNew [.ref o] D Λ M (fun M1 => Off M1 o fNew ∧ Oth M M1 o) := by
  refine CV_of rfl rfl (Nat.le_of_ble_eq_true rfl) (fun Γ g r => ?_)
  refine V_aload_n (q := 1) g dX1_makeNew_0 rfl rfl ?_
  refine V_iconst (q := 2) g dX1_makeNew_1 rfl ?_
  refine V_putI (q := 5) g dX1_makeNew_2 rfl f_X1_45 tyX1_ok nmX1 rfl hL.1 rfl rfl (ty := .int) rfl rfl rfl (j := 0) rfl ?_
  refine V_aload_n (q := 6) g dX1_makeNew_5 rfl rfl ?_
  refine V_iconst (q := 7) g dX1_makeNew_6 rfl ?_
  refine V_putI (q := 10) g dX1_makeNew_7 rfl f_X1_49 tyX1_ok nmX1 rfl hL.1 rfl rfl (ty := .int) rfl rfl rfl (j := 1) rfl ?_
  refine V_aload_n (q := 11) g dX1_makeNew_10 rfl rfl ?_
  refine V_getR (q := 14) g dX1_makeNew_11 rfl f_X1_30 rfl hL.1 rfl ?_
  refine V_iconst (q := 15) g dX1_makeNew_14 rfl ?_
  refine V_callNV_2 (q := 18) g (c_X4_fill l hL.2.2.2.2.2.2.2.1 (by decide)) dX1_makeNew_15 k_X1_52 rfl rfl ⟨rfl, rfl⟩ rfl (fun M1 e1 => ?_)
  obtain rfl := e1
  refine V_aload_n (q := 19) g dX1_makeNew_18 rfl rfl ?_
  refine V_getR (q := 22) g dX1_makeNew_19 rfl f_X1_39 rfl hL.1 rfl ?_
  refine V_iconst (q := 23) g dX1_makeNew_22 rfl ?_
  refine V_callNV_2 (q := 26) g (c_X4_fill l hL.2.2.2.2.2.2.2.2.2.2 (by decide)) dX1_makeNew_23 k_X1_52 rfl rfl ⟨rfl, rfl⟩ rfl (fun M2 e2 => ?_)
  obtain rfl := e2
  refine V_iconst (q := 27) g dX1_makeNew_26 rfl ?_
  refine V_istore_n_1 (q := 28) g dX1_makeNew_27 (by decide) rfl rfl ?_
  refine V_iload_n (q := 29) g dX1_makeNew_28 rfl rfl ?_
  refine V_iconst (q := 30) g dX1_makeNew_29 rfl ?_
  refine V_icmp_ge (q := 33) g dX1_makeNew_30 (tgt := 96) (by decide) rfl (by omega) (by omega) (fun h30 => absurd h30 (by omega)) (fun h30 => ?_)
  refine V_aload_n (q := 34) g dX1_makeNew_33 rfl rfl ?_
  refine V_getR (q := 37) g dX1_makeNew_34 rfl f_X1_33 rfl hL.1 rfl ?_
  refine V_iload_n (q := 38) g dX1_makeNew_37 rfl rfl ?_
  refine V_iconst (q := 39) g dX1_makeNew_38 rfl ?_
  refine V_imul (q := 40) g dX1_makeNew_39 rfl ?_
  refine V_iconst (q := 41) g dX1_makeNew_40 rfl ?_
  refine V_iadd (q := 42) g dX1_makeNew_41 rfl ?_
  refine V_sipush (q := 45) g dX1_makeNew_42 (by decide) rfl ?_
  refine V_callNV_3 (q := 48) g (c_X4_put l hL.2.2.2.2.2.2.2.2.1 (by decide) (by decide)) dX1_makeNew_45 k_X1_56 rfl rfl ⟨rfl, rfl⟩ rfl (fun M3 e3 => ?_)
  obtain rfl := e3
  refine V_aload_n (q := 49) g dX1_makeNew_48 rfl rfl ?_
  refine V_getR (q := 52) g dX1_makeNew_49 rfl f_X1_33 rfl hL.1 rfl ?_
  refine V_iload_n (q := 53) g dX1_makeNew_52 rfl rfl ?_
  refine V_iconst (q := 54) g dX1_makeNew_53 rfl ?_
  refine V_imul (q := 55) g dX1_makeNew_54 rfl ?_
  refine V_iconst (q := 56) g dX1_makeNew_55 rfl ?_
  refine V_iadd (q := 57) g dX1_makeNew_56 rfl ?_
  refine V_sipush (q := 60) g dX1_makeNew_57 (by decide) rfl ?_
  refine V_callNV_3 (q := 63) g (c_X4_put l hL.2.2.2.2.2.2.2.2.1 (by decide) (by decide)) dX1_makeNew_60 k_X1_56 rfl rfl ⟨rfl, rfl⟩ rfl (fun M4 e4 => ?_)
  obtain rfl := e4
  refine V_aload_n (q := 64) g dX1_makeNew_63 rfl rfl ?_
  refine V_getR (q := 67) g dX1_makeNew_64 rfl f_X1_33 rfl hL.1 rfl ?_
  refine V_iload_n (q := 68) g dX1_makeNew_67 rfl rfl ?_
  refine V_iconst (q := 69) g dX1_makeNew_68 rfl ?_
  refine V_imul (q := 70) g dX1_makeNew_69 rfl ?_
  refine V_iconst (q := 71) g dX1_makeNew_70 rfl ?_
  refine V_iadd (q := 72) g dX1_makeNew_71 rfl ?_
  refine V_iconst (q := 73) g dX1_makeNew_72 rfl ?_
  refine V_callNV_3 (q := 76) g (c_X4_put l hL.2.2.2.2.2.2.2.2.1 (by decide) (by decide)) dX1_makeNew_73 k_X1_56 rfl rfl ⟨rfl, rfl⟩ rfl (fun M5 e5 => ?_)
  obtain rfl := e5
  refine V_aload_n (q := 77) g dX1_makeNew_76 rfl rfl ?_
  refine V_getR (q := 80) g dX1_makeNew_77 rfl f_X1_33 rfl hL.1 rfl ?_
  refine V_iload_n (q := 81) g dX1_makeNew_80 rfl rfl ?_
  refine V_iconst (q := 82) g dX1_makeNew_81 rfl ?_
  refine V_imul (q := 83) g dX1_makeNew_82 rfl ?_
  refine V_iconst (q := 84) g dX1_makeNew_83 rfl ?_
  refine V_iadd (q := 85) g dX1_makeNew_84 rfl ?_
  refine V_bipush (q := 87) g dX1_makeNew_85 (by decide) rfl ?_
  refine V_callNV_3 (q := 90) g (c_X4_put l hL.2.2.2.2.2.2.2.2.1 (by decide) (by decide)) dX1_makeNew_87 k_X1_56 rfl rfl ⟨rfl, rfl⟩ rfl (fun M6 e6 => ?_)
  obtain rfl := e6
  refine V_iinc_1 (q := 93) g dX1_makeNew_90 (by decide) rfl rfl ?_
  simp only [Int.reduceAdd]
  refine V_goto g dX1_makeNew_93 (tgt := 28) (by decide) ?_
  refine V_iload_n (q := 29) g dX1_makeNew_28 rfl rfl ?_
  refine V_iconst (q := 30) g dX1_makeNew_29 rfl ?_
  refine V_icmp_ge (q := 33) g dX1_makeNew_30 (tgt := 96) (by decide) rfl (by omega) (by omega) (fun h30 => absurd h30 (by omega)) (fun h30 => ?_)
  refine V_aload_n (q := 34) g dX1_makeNew_33 rfl rfl ?_
  refine V_getR (q := 37) g dX1_makeNew_34 rfl f_X1_33 rfl hL.1 rfl ?_
  refine V_iload_n (q := 38) g dX1_makeNew_37 rfl rfl ?_
  refine V_iconst (q := 39) g dX1_makeNew_38 rfl ?_
  refine V_imul (q := 40) g dX1_makeNew_39 rfl ?_
  refine V_iconst (q := 41) g dX1_makeNew_40 rfl ?_
  refine V_iadd (q := 42) g dX1_makeNew_41 rfl ?_
  refine V_sipush (q := 45) g dX1_makeNew_42 (by decide) rfl ?_
  refine V_callNV_3 (q := 48) g (c_X4_put l hL.2.2.2.2.2.2.2.2.1 (by decide) (by decide)) dX1_makeNew_45 k_X1_56 rfl rfl ⟨rfl, rfl⟩ rfl (fun M7 e7 => ?_)
  obtain rfl := e7
  refine V_aload_n (q := 49) g dX1_makeNew_48 rfl rfl ?_
  refine V_getR (q := 52) g dX1_makeNew_49 rfl f_X1_33 rfl hL.1 rfl ?_
  refine V_iload_n (q := 53) g dX1_makeNew_52 rfl rfl ?_
  refine V_iconst (q := 54) g dX1_makeNew_53 rfl ?_
  refine V_imul (q := 55) g dX1_makeNew_54 rfl ?_
  refine V_iconst (q := 56) g dX1_makeNew_55 rfl ?_
  refine V_iadd (q := 57) g dX1_makeNew_56 rfl ?_
  refine V_sipush (q := 60) g dX1_makeNew_57 (by decide) rfl ?_
  refine V_callNV_3 (q := 63) g (c_X4_put l hL.2.2.2.2.2.2.2.2.1 (by decide) (by decide)) dX1_makeNew_60 k_X1_56 rfl rfl ⟨rfl, rfl⟩ rfl (fun M8 e8 => ?_)
  obtain rfl := e8
  refine V_aload_n (q := 64) g dX1_makeNew_63 rfl rfl ?_
  refine V_getR (q := 67) g dX1_makeNew_64 rfl f_X1_33 rfl hL.1 rfl ?_
  refine V_iload_n (q := 68) g dX1_makeNew_67 rfl rfl ?_
  refine V_iconst (q := 69) g dX1_makeNew_68 rfl ?_
  refine V_imul (q := 70) g dX1_makeNew_69 rfl ?_
  refine V_iconst (q := 71) g dX1_makeNew_70 rfl ?_
  refine V_iadd (q := 72) g dX1_makeNew_71 rfl ?_
  refine V_iconst (q := 73) g dX1_makeNew_72 rfl ?_
  refine V_callNV_3 (q := 76) g (c_X4_put l hL.2.2.2.2.2.2.2.2.1 (by decide) (by decide)) dX1_makeNew_73 k_X1_56 rfl rfl ⟨rfl, rfl⟩ rfl (fun M9 e9 => ?_)
  obtain rfl := e9
  refine V_aload_n (q := 77) g dX1_makeNew_76 rfl rfl ?_
  refine V_getR (q := 80) g dX1_makeNew_77 rfl f_X1_33 rfl hL.1 rfl ?_
  refine V_iload_n (q := 81) g dX1_makeNew_80 rfl rfl ?_
  refine V_iconst (q := 82) g dX1_makeNew_81 rfl ?_
  refine V_imul (q := 83) g dX1_makeNew_82 rfl ?_
  refine V_iconst (q := 84) g dX1_makeNew_83 rfl ?_
  refine V_iadd (q := 85) g dX1_makeNew_84 rfl ?_
  refine V_bipush (q := 87) g dX1_makeNew_85 (by decide) rfl ?_
  refine V_callNV_3 (q := 90) g (c_X4_put l hL.2.2.2.2.2.2.2.2.1 (by decide) (by decide)) dX1_makeNew_87 k_X1_56 rfl rfl ⟨rfl, rfl⟩ rfl (fun M10 e10 => ?_)
  obtain rfl := e10
  refine V_iinc_1 (q := 93) g dX1_makeNew_90 (by decide) rfl rfl ?_
  simp only [Int.reduceAdd]
  refine V_goto g dX1_makeNew_93 (tgt := 28) (by decide) ?_
  refine V_iload_n (q := 29) g dX1_makeNew_28 rfl rfl ?_
  refine V_iconst (q := 30) g dX1_makeNew_29 rfl ?_
  refine V_icmp_ge (q := 33) g dX1_makeNew_30 (tgt := 96) (by decide) rfl (by omega) (by omega) (fun h30 => absurd h30 (by omega)) (fun h30 => ?_)
  refine V_aload_n (q := 34) g dX1_makeNew_33 rfl rfl ?_
  refine V_getR (q := 37) g dX1_makeNew_34 rfl f_X1_33 rfl hL.1 rfl ?_
  refine V_iload_n (q := 38) g dX1_makeNew_37 rfl rfl ?_
  refine V_iconst (q := 39) g dX1_makeNew_38 rfl ?_
  refine V_imul (q := 40) g dX1_makeNew_39 rfl ?_
  refine V_iconst (q := 41) g dX1_makeNew_40 rfl ?_
  refine V_iadd (q := 42) g dX1_makeNew_41 rfl ?_
  refine V_sipush (q := 45) g dX1_makeNew_42 (by decide) rfl ?_
  refine V_callNV_3 (q := 48) g (c_X4_put l hL.2.2.2.2.2.2.2.2.1 (by decide) (by decide)) dX1_makeNew_45 k_X1_56 rfl rfl ⟨rfl, rfl⟩ rfl (fun M11 e11 => ?_)
  obtain rfl := e11
  refine V_aload_n (q := 49) g dX1_makeNew_48 rfl rfl ?_
  refine V_getR (q := 52) g dX1_makeNew_49 rfl f_X1_33 rfl hL.1 rfl ?_
  refine V_iload_n (q := 53) g dX1_makeNew_52 rfl rfl ?_
  refine V_iconst (q := 54) g dX1_makeNew_53 rfl ?_
  refine V_imul (q := 55) g dX1_makeNew_54 rfl ?_
  refine V_iconst (q := 56) g dX1_makeNew_55 rfl ?_
  refine V_iadd (q := 57) g dX1_makeNew_56 rfl ?_
  refine V_sipush (q := 60) g dX1_makeNew_57 (by decide) rfl ?_
  refine V_callNV_3 (q := 63) g (c_X4_put l hL.2.2.2.2.2.2.2.2.1 (by decide) (by decide)) dX1_makeNew_60 k_X1_56 rfl rfl ⟨rfl, rfl⟩ rfl (fun M12 e12 => ?_)
  obtain rfl := e12
  refine V_aload_n (q := 64) g dX1_makeNew_63 rfl rfl ?_
  refine V_getR (q := 67) g dX1_makeNew_64 rfl f_X1_33 rfl hL.1 rfl ?_
  refine V_iload_n (q := 68) g dX1_makeNew_67 rfl rfl ?_
  refine V_iconst (q := 69) g dX1_makeNew_68 rfl ?_
  refine V_imul (q := 70) g dX1_makeNew_69 rfl ?_
  refine V_iconst (q := 71) g dX1_makeNew_70 rfl ?_
  refine V_iadd (q := 72) g dX1_makeNew_71 rfl ?_
  refine V_iconst (q := 73) g dX1_makeNew_72 rfl ?_
  refine V_callNV_3 (q := 76) g (c_X4_put l hL.2.2.2.2.2.2.2.2.1 (by decide) (by decide)) dX1_makeNew_73 k_X1_56 rfl rfl ⟨rfl, rfl⟩ rfl (fun M13 e13 => ?_)
  obtain rfl := e13
  refine V_aload_n (q := 77) g dX1_makeNew_76 rfl rfl ?_
  refine V_getR (q := 80) g dX1_makeNew_77 rfl f_X1_33 rfl hL.1 rfl ?_
  refine V_iload_n (q := 81) g dX1_makeNew_80 rfl rfl ?_
  refine V_iconst (q := 82) g dX1_makeNew_81 rfl ?_
  refine V_imul (q := 83) g dX1_makeNew_82 rfl ?_
  refine V_iconst (q := 84) g dX1_makeNew_83 rfl ?_
  refine V_iadd (q := 85) g dX1_makeNew_84 rfl ?_
  refine V_bipush (q := 87) g dX1_makeNew_85 (by decide) rfl ?_
  refine V_callNV_3 (q := 90) g (c_X4_put l hL.2.2.2.2.2.2.2.2.1 (by decide) (by decide)) dX1_makeNew_87 k_X1_56 rfl rfl ⟨rfl, rfl⟩ rfl (fun M14 e14 => ?_)
  obtain rfl := e14
  refine V_iinc_1 (q := 93) g dX1_makeNew_90 (by decide) rfl rfl ?_
  simp only [Int.reduceAdd]
  refine V_goto g dX1_makeNew_93 (tgt := 28) (by decide) ?_
  refine V_iload_n (q := 29) g dX1_makeNew_28 rfl rfl ?_
  refine V_iconst (q := 30) g dX1_makeNew_29 rfl ?_
  refine V_icmp_ge (q := 33) g dX1_makeNew_30 (tgt := 96) (by decide) rfl (by omega) (by omega) (fun h30 => absurd h30 (by omega)) (fun h30 => ?_)
  refine V_aload_n (q := 34) g dX1_makeNew_33 rfl rfl ?_
  refine V_getR (q := 37) g dX1_makeNew_34 rfl f_X1_33 rfl hL.1 rfl ?_
  refine V_iload_n (q := 38) g dX1_makeNew_37 rfl rfl ?_
  refine V_iconst (q := 39) g dX1_makeNew_38 rfl ?_
  refine V_imul (q := 40) g dX1_makeNew_39 rfl ?_
  refine V_iconst (q := 41) g dX1_makeNew_40 rfl ?_
  refine V_iadd (q := 42) g dX1_makeNew_41 rfl ?_
  refine V_sipush (q := 45) g dX1_makeNew_42 (by decide) rfl ?_
  refine V_callNV_3 (q := 48) g (c_X4_put l hL.2.2.2.2.2.2.2.2.1 (by decide) (by decide)) dX1_makeNew_45 k_X1_56 rfl rfl ⟨rfl, rfl⟩ rfl (fun M15 e15 => ?_)
  obtain rfl := e15
  refine V_aload_n (q := 49) g dX1_makeNew_48 rfl rfl ?_
  refine V_getR (q := 52) g dX1_makeNew_49 rfl f_X1_33 rfl hL.1 rfl ?_
  refine V_iload_n (q := 53) g dX1_makeNew_52 rfl rfl ?_
  refine V_iconst (q := 54) g dX1_makeNew_53 rfl ?_
  refine V_imul (q := 55) g dX1_makeNew_54 rfl ?_
  refine V_iconst (q := 56) g dX1_makeNew_55 rfl ?_
  refine V_iadd (q := 57) g dX1_makeNew_56 rfl ?_
  refine V_sipush (q := 60) g dX1_makeNew_57 (by decide) rfl ?_
  refine V_callNV_3 (q := 63) g (c_X4_put l hL.2.2.2.2.2.2.2.2.1 (by decide) (by decide)) dX1_makeNew_60 k_X1_56 rfl rfl ⟨rfl, rfl⟩ rfl (fun M16 e16 => ?_)
  obtain rfl := e16
  refine V_aload_n (q := 64) g dX1_makeNew_63 rfl rfl ?_
  refine V_getR (q := 67) g dX1_makeNew_64 rfl f_X1_33 rfl hL.1 rfl ?_
  refine V_iload_n (q := 68) g dX1_makeNew_67 rfl rfl ?_
  refine V_iconst (q := 69) g dX1_makeNew_68 rfl ?_
  refine V_imul (q := 70) g dX1_makeNew_69 rfl ?_
  refine V_iconst (q := 71) g dX1_makeNew_70 rfl ?_
  refine V_iadd (q := 72) g dX1_makeNew_71 rfl ?_
  refine V_iconst (q := 73) g dX1_makeNew_72 rfl ?_
  refine V_callNV_3 (q := 76) g (c_X4_put l hL.2.2.2.2.2.2.2.2.1 (by decide) (by decide)) dX1_makeNew_73 k_X1_56 rfl rfl ⟨rfl, rfl⟩ rfl (fun M17 e17 => ?_)
  obtain rfl := e17
  refine V_aload_n (q := 77) g dX1_makeNew_76 rfl rfl ?_
  refine V_getR (q := 80) g dX1_makeNew_77 rfl f_X1_33 rfl hL.1 rfl ?_
  refine V_iload_n (q := 81) g dX1_makeNew_80 rfl rfl ?_
  refine V_iconst (q := 82) g dX1_makeNew_81 rfl ?_
  refine V_imul (q := 83) g dX1_makeNew_82 rfl ?_
  refine V_iconst (q := 84) g dX1_makeNew_83 rfl ?_
  refine V_iadd (q := 85) g dX1_makeNew_84 rfl ?_
  refine V_bipush (q := 87) g dX1_makeNew_85 (by decide) rfl ?_
  refine V_callNV_3 (q := 90) g (c_X4_put l hL.2.2.2.2.2.2.2.2.1 (by decide) (by decide)) dX1_makeNew_87 k_X1_56 rfl rfl ⟨rfl, rfl⟩ rfl (fun M18 e18 => ?_)
  obtain rfl := e18
  refine V_iinc_1 (q := 93) g dX1_makeNew_90 (by decide) rfl rfl ?_
  simp only [Int.reduceAdd]
  refine V_goto g dX1_makeNew_93 (tgt := 28) (by decide) ?_
  refine V_iload_n (q := 29) g dX1_makeNew_28 rfl rfl ?_
  refine V_iconst (q := 30) g dX1_makeNew_29 rfl ?_
  refine V_icmp_ge (q := 33) g dX1_makeNew_30 (tgt := 96) (by decide) rfl (by omega) (by omega) (fun h30 => ?_) (fun h30 => absurd h30 (by omega))
  refine V_aload_n (q := 97) g dX1_makeNew_96 rfl rfl ?_
  refine V_getR (q := 100) g dX1_makeNew_97 rfl f_X1_36 rfl hL.1 rfl ?_
  refine V_iconst (q := 101) g dX1_makeNew_100 rfl ?_
  refine V_iconst (q := 102) g dX1_makeNew_101 rfl ?_
  refine V_callNV_3 (q := 105) g (c_X4_put l hL.2.2.2.2.2.2.2.2.2.1 (by decide) (by decide)) dX1_makeNew_102 k_X1_56 rfl rfl ⟨rfl, rfl⟩ rfl (fun M19 e19 => ?_)
  obtain rfl := e19
  refine V_aload_n (q := 106) g dX1_makeNew_105 rfl rfl ?_
  refine V_getR (q := 109) g dX1_makeNew_106 rfl f_X1_36 rfl hL.1 rfl ?_
  refine V_iconst (q := 110) g dX1_makeNew_109 rfl ?_
  refine V_bipush (q := 112) g dX1_makeNew_110 (by decide) rfl ?_
  refine V_callNV_3 (q := 115) g (c_X4_put l hL.2.2.2.2.2.2.2.2.2.1 (by decide) (by decide)) dX1_makeNew_112 k_X1_56 rfl rfl ⟨rfl, rfl⟩ rfl (fun M20 e20 => ?_)
  obtain rfl := e20
  exact V_return g r dX1_makeNew_115 (show Off (newO M o) o fNew ∧ Oth M (newO M o) o from ⟨Off_newO, Oth_newO⟩)
