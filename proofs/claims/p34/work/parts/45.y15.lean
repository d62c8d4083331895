/-- the numbers f are saved in the slot at a -/
def Sav (M : MM) (a : Nat) (f : Int → Int) (M1 : MM) : Prop := ∃ M2, Off M2 (a + 1) f ∧ Oth M M2 (a + 1) ∧ wr M2 a 1 1 = M1
/-- the numbers g are the office's again -/
def Rst (M : MM) (s : Nat) (g : Int → Int) (M1 : MM) : Prop := ∃ M2, Off M2 (s + 1) g ∧ Oth M M2 (s + 1) ∧ wr M2 (s + 23) 2 0 = M1
abbrev rm_X4_append : Room := { frames := 6, cells := 1, slots := 6, locals := 90 }
set_option maxHeartbeats 4000000 in
set_option maxRecDepth 100000 in
theorem c_X4_append (l : Launch) (hfl : l.stackTraces = false) {D : DD} {Λ : LY} {M : MM} {s : Nat} {c : Int} (hL : ClsL D Λ s) (hz : 0 ≤ M (s + 214) 1 ∧ M (s + 214) 1 ≤ 120) (hr1 : inR c) : CXI l yX4_append cX4_append 2 .int rm_X4_append [.ref s, vi c] D Λ M (fun z M1 => (0 ≤ c ∧ c ≤ 255) ∧ (M (s + 214) 1 ≠ 120) ∧ z = M (s + 214) 1 + 1 ∧ wr (wr M (s + 214 + 1) (M (s + 214) 1) c) (s + 214) 1 (M (s + 214) 1 + 1) = M1) (fun E M1 => (¬ (0 ≤ c ∧ c ≤ 255) ∧ E = xIA ∧ M = M1) ∨ ((0 ≤ c ∧ c ≤ 255) ∧ ¬ (M (s + 214) 1 ≠ 120) ∧ E = xIS ∧ M = M1)) := by
  refine CXI_of rfl rfl (Nat.le_of_ble_eq_true rfl) (fun Γ g r => ?_)
  refine V_iload_n (q := 1) g dX4_append_0 rfl rfl ?_
  refine V_iconst (q := 2) g dX4_append_1 rfl ?_
  refine V_sipush (q := 5) g dX4_append_2 (by decide) rfl ?_
  refine V_callSI_3 (q := 8) g (c_X4_within l (by omega) (by omega) (by omega)) dX4_append_5 k_X4_43 rfl rfl ⟨rfl, rfl⟩ rfl (fun z1 M1 e1 => ?_)
  obtain ⟨e1, rfl⟩ := e1
  refine V_if_ne (q := 11) g dX4_append_8 (tgt := 21) (by decide) rfl (by omega) (fun h8 => ?_) (fun h8 => ?_)
  · refine V_aload_n (q := 22) g dX4_append_21 rfl rfl ?_
    refine V_getR (q := 25) g dX4_append_22 rfl f_X4_39 rfl hL.1 rfl ?_
    refine V_callVI_0 (q := 28) g (c_X2_isFull l hL.2.2.2.2.2.2.2.2 hz) dX4_append_25 k_X4_54 hL.2.2.2.2.2.2.2.2.1 rfl rfl rfl rfl ⟨rfl, rfl⟩ rfl (fun z2 M2 e2 => ?_)
    obtain ⟨e2, rfl⟩ := e2
    refine V_if_eq (q := 31) g dX4_append_28 (tgt := 41) (by decide) rfl (by omega) (fun h28 => ?_) (fun h28 => ?_)
    · refine V_aload_n (q := 42) g dX4_append_41 rfl rfl ?_
      refine V_getR (q := 45) g dX4_append_42 rfl f_X4_39 rfl hL.1 rfl ?_
      refine V_iload_n (q := 46) g dX4_append_45 rfl rfl ?_
      refine V_callVI_1 (q := 49) g (c_X2_add l hL.2.2.2.2.2.2.2.2 (by omega)) dX4_append_46 k_X4_63 hL.2.2.2.2.2.2.2.2.1 rfl rfl rfl rfl ⟨rfl, rfl⟩ rfl (fun z3 M3 e3 => ?_)
      obtain ⟨e3, rfl⟩ := e3
      exact V_ireturnX g r rfl dX4_append_49 rfl ⟨by omega, by omega, e3, rfl⟩
    · exact V_throwS g r hfl th_IS (List.mem_of_getElem? (i := 1) rfl) dX4_append_31 dX4_append_34 dX4_append_35 dX4_append_37 dX4_append_40 rfl (by first | exact ⟨by omega, rfl, rfl⟩ | exact Or.inl ⟨by omega, rfl, rfl⟩ | exact Or.inr ⟨by omega, by omega, rfl, rfl⟩ | exact Or.inr (Or.inl ⟨by omega, by omega, rfl, rfl⟩))
  · exact V_throwS g r hfl th_IA (List.mem_of_getElem? (i := 0) rfl) dX4_append_11 dX4_append_14 dX4_append_15 dX4_append_17 dX4_append_20 rfl (by first | exact ⟨by omega, rfl, rfl⟩ | exact Or.inl ⟨by omega, rfl, rfl⟩ | exact Or.inr ⟨by omega, by omega, rfl, rfl⟩ | exact Or.inr (Or.inl ⟨by omega, by omega, rfl, rfl⟩))
abbrev rm_X4_undo : Room := { frames := 6, cells := 1, slots := 6, locals := 90 }
set_option maxHeartbeats 4000000 in
set_option maxRecDepth 100000 in
theorem c_X4_undo (l : Launch) (hfl : l.stackTraces = false) {D : DD} {Λ : LY} {M : MM} {s : Nat} {f : Int → Int} (hL : ClsL D Λ s) (hn : 0 ≤ M (s + 23) 1 ∧ M (s + 23) 1 < 15) (hc : 0 ≤ M (s + 23) 2 ∧ M (s + 23) 2 ≤ 14) (hB : M (s + 23) 2 ≠ 0 → Off M (gO (s + 23) ((M (s + 23) 1 + 14) % 15).toNat) f ∧ Inv f) : CXI l yX4_undo cX4_undo 1 .int rm_X4_undo [.ref s] D Λ M (fun z M1 => (M (s + 23) 2 ≠ 0) ∧ z = M (s + 23) 2 - 1 ∧ Off M1 (s + 1) f ∧ Oth (wr (wr M (s + 23) 2 (M (s + 23) 2 - 1)) (s + 23) 1 ((M (s + 23) 1 + 14) % 15)) M1 (s + 1)) (fun E M1 => ¬ (M (s + 23) 2 ≠ 0) ∧ E = xIS ∧ M = M1) := by
  refine CXI_of rfl rfl (Nat.le_of_ble_eq_true rfl) (fun Γ g r => ?_)
  refine V_aload_n (q := 1) g dX4_undo_0 rfl rfl ?_
  refine V_getR (q := 4) g dX4_undo_1 rfl f_X4_22 rfl hL.1 rfl ?_
  refine V_getIN (q := 7) g dX4_undo_4 rfl f_X4_221 rfl hL.2.2.2.1.1 rfl (j := 2) rfl ?_
  refine V_if_ne (q := 10) g dX4_undo_7 (tgt := 20) (by decide) rfl (by omega) (fun h7 => ?_) (fun h7 => ?_)
  · refine V_aload_n (q := 21) g dX4_undo_20 rfl rfl ?_
    refine V_getR (q := 24) g dX4_undo_21 rfl f_X4_22 rfl hL.1 rfl ?_
    refine V_aload_n (q := 25) g dX4_undo_24 rfl rfl ?_
    refine V_getR (q := 28) g dX4_undo_25 rfl f_X4_10 rfl hL.1 rfl ?_
    refine V_callVV_1 (q := 31) g (c_X0_takeBack l hL.2.2.2.1 hL.2.1 hn (by omega) (hB h7).1 (hB h7).2 (fun i hi => by unfold gO; omega)) dX4_undo_28 k_X4_226 hL.2.2.2.1.1 rfl rfl rfl rfl ⟨rfl, rfl⟩ rfl (fun M1 e1 => ?_)
    obtain ⟨hO1, hT1⟩ := e1
    refine V_aload_n (q := 32) g dX4_undo_31 rfl rfl ?_
    refine V_getR (q := 35) g dX4_undo_32 rfl f_X4_22 rfl hL.1 rfl ?_
    refine V_getIN (q := 38) g dX4_undo_35 rfl f_X4_221 rfl hL.2.2.2.1.1 rfl (j := 2) rfl ?_
    rw [hT1 (s + 23) (by omega), wr_ii _ _ _ (by decide), wr_iv]
    exact V_ireturnX g r rfl dX4_undo_38 rfl ⟨by omega, rfl, hO1, hT1⟩
  · exact V_throwS g r hfl th_IS (List.mem_of_getElem? (i := 15) rfl) dX4_undo_10 dX4_undo_13 dX4_undo_14 dX4_undo_16 dX4_undo_19 rfl (by first | exact ⟨by omega, rfl, rfl⟩ | exact Or.inl ⟨by omega, rfl, rfl⟩ | exact Or.inr ⟨by omega, by omega, rfl, rfl⟩ | exact Or.inr (Or.inl ⟨by omega, by omega, rfl, rfl⟩))
abbrev rm_X4_bestSaw : Room := { frames := 7, cells := 1, slots := 6, locals := 120 }
set_option maxHeartbeats 4000000 in
set_option maxRecDepth 100000 in
theorem c_X4_bestSaw (l : Launch) (hfl : l.stackTraces = false) {D : DD} {Λ : LY} {M : MM} {s : Nat} {f : Int → Int} {c : Int} (hL : ClsL D Λ s) (hO : Off M (s + 1) f) (hI : Inv f) (hr1 : inR c) : CXI l yX4_bestSaw cX4_bestSaw 2 .int rm_X4_bestSaw [.ref s, vi c] D Λ M (fun z M1 => (0 ≤ c ∧ c < f 0) ∧ z = sBs f c ∧ Oth M M1 (s + 12)) (fun E M1 => ¬ ((0 ≤ c ∧ c < f 0)) ∧ E = xIO ∧ M = M1) := by
  refine CXI_of rfl rfl (Nat.le_of_ble_eq_true rfl) (fun Γ g r => ?_)
  have h0 := hI.1
  have h1 := hI.2.1
  refine V_aload_n (q := 1) g dX4_bestSaw_0 rfl rfl ?_
  refine V_iload_n (q := 2) g dX4_bestSaw_1 rfl rfl ?_
  refine V_callVXV_1 (q := 5) g (c_X4_needChair l hfl hL hO hI (by omega)) dX4_bestSaw_2 k_X4_115 hL.1 rfl rfl rfl rfl rfl (fun M1 e1 => ?_) (fun E1 M1 x1 => VX_out g r rfl ((by obtain ⟨hn, rfl, rfl⟩ := x1; first | exact ⟨by omega, rfl, rfl⟩ | exact Or.inl ⟨by omega, rfl, rfl⟩ | exact Or.inr ⟨by omega, by omega, rfl, rfl⟩)))
  obtain ⟨e1, rfl⟩ := e1
  refine V_aload_n (q := 6) g dX4_bestSaw_5 rfl rfl ?_
  refine V_getR (q := 9) g dX4_bestSaw_6 rfl f_X4_16 rfl hL.1 rfl ?_
  refine V_aload_n (q := 10) g dX4_bestSaw_9 rfl rfl ?_
  refine V_getR (q := 13) g dX4_bestSaw_10 rfl f_X4_10 rfl hL.1 rfl ?_
  refine V_callVV_1 (q := 16) g (c_X1_copyFrom l hL.2.2.1 hL.2.1 hO hI (by omega)) dX4_bestSaw_13 k_X4_237 hL.2.2.1.1 rfl rfl rfl rfl ⟨rfl, rfl⟩ rfl (fun M2 e2 => ?_)
  obtain ⟨hO2, hT2⟩ := e2
  refine V_aload_n (q := 17) g dX4_bestSaw_16 rfl rfl ?_
  refine V_getR (q := 20) g dX4_bestSaw_17 rfl f_X4_16 rfl hL.1 rfl ?_
  refine V_iload_n (q := 21) g dX4_bestSaw_20 rfl rfl ?_
  refine V_callVI_1 (q := 24) g (c_X1_bestSawnLeg l hL.2.2.1 hO2 hI (by omega)) dX4_bestSaw_21 k_X4_240 hL.2.2.1.1 rfl rfl rfl rfl ⟨rfl, rfl⟩ rfl (fun z3 M3 e3 => ?_)
  obtain ⟨⟨e3, b3⟩, hO3, hT3⟩ := e3
  exact V_ireturnX g r rfl dX4_bestSaw_24 rfl ⟨by omega, e3, hT2.tr hT3⟩
abbrev rm_X4_failsIn : Room := { frames := 7, cells := 2, slots := 12, locals := 118 }
set_option maxHeartbeats 4000000 in
set_option maxRecDepth 100000 in
theorem c_X4_failsIn (l : Launch) (hfl : l.stackTraces = false) {D : DD} {Λ : LY} {M : MM} {s : Nat} {f : Int → Int} {c wt : Int} (hL : ClsL D Λ s) (hO : Off M (s + 1) f) (hI : Inv f) (hr1 : inR c) (hr2 : inR wt) : CXI l yX4_failsIn cX4_failsIn 4 .int rm_X4_failsIn [.ref s, vi c, vi wt] D Λ M (fun z M1 => (0 ≤ c ∧ c < f 0) ∧ (1 ≤ wt ∧ wt ≤ 200) ∧ z = sFail f c wt ∧ Oth M M1 (s + 12)) (fun E M1 => (¬ ((0 ≤ c ∧ c < f 0)) ∧ E = xIO ∧ M = M1) ∨ (((0 ≤ c ∧ c < f 0)) ∧ ¬ (1 ≤ wt ∧ wt ≤ 200) ∧ E = xIA ∧ M = M1)) := by
  refine CXI_of rfl rfl (Nat.le_of_ble_eq_true rfl) (fun Γ g r => ?_)
  have h0 := hI.1
  have h1 := hI.2.1
  refine V_aload_n (q := 1) g dX4_failsIn_0 rfl rfl ?_
  refine V_iload_n (q := 2) g dX4_failsIn_1 rfl rfl ?_
  refine V_callVXV_1 (q := 5) g (c_X4_needChair l hfl hL hO hI (by omega)) dX4_failsIn_2 k_X4_115 hL.1 rfl rfl rfl rfl rfl (fun M1 e1 => ?_) (fun E1 M1 x1 => VX_out g r rfl ((by obtain ⟨hn, rfl, rfl⟩ := x1; first | exact ⟨by omega, rfl, rfl⟩ | exact Or.inl ⟨by omega, rfl, rfl⟩ | exact Or.inr ⟨by omega, by omega, rfl, rfl⟩)))
  obtain ⟨e1, rfl⟩ := e1
  refine V_iload_n (q := 6) g dX4_failsIn_5 rfl rfl ?_
  refine V_iconst (q := 7) g dX4_failsIn_6 rfl ?_
  refine V_sipush (q := 10) g dX4_failsIn_7 (by decide) rfl ?_
  refine V_callSI_3 (q := 13) g (c_X4_within l (by omega) (by omega) (by omega)) dX4_failsIn_10 k_X4_43 rfl rfl ⟨rfl, rfl⟩ rfl (fun z2 M2 e2 => ?_)
  obtain ⟨e2, rfl⟩ := e2
  refine V_if_ne (q := 16) g dX4_failsIn_13 (tgt := 26) (by decide) rfl (by omega) (fun h13 => ?_) (fun h13 => ?_)
  · refine V_aload_n (q := 27) g dX4_failsIn_26 rfl rfl ?_
    refine V_getR (q := 30) g dX4_failsIn_27 rfl f_X4_16 rfl hL.1 rfl ?_
    refine V_aload_n (q := 31) g dX4_failsIn_30 rfl rfl ?_
    refine V_getR (q := 34) g dX4_failsIn_31 rfl f_X4_10 rfl hL.1 rfl ?_
    refine V_callVV_1 (q := 37) g (c_X1_copyFrom l hL.2.2.1 hL.2.1 hO hI (by omega)) dX4_failsIn_34 k_X4_237 hL.2.2.1.1 rfl rfl rfl rfl ⟨rfl, rfl⟩ rfl (fun M3 e3 => ?_)
    obtain ⟨hO3, hT3⟩ := e3
    refine V_iconst (q := 38) g dX4_failsIn_37 rfl ?_
    refine V_istore_n_3 (q := 39) g dX4_failsIn_38 (by decide) rfl rfl ?_
    have hloop : ∀ (k9 : Nat) (n : Nat) (Mx : MM), n + k9 = 101 → sFail f c wt = sFl f c wt k9 n → Off Mx (s + 12) (fSitI f c wt n) → Oth M Mx (s + 12) → V Γ D Λ Mx (1, 6) 39 [some (.ref s), some (vi c), some (vi wt), some (vi (n : Int))] [] := by
      intro k9
      induction k9 with
      | zero =>
        intro n Mx h2 h3 hOx hTx
        have jn := fSitI_r hI (c := c) (by omega) (wt := wt) (by omega) n
        have jc : 0 ≤ c ∧ c < fSitI f c wt n 0 := by rw [jn.2]; omega
        refine V_iload_n (q := 40) g dX4_failsIn_39 rfl rfl ?_
        refine V_bipush (q := 42) g dX4_failsIn_40 (by decide) rfl ?_
        refine V_icmp_gt (q := 45) g dX4_failsIn_42 (tgt := 74) (by decide) rfl (by omega) (by omega) (fun h42 => ?_) (fun h42 => absurd h42 (by omega))
        refine V_iconst (q := 75) g dX4_failsIn_74 rfl ?_
        exact V_ireturnX g r rfl dX4_failsIn_75 rfl ⟨by omega, by omega, h3.symm, hTx⟩
      | succ k9 ih =>
        intro n Mx h2 h3 hOx hTx
        have jn := fSitI_r hI (c := c) (by omega) (wt := wt) (by omega) n
        have jc : 0 ≤ c ∧ c < fSitI f c wt n 0 := by rw [jn.2]; omega
        refine V_iload_n (q := 40) g dX4_failsIn_39 rfl rfl ?_
        refine V_bipush (q := 42) g dX4_failsIn_40 (by decide) rfl ?_
        refine V_icmp_gt (q := 45) g dX4_failsIn_42 (tgt := 74) (by decide) rfl (by omega) (by omega) (fun h42 => absurd h42 (by omega)) (fun h42 => ?_)
        refine V_aload_n (q := 46) g dX4_failsIn_45 rfl rfl ?_
        refine V_getR (q := 49) g dX4_failsIn_46 rfl f_X4_16 rfl hL.1 rfl ?_
        refine V_iload_n (q := 50) g dX4_failsIn_49 rfl rfl ?_
        refine V_callVI_1 (q := 53) g (c_X1_reason l hL.2.2.1 hOx jn.1 jc) dX4_failsIn_50 k_X4_140 hL.2.2.1.1 rfl rfl rfl rfl ⟨rfl, rfl⟩ rfl (fun z4 M4 e4 => ?_)
        obtain ⟨⟨e4, b4⟩, rfl⟩ := e4
        refine V_if_eq (q := 56) g dX4_failsIn_53 (tgt := 58) (by decide) rfl (by omega) (fun h53 => ?_) (fun h53 => ?_)
        · refine V_aload_n (q := 59) g dX4_failsIn_58 rfl rfl ?_
          refine V_getR (q := 62) g dX4_failsIn_59 rfl f_X4_16 rfl hL.1 rfl ?_
          refine V_iload_n (q := 63) g dX4_failsIn_62 rfl rfl ?_
          refine V_iload_n (q := 64) g dX4_failsIn_63 rfl rfl ?_
          refine V_callVI_2 (q := 67) g (c_X1_sitDown l hL.2.2.1 hOx jn.1 (by omega) (by omega)) dX4_failsIn_64 k_X4_212 hL.2.2.1.1 rfl rfl rfl rfl ⟨rfl, rfl⟩ rfl (fun z5 M5 e5 => ?_)
          obtain e5 := e5
          obtain ⟨-, -, -, -, hO9, hT9⟩ := (e5.resolve_left (fun q => q.2.1 jc)).resolve_left (fun q => q.2.2.1 ⟨by omega, by omega⟩)
          refine V_pop (q := 68) g dX4_failsIn_67 rfl rfl ?_
          refine V_iinc_3 (q := 71) g dX4_failsIn_68 (by decide) rfl rfl ?_
          refine V_goto g dX4_failsIn_71 (tgt := 39) (by decide) ?_
          exact ih (n + 1) _ (by omega) (by rw [h3, sFl, if_neg (by omega)]) hO9 (hTx.tr hT9)
        · refine V_iload_n (q := 57) g dX4_failsIn_56 rfl rfl ?_
          exact V_ireturnX g r rfl dX4_failsIn_57 rfl ⟨by omega, by omega, (by rw [h3, sFl, if_pos (by omega)]), hTx⟩
    exact hloop 101 0 _ (by omega) rfl hO3 hT3
  · exact V_throwS g r hfl th_IA (List.mem_of_getElem? (i := 17) rfl) dX4_failsIn_16 dX4_failsIn_19 dX4_failsIn_20 dX4_failsIn_22 dX4_failsIn_25 rfl (by first | exact ⟨by omega, rfl, rfl⟩ | exact Or.inl ⟨by omega, rfl, rfl⟩ | exact Or.inr ⟨by omega, by omega, rfl, rfl⟩ | exact Or.inr (Or.inl ⟨by omega, by omega, rfl, rfl⟩))
abbrev rm_X4_sound : Room := { frames := 4, cells := 0, slots := 0, locals := 97 }
set_option maxHeartbeats 4000000 in
set_option maxRecDepth 100000 in
theorem c_X4_sound (l : Launch) {D : DD} {Λ : LY} {M : MM} {s : Nat} {f : Int → Int} (hL : ClsL D Λ s) (hO : Off M (s + 1) f) (hI : Inv f) : CI l yX4_sound cX4_sound 3 .int rm_X4_sound [.ref s] D Λ M (fun z M1 => z = (sSnd f (f 0).toNat).toInt ∧ M = M1) := by
  refine CI_of rfl rfl (Nat.le_of_ble_eq_true rfl) (fun Γ g r => ?_)
  have h0 := hI.1
  have h1 := hI.2.1
  refine V_iconst (q := 1) g dX4_sound_0 rfl ?_
  refine V_istore_n_1 (q := 2) g dX4_sound_1 (by decide) rfl rfl ?_
  refine V_iconst (q := 3) g dX4_sound_2 rfl ?_
  refine V_istore_n_2 (q := 4) g dX4_sound_3 (by decide) rfl rfl ?_
  have hloop : ∀ (k9 : Nat) (n : Nat), (n : Int) ≤ f 0 → f 0 - n ≤ k9 → V Γ D Λ M (0, 0) 4 [some (.ref s), some (.int (sSnd f n)), some (vi (n : Int))] [] := by
    intro k9
    induction k9 with
    | zero =>
      intro n h2 h3
      refine V_iload_n (q := 5) g dX4_sound_4 rfl rfl ?_
      refine V_aload_n (q := 6) g dX4_sound_5 rfl rfl ?_
      refine V_getR (q := 9) g dX4_sound_6 rfl f_X4_10 rfl hL.1 rfl ?_
      refine V_getIN (q := 12) g dX4_sound_9 rfl f_X4_97 rfl hL.2.1.1 rfl (j := 0) rfl ?_
      rw [hO.1]
      refine V_icmp_ge (q := 15) g dX4_sound_12 (tgt := 38) (by decide) rfl (by omega) (by omega) (fun h12 => ?_) (fun h12 => absurd h12 (by omega))
      have hn : n = (f 0).toNat := by omega
      subst hn
      refine V_iload_n (q := 39) g dX4_sound_38 rfl rfl ?_
      rw [← iI_self (sSnd f (f 0).toNat)]
      exact V_ireturn g r dX4_sound_39 rfl ⟨rfl, rfl⟩
    | succ k9 ih =>
      intro n h2 h3
      refine V_iload_n (q := 5) g dX4_sound_4 rfl rfl ?_
      refine V_aload_n (q := 6) g dX4_sound_5 rfl rfl ?_
      refine V_getR (q := 9) g dX4_sound_6 rfl f_X4_10 rfl hL.1 rfl ?_
      refine V_getIN (q := 12) g dX4_sound_9 rfl f_X4_97 rfl hL.2.1.1 rfl (j := 0) rfl ?_
      rw [hO.1]
      refine V_icmp_ge (q := 15) g dX4_sound_12 (tgt := 38) (by decide) rfl (by omega) (by omega) (fun h12 => ?_) (fun h12 => ?_)
      · have hn : n = (f 0).toNat := by omega
        subst hn
        refine V_iload_n (q := 39) g dX4_sound_38 rfl rfl ?_
        rw [← iI_self (sSnd f (f 0).toNat)]
        exact V_ireturn g r dX4_sound_39 rfl ⟨rfl, rfl⟩
      · refine V_aload_n (q := 16) g dX4_sound_15 rfl rfl ?_
        refine V_getR (q := 19) g dX4_sound_16 rfl f_X4_10 rfl hL.1 rfl ?_
        refine V_iload_n (q := 20) g dX4_sound_19 rfl rfl ?_
        refine V_callVI_1 (q := 23) g (c_X1_reason l hL.2.1 hO hI (by omega)) dX4_sound_20 k_X4_140 hL.2.1.1 rfl rfl rfl rfl ⟨rfl, rfl⟩ rfl (fun z1 M1 e1 => ?_)
        obtain ⟨⟨e1, b1⟩, rfl⟩ := e1
        refine V_if_ne (q := 26) g dX4_sound_23 (tgt := 32) (by decide) rfl (by omega) (fun h23 => ?_) (fun h23 => ?_)
        · have hy : sSnd f n = sSnd f (n + 1) := by rw [sSnd, if_neg (by omega)]
          rw [hy]
          refine V_iinc_2 (q := 35) g dX4_sound_32 (by decide) rfl rfl ?_
          refine V_goto g dX4_sound_35 (tgt := 4) (by decide) ?_
          exact ih (n + 1) (by omega) (by omega)
        · refine V_iload_n (q := 27) g dX4_sound_26 rfl rfl ?_
          refine V_iconst (q := 28) g dX4_sound_27 rfl ?_
          refine V_iload_n (q := 29) g dX4_sound_28 rfl rfl ?_
          refine V_ishl0 (q := 30) g dX4_sound_29 rfl ?_
          refine V_ior0 (q := 31) g dX4_sound_30 rfl ?_
          have hx : sSnd f n ||| (iI 1 <<< (iI n &&& 31)) = sSnd f (n + 1) := by rw [sSnd, if_pos (by omega)]
          rw [hx]
          refine V_istore_n_1 (q := 32) g dX4_sound_31 (by decide) rfl rfl ?_
          refine V_iinc_2 (q := 35) g dX4_sound_32 (by decide) rfl rfl ?_
          refine V_goto g dX4_sound_35 (tgt := 4) (by decide) ?_
          exact ih (n + 1) (by omega) (by omega)
  exact hloop (f 0).toNat 0 (by omega) (by omega)
abbrev rm_X4_save : Room := { frames := 7, cells := 1, slots := 6, locals := 110 }
set_option maxHeartbeats 4000000 in
set_option maxRecDepth 100000 in
theorem c_X4_save (l : Launch) (hfl : l.stackTraces = false) {D : DD} {Λ : LY} {M : MM} {s : Nat} {f : Int → Int} {k : Int} (hL : ClsL D Λ s) (hO : Off M (s + 1) f) (hI : Inv f) (hr1 : inR k) : CXI l yX4_save cX4_save 3 .int rm_X4_save [.ref s, vi k] D Λ M (fun z M1 => (0 ≤ k ∧ k ≤ 1) ∧ z = sStamped f ∧ ((k = 0 ∧ Sav M (s + 190) f M1) ∨ (k = 1 ∧ Sav M (s + 202) f M1))) (fun E M1 => ¬ (0 ≤ k ∧ k ≤ 1) ∧ E = xIO ∧ M = M1) := by
  refine CXI_of rfl rfl (Nat.le_of_ble_eq_true rfl) (fun Γ g r => ?_)
  have h0 := hI.1
  have h1 := hI.2.1
  refine V_iload_n (q := 1) g dX4_save_0 rfl rfl ?_
  refine V_callSXV_1 (q := 4) g (c_X4_needSlot l hfl (by omega)) dX4_save_1 k_X4_270 rfl rfl rfl (fun M1 e1 => ?_) (fun E1 M1 x1 => VX_out g r rfl ((by obtain ⟨hn, rfl, rfl⟩ := x1; first | exact ⟨by omega, rfl, rfl⟩ | exact Or.inl ⟨by omega, rfl, rfl⟩ | exact Or.inr ⟨by omega, by omega, rfl, rfl⟩)))
  obtain ⟨e1, rfl⟩ := e1
  refine V_iload_n (q := 5) g dX4_save_4 rfl rfl ?_
  refine V_if_ne (q := 8) g dX4_save_5 (tgt := 15) (by decide) rfl (by omega) (fun h5 => ?_) (fun h5 => ?_)
  · refine V_aload_n (q := 16) g dX4_save_15 rfl rfl ?_
    refine V_getR (q := 19) g dX4_save_16 rfl f_X4_33 rfl hL.1 rfl ?_
    refine V_astore_n_2 (q := 20) g dX4_save_19 (by decide) rfl rfl ?_
    refine V_aload_n (q := 21) g dX4_save_20 rfl rfl ?_
    refine V_getRN (q := 24) g dX4_save_21 rfl f_X4_273 rfl hL.2.2.2.2.2.2.1 rfl ?_
    refine V_aload_n (q := 25) g dX4_save_24 rfl rfl ?_
    refine V_getR (q := 28) g dX4_save_25 rfl f_X4_10 rfl hL.1 rfl ?_
    refine V_callVV_1 (q := 31) g (c_X1_copyFrom l hL.2.2.2.2.2.2.2.1 hL.2.1 hO hI (by omega)) dX4_save_28 k_X4_237 hL.2.2.2.2.2.2.2.1.1 rfl rfl rfl rfl ⟨rfl, rfl⟩ rfl (fun M2 e2 => ?_)
    obtain ⟨hO2, hT2⟩ := e2
    have hOf : Off M2 (s + 1) f := hO.oth hT2 (by omega)
    refine V_aload_n (q := 32) g dX4_save_31 rfl rfl ?_
    refine V_iconst (q := 33) g dX4_save_32 rfl ?_
    refine V_putIN (q := 36) g dX4_save_33 rfl f_X4_82 tyX3_ok nmX3 rfl hL.2.2.2.2.2.2.1 rfl rfl (ty := .boolean) rfl (by decide) (by decide) (j := 1) rfl ?_
    refine V_aload_n (q := 37) g dX4_save_36 rfl rfl ?_
    refine V_getR (q := 40) g dX4_save_37 rfl f_X4_10 rfl hL.1 rfl ?_
    refine V_callVI_0 (q := 43) g (c_X1_stampedChairs l hL.2.1 (hOf.eqv (fun b h1 h2 => wr_ne _ _ _ (by omega))) hI) dX4_save_40 k_X4_104 hL.2.1.1 rfl rfl rfl rfl ⟨rfl, rfl⟩ rfl (fun z3 M3 e3 => ?_)
    obtain ⟨⟨e3, b3⟩, rfl⟩ := e3
    exact V_ireturnX g r rfl dX4_save_43 rfl ⟨by omega, e3, Or.inr ⟨by omega, _, hO2, hT2, rfl⟩⟩
  · refine V_aload_n (q := 9) g dX4_save_8 rfl rfl ?_
    refine V_getR (q := 12) g dX4_save_9 rfl f_X4_29 rfl hL.1 rfl ?_
    refine V_goto g dX4_save_12 (tgt := 19) (by decide) ?_
    refine V_astore_n_2 (q := 20) g dX4_save_19 (by decide) rfl rfl ?_
    refine V_aload_n (q := 21) g dX4_save_20 rfl rfl ?_
    refine V_getRN (q := 24) g dX4_save_21 rfl f_X4_273 rfl hL.2.2.2.2.1 rfl ?_
    refine V_aload_n (q := 25) g dX4_save_24 rfl rfl ?_
    refine V_getR (q := 28) g dX4_save_25 rfl f_X4_10 rfl hL.1 rfl ?_
    refine V_callVV_1 (q := 31) g (c_X1_copyFrom l hL.2.2.2.2.2.1 hL.2.1 hO hI (by omega)) dX4_save_28 k_X4_237 hL.2.2.2.2.2.1.1 rfl rfl rfl rfl ⟨rfl, rfl⟩ rfl (fun M4 e4 => ?_)
    obtain ⟨hO4, hT4⟩ := e4
    have hOf : Off M4 (s + 1) f := hO.oth hT4 (by omega)
    refine V_aload_n (q := 32) g dX4_save_31 rfl rfl ?_
    refine V_iconst (q := 33) g dX4_save_32 rfl ?_
    refine V_putIN (q := 36) g dX4_save_33 rfl f_X4_82 tyX3_ok nmX3 rfl hL.2.2.2.2.1 rfl rfl (ty := .boolean) rfl (by decide) (by decide) (j := 1) rfl ?_
    refine V_aload_n (q := 37) g dX4_save_36 rfl rfl ?_
    refine V_getR (q := 40) g dX4_save_37 rfl f_X4_10 rfl hL.1 rfl ?_
    refine V_callVI_0 (q := 43) g (c_X1_stampedChairs l hL.2.1 (hOf.eqv (fun b h1 h2 => wr_ne _ _ _ (by omega))) hI) dX4_save_40 k_X4_104 hL.2.1.1 rfl rfl rfl rfl ⟨rfl, rfl⟩ rfl (fun z5 M5 e5 => ?_)
    obtain ⟨⟨e5, b5⟩, rfl⟩ := e5
    exact V_ireturnX g r rfl dX4_save_43 rfl ⟨by omega, e5, Or.inl ⟨by omega, _, hO4, hT4, rfl⟩⟩
abbrev rm_X4_restore : Room := { frames := 7, cells := 2, slots := 12, locals := 110 }
set_option maxHeartbeats 4000000 in
set_option maxRecDepth 100000 in
theorem c_X4_restore (l : Launch) (hfl : l.stackTraces = false) {D : DD} {Λ : LY} {M : MM} {s : Nat} {g0 g1 : Int → Int} {k : Int} (hL : ClsL D Λ s) (hz0 : 0 ≤ M (s + 190) 1 ∧ M (s + 190) 1 ≤ 1) (hz1 : 0 ≤ M (s + 202) 1 ∧ M (s + 202) 1 ≤ 1) (hJ0 : M (s + 190) 1 ≠ 0 → Off M (s + 191) g0 ∧ Inv g0) (hJ1 : M (s + 202) 1 ≠ 0 → Off M (s + 203) g1 ∧ Inv g1) (hr1 : inR k) : CXI l yX4_restore cX4_restore 3 .int rm_X4_restore [.ref s, vi k] D Λ M (fun z M1 => (0 ≤ k ∧ k ≤ 1) ∧ ((k = 0 ∧ M (s + 190) 1 ≠ 0 ∧ z = sStamped g0 ∧ Rst M s g0 M1) ∨ (k = 1 ∧ M (s + 202) 1 ≠ 0 ∧ z = sStamped g1 ∧ Rst M s g1 M1))) (fun E M1 => (¬ (0 ≤ k ∧ k ≤ 1) ∧ E = xIO ∧ M = M1) ∨ ((0 ≤ k ∧ k ≤ 1) ∧ (k = 0 → M (s + 190) 1 = 0) ∧ (k = 1 → M (s + 202) 1 = 0) ∧ E = xIS ∧ M = M1)) := by
  refine CXI_of rfl rfl (Nat.le_of_ble_eq_true rfl) (fun Γ g r => ?_)
  refine V_iload_n (q := 1) g dX4_restore_0 rfl rfl ?_
  refine V_callSXV_1 (q := 4) g (c_X4_needSlot l hfl (by omega)) dX4_restore_1 k_X4_270 rfl rfl rfl (fun M1 e1 => ?_) (fun E1 M1 x1 => VX_out g r rfl ((by obtain ⟨hn, rfl, rfl⟩ := x1; first | exact ⟨by omega, rfl, rfl⟩ | exact Or.inl ⟨by omega, rfl, rfl⟩ | exact Or.inr ⟨by omega, by omega, rfl, rfl⟩)))
  obtain ⟨e1, rfl⟩ := e1
  refine V_iload_n (q := 5) g dX4_restore_4 rfl rfl ?_
  refine V_if_ne (q := 8) g dX4_restore_5 (tgt := 15) (by decide) rfl (by omega) (fun h5 => ?_) (fun h5 => ?_)
  · refine V_aload_n (q := 16) g dX4_restore_15 rfl rfl ?_
    refine V_getR (q := 19) g dX4_restore_16 rfl f_X4_33 rfl hL.1 rfl ?_
    refine V_astore_n_2 (q := 20) g dX4_restore_19 (by decide) rfl rfl ?_
    refine V_aload_n (q := 21) g dX4_restore_20 rfl rfl ?_
    refine V_getIN (q := 24) g dX4_restore_21 rfl f_X4_82 rfl hL.2.2.2.2.2.2.1 rfl (j := 1) rfl ?_
    refine V_if_ne (q := 27) g dX4_restore_24 (tgt := 38) (by decide) rfl (by omega) (fun h24 => ?_) (fun h24 => ?_)
    · refine V_aload_n (q := 39) g dX4_restore_38 rfl rfl ?_
      refine V_getR (q := 42) g dX4_restore_39 rfl f_X4_10 rfl hL.1 rfl ?_
      refine V_aload_n (q := 43) g dX4_restore_42 rfl rfl ?_
      refine V_getRN (q := 46) g dX4_restore_43 rfl f_X4_273 rfl hL.2.2.2.2.2.2.1 rfl ?_
      refine V_callVV_1 (q := 49) g (c_X1_copyFrom l hL.2.1 hL.2.2.2.2.2.2.2.1 (hJ1 h24).1 (hJ1 h24).2 (by omega)) dX4_restore_46 k_X4_237 hL.2.1.1 rfl rfl rfl rfl ⟨rfl, rfl⟩ rfl (fun M2 e2 => ?_)
      obtain ⟨hO2, hT2⟩ := e2
      refine V_aload_n (q := 50) g dX4_restore_49 rfl rfl ?_
      refine V_getR (q := 53) g dX4_restore_50 rfl f_X4_22 rfl hL.1 rfl ?_
      refine V_callVV_0 (q := 56) g (c_X0_forget l hL.2.2.2.1) dX4_restore_53 k_X4_79 hL.2.2.2.1.1 rfl rfl rfl rfl ⟨rfl, rfl⟩ rfl (fun M3 e3 => ?_)
      obtain rfl := e3
      refine V_aload_n (q := 57) g dX4_restore_56 rfl rfl ?_
      refine V_getR (q := 60) g dX4_restore_57 rfl f_X4_10 rfl hL.1 rfl ?_
      refine V_callVI_0 (q := 63) g (c_X1_stampedChairs l hL.2.1 (hO2.eqv (fun b h1 h2 => wr_ne _ _ _ (by omega))) (hJ1 h24).2) dX4_restore_60 k_X4_104 hL.2.1.1 rfl rfl rfl rfl ⟨rfl, rfl⟩ rfl (fun z4 M4 e4 => ?_)
      obtain ⟨⟨e4, b4⟩, rfl⟩ := e4
      exact V_ireturnX g r rfl dX4_restore_63 rfl ⟨by omega, Or.inr ⟨by omega, h24, e4, _, hO2, hT2, rfl⟩⟩
    · exact V_throwSW g r hfl th_IS (List.mem_of_getElem? (i := 19) rfl) dX4_restore_27 dX4_restore_30 dX4_restore_31 dX4_restore_34 dX4_restore_37 rfl (Or.inr ⟨by omega, fun q => by omega, fun q => by omega, rfl, rfl⟩)
  · refine V_aload_n (q := 9) g dX4_restore_8 rfl rfl ?_
    refine V_getR (q := 12) g dX4_restore_9 rfl f_X4_29 rfl hL.1 rfl ?_
    refine V_goto g dX4_restore_12 (tgt := 19) (by decide) ?_
    refine V_astore_n_2 (q := 20) g dX4_restore_19 (by decide) rfl rfl ?_
    refine V_aload_n (q := 21) g dX4_restore_20 rfl rfl ?_
    refine V_getIN (q := 24) g dX4_restore_21 rfl f_X4_82 rfl hL.2.2.2.2.1 rfl (j := 1) rfl ?_
    refine V_if_ne (q := 27) g dX4_restore_24 (tgt := 38) (by decide) rfl (by omega) (fun h24 => ?_) (fun h24 => ?_)
    · refine V_aload_n (q := 39) g dX4_restore_38 rfl rfl ?_
      refine V_getR (q := 42) g dX4_restore_39 rfl f_X4_10 rfl hL.1 rfl ?_
      refine V_aload_n (q := 43) g dX4_restore_42 rfl rfl ?_
      refine V_getRN (q := 46) g dX4_restore_43 rfl f_X4_273 rfl hL.2.2.2.2.1 rfl ?_
      refine V_callVV_1 (q := 49) g (c_X1_copyFrom l hL.2.1 hL.2.2.2.2.2.1 (hJ0 h24).1 (hJ0 h24).2 (by omega)) dX4_restore_46 k_X4_237 hL.2.1.1 rfl rfl rfl rfl ⟨rfl, rfl⟩ rfl (fun M5 e5 => ?_)
      obtain ⟨hO5, hT5⟩ := e5
      refine V_aload_n (q := 50) g dX4_restore_49 rfl rfl ?_
      refine V_getR (q := 53) g dX4_restore_50 rfl f_X4_22 rfl hL.1 rfl ?_
      refine V_callVV_0 (q := 56) g (c_X0_forget l hL.2.2.2.1) dX4_restore_53 k_X4_79 hL.2.2.2.1.1 rfl rfl rfl rfl ⟨rfl, rfl⟩ rfl (fun M6 e6 => ?_)
      obtain rfl := e6
      refine V_aload_n (q := 57) g dX4_restore_56 rfl rfl ?_
      refine V_getR (q := 60) g dX4_restore_57 rfl f_X4_10 rfl hL.1 rfl ?_
      refine V_callVI_0 (q := 63) g (c_X1_stampedChairs l hL.2.1 (hO5.eqv (fun b h1 h2 => wr_ne _ _ _ (by omega))) (hJ0 h24).2) dX4_restore_60 k_X4_104 hL.2.1.1 rfl rfl rfl rfl ⟨rfl, rfl⟩ rfl (fun z7 M7 e7 => ?_)
      obtain ⟨⟨e7, b7⟩, rfl⟩ := e7
      exact V_ireturnX g r rfl dX4_restore_63 rfl ⟨by omega, Or.inl ⟨by omega, h24, e7, _, hO5, hT5, rfl⟩⟩
    · exact V_throwSW g r hfl th_IS (List.mem_of_getElem? (i := 19) rfl) dX4_restore_27 dX4_restore_30 dX4_restore_31 dX4_restore_34 dX4_restore_37 rfl (Or.inr ⟨by omega, fun q => by omega, fun q => by omega, rfl, rfl⟩)
