/-- the newest draft is kept -/
def kdM (M : MM) (y : Nat) : MM := wr (wr M y 1 ((M y 1 + 1) % 15)) y 2 (sMin (M y 2 + 1) 14)
/-- a draft of the numbers f was written -/
def Dft (M : MM) (s : Nat) (f : Int → Int) (M1 : MM) : Prop := Off M1 (gO (s + 23) (M (s + 23) 1).toNat) f ∧ Oth M M1 (gO (s + 23) (M (s + 23) 1).toNat)
/-- an act made the numbers g of f -/
def Act (M : MM) (s : Nat) (f g : Int → Int) (M1 : MM) : Prop := ∃ M2 M3, Dft M s f M2 ∧ Off M3 (s + 1) g ∧ Oth M2 M3 (s + 1) ∧ kdM M3 (s + 23) = M1
theorem b_values (l : Launch) {D : DD} {Λ : LY} {M : MM} {o : Nat} {f : Int → Int} {w : Int} (hL : OffL D Λ o) (hO : Off M o f) (hw : 0 ≤ w ∧ w ≤ 1) : CI l yX4_at cX4_at 2 .int rm_X4_at [.ref (o + 9), vi w] D Λ M (fun z M1 => z = f (10 + w) ∧ M = M1) := by
  rcases (by omega : w = 0 ∨ w = 1) with rfl | rfl
  · exact a_values0 l hL hO
  · exact a_values1 l hL hO
theorem sCh_0 (f : Int → Int) (c : Int) : sChairOf f c 0 = f (44 + 9 * c) := by
  unfold sChairOf
  rw [if_neg (by decide), if_neg (by decide), if_neg (by decide), if_neg (by decide), if_neg (by decide), if_neg (by decide)]
  exact congrArg f (by omega)
theorem sCh_1 (f : Int → Int) (c : Int) : sChairOf f c 1 = f (45 + 9 * c) := by
  unfold sChairOf
  rw [if_neg (by decide), if_neg (by decide), if_neg (by decide), if_neg (by decide), if_neg (by decide), if_neg (by decide)]
  exact congrArg f (by omega)
theorem sCh_2 (f : Int → Int) (c : Int) : sChairOf f c 2 = f (46 + 9 * c) := by
  unfold sChairOf
  rw [if_neg (by decide), if_neg (by decide), if_neg (by decide), if_neg (by decide), if_neg (by decide), if_neg (by decide)]
  exact congrArg f (by omega)
theorem sCh_3 (f : Int → Int) (c : Int) : sChairOf f c 3 = sLn f c := by
  unfold sChairOf
  rw [if_pos rfl]
theorem sCh_4 (f : Int → Int) (c : Int) : sChairOf f c 4 = sSeat f c := by
  unfold sChairOf
  rw [if_neg (by decide), if_pos rfl]
theorem sCh_5 (f : Int → Int) (c : Int) : sChairOf f c 5 = sIdle f c := by
  unfold sChairOf
  rw [if_neg (by decide), if_neg (by decide), if_pos rfl]
theorem sCh_6 (f : Int → Int) (c : Int) : sChairOf f c 6 = f (47 + 9 * c) := by
  unfold sChairOf
  rw [if_neg (by decide), if_neg (by decide), if_neg (by decide), if_pos rfl]
theorem sCh_7 (f : Int → Int) (c : Int) : sChairOf f c 7 = sWhy f c := by
  unfold sChairOf
  rw [if_neg (by decide), if_neg (by decide), if_neg (by decide), if_neg (by decide), if_pos rfl]
theorem sCh_8 (f : Int → Int) (c : Int) : sChairOf f c 8 = f (48 + 9 * c) := by
  unfold sChairOf
  rw [if_neg (by decide), if_neg (by decide), if_neg (by decide), if_neg (by decide), if_neg (by decide), if_pos rfl]
abbrev rm_X4_needChair : Room := { frames := 6, cells := 1, slots := 6, locals := 90 }
set_option maxHeartbeats 4000000 in
set_option maxRecDepth 100000 in
theorem c_X4_needChair (l : Launch) (hfl : l.stackTraces = false) {D : DD} {Λ : LY} {M : MM} {s : Nat} {f : Int → Int} {c : Int} (hL : ClsL D Λ s) (hO : Off M (s + 1) f) (hI : Inv f) (hr : inR c) : CXV l yX4_needChair cX4_needChair 2 rm_X4_needChair [.ref s, vi c] D Λ M (fun M1 => (0 ≤ c ∧ c < f 0) ∧ M = M1) (fun E M1 => ¬ ((0 ≤ c ∧ c < f 0)) ∧ E = xIO ∧ M = M1) := by
  refine CXV_of rfl rfl (Nat.le_of_ble_eq_true rfl) (fun Γ g r => ?_)
  refine V_aload_n (q := 1) g dX4_needChair_0 rfl rfl ?_
  refine V_getR (q := 4) g dX4_needChair_1 rfl f_X4_10 rfl hL.1 rfl ?_
  refine V_iload_n (q := 5) g dX4_needChair_4 rfl rfl ?_
  refine V_callVI_1 (q := 8) g (c_X1_hasChair l hL.2.1 hO hI (by omega)) dX4_needChair_5 k_X4_278 hL.2.1.1 rfl rfl rfl rfl ⟨rfl, rfl⟩ rfl (fun z1 M1 e1 => ?_)
  obtain ⟨e1, rfl⟩ := e1
  refine V_if_ne (q := 11) g dX4_needChair_8 (tgt := 22) (by decide) rfl (by omega) (fun h8 => ?_) (fun h8 => ?_)
  · exact V_returnX g r rfl dX4_needChair_22 ⟨by omega, rfl⟩
  · exact V_throwSW g r hfl th_IO (List.mem_of_getElem? (i := 5) rfl) dX4_needChair_11 dX4_needChair_14 dX4_needChair_15 dX4_needChair_18 dX4_needChair_21 rfl (by first | exact ⟨by omega, rfl, rfl⟩ | exact Or.inl ⟨by omega, rfl, rfl⟩ | exact Or.inr ⟨by omega, by omega, rfl, rfl⟩ | exact Or.inr (Or.inl ⟨by omega, by omega, rfl, rfl⟩))
abbrev rm_X4_needFloor : Room := { frames := 6, cells := 1, slots := 6, locals := 90 }
set_option maxHeartbeats 4000000 in
set_option maxRecDepth 100000 in
theorem c_X4_needFloor (l : Launch) (hfl : l.stackTraces = false) {D : DD} {Λ : LY} {M : MM} {s : Nat} {f : Int → Int} {c : Int} (hL : ClsL D Λ s) (hO : Off M (s + 1) f) (hI : Inv f) (hr : inR c) : CXV l yX4_needFloor cX4_needFloor 2 rm_X4_needFloor [.ref s, vi c] D Λ M (fun M1 => (0 ≤ c ∧ c < f 1) ∧ M = M1) (fun E M1 => ¬ (0 ≤ c ∧ c < f 1) ∧ E = xIO ∧ M = M1) := by
  refine CXV_of rfl rfl (Nat.le_of_ble_eq_true rfl) (fun Γ g r => ?_)
  refine V_aload_n (q := 1) g dX4_needFloor_0 rfl rfl ?_
  refine V_getR (q := 4) g dX4_needFloor_1 rfl f_X4_10 rfl hL.1 rfl ?_
  refine V_iload_n (q := 5) g dX4_needFloor_4 rfl rfl ?_
  refine V_callVI_1 (q := 8) g (c_X1_hasFloor l hL.2.1 hO hI (by omega)) dX4_needFloor_5 k_X4_287 hL.2.1.1 rfl rfl rfl rfl ⟨rfl, rfl⟩ rfl (fun z1 M1 e1 => ?_)
  obtain ⟨e1, rfl⟩ := e1
  refine V_if_ne (q := 11) g dX4_needFloor_8 (tgt := 22) (by decide) rfl (by omega) (fun h8 => ?_) (fun h8 => ?_)
  · exact V_returnX g r rfl dX4_needFloor_22 ⟨by omega, rfl⟩
  · exact V_throwSW g r hfl th_IO (List.mem_of_getElem? (i := 10) rfl) dX4_needFloor_11 dX4_needFloor_14 dX4_needFloor_15 dX4_needFloor_18 dX4_needFloor_21 rfl (by first | exact ⟨by omega, rfl, rfl⟩ | exact Or.inl ⟨by omega, rfl, rfl⟩ | exact Or.inr ⟨by omega, by omega, rfl, rfl⟩ | exact Or.inr (Or.inl ⟨by omega, by omega, rfl, rfl⟩))
abbrev rm_X4_needOneOfFour : Room := { frames := 6, cells := 1, slots := 6, locals := 90 }
set_option maxHeartbeats 4000000 in
set_option maxRecDepth 100000 in
theorem c_X4_needOneOfFour (l : Launch) (hfl : l.stackTraces = false) {D : DD} {Λ : LY} {M : MM} {k : Int} (hr : inR k) : CXV l yX4_needOneOfFour cX4_needOneOfFour 1 rm_X4_needOneOfFour [vi k] D Λ M (fun M1 => (0 ≤ k ∧ k < 4) ∧ M = M1) (fun E M1 => ¬ (0 ≤ k ∧ k < 4) ∧ E = xIO ∧ M = M1) := by
  refine CXV_of rfl rfl (Nat.le_of_ble_eq_true rfl) (fun Γ g r => ?_)
  refine V_iload_n (q := 1) g dX4_needOneOfFour_0 rfl rfl ?_
  refine V_iconst (q := 2) g dX4_needOneOfFour_1 rfl ?_
  refine V_iconst (q := 3) g dX4_needOneOfFour_2 rfl ?_
  refine V_callSI_3 (q := 6) g (c_X4_within l (by omega) (by omega) (by omega)) dX4_needOneOfFour_3 k_X4_43 rfl rfl ⟨rfl, rfl⟩ rfl (fun z1 M1 e1 => ?_)
  obtain ⟨e1, rfl⟩ := e1
  refine V_if_ne (q := 9) g dX4_needOneOfFour_6 (tgt := 20) (by decide) rfl (by omega) (fun h6 => ?_) (fun h6 => ?_)
  · exact V_returnX g r rfl dX4_needOneOfFour_20 ⟨by omega, rfl⟩
  · exact V_throwSW g r hfl th_IO (List.mem_of_getElem? (i := 8) rfl) dX4_needOneOfFour_9 dX4_needOneOfFour_12 dX4_needOneOfFour_13 dX4_needOneOfFour_16 dX4_needOneOfFour_19 rfl (by first | exact ⟨by omega, rfl, rfl⟩ | exact Or.inl ⟨by omega, rfl, rfl⟩ | exact Or.inr ⟨by omega, by omega, rfl, rfl⟩ | exact Or.inr (Or.inl ⟨by omega, by omega, rfl, rfl⟩))
abbrev rm_X4_needSlot : Room := { frames := 6, cells := 1, slots := 6, locals := 90 }
set_option maxHeartbeats 4000000 in
set_option maxRecDepth 100000 in
theorem c_X4_needSlot (l : Launch) (hfl : l.stackTraces = false) {D : DD} {Λ : LY} {M : MM} {k : Int} (hr : inR k) : CXV l yX4_needSlot cX4_needSlot 1 rm_X4_needSlot [vi k] D Λ M (fun M1 => (0 ≤ k ∧ k ≤ 1) ∧ M = M1) (fun E M1 => ¬ (0 ≤ k ∧ k ≤ 1) ∧ E = xIO ∧ M = M1) := by
  refine CXV_of rfl rfl (Nat.le_of_ble_eq_true rfl) (fun Γ g r => ?_)
  refine V_iload_n (q := 1) g dX4_needSlot_0 rfl rfl ?_
  refine V_iconst (q := 2) g dX4_needSlot_1 rfl ?_
  refine V_iconst (q := 3) g dX4_needSlot_2 rfl ?_
  refine V_callSI_3 (q := 6) g (c_X4_within l (by omega) (by omega) (by omega)) dX4_needSlot_3 k_X4_43 rfl rfl ⟨rfl, rfl⟩ rfl (fun z1 M1 e1 => ?_)
  obtain ⟨e1, rfl⟩ := e1
  refine V_if_ne (q := 9) g dX4_needSlot_6 (tgt := 20) (by decide) rfl (by omega) (fun h6 => ?_) (fun h6 => ?_)
  · exact V_returnX g r rfl dX4_needSlot_20 ⟨by omega, rfl⟩
  · exact V_throwSW g r hfl th_IO (List.mem_of_getElem? (i := 18) rfl) dX4_needSlot_9 dX4_needSlot_12 dX4_needSlot_13 dX4_needSlot_16 dX4_needSlot_19 rfl (by first | exact ⟨by omega, rfl, rfl⟩ | exact Or.inl ⟨by omega, rfl, rfl⟩ | exact Or.inr ⟨by omega, by omega, rfl, rfl⟩ | exact Or.inr (Or.inl ⟨by omega, by omega, rfl, rfl⟩))
abbrev rm_X4_acted : Room := { frames := 6, cells := 1, slots := 6, locals := 90 }
set_option maxHeartbeats 4000000 in
set_option maxRecDepth 100000 in
theorem c_X4_acted (l : Launch) (hfl : l.stackTraces = false) {D : DD} {Λ : LY} {M : MM} {s : Nat} {a : Int} (hL : ClsL D Λ s) (ha : (a = -2 ∨ a = -3 ∨ a = -4 ∨ 0 ≤ a) ∧ a < 2147483648) (hn : 0 ≤ M (s + 23) 1 ∧ M (s + 23) 1 < 15) (hc : 0 ≤ M (s + 23) 2 ∧ M (s + 23) 2 ≤ 14) : CXI l yX4_acted cX4_acted 2 .int rm_X4_acted [.ref s, vi a] D Λ M (fun z M1 => 0 ≤ a ∧ z = a ∧ kdM M (s + 23) = M1) (fun E M1 => (a = -2 ∧ E = xIO ∧ M = M1) ∨ (a = -3 ∧ E = xIA ∧ M = M1) ∨ (a = -4 ∧ E = xIS ∧ M = M1)) := by
  refine CXI_of rfl rfl (Nat.le_of_ble_eq_true rfl) (fun Γ g r => ?_)
  refine V_iload_n (q := 1) g dX4_acted_0 rfl rfl ?_
  refine V_bipush (q := 3) g dX4_acted_1 (by decide) rfl ?_
  refine V_icmp_ne (q := 6) g dX4_acted_3 (tgt := 17) (by decide) rfl (by omega) (by omega) (fun h3 => ?_) (fun h3 => ?_)
  · refine V_iload_n (q := 18) g dX4_acted_17 rfl rfl ?_
    refine V_bipush (q := 20) g dX4_acted_18 (by decide) rfl ?_
    refine V_icmp_ne (q := 23) g dX4_acted_20 (tgt := 34) (by decide) rfl (by omega) (by omega) (fun h20 => ?_) (fun h20 => ?_)
    · refine V_iload_n (q := 35) g dX4_acted_34 rfl rfl ?_
      refine V_bipush (q := 37) g dX4_acted_35 (by decide) rfl ?_
      refine V_icmp_ne (q := 40) g dX4_acted_37 (tgt := 51) (by decide) rfl (by omega) (by omega) (fun h37 => ?_) (fun h37 => ?_)
      · refine V_aload_n (q := 52) g dX4_acted_51 rfl rfl ?_
        refine V_getR (q := 55) g dX4_acted_52 rfl f_X4_22 rfl hL.1 rfl ?_
        refine V_callVV_0 (q := 58) g (c_X0_keepDraft l hL.2.2.2.1 (by omega) (by omega)) dX4_acted_55 k_X4_302 hL.2.2.2.1.1 rfl rfl rfl rfl ⟨rfl, rfl⟩ rfl (fun M1 e1 => ?_)
        obtain rfl := e1
        refine V_iload_n (q := 59) g dX4_acted_58 rfl rfl ?_
        exact V_ireturnX g r rfl dX4_acted_59 rfl ⟨by omega, rfl, rfl⟩
      · exact V_throwSW g r hfl th_IS (List.mem_of_getElem? (i := 14) rfl) dX4_acted_40 dX4_acted_43 dX4_acted_44 dX4_acted_47 dX4_acted_50 rfl (Or.inr (Or.inr ⟨by omega, rfl, rfl⟩))
    · exact V_throwSW g r hfl th_IA (List.mem_of_getElem? (i := 13) rfl) dX4_acted_23 dX4_acted_26 dX4_acted_27 dX4_acted_30 dX4_acted_33 rfl (Or.inr (Or.inl ⟨by omega, rfl, rfl⟩))
  · exact V_throwSW g r hfl th_IO (List.mem_of_getElem? (i := 12) rfl) dX4_acted_6 dX4_acted_9 dX4_acted_10 dX4_acted_13 dX4_acted_16 rfl (Or.inl ⟨by omega, rfl, rfl⟩)
abbrev rm_X4_about : Room := { frames := 6, cells := 1, slots := 6, locals := 90 }
set_option maxHeartbeats 4000000 in
set_option maxRecDepth 100000 in
theorem c_X4_about (l : Launch) (hfl : l.stackTraces = false) {D : DD} {Λ : LY} {M : MM} {s : Nat} {f : Int → Int} {w : Int} (hL : ClsL D Λ s) (hO : Off M (s + 1) f) (hI : Inv f) (hr1 : inR w) : CXI l yX4_about cX4_about 2 .int rm_X4_about [.ref s, vi w] D Λ M (fun z M1 => (0 ≤ w ∧ w ≤ 10) ∧ z = sAbout f w ∧ M = M1) (fun E M1 => ¬ (0 ≤ w ∧ w ≤ 10) ∧ E = xIA ∧ M = M1) := by
  refine CXI_of rfl rfl (Nat.le_of_ble_eq_true rfl) (fun Γ g r => ?_)
  have h0 := hI.1
  have h1 := hI.2.1
  refine V_iload_n (q := 1) g dX4_about_0 rfl rfl ?_
  refine V_iconst (q := 2) g dX4_about_1 rfl ?_
  refine V_bipush (q := 4) g dX4_about_2 (by decide) rfl ?_
  refine V_callSI_3 (q := 7) g (c_X4_within l (by omega) (by omega) (by omega)) dX4_about_4 k_X4_43 rfl rfl ⟨rfl, rfl⟩ rfl (fun z1 M1 e1 => ?_)
  obtain ⟨e1, rfl⟩ := e1
  refine V_if_ne (q := 10) g dX4_about_7 (tgt := 20) (by decide) rfl (by omega) (fun h7 => ?_) (fun h7 => ?_)
  · refine V_iload_n (q := 21) g dX4_about_20 rfl rfl ?_
    rcases (by omega : w = 0 ∨ w = 1 ∨ w = 2 ∨ (w < 0 ∨ 2 < w)) with h21 | h21 | h21 | h21
    · refine V_tabAt g dX4_about_21 (n := 0) h21 (by decide) (by decide) (by decide) (off := 27) rfl (tgt := 48) (by decide) ?_
      refine V_aload_n (q := 49) g dX4_about_48 rfl rfl ?_
      refine V_getR (q := 52) g dX4_about_49 rfl f_X4_10 rfl hL.1 rfl ?_
      refine V_getIN (q := 55) g dX4_about_52 rfl f_X4_97 rfl hL.2.1.1 rfl (j := 0) rfl ?_
      rw [hO.1]
      exact V_ireturnX g r rfl dX4_about_55 rfl ⟨by omega, by subst h21; rfl, rfl⟩
    · refine V_tabAt g dX4_about_21 (n := 1) h21 (by decide) (by decide) (by decide) (off := 35) rfl (tgt := 56) (by decide) ?_
      refine V_aload_n (q := 57) g dX4_about_56 rfl rfl ?_
      refine V_getR (q := 60) g dX4_about_57 rfl f_X4_10 rfl hL.1 rfl ?_
      refine V_getIN (q := 63) g dX4_about_60 rfl f_X4_101 rfl hL.2.1.1 rfl (j := 1) rfl ?_
      rw [hO.2.1]
      exact V_ireturnX g r rfl dX4_about_63 rfl ⟨by omega, by subst h21; rfl, rfl⟩
    · refine V_tabAt g dX4_about_21 (n := 2) h21 (by decide) (by decide) (by decide) (off := 43) rfl (tgt := 64) (by decide) ?_
      refine V_aload_n (q := 65) g dX4_about_64 rfl rfl ?_
      refine V_getR (q := 68) g dX4_about_65 rfl f_X4_10 rfl hL.1 rfl ?_
      refine V_callVI_0 (q := 71) g (c_X1_stampedChairs l hL.2.1 hO hI) dX4_about_68 k_X4_104 hL.2.1.1 rfl rfl rfl rfl ⟨rfl, rfl⟩ rfl (fun z2 M2 e2 => ?_)
      obtain ⟨⟨e2, b2⟩, rfl⟩ := e2
      exact V_ireturnX g r rfl dX4_about_71 rfl ⟨by omega, by subst h21; rw [e2]; rfl, rfl⟩
    · refine V_tabOut g dX4_about_21 (by omega) h21 (tgt := 72) (by decide) ?_
      refine V_aload_n (q := 73) g dX4_about_72 rfl rfl ?_
      refine V_getR (q := 76) g dX4_about_73 rfl f_X4_10 rfl hL.1 rfl ?_
      refine V_getRN (q := 79) g dX4_about_76 rfl f_X4_107 rfl hL.2.1.1 rfl ?_
      refine V_iload_n (q := 80) g dX4_about_79 rfl rfl ?_
      refine V_callSI_2 (q := 83) g (a_totals l hL.2.1 hO (by omega)) dX4_about_80 k_X4_111 rfl rfl ⟨rfl, rfl⟩ rfl (fun z3 M3 e3 => ?_)
      obtain ⟨e3, rfl⟩ := e3
      exact V_ireturnX g r rfl dX4_about_83 rfl ⟨by omega, by rw [e3]; unfold sAbout; rw [if_neg (by omega), if_neg (by omega)], rfl⟩
  · exact V_throwS g r hfl th_IA (List.mem_of_getElem? (i := 4) rfl) dX4_about_10 dX4_about_13 dX4_about_14 dX4_about_16 dX4_about_19 rfl (by first | exact ⟨by omega, rfl, rfl⟩ | exact Or.inl ⟨by omega, rfl, rfl⟩ | exact Or.inr ⟨by omega, by omega, rfl, rfl⟩ | exact Or.inr (Or.inl ⟨by omega, by omega, rfl, rfl⟩))
abbrev rm_X4_chairOf : Room := { frames := 7, cells := 2, slots := 12, locals := 111 }
set_option maxHeartbeats 4000000 in
set_option maxRecDepth 100000 in
theorem c_X4_chairOf (l : Launch) (hfl : l.stackTraces = false) {D : DD} {Λ : LY} {M : MM} {s : Nat} {f : Int → Int} {c w : Int} (hL : ClsL D Λ s) (hO : Off M (s + 1) f) (hI : Inv f) (hr1 : inR c) (hr2 : inR w) : CXI l yX4_chairOf cX4_chairOf 3 .int rm_X4_chairOf [.ref s, vi c, vi w] D Λ M (fun z M1 => (0 ≤ c ∧ c < f 0) ∧ (0 ≤ w ∧ w ≤ 8) ∧ z = sChairOf f c w ∧ M = M1) (fun E M1 => (¬ ((0 ≤ c ∧ c < f 0)) ∧ E = xIO ∧ M = M1) ∨ (((0 ≤ c ∧ c < f 0)) ∧ ¬ (0 ≤ w ∧ w ≤ 8) ∧ E = xIA ∧ M = M1)) := by
  refine CXI_of rfl rfl (Nat.le_of_ble_eq_true rfl) (fun Γ g r => ?_)
  have h0 := hI.1
  have h1 := hI.2.1
  refine V_aload_n (q := 1) g dX4_chairOf_0 rfl rfl ?_
  refine V_iload_n (q := 2) g dX4_chairOf_1 rfl rfl ?_
  refine V_callVXV_1 (q := 5) g (c_X4_needChair l hfl hL hO hI (by omega)) dX4_chairOf_2 k_X4_115 hL.1 rfl rfl rfl rfl rfl (fun M1 e1 => ?_) (fun E1 M1 x1 => VX_out g r rfl ((by obtain ⟨hn, rfl, rfl⟩ := x1; first | exact ⟨by omega, rfl, rfl⟩ | exact Or.inl ⟨by omega, rfl, rfl⟩ | exact Or.inr ⟨by omega, by omega, rfl, rfl⟩)))
  obtain ⟨e1, rfl⟩ := e1
  refine V_iload_n (q := 6) g dX4_chairOf_5 rfl rfl ?_
  rcases (by omega : w = 0 ∨ w = 1 ∨ w = 2 ∨ w = 3 ∨ w = 4 ∨ w = 5 ∨ w = 6 ∨ w = 7 ∨ w = 8 ∨ (w < 0 ∨ 8 < w)) with h6 | h6 | h6 | h6 | h6 | h6 | h6 | h6 | h6 | h6
  · refine V_tabAt g dX4_chairOf_6 (n := 0) h6 (by decide) (by decide) (by decide) (off := 50) rfl (tgt := 56) (by decide) ?_
    refine V_aload_n (q := 57) g dX4_chairOf_56 rfl rfl ?_
    refine V_getR (q := 60) g dX4_chairOf_57 rfl f_X4_10 rfl hL.1 rfl ?_
    refine V_getRN (q := 63) g dX4_chairOf_60 rfl f_X4_119 rfl hL.2.1.1 rfl ?_
    refine V_iload_n (q := 64) g dX4_chairOf_63 rfl rfl ?_
    refine V_callSI_2 (q := 67) g (a_guilds l hL.2.1 hO hI (by omega)) dX4_chairOf_64 k_X4_111 rfl rfl ⟨rfl, rfl⟩ rfl (fun z2 M2 e2 => ?_)
    obtain ⟨e2, rfl⟩ := e2
    exact V_ireturnX g r rfl dX4_chairOf_67 rfl ⟨by omega, by omega, by subst h6; rw [sCh_0]; exact e2.1, rfl⟩
  · refine V_tabAt g dX4_chairOf_6 (n := 1) h6 (by decide) (by decide) (by decide) (off := 62) rfl (tgt := 68) (by decide) ?_
    refine V_aload_n (q := 69) g dX4_chairOf_68 rfl rfl ?_
    refine V_getR (q := 72) g dX4_chairOf_69 rfl f_X4_10 rfl hL.1 rfl ?_
    refine V_getRN (q := 75) g dX4_chairOf_72 rfl f_X4_122 rfl hL.2.1.1 rfl ?_
    refine V_iload_n (q := 76) g dX4_chairOf_75 rfl rfl ?_
    refine V_callSI_2 (q := 79) g (a_floorsUnder l hL.2.1 hO hI (by omega)) dX4_chairOf_76 k_X4_111 rfl rfl ⟨rfl, rfl⟩ rfl (fun z3 M3 e3 => ?_)
    obtain ⟨e3, rfl⟩ := e3
    exact V_ireturnX g r rfl dX4_chairOf_79 rfl ⟨by omega, by omega, by subst h6; rw [sCh_1]; exact e3.1, rfl⟩
  · refine V_tabAt g dX4_chairOf_6 (n := 2) h6 (by decide) (by decide) (by decide) (off := 74) rfl (tgt := 80) (by decide) ?_
    refine V_aload_n (q := 81) g dX4_chairOf_80 rfl rfl ?_
    refine V_getR (q := 84) g dX4_chairOf_81 rfl f_X4_10 rfl hL.1 rfl ?_
    refine V_getRN (q := 87) g dX4_chairOf_84 rfl f_X4_125 rfl hL.2.1.1 rfl ?_
    refine V_iload_n (q := 88) g dX4_chairOf_87 rfl rfl ?_
    refine V_callSI_2 (q := 91) g (a_quarters l hL.2.1 hO hI (by omega)) dX4_chairOf_88 k_X4_111 rfl rfl ⟨rfl, rfl⟩ rfl (fun z4 M4 e4 => ?_)
    obtain ⟨e4, rfl⟩ := e4
    exact V_ireturnX g r rfl dX4_chairOf_91 rfl ⟨by omega, by omega, by subst h6; rw [sCh_2]; exact e4.1, rfl⟩
  · refine V_tabAt g dX4_chairOf_6 (n := 3) h6 (by decide) (by decide) (by decide) (off := 86) rfl (tgt := 92) (by decide) ?_
    refine V_aload_n (q := 93) g dX4_chairOf_92 rfl rfl ?_
    refine V_getR (q := 96) g dX4_chairOf_93 rfl f_X4_10 rfl hL.1 rfl ?_
    refine V_iload_n (q := 97) g dX4_chairOf_96 rfl rfl ?_
    refine V_callVI_1 (q := 100) g (c_X1_leanNow l hL.2.1 hO hI (by omega)) dX4_chairOf_97 k_X4_128 hL.2.1.1 rfl rfl rfl rfl ⟨rfl, rfl⟩ rfl (fun z5 M5 e5 => ?_)
    obtain ⟨e5, rfl⟩ := e5
    exact V_ireturnX g r rfl dX4_chairOf_100 rfl ⟨by omega, by omega, by subst h6; rw [sCh_3]; exact e5.1, rfl⟩
  · refine V_tabAt g dX4_chairOf_6 (n := 4) h6 (by decide) (by decide) (by decide) (off := 95) rfl (tgt := 101) (by decide) ?_
    refine V_aload_n (q := 102) g dX4_chairOf_101 rfl rfl ?_
    refine V_getR (q := 105) g dX4_chairOf_102 rfl f_X4_10 rfl hL.1 rfl ?_
    refine V_iload_n (q := 106) g dX4_chairOf_105 rfl rfl ?_
    refine V_callVI_1 (q := 109) g (c_X1_seatHeight l hL.2.1 hO hI (by omega)) dX4_chairOf_106 k_X4_131 hL.2.1.1 rfl rfl rfl rfl ⟨rfl, rfl⟩ rfl (fun z6 M6 e6 => ?_)
    obtain ⟨e6, rfl⟩ := e6
    exact V_ireturnX g r rfl dX4_chairOf_109 rfl ⟨by omega, by omega, by subst h6; rw [sCh_4]; exact e6.1, rfl⟩
  · refine V_tabAt g dX4_chairOf_6 (n := 5) h6 (by decide) (by decide) (by decide) (off := 104) rfl (tgt := 110) (by decide) ?_
    refine V_aload_n (q := 111) g dX4_chairOf_110 rfl rfl ?_
    refine V_getR (q := 114) g dX4_chairOf_111 rfl f_X4_10 rfl hL.1 rfl ?_
    refine V_iload_n (q := 115) g dX4_chairOf_114 rfl rfl ?_
    refine V_callVI_1 (q := 118) g (c_X1_idleLeg l hL.2.1 hO hI (by omega)) dX4_chairOf_115 k_X4_134 hL.2.1.1 rfl rfl rfl rfl ⟨rfl, rfl⟩ rfl (fun z7 M7 e7 => ?_)
    obtain ⟨e7, rfl⟩ := e7
    exact V_ireturnX g r rfl dX4_chairOf_118 rfl ⟨by omega, by omega, by subst h6; rw [sCh_5]; exact e7.1, rfl⟩
  · refine V_tabAt g dX4_chairOf_6 (n := 6) h6 (by decide) (by decide) (by decide) (off := 113) rfl (tgt := 119) (by decide) ?_
    refine V_aload_n (q := 120) g dX4_chairOf_119 rfl rfl ?_
    refine V_getR (q := 123) g dX4_chairOf_120 rfl f_X4_10 rfl hL.1 rfl ?_
    refine V_getRN (q := 126) g dX4_chairOf_123 rfl f_X4_137 rfl hL.2.1.1 rfl ?_
    refine V_iload_n (q := 127) g dX4_chairOf_126 rfl rfl ?_
    refine V_callSI_2 (q := 130) g (a_stamps l hL.2.1 hO hI (by omega)) dX4_chairOf_127 k_X4_111 rfl rfl ⟨rfl, rfl⟩ rfl (fun z8 M8 e8 => ?_)
    obtain ⟨e8, rfl⟩ := e8
    exact V_ireturnX g r rfl dX4_chairOf_130 rfl ⟨by omega, by omega, by subst h6; rw [sCh_6]; exact e8.1, rfl⟩
  · refine V_tabAt g dX4_chairOf_6 (n := 7) h6 (by decide) (by decide) (by decide) (off := 125) rfl (tgt := 131) (by decide) ?_
    refine V_aload_n (q := 132) g dX4_chairOf_131 rfl rfl ?_
    refine V_getR (q := 135) g dX4_chairOf_132 rfl f_X4_10 rfl hL.1 rfl ?_
    refine V_iload_n (q := 136) g dX4_chairOf_135 rfl rfl ?_
    refine V_callVI_1 (q := 139) g (c_X1_reason l hL.2.1 hO hI (by omega)) dX4_chairOf_136 k_X4_140 hL.2.1.1 rfl rfl rfl rfl ⟨rfl, rfl⟩ rfl (fun z9 M9 e9 => ?_)
    obtain ⟨e9, rfl⟩ := e9
    exact V_ireturnX g r rfl dX4_chairOf_139 rfl ⟨by omega, by omega, by subst h6; rw [sCh_7]; exact e9.1, rfl⟩
  · refine V_tabAt g dX4_chairOf_6 (n := 8) h6 (by decide) (by decide) (by decide) (off := 134) rfl (tgt := 140) (by decide) ?_
    refine V_aload_n (q := 141) g dX4_chairOf_140 rfl rfl ?_
    refine V_getR (q := 144) g dX4_chairOf_141 rfl f_X4_10 rfl hL.1 rfl ?_
    refine V_getRN (q := 147) g dX4_chairOf_144 rfl f_X4_143 rfl hL.2.1.1 rfl ?_
    refine V_iload_n (q := 148) g dX4_chairOf_147 rfl rfl ?_
    refine V_callSI_2 (q := 151) g (a_sitters l hL.2.1 hO (by omega)) dX4_chairOf_148 k_X4_111 rfl rfl ⟨rfl, rfl⟩ rfl (fun z10 M10 e10 => ?_)
    obtain ⟨e10, rfl⟩ := e10
    exact V_ireturnX g r rfl dX4_chairOf_151 rfl ⟨by omega, by omega, by subst h6; rw [sCh_8]; exact e10, rfl⟩
  · refine V_tabOut g dX4_chairOf_6 (by omega) h6 (tgt := 152) (by decide) ?_
    exact V_throwS g r hfl th_IA (List.mem_of_getElem? (i := 6) rfl) dX4_chairOf_152 dX4_chairOf_155 dX4_chairOf_156 dX4_chairOf_158 dX4_chairOf_161 rfl (by first | exact ⟨by omega, rfl, rfl⟩ | exact Or.inl ⟨by omega, rfl, rfl⟩ | exact Or.inr ⟨by omega, by omega, rfl, rfl⟩ | exact Or.inr (Or.inl ⟨by omega, by omega, rfl, rfl⟩))
abbrev rm_X4_wobble : Room := { frames := 7, cells := 2, slots := 12, locals := 114 }
set_option maxHeartbeats 4000000 in
set_option maxRecDepth 100000 in
theorem c_X4_wobble (l : Launch) (hfl : l.stackTraces = false) {D : DD} {Λ : LY} {M : MM} {s : Nat} {f : Int → Int} {c w : Int} (hL : ClsL D Λ s) (hO : Off M (s + 1) f) (hI : Inv f) (hr1 : inR c) (hr2 : inR w) : CXI l yX4_wobble cX4_wobble 3 .int rm_X4_wobble [.ref s, vi c, vi w] D Λ M (fun z M1 => (0 ≤ c ∧ c < f 0) ∧ (0 ≤ w ∧ w ≤ 1) ∧ z = sWn f c ∧ M = M1) (fun E M1 => (¬ ((0 ≤ c ∧ c < f 0)) ∧ E = xIO ∧ M = M1) ∨ (((0 ≤ c ∧ c < f 0)) ∧ ¬ (0 ≤ w ∧ w ≤ 1) ∧ E = xIA ∧ M = M1)) := by
  refine CXI_of rfl rfl (Nat.le_of_ble_eq_true rfl) (fun Γ g r => ?_)
  have h0 := hI.1
  have h1 := hI.2.1
  refine V_aload_n (q := 1) g dX4_wobble_0 rfl rfl ?_
  refine V_iload_n (q := 2) g dX4_wobble_1 rfl rfl ?_
  refine V_callVXV_1 (q := 5) g (c_X4_needChair l hfl hL hO hI (by omega)) dX4_wobble_2 k_X4_115 hL.1 rfl rfl rfl rfl rfl (fun M1 e1 => ?_) (fun E1 M1 x1 => VX_out g r rfl ((by obtain ⟨hn, rfl, rfl⟩ := x1; first | exact ⟨by omega, rfl, rfl⟩ | exact Or.inl ⟨by omega, rfl, rfl⟩ | exact Or.inr ⟨by omega, by omega, rfl, rfl⟩)))
  obtain ⟨e1, rfl⟩ := e1
  refine V_iload_n (q := 6) g dX4_wobble_5 rfl rfl ?_
  refine V_iconst (q := 7) g dX4_wobble_6 rfl ?_
  refine V_iconst (q := 8) g dX4_wobble_7 rfl ?_
  refine V_callSI_3 (q := 11) g (c_X4_within l (by omega) (by omega) (by omega)) dX4_wobble_8 k_X4_43 rfl rfl ⟨rfl, rfl⟩ rfl (fun z2 M2 e2 => ?_)
  obtain ⟨e2, rfl⟩ := e2
  refine V_if_ne (q := 14) g dX4_wobble_11 (tgt := 24) (by decide) rfl (by omega) (fun h11 => ?_) (fun h11 => ?_)
  · refine V_iload_n (q := 25) g dX4_wobble_24 rfl rfl ?_
    refine V_if_ne (q := 28) g dX4_wobble_25 (tgt := 39) (by decide) rfl (by omega) (fun h25 => ?_) (fun h25 => ?_)
    · refine V_aload_n (q := 40) g dX4_wobble_39 rfl rfl ?_
      refine V_getR (q := 43) g dX4_wobble_40 rfl f_X4_10 rfl hL.1 rfl ?_
      refine V_iload_n (q := 44) g dX4_wobble_43 rfl rfl ?_
      refine V_callVI_1 (q := 47) g (c_X1_greatestGap l hL.2.1 hO hI (by omega)) dX4_wobble_44 k_X4_153 hL.2.1.1 rfl rfl rfl rfl ⟨rfl, rfl⟩ rfl (fun z3 M3 e3 => ?_)
      obtain ⟨e3, rfl⟩ := e3
      exact V_ireturnX g r rfl dX4_wobble_47 rfl ⟨by omega, by omega, e3.1, rfl⟩
    · refine V_aload_n (q := 29) g dX4_wobble_28 rfl rfl ?_
      refine V_getR (q := 32) g dX4_wobble_29 rfl f_X4_10 rfl hL.1 rfl ?_
      refine V_iload_n (q := 33) g dX4_wobble_32 rfl rfl ?_
      refine V_callVI_1 (q := 36) g (c_X1_wobbleNow l hL.2.1 hO hI (by omega)) dX4_wobble_33 k_X4_150 hL.2.1.1 rfl rfl rfl rfl ⟨rfl, rfl⟩ rfl (fun z4 M4 e4 => ?_)
      obtain ⟨e4, rfl⟩ := e4
      refine V_goto g dX4_wobble_36 (tgt := 47) (by decide) ?_
      exact V_ireturnX g r rfl dX4_wobble_47 rfl ⟨by omega, by omega, e4.1, rfl⟩
  · exact V_throwS g r hfl th_IA (List.mem_of_getElem? (i := 7) rfl) dX4_wobble_14 dX4_wobble_17 dX4_wobble_18 dX4_wobble_20 dX4_wobble_23 rfl (by first | exact ⟨by omega, rfl, rfl⟩ | exact Or.inl ⟨by omega, rfl, rfl⟩ | exact Or.inr ⟨by omega, by omega, rfl, rfl⟩ | exact Or.inr (Or.inl ⟨by omega, by omega, rfl, rfl⟩))
abbrev rm_X4_legOf : Room := { frames := 7, cells := 3, slots := 18, locals := 111 }
set_option maxHeartbeats 4000000 in
set_option maxRecDepth 100000 in
theorem c_X4_legOf (l : Launch) (hfl : l.stackTraces = false) {D : DD} {Λ : LY} {M : MM} {s : Nat} {f : Int → Int} {c k w : Int} (hL : ClsL D Λ s) (hO : Off M (s + 1) f) (hI : Inv f) (hr1 : inR c) (hr2 : inR k) (hr3 : inR w) : CXI l yX4_legOf cX4_legOf 4 .int rm_X4_legOf [.ref s, vi c, vi k, vi w] D Λ M (fun z M1 => ((0 ≤ c ∧ c < f 0) ∧ 0 ≤ k ∧ k < 4) ∧ (0 ≤ w ∧ w ≤ 2) ∧ z = sLegOf f c k w ∧ M = M1) (fun E M1 => (¬ ((0 ≤ c ∧ c < f 0) ∧ 0 ≤ k ∧ k < 4) ∧ E = xIO ∧ M = M1) ∨ (((0 ≤ c ∧ c < f 0) ∧ 0 ≤ k ∧ k < 4) ∧ ¬ (0 ≤ w ∧ w ≤ 2) ∧ E = xIA ∧ M = M1)) := by
  refine CXI_of rfl rfl (Nat.le_of_ble_eq_true rfl) (fun Γ g r => ?_)
  have h0 := hI.1
  have h1 := hI.2.1
  refine V_aload_n (q := 1) g dX4_legOf_0 rfl rfl ?_
  refine V_iload_n (q := 2) g dX4_legOf_1 rfl rfl ?_
  refine V_callVXV_1 (q := 5) g (c_X4_needChair l hfl hL hO hI (by omega)) dX4_legOf_2 k_X4_115 hL.1 rfl rfl rfl rfl rfl (fun M1 e1 => ?_) (fun E1 M1 x1 => VX_out g r rfl ((by obtain ⟨hn, rfl, rfl⟩ := x1; first | exact ⟨by omega, rfl, rfl⟩ | exact Or.inl ⟨by omega, rfl, rfl⟩ | exact Or.inr ⟨by omega, by omega, rfl, rfl⟩)))
  obtain ⟨e1, rfl⟩ := e1
  refine V_iload_n (q := 6) g dX4_legOf_5 rfl rfl ?_
  refine V_callSXV_1 (q := 9) g (c_X4_needOneOfFour l hfl (by omega)) dX4_legOf_6 k_X4_156 rfl rfl rfl (fun M2 e2 => ?_) (fun E2 M2 x2 => VX_out g r rfl ((by obtain ⟨hn, rfl, rfl⟩ := x2; first | exact ⟨by omega, rfl, rfl⟩ | exact Or.inl ⟨by omega, rfl, rfl⟩ | exact Or.inr ⟨by omega, by omega, rfl, rfl⟩)))
  obtain ⟨e2, rfl⟩ := e2
  refine V_iload_n (q := 10) g dX4_legOf_9 rfl rfl ?_
  rcases (by omega : w = 0 ∨ w = 1 ∨ w = 2 ∨ (w < 0 ∨ 2 < w)) with h9 | h9 | h9 | h9
  · refine V_tabAt g dX4_legOf_10 (n := 0) h9 (by decide) (by decide) (by decide) (off := 26) rfl (tgt := 36) (by decide) ?_
    refine V_aload_n (q := 37) g dX4_legOf_36 rfl rfl ?_
    refine V_getR (q := 40) g dX4_legOf_37 rfl f_X4_10 rfl hL.1 rfl ?_
    refine V_iload_n (q := 41) g dX4_legOf_40 rfl rfl ?_
    refine V_iload_n (q := 42) g dX4_legOf_41 rfl rfl ?_
    refine V_callVI_2 (q := 45) g (c_X1_length l hL.2.1 hO hI (by omega) (by omega)) dX4_legOf_42 k_X4_159 hL.2.1.1 rfl rfl rfl rfl ⟨rfl, rfl⟩ rfl (fun z3 M3 e3 => ?_)
    obtain ⟨e3, rfl⟩ := e3
    exact V_ireturnX g r rfl dX4_legOf_45 rfl ⟨by omega, by omega, by subst h9; exact e3.1, rfl⟩
  · refine V_tabAt g dX4_legOf_10 (n := 1) h9 (by decide) (by decide) (by decide) (off := 36) rfl (tgt := 46) (by decide) ?_
    refine V_aload_n (q := 47) g dX4_legOf_46 rfl rfl ?_
    refine V_getR (q := 50) g dX4_legOf_47 rfl f_X4_10 rfl hL.1 rfl ?_
    refine V_iload_n (q := 51) g dX4_legOf_50 rfl rfl ?_
    refine V_iload_n (q := 52) g dX4_legOf_51 rfl rfl ?_
    refine V_callVI_2 (q := 55) g (c_X1_reachNow l hL.2.1 hO hI (by omega) (by omega)) dX4_legOf_52 k_X4_163 hL.2.1.1 rfl rfl rfl rfl ⟨rfl, rfl⟩ rfl (fun z4 M4 e4 => ?_)
    obtain ⟨e4, rfl⟩ := e4
    exact V_ireturnX g r rfl dX4_legOf_55 rfl ⟨by omega, by omega, by subst h9; exact e4.1, rfl⟩
  · refine V_tabAt g dX4_legOf_10 (n := 2) h9 (by decide) (by decide) (by decide) (off := 46) rfl (tgt := 56) (by decide) ?_
    refine V_iload_n (q := 57) g dX4_legOf_56 rfl rfl ?_
    refine V_aload_n (q := 58) g dX4_legOf_57 rfl rfl ?_
    refine V_getR (q := 61) g dX4_legOf_58 rfl f_X4_10 rfl hL.1 rfl ?_
    refine V_getRN (q := 64) g dX4_legOf_61 rfl f_X4_125 rfl hL.2.1.1 rfl ?_
    refine V_iload_n (q := 65) g dX4_legOf_64 rfl rfl ?_
    refine V_callSI_2 (q := 68) g (a_quarters l hL.2.1 hO hI (by omega)) dX4_legOf_65 k_X4_111 rfl rfl ⟨rfl, rfl⟩ rfl (fun z5 M5 e5 => ?_)
    obtain ⟨e5, rfl⟩ := e5
    refine V_iadd (q := 69) g dX4_legOf_68 rfl ?_
    refine V_iconst (q := 70) g dX4_legOf_69 rfl ?_
    refine V_irem (q := 71) g dX4_legOf_70 (by omega) (by omega) rfl ?_
    exact V_ireturnX g r rfl dX4_legOf_71 rfl ⟨by omega, by omega, by subst h9; rw [e5.1]; rfl, rfl⟩
  · refine V_tabOut g dX4_legOf_10 (by omega) h9 (tgt := 72) (by decide) ?_
    exact V_throwS g r hfl th_IA (List.mem_of_getElem? (i := 9) rfl) dX4_legOf_72 dX4_legOf_75 dX4_legOf_76 dX4_legOf_78 dX4_legOf_81 rfl (by first | exact ⟨by omega, rfl, rfl⟩ | exact Or.inl ⟨by omega, rfl, rfl⟩ | exact Or.inr ⟨by omega, by omega, rfl, rfl⟩ | exact Or.inr (Or.inl ⟨by omega, by omega, rfl, rfl⟩))
abbrev rm_X4_spot : Room := { frames := 7, cells := 2, slots := 12, locals := 111 }
set_option maxHeartbeats 4000000 in
set_option maxRecDepth 100000 in
theorem c_X4_spot (l : Launch) (hfl : l.stackTraces = false) {D : DD} {Λ : LY} {M : MM} {s : Nat} {f : Int → Int} {fl k : Int} (hL : ClsL D Λ s) (hO : Off M (s + 1) f) (hI : Inv f) (hr1 : inR fl) (hr2 : inR k) : CXI l yX4_spot cX4_spot 3 .int rm_X4_spot [.ref s, vi fl, vi k] D Λ M (fun z M1 => ((0 ≤ fl ∧ fl < f 1) ∧ 0 ≤ k ∧ k < 4) ∧ z = f (12 + (4 * fl + k)) ∧ M = M1) (fun E M1 => ¬ ((0 ≤ fl ∧ fl < f 1) ∧ 0 ≤ k ∧ k < 4) ∧ E = xIO ∧ M = M1) := by
  refine CXI_of rfl rfl (Nat.le_of_ble_eq_true rfl) (fun Γ g r => ?_)
  have h0 := hI.1
  have h1 := hI.2.1
  refine V_aload_n (q := 1) g dX4_spot_0 rfl rfl ?_
  refine V_iload_n (q := 2) g dX4_spot_1 rfl rfl ?_
  refine V_callVXV_1 (q := 5) g (c_X4_needFloor l hfl hL hO hI (by omega)) dX4_spot_2 k_X4_168 hL.1 rfl rfl rfl rfl rfl (fun M1 e1 => ?_) (fun E1 M1 x1 => VX_out g r rfl ((by obtain ⟨hn, rfl, rfl⟩ := x1; first | exact ⟨by omega, rfl, rfl⟩ | exact Or.inl ⟨by omega, rfl, rfl⟩ | exact Or.inr ⟨by omega, by omega, rfl, rfl⟩)))
  obtain ⟨e1, rfl⟩ := e1
  refine V_iload_n (q := 6) g dX4_spot_5 rfl rfl ?_
  refine V_callSXV_1 (q := 9) g (c_X4_needOneOfFour l hfl (by omega)) dX4_spot_6 k_X4_156 rfl rfl rfl (fun M2 e2 => ?_) (fun E2 M2 x2 => VX_out g r rfl ((by obtain ⟨hn, rfl, rfl⟩ := x2; first | exact ⟨by omega, rfl, rfl⟩ | exact Or.inl ⟨by omega, rfl, rfl⟩ | exact Or.inr ⟨by omega, by omega, rfl, rfl⟩)))
  obtain ⟨e2, rfl⟩ := e2
  refine V_aload_n (q := 10) g dX4_spot_9 rfl rfl ?_
  refine V_getR (q := 13) g dX4_spot_10 rfl f_X4_10 rfl hL.1 rfl ?_
  refine V_iload_n (q := 14) g dX4_spot_13 rfl rfl ?_
  refine V_iload_n (q := 15) g dX4_spot_14 rfl rfl ?_
  refine V_callVI_2 (q := 18) g (c_X1_height l hL.2.1 hO hI (by omega) (by omega)) dX4_spot_15 k_X4_171 hL.2.1.1 rfl rfl rfl rfl ⟨rfl, rfl⟩ rfl (fun z3 M3 e3 => ?_)
  obtain ⟨e3, rfl⟩ := e3
  exact V_ireturnX g r rfl dX4_spot_18 rfl ⟨by omega, e3.1, rfl⟩
abbrev rm_X4_boundOf : Room := { frames := 7, cells := 2, slots := 12, locals := 110 }
set_option maxHeartbeats 4000000 in
set_option maxRecDepth 100000 in
theorem c_X4_boundOf (l : Launch) (hfl : l.stackTraces = false) {D : DD} {Λ : LY} {M : MM} {s : Nat} {f : Int → Int} {gu k : Int} (hL : ClsL D Λ s) (hO : Off M (s + 1) f) (hI : Inv f) (hr1 : inR gu) (hr2 : inR k) : CXI l yX4_boundOf cX4_boundOf 3 .int rm_X4_boundOf [.ref s, vi gu, vi k] D Λ M (fun z M1 => ((0 ≤ gu ∧ gu < 4) ∧ 0 ≤ k ∧ k < 4) ∧ z = f (28 + (4 * gu + k)) ∧ M = M1) (fun E M1 => ¬ ((0 ≤ gu ∧ gu < 4) ∧ 0 ≤ k ∧ k < 4) ∧ E = xIO ∧ M = M1) := by
  refine CXI_of rfl rfl (Nat.le_of_ble_eq_true rfl) (fun Γ g r => ?_)
  have h0 := hI.1
  have h1 := hI.2.1
  refine V_iload_n (q := 1) g dX4_boundOf_0 rfl rfl ?_
  refine V_callSXV_1 (q := 4) g (c_X4_needOneOfFour l hfl (by omega)) dX4_boundOf_1 k_X4_156 rfl rfl rfl (fun M1 e1 => ?_) (fun E1 M1 x1 => VX_out g r rfl ((by obtain ⟨hn, rfl, rfl⟩ := x1; first | exact ⟨by omega, rfl, rfl⟩ | exact Or.inl ⟨by omega, rfl, rfl⟩ | exact Or.inr ⟨by omega, by omega, rfl, rfl⟩)))
  obtain ⟨e1, rfl⟩ := e1
  refine V_iload_n (q := 5) g dX4_boundOf_4 rfl rfl ?_
  refine V_callSXV_1 (q := 8) g (c_X4_needOneOfFour l hfl (by omega)) dX4_boundOf_5 k_X4_156 rfl rfl rfl (fun M2 e2 => ?_) (fun E2 M2 x2 => VX_out g r rfl ((by obtain ⟨hn, rfl, rfl⟩ := x2; first | exact ⟨by omega, rfl, rfl⟩ | exact Or.inl ⟨by omega, rfl, rfl⟩ | exact Or.inr ⟨by omega, by omega, rfl, rfl⟩)))
  obtain ⟨e2, rfl⟩ := e2
  refine V_aload_n (q := 9) g dX4_boundOf_8 rfl rfl ?_
  refine V_getR (q := 12) g dX4_boundOf_9 rfl f_X4_10 rfl hL.1 rfl ?_
  refine V_iload_n (q := 13) g dX4_boundOf_12 rfl rfl ?_
  refine V_iload_n (q := 14) g dX4_boundOf_13 rfl rfl ?_
  refine V_callVI_2 (q := 17) g (c_X1_limit l hL.2.1 hO hI (by omega) (by omega)) dX4_boundOf_14 k_X4_174 hL.2.1.1 rfl rfl rfl rfl ⟨rfl, rfl⟩ rfl (fun z3 M3 e3 => ?_)
  obtain ⟨e3, rfl⟩ := e3
  exact V_ireturnX g r rfl dX4_boundOf_17 rfl ⟨by omega, e3.1, rfl⟩
abbrev rm_X4_setting : Room := { frames := 6, cells := 1, slots := 6, locals := 90 }
set_option maxHeartbeats 4000000 in
set_option maxRecDepth 100000 in
theorem c_X4_setting (l : Launch) (hfl : l.stackTraces = false) {D : DD} {Λ : LY} {M : MM} {s : Nat} {f : Int → Int} {w : Int} (hL : ClsL D Λ s) (hO : Off M (s + 1) f) (hI : Inv f) (hr1 : inR w) : CXI l yX4_setting cX4_setting 2 .int rm_X4_setting [.ref s, vi w] D Λ M (fun z M1 => (0 ≤ w ∧ w ≤ 1) ∧ z = f (10 + w) ∧ M = M1) (fun E M1 => ¬ (0 ≤ w ∧ w ≤ 1) ∧ E = xIA ∧ M = M1) := by
  refine CXI_of rfl rfl (Nat.le_of_ble_eq_true rfl) (fun Γ g r => ?_)
  have h0 := hI.1
  have h1 := hI.2.1
  refine V_iload_n (q := 1) g dX4_setting_0 rfl rfl ?_
  refine V_iconst (q := 2) g dX4_setting_1 rfl ?_
  refine V_iconst (q := 3) g dX4_setting_2 rfl ?_
  refine V_callSI_3 (q := 6) g (c_X4_within l (by omega) (by omega) (by omega)) dX4_setting_3 k_X4_43 rfl rfl ⟨rfl, rfl⟩ rfl (fun z1 M1 e1 => ?_)
  obtain ⟨e1, rfl⟩ := e1
  refine V_if_ne (q := 9) g dX4_setting_6 (tgt := 19) (by decide) rfl (by omega) (fun h6 => ?_) (fun h6 => ?_)
  · refine V_aload_n (q := 20) g dX4_setting_19 rfl rfl ?_
    refine V_getR (q := 23) g dX4_setting_20 rfl f_X4_10 rfl hL.1 rfl ?_
    refine V_getRN (q := 26) g dX4_setting_23 rfl f_X4_179 rfl hL.2.1.1 rfl ?_
    refine V_iload_n (q := 27) g dX4_setting_26 rfl rfl ?_
    refine V_callSI_2 (q := 30) g (b_values l hL.2.1 hO (by omega)) dX4_setting_27 k_X4_111 rfl rfl ⟨rfl, rfl⟩ rfl (fun z2 M2 e2 => ?_)
    obtain ⟨e2, rfl⟩ := e2
    exact V_ireturnX g r rfl dX4_setting_30 rfl ⟨by omega, e2, rfl⟩
  · exact V_throwS g r hfl th_IA (List.mem_of_getElem? (i := 11) rfl) dX4_setting_9 dX4_setting_12 dX4_setting_13 dX4_setting_15 dX4_setting_18 rfl (by first | exact ⟨by omega, rfl, rfl⟩ | exact Or.inl ⟨by omega, rfl, rfl⟩ | exact Or.inr ⟨by omega, by omega, rfl, rfl⟩ | exact Or.inr (Or.inl ⟨by omega, by omega, rfl, rfl⟩))
abbrev rm_X4_bestFloor : Room := { frames := 7, cells := 1, slots := 6, locals := 122 }
set_option maxHeartbeats 4000000 in
set_option maxRecDepth 100000 in
theorem c_X4_bestFloor (l : Launch) (hfl : l.stackTraces = false) {D : DD} {Λ : LY} {M : MM} {s : Nat} {f : Int → Int} {c : Int} (hL : ClsL D Λ s) (hO : Off M (s + 1) f) (hI : Inv f) (hr1 : inR c) : CXI l yX4_bestFloor cX4_bestFloor 2 .int rm_X4_bestFloor [.ref s, vi c] D Λ M (fun z M1 => (0 ≤ c ∧ c < f 0) ∧ z = sBf f c ∧ M = M1) (fun E M1 => ¬ ((0 ≤ c ∧ c < f 0)) ∧ E = xIO ∧ M = M1) := by
  refine CXI_of rfl rfl (Nat.le_of_ble_eq_true rfl) (fun Γ g r => ?_)
  have h0 := hI.1
  have h1 := hI.2.1
  refine V_aload_n (q := 1) g dX4_bestFloor_0 rfl rfl ?_
  refine V_iload_n (q := 2) g dX4_bestFloor_1 rfl rfl ?_
  refine V_callVXV_1 (q := 5) g (c_X4_needChair l hfl hL hO hI (by omega)) dX4_bestFloor_2 k_X4_115 hL.1 rfl rfl rfl rfl rfl (fun M1 e1 => ?_) (fun E1 M1 x1 => VX_out g r rfl ((by obtain ⟨hn, rfl, rfl⟩ := x1; first | exact ⟨by omega, rfl, rfl⟩ | exact Or.inl ⟨by omega, rfl, rfl⟩ | exact Or.inr ⟨by omega, by omega, rfl, rfl⟩)))
  obtain ⟨e1, rfl⟩ := e1
  refine V_aload_n (q := 6) g dX4_bestFloor_5 rfl rfl ?_
  refine V_getR (q := 9) g dX4_bestFloor_6 rfl f_X4_10 rfl hL.1 rfl ?_
  refine V_iload_n (q := 10) g dX4_bestFloor_9 rfl rfl ?_
  refine V_callVI_1 (q := 13) g (c_X1_bestFloorFor l hL.2.1 hO hI (by omega)) dX4_bestFloor_10 k_X4_245 hL.2.1.1 rfl rfl rfl rfl ⟨rfl, rfl⟩ rfl (fun z2 M2 e2 => ?_)
  obtain ⟨e2, rfl⟩ := e2
  exact V_ireturnX g r rfl dX4_bestFloor_13 rfl ⟨by omega, e2.1, rfl⟩
abbrev rm_X4_bestTurn : Room := { frames := 7, cells := 3, slots := 18, locals := 111 }
set_option maxHeartbeats 4000000 in
set_option maxRecDepth 100000 in
theorem c_X4_bestTurn (l : Launch) (hfl : l.stackTraces = false) {D : DD} {Λ : LY} {M : MM} {s : Nat} {f : Int → Int} {c fl w : Int} (hL : ClsL D Λ s) (hO : Off M (s + 1) f) (hI : Inv f) (hr1 : inR c) (hr2 : inR fl) (hr3 : inR w) : CXI l yX4_bestTurn cX4_bestTurn 5 .int rm_X4_bestTurn [.ref s, vi c, vi fl, vi w] D Λ M (fun z M1 => ((0 ≤ c ∧ c < f 0) ∧ (0 ≤ fl ∧ fl < f 1)) ∧ (0 ≤ w ∧ w ≤ 1) ∧ z = (if w = 0 then sBq f c fl else sWq f c fl) ∧ M = M1) (fun E M1 => (¬ ((0 ≤ c ∧ c < f 0) ∧ (0 ≤ fl ∧ fl < f 1)) ∧ E = xIO ∧ M = M1) ∨ (((0 ≤ c ∧ c < f 0) ∧ (0 ≤ fl ∧ fl < f 1)) ∧ ¬ (0 ≤ w ∧ w ≤ 1) ∧ E = xIA ∧ M = M1)) := by
  refine CXI_of rfl rfl (Nat.le_of_ble_eq_true rfl) (fun Γ g r => ?_)
  have h0 := hI.1
  have h1 := hI.2.1
  refine V_aload_n (q := 1) g dX4_bestTurn_0 rfl rfl ?_
  refine V_iload_n (q := 2) g dX4_bestTurn_1 rfl rfl ?_
  refine V_callVXV_1 (q := 5) g (c_X4_needChair l hfl hL hO hI (by omega)) dX4_bestTurn_2 k_X4_115 hL.1 rfl rfl rfl rfl rfl (fun M1 e1 => ?_) (fun E1 M1 x1 => VX_out g r rfl ((by obtain ⟨hn, rfl, rfl⟩ := x1; first | exact ⟨by omega, rfl, rfl⟩ | exact Or.inl ⟨by omega, rfl, rfl⟩ | exact Or.inr ⟨by omega, by omega, rfl, rfl⟩)))
  obtain ⟨e1, rfl⟩ := e1
  refine V_aload_n (q := 6) g dX4_bestTurn_5 rfl rfl ?_
  refine V_iload_n (q := 7) g dX4_bestTurn_6 rfl rfl ?_
  refine V_callVXV_1 (q := 10) g (c_X4_needFloor l hfl hL hO hI (by omega)) dX4_bestTurn_7 k_X4_168 hL.1 rfl rfl rfl rfl rfl (fun M2 e2 => ?_) (fun E2 M2 x2 => VX_out g r rfl ((by obtain ⟨hn, rfl, rfl⟩ := x2; first | exact ⟨by omega, rfl, rfl⟩ | exact Or.inl ⟨by omega, rfl, rfl⟩ | exact Or.inr ⟨by omega, by omega, rfl, rfl⟩)))
  obtain ⟨e2, rfl⟩ := e2
  refine V_iload_n (q := 11) g dX4_bestTurn_10 rfl rfl ?_
  refine V_iconst (q := 12) g dX4_bestTurn_11 rfl ?_
  refine V_iconst (q := 13) g dX4_bestTurn_12 rfl ?_
  refine V_callSI_3 (q := 16) g (c_X4_within l (by omega) (by omega) (by omega)) dX4_bestTurn_13 k_X4_43 rfl rfl ⟨rfl, rfl⟩ rfl (fun z3 M3 e3 => ?_)
  obtain ⟨e3, rfl⟩ := e3
  refine V_if_ne (q := 19) g dX4_bestTurn_16 (tgt := 29) (by decide) rfl (by omega) (fun h16 => ?_) (fun h16 => ?_)
  · refine V_aload_n (q := 30) g dX4_bestTurn_29 rfl rfl ?_
    refine V_getR (q := 33) g dX4_bestTurn_30 rfl f_X4_10 rfl hL.1 rfl ?_
    refine V_iload_n (q := 34) g dX4_bestTurn_33 rfl rfl ?_
    refine V_iload_n (q := 35) g dX4_bestTurn_34 rfl rfl ?_
    refine V_callVI_2 (q := 38) g (c_X1_bestQuarters l hL.2.1 hO hI (by omega) (by omega)) dX4_bestTurn_35 k_X4_231 hL.2.1.1 rfl rfl rfl rfl ⟨rfl, rfl⟩ rfl (fun z4 M4 e4 => ?_)
    obtain ⟨e4, rfl⟩ := e4
    refine V_istore_4 (q := 40) g dX4_bestTurn_38 (by decide) rfl rfl ?_
    refine V_iload_n (q := 41) g dX4_bestTurn_40 rfl rfl ?_
    refine V_if_ne (q := 44) g dX4_bestTurn_41 (tgt := 49) (by decide) rfl (by omega) (fun h41 => ?_) (fun h41 => ?_)
    · refine V_aload_n (q := 50) g dX4_bestTurn_49 rfl rfl ?_
      refine V_getR (q := 53) g dX4_bestTurn_50 rfl f_X4_10 rfl hL.1 rfl ?_
      refine V_iload_n (q := 54) g dX4_bestTurn_53 rfl rfl ?_
      refine V_iload_n (q := 55) g dX4_bestTurn_54 rfl rfl ?_
      refine V_iload (q := 57) g dX4_bestTurn_55 rfl rfl ?_
      refine V_callVI_3 (q := 60) g (c_X1_wobbleOn l hL.2.1 hO hI (by omega) (by omega) (by omega)) dX4_bestTurn_57 k_X4_234 hL.2.1.1 rfl rfl rfl rfl ⟨rfl, rfl⟩ rfl (fun z5 M5 e5 => ?_)
      obtain ⟨e5, rfl⟩ := e5
      exact V_ireturnX g r rfl dX4_bestTurn_60 rfl ⟨by omega, by omega, by first | (rw [if_pos (by omega)]; exact e4.1) | (rw [if_neg (by omega)]; unfold sWq; rw [← e4.1]; exact e5.1), rfl⟩
    · refine V_iload (q := 46) g dX4_bestTurn_44 rfl rfl ?_
      refine V_goto g dX4_bestTurn_46 (tgt := 60) (by decide) ?_
      exact V_ireturnX g r rfl dX4_bestTurn_60 rfl ⟨by omega, by omega, by first | (rw [if_pos (by omega)]; exact e4.1) | (rw [if_neg (by omega)]; unfold sWq; rw [← e4.1]; exact e5.1), rfl⟩
  · exact V_throwS g r hfl th_IA (List.mem_of_getElem? (i := 16) rfl) dX4_bestTurn_19 dX4_bestTurn_22 dX4_bestTurn_23 dX4_bestTurn_25 dX4_bestTurn_28 rfl (by first | exact ⟨by omega, rfl, rfl⟩ | exact Or.inl ⟨by omega, rfl, rfl⟩ | exact Or.inr ⟨by omega, by omega, rfl, rfl⟩ | exact Or.inr (Or.inl ⟨by omega, by omega, rfl, rfl⟩))
