theorem V_tabAt {Γ : VG} {D : DD} {Λ : LY} {own : String} {cc : ByteArray} {nL : Nat} {l : Launch} {R : Room} {M : MM} {κ : Nat × Nat} {pc : Nat} {lv : List (Option Value)} {st : List Value} {a n dflt lo hi off : Int} {offs : Array Int} {len tgt : Nat} (g : VOk Γ D Λ own cc nL l R) (d : decode cc pc = .ok (.tableswitch dflt lo hi offs, len)) (ha : a = n) (hn : inR n) (h1 : lo ≤ n) (h2 : n ≤ hi) (ho : offs[(n - lo).toNat]? = some off) (ht : (pc : Int) + off = (tgt : Int)) (k : V Γ D Λ M κ tgt lv st) : V Γ D Λ M κ pc lv (vi a :: st) := by
  subst ha
  intro H locs ls q1 q2 q3
  refine lv_tableIn g.exec g.code d (by rw [iI_toInt hn]; omega) (by rw [iI_toInt hn]; omega) (by rw [iI_toInt hn]; exact ho) ht (k H locs ls q1 q2 q3)
theorem V_tabOut {Γ : VG} {D : DD} {Λ : LY} {own : String} {cc : ByteArray} {nL : Nat} {l : Launch} {R : Room} {M : MM} {κ : Nat × Nat} {pc : Nat} {lv : List (Option Value)} {st : List Value} {a dflt lo hi : Int} {offs : Array Int} {len tgt : Nat} (g : VOk Γ D Λ own cc nL l R) (d : decode cc pc = .ok (.tableswitch dflt lo hi offs, len)) (ha : inR a) (h : a < lo ∨ hi < a) (ht : (pc : Int) + dflt = (tgt : Int)) (k : V Γ D Λ M κ tgt lv st) : V Γ D Λ M κ pc lv (vi a :: st) := by
  intro H locs ls q1 q2 q3
  exact lv_tableOut g.exec g.code d (by rw [iI_toInt ha]; exact h) ht (k H locs ls q1 q2 q3)
theorem p_guilds (l : Launch) {D : DD} {Λ : LY} {M : MM} {o : Nat} {f : Int → Int} {c v : Int} (hL : OffL D Λ o) (hO : Off M o f) (hc : (0 ≤ c ∧ c < f 0) ∧ f 0 ≤ 10) : CV l yX4_put cX4_put 3 rm_X4_put [.ref (o + 1), vi c, vi v] D Λ M (fun M1 => Off M1 o (up f (44 + 9 * c) v) ∧ Oth M M1 o) := (c_X4_put l hL.2.1 (by decide) (by omega)).mono (fun M1 h => by subst h; exact ⟨Off_p1 hO hc.1, Oth.wr (by omega)⟩)
theorem p_floorsUnder (l : Launch) {D : DD} {Λ : LY} {M : MM} {o : Nat} {f : Int → Int} {c v : Int} (hL : OffL D Λ o) (hO : Off M o f) (hc : (0 ≤ c ∧ c < f 0) ∧ f 0 ≤ 10) : CV l yX4_put cX4_put 3 rm_X4_put [.ref (o + 2), vi c, vi v] D Λ M (fun M1 => Off M1 o (up f (45 + 9 * c) v) ∧ Oth M M1 o) := (c_X4_put l hL.2.2.1 (by decide) (by omega)).mono (fun M1 h => by subst h; exact ⟨Off_p2 hO hc.1, Oth.wr (by omega)⟩)
theorem p_quarters (l : Launch) {D : DD} {Λ : LY} {M : MM} {o : Nat} {f : Int → Int} {c v : Int} (hL : OffL D Λ o) (hO : Off M o f) (hc : (0 ≤ c ∧ c < f 0) ∧ f 0 ≤ 10) : CV l yX4_put cX4_put 3 rm_X4_put [.ref (o + 3), vi c, vi v] D Λ M (fun M1 => Off M1 o (up f (46 + 9 * c) v) ∧ Oth M M1 o) := (c_X4_put l hL.2.2.2.1 (by decide) (by omega)).mono (fun M1 h => by subst h; exact ⟨Off_p3 hO hc.1, Oth.wr (by omega)⟩)
theorem p_stamps (l : Launch) {D : DD} {Λ : LY} {M : MM} {o : Nat} {f : Int → Int} {c v : Int} (hL : OffL D Λ o) (hO : Off M o f) (hc : (0 ≤ c ∧ c < f 0) ∧ f 0 ≤ 10) : CV l yX4_put cX4_put 3 rm_X4_put [.ref (o + 4), vi c, vi v] D Λ M (fun M1 => Off M1 o (up f (47 + 9 * c) v) ∧ Oth M M1 o) := (c_X4_put l hL.2.2.2.2.1 (by decide) (by omega)).mono (fun M1 h => by subst h; exact ⟨Off_p4 hO hc.1, Oth.wr (by omega)⟩)
theorem p_sitters (l : Launch) {D : DD} {Λ : LY} {M : MM} {o : Nat} {f : Int → Int} {c v : Int} (hL : OffL D Λ o) (hO : Off M o f) (hc : (0 ≤ c ∧ c < f 0) ∧ f 0 ≤ 10) : CV l yX4_put cX4_put 3 rm_X4_put [.ref (o + 5), vi c, vi v] D Λ M (fun M1 => Off M1 o (up f (48 + 9 * c) v) ∧ Oth M M1 o) := (c_X4_put l hL.2.2.2.2.2.1 (by decide) (by omega)).mono (fun M1 h => by subst h; exact ⟨Off_p5 hO hc.1, Oth.wr (by omega)⟩)
theorem p_lengths (l : Launch) {D : DD} {Λ : LY} {M : MM} {o : Nat} {f : Int → Int} {j v : Int} (hL : OffL D Λ o) (hO : Off M o f) (c k : Int) (hc : (0 ≤ c ∧ c < f 0) ∧ f 0 ≤ 10) (hk : 0 ≤ k ∧ k < 4) (hj : j = 4 * c + k) : CV l yX4_put cX4_put 3 rm_X4_put [.ref (o + 6), vi j, vi v] D Λ M (fun M1 => Off M1 o (up f (49 + 9 * c + k) v) ∧ Oth M M1 o) := (c_X4_put l hL.2.2.2.2.2.2.1 (by decide) (by omega)).mono (fun M1 h => by subst h; subst hj; exact ⟨Off_p6 hO hc.1 hk, Oth.wr (by omega)⟩)
theorem p_heights (l : Launch) {D : DD} {Λ : LY} {M : MM} {o : Nat} {f : Int → Int} {j v : Int} (hL : OffL D Λ o) (hO : Off M o f) (hj : 0 ≤ j ∧ j < 16) : CV l yX4_put cX4_put 3 rm_X4_put [.ref (o + 7), vi j, vi v] D Λ M (fun M1 => Off M1 o (up f (12 + j) v) ∧ Oth M M1 o) := (c_X4_put l hL.2.2.2.2.2.2.2.1 (by decide) (by omega)).mono (fun M1 h => by subst h; exact ⟨Off_p7 hO hj, Oth.wr (by omega)⟩)
theorem p_limits (l : Launch) {D : DD} {Λ : LY} {M : MM} {o : Nat} {f : Int → Int} {j v : Int} (hL : OffL D Λ o) (hO : Off M o f) (hj : 0 ≤ j ∧ j < 16) : CV l yX4_put cX4_put 3 rm_X4_put [.ref (o + 8), vi j, vi v] D Λ M (fun M1 => Off M1 o (up f (28 + j) v) ∧ Oth M M1 o) := (c_X4_put l hL.2.2.2.2.2.2.2.2.1 (by decide) (by omega)).mono (fun M1 h => by subst h; exact ⟨Off_p8 hO hj, Oth.wr (by omega)⟩)
theorem p_values (l : Launch) {D : DD} {Λ : LY} {M : MM} {o : Nat} {f : Int → Int} {j v : Int} (hL : OffL D Λ o) (hO : Off M o f) (hj : 0 ≤ j ∧ j < 2) : CV l yX4_put cX4_put 3 rm_X4_put [.ref (o + 9), vi j, vi v] D Λ M (fun M1 => Off M1 o (up f (10 + j) v) ∧ Oth M M1 o) := (c_X4_put l hL.2.2.2.2.2.2.2.2.2.1 (by decide) (by omega)).mono (fun M1 h => by subst h; exact ⟨Off_p9 hO hj, Oth.wr (by omega)⟩)
theorem p_totals (l : Launch) {D : DD} {Λ : LY} {M : MM} {o : Nat} {f : Int → Int} {j v : Int} (hL : OffL D Λ o) (hO : Off M o f) (hj : 3 ≤ j ∧ j ≤ 10) : CV l yX4_put cX4_put 3 rm_X4_put [.ref (o + 10), vi j, vi v] D Λ M (fun M1 => Off M1 o (up f (j - 1) v) ∧ Oth M M1 o) := (c_X4_put l hL.2.2.2.2.2.2.2.2.2.2 (by decide) (by omega)).mono (fun M1 h => by subst h; exact ⟨Off_p10 hO hj, Oth.wr (by omega)⟩)
theorem void_eq {f : Int → Int} {c : Int} (h : f (47 + 9 * c) = 1) (hc : 0 ≤ c) : up (up f (47 + 9 * c) 0) 4 (up f (47 + 9 * c) 0 4 + 1) = fVoid f c := by
  unfold fVoid
  rw [h, up_ne (by omega), up_comm f _ _ (by omega)]
abbrev rm_X1_stampedChairs : Room := { frames := 1, cells := 0, slots := 0, locals := 21 }
set_option maxHeartbeats 4000000 in
set_option maxRecDepth 100000 in
theorem c_X1_stampedChairs (l : Launch) {D : DD} {Λ : LY} {M : MM} {o : Nat} {f : Int → Int} (hL : OffL D Λ o) (hO : Off M o f) (hI : Inv f) : CI l yX1_stampedChairs cX1_stampedChairs 3 .int rm_X1_stampedChairs [.ref o] D Λ M (fun z M1 => (z = sStamped f ∧ 0 ≤ z ∧ z ≤ 10) ∧ M = M1) := by
  refine CI_of rfl rfl (Nat.le_of_ble_eq_true rfl) (fun Γ g r => ?_)
  have h0 := hI.1
  have hloop : ∀ (k : Nat) (i : Nat), (i : Int) ≤ f 0 → f 0 - i ≤ k → V Γ D Λ M (0, 0) 4 [some (.ref o), some (vi (sStN f i)), some (vi (i : Int))] [] := by
    intro k
    induction k with
    | zero =>
      intro i h2 h3
      refine V_iload_n (q := 5) g dX1_stampedChairs_4 rfl rfl ?_
      refine V_aload_n (q := 6) g dX1_stampedChairs_5 rfl rfl ?_
      refine V_getI (q := 9) g dX1_stampedChairs_6 rfl f_X1_45 rfl hL.1 rfl (j := 0) rfl ?_
      rw [hO.1]
      refine V_icmp_ge (q := 12) g dX1_stampedChairs_9 (tgt := 29) (by decide) rfl (by omega) (by omega) (fun h9 => ?_) (fun h9 => ?_)
      · have h9 : i = (f 0).toNat := by omega
        subst h9
        have hs := stN hI (f 0).toNat (by omega)
        refine V_iload_n (q := 30) g dX1_stampedChairs_29 rfl rfl ?_
        exact V_ireturn g r dX1_stampedChairs_30 rfl ⟨⟨rfl, by omega, by omega⟩, rfl⟩
      · refine V_iload_n (q := 13) g dX1_stampedChairs_12 rfl rfl ?_
        refine V_aload_n (q := 14) g dX1_stampedChairs_13 rfl rfl ?_
        refine V_getR (q := 17) g dX1_stampedChairs_14 rfl f_X1_21 rfl hL.1 rfl ?_
        refine V_iload_n (q := 18) g dX1_stampedChairs_17 rfl rfl ?_
        refine V_callNI_2 (q := 21) g (a_stamps l hL hO hI (by omega)) dX1_stampedChairs_18 k_X1_64 rfl rfl ⟨rfl, rfl⟩ rfl (fun z1 M1 e1 => ?_)
        obtain ⟨⟨e1, b1⟩, rfl⟩ := e1
        rw [e1]
        refine V_iadd (q := 22) g dX1_stampedChairs_21 rfl ?_
        refine V_istore_n_1 (q := 23) g dX1_stampedChairs_22 (by decide) rfl rfl ?_
        refine V_iinc_2 (q := 26) g dX1_stampedChairs_23 (by decide) rfl rfl ?_
        refine V_goto g dX1_stampedChairs_26 (tgt := 4) (by decide) ?_
        exact False.elim (by omega)
    | succ k ih =>
      intro i h2 h3
      refine V_iload_n (q := 5) g dX1_stampedChairs_4 rfl rfl ?_
      refine V_aload_n (q := 6) g dX1_stampedChairs_5 rfl rfl ?_
      refine V_getI (q := 9) g dX1_stampedChairs_6 rfl f_X1_45 rfl hL.1 rfl (j := 0) rfl ?_
      rw [hO.1]
      refine V_icmp_ge (q := 12) g dX1_stampedChairs_9 (tgt := 29) (by decide) rfl (by omega) (by omega) (fun h9 => ?_) (fun h9 => ?_)
      · have h9 : i = (f 0).toNat := by omega
        subst h9
        have hs := stN hI (f 0).toNat (by omega)
        refine V_iload_n (q := 30) g dX1_stampedChairs_29 rfl rfl ?_
        exact V_ireturn g r dX1_stampedChairs_30 rfl ⟨⟨rfl, by omega, by omega⟩, rfl⟩
      · refine V_iload_n (q := 13) g dX1_stampedChairs_12 rfl rfl ?_
        refine V_aload_n (q := 14) g dX1_stampedChairs_13 rfl rfl ?_
        refine V_getR (q := 17) g dX1_stampedChairs_14 rfl f_X1_21 rfl hL.1 rfl ?_
        refine V_iload_n (q := 18) g dX1_stampedChairs_17 rfl rfl ?_
        refine V_callNI_2 (q := 21) g (a_stamps l hL hO hI (by omega)) dX1_stampedChairs_18 k_X1_64 rfl rfl ⟨rfl, rfl⟩ rfl (fun z2 M2 e2 => ?_)
        obtain ⟨⟨e2, b2⟩, rfl⟩ := e2
        rw [e2]
        refine V_iadd (q := 22) g dX1_stampedChairs_21 rfl ?_
        refine V_istore_n_1 (q := 23) g dX1_stampedChairs_22 (by decide) rfl rfl ?_
        refine V_iinc_2 (q := 26) g dX1_stampedChairs_23 (by decide) rfl rfl ?_
        refine V_goto g dX1_stampedChairs_26 (tgt := 4) (by decide) ?_
        exact ih (i + 1) (by omega) (by omega)
  refine V_iconst (q := 1) g dX1_stampedChairs_0 rfl ?_
  refine V_istore_n_1 (q := 2) g dX1_stampedChairs_1 (by decide) rfl rfl ?_
  refine V_iconst (q := 3) g dX1_stampedChairs_2 rfl ?_
  refine V_istore_n_2 (q := 4) g dX1_stampedChairs_3 (by decide) rfl rfl ?_
  exact hloop (f 0).toNat 0 (by omega) (by omega)
abbrev rm_X1_count : Room := { frames := 1, cells := 0, slots := 0, locals := 22 }
set_option maxHeartbeats 4000000 in
set_option maxRecDepth 100000 in
theorem c_X1_count (l : Launch) {D : DD} {Λ : LY} {M : MM} {o : Nat} {f : Int → Int} {t x : Int} (hL : OffL D Λ o) (hO : Off M o f) (ht : 3 ≤ t ∧ t ≤ 10) : CV l yX1_count cX1_count 3 rm_X1_count [.ref o, vi t, vi x] D Λ M (fun M1 => Off M1 o (up f (t - 1) (f (t - 1) + x)) ∧ Oth M M1 o) := by
  refine CV_of rfl rfl (Nat.le_of_ble_eq_true rfl) (fun Γ g r => ?_)
  have hT : Oth M M o := Oth.rf
  refine V_aload_n (q := 1) g dX1_count_0 rfl rfl ?_
  refine V_getR (q := 4) g dX1_count_1 rfl f_X1_39 rfl hL.1 rfl ?_
  refine V_iload_n (q := 5) g dX1_count_4 rfl rfl ?_
  refine V_aload_n (q := 6) g dX1_count_5 rfl rfl ?_
  refine V_getR (q := 9) g dX1_count_6 rfl f_X1_39 rfl hL.1 rfl ?_
  refine V_iload_n (q := 10) g dX1_count_9 rfl rfl ?_
  refine V_callNI_2 (q := 13) g (a_totals l hL hO (by omega)) dX1_count_10 k_X1_64 rfl rfl ⟨rfl, rfl⟩ rfl (fun z1 M1 e1 => ?_)
  obtain ⟨e1, rfl⟩ := e1
  rw [e1]
  refine V_iload_n (q := 14) g dX1_count_13 rfl rfl ?_
  refine V_iadd (q := 15) g dX1_count_14 rfl ?_
  refine V_callNV_3 (q := 18) g (p_totals l hL hO (by omega)) dX1_count_15 k_X1_56 rfl rfl ⟨rfl, rfl⟩ rfl (fun M2 e2 => ?_)
  obtain ⟨hO2, hT2⟩ := e2
  have hO := hO2
  have hT := hT.tr hT2
  exact V_return g r dX1_count_18 ⟨hO, hT⟩
abbrev rm_X1_voidStamp : Room := { frames := 2, cells := 0, slots := 0, locals := 44 }
set_option maxHeartbeats 4000000 in
set_option maxRecDepth 100000 in
theorem c_X1_voidStamp (l : Launch) {D : DD} {Λ : LY} {M : MM} {o : Nat} {f : Int → Int} {c : Int} (hL : OffL D Λ o) (hO : Off M o f) (hI : Inv f) (hc : 0 ≤ c ∧ c < f 0) : CI l yX1_voidStamp cX1_voidStamp 2 .int rm_X1_voidStamp [.ref o, vi c] D Λ M (fun z M1 => z = f (47 + 9 * c) ∧ Off M1 o (fVoid f c) ∧ Oth M M1 o) := by
  refine CI_of rfl rfl (Nat.le_of_ble_eq_true rfl) (fun Γ g r => ?_)
  have h0 := hI.1
  have h1 := hI.2.1
  have hT : Oth M M o := Oth.rf
  refine V_aload_n (q := 1) g dX1_voidStamp_0 rfl rfl ?_
  refine V_getR (q := 4) g dX1_voidStamp_1 rfl f_X1_21 rfl hL.1 rfl ?_
  refine V_iload_n (q := 5) g dX1_voidStamp_4 rfl rfl ?_
  refine V_callNI_2 (q := 8) g (a_stamps l hL hO hI (by omega)) dX1_voidStamp_5 k_X1_64 rfl rfl ⟨rfl, rfl⟩ rfl (fun z1 M1 e1 => ?_)
  obtain ⟨⟨e1, b1⟩, rfl⟩ := e1
  refine V_if_ne (q := 11) g dX1_voidStamp_8 (tgt := 13) (by decide) rfl (by omega) (fun h8 => ?_) (fun h8 => ?_)
  · refine V_aload_n (q := 14) g dX1_voidStamp_13 rfl rfl ?_
    refine V_getR (q := 17) g dX1_voidStamp_14 rfl f_X1_21 rfl hL.1 rfl ?_
    refine V_iload_n (q := 18) g dX1_voidStamp_17 rfl rfl ?_
    refine V_iconst (q := 19) g dX1_voidStamp_18 rfl ?_
    refine V_callNV_3 (q := 22) g (p_stamps l hL hO (by omega)) dX1_voidStamp_19 k_X1_56 rfl rfl ⟨rfl, rfl⟩ rfl (fun M2 e2 => ?_)
    obtain ⟨hO2, hT2⟩ := e2
    have hO := hO2
    have hT := hT.tr hT2
    refine V_aload_n (q := 23) g dX1_voidStamp_22 rfl rfl ?_
    refine V_iconst (q := 24) g dX1_voidStamp_23 rfl ?_
    refine V_iconst (q := 25) g dX1_voidStamp_24 rfl ?_
    refine V_callVV_2 (q := 28) g (c_X1_count l hL hO (by omega)) dX1_voidStamp_25 k_X1_124 hL.1 rfl rfl rfl rfl ⟨rfl, rfl⟩ rfl (fun M3 e3 => ?_)
    obtain ⟨hO3, hT3⟩ := e3
    have hO := hO3
    have hT := hT.tr hT3
    refine V_iconst (q := 29) g dX1_voidStamp_28 rfl ?_
    exact V_ireturn g r dX1_voidStamp_29 rfl ⟨by omega, by rw [← void_eq (by omega) (by omega)]; exact hO, hT⟩
  · refine V_iconst (q := 12) g dX1_voidStamp_11 rfl ?_
    exact V_ireturn g r dX1_voidStamp_12 rfl ⟨by omega, by rw [fVoid_0 (by omega) (by omega)]; exact hO, hT⟩
abbrev rm_X1_isSpot : Room := { frames := 1, cells := 0, slots := 0, locals := 22 }
set_option maxHeartbeats 4000000 in
set_option maxRecDepth 100000 in
theorem c_X1_isSpot (l : Launch) {D : DD} {Λ : LY} {M : MM} {o : Nat} {x : Int} (hr : inR x) : CI l yX1_isSpot cX1_isSpot 2 .boolean rm_X1_isSpot [.ref o, vi x] D Λ M (fun z M1 => ((0 ≤ x ∧ x ≤ 50) ∧ z = 1 ∨ ¬ (0 ≤ x ∧ x ≤ 50) ∧ z = 0) ∧ M = M1) := by
  refine CI_of rfl rfl (Nat.le_of_ble_eq_true rfl) (fun Γ g r => ?_)
  refine V_iload_n (q := 1) g dX1_isSpot_0 rfl rfl ?_
  refine V_iconst (q := 2) g dX1_isSpot_1 rfl ?_
  refine V_bipush (q := 4) g dX1_isSpot_2 (by decide) rfl ?_
  refine V_callNI_3 (q := 7) g (c_X4_within l (by omega) (by omega) (by omega)) dX1_isSpot_4 k_X1_104 rfl rfl ⟨rfl, rfl⟩ rfl (fun z1 M1 e1 => ?_)
  obtain ⟨e1, rfl⟩ := e1
  exact V_ireturn g r dX1_isSpot_7 (by rcases e1 with ⟨_, _, e⟩ | ⟨_, e⟩ <;> rw [e] <;> rfl) ⟨by omega, rfl⟩
abbrev rm_X1_isBound : Room := { frames := 1, cells := 0, slots := 0, locals := 22 }
set_option maxHeartbeats 4000000 in
set_option maxRecDepth 100000 in
theorem c_X1_isBound (l : Launch) {D : DD} {Λ : LY} {M : MM} {o : Nat} {k x : Int} (hk : 0 ≤ k ∧ k < 4) (hr : inR x) : CI l yX1_isBound cX1_isBound 3 .boolean rm_X1_isBound [.ref o, vi k, vi x] D Λ M (fun z M1 => ((k < 2 ∧ 100 ≤ x ∧ x ≤ 900 ∨ k = 2 ∧ 0 ≤ x ∧ x ≤ 100 ∨ k = 3 ∧ 0 ≤ x ∧ x ≤ 200) ∧ z = 1 ∨ ¬ (k < 2 ∧ 100 ≤ x ∧ x ≤ 900 ∨ k = 2 ∧ 0 ≤ x ∧ x ≤ 100 ∨ k = 3 ∧ 0 ≤ x ∧ x ≤ 200) ∧ z = 0) ∧ M = M1) := by
  refine CI_of rfl rfl (Nat.le_of_ble_eq_true rfl) (fun Γ g r => ?_)
  refine V_iload_n (q := 1) g dX1_isBound_0 rfl rfl ?_
  rcases (by omega : k = 0 ∨ k = 1 ∨ k = 2 ∨ k = 3 ∨ (k < 0 ∨ 3 < k)) with h1 | h1 | h1 | h1 | h1
  · refine V_tabAt g dX1_isBound_1 (n := 0) h1 (by decide) (by decide) (by decide) (off := 31) rfl (tgt := 32) (by decide) ?_
    refine V_iload_n (q := 33) g dX1_isBound_32 rfl rfl ?_
    refine V_bipush (q := 35) g dX1_isBound_33 (by decide) rfl ?_
    refine V_sipush (q := 38) g dX1_isBound_35 (by decide) rfl ?_
    refine V_callNI_3 (q := 41) g (c_X4_within l (by omega) (by omega) (by omega)) dX1_isBound_38 k_X1_104 rfl rfl ⟨rfl, rfl⟩ rfl (fun z1 M1 e1 => ?_)
    obtain ⟨e1, rfl⟩ := e1
    exact V_ireturn g r dX1_isBound_41 (by rcases e1 with ⟨_, _, e⟩ | ⟨_, e⟩ <;> rw [e] <;> rfl) ⟨by omega, rfl⟩
  · refine V_tabAt g dX1_isBound_1 (n := 1) h1 (by decide) (by decide) (by decide) (off := 31) rfl (tgt := 32) (by decide) ?_
    refine V_iload_n (q := 33) g dX1_isBound_32 rfl rfl ?_
    refine V_bipush (q := 35) g dX1_isBound_33 (by decide) rfl ?_
    refine V_sipush (q := 38) g dX1_isBound_35 (by decide) rfl ?_
    refine V_callNI_3 (q := 41) g (c_X4_within l (by omega) (by omega) (by omega)) dX1_isBound_38 k_X1_104 rfl rfl ⟨rfl, rfl⟩ rfl (fun z2 M2 e2 => ?_)
    obtain ⟨e2, rfl⟩ := e2
    exact V_ireturn g r dX1_isBound_41 (by rcases e2 with ⟨_, _, e⟩ | ⟨_, e⟩ <;> rw [e] <;> rfl) ⟨by omega, rfl⟩
  · refine V_tabAt g dX1_isBound_1 (n := 2) h1 (by decide) (by decide) (by decide) (off := 41) rfl (tgt := 42) (by decide) ?_
    refine V_iload_n (q := 43) g dX1_isBound_42 rfl rfl ?_
    refine V_iconst (q := 44) g dX1_isBound_43 rfl ?_
    refine V_bipush (q := 46) g dX1_isBound_44 (by decide) rfl ?_
    refine V_callNI_3 (q := 49) g (c_X4_within l (by omega) (by omega) (by omega)) dX1_isBound_46 k_X1_104 rfl rfl ⟨rfl, rfl⟩ rfl (fun z3 M3 e3 => ?_)
    obtain ⟨e3, rfl⟩ := e3
    exact V_ireturn g r dX1_isBound_49 (by rcases e3 with ⟨_, _, e⟩ | ⟨_, e⟩ <;> rw [e] <;> rfl) ⟨by omega, rfl⟩
  · refine V_tabAt g dX1_isBound_1 (n := 3) h1 (by decide) (by decide) (by decide) (off := 49) rfl (tgt := 50) (by decide) ?_
    refine V_iload_n (q := 51) g dX1_isBound_50 rfl rfl ?_
    refine V_iconst (q := 52) g dX1_isBound_51 rfl ?_
    refine V_sipush (q := 55) g dX1_isBound_52 (by decide) rfl ?_
    refine V_callNI_3 (q := 58) g (c_X4_within l (by omega) (by omega) (by omega)) dX1_isBound_55 k_X1_104 rfl rfl ⟨rfl, rfl⟩ rfl (fun z4 M4 e4 => ?_)
    obtain ⟨e4, rfl⟩ := e4
    exact V_ireturn g r dX1_isBound_58 (by rcases e4 with ⟨_, _, e⟩ | ⟨_, e⟩ <;> rw [e] <;> rfl) ⟨by omega, rfl⟩
  · refine V_tabOut g dX1_isBound_1 (by omega) h1 (tgt := 59) (by decide) ?_
    refine V_iconst (q := 60) g dX1_isBound_59 rfl ?_
    exact V_ireturn g r dX1_isBound_60 rfl ⟨by omega, rfl⟩
abbrev rm_X1_wearOf : Room := { frames := 1, cells := 0, slots := 0, locals := 21 }
set_option maxHeartbeats 4000000 in
set_option maxRecDepth 100000 in
theorem c_X1_wearOf (l : Launch) {D : DD} {Λ : LY} {M : MM} {o : Nat} {f : Int → Int} {wt : Int} (hL : OffL D Λ o) (hO : Off M o f) (hI : Inv f) (hw : 0 ≤ wt ∧ wt ≤ 200) : CI l yX1_wearOf cX1_wearOf 3 .int rm_X1_wearOf [.ref o, vi wt] D Λ M (fun z M1 => (z = wt / f 11 ∧ 0 ≤ z ∧ z ≤ 200) ∧ M = M1) := by
  refine CI_of rfl rfl (Nat.le_of_ble_eq_true rfl) (fun Γ g r => ?_)
  have h11 := hI.2.2.2.1
  refine V_aload_n (q := 1) g dX1_wearOf_0 rfl rfl ?_
  refine V_getR (q := 4) g dX1_wearOf_1 rfl f_X1_36 rfl hL.1 rfl ?_
  refine V_iconst (q := 5) g dX1_wearOf_4 rfl ?_
  refine V_callNI_2 (q := 8) g (a_values1 l hL hO) dX1_wearOf_5 k_X1_64 rfl rfl ⟨rfl, rfl⟩ rfl (fun z1 M1 e1 => ?_)
  obtain ⟨e1, rfl⟩ := e1
  refine V_istore_n_2 (q := 9) g dX1_wearOf_8 (by decide) rfl rfl ?_
  refine V_iload_n (q := 10) g dX1_wearOf_9 rfl rfl ?_
  refine V_iconst (q := 11) g dX1_wearOf_10 rfl ?_
  refine V_icmp_ge (q := 14) g dX1_wearOf_11 (tgt := 18) (by decide) rfl (by omega) (by omega) (fun h11 => ?_) (fun h11 => absurd h11 (by omega))
  refine V_iload_n (q := 19) g dX1_wearOf_18 rfl rfl ?_
  refine V_iload_n (q := 20) g dX1_wearOf_19 rfl rfl ?_
  refine V_idiv (q := 21) g dX1_wearOf_20 (by omega) (by omega) rfl ?_
  have d1 : 0 ≤ wt / z1 := Int.ediv_nonneg hw.1 (by omega)
  have d2 : wt / z1 ≤ wt := Int.ediv_le_self z1 hw.1
  exact V_ireturn g r dX1_wearOf_21 rfl ⟨⟨by rw [e1], by omega, by omega⟩, rfl⟩
abbrev rm_X1_wearLeg : Room := { frames := 3, cells := 0, slots := 0, locals := 65 }
set_option maxHeartbeats 4000000 in
set_option maxRecDepth 100000 in
theorem c_X1_wearLeg (l : Launch) {D : DD} {Λ : LY} {M : MM} {o : Nat} {f : Int → Int} {c k w : Int} (hL : OffL D Λ o) (hO : Off M o f) (hI : Inv f) (hc : 0 ≤ c ∧ c < f 0) (hk : 0 ≤ k ∧ k < 4) (hw : 0 ≤ w ∧ w ≤ 200) : CI l yX1_wearLeg cX1_wearLeg 6 .int rm_X1_wearLeg [.ref o, vi c, vi k, vi w] D Λ M (fun z M1 => (z = (if w < f (49 + 9 * c + k) - 100 then w else f (49 + 9 * c + k) - 100) ∧ 0 ≤ z ∧ z ≤ 200) ∧ Off M1 o (fLeg f c k (-z)) ∧ Oth M M1 o) := by
  refine CI_of rfl rfl (Nat.le_of_ble_eq_true rfl) (fun Γ g r => ?_)
  have h0 := hI.1
  have h1 := hI.2.1
  have hT : Oth M M o := Oth.rf
  refine V_aload_n (q := 1) g dX1_wearLeg_0 rfl rfl ?_
  refine V_iload_n (q := 2) g dX1_wearLeg_1 rfl rfl ?_
  refine V_iload_n (q := 3) g dX1_wearLeg_2 rfl rfl ?_
  refine V_callVI_2 (q := 6) g (c_X1_length l hL hO hI (by omega) (by omega)) dX1_wearLeg_3 k_X1_94 hL.1 rfl rfl rfl rfl ⟨rfl, rfl⟩ rfl (fun z1 M1 e1 => ?_)
  obtain ⟨⟨e1, b1⟩, rfl⟩ := e1
  refine V_istore_4 (q := 8) g dX1_wearLeg_6 (by decide) rfl rfl ?_
  refine V_iload_n (q := 9) g dX1_wearLeg_8 rfl rfl ?_
  refine V_iload (q := 11) g dX1_wearLeg_9 rfl rfl ?_
  refine V_bipush (q := 13) g dX1_wearLeg_11 (by decide) rfl ?_
  refine V_isub (q := 14) g dX1_wearLeg_13 rfl ?_
  refine V_mmin g dX1_wearLeg_14 m_X1_76 (by omega) (by omega) rfl rfl rfl (fun z2 e2 => ?_)
  have r2 := @sMin_r w (z1 - 100)
  rw [← e2] at r2
  refine V_istore_5 (q := 19) g dX1_wearLeg_17 (by decide) rfl rfl ?_
  refine V_iload (q := 21) g dX1_wearLeg_19 rfl rfl ?_
  refine V_if_gt (q := 24) g dX1_wearLeg_21 (tgt := 26) (by decide) rfl (by omega) (fun h21 => ?_) (fun h21 => ?_)
  · refine V_aload_n (q := 27) g dX1_wearLeg_26 rfl rfl ?_
    refine V_getR (q := 30) g dX1_wearLeg_27 rfl f_X1_27 rfl hL.1 rfl ?_
    refine V_iload_n (q := 31) g dX1_wearLeg_30 rfl rfl ?_
    refine V_iconst (q := 32) g dX1_wearLeg_31 rfl ?_
    refine V_imul (q := 33) g dX1_wearLeg_32 rfl ?_
    refine V_iload_n (q := 34) g dX1_wearLeg_33 rfl rfl ?_
    refine V_iadd (q := 35) g dX1_wearLeg_34 rfl ?_
    refine V_iload (q := 37) g dX1_wearLeg_35 rfl rfl ?_
    refine V_iload (q := 39) g dX1_wearLeg_37 rfl rfl ?_
    refine V_isub (q := 40) g dX1_wearLeg_39 rfl ?_
    refine V_callNV_3 (q := 43) g (p_lengths l hL hO c k (by omega) (by omega) (by omega)) dX1_wearLeg_40 k_X1_56 rfl rfl ⟨rfl, rfl⟩ rfl (fun M3 e3 => ?_)
    obtain ⟨hO3, hT3⟩ := e3
    have hO := hO3
    have hT := hT.tr hT3
    have hI2 := Inv_len hI (v := z1 - z2) hc.1 hk (by omega)
    have hx : z1 - z2 = f (49 + 9 * c + k) + -z2 := by omega
    refine V_aload_n (q := 44) g dX1_wearLeg_43 rfl rfl ?_
    refine V_iload_n (q := 45) g dX1_wearLeg_44 rfl rfl ?_
    refine V_callVI_1 (q := 48) g (c_X1_voidStamp l hL hO hI2 (by rw [up_ne (by omega)]; exact hc)) dX1_wearLeg_45 k_X1_118 hL.1 rfl rfl rfl rfl ⟨rfl, rfl⟩ rfl (fun z4 M4 e4 => ?_)
    obtain ⟨e4, hO4, hT4⟩ := e4
    have hO := hO4
    have hT := hT.tr hT4
    refine V_pop (q := 49) g dX1_wearLeg_48 rfl rfl ?_
    refine V_iload (q := 51) g dX1_wearLeg_49 rfl rfl ?_
    exact V_ireturn g r dX1_wearLeg_51 rfl ⟨⟨by rw [← e1]; split <;> omega, by omega, by omega⟩, by rw [fLeg_n (by omega), ← hx]; exact hO, hT⟩
  · refine V_iconst (q := 25) g dX1_wearLeg_24 rfl ?_
    have h9 : w = 0 ∨ z1 = 100 := by omega
    exact V_ireturn g r dX1_wearLeg_25 rfl ⟨⟨by rw [← e1]; split <;> omega, by omega, by omega⟩, by rw [show (-(0 : Int)) = 0 from rfl, fLeg_0]; exact hO, hT⟩
