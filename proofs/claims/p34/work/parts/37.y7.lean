/-- the memory at y: its places behind it, then their offices -/
def gO (y i : Nat) : Nat := y + 2 + 11 * i
def MemL (D : DD) (Λ : LY) (y : Nat) : Prop := Λ y = some (kO 0 [some (y + 1), none, none]) ∧ Λ (y + 1) = some (kQ D 15 (gO y)) ∧ ∀ i : Nat, i < 15 → OffL D Λ (gO y i)
section YM
variable {Γ : VG} {D : DD} {Λ : LY} {own : String} {cc : ByteArray} {nL : Nat} {l : Launch} {R : Room} {M : MM} {κ : Nat × Nat} {pc q : Nat} {lv : List (Option Value)} {st : List Value}
theorem V_aaload {a n : Nat} {f : Nat → Nat} {i : Int} (g : VOk Γ D Λ own cc nL l R) (d : decode cc pc = .ok (.aaload, 1)) (hq : pc + 1 = q) (hΛ : Λ a = some (kQ D n f)) (hi : 0 ≤ i ∧ i < n) (hn : n < 2147483648) (k : V Γ D Λ M κ q lv (.ref (f i.toNat) :: st)) : V Γ D Λ M κ pc lv (vi i :: .ref a :: st) := by
  subst hq
  intro H locs ls h1 h2 h3
  refine va_aldq g.exec g.code g.hK (h1.one hΛ) 0 3 rfl rfl (iI_in hi hn) d ?_
  rw [iI_cl ⟨hi.1, by omega⟩]
  exact k H locs ls h1 h2 h3
theorem V_ifnull {b : Nat} {off : Int} (g : VOk Γ D Λ own cc nL l R) (d : decode cc pc = .ok (.ifnull off, 3)) (hq : pc + 3 = q) (k : V Γ D Λ M κ q lv st) : V Γ D Λ M κ pc lv (.ref b :: st) := by
  subst hq
  intro H locs ls h1 h2 h3
  exact lv_ifnull g.exec g.code d (k H locs ls h1 h2 h3)
end YM
theorem Off.eqv {M M1 : MM} {o : Nat} {f : Int → Int} (h : Off M o f) (e : ∀ b : Nat, o ≤ b → b ≤ o + 10 → M1 b = M b) : Off M1 o f := by
  have e0 := e o (by omega) (by omega)
  have e1 := e (o + 1) (by omega) (by omega)
  have e2 := e (o + 2) (by omega) (by omega)
  have e3 := e (o + 3) (by omega) (by omega)
  have e4 := e (o + 4) (by omega) (by omega)
  have e5 := e (o + 5) (by omega) (by omega)
  have e6 := e (o + 6) (by omega) (by omega)
  have e7 := e (o + 7) (by omega) (by omega)
  have e8 := e (o + 8) (by omega) (by omega)
  have e9 := e (o + 9) (by omega) (by omega)
  have e10 := e (o + 10) (by omega) (by omega)
  unfold Off OffC
  unfold Off OffC at h
  rw [e0, e1, e2, e3, e4, e5, e6, e7, e8, e9, e10]
  exact h
theorem Off.oth {M M1 : MM} {o p : Nat} {f : Int → Int} (h : Off M o f) (e : Oth M M1 p) (a : o + 10 < p ∨ p + 10 < o) : Off M1 o f := h.eqv fun b h1 h2 => e b (by omega)
abbrev rm_X0_place : Room := { frames := 0, cells := 0, slots := 0, locals := 0 }
set_option maxHeartbeats 4000000 in
set_option maxRecDepth 100000 in
theorem c_X0_place (l : Launch) {D : DD} {Λ : LY} {M : MM} {y : Nat} {i : Int} (hL : MemL D Λ y) (hi : 0 ≤ i ∧ i < 15) : CA l yX0_place cX0_place 2 (.object "ChairStamps$Office") rm_X0_place [.ref y, vi i] D Λ M (fun z M1 => gO y i.toNat = z ∧ M = M1) := by
  refine CA_of rfl rfl (Nat.le_of_ble_eq_true rfl) (fun Γ g r => ?_)
  refine V_iload_n (q := 1) g dX0_place_0 rfl rfl ?_
  refine V_if_lt (q := 4) g dX0_place_1 (tgt := 22) (by decide) rfl (by omega) (fun h1 => absurd h1 (by omega)) (fun h1 => ?_)
  refine V_iload_n (q := 5) g dX0_place_4 rfl rfl ?_
  refine V_aload_n (q := 6) g dX0_place_5 rfl rfl ?_
  refine V_getR (q := 9) g dX0_place_6 rfl f_X0_13 rfl hL.1 rfl ?_
  refine V_alenQ (q := 10) g dX0_place_9 rfl hL.2.1 ?_
  refine V_icmp_ge (q := 13) g dX0_place_10 (tgt := 22) (by decide) rfl (by omega) (by omega) (fun h10 => absurd h10 (by omega)) (fun h10 => ?_)
  refine V_aload_n (q := 14) g dX0_place_13 rfl rfl ?_
  refine V_getR (q := 17) g dX0_place_14 rfl f_X0_13 rfl hL.1 rfl ?_
  refine V_iload_n (q := 18) g dX0_place_17 rfl rfl ?_
  refine V_aaload (q := 19) g dX0_place_18 rfl hL.2.1 (by omega) (by decide) ?_
  refine V_goto g dX0_place_19 (tgt := 23) (by decide) ?_
  exact V_areturn g r ⟨_, rfl⟩ dX0_place_23 ⟨rfl, rfl⟩
abbrev rm_X0_forget : Room := { frames := 0, cells := 0, slots := 0, locals := 0 }
set_option maxHeartbeats 4000000 in
set_option maxRecDepth 100000 in
theorem c_X0_forget (l : Launch) {D : DD} {Λ : LY} {M : MM} {y : Nat} (hL : MemL D Λ y) : CV l yX0_forget cX0_forget 1 rm_X0_forget [.ref y] D Λ M (fun M1 => wr M y 2 0 = M1) := by
  refine CV_of rfl rfl (Nat.le_of_ble_eq_true rfl) (fun Γ g r => ?_)
  refine V_aload_n (q := 1) g dX0_forget_0 rfl rfl ?_
  refine V_iconst (q := 2) g dX0_forget_1 rfl ?_
  refine V_putI (q := 5) g dX0_forget_2 rfl f_X0_21 tyX0_ok nmX0 rfl hL.1 rfl rfl (ty := .int) rfl rfl rfl (j := 2) rfl ?_
  exact V_return g r dX0_forget_5 rfl
abbrev rm_X0_draft : Room := { frames := 2, cells := 0, slots := 0, locals := 43 }
set_option maxHeartbeats 4000000 in
set_option maxRecDepth 100000 in
theorem c_X0_draft (l : Launch) {D : DD} {Λ : LY} {M : MM} {y o : Nat} {f : Int → Int} (hL : MemL D Λ y) (hL2 : OffL D Λ o) (hO : Off M o f) (hI : Inv f) (hn : 0 ≤ M y 1 ∧ M y 1 < 15) (ha : ∀ i : Nat, i < 15 → gO y i + 10 < o ∨ o + 10 < gO y i) : CV l yX0_draft cX0_draft 3 rm_X0_draft [.ref y, .ref o] D Λ M (fun M1 => Off M1 (gO y (M y 1).toNat) f ∧ Oth M M1 (gO y (M y 1).toNat)) := by
  refine CV_of rfl rfl (Nat.le_of_ble_eq_true rfl) (fun Γ g r => ?_)
  refine V_aload_n (q := 1) g dX0_draft_0 rfl rfl ?_
  refine V_aload_n (q := 2) g dX0_draft_1 rfl rfl ?_
  refine V_getI (q := 5) g dX0_draft_2 rfl f_X0_17 rfl hL.1 rfl (j := 1) rfl ?_
  refine V_callVA_1 (q := 8) g (c_X0_place l hL (by omega)) dX0_draft_5 k_X0_25 hL.1 rfl rfl rfl rfl ⟨rfl, rfl⟩ rfl (fun z1 M1 e1 => ?_)
  obtain ⟨rfl, rfl⟩ := e1
  refine V_astore_n_2 (q := 9) g dX0_draft_8 (by decide) rfl rfl ?_
  refine V_aload_n (q := 10) g dX0_draft_9 rfl rfl ?_
  refine V_ifnull g dX0_draft_10 rfl ?_
  refine V_aload_n (q := 14) g dX0_draft_13 rfl rfl ?_
  refine V_aload_n (q := 15) g dX0_draft_14 rfl rfl ?_
  refine V_callVV_1 (q := 18) g (c_X1_copyFrom l (hL.2.2 _ (by omega)) hL2 hO hI (by have := ha (M y 1).toNat (by omega); omega)) dX0_draft_15 k_X0_29 (hL.2.2 _ (by omega)).1 rfl rfl rfl rfl ⟨rfl, rfl⟩ rfl (fun M2 e2 => ?_)
  obtain ⟨hO2, hT2⟩ := e2
  exact V_return g r dX0_draft_18 ⟨hO2, hT2⟩
abbrev rm_X0_keepDraft : Room := { frames := 1, cells := 0, slots := 0, locals := 21 }
set_option maxHeartbeats 4000000 in
set_option maxRecDepth 100000 in
theorem c_X0_keepDraft (l : Launch) {D : DD} {Λ : LY} {M : MM} {y : Nat} (hL : MemL D Λ y) (hn : 0 ≤ M y 1 ∧ M y 1 < 15) (hc : 0 ≤ M y 2 ∧ M y 2 ≤ 14) : CV l yX0_keepDraft cX0_keepDraft 1 rm_X0_keepDraft [.ref y] D Λ M (fun M1 => wr (wr M y 1 ((M y 1 + 1) % 15)) y 2 (sMin (M y 2 + 1) 14) = M1) := by
  refine CV_of rfl rfl (Nat.le_of_ble_eq_true rfl) (fun Γ g r => ?_)
  refine V_aload_n (q := 1) g dX0_keepDraft_0 rfl rfl ?_
  refine V_aload_n (q := 2) g dX0_keepDraft_1 rfl rfl ?_
  refine V_getI (q := 5) g dX0_keepDraft_2 rfl f_X0_17 rfl hL.1 rfl (j := 1) rfl ?_
  refine V_iconst (q := 6) g dX0_keepDraft_5 rfl ?_
  refine V_iadd (q := 7) g dX0_keepDraft_6 rfl ?_
  refine V_bipush (q := 9) g dX0_keepDraft_7 (by decide) rfl ?_
  refine V_irem (q := 10) g dX0_keepDraft_9 (by omega) (by omega) rfl ?_
  refine V_putI (q := 13) g dX0_keepDraft_10 rfl f_X0_17 tyX0_ok nmX0 rfl hL.1 rfl rfl (ty := .int) rfl rfl rfl (j := 1) rfl ?_
  refine V_aload_n (q := 14) g dX0_keepDraft_13 rfl rfl ?_
  refine V_aload_n (q := 15) g dX0_keepDraft_14 rfl rfl ?_
  refine V_getI (q := 18) g dX0_keepDraft_15 rfl f_X0_21 rfl hL.1 rfl (j := 2) rfl ?_
  rw [wr_ii _ _ _ (by decide)]
  refine V_iconst (q := 19) g dX0_keepDraft_18 rfl ?_
  refine V_iadd (q := 20) g dX0_keepDraft_19 rfl ?_
  refine V_bipush (q := 22) g dX0_keepDraft_20 (by decide) rfl ?_
  refine V_mmin g dX0_keepDraft_22 m_X0_33 (by omega) (by omega) rfl rfl rfl (fun z1 e1 => ?_)
  rw [e1]
  refine V_putI (q := 28) g dX0_keepDraft_25 rfl f_X0_21 tyX0_ok nmX0 rfl hL.1 rfl rfl (ty := .int) rfl rfl rfl (j := 2) rfl ?_
  exact V_return g r dX0_keepDraft_28 rfl
abbrev rm_X0_takeBack : Room := { frames := 2, cells := 0, slots := 0, locals := 43 }
set_option maxHeartbeats 4000000 in
set_option maxRecDepth 100000 in
theorem c_X0_takeBack (l : Launch) {D : DD} {Λ : LY} {M : MM} {y o : Nat} {f : Int → Int} (hL : MemL D Λ y) (hL2 : OffL D Λ o) (hn : 0 ≤ M y 1 ∧ M y 1 < 15) (hc : 1 ≤ M y 2 ∧ M y 2 ≤ 14) (hO : Off M (gO y ((M y 1 + 14) % 15).toNat) f) (hI : Inv f) (ha : ∀ i : Nat, i < 15 → gO y i + 10 < o ∨ o + 10 < gO y i) : CV l yX0_takeBack cX0_takeBack 3 rm_X0_takeBack [.ref y, .ref o] D Λ M (fun M1 => Off M1 o f ∧ Oth (wr (wr M y 2 (M y 2 - 1)) y 1 ((M y 1 + 14) % 15)) M1 o) := by
  refine CV_of rfl rfl (Nat.le_of_ble_eq_true rfl) (fun Γ g r => ?_)
  refine V_aload_n (q := 1) g dX0_takeBack_0 rfl rfl ?_
  refine V_getI (q := 4) g dX0_takeBack_1 rfl f_X0_21 rfl hL.1 rfl (j := 2) rfl ?_
  refine V_if_ne (q := 7) g dX0_takeBack_4 (tgt := 8) (by decide) rfl (by omega) (fun h4 => ?_) (fun h4 => absurd h4 (by omega))
  refine V_aload_n (q := 9) g dX0_takeBack_8 rfl rfl ?_
  refine V_dup (q := 10) g dX0_takeBack_9 rfl rfl ?_
  refine V_getI (q := 13) g dX0_takeBack_10 rfl f_X0_21 rfl hL.1 rfl (j := 2) rfl ?_
  refine V_iconst (q := 14) g dX0_takeBack_13 rfl ?_
  refine V_isub (q := 15) g dX0_takeBack_14 rfl ?_
  refine V_putI (q := 18) g dX0_takeBack_15 rfl f_X0_21 tyX0_ok nmX0 rfl hL.1 rfl rfl (ty := .int) rfl rfl rfl (j := 2) rfl ?_
  refine V_aload_n (q := 19) g dX0_takeBack_18 rfl rfl ?_
  refine V_aload_n (q := 20) g dX0_takeBack_19 rfl rfl ?_
  refine V_getI (q := 23) g dX0_takeBack_20 rfl f_X0_17 rfl hL.1 rfl (j := 1) rfl ?_
  rw [wr_ii _ _ _ (by decide)]
  refine V_bipush (q := 25) g dX0_takeBack_23 (by decide) rfl ?_
  refine V_iadd (q := 26) g dX0_takeBack_25 rfl ?_
  refine V_iconst (q := 27) g dX0_takeBack_26 rfl ?_
  refine V_isub (q := 28) g dX0_takeBack_27 rfl ?_
  refine V_bipush (q := 30) g dX0_takeBack_28 (by decide) rfl ?_
  refine V_irem (q := 31) g dX0_takeBack_30 (by omega) (by omega) rfl ?_
  rw [show M y 1 + 15 - 1 = M y 1 + 14 by omega]
  refine V_putI (q := 34) g dX0_takeBack_31 rfl f_X0_17 tyX0_ok nmX0 rfl hL.1 rfl rfl (ty := .int) rfl rfl rfl (j := 1) rfl ?_
  refine V_aload_n (q := 35) g dX0_takeBack_34 rfl rfl ?_
  refine V_aload_n (q := 36) g dX0_takeBack_35 rfl rfl ?_
  refine V_getI (q := 39) g dX0_takeBack_36 rfl f_X0_17 rfl hL.1 rfl (j := 1) rfl ?_
  rw [wr_iv]
  refine V_callVA_1 (q := 42) g (c_X0_place l hL (by omega)) dX0_takeBack_39 k_X0_25 hL.1 rfl rfl rfl rfl ⟨rfl, rfl⟩ rfl (fun z1 M1 e1 => ?_)
  obtain ⟨rfl, rfl⟩ := e1
  refine V_astore_n_2 (q := 43) g dX0_takeBack_42 (by decide) rfl rfl ?_
  refine V_aload_n (q := 44) g dX0_takeBack_43 rfl rfl ?_
  refine V_ifnull g dX0_takeBack_44 rfl ?_
  refine V_aload_n (q := 48) g dX0_takeBack_47 rfl rfl ?_
  refine V_aload_n (q := 49) g dX0_takeBack_48 rfl rfl ?_
  have hO9 : Off (wr (wr M y 2 (M y 2 - 1)) y 1 ((M y 1 + 14) % 15)) (gO y ((M y 1 + 14) % 15).toNat) f := hO.eqv (fun b h1 h2 => by
    have q : b ≠ y := by unfold gO at h1; omega
    rw [wr_ne _ _ _ q, wr_ne _ _ _ q])
  refine V_callVV_1 (q := 52) g (c_X1_copyFrom l hL2 (hL.2.2 _ (by omega)) hO9 hI (by have := ha ((M y 1 + 14) % 15).toNat (by omega); omega)) dX0_takeBack_49 k_X0_29 hL2.1 rfl rfl rfl rfl ⟨rfl, rfl⟩ rfl (fun M2 e2 => ?_)
  obtain ⟨hO2, hT2⟩ := e2
  exact V_return g r dX0_takeBack_52 ⟨hO2, hT2⟩
