/-- a program's object that was made at s -/
def clsW (D : DD) (s : Nat) : LY := fun b => if b = s then some (kO 4 [some (s + 1), some (s + 12), some (s + 23), some (s + 190), some (s + 202), some (s + 214)]) else if b < s + 12 then offW D (s + 1) b else if b < s + 23 then offW D (s + 12) b else if b < s + 190 then memW D (s + 23) b else if b < s + 202 then slotW D (s + 190) b else if b < s + 214 then slotW D (s + 202) b else txW D (s + 214) b
theorem clsW_0 {D : DD} {s : Nat} : clsW D s s = some (kO 4 [some (s + 1), some (s + 12), some (s + 23), some (s + 190), some (s + 202), some (s + 214)]) := if_pos rfl
theorem clsW_1 {D : DD} {s b : Nat} (h : s + 1 ≤ b ∧ b < s + 12) : clsW D s b = offW D (s + 1) b := by unfold clsW; rw [if_neg (by omega), if_pos (by omega)]
theorem clsW_2 {D : DD} {s b : Nat} (h : s + 12 ≤ b ∧ b < s + 23) : clsW D s b = offW D (s + 12) b := by unfold clsW; rw [if_neg (by omega), if_neg (by omega), if_pos (by omega)]
theorem clsW_3 {D : DD} {s b : Nat} (h : s + 23 ≤ b ∧ b < s + 190) : clsW D s b = memW D (s + 23) b := by unfold clsW; rw [if_neg (by omega), if_neg (by omega), if_neg (by omega), if_pos (by omega)]
theorem clsW_4 {D : DD} {s b : Nat} (h : s + 190 ≤ b ∧ b < s + 202) : clsW D s b = slotW D (s + 190) b := by unfold clsW; rw [if_neg (by omega), if_neg (by omega), if_neg (by omega), if_neg (by omega), if_pos (by omega)]
theorem clsW_5 {D : DD} {s b : Nat} (h : s + 202 ≤ b ∧ b < s + 214) : clsW D s b = slotW D (s + 202) b := by unfold clsW; rw [if_neg (by omega), if_neg (by omega), if_neg (by omega), if_neg (by omega), if_neg (by omega), if_pos (by omega)]
theorem clsW_6 {D : DD} {s b : Nat} (h : s + 214 ≤ b ∧ b < s + 217) : clsW D s b = txW D (s + 214) b := by unfold clsW; rw [if_neg (by omega), if_neg (by omega), if_neg (by omega), if_neg (by omega), if_neg (by omega), if_neg (by omega)]
theorem clsW_lo {D : DD} {s b : Nat} (h : b < s) : clsW D s b = none := by unfold clsW; rw [if_neg (by omega), if_pos (by omega)]; exact offW_none (by omega)
theorem clsW_hi {D : DD} {s b : Nat} (h : s + 217 ≤ b) : clsW D s b = none := by unfold clsW; rw [if_neg (by omega), if_neg (by omega), if_neg (by omega), if_neg (by omega), if_neg (by omega), if_neg (by omega)]; exact txW_none (by omega)
theorem clsW_none {D : DD} {s b : Nat} (h : b < s ∨ s + 216 < b) : clsW D s b = none := h.elim clsW_lo (fun h => clsW_hi (by omega))
theorem clsW_some {D : DD} {s b : Nat} {K : KD} (h : clsW D s b = some K) : s ≤ b ∧ b ≤ s + 216 := by
  by_cases e : b < s ∨ s + 216 < b
  · rw [clsW_none e] at h; cases h
  · omega
theorem clsW_L {D : DD} {s : Nat} : ClsL D (clsW D s) s :=
  ⟨clsW_0, offW_L.eqv (fun b h1 h2 => clsW_1 (by omega)), offW_L.eqv (fun b h1 h2 => clsW_2 (by omega)),
   ⟨(clsW_3 (by omega)).trans memW_0, (clsW_3 (by omega)).trans memW_1, fun i hi => (memW_L.2.2 i hi).eqv (fun b h1 h2 => by unfold gO at h1 h2; exact clsW_3 (by omega))⟩,
   (clsW_4 (by omega)).trans slotW_0, offW_L.eqv (fun b h1 h2 => (clsW_4 (by omega)).trans (slotW_1 (by omega))),
   (clsW_5 (by omega)).trans slotW_0, offW_L.eqv (fun b h1 h2 => (clsW_5 (by omega)).trans (slotW_1 (by omega))),
   ⟨(clsW_6 (by omega)).trans txW_0, (clsW_6 (by omega)).trans txW_1, (clsW_6 (by omega)).trans txW_2⟩⟩
abbrev rm_X4_init : Room := { frames := 4, cells := 216, slots := 2944, locals := 120 }
set_option maxHeartbeats 4000000 in
set_option maxRecDepth 100000 in
/-- the program's object -/
theorem c_X4_init (l : Launch) {D : DD} (s : Nat) : CN l yX4_init cX4_init 1 rm_X4_init s (kRw 4 vX4) D (clsW D s) (fun M1 => Off M1 (s + 1) fNew ∧ (M1 (s + 23) 1 = 0 ∧ M1 (s + 23) 2 = 0) ∧ M1 (s + 190) 1 = 0 ∧ M1 (s + 202) 1 = 0 ∧ M1 (s + 214) 1 = 0 ∧ M1 (s + 215) = fun _ => 0) := by
  refine CN_of rfl rfl rfl (Nat.le_of_ble_eq_true rfl) (fun Γ M g r => ?_)
  have hin := r.2.2.1
  have hsz := r.2.2.2.1
  have hE := r.2.2.2.2
  have hA0 : Aw (one s (kRw 4 vX4)) (gs Γ).heap.size s := Or.inl ⟨_, one_eq _ _⟩
  refine VU_aload_n (q := 1) g dX4_init_0 rfl rfl ?_
  refine VU_objInit (q := 4) g dX4_init_1 o_X4 rfl rfl rfl ?_
  refine VU_aload_n (q := 5) g dX4_init_4 rfl rfl ?_
  refine VU_new (ci := 1) (q := 8) g dX4_init_5 n_X4_7 u_X1 rfl tyX1_ok vX1_ok rfl rfl ?_
  refine VU_dup (q := 9) g dX4_init_8 rfl rfl ?_
  refine VU_callI (q := 12) g (c_X1_init l (s + 1)) hE dX4_init_9 k_X4_9 (lay1_eq _ _ _) (Or.inr (by rw [hsz]; omega)) rfl (by rw [hsz] <;> first | rfl | (show s + 1 + 1 = (s + 1) + 1; omega)) (soW offW_0) rfl rfl rfl (fun M1 e1 => ?_)
  refine VU_nm (w' := s + 12) (κ' := (11, 147)) (by show (s + 1) + 1 + 10 = s + 12; omega) rfl ?_
  refine VU_putR (ci := 4) (k := 0) (vs := [.null, .null, .null, .null, .null, .null]) (ty := (.object "ChairStamps$Office")) (q := 15) g hin dX4_init_12 f_X4_10 tyX4_ok nmX4 rfl ((orW_0 (offW_none (by omega))).trans ((lay1_ne _ _ (by omega)).trans (one_eq _ _))) hA0 rfl rfl rfl rfl rfl (Nat.le_of_ble_eq_true rfl) rfl ?_
  refine VU_aload_n (q := 16) g dX4_init_15 rfl rfl ?_
  refine VU_new (ci := 1) (q := 19) g dX4_init_16 n_X4_7 u_X1 rfl tyX1_ok vX1_ok rfl rfl ?_
  refine VU_dup (q := 20) g dX4_init_19 rfl rfl ?_
  refine VU_callI (q := 23) g (c_X1_init l (s + 12)) hE dX4_init_20 k_X4_9 (lay1_eq _ _ _) (Or.inr (by rw [hsz]; omega)) rfl (by rw [hsz] <;> first | rfl | (show s + 1 + 12 = (s + 12) + 1; omega)) (soW offW_0) rfl rfl rfl (fun M12 e12 => ?_)
  refine VU_nm (w' := s + 23) (κ' := (22, 294)) (by show (s + 12) + 1 + 10 = s + 23; omega) rfl ?_
  refine VU_putR (ci := 4) (k := 1) (vs := [.ref (s + 1), .null, .null, .null, .null, .null]) (ty := (.object "ChairStamps$Office")) (q := 26) g hin dX4_init_23 f_X4_16 tyX4_ok nmX4 rfl ((orW_0 (offW_none (by omega))).trans ((lay1_ne _ _ (by omega)).trans (lay1_eq _ _ _))) hA0 rfl rfl rfl rfl rfl (Nat.le_of_ble_eq_true rfl) rfl ?_
  refine VU_aload_n (q := 27) g dX4_init_26 rfl rfl ?_
  refine VU_new (ci := 0) (q := 30) g dX4_init_27 n_X4_19 u_X0 rfl tyX0_ok vX0_ok rfl rfl ?_
  refine VU_dup (q := 31) g dX4_init_30 rfl rfl ?_
  refine VU_callI (q := 34) g (c_X0_init l (s + 23)) hE dX4_init_31 k_X4_21 (lay1_eq _ _ _) (Or.inr (by rw [hsz]; omega)) rfl (by rw [hsz] <;> first | rfl | (show s + 1 + 23 = (s + 23) + 1; omega)) (soW memW_0) rfl rfl rfl (fun M23 e23 => ?_)
  refine VU_nm (w' := s + 190) (κ' := (189, 2517)) (by show (s + 23) + 1 + 166 = s + 190; omega) rfl ?_
  refine VU_putR (ci := 4) (k := 2) (vs := [.ref (s + 1), .ref (s + 12), .null, .null, .null, .null]) (ty := (.object "ChairStamps$Memory")) (q := 37) g hin dX4_init_34 f_X4_22 tyX4_ok nmX4 rfl ((orW_0 (memW_none (by omega))).trans ((lay1_ne _ _ (by omega)).trans (lay1_eq _ _ _))) hA0 rfl rfl rfl rfl rfl (Nat.le_of_ble_eq_true rfl) rfl ?_
  refine VU_aload_n (q := 38) g dX4_init_37 rfl rfl ?_
  refine VU_new (ci := 3) (q := 41) g dX4_init_38 n_X4_26 u_X3 rfl tyX3_ok vX3_ok rfl rfl ?_
  refine VU_dup (q := 42) g dX4_init_41 rfl rfl ?_
  refine VU_callIN (q := 45) g (c_X3_init l (s + 190)) hE dX4_init_42 k_X4_28 (lay1_eq _ _ _) (Or.inr (by rw [hsz]; omega)) rfl (by rw [hsz] <;> first | rfl | (show s + 1 + 190 = (s + 190) + 1; omega)) (soW slotW_0) rfl rfl rfl (fun M190 e190 => ?_)
  refine VU_nm (w' := s + 202) (κ' := (201, 2666)) (by show (s + 190) + 1 + 11 = s + 202; omega) rfl ?_
  refine VU_putR (ci := 4) (k := 3) (vs := [.ref (s + 1), .ref (s + 12), .ref (s + 23), .null, .null, .null]) (ty := (.object "ChairStamps$Slot")) (q := 48) g hin dX4_init_45 f_X4_29 tyX4_ok nmX4 rfl ((orW_0 (slotW_none (by omega))).trans ((lay1_ne _ _ (by omega)).trans (lay1_eq _ _ _))) hA0 rfl rfl rfl rfl rfl (Nat.le_of_ble_eq_true rfl) rfl ?_
  refine VU_aload_n (q := 49) g dX4_init_48 rfl rfl ?_
  refine VU_new (ci := 3) (q := 52) g dX4_init_49 n_X4_26 u_X3 rfl tyX3_ok vX3_ok rfl rfl ?_
  refine VU_dup (q := 53) g dX4_init_52 rfl rfl ?_
  refine VU_callIN (q := 56) g (c_X3_init l (s + 202)) hE dX4_init_53 k_X4_28 (lay1_eq _ _ _) (Or.inr (by rw [hsz]; omega)) rfl (by rw [hsz] <;> first | rfl | (show s + 1 + 202 = (s + 202) + 1; omega)) (soW slotW_0) rfl rfl rfl (fun M202 e202 => ?_)
  refine VU_nm (w' := s + 214) (κ' := (213, 2815)) (by show (s + 202) + 1 + 11 = s + 214; omega) rfl ?_
  refine VU_putR (ci := 4) (k := 4) (vs := [.ref (s + 1), .ref (s + 12), .ref (s + 23), .ref (s + 190), .null, .null]) (ty := (.object "ChairStamps$Slot")) (q := 59) g hin dX4_init_56 f_X4_33 tyX4_ok nmX4 rfl ((orW_0 (slotW_none (by omega))).trans ((lay1_ne _ _ (by omega)).trans (lay1_eq _ _ _))) hA0 rfl rfl rfl rfl rfl (Nat.le_of_ble_eq_true rfl) rfl ?_
  refine VU_aload_n (q := 60) g dX4_init_59 rfl rfl ?_
  refine VU_new (ci := 2) (q := 63) g dX4_init_60 n_X4_36 u_X2 rfl tyX2_ok vX2_ok rfl rfl ?_
  refine VU_dup (q := 64) g dX4_init_63 rfl rfl ?_
  refine VU_callIN (q := 67) g (c_X2_init l (s + 214)) hE dX4_init_64 k_X4_38 (lay1_eq _ _ _) (Or.inr (by rw [hsz]; omega)) rfl (by rw [hsz] <;> first | rfl | (show s + 1 + 214 = (s + 214) + 1; omega)) (soW txW_0) rfl rfl rfl (fun M214 e214 => ?_)
  refine VU_nm (w' := s + 217) (κ' := (216, 2944)) (by show (s + 214) + 1 + 2 = s + 217; omega) rfl ?_
  refine VU_putR (ci := 4) (k := 5) (vs := [.ref (s + 1), .ref (s + 12), .ref (s + 23), .ref (s + 190), .ref (s + 202), .null]) (ty := (.object "ChairStamps$OfficeText")) (q := 70) g hin dX4_init_67 f_X4_39 tyX4_ok nmX4 rfl ((orW_0 (txW_none (by omega))).trans ((lay1_ne _ _ (by omega)).trans (lay1_eq _ _ _))) hA0 rfl rfl rfl rfl rfl (Nat.le_of_ble_eq_true rfl) rfl ?_
  refine VU_toO (Λ1 := clsW D s) s (fun _ => 0) (fun b K1 hb => ?_) (VU_ret g r dX4_init_70 rfl (by show s + 1 + 216 ≤ s + 217; omega) ?_)
  · by_cases e0 : b = s
    · subst e0
      cases clsW_0.symm.trans hb
      exact ⟨_, (lay1_eq _ _ _), fun H h => by rw [aset_at]; exact h⟩
    · have hb2 := clsW_some hb
      rcases (by omega : (s + 1 ≤ b ∧ b < s + 12) ∨ (s + 12 ≤ b ∧ b < s + 23) ∨ (s + 23 ≤ b ∧ b < s + 190) ∨ (s + 190 ≤ b ∧ b < s + 202) ∨ (s + 202 ≤ b ∧ b < s + 214) ∨ (s + 214 ≤ b ∧ b < s + 217)) with q | q | q | q | q | q
      · rw [clsW_1 q] at hb
        exact ⟨K1, (lay1_ne _ _ e0).trans ((orW_0 (txW_none (by omega))).trans ((lay1_ne _ _ (by omega)).trans ((lay1_ne _ _ e0).trans ((orW_0 (slotW_none (by omega))).trans ((lay1_ne _ _ (by omega)).trans ((lay1_ne _ _ e0).trans ((orW_0 (slotW_none (by omega))).trans ((lay1_ne _ _ (by omega)).trans ((lay1_ne _ _ e0).trans ((orW_0 (memW_none (by omega))).trans ((lay1_ne _ _ (by omega)).trans ((lay1_ne _ _ e0).trans ((orW_0 (offW_none (by omega))).trans ((lay1_ne _ _ (by omega)).trans ((lay1_ne _ _ e0).trans (orW_1 hb)))))))))))))))), fun H h => by rw [aset_ne _ _ e0]; exact h⟩
      · rw [clsW_2 q] at hb
        exact ⟨K1, (lay1_ne _ _ e0).trans ((orW_0 (txW_none (by omega))).trans ((lay1_ne _ _ (by omega)).trans ((lay1_ne _ _ e0).trans ((orW_0 (slotW_none (by omega))).trans ((lay1_ne _ _ (by omega)).trans ((lay1_ne _ _ e0).trans ((orW_0 (slotW_none (by omega))).trans ((lay1_ne _ _ (by omega)).trans ((lay1_ne _ _ e0).trans ((orW_0 (memW_none (by omega))).trans ((lay1_ne _ _ (by omega)).trans ((lay1_ne _ _ e0).trans (orW_1 hb))))))))))))), fun H h => by rw [aset_ne _ _ e0]; exact h⟩
      · rw [clsW_3 q] at hb
        exact ⟨K1, (lay1_ne _ _ e0).trans ((orW_0 (txW_none (by omega))).trans ((lay1_ne _ _ (by omega)).trans ((lay1_ne _ _ e0).trans ((orW_0 (slotW_none (by omega))).trans ((lay1_ne _ _ (by omega)).trans ((lay1_ne _ _ e0).trans ((orW_0 (slotW_none (by omega))).trans ((lay1_ne _ _ (by omega)).trans ((lay1_ne _ _ e0).trans (orW_1 hb)))))))))), fun H h => by rw [aset_ne _ _ e0]; exact h⟩
      · rw [clsW_4 q] at hb
        exact ⟨K1, (lay1_ne _ _ e0).trans ((orW_0 (txW_none (by omega))).trans ((lay1_ne _ _ (by omega)).trans ((lay1_ne _ _ e0).trans ((orW_0 (slotW_none (by omega))).trans ((lay1_ne _ _ (by omega)).trans ((lay1_ne _ _ e0).trans (orW_1 hb))))))), fun H h => by rw [aset_ne _ _ e0]; exact h⟩
      · rw [clsW_5 q] at hb
        exact ⟨K1, (lay1_ne _ _ e0).trans ((orW_0 (txW_none (by omega))).trans ((lay1_ne _ _ (by omega)).trans ((lay1_ne _ _ e0).trans (orW_1 hb)))), fun H h => by rw [aset_ne _ _ e0]; exact h⟩
      · rw [clsW_6 q] at hb
        exact ⟨K1, (lay1_ne _ _ e0).trans (orW_1 hb), fun H h => by rw [aset_ne _ _ e0]; exact h⟩
  · refine ⟨?_, ⟨?_, ?_⟩, ?_, ?_, ?_, ?_⟩
    · refine e1.eqv (fun b h1 h2 => ?_)
      obtain ⟨K, hK⟩ := offW_is (D := D) (o := s + 1) (b := b) ⟨h1, h2⟩
      rw [aset_ne _ _ (by omega), orM_0 (txW_none (by omega)), orM_0 (slotW_none (by omega)), orM_0 (slotW_none (by omega)), orM_0 (memW_none (by omega)), orM_0 (offW_none (by omega)), orM_1 hK]
    · rw [aset_ne _ _ (by omega), orM_0 (txW_none (by omega)), orM_0 (slotW_none (by omega)), orM_0 (slotW_none (by omega)), orM_1 memW_0]; exact e23.1
    · rw [aset_ne _ _ (by omega), orM_0 (txW_none (by omega)), orM_0 (slotW_none (by omega)), orM_0 (slotW_none (by omega)), orM_1 memW_0]; exact e23.2
    · rw [aset_ne _ _ (by omega), orM_0 (txW_none (by omega)), orM_0 (slotW_none (by omega)), orM_1 slotW_0]; exact e190
    · rw [aset_ne _ _ (by omega), orM_0 (txW_none (by omega)), orM_1 slotW_0]; exact e202
    · rw [aset_ne _ _ (by omega), orM_1 txW_0]; exact e214.1
    · rw [aset_ne _ _ (by omega), orM_1 txW_1]; exact e214.2
