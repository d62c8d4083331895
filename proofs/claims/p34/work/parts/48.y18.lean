theorem soW {W1 : LY} {o : Nat} {K : KD} (h : W1 o = some K) : (W1 o).isSome = true := by
  rw [h]
  rfl
theorem VU_nm {Γ : VG} {D : DD} {B Λ : LY} {M : MM} {w w' : Nat} {κ κ' : Nat × Nat} {pc : Nat} {lv : List (Option Value)} {st : List Value} (hw : w = w') (hκ : κ = κ') (k : VU Γ D B Λ M w' κ' pc lv st) : VU Γ D B Λ M w κ pc lv st := by
  subst hw
  subst hκ
  exact k
theorem VU_toO {Γ : VG} {D : DD} {B Λ : LY} {M : MM} {w : Nat} {κ : Nat × Nat} {pc : Nat} {lv : List (Option Value)} {st : List Value} {Λ1 : LY} (o : Nat) (m0 : Int → Int) (h : ∀ (a : Nat) (K1 : KD), Λ1 a = some K1 → ∃ K, Λ a = some K ∧ ∀ H, va_at D.1 vwCl (a, K (M a)) H → va_at D.1 vwCl (a, K1 (aset M o m0 a)) H) (k : VU Γ D B Λ1 (aset M o m0) w κ pc lv st) : VU Γ D B Λ M w κ pc lv st := by
  intro H locs ls h0 h1 h2 h3
  refine k H locs ls h0 (fun a K1 ha => ?_) h2 h3
  obtain ⟨K, e1, e2⟩ := h a K1 ha
  exact e2 H (h1 a K e1)
theorem OffL.eqv {D : DD} {Λ Λ1 : LY} {o : Nat} (h : OffL D Λ o) (e : ∀ b : Nat, o ≤ b → b ≤ o + 10 → Λ1 b = Λ b) : OffL D Λ1 o := by
  obtain ⟨a0, a1, a2, a3, a4, a5, a6, a7, a8, a9, a10⟩ := h
  exact ⟨by rw [e _ (by omega) (by omega)]; exact a0, by rw [e _ (by omega) (by omega)]; exact a1, by rw [e _ (by omega) (by omega)]; exact a2, by rw [e _ (by omega) (by omega)]; exact a3, by rw [e _ (by omega) (by omega)]; exact a4, by rw [e _ (by omega) (by omega)]; exact a5, by rw [e _ (by omega) (by omega)]; exact a6, by rw [e _ (by omega) (by omega)]; exact a7, by rw [e _ (by omega) (by omega)]; exact a8, by rw [e _ (by omega) (by omega)]; exact a9, by rw [e _ (by omega) (by omega)]; exact a10⟩
theorem n_X4_7 : Cond.classLink RX4 7 RX1 ∈ BIG ∧ Cond.instantiable RX1 12 ∈ BIG ∧ Cond.initialized RX1 ∈ BIG := ⟨big_in (i := 31) (by decide +kernel) (by decide +kernel), big_in (i := 32) (by decide +kernel) (by decide +kernel), big_in (i := 7) (by decide +kernel) (by decide +kernel)⟩
theorem n_X4_19 : Cond.classLink RX4 19 RX0 ∈ BIG ∧ Cond.instantiable RX0 3 ∈ BIG ∧ Cond.initialized RX0 ∈ BIG := ⟨big_in (i := 94) (by decide +kernel) (by decide +kernel), big_in (i := 95) (by decide +kernel) (by decide +kernel), big_in (i := 8) (by decide +kernel) (by decide +kernel)⟩
theorem n_X4_26 : Cond.classLink RX4 26 RX3 ∈ BIG ∧ Cond.instantiable RX3 2 ∈ BIG ∧ Cond.initialized RX3 ∈ BIG := ⟨big_in (i := 114) (by decide +kernel) (by decide +kernel), big_in (i := 115) (by decide +kernel) (by decide +kernel), big_in (i := 9) (by decide +kernel) (by decide +kernel)⟩
theorem n_X4_36 : Cond.classLink RX4 36 RX2 ∈ BIG ∧ Cond.instantiable RX2 5 ∈ BIG ∧ Cond.initialized RX2 ∈ BIG := ⟨big_in (i := 131) (by decide +kernel) (by decide +kernel), big_in (i := 132) (by decide +kernel) (by decide +kernel), big_in (i := 10) (by decide +kernel) (by decide +kernel)⟩
theorem n_X0_11 : Cond.classLink RX0 11 RX1 ∈ BIG ∧ Cond.instantiable RX1 12 ∈ BIG ∧ Cond.initialized RX1 ∈ BIG := ⟨big_in (i := 100) (by decide +kernel) (by decide +kernel), big_in (i := 32) (by decide +kernel) (by decide +kernel), big_in (i := 7) (by decide +kernel) (by decide +kernel)⟩
theorem n_X3_7 : Cond.classLink RX3 7 RX1 ∈ BIG ∧ Cond.instantiable RX1 12 ∈ BIG ∧ Cond.initialized RX1 ∈ BIG := ⟨big_in (i := 120) (by decide +kernel) (by decide +kernel), big_in (i := 32) (by decide +kernel) (by decide +kernel), big_in (i := 7) (by decide +kernel) (by decide +kernel)⟩
theorem n_L_8 : Cond.classLink RL 8 RX4 ∈ BIG ∧ Cond.instantiable RX4 6 ∈ BIG ∧ Cond.initialized RX4 ∈ BIG := ⟨big_in (i := 23) (by decide +kernel) (by decide +kernel), big_in (i := 24) (by decide +kernel) (by decide +kernel), big_in (i := 6) (by decide +kernel) (by decide +kernel)⟩
theorem o_X0 : ∀ w ∈ [Cond.methodLink RX0 3 Lib.objectInit, .instanceMethod Lib.objectInit, .code Lib.objectInit ⟨#[0xb1]⟩ 1 none], w ∈ BIG := big_all [99, 29, 30] (by decide +kernel)
theorem o_X1 : ∀ w ∈ [Cond.methodLink RX1 3 Lib.objectInit, .instanceMethod Lib.objectInit, .code Lib.objectInit ⟨#[0xb1]⟩ 1 none], w ∈ BIG := big_all [36, 29, 30] (by decide +kernel)
theorem o_X2 : ∀ w ∈ [Cond.methodLink RX2 3 Lib.objectInit, .instanceMethod Lib.objectInit, .code Lib.objectInit ⟨#[0xb1]⟩ 1 none], w ∈ BIG := big_all [136, 29, 30] (by decide +kernel)
theorem o_X3 : ∀ w ∈ [Cond.methodLink RX3 1 Lib.objectInit, .instanceMethod Lib.objectInit, .code Lib.objectInit ⟨#[0xb1]⟩ 1 none], w ∈ BIG := big_all [119, 29, 30] (by decide +kernel)
theorem o_X4 : ∀ w ∈ [Cond.methodLink RX4 1 Lib.objectInit, .instanceMethod Lib.objectInit, .code Lib.objectInit ⟨#[0xb1]⟩ 1 none], w ∈ BIG := big_all [28, 29, 30] (by decide +kernel)
theorem k_X4_9 : lkI RX4 9 yX1_init cX1_init 1 := ⟨big_all [33, 34, 7, 35] (by decide +kernel), by decide +kernel, rfl⟩
theorem k_X4_21 : lkI RX4 21 yX0_init cX0_init 2 := ⟨big_all [96, 97, 8, 98] (by decide +kernel), by decide +kernel, rfl⟩
theorem k_X4_28 : lkIN RX4 28 yX3_init cX3_init 1 := ⟨⟨"ChairStamps", List.mem_of_getElem? (i := 12) (by decide +kernel)⟩, big_all [117, 9, 118] (by decide +kernel), by decide +kernel, rfl⟩
theorem k_X4_38 : lkIN RX4 38 yX2_init cX2_init 1 := ⟨⟨"ChairStamps", List.mem_of_getElem? (i := 15) (by decide +kernel)⟩, big_all [134, 10, 135] (by decide +kernel), by decide +kernel, rfl⟩
theorem k_X0_24 : lkI RX0 24 yX1_init cX1_init 1 := ⟨big_all [102, 34, 7, 35] (by decide +kernel), by decide +kernel, rfl⟩
theorem k_X3_9 : lkI RX3 9 yX1_init cX1_init 1 := ⟨big_all [121, 34, 7, 35] (by decide +kernel), by decide +kernel, rfl⟩
theorem k_L_215 : lkI RL 215 yX4_init cX4_init 1 := ⟨big_all [25, 26, 6, 27] (by decide +kernel), by decide +kernel, rfl⟩
theorem a_newI : Cond.arrayClass .int ∈ BIG := big_in (i := 93) (by decide +kernel) (by decide +kernel)
def vX0 : List Value := [.null, vi 0, vi 0]
theorem vX0_ok : ∀ j, j < 3 → defaultValue (tyX0 j) = vp_V vX0 j := by
  intro j hj
  rcases (by omega : j = 0 ∨ j = 1 ∨ j = 2) with rfl | rfl | rfl
  · rfl
  · show Value.int 0 = Value.int (iI 0)
    rw [iI_0]
  · show Value.int 0 = Value.int (iI 0)
    rw [iI_0]
def vX1 : List Value := [vi 0, vi 0, .null, .null, .null, .null, .null, .null, .null, .null, .null, .null]
theorem vX1_ok : ∀ j, j < 12 → defaultValue (tyX1 j) = vp_V vX1 j := by
  intro j hj
  rcases (by omega : j = 0 ∨ j = 1 ∨ j = 2 ∨ j = 3 ∨ j = 4 ∨ j = 5 ∨ j = 6 ∨ j = 7 ∨ j = 8 ∨ j = 9 ∨ j = 10 ∨ j = 11) with rfl | rfl | rfl | rfl | rfl | rfl | rfl | rfl | rfl | rfl | rfl | rfl
  · show Value.int 0 = Value.int (iI 0)
    rw [iI_0]
  · show Value.int 0 = Value.int (iI 0)
    rw [iI_0]
  · rfl
  · rfl
  · rfl
  · rfl
  · rfl
  · rfl
  · rfl
  · rfl
  · rfl
  · rfl
def vX2 : List Value := [.null, vi 0, vi 0, vi 0, .null]
theorem vX2_ok : ∀ j, j < 5 → defaultValue (tyX2 j) = vp_V vX2 j := by
  intro j hj
  rcases (by omega : j = 0 ∨ j = 1 ∨ j = 2 ∨ j = 3 ∨ j = 4) with rfl | rfl | rfl | rfl | rfl
  · rfl
  · show Value.int 0 = Value.int (iI 0)
    rw [iI_0]
  · show Value.int 0 = Value.int (iI 0)
    rw [iI_0]
  · show Value.int 0 = Value.int (iI 0)
    rw [iI_0]
  · rfl
def vX3 : List Value := [.null, vi 0]
theorem vX3_ok : ∀ j, j < 2 → defaultValue (tyX3 j) = vp_V vX3 j := by
  intro j hj
  rcases (by omega : j = 0 ∨ j = 1) with rfl | rfl
  · rfl
  · show Value.int 0 = Value.int (iI 0)
    rw [iI_0]
def vX4 : List Value := [.null, .null, .null, .null, .null, .null]
theorem vX4_ok : ∀ j, j < 6 → defaultValue (tyX4 j) = vp_V vX4 j := by
  intro j hj
  rcases (by omega : j = 0 ∨ j = 1 ∨ j = 2 ∨ j = 3 ∨ j = 4 ∨ j = 5) with rfl | rfl | rfl | rfl | rfl | rfl
  · rfl
  · rfl
  · rfl
  · rfl
  · rfl
  · rfl
/-- an office that was made at o -/
def offW (D : DD) (o : Nat) : LY := fun b => if b = o then some (kO 1 (oFl o)) else if b = o + 1 then some (kI D 10) else if b = o + 2 then some (kI D 10) else if b = o + 3 then some (kI D 10) else if b = o + 4 then some (kI D 10) else if b = o + 5 then some (kI D 10) else if b = o + 6 then some (kI D 40) else if b = o + 7 then some (kI D 16) else if b = o + 8 then some (kI D 16) else if b = o + 9 then some (kI D 2) else if b = o + 10 then some (kI D 11) else none
theorem offW_0 {D : DD} {o : Nat} : offW D o (o) = some (kO 1 (oFl o)) := by
  unfold offW
  rw [if_pos rfl]
theorem offW_1 {D : DD} {o : Nat} : offW D o (o + 1) = some (kI D 10) := by
  unfold offW
  rw [if_neg (by omega), if_pos rfl]
theorem offW_2 {D : DD} {o : Nat} : offW D o (o + 2) = some (kI D 10) := by
  unfold offW
  rw [if_neg (by omega), if_neg (by omega), if_pos rfl]
theorem offW_3 {D : DD} {o : Nat} : offW D o (o + 3) = some (kI D 10) := by
  unfold offW
  rw [if_neg (by omega), if_neg (by omega), if_neg (by omega), if_pos rfl]
theorem offW_4 {D : DD} {o : Nat} : offW D o (o + 4) = some (kI D 10) := by
  unfold offW
  rw [if_neg (by omega), if_neg (by omega), if_neg (by omega), if_neg (by omega), if_pos rfl]
theorem offW_5 {D : DD} {o : Nat} : offW D o (o + 5) = some (kI D 10) := by
  unfold offW
  rw [if_neg (by omega), if_neg (by omega), if_neg (by omega), if_neg (by omega), if_neg (by omega), if_pos rfl]
theorem offW_6 {D : DD} {o : Nat} : offW D o (o + 6) = some (kI D 40) := by
  unfold offW
  rw [if_neg (by omega), if_neg (by omega), if_neg (by omega), if_neg (by omega), if_neg (by omega), if_neg (by omega), if_pos rfl]
theorem offW_7 {D : DD} {o : Nat} : offW D o (o + 7) = some (kI D 16) := by
  unfold offW
  rw [if_neg (by omega), if_neg (by omega), if_neg (by omega), if_neg (by omega), if_neg (by omega), if_neg (by omega), if_neg (by omega), if_pos rfl]
theorem offW_8 {D : DD} {o : Nat} : offW D o (o + 8) = some (kI D 16) := by
  unfold offW
  rw [if_neg (by omega), if_neg (by omega), if_neg (by omega), if_neg (by omega), if_neg (by omega), if_neg (by omega), if_neg (by omega), if_neg (by omega), if_pos rfl]
theorem offW_9 {D : DD} {o : Nat} : offW D o (o + 9) = some (kI D 2) := by
  unfold offW
  rw [if_neg (by omega), if_neg (by omega), if_neg (by omega), if_neg (by omega), if_neg (by omega), if_neg (by omega), if_neg (by omega), if_neg (by omega), if_neg (by omega), if_pos rfl]
theorem offW_10 {D : DD} {o : Nat} : offW D o (o + 10) = some (kI D 11) := by
  unfold offW
  rw [if_neg (by omega), if_neg (by omega), if_neg (by omega), if_neg (by omega), if_neg (by omega), if_neg (by omega), if_neg (by omega), if_neg (by omega), if_neg (by omega), if_neg (by omega), if_pos rfl]
theorem offW_none {D : DD} {o b : Nat} (h : b < o ∨ o + 10 < b) : offW D o b = none := by
  unfold offW
  rw [if_neg (by omega), if_neg (by omega), if_neg (by omega), if_neg (by omega), if_neg (by omega), if_neg (by omega), if_neg (by omega), if_neg (by omega), if_neg (by omega), if_neg (by omega), if_neg (by omega)]
theorem offW_some {D : DD} {o b : Nat} {K : KD} (h : offW D o b = some K) : o ≤ b ∧ b ≤ o + 10 := by
  by_cases e : b < o ∨ o + 10 < b
  · rw [offW_none e] at h; cases h
  · omega
theorem offW_is {D : DD} {o b : Nat} (h : o ≤ b ∧ b ≤ o + 10) : ∃ K, offW D o b = some K := by
  rcases (by omega : b = o ∨ b = o + 1 ∨ b = o + 2 ∨ b = o + 3 ∨ b = o + 4 ∨ b = o + 5 ∨ b = o + 6 ∨ b = o + 7 ∨ b = o + 8 ∨ b = o + 9 ∨ b = o + 10) with rfl | rfl | rfl | rfl | rfl | rfl | rfl | rfl | rfl | rfl | rfl
  · exact ⟨_, offW_0⟩
  · exact ⟨_, offW_1⟩
  · exact ⟨_, offW_2⟩
  · exact ⟨_, offW_3⟩
  · exact ⟨_, offW_4⟩
  · exact ⟨_, offW_5⟩
  · exact ⟨_, offW_6⟩
  · exact ⟨_, offW_7⟩
  · exact ⟨_, offW_8⟩
  · exact ⟨_, offW_9⟩
  · exact ⟨_, offW_10⟩
theorem offW_L {D : DD} {o : Nat} : OffL D (offW D o) o := ⟨offW_0, offW_1, offW_2, offW_3, offW_4, offW_5, offW_6, offW_7, offW_8, offW_9, offW_10⟩
abbrev rm_X1_init : Room := { frames := 2, cells := 10, slots := 135, locals := 60 }
set_option maxHeartbeats 4000000 in
set_option maxRecDepth 100000 in
/-- Office() -/
theorem c_X1_init (l : Launch) {D : DD} (o : Nat) : CN l yX1_init cX1_init 1 rm_X1_init o (kRw 1 vX1) D (offW D o) (fun M1 => Off M1 o fNew) := by
  refine CN_of rfl rfl rfl (Nat.le_of_ble_eq_true rfl) (fun Γ M g r => ?_)
  have hin := r.2.2.1
  have hsz := r.2.2.2.1
  have hE := r.2.2.2.2
  have hA0 : Aw (one o (kRw 1 vX1)) (gs Γ).heap.size o := Or.inl ⟨_, one_eq _ _⟩
  refine VU_aload_n (q := 1) g dX1_init_0 rfl rfl ?_
  refine VU_objInit (q := 4) g dX1_init_1 o_X1 rfl rfl rfl ?_
  refine VU_aload_n (q := 5) g dX1_init_4 rfl rfl ?_
  refine VU_bipush (q := 7) g dX1_init_5 (by decide) rfl ?_
  refine VU_newI (n := 10) (q := 9) g dX1_init_7 a_newI (by decide) rfl rfl ?_
  refine VU_putR (ci := 1) (k := 2) (vs := [vi 0, vi 0, .null, .null, .null, .null, .null, .null, .null, .null, .null, .null]) (ty := (.array .int)) (q := 12) g hin dX1_init_9 f_X1_9 tyX1_ok nmX1 rfl ((lay1_ne _ _ (by omega)).trans (one_eq _ _)) hA0 rfl rfl rfl rfl rfl (Nat.le_of_ble_eq_true rfl) rfl ?_
  refine VU_aload_n (q := 13) g dX1_init_12 rfl rfl ?_
  refine VU_bipush (q := 15) g dX1_init_13 (by decide) rfl ?_
  refine VU_newI (n := 10) (q := 17) g dX1_init_15 a_newI (by decide) rfl rfl ?_
  refine VU_putR (ci := 1) (k := 3) (vs := [vi 0, vi 0, .ref (o + 1), .null, .null, .null, .null, .null, .null, .null, .null, .null]) (ty := (.array .int)) (q := 20) g hin dX1_init_17 f_X1_15 tyX1_ok nmX1 rfl ((lay1_ne _ _ (by omega)).trans (lay1_eq _ _ _)) hA0 rfl rfl rfl rfl rfl (Nat.le_of_ble_eq_true rfl) rfl ?_
  refine VU_aload_n (q := 21) g dX1_init_20 rfl rfl ?_
  refine VU_bipush (q := 23) g dX1_init_21 (by decide) rfl ?_
  refine VU_newI (n := 10) (q := 25) g dX1_init_23 a_newI (by decide) rfl rfl ?_
  refine VU_putR (ci := 1) (k := 4) (vs := [vi 0, vi 0, .ref (o + 1), .ref (o + 2), .null, .null, .null, .null, .null, .null, .null, .null]) (ty := (.array .int)) (q := 28) g hin dX1_init_25 f_X1_18 tyX1_ok nmX1 rfl ((lay1_ne _ _ (by omega)).trans (lay1_eq _ _ _)) hA0 rfl rfl rfl rfl rfl (Nat.le_of_ble_eq_true rfl) rfl ?_
  refine VU_aload_n (q := 29) g dX1_init_28 rfl rfl ?_
  refine VU_bipush (q := 31) g dX1_init_29 (by decide) rfl ?_
  refine VU_newI (n := 10) (q := 33) g dX1_init_31 a_newI (by decide) rfl rfl ?_
  refine VU_putR (ci := 1) (k := 5) (vs := [vi 0, vi 0, .ref (o + 1), .ref (o + 2), .ref (o + 3), .null, .null, .null, .null, .null, .null, .null]) (ty := (.array .int)) (q := 36) g hin dX1_init_33 f_X1_21 tyX1_ok nmX1 rfl ((lay1_ne _ _ (by omega)).trans (lay1_eq _ _ _)) hA0 rfl rfl rfl rfl rfl (Nat.le_of_ble_eq_true rfl) rfl ?_
  refine VU_aload_n (q := 37) g dX1_init_36 rfl rfl ?_
  refine VU_bipush (q := 39) g dX1_init_37 (by decide) rfl ?_
  refine VU_newI (n := 10) (q := 41) g dX1_init_39 a_newI (by decide) rfl rfl ?_
  refine VU_putR (ci := 1) (k := 6) (vs := [vi 0, vi 0, .ref (o + 1), .ref (o + 2), .ref (o + 3), .ref (o + 4), .null, .null, .null, .null, .null, .null]) (ty := (.array .int)) (q := 44) g hin dX1_init_41 f_X1_24 tyX1_ok nmX1 rfl ((lay1_ne _ _ (by omega)).trans (lay1_eq _ _ _)) hA0 rfl rfl rfl rfl rfl (Nat.le_of_ble_eq_true rfl) rfl ?_
  refine VU_aload_n (q := 45) g dX1_init_44 rfl rfl ?_
  refine VU_bipush (q := 47) g dX1_init_45 (by decide) rfl ?_
  refine VU_newI (n := 40) (q := 49) g dX1_init_47 a_newI (by decide) rfl rfl ?_
  refine VU_putR (ci := 1) (k := 7) (vs := [vi 0, vi 0, .ref (o + 1), .ref (o + 2), .ref (o + 3), .ref (o + 4), .ref (o + 5), .null, .null, .null, .null, .null]) (ty := (.array .int)) (q := 52) g hin dX1_init_49 f_X1_27 tyX1_ok nmX1 rfl ((lay1_ne _ _ (by omega)).trans (lay1_eq _ _ _)) hA0 rfl rfl rfl rfl rfl (Nat.le_of_ble_eq_true rfl) rfl ?_
  refine VU_aload_n (q := 53) g dX1_init_52 rfl rfl ?_
  refine VU_bipush (q := 55) g dX1_init_53 (by decide) rfl ?_
  refine VU_newI (n := 16) (q := 57) g dX1_init_55 a_newI (by decide) rfl rfl ?_
  refine VU_putR (ci := 1) (k := 8) (vs := [vi 0, vi 0, .ref (o + 1), .ref (o + 2), .ref (o + 3), .ref (o + 4), .ref (o + 5), .ref (o + 6), .null, .null, .null, .null]) (ty := (.array .int)) (q := 60) g hin dX1_init_57 f_X1_30 tyX1_ok nmX1 rfl ((lay1_ne _ _ (by omega)).trans (lay1_eq _ _ _)) hA0 rfl rfl rfl rfl rfl (Nat.le_of_ble_eq_true rfl) rfl ?_
  refine VU_aload_n (q := 61) g dX1_init_60 rfl rfl ?_
  refine VU_bipush (q := 63) g dX1_init_61 (by decide) rfl ?_
  refine VU_newI (n := 16) (q := 65) g dX1_init_63 a_newI (by decide) rfl rfl ?_
  refine VU_putR (ci := 1) (k := 9) (vs := [vi 0, vi 0, .ref (o + 1), .ref (o + 2), .ref (o + 3), .ref (o + 4), .ref (o + 5), .ref (o + 6), .ref (o + 7), .null, .null, .null]) (ty := (.array .int)) (q := 68) g hin dX1_init_65 f_X1_33 tyX1_ok nmX1 rfl ((lay1_ne _ _ (by omega)).trans (lay1_eq _ _ _)) hA0 rfl rfl rfl rfl rfl (Nat.le_of_ble_eq_true rfl) rfl ?_
  refine VU_aload_n (q := 69) g dX1_init_68 rfl rfl ?_
  refine VU_iconst (q := 70) g dX1_init_69 rfl ?_
  refine VU_newI (n := 2) (q := 72) g dX1_init_70 a_newI (by decide) rfl rfl ?_
  refine VU_putR (ci := 1) (k := 10) (vs := [vi 0, vi 0, .ref (o + 1), .ref (o + 2), .ref (o + 3), .ref (o + 4), .ref (o + 5), .ref (o + 6), .ref (o + 7), .ref (o + 8), .null, .null]) (ty := (.array .int)) (q := 75) g hin dX1_init_72 f_X1_36 tyX1_ok nmX1 rfl ((lay1_ne _ _ (by omega)).trans (lay1_eq _ _ _)) hA0 rfl rfl rfl rfl rfl (Nat.le_of_ble_eq_true rfl) rfl ?_
  refine VU_aload_n (q := 76) g dX1_init_75 rfl rfl ?_
  refine VU_bipush (q := 78) g dX1_init_76 (by decide) rfl ?_
  refine VU_newI (n := 11) (q := 80) g dX1_init_78 a_newI (by decide) rfl rfl ?_
  refine VU_putR (ci := 1) (k := 11) (vs := [vi 0, vi 0, .ref (o + 1), .ref (o + 2), .ref (o + 3), .ref (o + 4), .ref (o + 5), .ref (o + 6), .ref (o + 7), .ref (o + 8), .ref (o + 9), .null]) (ty := (.array .int)) (q := 83) g hin dX1_init_80 f_X1_39 tyX1_ok nmX1 rfl ((lay1_ne _ _ (by omega)).trans (lay1_eq _ _ _)) hA0 rfl rfl rfl rfl rfl (Nat.le_of_ble_eq_true rfl) rfl ?_
  refine VU_toO (Λ1 := offW D o) o (fun _ => 0) (fun b K1 hb => ?_) ?_
  · have hb2 := offW_some hb
    rcases (by omega : b = o ∨ b = o + 1 ∨ b = o + 2 ∨ b = o + 3 ∨ b = o + 4 ∨ b = o + 5 ∨ b = o + 6 ∨ b = o + 7 ∨ b = o + 8 ∨ b = o + 9 ∨ b = o + 10) with rfl | rfl | rfl | rfl | rfl | rfl | rfl | rfl | rfl | rfl | rfl
    · cases offW_0.symm.trans hb
      exact ⟨_, (lay1_eq _ _ _), fun H h => by rw [aset_at]; exact h⟩
    · cases offW_1.symm.trans hb
      exact ⟨_, ((lay1_ne _ _ (by omega)).trans ((lay1_ne _ _ (by omega)).trans ((lay1_ne _ _ (by omega)).trans ((lay1_ne _ _ (by omega)).trans ((lay1_ne _ _ (by omega)).trans ((lay1_ne _ _ (by omega)).trans ((lay1_ne _ _ (by omega)).trans ((lay1_ne _ _ (by omega)).trans ((lay1_ne _ _ (by omega)).trans ((lay1_ne _ _ (by omega)).trans ((lay1_ne _ _ (by omega)).trans ((lay1_ne _ _ (by omega)).trans ((lay1_ne _ _ (by omega)).trans ((lay1_ne _ _ (by omega)).trans ((lay1_ne _ _ (by omega)).trans ((lay1_ne _ _ (by omega)).trans ((lay1_ne _ _ (by omega)).trans ((lay1_ne _ _ (by omega)).trans ((lay1_ne _ _ (by omega)).trans (lay1_eq _ _ _)))))))))))))))))))), fun H h => by rw [aset_ne _ _ (by omega)]; exact h⟩
    · cases offW_2.symm.trans hb
      exact ⟨_, ((lay1_ne _ _ (by omega)).trans ((lay1_ne _ _ (by omega)).trans ((lay1_ne _ _ (by omega)).trans ((lay1_ne _ _ (by omega)).trans ((lay1_ne _ _ (by omega)).trans ((lay1_ne _ _ (by omega)).trans ((lay1_ne _ _ (by omega)).trans ((lay1_ne _ _ (by omega)).trans ((lay1_ne _ _ (by omega)).trans ((lay1_ne _ _ (by omega)).trans ((lay1_ne _ _ (by omega)).trans ((lay1_ne _ _ (by omega)).trans ((lay1_ne _ _ (by omega)).trans ((lay1_ne _ _ (by omega)).trans ((lay1_ne _ _ (by omega)).trans ((lay1_ne _ _ (by omega)).trans ((lay1_ne _ _ (by omega)).trans (lay1_eq _ _ _)))))))))))))))))), fun H h => by rw [aset_ne _ _ (by omega)]; exact h⟩
    · cases offW_3.symm.trans hb
      exact ⟨_, ((lay1_ne _ _ (by omega)).trans ((lay1_ne _ _ (by omega)).trans ((lay1_ne _ _ (by omega)).trans ((lay1_ne _ _ (by omega)).trans ((lay1_ne _ _ (by omega)).trans ((lay1_ne _ _ (by omega)).trans ((lay1_ne _ _ (by omega)).trans ((lay1_ne _ _ (by omega)).trans ((lay1_ne _ _ (by omega)).trans ((lay1_ne _ _ (by omega)).trans ((lay1_ne _ _ (by omega)).trans ((lay1_ne _ _ (by omega)).trans ((lay1_ne _ _ (by omega)).trans ((lay1_ne _ _ (by omega)).trans ((lay1_ne _ _ (by omega)).trans (lay1_eq _ _ _)))))))))))))))), fun H h => by rw [aset_ne _ _ (by omega)]; exact h⟩
    · cases offW_4.symm.trans hb
      exact ⟨_, ((lay1_ne _ _ (by omega)).trans ((lay1_ne _ _ (by omega)).trans ((lay1_ne _ _ (by omega)).trans ((lay1_ne _ _ (by omega)).trans ((lay1_ne _ _ (by omega)).trans ((lay1_ne _ _ (by omega)).trans ((lay1_ne _ _ (by omega)).trans ((lay1_ne _ _ (by omega)).trans ((lay1_ne _ _ (by omega)).trans ((lay1_ne _ _ (by omega)).trans ((lay1_ne _ _ (by omega)).trans ((lay1_ne _ _ (by omega)).trans ((lay1_ne _ _ (by omega)).trans (lay1_eq _ _ _)))))))))))))), fun H h => by rw [aset_ne _ _ (by omega)]; exact h⟩
    · cases offW_5.symm.trans hb
      exact ⟨_, ((lay1_ne _ _ (by omega)).trans ((lay1_ne _ _ (by omega)).trans ((lay1_ne _ _ (by omega)).trans ((lay1_ne _ _ (by omega)).trans ((lay1_ne _ _ (by omega)).trans ((lay1_ne _ _ (by omega)).trans ((lay1_ne _ _ (by omega)).trans ((lay1_ne _ _ (by omega)).trans ((lay1_ne _ _ (by omega)).trans ((lay1_ne _ _ (by omega)).trans ((lay1_ne _ _ (by omega)).trans (lay1_eq _ _ _)))))))))))), fun H h => by rw [aset_ne _ _ (by omega)]; exact h⟩
    · cases offW_6.symm.trans hb
      exact ⟨_, ((lay1_ne _ _ (by omega)).trans ((lay1_ne _ _ (by omega)).trans ((lay1_ne _ _ (by omega)).trans ((lay1_ne _ _ (by omega)).trans ((lay1_ne _ _ (by omega)).trans ((lay1_ne _ _ (by omega)).trans ((lay1_ne _ _ (by omega)).trans ((lay1_ne _ _ (by omega)).trans ((lay1_ne _ _ (by omega)).trans (lay1_eq _ _ _)))))))))), fun H h => by rw [aset_ne _ _ (by omega)]; exact h⟩
    · cases offW_7.symm.trans hb
      exact ⟨_, ((lay1_ne _ _ (by omega)).trans ((lay1_ne _ _ (by omega)).trans ((lay1_ne _ _ (by omega)).trans ((lay1_ne _ _ (by omega)).trans ((lay1_ne _ _ (by omega)).trans ((lay1_ne _ _ (by omega)).trans ((lay1_ne _ _ (by omega)).trans (lay1_eq _ _ _)))))))), fun H h => by rw [aset_ne _ _ (by omega)]; exact h⟩
    · cases offW_8.symm.trans hb
      exact ⟨_, ((lay1_ne _ _ (by omega)).trans ((lay1_ne _ _ (by omega)).trans ((lay1_ne _ _ (by omega)).trans ((lay1_ne _ _ (by omega)).trans ((lay1_ne _ _ (by omega)).trans (lay1_eq _ _ _)))))), fun H h => by rw [aset_ne _ _ (by omega)]; exact h⟩
    · cases offW_9.symm.trans hb
      exact ⟨_, ((lay1_ne _ _ (by omega)).trans ((lay1_ne _ _ (by omega)).trans ((lay1_ne _ _ (by omega)).trans (lay1_eq _ _ _)))), fun H h => by rw [aset_ne _ _ (by omega)]; exact h⟩
    · cases offW_10.symm.trans hb
      exact ⟨_, ((lay1_ne _ _ (by omega)).trans (lay1_eq _ _ _)), fun H h => by rw [aset_ne _ _ (by omega)]; exact h⟩
  refine VU_aload_n (q := 84) g dX1_init_83 rfl rfl ?_
  refine VU_callVV (q := 87) g (c_X1_makeNew l offW_L) dX1_init_84 k_X1_42 offW_0 rfl rfl ?_ (congrArg (· + 10) hsz) rfl rfl ⟨rfl, rfl⟩ rfl (fun M1 e1 => ?_)
  · rintro q (⟨K, hK⟩ | hq)
    · have := offW_some hK
      by_cases e : q = o
      · subst e; exact hA0
      · exact Or.inr (by rw [hsz]; show o + 1 ≤ q; omega)
    · exact Or.inr (by rw [hsz]; have hq2 : o + 11 ≤ q := hq; show o + 1 ≤ q; omega)
  exact VU_ret g r dX1_init_87 rfl (Nat.le_refl _) e1.1
/-- a slot that was made at a -/
def slotW (D : DD) (a : Nat) : LY := fun b => if b = a then some (kO 3 [some (a + 1), none]) else offW D (a + 1) b
theorem slotW_0 {D : DD} {a : Nat} : slotW D a a = some (kO 3 [some (a + 1), none]) := if_pos rfl
theorem slotW_1 {D : DD} {a b : Nat} (h : b ≠ a) : slotW D a b = offW D (a + 1) b := if_neg h
theorem slotW_none {D : DD} {a b : Nat} (h : b < a ∨ a + 11 < b) : slotW D a b = none := by
  rw [slotW_1 (by omega)]
  exact offW_none (by omega)
theorem slotW_some {D : DD} {a b : Nat} {K : KD} (h : slotW D a b = some K) : a ≤ b ∧ b ≤ a + 11 := by
  by_cases e : b < a ∨ a + 11 < b
  · rw [slotW_none e] at h; cases h
  · omega
abbrev rm_X3_init : Room := { frames := 3, cells := 11, slots := 147, locals := 80 }
set_option maxHeartbeats 4000000 in
set_option maxRecDepth 100000 in
/-- Slot() -/
theorem c_X3_init (l : Launch) {D : DD} (a : Nat) : CN l yX3_init cX3_init 1 rm_X3_init a (kRw 3 vX3) D (slotW D a) (fun M1 => M1 a 1 = 0) := by
  refine CN_of rfl rfl rfl (Nat.le_of_ble_eq_true rfl) (fun Γ M g r => ?_)
  have hin := r.2.2.1
  have hsz := r.2.2.2.1
  have hE := r.2.2.2.2
  have hA0 : Aw (one a (kRw 3 vX3)) (gs Γ).heap.size a := Or.inl ⟨_, one_eq _ _⟩
  refine VU_aload_n (q := 1) g dX3_init_0 rfl rfl ?_
  refine VU_objInit (q := 4) g dX3_init_1 o_X3 rfl rfl rfl ?_
  refine VU_aload_n (q := 5) g dX3_init_4 rfl rfl ?_
  refine VU_new (ci := 1) (q := 8) g dX3_init_5 n_X3_7 u_X1 rfl tyX1_ok vX1_ok rfl rfl ?_
  refine VU_dup (q := 9) g dX3_init_8 rfl rfl ?_
  refine VU_callI (q := 12) g (c_X1_init l (a + 1)) hE dX3_init_9 k_X3_9 (lay1_eq _ _ _) (Or.inr (by rw [hsz]; omega)) rfl (by rw [hsz] <;> first | rfl | (show a + 1 + 1 = (a + 1) + 1; omega)) (soW offW_0) rfl rfl rfl (fun M1 e1 => ?_)
  refine VU_nm (w' := a + 12) (κ' := (11, 147)) (by show (a + 1) + 1 + 10 = a + 12; omega) rfl ?_
  refine VU_putR (ci := 3) (k := 0) (vs := [.null, vi 0]) (ty := (.object "ChairStamps$Office")) (q := 15) g hin dX3_init_12 f_X3_10 tyX3_ok nmX3 rfl ((orW_0 (offW_none (by omega))).trans ((lay1_ne _ _ (by omega)).trans (one_eq _ _))) hA0 rfl rfl rfl rfl rfl (Nat.le_of_ble_eq_true rfl) rfl ?_
  refine VU_aload_n (q := 16) g dX3_init_15 rfl rfl ?_
  refine VU_iconst (q := 17) g dX3_init_16 rfl ?_
  refine VU_putI (ci := 3) (k := 1) (vs := [.ref (a + 1), vi 0]) (ty := .boolean) (q := 20) g dX3_init_17 f_X3_16 tyX3_ok nmX3 rfl (lay1_eq _ _ _) hA0 rfl rfl (by decide) (by decide) (Nat.le_of_ble_eq_true rfl) rfl ?_
  refine VU_toO (Λ1 := slotW D a) a (fun _ => 0) (fun b K1 hb => ?_) (VU_ret g r dX3_init_20 rfl (by show a + 1 + 11 ≤ a + 12; omega) (by rw [aset_at]))
  by_cases e : b = a
  · subst e
    cases slotW_0.symm.trans hb
    exact ⟨_, (lay1_eq _ _ _), fun H h => by rw [aset_at]; exact h⟩
  · rw [slotW_1 e] at hb
    exact ⟨K1, (lay1_ne _ _ e).trans ((lay1_ne _ _ e).trans (orW_1 hb)), fun H h => by rw [aset_ne _ _ e]; exact h⟩
/-- a text that was made at x -/
def txW (D : DD) (x : Nat) : LY := fun b => if b = x then some (kO 2 (tFl x)) else if b = x + 1 then some (kI D 120) else if b = x + 2 then some (kI D 4) else none
theorem txW_0 {D : DD} {x : Nat} : txW D x (x) = some (kO 2 (tFl x)) := by
  unfold txW
  rw [if_pos rfl]
theorem txW_1 {D : DD} {x : Nat} : txW D x (x + 1) = some (kI D 120) := by
  unfold txW
  rw [if_neg (by omega), if_pos rfl]
theorem txW_2 {D : DD} {x : Nat} : txW D x (x + 2) = some (kI D 4) := by
  unfold txW
  rw [if_neg (by omega), if_neg (by omega), if_pos rfl]
theorem txW_none {D : DD} {x b : Nat} (h : b < x ∨ x + 2 < b) : txW D x b = none := by
  unfold txW
  rw [if_neg (by omega), if_neg (by omega), if_neg (by omega)]
theorem txW_some {D : DD} {x b : Nat} {K : KD} (h : txW D x b = some K) : x ≤ b ∧ b ≤ x + 2 := by
  by_cases e : b < x ∨ x + 2 < b
  · rw [txW_none e] at h; cases h
  · omega
theorem txW_is {D : DD} {x b : Nat} (h : x ≤ b ∧ b ≤ x + 2) : ∃ K, txW D x b = some K := by
  rcases (by omega : b = x ∨ b = x + 1 ∨ b = x + 2) with rfl | rfl | rfl
  · exact ⟨_, txW_0⟩
  · exact ⟨_, txW_1⟩
  · exact ⟨_, txW_2⟩
theorem txW_L {D : DD} {x : Nat} : TxL D (txW D x) x := ⟨txW_0, txW_1, txW_2⟩
abbrev rm_X2_init : Room := { frames := 2, cells := 2, slots := 124, locals := 60 }
set_option maxHeartbeats 4000000 in
set_option maxRecDepth 100000 in
/-- OfficeText() -/
theorem c_X2_init (l : Launch) {D : DD} (x : Nat) : CN l yX2_init cX2_init 1 rm_X2_init x (kRw 2 vX2) D (txW D x) (fun M1 => M1 x 1 = 0 ∧ M1 (x + 1) = fun _ => 0) := by
  refine CN_of rfl rfl rfl (Nat.le_of_ble_eq_true rfl) (fun Γ M g r => ?_)
  have hin := r.2.2.1
  have hsz := r.2.2.2.1
  have hE := r.2.2.2.2
  have hA0 : Aw (one x (kRw 2 vX2)) (gs Γ).heap.size x := Or.inl ⟨_, one_eq _ _⟩
  refine VU_aload_n (q := 1) g dX2_init_0 rfl rfl ?_
  refine VU_objInit (q := 4) g dX2_init_1 o_X2 rfl rfl rfl ?_
  refine VU_aload_n (q := 5) g dX2_init_4 rfl rfl ?_
  refine VU_bipush (q := 7) g dX2_init_5 (by decide) rfl ?_
  refine VU_newI (n := 120) (q := 9) g dX2_init_7 a_newI (by decide) rfl rfl ?_
  refine VU_putR (ci := 2) (k := 0) (vs := [.null, vi 0, vi 0, vi 0, .null]) (ty := (.array .int)) (q := 12) g hin dX2_init_9 f_X2_9 tyX2_ok nmX2 rfl ((lay1_ne _ _ (by omega)).trans (one_eq _ _)) hA0 rfl rfl rfl rfl rfl (Nat.le_of_ble_eq_true rfl) rfl ?_
  refine VU_aload_n (q := 13) g dX2_init_12 rfl rfl ?_
  refine VU_iconst (q := 14) g dX2_init_13 rfl ?_
  refine VU_putI (ci := 2) (k := 1) (vs := [.ref (x + 1), vi 0, vi 0, vi 0, .null]) (ty := .int) (q := 17) g dX2_init_14 f_X2_15 tyX2_ok nmX2 rfl (lay1_eq _ _ _) hA0 rfl rfl rfl rfl (Nat.le_of_ble_eq_true rfl) rfl ?_
  refine VU_aload_n (q := 18) g dX2_init_17 rfl rfl ?_
  refine VU_iconst (q := 19) g dX2_init_18 rfl ?_
  refine VU_putI (ci := 2) (k := 2) (vs := [.ref (x + 1), vi 0, vi 0, vi 0, .null]) (ty := .int) (q := 22) g dX2_init_19 f_X2_19 tyX2_ok nmX2 rfl (lay1_eq _ _ _) hA0 rfl rfl rfl rfl (Nat.le_of_ble_eq_true rfl) rfl ?_
  refine VU_aload_n (q := 23) g dX2_init_22 rfl rfl ?_
  refine VU_iconst (q := 24) g dX2_init_23 rfl ?_
  refine VU_putI (ci := 2) (k := 3) (vs := [.ref (x + 1), vi 0, vi 0, vi 0, .null]) (ty := .int) (q := 27) g dX2_init_24 f_X2_22 tyX2_ok nmX2 rfl (lay1_eq _ _ _) hA0 rfl rfl rfl rfl (Nat.le_of_ble_eq_true rfl) rfl ?_
  refine VU_aload_n (q := 28) g dX2_init_27 rfl rfl ?_
  refine VU_iconst (q := 29) g dX2_init_28 rfl ?_
  refine VU_newI (n := 4) (q := 31) g dX2_init_29 a_newI (by decide) rfl rfl ?_
  refine VU_putR (ci := 2) (k := 4) (vs := [.ref (x + 1), vi 0, vi 0, vi (-1), .null]) (ty := (.array .int)) (q := 34) g hin dX2_init_31 f_X2_25 tyX2_ok nmX2 rfl ((lay1_ne _ _ (by omega)).trans (lay1_eq _ _ _)) hA0 rfl rfl rfl rfl rfl (Nat.le_of_ble_eq_true rfl) rfl ?_
  refine VU_toO (Λ1 := txW D x) x (fun j => if j = 3 then -1 else 0) (fun b K1 hb => ?_) (VU_ret g r dX2_init_34 rfl (Nat.le_refl _) ⟨by rw [aset_at]; rfl, by rw [aset_ne _ _ (by omega), aset_ne _ _ (by omega), aset_at]⟩)
  have hb2 := txW_some hb
  rcases (by omega : b = x ∨ b = x + 1 ∨ b = x + 2) with rfl | rfl | rfl
  · cases txW_0.symm.trans hb
    exact ⟨_, (lay1_eq _ _ _), fun H h => by rw [aset_at]; exact h⟩
  · cases txW_1.symm.trans hb
    exact ⟨_, ((lay1_ne _ _ (by omega)).trans ((lay1_ne _ _ (by omega)).trans ((lay1_ne _ _ (by omega)).trans ((lay1_ne _ _ (by omega)).trans ((lay1_ne _ _ (by omega)).trans ((lay1_ne _ _ (by omega)).trans (lay1_eq _ _ _))))))), fun H h => by rw [aset_ne _ _ (by omega)]; exact h⟩
  · cases txW_2.symm.trans hb
    exact ⟨_, ((lay1_ne _ _ (by omega)).trans (lay1_eq _ _ _)), fun H h => by rw [aset_ne _ _ (by omega)]; exact h⟩
/-- a memory in which the first i offices were made -/
def memR (D : DD) (y i : Nat) : LY := fun b => if b = y then some (kRw 0 [.ref (y + 1), vi 0, vi 0]) else if b = y + 1 then some (kQ0 D 15 (fun j => if j < i then some (gO y j) else none)) else if y + 2 ≤ b ∧ b < y + 2 + 11 * i then offW D (gO y ((b - y - 2) / 11)) b else none
/-- a memory that was made at y -/
def memW (D : DD) (y : Nat) : LY := fun b => if b = y then some (kO 0 [some (y + 1), none, none]) else if b = y + 1 then some (kQ D 15 (gO y)) else if y + 2 ≤ b ∧ b < y + 167 then offW D (gO y ((b - y - 2) / 11)) b else none
theorem memW_0 {D : DD} {y : Nat} : memW D y y = some (kO 0 [some (y + 1), none, none]) := if_pos rfl
theorem memW_1 {D : DD} {y : Nat} : memW D y (y + 1) = some (kQ D 15 (gO y)) := by unfold memW; rw [if_neg (by omega), if_pos rfl]
theorem memW_2 {D : DD} {y b : Nat} (h : y + 2 ≤ b ∧ b < y + 167) : memW D y b = offW D (gO y ((b - y - 2) / 11)) b := by unfold memW; rw [if_neg (by omega), if_neg (by omega), if_pos h]
theorem memW_none {D : DD} {y b : Nat} (h : b < y ∨ y + 166 < b) : memW D y b = none := by unfold memW; rw [if_neg (by omega), if_neg (by omega), if_neg (by omega)]
theorem memW_some {D : DD} {y b : Nat} {K : KD} (h : memW D y b = some K) : y ≤ b ∧ b ≤ y + 166 := by
  by_cases e : b < y ∨ y + 166 < b
  · rw [memW_none e] at h; cases h
  · omega
theorem memW_L {D : DD} {y : Nat} : MemL D (memW D y) y := ⟨memW_0, memW_1, fun i hi => offW_L.eqv (fun b h1 h2 => by
  unfold gO at h1 h2
  rw [memW_2 (by omega), show (b - y - 2) / 11 = i by omega])⟩
theorem memR_0 {D : DD} {y i : Nat} : memR D y i y = some (kRw 0 [.ref (y + 1), vi 0, vi 0]) := if_pos rfl
theorem memR_1 {D : DD} {y i : Nat} : memR D y i (y + 1) = some (kQ0 D 15 (fun j => if j < i then some (gO y j) else none)) := by unfold memR; rw [if_neg (by omega), if_pos rfl]
theorem memR_2 {D : DD} {y i b : Nat} (h : y + 2 ≤ b ∧ b < y + 2 + 11 * i) : memR D y i b = offW D (gO y ((b - y - 2) / 11)) b := by unfold memR; rw [if_neg (by omega), if_neg (by omega), if_pos h]
theorem memR_none {D : DD} {y i b : Nat} (h : b < y ∨ y + 2 + 11 * i ≤ b) : memR D y i b = none := by unfold memR; rw [if_neg (by omega), if_neg (by omega), if_neg (by omega)]
abbrev rm_X0_init : Room := { frames := 3, cells := 166, slots := 2220, locals := 80 }
set_option maxHeartbeats 4000000 in
set_option maxRecDepth 100000 in
/-- Memory() -/
theorem c_X0_init (l : Launch) {D : DD} (y : Nat) : CN l yX0_init cX0_init 2 rm_X0_init y (kRw 0 vX0) D (memW D y) (fun M1 => M1 y 1 = 0 ∧ M1 y 2 = 0) := by
  refine CN_of rfl rfl rfl (Nat.le_of_ble_eq_true rfl) (fun Γ M g r => ?_)
  have hin := r.2.2.1
  have hsz := r.2.2.2.1
  have hE := r.2.2.2.2
  have hA0 : Aw (one y (kRw 0 vX0)) (gs Γ).heap.size y := Or.inl ⟨_, one_eq _ _⟩
  refine VU_aload_n (q := 1) g dX0_init_0 rfl rfl ?_
  refine VU_objInit (q := 4) g dX0_init_1 o_X0 rfl rfl rfl ?_
  refine VU_aload_n (q := 5) g dX0_init_4 rfl rfl ?_
  refine VU_bipush (q := 7) g dX0_init_5 (by decide) rfl ?_
  refine VU_newQ (n := 15) (q := 10) g dX0_init_7 hE n_X0_11.1 (by decide) rfl rfl ?_
  refine VU_putR (ci := 0) (k := 0) (vs := [.null, vi 0, vi 0]) (ty := (.array (.object "ChairStamps$Office"))) (q := 13) g hin dX0_init_10 f_X0_13 tyX0_ok nmX0 rfl ((lay1_ne _ _ (by omega)).trans (one_eq _ _)) hA0 rfl rfl rfl rfl rfl (Nat.le_of_ble_eq_true rfl) rfl ?_
  refine VU_aload_n (q := 14) g dX0_init_13 rfl rfl ?_
  refine VU_iconst (q := 15) g dX0_init_14 rfl ?_
  refine VU_putI (ci := 0) (k := 1) (vs := [.ref (y + 1), vi 0, vi 0]) (ty := .int) (q := 18) g dX0_init_15 f_X0_17 tyX0_ok nmX0 rfl (lay1_eq _ _ _) hA0 rfl rfl rfl rfl (Nat.le_of_ble_eq_true rfl) rfl ?_
  refine VU_aload_n (q := 19) g dX0_init_18 rfl rfl ?_
  refine VU_iconst (q := 20) g dX0_init_19 rfl ?_
  refine VU_putI (ci := 0) (k := 2) (vs := [.ref (y + 1), vi 0, vi 0]) (ty := .int) (q := 23) g dX0_init_20 f_X0_21 tyX0_ok nmX0 rfl (lay1_eq _ _ _) hA0 rfl rfl rfl rfl (Nat.le_of_ble_eq_true rfl) rfl ?_
  refine VU_to (Λ1 := memR D y 0) (M1 := M) (fun b K1 hb => ?_) ?_
  · by_cases e0 : b = y
    · subst e0
      cases memR_0.symm.trans hb
      exact ⟨_, (lay1_eq _ _ _), rfl⟩
    · by_cases e1 : b = y + 1
      · subst e1
        cases memR_1.symm.trans hb
        exact ⟨_, ((lay1_ne _ _ (by omega)).trans ((lay1_ne _ _ (by omega)).trans ((lay1_ne _ _ (by omega)).trans (lay1_eq _ _ _)))), by rw [show (fun j => if j < 0 then some (gO y j) else none) = (fun _ => none : Nat → Option Nat) from funext fun j => if_neg (by omega)]⟩
      · rw [memR_none (by omega)] at hb
        cases hb
  refine VU_iconst (q := 24) g dX0_init_23 rfl ?_
  refine VU_istore_n0 (q := 25) g dX0_init_24 (by decide) rfl rfl ?_
  have hloop : ∀ (k9 i : Nat) (M : MM), i + k9 = 15 → VU Γ D (one y (kRw 0 vX0)) (memR D y i) M (y + 2 + 11 * i) (1 + 11 * i, 15 + 147 * i) 25 [some (.ref y), some (vi (i : Int))] [] := by
    intro k9
    induction k9 with
    | zero =>
      intro i M h2
      have hi : i = 15 := by omega
      subst hi
      refine VU_iload_n (q := 26) g dX0_init_25 rfl rfl ?_
      refine VU_aload_n (q := 27) g dX0_init_26 rfl rfl ?_
      refine VU_getR (ci := 0) (k := 0) (vs := [.ref (y + 1), vi 0, vi 0]) (q := 30) g dX0_init_27 f_X0_13 rfl memR_0 rfl rfl ?_
      refine VU_alenQ (q := 31) g dX0_init_30 memR_1 rfl ?_
      refine VU_icmp_ge (q := 34) g dX0_init_31 (tgt := 53) (by decide) rfl (by decide) (by decide) (fun h => ?_) (fun h => absurd h (by decide))
      refine VU_toO (Λ1 := memW D y) y (fun _ => 0) (fun b K1 hb => ?_) (VU_ret g r dX0_init_53 rfl (by show y + 1 + 166 ≤ y + 2 + 11 * 15; omega) ⟨by rw [aset_at], by rw [aset_at]⟩)
      by_cases e0 : b = y
      · subst e0
        cases memW_0.symm.trans hb
        exact ⟨_, memR_0, fun H h => by rw [aset_at]; exact h⟩
      · by_cases e1 : b = y + 1
        · subst e1
          cases memW_1.symm.trans hb
          refine ⟨_, memR_1, fun H h => ?_⟩
          have h9 : H[y + 1]? = some (vp_cell (D.2 3) (15, .inr (.inr (.inr (.inr (fun j => if j < 15 then some (gO y j) else none)))))) := h
          show H[y + 1]? = some (vp_cell (D.2 3) (15, .inr (.inr (.inr (.inr (fun j => some (gO y j)))))))
          rw [h9, vp_cell_q, vp_cell_q]
          congr 1
          first | done | exact arrV_cg _ _ fun j hj => by rw [if_pos hj]
        · have hb2 := memW_some hb
          rw [memW_2 (by omega)] at hb
          exact ⟨K1, (memR_2 (by omega)).trans hb, fun H h => by rw [aset_ne _ _ e0]; exact h⟩
    | succ k9 ih =>
      intro i M h2
      refine VU_iload_n (q := 26) g dX0_init_25 rfl rfl ?_
      refine VU_aload_n (q := 27) g dX0_init_26 rfl rfl ?_
      refine VU_getR (ci := 0) (k := 0) (vs := [.ref (y + 1), vi 0, vi 0]) (q := 30) g dX0_init_27 f_X0_13 rfl memR_0 rfl rfl ?_
      refine VU_alenQ (q := 31) g dX0_init_30 memR_1 rfl ?_
      refine VU_icmp_ge (q := 34) g dX0_init_31 (tgt := 53) (by decide) rfl (by omega) (by decide) (fun h => absurd h (by omega)) (fun h => ?_)
      refine VU_aload_n (q := 35) g dX0_init_34 rfl rfl ?_
      refine VU_getR (ci := 0) (k := 0) (vs := [.ref (y + 1), vi 0, vi 0]) (q := 38) g dX0_init_35 f_X0_13 rfl memR_0 rfl rfl ?_
      refine VU_iload_n (q := 39) g dX0_init_38 rfl rfl ?_
      refine VU_new (ci := 1) (q := 42) g dX0_init_39 n_X0_11 u_X1 rfl tyX1_ok vX1_ok (decide_eq_true ⟨by show 1 + 11 * i + 1 ≤ 166; omega, by show 15 + 147 * i + 12 ≤ 2220; omega⟩) rfl ?_
      refine VU_dup (q := 43) g dX0_init_42 rfl rfl ?_
      refine VU_callI (q := 46) g (c_X1_init l (y + 2 + 11 * i)) hE dX0_init_43 k_X0_24 (lay1_eq _ _ _) (Or.inr (by rw [hsz]; omega)) rfl (by rw [hsz]; show y + 1 + (1 + 11 * i + 1) = y + 2 + 11 * i + 1; omega) (soW offW_0) (by
        unfold rmOk
        simp only [Bool.and_eq_true, decide_eq_true_eq]
        refine ⟨by decide, by decide, ?_, ?_⟩
        · show 1 + 11 * i + 1 + 10 ≤ 166; omega
        · show 15 + 147 * i + 12 + 135 ≤ 2220; omega) rfl rfl (fun M1 e1 => ?_)
      refine VU_aastore (q := 47) g dX0_init_46 ((orW_0 (offW_none (by omega))).trans ((lay1_ne _ _ (by omega)).trans memR_1)) (orW_1 offW_0) (Or.inr (by rw [hsz]; show y + 1 ≤ y + 1; omega)) (by omega) (by decide) rfl ?_
      refine VU_iinc0 (q := 50) g dX0_init_47 (by decide) rfl rfl rfl ?_
      refine VU_goto g dX0_init_50 (tgt := 25) (by decide) ?_
      refine VU_to (Λ1 := memR D y (i + 1)) (M1 := orM (offW D (y + 2 + 11 * i)) M1 M) (fun b K1 hb => ?_) ?_
      · by_cases e0 : b = y
        · subst e0
          cases memR_0.symm.trans hb
          exact ⟨_, (lay1_ne _ _ (by omega)).trans ((orW_0 (offW_none (by omega))).trans ((lay1_ne _ _ (by omega)).trans memR_0)), rfl⟩
        · by_cases e1 : b = y + 1
          · subst e1
            cases memR_1.symm.trans hb
            refine ⟨_, lay1_eq _ _ _, ?_⟩
            have hf : (fun j => if j < i + 1 then some (gO y j) else none) = va_up (fun j => if j < i then some (gO y j) else none) ((i : Int)).toNat (some (y + 2 + 11 * i)) := by
              funext j
              unfold va_up
              rw [Int.toNat_natCast]
              by_cases hj : j = i
              · subst hj
                rw [if_pos (by omega), if_pos rfl]
                rfl
              · rw [if_neg hj]
                by_cases hj2 : j < i
                · rw [if_pos (by omega)]; exact (if_pos hj2).symm
                · rw [if_neg (by omega)]; exact (if_neg hj2).symm
            rw [hf]
          · by_cases e2 : b < y + 2 + 11 * i
            · by_cases e3 : b < y
              · rw [memR_none (Or.inl e3)] at hb; cases hb
              · rw [memR_2 (by omega)] at hb
                exact ⟨K1, (lay1_ne _ _ e1).trans ((orW_0 (offW_none (Or.inl e2))).trans ((lay1_ne _ _ (by omega)).trans ((memR_2 (by omega)).trans hb))), rfl⟩
            · by_cases e3 : b < y + 2 + 11 * (i + 1)
              · rw [memR_2 (by omega), show (b - y - 2) / 11 = i by omega] at hb
                exact ⟨K1, (lay1_ne _ _ e1).trans (orW_1 hb), rfl⟩
              · rw [memR_none (by omega)] at hb; cases hb
      · refine VU_nm (w' := y + 2 + 11 * (i + 1)) (κ' := (1 + 11 * (i + 1), 15 + 147 * (i + 1))) (by show y + 2 + 11 * i + 1 + 10 = y + 2 + 11 * (i + 1); omega) (by show (1 + 11 * i + 1 + 10, 15 + 147 * i + 12 + 135) = (1 + 11 * (i + 1), 15 + 147 * (i + 1)); exact Prod.ext (by show 1 + 11 * i + 1 + 10 = 1 + 11 * (i + 1); omega) (by show 15 + 147 * i + 12 + 135 = 15 + 147 * (i + 1); omega)) ?_
        exact ih (i + 1) _ (by omega)
  exact hloop 15 0 _ rfl
