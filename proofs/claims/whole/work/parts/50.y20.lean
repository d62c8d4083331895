/-- a number as the machine's int has it -/
def nz (z : Int) : Int := (iI z).toInt
theorem vi_nz (z : Int) : vi z = vi (nz z) := by unfold nz; show Value.int (iI z) = Value.int (iI (iI z).toInt); rw [iI_self]
theorem nz_r (z : Int) : inR (nz z) := inR_toInt _
theorem nz_id {z : Int} (h : inR z) : nz z = z := iI_toInt h
abbrev rm_L_append : Room := { frames := 7, cells := 1, slots := 6, locals := 111 }
set_option maxHeartbeats 4000000 in
set_option maxRecDepth 100000 in
theorem h_append (l : Launch) {D : DD} {Λ : LY} {M : MM} {s o : Nat} {fl : List (Option Nat)} {a1 : Int} {Ψ : Int → MM → Prop} {Ξ : String → MM → Prop} (hM : CXI l yX4_append cX4_append 2 .int rm_X4_append [.ref s, vi a1] D Λ M Ψ Ξ) (hs : Λ s = some (kO 4 fl)) (ho : Λ o = some (kJ D 1)) (hΞ : ∀ E M1, Ξ E M1 → E = xIA ∨ E = xIS) : CXH l yL_append cL_append 4 .int [(0, 9, 12, 13), (0, 9, 15, 15)] rm_L_append [.ref s, vi a1, .ref o] D Λ M (fun z M1 => (z = 0 ∧ ∃ v M2, Ψ v M2 ∧ wr M2 o 0 (nz v) = M1) ∨ (z = 1 ∧ Ξ xIA M1) ∨ (z = 2 ∧ Ξ xIS M1)) := by
  refine CXH_of rfl rfl (Nat.le_of_ble_eq_true rfl) (fun Γ g r => ?_)
  refine V_aload_n (q := 1) g dL_append_0 rfl rfl ?_
  refine V_iconst (q := 2) g dL_append_1 rfl ?_
  refine V_aload_n (q := 3) g dL_append_2 rfl rfl ?_
  refine V_iload_n (q := 4) g dL_append_3 rfl rfl ?_
  refine V_callVXI_1 (q := 7) g hM dL_append_4 k_L_7 hs rfl rfl rfl rfl rfl (fun z1 M1 e1 => ?_) (fun E1 M1 x1 => ?_)
  · rw [vi_nz z1]
    refine V_i2l (q := 8) g dL_append_7 (nz_r z1) rfl ?_
    refine V_lastore (q := 9) g dL_append_8 rfl ho (by decide) (by decide) ?_
    refine V_goto g dL_append_9 (tgt := 18) (by decide) ?_
    refine V_iconst (q := 19) g dL_append_18 rfl ?_
    exact V_ireturnX g r rfl dL_append_19 rfl (Or.inl ⟨rfl, z1, M1, e1, rfl⟩)
  · rcases hΞ E1 M1 x1 with rfl | rfl
    · refine V_catch (q := 12) g r [] ⟨0, 9, 12, 13⟩ [⟨0, 9, 15, 15⟩] rfl (fun z hz => nomatch hz) rfl (by decide) cl_IA rfl (fun qa => ?_)
      refine V_astore_n_3 (q := 13) g dL_append_12 (by decide) rfl rfl ?_
      refine V_iconst (q := 14) g dL_append_13 rfl ?_
      exact V_ireturnX g r rfl dL_append_14 rfl (Or.inr (Or.inl ⟨rfl, x1⟩))
    · refine V_catch (q := 15) g r [⟨0, 9, 12, 13⟩] ⟨0, 9, 15, 15⟩ [] rfl (fun z hz => by
        simp only [List.mem_cons, List.not_mem_nil, or_false] at hz
        rcases hz with rfl
        · exact ⟨by decide, xIA, cl_IA, List.mem_of_getElem? (i := 2) rfl⟩) rfl (by decide) cl_IS rfl (fun qa => ?_)
      refine V_astore_n_3 (q := 16) g dL_append_15 (by decide) rfl rfl ?_
      refine V_iconst (q := 17) g dL_append_16 rfl ?_
      exact V_ireturnX g r rfl dL_append_17 rfl (Or.inr (Or.inr (⟨rfl, x1⟩)))
abbrev rm_L_load : Room := { frames := 7, cells := 1, slots := 6, locals := 168 }
set_option maxHeartbeats 4000000 in
set_option maxRecDepth 100000 in
theorem h_load (l : Launch) {D : DD} {Λ : LY} {M : MM} {s o : Nat} {fl : List (Option Nat)} {Ψ : Int → MM → Prop} {Ξ : String → MM → Prop} (hM : CXI l yX4_load cX4_load 3 .int rm_X4_load [.ref s] D Λ M Ψ Ξ) (hs : Λ s = some (kO 4 fl)) (ho : Λ o = some (kJ D 1)) (hΞ : ∀ E M1, Ξ E M1 → E = xIS) : CXH l yL_load cL_load 3 .int [(0, 8, 11, 15)] rm_L_load [.ref s, .ref o] D Λ M (fun z M1 => (z = 0 ∧ ∃ v M2, Ψ v M2 ∧ wr M2 o 0 (nz v) = M1) ∨ (z = 1 ∧ Ξ xIS M1)) := by
  refine CXH_of rfl rfl (Nat.le_of_ble_eq_true rfl) (fun Γ g r => ?_)
  refine V_aload_n (q := 1) g dL_load_0 rfl rfl ?_
  refine V_iconst (q := 2) g dL_load_1 rfl ?_
  refine V_aload_n (q := 3) g dL_load_2 rfl rfl ?_
  refine V_callVXI_0 (q := 6) g hM dL_load_3 k_L_17 hs rfl rfl rfl rfl rfl (fun z1 M1 e1 => ?_) (fun E1 M1 x1 => ?_)
  · rw [vi_nz z1]
    refine V_i2l (q := 7) g dL_load_6 (nz_r z1) rfl ?_
    refine V_lastore (q := 8) g dL_load_7 rfl ho (by decide) (by decide) ?_
    refine V_goto g dL_load_8 (tgt := 14) (by decide) ?_
    refine V_iconst (q := 15) g dL_load_14 rfl ?_
    exact V_ireturnX g r rfl dL_load_15 rfl (Or.inl ⟨rfl, z1, M1, e1, rfl⟩)
  · rcases hΞ E1 M1 x1 with rfl
    · refine V_catch (q := 11) g r [] ⟨0, 8, 11, 15⟩ [] rfl (fun z hz => nomatch hz) rfl (by decide) cl_IS rfl (fun qa => ?_)
      refine V_astore_n_2 (q := 12) g dL_load_11 (by decide) rfl rfl ?_
      refine V_iconst (q := 13) g dL_load_12 rfl ?_
      exact V_ireturnX g r rfl dL_load_13 rfl (Or.inr (⟨rfl, x1⟩))
abbrev rm_L_about : Room := { frames := 7, cells := 1, slots := 6, locals := 111 }
set_option maxHeartbeats 4000000 in
set_option maxRecDepth 100000 in
theorem h_about (l : Launch) {D : DD} {Λ : LY} {M : MM} {s o : Nat} {fl : List (Option Nat)} {a1 : Int} {Ψ : Int → MM → Prop} {Ξ : String → MM → Prop} (hM : CXI l yX4_about cX4_about 2 .int rm_X4_about [.ref s, vi a1] D Λ M Ψ Ξ) (hs : Λ s = some (kO 4 fl)) (ho : Λ o = some (kJ D 1)) (hΞ : ∀ E M1, Ξ E M1 → E = xIA) : CXH l yL_about cL_about 4 .int [(0, 9, 12, 13)] rm_L_about [.ref s, vi a1, .ref o] D Λ M (fun z M1 => (z = 0 ∧ ∃ v M2, Ψ v M2 ∧ wr M2 o 0 (nz v) = M1) ∨ (z = 1 ∧ Ξ xIA M1)) := by
  refine CXH_of rfl rfl (Nat.le_of_ble_eq_true rfl) (fun Γ g r => ?_)
  refine V_aload_n (q := 1) g dL_about_0 rfl rfl ?_
  refine V_iconst (q := 2) g dL_about_1 rfl ?_
  refine V_aload_n (q := 3) g dL_about_2 rfl rfl ?_
  refine V_iload_n (q := 4) g dL_about_3 rfl rfl ?_
  refine V_callVXI_1 (q := 7) g hM dL_about_4 k_L_21 hs rfl rfl rfl rfl rfl (fun z1 M1 e1 => ?_) (fun E1 M1 x1 => ?_)
  · rw [vi_nz z1]
    refine V_i2l (q := 8) g dL_about_7 (nz_r z1) rfl ?_
    refine V_lastore (q := 9) g dL_about_8 rfl ho (by decide) (by decide) ?_
    refine V_goto g dL_about_9 (tgt := 15) (by decide) ?_
    refine V_iconst (q := 16) g dL_about_15 rfl ?_
    exact V_ireturnX g r rfl dL_about_16 rfl (Or.inl ⟨rfl, z1, M1, e1, rfl⟩)
  · rcases hΞ E1 M1 x1 with rfl
    · refine V_catch (q := 12) g r [] ⟨0, 9, 12, 13⟩ [] rfl (fun z hz => nomatch hz) rfl (by decide) cl_IA rfl (fun qa => ?_)
      refine V_astore_n_3 (q := 13) g dL_about_12 (by decide) rfl rfl ?_
      refine V_iconst (q := 14) g dL_about_13 rfl ?_
      exact V_ireturnX g r rfl dL_about_14 rfl (Or.inr (⟨rfl, x1⟩))
abbrev rm_L_chairOf : Room := { frames := 8, cells := 2, slots := 12, locals := 133 }
set_option maxHeartbeats 4000000 in
set_option maxRecDepth 100000 in
theorem h_chairOf (l : Launch) {D : DD} {Λ : LY} {M : MM} {s o : Nat} {fl : List (Option Nat)} {a1 a2 : Int} {Ψ : Int → MM → Prop} {Ξ : String → MM → Prop} (hM : CXI l yX4_chairOf cX4_chairOf 3 .int rm_X4_chairOf [.ref s, vi a1, vi a2] D Λ M Ψ Ξ) (hs : Λ s = some (kO 4 fl)) (ho : Λ o = some (kJ D 1)) (hΞ : ∀ E M1, Ξ E M1 → E = xIO ∨ E = xIA) : CXH l yL_chairOf cL_chairOf 5 .int [(0, 10, 13, 28), (0, 10, 17, 13)] rm_L_chairOf [.ref s, vi a1, vi a2, .ref o] D Λ M (fun z M1 => (z = 0 ∧ ∃ v M2, Ψ v M2 ∧ wr M2 o 0 (nz v) = M1) ∨ (z = 1 ∧ Ξ xIO M1) ∨ (z = 2 ∧ Ξ xIA M1)) := by
  refine CXH_of rfl rfl (Nat.le_of_ble_eq_true rfl) (fun Γ g r => ?_)
  refine V_aload_n (q := 1) g dL_chairOf_0 rfl rfl ?_
  refine V_iconst (q := 2) g dL_chairOf_1 rfl ?_
  refine V_aload_n (q := 3) g dL_chairOf_2 rfl rfl ?_
  refine V_iload_n (q := 4) g dL_chairOf_3 rfl rfl ?_
  refine V_iload_n (q := 5) g dL_chairOf_4 rfl rfl ?_
  refine V_callVXI_2 (q := 8) g hM dL_chairOf_5 k_L_24 hs rfl rfl rfl rfl rfl (fun z1 M1 e1 => ?_) (fun E1 M1 x1 => ?_)
  · rw [vi_nz z1]
    refine V_i2l (q := 9) g dL_chairOf_8 (nz_r z1) rfl ?_
    refine V_lastore (q := 10) g dL_chairOf_9 rfl ho (by decide) (by decide) ?_
    refine V_goto g dL_chairOf_10 (tgt := 21) (by decide) ?_
    refine V_iconst (q := 22) g dL_chairOf_21 rfl ?_
    exact V_ireturnX g r rfl dL_chairOf_22 rfl (Or.inl ⟨rfl, z1, M1, e1, rfl⟩)
  · rcases hΞ E1 M1 x1 with rfl | rfl
    · refine V_catch (q := 13) g r [] ⟨0, 10, 13, 28⟩ [⟨0, 10, 17, 13⟩] rfl (fun z hz => nomatch hz) rfl (by decide) cl_IO rfl (fun qa => ?_)
      refine V_astore_4 (q := 15) g dL_chairOf_13 (by decide) rfl rfl ?_
      refine V_iconst (q := 16) g dL_chairOf_15 rfl ?_
      exact V_ireturnX g r rfl dL_chairOf_16 rfl (Or.inr (Or.inl ⟨rfl, x1⟩))
    · refine V_catch (q := 17) g r [⟨0, 10, 13, 28⟩] ⟨0, 10, 17, 13⟩ [] rfl (fun z hz => by
        simp only [List.mem_cons, List.not_mem_nil, or_false] at hz
        rcases hz with rfl
        · exact ⟨by decide, xIO, cl_IO, List.mem_of_getElem? (i := 1) rfl⟩) rfl (by decide) cl_IA rfl (fun qa => ?_)
      refine V_astore_4 (q := 19) g dL_chairOf_17 (by decide) rfl rfl ?_
      refine V_iconst (q := 20) g dL_chairOf_19 rfl ?_
      exact V_ireturnX g r rfl dL_chairOf_20 rfl (Or.inr (Or.inr (⟨rfl, x1⟩)))
abbrev rm_L_wobble : Room := { frames := 8, cells := 2, slots := 12, locals := 136 }
set_option maxHeartbeats 4000000 in
set_option maxRecDepth 100000 in
theorem h_wobble (l : Launch) {D : DD} {Λ : LY} {M : MM} {s o : Nat} {fl : List (Option Nat)} {a1 a2 : Int} {Ψ : Int → MM → Prop} {Ξ : String → MM → Prop} (hM : CXI l yX4_wobble cX4_wobble 3 .int rm_X4_wobble [.ref s, vi a1, vi a2] D Λ M Ψ Ξ) (hs : Λ s = some (kO 4 fl)) (ho : Λ o = some (kJ D 1)) (hΞ : ∀ E M1, Ξ E M1 → E = xIO ∨ E = xIA) : CXH l yL_wobble cL_wobble 5 .int [(0, 10, 13, 28), (0, 10, 17, 13)] rm_L_wobble [.ref s, vi a1, vi a2, .ref o] D Λ M (fun z M1 => (z = 0 ∧ ∃ v M2, Ψ v M2 ∧ wr M2 o 0 (nz v) = M1) ∨ (z = 1 ∧ Ξ xIO M1) ∨ (z = 2 ∧ Ξ xIA M1)) := by
  refine CXH_of rfl rfl (Nat.le_of_ble_eq_true rfl) (fun Γ g r => ?_)
  refine V_aload_n (q := 1) g dL_wobble_0 rfl rfl ?_
  refine V_iconst (q := 2) g dL_wobble_1 rfl ?_
  refine V_aload_n (q := 3) g dL_wobble_2 rfl rfl ?_
  refine V_iload_n (q := 4) g dL_wobble_3 rfl rfl ?_
  refine V_iload_n (q := 5) g dL_wobble_4 rfl rfl ?_
  refine V_callVXI_2 (q := 8) g hM dL_wobble_5 k_L_30 hs rfl rfl rfl rfl rfl (fun z1 M1 e1 => ?_) (fun E1 M1 x1 => ?_)
  · rw [vi_nz z1]
    refine V_i2l (q := 9) g dL_wobble_8 (nz_r z1) rfl ?_
    refine V_lastore (q := 10) g dL_wobble_9 rfl ho (by decide) (by decide) ?_
    refine V_goto g dL_wobble_10 (tgt := 21) (by decide) ?_
    refine V_iconst (q := 22) g dL_wobble_21 rfl ?_
    exact V_ireturnX g r rfl dL_wobble_22 rfl (Or.inl ⟨rfl, z1, M1, e1, rfl⟩)
  · rcases hΞ E1 M1 x1 with rfl | rfl
    · refine V_catch (q := 13) g r [] ⟨0, 10, 13, 28⟩ [⟨0, 10, 17, 13⟩] rfl (fun z hz => nomatch hz) rfl (by decide) cl_IO rfl (fun qa => ?_)
      refine V_astore_4 (q := 15) g dL_wobble_13 (by decide) rfl rfl ?_
      refine V_iconst (q := 16) g dL_wobble_15 rfl ?_
      exact V_ireturnX g r rfl dL_wobble_16 rfl (Or.inr (Or.inl ⟨rfl, x1⟩))
    · refine V_catch (q := 17) g r [⟨0, 10, 13, 28⟩] ⟨0, 10, 17, 13⟩ [] rfl (fun z hz => by
        simp only [List.mem_cons, List.not_mem_nil, or_false] at hz
        rcases hz with rfl
        · exact ⟨by decide, xIO, cl_IO, List.mem_of_getElem? (i := 1) rfl⟩) rfl (by decide) cl_IA rfl (fun qa => ?_)
      refine V_astore_4 (q := 19) g dL_wobble_17 (by decide) rfl rfl ?_
      refine V_iconst (q := 20) g dL_wobble_19 rfl ?_
      exact V_ireturnX g r rfl dL_wobble_20 rfl (Or.inr (Or.inr (⟨rfl, x1⟩)))
abbrev rm_L_legOf : Room := { frames := 8, cells := 3, slots := 18, locals := 134 }
set_option maxHeartbeats 4000000 in
set_option maxRecDepth 100000 in
theorem h_legOf (l : Launch) {D : DD} {Λ : LY} {M : MM} {s o : Nat} {fl : List (Option Nat)} {a1 a2 a3 : Int} {Ψ : Int → MM → Prop} {Ξ : String → MM → Prop} (hM : CXI l yX4_legOf cX4_legOf 4 .int rm_X4_legOf [.ref s, vi a1, vi a2, vi a3] D Λ M Ψ Ξ) (hs : Λ s = some (kO 4 fl)) (ho : Λ o = some (kJ D 1)) (hΞ : ∀ E M1, Ξ E M1 → E = xIO ∨ E = xIA) : CXH l yL_legOf cL_legOf 6 .int [(0, 12, 15, 28), (0, 12, 19, 13)] rm_L_legOf [.ref s, vi a1, vi a2, vi a3, .ref o] D Λ M (fun z M1 => (z = 0 ∧ ∃ v M2, Ψ v M2 ∧ wr M2 o 0 (nz v) = M1) ∨ (z = 1 ∧ Ξ xIO M1) ∨ (z = 2 ∧ Ξ xIA M1)) := by
  refine CXH_of rfl rfl (Nat.le_of_ble_eq_true rfl) (fun Γ g r => ?_)
  refine V_aload (q := 2) g dL_legOf_0 rfl rfl ?_
  refine V_iconst (q := 3) g dL_legOf_2 rfl ?_
  refine V_aload_n (q := 4) g dL_legOf_3 rfl rfl ?_
  refine V_iload_n (q := 5) g dL_legOf_4 rfl rfl ?_
  refine V_iload_n (q := 6) g dL_legOf_5 rfl rfl ?_
  refine V_iload_n (q := 7) g dL_legOf_6 rfl rfl ?_
  refine V_callVXI_3 (q := 10) g hM dL_legOf_7 k_L_33 hs rfl rfl rfl rfl rfl (fun z1 M1 e1 => ?_) (fun E1 M1 x1 => ?_)
  · rw [vi_nz z1]
    refine V_i2l (q := 11) g dL_legOf_10 (nz_r z1) rfl ?_
    refine V_lastore (q := 12) g dL_legOf_11 rfl ho (by decide) (by decide) ?_
    refine V_goto g dL_legOf_12 (tgt := 23) (by decide) ?_
    refine V_iconst (q := 24) g dL_legOf_23 rfl ?_
    exact V_ireturnX g r rfl dL_legOf_24 rfl (Or.inl ⟨rfl, z1, M1, e1, rfl⟩)
  · rcases hΞ E1 M1 x1 with rfl | rfl
    · refine V_catch (q := 15) g r [] ⟨0, 12, 15, 28⟩ [⟨0, 12, 19, 13⟩] rfl (fun z hz => nomatch hz) rfl (by decide) cl_IO rfl (fun qa => ?_)
      refine V_astore_5 (q := 17) g dL_legOf_15 (by decide) rfl rfl ?_
      refine V_iconst (q := 18) g dL_legOf_17 rfl ?_
      exact V_ireturnX g r rfl dL_legOf_18 rfl (Or.inr (Or.inl ⟨rfl, x1⟩))
    · refine V_catch (q := 19) g r [⟨0, 12, 15, 28⟩] ⟨0, 12, 19, 13⟩ [] rfl (fun z hz => by
        simp only [List.mem_cons, List.not_mem_nil, or_false] at hz
        rcases hz with rfl
        · exact ⟨by decide, xIO, cl_IO, List.mem_of_getElem? (i := 1) rfl⟩) rfl (by decide) cl_IA rfl (fun qa => ?_)
      refine V_astore_5 (q := 21) g dL_legOf_19 (by decide) rfl rfl ?_
      refine V_iconst (q := 22) g dL_legOf_21 rfl ?_
      exact V_ireturnX g r rfl dL_legOf_22 rfl (Or.inr (Or.inr (⟨rfl, x1⟩)))
abbrev rm_L_spot : Room := { frames := 8, cells := 2, slots := 12, locals := 133 }
set_option maxHeartbeats 4000000 in
set_option maxRecDepth 100000 in
theorem h_spot (l : Launch) {D : DD} {Λ : LY} {M : MM} {s o : Nat} {fl : List (Option Nat)} {a1 a2 : Int} {Ψ : Int → MM → Prop} {Ξ : String → MM → Prop} (hM : CXI l yX4_spot cX4_spot 3 .int rm_X4_spot [.ref s, vi a1, vi a2] D Λ M Ψ Ξ) (hs : Λ s = some (kO 4 fl)) (ho : Λ o = some (kJ D 1)) (hΞ : ∀ E M1, Ξ E M1 → E = xIO) : CXH l yL_spot cL_spot 5 .int [(0, 10, 13, 28)] rm_L_spot [.ref s, vi a1, vi a2, .ref o] D Λ M (fun z M1 => (z = 0 ∧ ∃ v M2, Ψ v M2 ∧ wr M2 o 0 (nz v) = M1) ∨ (z = 1 ∧ Ξ xIO M1)) := by
  refine CXH_of rfl rfl (Nat.le_of_ble_eq_true rfl) (fun Γ g r => ?_)
  refine V_aload_n (q := 1) g dL_spot_0 rfl rfl ?_
  refine V_iconst (q := 2) g dL_spot_1 rfl ?_
  refine V_aload_n (q := 3) g dL_spot_2 rfl rfl ?_
  refine V_iload_n (q := 4) g dL_spot_3 rfl rfl ?_
  refine V_iload_n (q := 5) g dL_spot_4 rfl rfl ?_
  refine V_callVXI_2 (q := 8) g hM dL_spot_5 k_L_37 hs rfl rfl rfl rfl rfl (fun z1 M1 e1 => ?_) (fun E1 M1 x1 => ?_)
  · rw [vi_nz z1]
    refine V_i2l (q := 9) g dL_spot_8 (nz_r z1) rfl ?_
    refine V_lastore (q := 10) g dL_spot_9 rfl ho (by decide) (by decide) ?_
    refine V_goto g dL_spot_10 (tgt := 17) (by decide) ?_
    refine V_iconst (q := 18) g dL_spot_17 rfl ?_
    exact V_ireturnX g r rfl dL_spot_18 rfl (Or.inl ⟨rfl, z1, M1, e1, rfl⟩)
  · rcases hΞ E1 M1 x1 with rfl
    · refine V_catch (q := 13) g r [] ⟨0, 10, 13, 28⟩ [] rfl (fun z hz => nomatch hz) rfl (by decide) cl_IO rfl (fun qa => ?_)
      refine V_astore_4 (q := 15) g dL_spot_13 (by decide) rfl rfl ?_
      refine V_iconst (q := 16) g dL_spot_15 rfl ?_
      exact V_ireturnX g r rfl dL_spot_16 rfl (Or.inr (⟨rfl, x1⟩))
abbrev rm_L_boundOf : Room := { frames := 8, cells := 2, slots := 12, locals := 132 }
set_option maxHeartbeats 4000000 in
set_option maxRecDepth 100000 in
theorem h_boundOf (l : Launch) {D : DD} {Λ : LY} {M : MM} {s o : Nat} {fl : List (Option Nat)} {a1 a2 : Int} {Ψ : Int → MM → Prop} {Ξ : String → MM → Prop} (hM : CXI l yX4_boundOf cX4_boundOf 3 .int rm_X4_boundOf [.ref s, vi a1, vi a2] D Λ M Ψ Ξ) (hs : Λ s = some (kO 4 fl)) (ho : Λ o = some (kJ D 1)) (hΞ : ∀ E M1, Ξ E M1 → E = xIO) : CXH l yL_boundOf cL_boundOf 5 .int [(0, 10, 13, 28)] rm_L_boundOf [.ref s, vi a1, vi a2, .ref o] D Λ M (fun z M1 => (z = 0 ∧ ∃ v M2, Ψ v M2 ∧ wr M2 o 0 (nz v) = M1) ∨ (z = 1 ∧ Ξ xIO M1)) := by
  refine CXH_of rfl rfl (Nat.le_of_ble_eq_true rfl) (fun Γ g r => ?_)
  refine V_aload_n (q := 1) g dL_boundOf_0 rfl rfl ?_
  refine V_iconst (q := 2) g dL_boundOf_1 rfl ?_
  refine V_aload_n (q := 3) g dL_boundOf_2 rfl rfl ?_
  refine V_iload_n (q := 4) g dL_boundOf_3 rfl rfl ?_
  refine V_iload_n (q := 5) g dL_boundOf_4 rfl rfl ?_
  refine V_callVXI_2 (q := 8) g hM dL_boundOf_5 k_L_40 hs rfl rfl rfl rfl rfl (fun z1 M1 e1 => ?_) (fun E1 M1 x1 => ?_)
  · rw [vi_nz z1]
    refine V_i2l (q := 9) g dL_boundOf_8 (nz_r z1) rfl ?_
    refine V_lastore (q := 10) g dL_boundOf_9 rfl ho (by decide) (by decide) ?_
    refine V_goto g dL_boundOf_10 (tgt := 17) (by decide) ?_
    refine V_iconst (q := 18) g dL_boundOf_17 rfl ?_
    exact V_ireturnX g r rfl dL_boundOf_18 rfl (Or.inl ⟨rfl, z1, M1, e1, rfl⟩)
  · rcases hΞ E1 M1 x1 with rfl
    · refine V_catch (q := 13) g r [] ⟨0, 10, 13, 28⟩ [] rfl (fun z hz => nomatch hz) rfl (by decide) cl_IO rfl (fun qa => ?_)
      refine V_astore_4 (q := 15) g dL_boundOf_13 (by decide) rfl rfl ?_
      refine V_iconst (q := 16) g dL_boundOf_15 rfl ?_
      exact V_ireturnX g r rfl dL_boundOf_16 rfl (Or.inr (⟨rfl, x1⟩))
abbrev rm_L_setting : Room := { frames := 7, cells := 1, slots := 6, locals := 111 }
set_option maxHeartbeats 4000000 in
set_option maxRecDepth 100000 in
theorem h_setting (l : Launch) {D : DD} {Λ : LY} {M : MM} {s o : Nat} {fl : List (Option Nat)} {a1 : Int} {Ψ : Int → MM → Prop} {Ξ : String → MM → Prop} (hM : CXI l yX4_setting cX4_setting 2 .int rm_X4_setting [.ref s, vi a1] D Λ M Ψ Ξ) (hs : Λ s = some (kO 4 fl)) (ho : Λ o = some (kJ D 1)) (hΞ : ∀ E M1, Ξ E M1 → E = xIA) : CXH l yL_setting cL_setting 4 .int [(0, 9, 12, 13)] rm_L_setting [.ref s, vi a1, .ref o] D Λ M (fun z M1 => (z = 0 ∧ ∃ v M2, Ψ v M2 ∧ wr M2 o 0 (nz v) = M1) ∨ (z = 1 ∧ Ξ xIA M1)) := by
  refine CXH_of rfl rfl (Nat.le_of_ble_eq_true rfl) (fun Γ g r => ?_)
  refine V_aload_n (q := 1) g dL_setting_0 rfl rfl ?_
  refine V_iconst (q := 2) g dL_setting_1 rfl ?_
  refine V_aload_n (q := 3) g dL_setting_2 rfl rfl ?_
  refine V_iload_n (q := 4) g dL_setting_3 rfl rfl ?_
  refine V_callVXI_1 (q := 7) g hM dL_setting_4 k_L_43 hs rfl rfl rfl rfl rfl (fun z1 M1 e1 => ?_) (fun E1 M1 x1 => ?_)
  · rw [vi_nz z1]
    refine V_i2l (q := 8) g dL_setting_7 (nz_r z1) rfl ?_
    refine V_lastore (q := 9) g dL_setting_8 rfl ho (by decide) (by decide) ?_
    refine V_goto g dL_setting_9 (tgt := 15) (by decide) ?_
    refine V_iconst (q := 16) g dL_setting_15 rfl ?_
    exact V_ireturnX g r rfl dL_setting_16 rfl (Or.inl ⟨rfl, z1, M1, e1, rfl⟩)
  · rcases hΞ E1 M1 x1 with rfl
    · refine V_catch (q := 12) g r [] ⟨0, 9, 12, 13⟩ [] rfl (fun z hz => nomatch hz) rfl (by decide) cl_IA rfl (fun qa => ?_)
      refine V_astore_n_3 (q := 13) g dL_setting_12 (by decide) rfl rfl ?_
      refine V_iconst (q := 14) g dL_setting_13 rfl ?_
      exact V_ireturnX g r rfl dL_setting_14 rfl (Or.inr (⟨rfl, x1⟩))
abbrev rm_L_chair : Room := { frames := 8, cells := 1, slots := 6, locals := 133 }
set_option maxHeartbeats 4000000 in
set_option maxRecDepth 100000 in
theorem h_chair (l : Launch) {D : DD} {Λ : LY} {M : MM} {s o : Nat} {fl : List (Option Nat)} {a1 a2 : Int} {Ψ : Int → MM → Prop} {Ξ : String → MM → Prop} (hM : CXI l yX4_chair cX4_chair 3 .int rm_X4_chair [.ref s, vi a1, vi a2] D Λ M Ψ Ξ) (hs : Λ s = some (kO 4 fl)) (ho : Λ o = some (kJ D 1)) (hΞ : ∀ E M1, Ξ E M1 → E = xIO ∨ E = xIA ∨ E = xIS) : CXH l yL_chair cL_chair 5 .int [(0, 10, 13, 28), (0, 10, 17, 13), (0, 10, 21, 15)] rm_L_chair [.ref s, vi a1, vi a2, .ref o] D Λ M (fun z M1 => (z = 0 ∧ ∃ v M2, Ψ v M2 ∧ wr M2 o 0 (nz v) = M1) ∨ (z = 1 ∧ Ξ xIO M1) ∨ (z = 2 ∧ Ξ xIA M1) ∨ (z = 3 ∧ Ξ xIS M1)) := by
  refine CXH_of rfl rfl (Nat.le_of_ble_eq_true rfl) (fun Γ g r => ?_)
  refine V_aload_n (q := 1) g dL_chair_0 rfl rfl ?_
  refine V_iconst (q := 2) g dL_chair_1 rfl ?_
  refine V_aload_n (q := 3) g dL_chair_2 rfl rfl ?_
  refine V_iload_n (q := 4) g dL_chair_3 rfl rfl ?_
  refine V_iload_n (q := 5) g dL_chair_4 rfl rfl ?_
  refine V_callVXI_2 (q := 8) g hM dL_chair_5 k_L_46 hs rfl rfl rfl rfl rfl (fun z1 M1 e1 => ?_) (fun E1 M1 x1 => ?_)
  · rw [vi_nz z1]
    refine V_i2l (q := 9) g dL_chair_8 (nz_r z1) rfl ?_
    refine V_lastore (q := 10) g dL_chair_9 rfl ho (by decide) (by decide) ?_
    refine V_goto g dL_chair_10 (tgt := 25) (by decide) ?_
    refine V_iconst (q := 26) g dL_chair_25 rfl ?_
    exact V_ireturnX g r rfl dL_chair_26 rfl (Or.inl ⟨rfl, z1, M1, e1, rfl⟩)
  · rcases hΞ E1 M1 x1 with rfl | rfl | rfl
    · refine V_catch (q := 13) g r [] ⟨0, 10, 13, 28⟩ [⟨0, 10, 17, 13⟩, ⟨0, 10, 21, 15⟩] rfl (fun z hz => nomatch hz) rfl (by decide) cl_IO rfl (fun qa => ?_)
      refine V_astore_4 (q := 15) g dL_chair_13 (by decide) rfl rfl ?_
      refine V_iconst (q := 16) g dL_chair_15 rfl ?_
      exact V_ireturnX g r rfl dL_chair_16 rfl (Or.inr (Or.inl ⟨rfl, x1⟩))
    · refine V_catch (q := 17) g r [⟨0, 10, 13, 28⟩] ⟨0, 10, 17, 13⟩ [⟨0, 10, 21, 15⟩] rfl (fun z hz => by
        simp only [List.mem_cons, List.not_mem_nil, or_false] at hz
        rcases hz with rfl
        · exact ⟨by decide, xIO, cl_IO, List.mem_of_getElem? (i := 1) rfl⟩) rfl (by decide) cl_IA rfl (fun qa => ?_)
      refine V_astore_4 (q := 19) g dL_chair_17 (by decide) rfl rfl ?_
      refine V_iconst (q := 20) g dL_chair_19 rfl ?_
      exact V_ireturnX g r rfl dL_chair_20 rfl (Or.inr (Or.inr (Or.inl ⟨rfl, x1⟩)))
    · refine V_catch (q := 21) g r [⟨0, 10, 13, 28⟩, ⟨0, 10, 17, 13⟩] ⟨0, 10, 21, 15⟩ [] rfl (fun z hz => by
        simp only [List.mem_cons, List.not_mem_nil, or_false] at hz
        rcases hz with rfl | rfl
        · exact ⟨by decide, xIO, cl_IO, List.mem_of_getElem? (i := 3) rfl⟩
        · exact ⟨by decide, xIA, cl_IA, List.mem_of_getElem? (i := 2) rfl⟩) rfl (by decide) cl_IS rfl (fun qa => ?_)
      refine V_astore_4 (q := 23) g dL_chair_21 (by decide) rfl rfl ?_
      refine V_iconst (q := 24) g dL_chair_23 rfl ?_
      exact V_ireturnX g r rfl dL_chair_24 rfl (Or.inr (Or.inr (Or.inr (⟨rfl, x1⟩))))
abbrev rm_L_floor : Room := { frames := 8, cells := 1, slots := 6, locals := 135 }
set_option maxHeartbeats 4000000 in
set_option maxRecDepth 100000 in
theorem h_floor (l : Launch) {D : DD} {Λ : LY} {M : MM} {s o : Nat} {fl : List (Option Nat)} {a1 a2 a3 a4 : Int} {Ψ : Int → MM → Prop} {Ξ : String → MM → Prop} (hM : CXI l yX4_floor cX4_floor 5 .int rm_X4_floor [.ref s, vi a1, vi a2, vi a3, vi a4] D Λ M Ψ Ξ) (hs : Λ s = some (kO 4 fl)) (ho : Λ o = some (kJ D 1)) (hΞ : ∀ E M1, Ξ E M1 → E = xIA ∨ E = xIS) : CXH l yL_floor cL_floor 7 .int [(0, 14, 17, 13), (0, 14, 21, 15)] rm_L_floor [.ref s, vi a1, vi a2, vi a3, vi a4, .ref o] D Λ M (fun z M1 => (z = 0 ∧ ∃ v M2, Ψ v M2 ∧ wr M2 o 0 (nz v) = M1) ∨ (z = 1 ∧ Ξ xIA M1) ∨ (z = 2 ∧ Ξ xIS M1)) := by
  refine CXH_of rfl rfl (Nat.le_of_ble_eq_true rfl) (fun Γ g r => ?_)
  refine V_aload (q := 2) g dL_floor_0 rfl rfl ?_
  refine V_iconst (q := 3) g dL_floor_2 rfl ?_
  refine V_aload_n (q := 4) g dL_floor_3 rfl rfl ?_
  refine V_iload_n (q := 5) g dL_floor_4 rfl rfl ?_
  refine V_iload_n (q := 6) g dL_floor_5 rfl rfl ?_
  refine V_iload_n (q := 7) g dL_floor_6 rfl rfl ?_
  refine V_iload (q := 9) g dL_floor_7 rfl rfl ?_
  refine V_callVXI_4 (q := 12) g hM dL_floor_9 k_L_49 hs rfl rfl rfl rfl rfl (fun z1 M1 e1 => ?_) (fun E1 M1 x1 => ?_)
  · rw [vi_nz z1]
    refine V_i2l (q := 13) g dL_floor_12 (nz_r z1) rfl ?_
    refine V_lastore (q := 14) g dL_floor_13 rfl ho (by decide) (by decide) ?_
    refine V_goto g dL_floor_14 (tgt := 25) (by decide) ?_
    refine V_iconst (q := 26) g dL_floor_25 rfl ?_
    exact V_ireturnX g r rfl dL_floor_26 rfl (Or.inl ⟨rfl, z1, M1, e1, rfl⟩)
  · rcases hΞ E1 M1 x1 with rfl | rfl
    · refine V_catch (q := 17) g r [] ⟨0, 14, 17, 13⟩ [⟨0, 14, 21, 15⟩] rfl (fun z hz => nomatch hz) rfl (by decide) cl_IA rfl (fun qa => ?_)
      refine V_astore_6 (q := 19) g dL_floor_17 (by decide) rfl rfl ?_
      refine V_iconst (q := 20) g dL_floor_19 rfl ?_
      exact V_ireturnX g r rfl dL_floor_20 rfl (Or.inr (Or.inl ⟨rfl, x1⟩))
    · refine V_catch (q := 21) g r [⟨0, 14, 17, 13⟩] ⟨0, 14, 21, 15⟩ [] rfl (fun z hz => by
        simp only [List.mem_cons, List.not_mem_nil, or_false] at hz
        rcases hz with rfl
        · exact ⟨by decide, xIA, cl_IA, List.mem_of_getElem? (i := 2) rfl⟩) rfl (by decide) cl_IS rfl (fun qa => ?_)
      refine V_astore_6 (q := 23) g dL_floor_21 (by decide) rfl rfl ?_
      refine V_iconst (q := 24) g dL_floor_23 rfl ?_
      exact V_ireturnX g r rfl dL_floor_24 rfl (Or.inr (Or.inr (⟨rfl, x1⟩)))
abbrev rm_L_level : Room := { frames := 8, cells := 1, slots := 6, locals := 134 }
set_option maxHeartbeats 4000000 in
set_option maxRecDepth 100000 in
theorem h_level (l : Launch) {D : DD} {Λ : LY} {M : MM} {s o : Nat} {fl : List (Option Nat)} {a1 a2 a3 : Int} {Ψ : Int → MM → Prop} {Ξ : String → MM → Prop} (hM : CXI l yX4_level cX4_level 4 .int rm_X4_level [.ref s, vi a1, vi a2, vi a3] D Λ M Ψ Ξ) (hs : Λ s = some (kO 4 fl)) (ho : Λ o = some (kJ D 1)) (hΞ : ∀ E M1, Ξ E M1 → E = xIO ∨ E = xIA) : CXH l yL_level cL_level 6 .int [(0, 12, 15, 28), (0, 12, 19, 13)] rm_L_level [.ref s, vi a1, vi a2, vi a3, .ref o] D Λ M (fun z M1 => (z = 0 ∧ ∃ v M2, Ψ v M2 ∧ wr M2 o 0 (nz v) = M1) ∨ (z = 1 ∧ Ξ xIO M1) ∨ (z = 2 ∧ Ξ xIA M1)) := by
  refine CXH_of rfl rfl (Nat.le_of_ble_eq_true rfl) (fun Γ g r => ?_)
  refine V_aload (q := 2) g dL_level_0 rfl rfl ?_
  refine V_iconst (q := 3) g dL_level_2 rfl ?_
  refine V_aload_n (q := 4) g dL_level_3 rfl rfl ?_
  refine V_iload_n (q := 5) g dL_level_4 rfl rfl ?_
  refine V_iload_n (q := 6) g dL_level_5 rfl rfl ?_
  refine V_iload_n (q := 7) g dL_level_6 rfl rfl ?_
  refine V_callVXI_3 (q := 10) g hM dL_level_7 k_L_53 hs rfl rfl rfl rfl rfl (fun z1 M1 e1 => ?_) (fun E1 M1 x1 => ?_)
  · rw [vi_nz z1]
    refine V_i2l (q := 11) g dL_level_10 (nz_r z1) rfl ?_
    refine V_lastore (q := 12) g dL_level_11 rfl ho (by decide) (by decide) ?_
    refine V_goto g dL_level_12 (tgt := 23) (by decide) ?_
    refine V_iconst (q := 24) g dL_level_23 rfl ?_
    exact V_ireturnX g r rfl dL_level_24 rfl (Or.inl ⟨rfl, z1, M1, e1, rfl⟩)
  · rcases hΞ E1 M1 x1 with rfl | rfl
    · refine V_catch (q := 15) g r [] ⟨0, 12, 15, 28⟩ [⟨0, 12, 19, 13⟩] rfl (fun z hz => nomatch hz) rfl (by decide) cl_IO rfl (fun qa => ?_)
      refine V_astore_5 (q := 17) g dL_level_15 (by decide) rfl rfl ?_
      refine V_iconst (q := 18) g dL_level_17 rfl ?_
      exact V_ireturnX g r rfl dL_level_18 rfl (Or.inr (Or.inl ⟨rfl, x1⟩))
    · refine V_catch (q := 19) g r [⟨0, 12, 15, 28⟩] ⟨0, 12, 19, 13⟩ [] rfl (fun z hz => by
        simp only [List.mem_cons, List.not_mem_nil, or_false] at hz
        rcases hz with rfl
        · exact ⟨by decide, xIO, cl_IO, List.mem_of_getElem? (i := 1) rfl⟩) rfl (by decide) cl_IA rfl (fun qa => ?_)
      refine V_astore_5 (q := 21) g dL_level_19 (by decide) rfl rfl ?_
      refine V_iconst (q := 22) g dL_level_21 rfl ?_
      exact V_ireturnX g r rfl dL_level_22 rfl (Or.inr (Or.inr (⟨rfl, x1⟩)))
abbrev rm_L_bring : Room := { frames := 8, cells := 1, slots := 6, locals := 134 }
set_option maxHeartbeats 4000000 in
set_option maxRecDepth 100000 in
theorem h_bring (l : Launch) {D : DD} {Λ : LY} {M : MM} {s o : Nat} {fl : List (Option Nat)} {a1 a2 a3 : Int} {Ψ : Int → MM → Prop} {Ξ : String → MM → Prop} (hM : CXI l yX4_bring cX4_bring 4 .int rm_X4_bring [.ref s, vi a1, vi a2, vi a3] D Λ M Ψ Ξ) (hs : Λ s = some (kO 4 fl)) (ho : Λ o = some (kJ D 1)) (hΞ : ∀ E M1, Ξ E M1 → E = xIO ∨ E = xIA) : CXH l yL_bring cL_bring 6 .int [(0, 12, 15, 28), (0, 12, 19, 13)] rm_L_bring [.ref s, vi a1, vi a2, vi a3, .ref o] D Λ M (fun z M1 => (z = 0 ∧ ∃ v M2, Ψ v M2 ∧ wr M2 o 0 (nz v) = M1) ∨ (z = 1 ∧ Ξ xIO M1) ∨ (z = 2 ∧ Ξ xIA M1)) := by
  refine CXH_of rfl rfl (Nat.le_of_ble_eq_true rfl) (fun Γ g r => ?_)
  refine V_aload (q := 2) g dL_bring_0 rfl rfl ?_
  refine V_iconst (q := 3) g dL_bring_2 rfl ?_
  refine V_aload_n (q := 4) g dL_bring_3 rfl rfl ?_
  refine V_iload_n (q := 5) g dL_bring_4 rfl rfl ?_
  refine V_iload_n (q := 6) g dL_bring_5 rfl rfl ?_
  refine V_iload_n (q := 7) g dL_bring_6 rfl rfl ?_
  refine V_callVXI_3 (q := 10) g hM dL_bring_7 k_L_56 hs rfl rfl rfl rfl rfl (fun z1 M1 e1 => ?_) (fun E1 M1 x1 => ?_)
  · rw [vi_nz z1]
    refine V_i2l (q := 11) g dL_bring_10 (nz_r z1) rfl ?_
    refine V_lastore (q := 12) g dL_bring_11 rfl ho (by decide) (by decide) ?_
    refine V_goto g dL_bring_12 (tgt := 23) (by decide) ?_
    refine V_iconst (q := 24) g dL_bring_23 rfl ?_
    exact V_ireturnX g r rfl dL_bring_24 rfl (Or.inl ⟨rfl, z1, M1, e1, rfl⟩)
  · rcases hΞ E1 M1 x1 with rfl | rfl
    · refine V_catch (q := 15) g r [] ⟨0, 12, 15, 28⟩ [⟨0, 12, 19, 13⟩] rfl (fun z hz => nomatch hz) rfl (by decide) cl_IO rfl (fun qa => ?_)
      refine V_astore_5 (q := 17) g dL_bring_15 (by decide) rfl rfl ?_
      refine V_iconst (q := 18) g dL_bring_17 rfl ?_
      exact V_ireturnX g r rfl dL_bring_18 rfl (Or.inr (Or.inl ⟨rfl, x1⟩))
    · refine V_catch (q := 19) g r [⟨0, 12, 15, 28⟩] ⟨0, 12, 19, 13⟩ [] rfl (fun z hz => by
        simp only [List.mem_cons, List.not_mem_nil, or_false] at hz
        rcases hz with rfl
        · exact ⟨by decide, xIO, cl_IO, List.mem_of_getElem? (i := 1) rfl⟩) rfl (by decide) cl_IA rfl (fun qa => ?_)
      refine V_astore_5 (q := 21) g dL_bring_19 (by decide) rfl rfl ?_
      refine V_iconst (q := 22) g dL_bring_21 rfl ?_
      exact V_ireturnX g r rfl dL_bring_22 rfl (Or.inr (Or.inr (⟨rfl, x1⟩)))
abbrev rm_L_saw : Room := { frames := 8, cells := 1, slots := 6, locals := 134 }
set_option maxHeartbeats 4000000 in
set_option maxRecDepth 100000 in
theorem h_saw (l : Launch) {D : DD} {Λ : LY} {M : MM} {s o : Nat} {fl : List (Option Nat)} {a1 a2 a3 : Int} {Ψ : Int → MM → Prop} {Ξ : String → MM → Prop} (hM : CXI l yX4_saw cX4_saw 4 .int rm_X4_saw [.ref s, vi a1, vi a2, vi a3] D Λ M Ψ Ξ) (hs : Λ s = some (kO 4 fl)) (ho : Λ o = some (kJ D 1)) (hΞ : ∀ E M1, Ξ E M1 → E = xIO ∨ E = xIA ∨ E = xIS) : CXH l yL_saw cL_saw 6 .int [(0, 12, 15, 28), (0, 12, 19, 13), (0, 12, 23, 15)] rm_L_saw [.ref s, vi a1, vi a2, vi a3, .ref o] D Λ M (fun z M1 => (z = 0 ∧ ∃ v M2, Ψ v M2 ∧ wr M2 o 0 (nz v) = M1) ∨ (z = 1 ∧ Ξ xIO M1) ∨ (z = 2 ∧ Ξ xIA M1) ∨ (z = 3 ∧ Ξ xIS M1)) := by
  refine CXH_of rfl rfl (Nat.le_of_ble_eq_true rfl) (fun Γ g r => ?_)
  refine V_aload (q := 2) g dL_saw_0 rfl rfl ?_
  refine V_iconst (q := 3) g dL_saw_2 rfl ?_
  refine V_aload_n (q := 4) g dL_saw_3 rfl rfl ?_
  refine V_iload_n (q := 5) g dL_saw_4 rfl rfl ?_
  refine V_iload_n (q := 6) g dL_saw_5 rfl rfl ?_
  refine V_iload_n (q := 7) g dL_saw_6 rfl rfl ?_
  refine V_callVXI_3 (q := 10) g hM dL_saw_7 k_L_59 hs rfl rfl rfl rfl rfl (fun z1 M1 e1 => ?_) (fun E1 M1 x1 => ?_)
  · rw [vi_nz z1]
    refine V_i2l (q := 11) g dL_saw_10 (nz_r z1) rfl ?_
    refine V_lastore (q := 12) g dL_saw_11 rfl ho (by decide) (by decide) ?_
    refine V_goto g dL_saw_12 (tgt := 27) (by decide) ?_
    refine V_iconst (q := 28) g dL_saw_27 rfl ?_
    exact V_ireturnX g r rfl dL_saw_28 rfl (Or.inl ⟨rfl, z1, M1, e1, rfl⟩)
  · rcases hΞ E1 M1 x1 with rfl | rfl | rfl
    · refine V_catch (q := 15) g r [] ⟨0, 12, 15, 28⟩ [⟨0, 12, 19, 13⟩, ⟨0, 12, 23, 15⟩] rfl (fun z hz => nomatch hz) rfl (by decide) cl_IO rfl (fun qa => ?_)
      refine V_astore_5 (q := 17) g dL_saw_15 (by decide) rfl rfl ?_
      refine V_iconst (q := 18) g dL_saw_17 rfl ?_
      exact V_ireturnX g r rfl dL_saw_18 rfl (Or.inr (Or.inl ⟨rfl, x1⟩))
    · refine V_catch (q := 19) g r [⟨0, 12, 15, 28⟩] ⟨0, 12, 19, 13⟩ [⟨0, 12, 23, 15⟩] rfl (fun z hz => by
        simp only [List.mem_cons, List.not_mem_nil, or_false] at hz
        rcases hz with rfl
        · exact ⟨by decide, xIO, cl_IO, List.mem_of_getElem? (i := 1) rfl⟩) rfl (by decide) cl_IA rfl (fun qa => ?_)
      refine V_astore_5 (q := 21) g dL_saw_19 (by decide) rfl rfl ?_
      refine V_iconst (q := 22) g dL_saw_21 rfl ?_
      exact V_ireturnX g r rfl dL_saw_22 rfl (Or.inr (Or.inr (Or.inl ⟨rfl, x1⟩)))
    · refine V_catch (q := 23) g r [⟨0, 12, 15, 28⟩, ⟨0, 12, 19, 13⟩] ⟨0, 12, 23, 15⟩ [] rfl (fun z hz => by
        simp only [List.mem_cons, List.not_mem_nil, or_false] at hz
        rcases hz with rfl | rfl
        · exact ⟨by decide, xIO, cl_IO, List.mem_of_getElem? (i := 3) rfl⟩
        · exact ⟨by decide, xIA, cl_IA, List.mem_of_getElem? (i := 2) rfl⟩) rfl (by decide) cl_IS rfl (fun qa => ?_)
      refine V_astore_5 (q := 25) g dL_saw_23 (by decide) rfl rfl ?_
      refine V_iconst (q := 26) g dL_saw_25 rfl ?_
      exact V_ireturnX g r rfl dL_saw_26 rfl (Or.inr (Or.inr (Or.inr (⟨rfl, x1⟩))))
abbrev rm_L_shim : Room := { frames := 8, cells := 1, slots := 6, locals := 134 }
set_option maxHeartbeats 4000000 in
set_option maxRecDepth 100000 in
theorem h_shim (l : Launch) {D : DD} {Λ : LY} {M : MM} {s o : Nat} {fl : List (Option Nat)} {a1 a2 a3 : Int} {Ψ : Int → MM → Prop} {Ξ : String → MM → Prop} (hM : CXI l yX4_shim cX4_shim 4 .int rm_X4_shim [.ref s, vi a1, vi a2, vi a3] D Λ M Ψ Ξ) (hs : Λ s = some (kO 4 fl)) (ho : Λ o = some (kJ D 1)) (hΞ : ∀ E M1, Ξ E M1 → E = xIO ∨ E = xIA ∨ E = xIS) : CXH l yL_shim cL_shim 6 .int [(0, 12, 15, 28), (0, 12, 19, 13), (0, 12, 23, 15)] rm_L_shim [.ref s, vi a1, vi a2, vi a3, .ref o] D Λ M (fun z M1 => (z = 0 ∧ ∃ v M2, Ψ v M2 ∧ wr M2 o 0 (nz v) = M1) ∨ (z = 1 ∧ Ξ xIO M1) ∨ (z = 2 ∧ Ξ xIA M1) ∨ (z = 3 ∧ Ξ xIS M1)) := by
  refine CXH_of rfl rfl (Nat.le_of_ble_eq_true rfl) (fun Γ g r => ?_)
  refine V_aload (q := 2) g dL_shim_0 rfl rfl ?_
  refine V_iconst (q := 3) g dL_shim_2 rfl ?_
  refine V_aload_n (q := 4) g dL_shim_3 rfl rfl ?_
  refine V_iload_n (q := 5) g dL_shim_4 rfl rfl ?_
  refine V_iload_n (q := 6) g dL_shim_5 rfl rfl ?_
  refine V_iload_n (q := 7) g dL_shim_6 rfl rfl ?_
  refine V_callVXI_3 (q := 10) g hM dL_shim_7 k_L_62 hs rfl rfl rfl rfl rfl (fun z1 M1 e1 => ?_) (fun E1 M1 x1 => ?_)
  · rw [vi_nz z1]
    refine V_i2l (q := 11) g dL_shim_10 (nz_r z1) rfl ?_
    refine V_lastore (q := 12) g dL_shim_11 rfl ho (by decide) (by decide) ?_
    refine V_goto g dL_shim_12 (tgt := 27) (by decide) ?_
    refine V_iconst (q := 28) g dL_shim_27 rfl ?_
    exact V_ireturnX g r rfl dL_shim_28 rfl (Or.inl ⟨rfl, z1, M1, e1, rfl⟩)
  · rcases hΞ E1 M1 x1 with rfl | rfl | rfl
    · refine V_catch (q := 15) g r [] ⟨0, 12, 15, 28⟩ [⟨0, 12, 19, 13⟩, ⟨0, 12, 23, 15⟩] rfl (fun z hz => nomatch hz) rfl (by decide) cl_IO rfl (fun qa => ?_)
      refine V_astore_5 (q := 17) g dL_shim_15 (by decide) rfl rfl ?_
      refine V_iconst (q := 18) g dL_shim_17 rfl ?_
      exact V_ireturnX g r rfl dL_shim_18 rfl (Or.inr (Or.inl ⟨rfl, x1⟩))
    · refine V_catch (q := 19) g r [⟨0, 12, 15, 28⟩] ⟨0, 12, 19, 13⟩ [⟨0, 12, 23, 15⟩] rfl (fun z hz => by
        simp only [List.mem_cons, List.not_mem_nil, or_false] at hz
        rcases hz with rfl
        · exact ⟨by decide, xIO, cl_IO, List.mem_of_getElem? (i := 1) rfl⟩) rfl (by decide) cl_IA rfl (fun qa => ?_)
      refine V_astore_5 (q := 21) g dL_shim_19 (by decide) rfl rfl ?_
      refine V_iconst (q := 22) g dL_shim_21 rfl ?_
      exact V_ireturnX g r rfl dL_shim_22 rfl (Or.inr (Or.inr (Or.inl ⟨rfl, x1⟩)))
    · refine V_catch (q := 23) g r [⟨0, 12, 15, 28⟩, ⟨0, 12, 19, 13⟩] ⟨0, 12, 23, 15⟩ [] rfl (fun z hz => by
        simp only [List.mem_cons, List.not_mem_nil, or_false] at hz
        rcases hz with rfl | rfl
        · exact ⟨by decide, xIO, cl_IO, List.mem_of_getElem? (i := 3) rfl⟩
        · exact ⟨by decide, xIA, cl_IA, List.mem_of_getElem? (i := 2) rfl⟩) rfl (by decide) cl_IS rfl (fun qa => ?_)
      refine V_astore_5 (q := 25) g dL_shim_23 (by decide) rfl rfl ?_
      refine V_iconst (q := 26) g dL_shim_25 rfl ?_
      exact V_ireturnX g r rfl dL_shim_26 rfl (Or.inr (Or.inr (Or.inr (⟨rfl, x1⟩))))
abbrev rm_L_test : Room := { frames := 8, cells := 1, slots := 6, locals := 140 }
set_option maxHeartbeats 4000000 in
set_option maxRecDepth 100000 in
theorem h_test (l : Launch) {D : DD} {Λ : LY} {M : MM} {s o : Nat} {fl : List (Option Nat)} {a1 : Int} {Ψ : Int → MM → Prop} {Ξ : String → MM → Prop} (hM : CXI l yX4_test cX4_test 2 .int rm_X4_test [.ref s, vi a1] D Λ M Ψ Ξ) (hs : Λ s = some (kO 4 fl)) (ho : Λ o = some (kJ D 1)) (hΞ : ∀ E M1, Ξ E M1 → E = xIO) : CXH l yL_test cL_test 4 .int [(0, 9, 12, 28)] rm_L_test [.ref s, vi a1, .ref o] D Λ M (fun z M1 => (z = 0 ∧ ∃ v M2, Ψ v M2 ∧ wr M2 o 0 (nz v) = M1) ∨ (z = 1 ∧ Ξ xIO M1)) := by
  refine CXH_of rfl rfl (Nat.le_of_ble_eq_true rfl) (fun Γ g r => ?_)
  refine V_aload_n (q := 1) g dL_test_0 rfl rfl ?_
  refine V_iconst (q := 2) g dL_test_1 rfl ?_
  refine V_aload_n (q := 3) g dL_test_2 rfl rfl ?_
  refine V_iload_n (q := 4) g dL_test_3 rfl rfl ?_
  refine V_callVXI_1 (q := 7) g hM dL_test_4 k_L_65 hs rfl rfl rfl rfl rfl (fun z1 M1 e1 => ?_) (fun E1 M1 x1 => ?_)
  · rw [vi_nz z1]
    refine V_i2l (q := 8) g dL_test_7 (nz_r z1) rfl ?_
    refine V_lastore (q := 9) g dL_test_8 rfl ho (by decide) (by decide) ?_
    refine V_goto g dL_test_9 (tgt := 15) (by decide) ?_
    refine V_iconst (q := 16) g dL_test_15 rfl ?_
    exact V_ireturnX g r rfl dL_test_16 rfl (Or.inl ⟨rfl, z1, M1, e1, rfl⟩)
  · rcases hΞ E1 M1 x1 with rfl
    · refine V_catch (q := 12) g r [] ⟨0, 9, 12, 28⟩ [] rfl (fun z hz => nomatch hz) rfl (by decide) cl_IO rfl (fun qa => ?_)
      refine V_astore_n_3 (q := 13) g dL_test_12 (by decide) rfl rfl ?_
      refine V_iconst (q := 14) g dL_test_13 rfl ?_
      exact V_ireturnX g r rfl dL_test_14 rfl (Or.inr (⟨rfl, x1⟩))
abbrev rm_L_sit : Room := { frames := 8, cells := 1, slots := 6, locals := 140 }
set_option maxHeartbeats 4000000 in
set_option maxRecDepth 100000 in
theorem h_sit (l : Launch) {D : DD} {Λ : LY} {M : MM} {s o : Nat} {fl : List (Option Nat)} {a1 a2 : Int} {Ψ : Int → MM → Prop} {Ξ : String → MM → Prop} (hM : CXI l yX4_sit cX4_sit 3 .int rm_X4_sit [.ref s, vi a1, vi a2] D Λ M Ψ Ξ) (hs : Λ s = some (kO 4 fl)) (ho : Λ o = some (kJ D 1)) (hΞ : ∀ E M1, Ξ E M1 → E = xIO ∨ E = xIA) : CXH l yL_sit cL_sit 5 .int [(0, 10, 13, 28), (0, 10, 17, 13)] rm_L_sit [.ref s, vi a1, vi a2, .ref o] D Λ M (fun z M1 => (z = 0 ∧ ∃ v M2, Ψ v M2 ∧ wr M2 o 0 (nz v) = M1) ∨ (z = 1 ∧ Ξ xIO M1) ∨ (z = 2 ∧ Ξ xIA M1)) := by
  refine CXH_of rfl rfl (Nat.le_of_ble_eq_true rfl) (fun Γ g r => ?_)
  refine V_aload_n (q := 1) g dL_sit_0 rfl rfl ?_
  refine V_iconst (q := 2) g dL_sit_1 rfl ?_
  refine V_aload_n (q := 3) g dL_sit_2 rfl rfl ?_
  refine V_iload_n (q := 4) g dL_sit_3 rfl rfl ?_
  refine V_iload_n (q := 5) g dL_sit_4 rfl rfl ?_
  refine V_callVXI_2 (q := 8) g hM dL_sit_5 k_L_68 hs rfl rfl rfl rfl rfl (fun z1 M1 e1 => ?_) (fun E1 M1 x1 => ?_)
  · rw [vi_nz z1]
    refine V_i2l (q := 9) g dL_sit_8 (nz_r z1) rfl ?_
    refine V_lastore (q := 10) g dL_sit_9 rfl ho (by decide) (by decide) ?_
    refine V_goto g dL_sit_10 (tgt := 21) (by decide) ?_
    refine V_iconst (q := 22) g dL_sit_21 rfl ?_
    exact V_ireturnX g r rfl dL_sit_22 rfl (Or.inl ⟨rfl, z1, M1, e1, rfl⟩)
  · rcases hΞ E1 M1 x1 with rfl | rfl
    · refine V_catch (q := 13) g r [] ⟨0, 10, 13, 28⟩ [⟨0, 10, 17, 13⟩] rfl (fun z hz => nomatch hz) rfl (by decide) cl_IO rfl (fun qa => ?_)
      refine V_astore_4 (q := 15) g dL_sit_13 (by decide) rfl rfl ?_
      refine V_iconst (q := 16) g dL_sit_15 rfl ?_
      exact V_ireturnX g r rfl dL_sit_16 rfl (Or.inr (Or.inl ⟨rfl, x1⟩))
    · refine V_catch (q := 17) g r [⟨0, 10, 13, 28⟩] ⟨0, 10, 17, 13⟩ [] rfl (fun z hz => by
        simp only [List.mem_cons, List.not_mem_nil, or_false] at hz
        rcases hz with rfl
        · exact ⟨by decide, xIO, cl_IO, List.mem_of_getElem? (i := 1) rfl⟩) rfl (by decide) cl_IA rfl (fun qa => ?_)
      refine V_astore_4 (q := 19) g dL_sit_17 (by decide) rfl rfl ?_
      refine V_iconst (q := 20) g dL_sit_19 rfl ?_
      exact V_ireturnX g r rfl dL_sit_20 rfl (Or.inr (Or.inr (⟨rfl, x1⟩)))
abbrev rm_L_bound : Room := { frames := 8, cells := 1, slots := 6, locals := 145 }
set_option maxHeartbeats 4000000 in
set_option maxRecDepth 100000 in
theorem h_bound (l : Launch) {D : DD} {Λ : LY} {M : MM} {s o : Nat} {fl : List (Option Nat)} {a1 a2 a3 : Int} {Ψ : Int → MM → Prop} {Ξ : String → MM → Prop} (hM : CXI l yX4_bound cX4_bound 4 .int rm_X4_bound [.ref s, vi a1, vi a2, vi a3] D Λ M Ψ Ξ) (hs : Λ s = some (kO 4 fl)) (ho : Λ o = some (kJ D 1)) (hΞ : ∀ E M1, Ξ E M1 → E = xIO ∨ E = xIA) : CXH l yL_bound cL_bound 6 .int [(0, 12, 15, 28), (0, 12, 19, 13)] rm_L_bound [.ref s, vi a1, vi a2, vi a3, .ref o] D Λ M (fun z M1 => (z = 0 ∧ ∃ v M2, Ψ v M2 ∧ wr M2 o 0 (nz v) = M1) ∨ (z = 1 ∧ Ξ xIO M1) ∨ (z = 2 ∧ Ξ xIA M1)) := by
  refine CXH_of rfl rfl (Nat.le_of_ble_eq_true rfl) (fun Γ g r => ?_)
  refine V_aload (q := 2) g dL_bound_0 rfl rfl ?_
  refine V_iconst (q := 3) g dL_bound_2 rfl ?_
  refine V_aload_n (q := 4) g dL_bound_3 rfl rfl ?_
  refine V_iload_n (q := 5) g dL_bound_4 rfl rfl ?_
  refine V_iload_n (q := 6) g dL_bound_5 rfl rfl ?_
  refine V_iload_n (q := 7) g dL_bound_6 rfl rfl ?_
  refine V_callVXI_3 (q := 10) g hM dL_bound_7 k_L_71 hs rfl rfl rfl rfl rfl (fun z1 M1 e1 => ?_) (fun E1 M1 x1 => ?_)
  · rw [vi_nz z1]
    refine V_i2l (q := 11) g dL_bound_10 (nz_r z1) rfl ?_
    refine V_lastore (q := 12) g dL_bound_11 rfl ho (by decide) (by decide) ?_
    refine V_goto g dL_bound_12 (tgt := 23) (by decide) ?_
    refine V_iconst (q := 24) g dL_bound_23 rfl ?_
    exact V_ireturnX g r rfl dL_bound_24 rfl (Or.inl ⟨rfl, z1, M1, e1, rfl⟩)
  · rcases hΞ E1 M1 x1 with rfl | rfl
    · refine V_catch (q := 15) g r [] ⟨0, 12, 15, 28⟩ [⟨0, 12, 19, 13⟩] rfl (fun z hz => nomatch hz) rfl (by decide) cl_IO rfl (fun qa => ?_)
      refine V_astore_5 (q := 17) g dL_bound_15 (by decide) rfl rfl ?_
      refine V_iconst (q := 18) g dL_bound_17 rfl ?_
      exact V_ireturnX g r rfl dL_bound_18 rfl (Or.inr (Or.inl ⟨rfl, x1⟩))
    · refine V_catch (q := 19) g r [⟨0, 12, 15, 28⟩] ⟨0, 12, 19, 13⟩ [] rfl (fun z hz => by
        simp only [List.mem_cons, List.not_mem_nil, or_false] at hz
        rcases hz with rfl
        · exact ⟨by decide, xIO, cl_IO, List.mem_of_getElem? (i := 1) rfl⟩) rfl (by decide) cl_IA rfl (fun qa => ?_)
      refine V_astore_5 (q := 21) g dL_bound_19 (by decide) rfl rfl ?_
      refine V_iconst (q := 22) g dL_bound_21 rfl ?_
      exact V_ireturnX g r rfl dL_bound_22 rfl (Or.inr (Or.inr (⟨rfl, x1⟩)))
abbrev rm_L_set : Room := { frames := 8, cells := 1, slots := 6, locals := 133 }
set_option maxHeartbeats 4000000 in
set_option maxRecDepth 100000 in
theorem h_set (l : Launch) {D : DD} {Λ : LY} {M : MM} {s o : Nat} {fl : List (Option Nat)} {a1 a2 : Int} {Ψ : Int → MM → Prop} {Ξ : String → MM → Prop} (hM : CXI l yX4_set cX4_set 3 .int rm_X4_set [.ref s, vi a1, vi a2] D Λ M Ψ Ξ) (hs : Λ s = some (kO 4 fl)) (ho : Λ o = some (kJ D 1)) (hΞ : ∀ E M1, Ξ E M1 → E = xIA) : CXH l yL_set cL_set 5 .int [(0, 10, 13, 13)] rm_L_set [.ref s, vi a1, vi a2, .ref o] D Λ M (fun z M1 => (z = 0 ∧ ∃ v M2, Ψ v M2 ∧ wr M2 o 0 (nz v) = M1) ∨ (z = 1 ∧ Ξ xIA M1)) := by
  refine CXH_of rfl rfl (Nat.le_of_ble_eq_true rfl) (fun Γ g r => ?_)
  refine V_aload_n (q := 1) g dL_set_0 rfl rfl ?_
  refine V_iconst (q := 2) g dL_set_1 rfl ?_
  refine V_aload_n (q := 3) g dL_set_2 rfl rfl ?_
  refine V_iload_n (q := 4) g dL_set_3 rfl rfl ?_
  refine V_iload_n (q := 5) g dL_set_4 rfl rfl ?_
  refine V_callVXI_2 (q := 8) g hM dL_set_5 k_L_74 hs rfl rfl rfl rfl rfl (fun z1 M1 e1 => ?_) (fun E1 M1 x1 => ?_)
  · rw [vi_nz z1]
    refine V_i2l (q := 9) g dL_set_8 (nz_r z1) rfl ?_
    refine V_lastore (q := 10) g dL_set_9 rfl ho (by decide) (by decide) ?_
    refine V_goto g dL_set_10 (tgt := 17) (by decide) ?_
    refine V_iconst (q := 18) g dL_set_17 rfl ?_
    exact V_ireturnX g r rfl dL_set_18 rfl (Or.inl ⟨rfl, z1, M1, e1, rfl⟩)
  · rcases hΞ E1 M1 x1 with rfl
    · refine V_catch (q := 13) g r [] ⟨0, 10, 13, 13⟩ [] rfl (fun z hz => nomatch hz) rfl (by decide) cl_IA rfl (fun qa => ?_)
      refine V_astore_4 (q := 15) g dL_set_13 (by decide) rfl rfl ?_
      refine V_iconst (q := 16) g dL_set_15 rfl ?_
      exact V_ireturnX g r rfl dL_set_16 rfl (Or.inr (⟨rfl, x1⟩))
abbrev rm_L_undo : Room := { frames := 7, cells := 1, slots := 6, locals := 110 }
set_option maxHeartbeats 4000000 in
set_option maxRecDepth 100000 in
theorem h_undo (l : Launch) {D : DD} {Λ : LY} {M : MM} {s o : Nat} {fl : List (Option Nat)} {Ψ : Int → MM → Prop} {Ξ : String → MM → Prop} (hM : CXI l yX4_undo cX4_undo 1 .int rm_X4_undo [.ref s] D Λ M Ψ Ξ) (hs : Λ s = some (kO 4 fl)) (ho : Λ o = some (kJ D 1)) (hΞ : ∀ E M1, Ξ E M1 → E = xIS) : CXH l yL_undo cL_undo 3 .int [(0, 8, 11, 15)] rm_L_undo [.ref s, .ref o] D Λ M (fun z M1 => (z = 0 ∧ ∃ v M2, Ψ v M2 ∧ wr M2 o 0 (nz v) = M1) ∨ (z = 1 ∧ Ξ xIS M1)) := by
  refine CXH_of rfl rfl (Nat.le_of_ble_eq_true rfl) (fun Γ g r => ?_)
  refine V_aload_n (q := 1) g dL_undo_0 rfl rfl ?_
  refine V_iconst (q := 2) g dL_undo_1 rfl ?_
  refine V_aload_n (q := 3) g dL_undo_2 rfl rfl ?_
  refine V_callVXI_0 (q := 6) g hM dL_undo_3 k_L_77 hs rfl rfl rfl rfl rfl (fun z1 M1 e1 => ?_) (fun E1 M1 x1 => ?_)
  · rw [vi_nz z1]
    refine V_i2l (q := 7) g dL_undo_6 (nz_r z1) rfl ?_
    refine V_lastore (q := 8) g dL_undo_7 rfl ho (by decide) (by decide) ?_
    refine V_goto g dL_undo_8 (tgt := 14) (by decide) ?_
    refine V_iconst (q := 15) g dL_undo_14 rfl ?_
    exact V_ireturnX g r rfl dL_undo_15 rfl (Or.inl ⟨rfl, z1, M1, e1, rfl⟩)
  · rcases hΞ E1 M1 x1 with rfl
    · refine V_catch (q := 11) g r [] ⟨0, 8, 11, 15⟩ [] rfl (fun z hz => nomatch hz) rfl (by decide) cl_IS rfl (fun qa => ?_)
      refine V_astore_n_2 (q := 12) g dL_undo_11 (by decide) rfl rfl ?_
      refine V_iconst (q := 13) g dL_undo_12 rfl ?_
      exact V_ireturnX g r rfl dL_undo_13 rfl (Or.inr (⟨rfl, x1⟩))
abbrev rm_L_bestTurn : Room := { frames := 8, cells := 3, slots := 18, locals := 135 }
set_option maxHeartbeats 4000000 in
set_option maxRecDepth 100000 in
theorem h_bestTurn (l : Launch) {D : DD} {Λ : LY} {M : MM} {s o : Nat} {fl : List (Option Nat)} {a1 a2 a3 : Int} {Ψ : Int → MM → Prop} {Ξ : String → MM → Prop} (hM : CXI l yX4_bestTurn cX4_bestTurn 5 .int rm_X4_bestTurn [.ref s, vi a1, vi a2, vi a3] D Λ M Ψ Ξ) (hs : Λ s = some (kO 4 fl)) (ho : Λ o = some (kJ D 1)) (hΞ : ∀ E M1, Ξ E M1 → E = xIO ∨ E = xIA) : CXH l yL_bestTurn cL_bestTurn 6 .int [(0, 12, 15, 28), (0, 12, 19, 13)] rm_L_bestTurn [.ref s, vi a1, vi a2, vi a3, .ref o] D Λ M (fun z M1 => (z = 0 ∧ ∃ v M2, Ψ v M2 ∧ wr M2 o 0 (nz v) = M1) ∨ (z = 1 ∧ Ξ xIO M1) ∨ (z = 2 ∧ Ξ xIA M1)) := by
  refine CXH_of rfl rfl (Nat.le_of_ble_eq_true rfl) (fun Γ g r => ?_)
  refine V_aload (q := 2) g dL_bestTurn_0 rfl rfl ?_
  refine V_iconst (q := 3) g dL_bestTurn_2 rfl ?_
  refine V_aload_n (q := 4) g dL_bestTurn_3 rfl rfl ?_
  refine V_iload_n (q := 5) g dL_bestTurn_4 rfl rfl ?_
  refine V_iload_n (q := 6) g dL_bestTurn_5 rfl rfl ?_
  refine V_iload_n (q := 7) g dL_bestTurn_6 rfl rfl ?_
  refine V_callVXI_3 (q := 10) g hM dL_bestTurn_7 k_L_80 hs rfl rfl rfl rfl rfl (fun z1 M1 e1 => ?_) (fun E1 M1 x1 => ?_)
  · rw [vi_nz z1]
    refine V_i2l (q := 11) g dL_bestTurn_10 (nz_r z1) rfl ?_
    refine V_lastore (q := 12) g dL_bestTurn_11 rfl ho (by decide) (by decide) ?_
    refine V_goto g dL_bestTurn_12 (tgt := 23) (by decide) ?_
    refine V_iconst (q := 24) g dL_bestTurn_23 rfl ?_
    exact V_ireturnX g r rfl dL_bestTurn_24 rfl (Or.inl ⟨rfl, z1, M1, e1, rfl⟩)
  · rcases hΞ E1 M1 x1 with rfl | rfl
    · refine V_catch (q := 15) g r [] ⟨0, 12, 15, 28⟩ [⟨0, 12, 19, 13⟩] rfl (fun z hz => nomatch hz) rfl (by decide) cl_IO rfl (fun qa => ?_)
      refine V_astore_5 (q := 17) g dL_bestTurn_15 (by decide) rfl rfl ?_
      refine V_iconst (q := 18) g dL_bestTurn_17 rfl ?_
      exact V_ireturnX g r rfl dL_bestTurn_18 rfl (Or.inr (Or.inl ⟨rfl, x1⟩))
    · refine V_catch (q := 19) g r [⟨0, 12, 15, 28⟩] ⟨0, 12, 19, 13⟩ [] rfl (fun z hz => by
        simp only [List.mem_cons, List.not_mem_nil, or_false] at hz
        rcases hz with rfl
        · exact ⟨by decide, xIO, cl_IO, List.mem_of_getElem? (i := 1) rfl⟩) rfl (by decide) cl_IA rfl (fun qa => ?_)
      refine V_astore_5 (q := 21) g dL_bestTurn_19 (by decide) rfl rfl ?_
      refine V_iconst (q := 22) g dL_bestTurn_21 rfl ?_
      exact V_ireturnX g r rfl dL_bestTurn_22 rfl (Or.inr (Or.inr (⟨rfl, x1⟩)))
abbrev rm_L_bestSaw : Room := { frames := 8, cells := 1, slots := 6, locals := 141 }
set_option maxHeartbeats 4000000 in
set_option maxRecDepth 100000 in
theorem h_bestSaw (l : Launch) {D : DD} {Λ : LY} {M : MM} {s o : Nat} {fl : List (Option Nat)} {a1 : Int} {Ψ : Int → MM → Prop} {Ξ : String → MM → Prop} (hM : CXI l yX4_bestSaw cX4_bestSaw 2 .int rm_X4_bestSaw [.ref s, vi a1] D Λ M Ψ Ξ) (hs : Λ s = some (kO 4 fl)) (ho : Λ o = some (kJ D 1)) (hΞ : ∀ E M1, Ξ E M1 → E = xIO) : CXH l yL_bestSaw cL_bestSaw 4 .int [(0, 9, 12, 28)] rm_L_bestSaw [.ref s, vi a1, .ref o] D Λ M (fun z M1 => (z = 0 ∧ ∃ v M2, Ψ v M2 ∧ wr M2 o 0 (nz v) = M1) ∨ (z = 1 ∧ Ξ xIO M1)) := by
  refine CXH_of rfl rfl (Nat.le_of_ble_eq_true rfl) (fun Γ g r => ?_)
  refine V_aload_n (q := 1) g dL_bestSaw_0 rfl rfl ?_
  refine V_iconst (q := 2) g dL_bestSaw_1 rfl ?_
  refine V_aload_n (q := 3) g dL_bestSaw_2 rfl rfl ?_
  refine V_iload_n (q := 4) g dL_bestSaw_3 rfl rfl ?_
  refine V_callVXI_1 (q := 7) g hM dL_bestSaw_4 k_L_83 hs rfl rfl rfl rfl rfl (fun z1 M1 e1 => ?_) (fun E1 M1 x1 => ?_)
  · rw [vi_nz z1]
    refine V_i2l (q := 8) g dL_bestSaw_7 (nz_r z1) rfl ?_
    refine V_lastore (q := 9) g dL_bestSaw_8 rfl ho (by decide) (by decide) ?_
    refine V_goto g dL_bestSaw_9 (tgt := 15) (by decide) ?_
    refine V_iconst (q := 16) g dL_bestSaw_15 rfl ?_
    exact V_ireturnX g r rfl dL_bestSaw_16 rfl (Or.inl ⟨rfl, z1, M1, e1, rfl⟩)
  · rcases hΞ E1 M1 x1 with rfl
    · refine V_catch (q := 12) g r [] ⟨0, 9, 12, 28⟩ [] rfl (fun z hz => nomatch hz) rfl (by decide) cl_IO rfl (fun qa => ?_)
      refine V_astore_n_3 (q := 13) g dL_bestSaw_12 (by decide) rfl rfl ?_
      refine V_iconst (q := 14) g dL_bestSaw_13 rfl ?_
      exact V_ireturnX g r rfl dL_bestSaw_14 rfl (Or.inr (⟨rfl, x1⟩))
abbrev rm_L_failsIn : Room := { frames := 8, cells := 2, slots := 12, locals := 141 }
set_option maxHeartbeats 4000000 in
set_option maxRecDepth 100000 in
theorem h_failsIn (l : Launch) {D : DD} {Λ : LY} {M : MM} {s o : Nat} {fl : List (Option Nat)} {a1 a2 : Int} {Ψ : Int → MM → Prop} {Ξ : String → MM → Prop} (hM : CXI l yX4_failsIn cX4_failsIn 4 .int rm_X4_failsIn [.ref s, vi a1, vi a2] D Λ M Ψ Ξ) (hs : Λ s = some (kO 4 fl)) (ho : Λ o = some (kJ D 1)) (hΞ : ∀ E M1, Ξ E M1 → E = xIO ∨ E = xIA) : CXH l yL_failsIn cL_failsIn 5 .int [(0, 10, 13, 28), (0, 10, 17, 13)] rm_L_failsIn [.ref s, vi a1, vi a2, .ref o] D Λ M (fun z M1 => (z = 0 ∧ ∃ v M2, Ψ v M2 ∧ wr M2 o 0 (nz v) = M1) ∨ (z = 1 ∧ Ξ xIO M1) ∨ (z = 2 ∧ Ξ xIA M1)) := by
  refine CXH_of rfl rfl (Nat.le_of_ble_eq_true rfl) (fun Γ g r => ?_)
  refine V_aload_n (q := 1) g dL_failsIn_0 rfl rfl ?_
  refine V_iconst (q := 2) g dL_failsIn_1 rfl ?_
  refine V_aload_n (q := 3) g dL_failsIn_2 rfl rfl ?_
  refine V_iload_n (q := 4) g dL_failsIn_3 rfl rfl ?_
  refine V_iload_n (q := 5) g dL_failsIn_4 rfl rfl ?_
  refine V_callVXI_2 (q := 8) g hM dL_failsIn_5 k_L_86 hs rfl rfl rfl rfl rfl (fun z1 M1 e1 => ?_) (fun E1 M1 x1 => ?_)
  · rw [vi_nz z1]
    refine V_i2l (q := 9) g dL_failsIn_8 (nz_r z1) rfl ?_
    refine V_lastore (q := 10) g dL_failsIn_9 rfl ho (by decide) (by decide) ?_
    refine V_goto g dL_failsIn_10 (tgt := 21) (by decide) ?_
    refine V_iconst (q := 22) g dL_failsIn_21 rfl ?_
    exact V_ireturnX g r rfl dL_failsIn_22 rfl (Or.inl ⟨rfl, z1, M1, e1, rfl⟩)
  · rcases hΞ E1 M1 x1 with rfl | rfl
    · refine V_catch (q := 13) g r [] ⟨0, 10, 13, 28⟩ [⟨0, 10, 17, 13⟩] rfl (fun z hz => nomatch hz) rfl (by decide) cl_IO rfl (fun qa => ?_)
      refine V_astore_4 (q := 15) g dL_failsIn_13 (by decide) rfl rfl ?_
      refine V_iconst (q := 16) g dL_failsIn_15 rfl ?_
      exact V_ireturnX g r rfl dL_failsIn_16 rfl (Or.inr (Or.inl ⟨rfl, x1⟩))
    · refine V_catch (q := 17) g r [⟨0, 10, 13, 28⟩] ⟨0, 10, 17, 13⟩ [] rfl (fun z hz => by
        simp only [List.mem_cons, List.not_mem_nil, or_false] at hz
        rcases hz with rfl
        · exact ⟨by decide, xIO, cl_IO, List.mem_of_getElem? (i := 1) rfl⟩) rfl (by decide) cl_IA rfl (fun qa => ?_)
      refine V_astore_4 (q := 19) g dL_failsIn_17 (by decide) rfl rfl ?_
      refine V_iconst (q := 20) g dL_failsIn_19 rfl ?_
      exact V_ireturnX g r rfl dL_failsIn_20 rfl (Or.inr (Or.inr (⟨rfl, x1⟩)))
abbrev rm_L_bestFloor : Room := { frames := 8, cells := 1, slots := 6, locals := 143 }
set_option maxHeartbeats 4000000 in
set_option maxRecDepth 100000 in
theorem h_bestFloor (l : Launch) {D : DD} {Λ : LY} {M : MM} {s o : Nat} {fl : List (Option Nat)} {a1 : Int} {Ψ : Int → MM → Prop} {Ξ : String → MM → Prop} (hM : CXI l yX4_bestFloor cX4_bestFloor 2 .int rm_X4_bestFloor [.ref s, vi a1] D Λ M Ψ Ξ) (hs : Λ s = some (kO 4 fl)) (ho : Λ o = some (kJ D 1)) (hΞ : ∀ E M1, Ξ E M1 → E = xIO) : CXH l yL_bestFloor cL_bestFloor 4 .int [(0, 9, 12, 28)] rm_L_bestFloor [.ref s, vi a1, .ref o] D Λ M (fun z M1 => (z = 0 ∧ ∃ v M2, Ψ v M2 ∧ wr M2 o 0 (nz v) = M1) ∨ (z = 1 ∧ Ξ xIO M1)) := by
  refine CXH_of rfl rfl (Nat.le_of_ble_eq_true rfl) (fun Γ g r => ?_)
  refine V_aload_n (q := 1) g dL_bestFloor_0 rfl rfl ?_
  refine V_iconst (q := 2) g dL_bestFloor_1 rfl ?_
  refine V_aload_n (q := 3) g dL_bestFloor_2 rfl rfl ?_
  refine V_iload_n (q := 4) g dL_bestFloor_3 rfl rfl ?_
  refine V_callVXI_1 (q := 7) g hM dL_bestFloor_4 k_L_89 hs rfl rfl rfl rfl rfl (fun z1 M1 e1 => ?_) (fun E1 M1 x1 => ?_)
  · rw [vi_nz z1]
    refine V_i2l (q := 8) g dL_bestFloor_7 (nz_r z1) rfl ?_
    refine V_lastore (q := 9) g dL_bestFloor_8 rfl ho (by decide) (by decide) ?_
    refine V_goto g dL_bestFloor_9 (tgt := 15) (by decide) ?_
    refine V_iconst (q := 16) g dL_bestFloor_15 rfl ?_
    exact V_ireturnX g r rfl dL_bestFloor_16 rfl (Or.inl ⟨rfl, z1, M1, e1, rfl⟩)
  · rcases hΞ E1 M1 x1 with rfl
    · refine V_catch (q := 12) g r [] ⟨0, 9, 12, 28⟩ [] rfl (fun z hz => nomatch hz) rfl (by decide) cl_IO rfl (fun qa => ?_)
      refine V_astore_n_3 (q := 13) g dL_bestFloor_12 (by decide) rfl rfl ?_
      refine V_iconst (q := 14) g dL_bestFloor_13 rfl ?_
      exact V_ireturnX g r rfl dL_bestFloor_14 rfl (Or.inr (⟨rfl, x1⟩))
abbrev rm_L_runScript : Room := { frames := 7, cells := 1, slots := 6, locals := 172 }
set_option maxHeartbeats 4000000 in
set_option maxRecDepth 100000 in
theorem h_runScript (l : Launch) {D : DD} {Λ : LY} {M : MM} {s o : Nat} {fl : List (Option Nat)} {a1 a2 : Int} {Ψ : Int → MM → Prop} {Ξ : String → MM → Prop} (hM : CXI l yX4_runScript cX4_runScript 6 .int rm_X4_runScript [.ref s, vi a1, vl a2] D Λ M Ψ Ξ) (hs : Λ s = some (kO 4 fl)) (ho : Λ o = some (kJ D 1)) (hΞ : ∀ E M1, Ξ E M1 → E = xIA) : CXH l yL_runScript cL_runScript 6 .int [(0, 11, 14, 13)] rm_L_runScript [.ref s, vi a1, vl a2, .ref o] D Λ M (fun z M1 => (z = 0 ∧ ∃ v M2, Ψ v M2 ∧ wr M2 o 0 (nz v) = M1) ∨ (z = 1 ∧ Ξ xIA M1)) := by
  refine CXH_of rfl rfl (Nat.le_of_ble_eq_true rfl) (fun Γ g r => ?_)
  refine V_aload (q := 2) g dL_runScript_0 rfl rfl ?_
  refine V_iconst (q := 3) g dL_runScript_2 rfl ?_
  refine V_aload_n (q := 4) g dL_runScript_3 rfl rfl ?_
  refine V_iload_n (q := 5) g dL_runScript_4 rfl rfl ?_
  refine V_lload_n (q := 6) g dL_runScript_5 rfl rfl ?_
  refine V_callVXI_2 (q := 9) g hM dL_runScript_6 k_L_92 hs rfl rfl rfl rfl rfl (fun z1 M1 e1 => ?_) (fun E1 M1 x1 => ?_)
  · rw [vi_nz z1]
    refine V_i2l (q := 10) g dL_runScript_9 (nz_r z1) rfl ?_
    refine V_lastore (q := 11) g dL_runScript_10 rfl ho (by decide) (by decide) ?_
    refine V_goto g dL_runScript_11 (tgt := 18) (by decide) ?_
    refine V_iconst (q := 19) g dL_runScript_18 rfl ?_
    exact V_ireturnX g r rfl dL_runScript_19 rfl (Or.inl ⟨rfl, z1, M1, e1, rfl⟩)
  · rcases hΞ E1 M1 x1 with rfl
    · refine V_catch (q := 14) g r [] ⟨0, 11, 14, 13⟩ [] rfl (fun z hz => nomatch hz) rfl (by decide) cl_IA rfl (fun qa => ?_)
      refine V_astore_5 (q := 16) g dL_runScript_14 (by decide) rfl rfl ?_
      refine V_iconst (q := 17) g dL_runScript_16 rfl ?_
      exact V_ireturnX g r rfl dL_runScript_17 rfl (Or.inr (⟨rfl, x1⟩))
abbrev rm_L_simulate : Room := { frames := 7, cells := 1, slots := 6, locals := 171 }
set_option maxHeartbeats 4000000 in
set_option maxRecDepth 100000 in
theorem h_simulate (l : Launch) {D : DD} {Λ : LY} {M : MM} {s o : Nat} {fl : List (Option Nat)} {a1 a2 : Int} {Ψ : Int → MM → Prop} {Ξ : String → MM → Prop} (hM : CXI l yX4_simulate cX4_simulate 8 .int rm_X4_simulate [.ref s, vl a1, vi a2] D Λ M Ψ Ξ) (hs : Λ s = some (kO 4 fl)) (ho : Λ o = some (kJ D 1)) (hΞ : ∀ E M1, Ξ E M1 → E = xIA) : CXH l yL_simulate cL_simulate 6 .int [(0, 11, 14, 13)] rm_L_simulate [.ref s, vl a1, vi a2, .ref o] D Λ M (fun z M1 => (z = 0 ∧ ∃ v M2, Ψ v M2 ∧ wr M2 o 0 (nz v) = M1) ∨ (z = 1 ∧ Ξ xIA M1)) := by
  refine CXH_of rfl rfl (Nat.le_of_ble_eq_true rfl) (fun Γ g r => ?_)
  refine V_aload (q := 2) g dL_simulate_0 rfl rfl ?_
  refine V_iconst (q := 3) g dL_simulate_2 rfl ?_
  refine V_aload_n (q := 4) g dL_simulate_3 rfl rfl ?_
  refine V_lload_n (q := 5) g dL_simulate_4 rfl rfl ?_
  refine V_iload_n (q := 6) g dL_simulate_5 rfl rfl ?_
  refine V_callVXI_2 (q := 9) g hM dL_simulate_6 k_L_96 hs rfl rfl rfl rfl rfl (fun z1 M1 e1 => ?_) (fun E1 M1 x1 => ?_)
  · rw [vi_nz z1]
    refine V_i2l (q := 10) g dL_simulate_9 (nz_r z1) rfl ?_
    refine V_lastore (q := 11) g dL_simulate_10 rfl ho (by decide) (by decide) ?_
    refine V_goto g dL_simulate_11 (tgt := 18) (by decide) ?_
    refine V_iconst (q := 19) g dL_simulate_18 rfl ?_
    exact V_ireturnX g r rfl dL_simulate_19 rfl (Or.inl ⟨rfl, z1, M1, e1, rfl⟩)
  · rcases hΞ E1 M1 x1 with rfl
    · refine V_catch (q := 14) g r [] ⟨0, 11, 14, 13⟩ [] rfl (fun z hz => nomatch hz) rfl (by decide) cl_IA rfl (fun qa => ?_)
      refine V_astore_5 (q := 16) g dL_simulate_14 (by decide) rfl rfl ?_
      refine V_iconst (q := 17) g dL_simulate_16 rfl ?_
      exact V_ireturnX g r rfl dL_simulate_17 rfl (Or.inr (⟨rfl, x1⟩))
abbrev rm_L_save : Room := { frames := 8, cells := 1, slots := 6, locals := 132 }
set_option maxHeartbeats 4000000 in
set_option maxRecDepth 100000 in
theorem h_save (l : Launch) {D : DD} {Λ : LY} {M : MM} {s o : Nat} {fl : List (Option Nat)} {a1 : Int} {Ψ : Int → MM → Prop} {Ξ : String → MM → Prop} (hM : CXI l yX4_save cX4_save 3 .int rm_X4_save [.ref s, vi a1] D Λ M Ψ Ξ) (hs : Λ s = some (kO 4 fl)) (ho : Λ o = some (kJ D 1)) (hΞ : ∀ E M1, Ξ E M1 → E = xIO) : CXH l yL_save cL_save 4 .int [(0, 9, 12, 28)] rm_L_save [.ref s, vi a1, .ref o] D Λ M (fun z M1 => (z = 0 ∧ ∃ v M2, Ψ v M2 ∧ wr M2 o 0 (nz v) = M1) ∨ (z = 1 ∧ Ξ xIO M1)) := by
  refine CXH_of rfl rfl (Nat.le_of_ble_eq_true rfl) (fun Γ g r => ?_)
  refine V_aload_n (q := 1) g dL_save_0 rfl rfl ?_
  refine V_iconst (q := 2) g dL_save_1 rfl ?_
  refine V_aload_n (q := 3) g dL_save_2 rfl rfl ?_
  refine V_iload_n (q := 4) g dL_save_3 rfl rfl ?_
  refine V_callVXI_1 (q := 7) g hM dL_save_4 k_L_100 hs rfl rfl rfl rfl rfl (fun z1 M1 e1 => ?_) (fun E1 M1 x1 => ?_)
  · rw [vi_nz z1]
    refine V_i2l (q := 8) g dL_save_7 (nz_r z1) rfl ?_
    refine V_lastore (q := 9) g dL_save_8 rfl ho (by decide) (by decide) ?_
    refine V_goto g dL_save_9 (tgt := 15) (by decide) ?_
    refine V_iconst (q := 16) g dL_save_15 rfl ?_
    exact V_ireturnX g r rfl dL_save_16 rfl (Or.inl ⟨rfl, z1, M1, e1, rfl⟩)
  · rcases hΞ E1 M1 x1 with rfl
    · refine V_catch (q := 12) g r [] ⟨0, 9, 12, 28⟩ [] rfl (fun z hz => nomatch hz) rfl (by decide) cl_IO rfl (fun qa => ?_)
      refine V_astore_n_3 (q := 13) g dL_save_12 (by decide) rfl rfl ?_
      refine V_iconst (q := 14) g dL_save_13 rfl ?_
      exact V_ireturnX g r rfl dL_save_14 rfl (Or.inr (⟨rfl, x1⟩))
abbrev rm_L_restore : Room := { frames := 8, cells := 2, slots := 12, locals := 132 }
set_option maxHeartbeats 4000000 in
set_option maxRecDepth 100000 in
theorem h_restore (l : Launch) {D : DD} {Λ : LY} {M : MM} {s o : Nat} {fl : List (Option Nat)} {a1 : Int} {Ψ : Int → MM → Prop} {Ξ : String → MM → Prop} (hM : CXI l yX4_restore cX4_restore 3 .int rm_X4_restore [.ref s, vi a1] D Λ M Ψ Ξ) (hs : Λ s = some (kO 4 fl)) (ho : Λ o = some (kJ D 1)) (hΞ : ∀ E M1, Ξ E M1 → E = xIO ∨ E = xIS) : CXH l yL_restore cL_restore 4 .int [(0, 9, 12, 28), (0, 9, 15, 15)] rm_L_restore [.ref s, vi a1, .ref o] D Λ M (fun z M1 => (z = 0 ∧ ∃ v M2, Ψ v M2 ∧ wr M2 o 0 (nz v) = M1) ∨ (z = 1 ∧ Ξ xIO M1) ∨ (z = 2 ∧ Ξ xIS M1)) := by
  refine CXH_of rfl rfl (Nat.le_of_ble_eq_true rfl) (fun Γ g r => ?_)
  refine V_aload_n (q := 1) g dL_restore_0 rfl rfl ?_
  refine V_iconst (q := 2) g dL_restore_1 rfl ?_
  refine V_aload_n (q := 3) g dL_restore_2 rfl rfl ?_
  refine V_iload_n (q := 4) g dL_restore_3 rfl rfl ?_
  refine V_callVXI_1 (q := 7) g hM dL_restore_4 k_L_103 hs rfl rfl rfl rfl rfl (fun z1 M1 e1 => ?_) (fun E1 M1 x1 => ?_)
  · rw [vi_nz z1]
    refine V_i2l (q := 8) g dL_restore_7 (nz_r z1) rfl ?_
    refine V_lastore (q := 9) g dL_restore_8 rfl ho (by decide) (by decide) ?_
    refine V_goto g dL_restore_9 (tgt := 18) (by decide) ?_
    refine V_iconst (q := 19) g dL_restore_18 rfl ?_
    exact V_ireturnX g r rfl dL_restore_19 rfl (Or.inl ⟨rfl, z1, M1, e1, rfl⟩)
  · rcases hΞ E1 M1 x1 with rfl | rfl
    · refine V_catch (q := 12) g r [] ⟨0, 9, 12, 28⟩ [⟨0, 9, 15, 15⟩] rfl (fun z hz => nomatch hz) rfl (by decide) cl_IO rfl (fun qa => ?_)
      refine V_astore_n_3 (q := 13) g dL_restore_12 (by decide) rfl rfl ?_
      refine V_iconst (q := 14) g dL_restore_13 rfl ?_
      exact V_ireturnX g r rfl dL_restore_14 rfl (Or.inr (Or.inl ⟨rfl, x1⟩))
    · refine V_catch (q := 15) g r [⟨0, 9, 12, 28⟩] ⟨0, 9, 15, 15⟩ [] rfl (fun z hz => by
        simp only [List.mem_cons, List.not_mem_nil, or_false] at hz
        rcases hz with rfl
        · exact ⟨by decide, xIO, cl_IO, List.mem_of_getElem? (i := 3) rfl⟩) rfl (by decide) cl_IS rfl (fun qa => ?_)
      refine V_astore_n_3 (q := 16) g dL_restore_15 (by decide) rfl rfl ?_
      refine V_iconst (q := 17) g dL_restore_16 rfl ?_
      exact V_ireturnX g r rfl dL_restore_17 rfl (Or.inr (Or.inr (⟨rfl, x1⟩)))
theorem k_L_110 : lkH RL 110 yL_append cL_append 4 (some .int) [(0, 9, 12, 13), (0, 9, 15, 15)] 3 := ⟨big_all [354, 355, 20, 356] (by decide +kernel), by decide +kernel⟩
theorem k_L_127 : lkH RL 127 yL_load cL_load 3 (some .int) [(0, 8, 11, 15)] 2 := ⟨big_all [455, 456, 20, 457] (by decide +kernel), by decide +kernel⟩
theorem k_L_131 : lkH RL 131 yL_about cL_about 4 (some .int) [(0, 9, 12, 13)] 3 := ⟨big_all [549, 550, 20, 551] (by decide +kernel), by decide +kernel⟩
theorem k_L_134 : lkH RL 134 yL_chairOf cL_chairOf 5 (some .int) [(0, 10, 13, 28), (0, 10, 17, 13)] 4 := ⟨big_all [561, 562, 20, 563] (by decide +kernel), by decide +kernel⟩
theorem k_L_138 : lkH RL 138 yL_wobble cL_wobble 5 (some .int) [(0, 10, 13, 28), (0, 10, 17, 13)] 4 := ⟨big_all [597, 598, 20, 599] (by decide +kernel), by decide +kernel⟩
theorem k_L_141 : lkH RL 141 yL_legOf cL_legOf 6 (some .int) [(0, 12, 15, 28), (0, 12, 19, 13)] 5 := ⟨big_all [617, 618, 20, 619] (by decide +kernel), by decide +kernel⟩
theorem k_L_145 : lkH RL 145 yL_spot cL_spot 5 (some .int) [(0, 10, 13, 28)] 4 := ⟨big_all [631, 632, 20, 633] (by decide +kernel), by decide +kernel⟩
theorem k_L_148 : lkH RL 148 yL_boundOf cL_boundOf 5 (some .int) [(0, 10, 13, 28)] 4 := ⟨big_all [648, 649, 20, 650] (by decide +kernel), by decide +kernel⟩
theorem k_L_151 : lkH RL 151 yL_setting cL_setting 4 (some .int) [(0, 9, 12, 13)] 3 := ⟨big_all [656, 657, 20, 658] (by decide +kernel), by decide +kernel⟩
theorem k_L_154 : lkH RL 154 yL_chair cL_chair 5 (some .int) [(0, 10, 13, 28), (0, 10, 17, 13), (0, 10, 21, 15)] 4 := ⟨big_all [664, 665, 20, 666] (by decide +kernel), by decide +kernel⟩
theorem k_L_157 : lkH RL 157 yL_floor cL_floor 7 (some .int) [(0, 14, 17, 13), (0, 14, 21, 15)] 6 := ⟨big_all [698, 699, 20, 700] (by decide +kernel), by decide +kernel⟩
theorem k_L_161 : lkH RL 161 yL_level cL_level 6 (some .int) [(0, 12, 15, 28), (0, 12, 19, 13)] 5 := ⟨big_all [705, 706, 20, 707] (by decide +kernel), by decide +kernel⟩
theorem k_L_164 : lkH RL 164 yL_bring cL_bring 6 (some .int) [(0, 12, 15, 28), (0, 12, 19, 13)] 5 := ⟨big_all [717, 718, 20, 719] (by decide +kernel), by decide +kernel⟩
theorem k_L_167 : lkH RL 167 yL_saw cL_saw 6 (some .int) [(0, 12, 15, 28), (0, 12, 19, 13), (0, 12, 23, 15)] 5 := ⟨big_all [724, 725, 20, 726] (by decide +kernel), by decide +kernel⟩
theorem k_L_170 : lkH RL 170 yL_shim cL_shim 6 (some .int) [(0, 12, 15, 28), (0, 12, 19, 13), (0, 12, 23, 15)] 5 := ⟨big_all [731, 732, 20, 733] (by decide +kernel), by decide +kernel⟩
theorem k_L_173 : lkH RL 173 yL_test cL_test 4 (some .int) [(0, 9, 12, 28)] 3 := ⟨big_all [738, 739, 20, 740] (by decide +kernel), by decide +kernel⟩
theorem k_L_176 : lkH RL 176 yL_sit cL_sit 5 (some .int) [(0, 10, 13, 28), (0, 10, 17, 13)] 4 := ⟨big_all [745, 746, 20, 747] (by decide +kernel), by decide +kernel⟩
theorem k_L_179 : lkH RL 179 yL_bound cL_bound 6 (some .int) [(0, 12, 15, 28), (0, 12, 19, 13)] 5 := ⟨big_all [752, 753, 20, 754] (by decide +kernel), by decide +kernel⟩
theorem k_L_182 : lkH RL 182 yL_set cL_set 5 (some .int) [(0, 10, 13, 13)] 4 := ⟨big_all [759, 760, 20, 761] (by decide +kernel), by decide +kernel⟩
theorem k_L_185 : lkH RL 185 yL_undo cL_undo 3 (some .int) [(0, 8, 11, 15)] 2 := ⟨big_all [770, 771, 20, 772] (by decide +kernel), by decide +kernel⟩
theorem k_L_188 : lkH RL 188 yL_bestTurn cL_bestTurn 6 (some .int) [(0, 12, 15, 28), (0, 12, 19, 13)] 5 := ⟨big_all [782, 783, 20, 784] (by decide +kernel), by decide +kernel⟩
theorem k_L_191 : lkH RL 191 yL_bestSaw cL_bestSaw 4 (some .int) [(0, 9, 12, 28)] 3 := ⟨big_all [795, 796, 20, 797] (by decide +kernel), by decide +kernel⟩
theorem k_L_194 : lkH RL 194 yL_failsIn cL_failsIn 5 (some .int) [(0, 10, 13, 28), (0, 10, 17, 13)] 4 := ⟨big_all [809, 810, 20, 811] (by decide +kernel), by decide +kernel⟩
theorem k_L_197 : lkH RL 197 yL_bestFloor cL_bestFloor 4 (some .int) [(0, 9, 12, 28)] 3 := ⟨big_all [817, 818, 20, 819] (by decide +kernel), by decide +kernel⟩
theorem k_L_206 : lkH RL 206 yL_runScript cL_runScript 6 (some .int) [(0, 11, 14, 13)] 4 := ⟨big_all [829, 830, 20, 831] (by decide +kernel), by decide +kernel⟩
theorem k_L_210 : lkH RL 210 yL_simulate cL_simulate 6 (some .int) [(0, 11, 14, 13)] 4 := ⟨big_all [845, 846, 20, 847] (by decide +kernel), by decide +kernel⟩
theorem k_L_214 : lkH RL 214 yL_save cL_save 4 (some .int) [(0, 9, 12, 28)] 3 := ⟨big_all [858, 859, 20, 860] (by decide +kernel), by decide +kernel⟩
theorem k_L_217 : lkH RL 217 yL_restore cL_restore 4 (some .int) [(0, 9, 12, 28), (0, 9, 15, 15)] 3 := ⟨big_all [869, 870, 20, 871] (by decide +kernel), by decide +kernel⟩
