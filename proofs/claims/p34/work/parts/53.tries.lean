abbrev rm_L_floors : Room := { frames := 8, cells := 1, slots := 6, locals := 135 }
set_option maxHeartbeats 4000000 in
set_option maxRecDepth 100000 in
theorem h_floors (l : Launch) {D : DD} {Λ : LY} {M : MM} {s : Nat} {fl : List (Option Nat)} {a1 a2 a3 a4 : Int} {Ψ : Int → MM → Prop} {Ξ : String → MM → Prop} (hM : CXI l yX4_floor cX4_floor 5 .int rm_X4_floor [.ref s, vi a1, vi a2, vi a3, vi a4] D Λ M Ψ Ξ) (hs : Λ s = some (kO 4 fl)) (hΞ : ∀ E M1, Ξ E M1 → E = xIA ∨ E = xIS) : CXH l yL_floors cL_floors 6 .int [(0, 9, 10, 13), (0, 9, 15, 16)] rm_L_floors [.ref s, vi a1, vi a2, vi a3, vi a4] D Λ M (fun z M1 => (Ψ z M1) ∨ (z = -9999002 ∧ (Ξ xIA M1)) ∨ (z = -9999003 ∧ (Ξ xIS M1))) := by
  refine CXH_of rfl rfl (Nat.le_of_ble_eq_true rfl) (fun Γ g r => ?_)
  refine V_aload_n (q := 1) g dL_floors_0 rfl rfl ?_
  refine V_iload_n (q := 2) g dL_floors_1 rfl rfl ?_
  refine V_iload_n (q := 3) g dL_floors_2 rfl rfl ?_
  refine V_iload_n (q := 4) g dL_floors_3 rfl rfl ?_
  refine V_iload (q := 6) g dL_floors_4 rfl rfl ?_
  refine V_callVXI_4 (q := 9) g hM dL_floors_6 k_L_7 hs rfl rfl rfl rfl rfl (fun z1 M1 e1 => ?_) (fun E1 M1 x1 => ?_)
  · exact V_ireturnX g r rfl dL_floors_9 rfl (Or.inl e1)
  · rcases hΞ E1 M1 x1 with rfl | rfl
    · refine V_catch (q := 10) g r [] ⟨0, 9, 10, 13⟩ [⟨0, 9, 15, 16⟩] rfl (fun z hz => nomatch hz) rfl (by decide) cl_IA rfl (fun qa => ?_)
      refine V_astore_5 (q := 12) g dL_floors_10 (by decide) rfl rfl ?_
      refine V_ldc (q := 14) g dL_floors_12 (z := (-9999002)) q_L_15 (by decide) rfl ?_
      exact V_ireturnX g r rfl dL_floors_14 rfl (Or.inr (Or.inl ⟨rfl, x1⟩))
    · refine V_catch (q := 15) g r [⟨0, 9, 10, 13⟩] ⟨0, 9, 15, 16⟩ [] rfl (fun z hz => by
        simp only [List.mem_cons, List.not_mem_nil, or_false] at hz
        rcases hz with rfl
        · exact ⟨by decide, xIA, cl_IA, List.mem_of_getElem? (i := 2) rfl⟩) rfl (by decide) cl_IS rfl (fun qa => ?_)
      refine V_astore_5 (q := 17) g dL_floors_15 (by decide) rfl rfl ?_
      refine V_ldc (q := 19) g dL_floors_17 (z := (-9999003)) q_L_18 (by decide) rfl ?_
      exact V_ireturnX g r rfl dL_floors_19 rfl (Or.inr (Or.inr (⟨rfl, x1⟩)))
abbrev rm_L_doScript : Room := { frames := 7, cells := 1, slots := 6, locals := 172 }
set_option maxHeartbeats 4000000 in
set_option maxRecDepth 100000 in
theorem h_doScript (l : Launch) {D : DD} {Λ : LY} {M : MM} {s : Nat} {fl : List (Option Nat)} {a1 a2 : Int} {Ψ : Int → MM → Prop} {Ξ : String → MM → Prop} (hM : CXI l yX4_runScript cX4_runScript 6 .int rm_X4_runScript [.ref s, vi a1, vl a2] D Λ M Ψ Ξ) (hs : Λ s = some (kO 4 fl)) (hΞ : ∀ E M1, Ξ E M1 → E = xIA) : CXH l yL_doScript cL_doScript 5 .int [(0, 6, 7, 13)] rm_L_doScript [.ref s, vi a1, vl a2] D Λ M (fun z M1 => (Ψ z M1) ∨ (z = -9999002 ∧ (Ξ xIA M1))) := by
  refine CXH_of rfl rfl (Nat.le_of_ble_eq_true rfl) (fun Γ g r => ?_)
  refine V_aload_n (q := 1) g dL_doScript_0 rfl rfl ?_
  refine V_iload_n (q := 2) g dL_doScript_1 rfl rfl ?_
  refine V_lload_n (q := 3) g dL_doScript_2 rfl rfl ?_
  refine V_callVXI_2 (q := 6) g hM dL_doScript_3 k_L_19 hs rfl rfl rfl rfl rfl (fun z1 M1 e1 => ?_) (fun E1 M1 x1 => ?_)
  · exact V_ireturnX g r rfl dL_doScript_6 rfl (Or.inl e1)
  · rcases hΞ E1 M1 x1 with rfl
    · refine V_catch (q := 7) g r [] ⟨0, 6, 7, 13⟩ [] rfl (fun z hz => nomatch hz) rfl (by decide) cl_IA rfl (fun qa => ?_)
      refine V_astore_4 (q := 9) g dL_doScript_7 (by decide) rfl rfl ?_
      refine V_ldc (q := 11) g dL_doScript_9 (z := (-9999002)) q_L_15 (by decide) rfl ?_
      exact V_ireturnX g r rfl dL_doScript_11 rfl (Or.inr (⟨rfl, x1⟩))
abbrev rm_L_doSimulate : Room := { frames := 7, cells := 1, slots := 6, locals := 171 }
set_option maxHeartbeats 4000000 in
set_option maxRecDepth 100000 in
theorem h_doSimulate (l : Launch) {D : DD} {Λ : LY} {M : MM} {s : Nat} {fl : List (Option Nat)} {a1 a2 : Int} {Ψ : Int → MM → Prop} {Ξ : String → MM → Prop} (hM : CXI l yX4_simulate cX4_simulate 8 .int rm_X4_simulate [.ref s, vl a1, vi a2] D Λ M Ψ Ξ) (hs : Λ s = some (kO 4 fl)) (hΞ : ∀ E M1, Ξ E M1 → E = xIA) : CXH l yL_doSimulate cL_doSimulate 5 .int [(0, 6, 7, 13)] rm_L_doSimulate [.ref s, vl a1, vi a2] D Λ M (fun z M1 => (Ψ z M1) ∨ (z = -9999002 ∧ (Ξ xIA M1))) := by
  refine CXH_of rfl rfl (Nat.le_of_ble_eq_true rfl) (fun Γ g r => ?_)
  refine V_aload_n (q := 1) g dL_doSimulate_0 rfl rfl ?_
  refine V_lload_n (q := 2) g dL_doSimulate_1 rfl rfl ?_
  refine V_iload_n (q := 3) g dL_doSimulate_2 rfl rfl ?_
  refine V_callVXI_2 (q := 6) g hM dL_doSimulate_3 k_L_23 hs rfl rfl rfl rfl rfl (fun z1 M1 e1 => ?_) (fun E1 M1 x1 => ?_)
  · exact V_ireturnX g r rfl dL_doSimulate_6 rfl (Or.inl e1)
  · rcases hΞ E1 M1 x1 with rfl
    · refine V_catch (q := 7) g r [] ⟨0, 6, 7, 13⟩ [] rfl (fun z hz => nomatch hz) rfl (by decide) cl_IA rfl (fun qa => ?_)
      refine V_astore_4 (q := 9) g dL_doSimulate_7 (by decide) rfl rfl ?_
      refine V_ldc (q := 11) g dL_doSimulate_9 (z := (-9999002)) q_L_15 (by decide) rfl ?_
      exact V_ireturnX g r rfl dL_doSimulate_11 rfl (Or.inr (⟨rfl, x1⟩))
abbrev rm_L_tryAppend : Room := { frames := 7, cells := 1, slots := 6, locals := 111 }
set_option maxHeartbeats 4000000 in
set_option maxRecDepth 100000 in
theorem h_tryAppend (l : Launch) {D : DD} {Λ : LY} {M : MM} {s : Nat} {fl : List (Option Nat)} {a1 : Int} {Ψ : Int → MM → Prop} {Ξ : String → MM → Prop} (hM : CXI l yX4_append cX4_append 2 .int rm_X4_append [.ref s, vi a1] D Λ M Ψ Ξ) (hs : Λ s = some (kO 4 fl)) (hΞ : ∀ E M1, Ξ E M1 → E = xIA ∨ E = xIS) : CXH l yL_tryAppend cL_tryAppend 3 .int [(0, 5, 6, 13), (0, 5, 10, 16)] rm_L_tryAppend [.ref s, vi a1] D Λ M (fun z M1 => (Ψ z M1) ∨ (z = -9999002 ∧ (Ξ xIA M1)) ∨ (z = -9999003 ∧ (Ξ xIS M1))) := by
  refine CXH_of rfl rfl (Nat.le_of_ble_eq_true rfl) (fun Γ g r => ?_)
  refine V_aload_n (q := 1) g dL_tryAppend_0 rfl rfl ?_
  refine V_iload_n (q := 2) g dL_tryAppend_1 rfl rfl ?_
  refine V_callVXI_1 (q := 5) g hM dL_tryAppend_2 k_L_27 hs rfl rfl rfl rfl rfl (fun z1 M1 e1 => ?_) (fun E1 M1 x1 => ?_)
  · exact V_ireturnX g r rfl dL_tryAppend_5 rfl (Or.inl e1)
  · rcases hΞ E1 M1 x1 with rfl | rfl
    · refine V_catch (q := 6) g r [] ⟨0, 5, 6, 13⟩ [⟨0, 5, 10, 16⟩] rfl (fun z hz => nomatch hz) rfl (by decide) cl_IA rfl (fun qa => ?_)
      refine V_astore_n_2 (q := 7) g dL_tryAppend_6 (by decide) rfl rfl ?_
      refine V_ldc (q := 9) g dL_tryAppend_7 (z := (-9999002)) q_L_15 (by decide) rfl ?_
      exact V_ireturnX g r rfl dL_tryAppend_9 rfl (Or.inr (Or.inl ⟨rfl, x1⟩))
    · refine V_catch (q := 10) g r [⟨0, 5, 6, 13⟩] ⟨0, 5, 10, 16⟩ [] rfl (fun z hz => by
        simp only [List.mem_cons, List.not_mem_nil, or_false] at hz
        rcases hz with rfl
        · exact ⟨by decide, xIA, cl_IA, List.mem_of_getElem? (i := 2) rfl⟩) rfl (by decide) cl_IS rfl (fun qa => ?_)
      refine V_astore_n_2 (q := 11) g dL_tryAppend_10 (by decide) rfl rfl ?_
      refine V_ldc (q := 13) g dL_tryAppend_11 (z := (-9999003)) q_L_18 (by decide) rfl ?_
      exact V_ireturnX g r rfl dL_tryAppend_13 rfl (Or.inr (Or.inr (⟨rfl, x1⟩)))
abbrev rm_L_tryAbout : Room := { frames := 7, cells := 1, slots := 6, locals := 111 }
set_option maxHeartbeats 4000000 in
set_option maxRecDepth 100000 in
theorem h_tryAbout (l : Launch) {D : DD} {Λ : LY} {M : MM} {s : Nat} {fl : List (Option Nat)} {a1 : Int} {Ψ : Int → MM → Prop} {Ξ : String → MM → Prop} (hM : CXI l yX4_about cX4_about 2 .int rm_X4_about [.ref s, vi a1] D Λ M Ψ Ξ) (hs : Λ s = some (kO 4 fl)) (hΞ : ∀ E M1, Ξ E M1 → E = xIA) : CXH l yL_tryAbout cL_tryAbout 3 .int [(0, 5, 6, 13)] rm_L_tryAbout [.ref s, vi a1] D Λ M (fun z M1 => (Ψ z M1) ∨ (z = -9999002 ∧ (Ξ xIA M1))) := by
  refine CXH_of rfl rfl (Nat.le_of_ble_eq_true rfl) (fun Γ g r => ?_)
  refine V_aload_n (q := 1) g dL_tryAbout_0 rfl rfl ?_
  refine V_iload_n (q := 2) g dL_tryAbout_1 rfl rfl ?_
  refine V_callVXI_1 (q := 5) g hM dL_tryAbout_2 k_L_35 hs rfl rfl rfl rfl rfl (fun z1 M1 e1 => ?_) (fun E1 M1 x1 => ?_)
  · exact V_ireturnX g r rfl dL_tryAbout_5 rfl (Or.inl e1)
  · rcases hΞ E1 M1 x1 with rfl
    · refine V_catch (q := 6) g r [] ⟨0, 5, 6, 13⟩ [] rfl (fun z hz => nomatch hz) rfl (by decide) cl_IA rfl (fun qa => ?_)
      refine V_astore_n_2 (q := 7) g dL_tryAbout_6 (by decide) rfl rfl ?_
      refine V_ldc (q := 9) g dL_tryAbout_7 (z := (-9999002)) q_L_15 (by decide) rfl ?_
      exact V_ireturnX g r rfl dL_tryAbout_9 rfl (Or.inr (⟨rfl, x1⟩))
abbrev rm_L_tryChair : Room := { frames := 8, cells := 2, slots := 12, locals := 133 }
set_option maxHeartbeats 4000000 in
set_option maxRecDepth 100000 in
theorem h_tryChair (l : Launch) {D : DD} {Λ : LY} {M : MM} {s : Nat} {fl : List (Option Nat)} {a1 a2 : Int} {Ψ : Int → MM → Prop} {Ξ : String → MM → Prop} (hM : CXI l yX4_chairOf cX4_chairOf 3 .int rm_X4_chairOf [.ref s, vi a1, vi a2] D Λ M Ψ Ξ) (hs : Λ s = some (kO 4 fl)) (hΞ : ∀ E M1, Ξ E M1 → E = xIO ∨ E = xIA) : CXH l yL_tryChair cL_tryChair 4 .int [(0, 6, 7, 42), (0, 6, 11, 13)] rm_L_tryChair [.ref s, vi a1, vi a2] D Λ M (fun z M1 => (Ψ z M1) ∨ (z = -9999001 ∧ (Ξ xIO M1)) ∨ (z = -9999002 ∧ (Ξ xIA M1))) := by
  refine CXH_of rfl rfl (Nat.le_of_ble_eq_true rfl) (fun Γ g r => ?_)
  refine V_aload_n (q := 1) g dL_tryChair_0 rfl rfl ?_
  refine V_iload_n (q := 2) g dL_tryChair_1 rfl rfl ?_
  refine V_iload_n (q := 3) g dL_tryChair_2 rfl rfl ?_
  refine V_callVXI_2 (q := 6) g hM dL_tryChair_3 k_L_38 hs rfl rfl rfl rfl rfl (fun z1 M1 e1 => ?_) (fun E1 M1 x1 => ?_)
  · exact V_ireturnX g r rfl dL_tryChair_6 rfl (Or.inl e1)
  · rcases hΞ E1 M1 x1 with rfl | rfl
    · refine V_catch (q := 7) g r [] ⟨0, 6, 7, 42⟩ [⟨0, 6, 11, 13⟩] rfl (fun z hz => nomatch hz) rfl (by decide) cl_IO rfl (fun qa => ?_)
      refine V_astore_n_3 (q := 8) g dL_tryChair_7 (by decide) rfl rfl ?_
      refine V_ldc (q := 10) g dL_tryChair_8 (z := (-9999001)) q_L_44 (by decide) rfl ?_
      exact V_ireturnX g r rfl dL_tryChair_10 rfl (Or.inr (Or.inl ⟨rfl, x1⟩))
    · refine V_catch (q := 11) g r [⟨0, 6, 7, 42⟩] ⟨0, 6, 11, 13⟩ [] rfl (fun z hz => by
        simp only [List.mem_cons, List.not_mem_nil, or_false] at hz
        rcases hz with rfl
        · exact ⟨by decide, xIO, cl_IO, List.mem_of_getElem? (i := 1) rfl⟩) rfl (by decide) cl_IA rfl (fun qa => ?_)
      refine V_astore_n_3 (q := 12) g dL_tryChair_11 (by decide) rfl rfl ?_
      refine V_ldc (q := 14) g dL_tryChair_12 (z := (-9999002)) q_L_15 (by decide) rfl ?_
      exact V_ireturnX g r rfl dL_tryChair_14 rfl (Or.inr (Or.inr (⟨rfl, x1⟩)))
abbrev rm_L_tryWobble : Room := { frames := 8, cells := 2, slots := 12, locals := 136 }
set_option maxHeartbeats 4000000 in
set_option maxRecDepth 100000 in
theorem h_tryWobble (l : Launch) {D : DD} {Λ : LY} {M : MM} {s : Nat} {fl : List (Option Nat)} {a1 a2 : Int} {Ψ : Int → MM → Prop} {Ξ : String → MM → Prop} (hM : CXI l yX4_wobble cX4_wobble 3 .int rm_X4_wobble [.ref s, vi a1, vi a2] D Λ M Ψ Ξ) (hs : Λ s = some (kO 4 fl)) (hΞ : ∀ E M1, Ξ E M1 → E = xIO ∨ E = xIA) : CXH l yL_tryWobble cL_tryWobble 4 .int [(0, 6, 7, 42), (0, 6, 11, 13)] rm_L_tryWobble [.ref s, vi a1, vi a2] D Λ M (fun z M1 => (Ψ z M1) ∨ (z = -9999001 ∧ (Ξ xIO M1)) ∨ (z = -9999002 ∧ (Ξ xIA M1))) := by
  refine CXH_of rfl rfl (Nat.le_of_ble_eq_true rfl) (fun Γ g r => ?_)
  refine V_aload_n (q := 1) g dL_tryWobble_0 rfl rfl ?_
  refine V_iload_n (q := 2) g dL_tryWobble_1 rfl rfl ?_
  refine V_iload_n (q := 3) g dL_tryWobble_2 rfl rfl ?_
  refine V_callVXI_2 (q := 6) g hM dL_tryWobble_3 k_L_45 hs rfl rfl rfl rfl rfl (fun z1 M1 e1 => ?_) (fun E1 M1 x1 => ?_)
  · exact V_ireturnX g r rfl dL_tryWobble_6 rfl (Or.inl e1)
  · rcases hΞ E1 M1 x1 with rfl | rfl
    · refine V_catch (q := 7) g r [] ⟨0, 6, 7, 42⟩ [⟨0, 6, 11, 13⟩] rfl (fun z hz => nomatch hz) rfl (by decide) cl_IO rfl (fun qa => ?_)
      refine V_astore_n_3 (q := 8) g dL_tryWobble_7 (by decide) rfl rfl ?_
      refine V_ldc (q := 10) g dL_tryWobble_8 (z := (-9999001)) q_L_44 (by decide) rfl ?_
      exact V_ireturnX g r rfl dL_tryWobble_10 rfl (Or.inr (Or.inl ⟨rfl, x1⟩))
    · refine V_catch (q := 11) g r [⟨0, 6, 7, 42⟩] ⟨0, 6, 11, 13⟩ [] rfl (fun z hz => by
        simp only [List.mem_cons, List.not_mem_nil, or_false] at hz
        rcases hz with rfl
        · exact ⟨by decide, xIO, cl_IO, List.mem_of_getElem? (i := 1) rfl⟩) rfl (by decide) cl_IA rfl (fun qa => ?_)
      refine V_astore_n_3 (q := 12) g dL_tryWobble_11 (by decide) rfl rfl ?_
      refine V_ldc (q := 14) g dL_tryWobble_12 (z := (-9999002)) q_L_15 (by decide) rfl ?_
      exact V_ireturnX g r rfl dL_tryWobble_14 rfl (Or.inr (Or.inr (⟨rfl, x1⟩)))
abbrev rm_L_tryLeg : Room := { frames := 8, cells := 3, slots := 18, locals := 134 }
set_option maxHeartbeats 4000000 in
set_option maxRecDepth 100000 in
theorem h_tryLeg (l : Launch) {D : DD} {Λ : LY} {M : MM} {s : Nat} {fl : List (Option Nat)} {a1 a2 a3 : Int} {Ψ : Int → MM → Prop} {Ξ : String → MM → Prop} (hM : CXI l yX4_legOf cX4_legOf 4 .int rm_X4_legOf [.ref s, vi a1, vi a2, vi a3] D Λ M Ψ Ξ) (hs : Λ s = some (kO 4 fl)) (hΞ : ∀ E M1, Ξ E M1 → E = xIO ∨ E = xIA) : CXH l yL_tryLeg cL_tryLeg 5 .int [(0, 7, 8, 42), (0, 7, 13, 13)] rm_L_tryLeg [.ref s, vi a1, vi a2, vi a3] D Λ M (fun z M1 => (Ψ z M1) ∨ (z = -9999001 ∧ (Ξ xIO M1)) ∨ (z = -9999002 ∧ (Ξ xIA M1))) := by
  refine CXH_of rfl rfl (Nat.le_of_ble_eq_true rfl) (fun Γ g r => ?_)
  refine V_aload_n (q := 1) g dL_tryLeg_0 rfl rfl ?_
  refine V_iload_n (q := 2) g dL_tryLeg_1 rfl rfl ?_
  refine V_iload_n (q := 3) g dL_tryLeg_2 rfl rfl ?_
  refine V_iload_n (q := 4) g dL_tryLeg_3 rfl rfl ?_
  refine V_callVXI_3 (q := 7) g hM dL_tryLeg_4 k_L_48 hs rfl rfl rfl rfl rfl (fun z1 M1 e1 => ?_) (fun E1 M1 x1 => ?_)
  · exact V_ireturnX g r rfl dL_tryLeg_7 rfl (Or.inl e1)
  · rcases hΞ E1 M1 x1 with rfl | rfl
    · refine V_catch (q := 8) g r [] ⟨0, 7, 8, 42⟩ [⟨0, 7, 13, 13⟩] rfl (fun z hz => nomatch hz) rfl (by decide) cl_IO rfl (fun qa => ?_)
      refine V_astore_4 (q := 10) g dL_tryLeg_8 (by decide) rfl rfl ?_
      refine V_ldc (q := 12) g dL_tryLeg_10 (z := (-9999001)) q_L_44 (by decide) rfl ?_
      exact V_ireturnX g r rfl dL_tryLeg_12 rfl (Or.inr (Or.inl ⟨rfl, x1⟩))
    · refine V_catch (q := 13) g r [⟨0, 7, 8, 42⟩] ⟨0, 7, 13, 13⟩ [] rfl (fun z hz => by
        simp only [List.mem_cons, List.not_mem_nil, or_false] at hz
        rcases hz with rfl
        · exact ⟨by decide, xIO, cl_IO, List.mem_of_getElem? (i := 1) rfl⟩) rfl (by decide) cl_IA rfl (fun qa => ?_)
      refine V_astore_4 (q := 15) g dL_tryLeg_13 (by decide) rfl rfl ?_
      refine V_ldc (q := 17) g dL_tryLeg_15 (z := (-9999002)) q_L_15 (by decide) rfl ?_
      exact V_ireturnX g r rfl dL_tryLeg_17 rfl (Or.inr (Or.inr (⟨rfl, x1⟩)))
abbrev rm_L_trySpot : Room := { frames := 8, cells := 2, slots := 12, locals := 133 }
set_option maxHeartbeats 4000000 in
set_option maxRecDepth 100000 in
theorem h_trySpot (l : Launch) {D : DD} {Λ : LY} {M : MM} {s : Nat} {fl : List (Option Nat)} {a1 a2 : Int} {Ψ : Int → MM → Prop} {Ξ : String → MM → Prop} (hM : CXI l yX4_spot cX4_spot 3 .int rm_X4_spot [.ref s, vi a1, vi a2] D Λ M Ψ Ξ) (hs : Λ s = some (kO 4 fl)) (hΞ : ∀ E M1, Ξ E M1 → E = xIO) : CXH l yL_trySpot cL_trySpot 4 .int [(0, 6, 7, 42)] rm_L_trySpot [.ref s, vi a1, vi a2] D Λ M (fun z M1 => (Ψ z M1) ∨ (z = -9999001 ∧ (Ξ xIO M1))) := by
  refine CXH_of rfl rfl (Nat.le_of_ble_eq_true rfl) (fun Γ g r => ?_)
  refine V_aload_n (q := 1) g dL_trySpot_0 rfl rfl ?_
  refine V_iload_n (q := 2) g dL_trySpot_1 rfl rfl ?_
  refine V_iload_n (q := 3) g dL_trySpot_2 rfl rfl ?_
  refine V_callVXI_2 (q := 6) g hM dL_trySpot_3 k_L_52 hs rfl rfl rfl rfl rfl (fun z1 M1 e1 => ?_) (fun E1 M1 x1 => ?_)
  · exact V_ireturnX g r rfl dL_trySpot_6 rfl (Or.inl e1)
  · rcases hΞ E1 M1 x1 with rfl
    · refine V_catch (q := 7) g r [] ⟨0, 6, 7, 42⟩ [] rfl (fun z hz => nomatch hz) rfl (by decide) cl_IO rfl (fun qa => ?_)
      refine V_astore_n_3 (q := 8) g dL_trySpot_7 (by decide) rfl rfl ?_
      refine V_ldc (q := 10) g dL_trySpot_8 (z := (-9999001)) q_L_44 (by decide) rfl ?_
      exact V_ireturnX g r rfl dL_trySpot_10 rfl (Or.inr (⟨rfl, x1⟩))
abbrev rm_L_tryBoundOf : Room := { frames := 8, cells := 2, slots := 12, locals := 132 }
set_option maxHeartbeats 4000000 in
set_option maxRecDepth 100000 in
theorem h_tryBoundOf (l : Launch) {D : DD} {Λ : LY} {M : MM} {s : Nat} {fl : List (Option Nat)} {a1 a2 : Int} {Ψ : Int → MM → Prop} {Ξ : String → MM → Prop} (hM : CXI l yX4_boundOf cX4_boundOf 3 .int rm_X4_boundOf [.ref s, vi a1, vi a2] D Λ M Ψ Ξ) (hs : Λ s = some (kO 4 fl)) (hΞ : ∀ E M1, Ξ E M1 → E = xIO) : CXH l yL_tryBoundOf cL_tryBoundOf 4 .int [(0, 6, 7, 42)] rm_L_tryBoundOf [.ref s, vi a1, vi a2] D Λ M (fun z M1 => (Ψ z M1) ∨ (z = -9999001 ∧ (Ξ xIO M1))) := by
  refine CXH_of rfl rfl (Nat.le_of_ble_eq_true rfl) (fun Γ g r => ?_)
  refine V_aload_n (q := 1) g dL_tryBoundOf_0 rfl rfl ?_
  refine V_iload_n (q := 2) g dL_tryBoundOf_1 rfl rfl ?_
  refine V_iload_n (q := 3) g dL_tryBoundOf_2 rfl rfl ?_
  refine V_callVXI_2 (q := 6) g hM dL_tryBoundOf_3 k_L_55 hs rfl rfl rfl rfl rfl (fun z1 M1 e1 => ?_) (fun E1 M1 x1 => ?_)
  · exact V_ireturnX g r rfl dL_tryBoundOf_6 rfl (Or.inl e1)
  · rcases hΞ E1 M1 x1 with rfl
    · refine V_catch (q := 7) g r [] ⟨0, 6, 7, 42⟩ [] rfl (fun z hz => nomatch hz) rfl (by decide) cl_IO rfl (fun qa => ?_)
      refine V_astore_n_3 (q := 8) g dL_tryBoundOf_7 (by decide) rfl rfl ?_
      refine V_ldc (q := 10) g dL_tryBoundOf_8 (z := (-9999001)) q_L_44 (by decide) rfl ?_
      exact V_ireturnX g r rfl dL_tryBoundOf_10 rfl (Or.inr (⟨rfl, x1⟩))
abbrev rm_L_trySetting : Room := { frames := 7, cells := 1, slots := 6, locals := 111 }
set_option maxHeartbeats 4000000 in
set_option maxRecDepth 100000 in
theorem h_trySetting (l : Launch) {D : DD} {Λ : LY} {M : MM} {s : Nat} {fl : List (Option Nat)} {a1 : Int} {Ψ : Int → MM → Prop} {Ξ : String → MM → Prop} (hM : CXI l yX4_setting cX4_setting 2 .int rm_X4_setting [.ref s, vi a1] D Λ M Ψ Ξ) (hs : Λ s = some (kO 4 fl)) (hΞ : ∀ E M1, Ξ E M1 → E = xIA) : CXH l yL_trySetting cL_trySetting 3 .int [(0, 5, 6, 13)] rm_L_trySetting [.ref s, vi a1] D Λ M (fun z M1 => (Ψ z M1) ∨ (z = -9999002 ∧ (Ξ xIA M1))) := by
  refine CXH_of rfl rfl (Nat.le_of_ble_eq_true rfl) (fun Γ g r => ?_)
  refine V_aload_n (q := 1) g dL_trySetting_0 rfl rfl ?_
  refine V_iload_n (q := 2) g dL_trySetting_1 rfl rfl ?_
  refine V_callVXI_1 (q := 5) g hM dL_trySetting_2 k_L_58 hs rfl rfl rfl rfl rfl (fun z1 M1 e1 => ?_) (fun E1 M1 x1 => ?_)
  · exact V_ireturnX g r rfl dL_trySetting_5 rfl (Or.inl e1)
  · rcases hΞ E1 M1 x1 with rfl
    · refine V_catch (q := 6) g r [] ⟨0, 5, 6, 13⟩ [] rfl (fun z hz => nomatch hz) rfl (by decide) cl_IA rfl (fun qa => ?_)
      refine V_astore_n_2 (q := 7) g dL_trySetting_6 (by decide) rfl rfl ?_
      refine V_ldc (q := 9) g dL_trySetting_7 (z := (-9999002)) q_L_15 (by decide) rfl ?_
      exact V_ireturnX g r rfl dL_trySetting_9 rfl (Or.inr (⟨rfl, x1⟩))
abbrev rm_L_tryComes : Room := { frames := 8, cells := 1, slots := 6, locals := 133 }
set_option maxHeartbeats 4000000 in
set_option maxRecDepth 100000 in
theorem h_tryComes (l : Launch) {D : DD} {Λ : LY} {M : MM} {s : Nat} {fl : List (Option Nat)} {a1 a2 : Int} {Ψ : Int → MM → Prop} {Ξ : String → MM → Prop} (hM : CXI l yX4_chair cX4_chair 3 .int rm_X4_chair [.ref s, vi a1, vi a2] D Λ M Ψ Ξ) (hs : Λ s = some (kO 4 fl)) (hΞ : ∀ E M1, Ξ E M1 → E = xIO ∨ E = xIA ∨ E = xIS) : CXH l yL_tryComes cL_tryComes 4 .int [(0, 6, 7, 42), (0, 6, 11, 13), (0, 6, 15, 16)] rm_L_tryComes [.ref s, vi a1, vi a2] D Λ M (fun z M1 => (Ψ z M1) ∨ (z = -9999001 ∧ (Ξ xIO M1)) ∨ (z = -9999002 ∧ (Ξ xIA M1)) ∨ (z = -9999003 ∧ (Ξ xIS M1))) := by
  refine CXH_of rfl rfl (Nat.le_of_ble_eq_true rfl) (fun Γ g r => ?_)
  refine V_aload_n (q := 1) g dL_tryComes_0 rfl rfl ?_
  refine V_iload_n (q := 2) g dL_tryComes_1 rfl rfl ?_
  refine V_iload_n (q := 3) g dL_tryComes_2 rfl rfl ?_
  refine V_callVXI_2 (q := 6) g hM dL_tryComes_3 k_L_61 hs rfl rfl rfl rfl rfl (fun z1 M1 e1 => ?_) (fun E1 M1 x1 => ?_)
  · exact V_ireturnX g r rfl dL_tryComes_6 rfl (Or.inl e1)
  · rcases hΞ E1 M1 x1 with rfl | rfl | rfl
    · refine V_catch (q := 7) g r [] ⟨0, 6, 7, 42⟩ [⟨0, 6, 11, 13⟩, ⟨0, 6, 15, 16⟩] rfl (fun z hz => nomatch hz) rfl (by decide) cl_IO rfl (fun qa => ?_)
      refine V_astore_n_3 (q := 8) g dL_tryComes_7 (by decide) rfl rfl ?_
      refine V_ldc (q := 10) g dL_tryComes_8 (z := (-9999001)) q_L_44 (by decide) rfl ?_
      exact V_ireturnX g r rfl dL_tryComes_10 rfl (Or.inr (Or.inl ⟨rfl, x1⟩))
    · refine V_catch (q := 11) g r [⟨0, 6, 7, 42⟩] ⟨0, 6, 11, 13⟩ [⟨0, 6, 15, 16⟩] rfl (fun z hz => by
        simp only [List.mem_cons, List.not_mem_nil, or_false] at hz
        rcases hz with rfl
        · exact ⟨by decide, xIO, cl_IO, List.mem_of_getElem? (i := 1) rfl⟩) rfl (by decide) cl_IA rfl (fun qa => ?_)
      refine V_astore_n_3 (q := 12) g dL_tryComes_11 (by decide) rfl rfl ?_
      refine V_ldc (q := 14) g dL_tryComes_12 (z := (-9999002)) q_L_15 (by decide) rfl ?_
      exact V_ireturnX g r rfl dL_tryComes_14 rfl (Or.inr (Or.inr (Or.inl ⟨rfl, x1⟩)))
    · refine V_catch (q := 15) g r [⟨0, 6, 7, 42⟩, ⟨0, 6, 11, 13⟩] ⟨0, 6, 15, 16⟩ [] rfl (fun z hz => by
        simp only [List.mem_cons, List.not_mem_nil, or_false] at hz
        rcases hz with rfl | rfl
        · exact ⟨by decide, xIO, cl_IO, List.mem_of_getElem? (i := 3) rfl⟩
        · exact ⟨by decide, xIA, cl_IA, List.mem_of_getElem? (i := 2) rfl⟩) rfl (by decide) cl_IS rfl (fun qa => ?_)
      refine V_astore_n_3 (q := 16) g dL_tryComes_15 (by decide) rfl rfl ?_
      refine V_ldc (q := 18) g dL_tryComes_16 (z := (-9999003)) q_L_18 (by decide) rfl ?_
      exact V_ireturnX g r rfl dL_tryComes_18 rfl (Or.inr (Or.inr (Or.inr (⟨rfl, x1⟩))))
abbrev rm_L_tryLevel : Room := { frames := 8, cells := 1, slots := 6, locals := 134 }
set_option maxHeartbeats 4000000 in
set_option maxRecDepth 100000 in
theorem h_tryLevel (l : Launch) {D : DD} {Λ : LY} {M : MM} {s : Nat} {fl : List (Option Nat)} {a1 a2 a3 : Int} {Ψ : Int → MM → Prop} {Ξ : String → MM → Prop} (hM : CXI l yX4_level cX4_level 4 .int rm_X4_level [.ref s, vi a1, vi a2, vi a3] D Λ M Ψ Ξ) (hs : Λ s = some (kO 4 fl)) (hΞ : ∀ E M1, Ξ E M1 → E = xIO ∨ E = xIA) : CXH l yL_tryLevel cL_tryLevel 5 .int [(0, 7, 8, 42), (0, 7, 13, 13)] rm_L_tryLevel [.ref s, vi a1, vi a2, vi a3] D Λ M (fun z M1 => (Ψ z M1) ∨ (z = -9999001 ∧ (Ξ xIO M1)) ∨ (z = -9999002 ∧ (Ξ xIA M1))) := by
  refine CXH_of rfl rfl (Nat.le_of_ble_eq_true rfl) (fun Γ g r => ?_)
  refine V_aload_n (q := 1) g dL_tryLevel_0 rfl rfl ?_
  refine V_iload_n (q := 2) g dL_tryLevel_1 rfl rfl ?_
  refine V_iload_n (q := 3) g dL_tryLevel_2 rfl rfl ?_
  refine V_iload_n (q := 4) g dL_tryLevel_3 rfl rfl ?_
  refine V_callVXI_3 (q := 7) g hM dL_tryLevel_4 k_L_64 hs rfl rfl rfl rfl rfl (fun z1 M1 e1 => ?_) (fun E1 M1 x1 => ?_)
  · exact V_ireturnX g r rfl dL_tryLevel_7 rfl (Or.inl e1)
  · rcases hΞ E1 M1 x1 with rfl | rfl
    · refine V_catch (q := 8) g r [] ⟨0, 7, 8, 42⟩ [⟨0, 7, 13, 13⟩] rfl (fun z hz => nomatch hz) rfl (by decide) cl_IO rfl (fun qa => ?_)
      refine V_astore_4 (q := 10) g dL_tryLevel_8 (by decide) rfl rfl ?_
      refine V_ldc (q := 12) g dL_tryLevel_10 (z := (-9999001)) q_L_44 (by decide) rfl ?_
      exact V_ireturnX g r rfl dL_tryLevel_12 rfl (Or.inr (Or.inl ⟨rfl, x1⟩))
    · refine V_catch (q := 13) g r [⟨0, 7, 8, 42⟩] ⟨0, 7, 13, 13⟩ [] rfl (fun z hz => by
        simp only [List.mem_cons, List.not_mem_nil, or_false] at hz
        rcases hz with rfl
        · exact ⟨by decide, xIO, cl_IO, List.mem_of_getElem? (i := 1) rfl⟩) rfl (by decide) cl_IA rfl (fun qa => ?_)
      refine V_astore_4 (q := 15) g dL_tryLevel_13 (by decide) rfl rfl ?_
      refine V_ldc (q := 17) g dL_tryLevel_15 (z := (-9999002)) q_L_15 (by decide) rfl ?_
      exact V_ireturnX g r rfl dL_tryLevel_17 rfl (Or.inr (Or.inr (⟨rfl, x1⟩)))
abbrev rm_L_tryBring : Room := { frames := 8, cells := 1, slots := 6, locals := 134 }
set_option maxHeartbeats 4000000 in
set_option maxRecDepth 100000 in
theorem h_tryBring (l : Launch) {D : DD} {Λ : LY} {M : MM} {s : Nat} {fl : List (Option Nat)} {a1 a2 a3 : Int} {Ψ : Int → MM → Prop} {Ξ : String → MM → Prop} (hM : CXI l yX4_bring cX4_bring 4 .int rm_X4_bring [.ref s, vi a1, vi a2, vi a3] D Λ M Ψ Ξ) (hs : Λ s = some (kO 4 fl)) (hΞ : ∀ E M1, Ξ E M1 → E = xIO ∨ E = xIA) : CXH l yL_tryBring cL_tryBring 5 .int [(0, 7, 8, 42), (0, 7, 13, 13)] rm_L_tryBring [.ref s, vi a1, vi a2, vi a3] D Λ M (fun z M1 => (Ψ z M1) ∨ (z = -9999001 ∧ (Ξ xIO M1)) ∨ (z = -9999002 ∧ (Ξ xIA M1))) := by
  refine CXH_of rfl rfl (Nat.le_of_ble_eq_true rfl) (fun Γ g r => ?_)
  refine V_aload_n (q := 1) g dL_tryBring_0 rfl rfl ?_
  refine V_iload_n (q := 2) g dL_tryBring_1 rfl rfl ?_
  refine V_iload_n (q := 3) g dL_tryBring_2 rfl rfl ?_
  refine V_iload_n (q := 4) g dL_tryBring_3 rfl rfl ?_
  refine V_callVXI_3 (q := 7) g hM dL_tryBring_4 k_L_67 hs rfl rfl rfl rfl rfl (fun z1 M1 e1 => ?_) (fun E1 M1 x1 => ?_)
  · exact V_ireturnX g r rfl dL_tryBring_7 rfl (Or.inl e1)
  · rcases hΞ E1 M1 x1 with rfl | rfl
    · refine V_catch (q := 8) g r [] ⟨0, 7, 8, 42⟩ [⟨0, 7, 13, 13⟩] rfl (fun z hz => nomatch hz) rfl (by decide) cl_IO rfl (fun qa => ?_)
      refine V_astore_4 (q := 10) g dL_tryBring_8 (by decide) rfl rfl ?_
      refine V_ldc (q := 12) g dL_tryBring_10 (z := (-9999001)) q_L_44 (by decide) rfl ?_
      exact V_ireturnX g r rfl dL_tryBring_12 rfl (Or.inr (Or.inl ⟨rfl, x1⟩))
    · refine V_catch (q := 13) g r [⟨0, 7, 8, 42⟩] ⟨0, 7, 13, 13⟩ [] rfl (fun z hz => by
        simp only [List.mem_cons, List.not_mem_nil, or_false] at hz
        rcases hz with rfl
        · exact ⟨by decide, xIO, cl_IO, List.mem_of_getElem? (i := 1) rfl⟩) rfl (by decide) cl_IA rfl (fun qa => ?_)
      refine V_astore_4 (q := 15) g dL_tryBring_13 (by decide) rfl rfl ?_
      refine V_ldc (q := 17) g dL_tryBring_15 (z := (-9999002)) q_L_15 (by decide) rfl ?_
      exact V_ireturnX g r rfl dL_tryBring_17 rfl (Or.inr (Or.inr (⟨rfl, x1⟩)))
abbrev rm_L_trySaw : Room := { frames := 8, cells := 1, slots := 6, locals := 134 }
set_option maxHeartbeats 4000000 in
set_option maxRecDepth 100000 in
theorem h_trySaw (l : Launch) {D : DD} {Λ : LY} {M : MM} {s : Nat} {fl : List (Option Nat)} {a1 a2 a3 : Int} {Ψ : Int → MM → Prop} {Ξ : String → MM → Prop} (hM : CXI l yX4_saw cX4_saw 4 .int rm_X4_saw [.ref s, vi a1, vi a2, vi a3] D Λ M Ψ Ξ) (hs : Λ s = some (kO 4 fl)) (hΞ : ∀ E M1, Ξ E M1 → E = xIO ∨ E = xIA ∨ E = xIS) : CXH l yL_trySaw cL_trySaw 5 .int [(0, 7, 8, 42), (0, 7, 13, 13), (0, 7, 18, 16)] rm_L_trySaw [.ref s, vi a1, vi a2, vi a3] D Λ M (fun z M1 => (Ψ z M1) ∨ (z = -9999001 ∧ (Ξ xIO M1)) ∨ (z = -9999002 ∧ (Ξ xIA M1)) ∨ (z = -9999003 ∧ (Ξ xIS M1))) := by
  refine CXH_of rfl rfl (Nat.le_of_ble_eq_true rfl) (fun Γ g r => ?_)
  refine V_aload_n (q := 1) g dL_trySaw_0 rfl rfl ?_
  refine V_iload_n (q := 2) g dL_trySaw_1 rfl rfl ?_
  refine V_iload_n (q := 3) g dL_trySaw_2 rfl rfl ?_
  refine V_iload_n (q := 4) g dL_trySaw_3 rfl rfl ?_
  refine V_callVXI_3 (q := 7) g hM dL_trySaw_4 k_L_70 hs rfl rfl rfl rfl rfl (fun z1 M1 e1 => ?_) (fun E1 M1 x1 => ?_)
  · exact V_ireturnX g r rfl dL_trySaw_7 rfl (Or.inl e1)
  · rcases hΞ E1 M1 x1 with rfl | rfl | rfl
    · refine V_catch (q := 8) g r [] ⟨0, 7, 8, 42⟩ [⟨0, 7, 13, 13⟩, ⟨0, 7, 18, 16⟩] rfl (fun z hz => nomatch hz) rfl (by decide) cl_IO rfl (fun qa => ?_)
      refine V_astore_4 (q := 10) g dL_trySaw_8 (by decide) rfl rfl ?_
      refine V_ldc (q := 12) g dL_trySaw_10 (z := (-9999001)) q_L_44 (by decide) rfl ?_
      exact V_ireturnX g r rfl dL_trySaw_12 rfl (Or.inr (Or.inl ⟨rfl, x1⟩))
    · refine V_catch (q := 13) g r [⟨0, 7, 8, 42⟩] ⟨0, 7, 13, 13⟩ [⟨0, 7, 18, 16⟩] rfl (fun z hz => by
        simp only [List.mem_cons, List.not_mem_nil, or_false] at hz
        rcases hz with rfl
        · exact ⟨by decide, xIO, cl_IO, List.mem_of_getElem? (i := 1) rfl⟩) rfl (by decide) cl_IA rfl (fun qa => ?_)
      refine V_astore_4 (q := 15) g dL_trySaw_13 (by decide) rfl rfl ?_
      refine V_ldc (q := 17) g dL_trySaw_15 (z := (-9999002)) q_L_15 (by decide) rfl ?_
      exact V_ireturnX g r rfl dL_trySaw_17 rfl (Or.inr (Or.inr (Or.inl ⟨rfl, x1⟩)))
    · refine V_catch (q := 18) g r [⟨0, 7, 8, 42⟩, ⟨0, 7, 13, 13⟩] ⟨0, 7, 18, 16⟩ [] rfl (fun z hz => by
        simp only [List.mem_cons, List.not_mem_nil, or_false] at hz
        rcases hz with rfl | rfl
        · exact ⟨by decide, xIO, cl_IO, List.mem_of_getElem? (i := 3) rfl⟩
        · exact ⟨by decide, xIA, cl_IA, List.mem_of_getElem? (i := 2) rfl⟩) rfl (by decide) cl_IS rfl (fun qa => ?_)
      refine V_astore_4 (q := 20) g dL_trySaw_18 (by decide) rfl rfl ?_
      refine V_ldc (q := 22) g dL_trySaw_20 (z := (-9999003)) q_L_18 (by decide) rfl ?_
      exact V_ireturnX g r rfl dL_trySaw_22 rfl (Or.inr (Or.inr (Or.inr (⟨rfl, x1⟩))))
abbrev rm_L_tryShim : Room := { frames := 8, cells := 1, slots := 6, locals := 134 }
set_option maxHeartbeats 4000000 in
set_option maxRecDepth 100000 in
theorem h_tryShim (l : Launch) {D : DD} {Λ : LY} {M : MM} {s : Nat} {fl : List (Option Nat)} {a1 a2 a3 : Int} {Ψ : Int → MM → Prop} {Ξ : String → MM → Prop} (hM : CXI l yX4_shim cX4_shim 4 .int rm_X4_shim [.ref s, vi a1, vi a2, vi a3] D Λ M Ψ Ξ) (hs : Λ s = some (kO 4 fl)) (hΞ : ∀ E M1, Ξ E M1 → E = xIO ∨ E = xIA ∨ E = xIS) : CXH l yL_tryShim cL_tryShim 5 .int [(0, 7, 8, 42), (0, 7, 13, 13), (0, 7, 18, 16)] rm_L_tryShim [.ref s, vi a1, vi a2, vi a3] D Λ M (fun z M1 => (Ψ z M1) ∨ (z = -9999001 ∧ (Ξ xIO M1)) ∨ (z = -9999002 ∧ (Ξ xIA M1)) ∨ (z = -9999003 ∧ (Ξ xIS M1))) := by
  refine CXH_of rfl rfl (Nat.le_of_ble_eq_true rfl) (fun Γ g r => ?_)
  refine V_aload_n (q := 1) g dL_tryShim_0 rfl rfl ?_
  refine V_iload_n (q := 2) g dL_tryShim_1 rfl rfl ?_
  refine V_iload_n (q := 3) g dL_tryShim_2 rfl rfl ?_
  refine V_iload_n (q := 4) g dL_tryShim_3 rfl rfl ?_
  refine V_callVXI_3 (q := 7) g hM dL_tryShim_4 k_L_73 hs rfl rfl rfl rfl rfl (fun z1 M1 e1 => ?_) (fun E1 M1 x1 => ?_)
  · exact V_ireturnX g r rfl dL_tryShim_7 rfl (Or.inl e1)
  · rcases hΞ E1 M1 x1 with rfl | rfl | rfl
    · refine V_catch (q := 8) g r [] ⟨0, 7, 8, 42⟩ [⟨0, 7, 13, 13⟩, ⟨0, 7, 18, 16⟩] rfl (fun z hz => nomatch hz) rfl (by decide) cl_IO rfl (fun qa => ?_)
      refine V_astore_4 (q := 10) g dL_tryShim_8 (by decide) rfl rfl ?_
      refine V_ldc (q := 12) g dL_tryShim_10 (z := (-9999001)) q_L_44 (by decide) rfl ?_
      exact V_ireturnX g r rfl dL_tryShim_12 rfl (Or.inr (Or.inl ⟨rfl, x1⟩))
    · refine V_catch (q := 13) g r [⟨0, 7, 8, 42⟩] ⟨0, 7, 13, 13⟩ [⟨0, 7, 18, 16⟩] rfl (fun z hz => by
        simp only [List.mem_cons, List.not_mem_nil, or_false] at hz
        rcases hz with rfl
        · exact ⟨by decide, xIO, cl_IO, List.mem_of_getElem? (i := 1) rfl⟩) rfl (by decide) cl_IA rfl (fun qa => ?_)
      refine V_astore_4 (q := 15) g dL_tryShim_13 (by decide) rfl rfl ?_
      refine V_ldc (q := 17) g dL_tryShim_15 (z := (-9999002)) q_L_15 (by decide) rfl ?_
      exact V_ireturnX g r rfl dL_tryShim_17 rfl (Or.inr (Or.inr (Or.inl ⟨rfl, x1⟩)))
    · refine V_catch (q := 18) g r [⟨0, 7, 8, 42⟩, ⟨0, 7, 13, 13⟩] ⟨0, 7, 18, 16⟩ [] rfl (fun z hz => by
        simp only [List.mem_cons, List.not_mem_nil, or_false] at hz
        rcases hz with rfl | rfl
        · exact ⟨by decide, xIO, cl_IO, List.mem_of_getElem? (i := 3) rfl⟩
        · exact ⟨by decide, xIA, cl_IA, List.mem_of_getElem? (i := 2) rfl⟩) rfl (by decide) cl_IS rfl (fun qa => ?_)
      refine V_astore_4 (q := 20) g dL_tryShim_18 (by decide) rfl rfl ?_
      refine V_ldc (q := 22) g dL_tryShim_20 (z := (-9999003)) q_L_18 (by decide) rfl ?_
      exact V_ireturnX g r rfl dL_tryShim_22 rfl (Or.inr (Or.inr (Or.inr (⟨rfl, x1⟩))))
abbrev rm_L_tryTest : Room := { frames := 8, cells := 1, slots := 6, locals := 140 }
set_option maxHeartbeats 4000000 in
set_option maxRecDepth 100000 in
theorem h_tryTest (l : Launch) {D : DD} {Λ : LY} {M : MM} {s : Nat} {fl : List (Option Nat)} {a1 : Int} {Ψ : Int → MM → Prop} {Ξ : String → MM → Prop} (hM : CXI l yX4_test cX4_test 2 .int rm_X4_test [.ref s, vi a1] D Λ M Ψ Ξ) (hs : Λ s = some (kO 4 fl)) (hΞ : ∀ E M1, Ξ E M1 → E = xIO) : CXH l yL_tryTest cL_tryTest 3 .int [(0, 5, 6, 42)] rm_L_tryTest [.ref s, vi a1] D Λ M (fun z M1 => (Ψ z M1) ∨ (z = -9999001 ∧ (Ξ xIO M1))) := by
  refine CXH_of rfl rfl (Nat.le_of_ble_eq_true rfl) (fun Γ g r => ?_)
  refine V_aload_n (q := 1) g dL_tryTest_0 rfl rfl ?_
  refine V_iload_n (q := 2) g dL_tryTest_1 rfl rfl ?_
  refine V_callVXI_1 (q := 5) g hM dL_tryTest_2 k_L_76 hs rfl rfl rfl rfl rfl (fun z1 M1 e1 => ?_) (fun E1 M1 x1 => ?_)
  · exact V_ireturnX g r rfl dL_tryTest_5 rfl (Or.inl e1)
  · rcases hΞ E1 M1 x1 with rfl
    · refine V_catch (q := 6) g r [] ⟨0, 5, 6, 42⟩ [] rfl (fun z hz => nomatch hz) rfl (by decide) cl_IO rfl (fun qa => ?_)
      refine V_astore_n_2 (q := 7) g dL_tryTest_6 (by decide) rfl rfl ?_
      refine V_ldc (q := 9) g dL_tryTest_7 (z := (-9999001)) q_L_44 (by decide) rfl ?_
      exact V_ireturnX g r rfl dL_tryTest_9 rfl (Or.inr (⟨rfl, x1⟩))
abbrev rm_L_trySit : Room := { frames := 8, cells := 1, slots := 6, locals := 140 }
set_option maxHeartbeats 4000000 in
set_option maxRecDepth 100000 in
theorem h_trySit (l : Launch) {D : DD} {Λ : LY} {M : MM} {s : Nat} {fl : List (Option Nat)} {a1 a2 : Int} {Ψ : Int → MM → Prop} {Ξ : String → MM → Prop} (hM : CXI l yX4_sit cX4_sit 3 .int rm_X4_sit [.ref s, vi a1, vi a2] D Λ M Ψ Ξ) (hs : Λ s = some (kO 4 fl)) (hΞ : ∀ E M1, Ξ E M1 → E = xIO ∨ E = xIA) : CXH l yL_trySit cL_trySit 4 .int [(0, 6, 7, 42), (0, 6, 11, 13)] rm_L_trySit [.ref s, vi a1, vi a2] D Λ M (fun z M1 => (Ψ z M1) ∨ (z = -9999001 ∧ (Ξ xIO M1)) ∨ (z = -9999002 ∧ (Ξ xIA M1))) := by
  refine CXH_of rfl rfl (Nat.le_of_ble_eq_true rfl) (fun Γ g r => ?_)
  refine V_aload_n (q := 1) g dL_trySit_0 rfl rfl ?_
  refine V_iload_n (q := 2) g dL_trySit_1 rfl rfl ?_
  refine V_iload_n (q := 3) g dL_trySit_2 rfl rfl ?_
  refine V_callVXI_2 (q := 6) g hM dL_trySit_3 k_L_79 hs rfl rfl rfl rfl rfl (fun z1 M1 e1 => ?_) (fun E1 M1 x1 => ?_)
  · exact V_ireturnX g r rfl dL_trySit_6 rfl (Or.inl e1)
  · rcases hΞ E1 M1 x1 with rfl | rfl
    · refine V_catch (q := 7) g r [] ⟨0, 6, 7, 42⟩ [⟨0, 6, 11, 13⟩] rfl (fun z hz => nomatch hz) rfl (by decide) cl_IO rfl (fun qa => ?_)
      refine V_astore_n_3 (q := 8) g dL_trySit_7 (by decide) rfl rfl ?_
      refine V_ldc (q := 10) g dL_trySit_8 (z := (-9999001)) q_L_44 (by decide) rfl ?_
      exact V_ireturnX g r rfl dL_trySit_10 rfl (Or.inr (Or.inl ⟨rfl, x1⟩))
    · refine V_catch (q := 11) g r [⟨0, 6, 7, 42⟩] ⟨0, 6, 11, 13⟩ [] rfl (fun z hz => by
        simp only [List.mem_cons, List.not_mem_nil, or_false] at hz
        rcases hz with rfl
        · exact ⟨by decide, xIO, cl_IO, List.mem_of_getElem? (i := 1) rfl⟩) rfl (by decide) cl_IA rfl (fun qa => ?_)
      refine V_astore_n_3 (q := 12) g dL_trySit_11 (by decide) rfl rfl ?_
      refine V_ldc (q := 14) g dL_trySit_12 (z := (-9999002)) q_L_15 (by decide) rfl ?_
      exact V_ireturnX g r rfl dL_trySit_14 rfl (Or.inr (Or.inr (⟨rfl, x1⟩)))
abbrev rm_L_tryBound : Room := { frames := 8, cells := 1, slots := 6, locals := 145 }
set_option maxHeartbeats 4000000 in
set_option maxRecDepth 100000 in
theorem h_tryBound (l : Launch) {D : DD} {Λ : LY} {M : MM} {s : Nat} {fl : List (Option Nat)} {a1 a2 a3 : Int} {Ψ : Int → MM → Prop} {Ξ : String → MM → Prop} (hM : CXI l yX4_bound cX4_bound 4 .int rm_X4_bound [.ref s, vi a1, vi a2, vi a3] D Λ M Ψ Ξ) (hs : Λ s = some (kO 4 fl)) (hΞ : ∀ E M1, Ξ E M1 → E = xIO ∨ E = xIA) : CXH l yL_tryBound cL_tryBound 5 .int [(0, 7, 8, 42), (0, 7, 13, 13)] rm_L_tryBound [.ref s, vi a1, vi a2, vi a3] D Λ M (fun z M1 => (Ψ z M1) ∨ (z = -9999001 ∧ (Ξ xIO M1)) ∨ (z = -9999002 ∧ (Ξ xIA M1))) := by
  refine CXH_of rfl rfl (Nat.le_of_ble_eq_true rfl) (fun Γ g r => ?_)
  refine V_aload_n (q := 1) g dL_tryBound_0 rfl rfl ?_
  refine V_iload_n (q := 2) g dL_tryBound_1 rfl rfl ?_
  refine V_iload_n (q := 3) g dL_tryBound_2 rfl rfl ?_
  refine V_iload_n (q := 4) g dL_tryBound_3 rfl rfl ?_
  refine V_callVXI_3 (q := 7) g hM dL_tryBound_4 k_L_82 hs rfl rfl rfl rfl rfl (fun z1 M1 e1 => ?_) (fun E1 M1 x1 => ?_)
  · exact V_ireturnX g r rfl dL_tryBound_7 rfl (Or.inl e1)
  · rcases hΞ E1 M1 x1 with rfl | rfl
    · refine V_catch (q := 8) g r [] ⟨0, 7, 8, 42⟩ [⟨0, 7, 13, 13⟩] rfl (fun z hz => nomatch hz) rfl (by decide) cl_IO rfl (fun qa => ?_)
      refine V_astore_4 (q := 10) g dL_tryBound_8 (by decide) rfl rfl ?_
      refine V_ldc (q := 12) g dL_tryBound_10 (z := (-9999001)) q_L_44 (by decide) rfl ?_
      exact V_ireturnX g r rfl dL_tryBound_12 rfl (Or.inr (Or.inl ⟨rfl, x1⟩))
    · refine V_catch (q := 13) g r [⟨0, 7, 8, 42⟩] ⟨0, 7, 13, 13⟩ [] rfl (fun z hz => by
        simp only [List.mem_cons, List.not_mem_nil, or_false] at hz
        rcases hz with rfl
        · exact ⟨by decide, xIO, cl_IO, List.mem_of_getElem? (i := 1) rfl⟩) rfl (by decide) cl_IA rfl (fun qa => ?_)
      refine V_astore_4 (q := 15) g dL_tryBound_13 (by decide) rfl rfl ?_
      refine V_ldc (q := 17) g dL_tryBound_15 (z := (-9999002)) q_L_15 (by decide) rfl ?_
      exact V_ireturnX g r rfl dL_tryBound_17 rfl (Or.inr (Or.inr (⟨rfl, x1⟩)))
abbrev rm_L_tryLay : Room := { frames := 8, cells := 1, slots := 6, locals := 133 }
set_option maxHeartbeats 4000000 in
set_option maxRecDepth 100000 in
theorem h_tryLay (l : Launch) {D : DD} {Λ : LY} {M : MM} {s : Nat} {fl : List (Option Nat)} {a1 a2 : Int} {Ψ : Int → MM → Prop} {Ξ : String → MM → Prop} (hM : CXI l yX4_set cX4_set 3 .int rm_X4_set [.ref s, vi a1, vi a2] D Λ M Ψ Ξ) (hs : Λ s = some (kO 4 fl)) (hΞ : ∀ E M1, Ξ E M1 → E = xIA) : CXH l yL_tryLay cL_tryLay 4 .int [(0, 6, 7, 13)] rm_L_tryLay [.ref s, vi a1, vi a2] D Λ M (fun z M1 => (Ψ z M1) ∨ (z = -9999002 ∧ (Ξ xIA M1))) := by
  refine CXH_of rfl rfl (Nat.le_of_ble_eq_true rfl) (fun Γ g r => ?_)
  refine V_aload_n (q := 1) g dL_tryLay_0 rfl rfl ?_
  refine V_iload_n (q := 2) g dL_tryLay_1 rfl rfl ?_
  refine V_iload_n (q := 3) g dL_tryLay_2 rfl rfl ?_
  refine V_callVXI_2 (q := 6) g hM dL_tryLay_3 k_L_85 hs rfl rfl rfl rfl rfl (fun z1 M1 e1 => ?_) (fun E1 M1 x1 => ?_)
  · exact V_ireturnX g r rfl dL_tryLay_6 rfl (Or.inl e1)
  · rcases hΞ E1 M1 x1 with rfl
    · refine V_catch (q := 7) g r [] ⟨0, 6, 7, 13⟩ [] rfl (fun z hz => nomatch hz) rfl (by decide) cl_IA rfl (fun qa => ?_)
      refine V_astore_n_3 (q := 8) g dL_tryLay_7 (by decide) rfl rfl ?_
      refine V_ldc (q := 10) g dL_tryLay_8 (z := (-9999002)) q_L_15 (by decide) rfl ?_
      exact V_ireturnX g r rfl dL_tryLay_10 rfl (Or.inr (⟨rfl, x1⟩))
abbrev rm_L_tryUndo : Room := { frames := 7, cells := 1, slots := 6, locals := 110 }
set_option maxHeartbeats 4000000 in
set_option maxRecDepth 100000 in
theorem h_tryUndo (l : Launch) {D : DD} {Λ : LY} {M : MM} {s : Nat} {fl : List (Option Nat)} {Ψ : Int → MM → Prop} {Ξ : String → MM → Prop} (hM : CXI l yX4_undo cX4_undo 1 .int rm_X4_undo [.ref s] D Λ M Ψ Ξ) (hs : Λ s = some (kO 4 fl)) (hΞ : ∀ E M1, Ξ E M1 → E = xIS) : CXH l yL_tryUndo cL_tryUndo 2 .int [(0, 4, 5, 16)] rm_L_tryUndo [.ref s] D Λ M (fun z M1 => (Ψ z M1) ∨ (z = -9999003 ∧ (Ξ xIS M1))) := by
  refine CXH_of rfl rfl (Nat.le_of_ble_eq_true rfl) (fun Γ g r => ?_)
  refine V_aload_n (q := 1) g dL_tryUndo_0 rfl rfl ?_
  refine V_callVXI_0 (q := 4) g hM dL_tryUndo_1 k_L_88 hs rfl rfl rfl rfl rfl (fun z1 M1 e1 => ?_) (fun E1 M1 x1 => ?_)
  · exact V_ireturnX g r rfl dL_tryUndo_4 rfl (Or.inl e1)
  · rcases hΞ E1 M1 x1 with rfl
    · refine V_catch (q := 5) g r [] ⟨0, 4, 5, 16⟩ [] rfl (fun z hz => nomatch hz) rfl (by decide) cl_IS rfl (fun qa => ?_)
      refine V_astore_n_1 (q := 6) g dL_tryUndo_5 (by decide) rfl rfl ?_
      refine V_ldc (q := 8) g dL_tryUndo_6 (z := (-9999003)) q_L_18 (by decide) rfl ?_
      exact V_ireturnX g r rfl dL_tryUndo_8 rfl (Or.inr (⟨rfl, x1⟩))
abbrev rm_L_tryTurn : Room := { frames := 8, cells := 3, slots := 18, locals := 135 }
set_option maxHeartbeats 4000000 in
set_option maxRecDepth 100000 in
theorem h_tryTurn (l : Launch) {D : DD} {Λ : LY} {M : MM} {s : Nat} {fl : List (Option Nat)} {a1 a2 a3 : Int} {Ψ : Int → MM → Prop} {Ξ : String → MM → Prop} (hM : CXI l yX4_bestTurn cX4_bestTurn 5 .int rm_X4_bestTurn [.ref s, vi a1, vi a2, vi a3] D Λ M Ψ Ξ) (hs : Λ s = some (kO 4 fl)) (hΞ : ∀ E M1, Ξ E M1 → E = xIO ∨ E = xIA) : CXH l yL_tryTurn cL_tryTurn 5 .int [(0, 7, 8, 42), (0, 7, 13, 13)] rm_L_tryTurn [.ref s, vi a1, vi a2, vi a3] D Λ M (fun z M1 => (Ψ z M1) ∨ (z = -9999001 ∧ (Ξ xIO M1)) ∨ (z = -9999002 ∧ (Ξ xIA M1))) := by
  refine CXH_of rfl rfl (Nat.le_of_ble_eq_true rfl) (fun Γ g r => ?_)
  refine V_aload_n (q := 1) g dL_tryTurn_0 rfl rfl ?_
  refine V_iload_n (q := 2) g dL_tryTurn_1 rfl rfl ?_
  refine V_iload_n (q := 3) g dL_tryTurn_2 rfl rfl ?_
  refine V_iload_n (q := 4) g dL_tryTurn_3 rfl rfl ?_
  refine V_callVXI_3 (q := 7) g hM dL_tryTurn_4 k_L_91 hs rfl rfl rfl rfl rfl (fun z1 M1 e1 => ?_) (fun E1 M1 x1 => ?_)
  · exact V_ireturnX g r rfl dL_tryTurn_7 rfl (Or.inl e1)
  · rcases hΞ E1 M1 x1 with rfl | rfl
    · refine V_catch (q := 8) g r [] ⟨0, 7, 8, 42⟩ [⟨0, 7, 13, 13⟩] rfl (fun z hz => nomatch hz) rfl (by decide) cl_IO rfl (fun qa => ?_)
      refine V_astore_4 (q := 10) g dL_tryTurn_8 (by decide) rfl rfl ?_
      refine V_ldc (q := 12) g dL_tryTurn_10 (z := (-9999001)) q_L_44 (by decide) rfl ?_
      exact V_ireturnX g r rfl dL_tryTurn_12 rfl (Or.inr (Or.inl ⟨rfl, x1⟩))
    · refine V_catch (q := 13) g r [⟨0, 7, 8, 42⟩] ⟨0, 7, 13, 13⟩ [] rfl (fun z hz => by
        simp only [List.mem_cons, List.not_mem_nil, or_false] at hz
        rcases hz with rfl
        · exact ⟨by decide, xIO, cl_IO, List.mem_of_getElem? (i := 1) rfl⟩) rfl (by decide) cl_IA rfl (fun qa => ?_)
      refine V_astore_4 (q := 15) g dL_tryTurn_13 (by decide) rfl rfl ?_
      refine V_ldc (q := 17) g dL_tryTurn_15 (z := (-9999002)) q_L_15 (by decide) rfl ?_
      exact V_ireturnX g r rfl dL_tryTurn_17 rfl (Or.inr (Or.inr (⟨rfl, x1⟩)))
abbrev rm_L_tryBestSaw : Room := { frames := 8, cells := 1, slots := 6, locals := 141 }
set_option maxHeartbeats 4000000 in
set_option maxRecDepth 100000 in
theorem h_tryBestSaw (l : Launch) {D : DD} {Λ : LY} {M : MM} {s : Nat} {fl : List (Option Nat)} {a1 : Int} {Ψ : Int → MM → Prop} {Ξ : String → MM → Prop} (hM : CXI l yX4_bestSaw cX4_bestSaw 2 .int rm_X4_bestSaw [.ref s, vi a1] D Λ M Ψ Ξ) (hs : Λ s = some (kO 4 fl)) (hΞ : ∀ E M1, Ξ E M1 → E = xIO) : CXH l yL_tryBestSaw cL_tryBestSaw 3 .int [(0, 5, 6, 42)] rm_L_tryBestSaw [.ref s, vi a1] D Λ M (fun z M1 => (Ψ z M1) ∨ (z = -9999001 ∧ (Ξ xIO M1))) := by
  refine CXH_of rfl rfl (Nat.le_of_ble_eq_true rfl) (fun Γ g r => ?_)
  refine V_aload_n (q := 1) g dL_tryBestSaw_0 rfl rfl ?_
  refine V_iload_n (q := 2) g dL_tryBestSaw_1 rfl rfl ?_
  refine V_callVXI_1 (q := 5) g hM dL_tryBestSaw_2 k_L_94 hs rfl rfl rfl rfl rfl (fun z1 M1 e1 => ?_) (fun E1 M1 x1 => ?_)
  · exact V_ireturnX g r rfl dL_tryBestSaw_5 rfl (Or.inl e1)
  · rcases hΞ E1 M1 x1 with rfl
    · refine V_catch (q := 6) g r [] ⟨0, 5, 6, 42⟩ [] rfl (fun z hz => nomatch hz) rfl (by decide) cl_IO rfl (fun qa => ?_)
      refine V_astore_n_2 (q := 7) g dL_tryBestSaw_6 (by decide) rfl rfl ?_
      refine V_ldc (q := 9) g dL_tryBestSaw_7 (z := (-9999001)) q_L_44 (by decide) rfl ?_
      exact V_ireturnX g r rfl dL_tryBestSaw_9 rfl (Or.inr (⟨rfl, x1⟩))
abbrev rm_L_tryFails : Room := { frames := 8, cells := 2, slots := 12, locals := 141 }
set_option maxHeartbeats 4000000 in
set_option maxRecDepth 100000 in
theorem h_tryFails (l : Launch) {D : DD} {Λ : LY} {M : MM} {s : Nat} {fl : List (Option Nat)} {a1 a2 : Int} {Ψ : Int → MM → Prop} {Ξ : String → MM → Prop} (hM : CXI l yX4_failsIn cX4_failsIn 4 .int rm_X4_failsIn [.ref s, vi a1, vi a2] D Λ M Ψ Ξ) (hs : Λ s = some (kO 4 fl)) (hΞ : ∀ E M1, Ξ E M1 → E = xIO ∨ E = xIA) : CXH l yL_tryFails cL_tryFails 4 .int [(0, 6, 7, 42), (0, 6, 11, 13)] rm_L_tryFails [.ref s, vi a1, vi a2] D Λ M (fun z M1 => (Ψ z M1) ∨ (z = -9999001 ∧ (Ξ xIO M1)) ∨ (z = -9999002 ∧ (Ξ xIA M1))) := by
  refine CXH_of rfl rfl (Nat.le_of_ble_eq_true rfl) (fun Γ g r => ?_)
  refine V_aload_n (q := 1) g dL_tryFails_0 rfl rfl ?_
  refine V_iload_n (q := 2) g dL_tryFails_1 rfl rfl ?_
  refine V_iload_n (q := 3) g dL_tryFails_2 rfl rfl ?_
  refine V_callVXI_2 (q := 6) g hM dL_tryFails_3 k_L_97 hs rfl rfl rfl rfl rfl (fun z1 M1 e1 => ?_) (fun E1 M1 x1 => ?_)
  · exact V_ireturnX g r rfl dL_tryFails_6 rfl (Or.inl e1)
  · rcases hΞ E1 M1 x1 with rfl | rfl
    · refine V_catch (q := 7) g r [] ⟨0, 6, 7, 42⟩ [⟨0, 6, 11, 13⟩] rfl (fun z hz => nomatch hz) rfl (by decide) cl_IO rfl (fun qa => ?_)
      refine V_astore_n_3 (q := 8) g dL_tryFails_7 (by decide) rfl rfl ?_
      refine V_ldc (q := 10) g dL_tryFails_8 (z := (-9999001)) q_L_44 (by decide) rfl ?_
      exact V_ireturnX g r rfl dL_tryFails_10 rfl (Or.inr (Or.inl ⟨rfl, x1⟩))
    · refine V_catch (q := 11) g r [⟨0, 6, 7, 42⟩] ⟨0, 6, 11, 13⟩ [] rfl (fun z hz => by
        simp only [List.mem_cons, List.not_mem_nil, or_false] at hz
        rcases hz with rfl
        · exact ⟨by decide, xIO, cl_IO, List.mem_of_getElem? (i := 1) rfl⟩) rfl (by decide) cl_IA rfl (fun qa => ?_)
      refine V_astore_n_3 (q := 12) g dL_tryFails_11 (by decide) rfl rfl ?_
      refine V_ldc (q := 14) g dL_tryFails_12 (z := (-9999002)) q_L_15 (by decide) rfl ?_
      exact V_ireturnX g r rfl dL_tryFails_14 rfl (Or.inr (Or.inr (⟨rfl, x1⟩)))
abbrev rm_L_tryFloor : Room := { frames := 8, cells := 1, slots := 6, locals := 143 }
set_option maxHeartbeats 4000000 in
set_option maxRecDepth 100000 in
theorem h_tryFloor (l : Launch) {D : DD} {Λ : LY} {M : MM} {s : Nat} {fl : List (Option Nat)} {a1 : Int} {Ψ : Int → MM → Prop} {Ξ : String → MM → Prop} (hM : CXI l yX4_bestFloor cX4_bestFloor 2 .int rm_X4_bestFloor [.ref s, vi a1] D Λ M Ψ Ξ) (hs : Λ s = some (kO 4 fl)) (hΞ : ∀ E M1, Ξ E M1 → E = xIO) : CXH l yL_tryFloor cL_tryFloor 3 .int [(0, 5, 6, 42)] rm_L_tryFloor [.ref s, vi a1] D Λ M (fun z M1 => (Ψ z M1) ∨ (z = -9999001 ∧ (Ξ xIO M1))) := by
  refine CXH_of rfl rfl (Nat.le_of_ble_eq_true rfl) (fun Γ g r => ?_)
  refine V_aload_n (q := 1) g dL_tryFloor_0 rfl rfl ?_
  refine V_iload_n (q := 2) g dL_tryFloor_1 rfl rfl ?_
  refine V_callVXI_1 (q := 5) g hM dL_tryFloor_2 k_L_100 hs rfl rfl rfl rfl rfl (fun z1 M1 e1 => ?_) (fun E1 M1 x1 => ?_)
  · exact V_ireturnX g r rfl dL_tryFloor_5 rfl (Or.inl e1)
  · rcases hΞ E1 M1 x1 with rfl
    · refine V_catch (q := 6) g r [] ⟨0, 5, 6, 42⟩ [] rfl (fun z hz => nomatch hz) rfl (by decide) cl_IO rfl (fun qa => ?_)
      refine V_astore_n_2 (q := 7) g dL_tryFloor_6 (by decide) rfl rfl ?_
      refine V_ldc (q := 9) g dL_tryFloor_7 (z := (-9999001)) q_L_44 (by decide) rfl ?_
      exact V_ireturnX g r rfl dL_tryFloor_9 rfl (Or.inr (⟨rfl, x1⟩))
abbrev rm_L_tryKeep : Room := { frames := 8, cells := 1, slots := 6, locals := 132 }
set_option maxHeartbeats 4000000 in
set_option maxRecDepth 100000 in
theorem h_tryKeep (l : Launch) {D : DD} {Λ : LY} {M : MM} {s : Nat} {fl : List (Option Nat)} {a1 : Int} {Ψ : Int → MM → Prop} {Ξ : String → MM → Prop} (hM : CXI l yX4_save cX4_save 3 .int rm_X4_save [.ref s, vi a1] D Λ M Ψ Ξ) (hs : Λ s = some (kO 4 fl)) (hΞ : ∀ E M1, Ξ E M1 → E = xIO) : CXH l yL_tryKeep cL_tryKeep 3 .int [(0, 5, 6, 42)] rm_L_tryKeep [.ref s, vi a1] D Λ M (fun z M1 => (Ψ z M1) ∨ (z = -9999001 ∧ (Ξ xIO M1))) := by
  refine CXH_of rfl rfl (Nat.le_of_ble_eq_true rfl) (fun Γ g r => ?_)
  refine V_aload_n (q := 1) g dL_tryKeep_0 rfl rfl ?_
  refine V_iload_n (q := 2) g dL_tryKeep_1 rfl rfl ?_
  refine V_callVXI_1 (q := 5) g hM dL_tryKeep_2 k_L_103 hs rfl rfl rfl rfl rfl (fun z1 M1 e1 => ?_) (fun E1 M1 x1 => ?_)
  · exact V_ireturnX g r rfl dL_tryKeep_5 rfl (Or.inl e1)
  · rcases hΞ E1 M1 x1 with rfl
    · refine V_catch (q := 6) g r [] ⟨0, 5, 6, 42⟩ [] rfl (fun z hz => nomatch hz) rfl (by decide) cl_IO rfl (fun qa => ?_)
      refine V_astore_n_2 (q := 7) g dL_tryKeep_6 (by decide) rfl rfl ?_
      refine V_ldc (q := 9) g dL_tryKeep_7 (z := (-9999001)) q_L_44 (by decide) rfl ?_
      exact V_ireturnX g r rfl dL_tryKeep_9 rfl (Or.inr (⟨rfl, x1⟩))
abbrev rm_L_tryBack : Room := { frames := 8, cells := 2, slots := 12, locals := 132 }
set_option maxHeartbeats 4000000 in
set_option maxRecDepth 100000 in
theorem h_tryBack (l : Launch) {D : DD} {Λ : LY} {M : MM} {s : Nat} {fl : List (Option Nat)} {a1 : Int} {Ψ : Int → MM → Prop} {Ξ : String → MM → Prop} (hM : CXI l yX4_restore cX4_restore 3 .int rm_X4_restore [.ref s, vi a1] D Λ M Ψ Ξ) (hs : Λ s = some (kO 4 fl)) (hΞ : ∀ E M1, Ξ E M1 → E = xIO ∨ E = xIS) : CXH l yL_tryBack cL_tryBack 3 .int [(0, 5, 6, 42), (0, 5, 10, 16)] rm_L_tryBack [.ref s, vi a1] D Λ M (fun z M1 => (Ψ z M1) ∨ (z = -9999001 ∧ (Ξ xIO M1)) ∨ (z = -9999003 ∧ (Ξ xIS M1))) := by
  refine CXH_of rfl rfl (Nat.le_of_ble_eq_true rfl) (fun Γ g r => ?_)
  refine V_aload_n (q := 1) g dL_tryBack_0 rfl rfl ?_
  refine V_iload_n (q := 2) g dL_tryBack_1 rfl rfl ?_
  refine V_callVXI_1 (q := 5) g hM dL_tryBack_2 k_L_106 hs rfl rfl rfl rfl rfl (fun z1 M1 e1 => ?_) (fun E1 M1 x1 => ?_)
  · exact V_ireturnX g r rfl dL_tryBack_5 rfl (Or.inl e1)
  · rcases hΞ E1 M1 x1 with rfl | rfl
    · refine V_catch (q := 6) g r [] ⟨0, 5, 6, 42⟩ [⟨0, 5, 10, 16⟩] rfl (fun z hz => nomatch hz) rfl (by decide) cl_IO rfl (fun qa => ?_)
      refine V_astore_n_2 (q := 7) g dL_tryBack_6 (by decide) rfl rfl ?_
      refine V_ldc (q := 9) g dL_tryBack_7 (z := (-9999001)) q_L_44 (by decide) rfl ?_
      exact V_ireturnX g r rfl dL_tryBack_9 rfl (Or.inr (Or.inl ⟨rfl, x1⟩))
    · refine V_catch (q := 10) g r [⟨0, 5, 6, 42⟩] ⟨0, 5, 10, 16⟩ [] rfl (fun z hz => by
        simp only [List.mem_cons, List.not_mem_nil, or_false] at hz
        rcases hz with rfl
        · exact ⟨by decide, xIO, cl_IO, List.mem_of_getElem? (i := 3) rfl⟩) rfl (by decide) cl_IS rfl (fun qa => ?_)
      refine V_astore_n_2 (q := 11) g dL_tryBack_10 (by decide) rfl rfl ?_
      refine V_ldc (q := 13) g dL_tryBack_11 (z := (-9999003)) q_L_18 (by decide) rfl ?_
      exact V_ireturnX g r rfl dL_tryBack_13 rfl (Or.inr (Or.inr (⟨rfl, x1⟩)))
