theorem k_L_109 : lkH RL 109 yL_tryAppend cL_tryAppend 3 (some .int) [(0, 5, 6, 13), (0, 5, 10, 16)] 2 := ⟨big_all [177, 178, 5, 179] (by decide +kernel), by decide +kernel⟩
theorem k_L_119 : lkH RL 119 yL_tryAbout cL_tryAbout 3 (some .int) [(0, 5, 6, 13)] 2 := ⟨big_all [521, 522, 5, 523] (by decide +kernel), by decide +kernel⟩
theorem k_L_122 : lkH RL 122 yL_tryChair cL_tryChair 4 (some .int) [(0, 6, 7, 42), (0, 6, 11, 13)] 3 := ⟨big_all [533, 534, 5, 535] (by decide +kernel), by decide +kernel⟩
theorem k_L_126 : lkH RL 126 yL_tryWobble cL_tryWobble 4 (some .int) [(0, 6, 7, 42), (0, 6, 11, 13)] 3 := ⟨big_all [571, 572, 5, 573] (by decide +kernel), by decide +kernel⟩
theorem k_L_129 : lkH RL 129 yL_tryLeg cL_tryLeg 5 (some .int) [(0, 7, 8, 42), (0, 7, 13, 13)] 4 := ⟨big_all [591, 592, 5, 593] (by decide +kernel), by decide +kernel⟩
theorem k_L_133 : lkH RL 133 yL_trySpot cL_trySpot 4 (some .int) [(0, 6, 7, 42)] 3 := ⟨big_all [605, 606, 5, 607] (by decide +kernel), by decide +kernel⟩
theorem k_L_136 : lkH RL 136 yL_tryBoundOf cL_tryBoundOf 4 (some .int) [(0, 6, 7, 42)] 3 := ⟨big_all [622, 623, 5, 624] (by decide +kernel), by decide +kernel⟩
theorem k_L_139 : lkH RL 139 yL_trySetting cL_trySetting 3 (some .int) [(0, 5, 6, 13)] 2 := ⟨big_all [630, 631, 5, 632] (by decide +kernel), by decide +kernel⟩
theorem k_L_142 : lkH RL 142 yL_tryComes cL_tryComes 4 (some .int) [(0, 6, 7, 42), (0, 6, 11, 13), (0, 6, 15, 16)] 3 := ⟨big_all [638, 639, 5, 640] (by decide +kernel), by decide +kernel⟩
theorem k_L_145 : lkH RL 145 yL_tryLevel cL_tryLevel 5 (some .int) [(0, 7, 8, 42), (0, 7, 13, 13)] 4 := ⟨big_all [672, 673, 5, 674] (by decide +kernel), by decide +kernel⟩
theorem k_L_148 : lkH RL 148 yL_tryBring cL_tryBring 5 (some .int) [(0, 7, 8, 42), (0, 7, 13, 13)] 4 := ⟨big_all [684, 685, 5, 686] (by decide +kernel), by decide +kernel⟩
theorem k_L_151 : lkH RL 151 yL_trySaw cL_trySaw 5 (some .int) [(0, 7, 8, 42), (0, 7, 13, 13), (0, 7, 18, 16)] 4 := ⟨big_all [691, 692, 5, 693] (by decide +kernel), by decide +kernel⟩
theorem k_L_154 : lkH RL 154 yL_tryShim cL_tryShim 5 (some .int) [(0, 7, 8, 42), (0, 7, 13, 13), (0, 7, 18, 16)] 4 := ⟨big_all [698, 699, 5, 700] (by decide +kernel), by decide +kernel⟩
theorem k_L_157 : lkH RL 157 yL_tryTest cL_tryTest 3 (some .int) [(0, 5, 6, 42)] 2 := ⟨big_all [705, 706, 5, 707] (by decide +kernel), by decide +kernel⟩
theorem k_L_160 : lkH RL 160 yL_trySit cL_trySit 4 (some .int) [(0, 6, 7, 42), (0, 6, 11, 13)] 3 := ⟨big_all [712, 713, 5, 714] (by decide +kernel), by decide +kernel⟩
theorem k_L_163 : lkH RL 163 yL_tryBound cL_tryBound 5 (some .int) [(0, 7, 8, 42), (0, 7, 13, 13)] 4 := ⟨big_all [719, 720, 5, 721] (by decide +kernel), by decide +kernel⟩
theorem k_L_166 : lkH RL 166 yL_tryLay cL_tryLay 4 (some .int) [(0, 6, 7, 13)] 3 := ⟨big_all [726, 727, 5, 728] (by decide +kernel), by decide +kernel⟩
theorem k_L_169 : lkH RL 169 yL_tryUndo cL_tryUndo 2 (some .int) [(0, 4, 5, 16)] 1 := ⟨big_all [737, 738, 5, 739] (by decide +kernel), by decide +kernel⟩
theorem k_L_172 : lkH RL 172 yL_tryTurn cL_tryTurn 5 (some .int) [(0, 7, 8, 42), (0, 7, 13, 13)] 4 := ⟨big_all [749, 750, 5, 751] (by decide +kernel), by decide +kernel⟩
theorem k_L_175 : lkH RL 175 yL_tryBestSaw cL_tryBestSaw 3 (some .int) [(0, 5, 6, 42)] 2 := ⟨big_all [762, 763, 5, 764] (by decide +kernel), by decide +kernel⟩
theorem k_L_178 : lkH RL 178 yL_tryFails cL_tryFails 4 (some .int) [(0, 6, 7, 42), (0, 6, 11, 13)] 3 := ⟨big_all [776, 777, 5, 778] (by decide +kernel), by decide +kernel⟩
theorem k_L_181 : lkH RL 181 yL_tryFloor cL_tryFloor 3 (some .int) [(0, 5, 6, 42)] 2 := ⟨big_all [784, 785, 5, 786] (by decide +kernel), by decide +kernel⟩
theorem k_L_184 : lkH RL 184 yL_tryKeep cL_tryKeep 3 (some .int) [(0, 5, 6, 42)] 2 := ⟨big_all [796, 797, 5, 798] (by decide +kernel), by decide +kernel⟩
theorem k_L_187 : lkH RL 187 yL_tryBack cL_tryBack 3 (some .int) [(0, 5, 6, 42), (0, 5, 10, 16)] 2 := ⟨big_all [807, 808, 5, 809] (by decide +kernel), by decide +kernel⟩
theorem k_L_196 : lkH RL 196 yL_floors cL_floors 6 (some .int) [(0, 9, 10, 13), (0, 9, 15, 16)] 5 := ⟨big_all [823, 824, 5, 825] (by decide +kernel), by decide +kernel⟩
theorem k_L_199 : lkH RL 199 yL_doScript cL_doScript 5 (some .int) [(0, 6, 7, 13)] 3 := ⟨big_all [830, 831, 5, 832] (by decide +kernel), by decide +kernel⟩
theorem k_L_205 : lkH RL 205 yL_doSimulate cL_doSimulate 5 (some .int) [(0, 6, 7, 13)] 3 := ⟨big_all [847, 848, 5, 849] (by decide +kernel), by decide +kernel⟩
abbrev rm_L_call : Room := { frames := 9, cells := 3, slots := 18, locals := 196 }
set_option maxHeartbeats 4000000 in
set_option maxRecDepth 100000 in
theorem cq_0 (l : Launch) (hfl : l.stackTraces = false) {D : DD} {Λ : LY} {M : MM} {s : Nat} {σ : SG} {a b c : Int} (hL : ClsL D Λ s) (hS : Os M s σ) (ra : inR a) (hbad : ¬ (0 ≤ a ∧ a ≤ 255)) : CXI l yL_call cL_call 5 .int rm_L_call [.ref s, vi 0, vi a, vi b, vi c] D Λ M (fun z M1 => z = -9999002 ∧ M = M1) (fun _ _ => False) := by
  obtain ⟨⟨hO, hI⟩, ⟨hn, -⟩, -⟩ := id hS
  refine CXI_of rfl rfl (Nat.le_of_ble_eq_true rfl) (fun Γ g r => ?_)
  refine V_iload_n (q := 1) g dL_call_0 rfl rfl ?_
  refine V_tabAt g dL_call_1 (n := 0) rfl (by decide) (by decide) (by decide) (off := 111) rfl (tgt := 112) (by decide) ?_
  refine V_aload_n (q := 113) g dL_call_112 rfl rfl ?_
  refine V_iload_n (q := 114) g dL_call_113 rfl rfl ?_
  refine V_callHI_2 (q := 117) g (h_tryAppend l (c_X4_append l hfl hL hS.2.2.2 ra) hL.1 (fun E M1 h => by
    rcases h with ⟨-, h, -⟩ | ⟨-, -, h, -⟩
    · exact Or.inl h
    · exact Or.inr (h))) dL_call_114 k_L_109 rfl rfl rfl (fun z1 M1 e1 => ?_)
  exact V_ireturnX g r rfl dL_call_117 rfl ((by
    rcases e1 with ⟨c1, -⟩ | ⟨ev, e⟩ | ⟨ev, e⟩
    · exact absurd c1 hbad
    · rcases e with ⟨-, -, e⟩ | ⟨c1, -⟩
      · exact ⟨ev, e⟩
      · exact absurd c1 hbad
    · rcases e with ⟨-, q, -⟩ | ⟨c1, -⟩
      · exact absurd q xn_SA
      · exact absurd c1 hbad))
set_option maxHeartbeats 4000000 in
set_option maxRecDepth 100000 in
theorem cq_2 (l : Launch) (hfl : l.stackTraces = false) {D : DD} {Λ : LY} {M : MM} {s : Nat} {σ : SG} {a b c : Int} (hL : ClsL D Λ s) (hS : Os M s σ) (ra : inR a) : CXI l yL_call cL_call 5 .int rm_L_call [.ref s, vi 2, vi a, vi b, vi c] D Λ M (fun z M1 => z = qAbout σ.1 a ∧ M = M1) (fun _ _ => False) := by
  obtain ⟨⟨hO, hI⟩, ⟨hn, -⟩, -⟩ := id hS
  refine CXI_of rfl rfl (Nat.le_of_ble_eq_true rfl) (fun Γ g r => ?_)
  refine V_iload_n (q := 1) g dL_call_0 rfl rfl ?_
  refine V_tabAt g dL_call_1 (n := 2) rfl (by decide) (by decide) (by decide) (off := 122) rfl (tgt := 123) (by decide) ?_
  refine V_aload_n (q := 124) g dL_call_123 rfl rfl ?_
  refine V_iload_n (q := 125) g dL_call_124 rfl rfl ?_
  refine V_callHI_2 (q := 128) g (h_tryAbout l (c_X4_about l hfl hL hO hI ra) hL.1 (fun E M1 h => by obtain ⟨-, h, -⟩ := h; exact h)) dL_call_125 k_L_119 rfl rfl rfl (fun z1 M1 e1 => ?_)
  exact V_ireturnX g r rfl dL_call_128 rfl (w_about hS e1)
set_option maxHeartbeats 4000000 in
set_option maxRecDepth 100000 in
theorem cq_3 (l : Launch) (hfl : l.stackTraces = false) {D : DD} {Λ : LY} {M : MM} {s : Nat} {σ : SG} {a b c : Int} (hL : ClsL D Λ s) (hS : Os M s σ) (ra : inR a) (rb : inR b) : CXI l yL_call cL_call 5 .int rm_L_call [.ref s, vi 3, vi a, vi b, vi c] D Λ M (fun z M1 => z = qChair σ.1 a b ∧ M = M1) (fun _ _ => False) := by
  obtain ⟨⟨hO, hI⟩, ⟨hn, -⟩, -⟩ := id hS
  refine CXI_of rfl rfl (Nat.le_of_ble_eq_true rfl) (fun Γ g r => ?_)
  refine V_iload_n (q := 1) g dL_call_0 rfl rfl ?_
  refine V_tabAt g dL_call_1 (n := 3) rfl (by decide) (by decide) (by decide) (off := 128) rfl (tgt := 129) (by decide) ?_
  refine V_aload_n (q := 130) g dL_call_129 rfl rfl ?_
  refine V_iload_n (q := 131) g dL_call_130 rfl rfl ?_
  refine V_iload_n (q := 132) g dL_call_131 rfl rfl ?_
  refine V_callHI_3 (q := 135) g (h_tryChair l (c_X4_chairOf l hfl hL hO hI ra rb) hL.1 (fun E M1 h => by
    rcases h with ⟨-, h, -⟩ | ⟨-, -, h, -⟩
    · exact Or.inl h
    · exact Or.inr (h))) dL_call_132 k_L_122 rfl rfl rfl (fun z1 M1 e1 => ?_)
  exact V_ireturnX g r rfl dL_call_135 rfl (w_chairOf hS e1)
set_option maxHeartbeats 4000000 in
set_option maxRecDepth 100000 in
theorem cq_4 (l : Launch) (hfl : l.stackTraces = false) {D : DD} {Λ : LY} {M : MM} {s : Nat} {σ : SG} {a b c : Int} (hL : ClsL D Λ s) (hS : Os M s σ) (ra : inR a) (rb : inR b) : CXI l yL_call cL_call 5 .int rm_L_call [.ref s, vi 4, vi a, vi b, vi c] D Λ M (fun z M1 => z = qWobble σ.1 a b ∧ M = M1) (fun _ _ => False) := by
  obtain ⟨⟨hO, hI⟩, ⟨hn, -⟩, -⟩ := id hS
  refine CXI_of rfl rfl (Nat.le_of_ble_eq_true rfl) (fun Γ g r => ?_)
  refine V_iload_n (q := 1) g dL_call_0 rfl rfl ?_
  refine V_tabAt g dL_call_1 (n := 4) rfl (by decide) (by decide) (by decide) (off := 135) rfl (tgt := 136) (by decide) ?_
  refine V_aload_n (q := 137) g dL_call_136 rfl rfl ?_
  refine V_iload_n (q := 138) g dL_call_137 rfl rfl ?_
  refine V_iload_n (q := 139) g dL_call_138 rfl rfl ?_
  refine V_callHI_3 (q := 142) g (h_tryWobble l (c_X4_wobble l hfl hL hO hI ra rb) hL.1 (fun E M1 h => by
    rcases h with ⟨-, h, -⟩ | ⟨-, -, h, -⟩
    · exact Or.inl h
    · exact Or.inr (h))) dL_call_139 k_L_126 rfl rfl rfl (fun z1 M1 e1 => ?_)
  exact V_ireturnX g r rfl dL_call_142 rfl (w_wobble hS e1)
set_option maxHeartbeats 4000000 in
set_option maxRecDepth 100000 in
theorem cq_5 (l : Launch) (hfl : l.stackTraces = false) {D : DD} {Λ : LY} {M : MM} {s : Nat} {σ : SG} {a b c : Int} (hL : ClsL D Λ s) (hS : Os M s σ) (ra : inR a) (rb : inR b) (rc : inR c) : CXI l yL_call cL_call 5 .int rm_L_call [.ref s, vi 5, vi a, vi b, vi c] D Λ M (fun z M1 => z = qLeg σ.1 a b c ∧ M = M1) (fun _ _ => False) := by
  obtain ⟨⟨hO, hI⟩, ⟨hn, -⟩, -⟩ := id hS
  refine CXI_of rfl rfl (Nat.le_of_ble_eq_true rfl) (fun Γ g r => ?_)
  refine V_iload_n (q := 1) g dL_call_0 rfl rfl ?_
  refine V_tabAt g dL_call_1 (n := 5) rfl (by decide) (by decide) (by decide) (off := 142) rfl (tgt := 143) (by decide) ?_
  refine V_aload_n (q := 144) g dL_call_143 rfl rfl ?_
  refine V_iload_n (q := 145) g dL_call_144 rfl rfl ?_
  refine V_iload_n (q := 146) g dL_call_145 rfl rfl ?_
  refine V_iload (q := 148) g dL_call_146 rfl rfl ?_
  refine V_callHI_4 (q := 151) g (h_tryLeg l (c_X4_legOf l hfl hL hO hI ra rb rc) hL.1 (fun E M1 h => by
    rcases h with ⟨-, h, -⟩ | ⟨-, -, h, -⟩
    · exact Or.inl h
    · exact Or.inr (h))) dL_call_148 k_L_129 rfl rfl rfl (fun z1 M1 e1 => ?_)
  exact V_ireturnX g r rfl dL_call_151 rfl (w_legOf hS e1)
set_option maxHeartbeats 4000000 in
set_option maxRecDepth 100000 in
theorem cq_6 (l : Launch) (hfl : l.stackTraces = false) {D : DD} {Λ : LY} {M : MM} {s : Nat} {σ : SG} {a b c : Int} (hL : ClsL D Λ s) (hS : Os M s σ) (ra : inR a) (rb : inR b) : CXI l yL_call cL_call 5 .int rm_L_call [.ref s, vi 6, vi a, vi b, vi c] D Λ M (fun z M1 => z = qSpot σ.1 a b ∧ M = M1) (fun _ _ => False) := by
  obtain ⟨⟨hO, hI⟩, ⟨hn, -⟩, -⟩ := id hS
  refine CXI_of rfl rfl (Nat.le_of_ble_eq_true rfl) (fun Γ g r => ?_)
  refine V_iload_n (q := 1) g dL_call_0 rfl rfl ?_
  refine V_tabAt g dL_call_1 (n := 6) rfl (by decide) (by decide) (by decide) (off := 151) rfl (tgt := 152) (by decide) ?_
  refine V_aload_n (q := 153) g dL_call_152 rfl rfl ?_
  refine V_iload_n (q := 154) g dL_call_153 rfl rfl ?_
  refine V_iload_n (q := 155) g dL_call_154 rfl rfl ?_
  refine V_callHI_3 (q := 158) g (h_trySpot l (c_X4_spot l hfl hL hO hI ra rb) hL.1 (fun E M1 h => by obtain ⟨-, h, -⟩ := h; exact h)) dL_call_155 k_L_133 rfl rfl rfl (fun z1 M1 e1 => ?_)
  exact V_ireturnX g r rfl dL_call_158 rfl (w_spot hS e1)
set_option maxHeartbeats 4000000 in
set_option maxRecDepth 100000 in
theorem cq_7 (l : Launch) (hfl : l.stackTraces = false) {D : DD} {Λ : LY} {M : MM} {s : Nat} {σ : SG} {a b c : Int} (hL : ClsL D Λ s) (hS : Os M s σ) (ra : inR a) (rb : inR b) : CXI l yL_call cL_call 5 .int rm_L_call [.ref s, vi 7, vi a, vi b, vi c] D Λ M (fun z M1 => z = qBnd σ.1 a b ∧ M = M1) (fun _ _ => False) := by
  obtain ⟨⟨hO, hI⟩, ⟨hn, -⟩, -⟩ := id hS
  refine CXI_of rfl rfl (Nat.le_of_ble_eq_true rfl) (fun Γ g r => ?_)
  refine V_iload_n (q := 1) g dL_call_0 rfl rfl ?_
  refine V_tabAt g dL_call_1 (n := 7) rfl (by decide) (by decide) (by decide) (off := 158) rfl (tgt := 159) (by decide) ?_
  refine V_aload_n (q := 160) g dL_call_159 rfl rfl ?_
  refine V_iload_n (q := 161) g dL_call_160 rfl rfl ?_
  refine V_iload_n (q := 162) g dL_call_161 rfl rfl ?_
  refine V_callHI_3 (q := 165) g (h_tryBoundOf l (c_X4_boundOf l hfl hL hO hI ra rb) hL.1 (fun E M1 h => by obtain ⟨-, h, -⟩ := h; exact h)) dL_call_162 k_L_136 rfl rfl rfl (fun z1 M1 e1 => ?_)
  exact V_ireturnX g r rfl dL_call_165 rfl (w_boundOf hS e1)
set_option maxHeartbeats 4000000 in
set_option maxRecDepth 100000 in
theorem cq_8 (l : Launch) (hfl : l.stackTraces = false) {D : DD} {Λ : LY} {M : MM} {s : Nat} {σ : SG} {a b c : Int} (hL : ClsL D Λ s) (hS : Os M s σ) (ra : inR a) : CXI l yL_call cL_call 5 .int rm_L_call [.ref s, vi 8, vi a, vi b, vi c] D Λ M (fun z M1 => z = qSet σ.1 a ∧ M = M1) (fun _ _ => False) := by
  obtain ⟨⟨hO, hI⟩, ⟨hn, -⟩, -⟩ := id hS
  refine CXI_of rfl rfl (Nat.le_of_ble_eq_true rfl) (fun Γ g r => ?_)
  refine V_iload_n (q := 1) g dL_call_0 rfl rfl ?_
  refine V_tabAt g dL_call_1 (n := 8) rfl (by decide) (by decide) (by decide) (off := 165) rfl (tgt := 166) (by decide) ?_
  refine V_aload_n (q := 167) g dL_call_166 rfl rfl ?_
  refine V_iload_n (q := 168) g dL_call_167 rfl rfl ?_
  refine V_callHI_2 (q := 171) g (h_trySetting l (c_X4_setting l hfl hL hO hI ra) hL.1 (fun E M1 h => by obtain ⟨-, h, -⟩ := h; exact h)) dL_call_168 k_L_139 rfl rfl rfl (fun z1 M1 e1 => ?_)
  exact V_ireturnX g r rfl dL_call_171 rfl (w_setting hS e1)
set_option maxHeartbeats 4000000 in
set_option maxRecDepth 100000 in
theorem cq_9 (l : Launch) (hfl : l.stackTraces = false) {D : DD} {Λ : LY} {M : MM} {s : Nat} {σ : SG} {a b c : Int} (hL : ClsL D Λ s) (hS : Os M s σ) (ra : inR a) (rb : inR b) : CXI l yL_call cL_call 5 .int rm_L_call [.ref s, vi 9, vi a, vi b, vi c] D Λ M (fun z M1 => z = qComes σ.1 a b ∧ Sp M s (nComes σ a b) M1) (fun _ _ => False) := by
  obtain ⟨⟨hO, hI⟩, ⟨hn, -⟩, -⟩ := id hS
  refine CXI_of rfl rfl (Nat.le_of_ble_eq_true rfl) (fun Γ g r => ?_)
  refine V_iload_n (q := 1) g dL_call_0 rfl rfl ?_
  refine V_tabAt g dL_call_1 (n := 9) rfl (by decide) (by decide) (by decide) (off := 171) rfl (tgt := 172) (by decide) ?_
  refine V_aload_n (q := 173) g dL_call_172 rfl rfl ?_
  refine V_iload_n (q := 174) g dL_call_173 rfl rfl ?_
  refine V_iload_n (q := 175) g dL_call_174 rfl rfl ?_
  refine V_callHI_3 (q := 178) g (h_tryComes l (c_X4_chair l hfl hL hO hI hn hS.len ra rb) hL.1 (fun E M1 h => by
    rcases h with ⟨-, h, -⟩ | ⟨-, -, h, -⟩ | ⟨-, -, -, h, -⟩
    · exact Or.inl h
    · exact Or.inr (Or.inl h)
    · exact Or.inr (Or.inr (h)))) dL_call_175 k_L_142 rfl rfl rfl (fun z1 M1 e1 => ?_)
  exact V_ireturnX g r rfl dL_call_178 rfl (w_chair hS e1)
set_option maxHeartbeats 4000000 in
set_option maxRecDepth 100000 in
theorem cq_10 (l : Launch) (hfl : l.stackTraces = false) {D : DD} {Λ : LY} {M : MM} {s : Nat} {σ : SG} {a b c : Int} (hL : ClsL D Λ s) (hS : Os M s σ) (ra : inR a) (rb : inR b) (rc : inR c) : CXI l yL_call cL_call 5 .int rm_L_call [.ref s, vi 10, vi a, vi b, vi c] D Λ M (fun z M1 => z = qLevel σ.1 a b c ∧ Sp M s (nLevel σ a b c) M1) (fun _ _ => False) := by
  obtain ⟨⟨hO, hI⟩, ⟨hn, -⟩, -⟩ := id hS
  refine CXI_of rfl rfl (Nat.le_of_ble_eq_true rfl) (fun Γ g r => ?_)
  refine V_iload_n (q := 1) g dL_call_0 rfl rfl ?_
  refine V_tabAt g dL_call_1 (n := 10) rfl (by decide) (by decide) (by decide) (off := 178) rfl (tgt := 179) (by decide) ?_
  refine V_aload_n (q := 180) g dL_call_179 rfl rfl ?_
  refine V_iload_n (q := 181) g dL_call_180 rfl rfl ?_
  refine V_iload_n (q := 182) g dL_call_181 rfl rfl ?_
  refine V_iload (q := 184) g dL_call_182 rfl rfl ?_
  refine V_callHI_4 (q := 187) g (h_tryLevel l (c_X4_level l hfl hL hO hI hn hS.len ra rb rc) hL.1 (fun E M1 h => by
    rcases h with ⟨-, h, -⟩ | ⟨-, -, h, -⟩
    · exact Or.inl h
    · exact Or.inr (h))) dL_call_184 k_L_145 rfl rfl rfl (fun z1 M1 e1 => ?_)
  exact V_ireturnX g r rfl dL_call_187 rfl (w_level hS e1)
set_option maxHeartbeats 4000000 in
set_option maxRecDepth 100000 in
theorem cq_11 (l : Launch) (hfl : l.stackTraces = false) {D : DD} {Λ : LY} {M : MM} {s : Nat} {σ : SG} {a b c : Int} (hL : ClsL D Λ s) (hS : Os M s σ) (ra : inR a) (rb : inR b) (rc : inR c) : CXI l yL_call cL_call 5 .int rm_L_call [.ref s, vi 11, vi a, vi b, vi c] D Λ M (fun z M1 => z = qBring σ.1 a b c ∧ Sp M s (nBring σ a b c) M1) (fun _ _ => False) := by
  obtain ⟨⟨hO, hI⟩, ⟨hn, -⟩, -⟩ := id hS
  refine CXI_of rfl rfl (Nat.le_of_ble_eq_true rfl) (fun Γ g r => ?_)
  refine V_iload_n (q := 1) g dL_call_0 rfl rfl ?_
  refine V_tabAt g dL_call_1 (n := 11) rfl (by decide) (by decide) (by decide) (off := 187) rfl (tgt := 188) (by decide) ?_
  refine V_aload_n (q := 189) g dL_call_188 rfl rfl ?_
  refine V_iload_n (q := 190) g dL_call_189 rfl rfl ?_
  refine V_iload_n (q := 191) g dL_call_190 rfl rfl ?_
  refine V_iload (q := 193) g dL_call_191 rfl rfl ?_
  refine V_callHI_4 (q := 196) g (h_tryBring l (c_X4_bring l hfl hL hO hI hn hS.len ra rb rc) hL.1 (fun E M1 h => by
    rcases h with ⟨-, h, -⟩ | ⟨-, -, h, -⟩
    · exact Or.inl h
    · exact Or.inr (h))) dL_call_193 k_L_148 rfl rfl rfl (fun z1 M1 e1 => ?_)
  exact V_ireturnX g r rfl dL_call_196 rfl (w_bring hS e1)
set_option maxHeartbeats 4000000 in
set_option maxRecDepth 100000 in
theorem cq_12 (l : Launch) (hfl : l.stackTraces = false) {D : DD} {Λ : LY} {M : MM} {s : Nat} {σ : SG} {a b c : Int} (hL : ClsL D Λ s) (hS : Os M s σ) (ra : inR a) (rb : inR b) (rc : inR c) : CXI l yL_call cL_call 5 .int rm_L_call [.ref s, vi 12, vi a, vi b, vi c] D Λ M (fun z M1 => z = qSaw σ.1 a b c ∧ Sp M s (nSaw σ a b c) M1) (fun _ _ => False) := by
  obtain ⟨⟨hO, hI⟩, ⟨hn, -⟩, -⟩ := id hS
  refine CXI_of rfl rfl (Nat.le_of_ble_eq_true rfl) (fun Γ g r => ?_)
  refine V_iload_n (q := 1) g dL_call_0 rfl rfl ?_
  refine V_tabAt g dL_call_1 (n := 12) rfl (by decide) (by decide) (by decide) (off := 196) rfl (tgt := 197) (by decide) ?_
  refine V_aload_n (q := 198) g dL_call_197 rfl rfl ?_
  refine V_iload_n (q := 199) g dL_call_198 rfl rfl ?_
  refine V_iload_n (q := 200) g dL_call_199 rfl rfl ?_
  refine V_iload (q := 202) g dL_call_200 rfl rfl ?_
  refine V_callHI_4 (q := 205) g (h_trySaw l (c_X4_saw l hfl hL hO hI hn hS.len ra rb rc) hL.1 (fun E M1 h => by
    rcases h with ⟨-, h, -⟩ | ⟨-, -, h, -⟩ | ⟨-, -, -, h, -⟩
    · exact Or.inl h
    · exact Or.inr (Or.inl h)
    · exact Or.inr (Or.inr (h)))) dL_call_202 k_L_151 rfl rfl rfl (fun z1 M1 e1 => ?_)
  exact V_ireturnX g r rfl dL_call_205 rfl (w_saw hS e1)
set_option maxHeartbeats 4000000 in
set_option maxRecDepth 100000 in
theorem cq_13 (l : Launch) (hfl : l.stackTraces = false) {D : DD} {Λ : LY} {M : MM} {s : Nat} {σ : SG} {a b c : Int} (hL : ClsL D Λ s) (hS : Os M s σ) (ra : inR a) (rb : inR b) (rc : inR c) : CXI l yL_call cL_call 5 .int rm_L_call [.ref s, vi 13, vi a, vi b, vi c] D Λ M (fun z M1 => z = qShim σ.1 a b c ∧ Sp M s (nShim σ a b c) M1) (fun _ _ => False) := by
  obtain ⟨⟨hO, hI⟩, ⟨hn, -⟩, -⟩ := id hS
  refine CXI_of rfl rfl (Nat.le_of_ble_eq_true rfl) (fun Γ g r => ?_)
  refine V_iload_n (q := 1) g dL_call_0 rfl rfl ?_
  refine V_tabAt g dL_call_1 (n := 13) rfl (by decide) (by decide) (by decide) (off := 205) rfl (tgt := 206) (by decide) ?_
  refine V_aload_n (q := 207) g dL_call_206 rfl rfl ?_
  refine V_iload_n (q := 208) g dL_call_207 rfl rfl ?_
  refine V_iload_n (q := 209) g dL_call_208 rfl rfl ?_
  refine V_iload (q := 211) g dL_call_209 rfl rfl ?_
  refine V_callHI_4 (q := 214) g (h_tryShim l (c_X4_shim l hfl hL hO hI hn hS.len ra rb rc) hL.1 (fun E M1 h => by
    rcases h with ⟨-, h, -⟩ | ⟨-, -, h, -⟩ | ⟨-, -, -, h, -⟩
    · exact Or.inl h
    · exact Or.inr (Or.inl h)
    · exact Or.inr (Or.inr (h)))) dL_call_211 k_L_154 rfl rfl rfl (fun z1 M1 e1 => ?_)
  exact V_ireturnX g r rfl dL_call_214 rfl (w_shim hS e1)
set_option maxHeartbeats 4000000 in
set_option maxRecDepth 100000 in
theorem cq_14 (l : Launch) (hfl : l.stackTraces = false) {D : DD} {Λ : LY} {M : MM} {s : Nat} {σ : SG} {a b c : Int} (hL : ClsL D Λ s) (hS : Os M s σ) (ra : inR a) : CXI l yL_call cL_call 5 .int rm_L_call [.ref s, vi 14, vi a, vi b, vi c] D Λ M (fun z M1 => z = qTest σ.1 a ∧ Sp M s (nTest σ a) M1) (fun _ _ => False) := by
  obtain ⟨⟨hO, hI⟩, ⟨hn, -⟩, -⟩ := id hS
  refine CXI_of rfl rfl (Nat.le_of_ble_eq_true rfl) (fun Γ g r => ?_)
  refine V_iload_n (q := 1) g dL_call_0 rfl rfl ?_
  refine V_tabAt g dL_call_1 (n := 14) rfl (by decide) (by decide) (by decide) (off := 214) rfl (tgt := 215) (by decide) ?_
  refine V_aload_n (q := 216) g dL_call_215 rfl rfl ?_
  refine V_iload_n (q := 217) g dL_call_216 rfl rfl ?_
  refine V_callHI_2 (q := 220) g (h_tryTest l (c_X4_test l hfl hL hO hI hn hS.len ra) hL.1 (fun E M1 h => by obtain ⟨-, h, -⟩ := h; exact h)) dL_call_217 k_L_157 rfl rfl rfl (fun z1 M1 e1 => ?_)
  exact V_ireturnX g r rfl dL_call_220 rfl (w_test hS e1)
set_option maxHeartbeats 4000000 in
set_option maxRecDepth 100000 in
theorem cq_15 (l : Launch) (hfl : l.stackTraces = false) {D : DD} {Λ : LY} {M : MM} {s : Nat} {σ : SG} {a b c : Int} (hL : ClsL D Λ s) (hS : Os M s σ) (ra : inR a) (rb : inR b) : CXI l yL_call cL_call 5 .int rm_L_call [.ref s, vi 15, vi a, vi b, vi c] D Λ M (fun z M1 => z = qSit σ.1 a b ∧ Sp M s (nSit σ a b) M1) (fun _ _ => False) := by
  obtain ⟨⟨hO, hI⟩, ⟨hn, -⟩, -⟩ := id hS
  refine CXI_of rfl rfl (Nat.le_of_ble_eq_true rfl) (fun Γ g r => ?_)
  refine V_iload_n (q := 1) g dL_call_0 rfl rfl ?_
  refine V_tabAt g dL_call_1 (n := 15) rfl (by decide) (by decide) (by decide) (off := 220) rfl (tgt := 221) (by decide) ?_
  refine V_aload_n (q := 222) g dL_call_221 rfl rfl ?_
  refine V_iload_n (q := 223) g dL_call_222 rfl rfl ?_
  refine V_iload_n (q := 224) g dL_call_223 rfl rfl ?_
  refine V_callHI_3 (q := 227) g (h_trySit l (c_X4_sit l hfl hL hO hI hn hS.len ra rb) hL.1 (fun E M1 h => by
    rcases h with ⟨-, h, -⟩ | ⟨-, -, h, -⟩
    · exact Or.inl h
    · exact Or.inr (h))) dL_call_224 k_L_160 rfl rfl rfl (fun z1 M1 e1 => ?_)
  exact V_ireturnX g r rfl dL_call_227 rfl (w_sit hS e1)
set_option maxHeartbeats 4000000 in
set_option maxRecDepth 100000 in
theorem cq_16 (l : Launch) (hfl : l.stackTraces = false) {D : DD} {Λ : LY} {M : MM} {s : Nat} {σ : SG} {a b c : Int} (hL : ClsL D Λ s) (hS : Os M s σ) (ra : inR a) (rb : inR b) (rc : inR c) : CXI l yL_call cL_call 5 .int rm_L_call [.ref s, vi 16, vi a, vi b, vi c] D Λ M (fun z M1 => z = qBound σ.1 a b c ∧ Sp M s (nBound σ a b c) M1) (fun _ _ => False) := by
  obtain ⟨⟨hO, hI⟩, ⟨hn, -⟩, -⟩ := id hS
  refine CXI_of rfl rfl (Nat.le_of_ble_eq_true rfl) (fun Γ g r => ?_)
  refine V_iload_n (q := 1) g dL_call_0 rfl rfl ?_
  refine V_tabAt g dL_call_1 (n := 16) rfl (by decide) (by decide) (by decide) (off := 227) rfl (tgt := 228) (by decide) ?_
  refine V_aload_n (q := 229) g dL_call_228 rfl rfl ?_
  refine V_iload_n (q := 230) g dL_call_229 rfl rfl ?_
  refine V_iload_n (q := 231) g dL_call_230 rfl rfl ?_
  refine V_iload (q := 233) g dL_call_231 rfl rfl ?_
  refine V_callHI_4 (q := 236) g (h_tryBound l (c_X4_bound l hfl hL hO hI hn hS.len ra rb rc) hL.1 (fun E M1 h => by
    rcases h with ⟨-, h, -⟩ | ⟨-, -, h, -⟩
    · exact Or.inl h
    · exact Or.inr (h))) dL_call_233 k_L_163 rfl rfl rfl (fun z1 M1 e1 => ?_)
  exact V_ireturnX g r rfl dL_call_236 rfl (w_bound hS e1)
set_option maxHeartbeats 4000000 in
set_option maxRecDepth 100000 in
theorem cq_17 (l : Launch) (hfl : l.stackTraces = false) {D : DD} {Λ : LY} {M : MM} {s : Nat} {σ : SG} {a b c : Int} (hL : ClsL D Λ s) (hS : Os M s σ) (ra : inR a) (rb : inR b) : CXI l yL_call cL_call 5 .int rm_L_call [.ref s, vi 17, vi a, vi b, vi c] D Λ M (fun z M1 => z = qPut σ.1 a b ∧ Sp M s (nPut σ a b) M1) (fun _ _ => False) := by
  obtain ⟨⟨hO, hI⟩, ⟨hn, -⟩, -⟩ := id hS
  refine CXI_of rfl rfl (Nat.le_of_ble_eq_true rfl) (fun Γ g r => ?_)
  refine V_iload_n (q := 1) g dL_call_0 rfl rfl ?_
  refine V_tabAt g dL_call_1 (n := 17) rfl (by decide) (by decide) (by decide) (off := 236) rfl (tgt := 237) (by decide) ?_
  refine V_aload_n (q := 238) g dL_call_237 rfl rfl ?_
  refine V_iload_n (q := 239) g dL_call_238 rfl rfl ?_
  refine V_iload_n (q := 240) g dL_call_239 rfl rfl ?_
  refine V_callHI_3 (q := 243) g (h_tryLay l (c_X4_set l hfl hL hO hI hn hS.len ra rb) hL.1 (fun E M1 h => by obtain ⟨-, h, -⟩ := h; exact h)) dL_call_240 k_L_166 rfl rfl rfl (fun z1 M1 e1 => ?_)
  exact V_ireturnX g r rfl dL_call_243 rfl (w_set hS e1)
set_option maxHeartbeats 4000000 in
set_option maxRecDepth 100000 in
theorem cq_18 (l : Launch) (hfl : l.stackTraces = false) {D : DD} {Λ : LY} {M : MM} {s : Nat} {σ : SG} {a b c : Int} (hL : ClsL D Λ s) (hS : Os M s σ) : CXI l yL_call cL_call 5 .int rm_L_call [.ref s, vi 18, vi a, vi b, vi c] D Λ M (fun z M1 => z = qUndo σ ∧ Sp M s (nUndo σ) M1) (fun _ _ => False) := by
  obtain ⟨⟨hO, hI⟩, ⟨hn, -⟩, -⟩ := id hS
  refine CXI_of rfl rfl (Nat.le_of_ble_eq_true rfl) (fun Γ g r => ?_)
  refine V_iload_n (q := 1) g dL_call_0 rfl rfl ?_
  refine V_tabAt g dL_call_1 (n := 18) rfl (by decide) (by decide) (by decide) (off := 243) rfl (tgt := 244) (by decide) ?_
  refine V_aload_n (q := 245) g dL_call_244 rfl rfl ?_
  refine V_callHI_1 (q := 248) g (h_tryUndo l (c_X4_undo l hfl hL hn hS.len hS.pB) hL.1 (fun E M1 h => by obtain ⟨-, h, -⟩ := h; exact h)) dL_call_245 k_L_169 rfl rfl rfl (fun z1 M1 e1 => ?_)
  exact V_ireturnX g r rfl dL_call_248 rfl (w_undo hS e1)
set_option maxHeartbeats 4000000 in
set_option maxRecDepth 100000 in
theorem cq_19 (l : Launch) (hfl : l.stackTraces = false) {D : DD} {Λ : LY} {M : MM} {s : Nat} {σ : SG} {a b c : Int} (hL : ClsL D Λ s) (hS : Os M s σ) (ra : inR a) (rb : inR b) (rc : inR c) : CXI l yL_call cL_call 5 .int rm_L_call [.ref s, vi 19, vi a, vi b, vi c] D Λ M (fun z M1 => z = qTurn σ.1 a b c ∧ M = M1) (fun _ _ => False) := by
  obtain ⟨⟨hO, hI⟩, ⟨hn, -⟩, -⟩ := id hS
  refine CXI_of rfl rfl (Nat.le_of_ble_eq_true rfl) (fun Γ g r => ?_)
  refine V_iload_n (q := 1) g dL_call_0 rfl rfl ?_
  refine V_tabAt g dL_call_1 (n := 19) rfl (by decide) (by decide) (by decide) (off := 248) rfl (tgt := 249) (by decide) ?_
  refine V_aload_n (q := 250) g dL_call_249 rfl rfl ?_
  refine V_iload_n (q := 251) g dL_call_250 rfl rfl ?_
  refine V_iload_n (q := 252) g dL_call_251 rfl rfl ?_
  refine V_iload (q := 254) g dL_call_252 rfl rfl ?_
  refine V_callHI_4 (q := 257) g (h_tryTurn l (c_X4_bestTurn l hfl hL hO hI ra rb rc) hL.1 (fun E M1 h => by
    rcases h with ⟨-, h, -⟩ | ⟨-, -, h, -⟩
    · exact Or.inl h
    · exact Or.inr (h))) dL_call_254 k_L_172 rfl rfl rfl (fun z1 M1 e1 => ?_)
  exact V_ireturnX g r rfl dL_call_257 rfl (w_bestTurn hS e1)
set_option maxHeartbeats 4000000 in
set_option maxRecDepth 100000 in
theorem cq_20 (l : Launch) (hfl : l.stackTraces = false) {D : DD} {Λ : LY} {M : MM} {s : Nat} {σ : SG} {a b c : Int} (hL : ClsL D Λ s) (hS : Os M s σ) (ra : inR a) : CXI l yL_call cL_call 5 .int rm_L_call [.ref s, vi 20, vi a, vi b, vi c] D Λ M (fun z M1 => z = qBSaw σ.1 a ∧ Sp M s σ M1) (fun _ _ => False) := by
  obtain ⟨⟨hO, hI⟩, ⟨hn, -⟩, -⟩ := id hS
  refine CXI_of rfl rfl (Nat.le_of_ble_eq_true rfl) (fun Γ g r => ?_)
  refine V_iload_n (q := 1) g dL_call_0 rfl rfl ?_
  refine V_tabAt g dL_call_1 (n := 20) rfl (by decide) (by decide) (by decide) (off := 257) rfl (tgt := 258) (by decide) ?_
  refine V_aload_n (q := 259) g dL_call_258 rfl rfl ?_
  refine V_iload_n (q := 260) g dL_call_259 rfl rfl ?_
  refine V_callHI_2 (q := 263) g (h_tryBestSaw l (c_X4_bestSaw l hfl hL hO hI ra) hL.1 (fun E M1 h => by obtain ⟨-, h, -⟩ := h; exact h)) dL_call_260 k_L_175 rfl rfl rfl (fun z1 M1 e1 => ?_)
  exact V_ireturnX g r rfl dL_call_263 rfl (w_bestSaw hS e1)
set_option maxHeartbeats 4000000 in
set_option maxRecDepth 100000 in
theorem cq_21 (l : Launch) (hfl : l.stackTraces = false) {D : DD} {Λ : LY} {M : MM} {s : Nat} {σ : SG} {a b c : Int} (hL : ClsL D Λ s) (hS : Os M s σ) (ra : inR a) (rb : inR b) : CXI l yL_call cL_call 5 .int rm_L_call [.ref s, vi 21, vi a, vi b, vi c] D Λ M (fun z M1 => z = qFails σ.1 a b ∧ Sp M s σ M1) (fun _ _ => False) := by
  obtain ⟨⟨hO, hI⟩, ⟨hn, -⟩, -⟩ := id hS
  refine CXI_of rfl rfl (Nat.le_of_ble_eq_true rfl) (fun Γ g r => ?_)
  refine V_iload_n (q := 1) g dL_call_0 rfl rfl ?_
  refine V_tabAt g dL_call_1 (n := 21) rfl (by decide) (by decide) (by decide) (off := 263) rfl (tgt := 264) (by decide) ?_
  refine V_aload_n (q := 265) g dL_call_264 rfl rfl ?_
  refine V_iload_n (q := 266) g dL_call_265 rfl rfl ?_
  refine V_iload_n (q := 267) g dL_call_266 rfl rfl ?_
  refine V_callHI_3 (q := 270) g (h_tryFails l (c_X4_failsIn l hfl hL hO hI ra rb) hL.1 (fun E M1 h => by
    rcases h with ⟨-, h, -⟩ | ⟨-, -, h, -⟩
    · exact Or.inl h
    · exact Or.inr (h))) dL_call_267 k_L_178 rfl rfl rfl (fun z1 M1 e1 => ?_)
  exact V_ireturnX g r rfl dL_call_270 rfl (w_failsIn hS e1)
set_option maxHeartbeats 4000000 in
set_option maxRecDepth 100000 in
theorem cq_22 (l : Launch) (hfl : l.stackTraces = false) {D : DD} {Λ : LY} {M : MM} {s : Nat} {σ : SG} {a b c : Int} (hL : ClsL D Λ s) (hS : Os M s σ) (ra : inR a) : CXI l yL_call cL_call 5 .int rm_L_call [.ref s, vi 22, vi a, vi b, vi c] D Λ M (fun z M1 => z = qBFloor σ.1 a ∧ M = M1) (fun _ _ => False) := by
  obtain ⟨⟨hO, hI⟩, ⟨hn, -⟩, -⟩ := id hS
  refine CXI_of rfl rfl (Nat.le_of_ble_eq_true rfl) (fun Γ g r => ?_)
  refine V_iload_n (q := 1) g dL_call_0 rfl rfl ?_
  refine V_tabAt g dL_call_1 (n := 22) rfl (by decide) (by decide) (by decide) (off := 270) rfl (tgt := 271) (by decide) ?_
  refine V_aload_n (q := 272) g dL_call_271 rfl rfl ?_
  refine V_iload_n (q := 273) g dL_call_272 rfl rfl ?_
  refine V_callHI_2 (q := 276) g (h_tryFloor l (c_X4_bestFloor l hfl hL hO hI ra) hL.1 (fun E M1 h => by obtain ⟨-, h, -⟩ := h; exact h)) dL_call_273 k_L_181 rfl rfl rfl (fun z1 M1 e1 => ?_)
  exact V_ireturnX g r rfl dL_call_276 rfl (w_bestFloor hS e1)
set_option maxHeartbeats 4000000 in
set_option maxRecDepth 100000 in
theorem cq_23 (l : Launch) (hfl : l.stackTraces = false) {D : DD} {Λ : LY} {M : MM} {s : Nat} {σ : SG} {a b c : Int} (hL : ClsL D Λ s) (hS : Os M s σ) (ra : inR a) : CXI l yL_call cL_call 5 .int rm_L_call [.ref s, vi 23, vi a, vi b, vi c] D Λ M (fun z M1 => z = qKeep σ.1 a ∧ Sp M s (nKeep σ a) M1) (fun _ _ => False) := by
  obtain ⟨⟨hO, hI⟩, ⟨hn, -⟩, -⟩ := id hS
  refine CXI_of rfl rfl (Nat.le_of_ble_eq_true rfl) (fun Γ g r => ?_)
  refine V_iload_n (q := 1) g dL_call_0 rfl rfl ?_
  refine V_tabAt g dL_call_1 (n := 23) rfl (by decide) (by decide) (by decide) (off := 276) rfl (tgt := 277) (by decide) ?_
  refine V_aload_n (q := 278) g dL_call_277 rfl rfl ?_
  refine V_iload_n (q := 279) g dL_call_278 rfl rfl ?_
  refine V_callHI_2 (q := 282) g (h_tryKeep l (c_X4_save l hfl hL hO hI ra) hL.1 (fun E M1 h => by obtain ⟨-, h, -⟩ := h; exact h)) dL_call_279 k_L_184 rfl rfl rfl (fun z1 M1 e1 => ?_)
  exact V_ireturnX g r rfl dL_call_282 rfl (w_save hS e1)
set_option maxHeartbeats 4000000 in
set_option maxRecDepth 100000 in
theorem cq_24 (l : Launch) (hfl : l.stackTraces = false) {D : DD} {Λ : LY} {M : MM} {s : Nat} {σ : SG} {a b c : Int} (hL : ClsL D Λ s) (hS : Os M s σ) (ra : inR a) : CXI l yL_call cL_call 5 .int rm_L_call [.ref s, vi 24, vi a, vi b, vi c] D Λ M (fun z M1 => z = qBack σ a ∧ Sp M s (nBack σ a) M1) (fun _ _ => False) := by
  obtain ⟨⟨hO, hI⟩, ⟨hn, -⟩, -⟩ := id hS
  refine CXI_of rfl rfl (Nat.le_of_ble_eq_true rfl) (fun Γ g r => ?_)
  refine V_iload_n (q := 1) g dL_call_0 rfl rfl ?_
  refine V_tabOut g dL_call_1 (by decide) (by decide) (tgt := 283) (by decide) ?_
  refine V_aload_n (q := 284) g dL_call_283 rfl rfl ?_
  refine V_iload_n (q := 285) g dL_call_284 rfl rfl ?_
  refine V_callHI_2 (q := 288) g (h_tryBack l (c_X4_restore l hfl hL hS.2.2.1.1.z.1 hS.2.2.1.2.z.1 hS.2.2.1.1.z.2.1 hS.2.2.1.2.z.2.1 ra) hL.1 (fun E M1 h => by
    rcases h with ⟨-, h, -⟩ | ⟨-, -, -, h, -⟩
    · exact Or.inl h
    · exact Or.inr (h))) dL_call_285 k_L_187 rfl rfl rfl (fun z1 M1 e1 => ?_)
  exact V_ireturnX g r rfl dL_call_288 rfl (w_restore hS e1)
theorem ch_floors (l : Launch) (hfl : l.stackTraces = false) {D : DD} {Λ : LY} {M : MM} {s : Nat} {σ : SG} {x1 x2 x3 x4 : Int} (hL : ClsL D Λ s) (hS : Os M s σ) (rx1 : inR x1) (rx2 : inR x2) (rx3 : inR x3) (rx4 : inR x4) : CXH l yL_floors cL_floors 6 .int [(0, 9, 10, 13), (0, 9, 15, 16)] rm_L_floors [.ref s, vi x1, vi x2, vi x3, vi x4] D Λ M (fun z M1 => (((0 ≤ x1 ∧ x1 ≤ 50) ∧ (0 ≤ x2 ∧ x2 ≤ 50) ∧ (0 ≤ x3 ∧ x3 ≤ 50) ∧ (0 ≤ x4 ∧ x4 ≤ 50)) ∧ (σ.1 1 < 4) ∧ z = σ.1 1 ∧ Act M s σ.1 (fFloor σ.1 x1 x2 x3 x4) M1) ∨ (z = -9999002 ∧ ((¬ ((0 ≤ x1 ∧ x1 ≤ 50) ∧ (0 ≤ x2 ∧ x2 ≤ 50) ∧ (0 ≤ x3 ∧ x3 ≤ 50) ∧ (0 ≤ x4 ∧ x4 ≤ 50)) ∧ xIA = xIA ∧ Dft M s σ.1 M1) ∨ (((0 ≤ x1 ∧ x1 ≤ 50) ∧ (0 ≤ x2 ∧ x2 ≤ 50) ∧ (0 ≤ x3 ∧ x3 ≤ 50) ∧ (0 ≤ x4 ∧ x4 ≤ 50)) ∧ ¬ (σ.1 1 < 4) ∧ xIA = xIS ∧ Dft M s σ.1 M1))) ∨ (z = -9999003 ∧ ((¬ ((0 ≤ x1 ∧ x1 ≤ 50) ∧ (0 ≤ x2 ∧ x2 ≤ 50) ∧ (0 ≤ x3 ∧ x3 ≤ 50) ∧ (0 ≤ x4 ∧ x4 ≤ 50)) ∧ xIS = xIA ∧ Dft M s σ.1 M1) ∨ (((0 ≤ x1 ∧ x1 ≤ 50) ∧ (0 ≤ x2 ∧ x2 ≤ 50) ∧ (0 ≤ x3 ∧ x3 ≤ 50) ∧ (0 ≤ x4 ∧ x4 ≤ 50)) ∧ ¬ (σ.1 1 < 4) ∧ xIS = xIS ∧ Dft M s σ.1 M1)))) := by
  obtain ⟨⟨hO, hI⟩, ⟨hn, -⟩, -⟩ := id hS
  exact h_floors l (c_X4_floor l hfl hL hO hI hn hS.len rx1 rx2 rx3 rx4) hL.1 (fun E M1 h => by
    rcases h with ⟨-, h, -⟩ | ⟨-, -, h, -⟩
    · exact Or.inl h
    · exact Or.inr h)
theorem ch_doSimulate (l : Launch) (hfl : l.stackTraces = false) {D : DD} {Λ : LY} {M : MM} {s : Nat} {σ : SG} {sd n : Int} (hL : ClsL D Λ s) (hS : Os M s σ) (rn : inR n) : CXH l yL_doSimulate cL_doSimulate 5 .int [(0, 6, 7, 13)] rm_L_doSimulate [.ref s, vl sd, vi n] D Λ M (fun z M1 => ((1 ≤ n ∧ n ≤ 60) ∧ z = sSim σ.1 sd n.toNat ∧ Oth M M1 (s + 12)) ∨ (z = -9999002 ∧ (¬ (1 ≤ n ∧ n ≤ 60) ∧ xIA = xIA ∧ M = M1))) := by
  obtain ⟨⟨hO, hI⟩, ⟨hn, -⟩, -⟩ := id hS
  exact h_doSimulate l (c_X4_simulate l hfl hL hO hI rn) hL.1 (fun E M1 h => by obtain ⟨-, h, -⟩ := h; exact h)
theorem ch_doScript (l : Launch) (hfl : l.stackTraces = false) {D : DD} {Λ : LY} {M : MM} {s : Nat} {σ : SG} {n sc : Int} (hL : ClsL D Λ s) (hS : Os M s σ) (rn : inR n) (rsc : inL sc) : CXH l yL_doScript cL_doScript 5 .int [(0, 6, 7, 13)] rm_L_doScript [.ref s, vi n, vl sc] D Λ M (fun z M1 => ((1 ≤ n ∧ n ≤ 3 ∧ 0 ≤ sc ∧ sc < sP n.toNat) ∧ z = sRun sc n.toNat 0 σ.1 ∧ Oth M M1 (s + 12)) ∨ (z = -9999002 ∧ (¬ (1 ≤ n ∧ n ≤ 3 ∧ 0 ≤ sc ∧ sc < sP n.toNat) ∧ xIA = xIA ∧ M = M1))) := by
  obtain ⟨⟨hO, hI⟩, ⟨hn, -⟩, -⟩ := id hS
  exact h_doScript l (c_X4_runScript l hfl hL hO hI rn rsc) hL.1 (fun E M1 h => by obtain ⟨-, h, -⟩ := h; exact h)
theorem w_runScript {M M1 : MM} {f : Int → Int} {s : Nat} {n sc z : Int} (hbad : ¬ (1 ≤ n ∧ n ≤ 3 ∧ 0 ≤ sc ∧ sc < sP n.toNat)) (e : ((1 ≤ n ∧ n ≤ 3 ∧ 0 ≤ sc ∧ sc < sP n.toNat) ∧ z = sRun sc n.toNat 0 f ∧ Oth M M1 (s + 12)) ∨ (z = -9999002 ∧ (¬ (1 ≤ n ∧ n ≤ 3 ∧ 0 ≤ sc ∧ sc < sP n.toNat) ∧ xIA = xIA ∧ M = M1))) : z = -9999002 ∧ M = M1 := by
  rcases e with ⟨c1, -⟩ | ⟨ev, -, -, e⟩
  · exact absurd c1 hbad
  · exact ⟨ev, e⟩
