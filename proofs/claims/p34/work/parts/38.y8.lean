/-- the program's object at s, with all that hangs on it -/
def ClsL (D : DD) (Λ : LY) (s : Nat) : Prop := Λ s = some (kO 4 [some (s + 1), some (s + 12), some (s + 23), some (s + 190), some (s + 202), some (s + 214)]) ∧ OffL D Λ (s + 1) ∧ OffL D Λ (s + 12) ∧ MemL D Λ (s + 23) ∧ Λ (s + 190) = some (kO 3 [some (s + 191), none]) ∧ OffL D Λ (s + 191) ∧ Λ (s + 202) = some (kO 3 [some (s + 203), none]) ∧ OffL D Λ (s + 203) ∧ TxL D Λ (s + 214)
abbrev rm_X4_doCommand : Room := { frames := 5, cells := 0, slots := 0, locals := 122 }
set_option maxHeartbeats 4000000 in
set_option maxRecDepth 100000 in
theorem c_X4_doCommand (l : Launch) {D : DD} {Λ : LY} {M : MM} {s r9 : Nat} {f : Int → Int} {c n0 n1 n2 n3 : Int} (hL : ClsL D Λ s) (hO : Off M (s + 1) f) (hI : Inv f) (hlt : M (s + 214) 3 = c) (hc : 0 ≤ c ∧ c ≤ 255) (hr : sRow c = some r9) (hn0 : M (s + 216) 0 = n0) (hn1 : M (s + 216) 1 = n1) (hn2 : M (s + 216) 2 = n2) (hn3 : M (s + 216) 3 = n3) (hf0 : fLo r9 0 ≤ n0 ∧ n0 ≤ fHi r9 0) (hf1 : fLo r9 1 ≤ n1 ∧ n1 ≤ fHi r9 1) (hf2 : fLo r9 2 ≤ n2 ∧ n2 ≤ fHi r9 2) (hf3 : fLo r9 3 ≤ n3 ∧ n3 ≤ fHi r9 3) : CI l yX4_doCommand cX4_doCommand 5 .int rm_X4_doCommand [.ref s] D Λ M (fun z M1 => (xOk f r9 n0 n1 n2 ∧ (0 ≤ z ∧ z < 2147483648) ∧ Off M1 (s + 1) (xF f r9 n0 n1 n2 n3) ∧ Oth M M1 (s + 1)) ∨ (¬ xOk f r9 n0 n1 n2 ∧ (-2147483648 ≤ z ∧ z < 0) ∧ M = M1)) := by
  refine CI_of rfl rfl (Nat.le_of_ble_eq_true rfl) (fun Γ g r => ?_)
  have h0 := hI.1
  have h1 := hI.2.1
  refine V_aload_n (q := 1) g dX4_doCommand_0 rfl rfl ?_
  refine V_getR (q := 4) g dX4_doCommand_1 rfl f_X4_39 rfl hL.1 rfl ?_
  refine V_getRN (q := 7) g dX4_doCommand_4 rfl f_X4_305 rfl hL.2.2.2.2.2.2.2.2.1 rfl ?_
  refine V_iconst (q := 8) g dX4_doCommand_7 rfl ?_
  refine V_callSI_2 (q := 11) g (c_X4_at l hL.2.2.2.2.2.2.2.2.2.2 (by decide) (by decide)) dX4_doCommand_8 k_X4_111 rfl rfl ⟨rfl, rfl⟩ rfl (fun z1 M1 e1 => ?_)
  obtain ⟨e1, rfl⟩ := e1
  rw [hn0] at e1
  rw [e1]
  refine V_istore_n_1 (q := 12) g dX4_doCommand_11 (by decide) rfl rfl ?_
  refine V_aload_n (q := 13) g dX4_doCommand_12 rfl rfl ?_
  refine V_getR (q := 16) g dX4_doCommand_13 rfl f_X4_39 rfl hL.1 rfl ?_
  refine V_getRN (q := 19) g dX4_doCommand_16 rfl f_X4_305 rfl hL.2.2.2.2.2.2.2.2.1 rfl ?_
  refine V_iconst (q := 20) g dX4_doCommand_19 rfl ?_
  refine V_callSI_2 (q := 23) g (c_X4_at l hL.2.2.2.2.2.2.2.2.2.2 (by decide) (by decide)) dX4_doCommand_20 k_X4_111 rfl rfl ⟨rfl, rfl⟩ rfl (fun z2 M2 e2 => ?_)
  obtain ⟨e2, rfl⟩ := e2
  rw [hn1] at e2
  rw [e2]
  refine V_istore_n_2 (q := 24) g dX4_doCommand_23 (by decide) rfl rfl ?_
  refine V_aload_n (q := 25) g dX4_doCommand_24 rfl rfl ?_
  refine V_getR (q := 28) g dX4_doCommand_25 rfl f_X4_39 rfl hL.1 rfl ?_
  refine V_getRN (q := 31) g dX4_doCommand_28 rfl f_X4_305 rfl hL.2.2.2.2.2.2.2.2.1 rfl ?_
  refine V_iconst (q := 32) g dX4_doCommand_31 rfl ?_
  refine V_callSI_2 (q := 35) g (c_X4_at l hL.2.2.2.2.2.2.2.2.2.2 (by decide) (by decide)) dX4_doCommand_32 k_X4_111 rfl rfl ⟨rfl, rfl⟩ rfl (fun z3 M3 e3 => ?_)
  obtain ⟨e3, rfl⟩ := e3
  rw [hn2] at e3
  rw [e3]
  refine V_istore_n_3 (q := 36) g dX4_doCommand_35 (by decide) rfl rfl ?_
  refine V_aload_n (q := 37) g dX4_doCommand_36 rfl rfl ?_
  refine V_getR (q := 40) g dX4_doCommand_37 rfl f_X4_39 rfl hL.1 rfl ?_
  refine V_getRN (q := 43) g dX4_doCommand_40 rfl f_X4_305 rfl hL.2.2.2.2.2.2.2.2.1 rfl ?_
  refine V_iconst (q := 44) g dX4_doCommand_43 rfl ?_
  refine V_callSI_2 (q := 47) g (c_X4_at l hL.2.2.2.2.2.2.2.2.2.2 (by decide) (by decide)) dX4_doCommand_44 k_X4_111 rfl rfl ⟨rfl, rfl⟩ rfl (fun z4 M4 e4 => ?_)
  obtain ⟨e4, rfl⟩ := e4
  rw [hn3] at e4
  rw [e4]
  refine V_istore_4 (q := 49) g dX4_doCommand_47 (by decide) rfl rfl ?_
  refine V_aload_n (q := 50) g dX4_doCommand_49 rfl rfl ?_
  refine V_getR (q := 53) g dX4_doCommand_50 rfl f_X4_39 rfl hL.1 rfl ?_
  refine V_getIN (q := 56) g dX4_doCommand_53 rfl f_X4_308 rfl hL.2.2.2.2.2.2.2.2.1 rfl (j := 3) rfl ?_
  rw [hlt]
  rcases (by omega : c = 98 ∨ c = 99 ∨ c = 100 ∨ c = 101 ∨ c = 102 ∨ c = 103 ∨ c = 104 ∨ c = 105 ∨ c = 106 ∨ c = 107 ∨ c = 108 ∨ c = 109 ∨ c = 110 ∨ c = 111 ∨ c = 112 ∨ c = 113 ∨ c = 114 ∨ c = 115 ∨ c = 116 ∨ c = 117 ∨ c = 118 ∨ c = 119 ∨ (c < 98 ∨ 119 < c)) with h56 | h56 | h56 | h56 | h56 | h56 | h56 | h56 | h56 | h56 | h56 | h56 | h56 | h56 | h56 | h56 | h56 | h56 | h56 | h56 | h56 | h56 | h56
  · refine V_tabAt g dX4_doCommand_56 (n := 98) h56 (by decide) (by decide) (by decide) (off := 149) rfl (tgt := 205) (by decide) ?_
    obtain rfl : r9 = 4 := by
      rw [h56] at hr
      exact (Option.some.inj (show some 4 = some r9 from hr)).symm
    have f0 : 0 ≤ n0 ∧ n0 ≤ 9 := hf0
    have f1 : 0 ≤ n1 ∧ n1 ≤ 3 := hf1
    have f2 : 0 ≤ n2 ∧ n2 ≤ 3 := hf2
    have f3 : 0 ≤ n3 ∧ n3 ≤ 0 := hf3
    refine V_aload_n (q := 206) g dX4_doCommand_205 rfl rfl ?_
    refine V_getR (q := 209) g dX4_doCommand_206 rfl f_X4_10 rfl hL.1 rfl ?_
    refine V_iload_n (q := 210) g dX4_doCommand_209 rfl rfl ?_
    refine V_iload_n (q := 211) g dX4_doCommand_210 rfl rfl ?_
    refine V_iload_n (q := 212) g dX4_doCommand_211 rfl rfl ?_
    refine V_callVI_3 (q := 215) g (c_X1_moveChair l hL.2.1 hO hI (by omega) (by omega) (by omega)) dX4_doCommand_212 k_X4_200 hL.2.1.1 rfl rfl rfl rfl ⟨rfl, rfl⟩ rfl (fun z5 M5 e5 => ?_)
    obtain e5 := e5
    have hbd : (0 ≤ n0 ∧ n0 < f 0) ∧ (0 ≤ n1 ∧ n1 < f 1) → sWob f n0 n1 n2 < 2147483648 := fun q => by
      have := sWob_r hI (c := n0) (fl := n1) (q := n2) (by omega) (by omega) (by omega)
      omega
    have hgoal : (xOk f 4 n0 n1 n2 ∧ (0 ≤ z5 ∧ z5 < 2147483648) ∧ Off M5 (s + 1) (xF f 4 n0 n1 n2 n3) ∧ Oth M M5 (s + 1)) ∨ (¬ xOk f 4 n0 n1 n2 ∧ (-2147483648 ≤ z5 ∧ z5 < 0) ∧ M = M5) := by
      rcases e5 with ⟨q0, q1, rfl⟩ | ⟨q0, q1, q2, rfl⟩ | ⟨q0, q1, q2, q3, hO9, hT9⟩
      all_goals first
        | exact Or.inr ⟨fun q => by have q := xOk_4.mp q; omega, by omega, rfl⟩
        | exact Or.inl ⟨xOk_4.mpr (by omega), by omega, hO9, hT9⟩
    exact V_ireturn g r dX4_doCommand_215 rfl hgoal
  · refine V_tabAt g dX4_doCommand_56 (n := 99) h56 (by decide) (by decide) (by decide) (off := 104) rfl (tgt := 160) (by decide) ?_
    obtain rfl : r9 = 0 := by
      rw [h56] at hr
      exact (Option.some.inj (show some 0 = some r9 from hr)).symm
    have f0 : 0 ≤ n0 ∧ n0 ≤ 3 := hf0
    have f1 : 100 ≤ n1 ∧ n1 ≤ 900 := hf1
    have f2 : 0 ≤ n2 ∧ n2 ≤ 0 := hf2
    have f3 : 0 ≤ n3 ∧ n3 ≤ 0 := hf3
    refine V_aload_n (q := 161) g dX4_doCommand_160 rfl rfl ?_
    refine V_getR (q := 164) g dX4_doCommand_161 rfl f_X4_10 rfl hL.1 rfl ?_
    refine V_iload_n (q := 165) g dX4_doCommand_164 rfl rfl ?_
    refine V_iload_n (q := 166) g dX4_doCommand_165 rfl rfl ?_
    refine V_callVI_2 (q := 169) g (c_X1_addChair l hL.2.1 hO hI (by omega) (by omega)) dX4_doCommand_166 k_X4_186 hL.2.1.1 rfl rfl rfl rfl ⟨rfl, rfl⟩ rfl (fun z6 M6 e6 => ?_)
    obtain e6 := e6
    have hgoal : (xOk f 0 n0 n1 n2 ∧ (0 ≤ z6 ∧ z6 < 2147483648) ∧ Off M6 (s + 1) (xF f 0 n0 n1 n2 n3) ∧ Oth M M6 (s + 1)) ∨ (¬ xOk f 0 n0 n1 n2 ∧ (-2147483648 ≤ z6 ∧ z6 < 0) ∧ M = M6) := by
      rcases e6 with ⟨q0, q1, rfl⟩ | ⟨q0, q1, q2, rfl⟩ | ⟨q0, q1, q2, q3, rfl⟩ | ⟨q0, q1, q2, q3, hO9, hT9⟩
      all_goals first
        | exact Or.inr ⟨fun q => by have q := xOk_0.mp q; omega, by omega, rfl⟩
        | exact Or.inl ⟨xOk_0.mpr (by omega), by omega, hO9, hT9⟩
    exact V_ireturn g r dX4_doCommand_169 rfl hgoal
  · refine V_tabAt g dX4_doCommand_56 (n := 100) h56 (by decide) (by decide) (by decide) (off := 190) rfl (tgt := 246) (by decide) ?_
    refine V_bipush (q := 248) g dX4_doCommand_246 (by decide) rfl ?_
    exact V_ireturn g r dX4_doCommand_248 rfl (by exfalso; unfold sRow at hr; rw [if_neg (by omega), if_neg (by omega), if_neg (by omega), if_neg (by omega), if_neg (by omega), if_neg (by omega), if_neg (by omega), if_neg (by omega)] at hr; cases hr)
  · refine V_tabAt g dX4_doCommand_56 (n := 101) h56 (by decide) (by decide) (by decide) (off := 190) rfl (tgt := 246) (by decide) ?_
    refine V_bipush (q := 248) g dX4_doCommand_246 (by decide) rfl ?_
    exact V_ireturn g r dX4_doCommand_248 rfl (by exfalso; unfold sRow at hr; rw [if_neg (by omega), if_neg (by omega), if_neg (by omega), if_neg (by omega), if_neg (by omega), if_neg (by omega), if_neg (by omega), if_neg (by omega)] at hr; cases hr)
  · refine V_tabAt g dX4_doCommand_56 (n := 102) h56 (by decide) (by decide) (by decide) (off := 136) rfl (tgt := 192) (by decide) ?_
    obtain rfl : r9 = 3 := by
      rw [h56] at hr
      exact (Option.some.inj (show some 3 = some r9 from hr)).symm
    have f0 : 0 ≤ n0 ∧ n0 ≤ 50 := hf0
    have f1 : 0 ≤ n1 ∧ n1 ≤ 50 := hf1
    have f2 : 0 ≤ n2 ∧ n2 ≤ 50 := hf2
    have f3 : 0 ≤ n3 ∧ n3 ≤ 50 := hf3
    refine V_aload_n (q := 193) g dX4_doCommand_192 rfl rfl ?_
    refine V_getR (q := 196) g dX4_doCommand_193 rfl f_X4_10 rfl hL.1 rfl ?_
    refine V_iload_n (q := 197) g dX4_doCommand_196 rfl rfl ?_
    refine V_iload_n (q := 198) g dX4_doCommand_197 rfl rfl ?_
    refine V_iload_n (q := 199) g dX4_doCommand_198 rfl rfl ?_
    refine V_iload (q := 201) g dX4_doCommand_199 rfl rfl ?_
    refine V_callVI_4 (q := 204) g (c_X1_layFloor l hL.2.1 hO hI (by omega) (by omega) (by omega) (by omega)) dX4_doCommand_201 k_X4_192 hL.2.1.1 rfl rfl rfl rfl ⟨rfl, rfl⟩ rfl (fun z7 M7 e7 => ?_)
    obtain e7 := e7
    have hgoal : (xOk f 3 n0 n1 n2 ∧ (0 ≤ z7 ∧ z7 < 2147483648) ∧ Off M7 (s + 1) (xF f 3 n0 n1 n2 n3) ∧ Oth M M7 (s + 1)) ∨ (¬ xOk f 3 n0 n1 n2 ∧ (-2147483648 ≤ z7 ∧ z7 < 0) ∧ M = M7) := by
      rcases e7 with ⟨q0, q1, rfl⟩ | ⟨q0, q1, q2, rfl⟩ | ⟨q0, q1, q2, hO9, hT9⟩
      all_goals first
        | exact Or.inr ⟨fun q => by have q := xOk_3.mp q; omega, by omega, rfl⟩
        | exact Or.inl ⟨xOk_3.mpr (by omega), by omega, hO9, hT9⟩
    exact V_ireturn g r dX4_doCommand_204 rfl hgoal
  · refine V_tabAt g dX4_doCommand_56 (n := 103) h56 (by decide) (by decide) (by decide) (off := 179) rfl (tgt := 235) (by decide) ?_
    obtain rfl : r9 = 7 := by
      rw [h56] at hr
      exact (Option.some.inj (show some 7 = some r9 from hr)).symm
    have f0 : 0 ≤ n0 ∧ n0 ≤ 3 := hf0
    have f1 : 0 ≤ n1 ∧ n1 ≤ 3 := hf1
    have f2 : 0 ≤ n2 ∧ n2 ≤ 900 := hf2
    have f3 : 0 ≤ n3 ∧ n3 ≤ 0 := hf3
    refine V_aload_n (q := 236) g dX4_doCommand_235 rfl rfl ?_
    refine V_getR (q := 239) g dX4_doCommand_236 rfl f_X4_10 rfl hL.1 rfl ?_
    refine V_iload_n (q := 240) g dX4_doCommand_239 rfl rfl ?_
    refine V_iload_n (q := 241) g dX4_doCommand_240 rfl rfl ?_
    refine V_iload_n (q := 242) g dX4_doCommand_241 rfl rfl ?_
    refine V_callVI_3 (q := 245) g (c_X1_changeBound l hL.2.1 hO hI (by omega) (by omega) (by omega)) dX4_doCommand_242 k_X4_215 hL.2.1.1 rfl rfl rfl rfl ⟨rfl, rfl⟩ rfl (fun z8 M8 e8 => ?_)
    obtain e8 := e8
    have hbd : (n1 < 2 ∧ 100 ≤ n2 ∧ n2 ≤ 900 ∨ n1 = 2 ∧ 0 ≤ n2 ∧ n2 ≤ 100 ∨ n1 = 3 ∧ 0 ≤ n2 ∧ n2 ≤ 200) → fBound f n0 n1 n2 4 - f 4 < 2147483648 := fun q => by
      have := bnd_v hI (gu := n0) (k := n1) (v := n2) (by omega) (by omega) (by omega)
      omega
    have hgoal : (xOk f 7 n0 n1 n2 ∧ (0 ≤ z8 ∧ z8 < 2147483648) ∧ Off M8 (s + 1) (xF f 7 n0 n1 n2 n3) ∧ Oth M M8 (s + 1)) ∨ (¬ xOk f 7 n0 n1 n2 ∧ (-2147483648 ≤ z8 ∧ z8 < 0) ∧ M = M8) := by
      rcases e8 with ⟨q0, q1, rfl⟩ | ⟨q0, q1, q2, rfl⟩ | ⟨q0, q1, q2, q3, hO9, hT9⟩
      all_goals first
        | exact Or.inr ⟨fun q => by have q := xOk_7.mp q; omega, by omega, rfl⟩
        | exact Or.inl ⟨xOk_7.mpr (by omega), by omega, hO9, hT9⟩
    exact V_ireturn g r dX4_doCommand_245 rfl hgoal
  · refine V_tabAt g dX4_doCommand_56 (n := 104) h56 (by decide) (by decide) (by decide) (off := 125) rfl (tgt := 181) (by decide) ?_
    obtain rfl : r9 = 2 := by
      rw [h56] at hr
      exact (Option.some.inj (show some 2 = some r9 from hr)).symm
    have f0 : 0 ≤ n0 ∧ n0 ≤ 9 := hf0
    have f1 : 0 ≤ n1 ∧ n1 ≤ 3 := hf1
    have f2 : 1 ≤ n2 ∧ n2 ≤ 99 := hf2
    have f3 : 0 ≤ n3 ∧ n3 ≤ 0 := hf3
    refine V_aload_n (q := 182) g dX4_doCommand_181 rfl rfl ?_
    refine V_getR (q := 185) g dX4_doCommand_182 rfl f_X4_10 rfl hL.1 rfl ?_
    refine V_iload_n (q := 186) g dX4_doCommand_185 rfl rfl ?_
    refine V_iload_n (q := 187) g dX4_doCommand_186 rfl rfl ?_
    refine V_iload_n (q := 188) g dX4_doCommand_187 rfl rfl ?_
    refine V_callVI_3 (q := 191) g (c_X1_shimLeg l hL.2.1 hO hI (by omega) (by omega) (by omega)) dX4_doCommand_188 k_X4_206 hL.2.1.1 rfl rfl rfl rfl ⟨rfl, rfl⟩ rfl (fun z9 M9 e9 => ?_)
    obtain e9 := e9
    have hgoal : (xOk f 2 n0 n1 n2 ∧ (0 ≤ z9 ∧ z9 < 2147483648) ∧ Off M9 (s + 1) (xF f 2 n0 n1 n2 n3) ∧ Oth M M9 (s + 1)) ∨ (¬ xOk f 2 n0 n1 n2 ∧ (-2147483648 ≤ z9 ∧ z9 < 0) ∧ M = M9) := by
      rcases e9 with ⟨q0, q1, rfl⟩ | ⟨q0, q1, q2, rfl⟩ | ⟨q0, q1, q2, q3, rfl⟩ | ⟨q0, q1, q2, q3, hO9, hT9⟩
      all_goals first
        | exact Or.inr ⟨fun q => by have q := xOk_2.mp q; omega, by omega, rfl⟩
        | exact Or.inl ⟨xOk_2.mpr (by omega), by omega, hO9, hT9⟩
    exact V_ireturn g r dX4_doCommand_191 rfl hgoal
  · refine V_tabAt g dX4_doCommand_56 (n := 105) h56 (by decide) (by decide) (by decide) (off := 190) rfl (tgt := 246) (by decide) ?_
    refine V_bipush (q := 248) g dX4_doCommand_246 (by decide) rfl ?_
    exact V_ireturn g r dX4_doCommand_248 rfl (by exfalso; unfold sRow at hr; rw [if_neg (by omega), if_neg (by omega), if_neg (by omega), if_neg (by omega), if_neg (by omega), if_neg (by omega), if_neg (by omega), if_neg (by omega)] at hr; cases hr)
  · refine V_tabAt g dX4_doCommand_56 (n := 106) h56 (by decide) (by decide) (by decide) (off := 190) rfl (tgt := 246) (by decide) ?_
    refine V_bipush (q := 248) g dX4_doCommand_246 (by decide) rfl ?_
    exact V_ireturn g r dX4_doCommand_248 rfl (by exfalso; unfold sRow at hr; rw [if_neg (by omega), if_neg (by omega), if_neg (by omega), if_neg (by omega), if_neg (by omega), if_neg (by omega), if_neg (by omega), if_neg (by omega)] at hr; cases hr)
  · refine V_tabAt g dX4_doCommand_56 (n := 107) h56 (by decide) (by decide) (by decide) (off := 190) rfl (tgt := 246) (by decide) ?_
    refine V_bipush (q := 248) g dX4_doCommand_246 (by decide) rfl ?_
    exact V_ireturn g r dX4_doCommand_248 rfl (by exfalso; unfold sRow at hr; rw [if_neg (by omega), if_neg (by omega), if_neg (by omega), if_neg (by omega), if_neg (by omega), if_neg (by omega), if_neg (by omega), if_neg (by omega)] at hr; cases hr)
  · refine V_tabAt g dX4_doCommand_56 (n := 108) h56 (by decide) (by decide) (by decide) (off := 190) rfl (tgt := 246) (by decide) ?_
    refine V_bipush (q := 248) g dX4_doCommand_246 (by decide) rfl ?_
    exact V_ireturn g r dX4_doCommand_248 rfl (by exfalso; unfold sRow at hr; rw [if_neg (by omega), if_neg (by omega), if_neg (by omega), if_neg (by omega), if_neg (by omega), if_neg (by omega), if_neg (by omega), if_neg (by omega)] at hr; cases hr)
  · refine V_tabAt g dX4_doCommand_56 (n := 109) h56 (by decide) (by decide) (by decide) (off := 190) rfl (tgt := 246) (by decide) ?_
    refine V_bipush (q := 248) g dX4_doCommand_246 (by decide) rfl ?_
    exact V_ireturn g r dX4_doCommand_248 rfl (by exfalso; unfold sRow at hr; rw [if_neg (by omega), if_neg (by omega), if_neg (by omega), if_neg (by omega), if_neg (by omega), if_neg (by omega), if_neg (by omega), if_neg (by omega)] at hr; cases hr)
  · refine V_tabAt g dX4_doCommand_56 (n := 110) h56 (by decide) (by decide) (by decide) (off := 190) rfl (tgt := 246) (by decide) ?_
    refine V_bipush (q := 248) g dX4_doCommand_246 (by decide) rfl ?_
    exact V_ireturn g r dX4_doCommand_248 rfl (by exfalso; unfold sRow at hr; rw [if_neg (by omega), if_neg (by omega), if_neg (by omega), if_neg (by omega), if_neg (by omega), if_neg (by omega), if_neg (by omega), if_neg (by omega)] at hr; cases hr)
  · refine V_tabAt g dX4_doCommand_56 (n := 111) h56 (by decide) (by decide) (by decide) (off := 190) rfl (tgt := 246) (by decide) ?_
    refine V_bipush (q := 248) g dX4_doCommand_246 (by decide) rfl ?_
    exact V_ireturn g r dX4_doCommand_248 rfl (by exfalso; unfold sRow at hr; rw [if_neg (by omega), if_neg (by omega), if_neg (by omega), if_neg (by omega), if_neg (by omega), if_neg (by omega), if_neg (by omega), if_neg (by omega)] at hr; cases hr)
  · refine V_tabAt g dX4_doCommand_56 (n := 112) h56 (by decide) (by decide) (by decide) (off := 190) rfl (tgt := 246) (by decide) ?_
    refine V_bipush (q := 248) g dX4_doCommand_246 (by decide) rfl ?_
    exact V_ireturn g r dX4_doCommand_248 rfl (by exfalso; unfold sRow at hr; rw [if_neg (by omega), if_neg (by omega), if_neg (by omega), if_neg (by omega), if_neg (by omega), if_neg (by omega), if_neg (by omega), if_neg (by omega)] at hr; cases hr)
  · refine V_tabAt g dX4_doCommand_56 (n := 113) h56 (by decide) (by decide) (by decide) (off := 190) rfl (tgt := 246) (by decide) ?_
    refine V_bipush (q := 248) g dX4_doCommand_246 (by decide) rfl ?_
    exact V_ireturn g r dX4_doCommand_248 rfl (by exfalso; unfold sRow at hr; rw [if_neg (by omega), if_neg (by omega), if_neg (by omega), if_neg (by omega), if_neg (by omega), if_neg (by omega), if_neg (by omega), if_neg (by omega)] at hr; cases hr)
  · refine V_tabAt g dX4_doCommand_56 (n := 114) h56 (by decide) (by decide) (by decide) (off := 190) rfl (tgt := 246) (by decide) ?_
    refine V_bipush (q := 248) g dX4_doCommand_246 (by decide) rfl ?_
    exact V_ireturn g r dX4_doCommand_248 rfl (by exfalso; unfold sRow at hr; rw [if_neg (by omega), if_neg (by omega), if_neg (by omega), if_neg (by omega), if_neg (by omega), if_neg (by omega), if_neg (by omega), if_neg (by omega)] at hr; cases hr)
  · refine V_tabAt g dX4_doCommand_56 (n := 115) h56 (by decide) (by decide) (by decide) (off := 114) rfl (tgt := 170) (by decide) ?_
    obtain rfl : r9 = 1 := by
      rw [h56] at hr
      exact (Option.some.inj (show some 1 = some r9 from hr)).symm
    have f0 : 0 ≤ n0 ∧ n0 ≤ 9 := hf0
    have f1 : 0 ≤ n1 ∧ n1 ≤ 3 := hf1
    have f2 : 1 ≤ n2 ∧ n2 ≤ 800 := hf2
    have f3 : 0 ≤ n3 ∧ n3 ≤ 0 := hf3
    refine V_aload_n (q := 171) g dX4_doCommand_170 rfl rfl ?_
    refine V_getR (q := 174) g dX4_doCommand_171 rfl f_X4_10 rfl hL.1 rfl ?_
    refine V_iload_n (q := 175) g dX4_doCommand_174 rfl rfl ?_
    refine V_iload_n (q := 176) g dX4_doCommand_175 rfl rfl ?_
    refine V_iload_n (q := 177) g dX4_doCommand_176 rfl rfl ?_
    refine V_callVI_3 (q := 180) g (c_X1_sawLeg l hL.2.1 hO hI (by omega) (by omega) (by omega)) dX4_doCommand_177 k_X4_203 hL.2.1.1 rfl rfl rfl rfl ⟨rfl, rfl⟩ rfl (fun z10 M10 e10 => ?_)
    obtain e10 := e10
    have hgoal : (xOk f 1 n0 n1 n2 ∧ (0 ≤ z10 ∧ z10 < 2147483648) ∧ Off M10 (s + 1) (xF f 1 n0 n1 n2 n3) ∧ Oth M M10 (s + 1)) ∨ (¬ xOk f 1 n0 n1 n2 ∧ (-2147483648 ≤ z10 ∧ z10 < 0) ∧ M = M10) := by
      rcases e10 with ⟨q0, q1, rfl⟩ | ⟨q0, q1, q2, rfl⟩ | ⟨q0, q1, q2, q3, rfl⟩ | ⟨q0, q1, q2, q3, hO9, hT9⟩
      all_goals first
        | exact Or.inr ⟨fun q => by have q := xOk_1.mp q; omega, by omega, rfl⟩
        | exact Or.inl ⟨xOk_1.mpr (by omega), by omega, hO9, hT9⟩
    exact V_ireturn g r dX4_doCommand_180 rfl hgoal
  · refine V_tabAt g dX4_doCommand_56 (n := 116) h56 (by decide) (by decide) (by decide) (off := 160) rfl (tgt := 216) (by decide) ?_
    obtain rfl : r9 = 5 := by
      rw [h56] at hr
      exact (Option.some.inj (show some 5 = some r9 from hr)).symm
    have f0 : 0 ≤ n0 ∧ n0 ≤ 9 := hf0
    have f1 : 0 ≤ n1 ∧ n1 ≤ 0 := hf1
    have f2 : 0 ≤ n2 ∧ n2 ≤ 0 := hf2
    have f3 : 0 ≤ n3 ∧ n3 ≤ 0 := hf3
    refine V_aload_n (q := 217) g dX4_doCommand_216 rfl rfl ?_
    refine V_getR (q := 220) g dX4_doCommand_217 rfl f_X4_10 rfl hL.1 rfl ?_
    refine V_iload_n (q := 221) g dX4_doCommand_220 rfl rfl ?_
    refine V_callVI_1 (q := 224) g (c_X1_testChair l hL.2.1 hO hI (by omega)) dX4_doCommand_221 k_X4_209 hL.2.1.1 rfl rfl rfl rfl ⟨rfl, rfl⟩ rfl (fun z11 M11 e11 => ?_)
    obtain e11 := e11
    have hbd := sWhy_r f n0
    have hgoal : (xOk f 5 n0 n1 n2 ∧ (0 ≤ z11 ∧ z11 < 2147483648) ∧ Off M11 (s + 1) (xF f 5 n0 n1 n2 n3) ∧ Oth M M11 (s + 1)) ∨ (¬ xOk f 5 n0 n1 n2 ∧ (-2147483648 ≤ z11 ∧ z11 < 0) ∧ M = M11) := by
      rcases e11 with ⟨q0, q1, rfl⟩ | ⟨q0, q1, q2, hO9, hT9⟩
      all_goals first
        | exact Or.inr ⟨fun q => by have q := xOk_5.mp q; omega, by omega, rfl⟩
        | exact Or.inl ⟨xOk_5.mpr (by omega), by omega, hO9, hT9⟩
    exact V_ireturn g r dX4_doCommand_224 rfl hgoal
  · refine V_tabAt g dX4_doCommand_56 (n := 117) h56 (by decide) (by decide) (by decide) (off := 190) rfl (tgt := 246) (by decide) ?_
    refine V_bipush (q := 248) g dX4_doCommand_246 (by decide) rfl ?_
    exact V_ireturn g r dX4_doCommand_248 rfl (by exfalso; unfold sRow at hr; rw [if_neg (by omega), if_neg (by omega), if_neg (by omega), if_neg (by omega), if_neg (by omega), if_neg (by omega), if_neg (by omega), if_neg (by omega)] at hr; cases hr)
  · refine V_tabAt g dX4_doCommand_56 (n := 118) h56 (by decide) (by decide) (by decide) (off := 190) rfl (tgt := 246) (by decide) ?_
    refine V_bipush (q := 248) g dX4_doCommand_246 (by decide) rfl ?_
    exact V_ireturn g r dX4_doCommand_248 rfl (by exfalso; unfold sRow at hr; rw [if_neg (by omega), if_neg (by omega), if_neg (by omega), if_neg (by omega), if_neg (by omega), if_neg (by omega), if_neg (by omega), if_neg (by omega)] at hr; cases hr)
  · refine V_tabAt g dX4_doCommand_56 (n := 119) h56 (by decide) (by decide) (by decide) (off := 169) rfl (tgt := 225) (by decide) ?_
    obtain rfl : r9 = 6 := by
      rw [h56] at hr
      exact (Option.some.inj (show some 6 = some r9 from hr)).symm
    have f0 : 0 ≤ n0 ∧ n0 ≤ 9 := hf0
    have f1 : 1 ≤ n1 ∧ n1 ≤ 200 := hf1
    have f2 : 0 ≤ n2 ∧ n2 ≤ 0 := hf2
    have f3 : 0 ≤ n3 ∧ n3 ≤ 0 := hf3
    refine V_aload_n (q := 226) g dX4_doCommand_225 rfl rfl ?_
    refine V_getR (q := 229) g dX4_doCommand_226 rfl f_X4_10 rfl hL.1 rfl ?_
    refine V_iload_n (q := 230) g dX4_doCommand_229 rfl rfl ?_
    refine V_iload_n (q := 231) g dX4_doCommand_230 rfl rfl ?_
    refine V_callVI_2 (q := 234) g (c_X1_sitDown l hL.2.1 hO hI (by omega) (by omega)) dX4_doCommand_231 k_X4_212 hL.2.1.1 rfl rfl rfl rfl ⟨rfl, rfl⟩ rfl (fun z12 M12 e12 => ?_)
    obtain e12 := e12
    have hbd : 0 ≤ n0 ∧ n0 < f 0 → sSitN f n0 (n1 / f 11) (sIdle f n0) 4 < 2147483648 := fun q => by
      have := (sitN (idle := sIdle f n0) hI q (w := n1 / f 11) (Int.ediv_nonneg (by omega) (by have := hI.2.2.2.1; omega)) 4 (by decide)).2.2
      omega
    have hgoal : (xOk f 6 n0 n1 n2 ∧ (0 ≤ z12 ∧ z12 < 2147483648) ∧ Off M12 (s + 1) (xF f 6 n0 n1 n2 n3) ∧ Oth M M12 (s + 1)) ∨ (¬ xOk f 6 n0 n1 n2 ∧ (-2147483648 ≤ z12 ∧ z12 < 0) ∧ M = M12) := by
      rcases e12 with ⟨q0, q1, rfl⟩ | ⟨q0, q1, q2, rfl⟩ | ⟨q0, q1, q2, q3, hO9, hT9⟩
      all_goals first
        | exact Or.inr ⟨fun q => by have q := xOk_6.mp q; omega, by omega, rfl⟩
        | exact Or.inl ⟨xOk_6.mpr (by omega), by omega, hO9, hT9⟩
    exact V_ireturn g r dX4_doCommand_234 rfl hgoal
  · refine V_tabOut g dX4_doCommand_56 (by omega) h56 (tgt := 246) (by decide) ?_
    refine V_bipush (q := 248) g dX4_doCommand_246 (by decide) rfl ?_
    exact V_ireturn g r dX4_doCommand_248 rfl (by exfalso; unfold sRow at hr; rw [if_neg (by omega), if_neg (by omega), if_neg (by omega), if_neg (by omega), if_neg (by omega), if_neg (by omega), if_neg (by omega), if_neg (by omega)] at hr; cases hr)
