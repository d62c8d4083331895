abbrev rm_L_refuses : Room := { frames := 10, cells := 240, slots := 1440, locals := 220 }
/-- what stands in refuses' locals -/
def RfC (σ : SG) (x many floors no nn five : Int) : Prop := (0 ≤ x ∧ x < 100000) ∧ many = σ.1 0 ∧ floors = σ.1 1 ∧ ((-100 ≤ no ∧ no < 0) ∨ (many ≤ no ∧ no ≤ many + 100)) ∧ ((-100 ≤ nn ∧ nn < 0) ∨ (floors ≤ nn ∧ nn ≤ floors + 100)) ∧ ((-100 ≤ five ∧ five < 0) ∨ (4 ≤ five ∧ five ≤ 200)) ∧ (1 ≤ σ.1 0 ∧ σ.1 0 ≤ 10) ∧ (1 ≤ σ.1 1 ∧ σ.1 1 ≤ 4)
section RF
variable {Γ : VG} {D : DD} {Λ : LY} {l : Launch} {s j : Nat} {M M0 : MM} {κ : Nat × Nat} {σ : SG}
set_option maxHeartbeats 4000000 in
set_option maxRecDepth 100000 in
theorem rf_A (hfl : l.stackTraces = false) {x : Int} (g : VOk Γ D Λ RL cL_refuses 9 l rm_L_refuses) (hL : ClsL D Λ s) (hx : 0 ≤ x ∧ x < 100000) (h1c : 1 ≤ σ.1 0) (hS : Sp M0 s σ M) (hK : Kb κ rm_L_refuses (j + 2)) (k : ∀ (many floors no nn five : Int) (M1 : MM) (κ1 : Nat × Nat), RfC σ x many floors no nn five → Sp M0 s σ M1 → Kb κ1 rm_L_refuses j → V Γ D Λ M1 κ1 87 [some (.ref s), some (vi x), some (vi many), some (vi floors), some (vi no), some (vi nn), some (vi five), none, none] []) : V Γ D Λ M κ 0 [some (.ref s), some (vi x), none, none, none, none, none, none, none] [] := by
  have h0 := hS.1.1.2.1
  have h1 := hS.1.1.2.2.1
  refine V_aload_n (q := 1) g dL_refuses_0 rfl rfl ?_
  refine V_iconst (q := 2) g dL_refuses_1 rfl ?_
  refine V_iconst (q := 3) g dL_refuses_2 rfl ?_
  refine V_iconst (q := 4) g dL_refuses_3 rfl ?_
  refine V_iconst (q := 5) g dL_refuses_4 rfl ?_
  refine V_u5 (q := 8) 1 (j + 1) g (cq_2 l hfl hL hS.1 (by omega)) dL_refuses_5 k_L_192 rfl ⟨by decide, by decide⟩ (hK.le (by omega)) rfl rfl (fun z1 M1 κ1 e1 hK1 => ?_)
  obtain ⟨e1, rfl⟩ := e1
  have e1 : z1 = σ.1 0 := e1.trans (qAb_0 _)
  refine V_istore_n_2 (q := 9) g dL_refuses_8 (by decide) rfl rfl ?_
  refine V_aload_n (q := 10) g dL_refuses_9 rfl rfl ?_
  refine V_iconst (q := 11) g dL_refuses_10 rfl ?_
  refine V_iconst (q := 12) g dL_refuses_11 rfl ?_
  refine V_iconst (q := 13) g dL_refuses_12 rfl ?_
  refine V_iconst (q := 14) g dL_refuses_13 rfl ?_
  refine V_u5 (q := 17) 1 (j) g (cq_2 l hfl hL hS.1 (by omega)) dL_refuses_14 k_L_192 rfl ⟨by decide, by decide⟩ (hK1.le (by omega)) rfl rfl (fun z2 M2 κ2 e2 hK2 => ?_)
  obtain ⟨e2, rfl⟩ := e2
  have e2 : z2 = σ.1 1 := e2.trans (qAb_1 _)
  refine V_istore_n_3 (q := 18) g dL_refuses_17 (by decide) rfl rfl ?_
  refine V_iload_n (q := 19) g dL_refuses_18 rfl rfl ?_
  refine V_iconst (q := 20) g dL_refuses_19 rfl ?_
  refine V_irem (q := 21) g dL_refuses_20 (by omega) (by omega) rfl ?_
  suffices hm3 : ∀ (t3 : Int) (κ3 : Nat × Nat), (((x % 2) ≠ 0 ∧ t3 = z1 + (x % 99)) ∨ ((x % 2) = 0 ∧ t3 = (-1) - (x % 99))) → Kb κ3 rm_L_refuses (j) → V Γ D Λ M κ3 39 [some (.ref s), some (vi x), some (vi z1), some (vi z2), none, none, none, none, none] [vi t3] by
    refine V_if_ne (q := 24) g dL_refuses_21 (tgt := 33) (by decide) rfl (by omega) (fun h4 => ?_) (fun h4 => ?_)
    · refine V_iload_n (q := 34) g dL_refuses_33 rfl rfl ?_
      refine V_iload_n (q := 35) g dL_refuses_34 rfl rfl ?_
      refine V_bipush (q := 37) g dL_refuses_35 (by decide) rfl ?_
      refine V_irem (q := 38) g dL_refuses_37 (by omega) (by omega) rfl ?_
      refine V_iadd (q := 39) g dL_refuses_38 rfl ?_
      exact V_lvw (lvLe_s (lvLe_s (lvLe_s (lvLe_s (lvLe_n (lvLe_n (lvLe_n (lvLe_n (lvLe_n lvLe_0))))))))) (hm3 _ _ (by omega) (hK2.le (by omega)))
    · refine V_iconst (q := 25) g dL_refuses_24 rfl ?_
      refine V_iload_n (q := 26) g dL_refuses_25 rfl rfl ?_
      refine V_bipush (q := 28) g dL_refuses_26 (by decide) rfl ?_
      refine V_irem (q := 29) g dL_refuses_28 (by omega) (by omega) rfl ?_
      refine V_isub (q := 30) g dL_refuses_29 rfl ?_
      refine V_goto g dL_refuses_30 (tgt := 39) (by decide) ?_
      exact V_lvw (lvLe_s (lvLe_s (lvLe_s (lvLe_s (lvLe_n (lvLe_n (lvLe_n (lvLe_n (lvLe_n lvLe_0))))))))) (hm3 _ _ (by omega) (hK2.le (by omega)))
  intro t3 κ3 hp3 hK3
  refine V_istore_4 (q := 41) g dL_refuses_39 (by decide) rfl rfl ?_
  refine V_iload_n (q := 42) g dL_refuses_41 rfl rfl ?_
  refine V_iconst (q := 43) g dL_refuses_42 rfl ?_
  refine V_irem (q := 44) g dL_refuses_43 (by omega) (by omega) rfl ?_
  suffices hm5 : ∀ (t5 : Int) (κ5 : Nat × Nat), (((x % 2) ≠ 0 ∧ t5 = z2 + (x % 99)) ∨ ((x % 2) = 0 ∧ t5 = (-1) - (x % 99))) → Kb κ5 rm_L_refuses (j) → V Γ D Λ M κ5 62 [some (.ref s), some (vi x), some (vi z1), some (vi z2), some (vi t3), none, none, none, none] [vi t5] by
    refine V_if_ne (q := 47) g dL_refuses_44 (tgt := 56) (by decide) rfl (by omega) (fun h6 => ?_) (fun h6 => ?_)
    · refine V_iload_n (q := 57) g dL_refuses_56 rfl rfl ?_
      refine V_iload_n (q := 58) g dL_refuses_57 rfl rfl ?_
      refine V_bipush (q := 60) g dL_refuses_58 (by decide) rfl ?_
      refine V_irem (q := 61) g dL_refuses_60 (by omega) (by omega) rfl ?_
      refine V_iadd (q := 62) g dL_refuses_61 rfl ?_
      exact V_lvw (lvLe_s (lvLe_s (lvLe_s (lvLe_s (lvLe_s (lvLe_n (lvLe_n (lvLe_n (lvLe_n lvLe_0))))))))) (hm5 _ _ (by omega) (hK3.le (by omega)))
    · refine V_iconst (q := 48) g dL_refuses_47 rfl ?_
      refine V_iload_n (q := 49) g dL_refuses_48 rfl rfl ?_
      refine V_bipush (q := 51) g dL_refuses_49 (by decide) rfl ?_
      refine V_irem (q := 52) g dL_refuses_51 (by omega) (by omega) rfl ?_
      refine V_isub (q := 53) g dL_refuses_52 rfl ?_
      refine V_goto g dL_refuses_53 (tgt := 62) (by decide) ?_
      exact V_lvw (lvLe_s (lvLe_s (lvLe_s (lvLe_s (lvLe_s (lvLe_n (lvLe_n (lvLe_n (lvLe_n lvLe_0))))))))) (hm5 _ _ (by omega) (hK3.le (by omega)))
  intro t5 κ5 hp5 hK5
  refine V_istore_5 (q := 64) g dL_refuses_62 (by decide) rfl rfl ?_
  refine V_iload_n (q := 65) g dL_refuses_64 rfl rfl ?_
  refine V_iconst (q := 66) g dL_refuses_65 rfl ?_
  refine V_irem (q := 67) g dL_refuses_66 (by omega) (by omega) rfl ?_
  suffices hm7 : ∀ (t7 : Int) (κ7 : Nat × Nat), (((x % 2) ≠ 0 ∧ t7 = 4 + (x % 99)) ∨ ((x % 2) = 0 ∧ t7 = (-1) - (x % 99))) → Kb κ7 rm_L_refuses (j) → V Γ D Λ M κ7 85 [some (.ref s), some (vi x), some (vi z1), some (vi z2), some (vi t3), some (vi t5), none, none, none] [vi t7] by
    refine V_if_ne (q := 70) g dL_refuses_67 (tgt := 79) (by decide) rfl (by omega) (fun h8 => ?_) (fun h8 => ?_)
    · refine V_iconst (q := 80) g dL_refuses_79 rfl ?_
      refine V_iload_n (q := 81) g dL_refuses_80 rfl rfl ?_
      refine V_bipush (q := 83) g dL_refuses_81 (by decide) rfl ?_
      refine V_irem (q := 84) g dL_refuses_83 (by omega) (by omega) rfl ?_
      refine V_iadd (q := 85) g dL_refuses_84 rfl ?_
      exact V_lvw (lvLe_s (lvLe_s (lvLe_s (lvLe_s (lvLe_s (lvLe_s (lvLe_n (lvLe_n (lvLe_n lvLe_0))))))))) (hm7 _ _ (by omega) (hK5.le (by omega)))
    · refine V_iconst (q := 71) g dL_refuses_70 rfl ?_
      refine V_iload_n (q := 72) g dL_refuses_71 rfl rfl ?_
      refine V_bipush (q := 74) g dL_refuses_72 (by decide) rfl ?_
      refine V_irem (q := 75) g dL_refuses_74 (by omega) (by omega) rfl ?_
      refine V_isub (q := 76) g dL_refuses_75 rfl ?_
      refine V_goto g dL_refuses_76 (tgt := 85) (by decide) ?_
      exact V_lvw (lvLe_s (lvLe_s (lvLe_s (lvLe_s (lvLe_s (lvLe_s (lvLe_n (lvLe_n (lvLe_n lvLe_0))))))))) (hm7 _ _ (by omega) (hK5.le (by omega)))
  intro t7 κ7 hp7 hK7
  refine V_istore_6 (q := 87) g dL_refuses_85 (by decide) rfl rfl ?_
  exact k z1 z2 t3 t5 t7 M κ7 ⟨hx, by omega, by omega, by omega, by omega, by omega, by omega, by omega⟩ hS (hK7.le (by omega))
set_option maxHeartbeats 4000000 in
set_option maxRecDepth 100000 in
theorem rf_1 (hfl : l.stackTraces = false) {x many floors no nn five : Int} (g : VOk Γ D Λ RL cL_refuses 9 l rm_L_refuses) (hL : ClsL D Λ s) (hC : RfC σ x many floors no nn five) (hS : Sp M0 s σ M) (hK : Kb κ rm_L_refuses (j + 1)) (k : ∀ (M1 : MM) (κ1 : Nat × Nat), Sp M0 s σ M1 → Kb κ1 rm_L_refuses j → V Γ D Λ M1 κ1 122 [some (.ref s), some (vi x), some (vi many), some (vi floors), some (vi no), some (vi nn), some (vi five), none, none] []) : V Γ D Λ M κ 87 [some (.ref s), some (vi x), some (vi many), some (vi floors), some (vi no), some (vi nn), some (vi five), none, none] [] := by
  obtain ⟨⟨hx1, hx2⟩, hm, hfl2, hno, hnn, hfi, hc0, hc1⟩ := id hC
  refine V_aload_n (q := 88) g dL_refuses_87 rfl rfl ?_
  refine V_iconst (q := 89) g dL_refuses_88 rfl ?_
  refine V_iload_n (q := 90) g dL_refuses_89 rfl rfl ?_
  refine V_iconst (q := 91) g dL_refuses_90 rfl ?_
  refine V_irem (q := 92) g dL_refuses_91 (by omega) (by omega) rfl ?_
  suffices hm1 : ∀ (t1 : Int) (κ1 : Nat × Nat), (((x % 2) ≠ 0 ∧ t1 = 256 + (x % 9)) ∨ ((x % 2) = 0 ∧ t1 = (-1) - (x % 9))) → Kb κ1 rm_L_refuses (j + 1) → V Γ D Λ M κ1 112 [some (.ref s), some (vi x), some (vi many), some (vi floors), some (vi no), some (vi nn), some (vi five), none, none] [vi t1, vi 0, .ref s] by
    refine V_if_ne (q := 95) g dL_refuses_92 (tgt := 104) (by decide) rfl (by omega) (fun h2 => ?_) (fun h2 => ?_)
    · refine V_sipush (q := 107) g dL_refuses_104 (by decide) rfl ?_
      refine V_iload_n (q := 108) g dL_refuses_107 rfl rfl ?_
      refine V_bipush (q := 110) g dL_refuses_108 (by decide) rfl ?_
      refine V_irem (q := 111) g dL_refuses_110 (by omega) (by omega) rfl ?_
      refine V_iadd (q := 112) g dL_refuses_111 rfl ?_
      exact V_lvw (lvLe_s (lvLe_s (lvLe_s (lvLe_s (lvLe_s (lvLe_s (lvLe_s (lvLe_n (lvLe_n lvLe_0))))))))) (hm1 _ _ (by omega) (hK.le (by omega)))
    · refine V_iconst (q := 96) g dL_refuses_95 rfl ?_
      refine V_iload_n (q := 97) g dL_refuses_96 rfl rfl ?_
      refine V_bipush (q := 99) g dL_refuses_97 (by decide) rfl ?_
      refine V_irem (q := 100) g dL_refuses_99 (by omega) (by omega) rfl ?_
      refine V_isub (q := 101) g dL_refuses_100 rfl ?_
      refine V_goto g dL_refuses_101 (tgt := 112) (by decide) ?_
      exact V_lvw (lvLe_s (lvLe_s (lvLe_s (lvLe_s (lvLe_s (lvLe_s (lvLe_s (lvLe_n (lvLe_n lvLe_0))))))))) (hm1 _ _ (by omega) (hK.le (by omega)))
  intro t1 κ1 hp1 hK1
  refine V_iconst (q := 113) g dL_refuses_112 rfl ?_
  refine V_iconst (q := 114) g dL_refuses_113 rfl ?_
  refine V_u5 (q := 117) 1 (j) g (cq_0 l hfl hL hS.1 (by omega) (by omega)) dL_refuses_114 k_L_192 rfl ⟨by decide, by decide⟩ (hK1.le (by omega)) rfl rfl (fun z3 M3 κ3 e3 hK3 => ?_)
  obtain ⟨e3, rfl⟩ := e3
  refine V_ldc (q := 119) g dL_refuses_117 (z := (-9999002)) q_L_15 (by decide) rfl ?_
  refine V_icmp_ne (q := 122) g dL_refuses_119 (tgt := 733) (by decide) rfl (by omega) (by omega) (fun h4 => absurd h4 (by omega)) (fun h4 => ?_)
  exact k M κ3 hS (hK3.le (by omega))
set_option maxHeartbeats 4000000 in
set_option maxRecDepth 100000 in
theorem rf_2 (hfl : l.stackTraces = false) {x many floors no nn five : Int} (g : VOk Γ D Λ RL cL_refuses 9 l rm_L_refuses) (hL : ClsL D Λ s) (hC : RfC σ x many floors no nn five) (hS : Sp M0 s σ M) (hK : Kb κ rm_L_refuses (j + 1)) (k : ∀ (M1 : MM) (κ1 : Nat × Nat), Sp M0 s σ M1 → Kb κ1 rm_L_refuses j → V Γ D Λ M1 κ1 141 [some (.ref s), some (vi x), some (vi many), some (vi floors), some (vi no), some (vi nn), some (vi five), none, none] []) : V Γ D Λ M κ 122 [some (.ref s), some (vi x), some (vi many), some (vi floors), some (vi no), some (vi nn), some (vi five), none, none] [] := by
  obtain ⟨⟨hx1, hx2⟩, hm, hfl2, hno, hnn, hfi, hc0, hc1⟩ := id hC
  refine V_aload_n (q := 123) g dL_refuses_122 rfl rfl ?_
  refine V_iconst (q := 124) g dL_refuses_123 rfl ?_
  refine V_bipush (q := 126) g dL_refuses_124 (by decide) rfl ?_
  refine V_iload_n (q := 127) g dL_refuses_126 rfl rfl ?_
  refine V_bipush (q := 129) g dL_refuses_127 (by decide) rfl ?_
  refine V_irem (q := 130) g dL_refuses_129 (by omega) (by omega) rfl ?_
  refine V_iadd (q := 131) g dL_refuses_130 rfl ?_
  refine V_iconst (q := 132) g dL_refuses_131 rfl ?_
  refine V_iconst (q := 133) g dL_refuses_132 rfl ?_
  refine V_u5 (q := 136) 1 (j) g (cq_2 l hfl hL hS.1 (by omega)) dL_refuses_133 k_L_192 rfl ⟨by decide, by decide⟩ (hK.le (by omega)) rfl rfl (fun z1 M1 κ1 e1 hK1 => ?_)
  obtain ⟨e1, rfl⟩ := e1
  have e1 : z1 = -9999002 := by rw [e1, qAbout, if_neg (by omega)]
  refine V_ldc (q := 138) g dL_refuses_136 (z := (-9999002)) q_L_15 (by decide) rfl ?_
  refine V_icmp_ne (q := 141) g dL_refuses_138 (tgt := 733) (by decide) rfl (by omega) (by omega) (fun h2 => absurd h2 (by omega)) (fun h2 => ?_)
  exact k M κ1 hS (hK1.le (by omega))
set_option maxHeartbeats 4000000 in
set_option maxRecDepth 100000 in
theorem rf_3 (hfl : l.stackTraces = false) {x many floors no nn five : Int} (g : VOk Γ D Λ RL cL_refuses 9 l rm_L_refuses) (hL : ClsL D Λ s) (hC : RfC σ x many floors no nn five) (hS : Sp M0 s σ M) (hK : Kb κ rm_L_refuses (j + 1)) (k : ∀ (M1 : MM) (κ1 : Nat × Nat), Sp M0 s σ M1 → Kb κ1 rm_L_refuses j → V Γ D Λ M1 κ1 156 [some (.ref s), some (vi x), some (vi many), some (vi floors), some (vi no), some (vi nn), some (vi five), none, none] []) : V Γ D Λ M κ 141 [some (.ref s), some (vi x), some (vi many), some (vi floors), some (vi no), some (vi nn), some (vi five), none, none] [] := by
  obtain ⟨⟨hx1, hx2⟩, hm, hfl2, hno, hnn, hfi, hc0, hc1⟩ := id hC
  refine V_aload_n (q := 142) g dL_refuses_141 rfl rfl ?_
  refine V_iconst (q := 143) g dL_refuses_142 rfl ?_
  refine V_iload (q := 145) g dL_refuses_143 rfl rfl ?_
  refine V_bipush (q := 147) g dL_refuses_145 (by decide) rfl ?_
  refine V_iconst (q := 148) g dL_refuses_147 rfl ?_
  refine V_u5 (q := 151) 1 (j) g (cq_3 l hfl hL hS.1 (by omega) (by omega)) dL_refuses_148 k_L_192 rfl ⟨by decide, by decide⟩ (hK.le (by omega)) rfl rfl (fun z1 M1 κ1 e1 hK1 => ?_)
  obtain ⟨e1, rfl⟩ := e1
  have e1 : z1 = -9999001 := by rw [e1, qChair, if_neg (by omega)]
  refine V_ldc (q := 153) g dL_refuses_151 (z := (-9999001)) q_L_44 (by decide) rfl ?_
  refine V_icmp_ne (q := 156) g dL_refuses_153 (tgt := 733) (by decide) rfl (by omega) (by omega) (fun h2 => absurd h2 (by omega)) (fun h2 => ?_)
  exact k M κ1 hS (hK1.le (by omega))
set_option maxHeartbeats 4000000 in
set_option maxRecDepth 100000 in
theorem rf_4 (hfl : l.stackTraces = false) {x many floors no nn five : Int} (g : VOk Γ D Λ RL cL_refuses 9 l rm_L_refuses) (hL : ClsL D Λ s) (hC : RfC σ x many floors no nn five) (hS : Sp M0 s σ M) (hK : Kb κ rm_L_refuses (j + 1)) (k : ∀ (M1 : MM) (κ1 : Nat × Nat), Sp M0 s σ M1 → Kb κ1 rm_L_refuses j → V Γ D Λ M1 κ1 175 [some (.ref s), some (vi x), some (vi many), some (vi floors), some (vi no), some (vi nn), some (vi five), none, none] []) : V Γ D Λ M κ 156 [some (.ref s), some (vi x), some (vi many), some (vi floors), some (vi no), some (vi nn), some (vi five), none, none] [] := by
  obtain ⟨⟨hx1, hx2⟩, hm, hfl2, hno, hnn, hfi, hc0, hc1⟩ := id hC
  refine V_aload_n (q := 157) g dL_refuses_156 rfl rfl ?_
  refine V_iconst (q := 158) g dL_refuses_157 rfl ?_
  refine V_iconst (q := 159) g dL_refuses_158 rfl ?_
  refine V_bipush (q := 161) g dL_refuses_159 (by decide) rfl ?_
  refine V_iload_n (q := 162) g dL_refuses_161 rfl rfl ?_
  refine V_bipush (q := 164) g dL_refuses_162 (by decide) rfl ?_
  refine V_irem (q := 165) g dL_refuses_164 (by omega) (by omega) rfl ?_
  refine V_iadd (q := 166) g dL_refuses_165 rfl ?_
  refine V_iconst (q := 167) g dL_refuses_166 rfl ?_
  refine V_u5 (q := 170) 1 (j) g (cq_3 l hfl hL hS.1 (by omega) (by omega)) dL_refuses_167 k_L_192 rfl ⟨by decide, by decide⟩ (hK.le (by omega)) rfl rfl (fun z1 M1 κ1 e1 hK1 => ?_)
  obtain ⟨e1, rfl⟩ := e1
  have e1 : z1 = -9999002 := by rw [e1, qChair, if_pos (by omega), if_neg (by omega)]
  refine V_ldc (q := 172) g dL_refuses_170 (z := (-9999002)) q_L_15 (by decide) rfl ?_
  refine V_icmp_ne (q := 175) g dL_refuses_172 (tgt := 733) (by decide) rfl (by omega) (by omega) (fun h2 => absurd h2 (by omega)) (fun h2 => ?_)
  exact k M κ1 hS (hK1.le (by omega))
set_option maxHeartbeats 4000000 in
set_option maxRecDepth 100000 in
theorem rf_5 (hfl : l.stackTraces = false) {x many floors no nn five : Int} (g : VOk Γ D Λ RL cL_refuses 9 l rm_L_refuses) (hL : ClsL D Λ s) (hC : RfC σ x many floors no nn five) (hS : Sp M0 s σ M) (hK : Kb κ rm_L_refuses (j + 1)) (k : ∀ (M1 : MM) (κ1 : Nat × Nat), Sp M0 s σ M1 → Kb κ1 rm_L_refuses j → V Γ D Λ M1 κ1 190 [some (.ref s), some (vi x), some (vi many), some (vi floors), some (vi no), some (vi nn), some (vi five), none, none] []) : V Γ D Λ M κ 175 [some (.ref s), some (vi x), some (vi many), some (vi floors), some (vi no), some (vi nn), some (vi five), none, none] [] := by
  obtain ⟨⟨hx1, hx2⟩, hm, hfl2, hno, hnn, hfi, hc0, hc1⟩ := id hC
  refine V_aload_n (q := 176) g dL_refuses_175 rfl rfl ?_
  refine V_iconst (q := 177) g dL_refuses_176 rfl ?_
  refine V_iload (q := 179) g dL_refuses_177 rfl rfl ?_
  refine V_bipush (q := 181) g dL_refuses_179 (by decide) rfl ?_
  refine V_iconst (q := 182) g dL_refuses_181 rfl ?_
  refine V_u5 (q := 185) 1 (j) g (cq_4 l hfl hL hS.1 (by omega) (by omega)) dL_refuses_182 k_L_192 rfl ⟨by decide, by decide⟩ (hK.le (by omega)) rfl rfl (fun z1 M1 κ1 e1 hK1 => ?_)
  obtain ⟨e1, rfl⟩ := e1
  have e1 : z1 = -9999001 := by rw [e1, qWobble, if_neg (by omega)]
  refine V_ldc (q := 187) g dL_refuses_185 (z := (-9999001)) q_L_44 (by decide) rfl ?_
  refine V_icmp_ne (q := 190) g dL_refuses_187 (tgt := 733) (by decide) rfl (by omega) (by omega) (fun h2 => absurd h2 (by omega)) (fun h2 => ?_)
  exact k M κ1 hS (hK1.le (by omega))
set_option maxHeartbeats 4000000 in
set_option maxRecDepth 100000 in
theorem rf_6 (hfl : l.stackTraces = false) {x many floors no nn five : Int} (g : VOk Γ D Λ RL cL_refuses 9 l rm_L_refuses) (hL : ClsL D Λ s) (hC : RfC σ x many floors no nn five) (hS : Sp M0 s σ M) (hK : Kb κ rm_L_refuses (j + 1)) (k : ∀ (M1 : MM) (κ1 : Nat × Nat), Sp M0 s σ M1 → Kb κ1 rm_L_refuses j → V Γ D Λ M1 κ1 208 [some (.ref s), some (vi x), some (vi many), some (vi floors), some (vi no), some (vi nn), some (vi five), none, none] []) : V Γ D Λ M κ 190 [some (.ref s), some (vi x), some (vi many), some (vi floors), some (vi no), some (vi nn), some (vi five), none, none] [] := by
  obtain ⟨⟨hx1, hx2⟩, hm, hfl2, hno, hnn, hfi, hc0, hc1⟩ := id hC
  refine V_aload_n (q := 191) g dL_refuses_190 rfl rfl ?_
  refine V_iconst (q := 192) g dL_refuses_191 rfl ?_
  refine V_iconst (q := 193) g dL_refuses_192 rfl ?_
  refine V_iconst (q := 194) g dL_refuses_193 rfl ?_
  refine V_iload_n (q := 195) g dL_refuses_194 rfl rfl ?_
  refine V_bipush (q := 197) g dL_refuses_195 (by decide) rfl ?_
  refine V_irem (q := 198) g dL_refuses_197 (by omega) (by omega) rfl ?_
  refine V_iadd (q := 199) g dL_refuses_198 rfl ?_
  refine V_iconst (q := 200) g dL_refuses_199 rfl ?_
  refine V_u5 (q := 203) 1 (j) g (cq_4 l hfl hL hS.1 (by omega) (by omega)) dL_refuses_200 k_L_192 rfl ⟨by decide, by decide⟩ (hK.le (by omega)) rfl rfl (fun z1 M1 κ1 e1 hK1 => ?_)
  obtain ⟨e1, rfl⟩ := e1
  have e1 : z1 = -9999002 := by rw [e1, qWobble, if_pos (by omega), if_neg (by omega)]
  refine V_ldc (q := 205) g dL_refuses_203 (z := (-9999002)) q_L_15 (by decide) rfl ?_
  refine V_icmp_ne (q := 208) g dL_refuses_205 (tgt := 733) (by decide) rfl (by omega) (by omega) (fun h2 => absurd h2 (by omega)) (fun h2 => ?_)
  exact k M κ1 hS (hK1.le (by omega))
set_option maxHeartbeats 4000000 in
set_option maxRecDepth 100000 in
theorem rf_7 (hfl : l.stackTraces = false) {x many floors no nn five : Int} (g : VOk Γ D Λ RL cL_refuses 9 l rm_L_refuses) (hL : ClsL D Λ s) (hC : RfC σ x many floors no nn five) (hS : Sp M0 s σ M) (hK : Kb κ rm_L_refuses (j + 1)) (k : ∀ (M1 : MM) (κ1 : Nat × Nat), Sp M0 s σ M1 → Kb κ1 rm_L_refuses j → V Γ D Λ M1 κ1 223 [some (.ref s), some (vi x), some (vi many), some (vi floors), some (vi no), some (vi nn), some (vi five), none, none] []) : V Γ D Λ M κ 208 [some (.ref s), some (vi x), some (vi many), some (vi floors), some (vi no), some (vi nn), some (vi five), none, none] [] := by
  obtain ⟨⟨hx1, hx2⟩, hm, hfl2, hno, hnn, hfi, hc0, hc1⟩ := id hC
  refine V_aload_n (q := 209) g dL_refuses_208 rfl rfl ?_
  refine V_iconst (q := 210) g dL_refuses_209 rfl ?_
  refine V_iload (q := 212) g dL_refuses_210 rfl rfl ?_
  refine V_iconst (q := 213) g dL_refuses_212 rfl ?_
  refine V_bipush (q := 215) g dL_refuses_213 (by decide) rfl ?_
  refine V_u5 (q := 218) 1 (j) g (cq_5 l hfl hL hS.1 (by omega) (by omega) (by omega)) dL_refuses_215 k_L_192 rfl ⟨by decide, by decide⟩ (hK.le (by omega)) rfl rfl (fun z1 M1 κ1 e1 hK1 => ?_)
  obtain ⟨e1, rfl⟩ := e1
  have e1 : z1 = -9999001 := by rw [e1, qLeg, if_neg (by omega)]
  refine V_ldc (q := 220) g dL_refuses_218 (z := (-9999001)) q_L_44 (by decide) rfl ?_
  refine V_icmp_ne (q := 223) g dL_refuses_220 (tgt := 733) (by decide) rfl (by omega) (by omega) (fun h2 => absurd h2 (by omega)) (fun h2 => ?_)
  exact k M κ1 hS (hK1.le (by omega))
set_option maxHeartbeats 4000000 in
set_option maxRecDepth 100000 in
theorem rf_8 (hfl : l.stackTraces = false) {x many floors no nn five : Int} (g : VOk Γ D Λ RL cL_refuses 9 l rm_L_refuses) (hL : ClsL D Λ s) (hC : RfC σ x many floors no nn five) (hS : Sp M0 s σ M) (hK : Kb κ rm_L_refuses (j + 1)) (k : ∀ (M1 : MM) (κ1 : Nat × Nat), Sp M0 s σ M1 → Kb κ1 rm_L_refuses j → V Γ D Λ M1 κ1 238 [some (.ref s), some (vi x), some (vi many), some (vi floors), some (vi no), some (vi nn), some (vi five), none, none] []) : V Γ D Λ M κ 223 [some (.ref s), some (vi x), some (vi many), some (vi floors), some (vi no), some (vi nn), some (vi five), none, none] [] := by
  obtain ⟨⟨hx1, hx2⟩, hm, hfl2, hno, hnn, hfi, hc0, hc1⟩ := id hC
  refine V_aload_n (q := 224) g dL_refuses_223 rfl rfl ?_
  refine V_iconst (q := 225) g dL_refuses_224 rfl ?_
  refine V_iconst (q := 226) g dL_refuses_225 rfl ?_
  refine V_iload (q := 228) g dL_refuses_226 rfl rfl ?_
  refine V_bipush (q := 230) g dL_refuses_228 (by decide) rfl ?_
  refine V_u5 (q := 233) 1 (j) g (cq_5 l hfl hL hS.1 (by omega) (by omega) (by omega)) dL_refuses_230 k_L_192 rfl ⟨by decide, by decide⟩ (hK.le (by omega)) rfl rfl (fun z1 M1 κ1 e1 hK1 => ?_)
  obtain ⟨e1, rfl⟩ := e1
  have e1 : z1 = -9999001 := by rw [e1, qLeg, if_neg (by omega)]
  refine V_ldc (q := 235) g dL_refuses_233 (z := (-9999001)) q_L_44 (by decide) rfl ?_
  refine V_icmp_ne (q := 238) g dL_refuses_235 (tgt := 733) (by decide) rfl (by omega) (by omega) (fun h2 => absurd h2 (by omega)) (fun h2 => ?_)
  exact k M κ1 hS (hK1.le (by omega))
set_option maxHeartbeats 4000000 in
set_option maxRecDepth 100000 in
theorem rf_9 (hfl : l.stackTraces = false) {x many floors no nn five : Int} (g : VOk Γ D Λ RL cL_refuses 9 l rm_L_refuses) (hL : ClsL D Λ s) (hC : RfC σ x many floors no nn five) (hS : Sp M0 s σ M) (hK : Kb κ rm_L_refuses (j + 1)) (k : ∀ (M1 : MM) (κ1 : Nat × Nat), Sp M0 s σ M1 → Kb κ1 rm_L_refuses j → V Γ D Λ M1 κ1 256 [some (.ref s), some (vi x), some (vi many), some (vi floors), some (vi no), some (vi nn), some (vi five), none, none] []) : V Γ D Λ M κ 238 [some (.ref s), some (vi x), some (vi many), some (vi floors), some (vi no), some (vi nn), some (vi five), none, none] [] := by
  obtain ⟨⟨hx1, hx2⟩, hm, hfl2, hno, hnn, hfi, hc0, hc1⟩ := id hC
  refine V_aload_n (q := 239) g dL_refuses_238 rfl rfl ?_
  refine V_iconst (q := 240) g dL_refuses_239 rfl ?_
  refine V_iconst (q := 241) g dL_refuses_240 rfl ?_
  refine V_iconst (q := 242) g dL_refuses_241 rfl ?_
  refine V_iconst (q := 243) g dL_refuses_242 rfl ?_
  refine V_iload_n (q := 244) g dL_refuses_243 rfl rfl ?_
  refine V_bipush (q := 246) g dL_refuses_244 (by decide) rfl ?_
  refine V_irem (q := 247) g dL_refuses_246 (by omega) (by omega) rfl ?_
  refine V_iadd (q := 248) g dL_refuses_247 rfl ?_
  refine V_u5 (q := 251) 1 (j) g (cq_5 l hfl hL hS.1 (by omega) (by omega) (by omega)) dL_refuses_248 k_L_192 rfl ⟨by decide, by decide⟩ (hK.le (by omega)) rfl rfl (fun z1 M1 κ1 e1 hK1 => ?_)
  obtain ⟨e1, rfl⟩ := e1
  have e1 : z1 = -9999002 := by rw [e1, qLeg, if_pos (by omega), if_neg (by omega)]
  refine V_ldc (q := 253) g dL_refuses_251 (z := (-9999002)) q_L_15 (by decide) rfl ?_
  refine V_icmp_ne (q := 256) g dL_refuses_253 (tgt := 733) (by decide) rfl (by omega) (by omega) (fun h2 => absurd h2 (by omega)) (fun h2 => ?_)
  exact k M κ1 hS (hK1.le (by omega))
set_option maxHeartbeats 4000000 in
set_option maxRecDepth 100000 in
theorem rf_10 (hfl : l.stackTraces = false) {x many floors no nn five : Int} (g : VOk Γ D Λ RL cL_refuses 9 l rm_L_refuses) (hL : ClsL D Λ s) (hC : RfC σ x many floors no nn five) (hS : Sp M0 s σ M) (hK : Kb κ rm_L_refuses (j + 1)) (k : ∀ (M1 : MM) (κ1 : Nat × Nat), Sp M0 s σ M1 → Kb κ1 rm_L_refuses j → V Γ D Λ M1 κ1 271 [some (.ref s), some (vi x), some (vi many), some (vi floors), some (vi no), some (vi nn), some (vi five), none, none] []) : V Γ D Λ M κ 256 [some (.ref s), some (vi x), some (vi many), some (vi floors), some (vi no), some (vi nn), some (vi five), none, none] [] := by
  obtain ⟨⟨hx1, hx2⟩, hm, hfl2, hno, hnn, hfi, hc0, hc1⟩ := id hC
  refine V_aload_n (q := 257) g dL_refuses_256 rfl rfl ?_
  refine V_bipush (q := 259) g dL_refuses_257 (by decide) rfl ?_
  refine V_iload (q := 261) g dL_refuses_259 rfl rfl ?_
  refine V_iconst (q := 262) g dL_refuses_261 rfl ?_
  refine V_iconst (q := 263) g dL_refuses_262 rfl ?_
  refine V_u5 (q := 266) 1 (j) g (cq_6 l hfl hL hS.1 (by omega) (by omega)) dL_refuses_263 k_L_192 rfl ⟨by decide, by decide⟩ (hK.le (by omega)) rfl rfl (fun z1 M1 κ1 e1 hK1 => ?_)
  obtain ⟨e1, rfl⟩ := e1
  have e1 : z1 = -9999001 := by rw [e1, qSpot, if_neg (by omega)]
  refine V_ldc (q := 268) g dL_refuses_266 (z := (-9999001)) q_L_44 (by decide) rfl ?_
  refine V_icmp_ne (q := 271) g dL_refuses_268 (tgt := 733) (by decide) rfl (by omega) (by omega) (fun h2 => absurd h2 (by omega)) (fun h2 => ?_)
  exact k M κ1 hS (hK1.le (by omega))
set_option maxHeartbeats 4000000 in
set_option maxRecDepth 100000 in
theorem rf_11 (hfl : l.stackTraces = false) {x many floors no nn five : Int} (g : VOk Γ D Λ RL cL_refuses 9 l rm_L_refuses) (hL : ClsL D Λ s) (hC : RfC σ x many floors no nn five) (hS : Sp M0 s σ M) (hK : Kb κ rm_L_refuses (j + 1)) (k : ∀ (M1 : MM) (κ1 : Nat × Nat), Sp M0 s σ M1 → Kb κ1 rm_L_refuses j → V Γ D Λ M1 κ1 286 [some (.ref s), some (vi x), some (vi many), some (vi floors), some (vi no), some (vi nn), some (vi five), none, none] []) : V Γ D Λ M κ 271 [some (.ref s), some (vi x), some (vi many), some (vi floors), some (vi no), some (vi nn), some (vi five), none, none] [] := by
  obtain ⟨⟨hx1, hx2⟩, hm, hfl2, hno, hnn, hfi, hc0, hc1⟩ := id hC
  refine V_aload_n (q := 272) g dL_refuses_271 rfl rfl ?_
  refine V_bipush (q := 274) g dL_refuses_272 (by decide) rfl ?_
  refine V_iconst (q := 275) g dL_refuses_274 rfl ?_
  refine V_iload (q := 277) g dL_refuses_275 rfl rfl ?_
  refine V_iconst (q := 278) g dL_refuses_277 rfl ?_
  refine V_u5 (q := 281) 1 (j) g (cq_6 l hfl hL hS.1 (by omega) (by omega)) dL_refuses_278 k_L_192 rfl ⟨by decide, by decide⟩ (hK.le (by omega)) rfl rfl (fun z1 M1 κ1 e1 hK1 => ?_)
  obtain ⟨e1, rfl⟩ := e1
  have e1 : z1 = -9999001 := by rw [e1, qSpot, if_neg (by omega)]
  refine V_ldc (q := 283) g dL_refuses_281 (z := (-9999001)) q_L_44 (by decide) rfl ?_
  refine V_icmp_ne (q := 286) g dL_refuses_283 (tgt := 733) (by decide) rfl (by omega) (by omega) (fun h2 => absurd h2 (by omega)) (fun h2 => ?_)
  exact k M κ1 hS (hK1.le (by omega))
set_option maxHeartbeats 4000000 in
set_option maxRecDepth 100000 in
theorem rf_12 (hfl : l.stackTraces = false) {x many floors no nn five : Int} (g : VOk Γ D Λ RL cL_refuses 9 l rm_L_refuses) (hL : ClsL D Λ s) (hC : RfC σ x many floors no nn five) (hS : Sp M0 s σ M) (hK : Kb κ rm_L_refuses (j + 1)) (k : ∀ (M1 : MM) (κ1 : Nat × Nat), Sp M0 s σ M1 → Kb κ1 rm_L_refuses j → V Γ D Λ M1 κ1 301 [some (.ref s), some (vi x), some (vi many), some (vi floors), some (vi no), some (vi nn), some (vi five), none, none] []) : V Γ D Λ M κ 286 [some (.ref s), some (vi x), some (vi many), some (vi floors), some (vi no), some (vi nn), some (vi five), none, none] [] := by
  obtain ⟨⟨hx1, hx2⟩, hm, hfl2, hno, hnn, hfi, hc0, hc1⟩ := id hC
  refine V_aload_n (q := 287) g dL_refuses_286 rfl rfl ?_
  refine V_bipush (q := 289) g dL_refuses_287 (by decide) rfl ?_
  refine V_iload (q := 291) g dL_refuses_289 rfl rfl ?_
  refine V_iconst (q := 292) g dL_refuses_291 rfl ?_
  refine V_iconst (q := 293) g dL_refuses_292 rfl ?_
  refine V_u5 (q := 296) 1 (j) g (cq_7 l hfl hL hS.1 (by omega) (by omega)) dL_refuses_293 k_L_192 rfl ⟨by decide, by decide⟩ (hK.le (by omega)) rfl rfl (fun z1 M1 κ1 e1 hK1 => ?_)
  obtain ⟨e1, rfl⟩ := e1
  have e1 : z1 = -9999001 := by rw [e1, qBnd, if_neg (by omega)]
  refine V_ldc (q := 298) g dL_refuses_296 (z := (-9999001)) q_L_44 (by decide) rfl ?_
  refine V_icmp_ne (q := 301) g dL_refuses_298 (tgt := 733) (by decide) rfl (by omega) (by omega) (fun h2 => absurd h2 (by omega)) (fun h2 => ?_)
  exact k M κ1 hS (hK1.le (by omega))
set_option maxHeartbeats 4000000 in
set_option maxRecDepth 100000 in
theorem rf_13 (hfl : l.stackTraces = false) {x many floors no nn five : Int} (g : VOk Γ D Λ RL cL_refuses 9 l rm_L_refuses) (hL : ClsL D Λ s) (hC : RfC σ x many floors no nn five) (hS : Sp M0 s σ M) (hK : Kb κ rm_L_refuses (j + 1)) (k : ∀ (M1 : MM) (κ1 : Nat × Nat), Sp M0 s σ M1 → Kb κ1 rm_L_refuses j → V Γ D Λ M1 κ1 316 [some (.ref s), some (vi x), some (vi many), some (vi floors), some (vi no), some (vi nn), some (vi five), none, none] []) : V Γ D Λ M κ 301 [some (.ref s), some (vi x), some (vi many), some (vi floors), some (vi no), some (vi nn), some (vi five), none, none] [] := by
  obtain ⟨⟨hx1, hx2⟩, hm, hfl2, hno, hnn, hfi, hc0, hc1⟩ := id hC
  refine V_aload_n (q := 302) g dL_refuses_301 rfl rfl ?_
  refine V_bipush (q := 304) g dL_refuses_302 (by decide) rfl ?_
  refine V_iconst (q := 305) g dL_refuses_304 rfl ?_
  refine V_iload (q := 307) g dL_refuses_305 rfl rfl ?_
  refine V_iconst (q := 308) g dL_refuses_307 rfl ?_
  refine V_u5 (q := 311) 1 (j) g (cq_7 l hfl hL hS.1 (by omega) (by omega)) dL_refuses_308 k_L_192 rfl ⟨by decide, by decide⟩ (hK.le (by omega)) rfl rfl (fun z1 M1 κ1 e1 hK1 => ?_)
  obtain ⟨e1, rfl⟩ := e1
  have e1 : z1 = -9999001 := by rw [e1, qBnd, if_neg (by omega)]
  refine V_ldc (q := 313) g dL_refuses_311 (z := (-9999001)) q_L_44 (by decide) rfl ?_
  refine V_icmp_ne (q := 316) g dL_refuses_313 (tgt := 733) (by decide) rfl (by omega) (by omega) (fun h2 => absurd h2 (by omega)) (fun h2 => ?_)
  exact k M κ1 hS (hK1.le (by omega))
set_option maxHeartbeats 4000000 in
set_option maxRecDepth 100000 in
theorem rf_14 (hfl : l.stackTraces = false) {x many floors no nn five : Int} (g : VOk Γ D Λ RL cL_refuses 9 l rm_L_refuses) (hL : ClsL D Λ s) (hC : RfC σ x many floors no nn five) (hS : Sp M0 s σ M) (hK : Kb κ rm_L_refuses (j + 1)) (k : ∀ (M1 : MM) (κ1 : Nat × Nat), Sp M0 s σ M1 → Kb κ1 rm_L_refuses j → V Γ D Λ M1 κ1 335 [some (.ref s), some (vi x), some (vi many), some (vi floors), some (vi no), some (vi nn), some (vi five), none, none] []) : V Γ D Λ M κ 316 [some (.ref s), some (vi x), some (vi many), some (vi floors), some (vi no), some (vi nn), some (vi five), none, none] [] := by
  obtain ⟨⟨hx1, hx2⟩, hm, hfl2, hno, hnn, hfi, hc0, hc1⟩ := id hC
  refine V_aload_n (q := 317) g dL_refuses_316 rfl rfl ?_
  refine V_bipush (q := 319) g dL_refuses_317 (by decide) rfl ?_
  refine V_iconst (q := 320) g dL_refuses_319 rfl ?_
  refine V_iload_n (q := 321) g dL_refuses_320 rfl rfl ?_
  refine V_bipush (q := 323) g dL_refuses_321 (by decide) rfl ?_
  refine V_irem (q := 324) g dL_refuses_323 (by omega) (by omega) rfl ?_
  refine V_iadd (q := 325) g dL_refuses_324 rfl ?_
  refine V_iconst (q := 326) g dL_refuses_325 rfl ?_
  refine V_iconst (q := 327) g dL_refuses_326 rfl ?_
  refine V_u5 (q := 330) 1 (j) g (cq_8 l hfl hL hS.1 (by omega)) dL_refuses_327 k_L_192 rfl ⟨by decide, by decide⟩ (hK.le (by omega)) rfl rfl (fun z1 M1 κ1 e1 hK1 => ?_)
  obtain ⟨e1, rfl⟩ := e1
  have e1 : z1 = -9999002 := by rw [e1, qSet, if_neg (by omega)]
  refine V_ldc (q := 332) g dL_refuses_330 (z := (-9999002)) q_L_15 (by decide) rfl ?_
  refine V_icmp_ne (q := 335) g dL_refuses_332 (tgt := 733) (by decide) rfl (by omega) (by omega) (fun h2 => absurd h2 (by omega)) (fun h2 => ?_)
  exact k M κ1 hS (hK1.le (by omega))
set_option maxHeartbeats 4000000 in
set_option maxRecDepth 100000 in
theorem rf_15 (hfl : l.stackTraces = false) {x many floors no nn five : Int} (g : VOk Γ D Λ RL cL_refuses 9 l rm_L_refuses) (hL : ClsL D Λ s) (hC : RfC σ x many floors no nn five) (hS : Sp M0 s σ M) (hK : Kb κ rm_L_refuses (j + 1)) (k : ∀ (M1 : MM) (κ1 : Nat × Nat), Sp M0 s σ M1 → Kb κ1 rm_L_refuses j → V Γ D Λ M1 κ1 350 [some (.ref s), some (vi x), some (vi many), some (vi floors), some (vi no), some (vi nn), some (vi five), none, none] []) : V Γ D Λ M κ 335 [some (.ref s), some (vi x), some (vi many), some (vi floors), some (vi no), some (vi nn), some (vi five), none, none] [] := by
  obtain ⟨⟨hx1, hx2⟩, hm, hfl2, hno, hnn, hfi, hc0, hc1⟩ := id hC
  refine V_aload_n (q := 336) g dL_refuses_335 rfl rfl ?_
  refine V_bipush (q := 338) g dL_refuses_336 (by decide) rfl ?_
  refine V_iload (q := 340) g dL_refuses_338 rfl rfl ?_
  refine V_iconst (q := 341) g dL_refuses_340 rfl ?_
  refine V_iconst (q := 342) g dL_refuses_341 rfl ?_
  refine V_u5 (q := 345) 1 (j) g (cq_9 l hfl hL hS.1 (by omega) (by omega)) dL_refuses_342 k_L_192 rfl ⟨by decide, by decide⟩ (hK.le (by omega)) rfl rfl (fun z1 M1 κ1 e1 hK1 => ?_)
  obtain ⟨e1, ho1, hf1⟩ := e1
  have hs1 : Sp M0 s (nComes σ five 0) M1 := ⟨ho1, hS.2.tr hf1⟩
  rw [show (nComes σ five 0) = σ from (by rw [nComes, if_neg (by omega)])] at hs1
  have e1 : z1 = -9999001 := by rw [e1, qComes, if_neg (by omega)]
  refine V_ldc (q := 347) g dL_refuses_345 (z := (-9999001)) q_L_44 (by decide) rfl ?_
  refine V_icmp_ne (q := 350) g dL_refuses_347 (tgt := 733) (by decide) rfl (by omega) (by omega) (fun h2 => absurd h2 (by omega)) (fun h2 => ?_)
  exact k M1 κ1 hs1 (hK1.le (by omega))
set_option maxHeartbeats 4000000 in
set_option maxRecDepth 100000 in
theorem rf_16 (hfl : l.stackTraces = false) {x many floors no nn five : Int} (g : VOk Γ D Λ RL cL_refuses 9 l rm_L_refuses) (hL : ClsL D Λ s) (hC : RfC σ x many floors no nn five) (hS : Sp M0 s σ M) (hK : Kb κ rm_L_refuses (j + 1)) (k : ∀ (M1 : MM) (κ1 : Nat × Nat), Sp M0 s σ M1 → Kb κ1 rm_L_refuses j → V Γ D Λ M1 κ1 382 [some (.ref s), some (vi x), some (vi many), some (vi floors), some (vi no), some (vi nn), some (vi five), none, none] []) : V Γ D Λ M κ 350 [some (.ref s), some (vi x), some (vi many), some (vi floors), some (vi no), some (vi nn), some (vi five), none, none] [] := by
  obtain ⟨⟨hx1, hx2⟩, hm, hfl2, hno, hnn, hfi, hc0, hc1⟩ := id hC
  refine V_aload_n (q := 351) g dL_refuses_350 rfl rfl ?_
  refine V_bipush (q := 353) g dL_refuses_351 (by decide) rfl ?_
  refine V_iconst (q := 354) g dL_refuses_353 rfl ?_
  refine V_iload_n (q := 355) g dL_refuses_354 rfl rfl ?_
  refine V_iconst (q := 356) g dL_refuses_355 rfl ?_
  refine V_irem (q := 357) g dL_refuses_356 (by omega) (by omega) rfl ?_
  suffices hm1 : ∀ (t1 : Int) (κ1 : Nat × Nat), (((x % 2) ≠ 0 ∧ t1 = 901 + (x % 9)) ∨ ((x % 2) = 0 ∧ t1 = 99)) → Kb κ1 rm_L_refuses (j + 1) → V Γ D Λ M κ1 373 [some (.ref s), some (vi x), some (vi many), some (vi floors), some (vi no), some (vi nn), some (vi five), none, none] [vi t1, vi 0, vi 9, .ref s] by
    refine V_if_ne (q := 360) g dL_refuses_357 (tgt := 365) (by decide) rfl (by omega) (fun h2 => ?_) (fun h2 => ?_)
    · refine V_sipush (q := 368) g dL_refuses_365 (by decide) rfl ?_
      refine V_iload_n (q := 369) g dL_refuses_368 rfl rfl ?_
      refine V_bipush (q := 371) g dL_refuses_369 (by decide) rfl ?_
      refine V_irem (q := 372) g dL_refuses_371 (by omega) (by omega) rfl ?_
      refine V_iadd (q := 373) g dL_refuses_372 rfl ?_
      exact V_lvw (lvLe_s (lvLe_s (lvLe_s (lvLe_s (lvLe_s (lvLe_s (lvLe_s (lvLe_n (lvLe_n lvLe_0))))))))) (hm1 _ _ (by omega) (hK.le (by omega)))
    · refine V_bipush (q := 362) g dL_refuses_360 (by decide) rfl ?_
      refine V_goto g dL_refuses_362 (tgt := 373) (by decide) ?_
      exact V_lvw (lvLe_s (lvLe_s (lvLe_s (lvLe_s (lvLe_s (lvLe_s (lvLe_s (lvLe_n (lvLe_n lvLe_0))))))))) (hm1 _ _ (by omega) (hK.le (by omega)))
  intro t1 κ1 hp1 hK1
  refine V_iconst (q := 374) g dL_refuses_373 rfl ?_
  refine V_u5 (q := 377) 1 (j) g (cq_9 l hfl hL hS.1 (by omega) (by omega)) dL_refuses_374 k_L_192 rfl ⟨by decide, by decide⟩ (hK1.le (by omega)) rfl rfl (fun z3 M3 κ3 e3 hK3 => ?_)
  obtain ⟨e3, ho3, hf3⟩ := e3
  have hs3 : Sp M0 s (nComes σ 0 t1) M3 := ⟨ho3, hS.2.tr hf3⟩
  rw [show (nComes σ 0 t1) = σ from (by rw [nComes, if_neg (by omega)])] at hs3
  have e3 : z3 = -9999002 := by rw [e3, qComes, if_pos (by omega), if_neg (by omega)]
  refine V_ldc (q := 379) g dL_refuses_377 (z := (-9999002)) q_L_15 (by decide) rfl ?_
  refine V_icmp_ne (q := 382) g dL_refuses_379 (tgt := 733) (by decide) rfl (by omega) (by omega) (fun h4 => absurd h4 (by omega)) (fun h4 => ?_)
  exact k M3 κ3 hs3 (hK3.le (by omega))
set_option maxHeartbeats 4000000 in
set_option maxRecDepth 100000 in
theorem rf_17 (hfl : l.stackTraces = false) {x many floors no nn five : Int} (g : VOk Γ D Λ RL cL_refuses 9 l rm_L_refuses) (hL : ClsL D Λ s) (hC : RfC σ x many floors no nn five) (hS : Sp M0 s σ M) (hK : Kb κ rm_L_refuses (j + 1)) (k : ∀ (M1 : MM) (κ1 : Nat × Nat), Sp M0 s σ M1 → Kb κ1 rm_L_refuses j → V Γ D Λ M1 κ1 411 [some (.ref s), some (vi x), some (vi many), some (vi floors), some (vi no), some (vi nn), some (vi five), none, none] []) : V Γ D Λ M κ 382 [some (.ref s), some (vi x), some (vi many), some (vi floors), some (vi no), some (vi nn), some (vi five), none, none] [] := by
  obtain ⟨⟨hx1, hx2⟩, hm, hfl2, hno, hnn, hfi, hc0, hc1⟩ := id hC
  refine V_aload_n (q := 383) g dL_refuses_382 rfl rfl ?_
  refine V_iload_n (q := 384) g dL_refuses_383 rfl rfl ?_
  refine V_iconst (q := 385) g dL_refuses_384 rfl ?_
  refine V_irem (q := 386) g dL_refuses_385 (by omega) (by omega) rfl ?_
  suffices hm1 : ∀ (t1 : Int) (κ1 : Nat × Nat), (((x % 2) ≠ 0 ∧ t1 = 51 + (x % 9)) ∨ ((x % 2) = 0 ∧ t1 = (-1))) → Kb κ1 rm_L_refuses (j + 1) → V Γ D Λ M κ1 400 [some (.ref s), some (vi x), some (vi many), some (vi floors), some (vi no), some (vi nn), some (vi five), none, none] [vi t1, .ref s] by
    refine V_if_ne (q := 389) g dL_refuses_386 (tgt := 393) (by decide) rfl (by omega) (fun h2 => ?_) (fun h2 => ?_)
    · refine V_bipush (q := 395) g dL_refuses_393 (by decide) rfl ?_
      refine V_iload_n (q := 396) g dL_refuses_395 rfl rfl ?_
      refine V_bipush (q := 398) g dL_refuses_396 (by decide) rfl ?_
      refine V_irem (q := 399) g dL_refuses_398 (by omega) (by omega) rfl ?_
      refine V_iadd (q := 400) g dL_refuses_399 rfl ?_
      exact V_lvw (lvLe_s (lvLe_s (lvLe_s (lvLe_s (lvLe_s (lvLe_s (lvLe_s (lvLe_n (lvLe_n lvLe_0))))))))) (hm1 _ _ (by omega) (hK.le (by omega)))
    · refine V_iconst (q := 390) g dL_refuses_389 rfl ?_
      refine V_goto g dL_refuses_390 (tgt := 400) (by decide) ?_
      exact V_lvw (lvLe_s (lvLe_s (lvLe_s (lvLe_s (lvLe_s (lvLe_s (lvLe_s (lvLe_n (lvLe_n lvLe_0))))))))) (hm1 _ _ (by omega) (hK.le (by omega)))
  intro t1 κ1 hp1 hK1
  refine V_iconst (q := 401) g dL_refuses_400 rfl ?_
  refine V_iconst (q := 402) g dL_refuses_401 rfl ?_
  refine V_iconst (q := 403) g dL_refuses_402 rfl ?_
  refine V_uh5 (q := 406) 1 (j) g (ch_floors l hfl hL hS.1 (by omega) (by omega) (by omega) (by omega)) dL_refuses_403 k_L_196 rfl ⟨by decide, by decide⟩ (hK1.le (by omega)) rfl rfl (fun z3 M3 κ3 e3 hK3 => ?_)
  have e3 := w_floor hS.1 e3
  obtain ⟨e3, ho3, hf3⟩ := e3
  have hs3 : Sp M0 s (nLay σ t1 0 0 0) M3 := ⟨ho3, hS.2.tr hf3⟩
  rw [show (nLay σ t1 0 0 0) = σ from (by rw [nLay, if_neg (by omega)])] at hs3
  have e3 : z3 = -9999002 := by rw [e3, qLay, if_neg (by omega)]
  refine V_ldc (q := 408) g dL_refuses_406 (z := (-9999002)) q_L_15 (by decide) rfl ?_
  refine V_icmp_ne (q := 411) g dL_refuses_408 (tgt := 733) (by decide) rfl (by omega) (by omega) (fun h4 => absurd h4 (by omega)) (fun h4 => ?_)
  exact k M3 κ3 hs3 (hK3.le (by omega))
set_option maxHeartbeats 4000000 in
set_option maxRecDepth 100000 in
theorem rf_18 (hfl : l.stackTraces = false) {x many floors no nn five : Int} (g : VOk Γ D Λ RL cL_refuses 9 l rm_L_refuses) (hL : ClsL D Λ s) (hC : RfC σ x many floors no nn five) (hS : Sp M0 s σ M) (hK : Kb κ rm_L_refuses (j + 1)) (k : ∀ (M1 : MM) (κ1 : Nat × Nat), Sp M0 s σ M1 → Kb κ1 rm_L_refuses j → V Γ D Λ M1 κ1 440 [some (.ref s), some (vi x), some (vi many), some (vi floors), some (vi no), some (vi nn), some (vi five), none, none] []) : V Γ D Λ M κ 411 [some (.ref s), some (vi x), some (vi many), some (vi floors), some (vi no), some (vi nn), some (vi five), none, none] [] := by
  obtain ⟨⟨hx1, hx2⟩, hm, hfl2, hno, hnn, hfi, hc0, hc1⟩ := id hC
  refine V_aload_n (q := 412) g dL_refuses_411 rfl rfl ?_
  refine V_iconst (q := 413) g dL_refuses_412 rfl ?_
  refine V_iconst (q := 414) g dL_refuses_413 rfl ?_
  refine V_iconst (q := 415) g dL_refuses_414 rfl ?_
  refine V_iload_n (q := 416) g dL_refuses_415 rfl rfl ?_
  refine V_iconst (q := 417) g dL_refuses_416 rfl ?_
  refine V_irem (q := 418) g dL_refuses_417 (by omega) (by omega) rfl ?_
  suffices hm1 : ∀ (t1 : Int) (κ1 : Nat × Nat), (((x % 2) ≠ 0 ∧ t1 = 51 + (x % 9)) ∨ ((x % 2) = 0 ∧ t1 = (-1))) → Kb κ1 rm_L_refuses (j + 1) → V Γ D Λ M κ1 432 [some (.ref s), some (vi x), some (vi many), some (vi floors), some (vi no), some (vi nn), some (vi five), none, none] [vi t1, vi 0, vi 0, vi 0, .ref s] by
    refine V_if_ne (q := 421) g dL_refuses_418 (tgt := 425) (by decide) rfl (by omega) (fun h2 => ?_) (fun h2 => ?_)
    · refine V_bipush (q := 427) g dL_refuses_425 (by decide) rfl ?_
      refine V_iload_n (q := 428) g dL_refuses_427 rfl rfl ?_
      refine V_bipush (q := 430) g dL_refuses_428 (by decide) rfl ?_
      refine V_irem (q := 431) g dL_refuses_430 (by omega) (by omega) rfl ?_
      refine V_iadd (q := 432) g dL_refuses_431 rfl ?_
      exact V_lvw (lvLe_s (lvLe_s (lvLe_s (lvLe_s (lvLe_s (lvLe_s (lvLe_s (lvLe_n (lvLe_n lvLe_0))))))))) (hm1 _ _ (by omega) (hK.le (by omega)))
    · refine V_iconst (q := 422) g dL_refuses_421 rfl ?_
      refine V_goto g dL_refuses_422 (tgt := 432) (by decide) ?_
      exact V_lvw (lvLe_s (lvLe_s (lvLe_s (lvLe_s (lvLe_s (lvLe_s (lvLe_s (lvLe_n (lvLe_n lvLe_0))))))))) (hm1 _ _ (by omega) (hK.le (by omega)))
  intro t1 κ1 hp1 hK1
  refine V_uh5 (q := 435) 1 (j) g (ch_floors l hfl hL hS.1 (by omega) (by omega) (by omega) (by omega)) dL_refuses_432 k_L_196 rfl ⟨by decide, by decide⟩ (hK1.le (by omega)) rfl rfl (fun z3 M3 κ3 e3 hK3 => ?_)
  have e3 := w_floor hS.1 e3
  obtain ⟨e3, ho3, hf3⟩ := e3
  have hs3 : Sp M0 s (nLay σ 0 0 0 t1) M3 := ⟨ho3, hS.2.tr hf3⟩
  rw [show (nLay σ 0 0 0 t1) = σ from (by rw [nLay, if_neg (by omega)])] at hs3
  have e3 : z3 = -9999002 := by rw [e3, qLay, if_neg (by omega)]
  refine V_ldc (q := 437) g dL_refuses_435 (z := (-9999002)) q_L_15 (by decide) rfl ?_
  refine V_icmp_ne (q := 440) g dL_refuses_437 (tgt := 733) (by decide) rfl (by omega) (by omega) (fun h4 => absurd h4 (by omega)) (fun h4 => ?_)
  exact k M3 κ3 hs3 (hK3.le (by omega))
set_option maxHeartbeats 4000000 in
set_option maxRecDepth 100000 in
theorem rf_19 (hfl : l.stackTraces = false) {x many floors no nn five : Int} (g : VOk Γ D Λ RL cL_refuses 9 l rm_L_refuses) (hL : ClsL D Λ s) (hC : RfC σ x many floors no nn five) (hS : Sp M0 s σ M) (hK : Kb κ rm_L_refuses (j + 1)) (k : ∀ (M1 : MM) (κ1 : Nat × Nat), Sp M0 s σ M1 → Kb κ1 rm_L_refuses j → V Γ D Λ M1 κ1 455 [some (.ref s), some (vi x), some (vi many), some (vi floors), some (vi no), some (vi nn), some (vi five), none, none] []) : V Γ D Λ M κ 440 [some (.ref s), some (vi x), some (vi many), some (vi floors), some (vi no), some (vi nn), some (vi five), none, none] [] := by
  obtain ⟨⟨hx1, hx2⟩, hm, hfl2, hno, hnn, hfi, hc0, hc1⟩ := id hC
  refine V_aload_n (q := 441) g dL_refuses_440 rfl rfl ?_
  refine V_bipush (q := 443) g dL_refuses_441 (by decide) rfl ?_
  refine V_iload (q := 445) g dL_refuses_443 rfl rfl ?_
  refine V_iconst (q := 446) g dL_refuses_445 rfl ?_
  refine V_iconst (q := 447) g dL_refuses_446 rfl ?_
  refine V_u5 (q := 450) 1 (j) g (cq_10 l hfl hL hS.1 (by omega) (by omega) (by omega)) dL_refuses_447 k_L_192 rfl ⟨by decide, by decide⟩ (hK.le (by omega)) rfl rfl (fun z1 M1 κ1 e1 hK1 => ?_)
  obtain ⟨e1, ho1, hf1⟩ := e1
  have hs1 : Sp M0 s (nLevel σ nn 0 0) M1 := ⟨ho1, hS.2.tr hf1⟩
  rw [show (nLevel σ nn 0 0) = σ from (by rw [nLevel, if_neg (by omega)])] at hs1
  have e1 : z1 = -9999001 := by rw [e1, qLevel, if_neg (by omega)]
  refine V_ldc (q := 452) g dL_refuses_450 (z := (-9999001)) q_L_44 (by decide) rfl ?_
  refine V_icmp_ne (q := 455) g dL_refuses_452 (tgt := 733) (by decide) rfl (by omega) (by omega) (fun h2 => absurd h2 (by omega)) (fun h2 => ?_)
  exact k M1 κ1 hs1 (hK1.le (by omega))
set_option maxHeartbeats 4000000 in
set_option maxRecDepth 100000 in
theorem rf_20 (hfl : l.stackTraces = false) {x many floors no nn five : Int} (g : VOk Γ D Λ RL cL_refuses 9 l rm_L_refuses) (hL : ClsL D Λ s) (hC : RfC σ x many floors no nn five) (hS : Sp M0 s σ M) (hK : Kb κ rm_L_refuses (j + 1)) (k : ∀ (M1 : MM) (κ1 : Nat × Nat), Sp M0 s σ M1 → Kb κ1 rm_L_refuses j → V Γ D Λ M1 κ1 470 [some (.ref s), some (vi x), some (vi many), some (vi floors), some (vi no), some (vi nn), some (vi five), none, none] []) : V Γ D Λ M κ 455 [some (.ref s), some (vi x), some (vi many), some (vi floors), some (vi no), some (vi nn), some (vi five), none, none] [] := by
  obtain ⟨⟨hx1, hx2⟩, hm, hfl2, hno, hnn, hfi, hc0, hc1⟩ := id hC
  refine V_aload_n (q := 456) g dL_refuses_455 rfl rfl ?_
  refine V_bipush (q := 458) g dL_refuses_456 (by decide) rfl ?_
  refine V_iconst (q := 459) g dL_refuses_458 rfl ?_
  refine V_iload (q := 461) g dL_refuses_459 rfl rfl ?_
  refine V_iconst (q := 462) g dL_refuses_461 rfl ?_
  refine V_u5 (q := 465) 1 (j) g (cq_10 l hfl hL hS.1 (by omega) (by omega) (by omega)) dL_refuses_462 k_L_192 rfl ⟨by decide, by decide⟩ (hK.le (by omega)) rfl rfl (fun z1 M1 κ1 e1 hK1 => ?_)
  obtain ⟨e1, ho1, hf1⟩ := e1
  have hs1 : Sp M0 s (nLevel σ 0 five 0) M1 := ⟨ho1, hS.2.tr hf1⟩
  rw [show (nLevel σ 0 five 0) = σ from (by rw [nLevel, if_neg (by omega)])] at hs1
  have e1 : z1 = -9999001 := by rw [e1, qLevel, if_neg (by omega)]
  refine V_ldc (q := 467) g dL_refuses_465 (z := (-9999001)) q_L_44 (by decide) rfl ?_
  refine V_icmp_ne (q := 470) g dL_refuses_467 (tgt := 733) (by decide) rfl (by omega) (by omega) (fun h2 => absurd h2 (by omega)) (fun h2 => ?_)
  exact k M1 κ1 hs1 (hK1.le (by omega))
set_option maxHeartbeats 4000000 in
set_option maxRecDepth 100000 in
theorem rf_21 (hfl : l.stackTraces = false) {x many floors no nn five : Int} (g : VOk Γ D Λ RL cL_refuses 9 l rm_L_refuses) (hL : ClsL D Λ s) (hC : RfC σ x many floors no nn five) (hS : Sp M0 s σ M) (hK : Kb κ rm_L_refuses (j + 1)) (k : ∀ (M1 : MM) (κ1 : Nat × Nat), Sp M0 s σ M1 → Kb κ1 rm_L_refuses j → V Γ D Λ M1 κ1 500 [some (.ref s), some (vi x), some (vi many), some (vi floors), some (vi no), some (vi nn), some (vi five), none, none] []) : V Γ D Λ M κ 470 [some (.ref s), some (vi x), some (vi many), some (vi floors), some (vi no), some (vi nn), some (vi five), none, none] [] := by
  obtain ⟨⟨hx1, hx2⟩, hm, hfl2, hno, hnn, hfi, hc0, hc1⟩ := id hC
  refine V_aload_n (q := 471) g dL_refuses_470 rfl rfl ?_
  refine V_bipush (q := 473) g dL_refuses_471 (by decide) rfl ?_
  refine V_iconst (q := 474) g dL_refuses_473 rfl ?_
  refine V_iconst (q := 475) g dL_refuses_474 rfl ?_
  refine V_iload_n (q := 476) g dL_refuses_475 rfl rfl ?_
  refine V_iconst (q := 477) g dL_refuses_476 rfl ?_
  refine V_irem (q := 478) g dL_refuses_477 (by omega) (by omega) rfl ?_
  suffices hm1 : ∀ (t1 : Int) (κ1 : Nat × Nat), (((x % 2) ≠ 0 ∧ t1 = 51 + (x % 9)) ∨ ((x % 2) = 0 ∧ t1 = (-1))) → Kb κ1 rm_L_refuses (j + 1) → V Γ D Λ M κ1 492 [some (.ref s), some (vi x), some (vi many), some (vi floors), some (vi no), some (vi nn), some (vi five), none, none] [vi t1, vi 0, vi 0, vi 10, .ref s] by
    refine V_if_ne (q := 481) g dL_refuses_478 (tgt := 485) (by decide) rfl (by omega) (fun h2 => ?_) (fun h2 => ?_)
    · refine V_bipush (q := 487) g dL_refuses_485 (by decide) rfl ?_
      refine V_iload_n (q := 488) g dL_refuses_487 rfl rfl ?_
      refine V_bipush (q := 490) g dL_refuses_488 (by decide) rfl ?_
      refine V_irem (q := 491) g dL_refuses_490 (by omega) (by omega) rfl ?_
      refine V_iadd (q := 492) g dL_refuses_491 rfl ?_
      exact V_lvw (lvLe_s (lvLe_s (lvLe_s (lvLe_s (lvLe_s (lvLe_s (lvLe_s (lvLe_n (lvLe_n lvLe_0))))))))) (hm1 _ _ (by omega) (hK.le (by omega)))
    · refine V_iconst (q := 482) g dL_refuses_481 rfl ?_
      refine V_goto g dL_refuses_482 (tgt := 492) (by decide) ?_
      exact V_lvw (lvLe_s (lvLe_s (lvLe_s (lvLe_s (lvLe_s (lvLe_s (lvLe_s (lvLe_n (lvLe_n lvLe_0))))))))) (hm1 _ _ (by omega) (hK.le (by omega)))
  intro t1 κ1 hp1 hK1
  refine V_u5 (q := 495) 1 (j) g (cq_10 l hfl hL hS.1 (by omega) (by omega) (by omega)) dL_refuses_492 k_L_192 rfl ⟨by decide, by decide⟩ (hK1.le (by omega)) rfl rfl (fun z3 M3 κ3 e3 hK3 => ?_)
  obtain ⟨e3, ho3, hf3⟩ := e3
  have hs3 : Sp M0 s (nLevel σ 0 0 t1) M3 := ⟨ho3, hS.2.tr hf3⟩
  rw [show (nLevel σ 0 0 t1) = σ from (by rw [nLevel, if_neg (by omega)])] at hs3
  have e3 : z3 = -9999002 := by rw [e3, qLevel, if_pos (by omega), if_neg (by omega)]
  refine V_ldc (q := 497) g dL_refuses_495 (z := (-9999002)) q_L_15 (by decide) rfl ?_
  refine V_icmp_ne (q := 500) g dL_refuses_497 (tgt := 733) (by decide) rfl (by omega) (by omega) (fun h4 => absurd h4 (by omega)) (fun h4 => ?_)
  exact k M3 κ3 hs3 (hK3.le (by omega))
set_option maxHeartbeats 4000000 in
set_option maxRecDepth 100000 in
theorem rf_22 (hfl : l.stackTraces = false) {x many floors no nn five : Int} (g : VOk Γ D Λ RL cL_refuses 9 l rm_L_refuses) (hL : ClsL D Λ s) (hC : RfC σ x many floors no nn five) (hS : Sp M0 s σ M) (hK : Kb κ rm_L_refuses (j + 1)) (k : ∀ (M1 : MM) (κ1 : Nat × Nat), Sp M0 s σ M1 → Kb κ1 rm_L_refuses j → V Γ D Λ M1 κ1 516 [some (.ref s), some (vi x), some (vi many), some (vi floors), some (vi no), some (vi nn), some (vi five), none, none] []) : V Γ D Λ M κ 500 [some (.ref s), some (vi x), some (vi many), some (vi floors), some (vi no), some (vi nn), some (vi five), none, none] [] := by
  obtain ⟨⟨hx1, hx2⟩, hm, hfl2, hno, hnn, hfi, hc0, hc1⟩ := id hC
  refine V_aload_n (q := 501) g dL_refuses_500 rfl rfl ?_
  refine V_bipush (q := 503) g dL_refuses_501 (by decide) rfl ?_
  refine V_iload (q := 505) g dL_refuses_503 rfl rfl ?_
  refine V_iconst (q := 506) g dL_refuses_505 rfl ?_
  refine V_bipush (q := 508) g dL_refuses_506 (by decide) rfl ?_
  refine V_u5 (q := 511) 1 (j) g (cq_11 l hfl hL hS.1 (by omega) (by omega) (by omega)) dL_refuses_508 k_L_192 rfl ⟨by decide, by decide⟩ (hK.le (by omega)) rfl rfl (fun z1 M1 κ1 e1 hK1 => ?_)
  obtain ⟨e1, ho1, hf1⟩ := e1
  have hs1 : Sp M0 s (nBring σ no 0 9) M1 := ⟨ho1, hS.2.tr hf1⟩
  rw [show (nBring σ no 0 9) = σ from (by rw [nBring, if_neg (by omega)])] at hs1
  have e1 : z1 = -9999001 := by rw [e1, qBring, if_neg (by omega)]
  refine V_ldc (q := 513) g dL_refuses_511 (z := (-9999001)) q_L_44 (by decide) rfl ?_
  refine V_icmp_ne (q := 516) g dL_refuses_513 (tgt := 733) (by decide) rfl (by omega) (by omega) (fun h2 => absurd h2 (by omega)) (fun h2 => ?_)
  exact k M1 κ1 hs1 (hK1.le (by omega))
set_option maxHeartbeats 4000000 in
set_option maxRecDepth 100000 in
theorem rf_23 (hfl : l.stackTraces = false) {x many floors no nn five : Int} (g : VOk Γ D Λ RL cL_refuses 9 l rm_L_refuses) (hL : ClsL D Λ s) (hC : RfC σ x many floors no nn five) (hS : Sp M0 s σ M) (hK : Kb κ rm_L_refuses (j + 1)) (k : ∀ (M1 : MM) (κ1 : Nat × Nat), Sp M0 s σ M1 → Kb κ1 rm_L_refuses j → V Γ D Λ M1 κ1 532 [some (.ref s), some (vi x), some (vi many), some (vi floors), some (vi no), some (vi nn), some (vi five), none, none] []) : V Γ D Λ M κ 516 [some (.ref s), some (vi x), some (vi many), some (vi floors), some (vi no), some (vi nn), some (vi five), none, none] [] := by
  obtain ⟨⟨hx1, hx2⟩, hm, hfl2, hno, hnn, hfi, hc0, hc1⟩ := id hC
  refine V_aload_n (q := 517) g dL_refuses_516 rfl rfl ?_
  refine V_bipush (q := 519) g dL_refuses_517 (by decide) rfl ?_
  refine V_iconst (q := 520) g dL_refuses_519 rfl ?_
  refine V_iload (q := 522) g dL_refuses_520 rfl rfl ?_
  refine V_bipush (q := 524) g dL_refuses_522 (by decide) rfl ?_
  refine V_u5 (q := 527) 1 (j) g (cq_11 l hfl hL hS.1 (by omega) (by omega) (by omega)) dL_refuses_524 k_L_192 rfl ⟨by decide, by decide⟩ (hK.le (by omega)) rfl rfl (fun z1 M1 κ1 e1 hK1 => ?_)
  obtain ⟨e1, ho1, hf1⟩ := e1
  have hs1 : Sp M0 s (nBring σ 0 nn 9) M1 := ⟨ho1, hS.2.tr hf1⟩
  rw [show (nBring σ 0 nn 9) = σ from (by rw [nBring, if_neg (by omega)])] at hs1
  have e1 : z1 = -9999001 := by rw [e1, qBring, if_neg (by omega)]
  refine V_ldc (q := 529) g dL_refuses_527 (z := (-9999001)) q_L_44 (by decide) rfl ?_
  refine V_icmp_ne (q := 532) g dL_refuses_529 (tgt := 733) (by decide) rfl (by omega) (by omega) (fun h2 => absurd h2 (by omega)) (fun h2 => ?_)
  exact k M1 κ1 hs1 (hK1.le (by omega))
set_option maxHeartbeats 4000000 in
set_option maxRecDepth 100000 in
theorem rf_24 (hfl : l.stackTraces = false) {x many floors no nn five : Int} (g : VOk Γ D Λ RL cL_refuses 9 l rm_L_refuses) (hL : ClsL D Λ s) (hC : RfC σ x many floors no nn five) (hS : Sp M0 s σ M) (hK : Kb κ rm_L_refuses (j + 1)) (k : ∀ (M1 : MM) (κ1 : Nat × Nat), Sp M0 s σ M1 → Kb κ1 rm_L_refuses j → V Γ D Λ M1 κ1 547 [some (.ref s), some (vi x), some (vi many), some (vi floors), some (vi no), some (vi nn), some (vi five), none, none] []) : V Γ D Λ M κ 532 [some (.ref s), some (vi x), some (vi many), some (vi floors), some (vi no), some (vi nn), some (vi five), none, none] [] := by
  obtain ⟨⟨hx1, hx2⟩, hm, hfl2, hno, hnn, hfi, hc0, hc1⟩ := id hC
  refine V_aload_n (q := 533) g dL_refuses_532 rfl rfl ?_
  refine V_bipush (q := 535) g dL_refuses_533 (by decide) rfl ?_
  refine V_iconst (q := 536) g dL_refuses_535 rfl ?_
  refine V_iconst (q := 537) g dL_refuses_536 rfl ?_
  refine V_iload (q := 539) g dL_refuses_537 rfl rfl ?_
  refine V_u5 (q := 542) 1 (j) g (cq_11 l hfl hL hS.1 (by omega) (by omega) (by omega)) dL_refuses_539 k_L_192 rfl ⟨by decide, by decide⟩ (hK.le (by omega)) rfl rfl (fun z1 M1 κ1 e1 hK1 => ?_)
  obtain ⟨e1, ho1, hf1⟩ := e1
  have hs1 : Sp M0 s (nBring σ 0 0 five) M1 := ⟨ho1, hS.2.tr hf1⟩
  rw [show (nBring σ 0 0 five) = σ from (by rw [nBring, if_neg (by omega)])] at hs1
  have e1 : z1 = -9999002 := by rw [e1, qBring, if_pos (by omega), if_neg (by omega)]
  refine V_ldc (q := 544) g dL_refuses_542 (z := (-9999002)) q_L_15 (by decide) rfl ?_
  refine V_icmp_ne (q := 547) g dL_refuses_544 (tgt := 733) (by decide) rfl (by omega) (by omega) (fun h2 => absurd h2 (by omega)) (fun h2 => ?_)
  exact k M1 κ1 hs1 (hK1.le (by omega))
set_option maxHeartbeats 4000000 in
set_option maxRecDepth 100000 in
theorem rf_25 (hfl : l.stackTraces = false) {x many floors no nn five : Int} (g : VOk Γ D Λ RL cL_refuses 9 l rm_L_refuses) (hL : ClsL D Λ s) (hC : RfC σ x many floors no nn five) (hS : Sp M0 s σ M) (hK : Kb κ rm_L_refuses (j + 1)) (k : ∀ (M1 : MM) (κ1 : Nat × Nat), Sp M0 s σ M1 → Kb κ1 rm_L_refuses j → V Γ D Λ M1 κ1 562 [some (.ref s), some (vi x), some (vi many), some (vi floors), some (vi no), some (vi nn), some (vi five), none, none] []) : V Γ D Λ M κ 547 [some (.ref s), some (vi x), some (vi many), some (vi floors), some (vi no), some (vi nn), some (vi five), none, none] [] := by
  obtain ⟨⟨hx1, hx2⟩, hm, hfl2, hno, hnn, hfi, hc0, hc1⟩ := id hC
  refine V_aload_n (q := 548) g dL_refuses_547 rfl rfl ?_
  refine V_bipush (q := 550) g dL_refuses_548 (by decide) rfl ?_
  refine V_iload (q := 552) g dL_refuses_550 rfl rfl ?_
  refine V_iconst (q := 553) g dL_refuses_552 rfl ?_
  refine V_iconst (q := 554) g dL_refuses_553 rfl ?_
  refine V_u5 (q := 557) 1 (j) g (cq_12 l hfl hL hS.1 (by omega) (by omega) (by omega)) dL_refuses_554 k_L_192 rfl ⟨by decide, by decide⟩ (hK.le (by omega)) rfl rfl (fun z1 M1 κ1 e1 hK1 => ?_)
  obtain ⟨e1, ho1, hf1⟩ := e1
  have hs1 : Sp M0 s (nSaw σ no 0 0) M1 := ⟨ho1, hS.2.tr hf1⟩
  rw [show (nSaw σ no 0 0) = σ from (by rw [nSaw, if_neg (by omega)])] at hs1
  have e1 : z1 = -9999001 := by rw [e1, qSaw, if_neg (by omega)]
  refine V_ldc (q := 559) g dL_refuses_557 (z := (-9999001)) q_L_44 (by decide) rfl ?_
  refine V_icmp_ne (q := 562) g dL_refuses_559 (tgt := 733) (by decide) rfl (by omega) (by omega) (fun h2 => absurd h2 (by omega)) (fun h2 => ?_)
  exact k M1 κ1 hs1 (hK1.le (by omega))
set_option maxHeartbeats 4000000 in
set_option maxRecDepth 100000 in
theorem rf_26 (hfl : l.stackTraces = false) {x many floors no nn five : Int} (g : VOk Γ D Λ RL cL_refuses 9 l rm_L_refuses) (hL : ClsL D Λ s) (hC : RfC σ x many floors no nn five) (hS : Sp M0 s σ M) (hK : Kb κ rm_L_refuses (j + 1)) (k : ∀ (M1 : MM) (κ1 : Nat × Nat), Sp M0 s σ M1 → Kb κ1 rm_L_refuses j → V Γ D Λ M1 κ1 577 [some (.ref s), some (vi x), some (vi many), some (vi floors), some (vi no), some (vi nn), some (vi five), none, none] []) : V Γ D Λ M κ 562 [some (.ref s), some (vi x), some (vi many), some (vi floors), some (vi no), some (vi nn), some (vi five), none, none] [] := by
  obtain ⟨⟨hx1, hx2⟩, hm, hfl2, hno, hnn, hfi, hc0, hc1⟩ := id hC
  refine V_aload_n (q := 563) g dL_refuses_562 rfl rfl ?_
  refine V_bipush (q := 565) g dL_refuses_563 (by decide) rfl ?_
  refine V_iconst (q := 566) g dL_refuses_565 rfl ?_
  refine V_iload (q := 568) g dL_refuses_566 rfl rfl ?_
  refine V_iconst (q := 569) g dL_refuses_568 rfl ?_
  refine V_u5 (q := 572) 1 (j) g (cq_12 l hfl hL hS.1 (by omega) (by omega) (by omega)) dL_refuses_569 k_L_192 rfl ⟨by decide, by decide⟩ (hK.le (by omega)) rfl rfl (fun z1 M1 κ1 e1 hK1 => ?_)
  obtain ⟨e1, ho1, hf1⟩ := e1
  have hs1 : Sp M0 s (nSaw σ 0 five 0) M1 := ⟨ho1, hS.2.tr hf1⟩
  rw [show (nSaw σ 0 five 0) = σ from (by rw [nSaw, if_neg (by omega)])] at hs1
  have e1 : z1 = -9999001 := by rw [e1, qSaw, if_neg (by omega)]
  refine V_ldc (q := 574) g dL_refuses_572 (z := (-9999001)) q_L_44 (by decide) rfl ?_
  refine V_icmp_ne (q := 577) g dL_refuses_574 (tgt := 733) (by decide) rfl (by omega) (by omega) (fun h2 => absurd h2 (by omega)) (fun h2 => ?_)
  exact k M1 κ1 hs1 (hK1.le (by omega))
set_option maxHeartbeats 4000000 in
set_option maxRecDepth 100000 in
theorem rf_27 (hfl : l.stackTraces = false) {x many floors no nn five : Int} (g : VOk Γ D Λ RL cL_refuses 9 l rm_L_refuses) (hL : ClsL D Λ s) (hC : RfC σ x many floors no nn five) (hS : Sp M0 s σ M) (hK : Kb κ rm_L_refuses (j + 1)) (k : ∀ (M1 : MM) (κ1 : Nat × Nat), Sp M0 s σ M1 → Kb κ1 rm_L_refuses j → V Γ D Λ M1 κ1 608 [some (.ref s), some (vi x), some (vi many), some (vi floors), some (vi no), some (vi nn), some (vi five), none, none] []) : V Γ D Λ M κ 577 [some (.ref s), some (vi x), some (vi many), some (vi floors), some (vi no), some (vi nn), some (vi five), none, none] [] := by
  obtain ⟨⟨hx1, hx2⟩, hm, hfl2, hno, hnn, hfi, hc0, hc1⟩ := id hC
  refine V_aload_n (q := 578) g dL_refuses_577 rfl rfl ?_
  refine V_bipush (q := 580) g dL_refuses_578 (by decide) rfl ?_
  refine V_iconst (q := 581) g dL_refuses_580 rfl ?_
  refine V_iconst (q := 582) g dL_refuses_581 rfl ?_
  refine V_iload_n (q := 583) g dL_refuses_582 rfl rfl ?_
  refine V_iconst (q := 584) g dL_refuses_583 rfl ?_
  refine V_irem (q := 585) g dL_refuses_584 (by omega) (by omega) rfl ?_
  suffices hm1 : ∀ (t1 : Int) (κ1 : Nat × Nat), (((x % 2) ≠ 0 ∧ t1 = 801 + (x % 9)) ∨ ((x % 2) = 0 ∧ t1 = 0)) → Kb κ1 rm_L_refuses (j + 1) → V Γ D Λ M κ1 600 [some (.ref s), some (vi x), some (vi many), some (vi floors), some (vi no), some (vi nn), some (vi five), none, none] [vi t1, vi 0, vi 0, vi 12, .ref s] by
    refine V_if_ne (q := 588) g dL_refuses_585 (tgt := 592) (by decide) rfl (by omega) (fun h2 => ?_) (fun h2 => ?_)
    · refine V_sipush (q := 595) g dL_refuses_592 (by decide) rfl ?_
      refine V_iload_n (q := 596) g dL_refuses_595 rfl rfl ?_
      refine V_bipush (q := 598) g dL_refuses_596 (by decide) rfl ?_
      refine V_irem (q := 599) g dL_refuses_598 (by omega) (by omega) rfl ?_
      refine V_iadd (q := 600) g dL_refuses_599 rfl ?_
      exact V_lvw (lvLe_s (lvLe_s (lvLe_s (lvLe_s (lvLe_s (lvLe_s (lvLe_s (lvLe_n (lvLe_n lvLe_0))))))))) (hm1 _ _ (by omega) (hK.le (by omega)))
    · refine V_iconst (q := 589) g dL_refuses_588 rfl ?_
      refine V_goto g dL_refuses_589 (tgt := 600) (by decide) ?_
      exact V_lvw (lvLe_s (lvLe_s (lvLe_s (lvLe_s (lvLe_s (lvLe_s (lvLe_s (lvLe_n (lvLe_n lvLe_0))))))))) (hm1 _ _ (by omega) (hK.le (by omega)))
  intro t1 κ1 hp1 hK1
  refine V_u5 (q := 603) 1 (j) g (cq_12 l hfl hL hS.1 (by omega) (by omega) (by omega)) dL_refuses_600 k_L_192 rfl ⟨by decide, by decide⟩ (hK1.le (by omega)) rfl rfl (fun z3 M3 κ3 e3 hK3 => ?_)
  obtain ⟨e3, ho3, hf3⟩ := e3
  have hs3 : Sp M0 s (nSaw σ 0 0 t1) M3 := ⟨ho3, hS.2.tr hf3⟩
  rw [show (nSaw σ 0 0 t1) = σ from (by rw [nSaw, if_neg (by omega)])] at hs3
  have e3 : z3 = -9999002 := by rw [e3, qSaw, if_pos (by omega), if_neg (by omega)]
  refine V_ldc (q := 605) g dL_refuses_603 (z := (-9999002)) q_L_15 (by decide) rfl ?_
  refine V_icmp_ne (q := 608) g dL_refuses_605 (tgt := 733) (by decide) rfl (by omega) (by omega) (fun h4 => absurd h4 (by omega)) (fun h4 => ?_)
  exact k M3 κ3 hs3 (hK3.le (by omega))
set_option maxHeartbeats 4000000 in
set_option maxRecDepth 100000 in
theorem rf_28 (hfl : l.stackTraces = false) {x many floors no nn five : Int} (g : VOk Γ D Λ RL cL_refuses 9 l rm_L_refuses) (hL : ClsL D Λ s) (hC : RfC σ x many floors no nn five) (hS : Sp M0 s σ M) (hK : Kb κ rm_L_refuses (j + 1)) (k : ∀ (M1 : MM) (κ1 : Nat × Nat), Sp M0 s σ M1 → Kb κ1 rm_L_refuses j → V Γ D Λ M1 κ1 623 [some (.ref s), some (vi x), some (vi many), some (vi floors), some (vi no), some (vi nn), some (vi five), none, none] []) : V Γ D Λ M κ 608 [some (.ref s), some (vi x), some (vi many), some (vi floors), some (vi no), some (vi nn), some (vi five), none, none] [] := by
  obtain ⟨⟨hx1, hx2⟩, hm, hfl2, hno, hnn, hfi, hc0, hc1⟩ := id hC
  refine V_aload_n (q := 609) g dL_refuses_608 rfl rfl ?_
  refine V_bipush (q := 611) g dL_refuses_609 (by decide) rfl ?_
  refine V_iload (q := 613) g dL_refuses_611 rfl rfl ?_
  refine V_iconst (q := 614) g dL_refuses_613 rfl ?_
  refine V_iconst (q := 615) g dL_refuses_614 rfl ?_
  refine V_u5 (q := 618) 1 (j) g (cq_13 l hfl hL hS.1 (by omega) (by omega) (by omega)) dL_refuses_615 k_L_192 rfl ⟨by decide, by decide⟩ (hK.le (by omega)) rfl rfl (fun z1 M1 κ1 e1 hK1 => ?_)
  obtain ⟨e1, ho1, hf1⟩ := e1
  have hs1 : Sp M0 s (nShim σ no 0 0) M1 := ⟨ho1, hS.2.tr hf1⟩
  rw [show (nShim σ no 0 0) = σ from (by rw [nShim, if_neg (by omega)])] at hs1
  have e1 : z1 = -9999001 := by rw [e1, qShim, if_neg (by omega)]
  refine V_ldc (q := 620) g dL_refuses_618 (z := (-9999001)) q_L_44 (by decide) rfl ?_
  refine V_icmp_ne (q := 623) g dL_refuses_620 (tgt := 733) (by decide) rfl (by omega) (by omega) (fun h2 => absurd h2 (by omega)) (fun h2 => ?_)
  exact k M1 κ1 hs1 (hK1.le (by omega))
set_option maxHeartbeats 4000000 in
set_option maxRecDepth 100000 in
theorem rf_29 (hfl : l.stackTraces = false) {x many floors no nn five : Int} (g : VOk Γ D Λ RL cL_refuses 9 l rm_L_refuses) (hL : ClsL D Λ s) (hC : RfC σ x many floors no nn five) (hS : Sp M0 s σ M) (hK : Kb κ rm_L_refuses (j + 1)) (k : ∀ (M1 : MM) (κ1 : Nat × Nat), Sp M0 s σ M1 → Kb κ1 rm_L_refuses j → V Γ D Λ M1 κ1 638 [some (.ref s), some (vi x), some (vi many), some (vi floors), some (vi no), some (vi nn), some (vi five), none, none] []) : V Γ D Λ M κ 623 [some (.ref s), some (vi x), some (vi many), some (vi floors), some (vi no), some (vi nn), some (vi five), none, none] [] := by
  obtain ⟨⟨hx1, hx2⟩, hm, hfl2, hno, hnn, hfi, hc0, hc1⟩ := id hC
  refine V_aload_n (q := 624) g dL_refuses_623 rfl rfl ?_
  refine V_bipush (q := 626) g dL_refuses_624 (by decide) rfl ?_
  refine V_iconst (q := 627) g dL_refuses_626 rfl ?_
  refine V_iload (q := 629) g dL_refuses_627 rfl rfl ?_
  refine V_iconst (q := 630) g dL_refuses_629 rfl ?_
  refine V_u5 (q := 633) 1 (j) g (cq_13 l hfl hL hS.1 (by omega) (by omega) (by omega)) dL_refuses_630 k_L_192 rfl ⟨by decide, by decide⟩ (hK.le (by omega)) rfl rfl (fun z1 M1 κ1 e1 hK1 => ?_)
  obtain ⟨e1, ho1, hf1⟩ := e1
  have hs1 : Sp M0 s (nShim σ 0 five 0) M1 := ⟨ho1, hS.2.tr hf1⟩
  rw [show (nShim σ 0 five 0) = σ from (by rw [nShim, if_neg (by omega)])] at hs1
  have e1 : z1 = -9999001 := by rw [e1, qShim, if_neg (by omega)]
  refine V_ldc (q := 635) g dL_refuses_633 (z := (-9999001)) q_L_44 (by decide) rfl ?_
  refine V_icmp_ne (q := 638) g dL_refuses_635 (tgt := 733) (by decide) rfl (by omega) (by omega) (fun h2 => absurd h2 (by omega)) (fun h2 => ?_)
  exact k M1 κ1 hs1 (hK1.le (by omega))
set_option maxHeartbeats 4000000 in
set_option maxRecDepth 100000 in
theorem rf_30 (hfl : l.stackTraces = false) {x many floors no nn five : Int} (g : VOk Γ D Λ RL cL_refuses 9 l rm_L_refuses) (hL : ClsL D Λ s) (hC : RfC σ x many floors no nn five) (hS : Sp M0 s σ M) (hK : Kb κ rm_L_refuses (j + 1)) (k : ∀ (M1 : MM) (κ1 : Nat × Nat), Sp M0 s σ M1 → Kb κ1 rm_L_refuses j → V Γ D Λ M1 κ1 668 [some (.ref s), some (vi x), some (vi many), some (vi floors), some (vi no), some (vi nn), some (vi five), none, none] []) : V Γ D Λ M κ 638 [some (.ref s), some (vi x), some (vi many), some (vi floors), some (vi no), some (vi nn), some (vi five), none, none] [] := by
  obtain ⟨⟨hx1, hx2⟩, hm, hfl2, hno, hnn, hfi, hc0, hc1⟩ := id hC
  refine V_aload_n (q := 639) g dL_refuses_638 rfl rfl ?_
  refine V_bipush (q := 641) g dL_refuses_639 (by decide) rfl ?_
  refine V_iconst (q := 642) g dL_refuses_641 rfl ?_
  refine V_iconst (q := 643) g dL_refuses_642 rfl ?_
  refine V_iload_n (q := 644) g dL_refuses_643 rfl rfl ?_
  refine V_iconst (q := 645) g dL_refuses_644 rfl ?_
  refine V_irem (q := 646) g dL_refuses_645 (by omega) (by omega) rfl ?_
  suffices hm1 : ∀ (t1 : Int) (κ1 : Nat × Nat), (((x % 2) ≠ 0 ∧ t1 = 100 + (x % 9)) ∨ ((x % 2) = 0 ∧ t1 = 0)) → Kb κ1 rm_L_refuses (j + 1) → V Γ D Λ M κ1 660 [some (.ref s), some (vi x), some (vi many), some (vi floors), some (vi no), some (vi nn), some (vi five), none, none] [vi t1, vi 0, vi 0, vi 13, .ref s] by
    refine V_if_ne (q := 649) g dL_refuses_646 (tgt := 653) (by decide) rfl (by omega) (fun h2 => ?_) (fun h2 => ?_)
    · refine V_bipush (q := 655) g dL_refuses_653 (by decide) rfl ?_
      refine V_iload_n (q := 656) g dL_refuses_655 rfl rfl ?_
      refine V_bipush (q := 658) g dL_refuses_656 (by decide) rfl ?_
      refine V_irem (q := 659) g dL_refuses_658 (by omega) (by omega) rfl ?_
      refine V_iadd (q := 660) g dL_refuses_659 rfl ?_
      exact V_lvw (lvLe_s (lvLe_s (lvLe_s (lvLe_s (lvLe_s (lvLe_s (lvLe_s (lvLe_n (lvLe_n lvLe_0))))))))) (hm1 _ _ (by omega) (hK.le (by omega)))
    · refine V_iconst (q := 650) g dL_refuses_649 rfl ?_
      refine V_goto g dL_refuses_650 (tgt := 660) (by decide) ?_
      exact V_lvw (lvLe_s (lvLe_s (lvLe_s (lvLe_s (lvLe_s (lvLe_s (lvLe_s (lvLe_n (lvLe_n lvLe_0))))))))) (hm1 _ _ (by omega) (hK.le (by omega)))
  intro t1 κ1 hp1 hK1
  refine V_u5 (q := 663) 1 (j) g (cq_13 l hfl hL hS.1 (by omega) (by omega) (by omega)) dL_refuses_660 k_L_192 rfl ⟨by decide, by decide⟩ (hK1.le (by omega)) rfl rfl (fun z3 M3 κ3 e3 hK3 => ?_)
  obtain ⟨e3, ho3, hf3⟩ := e3
  have hs3 : Sp M0 s (nShim σ 0 0 t1) M3 := ⟨ho3, hS.2.tr hf3⟩
  rw [show (nShim σ 0 0 t1) = σ from (by rw [nShim, if_neg (by omega)])] at hs3
  have e3 : z3 = -9999002 := by rw [e3, qShim, if_pos (by omega), if_neg (by omega)]
  refine V_ldc (q := 665) g dL_refuses_663 (z := (-9999002)) q_L_15 (by decide) rfl ?_
  refine V_icmp_ne (q := 668) g dL_refuses_665 (tgt := 733) (by decide) rfl (by omega) (by omega) (fun h4 => absurd h4 (by omega)) (fun h4 => ?_)
  exact k M3 κ3 hs3 (hK3.le (by omega))
set_option maxHeartbeats 4000000 in
set_option maxRecDepth 100000 in
theorem rf_31 (hfl : l.stackTraces = false) {x many floors no nn five : Int} (g : VOk Γ D Λ RL cL_refuses 9 l rm_L_refuses) (hL : ClsL D Λ s) (hC : RfC σ x many floors no nn five) (hS : Sp M0 s σ M) (hK : Kb κ rm_L_refuses (j + 1)) (k : ∀ (M1 : MM) (κ1 : Nat × Nat), Sp M0 s σ M1 → Kb κ1 rm_L_refuses j → V Γ D Λ M1 κ1 683 [some (.ref s), some (vi x), some (vi many), some (vi floors), some (vi no), some (vi nn), some (vi five), none, none] []) : V Γ D Λ M κ 668 [some (.ref s), some (vi x), some (vi many), some (vi floors), some (vi no), some (vi nn), some (vi five), none, none] [] := by
  obtain ⟨⟨hx1, hx2⟩, hm, hfl2, hno, hnn, hfi, hc0, hc1⟩ := id hC
  refine V_aload_n (q := 669) g dL_refuses_668 rfl rfl ?_
  refine V_bipush (q := 671) g dL_refuses_669 (by decide) rfl ?_
  refine V_iload (q := 673) g dL_refuses_671 rfl rfl ?_
  refine V_iconst (q := 674) g dL_refuses_673 rfl ?_
  refine V_iconst (q := 675) g dL_refuses_674 rfl ?_
  refine V_u5 (q := 678) 1 (j) g (cq_14 l hfl hL hS.1 (by omega)) dL_refuses_675 k_L_192 rfl ⟨by decide, by decide⟩ (hK.le (by omega)) rfl rfl (fun z1 M1 κ1 e1 hK1 => ?_)
  obtain ⟨e1, ho1, hf1⟩ := e1
  have hs1 : Sp M0 s (nTest σ no) M1 := ⟨ho1, hS.2.tr hf1⟩
  rw [show (nTest σ no) = σ from (by rw [nTest, if_neg (by omega)])] at hs1
  have e1 : z1 = -9999001 := by rw [e1, qTest, if_neg (by omega)]
  refine V_ldc (q := 680) g dL_refuses_678 (z := (-9999001)) q_L_44 (by decide) rfl ?_
  refine V_icmp_ne (q := 683) g dL_refuses_680 (tgt := 733) (by decide) rfl (by omega) (by omega) (fun h2 => absurd h2 (by omega)) (fun h2 => ?_)
  exact k M1 κ1 hs1 (hK1.le (by omega))
set_option maxHeartbeats 4000000 in
set_option maxRecDepth 100000 in
theorem rf_32 (hfl : l.stackTraces = false) {x many floors no nn five : Int} (g : VOk Γ D Λ RL cL_refuses 9 l rm_L_refuses) (hL : ClsL D Λ s) (hC : RfC σ x many floors no nn five) (hS : Sp M0 s σ M) (hK : Kb κ rm_L_refuses (j + 1)) (k : ∀ (M1 : MM) (κ1 : Nat × Nat), Sp M0 s σ M1 → Kb κ1 rm_L_refuses j → V Γ D Λ M1 κ1 698 [some (.ref s), some (vi x), some (vi many), some (vi floors), some (vi no), some (vi nn), some (vi five), none, none] []) : V Γ D Λ M κ 683 [some (.ref s), some (vi x), some (vi many), some (vi floors), some (vi no), some (vi nn), some (vi five), none, none] [] := by
  obtain ⟨⟨hx1, hx2⟩, hm, hfl2, hno, hnn, hfi, hc0, hc1⟩ := id hC
  refine V_aload_n (q := 684) g dL_refuses_683 rfl rfl ?_
  refine V_bipush (q := 686) g dL_refuses_684 (by decide) rfl ?_
  refine V_iload (q := 688) g dL_refuses_686 rfl rfl ?_
  refine V_iconst (q := 689) g dL_refuses_688 rfl ?_
  refine V_iconst (q := 690) g dL_refuses_689 rfl ?_
  refine V_u5 (q := 693) 1 (j) g (cq_15 l hfl hL hS.1 (by omega) (by omega)) dL_refuses_690 k_L_192 rfl ⟨by decide, by decide⟩ (hK.le (by omega)) rfl rfl (fun z1 M1 κ1 e1 hK1 => ?_)
  obtain ⟨e1, ho1, hf1⟩ := e1
  have hs1 : Sp M0 s (nSit σ no 0) M1 := ⟨ho1, hS.2.tr hf1⟩
  rw [show (nSit σ no 0) = σ from (by rw [nSit, if_neg (by omega)])] at hs1
  have e1 : z1 = -9999001 := by rw [e1, qSit, if_neg (by omega)]
  refine V_ldc (q := 695) g dL_refuses_693 (z := (-9999001)) q_L_44 (by decide) rfl ?_
  refine V_icmp_ne (q := 698) g dL_refuses_695 (tgt := 733) (by decide) rfl (by omega) (by omega) (fun h2 => absurd h2 (by omega)) (fun h2 => ?_)
  exact k M1 κ1 hs1 (hK1.le (by omega))
set_option maxHeartbeats 4000000 in
set_option maxRecDepth 100000 in
theorem rf_33 (hfl : l.stackTraces = false) {x many floors no nn five : Int} (g : VOk Γ D Λ RL cL_refuses 9 l rm_L_refuses) (hL : ClsL D Λ s) (hC : RfC σ x many floors no nn five) (hS : Sp M0 s σ M) (hK : Kb κ rm_L_refuses (j + 1)) (k : ∀ (M1 : MM) (κ1 : Nat × Nat), Sp M0 s σ M1 → Kb κ1 rm_L_refuses j → V Γ D Λ M1 κ1 729 [some (.ref s), some (vi x), some (vi many), some (vi floors), some (vi no), some (vi nn), some (vi five), none, none] []) : V Γ D Λ M κ 698 [some (.ref s), some (vi x), some (vi many), some (vi floors), some (vi no), some (vi nn), some (vi five), none, none] [] := by
  obtain ⟨⟨hx1, hx2⟩, hm, hfl2, hno, hnn, hfi, hc0, hc1⟩ := id hC
  refine V_aload_n (q := 699) g dL_refuses_698 rfl rfl ?_
  refine V_bipush (q := 701) g dL_refuses_699 (by decide) rfl ?_
  refine V_iconst (q := 702) g dL_refuses_701 rfl ?_
  refine V_iload_n (q := 703) g dL_refuses_702 rfl rfl ?_
  refine V_iconst (q := 704) g dL_refuses_703 rfl ?_
  refine V_irem (q := 705) g dL_refuses_704 (by omega) (by omega) rfl ?_
  suffices hm1 : ∀ (t1 : Int) (κ1 : Nat × Nat), (((x % 2) ≠ 0 ∧ t1 = 201 + (x % 9)) ∨ ((x % 2) = 0 ∧ t1 = 0)) → Kb κ1 rm_L_refuses (j + 1) → V Γ D Λ M κ1 720 [some (.ref s), some (vi x), some (vi many), some (vi floors), some (vi no), some (vi nn), some (vi five), none, none] [vi t1, vi 0, vi 15, .ref s] by
    refine V_if_ne (q := 708) g dL_refuses_705 (tgt := 712) (by decide) rfl (by omega) (fun h2 => ?_) (fun h2 => ?_)
    · refine V_sipush (q := 715) g dL_refuses_712 (by decide) rfl ?_
      refine V_iload_n (q := 716) g dL_refuses_715 rfl rfl ?_
      refine V_bipush (q := 718) g dL_refuses_716 (by decide) rfl ?_
      refine V_irem (q := 719) g dL_refuses_718 (by omega) (by omega) rfl ?_
      refine V_iadd (q := 720) g dL_refuses_719 rfl ?_
      exact V_lvw (lvLe_s (lvLe_s (lvLe_s (lvLe_s (lvLe_s (lvLe_s (lvLe_s (lvLe_n (lvLe_n lvLe_0))))))))) (hm1 _ _ (by omega) (hK.le (by omega)))
    · refine V_iconst (q := 709) g dL_refuses_708 rfl ?_
      refine V_goto g dL_refuses_709 (tgt := 720) (by decide) ?_
      exact V_lvw (lvLe_s (lvLe_s (lvLe_s (lvLe_s (lvLe_s (lvLe_s (lvLe_s (lvLe_n (lvLe_n lvLe_0))))))))) (hm1 _ _ (by omega) (hK.le (by omega)))
  intro t1 κ1 hp1 hK1
  refine V_iconst (q := 721) g dL_refuses_720 rfl ?_
  refine V_u5 (q := 724) 1 (j) g (cq_15 l hfl hL hS.1 (by omega) (by omega)) dL_refuses_721 k_L_192 rfl ⟨by decide, by decide⟩ (hK1.le (by omega)) rfl rfl (fun z3 M3 κ3 e3 hK3 => ?_)
  obtain ⟨e3, ho3, hf3⟩ := e3
  have hs3 : Sp M0 s (nSit σ 0 t1) M3 := ⟨ho3, hS.2.tr hf3⟩
  rw [show (nSit σ 0 t1) = σ from (by rw [nSit, if_neg (by omega)])] at hs3
  have e3 : z3 = -9999002 := by rw [e3, qSit, if_pos (by omega), if_neg (by omega)]
  refine V_ldc (q := 726) g dL_refuses_724 (z := (-9999002)) q_L_15 (by decide) rfl ?_
  refine V_icmp_ne (q := 729) g dL_refuses_726 (tgt := 733) (by decide) rfl (by omega) (by omega) (fun h4 => absurd h4 (by omega)) (fun h4 => ?_)
  exact k M3 κ3 hs3 (hK3.le (by omega))
set_option maxHeartbeats 4000000 in
set_option maxRecDepth 100000 in
theorem rf_34 (hfl : l.stackTraces = false) {x many floors no nn five : Int} (g : VOk Γ D Λ RL cL_refuses 9 l rm_L_refuses) (hL : ClsL D Λ s) (hC : RfC σ x many floors no nn five) (hS : Sp M0 s σ M) (hK : Kb κ rm_L_refuses (j + 1)) (k : ∀ (M1 : MM) (κ1 : Nat × Nat), Sp M0 s σ M1 → Kb κ1 rm_L_refuses j → V Γ D Λ M1 κ1 756 [some (.ref s), some (vi x), some (vi many), some (vi floors), some (vi no), some (vi nn), some (vi five), some (vi 1), none] []) : V Γ D Λ M κ 741 [some (.ref s), some (vi x), some (vi many), some (vi floors), some (vi no), some (vi nn), some (vi five), some (vi 1), none] [] := by
  obtain ⟨⟨hx1, hx2⟩, hm, hfl2, hno, hnn, hfi, hc0, hc1⟩ := id hC
  refine V_aload_n (q := 742) g dL_refuses_741 rfl rfl ?_
  refine V_bipush (q := 744) g dL_refuses_742 (by decide) rfl ?_
  refine V_iload (q := 746) g dL_refuses_744 rfl rfl ?_
  refine V_iconst (q := 747) g dL_refuses_746 rfl ?_
  refine V_iconst (q := 748) g dL_refuses_747 rfl ?_
  refine V_u5 (q := 751) 1 (j) g (cq_16 l hfl hL hS.1 (by omega) (by omega) (by omega)) dL_refuses_748 k_L_192 rfl ⟨by decide, by decide⟩ (hK.le (by omega)) rfl rfl (fun z1 M1 κ1 e1 hK1 => ?_)
  obtain ⟨e1, ho1, hf1⟩ := e1
  have hs1 : Sp M0 s (nBound σ five 0 0) M1 := ⟨ho1, hS.2.tr hf1⟩
  rw [show (nBound σ five 0 0) = σ from (by rw [nBound, if_neg (by omega)])] at hs1
  have e1 : z1 = -9999001 := by rw [e1, qBound, if_neg (by omega)]
  refine V_ldc (q := 753) g dL_refuses_751 (z := (-9999001)) q_L_44 (by decide) rfl ?_
  refine V_icmp_ne (q := 756) g dL_refuses_753 (tgt := 1161) (by decide) rfl (by omega) (by omega) (fun h2 => absurd h2 (by omega)) (fun h2 => ?_)
  exact k M1 κ1 hs1 (hK1.le (by omega))
set_option maxHeartbeats 4000000 in
set_option maxRecDepth 100000 in
theorem rf_35 (hfl : l.stackTraces = false) {x many floors no nn five : Int} (g : VOk Γ D Λ RL cL_refuses 9 l rm_L_refuses) (hL : ClsL D Λ s) (hC : RfC σ x many floors no nn five) (hS : Sp M0 s σ M) (hK : Kb κ rm_L_refuses (j + 1)) (k : ∀ (M1 : MM) (κ1 : Nat × Nat), Sp M0 s σ M1 → Kb κ1 rm_L_refuses j → V Γ D Λ M1 κ1 771 [some (.ref s), some (vi x), some (vi many), some (vi floors), some (vi no), some (vi nn), some (vi five), some (vi 1), none] []) : V Γ D Λ M κ 756 [some (.ref s), some (vi x), some (vi many), some (vi floors), some (vi no), some (vi nn), some (vi five), some (vi 1), none] [] := by
  obtain ⟨⟨hx1, hx2⟩, hm, hfl2, hno, hnn, hfi, hc0, hc1⟩ := id hC
  refine V_aload_n (q := 757) g dL_refuses_756 rfl rfl ?_
  refine V_bipush (q := 759) g dL_refuses_757 (by decide) rfl ?_
  refine V_iconst (q := 760) g dL_refuses_759 rfl ?_
  refine V_iload (q := 762) g dL_refuses_760 rfl rfl ?_
  refine V_iconst (q := 763) g dL_refuses_762 rfl ?_
  refine V_u5 (q := 766) 1 (j) g (cq_16 l hfl hL hS.1 (by omega) (by omega) (by omega)) dL_refuses_763 k_L_192 rfl ⟨by decide, by decide⟩ (hK.le (by omega)) rfl rfl (fun z1 M1 κ1 e1 hK1 => ?_)
  obtain ⟨e1, ho1, hf1⟩ := e1
  have hs1 : Sp M0 s (nBound σ 0 five 0) M1 := ⟨ho1, hS.2.tr hf1⟩
  rw [show (nBound σ 0 five 0) = σ from (by rw [nBound, if_neg (by omega)])] at hs1
  have e1 : z1 = -9999001 := by rw [e1, qBound, if_neg (by omega)]
  refine V_ldc (q := 768) g dL_refuses_766 (z := (-9999001)) q_L_44 (by decide) rfl ?_
  refine V_icmp_ne (q := 771) g dL_refuses_768 (tgt := 1161) (by decide) rfl (by omega) (by omega) (fun h2 => absurd h2 (by omega)) (fun h2 => ?_)
  exact k M1 κ1 hs1 (hK1.le (by omega))
set_option maxHeartbeats 4000000 in
set_option maxRecDepth 100000 in
theorem rf_36 (hfl : l.stackTraces = false) {x many floors no nn five : Int} (g : VOk Γ D Λ RL cL_refuses 9 l rm_L_refuses) (hL : ClsL D Λ s) (hC : RfC σ x many floors no nn five) (hS : Sp M0 s σ M) (hK : Kb κ rm_L_refuses (j + 1)) (k : ∀ (M1 : MM) (κ1 : Nat × Nat), Sp M0 s σ M1 → Kb κ1 rm_L_refuses j → V Γ D Λ M1 κ1 806 [some (.ref s), some (vi x), some (vi many), some (vi floors), some (vi no), some (vi nn), some (vi five), some (vi 1), none] []) : V Γ D Λ M κ 771 [some (.ref s), some (vi x), some (vi many), some (vi floors), some (vi no), some (vi nn), some (vi five), some (vi 1), none] [] := by
  obtain ⟨⟨hx1, hx2⟩, hm, hfl2, hno, hnn, hfi, hc0, hc1⟩ := id hC
  refine V_aload_n (q := 772) g dL_refuses_771 rfl rfl ?_
  refine V_bipush (q := 774) g dL_refuses_772 (by decide) rfl ?_
  refine V_iconst (q := 775) g dL_refuses_774 rfl ?_
  refine V_iload_n (q := 776) g dL_refuses_775 rfl rfl ?_
  refine V_iconst (q := 777) g dL_refuses_776 rfl ?_
  refine V_irem (q := 778) g dL_refuses_777 (by omega) (by omega) rfl ?_
  refine V_iload_n (q := 779) g dL_refuses_778 rfl rfl ?_
  refine V_iconst (q := 780) g dL_refuses_779 rfl ?_
  refine V_irem (q := 781) g dL_refuses_780 (by omega) (by omega) rfl ?_
  refine V_iconst (q := 782) g dL_refuses_781 rfl ?_
  suffices hm1 : ∀ (t1 : Int) (κ1 : Nat × Nat), (((x % 4) ≥ 2 ∧ t1 = 901 + (x % 9)) ∨ ((x % 4) < 2 ∧ t1 = 99)) → Kb κ1 rm_L_refuses (j + 1) → V Γ D Λ M κ1 798 [some (.ref s), some (vi x), some (vi many), some (vi floors), some (vi no), some (vi nn), some (vi five), some (vi 1), none] [vi t1, vi (x % 2), vi 0, vi 16, .ref s] by
    refine V_icmp_ge (q := 785) g dL_refuses_782 (tgt := 790) (by decide) rfl (by omega) (by omega) (fun h2 => ?_) (fun h2 => ?_)
    · refine V_sipush (q := 793) g dL_refuses_790 (by decide) rfl ?_
      refine V_iload_n (q := 794) g dL_refuses_793 rfl rfl ?_
      refine V_bipush (q := 796) g dL_refuses_794 (by decide) rfl ?_
      refine V_irem (q := 797) g dL_refuses_796 (by omega) (by omega) rfl ?_
      refine V_iadd (q := 798) g dL_refuses_797 rfl ?_
      exact V_lvw (lvLe_s (lvLe_s (lvLe_s (lvLe_s (lvLe_s (lvLe_s (lvLe_s (lvLe_s (lvLe_n lvLe_0))))))))) (hm1 _ _ (by omega) (hK.le (by omega)))
    · refine V_bipush (q := 787) g dL_refuses_785 (by decide) rfl ?_
      refine V_goto g dL_refuses_787 (tgt := 798) (by decide) ?_
      exact V_lvw (lvLe_s (lvLe_s (lvLe_s (lvLe_s (lvLe_s (lvLe_s (lvLe_s (lvLe_s (lvLe_n lvLe_0))))))))) (hm1 _ _ (by omega) (hK.le (by omega)))
  intro t1 κ1 hp1 hK1
  refine V_u5 (q := 801) 1 (j) g (cq_16 l hfl hL hS.1 (by omega) (by omega) (by omega)) dL_refuses_798 k_L_192 rfl ⟨by decide, by decide⟩ (hK1.le (by omega)) rfl rfl (fun z3 M3 κ3 e3 hK3 => ?_)
  obtain ⟨e3, ho3, hf3⟩ := e3
  have hs3 : Sp M0 s (nBound σ 0 (x % 2) t1) M3 := ⟨ho3, hS.2.tr hf3⟩
  rw [show (nBound σ 0 (x % 2) t1) = σ from (by rw [nBound, if_neg (by omega)])] at hs3
  have e3 : z3 = -9999002 := by rw [e3, qBound, if_pos (by omega), if_neg (by omega)]
  refine V_ldc (q := 803) g dL_refuses_801 (z := (-9999002)) q_L_15 (by decide) rfl ?_
  refine V_icmp_ne (q := 806) g dL_refuses_803 (tgt := 1161) (by decide) rfl (by omega) (by omega) (fun h4 => absurd h4 (by omega)) (fun h4 => ?_)
  exact k M3 κ3 hs3 (hK3.le (by omega))
set_option maxHeartbeats 4000000 in
set_option maxRecDepth 100000 in
theorem rf_37 (hfl : l.stackTraces = false) {x many floors no nn five : Int} (g : VOk Γ D Λ RL cL_refuses 9 l rm_L_refuses) (hL : ClsL D Λ s) (hC : RfC σ x many floors no nn five) (hS : Sp M0 s σ M) (hK : Kb κ rm_L_refuses (j + 1)) (k : ∀ (M1 : MM) (κ1 : Nat × Nat), Sp M0 s σ M1 → Kb κ1 rm_L_refuses j → V Γ D Λ M1 κ1 836 [some (.ref s), some (vi x), some (vi many), some (vi floors), some (vi no), some (vi nn), some (vi five), some (vi 1), none] []) : V Γ D Λ M κ 806 [some (.ref s), some (vi x), some (vi many), some (vi floors), some (vi no), some (vi nn), some (vi five), some (vi 1), none] [] := by
  obtain ⟨⟨hx1, hx2⟩, hm, hfl2, hno, hnn, hfi, hc0, hc1⟩ := id hC
  refine V_aload_n (q := 807) g dL_refuses_806 rfl rfl ?_
  refine V_bipush (q := 809) g dL_refuses_807 (by decide) rfl ?_
  refine V_iconst (q := 810) g dL_refuses_809 rfl ?_
  refine V_iconst (q := 811) g dL_refuses_810 rfl ?_
  refine V_iload_n (q := 812) g dL_refuses_811 rfl rfl ?_
  refine V_iconst (q := 813) g dL_refuses_812 rfl ?_
  refine V_irem (q := 814) g dL_refuses_813 (by omega) (by omega) rfl ?_
  suffices hm1 : ∀ (t1 : Int) (κ1 : Nat × Nat), (((x % 2) ≠ 0 ∧ t1 = 101 + (x % 9)) ∨ ((x % 2) = 0 ∧ t1 = (-1))) → Kb κ1 rm_L_refuses (j + 1) → V Γ D Λ M κ1 828 [some (.ref s), some (vi x), some (vi many), some (vi floors), some (vi no), some (vi nn), some (vi five), some (vi 1), none] [vi t1, vi 2, vi 0, vi 16, .ref s] by
    refine V_if_ne (q := 817) g dL_refuses_814 (tgt := 821) (by decide) rfl (by omega) (fun h2 => ?_) (fun h2 => ?_)
    · refine V_bipush (q := 823) g dL_refuses_821 (by decide) rfl ?_
      refine V_iload_n (q := 824) g dL_refuses_823 rfl rfl ?_
      refine V_bipush (q := 826) g dL_refuses_824 (by decide) rfl ?_
      refine V_irem (q := 827) g dL_refuses_826 (by omega) (by omega) rfl ?_
      refine V_iadd (q := 828) g dL_refuses_827 rfl ?_
      exact V_lvw (lvLe_s (lvLe_s (lvLe_s (lvLe_s (lvLe_s (lvLe_s (lvLe_s (lvLe_s (lvLe_n lvLe_0))))))))) (hm1 _ _ (by omega) (hK.le (by omega)))
    · refine V_iconst (q := 818) g dL_refuses_817 rfl ?_
      refine V_goto g dL_refuses_818 (tgt := 828) (by decide) ?_
      exact V_lvw (lvLe_s (lvLe_s (lvLe_s (lvLe_s (lvLe_s (lvLe_s (lvLe_s (lvLe_s (lvLe_n lvLe_0))))))))) (hm1 _ _ (by omega) (hK.le (by omega)))
  intro t1 κ1 hp1 hK1
  refine V_u5 (q := 831) 1 (j) g (cq_16 l hfl hL hS.1 (by omega) (by omega) (by omega)) dL_refuses_828 k_L_192 rfl ⟨by decide, by decide⟩ (hK1.le (by omega)) rfl rfl (fun z3 M3 κ3 e3 hK3 => ?_)
  obtain ⟨e3, ho3, hf3⟩ := e3
  have hs3 : Sp M0 s (nBound σ 0 2 t1) M3 := ⟨ho3, hS.2.tr hf3⟩
  rw [show (nBound σ 0 2 t1) = σ from (by rw [nBound, if_neg (by omega)])] at hs3
  have e3 : z3 = -9999002 := by rw [e3, qBound, if_pos (by omega), if_neg (by omega)]
  refine V_ldc (q := 833) g dL_refuses_831 (z := (-9999002)) q_L_15 (by decide) rfl ?_
  refine V_icmp_ne (q := 836) g dL_refuses_833 (tgt := 1161) (by decide) rfl (by omega) (by omega) (fun h4 => absurd h4 (by omega)) (fun h4 => ?_)
  exact k M3 κ3 hs3 (hK3.le (by omega))
set_option maxHeartbeats 4000000 in
set_option maxRecDepth 100000 in
theorem rf_38 (hfl : l.stackTraces = false) {x many floors no nn five : Int} (g : VOk Γ D Λ RL cL_refuses 9 l rm_L_refuses) (hL : ClsL D Λ s) (hC : RfC σ x many floors no nn five) (hS : Sp M0 s σ M) (hK : Kb κ rm_L_refuses (j + 1)) (k : ∀ (M1 : MM) (κ1 : Nat × Nat), Sp M0 s σ M1 → Kb κ1 rm_L_refuses j → V Γ D Λ M1 κ1 867 [some (.ref s), some (vi x), some (vi many), some (vi floors), some (vi no), some (vi nn), some (vi five), some (vi 1), none] []) : V Γ D Λ M κ 836 [some (.ref s), some (vi x), some (vi many), some (vi floors), some (vi no), some (vi nn), some (vi five), some (vi 1), none] [] := by
  obtain ⟨⟨hx1, hx2⟩, hm, hfl2, hno, hnn, hfi, hc0, hc1⟩ := id hC
  refine V_aload_n (q := 837) g dL_refuses_836 rfl rfl ?_
  refine V_bipush (q := 839) g dL_refuses_837 (by decide) rfl ?_
  refine V_iconst (q := 840) g dL_refuses_839 rfl ?_
  refine V_iconst (q := 841) g dL_refuses_840 rfl ?_
  refine V_iload_n (q := 842) g dL_refuses_841 rfl rfl ?_
  refine V_iconst (q := 843) g dL_refuses_842 rfl ?_
  refine V_irem (q := 844) g dL_refuses_843 (by omega) (by omega) rfl ?_
  suffices hm1 : ∀ (t1 : Int) (κ1 : Nat × Nat), (((x % 2) ≠ 0 ∧ t1 = 201 + (x % 9)) ∨ ((x % 2) = 0 ∧ t1 = (-1))) → Kb κ1 rm_L_refuses (j + 1) → V Γ D Λ M κ1 859 [some (.ref s), some (vi x), some (vi many), some (vi floors), some (vi no), some (vi nn), some (vi five), some (vi 1), none] [vi t1, vi 3, vi 0, vi 16, .ref s] by
    refine V_if_ne (q := 847) g dL_refuses_844 (tgt := 851) (by decide) rfl (by omega) (fun h2 => ?_) (fun h2 => ?_)
    · refine V_sipush (q := 854) g dL_refuses_851 (by decide) rfl ?_
      refine V_iload_n (q := 855) g dL_refuses_854 rfl rfl ?_
      refine V_bipush (q := 857) g dL_refuses_855 (by decide) rfl ?_
      refine V_irem (q := 858) g dL_refuses_857 (by omega) (by omega) rfl ?_
      refine V_iadd (q := 859) g dL_refuses_858 rfl ?_
      exact V_lvw (lvLe_s (lvLe_s (lvLe_s (lvLe_s (lvLe_s (lvLe_s (lvLe_s (lvLe_s (lvLe_n lvLe_0))))))))) (hm1 _ _ (by omega) (hK.le (by omega)))
    · refine V_iconst (q := 848) g dL_refuses_847 rfl ?_
      refine V_goto g dL_refuses_848 (tgt := 859) (by decide) ?_
      exact V_lvw (lvLe_s (lvLe_s (lvLe_s (lvLe_s (lvLe_s (lvLe_s (lvLe_s (lvLe_s (lvLe_n lvLe_0))))))))) (hm1 _ _ (by omega) (hK.le (by omega)))
  intro t1 κ1 hp1 hK1
  refine V_u5 (q := 862) 1 (j) g (cq_16 l hfl hL hS.1 (by omega) (by omega) (by omega)) dL_refuses_859 k_L_192 rfl ⟨by decide, by decide⟩ (hK1.le (by omega)) rfl rfl (fun z3 M3 κ3 e3 hK3 => ?_)
  obtain ⟨e3, ho3, hf3⟩ := e3
  have hs3 : Sp M0 s (nBound σ 0 3 t1) M3 := ⟨ho3, hS.2.tr hf3⟩
  rw [show (nBound σ 0 3 t1) = σ from (by rw [nBound, if_neg (by omega)])] at hs3
  have e3 : z3 = -9999002 := by rw [e3, qBound, if_pos (by omega), if_neg (by omega)]
  refine V_ldc (q := 864) g dL_refuses_862 (z := (-9999002)) q_L_15 (by decide) rfl ?_
  refine V_icmp_ne (q := 867) g dL_refuses_864 (tgt := 1161) (by decide) rfl (by omega) (by omega) (fun h4 => absurd h4 (by omega)) (fun h4 => ?_)
  exact k M3 κ3 hs3 (hK3.le (by omega))
set_option maxHeartbeats 4000000 in
set_option maxRecDepth 100000 in
theorem rf_39 (hfl : l.stackTraces = false) {x many floors no nn five : Int} (g : VOk Γ D Λ RL cL_refuses 9 l rm_L_refuses) (hL : ClsL D Λ s) (hC : RfC σ x many floors no nn five) (hS : Sp M0 s σ M) (hK : Kb κ rm_L_refuses (j + 1)) (k : ∀ (M1 : MM) (κ1 : Nat × Nat), Sp M0 s σ M1 → Kb κ1 rm_L_refuses j → V Γ D Λ M1 κ1 897 [some (.ref s), some (vi x), some (vi many), some (vi floors), some (vi no), some (vi nn), some (vi five), some (vi 1), none] []) : V Γ D Λ M κ 867 [some (.ref s), some (vi x), some (vi many), some (vi floors), some (vi no), some (vi nn), some (vi five), some (vi 1), none] [] := by
  obtain ⟨⟨hx1, hx2⟩, hm, hfl2, hno, hnn, hfi, hc0, hc1⟩ := id hC
  refine V_aload_n (q := 868) g dL_refuses_867 rfl rfl ?_
  refine V_bipush (q := 870) g dL_refuses_868 (by decide) rfl ?_
  refine V_iconst (q := 871) g dL_refuses_870 rfl ?_
  refine V_iload_n (q := 872) g dL_refuses_871 rfl rfl ?_
  refine V_iconst (q := 873) g dL_refuses_872 rfl ?_
  refine V_irem (q := 874) g dL_refuses_873 (by omega) (by omega) rfl ?_
  suffices hm1 : ∀ (t1 : Int) (κ1 : Nat × Nat), (((x % 2) ≠ 0 ∧ t1 = 51 + (x % 9)) ∨ ((x % 2) = 0 ∧ t1 = (-1))) → Kb κ1 rm_L_refuses (j + 1) → V Γ D Λ M κ1 888 [some (.ref s), some (vi x), some (vi many), some (vi floors), some (vi no), some (vi nn), some (vi five), some (vi 1), none] [vi t1, vi 0, vi 17, .ref s] by
    refine V_if_ne (q := 877) g dL_refuses_874 (tgt := 881) (by decide) rfl (by omega) (fun h2 => ?_) (fun h2 => ?_)
    · refine V_bipush (q := 883) g dL_refuses_881 (by decide) rfl ?_
      refine V_iload_n (q := 884) g dL_refuses_883 rfl rfl ?_
      refine V_bipush (q := 886) g dL_refuses_884 (by decide) rfl ?_
      refine V_irem (q := 887) g dL_refuses_886 (by omega) (by omega) rfl ?_
      refine V_iadd (q := 888) g dL_refuses_887 rfl ?_
      exact V_lvw (lvLe_s (lvLe_s (lvLe_s (lvLe_s (lvLe_s (lvLe_s (lvLe_s (lvLe_s (lvLe_n lvLe_0))))))))) (hm1 _ _ (by omega) (hK.le (by omega)))
    · refine V_iconst (q := 878) g dL_refuses_877 rfl ?_
      refine V_goto g dL_refuses_878 (tgt := 888) (by decide) ?_
      exact V_lvw (lvLe_s (lvLe_s (lvLe_s (lvLe_s (lvLe_s (lvLe_s (lvLe_s (lvLe_s (lvLe_n lvLe_0))))))))) (hm1 _ _ (by omega) (hK.le (by omega)))
  intro t1 κ1 hp1 hK1
  refine V_iconst (q := 889) g dL_refuses_888 rfl ?_
  refine V_u5 (q := 892) 1 (j) g (cq_17 l hfl hL hS.1 (by omega) (by omega)) dL_refuses_889 k_L_192 rfl ⟨by decide, by decide⟩ (hK1.le (by omega)) rfl rfl (fun z3 M3 κ3 e3 hK3 => ?_)
  obtain ⟨e3, ho3, hf3⟩ := e3
  have hs3 : Sp M0 s (nPut σ 0 t1) M3 := ⟨ho3, hS.2.tr hf3⟩
  rw [show (nPut σ 0 t1) = σ from (by rw [nPut, if_neg (by omega)])] at hs3
  have e3 : z3 = -9999002 := by rw [e3, qPut, if_neg (by omega)]
  refine V_ldc (q := 894) g dL_refuses_892 (z := (-9999002)) q_L_15 (by decide) rfl ?_
  refine V_icmp_ne (q := 897) g dL_refuses_894 (tgt := 1161) (by decide) rfl (by omega) (by omega) (fun h4 => absurd h4 (by omega)) (fun h4 => ?_)
  exact k M3 κ3 hs3 (hK3.le (by omega))
set_option maxHeartbeats 4000000 in
set_option maxRecDepth 100000 in
theorem rf_40 (hfl : l.stackTraces = false) {x many floors no nn five : Int} (g : VOk Γ D Λ RL cL_refuses 9 l rm_L_refuses) (hL : ClsL D Λ s) (hC : RfC σ x many floors no nn five) (hS : Sp M0 s σ M) (hK : Kb κ rm_L_refuses (j + 1)) (k : ∀ (M1 : MM) (κ1 : Nat × Nat), Sp M0 s σ M1 → Kb κ1 rm_L_refuses j → V Γ D Λ M1 κ1 928 [some (.ref s), some (vi x), some (vi many), some (vi floors), some (vi no), some (vi nn), some (vi five), some (vi 1), none] []) : V Γ D Λ M κ 897 [some (.ref s), some (vi x), some (vi many), some (vi floors), some (vi no), some (vi nn), some (vi five), some (vi 1), none] [] := by
  obtain ⟨⟨hx1, hx2⟩, hm, hfl2, hno, hnn, hfi, hc0, hc1⟩ := id hC
  refine V_aload_n (q := 898) g dL_refuses_897 rfl rfl ?_
  refine V_bipush (q := 900) g dL_refuses_898 (by decide) rfl ?_
  refine V_iconst (q := 901) g dL_refuses_900 rfl ?_
  refine V_iload_n (q := 902) g dL_refuses_901 rfl rfl ?_
  refine V_iconst (q := 903) g dL_refuses_902 rfl ?_
  refine V_irem (q := 904) g dL_refuses_903 (by omega) (by omega) rfl ?_
  suffices hm1 : ∀ (t1 : Int) (κ1 : Nat × Nat), (((x % 2) ≠ 0 ∧ t1 = 201 + (x % 9)) ∨ ((x % 2) = 0 ∧ t1 = 0)) → Kb κ1 rm_L_refuses (j + 1) → V Γ D Λ M κ1 919 [some (.ref s), some (vi x), some (vi many), some (vi floors), some (vi no), some (vi nn), some (vi five), some (vi 1), none] [vi t1, vi 1, vi 17, .ref s] by
    refine V_if_ne (q := 907) g dL_refuses_904 (tgt := 911) (by decide) rfl (by omega) (fun h2 => ?_) (fun h2 => ?_)
    · refine V_sipush (q := 914) g dL_refuses_911 (by decide) rfl ?_
      refine V_iload_n (q := 915) g dL_refuses_914 rfl rfl ?_
      refine V_bipush (q := 917) g dL_refuses_915 (by decide) rfl ?_
      refine V_irem (q := 918) g dL_refuses_917 (by omega) (by omega) rfl ?_
      refine V_iadd (q := 919) g dL_refuses_918 rfl ?_
      exact V_lvw (lvLe_s (lvLe_s (lvLe_s (lvLe_s (lvLe_s (lvLe_s (lvLe_s (lvLe_s (lvLe_n lvLe_0))))))))) (hm1 _ _ (by omega) (hK.le (by omega)))
    · refine V_iconst (q := 908) g dL_refuses_907 rfl ?_
      refine V_goto g dL_refuses_908 (tgt := 919) (by decide) ?_
      exact V_lvw (lvLe_s (lvLe_s (lvLe_s (lvLe_s (lvLe_s (lvLe_s (lvLe_s (lvLe_s (lvLe_n lvLe_0))))))))) (hm1 _ _ (by omega) (hK.le (by omega)))
  intro t1 κ1 hp1 hK1
  refine V_iconst (q := 920) g dL_refuses_919 rfl ?_
  refine V_u5 (q := 923) 1 (j) g (cq_17 l hfl hL hS.1 (by omega) (by omega)) dL_refuses_920 k_L_192 rfl ⟨by decide, by decide⟩ (hK1.le (by omega)) rfl rfl (fun z3 M3 κ3 e3 hK3 => ?_)
  obtain ⟨e3, ho3, hf3⟩ := e3
  have hs3 : Sp M0 s (nPut σ 1 t1) M3 := ⟨ho3, hS.2.tr hf3⟩
  rw [show (nPut σ 1 t1) = σ from (by rw [nPut, if_neg (by omega)])] at hs3
  have e3 : z3 = -9999002 := by rw [e3, qPut, if_neg (by omega)]
  refine V_ldc (q := 925) g dL_refuses_923 (z := (-9999002)) q_L_15 (by decide) rfl ?_
  refine V_icmp_ne (q := 928) g dL_refuses_925 (tgt := 1161) (by decide) rfl (by omega) (by omega) (fun h4 => absurd h4 (by omega)) (fun h4 => ?_)
  exact k M3 κ3 hs3 (hK3.le (by omega))
set_option maxHeartbeats 4000000 in
set_option maxRecDepth 100000 in
theorem rf_41 (hfl : l.stackTraces = false) {x many floors no nn five : Int} (g : VOk Γ D Λ RL cL_refuses 9 l rm_L_refuses) (hL : ClsL D Λ s) (hC : RfC σ x many floors no nn five) (hS : Sp M0 s σ M) (hK : Kb κ rm_L_refuses (j + 1)) (k : ∀ (M1 : MM) (κ1 : Nat × Nat), Sp M0 s σ M1 → Kb κ1 rm_L_refuses j → V Γ D Λ M1 κ1 947 [some (.ref s), some (vi x), some (vi many), some (vi floors), some (vi no), some (vi nn), some (vi five), some (vi 1), none] []) : V Γ D Λ M κ 928 [some (.ref s), some (vi x), some (vi many), some (vi floors), some (vi no), some (vi nn), some (vi five), some (vi 1), none] [] := by
  obtain ⟨⟨hx1, hx2⟩, hm, hfl2, hno, hnn, hfi, hc0, hc1⟩ := id hC
  refine V_aload_n (q := 929) g dL_refuses_928 rfl rfl ?_
  refine V_bipush (q := 931) g dL_refuses_929 (by decide) rfl ?_
  refine V_iconst (q := 932) g dL_refuses_931 rfl ?_
  refine V_iload_n (q := 933) g dL_refuses_932 rfl rfl ?_
  refine V_bipush (q := 935) g dL_refuses_933 (by decide) rfl ?_
  refine V_irem (q := 936) g dL_refuses_935 (by omega) (by omega) rfl ?_
  refine V_iadd (q := 937) g dL_refuses_936 rfl ?_
  refine V_iconst (q := 938) g dL_refuses_937 rfl ?_
  refine V_iconst (q := 939) g dL_refuses_938 rfl ?_
  refine V_u5 (q := 942) 1 (j) g (cq_17 l hfl hL hS.1 (by omega) (by omega)) dL_refuses_939 k_L_192 rfl ⟨by decide, by decide⟩ (hK.le (by omega)) rfl rfl (fun z1 M1 κ1 e1 hK1 => ?_)
  obtain ⟨e1, ho1, hf1⟩ := e1
  have hs1 : Sp M0 s (nPut σ (2 + (x % 9)) 5) M1 := ⟨ho1, hS.2.tr hf1⟩
  rw [show (nPut σ (2 + (x % 9)) 5) = σ from (by rw [nPut, if_neg (by omega)])] at hs1
  have e1 : z1 = -9999002 := by rw [e1, qPut, if_neg (by omega)]
  refine V_ldc (q := 944) g dL_refuses_942 (z := (-9999002)) q_L_15 (by decide) rfl ?_
  refine V_icmp_ne (q := 947) g dL_refuses_944 (tgt := 1161) (by decide) rfl (by omega) (by omega) (fun h2 => absurd h2 (by omega)) (fun h2 => ?_)
  exact k M1 κ1 hs1 (hK1.le (by omega))
set_option maxHeartbeats 4000000 in
set_option maxRecDepth 100000 in
theorem rf_42 (hfl : l.stackTraces = false) {x many floors no nn five : Int} (g : VOk Γ D Λ RL cL_refuses 9 l rm_L_refuses) (hL : ClsL D Λ s) (hC : RfC σ x many floors no nn five) (hS : Sp M0 s σ M) (hK : Kb κ rm_L_refuses (j + 1)) (k : ∀ (M1 : MM) (κ1 : Nat × Nat), Sp M0 s σ M1 → Kb κ1 rm_L_refuses j → V Γ D Λ M1 κ1 963 [some (.ref s), some (vi x), some (vi many), some (vi floors), some (vi no), some (vi nn), some (vi five), some (vi 1), none] []) : V Γ D Λ M κ 947 [some (.ref s), some (vi x), some (vi many), some (vi floors), some (vi no), some (vi nn), some (vi five), some (vi 1), none] [] := by
  obtain ⟨⟨hx1, hx2⟩, hm, hfl2, hno, hnn, hfi, hc0, hc1⟩ := id hC
  refine V_aload_n (q := 948) g dL_refuses_947 rfl rfl ?_
  refine V_bipush (q := 950) g dL_refuses_948 (by decide) rfl ?_
  refine V_iload (q := 952) g dL_refuses_950 rfl rfl ?_
  refine V_iconst (q := 953) g dL_refuses_952 rfl ?_
  refine V_bipush (q := 955) g dL_refuses_953 (by decide) rfl ?_
  refine V_u5 (q := 958) 1 (j) g (cq_19 l hfl hL hS.1 (by omega) (by omega) (by omega)) dL_refuses_955 k_L_192 rfl ⟨by decide, by decide⟩ (hK.le (by omega)) rfl rfl (fun z1 M1 κ1 e1 hK1 => ?_)
  obtain ⟨e1, rfl⟩ := e1
  have e1 : z1 = -9999001 := by rw [e1, qTurn, if_neg (by omega)]
  refine V_ldc (q := 960) g dL_refuses_958 (z := (-9999001)) q_L_44 (by decide) rfl ?_
  refine V_icmp_ne (q := 963) g dL_refuses_960 (tgt := 1161) (by decide) rfl (by omega) (by omega) (fun h2 => absurd h2 (by omega)) (fun h2 => ?_)
  exact k M κ1 hS (hK1.le (by omega))
set_option maxHeartbeats 4000000 in
set_option maxRecDepth 100000 in
theorem rf_43 (hfl : l.stackTraces = false) {x many floors no nn five : Int} (g : VOk Γ D Λ RL cL_refuses 9 l rm_L_refuses) (hL : ClsL D Λ s) (hC : RfC σ x many floors no nn five) (hS : Sp M0 s σ M) (hK : Kb κ rm_L_refuses (j + 1)) (k : ∀ (M1 : MM) (κ1 : Nat × Nat), Sp M0 s σ M1 → Kb κ1 rm_L_refuses j → V Γ D Λ M1 κ1 979 [some (.ref s), some (vi x), some (vi many), some (vi floors), some (vi no), some (vi nn), some (vi five), some (vi 1), none] []) : V Γ D Λ M κ 963 [some (.ref s), some (vi x), some (vi many), some (vi floors), some (vi no), some (vi nn), some (vi five), some (vi 1), none] [] := by
  obtain ⟨⟨hx1, hx2⟩, hm, hfl2, hno, hnn, hfi, hc0, hc1⟩ := id hC
  refine V_aload_n (q := 964) g dL_refuses_963 rfl rfl ?_
  refine V_bipush (q := 966) g dL_refuses_964 (by decide) rfl ?_
  refine V_iconst (q := 967) g dL_refuses_966 rfl ?_
  refine V_iload (q := 969) g dL_refuses_967 rfl rfl ?_
  refine V_bipush (q := 971) g dL_refuses_969 (by decide) rfl ?_
  refine V_u5 (q := 974) 1 (j) g (cq_19 l hfl hL hS.1 (by omega) (by omega) (by omega)) dL_refuses_971 k_L_192 rfl ⟨by decide, by decide⟩ (hK.le (by omega)) rfl rfl (fun z1 M1 κ1 e1 hK1 => ?_)
  obtain ⟨e1, rfl⟩ := e1
  have e1 : z1 = -9999001 := by rw [e1, qTurn, if_neg (by omega)]
  refine V_ldc (q := 976) g dL_refuses_974 (z := (-9999001)) q_L_44 (by decide) rfl ?_
  refine V_icmp_ne (q := 979) g dL_refuses_976 (tgt := 1161) (by decide) rfl (by omega) (by omega) (fun h2 => absurd h2 (by omega)) (fun h2 => ?_)
  exact k M κ1 hS (hK1.le (by omega))
set_option maxHeartbeats 4000000 in
set_option maxRecDepth 100000 in
theorem rf_44 (hfl : l.stackTraces = false) {x many floors no nn five : Int} (g : VOk Γ D Λ RL cL_refuses 9 l rm_L_refuses) (hL : ClsL D Λ s) (hC : RfC σ x many floors no nn five) (hS : Sp M0 s σ M) (hK : Kb κ rm_L_refuses (j + 1)) (k : ∀ (M1 : MM) (κ1 : Nat × Nat), Sp M0 s σ M1 → Kb κ1 rm_L_refuses j → V Γ D Λ M1 κ1 998 [some (.ref s), some (vi x), some (vi many), some (vi floors), some (vi no), some (vi nn), some (vi five), some (vi 1), none] []) : V Γ D Λ M κ 979 [some (.ref s), some (vi x), some (vi many), some (vi floors), some (vi no), some (vi nn), some (vi five), some (vi 1), none] [] := by
  obtain ⟨⟨hx1, hx2⟩, hm, hfl2, hno, hnn, hfi, hc0, hc1⟩ := id hC
  refine V_aload_n (q := 980) g dL_refuses_979 rfl rfl ?_
  refine V_bipush (q := 982) g dL_refuses_980 (by decide) rfl ?_
  refine V_iconst (q := 983) g dL_refuses_982 rfl ?_
  refine V_iconst (q := 984) g dL_refuses_983 rfl ?_
  refine V_iconst (q := 985) g dL_refuses_984 rfl ?_
  refine V_iload_n (q := 986) g dL_refuses_985 rfl rfl ?_
  refine V_bipush (q := 988) g dL_refuses_986 (by decide) rfl ?_
  refine V_irem (q := 989) g dL_refuses_988 (by omega) (by omega) rfl ?_
  refine V_iadd (q := 990) g dL_refuses_989 rfl ?_
  refine V_u5 (q := 993) 1 (j) g (cq_19 l hfl hL hS.1 (by omega) (by omega) (by omega)) dL_refuses_990 k_L_192 rfl ⟨by decide, by decide⟩ (hK.le (by omega)) rfl rfl (fun z1 M1 κ1 e1 hK1 => ?_)
  obtain ⟨e1, rfl⟩ := e1
  have e1 : z1 = -9999002 := by rw [e1, qTurn, if_pos (by omega), if_neg (by omega)]
  refine V_ldc (q := 995) g dL_refuses_993 (z := (-9999002)) q_L_15 (by decide) rfl ?_
  refine V_icmp_ne (q := 998) g dL_refuses_995 (tgt := 1161) (by decide) rfl (by omega) (by omega) (fun h2 => absurd h2 (by omega)) (fun h2 => ?_)
  exact k M κ1 hS (hK1.le (by omega))
set_option maxHeartbeats 4000000 in
set_option maxRecDepth 100000 in
theorem rf_45 (hfl : l.stackTraces = false) {x many floors no nn five : Int} (g : VOk Γ D Λ RL cL_refuses 9 l rm_L_refuses) (hL : ClsL D Λ s) (hC : RfC σ x many floors no nn five) (hS : Sp M0 s σ M) (hK : Kb κ rm_L_refuses (j + 1)) (k : ∀ (M1 : MM) (κ1 : Nat × Nat), Sp M0 s σ M1 → Kb κ1 rm_L_refuses j → V Γ D Λ M1 κ1 1013 [some (.ref s), some (vi x), some (vi many), some (vi floors), some (vi no), some (vi nn), some (vi five), some (vi 1), none] []) : V Γ D Λ M κ 998 [some (.ref s), some (vi x), some (vi many), some (vi floors), some (vi no), some (vi nn), some (vi five), some (vi 1), none] [] := by
  obtain ⟨⟨hx1, hx2⟩, hm, hfl2, hno, hnn, hfi, hc0, hc1⟩ := id hC
  refine V_aload_n (q := 999) g dL_refuses_998 rfl rfl ?_
  refine V_bipush (q := 1001) g dL_refuses_999 (by decide) rfl ?_
  refine V_iload (q := 1003) g dL_refuses_1001 rfl rfl ?_
  refine V_iconst (q := 1004) g dL_refuses_1003 rfl ?_
  refine V_iconst (q := 1005) g dL_refuses_1004 rfl ?_
  refine V_u5 (q := 1008) 1 (j) g (cq_20 l hfl hL hS.1 (by omega)) dL_refuses_1005 k_L_192 rfl ⟨by decide, by decide⟩ (hK.le (by omega)) rfl rfl (fun z1 M1 κ1 e1 hK1 => ?_)
  obtain ⟨e1, ho1, hf1⟩ := e1
  have hs1 : Sp M0 s σ M1 := ⟨ho1, hS.2.tr hf1⟩
  have e1 : z1 = -9999001 := by rw [e1, qBSaw, if_neg (by omega)]
  refine V_ldc (q := 1010) g dL_refuses_1008 (z := (-9999001)) q_L_44 (by decide) rfl ?_
  refine V_icmp_ne (q := 1013) g dL_refuses_1010 (tgt := 1161) (by decide) rfl (by omega) (by omega) (fun h2 => absurd h2 (by omega)) (fun h2 => ?_)
  exact k M1 κ1 hs1 (hK1.le (by omega))
set_option maxHeartbeats 4000000 in
set_option maxRecDepth 100000 in
theorem rf_46 (hfl : l.stackTraces = false) {x many floors no nn five : Int} (g : VOk Γ D Λ RL cL_refuses 9 l rm_L_refuses) (hL : ClsL D Λ s) (hC : RfC σ x many floors no nn five) (hS : Sp M0 s σ M) (hK : Kb κ rm_L_refuses (j + 1)) (k : ∀ (M1 : MM) (κ1 : Nat × Nat), Sp M0 s σ M1 → Kb κ1 rm_L_refuses j → V Γ D Λ M1 κ1 1028 [some (.ref s), some (vi x), some (vi many), some (vi floors), some (vi no), some (vi nn), some (vi five), some (vi 1), none] []) : V Γ D Λ M κ 1013 [some (.ref s), some (vi x), some (vi many), some (vi floors), some (vi no), some (vi nn), some (vi five), some (vi 1), none] [] := by
  obtain ⟨⟨hx1, hx2⟩, hm, hfl2, hno, hnn, hfi, hc0, hc1⟩ := id hC
  refine V_aload_n (q := 1014) g dL_refuses_1013 rfl rfl ?_
  refine V_bipush (q := 1016) g dL_refuses_1014 (by decide) rfl ?_
  refine V_iload (q := 1018) g dL_refuses_1016 rfl rfl ?_
  refine V_iconst (q := 1019) g dL_refuses_1018 rfl ?_
  refine V_iconst (q := 1020) g dL_refuses_1019 rfl ?_
  refine V_u5 (q := 1023) 1 (j) g (cq_21 l hfl hL hS.1 (by omega) (by omega)) dL_refuses_1020 k_L_192 rfl ⟨by decide, by decide⟩ (hK.le (by omega)) rfl rfl (fun z1 M1 κ1 e1 hK1 => ?_)
  obtain ⟨e1, ho1, hf1⟩ := e1
  have hs1 : Sp M0 s σ M1 := ⟨ho1, hS.2.tr hf1⟩
  have e1 : z1 = -9999001 := by rw [e1, qFails, if_neg (by omega)]
  refine V_ldc (q := 1025) g dL_refuses_1023 (z := (-9999001)) q_L_44 (by decide) rfl ?_
  refine V_icmp_ne (q := 1028) g dL_refuses_1025 (tgt := 1161) (by decide) rfl (by omega) (by omega) (fun h2 => absurd h2 (by omega)) (fun h2 => ?_)
  exact k M1 κ1 hs1 (hK1.le (by omega))
set_option maxHeartbeats 4000000 in
set_option maxRecDepth 100000 in
theorem rf_47 (hfl : l.stackTraces = false) {x many floors no nn five : Int} (g : VOk Γ D Λ RL cL_refuses 9 l rm_L_refuses) (hL : ClsL D Λ s) (hC : RfC σ x many floors no nn five) (hS : Sp M0 s σ M) (hK : Kb κ rm_L_refuses (j + 1)) (k : ∀ (M1 : MM) (κ1 : Nat × Nat), Sp M0 s σ M1 → Kb κ1 rm_L_refuses j → V Γ D Λ M1 κ1 1059 [some (.ref s), some (vi x), some (vi many), some (vi floors), some (vi no), some (vi nn), some (vi five), some (vi 1), none] []) : V Γ D Λ M κ 1028 [some (.ref s), some (vi x), some (vi many), some (vi floors), some (vi no), some (vi nn), some (vi five), some (vi 1), none] [] := by
  obtain ⟨⟨hx1, hx2⟩, hm, hfl2, hno, hnn, hfi, hc0, hc1⟩ := id hC
  refine V_aload_n (q := 1029) g dL_refuses_1028 rfl rfl ?_
  refine V_bipush (q := 1031) g dL_refuses_1029 (by decide) rfl ?_
  refine V_iconst (q := 1032) g dL_refuses_1031 rfl ?_
  refine V_iload_n (q := 1033) g dL_refuses_1032 rfl rfl ?_
  refine V_iconst (q := 1034) g dL_refuses_1033 rfl ?_
  refine V_irem (q := 1035) g dL_refuses_1034 (by omega) (by omega) rfl ?_
  suffices hm1 : ∀ (t1 : Int) (κ1 : Nat × Nat), (((x % 2) ≠ 0 ∧ t1 = 201 + (x % 9)) ∨ ((x % 2) = 0 ∧ t1 = 0)) → Kb κ1 rm_L_refuses (j + 1) → V Γ D Λ M κ1 1050 [some (.ref s), some (vi x), some (vi many), some (vi floors), some (vi no), some (vi nn), some (vi five), some (vi 1), none] [vi t1, vi 0, vi 21, .ref s] by
    refine V_if_ne (q := 1038) g dL_refuses_1035 (tgt := 1042) (by decide) rfl (by omega) (fun h2 => ?_) (fun h2 => ?_)
    · refine V_sipush (q := 1045) g dL_refuses_1042 (by decide) rfl ?_
      refine V_iload_n (q := 1046) g dL_refuses_1045 rfl rfl ?_
      refine V_bipush (q := 1048) g dL_refuses_1046 (by decide) rfl ?_
      refine V_irem (q := 1049) g dL_refuses_1048 (by omega) (by omega) rfl ?_
      refine V_iadd (q := 1050) g dL_refuses_1049 rfl ?_
      exact V_lvw (lvLe_s (lvLe_s (lvLe_s (lvLe_s (lvLe_s (lvLe_s (lvLe_s (lvLe_s (lvLe_n lvLe_0))))))))) (hm1 _ _ (by omega) (hK.le (by omega)))
    · refine V_iconst (q := 1039) g dL_refuses_1038 rfl ?_
      refine V_goto g dL_refuses_1039 (tgt := 1050) (by decide) ?_
      exact V_lvw (lvLe_s (lvLe_s (lvLe_s (lvLe_s (lvLe_s (lvLe_s (lvLe_s (lvLe_s (lvLe_n lvLe_0))))))))) (hm1 _ _ (by omega) (hK.le (by omega)))
  intro t1 κ1 hp1 hK1
  refine V_iconst (q := 1051) g dL_refuses_1050 rfl ?_
  refine V_u5 (q := 1054) 1 (j) g (cq_21 l hfl hL hS.1 (by omega) (by omega)) dL_refuses_1051 k_L_192 rfl ⟨by decide, by decide⟩ (hK1.le (by omega)) rfl rfl (fun z3 M3 κ3 e3 hK3 => ?_)
  obtain ⟨e3, ho3, hf3⟩ := e3
  have hs3 : Sp M0 s σ M3 := ⟨ho3, hS.2.tr hf3⟩
  have e3 : z3 = -9999002 := by rw [e3, qFails, if_pos (by omega), if_neg (by omega)]
  refine V_ldc (q := 1056) g dL_refuses_1054 (z := (-9999002)) q_L_15 (by decide) rfl ?_
  refine V_icmp_ne (q := 1059) g dL_refuses_1056 (tgt := 1161) (by decide) rfl (by omega) (by omega) (fun h4 => absurd h4 (by omega)) (fun h4 => ?_)
  exact k M3 κ3 hs3 (hK3.le (by omega))
set_option maxHeartbeats 4000000 in
set_option maxRecDepth 100000 in
theorem rf_48 (hfl : l.stackTraces = false) {x many floors no nn five : Int} (g : VOk Γ D Λ RL cL_refuses 9 l rm_L_refuses) (hL : ClsL D Λ s) (hC : RfC σ x many floors no nn five) (hS : Sp M0 s σ M) (hK : Kb κ rm_L_refuses (j + 1)) (k : ∀ (M1 : MM) (κ1 : Nat × Nat), Sp M0 s σ M1 → Kb κ1 rm_L_refuses j → V Γ D Λ M1 κ1 1074 [some (.ref s), some (vi x), some (vi many), some (vi floors), some (vi no), some (vi nn), some (vi five), some (vi 1), none] []) : V Γ D Λ M κ 1059 [some (.ref s), some (vi x), some (vi many), some (vi floors), some (vi no), some (vi nn), some (vi five), some (vi 1), none] [] := by
  obtain ⟨⟨hx1, hx2⟩, hm, hfl2, hno, hnn, hfi, hc0, hc1⟩ := id hC
  refine V_aload_n (q := 1060) g dL_refuses_1059 rfl rfl ?_
  refine V_bipush (q := 1062) g dL_refuses_1060 (by decide) rfl ?_
  refine V_iload (q := 1064) g dL_refuses_1062 rfl rfl ?_
  refine V_iconst (q := 1065) g dL_refuses_1064 rfl ?_
  refine V_iconst (q := 1066) g dL_refuses_1065 rfl ?_
  refine V_u5 (q := 1069) 1 (j) g (cq_22 l hfl hL hS.1 (by omega)) dL_refuses_1066 k_L_192 rfl ⟨by decide, by decide⟩ (hK.le (by omega)) rfl rfl (fun z1 M1 κ1 e1 hK1 => ?_)
  obtain ⟨e1, rfl⟩ := e1
  have e1 : z1 = -9999001 := by rw [e1, qBFloor, if_neg (by omega)]
  refine V_ldc (q := 1071) g dL_refuses_1069 (z := (-9999001)) q_L_44 (by decide) rfl ?_
  refine V_icmp_ne (q := 1074) g dL_refuses_1071 (tgt := 1161) (by decide) rfl (by omega) (by omega) (fun h2 => absurd h2 (by omega)) (fun h2 => ?_)
  exact k M κ1 hS (hK1.le (by omega))
set_option maxHeartbeats 4000000 in
set_option maxRecDepth 100000 in
theorem rf_49 (hfl : l.stackTraces = false) {x many floors no nn five : Int} (g : VOk Γ D Λ RL cL_refuses 9 l rm_L_refuses) (hL : ClsL D Λ s) (hC : RfC σ x many floors no nn five) (hS : Sp M0 s σ M) (hK : Kb κ rm_L_refuses (j + 1)) (k : ∀ (M1 : MM) (κ1 : Nat × Nat), Sp M0 s σ M1 → Kb κ1 rm_L_refuses j → V Γ D Λ M1 κ1 1093 [some (.ref s), some (vi x), some (vi many), some (vi floors), some (vi no), some (vi nn), some (vi five), some (vi 1), none] []) : V Γ D Λ M κ 1074 [some (.ref s), some (vi x), some (vi many), some (vi floors), some (vi no), some (vi nn), some (vi five), some (vi 1), none] [] := by
  obtain ⟨⟨hx1, hx2⟩, hm, hfl2, hno, hnn, hfi, hc0, hc1⟩ := id hC
  refine V_aload_n (q := 1075) g dL_refuses_1074 rfl rfl ?_
  refine V_bipush (q := 1077) g dL_refuses_1075 (by decide) rfl ?_
  refine V_iconst (q := 1078) g dL_refuses_1077 rfl ?_
  refine V_iload_n (q := 1079) g dL_refuses_1078 rfl rfl ?_
  refine V_bipush (q := 1081) g dL_refuses_1079 (by decide) rfl ?_
  refine V_irem (q := 1082) g dL_refuses_1081 (by omega) (by omega) rfl ?_
  refine V_iadd (q := 1083) g dL_refuses_1082 rfl ?_
  refine V_iconst (q := 1084) g dL_refuses_1083 rfl ?_
  refine V_iconst (q := 1085) g dL_refuses_1084 rfl ?_
  refine V_u5 (q := 1088) 1 (j) g (cq_23 l hfl hL hS.1 (by omega)) dL_refuses_1085 k_L_192 rfl ⟨by decide, by decide⟩ (hK.le (by omega)) rfl rfl (fun z1 M1 κ1 e1 hK1 => ?_)
  obtain ⟨e1, ho1, hf1⟩ := e1
  have hs1 : Sp M0 s (nKeep σ (2 + (x % 50))) M1 := ⟨ho1, hS.2.tr hf1⟩
  rw [show (nKeep σ (2 + (x % 50))) = σ from (by rw [nKeep, if_neg (by omega)])] at hs1
  have e1 : z1 = -9999001 := e1.trans (by rw [qKeep, if_neg (by omega)])
  refine V_ldc (q := 1090) g dL_refuses_1088 (z := (-9999001)) q_L_44 (by decide) rfl ?_
  refine V_icmp_ne (q := 1093) g dL_refuses_1090 (tgt := 1161) (by decide) rfl (by omega) (by omega) (fun h2 => absurd h2 (by omega)) (fun h2 => ?_)
  exact k M1 κ1 hs1 (hK1.le (by omega))
set_option maxHeartbeats 4000000 in
set_option maxRecDepth 100000 in
theorem rf_50 (hfl : l.stackTraces = false) {x many floors no nn five : Int} (g : VOk Γ D Λ RL cL_refuses 9 l rm_L_refuses) (hL : ClsL D Λ s) (hC : RfC σ x many floors no nn five) (hS : Sp M0 s σ M) (hK : Kb κ rm_L_refuses (j + 1)) (k : ∀ (M1 : MM) (κ1 : Nat × Nat), Sp M0 s σ M1 → Kb κ1 rm_L_refuses j → V Γ D Λ M1 κ1 1112 [some (.ref s), some (vi x), some (vi many), some (vi floors), some (vi no), some (vi nn), some (vi five), some (vi 1), none] []) : V Γ D Λ M κ 1093 [some (.ref s), some (vi x), some (vi many), some (vi floors), some (vi no), some (vi nn), some (vi five), some (vi 1), none] [] := by
  obtain ⟨⟨hx1, hx2⟩, hm, hfl2, hno, hnn, hfi, hc0, hc1⟩ := id hC
  refine V_aload_n (q := 1094) g dL_refuses_1093 rfl rfl ?_
  refine V_bipush (q := 1096) g dL_refuses_1094 (by decide) rfl ?_
  refine V_iconst (q := 1097) g dL_refuses_1096 rfl ?_
  refine V_iload_n (q := 1098) g dL_refuses_1097 rfl rfl ?_
  refine V_bipush (q := 1100) g dL_refuses_1098 (by decide) rfl ?_
  refine V_irem (q := 1101) g dL_refuses_1100 (by omega) (by omega) rfl ?_
  refine V_isub (q := 1102) g dL_refuses_1101 rfl ?_
  refine V_iconst (q := 1103) g dL_refuses_1102 rfl ?_
  refine V_iconst (q := 1104) g dL_refuses_1103 rfl ?_
  refine V_u5 (q := 1107) 1 (j) g (cq_24 l hfl hL hS.1 (by omega)) dL_refuses_1104 k_L_192 rfl ⟨by decide, by decide⟩ (hK.le (by omega)) rfl rfl (fun z1 M1 κ1 e1 hK1 => ?_)
  obtain ⟨e1, ho1, hf1⟩ := e1
  have hs1 : Sp M0 s (nBack σ ((-1) - (x % 9))) M1 := ⟨ho1, hS.2.tr hf1⟩
  rw [show (nBack σ ((-1) - (x % 9))) = σ from (by rw [nBack, if_neg (by omega)])] at hs1
  have e1 : z1 = -9999001 := e1.trans (by rw [qBack, if_neg (by omega)])
  refine V_ldc (q := 1109) g dL_refuses_1107 (z := (-9999001)) q_L_44 (by decide) rfl ?_
  refine V_icmp_ne (q := 1112) g dL_refuses_1109 (tgt := 1161) (by decide) rfl (by omega) (by omega) (fun h2 => absurd h2 (by omega)) (fun h2 => ?_)
  exact k M1 κ1 hs1 (hK1.le (by omega))
set_option maxHeartbeats 4000000 in
set_option maxRecDepth 100000 in
theorem rf_51 (hfl : l.stackTraces = false) {x many floors no nn five : Int} (g : VOk Γ D Λ RL cL_refuses 9 l rm_L_refuses) (hL : ClsL D Λ s) (hC : RfC σ x many floors no nn five) (hS : Sp M0 s σ M) (hK : Kb κ rm_L_refuses (j + 1)) (k : ∀ (M1 : MM) (κ1 : Nat × Nat), Sp M0 s σ M1 → Kb κ1 rm_L_refuses j → V Γ D Λ M1 κ1 1123 [some (.ref s), some (vi x), some (vi many), some (vi floors), some (vi no), some (vi nn), some (vi five), some (vi 1), none] []) : V Γ D Λ M κ 1112 [some (.ref s), some (vi x), some (vi many), some (vi floors), some (vi no), some (vi nn), some (vi five), some (vi 1), none] [] := by
  obtain ⟨⟨hx1, hx2⟩, hm, hfl2, hno, hnn, hfi, hc0, hc1⟩ := id hC
  refine V_aload_n (q := 1113) g dL_refuses_1112 rfl rfl ?_
  refine V_iconst (q := 1114) g dL_refuses_1113 rfl ?_
  refine V_lconst (q := 1115) g dL_refuses_1114 (z := 0) (by decide) rfl ?_
  refine V_uh3 (q := 1118) 1 (j) g (ch_doScript l hfl hL hS.1 (by omega) (by omega)) dL_refuses_1115 k_L_199 rfl ⟨by decide, by decide⟩ (hK.le (by omega)) rfl rfl (fun z1 M1 κ1 e1 hK1 => ?_)
  have e1 := w_runScript (fun h => by omega) e1
  obtain ⟨e1, rfl⟩ := e1
  refine V_ldc (q := 1120) g dL_refuses_1118 (z := (-9999002)) q_L_15 (by decide) rfl ?_
  refine V_icmp_ne (q := 1123) g dL_refuses_1120 (tgt := 1161) (by decide) rfl (by omega) (by omega) (fun h2 => absurd h2 (by omega)) (fun h2 => ?_)
  exact k M κ1 hS (hK1.le (by omega))
set_option maxHeartbeats 4000000 in
set_option maxRecDepth 100000 in
theorem rf_52 (hfl : l.stackTraces = false) {x many floors no nn five : Int} (g : VOk Γ D Λ RL cL_refuses 9 l rm_L_refuses) (hL : ClsL D Λ s) (hC : RfC σ x many floors no nn five) (hS : Sp M0 s σ M) (hK : Kb κ rm_L_refuses (j + 1)) (k : ∀ (M1 : MM) (κ1 : Nat × Nat), Sp M0 s σ M1 → Kb κ1 rm_L_refuses j → V Γ D Λ M1 κ1 1139 [some (.ref s), some (vi x), some (vi many), some (vi floors), some (vi no), some (vi nn), some (vi five), some (vi 1), none] []) : V Γ D Λ M κ 1123 [some (.ref s), some (vi x), some (vi many), some (vi floors), some (vi no), some (vi nn), some (vi five), some (vi 1), none] [] := by
  obtain ⟨⟨hx1, hx2⟩, hm, hfl2, hno, hnn, hfi, hc0, hc1⟩ := id hC
  refine V_aload_n (q := 1124) g dL_refuses_1123 rfl rfl ?_
  refine V_iconst (q := 1125) g dL_refuses_1124 rfl ?_
  refine V_ldc2 (q := 1128) g dL_refuses_1125 (z := 1000000) q_L_203 (by decide) rfl ?_
  refine V_iload_n (q := 1129) g dL_refuses_1128 rfl rfl ?_
  refine V_i2l (q := 1130) g dL_refuses_1129 (by omega) rfl ?_
  refine V_ladd (q := 1131) g dL_refuses_1130 rfl ?_
  refine V_uh3 (q := 1134) 1 (j) g (ch_doScript l hfl hL hS.1 (by omega) (by omega)) dL_refuses_1131 k_L_199 rfl ⟨by decide, by decide⟩ (hK.le (by omega)) rfl rfl (fun z1 M1 κ1 e1 hK1 => ?_)
  have e1 := w_runScript (fun h => by have h2 : (1000000 + x : Int) < 1000000 := h.2.2.2; omega) e1
  obtain ⟨e1, rfl⟩ := e1
  refine V_ldc (q := 1136) g dL_refuses_1134 (z := (-9999002)) q_L_15 (by decide) rfl ?_
  refine V_icmp_ne (q := 1139) g dL_refuses_1136 (tgt := 1161) (by decide) rfl (by omega) (by omega) (fun h2 => absurd h2 (by omega)) (fun h2 => ?_)
  exact k M κ1 hS (hK1.le (by omega))
set_option maxHeartbeats 4000000 in
set_option maxRecDepth 100000 in
theorem rf_53 (hfl : l.stackTraces = false) {x many floors no nn five : Int} (g : VOk Γ D Λ RL cL_refuses 9 l rm_L_refuses) (hL : ClsL D Λ s) (hC : RfC σ x many floors no nn five) (hS : Sp M0 s σ M) (hK : Kb κ rm_L_refuses (j + 1)) (k : ∀ (M1 : MM) (κ1 : Nat × Nat), Sp M0 s σ M1 → Kb κ1 rm_L_refuses j → V Γ D Λ M1 κ1 1157 [some (.ref s), some (vi x), some (vi many), some (vi floors), some (vi no), some (vi nn), some (vi five), some (vi 1), none] []) : V Γ D Λ M κ 1139 [some (.ref s), some (vi x), some (vi many), some (vi floors), some (vi no), some (vi nn), some (vi five), some (vi 1), none] [] := by
  obtain ⟨⟨hx1, hx2⟩, hm, hfl2, hno, hnn, hfi, hc0, hc1⟩ := id hC
  refine V_aload_n (q := 1140) g dL_refuses_1139 rfl rfl ?_
  refine V_iload_n (q := 1141) g dL_refuses_1140 rfl rfl ?_
  refine V_i2l (q := 1142) g dL_refuses_1141 (by omega) rfl ?_
  refine V_bipush (q := 1144) g dL_refuses_1142 (by decide) rfl ?_
  refine V_iload_n (q := 1145) g dL_refuses_1144 rfl rfl ?_
  refine V_bipush (q := 1147) g dL_refuses_1145 (by decide) rfl ?_
  refine V_irem (q := 1148) g dL_refuses_1147 (by omega) (by omega) rfl ?_
  refine V_iadd (q := 1149) g dL_refuses_1148 rfl ?_
  refine V_uh3 (q := 1152) 1 (j) g (ch_doSimulate l hfl hL hS.1 (by omega)) dL_refuses_1149 k_L_205 rfl ⟨by decide, by decide⟩ (hK.le (by omega)) rfl rfl (fun z1 M1 κ1 e1 hK1 => ?_)
  have e1 := w_simulate hS.1 e1
  obtain ⟨e1, ho1, hf1⟩ := e1
  have hs1 : Sp M0 s σ M1 := ⟨ho1, hS.2.tr hf1⟩
  have e1 : z1 = -9999002 := by rw [e1, qSim, if_neg (by omega)]
  refine V_ldc (q := 1154) g dL_refuses_1152 (z := (-9999002)) q_L_15 (by decide) rfl ?_
  refine V_icmp_ne (q := 1157) g dL_refuses_1154 (tgt := 1161) (by decide) rfl (by omega) (by omega) (fun h2 => absurd h2 (by omega)) (fun h2 => ?_)
  exact k M1 κ1 hs1 (hK1.le (by omega))
set_option maxHeartbeats 4000000 in
set_option maxRecDepth 100000 in
theorem rf_w (hfl : l.stackTraces = false) {x many floors no nn five leg : Int} (g : VOk Γ D Λ RL cL_refuses 9 l rm_L_refuses) (hL : ClsL D Λ s) (hC : RfC σ x many floors no nn five) (hl : 100 ≤ leg ∧ leg ≤ 900) (hle : leg = σ.1 (49 + 9 * 0 + 3)) (hS : Sp M0 s σ M) (hK : Kb κ rm_L_refuses (j + 1)) (k : ∀ (M1 : MM) (κ1 : Nat × Nat), Sp M0 s σ M1 → Kb κ1 rm_L_refuses j → V Γ D Λ M1 κ1 1201 [some (.ref s), some (vi x), some (vi many), some (vi floors), some (vi no), some (vi nn), some (vi five), some (vi 1), some (vi leg)] []) : V Γ D Λ M κ 1179 [some (.ref s), some (vi x), some (vi many), some (vi floors), some (vi no), some (vi nn), some (vi five), some (vi 1), some (vi leg)] [] := by
  obtain ⟨⟨hx1, hx2⟩, hm, hfl2, hno, hnn, hfi, hc0, hc1⟩ := id hC
  refine V_iload_n (q := 1180) g dL_refuses_1179 rfl rfl ?_
  refine V_bipush (q := 1182) g dL_refuses_1180 (by decide) rfl ?_
  refine V_icmp_lt (q := 1185) g dL_refuses_1182 (tgt := 1201) (by decide) rfl (by omega) (by omega) (fun h1 => ?_) (fun h1 => ?_)
  · exact k M κ hS (hK.le (by omega))
  · refine V_aload_n (q := 1186) g dL_refuses_1185 rfl rfl ?_
    refine V_bipush (q := 1188) g dL_refuses_1186 (by decide) rfl ?_
    refine V_iconst (q := 1189) g dL_refuses_1188 rfl ?_
    refine V_sipush (q := 1192) g dL_refuses_1189 (by decide) rfl ?_
    refine V_iconst (q := 1193) g dL_refuses_1192 rfl ?_
    refine V_u5 (q := 1196) 1 (j) g (cq_9 l hfl hL hS.1 (by omega) (by omega)) dL_refuses_1193 k_L_192 rfl ⟨by decide, by decide⟩ (hK.le (by omega)) rfl rfl (fun z2 M2 κ2 e2 hK2 => ?_)
    obtain ⟨e2, ho2, hf2⟩ := e2
    have hs2 : Sp M0 s (nComes σ 0 450) M2 := ⟨ho2, hS.2.tr hf2⟩
    rw [show (nComes σ 0 450) = σ from (by rw [nComes, if_neg (by omega)])] at hs2
    have e2 : z2 = -9999003 := by rw [e2, qComes, if_pos (by omega), if_pos (by omega), if_neg (by omega)]
    refine V_ldc (q := 1198) g dL_refuses_1196 (z := (-9999003)) q_L_18 (by decide) rfl ?_
    refine V_icmp_ne (q := 1201) g dL_refuses_1198 (tgt := 1272) (by decide) rfl (by omega) (by omega) (fun h3 => absurd h3 (by omega)) (fun h3 => ?_)
    exact k M2 κ2 hs2 (hK2.le (by omega))
set_option maxHeartbeats 4000000 in
set_option maxRecDepth 100000 in
theorem rf_x (hfl : l.stackTraces = false) {x many floors no nn five leg : Int} (g : VOk Γ D Λ RL cL_refuses 9 l rm_L_refuses) (hL : ClsL D Λ s) (hC : RfC σ x many floors no nn five) (hl : 100 ≤ leg ∧ leg ≤ 900) (hle : leg = σ.1 (49 + 9 * 0 + 3)) (hS : Sp M0 s σ M) (hK : Kb κ rm_L_refuses (j + 1)) (k : ∀ (M1 : MM) (κ1 : Nat × Nat), Sp M0 s σ M1 → Kb κ1 rm_L_refuses j → V Γ D Λ M1 κ1 1219 [some (.ref s), some (vi x), some (vi many), some (vi floors), some (vi no), some (vi nn), some (vi five), some (vi 1), some (vi leg)] []) : V Γ D Λ M κ 1201 [some (.ref s), some (vi x), some (vi many), some (vi floors), some (vi no), some (vi nn), some (vi five), some (vi 1), some (vi leg)] [] := by
  obtain ⟨⟨hx1, hx2⟩, hm, hfl2, hno, hnn, hfi, hc0, hc1⟩ := id hC
  refine V_iload_n (q := 1202) g dL_refuses_1201 rfl rfl ?_
  refine V_iconst (q := 1203) g dL_refuses_1202 rfl ?_
  refine V_icmp_lt (q := 1206) g dL_refuses_1203 (tgt := 1219) (by decide) rfl (by omega) (by omega) (fun h1 => ?_) (fun h1 => ?_)
  · exact k M κ hS (hK.le (by omega))
  · refine V_aload_n (q := 1207) g dL_refuses_1206 rfl rfl ?_
    refine V_iconst (q := 1208) g dL_refuses_1207 rfl ?_
    refine V_iconst (q := 1209) g dL_refuses_1208 rfl ?_
    refine V_iconst (q := 1210) g dL_refuses_1209 rfl ?_
    refine V_iconst (q := 1211) g dL_refuses_1210 rfl ?_
    refine V_uh5 (q := 1214) 1 (j) g (ch_floors l hfl hL hS.1 (by omega) (by omega) (by omega) (by omega)) dL_refuses_1211 k_L_196 rfl ⟨by decide, by decide⟩ (hK.le (by omega)) rfl rfl (fun z2 M2 κ2 e2 hK2 => ?_)
    have e2 := w_floor hS.1 e2
    obtain ⟨e2, ho2, hf2⟩ := e2
    have hs2 : Sp M0 s (nLay σ 1 2 3 4) M2 := ⟨ho2, hS.2.tr hf2⟩
    rw [show (nLay σ 1 2 3 4) = σ from (by rw [nLay, if_neg (by omega)])] at hs2
    have e2 : z2 = -9999003 := by rw [e2, qLay, if_pos (by omega), if_neg (by omega)]
    refine V_ldc (q := 1216) g dL_refuses_1214 (z := (-9999003)) q_L_18 (by decide) rfl ?_
    refine V_icmp_ne (q := 1219) g dL_refuses_1216 (tgt := 1272) (by decide) rfl (by omega) (by omega) (fun h3 => absurd h3 (by omega)) (fun h3 => ?_)
    exact k M2 κ2 hs2 (hK2.le (by omega))
set_option maxHeartbeats 4000000 in
set_option maxRecDepth 100000 in
theorem rf_y (hfl : l.stackTraces = false) {x many floors no nn five leg : Int} (g : VOk Γ D Λ RL cL_refuses 9 l rm_L_refuses) (hL : ClsL D Λ s) (hC : RfC σ x many floors no nn five) (hl : 100 ≤ leg ∧ leg ≤ 900) (hle : leg = σ.1 (49 + 9 * 0 + 3)) (hS : Sp M0 s σ M) (hK : Kb κ rm_L_refuses (j + 1)) (k : ∀ (M1 : MM) (κ1 : Nat × Nat), Sp M0 s σ M1 → Kb κ1 rm_L_refuses j → V Γ D Λ M1 κ1 1245 [some (.ref s), some (vi x), some (vi many), some (vi floors), some (vi no), some (vi nn), some (vi five), some (vi 1), some (vi leg)] []) : V Γ D Λ M κ 1219 [some (.ref s), some (vi x), some (vi many), some (vi floors), some (vi no), some (vi nn), some (vi five), some (vi 1), some (vi leg)] [] := by
  obtain ⟨⟨hx1, hx2⟩, hm, hfl2, hno, hnn, hfi, hc0, hc1⟩ := id hC
  refine V_iload (q := 1221) g dL_refuses_1219 rfl rfl ?_
  refine V_sipush (q := 1224) g dL_refuses_1221 (by decide) rfl ?_
  refine V_icmp_eq (q := 1227) g dL_refuses_1224 (tgt := 1245) (by decide) rfl (by omega) (by omega) (fun h1 => ?_) (fun h1 => ?_)
  · exact k M κ hS (hK.le (by omega))
  · refine V_aload_n (q := 1228) g dL_refuses_1227 rfl rfl ?_
    refine V_bipush (q := 1230) g dL_refuses_1228 (by decide) rfl ?_
    refine V_iconst (q := 1231) g dL_refuses_1230 rfl ?_
    refine V_iconst (q := 1232) g dL_refuses_1231 rfl ?_
    refine V_iload (q := 1234) g dL_refuses_1232 rfl rfl ?_
    refine V_bipush (q := 1236) g dL_refuses_1234 (by decide) rfl ?_
    refine V_isub (q := 1237) g dL_refuses_1236 rfl ?_
    refine V_u5 (q := 1240) 1 (j) g (cq_12 l hfl hL hS.1 (by omega) (by omega) (by omega)) dL_refuses_1237 k_L_192 rfl ⟨by decide, by decide⟩ (hK.le (by omega)) rfl rfl (fun z2 M2 κ2 e2 hK2 => ?_)
    obtain ⟨e2, ho2, hf2⟩ := e2
    have hs2 : Sp M0 s (nSaw σ 0 3 (leg - 99)) M2 := ⟨ho2, hS.2.tr hf2⟩
    rw [show (nSaw σ 0 3 (leg - 99)) = σ from (by rw [nSaw, if_neg (by omega)])] at hs2
    have e2 : z2 = -9999003 := by rw [e2, qSaw, if_pos (by omega), if_pos (by omega), if_neg (by omega)]
    refine V_ldc (q := 1242) g dL_refuses_1240 (z := (-9999003)) q_L_18 (by decide) rfl ?_
    refine V_icmp_ne (q := 1245) g dL_refuses_1242 (tgt := 1272) (by decide) rfl (by omega) (by omega) (fun h3 => absurd h3 (by omega)) (fun h3 => ?_)
    exact k M2 κ2 hs2 (hK2.le (by omega))
set_option maxHeartbeats 4000000 in
set_option maxRecDepth 100000 in
theorem rf_z (hfl : l.stackTraces = false) {x many floors no nn five leg : Int} (g : VOk Γ D Λ RL cL_refuses 9 l rm_L_refuses) (hL : ClsL D Λ s) (hC : RfC σ x many floors no nn five) (hl : 100 ≤ leg ∧ leg ≤ 900) (hle : leg = σ.1 (49 + 9 * 0 + 3)) (hS : Sp M0 s σ M) (hK : Kb κ rm_L_refuses (j + 1)) (k : ∀ (M1 : MM) (κ1 : Nat × Nat), Sp M0 s σ M1 → Kb κ1 rm_L_refuses j → V Γ D Λ M1 κ1 1268 [some (.ref s), some (vi x), some (vi many), some (vi floors), some (vi no), some (vi nn), some (vi five), some (vi 1), some (vi leg)] []) : V Γ D Λ M κ 1245 [some (.ref s), some (vi x), some (vi many), some (vi floors), some (vi no), some (vi nn), some (vi five), some (vi 1), some (vi leg)] [] := by
  obtain ⟨⟨hx1, hx2⟩, hm, hfl2, hno, hnn, hfi, hc0, hc1⟩ := id hC
  refine V_iload (q := 1247) g dL_refuses_1245 rfl rfl ?_
  refine V_sipush (q := 1250) g dL_refuses_1247 (by decide) rfl ?_
  refine V_icmp_lt (q := 1253) g dL_refuses_1250 (tgt := 1268) (by decide) rfl (by omega) (by omega) (fun h1 => ?_) (fun h1 => ?_)
  · exact k M κ hS (hK.le (by omega))
  · refine V_aload_n (q := 1254) g dL_refuses_1253 rfl rfl ?_
    refine V_bipush (q := 1256) g dL_refuses_1254 (by decide) rfl ?_
    refine V_iconst (q := 1257) g dL_refuses_1256 rfl ?_
    refine V_iconst (q := 1258) g dL_refuses_1257 rfl ?_
    refine V_bipush (q := 1260) g dL_refuses_1258 (by decide) rfl ?_
    refine V_u5 (q := 1263) 1 (j) g (cq_13 l hfl hL hS.1 (by omega) (by omega) (by omega)) dL_refuses_1260 k_L_192 rfl ⟨by decide, by decide⟩ (hK.le (by omega)) rfl rfl (fun z2 M2 κ2 e2 hK2 => ?_)
    obtain ⟨e2, ho2, hf2⟩ := e2
    have hs2 : Sp M0 s (nShim σ 0 3 99) M2 := ⟨ho2, hS.2.tr hf2⟩
    rw [show (nShim σ 0 3 99) = σ from (by rw [nShim, if_neg (by omega)])] at hs2
    have e2 : z2 = -9999003 := by rw [e2, qShim, if_pos (by omega), if_pos (by omega), if_neg (by omega)]
    refine V_ldc (q := 1265) g dL_refuses_1263 (z := (-9999003)) q_L_18 (by decide) rfl ?_
    refine V_icmp_ne (q := 1268) g dL_refuses_1265 (tgt := 1272) (by decide) rfl (by omega) (by omega) (fun h3 => absurd h3 (by omega)) (fun h3 => ?_)
    exact k M2 κ2 hs2 (hK2.le (by omega))
end RF
set_option maxHeartbeats 4000000 in
set_option maxRecDepth 100000 in
/-- every call is refused, and nothing changes -/
theorem c_L_refuses (l : Launch) (hfl : l.stackTraces = false) {D : DD} {Λ : LY} {M : MM} {s : Nat} {σ : SG} {x : Int} (hL : ClsL D Λ s) (hO : Os M s σ) (hx : 0 ≤ x ∧ x < 100000) (h1c : 1 ≤ σ.1 0) : CXI l yL_refuses cL_refuses 9 .boolean rm_L_refuses [.ref s, vi x] D Λ M (fun z M1 => z = 1 ∧ Sp M s σ M1) (fun _ _ => False) := by
  refine CXI_of rfl rfl (Nat.le_of_ble_eq_true rfl) (fun Γ g r => ?_)
  have hK : Kb (0, 0) rm_L_refuses 80 := ⟨by decide, by decide⟩
  have hS : Sp M s σ M := ⟨hO, Fr.rf⟩
  have hI := hO.1.2
  have hl := (hI.2.2.2.2.2.2 0 (by omega) (by omega)).2.2.2.2 3 (by decide) (by decide)
  refine rf_A (j := 78) hfl g hL hx h1c hS (hK.le (by omega)) (fun many floors no nn five M1 κ1 hC hS hK => ?_)
  refine rf_1 (j := 77) hfl g hL hC hS (hK.le (by omega)) (fun M1 κ1 hS hK => ?_)
  refine rf_2 (j := 76) hfl g hL hC hS (hK.le (by omega)) (fun M1 κ1 hS hK => ?_)
  refine rf_3 (j := 75) hfl g hL hC hS (hK.le (by omega)) (fun M1 κ1 hS hK => ?_)
  refine rf_4 (j := 74) hfl g hL hC hS (hK.le (by omega)) (fun M1 κ1 hS hK => ?_)
  refine rf_5 (j := 73) hfl g hL hC hS (hK.le (by omega)) (fun M1 κ1 hS hK => ?_)
  refine rf_6 (j := 72) hfl g hL hC hS (hK.le (by omega)) (fun M1 κ1 hS hK => ?_)
  refine rf_7 (j := 71) hfl g hL hC hS (hK.le (by omega)) (fun M1 κ1 hS hK => ?_)
  refine rf_8 (j := 70) hfl g hL hC hS (hK.le (by omega)) (fun M1 κ1 hS hK => ?_)
  refine rf_9 (j := 69) hfl g hL hC hS (hK.le (by omega)) (fun M1 κ1 hS hK => ?_)
  refine rf_10 (j := 68) hfl g hL hC hS (hK.le (by omega)) (fun M1 κ1 hS hK => ?_)
  refine rf_11 (j := 67) hfl g hL hC hS (hK.le (by omega)) (fun M1 κ1 hS hK => ?_)
  refine rf_12 (j := 66) hfl g hL hC hS (hK.le (by omega)) (fun M1 κ1 hS hK => ?_)
  refine rf_13 (j := 65) hfl g hL hC hS (hK.le (by omega)) (fun M1 κ1 hS hK => ?_)
  refine rf_14 (j := 64) hfl g hL hC hS (hK.le (by omega)) (fun M1 κ1 hS hK => ?_)
  refine rf_15 (j := 63) hfl g hL hC hS (hK.le (by omega)) (fun M1 κ1 hS hK => ?_)
  refine rf_16 (j := 62) hfl g hL hC hS (hK.le (by omega)) (fun M1 κ1 hS hK => ?_)
  refine rf_17 (j := 61) hfl g hL hC hS (hK.le (by omega)) (fun M1 κ1 hS hK => ?_)
  refine rf_18 (j := 60) hfl g hL hC hS (hK.le (by omega)) (fun M1 κ1 hS hK => ?_)
  refine rf_19 (j := 59) hfl g hL hC hS (hK.le (by omega)) (fun M1 κ1 hS hK => ?_)
  refine rf_20 (j := 58) hfl g hL hC hS (hK.le (by omega)) (fun M1 κ1 hS hK => ?_)
  refine rf_21 (j := 57) hfl g hL hC hS (hK.le (by omega)) (fun M1 κ1 hS hK => ?_)
  refine rf_22 (j := 56) hfl g hL hC hS (hK.le (by omega)) (fun M1 κ1 hS hK => ?_)
  refine rf_23 (j := 55) hfl g hL hC hS (hK.le (by omega)) (fun M1 κ1 hS hK => ?_)
  refine rf_24 (j := 54) hfl g hL hC hS (hK.le (by omega)) (fun M1 κ1 hS hK => ?_)
  refine rf_25 (j := 53) hfl g hL hC hS (hK.le (by omega)) (fun M1 κ1 hS hK => ?_)
  refine rf_26 (j := 52) hfl g hL hC hS (hK.le (by omega)) (fun M1 κ1 hS hK => ?_)
  refine rf_27 (j := 51) hfl g hL hC hS (hK.le (by omega)) (fun M1 κ1 hS hK => ?_)
  refine rf_28 (j := 50) hfl g hL hC hS (hK.le (by omega)) (fun M1 κ1 hS hK => ?_)
  refine rf_29 (j := 49) hfl g hL hC hS (hK.le (by omega)) (fun M1 κ1 hS hK => ?_)
  refine rf_30 (j := 48) hfl g hL hC hS (hK.le (by omega)) (fun M1 κ1 hS hK => ?_)
  refine rf_31 (j := 47) hfl g hL hC hS (hK.le (by omega)) (fun M1 κ1 hS hK => ?_)
  refine rf_32 (j := 46) hfl g hL hC hS (hK.le (by omega)) (fun M1 κ1 hS hK => ?_)
  refine rf_33 (j := 45) hfl g hL hC hS (hK.le (by omega)) (fun M1 κ1 hS hK => ?_)
  refine V_iconst (q := 730) g dL_refuses_729 rfl ?_
  refine V_goto g dL_refuses_730 (tgt := 734) (by decide) ?_
  refine V_istore_7 (q := 736) g dL_refuses_734 (by decide) rfl rfl ?_
  refine V_iload (q := 738) g dL_refuses_736 rfl rfl ?_
  refine V_if_eq (q := 741) g dL_refuses_738 (tgt := 1161) (by decide) rfl (by omega) (fun h501 => absurd h501 (by omega)) (fun h501 => ?_)
  refine rf_34 (j := 44) hfl g hL hC hS (hK.le (by omega)) (fun M1 κ1 hS hK => ?_)
  refine rf_35 (j := 43) hfl g hL hC hS (hK.le (by omega)) (fun M1 κ1 hS hK => ?_)
  refine rf_36 (j := 42) hfl g hL hC hS (hK.le (by omega)) (fun M1 κ1 hS hK => ?_)
  refine rf_37 (j := 41) hfl g hL hC hS (hK.le (by omega)) (fun M1 κ1 hS hK => ?_)
  refine rf_38 (j := 40) hfl g hL hC hS (hK.le (by omega)) (fun M1 κ1 hS hK => ?_)
  refine rf_39 (j := 39) hfl g hL hC hS (hK.le (by omega)) (fun M1 κ1 hS hK => ?_)
  refine rf_40 (j := 38) hfl g hL hC hS (hK.le (by omega)) (fun M1 κ1 hS hK => ?_)
  refine rf_41 (j := 37) hfl g hL hC hS (hK.le (by omega)) (fun M1 κ1 hS hK => ?_)
  refine rf_42 (j := 36) hfl g hL hC hS (hK.le (by omega)) (fun M1 κ1 hS hK => ?_)
  refine rf_43 (j := 35) hfl g hL hC hS (hK.le (by omega)) (fun M1 κ1 hS hK => ?_)
  refine rf_44 (j := 34) hfl g hL hC hS (hK.le (by omega)) (fun M1 κ1 hS hK => ?_)
  refine rf_45 (j := 33) hfl g hL hC hS (hK.le (by omega)) (fun M1 κ1 hS hK => ?_)
  refine rf_46 (j := 32) hfl g hL hC hS (hK.le (by omega)) (fun M1 κ1 hS hK => ?_)
  refine rf_47 (j := 31) hfl g hL hC hS (hK.le (by omega)) (fun M1 κ1 hS hK => ?_)
  refine rf_48 (j := 30) hfl g hL hC hS (hK.le (by omega)) (fun M1 κ1 hS hK => ?_)
  refine rf_49 (j := 29) hfl g hL hC hS (hK.le (by omega)) (fun M1 κ1 hS hK => ?_)
  refine rf_50 (j := 28) hfl g hL hC hS (hK.le (by omega)) (fun M1 κ1 hS hK => ?_)
  refine rf_51 (j := 27) hfl g hL hC hS (hK.le (by omega)) (fun M1 κ1 hS hK => ?_)
  refine rf_52 (j := 26) hfl g hL hC hS (hK.le (by omega)) (fun M1 κ1 hS hK => ?_)
  refine rf_53 (j := 25) hfl g hL hC hS (hK.le (by omega)) (fun M1 κ1 hS hK => ?_)
  refine V_iconst (q := 1158) g dL_refuses_1157 rfl ?_
  refine V_goto g dL_refuses_1158 (tgt := 1162) (by decide) ?_
  refine V_istore_7 (q := 1164) g dL_refuses_1162 (by decide) rfl rfl ?_
  refine V_aload_n (q := 1165) g dL_refuses_1164 rfl rfl ?_
  refine V_iconst (q := 1166) g dL_refuses_1165 rfl ?_
  refine V_iconst (q := 1167) g dL_refuses_1166 rfl ?_
  refine V_iconst (q := 1168) g dL_refuses_1167 rfl ?_
  refine V_iconst (q := 1169) g dL_refuses_1168 rfl ?_
  refine V_u5 (q := 1172) 1 (0 + 24) g (cq_5 l hfl hL hS.1 (by omega) (by omega) (by omega)) dL_refuses_1169 k_L_192 rfl ⟨by decide, by decide⟩ (hK.le (by omega)) rfl rfl (fun z501 M501 κ501 e501 hK501 => ?_)
  obtain ⟨e501, rfl⟩ := e501
  have e501 : z501 = σ.1 (49 + 9 * 0 + 3) := e501.trans (qLg_0 (by omega) (by decide))
  have hl9 : 100 ≤ z501 ∧ z501 ≤ 900 := by rw [e501]; exact hl
  refine V_istore_8 (q := 1174) g dL_refuses_1172 (by decide) rfl rfl ?_
  refine V_iload (q := 1176) g dL_refuses_1174 rfl rfl ?_
  refine V_if_eq (q := 1179) g dL_refuses_1176 (tgt := 1272) (by decide) rfl (by omega) (fun h502 => absurd h502 (by omega)) (fun h502 => ?_)
  have hS := hS
  refine rf_w (j := 23) hfl g hL hC hl9 e501 hS (hK501.le (by omega)) (fun M1 κ1 hS hK => ?_)
  refine rf_x (j := 22) hfl g hL hC hl9 e501 hS (hK.le (by omega)) (fun M1 κ1 hS hK => ?_)
  refine rf_y (j := 21) hfl g hL hC hl9 e501 hS (hK.le (by omega)) (fun M1 κ1 hS hK => ?_)
  refine rf_z (j := 20) hfl g hL hC hl9 e501 hS (hK.le (by omega)) (fun M1 κ1 hS hK => ?_)
  refine V_iconst (q := 1269) g dL_refuses_1268 rfl ?_
  refine V_goto g dL_refuses_1269 (tgt := 1273) (by decide) ?_
  exact V_r0 g r hK dL_refuses_1273 rfl ⟨rfl, hS⟩
