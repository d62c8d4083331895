abbrev rm_L_holds : Room := { frames := 10, cells := 1440, slots := 8640, locals := 220 }
section HD
variable {Γ : VG} {D : DD} {Λ : LY} {l : Launch} {s j : Nat} {M M0 : MM} {κ : Nat × Nat} {σ : SG}
set_option maxHeartbeats 8000000 in
set_option maxRecDepth 100000 in
theorem hd_top (hfl : l.stackTraces = false) {x st si set c : Int} (g : VOk Γ D Λ RL cL_holds 23 l rm_L_holds) (hL : ClsL D Λ s) (hc : 0 ≤ c ∧ c < σ.1 0) (hx : 0 ≤ x ∧ x < 2147483648) (hS : Sp M0 s σ M) (hK : Kb κ rm_L_holds (j + 10)) (k9 : ∀ (M1 : MM) (κ1 : Nat × Nat), Sp M0 s σ M1 → Kb κ1 rm_L_holds j → V Γ D Λ M1 κ1 178 [some (.ref s), some (vi x), some (vi (σ.1 0)), some (vi (st + σ.1 (47 + 9 * c))), some (vi (si + σ.1 (48 + 9 * c))), some (vi set), some (vi 1), some (vi c), some (vi (σ.1 (44 + 9 * c))), some (vi (σ.1 (45 + 9 * c))), some (vi (σ.1 (46 + 9 * c))), some (vi (sWn σ.1 c)), some (vi (sLn σ.1 c)), some (vi (sSeat σ.1 c)), some (vi (sIdle σ.1 c)), some (vi (sWhy σ.1 c)), some (vi 0), some (vi 9999), some (vi 0), some (vi 0), none, none, none] []) : V Γ D Λ M κ 36 [some (.ref s), some (vi x), some (vi (σ.1 0)), some (vi st), some (vi si), some (vi set), some (vi 1), some (vi c), none, none, none, none, none, none, none, none, none, none, none, none, none, none, none] [] := by
  have hI := hS.1.1.2
  have hN := hI.1
  have hF := hI.2.1
  obtain ⟨hg9, hf9, hq9, hs9, hl9⟩ := hI.2.2.2.2.2.2 c hc.1 hc.2
  refine V_iload (q := 38) g dL_holds_36 rfl rfl ?_
  refine V_iload_n (q := 39) g dL_holds_38 rfl rfl ?_
  refine V_icmp_ge (q := 42) g dL_holds_39 (tgt := 615) (by decide) rfl (by omega) (by omega) (fun h1 => absurd h1 (by omega)) (fun h1 => ?_)
  refine V_iload (q := 44) g dL_holds_42 rfl rfl ?_
  refine V_if_eq (q := 47) g dL_holds_44 (tgt := 615) (by decide) rfl (by omega) (fun h2 => absurd h2 (by omega)) (fun h2 => ?_)
  refine V_aload_n (q := 48) g dL_holds_47 rfl rfl ?_
  refine V_iconst (q := 49) g dL_holds_48 rfl ?_
  refine V_iload (q := 51) g dL_holds_49 rfl rfl ?_
  refine V_iconst (q := 52) g dL_holds_51 rfl ?_
  refine V_iconst (q := 53) g dL_holds_52 rfl ?_
  refine V_u5 (q := 56) 1 (j + 9) g (cq_3 l hfl hL hS.1 (by omega) (by omega)) dL_holds_53 k_L_192 rfl ⟨by decide, by decide⟩ (hK.le (by omega)) rfl rfl (fun z3 M3 κ3 e3 hK3 => ?_)
  obtain ⟨e3, rfl⟩ := e3
  have e3 : z3 = σ.1 (44 + 9 * c) := e3.trans (qCh_0 hc)
  subst e3
  refine V_istore_8 (q := 58) g dL_holds_56 (by decide) rfl rfl ?_
  refine V_aload_n (q := 59) g dL_holds_58 rfl rfl ?_
  refine V_iconst (q := 60) g dL_holds_59 rfl ?_
  refine V_iload (q := 62) g dL_holds_60 rfl rfl ?_
  refine V_iconst (q := 63) g dL_holds_62 rfl ?_
  refine V_iconst (q := 64) g dL_holds_63 rfl ?_
  refine V_u5 (q := 67) 1 (j + 8) g (cq_3 l hfl hL hS.1 (by omega) (by omega)) dL_holds_64 k_L_192 rfl ⟨by decide, by decide⟩ (hK3.le (by omega)) rfl rfl (fun z4 M4 κ4 e4 hK4 => ?_)
  obtain ⟨e4, rfl⟩ := e4
  have e4 : z4 = σ.1 (45 + 9 * c) := e4.trans (qCh_1 hc)
  subst e4
  refine V_istore_9 (q := 69) g dL_holds_67 (by decide) rfl rfl ?_
  refine V_aload_n (q := 70) g dL_holds_69 rfl rfl ?_
  refine V_iconst (q := 71) g dL_holds_70 rfl ?_
  refine V_iload (q := 73) g dL_holds_71 rfl rfl ?_
  refine V_iconst (q := 74) g dL_holds_73 rfl ?_
  refine V_iconst (q := 75) g dL_holds_74 rfl ?_
  refine V_u5 (q := 78) 1 (j + 7) g (cq_3 l hfl hL hS.1 (by omega) (by omega)) dL_holds_75 k_L_192 rfl ⟨by decide, by decide⟩ (hK4.le (by omega)) rfl rfl (fun z5 M5 κ5 e5 hK5 => ?_)
  obtain ⟨e5, rfl⟩ := e5
  have e5 : z5 = σ.1 (46 + 9 * c) := e5.trans (qCh_2 hc)
  subst e5
  refine V_istore_10 (q := 80) g dL_holds_78 (by decide) rfl rfl ?_
  refine V_aload_n (q := 81) g dL_holds_80 rfl rfl ?_
  refine V_iconst (q := 82) g dL_holds_81 rfl ?_
  refine V_iload (q := 84) g dL_holds_82 rfl rfl ?_
  refine V_iconst (q := 85) g dL_holds_84 rfl ?_
  refine V_iconst (q := 86) g dL_holds_85 rfl ?_
  refine V_u5 (q := 89) 1 (j + 6) g (cq_4 l hfl hL hS.1 (by omega) (by omega)) dL_holds_86 k_L_192 rfl ⟨by decide, by decide⟩ (hK5.le (by omega)) rfl rfl (fun z6 M6 κ6 e6 hK6 => ?_)
  obtain ⟨e6, rfl⟩ := e6
  have e6 : z6 = sWn σ.1 c := e6.trans (qWb_0 hc)
  subst e6
  refine V_istore_11 (q := 91) g dL_holds_89 (by decide) rfl rfl ?_
  refine V_aload_n (q := 92) g dL_holds_91 rfl rfl ?_
  refine V_iconst (q := 93) g dL_holds_92 rfl ?_
  refine V_iload (q := 95) g dL_holds_93 rfl rfl ?_
  refine V_iconst (q := 96) g dL_holds_95 rfl ?_
  refine V_iconst (q := 97) g dL_holds_96 rfl ?_
  refine V_u5 (q := 100) 1 (j + 5) g (cq_3 l hfl hL hS.1 (by omega) (by omega)) dL_holds_97 k_L_192 rfl ⟨by decide, by decide⟩ (hK6.le (by omega)) rfl rfl (fun z7 M7 κ7 e7 hK7 => ?_)
  obtain ⟨e7, rfl⟩ := e7
  have e7 : z7 = sLn σ.1 c := e7.trans (qCh_3 hc)
  subst e7
  refine V_istore_12 (q := 102) g dL_holds_100 (by decide) rfl rfl ?_
  refine V_aload_n (q := 103) g dL_holds_102 rfl rfl ?_
  refine V_iconst (q := 104) g dL_holds_103 rfl ?_
  refine V_iload (q := 106) g dL_holds_104 rfl rfl ?_
  refine V_iconst (q := 107) g dL_holds_106 rfl ?_
  refine V_iconst (q := 108) g dL_holds_107 rfl ?_
  refine V_u5 (q := 111) 1 (j + 4) g (cq_3 l hfl hL hS.1 (by omega) (by omega)) dL_holds_108 k_L_192 rfl ⟨by decide, by decide⟩ (hK7.le (by omega)) rfl rfl (fun z8 M8 κ8 e8 hK8 => ?_)
  obtain ⟨e8, rfl⟩ := e8
  have e8 : z8 = sSeat σ.1 c := e8.trans (qCh_4 hc)
  subst e8
  refine V_istore_13 (q := 113) g dL_holds_111 (by decide) rfl rfl ?_
  refine V_aload_n (q := 114) g dL_holds_113 rfl rfl ?_
  refine V_iconst (q := 115) g dL_holds_114 rfl ?_
  refine V_iload (q := 117) g dL_holds_115 rfl rfl ?_
  refine V_iconst (q := 118) g dL_holds_117 rfl ?_
  refine V_iconst (q := 119) g dL_holds_118 rfl ?_
  refine V_u5 (q := 122) 1 (j + 3) g (cq_3 l hfl hL hS.1 (by omega) (by omega)) dL_holds_119 k_L_192 rfl ⟨by decide, by decide⟩ (hK8.le (by omega)) rfl rfl (fun z9 M9 κ9 e9 hK9 => ?_)
  obtain ⟨e9, rfl⟩ := e9
  have e9 : z9 = sIdle σ.1 c := e9.trans (qCh_5 hc)
  subst e9
  refine V_istore_14 (q := 124) g dL_holds_122 (by decide) rfl rfl ?_
  refine V_aload_n (q := 125) g dL_holds_124 rfl rfl ?_
  refine V_iconst (q := 126) g dL_holds_125 rfl ?_
  refine V_iload (q := 128) g dL_holds_126 rfl rfl ?_
  refine V_bipush (q := 130) g dL_holds_128 (by decide) rfl ?_
  refine V_iconst (q := 131) g dL_holds_130 rfl ?_
  refine V_u5 (q := 134) 1 (j + 2) g (cq_3 l hfl hL hS.1 (by omega) (by omega)) dL_holds_131 k_L_192 rfl ⟨by decide, by decide⟩ (hK9.le (by omega)) rfl rfl (fun z10 M10 κ10 e10 hK10 => ?_)
  obtain ⟨e10, rfl⟩ := e10
  have e10 : z10 = sWhy σ.1 c := e10.trans (qCh_7 hc)
  subst e10
  refine V_istore_15 (q := 136) g dL_holds_134 (by decide) rfl rfl ?_
  refine V_iconst (q := 137) g dL_holds_136 rfl ?_
  refine V_istore_16 (q := 139) g dL_holds_137 (by decide) rfl rfl ?_
  refine V_sipush (q := 142) g dL_holds_139 (by decide) rfl ?_
  refine V_istore_17 (q := 144) g dL_holds_142 (by decide) rfl rfl ?_
  refine V_iconst (q := 145) g dL_holds_144 rfl ?_
  refine V_istore_18 (q := 147) g dL_holds_145 (by decide) rfl rfl ?_
  refine V_iload_n (q := 148) g dL_holds_147 rfl rfl ?_
  refine V_aload_n (q := 149) g dL_holds_148 rfl rfl ?_
  refine V_iconst (q := 150) g dL_holds_149 rfl ?_
  refine V_iload (q := 152) g dL_holds_150 rfl rfl ?_
  refine V_bipush (q := 154) g dL_holds_152 (by decide) rfl ?_
  refine V_iconst (q := 155) g dL_holds_154 rfl ?_
  refine V_u5 (q := 158) 1 (j + 1) g (cq_3 l hfl hL hS.1 (by omega) (by omega)) dL_holds_155 k_L_192 rfl ⟨by decide, by decide⟩ (hK10.le (by omega)) rfl rfl (fun z11 M11 κ11 e11 hK11 => ?_)
  obtain ⟨e11, rfl⟩ := e11
  have e11 : z11 = σ.1 (47 + 9 * c) := e11.trans (qCh_6 hc)
  subst e11
  refine V_iadd (q := 159) g dL_holds_158 rfl ?_
  refine V_istore_n_3 (q := 160) g dL_holds_159 (by decide) rfl rfl ?_
  refine V_iload (q := 162) g dL_holds_160 rfl rfl ?_
  refine V_aload_n (q := 163) g dL_holds_162 rfl rfl ?_
  refine V_iconst (q := 164) g dL_holds_163 rfl ?_
  refine V_iload (q := 166) g dL_holds_164 rfl rfl ?_
  refine V_bipush (q := 168) g dL_holds_166 (by decide) rfl ?_
  refine V_iconst (q := 169) g dL_holds_168 rfl ?_
  refine V_u5 (q := 172) 1 (j) g (cq_3 l hfl hL hS.1 (by omega) (by omega)) dL_holds_169 k_L_192 rfl ⟨by decide, by decide⟩ (hK11.le (by omega)) rfl rfl (fun z12 M12 κ12 e12 hK12 => ?_)
  obtain ⟨e12, rfl⟩ := e12
  have e12 : z12 = σ.1 (48 + 9 * c) := e12.trans (qCh_8 hc)
  subst e12
  refine V_iadd (q := 173) g dL_holds_172 rfl ?_
  refine V_istore_4 (q := 175) g dL_holds_173 (by decide) rfl rfl ?_
  refine V_iconst (q := 176) g dL_holds_175 rfl ?_
  refine V_istore_19 (q := 178) g dL_holds_176 (by decide) rfl rfl ?_
  exact V_lvw (lvLe_s (lvLe_s (lvLe_s (lvLe_s (lvLe_s (lvLe_s (lvLe_s (lvLe_s (lvLe_s (lvLe_s (lvLe_s (lvLe_s (lvLe_s (lvLe_s (lvLe_s (lvLe_s (lvLe_s (lvLe_s (lvLe_s (lvLe_s (lvLe_n (lvLe_n (lvLe_n lvLe_0))))))))))))))))))))))) (k9 M κ12 hS (hK12.le (by omega)))
set_option maxHeartbeats 8000000 in
set_option maxRecDepth 100000 in
theorem hd_leg (hfl : l.stackTraces = false) {x st si set c sum least tilt k : Int} (g : VOk Γ D Λ RL cL_holds 23 l rm_L_holds) (hL : ClsL D Λ s) (hc : 0 ≤ c ∧ c < σ.1 0) (hx : 0 ≤ x ∧ x < 2147483648) (hk : 0 ≤ k ∧ k < 4) (hle : inR least) (hS : Sp M0 s σ M) (hK : Kb κ rm_L_holds (j + 4)) (k9 : ∀ (least1 tt : Int) (M1 : MM) (κ1 : Nat × Nat), inR least1 → ((k % 2 = 0 ∧ tt = sRn σ.1 c k) ∨ (k % 2 ≠ 0 ∧ tt = -(sRn σ.1 c k))) → Sp M0 s σ M1 → Kb κ1 rm_L_holds j → V Γ D Λ M1 κ1 178 [some (.ref s), some (vi x), some (vi (σ.1 0)), some (vi st), some (vi si), some (vi set), some (vi 1), some (vi c), some (vi (σ.1 (44 + 9 * c))), some (vi (σ.1 (45 + 9 * c))), some (vi (σ.1 (46 + 9 * c))), some (vi (sWn σ.1 c)), some (vi (sLn σ.1 c)), some (vi (sSeat σ.1 c)), some (vi (sIdle σ.1 c)), some (vi (sWhy σ.1 c)), some (vi (sum + σ.1 (49 + 9 * c + k))), some (vi least1), some (vi (tilt + tt)), some (vi (k + 1)), none, none, none] []) : V Γ D Λ M κ 178 [some (.ref s), some (vi x), some (vi (σ.1 0)), some (vi st), some (vi si), some (vi set), some (vi 1), some (vi c), some (vi (σ.1 (44 + 9 * c))), some (vi (σ.1 (45 + 9 * c))), some (vi (σ.1 (46 + 9 * c))), some (vi (sWn σ.1 c)), some (vi (sLn σ.1 c)), some (vi (sSeat σ.1 c)), some (vi (sIdle σ.1 c)), some (vi (sWhy σ.1 c)), some (vi sum), some (vi least), some (vi tilt), some (vi k), none, none, none] [] := by
  have hI := hS.1.1.2
  have hN := hI.1
  have hF := hI.2.1
  obtain ⟨hg9, hf9, hq9, hs9, hl9⟩ := hI.2.2.2.2.2.2 c hc.1 hc.2
  have hr := rn_r hI hc hk
  have hlen := hl9 k hk.1 hk.2
  have hre : sRn σ.1 c k = σ.1 (49 + 9 * c + k) - σ.1 (12 + (4 * σ.1 (45 + 9 * c) + (k + σ.1 (46 + 9 * c)) % 4)) := rfl
  refine V_iload (q := 180) g dL_holds_178 rfl rfl ?_
  refine V_iconst (q := 181) g dL_holds_180 rfl ?_
  refine V_icmp_ge (q := 184) g dL_holds_181 (tgt := 327) (by decide) rfl (by omega) (by omega) (fun h1 => absurd h1 (by omega)) (fun h1 => ?_)
  refine V_iload (q := 186) g dL_holds_184 rfl rfl ?_
  refine V_if_eq (q := 189) g dL_holds_186 (tgt := 327) (by decide) rfl (by omega) (fun h2 => absurd h2 (by omega)) (fun h2 => ?_)
  refine V_aload_n (q := 190) g dL_holds_189 rfl rfl ?_
  refine V_iconst (q := 191) g dL_holds_190 rfl ?_
  refine V_iload (q := 193) g dL_holds_191 rfl rfl ?_
  refine V_iload (q := 195) g dL_holds_193 rfl rfl ?_
  refine V_iconst (q := 196) g dL_holds_195 rfl ?_
  refine V_u5 (q := 199) 1 (j + 3) g (cq_5 l hfl hL hS.1 (by omega) (by omega) (by omega)) dL_holds_196 k_L_192 rfl ⟨by decide, by decide⟩ (hK.le (by omega)) rfl rfl (fun z3 M3 κ3 e3 hK3 => ?_)
  obtain ⟨e3, rfl⟩ := e3
  have e3 : z3 = sRn σ.1 c k := e3.trans (qLg_1 hc hk)
  subst e3
  refine V_istore_20 (q := 201) g dL_holds_199 (by decide) rfl rfl ?_
  refine V_aload_n (q := 202) g dL_holds_201 rfl rfl ?_
  refine V_iconst (q := 203) g dL_holds_202 rfl ?_
  refine V_iload (q := 205) g dL_holds_203 rfl rfl ?_
  refine V_iload (q := 207) g dL_holds_205 rfl rfl ?_
  refine V_iconst (q := 208) g dL_holds_207 rfl ?_
  refine V_u5 (q := 211) 1 (j + 2) g (cq_5 l hfl hL hS.1 (by omega) (by omega) (by omega)) dL_holds_208 k_L_192 rfl ⟨by decide, by decide⟩ (hK3.le (by omega)) rfl rfl (fun z4 M4 κ4 e4 hK4 => ?_)
  obtain ⟨e4, rfl⟩ := e4
  have e4 : z4 = σ.1 (49 + 9 * c + k) := e4.trans (qLg_0 hc hk)
  subst e4
  refine V_istore_21 (q := 213) g dL_holds_211 (by decide) rfl rfl ?_
  refine V_aload_n (q := 214) g dL_holds_213 rfl rfl ?_
  refine V_iconst (q := 215) g dL_holds_214 rfl ?_
  refine V_iload (q := 217) g dL_holds_215 rfl rfl ?_
  refine V_iload (q := 219) g dL_holds_217 rfl rfl ?_
  refine V_iconst (q := 220) g dL_holds_219 rfl ?_
  refine V_u5 (q := 223) 1 (j + 1) g (cq_5 l hfl hL hS.1 (by omega) (by omega) (by omega)) dL_holds_220 k_L_192 rfl ⟨by decide, by decide⟩ (hK4.le (by omega)) rfl rfl (fun z5 M5 κ5 e5 hK5 => ?_)
  obtain ⟨e5, rfl⟩ := e5
  have e5 : z5 = (k + σ.1 (46 + 9 * c)) % 4 := e5.trans (qLg_2 hc hk)
  subst e5
  refine V_istore_22 (q := 225) g dL_holds_223 (by decide) rfl rfl ?_
  refine V_iload (q := 227) g dL_holds_225 rfl rfl ?_
  refine V_iload (q := 229) g dL_holds_227 rfl rfl ?_
  refine V_iadd (q := 230) g dL_holds_229 rfl ?_
  refine V_istore_16 (q := 232) g dL_holds_230 (by decide) rfl rfl ?_
  refine V_iload (q := 234) g dL_holds_232 rfl rfl ?_
  refine V_iload (q := 236) g dL_holds_234 rfl rfl ?_
  refine V_iconst (q := 237) g dL_holds_236 rfl ?_
  refine V_irem (q := 238) g dL_holds_237 (by omega) (by omega) rfl ?_
  suffices hm6 : ∀ (t6 : Int) (κ6 : Nat × Nat), (((k % 2) ≠ 0 ∧ t6 = -(sRn σ.1 c k)) ∨ ((k % 2) = 0 ∧ t6 = sRn σ.1 c k)) → Kb κ6 rm_L_holds (j + 1) → V Γ D Λ M κ6 249 [some (.ref s), some (vi x), some (vi (σ.1 0)), some (vi st), some (vi si), some (vi set), some (vi 1), some (vi c), some (vi (σ.1 (44 + 9 * c))), some (vi (σ.1 (45 + 9 * c))), some (vi (σ.1 (46 + 9 * c))), some (vi (sWn σ.1 c)), some (vi (sLn σ.1 c)), some (vi (sSeat σ.1 c)), some (vi (sIdle σ.1 c)), some (vi (sWhy σ.1 c)), some (vi (sum + (σ.1 (49 + 9 * c + k)))), some (vi least), some (vi tilt), some (vi k), some (vi (sRn σ.1 c k)), some (vi (σ.1 (49 + 9 * c + k))), some (vi ((k + σ.1 (46 + 9 * c)) % 4))] [vi t6, vi tilt] by
    refine V_if_ne (q := 241) g dL_holds_238 (tgt := 246) (by decide) rfl (by omega) (fun h7 => ?_) (fun h7 => ?_)
    · refine V_iload (q := 248) g dL_holds_246 rfl rfl ?_
      refine V_ineg (q := 249) g dL_holds_248 rfl ?_
      exact V_lvw (lvLe_s (lvLe_s (lvLe_s (lvLe_s (lvLe_s (lvLe_s (lvLe_s (lvLe_s (lvLe_s (lvLe_s (lvLe_s (lvLe_s (lvLe_s (lvLe_s (lvLe_s (lvLe_s (lvLe_s (lvLe_s (lvLe_s (lvLe_s (lvLe_s (lvLe_s (lvLe_s lvLe_0))))))))))))))))))))))) (hm6 _ _ (by omega) (hK5.le (by omega)))
    · refine V_iload (q := 243) g dL_holds_241 rfl rfl ?_
      refine V_goto g dL_holds_243 (tgt := 249) (by decide) ?_
      exact V_lvw (lvLe_s (lvLe_s (lvLe_s (lvLe_s (lvLe_s (lvLe_s (lvLe_s (lvLe_s (lvLe_s (lvLe_s (lvLe_s (lvLe_s (lvLe_s (lvLe_s (lvLe_s (lvLe_s (lvLe_s (lvLe_s (lvLe_s (lvLe_s (lvLe_s (lvLe_s (lvLe_s lvLe_0))))))))))))))))))))))) (hm6 _ _ (by omega) (hK5.le (by omega)))
  intro t6 κ6 hp6 hK6
  refine V_iadd (q := 250) g dL_holds_249 rfl ?_
  refine V_istore_18 (q := 252) g dL_holds_250 (by decide) rfl rfl ?_
  refine V_iload (q := 254) g dL_holds_252 rfl rfl ?_
  refine V_iload (q := 256) g dL_holds_254 rfl rfl ?_
  suffices hm8 : ∀ (t8 : Int) (κ8 : Nat × Nat), (((sRn σ.1 c k) ≥ least ∧ t8 = least) ∨ ((sRn σ.1 c k) < least ∧ t8 = sRn σ.1 c k)) → Kb κ8 rm_L_holds (j + 1) → V Γ D Λ M κ8 266 [some (.ref s), some (vi x), some (vi (σ.1 0)), some (vi st), some (vi si), some (vi set), some (vi 1), some (vi c), some (vi (σ.1 (44 + 9 * c))), some (vi (σ.1 (45 + 9 * c))), some (vi (σ.1 (46 + 9 * c))), some (vi (sWn σ.1 c)), some (vi (sLn σ.1 c)), some (vi (sSeat σ.1 c)), some (vi (sIdle σ.1 c)), some (vi (sWhy σ.1 c)), some (vi (sum + (σ.1 (49 + 9 * c + k)))), some (vi least), some (vi (tilt + t6)), some (vi k), some (vi (sRn σ.1 c k)), some (vi (σ.1 (49 + 9 * c + k))), some (vi ((k + σ.1 (46 + 9 * c)) % 4))] [vi t8] by
    refine V_icmp_ge (q := 259) g dL_holds_256 (tgt := 264) (by decide) rfl (by omega) (by omega) (fun h9 => ?_) (fun h9 => ?_)
    · refine V_iload (q := 266) g dL_holds_264 rfl rfl ?_
      exact V_lvw (lvLe_s (lvLe_s (lvLe_s (lvLe_s (lvLe_s (lvLe_s (lvLe_s (lvLe_s (lvLe_s (lvLe_s (lvLe_s (lvLe_s (lvLe_s (lvLe_s (lvLe_s (lvLe_s (lvLe_s (lvLe_s (lvLe_s (lvLe_s (lvLe_s (lvLe_s (lvLe_s lvLe_0))))))))))))))))))))))) (hm8 _ _ (by omega) (hK6.le (by omega)))
    · refine V_iload (q := 261) g dL_holds_259 rfl rfl ?_
      refine V_goto g dL_holds_261 (tgt := 266) (by decide) ?_
      exact V_lvw (lvLe_s (lvLe_s (lvLe_s (lvLe_s (lvLe_s (lvLe_s (lvLe_s (lvLe_s (lvLe_s (lvLe_s (lvLe_s (lvLe_s (lvLe_s (lvLe_s (lvLe_s (lvLe_s (lvLe_s (lvLe_s (lvLe_s (lvLe_s (lvLe_s (lvLe_s (lvLe_s lvLe_0))))))))))))))))))))))) (hm8 _ _ (by omega) (hK6.le (by omega)))
  intro t8 κ8 hp8 hK8
  refine V_istore_17 (q := 268) g dL_holds_266 (by decide) rfl rfl ?_
  refine V_iload (q := 270) g dL_holds_268 rfl rfl ?_
  refine V_bipush (q := 272) g dL_holds_270 (by decide) rfl ?_
  refine V_icmp_lt (q := 275) g dL_holds_272 (tgt := 318) (by decide) rfl (by omega) (by omega) (fun h10 => absurd h10 (by omega)) (fun h10 => ?_)
  refine V_iload (q := 277) g dL_holds_275 rfl rfl ?_
  refine V_sipush (q := 280) g dL_holds_277 (by decide) rfl ?_
  refine V_icmp_gt (q := 283) g dL_holds_280 (tgt := 318) (by decide) rfl (by omega) (by omega) (fun h11 => absurd h11 (by omega)) (fun h11 => ?_)
  refine V_iload (q := 285) g dL_holds_283 rfl rfl ?_
  refine V_iload (q := 287) g dL_holds_285 rfl rfl ?_
  refine V_iload (q := 289) g dL_holds_287 rfl rfl ?_
  refine V_iadd (q := 290) g dL_holds_289 rfl ?_
  refine V_iconst (q := 291) g dL_holds_290 rfl ?_
  refine V_irem (q := 292) g dL_holds_291 (by omega) (by omega) rfl ?_
  refine V_icmp_ne (q := 295) g dL_holds_292 (tgt := 318) (by decide) rfl (by omega) (by omega) (fun h12 => absurd h12 (by omega)) (fun h12 => ?_)
  refine V_iload (q := 297) g dL_holds_295 rfl rfl ?_
  refine V_iload (q := 299) g dL_holds_297 rfl rfl ?_
  refine V_aload_n (q := 300) g dL_holds_299 rfl rfl ?_
  refine V_bipush (q := 302) g dL_holds_300 (by decide) rfl ?_
  refine V_iload (q := 304) g dL_holds_302 rfl rfl ?_
  refine V_iload (q := 306) g dL_holds_304 rfl rfl ?_
  refine V_iconst (q := 307) g dL_holds_306 rfl ?_
  refine V_u5 (q := 310) 1 (j) g (cq_6 l hfl hL hS.1 (by omega) (by omega)) dL_holds_307 k_L_192 rfl ⟨by decide, by decide⟩ (hK8.le (by omega)) rfl rfl (fun z13 M13 κ13 e13 hK13 => ?_)
  obtain ⟨e13, rfl⟩ := e13
  have e13 : z13 = σ.1 (12 + (4 * σ.1 (45 + 9 * c) + (k + σ.1 (46 + 9 * c)) % 4)) := e13.trans (qSp_ok (by omega) (by omega))
  subst e13
  refine V_isub (q := 311) g dL_holds_310 rfl ?_
  have hsp9 := hI.2.2.2.2.1 (4 * σ.1 (45 + 9 * c) + (k + σ.1 (46 + 9 * c)) % 4) (by omega) (by omega)
  refine V_icmp_ne (q := 314) g dL_holds_311 (tgt := 318) (by decide) rfl (by omega) (by omega) (fun h14 => absurd h14 (by omega)) (fun h14 => ?_)
  refine V_iconst (q := 315) g dL_holds_314 rfl ?_
  refine V_goto g dL_holds_315 (tgt := 319) (by decide) ?_
  refine V_istore_6 (q := 321) g dL_holds_319 (by decide) rfl rfl ?_
  refine V_iinc_19 (q := 324) g dL_holds_321 (by decide) rfl rfl ?_
  refine V_goto g dL_holds_324 (tgt := 178) (by decide) ?_
  exact V_lvw (lvLe_s (lvLe_s (lvLe_s (lvLe_s (lvLe_s (lvLe_s (lvLe_s (lvLe_s (lvLe_s (lvLe_s (lvLe_s (lvLe_s (lvLe_s (lvLe_s (lvLe_s (lvLe_s (lvLe_s (lvLe_s (lvLe_s (lvLe_s (lvLe_n (lvLe_n (lvLe_n lvLe_0))))))))))))))))))))))) (k9 t8 t6 M κ13 (by omega) (by omega) hS (hK13.le (by omega)))
set_option maxHeartbeats 8000000 in
set_option maxRecDepth 100000 in
theorem hd_bot (hfl : l.stackTraces = false) {x st si set c sum tilt bt : Int} (g : VOk Γ D Λ RL cL_holds 23 l rm_L_holds) (hL : ClsL D Λ s) (hc : 0 ≤ c ∧ c < σ.1 0) (hx : 0 ≤ x ∧ x < 2147483648) (hsum : 0 ≤ sum ∧ sum < 10000) (hs4 : sum / 4 = sSeat σ.1 c) (htr : -10000 < tilt ∧ tilt < 10000) (htl : sAbs tilt = sWn σ.1 c) (hbit : Value.int ((iI set >>> (iI c &&& 31)) &&& iI 1) = vi bt) (hbt : (sWhy σ.1 c = 0 ∧ bt = 1) ∨ (sWhy σ.1 c ≠ 0 ∧ bt = 0)) (hsok : σ.1 (47 + 9 * c) = 1 → sWhy σ.1 c = 0) (hS : Sp M0 s σ M) (hK : Kb κ rm_L_holds (j + 10)) (k9 : ∀ (M1 : MM) (κ1 : Nat × Nat), Sp M0 s σ M1 → Kb κ1 rm_L_holds j → V Γ D Λ M1 κ1 36 [some (.ref s), some (vi x), some (vi (σ.1 0)), some (vi st), some (vi si), some (vi set), some (vi 1), some (vi (c + 1)), none, none, none, none, none, none, none, none, none, none, none, none, none, none, none] []) : V Γ D Λ M κ 327 [some (.ref s), some (vi x), some (vi (σ.1 0)), some (vi st), some (vi si), some (vi set), some (vi 1), some (vi c), some (vi (σ.1 (44 + 9 * c))), some (vi (σ.1 (45 + 9 * c))), some (vi (σ.1 (46 + 9 * c))), some (vi (sWn σ.1 c)), some (vi (sLn σ.1 c)), some (vi (sSeat σ.1 c)), some (vi (sIdle σ.1 c)), some (vi (sWhy σ.1 c)), some (vi sum), none, some (vi tilt), none, none, none, none] [] := by
  have hI := hS.1.1.2
  have hN := hI.1
  have hF := hI.2.1
  obtain ⟨hg9, hf9, hq9, hs9, hl9⟩ := hI.2.2.2.2.2.2 c hc.1 hc.2
  obtain ⟨hw1, hw2, hw3⟩ := wn_r hI hc
  have hid := idle_r σ.1 c
  have hii := idle_iff σ.1 c
  have hl2 : sWn σ.1 c ≤ 2 * sLn σ.1 c := lean_2 _ _ _ _
  have hwy := sWhy_r σ.1 c
  obtain ⟨hb0, hb1, hb2, hb3⟩ := hI.2.2.2.2.2.1 (σ.1 (44 + 9 * c)) hg9.1 (by omega)
  have hwq := wq_le hI hc
  have hwq0 : 0 ≤ sWq σ.1 c (σ.1 (45 + 9 * c)) := (sWob_r hI hc (by omega) (bq_r _ _ _)).1
  refine V_iload (q := 329) g dL_holds_327 rfl rfl ?_
  refine V_if_eq (q := 332) g dL_holds_329 (tgt := 606) (by decide) rfl (by omega) (fun h1 => absurd h1 (by omega)) (fun h1 => ?_)
  refine V_iload (q := 334) g dL_holds_332 rfl rfl ?_
  refine V_iload (q := 336) g dL_holds_334 rfl rfl ?_
  refine V_uc1 (q := 339) g (c_L_size l (by omega)) dL_holds_336 k_L_212 rfl ⟨rfl, rfl⟩ hK rfl rfl (fun z2 M2 e2 => ?_)
  obtain ⟨e2, rfl⟩ := e2
  refine V_icmp_ne (q := 342) g dL_holds_339 (tgt := 606) (by decide) rfl (by omega) (by omega) (fun h3 => absurd h3 (by omega)) (fun h3 => ?_)
  refine V_iload (q := 344) g dL_holds_342 rfl rfl ?_
  refine V_aload_n (q := 345) g dL_holds_344 rfl rfl ?_
  refine V_iconst (q := 346) g dL_holds_345 rfl ?_
  refine V_iload (q := 348) g dL_holds_346 rfl rfl ?_
  refine V_iconst (q := 349) g dL_holds_348 rfl ?_
  refine V_iconst (q := 350) g dL_holds_349 rfl ?_
  refine V_u5 (q := 353) 1 (j + 9) g (cq_4 l hfl hL hS.1 (by omega) (by omega)) dL_holds_350 k_L_192 rfl ⟨by decide, by decide⟩ (hK.le (by omega)) rfl rfl (fun z4 M4 κ4 e4 hK4 => ?_)
  obtain ⟨e4, rfl⟩ := e4
  have e4 : z4 = sWn σ.1 c := e4.trans (qWb_1 hc)
  subst e4
  refine V_icmp_ne (q := 356) g dL_holds_353 (tgt := 606) (by decide) rfl (by omega) (by omega) (fun h5 => absurd h5 (by omega)) (fun h5 => ?_)
  refine V_iload (q := 358) g dL_holds_356 rfl rfl ?_
  refine V_iload (q := 360) g dL_holds_358 rfl rfl ?_
  refine V_iconst (q := 361) g dL_holds_360 rfl ?_
  refine V_idiv (q := 362) g dL_holds_361 (by omega) (by omega) rfl ?_
  refine V_icmp_ne (q := 365) g dL_holds_362 (tgt := 606) (by decide) rfl (by omega) (by omega) (fun h6 => absurd h6 (by omega)) (fun h6 => ?_)
  refine V_iload (q := 367) g dL_holds_365 rfl rfl ?_
  refine V_iconst (q := 368) g dL_holds_367 rfl ?_
  suffices hm7 : ∀ (t7 : Int) (κ7 : Nat × Nat), (((sIdle σ.1 c) ≠ (-1) ∧ t7 = 0) ∨ ((sIdle σ.1 c) = (-1) ∧ t7 = 1)) → Kb κ7 rm_L_holds (j + 9) → V Γ D Λ M κ7 376 [some (.ref s), some (vi x), some (vi (σ.1 0)), some (vi st), some (vi si), some (vi set), some (vi 1), some (vi c), some (vi (σ.1 (44 + 9 * c))), some (vi (σ.1 (45 + 9 * c))), some (vi (σ.1 (46 + 9 * c))), some (vi (sWn σ.1 c)), some (vi (sLn σ.1 c)), some (vi (sSeat σ.1 c)), some (vi (sIdle σ.1 c)), some (vi (sWhy σ.1 c)), some (vi sum), none, some (vi tilt), none, none, none, none] [vi t7] by
    refine V_icmp_ne (q := 371) g dL_holds_368 (tgt := 375) (by decide) rfl (by omega) (by omega) (fun h8 => ?_) (fun h8 => ?_)
    · refine V_iconst (q := 376) g dL_holds_375 rfl ?_
      exact V_lvw (lvLe_s (lvLe_s (lvLe_s (lvLe_s (lvLe_s (lvLe_s (lvLe_s (lvLe_s (lvLe_s (lvLe_s (lvLe_s (lvLe_s (lvLe_s (lvLe_s (lvLe_s (lvLe_s (lvLe_s (lvLe_n (lvLe_s (lvLe_n (lvLe_n (lvLe_n (lvLe_n lvLe_0))))))))))))))))))))))) (hm7 _ _ (by omega) (hK4.le (by omega)))
    · refine V_iconst (q := 372) g dL_holds_371 rfl ?_
      refine V_goto g dL_holds_372 (tgt := 376) (by decide) ?_
      exact V_lvw (lvLe_s (lvLe_s (lvLe_s (lvLe_s (lvLe_s (lvLe_s (lvLe_s (lvLe_s (lvLe_s (lvLe_s (lvLe_s (lvLe_s (lvLe_s (lvLe_s (lvLe_s (lvLe_s (lvLe_s (lvLe_n (lvLe_s (lvLe_n (lvLe_n (lvLe_n (lvLe_n lvLe_0))))))))))))))))))))))) (hm7 _ _ (by omega) (hK4.le (by omega)))
  intro t7 κ7 hp7 hK7
  refine V_iload (q := 378) g dL_holds_376 rfl rfl ?_
  suffices hm9 : ∀ (t9 : Int) (κ9 : Nat × Nat), (((sWn σ.1 c) ≠ 0 ∧ t9 = 0) ∨ ((sWn σ.1 c) = 0 ∧ t9 = 1)) → Kb κ9 rm_L_holds (j + 9) → V Γ D Λ M κ9 386 [some (.ref s), some (vi x), some (vi (σ.1 0)), some (vi st), some (vi si), some (vi set), some (vi 1), some (vi c), some (vi (σ.1 (44 + 9 * c))), some (vi (σ.1 (45 + 9 * c))), some (vi (σ.1 (46 + 9 * c))), some (vi (sWn σ.1 c)), some (vi (sLn σ.1 c)), some (vi (sSeat σ.1 c)), some (vi (sIdle σ.1 c)), some (vi (sWhy σ.1 c)), some (vi sum), none, some (vi tilt), none, none, none, none] [vi t9, vi t7] by
    refine V_if_ne (q := 381) g dL_holds_378 (tgt := 385) (by decide) rfl (by omega) (fun h10 => ?_) (fun h10 => ?_)
    · refine V_iconst (q := 386) g dL_holds_385 rfl ?_
      exact V_lvw (lvLe_s (lvLe_s (lvLe_s (lvLe_s (lvLe_s (lvLe_s (lvLe_s (lvLe_s (lvLe_s (lvLe_s (lvLe_s (lvLe_s (lvLe_s (lvLe_s (lvLe_s (lvLe_s (lvLe_s (lvLe_n (lvLe_s (lvLe_n (lvLe_n (lvLe_n (lvLe_n lvLe_0))))))))))))))))))))))) (hm9 _ _ (by omega) (hK7.le (by omega)))
    · refine V_iconst (q := 382) g dL_holds_381 rfl ?_
      refine V_goto g dL_holds_382 (tgt := 386) (by decide) ?_
      exact V_lvw (lvLe_s (lvLe_s (lvLe_s (lvLe_s (lvLe_s (lvLe_s (lvLe_s (lvLe_s (lvLe_s (lvLe_s (lvLe_s (lvLe_s (lvLe_s (lvLe_s (lvLe_s (lvLe_s (lvLe_s (lvLe_n (lvLe_s (lvLe_n (lvLe_n (lvLe_n (lvLe_n lvLe_0))))))))))))))))))))))) (hm9 _ _ (by omega) (hK7.le (by omega)))
  intro t9 κ9 hp9 hK9
  refine V_icmp_ne (q := 389) g dL_holds_386 (tgt := 606) (by decide) rfl (by omega) (by omega) (fun h11 => absurd h11 (by omega)) (fun h11 => ?_)
  refine V_iconst (q := 390) g dL_holds_389 rfl ?_
  refine V_iload (q := 392) g dL_holds_390 rfl rfl ?_
  refine V_imul (q := 393) g dL_holds_392 rfl ?_
  refine V_iload (q := 395) g dL_holds_393 rfl rfl ?_
  refine V_icmp_lt (q := 398) g dL_holds_395 (tgt := 606) (by decide) rfl (by omega) (by omega) (fun h12 => absurd h12 (by omega)) (fun h12 => ?_)
  refine V_aload_n (q := 399) g dL_holds_398 rfl rfl ?_
  refine V_iconst (q := 400) g dL_holds_399 rfl ?_
  refine V_iload (q := 402) g dL_holds_400 rfl rfl ?_
  refine V_bipush (q := 404) g dL_holds_402 (by decide) rfl ?_
  refine V_iconst (q := 405) g dL_holds_404 rfl ?_
  refine V_u5 (q := 408) 1 (j + 8) g (cq_3 l hfl hL hS.1 (by omega) (by omega)) dL_holds_405 k_L_192 rfl ⟨by decide, by decide⟩ (hK9.le (by omega)) rfl rfl (fun z13 M13 κ13 e13 hK13 => ?_)
  obtain ⟨e13, rfl⟩ := e13
  have e13 : z13 = σ.1 (47 + 9 * c) := e13.trans (qCh_6 hc)
  subst e13
  suffices hm14 : ∀ (κ14 : Nat × Nat), (True) → Kb κ14 rm_L_holds (j + 8) → V Γ D Λ M κ14 416 [some (.ref s), some (vi x), some (vi (σ.1 0)), some (vi st), some (vi si), some (vi set), some (vi 1), some (vi c), some (vi (σ.1 (44 + 9 * c))), some (vi (σ.1 (45 + 9 * c))), some (vi (σ.1 (46 + 9 * c))), some (vi (sWn σ.1 c)), some (vi (sLn σ.1 c)), some (vi (sSeat σ.1 c)), some (vi (sIdle σ.1 c)), some (vi (sWhy σ.1 c)), some (vi sum), none, some (vi tilt), none, none, none, none] [] by
    refine V_if_eq (q := 411) g dL_holds_408 (tgt := 416) (by decide) rfl (by omega) (fun h15 => ?_) (fun h15 => ?_)
    · exact V_lvw (lvLe_s (lvLe_s (lvLe_s (lvLe_s (lvLe_s (lvLe_s (lvLe_s (lvLe_s (lvLe_s (lvLe_s (lvLe_s (lvLe_s (lvLe_s (lvLe_s (lvLe_s (lvLe_s (lvLe_s (lvLe_n (lvLe_s (lvLe_n (lvLe_n (lvLe_n (lvLe_n lvLe_0))))))))))))))))))))))) (hm14 _ trivial (hK13.le (by omega)))
    · refine V_iload (q := 413) g dL_holds_411 rfl rfl ?_
      refine V_if_ne (q := 416) g dL_holds_413 (tgt := 606) (by decide) rfl (by omega) (fun h16 => absurd h16 (by omega)) (fun h16 => ?_)
      exact V_lvw (lvLe_s (lvLe_s (lvLe_s (lvLe_s (lvLe_s (lvLe_s (lvLe_s (lvLe_s (lvLe_s (lvLe_s (lvLe_s (lvLe_s (lvLe_s (lvLe_s (lvLe_s (lvLe_s (lvLe_s (lvLe_n (lvLe_s (lvLe_n (lvLe_n (lvLe_n (lvLe_n lvLe_0))))))))))))))))))))))) (hm14 _ trivial (hK13.le (by omega)))
  intro κ14 hp14 hK14
  refine V_iload (q := 418) g dL_holds_416 rfl rfl ?_
  refine V_iload (q := 420) g dL_holds_418 rfl rfl ?_
  refine V_ishr0 (q := 421) g dL_holds_420 rfl ?_
  refine V_iconst (q := 422) g dL_holds_421 rfl ?_
  refine V_iand0 (q := 423) g dL_holds_422 rfl ?_
  rw [hbit]
  refine V_iload (q := 425) g dL_holds_423 rfl rfl ?_
  suffices hm17 : ∀ (t17 : Int) (κ17 : Nat × Nat), (((sWhy σ.1 c) ≠ 0 ∧ t17 = 0) ∨ ((sWhy σ.1 c) = 0 ∧ t17 = 1)) → Kb κ17 rm_L_holds (j + 8) → V Γ D Λ M κ17 433 [some (.ref s), some (vi x), some (vi (σ.1 0)), some (vi st), some (vi si), some (vi set), some (vi 1), some (vi c), some (vi (σ.1 (44 + 9 * c))), some (vi (σ.1 (45 + 9 * c))), some (vi (σ.1 (46 + 9 * c))), some (vi (sWn σ.1 c)), some (vi (sLn σ.1 c)), some (vi (sSeat σ.1 c)), some (vi (sIdle σ.1 c)), some (vi (sWhy σ.1 c)), some (vi sum), none, some (vi tilt), none, none, none, none] [vi t17, vi bt] by
    refine V_if_ne (q := 428) g dL_holds_425 (tgt := 432) (by decide) rfl (by omega) (fun h18 => ?_) (fun h18 => ?_)
    · refine V_iconst (q := 433) g dL_holds_432 rfl ?_
      exact V_lvw (lvLe_s (lvLe_s (lvLe_s (lvLe_s (lvLe_s (lvLe_s (lvLe_s (lvLe_s (lvLe_s (lvLe_s (lvLe_s (lvLe_s (lvLe_s (lvLe_s (lvLe_s (lvLe_s (lvLe_s (lvLe_n (lvLe_s (lvLe_n (lvLe_n (lvLe_n (lvLe_n lvLe_0))))))))))))))))))))))) (hm17 _ _ (by omega) (hK14.le (by omega)))
    · refine V_iconst (q := 429) g dL_holds_428 rfl ?_
      refine V_goto g dL_holds_429 (tgt := 433) (by decide) ?_
      exact V_lvw (lvLe_s (lvLe_s (lvLe_s (lvLe_s (lvLe_s (lvLe_s (lvLe_s (lvLe_s (lvLe_s (lvLe_s (lvLe_s (lvLe_s (lvLe_s (lvLe_s (lvLe_s (lvLe_s (lvLe_s (lvLe_n (lvLe_s (lvLe_n (lvLe_n (lvLe_n (lvLe_n lvLe_0))))))))))))))))))))))) (hm17 _ _ (by omega) (hK14.le (by omega)))
  intro t17 κ17 hp17 hK17
  refine V_icmp_ne (q := 436) g dL_holds_433 (tgt := 606) (by decide) rfl (by omega) (by omega) (fun h19 => absurd h19 (by omega)) (fun h19 => ?_)
  refine V_iload (q := 438) g dL_holds_436 rfl rfl ?_
  refine V_iload (q := 440) g dL_holds_438 rfl rfl ?_
  refine V_aload_n (q := 441) g dL_holds_440 rfl rfl ?_
  refine V_bipush (q := 443) g dL_holds_441 (by decide) rfl ?_
  refine V_iload (q := 445) g dL_holds_443 rfl rfl ?_
  refine V_iconst (q := 446) g dL_holds_445 rfl ?_
  refine V_iconst (q := 447) g dL_holds_446 rfl ?_
  refine V_u5 (q := 450) 1 (j + 7) g (cq_7 l hfl hL hS.1 (by omega) (by omega)) dL_holds_447 k_L_192 rfl ⟨by decide, by decide⟩ (hK17.le (by omega)) rfl rfl (fun z20 M20 κ20 e20 hK20 => ?_)
  obtain ⟨e20, rfl⟩ := e20
  have e20 : z20 = σ.1 (30 + 4 * σ.1 (44 + 9 * c)) := e20.trans (qBn_2 (by omega))
  suffices hm21 : ∀ (t21 : Int) (κ21 : Nat × Nat), (t21 = sWhy σ.1 c) → Kb κ21 rm_L_holds (j + 4) → V Γ D Λ M κ21 515 [some (.ref s), some (vi x), some (vi (σ.1 0)), some (vi st), some (vi si), some (vi set), some (vi 1), some (vi c), some (vi (σ.1 (44 + 9 * c))), some (vi (σ.1 (45 + 9 * c))), some (vi (σ.1 (46 + 9 * c))), some (vi (sWn σ.1 c)), some (vi (sLn σ.1 c)), some (vi (sSeat σ.1 c)), some (vi (sIdle σ.1 c)), some (vi (sWhy σ.1 c)), some (vi sum), none, some (vi tilt), none, none, none, none] [vi t21, vi (sWhy σ.1 c)] by
    refine V_icmp_le (q := 453) g dL_holds_450 (tgt := 457) (by decide) rfl (by omega) (by omega) (fun h22 => ?_) (fun h22 => ?_)
    · refine V_iload (q := 459) g dL_holds_457 rfl rfl ?_
      refine V_aload_n (q := 460) g dL_holds_459 rfl rfl ?_
      refine V_bipush (q := 462) g dL_holds_460 (by decide) rfl ?_
      refine V_iload (q := 464) g dL_holds_462 rfl rfl ?_
      refine V_iconst (q := 465) g dL_holds_464 rfl ?_
      refine V_iconst (q := 466) g dL_holds_465 rfl ?_
      refine V_u5 (q := 469) 1 (j + 6) g (cq_7 l hfl hL hS.1 (by omega) (by omega)) dL_holds_466 k_L_192 rfl ⟨by decide, by decide⟩ (hK20.le (by omega)) rfl rfl (fun z23 M23 κ23 e23 hK23 => ?_)
      obtain ⟨e23, rfl⟩ := e23
      have e23 : z23 = σ.1 (31 + 4 * σ.1 (44 + 9 * c)) := e23.trans (qBn_3 (by omega))
      refine V_icmp_le (q := 472) g dL_holds_469 (tgt := 476) (by decide) rfl (by omega) (by omega) (fun h24 => ?_) (fun h24 => ?_)
      · refine V_iload (q := 478) g dL_holds_476 rfl rfl ?_
        refine V_aload_n (q := 479) g dL_holds_478 rfl rfl ?_
        refine V_bipush (q := 481) g dL_holds_479 (by decide) rfl ?_
        refine V_iload (q := 483) g dL_holds_481 rfl rfl ?_
        refine V_iconst (q := 484) g dL_holds_483 rfl ?_
        refine V_iconst (q := 485) g dL_holds_484 rfl ?_
        refine V_u5 (q := 488) 1 (j + 5) g (cq_7 l hfl hL hS.1 (by omega) (by omega)) dL_holds_485 k_L_192 rfl ⟨by decide, by decide⟩ (hK23.le (by omega)) rfl rfl (fun z25 M25 κ25 e25 hK25 => ?_)
        obtain ⟨e25, rfl⟩ := e25
        have e25 : z25 = σ.1 (28 + 4 * σ.1 (44 + 9 * c)) := e25.trans (qBn_0 (by omega))
        refine V_icmp_ge (q := 491) g dL_holds_488 (tgt := 495) (by decide) rfl (by omega) (by omega) (fun h26 => ?_) (fun h26 => ?_)
        · refine V_iload (q := 497) g dL_holds_495 rfl rfl ?_
          refine V_aload_n (q := 498) g dL_holds_497 rfl rfl ?_
          refine V_bipush (q := 500) g dL_holds_498 (by decide) rfl ?_
          refine V_iload (q := 502) g dL_holds_500 rfl rfl ?_
          refine V_iconst (q := 503) g dL_holds_502 rfl ?_
          refine V_iconst (q := 504) g dL_holds_503 rfl ?_
          refine V_u5 (q := 507) 1 (j + 4) g (cq_7 l hfl hL hS.1 (by omega) (by omega)) dL_holds_504 k_L_192 rfl ⟨by decide, by decide⟩ (hK25.le (by omega)) rfl rfl (fun z27 M27 κ27 e27 hK27 => ?_)
          obtain ⟨e27, rfl⟩ := e27
          have e27 : z27 = σ.1 (29 + 4 * σ.1 (44 + 9 * c)) := e27.trans (qBn_1 (by omega))
          refine V_icmp_le (q := 510) g dL_holds_507 (tgt := 514) (by decide) rfl (by omega) (by omega) (fun h28 => ?_) (fun h28 => ?_)
          · refine V_iconst (q := 515) g dL_holds_514 rfl ?_
            exact V_lvw (lvLe_s (lvLe_s (lvLe_s (lvLe_s (lvLe_s (lvLe_s (lvLe_s (lvLe_s (lvLe_s (lvLe_s (lvLe_s (lvLe_s (lvLe_s (lvLe_s (lvLe_s (lvLe_s (lvLe_s (lvLe_n (lvLe_s (lvLe_n (lvLe_n (lvLe_n (lvLe_n lvLe_0))))))))))))))))))))))) (hm21 _ _ (by unfold sWhy; first | (rw [if_pos (by omega)]) | (rw [if_neg (by omega), if_pos (by omega)]) | (rw [if_neg (by omega), if_neg (by omega), if_pos (by omega)]) | (rw [if_neg (by omega), if_neg (by omega), if_neg (by omega), if_pos (by omega)]) | (rw [if_neg (by omega), if_neg (by omega), if_neg (by omega), if_neg (by omega)])) (hK27.le (by omega)))
          · refine V_iconst (q := 511) g dL_holds_510 rfl ?_
            refine V_goto g dL_holds_511 (tgt := 515) (by decide) ?_
            exact V_lvw (lvLe_s (lvLe_s (lvLe_s (lvLe_s (lvLe_s (lvLe_s (lvLe_s (lvLe_s (lvLe_s (lvLe_s (lvLe_s (lvLe_s (lvLe_s (lvLe_s (lvLe_s (lvLe_s (lvLe_s (lvLe_n (lvLe_s (lvLe_n (lvLe_n (lvLe_n (lvLe_n lvLe_0))))))))))))))))))))))) (hm21 _ _ (by unfold sWhy; first | (rw [if_pos (by omega)]) | (rw [if_neg (by omega), if_pos (by omega)]) | (rw [if_neg (by omega), if_neg (by omega), if_pos (by omega)]) | (rw [if_neg (by omega), if_neg (by omega), if_neg (by omega), if_pos (by omega)]) | (rw [if_neg (by omega), if_neg (by omega), if_neg (by omega), if_neg (by omega)])) (hK27.le (by omega)))
        · refine V_iconst (q := 492) g dL_holds_491 rfl ?_
          refine V_goto g dL_holds_492 (tgt := 515) (by decide) ?_
          exact V_lvw (lvLe_s (lvLe_s (lvLe_s (lvLe_s (lvLe_s (lvLe_s (lvLe_s (lvLe_s (lvLe_s (lvLe_s (lvLe_s (lvLe_s (lvLe_s (lvLe_s (lvLe_s (lvLe_s (lvLe_s (lvLe_n (lvLe_s (lvLe_n (lvLe_n (lvLe_n (lvLe_n lvLe_0))))))))))))))))))))))) (hm21 _ _ (by unfold sWhy; first | (rw [if_pos (by omega)]) | (rw [if_neg (by omega), if_pos (by omega)]) | (rw [if_neg (by omega), if_neg (by omega), if_pos (by omega)]) | (rw [if_neg (by omega), if_neg (by omega), if_neg (by omega), if_pos (by omega)]) | (rw [if_neg (by omega), if_neg (by omega), if_neg (by omega), if_neg (by omega)])) (hK25.le (by omega)))
      · refine V_iconst (q := 473) g dL_holds_472 rfl ?_
        refine V_goto g dL_holds_473 (tgt := 515) (by decide) ?_
        exact V_lvw (lvLe_s (lvLe_s (lvLe_s (lvLe_s (lvLe_s (lvLe_s (lvLe_s (lvLe_s (lvLe_s (lvLe_s (lvLe_s (lvLe_s (lvLe_s (lvLe_s (lvLe_s (lvLe_s (lvLe_s (lvLe_n (lvLe_s (lvLe_n (lvLe_n (lvLe_n (lvLe_n lvLe_0))))))))))))))))))))))) (hm21 _ _ (by unfold sWhy; first | (rw [if_pos (by omega)]) | (rw [if_neg (by omega), if_pos (by omega)]) | (rw [if_neg (by omega), if_neg (by omega), if_pos (by omega)]) | (rw [if_neg (by omega), if_neg (by omega), if_neg (by omega), if_pos (by omega)]) | (rw [if_neg (by omega), if_neg (by omega), if_neg (by omega), if_neg (by omega)])) (hK23.le (by omega)))
    · refine V_iconst (q := 454) g dL_holds_453 rfl ?_
      refine V_goto g dL_holds_454 (tgt := 515) (by decide) ?_
      exact V_lvw (lvLe_s (lvLe_s (lvLe_s (lvLe_s (lvLe_s (lvLe_s (lvLe_s (lvLe_s (lvLe_s (lvLe_s (lvLe_s (lvLe_s (lvLe_s (lvLe_s (lvLe_s (lvLe_s (lvLe_s (lvLe_n (lvLe_s (lvLe_n (lvLe_n (lvLe_n (lvLe_n lvLe_0))))))))))))))))))))))) (hm21 _ _ (by unfold sWhy; first | (rw [if_pos (by omega)]) | (rw [if_neg (by omega), if_pos (by omega)]) | (rw [if_neg (by omega), if_neg (by omega), if_pos (by omega)]) | (rw [if_neg (by omega), if_neg (by omega), if_neg (by omega), if_pos (by omega)]) | (rw [if_neg (by omega), if_neg (by omega), if_neg (by omega), if_neg (by omega)])) (hK20.le (by omega)))
  intro t21 κ21 hp21 hK21
  refine V_icmp_ne (q := 518) g dL_holds_515 (tgt := 606) (by decide) rfl (by omega) (by omega) (fun h29 => absurd h29 (by omega)) (fun h29 => ?_)
  refine V_iload (q := 520) g dL_holds_518 rfl rfl ?_
  suffices hm30 : ∀ (t30 : Int) (κ30 : Nat × Nat), (((sWhy σ.1 c) ≤ 0 ∧ t30 = 0) ∨ ((sWhy σ.1 c) > 0 ∧ t30 = 1)) → Kb κ30 rm_L_holds (j + 4) → V Γ D Λ M κ30 528 [some (.ref s), some (vi x), some (vi (σ.1 0)), some (vi st), some (vi si), some (vi set), some (vi 1), some (vi c), some (vi (σ.1 (44 + 9 * c))), some (vi (σ.1 (45 + 9 * c))), some (vi (σ.1 (46 + 9 * c))), some (vi (sWn σ.1 c)), some (vi (sLn σ.1 c)), some (vi (sSeat σ.1 c)), some (vi (sIdle σ.1 c)), some (vi (sWhy σ.1 c)), some (vi sum), none, some (vi tilt), none, none, none, none] [vi t30] by
    refine V_if_le (q := 523) g dL_holds_520 (tgt := 527) (by decide) rfl (by omega) (fun h31 => ?_) (fun h31 => ?_)
    · refine V_iconst (q := 528) g dL_holds_527 rfl ?_
      exact V_lvw (lvLe_s (lvLe_s (lvLe_s (lvLe_s (lvLe_s (lvLe_s (lvLe_s (lvLe_s (lvLe_s (lvLe_s (lvLe_s (lvLe_s (lvLe_s (lvLe_s (lvLe_s (lvLe_s (lvLe_s (lvLe_n (lvLe_s (lvLe_n (lvLe_n (lvLe_n (lvLe_n lvLe_0))))))))))))))))))))))) (hm30 _ _ (by omega) (hK21.le (by omega)))
    · refine V_iconst (q := 524) g dL_holds_523 rfl ?_
      refine V_goto g dL_holds_524 (tgt := 528) (by decide) ?_
      exact V_lvw (lvLe_s (lvLe_s (lvLe_s (lvLe_s (lvLe_s (lvLe_s (lvLe_s (lvLe_s (lvLe_s (lvLe_s (lvLe_s (lvLe_s (lvLe_s (lvLe_s (lvLe_s (lvLe_s (lvLe_s (lvLe_n (lvLe_s (lvLe_n (lvLe_n (lvLe_n (lvLe_n lvLe_0))))))))))))))))))))))) (hm30 _ _ (by omega) (hK21.le (by omega)))
  intro t30 κ30 hp30 hK30
  refine V_aload_n (q := 529) g dL_holds_528 rfl rfl ?_
  refine V_bipush (q := 531) g dL_holds_529 (by decide) rfl ?_
  refine V_iload (q := 533) g dL_holds_531 rfl rfl ?_
  refine V_iconst (q := 534) g dL_holds_533 rfl ?_
  refine V_iload_n (q := 535) g dL_holds_534 rfl rfl ?_
  refine V_sipush (q := 538) g dL_holds_535 (by decide) rfl ?_
  refine V_irem (q := 539) g dL_holds_538 (by omega) (by omega) rfl ?_
  refine V_iadd (q := 540) g dL_holds_539 rfl ?_
  refine V_iconst (q := 541) g dL_holds_540 rfl ?_
  refine V_u5 (q := 544) 1 (j + 3) g (cq_21 l hfl hL hS.1 (by omega) (by omega)) dL_holds_541 k_L_192 rfl ⟨by decide, by decide⟩ (hK30.le (by omega)) rfl rfl (fun z32 M32 κ32 e32 hK32 => ?_)
  obtain ⟨e32, ho32, hf32⟩ := e32
  have hs32 : Sp M0 s σ M32 := ⟨ho32, hS.2.tr hf32⟩
  have e32 : z32 = sFail σ.1 c (1 + (x % 200)) := e32.trans (qFl_ok hc (by omega))
  have hfi := fail_iff σ.1 c (1 + (x % 200))
  have hfr := fail_r σ.1 c (1 + (x % 200))
  suffices hm33 : ∀ (t33 : Int) (κ33 : Nat × Nat), ((z32 ≠ 0 ∧ t33 = 0) ∨ (z32 = 0 ∧ t33 = 1)) → Kb κ33 rm_L_holds (j + 3) → V Γ D Λ M32 κ33 552 [some (.ref s), some (vi x), some (vi (σ.1 0)), some (vi st), some (vi si), some (vi set), some (vi 1), some (vi c), some (vi (σ.1 (44 + 9 * c))), some (vi (σ.1 (45 + 9 * c))), some (vi (σ.1 (46 + 9 * c))), some (vi (sWn σ.1 c)), some (vi (sLn σ.1 c)), some (vi (sSeat σ.1 c)), some (vi (sIdle σ.1 c)), some (vi (sWhy σ.1 c)), some (vi sum), none, some (vi tilt), none, none, none, none] [vi t33, vi t30] by
    refine V_if_ne (q := 547) g dL_holds_544 (tgt := 551) (by decide) rfl (by omega) (fun h34 => ?_) (fun h34 => ?_)
    · refine V_iconst (q := 552) g dL_holds_551 rfl ?_
      exact V_lvw (lvLe_s (lvLe_s (lvLe_s (lvLe_s (lvLe_s (lvLe_s (lvLe_s (lvLe_s (lvLe_s (lvLe_s (lvLe_s (lvLe_s (lvLe_s (lvLe_s (lvLe_s (lvLe_s (lvLe_s (lvLe_n (lvLe_s (lvLe_n (lvLe_n (lvLe_n (lvLe_n lvLe_0))))))))))))))))))))))) (hm33 _ _ (by omega) (hK32.le (by omega)))
    · refine V_iconst (q := 548) g dL_holds_547 rfl ?_
      refine V_goto g dL_holds_548 (tgt := 552) (by decide) ?_
      exact V_lvw (lvLe_s (lvLe_s (lvLe_s (lvLe_s (lvLe_s (lvLe_s (lvLe_s (lvLe_s (lvLe_s (lvLe_s (lvLe_s (lvLe_s (lvLe_s (lvLe_s (lvLe_s (lvLe_s (lvLe_s (lvLe_n (lvLe_s (lvLe_n (lvLe_n (lvLe_n (lvLe_n lvLe_0))))))))))))))))))))))) (hm33 _ _ (by omega) (hK32.le (by omega)))
  intro t33 κ33 hp33 hK33
  refine V_icmp_ne (q := 555) g dL_holds_552 (tgt := 606) (by decide) rfl (by omega) (by omega) (fun h35 => absurd h35 (by omega)) (fun h35 => ?_)
  refine V_aload_n (q := 556) g dL_holds_555 rfl rfl ?_
  refine V_bipush (q := 558) g dL_holds_556 (by decide) rfl ?_
  refine V_iload (q := 560) g dL_holds_558 rfl rfl ?_
  refine V_iload (q := 562) g dL_holds_560 rfl rfl ?_
  refine V_iconst (q := 563) g dL_holds_562 rfl ?_
  refine V_u5 (q := 566) 1 (j + 2) g (cq_19 l hfl hL hs32.1 (by omega) (by omega) (by omega)) dL_holds_563 k_L_192 rfl ⟨by decide, by decide⟩ (hK33.le (by omega)) rfl rfl (fun z36 M36 κ36 e36 hK36 => ?_)
  obtain ⟨e36, rfl⟩ := e36
  have e36 : z36 = sWq σ.1 c (σ.1 (45 + 9 * c)) := e36.trans (qTn_1 hc (by omega))
  refine V_iload (q := 568) g dL_holds_566 rfl rfl ?_
  refine V_icmp_gt (q := 571) g dL_holds_568 (tgt := 606) (by decide) rfl (by omega) (by omega) (fun h37 => absurd h37 (by omega)) (fun h37 => ?_)
  refine V_iload (q := 573) g dL_holds_571 rfl rfl ?_
  refine V_iconst (q := 574) g dL_holds_573 rfl ?_
  refine V_icmp_eq (q := 577) g dL_holds_574 (tgt := 602) (by decide) rfl (by omega) (by omega) (fun h38 => ?_) (fun h38 => ?_)
  · refine V_iconst (q := 603) g dL_holds_602 rfl ?_
    refine V_goto g dL_holds_603 (tgt := 607) (by decide) ?_
    refine V_istore_6 (q := 609) g dL_holds_607 (by decide) rfl rfl ?_
    refine V_iinc_7 (q := 612) g dL_holds_609 (by decide) rfl rfl ?_
    refine V_goto g dL_holds_612 (tgt := 36) (by decide) ?_
    exact V_lvw (lvLe_s (lvLe_s (lvLe_s (lvLe_s (lvLe_s (lvLe_s (lvLe_s (lvLe_s (lvLe_n (lvLe_n (lvLe_n (lvLe_n (lvLe_n (lvLe_n (lvLe_n (lvLe_n (lvLe_n (lvLe_n (lvLe_n (lvLe_n (lvLe_n (lvLe_n (lvLe_n lvLe_0))))))))))))))))))))))) (k9 M32 κ36 hs32 (hK36.le (by omega)))
  · refine V_aload_n (q := 578) g dL_holds_577 rfl rfl ?_
    refine V_iconst (q := 579) g dL_holds_578 rfl ?_
    refine V_iload (q := 581) g dL_holds_579 rfl rfl ?_
    refine V_iload (q := 583) g dL_holds_581 rfl rfl ?_
    refine V_iconst (q := 584) g dL_holds_583 rfl ?_
    refine V_u5 (q := 587) 1 (j + 1) g (cq_5 l hfl hL hs32.1 (by omega) (by omega) (by omega)) dL_holds_584 k_L_192 rfl ⟨by decide, by decide⟩ (hK36.le (by omega)) rfl rfl (fun z39 M39 κ39 e39 hK39 => ?_)
    obtain ⟨e39, rfl⟩ := e39
    have e39 : z39 = sRn σ.1 c (sIdle σ.1 c) := e39.trans (qLg_1 hc (by omega))
    refine V_aload_n (q := 588) g dL_holds_587 rfl rfl ?_
    refine V_iconst (q := 589) g dL_holds_588 rfl ?_
    refine V_iload (q := 591) g dL_holds_589 rfl rfl ?_
    refine V_iload (q := 593) g dL_holds_591 rfl rfl ?_
    refine V_iconst (q := 594) g dL_holds_593 rfl ?_
    have hxor := xor_2 (i := sIdle σ.1 c) (by omega)
    refine V_ixor0 (q := 595) g dL_holds_594 rfl ?_
    rw [hxor]
    refine V_iconst (q := 596) g dL_holds_595 rfl ?_
    refine V_u5 (q := 599) 1 (j) g (cq_5 l hfl hL hs32.1 (by omega) (by omega) (by omega)) dL_holds_596 k_L_192 rfl ⟨by decide, by decide⟩ (hK39.le (by omega)) rfl rfl (fun z40 M40 κ40 e40 hK40 => ?_)
    obtain ⟨e40, rfl⟩ := e40
    have e40 : z40 = sRn σ.1 c ((sIdle σ.1 c + 2) % 4) := e40.trans (qLg_1 hc (by omega))
    have hid3 := idle_le (f := σ.1) (c := c) (by omega)
    have hr1 := rn_r hI hc (k := sIdle σ.1 c) (by omega)
    have hr2 := rn_r hI hc (k := (sIdle σ.1 c + 2) % 4) (by omega)
    refine V_icmp_gt (q := 602) g dL_holds_599 (tgt := 606) (by decide) rfl (by omega) (by omega) (fun h41 => absurd h41 (by omega)) (fun h41 => ?_)
    refine V_iconst (q := 603) g dL_holds_602 rfl ?_
    refine V_goto g dL_holds_603 (tgt := 607) (by decide) ?_
    refine V_istore_6 (q := 609) g dL_holds_607 (by decide) rfl rfl ?_
    refine V_iinc_7 (q := 612) g dL_holds_609 (by decide) rfl rfl ?_
    refine V_goto g dL_holds_612 (tgt := 36) (by decide) ?_
    exact V_lvw (lvLe_s (lvLe_s (lvLe_s (lvLe_s (lvLe_s (lvLe_s (lvLe_s (lvLe_s (lvLe_n (lvLe_n (lvLe_n (lvLe_n (lvLe_n (lvLe_n (lvLe_n (lvLe_n (lvLe_n (lvLe_n (lvLe_n (lvLe_n (lvLe_n (lvLe_n (lvLe_n lvLe_0))))))))))))))))))))))) (k9 M32 κ40 hs32 (hK40.le (by omega)))
end HD
set_option maxHeartbeats 8000000 in
set_option maxRecDepth 100000 in
/-- what holds in each office -/
theorem c_L_holds (l : Launch) (hfl : l.stackTraces = false) {D : DD} {Λ : LY} {M : MM} {s : Nat} {σ : SG} {t x : Int} (hL : ClsL D Λ s) (hO : Os M s σ) (hG : Gd t σ.1) (ht : t ≤ 100) (hx : 0 ≤ x ∧ x < 2147483648) : CXI l yL_holds cL_holds 23 .boolean rm_L_holds [.ref s, vi x] D Λ M (fun z M1 => z = 1 ∧ Sp M s σ M1) (fun _ _ => False) := by
  refine CXI_of rfl rfl (Nat.le_of_ble_eq_true rfl) (fun Γ g r => ?_)
  have hK : Kb (0, 0) rm_L_holds 480 := ⟨by decide, by decide⟩
  have hS : Sp M s σ M := ⟨hO, Fr.rf⟩
  obtain ⟨hI, ⟨hB1, hB2⟩, hSo, hC1, hC2, hC3, hC4, hC5, hC6⟩ := id hG
  have hN := hI.1
  have hst : sStamped σ.1 = sStN σ.1 (σ.1 0).toNat := rfl
  have hsi : sSitters σ.1 = sSiN σ.1 (σ.1 0).toNat := rfl
  have hloop : ∀ (n i : Nat) (M2 : MM) (κ : Nat × Nat), (i : Int) + n = σ.1 0 → Sp M s σ M2 → Kb κ rm_L_holds (36 * n + 7) → V Γ D Λ M2 κ 36 [some (.ref s), some (vi x), some (vi (σ.1 0)), some (vi (sStN σ.1 i)), some (vi (sSiN σ.1 i)), some (vi ((sSnd σ.1 (σ.1 0).toNat).toInt)), some (vi 1), some (vi (i : Int)), none, none, none, none, none, none, none, none, none, none, none, none, none, none, none] [] := by
    intro n
    induction n with
    | zero =>
      intro i M2 κ hi hS hK
      have hn9 : i = (σ.1 0).toNat := by omega
      have hs1 := stN hI i (by omega)
      have hs2 := siN_r hC2 i 0 (by omega)
      rw [hn9] at hs1 hs2 hi ⊢
      refine V_iload (q := 38) g dL_holds_36 rfl rfl ?_
      refine V_iload_n (q := 39) g dL_holds_38 rfl rfl ?_
      refine V_icmp_ge (q := 42) g dL_holds_39 (tgt := 615) (by decide) rfl (by omega) (by omega) (fun h101 => ?_) (fun h101 => absurd h101 (by omega))
      refine V_iload (q := 617) g dL_holds_615 rfl rfl ?_
      refine V_if_eq (q := 620) g dL_holds_617 (tgt := 690) (by decide) rfl (by omega) (fun h102 => absurd h102 (by omega)) (fun h102 => ?_)
      refine V_iload_n (q := 621) g dL_holds_620 rfl rfl ?_
      refine V_aload_n (q := 622) g dL_holds_621 rfl rfl ?_
      refine V_iconst (q := 623) g dL_holds_622 rfl ?_
      refine V_iconst (q := 624) g dL_holds_623 rfl ?_
      refine V_iconst (q := 625) g dL_holds_624 rfl ?_
      refine V_iconst (q := 626) g dL_holds_625 rfl ?_
      refine V_u5 (q := 629) 1 (36 * 0 + 6) g (cq_2 l hfl hL hS.1 (by omega)) dL_holds_626 k_L_192 rfl ⟨by decide, by decide⟩ (hK.le (by omega)) rfl rfl (fun z103 M103 κ103 e103 hK103 => ?_)
      obtain ⟨e103, rfl⟩ := e103
      have e103 : z103 = sStamped σ.1 := e103.trans (qAb_2 _)
      refine V_icmp_ne (q := 632) g dL_holds_629 (tgt := 690) (by decide) rfl (by omega) (by omega) (fun h104 => absurd h104 (by omega)) (fun h104 => ?_)
      refine V_iload (q := 634) g dL_holds_632 rfl rfl ?_
      refine V_aload_n (q := 635) g dL_holds_634 rfl rfl ?_
      refine V_iconst (q := 636) g dL_holds_635 rfl ?_
      refine V_bipush (q := 638) g dL_holds_636 (by decide) rfl ?_
      refine V_iconst (q := 639) g dL_holds_638 rfl ?_
      refine V_iconst (q := 640) g dL_holds_639 rfl ?_
      refine V_u5 (q := 643) 1 (36 * 0 + 5) g (cq_2 l hfl hL hS.1 (by omega)) dL_holds_640 k_L_192 rfl ⟨by decide, by decide⟩ (hK103.le (by omega)) rfl rfl (fun z105 M105 κ105 e105 hK105 => ?_)
      obtain ⟨e105, rfl⟩ := e105
      have e105 : z105 = σ.1 6 := e105.trans (qAb_7 _)
      refine V_icmp_ne (q := 646) g dL_holds_643 (tgt := 690) (by decide) rfl (by omega) (by omega) (fun h106 => absurd h106 (by omega)) (fun h106 => ?_)
      refine V_aload_n (q := 647) g dL_holds_646 rfl rfl ?_
      refine V_iconst (q := 648) g dL_holds_647 rfl ?_
      refine V_iconst (q := 649) g dL_holds_648 rfl ?_
      refine V_iconst (q := 650) g dL_holds_649 rfl ?_
      refine V_iconst (q := 651) g dL_holds_650 rfl ?_
      refine V_u5 (q := 654) 1 (36 * 0 + 4) g (cq_2 l hfl hL hS.1 (by omega)) dL_holds_651 k_L_192 rfl ⟨by decide, by decide⟩ (hK105.le (by omega)) rfl rfl (fun z107 M107 κ107 e107 hK107 => ?_)
      obtain ⟨e107, rfl⟩ := e107
      have e107 : z107 = σ.1 3 := e107.trans (qAb_4 _)
      refine V_iload_n (q := 655) g dL_holds_654 rfl rfl ?_
      refine V_aload_n (q := 656) g dL_holds_655 rfl rfl ?_
      refine V_iconst (q := 657) g dL_holds_656 rfl ?_
      refine V_iconst (q := 658) g dL_holds_657 rfl ?_
      refine V_iconst (q := 659) g dL_holds_658 rfl ?_
      refine V_iconst (q := 660) g dL_holds_659 rfl ?_
      refine V_u5 (q := 663) 1 (36 * 0 + 3) g (cq_2 l hfl hL hS.1 (by omega)) dL_holds_660 k_L_192 rfl ⟨by decide, by decide⟩ (hK107.le (by omega)) rfl rfl (fun z108 M108 κ108 e108 hK108 => ?_)
      obtain ⟨e108, rfl⟩ := e108
      have e108 : z108 = σ.1 4 := e108.trans (qAb_5 _)
      refine V_iadd (q := 664) g dL_holds_663 rfl ?_
      refine V_icmp_ne (q := 667) g dL_holds_664 (tgt := 690) (by decide) rfl (by omega) (by omega) (fun h109 => absurd h109 (by omega)) (fun h109 => ?_)
      refine V_aload_n (q := 668) g dL_holds_667 rfl rfl ?_
      refine V_iconst (q := 669) g dL_holds_668 rfl ?_
      refine V_iconst (q := 670) g dL_holds_669 rfl ?_
      refine V_iconst (q := 671) g dL_holds_670 rfl ?_
      refine V_iconst (q := 672) g dL_holds_671 rfl ?_
      refine V_u5 (q := 675) 1 (36 * 0 + 2) g (cq_2 l hfl hL hS.1 (by omega)) dL_holds_672 k_L_192 rfl ⟨by decide, by decide⟩ (hK108.le (by omega)) rfl rfl (fun z110 M110 κ110 e110 hK110 => ?_)
      obtain ⟨e110, rfl⟩ := e110
      have e110 : z110 = σ.1 3 := e110.trans (qAb_4 _)
      refine V_aload_n (q := 676) g dL_holds_675 rfl rfl ?_
      refine V_iconst (q := 677) g dL_holds_676 rfl ?_
      refine V_iconst (q := 678) g dL_holds_677 rfl ?_
      refine V_iconst (q := 679) g dL_holds_678 rfl ?_
      refine V_iconst (q := 680) g dL_holds_679 rfl ?_
      refine V_u5 (q := 683) 1 (36 * 0 + 1) g (cq_2 l hfl hL hS.1 (by omega)) dL_holds_680 k_L_192 rfl ⟨by decide, by decide⟩ (hK110.le (by omega)) rfl rfl (fun z111 M111 κ111 e111 hK111 => ?_)
      obtain ⟨e111, rfl⟩ := e111
      have e111 : z111 = σ.1 2 := e111.trans (qAb_3 _)
      refine V_icmp_gt (q := 686) g dL_holds_683 (tgt := 690) (by decide) rfl (by omega) (by omega) (fun h112 => absurd h112 (by omega)) (fun h112 => ?_)
      refine V_iconst (q := 687) g dL_holds_686 rfl ?_
      refine V_goto g dL_holds_687 (tgt := 691) (by decide) ?_
      exact V_r0 g r hK111 dL_holds_691 rfl ⟨rfl, hS⟩
    | succ n ih =>
      intro i M2 κ hi hS hK
      have hc : 0 ≤ (i : Int) ∧ (i : Int) < σ.1 0 := by omega
      obtain ⟨hg9, hf9, hq9, hs9, hl9⟩ := hI.2.2.2.2.2.2 i hc.1 hc.2
      have hl0 := hl9 0 (by decide) (by decide)
      have hl1 := hl9 1 (by decide) (by decide)
      have hl2 := hl9 2 (by decide) (by decide)
      have hl3 := hl9 3 (by decide) (by decide)
      have hr0 := rn_r hI hc (k := 0) (by decide)
      have hr1 := rn_r hI hc (k := 1) (by decide)
      have hr2 := rn_r hI hc (k := 2) (by decide)
      have hr3 := rn_r hI hc (k := 3) (by decide)
      refine hd_top (j := 36 * n + 33) hfl g hL hc hx hS (hK.le (by omega)) (fun M3 κ3 hS hK => ?_)
      refine hd_leg (j := 36 * n + 29) hfl g hL hc hx (k := 0) (by decide) (by decide) hS (hK.le (by omega)) (fun l0 t0 M3 κ3 hl hp0 hS hK => ?_)
      obtain rfl : t0 = sRn σ.1 i 0 := by omega
      refine hd_leg (j := 36 * n + 25) hfl g hL hc hx (k := 1) (by decide) hl hS (hK.le (by omega)) (fun l1 t1 M3 κ3 hl hp1 hS hK => ?_)
      obtain rfl : t1 = -(sRn σ.1 i 1) := by omega
      refine hd_leg (j := 36 * n + 21) hfl g hL hc hx (k := 2) (by decide) hl hS (hK.le (by omega)) (fun l2 t2 M3 κ3 hl hp2 hS hK => ?_)
      obtain rfl : t2 = sRn σ.1 i 2 := by omega
      refine hd_leg (j := 36 * n + 17) hfl g hL hc hx (k := 3) (by decide) hl hS (hK.le (by omega)) (fun l3 t3 M3 κ3 hl hp3 hS hK => ?_)
      obtain rfl : t3 = -(sRn σ.1 i 3) := by omega
      show V Γ D Λ M3 κ3 178 [some (.ref s), some (vi x), some (vi (σ.1 0)), some (vi (sStN σ.1 i + σ.1 (47 + 9 * (i : Int)))), some (vi (sSiN σ.1 i + σ.1 (48 + 9 * (i : Int)))), some (vi ((sSnd σ.1 (σ.1 0).toNat).toInt)), some (vi 1), some (vi (i : Int)), some (vi (σ.1 (44 + 9 * (i : Int)))), some (vi (σ.1 (45 + 9 * (i : Int)))), some (vi (σ.1 (46 + 9 * (i : Int)))), some (vi (sWn σ.1 (i : Int))), some (vi (sLn σ.1 (i : Int))), some (vi (sSeat σ.1 (i : Int))), some (vi (sIdle σ.1 (i : Int))), some (vi (sWhy σ.1 (i : Int))), some (vi (0 + σ.1 (49 + 9 * (i : Int) + 0) + σ.1 (49 + 9 * (i : Int) + 1) + σ.1 (49 + 9 * (i : Int) + 2) + σ.1 (49 + 9 * (i : Int) + 3))), some (vi l3), some (vi (0 + sRn σ.1 (i : Int) 0 + -(sRn σ.1 (i : Int) 1) + sRn σ.1 (i : Int) 2 + -(sRn σ.1 (i : Int) 3))), some (vi 4), none, none, none] []
      refine V_iload (q := 180) g dL_holds_178 rfl rfl ?_
      refine V_iconst (q := 181) g dL_holds_180 rfl ?_
      refine V_icmp_ge (q := 184) g dL_holds_181 (tgt := 327) (by decide) rfl (by omega) (by omega) (fun h701 => ?_) (fun h701 => absurd h701 (by omega))
      refine V_lvw (lvLe_s (lvLe_s (lvLe_s (lvLe_s (lvLe_s (lvLe_s (lvLe_s (lvLe_s (lvLe_s (lvLe_s (lvLe_s (lvLe_s (lvLe_s (lvLe_s (lvLe_s (lvLe_s (lvLe_s (lvLe_n (lvLe_s (lvLe_n (lvLe_n (lvLe_n (lvLe_n lvLe_0))))))))))))))))))))))) ?_
      refine hd_bot (j := 36 * n + 7) (bt := if sWhy σ.1 i = 0 then 1 else 0) hfl g hL hc hx (by omega) (hd_seat σ.1 i) (by omega) (hd_tilt σ.1 i) (snd_at σ.1 (by omega) (by omega)) ?_ (hSo i hc.1 hc.2) hS (hK.le (by omega)) (fun M3 κ3 hS hK => ?_)
      · by_cases hw9 : sWhy σ.1 i = 0
        · rw [if_pos hw9]
          exact Or.inl ⟨hw9, rfl⟩
        · rw [if_neg hw9]
          exact Or.inr ⟨hw9, rfl⟩
      · exact ih (i + 1) _ _ (by omega) hS hK
  refine V_aload_n (q := 1) g dL_holds_0 rfl rfl ?_
  refine V_iconst (q := 2) g dL_holds_1 rfl ?_
  refine V_iconst (q := 3) g dL_holds_2 rfl ?_
  refine V_iconst (q := 4) g dL_holds_3 rfl ?_
  refine V_iconst (q := 5) g dL_holds_4 rfl ?_
  refine V_u5 (q := 8) 1 (470 + 9) g (cq_2 l hfl hL hS.1 (by omega)) dL_holds_5 k_L_192 rfl ⟨by decide, by decide⟩ (hK.le (by omega)) rfl rfl (fun z1 M1 κ1 e1 hK1 => ?_)
  obtain ⟨e1, rfl⟩ := e1
  have e1 : z1 = σ.1 0 := e1.trans (qAb_0 _)
  subst e1
  refine V_istore_n_2 (q := 9) g dL_holds_8 (by decide) rfl rfl ?_
  refine V_iconst (q := 10) g dL_holds_9 rfl ?_
  refine V_istore_n_3 (q := 11) g dL_holds_10 (by decide) rfl rfl ?_
  refine V_iconst (q := 12) g dL_holds_11 rfl ?_
  refine V_istore_4 (q := 14) g dL_holds_12 (by decide) rfl rfl ?_
  refine V_aload_n (q := 15) g dL_holds_14 rfl rfl ?_
  refine V_us (q := 18) g (c_X4_sound l hL hS.1.1.1 hS.1.1.2) dL_holds_15 k_L_209 hL.1 rfl rfl rfl ⟨rfl, rfl⟩ hK1 rfl rfl (fun z2 M2 e2 => ?_)
  obtain ⟨e2, rfl⟩ := e2
  subst e2
  refine V_istore_5 (q := 20) g dL_holds_18 (by decide) rfl rfl ?_
  refine V_iload_n (q := 21) g dL_holds_20 rfl rfl ?_
  refine V_bipush (q := 23) g dL_holds_21 (by decide) rfl ?_
  refine V_icmp_gt (q := 26) g dL_holds_23 (tgt := 30) (by decide) rfl (by omega) (by omega) (fun h3 => absurd h3 (by omega)) (fun h3 => ?_)
  refine V_iconst (q := 27) g dL_holds_26 rfl ?_
  refine V_goto g dL_holds_27 (tgt := 31) (by decide) ?_
  refine V_istore_6 (q := 33) g dL_holds_31 (by decide) rfl rfl ?_
  refine V_iconst (q := 34) g dL_holds_33 rfl ?_
  refine V_istore_7 (q := 36) g dL_holds_34 (by decide) rfl rfl ?_
  exact hloop (σ.1 0).toNat 0 _ _ (by omega) hS (hK1.le (by omega))
