theorem kb_room {κ : Nat × Nat} {n : Nat} (h : Kb κ room_1 n) : κ.1 ≤ 934783 ∧ κ.2 ≤ 6297275 := ⟨Nat.le_trans (Nat.le_add_right _ _) h.1, Nat.le_trans (Nat.le_add_right _ _) h.2⟩
section LP
variable {Γ : VG} {D : DD} {Λ : LY} {l : Launch} {s t b L : Nat} {xs : Nat → Int32}
set_option maxHeartbeats 8000000 in
set_option maxRecDepth 100000 in
/-- the things done, one behind another -/
theorem lw_loop (hfl : l.stackTraces = false) (hLx : L ≤ 1000) (g : VOk Γ D Λ RL cL_law 9 l room_1) (he : Ex b L xs (Aw Λ (gs Γ).heap.size) (gs Γ) (gs Γ).heap) (hd : s + 217 ≤ t ∨ t + 217 ≤ s) (hL : ClsL D Λ s) (hL2 : ClsL D Λ t) (hend : ∀ (M : MM) (κ : Nat × Nat) (lv : List (Option Value)), κ.1 ≤ 934783 ∧ κ.2 ≤ 6297275 → V Γ D Λ M κ 311 lv [vi 1]) {turns : Int} (htu : 0 ≤ turns ∧ turns ≤ 40) : ∀ (n : Nat) (k : Int) (σ : SG) (M : MM) (κ : Nat × Nat), k + n = turns → 0 ≤ k → GC k σ → Os M s σ → Os M t σ → Kb κ room_1 (1100 * n) → V Γ D Λ M κ 159 [some (.ref b), some (.ref s), some (.ref t), some (vi turns), none, some (vi 1), some (vi k), none, none] [] := by
  intro n
  induction n with
  | zero =>
    intro k σ M κ hk hk0 hG hO hQ hK
    refine V_iload (q := 161) g dL_law_159 rfl rfl ?_
    refine V_iload_n (q := 162) g dL_law_161 rfl rfl ?_
    refine V_icmp_ge (q := 165) g dL_law_162 (tgt := 309) (by decide) rfl (by omega) (by omega) (fun h101 => ?_) (fun h101 => absurd h101 (by omega))
    refine V_iload (q := 311) g dL_law_309 rfl rfl ?_
    exact hend _ _ _ (kb_room hK)
  | succ n ih =>
    intro k σ M κ hk hk0 hG hO hQ hK
    refine V_iload (q := 161) g dL_law_159 rfl rfl ?_
    refine V_iload_n (q := 162) g dL_law_161 rfl rfl ?_
    refine V_icmp_ge (q := 165) g dL_law_162 (tgt := 309) (by decide) rfl (by omega) (by omega) (fun h101 => absurd h101 (by omega)) (fun h101 => ?_)
    refine V_iload (q := 167) g dL_law_165 rfl rfl ?_
    refine V_if_eq (q := 170) g dL_law_167 (tgt := 309) (by decide) rfl (by omega) (fun h102 => absurd h102 (by omega)) (fun h102 => ?_)
    refine V_aload_n (q := 171) g dL_law_170 rfl rfl ?_
    refine V_iconst (q := 172) g dL_law_171 rfl ?_
    refine V_iload (q := 174) g dL_law_172 rfl rfl ?_
    refine V_iadd (q := 175) g dL_law_174 rfl ?_
    refine V_uce (q := 178) g (Ex_ok b L xs) he (c_L_cell l hLx (by omega)) dL_law_175 k_L_216 rfl ⟨rfl, rfl⟩ hK rfl rfl (fun z103 M103 e103 => ?_)
    obtain ⟨e103, rfl⟩ := e103
    refine V_istore_7 (q := 180) g dL_law_178 (by decide) rfl rfl ?_
    refine V_aload_n (q := 181) g dL_law_180 rfl rfl ?_
    refine V_iload (q := 183) g dL_law_181 rfl rfl ?_
    refine V_u2 (q := 186) 8 (1100 * n + 1092) g (c_L_act l hfl hL hO (by omega) hG.2) dL_law_183 k_L_220 rfl ⟨by decide, by decide⟩ (hK.le (by omega)) rfl rfl (fun z104 M104 κ104 e104 hK104 => ?_)
    obtain ⟨e104, hs104, hf104⟩ := e104
    rw [vi_nz z104]
    have hx104 := hQ.fr hf104 (by omega)
    have hGa := hG.act (x := z103)
    refine V_istore_8 (q := 188) g dL_law_186 (by decide) rfl rfl ?_
    refine V_aload_n (q := 189) g dL_law_188 rfl rfl ?_
    refine V_iload (q := 191) g dL_law_189 rfl rfl ?_
    refine V_ldc (q := 193) g dL_law_191 (z := 100000) q_L_223 (by decide) rfl ?_
    refine V_irem (q := 194) g dL_law_193 (by omega) (by omega) rfl ?_
    refine V_u2 (q := 197) 80 (1100 * n + 1012) g (c_L_refuses l hfl hL2 hx104 (by omega) hG.2) dL_law_194 k_L_224 rfl ⟨by decide, by decide⟩ (hK104.le (by omega)) rfl rfl (fun z105 M105 κ105 e105 hK105 => ?_)
    obtain ⟨rfl, hs105, hf105⟩ := e105
    have hx105 := hs104.fr hf105 (by omega)
    refine V_if_eq (q := 200) g dL_law_197 (tgt := 300) (by decide) rfl (by omega) (fun h106 => absurd h106 (by omega)) (fun h106 => ?_)
    refine V_aload_n (q := 201) g dL_law_200 rfl rfl ?_
    refine V_iload (q := 203) g dL_law_201 rfl rfl ?_
    refine V_u2 (q := 206) 8 (1100 * n + 1004) g (c_L_act l hfl hL2 hs105 (by omega) hG.2) dL_law_203 k_L_220 rfl ⟨by decide, by decide⟩ (hK105.le (by omega)) rfl rfl (fun z107 M107 κ107 e107 hK107 => ?_)
    obtain ⟨e107, hs107, hf107⟩ := e107
    rw [vi_nz z107]
    have hx107 := hx105.fr hf107 (by omega)
    refine V_iload (q := 208) g dL_law_206 rfl rfl ?_
    refine V_icmp_ne (q := 211) g dL_law_208 (tgt := 300) (by decide) rfl (nz_r _) (nz_r _) (fun h108 => absurd h108 (by exact fun q => q (congrArg nz (e107.trans e104.symm)))) (fun h108 => ?_)
    refine V_aload_n (q := 212) g dL_law_211 rfl rfl ?_
    refine V_iload (q := 214) g dL_law_212 rfl rfl ?_
    refine V_sipush (q := 217) g dL_law_214 (by decide) rfl ?_
    refine V_irem (q := 218) g dL_law_217 (by omega) (by omega) rfl ?_
    refine V_u2 (q := 221) 80 (1100 * n + 924) g (c_L_refuses l hfl hL2 hs107 (by omega) hGa.2) dL_law_218 k_L_224 rfl ⟨by decide, by decide⟩ (hK107.le (by omega)) rfl rfl (fun z109 M109 κ109 e109 hK109 => ?_)
    obtain ⟨rfl, hs109, hf109⟩ := e109
    have hx109 := hx107.fr hf109 (by omega)
    refine V_if_eq (q := 224) g dL_law_221 (tgt := 300) (by decide) rfl (by omega) (fun h110 => absurd h110 (by omega)) (fun h110 => ?_)
    refine V_aload_n (q := 225) g dL_law_224 rfl rfl ?_
    refine V_aload_n (q := 226) g dL_law_225 rfl rfl ?_
    refine V_iload (q := 228) g dL_law_226 rfl rfl ?_
    refine V_sipush (q := 231) g dL_law_228 (by decide) rfl ?_
    refine V_irem (q := 232) g dL_law_231 (by omega) (by omega) rfl ?_
    refine V_u3 (q := 235) 140 (1100 * n + 784) g (c_L_alike l hfl hL hL2 hd hx109 hs109 (by omega)) dL_law_232 k_L_228 rfl ⟨by decide, by decide⟩ (hK109.le (by omega)) rfl rfl (fun z111 M111 κ111 e111 hK111 => ?_)
    obtain ⟨rfl, hs111, hx111⟩ := e111
    refine V_if_eq (q := 238) g dL_law_235 (tgt := 300) (by decide) rfl (by omega) (fun h112 => absurd h112 (by omega)) (fun h112 => ?_)
    refine V_iload (q := 240) g dL_law_238 rfl rfl ?_
    refine V_iconst (q := 241) g dL_law_240 rfl ?_
    refine V_irem (q := 242) g dL_law_241 (by omega) (by omega) rfl ?_
    refine V_if_ne (q := 245) g dL_law_242 (tgt := 259) (by decide) rfl (by omega) (fun h113 => ?_) (fun h113 => ?_)
    · refine V_aload_n (q := 260) g dL_law_259 rfl rfl ?_
      refine V_iload (q := 262) g dL_law_260 rfl rfl ?_
      refine V_iconst (q := 263) g dL_law_262 rfl ?_
      refine V_idiv (q := 264) g dL_law_263 (by omega) (by omega) rfl ?_
      refine V_u2 (q := 267) 480 (1100 * n + 304) g (c_L_holds l hfl hL2 hx111 hGa.1.1 (by omega) (by omega)) dL_law_264 k_L_232 rfl ⟨by decide, by decide⟩ (hK111.le (by omega)) rfl rfl (fun z114 M114 κ114 e114 hK114 => ?_)
      obtain ⟨rfl, hs114, hf114⟩ := e114
      have hx114 := hs111.fr hf114 (by omega)
      refine V_if_eq (q := 270) g dL_law_267 (tgt := 300) (by decide) rfl (by omega) (fun h115 => absurd h115 (by omega)) (fun h115 => ?_)
      refine V_aload_n (q := 271) g dL_law_270 rfl rfl ?_
      refine V_aload_n (q := 272) g dL_law_271 rfl rfl ?_
      refine V_iload (q := 274) g dL_law_272 rfl rfl ?_
      refine V_bipush (q := 276) g dL_law_274 (by decide) rfl ?_
      refine V_idiv (q := 277) g dL_law_276 (by omega) (by omega) rfl ?_
      refine V_u3 (q := 280) 120 (1100 * n + 184) g (c_L_turned l hfl hd hL hL2 hx114 hs114 hGa.2 (by omega)) dL_law_277 k_L_235 rfl ⟨by decide, by decide⟩ (hK114.le (by omega)) rfl rfl (fun z116 M116 κ116 e116 hK116 => ?_)
      obtain ⟨rfl, σ116, hT116, hs116, hx116⟩ := e116
      have hG116 := hGa.lt hT116
      refine V_if_eq (q := 283) g dL_law_280 (tgt := 300) (by decide) rfl (by omega) (fun h117 => absurd h117 (by omega)) (fun h117 => ?_)
      refine V_aload_n (q := 284) g dL_law_283 rfl rfl ?_
      refine V_aload_n (q := 285) g dL_law_284 rfl rfl ?_
      refine V_iload (q := 287) g dL_law_285 rfl rfl ?_
      refine V_bipush (q := 289) g dL_law_287 (by decide) rfl ?_
      refine V_idiv (q := 290) g dL_law_289 (by omega) (by omega) rfl ?_
      refine V_u3 (q := 293) 160 (1100 * n + 24) g (c_L_sits l hfl hd hL hL2 hs116 hx116 hG116.1.1 (by omega) hG116.2 (by omega)) dL_law_290 k_L_238 rfl ⟨by decide, by decide⟩ (hK116.le (by omega)) rfl rfl (fun z118 M118 κ118 e118 hK118 => ?_)
      obtain ⟨rfl, σ118, hT118, hs118, hx118⟩ := e118
      have hG118 := hG116.lt hT118
      refine V_if_eq (q := 296) g dL_law_293 (tgt := 300) (by decide) rfl (by omega) (fun h119 => absurd h119 (by omega)) (fun h119 => ?_)
      refine V_iconst (q := 297) g dL_law_296 rfl ?_
      refine V_goto g dL_law_297 (tgt := 301) (by decide) ?_
      refine V_istore_5 (q := 303) g dL_law_301 (by decide) rfl rfl ?_
      refine V_iinc_6 (q := 306) g dL_law_303 (by decide) rfl rfl ?_
      refine V_goto g dL_law_306 (tgt := 159) (by decide) ?_
      exact V_lvw (lvLe_s (lvLe_s (lvLe_s (lvLe_s (lvLe_n (lvLe_s (lvLe_s (lvLe_n (lvLe_n lvLe_0))))))))) (ih (k + 1) _ _ _ (by omega) (by omega) hG118 hs118 hx118 (hK118.le (by omega)))
    · refine V_aload_n (q := 246) g dL_law_245 rfl rfl ?_
      refine V_iload (q := 248) g dL_law_246 rfl rfl ?_
      refine V_iconst (q := 249) g dL_law_248 rfl ?_
      refine V_idiv (q := 250) g dL_law_249 (by omega) (by omega) rfl ?_
      refine V_u2 (q := 253) 480 (1100 * n + 304) g (c_L_holds l hfl hL hs111 hGa.1.1 (by omega) (by omega)) dL_law_250 k_L_232 rfl ⟨by decide, by decide⟩ (hK111.le (by omega)) rfl rfl (fun z120 M120 κ120 e120 hK120 => ?_)
      obtain ⟨rfl, hs120, hf120⟩ := e120
      have hx120 := hx111.fr hf120 (by omega)
      refine V_if_eq (q := 256) g dL_law_253 (tgt := 300) (by decide) rfl (by omega) (fun h121 => absurd h121 (by omega)) (fun h121 => ?_)
      refine V_goto g dL_law_256 (tgt := 270) (by decide) ?_
      refine V_aload_n (q := 271) g dL_law_270 rfl rfl ?_
      refine V_aload_n (q := 272) g dL_law_271 rfl rfl ?_
      refine V_iload (q := 274) g dL_law_272 rfl rfl ?_
      refine V_bipush (q := 276) g dL_law_274 (by decide) rfl ?_
      refine V_idiv (q := 277) g dL_law_276 (by omega) (by omega) rfl ?_
      refine V_u3 (q := 280) 120 (1100 * n + 184) g (c_L_turned l hfl hd hL hL2 hs120 hx120 hGa.2 (by omega)) dL_law_277 k_L_235 rfl ⟨by decide, by decide⟩ (hK120.le (by omega)) rfl rfl (fun z122 M122 κ122 e122 hK122 => ?_)
      obtain ⟨rfl, σ122, hT122, hs122, hx122⟩ := e122
      have hG122 := hGa.lt hT122
      refine V_if_eq (q := 283) g dL_law_280 (tgt := 300) (by decide) rfl (by omega) (fun h123 => absurd h123 (by omega)) (fun h123 => ?_)
      refine V_aload_n (q := 284) g dL_law_283 rfl rfl ?_
      refine V_aload_n (q := 285) g dL_law_284 rfl rfl ?_
      refine V_iload (q := 287) g dL_law_285 rfl rfl ?_
      refine V_bipush (q := 289) g dL_law_287 (by decide) rfl ?_
      refine V_idiv (q := 290) g dL_law_289 (by omega) (by omega) rfl ?_
      refine V_u3 (q := 293) 160 (1100 * n + 24) g (c_L_sits l hfl hd hL hL2 hs122 hx122 hG122.1.1 (by omega) hG122.2 (by omega)) dL_law_290 k_L_238 rfl ⟨by decide, by decide⟩ (hK122.le (by omega)) rfl rfl (fun z124 M124 κ124 e124 hK124 => ?_)
      obtain ⟨rfl, σ124, hT124, hs124, hx124⟩ := e124
      have hG124 := hG122.lt hT124
      refine V_if_eq (q := 296) g dL_law_293 (tgt := 300) (by decide) rfl (by omega) (fun h125 => absurd h125 (by omega)) (fun h125 => ?_)
      refine V_iconst (q := 297) g dL_law_296 rfl ?_
      refine V_goto g dL_law_297 (tgt := 301) (by decide) ?_
      refine V_istore_5 (q := 303) g dL_law_301 (by decide) rfl rfl ?_
      refine V_iinc_6 (q := 306) g dL_law_303 (by decide) rfl rfl ?_
      refine V_goto g dL_law_306 (tgt := 159) (by decide) ?_
      exact V_lvw (lvLe_s (lvLe_s (lvLe_s (lvLe_s (lvLe_n (lvLe_s (lvLe_s (lvLe_n (lvLe_n lvLe_0))))))))) (ih (k + 1) _ _ _ (by omega) (by omega) hG124 hs124 hx124 (hK124.le (by omega)))
set_option maxHeartbeats 8000000 in
set_option maxRecDepth 100000 in
theorem lw_begin (hfl : l.stackTraces = false) (hLx : L ≤ 1000) (g : VOk Γ D Λ RL cL_law 9 l room_1) (he : Ex b L xs (Aw Λ (gs Γ).heap.size) (gs Γ) (gs Γ).heap) (hd : s + 217 ≤ t ∨ t + 217 ≤ s) (hL : ClsL D Λ s) (hL2 : ClsL D Λ t) (hend : ∀ (M : MM) (κ : Nat × Nat) (lv : List (Option Value)), κ.1 ≤ 934783 ∧ κ.2 ≤ 6297275 → V Γ D Λ M κ 311 lv [vi 1]) {M : MM} {κ : Nat × Nat} (hO : Os M s s0) (hQ : Os M t s0) (hK : Kb κ room_1 (1100 * 40 + 4)) : V Γ D Λ M κ 16 [some (.ref b), some (.ref s), some (.ref t), none, none, none, none, none, none] [] := by
  refine V_bipush (q := 18) g dL_law_16 (by decide) rfl ?_
  refine V_aload_n (q := 19) g dL_law_18 rfl rfl ?_
  refine V_iconst (q := 20) g dL_law_19 rfl ?_
  refine V_uce (q := 23) g (Ex_ok b L xs) he (c_L_cell l hLx (by omega)) dL_law_20 k_L_216 rfl ⟨rfl, rfl⟩ hK rfl rfl (fun z1 M1 e1 => ?_)
  obtain ⟨e1, rfl⟩ := e1
  refine V_bipush (q := 25) g dL_law_23 (by decide) rfl ?_
  refine V_irem (q := 26) g dL_law_25 (by omega) (by omega) rfl ?_
  refine V_iadd (q := 27) g dL_law_26 rfl ?_
  refine V_istore_n_3 (q := 28) g dL_law_27 (by decide) rfl rfl ?_
  refine V_aload_n (q := 29) g dL_law_28 rfl rfl ?_
  refine V_iconst (q := 30) g dL_law_29 rfl ?_
  refine V_uce (q := 33) g (Ex_ok b L xs) he (c_L_cell l hLx (by omega)) dL_law_30 k_L_216 rfl ⟨rfl, rfl⟩ hK rfl rfl (fun z2 M2 e2 => ?_)
  obtain ⟨e2, rfl⟩ := e2
  obtain ⟨hga, hgb, hgc, hgd⟩ := GC_two (a := (z2 % 4)) (b := (400 + ((z2 / 4) % 101))) (c := ((z2 / 404) % 4)) (d := (400 + ((z2 / 1616) % 101))) (by omega) (by omega) (by omega) (by omega)
  refine V_istore_4 (q := 35) g dL_law_33 (by decide) rfl rfl ?_
  refine V_aload_n (q := 36) g dL_law_35 rfl rfl ?_
  refine V_bipush (q := 38) g dL_law_36 (by decide) rfl ?_
  refine V_iload (q := 40) g dL_law_38 rfl rfl ?_
  refine V_iconst (q := 41) g dL_law_40 rfl ?_
  refine V_irem (q := 42) g dL_law_41 (by omega) (by omega) rfl ?_
  refine V_sipush (q := 45) g dL_law_42 (by decide) rfl ?_
  refine V_iload (q := 47) g dL_law_45 rfl rfl ?_
  refine V_iconst (q := 48) g dL_law_47 rfl ?_
  refine V_idiv (q := 49) g dL_law_48 (by omega) (by omega) rfl ?_
  refine V_bipush (q := 51) g dL_law_49 (by decide) rfl ?_
  refine V_irem (q := 52) g dL_law_51 (by omega) (by omega) rfl ?_
  refine V_iadd (q := 53) g dL_law_52 rfl ?_
  refine V_iconst (q := 54) g dL_law_53 rfl ?_
  refine V_u5 (q := 57) 1 (1100 * 40 + 3) g (cq_9 l hfl hL hO (by omega) (by omega)) dL_law_54 k_L_192 rfl ⟨by decide, by decide⟩ (hK.le (by omega)) rfl rfl (fun z3 M3 κ3 e3 hK3 => ?_)
  obtain ⟨e3, hs3, hf3⟩ := e3
  rw [show (nComes s0 (z2 % 4) (400 + ((z2 / 4) % 101))) = (push s0 (fChair fNew (z2 % 4) (400 + ((z2 / 4) % 101)))) from hgb] at hs3
  have hx3_t := hQ.fr hf3 (by omega)
  have e3 : z3 = 0 := e3.trans (hga)
  refine V_if_ne (q := 60) g dL_law_57 (tgt := 153) (by decide) rfl (by omega) (fun h4 => absurd h4 (by omega)) (fun h4 => ?_)
  refine V_aload_n (q := 61) g dL_law_60 rfl rfl ?_
  refine V_bipush (q := 63) g dL_law_61 (by decide) rfl ?_
  refine V_iload (q := 65) g dL_law_63 rfl rfl ?_
  refine V_iconst (q := 66) g dL_law_65 rfl ?_
  refine V_irem (q := 67) g dL_law_66 (by omega) (by omega) rfl ?_
  refine V_sipush (q := 70) g dL_law_67 (by decide) rfl ?_
  refine V_iload (q := 72) g dL_law_70 rfl rfl ?_
  refine V_iconst (q := 73) g dL_law_72 rfl ?_
  refine V_idiv (q := 74) g dL_law_73 (by omega) (by omega) rfl ?_
  refine V_bipush (q := 76) g dL_law_74 (by decide) rfl ?_
  refine V_irem (q := 77) g dL_law_76 (by omega) (by omega) rfl ?_
  refine V_iadd (q := 78) g dL_law_77 rfl ?_
  refine V_iconst (q := 79) g dL_law_78 rfl ?_
  refine V_u5 (q := 82) 1 (1100 * 40 + 2) g (cq_9 l hfl hL2 hx3_t (by omega) (by omega)) dL_law_79 k_L_192 rfl ⟨by decide, by decide⟩ (hK3.le (by omega)) rfl rfl (fun z5 M5 κ5 e5 hK5 => ?_)
  obtain ⟨e5, hs5, hf5⟩ := e5
  rw [show (nComes s0 (z2 % 4) (400 + ((z2 / 4) % 101))) = (push s0 (fChair fNew (z2 % 4) (400 + ((z2 / 4) % 101)))) from hgb] at hs5
  have hx5_s := hs3.fr hf5 (by omega)
  have e5 : z5 = 0 := e5.trans (hga)
  refine V_if_ne (q := 85) g dL_law_82 (tgt := 153) (by decide) rfl (by omega) (fun h6 => absurd h6 (by omega)) (fun h6 => ?_)
  refine V_aload_n (q := 86) g dL_law_85 rfl rfl ?_
  refine V_bipush (q := 88) g dL_law_86 (by decide) rfl ?_
  refine V_iload (q := 90) g dL_law_88 rfl rfl ?_
  refine V_sipush (q := 93) g dL_law_90 (by decide) rfl ?_
  refine V_idiv (q := 94) g dL_law_93 (by omega) (by omega) rfl ?_
  refine V_iconst (q := 95) g dL_law_94 rfl ?_
  refine V_irem (q := 96) g dL_law_95 (by omega) (by omega) rfl ?_
  refine V_sipush (q := 99) g dL_law_96 (by decide) rfl ?_
  refine V_iload (q := 101) g dL_law_99 rfl rfl ?_
  refine V_sipush (q := 104) g dL_law_101 (by decide) rfl ?_
  refine V_idiv (q := 105) g dL_law_104 (by omega) (by omega) rfl ?_
  refine V_bipush (q := 107) g dL_law_105 (by decide) rfl ?_
  refine V_irem (q := 108) g dL_law_107 (by omega) (by omega) rfl ?_
  refine V_iadd (q := 109) g dL_law_108 rfl ?_
  refine V_iconst (q := 110) g dL_law_109 rfl ?_
  refine V_u5 (q := 113) 1 (1100 * 40 + 1) g (cq_9 l hfl hL hx5_s (by omega) (by omega)) dL_law_110 k_L_192 rfl ⟨by decide, by decide⟩ (hK5.le (by omega)) rfl rfl (fun z7 M7 κ7 e7 hK7 => ?_)
  obtain ⟨e7, hs7, hf7⟩ := e7
  have hx7_t := hs5.fr hf7 (by omega)
  have e7 : z7 = 1 := e7.trans (hgc)
  refine V_iconst (q := 114) g dL_law_113 rfl ?_
  refine V_icmp_ne (q := 117) g dL_law_114 (tgt := 153) (by decide) rfl (by omega) (by omega) (fun h8 => absurd h8 (by omega)) (fun h8 => ?_)
  refine V_aload_n (q := 118) g dL_law_117 rfl rfl ?_
  refine V_bipush (q := 120) g dL_law_118 (by decide) rfl ?_
  refine V_iload (q := 122) g dL_law_120 rfl rfl ?_
  refine V_sipush (q := 125) g dL_law_122 (by decide) rfl ?_
  refine V_idiv (q := 126) g dL_law_125 (by omega) (by omega) rfl ?_
  refine V_iconst (q := 127) g dL_law_126 rfl ?_
  refine V_irem (q := 128) g dL_law_127 (by omega) (by omega) rfl ?_
  refine V_sipush (q := 131) g dL_law_128 (by decide) rfl ?_
  refine V_iload (q := 133) g dL_law_131 rfl rfl ?_
  refine V_sipush (q := 136) g dL_law_133 (by decide) rfl ?_
  refine V_idiv (q := 137) g dL_law_136 (by omega) (by omega) rfl ?_
  refine V_bipush (q := 139) g dL_law_137 (by decide) rfl ?_
  refine V_irem (q := 140) g dL_law_139 (by omega) (by omega) rfl ?_
  refine V_iadd (q := 141) g dL_law_140 rfl ?_
  refine V_iconst (q := 142) g dL_law_141 rfl ?_
  refine V_u5 (q := 145) 1 (1100 * 40) g (cq_9 l hfl hL2 hx7_t (by omega) (by omega)) dL_law_142 k_L_192 rfl ⟨by decide, by decide⟩ (hK7.le (by omega)) rfl rfl (fun z9 M9 κ9 e9 hK9 => ?_)
  obtain ⟨e9, hs9, hf9⟩ := e9
  have hx9_s := hs7.fr hf9 (by omega)
  have e9 : z9 = 1 := e9.trans (hgc)
  refine V_iconst (q := 146) g dL_law_145 rfl ?_
  refine V_icmp_ne (q := 149) g dL_law_146 (tgt := 153) (by decide) rfl (by omega) (by omega) (fun h10 => absurd h10 (by omega)) (fun h10 => ?_)
  refine V_iconst (q := 150) g dL_law_149 rfl ?_
  refine V_goto g dL_law_150 (tgt := 154) (by decide) ?_
  refine V_istore_5 (q := 156) g dL_law_154 (by decide) rfl rfl ?_
  refine V_iconst (q := 157) g dL_law_156 rfl ?_
  refine V_istore_6 (q := 159) g dL_law_157 (by decide) rfl rfl ?_
  exact V_lvw (lvLe_s (lvLe_s (lvLe_s (lvLe_s (lvLe_n (lvLe_s (lvLe_s (lvLe_n (lvLe_n lvLe_0))))))))) (lw_loop hfl hLx g he hd hL hL2 hend (turns := 14 + (z1 % 27)) (by omega) (14 + (z1 % 27)).toNat 0 _ _ _ (by omega) (by omega) hgd hx9_s hs9 (hK9.le (by omega)))
end LP
