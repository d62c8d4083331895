abbrev rm_L_turned : Room := { frames := 10, cells := 360, slots := 2160, locals := 220 }
section SG
variable {Γ : VG} {D : DD} {Λ : LY} {l : Launch} {s t j : Nat} {M : MM} {κ : Nat × Nat} {σ : SG} {f : Int → Int}
set_option maxHeartbeats 8000000 in
set_option maxRecDepth 100000 in
theorem tu_0 (hfl : l.stackTraces = false) {x c fl : Int} (g : VOk Γ D Λ RL cL_turned 15 l rm_L_turned) (hd : s + 217 ≤ t ∨ t + 217 ≤ s) (hL : ClsL D Λ s) (hL2 : ClsL D Λ t) (hσ : σ.1 = f) (hc : 0 ≤ c ∧ c < f 0) (hfl9 : 0 ≤ fl ∧ fl < f 1) (hO : Os M s σ) (hQ : Os M t σ) (hK : Kb κ rm_L_turned (j + 8)) (k9 : ∀ (lo : Int) (σ1 : SG) (M1 : MM) (κ1 : Nat × Nat), lo = sLean f c fl (sBq f c fl) → Lt σ σ1 → Os M1 s σ1 → Os M1 t σ1 → Kb κ1 rm_L_turned j → V Γ D Λ M1 κ1 80 [some (.ref s), some (.ref t), some (vi x), some (vi c), some (vi fl), some (vi (sBq f c fl)), some (vi (sWq f c fl)), some (vi (sWn f c)), some (vi (f (47 + 9 * c))), some (vi lo), some (vi 1), some (vi 1), none, none, none] []) : V Γ D Λ M κ 80 [some (.ref s), some (.ref t), some (vi x), some (vi c), some (vi fl), some (vi (sBq f c fl)), some (vi (sWq f c fl)), some (vi (sWn f c)), some (vi (f (47 + 9 * c))), some (vi 0), some (vi 1), some (vi 0), none, none, none] [] := by
  subst hσ
  have hI := hO.1.2
  have hN := hI.1
  have hF := hI.2.1
  have hbr := bq_r σ.1 c fl
  have hwq0 : 0 ≤ sWq σ.1 c fl ∧ sWq σ.1 c fl ≤ 1700 := sWob_r hI hc (by omega) hbr
  obtain ⟨hw1, hw2, hw3⟩ := wn_r hI hc
  obtain ⟨hb9, hb8, hb7⟩ := tn_bring hI hc hfl9 (q := sBq σ.1 c fl) (by omega)
  have hwb := sWob_r hI hc (fl := fl) (q := sBq σ.1 c fl) (by omega) (by omega)
  have hlb := sLean_r hI hc (fl := fl) (q := sBq σ.1 c fl) (by omega) (by omega)
  have hl0 := sLean_r hI hc (fl := fl) (q := sBq σ.1 c fl) (by omega) (by omega)
  obtain ⟨hq1, hq2⟩ := bq_best hI hc (fl := fl) (q := sBq σ.1 c fl) (by omega) (by omega)
  have hqd : sWq σ.1 c fl = sWob σ.1 c fl (sBq σ.1 c fl) := rfl
  refine V_iload (q := 82) g dL_turned_80 rfl rfl ?_
  refine V_iconst (q := 83) g dL_turned_82 rfl ?_
  refine V_icmp_ge (q := 86) g dL_turned_83 (tgt := 275) (by decide) rfl (by omega) (by omega) (fun h1 => absurd h1 (by omega)) (fun h1 => ?_)
  refine V_iload (q := 88) g dL_turned_86 rfl rfl ?_
  refine V_if_eq (q := 91) g dL_turned_88 (tgt := 275) (by decide) rfl (by omega) (fun h2 => absurd h2 (by omega)) (fun h2 => ?_)
  refine V_iload (q := 93) g dL_turned_91 rfl rfl ?_
  refine V_if_ne (q := 96) g dL_turned_93 (tgt := 101) (by decide) rfl (by omega) (fun h3 => absurd h3 (by omega)) (fun h3 => ?_)
  refine V_iload (q := 98) g dL_turned_96 rfl rfl ?_
  refine V_goto g dL_turned_98 (tgt := 105) (by decide) ?_
  refine V_istore_12 (q := 107) g dL_turned_105 (by decide) rfl rfl ?_
  refine V_aload_n (q := 108) g dL_turned_107 rfl rfl ?_
  refine V_bipush (q := 110) g dL_turned_108 (by decide) rfl ?_
  refine V_iload_n (q := 111) g dL_turned_110 rfl rfl ?_
  refine V_iload (q := 113) g dL_turned_111 rfl rfl ?_
  refine V_iload (q := 115) g dL_turned_113 rfl rfl ?_
  refine V_u5 (q := 118) 1 (j + 7) g (cq_11 l hfl hL hO (by omega) (by omega) (by omega)) dL_turned_115 k_L_192 rfl ⟨by decide, by decide⟩ (hK.le (by omega)) rfl rfl (fun z4 M4 κ4 e4 hK4 => ?_)
  obtain ⟨e4, hs4, hf4⟩ := e4
  rw [show (nBring σ c fl (sBq σ.1 c fl)) = (push σ (fBring σ.1 c fl (sBq σ.1 c fl))) from by rw [nBring, if_pos ⟨⟨hc, hfl9⟩, by omega⟩]] at hs4
  have hx4_t := hQ.fr hf4 (by omega)
  have e4 : z4 = sWob σ.1 c fl (sBq σ.1 c fl) := e4.trans (by rw [qBring, if_pos ⟨hc, hfl9⟩, if_pos (by omega)])
  refine V_istore_13 (q := 120) g dL_turned_118 (by decide) rfl rfl ?_
  refine V_aload_n (q := 121) g dL_turned_120 rfl rfl ?_
  refine V_bipush (q := 123) g dL_turned_121 (by decide) rfl ?_
  refine V_iload_n (q := 124) g dL_turned_123 rfl rfl ?_
  refine V_iload (q := 126) g dL_turned_124 rfl rfl ?_
  refine V_iload (q := 128) g dL_turned_126 rfl rfl ?_
  refine V_u5 (q := 131) 1 (j + 6) g (cq_11 l hfl hL2 hx4_t (by omega) (by omega) (by omega)) dL_turned_128 k_L_192 rfl ⟨by decide, by decide⟩ (hK4.le (by omega)) rfl rfl (fun z5 M5 κ5 e5 hK5 => ?_)
  obtain ⟨e5, hs5, hf5⟩ := e5
  rw [show (nBring σ c fl (sBq σ.1 c fl)) = (push σ (fBring σ.1 c fl (sBq σ.1 c fl))) from by rw [nBring, if_pos ⟨⟨hc, hfl9⟩, by omega⟩]] at hs5
  have hx5_s := hs4.fr hf5 (by omega)
  have e5 : z5 = sWob σ.1 c fl (sBq σ.1 c fl) := e5.trans (by rw [qBring, if_pos ⟨hc, hfl9⟩, if_pos (by omega)])
  refine V_iload (q := 133) g dL_turned_131 rfl rfl ?_
  refine V_icmp_ne (q := 136) g dL_turned_133 (tgt := 172) (by decide) rfl (by omega) (by omega) (fun h6 => absurd h6 (by omega)) (fun h6 => ?_)
  refine V_iload (q := 138) g dL_turned_136 rfl rfl ?_
  refine V_aload_n (q := 139) g dL_turned_138 rfl rfl ?_
  refine V_iconst (q := 140) g dL_turned_139 rfl ?_
  refine V_iload_n (q := 141) g dL_turned_140 rfl rfl ?_
  refine V_iconst (q := 142) g dL_turned_141 rfl ?_
  refine V_iconst (q := 143) g dL_turned_142 rfl ?_
  refine V_u5 (q := 146) 1 (j + 5) g (cq_4 l hfl hL hx5_s (by omega) (by omega)) dL_turned_143 k_L_192 rfl ⟨by decide, by decide⟩ (hK5.le (by omega)) rfl rfl (fun z7 M7 κ7 e7 hK7 => ?_)
  obtain ⟨e7, rfl⟩ := e7
  have e7 : z7 = sWob σ.1 c fl (sBq σ.1 c fl) := e7.trans ((qWb_0 hb9).trans hb8)
  refine V_icmp_ne (q := 149) g dL_turned_146 (tgt := 172) (by decide) rfl (by omega) (by omega) (fun h8 => absurd h8 (by omega)) (fun h8 => ?_)
  refine V_iload (q := 151) g dL_turned_149 rfl rfl ?_
  refine V_iload (q := 153) g dL_turned_151 rfl rfl ?_
  refine V_icmp_lt (q := 156) g dL_turned_153 (tgt := 172) (by decide) rfl (by omega) (by omega) (fun h9 => absurd h9 (by omega)) (fun h9 => ?_)
  refine V_iload (q := 158) g dL_turned_156 rfl rfl ?_
  refine V_if_gt (q := 161) g dL_turned_158 (tgt := 168) (by decide) rfl (by omega) (fun h10 => absurd h10 (by omega)) (fun h10 => ?_)
  refine V_iload (q := 163) g dL_turned_161 rfl rfl ?_
  refine V_iload (q := 165) g dL_turned_163 rfl rfl ?_
  refine V_icmp_ne (q := 168) g dL_turned_165 (tgt := 172) (by decide) rfl (by omega) (by omega) (fun h11 => absurd h11 (by omega)) (fun h11 => ?_)
  refine V_iconst (q := 169) g dL_turned_168 rfl ?_
  refine V_goto g dL_turned_169 (tgt := 173) (by decide) ?_
  refine V_istore_10 (q := 175) g dL_turned_173 (by decide) rfl rfl ?_
  refine V_aload_n (q := 176) g dL_turned_175 rfl rfl ?_
  refine V_iconst (q := 177) g dL_turned_176 rfl ?_
  refine V_iload_n (q := 178) g dL_turned_177 rfl rfl ?_
  refine V_iconst (q := 179) g dL_turned_178 rfl ?_
  refine V_iconst (q := 180) g dL_turned_179 rfl ?_
  refine V_u5 (q := 183) 1 (j + 4) g (cq_3 l hfl hL hx5_s (by omega) (by omega)) dL_turned_180 k_L_192 rfl ⟨by decide, by decide⟩ (hK7.le (by omega)) rfl rfl (fun z12 M12 κ12 e12 hK12 => ?_)
  obtain ⟨e12, rfl⟩ := e12
  have e12 : z12 = sLean σ.1 c fl (sBq σ.1 c fl) := e12.trans ((qCh_3 hb9).trans hb7)
  refine V_istore_14 (q := 185) g dL_turned_183 (by decide) rfl rfl ?_
  refine V_iload (q := 187) g dL_turned_185 rfl rfl ?_
  refine V_if_ne (q := 190) g dL_turned_187 (tgt := 195) (by decide) rfl (by omega) (fun h13 => absurd h13 (by omega)) (fun h13 => ?_)
  refine V_iload (q := 192) g dL_turned_190 rfl rfl ?_
  refine V_goto g dL_turned_192 (tgt := 197) (by decide) ?_
  refine V_istore_9 (q := 199) g dL_turned_197 (by decide) rfl rfl ?_
  refine V_iload (q := 201) g dL_turned_199 rfl rfl ?_
  refine V_if_eq (q := 204) g dL_turned_201 (tgt := 266) (by decide) rfl (by omega) (fun h14 => absurd h14 (by omega)) (fun h14 => ?_)
  refine V_iload (q := 206) g dL_turned_204 rfl rfl ?_
  refine V_iload (q := 208) g dL_turned_206 rfl rfl ?_
  suffices hm15 : ∀ (κ15 : Nat × Nat), (True) → Kb κ15 rm_L_turned (j + 4) → V Γ D Λ M5 κ15 232 [some (.ref s), some (.ref t), some (vi x), some (vi c), some (vi fl), some (vi (sBq σ.1 c fl)), some (vi (sWq σ.1 c fl)), some (vi (sWn σ.1 c)), some (vi (σ.1 (47 + 9 * c))), some (vi z12), some (vi 1), some (vi 0), some (vi (sBq σ.1 c fl)), some (vi z4), some (vi z12)] [] by
    refine V_icmp_gt (q := 211) g dL_turned_208 (tgt := 232) (by decide) rfl (by omega) (by omega) (fun h16 => ?_) (fun h16 => ?_)
    · exact V_lvw (lvLe_s (lvLe_s (lvLe_s (lvLe_s (lvLe_s (lvLe_s (lvLe_s (lvLe_s (lvLe_s (lvLe_s (lvLe_s (lvLe_s (lvLe_s (lvLe_s (lvLe_s lvLe_0))))))))))))))) (hm15 _ trivial (hK12.le (by omega)))
    · refine V_iload (q := 213) g dL_turned_211 rfl rfl ?_
      refine V_iload (q := 215) g dL_turned_213 rfl rfl ?_
      refine V_icmp_gt (q := 218) g dL_turned_215 (tgt := 232) (by decide) rfl (by omega) (by omega) (fun h17 => ?_) (fun h17 => ?_)
      · exact V_lvw (lvLe_s (lvLe_s (lvLe_s (lvLe_s (lvLe_s (lvLe_s (lvLe_s (lvLe_s (lvLe_s (lvLe_s (lvLe_s (lvLe_s (lvLe_s (lvLe_s (lvLe_s lvLe_0))))))))))))))) (hm15 _ trivial (hK12.le (by omega)))
      · refine V_iload (q := 220) g dL_turned_218 rfl rfl ?_
        refine V_iload (q := 222) g dL_turned_220 rfl rfl ?_
        refine V_icmp_ne (q := 225) g dL_turned_222 (tgt := 266) (by decide) rfl (by omega) (by omega) (fun h18 => absurd h18 (by omega)) (fun h18 => ?_)
        refine V_iload (q := 227) g dL_turned_225 rfl rfl ?_
        refine V_iload (q := 229) g dL_turned_227 rfl rfl ?_
        refine V_icmp_lt (q := 232) g dL_turned_229 (tgt := 266) (by decide) rfl (by omega) (by omega) (fun h19 => absurd h19 (by omega)) (fun h19 => ?_)
        exact V_lvw (lvLe_s (lvLe_s (lvLe_s (lvLe_s (lvLe_s (lvLe_s (lvLe_s (lvLe_s (lvLe_s (lvLe_s (lvLe_s (lvLe_s (lvLe_s (lvLe_s (lvLe_s lvLe_0))))))))))))))) (hm15 _ trivial (hK12.le (by omega)))
  intro κ15 hp15 hK15
  refine V_aload_n (q := 233) g dL_turned_232 rfl rfl ?_
  refine V_bipush (q := 235) g dL_turned_233 (by decide) rfl ?_
  refine V_iconst (q := 236) g dL_turned_235 rfl ?_
  refine V_iconst (q := 237) g dL_turned_236 rfl ?_
  refine V_iconst (q := 238) g dL_turned_237 rfl ?_
  refine V_u5 (q := 241) 1 (j + 3) g (cq_18 l hfl hL hx5_s) dL_turned_238 k_L_192 rfl ⟨by decide, by decide⟩ (hK15.le (by omega)) rfl rfl (fun z20 M20 κ20 e20 hK20 => ?_)
  obtain ⟨e20, hs20, hf20⟩ := e20
  rw [show (nUndo (push σ (fBring σ.1 c fl (sBq σ.1 c fl)))) = (pt σ) from nUndo_push _ _] at hs20
  have hx20_t := hs5.fr hf20 (by omega)
  have eu20 : z20 = ((σ.2.1.take 13).length : Int) := e20.trans (qUndo_push _ _)
  have hu9 := t13 σ.2.1
  refine V_uc1 (q := 244) g (c_L_thrown l (by omega)) dL_turned_241 k_L_241 rfl ⟨rfl, rfl⟩ hK20 rfl rfl (fun z21 M21 e21 => ?_)
  obtain ⟨e21, rfl⟩ := e21
  have e21 : z21 = 0 := e21.trans (sThr_0 (by omega))
  refine V_if_ne (q := 247) g dL_turned_244 (tgt := 266) (by decide) rfl (by omega) (fun h22 => absurd h22 (by omega)) (fun h22 => ?_)
  refine V_aload_n (q := 248) g dL_turned_247 rfl rfl ?_
  refine V_bipush (q := 250) g dL_turned_248 (by decide) rfl ?_
  refine V_iconst (q := 251) g dL_turned_250 rfl ?_
  refine V_iconst (q := 252) g dL_turned_251 rfl ?_
  refine V_iconst (q := 253) g dL_turned_252 rfl ?_
  refine V_u5 (q := 256) 1 (j + 2) g (cq_18 l hfl hL2 hx20_t) dL_turned_253 k_L_192 rfl ⟨by decide, by decide⟩ (hK20.le (by omega)) rfl rfl (fun z23 M23 κ23 e23 hK23 => ?_)
  obtain ⟨e23, hs23, hf23⟩ := e23
  rw [show (nUndo (push σ (fBring σ.1 c fl (sBq σ.1 c fl)))) = (pt σ) from nUndo_push _ _] at hs23
  have hx23_s := hs20.fr hf23 (by omega)
  have eu23 : z23 = ((σ.2.1.take 13).length : Int) := e23.trans (qUndo_push _ _)
  have hu9 := t13 σ.2.1
  refine V_uc1 (q := 259) g (c_L_thrown l (by omega)) dL_turned_256 k_L_241 rfl ⟨rfl, rfl⟩ hK23 rfl rfl (fun z24 M24 e24 => ?_)
  obtain ⟨e24, rfl⟩ := e24
  have e24 : z24 = 0 := e24.trans (sThr_0 (by omega))
  refine V_if_ne (q := 262) g dL_turned_259 (tgt := 266) (by decide) rfl (by omega) (fun h25 => absurd h25 (by omega)) (fun h25 => ?_)
  refine V_iconst (q := 263) g dL_turned_262 rfl ?_
  refine V_goto g dL_turned_263 (tgt := 267) (by decide) ?_
  refine V_istore_10 (q := 269) g dL_turned_267 (by decide) rfl rfl ?_
  refine V_iinc_11 (q := 272) g dL_turned_269 (by decide) rfl rfl ?_
  refine V_goto g dL_turned_272 (tgt := 80) (by decide) ?_
  exact V_lvw (lvLe_s (lvLe_s (lvLe_s (lvLe_s (lvLe_s (lvLe_s (lvLe_s (lvLe_s (lvLe_s (lvLe_s (lvLe_s (lvLe_s (lvLe_n (lvLe_n (lvLe_n lvLe_0))))))))))))))) (k9 z12 _ M23 κ23 e12 Lt.pt hx23_s hs23 (hK23.le (by omega)))
set_option maxHeartbeats 8000000 in
set_option maxRecDepth 100000 in
theorem tu_k (hfl : l.stackTraces = false) {x c fl k lo : Int} (g : VOk Γ D Λ RL cL_turned 15 l rm_L_turned) (hd : s + 217 ≤ t ∨ t + 217 ≤ s) (hL : ClsL D Λ s) (hL2 : ClsL D Λ t) (hσ : σ.1 = f) (hc : 0 ≤ c ∧ c < f 0) (hfl9 : 0 ≤ fl ∧ fl < f 1) (hk : 1 ≤ k ∧ k ≤ 4) (hlo : lo = sLean f c fl (sBq f c fl)) (hO : Os M s σ) (hQ : Os M t σ) (hK : Kb κ rm_L_turned (j + 8)) (k9 : ∀ (σ1 : SG) (M1 : MM) (κ1 : Nat × Nat), Lt σ σ1 → Os M1 s σ1 → Os M1 t σ1 → Kb κ1 rm_L_turned j → V Γ D Λ M1 κ1 80 [some (.ref s), some (.ref t), some (vi x), some (vi c), some (vi fl), some (vi (sBq f c fl)), some (vi (sWq f c fl)), some (vi (sWn f c)), some (vi (f (47 + 9 * c))), some (vi lo), some (vi 1), some (vi (k + 1)), none, none, none] []) : V Γ D Λ M κ 80 [some (.ref s), some (.ref t), some (vi x), some (vi c), some (vi fl), some (vi (sBq f c fl)), some (vi (sWq f c fl)), some (vi (sWn f c)), some (vi (f (47 + 9 * c))), some (vi lo), some (vi 1), some (vi k), none, none, none] [] := by
  subst hσ
  have hI := hO.1.2
  have hN := hI.1
  have hF := hI.2.1
  have hbr := bq_r σ.1 c fl
  have hwq0 : 0 ≤ sWq σ.1 c fl ∧ sWq σ.1 c fl ≤ 1700 := sWob_r hI hc (by omega) hbr
  obtain ⟨hw1, hw2, hw3⟩ := wn_r hI hc
  obtain ⟨hb9, hb8, hb7⟩ := tn_bring hI hc hfl9 (q := k - 1) (by omega)
  have hwb := sWob_r hI hc (fl := fl) (q := k - 1) (by omega) (by omega)
  have hlb := sLean_r hI hc (fl := fl) (q := k - 1) (by omega) (by omega)
  have hl0 := sLean_r hI hc (fl := fl) (q := sBq σ.1 c fl) (by omega) (by omega)
  obtain ⟨hq1, hq2⟩ := bq_best hI hc (fl := fl) (q := k - 1) (by omega) (by omega)
  have hqd : sWq σ.1 c fl = sWob σ.1 c fl (sBq σ.1 c fl) := rfl
  refine V_iload (q := 82) g dL_turned_80 rfl rfl ?_
  refine V_iconst (q := 83) g dL_turned_82 rfl ?_
  refine V_icmp_ge (q := 86) g dL_turned_83 (tgt := 275) (by decide) rfl (by omega) (by omega) (fun h1 => absurd h1 (by omega)) (fun h1 => ?_)
  refine V_iload (q := 88) g dL_turned_86 rfl rfl ?_
  refine V_if_eq (q := 91) g dL_turned_88 (tgt := 275) (by decide) rfl (by omega) (fun h2 => absurd h2 (by omega)) (fun h2 => ?_)
  refine V_iload (q := 93) g dL_turned_91 rfl rfl ?_
  refine V_if_ne (q := 96) g dL_turned_93 (tgt := 101) (by decide) rfl (by omega) (fun h3 => ?_) (fun h3 => absurd h3 (by omega))
  refine V_iload (q := 103) g dL_turned_101 rfl rfl ?_
  refine V_iconst (q := 104) g dL_turned_103 rfl ?_
  refine V_isub (q := 105) g dL_turned_104 rfl ?_
  refine V_istore_12 (q := 107) g dL_turned_105 (by decide) rfl rfl ?_
  refine V_aload_n (q := 108) g dL_turned_107 rfl rfl ?_
  refine V_bipush (q := 110) g dL_turned_108 (by decide) rfl ?_
  refine V_iload_n (q := 111) g dL_turned_110 rfl rfl ?_
  refine V_iload (q := 113) g dL_turned_111 rfl rfl ?_
  refine V_iload (q := 115) g dL_turned_113 rfl rfl ?_
  refine V_u5 (q := 118) 1 (j + 7) g (cq_11 l hfl hL hO (by omega) (by omega) (by omega)) dL_turned_115 k_L_192 rfl ⟨by decide, by decide⟩ (hK.le (by omega)) rfl rfl (fun z4 M4 κ4 e4 hK4 => ?_)
  obtain ⟨e4, hs4, hf4⟩ := e4
  rw [show (nBring σ c fl (k - 1)) = (push σ (fBring σ.1 c fl (k - 1))) from by rw [nBring, if_pos ⟨⟨hc, hfl9⟩, by omega⟩]] at hs4
  have hx4_t := hQ.fr hf4 (by omega)
  have e4 : z4 = sWob σ.1 c fl (k - 1) := e4.trans (by rw [qBring, if_pos ⟨hc, hfl9⟩, if_pos (by omega)])
  refine V_istore_13 (q := 120) g dL_turned_118 (by decide) rfl rfl ?_
  refine V_aload_n (q := 121) g dL_turned_120 rfl rfl ?_
  refine V_bipush (q := 123) g dL_turned_121 (by decide) rfl ?_
  refine V_iload_n (q := 124) g dL_turned_123 rfl rfl ?_
  refine V_iload (q := 126) g dL_turned_124 rfl rfl ?_
  refine V_iload (q := 128) g dL_turned_126 rfl rfl ?_
  refine V_u5 (q := 131) 1 (j + 6) g (cq_11 l hfl hL2 hx4_t (by omega) (by omega) (by omega)) dL_turned_128 k_L_192 rfl ⟨by decide, by decide⟩ (hK4.le (by omega)) rfl rfl (fun z5 M5 κ5 e5 hK5 => ?_)
  obtain ⟨e5, hs5, hf5⟩ := e5
  rw [show (nBring σ c fl (k - 1)) = (push σ (fBring σ.1 c fl (k - 1))) from by rw [nBring, if_pos ⟨⟨hc, hfl9⟩, by omega⟩]] at hs5
  have hx5_s := hs4.fr hf5 (by omega)
  have e5 : z5 = sWob σ.1 c fl (k - 1) := e5.trans (by rw [qBring, if_pos ⟨hc, hfl9⟩, if_pos (by omega)])
  refine V_iload (q := 133) g dL_turned_131 rfl rfl ?_
  refine V_icmp_ne (q := 136) g dL_turned_133 (tgt := 172) (by decide) rfl (by omega) (by omega) (fun h6 => absurd h6 (by omega)) (fun h6 => ?_)
  refine V_iload (q := 138) g dL_turned_136 rfl rfl ?_
  refine V_aload_n (q := 139) g dL_turned_138 rfl rfl ?_
  refine V_iconst (q := 140) g dL_turned_139 rfl ?_
  refine V_iload_n (q := 141) g dL_turned_140 rfl rfl ?_
  refine V_iconst (q := 142) g dL_turned_141 rfl ?_
  refine V_iconst (q := 143) g dL_turned_142 rfl ?_
  refine V_u5 (q := 146) 1 (j + 5) g (cq_4 l hfl hL hx5_s (by omega) (by omega)) dL_turned_143 k_L_192 rfl ⟨by decide, by decide⟩ (hK5.le (by omega)) rfl rfl (fun z7 M7 κ7 e7 hK7 => ?_)
  obtain ⟨e7, rfl⟩ := e7
  have e7 : z7 = sWob σ.1 c fl (k - 1) := e7.trans ((qWb_0 hb9).trans hb8)
  refine V_icmp_ne (q := 149) g dL_turned_146 (tgt := 172) (by decide) rfl (by omega) (by omega) (fun h8 => absurd h8 (by omega)) (fun h8 => ?_)
  refine V_iload (q := 151) g dL_turned_149 rfl rfl ?_
  refine V_iload (q := 153) g dL_turned_151 rfl rfl ?_
  refine V_icmp_lt (q := 156) g dL_turned_153 (tgt := 172) (by decide) rfl (by omega) (by omega) (fun h9 => absurd h9 (by omega)) (fun h9 => ?_)
  refine V_iload (q := 158) g dL_turned_156 rfl rfl ?_
  refine V_if_gt (q := 161) g dL_turned_158 (tgt := 168) (by decide) rfl (by omega) (fun h10 => ?_) (fun h10 => absurd h10 (by omega))
  refine V_iconst (q := 169) g dL_turned_168 rfl ?_
  refine V_goto g dL_turned_169 (tgt := 173) (by decide) ?_
  refine V_istore_10 (q := 175) g dL_turned_173 (by decide) rfl rfl ?_
  refine V_aload_n (q := 176) g dL_turned_175 rfl rfl ?_
  refine V_iconst (q := 177) g dL_turned_176 rfl ?_
  refine V_iload_n (q := 178) g dL_turned_177 rfl rfl ?_
  refine V_iconst (q := 179) g dL_turned_178 rfl ?_
  refine V_iconst (q := 180) g dL_turned_179 rfl ?_
  refine V_u5 (q := 183) 1 (j + 4) g (cq_3 l hfl hL hx5_s (by omega) (by omega)) dL_turned_180 k_L_192 rfl ⟨by decide, by decide⟩ (hK7.le (by omega)) rfl rfl (fun z11 M11 κ11 e11 hK11 => ?_)
  obtain ⟨e11, rfl⟩ := e11
  have e11 : z11 = sLean σ.1 c fl (k - 1) := e11.trans ((qCh_3 hb9).trans hb7)
  refine V_istore_14 (q := 185) g dL_turned_183 (by decide) rfl rfl ?_
  refine V_iload (q := 187) g dL_turned_185 rfl rfl ?_
  refine V_if_ne (q := 190) g dL_turned_187 (tgt := 195) (by decide) rfl (by omega) (fun h12 => ?_) (fun h12 => absurd h12 (by omega))
  refine V_iload (q := 197) g dL_turned_195 rfl rfl ?_
  refine V_istore_9 (q := 199) g dL_turned_197 (by decide) rfl rfl ?_
  refine V_iload (q := 201) g dL_turned_199 rfl rfl ?_
  refine V_if_eq (q := 204) g dL_turned_201 (tgt := 266) (by decide) rfl (by omega) (fun h13 => absurd h13 (by omega)) (fun h13 => ?_)
  refine V_iload (q := 206) g dL_turned_204 rfl rfl ?_
  refine V_iload (q := 208) g dL_turned_206 rfl rfl ?_
  suffices hm14 : ∀ (κ14 : Nat × Nat), (True) → Kb κ14 rm_L_turned (j + 4) → V Γ D Λ M5 κ14 232 [some (.ref s), some (.ref t), some (vi x), some (vi c), some (vi fl), some (vi (sBq σ.1 c fl)), some (vi (sWq σ.1 c fl)), some (vi (sWn σ.1 c)), some (vi (σ.1 (47 + 9 * c))), some (vi lo), some (vi 1), some (vi k), some (vi (k - 1)), some (vi z4), some (vi z11)] [] by
    refine V_icmp_gt (q := 211) g dL_turned_208 (tgt := 232) (by decide) rfl (by omega) (by omega) (fun h15 => ?_) (fun h15 => ?_)
    · exact V_lvw (lvLe_s (lvLe_s (lvLe_s (lvLe_s (lvLe_s (lvLe_s (lvLe_s (lvLe_s (lvLe_s (lvLe_s (lvLe_s (lvLe_s (lvLe_s (lvLe_s (lvLe_s lvLe_0))))))))))))))) (hm14 _ trivial (hK11.le (by omega)))
    · refine V_iload (q := 213) g dL_turned_211 rfl rfl ?_
      refine V_iload (q := 215) g dL_turned_213 rfl rfl ?_
      refine V_icmp_gt (q := 218) g dL_turned_215 (tgt := 232) (by decide) rfl (by omega) (by omega) (fun h16 => ?_) (fun h16 => ?_)
      · exact V_lvw (lvLe_s (lvLe_s (lvLe_s (lvLe_s (lvLe_s (lvLe_s (lvLe_s (lvLe_s (lvLe_s (lvLe_s (lvLe_s (lvLe_s (lvLe_s (lvLe_s (lvLe_s lvLe_0))))))))))))))) (hm14 _ trivial (hK11.le (by omega)))
      · refine V_iload (q := 220) g dL_turned_218 rfl rfl ?_
        refine V_iload (q := 222) g dL_turned_220 rfl rfl ?_
        refine V_icmp_ne (q := 225) g dL_turned_222 (tgt := 266) (by decide) rfl (by omega) (by omega) (fun h17 => absurd h17 (by omega)) (fun h17 => ?_)
        refine V_iload (q := 227) g dL_turned_225 rfl rfl ?_
        refine V_iload (q := 229) g dL_turned_227 rfl rfl ?_
        refine V_icmp_lt (q := 232) g dL_turned_229 (tgt := 266) (by decide) rfl (by omega) (by omega) (fun h18 => absurd h18 (by omega)) (fun h18 => ?_)
        exact V_lvw (lvLe_s (lvLe_s (lvLe_s (lvLe_s (lvLe_s (lvLe_s (lvLe_s (lvLe_s (lvLe_s (lvLe_s (lvLe_s (lvLe_s (lvLe_s (lvLe_s (lvLe_s lvLe_0))))))))))))))) (hm14 _ trivial (hK11.le (by omega)))
  intro κ14 hp14 hK14
  refine V_aload_n (q := 233) g dL_turned_232 rfl rfl ?_
  refine V_bipush (q := 235) g dL_turned_233 (by decide) rfl ?_
  refine V_iconst (q := 236) g dL_turned_235 rfl ?_
  refine V_iconst (q := 237) g dL_turned_236 rfl ?_
  refine V_iconst (q := 238) g dL_turned_237 rfl ?_
  refine V_u5 (q := 241) 1 (j + 3) g (cq_18 l hfl hL hx5_s) dL_turned_238 k_L_192 rfl ⟨by decide, by decide⟩ (hK14.le (by omega)) rfl rfl (fun z19 M19 κ19 e19 hK19 => ?_)
  obtain ⟨e19, hs19, hf19⟩ := e19
  rw [show (nUndo (push σ (fBring σ.1 c fl (k - 1)))) = (pt σ) from nUndo_push _ _] at hs19
  have hx19_t := hs5.fr hf19 (by omega)
  have eu19 : z19 = ((σ.2.1.take 13).length : Int) := e19.trans (qUndo_push _ _)
  have hu9 := t13 σ.2.1
  refine V_uc1 (q := 244) g (c_L_thrown l (by omega)) dL_turned_241 k_L_241 rfl ⟨rfl, rfl⟩ hK19 rfl rfl (fun z20 M20 e20 => ?_)
  obtain ⟨e20, rfl⟩ := e20
  have e20 : z20 = 0 := e20.trans (sThr_0 (by omega))
  refine V_if_ne (q := 247) g dL_turned_244 (tgt := 266) (by decide) rfl (by omega) (fun h21 => absurd h21 (by omega)) (fun h21 => ?_)
  refine V_aload_n (q := 248) g dL_turned_247 rfl rfl ?_
  refine V_bipush (q := 250) g dL_turned_248 (by decide) rfl ?_
  refine V_iconst (q := 251) g dL_turned_250 rfl ?_
  refine V_iconst (q := 252) g dL_turned_251 rfl ?_
  refine V_iconst (q := 253) g dL_turned_252 rfl ?_
  refine V_u5 (q := 256) 1 (j + 2) g (cq_18 l hfl hL2 hx19_t) dL_turned_253 k_L_192 rfl ⟨by decide, by decide⟩ (hK19.le (by omega)) rfl rfl (fun z22 M22 κ22 e22 hK22 => ?_)
  obtain ⟨e22, hs22, hf22⟩ := e22
  rw [show (nUndo (push σ (fBring σ.1 c fl (k - 1)))) = (pt σ) from nUndo_push _ _] at hs22
  have hx22_s := hs19.fr hf22 (by omega)
  have eu22 : z22 = ((σ.2.1.take 13).length : Int) := e22.trans (qUndo_push _ _)
  have hu9 := t13 σ.2.1
  refine V_uc1 (q := 259) g (c_L_thrown l (by omega)) dL_turned_256 k_L_241 rfl ⟨rfl, rfl⟩ hK22 rfl rfl (fun z23 M23 e23 => ?_)
  obtain ⟨e23, rfl⟩ := e23
  have e23 : z23 = 0 := e23.trans (sThr_0 (by omega))
  refine V_if_ne (q := 262) g dL_turned_259 (tgt := 266) (by decide) rfl (by omega) (fun h24 => absurd h24 (by omega)) (fun h24 => ?_)
  refine V_iconst (q := 263) g dL_turned_262 rfl ?_
  refine V_goto g dL_turned_263 (tgt := 267) (by decide) ?_
  refine V_istore_10 (q := 269) g dL_turned_267 (by decide) rfl rfl ?_
  refine V_iinc_11 (q := 272) g dL_turned_269 (by decide) rfl rfl ?_
  refine V_goto g dL_turned_272 (tgt := 80) (by decide) ?_
  exact V_lvw (lvLe_s (lvLe_s (lvLe_s (lvLe_s (lvLe_s (lvLe_s (lvLe_s (lvLe_s (lvLe_s (lvLe_s (lvLe_s (lvLe_s (lvLe_n (lvLe_n (lvLe_n lvLe_0))))))))))))))) (k9 _ M22 κ22 Lt.pt hx22_s hs22 (hK22.le (by omega)))
set_option maxHeartbeats 8000000 in
set_option maxRecDepth 100000 in
theorem tu_n (hfl : l.stackTraces = false) {x c fl : Int} (g : VOk Γ D Λ RL cL_turned 15 l rm_L_turned) (hd : s + 217 ≤ t ∨ t + 217 ≤ s) (hL : ClsL D Λ s) (hL2 : ClsL D Λ t) (hσ : σ.1 = f) (hc : 0 ≤ c ∧ c < f 0) (hfl9 : 0 ≤ fl ∧ fl < f 1) (hO : Os M s σ) (hQ : Os M t σ) (hK : Kb κ rm_L_turned (j + 3)) (k9 : ∀ (σ1 : SG) (M1 : MM) (κ1 : Nat × Nat), Lt σ σ1 → Os M1 s σ1 → Os M1 t σ1 → Kb κ1 rm_L_turned j → V Γ D Λ M1 κ1 335 [some (.ref s), some (.ref t), some (vi x), some (vi c), some (vi fl), some (vi (sBq f c fl)), some (vi (sWq f c fl)), some (vi (sWn f c)), some (vi (f (47 + 9 * c))), none, some (vi 1), none, none, none, none] []) : V Γ D Λ M κ 80 [some (.ref s), some (.ref t), some (vi x), some (vi c), some (vi fl), some (vi (sBq f c fl)), some (vi (sWq f c fl)), some (vi (sWn f c)), some (vi (f (47 + 9 * c))), none, some (vi 1), some (vi 5), none, none, none] [] := by
  subst hσ
  have hI := hO.1.2
  have hN := hI.1
  have hF := hI.2.1
  have hbr := bq_r σ.1 c fl
  have hwq0 : 0 ≤ sWq σ.1 c fl ∧ sWq σ.1 c fl ≤ 1700 := sWob_r hI hc (by omega) hbr
  obtain ⟨hw1, hw2, hw3⟩ := wn_r hI hc
  obtain ⟨hf1, hf2⟩ := bf_best hI c
  obtain ⟨hf3, hf4⟩ := hf2 fl hfl9.1 hfl9.2
  have hwn0 : 0 ≤ sWq σ.1 c (sBf σ.1 c) := (sWob_r hI hc (by omega) (bq_r _ _ _)).1
  refine V_iload (q := 82) g dL_turned_80 rfl rfl ?_
  refine V_iconst (q := 83) g dL_turned_82 rfl ?_
  refine V_icmp_ge (q := 86) g dL_turned_83 (tgt := 275) (by decide) rfl (by omega) (by omega) (fun h1 => ?_) (fun h1 => absurd h1 (by omega))
  refine V_aload_n (q := 276) g dL_turned_275 rfl rfl ?_
  refine V_bipush (q := 278) g dL_turned_276 (by decide) rfl ?_
  refine V_iload_n (q := 279) g dL_turned_278 rfl rfl ?_
  refine V_iconst (q := 280) g dL_turned_279 rfl ?_
  refine V_iconst (q := 281) g dL_turned_280 rfl ?_
  refine V_u5 (q := 284) 1 (j + 2) g (cq_22 l hfl hL hO (by omega)) dL_turned_281 k_L_192 rfl ⟨by decide, by decide⟩ (hK.le (by omega)) rfl rfl (fun z2 M2 κ2 e2 hK2 => ?_)
  obtain ⟨e2, rfl⟩ := e2
  have e2 : z2 = sBf σ.1 c := e2.trans (qBF_ok hc)
  subst e2
  refine V_istore_11 (q := 286) g dL_turned_284 (by decide) rfl rfl ?_
  refine V_iload (q := 288) g dL_turned_286 rfl rfl ?_
  refine V_if_eq (q := 291) g dL_turned_288 (tgt := 332) (by decide) rfl (by omega) (fun h3 => absurd h3 (by omega)) (fun h3 => ?_)
  refine V_aload_n (q := 292) g dL_turned_291 rfl rfl ?_
  refine V_bipush (q := 294) g dL_turned_292 (by decide) rfl ?_
  refine V_iload_n (q := 295) g dL_turned_294 rfl rfl ?_
  refine V_iload (q := 297) g dL_turned_295 rfl rfl ?_
  refine V_iconst (q := 298) g dL_turned_297 rfl ?_
  refine V_u5 (q := 301) 1 (j + 1) g (cq_19 l hfl hL hO (by omega) (by omega) (by omega)) dL_turned_298 k_L_192 rfl ⟨by decide, by decide⟩ (hK2.le (by omega)) rfl rfl (fun z4 M4 κ4 e4 hK4 => ?_)
  obtain ⟨e4, rfl⟩ := e4
  have e4 : z4 = sWq σ.1 c (sBf σ.1 c) := e4.trans (qTn_1 hc hf1)
  refine V_iload (q := 303) g dL_turned_301 rfl rfl ?_
  refine V_icmp_gt (q := 306) g dL_turned_303 (tgt := 332) (by decide) rfl (by omega) (by omega) (fun h5 => absurd h5 (by omega)) (fun h5 => ?_)
  refine V_iload (q := 308) g dL_turned_306 rfl rfl ?_
  refine V_iload (q := 310) g dL_turned_308 rfl rfl ?_
  refine V_icmp_ge (q := 313) g dL_turned_310 (tgt := 328) (by decide) rfl (by omega) (by omega) (fun h6 => ?_) (fun h6 => ?_)
  · refine V_iconst (q := 329) g dL_turned_328 rfl ?_
    refine V_goto g dL_turned_329 (tgt := 333) (by decide) ?_
    refine V_istore_10 (q := 335) g dL_turned_333 (by decide) rfl rfl ?_
    exact V_lvw (lvLe_s (lvLe_s (lvLe_s (lvLe_s (lvLe_s (lvLe_s (lvLe_s (lvLe_s (lvLe_s (lvLe_n (lvLe_s (lvLe_n (lvLe_n (lvLe_n (lvLe_n lvLe_0))))))))))))))) (k9 _ M κ4 Lt.rf hO hQ (hK4.le (by omega)))
  · refine V_aload_n (q := 314) g dL_turned_313 rfl rfl ?_
    refine V_bipush (q := 316) g dL_turned_314 (by decide) rfl ?_
    refine V_iload_n (q := 317) g dL_turned_316 rfl rfl ?_
    refine V_iload (q := 319) g dL_turned_317 rfl rfl ?_
    refine V_iconst (q := 320) g dL_turned_319 rfl ?_
    refine V_u5 (q := 323) 1 (j) g (cq_19 l hfl hL hO (by omega) (by omega) (by omega)) dL_turned_320 k_L_192 rfl ⟨by decide, by decide⟩ (hK4.le (by omega)) rfl rfl (fun z7 M7 κ7 e7 hK7 => ?_)
    obtain ⟨e7, rfl⟩ := e7
    have e7 : z7 = sWq σ.1 c (sBf σ.1 c) := e7.trans (qTn_1 hc hf1)
    refine V_iload (q := 325) g dL_turned_323 rfl rfl ?_
    refine V_icmp_ge (q := 328) g dL_turned_325 (tgt := 332) (by decide) rfl (by omega) (by omega) (fun h8 => absurd h8 (by omega)) (fun h8 => ?_)
    refine V_iconst (q := 329) g dL_turned_328 rfl ?_
    refine V_goto g dL_turned_329 (tgt := 333) (by decide) ?_
    refine V_istore_10 (q := 335) g dL_turned_333 (by decide) rfl rfl ?_
    exact V_lvw (lvLe_s (lvLe_s (lvLe_s (lvLe_s (lvLe_s (lvLe_s (lvLe_s (lvLe_s (lvLe_s (lvLe_n (lvLe_s (lvLe_n (lvLe_n (lvLe_n (lvLe_n lvLe_0))))))))))))))) (k9 _ M κ7 Lt.rf hO hQ (hK7.le (by omega)))
set_option maxHeartbeats 8000000 in
set_option maxRecDepth 100000 in
theorem tu_s (hfl : l.stackTraces = false) {x c fl : Int} (g : VOk Γ D Λ RL cL_turned 15 l rm_L_turned) (hd : s + 217 ≤ t ∨ t + 217 ≤ s) (hL : ClsL D Λ s) (hL2 : ClsL D Λ t) (hσ : σ.1 = f) (hc : 0 ≤ c ∧ c < f 0) (hfl9 : 0 ≤ fl ∧ fl < f 1) (hO : Os M s σ) (hQ : Os M t σ) (hK : Kb κ rm_L_turned (j + 8)) (k9 : ∀ (σ1 : SG) (M1 : MM) (κ1 : Nat × Nat), Lt σ σ1 → Os M1 s σ1 → Os M1 t σ1 → Kb κ1 rm_L_turned j → V Γ D Λ M1 κ1 471 [some (.ref s), some (.ref t), some (vi x), some (vi c), some (vi fl), some (vi (sBq f c fl)), some (vi (sWq f c fl)), some (vi (sWn f c)), some (vi (f (47 + 9 * c))), none, some (vi 1), none, none, none, none] []) : V Γ D Λ M κ 335 [some (.ref s), some (.ref t), some (vi x), some (vi c), some (vi fl), some (vi (sBq f c fl)), some (vi (sWq f c fl)), some (vi (sWn f c)), some (vi (f (47 + 9 * c))), none, some (vi 1), none, none, none, none] [] := by
  subst hσ
  have hI := hO.1.2
  have hN := hI.1
  have hF := hI.2.1
  have hbr := bq_r σ.1 c fl
  have hwq0 : 0 ≤ sWq σ.1 c fl ∧ sWq σ.1 c fl ≤ 1700 := sWob_r hI hc (by omega) hbr
  obtain ⟨hw1, hw2, hw3⟩ := wn_r hI hc
  have hbs := bs_r σ.1 c
  refine V_aload_n (q := 336) g dL_turned_335 rfl rfl ?_
  refine V_bipush (q := 338) g dL_turned_336 (by decide) rfl ?_
  refine V_iload_n (q := 339) g dL_turned_338 rfl rfl ?_
  refine V_iconst (q := 340) g dL_turned_339 rfl ?_
  refine V_iconst (q := 341) g dL_turned_340 rfl ?_
  refine V_u5 (q := 344) 1 (j + 7) g (cq_20 l hfl hL hO (by omega)) dL_turned_341 k_L_192 rfl ⟨by decide, by decide⟩ (hK.le (by omega)) rfl rfl (fun z1 M1 κ1 e1 hK1 => ?_)
  obtain ⟨e1, hs1, hf1⟩ := e1
  have hx1_t := hQ.fr hf1 (by omega)
  have e1 : z1 = sBs σ.1 c := e1.trans (qBS_ok hc)
  subst e1
  refine V_istore_12 (q := 346) g dL_turned_344 (by decide) rfl rfl ?_
  refine V_iload (q := 348) g dL_turned_346 rfl rfl ?_
  refine V_iconst (q := 349) g dL_turned_348 rfl ?_
  refine V_icmp_eq (q := 352) g dL_turned_349 (tgt := 471) (by decide) rfl (by omega) (by omega) (fun h2 => ?_) (fun h2 => ?_)
  · exact V_lvw (lvLe_s (lvLe_s (lvLe_s (lvLe_s (lvLe_s (lvLe_s (lvLe_s (lvLe_s (lvLe_s (lvLe_n (lvLe_s (lvLe_n (lvLe_n (lvLe_n (lvLe_n lvLe_0))))))))))))))) (k9 _ M1 κ1 Lt.rf hs1 hx1_t (hK1.le (by omega)))
  · obtain ⟨hb1, hb2, hb3, hb4⟩ := bs_ok (f := σ.1) (c := c) (by omega)
    have hlen := (hI.2.2.2.2.2.2 c hc.1 hc.2).2.2.2.2 _ hb2.1 hb2.2
    obtain ⟨hs9, -, -, hs6⟩ := saw_cut hc.1 hb2 hb1
    have hcs : 0 ≤ c ∧ c < fSaw σ.1 c (sBs σ.1 c) (sWn σ.1 c) 0 := by rw [hs6]; exact hc
    have hws := ((saw_wn hI hc hb2 hb1).1).trans hb4
    have hfs : fSaw σ.1 c (sBs σ.1 c) (sWn σ.1 c) (47 + 9 * c) = 0 := saw_47 hc.1 hb2.1 (by omega)
    refine V_iload (q := 354) g dL_turned_352 rfl rfl ?_
    refine V_if_eq (q := 357) g dL_turned_354 (tgt := 471) (by decide) rfl (by omega) (fun h3 => absurd h3 (by omega)) (fun h3 => ?_)
    refine V_aload_n (q := 358) g dL_turned_357 rfl rfl ?_
    refine V_iconst (q := 359) g dL_turned_358 rfl ?_
    refine V_iload_n (q := 360) g dL_turned_359 rfl rfl ?_
    refine V_iload (q := 362) g dL_turned_360 rfl rfl ?_
    refine V_iconst (q := 363) g dL_turned_362 rfl ?_
    refine V_u5 (q := 366) 1 (j + 6) g (cq_5 l hfl hL hs1 (by omega) (by omega) (by omega)) dL_turned_363 k_L_192 rfl ⟨by decide, by decide⟩ (hK1.le (by omega)) rfl rfl (fun z4 M4 κ4 e4 hK4 => ?_)
    obtain ⟨e4, rfl⟩ := e4
    have e4 : z4 = σ.1 (49 + 9 * c + sBs σ.1 c) := e4.trans (qLg_0 hc hb2)
    subst e4
    refine V_istore_13 (q := 368) g dL_turned_366 (by decide) rfl rfl ?_
    refine V_iload (q := 370) g dL_turned_368 rfl rfl ?_
    refine V_if_le (q := 373) g dL_turned_370 (tgt := 468) (by decide) rfl (by omega) (fun h5 => absurd h5 (by omega)) (fun h5 => ?_)
    refine V_aload_n (q := 374) g dL_turned_373 rfl rfl ?_
    refine V_bipush (q := 376) g dL_turned_374 (by decide) rfl ?_
    refine V_iload_n (q := 377) g dL_turned_376 rfl rfl ?_
    refine V_iload (q := 379) g dL_turned_377 rfl rfl ?_
    refine V_iload (q := 381) g dL_turned_379 rfl rfl ?_
    refine V_u5 (q := 384) 1 (j + 5) g (cq_12 l hfl hL hs1 (by omega) (by omega) (by omega)) dL_turned_381 k_L_192 rfl ⟨by decide, by decide⟩ (hK4.le (by omega)) rfl rfl (fun z6 M6 κ6 e6 hK6 => ?_)
    obtain ⟨e6, hs6, hf6⟩ := e6
    rw [show (nSaw σ c (sBs σ.1 c) (sWn σ.1 c)) = (push σ (fSaw σ.1 c (sBs σ.1 c) (sWn σ.1 c))) from by rw [nSaw, if_pos ⟨⟨hc, hb2⟩, by omega, hb3⟩]] at hs6
    have hx6_t := hx1_t.fr hf6 (by omega)
    have e6 : z6 = σ.1 (49 + 9 * c + sBs σ.1 c) - sWn σ.1 c := e6.trans (by rw [qSaw, if_pos ⟨hc, hb2⟩, if_pos (by omega), if_pos hb3])
    refine V_iload (q := 386) g dL_turned_384 rfl rfl ?_
    refine V_iload (q := 388) g dL_turned_386 rfl rfl ?_
    refine V_isub (q := 389) g dL_turned_388 rfl ?_
    refine V_icmp_ne (q := 392) g dL_turned_389 (tgt := 468) (by decide) rfl (by omega) (by omega) (fun h7 => absurd h7 (by omega)) (fun h7 => ?_)
    refine V_aload_n (q := 393) g dL_turned_392 rfl rfl ?_
    refine V_bipush (q := 395) g dL_turned_393 (by decide) rfl ?_
    refine V_iload_n (q := 396) g dL_turned_395 rfl rfl ?_
    refine V_iload (q := 398) g dL_turned_396 rfl rfl ?_
    refine V_iload (q := 400) g dL_turned_398 rfl rfl ?_
    refine V_u5 (q := 403) 1 (j + 4) g (cq_12 l hfl hL2 hx6_t (by omega) (by omega) (by omega)) dL_turned_400 k_L_192 rfl ⟨by decide, by decide⟩ (hK6.le (by omega)) rfl rfl (fun z8 M8 κ8 e8 hK8 => ?_)
    obtain ⟨e8, hs8, hf8⟩ := e8
    rw [show (nSaw σ c (sBs σ.1 c) (sWn σ.1 c)) = (push σ (fSaw σ.1 c (sBs σ.1 c) (sWn σ.1 c))) from by rw [nSaw, if_pos ⟨⟨hc, hb2⟩, by omega, hb3⟩]] at hs8
    have hx8_s := hs6.fr hf8 (by omega)
    have e8 : z8 = σ.1 (49 + 9 * c + sBs σ.1 c) - sWn σ.1 c := e8.trans (by rw [qSaw, if_pos ⟨hc, hb2⟩, if_pos (by omega), if_pos hb3])
    refine V_iload (q := 405) g dL_turned_403 rfl rfl ?_
    refine V_iload (q := 407) g dL_turned_405 rfl rfl ?_
    refine V_isub (q := 408) g dL_turned_407 rfl ?_
    refine V_icmp_ne (q := 411) g dL_turned_408 (tgt := 468) (by decide) rfl (by omega) (by omega) (fun h9 => absurd h9 (by omega)) (fun h9 => ?_)
    refine V_aload_n (q := 412) g dL_turned_411 rfl rfl ?_
    refine V_iconst (q := 413) g dL_turned_412 rfl ?_
    refine V_iload_n (q := 414) g dL_turned_413 rfl rfl ?_
    refine V_iconst (q := 415) g dL_turned_414 rfl ?_
    refine V_iconst (q := 416) g dL_turned_415 rfl ?_
    refine V_u5 (q := 419) 1 (j + 3) g (cq_4 l hfl hL hx8_s (by omega) (by omega)) dL_turned_416 k_L_192 rfl ⟨by decide, by decide⟩ (hK8.le (by omega)) rfl rfl (fun z10 M10 κ10 e10 hK10 => ?_)
    obtain ⟨e10, rfl⟩ := e10
    have e10 : z10 = 0 := e10.trans ((qWb_1 hcs).trans hws)
    refine V_if_ne (q := 422) g dL_turned_419 (tgt := 468) (by decide) rfl (by omega) (fun h11 => absurd h11 (by omega)) (fun h11 => ?_)
    refine V_aload_n (q := 423) g dL_turned_422 rfl rfl ?_
    refine V_iconst (q := 424) g dL_turned_423 rfl ?_
    refine V_iload_n (q := 425) g dL_turned_424 rfl rfl ?_
    refine V_bipush (q := 427) g dL_turned_425 (by decide) rfl ?_
    refine V_iconst (q := 428) g dL_turned_427 rfl ?_
    refine V_u5 (q := 431) 1 (j + 2) g (cq_3 l hfl hL hx8_s (by omega) (by omega)) dL_turned_428 k_L_192 rfl ⟨by decide, by decide⟩ (hK10.le (by omega)) rfl rfl (fun z12 M12 κ12 e12 hK12 => ?_)
    obtain ⟨e12, rfl⟩ := e12
    have e12 : z12 = 0 := e12.trans ((qCh_6 hcs).trans hfs)
    refine V_if_ne (q := 434) g dL_turned_431 (tgt := 468) (by decide) rfl (by omega) (fun h13 => absurd h13 (by omega)) (fun h13 => ?_)
    refine V_aload_n (q := 435) g dL_turned_434 rfl rfl ?_
    refine V_bipush (q := 437) g dL_turned_435 (by decide) rfl ?_
    refine V_iconst (q := 438) g dL_turned_437 rfl ?_
    refine V_iconst (q := 439) g dL_turned_438 rfl ?_
    refine V_iconst (q := 440) g dL_turned_439 rfl ?_
    refine V_u5 (q := 443) 1 (j + 1) g (cq_18 l hfl hL hx8_s) dL_turned_440 k_L_192 rfl ⟨by decide, by decide⟩ (hK12.le (by omega)) rfl rfl (fun z14 M14 κ14 e14 hK14 => ?_)
    obtain ⟨e14, hs14, hf14⟩ := e14
    rw [show (nUndo (push σ (fSaw σ.1 c (sBs σ.1 c) (sWn σ.1 c)))) = (pt σ) from nUndo_push _ _] at hs14
    have hx14_t := hs8.fr hf14 (by omega)
    have eu14 : z14 = ((σ.2.1.take 13).length : Int) := e14.trans (qUndo_push _ _)
    have hu9 := t13 σ.2.1
    refine V_uc1 (q := 446) g (c_L_thrown l (by omega)) dL_turned_443 k_L_241 rfl ⟨rfl, rfl⟩ hK14 rfl rfl (fun z15 M15 e15 => ?_)
    obtain ⟨e15, rfl⟩ := e15
    have e15 : z15 = 0 := e15.trans (sThr_0 (by omega))
    refine V_if_ne (q := 449) g dL_turned_446 (tgt := 468) (by decide) rfl (by omega) (fun h16 => absurd h16 (by omega)) (fun h16 => ?_)
    refine V_aload_n (q := 450) g dL_turned_449 rfl rfl ?_
    refine V_bipush (q := 452) g dL_turned_450 (by decide) rfl ?_
    refine V_iconst (q := 453) g dL_turned_452 rfl ?_
    refine V_iconst (q := 454) g dL_turned_453 rfl ?_
    refine V_iconst (q := 455) g dL_turned_454 rfl ?_
    refine V_u5 (q := 458) 1 (j) g (cq_18 l hfl hL2 hx14_t) dL_turned_455 k_L_192 rfl ⟨by decide, by decide⟩ (hK14.le (by omega)) rfl rfl (fun z17 M17 κ17 e17 hK17 => ?_)
    obtain ⟨e17, hs17, hf17⟩ := e17
    rw [show (nUndo (push σ (fSaw σ.1 c (sBs σ.1 c) (sWn σ.1 c)))) = (pt σ) from nUndo_push _ _] at hs17
    have hx17_s := hs14.fr hf17 (by omega)
    have eu17 : z17 = ((σ.2.1.take 13).length : Int) := e17.trans (qUndo_push _ _)
    have hu9 := t13 σ.2.1
    refine V_uc1 (q := 461) g (c_L_thrown l (by omega)) dL_turned_458 k_L_241 rfl ⟨rfl, rfl⟩ hK17 rfl rfl (fun z18 M18 e18 => ?_)
    obtain ⟨e18, rfl⟩ := e18
    have e18 : z18 = 0 := e18.trans (sThr_0 (by omega))
    refine V_if_ne (q := 464) g dL_turned_461 (tgt := 468) (by decide) rfl (by omega) (fun h19 => absurd h19 (by omega)) (fun h19 => ?_)
    refine V_iconst (q := 465) g dL_turned_464 rfl ?_
    refine V_goto g dL_turned_465 (tgt := 469) (by decide) ?_
    refine V_istore_10 (q := 471) g dL_turned_469 (by decide) rfl rfl ?_
    exact V_lvw (lvLe_s (lvLe_s (lvLe_s (lvLe_s (lvLe_s (lvLe_s (lvLe_s (lvLe_s (lvLe_s (lvLe_n (lvLe_s (lvLe_n (lvLe_n (lvLe_n (lvLe_n lvLe_0))))))))))))))) (k9 _ M17 κ17 Lt.pt hx17_s hs17 (hK17.le (by omega)))
end SG
set_option maxHeartbeats 8000000 in
set_option maxRecDepth 100000 in
/-- a chair is best turned and sawn as was told; undone, all is as before -/
theorem c_L_turned (l : Launch) (hfl : l.stackTraces = false) {D : DD} {Λ : LY} {M : MM} {s t : Nat} {σ : SG} {x : Int} (hd : s + 217 ≤ t ∨ t + 217 ≤ s) (hL : ClsL D Λ s) (hL2 : ClsL D Λ t) (hO : Os M s σ) (hQ : Os M t σ) (h1c : 1 ≤ σ.1 0) (hx : 0 ≤ x ∧ x < 2147483648) : CXI l yL_turned cL_turned 15 .boolean rm_L_turned [.ref s, .ref t, vi x] D Λ M (fun z M1 => z = 1 ∧ ∃ σ1, Lt σ σ1 ∧ Os M1 s σ1 ∧ Os M1 t σ1) (fun _ _ => False) := by
  refine CXI_of rfl rfl (Nat.le_of_ble_eq_true rfl) (fun Γ g r => ?_)
  have hK : Kb (0, 0) rm_L_turned 120 := ⟨by decide, by decide⟩
  have hI := hO.1.2
  have hN := hI.1
  have hF := hI.2.1
  have hc : 0 ≤ x % σ.1 0 ∧ x % σ.1 0 < σ.1 0 := ⟨Int.emod_nonneg _ (by omega), Int.emod_lt_of_pos _ (by omega)⟩
  have hf : 0 ≤ x / 10 % σ.1 1 ∧ x / 10 % σ.1 1 < σ.1 1 := ⟨Int.emod_nonneg _ (by omega), Int.emod_lt_of_pos _ (by omega)⟩
  refine V_iload_n (q := 1) g dL_turned_0 rfl rfl ?_
  refine V_aload_n (q := 2) g dL_turned_1 rfl rfl ?_
  refine V_iconst (q := 3) g dL_turned_2 rfl ?_
  refine V_iconst (q := 4) g dL_turned_3 rfl ?_
  refine V_iconst (q := 5) g dL_turned_4 rfl ?_
  refine V_iconst (q := 6) g dL_turned_5 rfl ?_
  refine V_u5 (q := 9) 1 (110 + 9) g (cq_2 l hfl hL hO (by omega)) dL_turned_6 k_L_192 rfl ⟨by decide, by decide⟩ (hK.le (by omega)) rfl rfl (fun z1 M1 κ1 e1 hK1 => ?_)
  obtain ⟨e1, rfl⟩ := e1
  have e1 : z1 = σ.1 0 := e1.trans (qAb_0 _)
  subst e1
  refine V_irem (q := 10) g dL_turned_9 (by omega) (by omega) rfl ?_
  refine V_istore_n_3 (q := 11) g dL_turned_10 (by decide) rfl rfl ?_
  refine V_iload_n (q := 12) g dL_turned_11 rfl rfl ?_
  refine V_bipush (q := 14) g dL_turned_12 (by decide) rfl ?_
  refine V_idiv (q := 15) g dL_turned_14 (by omega) (by omega) rfl ?_
  refine V_aload_n (q := 16) g dL_turned_15 rfl rfl ?_
  refine V_iconst (q := 17) g dL_turned_16 rfl ?_
  refine V_iconst (q := 18) g dL_turned_17 rfl ?_
  refine V_iconst (q := 19) g dL_turned_18 rfl ?_
  refine V_iconst (q := 20) g dL_turned_19 rfl ?_
  refine V_u5 (q := 23) 1 (110 + 8) g (cq_2 l hfl hL hO (by omega)) dL_turned_20 k_L_192 rfl ⟨by decide, by decide⟩ (hK1.le (by omega)) rfl rfl (fun z2 M2 κ2 e2 hK2 => ?_)
  obtain ⟨e2, rfl⟩ := e2
  have e2 : z2 = σ.1 1 := e2.trans (qAb_1 _)
  subst e2
  refine V_irem (q := 24) g dL_turned_23 (by omega) (by omega) rfl ?_
  refine V_istore_4 (q := 26) g dL_turned_24 (by decide) rfl rfl ?_
  refine V_aload_n (q := 27) g dL_turned_26 rfl rfl ?_
  refine V_bipush (q := 29) g dL_turned_27 (by decide) rfl ?_
  refine V_iload_n (q := 30) g dL_turned_29 rfl rfl ?_
  refine V_iload (q := 32) g dL_turned_30 rfl rfl ?_
  refine V_iconst (q := 33) g dL_turned_32 rfl ?_
  refine V_u5 (q := 36) 1 (110 + 7) g (cq_19 l hfl hL hO (by omega) (by omega) (by omega)) dL_turned_33 k_L_192 rfl ⟨by decide, by decide⟩ (hK2.le (by omega)) rfl rfl (fun z3 M3 κ3 e3 hK3 => ?_)
  obtain ⟨e3, rfl⟩ := e3
  have e3 : z3 = sBq σ.1 (x % σ.1 0) ((x / 10) % σ.1 1) := e3.trans (qTn_0 hc hf)
  subst e3
  refine V_istore_5 (q := 38) g dL_turned_36 (by decide) rfl rfl ?_
  refine V_aload_n (q := 39) g dL_turned_38 rfl rfl ?_
  refine V_bipush (q := 41) g dL_turned_39 (by decide) rfl ?_
  refine V_iload_n (q := 42) g dL_turned_41 rfl rfl ?_
  refine V_iload (q := 44) g dL_turned_42 rfl rfl ?_
  refine V_iconst (q := 45) g dL_turned_44 rfl ?_
  refine V_u5 (q := 48) 1 (110 + 6) g (cq_19 l hfl hL hO (by omega) (by omega) (by omega)) dL_turned_45 k_L_192 rfl ⟨by decide, by decide⟩ (hK3.le (by omega)) rfl rfl (fun z4 M4 κ4 e4 hK4 => ?_)
  obtain ⟨e4, rfl⟩ := e4
  have e4 : z4 = sWq σ.1 (x % σ.1 0) ((x / 10) % σ.1 1) := e4.trans (qTn_1 hc hf)
  subst e4
  refine V_istore_6 (q := 50) g dL_turned_48 (by decide) rfl rfl ?_
  refine V_aload_n (q := 51) g dL_turned_50 rfl rfl ?_
  refine V_iconst (q := 52) g dL_turned_51 rfl ?_
  refine V_iload_n (q := 53) g dL_turned_52 rfl rfl ?_
  refine V_iconst (q := 54) g dL_turned_53 rfl ?_
  refine V_iconst (q := 55) g dL_turned_54 rfl ?_
  refine V_u5 (q := 58) 1 (110 + 5) g (cq_4 l hfl hL hO (by omega) (by omega)) dL_turned_55 k_L_192 rfl ⟨by decide, by decide⟩ (hK4.le (by omega)) rfl rfl (fun z5 M5 κ5 e5 hK5 => ?_)
  obtain ⟨e5, rfl⟩ := e5
  have e5 : z5 = sWn σ.1 (x % σ.1 0) := e5.trans (qWb_0 hc)
  subst e5
  refine V_istore_7 (q := 60) g dL_turned_58 (by decide) rfl rfl ?_
  refine V_aload_n (q := 61) g dL_turned_60 rfl rfl ?_
  refine V_iconst (q := 62) g dL_turned_61 rfl ?_
  refine V_iload_n (q := 63) g dL_turned_62 rfl rfl ?_
  refine V_bipush (q := 65) g dL_turned_63 (by decide) rfl ?_
  refine V_iconst (q := 66) g dL_turned_65 rfl ?_
  refine V_u5 (q := 69) 1 (110 + 4) g (cq_3 l hfl hL hO (by omega) (by omega)) dL_turned_66 k_L_192 rfl ⟨by decide, by decide⟩ (hK5.le (by omega)) rfl rfl (fun z6 M6 κ6 e6 hK6 => ?_)
  obtain ⟨e6, rfl⟩ := e6
  have e6 : z6 = σ.1 (47 + 9 * (x % σ.1 0)) := e6.trans (qCh_6 hc)
  subst e6
  refine V_istore_8 (q := 71) g dL_turned_69 (by decide) rfl rfl ?_
  refine V_iconst (q := 72) g dL_turned_71 rfl ?_
  refine V_istore_9 (q := 74) g dL_turned_72 (by decide) rfl rfl ?_
  refine V_iconst (q := 75) g dL_turned_74 rfl ?_
  refine V_istore_10 (q := 77) g dL_turned_75 (by decide) rfl rfl ?_
  refine V_iconst (q := 78) g dL_turned_77 rfl ?_
  refine V_istore_11 (q := 80) g dL_turned_78 (by decide) rfl rfl ?_
  refine tu_0 (f := σ.1) (j := 106) hfl g hd hL hL2 rfl hc hf hO hQ (hK6.le (by omega)) (fun lo σ1 M1 κ1 hlo hT hO hQ hK => ?_)
  refine tu_k (f := σ.1) (k := 1) (j := 98) hfl g hd hL hL2 hT.1 hc hf (by decide) hlo hO hQ (hK.le (by omega)) (fun σ2 M1 κ1 hT2 hO hQ hK => ?_)
  replace hT := hT.tr hT2
  refine tu_k (f := σ.1) (k := 2) (j := 90) hfl g hd hL hL2 hT.1 hc hf (by decide) hlo hO hQ (hK.le (by omega)) (fun σ2 M1 κ1 hT2 hO hQ hK => ?_)
  replace hT := hT.tr hT2
  refine tu_k (f := σ.1) (k := 3) (j := 82) hfl g hd hL hL2 hT.1 hc hf (by decide) hlo hO hQ (hK.le (by omega)) (fun σ2 M1 κ1 hT2 hO hQ hK => ?_)
  replace hT := hT.tr hT2
  refine tu_k (f := σ.1) (k := 4) (j := 74) hfl g hd hL hL2 hT.1 hc hf (by decide) hlo hO hQ (hK.le (by omega)) (fun σ2 M1 κ1 hT2 hO hQ hK => ?_)
  replace hT := hT.tr hT2
  refine V_lvw (lvLe_s (lvLe_s (lvLe_s (lvLe_s (lvLe_s (lvLe_s (lvLe_s (lvLe_s (lvLe_s (lvLe_n (lvLe_s (lvLe_s (lvLe_n (lvLe_n (lvLe_n lvLe_0))))))))))))))) (tu_n (f := σ.1) (j := 71) hfl g hd hL hL2 hT.1 hc hf hO hQ (hK.le (by omega)) (fun σ2 M1 κ1 hT2 hO hQ hK => ?_))
  replace hT := hT.tr hT2
  refine tu_s (f := σ.1) (j := 63) hfl g hd hL hL2 hT.1 hc hf hO hQ (hK.le (by omega)) (fun σ2 M1 κ1 hT2 hO hQ hK => ?_)
  replace hT := hT.tr hT2
  obtain ⟨hw1, hw2, hw3⟩ := wn_r hI hc
  have hfg := hI.fl hc
  have hT1 := hT.1
  have hc2 : 0 ≤ x % σ.1 0 ∧ x % σ.1 0 < σ2.1 0 := by rw [hT1]; exact hc
  refine V_iload (q := 473) g dL_turned_471 rfl rfl ?_
  refine V_if_eq (q := 476) g dL_turned_473 (tgt := 507) (by decide) rfl (by omega) (fun h801 => absurd h801 (by omega)) (fun h801 => ?_)
  refine V_aload_n (q := 477) g dL_turned_476 rfl rfl ?_
  refine V_iconst (q := 478) g dL_turned_477 rfl ?_
  refine V_iload_n (q := 479) g dL_turned_478 rfl rfl ?_
  refine V_iconst (q := 480) g dL_turned_479 rfl ?_
  refine V_iconst (q := 481) g dL_turned_480 rfl ?_
  refine V_u5 (q := 484) 1 (0 + 62) g (cq_4 l hfl hL hO (by omega) (by omega)) dL_turned_481 k_L_192 rfl ⟨by decide, by decide⟩ (hK.le (by omega)) rfl rfl (fun z802 M802 κ802 e802 hK802 => ?_)
  obtain ⟨e802, rfl⟩ := e802
  have e802 : z802 = sWn σ.1 (x % σ.1 0) := e802.trans ((qWb_0 hc2).trans (by rw [hT1]))
  refine V_iload (q := 486) g dL_turned_484 rfl rfl ?_
  refine V_icmp_ne (q := 489) g dL_turned_486 (tgt := 507) (by decide) rfl (by omega) (by omega) (fun h803 => absurd h803 (by omega)) (fun h803 => ?_)
  refine V_aload_n (q := 490) g dL_turned_489 rfl rfl ?_
  refine V_iconst (q := 491) g dL_turned_490 rfl ?_
  refine V_iload_n (q := 492) g dL_turned_491 rfl rfl ?_
  refine V_bipush (q := 494) g dL_turned_492 (by decide) rfl ?_
  refine V_iconst (q := 495) g dL_turned_494 rfl ?_
  refine V_u5 (q := 498) 1 (0 + 61) g (cq_3 l hfl hL hO (by omega) (by omega)) dL_turned_495 k_L_192 rfl ⟨by decide, by decide⟩ (hK802.le (by omega)) rfl rfl (fun z804 M804 κ804 e804 hK804 => ?_)
  obtain ⟨e804, rfl⟩ := e804
  have e804 : z804 = σ.1 (47 + 9 * (x % σ.1 0)) := e804.trans ((qCh_6 hc2).trans (by rw [hT1]))
  refine V_iload (q := 500) g dL_turned_498 rfl rfl ?_
  refine V_icmp_ne (q := 503) g dL_turned_500 (tgt := 507) (by decide) rfl (by omega) (by omega) (fun h805 => absurd h805 (by omega)) (fun h805 => ?_)
  refine V_iconst (q := 504) g dL_turned_503 rfl ?_
  refine V_goto g dL_turned_504 (tgt := 508) (by decide) ?_
  exact V_r0 g r hK804 dL_turned_508 rfl ⟨rfl, σ2, hT, hO, hQ⟩
