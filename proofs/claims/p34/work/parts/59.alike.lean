abbrev rm_L_alike : Room := { frames := 10, cells := 420, slots := 2520, locals := 220 }
set_option maxHeartbeats 8000000 in
set_option maxRecDepth 100000 in
/-- two offices in the same state answer alike -/
theorem c_L_alike (l : Launch) (hfl : l.stackTraces = false) {D : DD} {Λ : LY} {M : MM} {s t : Nat} {σ : SG} {x : Int} (hL : ClsL D Λ s) (hL2 : ClsL D Λ t) (hd : s + 217 ≤ t ∨ t + 217 ≤ s) (hO : Os M s σ) (hQ : Os M t σ) (hx : 0 ≤ x ∧ x < 5000) : CXI l yL_alike cL_alike 5 .boolean rm_L_alike [.ref s, .ref t, vi x] D Λ M (fun z M1 => z = 1 ∧ Os M1 s σ ∧ Os M1 t σ) (fun _ _ => False) := by
  refine CXI_of rfl rfl (Nat.le_of_ble_eq_true rfl) (fun Γ g r => ?_)
  have hK : Kb (0, 0) rm_L_alike 140 := ⟨by decide, by decide⟩
  have hloop : ∀ (n : Nat) (k : Int) (M : MM) (κ : Nat × Nat), k + n = 11 → 0 ≤ k → Os M s σ → Os M t σ → Kb κ rm_L_alike (10 * n) → V Γ D Λ M κ 47 [some (.ref s), some (.ref t), some (vi x), some (vi 1), some (vi k)] [] := by
    intro n
    induction n with
    | zero =>
      intro k M κ hk hk0 hO hQ hK
      refine V_iload (q := 49) g dL_alike_47 rfl rfl ?_
      refine V_bipush (q := 51) g dL_alike_49 (by decide) rfl ?_
      refine V_icmp_ge (q := 54) g dL_alike_51 (tgt := 197) (by decide) rfl (by omega) (by omega) (fun h101 => ?_) (fun h101 => absurd h101 (by omega))
      refine V_iload_n (q := 198) g dL_alike_197 rfl rfl ?_
      exact V_r0 g r hK dL_alike_198 rfl ⟨rfl, hO, hQ⟩
    | succ n ih =>
      intro k M κ hk hk0 hO hQ hK
      refine V_iload (q := 49) g dL_alike_47 rfl rfl ?_
      refine V_bipush (q := 51) g dL_alike_49 (by decide) rfl ?_
      refine V_icmp_ge (q := 54) g dL_alike_51 (tgt := 197) (by decide) rfl (by omega) (by omega) (fun h101 => absurd h101 (by omega)) (fun h101 => ?_)
      refine V_iload_n (q := 55) g dL_alike_54 rfl rfl ?_
      refine V_if_eq (q := 58) g dL_alike_55 (tgt := 197) (by decide) rfl (by omega) (fun h102 => absurd h102 (by omega)) (fun h102 => ?_)
      refine V_aload_n (q := 59) g dL_alike_58 rfl rfl ?_
      refine V_iconst (q := 60) g dL_alike_59 rfl ?_
      refine V_iload (q := 62) g dL_alike_60 rfl rfl ?_
      refine V_iconst (q := 63) g dL_alike_62 rfl ?_
      refine V_iconst (q := 64) g dL_alike_63 rfl ?_
      refine V_u5 (q := 67) 1 (10 * n + 9) g (cq_2 l hfl hL hO (by omega)) dL_alike_64 k_L_192 rfl ⟨by decide, by decide⟩ (hK.le (by omega)) rfl rfl (fun z103 M103 κ103 e103 hK103 => ?_)
      obtain ⟨e103, rfl⟩ := e103
      rw [vi_nz z103]
      refine V_aload_n (q := 68) g dL_alike_67 rfl rfl ?_
      refine V_iconst (q := 69) g dL_alike_68 rfl ?_
      refine V_iload (q := 71) g dL_alike_69 rfl rfl ?_
      refine V_iconst (q := 72) g dL_alike_71 rfl ?_
      refine V_iconst (q := 73) g dL_alike_72 rfl ?_
      refine V_u5 (q := 76) 1 (10 * n + 8) g (cq_2 l hfl hL2 hQ (by omega)) dL_alike_73 k_L_192 rfl ⟨by decide, by decide⟩ (hK103.le (by omega)) rfl rfl (fun z104 M104 κ104 e104 hK104 => ?_)
      obtain ⟨e104, rfl⟩ := e104
      rw [vi_nz z104]
      refine V_icmp_ne (q := 79) g dL_alike_76 (tgt := 189) (by decide) rfl (nz_r _) (nz_r _) (fun h105 => absurd h105 (by exact fun q => q (congrArg nz (e103.trans e104.symm)))) (fun h105 => ?_)
      refine V_aload_n (q := 80) g dL_alike_79 rfl rfl ?_
      refine V_iconst (q := 81) g dL_alike_80 rfl ?_
      refine V_iload (q := 83) g dL_alike_81 rfl rfl ?_
      refine V_iload_n (q := 84) g dL_alike_83 rfl rfl ?_
      refine V_bipush (q := 86) g dL_alike_84 (by decide) rfl ?_
      refine V_irem (q := 87) g dL_alike_86 (by omega) (by omega) rfl ?_
      refine V_iconst (q := 88) g dL_alike_87 rfl ?_
      refine V_u5 (q := 91) 1 (10 * n + 7) g (cq_3 l hfl hL hO (by omega) (by omega)) dL_alike_88 k_L_192 rfl ⟨by decide, by decide⟩ (hK104.le (by omega)) rfl rfl (fun z106 M106 κ106 e106 hK106 => ?_)
      obtain ⟨e106, rfl⟩ := e106
      rw [vi_nz z106]
      refine V_aload_n (q := 92) g dL_alike_91 rfl rfl ?_
      refine V_iconst (q := 93) g dL_alike_92 rfl ?_
      refine V_iload (q := 95) g dL_alike_93 rfl rfl ?_
      refine V_iload_n (q := 96) g dL_alike_95 rfl rfl ?_
      refine V_bipush (q := 98) g dL_alike_96 (by decide) rfl ?_
      refine V_irem (q := 99) g dL_alike_98 (by omega) (by omega) rfl ?_
      refine V_iconst (q := 100) g dL_alike_99 rfl ?_
      refine V_u5 (q := 103) 1 (10 * n + 6) g (cq_3 l hfl hL2 hQ (by omega) (by omega)) dL_alike_100 k_L_192 rfl ⟨by decide, by decide⟩ (hK106.le (by omega)) rfl rfl (fun z107 M107 κ107 e107 hK107 => ?_)
      obtain ⟨e107, rfl⟩ := e107
      rw [vi_nz z107]
      refine V_icmp_ne (q := 106) g dL_alike_103 (tgt := 189) (by decide) rfl (nz_r _) (nz_r _) (fun h108 => absurd h108 (by exact fun q => q (congrArg nz (e106.trans e107.symm)))) (fun h108 => ?_)
      refine V_aload_n (q := 107) g dL_alike_106 rfl rfl ?_
      refine V_iconst (q := 108) g dL_alike_107 rfl ?_
      refine V_iload (q := 110) g dL_alike_108 rfl rfl ?_
      refine V_iload_n (q := 111) g dL_alike_110 rfl rfl ?_
      refine V_iconst (q := 112) g dL_alike_111 rfl ?_
      refine V_irem (q := 113) g dL_alike_112 (by omega) (by omega) rfl ?_
      refine V_iconst (q := 114) g dL_alike_113 rfl ?_
      refine V_u5 (q := 117) 1 (10 * n + 5) g (cq_5 l hfl hL hO (by omega) (by omega) (by omega)) dL_alike_114 k_L_192 rfl ⟨by decide, by decide⟩ (hK107.le (by omega)) rfl rfl (fun z109 M109 κ109 e109 hK109 => ?_)
      obtain ⟨e109, rfl⟩ := e109
      rw [vi_nz z109]
      refine V_aload_n (q := 118) g dL_alike_117 rfl rfl ?_
      refine V_iconst (q := 119) g dL_alike_118 rfl ?_
      refine V_iload (q := 121) g dL_alike_119 rfl rfl ?_
      refine V_iload_n (q := 122) g dL_alike_121 rfl rfl ?_
      refine V_iconst (q := 123) g dL_alike_122 rfl ?_
      refine V_irem (q := 124) g dL_alike_123 (by omega) (by omega) rfl ?_
      refine V_iconst (q := 125) g dL_alike_124 rfl ?_
      refine V_u5 (q := 128) 1 (10 * n + 4) g (cq_5 l hfl hL2 hQ (by omega) (by omega) (by omega)) dL_alike_125 k_L_192 rfl ⟨by decide, by decide⟩ (hK109.le (by omega)) rfl rfl (fun z110 M110 κ110 e110 hK110 => ?_)
      obtain ⟨e110, rfl⟩ := e110
      rw [vi_nz z110]
      refine V_icmp_ne (q := 131) g dL_alike_128 (tgt := 189) (by decide) rfl (nz_r _) (nz_r _) (fun h111 => absurd h111 (by exact fun q => q (congrArg nz (e109.trans e110.symm)))) (fun h111 => ?_)
      refine V_aload_n (q := 132) g dL_alike_131 rfl rfl ?_
      refine V_bipush (q := 134) g dL_alike_132 (by decide) rfl ?_
      refine V_iload (q := 136) g dL_alike_134 rfl rfl ?_
      refine V_iconst (q := 137) g dL_alike_136 rfl ?_
      refine V_irem (q := 138) g dL_alike_137 (by omega) (by omega) rfl ?_
      refine V_iload_n (q := 139) g dL_alike_138 rfl rfl ?_
      refine V_iconst (q := 140) g dL_alike_139 rfl ?_
      refine V_irem (q := 141) g dL_alike_140 (by omega) (by omega) rfl ?_
      refine V_iconst (q := 142) g dL_alike_141 rfl ?_
      refine V_u5 (q := 145) 1 (10 * n + 3) g (cq_6 l hfl hL hO (by omega) (by omega)) dL_alike_142 k_L_192 rfl ⟨by decide, by decide⟩ (hK110.le (by omega)) rfl rfl (fun z112 M112 κ112 e112 hK112 => ?_)
      obtain ⟨e112, rfl⟩ := e112
      rw [vi_nz z112]
      refine V_aload_n (q := 146) g dL_alike_145 rfl rfl ?_
      refine V_bipush (q := 148) g dL_alike_146 (by decide) rfl ?_
      refine V_iload (q := 150) g dL_alike_148 rfl rfl ?_
      refine V_iconst (q := 151) g dL_alike_150 rfl ?_
      refine V_irem (q := 152) g dL_alike_151 (by omega) (by omega) rfl ?_
      refine V_iload_n (q := 153) g dL_alike_152 rfl rfl ?_
      refine V_iconst (q := 154) g dL_alike_153 rfl ?_
      refine V_irem (q := 155) g dL_alike_154 (by omega) (by omega) rfl ?_
      refine V_iconst (q := 156) g dL_alike_155 rfl ?_
      refine V_u5 (q := 159) 1 (10 * n + 2) g (cq_6 l hfl hL2 hQ (by omega) (by omega)) dL_alike_156 k_L_192 rfl ⟨by decide, by decide⟩ (hK112.le (by omega)) rfl rfl (fun z113 M113 κ113 e113 hK113 => ?_)
      obtain ⟨e113, rfl⟩ := e113
      rw [vi_nz z113]
      refine V_icmp_ne (q := 162) g dL_alike_159 (tgt := 189) (by decide) rfl (nz_r _) (nz_r _) (fun h114 => absurd h114 (by exact fun q => q (congrArg nz (e112.trans e113.symm)))) (fun h114 => ?_)
      refine V_aload_n (q := 163) g dL_alike_162 rfl rfl ?_
      refine V_bipush (q := 165) g dL_alike_163 (by decide) rfl ?_
      refine V_iload (q := 167) g dL_alike_165 rfl rfl ?_
      refine V_iconst (q := 168) g dL_alike_167 rfl ?_
      refine V_iconst (q := 169) g dL_alike_168 rfl ?_
      refine V_u5 (q := 172) 1 (10 * n + 1) g (cq_20 l hfl hL hO (by omega)) dL_alike_169 k_L_192 rfl ⟨by decide, by decide⟩ (hK113.le (by omega)) rfl rfl (fun z115 M115 κ115 e115 hK115 => ?_)
      obtain ⟨e115, hs115, hf115⟩ := e115
      have hx115_t := hQ.fr hf115 (by omega)
      rw [vi_nz z115]
      refine V_aload_n (q := 173) g dL_alike_172 rfl rfl ?_
      refine V_bipush (q := 175) g dL_alike_173 (by decide) rfl ?_
      refine V_iload (q := 177) g dL_alike_175 rfl rfl ?_
      refine V_iconst (q := 178) g dL_alike_177 rfl ?_
      refine V_iconst (q := 179) g dL_alike_178 rfl ?_
      refine V_u5 (q := 182) 1 (10 * n) g (cq_20 l hfl hL2 hx115_t (by omega)) dL_alike_179 k_L_192 rfl ⟨by decide, by decide⟩ (hK115.le (by omega)) rfl rfl (fun z116 M116 κ116 e116 hK116 => ?_)
      obtain ⟨e116, hs116, hf116⟩ := e116
      have hx116_s := hs115.fr hf116 (by omega)
      rw [vi_nz z116]
      refine V_icmp_ne (q := 185) g dL_alike_182 (tgt := 189) (by decide) rfl (nz_r _) (nz_r _) (fun h117 => absurd h117 (by exact fun q => q (congrArg nz (e115.trans e116.symm)))) (fun h117 => ?_)
      refine V_iconst (q := 186) g dL_alike_185 rfl ?_
      refine V_goto g dL_alike_186 (tgt := 190) (by decide) ?_
      refine V_istore_n_3 (q := 191) g dL_alike_190 (by decide) rfl rfl ?_
      refine V_iinc_4 (q := 194) g dL_alike_191 (by decide) rfl rfl ?_
      refine V_goto g dL_alike_194 (tgt := 47) (by decide) ?_
      exact ih (k + 1) _ _ (by omega) (by omega) hx116_s hs116 (hK116.le (by omega))
  refine V_aload_n (q := 1) g dL_alike_0 rfl rfl ?_
  refine V_iload_n (q := 2) g dL_alike_1 rfl rfl ?_
  refine V_i2l (q := 3) g dL_alike_2 (by omega) rfl ?_
  refine V_iconst (q := 4) g dL_alike_3 rfl ?_
  refine V_iload_n (q := 5) g dL_alike_4 rfl rfl ?_
  refine V_bipush (q := 7) g dL_alike_5 (by decide) rfl ?_
  refine V_irem (q := 8) g dL_alike_7 (by omega) (by omega) rfl ?_
  refine V_iadd (q := 9) g dL_alike_8 rfl ?_
  refine V_uh3 (q := 12) 1 (130 + 9) g (ch_doSimulate l hfl hL hO (by omega)) dL_alike_9 k_L_205 rfl ⟨by decide, by decide⟩ (hK.le (by omega)) rfl rfl (fun z1 M1 κ1 e1 hK1 => ?_)
  have e1 := w_simulate hO e1
  obtain ⟨e1, hs1, hf1⟩ := e1
  have hx1_t := hQ.fr hf1 (by omega)
  rw [vi_nz z1]
  refine V_aload_n (q := 13) g dL_alike_12 rfl rfl ?_
  refine V_iload_n (q := 14) g dL_alike_13 rfl rfl ?_
  refine V_i2l (q := 15) g dL_alike_14 (by omega) rfl ?_
  refine V_iconst (q := 16) g dL_alike_15 rfl ?_
  refine V_iload_n (q := 17) g dL_alike_16 rfl rfl ?_
  refine V_bipush (q := 19) g dL_alike_17 (by decide) rfl ?_
  refine V_irem (q := 20) g dL_alike_19 (by omega) (by omega) rfl ?_
  refine V_iadd (q := 21) g dL_alike_20 rfl ?_
  refine V_uh3 (q := 24) 1 (130 + 8) g (ch_doSimulate l hfl hL2 hx1_t (by omega)) dL_alike_21 k_L_205 rfl ⟨by decide, by decide⟩ (hK1.le (by omega)) rfl rfl (fun z2 M2 κ2 e2 hK2 => ?_)
  have e2 := w_simulate hx1_t e2
  obtain ⟨e2, hs2, hf2⟩ := e2
  have hx2_s := hs1.fr hf2 (by omega)
  rw [vi_nz z2]
  refine V_icmp_ne (q := 27) g dL_alike_24 (tgt := 42) (by decide) rfl (nz_r _) (nz_r _) (fun h3 => absurd h3 (by exact fun q => q (congrArg nz (e1.trans e2.symm)))) (fun h3 => ?_)
  refine V_aload_n (q := 28) g dL_alike_27 rfl rfl ?_
  refine V_us (q := 31) g (c_X4_sound l hL hx2_s.1.1 hx2_s.1.2) dL_alike_28 k_L_209 hL.1 rfl rfl rfl ⟨rfl, rfl⟩ hK2 rfl rfl (fun z4 M4 e4 => ?_)
  obtain ⟨e4, rfl⟩ := e4
  rw [vi_nz z4]
  refine V_aload_n (q := 32) g dL_alike_31 rfl rfl ?_
  refine V_us (q := 35) g (c_X4_sound l hL2 hs2.1.1 hs2.1.2) dL_alike_32 k_L_209 hL2.1 rfl rfl rfl ⟨rfl, rfl⟩ hK2 rfl rfl (fun z5 M5 e5 => ?_)
  obtain ⟨e5, rfl⟩ := e5
  rw [vi_nz z5]
  refine V_icmp_ne (q := 38) g dL_alike_35 (tgt := 42) (by decide) rfl (nz_r _) (nz_r _) (fun h6 => absurd h6 (by exact fun q => q (congrArg nz (e4.trans e5.symm)))) (fun h6 => ?_)
  refine V_iconst (q := 39) g dL_alike_38 rfl ?_
  refine V_goto g dL_alike_39 (tgt := 43) (by decide) ?_
  refine V_istore_n_3 (q := 44) g dL_alike_43 (by decide) rfl rfl ?_
  refine V_iconst (q := 45) g dL_alike_44 rfl ?_
  refine V_istore_4 (q := 47) g dL_alike_45 (by decide) rfl rfl ?_
  exact hloop 11 0 _ _ (by omega) (by omega) hx2_s hs2 (hK2.le (by omega))
