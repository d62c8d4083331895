abbrev rm_L_act : Room := { frames := 10, cells := 24, slots := 144, locals := 220 }
def aM7 (y : Int) : Int := if y % 7 = 0 then 400 else 12
def aM5 (y : Int) : Int := if y % 5 = 0 then 99 else 9
def aBv (k y : Int) : Int := if k < 2 then 350 + y / 40 % 200 else if k = 2 then y / 40 % 12 else y / 40 % 30
def qAct (σ : SG) (x : Int) : Int := if x % 16 = 0 then (qComes σ.1 ((x / 16) % 4) (380 + (((x / 16) / 4) % 140))) else (if x % 16 = 1 then (qLay σ.1 ((x / 16) % 6) (((x / 16) / 6) % 6) (((x / 16) / 36) % 6) (((x / 16) / 216) % 6)) else (if x % 16 = 2 then (qLevel σ.1 ((x / 16) % σ.1 1) (((x / 16) / 10) % 4) (((x / 16) / 40) % 8)) else (if x % 16 = 3 then (qSaw σ.1 ((x / 16) % σ.1 0) (((x / 16) / 10) % 4) (1 + (((x / 16) / 40) % aM7 (x / 16)))) else (if x % 16 = 4 then (qSaw σ.1 ((x / 16) % σ.1 0) (((x / 16) / 10) % 4) (1 + (((x / 16) / 40) % aM7 (x / 16)))) else (if x % 16 = 5 then (qShim σ.1 ((x / 16) % σ.1 0) (((x / 16) / 10) % 4) (1 + (((x / 16) / 40) % aM5 (x / 16)))) else (if x % 16 = 6 then (qBring σ.1 ((x / 16) % σ.1 0) (((x / 16) / 40) % σ.1 1) (((x / 16) / 10) % 4)) else (if x % 16 = 7 then (qTest σ.1 ((x / 16) % σ.1 0)) else (if x % 16 = 8 then (qTest σ.1 ((x / 16) % σ.1 0)) else (if x % 16 = 9 then (qTest σ.1 ((x / 16) % σ.1 0)) else (if x % 16 = 10 then (qSit σ.1 ((x / 16) % σ.1 0) (1 + (((x / 16) / 40) % 200))) else (if x % 16 = 11 then (qSit σ.1 ((x / 16) % σ.1 0) (1 + (((x / 16) / 40) % 200))) else (if x % 16 = 12 then (qBound σ.1 ((x / 16) % 4) (((x / 16) / 10) % 4) (aBv (((x / 16) / 10) % 4) (x / 16))) else (if x % 16 = 13 then (if (x / 16) % 2 = 0 then qPut σ.1 0 (((x / 16) / 2) % 51) else qPut σ.1 1 (1 + (((x / 16) / 2) % 60))) else (if x % 16 = 14 then (if σ.1 0 < 2 then -1 else qUndo σ) else (if (x / 16) % 2 = 0 then qKeep σ.1 (((x / 16) / 2) % 2) else qBack σ (((x / 16) / 2) % 2))))))))))))))))
def nAct (σ : SG) (x : Int) : SG := if x % 16 = 0 then (nComes σ ((x / 16) % 4) (380 + (((x / 16) / 4) % 140))) else (if x % 16 = 1 then (nLay σ ((x / 16) % 6) (((x / 16) / 6) % 6) (((x / 16) / 36) % 6) (((x / 16) / 216) % 6)) else (if x % 16 = 2 then (nLevel σ ((x / 16) % σ.1 1) (((x / 16) / 10) % 4) (((x / 16) / 40) % 8)) else (if x % 16 = 3 then (nSaw σ ((x / 16) % σ.1 0) (((x / 16) / 10) % 4) (1 + (((x / 16) / 40) % aM7 (x / 16)))) else (if x % 16 = 4 then (nSaw σ ((x / 16) % σ.1 0) (((x / 16) / 10) % 4) (1 + (((x / 16) / 40) % aM7 (x / 16)))) else (if x % 16 = 5 then (nShim σ ((x / 16) % σ.1 0) (((x / 16) / 10) % 4) (1 + (((x / 16) / 40) % aM5 (x / 16)))) else (if x % 16 = 6 then (nBring σ ((x / 16) % σ.1 0) (((x / 16) / 40) % σ.1 1) (((x / 16) / 10) % 4)) else (if x % 16 = 7 then (nTest σ ((x / 16) % σ.1 0)) else (if x % 16 = 8 then (nTest σ ((x / 16) % σ.1 0)) else (if x % 16 = 9 then (nTest σ ((x / 16) % σ.1 0)) else (if x % 16 = 10 then (nSit σ ((x / 16) % σ.1 0) (1 + (((x / 16) / 40) % 200))) else (if x % 16 = 11 then (nSit σ ((x / 16) % σ.1 0) (1 + (((x / 16) / 40) % 200))) else (if x % 16 = 12 then (nBound σ ((x / 16) % 4) (((x / 16) / 10) % 4) (aBv (((x / 16) / 10) % 4) (x / 16))) else (if x % 16 = 13 then (if (x / 16) % 2 = 0 then nPut σ 0 (((x / 16) / 2) % 51) else nPut σ 1 (1 + (((x / 16) / 2) % 60))) else (if x % 16 = 14 then (if σ.1 0 < 2 then σ else nUndo σ) else (if (x / 16) % 2 = 0 then nKeep σ (((x / 16) / 2) % 2) else nBack σ (((x / 16) / 2) % 2))))))))))))))))
set_option maxHeartbeats 8000000 in
set_option maxRecDepth 100000 in
/-- one thing is done -/
theorem c_L_act (l : Launch) (hfl : l.stackTraces = false) {D : DD} {Λ : LY} {M : MM} {s : Nat} {σ : SG} {x : Int} (hL : ClsL D Λ s) (hO : Os M s σ) (hx : 0 ≤ x ∧ x < 2147483648) (h1c : 1 ≤ σ.1 0) : CXI l yL_act cL_act 7 .int rm_L_act [.ref s, vi x] D Λ M (fun z M1 => z = qAct σ x ∧ Sp M s (nAct σ x) M1) (fun _ _ => False) := by
  refine CXI_of rfl rfl (Nat.le_of_ble_eq_true rfl) (fun Γ g r => ?_)
  have hK : Kb (0, 0) rm_L_act 8 := ⟨by decide, by decide⟩
  have hS : Sp M s σ M := ⟨hO, Fr.rf⟩
  have h0 := hO.1.2.1
  have h1 := hO.1.2.2.1
  refine V_iload_n (q := 1) g dL_act_0 rfl rfl ?_
  refine V_bipush (q := 3) g dL_act_1 (by decide) rfl ?_
  refine V_idiv (q := 4) g dL_act_3 (by omega) (by omega) rfl ?_
  refine V_istore_n_2 (q := 5) g dL_act_4 (by decide) rfl rfl ?_
  refine V_aload_n (q := 6) g dL_act_5 rfl rfl ?_
  refine V_iconst (q := 7) g dL_act_6 rfl ?_
  refine V_iconst (q := 8) g dL_act_7 rfl ?_
  refine V_iconst (q := 9) g dL_act_8 rfl ?_
  refine V_iconst (q := 10) g dL_act_9 rfl ?_
  refine V_u5 (q := 13) 1 (0 + 7) g (cq_2 l hfl hL hS.1 (by omega)) dL_act_10 k_L_192 rfl ⟨by decide, by decide⟩ (hK.le (by omega)) rfl rfl (fun z1 M1 κ1 e1 hK1 => ?_)
  obtain ⟨e1, rfl⟩ := e1
  have e1 : z1 = σ.1 0 := e1.trans (qAb_0 _)
  subst e1
  refine V_istore_n_3 (q := 14) g dL_act_13 (by decide) rfl rfl ?_
  refine V_aload_n (q := 15) g dL_act_14 rfl rfl ?_
  refine V_iconst (q := 16) g dL_act_15 rfl ?_
  refine V_iconst (q := 17) g dL_act_16 rfl ?_
  refine V_iconst (q := 18) g dL_act_17 rfl ?_
  refine V_iconst (q := 19) g dL_act_18 rfl ?_
  refine V_u5 (q := 22) 1 (0 + 6) g (cq_2 l hfl hL hS.1 (by omega)) dL_act_19 k_L_192 rfl ⟨by decide, by decide⟩ (hK1.le (by omega)) rfl rfl (fun z2 M2 κ2 e2 hK2 => ?_)
  obtain ⟨e2, rfl⟩ := e2
  have e2 : z2 = σ.1 1 := e2.trans (qAb_1 _)
  subst e2
  refine V_istore_4 (q := 24) g dL_act_22 (by decide) rfl rfl ?_
  refine V_iload_n (q := 25) g dL_act_24 rfl rfl ?_
  refine V_iload_n (q := 26) g dL_act_25 rfl rfl ?_
  refine V_irem (q := 27) g dL_act_26 (by omega) (by omega) rfl ?_
  have hma9 : 0 ≤ (x / 16) % σ.1 0 ∧ (x / 16) % σ.1 0 < σ.1 0 := ⟨Int.emod_nonneg _ (by omega), Int.emod_lt_of_pos _ (by omega)⟩
  refine V_istore_5 (q := 29) g dL_act_27 (by decide) rfl rfl ?_
  refine V_iload_n (q := 30) g dL_act_29 rfl rfl ?_
  refine V_bipush (q := 32) g dL_act_30 (by decide) rfl ?_
  refine V_idiv (q := 33) g dL_act_32 (by omega) (by omega) rfl ?_
  refine V_iconst (q := 34) g dL_act_33 rfl ?_
  refine V_irem (q := 35) g dL_act_34 (by omega) (by omega) rfl ?_
  refine V_istore_6 (q := 37) g dL_act_35 (by decide) rfl rfl ?_
  refine V_iload_n (q := 38) g dL_act_37 rfl rfl ?_
  refine V_bipush (q := 40) g dL_act_38 (by decide) rfl ?_
  refine V_irem (q := 41) g dL_act_40 (by omega) (by omega) rfl ?_
  rcases (by omega : (x % 16) = 0 ∨ (x % 16) = 1 ∨ (x % 16) = 2 ∨ (x % 16) = 3 ∨ (x % 16) = 4 ∨ (x % 16) = 5 ∨ (x % 16) = 6 ∨ (x % 16) = 7 ∨ (x % 16) = 8 ∨ (x % 16) = 9 ∨ (x % 16) = 10 ∨ (x % 16) = 11 ∨ (x % 16) = 12 ∨ (x % 16) = 13 ∨ (x % 16) = 14 ∨ (x % 16) = 15) with h3 | h3 | h3 | h3 | h3 | h3 | h3 | h3 | h3 | h3 | h3 | h3 | h3 | h3 | h3 | h3
  · refine V_tabAt g dL_act_41 (n := 0) h3 (by decide) (by decide) (by decide) (off := 75) rfl (tgt := 116) (by decide) ?_
    refine V_aload_n (q := 117) g dL_act_116 rfl rfl ?_
    refine V_bipush (q := 119) g dL_act_117 (by decide) rfl ?_
    refine V_iload_n (q := 120) g dL_act_119 rfl rfl ?_
    refine V_iconst (q := 121) g dL_act_120 rfl ?_
    refine V_irem (q := 122) g dL_act_121 (by omega) (by omega) rfl ?_
    refine V_sipush (q := 125) g dL_act_122 (by decide) rfl ?_
    refine V_iload_n (q := 126) g dL_act_125 rfl rfl ?_
    refine V_iconst (q := 127) g dL_act_126 rfl ?_
    refine V_idiv (q := 128) g dL_act_127 (by omega) (by omega) rfl ?_
    refine V_sipush (q := 131) g dL_act_128 (by decide) rfl ?_
    refine V_irem (q := 132) g dL_act_131 (by omega) (by omega) rfl ?_
    refine V_iadd (q := 133) g dL_act_132 rfl ?_
    refine V_iconst (q := 134) g dL_act_133 rfl ?_
    refine V_u5 (q := 137) 1 (0 + 5) g (cq_9 l hfl hL hS.1 (by omega) (by omega)) dL_act_134 k_L_192 rfl ⟨by decide, by decide⟩ (hK2.le (by omega)) rfl rfl (fun z4 M4 κ4 e4 hK4 => ?_)
    obtain ⟨e4, ho4, hf4⟩ := e4
    have hs4 : Sp M s (nComes σ ((x / 16) % 4) (380 + (((x / 16) / 4) % 140))) M4 := ⟨ho4, hS.2.tr hf4⟩
    exact V_r0 g r hK4 dL_act_137 rfl ⟨by rw [qAct, if_pos (by omega)]; exact e4, by rw [nAct, if_pos (by omega)]; exact hs4⟩
  · refine V_tabAt g dL_act_41 (n := 1) h3 (by decide) (by decide) (by decide) (off := 97) rfl (tgt := 138) (by decide) ?_
    refine V_aload_n (q := 139) g dL_act_138 rfl rfl ?_
    refine V_iload_n (q := 140) g dL_act_139 rfl rfl ?_
    refine V_bipush (q := 142) g dL_act_140 (by decide) rfl ?_
    refine V_irem (q := 143) g dL_act_142 (by omega) (by omega) rfl ?_
    refine V_iload_n (q := 144) g dL_act_143 rfl rfl ?_
    refine V_bipush (q := 146) g dL_act_144 (by decide) rfl ?_
    refine V_idiv (q := 147) g dL_act_146 (by omega) (by omega) rfl ?_
    refine V_bipush (q := 149) g dL_act_147 (by decide) rfl ?_
    refine V_irem (q := 150) g dL_act_149 (by omega) (by omega) rfl ?_
    refine V_iload_n (q := 151) g dL_act_150 rfl rfl ?_
    refine V_bipush (q := 153) g dL_act_151 (by decide) rfl ?_
    refine V_idiv (q := 154) g dL_act_153 (by omega) (by omega) rfl ?_
    refine V_bipush (q := 156) g dL_act_154 (by decide) rfl ?_
    refine V_irem (q := 157) g dL_act_156 (by omega) (by omega) rfl ?_
    refine V_iload_n (q := 158) g dL_act_157 rfl rfl ?_
    refine V_sipush (q := 161) g dL_act_158 (by decide) rfl ?_
    refine V_idiv (q := 162) g dL_act_161 (by omega) (by omega) rfl ?_
    refine V_bipush (q := 164) g dL_act_162 (by decide) rfl ?_
    refine V_irem (q := 165) g dL_act_164 (by omega) (by omega) rfl ?_
    refine V_uh5 (q := 168) 1 (0 + 5) g (ch_floors l hfl hL hS.1 (by omega) (by omega) (by omega) (by omega)) dL_act_165 k_L_196 rfl ⟨by decide, by decide⟩ (hK2.le (by omega)) rfl rfl (fun z5 M5 κ5 e5 hK5 => ?_)
    have e5 := w_floor hS.1 e5
    obtain ⟨e5, ho5, hf5⟩ := e5
    have hs5 : Sp M s (nLay σ ((x / 16) % 6) (((x / 16) / 6) % 6) (((x / 16) / 36) % 6) (((x / 16) / 216) % 6)) M5 := ⟨ho5, hS.2.tr hf5⟩
    exact V_r0 g r hK5 dL_act_168 rfl ⟨by rw [qAct, if_neg (by omega), if_pos (by omega)]; exact e5, by rw [nAct, if_neg (by omega), if_pos (by omega)]; exact hs5⟩
  · refine V_tabAt g dL_act_41 (n := 2) h3 (by decide) (by decide) (by decide) (off := 128) rfl (tgt := 169) (by decide) ?_
    refine V_aload_n (q := 170) g dL_act_169 rfl rfl ?_
    refine V_bipush (q := 172) g dL_act_170 (by decide) rfl ?_
    refine V_iload_n (q := 173) g dL_act_172 rfl rfl ?_
    refine V_iload (q := 175) g dL_act_173 rfl rfl ?_
    refine V_irem (q := 176) g dL_act_175 (by omega) (by omega) rfl ?_
    have hmb9 : 0 ≤ (x / 16) % σ.1 1 ∧ (x / 16) % σ.1 1 < σ.1 1 := ⟨Int.emod_nonneg _ (by omega), Int.emod_lt_of_pos _ (by omega)⟩
    refine V_iload (q := 178) g dL_act_176 rfl rfl ?_
    refine V_iload_n (q := 179) g dL_act_178 rfl rfl ?_
    refine V_bipush (q := 181) g dL_act_179 (by decide) rfl ?_
    refine V_idiv (q := 182) g dL_act_181 (by omega) (by omega) rfl ?_
    refine V_bipush (q := 184) g dL_act_182 (by decide) rfl ?_
    refine V_irem (q := 185) g dL_act_184 (by omega) (by omega) rfl ?_
    refine V_u5 (q := 188) 1 (0 + 5) g (cq_10 l hfl hL hS.1 (by omega) (by omega) (by omega)) dL_act_185 k_L_192 rfl ⟨by decide, by decide⟩ (hK2.le (by omega)) rfl rfl (fun z6 M6 κ6 e6 hK6 => ?_)
    obtain ⟨e6, ho6, hf6⟩ := e6
    have hs6 : Sp M s (nLevel σ ((x / 16) % (σ.1 1)) (((x / 16) / 10) % 4) (((x / 16) / 40) % 8)) M6 := ⟨ho6, hS.2.tr hf6⟩
    exact V_r0 g r hK6 dL_act_188 rfl ⟨by rw [qAct, if_neg (by omega), if_neg (by omega), if_pos (by omega)]; exact e6, by rw [nAct, if_neg (by omega), if_neg (by omega), if_pos (by omega)]; exact hs6⟩
  · refine V_tabAt g dL_act_41 (n := 3) h3 (by decide) (by decide) (by decide) (off := 148) rfl (tgt := 189) (by decide) ?_
    refine V_aload_n (q := 190) g dL_act_189 rfl rfl ?_
    refine V_bipush (q := 192) g dL_act_190 (by decide) rfl ?_
    refine V_iload (q := 194) g dL_act_192 rfl rfl ?_
    refine V_iload (q := 196) g dL_act_194 rfl rfl ?_
    refine V_iconst (q := 197) g dL_act_196 rfl ?_
    refine V_iload_n (q := 198) g dL_act_197 rfl rfl ?_
    refine V_bipush (q := 200) g dL_act_198 (by decide) rfl ?_
    refine V_idiv (q := 201) g dL_act_200 (by omega) (by omega) rfl ?_
    refine V_iload_n (q := 202) g dL_act_201 rfl rfl ?_
    refine V_bipush (q := 204) g dL_act_202 (by decide) rfl ?_
    refine V_irem (q := 205) g dL_act_204 (by omega) (by omega) rfl ?_
    suffices hm7 : ∀ (t7 : Int) (κ7 : Nat × Nat), (t7 = aM7 (x / 16) ∧ 0 < t7 ∧ t7 ≤ 400) → Kb κ7 rm_L_act (0 + 6) → V Γ D Λ M κ7 216 [some (.ref s), some (vi x), some (vi (x / 16)), some (vi (σ.1 0)), some (vi (σ.1 1)), some (vi ((x / 16) % (σ.1 0))), some (vi (((x / 16) / 10) % 4))] [vi t7, vi ((x / 16) / 40), vi 1, vi (((x / 16) / 10) % 4), vi ((x / 16) % (σ.1 0)), vi 12, .ref s] by
      refine V_if_ne (q := 208) g dL_act_205 (tgt := 214) (by decide) rfl (by omega) (fun h8 => ?_) (fun h8 => ?_)
      · refine V_bipush (q := 216) g dL_act_214 (by decide) rfl ?_
        exact V_lvw (lvLe_s (lvLe_s (lvLe_s (lvLe_s (lvLe_s (lvLe_s (lvLe_s lvLe_0))))))) (hm7 _ _ (by unfold aM7; first | (rw [if_pos (by omega)]; omega) | (rw [if_neg (by omega)]; omega)) (hK2.le (by omega)))
      · refine V_sipush (q := 211) g dL_act_208 (by decide) rfl ?_
        refine V_goto g dL_act_211 (tgt := 216) (by decide) ?_
        exact V_lvw (lvLe_s (lvLe_s (lvLe_s (lvLe_s (lvLe_s (lvLe_s (lvLe_s lvLe_0))))))) (hm7 _ _ (by unfold aM7; first | (rw [if_pos (by omega)]; omega) | (rw [if_neg (by omega)]; omega)) (hK2.le (by omega)))
    intro t7 κ7 hp7 hK7
    obtain ⟨hpe7, hpr7⟩ := hp7
    subst hpe7
    refine V_irem (q := 217) g dL_act_216 (by omega) (by omega) rfl ?_
    have hmb9 : 0 ≤ ((x / 16) / 40) % (aM7 (x / 16)) ∧ ((x / 16) / 40) % (aM7 (x / 16)) < aM7 (x / 16) := ⟨Int.emod_nonneg _ (by omega), Int.emod_lt_of_pos _ (by omega)⟩
    refine V_iadd (q := 218) g dL_act_217 rfl ?_
    refine V_u5 (q := 221) 1 (0 + 5) g (cq_12 l hfl hL hS.1 (by omega) (by omega) (by omega)) dL_act_218 k_L_192 rfl ⟨by decide, by decide⟩ (hK7.le (by omega)) rfl rfl (fun z9 M9 κ9 e9 hK9 => ?_)
    obtain ⟨e9, ho9, hf9⟩ := e9
    have hs9 : Sp M s (nSaw σ ((x / 16) % (σ.1 0)) (((x / 16) / 10) % 4) (1 + (((x / 16) / 40) % (aM7 (x / 16))))) M9 := ⟨ho9, hS.2.tr hf9⟩
    exact V_r0 g r hK9 dL_act_221 rfl ⟨by rw [qAct, if_neg (by omega), if_neg (by omega), if_neg (by omega), if_pos (by omega)]; exact e9, by rw [nAct, if_neg (by omega), if_neg (by omega), if_neg (by omega), if_pos (by omega)]; exact hs9⟩
  · refine V_tabAt g dL_act_41 (n := 4) h3 (by decide) (by decide) (by decide) (off := 148) rfl (tgt := 189) (by decide) ?_
    refine V_aload_n (q := 190) g dL_act_189 rfl rfl ?_
    refine V_bipush (q := 192) g dL_act_190 (by decide) rfl ?_
    refine V_iload (q := 194) g dL_act_192 rfl rfl ?_
    refine V_iload (q := 196) g dL_act_194 rfl rfl ?_
    refine V_iconst (q := 197) g dL_act_196 rfl ?_
    refine V_iload_n (q := 198) g dL_act_197 rfl rfl ?_
    refine V_bipush (q := 200) g dL_act_198 (by decide) rfl ?_
    refine V_idiv (q := 201) g dL_act_200 (by omega) (by omega) rfl ?_
    refine V_iload_n (q := 202) g dL_act_201 rfl rfl ?_
    refine V_bipush (q := 204) g dL_act_202 (by decide) rfl ?_
    refine V_irem (q := 205) g dL_act_204 (by omega) (by omega) rfl ?_
    suffices hm10 : ∀ (t10 : Int) (κ10 : Nat × Nat), (t10 = aM7 (x / 16) ∧ 0 < t10 ∧ t10 ≤ 400) → Kb κ10 rm_L_act (0 + 6) → V Γ D Λ M κ10 216 [some (.ref s), some (vi x), some (vi (x / 16)), some (vi (σ.1 0)), some (vi (σ.1 1)), some (vi ((x / 16) % (σ.1 0))), some (vi (((x / 16) / 10) % 4))] [vi t10, vi ((x / 16) / 40), vi 1, vi (((x / 16) / 10) % 4), vi ((x / 16) % (σ.1 0)), vi 12, .ref s] by
      refine V_if_ne (q := 208) g dL_act_205 (tgt := 214) (by decide) rfl (by omega) (fun h11 => ?_) (fun h11 => ?_)
      · refine V_bipush (q := 216) g dL_act_214 (by decide) rfl ?_
        exact V_lvw (lvLe_s (lvLe_s (lvLe_s (lvLe_s (lvLe_s (lvLe_s (lvLe_s lvLe_0))))))) (hm10 _ _ (by unfold aM7; first | (rw [if_pos (by omega)]; omega) | (rw [if_neg (by omega)]; omega)) (hK2.le (by omega)))
      · refine V_sipush (q := 211) g dL_act_208 (by decide) rfl ?_
        refine V_goto g dL_act_211 (tgt := 216) (by decide) ?_
        exact V_lvw (lvLe_s (lvLe_s (lvLe_s (lvLe_s (lvLe_s (lvLe_s (lvLe_s lvLe_0))))))) (hm10 _ _ (by unfold aM7; first | (rw [if_pos (by omega)]; omega) | (rw [if_neg (by omega)]; omega)) (hK2.le (by omega)))
    intro t10 κ10 hp10 hK10
    obtain ⟨hpe10, hpr10⟩ := hp10
    subst hpe10
    refine V_irem (q := 217) g dL_act_216 (by omega) (by omega) rfl ?_
    have hmb9 : 0 ≤ ((x / 16) / 40) % (aM7 (x / 16)) ∧ ((x / 16) / 40) % (aM7 (x / 16)) < aM7 (x / 16) := ⟨Int.emod_nonneg _ (by omega), Int.emod_lt_of_pos _ (by omega)⟩
    refine V_iadd (q := 218) g dL_act_217 rfl ?_
    refine V_u5 (q := 221) 1 (0 + 5) g (cq_12 l hfl hL hS.1 (by omega) (by omega) (by omega)) dL_act_218 k_L_192 rfl ⟨by decide, by decide⟩ (hK10.le (by omega)) rfl rfl (fun z12 M12 κ12 e12 hK12 => ?_)
    obtain ⟨e12, ho12, hf12⟩ := e12
    have hs12 : Sp M s (nSaw σ ((x / 16) % (σ.1 0)) (((x / 16) / 10) % 4) (1 + (((x / 16) / 40) % (aM7 (x / 16))))) M12 := ⟨ho12, hS.2.tr hf12⟩
    exact V_r0 g r hK12 dL_act_221 rfl ⟨by rw [qAct, if_neg (by omega), if_neg (by omega), if_neg (by omega), if_neg (by omega), if_pos (by omega)]; exact e12, by rw [nAct, if_neg (by omega), if_neg (by omega), if_neg (by omega), if_neg (by omega), if_pos (by omega)]; exact hs12⟩
  · refine V_tabAt g dL_act_41 (n := 5) h3 (by decide) (by decide) (by decide) (off := 181) rfl (tgt := 222) (by decide) ?_
    refine V_aload_n (q := 223) g dL_act_222 rfl rfl ?_
    refine V_bipush (q := 225) g dL_act_223 (by decide) rfl ?_
    refine V_iload (q := 227) g dL_act_225 rfl rfl ?_
    refine V_iload (q := 229) g dL_act_227 rfl rfl ?_
    refine V_iconst (q := 230) g dL_act_229 rfl ?_
    refine V_iload_n (q := 231) g dL_act_230 rfl rfl ?_
    refine V_bipush (q := 233) g dL_act_231 (by decide) rfl ?_
    refine V_idiv (q := 234) g dL_act_233 (by omega) (by omega) rfl ?_
    refine V_iload_n (q := 235) g dL_act_234 rfl rfl ?_
    refine V_iconst (q := 236) g dL_act_235 rfl ?_
    refine V_irem (q := 237) g dL_act_236 (by omega) (by omega) rfl ?_
    suffices hm13 : ∀ (t13 : Int) (κ13 : Nat × Nat), (t13 = aM5 (x / 16) ∧ 0 < t13 ∧ t13 ≤ 99) → Kb κ13 rm_L_act (0 + 6) → V Γ D Λ M κ13 247 [some (.ref s), some (vi x), some (vi (x / 16)), some (vi (σ.1 0)), some (vi (σ.1 1)), some (vi ((x / 16) % (σ.1 0))), some (vi (((x / 16) / 10) % 4))] [vi t13, vi ((x / 16) / 40), vi 1, vi (((x / 16) / 10) % 4), vi ((x / 16) % (σ.1 0)), vi 13, .ref s] by
      refine V_if_ne (q := 240) g dL_act_237 (tgt := 245) (by decide) rfl (by omega) (fun h14 => ?_) (fun h14 => ?_)
      · refine V_bipush (q := 247) g dL_act_245 (by decide) rfl ?_
        exact V_lvw (lvLe_s (lvLe_s (lvLe_s (lvLe_s (lvLe_s (lvLe_s (lvLe_s lvLe_0))))))) (hm13 _ _ (by unfold aM5; first | (rw [if_pos (by omega)]; omega) | (rw [if_neg (by omega)]; omega)) (hK2.le (by omega)))
      · refine V_bipush (q := 242) g dL_act_240 (by decide) rfl ?_
        refine V_goto g dL_act_242 (tgt := 247) (by decide) ?_
        exact V_lvw (lvLe_s (lvLe_s (lvLe_s (lvLe_s (lvLe_s (lvLe_s (lvLe_s lvLe_0))))))) (hm13 _ _ (by unfold aM5; first | (rw [if_pos (by omega)]; omega) | (rw [if_neg (by omega)]; omega)) (hK2.le (by omega)))
    intro t13 κ13 hp13 hK13
    obtain ⟨hpe13, hpr13⟩ := hp13
    subst hpe13
    refine V_irem (q := 248) g dL_act_247 (by omega) (by omega) rfl ?_
    have hmb9 : 0 ≤ ((x / 16) / 40) % (aM5 (x / 16)) ∧ ((x / 16) / 40) % (aM5 (x / 16)) < aM5 (x / 16) := ⟨Int.emod_nonneg _ (by omega), Int.emod_lt_of_pos _ (by omega)⟩
    refine V_iadd (q := 249) g dL_act_248 rfl ?_
    refine V_u5 (q := 252) 1 (0 + 5) g (cq_13 l hfl hL hS.1 (by omega) (by omega) (by omega)) dL_act_249 k_L_192 rfl ⟨by decide, by decide⟩ (hK13.le (by omega)) rfl rfl (fun z15 M15 κ15 e15 hK15 => ?_)
    obtain ⟨e15, ho15, hf15⟩ := e15
    have hs15 : Sp M s (nShim σ ((x / 16) % (σ.1 0)) (((x / 16) / 10) % 4) (1 + (((x / 16) / 40) % (aM5 (x / 16))))) M15 := ⟨ho15, hS.2.tr hf15⟩
    exact V_r0 g r hK15 dL_act_252 rfl ⟨by rw [qAct, if_neg (by omega), if_neg (by omega), if_neg (by omega), if_neg (by omega), if_neg (by omega), if_pos (by omega)]; exact e15, by rw [nAct, if_neg (by omega), if_neg (by omega), if_neg (by omega), if_neg (by omega), if_neg (by omega), if_pos (by omega)]; exact hs15⟩
  · refine V_tabAt g dL_act_41 (n := 6) h3 (by decide) (by decide) (by decide) (off := 212) rfl (tgt := 253) (by decide) ?_
    refine V_aload_n (q := 254) g dL_act_253 rfl rfl ?_
    refine V_bipush (q := 256) g dL_act_254 (by decide) rfl ?_
    refine V_iload (q := 258) g dL_act_256 rfl rfl ?_
    refine V_iload_n (q := 259) g dL_act_258 rfl rfl ?_
    refine V_bipush (q := 261) g dL_act_259 (by decide) rfl ?_
    refine V_idiv (q := 262) g dL_act_261 (by omega) (by omega) rfl ?_
    refine V_iload (q := 264) g dL_act_262 rfl rfl ?_
    refine V_irem (q := 265) g dL_act_264 (by omega) (by omega) rfl ?_
    have hmb9 : 0 ≤ ((x / 16) / 40) % σ.1 1 ∧ ((x / 16) / 40) % σ.1 1 < σ.1 1 := ⟨Int.emod_nonneg _ (by omega), Int.emod_lt_of_pos _ (by omega)⟩
    refine V_iload (q := 267) g dL_act_265 rfl rfl ?_
    refine V_u5 (q := 270) 1 (0 + 5) g (cq_11 l hfl hL hS.1 (by omega) (by omega) (by omega)) dL_act_267 k_L_192 rfl ⟨by decide, by decide⟩ (hK2.le (by omega)) rfl rfl (fun z16 M16 κ16 e16 hK16 => ?_)
    obtain ⟨e16, ho16, hf16⟩ := e16
    have hs16 : Sp M s (nBring σ ((x / 16) % (σ.1 0)) (((x / 16) / 40) % (σ.1 1)) (((x / 16) / 10) % 4)) M16 := ⟨ho16, hS.2.tr hf16⟩
    exact V_r0 g r hK16 dL_act_270 rfl ⟨by rw [qAct, if_neg (by omega), if_neg (by omega), if_neg (by omega), if_neg (by omega), if_neg (by omega), if_neg (by omega), if_pos (by omega)]; exact e16, by rw [nAct, if_neg (by omega), if_neg (by omega), if_neg (by omega), if_neg (by omega), if_neg (by omega), if_neg (by omega), if_pos (by omega)]; exact hs16⟩
  · refine V_tabAt g dL_act_41 (n := 7) h3 (by decide) (by decide) (by decide) (off := 230) rfl (tgt := 271) (by decide) ?_
    refine V_aload_n (q := 272) g dL_act_271 rfl rfl ?_
    refine V_bipush (q := 274) g dL_act_272 (by decide) rfl ?_
    refine V_iload (q := 276) g dL_act_274 rfl rfl ?_
    refine V_iconst (q := 277) g dL_act_276 rfl ?_
    refine V_iconst (q := 278) g dL_act_277 rfl ?_
    refine V_u5 (q := 281) 1 (0 + 5) g (cq_14 l hfl hL hS.1 (by omega)) dL_act_278 k_L_192 rfl ⟨by decide, by decide⟩ (hK2.le (by omega)) rfl rfl (fun z17 M17 κ17 e17 hK17 => ?_)
    obtain ⟨e17, ho17, hf17⟩ := e17
    have hs17 : Sp M s (nTest σ ((x / 16) % (σ.1 0))) M17 := ⟨ho17, hS.2.tr hf17⟩
    exact V_r0 g r hK17 dL_act_281 rfl ⟨by rw [qAct, if_neg (by omega), if_neg (by omega), if_neg (by omega), if_neg (by omega), if_neg (by omega), if_neg (by omega), if_neg (by omega), if_pos (by omega)]; exact e17, by rw [nAct, if_neg (by omega), if_neg (by omega), if_neg (by omega), if_neg (by omega), if_neg (by omega), if_neg (by omega), if_neg (by omega), if_pos (by omega)]; exact hs17⟩
  · refine V_tabAt g dL_act_41 (n := 8) h3 (by decide) (by decide) (by decide) (off := 230) rfl (tgt := 271) (by decide) ?_
    refine V_aload_n (q := 272) g dL_act_271 rfl rfl ?_
    refine V_bipush (q := 274) g dL_act_272 (by decide) rfl ?_
    refine V_iload (q := 276) g dL_act_274 rfl rfl ?_
    refine V_iconst (q := 277) g dL_act_276 rfl ?_
    refine V_iconst (q := 278) g dL_act_277 rfl ?_
    refine V_u5 (q := 281) 1 (0 + 5) g (cq_14 l hfl hL hS.1 (by omega)) dL_act_278 k_L_192 rfl ⟨by decide, by decide⟩ (hK2.le (by omega)) rfl rfl (fun z18 M18 κ18 e18 hK18 => ?_)
    obtain ⟨e18, ho18, hf18⟩ := e18
    have hs18 : Sp M s (nTest σ ((x / 16) % (σ.1 0))) M18 := ⟨ho18, hS.2.tr hf18⟩
    exact V_r0 g r hK18 dL_act_281 rfl ⟨by rw [qAct, if_neg (by omega), if_neg (by omega), if_neg (by omega), if_neg (by omega), if_neg (by omega), if_neg (by omega), if_neg (by omega), if_neg (by omega), if_pos (by omega)]; exact e18, by rw [nAct, if_neg (by omega), if_neg (by omega), if_neg (by omega), if_neg (by omega), if_neg (by omega), if_neg (by omega), if_neg (by omega), if_neg (by omega), if_pos (by omega)]; exact hs18⟩
  · refine V_tabAt g dL_act_41 (n := 9) h3 (by decide) (by decide) (by decide) (off := 230) rfl (tgt := 271) (by decide) ?_
    refine V_aload_n (q := 272) g dL_act_271 rfl rfl ?_
    refine V_bipush (q := 274) g dL_act_272 (by decide) rfl ?_
    refine V_iload (q := 276) g dL_act_274 rfl rfl ?_
    refine V_iconst (q := 277) g dL_act_276 rfl ?_
    refine V_iconst (q := 278) g dL_act_277 rfl ?_
    refine V_u5 (q := 281) 1 (0 + 5) g (cq_14 l hfl hL hS.1 (by omega)) dL_act_278 k_L_192 rfl ⟨by decide, by decide⟩ (hK2.le (by omega)) rfl rfl (fun z19 M19 κ19 e19 hK19 => ?_)
    obtain ⟨e19, ho19, hf19⟩ := e19
    have hs19 : Sp M s (nTest σ ((x / 16) % (σ.1 0))) M19 := ⟨ho19, hS.2.tr hf19⟩
    exact V_r0 g r hK19 dL_act_281 rfl ⟨by rw [qAct, if_neg (by omega), if_neg (by omega), if_neg (by omega), if_neg (by omega), if_neg (by omega), if_neg (by omega), if_neg (by omega), if_neg (by omega), if_neg (by omega), if_pos (by omega)]; exact e19, by rw [nAct, if_neg (by omega), if_neg (by omega), if_neg (by omega), if_neg (by omega), if_neg (by omega), if_neg (by omega), if_neg (by omega), if_neg (by omega), if_neg (by omega), if_pos (by omega)]; exact hs19⟩
  · refine V_tabAt g dL_act_41 (n := 10) h3 (by decide) (by decide) (by decide) (off := 241) rfl (tgt := 282) (by decide) ?_
    refine V_aload_n (q := 283) g dL_act_282 rfl rfl ?_
    refine V_bipush (q := 285) g dL_act_283 (by decide) rfl ?_
    refine V_iload (q := 287) g dL_act_285 rfl rfl ?_
    refine V_iconst (q := 288) g dL_act_287 rfl ?_
    refine V_iload_n (q := 289) g dL_act_288 rfl rfl ?_
    refine V_bipush (q := 291) g dL_act_289 (by decide) rfl ?_
    refine V_idiv (q := 292) g dL_act_291 (by omega) (by omega) rfl ?_
    refine V_sipush (q := 295) g dL_act_292 (by decide) rfl ?_
    refine V_irem (q := 296) g dL_act_295 (by omega) (by omega) rfl ?_
    refine V_iadd (q := 297) g dL_act_296 rfl ?_
    refine V_iconst (q := 298) g dL_act_297 rfl ?_
    refine V_u5 (q := 301) 1 (0 + 5) g (cq_15 l hfl hL hS.1 (by omega) (by omega)) dL_act_298 k_L_192 rfl ⟨by decide, by decide⟩ (hK2.le (by omega)) rfl rfl (fun z20 M20 κ20 e20 hK20 => ?_)
    obtain ⟨e20, ho20, hf20⟩ := e20
    have hs20 : Sp M s (nSit σ ((x / 16) % (σ.1 0)) (1 + (((x / 16) / 40) % 200))) M20 := ⟨ho20, hS.2.tr hf20⟩
    exact V_r0 g r hK20 dL_act_301 rfl ⟨by rw [qAct, if_neg (by omega), if_neg (by omega), if_neg (by omega), if_neg (by omega), if_neg (by omega), if_neg (by omega), if_neg (by omega), if_neg (by omega), if_neg (by omega), if_neg (by omega), if_pos (by omega)]; exact e20, by rw [nAct, if_neg (by omega), if_neg (by omega), if_neg (by omega), if_neg (by omega), if_neg (by omega), if_neg (by omega), if_neg (by omega), if_neg (by omega), if_neg (by omega), if_neg (by omega), if_pos (by omega)]; exact hs20⟩
  · refine V_tabAt g dL_act_41 (n := 11) h3 (by decide) (by decide) (by decide) (off := 241) rfl (tgt := 282) (by decide) ?_
    refine V_aload_n (q := 283) g dL_act_282 rfl rfl ?_
    refine V_bipush (q := 285) g dL_act_283 (by decide) rfl ?_
    refine V_iload (q := 287) g dL_act_285 rfl rfl ?_
    refine V_iconst (q := 288) g dL_act_287 rfl ?_
    refine V_iload_n (q := 289) g dL_act_288 rfl rfl ?_
    refine V_bipush (q := 291) g dL_act_289 (by decide) rfl ?_
    refine V_idiv (q := 292) g dL_act_291 (by omega) (by omega) rfl ?_
    refine V_sipush (q := 295) g dL_act_292 (by decide) rfl ?_
    refine V_irem (q := 296) g dL_act_295 (by omega) (by omega) rfl ?_
    refine V_iadd (q := 297) g dL_act_296 rfl ?_
    refine V_iconst (q := 298) g dL_act_297 rfl ?_
    refine V_u5 (q := 301) 1 (0 + 5) g (cq_15 l hfl hL hS.1 (by omega) (by omega)) dL_act_298 k_L_192 rfl ⟨by decide, by decide⟩ (hK2.le (by omega)) rfl rfl (fun z21 M21 κ21 e21 hK21 => ?_)
    obtain ⟨e21, ho21, hf21⟩ := e21
    have hs21 : Sp M s (nSit σ ((x / 16) % (σ.1 0)) (1 + (((x / 16) / 40) % 200))) M21 := ⟨ho21, hS.2.tr hf21⟩
    exact V_r0 g r hK21 dL_act_301 rfl ⟨by rw [qAct, if_neg (by omega), if_neg (by omega), if_neg (by omega), if_neg (by omega), if_neg (by omega), if_neg (by omega), if_neg (by omega), if_neg (by omega), if_neg (by omega), if_neg (by omega), if_neg (by omega), if_pos (by omega)]; exact e21, by rw [nAct, if_neg (by omega), if_neg (by omega), if_neg (by omega), if_neg (by omega), if_neg (by omega), if_neg (by omega), if_neg (by omega), if_neg (by omega), if_neg (by omega), if_neg (by omega), if_neg (by omega), if_pos (by omega)]; exact hs21⟩
  · refine V_tabAt g dL_act_41 (n := 12) h3 (by decide) (by decide) (by decide) (off := 261) rfl (tgt := 302) (by decide) ?_
    refine V_aload_n (q := 303) g dL_act_302 rfl rfl ?_
    refine V_bipush (q := 305) g dL_act_303 (by decide) rfl ?_
    refine V_iload_n (q := 306) g dL_act_305 rfl rfl ?_
    refine V_iconst (q := 307) g dL_act_306 rfl ?_
    refine V_irem (q := 308) g dL_act_307 (by omega) (by omega) rfl ?_
    refine V_iload (q := 310) g dL_act_308 rfl rfl ?_
    refine V_iload (q := 312) g dL_act_310 rfl rfl ?_
    refine V_iconst (q := 313) g dL_act_312 rfl ?_
    suffices hm22 : ∀ (t22 : Int) (κ22 : Nat × Nat), (t22 = aBv (((x / 16) / 10) % 4) (x / 16) ∧ 0 ≤ t22 ∧ t22 ≤ 600) → Kb κ22 rm_L_act (0 + 6) → V Γ D Λ M κ22 349 [some (.ref s), some (vi x), some (vi (x / 16)), some (vi (σ.1 0)), some (vi (σ.1 1)), some (vi ((x / 16) % (σ.1 0))), some (vi (((x / 16) / 10) % 4))] [vi t22, vi (((x / 16) / 10) % 4), vi ((x / 16) % 4), vi 16, .ref s] by
      refine V_icmp_ge (q := 316) g dL_act_313 (tgt := 331) (by decide) rfl (by omega) (by omega) (fun h23 => ?_) (fun h23 => ?_)
      · refine V_iload_n (q := 332) g dL_act_331 rfl rfl ?_
        refine V_bipush (q := 334) g dL_act_332 (by decide) rfl ?_
        refine V_idiv (q := 335) g dL_act_334 (by omega) (by omega) rfl ?_
        refine V_iload (q := 337) g dL_act_335 rfl rfl ?_
        refine V_iconst (q := 338) g dL_act_337 rfl ?_
        suffices hm24 : ∀ (t24 : Int) (κ24 : Nat × Nat), (((((x / 16) / 10) % 4) = 2 ∧ t24 = 12) ∨ ((((x / 16) / 10) % 4) ≠ 2 ∧ t24 = 30)) → Kb κ24 rm_L_act (0 + 6) → V Γ D Λ M κ24 348 [some (.ref s), some (vi x), some (vi (x / 16)), some (vi (σ.1 0)), some (vi (σ.1 1)), some (vi ((x / 16) % (σ.1 0))), some (vi (((x / 16) / 10) % 4))] [vi t24, vi ((x / 16) / 40), vi (((x / 16) / 10) % 4), vi ((x / 16) % 4), vi 16, .ref s] by
          refine V_icmp_ne (q := 341) g dL_act_338 (tgt := 346) (by decide) rfl (by omega) (by omega) (fun h25 => ?_) (fun h25 => ?_)
          · refine V_bipush (q := 348) g dL_act_346 (by decide) rfl ?_
            exact V_lvw (lvLe_s (lvLe_s (lvLe_s (lvLe_s (lvLe_s (lvLe_s (lvLe_s lvLe_0))))))) (hm24 _ _ (by omega) (hK2.le (by omega)))
          · refine V_bipush (q := 343) g dL_act_341 (by decide) rfl ?_
            refine V_goto g dL_act_343 (tgt := 348) (by decide) ?_
            exact V_lvw (lvLe_s (lvLe_s (lvLe_s (lvLe_s (lvLe_s (lvLe_s (lvLe_s lvLe_0))))))) (hm24 _ _ (by omega) (hK2.le (by omega)))
        intro t24 κ24 hp24 hK24
        refine V_irem (q := 349) g dL_act_348 (by omega) (by omega) rfl ?_
        exact V_lvw (lvLe_s (lvLe_s (lvLe_s (lvLe_s (lvLe_s (lvLe_s (lvLe_s lvLe_0))))))) (hm22 _ _ (by
          unfold aBv
          rcases hp24 with ⟨hq8, hq9⟩ | ⟨hq8, hq9⟩
          · rw [hq9, if_neg (by omega), if_pos (by omega)]
            omega
          · rw [hq9, if_neg (by omega), if_neg (by omega)]
            omega) (hK24.le (by omega)))
      · refine V_sipush (q := 319) g dL_act_316 (by decide) rfl ?_
        refine V_iload_n (q := 320) g dL_act_319 rfl rfl ?_
        refine V_bipush (q := 322) g dL_act_320 (by decide) rfl ?_
        refine V_idiv (q := 323) g dL_act_322 (by omega) (by omega) rfl ?_
        refine V_sipush (q := 326) g dL_act_323 (by decide) rfl ?_
        refine V_irem (q := 327) g dL_act_326 (by omega) (by omega) rfl ?_
        refine V_iadd (q := 328) g dL_act_327 rfl ?_
        refine V_goto g dL_act_328 (tgt := 349) (by decide) ?_
        exact V_lvw (lvLe_s (lvLe_s (lvLe_s (lvLe_s (lvLe_s (lvLe_s (lvLe_s lvLe_0))))))) (hm22 _ _ (by unfold aBv; rw [if_pos (by omega)]; omega) (hK2.le (by omega)))
    intro t22 κ22 hp22 hK22
    obtain ⟨hpe22, hpr22⟩ := hp22
    subst hpe22
    refine V_u5 (q := 352) 1 (0 + 5) g (cq_16 l hfl hL hS.1 (by omega) (by omega) (by omega)) dL_act_349 k_L_192 rfl ⟨by decide, by decide⟩ (hK22.le (by omega)) rfl rfl (fun z26 M26 κ26 e26 hK26 => ?_)
    obtain ⟨e26, ho26, hf26⟩ := e26
    have hs26 : Sp M s (nBound σ ((x / 16) % 4) (((x / 16) / 10) % 4) (aBv (((x / 16) / 10) % 4) (x / 16))) M26 := ⟨ho26, hS.2.tr hf26⟩
    exact V_r0 g r hK26 dL_act_352 rfl ⟨by rw [qAct, if_neg (by omega), if_neg (by omega), if_neg (by omega), if_neg (by omega), if_neg (by omega), if_neg (by omega), if_neg (by omega), if_neg (by omega), if_neg (by omega), if_neg (by omega), if_neg (by omega), if_neg (by omega), if_pos (by omega)]; exact e26, by rw [nAct, if_neg (by omega), if_neg (by omega), if_neg (by omega), if_neg (by omega), if_neg (by omega), if_neg (by omega), if_neg (by omega), if_neg (by omega), if_neg (by omega), if_neg (by omega), if_neg (by omega), if_neg (by omega), if_pos (by omega)]; exact hs26⟩
  · refine V_tabAt g dL_act_41 (n := 13) h3 (by decide) (by decide) (by decide) (off := 312) rfl (tgt := 353) (by decide) ?_
    refine V_iload_n (q := 354) g dL_act_353 rfl rfl ?_
    refine V_iconst (q := 355) g dL_act_354 rfl ?_
    refine V_irem (q := 356) g dL_act_355 (by omega) (by omega) rfl ?_
    refine V_if_ne (q := 359) g dL_act_356 (tgt := 376) (by decide) rfl (by omega) (fun h27 => ?_) (fun h27 => ?_)
    · refine V_aload_n (q := 377) g dL_act_376 rfl rfl ?_
      refine V_bipush (q := 379) g dL_act_377 (by decide) rfl ?_
      refine V_iconst (q := 380) g dL_act_379 rfl ?_
      refine V_iconst (q := 381) g dL_act_380 rfl ?_
      refine V_iload_n (q := 382) g dL_act_381 rfl rfl ?_
      refine V_iconst (q := 383) g dL_act_382 rfl ?_
      refine V_idiv (q := 384) g dL_act_383 (by omega) (by omega) rfl ?_
      refine V_bipush (q := 386) g dL_act_384 (by decide) rfl ?_
      refine V_irem (q := 387) g dL_act_386 (by omega) (by omega) rfl ?_
      refine V_iadd (q := 388) g dL_act_387 rfl ?_
      refine V_iconst (q := 389) g dL_act_388 rfl ?_
      refine V_u5 (q := 392) 1 (0 + 5) g (cq_17 l hfl hL hS.1 (by omega) (by omega)) dL_act_389 k_L_192 rfl ⟨by decide, by decide⟩ (hK2.le (by omega)) rfl rfl (fun z28 M28 κ28 e28 hK28 => ?_)
      obtain ⟨e28, ho28, hf28⟩ := e28
      have hs28 : Sp M s (nPut σ 1 (1 + (((x / 16) / 2) % 60))) M28 := ⟨ho28, hS.2.tr hf28⟩
      exact V_r0 g r hK28 dL_act_392 rfl ⟨by first | (rw [qAct, if_neg (by omega), if_neg (by omega), if_neg (by omega), if_neg (by omega), if_neg (by omega), if_neg (by omega), if_neg (by omega), if_neg (by omega), if_neg (by omega), if_neg (by omega), if_neg (by omega), if_neg (by omega), if_neg (by omega), if_pos (by omega), if_pos (by omega)]; exact e28) | (rw [qAct, if_neg (by omega), if_neg (by omega), if_neg (by omega), if_neg (by omega), if_neg (by omega), if_neg (by omega), if_neg (by omega), if_neg (by omega), if_neg (by omega), if_neg (by omega), if_neg (by omega), if_neg (by omega), if_neg (by omega), if_pos (by omega), if_neg (by omega)]; exact e28), by first | (rw [nAct, if_neg (by omega), if_neg (by omega), if_neg (by omega), if_neg (by omega), if_neg (by omega), if_neg (by omega), if_neg (by omega), if_neg (by omega), if_neg (by omega), if_neg (by omega), if_neg (by omega), if_neg (by omega), if_neg (by omega), if_pos (by omega), if_pos (by omega)]; exact hs28) | (rw [nAct, if_neg (by omega), if_neg (by omega), if_neg (by omega), if_neg (by omega), if_neg (by omega), if_neg (by omega), if_neg (by omega), if_neg (by omega), if_neg (by omega), if_neg (by omega), if_neg (by omega), if_neg (by omega), if_neg (by omega), if_pos (by omega), if_neg (by omega)]; exact hs28)⟩
    · refine V_aload_n (q := 360) g dL_act_359 rfl rfl ?_
      refine V_bipush (q := 362) g dL_act_360 (by decide) rfl ?_
      refine V_iconst (q := 363) g dL_act_362 rfl ?_
      refine V_iload_n (q := 364) g dL_act_363 rfl rfl ?_
      refine V_iconst (q := 365) g dL_act_364 rfl ?_
      refine V_idiv (q := 366) g dL_act_365 (by omega) (by omega) rfl ?_
      refine V_bipush (q := 368) g dL_act_366 (by decide) rfl ?_
      refine V_irem (q := 369) g dL_act_368 (by omega) (by omega) rfl ?_
      refine V_iconst (q := 370) g dL_act_369 rfl ?_
      refine V_u5 (q := 373) 1 (0 + 5) g (cq_17 l hfl hL hS.1 (by omega) (by omega)) dL_act_370 k_L_192 rfl ⟨by decide, by decide⟩ (hK2.le (by omega)) rfl rfl (fun z29 M29 κ29 e29 hK29 => ?_)
      obtain ⟨e29, ho29, hf29⟩ := e29
      have hs29 : Sp M s (nPut σ 0 (((x / 16) / 2) % 51)) M29 := ⟨ho29, hS.2.tr hf29⟩
      refine V_goto g dL_act_373 (tgt := 392) (by decide) ?_
      exact V_r0 g r hK29 dL_act_392 rfl ⟨by first | (rw [qAct, if_neg (by omega), if_neg (by omega), if_neg (by omega), if_neg (by omega), if_neg (by omega), if_neg (by omega), if_neg (by omega), if_neg (by omega), if_neg (by omega), if_neg (by omega), if_neg (by omega), if_neg (by omega), if_neg (by omega), if_pos (by omega), if_pos (by omega)]; exact e29) | (rw [qAct, if_neg (by omega), if_neg (by omega), if_neg (by omega), if_neg (by omega), if_neg (by omega), if_neg (by omega), if_neg (by omega), if_neg (by omega), if_neg (by omega), if_neg (by omega), if_neg (by omega), if_neg (by omega), if_neg (by omega), if_pos (by omega), if_neg (by omega)]; exact e29), by first | (rw [nAct, if_neg (by omega), if_neg (by omega), if_neg (by omega), if_neg (by omega), if_neg (by omega), if_neg (by omega), if_neg (by omega), if_neg (by omega), if_neg (by omega), if_neg (by omega), if_neg (by omega), if_neg (by omega), if_neg (by omega), if_pos (by omega), if_pos (by omega)]; exact hs29) | (rw [nAct, if_neg (by omega), if_neg (by omega), if_neg (by omega), if_neg (by omega), if_neg (by omega), if_neg (by omega), if_neg (by omega), if_neg (by omega), if_neg (by omega), if_neg (by omega), if_neg (by omega), if_neg (by omega), if_neg (by omega), if_pos (by omega), if_neg (by omega)]; exact hs29)⟩
  · refine V_tabAt g dL_act_41 (n := 14) h3 (by decide) (by decide) (by decide) (off := 352) rfl (tgt := 393) (by decide) ?_
    refine V_iload_n (q := 394) g dL_act_393 rfl rfl ?_
    refine V_iconst (q := 395) g dL_act_394 rfl ?_
    refine V_icmp_ge (q := 398) g dL_act_395 (tgt := 402) (by decide) rfl (by omega) (by omega) (fun h30 => ?_) (fun h30 => ?_)
    · refine V_aload_n (q := 403) g dL_act_402 rfl rfl ?_
      refine V_bipush (q := 405) g dL_act_403 (by decide) rfl ?_
      refine V_iconst (q := 406) g dL_act_405 rfl ?_
      refine V_iconst (q := 407) g dL_act_406 rfl ?_
      refine V_iconst (q := 408) g dL_act_407 rfl ?_
      refine V_u5 (q := 411) 1 (0 + 5) g (cq_18 l hfl hL hS.1) dL_act_408 k_L_192 rfl ⟨by decide, by decide⟩ (hK2.le (by omega)) rfl rfl (fun z31 M31 κ31 e31 hK31 => ?_)
      obtain ⟨e31, ho31, hf31⟩ := e31
      have hs31 : Sp M s (nUndo σ) M31 := ⟨ho31, hS.2.tr hf31⟩
      exact V_r0 g r hK31 dL_act_411 rfl ⟨by first | (rw [qAct, if_neg (by omega), if_neg (by omega), if_neg (by omega), if_neg (by omega), if_neg (by omega), if_neg (by omega), if_neg (by omega), if_neg (by omega), if_neg (by omega), if_neg (by omega), if_neg (by omega), if_neg (by omega), if_neg (by omega), if_neg (by omega), if_pos (by omega), if_pos (by omega)]; exact e31) | (rw [qAct, if_neg (by omega), if_neg (by omega), if_neg (by omega), if_neg (by omega), if_neg (by omega), if_neg (by omega), if_neg (by omega), if_neg (by omega), if_neg (by omega), if_neg (by omega), if_neg (by omega), if_neg (by omega), if_neg (by omega), if_neg (by omega), if_pos (by omega), if_neg (by omega)]; exact e31), by first | (rw [nAct, if_neg (by omega), if_neg (by omega), if_neg (by omega), if_neg (by omega), if_neg (by omega), if_neg (by omega), if_neg (by omega), if_neg (by omega), if_neg (by omega), if_neg (by omega), if_neg (by omega), if_neg (by omega), if_neg (by omega), if_neg (by omega), if_pos (by omega), if_pos (by omega)]; exact hs31) | (rw [nAct, if_neg (by omega), if_neg (by omega), if_neg (by omega), if_neg (by omega), if_neg (by omega), if_neg (by omega), if_neg (by omega), if_neg (by omega), if_neg (by omega), if_neg (by omega), if_neg (by omega), if_neg (by omega), if_neg (by omega), if_neg (by omega), if_pos (by omega), if_neg (by omega)]; exact hs31)⟩
    · refine V_iconst (q := 399) g dL_act_398 rfl ?_
      refine V_goto g dL_act_399 (tgt := 411) (by decide) ?_
      exact V_r0 g r hK2 dL_act_411 rfl ⟨by rw [qAct, if_neg (by omega), if_neg (by omega), if_neg (by omega), if_neg (by omega), if_neg (by omega), if_neg (by omega), if_neg (by omega), if_neg (by omega), if_neg (by omega), if_neg (by omega), if_neg (by omega), if_neg (by omega), if_neg (by omega), if_neg (by omega), if_pos (by omega), if_pos (by omega)], by rw [nAct, if_neg (by omega), if_neg (by omega), if_neg (by omega), if_neg (by omega), if_neg (by omega), if_neg (by omega), if_neg (by omega), if_neg (by omega), if_neg (by omega), if_neg (by omega), if_neg (by omega), if_neg (by omega), if_neg (by omega), if_neg (by omega), if_pos (by omega), if_pos (by omega)]; exact hS⟩
  · refine V_tabOut g dL_act_41 (by omega) (by omega) (tgt := 412) (by decide) ?_
    refine V_iload_n (q := 413) g dL_act_412 rfl rfl ?_
    refine V_iconst (q := 414) g dL_act_413 rfl ?_
    refine V_irem (q := 415) g dL_act_414 (by omega) (by omega) rfl ?_
    refine V_if_ne (q := 418) g dL_act_415 (tgt := 434) (by decide) rfl (by omega) (fun h32 => ?_) (fun h32 => ?_)
    · refine V_aload_n (q := 435) g dL_act_434 rfl rfl ?_
      refine V_bipush (q := 437) g dL_act_435 (by decide) rfl ?_
      refine V_iload_n (q := 438) g dL_act_437 rfl rfl ?_
      refine V_iconst (q := 439) g dL_act_438 rfl ?_
      refine V_idiv (q := 440) g dL_act_439 (by omega) (by omega) rfl ?_
      refine V_iconst (q := 441) g dL_act_440 rfl ?_
      refine V_irem (q := 442) g dL_act_441 (by omega) (by omega) rfl ?_
      refine V_iconst (q := 443) g dL_act_442 rfl ?_
      refine V_iconst (q := 444) g dL_act_443 rfl ?_
      refine V_u5 (q := 447) 1 (0 + 5) g (cq_24 l hfl hL hS.1 (by omega)) dL_act_444 k_L_192 rfl ⟨by decide, by decide⟩ (hK2.le (by omega)) rfl rfl (fun z33 M33 κ33 e33 hK33 => ?_)
      obtain ⟨e33, ho33, hf33⟩ := e33
      have hs33 : Sp M s (nBack σ (((x / 16) / 2) % 2)) M33 := ⟨ho33, hS.2.tr hf33⟩
      exact V_r0 g r hK33 dL_act_447 rfl ⟨by first | (rw [qAct, if_neg (by omega), if_neg (by omega), if_neg (by omega), if_neg (by omega), if_neg (by omega), if_neg (by omega), if_neg (by omega), if_neg (by omega), if_neg (by omega), if_neg (by omega), if_neg (by omega), if_neg (by omega), if_neg (by omega), if_neg (by omega), if_neg (by omega), if_pos (by omega)]; exact e33) | (rw [qAct, if_neg (by omega), if_neg (by omega), if_neg (by omega), if_neg (by omega), if_neg (by omega), if_neg (by omega), if_neg (by omega), if_neg (by omega), if_neg (by omega), if_neg (by omega), if_neg (by omega), if_neg (by omega), if_neg (by omega), if_neg (by omega), if_neg (by omega), if_neg (by omega)]; exact e33), by first | (rw [nAct, if_neg (by omega), if_neg (by omega), if_neg (by omega), if_neg (by omega), if_neg (by omega), if_neg (by omega), if_neg (by omega), if_neg (by omega), if_neg (by omega), if_neg (by omega), if_neg (by omega), if_neg (by omega), if_neg (by omega), if_neg (by omega), if_neg (by omega), if_pos (by omega)]; exact hs33) | (rw [nAct, if_neg (by omega), if_neg (by omega), if_neg (by omega), if_neg (by omega), if_neg (by omega), if_neg (by omega), if_neg (by omega), if_neg (by omega), if_neg (by omega), if_neg (by omega), if_neg (by omega), if_neg (by omega), if_neg (by omega), if_neg (by omega), if_neg (by omega), if_neg (by omega)]; exact hs33)⟩
    · refine V_aload_n (q := 419) g dL_act_418 rfl rfl ?_
      refine V_bipush (q := 421) g dL_act_419 (by decide) rfl ?_
      refine V_iload_n (q := 422) g dL_act_421 rfl rfl ?_
      refine V_iconst (q := 423) g dL_act_422 rfl ?_
      refine V_idiv (q := 424) g dL_act_423 (by omega) (by omega) rfl ?_
      refine V_iconst (q := 425) g dL_act_424 rfl ?_
      refine V_irem (q := 426) g dL_act_425 (by omega) (by omega) rfl ?_
      refine V_iconst (q := 427) g dL_act_426 rfl ?_
      refine V_iconst (q := 428) g dL_act_427 rfl ?_
      refine V_u5 (q := 431) 1 (0 + 5) g (cq_23 l hfl hL hS.1 (by omega)) dL_act_428 k_L_192 rfl ⟨by decide, by decide⟩ (hK2.le (by omega)) rfl rfl (fun z34 M34 κ34 e34 hK34 => ?_)
      obtain ⟨e34, ho34, hf34⟩ := e34
      have hs34 : Sp M s (nKeep σ (((x / 16) / 2) % 2)) M34 := ⟨ho34, hS.2.tr hf34⟩
      refine V_goto g dL_act_431 (tgt := 447) (by decide) ?_
      exact V_r0 g r hK34 dL_act_447 rfl ⟨by first | (rw [qAct, if_neg (by omega), if_neg (by omega), if_neg (by omega), if_neg (by omega), if_neg (by omega), if_neg (by omega), if_neg (by omega), if_neg (by omega), if_neg (by omega), if_neg (by omega), if_neg (by omega), if_neg (by omega), if_neg (by omega), if_neg (by omega), if_neg (by omega), if_pos (by omega)]; exact e34) | (rw [qAct, if_neg (by omega), if_neg (by omega), if_neg (by omega), if_neg (by omega), if_neg (by omega), if_neg (by omega), if_neg (by omega), if_neg (by omega), if_neg (by omega), if_neg (by omega), if_neg (by omega), if_neg (by omega), if_neg (by omega), if_neg (by omega), if_neg (by omega), if_neg (by omega)]; exact e34), by first | (rw [nAct, if_neg (by omega), if_neg (by omega), if_neg (by omega), if_neg (by omega), if_neg (by omega), if_neg (by omega), if_neg (by omega), if_neg (by omega), if_neg (by omega), if_neg (by omega), if_neg (by omega), if_neg (by omega), if_neg (by omega), if_neg (by omega), if_neg (by omega), if_pos (by omega)]; exact hs34) | (rw [nAct, if_neg (by omega), if_neg (by omega), if_neg (by omega), if_neg (by omega), if_neg (by omega), if_neg (by omega), if_neg (by omega), if_neg (by omega), if_neg (by omega), if_neg (by omega), if_neg (by omega), if_neg (by omega), if_neg (by omega), if_neg (by omega), if_neg (by omega), if_neg (by omega)]; exact hs34)⟩
