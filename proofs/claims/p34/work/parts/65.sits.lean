abbrev rm_L_sits : Room := { frames := 10, cells := 480, slots := 2880, locals := 220 }
section SU
variable {Γ : VG} {D : DD} {Λ : LY} {l : Launch} {s t j : Nat} {M : MM} {κ : Nat × Nat} {σ : SG}
set_option maxHeartbeats 8000000 in
set_option maxRecDepth 100000 in
/-- sitters, one behind another, on both chairs -/
theorem su_up (hfl : l.stackTraces = false) {x c wt : Int} {N : Nat} (g : VOk Γ D Λ RL cL_sits 15 l rm_L_sits) (hd : s + 217 ≤ t ∨ t + 217 ≤ s) (hL : ClsL D Λ s) (hL2 : ClsL D Λ t) (hI : Inv σ.1) (hc : 0 ≤ c ∧ c < σ.1 0) (hwt : 1 ≤ wt ∧ wt ≤ 200) (hN : N ≤ 10) (hwy : ∀ i : Nat, i < N → sWhy (fSitI σ.1 c wt i) c = 0) (k9 : ∀ (sum : Int) (M1 : MM) (κ1 : Nat × Nat), (0 ≤ sum ∧ sum ≤ 8000) → fSitI σ.1 c wt N 9 = σ.1 9 + sum → Os M1 s (Sk σ c wt N 14) → Os M1 t (Sk σ c wt N 14) → Kb κ1 rm_L_sits j → V Γ D Λ M1 κ1 222 [some (.ref s), some (.ref t), some (vi x), some (vi c), some (vi wt), some (vi (sFail σ.1 c wt)), some (vi (sSeat σ.1 c)), some (vi (σ.1 9)), some (vi (σ.1 (47 + 9 * c))), some (vi (N : Int)), some (vi sum), some (vi 1), none, none, none] []) : ∀ (n k : Nat) (sum : Int) (M : MM) (κ : Nat × Nat), k + n = N → (0 ≤ sum ∧ sum ≤ 800 * (k : Int)) → fSitI σ.1 c wt k 9 = σ.1 9 + sum → Os M s (Sk σ c wt k 14) → Os M t (Sk σ c wt k 14) → Kb κ rm_L_sits (j + 5 * n) → V Γ D Λ M κ 98 [some (.ref s), some (.ref t), some (vi x), some (vi c), some (vi wt), some (vi (sFail σ.1 c wt)), some (vi (sSeat σ.1 c)), some (vi (σ.1 9)), some (vi (σ.1 (47 + 9 * c))), some (vi (N : Int)), some (vi sum), some (vi 1), some (vi (k : Int)), none, none] [] := by
  intro n
  induction n with
  | zero =>
    intro k sum M κ hk hs9 h9 hO hQ hK
    have hkN : k = N := by omega
    subst hkN
    refine V_iload (q := 100) g dL_sits_98 rfl rfl ?_
    refine V_iload (q := 102) g dL_sits_100 rfl rfl ?_
    refine V_icmp_ge (q := 105) g dL_sits_102 (tgt := 222) (by decide) rfl (by omega) (by omega) (fun h101 => ?_) (fun h101 => absurd h101 (by omega))
    exact V_lvw (lvLe_s (lvLe_s (lvLe_s (lvLe_s (lvLe_s (lvLe_s (lvLe_s (lvLe_s (lvLe_s (lvLe_s (lvLe_s (lvLe_s (lvLe_n (lvLe_n (lvLe_n lvLe_0))))))))))))))) (k9 sum _ _ (by omega) h9 hO hQ (hK.le (by omega)))
  | succ n ih =>
    intro k sum M κ hk hs9 h9 hO hQ hK
    obtain ⟨⟨hb0, hb4⟩, ⟨hw0, hw2⟩, hbv, hb9, hb11, hb00, hbI⟩ := sk_fact hI hc hwt k
    obtain ⟨-, -, -, -, hc11, hc00, hcI⟩ := sk_fact hI hc hwt (k + 1)
    have hck : 0 ≤ c ∧ c < (Sk σ c wt k 14).1 0 := by
      rw [show (Sk σ c wt k 14).1 0 = σ.1 0 from hb00]
      exact hc
    have hck1 : 0 ≤ c ∧ c < (Sk σ c wt (k + 1) 14).1 0 := by
      rw [show (Sk σ c wt (k + 1) 14).1 0 = σ.1 0 from hc00]
      exact hc
    have hwyk : sWhy (fSitI σ.1 c wt k) c = 0 := hwy k (by omega)
    have h11 := hI.2.2.2.1
    have hN0 := hI.1
    have hfg := hcI.fl (c := c) (by rw [hc00]; exact hc)
    refine V_iload (q := 100) g dL_sits_98 rfl rfl ?_
    refine V_iload (q := 102) g dL_sits_100 rfl rfl ?_
    refine V_icmp_ge (q := 105) g dL_sits_102 (tgt := 222) (by decide) rfl (by omega) (by omega) (fun h101 => absurd h101 (by omega)) (fun h101 => ?_)
    refine V_iload (q := 107) g dL_sits_105 rfl rfl ?_
    refine V_if_eq (q := 110) g dL_sits_107 (tgt := 222) (by decide) rfl (by omega) (fun h102 => absurd h102 (by omega)) (fun h102 => ?_)
    refine V_aload_n (q := 111) g dL_sits_110 rfl rfl ?_
    refine V_iconst (q := 112) g dL_sits_111 rfl ?_
    refine V_iload_n (q := 113) g dL_sits_112 rfl rfl ?_
    refine V_bipush (q := 115) g dL_sits_113 (by decide) rfl ?_
    refine V_iconst (q := 116) g dL_sits_115 rfl ?_
    refine V_u5 (q := 119) 1 (j + 5 * n + 4) g (cq_3 l hfl hL hO (by omega) (by omega)) dL_sits_116 k_L_192 rfl ⟨by decide, by decide⟩ (hK.le (by omega)) rfl rfl (fun z103 M103 κ103 e103 hK103 => ?_)
    obtain ⟨e103, rfl⟩ := e103
    have e103 : z103 = 0 := e103.trans ((qCh_7 hck).trans hwyk)
    refine V_if_ne (q := 122) g dL_sits_119 (tgt := 126) (by decide) rfl (by omega) (fun h104 => absurd h104 (by omega)) (fun h104 => ?_)
    refine V_iconst (q := 123) g dL_sits_122 rfl ?_
    refine V_goto g dL_sits_123 (tgt := 127) (by decide) ?_
    refine V_istore_11 (q := 129) g dL_sits_127 (by decide) rfl rfl ?_
    refine V_aload_n (q := 130) g dL_sits_129 rfl rfl ?_
    refine V_bipush (q := 132) g dL_sits_130 (by decide) rfl ?_
    refine V_iload_n (q := 133) g dL_sits_132 rfl rfl ?_
    refine V_iload (q := 135) g dL_sits_133 rfl rfl ?_
    refine V_iconst (q := 136) g dL_sits_135 rfl ?_
    refine V_u5 (q := 139) 1 (j + 5 * n + 3) g (cq_15 l hfl hL hO (by omega) (by omega)) dL_sits_136 k_L_192 rfl ⟨by decide, by decide⟩ (hK103.le (by omega)) rfl rfl (fun z105 M105 κ105 e105 hK105 => ?_)
    obtain ⟨e105, hs105, hf105⟩ := e105
    rw [show (nSit (Sk σ c wt k 14) c wt) = (Sk σ c wt (k + 1) 14) from by rw [nSit, if_pos ⟨hck, hwt⟩]; exact Sk_push] at hs105
    have hx105_t := hQ.fr hf105 (by omega)
    have e105 : z105 = sBk σ.1 c wt k := e105.trans (by rw [qSit, if_pos hck, if_pos hwt]; rfl)
    subst e105
    refine V_istore_13 (q := 141) g dL_sits_139 (by decide) rfl rfl ?_
    refine V_iload (q := 143) g dL_sits_141 rfl rfl ?_
    refine V_iload (q := 145) g dL_sits_143 rfl rfl ?_
    refine V_iadd (q := 146) g dL_sits_145 rfl ?_
    refine V_istore_10 (q := 148) g dL_sits_146 (by decide) rfl rfl ?_
    refine V_iload (q := 150) g dL_sits_148 rfl rfl ?_
    refine V_if_eq (q := 153) g dL_sits_150 (tgt := 213) (by decide) rfl (by omega) (fun h106 => absurd h106 (by omega)) (fun h106 => ?_)
    refine V_iload (q := 155) g dL_sits_153 rfl rfl ?_
    refine V_if_lt (q := 158) g dL_sits_155 (tgt := 213) (by decide) rfl (by omega) (fun h107 => absurd h107 (by omega)) (fun h107 => ?_)
    refine V_aload_n (q := 159) g dL_sits_158 rfl rfl ?_
    refine V_bipush (q := 161) g dL_sits_159 (by decide) rfl ?_
    refine V_iload_n (q := 162) g dL_sits_161 rfl rfl ?_
    refine V_iload (q := 164) g dL_sits_162 rfl rfl ?_
    refine V_iconst (q := 165) g dL_sits_164 rfl ?_
    refine V_u5 (q := 168) 1 (j + 5 * n + 2) g (cq_15 l hfl hL2 hx105_t (by omega) (by omega)) dL_sits_165 k_L_192 rfl ⟨by decide, by decide⟩ (hK105.le (by omega)) rfl rfl (fun z108 M108 κ108 e108 hK108 => ?_)
    obtain ⟨e108, hs108, hf108⟩ := e108
    rw [show (nSit (Sk σ c wt k 14) c wt) = (Sk σ c wt (k + 1) 14) from by rw [nSit, if_pos ⟨hck, hwt⟩]; exact Sk_push] at hs108
    have hx108_s := hs105.fr hf108 (by omega)
    have e108 : z108 = sBk σ.1 c wt k := e108.trans (by rw [qSit, if_pos hck, if_pos hwt]; rfl)
    subst e108
    refine V_iload (q := 170) g dL_sits_168 rfl rfl ?_
    refine V_icmp_ne (q := 173) g dL_sits_170 (tgt := 213) (by decide) rfl (by omega) (by omega) (fun h109 => absurd h109 (by omega)) (fun h109 => ?_)
    refine V_iload (q := 175) g dL_sits_173 rfl rfl ?_
    refine V_iconst (q := 176) g dL_sits_175 rfl ?_
    refine V_iload (q := 178) g dL_sits_176 rfl rfl ?_
    refine V_aload_n (q := 179) g dL_sits_178 rfl rfl ?_
    refine V_bipush (q := 181) g dL_sits_179 (by decide) rfl ?_
    refine V_iconst (q := 182) g dL_sits_181 rfl ?_
    refine V_iconst (q := 183) g dL_sits_182 rfl ?_
    refine V_iconst (q := 184) g dL_sits_183 rfl ?_
    refine V_u5 (q := 187) 1 (j + 5 * n + 1) g (cq_8 l hfl hL hx108_s (by omega)) dL_sits_184 k_L_192 rfl ⟨by decide, by decide⟩ (hK108.le (by omega)) rfl rfl (fun z110 M110 κ110 e110 hK110 => ?_)
    obtain ⟨e110, rfl⟩ := e110
    have e110 : z110 = σ.1 11 := e110.trans ((qSt_1 _).trans hc11)
    subst e110
    refine V_idiv (q := 188) g dL_sits_187 (by omega) (by omega) rfl ?_
    refine V_imul (q := 189) g dL_sits_188 rfl ?_
    refine V_icmp_gt (q := 192) g dL_sits_189 (tgt := 213) (by decide) rfl (by omega) (by omega) (fun h111 => absurd h111 (by omega)) (fun h111 => ?_)
    refine V_iload (q := 194) g dL_sits_192 rfl rfl ?_
    refine V_if_eq (q := 197) g dL_sits_194 (tgt := 209) (by decide) rfl (by omega) (fun h112 => ?_) (fun h112 => ?_)
    · refine V_iconst (q := 210) g dL_sits_209 rfl ?_
      refine V_goto g dL_sits_210 (tgt := 214) (by decide) ?_
      refine V_istore_11 (q := 216) g dL_sits_214 (by decide) rfl rfl ?_
      refine V_iinc_12 (q := 219) g dL_sits_216 (by decide) rfl rfl ?_
      refine V_goto g dL_sits_219 (tgt := 98) (by decide) ?_
      exact V_lvw (lvLe_s (lvLe_s (lvLe_s (lvLe_s (lvLe_s (lvLe_s (lvLe_s (lvLe_s (lvLe_s (lvLe_s (lvLe_s (lvLe_s (lvLe_s (lvLe_n (lvLe_n lvLe_0))))))))))))))) (ih (k + 1) (sum + sBk σ.1 c wt k) _ _ (by omega) (by omega) (by rw [hb9, h9]; omega) hx108_s hs108 (hK110.le (by omega)))
    · refine V_aload_n (q := 198) g dL_sits_197 rfl rfl ?_
      refine V_iconst (q := 199) g dL_sits_198 rfl ?_
      refine V_iload_n (q := 200) g dL_sits_199 rfl rfl ?_
      refine V_bipush (q := 202) g dL_sits_200 (by decide) rfl ?_
      refine V_iconst (q := 203) g dL_sits_202 rfl ?_
      refine V_u5 (q := 206) 1 (j + 5 * n) g (cq_3 l hfl hL hx108_s (by omega) (by omega)) dL_sits_203 k_L_192 rfl ⟨by decide, by decide⟩ (hK110.le (by omega)) rfl rfl (fun z113 M113 κ113 e113 hK113 => ?_)
      obtain ⟨e113, rfl⟩ := e113
      have e113 : z113 = fSitI σ.1 c wt (k + 1) (47 + 9 * c) := e113.trans (qCh_6 hck1)
      have hv9 := hbv (by omega)
      refine V_if_ne (q := 209) g dL_sits_206 (tgt := 213) (by decide) rfl (by omega) (fun h114 => absurd h114 (by omega)) (fun h114 => ?_)
      refine V_iconst (q := 210) g dL_sits_209 rfl ?_
      refine V_goto g dL_sits_210 (tgt := 214) (by decide) ?_
      refine V_istore_11 (q := 216) g dL_sits_214 (by decide) rfl rfl ?_
      refine V_iinc_12 (q := 219) g dL_sits_216 (by decide) rfl rfl ?_
      refine V_goto g dL_sits_219 (tgt := 98) (by decide) ?_
      exact V_lvw (lvLe_s (lvLe_s (lvLe_s (lvLe_s (lvLe_s (lvLe_s (lvLe_s (lvLe_s (lvLe_s (lvLe_s (lvLe_s (lvLe_s (lvLe_s (lvLe_n (lvLe_n lvLe_0))))))))))))))) (ih (k + 1) (sum + sBk σ.1 c wt k) _ _ (by omega) (by omega) (by rw [hb9, h9]; omega) hx108_s hs108 (hK113.le (by omega)))
set_option maxHeartbeats 8000000 in
set_option maxRecDepth 100000 in
theorem su_m (hfl : l.stackTraces = false) {x c wt : Int} {N : Nat} (g : VOk Γ D Λ RL cL_sits 15 l rm_L_sits) (hd : s + 217 ≤ t ∨ t + 217 ≤ s) (hL : ClsL D Λ s) (hL2 : ClsL D Λ t) (hI : Inv σ.1) (hc : 0 ≤ c ∧ c < σ.1 0) (hwt : 1 ≤ wt ∧ wt ≤ 200) (hN : N ≤ 10) {sum : Int} (hsum : 0 ≤ sum ∧ sum ≤ 8000) (h9 : fSitI σ.1 c wt N 9 = σ.1 9 + sum) (hw9 : 0 ≤ σ.1 9 ∧ σ.1 9 ≤ 320000) (hif : sWhy (fSitI σ.1 c wt N) c > 0 ↔ sFail σ.1 c wt = N) (hO : Os M s (Sk σ c wt N 14)) (hQ : Os M t (Sk σ c wt N 14)) (hK : Kb κ rm_L_sits (j + 2)) (k9 : ∀ (M1 : MM) (κ1 : Nat × Nat), Os M1 s (Sk σ c wt N 14) → Os M1 t (Sk σ c wt N 14) → Kb κ1 rm_L_sits j → V Γ D Λ M1 κ1 286 [some (.ref s), some (.ref t), some (vi x), some (vi c), some (vi wt), some (vi (sFail σ.1 c wt)), some (vi (sSeat σ.1 c)), some (vi (σ.1 9)), some (vi (σ.1 (47 + 9 * c))), some (vi (N : Int)), none, some (vi 1), some (vi 0), none, none] []) : V Γ D Λ M κ 222 [some (.ref s), some (.ref t), some (vi x), some (vi c), some (vi wt), some (vi (sFail σ.1 c wt)), some (vi (sSeat σ.1 c)), some (vi (σ.1 9)), some (vi (σ.1 (47 + 9 * c))), some (vi (N : Int)), some (vi sum), some (vi 1), none, none, none] [] := by
  obtain ⟨-, -, -, -, hb11, hb00, hbI⟩ := sk_fact hI hc hwt N
  have hck : 0 ≤ c ∧ c < (Sk σ c wt N 14).1 0 := by
    rw [show (Sk σ c wt N 14).1 0 = σ.1 0 from hb00]
    exact hc
  have hN0 := hI.1
  have hwr := sWhy_r (fSitI σ.1 c wt N) c
  have hfr := fail_r σ.1 c wt
  refine V_iload (q := 224) g dL_sits_222 rfl rfl ?_
  refine V_if_eq (q := 227) g dL_sits_224 (tgt := 280) (by decide) rfl (by omega) (fun h101 => absurd h101 (by omega)) (fun h101 => ?_)
  refine V_aload_n (q := 228) g dL_sits_227 rfl rfl ?_
  refine V_iconst (q := 229) g dL_sits_228 rfl ?_
  refine V_iload_n (q := 230) g dL_sits_229 rfl rfl ?_
  refine V_bipush (q := 232) g dL_sits_230 (by decide) rfl ?_
  refine V_iconst (q := 233) g dL_sits_232 rfl ?_
  refine V_u5 (q := 236) 1 (j + 1) g (cq_3 l hfl hL hO (by omega) (by omega)) dL_sits_233 k_L_192 rfl ⟨by decide, by decide⟩ (hK.le (by omega)) rfl rfl (fun z102 M102 κ102 e102 hK102 => ?_)
  obtain ⟨e102, rfl⟩ := e102
  have e102 : z102 = sWhy (fSitI σ.1 c wt N) c := e102.trans (qCh_7 hck)
  suffices hm103 : ∀ (t103 : Int) (κ103 : Nat × Nat), ((z102 ≤ 0 ∧ t103 = 0) ∨ (z102 > 0 ∧ t103 = 1)) → Kb κ103 rm_L_sits (j + 1) → V Γ D Λ M κ103 244 [some (.ref s), some (.ref t), some (vi x), some (vi c), some (vi wt), some (vi (sFail σ.1 c wt)), some (vi (sSeat σ.1 c)), some (vi (σ.1 9)), some (vi (σ.1 (47 + 9 * c))), some (vi (N : Int)), some (vi sum), some (vi 1), none, none, none] [vi t103] by
    refine V_if_le (q := 239) g dL_sits_236 (tgt := 243) (by decide) rfl (by omega) (fun h104 => ?_) (fun h104 => ?_)
    · refine V_iconst (q := 244) g dL_sits_243 rfl ?_
      exact V_lvw (lvLe_s (lvLe_s (lvLe_s (lvLe_s (lvLe_s (lvLe_s (lvLe_s (lvLe_s (lvLe_s (lvLe_s (lvLe_s (lvLe_s (lvLe_n (lvLe_n (lvLe_n lvLe_0))))))))))))))) (hm103 _ _ (by omega) (hK102.le (by omega)))
    · refine V_iconst (q := 240) g dL_sits_239 rfl ?_
      refine V_goto g dL_sits_240 (tgt := 244) (by decide) ?_
      exact V_lvw (lvLe_s (lvLe_s (lvLe_s (lvLe_s (lvLe_s (lvLe_s (lvLe_s (lvLe_s (lvLe_s (lvLe_s (lvLe_s (lvLe_s (lvLe_n (lvLe_n (lvLe_n lvLe_0))))))))))))))) (hm103 _ _ (by omega) (hK102.le (by omega)))
  intro t103 κ103 hp103 hK103
  refine V_iload (q := 246) g dL_sits_244 rfl rfl ?_
  refine V_iload (q := 248) g dL_sits_246 rfl rfl ?_
  suffices hm105 : ∀ (t105 : Int) (κ105 : Nat × Nat), (((sFail σ.1 c wt) ≠ (N : Int) ∧ t105 = 0) ∨ ((sFail σ.1 c wt) = (N : Int) ∧ t105 = 1)) → Kb κ105 rm_L_sits (j + 1) → V Γ D Λ M κ105 256 [some (.ref s), some (.ref t), some (vi x), some (vi c), some (vi wt), some (vi (sFail σ.1 c wt)), some (vi (sSeat σ.1 c)), some (vi (σ.1 9)), some (vi (σ.1 (47 + 9 * c))), some (vi (N : Int)), some (vi sum), some (vi 1), none, none, none] [vi t105, vi t103] by
    refine V_icmp_ne (q := 251) g dL_sits_248 (tgt := 255) (by decide) rfl (by omega) (by omega) (fun h106 => ?_) (fun h106 => ?_)
    · refine V_iconst (q := 256) g dL_sits_255 rfl ?_
      exact V_lvw (lvLe_s (lvLe_s (lvLe_s (lvLe_s (lvLe_s (lvLe_s (lvLe_s (lvLe_s (lvLe_s (lvLe_s (lvLe_s (lvLe_s (lvLe_n (lvLe_n (lvLe_n lvLe_0))))))))))))))) (hm105 _ _ (by omega) (hK103.le (by omega)))
    · refine V_iconst (q := 252) g dL_sits_251 rfl ?_
      refine V_goto g dL_sits_252 (tgt := 256) (by decide) ?_
      exact V_lvw (lvLe_s (lvLe_s (lvLe_s (lvLe_s (lvLe_s (lvLe_s (lvLe_s (lvLe_s (lvLe_s (lvLe_s (lvLe_s (lvLe_s (lvLe_n (lvLe_n (lvLe_n lvLe_0))))))))))))))) (hm105 _ _ (by omega) (hK103.le (by omega)))
  intro t105 κ105 hp105 hK105
  refine V_icmp_ne (q := 259) g dL_sits_256 (tgt := 280) (by decide) rfl (by omega) (by omega) (fun h107 => absurd h107 (by omega)) (fun h107 => ?_)
  refine V_aload_n (q := 260) g dL_sits_259 rfl rfl ?_
  refine V_iconst (q := 261) g dL_sits_260 rfl ?_
  refine V_bipush (q := 263) g dL_sits_261 (by decide) rfl ?_
  refine V_iconst (q := 264) g dL_sits_263 rfl ?_
  refine V_iconst (q := 265) g dL_sits_264 rfl ?_
  refine V_u5 (q := 268) 1 (j) g (cq_2 l hfl hL hO (by omega)) dL_sits_265 k_L_192 rfl ⟨by decide, by decide⟩ (hK105.le (by omega)) rfl rfl (fun z108 M108 κ108 e108 hK108 => ?_)
  obtain ⟨e108, rfl⟩ := e108
  have e108 : z108 = σ.1 9 + sum := e108.trans ((qAb_10 _).trans h9)
  refine V_iload (q := 270) g dL_sits_268 rfl rfl ?_
  refine V_iload (q := 272) g dL_sits_270 rfl rfl ?_
  refine V_iadd (q := 273) g dL_sits_272 rfl ?_
  refine V_icmp_ne (q := 276) g dL_sits_273 (tgt := 280) (by decide) rfl (by omega) (by omega) (fun h109 => absurd h109 (by omega)) (fun h109 => ?_)
  refine V_iconst (q := 277) g dL_sits_276 rfl ?_
  refine V_goto g dL_sits_277 (tgt := 281) (by decide) ?_
  refine V_istore_11 (q := 283) g dL_sits_281 (by decide) rfl rfl ?_
  refine V_iconst (q := 284) g dL_sits_283 rfl ?_
  refine V_istore_12 (q := 286) g dL_sits_284 (by decide) rfl rfl ?_
  exact V_lvw (lvLe_s (lvLe_s (lvLe_s (lvLe_s (lvLe_s (lvLe_s (lvLe_s (lvLe_s (lvLe_s (lvLe_s (lvLe_n (lvLe_s (lvLe_s (lvLe_n (lvLe_n lvLe_0))))))))))))))) (k9 _ _ hO hQ (hK108.le (by omega)))
set_option maxHeartbeats 8000000 in
set_option maxRecDepth 100000 in
/-- as many are taken back -/
theorem su_dn (hfl : l.stackTraces = false) {x c wt : Int} {N : Nat} (g : VOk Γ D Λ RL cL_sits 15 l rm_L_sits) (hd : s + 217 ≤ t ∨ t + 217 ≤ s) (hL : ClsL D Λ s) (hL2 : ClsL D Λ t) (hI : Inv σ.1) (hc : 0 ≤ c ∧ c < σ.1 0) (hwt : 1 ≤ wt ∧ wt ≤ 200) (hN : N ≤ 10) (k9 : ∀ (M1 : MM) (κ1 : Nat × Nat) (m : Nat), Os M1 s (Sk σ c wt 0 m) → Os M1 t (Sk σ c wt 0 m) → Kb κ1 rm_L_sits j → V Γ D Λ M1 κ1 341 [some (.ref s), some (.ref t), some (vi x), some (vi c), none, none, some (vi (sSeat σ.1 c)), some (vi (σ.1 9)), some (vi (σ.1 (47 + 9 * c))), none, none, some (vi 1), none, none, none] []) : ∀ (n m : Nat) (k : Int) (M : MM) (κ : Nat × Nat), k + n = N → 0 ≤ k → m + n ≤ 14 → Os M s (Sk σ c wt n (m + n)) → Os M t (Sk σ c wt n (m + n)) → Kb κ rm_L_sits (j + 2 * n) → V Γ D Λ M κ 286 [some (.ref s), some (.ref t), some (vi x), some (vi c), some (vi wt), some (vi (sFail σ.1 c wt)), some (vi (sSeat σ.1 c)), some (vi (σ.1 9)), some (vi (σ.1 (47 + 9 * c))), some (vi (N : Int)), none, some (vi 1), some (vi k), none, none] [] := by
  intro n
  induction n with
  | zero =>
    intro m k M κ hk hk0 hm hO hQ hK
    refine V_iload (q := 288) g dL_sits_286 rfl rfl ?_
    refine V_iload (q := 290) g dL_sits_288 rfl rfl ?_
    refine V_icmp_ge (q := 293) g dL_sits_290 (tgt := 341) (by decide) rfl (by omega) (by omega) (fun h101 => ?_) (fun h101 => absurd h101 (by omega))
    exact V_lvw (lvLe_s (lvLe_s (lvLe_s (lvLe_s (lvLe_n (lvLe_n (lvLe_s (lvLe_s (lvLe_s (lvLe_n (lvLe_n (lvLe_s (lvLe_n (lvLe_n (lvLe_n lvLe_0))))))))))))))) (k9 _ _ m hO hQ (hK.le (by omega)))
  | succ n ih =>
    intro m k M κ hk hk0 hm hO hQ hK
    have hll := Lk_len (σ := σ) (c := c) (wt := wt) (n := n) (m := m + n)
    refine V_iload (q := 288) g dL_sits_286 rfl rfl ?_
    refine V_iload (q := 290) g dL_sits_288 rfl rfl ?_
    refine V_icmp_ge (q := 293) g dL_sits_290 (tgt := 341) (by decide) rfl (by omega) (by omega) (fun h101 => absurd h101 (by omega)) (fun h101 => ?_)
    refine V_iload (q := 295) g dL_sits_293 rfl rfl ?_
    refine V_if_eq (q := 298) g dL_sits_295 (tgt := 341) (by decide) rfl (by omega) (fun h102 => absurd h102 (by omega)) (fun h102 => ?_)
    refine V_aload_n (q := 299) g dL_sits_298 rfl rfl ?_
    refine V_bipush (q := 301) g dL_sits_299 (by decide) rfl ?_
    refine V_iconst (q := 302) g dL_sits_301 rfl ?_
    refine V_iconst (q := 303) g dL_sits_302 rfl ?_
    refine V_iconst (q := 304) g dL_sits_303 rfl ?_
    refine V_u5 (q := 307) 1 (j + 2 * n + 1) g (cq_18 l hfl hL hO) dL_sits_304 k_L_192 rfl ⟨by decide, by decide⟩ (hK.le (by omega)) rfl rfl (fun z103 M103 κ103 e103 hK103 => ?_)
    obtain ⟨e103, hs103, hf103⟩ := e103
    rw [show (nUndo (Sk σ c wt (n + 1) (m + (n + 1)))) = (Sk σ c wt n (m + n)) from nUndo_Sk _ _ _ _ _] at hs103
    have hx103_t := hQ.fr hf103 (by omega)
    have eu103 : z103 = (((Lk σ c wt n).take (m + n)).length : Int) := e103.trans (qUndo_Sk _ _ _ _ _)
    refine V_uc1 (q := 310) g (c_L_thrown l (by omega)) dL_sits_307 k_L_241 rfl ⟨rfl, rfl⟩ hK103 rfl rfl (fun z104 M104 e104 => ?_)
    obtain ⟨e104, rfl⟩ := e104
    have e104 : z104 = 0 := e104.trans (sThr_0 (by omega))
    refine V_if_ne (q := 313) g dL_sits_310 (tgt := 332) (by decide) rfl (by omega) (fun h105 => absurd h105 (by omega)) (fun h105 => ?_)
    refine V_aload_n (q := 314) g dL_sits_313 rfl rfl ?_
    refine V_bipush (q := 316) g dL_sits_314 (by decide) rfl ?_
    refine V_iconst (q := 317) g dL_sits_316 rfl ?_
    refine V_iconst (q := 318) g dL_sits_317 rfl ?_
    refine V_iconst (q := 319) g dL_sits_318 rfl ?_
    refine V_u5 (q := 322) 1 (j + 2 * n) g (cq_18 l hfl hL2 hx103_t) dL_sits_319 k_L_192 rfl ⟨by decide, by decide⟩ (hK103.le (by omega)) rfl rfl (fun z106 M106 κ106 e106 hK106 => ?_)
    obtain ⟨e106, hs106, hf106⟩ := e106
    rw [show (nUndo (Sk σ c wt (n + 1) (m + (n + 1)))) = (Sk σ c wt n (m + n)) from nUndo_Sk _ _ _ _ _] at hs106
    have hx106_s := hs103.fr hf106 (by omega)
    have eu106 : z106 = (((Lk σ c wt n).take (m + n)).length : Int) := e106.trans (qUndo_Sk _ _ _ _ _)
    refine V_uc1 (q := 325) g (c_L_thrown l (by omega)) dL_sits_322 k_L_241 rfl ⟨rfl, rfl⟩ hK106 rfl rfl (fun z107 M107 e107 => ?_)
    obtain ⟨e107, rfl⟩ := e107
    have e107 : z107 = 0 := e107.trans (sThr_0 (by omega))
    refine V_if_ne (q := 328) g dL_sits_325 (tgt := 332) (by decide) rfl (by omega) (fun h108 => absurd h108 (by omega)) (fun h108 => ?_)
    refine V_iconst (q := 329) g dL_sits_328 rfl ?_
    refine V_goto g dL_sits_329 (tgt := 333) (by decide) ?_
    refine V_istore_11 (q := 335) g dL_sits_333 (by decide) rfl rfl ?_
    refine V_iinc_12 (q := 338) g dL_sits_335 (by decide) rfl rfl ?_
    refine V_goto g dL_sits_338 (tgt := 286) (by decide) ?_
    exact ih m (k + 1) _ _ (by omega) (by omega) (by omega) hx106_s hs106 (hK106.le (by omega))
end SU
section SG
variable {Γ : VG} {D : DD} {Λ : LY} {l : Launch} {s t j : Nat} {M : MM} {κ : Nat × Nat} {σ : SG} {f : Int → Int}
set_option maxHeartbeats 8000000 in
set_option maxRecDepth 100000 in
theorem su_t (hfl : l.stackTraces = false) {x c t9 : Int} (g : VOk Γ D Λ RL cL_sits 15 l rm_L_sits) (hd : s + 217 ≤ t ∨ t + 217 ≤ s) (hL : ClsL D Λ s) (hL2 : ClsL D Λ t) (hσ : σ.1 = f) (hc : 0 ≤ c ∧ c < f 0) (hG : Gd t9 f) (ht9 : t9 ≤ 100) (hO : Os M s σ) (hQ : Os M t σ) (hK : Kb κ rm_L_sits (j + 14)) (k9 : ∀ (σ1 : SG) (M1 : MM) (κ1 : Nat × Nat), Lt σ σ1 → Os M1 s σ1 → Os M1 t σ1 → Kb κ1 rm_L_sits j → V Γ D Λ M1 κ1 562 [none, none, none, none, none, none, none, none, none, none, none, none, none, none, none] []) : V Γ D Λ M κ 341 [some (.ref s), some (.ref t), some (vi x), some (vi c), none, none, some (vi (sSeat f c)), some (vi (f 9)), some (vi (f (47 + 9 * c))), none, none, some (vi 1), none, none, none] [] := by
  subst hσ
  have hI := hO.1.2
  have hN := hI.1
  have hF := hI.2.1
  obtain ⟨-, ⟨hB1, hB2⟩, hSo, hC1, hC2, hC3, hC4, hC5, hC6⟩ := id hG
  obtain ⟨ht0, ht5, ht10, htf⟩ := test_fact hI hc hSo
  have hct : 0 ≤ c ∧ c < (push σ (fTest σ.1 c)).1 0 := by
    rw [show (push σ (fTest σ.1 c)).1 0 = σ.1 0 from ht0]
    exact hc
  have hst := stN hI (σ.1 0).toNat (by omega)
  have hsd : sStamped σ.1 = sStN σ.1 (σ.1 0).toNat := rfl
  have hwr := sWhy_r σ.1 c
  have hfg := hI.fl hc
  obtain ⟨-, -, hse⟩ := wn_r hI hc
  have h10 := hI.2.2.1
  refine V_aload_n (q := 342) g dL_sits_341 rfl rfl ?_
  refine V_iconst (q := 343) g dL_sits_342 rfl ?_
  refine V_iload_n (q := 344) g dL_sits_343 rfl rfl ?_
  refine V_bipush (q := 346) g dL_sits_344 (by decide) rfl ?_
  refine V_iconst (q := 347) g dL_sits_346 rfl ?_
  refine V_u5 (q := 350) 1 (j + 13) g (cq_3 l hfl hL hO (by omega) (by omega)) dL_sits_347 k_L_192 rfl ⟨by decide, by decide⟩ (hK.le (by omega)) rfl rfl (fun z1 M1 κ1 e1 hK1 => ?_)
  obtain ⟨e1, rfl⟩ := e1
  have e1 : z1 = sWhy σ.1 c := e1.trans (qCh_7 hc)
  refine V_istore_12 (q := 352) g dL_sits_350 (by decide) rfl rfl ?_
  refine V_aload_n (q := 353) g dL_sits_352 rfl rfl ?_
  refine V_iconst (q := 354) g dL_sits_353 rfl ?_
  refine V_bipush (q := 356) g dL_sits_354 (by decide) rfl ?_
  refine V_iconst (q := 357) g dL_sits_356 rfl ?_
  refine V_iconst (q := 358) g dL_sits_357 rfl ?_
  refine V_u5 (q := 361) 1 (j + 12) g (cq_2 l hfl hL hO (by omega)) dL_sits_358 k_L_192 rfl ⟨by decide, by decide⟩ (hK1.le (by omega)) rfl rfl (fun z2 M2 κ2 e2 hK2 => ?_)
  obtain ⟨e2, rfl⟩ := e2
  have e2 : z2 = σ.1 5 := e2.trans (qAb_6 _)
  refine V_istore_13 (q := 363) g dL_sits_361 (by decide) rfl rfl ?_
  refine V_aload_n (q := 364) g dL_sits_363 rfl rfl ?_
  refine V_iconst (q := 365) g dL_sits_364 rfl ?_
  refine V_iconst (q := 366) g dL_sits_365 rfl ?_
  refine V_iconst (q := 367) g dL_sits_366 rfl ?_
  refine V_iconst (q := 368) g dL_sits_367 rfl ?_
  refine V_u5 (q := 371) 1 (j + 11) g (cq_2 l hfl hL hO (by omega)) dL_sits_368 k_L_192 rfl ⟨by decide, by decide⟩ (hK2.le (by omega)) rfl rfl (fun z3 M3 κ3 e3 hK3 => ?_)
  obtain ⟨e3, rfl⟩ := e3
  have e3 : z3 = σ.1 3 := e3.trans (qAb_4 _)
  refine V_istore_14 (q := 373) g dL_sits_371 (by decide) rfl rfl ?_
  refine V_iload (q := 375) g dL_sits_373 rfl rfl ?_
  refine V_if_eq (q := 378) g dL_sits_375 (tgt := 483) (by decide) rfl (by omega) (fun h4 => absurd h4 (by omega)) (fun h4 => ?_)
  refine V_aload_n (q := 379) g dL_sits_378 rfl rfl ?_
  refine V_bipush (q := 381) g dL_sits_379 (by decide) rfl ?_
  refine V_iload_n (q := 382) g dL_sits_381 rfl rfl ?_
  refine V_iconst (q := 383) g dL_sits_382 rfl ?_
  refine V_iconst (q := 384) g dL_sits_383 rfl ?_
  refine V_u5 (q := 387) 1 (j + 10) g (cq_14 l hfl hL hO (by omega)) dL_sits_384 k_L_192 rfl ⟨by decide, by decide⟩ (hK3.le (by omega)) rfl rfl (fun z5 M5 κ5 e5 hK5 => ?_)
  obtain ⟨e5, hs5, hf5⟩ := e5
  rw [show (nTest σ c) = (push σ (fTest σ.1 c)) from by rw [nTest, if_pos hc]] at hs5
  have hx5_t := hQ.fr hf5 (by omega)
  have e5 : z5 = sWhy σ.1 c := e5.trans (by rw [qTest, if_pos hc])
  refine V_iload (q := 389) g dL_sits_387 rfl rfl ?_
  refine V_icmp_ne (q := 392) g dL_sits_389 (tgt := 483) (by decide) rfl (by omega) (by omega) (fun h6 => absurd h6 (by omega)) (fun h6 => ?_)
  refine V_aload_n (q := 393) g dL_sits_392 rfl rfl ?_
  refine V_bipush (q := 395) g dL_sits_393 (by decide) rfl ?_
  refine V_iload_n (q := 396) g dL_sits_395 rfl rfl ?_
  refine V_iconst (q := 397) g dL_sits_396 rfl ?_
  refine V_iconst (q := 398) g dL_sits_397 rfl ?_
  refine V_u5 (q := 401) 1 (j + 9) g (cq_14 l hfl hL2 hx5_t (by omega)) dL_sits_398 k_L_192 rfl ⟨by decide, by decide⟩ (hK5.le (by omega)) rfl rfl (fun z7 M7 κ7 e7 hK7 => ?_)
  obtain ⟨e7, hs7, hf7⟩ := e7
  rw [show (nTest σ c) = (push σ (fTest σ.1 c)) from by rw [nTest, if_pos hc]] at hs7
  have hx7_s := hs5.fr hf7 (by omega)
  have e7 : z7 = sWhy σ.1 c := e7.trans (by rw [qTest, if_pos hc])
  refine V_iload (q := 403) g dL_sits_401 rfl rfl ?_
  refine V_icmp_ne (q := 406) g dL_sits_403 (tgt := 483) (by decide) rfl (by omega) (by omega) (fun h8 => absurd h8 (by omega)) (fun h8 => ?_)
  refine V_aload_n (q := 407) g dL_sits_406 rfl rfl ?_
  refine V_iconst (q := 408) g dL_sits_407 rfl ?_
  refine V_iload_n (q := 409) g dL_sits_408 rfl rfl ?_
  refine V_bipush (q := 411) g dL_sits_409 (by decide) rfl ?_
  refine V_iconst (q := 412) g dL_sits_411 rfl ?_
  refine V_u5 (q := 415) 1 (j + 8) g (cq_3 l hfl hL hx7_s (by omega) (by omega)) dL_sits_412 k_L_192 rfl ⟨by decide, by decide⟩ (hK7.le (by omega)) rfl rfl (fun z9 M9 κ9 e9 hK9 => ?_)
  obtain ⟨e9, rfl⟩ := e9
  have e9 : z9 = fTest σ.1 c (47 + 9 * c) := e9.trans (qCh_6 hct)
  refine V_iload (q := 417) g dL_sits_415 rfl rfl ?_
  suffices hm10 : ∀ (t10 : Int) (κ10 : Nat × Nat), ((z1 ≠ 0 ∧ t10 = 0) ∨ (z1 = 0 ∧ t10 = 1)) → Kb κ10 rm_L_sits (j + 8) → V Γ D Λ M7 κ10 425 [some (.ref s), some (.ref t), some (vi x), some (vi c), none, none, some (vi (sSeat σ.1 c)), some (vi (σ.1 9)), some (vi (σ.1 (47 + 9 * c))), none, none, some (vi 1), some (vi z1), some (vi z2), some (vi z3)] [vi t10, vi z9] by
    refine V_if_ne (q := 420) g dL_sits_417 (tgt := 424) (by decide) rfl (by omega) (fun h11 => ?_) (fun h11 => ?_)
    · refine V_iconst (q := 425) g dL_sits_424 rfl ?_
      exact V_lvw (lvLe_s (lvLe_s (lvLe_s (lvLe_s (lvLe_n (lvLe_n (lvLe_s (lvLe_s (lvLe_s (lvLe_n (lvLe_n (lvLe_s (lvLe_s (lvLe_s (lvLe_s lvLe_0))))))))))))))) (hm10 _ _ (by omega) (hK9.le (by omega)))
    · refine V_iconst (q := 421) g dL_sits_420 rfl ?_
      refine V_goto g dL_sits_421 (tgt := 425) (by decide) ?_
      exact V_lvw (lvLe_s (lvLe_s (lvLe_s (lvLe_s (lvLe_n (lvLe_n (lvLe_s (lvLe_s (lvLe_s (lvLe_n (lvLe_n (lvLe_s (lvLe_s (lvLe_s (lvLe_s lvLe_0))))))))))))))) (hm10 _ _ (by omega) (hK9.le (by omega)))
  intro t10 κ10 hp10 hK10
  refine V_icmp_ne (q := 428) g dL_sits_425 (tgt := 483) (by decide) rfl (by omega) (by omega) (fun h12 => absurd h12 (by omega)) (fun h12 => ?_)
  refine V_aload_n (q := 429) g dL_sits_428 rfl rfl ?_
  refine V_iconst (q := 430) g dL_sits_429 rfl ?_
  refine V_bipush (q := 432) g dL_sits_430 (by decide) rfl ?_
  refine V_iconst (q := 433) g dL_sits_432 rfl ?_
  refine V_iconst (q := 434) g dL_sits_433 rfl ?_
  refine V_u5 (q := 437) 1 (j + 7) g (cq_2 l hfl hL hx7_s (by omega)) dL_sits_434 k_L_192 rfl ⟨by decide, by decide⟩ (hK10.le (by omega)) rfl rfl (fun z13 M13 κ13 e13 hK13 => ?_)
  obtain ⟨e13, rfl⟩ := e13
  have e13 : z13 = fTest σ.1 c 5 := e13.trans (qAb_6 _)
  refine V_iload (q := 439) g dL_sits_437 rfl rfl ?_
  refine V_aload_n (q := 440) g dL_sits_439 rfl rfl ?_
  refine V_bipush (q := 442) g dL_sits_440 (by decide) rfl ?_
  refine V_iconst (q := 443) g dL_sits_442 rfl ?_
  refine V_iconst (q := 444) g dL_sits_443 rfl ?_
  refine V_iconst (q := 445) g dL_sits_444 rfl ?_
  refine V_u5 (q := 448) 1 (j + 6) g (cq_8 l hfl hL hx7_s (by omega)) dL_sits_445 k_L_192 rfl ⟨by decide, by decide⟩ (hK13.le (by omega)) rfl rfl (fun z14 M14 κ14 e14 hK14 => ?_)
  obtain ⟨e14, rfl⟩ := e14
  have e14 : z14 = fTest σ.1 c 10 := e14.trans (qSt_0 _)
  refine V_iadd (q := 449) g dL_sits_448 rfl ?_
  refine V_icmp_ne (q := 452) g dL_sits_449 (tgt := 483) (by decide) rfl (by omega) (by omega) (fun h15 => absurd h15 (by omega)) (fun h15 => ?_)
  refine V_aload_n (q := 453) g dL_sits_452 rfl rfl ?_
  refine V_iconst (q := 454) g dL_sits_453 rfl ?_
  refine V_iconst (q := 455) g dL_sits_454 rfl ?_
  refine V_iconst (q := 456) g dL_sits_455 rfl ?_
  refine V_iconst (q := 457) g dL_sits_456 rfl ?_
  refine V_u5 (q := 460) 1 (j + 5) g (cq_2 l hfl hL hx7_s (by omega)) dL_sits_457 k_L_192 rfl ⟨by decide, by decide⟩ (hK14.le (by omega)) rfl rfl (fun z16 M16 κ16 e16 hK16 => ?_)
  obtain ⟨e16, rfl⟩ := e16
  have e16 : z16 = fTest σ.1 c 3 := e16.trans (qAb_4 _)
  refine V_iload (q := 462) g dL_sits_460 rfl rfl ?_
  refine V_iload (q := 464) g dL_sits_462 rfl rfl ?_
  suffices hm17 : ∀ (t17 : Int) (κ17 : Nat × Nat), ((z1 ≠ 0 ∧ t17 = 0) ∨ (z1 = 0 ∧ t17 = 1 - (σ.1 (47 + 9 * c)))) → Kb κ17 rm_L_sits (j + 5) → V Γ D Λ M7 κ17 475 [some (.ref s), some (.ref t), some (vi x), some (vi c), none, none, some (vi (sSeat σ.1 c)), some (vi (σ.1 9)), some (vi (σ.1 (47 + 9 * c))), none, none, some (vi 1), some (vi z1), some (vi z2), some (vi z3)] [vi t17, vi z3, vi z16] by
    refine V_if_ne (q := 467) g dL_sits_464 (tgt := 474) (by decide) rfl (by omega) (fun h18 => ?_) (fun h18 => ?_)
    · refine V_iconst (q := 475) g dL_sits_474 rfl ?_
      exact V_lvw (lvLe_s (lvLe_s (lvLe_s (lvLe_s (lvLe_n (lvLe_n (lvLe_s (lvLe_s (lvLe_s (lvLe_n (lvLe_n (lvLe_s (lvLe_s (lvLe_s (lvLe_s lvLe_0))))))))))))))) (hm17 _ _ (by omega) (hK16.le (by omega)))
    · refine V_iconst (q := 468) g dL_sits_467 rfl ?_
      refine V_iload (q := 470) g dL_sits_468 rfl rfl ?_
      refine V_isub (q := 471) g dL_sits_470 rfl ?_
      refine V_goto g dL_sits_471 (tgt := 475) (by decide) ?_
      exact V_lvw (lvLe_s (lvLe_s (lvLe_s (lvLe_s (lvLe_n (lvLe_n (lvLe_s (lvLe_s (lvLe_s (lvLe_n (lvLe_n (lvLe_s (lvLe_s (lvLe_s (lvLe_s lvLe_0))))))))))))))) (hm17 _ _ (by omega) (hK16.le (by omega)))
  intro t17 κ17 hp17 hK17
  refine V_iadd (q := 476) g dL_sits_475 rfl ?_
  refine V_icmp_ne (q := 479) g dL_sits_476 (tgt := 483) (by decide) rfl (by omega) (by omega) (fun h19 => absurd h19 (by omega)) (fun h19 => ?_)
  refine V_iconst (q := 480) g dL_sits_479 rfl ?_
  refine V_goto g dL_sits_480 (tgt := 484) (by decide) ?_
  refine V_istore_11 (q := 486) g dL_sits_484 (by decide) rfl rfl ?_
  refine V_iload (q := 488) g dL_sits_486 rfl rfl ?_
  refine V_if_eq (q := 491) g dL_sits_488 (tgt := 566) (by decide) rfl (by omega) (fun h20 => absurd h20 (by omega)) (fun h20 => ?_)
  refine V_aload_n (q := 492) g dL_sits_491 rfl rfl ?_
  refine V_bipush (q := 494) g dL_sits_492 (by decide) rfl ?_
  refine V_iconst (q := 495) g dL_sits_494 rfl ?_
  refine V_iconst (q := 496) g dL_sits_495 rfl ?_
  refine V_iconst (q := 497) g dL_sits_496 rfl ?_
  refine V_u5 (q := 500) 1 (j + 4) g (cq_18 l hfl hL hx7_s) dL_sits_497 k_L_192 rfl ⟨by decide, by decide⟩ (hK17.le (by omega)) rfl rfl (fun z21 M21 κ21 e21 hK21 => ?_)
  obtain ⟨e21, hs21, hf21⟩ := e21
  rw [show (nUndo (push σ (fTest σ.1 c))) = (pt σ) from nUndo_push _ _] at hs21
  have hx21_t := hs7.fr hf21 (by omega)
  have eu21 : z21 = ((σ.2.1.take 13).length : Int) := e21.trans (qUndo_push _ _)
  have hu9 := t13 σ.2.1
  refine V_uc1 (q := 503) g (c_L_thrown l (by omega)) dL_sits_500 k_L_241 rfl ⟨rfl, rfl⟩ hK21 rfl rfl (fun z22 M22 e22 => ?_)
  obtain ⟨e22, rfl⟩ := e22
  have e22 : z22 = 0 := e22.trans (sThr_0 (by omega))
  refine V_if_ne (q := 506) g dL_sits_503 (tgt := 566) (by decide) rfl (by omega) (fun h23 => absurd h23 (by omega)) (fun h23 => ?_)
  refine V_aload_n (q := 507) g dL_sits_506 rfl rfl ?_
  refine V_bipush (q := 509) g dL_sits_507 (by decide) rfl ?_
  refine V_iconst (q := 510) g dL_sits_509 rfl ?_
  refine V_iconst (q := 511) g dL_sits_510 rfl ?_
  refine V_iconst (q := 512) g dL_sits_511 rfl ?_
  refine V_u5 (q := 515) 1 (j + 3) g (cq_18 l hfl hL2 hx21_t) dL_sits_512 k_L_192 rfl ⟨by decide, by decide⟩ (hK21.le (by omega)) rfl rfl (fun z24 M24 κ24 e24 hK24 => ?_)
  obtain ⟨e24, hs24, hf24⟩ := e24
  rw [show (nUndo (push σ (fTest σ.1 c))) = (pt σ) from nUndo_push _ _] at hs24
  have hx24_s := hs21.fr hf24 (by omega)
  have eu24 : z24 = ((σ.2.1.take 13).length : Int) := e24.trans (qUndo_push _ _)
  have hu9 := t13 σ.2.1
  refine V_uc1 (q := 518) g (c_L_thrown l (by omega)) dL_sits_515 k_L_241 rfl ⟨rfl, rfl⟩ hK24 rfl rfl (fun z25 M25 e25 => ?_)
  obtain ⟨e25, rfl⟩ := e25
  have e25 : z25 = 0 := e25.trans (sThr_0 (by omega))
  refine V_if_ne (q := 521) g dL_sits_518 (tgt := 566) (by decide) rfl (by omega) (fun h26 => absurd h26 (by omega)) (fun h26 => ?_)
  refine V_aload_n (q := 522) g dL_sits_521 rfl rfl ?_
  refine V_iconst (q := 523) g dL_sits_522 rfl ?_
  refine V_iload_n (q := 524) g dL_sits_523 rfl rfl ?_
  refine V_iconst (q := 525) g dL_sits_524 rfl ?_
  refine V_iconst (q := 526) g dL_sits_525 rfl ?_
  refine V_u5 (q := 529) 1 (j + 2) g (cq_3 l hfl hL hx24_s (by omega) (by omega)) dL_sits_526 k_L_192 rfl ⟨by decide, by decide⟩ (hK24.le (by omega)) rfl rfl (fun z27 M27 κ27 e27 hK27 => ?_)
  obtain ⟨e27, rfl⟩ := e27
  have e27 : z27 = sSeat σ.1 c := e27.trans (qCh_4 hc)
  refine V_iload (q := 531) g dL_sits_529 rfl rfl ?_
  refine V_icmp_ne (q := 534) g dL_sits_531 (tgt := 566) (by decide) rfl (by omega) (by omega) (fun h28 => absurd h28 (by omega)) (fun h28 => ?_)
  refine V_aload_n (q := 535) g dL_sits_534 rfl rfl ?_
  refine V_iconst (q := 536) g dL_sits_535 rfl ?_
  refine V_iload_n (q := 537) g dL_sits_536 rfl rfl ?_
  refine V_bipush (q := 539) g dL_sits_537 (by decide) rfl ?_
  refine V_iconst (q := 540) g dL_sits_539 rfl ?_
  refine V_u5 (q := 543) 1 (j + 1) g (cq_3 l hfl hL hx24_s (by omega) (by omega)) dL_sits_540 k_L_192 rfl ⟨by decide, by decide⟩ (hK27.le (by omega)) rfl rfl (fun z29 M29 κ29 e29 hK29 => ?_)
  obtain ⟨e29, rfl⟩ := e29
  have e29 : z29 = σ.1 (47 + 9 * c) := e29.trans (qCh_6 hc)
  refine V_iload (q := 545) g dL_sits_543 rfl rfl ?_
  refine V_icmp_ne (q := 548) g dL_sits_545 (tgt := 566) (by decide) rfl (by omega) (by omega) (fun h30 => absurd h30 (by omega)) (fun h30 => ?_)
  refine V_aload_n (q := 549) g dL_sits_548 rfl rfl ?_
  refine V_iconst (q := 550) g dL_sits_549 rfl ?_
  refine V_bipush (q := 552) g dL_sits_550 (by decide) rfl ?_
  refine V_iconst (q := 553) g dL_sits_552 rfl ?_
  refine V_iconst (q := 554) g dL_sits_553 rfl ?_
  refine V_u5 (q := 557) 1 (j) g (cq_2 l hfl hL hx24_s (by omega)) dL_sits_554 k_L_192 rfl ⟨by decide, by decide⟩ (hK29.le (by omega)) rfl rfl (fun z31 M31 κ31 e31 hK31 => ?_)
  obtain ⟨e31, rfl⟩ := e31
  have e31 : z31 = σ.1 9 := e31.trans (qAb_10 _)
  refine V_iload (q := 559) g dL_sits_557 rfl rfl ?_
  refine V_icmp_ne (q := 562) g dL_sits_559 (tgt := 566) (by decide) rfl (by omega) (by omega) (fun h32 => absurd h32 (by omega)) (fun h32 => ?_)
  exact V_lvw (lvLe_n (lvLe_n (lvLe_n (lvLe_n (lvLe_n (lvLe_n (lvLe_n (lvLe_n (lvLe_n (lvLe_n (lvLe_n (lvLe_n (lvLe_n (lvLe_n (lvLe_n lvLe_0))))))))))))))) (k9 _ M24 κ31 Lt.pt hx24_s hs24 (hK31.le (by omega)))
end SG
set_option maxHeartbeats 8000000 in
set_option maxRecDepth 100000 in
/-- a chair fails after as many sitters as was told; a test stamps just those that do not fail -/
theorem c_L_sits (l : Launch) (hfl : l.stackTraces = false) {D : DD} {Λ : LY} {M : MM} {s t : Nat} {σ : SG} {x t9 : Int} (hd : s + 217 ≤ t ∨ t + 217 ≤ s) (hL : ClsL D Λ s) (hL2 : ClsL D Λ t) (hO : Os M s σ) (hQ : Os M t σ) (hG : Gd t9 σ.1) (ht9 : t9 ≤ 100) (h1c : 1 ≤ σ.1 0) (hx : 0 ≤ x ∧ x < 2147483648) : CXI l yL_sits cL_sits 15 .boolean rm_L_sits [.ref s, .ref t, vi x] D Λ M (fun z M1 => z = 1 ∧ ∃ σ1, Lt σ σ1 ∧ Os M1 s σ1 ∧ Os M1 t σ1) (fun _ _ => False) := by
  refine CXI_of rfl rfl (Nat.le_of_ble_eq_true rfl) (fun Γ g r => ?_)
  have hK : Kb (0, 0) rm_L_sits 160 := ⟨by decide, by decide⟩
  have hI := hO.1.2
  have hN := hI.1
  have hF := hI.2.1
  have hc : 0 ≤ x % σ.1 0 ∧ x % σ.1 0 < σ.1 0 := ⟨Int.emod_nonneg _ (by omega), Int.emod_lt_of_pos _ (by omega)⟩
  have hwt : 1 ≤ 1 + ((x / 10) % 200) ∧ 1 + ((x / 10) % 200) ≤ 200 := by omega
  have hfr := fail_r σ.1 (x % σ.1 0) (1 + ((x / 10) % 200))
  have hlen := hO.2.1.2.2.1
  have hw9 : 0 ≤ σ.1 9 ∧ σ.1 9 ≤ 320000 := by
    have := hG.2.2.2.2.2.2.2.2
    omega
  refine V_iload_n (q := 1) g dL_sits_0 rfl rfl ?_
  refine V_aload_n (q := 2) g dL_sits_1 rfl rfl ?_
  refine V_iconst (q := 3) g dL_sits_2 rfl ?_
  refine V_iconst (q := 4) g dL_sits_3 rfl ?_
  refine V_iconst (q := 5) g dL_sits_4 rfl ?_
  refine V_iconst (q := 6) g dL_sits_5 rfl ?_
  refine V_u5 (q := 9) 1 (150 + 9) g (cq_2 l hfl hL hO (by omega)) dL_sits_6 k_L_192 rfl ⟨by decide, by decide⟩ (hK.le (by omega)) rfl rfl (fun z1 M1 κ1 e1 hK1 => ?_)
  obtain ⟨e1, rfl⟩ := e1
  have e1 : z1 = σ.1 0 := e1.trans (qAb_0 _)
  subst e1
  refine V_irem (q := 10) g dL_sits_9 (by omega) (by omega) rfl ?_
  refine V_istore_n_3 (q := 11) g dL_sits_10 (by decide) rfl rfl ?_
  refine V_iconst (q := 12) g dL_sits_11 rfl ?_
  refine V_iload_n (q := 13) g dL_sits_12 rfl rfl ?_
  refine V_bipush (q := 15) g dL_sits_13 (by decide) rfl ?_
  refine V_idiv (q := 16) g dL_sits_15 (by omega) (by omega) rfl ?_
  refine V_sipush (q := 19) g dL_sits_16 (by decide) rfl ?_
  refine V_irem (q := 20) g dL_sits_19 (by omega) (by omega) rfl ?_
  refine V_iadd (q := 21) g dL_sits_20 rfl ?_
  refine V_istore_4 (q := 23) g dL_sits_21 (by decide) rfl rfl ?_
  refine V_aload_n (q := 24) g dL_sits_23 rfl rfl ?_
  refine V_bipush (q := 26) g dL_sits_24 (by decide) rfl ?_
  refine V_iload_n (q := 27) g dL_sits_26 rfl rfl ?_
  refine V_iload (q := 29) g dL_sits_27 rfl rfl ?_
  refine V_iconst (q := 30) g dL_sits_29 rfl ?_
  refine V_u5 (q := 33) 1 (150 + 8) g (cq_21 l hfl hL hO (by omega) (by omega)) dL_sits_30 k_L_192 rfl ⟨by decide, by decide⟩ (hK1.le (by omega)) rfl rfl (fun z2 M2 κ2 e2 hK2 => ?_)
  obtain ⟨e2, hs2, hf2⟩ := e2
  have hx2_t := hQ.fr hf2 (by omega)
  have e2 : z2 = sFail σ.1 (x % σ.1 0) (1 + ((x / 10) % 200)) := e2.trans (qFl_ok hc hwt)
  subst e2
  refine V_istore_5 (q := 35) g dL_sits_33 (by decide) rfl rfl ?_
  refine V_aload_n (q := 36) g dL_sits_35 rfl rfl ?_
  refine V_iconst (q := 37) g dL_sits_36 rfl ?_
  refine V_iload_n (q := 38) g dL_sits_37 rfl rfl ?_
  refine V_iconst (q := 39) g dL_sits_38 rfl ?_
  refine V_iconst (q := 40) g dL_sits_39 rfl ?_
  refine V_u5 (q := 43) 1 (150 + 7) g (cq_3 l hfl hL hs2 (by omega) (by omega)) dL_sits_40 k_L_192 rfl ⟨by decide, by decide⟩ (hK2.le (by omega)) rfl rfl (fun z3 M3 κ3 e3 hK3 => ?_)
  obtain ⟨e3, rfl⟩ := e3
  have e3 : z3 = sSeat σ.1 (x % σ.1 0) := e3.trans (qCh_4 hc)
  subst e3
  refine V_istore_6 (q := 45) g dL_sits_43 (by decide) rfl rfl ?_
  refine V_aload_n (q := 46) g dL_sits_45 rfl rfl ?_
  refine V_iconst (q := 47) g dL_sits_46 rfl ?_
  refine V_bipush (q := 49) g dL_sits_47 (by decide) rfl ?_
  refine V_iconst (q := 50) g dL_sits_49 rfl ?_
  refine V_iconst (q := 51) g dL_sits_50 rfl ?_
  refine V_u5 (q := 54) 1 (150 + 6) g (cq_2 l hfl hL hs2 (by omega)) dL_sits_51 k_L_192 rfl ⟨by decide, by decide⟩ (hK3.le (by omega)) rfl rfl (fun z4 M4 κ4 e4 hK4 => ?_)
  obtain ⟨e4, rfl⟩ := e4
  have e4 : z4 = σ.1 9 := e4.trans (qAb_10 _)
  subst e4
  refine V_istore_7 (q := 56) g dL_sits_54 (by decide) rfl rfl ?_
  refine V_aload_n (q := 57) g dL_sits_56 rfl rfl ?_
  refine V_iconst (q := 58) g dL_sits_57 rfl ?_
  refine V_iload_n (q := 59) g dL_sits_58 rfl rfl ?_
  refine V_bipush (q := 61) g dL_sits_59 (by decide) rfl ?_
  refine V_iconst (q := 62) g dL_sits_61 rfl ?_
  refine V_u5 (q := 65) 1 (150 + 5) g (cq_3 l hfl hL hs2 (by omega) (by omega)) dL_sits_62 k_L_192 rfl ⟨by decide, by decide⟩ (hK4.le (by omega)) rfl rfl (fun z5 M5 κ5 e5 hK5 => ?_)
  obtain ⟨e5, rfl⟩ := e5
  have e5 : z5 = σ.1 (47 + 9 * (x % σ.1 0)) := e5.trans (qCh_6 hc)
  subst e5
  refine V_istore_8 (q := 67) g dL_sits_65 (by decide) rfl rfl ?_
  refine V_iload (q := 69) g dL_sits_67 rfl rfl ?_
  refine V_iconst (q := 70) g dL_sits_69 rfl ?_
  suffices hm6 : ∀ (t6 : Int) (κ6 : Nat × Nat), (((sFail σ.1 (x % σ.1 0) (1 + ((x / 10) % 200)) = -1 ∨ 10 < sFail σ.1 (x % σ.1 0) (1 + ((x / 10) % 200))) ∧ t6 = 10) ∨ ((0 ≤ sFail σ.1 (x % σ.1 0) (1 + ((x / 10) % 200)) ∧ sFail σ.1 (x % σ.1 0) (1 + ((x / 10) % 200)) ≤ 10) ∧ t6 = sFail σ.1 (x % σ.1 0) (1 + ((x / 10) % 200)))) → Kb κ6 rm_L_sits (150 + 5) → V Γ D Λ M2 κ6 87 [some (.ref s), some (.ref t), some (vi x), some (vi (x % (σ.1 0))), some (vi (1 + ((x / 10) % 200))), some (vi (sFail σ.1 (x % σ.1 0) (1 + ((x / 10) % 200)))), some (vi (sSeat σ.1 (x % σ.1 0))), some (vi (σ.1 9)), some (vi (σ.1 (47 + 9 * (x % σ.1 0)))), none, none, none, none, none, none] [vi t6] by
    refine V_icmp_eq (q := 73) g dL_sits_70 (tgt := 80) (by decide) rfl (by omega) (by omega) (fun h7 => ?_) (fun h7 => ?_)
    · refine V_bipush (q := 82) g dL_sits_80 (by decide) rfl ?_
      refine V_goto g dL_sits_82 (tgt := 87) (by decide) ?_
      exact V_lvw (lvLe_s (lvLe_s (lvLe_s (lvLe_s (lvLe_s (lvLe_s (lvLe_s (lvLe_s (lvLe_s (lvLe_n (lvLe_n (lvLe_n (lvLe_n (lvLe_n (lvLe_n lvLe_0))))))))))))))) (hm6 _ _ (by omega) (hK5.le (by omega)))
    · refine V_iload (q := 75) g dL_sits_73 rfl rfl ?_
      refine V_bipush (q := 77) g dL_sits_75 (by decide) rfl ?_
      refine V_icmp_le (q := 80) g dL_sits_77 (tgt := 85) (by decide) rfl (by omega) (by omega) (fun h8 => ?_) (fun h8 => ?_)
      · refine V_iload (q := 87) g dL_sits_85 rfl rfl ?_
        exact V_lvw (lvLe_s (lvLe_s (lvLe_s (lvLe_s (lvLe_s (lvLe_s (lvLe_s (lvLe_s (lvLe_s (lvLe_n (lvLe_n (lvLe_n (lvLe_n (lvLe_n (lvLe_n lvLe_0))))))))))))))) (hm6 _ _ (by omega) (hK5.le (by omega)))
      · refine V_bipush (q := 82) g dL_sits_80 (by decide) rfl ?_
        refine V_goto g dL_sits_82 (tgt := 87) (by decide) ?_
        exact V_lvw (lvLe_s (lvLe_s (lvLe_s (lvLe_s (lvLe_s (lvLe_s (lvLe_s (lvLe_s (lvLe_s (lvLe_n (lvLe_n (lvLe_n (lvLe_n (lvLe_n (lvLe_n lvLe_0))))))))))))))) (hm6 _ _ (by omega) (hK5.le (by omega)))
  intro t6 κ6 hp6 hK6
  obtain ⟨N, hN6⟩ : ∃ N : Nat, t6 = (N : Int) := ⟨(t6).toNat, by omega⟩
  subst hN6
  obtain ⟨hN10, hwy, hif⟩ := fail_n hp6
  refine V_istore_9 (q := 89) g dL_sits_87 (by decide) rfl rfl ?_
  refine V_iconst (q := 90) g dL_sits_89 rfl ?_
  refine V_istore_10 (q := 92) g dL_sits_90 (by decide) rfl rfl ?_
  refine V_iconst (q := 93) g dL_sits_92 rfl ?_
  refine V_istore_11 (q := 95) g dL_sits_93 (by decide) rfl rfl ?_
  refine V_iconst (q := 96) g dL_sits_95 rfl ?_
  refine V_istore_12 (q := 98) g dL_sits_96 (by decide) rfl rfl ?_
  have hO0 := hs2
  have hQ0 := hx2_t
  rw [← Sk_0 (σ := σ) (c := x % σ.1 0) (wt := 1 + ((x / 10) % 200)) hlen] at hO0 hQ0
  refine su_up (j := 80) hfl g hd hL hL2 hI hc hwt hN10 hwy (fun sum M1 κ1 hsum h9 hO hQ hK => ?_) N 0 0 _ _ (by omega) (by omega) ?_ hO0 hQ0 (hK6.le (by omega))
  · refine su_m (j := 70) hfl g hd hL hL2 hI hc hwt hN10 hsum h9 hw9 hif hO hQ (hK.le (by omega)) (fun M1 κ1 hO hQ hK => ?_)
    have e14 : 14 = (14 - N) + N := by omega
    rw [e14] at hO hQ
    refine su_dn (j := 30) hfl g hd hL hL2 hI hc hwt hN10 (fun M1 κ1 m hO hQ hK => ?_) N (14 - N) 0 _ _ (by omega) (by omega) (by omega) hO hQ (hK.le (by omega))
    refine su_t (σ := Sk σ (x % σ.1 0) (1 + ((x / 10) % 200)) 0 m) (f := σ.1) (j := 10) hfl g hd hL hL2 rfl hc hG ht9 hO hQ (hK.le (by omega)) (fun σ1 M1 κ1 hT hO hQ hK => ?_)
    refine V_iconst (q := 563) g dL_sits_562 rfl ?_
    refine V_goto g dL_sits_563 (tgt := 567) (by decide) ?_
    exact V_r0 g r hK dL_sits_567 rfl ⟨rfl, σ1, Lt.Sk.tr hT, hO, hQ⟩
  · show σ.1 9 = σ.1 9 + 0
    omega
