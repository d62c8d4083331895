/-- an int of the script -/
def sc (xs : Nat → Int32) (i : Int) : Int := (xs i.toNat).toInt
theorem sc_r (xs : Nat → Int32) (i : Int) : inR (sc xs i) := inR_toInt _
theorem vl_self (z : Int64) : vl z.toInt = .long z := by show Value.long (lI z.toInt) = _; rw [lI_self]
theorem vi_self (z : Int32) : vi z.toInt = .int z := by show Value.int (iI z.toInt) = _; rw [iI_self]
/-- what the law stands on: its frame, both objects, the array of one answer, the script -/
def LC (Γ : VG) (D : DD) (Λ : LY) (l : Launch) (s b L : Nat) (xs : Nat → Int32) : Prop := VOk Γ D Λ RL cL_law 7 l room_1 ∧ (ClsL D Λ s ∧ MdL D Λ (s + 217) ∧ Λ (s + 224) = some (kJ D 1)) ∧ va_X b L xs (gs Γ) (gs Γ).heap ∧ b < (gs Γ).heap.size ∧ ¬ Aw Λ (gs Γ).heap.size b ∧ L ≤ 2560
section LW
variable {Γ : VG} {D : DD} {Λ : LY} {l : Launch} {s b L : Nat} {xs : Nat → Int32} {M : MM} {κ : Nat × Nat} {pc q : Nat} {lv : List (Option Value)} {st : List Value}
theorem V_wid {κ' : Nat × Nat} (h : κ.1 ≤ κ'.1 ∧ κ.2 ≤ κ'.2) (k : V Γ D Λ M κ' pc lv st) : V Γ D Λ M κ pc lv st := by
  intro H locs ls h1 h2 h3
  have hk := k H locs ls h1 h2 h3
  exact fun T hT X => hk T hT (stand_widen X h.1 h.2)
theorem V_sld {i : Int} (w : LC Γ D Λ l s b L xs) (d : decode cL_law pc = .ok (.iaload, 1)) (hi : 0 ≤ i ∧ i < L) (hq : pc + 1 = q) (k : V Γ D Λ M κ q lv (vi (sc xs i) :: st)) : V Γ D Λ M κ pc lv (vi i :: .ref b :: st) := by
  subst hq
  obtain ⟨g, -, hX, hb, hA, hL⟩ := w
  intro H locs ls h1 h2 h3
  refine va_sld g.exec g.code hX hb hA h2 (iI_in hi (by omega)) d ?_
  rw [iI_cl ⟨hi.1, by omega⟩]
  have hk := k H locs ls h1 h2 h3
  rw [show vi (sc xs i) = .int (xs i.toNat) from vi_self _] at hk
  exact hk
theorem V_slen (w : LC Γ D Λ l s b L xs) (d : decode cL_law pc = .ok (.arraylength, 1)) (hq : pc + 1 = q) (k : V Γ D Λ M κ q lv (vi L :: st)) : V Γ D Λ M κ pc lv (.ref b :: st) := by
  subst hq
  obtain ⟨g, -, hX, hb, hA, hL⟩ := w
  intro H locs ls h1 h2 h3
  refine va_slen g.exec g.code hX hb hA h2 d ?_
  rw [iI_nat]
  exact k H locs ls h1 h2 h3
theorem V_lorT {x y : Int64} (w : LC Γ D Λ l s b L xs) (d : decode cL_law pc = .ok (.lor, 1)) (hq : pc + 1 = q) (k : V Γ D Λ M κ q lv (vl (x ||| y).toInt :: st)) : V Γ D Λ M κ pc lv (.long y :: .long x :: st) := V_lor0 w.1 d hq (by rw [← vl_self]; exact k)
/-- one argument out of the script -/
theorem V_arg {n i : Int} {a0 a1 a2 : Option Value} {r : List (Option Value)} (w : LC Γ D Λ l s b L xs) (d0 : decode cL_law pc = .ok (.aload_n 0, 1)) (d1 : decode cL_law (pc + 1) = .ok (.iload 4, 2)) (d2 : decode cL_law (pc + 3) = .ok (.iconst n, 1)) (d3 : decode cL_law (pc + 4) = .ok (.iadd, 1)) (d4 : decode cL_law (pc + 5) = .ok (.iaload, 1)) (hi : 0 ≤ i + n ∧ i + n < L) (hq : pc + 6 = q) (k : V Γ D Λ M κ q (some (.ref b) :: a0 :: a1 :: a2 :: some (vi i) :: r) (vi (sc xs (i + n)) :: st)) : V Γ D Λ M κ pc (some (.ref b) :: a0 :: a1 :: a2 :: some (vi i) :: r) st := by
  refine V_aload_n w.1 d0 rfl rfl ?_
  refine V_iload w.1 d1 rfl rfl ?_
  refine V_iconst w.1 d2 rfl ?_
  refine V_iadd w.1 d3 rfl ?_
  exact V_sld w d4 hi (by omega) k
theorem rmL {rm : Room} {maxL : Nat} (h : (decide (rm.frames + 1 ≤ 13) && (decide (8 + (maxL + 11) + rm.locals ≤ 496) && (decide (rm.cells ≤ 3) && decide (rm.slots ≤ 18)))) = true) (hκ : κ.1 + 3 ≤ 601024 ∧ κ.2 + 18 ≤ 7293034) : rmOk rm maxL room_1 κ = true := by
  simp only [Bool.and_eq_true, decide_eq_true_eq] at h
  unfold rmOk
  simp only [Bool.and_eq_true, decide_eq_true_eq]
  exact ⟨h.1, h.2.1, by show κ.1 + rm.cells ≤ 601024; omega, by show κ.2 + rm.slots ≤ 7293034; omega⟩
theorem rmL0 {rm : Room} {maxL : Nat} (h : (decide (rm.frames + 1 ≤ 13) && (decide (8 + (maxL + 11) + rm.locals ≤ 496) && (decide (rm.cells = 0) && decide (rm.slots = 0)))) = true) (hκ : κ.1 ≤ 601024 ∧ κ.2 ≤ 7293034) : rmOk rm maxL room_1 κ = true := by
  simp only [Bool.and_eq_true, decide_eq_true_eq] at h
  unfold rmOk
  simp only [Bool.and_eq_true, decide_eq_true_eq]
  exact ⟨h.1, h.2.1, by show κ.1 + rm.cells ≤ 601024; omega, by show κ.2 + rm.slots ≤ 7293034; omega⟩
/-- the comparison behind both sides of a face -/
theorem V_tail {P : Nat} {off i kk b9 : Int} {y6 : Option Value} (hP : P ≤ 3000) (w : LC Γ D Λ l s b L xs) (hκ : κ.1 ≤ 601024 ∧ κ.2 ≤ 7293034) (t : Tie s M kk b9) (d0 : decode cL_law P = .ok (.istore 6, 2)) (d2 : decode cL_law (P + 2) = .ok (.aload_n 2, 1)) (d3 : decode cL_law (P + 3) = .ok (.invokevirtual 116, 3)) (d6 : decode cL_law (P + 6) = .ok (.iload 5, 2)) (d8 : decode cL_law (P + 8) = .ok (.if_icmp .eq 5, 3)) (d13 : decode cL_law (P + 13) = .ok (.iload 5, 2)) (d15 : decode cL_law (P + 15) = .ok (.ifCond .ne 15, 3)) (d18 : decode cL_law (P + 18) = .ok (.aload_n 3, 1)) (d19 : decode cL_law (P + 19) = .ok (.iconst 0, 1)) (d20 : decode cL_law (P + 20) = .ok (.laload, 1)) (d21 : decode cL_law (P + 21) = .ok (.iload 6, 2)) (d23 : decode cL_law (P + 23) = .ok (.i2l, 1)) (d24 : decode cL_law (P + 24) = .ok (.lcmp, 1)) (d25 : decode cL_law (P + 25) = .ok (.ifCond .eq 5, 3)) (d30 : decode cL_law (P + 30) = .ok (.goto off, 3)) (ht : ((P + 30 : Nat) : Int) + off = ((2147 : Nat) : Int))
    (k : ∀ (y5 y6 : Option Value) (f' : Int → Int), Rel M s f' → V Γ D Λ M κ 2147 [some (.ref b), some (.ref s), some (.ref (s + 217)), some (.ref (s + 224)), some (vi i), y5, y6] []) : V Γ D Λ M κ P [some (.ref b), some (.ref s), some (.ref (s + 217)), some (.ref (s + 224)), some (vi i), some (vi kk), y6] [vi b9] := by
  obtain ⟨g, ⟨hL, hL9, hJ⟩, -⟩ := id w
  obtain ⟨t1, t2, t3, f', hR⟩ := t
  rw [vi_nz b9]
  refine V_istore_6 (x := iI (nz b9)) g d0 (by decide) rfl rfl ?_
  refine V_aload_n g d2 rfl rfl ?_
  refine V_callVI_0 g (c_X5_thrown l hL9) d3 k_L_116 hL9.1 rfl rfl (rmL0 rfl hκ) rfl ⟨rfl, rfl⟩ rfl (fun z3 M3 e3 => ?_)
  obtain ⟨e3, rfl⟩ := e3
  rw [t1] at e3
  subst e3
  refine V_iload g d6 rfl rfl ?_
  refine V_icmp_eq (a := z3) (b := z3) (tgt := P + 13) g d8 (by omega) rfl (by omega) (by omega) (fun _ => ?_) (fun h => absurd rfl h)
  refine V_iload g d13 rfl rfl ?_
  have ke : V Γ D Λ M κ (P + 30) [some (.ref b), some (.ref s), some (.ref (s + 217)), some (.ref (s + 224)), some (vi i), some (vi z3), some (vi (nz b9))] [] := V_goto g d30 ht (k _ _ f' hR)
  refine V_if_ne (a := z3) (tgt := P + 30) g d15 (by omega) rfl (by omega) (fun _ => ke) (fun hk => ?_)
  refine V_aload_n g d18 rfl rfl ?_
  refine V_iconst g d19 rfl ?_
  refine V_laload g d20 rfl hJ (by decide) (by decide) ?_
  refine V_iload g d21 rfl rfl ?_
  have hb := nz_r b9
  refine V_i2l (a := nz b9) g d23 hb rfl ?_
  rw [t3 hk]
  refine V_lcmpx (a := nz b9) (b := nz b9) g d24 rfl (by omega) (by omega) (fun x hx => ?_)
  exact V_if_eq (a := x) (tgt := P + 30) g d25 (by omega) rfl (by omega) (fun _ => ke) (fun h => absurd (by omega) h)

set_option maxHeartbeats 4000000 in
set_option maxRecDepth 100000 in
theorem lw_append (hfl : l.stackTraces = false) {i : Int} {y5 y6 : Option Value} {f : Int → Int} (w : LC Γ D Λ l s b L xs) (hκ0 : κ.1 + 3 ≤ 601024 ∧ κ.2 + 18 ≤ 7293034) (hi : 0 ≤ i ∧ i + 5 ≤ L) (hR : Rel M s f) (k : ∀ (M2 : MM) (y5 y6 : Option Value) (f' : Int → Int), Rel M2 s f' → V Γ D Λ M2 (κ.1 + 3, κ.2 + 18) 2147 [some (.ref b), some (.ref s), some (.ref (s + 217)), some (.ref (s + 224)), some (vi i), y5, y6] []) : V Γ D Λ M κ 176 [some (.ref b), some (.ref s), some (.ref (s + 217)), some (.ref (s + 224)), some (vi i), y5, y6] [] := by
  obtain ⟨g, ⟨hL, hL9, hJ⟩, -⟩ := id w
  have hκ := hκ0
  refine V_aload_n (q := 177) g dL_law_176 rfl rfl ?_
  refine V_arg (q := 183) w dL_law_177 dL_law_178 dL_law_180 dL_law_181 dL_law_182 (by omega) rfl ?_
  refine V_aload_n (q := 184) g dL_law_183 rfl rfl ?_
  refine V_callHI_3 (q := 187) g (h_append l (c_X4_append l hfl hL hR.pz (sc_r _ _)) hL.1 hJ (fun E M1 h => by
    rcases h with ⟨-, h, -⟩ | ⟨-, -, h, -⟩
    · exact Or.inl h
    · exact Or.inr (h))) dL_law_184 k_L_110 (rmL rfl hκ) rfl rfl (fun z1 M1 e1 => ?_)
  refine V_wid (κ' := (κ.1 + 3, κ.2 + 18)) ⟨by show κ.1 + _ ≤ κ.1 + 3; exact Nat.add_le_add_left (by decide) _, by show κ.2 + _ ≤ κ.2 + 18; exact Nat.add_le_add_left (by decide) _⟩ ?_
  have hp := tp_append hR e1
  refine V_istore_5 (q := 189) g dL_law_187 (by decide) rfl rfl ?_
  refine V_aload_n (q := 190) g dL_law_189 rfl rfl ?_
  refine V_arg (q := 196) w dL_law_190 dL_law_191 dL_law_193 dL_law_194 dL_law_195 (by omega) rfl ?_
  refine V_callVI_1 (q := 199) g (c_X5_append l hL9 (hR.mO hp) hR.1.2.1 (sc_r _ _) (hR.mz hp)) dL_law_196 k_L_115 hL9.1 rfl rfl (rmL0 rfl hκ) rfl ⟨rfl, rfl⟩ rfl (fun z2 M2 e2 => ?_)
  exact V_tail (P := 199) (by decide) w hκ (tt_append hR e1 e2) dL_law_199 dL_law_201 dL_law_202 dL_law_205 dL_law_207 dL_law_212 dL_law_214 dL_law_217 dL_law_218 dL_law_219 dL_law_220 dL_law_222 dL_law_223 dL_law_224 dL_law_229 (by decide) (fun y5 y6 f' h9 => k M2 y5 y6 f' h9)
set_option maxHeartbeats 4000000 in
set_option maxRecDepth 100000 in
theorem lw_clearText (hfl : l.stackTraces = false) {i : Int} {y5 y6 : Option Value} {f : Int → Int} (w : LC Γ D Λ l s b L xs) (hκ0 : κ.1 + 3 ≤ 601024 ∧ κ.2 + 18 ≤ 7293034) (hi : 0 ≤ i ∧ i + 5 ≤ L) (hR : Rel M s f) (k : ∀ (M2 : MM) (y5 y6 : Option Value) (f' : Int → Int), Rel M2 s f' → V Γ D Λ M2 (κ.1 + 3, κ.2 + 18) 2147 [some (.ref b), some (.ref s), some (.ref (s + 217)), some (.ref (s + 224)), some (vi i), y5, y6] []) : V Γ D Λ M κ 232 [some (.ref b), some (.ref s), some (.ref (s + 217)), some (.ref (s + 224)), some (vi i), y5, y6] [] := by
  obtain ⟨g, ⟨hL, hL9, hJ⟩, -⟩ := id w
  have hκ := hκ0
  refine V_aload_n (q := 233) g dL_law_232 rfl rfl ?_
  refine V_callVI_0 (q := 236) g (c_X4_clearText l hL) dL_law_233 k_L_119 hL.1 rfl rfl (rmL0 rfl ⟨by omega, by omega⟩) rfl ⟨rfl, rfl⟩ rfl (fun z1 M1 e1 => ?_)
  refine V_wid (κ' := (κ.1 + 3, κ.2 + 18)) ⟨Nat.le_add_right _ _, Nat.le_add_right _ _⟩ ?_
  refine V_aload_n (q := 237) g dL_law_236 rfl rfl ?_
  refine V_callVI_0 (q := 240) g (c_X5_clearText l hL9) dL_law_237 k_L_122 hL9.1 rfl rfl (rmL0 rfl hκ) rfl ⟨rfl, rfl⟩ rfl (fun z2 M2 e2 => ?_)
  obtain ⟨ev, hr, f', h9⟩ := tt_clearText hR e1 e2
  exact V_icmp_eq (q := 243) (tgt := 2147) g dL_law_240 (by decide) rfl hr (by rw [← ev]; exact hr) (fun _ => k M2 _ _ f' h9) (fun h => absurd ev h)
set_option maxHeartbeats 4000000 in
set_option maxRecDepth 100000 in
theorem lw_errorPosition (hfl : l.stackTraces = false) {i : Int} {y5 y6 : Option Value} {f : Int → Int} (w : LC Γ D Λ l s b L xs) (hκ0 : κ.1 + 3 ≤ 601024 ∧ κ.2 + 18 ≤ 7293034) (hi : 0 ≤ i ∧ i + 5 ≤ L) (hR : Rel M s f) (k : ∀ (M2 : MM) (y5 y6 : Option Value) (f' : Int → Int), Rel M2 s f' → V Γ D Λ M2 (κ.1 + 3, κ.2 + 18) 2147 [some (.ref b), some (.ref s), some (.ref (s + 217)), some (.ref (s + 224)), some (vi i), y5, y6] []) : V Γ D Λ M κ 245 [some (.ref b), some (.ref s), some (.ref (s + 217)), some (.ref (s + 224)), some (vi i), y5, y6] [] := by
  obtain ⟨g, ⟨hL, hL9, hJ⟩, -⟩ := id w
  have hκ := hκ0
  refine V_aload_n (q := 246) g dL_law_245 rfl rfl ?_
  refine V_callVI_0 (q := 249) g (c_X4_errorPosition l hL hR.2.2.2.1 hR.2.2.2.2.1 hR.2.2.2.2.2) dL_law_246 k_L_123 hL.1 rfl rfl (rmL0 rfl ⟨by omega, by omega⟩) rfl ⟨rfl, rfl⟩ rfl (fun z1 M1 e1 => ?_)
  have hp : Pm M M1 s := by
    obtain ⟨-, p9, c9, h9⟩ := e1
    exact fun b h1 h2 => h9.2.2.2 b (by omega) (by omega)
  refine V_wid (κ' := (κ.1 + 3, κ.2 + 18)) ⟨Nat.le_add_right _ _, Nat.le_add_right _ _⟩ ?_
  refine V_aload_n (q := 250) g dL_law_249 rfl rfl ?_
  refine V_callVI_0 (q := 253) g (c_X5_errorPosition l hL9 (congrFun (hp _ (by omega) (by omega)) 2) (hp _ (by omega) (by omega)) hR.2.2.2.2.2) dL_law_250 k_L_126 hL9.1 rfl rfl (rmL0 rfl hκ) rfl ⟨rfl, rfl⟩ rfl (fun z2 M2 e2 => ?_)
  obtain ⟨ev, hr, f', h9⟩ := tt_errorPosition hR hR.2.2.2.2.2 e1 e2
  exact V_icmp_eq (q := 256) (tgt := 2147) g dL_law_253 (by decide) rfl hr (by rw [← ev]; exact hr) (fun _ => k M2 _ _ f' h9) (fun h => absurd ev h)
set_option maxHeartbeats 4000000 in
set_option maxRecDepth 100000 in
theorem lw_load (hfl : l.stackTraces = false) {i : Int} {y5 y6 : Option Value} {f : Int → Int} (w : LC Γ D Λ l s b L xs) (hκ0 : κ.1 + 3 ≤ 601024 ∧ κ.2 + 18 ≤ 7293034) (hi : 0 ≤ i ∧ i + 5 ≤ L) (hR : Rel M s f) (k : ∀ (M2 : MM) (y5 y6 : Option Value) (f' : Int → Int), Rel M2 s f' → V Γ D Λ M2 (κ.1 + 3, κ.2 + 18) 2147 [some (.ref b), some (.ref s), some (.ref (s + 217)), some (.ref (s + 224)), some (vi i), y5, y6] []) : V Γ D Λ M κ 258 [some (.ref b), some (.ref s), some (.ref (s + 217)), some (.ref (s + 224)), some (vi i), y5, y6] [] := by
  obtain ⟨g, ⟨hL, hL9, hJ⟩, -⟩ := id w
  have hκ := hκ0
  refine V_aload_n (q := 259) g dL_law_258 rfl rfl ?_
  refine V_aload_n (q := 260) g dL_law_259 rfl rfl ?_
  refine V_callHI_2 (q := 263) g (h_load l (c_X4_load l hfl hL hR.2.2.2.1 hR.2.2.2.2.1 hR.2.2.2.2.2) hL.1 hJ (fun E M1 h => by obtain ⟨-, h, -⟩ := h; exact h)) dL_law_260 k_L_127 (rmL rfl hκ) rfl rfl (fun z1 M1 e1 => ?_)
  refine V_wid (κ' := (κ.1 + 3, κ.2 + 18)) ⟨by show κ.1 + _ ≤ κ.1 + 3; exact Nat.add_le_add_left (by decide) _, by show κ.2 + _ ≤ κ.2 + 18; exact Nat.add_le_add_left (by decide) _⟩ ?_
  have hp := tp_load hR e1
  refine V_istore_5 (q := 265) g dL_law_263 (by decide) rfl rfl ?_
  refine V_aload_n (q := 266) g dL_law_265 rfl rfl ?_
  refine V_callVI_0 (q := 269) g (c_X5_load l hL9 (congrFun (hp _ (by omega) (by omega)) 2) (hp _ (by omega) (by omega)) hR.2.2.2.2.2) dL_law_266 k_L_130 hL9.1 rfl rfl (rmL0 rfl hκ) rfl ⟨rfl, rfl⟩ rfl (fun z2 M2 e2 => ?_)
  exact V_tail (P := 269) (by decide) w hκ (tt_load hR e1 e2) dL_law_269 dL_law_271 dL_law_272 dL_law_275 dL_law_277 dL_law_282 dL_law_284 dL_law_287 dL_law_288 dL_law_289 dL_law_290 dL_law_292 dL_law_293 dL_law_294 dL_law_299 (by decide) (fun y5 y6 f' h9 => k M2 y5 y6 f' h9)
set_option maxHeartbeats 4000000 in
set_option maxRecDepth 100000 in
theorem lw_about (hfl : l.stackTraces = false) {i : Int} {y5 y6 : Option Value} {f : Int → Int} (w : LC Γ D Λ l s b L xs) (hκ0 : κ.1 + 3 ≤ 601024 ∧ κ.2 + 18 ≤ 7293034) (hi : 0 ≤ i ∧ i + 5 ≤ L) (hR : Rel M s f) (k : ∀ (M2 : MM) (y5 y6 : Option Value) (f' : Int → Int), Rel M2 s f' → V Γ D Λ M2 (κ.1 + 3, κ.2 + 18) 2147 [some (.ref b), some (.ref s), some (.ref (s + 217)), some (.ref (s + 224)), some (vi i), y5, y6] []) : V Γ D Λ M κ 302 [some (.ref b), some (.ref s), some (.ref (s + 217)), some (.ref (s + 224)), some (vi i), y5, y6] [] := by
  obtain ⟨g, ⟨hL, hL9, hJ⟩, -⟩ := id w
  have hκ := hκ0
  refine V_aload_n (q := 303) g dL_law_302 rfl rfl ?_
  refine V_arg (q := 309) w dL_law_303 dL_law_304 dL_law_306 dL_law_307 dL_law_308 (by omega) rfl ?_
  refine V_aload_n (q := 310) g dL_law_309 rfl rfl ?_
  refine V_callHI_3 (q := 313) g (h_about l (c_X4_about l hfl hL hR.1.1 hR.1.2.1 (sc_r _ _)) hL.1 hJ (fun E M1 h => by obtain ⟨-, h, -⟩ := h; exact h)) dL_law_310 k_L_131 (rmL rfl hκ) rfl rfl (fun z1 M1 e1 => ?_)
  refine V_wid (κ' := (κ.1 + 3, κ.2 + 18)) ⟨by show κ.1 + _ ≤ κ.1 + 3; exact Nat.add_le_add_left (by decide) _, by show κ.2 + _ ≤ κ.2 + 18; exact Nat.add_le_add_left (by decide) _⟩ ?_
  have hp := tp_about hR e1
  refine V_istore_5 (q := 315) g dL_law_313 (by decide) rfl rfl ?_
  refine V_aload_n (q := 316) g dL_law_315 rfl rfl ?_
  refine V_arg (q := 322) w dL_law_316 dL_law_317 dL_law_319 dL_law_320 dL_law_321 (by omega) rfl ?_
  refine V_callVI_1 (q := 325) g (c_X5_about l hL9 (hR.mO hp) hR.1.2.1 (sc_r _ _)) dL_law_322 k_L_133 hL9.1 rfl rfl (rmL0 rfl hκ) rfl ⟨rfl, rfl⟩ rfl (fun z2 M2 e2 => ?_)
  exact V_tail (P := 325) (by decide) w hκ (tt_about hR e1 e2) dL_law_325 dL_law_327 dL_law_328 dL_law_331 dL_law_333 dL_law_338 dL_law_340 dL_law_343 dL_law_344 dL_law_345 dL_law_346 dL_law_348 dL_law_349 dL_law_350 dL_law_355 (by decide) (fun y5 y6 f' h9 => k M2 y5 y6 f' h9)
set_option maxHeartbeats 4000000 in
set_option maxRecDepth 100000 in
theorem lw_chairOf (hfl : l.stackTraces = false) {i : Int} {y5 y6 : Option Value} {f : Int → Int} (w : LC Γ D Λ l s b L xs) (hκ0 : κ.1 + 3 ≤ 601024 ∧ κ.2 + 18 ≤ 7293034) (hi : 0 ≤ i ∧ i + 5 ≤ L) (hR : Rel M s f) (k : ∀ (M2 : MM) (y5 y6 : Option Value) (f' : Int → Int), Rel M2 s f' → V Γ D Λ M2 (κ.1 + 3, κ.2 + 18) 2147 [some (.ref b), some (.ref s), some (.ref (s + 217)), some (.ref (s + 224)), some (vi i), y5, y6] []) : V Γ D Λ M κ 358 [some (.ref b), some (.ref s), some (.ref (s + 217)), some (.ref (s + 224)), some (vi i), y5, y6] [] := by
  obtain ⟨g, ⟨hL, hL9, hJ⟩, -⟩ := id w
  have hκ := hκ0
  refine V_aload_n (q := 359) g dL_law_358 rfl rfl ?_
  refine V_arg (q := 365) w dL_law_359 dL_law_360 dL_law_362 dL_law_363 dL_law_364 (by omega) rfl ?_
  refine V_arg (q := 371) w dL_law_365 dL_law_366 dL_law_368 dL_law_369 dL_law_370 (by omega) rfl ?_
  refine V_aload_n (q := 372) g dL_law_371 rfl rfl ?_
  refine V_callHI_4 (q := 375) g (h_chairOf l (c_X4_chairOf l hfl hL hR.1.1 hR.1.2.1 (sc_r _ _) (sc_r _ _)) hL.1 hJ (fun E M1 h => by
    rcases h with ⟨-, h, -⟩ | ⟨-, -, h, -⟩
    · exact Or.inl h
    · exact Or.inr (h))) dL_law_372 k_L_134 (rmL rfl hκ) rfl rfl (fun z1 M1 e1 => ?_)
  refine V_wid (κ' := (κ.1 + 3, κ.2 + 18)) ⟨by show κ.1 + _ ≤ κ.1 + 3; exact Nat.add_le_add_left (by decide) _, by show κ.2 + _ ≤ κ.2 + 18; exact Nat.add_le_add_left (by decide) _⟩ ?_
  have hp := tp_chairOf hR e1
  refine V_istore_5 (q := 377) g dL_law_375 (by decide) rfl rfl ?_
  refine V_aload_n (q := 378) g dL_law_377 rfl rfl ?_
  refine V_arg (q := 384) w dL_law_378 dL_law_379 dL_law_381 dL_law_382 dL_law_383 (by omega) rfl ?_
  refine V_arg (q := 390) w dL_law_384 dL_law_385 dL_law_387 dL_law_388 dL_law_389 (by omega) rfl ?_
  refine V_callVI_2 (q := 393) g (c_X5_chairOf l hL9 (hR.mO hp) hR.1.2.1 (sc_r _ _) (sc_r _ _)) dL_law_390 k_L_137 hL9.1 rfl rfl (rmL0 rfl hκ) rfl ⟨rfl, rfl⟩ rfl (fun z2 M2 e2 => ?_)
  exact V_tail (P := 393) (by decide) w hκ (tt_chairOf hR e1 e2) dL_law_393 dL_law_395 dL_law_396 dL_law_399 dL_law_401 dL_law_406 dL_law_408 dL_law_411 dL_law_412 dL_law_413 dL_law_414 dL_law_416 dL_law_417 dL_law_418 dL_law_423 (by decide) (fun y5 y6 f' h9 => k M2 y5 y6 f' h9)
set_option maxHeartbeats 4000000 in
set_option maxRecDepth 100000 in
theorem lw_wobble (hfl : l.stackTraces = false) {i : Int} {y5 y6 : Option Value} {f : Int → Int} (w : LC Γ D Λ l s b L xs) (hκ0 : κ.1 + 3 ≤ 601024 ∧ κ.2 + 18 ≤ 7293034) (hi : 0 ≤ i ∧ i + 5 ≤ L) (hR : Rel M s f) (k : ∀ (M2 : MM) (y5 y6 : Option Value) (f' : Int → Int), Rel M2 s f' → V Γ D Λ M2 (κ.1 + 3, κ.2 + 18) 2147 [some (.ref b), some (.ref s), some (.ref (s + 217)), some (.ref (s + 224)), some (vi i), y5, y6] []) : V Γ D Λ M κ 426 [some (.ref b), some (.ref s), some (.ref (s + 217)), some (.ref (s + 224)), some (vi i), y5, y6] [] := by
  obtain ⟨g, ⟨hL, hL9, hJ⟩, -⟩ := id w
  have hκ := hκ0
  refine V_aload_n (q := 427) g dL_law_426 rfl rfl ?_
  refine V_arg (q := 433) w dL_law_427 dL_law_428 dL_law_430 dL_law_431 dL_law_432 (by omega) rfl ?_
  refine V_arg (q := 439) w dL_law_433 dL_law_434 dL_law_436 dL_law_437 dL_law_438 (by omega) rfl ?_
  refine V_aload_n (q := 440) g dL_law_439 rfl rfl ?_
  refine V_callHI_4 (q := 443) g (h_wobble l (c_X4_wobble l hfl hL hR.1.1 hR.1.2.1 (sc_r _ _) (sc_r _ _)) hL.1 hJ (fun E M1 h => by
    rcases h with ⟨-, h, -⟩ | ⟨-, -, h, -⟩
    · exact Or.inl h
    · exact Or.inr (h))) dL_law_440 k_L_138 (rmL rfl hκ) rfl rfl (fun z1 M1 e1 => ?_)
  refine V_wid (κ' := (κ.1 + 3, κ.2 + 18)) ⟨by show κ.1 + _ ≤ κ.1 + 3; exact Nat.add_le_add_left (by decide) _, by show κ.2 + _ ≤ κ.2 + 18; exact Nat.add_le_add_left (by decide) _⟩ ?_
  have hp := tp_wobble hR e1
  refine V_istore_5 (q := 445) g dL_law_443 (by decide) rfl rfl ?_
  refine V_aload_n (q := 446) g dL_law_445 rfl rfl ?_
  refine V_arg (q := 452) w dL_law_446 dL_law_447 dL_law_449 dL_law_450 dL_law_451 (by omega) rfl ?_
  refine V_arg (q := 458) w dL_law_452 dL_law_453 dL_law_455 dL_law_456 dL_law_457 (by omega) rfl ?_
  refine V_callVI_2 (q := 461) g (c_X5_wobble l hL9 (hR.mO hp) hR.1.2.1 (sc_r _ _) (sc_r _ _)) dL_law_458 k_L_140 hL9.1 rfl rfl (rmL0 rfl hκ) rfl ⟨rfl, rfl⟩ rfl (fun z2 M2 e2 => ?_)
  exact V_tail (P := 461) (by decide) w hκ (tt_wobble hR e1 e2) dL_law_461 dL_law_463 dL_law_464 dL_law_467 dL_law_469 dL_law_474 dL_law_476 dL_law_479 dL_law_480 dL_law_481 dL_law_482 dL_law_484 dL_law_485 dL_law_486 dL_law_491 (by decide) (fun y5 y6 f' h9 => k M2 y5 y6 f' h9)
set_option maxHeartbeats 4000000 in
set_option maxRecDepth 100000 in
theorem lw_legOf (hfl : l.stackTraces = false) {i : Int} {y5 y6 : Option Value} {f : Int → Int} (w : LC Γ D Λ l s b L xs) (hκ0 : κ.1 + 3 ≤ 601024 ∧ κ.2 + 18 ≤ 7293034) (hi : 0 ≤ i ∧ i + 5 ≤ L) (hR : Rel M s f) (k : ∀ (M2 : MM) (y5 y6 : Option Value) (f' : Int → Int), Rel M2 s f' → V Γ D Λ M2 (κ.1 + 3, κ.2 + 18) 2147 [some (.ref b), some (.ref s), some (.ref (s + 217)), some (.ref (s + 224)), some (vi i), y5, y6] []) : V Γ D Λ M κ 494 [some (.ref b), some (.ref s), some (.ref (s + 217)), some (.ref (s + 224)), some (vi i), y5, y6] [] := by
  obtain ⟨g, ⟨hL, hL9, hJ⟩, -⟩ := id w
  have hκ := hκ0
  refine V_aload_n (q := 495) g dL_law_494 rfl rfl ?_
  refine V_arg (q := 501) w dL_law_495 dL_law_496 dL_law_498 dL_law_499 dL_law_500 (by omega) rfl ?_
  refine V_arg (q := 507) w dL_law_501 dL_law_502 dL_law_504 dL_law_505 dL_law_506 (by omega) rfl ?_
  refine V_arg (q := 513) w dL_law_507 dL_law_508 dL_law_510 dL_law_511 dL_law_512 (by omega) rfl ?_
  refine V_aload_n (q := 514) g dL_law_513 rfl rfl ?_
  refine V_callHI_5 (q := 517) g (h_legOf l (c_X4_legOf l hfl hL hR.1.1 hR.1.2.1 (sc_r _ _) (sc_r _ _) (sc_r _ _)) hL.1 hJ (fun E M1 h => by
    rcases h with ⟨-, h, -⟩ | ⟨-, -, h, -⟩
    · exact Or.inl h
    · exact Or.inr (h))) dL_law_514 k_L_141 (rmL rfl hκ) rfl rfl (fun z1 M1 e1 => ?_)
  refine V_wid (κ' := (κ.1 + 3, κ.2 + 18)) ⟨by show κ.1 + _ ≤ κ.1 + 3; exact Nat.add_le_add_left (by decide) _, by show κ.2 + _ ≤ κ.2 + 18; exact Nat.add_le_add_left (by decide) _⟩ ?_
  have hp := tp_legOf hR e1
  refine V_istore_5 (q := 519) g dL_law_517 (by decide) rfl rfl ?_
  refine V_aload_n (q := 520) g dL_law_519 rfl rfl ?_
  refine V_arg (q := 526) w dL_law_520 dL_law_521 dL_law_523 dL_law_524 dL_law_525 (by omega) rfl ?_
  refine V_arg (q := 532) w dL_law_526 dL_law_527 dL_law_529 dL_law_530 dL_law_531 (by omega) rfl ?_
  refine V_arg (q := 538) w dL_law_532 dL_law_533 dL_law_535 dL_law_536 dL_law_537 (by omega) rfl ?_
  refine V_callVI_3 (q := 541) g (c_X5_legOf l hL9 (hR.mO hp) hR.1.2.1 (sc_r _ _) (sc_r _ _) (sc_r _ _)) dL_law_538 k_L_144 hL9.1 rfl rfl (rmL0 rfl hκ) rfl ⟨rfl, rfl⟩ rfl (fun z2 M2 e2 => ?_)
  exact V_tail (P := 541) (by decide) w hκ (tt_legOf hR e1 e2) dL_law_541 dL_law_543 dL_law_544 dL_law_547 dL_law_549 dL_law_554 dL_law_556 dL_law_559 dL_law_560 dL_law_561 dL_law_562 dL_law_564 dL_law_565 dL_law_566 dL_law_571 (by decide) (fun y5 y6 f' h9 => k M2 y5 y6 f' h9)
set_option maxHeartbeats 4000000 in
set_option maxRecDepth 100000 in
theorem lw_spot (hfl : l.stackTraces = false) {i : Int} {y5 y6 : Option Value} {f : Int → Int} (w : LC Γ D Λ l s b L xs) (hκ0 : κ.1 + 3 ≤ 601024 ∧ κ.2 + 18 ≤ 7293034) (hi : 0 ≤ i ∧ i + 5 ≤ L) (hR : Rel M s f) (k : ∀ (M2 : MM) (y5 y6 : Option Value) (f' : Int → Int), Rel M2 s f' → V Γ D Λ M2 (κ.1 + 3, κ.2 + 18) 2147 [some (.ref b), some (.ref s), some (.ref (s + 217)), some (.ref (s + 224)), some (vi i), y5, y6] []) : V Γ D Λ M κ 574 [some (.ref b), some (.ref s), some (.ref (s + 217)), some (.ref (s + 224)), some (vi i), y5, y6] [] := by
  obtain ⟨g, ⟨hL, hL9, hJ⟩, -⟩ := id w
  have hκ := hκ0
  refine V_aload_n (q := 575) g dL_law_574 rfl rfl ?_
  refine V_arg (q := 581) w dL_law_575 dL_law_576 dL_law_578 dL_law_579 dL_law_580 (by omega) rfl ?_
  refine V_arg (q := 587) w dL_law_581 dL_law_582 dL_law_584 dL_law_585 dL_law_586 (by omega) rfl ?_
  refine V_aload_n (q := 588) g dL_law_587 rfl rfl ?_
  refine V_callHI_4 (q := 591) g (h_spot l (c_X4_spot l hfl hL hR.1.1 hR.1.2.1 (sc_r _ _) (sc_r _ _)) hL.1 hJ (fun E M1 h => by obtain ⟨-, h, -⟩ := h; exact h)) dL_law_588 k_L_145 (rmL rfl hκ) rfl rfl (fun z1 M1 e1 => ?_)
  refine V_wid (κ' := (κ.1 + 3, κ.2 + 18)) ⟨by show κ.1 + _ ≤ κ.1 + 3; exact Nat.add_le_add_left (by decide) _, by show κ.2 + _ ≤ κ.2 + 18; exact Nat.add_le_add_left (by decide) _⟩ ?_
  have hp := tp_spot hR e1
  refine V_istore_5 (q := 593) g dL_law_591 (by decide) rfl rfl ?_
  refine V_aload_n (q := 594) g dL_law_593 rfl rfl ?_
  refine V_arg (q := 600) w dL_law_594 dL_law_595 dL_law_597 dL_law_598 dL_law_599 (by omega) rfl ?_
  refine V_arg (q := 606) w dL_law_600 dL_law_601 dL_law_603 dL_law_604 dL_law_605 (by omega) rfl ?_
  refine V_callVI_2 (q := 609) g (c_X5_spot l hL9 (hR.mO hp) hR.1.2.1 (sc_r _ _) (sc_r _ _)) dL_law_606 k_L_147 hL9.1 rfl rfl (rmL0 rfl hκ) rfl ⟨rfl, rfl⟩ rfl (fun z2 M2 e2 => ?_)
  exact V_tail (P := 609) (by decide) w hκ (tt_spot hR e1 e2) dL_law_609 dL_law_611 dL_law_612 dL_law_615 dL_law_617 dL_law_622 dL_law_624 dL_law_627 dL_law_628 dL_law_629 dL_law_630 dL_law_632 dL_law_633 dL_law_634 dL_law_639 (by decide) (fun y5 y6 f' h9 => k M2 y5 y6 f' h9)
set_option maxHeartbeats 4000000 in
set_option maxRecDepth 100000 in
theorem lw_boundOf (hfl : l.stackTraces = false) {i : Int} {y5 y6 : Option Value} {f : Int → Int} (w : LC Γ D Λ l s b L xs) (hκ0 : κ.1 + 3 ≤ 601024 ∧ κ.2 + 18 ≤ 7293034) (hi : 0 ≤ i ∧ i + 5 ≤ L) (hR : Rel M s f) (k : ∀ (M2 : MM) (y5 y6 : Option Value) (f' : Int → Int), Rel M2 s f' → V Γ D Λ M2 (κ.1 + 3, κ.2 + 18) 2147 [some (.ref b), some (.ref s), some (.ref (s + 217)), some (.ref (s + 224)), some (vi i), y5, y6] []) : V Γ D Λ M κ 642 [some (.ref b), some (.ref s), some (.ref (s + 217)), some (.ref (s + 224)), some (vi i), y5, y6] [] := by
  obtain ⟨g, ⟨hL, hL9, hJ⟩, -⟩ := id w
  have hκ := hκ0
  refine V_aload_n (q := 643) g dL_law_642 rfl rfl ?_
  refine V_arg (q := 649) w dL_law_643 dL_law_644 dL_law_646 dL_law_647 dL_law_648 (by omega) rfl ?_
  refine V_arg (q := 655) w dL_law_649 dL_law_650 dL_law_652 dL_law_653 dL_law_654 (by omega) rfl ?_
  refine V_aload_n (q := 656) g dL_law_655 rfl rfl ?_
  refine V_callHI_4 (q := 659) g (h_boundOf l (c_X4_boundOf l hfl hL hR.1.1 hR.1.2.1 (sc_r _ _) (sc_r _ _)) hL.1 hJ (fun E M1 h => by obtain ⟨-, h, -⟩ := h; exact h)) dL_law_656 k_L_148 (rmL rfl hκ) rfl rfl (fun z1 M1 e1 => ?_)
  refine V_wid (κ' := (κ.1 + 3, κ.2 + 18)) ⟨by show κ.1 + _ ≤ κ.1 + 3; exact Nat.add_le_add_left (by decide) _, by show κ.2 + _ ≤ κ.2 + 18; exact Nat.add_le_add_left (by decide) _⟩ ?_
  have hp := tp_boundOf hR e1
  refine V_istore_5 (q := 661) g dL_law_659 (by decide) rfl rfl ?_
  refine V_aload_n (q := 662) g dL_law_661 rfl rfl ?_
  refine V_arg (q := 668) w dL_law_662 dL_law_663 dL_law_665 dL_law_666 dL_law_667 (by omega) rfl ?_
  refine V_arg (q := 674) w dL_law_668 dL_law_669 dL_law_671 dL_law_672 dL_law_673 (by omega) rfl ?_
  refine V_callVI_2 (q := 677) g (c_X5_boundOf l hL9 (hR.mO hp) hR.1.2.1 (sc_r _ _) (sc_r _ _)) dL_law_674 k_L_150 hL9.1 rfl rfl (rmL0 rfl hκ) rfl ⟨rfl, rfl⟩ rfl (fun z2 M2 e2 => ?_)
  exact V_tail (P := 677) (by decide) w hκ (tt_boundOf hR e1 e2) dL_law_677 dL_law_679 dL_law_680 dL_law_683 dL_law_685 dL_law_690 dL_law_692 dL_law_695 dL_law_696 dL_law_697 dL_law_698 dL_law_700 dL_law_701 dL_law_702 dL_law_707 (by decide) (fun y5 y6 f' h9 => k M2 y5 y6 f' h9)
set_option maxHeartbeats 4000000 in
set_option maxRecDepth 100000 in
theorem lw_setting (hfl : l.stackTraces = false) {i : Int} {y5 y6 : Option Value} {f : Int → Int} (w : LC Γ D Λ l s b L xs) (hκ0 : κ.1 + 3 ≤ 601024 ∧ κ.2 + 18 ≤ 7293034) (hi : 0 ≤ i ∧ i + 5 ≤ L) (hR : Rel M s f) (k : ∀ (M2 : MM) (y5 y6 : Option Value) (f' : Int → Int), Rel M2 s f' → V Γ D Λ M2 (κ.1 + 3, κ.2 + 18) 2147 [some (.ref b), some (.ref s), some (.ref (s + 217)), some (.ref (s + 224)), some (vi i), y5, y6] []) : V Γ D Λ M κ 710 [some (.ref b), some (.ref s), some (.ref (s + 217)), some (.ref (s + 224)), some (vi i), y5, y6] [] := by
  obtain ⟨g, ⟨hL, hL9, hJ⟩, -⟩ := id w
  have hκ := hκ0
  refine V_aload_n (q := 711) g dL_law_710 rfl rfl ?_
  refine V_arg (q := 717) w dL_law_711 dL_law_712 dL_law_714 dL_law_715 dL_law_716 (by omega) rfl ?_
  refine V_aload_n (q := 718) g dL_law_717 rfl rfl ?_
  refine V_callHI_3 (q := 721) g (h_setting l (c_X4_setting l hfl hL hR.1.1 hR.1.2.1 (sc_r _ _)) hL.1 hJ (fun E M1 h => by obtain ⟨-, h, -⟩ := h; exact h)) dL_law_718 k_L_151 (rmL rfl hκ) rfl rfl (fun z1 M1 e1 => ?_)
  refine V_wid (κ' := (κ.1 + 3, κ.2 + 18)) ⟨by show κ.1 + _ ≤ κ.1 + 3; exact Nat.add_le_add_left (by decide) _, by show κ.2 + _ ≤ κ.2 + 18; exact Nat.add_le_add_left (by decide) _⟩ ?_
  have hp := tp_setting hR e1
  refine V_istore_5 (q := 723) g dL_law_721 (by decide) rfl rfl ?_
  refine V_aload_n (q := 724) g dL_law_723 rfl rfl ?_
  refine V_arg (q := 730) w dL_law_724 dL_law_725 dL_law_727 dL_law_728 dL_law_729 (by omega) rfl ?_
  refine V_callVI_1 (q := 733) g (c_X5_setting l hL9 (hR.mO hp) hR.1.2.1 (sc_r _ _)) dL_law_730 k_L_153 hL9.1 rfl rfl (rmL0 rfl hκ) rfl ⟨rfl, rfl⟩ rfl (fun z2 M2 e2 => ?_)
  exact V_tail (P := 733) (by decide) w hκ (tt_setting hR e1 e2) dL_law_733 dL_law_735 dL_law_736 dL_law_739 dL_law_741 dL_law_746 dL_law_748 dL_law_751 dL_law_752 dL_law_753 dL_law_754 dL_law_756 dL_law_757 dL_law_758 dL_law_763 (by decide) (fun y5 y6 f' h9 => k M2 y5 y6 f' h9)
set_option maxHeartbeats 4000000 in
set_option maxRecDepth 100000 in
theorem lw_chair (hfl : l.stackTraces = false) {i : Int} {y5 y6 : Option Value} {f : Int → Int} (w : LC Γ D Λ l s b L xs) (hκ0 : κ.1 + 3 ≤ 601024 ∧ κ.2 + 18 ≤ 7293034) (hi : 0 ≤ i ∧ i + 5 ≤ L) (hR : Rel M s f) (k : ∀ (M2 : MM) (y5 y6 : Option Value) (f' : Int → Int), Rel M2 s f' → V Γ D Λ M2 (κ.1 + 3, κ.2 + 18) 2147 [some (.ref b), some (.ref s), some (.ref (s + 217)), some (.ref (s + 224)), some (vi i), y5, y6] []) : V Γ D Λ M κ 766 [some (.ref b), some (.ref s), some (.ref (s + 217)), some (.ref (s + 224)), some (vi i), y5, y6] [] := by
  obtain ⟨g, ⟨hL, hL9, hJ⟩, -⟩ := id w
  have hκ := hκ0
  refine V_aload_n (q := 767) g dL_law_766 rfl rfl ?_
  refine V_arg (q := 773) w dL_law_767 dL_law_768 dL_law_770 dL_law_771 dL_law_772 (by omega) rfl ?_
  refine V_arg (q := 779) w dL_law_773 dL_law_774 dL_law_776 dL_law_777 dL_law_778 (by omega) rfl ?_
  refine V_aload_n (q := 780) g dL_law_779 rfl rfl ?_
  refine V_callHI_4 (q := 783) g (h_chair l (c_X4_chair l hfl hL hR.1.1 hR.1.2.1 hR.2.1.1 hR.2.1.2.1 (sc_r _ _) (sc_r _ _)) hL.1 hJ (fun E M1 h => by
    rcases h with ⟨-, h, -⟩ | ⟨-, -, h, -⟩ | ⟨-, -, -, h, -⟩
    · exact Or.inl h
    · exact Or.inr (Or.inl h)
    · exact Or.inr (Or.inr (h)))) dL_law_780 k_L_154 (rmL rfl hκ) rfl rfl (fun z1 M1 e1 => ?_)
  refine V_wid (κ' := (κ.1 + 3, κ.2 + 18)) ⟨by show κ.1 + _ ≤ κ.1 + 3; exact Nat.add_le_add_left (by decide) _, by show κ.2 + _ ≤ κ.2 + 18; exact Nat.add_le_add_left (by decide) _⟩ ?_
  have hp := tp_chair hR e1
  refine V_istore_5 (q := 785) g dL_law_783 (by decide) rfl rfl ?_
  refine V_aload_n (q := 786) g dL_law_785 rfl rfl ?_
  refine V_arg (q := 792) w dL_law_786 dL_law_787 dL_law_789 dL_law_790 dL_law_791 (by omega) rfl ?_
  refine V_arg (q := 798) w dL_law_792 dL_law_793 dL_law_795 dL_law_796 dL_law_797 (by omega) rfl ?_
  refine V_callVI_2 (q := 801) g (c_X5_chair l hL9 (hR.mO hp) hR.1.2.1 (hR.mac hp) (sc_r _ _) (sc_r _ _)) dL_law_798 k_L_156 hL9.1 rfl rfl (rmL0 rfl hκ) rfl ⟨rfl, rfl⟩ rfl (fun z2 M2 e2 => ?_)
  exact V_tail (P := 801) (by decide) w hκ (tt_chair hR e1 e2) dL_law_801 dL_law_803 dL_law_804 dL_law_807 dL_law_809 dL_law_814 dL_law_816 dL_law_819 dL_law_820 dL_law_821 dL_law_822 dL_law_824 dL_law_825 dL_law_826 dL_law_831 (by decide) (fun y5 y6 f' h9 => k M2 y5 y6 f' h9)
set_option maxHeartbeats 4000000 in
set_option maxRecDepth 100000 in
theorem lw_floor (hfl : l.stackTraces = false) {i : Int} {y5 y6 : Option Value} {f : Int → Int} (w : LC Γ D Λ l s b L xs) (hκ0 : κ.1 + 3 ≤ 601024 ∧ κ.2 + 18 ≤ 7293034) (hi : 0 ≤ i ∧ i + 5 ≤ L) (hR : Rel M s f) (k : ∀ (M2 : MM) (y5 y6 : Option Value) (f' : Int → Int), Rel M2 s f' → V Γ D Λ M2 (κ.1 + 3, κ.2 + 18) 2147 [some (.ref b), some (.ref s), some (.ref (s + 217)), some (.ref (s + 224)), some (vi i), y5, y6] []) : V Γ D Λ M κ 834 [some (.ref b), some (.ref s), some (.ref (s + 217)), some (.ref (s + 224)), some (vi i), y5, y6] [] := by
  obtain ⟨g, ⟨hL, hL9, hJ⟩, -⟩ := id w
  have hκ := hκ0
  refine V_aload_n (q := 835) g dL_law_834 rfl rfl ?_
  refine V_arg (q := 841) w dL_law_835 dL_law_836 dL_law_838 dL_law_839 dL_law_840 (by omega) rfl ?_
  refine V_arg (q := 847) w dL_law_841 dL_law_842 dL_law_844 dL_law_845 dL_law_846 (by omega) rfl ?_
  refine V_arg (q := 853) w dL_law_847 dL_law_848 dL_law_850 dL_law_851 dL_law_852 (by omega) rfl ?_
  refine V_arg (q := 859) w dL_law_853 dL_law_854 dL_law_856 dL_law_857 dL_law_858 (by omega) rfl ?_
  refine V_aload_n (q := 860) g dL_law_859 rfl rfl ?_
  refine V_callHI_6 (q := 863) g (h_floor l (c_X4_floor l hfl hL hR.1.1 hR.1.2.1 hR.2.1.1 hR.2.1.2.1 (sc_r _ _) (sc_r _ _) (sc_r _ _) (sc_r _ _)) hL.1 hJ (fun E M1 h => by
    rcases h with ⟨-, h, -⟩ | ⟨-, -, h, -⟩
    · exact Or.inl h
    · exact Or.inr (h))) dL_law_860 k_L_157 (rmL rfl hκ) rfl rfl (fun z1 M1 e1 => ?_)
  refine V_wid (κ' := (κ.1 + 3, κ.2 + 18)) ⟨by show κ.1 + _ ≤ κ.1 + 3; exact Nat.add_le_add_left (by decide) _, by show κ.2 + _ ≤ κ.2 + 18; exact Nat.add_le_add_left (by decide) _⟩ ?_
  have hp := tp_floor hR e1
  refine V_istore_5 (q := 865) g dL_law_863 (by decide) rfl rfl ?_
  refine V_aload_n (q := 866) g dL_law_865 rfl rfl ?_
  refine V_arg (q := 872) w dL_law_866 dL_law_867 dL_law_869 dL_law_870 dL_law_871 (by omega) rfl ?_
  refine V_arg (q := 878) w dL_law_872 dL_law_873 dL_law_875 dL_law_876 dL_law_877 (by omega) rfl ?_
  refine V_arg (q := 884) w dL_law_878 dL_law_879 dL_law_881 dL_law_882 dL_law_883 (by omega) rfl ?_
  refine V_arg (q := 890) w dL_law_884 dL_law_885 dL_law_887 dL_law_888 dL_law_889 (by omega) rfl ?_
  refine V_callVI_4 (q := 893) g (c_X5_floor l hL9 (hR.mO hp) hR.1.2.1 (hR.mac hp) (sc_r _ _) (sc_r _ _) (sc_r _ _) (sc_r _ _)) dL_law_890 k_L_160 hL9.1 rfl rfl (rmL0 rfl hκ) rfl ⟨rfl, rfl⟩ rfl (fun z2 M2 e2 => ?_)
  exact V_tail (P := 893) (by decide) w hκ (tt_floor hR e1 e2) dL_law_893 dL_law_895 dL_law_896 dL_law_899 dL_law_901 dL_law_906 dL_law_908 dL_law_911 dL_law_912 dL_law_913 dL_law_914 dL_law_916 dL_law_917 dL_law_918 dL_law_923 (by decide) (fun y5 y6 f' h9 => k M2 y5 y6 f' h9)
set_option maxHeartbeats 4000000 in
set_option maxRecDepth 100000 in
theorem lw_level (hfl : l.stackTraces = false) {i : Int} {y5 y6 : Option Value} {f : Int → Int} (w : LC Γ D Λ l s b L xs) (hκ0 : κ.1 + 3 ≤ 601024 ∧ κ.2 + 18 ≤ 7293034) (hi : 0 ≤ i ∧ i + 5 ≤ L) (hR : Rel M s f) (k : ∀ (M2 : MM) (y5 y6 : Option Value) (f' : Int → Int), Rel M2 s f' → V Γ D Λ M2 (κ.1 + 3, κ.2 + 18) 2147 [some (.ref b), some (.ref s), some (.ref (s + 217)), some (.ref (s + 224)), some (vi i), y5, y6] []) : V Γ D Λ M κ 926 [some (.ref b), some (.ref s), some (.ref (s + 217)), some (.ref (s + 224)), some (vi i), y5, y6] [] := by
  obtain ⟨g, ⟨hL, hL9, hJ⟩, -⟩ := id w
  have hκ := hκ0
  refine V_aload_n (q := 927) g dL_law_926 rfl rfl ?_
  refine V_arg (q := 933) w dL_law_927 dL_law_928 dL_law_930 dL_law_931 dL_law_932 (by omega) rfl ?_
  refine V_arg (q := 939) w dL_law_933 dL_law_934 dL_law_936 dL_law_937 dL_law_938 (by omega) rfl ?_
  refine V_arg (q := 945) w dL_law_939 dL_law_940 dL_law_942 dL_law_943 dL_law_944 (by omega) rfl ?_
  refine V_aload_n (q := 946) g dL_law_945 rfl rfl ?_
  refine V_callHI_5 (q := 949) g (h_level l (c_X4_level l hfl hL hR.1.1 hR.1.2.1 hR.2.1.1 hR.2.1.2.1 (sc_r _ _) (sc_r _ _) (sc_r _ _)) hL.1 hJ (fun E M1 h => by
    rcases h with ⟨-, h, -⟩ | ⟨-, -, h, -⟩
    · exact Or.inl h
    · exact Or.inr (h))) dL_law_946 k_L_161 (rmL rfl hκ) rfl rfl (fun z1 M1 e1 => ?_)
  refine V_wid (κ' := (κ.1 + 3, κ.2 + 18)) ⟨by show κ.1 + _ ≤ κ.1 + 3; exact Nat.add_le_add_left (by decide) _, by show κ.2 + _ ≤ κ.2 + 18; exact Nat.add_le_add_left (by decide) _⟩ ?_
  have hp := tp_level hR e1
  refine V_istore_5 (q := 951) g dL_law_949 (by decide) rfl rfl ?_
  refine V_aload_n (q := 952) g dL_law_951 rfl rfl ?_
  refine V_arg (q := 958) w dL_law_952 dL_law_953 dL_law_955 dL_law_956 dL_law_957 (by omega) rfl ?_
  refine V_arg (q := 964) w dL_law_958 dL_law_959 dL_law_961 dL_law_962 dL_law_963 (by omega) rfl ?_
  refine V_arg (q := 970) w dL_law_964 dL_law_965 dL_law_967 dL_law_968 dL_law_969 (by omega) rfl ?_
  refine V_callVI_3 (q := 973) g (c_X5_level l hL9 (hR.mO hp) hR.1.2.1 (hR.mac hp) (sc_r _ _) (sc_r _ _) (sc_r _ _)) dL_law_970 k_L_163 hL9.1 rfl rfl (rmL0 rfl hκ) rfl ⟨rfl, rfl⟩ rfl (fun z2 M2 e2 => ?_)
  exact V_tail (P := 973) (by decide) w hκ (tt_level hR e1 e2) dL_law_973 dL_law_975 dL_law_976 dL_law_979 dL_law_981 dL_law_986 dL_law_988 dL_law_991 dL_law_992 dL_law_993 dL_law_994 dL_law_996 dL_law_997 dL_law_998 dL_law_1003 (by decide) (fun y5 y6 f' h9 => k M2 y5 y6 f' h9)
set_option maxHeartbeats 4000000 in
set_option maxRecDepth 100000 in
theorem lw_bring (hfl : l.stackTraces = false) {i : Int} {y5 y6 : Option Value} {f : Int → Int} (w : LC Γ D Λ l s b L xs) (hκ0 : κ.1 + 3 ≤ 601024 ∧ κ.2 + 18 ≤ 7293034) (hi : 0 ≤ i ∧ i + 5 ≤ L) (hR : Rel M s f) (k : ∀ (M2 : MM) (y5 y6 : Option Value) (f' : Int → Int), Rel M2 s f' → V Γ D Λ M2 (κ.1 + 3, κ.2 + 18) 2147 [some (.ref b), some (.ref s), some (.ref (s + 217)), some (.ref (s + 224)), some (vi i), y5, y6] []) : V Γ D Λ M κ 1006 [some (.ref b), some (.ref s), some (.ref (s + 217)), some (.ref (s + 224)), some (vi i), y5, y6] [] := by
  obtain ⟨g, ⟨hL, hL9, hJ⟩, -⟩ := id w
  have hκ := hκ0
  refine V_aload_n (q := 1007) g dL_law_1006 rfl rfl ?_
  refine V_arg (q := 1013) w dL_law_1007 dL_law_1008 dL_law_1010 dL_law_1011 dL_law_1012 (by omega) rfl ?_
  refine V_arg (q := 1019) w dL_law_1013 dL_law_1014 dL_law_1016 dL_law_1017 dL_law_1018 (by omega) rfl ?_
  refine V_arg (q := 1025) w dL_law_1019 dL_law_1020 dL_law_1022 dL_law_1023 dL_law_1024 (by omega) rfl ?_
  refine V_aload_n (q := 1026) g dL_law_1025 rfl rfl ?_
  refine V_callHI_5 (q := 1029) g (h_bring l (c_X4_bring l hfl hL hR.1.1 hR.1.2.1 hR.2.1.1 hR.2.1.2.1 (sc_r _ _) (sc_r _ _) (sc_r _ _)) hL.1 hJ (fun E M1 h => by
    rcases h with ⟨-, h, -⟩ | ⟨-, -, h, -⟩
    · exact Or.inl h
    · exact Or.inr (h))) dL_law_1026 k_L_164 (rmL rfl hκ) rfl rfl (fun z1 M1 e1 => ?_)
  refine V_wid (κ' := (κ.1 + 3, κ.2 + 18)) ⟨by show κ.1 + _ ≤ κ.1 + 3; exact Nat.add_le_add_left (by decide) _, by show κ.2 + _ ≤ κ.2 + 18; exact Nat.add_le_add_left (by decide) _⟩ ?_
  have hp := tp_bring hR e1
  refine V_istore_5 (q := 1031) g dL_law_1029 (by decide) rfl rfl ?_
  refine V_aload_n (q := 1032) g dL_law_1031 rfl rfl ?_
  refine V_arg (q := 1038) w dL_law_1032 dL_law_1033 dL_law_1035 dL_law_1036 dL_law_1037 (by omega) rfl ?_
  refine V_arg (q := 1044) w dL_law_1038 dL_law_1039 dL_law_1041 dL_law_1042 dL_law_1043 (by omega) rfl ?_
  refine V_arg (q := 1050) w dL_law_1044 dL_law_1045 dL_law_1047 dL_law_1048 dL_law_1049 (by omega) rfl ?_
  refine V_callVI_3 (q := 1053) g (c_X5_bring l hL9 (hR.mO hp) hR.1.2.1 (hR.mac hp) (sc_r _ _) (sc_r _ _) (sc_r _ _)) dL_law_1050 k_L_166 hL9.1 rfl rfl (rmL0 rfl hκ) rfl ⟨rfl, rfl⟩ rfl (fun z2 M2 e2 => ?_)
  exact V_tail (P := 1053) (by decide) w hκ (tt_bring hR e1 e2) dL_law_1053 dL_law_1055 dL_law_1056 dL_law_1059 dL_law_1061 dL_law_1066 dL_law_1068 dL_law_1071 dL_law_1072 dL_law_1073 dL_law_1074 dL_law_1076 dL_law_1077 dL_law_1078 dL_law_1083 (by decide) (fun y5 y6 f' h9 => k M2 y5 y6 f' h9)
set_option maxHeartbeats 4000000 in
set_option maxRecDepth 100000 in
theorem lw_saw (hfl : l.stackTraces = false) {i : Int} {y5 y6 : Option Value} {f : Int → Int} (w : LC Γ D Λ l s b L xs) (hκ0 : κ.1 + 3 ≤ 601024 ∧ κ.2 + 18 ≤ 7293034) (hi : 0 ≤ i ∧ i + 5 ≤ L) (hR : Rel M s f) (k : ∀ (M2 : MM) (y5 y6 : Option Value) (f' : Int → Int), Rel M2 s f' → V Γ D Λ M2 (κ.1 + 3, κ.2 + 18) 2147 [some (.ref b), some (.ref s), some (.ref (s + 217)), some (.ref (s + 224)), some (vi i), y5, y6] []) : V Γ D Λ M κ 1086 [some (.ref b), some (.ref s), some (.ref (s + 217)), some (.ref (s + 224)), some (vi i), y5, y6] [] := by
  obtain ⟨g, ⟨hL, hL9, hJ⟩, -⟩ := id w
  have hκ := hκ0
  refine V_aload_n (q := 1087) g dL_law_1086 rfl rfl ?_
  refine V_arg (q := 1093) w dL_law_1087 dL_law_1088 dL_law_1090 dL_law_1091 dL_law_1092 (by omega) rfl ?_
  refine V_arg (q := 1099) w dL_law_1093 dL_law_1094 dL_law_1096 dL_law_1097 dL_law_1098 (by omega) rfl ?_
  refine V_arg (q := 1105) w dL_law_1099 dL_law_1100 dL_law_1102 dL_law_1103 dL_law_1104 (by omega) rfl ?_
  refine V_aload_n (q := 1106) g dL_law_1105 rfl rfl ?_
  refine V_callHI_5 (q := 1109) g (h_saw l (c_X4_saw l hfl hL hR.1.1 hR.1.2.1 hR.2.1.1 hR.2.1.2.1 (sc_r _ _) (sc_r _ _) (sc_r _ _)) hL.1 hJ (fun E M1 h => by
    rcases h with ⟨-, h, -⟩ | ⟨-, -, h, -⟩ | ⟨-, -, -, h, -⟩
    · exact Or.inl h
    · exact Or.inr (Or.inl h)
    · exact Or.inr (Or.inr (h)))) dL_law_1106 k_L_167 (rmL rfl hκ) rfl rfl (fun z1 M1 e1 => ?_)
  refine V_wid (κ' := (κ.1 + 3, κ.2 + 18)) ⟨by show κ.1 + _ ≤ κ.1 + 3; exact Nat.add_le_add_left (by decide) _, by show κ.2 + _ ≤ κ.2 + 18; exact Nat.add_le_add_left (by decide) _⟩ ?_
  have hp := tp_saw hR e1
  refine V_istore_5 (q := 1111) g dL_law_1109 (by decide) rfl rfl ?_
  refine V_aload_n (q := 1112) g dL_law_1111 rfl rfl ?_
  refine V_arg (q := 1118) w dL_law_1112 dL_law_1113 dL_law_1115 dL_law_1116 dL_law_1117 (by omega) rfl ?_
  refine V_arg (q := 1124) w dL_law_1118 dL_law_1119 dL_law_1121 dL_law_1122 dL_law_1123 (by omega) rfl ?_
  refine V_arg (q := 1130) w dL_law_1124 dL_law_1125 dL_law_1127 dL_law_1128 dL_law_1129 (by omega) rfl ?_
  refine V_callVI_3 (q := 1133) g (c_X5_saw l hL9 (hR.mO hp) hR.1.2.1 (hR.mac hp) (sc_r _ _) (sc_r _ _) (sc_r _ _)) dL_law_1130 k_L_169 hL9.1 rfl rfl (rmL0 rfl hκ) rfl ⟨rfl, rfl⟩ rfl (fun z2 M2 e2 => ?_)
  exact V_tail (P := 1133) (by decide) w hκ (tt_saw hR e1 e2) dL_law_1133 dL_law_1135 dL_law_1136 dL_law_1139 dL_law_1141 dL_law_1146 dL_law_1148 dL_law_1151 dL_law_1152 dL_law_1153 dL_law_1154 dL_law_1156 dL_law_1157 dL_law_1158 dL_law_1163 (by decide) (fun y5 y6 f' h9 => k M2 y5 y6 f' h9)
set_option maxHeartbeats 4000000 in
set_option maxRecDepth 100000 in
theorem lw_shim (hfl : l.stackTraces = false) {i : Int} {y5 y6 : Option Value} {f : Int → Int} (w : LC Γ D Λ l s b L xs) (hκ0 : κ.1 + 3 ≤ 601024 ∧ κ.2 + 18 ≤ 7293034) (hi : 0 ≤ i ∧ i + 5 ≤ L) (hR : Rel M s f) (k : ∀ (M2 : MM) (y5 y6 : Option Value) (f' : Int → Int), Rel M2 s f' → V Γ D Λ M2 (κ.1 + 3, κ.2 + 18) 2147 [some (.ref b), some (.ref s), some (.ref (s + 217)), some (.ref (s + 224)), some (vi i), y5, y6] []) : V Γ D Λ M κ 1166 [some (.ref b), some (.ref s), some (.ref (s + 217)), some (.ref (s + 224)), some (vi i), y5, y6] [] := by
  obtain ⟨g, ⟨hL, hL9, hJ⟩, -⟩ := id w
  have hκ := hκ0
  refine V_aload_n (q := 1167) g dL_law_1166 rfl rfl ?_
  refine V_arg (q := 1173) w dL_law_1167 dL_law_1168 dL_law_1170 dL_law_1171 dL_law_1172 (by omega) rfl ?_
  refine V_arg (q := 1179) w dL_law_1173 dL_law_1174 dL_law_1176 dL_law_1177 dL_law_1178 (by omega) rfl ?_
  refine V_arg (q := 1185) w dL_law_1179 dL_law_1180 dL_law_1182 dL_law_1183 dL_law_1184 (by omega) rfl ?_
  refine V_aload_n (q := 1186) g dL_law_1185 rfl rfl ?_
  refine V_callHI_5 (q := 1189) g (h_shim l (c_X4_shim l hfl hL hR.1.1 hR.1.2.1 hR.2.1.1 hR.2.1.2.1 (sc_r _ _) (sc_r _ _) (sc_r _ _)) hL.1 hJ (fun E M1 h => by
    rcases h with ⟨-, h, -⟩ | ⟨-, -, h, -⟩ | ⟨-, -, -, h, -⟩
    · exact Or.inl h
    · exact Or.inr (Or.inl h)
    · exact Or.inr (Or.inr (h)))) dL_law_1186 k_L_170 (rmL rfl hκ) rfl rfl (fun z1 M1 e1 => ?_)
  refine V_wid (κ' := (κ.1 + 3, κ.2 + 18)) ⟨by show κ.1 + _ ≤ κ.1 + 3; exact Nat.add_le_add_left (by decide) _, by show κ.2 + _ ≤ κ.2 + 18; exact Nat.add_le_add_left (by decide) _⟩ ?_
  have hp := tp_shim hR e1
  refine V_istore_5 (q := 1191) g dL_law_1189 (by decide) rfl rfl ?_
  refine V_aload_n (q := 1192) g dL_law_1191 rfl rfl ?_
  refine V_arg (q := 1198) w dL_law_1192 dL_law_1193 dL_law_1195 dL_law_1196 dL_law_1197 (by omega) rfl ?_
  refine V_arg (q := 1204) w dL_law_1198 dL_law_1199 dL_law_1201 dL_law_1202 dL_law_1203 (by omega) rfl ?_
  refine V_arg (q := 1210) w dL_law_1204 dL_law_1205 dL_law_1207 dL_law_1208 dL_law_1209 (by omega) rfl ?_
  refine V_callVI_3 (q := 1213) g (c_X5_shim l hL9 (hR.mO hp) hR.1.2.1 (hR.mac hp) (sc_r _ _) (sc_r _ _) (sc_r _ _)) dL_law_1210 k_L_172 hL9.1 rfl rfl (rmL0 rfl hκ) rfl ⟨rfl, rfl⟩ rfl (fun z2 M2 e2 => ?_)
  exact V_tail (P := 1213) (by decide) w hκ (tt_shim hR e1 e2) dL_law_1213 dL_law_1215 dL_law_1216 dL_law_1219 dL_law_1221 dL_law_1226 dL_law_1228 dL_law_1231 dL_law_1232 dL_law_1233 dL_law_1234 dL_law_1236 dL_law_1237 dL_law_1238 dL_law_1243 (by decide) (fun y5 y6 f' h9 => k M2 y5 y6 f' h9)
set_option maxHeartbeats 4000000 in
set_option maxRecDepth 100000 in
theorem lw_test (hfl : l.stackTraces = false) {i : Int} {y5 y6 : Option Value} {f : Int → Int} (w : LC Γ D Λ l s b L xs) (hκ0 : κ.1 + 3 ≤ 601024 ∧ κ.2 + 18 ≤ 7293034) (hi : 0 ≤ i ∧ i + 5 ≤ L) (hR : Rel M s f) (k : ∀ (M2 : MM) (y5 y6 : Option Value) (f' : Int → Int), Rel M2 s f' → V Γ D Λ M2 (κ.1 + 3, κ.2 + 18) 2147 [some (.ref b), some (.ref s), some (.ref (s + 217)), some (.ref (s + 224)), some (vi i), y5, y6] []) : V Γ D Λ M κ 1246 [some (.ref b), some (.ref s), some (.ref (s + 217)), some (.ref (s + 224)), some (vi i), y5, y6] [] := by
  obtain ⟨g, ⟨hL, hL9, hJ⟩, -⟩ := id w
  have hκ := hκ0
  refine V_aload_n (q := 1247) g dL_law_1246 rfl rfl ?_
  refine V_arg (q := 1253) w dL_law_1247 dL_law_1248 dL_law_1250 dL_law_1251 dL_law_1252 (by omega) rfl ?_
  refine V_aload_n (q := 1254) g dL_law_1253 rfl rfl ?_
  refine V_callHI_3 (q := 1257) g (h_test l (c_X4_test l hfl hL hR.1.1 hR.1.2.1 hR.2.1.1 hR.2.1.2.1 (sc_r _ _)) hL.1 hJ (fun E M1 h => by obtain ⟨-, h, -⟩ := h; exact h)) dL_law_1254 k_L_173 (rmL rfl hκ) rfl rfl (fun z1 M1 e1 => ?_)
  refine V_wid (κ' := (κ.1 + 3, κ.2 + 18)) ⟨by show κ.1 + _ ≤ κ.1 + 3; exact Nat.add_le_add_left (by decide) _, by show κ.2 + _ ≤ κ.2 + 18; exact Nat.add_le_add_left (by decide) _⟩ ?_
  have hp := tp_test hR e1
  refine V_istore_5 (q := 1259) g dL_law_1257 (by decide) rfl rfl ?_
  refine V_aload_n (q := 1260) g dL_law_1259 rfl rfl ?_
  refine V_arg (q := 1266) w dL_law_1260 dL_law_1261 dL_law_1263 dL_law_1264 dL_law_1265 (by omega) rfl ?_
  refine V_callVI_1 (q := 1269) g (c_X5_test l hL9 (hR.mO hp) hR.1.2.1 (hR.mac hp) (sc_r _ _)) dL_law_1266 k_L_175 hL9.1 rfl rfl (rmL0 rfl hκ) rfl ⟨rfl, rfl⟩ rfl (fun z2 M2 e2 => ?_)
  exact V_tail (P := 1269) (by decide) w hκ (tt_test hR e1 e2) dL_law_1269 dL_law_1271 dL_law_1272 dL_law_1275 dL_law_1277 dL_law_1282 dL_law_1284 dL_law_1287 dL_law_1288 dL_law_1289 dL_law_1290 dL_law_1292 dL_law_1293 dL_law_1294 dL_law_1299 (by decide) (fun y5 y6 f' h9 => k M2 y5 y6 f' h9)
set_option maxHeartbeats 4000000 in
set_option maxRecDepth 100000 in
theorem lw_sit (hfl : l.stackTraces = false) {i : Int} {y5 y6 : Option Value} {f : Int → Int} (w : LC Γ D Λ l s b L xs) (hκ0 : κ.1 + 3 ≤ 601024 ∧ κ.2 + 18 ≤ 7293034) (hi : 0 ≤ i ∧ i + 5 ≤ L) (hR : Rel M s f) (k : ∀ (M2 : MM) (y5 y6 : Option Value) (f' : Int → Int), Rel M2 s f' → V Γ D Λ M2 (κ.1 + 3, κ.2 + 18) 2147 [some (.ref b), some (.ref s), some (.ref (s + 217)), some (.ref (s + 224)), some (vi i), y5, y6] []) : V Γ D Λ M κ 1302 [some (.ref b), some (.ref s), some (.ref (s + 217)), some (.ref (s + 224)), some (vi i), y5, y6] [] := by
  obtain ⟨g, ⟨hL, hL9, hJ⟩, -⟩ := id w
  have hκ := hκ0
  refine V_aload_n (q := 1303) g dL_law_1302 rfl rfl ?_
  refine V_arg (q := 1309) w dL_law_1303 dL_law_1304 dL_law_1306 dL_law_1307 dL_law_1308 (by omega) rfl ?_
  refine V_arg (q := 1315) w dL_law_1309 dL_law_1310 dL_law_1312 dL_law_1313 dL_law_1314 (by omega) rfl ?_
  refine V_aload_n (q := 1316) g dL_law_1315 rfl rfl ?_
  refine V_callHI_4 (q := 1319) g (h_sit l (c_X4_sit l hfl hL hR.1.1 hR.1.2.1 hR.2.1.1 hR.2.1.2.1 (sc_r _ _) (sc_r _ _)) hL.1 hJ (fun E M1 h => by
    rcases h with ⟨-, h, -⟩ | ⟨-, -, h, -⟩
    · exact Or.inl h
    · exact Or.inr (h))) dL_law_1316 k_L_176 (rmL rfl hκ) rfl rfl (fun z1 M1 e1 => ?_)
  refine V_wid (κ' := (κ.1 + 3, κ.2 + 18)) ⟨by show κ.1 + _ ≤ κ.1 + 3; exact Nat.add_le_add_left (by decide) _, by show κ.2 + _ ≤ κ.2 + 18; exact Nat.add_le_add_left (by decide) _⟩ ?_
  have hp := tp_sit hR e1
  refine V_istore_5 (q := 1321) g dL_law_1319 (by decide) rfl rfl ?_
  refine V_aload_n (q := 1322) g dL_law_1321 rfl rfl ?_
  refine V_arg (q := 1328) w dL_law_1322 dL_law_1323 dL_law_1325 dL_law_1326 dL_law_1327 (by omega) rfl ?_
  refine V_arg (q := 1334) w dL_law_1328 dL_law_1329 dL_law_1331 dL_law_1332 dL_law_1333 (by omega) rfl ?_
  refine V_callVI_2 (q := 1337) g (c_X5_sit l hL9 (hR.mO hp) hR.1.2.1 (hR.mac hp) (sc_r _ _) (sc_r _ _)) dL_law_1334 k_L_178 hL9.1 rfl rfl (rmL0 rfl hκ) rfl ⟨rfl, rfl⟩ rfl (fun z2 M2 e2 => ?_)
  exact V_tail (P := 1337) (by decide) w hκ (tt_sit hR e1 e2) dL_law_1337 dL_law_1339 dL_law_1340 dL_law_1343 dL_law_1345 dL_law_1350 dL_law_1352 dL_law_1355 dL_law_1356 dL_law_1357 dL_law_1358 dL_law_1360 dL_law_1361 dL_law_1362 dL_law_1367 (by decide) (fun y5 y6 f' h9 => k M2 y5 y6 f' h9)
set_option maxHeartbeats 4000000 in
set_option maxRecDepth 100000 in
theorem lw_bound (hfl : l.stackTraces = false) {i : Int} {y5 y6 : Option Value} {f : Int → Int} (w : LC Γ D Λ l s b L xs) (hκ0 : κ.1 + 3 ≤ 601024 ∧ κ.2 + 18 ≤ 7293034) (hi : 0 ≤ i ∧ i + 5 ≤ L) (hR : Rel M s f) (k : ∀ (M2 : MM) (y5 y6 : Option Value) (f' : Int → Int), Rel M2 s f' → V Γ D Λ M2 (κ.1 + 3, κ.2 + 18) 2147 [some (.ref b), some (.ref s), some (.ref (s + 217)), some (.ref (s + 224)), some (vi i), y5, y6] []) : V Γ D Λ M κ 1370 [some (.ref b), some (.ref s), some (.ref (s + 217)), some (.ref (s + 224)), some (vi i), y5, y6] [] := by
  obtain ⟨g, ⟨hL, hL9, hJ⟩, -⟩ := id w
  have hκ := hκ0
  refine V_aload_n (q := 1371) g dL_law_1370 rfl rfl ?_
  refine V_arg (q := 1377) w dL_law_1371 dL_law_1372 dL_law_1374 dL_law_1375 dL_law_1376 (by omega) rfl ?_
  refine V_arg (q := 1383) w dL_law_1377 dL_law_1378 dL_law_1380 dL_law_1381 dL_law_1382 (by omega) rfl ?_
  refine V_arg (q := 1389) w dL_law_1383 dL_law_1384 dL_law_1386 dL_law_1387 dL_law_1388 (by omega) rfl ?_
  refine V_aload_n (q := 1390) g dL_law_1389 rfl rfl ?_
  refine V_callHI_5 (q := 1393) g (h_bound l (c_X4_bound l hfl hL hR.1.1 hR.1.2.1 hR.2.1.1 hR.2.1.2.1 (sc_r _ _) (sc_r _ _) (sc_r _ _)) hL.1 hJ (fun E M1 h => by
    rcases h with ⟨-, h, -⟩ | ⟨-, -, h, -⟩
    · exact Or.inl h
    · exact Or.inr (h))) dL_law_1390 k_L_179 (rmL rfl hκ) rfl rfl (fun z1 M1 e1 => ?_)
  refine V_wid (κ' := (κ.1 + 3, κ.2 + 18)) ⟨by show κ.1 + _ ≤ κ.1 + 3; exact Nat.add_le_add_left (by decide) _, by show κ.2 + _ ≤ κ.2 + 18; exact Nat.add_le_add_left (by decide) _⟩ ?_
  have hp := tp_bound hR e1
  refine V_istore_5 (q := 1395) g dL_law_1393 (by decide) rfl rfl ?_
  refine V_aload_n (q := 1396) g dL_law_1395 rfl rfl ?_
  refine V_arg (q := 1402) w dL_law_1396 dL_law_1397 dL_law_1399 dL_law_1400 dL_law_1401 (by omega) rfl ?_
  refine V_arg (q := 1408) w dL_law_1402 dL_law_1403 dL_law_1405 dL_law_1406 dL_law_1407 (by omega) rfl ?_
  refine V_arg (q := 1414) w dL_law_1408 dL_law_1409 dL_law_1411 dL_law_1412 dL_law_1413 (by omega) rfl ?_
  refine V_callVI_3 (q := 1417) g (c_X5_bound l hL9 (hR.mO hp) hR.1.2.1 (hR.mac hp) (sc_r _ _) (sc_r _ _) (sc_r _ _)) dL_law_1414 k_L_181 hL9.1 rfl rfl (rmL0 rfl hκ) rfl ⟨rfl, rfl⟩ rfl (fun z2 M2 e2 => ?_)
  exact V_tail (P := 1417) (by decide) w hκ (tt_bound hR e1 e2) dL_law_1417 dL_law_1419 dL_law_1420 dL_law_1423 dL_law_1425 dL_law_1430 dL_law_1432 dL_law_1435 dL_law_1436 dL_law_1437 dL_law_1438 dL_law_1440 dL_law_1441 dL_law_1442 dL_law_1447 (by decide) (fun y5 y6 f' h9 => k M2 y5 y6 f' h9)
set_option maxHeartbeats 4000000 in
set_option maxRecDepth 100000 in
theorem lw_set (hfl : l.stackTraces = false) {i : Int} {y5 y6 : Option Value} {f : Int → Int} (w : LC Γ D Λ l s b L xs) (hκ0 : κ.1 + 3 ≤ 601024 ∧ κ.2 + 18 ≤ 7293034) (hi : 0 ≤ i ∧ i + 5 ≤ L) (hR : Rel M s f) (k : ∀ (M2 : MM) (y5 y6 : Option Value) (f' : Int → Int), Rel M2 s f' → V Γ D Λ M2 (κ.1 + 3, κ.2 + 18) 2147 [some (.ref b), some (.ref s), some (.ref (s + 217)), some (.ref (s + 224)), some (vi i), y5, y6] []) : V Γ D Λ M κ 1450 [some (.ref b), some (.ref s), some (.ref (s + 217)), some (.ref (s + 224)), some (vi i), y5, y6] [] := by
  obtain ⟨g, ⟨hL, hL9, hJ⟩, -⟩ := id w
  have hκ := hκ0
  refine V_aload_n (q := 1451) g dL_law_1450 rfl rfl ?_
  refine V_arg (q := 1457) w dL_law_1451 dL_law_1452 dL_law_1454 dL_law_1455 dL_law_1456 (by omega) rfl ?_
  refine V_arg (q := 1463) w dL_law_1457 dL_law_1458 dL_law_1460 dL_law_1461 dL_law_1462 (by omega) rfl ?_
  refine V_aload_n (q := 1464) g dL_law_1463 rfl rfl ?_
  refine V_callHI_4 (q := 1467) g (h_set l (c_X4_set l hfl hL hR.1.1 hR.1.2.1 hR.2.1.1 hR.2.1.2.1 (sc_r _ _) (sc_r _ _)) hL.1 hJ (fun E M1 h => by obtain ⟨-, h, -⟩ := h; exact h)) dL_law_1464 k_L_182 (rmL rfl hκ) rfl rfl (fun z1 M1 e1 => ?_)
  refine V_wid (κ' := (κ.1 + 3, κ.2 + 18)) ⟨by show κ.1 + _ ≤ κ.1 + 3; exact Nat.add_le_add_left (by decide) _, by show κ.2 + _ ≤ κ.2 + 18; exact Nat.add_le_add_left (by decide) _⟩ ?_
  have hp := tp_set hR e1
  refine V_istore_5 (q := 1469) g dL_law_1467 (by decide) rfl rfl ?_
  refine V_aload_n (q := 1470) g dL_law_1469 rfl rfl ?_
  refine V_arg (q := 1476) w dL_law_1470 dL_law_1471 dL_law_1473 dL_law_1474 dL_law_1475 (by omega) rfl ?_
  refine V_arg (q := 1482) w dL_law_1476 dL_law_1477 dL_law_1479 dL_law_1480 dL_law_1481 (by omega) rfl ?_
  refine V_callVI_2 (q := 1485) g (c_X5_set l hL9 (hR.mO hp) hR.1.2.1 (hR.mac hp) (sc_r _ _) (sc_r _ _)) dL_law_1482 k_L_184 hL9.1 rfl rfl (rmL0 rfl hκ) rfl ⟨rfl, rfl⟩ rfl (fun z2 M2 e2 => ?_)
  exact V_tail (P := 1485) (by decide) w hκ (tt_set hR e1 e2) dL_law_1485 dL_law_1487 dL_law_1488 dL_law_1491 dL_law_1493 dL_law_1498 dL_law_1500 dL_law_1503 dL_law_1504 dL_law_1505 dL_law_1506 dL_law_1508 dL_law_1509 dL_law_1510 dL_law_1515 (by decide) (fun y5 y6 f' h9 => k M2 y5 y6 f' h9)
set_option maxHeartbeats 4000000 in
set_option maxRecDepth 100000 in
theorem lw_undo (hfl : l.stackTraces = false) {i : Int} {y5 y6 : Option Value} {f : Int → Int} (w : LC Γ D Λ l s b L xs) (hκ0 : κ.1 + 3 ≤ 601024 ∧ κ.2 + 18 ≤ 7293034) (hi : 0 ≤ i ∧ i + 5 ≤ L) (hR : Rel M s f) (k : ∀ (M2 : MM) (y5 y6 : Option Value) (f' : Int → Int), Rel M2 s f' → V Γ D Λ M2 (κ.1 + 3, κ.2 + 18) 2147 [some (.ref b), some (.ref s), some (.ref (s + 217)), some (.ref (s + 224)), some (vi i), y5, y6] []) : V Γ D Λ M κ 1518 [some (.ref b), some (.ref s), some (.ref (s + 217)), some (.ref (s + 224)), some (vi i), y5, y6] [] := by
  obtain ⟨g, ⟨hL, hL9, hJ⟩, -⟩ := id w
  have hκ := hκ0
  refine V_aload_n (q := 1519) g dL_law_1518 rfl rfl ?_
  refine V_aload_n (q := 1520) g dL_law_1519 rfl rfl ?_
  refine V_callHI_2 (q := 1523) g (h_undo l (c_X4_undo l hfl hL hR.2.1.1 hR.2.1.2.1 hR.pB) hL.1 hJ (fun E M1 h => by obtain ⟨-, h, -⟩ := h; exact h)) dL_law_1520 k_L_185 (rmL rfl hκ) rfl rfl (fun z1 M1 e1 => ?_)
  refine V_wid (κ' := (κ.1 + 3, κ.2 + 18)) ⟨by show κ.1 + _ ≤ κ.1 + 3; exact Nat.add_le_add_left (by decide) _, by show κ.2 + _ ≤ κ.2 + 18; exact Nat.add_le_add_left (by decide) _⟩ ?_
  have hp := tp_undo hR e1
  refine V_istore_5 (q := 1525) g dL_law_1523 (by decide) rfl rfl ?_
  refine V_aload_n (q := 1526) g dL_law_1525 rfl rfl ?_
  refine V_callVI_0 (q := 1529) g (c_X5_undo l hL9 (hR.mO hp) hR.1.2.1 (hR.mac hp)) dL_law_1526 k_L_187 hL9.1 rfl rfl (rmL0 rfl hκ) rfl ⟨rfl, rfl⟩ rfl (fun z2 M2 e2 => ?_)
  exact V_tail (P := 1529) (by decide) w hκ (tt_undo hR e1 rfl e2) dL_law_1529 dL_law_1531 dL_law_1532 dL_law_1535 dL_law_1537 dL_law_1542 dL_law_1544 dL_law_1547 dL_law_1548 dL_law_1549 dL_law_1550 dL_law_1552 dL_law_1553 dL_law_1554 dL_law_1559 (by decide) (fun y5 y6 f' h9 => k M2 y5 y6 f' h9)
set_option maxHeartbeats 4000000 in
set_option maxRecDepth 100000 in
theorem lw_bestTurn (hfl : l.stackTraces = false) {i : Int} {y5 y6 : Option Value} {f : Int → Int} (w : LC Γ D Λ l s b L xs) (hκ0 : κ.1 + 3 ≤ 601024 ∧ κ.2 + 18 ≤ 7293034) (hi : 0 ≤ i ∧ i + 5 ≤ L) (hR : Rel M s f) (k : ∀ (M2 : MM) (y5 y6 : Option Value) (f' : Int → Int), Rel M2 s f' → V Γ D Λ M2 (κ.1 + 3, κ.2 + 18) 2147 [some (.ref b), some (.ref s), some (.ref (s + 217)), some (.ref (s + 224)), some (vi i), y5, y6] []) : V Γ D Λ M κ 1562 [some (.ref b), some (.ref s), some (.ref (s + 217)), some (.ref (s + 224)), some (vi i), y5, y6] [] := by
  obtain ⟨g, ⟨hL, hL9, hJ⟩, -⟩ := id w
  have hκ := hκ0
  refine V_aload_n (q := 1563) g dL_law_1562 rfl rfl ?_
  refine V_arg (q := 1569) w dL_law_1563 dL_law_1564 dL_law_1566 dL_law_1567 dL_law_1568 (by omega) rfl ?_
  refine V_arg (q := 1575) w dL_law_1569 dL_law_1570 dL_law_1572 dL_law_1573 dL_law_1574 (by omega) rfl ?_
  refine V_arg (q := 1581) w dL_law_1575 dL_law_1576 dL_law_1578 dL_law_1579 dL_law_1580 (by omega) rfl ?_
  refine V_aload_n (q := 1582) g dL_law_1581 rfl rfl ?_
  refine V_callHI_5 (q := 1585) g (h_bestTurn l (c_X4_bestTurn l hfl hL hR.1.1 hR.1.2.1 (sc_r _ _) (sc_r _ _) (sc_r _ _)) hL.1 hJ (fun E M1 h => by
    rcases h with ⟨-, h, -⟩ | ⟨-, -, h, -⟩
    · exact Or.inl h
    · exact Or.inr (h))) dL_law_1582 k_L_188 (rmL rfl hκ) rfl rfl (fun z1 M1 e1 => ?_)
  refine V_wid (κ' := (κ.1 + 3, κ.2 + 18)) ⟨by show κ.1 + _ ≤ κ.1 + 3; exact Nat.add_le_add_left (by decide) _, by show κ.2 + _ ≤ κ.2 + 18; exact Nat.add_le_add_left (by decide) _⟩ ?_
  have hp := tp_bestTurn hR e1
  refine V_istore_5 (q := 1587) g dL_law_1585 (by decide) rfl rfl ?_
  refine V_aload_n (q := 1588) g dL_law_1587 rfl rfl ?_
  refine V_arg (q := 1594) w dL_law_1588 dL_law_1589 dL_law_1591 dL_law_1592 dL_law_1593 (by omega) rfl ?_
  refine V_arg (q := 1600) w dL_law_1594 dL_law_1595 dL_law_1597 dL_law_1598 dL_law_1599 (by omega) rfl ?_
  refine V_arg (q := 1606) w dL_law_1600 dL_law_1601 dL_law_1603 dL_law_1604 dL_law_1605 (by omega) rfl ?_
  refine V_callVI_3 (q := 1609) g (c_X5_bestTurn l hL9 (hR.mO hp) hR.1.2.1 (sc_r _ _) (sc_r _ _) (sc_r _ _)) dL_law_1606 k_L_190 hL9.1 rfl rfl (rmL0 rfl hκ) rfl ⟨rfl, rfl⟩ rfl (fun z2 M2 e2 => ?_)
  exact V_tail (P := 1609) (by decide) w hκ (tt_bestTurn hR e1 e2) dL_law_1609 dL_law_1611 dL_law_1612 dL_law_1615 dL_law_1617 dL_law_1622 dL_law_1624 dL_law_1627 dL_law_1628 dL_law_1629 dL_law_1630 dL_law_1632 dL_law_1633 dL_law_1634 dL_law_1639 (by decide) (fun y5 y6 f' h9 => k M2 y5 y6 f' h9)
set_option maxHeartbeats 4000000 in
set_option maxRecDepth 100000 in
theorem lw_bestSaw (hfl : l.stackTraces = false) {i : Int} {y5 y6 : Option Value} {f : Int → Int} (w : LC Γ D Λ l s b L xs) (hκ0 : κ.1 + 3 ≤ 601024 ∧ κ.2 + 18 ≤ 7293034) (hi : 0 ≤ i ∧ i + 5 ≤ L) (hR : Rel M s f) (k : ∀ (M2 : MM) (y5 y6 : Option Value) (f' : Int → Int), Rel M2 s f' → V Γ D Λ M2 (κ.1 + 3, κ.2 + 18) 2147 [some (.ref b), some (.ref s), some (.ref (s + 217)), some (.ref (s + 224)), some (vi i), y5, y6] []) : V Γ D Λ M κ 1642 [some (.ref b), some (.ref s), some (.ref (s + 217)), some (.ref (s + 224)), some (vi i), y5, y6] [] := by
  obtain ⟨g, ⟨hL, hL9, hJ⟩, -⟩ := id w
  have hκ := hκ0
  refine V_aload_n (q := 1643) g dL_law_1642 rfl rfl ?_
  refine V_arg (q := 1649) w dL_law_1643 dL_law_1644 dL_law_1646 dL_law_1647 dL_law_1648 (by omega) rfl ?_
  refine V_aload_n (q := 1650) g dL_law_1649 rfl rfl ?_
  refine V_callHI_3 (q := 1653) g (h_bestSaw l (c_X4_bestSaw l hfl hL hR.1.1 hR.1.2.1 (sc_r _ _)) hL.1 hJ (fun E M1 h => by obtain ⟨-, h, -⟩ := h; exact h)) dL_law_1650 k_L_191 (rmL rfl hκ) rfl rfl (fun z1 M1 e1 => ?_)
  refine V_wid (κ' := (κ.1 + 3, κ.2 + 18)) ⟨by show κ.1 + _ ≤ κ.1 + 3; exact Nat.add_le_add_left (by decide) _, by show κ.2 + _ ≤ κ.2 + 18; exact Nat.add_le_add_left (by decide) _⟩ ?_
  have hp := tp_bestSaw hR e1
  refine V_istore_5 (q := 1655) g dL_law_1653 (by decide) rfl rfl ?_
  refine V_aload_n (q := 1656) g dL_law_1655 rfl rfl ?_
  refine V_arg (q := 1662) w dL_law_1656 dL_law_1657 dL_law_1659 dL_law_1660 dL_law_1661 (by omega) rfl ?_
  refine V_callVI_1 (q := 1665) g (c_X5_bestSaw l hL9 (hR.mO hp) hR.1.2.1 (sc_r _ _)) dL_law_1662 k_L_193 hL9.1 rfl rfl (rmL0 rfl hκ) rfl ⟨rfl, rfl⟩ rfl (fun z2 M2 e2 => ?_)
  exact V_tail (P := 1665) (by decide) w hκ (tt_bestSaw hR e1 e2) dL_law_1665 dL_law_1667 dL_law_1668 dL_law_1671 dL_law_1673 dL_law_1678 dL_law_1680 dL_law_1683 dL_law_1684 dL_law_1685 dL_law_1686 dL_law_1688 dL_law_1689 dL_law_1690 dL_law_1695 (by decide) (fun y5 y6 f' h9 => k M2 y5 y6 f' h9)
set_option maxHeartbeats 4000000 in
set_option maxRecDepth 100000 in
theorem lw_failsIn (hfl : l.stackTraces = false) {i : Int} {y5 y6 : Option Value} {f : Int → Int} (w : LC Γ D Λ l s b L xs) (hκ0 : κ.1 + 3 ≤ 601024 ∧ κ.2 + 18 ≤ 7293034) (hi : 0 ≤ i ∧ i + 5 ≤ L) (hR : Rel M s f) (k : ∀ (M2 : MM) (y5 y6 : Option Value) (f' : Int → Int), Rel M2 s f' → V Γ D Λ M2 (κ.1 + 3, κ.2 + 18) 2147 [some (.ref b), some (.ref s), some (.ref (s + 217)), some (.ref (s + 224)), some (vi i), y5, y6] []) : V Γ D Λ M κ 1698 [some (.ref b), some (.ref s), some (.ref (s + 217)), some (.ref (s + 224)), some (vi i), y5, y6] [] := by
  obtain ⟨g, ⟨hL, hL9, hJ⟩, -⟩ := id w
  have hκ := hκ0
  refine V_aload_n (q := 1699) g dL_law_1698 rfl rfl ?_
  refine V_arg (q := 1705) w dL_law_1699 dL_law_1700 dL_law_1702 dL_law_1703 dL_law_1704 (by omega) rfl ?_
  refine V_arg (q := 1711) w dL_law_1705 dL_law_1706 dL_law_1708 dL_law_1709 dL_law_1710 (by omega) rfl ?_
  refine V_aload_n (q := 1712) g dL_law_1711 rfl rfl ?_
  refine V_callHI_4 (q := 1715) g (h_failsIn l (c_X4_failsIn l hfl hL hR.1.1 hR.1.2.1 (sc_r _ _) (sc_r _ _)) hL.1 hJ (fun E M1 h => by
    rcases h with ⟨-, h, -⟩ | ⟨-, -, h, -⟩
    · exact Or.inl h
    · exact Or.inr (h))) dL_law_1712 k_L_194 (rmL rfl hκ) rfl rfl (fun z1 M1 e1 => ?_)
  refine V_wid (κ' := (κ.1 + 3, κ.2 + 18)) ⟨by show κ.1 + _ ≤ κ.1 + 3; exact Nat.add_le_add_left (by decide) _, by show κ.2 + _ ≤ κ.2 + 18; exact Nat.add_le_add_left (by decide) _⟩ ?_
  have hp := tp_failsIn hR e1
  refine V_istore_5 (q := 1717) g dL_law_1715 (by decide) rfl rfl ?_
  refine V_aload_n (q := 1718) g dL_law_1717 rfl rfl ?_
  refine V_arg (q := 1724) w dL_law_1718 dL_law_1719 dL_law_1721 dL_law_1722 dL_law_1723 (by omega) rfl ?_
  refine V_arg (q := 1730) w dL_law_1724 dL_law_1725 dL_law_1727 dL_law_1728 dL_law_1729 (by omega) rfl ?_
  refine V_callVI_2 (q := 1733) g (c_X5_failsIn l hL9 (hR.mO hp) hR.1.2.1 (sc_r _ _) (sc_r _ _)) dL_law_1730 k_L_196 hL9.1 rfl rfl (rmL0 rfl hκ) rfl ⟨rfl, rfl⟩ rfl (fun z2 M2 e2 => ?_)
  exact V_tail (P := 1733) (by decide) w hκ (tt_failsIn hR e1 e2) dL_law_1733 dL_law_1735 dL_law_1736 dL_law_1739 dL_law_1741 dL_law_1746 dL_law_1748 dL_law_1751 dL_law_1752 dL_law_1753 dL_law_1754 dL_law_1756 dL_law_1757 dL_law_1758 dL_law_1763 (by decide) (fun y5 y6 f' h9 => k M2 y5 y6 f' h9)
set_option maxHeartbeats 4000000 in
set_option maxRecDepth 100000 in
theorem lw_bestFloor (hfl : l.stackTraces = false) {i : Int} {y5 y6 : Option Value} {f : Int → Int} (w : LC Γ D Λ l s b L xs) (hκ0 : κ.1 + 3 ≤ 601024 ∧ κ.2 + 18 ≤ 7293034) (hi : 0 ≤ i ∧ i + 5 ≤ L) (hR : Rel M s f) (k : ∀ (M2 : MM) (y5 y6 : Option Value) (f' : Int → Int), Rel M2 s f' → V Γ D Λ M2 (κ.1 + 3, κ.2 + 18) 2147 [some (.ref b), some (.ref s), some (.ref (s + 217)), some (.ref (s + 224)), some (vi i), y5, y6] []) : V Γ D Λ M κ 1766 [some (.ref b), some (.ref s), some (.ref (s + 217)), some (.ref (s + 224)), some (vi i), y5, y6] [] := by
  obtain ⟨g, ⟨hL, hL9, hJ⟩, -⟩ := id w
  have hκ := hκ0
  refine V_aload_n (q := 1767) g dL_law_1766 rfl rfl ?_
  refine V_arg (q := 1773) w dL_law_1767 dL_law_1768 dL_law_1770 dL_law_1771 dL_law_1772 (by omega) rfl ?_
  refine V_aload_n (q := 1774) g dL_law_1773 rfl rfl ?_
  refine V_callHI_3 (q := 1777) g (h_bestFloor l (c_X4_bestFloor l hfl hL hR.1.1 hR.1.2.1 (sc_r _ _)) hL.1 hJ (fun E M1 h => by obtain ⟨-, h, -⟩ := h; exact h)) dL_law_1774 k_L_197 (rmL rfl hκ) rfl rfl (fun z1 M1 e1 => ?_)
  refine V_wid (κ' := (κ.1 + 3, κ.2 + 18)) ⟨by show κ.1 + _ ≤ κ.1 + 3; exact Nat.add_le_add_left (by decide) _, by show κ.2 + _ ≤ κ.2 + 18; exact Nat.add_le_add_left (by decide) _⟩ ?_
  have hp := tp_bestFloor hR e1
  refine V_istore_5 (q := 1779) g dL_law_1777 (by decide) rfl rfl ?_
  refine V_aload_n (q := 1780) g dL_law_1779 rfl rfl ?_
  refine V_arg (q := 1786) w dL_law_1780 dL_law_1781 dL_law_1783 dL_law_1784 dL_law_1785 (by omega) rfl ?_
  refine V_callVI_1 (q := 1789) g (c_X5_bestFloor l hL9 (hR.mO hp) hR.1.2.1 (sc_r _ _)) dL_law_1786 k_L_199 hL9.1 rfl rfl (rmL0 rfl hκ) rfl ⟨rfl, rfl⟩ rfl (fun z2 M2 e2 => ?_)
  exact V_tail (P := 1789) (by decide) w hκ (tt_bestFloor hR e1 e2) dL_law_1789 dL_law_1791 dL_law_1792 dL_law_1795 dL_law_1797 dL_law_1802 dL_law_1804 dL_law_1807 dL_law_1808 dL_law_1809 dL_law_1810 dL_law_1812 dL_law_1813 dL_law_1814 dL_law_1819 (by decide) (fun y5 y6 f' h9 => k M2 y5 y6 f' h9)
set_option maxHeartbeats 4000000 in
set_option maxRecDepth 100000 in
theorem lw_sound (hfl : l.stackTraces = false) {i : Int} {y5 y6 : Option Value} {f : Int → Int} (w : LC Γ D Λ l s b L xs) (hκ0 : κ.1 + 3 ≤ 601024 ∧ κ.2 + 18 ≤ 7293034) (hi : 0 ≤ i ∧ i + 5 ≤ L) (hR : Rel M s f) (k : ∀ (M2 : MM) (y5 y6 : Option Value) (f' : Int → Int), Rel M2 s f' → V Γ D Λ M2 (κ.1 + 3, κ.2 + 18) 2147 [some (.ref b), some (.ref s), some (.ref (s + 217)), some (.ref (s + 224)), some (vi i), y5, y6] []) : V Γ D Λ M κ 1822 [some (.ref b), some (.ref s), some (.ref (s + 217)), some (.ref (s + 224)), some (vi i), y5, y6] [] := by
  obtain ⟨g, ⟨hL, hL9, hJ⟩, -⟩ := id w
  have hκ := hκ0
  refine V_aload_n (q := 1823) g dL_law_1822 rfl rfl ?_
  refine V_callVI_0 (q := 1826) g (c_X4_sound l hL hR.1.1 hR.1.2.1) dL_law_1823 k_L_200 hL.1 rfl rfl (rmL0 rfl ⟨by omega, by omega⟩) rfl ⟨rfl, rfl⟩ rfl (fun z1 M1 e1 => ?_)
  have hp : Pm M M1 s := Pm.eq e1.2
  refine V_wid (κ' := (κ.1 + 3, κ.2 + 18)) ⟨Nat.le_add_right _ _, Nat.le_add_right _ _⟩ ?_
  refine V_aload_n (q := 1827) g dL_law_1826 rfl rfl ?_
  refine V_callVI_0 (q := 1830) g (c_X5_sound l hL9 (hR.mO hp) hR.1.2.1) dL_law_1827 k_L_203 hL9.1 rfl rfl (rmL0 rfl hκ) rfl ⟨rfl, rfl⟩ rfl (fun z2 M2 e2 => ?_)
  obtain ⟨ev, hr, f', h9⟩ := tt_sound hR e1 e2
  exact V_icmp_eq (q := 1833) (tgt := 2147) g dL_law_1830 (by decide) rfl hr (by rw [← ev]; exact hr) (fun _ => k M2 _ _ f' h9) (fun h => absurd ev h)
set_option maxHeartbeats 4000000 in
set_option maxRecDepth 100000 in
theorem lw_runScript (hfl : l.stackTraces = false) {i : Int} {y5 y6 : Option Value} {f : Int → Int} (w : LC Γ D Λ l s b L xs) (hκ0 : κ.1 + 3 ≤ 601024 ∧ κ.2 + 18 ≤ 7293034) (hi : 0 ≤ i ∧ i + 5 ≤ L) (hR : Rel M s f) (k : ∀ (M2 : MM) (y5 y6 : Option Value) (f' : Int → Int), Rel M2 s f' → V Γ D Λ M2 (κ.1 + 3, κ.2 + 18) 2147 [some (.ref b), some (.ref s), some (.ref (s + 217)), some (.ref (s + 224)), some (vi i), y5, y6] []) : V Γ D Λ M κ 1835 [some (.ref b), some (.ref s), some (.ref (s + 217)), some (.ref (s + 224)), some (vi i), y5, y6] [] := by
  obtain ⟨g, ⟨hL, hL9, hJ⟩, -⟩ := id w
  have hκ := hκ0
  refine V_aload_n (q := 1836) g dL_law_1835 rfl rfl ?_
  refine V_arg (q := 1842) w dL_law_1836 dL_law_1837 dL_law_1839 dL_law_1840 dL_law_1841 (by omega) rfl ?_
  refine V_arg (q := 1848) w dL_law_1842 dL_law_1843 dL_law_1845 dL_law_1846 dL_law_1847 (by omega) rfl ?_
  refine V_i2l (q := 1849) g dL_law_1848 (sc_r _ _) rfl ?_
  refine V_bipush (q := 1851) g dL_law_1849 (by decide) rfl ?_
  refine V_lshl0 (q := 1852) g dL_law_1851 rfl ?_
  refine V_arg (q := 1858) w dL_law_1852 dL_law_1853 dL_law_1855 dL_law_1856 dL_law_1857 (by omega) rfl ?_
  refine V_i2l (q := 1859) g dL_law_1858 (sc_r _ _) rfl ?_
  refine V_ldc2 (q := 1862) (z := 4294967295) g dL_law_1859 q_L_204 (by decide) rfl ?_
  refine V_land0 (q := 1863) g dL_law_1862 rfl ?_
  refine V_lorT (q := 1864) w dL_law_1863 rfl ?_
  refine V_aload_n (q := 1865) g dL_law_1864 rfl rfl ?_
  refine V_callHI_4 (q := 1868) g (h_runScript l (c_X4_runScript l hfl hL hR.1.1 hR.1.2.1 (sc_r _ _) (inL_toInt _)) hL.1 hJ (fun E M1 h => by obtain ⟨-, h, -⟩ := h; exact h)) dL_law_1865 k_L_206 (rmL rfl hκ) rfl rfl (fun z1 M1 e1 => ?_)
  refine V_wid (κ' := (κ.1 + 3, κ.2 + 18)) ⟨by show κ.1 + _ ≤ κ.1 + 3; exact Nat.add_le_add_left (by decide) _, by show κ.2 + _ ≤ κ.2 + 18; exact Nat.add_le_add_left (by decide) _⟩ ?_
  have hp := tp_runScript hR e1
  refine V_istore_5 (q := 1870) g dL_law_1868 (by decide) rfl rfl ?_
  refine V_aload_n (q := 1871) g dL_law_1870 rfl rfl ?_
  refine V_arg (q := 1877) w dL_law_1871 dL_law_1872 dL_law_1874 dL_law_1875 dL_law_1876 (by omega) rfl ?_
  refine V_arg (q := 1883) w dL_law_1877 dL_law_1878 dL_law_1880 dL_law_1881 dL_law_1882 (by omega) rfl ?_
  refine V_i2l (q := 1884) g dL_law_1883 (sc_r _ _) rfl ?_
  refine V_bipush (q := 1886) g dL_law_1884 (by decide) rfl ?_
  refine V_lshl0 (q := 1887) g dL_law_1886 rfl ?_
  refine V_arg (q := 1893) w dL_law_1887 dL_law_1888 dL_law_1890 dL_law_1891 dL_law_1892 (by omega) rfl ?_
  refine V_i2l (q := 1894) g dL_law_1893 (sc_r _ _) rfl ?_
  refine V_ldc2 (q := 1897) (z := 4294967295) g dL_law_1894 q_L_204 (by decide) rfl ?_
  refine V_land0 (q := 1898) g dL_law_1897 rfl ?_
  refine V_lorT (q := 1899) w dL_law_1898 rfl ?_
  refine V_callVI_2 (q := 1902) g (c_X5_runScript l hL9 (hR.mO hp) hR.1.2.1 (sc_r _ _) (inL_toInt _)) dL_law_1899 k_L_209 hL9.1 rfl rfl (rmL0 rfl hκ) rfl ⟨rfl, rfl⟩ rfl (fun z2 M2 e2 => ?_)
  exact V_tail (P := 1902) (by decide) w hκ (tt_runScript hR e1 e2) dL_law_1902 dL_law_1904 dL_law_1905 dL_law_1908 dL_law_1910 dL_law_1915 dL_law_1917 dL_law_1920 dL_law_1921 dL_law_1922 dL_law_1923 dL_law_1925 dL_law_1926 dL_law_1927 dL_law_1932 (by decide) (fun y5 y6 f' h9 => k M2 y5 y6 f' h9)
set_option maxHeartbeats 4000000 in
set_option maxRecDepth 100000 in
theorem lw_simulate (hfl : l.stackTraces = false) {i : Int} {y5 y6 : Option Value} {f : Int → Int} (w : LC Γ D Λ l s b L xs) (hκ0 : κ.1 + 3 ≤ 601024 ∧ κ.2 + 18 ≤ 7293034) (hi : 0 ≤ i ∧ i + 5 ≤ L) (hR : Rel M s f) (k : ∀ (M2 : MM) (y5 y6 : Option Value) (f' : Int → Int), Rel M2 s f' → V Γ D Λ M2 (κ.1 + 3, κ.2 + 18) 2147 [some (.ref b), some (.ref s), some (.ref (s + 217)), some (.ref (s + 224)), some (vi i), y5, y6] []) : V Γ D Λ M κ 1935 [some (.ref b), some (.ref s), some (.ref (s + 217)), some (.ref (s + 224)), some (vi i), y5, y6] [] := by
  obtain ⟨g, ⟨hL, hL9, hJ⟩, -⟩ := id w
  have hκ := hκ0
  refine V_aload_n (q := 1936) g dL_law_1935 rfl rfl ?_
  refine V_arg (q := 1942) w dL_law_1936 dL_law_1937 dL_law_1939 dL_law_1940 dL_law_1941 (by omega) rfl ?_
  refine V_i2l (q := 1943) g dL_law_1942 (sc_r _ _) rfl ?_
  refine V_bipush (q := 1945) g dL_law_1943 (by decide) rfl ?_
  refine V_lshl0 (q := 1946) g dL_law_1945 rfl ?_
  refine V_arg (q := 1952) w dL_law_1946 dL_law_1947 dL_law_1949 dL_law_1950 dL_law_1951 (by omega) rfl ?_
  refine V_i2l (q := 1953) g dL_law_1952 (sc_r _ _) rfl ?_
  refine V_ldc2 (q := 1956) (z := 4294967295) g dL_law_1953 q_L_204 (by decide) rfl ?_
  refine V_land0 (q := 1957) g dL_law_1956 rfl ?_
  refine V_lorT (q := 1958) w dL_law_1957 rfl ?_
  refine V_arg (q := 1964) w dL_law_1958 dL_law_1959 dL_law_1961 dL_law_1962 dL_law_1963 (by omega) rfl ?_
  refine V_aload_n (q := 1965) g dL_law_1964 rfl rfl ?_
  refine V_callHI_4 (q := 1968) g (h_simulate l (c_X4_simulate l hfl hL hR.1.1 hR.1.2.1 (sc_r _ _)) hL.1 hJ (fun E M1 h => by obtain ⟨-, h, -⟩ := h; exact h)) dL_law_1965 k_L_210 (rmL rfl hκ) rfl rfl (fun z1 M1 e1 => ?_)
  refine V_wid (κ' := (κ.1 + 3, κ.2 + 18)) ⟨by show κ.1 + _ ≤ κ.1 + 3; exact Nat.add_le_add_left (by decide) _, by show κ.2 + _ ≤ κ.2 + 18; exact Nat.add_le_add_left (by decide) _⟩ ?_
  have hp := tp_simulate hR e1
  refine V_istore_5 (q := 1970) g dL_law_1968 (by decide) rfl rfl ?_
  refine V_aload_n (q := 1971) g dL_law_1970 rfl rfl ?_
  refine V_arg (q := 1977) w dL_law_1971 dL_law_1972 dL_law_1974 dL_law_1975 dL_law_1976 (by omega) rfl ?_
  refine V_i2l (q := 1978) g dL_law_1977 (sc_r _ _) rfl ?_
  refine V_bipush (q := 1980) g dL_law_1978 (by decide) rfl ?_
  refine V_lshl0 (q := 1981) g dL_law_1980 rfl ?_
  refine V_arg (q := 1987) w dL_law_1981 dL_law_1982 dL_law_1984 dL_law_1985 dL_law_1986 (by omega) rfl ?_
  refine V_i2l (q := 1988) g dL_law_1987 (sc_r _ _) rfl ?_
  refine V_ldc2 (q := 1991) (z := 4294967295) g dL_law_1988 q_L_204 (by decide) rfl ?_
  refine V_land0 (q := 1992) g dL_law_1991 rfl ?_
  refine V_lorT (q := 1993) w dL_law_1992 rfl ?_
  refine V_arg (q := 1999) w dL_law_1993 dL_law_1994 dL_law_1996 dL_law_1997 dL_law_1998 (by omega) rfl ?_
  refine V_callVI_2 (q := 2002) g (c_X5_simulate l hL9 (hR.mO hp) hR.1.2.1 (sc_r _ _)) dL_law_1999 k_L_213 hL9.1 rfl rfl (rmL0 rfl hκ) rfl ⟨rfl, rfl⟩ rfl (fun z2 M2 e2 => ?_)
  exact V_tail (P := 2002) (by decide) w hκ (tt_simulate hR e1 e2) dL_law_2002 dL_law_2004 dL_law_2005 dL_law_2008 dL_law_2010 dL_law_2015 dL_law_2017 dL_law_2020 dL_law_2021 dL_law_2022 dL_law_2023 dL_law_2025 dL_law_2026 dL_law_2027 dL_law_2032 (by decide) (fun y5 y6 f' h9 => k M2 y5 y6 f' h9)
set_option maxHeartbeats 4000000 in
set_option maxRecDepth 100000 in
theorem lw_save (hfl : l.stackTraces = false) {i : Int} {y5 y6 : Option Value} {f : Int → Int} (w : LC Γ D Λ l s b L xs) (hκ0 : κ.1 + 3 ≤ 601024 ∧ κ.2 + 18 ≤ 7293034) (hi : 0 ≤ i ∧ i + 5 ≤ L) (hR : Rel M s f) (k : ∀ (M2 : MM) (y5 y6 : Option Value) (f' : Int → Int), Rel M2 s f' → V Γ D Λ M2 (κ.1 + 3, κ.2 + 18) 2147 [some (.ref b), some (.ref s), some (.ref (s + 217)), some (.ref (s + 224)), some (vi i), y5, y6] []) : V Γ D Λ M κ 2035 [some (.ref b), some (.ref s), some (.ref (s + 217)), some (.ref (s + 224)), some (vi i), y5, y6] [] := by
  obtain ⟨g, ⟨hL, hL9, hJ⟩, -⟩ := id w
  have hκ := hκ0
  refine V_aload_n (q := 2036) g dL_law_2035 rfl rfl ?_
  refine V_arg (q := 2042) w dL_law_2036 dL_law_2037 dL_law_2039 dL_law_2040 dL_law_2041 (by omega) rfl ?_
  refine V_aload_n (q := 2043) g dL_law_2042 rfl rfl ?_
  refine V_callHI_3 (q := 2046) g (h_save l (c_X4_save l hfl hL hR.1.1 hR.1.2.1 (sc_r _ _)) hL.1 hJ (fun E M1 h => by obtain ⟨-, h, -⟩ := h; exact h)) dL_law_2043 k_L_214 (rmL rfl hκ) rfl rfl (fun z1 M1 e1 => ?_)
  refine V_wid (κ' := (κ.1 + 3, κ.2 + 18)) ⟨by show κ.1 + _ ≤ κ.1 + 3; exact Nat.add_le_add_left (by decide) _, by show κ.2 + _ ≤ κ.2 + 18; exact Nat.add_le_add_left (by decide) _⟩ ?_
  have hp := tp_save hR e1
  refine V_istore_5 (q := 2048) g dL_law_2046 (by decide) rfl rfl ?_
  refine V_aload_n (q := 2049) g dL_law_2048 rfl rfl ?_
  refine V_arg (q := 2055) w dL_law_2049 dL_law_2050 dL_law_2052 dL_law_2053 dL_law_2054 (by omega) rfl ?_
  refine V_callVI_1 (q := 2058) g (c_X5_save l hL9 (hR.mO hp) hR.1.2.1 (sc_r _ _)) dL_law_2055 k_L_216 hL9.1 rfl rfl (rmL0 rfl hκ) rfl ⟨rfl, rfl⟩ rfl (fun z2 M2 e2 => ?_)
  exact V_tail (P := 2058) (by decide) w hκ (tt_save hR e1 e2) dL_law_2058 dL_law_2060 dL_law_2061 dL_law_2064 dL_law_2066 dL_law_2071 dL_law_2073 dL_law_2076 dL_law_2077 dL_law_2078 dL_law_2079 dL_law_2081 dL_law_2082 dL_law_2083 dL_law_2088 (by decide) (fun y5 y6 f' h9 => k M2 y5 y6 f' h9)
set_option maxHeartbeats 4000000 in
set_option maxRecDepth 100000 in
theorem lw_restore (hfl : l.stackTraces = false) {i : Int} {y5 y6 : Option Value} {f : Int → Int} (w : LC Γ D Λ l s b L xs) (hκ0 : κ.1 + 3 ≤ 601024 ∧ κ.2 + 18 ≤ 7293034) (hi : 0 ≤ i ∧ i + 5 ≤ L) (hR : Rel M s f) (k : ∀ (M2 : MM) (y5 y6 : Option Value) (f' : Int → Int), Rel M2 s f' → V Γ D Λ M2 (κ.1 + 3, κ.2 + 18) 2147 [some (.ref b), some (.ref s), some (.ref (s + 217)), some (.ref (s + 224)), some (vi i), y5, y6] []) : V Γ D Λ M κ 2091 [some (.ref b), some (.ref s), some (.ref (s + 217)), some (.ref (s + 224)), some (vi i), y5, y6] [] := by
  obtain ⟨g, ⟨hL, hL9, hJ⟩, -⟩ := id w
  have hκ := hκ0
  refine V_aload_n (q := 2092) g dL_law_2091 rfl rfl ?_
  refine V_arg (q := 2098) w dL_law_2092 dL_law_2093 dL_law_2095 dL_law_2096 dL_law_2097 (by omega) rfl ?_
  refine V_aload_n (q := 2099) g dL_law_2098 rfl rfl ?_
  refine V_callHI_3 (q := 2102) g (h_restore l (c_X4_restore l hfl hL hR.2.2.1.1.1 hR.2.2.1.2.1 (fun q => hR.2.2.1.1.2.2 q) (fun q => hR.2.2.1.2.2.2 q) (sc_r _ _)) hL.1 hJ (fun E M1 h => by
    rcases h with ⟨-, h, -⟩ | ⟨-, -, -, h, -⟩
    · exact Or.inl h
    · exact Or.inr (h))) dL_law_2099 k_L_217 (rmL rfl hκ) rfl rfl (fun z1 M1 e1 => ?_)
  refine V_wid (κ' := (κ.1 + 3, κ.2 + 18)) ⟨by show κ.1 + _ ≤ κ.1 + 3; exact Nat.add_le_add_left (by decide) _, by show κ.2 + _ ≤ κ.2 + 18; exact Nat.add_le_add_left (by decide) _⟩ ?_
  have hp := tp_restore hR e1
  refine V_istore_5 (q := 2104) g dL_law_2102 (by decide) rfl rfl ?_
  refine V_aload_n (q := 2105) g dL_law_2104 rfl rfl ?_
  refine V_arg (q := 2111) w dL_law_2105 dL_law_2106 dL_law_2108 dL_law_2109 dL_law_2110 (by omega) rfl ?_
  refine V_callVI_1 (q := 2114) g (c_X5_restore l hL9 (hR.mO hp) hR.1.2.1 (sc_r _ _) (fun q => hR.mk hp q) (fun q z => hR.mJ hp q z)) dL_law_2111 k_L_219 hL9.1 rfl rfl (rmL0 rfl hκ) rfl ⟨rfl, rfl⟩ rfl (fun z2 M2 e2 => ?_)
  exact V_tail (P := 2114) (by decide) w hκ (tt_restore hR e1 rfl rfl (fun q => (hR.2.2.1.1.2.2 q).2) (fun q => (hR.2.2.1.2.2.2 q).2) e2) dL_law_2114 dL_law_2116 dL_law_2117 dL_law_2120 dL_law_2122 dL_law_2127 dL_law_2129 dL_law_2132 dL_law_2133 dL_law_2134 dL_law_2135 dL_law_2137 dL_law_2138 dL_law_2139 dL_law_2144 (by decide) (fun y5 y6 f' h9 => k M2 y5 y6 f' h9)
end LW
