def sThr (v : Int) : Int := if v = -9999001 ∨ v = -9999002 ∨ v = -9999003 then 1 else 0
def lvLe : List (Option Value) → List (Option Value) → Prop
  | [], _ => True
  | none :: r, _ :: r' => lvLe r r'
  | some v :: r, y :: r' => y = some v ∧ lvLe r r'
  | _ :: _, [] => False
theorem lvLe_0 {r' : List (Option Value)} : lvLe [] r' := trivial
theorem lvLe_n {y : Option Value} {r r' : List (Option Value)} (h : lvLe r r') : lvLe (none :: r) (y :: r') := h
theorem lvLe_s {v : Value} {r r' : List (Option Value)} (h : lvLe r r') : lvLe (some v :: r) (some v :: r') := ⟨rfl, h⟩
theorem lvLe_sp : ∀ (a b : List (Option Value)), lvLe a b → ∀ (i : Nat) (v : Value), a[i]? = some (some v) → b[i]? = some (some v)
  | [], _, _, i, v, e => by simp at e
  | none :: r, y :: r', h, 0, v, e => by simp at e
  | none :: r, y :: r', h, i + 1, v, e => by
    have := lvLe_sp r r' h i v (by simpa using e)
    simpa using this
  | some x :: r, y :: r', h, 0, v, e => by
    have e2 : x = v := by simpa using e
    rw [h.1, e2]
    rfl
  | some x :: r, y :: r', h, i + 1, v, e => by
    have := lvLe_sp r r' h.2 i v (by simpa using e)
    simpa using this
  | none :: _, [], h, _, _, _ => h.elim
  | some _ :: _, [], h, _, _, _ => h.elim
section ZS
variable {Γ : VG} {D : DD} {Λ : LY} {own : String} {cc : ByteArray} {nL : Nat} {l : Launch} {R : Room} {M : MM} {κ : Nat × Nat} {pc q : Nat} {lv : List (Option Value)} {st : List Value}
/-- what the locals hold may be forgotten -/
theorem V_lvw {lv' : List (Option Value)} (h : lvLe lv' lv) (k : V Γ D Λ M κ pc lv' st) : V Γ D Λ M κ pc lv st := fun H locs ls h1 h2 h3 => k H locs ls h1 h2 ⟨h3.1, h3.2.1, fun i v e => h3.2.2 i v (lvLe_sp _ _ h i v e)⟩
theorem V_uc1 {y : MethodName} {bytes : ByteArray} {maxL idx j : Nat} {rm : Room} {rt : FieldType} {Ψ : Int → MM → Prop} {x : Value} (g : VOk Γ D Λ own cc nL l R) (hM : CI l y bytes maxL rt rm [x] D Λ M Ψ) (d : decode cc pc = .ok (.invokestatic idx, 3)) (hk : lkS own idx y bytes maxL (some rt) 1) (hf : roomF rm maxL R = true) (hz0 : rm.cells = 0 ∧ rm.slots = 0) (hκ : Kb κ R j) (hs : stOk st = true) (hq : pc + 3 = q) (kk : ∀ z M1, Ψ z M1 → V Γ D Λ M1 κ q lv (vi z :: st)) : V Γ D Λ M κ pc lv (x :: st) :=
  V_callSI_1 g hM d hk (Kb.rm (m := 0) (j := j) (by rw [Nat.zero_add]; exact hκ) hf (by omega)) hs hz0 hq kk
/-- the script, outside of the world -/
def Ex (b L : Nat) (xs : Nat → Int32) : EP := fun A U H => va_X b L xs U H ∧ b < H.size ∧ ¬ A b
theorem Ex_1 {b L : Nat} {xs : Nat → Int32} {A : Nat → Prop} {U : State} {H H1 : Heap} (h : Ex b L xs A U H) (hq : ∀ a : Nat, a < H.size → ¬ A a → H1[a]? = H[a]?) : Ex b L xs A U H1 := by
  have h1 := h.1.kept (hq b h.2.1 h.2.2)
  refine ⟨h1, ?_, h.2.2⟩
  obtain ⟨scr, e, -⟩ := h1
  rcases Nat.lt_or_ge b H1.size with q | q
  · exact q
  · rw [Array.getElem?_eq_none q] at e
    cases e
theorem Ex_ok (b L : Nat) (xs : Nat → Int32) : EOk (Ex b L xs) := ⟨fun A U H H1 h hq => Ex_1 h hq, fun A s U H hW h => ⟨h.1.moved hW.alike, h.2⟩, fun A B U H h hAB => ⟨h.1, h.2.1, fun q => h.2.2 (hAB b q)⟩⟩
theorem V_uce {y : MethodName} {bytes : ByteArray} {maxL idx j : Nat} {rm : Room} {rt : FieldType} {Ψ : Int → MM → Prop} {x0 x1 : Value} {E : EP} (g : VOk Γ D Λ own cc nL l R) (hE : EOk E) (he : E (Aw Λ (gs Γ).heap.size) (gs Γ) (gs Γ).heap) (hM : CIE E l y bytes maxL rt rm [x0, x1] D Λ M Ψ) (d : decode cc pc = .ok (.invokestatic idx, 3)) (hk : lkS own idx y bytes maxL (some rt) 2) (hf : roomF rm maxL R = true) (hz0 : rm.cells = 0 ∧ rm.slots = 0) (hκ : Kb κ R j) (hs : stOk st = true) (hq : pc + 3 = q) (kk : ∀ z M1, Ψ z M1 → V Γ D Λ M1 κ q lv (vi z :: st)) : V Γ D Λ M κ pc lv (x1 :: x0 :: st) :=
  V_callSIE0 (As := [x0, x1]) g hE he hM d hk rfl (Kb.rm (m := 0) (j := j) (by rw [Nat.zero_add]; exact hκ) hf (by omega)) hs hz0 hq kk
/-- the script's ints -/
theorem V_xld {b L : Nat} {xs : Nat → Int32} {i : Int} (g : VOk Γ D Λ own cc nL l R) (he : Ex b L xs (Aw Λ (gs Γ).heap.size) (gs Γ) (gs Γ).heap) (hL : L ≤ 1000) (d : decode cc pc = .ok (.iaload, 1)) (hi : 0 ≤ i ∧ i < L) (hq : pc + 1 = q) (k : ∀ x : Int, inR x → V Γ D Λ M κ q lv (vi x :: st)) : V Γ D Λ M κ pc lv (vi i :: .ref b :: st) := by
  subst hq
  obtain ⟨hX, hb, hA⟩ := he
  intro H locs ls h1 h2 h3
  refine va_sld g.exec g.code hX hb hA h2 (iI_in hi (by omega)) d ?_
  have hk := k (xs (iI i).toNatClampNeg).toInt (inR_toInt _) H locs ls h1 h2 h3
  rw [show vi (xs (iI i).toNatClampNeg).toInt = .int (xs (iI i).toNatClampNeg) from congrArg Value.int (iI_self _)] at hk
  exact hk
theorem V_xlen {b L : Nat} {xs : Nat → Int32} (g : VOk Γ D Λ own cc nL l R) (he : Ex b L xs (Aw Λ (gs Γ).heap.size) (gs Γ) (gs Γ).heap) (d : decode cc pc = .ok (.arraylength, 1)) (hq : pc + 1 = q) (k : V Γ D Λ M κ q lv (vi L :: st)) : V Γ D Λ M κ pc lv (.ref b :: st) := by
  subst hq
  obtain ⟨hX, hb, hA⟩ := he
  intro H locs ls h1 h2 h3
  refine va_slen g.exec g.code hX hb hA h2 d ?_
  rw [iI_nat]
  exact k H locs ls h1 h2 h3
end ZS
abbrev rm_L_thrown : Room := { frames := 0, cells := 0, slots := 0, locals := 0 }
set_option maxHeartbeats 4000000 in
set_option maxRecDepth 100000 in
theorem c_L_thrown (l : Launch) {D : DD} {Λ : LY} {M : MM} {v : Int} (hr : inR v) : CI l yL_thrown cL_thrown 1 .boolean rm_L_thrown [vi v] D Λ M (fun z M1 => z = sThr v ∧ M = M1) := by
  refine CI_of rfl rfl (Nat.le_of_ble_eq_true rfl) (fun Γ g r => ?_)
  refine V_iload_n (q := 1) g dL_thrown_0 rfl rfl ?_
  refine V_ldc (q := 3) g dL_thrown_1 (z := (-9999001)) q_L_44 (by decide) rfl ?_
  refine V_icmp_eq (q := 6) g dL_thrown_3 (tgt := 18) (by decide) rfl (by omega) (by omega) (fun h3 => ?_) (fun h3 => ?_)
  · refine V_iconst (q := 19) g dL_thrown_18 rfl ?_
    refine V_goto g dL_thrown_19 (tgt := 23) (by decide) ?_
    exact V_ireturn g r dL_thrown_23 rfl ⟨by unfold sThr; first | rw [if_pos (by omega)] | rw [if_neg (by omega)], rfl⟩
  · refine V_iload_n (q := 7) g dL_thrown_6 rfl rfl ?_
    refine V_ldc (q := 9) g dL_thrown_7 (z := (-9999002)) q_L_15 (by decide) rfl ?_
    refine V_icmp_eq (q := 12) g dL_thrown_9 (tgt := 18) (by decide) rfl (by omega) (by omega) (fun h9 => ?_) (fun h9 => ?_)
    · refine V_iconst (q := 19) g dL_thrown_18 rfl ?_
      refine V_goto g dL_thrown_19 (tgt := 23) (by decide) ?_
      exact V_ireturn g r dL_thrown_23 rfl ⟨by unfold sThr; first | rw [if_pos (by omega)] | rw [if_neg (by omega)], rfl⟩
    · refine V_iload_n (q := 13) g dL_thrown_12 rfl rfl ?_
      refine V_ldc (q := 15) g dL_thrown_13 (z := (-9999003)) q_L_18 (by decide) rfl ?_
      refine V_icmp_ne (q := 18) g dL_thrown_15 (tgt := 22) (by decide) rfl (by omega) (by omega) (fun h15 => ?_) (fun h15 => ?_)
      · refine V_iconst (q := 23) g dL_thrown_22 rfl ?_
        exact V_ireturn g r dL_thrown_23 rfl ⟨by unfold sThr; first | rw [if_pos (by omega)] | rw [if_neg (by omega)], rfl⟩
      · refine V_iconst (q := 19) g dL_thrown_18 rfl ?_
        refine V_goto g dL_thrown_19 (tgt := 23) (by decide) ?_
        exact V_ireturn g r dL_thrown_23 rfl ⟨by unfold sThr; first | rw [if_pos (by omega)] | rw [if_neg (by omega)], rfl⟩
abbrev rm_L_size : Room := { frames := 0, cells := 0, slots := 0, locals := 0 }
set_option maxHeartbeats 4000000 in
set_option maxRecDepth 100000 in
theorem c_L_size (l : Launch) {D : DD} {Λ : LY} {M : MM} {v : Int} (hr : inR v) : CI l yL_size cL_size 1 .int rm_L_size [vi v] D Λ M (fun z M1 => z = sAbs v ∧ M = M1) := by
  refine CI_of rfl rfl (Nat.le_of_ble_eq_true rfl) (fun Γ g r => ?_)
  refine V_iload_n (q := 1) g dL_size_0 rfl rfl ?_
  refine V_if_ge (q := 4) g dL_size_1 (tgt := 9) (by decide) rfl (by omega) (fun h1 => ?_) (fun h1 => ?_)
  · refine V_iload_n (q := 10) g dL_size_9 rfl rfl ?_
    exact V_ireturn g r dL_size_10 rfl ⟨by unfold sAbs; first | rw [if_pos (by omega)] | rw [if_neg (by omega)], rfl⟩
  · refine V_iload_n (q := 5) g dL_size_4 rfl rfl ?_
    refine V_ineg (q := 6) g dL_size_5 rfl ?_
    refine V_goto g dL_size_6 (tgt := 10) (by decide) ?_
    exact V_ireturn g r dL_size_10 rfl ⟨by unfold sAbs; first | rw [if_pos (by omega)] | rw [if_neg (by omega)], rfl⟩
/-- an int without its sign -/
theorem pos_bits (x : Int32) : 0 ≤ (x &&& iI 2147483647).toInt ∧ (x &&& iI 2147483647).toInt < 2147483648 := by
  have e : (iI 2147483647).toBitVec = 2147483647#32 := by decide
  have h : (x &&& iI 2147483647).toBitVec.toNat < 2147483648 := by
    rw [Int32.toBitVec_and, e, BitVec.toNat_and]
    exact Nat.lt_of_le_of_lt Nat.and_le_right (by decide)
  have h2 : (x &&& iI 2147483647).toInt = ((x &&& iI 2147483647).toBitVec.toNat : Int) := by
    show (x &&& iI 2147483647).toBitVec.toInt = _
    exact BitVec.toInt_eq_toNat_of_lt (by omega)
  omega
abbrev rm_L_cell : Room := { frames := 0, cells := 0, slots := 0, locals := 0 }
set_option maxHeartbeats 4000000 in
set_option maxRecDepth 100000 in
/-- a number of the script, or one of its own behind its end -/
theorem c_L_cell (l : Launch) {D : DD} {Λ : LY} {M : MM} {b L : Nat} {xs : Nat → Int32} {k : Int} (hL : L ≤ 1000) (hk : 0 ≤ k ∧ k < 100) : CIE (Ex b L xs) l yL_cell cL_cell 2 .int rm_L_cell [.ref b, vi k] D Λ M (fun z M1 => (0 ≤ z ∧ z < 2147483648) ∧ M = M1) := by
  refine CIE_of rfl rfl (Nat.le_of_ble_eq_true rfl) (fun Γ g r he => ?_)
  have hm : ∀ x : Int, V Γ D Λ M (0, 0) 22 [some (.ref b), some (vi k)] [vi x] := fun x => by
    refine V_ldc (q := 24) g dL_cell_22 (z := 2147483647) q_L_191 (by decide) rfl ?_
    refine V_iand0 (q := 25) g dL_cell_24 rfl ?_
    rw [← iI_self (iI x &&& iI 2147483647)]
    exact V_ireturn g r dL_cell_25 rfl ⟨pos_bits _, rfl⟩
  refine V_iload_n (q := 1) g dL_cell_0 rfl rfl ?_
  refine V_aload_n (q := 2) g dL_cell_1 rfl rfl ?_
  refine V_xlen (q := 3) g he dL_cell_2 rfl ?_
  refine V_icmp_ge (q := 6) g dL_cell_3 (tgt := 12) (by decide) rfl (by omega) (by omega) (fun h => ?_) (fun h => ?_)
  · refine V_ldc (q := 14) g dL_cell_12 (z := 15520157) q_L_190 (by decide) rfl ?_
    refine V_iload_n (q := 15) g dL_cell_14 rfl rfl ?_
    refine V_iconst (q := 16) g dL_cell_15 rfl ?_
    refine V_iadd (q := 17) g dL_cell_16 rfl ?_
    refine V_imul (q := 18) g dL_cell_17 rfl ?_
    refine V_sipush (q := 21) g dL_cell_18 (by decide) rfl ?_
    refine V_iadd (q := 22) g dL_cell_21 rfl ?_
    exact hm _
  · refine V_aload_n (q := 7) g dL_cell_6 rfl rfl ?_
    refine V_iload_n (q := 8) g dL_cell_7 rfl rfl ?_
    refine V_xld (q := 9) g he hL dL_cell_8 (by omega) rfl (fun x hx => ?_)
    refine V_goto g dL_cell_9 (tgt := 22) (by decide) ?_
    exact hm x
/-! answers in ordinary cases -/
theorem qAb_0 (f : Int → Int) : qAbout f 0 = f 0 := by rw [qAbout, if_pos (by decide)]; rfl
theorem qAb_1 (f : Int → Int) : qAbout f 1 = f 1 := by rw [qAbout, if_pos (by decide)]; rfl
theorem qAb_2 (f : Int → Int) : qAbout f 2 = sStamped f := by rw [qAbout, if_pos (by decide)]; unfold sAbout; rw [if_neg (by decide), if_pos rfl]
theorem qAb_3 (f : Int → Int) : qAbout f 3 = f 2 := by rw [qAbout, if_pos (by decide)]; unfold sAbout; rw [if_neg (by decide), if_neg (by decide)]; rfl
theorem qAb_4 (f : Int → Int) : qAbout f 4 = f 3 := by rw [qAbout, if_pos (by decide)]; unfold sAbout; rw [if_neg (by decide), if_neg (by decide)]; rfl
theorem qAb_5 (f : Int → Int) : qAbout f 5 = f 4 := by rw [qAbout, if_pos (by decide)]; unfold sAbout; rw [if_neg (by decide), if_neg (by decide)]; rfl
theorem qAb_6 (f : Int → Int) : qAbout f 6 = f 5 := by rw [qAbout, if_pos (by decide)]; unfold sAbout; rw [if_neg (by decide), if_neg (by decide)]; rfl
theorem qAb_7 (f : Int → Int) : qAbout f 7 = f 6 := by rw [qAbout, if_pos (by decide)]; unfold sAbout; rw [if_neg (by decide), if_neg (by decide)]; rfl
theorem qAb_8 (f : Int → Int) : qAbout f 8 = f 7 := by rw [qAbout, if_pos (by decide)]; unfold sAbout; rw [if_neg (by decide), if_neg (by decide)]; rfl
theorem qAb_9 (f : Int → Int) : qAbout f 9 = f 8 := by rw [qAbout, if_pos (by decide)]; unfold sAbout; rw [if_neg (by decide), if_neg (by decide)]; rfl
theorem qAb_10 (f : Int → Int) : qAbout f 10 = f 9 := by rw [qAbout, if_pos (by decide)]; unfold sAbout; rw [if_neg (by decide), if_neg (by decide)]; rfl
theorem qCh_0 {f : Int → Int} {c : Int} (h : 0 ≤ c ∧ c < f 0) : qChair f c 0 = f (44 + 9 * c) := by rw [qChair, if_pos h, if_pos (by decide), sCh_0]
theorem qCh_1 {f : Int → Int} {c : Int} (h : 0 ≤ c ∧ c < f 0) : qChair f c 1 = f (45 + 9 * c) := by rw [qChair, if_pos h, if_pos (by decide), sCh_1]
theorem qCh_2 {f : Int → Int} {c : Int} (h : 0 ≤ c ∧ c < f 0) : qChair f c 2 = f (46 + 9 * c) := by rw [qChair, if_pos h, if_pos (by decide), sCh_2]
theorem qCh_3 {f : Int → Int} {c : Int} (h : 0 ≤ c ∧ c < f 0) : qChair f c 3 = sLn f c := by rw [qChair, if_pos h, if_pos (by decide), sCh_3]
theorem qCh_4 {f : Int → Int} {c : Int} (h : 0 ≤ c ∧ c < f 0) : qChair f c 4 = sSeat f c := by rw [qChair, if_pos h, if_pos (by decide), sCh_4]
theorem qCh_5 {f : Int → Int} {c : Int} (h : 0 ≤ c ∧ c < f 0) : qChair f c 5 = sIdle f c := by rw [qChair, if_pos h, if_pos (by decide), sCh_5]
theorem qCh_6 {f : Int → Int} {c : Int} (h : 0 ≤ c ∧ c < f 0) : qChair f c 6 = f (47 + 9 * c) := by rw [qChair, if_pos h, if_pos (by decide), sCh_6]
theorem qCh_7 {f : Int → Int} {c : Int} (h : 0 ≤ c ∧ c < f 0) : qChair f c 7 = sWhy f c := by rw [qChair, if_pos h, if_pos (by decide), sCh_7]
theorem qCh_8 {f : Int → Int} {c : Int} (h : 0 ≤ c ∧ c < f 0) : qChair f c 8 = f (48 + 9 * c) := by rw [qChair, if_pos h, if_pos (by decide), sCh_8]
theorem qWb_0 {f : Int → Int} {c : Int} (h : 0 ≤ c ∧ c < f 0) : qWobble f c 0 = sWn f c := by rw [qWobble, if_pos h, if_pos (by decide)]
theorem qWb_1 {f : Int → Int} {c : Int} (h : 0 ≤ c ∧ c < f 0) : qWobble f c 1 = sWn f c := by rw [qWobble, if_pos h, if_pos (by decide)]
theorem qLg_0 {f : Int → Int} {c k : Int} (h : 0 ≤ c ∧ c < f 0) (hk : 0 ≤ k ∧ k < 4) : qLeg f c k 0 = f (49 + 9 * c + k) := by rw [qLeg, if_pos ⟨h, hk⟩, if_pos (by decide)]; rfl
theorem qLg_1 {f : Int → Int} {c k : Int} (h : 0 ≤ c ∧ c < f 0) (hk : 0 ≤ k ∧ k < 4) : qLeg f c k 1 = sRn f c k := by rw [qLeg, if_pos ⟨h, hk⟩, if_pos (by decide)]; rfl
theorem qLg_2 {f : Int → Int} {c k : Int} (h : 0 ≤ c ∧ c < f 0) (hk : 0 ≤ k ∧ k < 4) : qLeg f c k 2 = (k + f (46 + 9 * c)) % 4 := by rw [qLeg, if_pos ⟨h, hk⟩, if_pos (by decide)]; rfl
theorem qSp_ok {f : Int → Int} {fl k : Int} (h : 0 ≤ fl ∧ fl < f 1) (hk : 0 ≤ k ∧ k < 4) : qSpot f fl k = f (12 + (4 * fl + k)) := by rw [qSpot, if_pos ⟨h, hk⟩]
theorem qBn_ok {f : Int → Int} {gu k : Int} (h : 0 ≤ gu ∧ gu < 4) (hk : 0 ≤ k ∧ k < 4) : qBnd f gu k = f (28 + (4 * gu + k)) := by rw [qBnd, if_pos ⟨h, hk⟩]
theorem qSt_0 (f : Int → Int) : qSet f 0 = f 10 := by rw [qSet, if_pos (by decide)]; rfl
theorem qSt_1 (f : Int → Int) : qSet f 1 = f 11 := by rw [qSet, if_pos (by decide)]; rfl
theorem qTn_0 {f : Int → Int} {c fl : Int} (h : 0 ≤ c ∧ c < f 0) (hf : 0 ≤ fl ∧ fl < f 1) : qTurn f c fl 0 = sBq f c fl := by rw [qTurn, if_pos ⟨h, hf⟩, if_pos (by decide), if_pos rfl]
theorem qTn_1 {f : Int → Int} {c fl : Int} (h : 0 ≤ c ∧ c < f 0) (hf : 0 ≤ fl ∧ fl < f 1) : qTurn f c fl 1 = sWq f c fl := by rw [qTurn, if_pos ⟨h, hf⟩, if_pos (by decide), if_neg (by decide)]
theorem qBS_ok {f : Int → Int} {c : Int} (h : 0 ≤ c ∧ c < f 0) : qBSaw f c = sBs f c := by rw [qBSaw, if_pos h]
theorem qBF_ok {f : Int → Int} {c : Int} (h : 0 ≤ c ∧ c < f 0) : qBFloor f c = sBf f c := by rw [qBFloor, if_pos h]
theorem qFl_ok {f : Int → Int} {c wt : Int} (h : 0 ≤ c ∧ c < f 0) (hw : 1 ≤ wt ∧ wt ≤ 200) : qFails f c wt = sFail f c wt := by rw [qFails, if_pos h, if_pos hw]
