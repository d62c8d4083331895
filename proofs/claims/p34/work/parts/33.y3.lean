abbrev EP : Type := (Nat → Prop) → State → Heap → Prop
/-- a fact that stays: over changes of the world, over warm states, over a smaller world -/
def EOk (E : EP) : Prop := (∀ A U H H1, E A U H → (∀ a : Nat, a < H.size → ¬ A a → H1[a]? = H[a]?) → E A U H1) ∧ (∀ A (s U : State) H, s.WarmedH U.vm → E A s H → E A U H) ∧ ∀ (A B : Nat → Prop) U H, E A U H → (∀ q, B q → A q) → E B U H
def CIE (E : EP) (l : Launch) (y : MethodName) (cc : ByteArray) (nL : Nat) (ret : FieldType) (rm : Room) (As : List Value) (D : DD) (Λ : LY) (M : MM) (Ψ : Int → MM → Prop) : Prop := ∀ sz, Met l y (WS y cc nL (some ret)) rm (fun a U => Pw D Λ M sz As a U ∧ E (Aw Λ sz) U U.heap) (QcI D Λ sz Ψ) 0 0 (Aw Λ sz)
theorem CIE_of {E : EP} {D : DD} {Λ : LY} {l : Launch} {M : MM} {y : MethodName} {cc : ByteArray} {nL : Nat} {rm : Room} {As : List Value} {lv : List (Option Value)} {ret : FieldType} {Ψ : Int → MM → Prop} (hy : plainName y.cls = true) (hlv : lvOf As nL = lv) (hlen : (lg_sl As).length ≤ nL)
    (body : ∀ Γ, VOk Γ D Λ y.cls cc nL l rm → RetQ Γ (some ret) (QcI D Λ (gs Γ).heap.size Ψ) (Aw Λ (gs Γ).heap.size) → E (Aw Λ (gs Γ).heap.size) (gs Γ) (gs Γ).heap → V Γ D Λ M (0, 0) 0 lv []) : CIE E l y cc nL ret rm As D Λ M Ψ := by
  intro sz
  subst hlv
  refine Met.ofW (cc := cc) (maxL := nL) (ret := some ret) hy rfl ?_
  intro p e s m args below meth c s₁ B hml hv
  obtain ⟨⟨rfl, hsz, hP, hK, hst⟩, hE⟩ := hv
  subst hsz
  have hts := atoms_spec (ws := WS y cc nL (some ret)) B.pre
  have hk := body ((p, l, e, (headSpec (WS y cc nL (some ret)) rm).room, s), (m, As.toArray, below, meth, c), (nL, MQ below (QcI D Λ s.heap.size Ψ) As.toArray s 0 0 (Aw Λ s.heap.size)))
    ⟨B.exec, B.bytes, hml, rfl, findClass_of_methodNamed B.named, fun w hw => hts w (List.mem_cons_of_mem _ hw), hK, hst, B.notSynchronized, rfl, rfl⟩ ⟨rfl, B.returns⟩ hE
  rw [lg_entry_eq]
  exact hk s.heap [] _ hP va_S.rf (lvH_entry As hlen)
theorem PwE.blind {E : EP} {D : DD} {Λ : LY} {M : MM} {sz : Nat} {As : List Value} (hE : EOk E) : FrameBlind (fun a U => Pw D Λ M sz As a U ∧ E (Aw Λ sz) U U.heap) := fun a U g mk h => ⟨Pw.blind a U g mk h.1, hE.2.1 _ U (U.calling g mk a) _ (State.WarmedH.refl U) h.2⟩
section EV
variable {Γ : VG} {D : DD} {Λ : LY} {own : String} {cc : ByteArray} {nL : Nat} {l : Launch} {R : Room} {M : MM} {κ : Nat × Nat} {pc q : Nat} {lv : List (Option Value)} {st : List Value} {y : MethodName} {bytes : ByteArray} {maxL idx n : Nat} {rm : Room} {As : List Value} {E : EP}
theorem PwE.at {H : Heap} {locs : List Loc} {U : State} (g : VOk Γ D Λ own cc nL l R) (hE : EOk E) (he : E (Aw Λ (gs Γ).heap.size) (gs Γ) (gs Γ).heap) (h1 : Hd D Λ M H) (h2 : va_S (Aw Λ (gs Γ).heap.size) (gs Γ).heap H locs) (hU : U.heap = H) (hW : (gs Γ).WarmedH U.vm) : Pw D Λ M H.size As As.toArray U ∧ E (Aw Λ H.size) U U.heap :=
  ⟨Pw.at g h1 h2 hU hW, by rw [hU]; exact hE.2.1 _ _ _ _ hW (hE.2.2 _ _ _ _ (hE.1 _ _ _ _ he h2.2.1) (aw_sub h2.1))⟩
theorem V_callSIE0 {rt : FieldType} {Ψ : Int → MM → Prop} (g : VOk Γ D Λ own cc nL l R) (hE : EOk E) (he : E (Aw Λ (gs Γ).heap.size) (gs Γ) (gs Γ).heap) (hM : CIE E l y bytes maxL rt rm As D Λ M Ψ) (d : decode cc pc = .ok (.invokestatic idx, 3)) (hk : lkS own idx y bytes maxL (some rt) n) (hn : As.length = n) (hr : rmOk rm maxL R κ = true) (hs : stOk st = true) (hz0 : rm.cells = 0 ∧ rm.slots = 0) (hq : pc + 3 = q) (kk : ∀ z M1, Ψ z M1 → V Γ D Λ M1 κ q lv (vi z :: st)) : V Γ D Λ M κ pc lv (As.reverse ++ st) := by
  subst hq
  intro H locs ls h1 h2 h3
  obtain ⟨r1, r2⟩ := rmOk_sp hr
  have r3 : κ.1 + 0 ≤ R.cells ∧ κ.2 + 0 ≤ R.slots := by rw [hz0.1, hz0.2] at r2; exact r2
  have h8 : gl Γ = l := g.gl
  have h9 : gR Γ = R := g.room
  refine va_calli (mc := 0) (ms := 0) (a := As.toArray) (free := Aw Λ H.size) (A1 := Aw Λ H.size) (va_runS (As := As) (rest := st) ⟨g.exec, g.code, g.ml, g.hown, g.hts⟩ (h8 ▸ hM H.size) (va_cwS n g.hts (ws_good (wx := [Cond.methodLink own idx y, .static y, .initialized y.cls]) hk.1) rfl hz0.1 hz0.2 (yOk_sp hk.2) (by rw [h9]; exact r1)) ⟨PwE.blind hE, fun U hU hW => PwE.at g hE he h1 h2 hU hW⟩ rfl hn (lvH.size g h3) rfl (stOk_sp hs) d (by rw [h9]; exact r3)) h2 (fun q _ h => aw_sub h2.1 q h) (aw_sub h2.1) (fun r u t H1 locs1 ht hvm hp hB hz hk hS => ?_)
  obtain ⟨z, rfl, hΨ⟩ := hp
  exact kk z u hΨ H1 locs1 ls (by rw [← ht]; exact hB) hS h3
theorem V_callNIE0 {rt : FieldType} {Ψ : Int → MM → Prop} (g : VOk Γ D Λ own cc nL l R) (hE : EOk E) (he : E (Aw Λ (gs Γ).heap.size) (gs Γ) (gs Γ).heap) (hM : CIE E l y bytes maxL rt rm As D Λ M Ψ) (d : decode cc pc = .ok (.invokestatic idx, 3)) (hk : lkN own idx y bytes maxL (some rt) n) (hn : As.length = n) (hr : rmOk rm maxL R κ = true) (hs : stOk st = true) (hz0 : rm.cells = 0 ∧ rm.slots = 0) (hq : pc + 3 = q) (kk : ∀ z M1, Ψ z M1 → V Γ D Λ M1 κ q lv (vi z :: st)) : V Γ D Λ M κ pc lv (As.reverse ++ st) := by
  subst hq
  intro H locs ls h1 h2 h3
  obtain ⟨r1, r2⟩ := rmOk_sp hr
  have r3 : κ.1 + 0 ≤ R.cells ∧ κ.2 + 0 ≤ R.slots := by rw [hz0.1, hz0.2] at r2; exact r2
  have h8 : gl Γ = l := g.gl
  have h9 : gR Γ = R := g.room
  obtain ⟨⟨host, k0⟩, k1, k2⟩ := hk
  refine va_calli (mc := 0) (ms := 0) (a := As.toArray) (free := Aw Λ H.size) (A1 := Aw Λ H.size) (va_runSN (host := host) (As := As) (rest := st) ⟨g.exec, g.code, g.ml, g.hown, g.hts⟩ (h8 ▸ hM H.size) ⟨va_cnB n g.hts (fun w hw => ws_good (wx := [Cond.static y, .initialized y.cls]) k1 w (List.mem_append_right _ hw)) rfl hz0.1 hz0.2 (g.hst.1 _ k0) (g.hts _ (k1 _ (by simp))) (yOk_sp k2) (by rw [h9]; exact r1), g.hts _ (k1 _ (by simp)), trivial⟩ ⟨PwE.blind hE, fun U hU hW => PwE.at g hE he h1 h2 hU hW⟩ rfl hn (lvH.size g h3) rfl (stOk_sp hs) d (by rw [h9]; exact r3)) h2 (fun q _ h => aw_sub h2.1 q h) (aw_sub h2.1) (fun r u t H1 locs1 ht hvm hp hB hz hk hS => ?_)
  obtain ⟨z, rfl, hΨ⟩ := hp
  exact kk z u hΨ H1 locs1 ls (by rw [← ht]; exact hB) hS h3
/-- a call on what lies outside of the world -/
theorem V_callVIE0 {rt : FieldType} {Ψ : Int → MM → Prop} {b : Nat} (g : VOk Γ D Λ own cc nL l R) (hE : EOk E) (he : E (Aw Λ (gs Γ).heap.size) (gs Γ) (gs Γ).heap) (hM : CIE E l y bytes maxL rt rm (.ref b :: As) D Λ M Ψ) (d : decode cc pc = .ok (.invokevirtual idx, 3)) (hk : lkV own idx y bytes maxL (some rt) n) (hn : As.length = n) (hb : ∀ H locs, va_S (Aw Λ (gs Γ).heap.size) (gs Γ).heap H locs → ∃ cell : Cell, H[b]? = some cell ∧ cell.vm.isStatics = false ∧ (gs Γ).vm.findClass y.cls = some cell.cls) (hr : rmOk rm maxL R κ = true) (hs : stOk st = true) (hz0 : rm.cells = 0 ∧ rm.slots = 0) (hq : pc + 3 = q) (kk : ∀ z M1, Ψ z M1 → V Γ D Λ M1 κ q lv (vi z :: st)) : V Γ D Λ M κ pc lv (As.reverse ++ .ref b :: st) := by
  subst hq
  intro H locs ls h1 h2 h3
  obtain ⟨r1, r2⟩ := rmOk_sp hr
  have r3 : κ.1 + 0 ≤ R.cells ∧ κ.2 + 0 ≤ R.slots := by rw [hz0.1, hz0.2] at r2; exact r2
  have h8 : gl Γ = l := g.gl
  have h9 : gR Γ = R := g.room
  refine va_calli (mc := 0) (ms := 0) (a := (Value.ref b :: As).toArray) (free := Aw Λ H.size) (A1 := Aw Λ H.size) (va_runV (C := y.cls) (As := As) (rest := st) ⟨g.exec, g.code, g.ml, g.hown, g.hts⟩ (h8 ▸ hM H.size) (cwV n g.hts (ws_good (wx := [Cond.methodLink own idx y, .instanceMethod y, .selects y.cls y y, .initialized y.cls]) hk.1) rfl hz0.1 hz0.2 ⟨rfl, yOk_sp hk.2⟩ (by rw [h9]; exact r1)) ⟨PwE.blind hE, hb H locs h2, fun U hU hW => PwE.at g hE he h1 h2 hU hW⟩ rfl hn (lvH.size g h3) rfl (stOk_sp hs) d (by rw [h9]; exact r3)) h2 (fun q _ h => aw_sub h2.1 q h) (aw_sub h2.1) (fun r u t H1 locs1 ht hvm hp hB hz hk hS => ?_)
  obtain ⟨z, rfl, hΨ⟩ := hp
  exact kk z u hΨ H1 locs1 ls (by rw [← ht]; exact hB) hS h3
theorem V_gets {C nm ds ref : String} {v : Value} (g : VOk Γ D Λ own cc nL l R) (d : decode cc pc = .ok (.getstatic idx, 3)) (hZ : va_Z C nm ds v (Aw Λ (gs Γ).heap.size) (gs Γ) (gs Γ).heap) (hl : Cond.fieldLink own idx ref nm ds ∈ BIG) (hsame : ∀ x, (gs Γ).fieldFound? C nm ds = some x → (gs Γ).fieldFound? ref nm ds = some x) (hq : pc + 3 = q) (k : V Γ D Λ M κ q lv (v :: st)) : V Γ D Λ M κ pc lv st := by
  subst hq
  intro H locs ls h1 h2 h3
  exact va_gets g.exec g.code hZ h2 g.hown (g.hts _ hl) hsame d (k H locs ls h1 h2 h3)
theorem V_tload {t N : Nat} {f : Nat → Value} {i x : Int} (g : VOk Γ D Λ own cc nL l R) (d : decode cc pc = .ok (.iaload, 1)) (hT : va_T .int t N f (Aw Λ (gs Γ).heap.size) (gs Γ) (gs Γ).heap) (hi : 0 ≤ i ∧ i < N) (hN : N < 2147483648) (hv : f i.toNat = vi x) (hq : pc + 1 = q) (k : V Γ D Λ M κ q lv (vi x :: st)) : V Γ D Λ M κ pc lv (vi i :: .ref t :: st) := by
  subst hq
  intro H locs ls h1 h2 h3
  exact va_ti g.exec g.code hT h2 (iI_in hi hN) (by rw [iI_cl ⟨hi.1, by omega⟩]; exact hv) d (k H locs ls h1 h2 h3)
theorem V_tlen {ty : FieldType} {t N : Nat} {f : Nat → Value} (g : VOk Γ D Λ own cc nL l R) (d : decode cc pc = .ok (.arraylength, 1)) (hT : va_T ty t N f (Aw Λ (gs Γ).heap.size) (gs Γ) (gs Γ).heap) (hq : pc + 1 = q) (k : V Γ D Λ M κ q lv (vi N :: st)) : V Γ D Λ M κ pc lv (.ref t :: st) := by
  subst hq
  intro H locs ls h1 h2 h3
  exact va_tlen g.exec g.code hT h2 (iI_nat N) d (k H locs ls h1 h2 h3)
theorem V_tbload {t N : Nat} {f : Nat → Value} {i x : Int} (g : VOk Γ D Λ own cc nL l R) (d : decode cc pc = .ok (.baload, 1)) (hT : va_T .byte t N f (Aw Λ (gs Γ).heap.size) (gs Γ) (gs Γ).heap) (hi : 0 ≤ i ∧ i < N) (hN : N < 2147483648) (hv : f i.toNat = vi x) (hq : pc + 1 = q) (k : V Γ D Λ M κ q lv (vi x :: st)) : V Γ D Λ M κ pc lv (vi i :: .ref t :: st) := by
  subst hq
  intro H locs ls h1 h2 h3
  exact va_tb g.exec g.code hT h2 (iI_in hi hN) (by rw [iI_cl ⟨hi.1, by omega⟩]; exact hv) d (k H locs ls h1 h2 h3)
theorem V_ldcS {tx : String} {b : Nat} (g : VOk Γ D Λ own cc nL l R) (d : decode cc pc = .ok (.ldc idx, 2)) (hZ : vk_R own idx tx b (gs Γ)) (hq : pc + 2 = q) (k : V Γ D Λ M κ q lv (.ref b :: st)) : V Γ D Λ M κ pc lv st := by
  subst hq
  intro H locs ls h1 h2 h3
  exact va_ldcS g.exec g.code g.hown hZ d (k H locs ls h1 h2 h3)
theorem V_getfS {o nm ds ref : String} {b : Nat} {v : Value} (g : VOk Γ D Λ own cc nL l R) (d : decode cc pc = .ok (.getfield idx, 3)) (hF : va_OF o nm ds v b (Aw Λ (gs Γ).heap.size) (gs Γ) (gs Γ).heap) (hl : Cond.fieldLink own idx ref nm ds ∈ BIG) (hsame : ∀ x, (gs Γ).fieldFound? o nm ds = some x → (gs Γ).fieldFound? ref nm ds = some x) (hq : pc + 3 = q) (k : V Γ D Λ M κ q lv (v :: st)) : V Γ D Λ M κ pc lv (.ref b :: st) := by
  subst hq
  intro H locs ls h1 h2 h3
  exact vk_getf g.exec g.code hF h2 g.hown (g.hts _ hl) hsame d (k H locs ls h1 h2 h3)
theorem V_i2b0 {x : Int32} (g : VOk Γ D Λ own cc nL l R) (d : decode cc pc = .ok (.i2b, 1)) (hq : pc + 1 = q) (k : V Γ D Λ M κ q lv (.int x.toInt8.toInt32 :: st)) : V Γ D Λ M κ pc lv (.int x :: st) := by
  subst hq
  intro H locs ls h1 h2 h3
  exact lv_i2b g.exec g.code d rfl (k H locs ls h1 h2 h3)
end EV
/-- the table of the forms lies at t -/
def Ef (t : Nat) : EP := fun A U H => va_T .int t 96 (fun j => .int (iI (formsL.getD j 0))) A U H
theorem Ef_ok (t : Nat) : EOk (Ef t) := ⟨fun _ _ _ _ h hq => h.kept hq, fun _ _ _ _ hW h => h.moved hW.alike, fun _ _ _ _ h hAB => h.narrow hAB⟩
/-- the text of the letters lies at a, its bytes at v; texts are compact -/
def Es (a v : Nat) : EP := fun A U H => vk_S 1 [8] [lettersL] (fun _ => a) (fun _ => v) A U H ∧ va_Z "java/lang/String" "COMPACT_STRINGS" "Z" (.int 1) A U H
theorem Es_ok (a v : Nat) : EOk (Es a v) := ⟨fun _ _ _ _ h hq => ⟨h.1.kept hq, h.2.kept hq⟩, fun _ _ _ _ hW h => ⟨h.1.moved hW.alike, h.2.moved hW.alike⟩, fun _ _ _ _ h hAB => ⟨h.1.narrow hAB, h.2.narrow hAB⟩⟩
