/-- what is thrown: its type's name, the world then -/
def XCm (D : DD) (Λ : LY) (sz : Nat) (Ξ : String → MM → Prop) : String → State → State → Prop := vx_X (S := MM) (fun _ => True) (fun E M' t => Ξ E M' ∧ Hd D Λ M' t.heap) (Aw Λ sz)
def CXI (l : Launch) (y : MethodName) (cc : ByteArray) (nL : Nat) (ret : FieldType) (rm : Room) (As : List Value) (D : DD) (Λ : LY) (M : MM) (Ψ : Int → MM → Prop) (Ξ : String → MM → Prop) : Prop := ∀ sz, vx_Met l y (WS y cc nL (some ret)) rm (Pw D Λ M sz As) (QcI D Λ sz Ψ) (XCm D Λ sz Ξ) rm.cells rm.slots (Aw Λ sz)
def CXV (l : Launch) (y : MethodName) (cc : ByteArray) (nL : Nat) (rm : Room) (As : List Value) (D : DD) (Λ : LY) (M : MM) (Ψ : MM → Prop) (Ξ : String → MM → Prop) : Prop := ∀ sz, vx_Met l y (WS y cc nL none) rm (Pw D Λ M sz As) (QcV D Λ sz Ψ) (XCm D Λ sz Ξ) rm.cells rm.slots (Aw Λ sz)
/-- a method with a table of its own, that lets nothing out -/
def WSH (y : MethodName) (cc : ByteArray) (nL : Nat) (ret : Option FieldType) (hh : List (Nat × Nat × Nat × Nat)) : List Cond := .codeWith y cc nL ret hh :: BIG
def CXH (l : Launch) (y : MethodName) (cc : ByteArray) (nL : Nat) (ret : FieldType) (hh : List (Nat × Nat × Nat × Nat)) (rm : Room) (As : List Value) (D : DD) (Λ : LY) (M : MM) (Ψ : Int → MM → Prop) : Prop := ∀ sz, vx_Met l y (WSH y cc nL (some ret) hh) rm (Pw D Λ M sz As) (QcI D Λ sz Ψ) (XCm D Λ sz (fun _ _ => False)) rm.cells rm.slots (Aw Λ sz)
def RetQX (Γ : VG) (ret : Option FieldType) (Qc : Array Value → State → Outcome → State → Prop) (XC : String → State → State → Prop) (mc ms : Nat) (A : Nat → Prop) (T : List ExceptionTableEntry) : Prop := gQ Γ = vx_MQ (gb Γ) Qc XC (ga Γ) (gs Γ) mc ms A ∧ (gM Γ).sig.returnType = ret ∧ (gc Γ).exceptionTable.toList = T
/-- the judgement of a frame in which E was thrown -/
def VX (Γ : VG) (D : DD) (Λ : LY) (M : MM) (κ : Nat × Nat) (pc : Nat) (lv : List (Option Value)) (E : String) : Prop :=
  ∀ (H : Heap) (locs : List Loc) (ls : Array Slot) (st : List Value) (qa : Addr) (ce : Cell), Hd D Λ M H → va_S (Aw Λ (gs Γ).heap.size) (gs Γ).heap H locs → lvH ls (gnL Γ) lv → H[qa]? = some ce → ce.vm = .none → (gs Γ).vm.findClass E = some ce.cls →
    vx_W (gp Γ) (gl Γ) (ge Γ) (gR Γ) (gs Γ) (gm Γ) (ga Γ) (gb Γ) (gM Γ) (gc Γ) H locs κ.1 κ.2 (gQ Γ) (F0 (gm Γ) pc ls st) qa
theorem CX_of {D : DD} {Λ : LY} {l : Launch} {M : MM} {y : MethodName} {cc : ByteArray} {nL : Nat} {rm : Room} {As : List Value} {lv : List (Option Value)} {ret : Option FieldType} {Qc : Nat → Array Value → State → Outcome → State → Prop} {Ξ : String → MM → Prop} (hy : plainName y.cls = true) (hlv : lvOf As nL = lv) (hlen : (lg_sl As).length ≤ nL)
    (body : ∀ Γ, VOk Γ D Λ y.cls cc nL l rm → RetQX Γ ret (Qc (gs Γ).heap.size) (XCm D Λ (gs Γ).heap.size Ξ) rm.cells rm.slots (Aw Λ (gs Γ).heap.size) [] → V Γ D Λ M (0, 0) 0 lv []) (sz : Nat) : vx_Met l y (WS y cc nL ret) rm (Pw D Λ M sz As) (Qc sz) (XCm D Λ sz Ξ) rm.cells rm.slots (Aw Λ sz) := by
  subst hlv
  refine vx_ofW (cc := cc) (maxL := nL) (ret := ret) hy rfl ?_
  intro p e s m args below meth c s₁ B hml hx hv
  obtain ⟨rfl, hsz, hP, hK, hst⟩ := hv
  subst hsz
  have hts := atoms_spec (ws := WS y cc nL ret) B.pre
  have hT : c.exceptionTable.toList = [] := List.eq_nil_iff_forall_not_mem.mpr hx
  have hk := body ((p, l, e, (headSpec (WS y cc nL ret) rm).room, s), (m, As.toArray, below, meth, c), (nL, vx_MQ below (Qc s.heap.size) (XCm D Λ s.heap.size Ξ) As.toArray s rm.cells rm.slots (Aw Λ s.heap.size)))
    ⟨B.exec, B.bytes, hml, rfl, findClass_of_methodNamed B.named, fun w hw => hts w (List.mem_cons_of_mem _ hw), hK, hst, B.notSynchronized, rfl, rfl⟩ ⟨rfl, B.returns, hT⟩
  rw [lg_entry_eq]
  exact hk s.heap [] _ hP va_S.rf (lvH_entry As hlen)
theorem CXI_of {D : DD} {Λ : LY} {l : Launch} {M : MM} {y : MethodName} {cc : ByteArray} {nL : Nat} {rm : Room} {As : List Value} {lv : List (Option Value)} {ret : FieldType} {Ψ : Int → MM → Prop} {Ξ : String → MM → Prop} (hy : plainName y.cls = true) (hlv : lvOf As nL = lv) (hlen : (lg_sl As).length ≤ nL)
    (body : ∀ Γ, VOk Γ D Λ y.cls cc nL l rm → RetQX Γ (some ret) (QcI D Λ (gs Γ).heap.size Ψ) (XCm D Λ (gs Γ).heap.size Ξ) rm.cells rm.slots (Aw Λ (gs Γ).heap.size) [] → V Γ D Λ M (0, 0) 0 lv []) : CXI l y cc nL ret rm As D Λ M Ψ Ξ := fun sz => CX_of (Qc := fun sz => QcI D Λ sz Ψ) hy hlv hlen body sz
theorem CXV_of {D : DD} {Λ : LY} {l : Launch} {M : MM} {y : MethodName} {cc : ByteArray} {nL : Nat} {rm : Room} {As : List Value} {lv : List (Option Value)} {Ψ : MM → Prop} {Ξ : String → MM → Prop} (hy : plainName y.cls = true) (hlv : lvOf As nL = lv) (hlen : (lg_sl As).length ≤ nL)
    (body : ∀ Γ, VOk Γ D Λ y.cls cc nL l rm → RetQX Γ none (QcV D Λ (gs Γ).heap.size Ψ) (XCm D Λ (gs Γ).heap.size Ξ) rm.cells rm.slots (Aw Λ (gs Γ).heap.size) [] → V Γ D Λ M (0, 0) 0 lv []) : CXV l y cc nL rm As D Λ M Ψ Ξ := fun sz => CX_of (Qc := fun sz => QcV D Λ sz Ψ) hy hlv hlen body sz
theorem CXH_of {D : DD} {Λ : LY} {l : Launch} {M : MM} {y : MethodName} {cc : ByteArray} {nL : Nat} {rm : Room} {As : List Value} {lv : List (Option Value)} {ret : FieldType} {hh : List (Nat × Nat × Nat × Nat)} {Ψ : Int → MM → Prop} (hy : plainName y.cls = true) (hlv : lvOf As nL = lv) (hlen : (lg_sl As).length ≤ nL)
    (body : ∀ Γ, VOk Γ D Λ y.cls cc nL l rm → RetQX Γ (some ret) (QcI D Λ (gs Γ).heap.size Ψ) (XCm D Λ (gs Γ).heap.size (fun _ _ => False)) rm.cells rm.slots (Aw Λ (gs Γ).heap.size) (tableOf hh) → V Γ D Λ M (0, 0) 0 lv []) : CXH l y cc nL ret hh rm As D Λ M Ψ := by
  intro sz
  subst hlv
  refine vx_ofWH (cc := cc) (maxL := nL) (ret := some ret) (hh := hh) hy rfl ?_
  intro p e s m args below meth c s₁ B hml hv
  obtain ⟨rfl, hsz, hP, hK, hst⟩ := hv
  subst hsz
  have hts := atoms_spec (ws := WSH y cc nL (some ret) hh) B.pre
  have hT : c.exceptionTable.toList = tableOf hh := vx_table (x := y) B (hts _ List.mem_cons_self)
  have hk := body ((p, l, e, (headSpec (WSH y cc nL (some ret) hh) rm).room, s), (m, As.toArray, below, meth, c), (nL, vx_MQ below (QcI D Λ s.heap.size Ψ) (XCm D Λ s.heap.size (fun _ _ => False)) As.toArray s rm.cells rm.slots (Aw Λ s.heap.size)))
    ⟨B.exec, B.bytes, hml, rfl, findClass_of_methodNamed B.named, fun w hw => hts w (List.mem_cons_of_mem _ hw), hK, hst, B.notSynchronized, rfl, rfl⟩ ⟨rfl, B.returns, hT⟩
  rw [lg_entry_eq]
  exact hk s.heap [] _ hP va_S.rf (lvH_entry As hlen)
def leK (κ : Nat × Nat) (mc ms : Nat) : Bool := decide (κ.1 ≤ mc) && decide (κ.2 ≤ ms)
theorem leK_sp {κ : Nat × Nat} {mc ms : Nat} (h : leK κ mc ms = true) : κ.1 ≤ mc ∧ κ.2 ≤ ms := by simpa [leK] using h
section XV
variable {Γ : VG} {D : DD} {Λ : LY} {own : String} {cc : ByteArray} {nL : Nat} {l : Launch} {R : Room} {M : MM} {κ : Nat × Nat} {pc q : Nat} {lv : List (Option Value)} {st : List Value}
theorem VX_out {ret : Option FieldType} {Qc : Array Value → State → Outcome → State → Prop} {Ξ : String → MM → Prop} {E : String} {mc ms : Nat} (g : VOk Γ D Λ own cc nL l R) (r : RetQX Γ ret Qc (XCm D Λ (gs Γ).heap.size Ξ) mc ms (Aw Λ (gs Γ).heap.size) []) (hκ : leK κ mc ms = true) (h : Ξ E M) : VX Γ D Λ M κ pc lv E := by
  intro H locs ls st qa ce h1 h2 h3 hc hv hcl
  obtain ⟨k1, k2⟩ := leK_sp hκ
  rw [r.1]
  exact vx_out (fun x hx => by rw [r.2.2] at hx; cases hx) g.locks hc hv hcl (fun t ht hW => ⟨M, trivial, ⟨h, by rw [ht]; exact h1⟩, h2.F ht⟩) h2.2.2 k1 k2
theorem V_ireturnX {z : Int} {ty : FieldType} {Ψ : Int → MM → Prop} {XC : String → State → State → Prop} {mc ms : Nat} {T : List ExceptionTableEntry} (g : VOk Γ D Λ own cc nL l R) (r : RetQX Γ (some ty) (QcI D Λ (gs Γ).heap.size Ψ) XC mc ms (Aw Λ (gs Γ).heap.size) T) (hκ : leK κ mc ms = true) (d : decode cc pc = .ok (.ireturn, 1)) (hn : narrow ty (vi z) = vi z) (h : Ψ z M) : V Γ D Λ M κ pc lv [vi z] := by
  intro H locs ls h1 h2 h3
  obtain ⟨k1, k2⟩ := leK_sp hκ
  rw [r.1]
  have hk : W (gp Γ) (gl Γ) (ge Γ) (gR Γ) (gs Γ) (gm Γ) (ga Γ) (gb Γ) (gM Γ) (gc Γ) H locs mc ms (vx_MQ (gb Γ) (QcI D Λ (gs Γ).heap.size Ψ) XC (ga Γ) (gs Γ) mc ms (Aw Λ (gs Γ).heap.size)) (F0 (gm Γ) pc ls [vi z]) := vx_ret (W.zret (hlocks := g.locks) g.exec g.code r.2.1 hn (fun t ht hW => ⟨⟨iI z, M, rfl, ⟨z, rfl, h⟩, by show Hd D Λ M t.heap; rw [ht]; exact h1⟩, h2.F ht⟩) h2.2.2 d)
  exact fun T hT X => hk T hT (stand_widen X k1 k2)
theorem V_returnX {Ψ : MM → Prop} {XC : String → State → State → Prop} {mc ms : Nat} {T : List ExceptionTableEntry} (g : VOk Γ D Λ own cc nL l R) (r : RetQX Γ none (QcV D Λ (gs Γ).heap.size Ψ) XC mc ms (Aw Λ (gs Γ).heap.size) T) (hκ : leK κ mc ms = true) (d : decode cc pc = .ok (.return_, 1)) (h : Ψ M) : V Γ D Λ M κ pc lv [] := by
  intro H locs ls h1 h2 h3
  obtain ⟨k1, k2⟩ := leK_sp hκ
  rw [r.1]
  have hk : W (gp Γ) (gl Γ) (ge Γ) (gR Γ) (gs Γ) (gm Γ) (ga Γ) (gb Γ) (gM Γ) (gc Γ) H locs mc ms (vx_MQ (gb Γ) (QcV D Λ (gs Γ).heap.size Ψ) XC (ga Γ) (gs Γ) mc ms (Aw Λ (gs Γ).heap.size)) (F0 (gm Γ) pc ls []) := vx_ret (W.vret (hlocks := g.locks) g.exec g.code r.2.1 (fun t ht hW => ⟨⟨M, rfl, h, by show Hd D Λ M t.heap; rw [ht]; exact h1⟩, h2.F ht⟩) h2.2.2 d)
  exact fun T hT X => hk T hT (stand_widen X k1 k2)
theorem V_callVXI0 {y : MethodName} {bytes : ByteArray} {maxL idx n : Nat} {rm : Room} {As : List Value} {rt : FieldType} {Ψ : Int → MM → Prop} {Ξ : String → MM → Prop} {b ci : Nat} {fl : List (Option Nat)} {cT : vw_C} (g : VOk Γ D Λ own cc nL l R) (hM : CXI l y bytes maxL rt rm (.ref b :: As) D Λ M Ψ Ξ) (d : decode cc pc = .ok (.invokevirtual idx, 3)) (hk : lkV own idx y bytes maxL (some rt) n) (hn : As.length = n) (hΛ : Λ b = some (kO ci fl)) (hc : vwCl[ci]? = some cT) (hcy : cT.1 = y.cls) (hr : rmOk rm maxL R κ = true) (hs : stOk st = true) (hq : pc + 3 = q) (kk : ∀ z M1, Ψ z M1 → V Γ D Λ M1 (κ.1 + rm.cells, κ.2 + rm.slots) q lv (vi z :: st)) (kx : ∀ E M1, Ξ E M1 → VX Γ D Λ M1 (κ.1 + rm.cells, κ.2 + rm.slots) pc lv E) : V Γ D Λ M κ pc lv (As.reverse ++ .ref b :: st) := by
  subst hq
  intro H locs ls h1 h2 h3
  obtain ⟨r1, r2⟩ := rmOk_sp hr
  have h8 : gl Γ = l := g.gl
  have h9 : gR Γ = R := g.room
  have hrc := va_recv g.hK (h1.one hΛ) hc (q0 := 0) rfl
  rw [hcy] at hrc
  refine vx_calli (mc := rm.cells) (ms := rm.slots) (a := (Value.ref b :: As).toArray) (free := Aw Λ H.size) (A1 := Aw Λ H.size) (AX := Aw Λ H.size) (rest := st) (vx_runV (C := y.cls) (As := As) (rest := st) ⟨g.exec, g.code, g.ml, g.hown, g.hts⟩ (h8 ▸ hM H.size) (cwV n g.hts (ws_good (wx := [Cond.methodLink own idx y, .instanceMethod y, .selects y.cls y y, .initialized y.cls]) hk.1) rfl rfl rfl ⟨rfl, yOk_sp hk.2⟩ (by rw [h9]; exact r1)) ⟨Pw.blind, hrc, fun U hU hW => Pw.at g h1 h2 hU hW⟩ rfl hn (lvH.size g h3) rfl (stOk_sp hs) d (by rw [h9]; exact r2)) h2 (fun q _ h => aw_sub h2.1 q h) (aw_sub h2.1) (fun q _ h => aw_sub h2.1 q h) (fun E ce q9 u t H1 locs1 ht hvm hp hB hz hk2 hS hce hcv hcl => ?_) (fun r u t H1 locs1 ht hvm hp hB hz hk2 hS => ?_)
  · exact kx E u hB.1 H1 locs1 ls st q9 ce (by rw [← ht]; exact hB.2) hS h3 hce hcv hcl
  · obtain ⟨z, rfl, hΨ⟩ := hp
    exact kk z u hΨ H1 locs1 ls (by rw [← ht]; exact hB) hS h3
theorem V_callSXI0 {y : MethodName} {bytes : ByteArray} {maxL idx n : Nat} {rm : Room} {As : List Value} {rt : FieldType} {Ψ : Int → MM → Prop} {Ξ : String → MM → Prop} (g : VOk Γ D Λ own cc nL l R) (hM : CXI l y bytes maxL rt rm As D Λ M Ψ Ξ) (d : decode cc pc = .ok (.invokestatic idx, 3)) (hk : lkS own idx y bytes maxL (some rt) n) (hn : As.length = n) (hr : rmOk rm maxL R κ = true) (hs : stOk st = true) (hq : pc + 3 = q) (kk : ∀ z M1, Ψ z M1 → V Γ D Λ M1 (κ.1 + rm.cells, κ.2 + rm.slots) q lv (vi z :: st)) (kx : ∀ E M1, Ξ E M1 → VX Γ D Λ M1 (κ.1 + rm.cells, κ.2 + rm.slots) pc lv E) : V Γ D Λ M κ pc lv (As.reverse ++ st) := by
  subst hq
  intro H locs ls h1 h2 h3
  obtain ⟨r1, r2⟩ := rmOk_sp hr
  have h8 : gl Γ = l := g.gl
  have h9 : gR Γ = R := g.room
  refine vx_calli (mc := rm.cells) (ms := rm.slots) (a := As.toArray) (free := Aw Λ H.size) (A1 := Aw Λ H.size) (AX := Aw Λ H.size) (rest := st) (vx_runS (As := As) (rest := st) ⟨g.exec, g.code, g.ml, g.hown, g.hts⟩ (h8 ▸ hM H.size) (va_cwS n g.hts (ws_good (wx := [Cond.methodLink own idx y, .static y, .initialized y.cls]) hk.1) rfl rfl rfl (yOk_sp hk.2) (by rw [h9]; exact r1)) ⟨Pw.blind, fun U hU hW => Pw.at g h1 h2 hU hW⟩ rfl hn (lvH.size g h3) rfl (stOk_sp hs) d (by rw [h9]; exact r2)) h2 (fun q _ h => aw_sub h2.1 q h) (aw_sub h2.1) (fun q _ h => aw_sub h2.1 q h) (fun E ce q9 u t H1 locs1 ht hvm hp hB hz hk2 hS hce hcv hcl => ?_) (fun r u t H1 locs1 ht hvm hp hB hz hk2 hS => ?_)
  · exact kx E u hB.1 H1 locs1 ls st q9 ce (by rw [← ht]; exact hB.2) hS h3 hce hcv hcl
  · obtain ⟨z, rfl, hΨ⟩ := hp
    exact kk z u hΨ H1 locs1 ls (by rw [← ht]; exact hB) hS h3
theorem V_callVXV0 {y : MethodName} {bytes : ByteArray} {maxL idx n : Nat} {rm : Room} {As : List Value} {Ψ : MM → Prop} {Ξ : String → MM → Prop} {b ci : Nat} {fl : List (Option Nat)} {cT : vw_C} (g : VOk Γ D Λ own cc nL l R) (hM : CXV l y bytes maxL rm (.ref b :: As) D Λ M Ψ Ξ) (d : decode cc pc = .ok (.invokevirtual idx, 3)) (hk : lkV own idx y bytes maxL none n) (hn : As.length = n) (hΛ : Λ b = some (kO ci fl)) (hc : vwCl[ci]? = some cT) (hcy : cT.1 = y.cls) (hr : rmOk rm maxL R κ = true) (hs : stOk st = true) (hq : pc + 3 = q) (kk : ∀ M1, Ψ M1 → V Γ D Λ M1 (κ.1 + rm.cells, κ.2 + rm.slots) q lv st) (kx : ∀ E M1, Ξ E M1 → VX Γ D Λ M1 (κ.1 + rm.cells, κ.2 + rm.slots) pc lv E) : V Γ D Λ M κ pc lv (As.reverse ++ .ref b :: st) := by
  subst hq
  intro H locs ls h1 h2 h3
  obtain ⟨r1, r2⟩ := rmOk_sp hr
  have h8 : gl Γ = l := g.gl
  have h9 : gR Γ = R := g.room
  have hrc := va_recv g.hK (h1.one hΛ) hc (q0 := 0) rfl
  rw [hcy] at hrc
  refine vx_callv (mc := rm.cells) (ms := rm.slots) (a := (Value.ref b :: As).toArray) (free := Aw Λ H.size) (A1 := Aw Λ H.size) (AX := Aw Λ H.size) (rest := st) (vx_runV (C := y.cls) (As := As) (rest := st) ⟨g.exec, g.code, g.ml, g.hown, g.hts⟩ (h8 ▸ hM H.size) (cwV n g.hts (ws_good (wx := [Cond.methodLink own idx y, .instanceMethod y, .selects y.cls y y, .initialized y.cls]) hk.1) rfl rfl rfl ⟨rfl, yOk_sp hk.2⟩ (by rw [h9]; exact r1)) ⟨Pw.blind, hrc, fun U hU hW => Pw.at g h1 h2 hU hW⟩ rfl hn (lvH.size g h3) rfl (stOk_sp hs) d (by rw [h9]; exact r2)) h2 (fun q _ h => aw_sub h2.1 q h) (aw_sub h2.1) (fun q _ h => aw_sub h2.1 q h) (fun E ce q9 u t H1 locs1 ht hvm hp hB hz hk2 hS hce hcv hcl => ?_) (fun u t H1 locs1 ht hvm hp hB hz hk2 hS => ?_)
  · exact kx E u hB.1 H1 locs1 ls st q9 ce (by rw [← ht]; exact hB.2) hS h3 hce hcv hcl
  · exact kk u hp H1 locs1 ls (by rw [← ht]; exact hB) hS h3
theorem V_callSXV0 {y : MethodName} {bytes : ByteArray} {maxL idx n : Nat} {rm : Room} {As : List Value} {Ψ : MM → Prop} {Ξ : String → MM → Prop} (g : VOk Γ D Λ own cc nL l R) (hM : CXV l y bytes maxL rm As D Λ M Ψ Ξ) (d : decode cc pc = .ok (.invokestatic idx, 3)) (hk : lkS own idx y bytes maxL none n) (hn : As.length = n) (hr : rmOk rm maxL R κ = true) (hs : stOk st = true) (hq : pc + 3 = q) (kk : ∀ M1, Ψ M1 → V Γ D Λ M1 (κ.1 + rm.cells, κ.2 + rm.slots) q lv st) (kx : ∀ E M1, Ξ E M1 → VX Γ D Λ M1 (κ.1 + rm.cells, κ.2 + rm.slots) pc lv E) : V Γ D Λ M κ pc lv (As.reverse ++ st) := by
  subst hq
  intro H locs ls h1 h2 h3
  obtain ⟨r1, r2⟩ := rmOk_sp hr
  have h8 : gl Γ = l := g.gl
  have h9 : gR Γ = R := g.room
  refine vx_callv (mc := rm.cells) (ms := rm.slots) (a := As.toArray) (free := Aw Λ H.size) (A1 := Aw Λ H.size) (AX := Aw Λ H.size) (rest := st) (vx_runS (As := As) (rest := st) ⟨g.exec, g.code, g.ml, g.hown, g.hts⟩ (h8 ▸ hM H.size) (va_cwS n g.hts (ws_good (wx := [Cond.methodLink own idx y, .static y, .initialized y.cls]) hk.1) rfl rfl rfl (yOk_sp hk.2) (by rw [h9]; exact r1)) ⟨Pw.blind, fun U hU hW => Pw.at g h1 h2 hU hW⟩ rfl hn (lvH.size g h3) rfl (stOk_sp hs) d (by rw [h9]; exact r2)) h2 (fun q _ h => aw_sub h2.1 q h) (aw_sub h2.1) (fun q _ h => aw_sub h2.1 q h) (fun E ce q9 u t H1 locs1 ht hvm hp hB hz hk2 hS hce hcv hcl => ?_) (fun u t H1 locs1 ht hvm hp hB hz hk2 hS => ?_)
  · exact kx E u hB.1 H1 locs1 ls st q9 ce (by rw [← ht]; exact hB.2) hS h3 hce hcv hcl
  · exact kk u hp H1 locs1 ls (by rw [← ht]; exact hB) hS h3
/-- the words of a call of a method with a table -/
def lkH (own : String) (idx : Nat) (y : MethodName) (cc : ByteArray) (nL : Nat) (ret : Option FieldType) (hh : List (Nat × Nat × Nat × Nat)) (n : Nat) : Prop := (∀ w ∈ [Cond.methodLink own idx y, .static y, .initialized y.cls, .codeWith y cc nL ret hh], w ∈ BIG) ∧ yOk y n = true
theorem wsH_good {y : MethodName} {bytes : ByteArray} {maxL idx : Nat} {ret : Option FieldType} {hh : List (Nat × Nat × Nat × Nat)} (h : ∀ w ∈ [Cond.methodLink own idx y, .static y, .initialized y.cls, .codeWith y bytes maxL ret hh], w ∈ BIG) : GoodIn BIG (va_wsS own idx y (WSH y bytes maxL ret hh)) := by
  intro w hw
  have hw2 : w ∈ [Cond.methodLink own idx y, .static y, .initialized y.cls] ++ WSH y bytes maxL ret hh := hw
  rcases List.mem_append.mp hw2 with hw | hw
  · refine big_good w (h w ?_)
    exact List.mem_append_left [Cond.codeWith y bytes maxL ret hh] hw
  · rcases List.mem_cons.mp hw with rfl | hw
    · exact big_good _ (h _ (by simp))
    · exact big_good w hw
theorem V_callHI0 {y : MethodName} {bytes : ByteArray} {maxL idx n : Nat} {rm : Room} {As : List Value} {rt : FieldType} {hh : List (Nat × Nat × Nat × Nat)} {Ψ : Int → MM → Prop} (g : VOk Γ D Λ own cc nL l R) (hM : CXH l y bytes maxL rt hh rm As D Λ M Ψ) (d : decode cc pc = .ok (.invokestatic idx, 3)) (hk : lkH own idx y bytes maxL (some rt) hh n) (hn : As.length = n) (hr : rmOk rm maxL R κ = true) (hs : stOk st = true) (hq : pc + 3 = q) (kk : ∀ z M1, Ψ z M1 → V Γ D Λ M1 (κ.1 + rm.cells, κ.2 + rm.slots) q lv (vi z :: st)) : V Γ D Λ M κ pc lv (As.reverse ++ st) := by
  subst hq
  intro H locs ls h1 h2 h3
  obtain ⟨r1, r2⟩ := rmOk_sp hr
  have h8 : gl Γ = l := g.gl
  have h9 : gR Γ = R := g.room
  refine vx_calli (mc := rm.cells) (ms := rm.slots) (a := As.toArray) (free := Aw Λ H.size) (A1 := Aw Λ H.size) (AX := Aw Λ H.size) (rest := st) (vx_runSX (hh := hh) (As := As) (rest := st) ⟨g.exec, g.code, g.ml, g.hown, g.hts⟩ (h8 ▸ hM H.size) (vx_cwSW n g.hts (wsH_good hk.1) rfl rfl rfl (yOk_sp hk.2) (by rw [h9]; exact r1)) ⟨Pw.blind, fun U hU hW => Pw.at g h1 h2 hU hW⟩ rfl hn (lvH.size g h3) rfl (stOk_sp hs) d (by rw [h9]; exact r2)) h2 (fun q _ h => aw_sub h2.1 q h) (aw_sub h2.1) (fun q _ h => aw_sub h2.1 q h) (fun E ce q9 u t H1 locs1 ht hvm hp hB hz hk2 hS hce hcv hcl => ?_) (fun r u t H1 locs1 ht hvm hp hB hz hk2 hS => ?_)
  · exact hB.1.elim
  · obtain ⟨z, rfl, hΨ⟩ := hp
    exact kk z u hΨ H1 locs1 ls (by rw [← ht]; exact hB) hS h3
theorem V_callVXI_0 {y : MethodName} {bytes : ByteArray} {maxL idx : Nat} {rm : Room} {rt : FieldType} {Ψ : Int → MM → Prop} {Ξ : String → MM → Prop} {b ci : Nat} {fl : List (Option Nat)} {cT : vw_C} (g : VOk Γ D Λ own cc nL l R) (hM : CXI l y bytes maxL rt rm [.ref b] D Λ M Ψ Ξ) (d : decode cc pc = .ok (.invokevirtual idx, 3)) (hk : lkV own idx y bytes maxL (some rt) 0) (hΛ : Λ b = some (kO ci fl)) (hc : vwCl[ci]? = some cT) (hcy : cT.1 = y.cls) (hr : rmOk rm maxL R κ = true) (hs : stOk st = true) (hq : pc + 3 = q) (kk : ∀ z M1, Ψ z M1 → V Γ D Λ M1 (κ.1 + rm.cells, κ.2 + rm.slots) q lv (vi z :: st)) (kx : ∀ E M1, Ξ E M1 → VX Γ D Λ M1 (κ.1 + rm.cells, κ.2 + rm.slots) pc lv E) : V Γ D Λ M κ pc lv (.ref b :: st) := V_callVXI0 (As := []) g hM d hk rfl hΛ hc hcy hr hs hq kk kx
theorem V_callVXI_1 {y : MethodName} {bytes : ByteArray} {maxL idx : Nat} {rm : Room} {rt : FieldType} {Ψ : Int → MM → Prop} {x0 : Value} {Ξ : String → MM → Prop} {b ci : Nat} {fl : List (Option Nat)} {cT : vw_C} (g : VOk Γ D Λ own cc nL l R) (hM : CXI l y bytes maxL rt rm [.ref b, x0] D Λ M Ψ Ξ) (d : decode cc pc = .ok (.invokevirtual idx, 3)) (hk : lkV own idx y bytes maxL (some rt) 1) (hΛ : Λ b = some (kO ci fl)) (hc : vwCl[ci]? = some cT) (hcy : cT.1 = y.cls) (hr : rmOk rm maxL R κ = true) (hs : stOk st = true) (hq : pc + 3 = q) (kk : ∀ z M1, Ψ z M1 → V Γ D Λ M1 (κ.1 + rm.cells, κ.2 + rm.slots) q lv (vi z :: st)) (kx : ∀ E M1, Ξ E M1 → VX Γ D Λ M1 (κ.1 + rm.cells, κ.2 + rm.slots) pc lv E) : V Γ D Λ M κ pc lv (x0 :: .ref b :: st) := V_callVXI0 (As := [x0]) g hM d hk rfl hΛ hc hcy hr hs hq kk kx
theorem V_callVXI_2 {y : MethodName} {bytes : ByteArray} {maxL idx : Nat} {rm : Room} {rt : FieldType} {Ψ : Int → MM → Prop} {x0 x1 : Value} {Ξ : String → MM → Prop} {b ci : Nat} {fl : List (Option Nat)} {cT : vw_C} (g : VOk Γ D Λ own cc nL l R) (hM : CXI l y bytes maxL rt rm [.ref b, x0, x1] D Λ M Ψ Ξ) (d : decode cc pc = .ok (.invokevirtual idx, 3)) (hk : lkV own idx y bytes maxL (some rt) 2) (hΛ : Λ b = some (kO ci fl)) (hc : vwCl[ci]? = some cT) (hcy : cT.1 = y.cls) (hr : rmOk rm maxL R κ = true) (hs : stOk st = true) (hq : pc + 3 = q) (kk : ∀ z M1, Ψ z M1 → V Γ D Λ M1 (κ.1 + rm.cells, κ.2 + rm.slots) q lv (vi z :: st)) (kx : ∀ E M1, Ξ E M1 → VX Γ D Λ M1 (κ.1 + rm.cells, κ.2 + rm.slots) pc lv E) : V Γ D Λ M κ pc lv (x1 :: x0 :: .ref b :: st) := V_callVXI0 (As := [x0, x1]) g hM d hk rfl hΛ hc hcy hr hs hq kk kx
theorem V_callVXI_3 {y : MethodName} {bytes : ByteArray} {maxL idx : Nat} {rm : Room} {rt : FieldType} {Ψ : Int → MM → Prop} {x0 x1 x2 : Value} {Ξ : String → MM → Prop} {b ci : Nat} {fl : List (Option Nat)} {cT : vw_C} (g : VOk Γ D Λ own cc nL l R) (hM : CXI l y bytes maxL rt rm [.ref b, x0, x1, x2] D Λ M Ψ Ξ) (d : decode cc pc = .ok (.invokevirtual idx, 3)) (hk : lkV own idx y bytes maxL (some rt) 3) (hΛ : Λ b = some (kO ci fl)) (hc : vwCl[ci]? = some cT) (hcy : cT.1 = y.cls) (hr : rmOk rm maxL R κ = true) (hs : stOk st = true) (hq : pc + 3 = q) (kk : ∀ z M1, Ψ z M1 → V Γ D Λ M1 (κ.1 + rm.cells, κ.2 + rm.slots) q lv (vi z :: st)) (kx : ∀ E M1, Ξ E M1 → VX Γ D Λ M1 (κ.1 + rm.cells, κ.2 + rm.slots) pc lv E) : V Γ D Λ M κ pc lv (x2 :: x1 :: x0 :: .ref b :: st) := V_callVXI0 (As := [x0, x1, x2]) g hM d hk rfl hΛ hc hcy hr hs hq kk kx
theorem V_callVXI_4 {y : MethodName} {bytes : ByteArray} {maxL idx : Nat} {rm : Room} {rt : FieldType} {Ψ : Int → MM → Prop} {x0 x1 x2 x3 : Value} {Ξ : String → MM → Prop} {b ci : Nat} {fl : List (Option Nat)} {cT : vw_C} (g : VOk Γ D Λ own cc nL l R) (hM : CXI l y bytes maxL rt rm [.ref b, x0, x1, x2, x3] D Λ M Ψ Ξ) (d : decode cc pc = .ok (.invokevirtual idx, 3)) (hk : lkV own idx y bytes maxL (some rt) 4) (hΛ : Λ b = some (kO ci fl)) (hc : vwCl[ci]? = some cT) (hcy : cT.1 = y.cls) (hr : rmOk rm maxL R κ = true) (hs : stOk st = true) (hq : pc + 3 = q) (kk : ∀ z M1, Ψ z M1 → V Γ D Λ M1 (κ.1 + rm.cells, κ.2 + rm.slots) q lv (vi z :: st)) (kx : ∀ E M1, Ξ E M1 → VX Γ D Λ M1 (κ.1 + rm.cells, κ.2 + rm.slots) pc lv E) : V Γ D Λ M κ pc lv (x3 :: x2 :: x1 :: x0 :: .ref b :: st) := V_callVXI0 (As := [x0, x1, x2, x3]) g hM d hk rfl hΛ hc hcy hr hs hq kk kx
theorem V_callVXV_1 {y : MethodName} {bytes : ByteArray} {maxL idx : Nat} {rm : Room} {Ψ : MM → Prop} {x0 : Value} {Ξ : String → MM → Prop} {b ci : Nat} {fl : List (Option Nat)} {cT : vw_C} (g : VOk Γ D Λ own cc nL l R) (hM : CXV l y bytes maxL rm [.ref b, x0] D Λ M Ψ Ξ) (d : decode cc pc = .ok (.invokevirtual idx, 3)) (hk : lkV own idx y bytes maxL none 1) (hΛ : Λ b = some (kO ci fl)) (hc : vwCl[ci]? = some cT) (hcy : cT.1 = y.cls) (hr : rmOk rm maxL R κ = true) (hs : stOk st = true) (hq : pc + 3 = q) (kk : ∀ M1, Ψ M1 → V Γ D Λ M1 (κ.1 + rm.cells, κ.2 + rm.slots) q lv st) (kx : ∀ E M1, Ξ E M1 → VX Γ D Λ M1 (κ.1 + rm.cells, κ.2 + rm.slots) pc lv E) : V Γ D Λ M κ pc lv (x0 :: .ref b :: st) := V_callVXV0 (As := [x0]) g hM d hk rfl hΛ hc hcy hr hs hq kk kx
theorem V_callVXV_2 {y : MethodName} {bytes : ByteArray} {maxL idx : Nat} {rm : Room} {Ψ : MM → Prop} {x0 x1 : Value} {Ξ : String → MM → Prop} {b ci : Nat} {fl : List (Option Nat)} {cT : vw_C} (g : VOk Γ D Λ own cc nL l R) (hM : CXV l y bytes maxL rm [.ref b, x0, x1] D Λ M Ψ Ξ) (d : decode cc pc = .ok (.invokevirtual idx, 3)) (hk : lkV own idx y bytes maxL none 2) (hΛ : Λ b = some (kO ci fl)) (hc : vwCl[ci]? = some cT) (hcy : cT.1 = y.cls) (hr : rmOk rm maxL R κ = true) (hs : stOk st = true) (hq : pc + 3 = q) (kk : ∀ M1, Ψ M1 → V Γ D Λ M1 (κ.1 + rm.cells, κ.2 + rm.slots) q lv st) (kx : ∀ E M1, Ξ E M1 → VX Γ D Λ M1 (κ.1 + rm.cells, κ.2 + rm.slots) pc lv E) : V Γ D Λ M κ pc lv (x1 :: x0 :: .ref b :: st) := V_callVXV0 (As := [x0, x1]) g hM d hk rfl hΛ hc hcy hr hs hq kk kx
theorem V_callSXV_1 {y : MethodName} {bytes : ByteArray} {maxL idx : Nat} {rm : Room} {Ψ : MM → Prop} {x0 : Value} {Ξ : String → MM → Prop} (g : VOk Γ D Λ own cc nL l R) (hM : CXV l y bytes maxL rm [x0] D Λ M Ψ Ξ) (d : decode cc pc = .ok (.invokestatic idx, 3)) (hk : lkS own idx y bytes maxL none 1) (hr : rmOk rm maxL R κ = true) (hs : stOk st = true) (hq : pc + 3 = q) (kk : ∀ M1, Ψ M1 → V Γ D Λ M1 (κ.1 + rm.cells, κ.2 + rm.slots) q lv st) (kx : ∀ E M1, Ξ E M1 → VX Γ D Λ M1 (κ.1 + rm.cells, κ.2 + rm.slots) pc lv E) : V Γ D Λ M κ pc lv (x0 :: st) := V_callSXV0 (As := [x0]) g hM d hk rfl hr hs hq kk kx
theorem V_callHI_2 {y : MethodName} {bytes : ByteArray} {maxL idx : Nat} {rm : Room} {rt : FieldType} {hh : List (Nat × Nat × Nat × Nat)} {Ψ : Int → MM → Prop} {x0 x1 : Value} (g : VOk Γ D Λ own cc nL l R) (hM : CXH l y bytes maxL rt hh rm [x0, x1] D Λ M Ψ) (d : decode cc pc = .ok (.invokestatic idx, 3)) (hk : lkH own idx y bytes maxL (some rt) hh 2) (hr : rmOk rm maxL R κ = true) (hs : stOk st = true) (hq : pc + 3 = q) (kk : ∀ z M1, Ψ z M1 → V Γ D Λ M1 (κ.1 + rm.cells, κ.2 + rm.slots) q lv (vi z :: st)) : V Γ D Λ M κ pc lv (x1 :: x0 :: st) := V_callHI0 (As := [x0, x1]) g hM d hk rfl hr hs hq kk
theorem V_callHI_3 {y : MethodName} {bytes : ByteArray} {maxL idx : Nat} {rm : Room} {rt : FieldType} {hh : List (Nat × Nat × Nat × Nat)} {Ψ : Int → MM → Prop} {x0 x1 x2 : Value} (g : VOk Γ D Λ own cc nL l R) (hM : CXH l y bytes maxL rt hh rm [x0, x1, x2] D Λ M Ψ) (d : decode cc pc = .ok (.invokestatic idx, 3)) (hk : lkH own idx y bytes maxL (some rt) hh 3) (hr : rmOk rm maxL R κ = true) (hs : stOk st = true) (hq : pc + 3 = q) (kk : ∀ z M1, Ψ z M1 → V Γ D Λ M1 (κ.1 + rm.cells, κ.2 + rm.slots) q lv (vi z :: st)) : V Γ D Λ M κ pc lv (x2 :: x1 :: x0 :: st) := V_callHI0 (As := [x0, x1, x2]) g hM d hk rfl hr hs hq kk
theorem V_callHI_4 {y : MethodName} {bytes : ByteArray} {maxL idx : Nat} {rm : Room} {rt : FieldType} {hh : List (Nat × Nat × Nat × Nat)} {Ψ : Int → MM → Prop} {x0 x1 x2 x3 : Value} (g : VOk Γ D Λ own cc nL l R) (hM : CXH l y bytes maxL rt hh rm [x0, x1, x2, x3] D Λ M Ψ) (d : decode cc pc = .ok (.invokestatic idx, 3)) (hk : lkH own idx y bytes maxL (some rt) hh 4) (hr : rmOk rm maxL R κ = true) (hs : stOk st = true) (hq : pc + 3 = q) (kk : ∀ z M1, Ψ z M1 → V Γ D Λ M1 (κ.1 + rm.cells, κ.2 + rm.slots) q lv (vi z :: st)) : V Γ D Λ M κ pc lv (x3 :: x2 :: x1 :: x0 :: st) := V_callHI0 (As := [x0, x1, x2, x3]) g hM d hk rfl hr hs hq kk
theorem V_callHI_5 {y : MethodName} {bytes : ByteArray} {maxL idx : Nat} {rm : Room} {rt : FieldType} {hh : List (Nat × Nat × Nat × Nat)} {Ψ : Int → MM → Prop} {x0 x1 x2 x3 x4 : Value} (g : VOk Γ D Λ own cc nL l R) (hM : CXH l y bytes maxL rt hh rm [x0, x1, x2, x3, x4] D Λ M Ψ) (d : decode cc pc = .ok (.invokestatic idx, 3)) (hk : lkH own idx y bytes maxL (some rt) hh 5) (hr : rmOk rm maxL R κ = true) (hs : stOk st = true) (hq : pc + 3 = q) (kk : ∀ z M1, Ψ z M1 → V Γ D Λ M1 (κ.1 + rm.cells, κ.2 + rm.slots) q lv (vi z :: st)) : V Γ D Λ M κ pc lv (x4 :: x3 :: x2 :: x1 :: x0 :: st) := V_callHI0 (As := [x0, x1, x2, x3, x4]) g hM d hk rfl hr hs hq kk
theorem V_callHI_6 {y : MethodName} {bytes : ByteArray} {maxL idx : Nat} {rm : Room} {rt : FieldType} {hh : List (Nat × Nat × Nat × Nat)} {Ψ : Int → MM → Prop} {x0 x1 x2 x3 x4 x5 : Value} (g : VOk Γ D Λ own cc nL l R) (hM : CXH l y bytes maxL rt hh rm [x0, x1, x2, x3, x4, x5] D Λ M Ψ) (d : decode cc pc = .ok (.invokestatic idx, 3)) (hk : lkH own idx y bytes maxL (some rt) hh 6) (hr : rmOk rm maxL R κ = true) (hs : stOk st = true) (hq : pc + 3 = q) (kk : ∀ z M1, Ψ z M1 → V Γ D Λ M1 (κ.1 + rm.cells, κ.2 + rm.slots) q lv (vi z :: st)) : V Γ D Λ M κ pc lv (x5 :: x4 :: x3 :: x2 :: x1 :: x0 :: st) := V_callHI0 (As := [x0, x1, x2, x3, x4, x5]) g hM d hk rfl hr hs hq kk
end XV
