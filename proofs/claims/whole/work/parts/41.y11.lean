section XR
variable {Γ : VG} {D : DD} {Λ : LY} {own : String} {cc : ByteArray} {nL : Nat} {l : Launch} {R : Room} {M : MM} {κ : Nat × Nat} {pc q : Nat} {lv : List (Option Value)} {st : List Value}
theorem V_ireturnX {z : Int} {ty : FieldType} {Ψ : Int → MM → Prop} {Ξ : String → MM → Prop} (g : VOk Γ D Λ own cc nL l R) (r : RetQX Γ (some ty) (QcI D Λ (gs Γ).heap.size Ψ) (XCm D Λ (gs Γ).heap.size Ξ) (Aw Λ (gs Γ).heap.size)) (d : decode cc pc = .ok (.ireturn, 1)) (hn : narrow ty (vi z) = vi z) (h : Ψ z M) : V Γ D Λ M (0, 0) pc lv [vi z] := by
  intro H locs ls h1 h2 h3
  rw [r.1]
  have hk : W (gp Γ) (gl Γ) (ge Γ) (gR Γ) (gs Γ) (gm Γ) (ga Γ) (gb Γ) (gM Γ) (gc Γ) H locs 1 6 (vx_MQ (gb Γ) (QcI D Λ (gs Γ).heap.size Ψ) (XCm D Λ (gs Γ).heap.size Ξ) (ga Γ) (gs Γ) 1 6 (Aw Λ (gs Γ).heap.size)) (F0 (gm Γ) pc ls [vi z]) := vx_ret (W.zret (hlocks := g.locks) g.exec g.code r.2.1 hn (fun t ht hW => ⟨⟨iI z, M, rfl, ⟨z, rfl, h⟩, by show Hd D Λ M t.heap; rw [ht]; exact h1⟩, h2.F ht⟩) h2.2.2 d)
  exact fun T hT X => hk T hT (stand_widen X (by decide) (by decide))
theorem V_returnX {Ψ : MM → Prop} {Ξ : String → MM → Prop} (g : VOk Γ D Λ own cc nL l R) (r : RetQX Γ none (QcV D Λ (gs Γ).heap.size Ψ) (XCm D Λ (gs Γ).heap.size Ξ) (Aw Λ (gs Γ).heap.size)) (d : decode cc pc = .ok (.return_, 1)) (h : Ψ M) : V Γ D Λ M (0, 0) pc lv [] := by
  intro H locs ls h1 h2 h3
  rw [r.1]
  have hk : W (gp Γ) (gl Γ) (ge Γ) (gR Γ) (gs Γ) (gm Γ) (ga Γ) (gb Γ) (gM Γ) (gc Γ) H locs 1 6 (vx_MQ (gb Γ) (QcV D Λ (gs Γ).heap.size Ψ) (XCm D Λ (gs Γ).heap.size Ξ) (ga Γ) (gs Γ) 1 6 (Aw Λ (gs Γ).heap.size)) (F0 (gm Γ) pc ls []) := vx_ret (W.vret (hlocks := g.locks) g.exec g.code r.2.1 (fun t ht hW => ⟨⟨M, rfl, h, by show Hd D Λ M t.heap; rw [ht]; exact h1⟩, h2.F ht⟩) h2.2.2 d)
  exact fun T hT X => hk T hT (stand_widen X (by decide) (by decide))
/-- a call on a cell of the world that may throw -/
theorem V_callVXI0 {y : MethodName} {bytes : ByteArray} {maxL idx n : Nat} {rm : Room} {As : List Value} {rt : FieldType} {Ψ : Int → MM → Prop} {Ξ : String → MM → Prop} {b ci : Nat} {fl : List (Option Nat)} {cT : vw_C} (g : VOk Γ D Λ own cc nL l R) (hM : CXI l y bytes maxL rt rm (.ref b :: As) D Λ M Ψ Ξ) (d : decode cc pc = .ok (.invokevirtual idx, 3)) (hk : lkV own idx y bytes maxL (some rt) n) (hn : As.length = n) (hΛ : Λ b = some (kO ci fl)) (hc : vwCl[ci]? = some cT) (hcy : cT.1 = y.cls) (hr : rmOk rm maxL R κ = true) (hs : stOk st = true) (hz0 : rm.cells = 1 ∧ rm.slots = 6) (hq : pc + 3 = q) (kk : ∀ z M1, Ψ z M1 → V Γ D Λ M1 (κ.1 + 1, κ.2 + 6) q lv (vi z :: st)) (kx : ∀ E M1, Ξ E M1 → VX Γ D Λ M1 (κ.1 + 1, κ.2 + 6) pc lv E) : V Γ D Λ M κ pc lv (As.reverse ++ .ref b :: st) := by
  subst hq
  intro H locs ls h1 h2 h3
  obtain ⟨r1, r2⟩ := rmOk_sp hr
  have r3 : κ.1 + 1 ≤ R.cells ∧ κ.2 + 6 ≤ R.slots := by rw [hz0.1, hz0.2] at r2; exact r2
  have h8 : gl Γ = l := g.gl
  have h9 : gR Γ = R := g.room
  have hrc := va_recv g.hK (h1.one hΛ) hc (q0 := 0) rfl
  rw [hcy] at hrc
  refine vx_calli (mc := 1) (ms := 6) (a := (Value.ref b :: As).toArray) (free := Aw Λ H.size) (A1 := Aw Λ H.size) (AX := Aw Λ H.size) (rest := st) (vx_runV (C := y.cls) (As := As) (rest := st) ⟨g.exec, g.code, g.ml, g.hown, g.hts⟩ (h8 ▸ hM H.size) (cwV n g.hts (ws_good (wx := [Cond.methodLink own idx y, .instanceMethod y, .selects y.cls y y, .initialized y.cls]) hk.1) rfl hz0.1 hz0.2 ⟨rfl, yOk_sp hk.2⟩ (by rw [h9]; exact r1)) ⟨Pw.blind, hrc, fun U hU hW => Pw.at g h1 h2 hU hW⟩ rfl hn (lvH.size g h3) rfl (stOk_sp hs) d (by rw [h9]; exact r3)) h2 (fun q _ h => aw_sub h2.1 q h) (aw_sub h2.1) (fun q _ h => aw_sub h2.1 q h) (fun E ce q9 u t H1 locs1 ht hvm hp hB hz hk2 hS hce hcv hcl => ?_) (fun r u t H1 locs1 ht hvm hp hB hz hk2 hS => ?_)
  · exact kx E u hB.1 H1 locs1 ls st q9 ce (by rw [← ht]; exact hB.2) hS h3 hce hcv hcl
  · obtain ⟨z, rfl, hΨ⟩ := hp
    exact kk z u hΨ H1 locs1 ls (by rw [← ht]; exact hB) hS h3
theorem V_callVXV0 {y : MethodName} {bytes : ByteArray} {maxL idx n : Nat} {rm : Room} {As : List Value} {Ψ : MM → Prop} {Ξ : String → MM → Prop} {b ci : Nat} {fl : List (Option Nat)} {cT : vw_C} (g : VOk Γ D Λ own cc nL l R) (hM : CXV l y bytes maxL rm (.ref b :: As) D Λ M Ψ Ξ) (d : decode cc pc = .ok (.invokevirtual idx, 3)) (hk : lkV own idx y bytes maxL none n) (hn : As.length = n) (hΛ : Λ b = some (kO ci fl)) (hc : vwCl[ci]? = some cT) (hcy : cT.1 = y.cls) (hr : rmOk rm maxL R κ = true) (hs : stOk st = true) (hz0 : rm.cells = 1 ∧ rm.slots = 6) (hq : pc + 3 = q) (kk : ∀ M1, Ψ M1 → V Γ D Λ M1 (κ.1 + 1, κ.2 + 6) q lv st) (kx : ∀ E M1, Ξ E M1 → VX Γ D Λ M1 (κ.1 + 1, κ.2 + 6) pc lv E) : V Γ D Λ M κ pc lv (As.reverse ++ .ref b :: st) := by
  subst hq
  intro H locs ls h1 h2 h3
  obtain ⟨r1, r2⟩ := rmOk_sp hr
  have r3 : κ.1 + 1 ≤ R.cells ∧ κ.2 + 6 ≤ R.slots := by rw [hz0.1, hz0.2] at r2; exact r2
  have h8 : gl Γ = l := g.gl
  have h9 : gR Γ = R := g.room
  have hrc := va_recv g.hK (h1.one hΛ) hc (q0 := 0) rfl
  rw [hcy] at hrc
  refine vx_callv (mc := 1) (ms := 6) (a := (Value.ref b :: As).toArray) (free := Aw Λ H.size) (A1 := Aw Λ H.size) (AX := Aw Λ H.size) (rest := st) (vx_runV (C := y.cls) (As := As) (rest := st) ⟨g.exec, g.code, g.ml, g.hown, g.hts⟩ (h8 ▸ hM H.size) (cwV n g.hts (ws_good (wx := [Cond.methodLink own idx y, .instanceMethod y, .selects y.cls y y, .initialized y.cls]) hk.1) rfl hz0.1 hz0.2 ⟨rfl, yOk_sp hk.2⟩ (by rw [h9]; exact r1)) ⟨Pw.blind, hrc, fun U hU hW => Pw.at g h1 h2 hU hW⟩ rfl hn (lvH.size g h3) rfl (stOk_sp hs) d (by rw [h9]; exact r3)) h2 (fun q _ h => aw_sub h2.1 q h) (aw_sub h2.1) (fun q _ h => aw_sub h2.1 q h) (fun E ce q9 u t H1 locs1 ht hvm hp hB hz hk2 hS hce hcv hcl => ?_) (fun u t H1 locs1 ht hvm hp hB hz hk2 hS => ?_)
  · exact kx E u hB.1 H1 locs1 ls st q9 ce (by rw [← ht]; exact hB.2) hS h3 hce hcv hcl
  · exact kk u hp H1 locs1 ls (by rw [← ht]; exact hB) hS h3
theorem V_callSXV0 {y : MethodName} {bytes : ByteArray} {maxL idx n : Nat} {rm : Room} {As : List Value} {Ψ : MM → Prop} {Ξ : String → MM → Prop} (g : VOk Γ D Λ own cc nL l R) (hM : CXV l y bytes maxL rm As D Λ M Ψ Ξ) (d : decode cc pc = .ok (.invokestatic idx, 3)) (hk : lkS own idx y bytes maxL none n) (hn : As.length = n) (hr : rmOk rm maxL R κ = true) (hs : stOk st = true) (hz0 : rm.cells = 1 ∧ rm.slots = 6) (hq : pc + 3 = q) (kk : ∀ M1, Ψ M1 → V Γ D Λ M1 (κ.1 + 1, κ.2 + 6) q lv st) (kx : ∀ E M1, Ξ E M1 → VX Γ D Λ M1 (κ.1 + 1, κ.2 + 6) pc lv E) : V Γ D Λ M κ pc lv (As.reverse ++ st) := by
  subst hq
  intro H locs ls h1 h2 h3
  obtain ⟨r1, r2⟩ := rmOk_sp hr
  have r3 : κ.1 + 1 ≤ R.cells ∧ κ.2 + 6 ≤ R.slots := by rw [hz0.1, hz0.2] at r2; exact r2
  have h8 : gl Γ = l := g.gl
  have h9 : gR Γ = R := g.room
  refine vx_callv (mc := 1) (ms := 6) (a := As.toArray) (free := Aw Λ H.size) (A1 := Aw Λ H.size) (AX := Aw Λ H.size) (rest := st) (vx_runS (As := As) (rest := st) ⟨g.exec, g.code, g.ml, g.hown, g.hts⟩ (h8 ▸ hM H.size) (va_cwS n g.hts (ws_good (wx := [Cond.methodLink own idx y, .static y, .initialized y.cls]) hk.1) rfl hz0.1 hz0.2 (yOk_sp hk.2) (by rw [h9]; exact r1)) ⟨Pw.blind, fun U hU hW => Pw.at g h1 h2 hU hW⟩ rfl hn (lvH.size g h3) rfl (stOk_sp hs) d (by rw [h9]; exact r3)) h2 (fun q _ h => aw_sub h2.1 q h) (aw_sub h2.1) (fun q _ h => aw_sub h2.1 q h) (fun E ce q9 u t H1 locs1 ht hvm hp hB hz hk2 hS hce hcv hcl => ?_) (fun u t H1 locs1 ht hvm hp hB hz hk2 hS => ?_)
  · exact kx E u hB.1 H1 locs1 ls st q9 ce (by rw [← ht]; exact hB.2) hS h3 hce hcv hcl
  · exact kk u hp H1 locs1 ls (by rw [← ht]; exact hB) hS h3
end XR
