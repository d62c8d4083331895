/-- what is thrown: its type's name, the world then -/
def XCm (D : DD) (Λ : LY) (sz : Nat) (Ξ : String → MM → Prop) : String → State → State → Prop := vx_X (S := MM) (fun _ => True) (fun E M' t => Ξ E M' ∧ Hd D Λ M' t.heap) (Aw Λ sz)
def CXI (l : Launch) (y : MethodName) (cc : ByteArray) (nL : Nat) (ret : FieldType) (rm : Room) (As : List Value) (D : DD) (Λ : LY) (M : MM) (Ψ : Int → MM → Prop) (Ξ : String → MM → Prop) : Prop := ∀ sz, vx_Met l y (WS y cc nL (some ret)) rm (Pw D Λ M sz As) (QcI D Λ sz Ψ) (XCm D Λ sz Ξ) 1 6 (Aw Λ sz)
def CXV (l : Launch) (y : MethodName) (cc : ByteArray) (nL : Nat) (rm : Room) (As : List Value) (D : DD) (Λ : LY) (M : MM) (Ψ : MM → Prop) (Ξ : String → MM → Prop) : Prop := ∀ sz, vx_Met l y (WS y cc nL none) rm (Pw D Λ M sz As) (QcV D Λ sz Ψ) (XCm D Λ sz Ξ) 1 6 (Aw Λ sz)
def RetQX (Γ : VG) (ret : Option FieldType) (Qc : Array Value → State → Outcome → State → Prop) (XC : String → State → State → Prop) (A : Nat → Prop) : Prop := gQ Γ = vx_MQ (gb Γ) Qc XC (ga Γ) (gs Γ) 1 6 A ∧ (gM Γ).sig.returnType = ret ∧ ∀ x ∈ (gc Γ).exceptionTable.toList, False
/-- the judgement of a frame in which E was thrown -/
def VX (Γ : VG) (D : DD) (Λ : LY) (M : MM) (κ : Nat × Nat) (pc : Nat) (lv : List (Option Value)) (E : String) : Prop :=
  ∀ (H : Heap) (locs : List Loc) (ls : Array Slot) (st : List Value) (qa : Addr) (ce : Cell), Hd D Λ M H → va_S (Aw Λ (gs Γ).heap.size) (gs Γ).heap H locs → lvH ls (gnL Γ) lv → H[qa]? = some ce → ce.vm = .none → (gs Γ).vm.findClass E = some ce.cls →
    vx_W (gp Γ) (gl Γ) (ge Γ) (gR Γ) (gs Γ) (gm Γ) (ga Γ) (gb Γ) (gM Γ) (gc Γ) H locs κ.1 κ.2 (gQ Γ) (F0 (gm Γ) pc ls st) qa
theorem CX_of {D : DD} {Λ : LY} {l : Launch} {M : MM} {y : MethodName} {cc : ByteArray} {nL : Nat} {rm : Room} {As : List Value} {lv : List (Option Value)} {ret : Option FieldType} {Qc : Nat → Array Value → State → Outcome → State → Prop} {Ξ : String → MM → Prop} (hy : plainName y.cls = true) (hlv : lvOf As nL = lv) (hlen : (lg_sl As).length ≤ nL)
    (body : ∀ Γ, VOk Γ D Λ y.cls cc nL l rm → RetQX Γ ret (Qc (gs Γ).heap.size) (XCm D Λ (gs Γ).heap.size Ξ) (Aw Λ (gs Γ).heap.size) → V Γ D Λ M (0, 0) 0 lv []) (sz : Nat) : vx_Met l y (WS y cc nL ret) rm (Pw D Λ M sz As) (Qc sz) (XCm D Λ sz Ξ) 1 6 (Aw Λ sz) := by
  subst hlv
  refine vx_ofW (cc := cc) (maxL := nL) (ret := ret) hy rfl ?_
  intro p e s m args below meth c s₁ B hml hx hv
  obtain ⟨rfl, hsz, hP, hK, hst⟩ := hv
  subst hsz
  have hts := atoms_spec (ws := WS y cc nL ret) B.pre
  have hk := body ((p, l, e, (headSpec (WS y cc nL ret) rm).room, s), (m, As.toArray, below, meth, c), (nL, vx_MQ below (Qc s.heap.size) (XCm D Λ s.heap.size Ξ) As.toArray s 1 6 (Aw Λ s.heap.size)))
    ⟨B.exec, B.bytes, hml, rfl, findClass_of_methodNamed B.named, fun w hw => hts w (List.mem_cons_of_mem _ hw), hK, hst, B.notSynchronized, rfl, rfl⟩ ⟨rfl, B.returns, hx⟩
  rw [lg_entry_eq]
  exact hk s.heap [] _ hP va_S.rf (lvH_entry As hlen)
section XV
variable {Γ : VG} {D : DD} {Λ : LY} {own : String} {cc : ByteArray} {nL : Nat} {l : Launch} {R : Room} {M : MM} {κ : Nat × Nat} {pc q : Nat} {lv : List (Option Value)} {st : List Value}
theorem VX_out {ret : Option FieldType} {Qc : Array Value → State → Outcome → State → Prop} {Ξ : String → MM → Prop} {E : String} (g : VOk Γ D Λ own cc nL l R) (r : RetQX Γ ret Qc (XCm D Λ (gs Γ).heap.size Ξ) (Aw Λ (gs Γ).heap.size)) (hκ : κ.1 ≤ 1 ∧ κ.2 ≤ 6) (h : Ξ E M) : VX Γ D Λ M κ pc lv E := by
  intro H locs ls st qa ce h1 h2 h3 hc hv hcl
  rw [r.1]
  exact vx_out (fun x hx => False.elim (r.2.2 x hx)) g.locks hc hv hcl (fun t ht hW => ⟨M, trivial, ⟨h, by rw [ht]; exact h1⟩, h2.F ht⟩) h2.2.2 hκ.1 hκ.2
end XV
