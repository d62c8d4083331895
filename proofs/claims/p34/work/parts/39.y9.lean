section PN
variable {Γ : VG} {D : DD} {Λ : LY} {own : String} {cc : ByteArray} {nL : Nat} {l : Launch} {R : Room} {M : MM} {κ : Nat × Nat} {pc q : Nat} {lv : List (Option Value)} {st : List Value}
theorem V_putIN {ci idx k a N : Nat} {C : String} {T : u_T} {fl : List (Option Nat)} {j x : Int} {ty0 : Nat → FieldType} {ty : FieldType} (g : VOk Γ D Λ own cc nL l R) (d : decode cc pc = .ok (.putfield idx, 3)) (hq : pc + 3 = q) (hf : fdN own idx C T N k) (hty : ∀ k, k < N → parseFieldDescriptor (T k).2.2.1 = some (ty0 k)) (hnm : ∀ a, a < N → ∀ b, b < N → a ≠ b → (T a).2.1 ≠ (T b).2.1) (hc : vwCl[ci]? = some (C, T, N)) (hΛ : Λ a = some (kO ci fl)) (hk : fl[k]? = some none) (hfin : (T k).2.2.2 = false) (htk : ty0 k = ty) (hn : narrow ty (vi x) = vi x) (hfit : fits ty (vi x) = true) (hj : (k : Int) = j) (kk : V Γ D Λ (wr M a j x) κ q lv st) : V Γ D Λ M κ pc lv (vi x :: .ref a :: st) := by
  subst hq
  intro H locs ls h1 h2 h3
  obtain ⟨⟨host, f1⟩, f2, f3, f4⟩ := hf
  subst hj
  subst htk
  have hap := va_apart (own := own) g.hts f2 ty0 hty hnm g.hK hc
  obtain ⟨r, e1, cell, q1, q2, q3, q4⟩ := h1 a _ hΛ
  have hr : r = (C, T, N) := Option.some.inj (e1.symm.trans hc)
  subst hr
  obtain ⟨hS, hfc, kC, hkC, hkind⟩ := g.hK.1 ci _ hc
  obtain ⟨cf, kf, fi, f, hi, hsl⟩ := hS k f4
  have hlay := g.hts _ (f2 _ (u_in_lay f4))
  unfold u_lay at hlay
  rw [if_neg (by rw [hfin]; decide)] at hlay
  have hst := (u_facts hfc hkC (u_lays g.hts f2 f4) hi).1
  have h6 := u_store hfc hkC hkind hlay hi (hty k f4) hn hfit
  have hi2 : (gs Γ).fieldFound? C (T k).2.1 (T k).2.2.1 = some (cf, kf, fi, f) := by rw [f3] at hi; exact hi
  refine va_WputK g.exec g.code (f := f) g.hown (va_Nw.use (A := ga Γ) rfl (g.hst.1 _ f1)) hi2 hst (by rw [q2]; exact h6) q1 q3 (by rw [hsl]; exact k2_hasslot (q4 k f4)) rfl rfl d fun H' e1 e2 e3 => ?_
  rw [hsl] at e1 ⊢
  refine kk H' _ ls (h1.set hΛ ?_ e3) (h2.put e2 e3 (Or.inl ⟨_, hΛ⟩)) h3
  have hl : k < (fO fl (M a) 0).length := by rw [fO_len]; exact (List.getElem?_eq_some_iff.mp hk).1
  have h9 := fO_set fl (M a) 0 k x hk
  rw [Int.zero_add] at h9
  refine ⟨_, hc, ?_⟩
  show t_OB a _ _ _ _ (vp_V (fO fl (up (M a) k x) 0))
  rw [← h9]
  exact t_OB.to (V := updV (vp_V (fO fl (M a) 0)) k (vi x)) ⟨_, e1, q2, q3, t_set q4 hap f4 (vi x)⟩ (fun j _ => vp_updV_set hl (vi x) j)
end PN
