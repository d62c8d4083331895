/-- a save slot on both sides -/
def SlR (M : MM) (s d : Nat) (j : Int) : Prop := (0 ≤ M (s + d) 1 ∧ M (s + d) 1 ≤ 1) ∧ M (s + 217 + 6) j = M (s + d) 1 ∧ (M (s + d) 1 ≠ 0 → Off M (s + d + 1) (rowOf (M (s + 217 + 5)) (134 * j)) ∧ Inv (rowOf (M (s + 217 + 5)) (134 * j)))
/-- the remembered states on both sides -/
def MmR (M : MM) (s : Nat) : Prop := ∀ i : Int, 0 ≤ i → i < M (s + 23) 2 → Off M (gO (s + 23) ((M (s + 23) 1 + 14 - i) % 15).toNat) (rowOf (M (s + 217 + 4)) (134 * (M (s + 23) 2 - 1 - i))) ∧ Inv (rowOf (M (s + 217 + 4)) (134 * (M (s + 23) 2 - 1 - i)))
/-- the program's object at s and the reference at s + 217 are in step, at the numbers f -/
def Rel (M : MM) (s : Nat) (f : Int → Int) : Prop :=
  (Off M (s + 1) f ∧ Inv f ∧ M (s + 217 + 2) = f) ∧ ((0 ≤ M (s + 23) 1 ∧ M (s + 23) 1 < 15) ∧ (0 ≤ M (s + 23) 2 ∧ M (s + 23) 2 ≤ 14) ∧ M (s + 217) 6 = M (s + 23) 2 ∧ MmR M s) ∧
  (SlR M s 190 0 ∧ SlR M s 202 1) ∧ M (s + 214) 1 = M (s + 217) 2 ∧ M (s + 214 + 1) = M (s + 217 + 1) ∧ Txt (M (s + 217 + 1)) (M (s + 217) 2)
/-- what both objects are by is the same -/
def Sm (M M1 : MM) (s : Nat) : Prop := (∀ b : Nat, s ≤ b → b < s + 217 → (b < s + 12 ∨ s + 22 < b) → b ≠ s + 214 → b ≠ s + 216 → M1 b = M b) ∧ M1 (s + 214) 1 = M (s + 214) 1 ∧ (∀ b : Nat, s + 217 < b → b ≤ s + 223 → b ≠ s + 220 → M1 b = M b) ∧ M1 (s + 217) 2 = M (s + 217) 2 ∧ M1 (s + 217) 6 = M (s + 217) 6
theorem Sm.rf {M : MM} {s : Nat} : Sm M M s := ⟨fun _ _ _ _ _ _ => rfl, rfl, fun _ _ _ _ => rfl, rfl, rfl⟩
theorem Sm.tr {M M1 M2 : MM} {s : Nat} (h : Sm M M1 s) (k : Sm M1 M2 s) : Sm M M2 s := ⟨fun b a1 a2 a3 a4 a5 => (k.1 b a1 a2 a3 a4 a5).trans (h.1 b a1 a2 a3 a4 a5), k.2.1.trans h.2.1, fun b a1 a2 a3 => (k.2.2.1 b a1 a2 a3).trans (h.2.2.1 b a1 a2 a3), k.2.2.2.1.trans h.2.2.2.1, k.2.2.2.2.trans h.2.2.2.2⟩
theorem Sm.wrO {M : MM} {s : Nat} {k v : Int} : Sm M (wr M (s + 224) k v) s := ⟨fun b a1 a2 _ _ _ => wr_ne _ _ _ (by omega), by rw [wr_ne _ _ _ (by omega)], fun b a1 a2 _ => wr_ne _ _ _ (by omega), by rw [wr_ne _ _ _ (by omega)], by rw [wr_ne _ _ _ (by omega)]⟩
theorem Sm.wr0 {M : MM} {s : Nat} {v : Int} : Sm M (wr M (s + 217) 0 v) s := ⟨fun b a1 a2 _ _ _ => wr_ne _ _ _ (by omega), by rw [wr_ne _ _ _ (by omega)], fun b a1 a2 _ => wr_ne _ _ _ (by omega), wr_ii _ _ _ (by decide), wr_ii _ _ _ (by decide)⟩
theorem Sm.tri {M : MM} {s : Nat} {t : Int → Int} : Sm M (aset M (s + 217 + 3) t) s := ⟨fun b a1 a2 _ _ _ => aset_ne _ _ (by omega), by rw [aset_ne _ _ (by omega)], fun b a1 a2 a3 => aset_ne _ _ (by omega), by rw [aset_ne _ _ (by omega)], by rw [aset_ne _ _ (by omega)]⟩
theorem Sm.cpy {M M1 : MM} {s : Nat} (h : Oth M M1 (s + 12)) : Sm M M1 s := ⟨fun b a1 a2 a3 _ _ => h b (by omega), by rw [h _ (by omega)], fun b a1 a2 _ => h b (by omega), by rw [h _ (by omega)], by rw [h _ (by omega)]⟩
theorem Sm.cx {M M1 : MM} {s : Nat} {p c : Int} (h : Cx M M1 (s + 214) p c) : Sm M M1 s := ⟨fun b a1 a2 _ a4 a5 => h.2.2.2 b a4 (by omega), h.2.2.1 1 (by decide) (by decide), fun b a1 a2 _ => h.2.2.2 b (by omega) (by omega), by rw [h.2.2.2 _ (by omega) (by omega)], by rw [h.2.2.2 _ (by omega) (by omega)]⟩
theorem Sm.tx {M M1 : MM} {s : Nat} {p o : Int} {g : Int → Int} (h : Tx M M1 (s + 217) p o g) : Sm M M1 s := ⟨fun b a1 a2 _ _ _ => h.2.2.2.2 b (by omega) (by omega), by rw [h.2.2.2.2 _ (by omega) (by omega)], fun b a1 a2 a3 => h.2.2.2.2 b (by omega) (by omega), h.2.2.2.1 2 (by decide) (by decide), h.2.2.2.1 6 (by decide) (by decide)⟩
theorem Off.cgB {M : MM} {o : Nat} {f f' : Int → Int} (h : Off M o f) (hI : Inv f) (e : ∀ j : Int, 0 ≤ j → j < 134 → f j = f' j) : Off M o f' := by
  obtain ⟨h0, h1, hc9, hh, hl, hv0, hv1, ht⟩ := h
  have i0 := hI.1
  have e0 := e 0 (by omega) (by omega)
  refine ⟨h0.trans e0, h1.trans (e 1 (by omega) (by omega)), fun c b1 b2 => ?_, fun j d1 d2 => (hh j d1 d2).trans (e _ (by omega) (by omega)), fun j d1 d2 => (hl j d1 d2).trans (e _ (by omega) (by omega)), hv0.trans (e _ (by omega) (by omega)), hv1.trans (e _ (by omega) (by omega)), fun j d1 d2 => (ht j d1 d2).trans (e _ (by omega) (by omega))⟩
  obtain ⟨q1, q2, q3, q4, q5, q6⟩ := hc9 c b1 (by omega)
  exact ⟨q1.trans (e _ (by omega) (by omega)), q2.trans (e _ (by omega) (by omega)), q3.trans (e _ (by omega) (by omega)), q4.trans (e _ (by omega) (by omega)), q5.trans (e _ (by omega) (by omega)), fun k d1 d2 => (q6 k d1 d2).trans (e _ (by omega) (by omega))⟩
theorem Inv.cgB {f f' : Int → Int} (hI : Inv f) (e : ∀ j : Int, 0 ≤ j → j < 134 → f j = f' j) : Inv f' := by
  obtain ⟨i0, i1, i10, i11, is, ig, ic⟩ := hI
  have e0 := e 0 (by omega) (by omega)
  have e1 := e 1 (by omega) (by omega)
  refine ⟨by rw [← e0]; exact i0, by rw [← e1]; exact i1, by rw [← e 10 (by omega) (by omega)]; exact i10, by rw [← e 11 (by omega) (by omega)]; exact i11, fun j a b => by rw [← e _ (by omega) (by omega)]; exact is j a b, fun g a b => ?_, fun c a b => ?_⟩
  · obtain ⟨g1, g2, g3, g4⟩ := ig g a b
    exact ⟨by rw [← e _ (by omega) (by omega)]; exact g1, by rw [← e _ (by omega) (by omega)]; exact g2, by rw [← e _ (by omega) (by omega)]; exact g3, by rw [← e _ (by omega) (by omega)]; exact g4⟩
  · obtain ⟨c1, c2, c3, c4, c5⟩ := ic c a (by omega)
    exact ⟨by rw [← e _ (by omega) (by omega)]; exact c1, by rw [← e _ (by omega) (by omega), ← e1]; exact c2, by rw [← e _ (by omega) (by omega)]; exact c3, by rw [← e _ (by omega) (by omega)]; exact c4, fun k d1 d2 => by rw [← e _ (by omega) (by omega)]; exact c5 k d1 d2⟩
theorem SlR.eqv {M M1 : MM} {s d : Nat} {j : Int} (h : SlR M s d j) (e0 : M1 (s + d) 1 = M (s + d) 1) (e6 : M1 (s + 217 + 6) j = M (s + 217 + 6) j) (e5 : ∀ i : Int, 0 ≤ i → i < 134 → M1 (s + 217 + 5) (134 * j + i) = M (s + 217 + 5) (134 * j + i)) (eo : ∀ b : Nat, s + d + 1 ≤ b → b ≤ s + d + 11 → M1 b = M b) : SlR M1 s d j := by
  obtain ⟨h1, h2, h3⟩ := h
  refine ⟨by rw [e0]; exact h1, by rw [e6, e0]; exact h2, fun hn => ?_⟩
  rw [e0] at hn
  obtain ⟨a1, a2⟩ := h3 hn
  have er : ∀ i : Int, 0 ≤ i → i < 134 → rowOf (M (s + 217 + 5)) (134 * j) i = rowOf (M1 (s + 217 + 5)) (134 * j) i := fun i b1 b2 => (e5 i b1 b2).symm
  exact ⟨(a1.eqv (fun b b1 b2 => eo b b1 (by omega))).cgB a2 er, a2.cgB er⟩
theorem MmR.eqv {M M1 : MM} {s : Nat} (h : MmR M s) (hn : 0 ≤ M (s + 23) 1 ∧ M (s + 23) 1 < 15) (hc : M (s + 23) 2 ≤ 14) (e : M1 (s + 23) = M (s + 23)) (e4 : M1 (s + 217 + 4) = M (s + 217 + 4)) (eo : ∀ b : Nat, s + 25 ≤ b → b ≤ s + 189 → (b < gO (s + 23) (M (s + 23) 1).toNat ∨ gO (s + 23) (M (s + 23) 1).toNat + 10 < b) → M1 b = M b) : MmR M1 s := by
  intro i h0 h1
  rw [e] at h1 ⊢
  rw [e4]
  obtain ⟨a1, a2⟩ := h i h0 h1
  refine ⟨a1.eqv (fun b b1 b2 => eo b ?_ ?_ ?_), a2⟩
  · unfold gO at b1; omega
  · unfold gO at b2; omega
  · unfold gO at b1 b2 ⊢; omega
theorem Rel.same {M M1 : MM} {s : Nat} {f : Int → Int} (h : Rel M s f) (e : Sm M M1 s) : Rel M1 s f := by
  obtain ⟨⟨r1, r2, r3⟩, ⟨m1, m2, m3, m4⟩, ⟨s1, s2⟩, t1, t2, t3⟩ := h
  obtain ⟨e1, e2, e3, e4, e5⟩ := e
  have e23 : M1 (s + 23) = M (s + 23) := e1 _ (by omega) (by omega) (by omega) (by omega) (by omega)
  refine ⟨⟨r1.eqv (fun b a1 a2 => e1 b (by omega) (by omega) (by omega) (by omega) (by omega)), r2, (e3 _ (by omega) (by omega) (by omega)).trans r3⟩,
    ⟨by rw [e23]; exact m1, by rw [e23]; exact m2, by rw [e23, e5]; exact m3, m4.eqv m1 m2.2 e23 (e3 _ (by omega) (by omega) (by omega)) (fun b a1 a2 _ => e1 b (by omega) (by omega) (by omega) (by omega) (by omega))⟩,
    ⟨s1.eqv (by rw [e1 _ (by omega) (by omega) (by omega) (by omega) (by omega)]) (by rw [e3 _ (by omega) (by omega) (by omega)]) (fun i _ _ => by rw [e3 _ (by omega) (by omega) (by omega)]) (fun b a1 a2 => e1 b (by omega) (by omega) (by omega) (by omega) (by omega)),
     s2.eqv (by rw [e1 _ (by omega) (by omega) (by omega) (by omega) (by omega)]) (by rw [e3 _ (by omega) (by omega) (by omega)]) (fun i _ _ => by rw [e3 _ (by omega) (by omega) (by omega)]) (fun b a1 a2 => e1 b (by omega) (by omega) (by omega) (by omega) (by omega))⟩, ?_, ?_, ?_⟩
  · rw [e2, e4]; exact t1
  · rw [e1 (s + 214 + 1) (by omega) (by omega) (by omega) (by omega) (by omega), e3 (s + 217 + 1) (by omega) (by omega) (by omega)]; exact t2
  · rw [e4, e3 (s + 217 + 1) (by omega) (by omega) (by omega)]; exact t3
/-- a draft is no remembered state -/
theorem Rel.dft {M M1 : MM} {s : Nat} {f f9 : Int → Int} (h : Rel M s f) (e : Dft M s f9 M1) : Rel M1 s f := by
  obtain ⟨⟨r1, r2, r3⟩, ⟨m1, m2, m3, m4⟩, ⟨s1, s2⟩, t1, t2, t3⟩ := h
  have e1 : ∀ b : Nat, (b < s + 25 ∨ s + 189 < b) → M1 b = M b := fun b hb => e.2 b (by unfold gO; omega)
  have e23 : M1 (s + 23) = M (s + 23) := e1 _ (by omega)
  refine ⟨⟨r1.eqv (fun b a1 a2 => e1 b (by omega)), r2, (e1 _ (by omega)).trans r3⟩,
    ⟨by rw [e23]; exact m1, by rw [e23]; exact m2, by rw [e23, e1 _ (by omega)]; exact m3, m4.eqv m1 m2.2 e23 (e1 _ (by omega)) (fun b a1 a2 a3 => e.2 b a3)⟩,
    ⟨s1.eqv (by rw [e1 _ (by omega)]) (by rw [e1 _ (by omega)]) (fun i _ _ => by rw [e1 _ (by omega)]) (fun b a1 a2 => e1 b (by omega)), s2.eqv (by rw [e1 _ (by omega)]) (by rw [e1 _ (by omega)]) (fun i _ _ => by rw [e1 _ (by omega)]) (fun b a1 a2 => e1 b (by omega))⟩, ?_, ?_, ?_⟩
  · rw [e1 _ (by omega), e1 (s + 217) (by omega)]; exact t1
  · rw [e1 _ (by omega), e1 (s + 217 + 1) (by omega)]; exact t2
  · rw [e1 (s + 217) (by omega), e1 (s + 217 + 1) (by omega)]; exact t3
/-- the diary when one more is remembered -/
theorem remD_lo {d f : Int → Int} {a i j : Int} (ha : 0 ≤ a ∧ a ≤ 14) (hi : 1 ≤ i ∧ i ≤ remA a) (hj : 0 ≤ j ∧ j < 134) : remD d f a (134 * (remA a - i) + j) = d (134 * (a - i) + j) := by
  unfold remA at hi
  by_cases h14 : a = 14
  · have e1 : remA a = 13 := if_pos h14
    rw [if_pos h14] at hi
    unfold remD fCpy
    rw [e1, if_pos h14, if_neg (by omega), if_pos (by omega)]
    exact congrArg d (by omega)
  · have e1 : remA a = a := if_neg h14
    rw [if_neg h14] at hi
    unfold remD fCpy
    rw [e1, if_neg h14, if_neg (by omega)]
theorem remD_hi {d f : Int → Int} {a j : Int} (hj : 0 ≤ j ∧ j < 134) : remD d f a (134 * remA a + j) = f j := by
  unfold remD
  unfold fCpy
  rw [if_pos (by omega)]
  exact congrArg f (by omega)
theorem rem_min {a : Int} (h : 0 ≤ a ∧ a ≤ 14) : sMin (a + 1) 14 = remA a + 1 := by
  unfold sMin remA
  split <;> split <;> omega
/-- an act on both sides -/
theorem Rel.act {M M0 M1 M2 : MM} {s : Nat} {f g : Int → Int} (h : Rel M s f) (hIg : Inv g) (ha : Act M s f g M0) (h1 : ∀ b : Nat, b ≠ s + 224 → M1 b = M0 b) (h2 : aset (remM (wr M1 (s + 217) 0 0) (s + 217)) (s + 217 + 2) g = M2) : Rel M2 s g := by
  obtain ⟨⟨r1, r2, r3⟩, ⟨m1, m2, m3, m4⟩, ⟨s1, s2⟩, t1, t2, t3⟩ := h
  obtain ⟨A, B, ⟨dA, oA⟩, oB, tB, hB⟩ := ha
  have gO1 : s + 25 ≤ gO (s + 23) (M (s + 23) 1).toNat ∧ gO (s + 23) (M (s + 23) 1).toNat + 10 ≤ s + 189 := by unfold gO; omega
  have eA : ∀ b : Nat, (b < gO (s + 23) (M (s + 23) 1).toNat ∨ gO (s + 23) (M (s + 23) 1).toNat + 10 < b) → A b = M b := oA
  have eB : ∀ b : Nat, (b < s + 1 ∨ s + 11 < b) → B b = A b := fun b hb => tB b (by omega)
  have e0 : ∀ b : Nat, b ≠ s + 23 → M0 b = B b := fun b hb => by rw [← hB]; unfold kdM; rw [wr_ne _ _ _ hb, wr_ne _ _ _ hb]
  have eBy : B (s + 23) = M (s + 23) := (eB _ (by omega)).trans (eA _ (by omega))
  have ey1 : M0 (s + 23) 1 = (M (s + 23) 1 + 1) % 15 := by rw [← hB]; unfold kdM; rw [wr_ii _ _ _ (by decide), wr_iv, eBy]
  have ey2 : M0 (s + 23) 2 = remA (M (s + 23) 2) + 1 := by rw [← hB]; unfold kdM; rw [wr_iv, eBy]; exact rem_min m2
  have e2 : ∀ b : Nat, b ≠ s + 217 → b ≠ s + 219 → b ≠ s + 221 → M2 b = M1 b := fun b b1 b2 b3 => by rw [← h2, aset_ne _ _ b2, remM_ne b1 b3, wr_ne _ _ _ b1]
  have em : ∀ b : Nat, s + 217 ≤ b → b ≤ s + 223 → M1 b = M b := fun b b1 b2 => by rw [h1 _ (by omega), e0 _ (by omega), eB _ (by omega), eA _ (by omega)]
  have ep : ∀ b : Nat, (s + 11 < b ∧ b < s + 217) → b ≠ s + 23 → M2 b = A b := fun b b1 b2 => by rw [e2 _ (by omega) (by omega) (by omega), h1 _ (by omega), e0 _ b2, eB _ (by omega)]
  have eA2 : ∀ b : Nat, (s + 11 < b ∧ b < s + 217) → b ≠ s + 23 → (b < s + 25 ∨ s + 189 < b) → M2 b = M b := fun b b1 b2 b3 => (ep b b1 b2).trans (eA b (by omega))
  have y2 : M2 (s + 23) = M0 (s + 23) := by rw [e2 _ (by omega) (by omega) (by omega), h1 _ (by omega)]
  have d2 : M2 (s + 217 + 4) = remD (M (s + 217 + 4)) f (M (s + 23) 2) := by
    rw [← h2, aset_ne _ _ (by omega)]
    unfold remM
    rw [aset_at, wr_ne _ _ _ (by omega), wr_ne _ _ _ (by omega), wr_ii _ _ _ (by decide), em _ (by omega) (by omega), em _ (by omega) (by omega), em _ (by omega) (by omega), m3, r3]
  have a2 : M2 (s + 217) 6 = remA (M (s + 23) 2) + 1 := by
    rw [← h2, aset_ne _ _ (by omega)]
    unfold remM
    rw [aset_ne _ _ (by omega), aset_at, up_eq, wr_ii _ _ _ (by decide), em _ (by omega) (by omega), m3]
  have ra : 0 ≤ remA (M (s + 23) 2) ∧ remA (M (s + 23) 2) ≤ 13 ∧ remA (M (s + 23) 2) ≤ M (s + 23) 2 := by unfold remA; split <;> omega
  have m0 : M2 (s + 217) 2 = M (s + 217) 2 := by
    rw [← h2, aset_ne _ _ (by omega)]
    unfold remM
    rw [aset_ne _ _ (by omega), aset_at, up_ne (by decide), wr_ii _ _ _ (by decide), em _ (by omega) (by omega)]
  refine ⟨⟨oB.eqv (fun b b1 b2 => by rw [e2 _ (by omega) (by omega) (by omega), h1 _ (by omega), e0 _ (by omega)]), hIg, by rw [← h2, aset_at]⟩, ⟨by rw [y2, ey1]; omega, by rw [y2, ey2]; omega, by rw [a2, y2, ey2], ?_⟩, ⟨?_, ?_⟩, ?_, ?_, ?_⟩
  · intro i h0 hi
    rw [y2, ey2] at hi
    rw [y2, ey1, ey2, d2]
    by_cases hz : i = 0
    · subst hz
      have epl : (((M (s + 23) 1 + 1) % 15 + 14 - 0) % 15).toNat = (M (s + 23) 1).toNat := by omega
      have er : ∀ j : Int, 0 ≤ j → j < 134 → f j = rowOf (remD (M (s + 217 + 4)) f (M (s + 23) 2)) (134 * (remA (M (s + 23) 2) + 1 - 1 - 0)) j := fun j b1 b2 => by
        unfold rowOf
        rw [show 134 * (remA (M (s + 23) 2) + 1 - 1 - 0) + j = 134 * remA (M (s + 23) 2) + j by omega, remD_hi ⟨b1, b2⟩]
      rw [epl]
      exact ⟨(dA.eqv (fun b b1 b2 => ep b (by omega) (by omega))).cgB r2 er, r2.cgB er⟩
    · obtain ⟨c1, c2⟩ := m4 (i - 1) (by omega) (by omega)
      have epl : (((M (s + 23) 1 + 1) % 15 + 14 - i) % 15).toNat = ((M (s + 23) 1 + 14 - (i - 1)) % 15).toNat := by omega
      have epn : ((M (s + 23) 1 + 14 - (i - 1)) % 15).toNat ≠ (M (s + 23) 1).toNat ∧ ((M (s + 23) 1 + 14 - (i - 1)) % 15).toNat ≤ 14 := by omega
      have er : ∀ j : Int, 0 ≤ j → j < 134 → rowOf (M (s + 217 + 4)) (134 * (M (s + 23) 2 - 1 - (i - 1))) j = rowOf (remD (M (s + 217 + 4)) f (M (s + 23) 2)) (134 * (remA (M (s + 23) 2) + 1 - 1 - i)) j := fun j b1 b2 => by
        unfold rowOf
        rw [show 134 * (remA (M (s + 23) 2) + 1 - 1 - i) + j = 134 * (remA (M (s + 23) 2) - i) + j by omega, remD_lo m2 (by omega) ⟨b1, b2⟩]
        exact congrArg _ (by omega)
      rw [epl]
      refine ⟨(c1.eqv (fun b b1 b2 => ?_)).cgB c2 er, c2.cgB er⟩
      unfold gO at b1 b2
      rw [ep b (by omega) (by omega)]
      exact eA b (by unfold gO; omega)
  · exact s1.eqv (by rw [eA2 _ (by omega) (by omega) (by omega)]) (by rw [e2 _ (by omega) (by omega) (by omega), em _ (by omega) (by omega)]) (fun i _ _ => by rw [e2 _ (by omega) (by omega) (by omega), em _ (by omega) (by omega)]) (fun b b1 b2 => eA2 b (by omega) (by omega) (by omega))
  · exact s2.eqv (by rw [eA2 _ (by omega) (by omega) (by omega)]) (by rw [e2 _ (by omega) (by omega) (by omega), em _ (by omega) (by omega)]) (fun i _ _ => by rw [e2 _ (by omega) (by omega) (by omega), em _ (by omega) (by omega)]) (fun b b1 b2 => eA2 b (by omega) (by omega) (by omega))
  · rw [eA2 _ (by omega) (by omega) (by omega), m0]; exact t1
  · rw [eA2 (s + 214 + 1) (by omega) (by omega) (by omega), e2 (s + 217 + 1) (by omega) (by omega) (by omega), em _ (by omega) (by omega)]; exact t2
  · rw [e2 (s + 217 + 1) (by omega) (by omega) (by omega), em _ (by omega) (by omega), m0]; exact t3
/-- a state is taken back on both sides -/
theorem Rel.undo {M M0 M1 M2 : MM} {s : Nat} {f : Int → Int} (h : Rel M s f) (hn : M (s + 23) 2 ≠ 0) (ho : Off M0 (s + 1) (rowOf (M (s + 217 + 4)) (134 * (M (s + 23) 2 - 1)))) (ht : Oth (wr (wr M (s + 23) 2 (M (s + 23) 2 - 1)) (s + 23) 1 ((M (s + 23) 1 + 14) % 15)) M0 (s + 1)) (h1 : ∀ b : Nat, b ≠ s + 224 → M1 b = M0 b) (h2 : aset (wr (wr M1 (s + 217) 0 0) (s + 217) 6 (M1 (s + 217) 6 - 1)) (s + 217 + 2) (rowOf (M1 (s + 217 + 4)) (134 * (M1 (s + 217) 6 - 1))) = M2) : Rel M2 s (rowOf (M (s + 217 + 4)) (134 * (M (s + 23) 2 - 1))) := by
  obtain ⟨⟨r1, r2, r3⟩, ⟨m1, m2, m3, m4⟩, ⟨s1, s2⟩, t1, t2, t3⟩ := h
  obtain ⟨c1, c2⟩ := m4 0 (by omega) (by omega)
  rw [show M (s + 23) 2 - 1 - 0 = M (s + 23) 2 - 1 by omega] at c2
  have e0 : ∀ b : Nat, (b < s + 1 ∨ s + 11 < b) → b ≠ s + 23 → M0 b = M b := fun b b1 b2 => by rw [ht b (by omega), wr_ne _ _ _ b2, wr_ne _ _ _ b2]
  have ey1 : M0 (s + 23) 1 = (M (s + 23) 1 + 14) % 15 := by rw [ht _ (by omega), wr_iv]
  have ey2 : M0 (s + 23) 2 = M (s + 23) 2 - 1 := by rw [ht _ (by omega), wr_ii _ _ _ (by decide), wr_iv]
  have e2 : ∀ b : Nat, b ≠ s + 217 → b ≠ s + 219 → M2 b = M1 b := fun b b1 b2 => by rw [← h2, aset_ne _ _ b2, wr_ne _ _ _ b1, wr_ne _ _ _ b1]
  have em : ∀ b : Nat, s + 217 ≤ b → b ≤ s + 223 → M1 b = M b := fun b b1 b2 => by rw [h1 _ (by omega), e0 _ (by omega) (by omega)]
  have ep : ∀ b : Nat, (s + 11 < b ∧ b < s + 217) → b ≠ s + 23 → M2 b = M b := fun b b1 b2 => by rw [e2 _ (by omega) (by omega), h1 _ (by omega), e0 _ (by omega) b2]
  have y2 : M2 (s + 23) = M0 (s + 23) := by rw [e2 _ (by omega) (by omega), h1 _ (by omega)]
  have d2 : M2 (s + 217 + 4) = M (s + 217 + 4) := by rw [e2 _ (by omega) (by omega), em _ (by omega) (by omega)]
  have a2 : M2 (s + 217) 6 = M (s + 23) 2 - 1 := by rw [← h2, aset_ne _ _ (by omega), wr_iv, em _ (by omega) (by omega), m3]
  have m0 : M2 (s + 217) 2 = M (s + 217) 2 := by rw [← h2, aset_ne _ _ (by omega), wr_ii _ _ _ (by decide), wr_ii _ _ _ (by decide), em _ (by omega) (by omega)]
  have n2 : M2 (s + 217 + 2) = rowOf (M (s + 217 + 4)) (134 * (M (s + 23) 2 - 1)) := by rw [← h2, aset_at, em (s + 217 + 4) (by omega) (by omega), em (s + 217) (by omega) (by omega), m3]
  refine ⟨⟨ho.eqv (fun b b1 b2 => by rw [e2 _ (by omega) (by omega), h1 _ (by omega)]), c2, n2⟩, ⟨by rw [y2, ey1]; omega, by rw [y2, ey2]; omega, by rw [a2, y2, ey2], ?_⟩, ⟨?_, ?_⟩, ?_, ?_, ?_⟩
  · intro i h0 hi
    rw [y2, ey2] at hi
    rw [y2, ey1, ey2, d2]
    obtain ⟨c3, c4⟩ := m4 (i + 1) (by omega) (by omega)
    rw [show M (s + 23) 2 - 1 - (i + 1) = M (s + 23) 2 - 1 - 1 - i by omega] at c3 c4
    rw [show (((M (s + 23) 1 + 14) % 15 + 14 - i) % 15).toNat = ((M (s + 23) 1 + 14 - (i + 1)) % 15).toNat by omega]
    refine ⟨c3.eqv (fun b b1 b2 => ?_), c4⟩
    unfold gO at b1 b2
    exact ep b (by omega) (by omega)
  · exact s1.eqv (by rw [ep _ (by omega) (by omega)]) (by rw [e2 _ (by omega) (by omega), em _ (by omega) (by omega)]) (fun i _ _ => by rw [e2 _ (by omega) (by omega), em _ (by omega) (by omega)]) (fun b b1 b2 => ep b (by omega) (by omega))
  · exact s2.eqv (by rw [ep _ (by omega) (by omega)]) (by rw [e2 _ (by omega) (by omega), em _ (by omega) (by omega)]) (fun i _ _ => by rw [e2 _ (by omega) (by omega), em _ (by omega) (by omega)]) (fun b b1 b2 => ep b (by omega) (by omega))
  · rw [ep _ (by omega) (by omega), m0]; exact t1
  · rw [ep (s + 214 + 1) (by omega) (by omega), e2 (s + 217 + 1) (by omega) (by omega), em _ (by omega) (by omega)]; exact t2
  · rw [e2 (s + 217 + 1) (by omega) (by omega), em _ (by omega) (by omega), m0]; exact t3
/-- a slot's numbers are the office's again, on both sides -/
theorem Rel.restore {M M0 M1 M2 : MM} {s : Nat} {f g : Int → Int} {k : Int} (h : Rel M s f) (hI : Inv g) (hg : rowOf (M (s + 217 + 5)) (134 * k) = g) (ha : Rst M s g M0) (h1 : ∀ b : Nat, b ≠ s + 224 → M1 b = M0 b) (h2 : wr (aset (wr M1 (s + 217) 0 0) (s + 217 + 2) (rowOf (M1 (s + 217 + 5)) (134 * k))) (s + 217) 6 0 = M2) : Rel M2 s g := by
  obtain ⟨⟨r1, r2, r3⟩, ⟨m1, m2, m3, m4⟩, ⟨s1, s2⟩, t1, t2, t3⟩ := h
  obtain ⟨A, oA, tA, hA⟩ := ha
  have e0 : ∀ b : Nat, (b < s + 1 ∨ s + 11 < b) → b ≠ s + 23 → M0 b = M b := fun b b1 b2 => by rw [← hA, wr_ne _ _ _ b2, tA b (by omega)]
  have ey1 : M0 (s + 23) 1 = M (s + 23) 1 := by rw [← hA, wr_ii _ _ _ (by decide), tA _ (by omega)]
  have ey2 : M0 (s + 23) 2 = 0 := by rw [← hA, wr_iv]
  have e2 : ∀ b : Nat, b ≠ s + 217 → b ≠ s + 219 → M2 b = M1 b := fun b b1 b2 => by rw [← h2, wr_ne _ _ _ b1, aset_ne _ _ b2, wr_ne _ _ _ b1]
  have em : ∀ b : Nat, s + 217 ≤ b → b ≤ s + 223 → M1 b = M b := fun b b1 b2 => by rw [h1 _ (by omega), e0 _ (by omega) (by omega)]
  have ep : ∀ b : Nat, (s + 11 < b ∧ b < s + 217) → b ≠ s + 23 → M2 b = M b := fun b b1 b2 => by rw [e2 _ (by omega) (by omega), h1 _ (by omega), e0 _ (by omega) b2]
  have y2 : M2 (s + 23) = M0 (s + 23) := by rw [e2 _ (by omega) (by omega), h1 _ (by omega)]
  have a2 : M2 (s + 217) 6 = 0 := by rw [← h2, wr_iv]
  have m0 : M2 (s + 217) 2 = M (s + 217) 2 := by rw [← h2, wr_ii _ _ _ (by decide), aset_ne _ _ (by omega), wr_ii _ _ _ (by decide), em _ (by omega) (by omega)]
  have n2 : M2 (s + 217 + 2) = g := by rw [← h2, wr_ne _ _ _ (by omega), aset_at, em (s + 217 + 5) (by omega) (by omega), hg]
  refine ⟨⟨oA.eqv (fun b b1 b2 => by rw [e2 _ (by omega) (by omega), h1 _ (by omega), ← hA, wr_ne _ _ _ (by omega)]), hI, n2⟩, ⟨by rw [y2, ey1]; exact m1, by rw [y2, ey2]; decide, by rw [a2, y2, ey2], ?_⟩, ⟨?_, ?_⟩, ?_, ?_, ?_⟩
  · intro i h0 hi
    rw [y2, ey2] at hi
    omega
  · exact s1.eqv (by rw [ep _ (by omega) (by omega)]) (by rw [e2 _ (by omega) (by omega), em _ (by omega) (by omega)]) (fun i _ _ => by rw [e2 _ (by omega) (by omega), em _ (by omega) (by omega)]) (fun b b1 b2 => ep b (by omega) (by omega))
  · exact s2.eqv (by rw [ep _ (by omega) (by omega)]) (by rw [e2 _ (by omega) (by omega), em _ (by omega) (by omega)]) (fun i _ _ => by rw [e2 _ (by omega) (by omega), em _ (by omega) (by omega)]) (fun b b1 b2 => ep b (by omega) (by omega))
  · rw [ep _ (by omega) (by omega), m0]; exact t1
  · rw [ep (s + 214 + 1) (by omega) (by omega), e2 (s + 217 + 1) (by omega) (by omega), em _ (by omega) (by omega)]; exact t2
  · rw [e2 (s + 217 + 1) (by omega) (by omega), em _ (by omega) (by omega), m0]; exact t3
/-- the numbers are saved on both sides; d: the slot's object -/
theorem Rel.save {M M0 M1 M2 : MM} {s d : Nat} {f : Int → Int} {k : Int} (h : Rel M s f) (hd : (d = 190 ∧ k = 0) ∨ (d = 202 ∧ k = 1)) (ha : Sav M (s + d) f M0) (h1 : ∀ b : Nat, b ≠ s + 224 → M1 b = M0 b) (h2 : wr (aset (wr M1 (s + 217) 0 0) (s + 217 + 5) (fCpy f 0 (M1 (s + 217 + 5)) (134 * k) 134)) (s + 217 + 6) k 1 = M2) : Rel M2 s f := by
  obtain ⟨⟨r1, r2, r3⟩, ⟨m1, m2, m3, m4⟩, ⟨s1, s2⟩, t1, t2, t3⟩ := h
  obtain ⟨A, oA, tA, hA⟩ := ha
  have e0 : ∀ b : Nat, (b < s + d ∨ s + d + 11 < b) → M0 b = M b := fun b b1 => by rw [← hA, wr_ne _ _ _ (by omega), tA b (by omega)]
  have ed : M0 (s + d) 1 = 1 := by rw [← hA, wr_iv]
  have eo : ∀ b : Nat, s + d + 1 ≤ b → b ≤ s + d + 11 → M0 b = A b := fun b b1 b2 => by rw [← hA, wr_ne _ _ _ (by omega)]
  have e2 : ∀ b : Nat, b ≠ s + 217 → b ≠ s + 222 → b ≠ s + 223 → M2 b = M1 b := fun b b1 b2 b3 => by rw [← h2, wr_ne _ _ _ b3, aset_ne _ _ b2, wr_ne _ _ _ b1]
  have em : ∀ b : Nat, s + 217 ≤ b → b ≤ s + 223 → M1 b = M b := fun b b1 b2 => by rw [h1 _ (by omega), e0 _ (by omega)]
  have ep0 : ∀ b : Nat, b < s + 217 → M2 b = M0 b := fun b b1 => by rw [e2 _ (by omega) (by omega) (by omega), h1 _ (by omega)]
  have ep : ∀ b : Nat, b < s + 217 → (b < s + d ∨ s + d + 11 < b) → M2 b = M b := fun b b1 b2 => (ep0 b b1).trans (e0 b b2)
  have a2 : ∀ j : Int, j ≠ 0 → M2 (s + 217) j = M (s + 217) j := fun j hj => by rw [← h2, wr_ne _ _ _ (by omega), aset_ne _ _ (by omega), wr_ii _ _ _ hj, em _ (by omega) (by omega)]
  have k6 : M2 (s + 217 + 6) k = 1 := by rw [← h2, wr_iv]
  have k6n : ∀ j : Int, j ≠ k → M2 (s + 217 + 6) j = M (s + 217 + 6) j := fun j hj => by rw [← h2, wr_ii _ _ _ hj, aset_ne _ _ (by omega), wr_ne _ _ _ (by omega), em _ (by omega) (by omega)]
  have k5 : M2 (s + 217 + 5) = fCpy f 0 (M (s + 217 + 5)) (134 * k) 134 := by rw [← h2, wr_ne _ _ _ (by omega), aset_at, em _ (by omega) (by omega)]
  have y2 : M2 (s + 23) = M (s + 23) := ep _ (by omega) (by omega)
  have sn : SlR M2 s d k := by
    refine ⟨by rw [ep0 _ (by omega), ed]; decide, by rw [k6, ep0 _ (by omega), ed], fun _ => ?_⟩
    have er : ∀ j : Int, 0 ≤ j → j < 134 → f j = rowOf (M2 (s + 217 + 5)) (134 * k) j := fun j b1 b2 => by
      rw [k5]
      unfold rowOf fCpy
      rw [if_pos (by omega)]
      exact congrArg f (by omega)
    exact ⟨(oA.eqv (fun b b1 b2 => by rw [ep0 _ (by omega), eo _ b1 (by omega)])).cgB r2 er, r2.cgB er⟩
  have so : ∀ (d9 : Nat) (k9 : Int), SlR M s d9 k9 → k9 ≠ k → 0 ≤ k9 → d9 < 217 → (d9 + 11 < d ∨ d + 11 < d9) → d9 + 11 < 217 → SlR M2 s d9 k9 := fun d9 k9 hs hk hk0 q1 q2 q3 =>
    hs.eqv (by rw [ep _ (by omega) (by omega)]) (k6n _ hk) (fun i b1 b2 => by
      rw [k5]
      unfold fCpy
      rw [if_neg (by omega)]) (fun b b1 b2 => ep b (by omega) (by omega))
  refine ⟨⟨r1.eqv (fun b b1 b2 => ep b (by omega) (by omega)), r2, by rw [e2 _ (by omega) (by omega) (by omega), em _ (by omega) (by omega)]; exact r3⟩, ⟨by rw [y2]; exact m1, by rw [y2]; exact m2, by rw [a2 _ (by decide), y2]; exact m3, m4.eqv m1 m2.2 y2 (by rw [e2 _ (by omega) (by omega) (by omega), em _ (by omega) (by omega)]) (fun b b1 b2 _ => ep b (by omega) (by omega))⟩, ?_, ?_, ?_, ?_⟩
  · rcases hd with ⟨rfl, rfl⟩ | ⟨rfl, rfl⟩
    · exact ⟨sn, so 202 1 s2 (by decide) (by decide) (by decide) (by decide) (by decide)⟩
    · exact ⟨so 190 0 s1 (by decide) (by decide) (by decide) (by decide) (by decide), sn⟩
  · rw [ep _ (by omega) (by omega), a2 _ (by decide)]; exact t1
  · rw [ep (s + 214 + 1) (by omega) (by omega), e2 (s + 217 + 1) (by omega) (by omega) (by omega), em _ (by omega) (by omega)]; exact t2
  · rw [e2 (s + 217 + 1) (by omega) (by omega) (by omega), em _ (by omega) (by omega), a2 _ (by decide)]; exact t3
/-- the text changes on both sides -/
theorem Rel.text {M M1 M2 : MM} {s : Nat} {f : Int → Int} (h : Rel M s f) (h1 : ∀ b : Nat, b ≠ s + 224 → b ≠ s + 214 → b ≠ s + 215 → M1 b = M b) (h2 : ∀ b : Nat, b ≠ s + 217 → b ≠ s + 218 → M2 b = M1 b) (h3 : M2 (s + 217) 6 = M1 (s + 217) 6) (t1 : M1 (s + 214) 1 = M2 (s + 217) 2) (t2 : M1 (s + 214 + 1) = M2 (s + 217 + 1)) (t3 : Txt (M2 (s + 217 + 1)) (M2 (s + 217) 2)) : Rel M2 s f := by
  obtain ⟨⟨r1, r2, r3⟩, ⟨m1, m2, m3, m4⟩, ⟨s1, s2⟩, -⟩ := h
  have e : ∀ b : Nat, b ≠ s + 224 → b ≠ s + 214 → b ≠ s + 215 → b ≠ s + 217 → b ≠ s + 218 → M2 b = M b := fun b b1 b2 b3 b4 b5 => (h2 b b4 b5).trans (h1 b b1 b2 b3)
  have y2 : M2 (s + 23) = M (s + 23) := e _ (by omega) (by omega) (by omega) (by omega) (by omega)
  refine ⟨⟨r1.eqv (fun b b1 b2 => e b (by omega) (by omega) (by omega) (by omega) (by omega)), r2, (e _ (by omega) (by omega) (by omega) (by omega) (by omega)).trans r3⟩, ⟨by rw [y2]; exact m1, by rw [y2]; exact m2, by rw [h3, h1 _ (by omega) (by omega) (by omega), y2]; exact m3, m4.eqv m1 m2.2 y2 (e _ (by omega) (by omega) (by omega) (by omega) (by omega)) (fun b b1 b2 _ => e b (by omega) (by omega) (by omega) (by omega) (by omega))⟩, ⟨?_, ?_⟩, ?_, ?_, t3⟩
  · exact s1.eqv (by rw [e _ (by omega) (by omega) (by omega) (by omega) (by omega)]) (by rw [e _ (by omega) (by omega) (by omega) (by omega) (by omega)]) (fun i _ _ => by rw [e _ (by omega) (by omega) (by omega) (by omega) (by omega)]) (fun b b1 b2 => e b (by omega) (by omega) (by omega) (by omega) (by omega))
  · exact s2.eqv (by rw [e _ (by omega) (by omega) (by omega) (by omega) (by omega)]) (by rw [e _ (by omega) (by omega) (by omega) (by omega) (by omega)]) (fun i _ _ => by rw [e _ (by omega) (by omega) (by omega) (by omega) (by omega)]) (fun b b1 b2 => e b (by omega) (by omega) (by omega) (by omega) (by omega))
  · rw [h2 (s + 214) (by omega) (by omega)]; exact t1
  · rw [h2 (s + 214 + 1) (by omega) (by omega)]; exact t2
/-- a text is loaded on both sides -/
theorem Rel.load {M M0 M1 M9 M2 : MM} {s : Nat} {f g : Int → Int} {p o : Int} (h : Rel M s f) (hg : Off M0 (s + 1) g) (hI : Inv g) (hl : LdW M M0 s) (h1 : ∀ b : Nat, b ≠ s + 224 → M1 b = M0 b) (hT : Tx M1 M9 (s + 217) p o g) (h2 : wr (wr (wr (aset (wr M9 (s + 217) 0 0) (s + 217 + 2) g) (s + 217) 6 0) (s + 217 + 6) 0 0) (s + 217 + 6) 1 0 = M2) : Rel M2 s g := by
  obtain ⟨⟨r1, r2, r3⟩, ⟨m1, m2, m3, m4⟩, ⟨s1, s2⟩, t1, t2, t3⟩ := h
  obtain ⟨l1, l2, l3, l4, l5, l6⟩ := hl
  obtain ⟨x1, x2, x3, x4, x5⟩ := hT
  have e2 : ∀ b : Nat, b < s + 217 → M2 b = M0 b := fun b b1 => by rw [← h2, wr_ne _ _ _ (by omega), wr_ne _ _ _ (by omega), wr_ne _ _ _ (by omega), aset_ne _ _ (by omega), wr_ne _ _ _ (by omega), x5 b (by omega) (by omega), h1 b (by omega)]
  have em : ∀ b : Nat, s + 217 ≤ b → b ≤ s + 223 → M1 b = M b := fun b b1 b2 => by rw [h1 _ (by omega), l6 b (by omega) (by omega) (by omega) (by omega) (by omega) (by omega)]
  have m0 : M2 (s + 217) 2 = M (s + 217) 2 := by rw [← h2, wr_ne _ _ _ (by omega), wr_ne _ _ _ (by omega), wr_ii _ _ _ (by decide), aset_ne _ _ (by omega), wr_ii _ _ _ (by decide), x4 2 (by decide) (by decide), em _ (by omega) (by omega)]
  have a2 : M2 (s + 217) 6 = 0 := by rw [← h2, wr_ne _ _ _ (by omega), wr_ne _ _ _ (by omega), wr_iv]
  have n2 : M2 (s + 217 + 2) = g := by rw [← h2, wr_ne _ _ _ (by omega), wr_ne _ _ _ (by omega), wr_ne _ _ _ (by omega), aset_at]
  have x1' : M2 (s + 217 + 1) = M (s + 217 + 1) := by rw [← h2, wr_ne _ _ _ (by omega), wr_ne _ _ _ (by omega), wr_ne _ _ _ (by omega), aset_ne _ _ (by omega), wr_ne _ _ _ (by omega), x5 _ (by omega) (by omega), em _ (by omega) (by omega)]
  have y2 : M2 (s + 23) = up (M (s + 23)) 2 0 := (e2 _ (by omega)).trans l1
  refine ⟨⟨hg.eqv (fun b b1 b2 => e2 b (by omega)), hI, n2⟩, ⟨by rw [y2, up_ne (by decide)]; exact m1, by rw [y2, up_eq]; decide, by rw [a2, y2, up_eq], ?_⟩, ⟨?_, ?_⟩, ?_, ?_, ?_⟩
  · intro i h0 hi
    rw [y2, up_eq] at hi
    omega
  · have u : M2 (s + 190) 1 = 0 := by rw [e2 _ (by omega), l2, up_eq]
    exact ⟨by rw [u]; decide, by rw [u, ← h2, wr_ii _ _ _ (by decide), wr_iv], fun q => absurd u q⟩
  · have u : M2 (s + 202) 1 = 0 := by rw [e2 _ (by omega), l3, up_eq]
    exact ⟨by rw [u]; decide, by rw [u, ← h2, wr_iv], fun q => absurd u q⟩
  · rw [e2 _ (by omega), l4, m0]; exact t1
  · rw [e2 _ (by omega), l5, x1']; exact t2
  · rw [x1', m0]; exact t3
