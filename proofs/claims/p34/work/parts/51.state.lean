/-! the state of an object in numbers -/
theorem xn_AS : xIA ≠ xIS := by decide +kernel
theorem xn_AO : xIA ≠ xIO := by decide +kernel
theorem xn_SO : xIS ≠ xIO := by decide +kernel
theorem xn_SA : xIS ≠ xIA := by decide +kernel
theorem xn_OA : xIO ≠ xIA := by decide +kernel
theorem xn_OS : xIO ≠ xIS := by decide +kernel
/-- a number as the machine's int has it -/
def nz (z : Int) : Int := (iI z).toInt
theorem vi_nz (z : Int) : vi z = vi (nz z) := by unfold nz; show Value.int (iI z) = Value.int (iI (iI z).toInt); rw [iI_self]
theorem nz_r (z : Int) : inR (nz z) := inR_toInt _
theorem nz_id {z : Int} (h : inR z) : nz z = z := iI_toInt h
/-- the office, what is remembered (the newest first), the slots -/
abbrev SG : Type := (Int → Int) × (List (Int → Int) × (Option (Int → Int) × Option (Int → Int)))
def push (σ : SG) (g : Int → Int) : SG := (g, ((σ.1 :: σ.2.1).take 14, σ.2.2))
def SlS (M : MM) (a : Nat) (x : Option (Int → Int)) : Prop := (x = none ∧ M a 1 = 0) ∨ ∃ g, x = some g ∧ M a 1 = 1 ∧ Off M (a + 1) g ∧ Inv g
def UsS (M : MM) (y : Nat) (us : List (Int → Int)) : Prop := (0 ≤ M y 1 ∧ M y 1 < 15) ∧ M y 2 = (us.length : Int) ∧ us.length ≤ 14 ∧ ∀ (i : Nat) (u : Int → Int), us[i]? = some u → Off M (gO y ((M y 1 + 14 - i) % 15).toNat) u ∧ Inv u
/-- the object at s holds the state -/
def Os (M : MM) (s : Nat) (σ : SG) : Prop := (Off M (s + 1) σ.1 ∧ Inv σ.1) ∧ UsS M (s + 23) σ.2.1 ∧ (SlS M (s + 190) σ.2.2.1 ∧ SlS M (s + 202) σ.2.2.2) ∧ 0 ≤ M (s + 214) 1 ∧ M (s + 214) 1 ≤ 120
/-- nothing else changed -/
def Fr (M M1 : MM) (s : Nat) : Prop := ∀ b : Nat, (b < s ∨ s + 217 ≤ b) → M1 b = M b
def Sp (M : MM) (s : Nat) (σ : SG) (M1 : MM) : Prop := Os M1 s σ ∧ Fr M M1 s
theorem Fr.rf {M : MM} {s : Nat} : Fr M M s := fun _ _ => rfl
theorem Fr.tr {M M1 M2 : MM} {s : Nat} (h : Fr M M1 s) (k : Fr M1 M2 s) : Fr M M2 s := fun b hb => (k b hb).trans (h b hb)
theorem Fr.oth {M M1 : MM} {s o : Nat} (h : Oth M M1 o) (ho : s ≤ o ∧ o + 10 < s + 217) : Fr M M1 s := fun b hb => h b (by omega)
theorem SlS.eqv {M M1 : MM} {a : Nat} {x : Option (Int → Int)} (h : SlS M a x) (e : ∀ b : Nat, a ≤ b → b ≤ a + 11 → M1 b = M b) : SlS M1 a x := by
  rcases h with ⟨h1, h2⟩ | ⟨g, h1, h2, h3, h4⟩
  · exact Or.inl ⟨h1, by rw [e a (by omega) (by omega)]; exact h2⟩
  · exact Or.inr ⟨g, h1, by rw [e a (by omega) (by omega)]; exact h2, h3.eqv (fun b b1 b2 => e b (by omega) (by omega)), h4⟩
theorem UsS.eqv {M M1 : MM} {y : Nat} {us : List (Int → Int)} (h : UsS M y us) (e : M1 y = M y) (eo : ∀ b : Nat, y + 2 ≤ b → b ≤ y + 166 → (b < gO y (M y 1).toNat ∨ gO y (M y 1).toNat + 10 < b) → M1 b = M b) : UsS M1 y us := by
  obtain ⟨h1, h2, h3, h4⟩ := h
  refine ⟨by rw [e]; exact h1, by rw [e]; exact h2, h3, fun i u hi => ?_⟩
  obtain ⟨a1, a2⟩ := h4 i u hi
  have hl : i < us.length := by
    rcases Nat.lt_or_ge i us.length with q | q
    · exact q
    · rw [List.getElem?_eq_none q] at hi; cases hi
  rw [e]
  refine ⟨a1.eqv (fun b b1 b2 => eo b ?_ ?_ ?_), a2⟩
  · unfold gO at b1; omega
  · unfold gO at b2; omega
  · unfold gO at b1 b2 ⊢; omega
/-- what is changed is the copy and the next draft's place alone -/
theorem Os.eqd {M M1 : MM} {s : Nat} {σ : SG} (h : Os M s σ) (e : ∀ b : Nat, s ≤ b → b < s + 217 → (b < s + 12 ∨ s + 22 < b) → (b < gO (s + 23) (M (s + 23) 1).toNat ∨ gO (s + 23) (M (s + 23) 1).toNat + 10 < b) → M1 b = M b) : Os M1 s σ := by
  obtain ⟨⟨r1, r2⟩, hu, ⟨s1, s2⟩, t1, t2⟩ := h
  have hm := hu.1
  have e1 : ∀ b : Nat, s ≤ b → b < s + 217 → (b < s + 12 ∨ s + 22 < b) → (b < s + 25 ∨ s + 189 < b) → M1 b = M b := fun b b1 b2 b3 b4 => e b b1 b2 b3 (by unfold gO; omega)
  refine ⟨⟨r1.eqv (fun b a1 a2 => e1 b (by omega) (by omega) (by omega) (by omega)), r2⟩, hu.eqv (e1 _ (by omega) (by omega) (by omega) (by omega)) (fun b a1 a2 a3 => e b (by omega) (by omega) (by omega) a3), ⟨s1.eqv (fun b a1 a2 => e1 b (by omega) (by omega) (by omega) (by omega)), s2.eqv (fun b a1 a2 => e1 b (by omega) (by omega) (by omega) (by omega))⟩, ?_⟩
  rw [e1 (s + 214) (by omega) (by omega) (by omega) (by omega)]
  exact ⟨t1, t2⟩
theorem Os.eqv {M M1 : MM} {s : Nat} {σ : SG} (h : Os M s σ) (e : ∀ b : Nat, s ≤ b → b < s + 217 → (b < s + 12 ∨ s + 22 < b) → M1 b = M b) : Os M1 s σ := h.eqd (fun b b1 b2 b3 _ => e b b1 b2 b3)
/-- the other object -/
theorem Os.fr {M M1 : MM} {s t : Nat} {σ : SG} (h : Os M t σ) (e : Fr M M1 s) (d : s + 217 ≤ t ∨ t + 217 ≤ s) : Os M1 t σ := h.eqv (fun b b1 b2 _ => e b (by omega))
theorem Os.cpy {M M1 : MM} {s : Nat} {σ : SG} (h : Os M s σ) (e : Oth M M1 (s + 12)) : Sp M s σ M1 := ⟨h.eqv (fun b b1 b2 b3 => e b (by omega)), Fr.oth e (by omega)⟩
theorem Os.dft {M M1 : MM} {s : Nat} {σ : SG} {f9 : Int → Int} (h : Os M s σ) (e : Dft M s f9 M1) : Sp M s σ M1 := by
  have hm := h.2.1.1
  exact ⟨h.eqd (fun b b1 b2 b3 b4 => e.2 b (by omega)), Fr.oth e.2 (by unfold gO; omega)⟩
theorem take_1 {α : Type} (a : α) (us : List α) : ((a :: us).take 14)[0]? = some a := rfl
theorem take_s {α : Type} {a u : α} {us : List α} {i : Nat} (h : ((a :: us).take 14)[i + 1]? = some u) : us[i]? = some u ∧ i + 1 < 14 := by
  rw [List.getElem?_take] at h
  split at h
  · exact ⟨by simpa using h, by omega⟩
  · cases h
/-- an act -/
theorem Os.act {M M1 : MM} {s : Nat} {σ : SG} {g : Int → Int} (h : Os M s σ) (hIg : Inv g) (ha : Act M s σ.1 g M1) : Sp M s (push σ g) M1 := by
  obtain ⟨⟨r1, r2⟩, ⟨m1, m2, m3, m4⟩, ⟨s1, s2⟩, t1, t2⟩ := h
  obtain ⟨A, B, ⟨dA, oA⟩, oB, tB, hB⟩ := ha
  have gO1 : s + 25 ≤ gO (s + 23) (M (s + 23) 1).toNat ∧ gO (s + 23) (M (s + 23) 1).toNat + 10 ≤ s + 189 := by unfold gO; omega
  have eA : ∀ b : Nat, (b < gO (s + 23) (M (s + 23) 1).toNat ∨ gO (s + 23) (M (s + 23) 1).toNat + 10 < b) → A b = M b := oA
  have eB : ∀ b : Nat, (b < s + 1 ∨ s + 11 < b) → B b = A b := fun b hb => tB b (by omega)
  have e0 : ∀ b : Nat, b ≠ s + 23 → M1 b = B b := fun b hb => by rw [← hB]; unfold kdM; rw [wr_ne _ _ _ hb, wr_ne _ _ _ hb]
  have eBy : B (s + 23) = M (s + 23) := (eB _ (by omega)).trans (eA _ (by omega))
  have ey1 : M1 (s + 23) 1 = (M (s + 23) 1 + 1) % 15 := by rw [← hB]; unfold kdM; rw [wr_ii _ _ _ (by decide), wr_iv, eBy]
  have ey2 : M1 (s + 23) 2 = sMin (M (s + 23) 2 + 1) 14 := by rw [← hB]; unfold kdM; rw [wr_iv, eBy]
  have ep : ∀ b : Nat, (b < s + 1 ∨ s + 11 < b) → b ≠ s + 23 → M1 b = A b := fun b b1 b2 => by rw [e0 _ b2, eB _ b1]
  have e9 : ∀ b : Nat, (b < s + 1 ∨ s + 11 < b) → b ≠ s + 23 → (b < s + 25 ∨ s + 189 < b) → M1 b = M b := fun b b1 b2 b3 => (ep b b1 b2).trans (eA b (by omega))
  have hlen : ((σ.1 :: σ.2.1).take 14).length = min 14 (σ.2.1.length + 1) := by rw [List.length_take]; rfl
  refine ⟨⟨⟨oB.eqv (fun b b1 b2 => e0 _ (by omega)), hIg⟩, ⟨by rw [ey1]; omega, ?_, ?_, ?_⟩, ⟨s1.eqv (fun b b1 b2 => e9 b (by omega) (by omega) (by omega)), s2.eqv (fun b b1 b2 => e9 b (by omega) (by omega) (by omega))⟩, ?_⟩, fun b hb => e9 b (by omega) (by omega) (by omega)⟩
  · show M1 (s + 23) 2 = (((σ.1 :: σ.2.1).take 14).length : Int)
    rw [ey2, hlen, m2]
    unfold sMin
    split <;> omega
  · show ((σ.1 :: σ.2.1).take 14).length ≤ 14
    rw [hlen]
    omega
  · intro i u hi
    have hi' : ((σ.1 :: σ.2.1).take 14)[i]? = some u := hi
    rw [ey1]
    cases i with
    | zero =>
      rw [take_1] at hi'
      cases hi'
      rw [show (((M (s + 23) 1 + 1) % 15 + 14 - ((0 : Nat) : Int)) % 15).toNat = (M (s + 23) 1).toNat by omega]
      exact ⟨dA.eqv (fun b b1 b2 => ep b (by omega) (by omega)), r2⟩
    | succ i =>
      obtain ⟨hu, hl⟩ := take_s hi'
      obtain ⟨c1, c2⟩ := m4 i u hu
      have hl2 : i < σ.2.1.length := by
        rcases Nat.lt_or_ge i σ.2.1.length with q | q
        · exact q
        · rw [List.getElem?_eq_none q] at hu; cases hu
      rw [show (((M (s + 23) 1 + 1) % 15 + 14 - ((i + 1 : Nat) : Int)) % 15).toNat = ((M (s + 23) 1 + 14 - i) % 15).toNat by omega]
      refine ⟨c1.eqv (fun b b1 b2 => ?_), c2⟩
      unfold gO at b1 b2
      rw [ep b (by omega) (by omega)]
      exact eA b (by unfold gO; omega)
  · rw [e9 (s + 214) (by omega) (by omega) (by omega)]
    exact ⟨t1, t2⟩
/-- a state is taken back -/
theorem Os.undo {M M1 : MM} {s : Nat} {σ : SG} {u : Int → Int} {r : List (Int → Int)} (h : Os M s σ) (hu : σ.2.1 = u :: r) (ho : Off M1 (s + 1) u) (ht : Oth (wr (wr M (s + 23) 2 (M (s + 23) 2 - 1)) (s + 23) 1 ((M (s + 23) 1 + 14) % 15)) M1 (s + 1)) : Sp M s (u, (r, σ.2.2)) M1 := by
  obtain ⟨⟨r1, r2⟩, ⟨m1, m2, m3, m4⟩, ⟨s1, s2⟩, t1, t2⟩ := h
  rw [hu] at m2 m3 m4
  have e0 : ∀ b : Nat, (b < s + 1 ∨ s + 11 < b) → b ≠ s + 23 → M1 b = M b := fun b b1 b2 => by rw [ht b (by omega), wr_ne _ _ _ b2, wr_ne _ _ _ b2]
  have ey1 : M1 (s + 23) 1 = (M (s + 23) 1 + 14) % 15 := by rw [ht _ (by omega), wr_iv]
  have ey2 : M1 (s + 23) 2 = M (s + 23) 2 - 1 := by rw [ht _ (by omega), wr_ii _ _ _ (by decide), wr_iv]
  have hln : (u :: r).length = r.length + 1 := rfl
  rw [hln] at m2 m3
  refine ⟨⟨⟨ho, (m4 0 u rfl).2⟩, ⟨by rw [ey1]; omega, by show M1 (s + 23) 2 = (r.length : Int); rw [ey2, m2]; omega, by show r.length ≤ 14; omega, ?_⟩, ⟨s1.eqv (fun b b1 b2 => e0 b (by omega) (by omega)), s2.eqv (fun b b1 b2 => e0 b (by omega) (by omega))⟩, ?_⟩, fun b hb => e0 b (by omega) (by omega)⟩
  · intro i v hi
    have hi' : (u :: r)[i + 1]? = some v := by simpa using hi
    have hl : i < r.length := by
      rcases Nat.lt_or_ge i r.length with q | q
      · exact q
      · have hi2 : r[i]? = some v := hi
        rw [List.getElem?_eq_none q] at hi2; cases hi2
    obtain ⟨c3, c4⟩ := m4 (i + 1) v hi'
    rw [ey1, show (((M (s + 23) 1 + 14) % 15 + 14 - (i : Int)) % 15).toNat = ((M (s + 23) 1 + 14 - ((i + 1 : Nat) : Int)) % 15).toNat by omega]
    refine ⟨c3.eqv (fun b b1 b2 => ?_), c4⟩
    unfold gO at b1 b2
    exact e0 b (by omega) (by omega)
  · rw [e0 (s + 214) (by omega) (by omega)]
    exact ⟨t1, t2⟩
/-- the numbers of a slot are the office's again -/
theorem Os.back {M M1 : MM} {s : Nat} {σ : SG} {g : Int → Int} (h : Os M s σ) (hI : Inv g) (ha : Rst M s g M1) : Sp M s (g, ([], σ.2.2)) M1 := by
  obtain ⟨⟨r1, r2⟩, ⟨m1, m2, m3, m4⟩, ⟨s1, s2⟩, t1, t2⟩ := h
  obtain ⟨A, oA, tA, hA⟩ := ha
  have e0 : ∀ b : Nat, (b < s + 1 ∨ s + 11 < b) → b ≠ s + 23 → M1 b = M b := fun b b1 b2 => by rw [← hA, wr_ne _ _ _ b2, tA b (by omega)]
  have ey1 : M1 (s + 23) 1 = M (s + 23) 1 := by rw [← hA, wr_ii _ _ _ (by decide), tA _ (by omega)]
  have ey2 : M1 (s + 23) 2 = 0 := by rw [← hA, wr_iv]
  refine ⟨⟨⟨oA.eqv (fun b b1 b2 => by rw [← hA, wr_ne _ _ _ (by omega)]), hI⟩, ⟨by rw [ey1]; exact m1, by rw [ey2]; rfl, Nat.zero_le _, fun i u hi => ?_⟩, ⟨s1.eqv (fun b b1 b2 => e0 b (by omega) (by omega)), s2.eqv (fun b b1 b2 => e0 b (by omega) (by omega))⟩, ?_⟩, fun b hb => e0 b (by omega) (by omega)⟩
  · have hi2 : ([] : List (Int → Int))[i]? = some u := hi
    simp at hi2
  · rw [e0 (s + 214) (by omega) (by omega)]
    exact ⟨t1, t2⟩
/-- the numbers are saved -/
theorem Os.save {M M1 : MM} {s d : Nat} {σ : SG} (h : Os M s σ) (hd : d = 190 ∨ d = 202) (ha : Sav M (s + d) σ.1 M1) : Sp M s (σ.1, (σ.2.1, (if d = 190 then some σ.1 else σ.2.2.1, if d = 190 then σ.2.2.2 else some σ.1))) M1 := by
  obtain ⟨⟨r1, r2⟩, ⟨m1, m2, m3, m4⟩, ⟨s1, s2⟩, t1, t2⟩ := h
  obtain ⟨A, oA, tA, hA⟩ := ha
  have e0 : ∀ b : Nat, (b < s + d ∨ s + d + 11 < b) → M1 b = M b := fun b b1 => by rw [← hA, wr_ne _ _ _ (by omega), tA b (by omega)]
  have ed : M1 (s + d) 1 = 1 := by rw [← hA, wr_iv]
  have eo : ∀ b : Nat, s + d + 1 ≤ b → b ≤ s + d + 11 → M1 b = A b := fun b b1 b2 => by rw [← hA, wr_ne _ _ _ (by omega)]
  have sn : SlS M1 (s + d) (some σ.1) := Or.inr ⟨σ.1, rfl, ed, oA.eqv (fun b b1 b2 => eo b b1 (by omega)), r2⟩
  have hu : UsS M (s + 23) σ.2.1 := ⟨m1, m2, m3, m4⟩
  refine ⟨⟨⟨r1.eqv (fun b b1 b2 => e0 b (by omega)), r2⟩, hu.eqv (e0 _ (by omega)) (fun b b1 b2 _ => e0 b (by omega)), ?_, ?_⟩, fun b hb => e0 b (by omega)⟩
  · rcases hd with rfl | rfl
    · exact ⟨sn, s2.eqv (fun b b1 b2 => e0 b (by omega))⟩
    · exact ⟨s1.eqv (fun b b1 b2 => e0 b (by omega)), sn⟩
  · rw [e0 (s + 214) (by omega)]
    exact ⟨t1, t2⟩
