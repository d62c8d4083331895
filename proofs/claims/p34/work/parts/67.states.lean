/-- each act brings one chair at most -/
def Chn : (Int → Int) → List (Int → Int) → Prop
  | _, [] => True
  | f, u :: r => f 0 ≤ u 0 + 1 ∧ Chn u r
theorem Chn.take : ∀ (n : Nat) (f : Int → Int) (us : List (Int → Int)), Chn f us → Chn f (us.take n)
  | 0, _, _, _ => trivial
  | n + 1, _, [], _ => trivial
  | n + 1, _, u :: r, h => ⟨h.1, Chn.take n u r h.2⟩
def GS (t : Int) (σ : SG) : Prop := Gd t σ.1 ∧ (∀ u, u ∈ σ.2.1 → Gd t u) ∧ Chn σ.1 σ.2.1 ∧ (∀ g, σ.2.2.1 = some g → Gd t g ∧ 1 ≤ g 0) ∧ ∀ g, σ.2.2.2 = some g → Gd t g ∧ 1 ≤ g 0
theorem GS.mono {t u : Int} {σ : SG} (h : GS t σ) (hu : t ≤ u) : GS u σ := ⟨h.1.mono hu, fun v hv => (h.2.1 v hv).mono hu, h.2.2.1, fun g e => ⟨(h.2.2.2.1 g e).1.mono hu, (h.2.2.2.1 g e).2⟩, fun g e => ⟨(h.2.2.2.2 g e).1.mono hu, (h.2.2.2.2 g e).2⟩⟩
theorem GS.push {t u : Int} {σ : SG} {g : Int → Int} (h : GS t σ) (hg : Gd u g) (htu : t ≤ u) (hn : g 0 ≤ σ.1 0 + 1) : GS u (push σ g) := by
  have h2 := h.mono htu
  refine ⟨hg, fun v hv => ?_, ?_, h2.2.2.2.1, h2.2.2.2.2⟩
  · have hv2 : v ∈ (σ.1 :: σ.2.1).take 14 := hv
    rcases List.mem_cons.mp (List.mem_of_mem_take hv2) with e | e
    · rw [e]; exact h2.1
    · exact h2.2.1 v e
  · exact Chn.take 14 g (σ.1 :: σ.2.1) ⟨hn, h2.2.2.1⟩
theorem GS.lt {t : Int} {σ τ : SG} (h : GS t σ) (k : Lt σ τ) : GS t τ := by
  obtain ⟨e1, e2, n, e3⟩ := k
  refine ⟨by rw [e1]; exact h.1, fun v hv => ?_, ?_, by rw [e2]; exact h.2.2.2.1, by rw [e2]; exact h.2.2.2.2⟩
  · rw [e3] at hv
    exact h.2.1 v (List.mem_of_mem_take hv)
  · rw [e1, e3]
    exact Chn.take n _ _ h.2.2.1
theorem GS.undo {t : Int} {σ : SG} (h : GS t σ) (h2 : 2 ≤ σ.1 0) : GS t (nUndo σ) ∧ 1 ≤ (nUndo σ).1 0 := by
  obtain ⟨h1, hu, hc, ha, hb⟩ := h
  unfold nUndo
  cases e : σ.2.1 with
  | nil => exact ⟨⟨h1, hu, hc, ha, hb⟩, by show 1 ≤ σ.1 0; omega⟩
  | cons u r =>
    rw [e] at hu hc
    have hc1 : σ.1 0 ≤ u 0 + 1 := hc.1
    exact ⟨⟨hu u (List.mem_cons_self ..), fun v hv => hu v (List.mem_cons_of_mem _ hv), hc.2, ha, hb⟩, by show 1 ≤ u 0; omega⟩
theorem GS.keep {t : Int} {σ : SG} {k : Int} (h : GS t σ) (h1 : 1 ≤ σ.1 0) : GS t (nKeep σ k) ∧ 1 ≤ (nKeep σ k).1 0 := by
  obtain ⟨g1, hu, hc, ha, hb⟩ := h
  unfold nKeep
  split
  · refine ⟨⟨g1, hu, hc, fun g e => ?_, fun g e => ?_⟩, h1⟩
    · have e2 : (if k = 0 then some σ.1 else σ.2.2.1) = some g := e
      split at e2
      · cases e2; exact ⟨g1, h1⟩
      · exact ha g e2
    · have e2 : (if k = 0 then σ.2.2.2 else some σ.1) = some g := e
      split at e2
      · exact hb g e2
      · cases e2; exact ⟨g1, h1⟩
  · exact ⟨⟨g1, hu, hc, ha, hb⟩, h1⟩
theorem GS.back {t : Int} {σ : SG} {k : Int} (h : GS t σ) (h1 : 1 ≤ σ.1 0) : GS t (nBack σ k) ∧ 1 ≤ (nBack σ k).1 0 := by
  unfold nBack
  split
  · cases e : slotOf σ k with
    | none => exact ⟨h, h1⟩
    | some g =>
      have hg : Gd t g ∧ 1 ≤ g 0 := by
        unfold slotOf at e
        split at e
        · exact h.2.2.2.1 g e
        · exact h.2.2.2.2 g e
      exact ⟨⟨hg.1, fun v hv => by simp at hv, trivial, h.2.2.2.1, h.2.2.2.2⟩, hg.2⟩
  · exact ⟨h, h1⟩
/-! how many chairs there are then -/
theorem a0_floor {f : Int → Int} {a b c d : Int} (hF : 1 ≤ f 1) : fFloor f a b c d 0 = f 0 := fl_at0 (by decide) (by omega)
theorem a0_level {f : Int → Int} {fl k v : Int} (hI : Inv f) (hf : 0 ≤ fl ∧ fl < 4) (hk : 0 ≤ k ∧ k < 4) (hv : 0 ≤ v ∧ v ≤ 50) : fLevel f fl k v 0 = f 0 := by
  unfold fLevel
  split
  · exact up_ne (by omega)
  · rw [(lvlN (fl := fl) (Inv_spot hI (by omega) hv) (f 0).toNat).2 0 (by decide) (fun c x y => by omega)]
    exact up_ne (by omega)
theorem a0_leg {f : Int → Int} {c k b i v : Int} (hc : 0 ≤ c) (hk : 0 ≤ k) (hi : i ≠ 0) : fLeg (up f i v) c k b 0 = f 0 := by rw [fLeg_at (by decide) (by omega) (by omega), up_ne (by omega)]
theorem a0_paid (f : Int → Int) : fPaid f 0 = f 0 := by unfold fPaid; rw [up_ne (by decide), up_ne (by decide)]
theorem a0_test {f : Int → Int} {c : Int} (hc : 0 ≤ c) : fTest f c 0 = f 0 := by
  unfold fTest
  split
  · rw [up_ne (by decide), up_ne (by omega), a0_paid]
  · exact a0_paid f
theorem a0_bound {f : Int → Int} {gu k v : Int} (hI : Inv f) (hg : 0 ≤ gu ∧ gu < 4) (hk : 0 ≤ k ∧ k < 4) (hv : (k < 2 → 100 ≤ v ∧ v ≤ 900) ∧ (k = 2 → 0 ≤ v ∧ v ≤ 100) ∧ (k = 3 → 0 ≤ v ∧ v ≤ 200)) : fBound f gu k v 0 = f 0 := by
  unfold fBound
  rw [(bndN (gu := gu) (Inv_lim hI hg hk hv) (f 0).toNat).2 0 (by decide) (fun c x y => by omega)]
  exact up_ne (by omega)
/-- a state that is good, with a chair -/
def GC (t : Int) (σ : SG) : Prop := GS t σ ∧ 1 ≤ σ.1 0
theorem GC.mono {t u : Int} {σ : SG} (h : GC t σ) (hu : t ≤ u) : GC u σ := ⟨h.1.mono hu, h.2⟩
theorem GC.to {t u : Int} {σ : SG} {g : Int → Int} (h : GC t σ) (hg : Gd u g) (htu : t ≤ u) (h0 : g 0 = σ.1 0) : GC u (push σ g) := ⟨h.1.push hg htu (by omega), by show 1 ≤ g 0; have := h.2; omega⟩
theorem gc_Comes {t : Int} {σ : SG} {gu len : Int} (h : GC t σ) : GC (t + 1) (nComes σ gu len) := by
  have hI := h.1.1.1
  unfold nComes
  split
  · rename_i hc
    obtain ⟨c1, c2, c3⟩ := hc
    exact ⟨h.1.push ((h.1.1.chair c3 c1 c2).mono (by omega)) (by omega) (by rw [ch_0]; omega), by show 1 ≤ fChair σ.1 gu len 0; rw [ch_0]; have := h.2; omega⟩
  · exact h.mono (by omega)
theorem gc_Lay {t : Int} {σ : SG} {x1 x2 x3 x4 : Int} (h : GC t σ) : GC (t + 1) (nLay σ x1 x2 x3 x4) := by
  have hI := h.1.1.1
  unfold nLay
  split
  · rename_i hc
    obtain ⟨c1, c2⟩ := hc
    exact h.to ((h.1.1.floor c2 c1.1 c1.2.1 c1.2.2.1 c1.2.2.2).mono (by omega)) (by omega) (a0_floor hI.2.1.1)
  · exact h.mono (by omega)
theorem gc_Level {t : Int} {σ : SG} {fl k v : Int} (h : GC t σ) : GC (t + 1) (nLevel σ fl k v) := by
  have hI := h.1.1.1
  unfold nLevel
  split
  · rename_i hc
    obtain ⟨c1, c2⟩ := hc
    exact h.to ((h.1.1.level c1.1 c1.2 c2).mono (by omega)) (by omega) (a0_level hI (by have := hI.2.1; omega) c1.2 c2)
  · exact h.mono (by omega)
theorem gc_Bring {t : Int} {σ : SG} {c fl q : Int} (h : GC t σ) : GC (t + 1) (nBring σ c fl q) := by
  have hI := h.1.1.1
  unfold nBring
  split
  · rename_i hc
    obtain ⟨c1, c2⟩ := hc
    exact h.to ((h.1.1.bring c1.1 c1.2 c2).mono (by omega)) (by omega) (bring_at (by decide) (by omega) (by omega) (by omega))
  · exact h.mono (by omega)
theorem gc_Saw {t : Int} {σ : SG} {c k n : Int} (h : GC t σ) : GC (t + 1) (nSaw σ c k n) := by
  have hI := h.1.1.1
  unfold nSaw
  split
  · rename_i hc
    obtain ⟨c1, c2, c3⟩ := hc
    exact h.to ((h.1.1.saw c1.1 c1.2 c2.1 c3).mono (by omega)) (by omega) (a0_leg c1.1.1 c1.2.1 (by decide))
  · exact h.mono (by omega)
theorem gc_Shim {t : Int} {σ : SG} {c k n : Int} (h : GC t σ) : GC (t + 1) (nShim σ c k n) := by
  have hI := h.1.1.1
  unfold nShim
  split
  · rename_i hc
    obtain ⟨c1, c2, c3⟩ := hc
    exact h.to ((h.1.1.shim c1.1 c1.2 c2.1 c3).mono (by omega)) (by omega) (a0_leg c1.1.1 c1.2.1 (by decide))
  · exact h.mono (by omega)
theorem gc_Test {t : Int} {σ : SG} {c : Int} (h : GC t σ) : GC (t + 1) (nTest σ c) := by
  have hI := h.1.1.1
  unfold nTest
  split
  · rename_i hc
    have c1 := hc
    exact h.to (h.1.1.test c1) (by omega) (a0_test c1.1)
  · exact h.mono (by omega)
theorem gc_Sit {t : Int} {σ : SG} {c wt : Int} (h : GC t σ) : GC (t + 1) (nSit σ c wt) := by
  have hI := h.1.1.1
  unfold nSit
  split
  · rename_i hc
    obtain ⟨c1, c2⟩ := hc
    exact h.to (h.1.1.sit c1 (by omega)) (by omega) (fSit_at hI c1 (by omega) (by decide) (by decide) (by decide) (by omega))
  · exact h.mono (by omega)
theorem gc_Bound {t : Int} {σ : SG} {gu k v : Int} (h : GC t σ) : GC (t + 1) (nBound σ gu k v) := by
  have hI := h.1.1.1
  unfold nBound
  split
  · rename_i hc
    obtain ⟨c1, c2⟩ := hc
    exact h.to ((h.1.1.bound c1.1 c1.2 (by omega)).mono (by omega)) (by omega) (a0_bound hI c1.1 c1.2 (by omega))
  · exact h.mono (by omega)
theorem gc_Put {t : Int} {σ : SG} {wh v : Int} (h : GC t σ) : GC (t + 1) (nPut σ wh v) := by
  have hI := h.1.1.1
  unfold nPut
  split
  · rename_i hc
    have c1 := hc
    exact h.to ((h.1.1.put c1).mono (by omega)) (by omega) (up_ne (by omega))
  · exact h.mono (by omega)
theorem GC.act {t : Int} {σ : SG} {x : Int} (h : GC t σ) : GC (t + 1) (nAct σ x) := by
  rcases (by omega : x % 16 = 0 ∨ x % 16 = 1 ∨ x % 16 = 2 ∨ x % 16 = 3 ∨ x % 16 = 4 ∨ x % 16 = 5 ∨ x % 16 = 6 ∨ x % 16 = 7 ∨ x % 16 = 8 ∨ x % 16 = 9 ∨ x % 16 = 10 ∨ x % 16 = 11 ∨ x % 16 = 12 ∨ x % 16 = 13 ∨ x % 16 = 14 ∨ x % 16 = 15) with hv | hv | hv | hv | hv | hv | hv | hv | hv | hv | hv | hv | hv | hv | hv | hv
  · rw [nAct, if_pos hv]
    exact gc_Comes h
  · rw [nAct, if_neg (by omega), if_pos hv]
    exact gc_Lay h
  · rw [nAct, if_neg (by omega), if_neg (by omega), if_pos hv]
    exact gc_Level h
  · rw [nAct, if_neg (by omega), if_neg (by omega), if_neg (by omega), if_pos hv]
    exact gc_Saw h
  · rw [nAct, if_neg (by omega), if_neg (by omega), if_neg (by omega), if_neg (by omega), if_pos hv]
    exact gc_Saw h
  · rw [nAct, if_neg (by omega), if_neg (by omega), if_neg (by omega), if_neg (by omega), if_neg (by omega), if_pos hv]
    exact gc_Shim h
  · rw [nAct, if_neg (by omega), if_neg (by omega), if_neg (by omega), if_neg (by omega), if_neg (by omega), if_neg (by omega), if_pos hv]
    exact gc_Bring h
  · rw [nAct, if_neg (by omega), if_neg (by omega), if_neg (by omega), if_neg (by omega), if_neg (by omega), if_neg (by omega), if_neg (by omega), if_pos hv]
    exact gc_Test h
  · rw [nAct, if_neg (by omega), if_neg (by omega), if_neg (by omega), if_neg (by omega), if_neg (by omega), if_neg (by omega), if_neg (by omega), if_neg (by omega), if_pos hv]
    exact gc_Test h
  · rw [nAct, if_neg (by omega), if_neg (by omega), if_neg (by omega), if_neg (by omega), if_neg (by omega), if_neg (by omega), if_neg (by omega), if_neg (by omega), if_neg (by omega), if_pos hv]
    exact gc_Test h
  · rw [nAct, if_neg (by omega), if_neg (by omega), if_neg (by omega), if_neg (by omega), if_neg (by omega), if_neg (by omega), if_neg (by omega), if_neg (by omega), if_neg (by omega), if_neg (by omega), if_pos hv]
    exact gc_Sit h
  · rw [nAct, if_neg (by omega), if_neg (by omega), if_neg (by omega), if_neg (by omega), if_neg (by omega), if_neg (by omega), if_neg (by omega), if_neg (by omega), if_neg (by omega), if_neg (by omega), if_neg (by omega), if_pos hv]
    exact gc_Sit h
  · rw [nAct, if_neg (by omega), if_neg (by omega), if_neg (by omega), if_neg (by omega), if_neg (by omega), if_neg (by omega), if_neg (by omega), if_neg (by omega), if_neg (by omega), if_neg (by omega), if_neg (by omega), if_neg (by omega), if_pos hv]
    exact gc_Bound h
  · rw [nAct, if_neg (by omega), if_neg (by omega), if_neg (by omega), if_neg (by omega), if_neg (by omega), if_neg (by omega), if_neg (by omega), if_neg (by omega), if_neg (by omega), if_neg (by omega), if_neg (by omega), if_neg (by omega), if_neg (by omega), if_pos hv]
    split
    · exact gc_Put h
    · exact gc_Put h
  · rw [nAct, if_neg (by omega), if_neg (by omega), if_neg (by omega), if_neg (by omega), if_neg (by omega), if_neg (by omega), if_neg (by omega), if_neg (by omega), if_neg (by omega), if_neg (by omega), if_neg (by omega), if_neg (by omega), if_neg (by omega), if_neg (by omega), if_pos hv]
    split
    · exact h.mono (by omega)
    · exact GC.mono (h.1.undo (by omega)) (by omega)
  · rw [nAct, if_neg (by omega), if_neg (by omega), if_neg (by omega), if_neg (by omega), if_neg (by omega), if_neg (by omega), if_neg (by omega), if_neg (by omega), if_neg (by omega), if_neg (by omega), if_neg (by omega), if_neg (by omega), if_neg (by omega), if_neg (by omega), if_neg (by omega)]
    split
    · exact GC.mono (h.1.keep h.2) (by omega)
    · exact GC.mono (h.1.back h.2) (by omega)
theorem GC.lt {t : Int} {σ τ : SG} (h : GC t σ) (k : Lt σ τ) : GC t τ := ⟨h.1.lt k, by rw [k.1]; exact h.2⟩
/-- a new object -/
def s0 : SG := (fNew, ([], (none, none)))
theorem GS_new : GS 0 s0 := ⟨Gd.new (by decide), fun u hu => by simp [s0] at hu, trivial, fun g e => by simp [s0] at e, fun g e => by simp [s0] at e⟩
theorem s0_0 : s0.1 0 = 0 := rfl
/-- two chairs came -/
theorem GC_two {a b c d : Int} (ha : 0 ≤ a ∧ a < 4) (hb : 100 ≤ b ∧ b ≤ 900) (hc : 0 ≤ c ∧ c < 4) (hd : 100 ≤ d ∧ d ≤ 900) : qComes s0.1 a b = 0 ∧ nComes s0 a b = push s0 (fChair fNew a b) ∧ qComes (push s0 (fChair fNew a b)).1 c d = 1 ∧ GC 0 (nComes (push s0 (fChair fNew a b)) c d) := by
  have e1 : fChair fNew a b 0 = 1 := by rw [ch_0]; rfl
  have e0 : s0.1 0 < 10 := by rw [s0_0]; decide
  have g1 : GC 0 (push s0 (fChair fNew a b)) := ⟨GS_new.push (GS_new.1.chair e0 ha hb) (by decide) (by rw [s0_0, e1]; decide), by show 1 ≤ fChair fNew a b 0; omega⟩
  have e2 : (push s0 (fChair fNew a b)).1 0 < 10 := by show fChair fNew a b 0 < 10; omega
  refine ⟨?_, ?_, ?_, ?_⟩
  · rw [qComes, if_pos ha, if_pos hb, if_pos e0]
    rfl
  · rw [nComes, if_pos ⟨ha, hb, e0⟩]
    rfl
  · rw [qComes, if_pos hc, if_pos hd, if_pos e2]
    exact e1
  · rw [nComes, if_pos ⟨hc, hd, e2⟩]
    refine ⟨g1.1.push (g1.1.1.chair e2 hc hd) (by decide) (by rw [ch_0]; exact Int.le_refl _), ?_⟩
    show 1 ≤ fChair _ c d 0
    rw [ch_0]
    have := g1.2
    omega
