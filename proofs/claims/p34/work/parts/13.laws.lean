theorem fVoid_up {f : Int → Int} {c i x : Int} (h : i ≠ 4) (h2 : i ≠ 47 + 9 * c) : fVoid (up f i x) c = up (fVoid f c) i x := by
  unfold fVoid
  rw [up_ne (Ne.symm h), up_ne (Ne.symm h2), up_comm f x _ h, up_comm _ x 0 h2]
theorem fLeg_up {f : Int → Int} {c k b i x : Int} (h : i ≠ 4) (h2 : i ≠ 47 + 9 * c) (h3 : i ≠ 49 + 9 * c + k) : fLeg (up f i x) c k b = up (fLeg f c k b) i x := by
  unfold fLeg
  rw [up_ne (Ne.symm h3), up_comm f x _ h3]
  split
  · rfl
  · rw [fVoid_up h h2]
theorem fLeg_0 {f : Int → Int} {c k : Int} : fLeg f c k 0 = f := by
  unfold fLeg
  rw [if_pos rfl, up_self f (by omega)]
theorem fLeg_n {f : Int → Int} {c k b : Int} (h : b ≠ 0) : fLeg f c k b = fVoid (up f (49 + 9 * c + k) (f (49 + 9 * c + k) + b)) c := by
  unfold fLeg
  rw [if_neg h]
theorem saw_eq {f : Int → Int} {c k n x : Int} (hc : 0 ≤ c) (hk : 0 ≤ k ∧ k < 4) (hn : 1 ≤ n) (hx : x = f (49 + 9 * c + k) - n) : up (fVoid (up f (49 + 9 * c + k) x) c) 7 (fVoid (up f (49 + 9 * c + k) x) c 7 + n) = fSaw f c k n := by
  subst hx
  unfold fSaw
  rw [fLeg_n (by omega), fVoid_at (by omega) (by omega), up_ne (by omega), up_ne (by omega), ← fVoid_up (by omega) (by omega), up_comm f _ _ (by omega), Int.sub_eq_add_neg]
theorem shim_eq {f : Int → Int} {c k n x : Int} (hc : 0 ≤ c) (hk : 0 ≤ k ∧ k < 4) (hn : 1 ≤ n) (hx : x = f (49 + 9 * c + k) + n) : up (fVoid (up f (49 + 9 * c + k) x) c) 8 (fVoid (up f (49 + 9 * c + k) x) c 8 + n) = fShim f c k n := by
  subst hx
  unfold fShim
  rw [fLeg_n (by omega), fVoid_at (by omega) (by omega), up_ne (by omega), up_ne (by omega), ← fVoid_up (by omega) (by omega), up_comm f _ _ (by omega)]
/-- alike but for stamps, sitters and sums -/
def Shp (f g : Int → Int) : Prop := ∀ j : Int, 12 ≤ j → (j < 44 ∨ (j % 9 ≠ 2 ∧ j % 9 ≠ 3)) → f j = g j
theorem Shp.rf {f : Int → Int} : Shp f f := fun _ _ _ => rfl
theorem Shp.tr {f g h : Int → Int} (a : Shp f g) (b : Shp g h) : Shp f h := fun j x y => (a j x y).trans (b j x y)
theorem Shp_up {f : Int → Int} {i v : Int} (h : i < 12 ∨ (44 ≤ i ∧ (i % 9 = 2 ∨ i % 9 = 3))) : Shp (up f i v) f := fun j a b => up_ne (by omega)
theorem Shp_void {f : Int → Int} {c : Int} (hc : 0 ≤ c) : Shp (fVoid f c) f := fun j a b => fVoid_at (by omega) (by omega)
theorem sRe_shp {f g : Int → Int} (h : Shp f g) {c k fl q : Int} (hc : 0 ≤ c) (hk : 0 ≤ k ∧ k < 4) (hf : 0 ≤ fl ∧ fl < 4) (hq : 0 ≤ q ∧ q < 4) : sRe f c k fl q = sRe g c k fl q := by
  unfold sRe
  rw [h (49 + 9 * c + k) (by omega) (by omega), h (12 + (4 * fl + (k + q) % 4)) (by omega) (by omega)]
theorem sTilt_shp {f g : Int → Int} (h : Shp f g) {c fl q : Int} (hc : 0 ≤ c) (hf : 0 ≤ fl ∧ fl < 4) (hq : 0 ≤ q ∧ q < 4) : sTilt f c fl q = sTilt g c fl q := by
  unfold sTilt
  rw [sRe_shp h hc (k := 0) (by decide) hf hq, sRe_shp h hc (k := 1) (by decide) hf hq, sRe_shp h hc (k := 2) (by decide) hf hq, sRe_shp h hc (k := 3) (by decide) hf hq]
theorem sLean_shp {f g : Int → Int} (h : Shp f g) {c fl q : Int} (hc : 0 ≤ c) (hf : 0 ≤ fl ∧ fl < 4) (hq : 0 ≤ q ∧ q < 4) : sLean f c fl q = sLean g c fl q := by
  unfold sLean
  rw [sRe_shp h hc (k := 0) (by decide) hf hq, sRe_shp h hc (k := 1) (by decide) hf hq, sRe_shp h hc (k := 2) (by decide) hf hq, sRe_shp h hc (k := 3) (by decide) hf hq]
theorem sIdle_shp {f g : Int → Int} (h : Shp f g) {c : Int} (hc : 0 ≤ c) (hf : 0 ≤ f (45 + 9 * c) ∧ f (45 + 9 * c) < 4) (hq : 0 ≤ f (46 + 9 * c) ∧ f (46 + 9 * c) < 4) : sIdle f c = sIdle g c := by
  unfold sIdle sRn
  rw [sTilt_shp h hc hf hq, sRe_shp h hc (k := 0) (by decide) hf hq, sRe_shp h hc (k := 1) (by decide) hf hq, sRe_shp h hc (k := 2) (by decide) hf hq, sRe_shp h hc (k := 3) (by decide) hf hq, h (45 + 9 * c) (by omega) (by omega), h (46 + 9 * c) (by omega) (by omega)]
theorem sWhy_shp {f g : Int → Int} (h : Shp f g) {c : Int} (hc : 0 ≤ c) (hf : 0 ≤ f (45 + 9 * c) ∧ f (45 + 9 * c) < 4) (hq : 0 ≤ f (46 + 9 * c) ∧ f (46 + 9 * c) < 4) (hg : 0 ≤ f (44 + 9 * c) ∧ f (44 + 9 * c) < 4) : sWhy f c = sWhy g c := by
  unfold sWhy sWn sWob sLn sSeat
  rw [sTilt_shp h hc hf hq, sLean_shp h hc hf hq, h (30 + 4 * f (44 + 9 * c)) (by omega) (by omega), h (31 + 4 * f (44 + 9 * c)) (by omega) (by omega), h (28 + 4 * f (44 + 9 * c)) (by omega) (by omega), h (29 + 4 * f (44 + 9 * c)) (by omega) (by omega), h (44 + 9 * c) (by omega) (by omega), h (45 + 9 * c) (by omega) (by omega), h (46 + 9 * c) (by omega) (by omega), h (49 + 9 * c) (by omega) (by omega), h (50 + 9 * c) (by omega) (by omega), h (51 + 9 * c) (by omega) (by omega), h (52 + 9 * c) (by omega) (by omega)]
theorem sitN_up {f : Int → Int} {c w idle i x : Int} (hc : 0 ≤ c) (hi : i = 6 ∨ i = 48 + 9 * c) : ∀ n : Nat, n ≤ 4 → fSitN (up f i x) c w idle n = up (fSitN f c w idle n) i x ∧ sSitN (up f i x) c w idle n = sSitN f c w idle n := by
  intro n
  induction n with
  | zero => intro _; exact ⟨rfl, rfl⟩
  | succ n ih =>
    intro hn
    obtain ⟨h1, h2⟩ := ih (by omega)
    have hb : sBy (up (fSitN f c w idle n) i x) c w idle n = sBy (fSitN f c w idle n) c w idle n := by
      unfold sBy
      rw [up_ne (by omega)]
    refine ⟨?_, ?_⟩
    · show fLeg (fSitN (up f i x) c w idle n) c n (-(sBy (fSitN (up f i x) c w idle n) c w idle n)) = up (fLeg (fSitN f c w idle n) c n (-(sBy (fSitN f c w idle n) c w idle n))) i x
      rw [h1, hb, fLeg_up (by omega) (by omega) (by omega)]
    · show sSitN (up f i x) c w idle n + sBy (fSitN (up f i x) c w idle n) c w idle n = sSitN f c w idle n + sBy (fSitN f c w idle n) c w idle n
      rw [h1, hb, h2]
theorem wr_if (M : MM) (a : Nat) (k v : Int) (b : Nat) (j : Int) : wr M a k v b j = if b = a ∧ j = k then v else M b j := rfl
theorem fillM_if (M : MM) (a : Nat) (n v : Int) (b : Nat) (j : Int) : fillM M a n v b j = if b = a ∧ 0 ≤ j ∧ j < n then v else M b j := rfl
theorem cpyM_ne (M : MM) (a b : Nat) (n : Int) {c : Nat} (h : c ≠ b) : cpyM M a b n c = M c := by
  funext j
  unfold cpyM
  rw [if_neg (fun e => h e.1)]
theorem cpyM_at (M : MM) (a b : Nat) (n : Int) {j : Int} (h : 0 ≤ j ∧ j < n) : cpyM M a b n b j = M a j := by
  unfold cpyM
  rw [if_pos ⟨rfl, h⟩]
theorem Oth.fill {M : MM} {o a : Nat} {n v : Int} (h : o ≤ a ∧ a ≤ o + 10) : Oth M (fillM M a n v) o := fun b hb => by
  funext j
  unfold fillM
  rw [if_neg (by omega)]
theorem Oth.cpy {M : MM} {o a b : Nat} {n : Int} (h : o ≤ b ∧ b ≤ o + 10) : Oth M (cpyM M a b n) o := fun c hb => cpyM_ne M a b n (by omega)
theorem Off_chair {M : MM} {o : Nat} {f : Int → Int} {gu len : Int} (h : Off M o f) (hn : 0 ≤ f 0) : Off (wr (wr (wr (wr (wr (wr (wr (wr (wr (wr M o 0 (f 0 + 1)) (o + 1) (f 0) gu) (o + 2) (f 0) 0) (o + 3) (f 0) 0) (o + 4) (f 0) 0) (o + 5) (f 0) 0) (o + 6) (f 0 * 4 + 0) len) (o + 6) (f 0 * 4 + 1) len) (o + 6) (f 0 * 4 + 2) len) (o + 6) (f 0 * 4 + 3) len) o (fChair f gu len) := by
  obtain ⟨h0, h1, hc9, hh, hl, hv0, hv1, ht⟩ := h
  refine ⟨?_, ?_, fun c b1 b2 => ?_, fun j d1 d2 => ?_, fun j d1 d2 => ?_, ?_, ?_, fun j d1 d2 => ?_⟩
  · (repeat rw [wr_if]); unfold fChair
    repeat (first | rw [if_pos (by omega)] | rw [if_neg (by omega)])
  · (repeat rw [wr_if]); unfold fChair
    repeat (first | rw [if_pos (by omega)] | rw [if_neg (by omega)])
    exact h1
  · have e0 : fChair f gu len 0 = f 0 + 1 := by unfold fChair; rw [if_pos rfl]
    rw [e0] at b2
    by_cases e : c = f 0
    · subst e
      refine ⟨?_, ?_, ?_, ?_, ?_, fun k d1 d2 => ?_⟩ <;> ((repeat rw [wr_if]); unfold fChair)
      · repeat (first | rw [if_pos (by omega)] | rw [if_neg (by omega)])
      · repeat (first | rw [if_pos (by omega)] | rw [if_neg (by omega)])
      · repeat (first | rw [if_pos (by omega)] | rw [if_neg (by omega)])
      · repeat (first | rw [if_pos (by omega)] | rw [if_neg (by omega)])
      · repeat (first | rw [if_pos (by omega)] | rw [if_neg (by omega)])
      · rcases (by omega : k = 0 ∨ k = 1 ∨ k = 2 ∨ k = 3) with rfl | rfl | rfl | rfl
        · repeat (first | rw [if_pos (by omega)] | rw [if_neg (by omega)])
        · repeat (first | rw [if_pos (by omega)] | rw [if_neg (by omega)])
        · repeat (first | rw [if_pos (by omega)] | rw [if_neg (by omega)])
        · repeat (first | rw [if_pos (by omega)] | rw [if_neg (by omega)])
    · obtain ⟨q1, q2, q3, q4, q5, q6⟩ := hc9 c b1 (by omega)
      refine ⟨?_, ?_, ?_, ?_, ?_, fun k d1 d2 => ?_⟩ <;> ((repeat rw [wr_if]); unfold fChair)
      · repeat (first | rw [if_pos (by omega)] | rw [if_neg (by omega)])
        exact q1
      · repeat (first | rw [if_pos (by omega)] | rw [if_neg (by omega)])
        exact q2
      · repeat (first | rw [if_pos (by omega)] | rw [if_neg (by omega)])
        exact q3
      · repeat (first | rw [if_pos (by omega)] | rw [if_neg (by omega)])
        exact q4
      · repeat (first | rw [if_pos (by omega)] | rw [if_neg (by omega)])
        exact q5
      · have q := q6 k d1 d2
        repeat (first | rw [if_pos (by omega)] | rw [if_neg (by omega)])
        exact q
  · have q := hh j d1 d2
    (repeat rw [wr_if]); unfold fChair
    repeat (first | rw [if_pos (by omega)] | rw [if_neg (by omega)])
    exact q
  · have q := hl j d1 d2
    (repeat rw [wr_if]); unfold fChair
    repeat (first | rw [if_pos (by omega)] | rw [if_neg (by omega)])
    exact q
  · (repeat rw [wr_if]); unfold fChair
    repeat (first | rw [if_pos (by omega)] | rw [if_neg (by omega)])
    exact hv0
  · (repeat rw [wr_if]); unfold fChair
    repeat (first | rw [if_pos (by omega)] | rw [if_neg (by omega)])
    exact hv1
  · have q := ht j d1 d2
    (repeat rw [wr_if]); unfold fChair
    repeat (first | rw [if_pos (by omega)] | rw [if_neg (by omega)])
    exact q
theorem Off_floor {M : MM} {o : Nat} {f : Int → Int} {a b c d : Int} (h : Off M o f) (hn : 1 ≤ f 1 ∧ f 1 < 4) : Off (wr (wr (wr (wr (wr M o 1 (f 1 + 1)) (o + 7) (f 1 * 4) a) (o + 7) (f 1 * 4 + 1) b) (o + 7) (f 1 * 4 + 2) c) (o + 7) (f 1 * 4 + 3) d) o (fFloor f a b c d) := by
  obtain ⟨h0, h1, hc9, hh, hl, hv0, hv1, ht⟩ := h
  refine ⟨?_, ?_, fun c9 b1 b2 => ?_, fun j d1 d2 => ?_, fun j d1 d2 => ?_, ?_, ?_, fun j d1 d2 => ?_⟩
  · (repeat rw [wr_if]); unfold fFloor
    repeat (first | rw [if_pos (by omega)] | rw [if_neg (by omega)])
    exact h0
  · (repeat rw [wr_if]); unfold fFloor
    repeat (first | rw [if_pos (by omega)] | rw [if_neg (by omega)])
  · have e0 : fFloor f a b c d 0 = f 0 := by unfold fFloor; repeat (first | rw [if_pos (by omega)] | rw [if_neg (by omega)])
    rw [e0] at b2
    obtain ⟨q1, q2, q3, q4, q5, q6⟩ := hc9 c9 b1 (by omega)
    refine ⟨?_, ?_, ?_, ?_, ?_, fun k d1 d2 => ?_⟩ <;> ((repeat rw [wr_if]); unfold fFloor)
    · repeat (first | rw [if_pos (by omega)] | rw [if_neg (by omega)])
      exact q1
    · repeat (first | rw [if_pos (by omega)] | rw [if_neg (by omega)])
      exact q2
    · repeat (first | rw [if_pos (by omega)] | rw [if_neg (by omega)])
      exact q3
    · repeat (first | rw [if_pos (by omega)] | rw [if_neg (by omega)])
      exact q4
    · repeat (first | rw [if_pos (by omega)] | rw [if_neg (by omega)])
      exact q5
    · have q := q6 k d1 d2
      repeat (first | rw [if_pos (by omega)] | rw [if_neg (by omega)])
      exact q
  · have q := hh j d1 d2
    (repeat rw [wr_if]); unfold fFloor
    rcases (by omega : j = f 1 * 4 ∨ j = f 1 * 4 + 1 ∨ j = f 1 * 4 + 2 ∨ j = f 1 * 4 + 3 ∨ (j < f 1 * 4 ∨ f 1 * 4 + 3 < j)) with e | e | e | e | e
    · repeat (first | rw [if_pos (by omega)] | rw [if_neg (by omega)])
    · repeat (first | rw [if_pos (by omega)] | rw [if_neg (by omega)])
    · repeat (first | rw [if_pos (by omega)] | rw [if_neg (by omega)])
    · repeat (first | rw [if_pos (by omega)] | rw [if_neg (by omega)])
    · repeat (first | rw [if_pos (by omega)] | rw [if_neg (by omega)])
      exact q
  · have q := hl j d1 d2
    (repeat rw [wr_if]); unfold fFloor
    repeat (first | rw [if_pos (by omega)] | rw [if_neg (by omega)])
    exact q
  · (repeat rw [wr_if]); unfold fFloor
    repeat (first | rw [if_pos (by omega)] | rw [if_neg (by omega)])
    exact hv0
  · (repeat rw [wr_if]); unfold fFloor
    repeat (first | rw [if_pos (by omega)] | rw [if_neg (by omega)])
    exact hv1
  · have q := ht j d1 d2
    (repeat rw [wr_if]); unfold fFloor
    repeat (first | rw [if_pos (by omega)] | rw [if_neg (by omega)])
    exact q
def cpyO (M : MM) (o2 o : Nat) : MM := (cpyM (cpyM (cpyM (cpyM (cpyM (cpyM (cpyM (cpyM (cpyM (cpyM (wr (wr M o 0 (M o2 0)) o 1 (wr M o 0 (M o2 0) o2 1)) (o2 + 1) (o + 1) 10) (o2 + 2) (o + 2) 10) (o2 + 3) (o + 3) 10) (o2 + 4) (o + 4) 10) (o2 + 5) (o + 5) 10) (o2 + 6) (o + 6) 40) (o2 + 7) (o + 7) 16) (o2 + 8) (o + 8) 16) (o2 + 9) (o + 9) 2) (o2 + 10) (o + 10) 11)
theorem Oth_cpyO {M : MM} {o2 o : Nat} : Oth M (cpyO M o2 o) o := by
  unfold cpyO
  exact (Oth.wr (by omega)).tr ((Oth.wr (by omega)).tr ((Oth.cpy (by omega)).tr ((Oth.cpy (by omega)).tr ((Oth.cpy (by omega)).tr ((Oth.cpy (by omega)).tr ((Oth.cpy (by omega)).tr ((Oth.cpy (by omega)).tr ((Oth.cpy (by omega)).tr ((Oth.cpy (by omega)).tr ((Oth.cpy (by omega)).tr (Oth.cpy (by omega))))))))))))
theorem Off_cpyO {M : MM} {o2 o : Nat} {f : Int → Int} (h : Off M o2 f) (hI : Inv f) (ho : o2 + 10 < o ∨ o + 10 < o2) : Off (cpyO M o2 o) o f := by
  obtain ⟨h0, h1, hc9, hh, hl, hv0, hv1, ht⟩ := h
  have i0 := hI.1
  unfold cpyO
  refine ⟨?_, ?_, fun c b1 b2 => ?_, fun j d1 d2 => ?_, fun j d1 d2 => ?_, ?_, ?_, fun j d1 d2 => ?_⟩
  · repeat rw [cpyM_ne _ _ _ _ (by omega)]
    rw [wr_at, up_ne (by omega), wr_at, up_eq]; exact h0
  · repeat rw [cpyM_ne _ _ _ _ (by omega)]
    rw [wr_at, up_eq, wr_ne _ _ _ (by omega)]; exact h1
  · obtain ⟨q1, q2, q3, q4, q5, q6⟩ := hc9 c b1 b2
    refine ⟨?_, ?_, ?_, ?_, ?_, fun k d1 d2 => ?_⟩
    · repeat (first | rw [cpyM_at _ _ _ _ (by omega)] | rw [cpyM_ne _ _ _ _ (by omega)] | rw [wr_ne _ _ _ (by omega)])
      exact q1
    · repeat (first | rw [cpyM_at _ _ _ _ (by omega)] | rw [cpyM_ne _ _ _ _ (by omega)] | rw [wr_ne _ _ _ (by omega)])
      exact q2
    · repeat (first | rw [cpyM_at _ _ _ _ (by omega)] | rw [cpyM_ne _ _ _ _ (by omega)] | rw [wr_ne _ _ _ (by omega)])
      exact q3
    · repeat (first | rw [cpyM_at _ _ _ _ (by omega)] | rw [cpyM_ne _ _ _ _ (by omega)] | rw [wr_ne _ _ _ (by omega)])
      exact q4
    · repeat (first | rw [cpyM_at _ _ _ _ (by omega)] | rw [cpyM_ne _ _ _ _ (by omega)] | rw [wr_ne _ _ _ (by omega)])
      exact q5
    · have q := q6 k d1 d2
      repeat (first | rw [cpyM_at _ _ _ _ (by omega)] | rw [cpyM_ne _ _ _ _ (by omega)] | rw [wr_ne _ _ _ (by omega)])
      exact q
  · have q := hh j d1 d2
    repeat (first | rw [cpyM_at _ _ _ _ (by omega)] | rw [cpyM_ne _ _ _ _ (by omega)] | rw [wr_ne _ _ _ (by omega)])
    exact q
  · have q := hl j d1 d2
    repeat (first | rw [cpyM_at _ _ _ _ (by omega)] | rw [cpyM_ne _ _ _ _ (by omega)] | rw [wr_ne _ _ _ (by omega)])
    exact q
  · repeat (first | rw [cpyM_at _ _ _ _ (by omega)] | rw [cpyM_ne _ _ _ _ (by omega)] | rw [wr_ne _ _ _ (by omega)])
    exact hv0
  · repeat (first | rw [cpyM_at _ _ _ _ (by omega)] | rw [cpyM_ne _ _ _ _ (by omega)] | rw [wr_ne _ _ _ (by omega)])
    exact hv1
  · have q := ht j d1 d2
    repeat (first | rw [cpyM_at _ _ _ _ (by omega)] | rw [cpyM_ne _ _ _ _ (by omega)] | rw [wr_ne _ _ _ (by omega)])
    exact q
def newO (M : MM) (o : Nat) : MM := (wr (wr (wr (wr (wr (wr (wr (wr (wr (wr (wr (wr (wr (wr (wr (wr (wr (wr (fillM (fillM (wr (wr M o 0 0) o 1 1) (o + 7) 16 0) (o + 10) 11 0) (o + 8) (0 * 4 + 0) 400) (o + 8) (0 * 4 + 1) 500) (o + 8) (0 * 4 + 2) 4) (o + 8) (0 * 4 + 3) 12) (o + 8) (1 * 4 + 0) 400) (o + 8) (1 * 4 + 1) 500) (o + 8) (1 * 4 + 2) 4) (o + 8) (1 * 4 + 3) 12) (o + 8) (2 * 4 + 0) 400) (o + 8) (2 * 4 + 1) 500) (o + 8) (2 * 4 + 2) 4) (o + 8) (2 * 4 + 3) 12) (o + 8) (3 * 4 + 0) 400) (o + 8) (3 * 4 + 1) 500) (o + 8) (3 * 4 + 2) 4) (o + 8) (3 * 4 + 3) 12) (o + 9) 0 5) (o + 9) 1 60)
theorem Oth_newO {M : MM} {o : Nat} : Oth M (newO M o) o := by
  unfold newO
  exact ((Oth.wr (by omega)).tr ((Oth.wr (by omega)).tr ((Oth.fill (by omega)).tr ((Oth.fill (by omega)).tr ((Oth.wr (by omega)).tr ((Oth.wr (by omega)).tr ((Oth.wr (by omega)).tr ((Oth.wr (by omega)).tr ((Oth.wr (by omega)).tr ((Oth.wr (by omega)).tr ((Oth.wr (by omega)).tr ((Oth.wr (by omega)).tr ((Oth.wr (by omega)).tr ((Oth.wr (by omega)).tr ((Oth.wr (by omega)).tr ((Oth.wr (by omega)).tr ((Oth.wr (by omega)).tr ((Oth.wr (by omega)).tr ((Oth.wr (by omega)).tr ((Oth.wr (by omega)).tr ((Oth.wr (by omega)).tr (Oth.wr (by omega)))))))))))))))))))))))
theorem Off_newO {M : MM} {o : Nat} : Off (newO M o) o fNew := by
  unfold newO
  refine ⟨?_, ?_, fun c b1 b2 => absurd b2 (Int.not_lt.mpr b1), fun j d1 d2 => ?_, fun j d1 d2 => ?_, ?_, ?_, fun j d1 d2 => ?_⟩
  · (repeat (first | rw [wr_if] | rw [fillM_if]))
    (repeat (first | rw [if_pos (by omega)] | rw [if_neg (by omega)]))
    rfl
  · (repeat (first | rw [wr_if] | rw [fillM_if]))
    (repeat (first | rw [if_pos (by omega)] | rw [if_neg (by omega)]))
    rfl
  · (repeat (first | rw [wr_if] | rw [fillM_if])); unfold fNew
    (repeat (first | rw [if_pos (by omega)] | rw [if_neg (by omega)]))
  · (repeat (first | rw [wr_if] | rw [fillM_if])); unfold fNew
    rcases (by omega : j = 0 ∨ j = 1 ∨ j = 2 ∨ j = 3 ∨ j = 4 ∨ j = 5 ∨ j = 6 ∨ j = 7 ∨ j = 8 ∨ j = 9 ∨ j = 10 ∨ j = 11 ∨ j = 12 ∨ j = 13 ∨ j = 14 ∨ j = 15) with rfl | rfl | rfl | rfl | rfl | rfl | rfl | rfl | rfl | rfl | rfl | rfl | rfl | rfl | rfl | rfl <;> (repeat (first | rw [if_pos (by omega)] | rw [if_neg (by omega)]))
  · (repeat (first | rw [wr_if] | rw [fillM_if])); unfold fNew
    (repeat (first | rw [if_pos (by omega)] | rw [if_neg (by omega)]))
  · (repeat (first | rw [wr_if] | rw [fillM_if])); unfold fNew
    (repeat (first | rw [if_pos (by omega)] | rw [if_neg (by omega)]))
  · (repeat (first | rw [wr_if] | rw [fillM_if])); unfold fNew
    (repeat (first | rw [if_pos (by omega)] | rw [if_neg (by omega)]))
