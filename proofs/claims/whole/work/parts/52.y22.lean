/-- after a face on both sides: the number that the reference says, the same answer, in step again -/
def Tie (s : Nat) (M2 : MM) (k b : Int) : Prop := M2 (s + 217) 0 = k ∧ (0 ≤ k ∧ k ≤ 3) ∧ (k = 0 → M2 (s + 224) 0 = nz b) ∧ ∃ f', Rel M2 s f'
/-- the reference is as it was -/
def Pm (M M1 : MM) (s : Nat) : Prop := ∀ b : Nat, s + 217 ≤ b → b ≤ s + 223 → M1 b = M b
theorem Pm.rf {M : MM} {s : Nat} : Pm M M s := fun _ _ _ => rfl
theorem Pm.eq {M M1 : MM} {s : Nat} (h : M = M1) : Pm M M1 s := fun _ _ _ => by rw [h]
theorem Pm.wrO {M : MM} {s : Nat} {k v : Int} : Pm M (wr M (s + 224) k v) s := fun b h1 h2 => wr_ne _ _ _ (by omega)
theorem Pm.tr {M M1 M2 : MM} {s : Nat} (h : Pm M M1 s) (k : Pm M1 M2 s) : Pm M M2 s := fun b h1 h2 => (k b h1 h2).trans (h b h1 h2)
theorem Pm.oth {M M1 : MM} {s o : Nat} (h : Oth M M1 o) (ho : o + 10 < s + 217) : Pm M M1 s := fun b h1 h2 => h b (by omega)
theorem Pm.dft {M M1 : MM} {s : Nat} {f : Int → Int} (h : Dft M s f M1) (hn : 0 ≤ M (s + 23) 1 ∧ M (s + 23) 1 < 15) : Pm M M1 s := Pm.oth h.2 (by unfold gO; omega)
theorem Pm.act {M M1 : MM} {s : Nat} {f g : Int → Int} (h : Act M s f g M1) (hn : 0 ≤ M (s + 23) 1 ∧ M (s + 23) 1 < 15) : Pm M M1 s := by
  obtain ⟨A, B, dA, oB, tB, hB⟩ := h
  refine (Pm.dft dA hn).tr ((Pm.oth tB (by omega)).tr fun b h1 h2 => ?_)
  rw [← hB]
  unfold kdM
  rw [wr_ne _ _ _ (by omega), wr_ne _ _ _ (by omega)]
theorem xn_AS : xIA ≠ xIS := by decide +kernel
theorem xn_AO : xIA ≠ xIO := by decide +kernel
theorem xn_SO : xIS ≠ xIO := by decide +kernel
theorem xn_SA : xIS ≠ xIA := by decide +kernel
theorem xn_OA : xIO ≠ xIA := by decide +kernel
theorem xn_OS : xIO ≠ xIS := by decide +kernel
theorem Tie.err {M1 M2 : MM} {s : Nat} {f : Int → Int} {k b : Int} (h : Rel M1 s f) (h2 : wr M1 (s + 217) 0 k = M2) (hk : 1 ≤ k ∧ k ≤ 3) : Tie s M2 k b := ⟨by rw [← h2, wr_iv], by omega, fun q => absurd q (by omega), f, by rw [← h2]; exact h.same Sm.wr0⟩
theorem Tie.ok {M0 M1 M2 : MM} {s : Nat} {f : Int → Int} {v b : Int} (h : Rel M0 s f) (h1 : wr M0 (s + 224) 0 (nz v) = M1) (h2 : wr M1 (s + 217) 0 0 = M2) (e : v = b) : Tie s M2 0 b := ⟨by rw [← h2, wr_iv], by decide, fun _ => by rw [← h2, wr_ne _ _ _ (by omega), ← h1, wr_iv, e], f, by rw [← h2, ← h1]; exact (h.same Sm.wrO).same Sm.wr0⟩
theorem Tie.okt {M0 M1 M2 : MM} {s : Nat} {f : Int → Int} {v b : Int} (h : Rel M0 s f) (h1 : wr M0 (s + 224) 0 (nz v) = M1) (h2 : ∃ t, aset (wr M1 (s + 217) 0 0) (s + 217 + 3) t = M2) (e : v = b) : Tie s M2 0 b := by
  obtain ⟨t, h2⟩ := h2
  exact ⟨by rw [← h2, aset_ne _ _ (by omega), wr_iv], by decide, fun _ => by rw [← h2, aset_ne _ _ (by omega), wr_ne _ _ _ (by omega), ← h1, wr_iv, e], f, by rw [← h2, ← h1]; exact ((h.same Sm.wrO).same Sm.wr0).same Sm.tri⟩
theorem Tie.act {M M0 M1 M2 : MM} {s : Nat} {f g : Int → Int} {v b : Int} (h : Rel M s f) (hIg : Inv g) (ha : Act M s f g M0) (h1 : wr M0 (s + 224) 0 (nz v) = M1) (h2 : aset (remM (wr M1 (s + 217) 0 0) (s + 217)) (s + 217 + 2) g = M2) (e : v = b) : Tie s M2 0 b := by
  refine ⟨?_, by decide, fun _ => ?_, g, h.act hIg ha (fun b hb => by rw [← h1, wr_ne _ _ _ hb]) h2⟩
  · rw [← h2, aset_ne _ _ (by omega)]
    unfold remM
    rw [aset_ne _ _ (by omega), aset_at, up_ne (by decide), wr_iv]
  · rw [← h2, aset_ne _ _ (by omega), remM_ne (by omega) (by omega), wr_ne _ _ _ (by omega), ← h1, wr_iv, e]
/-! what the reference needs to know -/
theorem Rel.mO {M M1 : MM} {s : Nat} {f : Int → Int} (h : Rel M s f) (p : Pm M M1 s) : M1 (s + 217 + 2) = f := (p _ (by omega) (by omega)).trans h.1.2.2
theorem Rel.mac {M M1 : MM} {s : Nat} {f : Int → Int} (h : Rel M s f) (p : Pm M M1 s) : 0 ≤ M1 (s + 217) 6 ∧ M1 (s + 217) 6 ≤ 14 := by
  rw [p _ (by omega) (by omega), h.2.1.2.2.1]
  exact h.2.1.2.1
theorem Rel.pz {M : MM} {s : Nat} {f : Int → Int} (h : Rel M s f) : 0 ≤ M (s + 214) 1 ∧ M (s + 214) 1 ≤ 120 := by
  rw [h.2.2.2.1]
  exact h.2.2.2.2.2.1
theorem Rel.mz {M M1 : MM} {s : Nat} {f : Int → Int} (h : Rel M s f) (p : Pm M M1 s) : 0 ≤ M1 (s + 217) 2 ∧ M1 (s + 217) 2 ≤ 120 := by
  rw [p _ (by omega) (by omega)]
  exact h.2.2.2.2.2.1
theorem Rel.pB {M : MM} {s : Nat} {f : Int → Int} (h : Rel M s f) (hz : M (s + 23) 2 ≠ 0) : Off M (gO (s + 23) ((M (s + 23) 1 + 14) % 15).toNat) (rowOf (M (s + 217 + 4)) (134 * (M (s + 23) 2 - 1))) ∧ Inv (rowOf (M (s + 217 + 4)) (134 * (M (s + 23) 2 - 1))) := by
  have hc := h.2.1.2.1
  have k := h.2.1.2.2.2 0 (by omega) (by omega)
  rw [show M (s + 23) 1 + 14 - 0 = M (s + 23) 1 + 14 by omega, show M (s + 23) 2 - 1 - 0 = M (s + 23) 2 - 1 by omega] at k
  exact k
theorem Rel.mk {M M1 : MM} {s : Nat} {f : Int → Int} {k : Int} (h : Rel M s f) (p : Pm M M1 s) (hk : 0 ≤ k ∧ k ≤ 1) : 0 ≤ M1 (s + 217 + 6) k ∧ M1 (s + 217 + 6) k ≤ 1 := by
  rw [p _ (by omega) (by omega)]
  rcases (by omega : k = 0 ∨ k = 1) with rfl | rfl
  · rw [h.2.2.1.1.2.1]; exact h.2.2.1.1.1
  · rw [h.2.2.1.2.2.1]; exact h.2.2.1.2.1
theorem Rel.mJ {M M1 : MM} {s : Nat} {f : Int → Int} {k : Int} (h : Rel M s f) (p : Pm M M1 s) (hk : 0 ≤ k ∧ k ≤ 1) (hz : M1 (s + 217 + 6) k ≠ 0) : Inv (rowOf (M1 (s + 217 + 5)) (134 * k)) := by
  rw [p _ (by omega) (by omega)] at hz ⊢
  rcases (by omega : k = 0 ∨ k = 1) with rfl | rfl
  · rw [h.2.2.1.1.2.1] at hz; exact (h.2.2.1.1.2.2 hz).2
  · rw [h.2.2.1.2.2.1] at hz; exact (h.2.2.1.2.2.2 hz).2
theorem tp_append {M M1 : MM} {s : Nat} {f0 : Int → Int} {c : Int} {kk : Int} (hR : Rel M s f0) (h1 : (kk = 0 ∧ ∃ v9 M0, ((0 ≤ c ∧ c ≤ 255) ∧ (M (s + 214) 1 ≠ 120) ∧ v9 = M (s + 214) 1 + 1 ∧ wr (wr M (s + 214 + 1) (M (s + 214) 1) c) (s + 214) 1 (M (s + 214) 1 + 1) = M0) ∧ wr M0 (s + 224) 0 (nz v9) = M1) ∨ (kk = 1 ∧ ((¬ (0 ≤ c ∧ c ≤ 255) ∧ xIA = xIA ∧ M = M1) ∨ ((0 ≤ c ∧ c ≤ 255) ∧ ¬ (M (s + 214) 1 ≠ 120) ∧ xIA = xIS ∧ M = M1))) ∨ (kk = 2 ∧ ((¬ (0 ≤ c ∧ c ≤ 255) ∧ xIS = xIA ∧ M = M1) ∨ ((0 ≤ c ∧ c ≤ 255) ∧ ¬ (M (s + 214) 1 ≠ 120) ∧ xIS = xIS ∧ M = M1)))) : Pm M M1 s := by
  rcases h1 with ⟨-, v, M0, e1, rfl⟩ | ⟨-, e1⟩ | ⟨-, e1⟩
  · obtain ⟨-, -, -, rfl⟩ := e1
    intro b h1 h2
    rw [wr_ne _ _ _ (by omega), wr_ne _ _ _ (by omega), wr_ne _ _ _ (by omega)]
  · rcases e1 with ⟨-, -, rfl⟩ | ⟨-, -, -, rfl⟩ <;> exact Pm.rf
  · rcases e1 with ⟨-, -, rfl⟩ | ⟨-, -, -, rfl⟩ <;> exact Pm.rf
set_option maxHeartbeats 1000000 in
theorem tt_append {M M1 : MM} {s : Nat} {f0 : Int → Int} {c : Int} {kk : Int} (hR : Rel M s f0) (h1 : (kk = 0 ∧ ∃ v9 M0, ((0 ≤ c ∧ c ≤ 255) ∧ (M (s + 214) 1 ≠ 120) ∧ v9 = M (s + 214) 1 + 1 ∧ wr (wr M (s + 214 + 1) (M (s + 214) 1) c) (s + 214) 1 (M (s + 214) 1 + 1) = M0) ∧ wr M0 (s + 224) 0 (nz v9) = M1) ∨ (kk = 1 ∧ ((¬ (0 ≤ c ∧ c ≤ 255) ∧ xIA = xIA ∧ M = M1) ∨ ((0 ≤ c ∧ c ≤ 255) ∧ ¬ (M (s + 214) 1 ≠ 120) ∧ xIA = xIS ∧ M = M1))) ∨ (kk = 2 ∧ ((¬ (0 ≤ c ∧ c ≤ 255) ∧ xIS = xIA ∧ M = M1) ∨ ((0 ≤ c ∧ c ≤ 255) ∧ ¬ (M (s + 214) 1 ≠ 120) ∧ xIS = xIS ∧ M = M1)))) {M2 : MM} {b9 : Int} (h2 : (¬ ((0 ≤ c ∧ c ≤ 255)) ∧ wr M1 (s + 217) 0 1 = M2) ∨ ((0 ≤ c ∧ c ≤ 255) ∧ ¬ ((M1 (s + 217) 2 ≠ 120)) ∧ wr M1 (s + 217) 0 2 = M2) ∨ ((0 ≤ c ∧ c ≤ 255) ∧ (M1 (s + 217) 2 ≠ 120) ∧ b9 = M1 (s + 217) 2 + 1 ∧ wr (wr (wr M1 (s + 217) 0 0) ((s + 217) + 1) (M1 (s + 217) 2) c) (s + 217) 2 (M1 (s + 217) 2 + 1) = M2)) : Tie s M2 kk b9 := by
  rcases h1 with ⟨rfl, v, M0, e1, e9⟩ | ⟨rfl, e1⟩ | ⟨rfl, e1⟩
  · obtain ⟨c1, c2, ev, e1⟩ := e1
    subst e1
    have hm : M1 (s + 217) 2 = M (s + 217) 2 := by rw [← e9, wr_ne _ _ _ (by omega), wr_ne _ _ _ (by omega), wr_ne _ _ _ (by omega)]
    have ht : M1 (s + 217 + 1) = M (s + 217 + 1) := by rw [← e9, wr_ne _ _ _ (by omega), wr_ne _ _ _ (by omega), wr_ne _ _ _ (by omega)]
    have t1 := hR.2.2.2.1
    have t2 := hR.2.2.2.2.1
    have t3 := hR.2.2.2.2.2
    rcases h2 with ⟨n9, -⟩ | ⟨-, n9, -⟩ | ⟨-, -, b0, h2⟩
    · exact absurd c1 n9
    · exact absurd (by rw [hm, ← t1]; exact c2) n9
    · have z2 : M2 (s + 217) 2 = M (s + 217) 2 + 1 := by rw [← h2, wr_iv, hm]
      have z1 : M2 (s + 217 + 1) = up (M (s + 217 + 1)) (M (s + 217) 2) c := by rw [← h2, wr_ne _ _ _ (by omega), wr_at, wr_ne _ _ _ (by omega), hm, ht]
      refine ⟨by rw [← h2, wr_ii _ _ _ (by decide), wr_ne _ _ _ (by omega), wr_iv], by decide, fun _ => ?_, f0, hR.text (M1 := M1) (fun b b1 b2 b3 => ?_) (fun b b1 b2 => ?_) ?_ ?_ ?_ ?_⟩
      · rw [← h2, wr_ne _ _ _ (by omega), wr_ne _ _ _ (by omega), wr_ne _ _ _ (by omega), ← e9, wr_iv, ev, b0, hm, t1]
      · rw [← e9, wr_ne _ _ _ b1, wr_ne _ _ _ b2, wr_ne _ _ _ b3]
      · rw [← h2, wr_ne _ _ _ b1, wr_ne _ _ _ b2, wr_ne _ _ _ b1]
      · rw [← h2, wr_ii _ _ _ (by decide), wr_ne _ _ _ (by omega), wr_ii _ _ _ (by decide)]
      · rw [z2, ← e9, wr_ne _ _ _ (by omega), wr_iv, t1]
      · rw [z1, ← e9, wr_ne _ _ _ (by omega), wr_ne _ _ _ (by omega), wr_at, t1, t2]
      · rw [z2, z1]
        have c2' : M (s + 217) 2 ≠ 120 := by rw [← t1]; exact c2
        obtain ⟨a1, a2⟩ := t3
        refine ⟨by omega, fun j j1 j2 => ?_⟩
        by_cases hj : j = M (s + 217) 2
        · rw [hj, up_eq]; exact c1
        · rw [up_ne hj]; exact a2 j j1 (by omega)
  · rcases e1 with ⟨n1, -, e1⟩ | ⟨-, -, q, -⟩
    · subst e1
      rcases h2 with ⟨-, h2⟩ | ⟨c9, -⟩ | ⟨c9, -⟩
      · exact Tie.err hR h2 (by decide)
      · exact absurd c9 n1
      · exact absurd c9 n1
    · exact absurd q xn_AS
  · rcases e1 with ⟨-, q, -⟩ | ⟨c1, n2, -, e1⟩
    · exact absurd q xn_SA
    · subst e1
      rw [hR.2.2.2.1] at n2
      rcases h2 with ⟨n9, -⟩ | ⟨-, -, h2⟩ | ⟨-, c9, -⟩
      · exact absurd c1 n9
      · exact Tie.err hR h2 (by decide)
      · exact absurd c9 n2
theorem tp_load {M M1 : MM} {s : Nat} {f t : Int → Int} {sz : Int} {kk : Int} (hR : Rel M s f) (h1 : (kk = 0 ∧ ∃ v9 M0, ((sErr t sz = -1) ∧ v9 = (sTxt t sz).2.2.1 ∧ Off M0 (s + 1) (sTxt t sz).2.2.2 ∧ Inv (sTxt t sz).2.2.2 ∧ LdW M M0 s) ∧ wr M0 (s + 224) 0 (nz v9) = M1) ∨ (kk = 1 ∧ (¬ (sErr t sz = -1) ∧ xIS = xIS ∧ ∃ p c, Cx M M1 (s + 214) p c))) : Pm M M1 s := by
  rcases h1 with ⟨-, v, M0, e1, rfl⟩ | ⟨-, e1⟩
  · obtain ⟨-, -, -, -, e1⟩ := e1
    intro b h1 h2
    rw [wr_ne _ _ _ (by omega)]
    exact e1.2.2.2.2.2 b (by omega) (by omega) (by omega) (by omega) (by omega) (by omega)
  · obtain ⟨-, -, p, c, e1⟩ := e1
    exact fun b h1 h2 => e1.2.2.2 b (by omega) (by omega)
set_option maxHeartbeats 1000000 in
theorem tt_load {M M1 : MM} {s : Nat} {f t : Int → Int} {sz : Int} {kk : Int} (hR : Rel M s f) (h1 : (kk = 0 ∧ ∃ v9 M0, ((sErr t sz = -1) ∧ v9 = (sTxt t sz).2.2.1 ∧ Off M0 (s + 1) (sTxt t sz).2.2.2 ∧ Inv (sTxt t sz).2.2.2 ∧ LdW M M0 s) ∧ wr M0 (s + 224) 0 (nz v9) = M1) ∨ (kk = 1 ∧ (¬ (sErr t sz = -1) ∧ xIS = xIS ∧ ∃ p c, Cx M M1 (s + 214) p c))) {M2 : MM} {b9 : Int} (h2 : ∃ M9 p o g, Tx M1 M9 (s + 217) p o g ∧ ((sErr t sz ≠ -1 ∧ wr M9 (s + 217) 0 1 = M2) ∨ (sErr t sz = -1 ∧ b9 = (sTxt t sz).2.2.1 ∧ g = (sTxt t sz).2.2.2 ∧ Inv g ∧ wr (wr (wr (aset (wr M9 (s + 217) 0 0) ((s + 217) + 2) g) (s + 217) 6 0) ((s + 217) + 6) 0 0) ((s + 217) + 6) 1 0 = M2))) : Tie s M2 kk b9 := by
  rcases h1 with ⟨rfl, v, M0, e1, e9⟩ | ⟨rfl, e1⟩
  · obtain ⟨c1, ev, hg, hI, e1⟩ := e1
    obtain ⟨M9, p, o, g, hT, h2⟩ := h2
    rcases h2 with ⟨n9, -⟩ | ⟨-, b0, rfl, -, h2⟩
    · exact absurd c1 n9
    · refine ⟨?_, by decide, fun _ => ?_, _, hR.load hg hI e1 (M1 := M1) (fun b hb => by rw [← e9, wr_ne _ _ _ hb]) hT h2⟩
      · rw [← h2, wr_ne _ _ _ (by omega), wr_ne _ _ _ (by omega), wr_ii _ _ _ (by decide), aset_ne _ _ (by omega), wr_iv]
      · rw [← h2, wr_ne _ _ _ (by omega), wr_ne _ _ _ (by omega), wr_ne _ _ _ (by omega), aset_ne _ _ (by omega), wr_ne _ _ _ (by omega), hT.2.2.2.2 _ (by omega) (by omega), ← e9, wr_iv, ev, b0]
  · obtain ⟨n1, -, p, c, e1⟩ := e1
    obtain ⟨M9, p9, o, g, hT, h2⟩ := h2
    rcases h2 with ⟨-, h2⟩ | ⟨c9, -⟩
    · exact Tie.err ((hR.same (Sm.cx e1)).same (Sm.tx hT)) h2 (by decide)
    · exact absurd c9 n1
theorem tp_about {M M1 : MM} {s : Nat} {f : Int → Int} {w : Int} {kk : Int} (hR : Rel M s f) (h1 : (kk = 0 ∧ ∃ v9 M0, ((0 ≤ w ∧ w ≤ 10) ∧ v9 = sAbout f w ∧ M = M0) ∧ wr M0 (s + 224) 0 (nz v9) = M1) ∨ (kk = 1 ∧ (¬ (0 ≤ w ∧ w ≤ 10) ∧ xIA = xIA ∧ M = M1))) : Pm M M1 s := by
  rcases h1 with ⟨-, v, M0, e1, rfl⟩ | ⟨-, e1⟩
  · obtain ⟨-, -, e1⟩ := e1
    exact (Pm.eq e1).tr Pm.wrO
  · rcases e1 with ⟨-, -, e1⟩
    · exact Pm.eq e1
set_option maxHeartbeats 1000000 in
theorem tt_about {M M1 : MM} {s : Nat} {f : Int → Int} {w : Int} {kk : Int} (hR : Rel M s f) (h1 : (kk = 0 ∧ ∃ v9 M0, ((0 ≤ w ∧ w ≤ 10) ∧ v9 = sAbout f w ∧ M = M0) ∧ wr M0 (s + 224) 0 (nz v9) = M1) ∨ (kk = 1 ∧ (¬ (0 ≤ w ∧ w ≤ 10) ∧ xIA = xIA ∧ M = M1))) {M2 : MM} {b9 : Int} (h2 : (¬ ((0 ≤ w ∧ w ≤ 10)) ∧ wr M1 (s + 217) 0 1 = M2) ∨ ((0 ≤ w ∧ w ≤ 10) ∧ b9 = sAbout f w ∧ wr M1 (s + 217) 0 0 = M2)) : Tie s M2 kk b9 := by
  rcases h1 with ⟨rfl, v, M0, e1, e9⟩ | ⟨rfl, e1⟩
  · obtain ⟨c1, ev, e1⟩ := e1
    rcases h2 with ⟨n9, -⟩ | ⟨-, b0, h2⟩
    · exact absurd c1 n9
    · subst e1
      exact Tie.ok hR e9 h2 (ev.trans b0.symm)
  · rcases e1 with ⟨n1, q, e1⟩
    · rcases h2 with ⟨-, h2⟩ | ⟨c9, -⟩
      · subst e1
        exact Tie.err hR h2 (by decide)
      · exact absurd c9 n1
theorem tp_chairOf {M M1 : MM} {s : Nat} {f : Int → Int} {c w : Int} {kk : Int} (hR : Rel M s f) (h1 : (kk = 0 ∧ ∃ v9 M0, ((0 ≤ c ∧ c < f 0) ∧ (0 ≤ w ∧ w ≤ 8) ∧ v9 = sChairOf f c w ∧ M = M0) ∧ wr M0 (s + 224) 0 (nz v9) = M1) ∨ (kk = 1 ∧ ((¬ ((0 ≤ c ∧ c < f 0)) ∧ xIO = xIO ∧ M = M1) ∨ (((0 ≤ c ∧ c < f 0)) ∧ ¬ (0 ≤ w ∧ w ≤ 8) ∧ xIO = xIA ∧ M = M1))) ∨ (kk = 2 ∧ ((¬ ((0 ≤ c ∧ c < f 0)) ∧ xIA = xIO ∧ M = M1) ∨ (((0 ≤ c ∧ c < f 0)) ∧ ¬ (0 ≤ w ∧ w ≤ 8) ∧ xIA = xIA ∧ M = M1)))) : Pm M M1 s := by
  rcases h1 with ⟨-, v, M0, e1, rfl⟩ | ⟨-, e1⟩ | ⟨-, e1⟩
  · obtain ⟨-, -, -, e1⟩ := e1
    exact (Pm.eq e1).tr Pm.wrO
  · rcases e1 with ⟨-, -, e1⟩ | ⟨-, -, -, e1⟩
    · exact Pm.eq e1
    · exact Pm.eq e1
  · rcases e1 with ⟨-, -, e1⟩ | ⟨-, -, -, e1⟩
    · exact Pm.eq e1
    · exact Pm.eq e1
set_option maxHeartbeats 1000000 in
theorem tt_chairOf {M M1 : MM} {s : Nat} {f : Int → Int} {c w : Int} {kk : Int} (hR : Rel M s f) (h1 : (kk = 0 ∧ ∃ v9 M0, ((0 ≤ c ∧ c < f 0) ∧ (0 ≤ w ∧ w ≤ 8) ∧ v9 = sChairOf f c w ∧ M = M0) ∧ wr M0 (s + 224) 0 (nz v9) = M1) ∨ (kk = 1 ∧ ((¬ ((0 ≤ c ∧ c < f 0)) ∧ xIO = xIO ∧ M = M1) ∨ (((0 ≤ c ∧ c < f 0)) ∧ ¬ (0 ≤ w ∧ w ≤ 8) ∧ xIO = xIA ∧ M = M1))) ∨ (kk = 2 ∧ ((¬ ((0 ≤ c ∧ c < f 0)) ∧ xIA = xIO ∧ M = M1) ∨ (((0 ≤ c ∧ c < f 0)) ∧ ¬ (0 ≤ w ∧ w ≤ 8) ∧ xIA = xIA ∧ M = M1)))) {M2 : MM} {b9 : Int} (h2 : (¬ ((0 ≤ c ∧ c < f 0)) ∧ wr M1 (s + 217) 0 1 = M2) ∨ ((0 ≤ c ∧ c < f 0) ∧ ¬ ((0 ≤ w ∧ w ≤ 8)) ∧ wr M1 (s + 217) 0 2 = M2) ∨ ((0 ≤ c ∧ c < f 0) ∧ (0 ≤ w ∧ w ≤ 8) ∧ b9 = sChairOf f c w ∧ wr M1 (s + 217) 0 0 = M2)) : Tie s M2 kk b9 := by
  rcases h1 with ⟨rfl, v, M0, e1, e9⟩ | ⟨rfl, e1⟩ | ⟨rfl, e1⟩
  · obtain ⟨c1, c2, ev, e1⟩ := e1
    rcases h2 with ⟨n9, -⟩ | ⟨-, n9, -⟩ | ⟨-, -, b0, h2⟩
    · exact absurd c1 n9
    · exact absurd c2 n9
    · subst e1
      exact Tie.ok hR e9 h2 (ev.trans b0.symm)
  · rcases e1 with ⟨n1, q, e1⟩ | ⟨c1, n2, q, e1⟩
    · rcases h2 with ⟨-, h2⟩ | ⟨c9, -⟩ | ⟨c9, -⟩
      · subst e1
        exact Tie.err hR h2 (by decide)
      · exact absurd c9 n1
      · exact absurd c9 n1
    · exact absurd q xn_OA
  · rcases e1 with ⟨n1, q, e1⟩ | ⟨c1, n2, q, e1⟩
    · exact absurd q xn_AO
    · rcases h2 with ⟨n9, -⟩ | ⟨-, -, h2⟩ | ⟨-, c9, -⟩
      · exact absurd c1 n9
      · subst e1
        exact Tie.err hR h2 (by decide)
      · exact absurd c9 n2
theorem tp_wobble {M M1 : MM} {s : Nat} {f : Int → Int} {c w : Int} {kk : Int} (hR : Rel M s f) (h1 : (kk = 0 ∧ ∃ v9 M0, ((0 ≤ c ∧ c < f 0) ∧ (0 ≤ w ∧ w ≤ 1) ∧ v9 = sWn f c ∧ M = M0) ∧ wr M0 (s + 224) 0 (nz v9) = M1) ∨ (kk = 1 ∧ ((¬ ((0 ≤ c ∧ c < f 0)) ∧ xIO = xIO ∧ M = M1) ∨ (((0 ≤ c ∧ c < f 0)) ∧ ¬ (0 ≤ w ∧ w ≤ 1) ∧ xIO = xIA ∧ M = M1))) ∨ (kk = 2 ∧ ((¬ ((0 ≤ c ∧ c < f 0)) ∧ xIA = xIO ∧ M = M1) ∨ (((0 ≤ c ∧ c < f 0)) ∧ ¬ (0 ≤ w ∧ w ≤ 1) ∧ xIA = xIA ∧ M = M1)))) : Pm M M1 s := by
  rcases h1 with ⟨-, v, M0, e1, rfl⟩ | ⟨-, e1⟩ | ⟨-, e1⟩
  · obtain ⟨-, -, -, e1⟩ := e1
    exact (Pm.eq e1).tr Pm.wrO
  · rcases e1 with ⟨-, -, e1⟩ | ⟨-, -, -, e1⟩
    · exact Pm.eq e1
    · exact Pm.eq e1
  · rcases e1 with ⟨-, -, e1⟩ | ⟨-, -, -, e1⟩
    · exact Pm.eq e1
    · exact Pm.eq e1
set_option maxHeartbeats 1000000 in
theorem tt_wobble {M M1 : MM} {s : Nat} {f : Int → Int} {c w : Int} {kk : Int} (hR : Rel M s f) (h1 : (kk = 0 ∧ ∃ v9 M0, ((0 ≤ c ∧ c < f 0) ∧ (0 ≤ w ∧ w ≤ 1) ∧ v9 = sWn f c ∧ M = M0) ∧ wr M0 (s + 224) 0 (nz v9) = M1) ∨ (kk = 1 ∧ ((¬ ((0 ≤ c ∧ c < f 0)) ∧ xIO = xIO ∧ M = M1) ∨ (((0 ≤ c ∧ c < f 0)) ∧ ¬ (0 ≤ w ∧ w ≤ 1) ∧ xIO = xIA ∧ M = M1))) ∨ (kk = 2 ∧ ((¬ ((0 ≤ c ∧ c < f 0)) ∧ xIA = xIO ∧ M = M1) ∨ (((0 ≤ c ∧ c < f 0)) ∧ ¬ (0 ≤ w ∧ w ≤ 1) ∧ xIA = xIA ∧ M = M1)))) {M2 : MM} {b9 : Int} (h2 : (¬ ((0 ≤ c ∧ c < f 0)) ∧ wr M1 (s + 217) 0 1 = M2) ∨ ((0 ≤ c ∧ c < f 0) ∧ ¬ ((0 ≤ w ∧ w ≤ 1)) ∧ wr M1 (s + 217) 0 2 = M2) ∨ ((0 ≤ c ∧ c < f 0) ∧ (0 ≤ w ∧ w ≤ 1) ∧ b9 = sWn f c ∧ wr M1 (s + 217) 0 0 = M2)) : Tie s M2 kk b9 := by
  rcases h1 with ⟨rfl, v, M0, e1, e9⟩ | ⟨rfl, e1⟩ | ⟨rfl, e1⟩
  · obtain ⟨c1, c2, ev, e1⟩ := e1
    rcases h2 with ⟨n9, -⟩ | ⟨-, n9, -⟩ | ⟨-, -, b0, h2⟩
    · exact absurd c1 n9
    · exact absurd c2 n9
    · subst e1
      exact Tie.ok hR e9 h2 (ev.trans b0.symm)
  · rcases e1 with ⟨n1, q, e1⟩ | ⟨c1, n2, q, e1⟩
    · rcases h2 with ⟨-, h2⟩ | ⟨c9, -⟩ | ⟨c9, -⟩
      · subst e1
        exact Tie.err hR h2 (by decide)
      · exact absurd c9 n1
      · exact absurd c9 n1
    · exact absurd q xn_OA
  · rcases e1 with ⟨n1, q, e1⟩ | ⟨c1, n2, q, e1⟩
    · exact absurd q xn_AO
    · rcases h2 with ⟨n9, -⟩ | ⟨-, -, h2⟩ | ⟨-, c9, -⟩
      · exact absurd c1 n9
      · subst e1
        exact Tie.err hR h2 (by decide)
      · exact absurd c9 n2
theorem tp_legOf {M M1 : MM} {s : Nat} {f : Int → Int} {c k w : Int} {kk : Int} (hR : Rel M s f) (h1 : (kk = 0 ∧ ∃ v9 M0, (((0 ≤ c ∧ c < f 0) ∧ 0 ≤ k ∧ k < 4) ∧ (0 ≤ w ∧ w ≤ 2) ∧ v9 = sLegOf f c k w ∧ M = M0) ∧ wr M0 (s + 224) 0 (nz v9) = M1) ∨ (kk = 1 ∧ ((¬ ((0 ≤ c ∧ c < f 0) ∧ 0 ≤ k ∧ k < 4) ∧ xIO = xIO ∧ M = M1) ∨ (((0 ≤ c ∧ c < f 0) ∧ 0 ≤ k ∧ k < 4) ∧ ¬ (0 ≤ w ∧ w ≤ 2) ∧ xIO = xIA ∧ M = M1))) ∨ (kk = 2 ∧ ((¬ ((0 ≤ c ∧ c < f 0) ∧ 0 ≤ k ∧ k < 4) ∧ xIA = xIO ∧ M = M1) ∨ (((0 ≤ c ∧ c < f 0) ∧ 0 ≤ k ∧ k < 4) ∧ ¬ (0 ≤ w ∧ w ≤ 2) ∧ xIA = xIA ∧ M = M1)))) : Pm M M1 s := by
  rcases h1 with ⟨-, v, M0, e1, rfl⟩ | ⟨-, e1⟩ | ⟨-, e1⟩
  · obtain ⟨-, -, -, e1⟩ := e1
    exact (Pm.eq e1).tr Pm.wrO
  · rcases e1 with ⟨-, -, e1⟩ | ⟨-, -, -, e1⟩
    · exact Pm.eq e1
    · exact Pm.eq e1
  · rcases e1 with ⟨-, -, e1⟩ | ⟨-, -, -, e1⟩
    · exact Pm.eq e1
    · exact Pm.eq e1
set_option maxHeartbeats 1000000 in
theorem tt_legOf {M M1 : MM} {s : Nat} {f : Int → Int} {c k w : Int} {kk : Int} (hR : Rel M s f) (h1 : (kk = 0 ∧ ∃ v9 M0, (((0 ≤ c ∧ c < f 0) ∧ 0 ≤ k ∧ k < 4) ∧ (0 ≤ w ∧ w ≤ 2) ∧ v9 = sLegOf f c k w ∧ M = M0) ∧ wr M0 (s + 224) 0 (nz v9) = M1) ∨ (kk = 1 ∧ ((¬ ((0 ≤ c ∧ c < f 0) ∧ 0 ≤ k ∧ k < 4) ∧ xIO = xIO ∧ M = M1) ∨ (((0 ≤ c ∧ c < f 0) ∧ 0 ≤ k ∧ k < 4) ∧ ¬ (0 ≤ w ∧ w ≤ 2) ∧ xIO = xIA ∧ M = M1))) ∨ (kk = 2 ∧ ((¬ ((0 ≤ c ∧ c < f 0) ∧ 0 ≤ k ∧ k < 4) ∧ xIA = xIO ∧ M = M1) ∨ (((0 ≤ c ∧ c < f 0) ∧ 0 ≤ k ∧ k < 4) ∧ ¬ (0 ≤ w ∧ w ≤ 2) ∧ xIA = xIA ∧ M = M1)))) {M2 : MM} {b9 : Int} (h2 : (¬ (((0 ≤ c ∧ c < f 0) ∧ 0 ≤ k ∧ k < 4)) ∧ wr M1 (s + 217) 0 1 = M2) ∨ (((0 ≤ c ∧ c < f 0) ∧ 0 ≤ k ∧ k < 4) ∧ ¬ ((0 ≤ w ∧ w ≤ 2)) ∧ wr M1 (s + 217) 0 2 = M2) ∨ (((0 ≤ c ∧ c < f 0) ∧ 0 ≤ k ∧ k < 4) ∧ (0 ≤ w ∧ w ≤ 2) ∧ b9 = sLegOf f c k w ∧ wr M1 (s + 217) 0 0 = M2)) : Tie s M2 kk b9 := by
  rcases h1 with ⟨rfl, v, M0, e1, e9⟩ | ⟨rfl, e1⟩ | ⟨rfl, e1⟩
  · obtain ⟨c1, c2, ev, e1⟩ := e1
    rcases h2 with ⟨n9, -⟩ | ⟨-, n9, -⟩ | ⟨-, -, b0, h2⟩
    · exact absurd c1 n9
    · exact absurd c2 n9
    · subst e1
      exact Tie.ok hR e9 h2 (ev.trans b0.symm)
  · rcases e1 with ⟨n1, q, e1⟩ | ⟨c1, n2, q, e1⟩
    · rcases h2 with ⟨-, h2⟩ | ⟨c9, -⟩ | ⟨c9, -⟩
      · subst e1
        exact Tie.err hR h2 (by decide)
      · exact absurd c9 n1
      · exact absurd c9 n1
    · exact absurd q xn_OA
  · rcases e1 with ⟨n1, q, e1⟩ | ⟨c1, n2, q, e1⟩
    · exact absurd q xn_AO
    · rcases h2 with ⟨n9, -⟩ | ⟨-, -, h2⟩ | ⟨-, c9, -⟩
      · exact absurd c1 n9
      · subst e1
        exact Tie.err hR h2 (by decide)
      · exact absurd c9 n2
theorem tp_spot {M M1 : MM} {s : Nat} {f : Int → Int} {fl k : Int} {kk : Int} (hR : Rel M s f) (h1 : (kk = 0 ∧ ∃ v9 M0, (((0 ≤ fl ∧ fl < f 1) ∧ 0 ≤ k ∧ k < 4) ∧ v9 = f (12 + (4 * fl + k)) ∧ M = M0) ∧ wr M0 (s + 224) 0 (nz v9) = M1) ∨ (kk = 1 ∧ (¬ ((0 ≤ fl ∧ fl < f 1) ∧ 0 ≤ k ∧ k < 4) ∧ xIO = xIO ∧ M = M1))) : Pm M M1 s := by
  rcases h1 with ⟨-, v, M0, e1, rfl⟩ | ⟨-, e1⟩
  · obtain ⟨-, -, e1⟩ := e1
    exact (Pm.eq e1).tr Pm.wrO
  · rcases e1 with ⟨-, -, e1⟩
    · exact Pm.eq e1
set_option maxHeartbeats 1000000 in
theorem tt_spot {M M1 : MM} {s : Nat} {f : Int → Int} {fl k : Int} {kk : Int} (hR : Rel M s f) (h1 : (kk = 0 ∧ ∃ v9 M0, (((0 ≤ fl ∧ fl < f 1) ∧ 0 ≤ k ∧ k < 4) ∧ v9 = f (12 + (4 * fl + k)) ∧ M = M0) ∧ wr M0 (s + 224) 0 (nz v9) = M1) ∨ (kk = 1 ∧ (¬ ((0 ≤ fl ∧ fl < f 1) ∧ 0 ≤ k ∧ k < 4) ∧ xIO = xIO ∧ M = M1))) {M2 : MM} {b9 : Int} (h2 : (¬ (((0 ≤ fl ∧ fl < f 1) ∧ 0 ≤ k ∧ k < 4)) ∧ wr M1 (s + 217) 0 1 = M2) ∨ (((0 ≤ fl ∧ fl < f 1) ∧ 0 ≤ k ∧ k < 4) ∧ b9 = f (12 + (4 * fl + k)) ∧ wr M1 (s + 217) 0 0 = M2)) : Tie s M2 kk b9 := by
  rcases h1 with ⟨rfl, v, M0, e1, e9⟩ | ⟨rfl, e1⟩
  · obtain ⟨c1, ev, e1⟩ := e1
    rcases h2 with ⟨n9, -⟩ | ⟨-, b0, h2⟩
    · exact absurd c1 n9
    · subst e1
      exact Tie.ok hR e9 h2 (ev.trans b0.symm)
  · rcases e1 with ⟨n1, q, e1⟩
    · rcases h2 with ⟨-, h2⟩ | ⟨c9, -⟩
      · subst e1
        exact Tie.err hR h2 (by decide)
      · exact absurd c9 n1
theorem tp_boundOf {M M1 : MM} {s : Nat} {f : Int → Int} {gu k : Int} {kk : Int} (hR : Rel M s f) (h1 : (kk = 0 ∧ ∃ v9 M0, (((0 ≤ gu ∧ gu < 4) ∧ 0 ≤ k ∧ k < 4) ∧ v9 = f (28 + (4 * gu + k)) ∧ M = M0) ∧ wr M0 (s + 224) 0 (nz v9) = M1) ∨ (kk = 1 ∧ (¬ ((0 ≤ gu ∧ gu < 4) ∧ 0 ≤ k ∧ k < 4) ∧ xIO = xIO ∧ M = M1))) : Pm M M1 s := by
  rcases h1 with ⟨-, v, M0, e1, rfl⟩ | ⟨-, e1⟩
  · obtain ⟨-, -, e1⟩ := e1
    exact (Pm.eq e1).tr Pm.wrO
  · rcases e1 with ⟨-, -, e1⟩
    · exact Pm.eq e1
set_option maxHeartbeats 1000000 in
theorem tt_boundOf {M M1 : MM} {s : Nat} {f : Int → Int} {gu k : Int} {kk : Int} (hR : Rel M s f) (h1 : (kk = 0 ∧ ∃ v9 M0, (((0 ≤ gu ∧ gu < 4) ∧ 0 ≤ k ∧ k < 4) ∧ v9 = f (28 + (4 * gu + k)) ∧ M = M0) ∧ wr M0 (s + 224) 0 (nz v9) = M1) ∨ (kk = 1 ∧ (¬ ((0 ≤ gu ∧ gu < 4) ∧ 0 ≤ k ∧ k < 4) ∧ xIO = xIO ∧ M = M1))) {M2 : MM} {b9 : Int} (h2 : (¬ (((0 ≤ gu ∧ gu < 4) ∧ 0 ≤ k ∧ k < 4)) ∧ wr M1 (s + 217) 0 1 = M2) ∨ (((0 ≤ gu ∧ gu < 4) ∧ 0 ≤ k ∧ k < 4) ∧ b9 = f (28 + (4 * gu + k)) ∧ wr M1 (s + 217) 0 0 = M2)) : Tie s M2 kk b9 := by
  rcases h1 with ⟨rfl, v, M0, e1, e9⟩ | ⟨rfl, e1⟩
  · obtain ⟨c1, ev, e1⟩ := e1
    rcases h2 with ⟨n9, -⟩ | ⟨-, b0, h2⟩
    · exact absurd c1 n9
    · subst e1
      exact Tie.ok hR e9 h2 (ev.trans b0.symm)
  · rcases e1 with ⟨n1, q, e1⟩
    · rcases h2 with ⟨-, h2⟩ | ⟨c9, -⟩
      · subst e1
        exact Tie.err hR h2 (by decide)
      · exact absurd c9 n1
theorem tp_setting {M M1 : MM} {s : Nat} {f : Int → Int} {w : Int} {kk : Int} (hR : Rel M s f) (h1 : (kk = 0 ∧ ∃ v9 M0, ((0 ≤ w ∧ w ≤ 1) ∧ v9 = f (10 + w) ∧ M = M0) ∧ wr M0 (s + 224) 0 (nz v9) = M1) ∨ (kk = 1 ∧ (¬ (0 ≤ w ∧ w ≤ 1) ∧ xIA = xIA ∧ M = M1))) : Pm M M1 s := by
  rcases h1 with ⟨-, v, M0, e1, rfl⟩ | ⟨-, e1⟩
  · obtain ⟨-, -, e1⟩ := e1
    exact (Pm.eq e1).tr Pm.wrO
  · rcases e1 with ⟨-, -, e1⟩
    · exact Pm.eq e1
set_option maxHeartbeats 1000000 in
theorem tt_setting {M M1 : MM} {s : Nat} {f : Int → Int} {w : Int} {kk : Int} (hR : Rel M s f) (h1 : (kk = 0 ∧ ∃ v9 M0, ((0 ≤ w ∧ w ≤ 1) ∧ v9 = f (10 + w) ∧ M = M0) ∧ wr M0 (s + 224) 0 (nz v9) = M1) ∨ (kk = 1 ∧ (¬ (0 ≤ w ∧ w ≤ 1) ∧ xIA = xIA ∧ M = M1))) {M2 : MM} {b9 : Int} (h2 : (¬ ((0 ≤ w ∧ w ≤ 1)) ∧ wr M1 (s + 217) 0 1 = M2) ∨ ((0 ≤ w ∧ w ≤ 1) ∧ b9 = f (10 + w) ∧ wr M1 (s + 217) 0 0 = M2)) : Tie s M2 kk b9 := by
  rcases h1 with ⟨rfl, v, M0, e1, e9⟩ | ⟨rfl, e1⟩
  · obtain ⟨c1, ev, e1⟩ := e1
    rcases h2 with ⟨n9, -⟩ | ⟨-, b0, h2⟩
    · exact absurd c1 n9
    · subst e1
      exact Tie.ok hR e9 h2 (ev.trans b0.symm)
  · rcases e1 with ⟨n1, q, e1⟩
    · rcases h2 with ⟨-, h2⟩ | ⟨c9, -⟩
      · subst e1
        exact Tie.err hR h2 (by decide)
      · exact absurd c9 n1
theorem tp_chair {M M1 : MM} {s : Nat} {f : Int → Int} {gu len : Int} {kk : Int} (hR : Rel M s f) (h1 : (kk = 0 ∧ ∃ v9 M0, ((0 ≤ gu ∧ gu < 4) ∧ (100 ≤ len ∧ len ≤ 900) ∧ (f 0 < 10) ∧ v9 = f 0 ∧ Act M s f (fChair f gu len) M0) ∧ wr M0 (s + 224) 0 (nz v9) = M1) ∨ (kk = 1 ∧ ((¬ (0 ≤ gu ∧ gu < 4) ∧ xIO = xIO ∧ Dft M s f M1) ∨ ((0 ≤ gu ∧ gu < 4) ∧ ¬ (100 ≤ len ∧ len ≤ 900) ∧ xIO = xIA ∧ Dft M s f M1) ∨ ((0 ≤ gu ∧ gu < 4) ∧ (100 ≤ len ∧ len ≤ 900) ∧ ¬ (f 0 < 10) ∧ xIO = xIS ∧ Dft M s f M1))) ∨ (kk = 2 ∧ ((¬ (0 ≤ gu ∧ gu < 4) ∧ xIA = xIO ∧ Dft M s f M1) ∨ ((0 ≤ gu ∧ gu < 4) ∧ ¬ (100 ≤ len ∧ len ≤ 900) ∧ xIA = xIA ∧ Dft M s f M1) ∨ ((0 ≤ gu ∧ gu < 4) ∧ (100 ≤ len ∧ len ≤ 900) ∧ ¬ (f 0 < 10) ∧ xIA = xIS ∧ Dft M s f M1))) ∨ (kk = 3 ∧ ((¬ (0 ≤ gu ∧ gu < 4) ∧ xIS = xIO ∧ Dft M s f M1) ∨ ((0 ≤ gu ∧ gu < 4) ∧ ¬ (100 ≤ len ∧ len ≤ 900) ∧ xIS = xIA ∧ Dft M s f M1) ∨ ((0 ≤ gu ∧ gu < 4) ∧ (100 ≤ len ∧ len ≤ 900) ∧ ¬ (f 0 < 10) ∧ xIS = xIS ∧ Dft M s f M1)))) : Pm M M1 s := by
  rcases h1 with ⟨-, v, M0, e1, rfl⟩ | ⟨-, e1⟩ | ⟨-, e1⟩ | ⟨-, e1⟩
  · obtain ⟨-, -, -, -, e1⟩ := e1
    exact (Pm.act e1 hR.2.1.1).tr Pm.wrO
  · rcases e1 with ⟨-, -, e1⟩ | ⟨-, -, -, e1⟩ | ⟨-, -, -, -, e1⟩
    · exact Pm.dft e1 hR.2.1.1
    · exact Pm.dft e1 hR.2.1.1
    · exact Pm.dft e1 hR.2.1.1
  · rcases e1 with ⟨-, -, e1⟩ | ⟨-, -, -, e1⟩ | ⟨-, -, -, -, e1⟩
    · exact Pm.dft e1 hR.2.1.1
    · exact Pm.dft e1 hR.2.1.1
    · exact Pm.dft e1 hR.2.1.1
  · rcases e1 with ⟨-, -, e1⟩ | ⟨-, -, -, e1⟩ | ⟨-, -, -, -, e1⟩
    · exact Pm.dft e1 hR.2.1.1
    · exact Pm.dft e1 hR.2.1.1
    · exact Pm.dft e1 hR.2.1.1
set_option maxHeartbeats 1000000 in
theorem tt_chair {M M1 : MM} {s : Nat} {f : Int → Int} {gu len : Int} {kk : Int} (hR : Rel M s f) (h1 : (kk = 0 ∧ ∃ v9 M0, ((0 ≤ gu ∧ gu < 4) ∧ (100 ≤ len ∧ len ≤ 900) ∧ (f 0 < 10) ∧ v9 = f 0 ∧ Act M s f (fChair f gu len) M0) ∧ wr M0 (s + 224) 0 (nz v9) = M1) ∨ (kk = 1 ∧ ((¬ (0 ≤ gu ∧ gu < 4) ∧ xIO = xIO ∧ Dft M s f M1) ∨ ((0 ≤ gu ∧ gu < 4) ∧ ¬ (100 ≤ len ∧ len ≤ 900) ∧ xIO = xIA ∧ Dft M s f M1) ∨ ((0 ≤ gu ∧ gu < 4) ∧ (100 ≤ len ∧ len ≤ 900) ∧ ¬ (f 0 < 10) ∧ xIO = xIS ∧ Dft M s f M1))) ∨ (kk = 2 ∧ ((¬ (0 ≤ gu ∧ gu < 4) ∧ xIA = xIO ∧ Dft M s f M1) ∨ ((0 ≤ gu ∧ gu < 4) ∧ ¬ (100 ≤ len ∧ len ≤ 900) ∧ xIA = xIA ∧ Dft M s f M1) ∨ ((0 ≤ gu ∧ gu < 4) ∧ (100 ≤ len ∧ len ≤ 900) ∧ ¬ (f 0 < 10) ∧ xIA = xIS ∧ Dft M s f M1))) ∨ (kk = 3 ∧ ((¬ (0 ≤ gu ∧ gu < 4) ∧ xIS = xIO ∧ Dft M s f M1) ∨ ((0 ≤ gu ∧ gu < 4) ∧ ¬ (100 ≤ len ∧ len ≤ 900) ∧ xIS = xIA ∧ Dft M s f M1) ∨ ((0 ≤ gu ∧ gu < 4) ∧ (100 ≤ len ∧ len ≤ 900) ∧ ¬ (f 0 < 10) ∧ xIS = xIS ∧ Dft M s f M1)))) {M2 : MM} {b9 : Int} (h2 : (¬ ((0 ≤ gu ∧ gu < 4)) ∧ wr M1 (s + 217) 0 1 = M2) ∨ ((0 ≤ gu ∧ gu < 4) ∧ ¬ ((100 ≤ len ∧ len ≤ 900)) ∧ wr M1 (s + 217) 0 2 = M2) ∨ ((0 ≤ gu ∧ gu < 4) ∧ (100 ≤ len ∧ len ≤ 900) ∧ ¬ ((f 0 < 10)) ∧ wr M1 (s + 217) 0 3 = M2) ∨ ((0 ≤ gu ∧ gu < 4) ∧ (100 ≤ len ∧ len ≤ 900) ∧ (f 0 < 10) ∧ b9 = f 0 ∧ aset (remM (wr M1 (s + 217) 0 0) (s + 217)) ((s + 217) + 2) (fChair f gu len) = M2)) : Tie s M2 kk b9 := by
  rcases h1 with ⟨rfl, v, M0, e1, e9⟩ | ⟨rfl, e1⟩ | ⟨rfl, e1⟩ | ⟨rfl, e1⟩
  · obtain ⟨c1, c2, c3, ev, e1⟩ := e1
    rcases h2 with ⟨n9, -⟩ | ⟨-, n9, -⟩ | ⟨-, -, n9, -⟩ | ⟨-, -, -, b0, h2⟩
    · exact absurd c1 n9
    · exact absurd c2 n9
    · exact absurd c3 n9
    · exact Tie.act hR (Inv_chair hR.1.2.1 c3 c1 c2) e1 e9 h2 (ev.trans b0.symm)
  · rcases e1 with ⟨n1, q, e1⟩ | ⟨c1, n2, q, e1⟩ | ⟨c1, c2, n3, q, e1⟩
    · rcases h2 with ⟨-, h2⟩ | ⟨c9, -⟩ | ⟨c9, -⟩ | ⟨c9, -⟩
      · exact Tie.err (hR.dft e1) h2 (by decide)
      · exact absurd c9 n1
      · exact absurd c9 n1
      · exact absurd c9 n1
    · exact absurd q xn_OA
    · exact absurd q xn_OS
  · rcases e1 with ⟨n1, q, e1⟩ | ⟨c1, n2, q, e1⟩ | ⟨c1, c2, n3, q, e1⟩
    · exact absurd q xn_AO
    · rcases h2 with ⟨n9, -⟩ | ⟨-, -, h2⟩ | ⟨-, c9, -⟩ | ⟨-, c9, -⟩
      · exact absurd c1 n9
      · exact Tie.err (hR.dft e1) h2 (by decide)
      · exact absurd c9 n2
      · exact absurd c9 n2
    · exact absurd q xn_AS
  · rcases e1 with ⟨n1, q, e1⟩ | ⟨c1, n2, q, e1⟩ | ⟨c1, c2, n3, q, e1⟩
    · exact absurd q xn_SO
    · exact absurd q xn_SA
    · rcases h2 with ⟨n9, -⟩ | ⟨-, n9, -⟩ | ⟨-, -, -, h2⟩ | ⟨-, -, c9, -⟩
      · exact absurd c1 n9
      · exact absurd c2 n9
      · exact Tie.err (hR.dft e1) h2 (by decide)
      · exact absurd c9 n3
theorem tp_floor {M M1 : MM} {s : Nat} {f : Int → Int} {x1 x2 x3 x4 : Int} {kk : Int} (hR : Rel M s f) (h1 : (kk = 0 ∧ ∃ v9 M0, (((0 ≤ x1 ∧ x1 ≤ 50) ∧ (0 ≤ x2 ∧ x2 ≤ 50) ∧ (0 ≤ x3 ∧ x3 ≤ 50) ∧ (0 ≤ x4 ∧ x4 ≤ 50)) ∧ (f 1 < 4) ∧ v9 = f 1 ∧ Act M s f (fFloor f x1 x2 x3 x4) M0) ∧ wr M0 (s + 224) 0 (nz v9) = M1) ∨ (kk = 1 ∧ ((¬ ((0 ≤ x1 ∧ x1 ≤ 50) ∧ (0 ≤ x2 ∧ x2 ≤ 50) ∧ (0 ≤ x3 ∧ x3 ≤ 50) ∧ (0 ≤ x4 ∧ x4 ≤ 50)) ∧ xIA = xIA ∧ Dft M s f M1) ∨ (((0 ≤ x1 ∧ x1 ≤ 50) ∧ (0 ≤ x2 ∧ x2 ≤ 50) ∧ (0 ≤ x3 ∧ x3 ≤ 50) ∧ (0 ≤ x4 ∧ x4 ≤ 50)) ∧ ¬ (f 1 < 4) ∧ xIA = xIS ∧ Dft M s f M1))) ∨ (kk = 2 ∧ ((¬ ((0 ≤ x1 ∧ x1 ≤ 50) ∧ (0 ≤ x2 ∧ x2 ≤ 50) ∧ (0 ≤ x3 ∧ x3 ≤ 50) ∧ (0 ≤ x4 ∧ x4 ≤ 50)) ∧ xIS = xIA ∧ Dft M s f M1) ∨ (((0 ≤ x1 ∧ x1 ≤ 50) ∧ (0 ≤ x2 ∧ x2 ≤ 50) ∧ (0 ≤ x3 ∧ x3 ≤ 50) ∧ (0 ≤ x4 ∧ x4 ≤ 50)) ∧ ¬ (f 1 < 4) ∧ xIS = xIS ∧ Dft M s f M1)))) : Pm M M1 s := by
  rcases h1 with ⟨-, v, M0, e1, rfl⟩ | ⟨-, e1⟩ | ⟨-, e1⟩
  · obtain ⟨-, -, -, e1⟩ := e1
    exact (Pm.act e1 hR.2.1.1).tr Pm.wrO
  · rcases e1 with ⟨-, -, e1⟩ | ⟨-, -, -, e1⟩
    · exact Pm.dft e1 hR.2.1.1
    · exact Pm.dft e1 hR.2.1.1
  · rcases e1 with ⟨-, -, e1⟩ | ⟨-, -, -, e1⟩
    · exact Pm.dft e1 hR.2.1.1
    · exact Pm.dft e1 hR.2.1.1
set_option maxHeartbeats 1000000 in
theorem tt_floor {M M1 : MM} {s : Nat} {f : Int → Int} {x1 x2 x3 x4 : Int} {kk : Int} (hR : Rel M s f) (h1 : (kk = 0 ∧ ∃ v9 M0, (((0 ≤ x1 ∧ x1 ≤ 50) ∧ (0 ≤ x2 ∧ x2 ≤ 50) ∧ (0 ≤ x3 ∧ x3 ≤ 50) ∧ (0 ≤ x4 ∧ x4 ≤ 50)) ∧ (f 1 < 4) ∧ v9 = f 1 ∧ Act M s f (fFloor f x1 x2 x3 x4) M0) ∧ wr M0 (s + 224) 0 (nz v9) = M1) ∨ (kk = 1 ∧ ((¬ ((0 ≤ x1 ∧ x1 ≤ 50) ∧ (0 ≤ x2 ∧ x2 ≤ 50) ∧ (0 ≤ x3 ∧ x3 ≤ 50) ∧ (0 ≤ x4 ∧ x4 ≤ 50)) ∧ xIA = xIA ∧ Dft M s f M1) ∨ (((0 ≤ x1 ∧ x1 ≤ 50) ∧ (0 ≤ x2 ∧ x2 ≤ 50) ∧ (0 ≤ x3 ∧ x3 ≤ 50) ∧ (0 ≤ x4 ∧ x4 ≤ 50)) ∧ ¬ (f 1 < 4) ∧ xIA = xIS ∧ Dft M s f M1))) ∨ (kk = 2 ∧ ((¬ ((0 ≤ x1 ∧ x1 ≤ 50) ∧ (0 ≤ x2 ∧ x2 ≤ 50) ∧ (0 ≤ x3 ∧ x3 ≤ 50) ∧ (0 ≤ x4 ∧ x4 ≤ 50)) ∧ xIS = xIA ∧ Dft M s f M1) ∨ (((0 ≤ x1 ∧ x1 ≤ 50) ∧ (0 ≤ x2 ∧ x2 ≤ 50) ∧ (0 ≤ x3 ∧ x3 ≤ 50) ∧ (0 ≤ x4 ∧ x4 ≤ 50)) ∧ ¬ (f 1 < 4) ∧ xIS = xIS ∧ Dft M s f M1)))) {M2 : MM} {b9 : Int} (h2 : (¬ (((0 ≤ x1 ∧ x1 ≤ 50) ∧ (0 ≤ x2 ∧ x2 ≤ 50) ∧ (0 ≤ x3 ∧ x3 ≤ 50) ∧ (0 ≤ x4 ∧ x4 ≤ 50))) ∧ wr M1 (s + 217) 0 1 = M2) ∨ (((0 ≤ x1 ∧ x1 ≤ 50) ∧ (0 ≤ x2 ∧ x2 ≤ 50) ∧ (0 ≤ x3 ∧ x3 ≤ 50) ∧ (0 ≤ x4 ∧ x4 ≤ 50)) ∧ ¬ ((f 1 < 4)) ∧ wr M1 (s + 217) 0 2 = M2) ∨ (((0 ≤ x1 ∧ x1 ≤ 50) ∧ (0 ≤ x2 ∧ x2 ≤ 50) ∧ (0 ≤ x3 ∧ x3 ≤ 50) ∧ (0 ≤ x4 ∧ x4 ≤ 50)) ∧ (f 1 < 4) ∧ b9 = f 1 ∧ aset (remM (wr M1 (s + 217) 0 0) (s + 217)) ((s + 217) + 2) (fFloor f x1 x2 x3 x4) = M2)) : Tie s M2 kk b9 := by
  rcases h1 with ⟨rfl, v, M0, e1, e9⟩ | ⟨rfl, e1⟩ | ⟨rfl, e1⟩
  · obtain ⟨c1, c2, ev, e1⟩ := e1
    rcases h2 with ⟨n9, -⟩ | ⟨-, n9, -⟩ | ⟨-, -, b0, h2⟩
    · exact absurd c1 n9
    · exact absurd c2 n9
    · exact Tie.act hR (Inv_floor hR.1.2.1 c2 c1.1 c1.2.1 c1.2.2.1 c1.2.2.2) e1 e9 h2 (ev.trans b0.symm)
  · rcases e1 with ⟨n1, q, e1⟩ | ⟨c1, n2, q, e1⟩
    · rcases h2 with ⟨-, h2⟩ | ⟨c9, -⟩ | ⟨c9, -⟩
      · exact Tie.err (hR.dft e1) h2 (by decide)
      · exact absurd c9 n1
      · exact absurd c9 n1
    · exact absurd q xn_AS
  · rcases e1 with ⟨n1, q, e1⟩ | ⟨c1, n2, q, e1⟩
    · exact absurd q xn_SA
    · rcases h2 with ⟨n9, -⟩ | ⟨-, -, h2⟩ | ⟨-, c9, -⟩
      · exact absurd c1 n9
      · exact Tie.err (hR.dft e1) h2 (by decide)
      · exact absurd c9 n2
theorem tp_level {M M1 : MM} {s : Nat} {f : Int → Int} {fl k v : Int} {kk : Int} (hR : Rel M s f) (h1 : (kk = 0 ∧ ∃ v9 M0, (((0 ≤ fl ∧ fl < f 1) ∧ 0 ≤ k ∧ k < 4) ∧ (0 ≤ v ∧ v ≤ 50) ∧ v9 = f (12 + (4 * fl + k)) ∧ Act M s f (fLevel f fl k v) M0) ∧ wr M0 (s + 224) 0 (nz v9) = M1) ∨ (kk = 1 ∧ ((¬ ((0 ≤ fl ∧ fl < f 1) ∧ 0 ≤ k ∧ k < 4) ∧ xIO = xIO ∧ Dft M s f M1) ∨ (((0 ≤ fl ∧ fl < f 1) ∧ 0 ≤ k ∧ k < 4) ∧ ¬ (0 ≤ v ∧ v ≤ 50) ∧ xIO = xIA ∧ Dft M s f M1))) ∨ (kk = 2 ∧ ((¬ ((0 ≤ fl ∧ fl < f 1) ∧ 0 ≤ k ∧ k < 4) ∧ xIA = xIO ∧ Dft M s f M1) ∨ (((0 ≤ fl ∧ fl < f 1) ∧ 0 ≤ k ∧ k < 4) ∧ ¬ (0 ≤ v ∧ v ≤ 50) ∧ xIA = xIA ∧ Dft M s f M1)))) : Pm M M1 s := by
  rcases h1 with ⟨-, v, M0, e1, rfl⟩ | ⟨-, e1⟩ | ⟨-, e1⟩
  · obtain ⟨-, -, -, e1⟩ := e1
    exact (Pm.act e1 hR.2.1.1).tr Pm.wrO
  · rcases e1 with ⟨-, -, e1⟩ | ⟨-, -, -, e1⟩
    · exact Pm.dft e1 hR.2.1.1
    · exact Pm.dft e1 hR.2.1.1
  · rcases e1 with ⟨-, -, e1⟩ | ⟨-, -, -, e1⟩
    · exact Pm.dft e1 hR.2.1.1
    · exact Pm.dft e1 hR.2.1.1
set_option maxHeartbeats 1000000 in
theorem tt_level {M M1 : MM} {s : Nat} {f : Int → Int} {fl k v : Int} {kk : Int} (hR : Rel M s f) (h1 : (kk = 0 ∧ ∃ v9 M0, (((0 ≤ fl ∧ fl < f 1) ∧ 0 ≤ k ∧ k < 4) ∧ (0 ≤ v ∧ v ≤ 50) ∧ v9 = f (12 + (4 * fl + k)) ∧ Act M s f (fLevel f fl k v) M0) ∧ wr M0 (s + 224) 0 (nz v9) = M1) ∨ (kk = 1 ∧ ((¬ ((0 ≤ fl ∧ fl < f 1) ∧ 0 ≤ k ∧ k < 4) ∧ xIO = xIO ∧ Dft M s f M1) ∨ (((0 ≤ fl ∧ fl < f 1) ∧ 0 ≤ k ∧ k < 4) ∧ ¬ (0 ≤ v ∧ v ≤ 50) ∧ xIO = xIA ∧ Dft M s f M1))) ∨ (kk = 2 ∧ ((¬ ((0 ≤ fl ∧ fl < f 1) ∧ 0 ≤ k ∧ k < 4) ∧ xIA = xIO ∧ Dft M s f M1) ∨ (((0 ≤ fl ∧ fl < f 1) ∧ 0 ≤ k ∧ k < 4) ∧ ¬ (0 ≤ v ∧ v ≤ 50) ∧ xIA = xIA ∧ Dft M s f M1)))) {M2 : MM} {b9 : Int} (h2 : (¬ (((0 ≤ fl ∧ fl < f 1) ∧ 0 ≤ k ∧ k < 4)) ∧ wr M1 (s + 217) 0 1 = M2) ∨ (((0 ≤ fl ∧ fl < f 1) ∧ 0 ≤ k ∧ k < 4) ∧ ¬ ((0 ≤ v ∧ v ≤ 50)) ∧ wr M1 (s + 217) 0 2 = M2) ∨ (((0 ≤ fl ∧ fl < f 1) ∧ 0 ≤ k ∧ k < 4) ∧ (0 ≤ v ∧ v ≤ 50) ∧ b9 = f (12 + (4 * fl + k)) ∧ aset (remM (wr M1 (s + 217) 0 0) (s + 217)) ((s + 217) + 2) (fLevel f fl k v) = M2)) : Tie s M2 kk b9 := by
  rcases h1 with ⟨rfl, v, M0, e1, e9⟩ | ⟨rfl, e1⟩ | ⟨rfl, e1⟩
  · obtain ⟨c1, c2, ev, e1⟩ := e1
    rcases h2 with ⟨n9, -⟩ | ⟨-, n9, -⟩ | ⟨-, -, b0, h2⟩
    · exact absurd c1 n9
    · exact absurd c2 n9
    · exact Tie.act hR (Inv_level hR.1.2.1 (by have := hR.1.2.1.2.1; omega) c1.2 c2) e1 e9 h2 (ev.trans b0.symm)
  · rcases e1 with ⟨n1, q, e1⟩ | ⟨c1, n2, q, e1⟩
    · rcases h2 with ⟨-, h2⟩ | ⟨c9, -⟩ | ⟨c9, -⟩
      · exact Tie.err (hR.dft e1) h2 (by decide)
      · exact absurd c9 n1
      · exact absurd c9 n1
    · exact absurd q xn_OA
  · rcases e1 with ⟨n1, q, e1⟩ | ⟨c1, n2, q, e1⟩
    · exact absurd q xn_AO
    · rcases h2 with ⟨n9, -⟩ | ⟨-, -, h2⟩ | ⟨-, c9, -⟩
      · exact absurd c1 n9
      · exact Tie.err (hR.dft e1) h2 (by decide)
      · exact absurd c9 n2
theorem tp_bring {M M1 : MM} {s : Nat} {f : Int → Int} {c fl q : Int} {kk : Int} (hR : Rel M s f) (h1 : (kk = 0 ∧ ∃ v9 M0, (((0 ≤ c ∧ c < f 0) ∧ (0 ≤ fl ∧ fl < f 1)) ∧ (0 ≤ q ∧ q < 4) ∧ v9 = sWob f c fl q ∧ Act M s f (fBring f c fl q) M0) ∧ wr M0 (s + 224) 0 (nz v9) = M1) ∨ (kk = 1 ∧ ((¬ ((0 ≤ c ∧ c < f 0) ∧ (0 ≤ fl ∧ fl < f 1)) ∧ xIO = xIO ∧ Dft M s f M1) ∨ (((0 ≤ c ∧ c < f 0) ∧ (0 ≤ fl ∧ fl < f 1)) ∧ ¬ (0 ≤ q ∧ q < 4) ∧ xIO = xIA ∧ Dft M s f M1))) ∨ (kk = 2 ∧ ((¬ ((0 ≤ c ∧ c < f 0) ∧ (0 ≤ fl ∧ fl < f 1)) ∧ xIA = xIO ∧ Dft M s f M1) ∨ (((0 ≤ c ∧ c < f 0) ∧ (0 ≤ fl ∧ fl < f 1)) ∧ ¬ (0 ≤ q ∧ q < 4) ∧ xIA = xIA ∧ Dft M s f M1)))) : Pm M M1 s := by
  rcases h1 with ⟨-, v, M0, e1, rfl⟩ | ⟨-, e1⟩ | ⟨-, e1⟩
  · obtain ⟨-, -, -, e1⟩ := e1
    exact (Pm.act e1 hR.2.1.1).tr Pm.wrO
  · rcases e1 with ⟨-, -, e1⟩ | ⟨-, -, -, e1⟩
    · exact Pm.dft e1 hR.2.1.1
    · exact Pm.dft e1 hR.2.1.1
  · rcases e1 with ⟨-, -, e1⟩ | ⟨-, -, -, e1⟩
    · exact Pm.dft e1 hR.2.1.1
    · exact Pm.dft e1 hR.2.1.1
set_option maxHeartbeats 1000000 in
theorem tt_bring {M M1 : MM} {s : Nat} {f : Int → Int} {c fl q : Int} {kk : Int} (hR : Rel M s f) (h1 : (kk = 0 ∧ ∃ v9 M0, (((0 ≤ c ∧ c < f 0) ∧ (0 ≤ fl ∧ fl < f 1)) ∧ (0 ≤ q ∧ q < 4) ∧ v9 = sWob f c fl q ∧ Act M s f (fBring f c fl q) M0) ∧ wr M0 (s + 224) 0 (nz v9) = M1) ∨ (kk = 1 ∧ ((¬ ((0 ≤ c ∧ c < f 0) ∧ (0 ≤ fl ∧ fl < f 1)) ∧ xIO = xIO ∧ Dft M s f M1) ∨ (((0 ≤ c ∧ c < f 0) ∧ (0 ≤ fl ∧ fl < f 1)) ∧ ¬ (0 ≤ q ∧ q < 4) ∧ xIO = xIA ∧ Dft M s f M1))) ∨ (kk = 2 ∧ ((¬ ((0 ≤ c ∧ c < f 0) ∧ (0 ≤ fl ∧ fl < f 1)) ∧ xIA = xIO ∧ Dft M s f M1) ∨ (((0 ≤ c ∧ c < f 0) ∧ (0 ≤ fl ∧ fl < f 1)) ∧ ¬ (0 ≤ q ∧ q < 4) ∧ xIA = xIA ∧ Dft M s f M1)))) {M2 : MM} {b9 : Int} (h2 : (¬ (((0 ≤ c ∧ c < f 0) ∧ (0 ≤ fl ∧ fl < f 1))) ∧ wr M1 (s + 217) 0 1 = M2) ∨ (((0 ≤ c ∧ c < f 0) ∧ (0 ≤ fl ∧ fl < f 1)) ∧ ¬ ((0 ≤ q ∧ q < 4)) ∧ wr M1 (s + 217) 0 2 = M2) ∨ (((0 ≤ c ∧ c < f 0) ∧ (0 ≤ fl ∧ fl < f 1)) ∧ (0 ≤ q ∧ q < 4) ∧ b9 = sWob f c fl q ∧ aset (remM (wr M1 (s + 217) 0 0) (s + 217)) ((s + 217) + 2) (fBring f c fl q) = M2)) : Tie s M2 kk b9 := by
  rcases h1 with ⟨rfl, v, M0, e1, e9⟩ | ⟨rfl, e1⟩ | ⟨rfl, e1⟩
  · obtain ⟨c1, c2, ev, e1⟩ := e1
    rcases h2 with ⟨n9, -⟩ | ⟨-, n9, -⟩ | ⟨-, -, b0, h2⟩
    · exact absurd c1 n9
    · exact absurd c2 n9
    · exact Tie.act hR (Inv_bring hR.1.2.1 c1.1.1 c1.2 c2) e1 e9 h2 (ev.trans b0.symm)
  · rcases e1 with ⟨n1, q, e1⟩ | ⟨c1, n2, q, e1⟩
    · rcases h2 with ⟨-, h2⟩ | ⟨c9, -⟩ | ⟨c9, -⟩
      · exact Tie.err (hR.dft e1) h2 (by decide)
      · exact absurd c9 n1
      · exact absurd c9 n1
    · exact absurd q xn_OA
  · rcases e1 with ⟨n1, q, e1⟩ | ⟨c1, n2, q, e1⟩
    · exact absurd q xn_AO
    · rcases h2 with ⟨n9, -⟩ | ⟨-, -, h2⟩ | ⟨-, c9, -⟩
      · exact absurd c1 n9
      · exact Tie.err (hR.dft e1) h2 (by decide)
      · exact absurd c9 n2
theorem tp_saw {M M1 : MM} {s : Nat} {f : Int → Int} {c k n : Int} {kk : Int} (hR : Rel M s f) (h1 : (kk = 0 ∧ ∃ v9 M0, (((0 ≤ c ∧ c < f 0) ∧ 0 ≤ k ∧ k < 4) ∧ (1 ≤ n ∧ n ≤ 800) ∧ (100 ≤ f (49 + 9 * c + k) - n) ∧ v9 = f (49 + 9 * c + k) - n ∧ Act M s f (fSaw f c k n) M0) ∧ wr M0 (s + 224) 0 (nz v9) = M1) ∨ (kk = 1 ∧ ((¬ ((0 ≤ c ∧ c < f 0) ∧ 0 ≤ k ∧ k < 4) ∧ xIO = xIO ∧ Dft M s f M1) ∨ (((0 ≤ c ∧ c < f 0) ∧ 0 ≤ k ∧ k < 4) ∧ ¬ (1 ≤ n ∧ n ≤ 800) ∧ xIO = xIA ∧ Dft M s f M1) ∨ (((0 ≤ c ∧ c < f 0) ∧ 0 ≤ k ∧ k < 4) ∧ (1 ≤ n ∧ n ≤ 800) ∧ ¬ (100 ≤ f (49 + 9 * c + k) - n) ∧ xIO = xIS ∧ Dft M s f M1))) ∨ (kk = 2 ∧ ((¬ ((0 ≤ c ∧ c < f 0) ∧ 0 ≤ k ∧ k < 4) ∧ xIA = xIO ∧ Dft M s f M1) ∨ (((0 ≤ c ∧ c < f 0) ∧ 0 ≤ k ∧ k < 4) ∧ ¬ (1 ≤ n ∧ n ≤ 800) ∧ xIA = xIA ∧ Dft M s f M1) ∨ (((0 ≤ c ∧ c < f 0) ∧ 0 ≤ k ∧ k < 4) ∧ (1 ≤ n ∧ n ≤ 800) ∧ ¬ (100 ≤ f (49 + 9 * c + k) - n) ∧ xIA = xIS ∧ Dft M s f M1))) ∨ (kk = 3 ∧ ((¬ ((0 ≤ c ∧ c < f 0) ∧ 0 ≤ k ∧ k < 4) ∧ xIS = xIO ∧ Dft M s f M1) ∨ (((0 ≤ c ∧ c < f 0) ∧ 0 ≤ k ∧ k < 4) ∧ ¬ (1 ≤ n ∧ n ≤ 800) ∧ xIS = xIA ∧ Dft M s f M1) ∨ (((0 ≤ c ∧ c < f 0) ∧ 0 ≤ k ∧ k < 4) ∧ (1 ≤ n ∧ n ≤ 800) ∧ ¬ (100 ≤ f (49 + 9 * c + k) - n) ∧ xIS = xIS ∧ Dft M s f M1)))) : Pm M M1 s := by
  rcases h1 with ⟨-, v, M0, e1, rfl⟩ | ⟨-, e1⟩ | ⟨-, e1⟩ | ⟨-, e1⟩
  · obtain ⟨-, -, -, -, e1⟩ := e1
    exact (Pm.act e1 hR.2.1.1).tr Pm.wrO
  · rcases e1 with ⟨-, -, e1⟩ | ⟨-, -, -, e1⟩ | ⟨-, -, -, -, e1⟩
    · exact Pm.dft e1 hR.2.1.1
    · exact Pm.dft e1 hR.2.1.1
    · exact Pm.dft e1 hR.2.1.1
  · rcases e1 with ⟨-, -, e1⟩ | ⟨-, -, -, e1⟩ | ⟨-, -, -, -, e1⟩
    · exact Pm.dft e1 hR.2.1.1
    · exact Pm.dft e1 hR.2.1.1
    · exact Pm.dft e1 hR.2.1.1
  · rcases e1 with ⟨-, -, e1⟩ | ⟨-, -, -, e1⟩ | ⟨-, -, -, -, e1⟩
    · exact Pm.dft e1 hR.2.1.1
    · exact Pm.dft e1 hR.2.1.1
    · exact Pm.dft e1 hR.2.1.1
set_option maxHeartbeats 1000000 in
theorem tt_saw {M M1 : MM} {s : Nat} {f : Int → Int} {c k n : Int} {kk : Int} (hR : Rel M s f) (h1 : (kk = 0 ∧ ∃ v9 M0, (((0 ≤ c ∧ c < f 0) ∧ 0 ≤ k ∧ k < 4) ∧ (1 ≤ n ∧ n ≤ 800) ∧ (100 ≤ f (49 + 9 * c + k) - n) ∧ v9 = f (49 + 9 * c + k) - n ∧ Act M s f (fSaw f c k n) M0) ∧ wr M0 (s + 224) 0 (nz v9) = M1) ∨ (kk = 1 ∧ ((¬ ((0 ≤ c ∧ c < f 0) ∧ 0 ≤ k ∧ k < 4) ∧ xIO = xIO ∧ Dft M s f M1) ∨ (((0 ≤ c ∧ c < f 0) ∧ 0 ≤ k ∧ k < 4) ∧ ¬ (1 ≤ n ∧ n ≤ 800) ∧ xIO = xIA ∧ Dft M s f M1) ∨ (((0 ≤ c ∧ c < f 0) ∧ 0 ≤ k ∧ k < 4) ∧ (1 ≤ n ∧ n ≤ 800) ∧ ¬ (100 ≤ f (49 + 9 * c + k) - n) ∧ xIO = xIS ∧ Dft M s f M1))) ∨ (kk = 2 ∧ ((¬ ((0 ≤ c ∧ c < f 0) ∧ 0 ≤ k ∧ k < 4) ∧ xIA = xIO ∧ Dft M s f M1) ∨ (((0 ≤ c ∧ c < f 0) ∧ 0 ≤ k ∧ k < 4) ∧ ¬ (1 ≤ n ∧ n ≤ 800) ∧ xIA = xIA ∧ Dft M s f M1) ∨ (((0 ≤ c ∧ c < f 0) ∧ 0 ≤ k ∧ k < 4) ∧ (1 ≤ n ∧ n ≤ 800) ∧ ¬ (100 ≤ f (49 + 9 * c + k) - n) ∧ xIA = xIS ∧ Dft M s f M1))) ∨ (kk = 3 ∧ ((¬ ((0 ≤ c ∧ c < f 0) ∧ 0 ≤ k ∧ k < 4) ∧ xIS = xIO ∧ Dft M s f M1) ∨ (((0 ≤ c ∧ c < f 0) ∧ 0 ≤ k ∧ k < 4) ∧ ¬ (1 ≤ n ∧ n ≤ 800) ∧ xIS = xIA ∧ Dft M s f M1) ∨ (((0 ≤ c ∧ c < f 0) ∧ 0 ≤ k ∧ k < 4) ∧ (1 ≤ n ∧ n ≤ 800) ∧ ¬ (100 ≤ f (49 + 9 * c + k) - n) ∧ xIS = xIS ∧ Dft M s f M1)))) {M2 : MM} {b9 : Int} (h2 : (¬ (((0 ≤ c ∧ c < f 0) ∧ 0 ≤ k ∧ k < 4)) ∧ wr M1 (s + 217) 0 1 = M2) ∨ (((0 ≤ c ∧ c < f 0) ∧ 0 ≤ k ∧ k < 4) ∧ ¬ ((1 ≤ n ∧ n ≤ 800)) ∧ wr M1 (s + 217) 0 2 = M2) ∨ (((0 ≤ c ∧ c < f 0) ∧ 0 ≤ k ∧ k < 4) ∧ (1 ≤ n ∧ n ≤ 800) ∧ ¬ ((100 ≤ f (49 + 9 * c + k) - n)) ∧ wr M1 (s + 217) 0 3 = M2) ∨ (((0 ≤ c ∧ c < f 0) ∧ 0 ≤ k ∧ k < 4) ∧ (1 ≤ n ∧ n ≤ 800) ∧ (100 ≤ f (49 + 9 * c + k) - n) ∧ b9 = f (49 + 9 * c + k) - n ∧ aset (remM (wr M1 (s + 217) 0 0) (s + 217)) ((s + 217) + 2) (fSaw f c k n) = M2)) : Tie s M2 kk b9 := by
  rcases h1 with ⟨rfl, v, M0, e1, e9⟩ | ⟨rfl, e1⟩ | ⟨rfl, e1⟩ | ⟨rfl, e1⟩
  · obtain ⟨c1, c2, c3, ev, e1⟩ := e1
    rcases h2 with ⟨n9, -⟩ | ⟨-, n9, -⟩ | ⟨-, -, n9, -⟩ | ⟨-, -, -, b0, h2⟩
    · exact absurd c1 n9
    · exact absurd c2 n9
    · exact absurd c3 n9
    · exact Tie.act hR (Inv_saw hR.1.2.1 c1.1.1 c1.2 (by have := (hR.1.2.1.2.2.2.2.2.2 _ c1.1.1 c1.1.2).2.2.2.2 _ c1.2.1 c1.2.2; omega)) e1 e9 h2 (ev.trans b0.symm)
  · rcases e1 with ⟨n1, q, e1⟩ | ⟨c1, n2, q, e1⟩ | ⟨c1, c2, n3, q, e1⟩
    · rcases h2 with ⟨-, h2⟩ | ⟨c9, -⟩ | ⟨c9, -⟩ | ⟨c9, -⟩
      · exact Tie.err (hR.dft e1) h2 (by decide)
      · exact absurd c9 n1
      · exact absurd c9 n1
      · exact absurd c9 n1
    · exact absurd q xn_OA
    · exact absurd q xn_OS
  · rcases e1 with ⟨n1, q, e1⟩ | ⟨c1, n2, q, e1⟩ | ⟨c1, c2, n3, q, e1⟩
    · exact absurd q xn_AO
    · rcases h2 with ⟨n9, -⟩ | ⟨-, -, h2⟩ | ⟨-, c9, -⟩ | ⟨-, c9, -⟩
      · exact absurd c1 n9
      · exact Tie.err (hR.dft e1) h2 (by decide)
      · exact absurd c9 n2
      · exact absurd c9 n2
    · exact absurd q xn_AS
  · rcases e1 with ⟨n1, q, e1⟩ | ⟨c1, n2, q, e1⟩ | ⟨c1, c2, n3, q, e1⟩
    · exact absurd q xn_SO
    · exact absurd q xn_SA
    · rcases h2 with ⟨n9, -⟩ | ⟨-, n9, -⟩ | ⟨-, -, -, h2⟩ | ⟨-, -, c9, -⟩
      · exact absurd c1 n9
      · exact absurd c2 n9
      · exact Tie.err (hR.dft e1) h2 (by decide)
      · exact absurd c9 n3
theorem tp_shim {M M1 : MM} {s : Nat} {f : Int → Int} {c k n : Int} {kk : Int} (hR : Rel M s f) (h1 : (kk = 0 ∧ ∃ v9 M0, (((0 ≤ c ∧ c < f 0) ∧ 0 ≤ k ∧ k < 4) ∧ (1 ≤ n ∧ n ≤ 99) ∧ (f (49 + 9 * c + k) + n ≤ 900) ∧ v9 = f (49 + 9 * c + k) + n ∧ Act M s f (fShim f c k n) M0) ∧ wr M0 (s + 224) 0 (nz v9) = M1) ∨ (kk = 1 ∧ ((¬ ((0 ≤ c ∧ c < f 0) ∧ 0 ≤ k ∧ k < 4) ∧ xIO = xIO ∧ Dft M s f M1) ∨ (((0 ≤ c ∧ c < f 0) ∧ 0 ≤ k ∧ k < 4) ∧ ¬ (1 ≤ n ∧ n ≤ 99) ∧ xIO = xIA ∧ Dft M s f M1) ∨ (((0 ≤ c ∧ c < f 0) ∧ 0 ≤ k ∧ k < 4) ∧ (1 ≤ n ∧ n ≤ 99) ∧ ¬ (f (49 + 9 * c + k) + n ≤ 900) ∧ xIO = xIS ∧ Dft M s f M1))) ∨ (kk = 2 ∧ ((¬ ((0 ≤ c ∧ c < f 0) ∧ 0 ≤ k ∧ k < 4) ∧ xIA = xIO ∧ Dft M s f M1) ∨ (((0 ≤ c ∧ c < f 0) ∧ 0 ≤ k ∧ k < 4) ∧ ¬ (1 ≤ n ∧ n ≤ 99) ∧ xIA = xIA ∧ Dft M s f M1) ∨ (((0 ≤ c ∧ c < f 0) ∧ 0 ≤ k ∧ k < 4) ∧ (1 ≤ n ∧ n ≤ 99) ∧ ¬ (f (49 + 9 * c + k) + n ≤ 900) ∧ xIA = xIS ∧ Dft M s f M1))) ∨ (kk = 3 ∧ ((¬ ((0 ≤ c ∧ c < f 0) ∧ 0 ≤ k ∧ k < 4) ∧ xIS = xIO ∧ Dft M s f M1) ∨ (((0 ≤ c ∧ c < f 0) ∧ 0 ≤ k ∧ k < 4) ∧ ¬ (1 ≤ n ∧ n ≤ 99) ∧ xIS = xIA ∧ Dft M s f M1) ∨ (((0 ≤ c ∧ c < f 0) ∧ 0 ≤ k ∧ k < 4) ∧ (1 ≤ n ∧ n ≤ 99) ∧ ¬ (f (49 + 9 * c + k) + n ≤ 900) ∧ xIS = xIS ∧ Dft M s f M1)))) : Pm M M1 s := by
  rcases h1 with ⟨-, v, M0, e1, rfl⟩ | ⟨-, e1⟩ | ⟨-, e1⟩ | ⟨-, e1⟩
  · obtain ⟨-, -, -, -, e1⟩ := e1
    exact (Pm.act e1 hR.2.1.1).tr Pm.wrO
  · rcases e1 with ⟨-, -, e1⟩ | ⟨-, -, -, e1⟩ | ⟨-, -, -, -, e1⟩
    · exact Pm.dft e1 hR.2.1.1
    · exact Pm.dft e1 hR.2.1.1
    · exact Pm.dft e1 hR.2.1.1
  · rcases e1 with ⟨-, -, e1⟩ | ⟨-, -, -, e1⟩ | ⟨-, -, -, -, e1⟩
    · exact Pm.dft e1 hR.2.1.1
    · exact Pm.dft e1 hR.2.1.1
    · exact Pm.dft e1 hR.2.1.1
  · rcases e1 with ⟨-, -, e1⟩ | ⟨-, -, -, e1⟩ | ⟨-, -, -, -, e1⟩
    · exact Pm.dft e1 hR.2.1.1
    · exact Pm.dft e1 hR.2.1.1
    · exact Pm.dft e1 hR.2.1.1
set_option maxHeartbeats 1000000 in
theorem tt_shim {M M1 : MM} {s : Nat} {f : Int → Int} {c k n : Int} {kk : Int} (hR : Rel M s f) (h1 : (kk = 0 ∧ ∃ v9 M0, (((0 ≤ c ∧ c < f 0) ∧ 0 ≤ k ∧ k < 4) ∧ (1 ≤ n ∧ n ≤ 99) ∧ (f (49 + 9 * c + k) + n ≤ 900) ∧ v9 = f (49 + 9 * c + k) + n ∧ Act M s f (fShim f c k n) M0) ∧ wr M0 (s + 224) 0 (nz v9) = M1) ∨ (kk = 1 ∧ ((¬ ((0 ≤ c ∧ c < f 0) ∧ 0 ≤ k ∧ k < 4) ∧ xIO = xIO ∧ Dft M s f M1) ∨ (((0 ≤ c ∧ c < f 0) ∧ 0 ≤ k ∧ k < 4) ∧ ¬ (1 ≤ n ∧ n ≤ 99) ∧ xIO = xIA ∧ Dft M s f M1) ∨ (((0 ≤ c ∧ c < f 0) ∧ 0 ≤ k ∧ k < 4) ∧ (1 ≤ n ∧ n ≤ 99) ∧ ¬ (f (49 + 9 * c + k) + n ≤ 900) ∧ xIO = xIS ∧ Dft M s f M1))) ∨ (kk = 2 ∧ ((¬ ((0 ≤ c ∧ c < f 0) ∧ 0 ≤ k ∧ k < 4) ∧ xIA = xIO ∧ Dft M s f M1) ∨ (((0 ≤ c ∧ c < f 0) ∧ 0 ≤ k ∧ k < 4) ∧ ¬ (1 ≤ n ∧ n ≤ 99) ∧ xIA = xIA ∧ Dft M s f M1) ∨ (((0 ≤ c ∧ c < f 0) ∧ 0 ≤ k ∧ k < 4) ∧ (1 ≤ n ∧ n ≤ 99) ∧ ¬ (f (49 + 9 * c + k) + n ≤ 900) ∧ xIA = xIS ∧ Dft M s f M1))) ∨ (kk = 3 ∧ ((¬ ((0 ≤ c ∧ c < f 0) ∧ 0 ≤ k ∧ k < 4) ∧ xIS = xIO ∧ Dft M s f M1) ∨ (((0 ≤ c ∧ c < f 0) ∧ 0 ≤ k ∧ k < 4) ∧ ¬ (1 ≤ n ∧ n ≤ 99) ∧ xIS = xIA ∧ Dft M s f M1) ∨ (((0 ≤ c ∧ c < f 0) ∧ 0 ≤ k ∧ k < 4) ∧ (1 ≤ n ∧ n ≤ 99) ∧ ¬ (f (49 + 9 * c + k) + n ≤ 900) ∧ xIS = xIS ∧ Dft M s f M1)))) {M2 : MM} {b9 : Int} (h2 : (¬ (((0 ≤ c ∧ c < f 0) ∧ 0 ≤ k ∧ k < 4)) ∧ wr M1 (s + 217) 0 1 = M2) ∨ (((0 ≤ c ∧ c < f 0) ∧ 0 ≤ k ∧ k < 4) ∧ ¬ ((1 ≤ n ∧ n ≤ 99)) ∧ wr M1 (s + 217) 0 2 = M2) ∨ (((0 ≤ c ∧ c < f 0) ∧ 0 ≤ k ∧ k < 4) ∧ (1 ≤ n ∧ n ≤ 99) ∧ ¬ ((f (49 + 9 * c + k) + n ≤ 900)) ∧ wr M1 (s + 217) 0 3 = M2) ∨ (((0 ≤ c ∧ c < f 0) ∧ 0 ≤ k ∧ k < 4) ∧ (1 ≤ n ∧ n ≤ 99) ∧ (f (49 + 9 * c + k) + n ≤ 900) ∧ b9 = f (49 + 9 * c + k) + n ∧ aset (remM (wr M1 (s + 217) 0 0) (s + 217)) ((s + 217) + 2) (fShim f c k n) = M2)) : Tie s M2 kk b9 := by
  rcases h1 with ⟨rfl, v, M0, e1, e9⟩ | ⟨rfl, e1⟩ | ⟨rfl, e1⟩ | ⟨rfl, e1⟩
  · obtain ⟨c1, c2, c3, ev, e1⟩ := e1
    rcases h2 with ⟨n9, -⟩ | ⟨-, n9, -⟩ | ⟨-, -, n9, -⟩ | ⟨-, -, -, b0, h2⟩
    · exact absurd c1 n9
    · exact absurd c2 n9
    · exact absurd c3 n9
    · exact Tie.act hR (Inv_shim hR.1.2.1 c1.1.1 c1.2 (by have := (hR.1.2.1.2.2.2.2.2.2 _ c1.1.1 c1.1.2).2.2.2.2 _ c1.2.1 c1.2.2; omega)) e1 e9 h2 (ev.trans b0.symm)
  · rcases e1 with ⟨n1, q, e1⟩ | ⟨c1, n2, q, e1⟩ | ⟨c1, c2, n3, q, e1⟩
    · rcases h2 with ⟨-, h2⟩ | ⟨c9, -⟩ | ⟨c9, -⟩ | ⟨c9, -⟩
      · exact Tie.err (hR.dft e1) h2 (by decide)
      · exact absurd c9 n1
      · exact absurd c9 n1
      · exact absurd c9 n1
    · exact absurd q xn_OA
    · exact absurd q xn_OS
  · rcases e1 with ⟨n1, q, e1⟩ | ⟨c1, n2, q, e1⟩ | ⟨c1, c2, n3, q, e1⟩
    · exact absurd q xn_AO
    · rcases h2 with ⟨n9, -⟩ | ⟨-, -, h2⟩ | ⟨-, c9, -⟩ | ⟨-, c9, -⟩
      · exact absurd c1 n9
      · exact Tie.err (hR.dft e1) h2 (by decide)
      · exact absurd c9 n2
      · exact absurd c9 n2
    · exact absurd q xn_AS
  · rcases e1 with ⟨n1, q, e1⟩ | ⟨c1, n2, q, e1⟩ | ⟨c1, c2, n3, q, e1⟩
    · exact absurd q xn_SO
    · exact absurd q xn_SA
    · rcases h2 with ⟨n9, -⟩ | ⟨-, n9, -⟩ | ⟨-, -, -, h2⟩ | ⟨-, -, c9, -⟩
      · exact absurd c1 n9
      · exact absurd c2 n9
      · exact Tie.err (hR.dft e1) h2 (by decide)
      · exact absurd c9 n3
theorem tp_test {M M1 : MM} {s : Nat} {f : Int → Int} {c : Int} {kk : Int} (hR : Rel M s f) (h1 : (kk = 0 ∧ ∃ v9 M0, (((0 ≤ c ∧ c < f 0)) ∧ v9 = sWhy f c ∧ Act M s f (fTest f c) M0) ∧ wr M0 (s + 224) 0 (nz v9) = M1) ∨ (kk = 1 ∧ (¬ ((0 ≤ c ∧ c < f 0)) ∧ xIO = xIO ∧ Dft M s f M1))) : Pm M M1 s := by
  rcases h1 with ⟨-, v, M0, e1, rfl⟩ | ⟨-, e1⟩
  · obtain ⟨-, -, e1⟩ := e1
    exact (Pm.act e1 hR.2.1.1).tr Pm.wrO
  · rcases e1 with ⟨-, -, e1⟩
    · exact Pm.dft e1 hR.2.1.1
set_option maxHeartbeats 1000000 in
theorem tt_test {M M1 : MM} {s : Nat} {f : Int → Int} {c : Int} {kk : Int} (hR : Rel M s f) (h1 : (kk = 0 ∧ ∃ v9 M0, (((0 ≤ c ∧ c < f 0)) ∧ v9 = sWhy f c ∧ Act M s f (fTest f c) M0) ∧ wr M0 (s + 224) 0 (nz v9) = M1) ∨ (kk = 1 ∧ (¬ ((0 ≤ c ∧ c < f 0)) ∧ xIO = xIO ∧ Dft M s f M1))) {M2 : MM} {b9 : Int} (h2 : (¬ ((0 ≤ c ∧ c < f 0)) ∧ wr M1 (s + 217) 0 1 = M2) ∨ ((0 ≤ c ∧ c < f 0) ∧ b9 = sWhy f c ∧ aset (remM (wr M1 (s + 217) 0 0) (s + 217)) ((s + 217) + 2) (fTest f c) = M2)) : Tie s M2 kk b9 := by
  rcases h1 with ⟨rfl, v, M0, e1, e9⟩ | ⟨rfl, e1⟩
  · obtain ⟨c1, ev, e1⟩ := e1
    rcases h2 with ⟨n9, -⟩ | ⟨-, b0, h2⟩
    · exact absurd c1 n9
    · exact Tie.act hR (Inv_test hR.1.2.1 c1.1) e1 e9 h2 (ev.trans b0.symm)
  · rcases e1 with ⟨n1, q, e1⟩
    · rcases h2 with ⟨-, h2⟩ | ⟨c9, -⟩
      · exact Tie.err (hR.dft e1) h2 (by decide)
      · exact absurd c9 n1
theorem tp_sit {M M1 : MM} {s : Nat} {f : Int → Int} {c wt : Int} {kk : Int} (hR : Rel M s f) (h1 : (kk = 0 ∧ ∃ v9 M0, (((0 ≤ c ∧ c < f 0)) ∧ (1 ≤ wt ∧ wt ≤ 200) ∧ v9 = sSitN f c (wt / f 11) (sIdle f c) 4 ∧ Act M s f (fSit f c wt) M0) ∧ wr M0 (s + 224) 0 (nz v9) = M1) ∨ (kk = 1 ∧ ((¬ ((0 ≤ c ∧ c < f 0)) ∧ xIO = xIO ∧ Dft M s f M1) ∨ (((0 ≤ c ∧ c < f 0)) ∧ ¬ (1 ≤ wt ∧ wt ≤ 200) ∧ xIO = xIA ∧ Dft M s f M1))) ∨ (kk = 2 ∧ ((¬ ((0 ≤ c ∧ c < f 0)) ∧ xIA = xIO ∧ Dft M s f M1) ∨ (((0 ≤ c ∧ c < f 0)) ∧ ¬ (1 ≤ wt ∧ wt ≤ 200) ∧ xIA = xIA ∧ Dft M s f M1)))) : Pm M M1 s := by
  rcases h1 with ⟨-, v, M0, e1, rfl⟩ | ⟨-, e1⟩ | ⟨-, e1⟩
  · obtain ⟨-, -, -, e1⟩ := e1
    exact (Pm.act e1 hR.2.1.1).tr Pm.wrO
  · rcases e1 with ⟨-, -, e1⟩ | ⟨-, -, -, e1⟩
    · exact Pm.dft e1 hR.2.1.1
    · exact Pm.dft e1 hR.2.1.1
  · rcases e1 with ⟨-, -, e1⟩ | ⟨-, -, -, e1⟩
    · exact Pm.dft e1 hR.2.1.1
    · exact Pm.dft e1 hR.2.1.1
set_option maxHeartbeats 1000000 in
theorem tt_sit {M M1 : MM} {s : Nat} {f : Int → Int} {c wt : Int} {kk : Int} (hR : Rel M s f) (h1 : (kk = 0 ∧ ∃ v9 M0, (((0 ≤ c ∧ c < f 0)) ∧ (1 ≤ wt ∧ wt ≤ 200) ∧ v9 = sSitN f c (wt / f 11) (sIdle f c) 4 ∧ Act M s f (fSit f c wt) M0) ∧ wr M0 (s + 224) 0 (nz v9) = M1) ∨ (kk = 1 ∧ ((¬ ((0 ≤ c ∧ c < f 0)) ∧ xIO = xIO ∧ Dft M s f M1) ∨ (((0 ≤ c ∧ c < f 0)) ∧ ¬ (1 ≤ wt ∧ wt ≤ 200) ∧ xIO = xIA ∧ Dft M s f M1))) ∨ (kk = 2 ∧ ((¬ ((0 ≤ c ∧ c < f 0)) ∧ xIA = xIO ∧ Dft M s f M1) ∨ (((0 ≤ c ∧ c < f 0)) ∧ ¬ (1 ≤ wt ∧ wt ≤ 200) ∧ xIA = xIA ∧ Dft M s f M1)))) {M2 : MM} {b9 : Int} (h2 : (¬ ((0 ≤ c ∧ c < f 0)) ∧ wr M1 (s + 217) 0 1 = M2) ∨ ((0 ≤ c ∧ c < f 0) ∧ ¬ ((1 ≤ wt ∧ wt ≤ 200)) ∧ wr M1 (s + 217) 0 2 = M2) ∨ ((0 ≤ c ∧ c < f 0) ∧ (1 ≤ wt ∧ wt ≤ 200) ∧ b9 = sSitN f c (wt / f 11) (sIdle f c) 4 ∧ aset (remM (wr M1 (s + 217) 0 0) (s + 217)) ((s + 217) + 2) (fSit f c wt) = M2)) : Tie s M2 kk b9 := by
  rcases h1 with ⟨rfl, v, M0, e1, e9⟩ | ⟨rfl, e1⟩ | ⟨rfl, e1⟩
  · obtain ⟨c1, c2, ev, e1⟩ := e1
    rcases h2 with ⟨n9, -⟩ | ⟨-, n9, -⟩ | ⟨-, -, b0, h2⟩
    · exact absurd c1 n9
    · exact absurd c2 n9
    · exact Tie.act hR (Inv_sit hR.1.2.1 c1 (by omega)) e1 e9 h2 (ev.trans b0.symm)
  · rcases e1 with ⟨n1, q, e1⟩ | ⟨c1, n2, q, e1⟩
    · rcases h2 with ⟨-, h2⟩ | ⟨c9, -⟩ | ⟨c9, -⟩
      · exact Tie.err (hR.dft e1) h2 (by decide)
      · exact absurd c9 n1
      · exact absurd c9 n1
    · exact absurd q xn_OA
  · rcases e1 with ⟨n1, q, e1⟩ | ⟨c1, n2, q, e1⟩
    · exact absurd q xn_AO
    · rcases h2 with ⟨n9, -⟩ | ⟨-, -, h2⟩ | ⟨-, c9, -⟩
      · exact absurd c1 n9
      · exact Tie.err (hR.dft e1) h2 (by decide)
      · exact absurd c9 n2
theorem tp_bound {M M1 : MM} {s : Nat} {f : Int → Int} {gu k v : Int} {kk : Int} (hR : Rel M s f) (h1 : (kk = 0 ∧ ∃ v9 M0, (((0 ≤ gu ∧ gu < 4) ∧ 0 ≤ k ∧ k < 4) ∧ ((k < 2 ∧ 100 ≤ v ∧ v ≤ 900 ∨ k = 2 ∧ 0 ≤ v ∧ v ≤ 100 ∨ k = 3 ∧ 0 ≤ v ∧ v ≤ 200)) ∧ v9 = fBound f gu k v 4 - f 4 ∧ Act M s f (fBound f gu k v) M0) ∧ wr M0 (s + 224) 0 (nz v9) = M1) ∨ (kk = 1 ∧ ((¬ ((0 ≤ gu ∧ gu < 4) ∧ 0 ≤ k ∧ k < 4) ∧ xIO = xIO ∧ Dft M s f M1) ∨ (((0 ≤ gu ∧ gu < 4) ∧ 0 ≤ k ∧ k < 4) ∧ ¬ ((k < 2 ∧ 100 ≤ v ∧ v ≤ 900 ∨ k = 2 ∧ 0 ≤ v ∧ v ≤ 100 ∨ k = 3 ∧ 0 ≤ v ∧ v ≤ 200)) ∧ xIO = xIA ∧ Dft M s f M1))) ∨ (kk = 2 ∧ ((¬ ((0 ≤ gu ∧ gu < 4) ∧ 0 ≤ k ∧ k < 4) ∧ xIA = xIO ∧ Dft M s f M1) ∨ (((0 ≤ gu ∧ gu < 4) ∧ 0 ≤ k ∧ k < 4) ∧ ¬ ((k < 2 ∧ 100 ≤ v ∧ v ≤ 900 ∨ k = 2 ∧ 0 ≤ v ∧ v ≤ 100 ∨ k = 3 ∧ 0 ≤ v ∧ v ≤ 200)) ∧ xIA = xIA ∧ Dft M s f M1)))) : Pm M M1 s := by
  rcases h1 with ⟨-, v, M0, e1, rfl⟩ | ⟨-, e1⟩ | ⟨-, e1⟩
  · obtain ⟨-, -, -, e1⟩ := e1
    exact (Pm.act e1 hR.2.1.1).tr Pm.wrO
  · rcases e1 with ⟨-, -, e1⟩ | ⟨-, -, -, e1⟩
    · exact Pm.dft e1 hR.2.1.1
    · exact Pm.dft e1 hR.2.1.1
  · rcases e1 with ⟨-, -, e1⟩ | ⟨-, -, -, e1⟩
    · exact Pm.dft e1 hR.2.1.1
    · exact Pm.dft e1 hR.2.1.1
set_option maxHeartbeats 1000000 in
theorem tt_bound {M M1 : MM} {s : Nat} {f : Int → Int} {gu k v : Int} {kk : Int} (hR : Rel M s f) (h1 : (kk = 0 ∧ ∃ v9 M0, (((0 ≤ gu ∧ gu < 4) ∧ 0 ≤ k ∧ k < 4) ∧ ((k < 2 ∧ 100 ≤ v ∧ v ≤ 900 ∨ k = 2 ∧ 0 ≤ v ∧ v ≤ 100 ∨ k = 3 ∧ 0 ≤ v ∧ v ≤ 200)) ∧ v9 = fBound f gu k v 4 - f 4 ∧ Act M s f (fBound f gu k v) M0) ∧ wr M0 (s + 224) 0 (nz v9) = M1) ∨ (kk = 1 ∧ ((¬ ((0 ≤ gu ∧ gu < 4) ∧ 0 ≤ k ∧ k < 4) ∧ xIO = xIO ∧ Dft M s f M1) ∨ (((0 ≤ gu ∧ gu < 4) ∧ 0 ≤ k ∧ k < 4) ∧ ¬ ((k < 2 ∧ 100 ≤ v ∧ v ≤ 900 ∨ k = 2 ∧ 0 ≤ v ∧ v ≤ 100 ∨ k = 3 ∧ 0 ≤ v ∧ v ≤ 200)) ∧ xIO = xIA ∧ Dft M s f M1))) ∨ (kk = 2 ∧ ((¬ ((0 ≤ gu ∧ gu < 4) ∧ 0 ≤ k ∧ k < 4) ∧ xIA = xIO ∧ Dft M s f M1) ∨ (((0 ≤ gu ∧ gu < 4) ∧ 0 ≤ k ∧ k < 4) ∧ ¬ ((k < 2 ∧ 100 ≤ v ∧ v ≤ 900 ∨ k = 2 ∧ 0 ≤ v ∧ v ≤ 100 ∨ k = 3 ∧ 0 ≤ v ∧ v ≤ 200)) ∧ xIA = xIA ∧ Dft M s f M1)))) {M2 : MM} {b9 : Int} (h2 : (¬ (((0 ≤ gu ∧ gu < 4) ∧ 0 ≤ k ∧ k < 4)) ∧ wr M1 (s + 217) 0 1 = M2) ∨ (((0 ≤ gu ∧ gu < 4) ∧ 0 ≤ k ∧ k < 4) ∧ ¬ ((k < 2 ∧ 100 ≤ v ∧ v ≤ 900 ∨ k = 2 ∧ 0 ≤ v ∧ v ≤ 100 ∨ k = 3 ∧ 0 ≤ v ∧ v ≤ 200)) ∧ wr M1 (s + 217) 0 2 = M2) ∨ (((0 ≤ gu ∧ gu < 4) ∧ 0 ≤ k ∧ k < 4) ∧ (k < 2 ∧ 100 ≤ v ∧ v ≤ 900 ∨ k = 2 ∧ 0 ≤ v ∧ v ≤ 100 ∨ k = 3 ∧ 0 ≤ v ∧ v ≤ 200) ∧ b9 = fBound f gu k v 4 - f 4 ∧ aset (remM (wr M1 (s + 217) 0 0) (s + 217)) ((s + 217) + 2) (fBound f gu k v) = M2)) : Tie s M2 kk b9 := by
  rcases h1 with ⟨rfl, v, M0, e1, e9⟩ | ⟨rfl, e1⟩ | ⟨rfl, e1⟩
  · obtain ⟨c1, c2, ev, e1⟩ := e1
    rcases h2 with ⟨n9, -⟩ | ⟨-, n9, -⟩ | ⟨-, -, b0, h2⟩
    · exact absurd c1 n9
    · exact absurd c2 n9
    · exact Tie.act hR (Inv_bound hR.1.2.1 c1.1 c1.2 (by omega)) e1 e9 h2 (ev.trans b0.symm)
  · rcases e1 with ⟨n1, q, e1⟩ | ⟨c1, n2, q, e1⟩
    · rcases h2 with ⟨-, h2⟩ | ⟨c9, -⟩ | ⟨c9, -⟩
      · exact Tie.err (hR.dft e1) h2 (by decide)
      · exact absurd c9 n1
      · exact absurd c9 n1
    · exact absurd q xn_OA
  · rcases e1 with ⟨n1, q, e1⟩ | ⟨c1, n2, q, e1⟩
    · exact absurd q xn_AO
    · rcases h2 with ⟨n9, -⟩ | ⟨-, -, h2⟩ | ⟨-, c9, -⟩
      · exact absurd c1 n9
      · exact Tie.err (hR.dft e1) h2 (by decide)
      · exact absurd c9 n2
theorem tp_set {M M1 : MM} {s : Nat} {f : Int → Int} {wh v : Int} {kk : Int} (hR : Rel M s f) (h1 : (kk = 0 ∧ ∃ v9 M0, (((wh = 0 ∧ 0 ≤ v ∧ v ≤ 50 ∨ wh = 1 ∧ 1 ≤ v ∧ v ≤ 200)) ∧ v9 = f (10 + wh) ∧ Act M s f (fSet f wh v) M0) ∧ wr M0 (s + 224) 0 (nz v9) = M1) ∨ (kk = 1 ∧ (¬ ((wh = 0 ∧ 0 ≤ v ∧ v ≤ 50 ∨ wh = 1 ∧ 1 ≤ v ∧ v ≤ 200)) ∧ xIA = xIA ∧ Dft M s f M1))) : Pm M M1 s := by
  rcases h1 with ⟨-, v, M0, e1, rfl⟩ | ⟨-, e1⟩
  · obtain ⟨-, -, e1⟩ := e1
    exact (Pm.act e1 hR.2.1.1).tr Pm.wrO
  · rcases e1 with ⟨-, -, e1⟩
    · exact Pm.dft e1 hR.2.1.1
set_option maxHeartbeats 1000000 in
theorem tt_set {M M1 : MM} {s : Nat} {f : Int → Int} {wh v : Int} {kk : Int} (hR : Rel M s f) (h1 : (kk = 0 ∧ ∃ v9 M0, (((wh = 0 ∧ 0 ≤ v ∧ v ≤ 50 ∨ wh = 1 ∧ 1 ≤ v ∧ v ≤ 200)) ∧ v9 = f (10 + wh) ∧ Act M s f (fSet f wh v) M0) ∧ wr M0 (s + 224) 0 (nz v9) = M1) ∨ (kk = 1 ∧ (¬ ((wh = 0 ∧ 0 ≤ v ∧ v ≤ 50 ∨ wh = 1 ∧ 1 ≤ v ∧ v ≤ 200)) ∧ xIA = xIA ∧ Dft M s f M1))) {M2 : MM} {b9 : Int} (h2 : (¬ ((wh = 0 ∧ 0 ≤ v ∧ v ≤ 50 ∨ wh = 1 ∧ 1 ≤ v ∧ v ≤ 200)) ∧ wr M1 (s + 217) 0 1 = M2) ∨ ((wh = 0 ∧ 0 ≤ v ∧ v ≤ 50 ∨ wh = 1 ∧ 1 ≤ v ∧ v ≤ 200) ∧ b9 = f (10 + wh) ∧ aset (remM (wr M1 (s + 217) 0 0) (s + 217)) ((s + 217) + 2) (fSet f wh v) = M2)) : Tie s M2 kk b9 := by
  rcases h1 with ⟨rfl, v, M0, e1, e9⟩ | ⟨rfl, e1⟩
  · obtain ⟨c1, ev, e1⟩ := e1
    rcases h2 with ⟨n9, -⟩ | ⟨-, b0, h2⟩
    · exact absurd c1 n9
    · exact Tie.act hR (Inv_set hR.1.2.1 c1) e1 e9 h2 (ev.trans b0.symm)
  · rcases e1 with ⟨n1, q, e1⟩
    · rcases h2 with ⟨-, h2⟩ | ⟨c9, -⟩
      · exact Tie.err (hR.dft e1) h2 (by decide)
      · exact absurd c9 n1
theorem tp_undo {M M1 : MM} {s : Nat} {f f0 : Int → Int} {kk : Int} (hR : Rel M s f0) (h1 : (kk = 0 ∧ ∃ v9 M0, ((M (s + 23) 2 ≠ 0) ∧ v9 = M (s + 23) 2 - 1 ∧ Off M0 (s + 1) f ∧ Oth (wr (wr M (s + 23) 2 (M (s + 23) 2 - 1)) (s + 23) 1 ((M (s + 23) 1 + 14) % 15)) M0 (s + 1)) ∧ wr M0 (s + 224) 0 (nz v9) = M1) ∨ (kk = 1 ∧ (¬ (M (s + 23) 2 ≠ 0) ∧ xIS = xIS ∧ M = M1))) : Pm M M1 s := by
  rcases h1 with ⟨-, v, M0, e1, rfl⟩ | ⟨-, e1⟩
  · obtain ⟨-, -, -, e1⟩ := e1
    intro b h1 h2
    rw [wr_ne _ _ _ (by omega), e1 b (by omega), wr_ne _ _ _ (by omega), wr_ne _ _ _ (by omega)]
  · obtain ⟨-, -, e1⟩ := e1
    exact Pm.eq e1
set_option maxHeartbeats 1000000 in
theorem tt_undo {M M1 : MM} {s : Nat} {f f0 : Int → Int} {kk : Int} (hR : Rel M s f0) (h1 : (kk = 0 ∧ ∃ v9 M0, ((M (s + 23) 2 ≠ 0) ∧ v9 = M (s + 23) 2 - 1 ∧ Off M0 (s + 1) f ∧ Oth (wr (wr M (s + 23) 2 (M (s + 23) 2 - 1)) (s + 23) 1 ((M (s + 23) 1 + 14) % 15)) M0 (s + 1)) ∧ wr M0 (s + 224) 0 (nz v9) = M1) ∨ (kk = 1 ∧ (¬ (M (s + 23) 2 ≠ 0) ∧ xIS = xIS ∧ M = M1))) {M2 : MM} {b9 : Int} (hf : rowOf (M (s + 217 + 4)) (134 * (M (s + 23) 2 - 1)) = f) (h2 : (¬ ((M1 (s + 217) 6 ≠ 0)) ∧ wr M1 (s + 217) 0 1 = M2) ∨ ((M1 (s + 217) 6 ≠ 0) ∧ b9 = M1 (s + 217) 6 - 1 ∧ aset (wr (wr M1 (s + 217) 0 0) (s + 217) 6 (M1 (s + 217) 6 - 1)) ((s + 217) + 2) (rowOf (M1 ((s + 217) + 4)) (134 * (M1 (s + 217) 6 - 1))) = M2)) : Tie s M2 kk b9 := by
  rcases h1 with ⟨rfl, v, M0, e1, e9⟩ | ⟨rfl, e1⟩
  · obtain ⟨c1, ev, ho, ht⟩ := e1
    have hm : M1 (s + 217) 6 = M (s + 23) 2 := by rw [← e9, wr_ne _ _ _ (by omega), ht _ (by omega), wr_ne _ _ _ (by omega), wr_ne _ _ _ (by omega)]; exact hR.2.1.2.2.1
    rcases h2 with ⟨n9, -⟩ | ⟨-, b0, h2⟩
    · exact absurd (by rw [hm]; exact c1) n9
    · refine ⟨?_, by decide, fun _ => ?_, _, hR.undo c1 (by rw [hf]; exact ho) ht (M1 := M1) (fun b hb => by rw [← e9, wr_ne _ _ _ hb]) h2⟩
      · rw [← h2, aset_ne _ _ (by omega), wr_ii _ _ _ (by decide), wr_iv]
      · rw [← h2, aset_ne _ _ (by omega), wr_ne _ _ _ (by omega), wr_ne _ _ _ (by omega), ← e9, wr_iv, ev, b0, hm]
  · obtain ⟨n1, -, e1⟩ := e1
    subst e1
    rcases h2 with ⟨-, h2⟩ | ⟨c9, -⟩
    · exact Tie.err hR h2 (by decide)
    · exact absurd (by rw [← hR.2.1.2.2.1]; exact c9) n1
theorem tp_bestTurn {M M1 : MM} {s : Nat} {f : Int → Int} {c fl w : Int} {kk : Int} (hR : Rel M s f) (h1 : (kk = 0 ∧ ∃ v9 M0, (((0 ≤ c ∧ c < f 0) ∧ (0 ≤ fl ∧ fl < f 1)) ∧ (0 ≤ w ∧ w ≤ 1) ∧ v9 = (if w = 0 then sBq f c fl else sWq f c fl) ∧ M = M0) ∧ wr M0 (s + 224) 0 (nz v9) = M1) ∨ (kk = 1 ∧ ((¬ ((0 ≤ c ∧ c < f 0) ∧ (0 ≤ fl ∧ fl < f 1)) ∧ xIO = xIO ∧ M = M1) ∨ (((0 ≤ c ∧ c < f 0) ∧ (0 ≤ fl ∧ fl < f 1)) ∧ ¬ (0 ≤ w ∧ w ≤ 1) ∧ xIO = xIA ∧ M = M1))) ∨ (kk = 2 ∧ ((¬ ((0 ≤ c ∧ c < f 0) ∧ (0 ≤ fl ∧ fl < f 1)) ∧ xIA = xIO ∧ M = M1) ∨ (((0 ≤ c ∧ c < f 0) ∧ (0 ≤ fl ∧ fl < f 1)) ∧ ¬ (0 ≤ w ∧ w ≤ 1) ∧ xIA = xIA ∧ M = M1)))) : Pm M M1 s := by
  rcases h1 with ⟨-, v, M0, e1, rfl⟩ | ⟨-, e1⟩ | ⟨-, e1⟩
  · obtain ⟨-, -, -, e1⟩ := e1
    exact (Pm.eq e1).tr Pm.wrO
  · rcases e1 with ⟨-, -, e1⟩ | ⟨-, -, -, e1⟩
    · exact Pm.eq e1
    · exact Pm.eq e1
  · rcases e1 with ⟨-, -, e1⟩ | ⟨-, -, -, e1⟩
    · exact Pm.eq e1
    · exact Pm.eq e1
set_option maxHeartbeats 1000000 in
theorem tt_bestTurn {M M1 : MM} {s : Nat} {f : Int → Int} {c fl w : Int} {kk : Int} (hR : Rel M s f) (h1 : (kk = 0 ∧ ∃ v9 M0, (((0 ≤ c ∧ c < f 0) ∧ (0 ≤ fl ∧ fl < f 1)) ∧ (0 ≤ w ∧ w ≤ 1) ∧ v9 = (if w = 0 then sBq f c fl else sWq f c fl) ∧ M = M0) ∧ wr M0 (s + 224) 0 (nz v9) = M1) ∨ (kk = 1 ∧ ((¬ ((0 ≤ c ∧ c < f 0) ∧ (0 ≤ fl ∧ fl < f 1)) ∧ xIO = xIO ∧ M = M1) ∨ (((0 ≤ c ∧ c < f 0) ∧ (0 ≤ fl ∧ fl < f 1)) ∧ ¬ (0 ≤ w ∧ w ≤ 1) ∧ xIO = xIA ∧ M = M1))) ∨ (kk = 2 ∧ ((¬ ((0 ≤ c ∧ c < f 0) ∧ (0 ≤ fl ∧ fl < f 1)) ∧ xIA = xIO ∧ M = M1) ∨ (((0 ≤ c ∧ c < f 0) ∧ (0 ≤ fl ∧ fl < f 1)) ∧ ¬ (0 ≤ w ∧ w ≤ 1) ∧ xIA = xIA ∧ M = M1)))) {M2 : MM} {b9 : Int} (h2 : (¬ (((0 ≤ c ∧ c < f 0) ∧ (0 ≤ fl ∧ fl < f 1))) ∧ wr M1 (s + 217) 0 1 = M2) ∨ (((0 ≤ c ∧ c < f 0) ∧ (0 ≤ fl ∧ fl < f 1)) ∧ ¬ ((0 ≤ w ∧ w ≤ 1)) ∧ wr M1 (s + 217) 0 2 = M2) ∨ (((0 ≤ c ∧ c < f 0) ∧ (0 ≤ fl ∧ fl < f 1)) ∧ (0 ≤ w ∧ w ≤ 1) ∧ b9 = (if w = 0 then sBq f c fl else sWq f c fl) ∧ ∃ t, aset (wr M1 (s + 217) 0 0) ((s + 217) + 3) t = M2)) : Tie s M2 kk b9 := by
  rcases h1 with ⟨rfl, v, M0, e1, e9⟩ | ⟨rfl, e1⟩ | ⟨rfl, e1⟩
  · obtain ⟨c1, c2, ev, e1⟩ := e1
    rcases h2 with ⟨n9, -⟩ | ⟨-, n9, -⟩ | ⟨-, -, b0, h2⟩
    · exact absurd c1 n9
    · exact absurd c2 n9
    · subst e1
      exact Tie.okt hR e9 h2 (ev.trans b0.symm)
  · rcases e1 with ⟨n1, q, e1⟩ | ⟨c1, n2, q, e1⟩
    · rcases h2 with ⟨-, h2⟩ | ⟨c9, -⟩ | ⟨c9, -⟩
      · subst e1
        exact Tie.err hR h2 (by decide)
      · exact absurd c9 n1
      · exact absurd c9 n1
    · exact absurd q xn_OA
  · rcases e1 with ⟨n1, q, e1⟩ | ⟨c1, n2, q, e1⟩
    · exact absurd q xn_AO
    · rcases h2 with ⟨n9, -⟩ | ⟨-, -, h2⟩ | ⟨-, c9, -⟩
      · exact absurd c1 n9
      · subst e1
        exact Tie.err hR h2 (by decide)
      · exact absurd c9 n2
theorem tp_bestSaw {M M1 : MM} {s : Nat} {f : Int → Int} {c : Int} {kk : Int} (hR : Rel M s f) (h1 : (kk = 0 ∧ ∃ v9 M0, ((0 ≤ c ∧ c < f 0) ∧ v9 = sBs f c ∧ Oth M M0 (s + 12)) ∧ wr M0 (s + 224) 0 (nz v9) = M1) ∨ (kk = 1 ∧ (¬ ((0 ≤ c ∧ c < f 0)) ∧ xIO = xIO ∧ M = M1))) : Pm M M1 s := by
  rcases h1 with ⟨-, v, M0, e1, rfl⟩ | ⟨-, e1⟩
  · obtain ⟨-, -, e1⟩ := e1
    exact (Pm.oth e1 (by omega)).tr Pm.wrO
  · rcases e1 with ⟨-, -, e1⟩
    · exact Pm.eq e1
set_option maxHeartbeats 1000000 in
theorem tt_bestSaw {M M1 : MM} {s : Nat} {f : Int → Int} {c : Int} {kk : Int} (hR : Rel M s f) (h1 : (kk = 0 ∧ ∃ v9 M0, ((0 ≤ c ∧ c < f 0) ∧ v9 = sBs f c ∧ Oth M M0 (s + 12)) ∧ wr M0 (s + 224) 0 (nz v9) = M1) ∨ (kk = 1 ∧ (¬ ((0 ≤ c ∧ c < f 0)) ∧ xIO = xIO ∧ M = M1))) {M2 : MM} {b9 : Int} (h2 : (¬ ((0 ≤ c ∧ c < f 0)) ∧ wr M1 (s + 217) 0 1 = M2) ∨ ((0 ≤ c ∧ c < f 0) ∧ b9 = sBs f c ∧ ∃ t, aset (wr M1 (s + 217) 0 0) ((s + 217) + 3) t = M2)) : Tie s M2 kk b9 := by
  rcases h1 with ⟨rfl, v, M0, e1, e9⟩ | ⟨rfl, e1⟩
  · obtain ⟨c1, ev, e1⟩ := e1
    rcases h2 with ⟨n9, -⟩ | ⟨-, b0, h2⟩
    · exact absurd c1 n9
    · exact Tie.okt (hR.same (Sm.cpy e1)) e9 h2 (ev.trans b0.symm)
  · rcases e1 with ⟨n1, q, e1⟩
    · rcases h2 with ⟨-, h2⟩ | ⟨c9, -⟩
      · subst e1
        exact Tie.err hR h2 (by decide)
      · exact absurd c9 n1
theorem tp_failsIn {M M1 : MM} {s : Nat} {f : Int → Int} {c wt : Int} {kk : Int} (hR : Rel M s f) (h1 : (kk = 0 ∧ ∃ v9 M0, ((0 ≤ c ∧ c < f 0) ∧ (1 ≤ wt ∧ wt ≤ 200) ∧ v9 = sFail f c wt ∧ Oth M M0 (s + 12)) ∧ wr M0 (s + 224) 0 (nz v9) = M1) ∨ (kk = 1 ∧ ((¬ ((0 ≤ c ∧ c < f 0)) ∧ xIO = xIO ∧ M = M1) ∨ (((0 ≤ c ∧ c < f 0)) ∧ ¬ (1 ≤ wt ∧ wt ≤ 200) ∧ xIO = xIA ∧ M = M1))) ∨ (kk = 2 ∧ ((¬ ((0 ≤ c ∧ c < f 0)) ∧ xIA = xIO ∧ M = M1) ∨ (((0 ≤ c ∧ c < f 0)) ∧ ¬ (1 ≤ wt ∧ wt ≤ 200) ∧ xIA = xIA ∧ M = M1)))) : Pm M M1 s := by
  rcases h1 with ⟨-, v, M0, e1, rfl⟩ | ⟨-, e1⟩ | ⟨-, e1⟩
  · obtain ⟨-, -, -, e1⟩ := e1
    exact (Pm.oth e1 (by omega)).tr Pm.wrO
  · rcases e1 with ⟨-, -, e1⟩ | ⟨-, -, -, e1⟩
    · exact Pm.eq e1
    · exact Pm.eq e1
  · rcases e1 with ⟨-, -, e1⟩ | ⟨-, -, -, e1⟩
    · exact Pm.eq e1
    · exact Pm.eq e1
set_option maxHeartbeats 1000000 in
theorem tt_failsIn {M M1 : MM} {s : Nat} {f : Int → Int} {c wt : Int} {kk : Int} (hR : Rel M s f) (h1 : (kk = 0 ∧ ∃ v9 M0, ((0 ≤ c ∧ c < f 0) ∧ (1 ≤ wt ∧ wt ≤ 200) ∧ v9 = sFail f c wt ∧ Oth M M0 (s + 12)) ∧ wr M0 (s + 224) 0 (nz v9) = M1) ∨ (kk = 1 ∧ ((¬ ((0 ≤ c ∧ c < f 0)) ∧ xIO = xIO ∧ M = M1) ∨ (((0 ≤ c ∧ c < f 0)) ∧ ¬ (1 ≤ wt ∧ wt ≤ 200) ∧ xIO = xIA ∧ M = M1))) ∨ (kk = 2 ∧ ((¬ ((0 ≤ c ∧ c < f 0)) ∧ xIA = xIO ∧ M = M1) ∨ (((0 ≤ c ∧ c < f 0)) ∧ ¬ (1 ≤ wt ∧ wt ≤ 200) ∧ xIA = xIA ∧ M = M1)))) {M2 : MM} {b9 : Int} (h2 : (¬ ((0 ≤ c ∧ c < f 0)) ∧ wr M1 (s + 217) 0 1 = M2) ∨ ((0 ≤ c ∧ c < f 0) ∧ ¬ ((1 ≤ wt ∧ wt ≤ 200)) ∧ wr M1 (s + 217) 0 2 = M2) ∨ ((0 ≤ c ∧ c < f 0) ∧ (1 ≤ wt ∧ wt ≤ 200) ∧ b9 = sFail f c wt ∧ ∃ t, aset (wr M1 (s + 217) 0 0) ((s + 217) + 3) t = M2)) : Tie s M2 kk b9 := by
  rcases h1 with ⟨rfl, v, M0, e1, e9⟩ | ⟨rfl, e1⟩ | ⟨rfl, e1⟩
  · obtain ⟨c1, c2, ev, e1⟩ := e1
    rcases h2 with ⟨n9, -⟩ | ⟨-, n9, -⟩ | ⟨-, -, b0, h2⟩
    · exact absurd c1 n9
    · exact absurd c2 n9
    · exact Tie.okt (hR.same (Sm.cpy e1)) e9 h2 (ev.trans b0.symm)
  · rcases e1 with ⟨n1, q, e1⟩ | ⟨c1, n2, q, e1⟩
    · rcases h2 with ⟨-, h2⟩ | ⟨c9, -⟩ | ⟨c9, -⟩
      · subst e1
        exact Tie.err hR h2 (by decide)
      · exact absurd c9 n1
      · exact absurd c9 n1
    · exact absurd q xn_OA
  · rcases e1 with ⟨n1, q, e1⟩ | ⟨c1, n2, q, e1⟩
    · exact absurd q xn_AO
    · rcases h2 with ⟨n9, -⟩ | ⟨-, -, h2⟩ | ⟨-, c9, -⟩
      · exact absurd c1 n9
      · subst e1
        exact Tie.err hR h2 (by decide)
      · exact absurd c9 n2
theorem tp_bestFloor {M M1 : MM} {s : Nat} {f : Int → Int} {c : Int} {kk : Int} (hR : Rel M s f) (h1 : (kk = 0 ∧ ∃ v9 M0, ((0 ≤ c ∧ c < f 0) ∧ v9 = sBf f c ∧ M = M0) ∧ wr M0 (s + 224) 0 (nz v9) = M1) ∨ (kk = 1 ∧ (¬ ((0 ≤ c ∧ c < f 0)) ∧ xIO = xIO ∧ M = M1))) : Pm M M1 s := by
  rcases h1 with ⟨-, v, M0, e1, rfl⟩ | ⟨-, e1⟩
  · obtain ⟨-, -, e1⟩ := e1
    exact (Pm.eq e1).tr Pm.wrO
  · rcases e1 with ⟨-, -, e1⟩
    · exact Pm.eq e1
set_option maxHeartbeats 1000000 in
theorem tt_bestFloor {M M1 : MM} {s : Nat} {f : Int → Int} {c : Int} {kk : Int} (hR : Rel M s f) (h1 : (kk = 0 ∧ ∃ v9 M0, ((0 ≤ c ∧ c < f 0) ∧ v9 = sBf f c ∧ M = M0) ∧ wr M0 (s + 224) 0 (nz v9) = M1) ∨ (kk = 1 ∧ (¬ ((0 ≤ c ∧ c < f 0)) ∧ xIO = xIO ∧ M = M1))) {M2 : MM} {b9 : Int} (h2 : (¬ ((0 ≤ c ∧ c < f 0)) ∧ wr M1 (s + 217) 0 1 = M2) ∨ ((0 ≤ c ∧ c < f 0) ∧ b9 = sBf f c ∧ ∃ t, aset (wr M1 (s + 217) 0 0) ((s + 217) + 3) t = M2)) : Tie s M2 kk b9 := by
  rcases h1 with ⟨rfl, v, M0, e1, e9⟩ | ⟨rfl, e1⟩
  · obtain ⟨c1, ev, e1⟩ := e1
    rcases h2 with ⟨n9, -⟩ | ⟨-, b0, h2⟩
    · exact absurd c1 n9
    · subst e1
      exact Tie.okt hR e9 h2 (ev.trans b0.symm)
  · rcases e1 with ⟨n1, q, e1⟩
    · rcases h2 with ⟨-, h2⟩ | ⟨c9, -⟩
      · subst e1
        exact Tie.err hR h2 (by decide)
      · exact absurd c9 n1
theorem tp_runScript {M M1 : MM} {s : Nat} {f : Int → Int} {n sc : Int} {kk : Int} (hR : Rel M s f) (h1 : (kk = 0 ∧ ∃ v9 M0, ((1 ≤ n ∧ n ≤ 3 ∧ 0 ≤ sc ∧ sc < sP n.toNat) ∧ v9 = sRun sc n.toNat 0 f ∧ Oth M M0 (s + 12)) ∧ wr M0 (s + 224) 0 (nz v9) = M1) ∨ (kk = 1 ∧ (¬ (1 ≤ n ∧ n ≤ 3 ∧ 0 ≤ sc ∧ sc < sP n.toNat) ∧ xIA = xIA ∧ M = M1))) : Pm M M1 s := by
  rcases h1 with ⟨-, v, M0, e1, rfl⟩ | ⟨-, e1⟩
  · obtain ⟨-, -, e1⟩ := e1
    exact (Pm.oth e1 (by omega)).tr Pm.wrO
  · rcases e1 with ⟨-, -, e1⟩
    · exact Pm.eq e1
set_option maxHeartbeats 1000000 in
theorem tt_runScript {M M1 : MM} {s : Nat} {f : Int → Int} {n sc : Int} {kk : Int} (hR : Rel M s f) (h1 : (kk = 0 ∧ ∃ v9 M0, ((1 ≤ n ∧ n ≤ 3 ∧ 0 ≤ sc ∧ sc < sP n.toNat) ∧ v9 = sRun sc n.toNat 0 f ∧ Oth M M0 (s + 12)) ∧ wr M0 (s + 224) 0 (nz v9) = M1) ∨ (kk = 1 ∧ (¬ (1 ≤ n ∧ n ≤ 3 ∧ 0 ≤ sc ∧ sc < sP n.toNat) ∧ xIA = xIA ∧ M = M1))) {M2 : MM} {b9 : Int} (h2 : (¬ ((1 ≤ n ∧ n ≤ 3 ∧ 0 ≤ sc ∧ sc < sP n.toNat)) ∧ wr M1 (s + 217) 0 1 = M2) ∨ ((1 ≤ n ∧ n ≤ 3 ∧ 0 ≤ sc ∧ sc < sP n.toNat) ∧ b9 = sRun sc n.toNat 0 f ∧ ∃ t, aset (wr M1 (s + 217) 0 0) ((s + 217) + 3) t = M2)) : Tie s M2 kk b9 := by
  rcases h1 with ⟨rfl, v, M0, e1, e9⟩ | ⟨rfl, e1⟩
  · obtain ⟨c1, ev, e1⟩ := e1
    rcases h2 with ⟨n9, -⟩ | ⟨-, b0, h2⟩
    · exact absurd c1 n9
    · exact Tie.okt (hR.same (Sm.cpy e1)) e9 h2 (ev.trans b0.symm)
  · rcases e1 with ⟨n1, q, e1⟩
    · rcases h2 with ⟨-, h2⟩ | ⟨c9, -⟩
      · subst e1
        exact Tie.err hR h2 (by decide)
      · exact absurd c9 n1
theorem tp_simulate {M M1 : MM} {s : Nat} {f : Int → Int} {sd n : Int} {kk : Int} (hR : Rel M s f) (h1 : (kk = 0 ∧ ∃ v9 M0, ((1 ≤ n ∧ n ≤ 60) ∧ v9 = sSim f sd n.toNat ∧ Oth M M0 (s + 12)) ∧ wr M0 (s + 224) 0 (nz v9) = M1) ∨ (kk = 1 ∧ (¬ (1 ≤ n ∧ n ≤ 60) ∧ xIA = xIA ∧ M = M1))) : Pm M M1 s := by
  rcases h1 with ⟨-, v, M0, e1, rfl⟩ | ⟨-, e1⟩
  · obtain ⟨-, -, e1⟩ := e1
    exact (Pm.oth e1 (by omega)).tr Pm.wrO
  · rcases e1 with ⟨-, -, e1⟩
    · exact Pm.eq e1
set_option maxHeartbeats 1000000 in
theorem tt_simulate {M M1 : MM} {s : Nat} {f : Int → Int} {sd n : Int} {kk : Int} (hR : Rel M s f) (h1 : (kk = 0 ∧ ∃ v9 M0, ((1 ≤ n ∧ n ≤ 60) ∧ v9 = sSim f sd n.toNat ∧ Oth M M0 (s + 12)) ∧ wr M0 (s + 224) 0 (nz v9) = M1) ∨ (kk = 1 ∧ (¬ (1 ≤ n ∧ n ≤ 60) ∧ xIA = xIA ∧ M = M1))) {M2 : MM} {b9 : Int} (h2 : (¬ ((1 ≤ n ∧ n ≤ 60)) ∧ wr M1 (s + 217) 0 1 = M2) ∨ ((1 ≤ n ∧ n ≤ 60) ∧ b9 = sSim f sd n.toNat ∧ ∃ t, aset (wr M1 (s + 217) 0 0) ((s + 217) + 3) t = M2)) : Tie s M2 kk b9 := by
  rcases h1 with ⟨rfl, v, M0, e1, e9⟩ | ⟨rfl, e1⟩
  · obtain ⟨c1, ev, e1⟩ := e1
    rcases h2 with ⟨n9, -⟩ | ⟨-, b0, h2⟩
    · exact absurd c1 n9
    · exact Tie.okt (hR.same (Sm.cpy e1)) e9 h2 (ev.trans b0.symm)
  · rcases e1 with ⟨n1, q, e1⟩
    · rcases h2 with ⟨-, h2⟩ | ⟨c9, -⟩
      · subst e1
        exact Tie.err hR h2 (by decide)
      · exact absurd c9 n1
theorem tp_save {M M1 : MM} {s : Nat} {f : Int → Int} {k : Int} {kk : Int} (hR : Rel M s f) (h1 : (kk = 0 ∧ ∃ v9 M0, ((0 ≤ k ∧ k ≤ 1) ∧ v9 = sStamped f ∧ ((k = 0 ∧ Sav M (s + 190) f M0) ∨ (k = 1 ∧ Sav M (s + 202) f M0))) ∧ wr M0 (s + 224) 0 (nz v9) = M1) ∨ (kk = 1 ∧ (¬ (0 ≤ k ∧ k ≤ 1) ∧ xIO = xIO ∧ M = M1))) : Pm M M1 s := by
  rcases h1 with ⟨-, v, M0, e1, rfl⟩ | ⟨-, e1⟩
  · obtain ⟨-, -, e1⟩ := e1
    rcases e1 with ⟨-, A, -, tA, e1⟩ | ⟨-, A, -, tA, e1⟩
    · intro b h1 h2
      rw [wr_ne _ _ _ (by omega), ← e1, wr_ne _ _ _ (by omega)]
      exact tA b (by omega)
    · intro b h1 h2
      rw [wr_ne _ _ _ (by omega), ← e1, wr_ne _ _ _ (by omega)]
      exact tA b (by omega)
  · obtain ⟨-, -, e1⟩ := e1
    exact Pm.eq e1
set_option maxHeartbeats 1000000 in
theorem tt_save {M M1 : MM} {s : Nat} {f : Int → Int} {k : Int} {kk : Int} (hR : Rel M s f) (h1 : (kk = 0 ∧ ∃ v9 M0, ((0 ≤ k ∧ k ≤ 1) ∧ v9 = sStamped f ∧ ((k = 0 ∧ Sav M (s + 190) f M0) ∨ (k = 1 ∧ Sav M (s + 202) f M0))) ∧ wr M0 (s + 224) 0 (nz v9) = M1) ∨ (kk = 1 ∧ (¬ (0 ≤ k ∧ k ≤ 1) ∧ xIO = xIO ∧ M = M1))) {M2 : MM} {b9 : Int} (h2 : (¬ ((0 ≤ k ∧ k ≤ 1)) ∧ wr M1 (s + 217) 0 1 = M2) ∨ ((0 ≤ k ∧ k ≤ 1) ∧ b9 = sStamped f ∧ wr (aset (wr M1 (s + 217) 0 0) ((s + 217) + 5) (fCpy f 0 (M1 ((s + 217) + 5)) (134 * k) 134)) ((s + 217) + 6) k 1 = M2)) : Tie s M2 kk b9 := by
  rcases h1 with ⟨rfl, v, M0, e1, e9⟩ | ⟨rfl, e1⟩
  · obtain ⟨c1, ev, e1⟩ := e1
    rcases h2 with ⟨n9, -⟩ | ⟨-, b0, h2⟩
    · exact absurd c1 n9
    · have h3 : ∀ b : Nat, b ≠ s + 224 → M1 b = M0 b := fun b hb => by rw [← e9, wr_ne _ _ _ hb]
      refine ⟨?_, by decide, fun _ => ?_, f, ?_⟩
      · rw [← h2, wr_ne _ _ _ (by omega), aset_ne _ _ (by omega), wr_iv]
      · rw [← h2, wr_ne _ _ _ (by omega), aset_ne _ _ (by omega), wr_ne _ _ _ (by omega), ← e9, wr_iv, ev, b0]
      · rcases e1 with ⟨rfl, e1⟩ | ⟨rfl, e1⟩
        · exact hR.save (Or.inl ⟨rfl, rfl⟩) e1 h3 h2
        · exact hR.save (Or.inr ⟨rfl, rfl⟩) e1 h3 h2
  · obtain ⟨n1, -, e1⟩ := e1
    subst e1
    rcases h2 with ⟨-, h2⟩ | ⟨c9, -⟩
    · exact Tie.err hR h2 (by decide)
    · exact absurd c9 n1
theorem tp_restore {M M1 : MM} {s : Nat} {f g0 g1 : Int → Int} {k : Int} {kk : Int} (hR : Rel M s f) (h1 : (kk = 0 ∧ ∃ v9 M0, ((0 ≤ k ∧ k ≤ 1) ∧ ((k = 0 ∧ M (s + 190) 1 ≠ 0 ∧ v9 = sStamped g0 ∧ Rst M s g0 M0) ∨ (k = 1 ∧ M (s + 202) 1 ≠ 0 ∧ v9 = sStamped g1 ∧ Rst M s g1 M0))) ∧ wr M0 (s + 224) 0 (nz v9) = M1) ∨ (kk = 1 ∧ ((¬ (0 ≤ k ∧ k ≤ 1) ∧ xIO = xIO ∧ M = M1) ∨ ((0 ≤ k ∧ k ≤ 1) ∧ (k = 0 → M (s + 190) 1 = 0) ∧ (k = 1 → M (s + 202) 1 = 0) ∧ xIO = xIS ∧ M = M1))) ∨ (kk = 2 ∧ ((¬ (0 ≤ k ∧ k ≤ 1) ∧ xIS = xIO ∧ M = M1) ∨ ((0 ≤ k ∧ k ≤ 1) ∧ (k = 0 → M (s + 190) 1 = 0) ∧ (k = 1 → M (s + 202) 1 = 0) ∧ xIS = xIS ∧ M = M1)))) : Pm M M1 s := by
  rcases h1 with ⟨-, v, M0, e1, rfl⟩ | ⟨-, e1⟩ | ⟨-, e1⟩
  · obtain ⟨-, e1⟩ := e1
    rcases e1 with ⟨-, -, -, A, -, tA, e1⟩ | ⟨-, -, -, A, -, tA, e1⟩
    · intro b h1 h2
      rw [wr_ne _ _ _ (by omega), ← e1, wr_ne _ _ _ (by omega)]
      exact tA b (by omega)
    · intro b h1 h2
      rw [wr_ne _ _ _ (by omega), ← e1, wr_ne _ _ _ (by omega)]
      exact tA b (by omega)
  · rcases e1 with ⟨-, -, e1⟩ | ⟨-, -, -, -, e1⟩ <;> exact Pm.eq e1
  · rcases e1 with ⟨-, -, e1⟩ | ⟨-, -, -, -, e1⟩ <;> exact Pm.eq e1
set_option maxHeartbeats 1000000 in
theorem tt_restore {M M1 : MM} {s : Nat} {f g0 g1 : Int → Int} {k : Int} {kk : Int} (hR : Rel M s f) (h1 : (kk = 0 ∧ ∃ v9 M0, ((0 ≤ k ∧ k ≤ 1) ∧ ((k = 0 ∧ M (s + 190) 1 ≠ 0 ∧ v9 = sStamped g0 ∧ Rst M s g0 M0) ∨ (k = 1 ∧ M (s + 202) 1 ≠ 0 ∧ v9 = sStamped g1 ∧ Rst M s g1 M0))) ∧ wr M0 (s + 224) 0 (nz v9) = M1) ∨ (kk = 1 ∧ ((¬ (0 ≤ k ∧ k ≤ 1) ∧ xIO = xIO ∧ M = M1) ∨ ((0 ≤ k ∧ k ≤ 1) ∧ (k = 0 → M (s + 190) 1 = 0) ∧ (k = 1 → M (s + 202) 1 = 0) ∧ xIO = xIS ∧ M = M1))) ∨ (kk = 2 ∧ ((¬ (0 ≤ k ∧ k ≤ 1) ∧ xIS = xIO ∧ M = M1) ∨ ((0 ≤ k ∧ k ≤ 1) ∧ (k = 0 → M (s + 190) 1 = 0) ∧ (k = 1 → M (s + 202) 1 = 0) ∧ xIS = xIS ∧ M = M1)))) {M2 : MM} {b9 : Int} (hg0 : rowOf (M (s + 217 + 5)) (134 * 0) = g0) (hg1 : rowOf (M (s + 217 + 5)) (134 * 1) = g1) (hI0 : M (s + 190) 1 ≠ 0 → Inv g0) (hI1 : M (s + 202) 1 ≠ 0 → Inv g1) (h2 : (¬ ((0 ≤ k ∧ k ≤ 1)) ∧ wr M1 (s + 217) 0 1 = M2) ∨ ((0 ≤ k ∧ k ≤ 1) ∧ ¬ ((M1 ((s + 217) + 6) k ≠ 0)) ∧ wr M1 (s + 217) 0 2 = M2) ∨ ((0 ≤ k ∧ k ≤ 1) ∧ (M1 ((s + 217) + 6) k ≠ 0) ∧ b9 = sStamped (rowOf (M1 ((s + 217) + 5)) (134 * k)) ∧ wr (aset (wr M1 (s + 217) 0 0) ((s + 217) + 2) (rowOf (M1 ((s + 217) + 5)) (134 * k))) (s + 217) 6 0 = M2)) : Tie s M2 kk b9 := by
  rcases h1 with ⟨rfl, v, M0, e1, e9⟩ | ⟨rfl, e1⟩ | ⟨rfl, e1⟩
  · obtain ⟨c1, e1⟩ := e1
    have h3 : ∀ b : Nat, b ≠ s + 224 → M1 b = M0 b := fun b hb => by rw [← e9, wr_ne _ _ _ hb]
    have hp : Pm M M0 s := by
      rcases e1 with ⟨-, -, -, A, -, tA, e1⟩ | ⟨-, -, -, A, -, tA, e1⟩
      · intro b h1 h2
        rw [← e1, wr_ne _ _ _ (by omega)]
        exact tA b (by omega)
      · intro b h1 h2
        rw [← e1, wr_ne _ _ _ (by omega)]
        exact tA b (by omega)
    have h6 : M1 (s + 217 + 6) = M (s + 217 + 6) := (h3 _ (by omega)).trans (hp _ (by omega) (by omega))
    have h5 : M1 (s + 217 + 5) = M (s + 217 + 5) := (h3 _ (by omega)).trans (hp _ (by omega) (by omega))
    have hq0 := hR.2.2.1.1.2.1
    have hq1 := hR.2.2.1.2.2.1
    rcases h2 with ⟨n9, -⟩ | ⟨-, n9, -⟩ | ⟨-, -, b0, h2⟩
    · exact absurd c1 n9
    · refine absurd ?_ n9
      rw [h6]
      rcases e1 with ⟨rfl, h9, -⟩ | ⟨rfl, h9, -⟩
      · rw [hq0]; exact h9
      · rw [hq1]; exact h9
    · rcases e1 with ⟨rfl, h9, ev, e1⟩ | ⟨rfl, h9, ev, e1⟩
      · refine ⟨?_, by decide, fun _ => ?_, g0, hR.restore (hI0 h9) hg0 e1 h3 h2⟩
        · rw [← h2, wr_ii _ _ _ (by decide), aset_ne _ _ (by omega), wr_iv]
        · rw [← h2, wr_ne _ _ _ (by omega), aset_ne _ _ (by omega), wr_ne _ _ _ (by omega), ← e9, wr_iv, ev, b0, h5, hg0]
      · refine ⟨?_, by decide, fun _ => ?_, g1, hR.restore (hI1 h9) hg1 e1 h3 h2⟩
        · rw [← h2, wr_ii _ _ _ (by decide), aset_ne _ _ (by omega), wr_iv]
        · rw [← h2, wr_ne _ _ _ (by omega), aset_ne _ _ (by omega), wr_ne _ _ _ (by omega), ← e9, wr_iv, ev, b0, h5, hg1]
  · rcases e1 with ⟨n1, -, e1⟩ | ⟨-, -, -, q, -⟩
    · subst e1
      rcases h2 with ⟨-, h2⟩ | ⟨c9, -⟩ | ⟨c9, -⟩
      · exact Tie.err hR h2 (by decide)
      · exact absurd c9 n1
      · exact absurd c9 n1
    · exact absurd q xn_OS
  · rcases e1 with ⟨-, q, -⟩ | ⟨c1, n2, n3, -, e1⟩
    · exact absurd q xn_SO
    · subst e1
      rcases h2 with ⟨n9, -⟩ | ⟨-, -, h2⟩ | ⟨-, c9, -⟩
      · exact absurd c1 n9
      · exact Tie.err hR h2 (by decide)
      · refine absurd ?_ c9
        rcases (by omega : k = 0 ∨ k = 1) with rfl | rfl
        · rw [hR.2.2.1.1.2.1]; exact n2 rfl
        · rw [hR.2.2.1.2.2.1]; exact n3 rfl
theorem tt_clearText {M M1 M2 : MM} {s : Nat} {f : Int → Int} {v b : Int} (hR : Rel M s f) (h1 : v = M (s + 214) 1 ∧ wr M (s + 214) 1 0 = M1) (h2 : b = M1 (s + 217) 2 ∧ wr (wr M1 (s + 217) 0 0) (s + 217) 2 0 = M2) : v = b ∧ inR v ∧ ∃ f', Rel M2 s f' := by
  obtain ⟨rfl, h1⟩ := h1
  obtain ⟨rfl, h2⟩ := h2
  have hz := hR.pz
  refine ⟨by rw [← h1, wr_ne _ _ _ (by omega)]; exact hR.2.2.2.1, by unfold inR; omega, f, hR.text (M1 := M1) (fun b b1 b2 b3 => by rw [← h1, wr_ne _ _ _ b2]) (fun b b1 b2 => by rw [← h2, wr_ne _ _ _ b1, wr_ne _ _ _ b1]) (by rw [← h2, wr_ii _ _ _ (by decide), wr_ii _ _ _ (by decide)]) (by rw [← h1, wr_iv, ← h2, wr_iv]) ?_ ?_⟩
  · rw [← h2, wr_ne _ _ _ (by omega), wr_ne _ _ _ (by omega), ← h1, wr_ne _ _ _ (by omega), wr_ne _ _ _ (by omega)]
    exact hR.2.2.2.2.1
  · rw [← h2, wr_iv]
    exact ⟨by decide, fun j j1 j2 => by omega⟩
theorem tt_errorPosition {M M1 M2 : MM} {s : Nat} {f t : Int → Int} {sz v b : Int} (hR : Rel M s f) (hC : Txt t sz) (h1 : v = sErr t sz ∧ ∃ p c, Cx M M1 (s + 214) p c) (h2 : rtPost (wr M1 (s + 217) 0 0) (s + 217) t sz b M2) : v = b ∧ inR v ∧ ∃ f', Rel M2 s f' := by
  obtain ⟨rfl, p, c, e1⟩ := h1
  obtain ⟨rfl, p9, o, g, hT, -⟩ := h2
  exact ⟨rfl, sErr_r hC, f, ((hR.same (Sm.cx e1)).same Sm.wr0).same (Sm.tx hT)⟩
theorem tt_sound {M M1 M2 : MM} {s : Nat} {f : Int → Int} {v b : Int} (hR : Rel M s f) (h1 : v = (sSnd f (f 0).toNat).toInt ∧ M = M1) (h2 : b = (sSnd f (f 0).toNat).toInt ∧ wr M1 (s + 217) 0 0 = M2) : v = b ∧ inR v ∧ ∃ f', Rel M2 s f' := by
  obtain ⟨rfl, rfl⟩ := h1
  obtain ⟨rfl, rfl⟩ := h2
  exact ⟨rfl, inR_toInt _, f, hR.same Sm.wr0⟩
