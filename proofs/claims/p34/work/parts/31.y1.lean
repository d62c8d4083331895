theorem V_ldcw {Γ : VG} {D : DD} {Λ : LY} {own : String} {cc : ByteArray} {nL : Nat} {l : Launch} {R : Room} {M : MM} {κ : Nat × Nat} {pc q : Nat} {lv : List (Option Value)} {st : List Value} {i : Nat} {v : Int32} {z : Int} (g : VOk Γ D Λ own cc nL l R) (d : decode cc pc = .ok (.ldc_w i, 3)) (hw : Cond.constant own i v ∈ BIG) (hz : v = iI z) (hq : pc + 3 = q) (k : V Γ D Λ M κ q lv (vi z :: st)) : V Γ D Λ M κ pc lv st := by
  subst hq
  intro H locs ls h1 h2 h3
  subst hz
  exact lv_ldcw g.exec g.code g.hown (g.hts _ hw) d (k H locs ls h1 h2 h3)
theorem q_X4_311 : Cond.constant RX4 311 100000 ∈ BIG := big_in (i := 845) (by decide +kernel) (by decide +kernel)
theorem sP_r (n : Nat) (h : n ≤ 3) : 1 ≤ sP n ∧ sP n ≤ 1000000000000000000 := by
  match n, h with
  | 0, _ => decide
  | 1, _ => decide
  | 2, _ => decide
  | 3, _ => decide
theorem sP_s {s : Int} {n : Nat} (h : n ≤ 2) : s / sP n / 1000000 = s / sP (n + 1) := by
  match n, h with
  | 0, _ => show s / 1 / 1000000 = s / 1000000; rw [Int.ediv_one]
  | 1, _ => show s / 1000000 / 1000000 = s / 1000000000000; omega
  | 2, _ => show s / 1000000000000 / 1000000 = s / 1000000000000000000; omega
abbrev rm_X4_withoutGroups : Room := { frames := 0, cells := 0, slots := 0, locals := 0 }
set_option maxHeartbeats 4000000 in
set_option maxRecDepth 100000 in
theorem c_X4_withoutGroups (l : Launch) {D : DD} {Λ : LY} {M : MM} {s n : Int} (hs : 0 ≤ s ∧ s < 9223372036854775808) (hn : 0 ≤ n ∧ n ≤ 3) : CL l yX4_withoutGroups cX4_withoutGroups 6 rm_X4_withoutGroups [vl s, vi n] D Λ M (fun z M1 => z = s / sP n.toNat ∧ M = M1) := by
  refine CL_of rfl rfl (Nat.le_of_ble_eq_true rfl) (fun Γ g r => ?_)
  refine V_lload_n (q := 1) g dX4_withoutGroups_0 rfl rfl ?_
  refine V_lstore_n_3 (q := 2) g dX4_withoutGroups_1 (by decide) rfl rfl ?_
  refine V_iconst (q := 3) g dX4_withoutGroups_2 rfl ?_
  refine V_istore_5 (q := 5) g dX4_withoutGroups_3 (by decide) rfl rfl ?_
  have hM : s = s / sP 0 := (Int.ediv_one s).symm
  have hloop : ∀ (k9 : Nat) (i : Nat), (i : Int) ≤ n → n - i ≤ k9 → V Γ D Λ M (0, 0) 5 [some (vl s), none, some (vi n), some (vl (s / sP i)), none, some (vi (i : Int))] [] := by
    intro k9
    induction k9 with
    | zero =>
      intro i h2 h3
      have jp := sP_r i (by omega)
      have jd : 0 ≤ s / sP i := Int.ediv_nonneg hs.1 (by omega)
      have jl : s / sP i ≤ s := Int.ediv_le_self _ hs.1
      refine V_iload (q := 7) g dX4_withoutGroups_5 rfl rfl ?_
      refine V_iload_n (q := 8) g dX4_withoutGroups_7 rfl rfl ?_
      refine V_icmp_ge (q := 11) g dX4_withoutGroups_8 (tgt := 23) (by decide) rfl (by omega) (by omega) (fun h8 => ?_) (fun h8 => absurd h8 (by omega))
      have hn9 : n = (i : Int) := by omega
      subst hn9
      refine V_lload_n (q := 24) g dX4_withoutGroups_23 rfl rfl ?_
      exact V_lreturn g r dX4_withoutGroups_24 ⟨rfl, rfl⟩
    | succ k9 ih =>
      intro i h2 h3
      have jp := sP_r i (by omega)
      have jd : 0 ≤ s / sP i := Int.ediv_nonneg hs.1 (by omega)
      have jl : s / sP i ≤ s := Int.ediv_le_self _ hs.1
      refine V_iload (q := 7) g dX4_withoutGroups_5 rfl rfl ?_
      refine V_iload_n (q := 8) g dX4_withoutGroups_7 rfl rfl ?_
      refine V_icmp_ge (q := 11) g dX4_withoutGroups_8 (tgt := 23) (by decide) rfl (by omega) (by omega) (fun h8 => ?_) (fun h8 => ?_)
      · have hn9 : n = (i : Int) := by omega
        subst hn9
        refine V_lload_n (q := 24) g dX4_withoutGroups_23 rfl rfl ?_
        exact V_lreturn g r dX4_withoutGroups_24 ⟨rfl, rfl⟩
      · refine V_lload_n (q := 12) g dX4_withoutGroups_11 rfl rfl ?_
        refine V_ldc2 (q := 15) g dX4_withoutGroups_12 (z := 1000000) q_X4_254 (by decide) rfl ?_
        refine V_ldiv (q := 16) g dX4_withoutGroups_15 (by omega) (by omega) rfl ?_
        rw [sP_s (by omega)]
        refine V_lstore_n_3 (q := 17) g dX4_withoutGroups_16 (by decide) rfl rfl ?_
        refine V_iinc_5 (q := 20) g dX4_withoutGroups_17 (by decide) rfl rfl ?_
        refine V_goto g dX4_withoutGroups_20 (tgt := 5) (by decide) ?_
        exact ih (i + 1) (by omega) (by omega)
  have q9 := hloop n.toNat 0 (by omega) (by omega)
  rw [← hM] at q9
  exact q9
abbrev rm_X4_groupSucceeds : Room := { frames := 5, cells := 0, slots := 0, locals := 122 }
set_option maxHeartbeats 4000000 in
set_option maxRecDepth 100000 in
theorem c_X4_groupSucceeds (l : Launch) {D : DD} {Λ : LY} {M : MM} {o : Nat} {f : Int → Int} {x : Int} (hL : OffL D Λ o) (hO : Off M o f) (hI : Inv f) (hx : 0 ≤ x ∧ x < 1000000) : CI l yX4_groupSucceeds cX4_groupSucceeds 6 .boolean rm_X4_groupSucceeds [.ref o, vi x] D Λ M (fun z M1 => (okG f x ∧ z = 1 ∧ Off M1 o (fG f x) ∧ Oth M M1 o) ∨ (¬ okG f x ∧ z = 0 ∧ ∃ f2, Inv f2 ∧ Off M1 o f2 ∧ Oth M M1 o)) := by
  refine CI_of rfl rfl (Nat.le_of_ble_eq_true rfl) (fun Γ g r => ?_)
  have h0 := hI.1
  have h1 := hI.2.1
  refine V_iload_n (q := 1) g dX4_groupSucceeds_0 rfl rfl ?_
  refine V_sipush (q := 4) g dX4_groupSucceeds_1 (by decide) rfl ?_
  refine V_idiv (q := 5) g dX4_groupSucceeds_4 (by omega) (by omega) rfl ?_
  refine V_bipush (q := 7) g dX4_groupSucceeds_5 (by decide) rfl ?_
  refine V_irem (q := 8) g dX4_groupSucceeds_7 (by omega) (by omega) rfl ?_
  refine V_istore_n_2 (q := 9) g dX4_groupSucceeds_8 (by decide) rfl rfl ?_
  refine V_iload_n (q := 10) g dX4_groupSucceeds_9 rfl rfl ?_
  refine V_sipush (q := 13) g dX4_groupSucceeds_10 (by decide) rfl ?_
  refine V_idiv (q := 14) g dX4_groupSucceeds_13 (by omega) (by omega) rfl ?_
  refine V_bipush (q := 16) g dX4_groupSucceeds_14 (by decide) rfl ?_
  refine V_irem (q := 17) g dX4_groupSucceeds_16 (by omega) (by omega) rfl ?_
  refine V_istore_n_3 (q := 18) g dX4_groupSucceeds_17 (by decide) rfl rfl ?_
  refine V_iload_n (q := 19) g dX4_groupSucceeds_18 rfl rfl ?_
  refine V_sipush (q := 22) g dX4_groupSucceeds_19 (by decide) rfl ?_
  refine V_irem (q := 23) g dX4_groupSucceeds_22 (by omega) (by omega) rfl ?_
  refine V_istore_4 (q := 25) g dX4_groupSucceeds_23 (by decide) rfl rfl ?_
  refine V_iload_n (q := 26) g dX4_groupSucceeds_25 rfl rfl ?_
  refine V_if_ne (q := 29) g dX4_groupSucceeds_26 (tgt := 33) (by decide) rfl (by omega) (fun h26 => ?_) (fun h26 => ?_)
  · refine V_iconst (q := 34) g dX4_groupSucceeds_33 rfl ?_
    refine V_istore_5 (q := 36) g dX4_groupSucceeds_34 (by decide) rfl rfl ?_
    refine V_iload_n (q := 37) g dX4_groupSucceeds_36 rfl rfl ?_
    refine V_ldcw (q := 40) g dX4_groupSucceeds_37 (z := 100000) q_X4_311 (by decide) rfl ?_
    refine V_idiv (q := 41) g dX4_groupSucceeds_40 (by omega) (by omega) rfl ?_
    rcases (by omega : (x / 100000) = 1 ∨ (x / 100000) = 2 ∨ (x / 100000) = 3 ∨ (x / 100000) = 4 ∨ (x / 100000) = 5 ∨ (x / 100000) = 6 ∨ (x / 100000) = 7 ∨ (x / 100000) = 8 ∨ (x / 100000) = 9 ∨ ((x / 100000) < 1 ∨ 9 < (x / 100000))) with h41 | h41 | h41 | h41 | h41 | h41 | h41 | h41 | h41 | h41
    · refine V_tabAt g dX4_groupSucceeds_41 (n := 1) h41 (by decide) (by decide) (by decide) (off := 51) rfl (tgt := 92) (by decide) ?_
      refine V_aload_n (q := 93) g dX4_groupSucceeds_92 rfl rfl ?_
      refine V_iload_n (q := 94) g dX4_groupSucceeds_93 rfl rfl ?_
      refine V_iload_n (q := 95) g dX4_groupSucceeds_94 rfl rfl ?_
      refine V_iload (q := 97) g dX4_groupSucceeds_95 rfl rfl ?_
      refine V_callVI_3 (q := 100) g (c_X1_sawLeg l hL hO hI (by omega) (by omega) (by omega)) dX4_groupSucceeds_97 k_X4_203 hL.1 rfl rfl rfl rfl ⟨rfl, rfl⟩ rfl (fun z1 M1 e1 => ?_)
      obtain e1 := e1
      refine V_if_lt (q := 103) g dX4_groupSucceeds_100 (tgt := 107) (by decide) rfl (by omega) (fun h100 => ?_) (fun h100 => ?_)
      · have hM : M = M1 := by rcases e1 with ⟨_, _, _⟩ | ⟨_, _, _, _⟩ | ⟨_, _, _, _, _⟩ | ⟨_, _, _, _, _, _⟩ <;> first | assumption | (exfalso; omega)
        subst hM
        refine V_iconst (q := 108) g dX4_groupSucceeds_107 rfl ?_
        exact V_ireturn g r dX4_groupSucceeds_108 rfl (Or.inr ⟨(by unfold okG okCmd; (repeat (first | rw [if_pos (by omega)] | rw [if_neg (by omega)])); first | omega | exact id), by omega, f, hI, hO, Oth.rf⟩)
      · obtain ⟨q1_0, q1_1, q1_2, q1_3, hO1, hT1⟩ := (((e1.resolve_left (by omega)).resolve_left (by omega)).resolve_left (by omega))
        refine V_iconst (q := 104) g dX4_groupSucceeds_103 rfl ?_
        refine V_goto g dX4_groupSucceeds_104 (tgt := 108) (by decide) ?_
        exact V_ireturn g r dX4_groupSucceeds_108 rfl (Or.inl ⟨(by unfold okG okCmd; (repeat (first | rw [if_pos (by omega)] | rw [if_neg (by omega)])); omega), by omega, (by unfold fG fCmd; (repeat (first | rw [if_pos (by omega)] | rw [if_neg (by omega)])); exact hO1), hT1⟩)
    · refine V_tabAt g dX4_groupSucceeds_41 (n := 2) h41 (by decide) (by decide) (by decide) (off := 68) rfl (tgt := 109) (by decide) ?_
      refine V_iload (q := 111) g dX4_groupSucceeds_109 rfl rfl ?_
      refine V_bipush (q := 113) g dX4_groupSucceeds_111 (by decide) rfl ?_
      refine V_icmp_gt (q := 116) g dX4_groupSucceeds_113 (tgt := 131) (by decide) rfl (by omega) (by omega) (fun h113 => ?_) (fun h113 => ?_)
      · refine V_iconst (q := 132) g dX4_groupSucceeds_131 rfl ?_
        exact V_ireturn g r dX4_groupSucceeds_132 rfl (Or.inr ⟨(by unfold okG okCmd; (repeat (first | rw [if_pos (by omega)] | rw [if_neg (by omega)])); first | omega | exact id), by omega, f, hI, hO, Oth.rf⟩)
      · refine V_aload_n (q := 117) g dX4_groupSucceeds_116 rfl rfl ?_
        refine V_iload_n (q := 118) g dX4_groupSucceeds_117 rfl rfl ?_
        refine V_iload_n (q := 119) g dX4_groupSucceeds_118 rfl rfl ?_
        refine V_iload (q := 121) g dX4_groupSucceeds_119 rfl rfl ?_
        refine V_callVI_3 (q := 124) g (c_X1_shimLeg l hL hO hI (by omega) (by omega) (by omega)) dX4_groupSucceeds_121 k_X4_206 hL.1 rfl rfl rfl rfl ⟨rfl, rfl⟩ rfl (fun z2 M2 e2 => ?_)
        obtain e2 := e2
        refine V_if_lt (q := 127) g dX4_groupSucceeds_124 (tgt := 131) (by decide) rfl (by omega) (fun h124 => ?_) (fun h124 => ?_)
        · have hM : M = M2 := by rcases e2 with ⟨_, _, _⟩ | ⟨_, _, _, _⟩ | ⟨_, _, _, _, _⟩ | ⟨_, _, _, _, _, _⟩ <;> first | assumption | (exfalso; omega)
          subst hM
          refine V_iconst (q := 132) g dX4_groupSucceeds_131 rfl ?_
          exact V_ireturn g r dX4_groupSucceeds_132 rfl (Or.inr ⟨(by unfold okG okCmd; (repeat (first | rw [if_pos (by omega)] | rw [if_neg (by omega)])); first | omega | exact id), by omega, f, hI, hO, Oth.rf⟩)
        · obtain ⟨q2_0, q2_1, q2_2, q2_3, hO2, hT2⟩ := (((e2.resolve_left (by omega)).resolve_left (by omega)).resolve_left (by omega))
          refine V_iconst (q := 128) g dX4_groupSucceeds_127 rfl ?_
          refine V_goto g dX4_groupSucceeds_128 (tgt := 132) (by decide) ?_
          exact V_ireturn g r dX4_groupSucceeds_132 rfl (Or.inl ⟨(by unfold okG okCmd; (repeat (first | rw [if_pos (by omega)] | rw [if_neg (by omega)])); omega), by omega, (by unfold fG fCmd; (repeat (first | rw [if_pos (by omega)] | rw [if_neg (by omega)])); exact hO2), hT2⟩)
    · refine V_tabAt g dX4_groupSucceeds_41 (n := 3) h41 (by decide) (by decide) (by decide) (off := 92) rfl (tgt := 133) (by decide) ?_
      refine V_iload (q := 135) g dX4_groupSucceeds_133 rfl rfl ?_
      refine V_bipush (q := 137) g dX4_groupSucceeds_135 (by decide) rfl ?_
      refine V_irem (q := 138) g dX4_groupSucceeds_137 (by omega) (by omega) rfl ?_
      refine V_if_ne (q := 141) g dX4_groupSucceeds_138 (tgt := 159) (by decide) rfl (by omega) (fun h138 => ?_) (fun h138 => ?_)
      · refine V_iconst (q := 160) g dX4_groupSucceeds_159 rfl ?_
        exact V_ireturn g r dX4_groupSucceeds_160 rfl (Or.inr ⟨(by unfold okG okCmd; (repeat (first | rw [if_pos (by omega)] | rw [if_neg (by omega)])); first | omega | exact id), by omega, f, hI, hO, Oth.rf⟩)
      · refine V_aload_n (q := 142) g dX4_groupSucceeds_141 rfl rfl ?_
        refine V_iload_n (q := 143) g dX4_groupSucceeds_142 rfl rfl ?_
        refine V_iload_n (q := 144) g dX4_groupSucceeds_143 rfl rfl ?_
        refine V_iload (q := 146) g dX4_groupSucceeds_144 rfl rfl ?_
        refine V_bipush (q := 148) g dX4_groupSucceeds_146 (by decide) rfl ?_
        refine V_idiv (q := 149) g dX4_groupSucceeds_148 (by omega) (by omega) rfl ?_
        refine V_callVI_3 (q := 152) g (c_X1_moveChair l hL hO hI (by omega) (by omega) (by omega)) dX4_groupSucceeds_149 k_X4_200 hL.1 rfl rfl rfl rfl ⟨rfl, rfl⟩ rfl (fun z3 M3 e3 => ?_)
        obtain e3 := e3
        have hr9 : inR z3 := by
          rcases e3 with ⟨q, _⟩ | ⟨q, _⟩ | ⟨q, qa, qb, qc, _⟩
          · omega
          · omega
          · have := sWob_r hI qa.1 (fl := (x / 1000 % 10)) (q := (x % 1000) / 100) (by omega) qb
            omega
        refine V_if_lt (q := 155) g dX4_groupSucceeds_152 (tgt := 159) (by decide) rfl hr9 (fun h152 => ?_) (fun h152 => ?_)
        · have hM : M = M3 := by rcases e3 with ⟨_, _, _⟩ | ⟨_, _, _, _⟩ | ⟨_, _, _, _, _, _⟩ <;> first | assumption | (exfalso; omega)
          subst hM
          refine V_iconst (q := 160) g dX4_groupSucceeds_159 rfl ?_
          exact V_ireturn g r dX4_groupSucceeds_160 rfl (Or.inr ⟨(by unfold okG okCmd; (repeat (first | rw [if_pos (by omega)] | rw [if_neg (by omega)])); first | omega | exact id), by omega, f, hI, hO, Oth.rf⟩)
        · obtain ⟨q3_0, q3_1, q3_2, q3_3, hO3, hT3⟩ := ((e3.resolve_left (by omega)).resolve_left (by omega))
          refine V_iconst (q := 156) g dX4_groupSucceeds_155 rfl ?_
          refine V_goto g dX4_groupSucceeds_156 (tgt := 160) (by decide) ?_
          exact V_ireturn g r dX4_groupSucceeds_160 rfl (Or.inl ⟨(by unfold okG okCmd; (repeat (first | rw [if_pos (by omega)] | rw [if_neg (by omega)])); omega), by omega, (by unfold fG fCmd; (repeat (first | rw [if_pos (by omega)] | rw [if_neg (by omega)])); exact hO3), hT3⟩)
    · refine V_tabAt g dX4_groupSucceeds_41 (n := 4) h41 (by decide) (by decide) (by decide) (off := 120) rfl (tgt := 161) (by decide) ?_
      refine V_iload (q := 163) g dX4_groupSucceeds_161 rfl rfl ?_
      refine V_if_eq (q := 166) g dX4_groupSucceeds_163 (tgt := 187) (by decide) rfl (by omega) (fun h163 => ?_) (fun h163 => absurd h163 (by omega))
      refine V_iconst (q := 188) g dX4_groupSucceeds_187 rfl ?_
      exact V_ireturn g r dX4_groupSucceeds_188 rfl (Or.inr ⟨(by unfold okG okCmd; (repeat (first | rw [if_pos (by omega)] | rw [if_neg (by omega)])); first | omega | exact id), by omega, f, hI, hO, Oth.rf⟩)
    · refine V_tabAt g dX4_groupSucceeds_41 (n := 5) h41 (by decide) (by decide) (by decide) (off := 148) rfl (tgt := 189) (by decide) ?_
      refine V_iload (q := 191) g dX4_groupSucceeds_189 rfl rfl ?_
      refine V_if_eq (q := 194) g dX4_groupSucceeds_191 (tgt := 208) (by decide) rfl (by omega) (fun h191 => ?_) (fun h191 => absurd h191 (by omega))
      refine V_iconst (q := 209) g dX4_groupSucceeds_208 rfl ?_
      exact V_ireturn g r dX4_groupSucceeds_209 rfl (Or.inr ⟨(by unfold okG okCmd; (repeat (first | rw [if_pos (by omega)] | rw [if_neg (by omega)])); first | omega | exact id), by omega, f, hI, hO, Oth.rf⟩)
    · refine V_tabAt g dX4_groupSucceeds_41 (n := 6) h41 (by decide) (by decide) (by decide) (off := 169) rfl (tgt := 210) (by decide) ?_
      refine V_aload_n (q := 211) g dX4_groupSucceeds_210 rfl rfl ?_
      refine V_iload_n (q := 212) g dX4_groupSucceeds_211 rfl rfl ?_
      refine V_iload_n (q := 213) g dX4_groupSucceeds_212 rfl rfl ?_
      refine V_iload (q := 215) g dX4_groupSucceeds_213 rfl rfl ?_
      refine V_callVI_3 (q := 218) g (c_X1_changeBound l hL hO hI (by omega) (by omega) (by omega)) dX4_groupSucceeds_215 k_X4_215 hL.1 rfl rfl rfl rfl ⟨rfl, rfl⟩ rfl (fun z4 M4 e4 => ?_)
      obtain e4 := e4
      have hr9 : inR z4 := by
        rcases e4 with ⟨q, _⟩ | ⟨q, _⟩ | ⟨q, qa, qb, qc, _⟩
        · omega
        · omega
        · have := bnd_v hI qa.1 qa.2 (v := (x % 1000)) (by omega)
          omega
      refine V_if_lt (q := 221) g dX4_groupSucceeds_218 (tgt := 225) (by decide) rfl hr9 (fun h218 => ?_) (fun h218 => ?_)
      · have hM : M = M4 := by rcases e4 with ⟨_, _, _⟩ | ⟨_, _, _, _⟩ | ⟨_, _, _, _, _, _⟩ <;> first | assumption | (exfalso; omega)
        subst hM
        refine V_iconst (q := 226) g dX4_groupSucceeds_225 rfl ?_
        exact V_ireturn g r dX4_groupSucceeds_226 rfl (Or.inr ⟨(by unfold okG okCmd; (repeat (first | rw [if_pos (by omega)] | rw [if_neg (by omega)])); first | omega | exact id), by omega, f, hI, hO, Oth.rf⟩)
      · obtain ⟨q4_0, q4_1, q4_2, q4_3, hO4, hT4⟩ := ((e4.resolve_left (by omega)).resolve_left (by omega))
        refine V_iconst (q := 222) g dX4_groupSucceeds_221 rfl ?_
        refine V_goto g dX4_groupSucceeds_222 (tgt := 226) (by decide) ?_
        exact V_ireturn g r dX4_groupSucceeds_226 rfl (Or.inl ⟨(by unfold okG okCmd; (repeat (first | rw [if_pos (by omega)] | rw [if_neg (by omega)])); omega), by omega, (by unfold fG fCmd; (repeat (first | rw [if_pos (by omega)] | rw [if_neg (by omega)])); exact hO4), hT4⟩)
    · refine V_tabAt g dX4_groupSucceeds_41 (n := 7) h41 (by decide) (by decide) (by decide) (off := 186) rfl (tgt := 227) (by decide) ?_
      refine V_iload (q := 229) g dX4_groupSucceeds_227 rfl rfl ?_
      refine V_if_eq (q := 232) g dX4_groupSucceeds_229 (tgt := 254) (by decide) rfl (by omega) (fun h229 => ?_) (fun h229 => absurd h229 (by omega))
      refine V_iconst (q := 255) g dX4_groupSucceeds_254 rfl ?_
      exact V_ireturn g r dX4_groupSucceeds_255 rfl (Or.inr ⟨(by unfold okG okCmd; (repeat (first | rw [if_pos (by omega)] | rw [if_neg (by omega)])); first | omega | exact id), by omega, f, hI, hO, Oth.rf⟩)
    · refine V_tabAt g dX4_groupSucceeds_41 (n := 8) h41 (by decide) (by decide) (by decide) (off := 215) rfl (tgt := 256) (by decide) ?_
      refine V_iload (q := 258) g dX4_groupSucceeds_256 rfl rfl ?_
      refine V_if_eq (q := 261) g dX4_groupSucceeds_258 (tgt := 286) (by decide) rfl (by omega) (fun h258 => ?_) (fun h258 => absurd h258 (by omega))
      refine V_iconst (q := 287) g dX4_groupSucceeds_286 rfl ?_
      exact V_ireturn g r dX4_groupSucceeds_287 rfl (Or.inr ⟨(by unfold okG okCmd; (repeat (first | rw [if_pos (by omega)] | rw [if_neg (by omega)])); first | omega | exact id), by omega, f, hI, hO, Oth.rf⟩)
    · refine V_tabAt g dX4_groupSucceeds_41 (n := 9) h41 (by decide) (by decide) (by decide) (off := 247) rfl (tgt := 288) (by decide) ?_
      refine V_iload (q := 290) g dX4_groupSucceeds_288 rfl rfl ?_
      refine V_if_eq (q := 293) g dX4_groupSucceeds_290 (tgt := 315) (by decide) rfl (by omega) (fun h290 => ?_) (fun h290 => absurd h290 (by omega))
      refine V_iconst (q := 316) g dX4_groupSucceeds_315 rfl ?_
      exact V_ireturn g r dX4_groupSucceeds_316 rfl (Or.inr ⟨(by unfold okG okCmd; (repeat (first | rw [if_pos (by omega)] | rw [if_neg (by omega)])); first | omega | exact id), by omega, f, hI, hO, Oth.rf⟩)
    · refine V_tabOut g dX4_groupSucceeds_41 (by omega) h41 (tgt := 317) (by decide) ?_
      refine V_iconst (q := 318) g dX4_groupSucceeds_317 rfl ?_
      exact V_ireturn g r dX4_groupSucceeds_318 rfl (Or.inr ⟨(by unfold okG okCmd; (repeat (first | rw [if_pos (by omega)] | rw [if_neg (by omega)])); first | omega | exact id), by omega, f, hI, hO, Oth.rf⟩)
  · refine V_iconst (q := 30) g dX4_groupSucceeds_29 rfl ?_
    refine V_goto g dX4_groupSucceeds_30 (tgt := 34) (by decide) ?_
    refine V_istore_5 (q := 36) g dX4_groupSucceeds_34 (by decide) rfl rfl ?_
    refine V_iload_n (q := 37) g dX4_groupSucceeds_36 rfl rfl ?_
    refine V_ldcw (q := 40) g dX4_groupSucceeds_37 (z := 100000) q_X4_311 (by decide) rfl ?_
    refine V_idiv (q := 41) g dX4_groupSucceeds_40 (by omega) (by omega) rfl ?_
    rcases (by omega : (x / 100000) = 1 ∨ (x / 100000) = 2 ∨ (x / 100000) = 3 ∨ (x / 100000) = 4 ∨ (x / 100000) = 5 ∨ (x / 100000) = 6 ∨ (x / 100000) = 7 ∨ (x / 100000) = 8 ∨ (x / 100000) = 9 ∨ ((x / 100000) < 1 ∨ 9 < (x / 100000))) with h41 | h41 | h41 | h41 | h41 | h41 | h41 | h41 | h41 | h41
    · refine V_tabAt g dX4_groupSucceeds_41 (n := 1) h41 (by decide) (by decide) (by decide) (off := 51) rfl (tgt := 92) (by decide) ?_
      refine V_aload_n (q := 93) g dX4_groupSucceeds_92 rfl rfl ?_
      refine V_iload_n (q := 94) g dX4_groupSucceeds_93 rfl rfl ?_
      refine V_iload_n (q := 95) g dX4_groupSucceeds_94 rfl rfl ?_
      refine V_iload (q := 97) g dX4_groupSucceeds_95 rfl rfl ?_
      refine V_callVI_3 (q := 100) g (c_X1_sawLeg l hL hO hI (by omega) (by omega) (by omega)) dX4_groupSucceeds_97 k_X4_203 hL.1 rfl rfl rfl rfl ⟨rfl, rfl⟩ rfl (fun z5 M5 e5 => ?_)
      obtain e5 := e5
      refine V_if_lt (q := 103) g dX4_groupSucceeds_100 (tgt := 107) (by decide) rfl (by omega) (fun h100 => ?_) (fun h100 => ?_)
      · have hM : M = M5 := by rcases e5 with ⟨_, _, _⟩ | ⟨_, _, _, _⟩ | ⟨_, _, _, _, _⟩ | ⟨_, _, _, _, _, _⟩ <;> first | assumption | (exfalso; omega)
        subst hM
        refine V_iconst (q := 108) g dX4_groupSucceeds_107 rfl ?_
        exact V_ireturn g r dX4_groupSucceeds_108 rfl (Or.inr ⟨(by unfold okG okCmd; (repeat (first | rw [if_pos (by omega)] | rw [if_neg (by omega)])); first | omega | exact id), by omega, f, hI, hO, Oth.rf⟩)
      · obtain ⟨q5_0, q5_1, q5_2, q5_3, hO5, hT5⟩ := (((e5.resolve_left (by omega)).resolve_left (by omega)).resolve_left (by omega))
        refine V_iconst (q := 104) g dX4_groupSucceeds_103 rfl ?_
        refine V_goto g dX4_groupSucceeds_104 (tgt := 108) (by decide) ?_
        exact V_ireturn g r dX4_groupSucceeds_108 rfl (Or.inl ⟨(by unfold okG okCmd; (repeat (first | rw [if_pos (by omega)] | rw [if_neg (by omega)])); omega), by omega, (by unfold fG fCmd; (repeat (first | rw [if_pos (by omega)] | rw [if_neg (by omega)])); exact hO5), hT5⟩)
    · refine V_tabAt g dX4_groupSucceeds_41 (n := 2) h41 (by decide) (by decide) (by decide) (off := 68) rfl (tgt := 109) (by decide) ?_
      refine V_iload (q := 111) g dX4_groupSucceeds_109 rfl rfl ?_
      refine V_bipush (q := 113) g dX4_groupSucceeds_111 (by decide) rfl ?_
      refine V_icmp_gt (q := 116) g dX4_groupSucceeds_113 (tgt := 131) (by decide) rfl (by omega) (by omega) (fun h113 => ?_) (fun h113 => ?_)
      · refine V_iconst (q := 132) g dX4_groupSucceeds_131 rfl ?_
        exact V_ireturn g r dX4_groupSucceeds_132 rfl (Or.inr ⟨(by unfold okG okCmd; (repeat (first | rw [if_pos (by omega)] | rw [if_neg (by omega)])); first | omega | exact id), by omega, f, hI, hO, Oth.rf⟩)
      · refine V_aload_n (q := 117) g dX4_groupSucceeds_116 rfl rfl ?_
        refine V_iload_n (q := 118) g dX4_groupSucceeds_117 rfl rfl ?_
        refine V_iload_n (q := 119) g dX4_groupSucceeds_118 rfl rfl ?_
        refine V_iload (q := 121) g dX4_groupSucceeds_119 rfl rfl ?_
        refine V_callVI_3 (q := 124) g (c_X1_shimLeg l hL hO hI (by omega) (by omega) (by omega)) dX4_groupSucceeds_121 k_X4_206 hL.1 rfl rfl rfl rfl ⟨rfl, rfl⟩ rfl (fun z6 M6 e6 => ?_)
        obtain e6 := e6
        refine V_if_lt (q := 127) g dX4_groupSucceeds_124 (tgt := 131) (by decide) rfl (by omega) (fun h124 => ?_) (fun h124 => ?_)
        · have hM : M = M6 := by rcases e6 with ⟨_, _, _⟩ | ⟨_, _, _, _⟩ | ⟨_, _, _, _, _⟩ | ⟨_, _, _, _, _, _⟩ <;> first | assumption | (exfalso; omega)
          subst hM
          refine V_iconst (q := 132) g dX4_groupSucceeds_131 rfl ?_
          exact V_ireturn g r dX4_groupSucceeds_132 rfl (Or.inr ⟨(by unfold okG okCmd; (repeat (first | rw [if_pos (by omega)] | rw [if_neg (by omega)])); first | omega | exact id), by omega, f, hI, hO, Oth.rf⟩)
        · obtain ⟨q6_0, q6_1, q6_2, q6_3, hO6, hT6⟩ := (((e6.resolve_left (by omega)).resolve_left (by omega)).resolve_left (by omega))
          refine V_iconst (q := 128) g dX4_groupSucceeds_127 rfl ?_
          refine V_goto g dX4_groupSucceeds_128 (tgt := 132) (by decide) ?_
          exact V_ireturn g r dX4_groupSucceeds_132 rfl (Or.inl ⟨(by unfold okG okCmd; (repeat (first | rw [if_pos (by omega)] | rw [if_neg (by omega)])); omega), by omega, (by unfold fG fCmd; (repeat (first | rw [if_pos (by omega)] | rw [if_neg (by omega)])); exact hO6), hT6⟩)
    · refine V_tabAt g dX4_groupSucceeds_41 (n := 3) h41 (by decide) (by decide) (by decide) (off := 92) rfl (tgt := 133) (by decide) ?_
      refine V_iload (q := 135) g dX4_groupSucceeds_133 rfl rfl ?_
      refine V_bipush (q := 137) g dX4_groupSucceeds_135 (by decide) rfl ?_
      refine V_irem (q := 138) g dX4_groupSucceeds_137 (by omega) (by omega) rfl ?_
      refine V_if_ne (q := 141) g dX4_groupSucceeds_138 (tgt := 159) (by decide) rfl (by omega) (fun h138 => ?_) (fun h138 => ?_)
      · refine V_iconst (q := 160) g dX4_groupSucceeds_159 rfl ?_
        exact V_ireturn g r dX4_groupSucceeds_160 rfl (Or.inr ⟨(by unfold okG okCmd; (repeat (first | rw [if_pos (by omega)] | rw [if_neg (by omega)])); first | omega | exact id), by omega, f, hI, hO, Oth.rf⟩)
      · refine V_aload_n (q := 142) g dX4_groupSucceeds_141 rfl rfl ?_
        refine V_iload_n (q := 143) g dX4_groupSucceeds_142 rfl rfl ?_
        refine V_iload_n (q := 144) g dX4_groupSucceeds_143 rfl rfl ?_
        refine V_iload (q := 146) g dX4_groupSucceeds_144 rfl rfl ?_
        refine V_bipush (q := 148) g dX4_groupSucceeds_146 (by decide) rfl ?_
        refine V_idiv (q := 149) g dX4_groupSucceeds_148 (by omega) (by omega) rfl ?_
        refine V_callVI_3 (q := 152) g (c_X1_moveChair l hL hO hI (by omega) (by omega) (by omega)) dX4_groupSucceeds_149 k_X4_200 hL.1 rfl rfl rfl rfl ⟨rfl, rfl⟩ rfl (fun z7 M7 e7 => ?_)
        obtain e7 := e7
        have hr9 : inR z7 := by
          rcases e7 with ⟨q, _⟩ | ⟨q, _⟩ | ⟨q, qa, qb, qc, _⟩
          · omega
          · omega
          · have := sWob_r hI qa.1 (fl := (x / 1000 % 10)) (q := (x % 1000) / 100) (by omega) qb
            omega
        refine V_if_lt (q := 155) g dX4_groupSucceeds_152 (tgt := 159) (by decide) rfl hr9 (fun h152 => ?_) (fun h152 => ?_)
        · have hM : M = M7 := by rcases e7 with ⟨_, _, _⟩ | ⟨_, _, _, _⟩ | ⟨_, _, _, _, _, _⟩ <;> first | assumption | (exfalso; omega)
          subst hM
          refine V_iconst (q := 160) g dX4_groupSucceeds_159 rfl ?_
          exact V_ireturn g r dX4_groupSucceeds_160 rfl (Or.inr ⟨(by unfold okG okCmd; (repeat (first | rw [if_pos (by omega)] | rw [if_neg (by omega)])); first | omega | exact id), by omega, f, hI, hO, Oth.rf⟩)
        · obtain ⟨q7_0, q7_1, q7_2, q7_3, hO7, hT7⟩ := ((e7.resolve_left (by omega)).resolve_left (by omega))
          refine V_iconst (q := 156) g dX4_groupSucceeds_155 rfl ?_
          refine V_goto g dX4_groupSucceeds_156 (tgt := 160) (by decide) ?_
          exact V_ireturn g r dX4_groupSucceeds_160 rfl (Or.inl ⟨(by unfold okG okCmd; (repeat (first | rw [if_pos (by omega)] | rw [if_neg (by omega)])); omega), by omega, (by unfold fG fCmd; (repeat (first | rw [if_pos (by omega)] | rw [if_neg (by omega)])); exact hO7), hT7⟩)
    · refine V_tabAt g dX4_groupSucceeds_41 (n := 4) h41 (by decide) (by decide) (by decide) (off := 120) rfl (tgt := 161) (by decide) ?_
      refine V_iload (q := 163) g dX4_groupSucceeds_161 rfl rfl ?_
      refine V_if_eq (q := 166) g dX4_groupSucceeds_163 (tgt := 187) (by decide) rfl (by omega) (fun h163 => absurd h163 (by omega)) (fun h163 => ?_)
      refine V_iload (q := 168) g dX4_groupSucceeds_166 rfl rfl ?_
      refine V_bipush (q := 170) g dX4_groupSucceeds_168 (by decide) rfl ?_
      refine V_icmp_gt (q := 173) g dX4_groupSucceeds_170 (tgt := 187) (by decide) rfl (by omega) (by omega) (fun h170 => ?_) (fun h170 => ?_)
      · refine V_iconst (q := 188) g dX4_groupSucceeds_187 rfl ?_
        exact V_ireturn g r dX4_groupSucceeds_188 rfl (Or.inr ⟨(by unfold okG okCmd; (repeat (first | rw [if_pos (by omega)] | rw [if_neg (by omega)])); first | omega | exact id), by omega, f, hI, hO, Oth.rf⟩)
      · refine V_aload_n (q := 174) g dX4_groupSucceeds_173 rfl rfl ?_
        refine V_iload_n (q := 175) g dX4_groupSucceeds_174 rfl rfl ?_
        refine V_callVI_1 (q := 178) g (c_X1_testChair l hL hO hI (by omega)) dX4_groupSucceeds_175 k_X4_209 hL.1 rfl rfl rfl rfl ⟨rfl, rfl⟩ rfl (fun z8 M8 e8 => ?_)
        obtain e8 := e8
        refine V_iload (q := 180) g dX4_groupSucceeds_178 rfl rfl ?_
        have hw9 := sWhy_r f (x / 10000 % 10)
        rcases e8 with ⟨q1, q2, rfl⟩ | ⟨q1, q2, q3, hO9, hT9⟩
        · refine V_icmp_ne (q := 183) g dX4_groupSucceeds_180 (tgt := 187) (by decide) rfl (by omega) (by omega) (fun h180 => ?_) (fun h180 => absurd h180 (by omega))
          refine V_iconst (q := 188) g dX4_groupSucceeds_187 rfl ?_
          exact V_ireturn g r dX4_groupSucceeds_188 rfl (Or.inr ⟨(by unfold okG okCmd; (repeat (first | rw [if_pos (by omega)] | rw [if_neg (by omega)])); first | omega | exact id), by omega, f, hI, hO, Oth.rf⟩)
        · refine V_icmp_ne (q := 183) g dX4_groupSucceeds_180 (tgt := 187) (by decide) rfl (by omega) (by omega) (fun h180 => ?_) (fun h180 => ?_)
          · refine V_iconst (q := 188) g dX4_groupSucceeds_187 rfl ?_
            exact V_ireturn g r dX4_groupSucceeds_188 rfl (Or.inr ⟨(by unfold okG okCmd; (repeat (first | rw [if_pos (by omega)] | rw [if_neg (by omega)])); first | omega | exact id), by omega, fTest f (x / 10000 % 10), (Inv_test hI (by omega)), hO9, hT9⟩)
          · refine V_iconst (q := 184) g dX4_groupSucceeds_183 rfl ?_
            refine V_goto g dX4_groupSucceeds_184 (tgt := 188) (by decide) ?_
            exact V_ireturn g r dX4_groupSucceeds_188 rfl (Or.inl ⟨(by unfold okG okCmd; (repeat (first | rw [if_pos (by omega)] | rw [if_neg (by omega)])); omega), by omega, (by unfold fG fCmd; (repeat (first | rw [if_pos (by omega)] | rw [if_neg (by omega)])); exact hO9), hT9⟩)
    · refine V_tabAt g dX4_groupSucceeds_41 (n := 5) h41 (by decide) (by decide) (by decide) (off := 148) rfl (tgt := 189) (by decide) ?_
      refine V_iload (q := 191) g dX4_groupSucceeds_189 rfl rfl ?_
      refine V_if_eq (q := 194) g dX4_groupSucceeds_191 (tgt := 208) (by decide) rfl (by omega) (fun h191 => absurd h191 (by omega)) (fun h191 => ?_)
      refine V_aload_n (q := 195) g dX4_groupSucceeds_194 rfl rfl ?_
      refine V_iload_n (q := 196) g dX4_groupSucceeds_195 rfl rfl ?_
      refine V_iload (q := 198) g dX4_groupSucceeds_196 rfl rfl ?_
      refine V_callVI_2 (q := 201) g (c_X1_sitDown l hL hO hI (by omega) (by omega)) dX4_groupSucceeds_198 k_X4_212 hL.1 rfl rfl rfl rfl ⟨rfl, rfl⟩ rfl (fun z9 M9 e9 => ?_)
      obtain e9 := e9
      have hr9 : inR z9 := by
        rcases e9 with ⟨q, _⟩ | ⟨q, _⟩ | ⟨q, qa, qb, qc, _⟩
        · omega
        · omega
        · have := (sitN (idle := sIdle f (x / 10000 % 10)) hI qa (w := (x % 1000) / f 11) (Int.ediv_nonneg (by omega) (by have := hI.2.2.2.1; omega)) 4 (by decide)).2.2
          omega
      refine V_if_lt (q := 204) g dX4_groupSucceeds_201 (tgt := 208) (by decide) rfl hr9 (fun h201 => ?_) (fun h201 => ?_)
      · have hM : M = M9 := by rcases e9 with ⟨_, _, _⟩ | ⟨_, _, _, _⟩ | ⟨_, _, _, _, _, _⟩ <;> first | assumption | (exfalso; omega)
        subst hM
        refine V_iconst (q := 209) g dX4_groupSucceeds_208 rfl ?_
        exact V_ireturn g r dX4_groupSucceeds_209 rfl (Or.inr ⟨(by unfold okG okCmd; (repeat (first | rw [if_pos (by omega)] | rw [if_neg (by omega)])); first | omega | exact id), by omega, f, hI, hO, Oth.rf⟩)
      · obtain ⟨q9_0, q9_1, q9_2, q9_3, hO9, hT9⟩ := ((e9.resolve_left (by omega)).resolve_left (by omega))
        refine V_iconst (q := 205) g dX4_groupSucceeds_204 rfl ?_
        refine V_goto g dX4_groupSucceeds_205 (tgt := 209) (by decide) ?_
        exact V_ireturn g r dX4_groupSucceeds_209 rfl (Or.inl ⟨(by unfold okG okCmd; (repeat (first | rw [if_pos (by omega)] | rw [if_neg (by omega)])); omega), by omega, (by unfold fG fCmd; (repeat (first | rw [if_pos (by omega)] | rw [if_neg (by omega)])); exact hO9), hT9⟩)
    · refine V_tabAt g dX4_groupSucceeds_41 (n := 6) h41 (by decide) (by decide) (by decide) (off := 169) rfl (tgt := 210) (by decide) ?_
      refine V_aload_n (q := 211) g dX4_groupSucceeds_210 rfl rfl ?_
      refine V_iload_n (q := 212) g dX4_groupSucceeds_211 rfl rfl ?_
      refine V_iload_n (q := 213) g dX4_groupSucceeds_212 rfl rfl ?_
      refine V_iload (q := 215) g dX4_groupSucceeds_213 rfl rfl ?_
      refine V_callVI_3 (q := 218) g (c_X1_changeBound l hL hO hI (by omega) (by omega) (by omega)) dX4_groupSucceeds_215 k_X4_215 hL.1 rfl rfl rfl rfl ⟨rfl, rfl⟩ rfl (fun z10 M10 e10 => ?_)
      obtain e10 := e10
      have hr9 : inR z10 := by
        rcases e10 with ⟨q, _⟩ | ⟨q, _⟩ | ⟨q, qa, qb, qc, _⟩
        · omega
        · omega
        · have := bnd_v hI qa.1 qa.2 (v := (x % 1000)) (by omega)
          omega
      refine V_if_lt (q := 221) g dX4_groupSucceeds_218 (tgt := 225) (by decide) rfl hr9 (fun h218 => ?_) (fun h218 => ?_)
      · have hM : M = M10 := by rcases e10 with ⟨_, _, _⟩ | ⟨_, _, _, _⟩ | ⟨_, _, _, _, _, _⟩ <;> first | assumption | (exfalso; omega)
        subst hM
        refine V_iconst (q := 226) g dX4_groupSucceeds_225 rfl ?_
        exact V_ireturn g r dX4_groupSucceeds_226 rfl (Or.inr ⟨(by unfold okG okCmd; (repeat (first | rw [if_pos (by omega)] | rw [if_neg (by omega)])); first | omega | exact id), by omega, f, hI, hO, Oth.rf⟩)
      · obtain ⟨q10_0, q10_1, q10_2, q10_3, hO10, hT10⟩ := ((e10.resolve_left (by omega)).resolve_left (by omega))
        refine V_iconst (q := 222) g dX4_groupSucceeds_221 rfl ?_
        refine V_goto g dX4_groupSucceeds_222 (tgt := 226) (by decide) ?_
        exact V_ireturn g r dX4_groupSucceeds_226 rfl (Or.inl ⟨(by unfold okG okCmd; (repeat (first | rw [if_pos (by omega)] | rw [if_neg (by omega)])); omega), by omega, (by unfold fG fCmd; (repeat (first | rw [if_pos (by omega)] | rw [if_neg (by omega)])); exact hO10), hT10⟩)
    · refine V_tabAt g dX4_groupSucceeds_41 (n := 7) h41 (by decide) (by decide) (by decide) (off := 186) rfl (tgt := 227) (by decide) ?_
      refine V_iload (q := 229) g dX4_groupSucceeds_227 rfl rfl ?_
      refine V_if_eq (q := 232) g dX4_groupSucceeds_229 (tgt := 254) (by decide) rfl (by omega) (fun h229 => absurd h229 (by omega)) (fun h229 => ?_)
      refine V_aload_n (q := 233) g dX4_groupSucceeds_232 rfl rfl ?_
      refine V_iload_n (q := 234) g dX4_groupSucceeds_233 rfl rfl ?_
      refine V_callVI_1 (q := 237) g (c_X1_hasChair l hL hO hI (by omega)) dX4_groupSucceeds_234 k_X4_278 hL.1 rfl rfl rfl rfl ⟨rfl, rfl⟩ rfl (fun z11 M11 e11 => ?_)
      obtain ⟨e11, rfl⟩ := e11
      refine V_if_eq (q := 240) g dX4_groupSucceeds_237 (tgt := 254) (by decide) rfl (by omega) (fun h237 => ?_) (fun h237 => ?_)
      · refine V_iconst (q := 255) g dX4_groupSucceeds_254 rfl ?_
        exact V_ireturn g r dX4_groupSucceeds_255 rfl (Or.inr ⟨(by unfold okG okCmd; (repeat (first | rw [if_pos (by omega)] | rw [if_neg (by omega)])); first | omega | exact id), by omega, f, hI, hO, Oth.rf⟩)
      · refine V_aload_n (q := 241) g dX4_groupSucceeds_240 rfl rfl ?_
        refine V_iload_n (q := 242) g dX4_groupSucceeds_241 rfl rfl ?_
        refine V_callVI_1 (q := 245) g (c_X1_wobbleNow l hL hO hI (by omega)) dX4_groupSucceeds_242 k_X4_150 hL.1 rfl rfl rfl rfl ⟨rfl, rfl⟩ rfl (fun z12 M12 e12 => ?_)
        obtain ⟨⟨e12, b12⟩, rfl⟩ := e12
        refine V_iload (q := 247) g dX4_groupSucceeds_245 rfl rfl ?_
        refine V_icmp_gt (q := 250) g dX4_groupSucceeds_247 (tgt := 254) (by decide) rfl (by omega) (by omega) (fun h247 => ?_) (fun h247 => ?_)
        · refine V_iconst (q := 255) g dX4_groupSucceeds_254 rfl ?_
          exact V_ireturn g r dX4_groupSucceeds_255 rfl (Or.inr ⟨(by unfold okG okCmd; (repeat (first | rw [if_pos (by omega)] | rw [if_neg (by omega)])); first | omega | exact id), by omega, f, hI, hO, Oth.rf⟩)
        · refine V_iconst (q := 251) g dX4_groupSucceeds_250 rfl ?_
          refine V_goto g dX4_groupSucceeds_251 (tgt := 255) (by decide) ?_
          exact V_ireturn g r dX4_groupSucceeds_255 rfl (Or.inl ⟨(by unfold okG okCmd; (repeat (first | rw [if_pos (by omega)] | rw [if_neg (by omega)])); omega), by omega, (by unfold fG fCmd; (repeat (first | rw [if_pos (by omega)] | rw [if_neg (by omega)])); exact hO), Oth.rf⟩)
    · refine V_tabAt g dX4_groupSucceeds_41 (n := 8) h41 (by decide) (by decide) (by decide) (off := 215) rfl (tgt := 256) (by decide) ?_
      refine V_iload (q := 258) g dX4_groupSucceeds_256 rfl rfl ?_
      refine V_if_eq (q := 261) g dX4_groupSucceeds_258 (tgt := 286) (by decide) rfl (by omega) (fun h258 => absurd h258 (by omega)) (fun h258 => ?_)
      refine V_aload_n (q := 262) g dX4_groupSucceeds_261 rfl rfl ?_
      refine V_iload_n (q := 263) g dX4_groupSucceeds_262 rfl rfl ?_
      refine V_callVI_1 (q := 266) g (c_X1_hasChair l hL hO hI (by omega)) dX4_groupSucceeds_263 k_X4_278 hL.1 rfl rfl rfl rfl ⟨rfl, rfl⟩ rfl (fun z13 M13 e13 => ?_)
      obtain ⟨e13, rfl⟩ := e13
      refine V_if_eq (q := 269) g dX4_groupSucceeds_266 (tgt := 286) (by decide) rfl (by omega) (fun h266 => ?_) (fun h266 => ?_)
      · refine V_iconst (q := 287) g dX4_groupSucceeds_286 rfl ?_
        exact V_ireturn g r dX4_groupSucceeds_287 rfl (Or.inr ⟨(by unfold okG okCmd; (repeat (first | rw [if_pos (by omega)] | rw [if_neg (by omega)])); first | omega | exact id), by omega, f, hI, hO, Oth.rf⟩)
      · refine V_aload_n (q := 270) g dX4_groupSucceeds_269 rfl rfl ?_
        refine V_getRN (q := 273) g dX4_groupSucceeds_270 rfl f_X4_137 rfl hL.1 rfl ?_
        refine V_iload_n (q := 274) g dX4_groupSucceeds_273 rfl rfl ?_
        refine V_callSI_2 (q := 277) g (a_stamps l hL hO hI (by omega)) dX4_groupSucceeds_274 k_X4_111 rfl rfl ⟨rfl, rfl⟩ rfl (fun z14 M14 e14 => ?_)
        obtain ⟨⟨e14, b14⟩, rfl⟩ := e14
        refine V_iload (q := 279) g dX4_groupSucceeds_277 rfl rfl ?_
        refine V_icmp_ne (q := 282) g dX4_groupSucceeds_279 (tgt := 286) (by decide) rfl (by omega) (by omega) (fun h279 => ?_) (fun h279 => ?_)
        · refine V_iconst (q := 287) g dX4_groupSucceeds_286 rfl ?_
          exact V_ireturn g r dX4_groupSucceeds_287 rfl (Or.inr ⟨(by unfold okG okCmd; (repeat (first | rw [if_pos (by omega)] | rw [if_neg (by omega)])); first | omega | exact id), by omega, f, hI, hO, Oth.rf⟩)
        · refine V_iconst (q := 283) g dX4_groupSucceeds_282 rfl ?_
          refine V_goto g dX4_groupSucceeds_283 (tgt := 287) (by decide) ?_
          exact V_ireturn g r dX4_groupSucceeds_287 rfl (Or.inl ⟨(by unfold okG okCmd; (repeat (first | rw [if_pos (by omega)] | rw [if_neg (by omega)])); omega), by omega, (by unfold fG fCmd; (repeat (first | rw [if_pos (by omega)] | rw [if_neg (by omega)])); exact hO), Oth.rf⟩)
    · refine V_tabAt g dX4_groupSucceeds_41 (n := 9) h41 (by decide) (by decide) (by decide) (off := 247) rfl (tgt := 288) (by decide) ?_
      refine V_iload (q := 290) g dX4_groupSucceeds_288 rfl rfl ?_
      refine V_if_eq (q := 293) g dX4_groupSucceeds_290 (tgt := 315) (by decide) rfl (by omega) (fun h290 => absurd h290 (by omega)) (fun h290 => ?_)
      refine V_aload_n (q := 294) g dX4_groupSucceeds_293 rfl rfl ?_
      refine V_iload_n (q := 295) g dX4_groupSucceeds_294 rfl rfl ?_
      refine V_callVI_1 (q := 298) g (c_X1_hasChair l hL hO hI (by omega)) dX4_groupSucceeds_295 k_X4_278 hL.1 rfl rfl rfl rfl ⟨rfl, rfl⟩ rfl (fun z15 M15 e15 => ?_)
      obtain ⟨e15, rfl⟩ := e15
      refine V_if_eq (q := 301) g dX4_groupSucceeds_298 (tgt := 315) (by decide) rfl (by omega) (fun h298 => ?_) (fun h298 => ?_)
      · refine V_iconst (q := 316) g dX4_groupSucceeds_315 rfl ?_
        exact V_ireturn g r dX4_groupSucceeds_316 rfl (Or.inr ⟨(by unfold okG okCmd; (repeat (first | rw [if_pos (by omega)] | rw [if_neg (by omega)])); first | omega | exact id), by omega, f, hI, hO, Oth.rf⟩)
      · refine V_aload_n (q := 302) g dX4_groupSucceeds_301 rfl rfl ?_
        refine V_iload_n (q := 303) g dX4_groupSucceeds_302 rfl rfl ?_
        refine V_callVI_1 (q := 306) g (c_X1_leanNow l hL hO hI (by omega)) dX4_groupSucceeds_303 k_X4_128 hL.1 rfl rfl rfl rfl ⟨rfl, rfl⟩ rfl (fun z16 M16 e16 => ?_)
        obtain ⟨⟨e16, b16⟩, rfl⟩ := e16
        refine V_iload (q := 308) g dX4_groupSucceeds_306 rfl rfl ?_
        refine V_icmp_gt (q := 311) g dX4_groupSucceeds_308 (tgt := 315) (by decide) rfl (by omega) (by omega) (fun h308 => ?_) (fun h308 => ?_)
        · refine V_iconst (q := 316) g dX4_groupSucceeds_315 rfl ?_
          exact V_ireturn g r dX4_groupSucceeds_316 rfl (Or.inr ⟨(by unfold okG okCmd; (repeat (first | rw [if_pos (by omega)] | rw [if_neg (by omega)])); first | omega | exact id), by omega, f, hI, hO, Oth.rf⟩)
        · refine V_iconst (q := 312) g dX4_groupSucceeds_311 rfl ?_
          refine V_goto g dX4_groupSucceeds_312 (tgt := 316) (by decide) ?_
          exact V_ireturn g r dX4_groupSucceeds_316 rfl (Or.inl ⟨(by unfold okG okCmd; (repeat (first | rw [if_pos (by omega)] | rw [if_neg (by omega)])); omega), by omega, (by unfold fG fCmd; (repeat (first | rw [if_pos (by omega)] | rw [if_neg (by omega)])); exact hO), Oth.rf⟩)
    · refine V_tabOut g dX4_groupSucceeds_41 (by omega) h41 (tgt := 317) (by decide) ?_
      refine V_iconst (q := 318) g dX4_groupSucceeds_317 rfl ?_
      exact V_ireturn g r dX4_groupSucceeds_318 rfl (Or.inr ⟨(by unfold okG okCmd; (repeat (first | rw [if_pos (by omega)] | rw [if_neg (by omega)])); first | omega | exact id), by omega, f, hI, hO, Oth.rf⟩)
abbrev rm_X4_takeTurn : Room := { frames := 5, cells := 0, slots := 0, locals := 122 }
set_option maxHeartbeats 4000000 in
set_option maxRecDepth 100000 in
theorem c_X4_takeTurn (l : Launch) {D : DD} {Λ : LY} {M : MM} {o : Nat} {f : Int → Int} {x : Int} (hL : OffL D Λ o) (hO : Off M o f) (hI : Inv f) (hx : 0 ≤ x ∧ x < 2147483648) : CV l yX4_takeTurn cX4_takeTurn 3 rm_X4_takeTurn [.ref o, vi x] D Λ M (fun M1 => Off M1 o (fTurn f (x % 16) (x / 16)) ∧ Oth M M1 o) := by
  refine CV_of rfl rfl (Nat.le_of_ble_eq_true rfl) (fun Γ g r => ?_)
  have h0 := hI.1
  have h1 := hI.2.1
  refine V_iload_n (q := 1) g dX4_takeTurn_0 rfl rfl ?_
  refine V_bipush (q := 3) g dX4_takeTurn_1 (by decide) rfl ?_
  refine V_idiv (q := 4) g dX4_takeTurn_3 (by omega) (by omega) rfl ?_
  refine V_istore_n_2 (q := 5) g dX4_takeTurn_4 (by decide) rfl rfl ?_
  refine V_iload_n (q := 6) g dX4_takeTurn_5 rfl rfl ?_
  refine V_bipush (q := 8) g dX4_takeTurn_6 (by decide) rfl ?_
  refine V_irem (q := 9) g dX4_takeTurn_8 (by omega) (by omega) rfl ?_
  rcases (by omega : (x % 16) = 0 ∨ (x % 16) = 1 ∨ (x % 16) = 2 ∨ (x % 16) = 3 ∨ (x % 16) = 4 ∨ (x % 16) = 5 ∨ (x % 16) = 6 ∨ (x % 16) = 7 ∨ (x % 16) = 8 ∨ (x % 16) = 9 ∨ (x % 16) = 10 ∨ (x % 16) = 11 ∨ ((x % 16) < 0 ∨ 11 < (x % 16))) with h9 | h9 | h9 | h9 | h9 | h9 | h9 | h9 | h9 | h9 | h9 | h9 | h9
  · refine V_tabAt g dX4_takeTurn_9 (n := 0) h9 (by decide) (by decide) (by decide) (off := 63) rfl (tgt := 72) (by decide) ?_
    refine V_aload_n (q := 73) g dX4_takeTurn_72 rfl rfl ?_
    refine V_iload_n (q := 74) g dX4_takeTurn_73 rfl rfl ?_
    refine V_iconst (q := 75) g dX4_takeTurn_74 rfl ?_
    refine V_irem (q := 76) g dX4_takeTurn_75 (by omega) (by omega) rfl ?_
    refine V_sipush (q := 79) g dX4_takeTurn_76 (by decide) rfl ?_
    refine V_iload_n (q := 80) g dX4_takeTurn_79 rfl rfl ?_
    refine V_iconst (q := 81) g dX4_takeTurn_80 rfl ?_
    refine V_idiv (q := 82) g dX4_takeTurn_81 (by omega) (by omega) rfl ?_
    refine V_bipush (q := 84) g dX4_takeTurn_82 (by decide) rfl ?_
    refine V_irem (q := 85) g dX4_takeTurn_84 (by omega) (by omega) rfl ?_
    refine V_iadd (q := 86) g dX4_takeTurn_85 rfl ?_
    refine V_callVI_2 (q := 89) g (c_X1_addChair l hL hO hI (by omega) (by omega)) dX4_takeTurn_86 k_X4_186 hL.1 rfl rfl rfl rfl ⟨rfl, rfl⟩ rfl (fun z1 M1 e1 => ?_)
    obtain e1 := e1
    refine V_pop (q := 90) g dX4_takeTurn_89 rfl rfl ?_
    refine V_goto g dX4_takeTurn_90 (tgt := 284) (by decide) ?_
    have hgoal : Off M1 o (fTurn f (x % 16) (x / 16)) ∧ Oth M M1 o := by
      rcases e1 with ⟨q0, q1, rfl⟩ | ⟨q0, q1, q2, rfl⟩ | ⟨q0, q1, q2, q3, rfl⟩ | ⟨q0, q1, q2, q3, hO9, hT9⟩
      all_goals first
        | (exfalso; omega)
        | exact ⟨by unfold fTurn; (repeat (first | rw [if_pos (by omega)] | rw [if_neg (by omega)])); exact hO9, hT9⟩
        | exact ⟨by unfold fTurn; (repeat (first | rw [if_pos (by omega)] | rw [if_neg (by omega)])); exact hO, Oth.rf⟩
    exact V_return g r dX4_takeTurn_284 hgoal
  · refine V_tabAt g dX4_takeTurn_9 (n := 1) h9 (by decide) (by decide) (by decide) (off := 63) rfl (tgt := 72) (by decide) ?_
    refine V_aload_n (q := 73) g dX4_takeTurn_72 rfl rfl ?_
    refine V_iload_n (q := 74) g dX4_takeTurn_73 rfl rfl ?_
    refine V_iconst (q := 75) g dX4_takeTurn_74 rfl ?_
    refine V_irem (q := 76) g dX4_takeTurn_75 (by omega) (by omega) rfl ?_
    refine V_sipush (q := 79) g dX4_takeTurn_76 (by decide) rfl ?_
    refine V_iload_n (q := 80) g dX4_takeTurn_79 rfl rfl ?_
    refine V_iconst (q := 81) g dX4_takeTurn_80 rfl ?_
    refine V_idiv (q := 82) g dX4_takeTurn_81 (by omega) (by omega) rfl ?_
    refine V_bipush (q := 84) g dX4_takeTurn_82 (by decide) rfl ?_
    refine V_irem (q := 85) g dX4_takeTurn_84 (by omega) (by omega) rfl ?_
    refine V_iadd (q := 86) g dX4_takeTurn_85 rfl ?_
    refine V_callVI_2 (q := 89) g (c_X1_addChair l hL hO hI (by omega) (by omega)) dX4_takeTurn_86 k_X4_186 hL.1 rfl rfl rfl rfl ⟨rfl, rfl⟩ rfl (fun z2 M2 e2 => ?_)
    obtain e2 := e2
    refine V_pop (q := 90) g dX4_takeTurn_89 rfl rfl ?_
    refine V_goto g dX4_takeTurn_90 (tgt := 284) (by decide) ?_
    have hgoal : Off M2 o (fTurn f (x % 16) (x / 16)) ∧ Oth M M2 o := by
      rcases e2 with ⟨q0, q1, rfl⟩ | ⟨q0, q1, q2, rfl⟩ | ⟨q0, q1, q2, q3, rfl⟩ | ⟨q0, q1, q2, q3, hO9, hT9⟩
      all_goals first
        | (exfalso; omega)
        | exact ⟨by unfold fTurn; (repeat (first | rw [if_pos (by omega)] | rw [if_neg (by omega)])); exact hO9, hT9⟩
        | exact ⟨by unfold fTurn; (repeat (first | rw [if_pos (by omega)] | rw [if_neg (by omega)])); exact hO, Oth.rf⟩
    exact V_return g r dX4_takeTurn_284 hgoal
  · refine V_tabAt g dX4_takeTurn_9 (n := 2) h9 (by decide) (by decide) (by decide) (off := 84) rfl (tgt := 93) (by decide) ?_
    refine V_aload_n (q := 94) g dX4_takeTurn_93 rfl rfl ?_
    refine V_iload_n (q := 95) g dX4_takeTurn_94 rfl rfl ?_
    refine V_bipush (q := 97) g dX4_takeTurn_95 (by decide) rfl ?_
    refine V_irem (q := 98) g dX4_takeTurn_97 (by omega) (by omega) rfl ?_
    refine V_iload_n (q := 99) g dX4_takeTurn_98 rfl rfl ?_
    refine V_bipush (q := 101) g dX4_takeTurn_99 (by decide) rfl ?_
    refine V_idiv (q := 102) g dX4_takeTurn_101 (by omega) (by omega) rfl ?_
    refine V_bipush (q := 104) g dX4_takeTurn_102 (by decide) rfl ?_
    refine V_irem (q := 105) g dX4_takeTurn_104 (by omega) (by omega) rfl ?_
    refine V_iload_n (q := 106) g dX4_takeTurn_105 rfl rfl ?_
    refine V_bipush (q := 108) g dX4_takeTurn_106 (by decide) rfl ?_
    refine V_idiv (q := 109) g dX4_takeTurn_108 (by omega) (by omega) rfl ?_
    refine V_bipush (q := 111) g dX4_takeTurn_109 (by decide) rfl ?_
    refine V_irem (q := 112) g dX4_takeTurn_111 (by omega) (by omega) rfl ?_
    refine V_iload_n (q := 113) g dX4_takeTurn_112 rfl rfl ?_
    refine V_sipush (q := 116) g dX4_takeTurn_113 (by decide) rfl ?_
    refine V_idiv (q := 117) g dX4_takeTurn_116 (by omega) (by omega) rfl ?_
    refine V_bipush (q := 119) g dX4_takeTurn_117 (by decide) rfl ?_
    refine V_irem (q := 120) g dX4_takeTurn_119 (by omega) (by omega) rfl ?_
    refine V_callVI_4 (q := 123) g (c_X1_layFloor l hL hO hI (by omega) (by omega) (by omega) (by omega)) dX4_takeTurn_120 k_X4_192 hL.1 rfl rfl rfl rfl ⟨rfl, rfl⟩ rfl (fun z3 M3 e3 => ?_)
    obtain e3 := e3
    refine V_pop (q := 124) g dX4_takeTurn_123 rfl rfl ?_
    refine V_goto g dX4_takeTurn_124 (tgt := 284) (by decide) ?_
    have hgoal : Off M3 o (fTurn f (x % 16) (x / 16)) ∧ Oth M M3 o := by
      rcases e3 with ⟨q0, q1, rfl⟩ | ⟨q0, q1, q2, rfl⟩ | ⟨q0, q1, q2, hO9, hT9⟩
      all_goals first
        | (exfalso; omega)
        | exact ⟨by unfold fTurn; (repeat (first | rw [if_pos (by omega)] | rw [if_neg (by omega)])); exact hO9, hT9⟩
        | exact ⟨by unfold fTurn; (repeat (first | rw [if_pos (by omega)] | rw [if_neg (by omega)])); exact hO, Oth.rf⟩
    exact V_return g r dX4_takeTurn_284 hgoal
  · refine V_tabAt g dX4_takeTurn_9 (n := 3) h9 (by decide) (by decide) (by decide) (off := 118) rfl (tgt := 127) (by decide) ?_
    refine V_aload_n (q := 128) g dX4_takeTurn_127 rfl rfl ?_
    refine V_iload_n (q := 129) g dX4_takeTurn_128 rfl rfl ?_
    refine V_iconst (q := 130) g dX4_takeTurn_129 rfl ?_
    refine V_irem (q := 131) g dX4_takeTurn_130 (by omega) (by omega) rfl ?_
    refine V_iload_n (q := 132) g dX4_takeTurn_131 rfl rfl ?_
    refine V_iconst (q := 133) g dX4_takeTurn_132 rfl ?_
    refine V_idiv (q := 134) g dX4_takeTurn_133 (by omega) (by omega) rfl ?_
    refine V_iconst (q := 135) g dX4_takeTurn_134 rfl ?_
    refine V_irem (q := 136) g dX4_takeTurn_135 (by omega) (by omega) rfl ?_
    refine V_iload_n (q := 137) g dX4_takeTurn_136 rfl rfl ?_
    refine V_bipush (q := 139) g dX4_takeTurn_137 (by decide) rfl ?_
    refine V_idiv (q := 140) g dX4_takeTurn_139 (by omega) (by omega) rfl ?_
    refine V_bipush (q := 142) g dX4_takeTurn_140 (by decide) rfl ?_
    refine V_irem (q := 143) g dX4_takeTurn_142 (by omega) (by omega) rfl ?_
    refine V_callVI_3 (q := 146) g (c_X1_changeSpot l hL hO hI (by omega) (by omega) (by omega)) dX4_takeTurn_143 k_X4_196 hL.1 rfl rfl rfl rfl ⟨rfl, rfl⟩ rfl (fun z4 M4 e4 => ?_)
    obtain e4 := e4
    refine V_pop (q := 147) g dX4_takeTurn_146 rfl rfl ?_
    refine V_goto g dX4_takeTurn_147 (tgt := 284) (by decide) ?_
    have hgoal : Off M4 o (fTurn f (x % 16) (x / 16)) ∧ Oth M M4 o := by
      rcases e4 with ⟨q0, q1, rfl⟩ | ⟨q0, q1, q2, rfl⟩ | ⟨q0, q1, q2, q3, hO9, hT9⟩
      all_goals first
        | (exfalso; omega)
        | exact ⟨by unfold fTurn; (repeat (first | rw [if_pos (by omega)] | rw [if_neg (by omega)])); exact hO9, hT9⟩
        | exact ⟨by unfold fTurn; (repeat (first | rw [if_pos (by omega)] | rw [if_neg (by omega)])); exact hO, Oth.rf⟩
    exact V_return g r dX4_takeTurn_284 hgoal
  · refine V_tabAt g dX4_takeTurn_9 (n := 4) h9 (by decide) (by decide) (by decide) (off := 141) rfl (tgt := 150) (by decide) ?_
    refine V_aload_n (q := 151) g dX4_takeTurn_150 rfl rfl ?_
    refine V_iload_n (q := 152) g dX4_takeTurn_151 rfl rfl ?_
    refine V_bipush (q := 154) g dX4_takeTurn_152 (by decide) rfl ?_
    refine V_irem (q := 155) g dX4_takeTurn_154 (by omega) (by omega) rfl ?_
    refine V_iload_n (q := 156) g dX4_takeTurn_155 rfl rfl ?_
    refine V_bipush (q := 158) g dX4_takeTurn_156 (by decide) rfl ?_
    refine V_idiv (q := 159) g dX4_takeTurn_158 (by omega) (by omega) rfl ?_
    refine V_iconst (q := 160) g dX4_takeTurn_159 rfl ?_
    refine V_irem (q := 161) g dX4_takeTurn_160 (by omega) (by omega) rfl ?_
    refine V_iconst (q := 162) g dX4_takeTurn_161 rfl ?_
    refine V_iload_n (q := 163) g dX4_takeTurn_162 rfl rfl ?_
    refine V_bipush (q := 165) g dX4_takeTurn_163 (by decide) rfl ?_
    refine V_idiv (q := 166) g dX4_takeTurn_165 (by omega) (by omega) rfl ?_
    refine V_bipush (q := 168) g dX4_takeTurn_166 (by decide) rfl ?_
    refine V_irem (q := 169) g dX4_takeTurn_168 (by omega) (by omega) rfl ?_
    refine V_iadd (q := 170) g dX4_takeTurn_169 rfl ?_
    refine V_callVI_3 (q := 173) g (c_X1_sawLeg l hL hO hI (by omega) (by omega) (by omega)) dX4_takeTurn_170 k_X4_203 hL.1 rfl rfl rfl rfl ⟨rfl, rfl⟩ rfl (fun z5 M5 e5 => ?_)
    obtain e5 := e5
    refine V_pop (q := 174) g dX4_takeTurn_173 rfl rfl ?_
    refine V_goto g dX4_takeTurn_174 (tgt := 284) (by decide) ?_
    have hgoal : Off M5 o (fTurn f (x % 16) (x / 16)) ∧ Oth M M5 o := by
      rcases e5 with ⟨q0, q1, rfl⟩ | ⟨q0, q1, q2, rfl⟩ | ⟨q0, q1, q2, q3, rfl⟩ | ⟨q0, q1, q2, q3, hO9, hT9⟩
      all_goals first
        | (exfalso; omega)
        | exact ⟨by unfold fTurn; (repeat (first | rw [if_pos (by omega)] | rw [if_neg (by omega)])); exact hO9, hT9⟩
        | exact ⟨by unfold fTurn; (repeat (first | rw [if_pos (by omega)] | rw [if_neg (by omega)])); exact hO, Oth.rf⟩
    exact V_return g r dX4_takeTurn_284 hgoal
  · refine V_tabAt g dX4_takeTurn_9 (n := 5) h9 (by decide) (by decide) (by decide) (off := 141) rfl (tgt := 150) (by decide) ?_
    refine V_aload_n (q := 151) g dX4_takeTurn_150 rfl rfl ?_
    refine V_iload_n (q := 152) g dX4_takeTurn_151 rfl rfl ?_
    refine V_bipush (q := 154) g dX4_takeTurn_152 (by decide) rfl ?_
    refine V_irem (q := 155) g dX4_takeTurn_154 (by omega) (by omega) rfl ?_
    refine V_iload_n (q := 156) g dX4_takeTurn_155 rfl rfl ?_
    refine V_bipush (q := 158) g dX4_takeTurn_156 (by decide) rfl ?_
    refine V_idiv (q := 159) g dX4_takeTurn_158 (by omega) (by omega) rfl ?_
    refine V_iconst (q := 160) g dX4_takeTurn_159 rfl ?_
    refine V_irem (q := 161) g dX4_takeTurn_160 (by omega) (by omega) rfl ?_
    refine V_iconst (q := 162) g dX4_takeTurn_161 rfl ?_
    refine V_iload_n (q := 163) g dX4_takeTurn_162 rfl rfl ?_
    refine V_bipush (q := 165) g dX4_takeTurn_163 (by decide) rfl ?_
    refine V_idiv (q := 166) g dX4_takeTurn_165 (by omega) (by omega) rfl ?_
    refine V_bipush (q := 168) g dX4_takeTurn_166 (by decide) rfl ?_
    refine V_irem (q := 169) g dX4_takeTurn_168 (by omega) (by omega) rfl ?_
    refine V_iadd (q := 170) g dX4_takeTurn_169 rfl ?_
    refine V_callVI_3 (q := 173) g (c_X1_sawLeg l hL hO hI (by omega) (by omega) (by omega)) dX4_takeTurn_170 k_X4_203 hL.1 rfl rfl rfl rfl ⟨rfl, rfl⟩ rfl (fun z6 M6 e6 => ?_)
    obtain e6 := e6
    refine V_pop (q := 174) g dX4_takeTurn_173 rfl rfl ?_
    refine V_goto g dX4_takeTurn_174 (tgt := 284) (by decide) ?_
    have hgoal : Off M6 o (fTurn f (x % 16) (x / 16)) ∧ Oth M M6 o := by
      rcases e6 with ⟨q0, q1, rfl⟩ | ⟨q0, q1, q2, rfl⟩ | ⟨q0, q1, q2, q3, rfl⟩ | ⟨q0, q1, q2, q3, hO9, hT9⟩
      all_goals first
        | (exfalso; omega)
        | exact ⟨by unfold fTurn; (repeat (first | rw [if_pos (by omega)] | rw [if_neg (by omega)])); exact hO9, hT9⟩
        | exact ⟨by unfold fTurn; (repeat (first | rw [if_pos (by omega)] | rw [if_neg (by omega)])); exact hO, Oth.rf⟩
    exact V_return g r dX4_takeTurn_284 hgoal
  · refine V_tabAt g dX4_takeTurn_9 (n := 6) h9 (by decide) (by decide) (by decide) (off := 168) rfl (tgt := 177) (by decide) ?_
    refine V_aload_n (q := 178) g dX4_takeTurn_177 rfl rfl ?_
    refine V_iload_n (q := 179) g dX4_takeTurn_178 rfl rfl ?_
    refine V_bipush (q := 181) g dX4_takeTurn_179 (by decide) rfl ?_
    refine V_irem (q := 182) g dX4_takeTurn_181 (by omega) (by omega) rfl ?_
    refine V_iload_n (q := 183) g dX4_takeTurn_182 rfl rfl ?_
    refine V_bipush (q := 185) g dX4_takeTurn_183 (by decide) rfl ?_
    refine V_idiv (q := 186) g dX4_takeTurn_185 (by omega) (by omega) rfl ?_
    refine V_iconst (q := 187) g dX4_takeTurn_186 rfl ?_
    refine V_irem (q := 188) g dX4_takeTurn_187 (by omega) (by omega) rfl ?_
    refine V_iconst (q := 189) g dX4_takeTurn_188 rfl ?_
    refine V_iload_n (q := 190) g dX4_takeTurn_189 rfl rfl ?_
    refine V_bipush (q := 192) g dX4_takeTurn_190 (by decide) rfl ?_
    refine V_idiv (q := 193) g dX4_takeTurn_192 (by omega) (by omega) rfl ?_
    refine V_bipush (q := 195) g dX4_takeTurn_193 (by decide) rfl ?_
    refine V_irem (q := 196) g dX4_takeTurn_195 (by omega) (by omega) rfl ?_
    refine V_iadd (q := 197) g dX4_takeTurn_196 rfl ?_
    refine V_callVI_3 (q := 200) g (c_X1_shimLeg l hL hO hI (by omega) (by omega) (by omega)) dX4_takeTurn_197 k_X4_206 hL.1 rfl rfl rfl rfl ⟨rfl, rfl⟩ rfl (fun z7 M7 e7 => ?_)
    obtain e7 := e7
    refine V_pop (q := 201) g dX4_takeTurn_200 rfl rfl ?_
    refine V_goto g dX4_takeTurn_201 (tgt := 284) (by decide) ?_
    have hgoal : Off M7 o (fTurn f (x % 16) (x / 16)) ∧ Oth M M7 o := by
      rcases e7 with ⟨q0, q1, rfl⟩ | ⟨q0, q1, q2, rfl⟩ | ⟨q0, q1, q2, q3, rfl⟩ | ⟨q0, q1, q2, q3, hO9, hT9⟩
      all_goals first
        | (exfalso; omega)
        | exact ⟨by unfold fTurn; (repeat (first | rw [if_pos (by omega)] | rw [if_neg (by omega)])); exact hO9, hT9⟩
        | exact ⟨by unfold fTurn; (repeat (first | rw [if_pos (by omega)] | rw [if_neg (by omega)])); exact hO, Oth.rf⟩
    exact V_return g r dX4_takeTurn_284 hgoal
  · refine V_tabAt g dX4_takeTurn_9 (n := 7) h9 (by decide) (by decide) (by decide) (off := 195) rfl (tgt := 204) (by decide) ?_
    refine V_aload_n (q := 205) g dX4_takeTurn_204 rfl rfl ?_
    refine V_iload_n (q := 206) g dX4_takeTurn_205 rfl rfl ?_
    refine V_bipush (q := 208) g dX4_takeTurn_206 (by decide) rfl ?_
    refine V_irem (q := 209) g dX4_takeTurn_208 (by omega) (by omega) rfl ?_
    refine V_iload_n (q := 210) g dX4_takeTurn_209 rfl rfl ?_
    refine V_bipush (q := 212) g dX4_takeTurn_210 (by decide) rfl ?_
    refine V_idiv (q := 213) g dX4_takeTurn_212 (by omega) (by omega) rfl ?_
    refine V_iconst (q := 214) g dX4_takeTurn_213 rfl ?_
    refine V_irem (q := 215) g dX4_takeTurn_214 (by omega) (by omega) rfl ?_
    refine V_iload_n (q := 216) g dX4_takeTurn_215 rfl rfl ?_
    refine V_bipush (q := 218) g dX4_takeTurn_216 (by decide) rfl ?_
    refine V_idiv (q := 219) g dX4_takeTurn_218 (by omega) (by omega) rfl ?_
    refine V_iconst (q := 220) g dX4_takeTurn_219 rfl ?_
    refine V_irem (q := 221) g dX4_takeTurn_220 (by omega) (by omega) rfl ?_
    refine V_callVI_3 (q := 224) g (c_X1_moveChair l hL hO hI (by omega) (by omega) (by omega)) dX4_takeTurn_221 k_X4_200 hL.1 rfl rfl rfl rfl ⟨rfl, rfl⟩ rfl (fun z8 M8 e8 => ?_)
    obtain e8 := e8
    refine V_pop (q := 225) g dX4_takeTurn_224 rfl rfl ?_
    refine V_goto g dX4_takeTurn_225 (tgt := 284) (by decide) ?_
    have hgoal : Off M8 o (fTurn f (x % 16) (x / 16)) ∧ Oth M M8 o := by
      rcases e8 with ⟨q0, q1, rfl⟩ | ⟨q0, q1, q2, rfl⟩ | ⟨q0, q1, q2, q3, hO9, hT9⟩
      all_goals first
        | (exfalso; omega)
        | exact ⟨by unfold fTurn; (repeat (first | rw [if_pos (by omega)] | rw [if_neg (by omega)])); exact hO9, hT9⟩
        | exact ⟨by unfold fTurn; (repeat (first | rw [if_pos (by omega)] | rw [if_neg (by omega)])); exact hO, Oth.rf⟩
    exact V_return g r dX4_takeTurn_284 hgoal
  · refine V_tabAt g dX4_takeTurn_9 (n := 8) h9 (by decide) (by decide) (by decide) (off := 219) rfl (tgt := 228) (by decide) ?_
    refine V_aload_n (q := 229) g dX4_takeTurn_228 rfl rfl ?_
    refine V_iload_n (q := 230) g dX4_takeTurn_229 rfl rfl ?_
    refine V_bipush (q := 232) g dX4_takeTurn_230 (by decide) rfl ?_
    refine V_irem (q := 233) g dX4_takeTurn_232 (by omega) (by omega) rfl ?_
    refine V_callVI_1 (q := 236) g (c_X1_testChair l hL hO hI (by omega)) dX4_takeTurn_233 k_X4_209 hL.1 rfl rfl rfl rfl ⟨rfl, rfl⟩ rfl (fun z9 M9 e9 => ?_)
    obtain e9 := e9
    refine V_pop (q := 237) g dX4_takeTurn_236 rfl rfl ?_
    refine V_goto g dX4_takeTurn_237 (tgt := 284) (by decide) ?_
    have hgoal : Off M9 o (fTurn f (x % 16) (x / 16)) ∧ Oth M M9 o := by
      rcases e9 with ⟨q0, q1, rfl⟩ | ⟨q0, q1, q2, hO9, hT9⟩
      all_goals first
        | (exfalso; omega)
        | exact ⟨by unfold fTurn; (repeat (first | rw [if_pos (by omega)] | rw [if_neg (by omega)])); exact hO9, hT9⟩
        | exact ⟨by unfold fTurn; (repeat (first | rw [if_pos (by omega)] | rw [if_neg (by omega)])); exact hO, Oth.rf⟩
    exact V_return g r dX4_takeTurn_284 hgoal
  · refine V_tabAt g dX4_takeTurn_9 (n := 9) h9 (by decide) (by decide) (by decide) (off := 219) rfl (tgt := 228) (by decide) ?_
    refine V_aload_n (q := 229) g dX4_takeTurn_228 rfl rfl ?_
    refine V_iload_n (q := 230) g dX4_takeTurn_229 rfl rfl ?_
    refine V_bipush (q := 232) g dX4_takeTurn_230 (by decide) rfl ?_
    refine V_irem (q := 233) g dX4_takeTurn_232 (by omega) (by omega) rfl ?_
    refine V_callVI_1 (q := 236) g (c_X1_testChair l hL hO hI (by omega)) dX4_takeTurn_233 k_X4_209 hL.1 rfl rfl rfl rfl ⟨rfl, rfl⟩ rfl (fun z10 M10 e10 => ?_)
    obtain e10 := e10
    refine V_pop (q := 237) g dX4_takeTurn_236 rfl rfl ?_
    refine V_goto g dX4_takeTurn_237 (tgt := 284) (by decide) ?_
    have hgoal : Off M10 o (fTurn f (x % 16) (x / 16)) ∧ Oth M M10 o := by
      rcases e10 with ⟨q0, q1, rfl⟩ | ⟨q0, q1, q2, hO9, hT9⟩
      all_goals first
        | (exfalso; omega)
        | exact ⟨by unfold fTurn; (repeat (first | rw [if_pos (by omega)] | rw [if_neg (by omega)])); exact hO9, hT9⟩
        | exact ⟨by unfold fTurn; (repeat (first | rw [if_pos (by omega)] | rw [if_neg (by omega)])); exact hO, Oth.rf⟩
    exact V_return g r dX4_takeTurn_284 hgoal
  · refine V_tabAt g dX4_takeTurn_9 (n := 10) h9 (by decide) (by decide) (by decide) (off := 219) rfl (tgt := 228) (by decide) ?_
    refine V_aload_n (q := 229) g dX4_takeTurn_228 rfl rfl ?_
    refine V_iload_n (q := 230) g dX4_takeTurn_229 rfl rfl ?_
    refine V_bipush (q := 232) g dX4_takeTurn_230 (by decide) rfl ?_
    refine V_irem (q := 233) g dX4_takeTurn_232 (by omega) (by omega) rfl ?_
    refine V_callVI_1 (q := 236) g (c_X1_testChair l hL hO hI (by omega)) dX4_takeTurn_233 k_X4_209 hL.1 rfl rfl rfl rfl ⟨rfl, rfl⟩ rfl (fun z11 M11 e11 => ?_)
    obtain e11 := e11
    refine V_pop (q := 237) g dX4_takeTurn_236 rfl rfl ?_
    refine V_goto g dX4_takeTurn_237 (tgt := 284) (by decide) ?_
    have hgoal : Off M11 o (fTurn f (x % 16) (x / 16)) ∧ Oth M M11 o := by
      rcases e11 with ⟨q0, q1, rfl⟩ | ⟨q0, q1, q2, hO9, hT9⟩
      all_goals first
        | (exfalso; omega)
        | exact ⟨by unfold fTurn; (repeat (first | rw [if_pos (by omega)] | rw [if_neg (by omega)])); exact hO9, hT9⟩
        | exact ⟨by unfold fTurn; (repeat (first | rw [if_pos (by omega)] | rw [if_neg (by omega)])); exact hO, Oth.rf⟩
    exact V_return g r dX4_takeTurn_284 hgoal
  · refine V_tabAt g dX4_takeTurn_9 (n := 11) h9 (by decide) (by decide) (by decide) (off := 231) rfl (tgt := 240) (by decide) ?_
    refine V_aload_n (q := 241) g dX4_takeTurn_240 rfl rfl ?_
    refine V_iload_n (q := 242) g dX4_takeTurn_241 rfl rfl ?_
    refine V_iconst (q := 243) g dX4_takeTurn_242 rfl ?_
    refine V_irem (q := 244) g dX4_takeTurn_243 (by omega) (by omega) rfl ?_
    refine V_iconst (q := 245) g dX4_takeTurn_244 rfl ?_
    refine V_iload_n (q := 246) g dX4_takeTurn_245 rfl rfl ?_
    refine V_iconst (q := 247) g dX4_takeTurn_246 rfl ?_
    refine V_idiv (q := 248) g dX4_takeTurn_247 (by omega) (by omega) rfl ?_
    refine V_iconst (q := 249) g dX4_takeTurn_248 rfl ?_
    refine V_irem (q := 250) g dX4_takeTurn_249 (by omega) (by omega) rfl ?_
    refine V_iadd (q := 251) g dX4_takeTurn_250 rfl ?_
    refine V_iload_n (q := 252) g dX4_takeTurn_251 rfl rfl ?_
    refine V_bipush (q := 254) g dX4_takeTurn_252 (by decide) rfl ?_
    refine V_idiv (q := 255) g dX4_takeTurn_254 (by omega) (by omega) rfl ?_
    refine V_bipush (q := 257) g dX4_takeTurn_255 (by decide) rfl ?_
    refine V_irem (q := 258) g dX4_takeTurn_257 (by omega) (by omega) rfl ?_
    refine V_callVI_3 (q := 261) g (c_X1_changeBound l hL hO hI (by omega) (by omega) (by omega)) dX4_takeTurn_258 k_X4_215 hL.1 rfl rfl rfl rfl ⟨rfl, rfl⟩ rfl (fun z12 M12 e12 => ?_)
    obtain e12 := e12
    refine V_pop (q := 262) g dX4_takeTurn_261 rfl rfl ?_
    refine V_goto g dX4_takeTurn_262 (tgt := 284) (by decide) ?_
    have hgoal : Off M12 o (fTurn f (x % 16) (x / 16)) ∧ Oth M M12 o := by
      rcases e12 with ⟨q0, q1, rfl⟩ | ⟨q0, q1, q2, rfl⟩ | ⟨q0, q1, q2, q3, hO9, hT9⟩
      all_goals first
        | (exfalso; omega)
        | exact ⟨by unfold fTurn; (repeat (first | rw [if_pos (by omega)] | rw [if_neg (by omega)])); exact hO9, hT9⟩
        | exact ⟨by unfold fTurn; (repeat (first | rw [if_pos (by omega)] | rw [if_neg (by omega)])); exact hO, Oth.rf⟩
    exact V_return g r dX4_takeTurn_284 hgoal
  · refine V_tabOut g dX4_takeTurn_9 (by omega) h9 (tgt := 265) (by decide) ?_
    refine V_aload_n (q := 266) g dX4_takeTurn_265 rfl rfl ?_
    refine V_iload_n (q := 267) g dX4_takeTurn_266 rfl rfl ?_
    refine V_bipush (q := 269) g dX4_takeTurn_267 (by decide) rfl ?_
    refine V_irem (q := 270) g dX4_takeTurn_269 (by omega) (by omega) rfl ?_
    refine V_iconst (q := 271) g dX4_takeTurn_270 rfl ?_
    refine V_iload_n (q := 272) g dX4_takeTurn_271 rfl rfl ?_
    refine V_bipush (q := 274) g dX4_takeTurn_272 (by decide) rfl ?_
    refine V_idiv (q := 275) g dX4_takeTurn_274 (by omega) (by omega) rfl ?_
    refine V_sipush (q := 278) g dX4_takeTurn_275 (by decide) rfl ?_
    refine V_irem (q := 279) g dX4_takeTurn_278 (by omega) (by omega) rfl ?_
    refine V_iadd (q := 280) g dX4_takeTurn_279 rfl ?_
    refine V_callVI_2 (q := 283) g (c_X1_sitDown l hL hO hI (by omega) (by omega)) dX4_takeTurn_280 k_X4_212 hL.1 rfl rfl rfl rfl ⟨rfl, rfl⟩ rfl (fun z13 M13 e13 => ?_)
    obtain e13 := e13
    refine V_pop (q := 284) g dX4_takeTurn_283 rfl rfl ?_
    have hgoal : Off M13 o (fTurn f (x % 16) (x / 16)) ∧ Oth M M13 o := by
      rcases e13 with ⟨q0, q1, rfl⟩ | ⟨q0, q1, q2, rfl⟩ | ⟨q0, q1, q2, q3, hO9, hT9⟩
      all_goals first
        | (exfalso; omega)
        | exact ⟨by unfold fTurn; (repeat (first | rw [if_pos (by omega)] | rw [if_neg (by omega)])); exact hO9, hT9⟩
        | exact ⟨by unfold fTurn; (repeat (first | rw [if_pos (by omega)] | rw [if_neg (by omega)])); exact hO, Oth.rf⟩
    exact V_return g r dX4_takeTurn_284 hgoal
