theorem bndV {f : Int → Int} {gu : Int} (hI : Inv f) : ∀ n : Nat, (n : Int) ≤ f 0 → f 4 ≤ fBndN f gu n 4 ∧ fBndN f gu n 4 ≤ f 4 + n
  | 0, _ => ⟨Int.le_refl _, by show f 4 ≤ f 4 + ((0 : Nat) : Int); omega⟩
  | n + 1, h => by
    have ih := bndV (gu := gu) hI n (by omega)
    have h1 := (bndN (gu := gu) hI n).2 (47 + 9 * n) (by omega) (fun c h1 h2 => by omega)
    obtain ⟨-, -, -, h2, -⟩ := hI.2.2.2.2.2.2 n (by omega) (by omega)
    rw [fBndN]
    split
    · have e : fVoid (fBndN f gu n) n 4 = fBndN f gu n 4 + fBndN f gu n (47 + 9 * n) := by unfold fVoid; rw [up_ne (by omega), up_eq]
      rw [e]
      omega
    · omega
theorem bnd_v {f : Int → Int} (hI : Inv f) {gu k v : Int} (hg : 0 ≤ gu ∧ gu < 4) (hk : 0 ≤ k ∧ k < 4) (hv : (k < 2 → 100 ≤ v ∧ v ≤ 900) ∧ (k = 2 → 0 ≤ v ∧ v ≤ 100) ∧ (k = 3 → 0 ≤ v ∧ v ≤ 200)) : 0 ≤ fBound f gu k v 4 - f 4 ∧ fBound f gu k v 4 - f 4 ≤ 10 := by
  have hI1 := Inv_lim hI hg hk hv
  have h0 := hI.1
  have e0 : up f (28 + (4 * gu + k)) v 0 = f 0 := up_ne (by omega)
  have e4 : up f (28 + (4 * gu + k)) v 4 = f 4 := up_ne (by omega)
  have h := bndV (gu := gu) hI1 (f 0).toNat (by omega)
  unfold fBound
  omega
theorem sRun_1 {s k : Int} {n : Nat} {f : Int → Int} (h : okG f (sGr s n)) : sRun s (n + 1) k f = sRun s n (k + 1) (fG f (sGr s n)) := by
  rw [sRun]
  exact if_pos h
theorem sRun_0 {s k : Int} {n : Nat} {f : Int → Int} (h : ¬ okG f (sGr s n)) : sRun s (n + 1) k f = k := by
  rw [sRun]
  exact if_neg h
theorem fG_eq {f : Int → Int} {x : Int} : fCmd f (x / 100000) (x % 100000 / 10000) (x % 100000 / 1000 % 10) (x % 100000 % 1000) = fG f x := by
  unfold fG
  rw [show x % 100000 / 10000 = x / 10000 % 10 by omega, show x % 100000 / 1000 % 10 = x / 1000 % 10 by omega, show x % 100000 % 1000 = x % 1000 by omega]
theorem okG_eq {f : Int → Int} {x : Int} : okCmd f (x / 100000) (x % 100000 / 10000) (x % 100000 / 1000 % 10) (x % 100000 % 1000) ↔ okG f x := by
  unfold okG
  rw [show x % 100000 / 10000 = x / 10000 % 10 by omega, show x % 100000 / 1000 % 10 = x / 1000 % 10 by omega, show x % 100000 % 1000 = x % 1000 by omega]
abbrev rm_X5_commandChair : Room := { frames := 7, cells := 0, slots := 0, locals := 152 }
set_option maxHeartbeats 4000000 in
set_option maxRecDepth 100000 in
theorem c_X5_commandChair (l : Launch) {D : DD} {Λ : LY} {M : MM} {m : Nat} {f : Int → Int} {h c k n d : Int} (hL : MdL D Λ m) (hO : M (m + 3) = f) (hI : Inv f) (hh : 1 ≤ h ∧ h ≤ 9 ∧ h ≠ 6) (hc : 0 ≤ c ∧ c < f 0) (hk : 0 ≤ k ∧ k ≤ 9) (hn : 0 ≤ n ∧ n ≤ 999) (hd : d = n % 10) : CI l yX5_commandChair cX5_commandChair 6 .boolean rm_X5_commandChair [.ref m, vi h, vi c, vi k, vi n, vi d] D Λ M (fun z M1 => (okCmd f h c k n ∧ z = 1 ∧ aset M (m + 3) (fCmd f h c k n) = M1) ∨ (¬ okCmd f h c k n ∧ z = 0 ∧ ∃ t, aset M (m + 3) t = M1)) := by
  refine CI_of rfl rfl (Nat.le_of_ble_eq_true rfl) (fun Γ g r => ?_)
  have hlg : 0 ≤ k ∧ k < 4 → 100 ≤ f (49 + 9 * c + k) ∧ f (49 + 9 * c + k) ≤ 900 := fun hb => (hI.2.2.2.2.2.2 c hc.1 hc.2).2.2.2.2 k hb.1 hb.2
  have h0 := hI.1
  have h1 := hI.2.1
  have h11 := hI.2.2.2.1
  have hy := sWhy_r f c
  have hy2 := hI.2.2.2.2.2.2 c hc.1 hc.2
  unfold InvC at hy2
  refine V_iload_n (q := 1) g dX5_commandChair_0 rfl rfl ?_
  rcases (by omega : h = 1 ∨ h = 2 ∨ h = 3 ∨ h = 4 ∨ h = 5 ∨ h = 6 ∨ h = 7 ∨ h = 8 ∨ (h < 1 ∨ 8 < h)) with h9 | h9 | h9 | h9 | h9 | h9 | h9 | h9 | h9
  · refine V_tabAt g dX5_commandChair_1 (n := 1) h9 (by decide) (by decide) (by decide) (off := 47) rfl (tgt := 48) (by decide) ?_
    refine V_iload_n (q := 49) g dX5_commandChair_48 rfl rfl ?_
    refine V_callSI_1 (q := 52) g (c_X5_isFour l (by omega)) dX5_commandChair_49 k_X5_206 rfl rfl ⟨rfl, rfl⟩ rfl (fun z1 M1 e1 => ?_)
    obtain ⟨e1, rfl⟩ := e1
    refine V_if_eq (q := 55) g dX5_commandChair_52 (tgt := 102) (by decide) rfl (by omega) (fun h52 => ?_) (fun h52 => ?_)
    · refine V_iconst (q := 103) g dX5_commandChair_102 rfl ?_
      exact V_ireturn g r dX5_commandChair_103 rfl (by first | (exfalso; omega) | exact (Or.inr ⟨(by unfold okCmd; (repeat (first | rw [if_pos (by omega)] | rw [if_neg (by omega)])); omega), by omega, (by first | exact ⟨_, rfl⟩ | exact ⟨_, aset_self _ _⟩)⟩))
    · refine V_iload (q := 57) g dX5_commandChair_55 rfl rfl ?_
      refine V_i2l (q := 58) g dX5_commandChair_57 (by omega) rfl ?_
      refine V_lconst (q := 59) g dX5_commandChair_58 (z := 1) (by decide) rfl ?_
      refine V_ldc2 (q := 62) g dX5_commandChair_59 (z := 800) q_X5_217 (by decide) rfl ?_
      refine V_callSI_3 (q := 65) g (c_X5_in l (by omega) (by omega) (by omega)) dX5_commandChair_62 k_X5_37 rfl rfl ⟨rfl, rfl⟩ rfl (fun z2 M2 e2 => ?_)
      obtain ⟨e2, rfl⟩ := e2
      refine V_if_eq (q := 68) g dX5_commandChair_65 (tgt := 102) (by decide) rfl (by omega) (fun h65 => ?_) (fun h65 => ?_)
      · refine V_iconst (q := 103) g dX5_commandChair_102 rfl ?_
        exact V_ireturn g r dX5_commandChair_103 rfl (by first | (exfalso; omega) | exact (Or.inr ⟨(by unfold okCmd; (repeat (first | rw [if_pos (by omega)] | rw [if_neg (by omega)])); omega), by omega, (by first | exact ⟨_, rfl⟩ | exact ⟨_, aset_self _ _⟩)⟩))
      · refine V_aload_n (q := 69) g dX5_commandChair_68 rfl rfl ?_
        refine V_getR (q := 72) g dX5_commandChair_69 rfl f_X5_16 rfl hL.1 rfl ?_
        refine V_iload_n (q := 73) g dX5_commandChair_72 rfl rfl ?_
        refine V_iload_n (q := 74) g dX5_commandChair_73 rfl rfl ?_
        refine V_iload (q := 76) g dX5_commandChair_74 rfl rfl ?_
        have hl := hlg (by omega)
        refine V_callSI_4 (q := 79) g (c_X5_canSaw l hL.2.2.2.1 hO hI (by omega) (by omega) (by omega)) dX5_commandChair_76 k_X5_128 rfl rfl ⟨rfl, rfl⟩ rfl (fun z3 M3 e3 => ?_)
        obtain ⟨e3, rfl⟩ := e3
        refine V_if_eq (q := 82) g dX5_commandChair_79 (tgt := 102) (by decide) rfl (by omega) (fun h79 => ?_) (fun h79 => ?_)
        · refine V_iconst (q := 103) g dX5_commandChair_102 rfl ?_
          exact V_ireturn g r dX5_commandChair_103 rfl (by first | (exfalso; omega) | exact (Or.inr ⟨(by unfold okCmd; (repeat (first | rw [if_pos (by omega)] | rw [if_neg (by omega)])); omega), by omega, (by first | exact ⟨_, rfl⟩ | exact ⟨_, aset_self _ _⟩)⟩))
        · refine V_aload_n (q := 83) g dX5_commandChair_82 rfl rfl ?_
          refine V_getR (q := 86) g dX5_commandChair_83 rfl f_X5_16 rfl hL.1 rfl ?_
          refine V_iload_n (q := 87) g dX5_commandChair_86 rfl rfl ?_
          refine V_iload_n (q := 88) g dX5_commandChair_87 rfl rfl ?_
          refine V_iload (q := 90) g dX5_commandChair_88 rfl rfl ?_
          refine V_callSI_4 (q := 93) g (c_X5_sawOn l hL.2.2.2.1 hO hI (by omega) (by omega) (by omega) (by omega)) dX5_commandChair_90 k_X5_132 rfl rfl ⟨rfl, rfl⟩ rfl (fun z4 M4 e4 => ?_)
          obtain ⟨e4, rfl⟩ := e4
          try simp only [aset_aset]
          refine V_bipush (q := 95) g dX5_commandChair_93 (by decide) rfl ?_
          refine V_icmp_lt (q := 98) g dX5_commandChair_95 (tgt := 102) (by decide) rfl (by omega) (by omega) (fun h95 => ?_) (fun h95 => ?_)
          · refine V_iconst (q := 103) g dX5_commandChair_102 rfl ?_
            exact V_ireturn g r dX5_commandChair_103 rfl (by first | (exfalso; omega) | exact (Or.inr ⟨(by unfold okCmd; (repeat (first | rw [if_pos (by omega)] | rw [if_neg (by omega)])); omega), by omega, (by first | exact ⟨_, rfl⟩ | exact ⟨_, aset_self _ _⟩)⟩))
          · refine V_iconst (q := 99) g dX5_commandChair_98 rfl ?_
            refine V_goto g dX5_commandChair_99 (tgt := 103) (by decide) ?_
            exact V_ireturn g r dX5_commandChair_103 rfl (by first | (exfalso; omega) | exact (Or.inl ⟨(by unfold okCmd; (repeat (first | rw [if_pos (by omega)] | rw [if_neg (by omega)])); omega), by omega, (by unfold fCmd; (repeat (first | rw [if_pos (by omega)] | rw [if_neg (by omega)])); try first | rfl | exact aset_id hO)⟩))
  · refine V_tabAt g dX5_commandChair_1 (n := 2) h9 (by decide) (by decide) (by decide) (off := 103) rfl (tgt := 104) (by decide) ?_
    refine V_iload_n (q := 105) g dX5_commandChair_104 rfl rfl ?_
    refine V_callSI_1 (q := 108) g (c_X5_isFour l (by omega)) dX5_commandChair_105 k_X5_206 rfl rfl ⟨rfl, rfl⟩ rfl (fun z5 M5 e5 => ?_)
    obtain ⟨e5, rfl⟩ := e5
    refine V_if_eq (q := 111) g dX5_commandChair_108 (tgt := 158) (by decide) rfl (by omega) (fun h108 => ?_) (fun h108 => ?_)
    · refine V_iconst (q := 159) g dX5_commandChair_158 rfl ?_
      exact V_ireturn g r dX5_commandChair_159 rfl (by first | (exfalso; omega) | exact (Or.inr ⟨(by unfold okCmd; (repeat (first | rw [if_pos (by omega)] | rw [if_neg (by omega)])); omega), by omega, (by first | exact ⟨_, rfl⟩ | exact ⟨_, aset_self _ _⟩)⟩))
    · refine V_iload (q := 113) g dX5_commandChair_111 rfl rfl ?_
      refine V_i2l (q := 114) g dX5_commandChair_113 (by omega) rfl ?_
      refine V_lconst (q := 115) g dX5_commandChair_114 (z := 1) (by decide) rfl ?_
      refine V_ldc2 (q := 118) g dX5_commandChair_115 (z := 99) q_X5_219 (by decide) rfl ?_
      refine V_callSI_3 (q := 121) g (c_X5_in l (by omega) (by omega) (by omega)) dX5_commandChair_118 k_X5_37 rfl rfl ⟨rfl, rfl⟩ rfl (fun z6 M6 e6 => ?_)
      obtain ⟨e6, rfl⟩ := e6
      refine V_if_eq (q := 124) g dX5_commandChair_121 (tgt := 158) (by decide) rfl (by omega) (fun h121 => ?_) (fun h121 => ?_)
      · refine V_iconst (q := 159) g dX5_commandChair_158 rfl ?_
        exact V_ireturn g r dX5_commandChair_159 rfl (by first | (exfalso; omega) | exact (Or.inr ⟨(by unfold okCmd; (repeat (first | rw [if_pos (by omega)] | rw [if_neg (by omega)])); omega), by omega, (by first | exact ⟨_, rfl⟩ | exact ⟨_, aset_self _ _⟩)⟩))
      · refine V_aload_n (q := 125) g dX5_commandChair_124 rfl rfl ?_
        refine V_getR (q := 128) g dX5_commandChair_125 rfl f_X5_16 rfl hL.1 rfl ?_
        refine V_iload_n (q := 129) g dX5_commandChair_128 rfl rfl ?_
        refine V_iload_n (q := 130) g dX5_commandChair_129 rfl rfl ?_
        refine V_iload (q := 132) g dX5_commandChair_130 rfl rfl ?_
        have hl := hlg (by omega)
        refine V_callSI_4 (q := 135) g (c_X5_canShim l hL.2.2.2.1 hO hI (by omega) (by omega) (by omega)) dX5_commandChair_132 k_X5_135 rfl rfl ⟨rfl, rfl⟩ rfl (fun z7 M7 e7 => ?_)
        obtain ⟨e7, rfl⟩ := e7
        refine V_if_eq (q := 138) g dX5_commandChair_135 (tgt := 158) (by decide) rfl (by omega) (fun h135 => ?_) (fun h135 => ?_)
        · refine V_iconst (q := 159) g dX5_commandChair_158 rfl ?_
          exact V_ireturn g r dX5_commandChair_159 rfl (by first | (exfalso; omega) | exact (Or.inr ⟨(by unfold okCmd; (repeat (first | rw [if_pos (by omega)] | rw [if_neg (by omega)])); omega), by omega, (by first | exact ⟨_, rfl⟩ | exact ⟨_, aset_self _ _⟩)⟩))
        · refine V_aload_n (q := 139) g dX5_commandChair_138 rfl rfl ?_
          refine V_getR (q := 142) g dX5_commandChair_139 rfl f_X5_16 rfl hL.1 rfl ?_
          refine V_iload_n (q := 143) g dX5_commandChair_142 rfl rfl ?_
          refine V_iload_n (q := 144) g dX5_commandChair_143 rfl rfl ?_
          refine V_iload (q := 146) g dX5_commandChair_144 rfl rfl ?_
          refine V_callSI_4 (q := 149) g (c_X5_shimOn l hL.2.2.2.1 hO hI (by omega) (by omega) (by omega) (by omega)) dX5_commandChair_146 k_X5_138 rfl rfl ⟨rfl, rfl⟩ rfl (fun z8 M8 e8 => ?_)
          obtain ⟨e8, rfl⟩ := e8
          try simp only [aset_aset]
          refine V_bipush (q := 151) g dX5_commandChair_149 (by decide) rfl ?_
          refine V_icmp_lt (q := 154) g dX5_commandChair_151 (tgt := 158) (by decide) rfl (by omega) (by omega) (fun h151 => ?_) (fun h151 => ?_)
          · refine V_iconst (q := 159) g dX5_commandChair_158 rfl ?_
            exact V_ireturn g r dX5_commandChair_159 rfl (by first | (exfalso; omega) | exact (Or.inr ⟨(by unfold okCmd; (repeat (first | rw [if_pos (by omega)] | rw [if_neg (by omega)])); omega), by omega, (by first | exact ⟨_, rfl⟩ | exact ⟨_, aset_self _ _⟩)⟩))
          · refine V_iconst (q := 155) g dX5_commandChair_154 rfl ?_
            refine V_goto g dX5_commandChair_155 (tgt := 159) (by decide) ?_
            exact V_ireturn g r dX5_commandChair_159 rfl (by first | (exfalso; omega) | exact (Or.inl ⟨(by unfold okCmd; (repeat (first | rw [if_pos (by omega)] | rw [if_neg (by omega)])); omega), by omega, (by unfold fCmd; (repeat (first | rw [if_pos (by omega)] | rw [if_neg (by omega)])); try first | rfl | exact aset_id hO)⟩))
  · refine V_tabAt g dX5_commandChair_1 (n := 3) h9 (by decide) (by decide) (by decide) (off := 159) rfl (tgt := 160) (by decide) ?_
    refine V_iload (q := 162) g dX5_commandChair_160 rfl rfl ?_
    refine V_bipush (q := 164) g dX5_commandChair_162 (by decide) rfl ?_
    refine V_irem (q := 165) g dX5_commandChair_164 (by omega) (by omega) rfl ?_
    refine V_if_ne (q := 168) g dX5_commandChair_165 (tgt := 211) (by decide) rfl (by omega) (fun h165 => ?_) (fun h165 => ?_)
    · refine V_iconst (q := 212) g dX5_commandChair_211 rfl ?_
      exact V_ireturn g r dX5_commandChair_212 rfl (by first | (exfalso; omega) | exact (Or.inr ⟨(by unfold okCmd; (repeat (first | rw [if_pos (by omega)] | rw [if_neg (by omega)])); omega), by omega, (by first | exact ⟨_, rfl⟩ | exact ⟨_, aset_self _ _⟩)⟩))
    · refine V_aload_n (q := 169) g dX5_commandChair_168 rfl rfl ?_
      refine V_getR (q := 172) g dX5_commandChair_169 rfl f_X5_16 rfl hL.1 rfl ?_
      refine V_iload_n (q := 173) g dX5_commandChair_172 rfl rfl ?_
      refine V_callSI_2 (q := 176) g (c_X5_isFloor l hL.2.2.2.1 hO hI (by omega)) dX5_commandChair_173 k_X5_149 rfl rfl ⟨rfl, rfl⟩ rfl (fun z9 M9 e9 => ?_)
      obtain ⟨e9, rfl⟩ := e9
      refine V_if_eq (q := 179) g dX5_commandChair_176 (tgt := 211) (by decide) rfl (by omega) (fun h176 => ?_) (fun h176 => ?_)
      · refine V_iconst (q := 212) g dX5_commandChair_211 rfl ?_
        exact V_ireturn g r dX5_commandChair_212 rfl (by first | (exfalso; omega) | exact (Or.inr ⟨(by unfold okCmd; (repeat (first | rw [if_pos (by omega)] | rw [if_neg (by omega)])); omega), by omega, (by first | exact ⟨_, rfl⟩ | exact ⟨_, aset_self _ _⟩)⟩))
      · refine V_iload (q := 181) g dX5_commandChair_179 rfl rfl ?_
        refine V_bipush (q := 183) g dX5_commandChair_181 (by decide) rfl ?_
        refine V_idiv (q := 184) g dX5_commandChair_183 (by omega) (by omega) rfl ?_
        refine V_callSI_1 (q := 187) g (c_X5_isFour l (by omega)) dX5_commandChair_184 k_X5_206 rfl rfl ⟨rfl, rfl⟩ rfl (fun z10 M10 e10 => ?_)
        obtain ⟨e10, rfl⟩ := e10
        refine V_if_eq (q := 190) g dX5_commandChair_187 (tgt := 211) (by decide) rfl (by omega) (fun h187 => ?_) (fun h187 => ?_)
        · refine V_iconst (q := 212) g dX5_commandChair_211 rfl ?_
          exact V_ireturn g r dX5_commandChair_212 rfl (by first | (exfalso; omega) | exact (Or.inr ⟨(by unfold okCmd; (repeat (first | rw [if_pos (by omega)] | rw [if_neg (by omega)])); omega), by omega, (by first | exact ⟨_, rfl⟩ | exact ⟨_, aset_self _ _⟩)⟩))
        · refine V_aload_n (q := 191) g dX5_commandChair_190 rfl rfl ?_
          refine V_getR (q := 194) g dX5_commandChair_191 rfl f_X5_16 rfl hL.1 rfl ?_
          refine V_iload_n (q := 195) g dX5_commandChair_194 rfl rfl ?_
          refine V_iload_n (q := 196) g dX5_commandChair_195 rfl rfl ?_
          refine V_iload (q := 198) g dX5_commandChair_196 rfl rfl ?_
          refine V_bipush (q := 200) g dX5_commandChair_198 (by decide) rfl ?_
          refine V_idiv (q := 201) g dX5_commandChair_200 (by omega) (by omega) rfl ?_
          refine V_callSI_4 (q := 204) g (c_X5_bringOn l hL.2.2.2.1 hO hI (by omega) (by omega) (by omega)) dX5_commandChair_201 k_X5_152 rfl rfl ⟨rfl, rfl⟩ rfl (fun z11 M11 e11 => ?_)
          obtain ⟨⟨e11, b11⟩, rfl⟩ := e11
          try simp only [aset_aset]
          refine V_if_lt (q := 207) g dX5_commandChair_204 (tgt := 211) (by decide) rfl (by omega) (fun h204 => ?_) (fun h204 => ?_)
          · refine V_iconst (q := 212) g dX5_commandChair_211 rfl ?_
            exact V_ireturn g r dX5_commandChair_212 rfl (by first | (exfalso; omega) | exact (Or.inr ⟨(by unfold okCmd; (repeat (first | rw [if_pos (by omega)] | rw [if_neg (by omega)])); omega), by omega, (by first | exact ⟨_, rfl⟩ | exact ⟨_, aset_self _ _⟩)⟩))
          · refine V_iconst (q := 208) g dX5_commandChair_207 rfl ?_
            refine V_goto g dX5_commandChair_208 (tgt := 212) (by decide) ?_
            exact V_ireturn g r dX5_commandChair_212 rfl (by first | (exfalso; omega) | exact (Or.inl ⟨(by unfold okCmd; (repeat (first | rw [if_pos (by omega)] | rw [if_neg (by omega)])); omega), by omega, (by unfold fCmd; (repeat (first | rw [if_pos (by omega)] | rw [if_neg (by omega)])); try first | rfl | exact aset_id hO)⟩))
  · refine V_tabAt g dX5_commandChair_1 (n := 4) h9 (by decide) (by decide) (by decide) (off := 212) rfl (tgt := 213) (by decide) ?_
    refine V_iload_n (q := 214) g dX5_commandChair_213 rfl rfl ?_
    refine V_if_ne (q := 217) g dX5_commandChair_214 (tgt := 241) (by decide) rfl (by omega) (fun h214 => ?_) (fun h214 => ?_)
    · refine V_iconst (q := 242) g dX5_commandChair_241 rfl ?_
      exact V_ireturn g r dX5_commandChair_242 rfl (by first | (exfalso; omega) | exact (Or.inr ⟨(by unfold okCmd; (repeat (first | rw [if_pos (by omega)] | rw [if_neg (by omega)])); omega), by omega, (by first | exact ⟨_, rfl⟩ | exact ⟨_, aset_self _ _⟩)⟩))
    · refine V_iload (q := 219) g dX5_commandChair_217 rfl rfl ?_
      refine V_bipush (q := 221) g dX5_commandChair_219 (by decide) rfl ?_
      refine V_icmp_ge (q := 224) g dX5_commandChair_221 (tgt := 241) (by decide) rfl (by omega) (by omega) (fun h221 => ?_) (fun h221 => ?_)
      · refine V_iconst (q := 242) g dX5_commandChair_241 rfl ?_
        exact V_ireturn g r dX5_commandChair_242 rfl (by first | (exfalso; omega) | exact (Or.inr ⟨(by unfold okCmd; (repeat (first | rw [if_pos (by omega)] | rw [if_neg (by omega)])); omega), by omega, (by first | exact ⟨_, rfl⟩ | exact ⟨_, aset_self _ _⟩)⟩))
      · refine V_aload_n (q := 225) g dX5_commandChair_224 rfl rfl ?_
        refine V_getR (q := 228) g dX5_commandChair_225 rfl f_X5_16 rfl hL.1 rfl ?_
        refine V_iload_n (q := 229) g dX5_commandChair_228 rfl rfl ?_
        refine V_callSI_2 (q := 232) g (c_X5_testOn l hL.2.2.2.1 hO hI (by omega)) dX5_commandChair_229 k_X5_176 rfl rfl ⟨rfl, rfl⟩ rfl (fun z12 M12 e12 => ?_)
        obtain ⟨⟨e12, b12⟩, rfl⟩ := e12
        try simp only [aset_aset]
        refine V_iload (q := 234) g dX5_commandChair_232 rfl rfl ?_
        refine V_icmp_ne (q := 237) g dX5_commandChair_234 (tgt := 241) (by decide) rfl (by omega) (by omega) (fun h234 => ?_) (fun h234 => ?_)
        · refine V_iconst (q := 242) g dX5_commandChair_241 rfl ?_
          exact V_ireturn g r dX5_commandChair_242 rfl (by first | (exfalso; omega) | exact (Or.inr ⟨(by unfold okCmd; (repeat (first | rw [if_pos (by omega)] | rw [if_neg (by omega)])); omega), by omega, (by first | exact ⟨_, rfl⟩ | exact ⟨_, aset_self _ _⟩)⟩))
        · refine V_iconst (q := 238) g dX5_commandChair_237 rfl ?_
          refine V_goto g dX5_commandChair_238 (tgt := 242) (by decide) ?_
          exact V_ireturn g r dX5_commandChair_242 rfl (by first | (exfalso; omega) | exact (Or.inl ⟨(by unfold okCmd; (repeat (first | rw [if_pos (by omega)] | rw [if_neg (by omega)])); omega), by omega, (by unfold fCmd; (repeat (first | rw [if_pos (by omega)] | rw [if_neg (by omega)])); try first | rfl | exact aset_id hO)⟩))
  · refine V_tabAt g dX5_commandChair_1 (n := 5) h9 (by decide) (by decide) (by decide) (off := 242) rfl (tgt := 243) (by decide) ?_
    refine V_iload_n (q := 244) g dX5_commandChair_243 rfl rfl ?_
    refine V_if_ne (q := 247) g dX5_commandChair_244 (tgt := 277) (by decide) rfl (by omega) (fun h244 => ?_) (fun h244 => ?_)
    · refine V_iconst (q := 278) g dX5_commandChair_277 rfl ?_
      exact V_ireturn g r dX5_commandChair_278 rfl (by first | (exfalso; omega) | exact (Or.inr ⟨(by unfold okCmd; (repeat (first | rw [if_pos (by omega)] | rw [if_neg (by omega)])); omega), by omega, (by first | exact ⟨_, rfl⟩ | exact ⟨_, aset_self _ _⟩)⟩))
    · refine V_iload (q := 249) g dX5_commandChair_247 rfl rfl ?_
      refine V_i2l (q := 250) g dX5_commandChair_249 (by omega) rfl ?_
      refine V_lconst (q := 251) g dX5_commandChair_250 (z := 1) (by decide) rfl ?_
      refine V_ldc2 (q := 254) g dX5_commandChair_251 (z := 200) q_X5_47 (by decide) rfl ?_
      refine V_callSI_3 (q := 257) g (c_X5_in l (by omega) (by omega) (by omega)) dX5_commandChair_254 k_X5_37 rfl rfl ⟨rfl, rfl⟩ rfl (fun z13 M13 e13 => ?_)
      obtain ⟨e13, rfl⟩ := e13
      refine V_if_eq (q := 260) g dX5_commandChair_257 (tgt := 277) (by decide) rfl (by omega) (fun h257 => ?_) (fun h257 => ?_)
      · refine V_iconst (q := 278) g dX5_commandChair_277 rfl ?_
        exact V_ireturn g r dX5_commandChair_278 rfl (by first | (exfalso; omega) | exact (Or.inr ⟨(by unfold okCmd; (repeat (first | rw [if_pos (by omega)] | rw [if_neg (by omega)])); omega), by omega, (by first | exact ⟨_, rfl⟩ | exact ⟨_, aset_self _ _⟩)⟩))
      · refine V_aload_n (q := 261) g dX5_commandChair_260 rfl rfl ?_
        refine V_getR (q := 264) g dX5_commandChair_261 rfl f_X5_16 rfl hL.1 rfl ?_
        refine V_iload_n (q := 265) g dX5_commandChair_264 rfl rfl ?_
        refine V_iload (q := 267) g dX5_commandChair_265 rfl rfl ?_
        refine V_callSI_3 (q := 270) g (c_X5_sitOn l hL.2.2.2.1 hO hI (by omega) (by omega)) dX5_commandChair_267 k_X5_179 rfl rfl ⟨rfl, rfl⟩ rfl (fun z14 M14 e14 => ?_)
        obtain ⟨⟨e14, b14⟩, rfl⟩ := e14
        try simp only [aset_aset]
        refine V_if_lt (q := 273) g dX5_commandChair_270 (tgt := 277) (by decide) rfl (by omega) (fun h270 => ?_) (fun h270 => ?_)
        · refine V_iconst (q := 278) g dX5_commandChair_277 rfl ?_
          exact V_ireturn g r dX5_commandChair_278 rfl (by first | (exfalso; omega) | exact (Or.inr ⟨(by unfold okCmd; (repeat (first | rw [if_pos (by omega)] | rw [if_neg (by omega)])); omega), by omega, (by first | exact ⟨_, rfl⟩ | exact ⟨_, aset_self _ _⟩)⟩))
        · refine V_iconst (q := 274) g dX5_commandChair_273 rfl ?_
          refine V_goto g dX5_commandChair_274 (tgt := 278) (by decide) ?_
          exact V_ireturn g r dX5_commandChair_278 rfl (by first | (exfalso; omega) | exact (Or.inl ⟨(by unfold okCmd; (repeat (first | rw [if_pos (by omega)] | rw [if_neg (by omega)])); omega), by omega, (by unfold fCmd; (repeat (first | rw [if_pos (by omega)] | rw [if_neg (by omega)])); try first | rfl | exact aset_id hO)⟩))
  · refine V_tabAt g dX5_commandChair_1 (n := 6) h9 (by decide) (by decide) (by decide) (off := 332) rfl (tgt := 333) (by decide) ?_
    refine V_iload_n (q := 334) g dX5_commandChair_333 rfl rfl ?_
    refine V_if_ne (q := 337) g dX5_commandChair_334 (tgt := 354) (by decide) rfl (by omega) (fun h334 => ?_) (fun h334 => ?_)
    · refine V_iconst (q := 355) g dX5_commandChair_354 rfl ?_
      exact V_ireturn g r dX5_commandChair_355 rfl (by first | (exfalso; omega) | exact (Or.inr ⟨(by unfold okCmd; (repeat (first | rw [if_pos (by omega)] | rw [if_neg (by omega)])); omega), by omega, (by first | exact ⟨_, rfl⟩ | exact ⟨_, aset_self _ _⟩)⟩))
    · refine V_aload_n (q := 338) g dX5_commandChair_337 rfl rfl ?_
      refine V_getR (q := 341) g dX5_commandChair_338 rfl f_X5_16 rfl hL.1 rfl ?_
      refine V_iload_n (q := 342) g dX5_commandChair_341 rfl rfl ?_
      refine V_callSI_2 (q := 345) g (c_X5_leanOf l hL.2.2.2.1 hO hI (by omega)) dX5_commandChair_342 k_X5_72 rfl rfl ⟨rfl, rfl⟩ rfl (fun z15 M15 e15 => ?_)
      obtain ⟨⟨e15, b15⟩, rfl⟩ := e15
      refine V_iload (q := 347) g dX5_commandChair_345 rfl rfl ?_
      refine V_icmp_gt (q := 350) g dX5_commandChair_347 (tgt := 354) (by decide) rfl (by omega) (by omega) (fun h347 => ?_) (fun h347 => ?_)
      · refine V_iconst (q := 355) g dX5_commandChair_354 rfl ?_
        exact V_ireturn g r dX5_commandChair_355 rfl (by first | (exfalso; omega) | exact (Or.inr ⟨(by unfold okCmd; (repeat (first | rw [if_pos (by omega)] | rw [if_neg (by omega)])); omega), by omega, (by first | exact ⟨_, rfl⟩ | exact ⟨_, aset_self _ _⟩)⟩))
      · refine V_iconst (q := 351) g dX5_commandChair_350 rfl ?_
        refine V_goto g dX5_commandChair_351 (tgt := 355) (by decide) ?_
        exact V_ireturn g r dX5_commandChair_355 rfl (by first | (exfalso; omega) | exact (Or.inl ⟨(by unfold okCmd; (repeat (first | rw [if_pos (by omega)] | rw [if_neg (by omega)])); omega), by omega, (by unfold fCmd; (repeat (first | rw [if_pos (by omega)] | rw [if_neg (by omega)])); try first | rfl | exact aset_id hO)⟩))
  · refine V_tabAt g dX5_commandChair_1 (n := 7) h9 (by decide) (by decide) (by decide) (off := 278) rfl (tgt := 279) (by decide) ?_
    refine V_iload_n (q := 280) g dX5_commandChair_279 rfl rfl ?_
    refine V_if_ne (q := 283) g dX5_commandChair_280 (tgt := 300) (by decide) rfl (by omega) (fun h280 => ?_) (fun h280 => ?_)
    · refine V_iconst (q := 301) g dX5_commandChair_300 rfl ?_
      exact V_ireturn g r dX5_commandChair_301 rfl (by first | (exfalso; omega) | exact (Or.inr ⟨(by unfold okCmd; (repeat (first | rw [if_pos (by omega)] | rw [if_neg (by omega)])); omega), by omega, (by first | exact ⟨_, rfl⟩ | exact ⟨_, aset_self _ _⟩)⟩))
    · refine V_aload_n (q := 284) g dX5_commandChair_283 rfl rfl ?_
      refine V_getR (q := 287) g dX5_commandChair_284 rfl f_X5_16 rfl hL.1 rfl ?_
      refine V_iload_n (q := 288) g dX5_commandChair_287 rfl rfl ?_
      refine V_callSI_2 (q := 291) g (c_X5_wobbleOf l hL.2.2.2.1 hO hI (by omega)) dX5_commandChair_288 k_X5_69 rfl rfl ⟨rfl, rfl⟩ rfl (fun z16 M16 e16 => ?_)
      obtain ⟨⟨e16, b16⟩, rfl⟩ := e16
      refine V_iload (q := 293) g dX5_commandChair_291 rfl rfl ?_
      refine V_icmp_gt (q := 296) g dX5_commandChair_293 (tgt := 300) (by decide) rfl (by omega) (by omega) (fun h293 => ?_) (fun h293 => ?_)
      · refine V_iconst (q := 301) g dX5_commandChair_300 rfl ?_
        exact V_ireturn g r dX5_commandChair_301 rfl (by first | (exfalso; omega) | exact (Or.inr ⟨(by unfold okCmd; (repeat (first | rw [if_pos (by omega)] | rw [if_neg (by omega)])); omega), by omega, (by first | exact ⟨_, rfl⟩ | exact ⟨_, aset_self _ _⟩)⟩))
      · refine V_iconst (q := 297) g dX5_commandChair_296 rfl ?_
        refine V_goto g dX5_commandChair_297 (tgt := 301) (by decide) ?_
        exact V_ireturn g r dX5_commandChair_301 rfl (by first | (exfalso; omega) | exact (Or.inl ⟨(by unfold okCmd; (repeat (first | rw [if_pos (by omega)] | rw [if_neg (by omega)])); omega), by omega, (by unfold fCmd; (repeat (first | rw [if_pos (by omega)] | rw [if_neg (by omega)])); try first | rfl | exact aset_id hO)⟩))
  · refine V_tabAt g dX5_commandChair_1 (n := 8) h9 (by decide) (by decide) (by decide) (off := 301) rfl (tgt := 302) (by decide) ?_
    refine V_iload_n (q := 303) g dX5_commandChair_302 rfl rfl ?_
    refine V_if_ne (q := 306) g dX5_commandChair_303 (tgt := 331) (by decide) rfl (by omega) (fun h303 => ?_) (fun h303 => ?_)
    · refine V_iconst (q := 332) g dX5_commandChair_331 rfl ?_
      exact V_ireturn g r dX5_commandChair_332 rfl (by first | (exfalso; omega) | exact (Or.inr ⟨(by unfold okCmd; (repeat (first | rw [if_pos (by omega)] | rw [if_neg (by omega)])); omega), by omega, (by first | exact ⟨_, rfl⟩ | exact ⟨_, aset_self _ _⟩)⟩))
    · refine V_iload (q := 308) g dX5_commandChair_306 rfl rfl ?_
      refine V_bipush (q := 310) g dX5_commandChair_308 (by decide) rfl ?_
      refine V_icmp_ge (q := 313) g dX5_commandChair_310 (tgt := 331) (by decide) rfl (by omega) (by omega) (fun h310 => ?_) (fun h310 => ?_)
      · refine V_iconst (q := 332) g dX5_commandChair_331 rfl ?_
        exact V_ireturn g r dX5_commandChair_332 rfl (by first | (exfalso; omega) | exact (Or.inr ⟨(by unfold okCmd; (repeat (first | rw [if_pos (by omega)] | rw [if_neg (by omega)])); omega), by omega, (by first | exact ⟨_, rfl⟩ | exact ⟨_, aset_self _ _⟩)⟩))
      · refine V_aload_n (q := 314) g dX5_commandChair_313 rfl rfl ?_
        refine V_getR (q := 317) g dX5_commandChair_314 rfl f_X5_16 rfl hL.1 rfl ?_
        refine V_iload_n (q := 318) g dX5_commandChair_317 rfl rfl ?_
        refine V_iconst (q := 319) g dX5_commandChair_318 rfl ?_
        refine V_callSI_3 (q := 322) g (b_of3 l hL.2.2.2.1 hO hI (by omega)) dX5_commandChair_319 k_X5_51 rfl rfl ⟨rfl, rfl⟩ rfl (fun z17 M17 e17 => ?_)
        obtain ⟨⟨e17, b17⟩, rfl⟩ := e17
        refine V_iload (q := 324) g dX5_commandChair_322 rfl rfl ?_
        refine V_icmp_ne (q := 327) g dX5_commandChair_324 (tgt := 331) (by decide) rfl (by omega) (by omega) (fun h324 => ?_) (fun h324 => ?_)
        · refine V_iconst (q := 332) g dX5_commandChair_331 rfl ?_
          exact V_ireturn g r dX5_commandChair_332 rfl (by first | (exfalso; omega) | exact (Or.inr ⟨(by unfold okCmd; (repeat (first | rw [if_pos (by omega)] | rw [if_neg (by omega)])); omega), by omega, (by first | exact ⟨_, rfl⟩ | exact ⟨_, aset_self _ _⟩)⟩))
        · refine V_iconst (q := 328) g dX5_commandChair_327 rfl ?_
          refine V_goto g dX5_commandChair_328 (tgt := 332) (by decide) ?_
          exact V_ireturn g r dX5_commandChair_332 rfl (by first | (exfalso; omega) | exact (Or.inl ⟨(by unfold okCmd; (repeat (first | rw [if_pos (by omega)] | rw [if_neg (by omega)])); omega), by omega, (by unfold fCmd; (repeat (first | rw [if_pos (by omega)] | rw [if_neg (by omega)])); try first | rfl | exact aset_id hO)⟩))
  · refine V_tabOut g dX5_commandChair_1 (by omega) h9 (tgt := 333) (by decide) ?_
    refine V_iload_n (q := 334) g dX5_commandChair_333 rfl rfl ?_
    refine V_if_ne (q := 337) g dX5_commandChair_334 (tgt := 354) (by decide) rfl (by omega) (fun h334 => ?_) (fun h334 => ?_)
    · refine V_iconst (q := 355) g dX5_commandChair_354 rfl ?_
      exact V_ireturn g r dX5_commandChair_355 rfl (by first | (exfalso; omega) | exact (Or.inr ⟨(by unfold okCmd; (repeat (first | rw [if_pos (by omega)] | rw [if_neg (by omega)])); omega), by omega, (by first | exact ⟨_, rfl⟩ | exact ⟨_, aset_self _ _⟩)⟩))
    · refine V_aload_n (q := 338) g dX5_commandChair_337 rfl rfl ?_
      refine V_getR (q := 341) g dX5_commandChair_338 rfl f_X5_16 rfl hL.1 rfl ?_
      refine V_iload_n (q := 342) g dX5_commandChair_341 rfl rfl ?_
      refine V_callSI_2 (q := 345) g (c_X5_leanOf l hL.2.2.2.1 hO hI (by omega)) dX5_commandChair_342 k_X5_72 rfl rfl ⟨rfl, rfl⟩ rfl (fun z18 M18 e18 => ?_)
      obtain ⟨⟨e18, b18⟩, rfl⟩ := e18
      refine V_iload (q := 347) g dX5_commandChair_345 rfl rfl ?_
      refine V_icmp_gt (q := 350) g dX5_commandChair_347 (tgt := 354) (by decide) rfl (by omega) (by omega) (fun h347 => ?_) (fun h347 => ?_)
      · refine V_iconst (q := 355) g dX5_commandChair_354 rfl ?_
        exact V_ireturn g r dX5_commandChair_355 rfl (by first | (exfalso; omega) | exact (Or.inr ⟨(by unfold okCmd; (repeat (first | rw [if_pos (by omega)] | rw [if_neg (by omega)])); omega), by omega, (by first | exact ⟨_, rfl⟩ | exact ⟨_, aset_self _ _⟩)⟩))
      · refine V_iconst (q := 351) g dX5_commandChair_350 rfl ?_
        refine V_goto g dX5_commandChair_351 (tgt := 355) (by decide) ?_
        exact V_ireturn g r dX5_commandChair_355 rfl (by first | (exfalso; omega) | exact (Or.inl ⟨(by unfold okCmd; (repeat (first | rw [if_pos (by omega)] | rw [if_neg (by omega)])); omega), by omega, (by unfold fCmd; (repeat (first | rw [if_pos (by omega)] | rw [if_neg (by omega)])); try first | rfl | exact aset_id hO)⟩))
abbrev rm_X5_command : Room := { frames := 8, cells := 0, slots := 0, locals := 177 }
set_option maxHeartbeats 4000000 in
set_option maxRecDepth 100000 in
theorem c_X5_command (l : Launch) {D : DD} {Λ : LY} {M : MM} {m : Nat} {f : Int → Int} {h five : Int} (hL : MdL D Λ m) (hO : M (m + 3) = f) (hI : Inv f) (hh : 0 ≤ h ∧ h ≤ 9) (hv : 0 ≤ five ∧ five < 100000) : CI l yX5_command cX5_command 6 .boolean rm_X5_command [.ref m, vi h, vi five] D Λ M (fun z M1 => (okCmd f h (five / 10000) (five / 1000 % 10) (five % 1000) ∧ z = 1 ∧ aset M (m + 3) (fCmd f h (five / 10000) (five / 1000 % 10) (five % 1000)) = M1) ∨ (¬ okCmd f h (five / 10000) (five / 1000 % 10) (five % 1000) ∧ z = 0 ∧ ∃ t, aset M (m + 3) t = M1)) := by
  refine CI_of rfl rfl (Nat.le_of_ble_eq_true rfl) (fun Γ g r => ?_)
  have h0 := hI.1
  have h1 := hI.2.1
  have n3 : 0 ≤ five / 10000 ∧ five / 10000 ≤ 9 := by omega
  have n4 : 0 ≤ five / 1000 % 10 ∧ five / 1000 % 10 ≤ 9 := by omega
  have n5 : 0 ≤ five % 1000 ∧ five % 1000 ≤ 999 := by omega
  refine V_iload_n (q := 1) g dX5_command_0 rfl rfl ?_
  refine V_sipush (q := 4) g dX5_command_1 (by decide) rfl ?_
  refine V_idiv (q := 5) g dX5_command_4 (by omega) (by omega) rfl ?_
  refine V_istore_n_3 (q := 6) g dX5_command_5 (by decide) rfl rfl ?_
  refine V_iload_n (q := 7) g dX5_command_6 rfl rfl ?_
  refine V_sipush (q := 10) g dX5_command_7 (by decide) rfl ?_
  refine V_idiv (q := 11) g dX5_command_10 (by omega) (by omega) rfl ?_
  refine V_bipush (q := 13) g dX5_command_11 (by decide) rfl ?_
  refine V_irem (q := 14) g dX5_command_13 (by omega) (by omega) rfl ?_
  refine V_istore_4 (q := 16) g dX5_command_14 (by decide) rfl rfl ?_
  refine V_iload_n (q := 17) g dX5_command_16 rfl rfl ?_
  refine V_sipush (q := 20) g dX5_command_17 (by decide) rfl ?_
  refine V_irem (q := 21) g dX5_command_20 (by omega) (by omega) rfl ?_
  refine V_istore_5 (q := 23) g dX5_command_21 (by decide) rfl rfl ?_
  refine V_iload_n (q := 24) g dX5_command_23 rfl rfl ?_
  refine V_bipush (q := 26) g dX5_command_24 (by decide) rfl ?_
  refine V_icmp_ne (q := 29) g dX5_command_26 (tgt := 75) (by decide) rfl (by omega) (by omega) (fun h26 => ?_) (fun h26 => ?_)
  · refine V_iload_n (q := 76) g dX5_command_75 rfl rfl ?_
    refine V_if_le (q := 79) g dX5_command_76 (tgt := 111) (by decide) rfl (by omega) (fun h76 => ?_) (fun h76 => ?_)
    · refine V_iconst (q := 112) g dX5_command_111 rfl ?_
      exact V_ireturn g r dX5_command_112 rfl (by first | exact Or.inr ⟨e9.1, rfl, e9.2.2⟩ | exact (Or.inr ⟨(by unfold okCmd; (repeat' split) <;> first | omega | exact id), by omega, (by first | exact ⟨_, rfl⟩ | exact ⟨_, aset_self _ _⟩)⟩))
    · refine V_aload_n (q := 80) g dX5_command_79 rfl rfl ?_
      refine V_getR (q := 83) g dX5_command_80 rfl f_X5_16 rfl hL.1 rfl ?_
      refine V_iload_n (q := 84) g dX5_command_83 rfl rfl ?_
      refine V_callSI_2 (q := 87) g (c_X5_isChair l hL.2.2.2.1 hO hI (by omega)) dX5_command_84 k_X5_96 rfl rfl ⟨rfl, rfl⟩ rfl (fun z1 M1 e1 => ?_)
      obtain ⟨e1, rfl⟩ := e1
      refine V_if_eq (q := 90) g dX5_command_87 (tgt := 111) (by decide) rfl (by omega) (fun h87 => ?_) (fun h87 => ?_)
      · refine V_iconst (q := 112) g dX5_command_111 rfl ?_
        exact V_ireturn g r dX5_command_112 rfl (by first | exact Or.inr ⟨e9.1, rfl, e9.2.2⟩ | exact (Or.inr ⟨(by unfold okCmd; (repeat' split) <;> first | omega | exact id), by omega, (by first | exact ⟨_, rfl⟩ | exact ⟨_, aset_self _ _⟩)⟩))
      · refine V_aload_n (q := 91) g dX5_command_90 rfl rfl ?_
        refine V_iload_n (q := 92) g dX5_command_91 rfl rfl ?_
        refine V_iload_n (q := 93) g dX5_command_92 rfl rfl ?_
        refine V_iload (q := 95) g dX5_command_93 rfl rfl ?_
        refine V_iload (q := 97) g dX5_command_95 rfl rfl ?_
        refine V_iload_n (q := 98) g dX5_command_97 rfl rfl ?_
        refine V_bipush (q := 100) g dX5_command_98 (by decide) rfl ?_
        refine V_irem (q := 101) g dX5_command_100 (by omega) (by omega) rfl ?_
        refine V_callVI_5 (q := 104) g (c_X5_commandChair l hL hO hI (by omega) (by omega) (by omega) (by omega) (by omega)) dX5_command_101 k_X5_233 hL.1 rfl rfl rfl rfl ⟨rfl, rfl⟩ rfl (fun z2 M2 e2 => ?_)
        obtain e2 := e2
        have e22 : z2 = 0 ∨ z2 = 1 := by omega
        refine V_if_eq (q := 107) g dX5_command_104 (tgt := 111) (by decide) rfl (by omega) (fun h104 => ?_) (fun h104 => ?_)
        · have e9 := e2.resolve_left (by omega)
          refine V_iconst (q := 112) g dX5_command_111 rfl ?_
          exact V_ireturn g r dX5_command_112 rfl (by first | exact Or.inr ⟨e9.1, rfl, e9.2.2⟩ | exact (Or.inr ⟨(by unfold okCmd; (repeat' split) <;> first | omega | exact id), by omega, (by first | exact ⟨_, rfl⟩ | exact ⟨_, aset_self _ _⟩)⟩))
        · have e9 := e2.resolve_right (by omega)
          refine V_iconst (q := 108) g dX5_command_107 rfl ?_
          refine V_goto g dX5_command_108 (tgt := 112) (by decide) ?_
          exact V_ireturn g r dX5_command_112 rfl (Or.inl ⟨e9.1, rfl, e9.2.2⟩)
  · refine V_iload_n (q := 30) g dX5_command_29 rfl rfl ?_
    refine V_callSI_1 (q := 33) g (c_X5_isFour l (by omega)) dX5_command_30 k_X5_206 rfl rfl ⟨rfl, rfl⟩ rfl (fun z3 M3 e3 => ?_)
    obtain ⟨e3, rfl⟩ := e3
    refine V_if_eq (q := 36) g dX5_command_33 (tgt := 73) (by decide) rfl (by omega) (fun h33 => ?_) (fun h33 => ?_)
    · refine V_iconst (q := 74) g dX5_command_73 rfl ?_
      exact V_ireturn g r dX5_command_74 rfl (Or.inr ⟨(by unfold okCmd; (repeat (first | rw [if_pos (by omega)] | rw [if_neg (by omega)])); omega), by omega, (by first | exact ⟨_, rfl⟩ | exact ⟨_, aset_self _ _⟩)⟩)
    · refine V_iload (q := 38) g dX5_command_36 rfl rfl ?_
      refine V_callSI_1 (q := 41) g (c_X5_isFour l (by omega)) dX5_command_38 k_X5_206 rfl rfl ⟨rfl, rfl⟩ rfl (fun z4 M4 e4 => ?_)
      obtain ⟨e4, rfl⟩ := e4
      refine V_if_eq (q := 44) g dX5_command_41 (tgt := 73) (by decide) rfl (by omega) (fun h41 => ?_) (fun h41 => ?_)
      · refine V_iconst (q := 74) g dX5_command_73 rfl ?_
        exact V_ireturn g r dX5_command_74 rfl (Or.inr ⟨(by unfold okCmd; (repeat (first | rw [if_pos (by omega)] | rw [if_neg (by omega)])); omega), by omega, (by first | exact ⟨_, rfl⟩ | exact ⟨_, aset_self _ _⟩)⟩)
      · refine V_iload (q := 46) g dX5_command_44 rfl rfl ?_
        refine V_iload (q := 48) g dX5_command_46 rfl rfl ?_
        refine V_callSI_2 (q := 51) g (c_X5_isBound l (by omega) (by omega)) dX5_command_48 k_X5_155 rfl rfl ⟨rfl, rfl⟩ rfl (fun z5 M5 e5 => ?_)
        obtain ⟨e5, rfl⟩ := e5
        refine V_if_eq (q := 54) g dX5_command_51 (tgt := 73) (by decide) rfl (by omega) (fun h51 => ?_) (fun h51 => ?_)
        · refine V_iconst (q := 74) g dX5_command_73 rfl ?_
          exact V_ireturn g r dX5_command_74 rfl (Or.inr ⟨(by unfold okCmd; (repeat (first | rw [if_pos (by omega)] | rw [if_neg (by omega)])); omega), by omega, (by first | exact ⟨_, rfl⟩ | exact ⟨_, aset_self _ _⟩)⟩)
        · refine V_aload_n (q := 55) g dX5_command_54 rfl rfl ?_
          refine V_getR (q := 58) g dX5_command_55 rfl f_X5_16 rfl hL.1 rfl ?_
          refine V_iload_n (q := 59) g dX5_command_58 rfl rfl ?_
          refine V_iload (q := 61) g dX5_command_59 rfl rfl ?_
          refine V_iload (q := 63) g dX5_command_61 rfl rfl ?_
          refine V_callSI_4 (q := 66) g (c_X5_boundOn l hL.2.2.2.1 hO hI (by omega) (by omega) (by omega)) dX5_command_63 k_X5_159 rfl rfl ⟨rfl, rfl⟩ rfl (fun z6 M6 e6 => ?_)
          obtain ⟨e6, rfl⟩ := e6
          try simp only [aset_aset]
          have hb9 := bnd_v hI (gu := five / 10000) (k := five / 1000 % 10) (v := five % 1000) (by omega) (by omega) (by omega)
          refine V_if_lt (q := 69) g dX5_command_66 (tgt := 73) (by decide) rfl (by omega) (fun h66 => ?_) (fun h66 => ?_)
          · refine V_iconst (q := 74) g dX5_command_73 rfl ?_
            exact V_ireturn g r dX5_command_74 rfl (Or.inr ⟨(by unfold okCmd; (repeat (first | rw [if_pos (by omega)] | rw [if_neg (by omega)])); omega), by omega, (by first | exact ⟨_, rfl⟩ | exact ⟨_, aset_self _ _⟩)⟩)
          · refine V_iconst (q := 70) g dX5_command_69 rfl ?_
            refine V_goto g dX5_command_70 (tgt := 74) (by decide) ?_
            exact V_ireturn g r dX5_command_74 rfl (Or.inl ⟨(by unfold okCmd; (repeat (first | rw [if_pos (by omega)] | rw [if_neg (by omega)])); omega), by omega, (by unfold fCmd; (repeat (first | rw [if_pos (by omega)] | rw [if_neg (by omega)])); try first | rfl | exact aset_id hO)⟩)
abbrev rm_X5_turnLeg : Room := { frames := 4, cells := 0, slots := 0, locals := 90 }
set_option maxHeartbeats 4000000 in
set_option maxRecDepth 100000 in
theorem c_X5_turnLeg (l : Launch) {D : DD} {Λ : LY} {M : MM} {b : Nat} {f : Int → Int} {h q : Int} (hA0 : Λ b = some (kI D 134)) (hO : M b = f) (hI : Inv f) (hq : 0 ≤ q ∧ q < 2147483648) (hh : 4 ≤ h ∧ h ≤ 6) : CV l yX5_turnLeg cX5_turnLeg 6 rm_X5_turnLeg [.ref b, vi h, vi q] D Λ M (fun M1 => aset M b (fTurn f h q) = M1) := by
  refine CV_of rfl rfl (Nat.le_of_ble_eq_true rfl) (fun Γ g r => ?_)
  have hlg : q % 10 < f 0 → 100 ≤ f (49 + 9 * (q % 10) + q / 16 % 4) ∧ f (49 + 9 * (q % 10) + q / 16 % 4) ≤ 900 := fun hb => (hI.2.2.2.2.2.2 (q % 10) (by omega) hb).2.2.2.2 (q / 16 % 4) (by omega) (by omega)
  have h0 := hI.1
  have h1 := hI.2.1
  refine V_iload_n (q := 1) g dX5_turnLeg_0 rfl rfl ?_
  refine V_bipush (q := 3) g dX5_turnLeg_1 (by decide) rfl ?_
  refine V_irem (q := 4) g dX5_turnLeg_3 (by omega) (by omega) rfl ?_
  refine V_istore_n_3 (q := 5) g dX5_turnLeg_4 (by decide) rfl rfl ?_
  refine V_iload_n (q := 6) g dX5_turnLeg_5 rfl rfl ?_
  refine V_bipush (q := 8) g dX5_turnLeg_6 (by decide) rfl ?_
  refine V_idiv (q := 9) g dX5_turnLeg_8 (by omega) (by omega) rfl ?_
  refine V_iconst (q := 10) g dX5_turnLeg_9 rfl ?_
  refine V_irem (q := 11) g dX5_turnLeg_10 (by omega) (by omega) rfl ?_
  refine V_istore_4 (q := 13) g dX5_turnLeg_11 (by decide) rfl rfl ?_
  refine V_iconst (q := 14) g dX5_turnLeg_13 rfl ?_
  refine V_iload_n (q := 15) g dX5_turnLeg_14 rfl rfl ?_
  refine V_bipush (q := 17) g dX5_turnLeg_15 (by decide) rfl ?_
  refine V_idiv (q := 18) g dX5_turnLeg_17 (by omega) (by omega) rfl ?_
  refine V_bipush (q := 20) g dX5_turnLeg_18 (by decide) rfl ?_
  refine V_irem (q := 21) g dX5_turnLeg_20 (by omega) (by omega) rfl ?_
  refine V_iadd (q := 22) g dX5_turnLeg_21 rfl ?_
  refine V_istore_5 (q := 24) g dX5_turnLeg_22 (by decide) rfl rfl ?_
  refine V_iload_n (q := 25) g dX5_turnLeg_24 rfl rfl ?_
  refine V_bipush (q := 27) g dX5_turnLeg_25 (by decide) rfl ?_
  refine V_icmp_ge (q := 30) g dX5_turnLeg_27 (tgt := 55) (by decide) rfl (by omega) (by omega) (fun h27 => ?_) (fun h27 => ?_)
  · refine V_aload_n (q := 56) g dX5_turnLeg_55 rfl rfl ?_
    refine V_iload_n (q := 57) g dX5_turnLeg_56 rfl rfl ?_
    refine V_iload (q := 59) g dX5_turnLeg_57 rfl rfl ?_
    refine V_iload (q := 61) g dX5_turnLeg_59 rfl rfl ?_
    refine V_callSI_4 (q := 64) g (c_X5_canShim l hA0 hO hI (by omega) (by omega) (by omega)) dX5_turnLeg_61 k_X5_135 rfl rfl ⟨rfl, rfl⟩ rfl (fun z1 M1 e1 => ?_)
    obtain ⟨e1, rfl⟩ := e1
    refine V_if_eq (q := 67) g dX5_turnLeg_64 (tgt := 77) (by decide) rfl (by omega) (fun h64 => ?_) (fun h64 => ?_)
    · exact V_return g r dX5_turnLeg_77 (by unfold fTurn; (repeat (first | rw [if_pos (by omega)] | rw [if_neg (by omega)])); try first | rfl | exact aset_id hO | (by_cases h9 : h < 11 <;> (repeat (first | rw [if_pos (by omega)] | rw [if_neg (by omega)])) <;> exact aset_id hO))
    · refine V_aload_n (q := 68) g dX5_turnLeg_67 rfl rfl ?_
      refine V_iload_n (q := 69) g dX5_turnLeg_68 rfl rfl ?_
      refine V_iload (q := 71) g dX5_turnLeg_69 rfl rfl ?_
      refine V_iload (q := 73) g dX5_turnLeg_71 rfl rfl ?_
      have hl := hlg (by omega)
      refine V_callSI_4 (q := 76) g (c_X5_shimOn l hA0 hO hI (by omega) (by omega) (by omega) (by omega)) dX5_turnLeg_73 k_X5_138 rfl rfl ⟨rfl, rfl⟩ rfl (fun z2 M2 e2 => ?_)
      obtain ⟨e2, rfl⟩ := e2
      try simp only [aset_aset]
      refine V_pop (q := 77) g dX5_turnLeg_76 rfl rfl ?_
      exact V_return g r dX5_turnLeg_77 (by unfold fTurn; (repeat (first | rw [if_pos (by omega)] | rw [if_neg (by omega)])); try first | rfl | exact aset_id hO | (by_cases h9 : h < 11 <;> (repeat (first | rw [if_pos (by omega)] | rw [if_neg (by omega)])) <;> exact aset_id hO))
  · refine V_aload_n (q := 31) g dX5_turnLeg_30 rfl rfl ?_
    refine V_iload_n (q := 32) g dX5_turnLeg_31 rfl rfl ?_
    refine V_iload (q := 34) g dX5_turnLeg_32 rfl rfl ?_
    refine V_iload (q := 36) g dX5_turnLeg_34 rfl rfl ?_
    refine V_callSI_4 (q := 39) g (c_X5_canSaw l hA0 hO hI (by omega) (by omega) (by omega)) dX5_turnLeg_36 k_X5_128 rfl rfl ⟨rfl, rfl⟩ rfl (fun z3 M3 e3 => ?_)
    obtain ⟨e3, rfl⟩ := e3
    refine V_if_eq (q := 42) g dX5_turnLeg_39 (tgt := 77) (by decide) rfl (by omega) (fun h39 => ?_) (fun h39 => ?_)
    · exact V_return g r dX5_turnLeg_77 (by unfold fTurn; (repeat (first | rw [if_pos (by omega)] | rw [if_neg (by omega)])); try first | rfl | exact aset_id hO | (by_cases h9 : h < 11 <;> (repeat (first | rw [if_pos (by omega)] | rw [if_neg (by omega)])) <;> exact aset_id hO))
    · refine V_aload_n (q := 43) g dX5_turnLeg_42 rfl rfl ?_
      refine V_iload_n (q := 44) g dX5_turnLeg_43 rfl rfl ?_
      refine V_iload (q := 46) g dX5_turnLeg_44 rfl rfl ?_
      refine V_iload (q := 48) g dX5_turnLeg_46 rfl rfl ?_
      have hl := hlg (by omega)
      refine V_callSI_4 (q := 51) g (c_X5_sawOn l hA0 hO hI (by omega) (by omega) (by omega) (by omega)) dX5_turnLeg_48 k_X5_132 rfl rfl ⟨rfl, rfl⟩ rfl (fun z4 M4 e4 => ?_)
      obtain ⟨e4, rfl⟩ := e4
      try simp only [aset_aset]
      refine V_pop (q := 52) g dX5_turnLeg_51 rfl rfl ?_
      refine V_goto g dX5_turnLeg_52 (tgt := 77) (by decide) ?_
      exact V_return g r dX5_turnLeg_77 (by unfold fTurn; (repeat (first | rw [if_pos (by omega)] | rw [if_neg (by omega)])); try first | rfl | exact aset_id hO | (by_cases h9 : h < 11 <;> (repeat (first | rw [if_pos (by omega)] | rw [if_neg (by omega)])) <;> exact aset_id hO))
abbrev rm_X5_turnOf : Room := { frames := 7, cells := 0, slots := 0, locals := 155 }
set_option maxHeartbeats 4000000 in
set_option maxRecDepth 100000 in
theorem c_X5_turnOf (l : Launch) {D : DD} {Λ : LY} {M : MM} {b : Nat} {f : Int → Int} {h q : Int} (hA0 : Λ b = some (kI D 134)) (hO : M b = f) (hI : Inv f) (hq : 0 ≤ q ∧ q < 2147483648) (hh : 0 ≤ h ∧ h < 16) : CV l yX5_turnOf cX5_turnOf 4 rm_X5_turnOf [.ref b, vi h, vi q] D Λ M (fun M1 => aset M b (fTurn f h q) = M1) := by
  refine CV_of rfl rfl (Nat.le_of_ble_eq_true rfl) (fun Γ g r => ?_)
  have hlg : q % 10 < f 0 → 100 ≤ f (49 + 9 * (q % 10) + q / 16 % 4) ∧ f (49 + 9 * (q % 10) + q / 16 % 4) ≤ 900 := fun hb => (hI.2.2.2.2.2.2 (q % 10) (by omega) hb).2.2.2.2 (q / 16 % 4) (by omega) (by omega)
  have h0 := hI.1
  have h1 := hI.2.1
  refine V_iload_n (q := 1) g dX5_turnOf_0 rfl rfl ?_
  refine V_bipush (q := 3) g dX5_turnOf_1 (by decide) rfl ?_
  refine V_irem (q := 4) g dX5_turnOf_3 (by omega) (by omega) rfl ?_
  refine V_istore_n_3 (q := 5) g dX5_turnOf_4 (by decide) rfl rfl ?_
  refine V_iload_n (q := 6) g dX5_turnOf_5 rfl rfl ?_
  refine V_iconst (q := 7) g dX5_turnOf_6 rfl ?_
  refine V_icmp_ge (q := 10) g dX5_turnOf_7 (tgt := 39) (by decide) rfl (by omega) (by omega) (fun h7 => ?_) (fun h7 => ?_)
  · refine V_iload_n (q := 40) g dX5_turnOf_39 rfl rfl ?_
    refine V_iconst (q := 41) g dX5_turnOf_40 rfl ?_
    refine V_icmp_ne (q := 44) g dX5_turnOf_41 (tgt := 85) (by decide) rfl (by omega) (by omega) (fun h41 => ?_) (fun h41 => ?_)
    · refine V_iload_n (q := 86) g dX5_turnOf_85 rfl rfl ?_
      refine V_iconst (q := 87) g dX5_turnOf_86 rfl ?_
      refine V_icmp_ne (q := 90) g dX5_turnOf_87 (tgt := 123) (by decide) rfl (by omega) (by omega) (fun h87 => ?_) (fun h87 => ?_)
      · refine V_iload_n (q := 124) g dX5_turnOf_123 rfl rfl ?_
        refine V_bipush (q := 126) g dX5_turnOf_124 (by decide) rfl ?_
        refine V_icmp_ge (q := 129) g dX5_turnOf_126 (tgt := 138) (by decide) rfl (by omega) (by omega) (fun h126 => ?_) (fun h126 => ?_)
        · refine V_iload_n (q := 139) g dX5_turnOf_138 rfl rfl ?_
          refine V_bipush (q := 141) g dX5_turnOf_139 (by decide) rfl ?_
          refine V_icmp_ne (q := 144) g dX5_turnOf_141 (tgt := 186) (by decide) rfl (by omega) (by omega) (fun h141 => ?_) (fun h141 => ?_)
          · refine V_iload_n (q := 187) g dX5_turnOf_186 rfl rfl ?_
            refine V_bipush (q := 189) g dX5_turnOf_187 (by decide) rfl ?_
            refine V_icmp_ne (q := 192) g dX5_turnOf_189 (tgt := 217) (by decide) rfl (by omega) (by omega) (fun h189 => ?_) (fun h189 => ?_)
            · refine V_aload_n (q := 218) g dX5_turnOf_217 rfl rfl ?_
              refine V_iload_n (q := 219) g dX5_turnOf_218 rfl rfl ?_
              refine V_callSI_2 (q := 222) g (c_X5_isChair l hA0 hO hI (by omega)) dX5_turnOf_219 k_X5_96 rfl rfl ⟨rfl, rfl⟩ rfl (fun z1 M1 e1 => ?_)
              obtain ⟨e1, rfl⟩ := e1
              refine V_if_eq (q := 225) g dX5_turnOf_222 (tgt := 256) (by decide) rfl (by omega) (fun h222 => ?_) (fun h222 => ?_)
              · exact V_return g r dX5_turnOf_256 (by unfold fTurn; (repeat (first | rw [if_pos (by omega)] | rw [if_neg (by omega)])); try first | rfl | exact aset_id hO | (by_cases h9 : h < 11 <;> (repeat (first | rw [if_pos (by omega)] | rw [if_neg (by omega)])) <;> exact aset_id hO))
              · refine V_iload_n (q := 226) g dX5_turnOf_225 rfl rfl ?_
                refine V_bipush (q := 228) g dX5_turnOf_226 (by decide) rfl ?_
                refine V_icmp_ge (q := 231) g dX5_turnOf_228 (tgt := 240) (by decide) rfl (by omega) (by omega) (fun h228 => ?_) (fun h228 => ?_)
                · refine V_aload_n (q := 241) g dX5_turnOf_240 rfl rfl ?_
                  refine V_iload_n (q := 242) g dX5_turnOf_241 rfl rfl ?_
                  refine V_iconst (q := 243) g dX5_turnOf_242 rfl ?_
                  refine V_iload_n (q := 244) g dX5_turnOf_243 rfl rfl ?_
                  refine V_bipush (q := 246) g dX5_turnOf_244 (by decide) rfl ?_
                  refine V_idiv (q := 247) g dX5_turnOf_246 (by omega) (by omega) rfl ?_
                  refine V_sipush (q := 250) g dX5_turnOf_247 (by decide) rfl ?_
                  refine V_irem (q := 251) g dX5_turnOf_250 (by omega) (by omega) rfl ?_
                  refine V_iadd (q := 252) g dX5_turnOf_251 rfl ?_
                  refine V_callSI_3 (q := 255) g (c_X5_sitOn l hA0 hO hI (by omega) (by omega)) dX5_turnOf_252 k_X5_179 rfl rfl ⟨rfl, rfl⟩ rfl (fun z2 M2 e2 => ?_)
                  obtain ⟨⟨e2, b2⟩, rfl⟩ := e2
                  try simp only [aset_aset]
                  refine V_pop (q := 256) g dX5_turnOf_255 rfl rfl ?_
                  exact V_return g r dX5_turnOf_256 (by unfold fTurn; (repeat (first | rw [if_pos (by omega)] | rw [if_neg (by omega)])); try first | rfl | exact aset_id hO | (by_cases h9 : h < 11 <;> (repeat (first | rw [if_pos (by omega)] | rw [if_neg (by omega)])) <;> exact aset_id hO))
                · refine V_aload_n (q := 232) g dX5_turnOf_231 rfl rfl ?_
                  refine V_iload_n (q := 233) g dX5_turnOf_232 rfl rfl ?_
                  refine V_callSI_2 (q := 236) g (c_X5_testOn l hA0 hO hI (by omega)) dX5_turnOf_233 k_X5_176 rfl rfl ⟨rfl, rfl⟩ rfl (fun z3 M3 e3 => ?_)
                  obtain ⟨⟨e3, b3⟩, rfl⟩ := e3
                  try simp only [aset_aset]
                  refine V_pop (q := 237) g dX5_turnOf_236 rfl rfl ?_
                  refine V_goto g dX5_turnOf_237 (tgt := 256) (by decide) ?_
                  exact V_return g r dX5_turnOf_256 (by unfold fTurn; (repeat (first | rw [if_pos (by omega)] | rw [if_neg (by omega)])); try first | rfl | exact aset_id hO | (by_cases h9 : h < 11 <;> (repeat (first | rw [if_pos (by omega)] | rw [if_neg (by omega)])) <;> exact aset_id hO))
            · refine V_aload_n (q := 193) g dX5_turnOf_192 rfl rfl ?_
              refine V_iload_n (q := 194) g dX5_turnOf_193 rfl rfl ?_
              refine V_iconst (q := 195) g dX5_turnOf_194 rfl ?_
              refine V_irem (q := 196) g dX5_turnOf_195 (by omega) (by omega) rfl ?_
              refine V_iconst (q := 197) g dX5_turnOf_196 rfl ?_
              refine V_iload_n (q := 198) g dX5_turnOf_197 rfl rfl ?_
              refine V_iconst (q := 199) g dX5_turnOf_198 rfl ?_
              refine V_idiv (q := 200) g dX5_turnOf_199 (by omega) (by omega) rfl ?_
              refine V_iconst (q := 201) g dX5_turnOf_200 rfl ?_
              refine V_irem (q := 202) g dX5_turnOf_201 (by omega) (by omega) rfl ?_
              refine V_iadd (q := 203) g dX5_turnOf_202 rfl ?_
              refine V_iload_n (q := 204) g dX5_turnOf_203 rfl rfl ?_
              refine V_bipush (q := 206) g dX5_turnOf_204 (by decide) rfl ?_
              refine V_idiv (q := 207) g dX5_turnOf_206 (by omega) (by omega) rfl ?_
              refine V_bipush (q := 209) g dX5_turnOf_207 (by decide) rfl ?_
              refine V_irem (q := 210) g dX5_turnOf_209 (by omega) (by omega) rfl ?_
              refine V_callSI_4 (q := 213) g (c_X5_boundOn l hA0 hO hI (by omega) (by omega) (by omega)) dX5_turnOf_210 k_X5_159 rfl rfl ⟨rfl, rfl⟩ rfl (fun z4 M4 e4 => ?_)
              obtain ⟨e4, rfl⟩ := e4
              try simp only [aset_aset]
              refine V_pop (q := 214) g dX5_turnOf_213 rfl rfl ?_
              refine V_goto g dX5_turnOf_214 (tgt := 256) (by decide) ?_
              exact V_return g r dX5_turnOf_256 (by unfold fTurn; (repeat (first | rw [if_pos (by omega)] | rw [if_neg (by omega)])); try first | rfl | exact aset_id hO | (by_cases h9 : h < 11 <;> (repeat (first | rw [if_pos (by omega)] | rw [if_neg (by omega)])) <;> exact aset_id hO))
          · refine V_aload_n (q := 145) g dX5_turnOf_144 rfl rfl ?_
            refine V_iload_n (q := 146) g dX5_turnOf_145 rfl rfl ?_
            refine V_callSI_2 (q := 149) g (c_X5_isChair l hA0 hO hI (by omega)) dX5_turnOf_146 k_X5_96 rfl rfl ⟨rfl, rfl⟩ rfl (fun z5 M5 e5 => ?_)
            obtain ⟨e5, rfl⟩ := e5
            refine V_if_eq (q := 152) g dX5_turnOf_149 (tgt := 256) (by decide) rfl (by omega) (fun h149 => ?_) (fun h149 => ?_)
            · exact V_return g r dX5_turnOf_256 (by unfold fTurn; (repeat (first | rw [if_pos (by omega)] | rw [if_neg (by omega)])); try first | rfl | exact aset_id hO | (by_cases h9 : h < 11 <;> (repeat (first | rw [if_pos (by omega)] | rw [if_neg (by omega)])) <;> exact aset_id hO))
            · refine V_aload_n (q := 153) g dX5_turnOf_152 rfl rfl ?_
              refine V_iload_n (q := 154) g dX5_turnOf_153 rfl rfl ?_
              refine V_bipush (q := 156) g dX5_turnOf_154 (by decide) rfl ?_
              refine V_idiv (q := 157) g dX5_turnOf_156 (by omega) (by omega) rfl ?_
              refine V_iconst (q := 158) g dX5_turnOf_157 rfl ?_
              refine V_irem (q := 159) g dX5_turnOf_158 (by omega) (by omega) rfl ?_
              refine V_callSI_2 (q := 162) g (c_X5_isFloor l hA0 hO hI (by omega)) dX5_turnOf_159 k_X5_149 rfl rfl ⟨rfl, rfl⟩ rfl (fun z6 M6 e6 => ?_)
              obtain ⟨e6, rfl⟩ := e6
              refine V_if_eq (q := 165) g dX5_turnOf_162 (tgt := 256) (by decide) rfl (by omega) (fun h162 => ?_) (fun h162 => ?_)
              · exact V_return g r dX5_turnOf_256 (by unfold fTurn; (repeat (first | rw [if_pos (by omega)] | rw [if_neg (by omega)])); try first | rfl | exact aset_id hO | (by_cases h9 : h < 11 <;> (repeat (first | rw [if_pos (by omega)] | rw [if_neg (by omega)])) <;> exact aset_id hO))
              · refine V_aload_n (q := 166) g dX5_turnOf_165 rfl rfl ?_
                refine V_iload_n (q := 167) g dX5_turnOf_166 rfl rfl ?_
                refine V_iload_n (q := 168) g dX5_turnOf_167 rfl rfl ?_
                refine V_bipush (q := 170) g dX5_turnOf_168 (by decide) rfl ?_
                refine V_idiv (q := 171) g dX5_turnOf_170 (by omega) (by omega) rfl ?_
                refine V_iconst (q := 172) g dX5_turnOf_171 rfl ?_
                refine V_irem (q := 173) g dX5_turnOf_172 (by omega) (by omega) rfl ?_
                refine V_iload_n (q := 174) g dX5_turnOf_173 rfl rfl ?_
                refine V_bipush (q := 176) g dX5_turnOf_174 (by decide) rfl ?_
                refine V_idiv (q := 177) g dX5_turnOf_176 (by omega) (by omega) rfl ?_
                refine V_iconst (q := 178) g dX5_turnOf_177 rfl ?_
                refine V_irem (q := 179) g dX5_turnOf_178 (by omega) (by omega) rfl ?_
                refine V_callSI_4 (q := 182) g (c_X5_bringOn l hA0 hO hI (by omega) (by omega) (by omega)) dX5_turnOf_179 k_X5_152 rfl rfl ⟨rfl, rfl⟩ rfl (fun z7 M7 e7 => ?_)
                obtain ⟨⟨e7, b7⟩, rfl⟩ := e7
                try simp only [aset_aset]
                refine V_pop (q := 183) g dX5_turnOf_182 rfl rfl ?_
                refine V_goto g dX5_turnOf_183 (tgt := 256) (by decide) ?_
                exact V_return g r dX5_turnOf_256 (by unfold fTurn; (repeat (first | rw [if_pos (by omega)] | rw [if_neg (by omega)])); try first | rfl | exact aset_id hO | (by_cases h9 : h < 11 <;> (repeat (first | rw [if_pos (by omega)] | rw [if_neg (by omega)])) <;> exact aset_id hO))
        · refine V_aload_n (q := 130) g dX5_turnOf_129 rfl rfl ?_
          refine V_iload_n (q := 131) g dX5_turnOf_130 rfl rfl ?_
          refine V_iload_n (q := 132) g dX5_turnOf_131 rfl rfl ?_
          refine V_callSV_3 (q := 135) g (c_X5_turnLeg l hA0 hO hI (by omega) (by omega)) dX5_turnOf_132 k_X5_241 rfl rfl ⟨rfl, rfl⟩ rfl (fun M8 e8 => ?_)
          obtain rfl := e8
          try simp only [aset_aset]
          refine V_goto g dX5_turnOf_135 (tgt := 256) (by decide) ?_
          exact V_return g r dX5_turnOf_256 (by unfold fTurn; (repeat (first | rw [if_pos (by omega)] | rw [if_neg (by omega)])); try first | rfl | exact aset_id hO | (by_cases h9 : h < 11 <;> (repeat (first | rw [if_pos (by omega)] | rw [if_neg (by omega)])) <;> exact aset_id hO))
      · refine V_aload_n (q := 91) g dX5_turnOf_90 rfl rfl ?_
        refine V_iload_n (q := 92) g dX5_turnOf_91 rfl rfl ?_
        refine V_iconst (q := 93) g dX5_turnOf_92 rfl ?_
        refine V_irem (q := 94) g dX5_turnOf_93 (by omega) (by omega) rfl ?_
        refine V_callSI_2 (q := 97) g (c_X5_isFloor l hA0 hO hI (by omega)) dX5_turnOf_94 k_X5_149 rfl rfl ⟨rfl, rfl⟩ rfl (fun z9 M9 e9 => ?_)
        obtain ⟨e9, rfl⟩ := e9
        refine V_if_eq (q := 100) g dX5_turnOf_97 (tgt := 256) (by decide) rfl (by omega) (fun h97 => ?_) (fun h97 => ?_)
        · exact V_return g r dX5_turnOf_256 (by unfold fTurn; (repeat (first | rw [if_pos (by omega)] | rw [if_neg (by omega)])); try first | rfl | exact aset_id hO | (by_cases h9 : h < 11 <;> (repeat (first | rw [if_pos (by omega)] | rw [if_neg (by omega)])) <;> exact aset_id hO))
        · refine V_aload_n (q := 101) g dX5_turnOf_100 rfl rfl ?_
          refine V_iload_n (q := 102) g dX5_turnOf_101 rfl rfl ?_
          refine V_iconst (q := 103) g dX5_turnOf_102 rfl ?_
          refine V_irem (q := 104) g dX5_turnOf_103 (by omega) (by omega) rfl ?_
          refine V_iload_n (q := 105) g dX5_turnOf_104 rfl rfl ?_
          refine V_iconst (q := 106) g dX5_turnOf_105 rfl ?_
          refine V_idiv (q := 107) g dX5_turnOf_106 (by omega) (by omega) rfl ?_
          refine V_iconst (q := 108) g dX5_turnOf_107 rfl ?_
          refine V_irem (q := 109) g dX5_turnOf_108 (by omega) (by omega) rfl ?_
          refine V_iload_n (q := 110) g dX5_turnOf_109 rfl rfl ?_
          refine V_bipush (q := 112) g dX5_turnOf_110 (by decide) rfl ?_
          refine V_idiv (q := 113) g dX5_turnOf_112 (by omega) (by omega) rfl ?_
          refine V_bipush (q := 115) g dX5_turnOf_113 (by decide) rfl ?_
          refine V_irem (q := 116) g dX5_turnOf_115 (by omega) (by omega) rfl ?_
          refine V_callSI_4 (q := 119) g (c_X5_levelOn l hA0 hO hI (by omega) (by omega) (by omega)) dX5_turnOf_116 k_X5_214 rfl rfl ⟨rfl, rfl⟩ rfl (fun z10 M10 e10 => ?_)
          obtain ⟨⟨e10, b10⟩, rfl⟩ := e10
          try simp only [aset_aset]
          refine V_pop (q := 120) g dX5_turnOf_119 rfl rfl ?_
          refine V_goto g dX5_turnOf_120 (tgt := 256) (by decide) ?_
          exact V_return g r dX5_turnOf_256 (by unfold fTurn; (repeat (first | rw [if_pos (by omega)] | rw [if_neg (by omega)])); try first | rfl | exact aset_id hO | (by_cases h9 : h < 11 <;> (repeat (first | rw [if_pos (by omega)] | rw [if_neg (by omega)])) <;> exact aset_id hO))
    · refine V_aload_n (q := 45) g dX5_turnOf_44 rfl rfl ?_
      refine V_iconst (q := 46) g dX5_turnOf_45 rfl ?_
      refine V_iaload (q := 47) g dX5_turnOf_46 rfl hA0 (by omega) (by decide) ?_
      rw [hO]
      refine V_iconst (q := 48) g dX5_turnOf_47 rfl ?_
      refine V_icmp_ge (q := 51) g dX5_turnOf_48 (tgt := 256) (by decide) rfl (by omega) (by omega) (fun h48 => ?_) (fun h48 => ?_)
      · exact V_return g r dX5_turnOf_256 (by unfold fTurn; (repeat (first | rw [if_pos (by omega)] | rw [if_neg (by omega)])); try first | rfl | exact aset_id hO | (by_cases h9 : h < 11 <;> (repeat (first | rw [if_pos (by omega)] | rw [if_neg (by omega)])) <;> exact aset_id hO))
      · refine V_aload_n (q := 52) g dX5_turnOf_51 rfl rfl ?_
        refine V_iload_n (q := 53) g dX5_turnOf_52 rfl rfl ?_
        refine V_bipush (q := 55) g dX5_turnOf_53 (by decide) rfl ?_
        refine V_irem (q := 56) g dX5_turnOf_55 (by omega) (by omega) rfl ?_
        refine V_iload_n (q := 57) g dX5_turnOf_56 rfl rfl ?_
        refine V_bipush (q := 59) g dX5_turnOf_57 (by decide) rfl ?_
        refine V_idiv (q := 60) g dX5_turnOf_59 (by omega) (by omega) rfl ?_
        refine V_bipush (q := 62) g dX5_turnOf_60 (by decide) rfl ?_
        refine V_irem (q := 63) g dX5_turnOf_62 (by omega) (by omega) rfl ?_
        refine V_iload_n (q := 64) g dX5_turnOf_63 rfl rfl ?_
        refine V_bipush (q := 66) g dX5_turnOf_64 (by decide) rfl ?_
        refine V_idiv (q := 67) g dX5_turnOf_66 (by omega) (by omega) rfl ?_
        refine V_bipush (q := 69) g dX5_turnOf_67 (by decide) rfl ?_
        refine V_irem (q := 70) g dX5_turnOf_69 (by omega) (by omega) rfl ?_
        refine V_iload_n (q := 71) g dX5_turnOf_70 rfl rfl ?_
        refine V_sipush (q := 74) g dX5_turnOf_71 (by decide) rfl ?_
        refine V_idiv (q := 75) g dX5_turnOf_74 (by omega) (by omega) rfl ?_
        refine V_bipush (q := 77) g dX5_turnOf_75 (by decide) rfl ?_
        refine V_irem (q := 78) g dX5_turnOf_77 (by omega) (by omega) rfl ?_
        refine V_callSI_5 (q := 81) g (c_X5_floorOn l hA0 hO hI (by omega)) dX5_turnOf_78 k_X5_145 rfl rfl ⟨rfl, rfl⟩ rfl (fun z11 M11 e11 => ?_)
        obtain ⟨⟨e11, b11⟩, rfl⟩ := e11
        try simp only [aset_aset]
        refine V_pop (q := 82) g dX5_turnOf_81 rfl rfl ?_
        refine V_goto g dX5_turnOf_82 (tgt := 256) (by decide) ?_
        exact V_return g r dX5_turnOf_256 (by unfold fTurn; (repeat (first | rw [if_pos (by omega)] | rw [if_neg (by omega)])); try first | rfl | exact aset_id hO | (by_cases h9 : h < 11 <;> (repeat (first | rw [if_pos (by omega)] | rw [if_neg (by omega)])) <;> exact aset_id hO))
  · refine V_aload_n (q := 11) g dX5_turnOf_10 rfl rfl ?_
    refine V_iconst (q := 12) g dX5_turnOf_11 rfl ?_
    refine V_iaload (q := 13) g dX5_turnOf_12 rfl hA0 (by omega) (by decide) ?_
    rw [hO]
    refine V_bipush (q := 15) g dX5_turnOf_13 (by decide) rfl ?_
    refine V_icmp_ge (q := 18) g dX5_turnOf_15 (tgt := 256) (by decide) rfl (by omega) (by omega) (fun h15 => ?_) (fun h15 => ?_)
    · exact V_return g r dX5_turnOf_256 (by unfold fTurn; (repeat (first | rw [if_pos (by omega)] | rw [if_neg (by omega)])); try first | rfl | exact aset_id hO | (by_cases h9 : h < 11 <;> (repeat (first | rw [if_pos (by omega)] | rw [if_neg (by omega)])) <;> exact aset_id hO))
    · refine V_aload_n (q := 19) g dX5_turnOf_18 rfl rfl ?_
      refine V_iload_n (q := 20) g dX5_turnOf_19 rfl rfl ?_
      refine V_iconst (q := 21) g dX5_turnOf_20 rfl ?_
      refine V_irem (q := 22) g dX5_turnOf_21 (by omega) (by omega) rfl ?_
      refine V_sipush (q := 25) g dX5_turnOf_22 (by decide) rfl ?_
      refine V_iload_n (q := 26) g dX5_turnOf_25 rfl rfl ?_
      refine V_iconst (q := 27) g dX5_turnOf_26 rfl ?_
      refine V_idiv (q := 28) g dX5_turnOf_27 (by omega) (by omega) rfl ?_
      refine V_bipush (q := 30) g dX5_turnOf_28 (by decide) rfl ?_
      refine V_irem (q := 31) g dX5_turnOf_30 (by omega) (by omega) rfl ?_
      refine V_iadd (q := 32) g dX5_turnOf_31 rfl ?_
      refine V_callSI_3 (q := 35) g (c_X5_chairOn l hA0 hO hI (by omega)) dX5_turnOf_32 k_X5_162 rfl rfl ⟨rfl, rfl⟩ rfl (fun z12 M12 e12 => ?_)
      obtain ⟨⟨e12, b12⟩, rfl⟩ := e12
      try simp only [aset_aset]
      refine V_pop (q := 36) g dX5_turnOf_35 rfl rfl ?_
      refine V_goto g dX5_turnOf_36 (tgt := 256) (by decide) ?_
      exact V_return g r dX5_turnOf_256 (by unfold fTurn; (repeat (first | rw [if_pos (by omega)] | rw [if_neg (by omega)])); try first | rfl | exact aset_id hO | (by_cases h9 : h < 11 <;> (repeat (first | rw [if_pos (by omega)] | rw [if_neg (by omega)])) <;> exact aset_id hO))
abbrev rm_X5_simulate : Room := { frames := 8, cells := 0, slots := 0, locals := 178 }
set_option maxHeartbeats 4000000 in
set_option maxRecDepth 100000 in
theorem c_X5_simulate (l : Launch) {D : DD} {Λ : LY} {M : MM} {m : Nat} {f : Int → Int} {s n : Int} (hL : MdL D Λ m) (hO : M (m + 2) = f) (hI : Inv f) (hr1 : inR n) : CI l yX5_simulate cX5_simulate 8 .int rm_X5_simulate [.ref m, vl s, vi n] D Λ M (fun z M1 => (¬ ((1 ≤ n ∧ n ≤ 60)) ∧ wr M m 0 1 = M1) ∨ ((1 ≤ n ∧ n ≤ 60) ∧ z = sSim f s n.toNat ∧ ∃ t, aset (wr M m 0 0) (m + 3) t = M1)) := by
  refine CI_of rfl rfl (Nat.le_of_ble_eq_true rfl) (fun Γ g r => ?_)
  have h0 := hI.1
  have h1 := hI.2.1
  refine V_aload_n (q := 1) g dX5_simulate_0 rfl rfl ?_
  refine V_iload_n (q := 2) g dX5_simulate_1 rfl rfl ?_
  refine V_i2l (q := 3) g dX5_simulate_2 (by omega) rfl ?_
  refine V_lconst (q := 4) g dX5_simulate_3 (z := 1) (by decide) rfl ?_
  refine V_ldc2 (q := 7) g dX5_simulate_4 (z := 60) q_X5_245 (by decide) rfl ?_
  refine V_callSI_3 (q := 10) g (c_X5_in l (by omega) (by omega) (by omega)) dX5_simulate_7 k_X5_37 rfl rfl ⟨rfl, rfl⟩ rfl (fun z1 M1 e1 => ?_)
  obtain ⟨e1, rfl⟩ := e1
  refine V_if_eq (q := 13) g dX5_simulate_10 (tgt := 17) (by decide) rfl (by omega) (fun h10 => ?_) (fun h10 => ?_)
  · refine V_iconst (q := 18) g dX5_simulate_17 rfl ?_
    refine V_callVI_1 (q := 21) g (b_refn l hL (by decide)) dX5_simulate_18 k_X5_105 hL.1 rfl rfl rfl rfl ⟨rfl, rfl⟩ rfl (fun z2 M2 e2 => ?_)
    obtain ⟨rfl, rfl⟩ := e2
    refine V_if_eq (q := 24) g dX5_simulate_21 (tgt := 26) (by decide) rfl (by omega) (fun h21 => absurd h21 (by omega)) (fun h21 => ?_)
    refine V_iconst (q := 25) g dX5_simulate_24 rfl ?_
    exact V_ireturn g r dX5_simulate_25 rfl (Or.inl ⟨by omega, rfl⟩)
  · refine V_iconst (q := 14) g dX5_simulate_13 rfl ?_
    refine V_goto g dX5_simulate_14 (tgt := 18) (by decide) ?_
    refine V_callVI_1 (q := 21) g (b_ref0 l hL) dX5_simulate_18 k_X5_105 hL.1 rfl rfl rfl rfl ⟨rfl, rfl⟩ rfl (fun z3 M3 e3 => ?_)
    obtain ⟨rfl, rfl⟩ := e3
    have hP : wr M m 0 0 (m + 2) = f := wrO hO (by omega)
    refine V_if_eq (q := 24) g dX5_simulate_21 (tgt := 26) (by decide) rfl (by omega) (fun h21 => ?_) (fun h21 => absurd h21 (by omega))
    refine V_aload_n (q := 27) g dX5_simulate_26 rfl rfl ?_
    refine V_getR (q := 30) g dX5_simulate_27 rfl f_X5_13 rfl hL.1 rfl ?_
    refine V_iconst (q := 31) g dX5_simulate_30 rfl ?_
    refine V_aload_n (q := 32) g dX5_simulate_31 rfl rfl ?_
    refine V_getR (q := 35) g dX5_simulate_32 rfl f_X5_16 rfl hL.1 rfl ?_
    refine V_iconst (q := 36) g dX5_simulate_35 rfl ?_
    refine V_callSV_4 (q := 39) g (b_cpy0 l hL.2.2.1 hL.2.2.2.1 hP (by omega)) dX5_simulate_36 k_X5_192 rfl rfl ⟨rfl, rfl⟩ rfl (fun M4 e4 => ?_)
    obtain rfl := e4
    try simp only [aset_aset]
    refine V_lload_n (q := 40) g dX5_simulate_39 rfl rfl ?_
    refine V_lstore_4 (q := 42) g dX5_simulate_40 (by decide) rfl rfl ?_
    refine V_iconst (q := 43) g dX5_simulate_42 rfl ?_
    refine V_istore_6 (q := 45) g dX5_simulate_43 (by decide) rfl rfl ?_
    have hloop : ∀ (k9 : Nat) (i : Nat) (y7 : Option Value), (i : Int) ≤ n → n - i ≤ k9 → V Γ D Λ (aset (wr M m 0 0) (m + 3) (fSimN f s i)) (0, 0) 45 [some (.ref m), some (vl s), none, some (vi n), some (vl (zN s i)), none, some (vi (i : Int)), y7] [] := by
      intro k9
      induction k9 with
      | zero =>
        intro i y7 h2 h3
        refine V_iload (q := 47) g dX5_simulate_45 rfl rfl ?_
        refine V_iload_n (q := 48) g dX5_simulate_47 rfl rfl ?_
        refine V_icmp_ge (q := 51) g dX5_simulate_48 (tgt := 94) (by decide) rfl (by omega) (by omega) (fun h48 => ?_) (fun h48 => absurd h48 (by omega))
        have hn : n = (i : Int) := by omega
        subst hn
        refine V_sipush (q := 97) g dX5_simulate_94 (by decide) rfl ?_
        refine V_aload_n (q := 98) g dX5_simulate_97 rfl rfl ?_
        refine V_getR (q := 101) g dX5_simulate_98 rfl f_X5_16 rfl hL.1 rfl ?_
        refine V_iconst (q := 102) g dX5_simulate_101 rfl ?_
        refine V_iaload (q := 103) g dX5_simulate_102 rfl hL.2.2.2.1 (by omega) (by decide) ?_
        rw [aset_at]
        refine V_aload_n (q := 104) g dX5_simulate_103 rfl rfl ?_
        refine V_getR (q := 107) g dX5_simulate_104 rfl f_X5_13 rfl hL.1 rfl ?_
        refine V_iconst (q := 108) g dX5_simulate_107 rfl ?_
        refine V_iaload (q := 109) g dX5_simulate_108 rfl hL.2.2.1 (by omega) (by decide) ?_
        rw [asetO hP (by omega)]
        refine V_isub (q := 110) g dX5_simulate_109 rfl ?_
        refine V_imul (q := 111) g dX5_simulate_110 rfl ?_
        refine V_bipush (q := 113) g dX5_simulate_111 (by decide) rfl ?_
        refine V_aload_n (q := 114) g dX5_simulate_113 rfl rfl ?_
        refine V_getR (q := 117) g dX5_simulate_114 rfl f_X5_16 rfl hL.1 rfl ?_
        refine V_callSI_1 (q := 120) g (c_X5_stamped l hL.2.2.2.1 (aset_at _ _ _) (Inv_sim hI s i)) dX5_simulate_117 k_X5_201 rfl rfl ⟨rfl, rfl⟩ rfl (fun z5 M5 e5 => ?_)
        obtain ⟨⟨e5, b5⟩, rfl⟩ := e5
        refine V_imul (q := 121) g dX5_simulate_120 rfl ?_
        refine V_iadd (q := 122) g dX5_simulate_121 rfl ?_
        refine V_aload_n (q := 123) g dX5_simulate_122 rfl rfl ?_
        refine V_getR (q := 126) g dX5_simulate_123 rfl f_X5_16 rfl hL.1 rfl ?_
        refine V_iconst (q := 127) g dX5_simulate_126 rfl ?_
        refine V_iaload (q := 128) g dX5_simulate_127 rfl hL.2.2.2.1 (by omega) (by decide) ?_
        rw [aset_at]
        refine V_iadd (q := 129) g dX5_simulate_128 rfl ?_
        refine V_aload_n (q := 130) g dX5_simulate_129 rfl rfl ?_
        refine V_getR (q := 133) g dX5_simulate_130 rfl f_X5_13 rfl hL.1 rfl ?_
        refine V_iconst (q := 134) g dX5_simulate_133 rfl ?_
        refine V_iaload (q := 135) g dX5_simulate_134 rfl hL.2.2.1 (by omega) (by decide) ?_
        rw [asetO hP (by omega)]
        refine V_isub (q := 136) g dX5_simulate_135 rfl ?_
        exact V_ireturn g r dX5_simulate_136 rfl (Or.inr ⟨by omega, (by rw [e5]; rfl), ⟨_, rfl⟩⟩)
      | succ k9 ih =>
        intro i y7 h2 h3
        refine V_iload (q := 47) g dX5_simulate_45 rfl rfl ?_
        refine V_iload_n (q := 48) g dX5_simulate_47 rfl rfl ?_
        refine V_icmp_ge (q := 51) g dX5_simulate_48 (tgt := 94) (by decide) rfl (by omega) (by omega) (fun h48 => ?_) (fun h48 => ?_)
        · have hn : n = (i : Int) := by omega
          subst hn
          refine V_sipush (q := 97) g dX5_simulate_94 (by decide) rfl ?_
          refine V_aload_n (q := 98) g dX5_simulate_97 rfl rfl ?_
          refine V_getR (q := 101) g dX5_simulate_98 rfl f_X5_16 rfl hL.1 rfl ?_
          refine V_iconst (q := 102) g dX5_simulate_101 rfl ?_
          refine V_iaload (q := 103) g dX5_simulate_102 rfl hL.2.2.2.1 (by omega) (by decide) ?_
          rw [aset_at]
          refine V_aload_n (q := 104) g dX5_simulate_103 rfl rfl ?_
          refine V_getR (q := 107) g dX5_simulate_104 rfl f_X5_13 rfl hL.1 rfl ?_
          refine V_iconst (q := 108) g dX5_simulate_107 rfl ?_
          refine V_iaload (q := 109) g dX5_simulate_108 rfl hL.2.2.1 (by omega) (by decide) ?_
          rw [asetO hP (by omega)]
          refine V_isub (q := 110) g dX5_simulate_109 rfl ?_
          refine V_imul (q := 111) g dX5_simulate_110 rfl ?_
          refine V_bipush (q := 113) g dX5_simulate_111 (by decide) rfl ?_
          refine V_aload_n (q := 114) g dX5_simulate_113 rfl rfl ?_
          refine V_getR (q := 117) g dX5_simulate_114 rfl f_X5_16 rfl hL.1 rfl ?_
          refine V_callSI_1 (q := 120) g (c_X5_stamped l hL.2.2.2.1 (aset_at _ _ _) (Inv_sim hI s i)) dX5_simulate_117 k_X5_201 rfl rfl ⟨rfl, rfl⟩ rfl (fun z6 M6 e6 => ?_)
          obtain ⟨⟨e6, b6⟩, rfl⟩ := e6
          refine V_imul (q := 121) g dX5_simulate_120 rfl ?_
          refine V_iadd (q := 122) g dX5_simulate_121 rfl ?_
          refine V_aload_n (q := 123) g dX5_simulate_122 rfl rfl ?_
          refine V_getR (q := 126) g dX5_simulate_123 rfl f_X5_16 rfl hL.1 rfl ?_
          refine V_iconst (q := 127) g dX5_simulate_126 rfl ?_
          refine V_iaload (q := 128) g dX5_simulate_127 rfl hL.2.2.2.1 (by omega) (by decide) ?_
          rw [aset_at]
          refine V_iadd (q := 129) g dX5_simulate_128 rfl ?_
          refine V_aload_n (q := 130) g dX5_simulate_129 rfl rfl ?_
          refine V_getR (q := 133) g dX5_simulate_130 rfl f_X5_13 rfl hL.1 rfl ?_
          refine V_iconst (q := 134) g dX5_simulate_133 rfl ?_
          refine V_iaload (q := 135) g dX5_simulate_134 rfl hL.2.2.1 (by omega) (by decide) ?_
          rw [asetO hP (by omega)]
          refine V_isub (q := 136) g dX5_simulate_135 rfl ?_
          exact V_ireturn g r dX5_simulate_136 rfl (Or.inr ⟨by omega, (by rw [e6]; rfl), ⟨_, rfl⟩⟩)
        · refine V_lload (q := 53) g dX5_simulate_51 rfl rfl ?_
          refine V_ldc2 (q := 56) g dX5_simulate_53 (z := 6364136223846793005) q_X5_247 (by decide) rfl ?_
          refine V_lmul (q := 57) g dX5_simulate_56 rfl ?_
          refine V_ldc2 (q := 60) g dX5_simulate_57 (z := 1442695040888963407) q_X5_249 (by decide) rfl ?_
          refine V_ladd (q := 61) g dX5_simulate_60 rfl ?_
          refine V_lstore_4 (q := 63) g dX5_simulate_61 (by decide) rfl rfl ?_
          refine V_lload (q := 65) g dX5_simulate_63 rfl rfl ?_
          refine V_bipush (q := 67) g dX5_simulate_65 (by decide) rfl ?_
          refine V_lushr0 (q := 68) g dX5_simulate_67 rfl ?_
          have hr9 := sR_r (zN s (i + 1))
          have hu : Value.long ((lI (zN s i * 6364136223846793005 + 1442695040888963407)).toUInt64 >>> ((iI 33).toInt64.toUInt64 &&& Int64.toUInt64 63)).toInt64 = vl (sR (zN s (i + 1))) := sU_l (zN s (i + 1))
          rw [hu]
          refine V_l2i (q := 69) g dX5_simulate_68 rfl ?_
          refine V_istore_7 (q := 71) g dX5_simulate_69 (by decide) rfl rfl ?_
          refine V_aload_n (q := 72) g dX5_simulate_71 rfl rfl ?_
          refine V_getR (q := 75) g dX5_simulate_72 rfl f_X5_16 rfl hL.1 rfl ?_
          refine V_iload (q := 77) g dX5_simulate_75 rfl rfl ?_
          refine V_bipush (q := 79) g dX5_simulate_77 (by decide) rfl ?_
          refine V_irem (q := 80) g dX5_simulate_79 (by omega) (by omega) rfl ?_
          refine V_iload (q := 82) g dX5_simulate_80 rfl rfl ?_
          refine V_bipush (q := 84) g dX5_simulate_82 (by decide) rfl ?_
          refine V_idiv (q := 85) g dX5_simulate_84 (by omega) (by omega) rfl ?_
          refine V_callSV_3 (q := 88) g (c_X5_turnOf l hL.2.2.2.1 (aset_at _ _ _) (Inv_sim hI s i) (by omega) (by omega)) dX5_simulate_85 k_X5_251 rfl rfl ⟨rfl, rfl⟩ rfl (fun M7 e7 => ?_)
          obtain rfl := e7
          try simp only [aset_aset]
          try simp only [aset_aset]
          refine V_iinc_6 (q := 91) g dX5_simulate_88 (by decide) rfl rfl ?_
          refine V_goto g dX5_simulate_91 (tgt := 45) (by decide) ?_
          exact ih (i + 1) _ (by omega) (by omega)
    exact hloop n.toNat 0 _ (by omega) (by omega)
abbrev rm_X5_runScript : Room := { frames := 9, cells := 0, slots := 0, locals := 202 }
set_option maxHeartbeats 4000000 in
set_option maxRecDepth 100000 in
theorem c_X5_runScript (l : Launch) {D : DD} {Λ : LY} {M : MM} {m : Nat} {f : Int → Int} {n s : Int} (hL : MdL D Λ m) (hO : M (m + 2) = f) (hI : Inv f) (hr1 : inR n) (hr2 : inL s) : CI l yX5_runScript cX5_runScript 8 .int rm_X5_runScript [.ref m, vi n, vl s] D Λ M (fun z M1 => (¬ ((1 ≤ n ∧ n ≤ 3 ∧ 0 ≤ s ∧ s < sP n.toNat)) ∧ wr M m 0 1 = M1) ∨ ((1 ≤ n ∧ n ≤ 3 ∧ 0 ≤ s ∧ s < sP n.toNat) ∧ z = sRun s n.toNat 0 f ∧ ∃ t, aset (wr M m 0 0) (m + 3) t = M1)) := by
  refine CI_of rfl rfl (Nat.le_of_ble_eq_true rfl) (fun Γ g r => ?_)
  have h0 := hI.1
  have h1 := hI.2.1
  refine V_lconst (q := 1) g dX5_runScript_0 (z := 1) (by decide) rfl ?_
  refine V_lstore_4 (q := 3) g dX5_runScript_1 (by decide) rfl rfl ?_
  refine V_iconst (q := 4) g dX5_runScript_3 rfl ?_
  refine V_istore_6 (q := 6) g dX5_runScript_4 (by decide) rfl rfl ?_
  refine V_iload (q := 8) g dX5_runScript_6 rfl rfl ?_
  refine V_iload_n (q := 9) g dX5_runScript_8 rfl rfl ?_
  refine V_icmp_ge (q := 12) g dX5_runScript_9 (tgt := 32) (by decide) rfl (by omega) (by omega) (fun h9 => ?_) (fun h9 => ?_)
  · refine V_aload_n (q := 33) g dX5_runScript_32 rfl rfl ?_
    refine V_iload_n (q := 34) g dX5_runScript_33 rfl rfl ?_
    refine V_i2l (q := 35) g dX5_runScript_34 (by omega) rfl ?_
    refine V_lconst (q := 36) g dX5_runScript_35 (z := 1) (by decide) rfl ?_
    refine V_ldc2 (q := 39) g dX5_runScript_36 (z := 3) q_X5_41 (by decide) rfl ?_
    refine V_callSI_3 (q := 42) g (c_X5_in l (by omega) (by omega) (by omega)) dX5_runScript_39 k_X5_37 rfl rfl ⟨rfl, rfl⟩ rfl (fun z1 M1 e1 => ?_)
    obtain ⟨e1, rfl⟩ := e1
    refine V_if_eq (q := 45) g dX5_runScript_42 (tgt := 61) (by decide) rfl (by omega) (fun h42 => ?_) (fun h42 => ?_)
    · refine V_iconst (q := 62) g dX5_runScript_61 rfl ?_
      refine V_callVI_1 (q := 65) g (b_refn l hL (by decide)) dX5_runScript_62 k_X5_105 hL.1 rfl rfl rfl rfl ⟨rfl, rfl⟩ rfl (fun z2 M2 e2 => ?_)
      obtain ⟨rfl, rfl⟩ := e2
      refine V_if_eq (q := 68) g dX5_runScript_65 (tgt := 70) (by decide) rfl (by omega) (fun h65 => absurd h65 (by omega)) (fun h65 => ?_)
      refine V_iconst (q := 69) g dX5_runScript_68 rfl ?_
      exact V_ireturn g r dX5_runScript_69 rfl (Or.inl ⟨by omega, rfl⟩)
    · refine V_lload_n (q := 46) g dX5_runScript_45 rfl rfl ?_
      refine V_lconst (q := 47) g dX5_runScript_46 (z := 0) (by decide) rfl ?_
      refine V_lload (q := 49) g dX5_runScript_47 rfl rfl ?_
      refine V_lconst (q := 50) g dX5_runScript_49 (z := 1) (by decide) rfl ?_
      refine V_lsub (q := 51) g dX5_runScript_50 rfl ?_
      have hp : sP n.toNat = 1 := by rw [show n = 0 by omega]; rfl
      refine V_callSI_3 (q := 54) g (c_X5_in l (by omega) (by omega) (by omega)) dX5_runScript_51 k_X5_37 rfl rfl ⟨rfl, rfl⟩ rfl (fun z3 M3 e3 => ?_)
      obtain ⟨e3, rfl⟩ := e3
      refine V_if_eq (q := 57) g dX5_runScript_54 (tgt := 61) (by decide) rfl (by omega) (fun h54 => ?_) (fun h54 => ?_)
      · refine V_iconst (q := 62) g dX5_runScript_61 rfl ?_
        refine V_callVI_1 (q := 65) g (b_refn l hL (by decide)) dX5_runScript_62 k_X5_105 hL.1 rfl rfl rfl rfl ⟨rfl, rfl⟩ rfl (fun z4 M4 e4 => ?_)
        obtain ⟨rfl, rfl⟩ := e4
        refine V_if_eq (q := 68) g dX5_runScript_65 (tgt := 70) (by decide) rfl (by omega) (fun h65 => absurd h65 (by omega)) (fun h65 => ?_)
        refine V_iconst (q := 69) g dX5_runScript_68 rfl ?_
        exact V_ireturn g r dX5_runScript_69 rfl (Or.inl ⟨by omega, rfl⟩)
      · refine V_iconst (q := 58) g dX5_runScript_57 rfl ?_
        refine V_goto g dX5_runScript_58 (tgt := 62) (by decide) ?_
        refine V_callVI_1 (q := 65) g (b_ref0 l hL) dX5_runScript_62 k_X5_105 hL.1 rfl rfl rfl rfl ⟨rfl, rfl⟩ rfl (fun z5 M5 e5 => ?_)
        obtain ⟨rfl, rfl⟩ := e5
        have hP : wr M m 0 0 (m + 2) = f := wrO hO (by omega)
        have hn : n = 0 := by omega
        subst hn
        have hf0 : Inv f := hI
        have hs0 : sRun s 0 0 f = sRun s 0 0 f := rfl
        refine V_if_eq (q := 68) g dX5_runScript_65 (tgt := 70) (by decide) rfl (by omega) (fun h65 => ?_) (fun h65 => absurd h65 (by omega))
        refine V_aload_n (q := 71) g dX5_runScript_70 rfl rfl ?_
        refine V_getR (q := 74) g dX5_runScript_71 rfl f_X5_13 rfl hL.1 rfl ?_
        refine V_iconst (q := 75) g dX5_runScript_74 rfl ?_
        refine V_aload_n (q := 76) g dX5_runScript_75 rfl rfl ?_
        refine V_getR (q := 79) g dX5_runScript_76 rfl f_X5_16 rfl hL.1 rfl ?_
        refine V_iconst (q := 80) g dX5_runScript_79 rfl ?_
        refine V_callSV_4 (q := 83) g (b_cpy0 l hL.2.2.1 hL.2.2.2.1 hP (by omega)) dX5_runScript_80 k_X5_192 rfl rfl ⟨rfl, rfl⟩ rfl (fun M6 e6 => ?_)
        obtain rfl := e6
        try simp only [aset_aset]
        refine V_iconst (q := 84) g dX5_runScript_83 rfl ?_
        refine V_istore_6 (q := 86) g dX5_runScript_84 (by decide) rfl rfl ?_
        refine V_iload (q := 88) g dX5_runScript_86 rfl rfl ?_
        refine V_iload_n (q := 89) g dX5_runScript_88 rfl rfl ?_
        refine V_icmp_ge (q := 92) g dX5_runScript_89 (tgt := 137) (by decide) rfl (by omega) (by omega) (fun h89 => ?_) (fun h89 => absurd h89 (by omega))
        refine V_iconst (q := 138) g dX5_runScript_137 rfl ?_
        exact V_ireturn g r dX5_runScript_138 rfl (Or.inr ⟨by omega, hs0.symm, ⟨_, rfl⟩⟩)
  · refine V_iload (q := 14) g dX5_runScript_12 rfl rfl ?_
    refine V_iconst (q := 15) g dX5_runScript_14 rfl ?_
    refine V_icmp_ge (q := 18) g dX5_runScript_15 (tgt := 32) (by decide) rfl (by omega) (by omega) (fun h15 => absurd h15 (by omega)) (fun h15 => ?_)
    refine V_lload (q := 20) g dX5_runScript_18 rfl rfl ?_
    refine V_ldc2 (q := 23) g dX5_runScript_20 (z := 1000000) q_X5_227 (by decide) rfl ?_
    refine V_lmul (q := 24) g dX5_runScript_23 rfl ?_
    try simp only [Int.reduceMul]
    refine V_lstore_4 (q := 26) g dX5_runScript_24 (by decide) rfl rfl ?_
    refine V_iinc_6 (q := 29) g dX5_runScript_26 (by decide) rfl rfl ?_
    simp only [Int.reduceAdd]
    refine V_goto g dX5_runScript_29 (tgt := 6) (by decide) ?_
    refine V_iload (q := 8) g dX5_runScript_6 rfl rfl ?_
    refine V_iload_n (q := 9) g dX5_runScript_8 rfl rfl ?_
    refine V_icmp_ge (q := 12) g dX5_runScript_9 (tgt := 32) (by decide) rfl (by omega) (by omega) (fun h9 => ?_) (fun h9 => ?_)
    · refine V_aload_n (q := 33) g dX5_runScript_32 rfl rfl ?_
      refine V_iload_n (q := 34) g dX5_runScript_33 rfl rfl ?_
      refine V_i2l (q := 35) g dX5_runScript_34 (by omega) rfl ?_
      refine V_lconst (q := 36) g dX5_runScript_35 (z := 1) (by decide) rfl ?_
      refine V_ldc2 (q := 39) g dX5_runScript_36 (z := 3) q_X5_41 (by decide) rfl ?_
      refine V_callSI_3 (q := 42) g (c_X5_in l (by omega) (by omega) (by omega)) dX5_runScript_39 k_X5_37 rfl rfl ⟨rfl, rfl⟩ rfl (fun z7 M7 e7 => ?_)
      obtain ⟨e7, rfl⟩ := e7
      refine V_if_eq (q := 45) g dX5_runScript_42 (tgt := 61) (by decide) rfl (by omega) (fun h42 => ?_) (fun h42 => ?_)
      · refine V_iconst (q := 62) g dX5_runScript_61 rfl ?_
        refine V_callVI_1 (q := 65) g (b_refn l hL (by decide)) dX5_runScript_62 k_X5_105 hL.1 rfl rfl rfl rfl ⟨rfl, rfl⟩ rfl (fun z8 M8 e8 => ?_)
        obtain ⟨rfl, rfl⟩ := e8
        refine V_if_eq (q := 68) g dX5_runScript_65 (tgt := 70) (by decide) rfl (by omega) (fun h65 => absurd h65 (by omega)) (fun h65 => ?_)
        refine V_iconst (q := 69) g dX5_runScript_68 rfl ?_
        exact V_ireturn g r dX5_runScript_69 rfl (Or.inl ⟨by omega, rfl⟩)
      · refine V_lload_n (q := 46) g dX5_runScript_45 rfl rfl ?_
        refine V_lconst (q := 47) g dX5_runScript_46 (z := 0) (by decide) rfl ?_
        refine V_lload (q := 49) g dX5_runScript_47 rfl rfl ?_
        refine V_lconst (q := 50) g dX5_runScript_49 (z := 1) (by decide) rfl ?_
        refine V_lsub (q := 51) g dX5_runScript_50 rfl ?_
        have hp : sP n.toNat = 1000000 := by rw [show n = 1 by omega]; rfl
        refine V_callSI_3 (q := 54) g (c_X5_in l (by omega) (by omega) (by omega)) dX5_runScript_51 k_X5_37 rfl rfl ⟨rfl, rfl⟩ rfl (fun z9 M9 e9 => ?_)
        obtain ⟨e9, rfl⟩ := e9
        refine V_if_eq (q := 57) g dX5_runScript_54 (tgt := 61) (by decide) rfl (by omega) (fun h54 => ?_) (fun h54 => ?_)
        · refine V_iconst (q := 62) g dX5_runScript_61 rfl ?_
          refine V_callVI_1 (q := 65) g (b_refn l hL (by decide)) dX5_runScript_62 k_X5_105 hL.1 rfl rfl rfl rfl ⟨rfl, rfl⟩ rfl (fun z10 M10 e10 => ?_)
          obtain ⟨rfl, rfl⟩ := e10
          refine V_if_eq (q := 68) g dX5_runScript_65 (tgt := 70) (by decide) rfl (by omega) (fun h65 => absurd h65 (by omega)) (fun h65 => ?_)
          refine V_iconst (q := 69) g dX5_runScript_68 rfl ?_
          exact V_ireturn g r dX5_runScript_69 rfl (Or.inl ⟨by omega, rfl⟩)
        · refine V_iconst (q := 58) g dX5_runScript_57 rfl ?_
          refine V_goto g dX5_runScript_58 (tgt := 62) (by decide) ?_
          refine V_callVI_1 (q := 65) g (b_ref0 l hL) dX5_runScript_62 k_X5_105 hL.1 rfl rfl rfl rfl ⟨rfl, rfl⟩ rfl (fun z11 M11 e11 => ?_)
          obtain ⟨rfl, rfl⟩ := e11
          have hP : wr M m 0 0 (m + 2) = f := wrO hO (by omega)
          have hn : n = 1 := by omega
          subst hn
          have hf0 : Inv f := hI
          have hs0 : sRun s 1 0 f = sRun s 1 0 f := rfl
          refine V_if_eq (q := 68) g dX5_runScript_65 (tgt := 70) (by decide) rfl (by omega) (fun h65 => ?_) (fun h65 => absurd h65 (by omega))
          refine V_aload_n (q := 71) g dX5_runScript_70 rfl rfl ?_
          refine V_getR (q := 74) g dX5_runScript_71 rfl f_X5_13 rfl hL.1 rfl ?_
          refine V_iconst (q := 75) g dX5_runScript_74 rfl ?_
          refine V_aload_n (q := 76) g dX5_runScript_75 rfl rfl ?_
          refine V_getR (q := 79) g dX5_runScript_76 rfl f_X5_16 rfl hL.1 rfl ?_
          refine V_iconst (q := 80) g dX5_runScript_79 rfl ?_
          refine V_callSV_4 (q := 83) g (b_cpy0 l hL.2.2.1 hL.2.2.2.1 hP (by omega)) dX5_runScript_80 k_X5_192 rfl rfl ⟨rfl, rfl⟩ rfl (fun M12 e12 => ?_)
          obtain rfl := e12
          try simp only [aset_aset]
          refine V_iconst (q := 84) g dX5_runScript_83 rfl ?_
          refine V_istore_6 (q := 86) g dX5_runScript_84 (by decide) rfl rfl ?_
          refine V_iload (q := 88) g dX5_runScript_86 rfl rfl ?_
          refine V_iload_n (q := 89) g dX5_runScript_88 rfl rfl ?_
          refine V_icmp_ge (q := 92) g dX5_runScript_89 (tgt := 137) (by decide) rfl (by omega) (by omega) (fun h89 => absurd h89 (by omega)) (fun h89 => ?_)
          refine V_lload (q := 94) g dX5_runScript_92 rfl rfl ?_
          refine V_ldc2 (q := 97) g dX5_runScript_94 (z := 1000000) q_X5_227 (by decide) rfl ?_
          refine V_ldiv (q := 98) g dX5_runScript_97 (by omega) (by omega) rfl ?_
          simp only [Int.reduceDiv]
          refine V_lstore_4 (q := 100) g dX5_runScript_98 (by decide) rfl rfl ?_
          refine V_lload_n (q := 101) g dX5_runScript_100 rfl rfl ?_
          refine V_lload (q := 103) g dX5_runScript_101 rfl rfl ?_
          refine V_ldiv (q := 104) g dX5_runScript_103 (by omega) (by omega) rfl ?_
          refine V_ldc2 (q := 107) g dX5_runScript_104 (z := 1000000) q_X5_227 (by decide) rfl ?_
          refine V_lrem (q := 108) g dX5_runScript_107 (by omega) (by omega) rfl ?_
          refine V_l2i (q := 109) g dX5_runScript_108 rfl ?_
          have hg : s / 1 % 1000000 = sGr s 0 := rfl
          rw [hg]
          have hg1 : 0 ≤ sGr s 0 ∧ sGr s 0 < 1000000 := by rw [← hg]; omega
          refine V_istore_7 (q := 111) g dX5_runScript_109 (by decide) rfl rfl ?_
          refine V_aload_n (q := 112) g dX5_runScript_111 rfl rfl ?_
          refine V_iload (q := 114) g dX5_runScript_112 rfl rfl ?_
          refine V_ldc (q := 116) g dX5_runScript_114 (z := 100000) q_X5_237 (by decide) rfl ?_
          refine V_idiv (q := 117) g dX5_runScript_116 (by omega) (by omega) rfl ?_
          refine V_iload (q := 119) g dX5_runScript_117 rfl rfl ?_
          refine V_ldc (q := 121) g dX5_runScript_119 (z := 100000) q_X5_237 (by decide) rfl ?_
          refine V_irem (q := 122) g dX5_runScript_121 (by omega) (by omega) rfl ?_
          refine V_callVI_2 (q := 125) g (c_X5_command l hL (aset_at _ _ _) hf0 (by omega) (by omega)) dX5_runScript_122 k_X5_238 hL.1 rfl rfl rfl rfl ⟨rfl, rfl⟩ rfl (fun z13 M13 e13 => ?_)
          obtain e13 := e13
          rw [okG_eq, fG_eq] at e13
          refine V_if_ne (q := 128) g dX5_runScript_125 (tgt := 131) (by decide) rfl (by omega) (fun h125 => ?_) (fun h125 => ?_)
          · obtain ⟨q0, -, rfl⟩ := e13.resolve_right (by omega)
            simp only [aset_aset]
            have hf1 := Inv_G hf0 hg1.1 q0
            have hs1 := hs0.trans (sRun_1 q0)
            refine V_iinc_6 (q := 134) g dX5_runScript_131 (by decide) rfl rfl ?_
            simp only [Int.reduceAdd]
            refine V_goto g dX5_runScript_134 (tgt := 86) (by decide) ?_
            refine V_iload (q := 88) g dX5_runScript_86 rfl rfl ?_
            refine V_iload_n (q := 89) g dX5_runScript_88 rfl rfl ?_
            refine V_icmp_ge (q := 92) g dX5_runScript_89 (tgt := 137) (by decide) rfl (by omega) (by omega) (fun h89 => ?_) (fun h89 => absurd h89 (by omega))
            refine V_iconst (q := 138) g dX5_runScript_137 rfl ?_
            exact V_ireturn g r dX5_runScript_138 rfl (Or.inr ⟨by omega, hs1.symm, ⟨_, rfl⟩⟩)
          · obtain ⟨q0, -, t0, rfl⟩ := e13.resolve_left (by omega)
            simp only [aset_aset]
            have hs9 := hs0.trans (sRun_0 q0)
            refine V_iload (q := 130) g dX5_runScript_128 rfl rfl ?_
            exact V_ireturn g r dX5_runScript_130 rfl (Or.inr ⟨by omega, hs9.symm, ⟨_, rfl⟩⟩)
    · refine V_iload (q := 14) g dX5_runScript_12 rfl rfl ?_
      refine V_iconst (q := 15) g dX5_runScript_14 rfl ?_
      refine V_icmp_ge (q := 18) g dX5_runScript_15 (tgt := 32) (by decide) rfl (by omega) (by omega) (fun h15 => absurd h15 (by omega)) (fun h15 => ?_)
      refine V_lload (q := 20) g dX5_runScript_18 rfl rfl ?_
      refine V_ldc2 (q := 23) g dX5_runScript_20 (z := 1000000) q_X5_227 (by decide) rfl ?_
      refine V_lmul (q := 24) g dX5_runScript_23 rfl ?_
      try simp only [Int.reduceMul]
      refine V_lstore_4 (q := 26) g dX5_runScript_24 (by decide) rfl rfl ?_
      refine V_iinc_6 (q := 29) g dX5_runScript_26 (by decide) rfl rfl ?_
      simp only [Int.reduceAdd]
      refine V_goto g dX5_runScript_29 (tgt := 6) (by decide) ?_
      refine V_iload (q := 8) g dX5_runScript_6 rfl rfl ?_
      refine V_iload_n (q := 9) g dX5_runScript_8 rfl rfl ?_
      refine V_icmp_ge (q := 12) g dX5_runScript_9 (tgt := 32) (by decide) rfl (by omega) (by omega) (fun h9 => ?_) (fun h9 => ?_)
      · refine V_aload_n (q := 33) g dX5_runScript_32 rfl rfl ?_
        refine V_iload_n (q := 34) g dX5_runScript_33 rfl rfl ?_
        refine V_i2l (q := 35) g dX5_runScript_34 (by omega) rfl ?_
        refine V_lconst (q := 36) g dX5_runScript_35 (z := 1) (by decide) rfl ?_
        refine V_ldc2 (q := 39) g dX5_runScript_36 (z := 3) q_X5_41 (by decide) rfl ?_
        refine V_callSI_3 (q := 42) g (c_X5_in l (by omega) (by omega) (by omega)) dX5_runScript_39 k_X5_37 rfl rfl ⟨rfl, rfl⟩ rfl (fun z14 M14 e14 => ?_)
        obtain ⟨e14, rfl⟩ := e14
        refine V_if_eq (q := 45) g dX5_runScript_42 (tgt := 61) (by decide) rfl (by omega) (fun h42 => ?_) (fun h42 => ?_)
        · refine V_iconst (q := 62) g dX5_runScript_61 rfl ?_
          refine V_callVI_1 (q := 65) g (b_refn l hL (by decide)) dX5_runScript_62 k_X5_105 hL.1 rfl rfl rfl rfl ⟨rfl, rfl⟩ rfl (fun z15 M15 e15 => ?_)
          obtain ⟨rfl, rfl⟩ := e15
          refine V_if_eq (q := 68) g dX5_runScript_65 (tgt := 70) (by decide) rfl (by omega) (fun h65 => absurd h65 (by omega)) (fun h65 => ?_)
          refine V_iconst (q := 69) g dX5_runScript_68 rfl ?_
          exact V_ireturn g r dX5_runScript_69 rfl (Or.inl ⟨by omega, rfl⟩)
        · refine V_lload_n (q := 46) g dX5_runScript_45 rfl rfl ?_
          refine V_lconst (q := 47) g dX5_runScript_46 (z := 0) (by decide) rfl ?_
          refine V_lload (q := 49) g dX5_runScript_47 rfl rfl ?_
          refine V_lconst (q := 50) g dX5_runScript_49 (z := 1) (by decide) rfl ?_
          refine V_lsub (q := 51) g dX5_runScript_50 rfl ?_
          have hp : sP n.toNat = 1000000000000 := by rw [show n = 2 by omega]; rfl
          refine V_callSI_3 (q := 54) g (c_X5_in l (by omega) (by omega) (by omega)) dX5_runScript_51 k_X5_37 rfl rfl ⟨rfl, rfl⟩ rfl (fun z16 M16 e16 => ?_)
          obtain ⟨e16, rfl⟩ := e16
          refine V_if_eq (q := 57) g dX5_runScript_54 (tgt := 61) (by decide) rfl (by omega) (fun h54 => ?_) (fun h54 => ?_)
          · refine V_iconst (q := 62) g dX5_runScript_61 rfl ?_
            refine V_callVI_1 (q := 65) g (b_refn l hL (by decide)) dX5_runScript_62 k_X5_105 hL.1 rfl rfl rfl rfl ⟨rfl, rfl⟩ rfl (fun z17 M17 e17 => ?_)
            obtain ⟨rfl, rfl⟩ := e17
            refine V_if_eq (q := 68) g dX5_runScript_65 (tgt := 70) (by decide) rfl (by omega) (fun h65 => absurd h65 (by omega)) (fun h65 => ?_)
            refine V_iconst (q := 69) g dX5_runScript_68 rfl ?_
            exact V_ireturn g r dX5_runScript_69 rfl (Or.inl ⟨by omega, rfl⟩)
          · refine V_iconst (q := 58) g dX5_runScript_57 rfl ?_
            refine V_goto g dX5_runScript_58 (tgt := 62) (by decide) ?_
            refine V_callVI_1 (q := 65) g (b_ref0 l hL) dX5_runScript_62 k_X5_105 hL.1 rfl rfl rfl rfl ⟨rfl, rfl⟩ rfl (fun z18 M18 e18 => ?_)
            obtain ⟨rfl, rfl⟩ := e18
            have hP : wr M m 0 0 (m + 2) = f := wrO hO (by omega)
            have hn : n = 2 := by omega
            subst hn
            have hf0 : Inv f := hI
            have hs0 : sRun s 2 0 f = sRun s 2 0 f := rfl
            refine V_if_eq (q := 68) g dX5_runScript_65 (tgt := 70) (by decide) rfl (by omega) (fun h65 => ?_) (fun h65 => absurd h65 (by omega))
            refine V_aload_n (q := 71) g dX5_runScript_70 rfl rfl ?_
            refine V_getR (q := 74) g dX5_runScript_71 rfl f_X5_13 rfl hL.1 rfl ?_
            refine V_iconst (q := 75) g dX5_runScript_74 rfl ?_
            refine V_aload_n (q := 76) g dX5_runScript_75 rfl rfl ?_
            refine V_getR (q := 79) g dX5_runScript_76 rfl f_X5_16 rfl hL.1 rfl ?_
            refine V_iconst (q := 80) g dX5_runScript_79 rfl ?_
            refine V_callSV_4 (q := 83) g (b_cpy0 l hL.2.2.1 hL.2.2.2.1 hP (by omega)) dX5_runScript_80 k_X5_192 rfl rfl ⟨rfl, rfl⟩ rfl (fun M19 e19 => ?_)
            obtain rfl := e19
            try simp only [aset_aset]
            refine V_iconst (q := 84) g dX5_runScript_83 rfl ?_
            refine V_istore_6 (q := 86) g dX5_runScript_84 (by decide) rfl rfl ?_
            refine V_iload (q := 88) g dX5_runScript_86 rfl rfl ?_
            refine V_iload_n (q := 89) g dX5_runScript_88 rfl rfl ?_
            refine V_icmp_ge (q := 92) g dX5_runScript_89 (tgt := 137) (by decide) rfl (by omega) (by omega) (fun h89 => absurd h89 (by omega)) (fun h89 => ?_)
            refine V_lload (q := 94) g dX5_runScript_92 rfl rfl ?_
            refine V_ldc2 (q := 97) g dX5_runScript_94 (z := 1000000) q_X5_227 (by decide) rfl ?_
            refine V_ldiv (q := 98) g dX5_runScript_97 (by omega) (by omega) rfl ?_
            simp only [Int.reduceDiv]
            refine V_lstore_4 (q := 100) g dX5_runScript_98 (by decide) rfl rfl ?_
            refine V_lload_n (q := 101) g dX5_runScript_100 rfl rfl ?_
            refine V_lload (q := 103) g dX5_runScript_101 rfl rfl ?_
            refine V_ldiv (q := 104) g dX5_runScript_103 (by omega) (by omega) rfl ?_
            refine V_ldc2 (q := 107) g dX5_runScript_104 (z := 1000000) q_X5_227 (by decide) rfl ?_
            refine V_lrem (q := 108) g dX5_runScript_107 (by omega) (by omega) rfl ?_
            refine V_l2i (q := 109) g dX5_runScript_108 rfl ?_
            have hg : s / 1000000 % 1000000 = sGr s 1 := rfl
            rw [hg]
            have hg1 : 0 ≤ sGr s 1 ∧ sGr s 1 < 1000000 := by rw [← hg]; omega
            refine V_istore_7 (q := 111) g dX5_runScript_109 (by decide) rfl rfl ?_
            refine V_aload_n (q := 112) g dX5_runScript_111 rfl rfl ?_
            refine V_iload (q := 114) g dX5_runScript_112 rfl rfl ?_
            refine V_ldc (q := 116) g dX5_runScript_114 (z := 100000) q_X5_237 (by decide) rfl ?_
            refine V_idiv (q := 117) g dX5_runScript_116 (by omega) (by omega) rfl ?_
            refine V_iload (q := 119) g dX5_runScript_117 rfl rfl ?_
            refine V_ldc (q := 121) g dX5_runScript_119 (z := 100000) q_X5_237 (by decide) rfl ?_
            refine V_irem (q := 122) g dX5_runScript_121 (by omega) (by omega) rfl ?_
            refine V_callVI_2 (q := 125) g (c_X5_command l hL (aset_at _ _ _) hf0 (by omega) (by omega)) dX5_runScript_122 k_X5_238 hL.1 rfl rfl rfl rfl ⟨rfl, rfl⟩ rfl (fun z20 M20 e20 => ?_)
            obtain e20 := e20
            rw [okG_eq, fG_eq] at e20
            refine V_if_ne (q := 128) g dX5_runScript_125 (tgt := 131) (by decide) rfl (by omega) (fun h125 => ?_) (fun h125 => ?_)
            · obtain ⟨q0, -, rfl⟩ := e20.resolve_right (by omega)
              simp only [aset_aset]
              have hf1 := Inv_G hf0 hg1.1 q0
              have hs1 := hs0.trans (sRun_1 q0)
              refine V_iinc_6 (q := 134) g dX5_runScript_131 (by decide) rfl rfl ?_
              simp only [Int.reduceAdd]
              refine V_goto g dX5_runScript_134 (tgt := 86) (by decide) ?_
              refine V_iload (q := 88) g dX5_runScript_86 rfl rfl ?_
              refine V_iload_n (q := 89) g dX5_runScript_88 rfl rfl ?_
              refine V_icmp_ge (q := 92) g dX5_runScript_89 (tgt := 137) (by decide) rfl (by omega) (by omega) (fun h89 => absurd h89 (by omega)) (fun h89 => ?_)
              refine V_lload (q := 94) g dX5_runScript_92 rfl rfl ?_
              refine V_ldc2 (q := 97) g dX5_runScript_94 (z := 1000000) q_X5_227 (by decide) rfl ?_
              refine V_ldiv (q := 98) g dX5_runScript_97 (by omega) (by omega) rfl ?_
              simp only [Int.reduceDiv]
              refine V_lstore_4 (q := 100) g dX5_runScript_98 (by decide) rfl rfl ?_
              refine V_lload_n (q := 101) g dX5_runScript_100 rfl rfl ?_
              refine V_lload (q := 103) g dX5_runScript_101 rfl rfl ?_
              refine V_ldiv (q := 104) g dX5_runScript_103 (by omega) (by omega) rfl ?_
              refine V_ldc2 (q := 107) g dX5_runScript_104 (z := 1000000) q_X5_227 (by decide) rfl ?_
              refine V_lrem (q := 108) g dX5_runScript_107 (by omega) (by omega) rfl ?_
              refine V_l2i (q := 109) g dX5_runScript_108 rfl ?_
              have hg : s / 1 % 1000000 = sGr s 0 := rfl
              rw [hg]
              have hg1 : 0 ≤ sGr s 0 ∧ sGr s 0 < 1000000 := by rw [← hg]; omega
              refine V_istore_7 (q := 111) g dX5_runScript_109 (by decide) rfl rfl ?_
              refine V_aload_n (q := 112) g dX5_runScript_111 rfl rfl ?_
              refine V_iload (q := 114) g dX5_runScript_112 rfl rfl ?_
              refine V_ldc (q := 116) g dX5_runScript_114 (z := 100000) q_X5_237 (by decide) rfl ?_
              refine V_idiv (q := 117) g dX5_runScript_116 (by omega) (by omega) rfl ?_
              refine V_iload (q := 119) g dX5_runScript_117 rfl rfl ?_
              refine V_ldc (q := 121) g dX5_runScript_119 (z := 100000) q_X5_237 (by decide) rfl ?_
              refine V_irem (q := 122) g dX5_runScript_121 (by omega) (by omega) rfl ?_
              refine V_callVI_2 (q := 125) g (c_X5_command l hL (aset_at _ _ _) hf1 (by omega) (by omega)) dX5_runScript_122 k_X5_238 hL.1 rfl rfl rfl rfl ⟨rfl, rfl⟩ rfl (fun z21 M21 e21 => ?_)
              obtain e21 := e21
              rw [okG_eq, fG_eq] at e21
              refine V_if_ne (q := 128) g dX5_runScript_125 (tgt := 131) (by decide) rfl (by omega) (fun h125 => ?_) (fun h125 => ?_)
              · obtain ⟨q1, -, rfl⟩ := e21.resolve_right (by omega)
                simp only [aset_aset]
                have hf2 := Inv_G hf1 hg1.1 q1
                have hs2 := hs1.trans (sRun_1 q1)
                refine V_iinc_6 (q := 134) g dX5_runScript_131 (by decide) rfl rfl ?_
                simp only [Int.reduceAdd]
                refine V_goto g dX5_runScript_134 (tgt := 86) (by decide) ?_
                refine V_iload (q := 88) g dX5_runScript_86 rfl rfl ?_
                refine V_iload_n (q := 89) g dX5_runScript_88 rfl rfl ?_
                refine V_icmp_ge (q := 92) g dX5_runScript_89 (tgt := 137) (by decide) rfl (by omega) (by omega) (fun h89 => ?_) (fun h89 => absurd h89 (by omega))
                refine V_iconst (q := 138) g dX5_runScript_137 rfl ?_
                exact V_ireturn g r dX5_runScript_138 rfl (Or.inr ⟨by omega, hs2.symm, ⟨_, rfl⟩⟩)
              · obtain ⟨q1, -, t1, rfl⟩ := e21.resolve_left (by omega)
                simp only [aset_aset]
                have hs9 := hs1.trans (sRun_0 q1)
                refine V_iload (q := 130) g dX5_runScript_128 rfl rfl ?_
                exact V_ireturn g r dX5_runScript_130 rfl (Or.inr ⟨by omega, hs9.symm, ⟨_, rfl⟩⟩)
            · obtain ⟨q0, -, t0, rfl⟩ := e20.resolve_left (by omega)
              simp only [aset_aset]
              have hs9 := hs0.trans (sRun_0 q0)
              refine V_iload (q := 130) g dX5_runScript_128 rfl rfl ?_
              exact V_ireturn g r dX5_runScript_130 rfl (Or.inr ⟨by omega, hs9.symm, ⟨_, rfl⟩⟩)
      · refine V_iload (q := 14) g dX5_runScript_12 rfl rfl ?_
        refine V_iconst (q := 15) g dX5_runScript_14 rfl ?_
        refine V_icmp_ge (q := 18) g dX5_runScript_15 (tgt := 32) (by decide) rfl (by omega) (by omega) (fun h15 => absurd h15 (by omega)) (fun h15 => ?_)
        refine V_lload (q := 20) g dX5_runScript_18 rfl rfl ?_
        refine V_ldc2 (q := 23) g dX5_runScript_20 (z := 1000000) q_X5_227 (by decide) rfl ?_
        refine V_lmul (q := 24) g dX5_runScript_23 rfl ?_
        try simp only [Int.reduceMul]
        refine V_lstore_4 (q := 26) g dX5_runScript_24 (by decide) rfl rfl ?_
        refine V_iinc_6 (q := 29) g dX5_runScript_26 (by decide) rfl rfl ?_
        simp only [Int.reduceAdd]
        refine V_goto g dX5_runScript_29 (tgt := 6) (by decide) ?_
        refine V_iload (q := 8) g dX5_runScript_6 rfl rfl ?_
        refine V_iload_n (q := 9) g dX5_runScript_8 rfl rfl ?_
        refine V_icmp_ge (q := 12) g dX5_runScript_9 (tgt := 32) (by decide) rfl (by omega) (by omega) (fun h9 => ?_) (fun h9 => ?_)
        · refine V_aload_n (q := 33) g dX5_runScript_32 rfl rfl ?_
          refine V_iload_n (q := 34) g dX5_runScript_33 rfl rfl ?_
          refine V_i2l (q := 35) g dX5_runScript_34 (by omega) rfl ?_
          refine V_lconst (q := 36) g dX5_runScript_35 (z := 1) (by decide) rfl ?_
          refine V_ldc2 (q := 39) g dX5_runScript_36 (z := 3) q_X5_41 (by decide) rfl ?_
          refine V_callSI_3 (q := 42) g (c_X5_in l (by omega) (by omega) (by omega)) dX5_runScript_39 k_X5_37 rfl rfl ⟨rfl, rfl⟩ rfl (fun z22 M22 e22 => ?_)
          obtain ⟨e22, rfl⟩ := e22
          refine V_if_eq (q := 45) g dX5_runScript_42 (tgt := 61) (by decide) rfl (by omega) (fun h42 => ?_) (fun h42 => ?_)
          · refine V_iconst (q := 62) g dX5_runScript_61 rfl ?_
            refine V_callVI_1 (q := 65) g (b_refn l hL (by decide)) dX5_runScript_62 k_X5_105 hL.1 rfl rfl rfl rfl ⟨rfl, rfl⟩ rfl (fun z23 M23 e23 => ?_)
            obtain ⟨rfl, rfl⟩ := e23
            refine V_if_eq (q := 68) g dX5_runScript_65 (tgt := 70) (by decide) rfl (by omega) (fun h65 => absurd h65 (by omega)) (fun h65 => ?_)
            refine V_iconst (q := 69) g dX5_runScript_68 rfl ?_
            exact V_ireturn g r dX5_runScript_69 rfl (Or.inl ⟨by omega, rfl⟩)
          · refine V_lload_n (q := 46) g dX5_runScript_45 rfl rfl ?_
            refine V_lconst (q := 47) g dX5_runScript_46 (z := 0) (by decide) rfl ?_
            refine V_lload (q := 49) g dX5_runScript_47 rfl rfl ?_
            refine V_lconst (q := 50) g dX5_runScript_49 (z := 1) (by decide) rfl ?_
            refine V_lsub (q := 51) g dX5_runScript_50 rfl ?_
            have hp : sP n.toNat = 1000000000000000000 := by rw [show n = 3 by omega]; rfl
            refine V_callSI_3 (q := 54) g (c_X5_in l (by omega) (by omega) (by omega)) dX5_runScript_51 k_X5_37 rfl rfl ⟨rfl, rfl⟩ rfl (fun z24 M24 e24 => ?_)
            obtain ⟨e24, rfl⟩ := e24
            refine V_if_eq (q := 57) g dX5_runScript_54 (tgt := 61) (by decide) rfl (by omega) (fun h54 => ?_) (fun h54 => ?_)
            · refine V_iconst (q := 62) g dX5_runScript_61 rfl ?_
              refine V_callVI_1 (q := 65) g (b_refn l hL (by decide)) dX5_runScript_62 k_X5_105 hL.1 rfl rfl rfl rfl ⟨rfl, rfl⟩ rfl (fun z25 M25 e25 => ?_)
              obtain ⟨rfl, rfl⟩ := e25
              refine V_if_eq (q := 68) g dX5_runScript_65 (tgt := 70) (by decide) rfl (by omega) (fun h65 => absurd h65 (by omega)) (fun h65 => ?_)
              refine V_iconst (q := 69) g dX5_runScript_68 rfl ?_
              exact V_ireturn g r dX5_runScript_69 rfl (Or.inl ⟨by omega, rfl⟩)
            · refine V_iconst (q := 58) g dX5_runScript_57 rfl ?_
              refine V_goto g dX5_runScript_58 (tgt := 62) (by decide) ?_
              refine V_callVI_1 (q := 65) g (b_ref0 l hL) dX5_runScript_62 k_X5_105 hL.1 rfl rfl rfl rfl ⟨rfl, rfl⟩ rfl (fun z26 M26 e26 => ?_)
              obtain ⟨rfl, rfl⟩ := e26
              have hP : wr M m 0 0 (m + 2) = f := wrO hO (by omega)
              have hn : n = 3 := by omega
              subst hn
              have hf0 : Inv f := hI
              have hs0 : sRun s 3 0 f = sRun s 3 0 f := rfl
              refine V_if_eq (q := 68) g dX5_runScript_65 (tgt := 70) (by decide) rfl (by omega) (fun h65 => ?_) (fun h65 => absurd h65 (by omega))
              refine V_aload_n (q := 71) g dX5_runScript_70 rfl rfl ?_
              refine V_getR (q := 74) g dX5_runScript_71 rfl f_X5_13 rfl hL.1 rfl ?_
              refine V_iconst (q := 75) g dX5_runScript_74 rfl ?_
              refine V_aload_n (q := 76) g dX5_runScript_75 rfl rfl ?_
              refine V_getR (q := 79) g dX5_runScript_76 rfl f_X5_16 rfl hL.1 rfl ?_
              refine V_iconst (q := 80) g dX5_runScript_79 rfl ?_
              refine V_callSV_4 (q := 83) g (b_cpy0 l hL.2.2.1 hL.2.2.2.1 hP (by omega)) dX5_runScript_80 k_X5_192 rfl rfl ⟨rfl, rfl⟩ rfl (fun M27 e27 => ?_)
              obtain rfl := e27
              try simp only [aset_aset]
              refine V_iconst (q := 84) g dX5_runScript_83 rfl ?_
              refine V_istore_6 (q := 86) g dX5_runScript_84 (by decide) rfl rfl ?_
              refine V_iload (q := 88) g dX5_runScript_86 rfl rfl ?_
              refine V_iload_n (q := 89) g dX5_runScript_88 rfl rfl ?_
              refine V_icmp_ge (q := 92) g dX5_runScript_89 (tgt := 137) (by decide) rfl (by omega) (by omega) (fun h89 => absurd h89 (by omega)) (fun h89 => ?_)
              refine V_lload (q := 94) g dX5_runScript_92 rfl rfl ?_
              refine V_ldc2 (q := 97) g dX5_runScript_94 (z := 1000000) q_X5_227 (by decide) rfl ?_
              refine V_ldiv (q := 98) g dX5_runScript_97 (by omega) (by omega) rfl ?_
              simp only [Int.reduceDiv]
              refine V_lstore_4 (q := 100) g dX5_runScript_98 (by decide) rfl rfl ?_
              refine V_lload_n (q := 101) g dX5_runScript_100 rfl rfl ?_
              refine V_lload (q := 103) g dX5_runScript_101 rfl rfl ?_
              refine V_ldiv (q := 104) g dX5_runScript_103 (by omega) (by omega) rfl ?_
              refine V_ldc2 (q := 107) g dX5_runScript_104 (z := 1000000) q_X5_227 (by decide) rfl ?_
              refine V_lrem (q := 108) g dX5_runScript_107 (by omega) (by omega) rfl ?_
              refine V_l2i (q := 109) g dX5_runScript_108 rfl ?_
              have hg : s / 1000000000000 % 1000000 = sGr s 2 := rfl
              rw [hg]
              have hg1 : 0 ≤ sGr s 2 ∧ sGr s 2 < 1000000 := by rw [← hg]; omega
              refine V_istore_7 (q := 111) g dX5_runScript_109 (by decide) rfl rfl ?_
              refine V_aload_n (q := 112) g dX5_runScript_111 rfl rfl ?_
              refine V_iload (q := 114) g dX5_runScript_112 rfl rfl ?_
              refine V_ldc (q := 116) g dX5_runScript_114 (z := 100000) q_X5_237 (by decide) rfl ?_
              refine V_idiv (q := 117) g dX5_runScript_116 (by omega) (by omega) rfl ?_
              refine V_iload (q := 119) g dX5_runScript_117 rfl rfl ?_
              refine V_ldc (q := 121) g dX5_runScript_119 (z := 100000) q_X5_237 (by decide) rfl ?_
              refine V_irem (q := 122) g dX5_runScript_121 (by omega) (by omega) rfl ?_
              refine V_callVI_2 (q := 125) g (c_X5_command l hL (aset_at _ _ _) hf0 (by omega) (by omega)) dX5_runScript_122 k_X5_238 hL.1 rfl rfl rfl rfl ⟨rfl, rfl⟩ rfl (fun z28 M28 e28 => ?_)
              obtain e28 := e28
              rw [okG_eq, fG_eq] at e28
              refine V_if_ne (q := 128) g dX5_runScript_125 (tgt := 131) (by decide) rfl (by omega) (fun h125 => ?_) (fun h125 => ?_)
              · obtain ⟨q0, -, rfl⟩ := e28.resolve_right (by omega)
                simp only [aset_aset]
                have hf1 := Inv_G hf0 hg1.1 q0
                have hs1 := hs0.trans (sRun_1 q0)
                refine V_iinc_6 (q := 134) g dX5_runScript_131 (by decide) rfl rfl ?_
                simp only [Int.reduceAdd]
                refine V_goto g dX5_runScript_134 (tgt := 86) (by decide) ?_
                refine V_iload (q := 88) g dX5_runScript_86 rfl rfl ?_
                refine V_iload_n (q := 89) g dX5_runScript_88 rfl rfl ?_
                refine V_icmp_ge (q := 92) g dX5_runScript_89 (tgt := 137) (by decide) rfl (by omega) (by omega) (fun h89 => absurd h89 (by omega)) (fun h89 => ?_)
                refine V_lload (q := 94) g dX5_runScript_92 rfl rfl ?_
                refine V_ldc2 (q := 97) g dX5_runScript_94 (z := 1000000) q_X5_227 (by decide) rfl ?_
                refine V_ldiv (q := 98) g dX5_runScript_97 (by omega) (by omega) rfl ?_
                simp only [Int.reduceDiv]
                refine V_lstore_4 (q := 100) g dX5_runScript_98 (by decide) rfl rfl ?_
                refine V_lload_n (q := 101) g dX5_runScript_100 rfl rfl ?_
                refine V_lload (q := 103) g dX5_runScript_101 rfl rfl ?_
                refine V_ldiv (q := 104) g dX5_runScript_103 (by omega) (by omega) rfl ?_
                refine V_ldc2 (q := 107) g dX5_runScript_104 (z := 1000000) q_X5_227 (by decide) rfl ?_
                refine V_lrem (q := 108) g dX5_runScript_107 (by omega) (by omega) rfl ?_
                refine V_l2i (q := 109) g dX5_runScript_108 rfl ?_
                have hg : s / 1000000 % 1000000 = sGr s 1 := rfl
                rw [hg]
                have hg1 : 0 ≤ sGr s 1 ∧ sGr s 1 < 1000000 := by rw [← hg]; omega
                refine V_istore_7 (q := 111) g dX5_runScript_109 (by decide) rfl rfl ?_
                refine V_aload_n (q := 112) g dX5_runScript_111 rfl rfl ?_
                refine V_iload (q := 114) g dX5_runScript_112 rfl rfl ?_
                refine V_ldc (q := 116) g dX5_runScript_114 (z := 100000) q_X5_237 (by decide) rfl ?_
                refine V_idiv (q := 117) g dX5_runScript_116 (by omega) (by omega) rfl ?_
                refine V_iload (q := 119) g dX5_runScript_117 rfl rfl ?_
                refine V_ldc (q := 121) g dX5_runScript_119 (z := 100000) q_X5_237 (by decide) rfl ?_
                refine V_irem (q := 122) g dX5_runScript_121 (by omega) (by omega) rfl ?_
                refine V_callVI_2 (q := 125) g (c_X5_command l hL (aset_at _ _ _) hf1 (by omega) (by omega)) dX5_runScript_122 k_X5_238 hL.1 rfl rfl rfl rfl ⟨rfl, rfl⟩ rfl (fun z29 M29 e29 => ?_)
                obtain e29 := e29
                rw [okG_eq, fG_eq] at e29
                refine V_if_ne (q := 128) g dX5_runScript_125 (tgt := 131) (by decide) rfl (by omega) (fun h125 => ?_) (fun h125 => ?_)
                · obtain ⟨q1, -, rfl⟩ := e29.resolve_right (by omega)
                  simp only [aset_aset]
                  have hf2 := Inv_G hf1 hg1.1 q1
                  have hs2 := hs1.trans (sRun_1 q1)
                  refine V_iinc_6 (q := 134) g dX5_runScript_131 (by decide) rfl rfl ?_
                  simp only [Int.reduceAdd]
                  refine V_goto g dX5_runScript_134 (tgt := 86) (by decide) ?_
                  refine V_iload (q := 88) g dX5_runScript_86 rfl rfl ?_
                  refine V_iload_n (q := 89) g dX5_runScript_88 rfl rfl ?_
                  refine V_icmp_ge (q := 92) g dX5_runScript_89 (tgt := 137) (by decide) rfl (by omega) (by omega) (fun h89 => absurd h89 (by omega)) (fun h89 => ?_)
                  refine V_lload (q := 94) g dX5_runScript_92 rfl rfl ?_
                  refine V_ldc2 (q := 97) g dX5_runScript_94 (z := 1000000) q_X5_227 (by decide) rfl ?_
                  refine V_ldiv (q := 98) g dX5_runScript_97 (by omega) (by omega) rfl ?_
                  simp only [Int.reduceDiv]
                  refine V_lstore_4 (q := 100) g dX5_runScript_98 (by decide) rfl rfl ?_
                  refine V_lload_n (q := 101) g dX5_runScript_100 rfl rfl ?_
                  refine V_lload (q := 103) g dX5_runScript_101 rfl rfl ?_
                  refine V_ldiv (q := 104) g dX5_runScript_103 (by omega) (by omega) rfl ?_
                  refine V_ldc2 (q := 107) g dX5_runScript_104 (z := 1000000) q_X5_227 (by decide) rfl ?_
                  refine V_lrem (q := 108) g dX5_runScript_107 (by omega) (by omega) rfl ?_
                  refine V_l2i (q := 109) g dX5_runScript_108 rfl ?_
                  have hg : s / 1 % 1000000 = sGr s 0 := rfl
                  rw [hg]
                  have hg1 : 0 ≤ sGr s 0 ∧ sGr s 0 < 1000000 := by rw [← hg]; omega
                  refine V_istore_7 (q := 111) g dX5_runScript_109 (by decide) rfl rfl ?_
                  refine V_aload_n (q := 112) g dX5_runScript_111 rfl rfl ?_
                  refine V_iload (q := 114) g dX5_runScript_112 rfl rfl ?_
                  refine V_ldc (q := 116) g dX5_runScript_114 (z := 100000) q_X5_237 (by decide) rfl ?_
                  refine V_idiv (q := 117) g dX5_runScript_116 (by omega) (by omega) rfl ?_
                  refine V_iload (q := 119) g dX5_runScript_117 rfl rfl ?_
                  refine V_ldc (q := 121) g dX5_runScript_119 (z := 100000) q_X5_237 (by decide) rfl ?_
                  refine V_irem (q := 122) g dX5_runScript_121 (by omega) (by omega) rfl ?_
                  refine V_callVI_2 (q := 125) g (c_X5_command l hL (aset_at _ _ _) hf2 (by omega) (by omega)) dX5_runScript_122 k_X5_238 hL.1 rfl rfl rfl rfl ⟨rfl, rfl⟩ rfl (fun z30 M30 e30 => ?_)
                  obtain e30 := e30
                  rw [okG_eq, fG_eq] at e30
                  refine V_if_ne (q := 128) g dX5_runScript_125 (tgt := 131) (by decide) rfl (by omega) (fun h125 => ?_) (fun h125 => ?_)
                  · obtain ⟨q2, -, rfl⟩ := e30.resolve_right (by omega)
                    simp only [aset_aset]
                    have hf3 := Inv_G hf2 hg1.1 q2
                    have hs3 := hs2.trans (sRun_1 q2)
                    refine V_iinc_6 (q := 134) g dX5_runScript_131 (by decide) rfl rfl ?_
                    simp only [Int.reduceAdd]
                    refine V_goto g dX5_runScript_134 (tgt := 86) (by decide) ?_
                    refine V_iload (q := 88) g dX5_runScript_86 rfl rfl ?_
                    refine V_iload_n (q := 89) g dX5_runScript_88 rfl rfl ?_
                    refine V_icmp_ge (q := 92) g dX5_runScript_89 (tgt := 137) (by decide) rfl (by omega) (by omega) (fun h89 => ?_) (fun h89 => absurd h89 (by omega))
                    refine V_iconst (q := 138) g dX5_runScript_137 rfl ?_
                    exact V_ireturn g r dX5_runScript_138 rfl (Or.inr ⟨by omega, hs3.symm, ⟨_, rfl⟩⟩)
                  · obtain ⟨q2, -, t2, rfl⟩ := e30.resolve_left (by omega)
                    simp only [aset_aset]
                    have hs9 := hs2.trans (sRun_0 q2)
                    refine V_iload (q := 130) g dX5_runScript_128 rfl rfl ?_
                    exact V_ireturn g r dX5_runScript_130 rfl (Or.inr ⟨by omega, hs9.symm, ⟨_, rfl⟩⟩)
                · obtain ⟨q1, -, t1, rfl⟩ := e29.resolve_left (by omega)
                  simp only [aset_aset]
                  have hs9 := hs1.trans (sRun_0 q1)
                  refine V_iload (q := 130) g dX5_runScript_128 rfl rfl ?_
                  exact V_ireturn g r dX5_runScript_130 rfl (Or.inr ⟨by omega, hs9.symm, ⟨_, rfl⟩⟩)
              · obtain ⟨q0, -, t0, rfl⟩ := e28.resolve_left (by omega)
                simp only [aset_aset]
                have hs9 := hs0.trans (sRun_0 q0)
                refine V_iload (q := 130) g dX5_runScript_128 rfl rfl ?_
                exact V_ireturn g r dX5_runScript_130 rfl (Or.inr ⟨by omega, hs9.symm, ⟨_, rfl⟩⟩)
        · refine V_iload (q := 14) g dX5_runScript_12 rfl rfl ?_
          refine V_iconst (q := 15) g dX5_runScript_14 rfl ?_
          refine V_icmp_ge (q := 18) g dX5_runScript_15 (tgt := 32) (by decide) rfl (by omega) (by omega) (fun h15 => ?_) (fun h15 => absurd h15 (by omega))
          refine V_aload_n (q := 33) g dX5_runScript_32 rfl rfl ?_
          refine V_iload_n (q := 34) g dX5_runScript_33 rfl rfl ?_
          refine V_i2l (q := 35) g dX5_runScript_34 (by omega) rfl ?_
          refine V_lconst (q := 36) g dX5_runScript_35 (z := 1) (by decide) rfl ?_
          refine V_ldc2 (q := 39) g dX5_runScript_36 (z := 3) q_X5_41 (by decide) rfl ?_
          refine V_callSI_3 (q := 42) g (c_X5_in l (by omega) (by omega) (by omega)) dX5_runScript_39 k_X5_37 rfl rfl ⟨rfl, rfl⟩ rfl (fun z31 M31 e31 => ?_)
          obtain ⟨e31, rfl⟩ := e31
          refine V_if_eq (q := 45) g dX5_runScript_42 (tgt := 61) (by decide) rfl (by omega) (fun h42 => ?_) (fun h42 => ?_)
          · refine V_iconst (q := 62) g dX5_runScript_61 rfl ?_
            refine V_callVI_1 (q := 65) g (b_refn l hL (by decide)) dX5_runScript_62 k_X5_105 hL.1 rfl rfl rfl rfl ⟨rfl, rfl⟩ rfl (fun z32 M32 e32 => ?_)
            obtain ⟨rfl, rfl⟩ := e32
            refine V_if_eq (q := 68) g dX5_runScript_65 (tgt := 70) (by decide) rfl (by omega) (fun h65 => absurd h65 (by omega)) (fun h65 => ?_)
            refine V_iconst (q := 69) g dX5_runScript_68 rfl ?_
            exact V_ireturn g r dX5_runScript_69 rfl (Or.inl ⟨by omega, rfl⟩)
          · refine V_lload_n (q := 46) g dX5_runScript_45 rfl rfl ?_
            refine V_lconst (q := 47) g dX5_runScript_46 (z := 0) (by decide) rfl ?_
            refine V_lload (q := 49) g dX5_runScript_47 rfl rfl ?_
            refine V_lconst (q := 50) g dX5_runScript_49 (z := 1) (by decide) rfl ?_
            refine V_lsub (q := 51) g dX5_runScript_50 rfl ?_
            have hp : sP n.toNat = 1000000000000000000 := by rw [show n = 3 by omega]; rfl
            refine V_callSI_3 (q := 54) g (c_X5_in l (by omega) (by omega) (by omega)) dX5_runScript_51 k_X5_37 rfl rfl ⟨rfl, rfl⟩ rfl (fun z33 M33 e33 => ?_)
            obtain ⟨e33, rfl⟩ := e33
            refine V_if_eq (q := 57) g dX5_runScript_54 (tgt := 61) (by decide) rfl (by omega) (fun h54 => ?_) (fun h54 => ?_)
            · refine V_iconst (q := 62) g dX5_runScript_61 rfl ?_
              refine V_callVI_1 (q := 65) g (b_refn l hL (by decide)) dX5_runScript_62 k_X5_105 hL.1 rfl rfl rfl rfl ⟨rfl, rfl⟩ rfl (fun z34 M34 e34 => ?_)
              obtain ⟨rfl, rfl⟩ := e34
              refine V_if_eq (q := 68) g dX5_runScript_65 (tgt := 70) (by decide) rfl (by omega) (fun h65 => absurd h65 (by omega)) (fun h65 => ?_)
              refine V_iconst (q := 69) g dX5_runScript_68 rfl ?_
              exact V_ireturn g r dX5_runScript_69 rfl (Or.inl ⟨by omega, rfl⟩)
            · refine V_iconst (q := 58) g dX5_runScript_57 rfl ?_
              refine V_goto g dX5_runScript_58 (tgt := 62) (by decide) ?_
              refine V_callVI_1 (q := 65) g (b_ref0 l hL) dX5_runScript_62 k_X5_105 hL.1 rfl rfl rfl rfl ⟨rfl, rfl⟩ rfl (fun z35 M35 e35 => ?_)
              obtain ⟨rfl, rfl⟩ := e35
              have hP : wr M m 0 0 (m + 2) = f := wrO hO (by omega)
              have hn : n = 3 := by omega
              subst hn
              have hf0 : Inv f := hI
              have hs0 : sRun s 3 0 f = sRun s 3 0 f := rfl
              refine V_if_eq (q := 68) g dX5_runScript_65 (tgt := 70) (by decide) rfl (by omega) (fun h65 => ?_) (fun h65 => absurd h65 (by omega))
              refine V_aload_n (q := 71) g dX5_runScript_70 rfl rfl ?_
              refine V_getR (q := 74) g dX5_runScript_71 rfl f_X5_13 rfl hL.1 rfl ?_
              refine V_iconst (q := 75) g dX5_runScript_74 rfl ?_
              refine V_aload_n (q := 76) g dX5_runScript_75 rfl rfl ?_
              refine V_getR (q := 79) g dX5_runScript_76 rfl f_X5_16 rfl hL.1 rfl ?_
              refine V_iconst (q := 80) g dX5_runScript_79 rfl ?_
              refine V_callSV_4 (q := 83) g (b_cpy0 l hL.2.2.1 hL.2.2.2.1 hP (by omega)) dX5_runScript_80 k_X5_192 rfl rfl ⟨rfl, rfl⟩ rfl (fun M36 e36 => ?_)
              obtain rfl := e36
              try simp only [aset_aset]
              refine V_iconst (q := 84) g dX5_runScript_83 rfl ?_
              refine V_istore_6 (q := 86) g dX5_runScript_84 (by decide) rfl rfl ?_
              refine V_iload (q := 88) g dX5_runScript_86 rfl rfl ?_
              refine V_iload_n (q := 89) g dX5_runScript_88 rfl rfl ?_
              refine V_icmp_ge (q := 92) g dX5_runScript_89 (tgt := 137) (by decide) rfl (by omega) (by omega) (fun h89 => absurd h89 (by omega)) (fun h89 => ?_)
              refine V_lload (q := 94) g dX5_runScript_92 rfl rfl ?_
              refine V_ldc2 (q := 97) g dX5_runScript_94 (z := 1000000) q_X5_227 (by decide) rfl ?_
              refine V_ldiv (q := 98) g dX5_runScript_97 (by omega) (by omega) rfl ?_
              simp only [Int.reduceDiv]
              refine V_lstore_4 (q := 100) g dX5_runScript_98 (by decide) rfl rfl ?_
              refine V_lload_n (q := 101) g dX5_runScript_100 rfl rfl ?_
              refine V_lload (q := 103) g dX5_runScript_101 rfl rfl ?_
              refine V_ldiv (q := 104) g dX5_runScript_103 (by omega) (by omega) rfl ?_
              refine V_ldc2 (q := 107) g dX5_runScript_104 (z := 1000000) q_X5_227 (by decide) rfl ?_
              refine V_lrem (q := 108) g dX5_runScript_107 (by omega) (by omega) rfl ?_
              refine V_l2i (q := 109) g dX5_runScript_108 rfl ?_
              have hg : s / 1000000000000 % 1000000 = sGr s 2 := rfl
              rw [hg]
              have hg1 : 0 ≤ sGr s 2 ∧ sGr s 2 < 1000000 := by rw [← hg]; omega
              refine V_istore_7 (q := 111) g dX5_runScript_109 (by decide) rfl rfl ?_
              refine V_aload_n (q := 112) g dX5_runScript_111 rfl rfl ?_
              refine V_iload (q := 114) g dX5_runScript_112 rfl rfl ?_
              refine V_ldc (q := 116) g dX5_runScript_114 (z := 100000) q_X5_237 (by decide) rfl ?_
              refine V_idiv (q := 117) g dX5_runScript_116 (by omega) (by omega) rfl ?_
              refine V_iload (q := 119) g dX5_runScript_117 rfl rfl ?_
              refine V_ldc (q := 121) g dX5_runScript_119 (z := 100000) q_X5_237 (by decide) rfl ?_
              refine V_irem (q := 122) g dX5_runScript_121 (by omega) (by omega) rfl ?_
              refine V_callVI_2 (q := 125) g (c_X5_command l hL (aset_at _ _ _) hf0 (by omega) (by omega)) dX5_runScript_122 k_X5_238 hL.1 rfl rfl rfl rfl ⟨rfl, rfl⟩ rfl (fun z37 M37 e37 => ?_)
              obtain e37 := e37
              rw [okG_eq, fG_eq] at e37
              refine V_if_ne (q := 128) g dX5_runScript_125 (tgt := 131) (by decide) rfl (by omega) (fun h125 => ?_) (fun h125 => ?_)
              · obtain ⟨q0, -, rfl⟩ := e37.resolve_right (by omega)
                simp only [aset_aset]
                have hf1 := Inv_G hf0 hg1.1 q0
                have hs1 := hs0.trans (sRun_1 q0)
                refine V_iinc_6 (q := 134) g dX5_runScript_131 (by decide) rfl rfl ?_
                simp only [Int.reduceAdd]
                refine V_goto g dX5_runScript_134 (tgt := 86) (by decide) ?_
                refine V_iload (q := 88) g dX5_runScript_86 rfl rfl ?_
                refine V_iload_n (q := 89) g dX5_runScript_88 rfl rfl ?_
                refine V_icmp_ge (q := 92) g dX5_runScript_89 (tgt := 137) (by decide) rfl (by omega) (by omega) (fun h89 => absurd h89 (by omega)) (fun h89 => ?_)
                refine V_lload (q := 94) g dX5_runScript_92 rfl rfl ?_
                refine V_ldc2 (q := 97) g dX5_runScript_94 (z := 1000000) q_X5_227 (by decide) rfl ?_
                refine V_ldiv (q := 98) g dX5_runScript_97 (by omega) (by omega) rfl ?_
                simp only [Int.reduceDiv]
                refine V_lstore_4 (q := 100) g dX5_runScript_98 (by decide) rfl rfl ?_
                refine V_lload_n (q := 101) g dX5_runScript_100 rfl rfl ?_
                refine V_lload (q := 103) g dX5_runScript_101 rfl rfl ?_
                refine V_ldiv (q := 104) g dX5_runScript_103 (by omega) (by omega) rfl ?_
                refine V_ldc2 (q := 107) g dX5_runScript_104 (z := 1000000) q_X5_227 (by decide) rfl ?_
                refine V_lrem (q := 108) g dX5_runScript_107 (by omega) (by omega) rfl ?_
                refine V_l2i (q := 109) g dX5_runScript_108 rfl ?_
                have hg : s / 1000000 % 1000000 = sGr s 1 := rfl
                rw [hg]
                have hg1 : 0 ≤ sGr s 1 ∧ sGr s 1 < 1000000 := by rw [← hg]; omega
                refine V_istore_7 (q := 111) g dX5_runScript_109 (by decide) rfl rfl ?_
                refine V_aload_n (q := 112) g dX5_runScript_111 rfl rfl ?_
                refine V_iload (q := 114) g dX5_runScript_112 rfl rfl ?_
                refine V_ldc (q := 116) g dX5_runScript_114 (z := 100000) q_X5_237 (by decide) rfl ?_
                refine V_idiv (q := 117) g dX5_runScript_116 (by omega) (by omega) rfl ?_
                refine V_iload (q := 119) g dX5_runScript_117 rfl rfl ?_
                refine V_ldc (q := 121) g dX5_runScript_119 (z := 100000) q_X5_237 (by decide) rfl ?_
                refine V_irem (q := 122) g dX5_runScript_121 (by omega) (by omega) rfl ?_
                refine V_callVI_2 (q := 125) g (c_X5_command l hL (aset_at _ _ _) hf1 (by omega) (by omega)) dX5_runScript_122 k_X5_238 hL.1 rfl rfl rfl rfl ⟨rfl, rfl⟩ rfl (fun z38 M38 e38 => ?_)
                obtain e38 := e38
                rw [okG_eq, fG_eq] at e38
                refine V_if_ne (q := 128) g dX5_runScript_125 (tgt := 131) (by decide) rfl (by omega) (fun h125 => ?_) (fun h125 => ?_)
                · obtain ⟨q1, -, rfl⟩ := e38.resolve_right (by omega)
                  simp only [aset_aset]
                  have hf2 := Inv_G hf1 hg1.1 q1
                  have hs2 := hs1.trans (sRun_1 q1)
                  refine V_iinc_6 (q := 134) g dX5_runScript_131 (by decide) rfl rfl ?_
                  simp only [Int.reduceAdd]
                  refine V_goto g dX5_runScript_134 (tgt := 86) (by decide) ?_
                  refine V_iload (q := 88) g dX5_runScript_86 rfl rfl ?_
                  refine V_iload_n (q := 89) g dX5_runScript_88 rfl rfl ?_
                  refine V_icmp_ge (q := 92) g dX5_runScript_89 (tgt := 137) (by decide) rfl (by omega) (by omega) (fun h89 => absurd h89 (by omega)) (fun h89 => ?_)
                  refine V_lload (q := 94) g dX5_runScript_92 rfl rfl ?_
                  refine V_ldc2 (q := 97) g dX5_runScript_94 (z := 1000000) q_X5_227 (by decide) rfl ?_
                  refine V_ldiv (q := 98) g dX5_runScript_97 (by omega) (by omega) rfl ?_
                  simp only [Int.reduceDiv]
                  refine V_lstore_4 (q := 100) g dX5_runScript_98 (by decide) rfl rfl ?_
                  refine V_lload_n (q := 101) g dX5_runScript_100 rfl rfl ?_
                  refine V_lload (q := 103) g dX5_runScript_101 rfl rfl ?_
                  refine V_ldiv (q := 104) g dX5_runScript_103 (by omega) (by omega) rfl ?_
                  refine V_ldc2 (q := 107) g dX5_runScript_104 (z := 1000000) q_X5_227 (by decide) rfl ?_
                  refine V_lrem (q := 108) g dX5_runScript_107 (by omega) (by omega) rfl ?_
                  refine V_l2i (q := 109) g dX5_runScript_108 rfl ?_
                  have hg : s / 1 % 1000000 = sGr s 0 := rfl
                  rw [hg]
                  have hg1 : 0 ≤ sGr s 0 ∧ sGr s 0 < 1000000 := by rw [← hg]; omega
                  refine V_istore_7 (q := 111) g dX5_runScript_109 (by decide) rfl rfl ?_
                  refine V_aload_n (q := 112) g dX5_runScript_111 rfl rfl ?_
                  refine V_iload (q := 114) g dX5_runScript_112 rfl rfl ?_
                  refine V_ldc (q := 116) g dX5_runScript_114 (z := 100000) q_X5_237 (by decide) rfl ?_
                  refine V_idiv (q := 117) g dX5_runScript_116 (by omega) (by omega) rfl ?_
                  refine V_iload (q := 119) g dX5_runScript_117 rfl rfl ?_
                  refine V_ldc (q := 121) g dX5_runScript_119 (z := 100000) q_X5_237 (by decide) rfl ?_
                  refine V_irem (q := 122) g dX5_runScript_121 (by omega) (by omega) rfl ?_
                  refine V_callVI_2 (q := 125) g (c_X5_command l hL (aset_at _ _ _) hf2 (by omega) (by omega)) dX5_runScript_122 k_X5_238 hL.1 rfl rfl rfl rfl ⟨rfl, rfl⟩ rfl (fun z39 M39 e39 => ?_)
                  obtain e39 := e39
                  rw [okG_eq, fG_eq] at e39
                  refine V_if_ne (q := 128) g dX5_runScript_125 (tgt := 131) (by decide) rfl (by omega) (fun h125 => ?_) (fun h125 => ?_)
                  · obtain ⟨q2, -, rfl⟩ := e39.resolve_right (by omega)
                    simp only [aset_aset]
                    have hf3 := Inv_G hf2 hg1.1 q2
                    have hs3 := hs2.trans (sRun_1 q2)
                    refine V_iinc_6 (q := 134) g dX5_runScript_131 (by decide) rfl rfl ?_
                    simp only [Int.reduceAdd]
                    refine V_goto g dX5_runScript_134 (tgt := 86) (by decide) ?_
                    refine V_iload (q := 88) g dX5_runScript_86 rfl rfl ?_
                    refine V_iload_n (q := 89) g dX5_runScript_88 rfl rfl ?_
                    refine V_icmp_ge (q := 92) g dX5_runScript_89 (tgt := 137) (by decide) rfl (by omega) (by omega) (fun h89 => ?_) (fun h89 => absurd h89 (by omega))
                    refine V_iconst (q := 138) g dX5_runScript_137 rfl ?_
                    exact V_ireturn g r dX5_runScript_138 rfl (Or.inr ⟨by omega, hs3.symm, ⟨_, rfl⟩⟩)
                  · obtain ⟨q2, -, t2, rfl⟩ := e39.resolve_left (by omega)
                    simp only [aset_aset]
                    have hs9 := hs2.trans (sRun_0 q2)
                    refine V_iload (q := 130) g dX5_runScript_128 rfl rfl ?_
                    exact V_ireturn g r dX5_runScript_130 rfl (Or.inr ⟨by omega, hs9.symm, ⟨_, rfl⟩⟩)
                · obtain ⟨q1, -, t1, rfl⟩ := e38.resolve_left (by omega)
                  simp only [aset_aset]
                  have hs9 := hs1.trans (sRun_0 q1)
                  refine V_iload (q := 130) g dX5_runScript_128 rfl rfl ?_
                  exact V_ireturn g r dX5_runScript_130 rfl (Or.inr ⟨by omega, hs9.symm, ⟨_, rfl⟩⟩)
              · obtain ⟨q0, -, t0, rfl⟩ := e37.resolve_left (by omega)
                simp only [aset_aset]
                have hs9 := hs0.trans (sRun_0 q0)
                refine V_iload (q := 130) g dX5_runScript_128 rfl rfl ?_
                exact V_ireturn g r dX5_runScript_130 rfl (Or.inr ⟨by omega, hs9.symm, ⟨_, rfl⟩⟩)
