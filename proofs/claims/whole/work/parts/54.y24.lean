set_option maxHeartbeats 4000000 in
set_option maxRecDepth 100000 in
/-- one after the other of the script's rows -/
theorem lw_loop {Γ : VG} {D : DD} {Λ : LY} {l : Launch} {s b L : Nat} {xs : Nat → Int32} (hfl : l.stackTraces = false) (w : LC Γ D Λ l s b L xs) (hend : ∀ (M : MM) (κ : Nat × Nat) (lv : List (Option Value)), κ.1 ≤ 601024 ∧ κ.2 ≤ 7293034 → V Γ D Λ M κ 2154 lv [vi 1]) :
    ∀ (n : Nat) (i : Int) (M : MM) (κ : Nat × Nat) (y5 y6 : Option Value) (f : Int → Int), (L : Int) - i ≤ 5 * n + 4 → 0 ≤ i ∧ i ≤ 3000 → κ.1 + 3 * n ≤ 601024 ∧ κ.2 + 18 * n ≤ 7293034 → Rel M s f → V Γ D Λ M κ 23 [some (.ref b), some (.ref s), some (.ref (s + 217)), some (.ref (s + 224)), some (vi i), y5, y6] [] := by
  intro n
  have hL := w.2.2.2.2.2
  have g := w.1
  induction n with
  | zero =>
    intro i M κ y5 y6 f h1 h2 h3 hR
    refine V_iload (q := 25) g dL_law_23 rfl rfl ?_
    refine V_aload_n (q := 26) g dL_law_25 rfl rfl ?_
    refine V_slen (q := 27) w dL_law_26 rfl ?_
    refine V_iconst (q := 28) g dL_law_27 rfl ?_
    refine V_isub (q := 29) g dL_law_28 rfl ?_
    refine V_icmp_gt (q := 32) g dL_law_29 (tgt := 2153) (by decide) rfl (by omega) (by omega) (fun _ => ?_) (fun h => absurd h (by omega))
    exact V_iconst (q := 2154) g dL_law_2153 rfl (hend _ _ _ (by omega))
  | succ n ih =>
    intro i M κ y5 y6 f h1 h2 h3 hR
    refine V_iload (q := 25) g dL_law_23 rfl rfl ?_
    refine V_aload_n (q := 26) g dL_law_25 rfl rfl ?_
    refine V_slen (q := 27) w dL_law_26 rfl ?_
    refine V_iconst (q := 28) g dL_law_27 rfl ?_
    refine V_isub (q := 29) g dL_law_28 rfl ?_
    refine V_icmp_gt (q := 32) g dL_law_29 (tgt := 2153) (by decide) rfl (by omega) (by omega) (fun _ => ?_) (fun h => ?_)
    · exact V_iconst (q := 2154) g dL_law_2153 rfl (hend _ _ _ (by omega))
    have hκ : κ.1 + 3 ≤ 601024 ∧ κ.2 + 18 ≤ 7293034 := by omega
    have hi : 0 ≤ i ∧ i + 5 ≤ L := by omega
    have back : ∀ (M2 : MM) (y5 y6 : Option Value) (f' : Int → Int), Rel M2 s f' → V Γ D Λ M2 (κ.1 + 3, κ.2 + 18) 2147 [some (.ref b), some (.ref s), some (.ref (s + 217)), some (.ref (s + 224)), some (vi i), y5, y6] [] := fun M2 y5 y6 f' h9 =>
      V_iinc_4 (q := 2150) g dL_law_2147 (by decide) rfl rfl (V_goto g dL_law_2150 (tgt := 23) (by decide) (ih (i + 5) M2 (κ.1 + 3, κ.2 + 18) y5 y6 f' (by omega) (by omega) ⟨by show κ.1 + 3 + 3 * n ≤ 601024; omega, by show κ.2 + 18 + 18 * n ≤ 7293034; omega⟩ h9))
    refine V_aload_n (q := 33) g dL_law_32 rfl rfl ?_
    refine V_iload (q := 35) g dL_law_33 rfl rfl ?_
    refine V_sld (q := 36) w dL_law_35 (by omega) rfl ?_
    refine V_bipush (q := 38) g dL_law_36 (by decide) rfl ?_
    refine V_iand0 (q := 39) g dL_law_38 rfl ?_
    rw [← vi_self]
    have hr := inR_toInt (iI (sc xs i) &&& iI 31)
    generalize (iI (sc xs i) &&& iI 31).toInt = a at hr ⊢
    rcases (by omega : a = 0 ∨ a = 1 ∨ a = 2 ∨ a = 3 ∨ a = 4 ∨ a = 5 ∨ a = 6 ∨ a = 7 ∨ a = 8 ∨ a = 9 ∨ a = 10 ∨ a = 11 ∨ a = 12 ∨ a = 13 ∨ a = 14 ∨ a = 15 ∨ a = 16 ∨ a = 17 ∨ a = 18 ∨ a = 19 ∨ a = 20 ∨ a = 21 ∨ a = 22 ∨ a = 23 ∨ a = 24 ∨ a = 25 ∨ a = 26 ∨ a = 27 ∨ a = 28 ∨ a = 29 ∨ a = 30 ∨ (a < 0 ∨ 30 < a)) with h | h | h | h | h | h | h | h | h | h | h | h | h | h | h | h | h | h | h | h | h | h | h | h | h | h | h | h | h | h | h | h
    · exact V_tabAt g dL_law_39 (n := 0) h (by decide) (by decide) (by decide) (off := 137) rfl (tgt := 176) (by decide) (lw_append hfl w hκ hi hR back)
    · exact V_tabAt g dL_law_39 (n := 1) h (by decide) (by decide) (by decide) (off := 193) rfl (tgt := 232) (by decide) (lw_clearText hfl w hκ hi hR back)
    · exact V_tabAt g dL_law_39 (n := 2) h (by decide) (by decide) (by decide) (off := 206) rfl (tgt := 245) (by decide) (lw_errorPosition hfl w hκ hi hR back)
    · exact V_tabAt g dL_law_39 (n := 3) h (by decide) (by decide) (by decide) (off := 219) rfl (tgt := 258) (by decide) (lw_load hfl w hκ hi hR back)
    · exact V_tabAt g dL_law_39 (n := 4) h (by decide) (by decide) (by decide) (off := 263) rfl (tgt := 302) (by decide) (lw_about hfl w hκ hi hR back)
    · exact V_tabAt g dL_law_39 (n := 5) h (by decide) (by decide) (by decide) (off := 319) rfl (tgt := 358) (by decide) (lw_chairOf hfl w hκ hi hR back)
    · exact V_tabAt g dL_law_39 (n := 6) h (by decide) (by decide) (by decide) (off := 387) rfl (tgt := 426) (by decide) (lw_wobble hfl w hκ hi hR back)
    · exact V_tabAt g dL_law_39 (n := 7) h (by decide) (by decide) (by decide) (off := 455) rfl (tgt := 494) (by decide) (lw_legOf hfl w hκ hi hR back)
    · exact V_tabAt g dL_law_39 (n := 8) h (by decide) (by decide) (by decide) (off := 535) rfl (tgt := 574) (by decide) (lw_spot hfl w hκ hi hR back)
    · exact V_tabAt g dL_law_39 (n := 9) h (by decide) (by decide) (by decide) (off := 603) rfl (tgt := 642) (by decide) (lw_boundOf hfl w hκ hi hR back)
    · exact V_tabAt g dL_law_39 (n := 10) h (by decide) (by decide) (by decide) (off := 671) rfl (tgt := 710) (by decide) (lw_setting hfl w hκ hi hR back)
    · exact V_tabAt g dL_law_39 (n := 11) h (by decide) (by decide) (by decide) (off := 727) rfl (tgt := 766) (by decide) (lw_chair hfl w hκ hi hR back)
    · exact V_tabAt g dL_law_39 (n := 12) h (by decide) (by decide) (by decide) (off := 795) rfl (tgt := 834) (by decide) (lw_floor hfl w hκ hi hR back)
    · exact V_tabAt g dL_law_39 (n := 13) h (by decide) (by decide) (by decide) (off := 887) rfl (tgt := 926) (by decide) (lw_level hfl w hκ hi hR back)
    · exact V_tabAt g dL_law_39 (n := 14) h (by decide) (by decide) (by decide) (off := 967) rfl (tgt := 1006) (by decide) (lw_bring hfl w hκ hi hR back)
    · exact V_tabAt g dL_law_39 (n := 15) h (by decide) (by decide) (by decide) (off := 1047) rfl (tgt := 1086) (by decide) (lw_saw hfl w hκ hi hR back)
    · exact V_tabAt g dL_law_39 (n := 16) h (by decide) (by decide) (by decide) (off := 1127) rfl (tgt := 1166) (by decide) (lw_shim hfl w hκ hi hR back)
    · exact V_tabAt g dL_law_39 (n := 17) h (by decide) (by decide) (by decide) (off := 1207) rfl (tgt := 1246) (by decide) (lw_test hfl w hκ hi hR back)
    · exact V_tabAt g dL_law_39 (n := 18) h (by decide) (by decide) (by decide) (off := 1263) rfl (tgt := 1302) (by decide) (lw_sit hfl w hκ hi hR back)
    · exact V_tabAt g dL_law_39 (n := 19) h (by decide) (by decide) (by decide) (off := 1331) rfl (tgt := 1370) (by decide) (lw_bound hfl w hκ hi hR back)
    · exact V_tabAt g dL_law_39 (n := 20) h (by decide) (by decide) (by decide) (off := 1411) rfl (tgt := 1450) (by decide) (lw_set hfl w hκ hi hR back)
    · exact V_tabAt g dL_law_39 (n := 21) h (by decide) (by decide) (by decide) (off := 1479) rfl (tgt := 1518) (by decide) (lw_undo hfl w hκ hi hR back)
    · exact V_tabAt g dL_law_39 (n := 22) h (by decide) (by decide) (by decide) (off := 1523) rfl (tgt := 1562) (by decide) (lw_bestTurn hfl w hκ hi hR back)
    · exact V_tabAt g dL_law_39 (n := 23) h (by decide) (by decide) (by decide) (off := 1603) rfl (tgt := 1642) (by decide) (lw_bestSaw hfl w hκ hi hR back)
    · exact V_tabAt g dL_law_39 (n := 24) h (by decide) (by decide) (by decide) (off := 1659) rfl (tgt := 1698) (by decide) (lw_failsIn hfl w hκ hi hR back)
    · exact V_tabAt g dL_law_39 (n := 25) h (by decide) (by decide) (by decide) (off := 1727) rfl (tgt := 1766) (by decide) (lw_bestFloor hfl w hκ hi hR back)
    · exact V_tabAt g dL_law_39 (n := 26) h (by decide) (by decide) (by decide) (off := 1783) rfl (tgt := 1822) (by decide) (lw_sound hfl w hκ hi hR back)
    · exact V_tabAt g dL_law_39 (n := 27) h (by decide) (by decide) (by decide) (off := 1796) rfl (tgt := 1835) (by decide) (lw_runScript hfl w hκ hi hR back)
    · exact V_tabAt g dL_law_39 (n := 28) h (by decide) (by decide) (by decide) (off := 1896) rfl (tgt := 1935) (by decide) (lw_simulate hfl w hκ hi hR back)
    · exact V_tabAt g dL_law_39 (n := 29) h (by decide) (by decide) (by decide) (off := 1996) rfl (tgt := 2035) (by decide) (lw_save hfl w hκ hi hR back)
    · exact V_tabAt g dL_law_39 (n := 30) h (by decide) (by decide) (by decide) (off := 2052) rfl (tgt := 2091) (by decide) (lw_restore hfl w hκ hi hR back)
    · exact V_tabOut g dL_law_39 hr h (tgt := 2147) (by decide) (V_wid ⟨Nat.le_add_right _ _, Nat.le_add_right _ _⟩ (back M y5 y6 f hR))
