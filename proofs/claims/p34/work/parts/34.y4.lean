theorem V_callNIE_2 {Γ : VG} {D : DD} {Λ : LY} {own : String} {cc : ByteArray} {nL : Nat} {l : Launch} {R : Room} {M : MM} {κ : Nat × Nat} {pc q : Nat} {lv : List (Option Value)} {st : List Value} {y : MethodName} {bytes : ByteArray} {maxL idx : Nat} {rm : Room} {E : EP} {rt : FieldType} {Ψ : Int → MM → Prop} {x0 x1 : Value} (g : VOk Γ D Λ own cc nL l R) (hE : EOk E) (he : E (Aw Λ (gs Γ).heap.size) (gs Γ) (gs Γ).heap) (hM : CIE E l y bytes maxL rt rm [x0, x1] D Λ M Ψ) (d : decode cc pc = .ok (.invokestatic idx, 3)) (hk : lkN own idx y bytes maxL (some rt) 2) (hr : rmOk rm maxL R κ = true) (hs : stOk st = true) (hz0 : rm.cells = 0 ∧ rm.slots = 0) (hq : pc + 3 = q) (kk : ∀ z M1, Ψ z M1 → V Γ D Λ M1 κ q lv (vi z :: st)) : V Γ D Λ M κ pc lv (x1 :: x0 :: st) := V_callNIE0 (As := [x0, x1]) g hE he hM d hk rfl hr hs hz0 hq kk
theorem V_callSIE_4 {Γ : VG} {D : DD} {Λ : LY} {own : String} {cc : ByteArray} {nL : Nat} {l : Launch} {R : Room} {M : MM} {κ : Nat × Nat} {pc q : Nat} {lv : List (Option Value)} {st : List Value} {y : MethodName} {bytes : ByteArray} {maxL idx : Nat} {rm : Room} {E : EP} {rt : FieldType} {Ψ : Int → MM → Prop} {x0 x1 x2 x3 : Value} (g : VOk Γ D Λ own cc nL l R) (hE : EOk E) (he : E (Aw Λ (gs Γ).heap.size) (gs Γ) (gs Γ).heap) (hM : CIE E l y bytes maxL rt rm [x0, x1, x2, x3] D Λ M Ψ) (d : decode cc pc = .ok (.invokestatic idx, 3)) (hk : lkS own idx y bytes maxL (some rt) 4) (hr : rmOk rm maxL R κ = true) (hs : stOk st = true) (hz0 : rm.cells = 0 ∧ rm.slots = 0) (hq : pc + 3 = q) (kk : ∀ z M1, Ψ z M1 → V Γ D Λ M1 κ q lv (vi z :: st)) : V Γ D Λ M κ pc lv (x3 :: x2 :: x1 :: x0 :: st) := V_callSIE0 (As := [x0, x1, x2, x3]) g hE he hM d hk rfl hr hs hz0 hq kk
theorem V_callVIE_0 {Γ : VG} {D : DD} {Λ : LY} {own : String} {cc : ByteArray} {nL : Nat} {l : Launch} {R : Room} {M : MM} {κ : Nat × Nat} {pc q : Nat} {lv : List (Option Value)} {st : List Value} {y : MethodName} {bytes : ByteArray} {maxL idx : Nat} {rm : Room} {E : EP} {rt : FieldType} {Ψ : Int → MM → Prop} {b : Nat}  (g : VOk Γ D Λ own cc nL l R) (hE : EOk E) (he : E (Aw Λ (gs Γ).heap.size) (gs Γ) (gs Γ).heap) (hM : CIE E l y bytes maxL rt rm [.ref b] D Λ M Ψ) (d : decode cc pc = .ok (.invokevirtual idx, 3)) (hk : lkV own idx y bytes maxL (some rt) 0) (hb : ∀ H locs, va_S (Aw Λ (gs Γ).heap.size) (gs Γ).heap H locs → ∃ cell : Cell, H[b]? = some cell ∧ cell.vm.isStatics = false ∧ (gs Γ).vm.findClass y.cls = some cell.cls) (hr : rmOk rm maxL R κ = true) (hs : stOk st = true) (hz0 : rm.cells = 0 ∧ rm.slots = 0) (hq : pc + 3 = q) (kk : ∀ z M1, Ψ z M1 → V Γ D Λ M1 κ q lv (vi z :: st)) : V Γ D Λ M κ pc lv (.ref b :: st) := V_callVIE0 (As := []) g hE he hM d hk rfl hb hr hs hz0 hq kk
theorem V_callVIE_1 {Γ : VG} {D : DD} {Λ : LY} {own : String} {cc : ByteArray} {nL : Nat} {l : Launch} {R : Room} {M : MM} {κ : Nat × Nat} {pc q : Nat} {lv : List (Option Value)} {st : List Value} {y : MethodName} {bytes : ByteArray} {maxL idx : Nat} {rm : Room} {E : EP} {rt : FieldType} {Ψ : Int → MM → Prop} {b : Nat} {x0 : Value} (g : VOk Γ D Λ own cc nL l R) (hE : EOk E) (he : E (Aw Λ (gs Γ).heap.size) (gs Γ) (gs Γ).heap) (hM : CIE E l y bytes maxL rt rm [.ref b, x0] D Λ M Ψ) (d : decode cc pc = .ok (.invokevirtual idx, 3)) (hk : lkV own idx y bytes maxL (some rt) 1) (hb : ∀ H locs, va_S (Aw Λ (gs Γ).heap.size) (gs Γ).heap H locs → ∃ cell : Cell, H[b]? = some cell ∧ cell.vm.isStatics = false ∧ (gs Γ).vm.findClass y.cls = some cell.cls) (hr : rmOk rm maxL R κ = true) (hs : stOk st = true) (hz0 : rm.cells = 0 ∧ rm.slots = 0) (hq : pc + 3 = q) (kk : ∀ z M1, Ψ z M1 → V Γ D Λ M1 κ q lv (vi z :: st)) : V Γ D Λ M κ pc lv (x0 :: .ref b :: st) := V_callVIE0 (As := [x0]) g hE he hM d hk rfl hb hr hs hz0 hq kk
theorem V_callVIE_2 {Γ : VG} {D : DD} {Λ : LY} {own : String} {cc : ByteArray} {nL : Nat} {l : Launch} {R : Room} {M : MM} {κ : Nat × Nat} {pc q : Nat} {lv : List (Option Value)} {st : List Value} {y : MethodName} {bytes : ByteArray} {maxL idx : Nat} {rm : Room} {E : EP} {rt : FieldType} {Ψ : Int → MM → Prop} {b : Nat} {x0 x1 : Value} (g : VOk Γ D Λ own cc nL l R) (hE : EOk E) (he : E (Aw Λ (gs Γ).heap.size) (gs Γ) (gs Γ).heap) (hM : CIE E l y bytes maxL rt rm [.ref b, x0, x1] D Λ M Ψ) (d : decode cc pc = .ok (.invokevirtual idx, 3)) (hk : lkV own idx y bytes maxL (some rt) 2) (hb : ∀ H locs, va_S (Aw Λ (gs Γ).heap.size) (gs Γ).heap H locs → ∃ cell : Cell, H[b]? = some cell ∧ cell.vm.isStatics = false ∧ (gs Γ).vm.findClass y.cls = some cell.cls) (hr : rmOk rm maxL R κ = true) (hs : stOk st = true) (hz0 : rm.cells = 0 ∧ rm.slots = 0) (hq : pc + 3 = q) (kk : ∀ z M1, Ψ z M1 → V Γ D Λ M1 κ q lv (vi z :: st)) : V Γ D Λ M κ pc lv (x1 :: x0 :: .ref b :: st) := V_callVIE0 (As := [x0, x1]) g hE he hM d hk rfl hb hr hs hz0 hq kk
theorem ct_at (l : Launch) {D : DD} {Λ : LY} {M : MM} {t : Nat} {i x : Int} (hi : 0 ≤ i ∧ i < 96) (hx : formsL.getD i.toNat 0 = x) : CIE (Ef t) l yX4_at cX4_at 2 .int rm_X4_at [.ref t, vi i] D Λ M (fun z M1 => x = z ∧ M = M1) := by
  refine CIE_of rfl rfl (Nat.le_of_ble_eq_true rfl) (fun Γ g r he => ?_)
  refine V_iload_n (q := 1) g dX4_at_0 rfl rfl ?_
  refine V_if_lt (q := 4) g dX4_at_1 (tgt := 16) (by decide) rfl (by omega) (fun h1 => absurd h1 (by omega)) (fun h1 => ?_)
  refine V_iload_n (q := 5) g dX4_at_4 rfl rfl ?_
  refine V_aload_n (q := 6) g dX4_at_5 rfl rfl ?_
  refine V_tlen (q := 7) g dX4_at_6 he rfl ?_
  refine V_icmp_ge (q := 10) g dX4_at_7 (tgt := 16) (by decide) rfl (by omega) (by omega) (fun h7 => absurd h7 (by omega)) (fun h7 => ?_)
  refine V_aload_n (q := 11) g dX4_at_10 rfl rfl ?_
  refine V_iload_n (q := 12) g dX4_at_11 rfl rfl ?_
  refine V_tload (q := 13) (x := x) g dX4_at_12 he (by omega) (by decide) (by rw [hx]) rfl ?_
  refine V_goto g dX4_at_13 (tgt := 17) (by decide) ?_
  exact V_ireturn g r dX4_at_17 rfl ⟨rfl, rfl⟩
theorem i2b_x {c : Int} (h : 0 ≤ c ∧ c ≤ 255) : ∃ cb : Int, ((c < 128 ∧ cb = c) ∨ (128 ≤ c ∧ cb = c - 256)) ∧ (iI c).toInt8.toInt32 = iI cb := by
  refine ⟨(iI c).toInt8.toInt32.toInt, ?_, (iI_self _).symm⟩
  rw [Int8.toInt_toInt32, Int32.toInt_toInt8, iI_toInt ⟨by omega, by omega⟩]
  simp only [Int.bmod]
  omega
/-- the place of a letter -/
def sIx (c : Int) : Int := match sRow c with
  | none => -1
  | some r => r
theorem j_coder : Cond.fieldLink RJ0 15 "java/lang/String" "coder" "B" ∈ BIG := big_in (i := 1234) (by decide +kernel) (by decide +kernel)
theorem j_value : Cond.fieldLink RJ0 9 "java/lang/String" "value" "[B" ∈ BIG := big_in (i := 1235) (by decide +kernel) (by decide +kernel)
theorem j_comp : Cond.fieldLink RJ0 38 "java/lang/String" "COMPACT_STRINGS" "Z" ∈ BIG := big_in (i := 234) (by decide +kernel) (by decide +kernel)
theorem j_forms : Cond.fieldLink RX2 54 "ChairStamps$OfficeText" "FORMS" "[I" ∈ BIG := big_in (i := 308) (by decide +kernel) (by decide +kernel)
theorem Es_recv {a v : Nat} {Γ : VG} {Λ : LY} (he : Es a v (Aw Λ (gs Γ).heap.size) (gs Γ) (gs Γ).heap) : ∀ H locs, va_S (Aw Λ (gs Γ).heap.size) (gs Γ).heap H locs → ∃ cell : Cell, H[a]? = some cell ∧ cell.vm.isStatics = false ∧ (gs Γ).vm.findClass "java/lang/String" = some cell.cls := fun H locs h2 => vk_recv (i := 0) he.1 (by decide) h2
abbrev rm_J0_coder_7d493 : Room := { frames := 0, cells := 0, slots := 0, locals := 0 }
set_option maxHeartbeats 4000000 in
set_option maxRecDepth 100000 in
theorem c_J0_coder_7d493 (l : Launch) {D : DD} {Λ : LY} {M : MM} {a v : Nat}  : CIE (Es a v) l yJ0_coder_7d493 cJ0_coder_7d493 1 .byte rm_J0_coder_7d493 [.ref a] D Λ M (fun z M1 => 0 = z ∧ M = M1) := by
  refine CIE_of rfl rfl (Nat.le_of_ble_eq_true rfl) (fun Γ g r he => ?_)
  obtain ⟨hs1, hs2, hs3, hs4⟩ := he.1.1 0 (by decide)
  refine V_gets (v := vi 1) g dJ0_coder_7d493_0 he.2 j_comp (fun x h => h) rfl ?_
  refine V_if_eq (q := 6) g dJ0_coder_7d493_3 (tgt := 13) (by decide) rfl (by omega) (fun h3 => absurd h3 (by omega)) (fun h3 => ?_)
  refine V_aload_n (q := 7) g dJ0_coder_7d493_6 rfl rfl ?_
  refine V_getfS (v := vi 0) g dJ0_coder_7d493_7 hs2 j_coder (fun x h => h) rfl ?_
  refine V_goto g dJ0_coder_7d493_10 (tgt := 14) (by decide) ?_
  exact V_ireturn g r dJ0_coder_7d493_14 rfl ⟨by omega, rfl⟩
abbrev rm_J0_isLatin1_aae02 : Room := { frames := 0, cells := 0, slots := 0, locals := 0 }
set_option maxHeartbeats 4000000 in
set_option maxRecDepth 100000 in
theorem c_J0_isLatin1_aae02 (l : Launch) {D : DD} {Λ : LY} {M : MM} {a v : Nat}  : CIE (Es a v) l yJ0_isLatin1_aae02 cJ0_isLatin1_aae02 1 .boolean rm_J0_isLatin1_aae02 [.ref a] D Λ M (fun z M1 => 1 = z ∧ M = M1) := by
  refine CIE_of rfl rfl (Nat.le_of_ble_eq_true rfl) (fun Γ g r he => ?_)
  obtain ⟨hs1, hs2, hs3, hs4⟩ := he.1.1 0 (by decide)
  refine V_gets (v := vi 1) g dJ0_isLatin1_aae02_0 he.2 j_comp (fun x h => h) rfl ?_
  refine V_if_eq (q := 6) g dJ0_isLatin1_aae02_3 (tgt := 17) (by decide) rfl (by omega) (fun h3 => absurd h3 (by omega)) (fun h3 => ?_)
  refine V_aload_n (q := 7) g dJ0_isLatin1_aae02_6 rfl rfl ?_
  refine V_getfS (v := vi 0) g dJ0_isLatin1_aae02_7 hs2 j_coder (fun x h => h) rfl ?_
  refine V_if_ne (q := 13) g dJ0_isLatin1_aae02_10 (tgt := 17) (by decide) rfl (by omega) (fun h10 => absurd h10 (by omega)) (fun h10 => ?_)
  refine V_iconst (q := 14) g dJ0_isLatin1_aae02_13 rfl ?_
  refine V_goto g dJ0_isLatin1_aae02_14 (tgt := 18) (by decide) ?_
  exact V_ireturn g r dJ0_isLatin1_aae02_18 rfl ⟨by omega, rfl⟩
abbrev rm_J0_length_8abf5 : Room := { frames := 1, cells := 0, slots := 0, locals := 20 }
set_option maxHeartbeats 4000000 in
set_option maxRecDepth 100000 in
theorem c_J0_length_8abf5 (l : Launch) {D : DD} {Λ : LY} {M : MM} {a v : Nat}  : CIE (Es a v) l yJ0_length_8abf5 cJ0_length_8abf5 1 .int rm_J0_length_8abf5 [.ref a] D Λ M (fun z M1 => 8 = z ∧ M = M1) := by
  refine CIE_of rfl rfl (Nat.le_of_ble_eq_true rfl) (fun Γ g r he => ?_)
  obtain ⟨hs1, hs2, hs3, hs4⟩ := he.1.1 0 (by decide)
  refine V_aload_n (q := 1) g dJ0_length_8abf5_0 rfl rfl ?_
  refine V_getfS g dJ0_length_8abf5_1 hs3 j_value (fun x h => h) rfl ?_
  refine V_tlen (N := 8) g dJ0_length_8abf5_4 hs4 rfl ?_
  refine V_aload_n (q := 6) g dJ0_length_8abf5_5 rfl rfl ?_
  refine V_callVIE_0 (q := 9) g (Es_ok a v) he (c_J0_coder_7d493 l) dJ0_length_8abf5_6 k_J0_335 (Es_recv he) rfl rfl ⟨rfl, rfl⟩ rfl (fun z M9 e9 => ?_)
  obtain ⟨rfl, rfl⟩ := e9
  refine V_ishr0 (q := 10) g dJ0_length_8abf5_9 rfl ?_
  rw [show iI ((8 : Nat) : Int) >>> (iI 0 &&& 31) = iI 8 by decide]
  exact V_ireturn g r dJ0_length_8abf5_10 rfl ⟨rfl, rfl⟩
abbrev rm_J1_canEncode_9a6ad : Room := { frames := 0, cells := 0, slots := 0, locals := 0 }
set_option maxHeartbeats 4000000 in
set_option maxRecDepth 100000 in
theorem c_J1_canEncode_9a6ad (l : Launch) {D : DD} {Λ : LY} {M : MM} {c : Int} (hc : 0 ≤ c ∧ c ≤ 255) : CI l yJ1_canEncode_9a6ad cJ1_canEncode_9a6ad 1 .boolean rm_J1_canEncode_9a6ad [vi c] D Λ M (fun z M1 => 1 = z ∧ M = M1) := by
  refine CI_of rfl rfl (Nat.le_of_ble_eq_true rfl) (fun Γ g r => ?_)
  refine V_iload_n (q := 1) g dJ1_canEncode_9a6ad_0 rfl rfl ?_
  refine V_if_lt (q := 4) g dJ1_canEncode_9a6ad_1 (tgt := 15) (by decide) rfl (by omega) (fun h1 => absurd h1 (by omega)) (fun h1 => ?_)
  refine V_iload_n (q := 5) g dJ1_canEncode_9a6ad_4 rfl rfl ?_
  refine V_sipush (q := 8) g dJ1_canEncode_9a6ad_5 (by decide) rfl ?_
  refine V_icmp_gt (q := 11) g dJ1_canEncode_9a6ad_8 (tgt := 15) (by decide) rfl (by omega) (by omega) (fun h8 => absurd h8 (by omega)) (fun h8 => ?_)
  refine V_iconst (q := 12) g dJ1_canEncode_9a6ad_11 rfl ?_
  refine V_goto g dJ1_canEncode_9a6ad_12 (tgt := 16) (by decide) ?_
  exact V_ireturn g r dJ1_canEncode_9a6ad_16 rfl ⟨by omega, rfl⟩
abbrev rm_J1_indexOfChar_4cfef : Room := { frames := 0, cells := 0, slots := 0, locals := 0 }
set_option maxHeartbeats 4000000 in
set_option maxRecDepth 100000 in
theorem c_J1_indexOfChar_4cfef (l : Launch) {D : DD} {Λ : LY} {M : MM} {a v : Nat} {c : Int} (hc : 0 ≤ c ∧ c ≤ 255) : CIE (Es a v) l yJ1_indexOfChar_4cfef cJ1_indexOfChar_4cfef 6 .int rm_J1_indexOfChar_4cfef [.ref v, vi c, vi 0, vi 8] D Λ M (fun z M1 => z = sIx c ∧ M = M1) := by
  refine CIE_of rfl rfl (Nat.le_of_ble_eq_true rfl) (fun Γ g r he => ?_)
  obtain ⟨hs1, hs2, hs3, hs4⟩ := he.1.1 0 (by decide)
  refine V_iload_n (q := 1) g dJ1_indexOfChar_4cfef_0 rfl rfl ?_
  refine V_i2b0 (q := 2) g dJ1_indexOfChar_4cfef_1 rfl ?_
  obtain ⟨cb, hcb, hce⟩ := i2b_x hc
  rw [hce]
  refine V_istore_4 (q := 4) g dJ1_indexOfChar_4cfef_2 (by decide) rfl rfl ?_
  refine V_iload_n (q := 5) g dJ1_indexOfChar_4cfef_4 rfl rfl ?_
  refine V_istore_5 (q := 7) g dJ1_indexOfChar_4cfef_5 (by decide) rfl rfl ?_
  refine V_iload (q := 9) g dJ1_indexOfChar_4cfef_7 rfl rfl ?_
  refine V_iload_n (q := 10) g dJ1_indexOfChar_4cfef_9 rfl rfl ?_
  refine V_icmp_ge (q := 13) g dJ1_indexOfChar_4cfef_10 (tgt := 31) (by decide) rfl (by omega) (by omega) (fun h10 => absurd h10 (by omega)) (fun h10 => ?_)
  refine V_aload_n (q := 14) g dJ1_indexOfChar_4cfef_13 rfl rfl ?_
  refine V_iload (q := 16) g dJ1_indexOfChar_4cfef_14 rfl rfl ?_
  refine V_tbload (q := 17) (x := 99) g dJ1_indexOfChar_4cfef_16 hs4 (by decide) (by decide) rfl rfl ?_
  refine V_iload (q := 19) g dJ1_indexOfChar_4cfef_17 rfl rfl ?_
  refine V_icmp_ne (q := 22) g dJ1_indexOfChar_4cfef_19 (tgt := 25) (by decide) rfl (by omega) (by omega) (fun h19 => ?_) (fun h19 => ?_)
  · refine V_iinc_5 (q := 28) g dJ1_indexOfChar_4cfef_25 (by decide) rfl rfl ?_
    simp only [Int.reduceAdd]
    refine V_goto g dJ1_indexOfChar_4cfef_28 (tgt := 7) (by decide) ?_
    refine V_iload (q := 9) g dJ1_indexOfChar_4cfef_7 rfl rfl ?_
    refine V_iload_n (q := 10) g dJ1_indexOfChar_4cfef_9 rfl rfl ?_
    refine V_icmp_ge (q := 13) g dJ1_indexOfChar_4cfef_10 (tgt := 31) (by decide) rfl (by omega) (by omega) (fun h10 => absurd h10 (by omega)) (fun h10 => ?_)
    refine V_aload_n (q := 14) g dJ1_indexOfChar_4cfef_13 rfl rfl ?_
    refine V_iload (q := 16) g dJ1_indexOfChar_4cfef_14 rfl rfl ?_
    refine V_tbload (q := 17) (x := 115) g dJ1_indexOfChar_4cfef_16 hs4 (by decide) (by decide) rfl rfl ?_
    refine V_iload (q := 19) g dJ1_indexOfChar_4cfef_17 rfl rfl ?_
    refine V_icmp_ne (q := 22) g dJ1_indexOfChar_4cfef_19 (tgt := 25) (by decide) rfl (by omega) (by omega) (fun h19 => ?_) (fun h19 => ?_)
    · refine V_iinc_5 (q := 28) g dJ1_indexOfChar_4cfef_25 (by decide) rfl rfl ?_
      simp only [Int.reduceAdd]
      refine V_goto g dJ1_indexOfChar_4cfef_28 (tgt := 7) (by decide) ?_
      refine V_iload (q := 9) g dJ1_indexOfChar_4cfef_7 rfl rfl ?_
      refine V_iload_n (q := 10) g dJ1_indexOfChar_4cfef_9 rfl rfl ?_
      refine V_icmp_ge (q := 13) g dJ1_indexOfChar_4cfef_10 (tgt := 31) (by decide) rfl (by omega) (by omega) (fun h10 => absurd h10 (by omega)) (fun h10 => ?_)
      refine V_aload_n (q := 14) g dJ1_indexOfChar_4cfef_13 rfl rfl ?_
      refine V_iload (q := 16) g dJ1_indexOfChar_4cfef_14 rfl rfl ?_
      refine V_tbload (q := 17) (x := 104) g dJ1_indexOfChar_4cfef_16 hs4 (by decide) (by decide) rfl rfl ?_
      refine V_iload (q := 19) g dJ1_indexOfChar_4cfef_17 rfl rfl ?_
      refine V_icmp_ne (q := 22) g dJ1_indexOfChar_4cfef_19 (tgt := 25) (by decide) rfl (by omega) (by omega) (fun h19 => ?_) (fun h19 => ?_)
      · refine V_iinc_5 (q := 28) g dJ1_indexOfChar_4cfef_25 (by decide) rfl rfl ?_
        simp only [Int.reduceAdd]
        refine V_goto g dJ1_indexOfChar_4cfef_28 (tgt := 7) (by decide) ?_
        refine V_iload (q := 9) g dJ1_indexOfChar_4cfef_7 rfl rfl ?_
        refine V_iload_n (q := 10) g dJ1_indexOfChar_4cfef_9 rfl rfl ?_
        refine V_icmp_ge (q := 13) g dJ1_indexOfChar_4cfef_10 (tgt := 31) (by decide) rfl (by omega) (by omega) (fun h10 => absurd h10 (by omega)) (fun h10 => ?_)
        refine V_aload_n (q := 14) g dJ1_indexOfChar_4cfef_13 rfl rfl ?_
        refine V_iload (q := 16) g dJ1_indexOfChar_4cfef_14 rfl rfl ?_
        refine V_tbload (q := 17) (x := 102) g dJ1_indexOfChar_4cfef_16 hs4 (by decide) (by decide) rfl rfl ?_
        refine V_iload (q := 19) g dJ1_indexOfChar_4cfef_17 rfl rfl ?_
        refine V_icmp_ne (q := 22) g dJ1_indexOfChar_4cfef_19 (tgt := 25) (by decide) rfl (by omega) (by omega) (fun h19 => ?_) (fun h19 => ?_)
        · refine V_iinc_5 (q := 28) g dJ1_indexOfChar_4cfef_25 (by decide) rfl rfl ?_
          simp only [Int.reduceAdd]
          refine V_goto g dJ1_indexOfChar_4cfef_28 (tgt := 7) (by decide) ?_
          refine V_iload (q := 9) g dJ1_indexOfChar_4cfef_7 rfl rfl ?_
          refine V_iload_n (q := 10) g dJ1_indexOfChar_4cfef_9 rfl rfl ?_
          refine V_icmp_ge (q := 13) g dJ1_indexOfChar_4cfef_10 (tgt := 31) (by decide) rfl (by omega) (by omega) (fun h10 => absurd h10 (by omega)) (fun h10 => ?_)
          refine V_aload_n (q := 14) g dJ1_indexOfChar_4cfef_13 rfl rfl ?_
          refine V_iload (q := 16) g dJ1_indexOfChar_4cfef_14 rfl rfl ?_
          refine V_tbload (q := 17) (x := 98) g dJ1_indexOfChar_4cfef_16 hs4 (by decide) (by decide) rfl rfl ?_
          refine V_iload (q := 19) g dJ1_indexOfChar_4cfef_17 rfl rfl ?_
          refine V_icmp_ne (q := 22) g dJ1_indexOfChar_4cfef_19 (tgt := 25) (by decide) rfl (by omega) (by omega) (fun h19 => ?_) (fun h19 => ?_)
          · refine V_iinc_5 (q := 28) g dJ1_indexOfChar_4cfef_25 (by decide) rfl rfl ?_
            simp only [Int.reduceAdd]
            refine V_goto g dJ1_indexOfChar_4cfef_28 (tgt := 7) (by decide) ?_
            refine V_iload (q := 9) g dJ1_indexOfChar_4cfef_7 rfl rfl ?_
            refine V_iload_n (q := 10) g dJ1_indexOfChar_4cfef_9 rfl rfl ?_
            refine V_icmp_ge (q := 13) g dJ1_indexOfChar_4cfef_10 (tgt := 31) (by decide) rfl (by omega) (by omega) (fun h10 => absurd h10 (by omega)) (fun h10 => ?_)
            refine V_aload_n (q := 14) g dJ1_indexOfChar_4cfef_13 rfl rfl ?_
            refine V_iload (q := 16) g dJ1_indexOfChar_4cfef_14 rfl rfl ?_
            refine V_tbload (q := 17) (x := 116) g dJ1_indexOfChar_4cfef_16 hs4 (by decide) (by decide) rfl rfl ?_
            refine V_iload (q := 19) g dJ1_indexOfChar_4cfef_17 rfl rfl ?_
            refine V_icmp_ne (q := 22) g dJ1_indexOfChar_4cfef_19 (tgt := 25) (by decide) rfl (by omega) (by omega) (fun h19 => ?_) (fun h19 => ?_)
            · refine V_iinc_5 (q := 28) g dJ1_indexOfChar_4cfef_25 (by decide) rfl rfl ?_
              simp only [Int.reduceAdd]
              refine V_goto g dJ1_indexOfChar_4cfef_28 (tgt := 7) (by decide) ?_
              refine V_iload (q := 9) g dJ1_indexOfChar_4cfef_7 rfl rfl ?_
              refine V_iload_n (q := 10) g dJ1_indexOfChar_4cfef_9 rfl rfl ?_
              refine V_icmp_ge (q := 13) g dJ1_indexOfChar_4cfef_10 (tgt := 31) (by decide) rfl (by omega) (by omega) (fun h10 => absurd h10 (by omega)) (fun h10 => ?_)
              refine V_aload_n (q := 14) g dJ1_indexOfChar_4cfef_13 rfl rfl ?_
              refine V_iload (q := 16) g dJ1_indexOfChar_4cfef_14 rfl rfl ?_
              refine V_tbload (q := 17) (x := 119) g dJ1_indexOfChar_4cfef_16 hs4 (by decide) (by decide) rfl rfl ?_
              refine V_iload (q := 19) g dJ1_indexOfChar_4cfef_17 rfl rfl ?_
              refine V_icmp_ne (q := 22) g dJ1_indexOfChar_4cfef_19 (tgt := 25) (by decide) rfl (by omega) (by omega) (fun h19 => ?_) (fun h19 => ?_)
              · refine V_iinc_5 (q := 28) g dJ1_indexOfChar_4cfef_25 (by decide) rfl rfl ?_
                simp only [Int.reduceAdd]
                refine V_goto g dJ1_indexOfChar_4cfef_28 (tgt := 7) (by decide) ?_
                refine V_iload (q := 9) g dJ1_indexOfChar_4cfef_7 rfl rfl ?_
                refine V_iload_n (q := 10) g dJ1_indexOfChar_4cfef_9 rfl rfl ?_
                refine V_icmp_ge (q := 13) g dJ1_indexOfChar_4cfef_10 (tgt := 31) (by decide) rfl (by omega) (by omega) (fun h10 => absurd h10 (by omega)) (fun h10 => ?_)
                refine V_aload_n (q := 14) g dJ1_indexOfChar_4cfef_13 rfl rfl ?_
                refine V_iload (q := 16) g dJ1_indexOfChar_4cfef_14 rfl rfl ?_
                refine V_tbload (q := 17) (x := 103) g dJ1_indexOfChar_4cfef_16 hs4 (by decide) (by decide) rfl rfl ?_
                refine V_iload (q := 19) g dJ1_indexOfChar_4cfef_17 rfl rfl ?_
                refine V_icmp_ne (q := 22) g dJ1_indexOfChar_4cfef_19 (tgt := 25) (by decide) rfl (by omega) (by omega) (fun h19 => ?_) (fun h19 => ?_)
                · refine V_iinc_5 (q := 28) g dJ1_indexOfChar_4cfef_25 (by decide) rfl rfl ?_
                  simp only [Int.reduceAdd]
                  refine V_goto g dJ1_indexOfChar_4cfef_28 (tgt := 7) (by decide) ?_
                  refine V_iload (q := 9) g dJ1_indexOfChar_4cfef_7 rfl rfl ?_
                  refine V_iload_n (q := 10) g dJ1_indexOfChar_4cfef_9 rfl rfl ?_
                  refine V_icmp_ge (q := 13) g dJ1_indexOfChar_4cfef_10 (tgt := 31) (by decide) rfl (by omega) (by omega) (fun h10 => ?_) (fun h10 => absurd h10 (by omega))
                  refine V_iconst (q := 32) g dJ1_indexOfChar_4cfef_31 rfl ?_
                  exact V_ireturn g r dJ1_indexOfChar_4cfef_32 rfl ⟨by unfold sIx; rw [show sRow c = none by unfold sRow; repeat (first | rw [if_pos (by omega)] | rw [if_neg (by omega)])]; first | done | rfl, rfl⟩
                · refine V_iload (q := 24) g dJ1_indexOfChar_4cfef_22 rfl rfl ?_
                  exact V_ireturn g r dJ1_indexOfChar_4cfef_24 rfl ⟨by unfold sIx; rw [show sRow c = some 7 by unfold sRow; repeat (first | rw [if_pos (by omega)] | rw [if_neg (by omega)])]; first | done | rfl, rfl⟩
              · refine V_iload (q := 24) g dJ1_indexOfChar_4cfef_22 rfl rfl ?_
                exact V_ireturn g r dJ1_indexOfChar_4cfef_24 rfl ⟨by unfold sIx; rw [show sRow c = some 6 by unfold sRow; repeat (first | rw [if_pos (by omega)] | rw [if_neg (by omega)])]; first | done | rfl, rfl⟩
            · refine V_iload (q := 24) g dJ1_indexOfChar_4cfef_22 rfl rfl ?_
              exact V_ireturn g r dJ1_indexOfChar_4cfef_24 rfl ⟨by unfold sIx; rw [show sRow c = some 5 by unfold sRow; repeat (first | rw [if_pos (by omega)] | rw [if_neg (by omega)])]; first | done | rfl, rfl⟩
          · refine V_iload (q := 24) g dJ1_indexOfChar_4cfef_22 rfl rfl ?_
            exact V_ireturn g r dJ1_indexOfChar_4cfef_24 rfl ⟨by unfold sIx; rw [show sRow c = some 4 by unfold sRow; repeat (first | rw [if_pos (by omega)] | rw [if_neg (by omega)])]; first | done | rfl, rfl⟩
        · refine V_iload (q := 24) g dJ1_indexOfChar_4cfef_22 rfl rfl ?_
          exact V_ireturn g r dJ1_indexOfChar_4cfef_24 rfl ⟨by unfold sIx; rw [show sRow c = some 3 by unfold sRow; repeat (first | rw [if_pos (by omega)] | rw [if_neg (by omega)])]; first | done | rfl, rfl⟩
      · refine V_iload (q := 24) g dJ1_indexOfChar_4cfef_22 rfl rfl ?_
        exact V_ireturn g r dJ1_indexOfChar_4cfef_24 rfl ⟨by unfold sIx; rw [show sRow c = some 2 by unfold sRow; repeat (first | rw [if_pos (by omega)] | rw [if_neg (by omega)])]; first | done | rfl, rfl⟩
    · refine V_iload (q := 24) g dJ1_indexOfChar_4cfef_22 rfl rfl ?_
      exact V_ireturn g r dJ1_indexOfChar_4cfef_24 rfl ⟨by unfold sIx; rw [show sRow c = some 1 by unfold sRow; repeat (first | rw [if_pos (by omega)] | rw [if_neg (by omega)])]; first | done | rfl, rfl⟩
  · refine V_iload (q := 24) g dJ1_indexOfChar_4cfef_22 rfl rfl ?_
    exact V_ireturn g r dJ1_indexOfChar_4cfef_24 rfl ⟨by unfold sIx; rw [show sRow c = some 0 by unfold sRow; repeat (first | rw [if_pos (by omega)] | rw [if_neg (by omega)])]; first | done | rfl, rfl⟩
abbrev rm_J1_indexOf_4cfef : Room := { frames := 1, cells := 0, slots := 0, locals := 25 }
set_option maxHeartbeats 4000000 in
set_option maxRecDepth 100000 in
theorem c_J1_indexOf_4cfef (l : Launch) {D : DD} {Λ : LY} {M : MM} {a v : Nat} {c : Int} (hc : 0 ≤ c ∧ c ≤ 255) : CIE (Es a v) l yJ1_indexOf_4cfef cJ1_indexOf_4cfef 4 .int rm_J1_indexOf_4cfef [.ref v, vi c, vi 0, vi 8] D Λ M (fun z M1 => z = sIx c ∧ M = M1) := by
  refine CIE_of rfl rfl (Nat.le_of_ble_eq_true rfl) (fun Γ g r he => ?_)
  obtain ⟨hs1, hs2, hs3, hs4⟩ := he.1.1 0 (by decide)
  refine V_iload_n (q := 1) g dJ1_indexOf_4cfef_0 rfl rfl ?_
  refine V_callSI_1 (q := 4) g (c_J1_canEncode_9a6ad l hc) dJ1_indexOf_4cfef_1 k_J1_88 rfl rfl ⟨rfl, rfl⟩ rfl (fun z1 M1 e1 => ?_)
  obtain ⟨rfl, rfl⟩ := e1
  refine V_if_ne (q := 7) g dJ1_indexOf_4cfef_4 (tgt := 9) (by decide) rfl (by omega) (fun h4 => ?_) (fun h4 => absurd h4 (by omega))
  refine V_iload_n (q := 10) g dJ1_indexOf_4cfef_9 rfl rfl ?_
  refine V_iconst (q := 11) g dJ1_indexOf_4cfef_10 rfl ?_
  refine V_mmax g dJ1_indexOf_4cfef_11 m_J1_92 (by omega) (by omega) rfl rfl rfl (fun z2 e2 => ?_)
  have em : z2 = 0 := by rw [e2]; rfl
  subst em
  refine V_istore_n_2 (q := 15) g dJ1_indexOf_4cfef_14 (by decide) rfl rfl ?_
  refine V_iload_n (q := 16) g dJ1_indexOf_4cfef_15 rfl rfl ?_
  refine V_aload_n (q := 17) g dJ1_indexOf_4cfef_16 rfl rfl ?_
  refine V_tlen (N := 8) g dJ1_indexOf_4cfef_17 hs4 rfl ?_
  refine V_mmin g dJ1_indexOf_4cfef_18 m_J1_38 (by omega) (by omega) rfl rfl rfl (fun z3 e3 => ?_)
  have em2 : z3 = 8 := by rw [e3]; rfl
  subst em2
  refine V_istore_n_3 (q := 22) g dJ1_indexOf_4cfef_21 (by decide) rfl rfl ?_
  refine V_iload_n (q := 23) g dJ1_indexOf_4cfef_22 rfl rfl ?_
  refine V_iload_n (q := 24) g dJ1_indexOf_4cfef_23 rfl rfl ?_
  refine V_icmp_lt (q := 27) g dJ1_indexOf_4cfef_24 (tgt := 29) (by decide) rfl (by omega) (by omega) (fun h24 => ?_) (fun h24 => absurd h24 (by omega))
  refine V_aload_n (q := 30) g dJ1_indexOf_4cfef_29 rfl rfl ?_
  refine V_iload_n (q := 31) g dJ1_indexOf_4cfef_30 rfl rfl ?_
  refine V_iload_n (q := 32) g dJ1_indexOf_4cfef_31 rfl rfl ?_
  refine V_iload_n (q := 33) g dJ1_indexOf_4cfef_32 rfl rfl ?_
  refine V_callSIE_4 (q := 36) g (Es_ok a v) he (c_J1_indexOfChar_4cfef l hc) dJ1_indexOf_4cfef_33 k_J1_95 rfl rfl ⟨rfl, rfl⟩ rfl (fun z9 M9 e9 => ?_)
  obtain ⟨e9, rfl⟩ := e9
  exact V_ireturn g r dJ1_indexOf_4cfef_36 rfl ⟨e9, rfl⟩
abbrev rm_J0_indexOf_7cf53 : Room := { frames := 2, cells := 0, slots := 0, locals := 48 }
set_option maxHeartbeats 4000000 in
set_option maxRecDepth 100000 in
theorem c_J0_indexOf_7cf53 (l : Launch) {D : DD} {Λ : LY} {M : MM} {a v : Nat} {c : Int} (hc : 0 ≤ c ∧ c ≤ 255) : CIE (Es a v) l yJ0_indexOf_7cf53 cJ0_indexOf_7cf53 3 .int rm_J0_indexOf_7cf53 [.ref a, vi c, vi 0] D Λ M (fun z M1 => z = sIx c ∧ M = M1) := by
  refine CIE_of rfl rfl (Nat.le_of_ble_eq_true rfl) (fun Γ g r he => ?_)
  obtain ⟨hs1, hs2, hs3, hs4⟩ := he.1.1 0 (by decide)
  refine V_aload_n (q := 1) g dJ0_indexOf_7cf53_0 rfl rfl ?_
  refine V_callVIE_0 (q := 4) g (Es_ok a v) he (c_J0_isLatin1_aae02 l) dJ0_indexOf_7cf53_1 k_J0_492 (Es_recv he) rfl rfl ⟨rfl, rfl⟩ rfl (fun z M9 e9 => ?_)
  obtain ⟨rfl, rfl⟩ := e9
  refine V_if_eq (q := 7) g dJ0_indexOf_7cf53_4 (tgt := 23) (by decide) rfl (by omega) (fun h4 => absurd h4 (by omega)) (fun h4 => ?_)
  refine V_aload_n (q := 8) g dJ0_indexOf_7cf53_7 rfl rfl ?_
  refine V_getfS g dJ0_indexOf_7cf53_8 hs3 j_value (fun x h => h) rfl ?_
  refine V_iload_n (q := 12) g dJ0_indexOf_7cf53_11 rfl rfl ?_
  refine V_iload_n (q := 13) g dJ0_indexOf_7cf53_12 rfl rfl ?_
  refine V_aload_n (q := 14) g dJ0_indexOf_7cf53_13 rfl rfl ?_
  refine V_callVIE_0 (q := 17) g (Es_ok a v) he (c_J0_length_8abf5 l) dJ0_indexOf_7cf53_14 k_J0_505 (Es_recv he) rfl rfl ⟨rfl, rfl⟩ rfl (fun z M9 e9 => ?_)
  obtain ⟨rfl, rfl⟩ := e9
  refine V_callSIE_4 (q := 20) g (Es_ok a v) he (c_J1_indexOf_4cfef l hc) dJ0_indexOf_7cf53_17 k_J0_637 rfl rfl ⟨rfl, rfl⟩ rfl (fun z9 M9 e9 => ?_)
  obtain ⟨e9, rfl⟩ := e9
  refine V_goto g dJ0_indexOf_7cf53_20 (tgt := 36) (by decide) ?_
  exact V_ireturn g r dJ0_indexOf_7cf53_36 rfl ⟨e9, rfl⟩
abbrev rm_J0_indexOf_0f7a4 : Room := { frames := 3, cells := 0, slots := 0, locals := 70 }
set_option maxHeartbeats 4000000 in
set_option maxRecDepth 100000 in
theorem c_J0_indexOf_0f7a4 (l : Launch) {D : DD} {Λ : LY} {M : MM} {a v : Nat} {c : Int} (hc : 0 ≤ c ∧ c ≤ 255) : CIE (Es a v) l yJ0_indexOf_0f7a4 cJ0_indexOf_0f7a4 2 .int rm_J0_indexOf_0f7a4 [.ref a, vi c] D Λ M (fun z M1 => z = sIx c ∧ M = M1) := by
  refine CIE_of rfl rfl (Nat.le_of_ble_eq_true rfl) (fun Γ g r he => ?_)
  obtain ⟨hs1, hs2, hs3, hs4⟩ := he.1.1 0 (by decide)
  refine V_aload_n (q := 1) g dJ0_indexOf_0f7a4_0 rfl rfl ?_
  refine V_iload_n (q := 2) g dJ0_indexOf_0f7a4_1 rfl rfl ?_
  refine V_iconst (q := 3) g dJ0_indexOf_0f7a4_2 rfl ?_
  refine V_callVIE_2 (q := 6) g (Es_ok a v) he (c_J0_indexOf_7cf53 l hc) dJ0_indexOf_0f7a4_3 k_J0_633 (Es_recv he) rfl rfl ⟨rfl, rfl⟩ rfl (fun z9 M9 e9 => ?_)
  obtain ⟨e9, rfl⟩ := e9
  exact V_ireturn g r dJ0_indexOf_0f7a4_6 rfl ⟨e9, rfl⟩
