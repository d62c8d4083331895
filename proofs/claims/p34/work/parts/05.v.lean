/-! Int words for the machine's numbers -/
def iI (z : Int) : Int32 := Int32.ofInt z
def lI (z : Int) : Int64 := Int64.ofInt z
abbrev inR (z : Int) : Prop := -2147483648 ≤ z ∧ z < 2147483648
abbrev inL (z : Int) : Prop := -9223372036854775808 ≤ z ∧ z < 9223372036854775808
abbrev vi (z : Int) : Value := .int (iI z)
abbrev vl (z : Int) : Value := .long (lI z)
theorem iI_toInt {z : Int} (h : inR z) : (iI z).toInt = z := Int32.toInt_ofInt_of_le (by omega) (by omega)
theorem lI_toInt {z : Int} (h : inL z) : (lI z).toInt = z := Int64.toInt_ofInt_of_le (by omega) (by omega)
theorem iI_self (x : Int32) : iI x.toInt = x := Int32.ofInt_toInt x
theorem lI_self (x : Int64) : lI x.toInt = x := Int64.ofInt_toInt x
theorem inR_toInt (x : Int32) : inR x.toInt := ⟨by have := x.le_toInt; omega, by have := x.toInt_lt; omega⟩
theorem inL_toInt (x : Int64) : inL x.toInt := ⟨by have := x.le_toInt; omega, by have := x.toInt_lt; omega⟩
theorem iI_add (a b : Int) : iI a + iI b = iI (a + b) := (Int32.ofInt_add a b).symm
theorem iI_sub (a b : Int) : iI a - iI b = iI (a - b) := (Int32.ofInt_sub a b).symm
theorem iI_mul (a b : Int) : iI a * iI b = iI (a * b) := (Int32.ofInt_mul a b).symm
theorem iI_neg (a : Int) : -iI a = iI (-a) := (Int32.ofInt_neg a).symm
theorem lI_add (a b : Int) : lI a + lI b = lI (a + b) := (Int64.ofInt_add a b).symm
theorem lI_sub (a b : Int) : lI a - lI b = lI (a - b) := (Int64.ofInt_sub a b).symm
theorem lI_mul (a b : Int) : lI a * lI b = lI (a * b) := (Int64.ofInt_mul a b).symm
theorem iI_lt {a b : Int} (ha : inR a) (hb : inR b) : iI a < iI b ↔ a < b := by rw [Int32.lt_iff_toInt_lt, iI_toInt ha, iI_toInt hb]
theorem iI_le {a b : Int} (ha : inR a) (hb : inR b) : iI a ≤ iI b ↔ a ≤ b := by rw [Int32.le_iff_toInt_le, iI_toInt ha, iI_toInt hb]
theorem iI_eq {a b : Int} (ha : inR a) (hb : inR b) : iI a = iI b ↔ a = b := by rw [← Int32.toInt_inj, iI_toInt ha, iI_toInt hb]
theorem lI_lt {a b : Int} (ha : inL a) (hb : inL b) : lI a < lI b ↔ a < b := by rw [Int64.lt_iff_toInt_lt, lI_toInt ha, lI_toInt hb]
theorem lI_eq {a b : Int} (ha : inL a) (hb : inL b) : lI a = lI b ↔ a = b := by rw [← Int64.toInt_inj, lI_toInt ha, lI_toInt hb]
theorem iI_ne0 {b : Int} (hb : 0 < b) (h : inR b) : ¬ iI b = 0 := fun e => by
  have e1 : iI b = iI 0 := e
  rw [iI_eq h (by decide)] at e1
  omega
theorem lI_ne0 {b : Int} (hb : 0 < b) (h : inL b) : ¬ lI b = 0 := fun e => by
  have e1 : lI b = lI 0 := e
  rw [lI_eq h (by decide)] at e1
  omega
theorem iI_div {a b : Int} (ha : 0 ≤ a) (ha2 : a < 2147483648) (hb : 0 < b) (hb2 : b < 2147483648) : iI a / iI b = iI (a / b) := by
  have h1 : 0 ≤ a / b := Int.ediv_nonneg ha (by omega)
  have h2 : a / b ≤ a := Int.ediv_le_self b ha
  rw [← Int32.toInt_inj, Int32.toInt_div, iI_toInt ⟨by omega, ha2⟩, iI_toInt ⟨by omega, hb2⟩, iI_toInt ⟨by omega, by omega⟩, Int.tdiv_eq_ediv_of_nonneg ha]
  exact Int.bmod_eq_of_le (by omega) (by omega)
theorem lI_div {a b : Int} (ha : 0 ≤ a) (ha2 : a < 9223372036854775808) (hb : 0 < b) (hb2 : b < 9223372036854775808) : lI a / lI b = lI (a / b) := by
  have h1 : 0 ≤ a / b := Int.ediv_nonneg ha (by omega)
  have h2 : a / b ≤ a := Int.ediv_le_self b ha
  rw [← Int64.toInt_inj, Int64.toInt_div, lI_toInt ⟨by omega, ha2⟩, lI_toInt ⟨by omega, hb2⟩, lI_toInt ⟨by omega, by omega⟩, Int.tdiv_eq_ediv_of_nonneg ha]
  exact Int.bmod_eq_of_le (by omega) (by omega)
theorem iI_rem {a b : Int} (ha : 0 ≤ a) (ha2 : a < 2147483648) (hb : 0 < b) (hb2 : b < 2147483648) : iI a - iI a / iI b * iI b = iI (a % b) := by
  rw [iI_div ha ha2 hb hb2, iI_mul, iI_sub, Int.emod_def, Int.mul_comm]
theorem lI_rem {a b : Int} (ha : 0 ≤ a) (ha2 : a < 9223372036854775808) (hb : 0 < b) (hb2 : b < 9223372036854775808) : lI a - lI a / lI b * lI b = lI (a % b) := by
  rw [lI_div ha ha2 hb hb2, lI_mul, lI_sub, Int.emod_def, Int.mul_comm]
theorem iI_bp {n : Int} (h : -128 ≤ n ∧ n < 128) : (Int8.ofInt n).toInt32 = iI n := by
  rw [← Int32.toInt_inj, Int8.toInt_toInt32, Int8.toInt_ofInt_of_le (by omega) (by omega), iI_toInt ⟨by omega, by omega⟩]
theorem iI_sp {n : Int} (h : -32768 ≤ n ∧ n < 32768) : (Int16.ofInt n).toInt32 = iI n := by
  rw [← Int32.toInt_inj, Int16.toInt_toInt32, Int16.toInt_ofInt_of_le (by omega) (by omega), iI_toInt ⟨by omega, by omega⟩]
theorem iI_l {a : Int} (h : inR a) : (iI a).toInt64 = lI a := by
  rw [← Int64.toInt_inj, Int32.toInt_toInt64, iI_toInt h, lI_toInt ⟨by omega, by omega⟩]
theorem lI_i (a : Int) : (lI a).toInt32 = iI a := by
  rw [← Int32.toInt_inj]
  simp [lI, iI, Int64.toInt_toInt32]
theorem iI_cl {a : Int} (h : 0 ≤ a ∧ a < 2147483648) : (iI a).toNatClampNeg = a.toNat := Int32.toNatClampNeg_ofInt_of_le (by omega) (by omega)
theorem iI_in {a : Int} {n : Nat} (h : 0 ≤ a ∧ a < n) (hn : n < 2147483648) : vp_in (iI a) n := by
  intro q
  rcases q with q | q
  · have q1 : iI a < iI 0 := q
    rw [iI_lt ⟨by omega, by omega⟩ (by decide)] at q1
    omega
  · rw [iI_cl ⟨h.1, by omega⟩] at q
    omega
theorem iI_nat (n : Nat) : Int32.ofNat n = iI n := (Int32.ofInt_eq_ofNat (n := n)).symm

/-! the flat memory: cells by address, numbers by place; what is no number never changes -/
abbrev MM : Type := Nat → Int → Int
abbrev KD : Type := (Int → Int) → va_E
abbrev LY : Type := Nat → Option KD
abbrev DD : Type := va_G × (Nat → ClassId)
def tysD (D : DD) : List (ClassId × FieldType) := [(D.2 0, .int), (D.2 0, .int), (D.2 0, .int), (D.2 3, .object "ChairStamps$Office")]
def kI (D : DD) (n : Nat) : KD := fun m => .inl (D.2 0, n, .inl (fun j => iI (m j)))
def kZ (D : DD) (n : Nat) : KD := fun m => .inl (D.2 1, n, .inl (fun j => iI (m j)))
def kJ (D : DD) (n : Nat) : KD := fun m => .inl (D.2 2, n, .inr (.inl (fun j => lI (m j))))
def kQ (D : DD) (n : Nat) (g : Nat → Nat) : KD := fun _ => .inl (D.2 3, n, .inr (.inr (.inr (.inr (fun j => some (g j))))))
def fO : List (Option Nat) → (Int → Int) → Int → List Value
  | [], _, _ => []
  | none :: r, m, k => .int (iI (m k)) :: fO r m (k + 1)
  | some a :: r, m, k => .ref a :: fO r m (k + 1)
def kO (ci : Nat) (fl : List (Option Nat)) : KD := fun m => .inr (ci, fO fl m 0)
/-- one number of one cell is another -/
def wr (M : MM) (a : Nat) (k v : Int) : MM := fun b j => if b = a ∧ j = k then v else M b j
def up (m : Int → Int) (k v : Int) : Int → Int := fun j => if j = k then v else m j
theorem wr_at (M : MM) (a : Nat) (k v : Int) : wr M a k v a = up (M a) k v := by funext j; simp [wr, up]
theorem wr_ne (M : MM) {a b : Nat} (k v : Int) (h : b ≠ a) : wr M a k v b = M b := by funext j; simp [wr, h]
def Hd (D : DD) (Λ : LY) (M : MM) (H : Heap) : Prop := ∀ (a : Nat) (K : KD), Λ a = some K → va_at D.1 vwCl (a, K (M a)) H
def Aw (Λ : LY) (sz : Nat) : Nat → Prop := fun q => (∃ K, Λ q = some K) ∨ sz ≤ q
theorem fO_len : ∀ (fl : List (Option Nat)) (m : Int → Int) (k : Int), (fO fl m k).length = fl.length
  | [], _, _ => rfl
  | none :: r, m, k => by rw [fO, List.length_cons, List.length_cons, fO_len r]
  | some a :: r, m, k => by rw [fO, List.length_cons, List.length_cons, fO_len r]
theorem fO_at : ∀ (fl : List (Option Nat)) (m : Int → Int) (k : Int) (j : Nat) (x : Option Nat), fl[j]? = some x → (fO fl m k)[j]? = some (match x with | none => .int (iI (m (k + j))) | some a => .ref a)
  | [], m, k, j, x, h => by simp at h
  | none :: r, m, k, 0, x, h => by simp at h; subst h; simp [fO]
  | some a :: r, m, k, 0, x, h => by simp at h; subst h; simp [fO]
  | none :: r, m, k, j + 1, x, h => by
    rw [fO, List.getElem?_cons_succ, fO_at r m (k + 1) j x (by simpa using h), show k + 1 + (j : Int) = k + ((j + 1 : Nat) : Int) by omega]
  | some a :: r, m, k, j + 1, x, h => by
    rw [fO, List.getElem?_cons_succ, fO_at r m (k + 1) j x (by simpa using h), show k + 1 + (j : Int) = k + ((j + 1 : Nat) : Int) by omega]
theorem fO_cg : ∀ (fl : List (Option Nat)) (m m' : Int → Int) (k : Int), (∀ j : Int, k ≤ j → m j = m' j) → fO fl m k = fO fl m' k
  | [], _, _, _, _ => rfl
  | none :: r, m, m', k, h => by rw [fO, fO, h k (Int.le_refl k), fO_cg r m m' (k + 1) (fun j hj => h j (by omega))]
  | some a :: r, m, m', k, h => by rw [fO, fO, fO_cg r m m' (k + 1) (fun j hj => h j (by omega))]
theorem fO_set : ∀ (fl : List (Option Nat)) (m : Int → Int) (k : Int) (j : Nat) (v : Int), fl[j]? = some none → (fO fl m k).set j (.int (iI v)) = fO fl (up m (k + j) v) k
  | [], m, k, j, v, h => by simp at h
  | some a :: r, m, k, 0, v, h => by simp at h
  | none :: r, m, k, 0, v, h => by
    rw [fO, fO, List.set_cons_zero, fO_cg r m (up m (k + (0 : Nat)) v) (k + 1) (fun i hi => by simp [up]; omega)]
    simp [up]
  | none :: r, m, k, j + 1, v, h => by
    rw [fO, fO, List.set_cons_succ, fO_set r m (k + 1) j v (by simpa using h), show k + 1 + (j : Int) = k + ((j + 1 : Nat) : Int) by omega]
    have : up m (k + ((j + 1 : Nat) : Int)) v k = m k := by simp [up]; omega
    rw [this]
  | some a :: r, m, k, j + 1, v, h => by
    rw [fO, fO, List.set_cons_succ, fO_set r m (k + 1) j v (by simpa using h), show k + 1 + (j : Int) = k + ((j + 1 : Nat) : Int) by omega]

/-- links to nest mates -/
def nestW : List Cond := [(Jvm.Cond.methodLinkNest "ChairStamps$Office" (52 : Nat) ({ cls := "ChairStamps", name := "fill", desc := "([II)V" } : Jvm.MethodName) "ChairStamps"), (Jvm.Cond.methodLinkNest "ChairStamps$Office" (56 : Nat) ({ cls := "ChairStamps", name := "put", desc := "([III)V" } : Jvm.MethodName) "ChairStamps"), (Jvm.Cond.fieldLinkNest "ChairStamps" (97 : Nat) "ChairStamps$Office" "chairs" "I" "ChairStamps"), (Jvm.Cond.fieldLinkNest "ChairStamps" (101 : Nat) "ChairStamps$Office" "floors" "I" "ChairStamps"), (Jvm.Cond.fieldLinkNest "ChairStamps" (119 : Nat) "ChairStamps$Office" "guilds" "[I" "ChairStamps"), (Jvm.Cond.fieldLinkNest "ChairStamps" (122 : Nat) "ChairStamps$Office" "floorsUnder" "[I" "ChairStamps"), (Jvm.Cond.fieldLinkNest "ChairStamps" (125 : Nat) "ChairStamps$Office" "quarters" "[I" "ChairStamps"), (Jvm.Cond.fieldLinkNest "ChairStamps" (137 : Nat) "ChairStamps$Office" "stamps" "[I" "ChairStamps"), (Jvm.Cond.fieldLinkNest "ChairStamps" (143 : Nat) "ChairStamps$Office" "sitters" "[I" "ChairStamps"), (Jvm.Cond.fieldLinkNest "ChairStamps" (179 : Nat) "ChairStamps$Office" "values" "[I" "ChairStamps"), (Jvm.Cond.fieldLinkNest "ChairStamps" (107 : Nat) "ChairStamps$Office" "totals" "[I" "ChairStamps"), (Jvm.Cond.fieldLinkNest "ChairStamps" (221 : Nat) "ChairStamps$Memory" "count" "I" "ChairStamps"), (Jvm.Cond.methodLinkNest "ChairStamps" (28 : Nat) ({ cls := "ChairStamps$Slot", name := "<init>", desc := "()V" } : Jvm.MethodName) "ChairStamps"), (Jvm.Cond.fieldLinkNest "ChairStamps" (273 : Nat) "ChairStamps$Slot" "content" "LChairStamps$Office;" "ChairStamps"), (Jvm.Cond.fieldLinkNest "ChairStamps" (82 : Nat) "ChairStamps$Slot" "used" "Z" "ChairStamps"), (Jvm.Cond.methodLinkNest "ChairStamps" (38 : Nat) ({ cls := "ChairStamps$OfficeText", name := "<init>", desc := "()V" } : Jvm.MethodName) "ChairStamps"), (Jvm.Cond.fieldLinkNest "ChairStamps" (308 : Nat) "ChairStamps$OfficeText" "letter" "I" "ChairStamps"), (Jvm.Cond.fieldLinkNest "ChairStamps" (305 : Nat) "ChairStamps$OfficeText" "numbers" "[I" "ChairStamps"), (Jvm.Cond.methodLinkNest "ChairStamps$OfficeText" (28 : Nat) ({ cls := "ChairStamps", name := "put", desc := "([III)V" } : Jvm.MethodName) "ChairStamps"), (Jvm.Cond.methodLinkNest "ChairStamps$OfficeText" (43 : Nat) ({ cls := "ChairStamps", name := "at", desc := "([II)I" } : Jvm.MethodName) "ChairStamps"), (Jvm.Cond.methodLinkNest "ChairStamps$OfficeText" (61 : Nat) ({ cls := "ChairStamps", name := "within", desc := "(III)Z" } : Jvm.MethodName) "ChairStamps"), (Jvm.Cond.methodLinkNest "ChairStamps$Office" (104 : Nat) ({ cls := "ChairStamps", name := "within", desc := "(III)Z" } : Jvm.MethodName) "ChairStamps"), (Jvm.Cond.methodLinkNest "ChairStamps$Office" (64 : Nat) ({ cls := "ChairStamps", name := "at", desc := "([II)I" } : Jvm.MethodName) "ChairStamps"), (Jvm.Cond.methodLinkNest "ChairStamps$Office" (60 : Nat) ({ cls := "ChairStamps", name := "copyRow", desc := "([I[I)V" } : Jvm.MethodName) "ChairStamps")]
def ncW : List (String × String) := [("java/lang/IllegalArgumentException", "java/lang/IllegalStateException"), ("java/lang/IllegalArgumentException", "java/lang/IndexOutOfBoundsException"), ("java/lang/IllegalStateException", "java/lang/IllegalArgumentException"), ("java/lang/IllegalStateException", "java/lang/IndexOutOfBoundsException"), ("java/lang/IndexOutOfBoundsException", "java/lang/IllegalArgumentException"), ("java/lang/IndexOutOfBoundsException", "java/lang/IllegalStateException")]
def strW : List (String × Nat × String) := [("ChairStamps", 49, "no character code"), ("ChairStamps", 60, "the text is full"), ("ChairStamps$OfficeText", 47, "cshfbtwg"), ("ChairStamps", 74, "the text is not an office"), ("ChairStamps", 95, "no such number"), ("ChairStamps", 284, "no such chair"), ("ChairStamps", 146, "no such number of a chair"), ("ChairStamps", 148, "no such way"), ("ChairStamps", 292, "no such leg, spot, guild or bound"), ("ChairStamps", 166, "no such number of a leg"), ("ChairStamps", 290, "no such floor"), ("ChairStamps", 177, "no such setting"), ("ChairStamps", 296, "no such thing"), ("ChairStamps", 298, "an argument is out of its range"), ("ChairStamps", 300, "the office does not allow it now"), ("ChairStamps", 224, "no state is remembered"), ("ChairStamps", 229, "no such number of a turn"), ("ChairStamps", 243, "no such weight"), ("ChairStamps", 294, "no such save slot"), ("ChairStamps", 276, "nothing is saved in the slot"), ("ChairStamps", 252, "no such script"), ("ChairStamps", 260, "no such number of turns")]
def formsL : List Int := [1, 0, 3, 3, 100, 900, 0, 0, 0, 0, 0, 0, 1, 0, 9, 1, 0, 3, 3, 1, 800, 0, 0, 0, 1, 0, 9, 1, 0, 3, 2, 1, 99, 0, 0, 0, 2, 0, 50, 2, 0, 50, 2, 0, 50, 2, 0, 50, 1, 0, 9, 1, 0, 3, 1, 0, 3, 0, 0, 0, 1, 0, 9, 0, 0, 0, 0, 0, 0, 0, 0, 0, 1, 0, 9, 3, 1, 200, 0, 0, 0, 0, 0, 0, 1, 0, 3, 1, 0, 3, 3, 0, 900, 0, 0, 0]
def lettersL : List Int32 := [99, 115, 104, 102, 98, 116, 119, 103]
/-- what stands in the heap outside of the world, and in the tables, and stays -/
def St (A : Nat → Prop) (U : State) (H : Heap) : Prop :=
  (∀ w ∈ nestW, va_Nw w U) ∧ (∀ x ∈ ncW, va_Nc x.1 x.2 U) ∧ (∀ x ∈ strW, ∃ a, vk_R x.1 x.2.1 x.2.2 a U) ∧
  vx_Zq Bundle.tN "UNASSIGNED_STACK" Bundle.steD A U H ∧ vx_Zq Bundle.tN "SUPPRESSED_SENTINEL" Bundle.listD A U H ∧
  (∃ t, va_Z "ChairStamps$OfficeText" "FORMS" "[I" (.ref t) A U H ∧ va_T .int t 96 (fun j => .int (iI (formsL.getD j 0))) A U H) ∧
  (∃ a v, vk_R "ChairStamps$OfficeText" 47 "cshfbtwg" a U ∧ vk_S 1 [8] [lettersL] (fun _ => a) (fun _ => v) A U H) ∧
  va_Z "java/lang/String" "COMPACT_STRINGS" "Z" (.int 1) A U H
def isNest : Cond → Bool
  | .fieldLinkNest .. => true
  | .methodLinkNest .. => true
  | _ => false
theorem nest_warm {w : Cond} (hw : w ∈ nestW) {s U : State} (hW : s.WarmedH U.vm) (h : va_Nw w s) : va_Nw w U := by
  have hk : isNest w = true := List.all_eq_true.mp (show nestW.all isNest = true by decide +kernel) w hw
  cases w <;> first | exact va_Nw.warmF hW h | exact va_Nw.warmM hW h | cases hk
theorem nest_same {w : Cond} (hw : w ∈ nestW) {s U : State} (h : s.vm = U.vm) (hn : va_Nw w s) : va_Nw w U := by
  refine va_Nw.same ?_ h hn
  exact List.all_eq_true.mp (show nestW.all (fun w => w.onTables) = true by decide +kernel) w hw
theorem St.kept {A : Nat → Prop} {U : State} {H H1 : Heap} (h : St A U H) (hq : ∀ a : Nat, a < H.size → ¬ A a → H1[a]? = H[a]?) : St A U H1 := by
  obtain ⟨h1, h2, h3, h4, h5, ⟨t, h6, h7⟩, ⟨a, v, h8, h9⟩, h10⟩ := h
  exact ⟨h1, h2, h3, h4.kept hq, h5.kept hq, ⟨t, h6.kept hq, h7.kept hq⟩, ⟨a, v, h8, h9.kept hq⟩, h10.kept hq⟩
theorem St.warm {A : Nat → Prop} {s U : State} {H : Heap} (hW : s.WarmedH U.vm) (h : St A s H) : St A U H := by
  obtain ⟨h1, h2, h3, h4, h5, ⟨t, h6, h7⟩, ⟨a, v, h8, h9⟩, h10⟩ := h
  exact ⟨fun w hw => nest_warm hw hW (h1 w hw), fun x hx => va_Nc.moved hW.alike (h2 x hx), fun x hx => (h3 x hx).imp fun a ha => vk_R.warm hW ha, h4.moved hW.alike, h5.moved hW.alike, ⟨t, h6.moved hW.alike, h7.moved hW.alike⟩, ⟨a, v, vk_R.warm hW h8, h9.moved hW.alike⟩, h10.moved hW.alike⟩
theorem St.same {A : Nat → Prop} {s U : State} {H : Heap} (hv : s.vm = U.vm) (h : St A s H) : St A U H := by
  have hW : s.WarmedH U.vm := by rw [← hv]; exact State.WarmedH.refl s
  exact St.warm hW h
theorem St.narrow {A B : Nat → Prop} {U : State} {H : Heap} (h : St A U H) (hAB : ∀ q, B q → A q) : St B U H := by
  obtain ⟨h1, h2, h3, h4, h5, ⟨t, h6, h7⟩, ⟨a, v, h8, h9⟩, h10⟩ := h
  exact ⟨h1, h2, h3, h4.narrow hAB, h5.narrow hAB, ⟨t, h6.narrow hAB, h7.narrow hAB⟩, ⟨a, v, h8, h9.narrow hAB⟩, h10.narrow hAB⟩
/-- the good words of the tables: every method's -/
def BIG : List Cond := lw_tbl.filter goodWord
theorem big_in {w : Cond} {i : Nat} (h : lw_tbl[i]? = some w) (hg : goodWord w = true) : w ∈ BIG := List.mem_filter.mpr ⟨List.mem_of_getElem? h, hg⟩
theorem big_good : GoodIn BIG BIG := fun w h => ⟨h, good_of_word (List.mem_filter.mp h).2⟩
def WS (y : MethodName) (cc : ByteArray) (nL : Nat) (ret : Option FieldType) : List Cond := .code y cc nL ret :: BIG
