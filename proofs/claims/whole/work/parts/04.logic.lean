/-! MY OWN LOGIC: one judgement GG over an abstract heap (cells of two kinds: those of a fixed number i, at the address g_L Γ i, and the others by their address), so that no row speaks of the machine's state -/
abbrev XE : Type := (Nat × vp_A) ⊕ (Nat × List Value)
abbrev XH : Type := (Nat → Option XE) × (Nat → Option XE)
abbrev GT : Type := Launch × va_G × (Nat → ClassId) × Heap × (Nat → Nat) × (Nat × Nat × (Nat → Int32)) × (Nat → Nat) × (Nat → Nat) × Nat
abbrev MT : Type := MethodName × ByteArray × Nat × Option FieldType × Room × List (Nat × Nat × Nat × Nat)
def g_l (Γ : GT) : Launch := Γ.1
def g_D (Γ : GT) : va_G := Γ.2.1
def g_aT (Γ : GT) : Nat → ClassId := Γ.2.2.1
def g_H (Γ : GT) : Heap := Γ.2.2.2.1
def g_L (Γ : GT) : Nat → Nat := Γ.2.2.2.2.1
def g_b (Γ : GT) : Nat := Γ.2.2.2.2.2.1.1
def g_n (Γ : GT) : Nat := Γ.2.2.2.2.2.1.2.1
def g_x (Γ : GT) : Nat → Int32 := Γ.2.2.2.2.2.1.2.2
def g_str (Γ : GT) : Nat → Nat := Γ.2.2.2.2.2.2.1
def g_sv (Γ : GT) : Nat → Nat := Γ.2.2.2.2.2.2.2.1
def g_nm (Γ : GT) : Nat := Γ.2.2.2.2.2.2.2.2
def gA (Γ : GT) : Nat → Prop := fun q => (g_H Γ).size ≤ q
/-- kinds of arrays -/
def aTy : Nat → FieldType := fun k => match k with
  | 0 => .int
  | 1 => .char
  | 2 => .boolean
  | 3 => .long
  | 4 => .double
  | 5 => .object RX2
  | 6 => .object RX8
  | 7 => .object RX0
  | 8 => .object RX7
  | 9 => .object RX3
  | _ => .object RX4
def tysL (Γ : GT) : List (ClassId × FieldType) := (List.range 11).map (fun k => (g_aT Γ k, aTy k))
theorem tysL_at (Γ : GT) {k : Nat} (hk : k < 11) : (tysL Γ)[k]? = some (g_aT Γ k, aTy k) := by
  unfold tysL
  rw [List.getElem?_map, List.getElem?_range hk]
  rfl
def xE (Γ : GT) : XE → va_E := fun e => match e with
  | .inl x => .inl (g_aT Γ x.1, x.2)
  | .inr o => .inr o
def xat (Γ : GT) (q : Nat) (e : XE) (H : Heap) : Prop := va_at (g_D Γ) vwCl (q, xE Γ e) H
def RH (Γ : GT) (h : XH) (H : Heap) : Prop :=
  (g_H Γ).size ≤ H.size ∧ (∀ q : Nat, q < (g_H Γ).size → H[q]? = (g_H Γ)[q]?) ∧
  (∀ (i : Nat) (e : XE), h.1 i = some e → xat Γ (g_L Γ i) e H ∧ (g_H Γ).size ≤ g_L Γ i) ∧
  (∀ (q : Nat) (e : XE), h.2 q = some e → xat Γ q e H ∧ (g_H Γ).size ≤ q) ∧
  (∀ (i j : Nat) (e f : XE), h.1 i = some e → h.1 j = some f → g_L Γ i = g_L Γ j → i = j) ∧
  (∀ (i : Nat) (e f : XE), h.1 i = some e → h.2 (g_L Γ i) = some f → False)
def h00 : XH := (fun _ => none, fun _ => none)
theorem RH.base {Γ : GT} {h : XH} {H : Heap} (R : RH Γ h H) : RH Γ h00 H :=
  ⟨R.1, R.2.1, fun i e q => by simp [h00] at q, fun i e q => by simp [h00] at q, fun i j e f q => by simp [h00] at q, fun i e f q => by simp [h00] at q⟩
/-- what does not change but for warmth -/
def STL : List (String × Nat × String) := [("VerseScanner", 84, "the input is full"), ("VerseScanner", 98, "no text had an error"), ("VerseScanner", 103, "no such metre"), ("VerseScanner", 126, "the text is no metre"), ("VerseScanner", 134, "a metre has no such number"), ("VerseScanner", 136, "no such tolerance"), ("VerseScanner", 145, "the text is no exception"), ("VerseScanner", 160, "there are too many exceptions"), ("VerseScanner", 172, "no such exception"), ("VerseScanner", 189, "no such number of a line"), ("VerseScanner", 195, "the text is no line"), ("VerseScanner", 197, "the draft is full"), ("VerseScanner", 235, "no such position in the line"), ("VerseScanner", 273, "a line has no such number"), ("VerseScanner", 279, "no such word"), ("VerseScanner", 298, "a word has no such number"), ("VerseScanner", 300, "no such position in the rhyme"), ("VerseScanner", 314, "these elisions cannot be made together"), ("VerseScanner", 320, "this is no scan"), ("VerseScanner", 322, "a scan has no such number"), ("VerseScanner", 329, "the line has no scan"), ("VerseScanner", 358, "no line fits any metre"), ("VerseScanner", 360, "a draft has no such account"), ("VerseScanner", 372, "no line has a scan"), ("VerseScanner", 375, "there is no change to undo"), ("VerseScanner", 383, "nothing was saved"), ("VerseScanner", 385, "no such draft"), ("VerseScanner", 395, "no such line"), ("VerseScanner", 449, "aeiouy"), ("VerseScanner$Input", 113, "iamb"), ("VerseScanner$Input", 115, "trochee"), ("VerseScanner$Input", 117, "anapest"), ("VerseScanner$Input", 119, "dactyl"), ("VerseScanner$Word", 43, "aeiouy")]
def NWM : List (String × Nat × MethodName × String) := [("VerseScanner", 11, ⟨"VerseScanner$Input", "<init>", "()V"⟩, "VerseScanner"), ("VerseScanner", 29, ⟨"VerseScanner$Reading", "<init>", "()V"⟩, "VerseScanner"), ("VerseScanner$Reading", 69, ⟨"VerseScanner", "syllablesOf", "(LVerseScanner$Word;LVerseScanner$Marking;)I"⟩, "VerseScanner"), ("VerseScanner$Reading", 79, ⟨"VerseScanner", "markOf", "(LVerseScanner$Word;LVerseScanner$Marking;I)I"⟩, "VerseScanner"), ("VerseScanner$State", 39, ⟨"VerseScanner$Draft", "<init>", "()V"⟩, "VerseScanner"), ("VerseScanner$State", 75, ⟨"VerseScanner", "syllablesOf", "(LVerseScanner$Word;LVerseScanner$Marking;)I"⟩, "VerseScanner"), ("VerseScanner$State", 79, ⟨"VerseScanner", "markOf", "(LVerseScanner$Word;LVerseScanner$Marking;I)I"⟩, "VerseScanner"), ("VerseScanner$Word", 19, ⟨"VerseScanner", "isVowel", "(C)Z"⟩, "VerseScanner")]
def NWC : List (String × String) := [("java/lang/IllegalStateException", "java/lang/IllegalStateException"), ("java/util/NoSuchElementException", "java/util/NoSuchElementException"), ("java/lang/IllegalArgumentException", "java/lang/IllegalArgumentException"), ("java/lang/IndexOutOfBoundsException", "java/lang/IndexOutOfBoundsException"), ("java/lang/ArithmeticException", "java/lang/ArithmeticException")]
def NWN : List (String × String) := [("java/lang/IllegalStateException", "java/util/NoSuchElementException"), ("java/lang/IllegalStateException", "java/lang/IllegalArgumentException"), ("java/lang/IllegalStateException", "java/lang/IndexOutOfBoundsException"), ("java/lang/IllegalStateException", "java/lang/ArithmeticException"), ("java/util/NoSuchElementException", "java/lang/IllegalStateException"), ("java/util/NoSuchElementException", "java/lang/IllegalArgumentException"), ("java/util/NoSuchElementException", "java/lang/IndexOutOfBoundsException"), ("java/util/NoSuchElementException", "java/lang/ArithmeticException"), ("java/lang/IllegalArgumentException", "java/lang/IllegalStateException"), ("java/lang/IllegalArgumentException", "java/util/NoSuchElementException"), ("java/lang/IllegalArgumentException", "java/lang/IndexOutOfBoundsException"), ("java/lang/IllegalArgumentException", "java/lang/ArithmeticException"), ("java/lang/IndexOutOfBoundsException", "java/lang/IllegalStateException"), ("java/lang/IndexOutOfBoundsException", "java/util/NoSuchElementException"), ("java/lang/IndexOutOfBoundsException", "java/lang/IllegalArgumentException"), ("java/lang/IndexOutOfBoundsException", "java/lang/ArithmeticException"), ("java/lang/ArithmeticException", "java/lang/IllegalStateException"), ("java/lang/ArithmeticException", "java/util/NoSuchElementException"), ("java/lang/ArithmeticException", "java/lang/IllegalArgumentException"), ("java/lang/ArithmeticException", "java/lang/IndexOutOfBoundsException")]
def AOL : List String := [RX2, RX8, RX0, RX7, RX3, RX4]
def s_own : Nat → (String × Nat × String) := fun k => match k with
  | 0 => ("VerseScanner", 449, "aeiouy")
  | 1 => ("VerseScanner$Input", 113, "iamb")
  | 2 => ("VerseScanner$Input", 115, "trochee")
  | 3 => ("VerseScanner$Input", 117, "anapest")
  | 4 => ("VerseScanner$Input", 119, "dactyl")
  | _ => ("VerseScanner$Word", 43, "aeiouy")
def s_len : List Nat := [6, 4, 7, 7, 6]
def s_byt : List (List Int32) := [[97, 101, 105, 111, 117, 121], [105, 97, 109, 98], [116, 114, 111, 99, 104, 101, 101], [97, 110, 97, 112, 101, 115, 116], [100, 97, 99, 116, 121, 108]]
def s_ix : Nat → Nat := fun k => match k with
  | 5 => 0
  | k => k
def nm_f : Nat → Value := fun j => .int (([105, 97, 109, 98, 0, 0, 0, 0, 116, 114, 111, 99, 104, 101, 101, 0, 97, 110, 97, 112, 101, 115, 116, 0, 100, 97, 99, 116, 121, 108, 0, 0] : List Int32).getD j 0)
def NWD : List MethodName := [⟨"java/lang/RuntimeException", "<init>", "(Ljava/lang/String;)V"⟩, ⟨"java/lang/Exception", "<init>", "(Ljava/lang/String;)V"⟩, ⟨"java/lang/Throwable", "<init>", "(Ljava/lang/String;)V"⟩]
def KB (Γ : GT) (U : State) : Prop :=
  va_K (g_D Γ) vwCl (tysL Γ) U ∧
  vx_Zq Bundle.tN "UNASSIGNED_STACK" Bundle.steD (gA Γ) U (g_H Γ) ∧ vx_Zq Bundle.tN "SUPPRESSED_SENTINEL" Bundle.listD (gA Γ) U (g_H Γ) ∧
  (∀ q ∈ NWM, va_Nw (.methodLinkNest q.1 q.2.1 q.2.2.1 q.2.2.2) U) ∧ (∀ q ∈ NWC, va_Nw (.castable q.1 q.2) U) ∧ (∀ C ∈ AOL, va_AO C U) ∧
  (∀ q ∈ STL, ∃ a : Nat, vk_R q.1 q.2.1 q.2.2 a U) ∧
  (∀ k, k < 6 → vk_R (s_own k).1 (s_own k).2.1 (s_own k).2.2 (g_str Γ (s_ix k)) U) ∧
  vk_S 5 s_len s_byt (g_str Γ) (g_sv Γ) (gA Γ) U (g_H Γ) ∧
  va_Z RX10 "NAMES" "[I" (.ref (g_nm Γ)) (gA Γ) U (g_H Γ) ∧ va_T .int (g_nm Γ) 32 nm_f (gA Γ) U (g_H Γ) ∧
  (∀ q ∈ NWN, va_Nc q.1 q.2 U) ∧
  va_X (g_b Γ) (g_n Γ) (g_x Γ) U (g_H Γ) ∧ g_b Γ < (g_H Γ).size ∧ (g_l Γ).stackTraces = false ∧
  va_Z "java/lang/String" "COMPACT_STRINGS" "Z" (.int 1) (gA Γ) U (g_H Γ) ∧ va_Zq "jdk/internal/util/Preconditions" "SIOOBE_FORMATTER" "Ljava/util/function/BiFunction;" (gA Γ) U (g_H Γ) ∧ (∀ q ∈ NWD, va_Nw (.declares q) U)
theorem KB.warm {Γ : GT} {s U : State} (hW : s.WarmedH U.vm) (K : KB Γ s) : KB Γ U := by
  obtain ⟨k1, k2, k3, k4, k5, k6, k7, k8, k9, k10, k11, k12, k13, k14, k15, k16, k17, k18⟩ := K
  exact ⟨k1.moved hW.alike, k2.moved hW.alike, k3.moved hW.alike, fun q hq => va_Nw.warmM hW (k4 q hq), fun q hq => va_Nw.warmC hW (k5 q hq), fun C hC => (k6 C hC).moved hW.alike,
    fun q hq => (k7 q hq).imp fun a ha => ha.warm hW, fun k hk => (k8 k hk).warm hW, k9.moved hW.alike, k10.moved hW.alike, k11.moved hW.alike, fun q hq => (k12 q hq).moved hW.alike, k13.moved hW.alike, k14, k15, k16.moved hW.alike, k17.moved hW.alike, fun q hq => va_Nw.warmD hW (k18 q hq)⟩
theorem KB.calling {Γ : GT} {U : State} (g : JFrame) (mk : MethodId) (a : Array Value) (K : KB Γ U) : KB Γ (U.calling g mk a) := by
  obtain ⟨k1, k2, k3, k4, k5, k6, k7, k8, k9, k10, k11, k12, k13, k14, k15, k16, k17, k18⟩ := K
  have hv : (U.calling g mk a).vm = U.vm := rfl
  exact ⟨k1.moved (Vm.Alike.refl _), k2.moved (Vm.Alike.refl _), k3.moved (Vm.Alike.refl _), fun q hq => va_Nw.same rfl hv.symm (k4 q hq), fun q hq => va_Nw.same rfl hv.symm (k5 q hq), fun C hC => (k6 C hC).moved (Vm.Alike.refl _),
    fun q hq => (k7 q hq).imp fun a9 ha => ha.same hv, fun k hk => (k8 k hk).same hv, k9.moved (Vm.Alike.refl _), k10.moved (Vm.Alike.refl _), k11.moved (Vm.Alike.refl _), fun q hq => (k12 q hq).moved (Vm.Alike.refl _), k13.moved (Vm.Alike.refl _), k14, k15, k16.moved (Vm.Alike.refl _), k17.moved (Vm.Alike.refl _), fun q hq => va_Nw.same rfl hv.symm (k18 q hq)⟩
/-- locals: by their slots; a long or double takes its slot and an empty one -/
def lget : List (Option Value) → Nat → Option Value
  | [], _ => none
  | a :: _, 0 => a
  | _ :: t, k + 1 => lget t k
def lset : List (Option Value) → Nat → Option Value → List (Option Value)
  | [], _, _ => []
  | _ :: t, 0, v => v :: t
  | a :: t, k + 1, v => a :: lset t k v
def lok (lv : List (Option Value)) (i : Nat) : Bool := match i with
  | 0 => true
  | j + 1 => match lget lv j with
    | some v => v.category == 1
    | none => true
theorem lget_set {v : Option Value} : ∀ (lv : List (Option Value)) (i j : Nat), lget (lset lv i v) j = if i = j then (if i < lv.length then v else none) else lget lv j
  | [], i, j => by by_cases h : i = j <;> simp [lset, lget, h]
  | a :: t, 0, 0 => by simp [lset, lget]
  | a :: t, 0, j + 1 => by simp [lset, lget]
  | a :: t, i + 1, 0 => by simp [lset, lget]
  | a :: t, i + 1, j + 1 => by simp [lset, lget, lget_set t i j]
def LR (ls : Array Slot) (nL : Nat) (lv : List (Option Value)) : Prop := ls.size = nL ∧ lv_wf ls ∧ ∀ (i : Nat) (v : Value), lget lv i = some v → ls[i]? = some (.val v)
theorem LR.store1 {ls : Array Slot} {nL i : Nat} {v : Value} {lv : List (Option Value)} (h : LR ls nL lv) (hi : i < nL) (ho : lok lv i = true) (ls' : Array Slot) (hw : ls'.size = nL) (hwf : lv_wf ls') (hs : ls'[i]? = some (.val v)) (hk : ∀ j, j ≠ i → (∀ w, ls[j]? = some (.val w) → (w.category = 2 → j + 1 ≠ i) → ls'[j]? = some (.val w))) : LR ls' nL (lset lv i (some v)) := by
  refine ⟨hw, hwf, fun j w hj => ?_⟩
  rw [lget_set] at hj
  by_cases e : i = j
  · subst e
    rw [if_pos rfl] at hj
    split at hj
    · cases hj; exact hs
    · cases hj
  · rw [if_neg e] at hj
    refine hk j (fun q => e q.symm) w (h.2.2 j w hj) (fun h2 e2 => ?_)
    subst e2
    simp only [lok, hj, h2] at ho
    exact absurd ho (by decide)
/-- the assoc list of the kit -/
theorem LR.has {ls : Array Slot} {nL : Nat} {lv : List (Option Value)} (h : LR ls nL lv) (l : List (Nat × Value)) (hl : ∀ q ∈ l, lget lv q.1 = some q.2) : lv_has ls nL l := ⟨h.1, h.2.1, fun q hq => h.2.2 q.1 q.2 (hl q hq)⟩
def las : List (Option Value) → Nat → List (Nat × Value)
  | [], _ => []
  | none :: t, k => las t (k + 1)
  | some v :: t, k => (k, v) :: las t (k + 1)
theorem las_get : ∀ (lv : List (Option Value)) (k j : Nat) (v : Value), (k + j, v) ∈ las lv k ↔ lget lv j = some v
  | [], k, j, v => by simp [las, lget]
  | none :: t, k, 0, v => by
    simp only [las, lget, Nat.add_zero]
    constructor
    · intro h
      exact absurd h (las_low t (k + 1) k v (Nat.lt_succ_self k))
    · intro h; cases h
  | none :: t, k, j + 1, v => by
    have := las_get t (k + 1) j v
    simp only [las, lget]
    rw [show k + (j + 1) = k + 1 + j by omega]
    exact this
  | some a :: t, k, 0, v => by
    simp only [las, lget, Nat.add_zero]
    constructor
    · intro h
      rcases List.mem_cons.mp h with e | h
      · cases e; rfl
      · exact absurd h (las_low t (k + 1) k v (Nat.lt_succ_self k))
    · intro h; cases h; exact List.mem_cons_self
  | some a :: t, k, j + 1, v => by
    have := las_get t (k + 1) j v
    simp only [las, lget]
    rw [show k + (j + 1) = k + 1 + j by omega]
    constructor
    · intro h
      rcases List.mem_cons.mp h with e | h
      · exact absurd (congrArg Prod.fst e) (by simp; omega)
      · exact this.mp h
    · intro h; exact List.mem_cons_of_mem _ (this.mpr h)
where
  las_low : ∀ (lv : List (Option Value)) (k j : Nat) (v : Value), j < k → (j, v) ∉ las lv k
  | [], k, j, v, _ => by simp [las]
  | none :: t, k, j, v, h => by simpa [las] using las_low t (k + 1) j v (by omega)
  | some a :: t, k, j, v, h => by
    simp only [las, List.mem_cons, not_or]
    exact ⟨fun e => absurd (congrArg Prod.fst e) (by simp; omega), las_low t (k + 1) j v (by omega)⟩
theorem LR.as {ls : Array Slot} {nL : Nat} {lv : List (Option Value)} (h : LR ls nL lv) : lv_has ls nL (las lv 0) := h.has _ fun q hq => (las_get lv 0 q.1 q.2).mp (by rw [Nat.zero_add]; exact hq)
theorem LR.of_has {ls : Array Slot} {nL i : Nat} {v : Value} {lv : List (Option Value)} (hi : i < nL) (ho : lok lv i = true) (h : lv_has ls nL ((i, v) :: (las lv 0).filter (fun q => !(q.1 == i) && !(q.1 + 1 == i && q.2.category == 2)))) : LR ls nL (lset lv i (some v)) := by
  refine ⟨h.1, h.2.1, fun j w hj => ?_⟩
  rw [lget_set] at hj
  by_cases e : i = j
  · subst e
    rw [if_pos rfl] at hj
    split at hj
    · cases hj; exact h.2.2 (i, v) List.mem_cons_self
    · cases hj
  · rw [if_neg e] at hj
    refine h.2.2 (j, w) (List.mem_cons_of_mem _ (List.mem_filter.mpr ⟨?_, ?_⟩))
    · have := (las_get lv 0 j w).mpr hj
      rwa [Nat.zero_add] at this
    · have e1 : (j == i) = false := beq_eq_false_iff_ne.mpr (fun q => e q.symm)
      simp only [e1, Bool.not_false, Bool.true_and]
      by_cases e2 : j + 1 = i
      · subst e2
        simp only [lok, hj] at ho
        have h1 : w.category = 1 := by simpa using ho
        simp [h1]
      · simp [beq_eq_false_iff_ne.mpr e2]
def CX (Γ : GT) (M : MT) (p : Program) (s : State) (m : MethodId) (args : Array Value) (meth : Method) (c : Code) : Prop :=
  p.tables.exec = Jvm.exec ∧ c.code = M.2.1 ∧ meth.sig.returnType = M.2.2.2.1 ∧ c.maxLocals = M.2.2.1 ∧ s.vm.findClass M.1.cls = some m.cls ∧ meth.locks = false ∧
  (∀ w ∈ WA, w.before args s = true) ∧ KB Γ s ∧ meth.name = M.1.name ∧ RH Γ h00 s.heap ∧ c.exceptionTable.toList = tableOf M.2.2.2.2.2
/-- the judgement -/
def GG (Γ : GT) (M : MT) (QF : List Frame → Array Value → State → State → Prop) (cs : Nat × Nat) (h : XH) (pc : Nat) (lv : List (Option Value)) (st : List Value) : Prop :=
  ∀ (p : Program) (e : Env) (s : State) (m : MethodId) (args : Array Value) (below : List Frame) (meth : Method) (c : Code) (H : Heap) (locs : List Loc) (ls : Array Slot),
    CX Γ M p s m args meth c → RH Γ h H → s.heap.size ≤ H.size → (∀ z ∈ locs, gA Γ z.base) → LR ls M.2.2.1 lv →
    W p (g_l Γ) e M.2.2.2.2.1 s m args below meth c H locs cs.1 cs.2 (QF below args s) (F0 m pc ls st)
theorem CX.x {Γ M p s m args meth c} (C : CX Γ M p s m args meth c) : p.tables.exec = Jvm.exec := C.1
theorem CX.b {Γ M p s m args meth c} (C : CX Γ M p s m args meth c) : c.code = M.2.1 := C.2.1
theorem CX.r {Γ M p s m args meth c} (C : CX Γ M p s m args meth c) : meth.sig.returnType = M.2.2.2.1 := C.2.2.1
theorem CX.ml {Γ M p s m args meth c} (C : CX Γ M p s m args meth c) : c.maxLocals = M.2.2.1 := C.2.2.2.1
theorem CX.own {Γ M p s m args meth c} (C : CX Γ M p s m args meth c) : s.vm.findClass M.1.cls = some m.cls := C.2.2.2.2.1
theorem CX.lk {Γ M p s m args meth c} (C : CX Γ M p s m args meth c) : meth.locks = false := C.2.2.2.2.2.1
theorem CX.ts {Γ M p s m args meth c} (C : CX Γ M p s m args meth c) : ∀ w ∈ WA, w.before args s = true := C.2.2.2.2.2.2.1
theorem CX.K {Γ M p s m args meth c} (C : CX Γ M p s m args meth c) : KB Γ s := C.2.2.2.2.2.2.2.1
theorem CX.nm {Γ M p s m args meth c} (C : CX Γ M p s m args meth c) : meth.name = M.1.name := C.2.2.2.2.2.2.2.2.1
theorem CX.R {Γ M p s m args meth c} (C : CX Γ M p s m args meth c) : RH Γ h00 s.heap := C.2.2.2.2.2.2.2.2.2.1
theorem CX.xt {Γ M p s m args meth c} (C : CX Γ M p s m args meth c) : c.exceptionTable.toList = tableOf M.2.2.2.2.2 := C.2.2.2.2.2.2.2.2.2.2
section Rows
variable {Γ : GT} {M : MT} {QF : List Frame → Array Value → State → State → Prop} {cs : Nat × Nat} {h : XH} {pc : Nat} {lv : List (Option Value)} {st : List Value}
theorem gg_eq {pc2 : Nat} {lv2 : List (Option Value)} {st2 : List Value} (e1 : pc2 = pc) (e2 : lv2 = lv) (e3 : st2 = st) (k : GG Γ M QF cs h pc2 lv2 st2) : GG Γ M QF cs h pc lv st := by
  subst e1; subst e2; subst e3; exact k
/-- less is known of the locals -/
theorem gg_sub {lv2 : List (Option Value)} (hl : ∀ i v, lget lv2 i = some v → lget lv i = some v) (k : GG Γ M QF cs h pc lv2 st) : GG Γ M QF cs h pc lv st :=
  fun p e s m args below meth c H locs ls C R z f L => k p e s m args below meth c H locs ls C R z f ⟨L.1, L.2.1, fun i v q => L.2.2 i v (hl i v q)⟩
theorem gg_widen {k n : Nat} (h1 : cs.1 ≤ k) (h2 : cs.2 ≤ n) (kk : GG Γ M QF (k, n) h pc lv st) : GG Γ M QF cs h pc lv st :=
  fun p e s m args below meth c H locs ls C R z f L => W.widen h1 h2 (kk p e s m args below meth c H locs ls C R z f L)
theorem gg_iconst {n : Int} {v : Int32} (hd : decode M.2.1 pc = .ok (.iconst n, 1)) (hv : Int32.ofInt n = v) (k : GG Γ M QF cs h (pc + 1) lv (.int v :: st)) : GG Γ M QF cs h pc lv (st) :=
  fun p e s m args below meth c H locs ls C R z f L => lv_iconst C.x C.b hd hv (k p e s m args below meth c H locs ls C R z f L)
theorem gg_bipush {n : Int} {v : Int32} (hd : decode M.2.1 pc = .ok (.bipush n, 2)) (hv : (Int8.ofInt n).toInt32 = v) (k : GG Γ M QF cs h (pc + 2) lv (.int v :: st)) : GG Γ M QF cs h pc lv (st) :=
  fun p e s m args below meth c H locs ls C R z f L => lv_bipush C.x C.b hd hv (k p e s m args below meth c H locs ls C R z f L)
theorem gg_sipush {n : Int} {v : Int32} (hd : decode M.2.1 pc = .ok (.sipush n, 3)) (hv : (Int16.ofInt n).toInt32 = v) (k : GG Γ M QF cs h (pc + 3) lv (.int v :: st)) : GG Γ M QF cs h pc lv (st) :=
  fun p e s m args below meth c H locs ls C R z f L => lv_sipush C.x C.b hd hv (k p e s m args below meth c H locs ls C R z f L)
theorem gg_lconst {n : Fin 2} {v : Int64} (hd : decode M.2.1 pc = .ok (.lconst n, 1)) (hv : Int64.ofNat (n : Nat) = v) (k : GG Γ M QF cs h (pc + 1) lv (.long v :: st)) : GG Γ M QF cs h pc lv (st) :=
  fun p e s m args below meth c H locs ls C R z f L => lv_lconst C.x C.b hd hv (k p e s m args below meth c H locs ls C R z f L)
theorem gg_null (hd : decode M.2.1 pc = .ok (.aconst_null, 1)) (k : GG Γ M QF cs h (pc + 1) lv (.null :: st)) : GG Γ M QF cs h pc lv (st) :=
  fun p e s m args below meth c H locs ls C R z f L => lv_null C.x C.b hd (k p e s m args below meth c H locs ls C R z f L)
theorem gg_iadd {x y : Int32} (hd : decode M.2.1 pc = .ok (.iadd, 1)) (k : GG Γ M QF cs h (pc + 1) lv (.int (x + y) :: st)) : GG Γ M QF cs h pc lv (.int y :: .int x :: st) :=
  fun p e s m args below meth c H locs ls C R z f L => lv_iadd C.x C.b hd (k p e s m args below meth c H locs ls C R z f L)
theorem gg_isub {x y : Int32} (hd : decode M.2.1 pc = .ok (.isub, 1)) (k : GG Γ M QF cs h (pc + 1) lv (.int (x - y) :: st)) : GG Γ M QF cs h pc lv (.int y :: .int x :: st) :=
  fun p e s m args below meth c H locs ls C R z f L => lv_isub C.x C.b hd (k p e s m args below meth c H locs ls C R z f L)
theorem gg_imul {x y : Int32} (hd : decode M.2.1 pc = .ok (.imul, 1)) (k : GG Γ M QF cs h (pc + 1) lv (.int (x * y) :: st)) : GG Γ M QF cs h pc lv (.int y :: .int x :: st) :=
  fun p e s m args below meth c H locs ls C R z f L => lv_imul C.x C.b hd (k p e s m args below meth c H locs ls C R z f L)
theorem gg_iand {x y : Int32} (hd : decode M.2.1 pc = .ok (.iand, 1)) (k : GG Γ M QF cs h (pc + 1) lv (.int (x &&& y) :: st)) : GG Γ M QF cs h pc lv (.int y :: .int x :: st) :=
  fun p e s m args below meth c H locs ls C R z f L => lv_iand C.x C.b hd (k p e s m args below meth c H locs ls C R z f L)
theorem gg_ior {x y : Int32} (hd : decode M.2.1 pc = .ok (.ior, 1)) (k : GG Γ M QF cs h (pc + 1) lv (.int (x ||| y) :: st)) : GG Γ M QF cs h pc lv (.int y :: .int x :: st) :=
  fun p e s m args below meth c H locs ls C R z f L => lv_ior C.x C.b hd (k p e s m args below meth c H locs ls C R z f L)
theorem gg_ixor {x y : Int32} (hd : decode M.2.1 pc = .ok (.ixor, 1)) (k : GG Γ M QF cs h (pc + 1) lv (.int (x ^^^ y) :: st)) : GG Γ M QF cs h pc lv (.int y :: .int x :: st) :=
  fun p e s m args below meth c H locs ls C R z f L => lv_ixor C.x C.b hd (k p e s m args below meth c H locs ls C R z f L)
theorem gg_ishl {x y : Int32} (hd : decode M.2.1 pc = .ok (.ishl, 1)) (k : GG Γ M QF cs h (pc + 1) lv (.int (x <<< (y &&& 31)) :: st)) : GG Γ M QF cs h pc lv (.int y :: .int x :: st) :=
  fun p e s m args below meth c H locs ls C R z f L => lv_ishl C.x C.b hd (k p e s m args below meth c H locs ls C R z f L)
theorem gg_ishr {x y : Int32} (hd : decode M.2.1 pc = .ok (.ishr, 1)) (k : GG Γ M QF cs h (pc + 1) lv (.int (x >>> (y &&& 31)) :: st)) : GG Γ M QF cs h pc lv (.int y :: .int x :: st) :=
  fun p e s m args below meth c H locs ls C R z f L => lv_ishr C.x C.b hd (k p e s m args below meth c H locs ls C R z f L)
theorem gg_idiv {x y : Int32} (hd : decode M.2.1 pc = .ok (.idiv, 1)) (hne : ¬ y = 0) (k : GG Γ M QF cs h (pc + 1) lv (.int (x / y) :: st)) : GG Γ M QF cs h pc lv (.int y :: .int x :: st) :=
  fun p e s m args below meth c H locs ls C R z f L => lv_idiv C.x C.b hd hne (k p e s m args below meth c H locs ls C R z f L)
theorem gg_irem {x y : Int32} (hd : decode M.2.1 pc = .ok (.irem, 1)) (hne : ¬ y = 0) (k : GG Γ M QF cs h (pc + 1) lv (.int (x - x / y * y) :: st)) : GG Γ M QF cs h pc lv (.int y :: .int x :: st) :=
  fun p e s m args below meth c H locs ls C R z f L => lv_irem C.x C.b hd hne (k p e s m args below meth c H locs ls C R z f L)
theorem gg_ladd {x y : Int64} (hd : decode M.2.1 pc = .ok (.ladd, 1)) (k : GG Γ M QF cs h (pc + 1) lv (.long (x + y) :: st)) : GG Γ M QF cs h pc lv (.long y :: .long x :: st) :=
  fun p e s m args below meth c H locs ls C R z f L => lv_ladd C.x C.b hd (k p e s m args below meth c H locs ls C R z f L)
theorem gg_lmul {x y : Int64} (hd : decode M.2.1 pc = .ok (.lmul, 1)) (k : GG Γ M QF cs h (pc + 1) lv (.long (x * y) :: st)) : GG Γ M QF cs h pc lv (.long y :: .long x :: st) :=
  fun p e s m args below meth c H locs ls C R z f L => lv_lmul C.x C.b hd (k p e s m args below meth c H locs ls C R z f L)
theorem gg_lcmp {x y : Int64} (hd : decode M.2.1 pc = .ok (.lcmp, 1)) (k : GG Γ M QF cs h (pc + 1) lv (.int (lg_cmp x y) :: st)) : GG Γ M QF cs h pc lv (.long y :: .long x :: st) :=
  fun p e s m args below meth c H locs ls C R z f L => W.lcmp C.x C.b hd (k p e s m args below meth c H locs ls C R z f L)
theorem gg_dcmp {x y : UInt64} {op : CmpOp} (hd : decode M.2.1 pc = .ok (.dcmp op, 1)) (k : GG Γ M QF cs h (pc + 1) lv (.int (Op.cmpValue (FP.dcmp x y) op) :: st)) : GG Γ M QF cs h pc lv (.double y :: .double x :: st) :=
  fun p e s m args below meth c H locs ls C R z f L => lv_dcmp C.x C.b hd (k p e s m args below meth c H locs ls C R z f L)
theorem gg_fcmp {x y : UInt32} {op : CmpOp} (hd : decode M.2.1 pc = .ok (.fcmp op, 1)) (k : GG Γ M QF cs h (pc + 1) lv (.int (Op.cmpValue (FP.fcmp x y) op) :: st)) : GG Γ M QF cs h pc lv (.float y :: .float x :: st) :=
  fun p e s m args below meth c H locs ls C R z f L => lv_fcmp C.x C.b hd (k p e s m args below meth c H locs ls C R z f L)
theorem gg_i2l {x : Int32} (hd : decode M.2.1 pc = .ok (.i2l, 1)) (k : GG Γ M QF cs h (pc + 1) lv (.long x.toInt64 :: st)) : GG Γ M QF cs h pc lv (.int x :: st) :=
  fun p e s m args below meth c H locs ls C R z f L => lv_i2l C.x C.b hd rfl (k p e s m args below meth c H locs ls C R z f L)
theorem gg_i2c {x : Int32} (hd : decode M.2.1 pc = .ok (.i2c, 1)) (k : GG Γ M QF cs h (pc + 1) lv (.int (x.toUInt32 % 65536).toInt32 :: st)) : GG Γ M QF cs h pc lv (.int x :: st) :=
  fun p e s m args below meth c H locs ls C R z f L => lv_i2c C.x C.b hd rfl (k p e s m args below meth c H locs ls C R z f L)
theorem gg_i2f {x : Int32} (hd : decode M.2.1 pc = .ok (.i2f, 1)) (k : GG Γ M QF cs h (pc + 1) lv (.float (FP.i2f x) :: st)) : GG Γ M QF cs h pc lv (.int x :: st) :=
  fun p e s m args below meth c H locs ls C R z f L => lv_i2f C.x C.b hd (k p e s m args below meth c H locs ls C R z f L)
theorem gg_fdiv {x y : UInt32} (hd : decode M.2.1 pc = .ok (.fdiv, 1)) (hne : vf_n32 (FP.fdiv x y)) (k : GG Γ M QF cs h (pc + 1) lv (.float (FP.fdiv x y) :: st)) : GG Γ M QF cs h pc lv (.float y :: .float x :: st) :=
  fun p e s m args below meth c H locs ls C R z f L => lv_fdiv C.x C.b hd hne (k p e s m args below meth c H locs ls C R z f L)
theorem gg_f2d {x : UInt32} (hd : decode M.2.1 pc = .ok (.f2d, 1)) (hne : vf_n64 (FP.f2d x)) (k : GG Γ M QF cs h (pc + 1) lv (.double (FP.f2d x) :: st)) : GG Γ M QF cs h pc lv (.float x :: st) :=
  fun p e s m args below meth c H locs ls C R z f L => lv_f2d C.x C.b hd hne (k p e s m args below meth c H locs ls C R z f L)
theorem gg_dup {va : Value} (hd : decode M.2.1 pc = .ok (.dup, 1)) (hva : va.category = 1) (k : GG Γ M QF cs h (pc + 1) lv (va :: va :: st)) : GG Γ M QF cs h pc lv (va :: st) :=
  fun p e s m args below meth c H locs ls C R z f L => lv_dup C.x C.b hd hva (k p e s m args below meth c H locs ls C R z f L)
theorem gg_pop {va : Value} (hd : decode M.2.1 pc = .ok (.pop, 1)) (hva : va.category = 1) (k : GG Γ M QF cs h (pc + 1) lv (st)) : GG Γ M QF cs h pc lv (va :: st) :=
  fun p e s m args below meth c H locs ls C R z f L => lv_pop C.x C.b hd hva (k p e s m args below meth c H locs ls C R z f L)
theorem gg_dup2 {va vb : Value} (hd : decode M.2.1 pc = .ok (.dup2, 1)) (hva : va.category = 1) (hvb : vb.category = 1) (k : GG Γ M QF cs h (pc + 1) lv (va :: vb :: va :: vb :: st)) : GG Γ M QF cs h pc lv (va :: vb :: st) :=
  fun p e s m args below meth c H locs ls C R z f L => lv_dup2_11 C.x C.b hd hva hvb (k p e s m args below meth c H locs ls C R z f L)
theorem gg_if_eq {x : Int32} {off : Int} {tgt : Nat} (hd : decode M.2.1 pc = .ok (.ifCond .eq off, 3)) (ht : (pc : Int) + off = (tgt : Int)) (kt : x = 0 → GG Γ M QF cs h tgt lv st) (kf : ¬ (x = 0) → GG Γ M QF cs h (pc + 3) lv st) : GG Γ M QF cs h pc lv (.int x :: st) :=
  fun p e s m args below meth c H locs ls C R z f L => lv_if_eq C.x C.b hd ht (fun q => kt q p e s m args below meth c H locs ls C R z f L) (fun q => kf (by simpa using q) p e s m args below meth c H locs ls C R z f L)
theorem gg_if_lt {x : Int32} {off : Int} {tgt : Nat} (hd : decode M.2.1 pc = .ok (.ifCond .lt off, 3)) (ht : (pc : Int) + off = (tgt : Int)) (kt : x < 0 → GG Γ M QF cs h tgt lv st) (kf : ¬ (x < 0) → GG Γ M QF cs h (pc + 3) lv st) : GG Γ M QF cs h pc lv (.int x :: st) :=
  fun p e s m args below meth c H locs ls C R z f L => lv_if_lt C.x C.b hd ht (fun q => kt q p e s m args below meth c H locs ls C R z f L) (fun q => kf (by simpa using q) p e s m args below meth c H locs ls C R z f L)
theorem gg_if_ge {x : Int32} {off : Int} {tgt : Nat} (hd : decode M.2.1 pc = .ok (.ifCond .ge off, 3)) (ht : (pc : Int) + off = (tgt : Int)) (kt : 0 ≤ x → GG Γ M QF cs h tgt lv st) (kf : ¬ (0 ≤ x) → GG Γ M QF cs h (pc + 3) lv st) : GG Γ M QF cs h pc lv (.int x :: st) :=
  fun p e s m args below meth c H locs ls C R z f L => lv_if_ge C.x C.b hd ht (fun q => kt q p e s m args below meth c H locs ls C R z f L) (fun q => kf (by simpa using q) p e s m args below meth c H locs ls C R z f L)
theorem gg_if_gt {x : Int32} {off : Int} {tgt : Nat} (hd : decode M.2.1 pc = .ok (.ifCond .gt off, 3)) (ht : (pc : Int) + off = (tgt : Int)) (kt : 0 < x → GG Γ M QF cs h tgt lv st) (kf : ¬ (0 < x) → GG Γ M QF cs h (pc + 3) lv st) : GG Γ M QF cs h pc lv (.int x :: st) :=
  fun p e s m args below meth c H locs ls C R z f L => lv_if_gt C.x C.b hd ht (fun q => kt q p e s m args below meth c H locs ls C R z f L) (fun q => kf (by simpa using q) p e s m args below meth c H locs ls C R z f L)
theorem gg_if_le {x : Int32} {off : Int} {tgt : Nat} (hd : decode M.2.1 pc = .ok (.ifCond .le off, 3)) (ht : (pc : Int) + off = (tgt : Int)) (kt : x ≤ 0 → GG Γ M QF cs h tgt lv st) (kf : ¬ (x ≤ 0) → GG Γ M QF cs h (pc + 3) lv st) : GG Γ M QF cs h pc lv (.int x :: st) :=
  fun p e s m args below meth c H locs ls C R z f L => lv_if_le C.x C.b hd ht (fun q => kt q p e s m args below meth c H locs ls C R z f L) (fun q => kf (by simpa using q) p e s m args below meth c H locs ls C R z f L)
theorem gg_icmp_eq {x y : Int32} {off : Int} {tgt : Nat} (hd : decode M.2.1 pc = .ok (.if_icmp .eq off, 3)) (ht : (pc : Int) + off = (tgt : Int)) (kt : x = y → GG Γ M QF cs h tgt lv st) (kf : ¬ (x = y) → GG Γ M QF cs h (pc + 3) lv st) : GG Γ M QF cs h pc lv (.int y :: .int x :: st) :=
  fun p e s m args below meth c H locs ls C R z f L => lv_icmp_eq C.x C.b hd ht (fun q => kt q p e s m args below meth c H locs ls C R z f L) (fun q => kf (by simpa using q) p e s m args below meth c H locs ls C R z f L)
theorem gg_icmp_lt {x y : Int32} {off : Int} {tgt : Nat} (hd : decode M.2.1 pc = .ok (.if_icmp .lt off, 3)) (ht : (pc : Int) + off = (tgt : Int)) (kt : x < y → GG Γ M QF cs h tgt lv st) (kf : ¬ (x < y) → GG Γ M QF cs h (pc + 3) lv st) : GG Γ M QF cs h pc lv (.int y :: .int x :: st) :=
  fun p e s m args below meth c H locs ls C R z f L => lv_icmp_lt C.x C.b hd ht (fun q => kt q p e s m args below meth c H locs ls C R z f L) (fun q => kf (by simpa using q) p e s m args below meth c H locs ls C R z f L)
theorem gg_icmp_ge {x y : Int32} {off : Int} {tgt : Nat} (hd : decode M.2.1 pc = .ok (.if_icmp .ge off, 3)) (ht : (pc : Int) + off = (tgt : Int)) (kt : y ≤ x → GG Γ M QF cs h tgt lv st) (kf : ¬ (y ≤ x) → GG Γ M QF cs h (pc + 3) lv st) : GG Γ M QF cs h pc lv (.int y :: .int x :: st) :=
  fun p e s m args below meth c H locs ls C R z f L => lv_icmp_ge C.x C.b hd ht (fun q => kt q p e s m args below meth c H locs ls C R z f L) (fun q => kf (by simpa using q) p e s m args below meth c H locs ls C R z f L)
theorem gg_icmp_gt {x y : Int32} {off : Int} {tgt : Nat} (hd : decode M.2.1 pc = .ok (.if_icmp .gt off, 3)) (ht : (pc : Int) + off = (tgt : Int)) (kt : y < x → GG Γ M QF cs h tgt lv st) (kf : ¬ (y < x) → GG Γ M QF cs h (pc + 3) lv st) : GG Γ M QF cs h pc lv (.int y :: .int x :: st) :=
  fun p e s m args below meth c H locs ls C R z f L => lv_icmp_gt C.x C.b hd ht (fun q => kt q p e s m args below meth c H locs ls C R z f L) (fun q => kf (by simpa using q) p e s m args below meth c H locs ls C R z f L)
theorem gg_icmp_le {x y : Int32} {off : Int} {tgt : Nat} (hd : decode M.2.1 pc = .ok (.if_icmp .le off, 3)) (ht : (pc : Int) + off = (tgt : Int)) (kt : x ≤ y → GG Γ M QF cs h tgt lv st) (kf : ¬ (x ≤ y) → GG Γ M QF cs h (pc + 3) lv st) : GG Γ M QF cs h pc lv (.int y :: .int x :: st) :=
  fun p e s m args below meth c H locs ls C R z f L => lv_icmp_le C.x C.b hd ht (fun q => kt q p e s m args below meth c H locs ls C R z f L) (fun q => kf (by simpa using q) p e s m args below meth c H locs ls C R z f L)
theorem gg_if_ne {x : Int32} {off : Int} {tgt : Nat} (hd : decode M.2.1 pc = .ok (.ifCond .ne off, 3)) (ht : (pc : Int) + off = (tgt : Int)) (kt : ¬ x = 0 → GG Γ M QF cs h tgt lv st) (kf : x = 0 → GG Γ M QF cs h (pc + 3) lv st) : GG Γ M QF cs h pc lv (.int x :: st) :=
  fun p e s m args below meth c H locs ls C R z f L => lv_if_ne C.x C.b hd ht (fun q => kt q p e s m args below meth c H locs ls C R z f L) (fun q => kf q p e s m args below meth c H locs ls C R z f L)
theorem gg_icmp_ne {x y : Int32} {off : Int} {tgt : Nat} (hd : decode M.2.1 pc = .ok (.if_icmp .ne off, 3)) (ht : (pc : Int) + off = (tgt : Int)) (kt : ¬ x = y → GG Γ M QF cs h tgt lv st) (kf : x = y → GG Γ M QF cs h (pc + 3) lv st) : GG Γ M QF cs h pc lv (.int y :: .int x :: st) :=
  fun p e s m args below meth c H locs ls C R z f L => lv_icmp_ne C.x C.b hd ht (fun q => kt q p e s m args below meth c H locs ls C R z f L) (fun q => kf q p e s m args below meth c H locs ls C R z f L)
theorem gg_goto {off : Int} {tgt : Nat} (hd : decode M.2.1 pc = .ok (.goto off, 3)) (ht : (pc : Int) + off = (tgt : Int)) (k : GG Γ M QF cs h tgt lv st) : GG Γ M QF cs h pc lv st :=
  fun p e s m args below meth c H locs ls C R z f L => lv_goto C.x C.b hd ht (k p e s m args below meth c H locs ls C R z f L)
theorem gg_tabOut {dflt lo hi : Int} {offs : Array Int} {len : Nat} {x : Int32} {tgt : Nat} (hd : decode M.2.1 pc = .ok (.tableswitch dflt lo hi offs, len)) (hx : x.toInt < lo ∨ hi < x.toInt) (ht : (pc : Int) + dflt = (tgt : Int)) (k : GG Γ M QF cs h tgt lv st) : GG Γ M QF cs h pc lv (.int x :: st) :=
  fun p e s m args below meth c H locs ls C R z f L => lv_tableOut C.x C.b hd hx ht (k p e s m args below meth c H locs ls C R z f L)
theorem gg_tabIn {dflt lo hi : Int} {offs : Array Int} {len : Nat} {x : Int32} {off : Int} {tgt : Nat} (hd : decode M.2.1 pc = .ok (.tableswitch dflt lo hi offs, len)) (h1 : ¬ x.toInt < lo) (h2 : ¬ hi < x.toInt) (ho : offs[(x.toInt - lo).toNat]? = some off) (ht : (pc : Int) + off = (tgt : Int)) (k : GG Γ M QF cs h tgt lv st) : GG Γ M QF cs h pc lv (.int x :: st) :=
  fun p e s m args below meth c H locs ls C R z f L => lv_tableIn C.x C.b hd h1 h2 ho ht (k p e s m args below meth c H locs ls C R z f L)
theorem gg_ifnull {v : Value} {off : Int} {tgt : Nat} (hd : decode M.2.1 pc = .ok (.ifnull off, 3)) (ht : (pc : Int) + off = (tgt : Int)) (hv : v.isRef = true) (kt : v = .null → GG Γ M QF cs h tgt lv st) (kf : ∀ a : Nat, v = .ref a → GG Γ M QF cs h (pc + 3) lv st) : GG Γ M QF cs h pc lv (v :: st) := by
  cases v with
  | null => exact fun p e s m args below meth c H locs ls C R z f L => lv_ifnullN C.x C.b hd ht (kt rfl p e s m args below meth c H locs ls C R z f L)
  | ref a => exact fun p e s m args below meth c H locs ls C R z f L => lv_ifnull C.x C.b hd (kf a rfl p e s m args below meth c H locs ls C R z f L)
  | _ => cases hv
theorem gg_ifnonnull {v : Value} {off : Int} {tgt : Nat} (hd : decode M.2.1 pc = .ok (.ifnonnull off, 3)) (ht : (pc : Int) + off = (tgt : Int)) (hv : v.isRef = true) (kt : ∀ a : Nat, v = .ref a → GG Γ M QF cs h tgt lv st) (kf : v = .null → GG Γ M QF cs h (pc + 3) lv st) : GG Γ M QF cs h pc lv (v :: st) := by
  cases v with
  | null => exact fun p e s m args below meth c H locs ls C R z f L => lv_ifnonnullN C.x C.b hd (kf rfl p e s m args below meth c H locs ls C R z f L)
  | ref a => exact fun p e s m args below meth c H locs ls C R z f L => lv_ifnonnull C.x C.b hd ht (kt a rfl p e s m args below meth c H locs ls C R z f L)
  | _ => cases hv
theorem gg_iload {i : Nat} {x : Int32} (hd : decode M.2.1 pc = .ok (.iload i, 2)) (hl : lget lv i = some (.int x)) (k : GG Γ M QF cs h (pc + 2) lv (.int x :: st)) : GG Γ M QF cs h pc lv st :=
  fun p e s m args below meth c H locs ls C R z f L => lv_iload C.x C.b hd (L.2.2 _ _ hl) (k p e s m args below meth c H locs ls C R z f L)
theorem gg_iload_n {k9 : Fin 4} {x : Int32} (hd : decode M.2.1 pc = .ok (.iload_n k9, 1)) (hl : lget lv (k9 : Nat) = some (.int x)) (k : GG Γ M QF cs h (pc + 1) lv (.int x :: st)) : GG Γ M QF cs h pc lv st :=
  fun p e s m args below meth c H locs ls C R z f L => lv_iload_n C.x C.b hd rfl (L.2.2 _ _ hl) (k p e s m args below meth c H locs ls C R z f L)
theorem gg_lload_n {k9 : Fin 4} {x : Int64} (hd : decode M.2.1 pc = .ok (.lload_n k9, 1)) (hl : lget lv (k9 : Nat) = some (.long x)) (k : GG Γ M QF cs h (pc + 1) lv (.long x :: st)) : GG Γ M QF cs h pc lv st :=
  fun p e s m args below meth c H locs ls C R z f L => lv_lload_n C.x C.b hd rfl (L.2.2 _ _ hl) (k p e s m args below meth c H locs ls C R z f L)
theorem gg_fload {i : Nat} {x : UInt32} (hd : decode M.2.1 pc = .ok (.fload i, 2)) (hl : lget lv i = some (.float x)) (k : GG Γ M QF cs h (pc + 2) lv (.float x :: st)) : GG Γ M QF cs h pc lv st :=
  fun p e s m args below meth c H locs ls C R z f L => lv_fload C.x C.b hd (L.2.2 _ _ hl) (k p e s m args below meth c H locs ls C R z f L)
theorem gg_aload {i : Nat} {v : Value} (hd : decode M.2.1 pc = .ok (.aload i, 2)) (hl : lget lv i = some v) (hv : v.isRef = true) (k : GG Γ M QF cs h (pc + 2) lv (v :: st)) : GG Γ M QF cs h pc lv st := by
  cases v with
  | null => exact fun p e s m args below meth c H locs ls C R z f L => lv_aloadN C.x C.b hd (L.2.2 _ _ hl) (k p e s m args below meth c H locs ls C R z f L)
  | ref a => exact fun p e s m args below meth c H locs ls C R z f L => lv_aload C.x C.b hd (L.2.2 _ _ hl) (k p e s m args below meth c H locs ls C R z f L)
  | _ => cases hv
theorem gg_aload_n {k9 : Fin 4} {v : Value} (hd : decode M.2.1 pc = .ok (.aload_n k9, 1)) (hl : lget lv (k9 : Nat) = some v) (hv : v.isRef = true) (k : GG Γ M QF cs h (pc + 1) lv (v :: st)) : GG Γ M QF cs h pc lv st := by
  cases v with
  | null => exact fun p e s m args below meth c H locs ls C R z f L => lv_aload_nN C.x C.b hd rfl (L.2.2 _ _ hl) (k p e s m args below meth c H locs ls C R z f L)
  | ref a => exact fun p e s m args below meth c H locs ls C R z f L => lv_aload_n C.x C.b hd rfl (L.2.2 _ _ hl) (k p e s m args below meth c H locs ls C R z f L)
  | _ => cases hv
theorem gg_istore {i : Nat} {x : Int32} (hd : decode M.2.1 pc = .ok (.istore i, 2)) (hn : i < M.2.2.1) (ho : lok lv i = true) (k : GG Γ M QF cs h (pc + 2) (lset lv i (some (.int x))) st) : GG Γ M QF cs h pc lv (.int x :: st) :=
  fun p e s m args below meth c H locs ls C R z f L => lv_istore C.x C.b hd L.as hn rfl (fun ls2 h2 => k p e s m args below meth c H locs ls2 C R z f (LR.of_has hn ho h2))
theorem gg_istore_n {k9 : Fin 4} {x : Int32} (hd : decode M.2.1 pc = .ok (.istore_n k9, 1)) (hn : (k9 : Nat) < M.2.2.1) (ho : lok lv (k9 : Nat) = true) (k : GG Γ M QF cs h (pc + 1) (lset lv (k9 : Nat) (some (.int x))) st) : GG Γ M QF cs h pc lv (.int x :: st) :=
  fun p e s m args below meth c H locs ls C R z f L => lv_istore_n C.x C.b hd rfl L.as hn rfl (fun ls2 h2 => k p e s m args below meth c H locs ls2 C R z f (LR.of_has hn ho h2))
theorem gg_fstore {i : Nat} {x : UInt32} (hd : decode M.2.1 pc = .ok (.fstore i, 2)) (hn : i < M.2.2.1) (ho : lok lv i = true) (k : GG Γ M QF cs h (pc + 2) (lset lv i (some (.float x))) st) : GG Γ M QF cs h pc lv (.float x :: st) :=
  fun p e s m args below meth c H locs ls C R z f L => lv_fstore C.x C.b hd L.as hn rfl (fun ls2 h2 => k p e s m args below meth c H locs ls2 C R z f (LR.of_has hn ho h2))
theorem gg_astore {i : Nat} {v : Value} (hd : decode M.2.1 pc = .ok (.astore i, 2)) (hv : v.isRef = true) (hn : i < M.2.2.1) (ho : lok lv i = true) (k : GG Γ M QF cs h (pc + 2) (lset lv i (some v)) st) : GG Γ M QF cs h pc lv (v :: st) := by
  cases v with
  | null => exact fun p e s m args below meth c H locs ls C R z f L => lv_astoreN C.x C.b hd L.as hn rfl (fun ls2 h2 => k p e s m args below meth c H locs ls2 C R z f (LR.of_has hn ho h2))
  | ref a => exact fun p e s m args below meth c H locs ls C R z f L => lv_astore C.x C.b hd L.as hn rfl (fun ls2 h2 => k p e s m args below meth c H locs ls2 C R z f (LR.of_has hn ho h2))
  | _ => cases hv
theorem gg_astore_n {k9 : Fin 4} {v : Value} (hd : decode M.2.1 pc = .ok (.astore_n k9, 1)) (hv : v.isRef = true) (hn : (k9 : Nat) < M.2.2.1) (ho : lok lv (k9 : Nat) = true) (k : GG Γ M QF cs h (pc + 1) (lset lv (k9 : Nat) (some v)) st) : GG Γ M QF cs h pc lv (v :: st) := by
  cases v with
  | null => exact fun p e s m args below meth c H locs ls C R z f L => lv_astore_nN C.x C.b hd rfl L.as hn rfl (fun ls2 h2 => k p e s m args below meth c H locs ls2 C R z f (LR.of_has hn ho h2))
  | ref a => exact fun p e s m args below meth c H locs ls C R z f L => lv_astore_n C.x C.b hd rfl L.as hn rfl (fun ls2 h2 => k p e s m args below meth c H locs ls2 C R z f (LR.of_has hn ho h2))
  | _ => cases hv
theorem las_place : ∀ (lv : List (Option Value)) (k0 i : Nat) (v : Value), lget lv i = some v → ∃ k : Nat, (las lv k0)[k]? = some (k0 + i, v)
  | [], k0, i, v, hv => by simp [lget] at hv
  | none :: t, k0, 0, v, hv => by simp [lget] at hv
  | none :: t, k0, i + 1, v, hv => by
    obtain ⟨k, hk⟩ := las_place t (k0 + 1) i v hv
    exact ⟨k, by rw [show k0 + (i + 1) = k0 + 1 + i by omega]; exact hk⟩
  | some a :: t, k0, 0, v, hv => ⟨0, by simp only [lget] at hv; cases hv; rfl⟩
  | some a :: t, k0, i + 1, v, hv => by
    obtain ⟨k, hk⟩ := las_place t (k0 + 1) i v hv
    exact ⟨k + 1, by rw [show k0 + (i + 1) = k0 + 1 + i by omega]; exact hk⟩
theorem gg_iinc {i : Nat} {n : Int} {x v : Int32} (hd : decode M.2.1 pc = .ok (.iinc i n, 3)) (hl : lget lv i = some (.int x)) (hv : x + Int32.ofInt n = v) (hn : i < M.2.2.1) (ho : lok lv i = true) (k : GG Γ M QF cs h (pc + 3) (lset lv i (some (.int v))) st) : GG Γ M QF cs h pc lv st := by
  obtain ⟨k9, hk9⟩ := las_place lv 0 i _ hl
  rw [Nat.zero_add] at hk9
  exact fun p e s m args below meth c H locs ls C R z f L => lv_iinc C.x C.b hd L.as hk9 hv hn rfl (fun ls2 h2 => k p e s m args below meth c H locs ls2 C R z f (LR.of_has hn ho h2))
def upX (f : Nat → Option XE) (k : Nat) (e : XE) : Nat → Option XE := fun j => if j = k then some e else f j
theorem upX_s {f : Nat → Option XE} {k : Nat} {e : XE} : upX f k e k = some e := by simp [upX]
theorem upX_n {f : Nat → Option XE} {k j : Nat} {e : XE} (h : j ≠ k) : upX f k e j = f j := by simp [upX, h]
theorem upX_t {f : Nat → Option XE} {k : Nat} {e e2 : XE} : upX (upX f k e) k e2 = upX f k e2 := by
  funext j
  by_cases h : j = k <;> simp [upX, h]
theorem upX_c {f : Nat → Option XE} {k j : Nat} {e e2 : XE} (h : k ≠ j) : upX (upX f k e) j e2 = upX (upX f j e2) k e := by
  funext x
  by_cases h1 : x = j
  · subst h1; simp [upX, h.symm]
  · by_cases h2 : x = k
    · subst h2; simp [upX, h]
    · simp [upX, h1, h2]
theorem upX_id {f : Nat → Option XE} {k : Nat} {e : XE} (h : f k = some e) : upX f k e = f := by
  funext j
  by_cases q : j = k
  · subst q; simp [upX, h]
  · simp [upX, q]
/-- the cell at an address, of either kind -/
def HAt (Γ : GT) (h : XH) (q : Nat) (e : XE) : Prop := (∃ i, q = g_L Γ i ∧ h.1 i = some e) ∨ h.2 q = some e
theorem HAt.mu {Γ : GT} {h : XH} {i : Nat} {e : XE} (q : h.1 i = some e) : HAt Γ h (g_L Γ i) e := Or.inl ⟨i, rfl, q⟩
theorem HAt.io {Γ : GT} {h : XH} {q : Nat} {e : XE} (k : h.2 q = some e) : HAt Γ h q e := Or.inr k
theorem RH.at {Γ : GT} {h : XH} {H : Heap} {q : Nat} {e : XE} (R : RH Γ h H) (hq : HAt Γ h q e) : xat Γ q e H ∧ (g_H Γ).size ≤ q := by
  rcases hq with ⟨i, rfl, hi⟩ | hi
  · exact R.2.2.1 i e hi
  · exact R.2.2.2.1 q e hi
theorem xat.lt {Γ : GT} {q : Nat} {e : XE} {H : Heap} (h : xat Γ q e H) : q < H.size := va_at.lt (q := (q, xE Γ e)) h
theorem xat.kept {Γ : GT} {q : Nat} {e : XE} {H H1 : Heap} (h : xat Γ q e H) (hq : H1[q]? = H[q]?) : xat Γ q e H1 := va_at.kept (q := (q, xE Γ e)) h hq
theorem xat.P {Γ : GT} {q : Nat} {e : XE} {H : Heap} (h : xat Γ q e H) : va_P (g_D Γ) vwCl [(q, xE Γ e)] H := fun k x hk => by
  have hz : k < 1 := (List.getElem?_eq_some_iff.mp hk).1
  rw [show k = 0 by omega] at hk
  cases hk
  exact h
theorem RH.putM {Γ : GT} {h : XH} {H H1 : Heap} {i : Nat} {e e' : XE} (R : RH Γ h H) (hi : h.1 i = some e) (hat : xat Γ (g_L Γ i) e' H1) (z : H1.size = H.size) (o : ∀ q : Nat, q ≠ g_L Γ i → H1[q]? = H[q]?) : RH Γ (upX h.1 i e', h.2) H1 := by
  obtain ⟨r1, r2, r3, r4, r5, r6⟩ := R
  have hb := (r3 i e hi).2
  refine ⟨by rw [z]; exact r1, fun q hq => (o q (by omega)).trans (r2 q hq), fun j f hj => ?_, fun q f hq => ?_, fun j k f g hj hk => ?_, fun j f g hj hg => ?_⟩
  · change upX h.1 i e' j = some f at hj
    by_cases q : j = i
    · subst q
      simp only [upX_s, Option.some.injEq] at hj
      subst hj
      exact ⟨hat, hb⟩
    · rw [upX_n q] at hj
      refine ⟨(r3 j f hj).1.kept (o _ (fun w => q (r5 j i f e hj hi w))), (r3 j f hj).2⟩
  · refine ⟨(r4 q f hq).1.kept (o _ (fun w => ?_)), (r4 q f hq).2⟩
    subst w
    exact r6 i e f hi hq
  · change upX h.1 i e' j = some f at hj
    change upX h.1 i e' k = some g at hk
    have hj' : ∃ f', h.1 j = some f' := by
      by_cases q : j = i
      · subst q; exact ⟨e, hi⟩
      · rw [upX_n q] at hj; exact ⟨f, hj⟩
    have hk' : ∃ f', h.1 k = some f' := by
      by_cases q : k = i
      · subst q; exact ⟨e, hi⟩
      · rw [upX_n q] at hk; exact ⟨g, hk⟩
    obtain ⟨f', hj'⟩ := hj'
    obtain ⟨g', hk'⟩ := hk'
    exact r5 j k f' g' hj' hk'
  · change upX h.1 i e' j = some f at hj
    by_cases q : j = i
    · subst q; exact r6 j e g hi hg
    · rw [upX_n q] at hj; exact r6 j f g hj hg
theorem RH.putI {Γ : GT} {h : XH} {H H1 : Heap} {a : Nat} {e e' : XE} (R : RH Γ h H) (hi : h.2 a = some e) (hat : xat Γ a e' H1) (z : H1.size = H.size) (o : ∀ q : Nat, q ≠ a → H1[q]? = H[q]?) : RH Γ (h.1, upX h.2 a e') H1 := by
  obtain ⟨r1, r2, r3, r4, r5, r6⟩ := R
  have hb := (r4 a e hi).2
  refine ⟨by rw [z]; exact r1, fun q hq => (o q (by omega)).trans (r2 q hq), fun j f hj => ⟨(r3 j f hj).1.kept (o _ (fun w => ?_)), (r3 j f hj).2⟩, fun q f hq => ?_, r5, fun j f g hj hg => ?_⟩
  · exact r6 j f e hj (by rw [w]; exact hi)
  · change upX h.2 a e' q = some f at hq
    by_cases w : q = a
    · subst w
      simp only [upX_s, Option.some.injEq] at hq
      subst hq
      exact ⟨hat, hb⟩
    · rw [upX_n w] at hq
      exact ⟨(r4 q f hq).1.kept (o _ w), (r4 q f hq).2⟩
  · by_cases w : g_L Γ j = a
    · exact r6 j f e hj (by rw [w]; exact hi)
    · change upX h.2 a e' (g_L Γ j) = some g at hg
      rw [upX_n w] at hg
      exact r6 j f g hj hg
theorem RH.newI {Γ : GT} {h : XH} {H H1 : Heap} {e : XE} (R : RH Γ h H) (hat : xat Γ H.size e H1) (z : H1.size = H.size + 1) (o : ∀ q : Nat, q < H.size → H1[q]? = H[q]?) : RH Γ (h.1, upX h.2 H.size e) H1 ∧ h.2 H.size = none ∧ (∀ i f, h.1 i = some f → g_L Γ i ≠ H.size) := by
  obtain ⟨r1, r2, r3, r4, r5, r6⟩ := R
  have hn : h.2 H.size = none := by
    cases q : h.2 H.size with
    | none => rfl
    | some f => exact absurd (r4 _ f q).1.lt (Nat.lt_irrefl _)
  have hm : ∀ i f, h.1 i = some f → g_L Γ i ≠ H.size := fun i f q w => by
    have := (r3 i f q).1.lt
    omega
  refine ⟨⟨by omega, fun q hq => (o q (by omega)).trans (r2 q hq), fun j f hj => ⟨(r3 j f hj).1.kept (o _ (r3 j f hj).1.lt), (r3 j f hj).2⟩, fun q f hq => ?_, r5, fun j f g hj hg => ?_⟩, hn, hm⟩
  · change upX h.2 H.size e q = some f at hq
    by_cases w : q = H.size
    · subst w
      simp only [upX_s, Option.some.injEq] at hq
      subst hq
      exact ⟨hat, r1⟩
    · change upX h.2 H.size e q = some f at hq
      rw [upX_n w] at hq
      exact ⟨(r4 q f hq).1.kept (o _ (r4 q f hq).1.lt), (r4 q f hq).2⟩
  · change upX h.2 H.size e (g_L Γ j) = some g at hg
    rw [upX_n (hm j f hj)] at hg
    exact r6 j f g hj hg
/-- a write of either kind -/
def HPut (Γ : GT) (h : XH) (q : Nat) (e : XE) (h' : XH) (e' : XE) : Prop := (∃ i, q = g_L Γ i ∧ h.1 i = some e ∧ h' = (upX h.1 i e', h.2)) ∨ (h.2 q = some e ∧ h' = (h.1, upX h.2 q e'))
theorem HPut.mu {Γ : GT} {h : XH} {i : Nat} {e e' : XE} (q : h.1 i = some e) : HPut Γ h (g_L Γ i) e (upX h.1 i e', h.2) e' := Or.inl ⟨i, rfl, q, rfl⟩
theorem HPut.io {Γ : GT} {h : XH} {q : Nat} {e e' : XE} (k : h.2 q = some e) : HPut Γ h q e (h.1, upX h.2 q e') e' := Or.inr ⟨k, rfl⟩
theorem HPut.at {Γ : GT} {h h' : XH} {q : Nat} {e e' : XE} (w : HPut Γ h q e h' e') : HAt Γ h q e := by
  rcases w with ⟨i, e1, e2, -⟩ | ⟨e2, -⟩
  · exact Or.inl ⟨i, e1, e2⟩
  · exact Or.inr e2
theorem RH.put {Γ : GT} {h h' : XH} {H H1 : Heap} {q : Nat} {e e' : XE} (R : RH Γ h H) (w : HPut Γ h q e h' e') (hat : xat Γ q e' H1) (z : H1.size = H.size) (o : ∀ x : Nat, x ≠ q → H1[x]? = H[x]?) : RH Γ h' H1 := by
  rcases w with ⟨i, rfl, e2, rfl⟩ | ⟨e2, rfl⟩
  · exact R.putM e2 hat z o
  · exact R.putI e2 hat z o
theorem locs_snoc {Γ : GT} {locs : List Loc} {q i : Nat} (f : ∀ z ∈ locs, gA Γ z.base) (hq : (g_H Γ).size ≤ q) : ∀ z ∈ locs ++ [⟨q, i⟩], gA Γ z.base := fun z hz => by
  rcases List.mem_append.mp hz with hz | hz
  · exact f z hz
  · rw [List.mem_singleton] at hz
    subst hz
    exact hq
/-- a field is read -/
theorem gg_getf {C : String} {T : u_T} {N ci index k q : Nat} {fs : List Value} {v : Value} (hin : ∀ w ∈ u_ws C T N, w ∈ WA) (hc : vwCl[ci]? = some (C, T, N)) (hk : k < N) (hT : (T k).1 = C) (hlink : Cond.fieldLink M.1.cls index C (T k).2.1 (T k).2.2.1 ∈ WA)
    (hd : decode M.2.1 pc = .ok (.getfield index, 3)) (hq : HAt Γ h q (.inr (ci, fs))) (hv : fs[k]? = some v) (kk : GG Γ M QF cs h (pc + 3) lv (v :: st)) : GG Γ M QF cs h pc lv (.ref q :: st) :=
  fun p e s m args below meth c H locs ls X R z f L => va_get (D := g_D Γ) (cl := vwCl) (ref := C) X.x X.b X.ts hin X.own X.K.1 (R.at hq).1.P 0 (show [(q, xE Γ (.inr (ci, fs)))][0]? = some (q, .inr (ci, fs)) from rfl) hc k hk (X.ts _ hlink) (fun x hx => by rw [hT] at hx; exact hx) hv hd (kk p e s m args below meth c H locs ls X R z f L)
/-- a field is written: own says whether it is a final one in a constructor -/
theorem gg_putf {C : String} {T : u_T} {N ci index k q : Nat} {ty0 : Nat → FieldType} {fs : List Value} {v : Value} {h' : XH} (hin : ∀ w ∈ u_ws C T N, w ∈ WA) (hty : ∀ k, k < N → parseFieldDescriptor (T k).2.2.1 = some (ty0 k)) (hnm : ∀ a, a < N → ∀ b, b < N → a ≠ b → (T a).2.1 ≠ (T b).2.1) (hc : vwCl[ci]? = some (C, T, N)) (hk : k < N) (hT : (T k).1 = C)
    (hlink : Cond.fieldLink M.1.cls index C (T k).2.1 (T k).2.2.1 ∈ WA) (hfin : (T k).2.2.2 = false ∨ ((T k).2.2.2 = true ∧ M.1.name = "<init>" ∧ M.1.cls = C))
    (hd : decode M.2.1 pc = .ok (.putfield index, 3)) (hl : k < fs.length) (hn : narrow (ty0 k) v = v) (hfit : fits (ty0 k) v = true) (w : HPut Γ h q (.inr (ci, fs)) h' (.inr (ci, fs.set k v))) (kk : GG Γ M QF cs h' (pc + 3) lv st) : GG Γ M QF cs h pc lv (v :: .ref q :: st) := by
  intro p e s m args below meth c H locs ls X R z f L
  obtain ⟨hat, hqb⟩ := R.at w.at
  have hap := va_apart (own := M.1.cls) (D := g_D Γ) (cl := vwCl) X.ts hin ty0 hty hnm X.K.1 hc
  obtain ⟨r, h1, cell, q1, q2, q3, q4⟩ := hat
  have hr : r = (C, T, N) := Option.some.inj (h1.symm.trans hc)
  subst hr
  obtain ⟨hS, hfc, kC, hkC, hkind⟩ := X.K.1.1 ci _ hc
  obtain ⟨cf, kf, fi, fl, hi, hsl⟩ := hS k hk
  have hst := (u_facts hfc hkC (u_lays X.ts hin hk) hi).1
  have hx : ∀ x, s.fieldFound? (T k).1 (T k).2.1 (T k).2.2.1 = some x → s.fieldFound? C (T k).2.1 (T k).2.2.1 = some x := fun x hx => by rw [hT] at hx; exact hx
  have go : ∀ H1 : Heap, H1[q]? = some (cell.setSlot (g_D Γ |>.2 ci k) v) → H1.size = H.size → (∀ x, x ≠ q → H1[x]? = H[x]?) → W p (g_l Γ) e M.2.2.2.2.1 s m args below meth c H1 (locs ++ [⟨q, g_D Γ |>.2 ci k⟩]) cs.1 cs.2 (QF below args s) (F0 m (pc + 3) ls st) := fun H1 e1 e2 e3 => by
    have hat1 : xat Γ q (.inr (ci, fs.set k v)) H1 := ⟨_, hc, t_OB.to (V := updV (vp_V fs) k v) ⟨_, e1, q2, q3, t_set q4 hap hk v⟩ (fun j _ => vp_updV_set hl v j)⟩
    exact kk p e s m args below meth c H1 _ ls X (R.put w hat1 e2 e3) (by rw [e2]; exact z) (locs_snoc f hqb) L
  rcases hfin with hfin | ⟨hfin, hinit, hcls⟩
  · have hlay := X.ts _ (hin _ (u_in_lay hk))
    unfold u_lay at hlay
    rw [if_neg (by rw [hfin]; decide)] at hlay
    have h6 := u_store hfc hkC hkind hlay hi (hty k hk) hn hfit
    refine W.putK X.x X.b (f := fl) ⟨X.own, X.ts _ hlink, ⟨_, _, _, hx _ hi⟩, hst⟩ (by rw [q2]; exact h6) q1 q3 (by rw [hsl]; exact k2_hasslot (q4 k hk)) rfl rfl hd fun H1 e1 e2 e3 => ?_
    rw [hsl] at e1 ⊢
    exact go H1 e1 e2 e3
  · have hlay := X.ts _ (hin _ (u_in_lay hk))
    unfold u_lay at hlay
    rw [if_pos hfin] at hlay
    have hcf : m.cls = cf := by
      obtain ⟨_, _, c', _, _, _, -, -, hf', -, -, -, hown2, -⟩ := Cond.laysFinal_spec hlay
      have e1 : c' = cf := by have := hi.symm.trans hf'; simp at this; exact this.1.symm
      rw [hT, ← hcls] at hown2
      rw [← e1]; exact Option.some.inj (X.own.symm.trans hown2)
    have h6 := u_fits hfc hkC hkind (Or.inr hlay) hi (hty k hk) hn hfit
    refine W.putFinK X.x X.b X.own (X.ts _ hlink) (hx _ hi) hst hcf (X.nm.trans hinit) (by rw [q2]; exact h6) q1 q3 (by rw [hsl]; exact k2_hasslot (q4 k hk)) rfl rfl hd fun H1 e1 e2 e3 => ?_
    rw [hsl] at e1 ⊢
    exact go H1 e1 e2 e3
theorem vp_nar_b (x : Int32) : narrow .boolean (.int x) = .int (vp_nar .boolean x) := by simp [vp_nar, narrow]
theorem vp_nar_c (x : Int32) : narrow .char (.int x) = .int (vp_nar .char x) := by simp [vp_nar, narrow]
theorem gg_iald {q n : Nat} {f9 : Nat → Int32} {i : Int32} (hd : decode M.2.1 pc = .ok (.iaload, 1)) (hq : HAt Γ h q (.inl (0, n, .inl f9))) (hin : vp_in i n) (kk : GG Γ M QF cs h (pc + 1) lv (.int (f9 i.toNatClampNeg) :: st)) : GG Γ M QF cs h pc lv (.int i :: .ref q :: st) :=
  fun p e s m args below meth c H locs ls X R z f L => va_iald (D := g_D Γ) (cl := vwCl) X.x X.b X.K.1 (R.at hq).1.P 0 0 rfl (tysL_at Γ (by decide)) hin hd (kk p e s m args below meth c H locs ls X R z f L)
theorem gg_cald {q n : Nat} {f9 : Nat → Int32} {i : Int32} (hd : decode M.2.1 pc = .ok (.caload, 1)) (hq : HAt Γ h q (.inl (1, n, .inl f9))) (hin : vp_in i n) (kk : GG Γ M QF cs h (pc + 1) lv (.int (f9 i.toNatClampNeg) :: st)) : GG Γ M QF cs h pc lv (.int i :: .ref q :: st) :=
  fun p e s m args below meth c H locs ls X R z f L => va_cald (D := g_D Γ) (cl := vwCl) X.x X.b X.K.1 (R.at hq).1.P 0 1 rfl (tysL_at Γ (by decide)) hin hd (kk p e s m args below meth c H locs ls X R z f L)
theorem gg_zald {q n : Nat} {f9 : Nat → Int32} {i : Int32} (hd : decode M.2.1 pc = .ok (.baload, 1)) (hq : HAt Γ h q (.inl (2, n, .inl f9))) (hin : vp_in i n) (kk : GG Γ M QF cs h (pc + 1) lv (.int (f9 i.toNatClampNeg) :: st)) : GG Γ M QF cs h pc lv (.int i :: .ref q :: st) :=
  fun p e s m args below meth c H locs ls X R z f L => va_zald (D := g_D Γ) (cl := vwCl) X.x X.b X.K.1 (R.at hq).1.P 0 2 rfl (tysL_at Γ (by decide)) hin hd (kk p e s m args below meth c H locs ls X R z f L)
theorem gg_lald {q n : Nat} {f9 : Nat → Int64} {i : Int32} (hd : decode M.2.1 pc = .ok (.laload, 1)) (hq : HAt Γ h q (.inl (3, n, .inr (.inl f9)))) (hin : vp_in i n) (kk : GG Γ M QF cs h (pc + 1) lv (.long (f9 i.toNatClampNeg) :: st)) : GG Γ M QF cs h pc lv (.int i :: .ref q :: st) :=
  fun p e s m args below meth c H locs ls X R z f L => va_lald (D := g_D Γ) (cl := vwCl) X.x X.b X.K.1 (R.at hq).1.P 0 3 rfl (tysL_at Γ (by decide)) hin hd (kk p e s m args below meth c H locs ls X R z f L)
theorem gg_dald {q n : Nat} {f9 : Nat → UInt64} {i : Int32} (hd : decode M.2.1 pc = .ok (.daload, 1)) (hq : HAt Γ h q (.inl (4, n, .inr (.inr (.inr (.inl f9)))))) (hin : vp_in i n) (kk : GG Γ M QF cs h (pc + 1) lv (.double (f9 i.toNatClampNeg) :: st)) : GG Γ M QF cs h pc lv (.int i :: .ref q :: st) :=
  fun p e s m args below meth c H locs ls X R z f L => va_dald (D := g_D Γ) (cl := vwCl) X.x X.b X.K.1 (R.at hq).1.P 0 4 rfl (tysL_at Γ (by decide)) hin hd (kk p e s m args below meth c H locs ls X R z f L)
theorem gg_aald {q n t : Nat} {C : String} {f9 : Nat → Option Nat} {i : Int32} (hd : decode M.2.1 pc = .ok (.aaload, 1)) (hq : HAt Γ h q (.inl (t, n, .inr (.inr (.inr (.inr f9)))))) (ht : t < 11) (hC : aTy t = .object C) (hin : vp_in i n) (kk : GG Γ M QF cs h (pc + 1) lv (va_rf (f9 i.toNatClampNeg) :: st)) : GG Γ M QF cs h pc lv (.int i :: .ref q :: st) :=
  fun p e s m args below meth c H locs ls X R z f L => va_aldq (D := g_D Γ) (cl := vwCl) X.x X.b X.K.1 (R.at hq).1.P 0 t rfl (by rw [tysL_at Γ ht, hC]) hin hd (kk p e s m args below meth c H locs ls X R z f L)
theorem gg_alen {q t : Nat} {x9 : vp_A} {v : Int32} (hd : decode M.2.1 pc = .ok (.arraylength, 1)) (hq : HAt Γ h q (.inl (t, x9))) (ht : t < 11) (hv : Int32.ofNat x9.1 = v) (kk : GG Γ M QF cs h (pc + 1) lv (.int v :: st)) : GG Γ M QF cs h pc lv (.ref q :: st) :=
  fun p e s m args below meth c H locs ls X R z f L => va_alen (D := g_D Γ) (cl := vwCl) X.x X.b X.K.1 (R.at hq).1.P 0 t rfl (tysL_at Γ ht) hv hd (kk p e s m args below meth c H locs ls X R z f L)
theorem gg_iast {q n : Nat} {f9 : Nat → Int32} {i : Int32} {x : Int32} {h' : XH} (hd : decode M.2.1 pc = .ok (.iastore, 1)) (hin : vp_in i n) (w : HPut Γ h q (.inl (0, n, .inl f9)) h' (.inl (0, n, .inl (upd f9 i.toNatClampNeg x)))) (kk : GG Γ M QF cs h' (pc + 1) lv st) : GG Γ M QF cs h pc lv (.int x :: .int i :: .ref q :: st) := by
  intro p e s m args below meth c H locs ls X R z f L
  obtain ⟨hat, hqb⟩ := R.at w.at
  have hat' : H[q]? = some (vp_cell (g_aT Γ 0) (n, .inl f9)) := hat
  refine W.iast X.x X.b hat' ((X.K.1.2 0 _ (tysL_at Γ (by decide))).1 n _) (fun q => by cases q) (by show ¬ (i < 0 ∨ (arrV _ _ _).slots.size ≤ _); rw [arrV_size]; exact hin) rfl rfl hd fun H1 e1 e2 e3 => ?_
  have hat1 : xat Γ q (.inl (0, n, .inl (upd f9 i.toNatClampNeg x))) H1 := by
    show H1[q]? = some (vp_cell (g_aT Γ 0) (n, .inl (upd f9 i.toNatClampNeg x)))
    rw [e1, vp_cell_i, vp_cell_i, arrV_store]
    congr 2
    funext j
    by_cases hj : j = i.toNatClampNeg
    · subst hj
      simp [updV, upd]
    · simp [updV, upd, vp_updL, vf_upd, hj]
  exact kk p e s m args below meth c H1 _ ls X (R.put w hat1 e2 e3) (by rw [e2]; exact z) (locs_snoc f hqb) L
theorem gg_zast {q n : Nat} {f9 : Nat → Int32} {i : Int32} {x : Int32} {h' : XH} (hd : decode M.2.1 pc = .ok (.bastore, 1)) (hin : vp_in i n) (w : HPut Γ h q (.inl (2, n, .inl f9)) h' (.inl (2, n, .inl (upd f9 i.toNatClampNeg (vp_nar .boolean x))))) (kk : GG Γ M QF cs h' (pc + 1) lv st) : GG Γ M QF cs h pc lv (.int x :: .int i :: .ref q :: st) := by
  intro p e s m args below meth c H locs ls X R z f L
  obtain ⟨hat, hqb⟩ := R.at w.at
  have hat' : H[q]? = some (vp_cell (g_aT Γ 2) (n, .inl f9)) := hat
  refine W.zast X.x X.b hat' ((X.K.1.2 2 _ (tysL_at Γ (by decide))).1 n _) (fun q => by cases q) (by show ¬ (i < 0 ∨ (arrV _ _ _).slots.size ≤ _); rw [arrV_size]; exact hin) rfl rfl hd fun H1 e1 e2 e3 => ?_
  have hat1 : xat Γ q (.inl (2, n, .inl (upd f9 i.toNatClampNeg (vp_nar .boolean x)))) H1 := by
    show H1[q]? = some (vp_cell (g_aT Γ 2) (n, .inl (upd f9 i.toNatClampNeg (vp_nar .boolean x))))
    rw [e1, vp_cell_i, vp_cell_i, arrV_store]
    congr 2
    funext j
    by_cases hj : j = i.toNatClampNeg
    · subst hj
      simp [updV, upd, vp_nar_b]
    · simp [updV, upd, vp_updL, vf_upd, hj]
  exact kk p e s m args below meth c H1 _ ls X (R.put w hat1 e2 e3) (by rw [e2]; exact z) (locs_snoc f hqb) L
theorem gg_cast {q n : Nat} {f9 : Nat → Int32} {i : Int32} {x : Int32} {h' : XH} (hd : decode M.2.1 pc = .ok (.castore, 1)) (hin : vp_in i n) (w : HPut Γ h q (.inl (1, n, .inl f9)) h' (.inl (1, n, .inl (upd f9 i.toNatClampNeg (vp_nar .char x))))) (kk : GG Γ M QF cs h' (pc + 1) lv st) : GG Γ M QF cs h pc lv (.int x :: .int i :: .ref q :: st) := by
  intro p e s m args below meth c H locs ls X R z f L
  obtain ⟨hat, hqb⟩ := R.at w.at
  have hat' : H[q]? = some (vp_cell (g_aT Γ 1) (n, .inl f9)) := hat
  refine W.cast X.x X.b hat' ((X.K.1.2 1 _ (tysL_at Γ (by decide))).1 n _) (fun q => by cases q) (by show ¬ (i < 0 ∨ (arrV _ _ _).slots.size ≤ _); rw [arrV_size]; exact hin) rfl rfl hd fun H1 e1 e2 e3 => ?_
  have hat1 : xat Γ q (.inl (1, n, .inl (upd f9 i.toNatClampNeg (vp_nar .char x)))) H1 := by
    show H1[q]? = some (vp_cell (g_aT Γ 1) (n, .inl (upd f9 i.toNatClampNeg (vp_nar .char x))))
    rw [e1, vp_cell_i, vp_cell_i, arrV_store]
    congr 2
    funext j
    by_cases hj : j = i.toNatClampNeg
    · subst hj
      simp [updV, upd, vp_nar_c]
    · simp [updV, upd, vp_updL, vf_upd, hj]
  exact kk p e s m args below meth c H1 _ ls X (R.put w hat1 e2 e3) (by rw [e2]; exact z) (locs_snoc f hqb) L
theorem gg_last {q n : Nat} {f9 : Nat → Int64} {i : Int32} {x : Int64} {h' : XH} (hd : decode M.2.1 pc = .ok (.lastore, 1)) (hin : vp_in i n) (w : HPut Γ h q (.inl (3, n, .inr (.inl f9))) h' (.inl (3, n, .inr (.inl (vp_updL f9 i.toNatClampNeg x))))) (kk : GG Γ M QF cs h' (pc + 1) lv st) : GG Γ M QF cs h pc lv (.long x :: .int i :: .ref q :: st) := by
  intro p e s m args below meth c H locs ls X R z f L
  obtain ⟨hat, hqb⟩ := R.at w.at
  have hat' : H[q]? = some (vp_cell (g_aT Γ 3) (n, .inr (.inl f9))) := hat
  refine W.last X.x X.b hat' ((X.K.1.2 3 _ (tysL_at Γ (by decide))).1 n _) (fun q => by cases q) (by show ¬ (i < 0 ∨ (arrV _ _ _).slots.size ≤ _); rw [arrV_size]; exact hin) rfl rfl hd fun H1 e1 e2 e3 => ?_
  have hat1 : xat Γ q (.inl (3, n, .inr (.inl (vp_updL f9 i.toNatClampNeg x)))) H1 := by
    show H1[q]? = some (vp_cell (g_aT Γ 3) (n, .inr (.inl (vp_updL f9 i.toNatClampNeg x))))
    rw [e1, vp_cell_l, vp_cell_l, arrV_store]
    congr 2
    funext j
    by_cases hj : j = i.toNatClampNeg
    · subst hj
      simp [updV, vp_updL]
    · simp [updV, upd, vp_updL, vf_upd, hj]
  exact kk p e s m args below meth c H1 _ ls X (R.put w hat1 e2 e3) (by rw [e2]; exact z) (locs_snoc f hqb) L
theorem gg_dast {q n : Nat} {f9 : Nat → UInt64} {i : Int32} {x : UInt64} {h' : XH} (hd : decode M.2.1 pc = .ok (.dastore, 1)) (hin : vp_in i n) (w : HPut Γ h q (.inl (4, n, .inr (.inr (.inr (.inl f9))))) h' (.inl (4, n, .inr (.inr (.inr (.inl (vf_upd f9 i.toNatClampNeg x))))))) (kk : GG Γ M QF cs h' (pc + 1) lv st) : GG Γ M QF cs h pc lv (.double x :: .int i :: .ref q :: st) := by
  intro p e s m args below meth c H locs ls X R z f L
  obtain ⟨hat, hqb⟩ := R.at w.at
  have hat' : H[q]? = some (vp_cell (g_aT Γ 4) (n, .inr (.inr (.inr (.inl f9))))) := hat
  refine W.dast X.x X.b hat' ((X.K.1.2 4 _ (tysL_at Γ (by decide))).1 n _) (fun q => by cases q) (by show ¬ (i < 0 ∨ (arrV _ _ _).slots.size ≤ _); rw [arrV_size]; exact hin) rfl rfl hd fun H1 e1 e2 e3 => ?_
  have hat1 : xat Γ q (.inl (4, n, .inr (.inr (.inr (.inl (vf_upd f9 i.toNatClampNeg x)))))) H1 := by
    show H1[q]? = some (vp_cell (g_aT Γ 4) (n, .inr (.inr (.inr (.inl (vf_upd f9 i.toNatClampNeg x))))))
    rw [e1, vp_cell_d, vp_cell_d, arrV_store]
    congr 2
    funext j
    by_cases hj : j = i.toNatClampNeg
    · subst hj
      simp [updV, vf_upd]
    · simp [updV, upd, vp_updL, vf_upd, hj]
  exact kk p e s m args below meth c H1 _ ls X (R.put w hat1 e2 e3) (by rw [e2]; exact z) (locs_snoc f hqb) L
theorem gg_aast {q n t ci : Nat} {r : vw_C} {vs : List Value} {f9 : Nat → Option Nat} {i : Int32} {a : Nat} {h' : XH} (hd : decode M.2.1 pc = .ok (.aastore, 1)) (hv : HAt Γ h a (.inr (ci, vs))) (hc : vwCl[ci]? = some r) (ht : t < 11) (hC : aTy t = .object r.1) (hin : vp_in i n) (w : HPut Γ h q (.inl (t, n, .inr (.inr (.inr (.inr f9))))) h' (.inl (t, n, .inr (.inr (.inr (.inr (va_up f9 i.toNatClampNeg (some a)))))))) (kk : GG Γ M QF cs h' (pc + 1) lv st) : GG Γ M QF cs h pc lv (.ref a :: .int i :: .ref q :: st) := by
  intro p e s m args below meth c H locs ls X R z f L
  obtain ⟨hat, hqb⟩ := R.at w.at
  obtain ⟨hv1, -⟩ := R.at hv
  have hat' : H[q]? = some (vp_cell (g_aT Γ t) (n, .inr (.inr (.inr (.inr f9))))) := hat
  have hlt : i.toNatClampNeg < n := Nat.not_le.mp fun q => hin (Or.inr q)
  have h0 : ¬ i < 0 := fun q => hin (Or.inl q)
  obtain ⟨r', hr', cellV, g1, g2, g3, -⟩ := hv1
  have hcls := (X.K.1.1 ci r hc).2
  have hRA := (X.K.1.2 t _ (tysL_at Γ ht)).2
  rw [hC] at hRA
  obtain ⟨kA, comp, k1, k2, k3, -⟩ := hRA
  have hcomp : comp = (g_D Γ).1 ci := Option.some.inj (k3.symm.trans hcls.1)
  subst hcomp
  obtain ⟨kC, hkC, -⟩ := hcls.2
  refine W.aast X.x X.b hat' (fun q h => by cases h) (fun h => by cases h) k1 k2 rfl hkC ⟨h0, by show _ < (arrV _ _ _).slots.size; rw [arrV_size]; exact hlt⟩ g1 (fun q h => by rw [g3] at h; cases h) (by rw [g2]; exact hkC) (by rw [g2]; exact va_assign hcls) rfl rfl hd fun H1 e1 e2 e3 => ?_
  have hat1 : xat Γ q (.inl (t, n, .inr (.inr (.inr (.inr (va_up f9 i.toNatClampNeg (some a))))))) H1 := by
    show H1[q]? = some (vp_cell (g_aT Γ t) (n, .inr (.inr (.inr (.inr (va_up f9 i.toNatClampNeg (some a)))))))
    rw [e1, vp_cell_q, vp_cell_q, arrV_store]
    congr 2
    funext j
    by_cases hj : j = i.toNatClampNeg
    · subst hj
      simp [updV, va_up, va_rf]
    · simp [updV, va_up, hj]
  exact kk p e s m args below meth c H1 _ ls X (R.put w hat1 e2 e3) (by rw [e2]; exact z) (locs_snoc f hqb) L
theorem gg_aastN {q n t : Nat} {C : String} {f9 : Nat → Option Nat} {i : Int32} {h' : XH} (hd : decode M.2.1 pc = .ok (.aastore, 1)) (ht : t < 11) (hC : aTy t = .object C) (hin : vp_in i n) (w : HPut Γ h q (.inl (t, n, .inr (.inr (.inr (.inr f9))))) h' (.inl (t, n, .inr (.inr (.inr (.inr (va_up f9 i.toNatClampNeg none))))))) (kk : GG Γ M QF cs h' (pc + 1) lv st) : GG Γ M QF cs h pc lv (.null :: .int i :: .ref q :: st) := by
  intro p e s m args below meth c H locs ls X R z f L
  obtain ⟨hat, hqb⟩ := R.at w.at
  have hat' : H[q]? = some (vp_cell (g_aT Γ t) (n, .inr (.inr (.inr (.inr f9))))) := hat
  have hO := (X.K.1.2 t _ (tysL_at Γ ht)).1
  rw [hC] at hO
  refine va_WaastN X.x X.b hat' (hO n _) (fun q => by cases q) (by show ¬ (i < 0 ∨ (arrV _ _ _).slots.size ≤ _); rw [arrV_size]; exact hin) rfl rfl hd fun H1 e1 e2 e3 => ?_
  have hat1 : xat Γ q (.inl (t, n, .inr (.inr (.inr (.inr (va_up f9 i.toNatClampNeg none)))))) H1 := by
    show H1[q]? = some (vp_cell (g_aT Γ t) (n, .inr (.inr (.inr (.inr (va_up f9 i.toNatClampNeg (none)))))))
    rw [e1, vp_cell_q, vp_cell_q, arrV_store]
    congr 2
    funext j
    by_cases hj : j = i.toNatClampNeg
    · subst hj
      simp [updV, va_up, va_rf]
    · simp [updV, va_up, hj]
  exact kk p e s m args below meth c H1 _ ls X (R.put w hat1 e2 e3) (by rw [e2]; exact z) (locs_snoc f hqb) L
/-- a new address -/
def Fresh (Γ : GT) (h : XH) (q : Nat) : Prop := h.2 q = none ∧ (∀ i f, h.1 i = some f → g_L Γ i ≠ q) ∧ (g_H Γ).size ≤ q
theorem gg_new {C : String} {T : u_T} {N ci index : Nat} {ty0 : Nat → FieldType} {fs : List Value} (hin : ∀ w ∈ u_ws C T N, w ∈ WA) (hty : ∀ k, k < N → parseFieldDescriptor (T k).2.2.1 = some (ty0 k)) (hc : vwCl[ci]? = some (C, T, N)) (hcl : Cond.classLink M.1.cls index C ∈ WA) (hi : Cond.instantiable C N ∈ WA) (hini : Cond.initialized C ∈ WA) (hfs : ∀ j, j < N → defaultValue (ty0 j) = vp_V fs j)
    (hd : decode M.2.1 pc = .ok (.new index, 3)) (hcells : cs.1 + 1 ≤ M.2.2.2.2.1.cells) (hslots : cs.2 + N ≤ M.2.2.2.2.1.slots) (kk : ∀ q, Fresh Γ h q → GG Γ M QF (cs.1 + 1, cs.2 + N) (h.1, upX h.2 q (.inr (ci, fs))) (pc + 3) lv (.ref q :: st)) : GG Γ M QF cs h pc lv st := by
  intro p e s m args below meth c H locs ls X R z f L
  have hKn := X.K.1.1 ci _ hc
  refine W.newcK X.x X.b X.own (X.ts _ hcl) (X.ts _ hi) (X.ts _ hini) rfl hd hcells hslots hKn.2.1 rfl fun H1 kC hkC e1 e2 e3 => ?_
  have hat1 : xat Γ H.size (.inr (ci, fs)) H1 := ⟨_, hc, (u_born ty0 X.ts hin hKn hkC e1 hty).to hfs⟩
  obtain ⟨R1, n1, n2⟩ := R.newI hat1 e2 e3
  exact kk H.size ⟨n1, n2, R.1⟩ p e s m args below meth c H1 locs ls X R1 (by omega) f L
theorem va_RA.uniq {U : State} {c1 c2 : ClassId} {ty : FieldType} (h1 : va_RA U c1 ty) (h2 : va_RA U c2 ty) : c1 = c2 := by
  cases ty with
  | object C =>
    obtain ⟨-, -, -, -, -, a⟩ := h1
    obtain ⟨-, -, -, -, -, b⟩ := h2
    exact Option.some.inj (a.symm.trans b)
  | _ => exact Option.some.inj (h1.symm.trans h2)
theorem gg_newa {atype : ArrayType} {t : Nat} {n : Int32} {N : Nat} {a0 : vp_A} (hd : decode M.2.1 pc = .ok (.newarray atype, 2)) (ht : t < 5) (hty : aTy t = newarray.typeOf atype) (harr : Cond.arrayClass (newarray.typeOf atype) ∈ WA) (ha : ∀ cA : ClassId, vp_cell cA a0 = arrV cA N (fun _ => defaultValue (aTy t))) (hn : ¬ n < 0) (hN : n.toNatClampNeg = N) (hbytes : N * componentBytes (newarray.typeOf atype) ≤ 536870912) (hcells : cs.1 + 1 ≤ M.2.2.2.2.1.cells) (hslots : cs.2 + N ≤ M.2.2.2.2.1.slots)
    (kk : ∀ q, Fresh Γ h q → GG Γ M QF (cs.1 + 1, cs.2 + N) (h.1, upX h.2 q (.inl (t, a0))) (pc + 2) lv (.ref q :: st)) : GG Γ M QF cs h pc lv (.int n :: st) := by
  intro p e s m args below meth c H locs ls X R z f L
  refine va_newaK X.x X.b (X.ts _ harr) rfl hd rfl hn hN hbytes hcells hslots rfl fun H1 cA e1 e2 e3 hO hF => ?_
  have hk : cA = g_aT Γ t := by
    have h2 := (X.K.1.2 t _ (tysL_at Γ (by omega))).2
    rw [hty] at h2
    have h1 : va_RA s cA (newarray.typeOf atype) := by cases atype <;> exact hF
    exact va_RA.uniq h1 h2
  subst hk
  have hat1 : xat Γ H.size (.inl (t, a0)) H1 := by
    show H1[H.size]? = some (vp_cell _ _)
    rw [ha, hty]
    exact e1
  obtain ⟨R1, n1, n2⟩ := R.newI hat1 e2 e3
  exact kk H.size ⟨n1, n2, R.1⟩ p e s m args below meth c H1 locs ls X R1 (by omega) f L
theorem gg_newq {C : String} {t index : Nat} {n : Int32} {N : Nat} (hd : decode M.2.1 pc = .ok (.anewarray index, 3)) (ht : t < 11) (hty : aTy t = .object C) (hcl : Cond.classLink M.1.cls index C ∈ WA) (hC : C ∈ AOL) (hn : ¬ n < 0) (hN : n.toNatClampNeg = N) (hbytes : N * 4 ≤ 536870912) (hcells : cs.1 + 1 ≤ M.2.2.2.2.1.cells) (hslots : cs.2 + N ≤ M.2.2.2.2.1.slots)
    (kk : ∀ q, Fresh Γ h q → GG Γ M QF (cs.1 + 1, cs.2 + N) (h.1, upX h.2 q (.inl (t, N, .inr (.inr (.inr (.inr (fun _ => none))))))) (pc + 3) lv (.ref q :: st)) : GG Γ M QF cs h pc lv (.int n :: st) := by
  intro p e s m args below meth c H locs ls X R z f L
  subst hN
  refine W.anew X.x X.b X.own (X.ts _ hcl) (va_AO.use (X.K.2.2.2.2.2.1 C hC)) rfl hd rfl hn hbytes hcells hslots fun cA kA comp f1 f2 f3 f4 => ?_
  generalize hH1 : H.push ({ cls := cA, slots := Array.replicate n.toNatClampNeg .null, vm := .none } : Cell) = H1
  have z1 : H1.size = H.size + 1 := by rw [← hH1, Array.size_push]
  have e1 : H1[H.size]? = some (arrV cA n.toNatClampNeg (fun _ => .null)) := by rw [← hH1, Array.getElem?_push_size, ← arrV_new]
  have o1 : ∀ q : Nat, q < H.size → H1[q]? = H[q]? := fun q hq => by rw [← hH1, Array.getElem?_push, if_neg (Nat.ne_of_lt hq)]
  have hk : cA = g_aT Γ t := by
    have h2 := (X.K.1.2 t _ (tysL_at Γ ht)).2
    rw [hty] at h2
    obtain ⟨-, -, -, -, -, b⟩ := h2
    exact Option.some.inj (f1.symm.trans b)
  subst hk
  have hat1 : xat Γ H.size (.inl (t, n.toNatClampNeg, .inr (.inr (.inr (.inr (fun _ => none)))))) H1 := e1
  obtain ⟨R1, n1, n2⟩ := R.newI hat1 z1 o1
  exact kk H.size ⟨n1, n2, R.1⟩ p e s m args below meth c H1 locs ls X R1 (by omega) f L
end Rows
