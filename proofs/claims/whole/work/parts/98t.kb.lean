/-! the start: what the Statement gives of it -/
theorem sub9 {a b c : List Cond} (h1 : ∀ w ∈ a, w ∈ c) (h2 : ∀ w ∈ b, w ∈ c) : ∀ w ∈ a ++ b, w ∈ c := fun w h => (List.mem_append.mp h).elim (h1 w) (h2 w)
theorem tin9 {ws : List Cond} (h : ∀ w ∈ ws, w ∈ tables_1) : ∀ w ∈ ws, w ∈ lw_tbl := fun w hw => List.mem_append_right _ (h w hw)
theorem ti9 {ws : List Cond} (ps : List Nat) (h : ws = ps.filterMap (fun i => tables_1[i]?)) : ∀ w ∈ ws, w ∈ lw_tbl := tin9 (fun w hw => by
  rw [h] at hw
  obtain ⟨i, _, e⟩ := List.mem_filterMap.mp hw
  exact List.mem_of_getElem? e)
def nl9 : List Cond := flatC (Jvm.Cond.and given_1 narrow_1)
theorem ni9 {ws : List Cond} (ps : List Nat) (h : ws = ps.filterMap (fun i => nl9[i]?)) : ∀ w ∈ ws, w ∈ nl9 := fun w hw => by
  rw [h] at hw
  obtain ⟨i, _, e⟩ := List.mem_filterMap.mp hw
  exact List.mem_of_getElem? e
def stw9 : List Cond := STL.map (fun q => Cond.stringRef q.1 q.2.1 q.2.2)
theorem stw_in : ∀ w ∈ stw9, w ∈ lw_tbl := ti9 [343, 391, 415, 525, 533, 541, 680, 693, 740, 760, 802, 803, 875, 985, 994, 1001, 1009, 1028, 1067, 1075, 1111, 1179, 1187, 1218, 1227, 1235, 759, 823, 579, 451, 452, 453, 454, 981] (by decide +kernel)
def stx9 : List Cond := STL.map (fun q => Cond.exactly (.string q.1 q.2.1) "java/lang/String")
theorem stx_in : ∀ w ∈ stx9, w ∈ nl9 := ni9 [125, 146, 170, 227, 251, 281, 312, 340, 373, 411, 439, 462, 499, 542, 571, 587, 616, 649, 691, 710, 739, 763, 789, 820, 842, 872, 394, 483, 302, 187, 195, 206, 217, 531] (by decide +kernel)
def tm9 (i : Nat) : Term := .string (s_own i).1 (s_own i).2.1
def sq9 (i : Nat) : List Cond := Cond.exactly (tm9 i) "java/lang/String" :: Cond.eq (.field (tm9 i) "java/lang/String" "coder" "B") (.int 0) :: Cond.arrayOf (.field (tm9 i) "java/lang/String" "value" "[B") .byte :: Cond.eq (.length (.field (tm9 i) "java/lang/String" "value" "[B")) (.int (Int32.ofNat (s_len.getD i 0))) :: (List.range (s_len.getD i 0)).map (fun j => Cond.eq (.elem (.field (tm9 i) "java/lang/String" "value" "[B") (.int (Int32.ofNat j))) (.int ((s_byt.getD i []).getD j 0)))
theorem sq_in : ∀ w ∈ (List.range 5).flatMap sq9, w ∈ nl9 := ni9 [302, 303, 304, 305, 306, 307, 308, 309, 310, 311, 187, 188, 189, 190, 191, 192, 193, 194, 195, 196, 197, 198, 199, 200, 201, 202, 203, 204, 205, 206, 207, 208, 209, 210, 211, 212, 213, 214, 215, 216, 217, 218, 219, 220, 221, 222, 223, 224, 225, 226] (by decide +kernel)
def nc9 : List Cond := Cond.arrayOf (.static RX10 "NAMES" "[I") .int :: Cond.eq (.length (.static RX10 "NAMES" "[I")) (.int (Int32.ofNat 32)) :: (List.range 32).map (fun j => Cond.eq (.elem (.static RX10 "NAMES" "[I") (.int (Int32.ofNat j))) (.int (([105, 97, 109, 98, 0, 0, 0, 0, 116, 114, 111, 99, 104, 101, 101, 0, 97, 110, 97, 112, 101, 115, 116, 0, 100, 97, 99, 116, 121, 108, 0, 0] : List Int32).getD j 0)))
theorem nc_in : ∀ w ∈ nc9, w ∈ nl9 := ni9 [12, 13, 14, 15, 16, 17, 18, 19, 20, 21, 22, 23, 24, 25, 26, 27, 28, 29, 30, 31, 32, 33, 34, 35, 36, 37, 38, 39, 40, 41, 42, 43, 44, 45] (by decide +kernel)
def nn9 : List Cond := NWN.map (fun q => Cond.not (.castable q.1 q.2))
theorem nn_in : ∀ w ∈ nn9, w ∈ nl9 := ni9 [70, 86, 102, 117, 54, 87, 103, 118, 55, 71, 104, 119, 59, 75, 91, 123, 61, 77, 93, 108] (by decide +kernel)
def sa9 : List Cond := [.isRef (.static Bundle.tN "UNASSIGNED_STACK" Bundle.steD), .isRef (.static Bundle.tN "SUPPRESSED_SENTINEL" Bundle.listD), .eq (.static "java/lang/String" "COMPACT_STRINGS" "Z") (.int 1), .isRef (.static "jdk/internal/util/Preconditions" "SIOOBE_FORMATTER" "Ljava/util/function/BiFunction;"), .eq (.string "VerseScanner" 449) (.string "VerseScanner$Word" 43)]
theorem sa_in : ∀ w ∈ sa9, w ∈ nl9 := ni9 [4, 5, 6, 7, 541] (by decide +kernel)
def ins9 : List Cond := [.instantiable RJ0 4, .instantiable RJx00060 6, .instantiable RX0 2, .instantiable RX1 6, .instantiable RX2 5, .instantiable RX3 3, .instantiable RX4 7, .instantiable RX5 8, .instantiable RX6 9, .instantiable RX7 5, .instantiable RX8 6, .instantiable RX9 14, .instantiable RX10 47]
theorem ins_in : ∀ w ∈ ins9, w ∈ lw_tbl := tin9 (by decide +kernel)
theorem thr_in : ∀ w ∈ u_ws RJx00060 TJx00060 6, w ∈ lw_tbl := tin9 (by decide +kernel)
def mw9 : List Cond := NWM.map (fun q => Cond.methodLinkNest q.1 q.2.1 q.2.2.1 q.2.2.2)
theorem mw_in : ∀ w ∈ mw9, w ∈ lw_tbl := tin9 (by decide +kernel)
def cw9 : List Cond := NWC.map (fun q => Cond.castable q.1 q.2)
theorem cw_in : ∀ w ∈ cw9, w ∈ lw_tbl := tin9 (by decide +kernel)
def dw9 : List Cond := NWD.map (fun q => Cond.declares q)
theorem dw_in : ∀ w ∈ dw9, w ∈ lw_tbl := tin9 (by decide +kernel)
def aw9 : List Cond := AOL.map (fun q => Cond.arrayOver (.object q))
theorem aw_in : ∀ w ∈ aw9, w ∈ lw_tbl := tin9 (by decide +kernel)
def ac9 : List Cond := [.arrayClass .int, .arrayClass .char, .arrayClass .boolean, .arrayClass .long, .arrayClass .double]
theorem ac_in : ∀ w ∈ ac9, w ∈ lw_tbl := tin9 (by decide +kernel)
def sw9 : List Cond := [.laysStatic Bundle.tN "UNASSIGNED_STACK" Bundle.steD, .laysStatic Bundle.tN "SUPPRESSED_SENTINEL" Bundle.listD, .laysStatic "java/lang/String" "COMPACT_STRINGS" "Z", .laysStatic "jdk/internal/util/Preconditions" "SIOOBE_FORMATTER" "Ljava/util/function/BiFunction;", .laysStatic RX10 "NAMES" "[I", .initialized Bundle.tN, .initialized "java/lang/String", .initialized "jdk/internal/util/Preconditions", .initialized RX10]
theorem sw_in : ∀ w ∈ sw9, w ∈ lw_tbl := tin9 (by decide +kernel)
section Start
variable {args : Array Value} {s : State}
/-- an array class's row -/
theorem ar_p {ty : FieldType} (hw : (Cond.arrayClass ty).before args s = true) : ∃ cA : ClassId, ArrOfT s cA ty ∧ s.vm.findClass ("[" ++ ty.toString) = some cA := by
  obtain ⟨c, k, comp, h1, h2, h3⟩ := Cond.arrayClass_spec hw
  exact ⟨c, fun n z => ⟨fun k h => (by cases h), k, h2, comp, h3⟩, h1⟩
theorem ar_o {C : String} (hw : (Cond.arrayOver (.object C)).before args s = true) : ∃ cA : ClassId, ArrOfT s cA (.object C) ∧ va_RA s cA (.object C) := by
  obtain ⟨comp, c, k, h1, h2, h3, h4, h5⟩ := Cond.arrayOver_spec hw
  exact ⟨c, fun n z => ⟨fun k h => (by cases h), k, h3, comp, h4⟩, k, comp, h3, h4, h1, h5⟩
theorem st_ar (hts : ∀ w ∈ lw_tbl, w.before args s = true) : ∀ k : Nat, ∃ cA : ClassId, k < 11 → ArrOfT s cA (aTy k) ∧ va_RA s cA (aTy k) := by
  intro k
  have hac : ∀ w ∈ ac9, w.before args s = true := fun w hw => hts w (ac_in w hw)
  have haw : ∀ w ∈ aw9, w.before args s = true := fun w hw => hts w (aw_in w hw)
  match k with
  | 0 => obtain ⟨cA, h1, h2⟩ := ar_p (hac (.arrayClass .int) (List.mem_of_getElem? (i := 0) rfl)); exact ⟨cA, fun _ => ⟨h1, h2⟩⟩
  | 1 => obtain ⟨cA, h1, h2⟩ := ar_p (hac (.arrayClass .char) (List.mem_of_getElem? (i := 1) rfl)); exact ⟨cA, fun _ => ⟨h1, h2⟩⟩
  | 2 => obtain ⟨cA, h1, h2⟩ := ar_p (hac (.arrayClass .boolean) (List.mem_of_getElem? (i := 2) rfl)); exact ⟨cA, fun _ => ⟨h1, h2⟩⟩
  | 3 => obtain ⟨cA, h1, h2⟩ := ar_p (hac (.arrayClass .long) (List.mem_of_getElem? (i := 3) rfl)); exact ⟨cA, fun _ => ⟨h1, h2⟩⟩
  | 4 => obtain ⟨cA, h1, h2⟩ := ar_p (hac (.arrayClass .double) (List.mem_of_getElem? (i := 4) rfl)); exact ⟨cA, fun _ => ⟨h1, h2⟩⟩
  | 5 => obtain ⟨cA, h1, h2⟩ := ar_o (haw (.arrayOver (.object RX2)) (List.mem_of_getElem? (i := 0) rfl)); exact ⟨cA, fun _ => ⟨h1, h2⟩⟩
  | 6 => obtain ⟨cA, h1, h2⟩ := ar_o (haw (.arrayOver (.object RX8)) (List.mem_of_getElem? (i := 1) rfl)); exact ⟨cA, fun _ => ⟨h1, h2⟩⟩
  | 7 => obtain ⟨cA, h1, h2⟩ := ar_o (haw (.arrayOver (.object RX0)) (List.mem_of_getElem? (i := 2) rfl)); exact ⟨cA, fun _ => ⟨h1, h2⟩⟩
  | 8 => obtain ⟨cA, h1, h2⟩ := ar_o (haw (.arrayOver (.object RX7)) (List.mem_of_getElem? (i := 3) rfl)); exact ⟨cA, fun _ => ⟨h1, h2⟩⟩
  | 9 => obtain ⟨cA, h1, h2⟩ := ar_o (haw (.arrayOver (.object RX3)) (List.mem_of_getElem? (i := 4) rfl)); exact ⟨cA, fun _ => ⟨h1, h2⟩⟩
  | 10 => obtain ⟨cA, h1, h2⟩ := ar_o (haw (.arrayOver (.object RX4)) (List.mem_of_getElem? (i := 5) rfl)); exact ⟨cA, fun _ => ⟨h1, h2⟩⟩
  | k + 11 => exact ⟨0, fun h => absurd h (by omega)⟩
theorem st_cl (wa : ∀ w ∈ WA, w ∈ lw_tbl) (hts : ∀ w ∈ lw_tbl, w.before args s = true) : ∀ c : Nat, ∃ y : ClassId × (Nat → Nat), ∀ q : vw_C, vwCl[c]? = some q → u_Kn s q.1 q.2.1 q.2.2 y.1 y.2 := by
  intro c
  have hin : ∀ w ∈ ins9, w.before args s = true := fun w hw => hts w (ins_in w hw)
  match c with
  | 0 => obtain ⟨a, b, h⟩ := u_known (C := RJ0) (T := TJ0) (N := 2) (n := 4) hts (fun w h => wa w (wi_71 w h)) (hin _ (List.mem_of_getElem? (i := 0) rfl)); exact ⟨(a, b), fun q hq => by cases hq; exact h⟩
  | 1 => obtain ⟨a, b, h⟩ := u_known (C := RJx00060) (T := TJx00060) (N := 6) (n := 6) hts thr_in (hin _ (List.mem_of_getElem? (i := 1) rfl)); exact ⟨(a, b), fun q hq => by cases hq; exact h⟩
  | 2 => obtain ⟨a, b, h⟩ := u_known (C := RX0) (T := TX0) (N := 2) (n := 2) hts (fun w h => wa w (wi_60 w h)) (hin _ (List.mem_of_getElem? (i := 2) rfl)); exact ⟨(a, b), fun q hq => by cases hq; exact h⟩
  | 3 => obtain ⟨a, b, h⟩ := u_known (C := RX1) (T := TX1) (N := 6) (n := 6) hts (fun w h => wa w (wi_61 w h)) (hin _ (List.mem_of_getElem? (i := 3) rfl)); exact ⟨(a, b), fun q hq => by cases hq; exact h⟩
  | 4 => obtain ⟨a, b, h⟩ := u_known (C := RX2) (T := TX2) (N := 5) (n := 5) hts (fun w h => wa w (wi_62 w h)) (hin _ (List.mem_of_getElem? (i := 4) rfl)); exact ⟨(a, b), fun q hq => by cases hq; exact h⟩
  | 5 => obtain ⟨a, b, h⟩ := u_known (C := RX3) (T := TX3) (N := 3) (n := 3) hts (fun w h => wa w (wi_63 w h)) (hin _ (List.mem_of_getElem? (i := 5) rfl)); exact ⟨(a, b), fun q hq => by cases hq; exact h⟩
  | 6 => obtain ⟨a, b, h⟩ := u_known (C := RX4) (T := TX4) (N := 7) (n := 7) hts (fun w h => wa w (wi_64 w h)) (hin _ (List.mem_of_getElem? (i := 6) rfl)); exact ⟨(a, b), fun q hq => by cases hq; exact h⟩
  | 7 => obtain ⟨a, b, h⟩ := u_known (C := RX5) (T := TX5) (N := 8) (n := 8) hts (fun w h => wa w (wi_65 w h)) (hin _ (List.mem_of_getElem? (i := 7) rfl)); exact ⟨(a, b), fun q hq => by cases hq; exact h⟩
  | 8 => obtain ⟨a, b, h⟩ := u_known (C := RX6) (T := TX6) (N := 9) (n := 9) hts (fun w h => wa w (wi_66 w h)) (hin _ (List.mem_of_getElem? (i := 8) rfl)); exact ⟨(a, b), fun q hq => by cases hq; exact h⟩
  | 9 => obtain ⟨a, b, h⟩ := u_known (C := RX7) (T := TX7) (N := 5) (n := 5) hts (fun w h => wa w (wi_67 w h)) (hin _ (List.mem_of_getElem? (i := 9) rfl)); exact ⟨(a, b), fun q hq => by cases hq; exact h⟩
  | 10 => obtain ⟨a, b, h⟩ := u_known (C := RX8) (T := TX8) (N := 6) (n := 6) hts (fun w h => wa w (wi_68 w h)) (hin _ (List.mem_of_getElem? (i := 10) rfl)); exact ⟨(a, b), fun q hq => by cases hq; exact h⟩
  | 11 => obtain ⟨a, b, h⟩ := u_known (C := RX9) (T := TX9) (N := 14) (n := 14) hts (fun w h => wa w (wi_69 w h)) (hin _ (List.mem_of_getElem? (i := 11) rfl)); exact ⟨(a, b), fun q hq => by cases hq; exact h⟩
  | 12 => obtain ⟨a, b, h⟩ := u_known (C := RX10) (T := TX10) (N := 47) (n := 47) hts (fun w h => wa w (wi_70 w h)) (hin _ (List.mem_of_getElem? (i := 12) rfl)); exact ⟨(a, b), fun q hq => by cases hq; exact h⟩
  | k + 13 => exact ⟨(0, fun _ => 0), fun q hq => by simp [vwCl] at hq⟩
theorem of_eq {o n d : String} {v w : Value} {t : Nat} {A : Nat → Prop} {H : Heap} (h : va_OF o n d v t A s H) (g : va_OF o n d w t A s H) : v = w := by
  obtain ⟨c1, k1, i1, f1, x1, a1, -, b1, -, d1, -⟩ := h
  obtain ⟨c2, k2, i2, f2, x2, a2, -, b2, -, d2, -⟩ := g
  have e1 := Option.some.inj (a1.symm.trans a2)
  cases e1
  cases Option.some.inj (b1.symm.trans b2)
  exact Option.some.inj (d1.symm.trans d2)
theorem tT_eq {ty : FieldType} {t N M j : Nat} {f g : Nat → Value} {A : Nat → Prop} {H : Heap} (h : va_T ty t N f A s H) (k : va_T ty t M g A s H) (h1 : j < N) (h2 : j < M) : f j = g j := by
  obtain ⟨x1, a1, -, -, -, -, b1, -⟩ := h
  obtain ⟨x2, a2, -, -, -, -, b2, -⟩ := k
  cases Option.some.inj (a1.symm.trans a2)
  exact Option.some.inj ((b1 j h1).symm.trans (b2 j h2))
theorem s_apart : ∀ i, i < 5 → ∀ j, j < 5 → i ≠ j → ∃ k, k < 2 ∧ (s_byt.getD i []).getD k 0 ≠ (s_byt.getD j []).getD k 0 := by decide +kernel
theorem s_two : ∀ i, i < 5 → 2 ≤ s_len.getD i 0 := by decide +kernel
theorem s_small : ∀ i, i < 5 → s_len.getD i 0 < 2 ^ 31 := by decide +kernel
theorem st_str {A : Nat → Prop} (hg : ∀ w ∈ nl9, w.before args s = true) (hA : ∀ a : Nat, a < s.heap.size → ¬ A a) : ∃ adK adV : Nat → Nat, vk_S 5 s_len s_byt adK adV A s s.heap ∧ ∀ i : Nat, i < 5 → (tm9 i).eval args s none [] s = some (.ref (adK i)) := by
  have hq : ∀ i : Nat, i < 5 → ∀ w ∈ sq9 i, w.before args s = true := fun i hi w hw => hg w (sq_in w (List.mem_flatMap.mpr ⟨i, List.mem_range.mpr hi, hw⟩))
  have h0 : ∀ i : Nat, ∃ q : Nat × Nat, i < 5 → (tm9 i).eval args s none [] s = some (.ref q.1) ∧ va_O "java/lang/String" q.1 A s s.heap ∧ va_OF "java/lang/String" "coder" "B" (.int 0) q.1 A s s.heap ∧ va_OF "java/lang/String" "value" "[B" (.ref q.2) q.1 A s s.heap ∧ va_T .byte q.2 (s_len.getD i 0) (fun j => .int ((s_byt.getD i []).getD j 0)) A s s.heap := by
    intro i
    by_cases hi : i < 5
    · have c0 := hq i hi (.exactly (tm9 i) "java/lang/String") List.mem_cons_self
      have c1 := hq i hi (.eq (.field (tm9 i) "java/lang/String" "coder" "B") (.int 0)) (List.mem_cons_of_mem _ List.mem_cons_self)
      have c2 := hq i hi (.arrayOf (.field (tm9 i) "java/lang/String" "value" "[B") .byte) (List.mem_cons_of_mem _ (List.mem_cons_of_mem _ List.mem_cons_self))
      have c3 := hq i hi (.eq (.length (.field (tm9 i) "java/lang/String" "value" "[B")) (.int (Int32.ofNat (s_len.getD i 0)))) (List.mem_cons_of_mem _ (List.mem_cons_of_mem _ (List.mem_cons_of_mem _ List.mem_cons_self)))
      have c4 : ∀ j : Nat, j < s_len.getD i 0 → (Cond.eq (.elem (.field (tm9 i) "java/lang/String" "value" "[B") (.int (Int32.ofNat j))) (.int ((s_byt.getD i []).getD j 0))).before args s = true := fun j hj =>
        hq i hi _ (List.mem_cons_of_mem _ (List.mem_cons_of_mem _ (List.mem_cons_of_mem _ (List.mem_cons_of_mem _ (List.mem_map.mpr ⟨j, List.mem_range.mpr hj, rfl⟩)))))
      obtain ⟨a, cc, ce, kk, q1, q2, q3, q4, q5, q6, -⟩ := Cond.exactly_spec (args := args) (first := s) (o := none) (s := s) (idx := []) (t := tm9 i) (cls := "java/lang/String") c0
      obtain ⟨t, t1, t2⟩ := va_Tof (f := fun j => .int ((s_byt.getD i []).getD j 0)) (A := A) (s_small i hi) c2 (va_eqt c3) (fun j hj => va_eqt (c4 j hj)) hA
      exact ⟨(a, t), fun _ => ⟨q1, ⟨ce, q3, q5, by rw [q6]; exact q2, hA a (Array.getElem?_eq_some_iff.mp q3).1⟩, vk_OFof q1 (va_eqt c1) hA, vk_OFof q1 t1 hA, t2⟩⟩
    · exact ⟨(0, 0), fun h => absurd h hi⟩
  obtain ⟨ad, had⟩ := Classical.axiomOfChoice h0
  refine ⟨fun i => (ad i).1, fun i => (ad i).2, ⟨fun i hi => (had i hi).2, fun i j hi hj e => ?_⟩, fun i hi => (had i hi).1⟩
  by_cases hij : i = j
  · exact hij
  · obtain ⟨k, k1, k2⟩ := s_apart i hi j hj hij
    have e' : (ad i).1 = (ad j).1 := e
    have v1 := (had i hi).2.2.2.1
    have v2 := (had j hj).2.2.2.1
    rw [e'] at v1
    have e2 : (ad i).2 = (ad j).2 := by
      have := of_eq v1 v2
      injection this
    have t1 := (had i hi).2.2.2.2
    have t2 := (had j hj).2.2.2.2
    rw [e2] at t1
    have e3 := tT_eq t1 t2 (Nat.lt_of_lt_of_le k1 (s_two i hi)) (Nat.lt_of_lt_of_le k1 (s_two j hj))
    injection e3 with e4
    exact absurd e4 k2
theorem flags_no {l : Launch} (h : l.flags = flags0) : l.stackTraces = false := by
  unfold Launch.stackTraces
  rw [h]
  decide +kernel
/-- what is known of the start: one world for it -/
theorem st_KB (wa : ∀ w ∈ WA, w ∈ lw_tbl) (l : Launch) (hfl : l.flags = flags0) {b L : Nat} {xs : Nat → Int32} (hts : ∀ w ∈ lw_tbl, w.before args s = true) (hg : ∀ w ∈ nl9, w.before args s = true) (hX : va_X b L xs s s.heap) (hb : b < s.heap.size) :
    ∃ Γ : GT, KB Γ s ∧ g_l Γ = l ∧ g_H Γ = s.heap ∧ g_b Γ = b ∧ g_n Γ = L := by
  obtain ⟨ad, had⟩ := Classical.axiomOfChoice (st_cl wa hts)
  obtain ⟨aT, haT⟩ := Classical.axiomOfChoice (st_ar hts)
  have hA : ∀ a : Nat, a < s.heap.size → ¬ (fun q : Nat => s.heap.size ≤ q) a := fun a h1 h2 => absurd h1 (by simpa using h2)
  obtain ⟨str, sv, hS, hev⟩ := st_str (A := fun q : Nat => s.heap.size ≤ q) hg hA
  have hn : ∀ w ∈ nc9, w.before args s = true := fun w hw => hg w (nc_in w hw)
  have hsa : ∀ w ∈ sa9, w.before args s = true := fun w hw => hg w (sa_in w hw)
  have hsw : ∀ w ∈ sw9, w.before args s = true := fun w hw => hts w (sw_in w hw)
  obtain ⟨nm, n1, n2⟩ := va_Tof (args := args) (s := s) (tm := .static RX10 "NAMES" "[I") (ty := .int) (N := 32) (f := nm_f) (A := fun q : Nat => s.heap.size ≤ q) (by decide) (hn _ List.mem_cons_self) (va_eqt (hn _ (List.mem_cons_of_mem _ List.mem_cons_self))) (fun j hj => va_eqt (hn _ (List.mem_cons_of_mem _ (List.mem_cons_of_mem _ (List.mem_map.mpr ⟨j, List.mem_range.mpr hj, rfl⟩))))) hA
  refine ⟨(l, (fun c => (ad c).1, fun c => (ad c).2), aT, s.heap, fun _ => 0, (b, L, xs), str, sv, nm), ⟨⟨fun c q hq => had c q hq, fun k q hq => ?_⟩, ?_, ?_, ?_, ?_, ?_, ?_, ?_, hS, ?_, n2, ?_, hX, hb, flags_no hfl, ?_, ?_, ?_⟩, rfl, rfl, rfl, rfl⟩
  · unfold tysL at hq
    rw [List.getElem?_map] at hq
    by_cases hk : k < 11
    · rw [List.getElem?_range hk] at hq
      cases hq
      exact haT k hk
    · rw [List.getElem?_eq_none (by rw [List.length_range]; omega)] at hq
      cases hq
  · exact vx_Zqof (hsw _ (List.mem_of_getElem? (i := 0) rfl)) (hsw _ (List.mem_of_getElem? (i := 5) rfl)) (hsa _ (List.mem_of_getElem? (i := 0) rfl)) hA
  · exact vx_Zqof (hsw _ (List.mem_of_getElem? (i := 1) rfl)) (hsw _ (List.mem_of_getElem? (i := 5) rfl)) (hsa _ (List.mem_of_getElem? (i := 1) rfl)) hA
  · exact fun q hq => va_Nw.of rfl (hts _ (mw_in _ (List.mem_map.mpr ⟨q, hq, rfl⟩)))
  · exact fun q hq => va_Nw.of rfl (hts _ (cw_in _ (List.mem_map.mpr ⟨q, hq, rfl⟩)))
  · exact fun C hC => va_AO.of (hts _ (aw_in _ (List.mem_map.mpr ⟨C, hC, rfl⟩)))
  · intro q hq
    obtain ⟨a, _, _, _, q1, -⟩ := Cond.exactly_spec (args := args) (first := s) (o := none) (s := s) (idx := []) (hg _ (stx_in _ (List.mem_map.mpr ⟨q, hq, rfl⟩)))
    exact ⟨a, vk_R.of (hts _ (stw_in _ (List.mem_map.mpr ⟨q, hq, rfl⟩))) q1⟩
  · intro k hk
    have hw : ∀ k, k < 6 → s_own k ∈ STL := by decide +kernel
    refine vk_R.of (hts _ (stw_in _ (List.mem_map.mpr ⟨s_own k, hw k hk, rfl⟩))) ?_
    by_cases h5 : k = 5
    · subst h5
      exact va_eqR (hsa _ (List.mem_of_getElem? (i := 4) rfl)) (hev 0 (by decide))
    · have h6 : s_ix k = k := by
        rcases (show k = 0 ∨ k = 1 ∨ k = 2 ∨ k = 3 ∨ k = 4 by omega) with rfl | rfl | rfl | rfl | rfl <;> rfl
      rw [h6]
      exact hev k (by omega)
  · exact va_Zof (hsw _ (List.mem_of_getElem? (i := 4) rfl)) (hsw _ (List.mem_of_getElem? (i := 8) rfl)) n1 hA
  · exact fun q hq => va_Nc.of (hg _ (nn_in _ (List.mem_map.mpr ⟨q, hq, rfl⟩)))
  · exact va_Zof (hsw _ (List.mem_of_getElem? (i := 2) rfl)) (hsw _ (List.mem_of_getElem? (i := 6) rfl)) (va_eqi (hsa _ (List.mem_of_getElem? (i := 2) rfl))) hA
  · exact va_Zqof (hsw _ (List.mem_of_getElem? (i := 3) rfl)) (hsw _ (List.mem_of_getElem? (i := 7) rfl)) (hsa _ (List.mem_of_getElem? (i := 3) rfl)) hA
  · exact fun q hq => va_Nw.of rfl (hts _ (dw_in _ (List.mem_map.mpr ⟨q, hq, rfl⟩)))
end Start
