/-! the reference: scans -/
theorem mkd_r {n k : Int} (hn : 1 ≤ n) (hk : 0 ≤ k ∧ k < n) : 0 ≤ mkd n k ∧ mkd n k ≤ 2 := by
  unfold mkd
  repeat' split
  all_goals omega
/-- the words of a line: where each begins in it, its length, whether a comma follows -/
def lnW (a : Int → Int) (d l : Int) : List (Int × Int × Bool) := (parseL (fun k => a (169 + 61 * (10 * d + l) + 1 + k)) (a (169 + 61 * (10 * d + l))) 12 0).2.2
theorem parseL_n {f : Int → Int} {n : Int} : ∀ {m : Nat} {p : Int}, (parseL f n m p).1 = true → 1 ≤ (parseL f n m p).2.2.length ∧ (parseL f n m p).2.2.length ≤ m
  | 0, p, hq => by cases hq
  | m + 1, p, hq => by
    rcases (parseL_ok hq).2.2 with ⟨-, h2⟩ | ⟨-, h1, h2⟩
    · rw [h2]; simp
    · rw [h2, List.length_cons]
      have := parseL_n h1
      omega
/-- a line that the reference has laid -/
def LD (a : Int → Int) (d l : Int) (F : Nat → Int) (A : Nat → Int → Int) : Prop := LW F A ∧ F 16 = ((lnW a d l).length : Int) ∧ ∀ (i : Nat) (pv lenv : Int) (cv : Bool), (lnW a d l)[i]? = some (pv, lenv, cv) → WDq a A i (169 + 61 * (10 * d + l) + 1 + pv) lenv cv
theorem LD_of {a : Int → Int} {d l : Int} {F : Nat → Int} {A : Nat → Int → Int} (S : StA a) (N : LnA a) (E9 : ExA a) (hd : 0 ≤ d ∧ d ≤ 3) (hl : 0 ≤ l ∧ l < a (5 + d)) (h1 : F 16 = ((lnW a d l).length : Int)) (h2 : ∀ (i : Nat) (pv lenv : Int) (cv : Bool), (lnW a d l)[i]? = some (pv, lenv, cv) → WDq a A i (169 + 61 * (10 * d + l) + 1 + pv) lenv cv) : LD a d l F A := by
  refine ⟨?_, h1, h2⟩
  obtain ⟨n1, n2, n3⟩ := N d l (by omega) (by omega) (by omega) (by omega)
  have hn := parseL_n n3
  change 1 ≤ (lnW a d l).length ∧ (lnW a d l).length ≤ 12 at hn
  refine ⟨by omega, fun k k0 k1 => ?_⟩
  obtain ⟨i, rfl⟩ := Int.eq_ofNat_of_zero_le k0
  have hi : i < (lnW a d l).length := by omega
  obtain ⟨⟨pv, lenv, cv⟩, hx⟩ : ∃ t, (lnW a d l)[i] = t := ⟨_, rfl⟩
  obtain ⟨w0, w1, w2, w3, w4, w5, w6, w7⟩ := h2 i pv lenv cv (by rw [List.getElem?_eq_getElem hi, hx])
  refine ⟨by rw [w3]; exact bi_01 _, by rw [w5]; exact bi_01 _, by rw [w4]; exact bi_01 _, by rw [w6]; exact w0, fun j j0 j1 => ?_⟩
  rw [w6] at j1
  rw [w7 j j0 j1]
  unfold mrk
  by_cases q : exO a a (169 + 61 * (10 * d + l) + 1 + pv) lenv < 0
  · rw [if_pos q]; exact mkd_r w0.1 ⟨j0, j1⟩
  · rw [if_neg q]
    rcases exO_r (a := a) (r := a) (fr := 169 + 61 * (10 * d + l) + 1 + pv) (n := lenv) S.2.2.2.2.1.1 with z | z
    · omega
    · rw [wSy, if_neg q] at j1
      exact (E9 _ z.1 z.2).2.2 j j0 j1
theorem c2_laysLine {Γ : GT} {h : XH} {F : Nat → Int} {A : Nat → Int → Int} (S : StA (A 1)) (N : LnA (A 1)) (E9 : ExA (A 1)) {d l : Int} (hd : 0 ≤ d ∧ d ≤ 3) (hl : 0 ≤ l ∧ l < A 1 (5 + d)) : Ct Γ M_X10_laysLine [.ref (g_L Γ 0), .int (iN d), .int (iN l)] (mst Γ h F A)
    (fun r h9 => ∃ (F1 : Nat → Int) (A1 : Nat → Int → Int), r = none ∧ h9 = mst Γ h F1 A1 ∧ frF [16, 24, 25] F F1 ∧ frA [8, 9, 10, 11, 12, 13, 14, 15] A A1 ∧ LD (A 1) d l F1 A1) (fun _ _ => False) :=
  Ct.mono (c_X10_laysLine S N E9 hd hl) (fun r h9 ⟨F1, A1, e1, e2, e3, e4, e5, e6⟩ => ⟨F1, A1, e1, e2, e3, e4, LD_of S N E9 hd hl e5 e6⟩) (fun _ _ q => q)
theorem LD_fr {a : Int → Int} {d l : Int} {F G : Nat → Int} {A : Nat → Int → Int} (e0 : G 16 = F 16) (q : LD a d l F A) : LD a d l G A := ⟨LW_fr e0 rfl rfl rfl rfl rfl q.1, by rw [e0]; exact q.2.1, q.2.2⟩
theorem frF_t {l1 l2 : List Nat} {F G H : Nat → Int} (f1 : frF l1 F G) (f2 : frF l2 G H) (h1 : ∀ j, j ∈ l1 → j ∈ [0, 16, 24, 25, 27, 28, 29, 30, 34, 35, 36, 37, 38, 39, 40, 41, 42]) (h2 : ∀ j, j ∈ l2 → j ∈ [0, 16, 24, 25, 27, 28, 29, 30, 34, 35, 36, 37, 38, 39, 40, 41, 42]) : frF [0, 16, 24, 25, 27, 28, 29, 30, 34, 35, 36, 37, 38, 39, 40, 41, 42] F H := fun j hj => by rw [f2 j (fun q => hj (h2 j q)), f1 j (fun q => hj (h1 j q))]
theorem frA_t {l1 l2 : List Nat} {F G H : Nat → Int → Int} (f1 : frA l1 F G) (f2 : frA l2 G H) (h1 : ∀ j, j ∈ l1 → j ∈ [8, 9, 10, 11, 12, 13, 14, 15, 16, 17, 18, 19, 20, 21, 22]) (h2 : ∀ j, j ∈ l2 → j ∈ [8, 9, 10, 11, 12, 13, 14, 15, 16, 17, 18, 19, 20, 21, 22]) : frA [8, 9, 10, 11, 12, 13, 14, 15, 16, 17, 18, 19, 20, 21, 22] F H := fun j hj => by rw [f2 j (fun q => hj (h2 j q)), f1 j (fun q => hj (h1 j q))]
/-- the best scan of a line that is laid -/
def bst9 (a : Int → Int) (F : Nat → Int) (A : Nat → Int → Int) (x y : Int) : Int × Int × Int × Int × Int := bN (a 0) (a 1) (a 2) F A (-1, 0, x, 0, y) (pls F A + 1).toNat
theorem bN_F {kd ft cs : Int} {F G : Nat → Int} {A : Nat → Int → Int} {b : Int × Int × Int × Int × Int} (e0 : G 16 = F 16) : ∀ k, bN kd ft cs G A b k = bN kd ft cs F A b k
  | 0 => rfl
  | k + 1 => by rw [bN, bN, bN_F e0 k, are_fr (F := F) (A := A) e0 rfl rfl rfl rfl, e0]
set_option maxRecDepth 100000 in
set_option maxHeartbeats 4000000 in
theorem c_X10_scansLine {Γ : GT} {h : XH} {F : Nat → Int} {A : Nat → Int → Int} (S : StA (A 1)) (N : LnA (A 1)) (E9 : ExA (A 1)) (h38 : F 38 = 0 ∨ F 38 = 1) {d l : Int} (hd : 0 ≤ d ∧ d ≤ 3) (hl : 0 ≤ l ∧ l < A 1 (5 + d)) : Ct Γ M_X10_scansLine [.ref (g_L Γ 0), .int (iN d), .int (iN l)] (mst Γ h F A) (fun r h9 => ∃ (F1 F2 : Nat → Int) (A1 A2 : Nat → Int → Int), r = none ∧ h9 = mst Γ h F2 A2 ∧ LD (A 1) d l F1 A1 ∧ frF [16, 24, 25, 27, 28, 29, 30, 34, 35, 36, 37, 38] F F2 ∧ frA [8, 9, 10, 11, 12, 13, 14, 15] A A1 ∧ frA [16, 17, 18] A1 A2 ∧ F2 16 = F1 16 ∧ F2 27 = A 1 0 ∧ F2 28 = A 1 1 ∧ F2 29 = A 1 2 ∧ bOk (bof F2) ∧ bof F2 = bst9 (A 1) F1 A1 (F 36) (F 38)) (fun _ _ => False) := by
  refine Ct.of rfl (by decide +kernel) (Nat.le_of_ble_eq_true rfl) ?_
  generalize hQF9 : QM Γ _ _ _ = QF9
  obtain ⟨s0, s1, s2, s3, s4, s5, s6⟩ := id S
  refine gg_aload_n dX10_scansLine_0 rfl rfl ?_
  refine gg_iload_n dX10_scansLine_1 rfl ?_
  refine gg_iload_n dX10_scansLine_2 rfl ?_
  refine gc_X10_294 rfl dX10_scansLine_3 ⟨(Nat.le_of_ble_eq_true rfl), (Nat.le_of_ble_eq_true rfl)⟩ ⟨(Nat.le_of_ble_eq_true rfl), (Nat.le_of_ble_eq_true rfl)⟩ (Nat.le_of_ble_eq_true rfl) (HAt.mu rfl) (c2_laysLine S N E9 hd hl) (fun _ _ w => w.elim) (fun r_3 h_3 hp => ?_)
  obtain ⟨F1, A1, rfl, rfl, hF, hA, hL⟩ := hp
  have g1 : A1 1 = A 1 := hA 1 (by decide)
  have g38 : F1 38 = F 38 := hF 38 (by decide)
  have g36 : F1 36 = F 36 := hF 36 (by decide)
  refine gg_aload_n dX10_scansLine_6 rfl rfl ?_
  refine gc_X10_297 rfl dX10_scansLine_7 ⟨(Nat.le_of_ble_eq_true rfl), (Nat.le_of_ble_eq_true rfl)⟩ ⟨(Nat.le_of_ble_eq_true rfl), (Nat.le_of_ble_eq_true rfl)⟩ (Nat.le_of_ble_eq_true rfl) (HAt.mu rfl) (c_X10_byNow) (fun _ _ w => w.elim) (fun r_7 h_7 hp => ?_)
  obtain ⟨rfl, rfl⟩ := hp
  rw [g1]
  refine gg_aload_n dX10_scansLine_10 rfl rfl ?_
  refine gc_X10_300 rfl dX10_scansLine_11 ⟨(Nat.le_of_ble_eq_true rfl), (Nat.le_of_ble_eq_true rfl)⟩ ⟨(Nat.le_of_ble_eq_true rfl), (Nat.le_of_ble_eq_true rfl)⟩ (Nat.le_of_ble_eq_true rfl) (HAt.mu rfl) (c_X10_finds (F := (uF (uF (uF F1 27 (A 1 0)) 28 (A 1 1)) 29 (A 1 2))) (A := A1) (by simp only [uF_s, uF_n, uF_ss, uF_cc, id_eq, ne_eq, not_false_eq_true, Nat.reduceEqDiff, Nat.reduceLT, reduceCtorEq]; exact s0) (by simp only [uF_s, uF_n, uF_ss, uF_cc, id_eq, ne_eq, not_false_eq_true, Nat.reduceEqDiff, Nat.reduceLT, reduceCtorEq]; exact s1) (by simp only [uF_s, uF_n, uF_ss, uF_cc, id_eq, ne_eq, not_false_eq_true, Nat.reduceEqDiff, Nat.reduceLT, reduceCtorEq]; exact s2) (LW_fr (by simp only [uF_s, uF_n, uF_ss, uF_cc, id_eq, ne_eq, not_false_eq_true, Nat.reduceEqDiff, Nat.reduceLT, reduceCtorEq]) rfl rfl rfl rfl rfl hL.1) (by simp only [uF_s, uF_n, uF_ss, uF_cc, id_eq, ne_eq, not_false_eq_true, Nat.reduceEqDiff, Nat.reduceLT, reduceCtorEq]; rw [g38]; exact h38)) (fun _ _ w => w.elim) (fun r_11 h_11 hp => ?_)
  obtain ⟨F2, A2, rfl, rfl, hF2, hA2, ok2, hb2⟩ := hp
  subst hQF9
  refine gg_vret dX10_scansLine_14 rfl ⟨(Nat.le_of_ble_eq_true rfl), (Nat.le_of_ble_eq_true rfl)⟩ ?_
  refine ⟨F1, F2, A1, A2, rfl, rfl, hL, ?_, hA, hA2, ?_, ?_, ?_, ?_, ok2, ?_⟩
  · intro j hj
    have q1 : j ∉ [30, 34, 35, 36, 37, 38] := fun q => hj (by revert q; simp; omega)
    have q2 : j ∉ [16, 24, 25] := fun q => hj (by revert q; simp; omega)
    have q3 : j ≠ 27 ∧ j ≠ 28 ∧ j ≠ 29 := by refine ⟨?_, ?_, ?_⟩ <;> (intro e; subst e; exact hj (by decide))
    rw [hF2 j q1, uF_n q3.2.2, uF_n q3.2.1, uF_n q3.1, hF j q2]
  · rw [hF2 16 (by decide)]; simp only [uF_s, uF_n, uF_ss, uF_cc, id_eq, ne_eq, not_false_eq_true, Nat.reduceEqDiff, Nat.reduceLT, reduceCtorEq]
  · rw [hF2 27 (by decide)]; simp only [uF_s, uF_n, uF_ss, uF_cc, id_eq, ne_eq, not_false_eq_true, Nat.reduceEqDiff, Nat.reduceLT, reduceCtorEq]
  · rw [hF2 28 (by decide)]; simp only [uF_s, uF_n, uF_ss, uF_cc, id_eq, ne_eq, not_false_eq_true, Nat.reduceEqDiff, Nat.reduceLT, reduceCtorEq]
  · rw [hF2 29 (by decide)]; simp only [uF_s, uF_n, uF_ss, uF_cc, id_eq, ne_eq, not_false_eq_true, Nat.reduceEqDiff, Nat.reduceLT, reduceCtorEq]
  · rw [hb2, bst9]; simp only [uF_s, uF_n, uF_ss, uF_cc, id_eq, ne_eq, not_false_eq_true, Nat.reduceEqDiff, Nat.reduceLT, reduceCtorEq]; rw [g36, g38, bN_F (F := F1) (by simp only [uF_s, uF_n, uF_ss, uF_cc, id_eq, ne_eq, not_false_eq_true, Nat.reduceEqDiff, Nat.reduceLT, reduceCtorEq]), pls_fr (F := F1) (A := A1) (by simp only [uF_s, uF_n, uF_ss, uF_cc, id_eq, ne_eq, not_false_eq_true, Nat.reduceEqDiff, Nat.reduceLT, reduceCtorEq]) rfl rfl rfl]
