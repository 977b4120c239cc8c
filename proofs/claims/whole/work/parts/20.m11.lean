/-! the reference: scans -/
theorem mkd_r {n k : Int} (hn : 1 ≤ n) (hk : 0 ≤ k ∧ k < n) : 0 ≤ mkd n k ∧ mkd n k ≤ 2 := by
  unfold mkd
  repeat' split
  all_goals omega
/-- the words of a line: where each begins in it, its length, whether a comma follows -/
def lnW (a : Int → Int) (d l : Int) : List (Int × Int × Bool) := (parseL (fun k => a (169 + 61 * (10 * d + l) + 1 + k)) (a (169 + 61 * (10 * d + l))) 12 0).2.2
theorem parseL_n {f : Int → Int} {n : Int} : ∀ {m : Nat} {p : Int}, (parseL f n m p).1 = true → 1 ≤ (parseL f n m p).2.2.length ∧ (parseL f n m p).2.2.length ≤ m
  | 0, p, hq => by cases hq
  | m + 1, p, hq => by
    rcases (parseL_ok hq).2.2 with ⟨-, h2⟩ | ⟨-, h1, h2⟩
    · rw [h2]; simp
    · rw [h2, List.length_cons]
      have := parseL_n h1
      omega
/-- a line that the reference has laid -/
def LD (a : Int → Int) (d l : Int) (F : Nat → Int) (A : Nat → Int → Int) : Prop := LW F A ∧ F 16 = ((lnW a d l).length : Int) ∧ ∀ (i : Nat) (pv lenv : Int) (cv : Bool), (lnW a d l)[i]? = some (pv, lenv, cv) → WDq a A i (169 + 61 * (10 * d + l) + 1 + pv) lenv cv
theorem LD_of {a : Int → Int} {d l : Int} {F : Nat → Int} {A : Nat → Int → Int} (S : StA a) (N : LnA a) (E9 : ExA a) (hd : 0 ≤ d ∧ d ≤ 3) (hl : 0 ≤ l ∧ l < a (5 + d)) (h1 : F 16 = ((lnW a d l).length : Int)) (h2 : ∀ (i : Nat) (pv lenv : Int) (cv : Bool), (lnW a d l)[i]? = some (pv, lenv, cv) → WDq a A i (169 + 61 * (10 * d + l) + 1 + pv) lenv cv) : LD a d l F A := by
  refine ⟨?_, h1, h2⟩
  obtain ⟨n1, n2, n3⟩ := N d l (by omega) (by omega) (by omega) (by omega)
  have hn := parseL_n n3
  change 1 ≤ (lnW a d l).length ∧ (lnW a d l).length ≤ 12 at hn
  refine ⟨by omega, fun k k0 k1 => ?_⟩
  obtain ⟨i, rfl⟩ := Int.eq_ofNat_of_zero_le k0
  have hi : i < (lnW a d l).length := by omega
  obtain ⟨⟨pv, lenv, cv⟩, hx⟩ : ∃ t, (lnW a d l)[i] = t := ⟨_, rfl⟩
  obtain ⟨w0, w1, w2, w3, w4, w5, w6, w7⟩ := h2 i pv lenv cv (by rw [List.getElem?_eq_getElem hi, hx])
  refine ⟨by rw [w3]; exact bi_01 _, by rw [w5]; exact bi_01 _, by rw [w4]; exact bi_01 _, by rw [w6]; exact w0, fun j j0 j1 => ?_⟩
  rw [w6] at j1
  rw [w7 j j0 j1]
  unfold mrk
  by_cases q : exO a a (169 + 61 * (10 * d + l) + 1 + pv) lenv < 0
  · rw [if_pos q]; exact mkd_r w0.1 ⟨j0, j1⟩
  · rw [if_neg q]
    rcases exO_r (a := a) (r := a) (fr := 169 + 61 * (10 * d + l) + 1 + pv) (n := lenv) S.2.2.2.2.1.1 with z | z
    · omega
    · rw [wSy, if_neg q] at j1
      exact (E9 _ z.1 z.2).2.2 j j0 j1
theorem c2_laysLine {Γ : GT} {h : XH} {F : Nat → Int} {A : Nat → Int → Int} (S : StA (A 1)) (N : LnA (A 1)) (E9 : ExA (A 1)) {d l : Int} (hd : 0 ≤ d ∧ d ≤ 3) (hl : 0 ≤ l ∧ l < A 1 (5 + d)) : Ct Γ M_X10_laysLine [.ref (g_L Γ 0), .int (iN d), .int (iN l)] (mst Γ h F A)
    (fun r h9 => ∃ (F1 : Nat → Int) (A1 : Nat → Int → Int), r = none ∧ h9 = mst Γ h F1 A1 ∧ frF [16, 24, 25] F F1 ∧ frA [8, 9, 10, 11, 12, 13, 14, 15] A A1 ∧ LD (A 1) d l F1 A1) (fun _ _ => False) :=
  Ct.mono (c_X10_laysLine S N E9 hd hl) (fun r h9 ⟨F1, A1, e1, e2, e3, e4, e5, e6⟩ => ⟨F1, A1, e1, e2, e3, e4, LD_of S N E9 hd hl e5 e6⟩) (fun _ _ q => q)
theorem LD_fr {a : Int → Int} {d l : Int} {F G : Nat → Int} {A : Nat → Int → Int} (e0 : G 16 = F 16) (q : LD a d l F A) : LD a d l G A := ⟨LW_fr e0 rfl rfl rfl rfl rfl q.1, by rw [e0]; exact q.2.1, q.2.2⟩
theorem frF_t {l1 l2 : List Nat} {F G H : Nat → Int} (f1 : frF l1 F G) (f2 : frF l2 G H) (h1 : ∀ j, j ∈ l1 → j ∈ [0, 16, 24, 25, 27, 28, 29, 30, 34, 35, 36, 37, 38, 39, 40, 41, 42]) (h2 : ∀ j, j ∈ l2 → j ∈ [0, 16, 24, 25, 27, 28, 29, 30, 34, 35, 36, 37, 38, 39, 40, 41, 42]) : frF [0, 16, 24, 25, 27, 28, 29, 30, 34, 35, 36, 37, 38, 39, 40, 41, 42] F H := fun j hj => by rw [f2 j (fun q => hj (h2 j q)), f1 j (fun q => hj (h1 j q))]
theorem frA_t {l1 l2 : List Nat} {F G H : Nat → Int → Int} (f1 : frA l1 F G) (f2 : frA l2 G H) (h1 : ∀ j, j ∈ l1 → j ∈ [8, 9, 10, 11, 12, 13, 14, 15, 16, 17, 18, 19, 20, 21, 22]) (h2 : ∀ j, j ∈ l2 → j ∈ [8, 9, 10, 11, 12, 13, 14, 15, 16, 17, 18, 19, 20, 21, 22]) : frA [8, 9, 10, 11, 12, 13, 14, 15, 16, 17, 18, 19, 20, 21, 22] F H := fun j hj => by rw [f2 j (fun q => hj (h2 j q)), f1 j (fun q => hj (h1 j q))]
/-- the best scan of a line that is laid -/
def bst9 (a : Int → Int) (F : Nat → Int) (A : Nat → Int → Int) (x y : Int) : Int × Int × Int × Int × Int := bN (a 0) (a 1) (a 2) F A (-1, 0, x, 0, y) (pls F A + 1).toNat
theorem bN_F {kd ft cs : Int} {F G : Nat → Int} {A : Nat → Int → Int} {b : Int × Int × Int × Int × Int} (e0 : G 16 = F 16) : ∀ k, bN kd ft cs G A b k = bN kd ft cs F A b k
  | 0 => rfl
  | k + 1 => by rw [bN, bN, bN_F e0 k, are_fr (F := F) (A := A) e0 rfl rfl rfl rfl, e0]
set_option maxRecDepth 100000 in
set_option maxHeartbeats 4000000 in
theorem c_X10_scansLine {Γ : GT} {h : XH} {F : Nat → Int} {A : Nat → Int → Int} (S : StA (A 1)) (N : LnA (A 1)) (E9 : ExA (A 1)) (h38 : F 38 = 0 ∨ F 38 = 1) {d l : Int} (hd : 0 ≤ d ∧ d ≤ 3) (hl : 0 ≤ l ∧ l < A 1 (5 + d)) : Ct Γ M_X10_scansLine [.ref (g_L Γ 0), .int (iN d), .int (iN l)] (mst Γ h F A) (fun r h9 => ∃ (F1 F2 : Nat → Int) (A1 A2 : Nat → Int → Int), r = none ∧ h9 = mst Γ h F2 A2 ∧ LD (A 1) d l F1 A1 ∧ frF [16, 24, 25, 27, 28, 29, 30, 34, 35, 36, 37, 38] F F2 ∧ frA [8, 9, 10, 11, 12, 13, 14, 15] A A1 ∧ frA [16, 17, 18] A1 A2 ∧ F2 16 = F1 16 ∧ F2 27 = A 1 0 ∧ F2 28 = A 1 1 ∧ F2 29 = A 1 2 ∧ bOk (bof F2) ∧ bof F2 = bst9 (A 1) F1 A1 (F 36) (F 38)) (fun _ _ => False) := by
  refine Ct.of rfl (by decide +kernel) (Nat.le_of_ble_eq_true rfl) ?_
  generalize hQF9 : QM Γ _ _ _ = QF9
  obtain ⟨s0, s1, s2, s3, s4, s5, s6⟩ := id S
  refine gg_aload_n dX10_scansLine_0 rfl rfl ?_
  refine gg_iload_n dX10_scansLine_1 rfl ?_
  refine gg_iload_n dX10_scansLine_2 rfl ?_
  refine gc_X10_294 rfl dX10_scansLine_3 ⟨(Nat.le_of_ble_eq_true rfl), (Nat.le_of_ble_eq_true rfl)⟩ ⟨(Nat.le_of_ble_eq_true rfl), (Nat.le_of_ble_eq_true rfl)⟩ (Nat.le_of_ble_eq_true rfl) (HAt.mu rfl) (c2_laysLine S N E9 hd hl) (fun _ _ w => w.elim) (fun r_3 h_3 hp => ?_)
  obtain ⟨F1, A1, rfl, rfl, hF, hA, hL⟩ := hp
  have g1 : A1 1 = A 1 := hA 1 (by decide)
  have g38 : F1 38 = F 38 := hF 38 (by decide)
  have g36 : F1 36 = F 36 := hF 36 (by decide)
  refine gg_aload_n dX10_scansLine_6 rfl rfl ?_
  refine gc_X10_297 rfl dX10_scansLine_7 ⟨(Nat.le_of_ble_eq_true rfl), (Nat.le_of_ble_eq_true rfl)⟩ ⟨(Nat.le_of_ble_eq_true rfl), (Nat.le_of_ble_eq_true rfl)⟩ (Nat.le_of_ble_eq_true rfl) (HAt.mu rfl) (c_X10_byNow) (fun _ _ w => w.elim) (fun r_7 h_7 hp => ?_)
  obtain ⟨rfl, rfl⟩ := hp
  rw [g1]
  refine gg_aload_n dX10_scansLine_10 rfl rfl ?_
  refine gc_X10_300 rfl dX10_scansLine_11 ⟨(Nat.le_of_ble_eq_true rfl), (Nat.le_of_ble_eq_true rfl)⟩ ⟨(Nat.le_of_ble_eq_true rfl), (Nat.le_of_ble_eq_true rfl)⟩ (Nat.le_of_ble_eq_true rfl) (HAt.mu rfl) (c_X10_finds (F := (uF (uF (uF F1 27 (A 1 0)) 28 (A 1 1)) 29 (A 1 2))) (A := A1) (by simp only [uF_s, uF_n, uF_ss, uF_cc, id_eq, ne_eq, not_false_eq_true, Nat.reduceEqDiff, Nat.reduceLT, reduceCtorEq]; exact s0) (by simp only [uF_s, uF_n, uF_ss, uF_cc, id_eq, ne_eq, not_false_eq_true, Nat.reduceEqDiff, Nat.reduceLT, reduceCtorEq]; exact s1) (by simp only [uF_s, uF_n, uF_ss, uF_cc, id_eq, ne_eq, not_false_eq_true, Nat.reduceEqDiff, Nat.reduceLT, reduceCtorEq]; exact s2) (LW_fr (by simp only [uF_s, uF_n, uF_ss, uF_cc, id_eq, ne_eq, not_false_eq_true, Nat.reduceEqDiff, Nat.reduceLT, reduceCtorEq]) rfl rfl rfl rfl rfl hL.1) (by simp only [uF_s, uF_n, uF_ss, uF_cc, id_eq, ne_eq, not_false_eq_true, Nat.reduceEqDiff, Nat.reduceLT, reduceCtorEq]; rw [g38]; exact h38)) (fun _ _ w => w.elim) (fun r_11 h_11 hp => ?_)
  obtain ⟨F2, A2, rfl, rfl, hF2, hA2, ok2, hb2⟩ := hp
  subst hQF9
  refine gg_vret dX10_scansLine_14 rfl ⟨(Nat.le_of_ble_eq_true rfl), (Nat.le_of_ble_eq_true rfl)⟩ ?_
  refine ⟨F1, F2, A1, A2, rfl, rfl, hL, ?_, hA, hA2, ?_, ?_, ?_, ?_, ok2, ?_⟩
  · intro j hj
    have q1 : j ∉ [30, 34, 35, 36, 37, 38] := fun q => hj (by revert q; simp; omega)
    have q2 : j ∉ [16, 24, 25] := fun q => hj (by revert q; simp; omega)
    have q3 : j ≠ 27 ∧ j ≠ 28 ∧ j ≠ 29 := by refine ⟨?_, ?_, ?_⟩ <;> (intro e; subst e; exact hj (by decide))
    rw [hF2 j q1, uF_n q3.2.2, uF_n q3.2.1, uF_n q3.1, hF j q2]
  · rw [hF2 16 (by decide)]; simp only [uF_s, uF_n, uF_ss, uF_cc, id_eq, ne_eq, not_false_eq_true, Nat.reduceEqDiff, Nat.reduceLT, reduceCtorEq]
  · rw [hF2 27 (by decide)]; simp only [uF_s, uF_n, uF_ss, uF_cc, id_eq, ne_eq, not_false_eq_true, Nat.reduceEqDiff, Nat.reduceLT, reduceCtorEq]
  · rw [hF2 28 (by decide)]; simp only [uF_s, uF_n, uF_ss, uF_cc, id_eq, ne_eq, not_false_eq_true, Nat.reduceEqDiff, Nat.reduceLT, reduceCtorEq]
  · rw [hF2 29 (by decide)]; simp only [uF_s, uF_n, uF_ss, uF_cc, id_eq, ne_eq, not_false_eq_true, Nat.reduceEqDiff, Nat.reduceLT, reduceCtorEq]
  · rw [hb2, bst9]; simp only [uF_s, uF_n, uF_ss, uF_cc, id_eq, ne_eq, not_false_eq_true, Nat.reduceEqDiff, Nat.reduceLT, reduceCtorEq]; rw [g36, g38, bN_F (F := F1) (by simp only [uF_s, uF_n, uF_ss, uF_cc, id_eq, ne_eq, not_false_eq_true, Nat.reduceEqDiff, Nat.reduceLT, reduceCtorEq]), pls_fr (F := F1) (A := A1) (by simp only [uF_s, uF_n, uF_ss, uF_cc, id_eq, ne_eq, not_false_eq_true, Nat.reduceEqDiff, Nat.reduceLT, reduceCtorEq]) rfl rfl rfl]
theorem frF_z {l1 : List Nat} {F G : Nat → Int} {x : Int} (f1 : frF l1 (uF F 0 x) G) (h1 : ∀ j, j ∈ l1 → j ∈ [0, 16, 24, 25, 27, 28, 29, 30, 34, 35, 36, 37, 38, 39, 40, 41, 42]) : frF [0, 16, 24, 25, 27, 28, 29, 30, 34, 35, 36, 37, 38, 39, 40, 41, 42] F G := fun j hj => by rw [f1 j (fun q => hj (h1 j q)), uF_n (fun e => hj (by rw [e]; decide))]
theorem frA_w {l1 : List Nat} {F G : Nat → Int → Int} (f1 : frA l1 F G) (h1 : ∀ j, j ∈ l1 → j ∈ [8, 9, 10, 11, 12, 13, 14, 15, 16, 17, 18, 19, 20, 21, 22]) : frA [8, 9, 10, 11, 12, 13, 14, 15, 16, 17, 18, 19, 20, 21, 22] F G := fun j hj => f1 j (fun q => hj (h1 j q))
theorem are_r {F : Nat → Int} {A : Nat → Int → Int} {z : Int} (hw : F 16 ≤ 12) (hq : are F A z = true) : 0 ≤ z ∧ z ≤ pls F A ∧ z ≤ 4095 := by
  have h1 := pls_r (F := F) (A := A) hw
  unfold are at hq
  rw [Bool.and_eq_true] at hq
  have := sbm_r h1 hq.1
  omega
def wnC (kd : Int) (m : Int → Int) (i : Int) : Nat → Int
  | 0 => 0
  | k + 1 => if pnl kd m k i = 0 then wnC kd m i k else wnC kd m i k + 1
def wfF (kd : Int) (m : Int → Int) (i : Int) : Nat → Int
  | 0 => -1
  | k + 1 => if wfF kd m i k < 0 ∧ pnl kd m k i ≠ 0 then k / szk kd else wfF kd m i k
theorem wfF_s {kd : Int} {m : Int → Int} {i : Int} {k : Nat} (h0 : 0 ≤ wfF kd m i k) : ∀ n, k ≤ n → wfF kd m i n = wfF kd m i k
  | 0, hn => by rw [show k = 0 by omega]
  | n + 1, hn => by
    by_cases e : k = n + 1
    · rw [e]
    · have := wfF_s h0 n (by omega)
      rw [wfF, if_neg (by omega), this]
def wro (kd : Int) (m : Int → Int) (i fo : Int) (n : Nat) : Int := if fo = 0 then wnC kd m i n else wfF kd m i n
theorem wnC_cg {kd i : Int} {m n : Int → Int} : ∀ k : Nat, (∀ p : Int, 0 ≤ p → p < k → m p = n p) → wnC kd m i k = wnC kd n i k
  | 0, _ => rfl
  | k + 1, hq => by rw [wnC, wnC, wnC_cg k (fun p p0 p1 => hq p p0 (by omega)), pnl, pnl, hq k (by omega) (by omega)]
theorem wfF_cg {kd i : Int} {m n : Int → Int} : ∀ k : Nat, (∀ p : Int, 0 ≤ p → p < k → m p = n p) → wfF kd m i k = wfF kd n i k
  | 0, _ => rfl
  | k + 1, hq => by rw [wfF, wfF, wfF_cg k (fun p p0 p1 => hq p p0 (by omega)), pnl, pnl, hq k (by omega) (by omega)]
theorem wro_cg {kd i fo : Int} {m n : Int → Int} {k : Nat} (hq : ∀ p : Int, 0 ≤ p → p < k → m p = n p) : wro kd m i fo k = wro kd n i fo k := by
  unfold wro; rw [wnC_cg k hq, wfF_cg k hq]
theorem ally_fr {A B : Nat → Int → Int} (e : B 10 = A 10) : ∀ k, ally B k = ally A k
  | 0 => rfl
  | k + 1 => by rw [ally, ally, ally_fr e k, e]
theorem ally_r {F : Nat → Int} {A : Nat → Int → Int} (L9 : LW F A) : ∀ k : Nat, (k : Int) ≤ F 16 → (k : Int) ≤ ally A k ∧ ally A k ≤ 12 * k
  | 0, _ => by simp [ally]
  | k + 1, hk => by
    have := ally_r L9 k (by omega)
    obtain ⟨k1, k2, k3, k4, k5⟩ := L9.2 k (by omega) (by omega)
    rw [ally]; omega
theorem mEl_fr {F G : Nat → Int} {A B : Nat → Int → Int} (e0 : G 16 = F 16) (e1 : B 10 = A 10) (e2 : B 12 = A 12) (e3 : B 13 = A 13) (e4 : B 14 = A 14) : ∀ (n : Nat) (z acc : Int), mEl G B n z acc = mEl F A n z acc
  | 0, z, acc => rfl
  | n + 1, z, acc => by rw [mEl, mEl, pls_fr e0 e2 e3 e4, are_fr e0 e1 e2 e3 e4, mEl_fr e0 e1 e2 e3 e4 n]
theorem mst_fr {F G : Nat → Int} {A B : Nat → Int → Int} (e0 : G 16 = F 16) (e1 : B 10 = A 10) (e2 : B 12 = A 12) (e3 : B 13 = A 13) (e4 : B 14 = A 14) : mst9 G B = mst9 F A := by
  unfold mst9; rw [mEl_fr e0 e1 e2 e3 e4, pls_fr e0 e2 e3 e4]
theorem mEl_r (F : Nat → Int) (A : Nat → Int → Int) : ∀ (n : Nat) (z acc : Int), 0 ≤ acc ∧ acc ≤ 12 → 0 ≤ mEl F A n z acc ∧ mEl F A n z acc ≤ 12
  | 0, z, acc, h => h
  | n + 1, z, acc, h => by
    rw [mEl]
    by_cases q : z ≤ 0
    · rw [if_pos q]; exact h
    · rw [if_neg q]
      refine mEl_r F A n _ _ ?_
      have := btc_r (z := z) (by omega) 12
      split <;> omega
theorem mst_r (F : Nat → Int) (A : Nat → Int → Int) : 0 ≤ mst9 F A ∧ mst9 F A ≤ 12 := mEl_r F A _ _ _ (by omega)
/-- why a line is not well scanned -/
def rsn (a : Int → Int) (F : Nat → Int) (A : Nat → Int → Int) (b : Int) : Int :=
  if 0 ≤ b then (if b ≤ a 3 then 0 else 4)
  else if ally A (F 16).toNat < a 1 * szk (a 0) - (if strK (a 0) (a 1 * szk (a 0) - 1) 0 = true then 0 else 1) then 1
  else if a 1 * szk (a 0) + 1 < ally A (F 16).toNat - mst9 F A then 2 else 3
set_option maxRecDepth 100000 in
set_option maxHeartbeats 4000000 in
theorem c_X10_cost {Γ : GT} {h : XH} {F : Nat → Int} {A : Nat → Int → Int} (S : StA (A 1)) (N : LnA (A 1)) (E9 : ExA (A 1)) {d l : Int} (hd : InR d) (hl : InR l) {z i : Int} (hz : InR z) (hi : i = 0 ∨ i = 1) : Ct Γ M_X10_cost [.ref (g_L Γ 0), .int (iN d), .int (iN l), .int (iN z), .int (iN i)] (mst Γ h F A) (fun r h9 => (¬ (0 ≤ d ∧ d ≤ 3 ∧ 0 ≤ l ∧ l < A 1 (5 + d)) ∧ r = some (.int (iN 0)) ∧ h9 = mst Γ h (uF F 0 1) A) ∨ ((0 ≤ d ∧ d ≤ 3 ∧ 0 ≤ l ∧ l < A 1 (5 + d)) ∧ ∃ (F1 F2 : Nat → Int) (A1 A2 : Nat → Int → Int), h9 = mst Γ h F2 A2 ∧ frF [0, 16, 24, 25, 27, 28, 29, 30, 34, 35, 36, 37, 38, 39, 40, 41, 42] F F2 ∧ frA [8, 9, 10, 11, 12, 13, 14, 15, 16, 17, 18, 19, 20, 21, 22] A A2 ∧ LD (A 1) d l F1 A1 ∧ ((are F1 A1 z = false ∧ r = some (.int (iN (0))) ∧ F2 0 = 2) ∨ (are F1 A1 z = true ∧ cst (A 1 0) (A 1 1) (A 1 2) (sA A1 z (s0 A1) (F1 16).toNat) z i < 0 ∧ r = some (.int (iN (0))) ∧ F2 0 = 3) ∨ (are F1 A1 z = true ∧ 0 ≤ cst (A 1 0) (A 1 1) (A 1 2) (sA A1 z (s0 A1) (F1 16).toNat) z i ∧ r = some (.int (iN (cst (A 1 0) (A 1 1) (A 1 2) (sA A1 z (s0 A1) (F1 16).toNat) z i))) ∧ F2 0 = 0)))) (fun _ _ => False) := by
  refine Ct.of rfl (by decide +kernel) (Nat.le_of_ble_eq_true rfl) ?_
  generalize hQF9 : QM Γ _ _ _ = QF9
  obtain ⟨t0, t1, t2, t3, t4, t5, t6⟩ := id S
  refine gg_aload_n dX10_cost_0 rfl rfl ?_
  refine gi_iconst dX10_cost_1 ?_
  refine gm_put3 rfl dX10_cost_2 (by (try simp only [uF_ss, uF_cc, id_eq, Nat.reduceLT, reduceCtorEq]); rfl) ?_
  refine gg_aload_n dX10_cost_5 rfl rfl ?_
  refine gg_iload_n dX10_cost_6 rfl ?_
  refine gg_iload_n dX10_cost_7 rfl ?_
  refine gc_X10_234 rfl dX10_cost_8 ⟨(Nat.le_of_ble_eq_true rfl), (Nat.le_of_ble_eq_true rfl)⟩ ⟨(Nat.le_of_ble_eq_true rfl), (Nat.le_of_ble_eq_true rfl)⟩ (Nat.le_of_ble_eq_true rfl) (HAt.mu rfl) (c_X10_isLine (by exact S) (by assumption) (by assumption)) (fun _ _ w => w.elim) (fun r_8 h_8 hp => ?_)
  obtain ⟨rfl, rfl⟩ := hp
  refine gi_if_ne (tgt := 20) dX10_cost_11 (by decide) (bi_r _) (fun c_11 => ?_) (fun c_11 => ?_)
  · rw [bi_t] at c_11
    simp at c_11
    refine gg_aload_n dX10_cost_20 rfl rfl ?_
    refine gg_iload_n dX10_cost_21 rfl ?_
    refine gg_iload_n dX10_cost_22 rfl ?_
    refine gc_X10_294 rfl dX10_cost_23 ⟨(Nat.le_of_ble_eq_true rfl), (Nat.le_of_ble_eq_true rfl)⟩ ⟨(Nat.le_of_ble_eq_true rfl), (Nat.le_of_ble_eq_true rfl)⟩ (Nat.le_of_ble_eq_true rfl) (HAt.mu rfl) (c2_laysLine S N E9 ⟨by omega, by omega⟩ ⟨by omega, by omega⟩) (fun _ _ w => w.elim) (fun r_23 h_23 hp => ?_)
    obtain ⟨F1, A1, rfl, rfl, hF, hA, hL⟩ := hp
    have g1 : A1 1 = A 1 := hA 1 (by decide)
    refine gg_aload_n dX10_cost_26 rfl rfl ?_
    refine gg_iload_n dX10_cost_27 rfl ?_
    refine gc_X10_261 rfl dX10_cost_28 ⟨(Nat.le_of_ble_eq_true rfl), (Nat.le_of_ble_eq_true rfl)⟩ ⟨(Nat.le_of_ble_eq_true rfl), (Nat.le_of_ble_eq_true rfl)⟩ (Nat.le_of_ble_eq_true rfl) (HAt.mu rfl) (c_X10_areElisions hL.1 hz) (fun _ _ w => w.elim) (fun r_28 h_28 hp => ?_)
    obtain ⟨rfl, rfl⟩ := hp
    refine gi_if_ne (tgt := 40) dX10_cost_31 (by decide) (bi_r _) (fun c_31 => ?_) (fun c_31 => ?_)
    · rw [bi_t] at c_31
      have hzr := are_r hL.1.1.2 c_31
      refine gg_aload_n dX10_cost_40 rfl rfl ?_
      refine gc_X10_297 rfl dX10_cost_41 ⟨(Nat.le_of_ble_eq_true rfl), (Nat.le_of_ble_eq_true rfl)⟩ ⟨(Nat.le_of_ble_eq_true rfl), (Nat.le_of_ble_eq_true rfl)⟩ (Nat.le_of_ble_eq_true rfl) (HAt.mu rfl) (c_X10_byNow) (fun _ _ w => w.elim) (fun r_41 h_41 hp => ?_)
      obtain ⟨rfl, rfl⟩ := hp
      rw [g1]
      refine gg_aload_n dX10_cost_44 rfl rfl ?_
      refine gg_iload_n dX10_cost_45 rfl ?_
      refine gc_X10_287 rfl dX10_cost_46 ⟨(Nat.le_of_ble_eq_true rfl), (Nat.le_of_ble_eq_true rfl)⟩ ⟨(Nat.le_of_ble_eq_true rfl), (Nat.le_of_ble_eq_true rfl)⟩ (Nat.le_of_ble_eq_true rfl) (HAt.mu rfl) (c_X10_laysSounds (F := (uF (uF (uF F1 27 (A 1 0)) 28 (A 1 1)) 29 (A 1 2))) (A := A1) (LW_fr (by simp only [uF_s, uF_n, uF_ss, uF_cc, id_eq, ne_eq, not_false_eq_true, Nat.reduceEqDiff, Nat.reduceLT, reduceCtorEq]) rfl rfl rfl rfl rfl hL.1) ⟨by omega, by omega⟩) (fun _ _ w => w.elim) (fun r_46 h_46 hp => ?_)
      obtain ⟨rfl, rfl⟩ := hp
      have e16 : (uF (uF (uF F1 27 (A 1 0)) 28 (A 1 1)) 29 (A 1 2)) 16 = F1 16 := by simp only [uF_s, uF_n, uF_ss, uF_cc, id_eq, ne_eq, not_false_eq_true, Nat.reduceEqDiff, Nat.reduceLT, reduceCtorEq]
      rw [e16]
      have hsk : sOk (sA A1 z (s0 A1) (F1 16).toNat) 144 := sOk_m (by have := hL.1.1; omega) (sA_ok (A := A1) (z := z) (s := s0 A1) hL.1 rfl (F1 16).toNat (by have := hL.1.1; omega))
      obtain ⟨s8, hs8⟩ : ∃ s8, s8 = sA A1 z (s0 A1) (F1 16).toNat := ⟨_, rfl⟩
      rw [← hs8] at hsk ⊢
      refine gg_aload_n dX10_cost_49 rfl rfl ?_
      refine gg_iload_n dX10_cost_50 rfl ?_
      refine gg_iload dX10_cost_51 rfl ?_
      refine gc_X10_284 rfl dX10_cost_53 ⟨(Nat.le_of_ble_eq_true rfl), (Nat.le_of_ble_eq_true rfl)⟩ ⟨(Nat.le_of_ble_eq_true rfl), (Nat.le_of_ble_eq_true rfl)⟩ (Nat.le_of_ble_eq_true rfl) (HAt.mu rfl) (c_X10_costOf (by simp only [uF_s, uF_n, uF_ss, uF_cc, id_eq, ne_eq, not_false_eq_true, Nat.reduceEqDiff, Nat.reduceLT, reduceCtorEq]; exact t0) (by simp only [uF_s, uF_n, uF_ss, uF_cc, id_eq, ne_eq, not_false_eq_true, Nat.reduceEqDiff, Nat.reduceLT, reduceCtorEq]; exact t1) (by simp only [uF_s, uF_n, uF_ss, uF_cc, id_eq, ne_eq, not_false_eq_true, Nat.reduceEqDiff, Nat.reduceLT, reduceCtorEq]; exact t2) (by simp only [uF_s, uF_n, uF_ss, uF_cc, id_eq, ne_eq, not_false_eq_true, Nat.reduceEqDiff, Nat.reduceLT, reduceCtorEq, uA_s, uA_n, uA_ss, uA_cc, id_eq, ne_eq, not_false_eq_true, Nat.reduceEqDiff, Nat.reduceLT, reduceCtorEq]; exact hsk) ⟨by omega, by omega⟩ hi) (fun _ _ w => w.elim) (fun r_53 h_53 hp => ?_)
      obtain ⟨rfl, rfl⟩ := hp
      simp only [uF_s, uF_n, uF_ss, uF_cc, id_eq, ne_eq, not_false_eq_true, Nat.reduceEqDiff, Nat.reduceLT, reduceCtorEq, uA_s, uA_n, uA_ss, uA_cc, id_eq, ne_eq, not_false_eq_true, Nat.reduceEqDiff, Nat.reduceLT, reduceCtorEq]
      have hcr := cst_r (kd := A 1 0) (s := s8) (z := z) (i := i) t1 t2 (by omega)
      obtain ⟨c9, hc9⟩ : ∃ c9, c9 = cst (A 1 0) (A 1 1) (A 1 2) s8 z i := ⟨_, rfl⟩
      change GG Γ _ _ _ _ _ _ (.int (iN (cst (A 1 0) (A 1 1) (A 1 2) s8 z i)) :: _)
      rw [← hc9] at hcr ⊢
      refine gg_istore dX10_cost_56 (Nat.le_of_ble_eq_true rfl) rfl ?_
      refine gg_iload dX10_cost_58 rfl ?_
      refine gi_if_ge (tgt := 71) dX10_cost_60 (by decide) ⟨by omega, by omega⟩ (fun c_60 => ?_) (fun c_60 => ?_)
      · refine gg_iload dX10_cost_71 rfl ?_
        subst hQF9
        refine gg_iret dX10_cost_73 rfl rfl ⟨(Nat.le_of_ble_eq_true rfl), (Nat.le_of_ble_eq_true rfl)⟩ ?_
        subst hs8
        refine Or.inr ⟨by omega, F1, _, A1, _, rfl, ?_, ?_, hL, Or.inr (Or.inr ⟨c_31, by rw [← hc9]; omega, by rw [← hc9], ?_⟩)⟩
        · exact frF_u (frF_u (frF_u (frF_u (frF_z hF (by decide)) (by decide)) (by decide)) (by decide)) (by decide)
        · exact frA_u (frA_u (frA_u (frA_w hA (by decide)) (by decide)) (by decide)) (by decide)
        · simp only [uF_s, uF_n, uF_ss, uF_cc, id_eq, ne_eq, not_false_eq_true, Nat.reduceEqDiff, Nat.reduceLT, reduceCtorEq, uA_s, uA_n, uA_ss, uA_cc, id_eq, ne_eq, not_false_eq_true, Nat.reduceEqDiff, Nat.reduceLT, reduceCtorEq]; rw [hF 0 (by decide), uF_s]
      · refine gg_aload_n dX10_cost_63 rfl rfl ?_
        refine gi_iconst dX10_cost_64 ?_
        refine gc_X10_162 rfl dX10_cost_65 ⟨(Nat.le_of_ble_eq_true rfl), (Nat.le_of_ble_eq_true rfl)⟩ ⟨(Nat.le_of_ble_eq_true rfl), (Nat.le_of_ble_eq_true rfl)⟩ (Nat.le_of_ble_eq_true rfl) (HAt.mu rfl) (c_X10_fails) (fun _ _ w => w.elim) (fun r_65 h_65 hp => ?_)
        obtain ⟨rfl, rfl⟩ := hp
        refine gg_goto (tgt := 73) dX10_cost_68 (by decide) ?_
        subst hQF9
        refine gg_iret dX10_cost_73 rfl rfl ⟨(Nat.le_of_ble_eq_true rfl), (Nat.le_of_ble_eq_true rfl)⟩ ?_
        subst hs8
        refine Or.inr ⟨by omega, F1, _, A1, _, rfl, ?_, ?_, hL, Or.inr (Or.inl ⟨c_31, by rw [← hc9]; omega, rfl, uF_s⟩)⟩
        · exact frF_u (frF_u (frF_u (frF_u (frF_u (frF_z hF (by decide)) (by decide)) (by decide)) (by decide)) (by decide)) (by decide)
        · exact frA_u (frA_u (frA_u (frA_w hA (by decide)) (by decide)) (by decide)) (by decide)
    · rw [bi_f] at c_31
      refine gg_aload_n dX10_cost_34 rfl rfl ?_
      refine gi_iconst dX10_cost_35 ?_
      refine gc_X10_162 rfl dX10_cost_36 ⟨(Nat.le_of_ble_eq_true rfl), (Nat.le_of_ble_eq_true rfl)⟩ ⟨(Nat.le_of_ble_eq_true rfl), (Nat.le_of_ble_eq_true rfl)⟩ (Nat.le_of_ble_eq_true rfl) (HAt.mu rfl) (c_X10_fails) (fun _ _ w => w.elim) (fun r_36 h_36 hp => ?_)
      obtain ⟨rfl, rfl⟩ := hp
      subst hQF9
      refine gg_iret dX10_cost_39 rfl rfl ⟨(Nat.le_of_ble_eq_true rfl), (Nat.le_of_ble_eq_true rfl)⟩ ?_
      refine Or.inr ⟨by omega, F1, uF F1 0 2, A1, A1, rfl, frF_u (frF_z hF (by decide)) (by decide), frA_w hA (by decide), hL, Or.inl ⟨c_31, rfl, uF_s⟩⟩
  · rw [bi_f] at c_11
    simp at c_11
    refine gg_aload_n dX10_cost_14 rfl rfl ?_
    refine gi_iconst dX10_cost_15 ?_
    refine gc_X10_162 rfl dX10_cost_16 ⟨(Nat.le_of_ble_eq_true rfl), (Nat.le_of_ble_eq_true rfl)⟩ ⟨(Nat.le_of_ble_eq_true rfl), (Nat.le_of_ble_eq_true rfl)⟩ (Nat.le_of_ble_eq_true rfl) (HAt.mu rfl) (c_X10_fails) (fun _ _ w => w.elim) (fun r_16 h_16 hp => ?_)
    obtain ⟨rfl, rfl⟩ := hp
    subst hQF9
    refine gg_iret dX10_cost_19 rfl rfl ⟨(Nat.le_of_ble_eq_true rfl), (Nat.le_of_ble_eq_true rfl)⟩ ?_
    exact Or.inl ⟨by omega, rfl, by rw [uF_ss]⟩
set_option maxRecDepth 100000 in
set_option maxHeartbeats 4000000 in
theorem c_X10_wrongOnes {Γ : GT} {h : XH} {F : Nat → Int} {A : Nat → Int → Int} (k9 : 0 ≤ F 27 ∧ F 27 ≤ 3) (f9 : 2 ≤ F 28 ∧ F 28 ≤ 6) (L9 : LW F A) (h35 : 0 ≤ F 35 ∧ F 35 ≤ 4095) (h38 : F 38 = 0 ∨ F 38 = 1) {fo : Int} (hfo : fo = 0 ∨ fo = 1) : Ct Γ M_X10_wrongOnes [.ref (g_L Γ 0), .int (iN fo)] (mst Γ h F A) (fun r h9 => r = some (.int (iN (wro (F 27) (sA A (F 35) (s0 A) (F 16).toNat).2.1 (F 38) fo (min (F 28 * szk (F 27)) ((sA A (F 35) (s0 A) (F 16).toNat)).1).toNat))) ∧ h9 = mst Γ h (uF F 30 (sA A (F 35) (s0 A) (F 16).toNat).1) (uA (uA (uA A 16 (sA A (F 35) (s0 A) (F 16).toNat).2.1) 17 (sA A (F 35) (s0 A) (F 16).toNat).2.2.1) 18 (sA A (F 35) (s0 A) (F 16).toNat).2.2.2)) (fun _ _ => False) := by
  refine Ct.of rfl (by decide +kernel) (Nat.le_of_ble_eq_true rfl) ?_
  generalize hQF9 : QM Γ _ _ _ = QF9
  obtain ⟨l1, l2⟩ := id L9
  have hz9 := szk_r (F 27)
  have hps : 4 ≤ F 28 * szk (F 27) ∧ F 28 * szk (F 27) ≤ 18 := by rcases hz9 with q | q <;> rw [q] <;> omega
  refine gg_aload_n dX10_wrongOnes_0 rfl rfl ?_
  refine gg_aload_n dX10_wrongOnes_1 rfl rfl ?_
  refine gm_get118 rfl dX10_wrongOnes_2 (by (try simp only [uF_s, uF_n, ne_eq, not_false_eq_true, Nat.reduceEqDiff, reduceCtorEq]); rfl) ?_
  refine gc_X10_287 rfl dX10_wrongOnes_5 ⟨(Nat.le_of_ble_eq_true rfl), (Nat.le_of_ble_eq_true rfl)⟩ ⟨(Nat.le_of_ble_eq_true rfl), (Nat.le_of_ble_eq_true rfl)⟩ (Nat.le_of_ble_eq_true rfl) (HAt.mu rfl) (c_X10_laysSounds L9 h35) (fun _ _ w => w.elim) (fun r_5 h_5 hp => ?_)
  obtain ⟨rfl, rfl⟩ := hp
  have hsk : sOk (sA A (F 35) (s0 A) (F 16).toNat) 144 := sOk_m (by omega) (sA_ok (A := A) (z := F 35) (s := s0 A) L9 rfl (F 16).toNat (by omega))
  obtain ⟨s8, hs8⟩ : ∃ s8, s8 = sA A (F 35) (s0 A) (F 16).toNat := ⟨_, rfl⟩
  rw [← hs8] at hsk ⊢
  obtain ⟨⟨n1, n2⟩, n3⟩ := id hsk
  refine gi_iconst dX10_wrongOnes_8 ?_
  refine gg_istore_n dX10_wrongOnes_9 (Nat.le_of_ble_eq_true rfl) rfl ?_
  refine gi_iconst dX10_wrongOnes_10 ?_
  refine gg_istore_n dX10_wrongOnes_11 (Nat.le_of_ble_eq_true rfl) rfl ?_
  have L_12 : ∀ (n9 : Nat) (p : Int), ((F 28 * szk (F 27) - p).toNat) = n9 → ∀ (hp9 : 0 ≤ p ∧ p ≤ F 28 * szk (F 27) ∧ p ≤ s8.1) (hw : fo ≠ 0 → wfF (F 27) s8.2.1 (F 38) p.toNat = -1), GG Γ M_X10_wrongOnes QF9 (0, 0) (mst Γ h (uF F 30 s8.1) (uA (uA (uA A 16 s8.2.1) 17 s8.2.2.1) 18 s8.2.2.2)) 12 [some (.ref (g_L Γ 0)), some (.int (iN fo)), some (.int (iN (if fo = 0 then wnC (F 27) s8.2.1 (F 38) p.toNat else 0))), some (.int (iN p))] [] := by
    intro n9
    induction n9 using Nat.strongRecOn with
    | ind n9 ih_12 => 
      intro p hm9 hp9 hw
      refine gg_iload_n dX10_wrongOnes_12 rfl ?_
      refine gg_aload_n dX10_wrongOnes_13 rfl rfl ?_
      refine gc_X10_277 rfl dX10_wrongOnes_14 ⟨(Nat.le_of_ble_eq_true rfl), (Nat.le_of_ble_eq_true rfl)⟩ ⟨(Nat.le_of_ble_eq_true rfl), (Nat.le_of_ble_eq_true rfl)⟩ (Nat.le_of_ble_eq_true rfl) (HAt.mu rfl) (c_X10_positions (by simp only [uF_s, uF_n, uF_ss, uF_cc, id_eq, ne_eq, not_false_eq_true, Nat.reduceEqDiff, Nat.reduceLT, reduceCtorEq, uA_s, uA_n, uA_ss, uA_cc, id_eq, ne_eq, not_false_eq_true, Nat.reduceEqDiff, Nat.reduceLT, reduceCtorEq]; exact k9) (by simp only [uF_s, uF_n, uF_ss, uF_cc, id_eq, ne_eq, not_false_eq_true, Nat.reduceEqDiff, Nat.reduceLT, reduceCtorEq, uA_s, uA_n, uA_ss, uA_cc, id_eq, ne_eq, not_false_eq_true, Nat.reduceEqDiff, Nat.reduceLT, reduceCtorEq]; exact f9)) (fun _ _ w => w.elim) (fun r_14 h_14 hp => ?_)
      obtain ⟨rfl, rfl⟩ := hp
      simp only [uF_s, uF_n, uF_ss, uF_cc, id_eq, ne_eq, not_false_eq_true, Nat.reduceEqDiff, Nat.reduceLT, reduceCtorEq, uA_s, uA_n, uA_ss, uA_cc, id_eq, ne_eq, not_false_eq_true, Nat.reduceEqDiff, Nat.reduceLT, reduceCtorEq]
      refine gi_icmp_ge (tgt := 66) dX10_wrongOnes_17 (by decide) ⟨by omega, by omega⟩ ⟨by omega, by omega⟩ (fun c_17 => ?_) (fun c_17 => ?_)
      · refine gg_iload_n dX10_wrongOnes_66 rfl ?_
        refine gi_if_eq (tgt := 74) dX10_wrongOnes_67 (by decide) ⟨by omega, by omega⟩ (fun c_67 => ?_) (fun c_67 => ?_)
        · refine gg_iload_n dX10_wrongOnes_74 rfl ?_
          subst hQF9
          refine gg_iret dX10_wrongOnes_75 rfl rfl ⟨(Nat.le_of_ble_eq_true rfl), (Nat.le_of_ble_eq_true rfl)⟩ ?_
          rw [← hs8]
          refine ⟨?_, rfl⟩
          rw [wro, if_pos c_67, if_pos c_67]
          rw [show p.toNat = (min (F 28 * szk (F 27)) (s8).1).toNat by omega]
        · refine gi_iconst dX10_wrongOnes_70 ?_
          refine gg_goto (tgt := 75) dX10_wrongOnes_71 (by decide) ?_
          subst hQF9
          refine gg_iret dX10_wrongOnes_75 rfl rfl ⟨(Nat.le_of_ble_eq_true rfl), (Nat.le_of_ble_eq_true rfl)⟩ ?_
          rw [← hs8]
          refine ⟨?_, rfl⟩
          rw [wro, if_neg c_67, ← hw c_67]
          rw [show p.toNat = (min (F 28 * szk (F 27)) (s8).1).toNat by omega]
      · refine gg_iload_n dX10_wrongOnes_20 rfl ?_
        refine gg_aload_n dX10_wrongOnes_21 rfl rfl ?_
        refine gm_get103 rfl dX10_wrongOnes_22 (by (try simp only [uF_s, uF_n, ne_eq, not_false_eq_true, Nat.reduceEqDiff, reduceCtorEq]); rfl) ?_
        refine gi_icmp_ge (tgt := 66) dX10_wrongOnes_25 (by decide) ⟨by omega, by omega⟩ ⟨by omega, by omega⟩ (fun c_25 => ?_) (fun c_25 => ?_)
        · refine gg_iload_n dX10_wrongOnes_66 rfl ?_
          refine gi_if_eq (tgt := 74) dX10_wrongOnes_67 (by decide) ⟨by omega, by omega⟩ (fun c_67 => ?_) (fun c_67 => ?_)
          · refine gg_iload_n dX10_wrongOnes_74 rfl ?_
            subst hQF9
            refine gg_iret dX10_wrongOnes_75 rfl rfl ⟨(Nat.le_of_ble_eq_true rfl), (Nat.le_of_ble_eq_true rfl)⟩ ?_
            rw [← hs8]
            refine ⟨?_, rfl⟩
            rw [wro, if_pos c_67, if_pos c_67]
            rw [show p.toNat = (min (F 28 * szk (F 27)) (s8).1).toNat by omega]
          · refine gi_iconst dX10_wrongOnes_70 ?_
            refine gg_goto (tgt := 75) dX10_wrongOnes_71 (by decide) ?_
            subst hQF9
            refine gg_iret dX10_wrongOnes_75 rfl rfl ⟨(Nat.le_of_ble_eq_true rfl), (Nat.le_of_ble_eq_true rfl)⟩ ?_
            rw [← hs8]
            refine ⟨?_, rfl⟩
            rw [wro, if_neg c_67, ← hw c_67]
            rw [show p.toNat = (min (F 28 * szk (F 27)) (s8).1).toNat by omega]
        · refine gg_aload_n dX10_wrongOnes_28 rfl rfl ?_
          refine gg_iload_n dX10_wrongOnes_29 rfl ?_
          refine gg_aload_n dX10_wrongOnes_30 rfl rfl ?_
          refine gm_get127 rfl dX10_wrongOnes_31 (by (try simp only [uF_s, uF_n, ne_eq, not_false_eq_true, Nat.reduceEqDiff, reduceCtorEq]); rfl) ?_
          refine gc_X10_280 rfl dX10_wrongOnes_34 ⟨(Nat.le_of_ble_eq_true rfl), (Nat.le_of_ble_eq_true rfl)⟩ ⟨(Nat.le_of_ble_eq_true rfl), (Nat.le_of_ble_eq_true rfl)⟩ (Nat.le_of_ble_eq_true rfl) (HAt.mu rfl) (c_X10_penalty (by simp only [uF_s, uF_n, uF_ss, uF_cc, id_eq, ne_eq, not_false_eq_true, Nat.reduceEqDiff, Nat.reduceLT, reduceCtorEq, uA_s, uA_n, uA_ss, uA_cc, id_eq, ne_eq, not_false_eq_true, Nat.reduceEqDiff, Nat.reduceLT, reduceCtorEq]; exact k9) (by simp only [uF_s, uF_n, uF_ss, uF_cc, id_eq, ne_eq, not_false_eq_true, Nat.reduceEqDiff, Nat.reduceLT, reduceCtorEq, uA_s, uA_n, uA_ss, uA_cc, id_eq, ne_eq, not_false_eq_true, Nat.reduceEqDiff, Nat.reduceLT, reduceCtorEq]; exact f9) ⟨by omega, by omega⟩ (by simp only [uF_s, uF_n, uF_ss, uF_cc, id_eq, ne_eq, not_false_eq_true, Nat.reduceEqDiff, Nat.reduceLT, reduceCtorEq, uA_s, uA_n, uA_ss, uA_cc, id_eq, ne_eq, not_false_eq_true, Nat.reduceEqDiff, Nat.reduceLT, reduceCtorEq]; exact (n3 p (by omega) (by omega)).1) h38) (fun _ _ w => w.elim) (fun r_34 h_34 hp => ?_)
          obtain ⟨rfl, rfl⟩ := hp
          simp only [uF_s, uF_n, uF_ss, uF_cc, id_eq, ne_eq, not_false_eq_true, Nat.reduceEqDiff, Nat.reduceLT, reduceCtorEq, uA_s, uA_n, uA_ss, uA_cc, id_eq, ne_eq, not_false_eq_true, Nat.reduceEqDiff, Nat.reduceLT, reduceCtorEq]
          have hpl := pnl_r (F 27) s8.2.1 p (F 38)
          refine gi_if_ne (tgt := 43) dX10_wrongOnes_37 (by decide) ⟨by omega, by omega⟩ (fun c_37 => ?_) (fun c_37 => ?_)
          · refine gg_iload_n dX10_wrongOnes_43 rfl ?_
            refine gi_if_eq (tgt := 57) dX10_wrongOnes_44 (by decide) ⟨by omega, by omega⟩ (fun c_44 => ?_) (fun c_44 => ?_)
            · refine gi_iinc dX10_wrongOnes_57 rfl (Nat.le_of_ble_eq_true rfl) rfl ?_
              refine gi_iinc dX10_wrongOnes_60 rfl (Nat.le_of_ble_eq_true rfl) rfl ?_
              refine gg_goto (tgt := 12) dX10_wrongOnes_63 (by decide) ?_
              have ep : (p + 1).toNat = p.toNat + 1 := by omega
              refine gg_conv (ih_12 _ (by omega) (p + 1) rfl (by omega) (fun q => absurd c_44 q)) rfl ?_ rfl
              simp only [ep, wnC, Int.toNat_of_nonneg hp9.1, if_neg c_37, if_pos c_44]; rfl
            · refine gg_iload_n dX10_wrongOnes_47 rfl ?_
              refine gg_aload_n dX10_wrongOnes_48 rfl rfl ?_
              refine gm_get94 rfl dX10_wrongOnes_49 (by (try simp only [uF_s, uF_n, ne_eq, not_false_eq_true, Nat.reduceEqDiff, reduceCtorEq]); rfl) ?_
              refine gc_X10_205 rfl dX10_wrongOnes_52 ⟨(Nat.le_of_ble_eq_true rfl), (Nat.le_of_ble_eq_true rfl)⟩ ⟨(Nat.le_of_ble_eq_true rfl), (Nat.le_of_ble_eq_true rfl)⟩ (Nat.le_of_ble_eq_true rfl) (c2_sizeOf k9) (fun _ _ w => w.elim) (fun r_52 h_52 hp => ?_)
              obtain ⟨rfl, rfl⟩ := hp
              refine gi_idiv dX10_wrongOnes_55 ⟨by omega, by omega⟩ (by omega) ?_
              subst hQF9
              refine gg_iret dX10_wrongOnes_56 rfl rfl ⟨(Nat.le_of_ble_eq_true rfl), (Nat.le_of_ble_eq_true rfl)⟩ ?_
              rw [← hs8]
              refine ⟨?_, rfl⟩
              have ep : (p + 1).toNat = p.toNat + 1 := by omega
              have hq : wfF (F 27) s8.2.1 (F 38) (p + 1).toNat = p / szk (F 27) := by
                rw [ep, wfF, Int.toNat_of_nonneg hp9.1, if_pos ⟨by rw [hw c_44]; decide, c_37⟩]
              rw [wro, if_neg c_44, wfF_s (k := (p + 1).toNat) (by rw [hq]; exact Int.ediv_nonneg (by omega) (by omega)) _ (by omega), hq]
          · refine gg_goto (tgt := 60) dX10_wrongOnes_40 (by decide) ?_
            refine gi_iinc dX10_wrongOnes_60 rfl (Nat.le_of_ble_eq_true rfl) rfl ?_
            refine gg_goto (tgt := 12) dX10_wrongOnes_63 (by decide) ?_
            have ep : (p + 1).toNat = p.toNat + 1 := by omega
            refine gg_conv (ih_12 _ (by omega) (p + 1) rfl (by omega) (fun q => ?_)) rfl ?_ rfl
            · rw [ep, wfF, Int.toNat_of_nonneg hp9.1, c_37, if_neg (by omega)]; exact hw q
            · simp only [ep, wnC, Int.toNat_of_nonneg hp9.1, c_37, if_true]; rfl
  exact gg_conv (L_12 _ 0 rfl (by omega) (fun _ => rfl)) rfl (by simp only [Int.toNat_zero, wnC, ite_self]; rfl) rfl
theorem bof_c {F : Nat → Int} {b : Int × Int × Int × Int × Int} (h : bof F = b) : F 34 = b.1 ∧ F 35 = b.2.1 ∧ F 36 = b.2.2.1 ∧ F 37 = b.2.2.2.1 ∧ F 38 = b.2.2.2.2 := by
  rw [← h]; exact ⟨rfl, rfl, rfl, rfl, rfl⟩
set_option maxRecDepth 100000 in
set_option maxHeartbeats 4000000 in
theorem c_X10_scan {Γ : GT} {h : XH} {F : Nat → Int} {A : Nat → Int → Int} (S : StA (A 1)) (N : LnA (A 1)) (E9 : ExA (A 1)) (h38 : F 38 = 0 ∨ F 38 = 1) {d l : Int} (hd : InR d) (hl : InR l) {w : Int} (hw : InR w) : Ct Γ M_X10_scan [.ref (g_L Γ 0), .int (iN d), .int (iN l), .int (iN w)] (mst Γ h F A) (fun r h9 => (¬ (0 ≤ d ∧ d ≤ 3 ∧ 0 ≤ l ∧ l < A 1 (5 + d)) ∧ r = some (.int (iN 0)) ∧ h9 = mst Γ h (uF F 0 1) A) ∨ ((0 ≤ d ∧ d ≤ 3 ∧ 0 ≤ l ∧ l < A 1 (5 + d)) ∧ ¬ (0 ≤ w ∧ w ≤ 5) ∧ r = some (.int (iN (0))) ∧ h9 = mst Γ h (uF F 0 2) A) ∨ ((0 ≤ d ∧ d ≤ 3 ∧ 0 ≤ l ∧ l < A 1 (5 + d)) ∧ (0 ≤ w ∧ w ≤ 5) ∧ ∃ (F1 F2 : Nat → Int) (A1 A2 : Nat → Int → Int), h9 = mst Γ h F2 A2 ∧ frF [0, 16, 24, 25, 27, 28, 29, 30, 34, 35, 36, 37, 38, 39, 40, 41, 42] F F2 ∧ frA [8, 9, 10, 11, 12, 13, 14, 15, 16, 17, 18, 19, 20, 21, 22] A A2 ∧ LD (A 1) d l F1 A1 ∧ (((bst9 (A 1) F1 A1 (F 36) (F 38)).1 < 0 ∧ r = some (.int (iN (0))) ∧ F2 0 = 3) ∨ (0 ≤ (bst9 (A 1) F1 A1 (F 36) (F 38)).1 ∧ r = some (.int (iN (if w = 0 then (bst9 (A 1) F1 A1 (F 36) (F 38)).1 else if w = 1 then (bst9 (A 1) F1 A1 (F 36) (F 38)).2.1 else if w = 2 then (bst9 (A 1) F1 A1 (F 36) (F 38)).2.2.2.2 else if w = 3 then (bst9 (A 1) F1 A1 (F 36) (F 38)).2.2.1 else wro (A 1 0) (sA A1 ((bst9 (A 1) F1 A1 (F 36) (F 38)).2.1) (s0 A1) (F1 16).toNat).2.1 (bst9 (A 1) F1 A1 (F 36) (F 38)).2.2.2.2 (bi (decide (w = 4))) (min (A 1 1 * szk (A 1 0)) (sA A1 ((bst9 (A 1) F1 A1 (F 36) (F 38)).2.1) (s0 A1) (F1 16).toNat).1).toNat))) ∧ F2 0 = 0)))) (fun _ _ => False) := by
  refine Ct.of rfl (by decide +kernel) (Nat.le_of_ble_eq_true rfl) ?_
  generalize hQF9 : QM Γ _ _ _ = QF9
  obtain ⟨t0, t1, t2, t3, t4, t5, t6⟩ := id S
  refine gg_aload_n dX10_scan_0 rfl rfl ?_
  refine gi_iconst dX10_scan_1 ?_
  refine gm_put3 rfl dX10_scan_2 (by (try simp only [uF_ss, uF_cc, id_eq, Nat.reduceLT, reduceCtorEq]); rfl) ?_
  refine gg_aload_n dX10_scan_5 rfl rfl ?_
  refine gg_iload_n dX10_scan_6 rfl ?_
  refine gg_iload_n dX10_scan_7 rfl ?_
  refine gc_X10_234 rfl dX10_scan_8 ⟨(Nat.le_of_ble_eq_true rfl), (Nat.le_of_ble_eq_true rfl)⟩ ⟨(Nat.le_of_ble_eq_true rfl), (Nat.le_of_ble_eq_true rfl)⟩ (Nat.le_of_ble_eq_true rfl) (HAt.mu rfl) (c_X10_isLine (by exact S) (by assumption) (by assumption)) (fun _ _ w => w.elim) (fun r_8 h_8 hp => ?_)
  obtain ⟨rfl, rfl⟩ := hp
  refine gi_if_ne (tgt := 20) dX10_scan_11 (by decide) (bi_r _) (fun c_11 => ?_) (fun c_11 => ?_)
  · rw [bi_t] at c_11
    simp at c_11
    refine gg_iload_n dX10_scan_20 rfl ?_
    refine gi_iconst dX10_scan_21 ?_
    refine gi_iconst dX10_scan_22 ?_
    refine gc_X10_158 rfl dX10_scan_23 ⟨(Nat.le_of_ble_eq_true rfl), (Nat.le_of_ble_eq_true rfl)⟩ ⟨(Nat.le_of_ble_eq_true rfl), (Nat.le_of_ble_eq_true rfl)⟩ (Nat.le_of_ble_eq_true rfl) (c_X10_in (by assumption) ⟨by omega, by omega⟩ ⟨by omega, by omega⟩) (fun _ _ w => w.elim) (fun r_23 h_23 hp => ?_)
    obtain ⟨rfl, rfl⟩ := hp
    refine gi_if_ne (tgt := 35) dX10_scan_26 (by decide) (bi_r _) (fun c_26 => ?_) (fun c_26 => ?_)
    · rw [bi_t] at c_26
      rw [Bool.and_eq_true, decide_eq_true_iff, decide_eq_true_iff] at c_26
      refine gg_aload_n dX10_scan_35 rfl rfl ?_
      refine gg_iload_n dX10_scan_36 rfl ?_
      refine gg_iload_n dX10_scan_37 rfl ?_
      refine gc_X10_303 rfl dX10_scan_38 ⟨(Nat.le_of_ble_eq_true rfl), (Nat.le_of_ble_eq_true rfl)⟩ ⟨(Nat.le_of_ble_eq_true rfl), (Nat.le_of_ble_eq_true rfl)⟩ (Nat.le_of_ble_eq_true rfl) (HAt.mu rfl) (c_X10_scansLine (F := uF F 0 0) S N E9 (by simp only [uF_s, uF_n, uF_ss, uF_cc, id_eq, ne_eq, not_false_eq_true, Nat.reduceEqDiff, Nat.reduceLT, reduceCtorEq]; exact h38) ⟨by omega, by omega⟩ ⟨by omega, by omega⟩) (fun _ _ w => w.elim) (fun r_38 h_38 hp => ?_)
      obtain ⟨F1, F2, A1, A2, rfl, rfl, hL, hF, hA, hA2, e16, e27, e28, e29, okb, hb⟩ := hp
      simp only [uF_s, uF_n, uF_ss, uF_cc, id_eq, ne_eq, not_false_eq_true, Nat.reduceEqDiff, Nat.reduceLT, reduceCtorEq] at hb
      obtain ⟨b34, b35, b36, b37, b38⟩ := bof_c hb
      obtain ⟨o1, o2, o3⟩ := id okb
      dsimp only [bof] at o1 o2 o3
      have g1 : A1 1 = A 1 := hA 1 (by decide)
      have e0 : F2 0 = 0 := by rw [hF 0 (by decide), uF_s]
      have h1 : A2 1 = A1 1 := hA2 1 (by decide)
      have h10 : A2 10 = A1 10 := hA2 10 (by decide)
      have h11 : A2 11 = A1 11 := hA2 11 (by decide)
      have h12 : A2 12 = A1 12 := hA2 12 (by decide)
      have h13 : A2 13 = A1 13 := hA2 13 (by decide)
      have h14 : A2 14 = A1 14 := hA2 14 (by decide)
      have hL2 : LW F2 A2 := LW_fr e16 h10 h12 h13 h14 h11 hL.1
      have k9 : 0 ≤ F2 27 ∧ F2 27 ≤ 3 := by rw [e27]; exact t0
      have f9 : 2 ≤ F2 28 ∧ F2 28 ≤ 6 := by rw [e28]; exact t1
      have hfF := frF_z hF (by decide)
      have hfA := frA_t hA hA2 (by decide) (by decide)
      refine gg_aload_n dX10_scan_41 rfl rfl ?_
      refine gm_get115 rfl dX10_scan_42 (by (try simp only [uF_s, uF_n, ne_eq, not_false_eq_true, Nat.reduceEqDiff, reduceCtorEq]); rfl) ?_
      refine gi_if_ge (tgt := 54) dX10_scan_45 (by decide) ⟨by omega, by omega⟩ (fun c_45 => ?_) (fun c_45 => ?_)
      · refine gg_iload_n dX10_scan_54 rfl ?_
        by_cases w_55_0 : w = 0
        · refine gi_tab (tgt := 84) dX10_scan_55 hw (by omega) (by omega) (by rw [w_55_0]; rfl) (by decide) ?_
          refine gg_aload_n dX10_scan_84 rfl rfl ?_
          refine gm_get115 rfl dX10_scan_85 (by (try simp only [uF_s, uF_n, ne_eq, not_false_eq_true, Nat.reduceEqDiff, reduceCtorEq]); rfl) ?_
          subst hQF9
          refine gg_iret dX10_scan_88 rfl rfl ⟨(Nat.le_of_ble_eq_true rfl), (Nat.le_of_ble_eq_true rfl)⟩ ?_
          refine Or.inr (Or.inr ⟨by omega, by omega, F1, F2, A1, A2, rfl, hfF, hfA, hL, Or.inr ⟨by omega, ?_, e0⟩⟩)
          rw [if_pos w_55_0, b34]
        by_cases w_55_1 : w = 1
        · refine gi_tab (tgt := 89) dX10_scan_55 hw (by omega) (by omega) (by rw [w_55_1]; rfl) (by decide) ?_
          refine gg_aload_n dX10_scan_89 rfl rfl ?_
          refine gm_get118 rfl dX10_scan_90 (by (try simp only [uF_s, uF_n, ne_eq, not_false_eq_true, Nat.reduceEqDiff, reduceCtorEq]); rfl) ?_
          subst hQF9
          refine gg_iret dX10_scan_93 rfl rfl ⟨(Nat.le_of_ble_eq_true rfl), (Nat.le_of_ble_eq_true rfl)⟩ ?_
          refine Or.inr (Or.inr ⟨by omega, by omega, F1, F2, A1, A2, rfl, hfF, hfA, hL, Or.inr ⟨by omega, ?_, e0⟩⟩)
          rw [if_neg w_55_0, if_pos w_55_1, b35]
        by_cases w_55_2 : w = 2
        · refine gi_tab (tgt := 94) dX10_scan_55 hw (by omega) (by omega) (by rw [w_55_2]; rfl) (by decide) ?_
          refine gg_aload_n dX10_scan_94 rfl rfl ?_
          refine gm_get127 rfl dX10_scan_95 (by (try simp only [uF_s, uF_n, ne_eq, not_false_eq_true, Nat.reduceEqDiff, reduceCtorEq]); rfl) ?_
          refine gi_if_eq (tgt := 105) dX10_scan_98 (by decide) ⟨by omega, by omega⟩ (fun c_98 => ?_) (fun c_98 => ?_)
          · refine gi_iconst dX10_scan_105 ?_
            subst hQF9
            refine gg_iret dX10_scan_106 rfl rfl ⟨(Nat.le_of_ble_eq_true rfl), (Nat.le_of_ble_eq_true rfl)⟩ ?_
            refine Or.inr (Or.inr ⟨by omega, by omega, F1, F2, A1, A2, rfl, hfF, hfA, hL, Or.inr ⟨by omega, ?_, e0⟩⟩)
            rw [if_neg w_55_0, if_neg w_55_1, if_pos w_55_2, ← b38, c_98]
          · refine gi_iconst dX10_scan_101 ?_
            refine gg_goto (tgt := 106) dX10_scan_102 (by decide) ?_
            subst hQF9
            refine gg_iret dX10_scan_106 rfl rfl ⟨(Nat.le_of_ble_eq_true rfl), (Nat.le_of_ble_eq_true rfl)⟩ ?_
            refine Or.inr (Or.inr ⟨by omega, by omega, F1, F2, A1, A2, rfl, hfF, hfA, hL, Or.inr ⟨by omega, ?_, e0⟩⟩)
            rw [if_neg w_55_0, if_neg w_55_1, if_pos w_55_2, ← b38, show F2 38 = 1 by omega]
        by_cases w_55_3 : w = 3
        · refine gi_tab (tgt := 107) dX10_scan_55 hw (by omega) (by omega) (by rw [w_55_3]; rfl) (by decide) ?_
          refine gg_aload_n dX10_scan_107 rfl rfl ?_
          refine gm_get121 rfl dX10_scan_108 (by (try simp only [uF_s, uF_n, ne_eq, not_false_eq_true, Nat.reduceEqDiff, reduceCtorEq]); rfl) ?_
          subst hQF9
          refine gg_iret dX10_scan_111 rfl rfl ⟨(Nat.le_of_ble_eq_true rfl), (Nat.le_of_ble_eq_true rfl)⟩ ?_
          refine Or.inr (Or.inr ⟨by omega, by omega, F1, F2, A1, A2, rfl, hfF, hfA, hL, Or.inr ⟨by omega, ?_, e0⟩⟩)
          rw [if_neg w_55_0, if_neg w_55_1, if_neg w_55_2, if_pos w_55_3, b36]
        refine gi_tabD (tgt := 112) dX10_scan_55 hw (by omega) (by decide) ?_
        refine gg_aload_n dX10_scan_112 rfl rfl ?_
        refine gg_iload_n dX10_scan_113 rfl ?_
        refine gi_iconst dX10_scan_114 ?_
        refine gi_icmp_ne (tgt := 122) dX10_scan_115 (by decide) ⟨by omega, by omega⟩ ⟨by omega, by omega⟩ (fun c_115 => ?_) (fun c_115 => ?_)
        · refine gi_iconst dX10_scan_122 ?_
          refine gc_X10_306 rfl dX10_scan_123 ⟨(Nat.le_of_ble_eq_true rfl), (Nat.le_of_ble_eq_true rfl)⟩ ⟨(Nat.le_of_ble_eq_true rfl), (Nat.le_of_ble_eq_true rfl)⟩ (Nat.le_of_ble_eq_true rfl) (HAt.mu rfl) (c_X10_wrongOnes k9 f9 hL2 o2 o3 (by first | exact Or.inl rfl | exact Or.inr rfl)) (fun _ _ w => w.elim) (fun r_123 h_123 hp => ?_)
          obtain ⟨rfl, rfl⟩ := hp
          subst hQF9
          refine gg_iret dX10_scan_126 rfl rfl ⟨(Nat.le_of_ble_eq_true rfl), (Nat.le_of_ble_eq_true rfl)⟩ ?_
          have hag : agr (sA A2 (F2 35) (s0 A2) (F2 16).toNat) (sA A1 (F2 35) (s0 A1) (F1 16).toNat) := by
            rw [sA_cg h10 h11 h12, e16]; exact sA_agr (agr_0 _ _) _
          refine Or.inr (Or.inr ⟨by omega, by omega, F1, _, A1, _, rfl, frF_u hfF (by decide), frA_u (frA_u (frA_u hfA (by decide)) (by decide)) (by decide), hL, Or.inr ⟨by omega, ?_, by rw [uF_n (by decide), e0]⟩⟩)
          rw [if_neg w_55_0, if_neg w_55_1, if_neg w_55_2, if_neg w_55_3, ← b35, ← b38, decide_eq_false (show ¬ w = 4 by omega), ← hag.1, e27, e28]
          congr 3
          exact wro_cg (fun p p0 p1 => (hag.2 p p0 (by omega)).1)
        · refine gi_iconst dX10_scan_118 ?_
          refine gg_goto (tgt := 123) dX10_scan_119 (by decide) ?_
          refine gc_X10_306 rfl dX10_scan_123 ⟨(Nat.le_of_ble_eq_true rfl), (Nat.le_of_ble_eq_true rfl)⟩ ⟨(Nat.le_of_ble_eq_true rfl), (Nat.le_of_ble_eq_true rfl)⟩ (Nat.le_of_ble_eq_true rfl) (HAt.mu rfl) (c_X10_wrongOnes k9 f9 hL2 o2 o3 (by first | exact Or.inl rfl | exact Or.inr rfl)) (fun _ _ w => w.elim) (fun r_123 h_123 hp => ?_)
          obtain ⟨rfl, rfl⟩ := hp
          subst hQF9
          refine gg_iret dX10_scan_126 rfl rfl ⟨(Nat.le_of_ble_eq_true rfl), (Nat.le_of_ble_eq_true rfl)⟩ ?_
          have hag : agr (sA A2 (F2 35) (s0 A2) (F2 16).toNat) (sA A1 (F2 35) (s0 A1) (F1 16).toNat) := by
            rw [sA_cg h10 h11 h12, e16]; exact sA_agr (agr_0 _ _) _
          refine Or.inr (Or.inr ⟨by omega, by omega, F1, _, A1, _, rfl, frF_u hfF (by decide), frA_u (frA_u (frA_u hfA (by decide)) (by decide)) (by decide), hL, Or.inr ⟨by omega, ?_, by rw [uF_n (by decide), e0]⟩⟩)
          rw [if_neg w_55_0, if_neg w_55_1, if_neg w_55_2, if_neg w_55_3, ← b35, ← b38, decide_eq_true (show w = 4 by omega), ← hag.1, e27, e28]
          congr 3
          exact wro_cg (fun p p0 p1 => (hag.2 p p0 (by omega)).1)
      · refine gg_aload_n dX10_scan_48 rfl rfl ?_
        refine gi_iconst dX10_scan_49 ?_
        refine gc_X10_162 rfl dX10_scan_50 ⟨(Nat.le_of_ble_eq_true rfl), (Nat.le_of_ble_eq_true rfl)⟩ ⟨(Nat.le_of_ble_eq_true rfl), (Nat.le_of_ble_eq_true rfl)⟩ (Nat.le_of_ble_eq_true rfl) (HAt.mu rfl) (c_X10_fails) (fun _ _ w => w.elim) (fun r_50 h_50 hp => ?_)
        obtain ⟨rfl, rfl⟩ := hp
        subst hQF9
        refine gg_iret dX10_scan_53 rfl rfl ⟨(Nat.le_of_ble_eq_true rfl), (Nat.le_of_ble_eq_true rfl)⟩ ?_
        refine Or.inr (Or.inr ⟨by omega, by omega, F1, _, A1, A2, rfl, frF_u hfF (by decide), hfA, hL, Or.inl ⟨by omega, rfl, uF_s⟩⟩)
    · rw [bi_f] at c_26
      rw [Bool.and_eq_false_iff, decide_eq_false_iff_not, decide_eq_false_iff_not] at c_26
      refine gg_aload_n dX10_scan_29 rfl rfl ?_
      refine gi_iconst dX10_scan_30 ?_
      refine gc_X10_162 rfl dX10_scan_31 ⟨(Nat.le_of_ble_eq_true rfl), (Nat.le_of_ble_eq_true rfl)⟩ ⟨(Nat.le_of_ble_eq_true rfl), (Nat.le_of_ble_eq_true rfl)⟩ (Nat.le_of_ble_eq_true rfl) (HAt.mu rfl) (c_X10_fails) (fun _ _ w => w.elim) (fun r_31 h_31 hp => ?_)
      obtain ⟨rfl, rfl⟩ := hp
      subst hQF9
      refine gg_iret dX10_scan_34 rfl rfl ⟨(Nat.le_of_ble_eq_true rfl), (Nat.le_of_ble_eq_true rfl)⟩ ?_
      exact Or.inr (Or.inl ⟨by omega, by omega, rfl, by rw [uF_ss]⟩)
  · rw [bi_f] at c_11
    simp at c_11
    refine gg_aload_n dX10_scan_14 rfl rfl ?_
    refine gi_iconst dX10_scan_15 ?_
    refine gc_X10_162 rfl dX10_scan_16 ⟨(Nat.le_of_ble_eq_true rfl), (Nat.le_of_ble_eq_true rfl)⟩ ⟨(Nat.le_of_ble_eq_true rfl), (Nat.le_of_ble_eq_true rfl)⟩ (Nat.le_of_ble_eq_true rfl) (HAt.mu rfl) (c_X10_fails) (fun _ _ w => w.elim) (fun r_16 h_16 hp => ?_)
    obtain ⟨rfl, rfl⟩ := hp
    subst hQF9
    refine gg_iret dX10_scan_19 rfl rfl ⟨(Nat.le_of_ble_eq_true rfl), (Nat.le_of_ble_eq_true rfl)⟩ ?_
    exact Or.inl ⟨by omega, rfl, by rw [uF_ss]⟩
set_option maxRecDepth 100000 in
set_option maxHeartbeats 4000000 in
theorem c_X10_scans {Γ : GT} {h : XH} {F : Nat → Int} {A : Nat → Int → Int} (S : StA (A 1)) (N : LnA (A 1)) (E9 : ExA (A 1)) (h38 : F 38 = 0 ∨ F 38 = 1) {d l : Int} (hd : InR d) (hl : InR l) : Ct Γ M_X10_scans [.ref (g_L Γ 0), .int (iN d), .int (iN l)] (mst Γ h F A) (fun r h9 => (¬ (0 ≤ d ∧ d ≤ 3 ∧ 0 ≤ l ∧ l < A 1 (5 + d)) ∧ r = some (.int (iN 0)) ∧ h9 = mst Γ h (uF F 0 1) A) ∨ ((0 ≤ d ∧ d ≤ 3 ∧ 0 ≤ l ∧ l < A 1 (5 + d)) ∧ ∃ (F1 F2 : Nat → Int) (A1 A2 : Nat → Int → Int), h9 = mst Γ h F2 A2 ∧ frF [0, 16, 24, 25, 27, 28, 29, 30, 34, 35, 36, 37, 38, 39, 40, 41, 42] F F2 ∧ frA [8, 9, 10, 11, 12, 13, 14, 15, 16, 17, 18, 19, 20, 21, 22] A A2 ∧ LD (A 1) d l F1 A1 ∧ r = some (.int (iN ((bst9 (A 1) F1 A1 (F 36) (F 38)).2.2.2.1))) ∧ F2 0 = 0)) (fun _ _ => False) := by
  refine Ct.of rfl (by decide +kernel) (Nat.le_of_ble_eq_true rfl) ?_
  generalize hQF9 : QM Γ _ _ _ = QF9
  obtain ⟨t0, t1, t2, t3, t4, t5, t6⟩ := id S
  refine gg_aload_n dX10_scans_0 rfl rfl ?_
  refine gi_iconst dX10_scans_1 ?_
  refine gm_put3 rfl dX10_scans_2 (by (try simp only [uF_ss, uF_cc, id_eq, Nat.reduceLT, reduceCtorEq]); rfl) ?_
  refine gg_aload_n dX10_scans_5 rfl rfl ?_
  refine gg_iload_n dX10_scans_6 rfl ?_
  refine gg_iload_n dX10_scans_7 rfl ?_
  refine gc_X10_234 rfl dX10_scans_8 ⟨(Nat.le_of_ble_eq_true rfl), (Nat.le_of_ble_eq_true rfl)⟩ ⟨(Nat.le_of_ble_eq_true rfl), (Nat.le_of_ble_eq_true rfl)⟩ (Nat.le_of_ble_eq_true rfl) (HAt.mu rfl) (c_X10_isLine (by exact S) (by assumption) (by assumption)) (fun _ _ w => w.elim) (fun r_8 h_8 hp => ?_)
  obtain ⟨rfl, rfl⟩ := hp
  refine gi_if_ne (tgt := 20) dX10_scans_11 (by decide) (bi_r _) (fun c_11 => ?_) (fun c_11 => ?_)
  · rw [bi_t] at c_11
    simp at c_11
    refine gg_aload_n dX10_scans_20 rfl rfl ?_
    refine gg_iload_n dX10_scans_21 rfl ?_
    refine gg_iload_n dX10_scans_22 rfl ?_
    refine gc_X10_303 rfl dX10_scans_23 ⟨(Nat.le_of_ble_eq_true rfl), (Nat.le_of_ble_eq_true rfl)⟩ ⟨(Nat.le_of_ble_eq_true rfl), (Nat.le_of_ble_eq_true rfl)⟩ (Nat.le_of_ble_eq_true rfl) (HAt.mu rfl) (c_X10_scansLine (F := uF F 0 0) S N E9 (by simp only [uF_s, uF_n, uF_ss, uF_cc, id_eq, ne_eq, not_false_eq_true, Nat.reduceEqDiff, Nat.reduceLT, reduceCtorEq]; exact h38) ⟨by omega, by omega⟩ ⟨by omega, by omega⟩) (fun _ _ w => w.elim) (fun r_23 h_23 hp => ?_)
    obtain ⟨F1, F2, A1, A2, rfl, rfl, hL, hF, hA, hA2, e16, e27, e28, e29, okb, hb⟩ := hp
    simp only [uF_s, uF_n, uF_ss, uF_cc, id_eq, ne_eq, not_false_eq_true, Nat.reduceEqDiff, Nat.reduceLT, reduceCtorEq] at hb
    obtain ⟨b34, b35, b36, b37, b38⟩ := bof_c hb
    obtain ⟨o1, o2, o3⟩ := id okb
    dsimp only [bof] at o1 o2 o3
    have g1 : A1 1 = A 1 := hA 1 (by decide)
    have e0 : F2 0 = 0 := by rw [hF 0 (by decide), uF_s]
    have h1 : A2 1 = A1 1 := hA2 1 (by decide)
    have h10 : A2 10 = A1 10 := hA2 10 (by decide)
    have h11 : A2 11 = A1 11 := hA2 11 (by decide)
    have h12 : A2 12 = A1 12 := hA2 12 (by decide)
    have h13 : A2 13 = A1 13 := hA2 13 (by decide)
    have h14 : A2 14 = A1 14 := hA2 14 (by decide)
    have hL2 : LW F2 A2 := LW_fr e16 h10 h12 h13 h14 h11 hL.1
    have k9 : 0 ≤ F2 27 ∧ F2 27 ≤ 3 := by rw [e27]; exact t0
    have f9 : 2 ≤ F2 28 ∧ F2 28 ≤ 6 := by rw [e28]; exact t1
    have hfF := frF_z hF (by decide)
    have hfA := frA_t hA hA2 (by decide) (by decide)
    refine gg_aload_n dX10_scans_26 rfl rfl ?_
    refine gm_get124 rfl dX10_scans_27 (by (try simp only [uF_s, uF_n, ne_eq, not_false_eq_true, Nat.reduceEqDiff, reduceCtorEq]); rfl) ?_
    subst hQF9
    refine gg_iret dX10_scans_30 rfl rfl ⟨(Nat.le_of_ble_eq_true rfl), (Nat.le_of_ble_eq_true rfl)⟩ ?_
    refine Or.inr ⟨by omega, F1, F2, A1, A2, rfl, hfF, hfA, hL, by rw [b37], e0⟩
  · rw [bi_f] at c_11
    simp at c_11
    refine gg_aload_n dX10_scans_14 rfl rfl ?_
    refine gi_iconst dX10_scans_15 ?_
    refine gc_X10_162 rfl dX10_scans_16 ⟨(Nat.le_of_ble_eq_true rfl), (Nat.le_of_ble_eq_true rfl)⟩ ⟨(Nat.le_of_ble_eq_true rfl), (Nat.le_of_ble_eq_true rfl)⟩ (Nat.le_of_ble_eq_true rfl) (HAt.mu rfl) (c_X10_fails) (fun _ _ w => w.elim) (fun r_16 h_16 hp => ?_)
    obtain ⟨rfl, rfl⟩ := hp
    subst hQF9
    refine gg_iret dX10_scans_19 rfl rfl ⟨(Nat.le_of_ble_eq_true rfl), (Nat.le_of_ble_eq_true rfl)⟩ ?_
    exact Or.inl ⟨by omega, rfl, by rw [uF_ss]⟩
set_option maxRecDepth 100000 in
set_option maxHeartbeats 4000000 in
theorem c_X10_reason {Γ : GT} {h : XH} {F : Nat → Int} {A : Nat → Int → Int} (S : StA (A 1)) (N : LnA (A 1)) (E9 : ExA (A 1)) (h38 : F 38 = 0 ∨ F 38 = 1) {d l : Int} (hd : InR d) (hl : InR l) : Ct Γ M_X10_reason [.ref (g_L Γ 0), .int (iN d), .int (iN l)] (mst Γ h F A) (fun r h9 => (¬ (0 ≤ d ∧ d ≤ 3 ∧ 0 ≤ l ∧ l < A 1 (5 + d)) ∧ r = some (.int (iN 0)) ∧ h9 = mst Γ h (uF F 0 1) A) ∨ ((0 ≤ d ∧ d ≤ 3 ∧ 0 ≤ l ∧ l < A 1 (5 + d)) ∧ ∃ (F1 F2 : Nat → Int) (A1 A2 : Nat → Int → Int), h9 = mst Γ h F2 A2 ∧ frF [0, 16, 24, 25, 27, 28, 29, 30, 34, 35, 36, 37, 38, 39, 40, 41, 42] F F2 ∧ frA [8, 9, 10, 11, 12, 13, 14, 15, 16, 17, 18, 19, 20, 21, 22] A A2 ∧ LD (A 1) d l F1 A1 ∧ r = some (.int (iN (rsn (A 1) F1 A1 ((bst9 (A 1) F1 A1 (F 36) (F 38)).1)))) ∧ F2 0 = 0)) (fun _ _ => False) := by
  refine Ct.of rfl (by decide +kernel) (Nat.le_of_ble_eq_true rfl) ?_
  generalize hQF9 : QM Γ _ _ _ = QF9
  obtain ⟨t0, t1, t2, t3, t4, t5, t6⟩ := id S
  refine gg_aload_n dX10_reason_0 rfl rfl ?_
  refine gi_iconst dX10_reason_1 ?_
  refine gm_put3 rfl dX10_reason_2 (by (try simp only [uF_ss, uF_cc, id_eq, Nat.reduceLT, reduceCtorEq]); rfl) ?_
  refine gg_aload_n dX10_reason_5 rfl rfl ?_
  refine gg_iload_n dX10_reason_6 rfl ?_
  refine gg_iload_n dX10_reason_7 rfl ?_
  refine gc_X10_234 rfl dX10_reason_8 ⟨(Nat.le_of_ble_eq_true rfl), (Nat.le_of_ble_eq_true rfl)⟩ ⟨(Nat.le_of_ble_eq_true rfl), (Nat.le_of_ble_eq_true rfl)⟩ (Nat.le_of_ble_eq_true rfl) (HAt.mu rfl) (c_X10_isLine (by exact S) (by assumption) (by assumption)) (fun _ _ w => w.elim) (fun r_8 h_8 hp => ?_)
  obtain ⟨rfl, rfl⟩ := hp
  refine gi_if_ne (tgt := 20) dX10_reason_11 (by decide) (bi_r _) (fun c_11 => ?_) (fun c_11 => ?_)
  · rw [bi_t] at c_11
    simp at c_11
    refine gg_aload_n dX10_reason_20 rfl rfl ?_
    refine gg_iload_n dX10_reason_21 rfl ?_
    refine gg_iload_n dX10_reason_22 rfl ?_
    refine gc_X10_303 rfl dX10_reason_23 ⟨(Nat.le_of_ble_eq_true rfl), (Nat.le_of_ble_eq_true rfl)⟩ ⟨(Nat.le_of_ble_eq_true rfl), (Nat.le_of_ble_eq_true rfl)⟩ (Nat.le_of_ble_eq_true rfl) (HAt.mu rfl) (c_X10_scansLine (F := uF F 0 0) S N E9 (by simp only [uF_s, uF_n, uF_ss, uF_cc, id_eq, ne_eq, not_false_eq_true, Nat.reduceEqDiff, Nat.reduceLT, reduceCtorEq]; exact h38) ⟨by omega, by omega⟩ ⟨by omega, by omega⟩) (fun _ _ w => w.elim) (fun r_23 h_23 hp => ?_)
    obtain ⟨F1, F2, A1, A2, rfl, rfl, hL, hF, hA, hA2, e16, e27, e28, e29, okb, hb⟩ := hp
    simp only [uF_s, uF_n, uF_ss, uF_cc, id_eq, ne_eq, not_false_eq_true, Nat.reduceEqDiff, Nat.reduceLT, reduceCtorEq] at hb
    obtain ⟨b34, b35, b36, b37, b38⟩ := bof_c hb
    obtain ⟨o1, o2, o3⟩ := id okb
    dsimp only [bof] at o1 o2 o3
    have g1 : A1 1 = A 1 := hA 1 (by decide)
    have e0 : F2 0 = 0 := by rw [hF 0 (by decide), uF_s]
    have h1 : A2 1 = A1 1 := hA2 1 (by decide)
    have h10 : A2 10 = A1 10 := hA2 10 (by decide)
    have h11 : A2 11 = A1 11 := hA2 11 (by decide)
    have h12 : A2 12 = A1 12 := hA2 12 (by decide)
    have h13 : A2 13 = A1 13 := hA2 13 (by decide)
    have h14 : A2 14 = A1 14 := hA2 14 (by decide)
    have hL2 : LW F2 A2 := LW_fr e16 h10 h12 h13 h14 h11 hL.1
    have k9 : 0 ≤ F2 27 ∧ F2 27 ≤ 3 := by rw [e27]; exact t0
    have f9 : 2 ≤ F2 28 ∧ F2 28 ≤ 6 := by rw [e28]; exact t1
    have hfF := frF_z hF (by decide)
    have hfA := frA_t hA hA2 (by decide) (by decide)
    refine gg_aload_n dX10_reason_26 rfl rfl ?_
    refine gm_get115 rfl dX10_reason_27 (by (try simp only [uF_s, uF_n, ne_eq, not_false_eq_true, Nat.reduceEqDiff, reduceCtorEq]); rfl) ?_
    refine gi_if_lt (tgt := 52) dX10_reason_30 (by decide) ⟨by omega, by omega⟩ (fun c_30 => ?_) (fun c_30 => ?_)
    · refine gg_aload_n dX10_reason_52 rfl rfl ?_
      refine gc_X10_310 rfl dX10_reason_53 ⟨(Nat.le_of_ble_eq_true rfl), (Nat.le_of_ble_eq_true rfl)⟩ ⟨(Nat.le_of_ble_eq_true rfl), (Nat.le_of_ble_eq_true rfl)⟩ (Nat.le_of_ble_eq_true rfl) (HAt.mu rfl) (c_X10_allSyllables hL2) (fun _ _ w => w.elim) (fun r_53 h_53 hp => ?_)
      obtain ⟨rfl, rfl⟩ := hp
      rw [ally_fr h10, e16]
      have hal := ally_r hL.1 (F1 16).toNat (by have := hL.1.1; omega)
      have h16 := hL.1.1
      refine gg_istore_n dX10_reason_56 (Nat.le_of_ble_eq_true rfl) rfl ?_
      refine gg_iload_n dX10_reason_57 rfl ?_
      refine gg_aload_n dX10_reason_58 rfl rfl ?_
      refine gc_X10_277 rfl dX10_reason_59 ⟨(Nat.le_of_ble_eq_true rfl), (Nat.le_of_ble_eq_true rfl)⟩ ⟨(Nat.le_of_ble_eq_true rfl), (Nat.le_of_ble_eq_true rfl)⟩ (Nat.le_of_ble_eq_true rfl) (HAt.mu rfl) (c_X10_positions k9 f9) (fun _ _ w => w.elim) (fun r_59 h_59 hp => ?_)
      obtain ⟨rfl, rfl⟩ := hp
      rw [e27, e28]
      have hps : 4 ≤ A 1 1 * szk (A 1 0) ∧ A 1 1 * szk (A 1 0) ≤ 18 := by rcases szk_r (A 1 0) with q | q <;> rw [q] <;> omega
      refine gg_aload_n dX10_reason_62 rfl rfl ?_
      refine gg_aload_n dX10_reason_63 rfl rfl ?_
      refine gc_X10_277 rfl dX10_reason_64 ⟨(Nat.le_of_ble_eq_true rfl), (Nat.le_of_ble_eq_true rfl)⟩ ⟨(Nat.le_of_ble_eq_true rfl), (Nat.le_of_ble_eq_true rfl)⟩ (Nat.le_of_ble_eq_true rfl) (HAt.mu rfl) (c_X10_positions k9 f9) (fun _ _ w => w.elim) (fun r_64 h_64 hp => ?_)
      obtain ⟨rfl, rfl⟩ := hp
      rw [e27, e28]
      have hps : 4 ≤ A 1 1 * szk (A 1 0) ∧ A 1 1 * szk (A 1 0) ≤ 18 := by rcases szk_r (A 1 0) with q | q <;> rw [q] <;> omega
      refine gi_iconst dX10_reason_67 ?_
      refine gi_isub dX10_reason_68 ?_
      refine gi_iconst dX10_reason_69 ?_
      refine gc_X10_273 rfl dX10_reason_70 ⟨(Nat.le_of_ble_eq_true rfl), (Nat.le_of_ble_eq_true rfl)⟩ ⟨(Nat.le_of_ble_eq_true rfl), (Nat.le_of_ble_eq_true rfl)⟩ (Nat.le_of_ble_eq_true rfl) (HAt.mu rfl) (c_X10_isStrong k9 f9 ⟨by omega, by omega⟩ (Or.inl rfl)) (fun _ _ w => w.elim) (fun r_70 h_70 hp => ?_)
      obtain ⟨rfl, rfl⟩ := hp
      rw [e27]
      refine gi_if_eq (tgt := 80) dX10_reason_73 (by decide) (bi_r _) (fun c_73 => ?_) (fun c_73 => ?_)
      · rw [bi_f] at c_73
        refine gi_iconst dX10_reason_80 ?_
        refine gi_isub dX10_reason_81 ?_
        refine gi_icmp_ge (tgt := 87) dX10_reason_82 (by decide) ⟨by omega, by omega⟩ ⟨by omega, by omega⟩ (fun c_82 => ?_) (fun c_82 => ?_)
        · refine gg_iload_n dX10_reason_87 rfl ?_
          refine gg_aload_n dX10_reason_88 rfl rfl ?_
          refine gc_X10_313 rfl dX10_reason_89 ⟨(Nat.le_of_ble_eq_true rfl), (Nat.le_of_ble_eq_true rfl)⟩ ⟨(Nat.le_of_ble_eq_true rfl), (Nat.le_of_ble_eq_true rfl)⟩ (Nat.le_of_ble_eq_true rfl) (HAt.mu rfl) (c_X10_mostElisions hL2) (fun _ _ w => w.elim) (fun r_89 h_89 hp => ?_)
          obtain ⟨rfl, rfl⟩ := hp
          rw [mst_fr (F := F1) (A := A1) e16 h10 h12 h13 h14]
          have hme := mst_r F1 A1
          refine gi_isub dX10_reason_92 ?_
          refine gg_aload_n dX10_reason_93 rfl rfl ?_
          refine gc_X10_277 rfl dX10_reason_94 ⟨(Nat.le_of_ble_eq_true rfl), (Nat.le_of_ble_eq_true rfl)⟩ ⟨(Nat.le_of_ble_eq_true rfl), (Nat.le_of_ble_eq_true rfl)⟩ (Nat.le_of_ble_eq_true rfl) (HAt.mu rfl) (c_X10_positions k9 f9) (fun _ _ w => w.elim) (fun r_94 h_94 hp => ?_)
          obtain ⟨rfl, rfl⟩ := hp
          rw [e27, e28]
          have hps : 4 ≤ A 1 1 * szk (A 1 0) ∧ A 1 1 * szk (A 1 0) ≤ 18 := by rcases szk_r (A 1 0) with q | q <;> rw [q] <;> omega
          refine gi_iconst dX10_reason_97 ?_
          refine gi_iadd dX10_reason_98 ?_
          refine gi_icmp_le (tgt := 106) dX10_reason_99 (by decide) ⟨by omega, by omega⟩ ⟨by omega, by omega⟩ (fun c_99 => ?_) (fun c_99 => ?_)
          · refine gi_iconst dX10_reason_106 ?_
            subst hQF9
            refine gg_iret dX10_reason_107 rfl rfl ⟨(Nat.le_of_ble_eq_true rfl), (Nat.le_of_ble_eq_true rfl)⟩ ?_
            refine Or.inr ⟨by omega, F1, F2, A1, A2, rfl, hfF, hfA, hL, ?_, e0⟩
            rw [rsn, if_neg (by omega), if_neg (by first | (rw [c_73, if_pos rfl]; omega) | (rw [c_73, if_neg (by decide)]; omega)), if_neg (by omega)]
          · refine gi_iconst dX10_reason_102 ?_
            refine gg_goto (tgt := 107) dX10_reason_103 (by decide) ?_
            subst hQF9
            refine gg_iret dX10_reason_107 rfl rfl ⟨(Nat.le_of_ble_eq_true rfl), (Nat.le_of_ble_eq_true rfl)⟩ ?_
            refine Or.inr ⟨by omega, F1, F2, A1, A2, rfl, hfF, hfA, hL, ?_, e0⟩
            rw [rsn, if_neg (by omega), if_neg (by first | (rw [c_73, if_pos rfl]; omega) | (rw [c_73, if_neg (by decide)]; omega)), if_pos (by omega)]
        · refine gi_iconst dX10_reason_85 ?_
          subst hQF9
          refine gg_iret dX10_reason_86 rfl rfl ⟨(Nat.le_of_ble_eq_true rfl), (Nat.le_of_ble_eq_true rfl)⟩ ?_
          refine Or.inr ⟨by omega, F1, F2, A1, A2, rfl, hfF, hfA, hL, ?_, e0⟩
          rw [rsn, if_neg (by omega), if_pos (by first | (rw [c_73, if_pos rfl]; omega) | (rw [c_73, if_neg (by decide)]; omega))]
      · rw [bi_t] at c_73
        refine gi_iconst dX10_reason_76 ?_
        refine gg_goto (tgt := 81) dX10_reason_77 (by decide) ?_
        refine gi_isub dX10_reason_81 ?_
        refine gi_icmp_ge (tgt := 87) dX10_reason_82 (by decide) ⟨by omega, by omega⟩ ⟨by omega, by omega⟩ (fun c_82 => ?_) (fun c_82 => ?_)
        · refine gg_iload_n dX10_reason_87 rfl ?_
          refine gg_aload_n dX10_reason_88 rfl rfl ?_
          refine gc_X10_313 rfl dX10_reason_89 ⟨(Nat.le_of_ble_eq_true rfl), (Nat.le_of_ble_eq_true rfl)⟩ ⟨(Nat.le_of_ble_eq_true rfl), (Nat.le_of_ble_eq_true rfl)⟩ (Nat.le_of_ble_eq_true rfl) (HAt.mu rfl) (c_X10_mostElisions hL2) (fun _ _ w => w.elim) (fun r_89 h_89 hp => ?_)
          obtain ⟨rfl, rfl⟩ := hp
          rw [mst_fr (F := F1) (A := A1) e16 h10 h12 h13 h14]
          have hme := mst_r F1 A1
          refine gi_isub dX10_reason_92 ?_
          refine gg_aload_n dX10_reason_93 rfl rfl ?_
          refine gc_X10_277 rfl dX10_reason_94 ⟨(Nat.le_of_ble_eq_true rfl), (Nat.le_of_ble_eq_true rfl)⟩ ⟨(Nat.le_of_ble_eq_true rfl), (Nat.le_of_ble_eq_true rfl)⟩ (Nat.le_of_ble_eq_true rfl) (HAt.mu rfl) (c_X10_positions k9 f9) (fun _ _ w => w.elim) (fun r_94 h_94 hp => ?_)
          obtain ⟨rfl, rfl⟩ := hp
          rw [e27, e28]
          have hps : 4 ≤ A 1 1 * szk (A 1 0) ∧ A 1 1 * szk (A 1 0) ≤ 18 := by rcases szk_r (A 1 0) with q | q <;> rw [q] <;> omega
          refine gi_iconst dX10_reason_97 ?_
          refine gi_iadd dX10_reason_98 ?_
          refine gi_icmp_le (tgt := 106) dX10_reason_99 (by decide) ⟨by omega, by omega⟩ ⟨by omega, by omega⟩ (fun c_99 => ?_) (fun c_99 => ?_)
          · refine gi_iconst dX10_reason_106 ?_
            subst hQF9
            refine gg_iret dX10_reason_107 rfl rfl ⟨(Nat.le_of_ble_eq_true rfl), (Nat.le_of_ble_eq_true rfl)⟩ ?_
            refine Or.inr ⟨by omega, F1, F2, A1, A2, rfl, hfF, hfA, hL, ?_, e0⟩
            rw [rsn, if_neg (by omega), if_neg (by first | (rw [c_73, if_pos rfl]; omega) | (rw [c_73, if_neg (by decide)]; omega)), if_neg (by omega)]
          · refine gi_iconst dX10_reason_102 ?_
            refine gg_goto (tgt := 107) dX10_reason_103 (by decide) ?_
            subst hQF9
            refine gg_iret dX10_reason_107 rfl rfl ⟨(Nat.le_of_ble_eq_true rfl), (Nat.le_of_ble_eq_true rfl)⟩ ?_
            refine Or.inr ⟨by omega, F1, F2, A1, A2, rfl, hfF, hfA, hL, ?_, e0⟩
            rw [rsn, if_neg (by omega), if_neg (by first | (rw [c_73, if_pos rfl]; omega) | (rw [c_73, if_neg (by decide)]; omega)), if_pos (by omega)]
        · refine gi_iconst dX10_reason_85 ?_
          subst hQF9
          refine gg_iret dX10_reason_86 rfl rfl ⟨(Nat.le_of_ble_eq_true rfl), (Nat.le_of_ble_eq_true rfl)⟩ ?_
          refine Or.inr ⟨by omega, F1, F2, A1, A2, rfl, hfF, hfA, hL, ?_, e0⟩
          rw [rsn, if_neg (by omega), if_pos (by first | (rw [c_73, if_pos rfl]; omega) | (rw [c_73, if_neg (by decide)]; omega))]
    · refine gg_aload_n dX10_reason_33 rfl rfl ?_
      refine gm_get115 rfl dX10_reason_34 (by (try simp only [uF_s, uF_n, ne_eq, not_false_eq_true, Nat.reduceEqDiff, reduceCtorEq]); rfl) ?_
      refine gg_aload_n dX10_reason_37 rfl rfl ?_
      refine gm_get13 rfl dX10_reason_38 ?_
      refine gi_iconst dX10_reason_41 ?_
      refine gm_iald dX10_reason_42 (by decide) rfl (by decide) ⟨by omega, by simp only [ml9]; omega⟩ (by rw [h1, g1]) ?_
      refine gi_icmp_gt (tgt := 50) dX10_reason_43 (by decide) ⟨by omega, by omega⟩ ⟨by omega, by omega⟩ (fun c_43 => ?_) (fun c_43 => ?_)
      · refine gi_iconst dX10_reason_50 ?_
        subst hQF9
        refine gg_iret dX10_reason_51 rfl rfl ⟨(Nat.le_of_ble_eq_true rfl), (Nat.le_of_ble_eq_true rfl)⟩ ?_
        refine Or.inr ⟨by omega, F1, F2, A1, A2, rfl, hfF, hfA, hL, ?_, e0⟩
        rw [rsn, if_pos (by omega), if_neg (by omega)]
      · refine gi_iconst dX10_reason_46 ?_
        refine gg_goto (tgt := 51) dX10_reason_47 (by decide) ?_
        subst hQF9
        refine gg_iret dX10_reason_51 rfl rfl ⟨(Nat.le_of_ble_eq_true rfl), (Nat.le_of_ble_eq_true rfl)⟩ ?_
        refine Or.inr ⟨by omega, F1, F2, A1, A2, rfl, hfF, hfA, hL, ?_, e0⟩
        rw [rsn, if_pos (by omega), if_pos (by omega)]
  · rw [bi_f] at c_11
    simp at c_11
    refine gg_aload_n dX10_reason_14 rfl rfl ?_
    refine gi_iconst dX10_reason_15 ?_
    refine gc_X10_162 rfl dX10_reason_16 ⟨(Nat.le_of_ble_eq_true rfl), (Nat.le_of_ble_eq_true rfl)⟩ ⟨(Nat.le_of_ble_eq_true rfl), (Nat.le_of_ble_eq_true rfl)⟩ (Nat.le_of_ble_eq_true rfl) (HAt.mu rfl) (c_X10_fails) (fun _ _ w => w.elim) (fun r_16 h_16 hp => ?_)
    obtain ⟨rfl, rfl⟩ := hp
    subst hQF9
    refine gg_iret dX10_reason_19 rfl rfl ⟨(Nat.le_of_ble_eq_true rfl), (Nat.le_of_ble_eq_true rfl)⟩ ?_
    exact Or.inl ⟨by omega, rfl, by rw [uF_ss]⟩
