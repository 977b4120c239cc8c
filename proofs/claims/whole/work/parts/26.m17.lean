/-! the reference: exceptions read -/
theorem fnd_cg {a : Int → Int} {d l : Int} {c e : Int → Int} : ∀ k : Nat, (∀ j : Int, 0 ≤ j → j < k → c j = e j) → fnd a d c l k = fnd a d e l k
  | 0, _ => rfl
  | k + 1, hq => by rw [fnd, fnd, fnd_cg k (fun j j0 j1 => hq j j0 (by omega)), hq k (by omega) (by omega)]
theorem frs_cg {c e : Int → Int} : ∀ k : Nat, (∀ j : Int, 0 ≤ j → j < k → c j = e j) → frs c k = frs e k
  | 0, _ => rfl
  | k + 1, hq => by rw [frs, frs, frs_cg k (fun j j0 j1 => hq j j0 (by omega)), hq k (by omega) (by omega)]
theorem clsF_cg {a : Int → Int} {d : Int} {g e : Int → Int} : ∀ l : Nat, ∀ j : Int, 0 ≤ j → j < l → clsF a d g l j = clsF a d e l j
  | 0, j, h0, h1 => by omega
  | l + 1, j, h0, h1 => by
    have ih := clsF_cg (a := a) (d := d) (g := g) (e := e) l
    rw [clsF, clsF]
    by_cases q : j = l
    · rw [q, up_s, up_s, fnd_cg l ih, frs_cg l ih]
    · rw [up_n q, up_n q]; exact ih j h0 (by omega)
def dgR (f : Int → Int) (n : Int) : Nat → Int → Int
  | 0, _ => 0
  | m + 1, p => if p < n ∧ 48 ≤ f p ∧ f p ≤ 50 then 1 + dgR f n m (p + 1) else 0
theorem dgR_r (f : Int → Int) (n : Int) : ∀ (m : Nat) (p : Int), 0 ≤ dgR f n m p ∧ dgR f n m p ≤ m ∧ (p ≤ n → p + dgR f n m p ≤ n)
  | 0, p => by simp [dgR]
  | m + 1, p => by
    have := dgR_r f n m (p + 1)
    rw [dgR]; split <;> omega
theorem dgR_y {f : Int → Int} {n p : Int} {m : Int} (hm : 0 < m) (q : p < n ∧ 48 ≤ f p ∧ f p ≤ 50) : dgR f n m.toNat p = 1 + dgR f n (m - 1).toNat (p + 1) := by
  rw [show m.toNat = (m - 1).toNat + 1 by omega, dgR, if_pos q]
theorem dgR_n {f : Int → Int} {n p : Int} {m : Nat} (q : ¬ (p < n ∧ 48 ≤ f p ∧ f p ≤ 50)) : dgR f n m p = 0 := by
  cases m with
  | zero => rfl
  | succ m => rw [dgR, if_neg q]
/-- behind the word there is a blank -/
abbrev rxO (f : Int → Int) (n wv : Int) : Prop := wv ≠ 0 ∧ wv < n ∧ f wv = 32
def rxJ (f : Int → Int) (n wv iv av ev : Int) (mv : Int → Int) : Prop := (¬ rxO f n wv ∧ ev = 1 ∧ av = wv) ∨ (rxO f n wv ∧ ((iv = 0 ∧ ev = 0 ∧ av = wv + 1) ∨ (iv = 1 ∧ ev = 1 ∧ av = wv + 1 ∧ dgR f n 6 (wv + 1) = 0) ∨ (1 ≤ iv ∧ ev = 0 ∧ av = wv + 1 + iv ∧ dgR f n 6 (wv + 1) = iv + dgR f n (6 - iv).toNat av ∧ ∀ k, 0 ≤ k → k < iv → mv k = f (wv + 1 + k) - 48)))
def rxK (f : Int → Int) (n wv iv av ev : Int) (mv : Int → Int) : Prop := (¬ rxO f n wv ∧ ev = 1 ∧ av = wv) ∨ (rxO f n wv ∧ ((ev = 1 ∧ av = wv + 1 ∧ dgR f n 6 (wv + 1) = 0) ∨ (1 ≤ iv ∧ ev = 0 ∧ av = wv + 1 + iv ∧ dgR f n 6 (wv + 1) = iv ∧ ∀ k, 0 ≤ k → k < iv → mv k = f (wv + 1 + k) - 48)))
theorem rxJ_d {f : Int → Int} {n wv iv av ev sv : Int} {mv : Int → Int} (J : rxJ f n wv iv av ev mv) (hs : sv = if ev = 0 ∧ av < n then f av else -1) (hi : 0 ≤ iv ∧ iv < 6) (h1 : 48 ≤ sv) (h2 : sv ≤ 50) : rxJ f n wv (iv + 1) (av + 1) ev (up mv iv (sv - 48)) ∧ ev = 0 ∧ av < n := by
  by_cases q : ev = 0 ∧ av < n
  · rw [if_pos q] at hs
    refine ⟨?_, q⟩
    rcases J with ⟨j1, j2, j3⟩ | ⟨j1, ⟨j2, j3, j4⟩ | ⟨j2, j3, j4⟩ | ⟨j2, j3, j4, j5, j6⟩⟩
    · omega
    · refine Or.inr ⟨j1, Or.inr (Or.inr ⟨by omega, j3, by omega, ?_, fun k k0 k1 => ?_⟩)⟩
      · have e9 := dgR_y (f := f) (n := n) (p := av) (m := 6) (by omega) ⟨q.2, by omega, by omega⟩
        rw [show ((6 : Int)).toNat = 6 from rfl] at e9
        rw [← j4, e9, j2]; rfl
      · rw [show k = iv by omega, up_s, hs, show wv + 1 + iv = av by omega]
    · omega
    · refine Or.inr ⟨j1, Or.inr (Or.inr ⟨by omega, j3, by omega, ?_, fun k k0 k1 => ?_⟩)⟩
      · rw [j5, dgR_y (by omega) ⟨q.2, by omega, by omega⟩, show 6 - iv - 1 = 6 - (iv + 1) by omega]; omega
      · by_cases e9 : k = iv
        · rw [e9, up_s, hs, show wv + 1 + iv = av by omega]
        · rw [up_n e9]; exact j6 k k0 (by omega)
  · rw [if_neg q] at hs; omega
theorem rxJ_e {f : Int → Int} {n wv iv av ev sv x : Int} {mv : Int → Int} (J : rxJ f n wv iv av ev mv) (hs : sv = if ev = 0 ∧ av < n then f av else -1) (hi : iv = 0) (h1 : ¬ (48 ≤ sv ∧ sv ≤ 50)) : rxJ f n wv (iv + 1) av 1 (up mv iv x) := by
  rcases J with ⟨j1, j2, j3⟩ | ⟨j1, ⟨j2, j3, j4⟩ | ⟨j2, j3, j4⟩ | ⟨j2, j3, j4, j5, j6⟩⟩
  · exact Or.inl ⟨j1, rfl, j3⟩
  · refine Or.inr ⟨j1, Or.inr (Or.inl ⟨by omega, rfl, j4, ?_⟩)⟩
    refine dgR_n (fun q => ?_)
    rw [← j4] at q
    rw [if_pos ⟨j3, q.1⟩] at hs
    omega
  · omega
  · omega
theorem rxJ_k {f : Int → Int} {n wv iv av ev sv : Int} {mv : Int → Int} (J : rxJ f n wv iv av ev mv) (hs : sv = if ev = 0 ∧ av < n then f av else -1) (hi : 1 ≤ iv) (h1 : iv = 6 ∨ ¬ (48 ≤ sv ∧ sv ≤ 50)) : rxK f n wv iv av ev mv := by
  rcases J with ⟨j1, j2, j3⟩ | ⟨j1, ⟨j2, j3, j4⟩ | ⟨j2, j3, j4, j5⟩ | ⟨j2, j3, j4, j5, j6⟩⟩
  · exact Or.inl ⟨j1, j2, j3⟩
  · omega
  · exact Or.inr ⟨j1, Or.inl ⟨j3, j4, j5⟩⟩
  · refine Or.inr ⟨j1, Or.inr ⟨j2, j3, j4, ?_, j6⟩⟩
    rw [j5]
    rcases h1 with h1 | h1
    · rw [h1]; simp [dgR]
    · rw [dgR_n (fun q => ?_), Int.add_zero]
      rw [if_pos ⟨j3, q.1⟩] at hs
      omega
/-- an exception put: its number, its word's length, the letters, the marks' number, the marks -/
def rxA (a inp : Int → Int) (n dg e : Int) (m : Int → Int) : Int → Int := lyA (lyA (if a 4 ≤ e then up a 4 (a 4 + 1) else a) inp n (9 + 20 * e) 12) m dg (9 + 20 * e + 1 + 12) 6
theorem kA_6 {A : Nat → Int → Int} {m : Int → Int} {c : Int} : kA (uA A 6 m) c = kA A c := by unfold kA; rw [uA_n (by decide), uA_n (by decide)]
theorem lyA_get {a inp : Int → Int} {n t k j : Int} (h : j < t ∨ t + k < j) (hk : 0 ≤ k) : lyA a inp n t k j = a j := by
  unfold lyA; rw [if_neg (by omega), if_neg (by omega)]
set_option maxRecDepth 100000 in
set_option maxHeartbeats 4000000 in
theorem c_X10_readException {Γ : GT} {h : XH} {F : Nat → Int} {A : Nat → Int → Int} (S : StA (A 1)) (h5 : 0 ≤ F 5 ∧ F 5 ≤ 8) (h8 : 0 ≤ F 8 ∧ F 8 ≤ 60) (h10 : InR (F 10)) (i4 : ∀ i, 0 ≤ i ∧ i < F 8 → 0 ≤ A 5 i ∧ A 5 i < 65536) (T5 : ∀ x, InR (A 5 x)) {wv : Int} (hw : wv = wlen (A 5) (F 8) 12 0) : Ct Γ M_X10_readException [.ref (g_L Γ 0)] (mst Γ h F A) (fun r h9 => ∃ m : Int → Int, (¬ (rxO (A 5) (F 8) wv ∧ dgR (A 5) (F 8) 6 (wv + 1) ≠ 0 ∧ wv + 1 + dgR (A 5) (F 8) 6 (wv + 1) = F 8) ∧ r = some (.int (iN (0))) ∧ h9 = mst Γ h (uF (uF (uF (uF (uF (uF F 0 1) 8 0) 9 (if rxO (A 5) (F 8) wv then wv + 1 + dgR (A 5) (F 8) 6 (wv + 1) else wv)) 10 (if rxO (A 5) (F 8) wv then wv + 1 + dgR (A 5) (F 8) 6 (wv + 1) else wv)) 11 1) 12 (F 8)) (uA A 6 m)) ∨ ((rxO (A 5) (F 8) wv ∧ dgR (A 5) (F 8) 6 (wv + 1) ≠ 0 ∧ wv + 1 + dgR (A 5) (F 8) 6 (wv + 1) = F 8) ∧ (∀ k, 0 ≤ k → k < dgR (A 5) (F 8) 6 (wv + 1) → m k = A 5 (wv + 1 + k) - 48) ∧ exO (A 1) (A 5) 0 wv < 0 ∧ A 1 4 = 8 ∧ r = some (.int (iN (0))) ∧ h9 = mst Γ h (uF (uF (uF (uF (uF F 0 2) 8 0) 9 (F 8)) 11 0) 12 (F 8)) (uA A 6 m)) ∨ ((rxO (A 5) (F 8) wv ∧ dgR (A 5) (F 8) 6 (wv + 1) ≠ 0 ∧ wv + 1 + dgR (A 5) (F 8) 6 (wv + 1) = F 8) ∧ (∀ k, 0 ≤ k → k < dgR (A 5) (F 8) 6 (wv + 1) → m k = A 5 (wv + 1 + k) - 48) ∧ (0 ≤ exO (A 1) (A 5) 0 wv ∨ A 1 4 < 8) ∧ r = some (.int (iN ((if exO (A 1) (A 5) 0 wv < 0 then A 1 4 else exO (A 1) (A 5) 0 wv)))) ∧ h9 = mst Γ h (uF (uF (uF (uF (uF (uF F 0 0) 5 (kc (F 5))) 8 0) 9 (F 8)) 11 0) 12 (F 8)) (uA (uA (uA A 1 (rxA (A 1) (A 5) wv (dgR (A 5) (F 8) 6 (wv + 1)) (if exO (A 1) (A 5) 0 wv < 0 then A 1 4 else exO (A 1) (A 5) 0 wv) m)) 4 (kA A (F 5))) 6 m))) (fun _ _ => False) := by
  refine Ct.of rfl (by decide +kernel) (Nat.le_of_ble_eq_true rfl) ?_
  generalize hQF9 : QM Γ _ _ _ = QF9
  obtain ⟨t0, t1, t2, t3, t4, t5, t6⟩ := id S
  refine gg_aload_n dX10_readException_0 rfl rfl ?_
  refine gc_X10_174 rfl dX10_readException_1 ⟨(Nat.le_of_ble_eq_true rfl), (Nat.le_of_ble_eq_true rfl)⟩ ⟨(Nat.le_of_ble_eq_true rfl), (Nat.le_of_ble_eq_true rfl)⟩ (Nat.le_of_ble_eq_true rfl) (HAt.mu rfl) (c_X10_begins) (fun _ _ w => w.elim) (fun r_1 h_1 hp => ?_)
  obtain ⟨rfl, rfl⟩ := hp
  simp only [uF_s, uF_n, uF_ss, uF_cc, id_eq, ne_eq, not_false_eq_true, Nat.reduceEqDiff, Nat.reduceLT, reduceCtorEq]
  refine gg_aload_n dX10_readException_4 rfl rfl ?_
  refine gc_X10_177 rfl dX10_readException_5 ⟨(Nat.le_of_ble_eq_true rfl), (Nat.le_of_ble_eq_true rfl)⟩ ⟨(Nat.le_of_ble_eq_true rfl), (Nat.le_of_ble_eq_true rfl)⟩ (Nat.le_of_ble_eq_true rfl) (HAt.mu rfl) (c_X10_word (by refine ⟨?_, ?_, ?_, ?_⟩ <;> (try simp only [uF_s, uF_n, uF_ss, uF_cc, id_eq, ne_eq, not_false_eq_true, Nat.reduceEqDiff, Nat.reduceLT, reduceCtorEq, uA_s, uA_n, uA_ss, uA_cc, id_eq, ne_eq, not_false_eq_true, Nat.reduceEqDiff, Nat.reduceLT, reduceCtorEq]) <;> first | omega | assumption | exact bi_01 _ | exact Or.inl trivial) (by simp only [uF_s, uF_n, uF_ss, uF_cc, id_eq, ne_eq, not_false_eq_true, Nat.reduceEqDiff, Nat.reduceLT, reduceCtorEq])) (fun _ _ w => w.elim) (fun r_5 h_5 hp => ?_)
  obtain ⟨rfl, rfl⟩ := hp
  simp only [uF_s, uF_n, uF_ss, uF_cc, id_eq, ne_eq, not_false_eq_true, Nat.reduceEqDiff, Nat.reduceLT, reduceCtorEq]
  rw [← hw]
  have hwr := wlen_r (A 5) (F 8) 12 0
  rw [← hw] at hwr
  simp only [Int.zero_add] at hwr ⊢
  obtain ⟨ew, hew⟩ : ∃ ew, ew = bi (decide (wv = 0) || isLet (sgn (uF (uF (uF F 0 0) 9 wv) 11 0) A)) := ⟨_, rfl⟩
  rw [← hew]
  have he01 : ew = 0 ∨ ew = 1 := by rw [hew]; exact bi_01 _
  refine gg_istore_n dX10_readException_8 (Nat.le_of_ble_eq_true rfl) rfl ?_
  refine gg_aload_n dX10_readException_9 rfl rfl ?_
  refine gi_bipush dX10_readException_10 (by decide) ?_
  refine gc_X10_197 rfl dX10_readException_12 ⟨(Nat.le_of_ble_eq_true rfl), (Nat.le_of_ble_eq_true rfl)⟩ ⟨(Nat.le_of_ble_eq_true rfl), (Nat.le_of_ble_eq_true rfl)⟩ (Nat.le_of_ble_eq_true rfl) (HAt.mu rfl) (c_X10_takes (by refine ⟨?_, ?_, ?_, ?_⟩ <;> (try simp only [uF_s, uF_n, uF_ss, uF_cc, id_eq, ne_eq, not_false_eq_true, Nat.reduceEqDiff, Nat.reduceLT, reduceCtorEq, uA_s, uA_n, uA_ss, uA_cc, id_eq, ne_eq, not_false_eq_true, Nat.reduceEqDiff, Nat.reduceLT, reduceCtorEq]) <;> first | omega | assumption | exact bi_01 _ | exact Or.inl trivial) ⟨by omega, by omega⟩) (fun _ _ w => w.elim) (fun r_12 h_12 hp => ?_)
  obtain ⟨rfl, rfl⟩ := hp
  obtain ⟨av, ev, hst, ha, he, J⟩ : ∃ av ev : Int, (if sgn (uF (uF (uF F 0 0) 9 wv) 11 ew) A = 32 then uF (uF (uF (uF F 0 0) 9 wv) 11 ew) 9 (uF (uF (uF F 0 0) 9 wv) 11 ew 9 + 1) else uF (uF (uF (uF F 0 0) 9 wv) 11 ew) 11 1) = uF (uF (uF F 0 0) 9 av) 11 ev ∧ (0 ≤ av ∧ av ≤ F 8) ∧ (ev = 0 ∨ ev = 1) ∧ ((¬ rxO (A 5) (F 8) wv ∧ ev = 1 ∧ av = wv) ∨ (rxO (A 5) (F 8) wv ∧ ev = 0 ∧ av = wv + 1)) := by
    by_cases q2 : sgn (uF (uF (uF F 0 0) 9 wv) 11 ew) A = 32
    · have q3 := sgn_lt (show sgn (uF (uF (uF F 0 0) 9 wv) 11 ew) A ≠ -1 by rw [q2]; decide)
      simp only [uF_s, uF_n, uF_ss, uF_cc, id_eq, ne_eq, not_false_eq_true, Nat.reduceEqDiff, Nat.reduceLT, reduceCtorEq] at q3
      have q4 : wv ≠ 0 := by
        intro z
        rw [decide_eq_true z, Bool.true_or] at hew
        rw [q3.1] at hew; cases hew
      refine ⟨wv + 1, ew, ?_, by omega, he01, Or.inr ⟨⟨q4, q3.2.1, by rw [← q3.2.2]; exact q2⟩, q3.1, rfl⟩⟩
      rw [if_pos q2]; simp only [uF_s, uF_n, uF_ss, uF_cc, id_eq, ne_eq, not_false_eq_true, Nat.reduceEqDiff, Nat.reduceLT, reduceCtorEq]
    · refine ⟨wv, 1, ?_, by omega, Or.inr rfl, Or.inl ⟨?_, rfl, rfl⟩⟩
      · rw [if_neg q2]; simp only [uF_s, uF_n, uF_ss, uF_cc, id_eq, ne_eq, not_false_eq_true, Nat.reduceEqDiff, Nat.reduceLT, reduceCtorEq]
      · rintro ⟨z1, z2, z3⟩
        have z4 : ew = 0 := by
          rw [hew]; simp only [sgn, uF_s, uF_n, uF_ss, uF_cc, id_eq, ne_eq, not_false_eq_true, Nat.reduceEqDiff, Nat.reduceLT, reduceCtorEq]
          rw [if_pos ⟨trivial, z2⟩, z3, decide_eq_false z1]; rfl
        exact q2 (by simp only [sgn, uF_s, uF_n, uF_ss, uF_cc, id_eq, ne_eq, not_false_eq_true, Nat.reduceEqDiff, Nat.reduceLT, reduceCtorEq]; rw [if_pos ⟨z4, z2⟩]; exact z3)
  rw [hst]
  refine gi_iconst dX10_readException_15 ?_
  refine gg_istore_n dX10_readException_16 (Nat.le_of_ble_eq_true rfl) rfl ?_
  have L_17 : ∀ (n9 : Nat) (iv av ev : Int) (mv : Int → Int), ((6 - iv).toNat) = n9 → ∀ (hi : 0 ≤ iv ∧ iv ≤ 6) (ha : 0 ≤ av ∧ av ≤ F 8) (he : ev = 0 ∨ ev = 1) (J : rxJ (A 5) (F 8) wv iv av ev mv), GG Γ M_X10_readException QF9 (0, 0) (mst Γ h (uF (uF (uF F 0 0) 9 av) 11 ev) (uA A 6 mv)) 17 [some (.ref (g_L Γ 0)), some (.int (iN wv)), some (.int (iN iv)), none, none, none] [] := by
    intro n9
    induction n9 using Nat.strongRecOn with
    | ind n9 ih_17 => 
      intro iv av ev mv hm9 hi ha he J
      have L_59 : ∀ (iv av ev : Int) (mv : Int → Int) (hi : 0 ≤ iv ∧ iv ≤ 6) (ha : 0 ≤ av ∧ av ≤ F 8) (he : ev = 0 ∨ ev = 1) (K : rxK (A 5) (F 8) wv iv av ev mv), GG Γ M_X10_readException QF9 (0, 0) (mst Γ h (uF (uF (uF F 0 0) 9 av) 11 ev) (uA A 6 mv)) 59 [some (.ref (g_L Γ 0)), some (.int (iN wv)), some (.int (iN iv)), none, none, none] [] := by
        intro iv av ev mv hi ha he K
        refine gg_aload_n dX10_readException_59 rfl rfl ?_
        refine gc_X10_180 rfl dX10_readException_60 ⟨(Nat.le_of_ble_eq_true rfl), (Nat.le_of_ble_eq_true rfl)⟩ ⟨(Nat.le_of_ble_eq_true rfl), (Nat.le_of_ble_eq_true rfl)⟩ (Nat.le_of_ble_eq_true rfl) (HAt.mu rfl) (c_X10_isWrong (by refine ⟨?_, ?_, ?_, ?_⟩ <;> (try simp only [uF_s, uF_n, uF_ss, uF_cc, id_eq, ne_eq, not_false_eq_true, Nat.reduceEqDiff, Nat.reduceLT, reduceCtorEq, uA_s, uA_n, uA_ss, uA_cc, id_eq, ne_eq, not_false_eq_true, Nat.reduceEqDiff, Nat.reduceLT, reduceCtorEq]) <;> first | omega | assumption | exact bi_01 _ | exact Or.inl trivial) (by simp only [uF_s, uF_n, uF_ss, uF_cc, id_eq, ne_eq, not_false_eq_true, Nat.reduceEqDiff, Nat.reduceLT, reduceCtorEq]; exact h10)) (fun _ _ w => w.elim) (fun r_60 h_60 hp => ?_)
        simp only [uF_s, uF_n, uF_ss, uF_cc, id_eq, ne_eq, not_false_eq_true, Nat.reduceEqDiff, Nat.reduceLT, reduceCtorEq] at hp
        rcases hp with ⟨x1, rfl, rfl⟩ | ⟨x1, rfl, rfl⟩
        · have z9 : rxO (A 5) (F 8) wv ∧ 1 ≤ iv ∧ av = F 8 ∧ dgR (A 5) (F 8) 6 (wv + 1) = iv ∧ ∀ k, 0 ≤ k → k < iv → mv k = A 5 (wv + 1 + k) - 48 := by
            rcases K with ⟨k1, k2, k3⟩ | ⟨k1, ⟨k2, k3, k4⟩ | ⟨k2, k3, k4, k5, k6⟩⟩
            · omega
            · omega
            · exact ⟨k1, k2, by omega, k5, k6⟩
          obtain ⟨z1, z2, rfl, z4, z5⟩ := z9
          have z7 : wv + 1 + iv = F 8 := by
            rcases K with ⟨k1, k2, k3⟩ | ⟨k1, ⟨k2, k3, k4⟩ | ⟨k2, k3, k4, k5, k6⟩⟩ <;> omega
          refine gi_if_eq (tgt := 72) dX10_readException_63 (by decide) ⟨by omega, by omega⟩ (fun c_63 => ?_) (fun c_63 => ?_)
          · refine gg_aload_n dX10_readException_72 rfl rfl ?_
            refine gg_aload_n dX10_readException_73 rfl rfl ?_
            refine gm_get33 rfl dX10_readException_74 ?_
            refine gi_iconst dX10_readException_77 ?_
            refine gg_iload_n dX10_readException_78 rfl ?_
            refine gc_X10_214 rfl dX10_readException_79 ⟨(Nat.le_of_ble_eq_true rfl), (Nat.le_of_ble_eq_true rfl)⟩ ⟨(Nat.le_of_ble_eq_true rfl), (Nat.le_of_ble_eq_true rfl)⟩ (Nat.le_of_ble_eq_true rfl) (HAt.mu rfl) (c_X10_exceptionOf (j := 5) (by simp only [uA_s, uA_n, uA_ss, uA_cc, id_eq, ne_eq, not_false_eq_true, Nat.reduceEqDiff, Nat.reduceLT, reduceCtorEq]; exact S) (by decide) rfl (by decide) ⟨by omega, by omega⟩ ⟨by omega, by simp only [ml9]; omega⟩ (by simp only [uA_s, uA_n, uA_ss, uA_cc, id_eq, ne_eq, not_false_eq_true, Nat.reduceEqDiff, Nat.reduceLT, reduceCtorEq]; exact T5)) (fun _ _ w => w.elim) (fun r_79 h_79 hp => ?_)
            obtain ⟨rfl, rfl⟩ := hp
            simp only [uA_s, uA_n, uA_ss, uA_cc, id_eq, ne_eq, not_false_eq_true, Nat.reduceEqDiff, Nat.reduceLT, reduceCtorEq]
            have hx9 := exO_r (a := A 1) (r := A 5) (fr := 0) (n := wv) t4.1
            obtain ⟨ex, hex⟩ : ∃ ex, ex = exO (A 1) (A 5) 0 wv := ⟨_, rfl⟩
            rw [← hex] at hx9 ⊢
            refine gg_istore_n dX10_readException_82 (Nat.le_of_ble_eq_true rfl) rfl ?_
            refine gg_iload_n dX10_readException_83 rfl ?_
            refine gi_if_ge (tgt := 104) dX10_readException_84 (by decide) ⟨by omega, by omega⟩ (fun c_84 => ?_) (fun c_84 => ?_)
            · have L_104 : ∀  (y1 : 0 ≤ ex ∨ A 1 4 < 8), GG Γ M_X10_readException QF9 (0, 0) (mst Γ h (uF (uF (uF (uF (uF F 0 0) 8 0) 9 (F 8)) 11 0) 12 (F 8)) (uA A 6 mv)) 104 [some (.ref (g_L Γ 0)), some (.int (iN wv)), some (.int (iN iv)), some (.int (iN ex)), none, none] [] := by
                intro  y1
                refine gg_aload_n dX10_readException_104 rfl rfl ?_
                refine gc_X10_184 rfl dX10_readException_105 ⟨(Nat.le_of_ble_eq_true rfl), (Nat.le_of_ble_eq_true rfl)⟩ ⟨(Nat.le_of_ble_eq_true rfl), (Nat.le_of_ble_eq_true rfl)⟩ (Nat.le_of_ble_eq_true rfl) (HAt.mu rfl) (c_X10_keeps (by simp only [uF_s, uF_n, uF_ss, uF_cc, id_eq, ne_eq, not_false_eq_true, Nat.reduceEqDiff, Nat.reduceLT, reduceCtorEq]; exact h5)) (fun _ _ w => w.elim) (fun r_105 h_105 hp => ?_)
                obtain ⟨rfl, rfl⟩ := hp
                simp only [uF_s, uF_n, uF_ss, uF_cc, id_eq, ne_eq, not_false_eq_true, Nat.reduceEqDiff, Nat.reduceLT, reduceCtorEq, kA_6]
                refine gg_iload_n dX10_readException_108 rfl ?_
                refine gi_if_ge (tgt := 129) dX10_readException_109 (by decide) ⟨by omega, by omega⟩ (fun c_109 => ?_) (fun c_109 => ?_)
                · have L_129 : ∀ (e9 : Int) (e8 : e9 = if ex < 0 then A 1 4 else ex) (e7 : 0 ≤ e9 ∧ e9 ≤ 7), GG Γ M_X10_readException QF9 (0, 0) (mst Γ h (uF (uF (uF (uF (uF (uF F 0 0) 5 (kc (F 5))) 8 0) 9 (F 8)) 11 0) 12 (F 8)) (uA (uA (uA A 1 ((if A 1 4 ≤ e9 then up (A 1) 4 (A 1 4 + 1) else A 1))) 4 (kA A (F 5))) 6 mv)) 129 [some (.ref (g_L Γ 0)), some (.int (iN wv)), some (.int (iN iv)), some (.int (iN e9)), none, none] [] := by
                    intro e9 e8 e7
                    refine gg_iload_n dX10_readException_129 rfl ?_
                    refine gc_X10_211 rfl dX10_readException_130 ⟨(Nat.le_of_ble_eq_true rfl), (Nat.le_of_ble_eq_true rfl)⟩ ⟨(Nat.le_of_ble_eq_true rfl), (Nat.le_of_ble_eq_true rfl)⟩ (Nat.le_of_ble_eq_true rfl) (c_X10_exceptionAt) (fun _ _ w => w.elim) (fun r_130 h_130 hp => ?_)
                    obtain ⟨rfl, rfl⟩ := hp
                    refine gg_istore dX10_readException_133 (Nat.le_of_ble_eq_true rfl) rfl ?_
                    refine gg_aload_n dX10_readException_135 rfl rfl ?_
                    refine gm_get13 rfl dX10_readException_136 ?_
                    refine gg_iload dX10_readException_139 rfl ?_
                    refine gg_iload_n dX10_readException_141 rfl ?_
                    refine gm_iast dX10_readException_142 (by decide) rfl (by decide) ⟨by omega, by simp only [ml9]; omega⟩ (by (try simp only [uA_s, uA_n, uA_ss, uA_cc, id_eq, ne_eq, not_false_eq_true, Nat.reduceEqDiff, Nat.reduceLT, reduceCtorEq]); rfl) ?_
                    refine gi_iconst dX10_readException_143 ?_
                    refine gg_istore dX10_readException_144 (Nat.le_of_ble_eq_true rfl) rfl ?_
                    have L_146 : ∀ (n9 : Nat) (k : Int), ((12 - k).toNat) = n9 → ∀ (hk : 0 ≤ k ∧ k ≤ 12), GG Γ M_X10_readException QF9 (0, 0) (mst Γ h (uF (uF (uF (uF (uF (uF F 0 0) 5 (kc (F 5))) 8 0) 9 (F 8)) 11 0) 12 (F 8)) (uA (uA (uA A 1 (lyA (if A 1 4 ≤ e9 then up (A 1) 4 (A 1 4 + 1) else A 1) (A 5) wv (9 + 20 * e9) k)) 4 (kA A (F 5))) 6 mv)) 146 [some (.ref (g_L Γ 0)), some (.int (iN wv)), some (.int (iN iv)), some (.int (iN e9)), some (.int (iN (9 + 20 * e9))), some (.int (iN k))] [] := by
                      intro n9
                      induction n9 using Nat.strongRecOn with
                      | ind n9 ih_146 => 
                        intro k hm9 hk
                        refine gg_iload dX10_readException_146 rfl ?_
                        refine gi_bipush dX10_readException_148 (by decide) ?_
                        refine gi_icmp_ge (tgt := 188) dX10_readException_150 (by decide) ⟨by omega, by omega⟩ ⟨by omega, by omega⟩ (fun c_150 => ?_) (fun c_150 => ?_)
                        · refine gg_aload_n dX10_readException_188 rfl rfl ?_
                          refine gm_get13 rfl dX10_readException_189 ?_
                          refine gg_iload dX10_readException_192 rfl ?_
                          refine gi_iconst dX10_readException_194 ?_
                          refine gi_iadd dX10_readException_195 ?_
                          refine gi_bipush dX10_readException_196 (by decide) ?_
                          refine gi_iadd dX10_readException_198 ?_
                          refine gg_iload_n dX10_readException_199 rfl ?_
                          refine gm_iast dX10_readException_200 (by decide) rfl (by decide) ⟨by omega, by simp only [ml9]; omega⟩ (by (try simp only [uA_s, uA_n, uA_ss, uA_cc, id_eq, ne_eq, not_false_eq_true, Nat.reduceEqDiff, Nat.reduceLT, reduceCtorEq]); rfl) ?_
                          refine gi_iconst dX10_readException_201 ?_
                          refine gg_istore dX10_readException_202 (Nat.le_of_ble_eq_true rfl) rfl ?_
                          have L_204 : ∀ (n9 : Nat) (k : Int), ((6 - k).toNat) = n9 → ∀ (hk : 0 ≤ k ∧ k ≤ 6), GG Γ M_X10_readException QF9 (0, 0) (mst Γ h (uF (uF (uF (uF (uF (uF F 0 0) 5 (kc (F 5))) 8 0) 9 (F 8)) 11 0) 12 (F 8)) (uA (uA (uA A 1 (lyA (lyA (if A 1 4 ≤ e9 then up (A 1) 4 (A 1 4 + 1) else A 1) (A 5) wv (9 + 20 * e9) 12) mv iv (9 + 20 * e9 + 1 + 12) k)) 4 (kA A (F 5))) 6 mv)) 204 [some (.ref (g_L Γ 0)), some (.int (iN wv)), some (.int (iN iv)), some (.int (iN e9)), some (.int (iN (9 + 20 * e9))), some (.int (iN k))] [] := by
                            intro n9
                            induction n9 using Nat.strongRecOn with
                            | ind n9 ih_204 => 
                              intro k hm9 hk
                              refine gg_iload dX10_readException_204 rfl ?_
                              refine gi_bipush dX10_readException_206 (by decide) ?_
                              refine gi_icmp_ge (tgt := 249) dX10_readException_208 (by decide) ⟨by omega, by omega⟩ ⟨by omega, by omega⟩ (fun c_208 => ?_) (fun c_208 => ?_)
                              · refine gg_iload_n dX10_readException_249 rfl ?_
                                subst hQF9
                                refine gg_iret dX10_readException_250 rfl rfl ⟨(Nat.le_of_ble_eq_true rfl), (Nat.le_of_ble_eq_true rfl)⟩ ?_
                                rw [hex] at e8 y1
                                refine ⟨mv, Or.inr (Or.inr ⟨⟨z1, by omega, by omega⟩, by rw [z4]; exact z5, y1, by rw [e8], ?_⟩)⟩
                                rw [← e8, z4, show k = 6 by omega]; rfl
                              · refine gg_aload_n dX10_readException_211 rfl rfl ?_
                                refine gm_get13 rfl dX10_readException_212 ?_
                                refine gg_iload dX10_readException_215 rfl ?_
                                refine gi_iconst dX10_readException_217 ?_
                                refine gi_iadd dX10_readException_218 ?_
                                refine gi_bipush dX10_readException_219 (by decide) ?_
                                refine gi_iadd dX10_readException_221 ?_
                                refine gg_iload dX10_readException_222 rfl ?_
                                refine gi_iadd dX10_readException_224 ?_
                                refine gg_iload dX10_readException_225 rfl ?_
                                refine gg_iload_n dX10_readException_227 rfl ?_
                                refine gi_icmp_ge (tgt := 241) dX10_readException_228 (by decide) ⟨by omega, by omega⟩ ⟨by omega, by omega⟩ (fun c_228 => ?_) (fun c_228 => ?_)
                                · refine gi_iconst dX10_readException_241 ?_
                                  refine gm_iast dX10_readException_242 (by decide) rfl (by decide) ⟨by omega, by simp only [ml9]; omega⟩ (by (try simp only [uA_s, uA_n, uA_ss, uA_cc, id_eq, ne_eq, not_false_eq_true, Nat.reduceEqDiff, Nat.reduceLT, reduceCtorEq]); rfl) ?_
                                  refine gi_iinc dX10_readException_243 rfl (Nat.le_of_ble_eq_true rfl) rfl ?_
                                  refine gg_goto (tgt := 204) dX10_readException_246 (by decide) ?_
                                  refine gg_conv (ih_204 _ (by omega) (k + 1) rfl (by omega)) (by rw [← lyA_q hk.1 (by omega), show 9 + 20 * e9 + 2 + 12 + k = 9 + 20 * e9 + 1 + 12 + 1 + k by omega]) rfl rfl
                                · refine gg_aload_n dX10_readException_231 rfl rfl ?_
                                  refine gm_get54 rfl dX10_readException_232 ?_
                                  refine gg_iload dX10_readException_235 rfl ?_
                                  refine gm_iald dX10_readException_237 (by decide) rfl (by decide) ⟨by omega, by simp only [ml9]; omega⟩ (by (try simp only [uA_s, uA_n, ne_eq, not_false_eq_true, Nat.reduceEqDiff, reduceCtorEq]); rfl) ?_
                                  refine gg_goto (tgt := 242) dX10_readException_238 (by decide) ?_
                                  refine gm_iast dX10_readException_242 (by decide) rfl (by decide) ⟨by omega, by simp only [ml9]; omega⟩ (by (try simp only [uA_s, uA_n, uA_ss, uA_cc, id_eq, ne_eq, not_false_eq_true, Nat.reduceEqDiff, Nat.reduceLT, reduceCtorEq]); rfl) ?_
                                  refine gi_iinc dX10_readException_243 rfl (Nat.le_of_ble_eq_true rfl) rfl ?_
                                  refine gg_goto (tgt := 204) dX10_readException_246 (by decide) ?_
                                  refine gg_conv (ih_204 _ (by omega) (k + 1) rfl (by omega)) (by rw [← lyA_p hk.1 (by omega), show 9 + 20 * e9 + 2 + 12 + k = 9 + 20 * e9 + 1 + 12 + 1 + k by omega]) rfl rfl
                          rw [show k = 12 by omega]
                          refine gg_conv (L_204 _ 0 rfl (by omega)) (by rw [lyA_0]) rfl rfl
                        · refine gg_aload_n dX10_readException_153 rfl rfl ?_
                          refine gm_get13 rfl dX10_readException_154 ?_
                          refine gg_iload dX10_readException_157 rfl ?_
                          refine gi_iconst dX10_readException_159 ?_
                          refine gi_iadd dX10_readException_160 ?_
                          refine gg_iload dX10_readException_161 rfl ?_
                          refine gi_iadd dX10_readException_163 ?_
                          refine gg_iload dX10_readException_164 rfl ?_
                          refine gg_iload_n dX10_readException_166 rfl ?_
                          refine gi_icmp_ge (tgt := 180) dX10_readException_167 (by decide) ⟨by omega, by omega⟩ ⟨by omega, by omega⟩ (fun c_167 => ?_) (fun c_167 => ?_)
                          · refine gi_iconst dX10_readException_180 ?_
                            refine gm_iast dX10_readException_181 (by decide) rfl (by decide) ⟨by omega, by simp only [ml9]; omega⟩ (by (try simp only [uA_s, uA_n, uA_ss, uA_cc, id_eq, ne_eq, not_false_eq_true, Nat.reduceEqDiff, Nat.reduceLT, reduceCtorEq]); rfl) ?_
                            refine gi_iinc dX10_readException_182 rfl (Nat.le_of_ble_eq_true rfl) rfl ?_
                            refine gg_goto (tgt := 146) dX10_readException_185 (by decide) ?_
                            refine gg_conv (ih_146 _ (by omega) (k + 1) rfl (by omega)) (by rw [← lyA_q hk.1 (by omega)]) rfl rfl
                          · refine gg_aload_n dX10_readException_170 rfl rfl ?_
                            refine gm_get33 rfl dX10_readException_171 ?_
                            refine gg_iload dX10_readException_174 rfl ?_
                            refine gm_iald dX10_readException_176 (by decide) rfl (by decide) ⟨by omega, by simp only [ml9]; omega⟩ (by (try simp only [uA_s, uA_n, ne_eq, not_false_eq_true, Nat.reduceEqDiff, reduceCtorEq]); rfl) ?_
                            refine gg_goto (tgt := 181) dX10_readException_177 (by decide) ?_
                            refine gm_iast dX10_readException_181 (by decide) rfl (by decide) ⟨by omega, by simp only [ml9]; omega⟩ (by (try simp only [uA_s, uA_n, uA_ss, uA_cc, id_eq, ne_eq, not_false_eq_true, Nat.reduceEqDiff, Nat.reduceLT, reduceCtorEq]); rfl) ?_
                            refine gi_iinc dX10_readException_182 rfl (Nat.le_of_ble_eq_true rfl) rfl ?_
                            refine gg_goto (tgt := 146) dX10_readException_185 (by decide) ?_
                            refine gg_conv (ih_146 _ (by omega) (k + 1) rfl (by omega)) (by rw [← lyA_p hk.1 (by omega)]) rfl rfl
                    refine gg_conv (L_146 _ 0 rfl (by omega)) (by rw [lyA_0]) rfl rfl
                  refine gg_drop 4 ?_
                  refine gg_drop 5 ?_
                  refine gg_conv (L_129 ex (by rw [if_neg (by omega)]) (by omega)) (by rw [if_neg (show ¬ A 1 4 ≤ ex by omega), uA_id (A := A) (k := 1)]; simp only [uA_s, uA_n, uA_ss, uA_cc, id_eq, ne_eq, not_false_eq_true, Nat.reduceEqDiff, Nat.reduceLT, reduceCtorEq]) rfl rfl
                · refine gg_aload_n dX10_readException_112 rfl rfl ?_
                  refine gm_get13 rfl dX10_readException_113 ?_
                  refine gi_iconst dX10_readException_116 ?_
                  refine gm_iald dX10_readException_117 (by decide) rfl (by decide) ⟨by omega, by simp only [ml9]; omega⟩ (by (try simp only [uA_s, uA_n, ne_eq, not_false_eq_true, Nat.reduceEqDiff, reduceCtorEq]); rfl) ?_
                  refine gg_istore_n dX10_readException_118 (Nat.le_of_ble_eq_true rfl) rfl ?_
                  refine gg_aload_n dX10_readException_119 rfl rfl ?_
                  refine gm_get13 rfl dX10_readException_120 ?_
                  refine gi_iconst dX10_readException_123 ?_
                  refine gg_dup2 dX10_readException_124 rfl rfl ?_
                  refine gm_iald dX10_readException_125 (by decide) rfl (by decide) ⟨by omega, by simp only [ml9]; omega⟩ (by (try simp only [uA_s, uA_n, ne_eq, not_false_eq_true, Nat.reduceEqDiff, reduceCtorEq]); rfl) ?_
                  refine gi_iconst dX10_readException_126 ?_
                  refine gi_iadd dX10_readException_127 ?_
                  refine gm_iast dX10_readException_128 (by decide) rfl (by decide) ⟨by omega, by simp only [ml9]; omega⟩ (by (try simp only [uA_s, uA_n, uA_ss, uA_cc, id_eq, ne_eq, not_false_eq_true, Nat.reduceEqDiff, Nat.reduceLT, reduceCtorEq]); rfl) ?_
                  have L_129 : ∀ (e9 : Int) (e8 : e9 = if ex < 0 then A 1 4 else ex) (e7 : 0 ≤ e9 ∧ e9 ≤ 7), GG Γ M_X10_readException QF9 (0, 0) (mst Γ h (uF (uF (uF (uF (uF (uF F 0 0) 5 (kc (F 5))) 8 0) 9 (F 8)) 11 0) 12 (F 8)) (uA (uA (uA A 1 ((if A 1 4 ≤ e9 then up (A 1) 4 (A 1 4 + 1) else A 1))) 4 (kA A (F 5))) 6 mv)) 129 [some (.ref (g_L Γ 0)), some (.int (iN wv)), some (.int (iN iv)), some (.int (iN e9)), none, none] [] := by
                    intro e9 e8 e7
                    refine gg_iload_n dX10_readException_129 rfl ?_
                    refine gc_X10_211 rfl dX10_readException_130 ⟨(Nat.le_of_ble_eq_true rfl), (Nat.le_of_ble_eq_true rfl)⟩ ⟨(Nat.le_of_ble_eq_true rfl), (Nat.le_of_ble_eq_true rfl)⟩ (Nat.le_of_ble_eq_true rfl) (c_X10_exceptionAt) (fun _ _ w => w.elim) (fun r_130 h_130 hp => ?_)
                    obtain ⟨rfl, rfl⟩ := hp
                    refine gg_istore dX10_readException_133 (Nat.le_of_ble_eq_true rfl) rfl ?_
                    refine gg_aload_n dX10_readException_135 rfl rfl ?_
                    refine gm_get13 rfl dX10_readException_136 ?_
                    refine gg_iload dX10_readException_139 rfl ?_
                    refine gg_iload_n dX10_readException_141 rfl ?_
                    refine gm_iast dX10_readException_142 (by decide) rfl (by decide) ⟨by omega, by simp only [ml9]; omega⟩ (by (try simp only [uA_s, uA_n, uA_ss, uA_cc, id_eq, ne_eq, not_false_eq_true, Nat.reduceEqDiff, Nat.reduceLT, reduceCtorEq]); rfl) ?_
                    refine gi_iconst dX10_readException_143 ?_
                    refine gg_istore dX10_readException_144 (Nat.le_of_ble_eq_true rfl) rfl ?_
                    have L_146 : ∀ (n9 : Nat) (k : Int), ((12 - k).toNat) = n9 → ∀ (hk : 0 ≤ k ∧ k ≤ 12), GG Γ M_X10_readException QF9 (0, 0) (mst Γ h (uF (uF (uF (uF (uF (uF F 0 0) 5 (kc (F 5))) 8 0) 9 (F 8)) 11 0) 12 (F 8)) (uA (uA (uA A 1 (lyA (if A 1 4 ≤ e9 then up (A 1) 4 (A 1 4 + 1) else A 1) (A 5) wv (9 + 20 * e9) k)) 4 (kA A (F 5))) 6 mv)) 146 [some (.ref (g_L Γ 0)), some (.int (iN wv)), some (.int (iN iv)), some (.int (iN e9)), some (.int (iN (9 + 20 * e9))), some (.int (iN k))] [] := by
                      intro n9
                      induction n9 using Nat.strongRecOn with
                      | ind n9 ih_146 => 
                        intro k hm9 hk
                        refine gg_iload dX10_readException_146 rfl ?_
                        refine gi_bipush dX10_readException_148 (by decide) ?_
                        refine gi_icmp_ge (tgt := 188) dX10_readException_150 (by decide) ⟨by omega, by omega⟩ ⟨by omega, by omega⟩ (fun c_150 => ?_) (fun c_150 => ?_)
                        · refine gg_aload_n dX10_readException_188 rfl rfl ?_
                          refine gm_get13 rfl dX10_readException_189 ?_
                          refine gg_iload dX10_readException_192 rfl ?_
                          refine gi_iconst dX10_readException_194 ?_
                          refine gi_iadd dX10_readException_195 ?_
                          refine gi_bipush dX10_readException_196 (by decide) ?_
                          refine gi_iadd dX10_readException_198 ?_
                          refine gg_iload_n dX10_readException_199 rfl ?_
                          refine gm_iast dX10_readException_200 (by decide) rfl (by decide) ⟨by omega, by simp only [ml9]; omega⟩ (by (try simp only [uA_s, uA_n, uA_ss, uA_cc, id_eq, ne_eq, not_false_eq_true, Nat.reduceEqDiff, Nat.reduceLT, reduceCtorEq]); rfl) ?_
                          refine gi_iconst dX10_readException_201 ?_
                          refine gg_istore dX10_readException_202 (Nat.le_of_ble_eq_true rfl) rfl ?_
                          have L_204 : ∀ (n9 : Nat) (k : Int), ((6 - k).toNat) = n9 → ∀ (hk : 0 ≤ k ∧ k ≤ 6), GG Γ M_X10_readException QF9 (0, 0) (mst Γ h (uF (uF (uF (uF (uF (uF F 0 0) 5 (kc (F 5))) 8 0) 9 (F 8)) 11 0) 12 (F 8)) (uA (uA (uA A 1 (lyA (lyA (if A 1 4 ≤ e9 then up (A 1) 4 (A 1 4 + 1) else A 1) (A 5) wv (9 + 20 * e9) 12) mv iv (9 + 20 * e9 + 1 + 12) k)) 4 (kA A (F 5))) 6 mv)) 204 [some (.ref (g_L Γ 0)), some (.int (iN wv)), some (.int (iN iv)), some (.int (iN e9)), some (.int (iN (9 + 20 * e9))), some (.int (iN k))] [] := by
                            intro n9
                            induction n9 using Nat.strongRecOn with
                            | ind n9 ih_204 => 
                              intro k hm9 hk
                              refine gg_iload dX10_readException_204 rfl ?_
                              refine gi_bipush dX10_readException_206 (by decide) ?_
                              refine gi_icmp_ge (tgt := 249) dX10_readException_208 (by decide) ⟨by omega, by omega⟩ ⟨by omega, by omega⟩ (fun c_208 => ?_) (fun c_208 => ?_)
                              · refine gg_iload_n dX10_readException_249 rfl ?_
                                subst hQF9
                                refine gg_iret dX10_readException_250 rfl rfl ⟨(Nat.le_of_ble_eq_true rfl), (Nat.le_of_ble_eq_true rfl)⟩ ?_
                                rw [hex] at e8 y1
                                refine ⟨mv, Or.inr (Or.inr ⟨⟨z1, by omega, by omega⟩, by rw [z4]; exact z5, y1, by rw [e8], ?_⟩)⟩
                                rw [← e8, z4, show k = 6 by omega]; rfl
                              · refine gg_aload_n dX10_readException_211 rfl rfl ?_
                                refine gm_get13 rfl dX10_readException_212 ?_
                                refine gg_iload dX10_readException_215 rfl ?_
                                refine gi_iconst dX10_readException_217 ?_
                                refine gi_iadd dX10_readException_218 ?_
                                refine gi_bipush dX10_readException_219 (by decide) ?_
                                refine gi_iadd dX10_readException_221 ?_
                                refine gg_iload dX10_readException_222 rfl ?_
                                refine gi_iadd dX10_readException_224 ?_
                                refine gg_iload dX10_readException_225 rfl ?_
                                refine gg_iload_n dX10_readException_227 rfl ?_
                                refine gi_icmp_ge (tgt := 241) dX10_readException_228 (by decide) ⟨by omega, by omega⟩ ⟨by omega, by omega⟩ (fun c_228 => ?_) (fun c_228 => ?_)
                                · refine gi_iconst dX10_readException_241 ?_
                                  refine gm_iast dX10_readException_242 (by decide) rfl (by decide) ⟨by omega, by simp only [ml9]; omega⟩ (by (try simp only [uA_s, uA_n, uA_ss, uA_cc, id_eq, ne_eq, not_false_eq_true, Nat.reduceEqDiff, Nat.reduceLT, reduceCtorEq]); rfl) ?_
                                  refine gi_iinc dX10_readException_243 rfl (Nat.le_of_ble_eq_true rfl) rfl ?_
                                  refine gg_goto (tgt := 204) dX10_readException_246 (by decide) ?_
                                  refine gg_conv (ih_204 _ (by omega) (k + 1) rfl (by omega)) (by rw [← lyA_q hk.1 (by omega), show 9 + 20 * e9 + 2 + 12 + k = 9 + 20 * e9 + 1 + 12 + 1 + k by omega]) rfl rfl
                                · refine gg_aload_n dX10_readException_231 rfl rfl ?_
                                  refine gm_get54 rfl dX10_readException_232 ?_
                                  refine gg_iload dX10_readException_235 rfl ?_
                                  refine gm_iald dX10_readException_237 (by decide) rfl (by decide) ⟨by omega, by simp only [ml9]; omega⟩ (by (try simp only [uA_s, uA_n, ne_eq, not_false_eq_true, Nat.reduceEqDiff, reduceCtorEq]); rfl) ?_
                                  refine gg_goto (tgt := 242) dX10_readException_238 (by decide) ?_
                                  refine gm_iast dX10_readException_242 (by decide) rfl (by decide) ⟨by omega, by simp only [ml9]; omega⟩ (by (try simp only [uA_s, uA_n, uA_ss, uA_cc, id_eq, ne_eq, not_false_eq_true, Nat.reduceEqDiff, Nat.reduceLT, reduceCtorEq]); rfl) ?_
                                  refine gi_iinc dX10_readException_243 rfl (Nat.le_of_ble_eq_true rfl) rfl ?_
                                  refine gg_goto (tgt := 204) dX10_readException_246 (by decide) ?_
                                  refine gg_conv (ih_204 _ (by omega) (k + 1) rfl (by omega)) (by rw [← lyA_p hk.1 (by omega), show 9 + 20 * e9 + 2 + 12 + k = 9 + 20 * e9 + 1 + 12 + 1 + k by omega]) rfl rfl
                          rw [show k = 12 by omega]
                          refine gg_conv (L_204 _ 0 rfl (by omega)) (by rw [lyA_0]) rfl rfl
                        · refine gg_aload_n dX10_readException_153 rfl rfl ?_
                          refine gm_get13 rfl dX10_readException_154 ?_
                          refine gg_iload dX10_readException_157 rfl ?_
                          refine gi_iconst dX10_readException_159 ?_
                          refine gi_iadd dX10_readException_160 ?_
                          refine gg_iload dX10_readException_161 rfl ?_
                          refine gi_iadd dX10_readException_163 ?_
                          refine gg_iload dX10_readException_164 rfl ?_
                          refine gg_iload_n dX10_readException_166 rfl ?_
                          refine gi_icmp_ge (tgt := 180) dX10_readException_167 (by decide) ⟨by omega, by omega⟩ ⟨by omega, by omega⟩ (fun c_167 => ?_) (fun c_167 => ?_)
                          · refine gi_iconst dX10_readException_180 ?_
                            refine gm_iast dX10_readException_181 (by decide) rfl (by decide) ⟨by omega, by simp only [ml9]; omega⟩ (by (try simp only [uA_s, uA_n, uA_ss, uA_cc, id_eq, ne_eq, not_false_eq_true, Nat.reduceEqDiff, Nat.reduceLT, reduceCtorEq]); rfl) ?_
                            refine gi_iinc dX10_readException_182 rfl (Nat.le_of_ble_eq_true rfl) rfl ?_
                            refine gg_goto (tgt := 146) dX10_readException_185 (by decide) ?_
                            refine gg_conv (ih_146 _ (by omega) (k + 1) rfl (by omega)) (by rw [← lyA_q hk.1 (by omega)]) rfl rfl
                          · refine gg_aload_n dX10_readException_170 rfl rfl ?_
                            refine gm_get33 rfl dX10_readException_171 ?_
                            refine gg_iload dX10_readException_174 rfl ?_
                            refine gm_iald dX10_readException_176 (by decide) rfl (by decide) ⟨by omega, by simp only [ml9]; omega⟩ (by (try simp only [uA_s, uA_n, ne_eq, not_false_eq_true, Nat.reduceEqDiff, reduceCtorEq]); rfl) ?_
                            refine gg_goto (tgt := 181) dX10_readException_177 (by decide) ?_
                            refine gm_iast dX10_readException_181 (by decide) rfl (by decide) ⟨by omega, by simp only [ml9]; omega⟩ (by (try simp only [uA_s, uA_n, uA_ss, uA_cc, id_eq, ne_eq, not_false_eq_true, Nat.reduceEqDiff, Nat.reduceLT, reduceCtorEq]); rfl) ?_
                            refine gi_iinc dX10_readException_182 rfl (Nat.le_of_ble_eq_true rfl) rfl ?_
                            refine gg_goto (tgt := 146) dX10_readException_185 (by decide) ?_
                            refine gg_conv (ih_146 _ (by omega) (k + 1) rfl (by omega)) (by rw [← lyA_p hk.1 (by omega)]) rfl rfl
                    refine gg_conv (L_146 _ 0 rfl (by omega)) (by rw [lyA_0]) rfl rfl
                  refine gg_drop 4 ?_
                  refine gg_drop 5 ?_
                  refine gg_conv (L_129 (A 1 4) (by rw [if_pos (by omega)]) (by omega)) (by rw [if_pos (Int.le_refl _)]) rfl rfl
              refine gg_drop 4 ?_
              refine gg_drop 5 ?_
              exact L_104 (Or.inl (by omega))
            · refine gg_aload_n dX10_readException_87 rfl rfl ?_
              refine gm_get13 rfl dX10_readException_88 ?_
              refine gi_iconst dX10_readException_91 ?_
              refine gm_iald dX10_readException_92 (by decide) rfl (by decide) ⟨by omega, by simp only [ml9]; omega⟩ (by (try simp only [uA_s, uA_n, ne_eq, not_false_eq_true, Nat.reduceEqDiff, reduceCtorEq]); rfl) ?_
              refine gi_bipush dX10_readException_93 (by decide) ?_
              refine gi_icmp_ne (tgt := 104) dX10_readException_95 (by decide) ⟨by omega, by omega⟩ ⟨by omega, by omega⟩ (fun c_95 => ?_) (fun c_95 => ?_)
              · have L_104 : ∀  (y1 : 0 ≤ ex ∨ A 1 4 < 8), GG Γ M_X10_readException QF9 (0, 0) (mst Γ h (uF (uF (uF (uF (uF F 0 0) 8 0) 9 (F 8)) 11 0) 12 (F 8)) (uA A 6 mv)) 104 [some (.ref (g_L Γ 0)), some (.int (iN wv)), some (.int (iN iv)), some (.int (iN ex)), none, none] [] := by
                  intro  y1
                  refine gg_aload_n dX10_readException_104 rfl rfl ?_
                  refine gc_X10_184 rfl dX10_readException_105 ⟨(Nat.le_of_ble_eq_true rfl), (Nat.le_of_ble_eq_true rfl)⟩ ⟨(Nat.le_of_ble_eq_true rfl), (Nat.le_of_ble_eq_true rfl)⟩ (Nat.le_of_ble_eq_true rfl) (HAt.mu rfl) (c_X10_keeps (by simp only [uF_s, uF_n, uF_ss, uF_cc, id_eq, ne_eq, not_false_eq_true, Nat.reduceEqDiff, Nat.reduceLT, reduceCtorEq]; exact h5)) (fun _ _ w => w.elim) (fun r_105 h_105 hp => ?_)
                  obtain ⟨rfl, rfl⟩ := hp
                  simp only [uF_s, uF_n, uF_ss, uF_cc, id_eq, ne_eq, not_false_eq_true, Nat.reduceEqDiff, Nat.reduceLT, reduceCtorEq, kA_6]
                  refine gg_iload_n dX10_readException_108 rfl ?_
                  refine gi_if_ge (tgt := 129) dX10_readException_109 (by decide) ⟨by omega, by omega⟩ (fun c_109 => ?_) (fun c_109 => ?_)
                  · have L_129 : ∀ (e9 : Int) (e8 : e9 = if ex < 0 then A 1 4 else ex) (e7 : 0 ≤ e9 ∧ e9 ≤ 7), GG Γ M_X10_readException QF9 (0, 0) (mst Γ h (uF (uF (uF (uF (uF (uF F 0 0) 5 (kc (F 5))) 8 0) 9 (F 8)) 11 0) 12 (F 8)) (uA (uA (uA A 1 ((if A 1 4 ≤ e9 then up (A 1) 4 (A 1 4 + 1) else A 1))) 4 (kA A (F 5))) 6 mv)) 129 [some (.ref (g_L Γ 0)), some (.int (iN wv)), some (.int (iN iv)), some (.int (iN e9)), none, none] [] := by
                      intro e9 e8 e7
                      refine gg_iload_n dX10_readException_129 rfl ?_
                      refine gc_X10_211 rfl dX10_readException_130 ⟨(Nat.le_of_ble_eq_true rfl), (Nat.le_of_ble_eq_true rfl)⟩ ⟨(Nat.le_of_ble_eq_true rfl), (Nat.le_of_ble_eq_true rfl)⟩ (Nat.le_of_ble_eq_true rfl) (c_X10_exceptionAt) (fun _ _ w => w.elim) (fun r_130 h_130 hp => ?_)
                      obtain ⟨rfl, rfl⟩ := hp
                      refine gg_istore dX10_readException_133 (Nat.le_of_ble_eq_true rfl) rfl ?_
                      refine gg_aload_n dX10_readException_135 rfl rfl ?_
                      refine gm_get13 rfl dX10_readException_136 ?_
                      refine gg_iload dX10_readException_139 rfl ?_
                      refine gg_iload_n dX10_readException_141 rfl ?_
                      refine gm_iast dX10_readException_142 (by decide) rfl (by decide) ⟨by omega, by simp only [ml9]; omega⟩ (by (try simp only [uA_s, uA_n, uA_ss, uA_cc, id_eq, ne_eq, not_false_eq_true, Nat.reduceEqDiff, Nat.reduceLT, reduceCtorEq]); rfl) ?_
                      refine gi_iconst dX10_readException_143 ?_
                      refine gg_istore dX10_readException_144 (Nat.le_of_ble_eq_true rfl) rfl ?_
                      have L_146 : ∀ (n9 : Nat) (k : Int), ((12 - k).toNat) = n9 → ∀ (hk : 0 ≤ k ∧ k ≤ 12), GG Γ M_X10_readException QF9 (0, 0) (mst Γ h (uF (uF (uF (uF (uF (uF F 0 0) 5 (kc (F 5))) 8 0) 9 (F 8)) 11 0) 12 (F 8)) (uA (uA (uA A 1 (lyA (if A 1 4 ≤ e9 then up (A 1) 4 (A 1 4 + 1) else A 1) (A 5) wv (9 + 20 * e9) k)) 4 (kA A (F 5))) 6 mv)) 146 [some (.ref (g_L Γ 0)), some (.int (iN wv)), some (.int (iN iv)), some (.int (iN e9)), some (.int (iN (9 + 20 * e9))), some (.int (iN k))] [] := by
                        intro n9
                        induction n9 using Nat.strongRecOn with
                        | ind n9 ih_146 => 
                          intro k hm9 hk
                          refine gg_iload dX10_readException_146 rfl ?_
                          refine gi_bipush dX10_readException_148 (by decide) ?_
                          refine gi_icmp_ge (tgt := 188) dX10_readException_150 (by decide) ⟨by omega, by omega⟩ ⟨by omega, by omega⟩ (fun c_150 => ?_) (fun c_150 => ?_)
                          · refine gg_aload_n dX10_readException_188 rfl rfl ?_
                            refine gm_get13 rfl dX10_readException_189 ?_
                            refine gg_iload dX10_readException_192 rfl ?_
                            refine gi_iconst dX10_readException_194 ?_
                            refine gi_iadd dX10_readException_195 ?_
                            refine gi_bipush dX10_readException_196 (by decide) ?_
                            refine gi_iadd dX10_readException_198 ?_
                            refine gg_iload_n dX10_readException_199 rfl ?_
                            refine gm_iast dX10_readException_200 (by decide) rfl (by decide) ⟨by omega, by simp only [ml9]; omega⟩ (by (try simp only [uA_s, uA_n, uA_ss, uA_cc, id_eq, ne_eq, not_false_eq_true, Nat.reduceEqDiff, Nat.reduceLT, reduceCtorEq]); rfl) ?_
                            refine gi_iconst dX10_readException_201 ?_
                            refine gg_istore dX10_readException_202 (Nat.le_of_ble_eq_true rfl) rfl ?_
                            have L_204 : ∀ (n9 : Nat) (k : Int), ((6 - k).toNat) = n9 → ∀ (hk : 0 ≤ k ∧ k ≤ 6), GG Γ M_X10_readException QF9 (0, 0) (mst Γ h (uF (uF (uF (uF (uF (uF F 0 0) 5 (kc (F 5))) 8 0) 9 (F 8)) 11 0) 12 (F 8)) (uA (uA (uA A 1 (lyA (lyA (if A 1 4 ≤ e9 then up (A 1) 4 (A 1 4 + 1) else A 1) (A 5) wv (9 + 20 * e9) 12) mv iv (9 + 20 * e9 + 1 + 12) k)) 4 (kA A (F 5))) 6 mv)) 204 [some (.ref (g_L Γ 0)), some (.int (iN wv)), some (.int (iN iv)), some (.int (iN e9)), some (.int (iN (9 + 20 * e9))), some (.int (iN k))] [] := by
                              intro n9
                              induction n9 using Nat.strongRecOn with
                              | ind n9 ih_204 => 
                                intro k hm9 hk
                                refine gg_iload dX10_readException_204 rfl ?_
                                refine gi_bipush dX10_readException_206 (by decide) ?_
                                refine gi_icmp_ge (tgt := 249) dX10_readException_208 (by decide) ⟨by omega, by omega⟩ ⟨by omega, by omega⟩ (fun c_208 => ?_) (fun c_208 => ?_)
                                · refine gg_iload_n dX10_readException_249 rfl ?_
                                  subst hQF9
                                  refine gg_iret dX10_readException_250 rfl rfl ⟨(Nat.le_of_ble_eq_true rfl), (Nat.le_of_ble_eq_true rfl)⟩ ?_
                                  rw [hex] at e8 y1
                                  refine ⟨mv, Or.inr (Or.inr ⟨⟨z1, by omega, by omega⟩, by rw [z4]; exact z5, y1, by rw [e8], ?_⟩)⟩
                                  rw [← e8, z4, show k = 6 by omega]; rfl
                                · refine gg_aload_n dX10_readException_211 rfl rfl ?_
                                  refine gm_get13 rfl dX10_readException_212 ?_
                                  refine gg_iload dX10_readException_215 rfl ?_
                                  refine gi_iconst dX10_readException_217 ?_
                                  refine gi_iadd dX10_readException_218 ?_
                                  refine gi_bipush dX10_readException_219 (by decide) ?_
                                  refine gi_iadd dX10_readException_221 ?_
                                  refine gg_iload dX10_readException_222 rfl ?_
                                  refine gi_iadd dX10_readException_224 ?_
                                  refine gg_iload dX10_readException_225 rfl ?_
                                  refine gg_iload_n dX10_readException_227 rfl ?_
                                  refine gi_icmp_ge (tgt := 241) dX10_readException_228 (by decide) ⟨by omega, by omega⟩ ⟨by omega, by omega⟩ (fun c_228 => ?_) (fun c_228 => ?_)
                                  · refine gi_iconst dX10_readException_241 ?_
                                    refine gm_iast dX10_readException_242 (by decide) rfl (by decide) ⟨by omega, by simp only [ml9]; omega⟩ (by (try simp only [uA_s, uA_n, uA_ss, uA_cc, id_eq, ne_eq, not_false_eq_true, Nat.reduceEqDiff, Nat.reduceLT, reduceCtorEq]); rfl) ?_
                                    refine gi_iinc dX10_readException_243 rfl (Nat.le_of_ble_eq_true rfl) rfl ?_
                                    refine gg_goto (tgt := 204) dX10_readException_246 (by decide) ?_
                                    refine gg_conv (ih_204 _ (by omega) (k + 1) rfl (by omega)) (by rw [← lyA_q hk.1 (by omega), show 9 + 20 * e9 + 2 + 12 + k = 9 + 20 * e9 + 1 + 12 + 1 + k by omega]) rfl rfl
                                  · refine gg_aload_n dX10_readException_231 rfl rfl ?_
                                    refine gm_get54 rfl dX10_readException_232 ?_
                                    refine gg_iload dX10_readException_235 rfl ?_
                                    refine gm_iald dX10_readException_237 (by decide) rfl (by decide) ⟨by omega, by simp only [ml9]; omega⟩ (by (try simp only [uA_s, uA_n, ne_eq, not_false_eq_true, Nat.reduceEqDiff, reduceCtorEq]); rfl) ?_
                                    refine gg_goto (tgt := 242) dX10_readException_238 (by decide) ?_
                                    refine gm_iast dX10_readException_242 (by decide) rfl (by decide) ⟨by omega, by simp only [ml9]; omega⟩ (by (try simp only [uA_s, uA_n, uA_ss, uA_cc, id_eq, ne_eq, not_false_eq_true, Nat.reduceEqDiff, Nat.reduceLT, reduceCtorEq]); rfl) ?_
                                    refine gi_iinc dX10_readException_243 rfl (Nat.le_of_ble_eq_true rfl) rfl ?_
                                    refine gg_goto (tgt := 204) dX10_readException_246 (by decide) ?_
                                    refine gg_conv (ih_204 _ (by omega) (k + 1) rfl (by omega)) (by rw [← lyA_p hk.1 (by omega), show 9 + 20 * e9 + 2 + 12 + k = 9 + 20 * e9 + 1 + 12 + 1 + k by omega]) rfl rfl
                            rw [show k = 12 by omega]
                            refine gg_conv (L_204 _ 0 rfl (by omega)) (by rw [lyA_0]) rfl rfl
                          · refine gg_aload_n dX10_readException_153 rfl rfl ?_
                            refine gm_get13 rfl dX10_readException_154 ?_
                            refine gg_iload dX10_readException_157 rfl ?_
                            refine gi_iconst dX10_readException_159 ?_
                            refine gi_iadd dX10_readException_160 ?_
                            refine gg_iload dX10_readException_161 rfl ?_
                            refine gi_iadd dX10_readException_163 ?_
                            refine gg_iload dX10_readException_164 rfl ?_
                            refine gg_iload_n dX10_readException_166 rfl ?_
                            refine gi_icmp_ge (tgt := 180) dX10_readException_167 (by decide) ⟨by omega, by omega⟩ ⟨by omega, by omega⟩ (fun c_167 => ?_) (fun c_167 => ?_)
                            · refine gi_iconst dX10_readException_180 ?_
                              refine gm_iast dX10_readException_181 (by decide) rfl (by decide) ⟨by omega, by simp only [ml9]; omega⟩ (by (try simp only [uA_s, uA_n, uA_ss, uA_cc, id_eq, ne_eq, not_false_eq_true, Nat.reduceEqDiff, Nat.reduceLT, reduceCtorEq]); rfl) ?_
                              refine gi_iinc dX10_readException_182 rfl (Nat.le_of_ble_eq_true rfl) rfl ?_
                              refine gg_goto (tgt := 146) dX10_readException_185 (by decide) ?_
                              refine gg_conv (ih_146 _ (by omega) (k + 1) rfl (by omega)) (by rw [← lyA_q hk.1 (by omega)]) rfl rfl
                            · refine gg_aload_n dX10_readException_170 rfl rfl ?_
                              refine gm_get33 rfl dX10_readException_171 ?_
                              refine gg_iload dX10_readException_174 rfl ?_
                              refine gm_iald dX10_readException_176 (by decide) rfl (by decide) ⟨by omega, by simp only [ml9]; omega⟩ (by (try simp only [uA_s, uA_n, ne_eq, not_false_eq_true, Nat.reduceEqDiff, reduceCtorEq]); rfl) ?_
                              refine gg_goto (tgt := 181) dX10_readException_177 (by decide) ?_
                              refine gm_iast dX10_readException_181 (by decide) rfl (by decide) ⟨by omega, by simp only [ml9]; omega⟩ (by (try simp only [uA_s, uA_n, uA_ss, uA_cc, id_eq, ne_eq, not_false_eq_true, Nat.reduceEqDiff, Nat.reduceLT, reduceCtorEq]); rfl) ?_
                              refine gi_iinc dX10_readException_182 rfl (Nat.le_of_ble_eq_true rfl) rfl ?_
                              refine gg_goto (tgt := 146) dX10_readException_185 (by decide) ?_
                              refine gg_conv (ih_146 _ (by omega) (k + 1) rfl (by omega)) (by rw [← lyA_p hk.1 (by omega)]) rfl rfl
                      refine gg_conv (L_146 _ 0 rfl (by omega)) (by rw [lyA_0]) rfl rfl
                    refine gg_drop 4 ?_
                    refine gg_drop 5 ?_
                    refine gg_conv (L_129 ex (by rw [if_neg (by omega)]) (by omega)) (by rw [if_neg (show ¬ A 1 4 ≤ ex by omega), uA_id (A := A) (k := 1)]; simp only [uA_s, uA_n, uA_ss, uA_cc, id_eq, ne_eq, not_false_eq_true, Nat.reduceEqDiff, Nat.reduceLT, reduceCtorEq]) rfl rfl
                  · refine gg_aload_n dX10_readException_112 rfl rfl ?_
                    refine gm_get13 rfl dX10_readException_113 ?_
                    refine gi_iconst dX10_readException_116 ?_
                    refine gm_iald dX10_readException_117 (by decide) rfl (by decide) ⟨by omega, by simp only [ml9]; omega⟩ (by (try simp only [uA_s, uA_n, ne_eq, not_false_eq_true, Nat.reduceEqDiff, reduceCtorEq]); rfl) ?_
                    refine gg_istore_n dX10_readException_118 (Nat.le_of_ble_eq_true rfl) rfl ?_
                    refine gg_aload_n dX10_readException_119 rfl rfl ?_
                    refine gm_get13 rfl dX10_readException_120 ?_
                    refine gi_iconst dX10_readException_123 ?_
                    refine gg_dup2 dX10_readException_124 rfl rfl ?_
                    refine gm_iald dX10_readException_125 (by decide) rfl (by decide) ⟨by omega, by simp only [ml9]; omega⟩ (by (try simp only [uA_s, uA_n, ne_eq, not_false_eq_true, Nat.reduceEqDiff, reduceCtorEq]); rfl) ?_
                    refine gi_iconst dX10_readException_126 ?_
                    refine gi_iadd dX10_readException_127 ?_
                    refine gm_iast dX10_readException_128 (by decide) rfl (by decide) ⟨by omega, by simp only [ml9]; omega⟩ (by (try simp only [uA_s, uA_n, uA_ss, uA_cc, id_eq, ne_eq, not_false_eq_true, Nat.reduceEqDiff, Nat.reduceLT, reduceCtorEq]); rfl) ?_
                    have L_129 : ∀ (e9 : Int) (e8 : e9 = if ex < 0 then A 1 4 else ex) (e7 : 0 ≤ e9 ∧ e9 ≤ 7), GG Γ M_X10_readException QF9 (0, 0) (mst Γ h (uF (uF (uF (uF (uF (uF F 0 0) 5 (kc (F 5))) 8 0) 9 (F 8)) 11 0) 12 (F 8)) (uA (uA (uA A 1 ((if A 1 4 ≤ e9 then up (A 1) 4 (A 1 4 + 1) else A 1))) 4 (kA A (F 5))) 6 mv)) 129 [some (.ref (g_L Γ 0)), some (.int (iN wv)), some (.int (iN iv)), some (.int (iN e9)), none, none] [] := by
                      intro e9 e8 e7
                      refine gg_iload_n dX10_readException_129 rfl ?_
                      refine gc_X10_211 rfl dX10_readException_130 ⟨(Nat.le_of_ble_eq_true rfl), (Nat.le_of_ble_eq_true rfl)⟩ ⟨(Nat.le_of_ble_eq_true rfl), (Nat.le_of_ble_eq_true rfl)⟩ (Nat.le_of_ble_eq_true rfl) (c_X10_exceptionAt) (fun _ _ w => w.elim) (fun r_130 h_130 hp => ?_)
                      obtain ⟨rfl, rfl⟩ := hp
                      refine gg_istore dX10_readException_133 (Nat.le_of_ble_eq_true rfl) rfl ?_
                      refine gg_aload_n dX10_readException_135 rfl rfl ?_
                      refine gm_get13 rfl dX10_readException_136 ?_
                      refine gg_iload dX10_readException_139 rfl ?_
                      refine gg_iload_n dX10_readException_141 rfl ?_
                      refine gm_iast dX10_readException_142 (by decide) rfl (by decide) ⟨by omega, by simp only [ml9]; omega⟩ (by (try simp only [uA_s, uA_n, uA_ss, uA_cc, id_eq, ne_eq, not_false_eq_true, Nat.reduceEqDiff, Nat.reduceLT, reduceCtorEq]); rfl) ?_
                      refine gi_iconst dX10_readException_143 ?_
                      refine gg_istore dX10_readException_144 (Nat.le_of_ble_eq_true rfl) rfl ?_
                      have L_146 : ∀ (n9 : Nat) (k : Int), ((12 - k).toNat) = n9 → ∀ (hk : 0 ≤ k ∧ k ≤ 12), GG Γ M_X10_readException QF9 (0, 0) (mst Γ h (uF (uF (uF (uF (uF (uF F 0 0) 5 (kc (F 5))) 8 0) 9 (F 8)) 11 0) 12 (F 8)) (uA (uA (uA A 1 (lyA (if A 1 4 ≤ e9 then up (A 1) 4 (A 1 4 + 1) else A 1) (A 5) wv (9 + 20 * e9) k)) 4 (kA A (F 5))) 6 mv)) 146 [some (.ref (g_L Γ 0)), some (.int (iN wv)), some (.int (iN iv)), some (.int (iN e9)), some (.int (iN (9 + 20 * e9))), some (.int (iN k))] [] := by
                        intro n9
                        induction n9 using Nat.strongRecOn with
                        | ind n9 ih_146 => 
                          intro k hm9 hk
                          refine gg_iload dX10_readException_146 rfl ?_
                          refine gi_bipush dX10_readException_148 (by decide) ?_
                          refine gi_icmp_ge (tgt := 188) dX10_readException_150 (by decide) ⟨by omega, by omega⟩ ⟨by omega, by omega⟩ (fun c_150 => ?_) (fun c_150 => ?_)
                          · refine gg_aload_n dX10_readException_188 rfl rfl ?_
                            refine gm_get13 rfl dX10_readException_189 ?_
                            refine gg_iload dX10_readException_192 rfl ?_
                            refine gi_iconst dX10_readException_194 ?_
                            refine gi_iadd dX10_readException_195 ?_
                            refine gi_bipush dX10_readException_196 (by decide) ?_
                            refine gi_iadd dX10_readException_198 ?_
                            refine gg_iload_n dX10_readException_199 rfl ?_
                            refine gm_iast dX10_readException_200 (by decide) rfl (by decide) ⟨by omega, by simp only [ml9]; omega⟩ (by (try simp only [uA_s, uA_n, uA_ss, uA_cc, id_eq, ne_eq, not_false_eq_true, Nat.reduceEqDiff, Nat.reduceLT, reduceCtorEq]); rfl) ?_
                            refine gi_iconst dX10_readException_201 ?_
                            refine gg_istore dX10_readException_202 (Nat.le_of_ble_eq_true rfl) rfl ?_
                            have L_204 : ∀ (n9 : Nat) (k : Int), ((6 - k).toNat) = n9 → ∀ (hk : 0 ≤ k ∧ k ≤ 6), GG Γ M_X10_readException QF9 (0, 0) (mst Γ h (uF (uF (uF (uF (uF (uF F 0 0) 5 (kc (F 5))) 8 0) 9 (F 8)) 11 0) 12 (F 8)) (uA (uA (uA A 1 (lyA (lyA (if A 1 4 ≤ e9 then up (A 1) 4 (A 1 4 + 1) else A 1) (A 5) wv (9 + 20 * e9) 12) mv iv (9 + 20 * e9 + 1 + 12) k)) 4 (kA A (F 5))) 6 mv)) 204 [some (.ref (g_L Γ 0)), some (.int (iN wv)), some (.int (iN iv)), some (.int (iN e9)), some (.int (iN (9 + 20 * e9))), some (.int (iN k))] [] := by
                              intro n9
                              induction n9 using Nat.strongRecOn with
                              | ind n9 ih_204 => 
                                intro k hm9 hk
                                refine gg_iload dX10_readException_204 rfl ?_
                                refine gi_bipush dX10_readException_206 (by decide) ?_
                                refine gi_icmp_ge (tgt := 249) dX10_readException_208 (by decide) ⟨by omega, by omega⟩ ⟨by omega, by omega⟩ (fun c_208 => ?_) (fun c_208 => ?_)
                                · refine gg_iload_n dX10_readException_249 rfl ?_
                                  subst hQF9
                                  refine gg_iret dX10_readException_250 rfl rfl ⟨(Nat.le_of_ble_eq_true rfl), (Nat.le_of_ble_eq_true rfl)⟩ ?_
                                  rw [hex] at e8 y1
                                  refine ⟨mv, Or.inr (Or.inr ⟨⟨z1, by omega, by omega⟩, by rw [z4]; exact z5, y1, by rw [e8], ?_⟩)⟩
                                  rw [← e8, z4, show k = 6 by omega]; rfl
                                · refine gg_aload_n dX10_readException_211 rfl rfl ?_
                                  refine gm_get13 rfl dX10_readException_212 ?_
                                  refine gg_iload dX10_readException_215 rfl ?_
                                  refine gi_iconst dX10_readException_217 ?_
                                  refine gi_iadd dX10_readException_218 ?_
                                  refine gi_bipush dX10_readException_219 (by decide) ?_
                                  refine gi_iadd dX10_readException_221 ?_
                                  refine gg_iload dX10_readException_222 rfl ?_
                                  refine gi_iadd dX10_readException_224 ?_
                                  refine gg_iload dX10_readException_225 rfl ?_
                                  refine gg_iload_n dX10_readException_227 rfl ?_
                                  refine gi_icmp_ge (tgt := 241) dX10_readException_228 (by decide) ⟨by omega, by omega⟩ ⟨by omega, by omega⟩ (fun c_228 => ?_) (fun c_228 => ?_)
                                  · refine gi_iconst dX10_readException_241 ?_
                                    refine gm_iast dX10_readException_242 (by decide) rfl (by decide) ⟨by omega, by simp only [ml9]; omega⟩ (by (try simp only [uA_s, uA_n, uA_ss, uA_cc, id_eq, ne_eq, not_false_eq_true, Nat.reduceEqDiff, Nat.reduceLT, reduceCtorEq]); rfl) ?_
                                    refine gi_iinc dX10_readException_243 rfl (Nat.le_of_ble_eq_true rfl) rfl ?_
                                    refine gg_goto (tgt := 204) dX10_readException_246 (by decide) ?_
                                    refine gg_conv (ih_204 _ (by omega) (k + 1) rfl (by omega)) (by rw [← lyA_q hk.1 (by omega), show 9 + 20 * e9 + 2 + 12 + k = 9 + 20 * e9 + 1 + 12 + 1 + k by omega]) rfl rfl
                                  · refine gg_aload_n dX10_readException_231 rfl rfl ?_
                                    refine gm_get54 rfl dX10_readException_232 ?_
                                    refine gg_iload dX10_readException_235 rfl ?_
                                    refine gm_iald dX10_readException_237 (by decide) rfl (by decide) ⟨by omega, by simp only [ml9]; omega⟩ (by (try simp only [uA_s, uA_n, ne_eq, not_false_eq_true, Nat.reduceEqDiff, reduceCtorEq]); rfl) ?_
                                    refine gg_goto (tgt := 242) dX10_readException_238 (by decide) ?_
                                    refine gm_iast dX10_readException_242 (by decide) rfl (by decide) ⟨by omega, by simp only [ml9]; omega⟩ (by (try simp only [uA_s, uA_n, uA_ss, uA_cc, id_eq, ne_eq, not_false_eq_true, Nat.reduceEqDiff, Nat.reduceLT, reduceCtorEq]); rfl) ?_
                                    refine gi_iinc dX10_readException_243 rfl (Nat.le_of_ble_eq_true rfl) rfl ?_
                                    refine gg_goto (tgt := 204) dX10_readException_246 (by decide) ?_
                                    refine gg_conv (ih_204 _ (by omega) (k + 1) rfl (by omega)) (by rw [← lyA_p hk.1 (by omega), show 9 + 20 * e9 + 2 + 12 + k = 9 + 20 * e9 + 1 + 12 + 1 + k by omega]) rfl rfl
                            rw [show k = 12 by omega]
                            refine gg_conv (L_204 _ 0 rfl (by omega)) (by rw [lyA_0]) rfl rfl
                          · refine gg_aload_n dX10_readException_153 rfl rfl ?_
                            refine gm_get13 rfl dX10_readException_154 ?_
                            refine gg_iload dX10_readException_157 rfl ?_
                            refine gi_iconst dX10_readException_159 ?_
                            refine gi_iadd dX10_readException_160 ?_
                            refine gg_iload dX10_readException_161 rfl ?_
                            refine gi_iadd dX10_readException_163 ?_
                            refine gg_iload dX10_readException_164 rfl ?_
                            refine gg_iload_n dX10_readException_166 rfl ?_
                            refine gi_icmp_ge (tgt := 180) dX10_readException_167 (by decide) ⟨by omega, by omega⟩ ⟨by omega, by omega⟩ (fun c_167 => ?_) (fun c_167 => ?_)
                            · refine gi_iconst dX10_readException_180 ?_
                              refine gm_iast dX10_readException_181 (by decide) rfl (by decide) ⟨by omega, by simp only [ml9]; omega⟩ (by (try simp only [uA_s, uA_n, uA_ss, uA_cc, id_eq, ne_eq, not_false_eq_true, Nat.reduceEqDiff, Nat.reduceLT, reduceCtorEq]); rfl) ?_
                              refine gi_iinc dX10_readException_182 rfl (Nat.le_of_ble_eq_true rfl) rfl ?_
                              refine gg_goto (tgt := 146) dX10_readException_185 (by decide) ?_
                              refine gg_conv (ih_146 _ (by omega) (k + 1) rfl (by omega)) (by rw [← lyA_q hk.1 (by omega)]) rfl rfl
                            · refine gg_aload_n dX10_readException_170 rfl rfl ?_
                              refine gm_get33 rfl dX10_readException_171 ?_
                              refine gg_iload dX10_readException_174 rfl ?_
                              refine gm_iald dX10_readException_176 (by decide) rfl (by decide) ⟨by omega, by simp only [ml9]; omega⟩ (by (try simp only [uA_s, uA_n, ne_eq, not_false_eq_true, Nat.reduceEqDiff, reduceCtorEq]); rfl) ?_
                              refine gg_goto (tgt := 181) dX10_readException_177 (by decide) ?_
                              refine gm_iast dX10_readException_181 (by decide) rfl (by decide) ⟨by omega, by simp only [ml9]; omega⟩ (by (try simp only [uA_s, uA_n, uA_ss, uA_cc, id_eq, ne_eq, not_false_eq_true, Nat.reduceEqDiff, Nat.reduceLT, reduceCtorEq]); rfl) ?_
                              refine gi_iinc dX10_readException_182 rfl (Nat.le_of_ble_eq_true rfl) rfl ?_
                              refine gg_goto (tgt := 146) dX10_readException_185 (by decide) ?_
                              refine gg_conv (ih_146 _ (by omega) (k + 1) rfl (by omega)) (by rw [← lyA_p hk.1 (by omega)]) rfl rfl
                      refine gg_conv (L_146 _ 0 rfl (by omega)) (by rw [lyA_0]) rfl rfl
                    refine gg_drop 4 ?_
                    refine gg_drop 5 ?_
                    refine gg_conv (L_129 (A 1 4) (by rw [if_pos (by omega)]) (by omega)) (by rw [if_pos (Int.le_refl _)]) rfl rfl
                refine gg_drop 4 ?_
                refine gg_drop 5 ?_
                exact L_104 (Or.inr (by omega))
              · refine gg_aload_n dX10_readException_98 rfl rfl ?_
                refine gi_iconst dX10_readException_99 ?_
                refine gc_X10_162 rfl dX10_readException_100 ⟨(Nat.le_of_ble_eq_true rfl), (Nat.le_of_ble_eq_true rfl)⟩ ⟨(Nat.le_of_ble_eq_true rfl), (Nat.le_of_ble_eq_true rfl)⟩ (Nat.le_of_ble_eq_true rfl) (HAt.mu rfl) (c_X10_fails) (fun _ _ w => w.elim) (fun r_100 h_100 hp => ?_)
                obtain ⟨rfl, rfl⟩ := hp
                subst hQF9
                refine gg_iret dX10_readException_103 rfl rfl ⟨(Nat.le_of_ble_eq_true rfl), (Nat.le_of_ble_eq_true rfl)⟩ ?_
                rw [hex] at c_84
                exact ⟨mv, Or.inr (Or.inl ⟨⟨z1, by omega, by omega⟩, by rw [z4]; exact z5, c_84, c_95, rfl, by simp only [uF_s, uF_n, uF_ss, uF_cc, id_eq, ne_eq, not_false_eq_true, Nat.reduceEqDiff, Nat.reduceLT, reduceCtorEq]⟩)⟩
          · exact absurd rfl c_63
        · have z9 : ¬ (rxO (A 5) (F 8) wv ∧ dgR (A 5) (F 8) 6 (wv + 1) ≠ 0 ∧ wv + 1 + dgR (A 5) (F 8) 6 (wv + 1) = F 8) ∧ av = (if rxO (A 5) (F 8) wv then wv + 1 + dgR (A 5) (F 8) 6 (wv + 1) else wv) := by
            rcases K with ⟨k1, k2, k3⟩ | ⟨k1, ⟨k2, k3, k4⟩ | ⟨k2, k3, k4, k5, k6⟩⟩
            · rw [if_neg k1]; exact ⟨fun q => k1 q.1, k3⟩
            · rw [if_pos k1]; exact ⟨fun q => q.2.1 k4, by omega⟩
            · rw [if_pos k1]; exact ⟨fun q => by omega, by omega⟩
          obtain ⟨z1, z2⟩ := z9
          refine gi_if_eq (tgt := 72) dX10_readException_63 (by decide) ⟨by omega, by omega⟩ (fun c_63 => ?_) (fun c_63 => ?_)
          · exact absurd c_63 (by decide)
          · refine gg_aload_n dX10_readException_66 rfl rfl ?_
            refine gi_iconst dX10_readException_67 ?_
            refine gc_X10_162 rfl dX10_readException_68 ⟨(Nat.le_of_ble_eq_true rfl), (Nat.le_of_ble_eq_true rfl)⟩ ⟨(Nat.le_of_ble_eq_true rfl), (Nat.le_of_ble_eq_true rfl)⟩ (Nat.le_of_ble_eq_true rfl) (HAt.mu rfl) (c_X10_fails) (fun _ _ w => w.elim) (fun r_68 h_68 hp => ?_)
            obtain ⟨rfl, rfl⟩ := hp
            subst hQF9
            refine gg_iret dX10_readException_71 rfl rfl ⟨(Nat.le_of_ble_eq_true rfl), (Nat.le_of_ble_eq_true rfl)⟩ ?_
            exact ⟨mv, Or.inl ⟨z1, rfl, by rw [← z2]; simp only [uF_s, uF_n, uF_ss, uF_cc, id_eq, ne_eq, not_false_eq_true, Nat.reduceEqDiff, Nat.reduceLT, reduceCtorEq]⟩⟩
      refine gg_iload_n dX10_readException_17 rfl ?_
      refine gi_if_eq (tgt := 41) dX10_readException_18 (by decide) ⟨by omega, by omega⟩ (fun c_18 => ?_) (fun c_18 => ?_)
      · refine gg_aload_n dX10_readException_41 rfl rfl ?_
        refine gm_get54 rfl dX10_readException_42 ?_
        refine gg_iload_n dX10_readException_45 rfl ?_
        refine gg_aload_n dX10_readException_46 rfl rfl ?_
        refine gi_iconst dX10_readException_47 ?_
        refine gi_iconst dX10_readException_48 ?_
        refine gc_X10_201 rfl dX10_readException_49 ⟨(Nat.le_of_ble_eq_true rfl), (Nat.le_of_ble_eq_true rfl)⟩ ⟨(Nat.le_of_ble_eq_true rfl), (Nat.le_of_ble_eq_true rfl)⟩ (Nat.le_of_ble_eq_true rfl) (HAt.mu rfl) (c_X10_digit (by refine ⟨?_, ?_, ?_, ?_⟩ <;> (try simp only [uF_s, uF_n, uF_ss, uF_cc, id_eq, ne_eq, not_false_eq_true, Nat.reduceEqDiff, Nat.reduceLT, reduceCtorEq, uA_s, uA_n, uA_ss, uA_cc, id_eq, ne_eq, not_false_eq_true, Nat.reduceEqDiff, Nat.reduceLT, reduceCtorEq]) <;> first | omega | assumption | exact bi_01 _ | exact Or.inl trivial) ⟨by omega, by omega⟩ ⟨by omega, by omega⟩) (fun _ _ w => w.elim) (fun r_49 h_49 hp => ?_)
        have hsv : sgn (uF (uF (uF F 0 0) 9 av) 11 ev) (uA A 6 mv) = if ev = 0 ∧ av < F 8 then A 5 av else -1 := by simp only [sgn, uF_s, uF_n, uF_ss, uF_cc, id_eq, ne_eq, not_false_eq_true, Nat.reduceEqDiff, Nat.reduceLT, reduceCtorEq, uA_s, uA_n, uA_ss, uA_cc, id_eq, ne_eq, not_false_eq_true, Nat.reduceEqDiff, Nat.reduceLT, reduceCtorEq]
        simp only [uF_s, uF_n, uF_ss, uF_cc, id_eq, ne_eq, not_false_eq_true, Nat.reduceEqDiff, Nat.reduceLT, reduceCtorEq] at hp
        rw [hsv] at hp
        rcases hp with ⟨g1, g2, rfl, rfl⟩ | ⟨g1, rfl, rfl⟩
        · refine gm_iast dX10_readException_52 (by decide) rfl (by decide) ⟨by omega, by simp only [ml9]; omega⟩ (by (try simp only [uA_s, uA_n, uA_ss, uA_cc, id_eq, ne_eq, not_false_eq_true, Nat.reduceEqDiff, Nat.reduceLT, reduceCtorEq]); rfl) ?_
          refine gi_iinc dX10_readException_53 rfl (Nat.le_of_ble_eq_true rfl) rfl ?_
          refine gg_goto (tgt := 17) dX10_readException_56 (by decide) ?_
          refine gg_drop 3 ?_
          refine gg_drop 4 ?_
          refine gg_drop 5 ?_
          obtain ⟨y1, y2, y3⟩ := rxJ_d J rfl (by omega) g1 g2
          exact gg_conv (ih_17 _ (by omega) (iv + 1) (av + 1) ev _ rfl (by omega) (by omega) he y1) rfl rfl rfl
        · refine gm_iast dX10_readException_52 (by decide) rfl (by decide) ⟨by omega, by simp only [ml9]; omega⟩ (by (try simp only [uA_s, uA_n, uA_ss, uA_cc, id_eq, ne_eq, not_false_eq_true, Nat.reduceEqDiff, Nat.reduceLT, reduceCtorEq]); rfl) ?_
          refine gi_iinc dX10_readException_53 rfl (Nat.le_of_ble_eq_true rfl) rfl ?_
          refine gg_goto (tgt := 17) dX10_readException_56 (by decide) ?_
          refine gg_drop 3 ?_
          refine gg_drop 4 ?_
          refine gg_drop 5 ?_
          exact gg_conv (ih_17 _ (by omega) (iv + 1) av 1 _ rfl (by omega) (by omega) (Or.inr rfl) (rxJ_e J rfl (by omega) g1)) rfl rfl rfl
      · refine gg_iload_n dX10_readException_21 rfl ?_
        refine gi_bipush dX10_readException_22 (by decide) ?_
        refine gi_icmp_ge (tgt := 59) dX10_readException_24 (by decide) ⟨by omega, by omega⟩ ⟨by omega, by omega⟩ (fun c_24 => ?_) (fun c_24 => ?_)
        · refine gg_drop 3 ?_
          refine gg_drop 4 ?_
          refine gg_drop 5 ?_
          exact L_59 iv av ev mv hi ha he (rxJ_k J rfl (by omega) (Or.inl (by omega)))
        · refine gg_aload_n dX10_readException_27 rfl rfl ?_
          refine gc_X10_166 rfl dX10_readException_28 ⟨(Nat.le_of_ble_eq_true rfl), (Nat.le_of_ble_eq_true rfl)⟩ ⟨(Nat.le_of_ble_eq_true rfl), (Nat.le_of_ble_eq_true rfl)⟩ (Nat.le_of_ble_eq_true rfl) (HAt.mu rfl) (c_X10_sign (by refine ⟨?_, ?_, ?_, ?_⟩ <;> (try simp only [uF_s, uF_n, uF_ss, uF_cc, id_eq, ne_eq, not_false_eq_true, Nat.reduceEqDiff, Nat.reduceLT, reduceCtorEq, uA_s, uA_n, uA_ss, uA_cc, id_eq, ne_eq, not_false_eq_true, Nat.reduceEqDiff, Nat.reduceLT, reduceCtorEq]) <;> first | omega | assumption | exact bi_01 _ | exact Or.inl trivial)) (fun _ _ w => w.elim) (fun r_28 h_28 hp => ?_)
          obtain ⟨rfl, rfl⟩ := hp
          refine gi_bipush dX10_readException_31 (by decide) ?_
          refine gi_bipush dX10_readException_33 (by decide) ?_
          refine gc_X10_158 rfl dX10_readException_35 ⟨(Nat.le_of_ble_eq_true rfl), (Nat.le_of_ble_eq_true rfl)⟩ ⟨(Nat.le_of_ble_eq_true rfl), (Nat.le_of_ble_eq_true rfl)⟩ (Nat.le_of_ble_eq_true rfl) (c_X10_in (by have := sgn_r (F := uF (uF (uF F 0 0) 9 av) 11 ev) (A := uA A 6 mv) (by refine ⟨?_, ?_, ?_, ?_⟩ <;> (try simp only [uF_s, uF_n, uF_ss, uF_cc, id_eq, ne_eq, not_false_eq_true, Nat.reduceEqDiff, Nat.reduceLT, reduceCtorEq, uA_s, uA_n, uA_ss, uA_cc, id_eq, ne_eq, not_false_eq_true, Nat.reduceEqDiff, Nat.reduceLT, reduceCtorEq]) <;> first | omega | assumption | exact bi_01 _ | exact Or.inl trivial); omega) ⟨by omega, by omega⟩ ⟨by omega, by omega⟩) (fun _ _ w => w.elim) (fun r_35 h_35 hp => ?_)
          obtain ⟨rfl, rfl⟩ := hp
          refine gi_if_eq (tgt := 59) dX10_readException_38 (by decide) (bi_r _) (fun c_38 => ?_) (fun c_38 => ?_)
          · rw [bi_f] at c_38
            refine gg_drop 3 ?_
            refine gg_drop 4 ?_
            refine gg_drop 5 ?_
            refine L_59 iv av ev mv hi ha he (rxJ_k J rfl (by omega) (Or.inr ?_))
            have hsv : sgn (uF (uF (uF F 0 0) 9 av) 11 ev) (uA A 6 mv) = if ev = 0 ∧ av < F 8 then A 5 av else -1 := by simp only [sgn, uF_s, uF_n, uF_ss, uF_cc, id_eq, ne_eq, not_false_eq_true, Nat.reduceEqDiff, Nat.reduceLT, reduceCtorEq, uA_s, uA_n, uA_ss, uA_cc, id_eq, ne_eq, not_false_eq_true, Nat.reduceEqDiff, Nat.reduceLT, reduceCtorEq]
            rw [hsv] at c_38
            intro q
            simp [q] at c_38
          · rw [bi_t] at c_38
            refine gg_aload_n dX10_readException_41 rfl rfl ?_
            refine gm_get54 rfl dX10_readException_42 ?_
            refine gg_iload_n dX10_readException_45 rfl ?_
            refine gg_aload_n dX10_readException_46 rfl rfl ?_
            refine gi_iconst dX10_readException_47 ?_
            refine gi_iconst dX10_readException_48 ?_
            refine gc_X10_201 rfl dX10_readException_49 ⟨(Nat.le_of_ble_eq_true rfl), (Nat.le_of_ble_eq_true rfl)⟩ ⟨(Nat.le_of_ble_eq_true rfl), (Nat.le_of_ble_eq_true rfl)⟩ (Nat.le_of_ble_eq_true rfl) (HAt.mu rfl) (c_X10_digit (by refine ⟨?_, ?_, ?_, ?_⟩ <;> (try simp only [uF_s, uF_n, uF_ss, uF_cc, id_eq, ne_eq, not_false_eq_true, Nat.reduceEqDiff, Nat.reduceLT, reduceCtorEq, uA_s, uA_n, uA_ss, uA_cc, id_eq, ne_eq, not_false_eq_true, Nat.reduceEqDiff, Nat.reduceLT, reduceCtorEq]) <;> first | omega | assumption | exact bi_01 _ | exact Or.inl trivial) ⟨by omega, by omega⟩ ⟨by omega, by omega⟩) (fun _ _ w => w.elim) (fun r_49 h_49 hp => ?_)
            have hsv : sgn (uF (uF (uF F 0 0) 9 av) 11 ev) (uA A 6 mv) = if ev = 0 ∧ av < F 8 then A 5 av else -1 := by simp only [sgn, uF_s, uF_n, uF_ss, uF_cc, id_eq, ne_eq, not_false_eq_true, Nat.reduceEqDiff, Nat.reduceLT, reduceCtorEq, uA_s, uA_n, uA_ss, uA_cc, id_eq, ne_eq, not_false_eq_true, Nat.reduceEqDiff, Nat.reduceLT, reduceCtorEq]
            simp only [uF_s, uF_n, uF_ss, uF_cc, id_eq, ne_eq, not_false_eq_true, Nat.reduceEqDiff, Nat.reduceLT, reduceCtorEq] at hp
            rw [hsv] at hp
            rcases hp with ⟨g1, g2, rfl, rfl⟩ | ⟨g1, rfl, rfl⟩
            · refine gm_iast dX10_readException_52 (by decide) rfl (by decide) ⟨by omega, by simp only [ml9]; omega⟩ (by (try simp only [uA_s, uA_n, uA_ss, uA_cc, id_eq, ne_eq, not_false_eq_true, Nat.reduceEqDiff, Nat.reduceLT, reduceCtorEq]); rfl) ?_
              refine gi_iinc dX10_readException_53 rfl (Nat.le_of_ble_eq_true rfl) rfl ?_
              refine gg_goto (tgt := 17) dX10_readException_56 (by decide) ?_
              refine gg_drop 3 ?_
              refine gg_drop 4 ?_
              refine gg_drop 5 ?_
              obtain ⟨y1, y2, y3⟩ := rxJ_d J rfl (by omega) g1 g2
              exact gg_conv (ih_17 _ (by omega) (iv + 1) (av + 1) ev _ rfl (by omega) (by omega) he y1) rfl rfl rfl
            · refine gm_iast dX10_readException_52 (by decide) rfl (by decide) ⟨by omega, by simp only [ml9]; omega⟩ (by (try simp only [uA_s, uA_n, uA_ss, uA_cc, id_eq, ne_eq, not_false_eq_true, Nat.reduceEqDiff, Nat.reduceLT, reduceCtorEq]); rfl) ?_
              refine gi_iinc dX10_readException_53 rfl (Nat.le_of_ble_eq_true rfl) rfl ?_
              refine gg_goto (tgt := 17) dX10_readException_56 (by decide) ?_
              refine gg_drop 3 ?_
              refine gg_drop 4 ?_
              refine gg_drop 5 ?_
              rw [hsv] at c_38
              exact absurd (by simpa using c_38) g1
  refine gg_drop 3 ?_
  refine gg_drop 4 ?_
  refine gg_drop 5 ?_
  exact gg_conv (L_17 _ 0 av ev (A 6) rfl (by omega) ha he (J.imp (fun q => q) (fun q => ⟨q.1, Or.inl ⟨rfl, q.2⟩⟩))) (by rw [uA_id]) rfl rfl
