/-! the reference: rhymes -/
theorem frF_m {l1 l2 : List Nat} {F G : Nat → Int} (f1 : frF l1 F G) (h1 : ∀ j, j ∈ l1 → j ∈ l2) : frF l2 F G := fun j hj => f1 j (fun q => hj (h1 j q))
theorem frA_m {l1 l2 : List Nat} {F G : Nat → Int → Int} (f1 : frA l1 F G) (h1 : ∀ j, j ∈ l1 → j ∈ l2) : frA l2 F G := fun j hj => f1 j (fun q => hj (h1 j q))
theorem parseL_w {f : Int → Int} {n : Int} : ∀ {m : Nat} {p : Int}, 0 ≤ p → (parseL f n m p).1 = true → ∀ t, t ∈ (parseL f n m p).2.2 → p ≤ t.1 ∧ (1 ≤ t.2.1 ∧ t.2.1 ≤ 12) ∧ t.1 + t.2.1 ≤ n
  | 0, p, h0, hq, t, ht => by cases hq
  | m + 1, p, h0, hq, t, ht => by
    have h1 := parseL_lt hq
    have h2 := wlen_r f n 12 p
    have h3 := (parseL_ok hq).1
    have h4 := h2.2.2 (by omega)
    rcases (parseL_ok hq).2.2 with ⟨-, q2⟩ | ⟨-, q1, q2⟩
    · rw [q2, List.mem_singleton] at ht
      subst ht
      exact ⟨Int.le_refl _, ⟨by show 1 ≤ wlen f n 12 p; omega, by show wlen f n 12 p ≤ 12; omega⟩, h4⟩
    · rw [q2, List.mem_cons] at ht
      rcases ht with rfl | ht
      · exact ⟨Int.le_refl _, ⟨by show 1 ≤ wlen f n 12 p; omega, by show wlen f n 12 p ≤ 12; omega⟩, h4⟩
      · have hb := bi_01 (decide (p + wlen f n 12 p < n) && decide (f (p + wlen f n 12 p) = 44))
        have := parseL_w (by omega) q1 t ht
        exact ⟨by omega, this.2⟩
theorem lnW_w {a : Int → Int} {d l : Int} (N : LnA a) (hd : 0 ≤ d ∧ d ≤ 3) (hl : 0 ≤ l ∧ l < a (5 + d)) {i : Nat} {pv lenv : Int} {cv : Bool} (hi : (lnW a d l)[i]? = some (pv, lenv, cv)) : 0 ≤ pv ∧ (1 ≤ lenv ∧ lenv ≤ 12) ∧ pv + lenv ≤ a (169 + 61 * (10 * d + l)) := by
  obtain ⟨n1, n2, n3⟩ := N d l (by omega) (by omega) (by omega) (by omega)
  exact parseL_w (by omega) n3 _ (List.mem_of_getElem? hi)
theorem lnW_n {a : Int → Int} {d l : Int} (N : LnA a) (hd : 0 ≤ d ∧ d ≤ 3) (hl : 0 ≤ l ∧ l < a (5 + d)) : 1 ≤ (lnW a d l).length ∧ (lnW a d l).length ≤ 12 := by
  obtain ⟨n1, n2, n3⟩ := N d l (by omega) (by omega) (by omega) (by omega)
  exact parseL_n n3
/-- the last word: where it stands, its length -/
def lsW (a : Int → Int) (d l : Int) : Int × Int × Bool := ((lnW a d l)[(lnW a d l).length - 1]?).getD (0, 0, false)
def lwP (a : Int → Int) (d l : Int) : Int := 169 + 61 * (10 * d + l) + 1 + (lsW a d l).1
def lwN (a : Int → Int) (d l : Int) : Int := (lsW a d l).2.1
theorem lsW_e {a : Int → Int} {d l : Int} (h : 1 ≤ (lnW a d l).length) : (lnW a d l)[(lnW a d l).length - 1]? = some ((lsW a d l).1, (lsW a d l).2.1, (lsW a d l).2.2) := by
  unfold lsW
  rw [List.getElem?_eq_getElem (by omega)]
  rfl
theorem lw_r {a : Int → Int} {d l : Int} (N : LnA a) (hd : 0 ≤ d ∧ d ≤ 3) (hl : 0 ≤ l ∧ l < a (5 + d)) (hl9 : a (5 + d) ≤ 10) : (170 ≤ lwP a d l ∧ lwP a d l + lwN a d l ≤ 2609) ∧ (1 ≤ lwN a d l ∧ lwN a d l ≤ 12) ∧ lwP a d l + lwN a d l ≤ 169 + 61 * (10 * d + l) + 1 + a (169 + 61 * (10 * d + l)) ∧ 169 + 61 * (10 * d + l) + 1 ≤ lwP a d l := by
  obtain ⟨n1, n2, n3⟩ := N d l (by omega) (by omega) (by omega) (by omega)
  have h1 := lnW_w N hd hl (lsW_e (lnW_n N hd hl).1)
  unfold lwP lwN
  omega
theorem LD_last {a : Int → Int} {d l : Int} {F : Nat → Int} {A : Nat → Int → Int} (L : LD a d l F A) : WDq a A (F 16 - 1) (lwP a d l) (lwN a d l) (lsW a d l).2.2 := by
  have h1 := L.1.1
  have h2 := L.2.1
  have := L.2.2 _ _ _ _ (lsW_e (a := a) (d := d) (l := l) (by omega))
  rw [show (((lnW a d l).length - 1 : Nat) : Int) = F 16 - 1 by omega] at this
  exact this
/-- the last syllable with the mark 2 -/
def lst2 (v : Int → Int) : Nat → Int
  | 0 => -1
  | k + 1 => if v k = 2 then k else lst2 v k
theorem lst2_r (v : Int → Int) : ∀ k : Nat, -1 ≤ lst2 v k ∧ lst2 v k < k
  | 0 => by simp [lst2]
  | k + 1 => by
    have := lst2_r v k
    rw [lst2]; split <;> omega
def bhd (a : Int → Int) (q n : Int) : Int := if lst2 (mrk a (exO a a q n) (wSy a q n)) (wSy a q n).toNat < 0 then 0 else wSy a q n - 1 - lst2 (mrk a (exO a a q n) (wSy a q n)) (wSy a q n).toNat
def cfr (a : Int → Int) (q n : Int) : Int := wA (fun k => a (q + k)) (fun _ => 0) n (max 0 (wC (fun k => a (q + k)) n - 1 - bhd a q n))
def rhF (a : Int → Int) (d l : Int) : Int := lwP a d l + cfr a (lwP a d l) (lwN a d l)
def rhM (a : Int → Int) (d l : Int) : Int := lwN a d l - cfr a (lwP a d l) (lwN a d l) - bi (wS (fun k => a (lwP a d l + k)) (lwN a d l))
theorem wA_in {f g : Int → Int} {n i : Int} (hn : 1 ≤ n) (h0 : 0 ≤ i) (h1 : i < wC f n) : wA f g n i = wA f (fun _ => 0) n i ∧ 0 ≤ wA f g n i ∧ wA f g n i < n := by
  have hr := wN_r f n.toNat
  unfold wA
  by_cases q : wN f n.toNat = 0
  · have q2 : wS f n = false := by unfold wS; rw [decide_eq_false_iff_not]; omega
    rw [wC, q2, if_neg (by decide), if_pos q] at h1
    rw [if_pos q, if_pos q, show i = 0 by omega, up_s, up_s]
    omega
  · have h2 : i < wN f n.toNat := by unfold wC at h1; split at h1 <;> omega
    rw [if_neg q, if_neg q]
    have := wF_in f g n.toNat i h0 h2
    omega
theorem bhd_r {a : Int → Int} {q n : Int} : 0 ≤ bhd a q n := by
  have := lst2_r (mrk a (exO a a q n) (wSy a q n)) (wSy a q n).toNat
  unfold bhd
  split <;> omega
theorem cfr_r {a : Int → Int} {q n : Int} (hn : 1 ≤ n ∧ n ≤ 12) : 0 ≤ cfr a q n ∧ cfr a q n < n := by
  have h1 := wC_r (f := fun k => a (q + k)) hn
  have h2 := bhd_r (a := a) (q := q) (n := n)
  exact (wA_in (by omega) (by omega) (by omega)).2
theorem LD_ext {a : Int → Int} {d l : Int} {F G : Nat → Int} {A B : Nat → Int → Int} (q : LD a d l F A) (e0 : G 16 = F 16) (e8 : B 8 = A 8) (e9 : B 9 = A 9) (e10 : B 10 = A 10) (e11 : B 11 = A 11) (e12 : B 12 = A 12) (e13 : B 13 = A 13) (e14 : B 14 = A 14) : LD a d l G B := by
  refine ⟨LW_fr e0 e10 e12 e13 e14 e11 q.1, by rw [e0]; exact q.2.1, fun i pv lenv cv hi => ?_⟩
  have := q.2.2 i pv lenv cv hi
  unfold WDq at this ⊢
  rw [e8, e9, e10, e11, e12, e13, e14]
  exact this
theorem rh_r {a : Int → Int} {d l : Int} (N : LnA a) (hd : 0 ≤ d ∧ d ≤ 3) (hl : 0 ≤ l ∧ l < a (5 + d)) (hl9 : a (5 + d) ≤ 10) : (170 ≤ rhF a d l ∧ rhF a d l + rhM a d l ≤ 2609) ∧ (-1 ≤ rhM a d l ∧ rhM a d l ≤ 12) ∧ 169 + 61 * (10 * d + l) + 1 ≤ rhF a d l ∧ rhF a d l + rhM a d l ≤ 169 + 61 * (10 * d + l) + 1 + a (169 + 61 * (10 * d + l)) := by
  have h1 := lw_r N hd hl hl9
  have h2 := cfr_r (a := a) (q := lwP a d l) h1.2.1
  have h3 := bi_01 (wS (fun k => a (lwP a d l + k)) (lwN a d l))
  unfold rhF rhM
  omega
def likeR (a : Int → Int) (p n q m : Int) : Bool := decide (n = m) && eqN (fun k => a (p + k)) (fun k => a (q + k)) n.toNat
/-- the vowel number i -/
def vwA (f : Int → Int) : Nat → Int → Int → Int
  | 0, _, _ => -1
  | m + 1, p, i => if vow (f p) = true then (if i = 0 then f p else vwA f m (p + 1) (i - 1)) else vwA f m (p + 1) i
theorem vwA_r {f : Int → Int} (hf : ∀ x, InR (f x)) : ∀ m p i, InR (vwA f m p i)
  | 0, p, i => by simp [vwA, InR]
  | m + 1, p, i => by
    rw [vwA]
    split
    · split
      · exact hf p
      · exact vwA_r hf m _ _
    · exact vwA_r hf m _ _
def vwE (a : Int → Int) (p n q m : Int) : Nat → Bool
  | 0 => true
  | k + 1 => vwE a p n q m k && decide (vwA a n.toNat p k = vwA a m.toNat q k)
theorem vwE_f {a : Int → Int} {p n q m : Int} {k : Nat} (h : vwE a p n q m k = false) : ∀ j, k ≤ j → vwE a p n q m j = false
  | 0, hj => by rw [show k = 0 by omega] at h; exact h
  | j + 1, hj => by
    by_cases e : k = j + 1
    · rw [← e]; exact h
    · rw [vwE, vwE_f h j (by omega)]; rfl
def knd (a : Int → Int) (d x y : Int) : Int :=
  if likeR a (lwP a d x) (lwN a d x) (lwP a d y) (lwN a d y) = true then 3
  else if likeR a (rhF a d x) (rhM a d x) (rhF a d y) (rhM a d y) = true then 2
  else if vwE a (rhF a d x) (rhM a d x) (rhF a d y) (rhM a d y) 13 = true then 1 else 0
theorem knd_r (a : Int → Int) (d x y : Int) : 0 ≤ knd a d x y ∧ knd a d x y ≤ 3 := by
  unfold knd
  split
  · omega
  · split
    · omega
    · split <;> omega
set_option maxRecDepth 100000 in
set_option maxHeartbeats 4000000 in
theorem c_X10_laysRhyme {Γ : GT} {h : XH} {F : Nat → Int} {A : Nat → Int → Int} (S : StA (A 1)) (N : LnA (A 1)) (E9 : ExA (A 1)) {d l : Int} (hd : 0 ≤ d ∧ d ≤ 3) (hl : 0 ≤ l ∧ l < A 1 (5 + d)) : Ct Γ M_X10_laysRhyme [.ref (g_L Γ 0), .int (iN d), .int (iN l)] (mst Γ h F A) (fun r h9 => ∃ (F1 : Nat → Int) (A1 : Nat → Int → Int), r = none ∧ h9 = mst Γ h F1 A1 ∧ frF [16, 24, 25, 39, 40] F F1 ∧ frA [8, 9, 10, 11, 12, 13, 14, 15] A A1 ∧ LD (A 1) d l F1 A1 ∧ F1 39 = rhF (A 1) d l ∧ F1 40 = rhM (A 1) d l) (fun _ _ => False) := by
  refine Ct.of rfl (by decide +kernel) (Nat.le_of_ble_eq_true rfl) ?_
  generalize hQF9 : QM Γ _ _ _ = QF9
  obtain ⟨t0, t1, t2, t3, t4, t5, t6⟩ := id S
  refine gg_aload_n dX10_laysRhyme_0 rfl rfl ?_
  refine gg_iload_n dX10_laysRhyme_1 rfl ?_
  refine gg_iload_n dX10_laysRhyme_2 rfl ?_
  refine gc_X10_294 rfl dX10_laysRhyme_3 ⟨(Nat.le_of_ble_eq_true rfl), (Nat.le_of_ble_eq_true rfl)⟩ ⟨(Nat.le_of_ble_eq_true rfl), (Nat.le_of_ble_eq_true rfl)⟩ (Nat.le_of_ble_eq_true rfl) (HAt.mu rfl) (c2_laysLine S N E9 hd hl) (fun _ _ w => w.elim) (fun r_3 h_3 hp => ?_)
  obtain ⟨F1, A1, rfl, rfl, hF, hA, hL⟩ := hp
  have g1 : A1 1 = A 1 := hA 1 (by decide)
  have hW := LD_last hL
  have hw9 := lw_r N hd hl (t5 d (by omega) (by omega)).2
  have h16 := hL.1.1
  obtain ⟨qv, hqv⟩ : ∃ qv, qv = lwP (A 1) d l := ⟨_, rfl⟩
  obtain ⟨nv, hnv⟩ : ∃ nv, nv = lwN (A 1) d l := ⟨_, rfl⟩
  rw [← hqv, ← hnv] at hW hw9
  obtain ⟨w0, w1, w2, w3, w4, w5, w6, w7⟩ := hW
  obtain ⟨sy, hsy⟩ : ∃ sy, sy = wSy (A 1) qv nv := ⟨_, rfl⟩
  rw [← hsy] at w0 w6 w7
  obtain ⟨wv, hwv⟩ : ∃ wv, wv = F1 16 - 1 := ⟨_, rfl⟩
  rw [← hwv] at w1 w2 w3 w4 w5 w6 w7
  have hcr := cfr_r (a := A 1) (q := qv) hw9.2.1
  have hbr := bhd_r (a := A 1) (q := qv) (n := nv)
  have hwc := wC_r (f := fun k => A 1 (qv + k)) (n := nv) hw9.2.1
  obtain ⟨vv, hvv⟩ : ∃ vv : Int → Int, vv = mrk (A 1) (exO (A 1) (A 1) qv nv) sy := ⟨_, rfl⟩
  rw [← hvv] at w7
  have hv2 : ∀ k, 0 ≤ k → k < sy → 0 ≤ vv k ∧ vv k ≤ 2 := by
    intro k k0 k1
    have := (hL.1.2 wv (by omega) (by omega)).2.2.2.2 k k0 (by rw [w6]; exact k1)
    rw [w7 k k0 k1] at this; exact this
  refine gg_aload_n dX10_laysRhyme_6 rfl rfl ?_
  refine gm_get60 rfl dX10_laysRhyme_7 (by (try simp only [uF_s, uF_n, ne_eq, not_false_eq_true, Nat.reduceEqDiff, reduceCtorEq]); rfl) ?_
  refine gi_iconst dX10_laysRhyme_10 ?_
  refine gi_isub dX10_laysRhyme_11 ?_
  refine gg_istore_n dX10_laysRhyme_12 (Nat.le_of_ble_eq_true rfl) rfl ?_
  rw [← hwv]
  have L_70 : ∀ (bv : Int) (hbv : bv = bhd (A 1) qv nv) (hb2 : 0 ≤ bv ∧ bv ≤ 12), GG Γ M_X10_laysRhyme QF9 (0, 0) (mst Γ h F1 A1) 70 [some (.ref (g_L Γ 0)), some (.int (iN d)), some (.int (iN l)), some (.int (iN wv)), none, none, none] [.int (iN bv)] := by
    intro bv hbv hb2
    refine gg_istore dX10_laysRhyme_70 (Nat.le_of_ble_eq_true rfl) rfl ?_
    refine gg_aload_n dX10_laysRhyme_72 rfl rfl ?_
    refine gg_iload_n dX10_laysRhyme_73 rfl ?_
    refine gc_X10_249 rfl dX10_laysRhyme_74 ⟨(Nat.le_of_ble_eq_true rfl), (Nat.le_of_ble_eq_true rfl)⟩ ⟨(Nat.le_of_ble_eq_true rfl), (Nat.le_of_ble_eq_true rfl)⟩ (Nat.le_of_ble_eq_true rfl) (HAt.mu rfl) (c_X10_laysCores (F := F1) (A := A1) (by rw [g1]; exact S) ⟨by omega, by omega⟩ (by rw [w2]; omega) (by rw [w1, w2]; omega)) (fun _ _ w => w.elim) (fun r_74 h_74 hp => ?_)
    obtain ⟨rfl, rfl⟩ := hp
    rw [g1, w1, w2]
    have e13 : up (A1 13) wv (bi (wE (fun k => A 1 (qv + k)) nv)) = A1 13 := by rw [← w5, up_id]
    rw [e13, uA_id]
    have hbv : bv = bhd (A 1) qv nv := hbv
    have hci := wA_in (f := (fun k => A 1 (qv + k))) (g := A1 15) (n := nv) (i := max 0 (wC (fun k => A 1 (qv + k)) nv - 1 - bv)) (by omega) (by omega) (by omega)
    have hce : wA (fun k => A 1 (qv + k)) (A1 15) nv (max 0 (wC (fun k => A 1 (qv + k)) nv - 1 - bv)) = cfr (A 1) qv nv := by rw [hci.1, hbv]; rfl
    refine gi_iconst dX10_laysRhyme_77 ?_
    refine gg_aload_n dX10_laysRhyme_78 rfl rfl ?_
    refine gm_get85 rfl dX10_laysRhyme_79 (by (try simp only [uF_s, uF_n, ne_eq, not_false_eq_true, Nat.reduceEqDiff, reduceCtorEq]); rfl) ?_
    refine gi_iconst dX10_laysRhyme_82 ?_
    refine gi_isub dX10_laysRhyme_83 ?_
    refine gg_iload dX10_laysRhyme_84 rfl ?_
    refine gi_isub dX10_laysRhyme_86 ?_
    refine gc_X10_267 rfl dX10_laysRhyme_87 ⟨(Nat.le_of_ble_eq_true rfl), (Nat.le_of_ble_eq_true rfl)⟩ ⟨(Nat.le_of_ble_eq_true rfl), (Nat.le_of_ble_eq_true rfl)⟩ ?_
    rw [iN_max ⟨by omega, by omega⟩ ⟨by omega, by omega⟩]
    refine gg_istore dX10_laysRhyme_90 (Nat.le_of_ble_eq_true rfl) rfl ?_
    refine gg_aload_n dX10_laysRhyme_92 rfl rfl ?_
    refine gg_aload_n dX10_laysRhyme_93 rfl rfl ?_
    refine gm_get63 rfl dX10_laysRhyme_94 ?_
    refine gg_iload_n dX10_laysRhyme_97 rfl ?_
    refine gm_iald dX10_laysRhyme_98 (by decide) rfl (by decide) ⟨by omega, by simp only [ml9]; omega⟩ (by (try simp only [uA_s, uA_n, ne_eq, not_false_eq_true, Nat.reduceEqDiff, reduceCtorEq]); rfl) ?_
    refine gg_aload_n dX10_laysRhyme_99 rfl rfl ?_
    refine gm_get91 rfl dX10_laysRhyme_100 ?_
    refine gg_iload dX10_laysRhyme_103 rfl ?_
    refine gm_iald dX10_laysRhyme_105 (by decide) rfl (by decide) ⟨by omega, by simp only [ml9]; omega⟩ (by (try simp only [uA_s, uA_n, ne_eq, not_false_eq_true, Nat.reduceEqDiff, reduceCtorEq]); rfl) ?_
    refine gi_iadd dX10_laysRhyme_106 ?_
    refine gm_put130 rfl dX10_laysRhyme_107 (by (try simp only [uF_ss, uF_cc, id_eq, Nat.reduceLT, reduceCtorEq]); rfl) ?_
    refine gg_aload_n dX10_laysRhyme_110 rfl rfl ?_
    refine gg_aload_n dX10_laysRhyme_111 rfl rfl ?_
    refine gm_get66 rfl dX10_laysRhyme_112 ?_
    refine gg_iload_n dX10_laysRhyme_115 rfl ?_
    refine gm_iald dX10_laysRhyme_116 (by decide) rfl (by decide) ⟨by omega, by simp only [ml9]; omega⟩ (by (try simp only [uA_s, uA_n, ne_eq, not_false_eq_true, Nat.reduceEqDiff, reduceCtorEq]); rfl) ?_
    refine gg_aload_n dX10_laysRhyme_117 rfl rfl ?_
    refine gm_get91 rfl dX10_laysRhyme_118 ?_
    refine gg_iload dX10_laysRhyme_121 rfl ?_
    refine gm_iald dX10_laysRhyme_123 (by decide) rfl (by decide) ⟨by omega, by simp only [ml9]; omega⟩ (by (try simp only [uA_s, uA_n, ne_eq, not_false_eq_true, Nat.reduceEqDiff, reduceCtorEq]); rfl) ?_
    refine gi_isub dX10_laysRhyme_124 ?_
    refine gg_aload_n dX10_laysRhyme_125 rfl rfl ?_
    refine gm_get88 rfl dX10_laysRhyme_126 (by (try simp only [uF_s, uF_n, ne_eq, not_false_eq_true, Nat.reduceEqDiff, reduceCtorEq]); rfl) ?_
    refine gi_if_eq (tgt := 136) dX10_laysRhyme_129 (by decide) (bi_r _) (fun c_129 => ?_) (fun c_129 => ?_)
    · rw [bi_f] at c_129
      refine gi_iconst dX10_laysRhyme_136 ?_
      refine gi_isub dX10_laysRhyme_137 ?_
      refine gm_put133 rfl dX10_laysRhyme_138 (by (try simp only [uF_ss, uF_cc, id_eq, Nat.reduceLT, reduceCtorEq]); rfl) ?_
      subst hQF9
      refine gg_vret dX10_laysRhyme_141 rfl ⟨(Nat.le_of_ble_eq_true rfl), (Nat.le_of_ble_eq_true rfl)⟩ ?_
      have l13 := LD_ext (A := A1) (B := uA A1 15 (wA (fun k => A 1 (qv + k)) (A1 15) nv)) hL (G := F1) rfl rfl rfl rfl rfl rfl rfl rfl
      refine ⟨_, _, rfl, rfl, frF_u (frF_u (frF_u (frF_u (frF_m hF (by decide)) (by decide)) (by decide)) (by decide)) (by decide), frA_u hA (by decide), LD_fr (by simp only [uF_s, uF_n, uF_ss, uF_cc, id_eq, ne_eq, not_false_eq_true, Nat.reduceEqDiff, Nat.reduceLT, reduceCtorEq]) l13, ?_, ?_⟩
      · simp only [uF_s, uF_n, uF_ss, uF_cc, id_eq, ne_eq, not_false_eq_true, Nat.reduceEqDiff, Nat.reduceLT, reduceCtorEq]; rw [w1, hce, rhF, ← hqv, ← hnv]
      · simp only [uF_s, uF_n, uF_ss, uF_cc, id_eq, ne_eq, not_false_eq_true, Nat.reduceEqDiff, Nat.reduceLT, reduceCtorEq]; rw [w2, hce, rhM, ← hqv, ← hnv, c_129]; rfl
    · rw [bi_t] at c_129
      refine gi_iconst dX10_laysRhyme_132 ?_
      refine gg_goto (tgt := 137) dX10_laysRhyme_133 (by decide) ?_
      refine gi_isub dX10_laysRhyme_137 ?_
      refine gm_put133 rfl dX10_laysRhyme_138 (by (try simp only [uF_ss, uF_cc, id_eq, Nat.reduceLT, reduceCtorEq]); rfl) ?_
      subst hQF9
      refine gg_vret dX10_laysRhyme_141 rfl ⟨(Nat.le_of_ble_eq_true rfl), (Nat.le_of_ble_eq_true rfl)⟩ ?_
      have l13 := LD_ext (A := A1) (B := uA A1 15 (wA (fun k => A 1 (qv + k)) (A1 15) nv)) hL (G := F1) rfl rfl rfl rfl rfl rfl rfl rfl
      refine ⟨_, _, rfl, rfl, frF_u (frF_u (frF_u (frF_u (frF_m hF (by decide)) (by decide)) (by decide)) (by decide)) (by decide), frA_u hA (by decide), LD_fr (by simp only [uF_s, uF_n, uF_ss, uF_cc, id_eq, ne_eq, not_false_eq_true, Nat.reduceEqDiff, Nat.reduceLT, reduceCtorEq]) l13, ?_, ?_⟩
      · simp only [uF_s, uF_n, uF_ss, uF_cc, id_eq, ne_eq, not_false_eq_true, Nat.reduceEqDiff, Nat.reduceLT, reduceCtorEq]; rw [w1, hce, rhF, ← hqv, ← hnv]
      · simp only [uF_s, uF_n, uF_ss, uF_cc, id_eq, ne_eq, not_false_eq_true, Nat.reduceEqDiff, Nat.reduceLT, reduceCtorEq]; rw [w2, hce, rhM, ← hqv, ← hnv, c_129]; rfl
  have L_50 : ∀ (j : Int) (hj : -1 ≤ j ∧ j < sy) (hq : lst2 vv sy.toNat = j), GG Γ M_X10_laysRhyme QF9 (0, 0) (mst Γ h F1 A1) 50 [some (.ref (g_L Γ 0)), some (.int (iN d)), some (.int (iN l)), some (.int (iN wv)), some (.int (iN j)), none, none] [] := by
    intro j hj hq
    refine gg_iload dX10_laysRhyme_50 rfl ?_
    refine gi_if_ge (tgt := 59) dX10_laysRhyme_52 (by decide) ⟨by omega, by omega⟩ (fun c_52 => ?_) (fun c_52 => ?_)
    · refine gg_aload_n dX10_laysRhyme_59 rfl rfl ?_
      refine gm_get69 rfl dX10_laysRhyme_60 ?_
      refine gg_iload_n dX10_laysRhyme_63 rfl ?_
      refine gm_iald dX10_laysRhyme_64 (by decide) rfl (by decide) ⟨by omega, by simp only [ml9]; omega⟩ (by (try simp only [uA_s, uA_n, ne_eq, not_false_eq_true, Nat.reduceEqDiff, reduceCtorEq]); rfl) ?_
      refine gi_iconst dX10_laysRhyme_65 ?_
      refine gi_isub dX10_laysRhyme_66 ?_
      refine gg_iload dX10_laysRhyme_67 rfl ?_
      refine gi_isub dX10_laysRhyme_69 ?_
      refine gg_drop 4 ?_
      refine gg_drop 5 ?_
      refine gg_drop 6 ?_
      rw [w6]; exact L_70 _ (by rw [bhd, ← hsy, ← hvv, hq, if_neg (by omega)]) (by omega)
    · refine gi_iconst dX10_laysRhyme_55 ?_
      refine gg_goto (tgt := 70) dX10_laysRhyme_56 (by decide) ?_
      refine gg_drop 4 ?_
      refine gg_drop 5 ?_
      refine gg_drop 6 ?_
      exact L_70 0 (by rw [bhd, ← hsy, ← hvv, hq, if_pos c_52]) (by omega)
  have L_23 : ∀ (n9 : Nat) (j : Int), ((j + 1).toNat) = n9 → ∀ (hj : -1 ≤ j ∧ j < sy) (hq : lst2 vv sy.toNat = lst2 vv (j + 1).toNat), GG Γ M_X10_laysRhyme QF9 (0, 0) (mst Γ h F1 A1) 23 [some (.ref (g_L Γ 0)), some (.int (iN d)), some (.int (iN l)), some (.int (iN wv)), some (.int (iN j)), none, none] [] := by
    intro n9
    induction n9 using Nat.strongRecOn with
    | ind n9 ih_23 => 
      intro j hm9 hj hq
      refine gg_iload dX10_laysRhyme_23 rfl ?_
      refine gi_if_lt (tgt := 50) dX10_laysRhyme_25 (by decide) ⟨by omega, by omega⟩ (fun c_25 => ?_) (fun c_25 => ?_)
      · refine gg_drop 5 ?_
        refine gg_drop 6 ?_
        exact L_50 j (by omega) (by rw [hq, show (j + 1).toNat = 0 by omega]; rw [lst2]; omega)
      · refine gg_aload_n dX10_laysRhyme_28 rfl rfl ?_
        refine gm_get72 rfl dX10_laysRhyme_29 ?_
        refine gi_bipush dX10_laysRhyme_32 (by decide) ?_
        refine gg_iload_n dX10_laysRhyme_34 rfl ?_
        refine gi_imul dX10_laysRhyme_35 ?_
        refine gg_iload dX10_laysRhyme_36 rfl ?_
        refine gi_iadd dX10_laysRhyme_38 ?_
        refine gm_iald dX10_laysRhyme_39 (by decide) rfl (by decide) ⟨by omega, by simp only [ml9]; omega⟩ (w7 j (by omega) (by omega)) ?_
        refine gi_iconst dX10_laysRhyme_40 ?_
        refine gi_icmp_eq (tgt := 50) dX10_laysRhyme_41 (by decide) (by have := hv2 j (by omega) (by omega); exact ⟨by omega, by omega⟩) ⟨by omega, by omega⟩ (fun c_41 => ?_) (fun c_41 => ?_)
        · refine gg_drop 5 ?_
          refine gg_drop 6 ?_
          have ej : (j + 1).toNat = j.toNat + 1 := by omega
          exact L_50 j (by omega) (by rw [hq, ej, lst2, Int.toNat_of_nonneg (by omega), if_pos c_41])
        · refine gi_iinc dX10_laysRhyme_44 rfl (Nat.le_of_ble_eq_true rfl) rfl ?_
          refine gg_goto (tgt := 23) dX10_laysRhyme_47 (by decide) ?_
          refine gg_drop 5 ?_
          refine gg_drop 6 ?_
          have ej : (j + 1).toNat = (j - 1 + 1).toNat + 1 := by omega
          refine ih_23 _ (by omega) (j + -1) rfl (by omega) ?_
          rw [hq, ej, lst2, if_neg (by rw [show (((j - 1 + 1).toNat : Nat) : Int) = j by omega]; exact c_41)]; rfl
  refine gg_aload_n dX10_laysRhyme_13 rfl rfl ?_
  refine gm_get69 rfl dX10_laysRhyme_14 ?_
  refine gg_iload_n dX10_laysRhyme_17 rfl ?_
  refine gm_iald dX10_laysRhyme_18 (by decide) rfl (by decide) ⟨by omega, by simp only [ml9]; omega⟩ (by (try simp only [uA_s, uA_n, ne_eq, not_false_eq_true, Nat.reduceEqDiff, reduceCtorEq]); rfl) ?_
  refine gi_iconst dX10_laysRhyme_19 ?_
  refine gi_isub dX10_laysRhyme_20 ?_
  refine gg_istore dX10_laysRhyme_21 (Nat.le_of_ble_eq_true rfl) rfl ?_
  refine gg_drop 5 ?_
  refine gg_drop 6 ?_
  rw [w6]
  exact L_23 _ (sy - 1) rfl (by omega) (by rw [show sy - 1 + 1 = sy by omega])
set_option maxRecDepth 100000 in
set_option maxHeartbeats 4000000 in
theorem c_X10_areLike {Γ : GT} {h : XH} {F : Nat → Int} {A : Nat → Int → Int} (S : StA (A 1)) {p n q m : Int} (hp9 : 0 ≤ p ∧ p + n ≤ 2609) (hq9 : 0 ≤ q ∧ q + m ≤ 2609) (hn9 : -1 ≤ n ∧ n ≤ 12) (hm9 : -1 ≤ m ∧ m ≤ 12) : Ct Γ M_X10_areLike [.ref (g_L Γ 0), .int (iN p), .int (iN n), .int (iN q), .int (iN m)] (mst Γ h F A) (fun r h9 => r = some (.int (iN (bi (likeR (A 1) p n q m)))) ∧ h9 = mst Γ h F A) (fun _ _ => False) := by
  refine Ct.of rfl (by decide +kernel) (Nat.le_of_ble_eq_true rfl) ?_
  generalize hQF9 : QM Γ _ _ _ = QF9
  have t6 := S.2.2.2.2.2.2
  refine gg_iload_n dX10_areLike_0 rfl ?_
  refine gg_iload dX10_areLike_1 rfl ?_
  refine gi_icmp_ne (tgt := 10) dX10_areLike_3 (by decide) ⟨by omega, by omega⟩ ⟨by omega, by omega⟩ (fun c_3 => ?_) (fun c_3 => ?_)
  · refine gi_iconst dX10_areLike_10 ?_
    refine gg_istore dX10_areLike_11 (Nat.le_of_ble_eq_true rfl) rfl ?_
    refine gi_iconst dX10_areLike_13 ?_
    refine gg_istore dX10_areLike_14 (Nat.le_of_ble_eq_true rfl) rfl ?_
    have L_16 : ∀ (n9 : Nat) (k : Int) (b9 : Bool), ((n - k).toNat) = n9 → ∀ (hk : 0 ≤ k ∧ (k ≤ n ∨ k = 0)) (hb : b9 = (decide (n = m) && eqN (fun k => A 1 (p + k)) (fun k => A 1 (q + k)) k.toNat)), GG Γ M_X10_areLike QF9 (0, 0) (mst Γ h F A) 16 [some (.ref (g_L Γ 0)), some (.int (iN p)), some (.int (iN n)), some (.int (iN q)), some (.int (iN m)), some (.int (iN (bi b9))), some (.int (iN k))] [] := by
      intro n9
      induction n9 using Nat.strongRecOn with
      | ind n9 ih_16 => 
        intro k b9 hm9 hk hb
        refine gg_iload dX10_areLike_16 rfl ?_
        refine gg_iload_n dX10_areLike_18 rfl ?_
        refine gi_icmp_ge (tgt := 61) dX10_areLike_19 (by decide) ⟨by omega, by omega⟩ ⟨by omega, by omega⟩ (fun c_19 => ?_) (fun c_19 => ?_)
        · refine gg_iload dX10_areLike_61 rfl ?_
          subst hQF9
          refine gg_iret dX10_areLike_63 rfl (nar_bool (bi_01 _)) ⟨(Nat.le_of_ble_eq_true rfl), (Nat.le_of_ble_eq_true rfl)⟩ ?_
          refine ⟨?_, rfl⟩
          rw [likeR, hb, show k.toNat = n.toNat by omega]
        · refine gg_iload dX10_areLike_22 rfl ?_
          refine gi_if_eq (tgt := 61) dX10_areLike_24 (by decide) (bi_r _) (fun c_24 => ?_) (fun c_24 => ?_)
          · rw [bi_f] at c_24
            refine gg_iload dX10_areLike_61 rfl ?_
            subst hQF9
            refine gg_iret dX10_areLike_63 rfl (nar_bool (bi_01 _)) ⟨(Nat.le_of_ble_eq_true rfl), (Nat.le_of_ble_eq_true rfl)⟩ ?_
            refine ⟨?_, rfl⟩
            rw [likeR, c_24]
            rw [c_24, eq_comm] at hb
            by_cases hn : n = m
            · rw [decide_eq_true hn, Bool.true_and] at hb ⊢; rw [eqN_f hb (by omega)]
            · rw [decide_eq_false hn, Bool.false_and]
          · rw [bi_t] at c_24
            have hnm : n = m := by
              rw [c_24, eq_comm, Bool.and_eq_true, decide_eq_true_iff] at hb; exact hb.1
            refine gg_aload_n dX10_areLike_27 rfl rfl ?_
            refine gm_get13 rfl dX10_areLike_28 ?_
            refine gg_iload_n dX10_areLike_31 rfl ?_
            refine gg_iload dX10_areLike_32 rfl ?_
            refine gi_iadd dX10_areLike_34 ?_
            refine gm_iald dX10_areLike_35 (by decide) rfl (by decide) ⟨by omega, by simp only [ml9]; omega⟩ (by (try simp only [uA_s, uA_n, ne_eq, not_false_eq_true, Nat.reduceEqDiff, reduceCtorEq]); rfl) ?_
            refine gg_aload_n dX10_areLike_36 rfl rfl ?_
            refine gm_get13 rfl dX10_areLike_37 ?_
            refine gg_iload_n dX10_areLike_40 rfl ?_
            refine gg_iload dX10_areLike_41 rfl ?_
            refine gi_iadd dX10_areLike_43 ?_
            refine gm_iald dX10_areLike_44 (by decide) rfl (by decide) ⟨by omega, by simp only [ml9]; omega⟩ (by (try simp only [uA_s, uA_n, ne_eq, not_false_eq_true, Nat.reduceEqDiff, reduceCtorEq]); rfl) ?_
            refine gi_icmp_ne (tgt := 52) dX10_areLike_45 (by decide) (t6 _) (t6 _) (fun c_45 => ?_) (fun c_45 => ?_)
            · refine gi_iconst dX10_areLike_52 ?_
              refine gg_istore dX10_areLike_53 (Nat.le_of_ble_eq_true rfl) rfl ?_
              refine gi_iinc dX10_areLike_55 rfl (Nat.le_of_ble_eq_true rfl) rfl ?_
              refine gg_goto (tgt := 16) dX10_areLike_58 (by decide) ?_
              have ek : (k + 1).toNat = k.toNat + 1 := by omega
              have hn : n = m := by
                rw [c_24, eq_comm, Bool.and_eq_true, decide_eq_true_iff] at hb; exact hb.1
              have he : eqN (fun k => A 1 (p + k)) (fun k => A 1 (q + k)) k.toNat = true := by
                rw [c_24, eq_comm, Bool.and_eq_true] at hb; exact hb.2
              exact gg_conv (ih_16 _ (by omega) (k + 1) false rfl (by omega) (by rw [ek, eqN, he, Int.toNat_of_nonneg hk.1, decide_eq_false c_45, decide_eq_true hn]; rfl)) rfl rfl rfl
            · refine gi_iconst dX10_areLike_48 ?_
              refine gg_goto (tgt := 53) dX10_areLike_49 (by decide) ?_
              refine gg_istore dX10_areLike_53 (Nat.le_of_ble_eq_true rfl) rfl ?_
              refine gi_iinc dX10_areLike_55 rfl (Nat.le_of_ble_eq_true rfl) rfl ?_
              refine gg_goto (tgt := 16) dX10_areLike_58 (by decide) ?_
              have ek : (k + 1).toNat = k.toNat + 1 := by omega
              have hn : n = m := by
                rw [c_24, eq_comm, Bool.and_eq_true, decide_eq_true_iff] at hb; exact hb.1
              have he : eqN (fun k => A 1 (p + k)) (fun k => A 1 (q + k)) k.toNat = true := by
                rw [c_24, eq_comm, Bool.and_eq_true] at hb; exact hb.2
              exact gg_conv (ih_16 _ (by omega) (k + 1) true rfl (by omega) (by rw [ek, eqN, he, Int.toNat_of_nonneg hk.1, decide_eq_true c_45, decide_eq_true hn]; rfl)) rfl rfl rfl
    exact gg_conv (L_16 _ 0 false rfl (by omega) (by rw [decide_eq_false c_3]; rfl)) rfl rfl rfl
  · refine gi_iconst dX10_areLike_6 ?_
    refine gg_goto (tgt := 11) dX10_areLike_7 (by decide) ?_
    refine gg_istore dX10_areLike_11 (Nat.le_of_ble_eq_true rfl) rfl ?_
    refine gi_iconst dX10_areLike_13 ?_
    refine gg_istore dX10_areLike_14 (Nat.le_of_ble_eq_true rfl) rfl ?_
    have L_16 : ∀ (n9 : Nat) (k : Int) (b9 : Bool), ((n - k).toNat) = n9 → ∀ (hk : 0 ≤ k ∧ (k ≤ n ∨ k = 0)) (hb : b9 = (decide (n = m) && eqN (fun k => A 1 (p + k)) (fun k => A 1 (q + k)) k.toNat)), GG Γ M_X10_areLike QF9 (0, 0) (mst Γ h F A) 16 [some (.ref (g_L Γ 0)), some (.int (iN p)), some (.int (iN n)), some (.int (iN q)), some (.int (iN m)), some (.int (iN (bi b9))), some (.int (iN k))] [] := by
      intro n9
      induction n9 using Nat.strongRecOn with
      | ind n9 ih_16 => 
        intro k b9 hm9 hk hb
        refine gg_iload dX10_areLike_16 rfl ?_
        refine gg_iload_n dX10_areLike_18 rfl ?_
        refine gi_icmp_ge (tgt := 61) dX10_areLike_19 (by decide) ⟨by omega, by omega⟩ ⟨by omega, by omega⟩ (fun c_19 => ?_) (fun c_19 => ?_)
        · refine gg_iload dX10_areLike_61 rfl ?_
          subst hQF9
          refine gg_iret dX10_areLike_63 rfl (nar_bool (bi_01 _)) ⟨(Nat.le_of_ble_eq_true rfl), (Nat.le_of_ble_eq_true rfl)⟩ ?_
          refine ⟨?_, rfl⟩
          rw [likeR, hb, show k.toNat = n.toNat by omega]
        · refine gg_iload dX10_areLike_22 rfl ?_
          refine gi_if_eq (tgt := 61) dX10_areLike_24 (by decide) (bi_r _) (fun c_24 => ?_) (fun c_24 => ?_)
          · rw [bi_f] at c_24
            refine gg_iload dX10_areLike_61 rfl ?_
            subst hQF9
            refine gg_iret dX10_areLike_63 rfl (nar_bool (bi_01 _)) ⟨(Nat.le_of_ble_eq_true rfl), (Nat.le_of_ble_eq_true rfl)⟩ ?_
            refine ⟨?_, rfl⟩
            rw [likeR, c_24]
            rw [c_24, eq_comm] at hb
            by_cases hn : n = m
            · rw [decide_eq_true hn, Bool.true_and] at hb ⊢; rw [eqN_f hb (by omega)]
            · rw [decide_eq_false hn, Bool.false_and]
          · rw [bi_t] at c_24
            have hnm : n = m := by
              rw [c_24, eq_comm, Bool.and_eq_true, decide_eq_true_iff] at hb; exact hb.1
            refine gg_aload_n dX10_areLike_27 rfl rfl ?_
            refine gm_get13 rfl dX10_areLike_28 ?_
            refine gg_iload_n dX10_areLike_31 rfl ?_
            refine gg_iload dX10_areLike_32 rfl ?_
            refine gi_iadd dX10_areLike_34 ?_
            refine gm_iald dX10_areLike_35 (by decide) rfl (by decide) ⟨by omega, by simp only [ml9]; omega⟩ (by (try simp only [uA_s, uA_n, ne_eq, not_false_eq_true, Nat.reduceEqDiff, reduceCtorEq]); rfl) ?_
            refine gg_aload_n dX10_areLike_36 rfl rfl ?_
            refine gm_get13 rfl dX10_areLike_37 ?_
            refine gg_iload_n dX10_areLike_40 rfl ?_
            refine gg_iload dX10_areLike_41 rfl ?_
            refine gi_iadd dX10_areLike_43 ?_
            refine gm_iald dX10_areLike_44 (by decide) rfl (by decide) ⟨by omega, by simp only [ml9]; omega⟩ (by (try simp only [uA_s, uA_n, ne_eq, not_false_eq_true, Nat.reduceEqDiff, reduceCtorEq]); rfl) ?_
            refine gi_icmp_ne (tgt := 52) dX10_areLike_45 (by decide) (t6 _) (t6 _) (fun c_45 => ?_) (fun c_45 => ?_)
            · refine gi_iconst dX10_areLike_52 ?_
              refine gg_istore dX10_areLike_53 (Nat.le_of_ble_eq_true rfl) rfl ?_
              refine gi_iinc dX10_areLike_55 rfl (Nat.le_of_ble_eq_true rfl) rfl ?_
              refine gg_goto (tgt := 16) dX10_areLike_58 (by decide) ?_
              have ek : (k + 1).toNat = k.toNat + 1 := by omega
              have hn : n = m := by
                rw [c_24, eq_comm, Bool.and_eq_true, decide_eq_true_iff] at hb; exact hb.1
              have he : eqN (fun k => A 1 (p + k)) (fun k => A 1 (q + k)) k.toNat = true := by
                rw [c_24, eq_comm, Bool.and_eq_true] at hb; exact hb.2
              exact gg_conv (ih_16 _ (by omega) (k + 1) false rfl (by omega) (by rw [ek, eqN, he, Int.toNat_of_nonneg hk.1, decide_eq_false c_45, decide_eq_true hn]; rfl)) rfl rfl rfl
            · refine gi_iconst dX10_areLike_48 ?_
              refine gg_goto (tgt := 53) dX10_areLike_49 (by decide) ?_
              refine gg_istore dX10_areLike_53 (Nat.le_of_ble_eq_true rfl) rfl ?_
              refine gi_iinc dX10_areLike_55 rfl (Nat.le_of_ble_eq_true rfl) rfl ?_
              refine gg_goto (tgt := 16) dX10_areLike_58 (by decide) ?_
              have ek : (k + 1).toNat = k.toNat + 1 := by omega
              have hn : n = m := by
                rw [c_24, eq_comm, Bool.and_eq_true, decide_eq_true_iff] at hb; exact hb.1
              have he : eqN (fun k => A 1 (p + k)) (fun k => A 1 (q + k)) k.toNat = true := by
                rw [c_24, eq_comm, Bool.and_eq_true] at hb; exact hb.2
              exact gg_conv (ih_16 _ (by omega) (k + 1) true rfl (by omega) (by rw [ek, eqN, he, Int.toNat_of_nonneg hk.1, decide_eq_true c_45, decide_eq_true hn]; rfl)) rfl rfl rfl
    exact gg_conv (L_16 _ 0 true rfl (by omega) (by rw [decide_eq_true c_3]; rfl)) rfl rfl rfl
set_option maxRecDepth 100000 in
set_option maxHeartbeats 4000000 in
theorem c_X10_vowelAt {Γ : GT} {h : XH} {F : Nat → Int} {A : Nat → Int → Int} (S : StA (A 1)) {p n i : Int} (hp9 : 0 ≤ p ∧ p + n ≤ 2609) (hn9 : -1 ≤ n ∧ n ≤ 12) (hi : 0 ≤ i ∧ i ≤ 12) : Ct Γ M_X10_vowelAt [.ref (g_L Γ 0), .int (iN p), .int (iN n), .int (iN i)] (mst Γ h F A) (fun r h9 => r = some (.int (iN (vwA (A 1) n.toNat p i))) ∧ h9 = mst Γ h F A) (fun _ _ => False) := by
  refine Ct.of rfl (by decide +kernel) (Nat.le_of_ble_eq_true rfl) ?_
  generalize hQF9 : QM Γ _ _ _ = QF9
  have t6 := S.2.2.2.2.2.2
  refine gg_iload_n dX10_vowelAt_0 rfl ?_
  refine gg_istore dX10_vowelAt_1 (Nat.le_of_ble_eq_true rfl) rfl ?_
  refine gi_iconst dX10_vowelAt_3 ?_
  refine gg_istore dX10_vowelAt_4 (Nat.le_of_ble_eq_true rfl) rfl ?_
  have L_6 : ∀ (n9 : Nat) (k u : Int), ((n - k).toNat) = n9 → ∀ (hk : 0 ≤ k ∧ (k ≤ n ∨ k = 0)) (hu : 0 ≤ u ∧ u ≤ 12) (hv : vwA (A 1) n.toNat p i = vwA (A 1) (n - k).toNat (p + k) u), GG Γ M_X10_vowelAt QF9 (0, 0) (mst Γ h F A) 6 [some (.ref (g_L Γ 0)), some (.int (iN p)), some (.int (iN n)), some (.int (iN i)), some (.int (iN u)), some (.int (iN k))] [] := by
    intro n9
    induction n9 using Nat.strongRecOn with
    | ind n9 ih_6 => 
      intro k u hm9 hk hu hv
      refine gg_iload dX10_vowelAt_6 rfl ?_
      refine gg_iload_n dX10_vowelAt_8 rfl ?_
      refine gi_icmp_ge (tgt := 54) dX10_vowelAt_9 (by decide) ⟨by omega, by omega⟩ ⟨by omega, by omega⟩ (fun c_9 => ?_) (fun c_9 => ?_)
      · refine gi_iconst dX10_vowelAt_54 ?_
        subst hQF9
        refine gg_iret dX10_vowelAt_55 rfl rfl ⟨(Nat.le_of_ble_eq_true rfl), (Nat.le_of_ble_eq_true rfl)⟩ ?_
        rw [show (n - k).toNat = 0 by omega, vwA] at hv
        rw [hv]
        exact ⟨rfl, rfl⟩
      · refine gg_aload_n dX10_vowelAt_12 rfl rfl ?_
        refine gm_get13 rfl dX10_vowelAt_13 ?_
        refine gg_iload_n dX10_vowelAt_16 rfl ?_
        refine gg_iload dX10_vowelAt_17 rfl ?_
        refine gi_iadd dX10_vowelAt_19 ?_
        refine gm_iald dX10_vowelAt_20 (by decide) rfl (by decide) ⟨by omega, by simp only [ml9]; omega⟩ (by (try simp only [uA_s, uA_n, ne_eq, not_false_eq_true, Nat.reduceEqDiff, reduceCtorEq]); rfl) ?_
        refine gc_X10_246 rfl dX10_vowelAt_21 ⟨(Nat.le_of_ble_eq_true rfl), (Nat.le_of_ble_eq_true rfl)⟩ ⟨(Nat.le_of_ble_eq_true rfl), (Nat.le_of_ble_eq_true rfl)⟩ (Nat.le_of_ble_eq_true rfl) (c_X10_isVowel (t6 _)) (fun _ _ w => w.elim) (fun r_21 h_21 hp => ?_)
        obtain ⟨rfl, rfl⟩ := hp
        refine gi_if_ne (tgt := 30) dX10_vowelAt_24 (by decide) (bi_r _) (fun c_24 => ?_) (fun c_24 => ?_)
        · rw [bi_t] at c_24
          refine gg_iload dX10_vowelAt_30 rfl ?_
          refine gi_if_ne (tgt := 45) dX10_vowelAt_32 (by decide) ⟨by omega, by omega⟩ (fun c_32 => ?_) (fun c_32 => ?_)
          · refine gi_iinc dX10_vowelAt_45 rfl (Nat.le_of_ble_eq_true rfl) rfl ?_
            refine gi_iinc dX10_vowelAt_48 rfl (Nat.le_of_ble_eq_true rfl) rfl ?_
            refine gg_goto (tgt := 6) dX10_vowelAt_51 (by decide) ?_
            have ek : (n - k).toNat = (n - (k + 1)).toNat + 1 := by omega
            rw [ek, vwA, c_24, Int.add_assoc] at hv
            simp only [if_true, if_neg c_32] at hv
            exact ih_6 _ (by omega) (k + 1) (u + -1) rfl (by omega) (by omega) hv
          · refine gg_aload_n dX10_vowelAt_35 rfl rfl ?_
            refine gm_get13 rfl dX10_vowelAt_36 ?_
            refine gg_iload_n dX10_vowelAt_39 rfl ?_
            refine gg_iload dX10_vowelAt_40 rfl ?_
            refine gi_iadd dX10_vowelAt_42 ?_
            refine gm_iald dX10_vowelAt_43 (by decide) rfl (by decide) ⟨by omega, by simp only [ml9]; omega⟩ (by (try simp only [uA_s, uA_n, ne_eq, not_false_eq_true, Nat.reduceEqDiff, reduceCtorEq]); rfl) ?_
            subst hQF9
            refine gg_iret dX10_vowelAt_44 rfl rfl ⟨(Nat.le_of_ble_eq_true rfl), (Nat.le_of_ble_eq_true rfl)⟩ ?_
            have ek : (n - k).toNat = (n - (k + 1)).toNat + 1 := by omega
            rw [ek, vwA, c_24, if_pos rfl, if_pos c_32] at hv
            rw [hv]
            exact ⟨rfl, rfl⟩
        · rw [bi_f] at c_24
          refine gg_goto (tgt := 48) dX10_vowelAt_27 (by decide) ?_
          refine gi_iinc dX10_vowelAt_48 rfl (Nat.le_of_ble_eq_true rfl) rfl ?_
          refine gg_goto (tgt := 6) dX10_vowelAt_51 (by decide) ?_
          have ek : (n - k).toNat = (n - (k + 1)).toNat + 1 := by omega
          rw [ek, vwA, c_24, Int.add_assoc] at hv
          simp only [Bool.false_eq_true, if_false] at hv
          exact ih_6 _ (by omega) (k + 1) u rfl (by omega) hu hv
  exact L_6 _ 0 i rfl (by omega) hi (by rw [Int.sub_zero, Int.add_zero])
