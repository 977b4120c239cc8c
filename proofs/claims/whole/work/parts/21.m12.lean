/-! the reference: rhymes -/
theorem frF_m {l1 l2 : List Nat} {F G : Nat → Int} (f1 : frF l1 F G) (h1 : ∀ j, j ∈ l1 → j ∈ l2) : frF l2 F G := fun j hj => f1 j (fun q => hj (h1 j q))
theorem frA_m {l1 l2 : List Nat} {F G : Nat → Int → Int} (f1 : frA l1 F G) (h1 : ∀ j, j ∈ l1 → j ∈ l2) : frA l2 F G := fun j hj => f1 j (fun q => hj (h1 j q))
theorem parseL_w {f : Int → Int} {n : Int} : ∀ {m : Nat} {p : Int}, 0 ≤ p → (parseL f n m p).1 = true → ∀ t, t ∈ (parseL f n m p).2.2 → p ≤ t.1 ∧ (1 ≤ t.2.1 ∧ t.2.1 ≤ 12) ∧ t.1 + t.2.1 ≤ n
  | 0, p, h0, hq, t, ht => by cases hq
  | m + 1, p, h0, hq, t, ht => by
    have h1 := parseL_lt hq
    have h2 := wlen_r f n 12 p
    have h3 := (parseL_ok hq).1
    have h4 := h2.2.2 (by omega)
    rcases (parseL_ok hq).2.2 with ⟨-, q2⟩ | ⟨-, q1, q2⟩
    · rw [q2, List.mem_singleton] at ht
      subst ht
      exact ⟨Int.le_refl _, ⟨by show 1 ≤ wlen f n 12 p; omega, by show wlen f n 12 p ≤ 12; omega⟩, h4⟩
    · rw [q2, List.mem_cons] at ht
      rcases ht with rfl | ht
      · exact ⟨Int.le_refl _, ⟨by show 1 ≤ wlen f n 12 p; omega, by show wlen f n 12 p ≤ 12; omega⟩, h4⟩
      · have hb := bi_01 (decide (p + wlen f n 12 p < n) && decide (f (p + wlen f n 12 p) = 44))
        have := parseL_w (by omega) q1 t ht
        exact ⟨by omega, this.2⟩
theorem lnW_w {a : Int → Int} {d l : Int} (N : LnA a) (hd : 0 ≤ d ∧ d ≤ 3) (hl : 0 ≤ l ∧ l < a (5 + d)) {i : Nat} {pv lenv : Int} {cv : Bool} (hi : (lnW a d l)[i]? = some (pv, lenv, cv)) : 0 ≤ pv ∧ (1 ≤ lenv ∧ lenv ≤ 12) ∧ pv + lenv ≤ a (169 + 61 * (10 * d + l)) := by
  obtain ⟨n1, n2, n3⟩ := N d l (by omega) (by omega) (by omega) (by omega)
  exact parseL_w (by omega) n3 _ (List.mem_of_getElem? hi)
theorem lnW_n {a : Int → Int} {d l : Int} (N : LnA a) (hd : 0 ≤ d ∧ d ≤ 3) (hl : 0 ≤ l ∧ l < a (5 + d)) : 1 ≤ (lnW a d l).length ∧ (lnW a d l).length ≤ 12 := by
  obtain ⟨n1, n2, n3⟩ := N d l (by omega) (by omega) (by omega) (by omega)
  exact parseL_n n3
/-- the last word: where it stands, its length -/
def lsW (a : Int → Int) (d l : Int) : Int × Int × Bool := ((lnW a d l)[(lnW a d l).length - 1]?).getD (0, 0, false)
def lwP (a : Int → Int) (d l : Int) : Int := 169 + 61 * (10 * d + l) + 1 + (lsW a d l).1
def lwN (a : Int → Int) (d l : Int) : Int := (lsW a d l).2.1
theorem lsW_e {a : Int → Int} {d l : Int} (h : 1 ≤ (lnW a d l).length) : (lnW a d l)[(lnW a d l).length - 1]? = some ((lsW a d l).1, (lsW a d l).2.1, (lsW a d l).2.2) := by
  unfold lsW
  rw [List.getElem?_eq_getElem (by omega)]
  rfl
theorem lw_r {a : Int → Int} {d l : Int} (N : LnA a) (hd : 0 ≤ d ∧ d ≤ 3) (hl : 0 ≤ l ∧ l < a (5 + d)) (hl9 : a (5 + d) ≤ 10) : (170 ≤ lwP a d l ∧ lwP a d l + lwN a d l ≤ 2609) ∧ (1 ≤ lwN a d l ∧ lwN a d l ≤ 12) ∧ lwP a d l + lwN a d l ≤ 169 + 61 * (10 * d + l) + 1 + a (169 + 61 * (10 * d + l)) ∧ 169 + 61 * (10 * d + l) + 1 ≤ lwP a d l := by
  obtain ⟨n1, n2, n3⟩ := N d l (by omega) (by omega) (by omega) (by omega)
  have h1 := lnW_w N hd hl (lsW_e (lnW_n N hd hl).1)
  unfold lwP lwN
  omega
theorem LD_last {a : Int → Int} {d l : Int} {F : Nat → Int} {A : Nat → Int → Int} (L : LD a d l F A) : WDq a A (F 16 - 1) (lwP a d l) (lwN a d l) (lsW a d l).2.2 := by
  have h1 := L.1.1
  have h2 := L.2.1
  have := L.2.2 _ _ _ _ (lsW_e (a := a) (d := d) (l := l) (by omega))
  rw [show (((lnW a d l).length - 1 : Nat) : Int) = F 16 - 1 by omega] at this
  exact this
/-- the last syllable with the mark 2 -/
def lst2 (v : Int → Int) : Nat → Int
  | 0 => -1
  | k + 1 => if v k = 2 then k else lst2 v k
theorem lst2_r (v : Int → Int) : ∀ k : Nat, -1 ≤ lst2 v k ∧ lst2 v k < k
  | 0 => by simp [lst2]
  | k + 1 => by
    have := lst2_r v k
    rw [lst2]; split <;> omega
def bhd (a : Int → Int) (q n : Int) : Int := if lst2 (mrk a (exO a a q n) (wSy a q n)) (wSy a q n).toNat < 0 then 0 else wSy a q n - 1 - lst2 (mrk a (exO a a q n) (wSy a q n)) (wSy a q n).toNat
def cfr (a : Int → Int) (q n : Int) : Int := wA (fun k => a (q + k)) (fun _ => 0) n (max 0 (wC (fun k => a (q + k)) n - 1 - bhd a q n))
def rhF (a : Int → Int) (d l : Int) : Int := lwP a d l + cfr a (lwP a d l) (lwN a d l)
def rhM (a : Int → Int) (d l : Int) : Int := lwN a d l - cfr a (lwP a d l) (lwN a d l) - bi (wS (fun k => a (lwP a d l + k)) (lwN a d l))
theorem wA_in {f g : Int → Int} {n i : Int} (hn : 1 ≤ n) (h0 : 0 ≤ i) (h1 : i < wC f n) : wA f g n i = wA f (fun _ => 0) n i ∧ 0 ≤ wA f g n i ∧ wA f g n i < n := by
  have hr := wN_r f n.toNat
  unfold wA
  by_cases q : wN f n.toNat = 0
  · have q2 : wS f n = false := by unfold wS; rw [decide_eq_false_iff_not]; omega
    rw [wC, q2, if_neg (by decide), if_pos q] at h1
    rw [if_pos q, if_pos q, show i = 0 by omega, up_s, up_s]
    omega
  · have h2 : i < wN f n.toNat := by unfold wC at h1; split at h1 <;> omega
    rw [if_neg q, if_neg q]
    have := wF_in f g n.toNat i h0 h2
    omega
theorem bhd_r {a : Int → Int} {q n : Int} : 0 ≤ bhd a q n := by
  have := lst2_r (mrk a (exO a a q n) (wSy a q n)) (wSy a q n).toNat
  unfold bhd
  split <;> omega
theorem cfr_r {a : Int → Int} {q n : Int} (hn : 1 ≤ n ∧ n ≤ 12) : 0 ≤ cfr a q n ∧ cfr a q n < n := by
  have h1 := wC_r (f := fun k => a (q + k)) hn
  have h2 := bhd_r (a := a) (q := q) (n := n)
  exact (wA_in (by omega) (by omega) (by omega)).2
theorem LD_ext {a : Int → Int} {d l : Int} {F G : Nat → Int} {A B : Nat → Int → Int} (q : LD a d l F A) (e0 : G 16 = F 16) (e8 : B 8 = A 8) (e9 : B 9 = A 9) (e10 : B 10 = A 10) (e11 : B 11 = A 11) (e12 : B 12 = A 12) (e13 : B 13 = A 13) (e14 : B 14 = A 14) : LD a d l G B := by
  refine ⟨LW_fr e0 e10 e12 e13 e14 e11 q.1, by rw [e0]; exact q.2.1, fun i pv lenv cv hi => ?_⟩
  have := q.2.2 i pv lenv cv hi
  unfold WDq at this ⊢
  rw [e8, e9, e10, e11, e12, e13, e14]
  exact this
theorem rh_r {a : Int → Int} {d l : Int} (N : LnA a) (hd : 0 ≤ d ∧ d ≤ 3) (hl : 0 ≤ l ∧ l < a (5 + d)) (hl9 : a (5 + d) ≤ 10) : (170 ≤ rhF a d l ∧ rhF a d l + rhM a d l ≤ 2609) ∧ (-1 ≤ rhM a d l ∧ rhM a d l ≤ 12) ∧ 169 + 61 * (10 * d + l) + 1 ≤ rhF a d l ∧ rhF a d l + rhM a d l ≤ 169 + 61 * (10 * d + l) + 1 + a (169 + 61 * (10 * d + l)) := by
  have h1 := lw_r N hd hl hl9
  have h2 := cfr_r (a := a) (q := lwP a d l) h1.2.1
  have h3 := bi_01 (wS (fun k => a (lwP a d l + k)) (lwN a d l))
  unfold rhF rhM
  omega
def likeR (a : Int → Int) (p n q m : Int) : Bool := decide (n = m) && eqN (fun k => a (p + k)) (fun k => a (q + k)) n.toNat
/-- the vowel number i -/
def vwA (f : Int → Int) : Nat → Int → Int → Int
  | 0, _, _ => -1
  | m + 1, p, i => if vow (f p) = true then (if i = 0 then f p else vwA f m (p + 1) (i - 1)) else vwA f m (p + 1) i
theorem vwA_r {f : Int → Int} (hf : ∀ x, InR (f x)) : ∀ m p i, InR (vwA f m p i)
  | 0, p, i => by simp [vwA, InR]
  | m + 1, p, i => by
    rw [vwA]
    split
    · split
      · exact hf p
      · exact vwA_r hf m _ _
    · exact vwA_r hf m _ _
def vwE (a : Int → Int) (p n q m : Int) : Nat → Bool
  | 0 => true
  | k + 1 => vwE a p n q m k && decide (vwA a n.toNat p k = vwA a m.toNat q k)
theorem vwE_f {a : Int → Int} {p n q m : Int} {k : Nat} (h : vwE a p n q m k = false) : ∀ j, k ≤ j → vwE a p n q m j = false
  | 0, hj => by rw [show k = 0 by omega] at h; exact h
  | j + 1, hj => by
    by_cases e : k = j + 1
    · rw [← e]; exact h
    · rw [vwE, vwE_f h j (by omega)]; rfl
def knd (a : Int → Int) (d x y : Int) : Int :=
  if likeR a (lwP a d x) (lwN a d x) (lwP a d y) (lwN a d y) = true then 3
  else if likeR a (rhF a d x) (rhM a d x) (rhF a d y) (rhM a d y) = true then 2
  else if vwE a (rhF a d x) (rhM a d x) (rhF a d y) (rhM a d y) 13 = true then 1 else 0
theorem knd_r (a : Int → Int) (d x y : Int) : 0 ≤ knd a d x y ∧ knd a d x y ≤ 3 := by
  unfold knd
  split
  · omega
  · split
    · omega
    · split <;> omega
set_option maxRecDepth 100000 in
set_option maxHeartbeats 4000000 in
theorem c_X10_laysRhyme {Γ : GT} {h : XH} {F : Nat → Int} {A : Nat → Int → Int} (S : StA (A 1)) (N : LnA (A 1)) (E9 : ExA (A 1)) {d l : Int} (hd : 0 ≤ d ∧ d ≤ 3) (hl : 0 ≤ l ∧ l < A 1 (5 + d)) : Ct Γ M_X10_laysRhyme [.ref (g_L Γ 0), .int (iN d), .int (iN l)] (mst Γ h F A) (fun r h9 => ∃ (F1 : Nat → Int) (A1 : Nat → Int → Int), r = none ∧ h9 = mst Γ h F1 A1 ∧ frF [16, 24, 25, 39, 40] F F1 ∧ frA [8, 9, 10, 11, 12, 13, 14, 15] A A1 ∧ LD (A 1) d l F1 A1 ∧ F1 39 = rhF (A 1) d l ∧ F1 40 = rhM (A 1) d l) (fun _ _ => False) := by
  refine Ct.of rfl (by decide +kernel) (Nat.le_of_ble_eq_true rfl) ?_
  generalize hQF9 : QM Γ _ _ _ = QF9
  obtain ⟨t0, t1, t2, t3, t4, t5, t6⟩ := id S
  refine gg_aload_n dX10_laysRhyme_0 rfl rfl ?_
  refine gg_iload_n dX10_laysRhyme_1 rfl ?_
  refine gg_iload_n dX10_laysRhyme_2 rfl ?_
  refine gc_X10_294 rfl dX10_laysRhyme_3 ⟨(Nat.le_of_ble_eq_true rfl), (Nat.le_of_ble_eq_true rfl)⟩ ⟨(Nat.le_of_ble_eq_true rfl), (Nat.le_of_ble_eq_true rfl)⟩ (Nat.le_of_ble_eq_true rfl) (HAt.mu rfl) (c2_laysLine S N E9 hd hl) (fun _ _ w => w.elim) (fun r_3 h_3 hp => ?_)
  obtain ⟨F1, A1, rfl, rfl, hF, hA, hL⟩ := hp
  have g1 : A1 1 = A 1 := hA 1 (by decide)
  have hW := LD_last hL
  have hw9 := lw_r N hd hl (t5 d (by omega) (by omega)).2
  have h16 := hL.1.1
  obtain ⟨qv, hqv⟩ : ∃ qv, qv = lwP (A 1) d l := ⟨_, rfl⟩
  obtain ⟨nv, hnv⟩ : ∃ nv, nv = lwN (A 1) d l := ⟨_, rfl⟩
  rw [← hqv, ← hnv] at hW hw9
  obtain ⟨w0, w1, w2, w3, w4, w5, w6, w7⟩ := hW
  obtain ⟨sy, hsy⟩ : ∃ sy, sy = wSy (A 1) qv nv := ⟨_, rfl⟩
  rw [← hsy] at w0 w6 w7
  obtain ⟨wv, hwv⟩ : ∃ wv, wv = F1 16 - 1 := ⟨_, rfl⟩
  rw [← hwv] at w1 w2 w3 w4 w5 w6 w7
  have hcr := cfr_r (a := A 1) (q := qv) hw9.2.1
  have hbr := bhd_r (a := A 1) (q := qv) (n := nv)
  have hwc := wC_r (f := fun k => A 1 (qv + k)) (n := nv) hw9.2.1
  obtain ⟨vv, hvv⟩ : ∃ vv : Int → Int, vv = mrk (A 1) (exO (A 1) (A 1) qv nv) sy := ⟨_, rfl⟩
  rw [← hvv] at w7
  have hv2 : ∀ k, 0 ≤ k → k < sy → 0 ≤ vv k ∧ vv k ≤ 2 := by
    intro k k0 k1
    have := (hL.1.2 wv (by omega) (by omega)).2.2.2.2 k k0 (by rw [w6]; exact k1)
    rw [w7 k k0 k1] at this; exact this
  refine gg_aload_n dX10_laysRhyme_6 rfl rfl ?_
  refine gm_get60 rfl dX10_laysRhyme_7 (by (try simp only [uF_s, uF_n, ne_eq, not_false_eq_true, Nat.reduceEqDiff, reduceCtorEq]); rfl) ?_
  refine gi_iconst dX10_laysRhyme_10 ?_
  refine gi_isub dX10_laysRhyme_11 ?_
  refine gg_istore_n dX10_laysRhyme_12 (Nat.le_of_ble_eq_true rfl) rfl ?_
  rw [← hwv]
  have L_70 : ∀ (bv : Int) (hbv : bv = bhd (A 1) qv nv) (hb2 : 0 ≤ bv ∧ bv ≤ 12), GG Γ M_X10_laysRhyme QF9 (0, 0) (mst Γ h F1 A1) 70 [some (.ref (g_L Γ 0)), some (.int (iN d)), some (.int (iN l)), some (.int (iN wv)), none, none, none] [.int (iN bv)] := by
    intro bv hbv hb2
    refine gg_istore dX10_laysRhyme_70 (Nat.le_of_ble_eq_true rfl) rfl ?_
    refine gg_aload_n dX10_laysRhyme_72 rfl rfl ?_
    refine gg_iload_n dX10_laysRhyme_73 rfl ?_
    refine gc_X10_249 rfl dX10_laysRhyme_74 ⟨(Nat.le_of_ble_eq_true rfl), (Nat.le_of_ble_eq_true rfl)⟩ ⟨(Nat.le_of_ble_eq_true rfl), (Nat.le_of_ble_eq_true rfl)⟩ (Nat.le_of_ble_eq_true rfl) (HAt.mu rfl) (c_X10_laysCores (F := F1) (A := A1) (by rw [g1]; exact S) ⟨by omega, by omega⟩ (by rw [w2]; omega) (by rw [w1, w2]; omega)) (fun _ _ w => w.elim) (fun r_74 h_74 hp => ?_)
    obtain ⟨rfl, rfl⟩ := hp
    rw [g1, w1, w2]
    have e13 : up (A1 13) wv (bi (wE (fun k => A 1 (qv + k)) nv)) = A1 13 := by rw [← w5, up_id]
    rw [e13, uA_id]
    have hbv : bv = bhd (A 1) qv nv := hbv
    have hci := wA_in (f := (fun k => A 1 (qv + k))) (g := A1 15) (n := nv) (i := max 0 (wC (fun k => A 1 (qv + k)) nv - 1 - bv)) (by omega) (by omega) (by omega)
    have hce : wA (fun k => A 1 (qv + k)) (A1 15) nv (max 0 (wC (fun k => A 1 (qv + k)) nv - 1 - bv)) = cfr (A 1) qv nv := by rw [hci.1, hbv]; rfl
    refine gi_iconst dX10_laysRhyme_77 ?_
    refine gg_aload_n dX10_laysRhyme_78 rfl rfl ?_
    refine gm_get85 rfl dX10_laysRhyme_79 (by (try simp only [uF_s, uF_n, ne_eq, not_false_eq_true, Nat.reduceEqDiff, reduceCtorEq]); rfl) ?_
    refine gi_iconst dX10_laysRhyme_82 ?_
    refine gi_isub dX10_laysRhyme_83 ?_
    refine gg_iload dX10_laysRhyme_84 rfl ?_
    refine gi_isub dX10_laysRhyme_86 ?_
    refine gc_X10_267 rfl dX10_laysRhyme_87 ⟨(Nat.le_of_ble_eq_true rfl), (Nat.le_of_ble_eq_true rfl)⟩ ⟨(Nat.le_of_ble_eq_true rfl), (Nat.le_of_ble_eq_true rfl)⟩ ?_
    rw [iN_max ⟨by omega, by omega⟩ ⟨by omega, by omega⟩]
    refine gg_istore dX10_laysRhyme_90 (Nat.le_of_ble_eq_true rfl) rfl ?_
    refine gg_aload_n dX10_laysRhyme_92 rfl rfl ?_
    refine gg_aload_n dX10_laysRhyme_93 rfl rfl ?_
    refine gm_get63 rfl dX10_laysRhyme_94 ?_
    refine gg_iload_n dX10_laysRhyme_97 rfl ?_
    refine gm_iald dX10_laysRhyme_98 (by decide) rfl (by decide) ⟨by omega, by simp only [ml9]; omega⟩ (by (try simp only [uA_s, uA_n, ne_eq, not_false_eq_true, Nat.reduceEqDiff, reduceCtorEq]); rfl) ?_
    refine gg_aload_n dX10_laysRhyme_99 rfl rfl ?_
    refine gm_get91 rfl dX10_laysRhyme_100 ?_
    refine gg_iload dX10_laysRhyme_103 rfl ?_
    refine gm_iald dX10_laysRhyme_105 (by decide) rfl (by decide) ⟨by omega, by simp only [ml9]; omega⟩ (by (try simp only [uA_s, uA_n, ne_eq, not_false_eq_true, Nat.reduceEqDiff, reduceCtorEq]); rfl) ?_
    refine gi_iadd dX10_laysRhyme_106 ?_
    refine gm_put130 rfl dX10_laysRhyme_107 (by (try simp only [uF_ss, uF_cc, id_eq, Nat.reduceLT, reduceCtorEq]); rfl) ?_
    refine gg_aload_n dX10_laysRhyme_110 rfl rfl ?_
    refine gg_aload_n dX10_laysRhyme_111 rfl rfl ?_
    refine gm_get66 rfl dX10_laysRhyme_112 ?_
    refine gg_iload_n dX10_laysRhyme_115 rfl ?_
    refine gm_iald dX10_laysRhyme_116 (by decide) rfl (by decide) ⟨by omega, by simp only [ml9]; omega⟩ (by (try simp only [uA_s, uA_n, ne_eq, not_false_eq_true, Nat.reduceEqDiff, reduceCtorEq]); rfl) ?_
    refine gg_aload_n dX10_laysRhyme_117 rfl rfl ?_
    refine gm_get91 rfl dX10_laysRhyme_118 ?_
    refine gg_iload dX10_laysRhyme_121 rfl ?_
    refine gm_iald dX10_laysRhyme_123 (by decide) rfl (by decide) ⟨by omega, by simp only [ml9]; omega⟩ (by (try simp only [uA_s, uA_n, ne_eq, not_false_eq_true, Nat.reduceEqDiff, reduceCtorEq]); rfl) ?_
    refine gi_isub dX10_laysRhyme_124 ?_
    refine gg_aload_n dX10_laysRhyme_125 rfl rfl ?_
    refine gm_get88 rfl dX10_laysRhyme_126 (by (try simp only [uF_s, uF_n, ne_eq, not_false_eq_true, Nat.reduceEqDiff, reduceCtorEq]); rfl) ?_
    refine gi_if_eq (tgt := 136) dX10_laysRhyme_129 (by decide) (bi_r _) (fun c_129 => ?_) (fun c_129 => ?_)
    · rw [bi_f] at c_129
      refine gi_iconst dX10_laysRhyme_136 ?_
      refine gi_isub dX10_laysRhyme_137 ?_
      refine gm_put133 rfl dX10_laysRhyme_138 (by (try simp only [uF_ss, uF_cc, id_eq, Nat.reduceLT, reduceCtorEq]); rfl) ?_
      subst hQF9
      refine gg_vret dX10_laysRhyme_141 rfl ⟨(Nat.le_of_ble_eq_true rfl), (Nat.le_of_ble_eq_true rfl)⟩ ?_
      have l13 := LD_ext (A := A1) (B := uA A1 15 (wA (fun k => A 1 (qv + k)) (A1 15) nv)) hL (G := F1) rfl rfl rfl rfl rfl rfl rfl rfl
      refine ⟨_, _, rfl, rfl, frF_u (frF_u (frF_u (frF_u (frF_m hF (by decide)) (by decide)) (by decide)) (by decide)) (by decide), frA_u hA (by decide), LD_fr (by simp only [uF_s, uF_n, uF_ss, uF_cc, id_eq, ne_eq, not_false_eq_true, Nat.reduceEqDiff, Nat.reduceLT, reduceCtorEq]) l13, ?_, ?_⟩
      · simp only [uF_s, uF_n, uF_ss, uF_cc, id_eq, ne_eq, not_false_eq_true, Nat.reduceEqDiff, Nat.reduceLT, reduceCtorEq]; rw [w1, hce, rhF, ← hqv, ← hnv]
      · simp only [uF_s, uF_n, uF_ss, uF_cc, id_eq, ne_eq, not_false_eq_true, Nat.reduceEqDiff, Nat.reduceLT, reduceCtorEq]; rw [w2, hce, rhM, ← hqv, ← hnv, c_129]; rfl
    · rw [bi_t] at c_129
      refine gi_iconst dX10_laysRhyme_132 ?_
      refine gg_goto (tgt := 137) dX10_laysRhyme_133 (by decide) ?_
      refine gi_isub dX10_laysRhyme_137 ?_
      refine gm_put133 rfl dX10_laysRhyme_138 (by (try simp only [uF_ss, uF_cc, id_eq, Nat.reduceLT, reduceCtorEq]); rfl) ?_
      subst hQF9
      refine gg_vret dX10_laysRhyme_141 rfl ⟨(Nat.le_of_ble_eq_true rfl), (Nat.le_of_ble_eq_true rfl)⟩ ?_
      have l13 := LD_ext (A := A1) (B := uA A1 15 (wA (fun k => A 1 (qv + k)) (A1 15) nv)) hL (G := F1) rfl rfl rfl rfl rfl rfl rfl rfl
      refine ⟨_, _, rfl, rfl, frF_u (frF_u (frF_u (frF_u (frF_m hF (by decide)) (by decide)) (by decide)) (by decide)) (by decide), frA_u hA (by decide), LD_fr (by simp only [uF_s, uF_n, uF_ss, uF_cc, id_eq, ne_eq, not_false_eq_true, Nat.reduceEqDiff, Nat.reduceLT, reduceCtorEq]) l13, ?_, ?_⟩
      · simp only [uF_s, uF_n, uF_ss, uF_cc, id_eq, ne_eq, not_false_eq_true, Nat.reduceEqDiff, Nat.reduceLT, reduceCtorEq]; rw [w1, hce, rhF, ← hqv, ← hnv]
      · simp only [uF_s, uF_n, uF_ss, uF_cc, id_eq, ne_eq, not_false_eq_true, Nat.reduceEqDiff, Nat.reduceLT, reduceCtorEq]; rw [w2, hce, rhM, ← hqv, ← hnv, c_129]; rfl
  have L_50 : ∀ (j : Int) (hj : -1 ≤ j ∧ j < sy) (hq : lst2 vv sy.toNat = j), GG Γ M_X10_laysRhyme QF9 (0, 0) (mst Γ h F1 A1) 50 [some (.ref (g_L Γ 0)), some (.int (iN d)), some (.int (iN l)), some (.int (iN wv)), some (.int (iN j)), none, none] [] := by
    intro j hj hq
    refine gg_iload dX10_laysRhyme_50 rfl ?_
    refine gi_if_ge (tgt := 59) dX10_laysRhyme_52 (by decide) ⟨by omega, by omega⟩ (fun c_52 => ?_) (fun c_52 => ?_)
    · refine gg_aload_n dX10_laysRhyme_59 rfl rfl ?_
      refine gm_get69 rfl dX10_laysRhyme_60 ?_
      refine gg_iload_n dX10_laysRhyme_63 rfl ?_
      refine gm_iald dX10_laysRhyme_64 (by decide) rfl (by decide) ⟨by omega, by simp only [ml9]; omega⟩ (by (try simp only [uA_s, uA_n, ne_eq, not_false_eq_true, Nat.reduceEqDiff, reduceCtorEq]); rfl) ?_
      refine gi_iconst dX10_laysRhyme_65 ?_
      refine gi_isub dX10_laysRhyme_66 ?_
      refine gg_iload dX10_laysRhyme_67 rfl ?_
      refine gi_isub dX10_laysRhyme_69 ?_
      refine gg_drop 4 ?_
      refine gg_drop 5 ?_
      refine gg_drop 6 ?_
      rw [w6]; exact L_70 _ (by rw [bhd, ← hsy, ← hvv, hq, if_neg (by omega)]) (by omega)
    · refine gi_iconst dX10_laysRhyme_55 ?_
      refine gg_goto (tgt := 70) dX10_laysRhyme_56 (by decide) ?_
      refine gg_drop 4 ?_
      refine gg_drop 5 ?_
      refine gg_drop 6 ?_
      exact L_70 0 (by rw [bhd, ← hsy, ← hvv, hq, if_pos c_52]) (by omega)
  have L_23 : ∀ (n9 : Nat) (j : Int), ((j + 1).toNat) = n9 → ∀ (hj : -1 ≤ j ∧ j < sy) (hq : lst2 vv sy.toNat = lst2 vv (j + 1).toNat), GG Γ M_X10_laysRhyme QF9 (0, 0) (mst Γ h F1 A1) 23 [some (.ref (g_L Γ 0)), some (.int (iN d)), some (.int (iN l)), some (.int (iN wv)), some (.int (iN j)), none, none] [] := by
    intro n9
    induction n9 using Nat.strongRecOn with
    | ind n9 ih_23 => 
      intro j hm9 hj hq
      refine gg_iload dX10_laysRhyme_23 rfl ?_
      refine gi_if_lt (tgt := 50) dX10_laysRhyme_25 (by decide) ⟨by omega, by omega⟩ (fun c_25 => ?_) (fun c_25 => ?_)
      · refine gg_drop 5 ?_
        refine gg_drop 6 ?_
        exact L_50 j (by omega) (by rw [hq, show (j + 1).toNat = 0 by omega]; rw [lst2]; omega)
      · refine gg_aload_n dX10_laysRhyme_28 rfl rfl ?_
        refine gm_get72 rfl dX10_laysRhyme_29 ?_
        refine gi_bipush dX10_laysRhyme_32 (by decide) ?_
        refine gg_iload_n dX10_laysRhyme_34 rfl ?_
        refine gi_imul dX10_laysRhyme_35 ?_
        refine gg_iload dX10_laysRhyme_36 rfl ?_
        refine gi_iadd dX10_laysRhyme_38 ?_
        refine gm_iald dX10_laysRhyme_39 (by decide) rfl (by decide) ⟨by omega, by simp only [ml9]; omega⟩ (w7 j (by omega) (by omega)) ?_
        refine gi_iconst dX10_laysRhyme_40 ?_
        refine gi_icmp_eq (tgt := 50) dX10_laysRhyme_41 (by decide) (by have := hv2 j (by omega) (by omega); exact ⟨by omega, by omega⟩) ⟨by omega, by omega⟩ (fun c_41 => ?_) (fun c_41 => ?_)
        · refine gg_drop 5 ?_
          refine gg_drop 6 ?_
          have ej : (j + 1).toNat = j.toNat + 1 := by omega
          exact L_50 j (by omega) (by rw [hq, ej, lst2, Int.toNat_of_nonneg (by omega), if_pos c_41])
        · refine gi_iinc dX10_laysRhyme_44 rfl (Nat.le_of_ble_eq_true rfl) rfl ?_
          refine gg_goto (tgt := 23) dX10_laysRhyme_47 (by decide) ?_
          refine gg_drop 5 ?_
          refine gg_drop 6 ?_
          have ej : (j + 1).toNat = (j - 1 + 1).toNat + 1 := by omega
          refine ih_23 _ (by omega) (j + -1) rfl (by omega) ?_
          rw [hq, ej, lst2, if_neg (by rw [show (((j - 1 + 1).toNat : Nat) : Int) = j by omega]; exact c_41)]; rfl
  refine gg_aload_n dX10_laysRhyme_13 rfl rfl ?_
  refine gm_get69 rfl dX10_laysRhyme_14 ?_
  refine gg_iload_n dX10_laysRhyme_17 rfl ?_
  refine gm_iald dX10_laysRhyme_18 (by decide) rfl (by decide) ⟨by omega, by simp only [ml9]; omega⟩ (by (try simp only [uA_s, uA_n, ne_eq, not_false_eq_true, Nat.reduceEqDiff, reduceCtorEq]); rfl) ?_
  refine gi_iconst dX10_laysRhyme_19 ?_
  refine gi_isub dX10_laysRhyme_20 ?_
  refine gg_istore dX10_laysRhyme_21 (Nat.le_of_ble_eq_true rfl) rfl ?_
  refine gg_drop 5 ?_
  refine gg_drop 6 ?_
  rw [w6]
  exact L_23 _ (sy - 1) rfl (by omega) (by rw [show sy - 1 + 1 = sy by omega])
set_option maxRecDepth 100000 in
set_option maxHeartbeats 4000000 in
theorem c_X10_areLike {Γ : GT} {h : XH} {F : Nat → Int} {A : Nat → Int → Int} (S : StA (A 1)) {p n q m : Int} (hp9 : 0 ≤ p ∧ p + n ≤ 2609) (hq9 : 0 ≤ q ∧ q + m ≤ 2609) (hn9 : -1 ≤ n ∧ n ≤ 12) (hm9 : -1 ≤ m ∧ m ≤ 12) : Ct Γ M_X10_areLike [.ref (g_L Γ 0), .int (iN p), .int (iN n), .int (iN q), .int (iN m)] (mst Γ h F A) (fun r h9 => r = some (.int (iN (bi (likeR (A 1) p n q m)))) ∧ h9 = mst Γ h F A) (fun _ _ => False) := by
  refine Ct.of rfl (by decide +kernel) (Nat.le_of_ble_eq_true rfl) ?_
  generalize hQF9 : QM Γ _ _ _ = QF9
  have t6 := S.2.2.2.2.2.2
  refine gg_iload_n dX10_areLike_0 rfl ?_
  refine gg_iload dX10_areLike_1 rfl ?_
  refine gi_icmp_ne (tgt := 10) dX10_areLike_3 (by decide) ⟨by omega, by omega⟩ ⟨by omega, by omega⟩ (fun c_3 => ?_) (fun c_3 => ?_)
  · refine gi_iconst dX10_areLike_10 ?_
    refine gg_istore dX10_areLike_11 (Nat.le_of_ble_eq_true rfl) rfl ?_
    refine gi_iconst dX10_areLike_13 ?_
    refine gg_istore dX10_areLike_14 (Nat.le_of_ble_eq_true rfl) rfl ?_
    have L_16 : ∀ (n9 : Nat) (k : Int) (b9 : Bool), ((n - k).toNat) = n9 → ∀ (hk : 0 ≤ k ∧ (k ≤ n ∨ k = 0)) (hb : b9 = (decide (n = m) && eqN (fun k => A 1 (p + k)) (fun k => A 1 (q + k)) k.toNat)), GG Γ M_X10_areLike QF9 (0, 0) (mst Γ h F A) 16 [some (.ref (g_L Γ 0)), some (.int (iN p)), some (.int (iN n)), some (.int (iN q)), some (.int (iN m)), some (.int (iN (bi b9))), some (.int (iN k))] [] := by
      intro n9
      induction n9 using Nat.strongRecOn with
      | ind n9 ih_16 => 
        intro k b9 hm9 hk hb
        refine gg_iload dX10_areLike_16 rfl ?_
        refine gg_iload_n dX10_areLike_18 rfl ?_
        refine gi_icmp_ge (tgt := 61) dX10_areLike_19 (by decide) ⟨by omega, by omega⟩ ⟨by omega, by omega⟩ (fun c_19 => ?_) (fun c_19 => ?_)
        · refine gg_iload dX10_areLike_61 rfl ?_
          subst hQF9
          refine gg_iret dX10_areLike_63 rfl (nar_bool (bi_01 _)) ⟨(Nat.le_of_ble_eq_true rfl), (Nat.le_of_ble_eq_true rfl)⟩ ?_
          refine ⟨?_, rfl⟩
          rw [likeR, hb, show k.toNat = n.toNat by omega]
        · refine gg_iload dX10_areLike_22 rfl ?_
          refine gi_if_eq (tgt := 61) dX10_areLike_24 (by decide) (bi_r _) (fun c_24 => ?_) (fun c_24 => ?_)
          · rw [bi_f] at c_24
            refine gg_iload dX10_areLike_61 rfl ?_
            subst hQF9
            refine gg_iret dX10_areLike_63 rfl (nar_bool (bi_01 _)) ⟨(Nat.le_of_ble_eq_true rfl), (Nat.le_of_ble_eq_true rfl)⟩ ?_
            refine ⟨?_, rfl⟩
            rw [likeR, c_24]
            rw [c_24, eq_comm] at hb
            by_cases hn : n = m
            · rw [decide_eq_true hn, Bool.true_and] at hb ⊢; rw [eqN_f hb (by omega)]
            · rw [decide_eq_false hn, Bool.false_and]
          · rw [bi_t] at c_24
            have hnm : n = m := by
              rw [c_24, eq_comm, Bool.and_eq_true, decide_eq_true_iff] at hb; exact hb.1
            refine gg_aload_n dX10_areLike_27 rfl rfl ?_
            refine gm_get13 rfl dX10_areLike_28 ?_
            refine gg_iload_n dX10_areLike_31 rfl ?_
            refine gg_iload dX10_areLike_32 rfl ?_
            refine gi_iadd dX10_areLike_34 ?_
            refine gm_iald dX10_areLike_35 (by decide) rfl (by decide) ⟨by omega, by simp only [ml9]; omega⟩ (by (try simp only [uA_s, uA_n, ne_eq, not_false_eq_true, Nat.reduceEqDiff, reduceCtorEq]); rfl) ?_
            refine gg_aload_n dX10_areLike_36 rfl rfl ?_
            refine gm_get13 rfl dX10_areLike_37 ?_
            refine gg_iload_n dX10_areLike_40 rfl ?_
            refine gg_iload dX10_areLike_41 rfl ?_
            refine gi_iadd dX10_areLike_43 ?_
            refine gm_iald dX10_areLike_44 (by decide) rfl (by decide) ⟨by omega, by simp only [ml9]; omega⟩ (by (try simp only [uA_s, uA_n, ne_eq, not_false_eq_true, Nat.reduceEqDiff, reduceCtorEq]); rfl) ?_
            refine gi_icmp_ne (tgt := 52) dX10_areLike_45 (by decide) (t6 _) (t6 _) (fun c_45 => ?_) (fun c_45 => ?_)
            · refine gi_iconst dX10_areLike_52 ?_
              refine gg_istore dX10_areLike_53 (Nat.le_of_ble_eq_true rfl) rfl ?_
              refine gi_iinc dX10_areLike_55 rfl (Nat.le_of_ble_eq_true rfl) rfl ?_
              refine gg_goto (tgt := 16) dX10_areLike_58 (by decide) ?_
              have ek : (k + 1).toNat = k.toNat + 1 := by omega
              have hn : n = m := by
                rw [c_24, eq_comm, Bool.and_eq_true, decide_eq_true_iff] at hb; exact hb.1
              have he : eqN (fun k => A 1 (p + k)) (fun k => A 1 (q + k)) k.toNat = true := by
                rw [c_24, eq_comm, Bool.and_eq_true] at hb; exact hb.2
              exact gg_conv (ih_16 _ (by omega) (k + 1) false rfl (by omega) (by rw [ek, eqN, he, Int.toNat_of_nonneg hk.1, decide_eq_false c_45, decide_eq_true hn]; rfl)) rfl rfl rfl
            · refine gi_iconst dX10_areLike_48 ?_
              refine gg_goto (tgt := 53) dX10_areLike_49 (by decide) ?_
              refine gg_istore dX10_areLike_53 (Nat.le_of_ble_eq_true rfl) rfl ?_
              refine gi_iinc dX10_areLike_55 rfl (Nat.le_of_ble_eq_true rfl) rfl ?_
              refine gg_goto (tgt := 16) dX10_areLike_58 (by decide) ?_
              have ek : (k + 1).toNat = k.toNat + 1 := by omega
              have hn : n = m := by
                rw [c_24, eq_comm, Bool.and_eq_true, decide_eq_true_iff] at hb; exact hb.1
              have he : eqN (fun k => A 1 (p + k)) (fun k => A 1 (q + k)) k.toNat = true := by
                rw [c_24, eq_comm, Bool.and_eq_true] at hb; exact hb.2
              exact gg_conv (ih_16 _ (by omega) (k + 1) true rfl (by omega) (by rw [ek, eqN, he, Int.toNat_of_nonneg hk.1, decide_eq_true c_45, decide_eq_true hn]; rfl)) rfl rfl rfl
    exact gg_conv (L_16 _ 0 false rfl (by omega) (by rw [decide_eq_false c_3]; rfl)) rfl rfl rfl
  · refine gi_iconst dX10_areLike_6 ?_
    refine gg_goto (tgt := 11) dX10_areLike_7 (by decide) ?_
    refine gg_istore dX10_areLike_11 (Nat.le_of_ble_eq_true rfl) rfl ?_
    refine gi_iconst dX10_areLike_13 ?_
    refine gg_istore dX10_areLike_14 (Nat.le_of_ble_eq_true rfl) rfl ?_
    have L_16 : ∀ (n9 : Nat) (k : Int) (b9 : Bool), ((n - k).toNat) = n9 → ∀ (hk : 0 ≤ k ∧ (k ≤ n ∨ k = 0)) (hb : b9 = (decide (n = m) && eqN (fun k => A 1 (p + k)) (fun k => A 1 (q + k)) k.toNat)), GG Γ M_X10_areLike QF9 (0, 0) (mst Γ h F A) 16 [some (.ref (g_L Γ 0)), some (.int (iN p)), some (.int (iN n)), some (.int (iN q)), some (.int (iN m)), some (.int (iN (bi b9))), some (.int (iN k))] [] := by
      intro n9
      induction n9 using Nat.strongRecOn with
      | ind n9 ih_16 => 
        intro k b9 hm9 hk hb
        refine gg_iload dX10_areLike_16 rfl ?_
        refine gg_iload_n dX10_areLike_18 rfl ?_
        refine gi_icmp_ge (tgt := 61) dX10_areLike_19 (by decide) ⟨by omega, by omega⟩ ⟨by omega, by omega⟩ (fun c_19 => ?_) (fun c_19 => ?_)
        · refine gg_iload dX10_areLike_61 rfl ?_
          subst hQF9
          refine gg_iret dX10_areLike_63 rfl (nar_bool (bi_01 _)) ⟨(Nat.le_of_ble_eq_true rfl), (Nat.le_of_ble_eq_true rfl)⟩ ?_
          refine ⟨?_, rfl⟩
          rw [likeR, hb, show k.toNat = n.toNat by omega]
        · refine gg_iload dX10_areLike_22 rfl ?_
          refine gi_if_eq (tgt := 61) dX10_areLike_24 (by decide) (bi_r _) (fun c_24 => ?_) (fun c_24 => ?_)
          · rw [bi_f] at c_24
            refine gg_iload dX10_areLike_61 rfl ?_
            subst hQF9
            refine gg_iret dX10_areLike_63 rfl (nar_bool (bi_01 _)) ⟨(Nat.le_of_ble_eq_true rfl), (Nat.le_of_ble_eq_true rfl)⟩ ?_
            refine ⟨?_, rfl⟩
            rw [likeR, c_24]
            rw [c_24, eq_comm] at hb
            by_cases hn : n = m
            · rw [decide_eq_true hn, Bool.true_and] at hb ⊢; rw [eqN_f hb (by omega)]
            · rw [decide_eq_false hn, Bool.false_and]
          · rw [bi_t] at c_24
            have hnm : n = m := by
              rw [c_24, eq_comm, Bool.and_eq_true, decide_eq_true_iff] at hb; exact hb.1
            refine gg_aload_n dX10_areLike_27 rfl rfl ?_
            refine gm_get13 rfl dX10_areLike_28 ?_
            refine gg_iload_n dX10_areLike_31 rfl ?_
            refine gg_iload dX10_areLike_32 rfl ?_
            refine gi_iadd dX10_areLike_34 ?_
            refine gm_iald dX10_areLike_35 (by decide) rfl (by decide) ⟨by omega, by simp only [ml9]; omega⟩ (by (try simp only [uA_s, uA_n, ne_eq, not_false_eq_true, Nat.reduceEqDiff, reduceCtorEq]); rfl) ?_
            refine gg_aload_n dX10_areLike_36 rfl rfl ?_
            refine gm_get13 rfl dX10_areLike_37 ?_
            refine gg_iload_n dX10_areLike_40 rfl ?_
            refine gg_iload dX10_areLike_41 rfl ?_
            refine gi_iadd dX10_areLike_43 ?_
            refine gm_iald dX10_areLike_44 (by decide) rfl (by decide) ⟨by omega, by simp only [ml9]; omega⟩ (by (try simp only [uA_s, uA_n, ne_eq, not_false_eq_true, Nat.reduceEqDiff, reduceCtorEq]); rfl) ?_
            refine gi_icmp_ne (tgt := 52) dX10_areLike_45 (by decide) (t6 _) (t6 _) (fun c_45 => ?_) (fun c_45 => ?_)
            · refine gi_iconst dX10_areLike_52 ?_
              refine gg_istore dX10_areLike_53 (Nat.le_of_ble_eq_true rfl) rfl ?_
              refine gi_iinc dX10_areLike_55 rfl (Nat.le_of_ble_eq_true rfl) rfl ?_
              refine gg_goto (tgt := 16) dX10_areLike_58 (by decide) ?_
              have ek : (k + 1).toNat = k.toNat + 1 := by omega
              have hn : n = m := by
                rw [c_24, eq_comm, Bool.and_eq_true, decide_eq_true_iff] at hb; exact hb.1
              have he : eqN (fun k => A 1 (p + k)) (fun k => A 1 (q + k)) k.toNat = true := by
                rw [c_24, eq_comm, Bool.and_eq_true] at hb; exact hb.2
              exact gg_conv (ih_16 _ (by omega) (k + 1) false rfl (by omega) (by rw [ek, eqN, he, Int.toNat_of_nonneg hk.1, decide_eq_false c_45, decide_eq_true hn]; rfl)) rfl rfl rfl
            · refine gi_iconst dX10_areLike_48 ?_
              refine gg_goto (tgt := 53) dX10_areLike_49 (by decide) ?_
              refine gg_istore dX10_areLike_53 (Nat.le_of_ble_eq_true rfl) rfl ?_
              refine gi_iinc dX10_areLike_55 rfl (Nat.le_of_ble_eq_true rfl) rfl ?_
              refine gg_goto (tgt := 16) dX10_areLike_58 (by decide) ?_
              have ek : (k + 1).toNat = k.toNat + 1 := by omega
              have hn : n = m := by
                rw [c_24, eq_comm, Bool.and_eq_true, decide_eq_true_iff] at hb; exact hb.1
              have he : eqN (fun k => A 1 (p + k)) (fun k => A 1 (q + k)) k.toNat = true := by
                rw [c_24, eq_comm, Bool.and_eq_true] at hb; exact hb.2
              exact gg_conv (ih_16 _ (by omega) (k + 1) true rfl (by omega) (by rw [ek, eqN, he, Int.toNat_of_nonneg hk.1, decide_eq_true c_45, decide_eq_true hn]; rfl)) rfl rfl rfl
    exact gg_conv (L_16 _ 0 true rfl (by omega) (by rw [decide_eq_true c_3]; rfl)) rfl rfl rfl
set_option maxRecDepth 100000 in
set_option maxHeartbeats 4000000 in
theorem c_X10_vowelAt {Γ : GT} {h : XH} {F : Nat → Int} {A : Nat → Int → Int} (S : StA (A 1)) {p n i : Int} (hp9 : 0 ≤ p ∧ p + n ≤ 2609) (hn9 : -1 ≤ n ∧ n ≤ 12) (hi : 0 ≤ i ∧ i ≤ 12) : Ct Γ M_X10_vowelAt [.ref (g_L Γ 0), .int (iN p), .int (iN n), .int (iN i)] (mst Γ h F A) (fun r h9 => r = some (.int (iN (vwA (A 1) n.toNat p i))) ∧ h9 = mst Γ h F A) (fun _ _ => False) := by
  refine Ct.of rfl (by decide +kernel) (Nat.le_of_ble_eq_true rfl) ?_
  generalize hQF9 : QM Γ _ _ _ = QF9
  have t6 := S.2.2.2.2.2.2
  refine gg_iload_n dX10_vowelAt_0 rfl ?_
  refine gg_istore dX10_vowelAt_1 (Nat.le_of_ble_eq_true rfl) rfl ?_
  refine gi_iconst dX10_vowelAt_3 ?_
  refine gg_istore dX10_vowelAt_4 (Nat.le_of_ble_eq_true rfl) rfl ?_
  have L_6 : ∀ (n9 : Nat) (k u : Int), ((n - k).toNat) = n9 → ∀ (hk : 0 ≤ k ∧ (k ≤ n ∨ k = 0)) (hu : 0 ≤ u ∧ u ≤ 12) (hv : vwA (A 1) n.toNat p i = vwA (A 1) (n - k).toNat (p + k) u), GG Γ M_X10_vowelAt QF9 (0, 0) (mst Γ h F A) 6 [some (.ref (g_L Γ 0)), some (.int (iN p)), some (.int (iN n)), some (.int (iN i)), some (.int (iN u)), some (.int (iN k))] [] := by
    intro n9
    induction n9 using Nat.strongRecOn with
    | ind n9 ih_6 => 
      intro k u hm9 hk hu hv
      refine gg_iload dX10_vowelAt_6 rfl ?_
      refine gg_iload_n dX10_vowelAt_8 rfl ?_
      refine gi_icmp_ge (tgt := 54) dX10_vowelAt_9 (by decide) ⟨by omega, by omega⟩ ⟨by omega, by omega⟩ (fun c_9 => ?_) (fun c_9 => ?_)
      · refine gi_iconst dX10_vowelAt_54 ?_
        subst hQF9
        refine gg_iret dX10_vowelAt_55 rfl rfl ⟨(Nat.le_of_ble_eq_true rfl), (Nat.le_of_ble_eq_true rfl)⟩ ?_
        rw [show (n - k).toNat = 0 by omega, vwA] at hv
        rw [hv]
        exact ⟨rfl, rfl⟩
      · refine gg_aload_n dX10_vowelAt_12 rfl rfl ?_
        refine gm_get13 rfl dX10_vowelAt_13 ?_
        refine gg_iload_n dX10_vowelAt_16 rfl ?_
        refine gg_iload dX10_vowelAt_17 rfl ?_
        refine gi_iadd dX10_vowelAt_19 ?_
        refine gm_iald dX10_vowelAt_20 (by decide) rfl (by decide) ⟨by omega, by simp only [ml9]; omega⟩ (by (try simp only [uA_s, uA_n, ne_eq, not_false_eq_true, Nat.reduceEqDiff, reduceCtorEq]); rfl) ?_
        refine gc_X10_246 rfl dX10_vowelAt_21 ⟨(Nat.le_of_ble_eq_true rfl), (Nat.le_of_ble_eq_true rfl)⟩ ⟨(Nat.le_of_ble_eq_true rfl), (Nat.le_of_ble_eq_true rfl)⟩ (Nat.le_of_ble_eq_true rfl) (c_X10_isVowel (t6 _)) (fun _ _ w => w.elim) (fun r_21 h_21 hp => ?_)
        obtain ⟨rfl, rfl⟩ := hp
        refine gi_if_ne (tgt := 30) dX10_vowelAt_24 (by decide) (bi_r _) (fun c_24 => ?_) (fun c_24 => ?_)
        · rw [bi_t] at c_24
          refine gg_iload dX10_vowelAt_30 rfl ?_
          refine gi_if_ne (tgt := 45) dX10_vowelAt_32 (by decide) ⟨by omega, by omega⟩ (fun c_32 => ?_) (fun c_32 => ?_)
          · refine gi_iinc dX10_vowelAt_45 rfl (Nat.le_of_ble_eq_true rfl) rfl ?_
            refine gi_iinc dX10_vowelAt_48 rfl (Nat.le_of_ble_eq_true rfl) rfl ?_
            refine gg_goto (tgt := 6) dX10_vowelAt_51 (by decide) ?_
            have ek : (n - k).toNat = (n - (k + 1)).toNat + 1 := by omega
            rw [ek, vwA, c_24, Int.add_assoc] at hv
            simp only [if_true, if_neg c_32] at hv
            exact ih_6 _ (by omega) (k + 1) (u + -1) rfl (by omega) (by omega) hv
          · refine gg_aload_n dX10_vowelAt_35 rfl rfl ?_
            refine gm_get13 rfl dX10_vowelAt_36 ?_
            refine gg_iload_n dX10_vowelAt_39 rfl ?_
            refine gg_iload dX10_vowelAt_40 rfl ?_
            refine gi_iadd dX10_vowelAt_42 ?_
            refine gm_iald dX10_vowelAt_43 (by decide) rfl (by decide) ⟨by omega, by simp only [ml9]; omega⟩ (by (try simp only [uA_s, uA_n, ne_eq, not_false_eq_true, Nat.reduceEqDiff, reduceCtorEq]); rfl) ?_
            subst hQF9
            refine gg_iret dX10_vowelAt_44 rfl rfl ⟨(Nat.le_of_ble_eq_true rfl), (Nat.le_of_ble_eq_true rfl)⟩ ?_
            have ek : (n - k).toNat = (n - (k + 1)).toNat + 1 := by omega
            rw [ek, vwA, c_24, if_pos rfl, if_pos c_32] at hv
            rw [hv]
            exact ⟨rfl, rfl⟩
        · rw [bi_f] at c_24
          refine gg_goto (tgt := 48) dX10_vowelAt_27 (by decide) ?_
          refine gi_iinc dX10_vowelAt_48 rfl (Nat.le_of_ble_eq_true rfl) rfl ?_
          refine gg_goto (tgt := 6) dX10_vowelAt_51 (by decide) ?_
          have ek : (n - k).toNat = (n - (k + 1)).toNat + 1 := by omega
          rw [ek, vwA, c_24, Int.add_assoc] at hv
          simp only [Bool.false_eq_true, if_false] at hv
          exact ih_6 _ (by omega) (k + 1) u rfl (by omega) hu hv
  exact L_6 _ 0 i rfl (by omega) hi (by rw [Int.sub_zero, Int.add_zero])
/-- classes of rhymes -/
def fnd (a : Int → Int) (d : Int) (c : Int → Int) (l : Int) : Nat → Int
  | 0 => -1
  | k + 1 => if fnd a d c l k < 0 ∧ 2 ≤ knd a d k l then c k else fnd a d c l k
def frs (c : Int → Int) : Nat → Int
  | 0 => 0
  | k + 1 => max (frs c k) (c k + 1)
def clsF (a : Int → Int) (d : Int) (g : Int → Int) : Nat → Int → Int
  | 0 => g
  | l + 1 => up (clsF a d g l) l (if fnd a d (clsF a d g l) l l < 0 then frs (clsF a d g l) l else fnd a d (clsF a d g l) l l)
theorem fnd_r {a : Int → Int} {d : Int} {c : Int → Int} {l : Int} : ∀ k : Nat, (∀ j : Int, 0 ≤ j → j < k → 0 ≤ c j ∧ c j ≤ j) → -1 ≤ fnd a d c l k ∧ fnd a d c l k < k
  | 0, _ => by simp [fnd]
  | k + 1, hc => by
    have h1 := fnd_r (a := a) (d := d) (c := c) (l := l) k (fun j j0 j1 => hc j j0 (by omega))
    have h2 := hc k (by omega) (by omega)
    rw [fnd]; split <;> omega
theorem frs_r {c : Int → Int} : ∀ k : Nat, (∀ j : Int, 0 ≤ j → j < k → 0 ≤ c j ∧ c j ≤ j) → 0 ≤ frs c k ∧ frs c k ≤ k
  | 0, _ => by simp [frs]
  | k + 1, hc => by
    have h1 := frs_r (c := c) k (fun j j0 j1 => hc j j0 (by omega))
    have h2 := hc k (by omega) (by omega)
    rw [frs]; omega
theorem clsF_r {a : Int → Int} {d : Int} {g : Int → Int} : ∀ l : Nat, ∀ j : Int, 0 ≤ j → j < l → 0 ≤ clsF a d g l j ∧ clsF a d g l j ≤ j
  | 0, j, h0, h1 => by omega
  | l + 1, j, h0, h1 => by
    have ih := clsF_r (a := a) (d := d) (g := g) l
    rw [clsF]
    by_cases e : j = l
    · rw [e, up_s]
      have h2 := fnd_r (a := a) (d := d) (c := clsF a d g l) (l := l) l ih
      have h3 := frs_r (c := clsF a d g l) l ih
      split <;> omega
    · rw [up_n e]
      exact ih j h0 (by omega)
def cmm (A : Nat → Int → Int) : Nat → Int
  | 0 => 0
  | k + 1 => cmm A k + (if A 12 k = 0 then 0 else 1)
theorem cmm_fr {A B : Nat → Int → Int} (e : B 12 = A 12) : ∀ k, cmm B k = cmm A k
  | 0 => rfl
  | k + 1 => by rw [cmm, cmm, cmm_fr e k, e]
set_option maxRecDepth 100000 in
set_option maxHeartbeats 4000000 in
theorem c_X10_kindOf {Γ : GT} {h : XH} {F : Nat → Int} {A : Nat → Int → Int} (S : StA (A 1)) (N : LnA (A 1)) (E9 : ExA (A 1)) {d x y : Int} (hd : 0 ≤ d ∧ d ≤ 3) (hx : 0 ≤ x ∧ x < A 1 (5 + d)) (hy : 0 ≤ y ∧ y < A 1 (5 + d)) : Ct Γ M_X10_kindOf [.ref (g_L Γ 0), .int (iN d), .int (iN x), .int (iN y)] (mst Γ h F A) (fun r h9 => ∃ (F1 : Nat → Int) (A1 : Nat → Int → Int), r = some (.int (iN (knd (A 1) d x y))) ∧ h9 = mst Γ h F1 A1 ∧ frF [16, 24, 25, 39, 40] F F1 ∧ frA [8, 9, 10, 11, 12, 13, 14, 15] A A1) (fun _ _ => False) := by
  refine Ct.of rfl (by decide +kernel) (Nat.le_of_ble_eq_true rfl) ?_
  generalize hQF9 : QM Γ _ _ _ = QF9
  obtain ⟨t0, t1, t2, t3, t4, t5, t6⟩ := id S
  have hn9 := (t5 d (by omega) (by omega)).2
  have hlx := lw_r N hd hx hn9
  have hly := lw_r N hd hy hn9
  have hrx := rh_r N hd hx hn9
  have hry := rh_r N hd hy hn9
  refine gg_aload_n dX10_kindOf_0 rfl rfl ?_
  refine gg_iload_n dX10_kindOf_1 rfl ?_
  refine gg_iload_n dX10_kindOf_2 rfl ?_
  refine gc_X10_316 rfl dX10_kindOf_3 ⟨(Nat.le_of_ble_eq_true rfl), (Nat.le_of_ble_eq_true rfl)⟩ ⟨(Nat.le_of_ble_eq_true rfl), (Nat.le_of_ble_eq_true rfl)⟩ (Nat.le_of_ble_eq_true rfl) (HAt.mu rfl) (c_X10_laysRhyme S N E9 hd hx) (fun _ _ w => w.elim) (fun r_3 h_3 hp => ?_)
  obtain ⟨F1, A1, rfl, rfl, hF, hA, hL, h39, h40⟩ := hp
  have g1 : A1 1 = A 1 := hA 1 (by decide)
  obtain ⟨-, x8, x9, -⟩ := LD_last hL
  have h16 := hL.1.1
  refine gg_aload_n dX10_kindOf_6 rfl rfl ?_
  refine gm_get130 rfl dX10_kindOf_7 h39 ?_
  refine gg_istore dX10_kindOf_10 (Nat.le_of_ble_eq_true rfl) rfl ?_
  refine gg_aload_n dX10_kindOf_12 rfl rfl ?_
  refine gm_get133 rfl dX10_kindOf_13 h40 ?_
  refine gg_istore dX10_kindOf_16 (Nat.le_of_ble_eq_true rfl) rfl ?_
  refine gg_aload_n dX10_kindOf_18 rfl rfl ?_
  refine gm_get63 rfl dX10_kindOf_19 ?_
  refine gg_aload_n dX10_kindOf_22 rfl rfl ?_
  refine gm_get60 rfl dX10_kindOf_23 (by (try simp only [uF_s, uF_n, ne_eq, not_false_eq_true, Nat.reduceEqDiff, reduceCtorEq]); rfl) ?_
  refine gi_iconst dX10_kindOf_26 ?_
  refine gi_isub dX10_kindOf_27 ?_
  refine gm_iald dX10_kindOf_28 (by decide) rfl (by decide) ⟨by omega, by simp only [ml9]; omega⟩ x8 ?_
  refine gg_istore dX10_kindOf_29 (Nat.le_of_ble_eq_true rfl) rfl ?_
  refine gg_aload_n dX10_kindOf_31 rfl rfl ?_
  refine gm_get66 rfl dX10_kindOf_32 ?_
  refine gg_aload_n dX10_kindOf_35 rfl rfl ?_
  refine gm_get60 rfl dX10_kindOf_36 (by (try simp only [uF_s, uF_n, ne_eq, not_false_eq_true, Nat.reduceEqDiff, reduceCtorEq]); rfl) ?_
  refine gi_iconst dX10_kindOf_39 ?_
  refine gi_isub dX10_kindOf_40 ?_
  refine gm_iald dX10_kindOf_41 (by decide) rfl (by decide) ⟨by omega, by simp only [ml9]; omega⟩ x9 ?_
  refine gg_istore dX10_kindOf_42 (Nat.le_of_ble_eq_true rfl) rfl ?_
  refine gg_aload_n dX10_kindOf_44 rfl rfl ?_
  refine gg_iload_n dX10_kindOf_45 rfl ?_
  refine gg_iload_n dX10_kindOf_46 rfl ?_
  refine gc_X10_316 rfl dX10_kindOf_47 ⟨(Nat.le_of_ble_eq_true rfl), (Nat.le_of_ble_eq_true rfl)⟩ ⟨(Nat.le_of_ble_eq_true rfl), (Nat.le_of_ble_eq_true rfl)⟩ (Nat.le_of_ble_eq_true rfl) (HAt.mu rfl) (c_X10_laysRhyme (F := F1) (A := A1) (by rw [g1]; exact S) (by rw [g1]; exact N) (by rw [g1]; exact E9) hd (by rw [g1]; exact hy)) (fun _ _ w => w.elim) (fun r_47 h_47 hp => ?_)
  obtain ⟨F2, A2, rfl, rfl, hF2, hA2, hM, j39, j40⟩ := hp
  rw [g1] at hM j39 j40
  have g2 : A2 1 = A 1 := by rw [hA2 1 (by decide), g1]
  have S2 : StA (A2 1) := by rw [g2]; exact S
  obtain ⟨-, y8, y9, -⟩ := LD_last hM
  have k16 := hM.1.1
  have hfF : frF [16, 24, 25, 39, 40] F F2 := fun j hj => by rw [hF2 j hj, hF j hj]
  have hfA : frA [8, 9, 10, 11, 12, 13, 14, 15] A A2 := fun j hj => by rw [hA2 j hj, hA j hj]
  refine gg_aload_n dX10_kindOf_50 rfl rfl ?_
  refine gg_iload dX10_kindOf_51 rfl ?_
  refine gg_iload dX10_kindOf_53 rfl ?_
  refine gg_aload_n dX10_kindOf_55 rfl rfl ?_
  refine gm_get63 rfl dX10_kindOf_56 ?_
  refine gg_aload_n dX10_kindOf_59 rfl rfl ?_
  refine gm_get60 rfl dX10_kindOf_60 (by (try simp only [uF_s, uF_n, ne_eq, not_false_eq_true, Nat.reduceEqDiff, reduceCtorEq]); rfl) ?_
  refine gi_iconst dX10_kindOf_63 ?_
  refine gi_isub dX10_kindOf_64 ?_
  refine gm_iald dX10_kindOf_65 (by decide) rfl (by decide) ⟨by omega, by simp only [ml9]; omega⟩ y8 ?_
  refine gg_aload_n dX10_kindOf_66 rfl rfl ?_
  refine gm_get66 rfl dX10_kindOf_67 ?_
  refine gg_aload_n dX10_kindOf_70 rfl rfl ?_
  refine gm_get60 rfl dX10_kindOf_71 (by (try simp only [uF_s, uF_n, ne_eq, not_false_eq_true, Nat.reduceEqDiff, reduceCtorEq]); rfl) ?_
  refine gi_iconst dX10_kindOf_74 ?_
  refine gi_isub dX10_kindOf_75 ?_
  refine gm_iald dX10_kindOf_76 (by decide) rfl (by decide) ⟨by omega, by simp only [ml9]; omega⟩ y9 ?_
  refine gc_X10_319 rfl dX10_kindOf_77 ⟨(Nat.le_of_ble_eq_true rfl), (Nat.le_of_ble_eq_true rfl)⟩ ⟨(Nat.le_of_ble_eq_true rfl), (Nat.le_of_ble_eq_true rfl)⟩ (Nat.le_of_ble_eq_true rfl) (HAt.mu rfl) (c_X10_areLike S2 ⟨by omega, by omega⟩ ⟨by omega, by omega⟩ ⟨by omega, by omega⟩ ⟨by omega, by omega⟩) (fun _ _ w => w.elim) (fun r_77 h_77 hp => ?_)
  obtain ⟨rfl, rfl⟩ := hp
  rw [g2]
  refine gi_if_eq (tgt := 85) dX10_kindOf_80 (by decide) (bi_r _) (fun c_80 => ?_) (fun c_80 => ?_)
  · rw [bi_f] at c_80
    refine gg_aload_n dX10_kindOf_85 rfl rfl ?_
    refine gg_iload dX10_kindOf_86 rfl ?_
    refine gg_iload dX10_kindOf_88 rfl ?_
    refine gg_aload_n dX10_kindOf_90 rfl rfl ?_
    refine gm_get130 rfl dX10_kindOf_91 j39 ?_
    refine gg_aload_n dX10_kindOf_94 rfl rfl ?_
    refine gm_get133 rfl dX10_kindOf_95 j40 ?_
    refine gc_X10_319 rfl dX10_kindOf_98 ⟨(Nat.le_of_ble_eq_true rfl), (Nat.le_of_ble_eq_true rfl)⟩ ⟨(Nat.le_of_ble_eq_true rfl), (Nat.le_of_ble_eq_true rfl)⟩ (Nat.le_of_ble_eq_true rfl) (HAt.mu rfl) (c_X10_areLike S2 ⟨by omega, by omega⟩ ⟨by omega, by omega⟩ ⟨by omega, by omega⟩ ⟨by omega, by omega⟩) (fun _ _ w => w.elim) (fun r_98 h_98 hp => ?_)
    obtain ⟨rfl, rfl⟩ := hp
    rw [g2]
    refine gi_if_eq (tgt := 106) dX10_kindOf_101 (by decide) (bi_r _) (fun c_101 => ?_) (fun c_101 => ?_)
    · rw [bi_f] at c_101
      refine gi_iconst dX10_kindOf_106 ?_
      refine gg_istore dX10_kindOf_107 (Nat.le_of_ble_eq_true rfl) rfl ?_
      have L_109 : ∀ (n9 : Nat) (k : Int), ((13 - k).toNat) = n9 → ∀ (hk : 0 ≤ k ∧ k ≤ 13) (hv : vwE (A 1) (rhF (A 1) d x) (rhM (A 1) d x) (rhF (A 1) d y) (rhM (A 1) d y) k.toNat = true), GG Γ M_X10_kindOf QF9 (0, 0) (mst Γ h F2 A2) 109 [some (.ref (g_L Γ 0)), some (.int (iN d)), some (.int (iN x)), some (.int (iN y)), some (.int (iN (rhF (A 1) d x))), some (.int (iN (rhM (A 1) d x))), some (.int (iN (lwP (A 1) d x))), some (.int (iN (lwN (A 1) d x))), some (.int (iN k))] [] := by
        intro n9
        induction n9 using Nat.strongRecOn with
        | ind n9 ih_109 => 
          intro k hm9 hk hv
          refine gg_iload dX10_kindOf_109 rfl ?_
          refine gi_bipush dX10_kindOf_111 (by decide) ?_
          refine gi_icmp_gt (tgt := 151) dX10_kindOf_113 (by decide) ⟨by omega, by omega⟩ ⟨by omega, by omega⟩ (fun c_113 => ?_) (fun c_113 => ?_)
          · refine gi_iconst dX10_kindOf_151 ?_
            subst hQF9
            refine gg_iret dX10_kindOf_152 rfl rfl ⟨(Nat.le_of_ble_eq_true rfl), (Nat.le_of_ble_eq_true rfl)⟩ ?_
            rw [show k.toNat = 13 by omega] at hv
            exact ⟨F2, A2, by rw [knd, if_neg (by rw [c_80]; decide), if_neg (by rw [c_101]; decide), if_pos hv], rfl, hfF, hfA⟩
          · refine gg_aload_n dX10_kindOf_116 rfl rfl ?_
            refine gg_iload dX10_kindOf_117 rfl ?_
            refine gg_iload dX10_kindOf_119 rfl ?_
            refine gg_iload dX10_kindOf_121 rfl ?_
            refine gc_X10_323 rfl dX10_kindOf_123 ⟨(Nat.le_of_ble_eq_true rfl), (Nat.le_of_ble_eq_true rfl)⟩ ⟨(Nat.le_of_ble_eq_true rfl), (Nat.le_of_ble_eq_true rfl)⟩ (Nat.le_of_ble_eq_true rfl) (HAt.mu rfl) (c_X10_vowelAt S2 ⟨by omega, by omega⟩ ⟨by omega, by omega⟩ ⟨by omega, by omega⟩) (fun _ _ w => w.elim) (fun r_123 h_123 hp => ?_)
            obtain ⟨rfl, rfl⟩ := hp
            rw [g2]
            refine gg_aload_n dX10_kindOf_126 rfl rfl ?_
            refine gg_aload_n dX10_kindOf_127 rfl rfl ?_
            refine gm_get130 rfl dX10_kindOf_128 j39 ?_
            refine gg_aload_n dX10_kindOf_131 rfl rfl ?_
            refine gm_get133 rfl dX10_kindOf_132 j40 ?_
            refine gg_iload dX10_kindOf_135 rfl ?_
            refine gc_X10_323 rfl dX10_kindOf_137 ⟨(Nat.le_of_ble_eq_true rfl), (Nat.le_of_ble_eq_true rfl)⟩ ⟨(Nat.le_of_ble_eq_true rfl), (Nat.le_of_ble_eq_true rfl)⟩ (Nat.le_of_ble_eq_true rfl) (HAt.mu rfl) (c_X10_vowelAt S2 ⟨by omega, by omega⟩ ⟨by omega, by omega⟩ ⟨by omega, by omega⟩) (fun _ _ w => w.elim) (fun r_137 h_137 hp => ?_)
            obtain ⟨rfl, rfl⟩ := hp
            rw [g2]
            refine gi_icmp_eq (tgt := 145) dX10_kindOf_140 (by decide) (vwA_r t6 _ _ _) (vwA_r t6 _ _ _) (fun c_140 => ?_) (fun c_140 => ?_)
            · refine gi_iinc dX10_kindOf_145 rfl (Nat.le_of_ble_eq_true rfl) rfl ?_
              refine gg_goto (tgt := 109) dX10_kindOf_148 (by decide) ?_
              have ek : (k + 1).toNat = k.toNat + 1 := by omega
              exact ih_109 _ (by omega) (k + 1) rfl (by omega) (by rw [ek, vwE, hv, Int.toNat_of_nonneg hk.1, decide_eq_true c_140]; rfl)
            · refine gi_iconst dX10_kindOf_143 ?_
              subst hQF9
              refine gg_iret dX10_kindOf_144 rfl rfl ⟨(Nat.le_of_ble_eq_true rfl), (Nat.le_of_ble_eq_true rfl)⟩ ?_
              have ek : (k + 1).toNat = k.toNat + 1 := by omega
              have hf : vwE (A 1) (rhF (A 1) d x) (rhM (A 1) d x) (rhF (A 1) d y) (rhM (A 1) d y) 13 = false := vwE_f (k := (k + 1).toNat) (by rw [ek, vwE, Int.toNat_of_nonneg hk.1, decide_eq_false c_140, Bool.and_false]) _ (by omega)
              exact ⟨F2, A2, by rw [knd, if_neg (by rw [c_80]; decide), if_neg (by rw [c_101]; decide), if_neg (by rw [hf]; decide)], rfl, hfF, hfA⟩
      exact L_109 _ 0 rfl (by omega) rfl
    · rw [bi_t] at c_101
      refine gi_iconst dX10_kindOf_104 ?_
      subst hQF9
      refine gg_iret dX10_kindOf_105 rfl rfl ⟨(Nat.le_of_ble_eq_true rfl), (Nat.le_of_ble_eq_true rfl)⟩ ?_
      exact ⟨F2, A2, by rw [knd, if_neg (by rw [c_80]; decide), if_pos c_101], rfl, hfF, hfA⟩
  · rw [bi_t] at c_80
    refine gi_iconst dX10_kindOf_83 ?_
    subst hQF9
    refine gg_iret dX10_kindOf_84 rfl rfl ⟨(Nat.le_of_ble_eq_true rfl), (Nat.le_of_ble_eq_true rfl)⟩ ?_
    exact ⟨F2, A2, by rw [knd, if_pos c_80], rfl, hfF, hfA⟩
set_option maxRecDepth 100000 in
set_option maxHeartbeats 4000000 in
theorem c_X10_laysClasses {Γ : GT} {h : XH} {F : Nat → Int} {A : Nat → Int → Int} (S : StA (A 1)) (N : LnA (A 1)) (E9 : ExA (A 1)) {d : Int} (hd : 0 ≤ d ∧ d ≤ 3) : Ct Γ M_X10_laysClasses [.ref (g_L Γ 0), .int (iN d)] (mst Γ h F A) (fun r h9 => ∃ (F1 : Nat → Int) (A1 : Nat → Int → Int), r = none ∧ h9 = mst Γ h F1 A1 ∧ frF [16, 24, 25, 39, 40] F F1 ∧ frA [8, 9, 10, 11, 12, 13, 14, 15, 19] A A1 ∧ A1 19 = clsF (A 1) d (A 19) (A 1 (5 + d)).toNat) (fun _ _ => False) := by
  refine Ct.of rfl (by decide +kernel) (Nat.le_of_ble_eq_true rfl) ?_
  generalize hQF9 : QM Γ _ _ _ = QF9
  obtain ⟨t0, t1, t2, t3, t4, t5, t6⟩ := id S
  have hn9 := t5 d (by omega) (by omega)
  refine gi_iconst dX10_laysClasses_0 ?_
  refine gg_istore_n dX10_laysClasses_1 (Nat.le_of_ble_eq_true rfl) rfl ?_
  have L_2 : ∀ (n9 : Nat) (l : Int) (F1 : Nat → Int) (A1 : Nat → Int → Int), ((A 1 (5 + d) - l).toNat) = n9 → ∀ (hl : 0 ≤ l ∧ l ≤ A 1 (5 + d)) (hF : frF [16, 24, 25, 39, 40] F F1) (hA : frA [8, 9, 10, 11, 12, 13, 14, 15, 19] A A1) (hc : A1 19 = clsF (A 1) d (A 19) l.toNat), GG Γ M_X10_laysClasses QF9 (0, 0) (mst Γ h F1 A1) 2 [some (.ref (g_L Γ 0)), some (.int (iN d)), some (.int (iN l)), none, none, none] [] := by
    intro n9
    induction n9 using Nat.strongRecOn with
    | ind n9 ih_2 => 
      intro l F1 A1 hm9 hl hF hA hc
      have g1 : A1 1 = A 1 := hA 1 (by decide)
      obtain ⟨c9, hc9⟩ : ∃ c9, c9 = clsF (A 1) d (A 19) l.toNat := ⟨_, rfl⟩
      have hcb : ∀ j : Int, 0 ≤ j → j < l → 0 ≤ c9 j ∧ c9 j ≤ j := fun j j0 j1 => by rw [hc9]; exact clsF_r _ j j0 (by omega)
      rw [← hc9] at hc
      refine gg_iload_n dX10_laysClasses_2 rfl ?_
      refine gg_aload_n dX10_laysClasses_3 rfl rfl ?_
      refine gm_get13 rfl dX10_laysClasses_4 ?_
      refine gi_iconst dX10_laysClasses_7 ?_
      refine gg_iload_n dX10_laysClasses_8 rfl ?_
      refine gi_iadd dX10_laysClasses_9 ?_
      refine gm_iald dX10_laysClasses_10 (by decide) rfl (by decide) ⟨by omega, by simp only [ml9]; omega⟩ (congrFun g1 _) ?_
      refine gi_icmp_ge (tgt := 96) dX10_laysClasses_11 (by decide) ⟨by omega, by omega⟩ ⟨by omega, by omega⟩ (fun c_11 => ?_) (fun c_11 => ?_)
      · subst hQF9
        refine gg_vret dX10_laysClasses_96 rfl ⟨(Nat.le_of_ble_eq_true rfl), (Nat.le_of_ble_eq_true rfl)⟩ ?_
        exact ⟨F1, A1, rfl, rfl, hF, hA, by rw [hc, hc9, show l = A 1 (5 + d) by omega]⟩
      · refine gi_iconst dX10_laysClasses_14 ?_
        refine gg_istore_n dX10_laysClasses_15 (Nat.le_of_ble_eq_true rfl) rfl ?_
        refine gi_iconst dX10_laysClasses_16 ?_
        refine gg_istore dX10_laysClasses_17 (Nat.le_of_ble_eq_true rfl) rfl ?_
        refine gi_iconst dX10_laysClasses_19 ?_
        refine gg_istore dX10_laysClasses_20 (Nat.le_of_ble_eq_true rfl) rfl ?_
        have L_22 : ∀ (n9 : Nat) (k : Int) (F2 : Nat → Int) (A2 : Nat → Int → Int), ((l - k).toNat) = n9 → ∀ (hk : 0 ≤ k ∧ k ≤ l) (hF2 : frF [16, 24, 25, 39, 40] F F2) (hA2 : frA [8, 9, 10, 11, 12, 13, 14, 15, 19] A A2) (hc2 : A2 19 = c9), GG Γ M_X10_laysClasses QF9 (0, 0) (mst Γ h F2 A2) 22 [some (.ref (g_L Γ 0)), some (.int (iN d)), some (.int (iN l)), some (.int (iN (fnd (A 1) d c9 l k.toNat))), some (.int (iN (frs c9 k.toNat))), some (.int (iN k))] [] := by
          intro n9
          induction n9 using Nat.strongRecOn with
          | ind n9 ih_22 => 
            intro k F2 A2 hm9 hk hF2 hA2 hc2
            have g2 : A2 1 = A 1 := hA2 1 (by decide)
            have hfr := fnd_r (a := A 1) (d := d) (c := c9) (l := l) k.toNat (fun j j0 j1 => hcb j j0 (by omega))
            have hsr := frs_r (c := c9) k.toNat (fun j j0 j1 => hcb j j0 (by omega))
            refine gg_iload dX10_laysClasses_22 rfl ?_
            refine gg_iload_n dX10_laysClasses_24 rfl ?_
            refine gi_icmp_ge (tgt := 74) dX10_laysClasses_25 (by decide) ⟨by omega, by omega⟩ ⟨by omega, by omega⟩ (fun c_25 => ?_) (fun c_25 => ?_)
            · refine gg_aload_n dX10_laysClasses_74 rfl rfl ?_
              refine gm_get142 rfl dX10_laysClasses_75 ?_
              refine gg_iload_n dX10_laysClasses_78 rfl ?_
              refine gg_iload_n dX10_laysClasses_79 rfl ?_
              refine gi_if_ge (tgt := 88) dX10_laysClasses_80 (by decide) ⟨by omega, by omega⟩ (fun c_80 => ?_) (fun c_80 => ?_)
              · refine gg_iload_n dX10_laysClasses_88 rfl ?_
                refine gm_iast dX10_laysClasses_89 (by decide) rfl (by decide) ⟨by omega, by simp only [ml9]; omega⟩ (by (try simp only [uA_s, uA_n, uA_ss, uA_cc, id_eq, ne_eq, not_false_eq_true, Nat.reduceEqDiff, Nat.reduceLT, reduceCtorEq]); rfl) ?_
                refine gi_iinc dX10_laysClasses_90 rfl (Nat.le_of_ble_eq_true rfl) rfl ?_
                refine gg_goto (tgt := 2) dX10_laysClasses_93 (by decide) ?_
                refine gg_drop 3 ?_
                refine gg_drop 4 ?_
                refine gg_drop 5 ?_
                have ek : (l + 1).toNat = l.toNat + 1 := by omega
                refine ih_2 _ (by omega) (l + 1) F2 _ rfl (by omega) hF2 (frA_u hA2 (by decide)) ?_
                have ekl : k.toNat = l.toNat := by omega
                rw [ek, clsF, ← hc9, Int.toNat_of_nonneg hl.1, uA_s, hc2, ekl, if_neg (by rw [← ekl]; omega)]
              · refine gg_iload dX10_laysClasses_83 rfl ?_
                refine gg_goto (tgt := 89) dX10_laysClasses_85 (by decide) ?_
                refine gm_iast dX10_laysClasses_89 (by decide) rfl (by decide) ⟨by omega, by simp only [ml9]; omega⟩ (by (try simp only [uA_s, uA_n, uA_ss, uA_cc, id_eq, ne_eq, not_false_eq_true, Nat.reduceEqDiff, Nat.reduceLT, reduceCtorEq]); rfl) ?_
                refine gi_iinc dX10_laysClasses_90 rfl (Nat.le_of_ble_eq_true rfl) rfl ?_
                refine gg_goto (tgt := 2) dX10_laysClasses_93 (by decide) ?_
                refine gg_drop 3 ?_
                refine gg_drop 4 ?_
                refine gg_drop 5 ?_
                have ek : (l + 1).toNat = l.toNat + 1 := by omega
                refine ih_2 _ (by omega) (l + 1) F2 _ rfl (by omega) hF2 (frA_u hA2 (by decide)) ?_
                have ekl : k.toNat = l.toNat := by omega
                rw [ek, clsF, ← hc9, Int.toNat_of_nonneg hl.1, uA_s, hc2, ekl, if_pos (by rw [← ekl]; omega)]
            · have L_52 : ∀ (F3 : Nat → Int) (A3 : Nat → Int → Int) (hF3 : frF [16, 24, 25, 39, 40] F F3) (hA3 : frA [8, 9, 10, 11, 12, 13, 14, 15, 19] A A3) (hc3 : A3 19 = c9), GG Γ M_X10_laysClasses QF9 (0, 0) (mst Γ h F3 A3) 52 [some (.ref (g_L Γ 0)), some (.int (iN d)), some (.int (iN l)), some (.int (iN (fnd (A 1) d c9 l (k + 1).toNat))), some (.int (iN (frs c9 k.toNat))), some (.int (iN k))] [] := by
                intro F3 A3 hF3 hA3 hc3
                refine gg_iload dX10_laysClasses_52 rfl ?_
                have hck := hcb k (by omega) (by omega)
                refine gg_aload_n dX10_laysClasses_54 rfl rfl ?_
                refine gm_get142 rfl dX10_laysClasses_55 ?_
                refine gg_iload dX10_laysClasses_58 rfl ?_
                refine gm_iald dX10_laysClasses_60 (by decide) rfl (by decide) ⟨by omega, by simp only [ml9]; omega⟩ (congrFun hc3 _) ?_
                refine gi_iconst dX10_laysClasses_61 ?_
                refine gi_iadd dX10_laysClasses_62 ?_
                refine gc_X10_267 rfl dX10_laysClasses_63 ⟨(Nat.le_of_ble_eq_true rfl), (Nat.le_of_ble_eq_true rfl)⟩ ⟨(Nat.le_of_ble_eq_true rfl), (Nat.le_of_ble_eq_true rfl)⟩ ?_
                rw [iN_max ⟨by omega, by omega⟩ ⟨by omega, by omega⟩]
                refine gg_istore dX10_laysClasses_66 (Nat.le_of_ble_eq_true rfl) rfl ?_
                refine gi_iinc dX10_laysClasses_68 rfl (Nat.le_of_ble_eq_true rfl) rfl ?_
                refine gg_goto (tgt := 22) dX10_laysClasses_71 (by decide) ?_
                have ek : (k + 1).toNat = k.toNat + 1 := by omega
                exact gg_conv (ih_22 _ (by omega) (k + 1) F3 A3 rfl (by omega) hF3 hA3 hc3) rfl (by simp only [ek, frs, Int.toNat_of_nonneg hk.1]; rfl) rfl
              refine gg_iload_n dX10_laysClasses_28 rfl ?_
              refine gi_if_ge (tgt := 52) dX10_laysClasses_29 (by decide) ⟨by omega, by omega⟩ (fun c_29 => ?_) (fun c_29 => ?_)
              · exact gg_conv (L_52 F2 A2 hF2 hA2 hc2) rfl (by rw [show (k + 1).toNat = k.toNat + 1 by omega, fnd, if_neg (by omega)]) rfl
              · refine gg_aload_n dX10_laysClasses_32 rfl rfl ?_
                refine gg_iload_n dX10_laysClasses_33 rfl ?_
                refine gg_iload dX10_laysClasses_34 rfl ?_
                refine gg_iload_n dX10_laysClasses_36 rfl ?_
                refine gc_X10_327 rfl dX10_laysClasses_37 ⟨(Nat.le_of_ble_eq_true rfl), (Nat.le_of_ble_eq_true rfl)⟩ ⟨(Nat.le_of_ble_eq_true rfl), (Nat.le_of_ble_eq_true rfl)⟩ (Nat.le_of_ble_eq_true rfl) (HAt.mu rfl) (c_X10_kindOf (F := F2) (A := A2) (by rw [g2]; exact S) (by rw [g2]; exact N) (by rw [g2]; exact E9) hd (by rw [g2]; omega) (by rw [g2]; omega)) (fun _ _ w => w.elim) (fun r_37 h_37 hp => ?_)
                obtain ⟨F3, A3, rfl, rfl, hF3, hA3⟩ := hp
                rw [g2]
                have hkr := knd_r (A 1) d k l
                have hf3 : frF [16, 24, 25, 39, 40] F F3 := fun j hj => by rw [hF3 j hj, hF2 j hj]
                have ha3 : frA [8, 9, 10, 11, 12, 13, 14, 15, 19] A A3 := fun j hj => by rw [hA3 j (fun q => hj (by revert q; simp; omega)), hA2 j hj]
                have hc3 : A3 19 = c9 := by rw [hA3 19 (by decide), hc2]
                refine gi_iconst dX10_laysClasses_40 ?_
                refine gi_icmp_lt (tgt := 52) dX10_laysClasses_41 (by decide) ⟨by omega, by omega⟩ ⟨by omega, by omega⟩ (fun c_41 => ?_) (fun c_41 => ?_)
                · exact gg_conv (L_52 F3 A3 hf3 ha3 hc3) rfl (by rw [show (k + 1).toNat = k.toNat + 1 by omega, fnd, Int.toNat_of_nonneg hk.1, if_neg (by omega)]) rfl
                · refine gg_aload_n dX10_laysClasses_44 rfl rfl ?_
                  refine gm_get142 rfl dX10_laysClasses_45 ?_
                  refine gg_iload dX10_laysClasses_48 rfl ?_
                  refine gm_iald dX10_laysClasses_50 (by decide) rfl (by decide) ⟨by omega, by simp only [ml9]; omega⟩ (congrFun hc3 _) ?_
                  refine gg_istore_n dX10_laysClasses_51 (Nat.le_of_ble_eq_true rfl) rfl ?_
                  exact gg_conv (L_52 F3 A3 hf3 ha3 hc3) rfl (by rw [show (k + 1).toNat = k.toNat + 1 by omega, fnd, Int.toNat_of_nonneg hk.1, if_pos ⟨by omega, by omega⟩]; rfl) rfl
        exact L_22 _ 0 F1 A1 rfl (by omega) hF hA hc
  refine gg_drop 3 ?_
  refine gg_drop 4 ?_
  refine gg_drop 5 ?_
  exact L_2 _ 0 F A rfl (by omega) (fun _ _ => rfl) (fun _ _ => rfl) rfl
set_option maxRecDepth 100000 in
set_option maxHeartbeats 4000000 in
theorem c_X10_rhyme {Γ : GT} {h : XH} {F : Nat → Int} {A : Nat → Int → Int} (S : StA (A 1)) (N : LnA (A 1)) (E9 : ExA (A 1)) {d l : Int} (hd : InR d) (hl : InR l) {p : Int} (hp9 : InR p) : Ct Γ M_X10_rhyme [.ref (g_L Γ 0), .int (iN d), .int (iN l), .int (iN p)] (mst Γ h F A) (fun r h9 => (¬ (0 ≤ d ∧ d ≤ 3 ∧ 0 ≤ l ∧ l < A 1 (5 + d)) ∧ r = some (.int (iN 0)) ∧ h9 = mst Γ h (uF F 0 1) A) ∨ ((0 ≤ d ∧ d ≤ 3 ∧ 0 ≤ l ∧ l < A 1 (5 + d)) ∧ ∃ (F2 : Nat → Int) (A2 : Nat → Int → Int), h9 = mst Γ h F2 A2 ∧ frF [0, 16, 24, 25, 27, 28, 29, 30, 34, 35, 36, 37, 38, 39, 40, 41, 42] F F2 ∧ frA [8, 9, 10, 11, 12, 13, 14, 15, 16, 17, 18, 19, 20, 21, 22] A A2 ∧ ((¬ (0 ≤ p ∧ p < rhM (A 1) d l) ∧ r = some (.int (iN (0))) ∧ F2 0 = 1) ∨ ((0 ≤ p ∧ p < rhM (A 1) d l) ∧ r = some (.int (iN (A 1 (rhF (A 1) d l + p)))) ∧ F2 0 = 0)))) (fun _ _ => False) := by
  refine Ct.of rfl (by decide +kernel) (Nat.le_of_ble_eq_true rfl) ?_
  generalize hQF9 : QM Γ _ _ _ = QF9
  obtain ⟨t0, t1, t2, t3, t4, t5, t6⟩ := id S
  refine gg_aload_n dX10_rhyme_0 rfl rfl ?_
  refine gi_iconst dX10_rhyme_1 ?_
  refine gm_put3 rfl dX10_rhyme_2 (by (try simp only [uF_ss, uF_cc, id_eq, Nat.reduceLT, reduceCtorEq]); rfl) ?_
  refine gg_aload_n dX10_rhyme_5 rfl rfl ?_
  refine gg_iload_n dX10_rhyme_6 rfl ?_
  refine gg_iload_n dX10_rhyme_7 rfl ?_
  refine gc_X10_234 rfl dX10_rhyme_8 ⟨(Nat.le_of_ble_eq_true rfl), (Nat.le_of_ble_eq_true rfl)⟩ ⟨(Nat.le_of_ble_eq_true rfl), (Nat.le_of_ble_eq_true rfl)⟩ (Nat.le_of_ble_eq_true rfl) (HAt.mu rfl) (c_X10_isLine (by exact S) (by assumption) (by assumption)) (fun _ _ w => w.elim) (fun r_8 h_8 hp => ?_)
  obtain ⟨rfl, rfl⟩ := hp
  refine gi_if_ne (tgt := 21) dX10_rhyme_11 (by decide) (bi_r _) (fun c_11 => ?_) (fun c_11 => ?_)
  · rw [bi_t] at c_11
    simp at c_11
    refine gg_aload_n dX10_rhyme_21 rfl rfl ?_
    refine gg_iload_n dX10_rhyme_22 rfl ?_
    refine gg_iload_n dX10_rhyme_23 rfl ?_
    refine gc_X10_316 rfl dX10_rhyme_24 ⟨(Nat.le_of_ble_eq_true rfl), (Nat.le_of_ble_eq_true rfl)⟩ ⟨(Nat.le_of_ble_eq_true rfl), (Nat.le_of_ble_eq_true rfl)⟩ (Nat.le_of_ble_eq_true rfl) (HAt.mu rfl) (c_X10_laysRhyme (F := uF F 0 0) S N E9 ⟨by omega, by omega⟩ ⟨by omega, by omega⟩) (fun _ _ w => w.elim) (fun r_24 h_24 hp => ?_)
    obtain ⟨F1, A1, rfl, rfl, hF, hA, hL, h39, h40⟩ := hp
    have g1 : A1 1 = A 1 := hA 1 (by decide)
    have e0 : F1 0 = 0 := by rw [hF 0 (by decide), uF_s]
    have hn9 := (t5 d (by omega) (by omega)).2
    have hrx := rh_r N (d := d) (l := l) ⟨by omega, by omega⟩ ⟨by omega, by omega⟩ hn9
    obtain ⟨n1, n2, n3⟩ := N d l (by omega) (by omega) (by omega) (by omega)
    refine gg_iload_n dX10_rhyme_27 rfl ?_
    refine gi_iconst dX10_rhyme_28 ?_
    refine gg_aload_n dX10_rhyme_29 rfl rfl ?_
    refine gm_get133 rfl dX10_rhyme_30 h40 ?_
    refine gi_iconst dX10_rhyme_33 ?_
    refine gi_isub dX10_rhyme_34 ?_
    refine gc_X10_158 rfl dX10_rhyme_35 ⟨(Nat.le_of_ble_eq_true rfl), (Nat.le_of_ble_eq_true rfl)⟩ ⟨(Nat.le_of_ble_eq_true rfl), (Nat.le_of_ble_eq_true rfl)⟩ (Nat.le_of_ble_eq_true rfl) (c_X10_in hp9 ⟨by omega, by omega⟩ ⟨by omega, by omega⟩) (fun _ _ w => w.elim) (fun r_35 h_35 hp => ?_)
    obtain ⟨rfl, rfl⟩ := hp
    refine gi_if_eq (tgt := 56) dX10_rhyme_38 (by decide) (bi_r _) (fun c_38 => ?_) (fun c_38 => ?_)
    · rw [bi_f] at c_38
      rw [Bool.and_eq_false_iff, decide_eq_false_iff_not, decide_eq_false_iff_not] at c_38
      refine gg_aload_n dX10_rhyme_56 rfl rfl ?_
      refine gi_iconst dX10_rhyme_57 ?_
      refine gc_X10_162 rfl dX10_rhyme_58 ⟨(Nat.le_of_ble_eq_true rfl), (Nat.le_of_ble_eq_true rfl)⟩ ⟨(Nat.le_of_ble_eq_true rfl), (Nat.le_of_ble_eq_true rfl)⟩ (Nat.le_of_ble_eq_true rfl) (HAt.mu rfl) (c_X10_fails) (fun _ _ w => w.elim) (fun r_58 h_58 hp => ?_)
      obtain ⟨rfl, rfl⟩ := hp
      refine gi_i2c dX10_rhyme_61 ⟨by omega, by omega⟩ ?_
      subst hQF9
      refine gg_iret dX10_rhyme_62 rfl (nar_char ⟨by omega, by omega⟩) ⟨(Nat.le_of_ble_eq_true rfl), (Nat.le_of_ble_eq_true rfl)⟩ ?_
      first | exact Or.inr ⟨by omega, F1, A1, rfl, frF_z hF (by decide), frA_w hA (by decide), Or.inr ⟨by omega, rfl, e0⟩⟩ | exact Or.inr ⟨by omega, uF F1 0 1, A1, rfl, frF_u (frF_z hF (by decide)) (by decide), frA_w hA (by decide), Or.inl ⟨by omega, rfl, uF_s⟩⟩
    · rw [bi_t] at c_38
      rw [Bool.and_eq_true, decide_eq_true_iff, decide_eq_true_iff] at c_38
      have hch := n2 (rhF (A 1) d l + p - (169 + 61 * (10 * d + l) + 1)) (by omega) (by omega)
      rw [show 169 + 61 * (10 * d + l) + 1 + (rhF (A 1) d l + p - (169 + 61 * (10 * d + l) + 1)) = rhF (A 1) d l + p by omega] at hch
      refine gg_aload_n dX10_rhyme_41 rfl rfl ?_
      refine gm_get13 rfl dX10_rhyme_42 ?_
      refine gg_aload_n dX10_rhyme_45 rfl rfl ?_
      refine gm_get130 rfl dX10_rhyme_46 h39 ?_
      refine gg_iload_n dX10_rhyme_49 rfl ?_
      refine gi_iadd dX10_rhyme_50 ?_
      refine gm_iald dX10_rhyme_51 (by decide) rfl (by decide) ⟨by omega, by simp only [ml9]; omega⟩ (congrFun g1 _) ?_
      refine gi_i2c dX10_rhyme_52 ⟨by omega, by omega⟩ ?_
      refine gg_goto (tgt := 62) dX10_rhyme_53 (by decide) ?_
      subst hQF9
      refine gg_iret dX10_rhyme_62 rfl (nar_char ⟨by omega, by omega⟩) ⟨(Nat.le_of_ble_eq_true rfl), (Nat.le_of_ble_eq_true rfl)⟩ ?_
      first | exact Or.inr ⟨by omega, F1, A1, rfl, frF_z hF (by decide), frA_w hA (by decide), Or.inr ⟨by omega, rfl, e0⟩⟩ | exact Or.inr ⟨by omega, uF F1 0 1, A1, rfl, frF_u (frF_z hF (by decide)) (by decide), frA_w hA (by decide), Or.inl ⟨by omega, rfl, uF_s⟩⟩
  · rw [bi_f] at c_11
    simp at c_11
    refine gg_aload_n dX10_rhyme_14 rfl rfl ?_
    refine gi_iconst dX10_rhyme_15 ?_
    refine gc_X10_162 rfl dX10_rhyme_16 ⟨(Nat.le_of_ble_eq_true rfl), (Nat.le_of_ble_eq_true rfl)⟩ ⟨(Nat.le_of_ble_eq_true rfl), (Nat.le_of_ble_eq_true rfl)⟩ (Nat.le_of_ble_eq_true rfl) (HAt.mu rfl) (c_X10_fails) (fun _ _ w => w.elim) (fun r_16 h_16 hp => ?_)
    obtain ⟨rfl, rfl⟩ := hp
    refine gi_i2c dX10_rhyme_19 ⟨by omega, by omega⟩ ?_
    subst hQF9
    refine gg_iret dX10_rhyme_20 rfl (nar_char ⟨by omega, by omega⟩) ⟨(Nat.le_of_ble_eq_true rfl), (Nat.le_of_ble_eq_true rfl)⟩ ?_
    exact Or.inl ⟨by omega, rfl, by rw [uF_ss]⟩
set_option maxRecDepth 100000 in
set_option maxHeartbeats 4000000 in
theorem c_X10_rhymes {Γ : GT} {h : XH} {F : Nat → Int} {A : Nat → Int → Int} (S : StA (A 1)) (N : LnA (A 1)) (E9 : ExA (A 1)) {d x y : Int} (hd : InR d) (hx : InR x) (hy : InR y) : Ct Γ M_X10_rhymes [.ref (g_L Γ 0), .int (iN d), .int (iN x), .int (iN y)] (mst Γ h F A) (fun r h9 => (¬ ((0 ≤ d ∧ d ≤ 3 ∧ 0 ≤ x ∧ x < A 1 (5 + d)) ∧ (0 ≤ d ∧ d ≤ 3 ∧ 0 ≤ y ∧ y < A 1 (5 + d))) ∧ r = some (.int (iN (0))) ∧ h9 = mst Γ h (uF F 0 1) A) ∨ (((0 ≤ d ∧ d ≤ 3 ∧ 0 ≤ x ∧ x < A 1 (5 + d)) ∧ (0 ≤ d ∧ d ≤ 3 ∧ 0 ≤ y ∧ y < A 1 (5 + d))) ∧ ∃ (F2 : Nat → Int) (A2 : Nat → Int → Int), h9 = mst Γ h F2 A2 ∧ frF [0, 16, 24, 25, 27, 28, 29, 30, 34, 35, 36, 37, 38, 39, 40, 41, 42] F F2 ∧ frA [8, 9, 10, 11, 12, 13, 14, 15, 16, 17, 18, 19, 20, 21, 22] A A2 ∧ r = some (.int (iN (knd (A 1) d x y))) ∧ F2 0 = 0)) (fun _ _ => False) := by
  refine Ct.of rfl (by decide +kernel) (Nat.le_of_ble_eq_true rfl) ?_
  generalize hQF9 : QM Γ _ _ _ = QF9
  obtain ⟨t0, t1, t2, t3, t4, t5, t6⟩ := id S
  refine gg_aload_n dX10_rhymes_0 rfl rfl ?_
  refine gi_iconst dX10_rhymes_1 ?_
  refine gm_put3 rfl dX10_rhymes_2 (by (try simp only [uF_ss, uF_cc, id_eq, Nat.reduceLT, reduceCtorEq]); rfl) ?_
  refine gg_aload_n dX10_rhymes_5 rfl rfl ?_
  refine gg_iload_n dX10_rhymes_6 rfl ?_
  refine gg_iload_n dX10_rhymes_7 rfl ?_
  refine gc_X10_234 rfl dX10_rhymes_8 ⟨(Nat.le_of_ble_eq_true rfl), (Nat.le_of_ble_eq_true rfl)⟩ ⟨(Nat.le_of_ble_eq_true rfl), (Nat.le_of_ble_eq_true rfl)⟩ (Nat.le_of_ble_eq_true rfl) (HAt.mu rfl) (c_X10_isLine S hd hx) (fun _ _ w => w.elim) (fun r_8 h_8 hp => ?_)
  obtain ⟨rfl, rfl⟩ := hp
  refine gi_if_eq (tgt := 33) dX10_rhymes_11 (by decide) (bi_r _) (fun c_11 => ?_) (fun c_11 => ?_)
  · rw [bi_f] at c_11
    simp at c_11
    refine gg_aload_n dX10_rhymes_33 rfl rfl ?_
    refine gi_iconst dX10_rhymes_34 ?_
    refine gc_X10_162 rfl dX10_rhymes_35 ⟨(Nat.le_of_ble_eq_true rfl), (Nat.le_of_ble_eq_true rfl)⟩ ⟨(Nat.le_of_ble_eq_true rfl), (Nat.le_of_ble_eq_true rfl)⟩ (Nat.le_of_ble_eq_true rfl) (HAt.mu rfl) (c_X10_fails) (fun _ _ w => w.elim) (fun r_35 h_35 hp => ?_)
    obtain ⟨rfl, rfl⟩ := hp
    subst hQF9
    refine gg_iret dX10_rhymes_38 rfl rfl ⟨(Nat.le_of_ble_eq_true rfl), (Nat.le_of_ble_eq_true rfl)⟩ ?_
    exact Or.inl ⟨by omega, rfl, by rw [uF_ss]⟩
  · rw [bi_t] at c_11
    simp at c_11
    refine gg_aload_n dX10_rhymes_14 rfl rfl ?_
    refine gg_iload_n dX10_rhymes_15 rfl ?_
    refine gg_iload_n dX10_rhymes_16 rfl ?_
    refine gc_X10_234 rfl dX10_rhymes_17 ⟨(Nat.le_of_ble_eq_true rfl), (Nat.le_of_ble_eq_true rfl)⟩ ⟨(Nat.le_of_ble_eq_true rfl), (Nat.le_of_ble_eq_true rfl)⟩ (Nat.le_of_ble_eq_true rfl) (HAt.mu rfl) (c_X10_isLine S hd hy) (fun _ _ w => w.elim) (fun r_17 h_17 hp => ?_)
    obtain ⟨rfl, rfl⟩ := hp
    refine gi_if_eq (tgt := 33) dX10_rhymes_20 (by decide) (bi_r _) (fun c_20 => ?_) (fun c_20 => ?_)
    · rw [bi_f] at c_20
      simp at c_20
      refine gg_aload_n dX10_rhymes_33 rfl rfl ?_
      refine gi_iconst dX10_rhymes_34 ?_
      refine gc_X10_162 rfl dX10_rhymes_35 ⟨(Nat.le_of_ble_eq_true rfl), (Nat.le_of_ble_eq_true rfl)⟩ ⟨(Nat.le_of_ble_eq_true rfl), (Nat.le_of_ble_eq_true rfl)⟩ (Nat.le_of_ble_eq_true rfl) (HAt.mu rfl) (c_X10_fails) (fun _ _ w => w.elim) (fun r_35 h_35 hp => ?_)
      obtain ⟨rfl, rfl⟩ := hp
      subst hQF9
      refine gg_iret dX10_rhymes_38 rfl rfl ⟨(Nat.le_of_ble_eq_true rfl), (Nat.le_of_ble_eq_true rfl)⟩ ?_
      exact Or.inl ⟨by omega, rfl, by rw [uF_ss]⟩
    · rw [bi_t] at c_20
      simp at c_20
      refine gg_aload_n dX10_rhymes_23 rfl rfl ?_
      refine gg_iload_n dX10_rhymes_24 rfl ?_
      refine gg_iload_n dX10_rhymes_25 rfl ?_
      refine gg_iload_n dX10_rhymes_26 rfl ?_
      refine gc_X10_327 rfl dX10_rhymes_27 ⟨(Nat.le_of_ble_eq_true rfl), (Nat.le_of_ble_eq_true rfl)⟩ ⟨(Nat.le_of_ble_eq_true rfl), (Nat.le_of_ble_eq_true rfl)⟩ (Nat.le_of_ble_eq_true rfl) (HAt.mu rfl) (c_X10_kindOf (F := uF F 0 0) S N E9 ⟨by omega, by omega⟩ ⟨by omega, by omega⟩ ⟨by omega, by omega⟩) (fun _ _ w => w.elim) (fun r_27 h_27 hp => ?_)
      obtain ⟨F1, A1, rfl, rfl, hF, hA⟩ := hp
      refine gg_goto (tgt := 38) dX10_rhymes_30 (by decide) ?_
      subst hQF9
      refine gg_iret dX10_rhymes_38 rfl rfl ⟨(Nat.le_of_ble_eq_true rfl), (Nat.le_of_ble_eq_true rfl)⟩ ?_
      exact Or.inr ⟨by omega, F1, A1, rfl, frF_z hF (by decide), frA_w hA (by decide), rfl, by rw [hF 0 (by decide), uF_s]⟩
set_option maxRecDepth 100000 in
set_option maxHeartbeats 4000000 in
theorem c_X10_commas {Γ : GT} {h : XH} {F : Nat → Int} {A : Nat → Int → Int} (L9 : LW F A) : Ct Γ M_X10_commas [.ref (g_L Γ 0)] (mst Γ h F A) (fun r h9 => r = some (.int (iN (cmm A (F 16).toNat))) ∧ h9 = mst Γ h F A) (fun _ _ => False) := by
  refine Ct.of rfl (by decide +kernel) (Nat.le_of_ble_eq_true rfl) ?_
  generalize hQF9 : QM Γ _ _ _ = QF9
  obtain ⟨l1, l2⟩ := id L9
  refine gi_iconst dX10_commas_0 ?_
  refine gg_istore_n dX10_commas_1 (Nat.le_of_ble_eq_true rfl) rfl ?_
  refine gi_iconst dX10_commas_2 ?_
  refine gg_istore_n dX10_commas_3 (Nat.le_of_ble_eq_true rfl) rfl ?_
  have L_4 : ∀ (n9 : Nat) (k : Int), ((F 16 - k).toNat) = n9 → ∀ (hk : 0 ≤ k ∧ k ≤ F 16), GG Γ M_X10_commas QF9 (0, 0) (mst Γ h F A) 4 [some (.ref (g_L Γ 0)), some (.int (iN (cmm A k.toNat))), some (.int (iN k))] [] := by
    intro n9
    induction n9 using Nat.strongRecOn with
    | ind n9 ih_4 => 
      intro k hm9 hk
      refine gg_iload_n dX10_commas_4 rfl ?_
      refine gg_aload_n dX10_commas_5 rfl rfl ?_
      refine gm_get60 rfl dX10_commas_6 (by (try simp only [uF_s, uF_n, ne_eq, not_false_eq_true, Nat.reduceEqDiff, reduceCtorEq]); rfl) ?_
      refine gi_icmp_ge (tgt := 35) dX10_commas_9 (by decide) ⟨by omega, by omega⟩ ⟨by omega, by omega⟩ (fun c_9 => ?_) (fun c_9 => ?_)
      · refine gg_iload_n dX10_commas_35 rfl ?_
        subst hQF9
        refine gg_iret dX10_commas_36 rfl rfl ⟨(Nat.le_of_ble_eq_true rfl), (Nat.le_of_ble_eq_true rfl)⟩ ?_
        rw [show k = F 16 by omega]
        exact ⟨rfl, rfl⟩
      · obtain ⟨k1, k2, k3, k4, k5⟩ := l2 k (by omega) (by omega)
        refine gg_iload_n dX10_commas_12 rfl ?_
        refine gg_aload_n dX10_commas_13 rfl rfl ?_
        refine gm_get75 rfl dX10_commas_14 ?_
        refine gg_iload_n dX10_commas_17 rfl ?_
        refine gm_zald dX10_commas_18 (by decide) rfl (by decide) ⟨by omega, by simp only [ml9]; omega⟩ (by (try simp only [uA_s, uA_n, ne_eq, not_false_eq_true, Nat.reduceEqDiff, reduceCtorEq]); rfl) ?_
        refine gi_if_eq (tgt := 26) dX10_commas_19 (by decide) ⟨by omega, by omega⟩ (fun c_19 => ?_) (fun c_19 => ?_)
        · refine gi_iconst dX10_commas_26 ?_
          refine gi_iadd dX10_commas_27 ?_
          refine gg_istore_n dX10_commas_28 (Nat.le_of_ble_eq_true rfl) rfl ?_
          refine gi_iinc dX10_commas_29 rfl (Nat.le_of_ble_eq_true rfl) rfl ?_
          refine gg_goto (tgt := 4) dX10_commas_32 (by decide) ?_
          have ek : (k + 1).toNat = k.toNat + 1 := by omega
          exact gg_conv (ih_4 _ (by omega) (k + 1) rfl (by omega)) rfl (by simp only [ek, cmm, Int.toNat_of_nonneg hk.1, if_pos c_19]; rfl) rfl
        · refine gi_iconst dX10_commas_22 ?_
          refine gg_goto (tgt := 27) dX10_commas_23 (by decide) ?_
          refine gi_iadd dX10_commas_27 ?_
          refine gg_istore_n dX10_commas_28 (Nat.le_of_ble_eq_true rfl) rfl ?_
          refine gi_iinc dX10_commas_29 rfl (Nat.le_of_ble_eq_true rfl) rfl ?_
          refine gg_goto (tgt := 4) dX10_commas_32 (by decide) ?_
          have ek : (k + 1).toNat = k.toNat + 1 := by omega
          exact gg_conv (ih_4 _ (by omega) (k + 1) rfl (by omega)) rfl (by simp only [ek, cmm, Int.toNat_of_nonneg hk.1, if_neg c_19]; rfl) rfl
  exact L_4 _ 0 rfl (by omega)
set_option maxRecDepth 100000 in
set_option maxHeartbeats 4000000 in
theorem c_X10_line {Γ : GT} {h : XH} {F : Nat → Int} {A : Nat → Int → Int} (S : StA (A 1)) (N : LnA (A 1)) (E9 : ExA (A 1)) {d l : Int} (hd : InR d) (hl : InR l) {w : Int} (hw : InR w) : Ct Γ M_X10_line [.ref (g_L Γ 0), .int (iN d), .int (iN l), .int (iN w)] (mst Γ h F A) (fun r h9 => (¬ (0 ≤ d ∧ d ≤ 3 ∧ 0 ≤ l ∧ l < A 1 (5 + d)) ∧ r = some (.int (iN 0)) ∧ h9 = mst Γ h (uF F 0 1) A) ∨ ((0 ≤ d ∧ d ≤ 3 ∧ 0 ≤ l ∧ l < A 1 (5 + d)) ∧ ∃ (F1 F2 : Nat → Int) (A1 A2 : Nat → Int → Int), h9 = mst Γ h F2 A2 ∧ frF [0, 16, 24, 25, 27, 28, 29, 30, 34, 35, 36, 37, 38, 39, 40, 41, 42] F F2 ∧ frA [8, 9, 10, 11, 12, 13, 14, 15, 16, 17, 18, 19, 20, 21, 22] A A2 ∧ LD (A 1) d l F1 A1 ∧ ((¬ (0 ≤ w ∧ w ≤ 6) ∧ r = some (.int (iN (0))) ∧ F2 0 = 2) ∨ ((0 ≤ w ∧ w ≤ 6) ∧ r = some (.int (iN (if w = 0 then F1 16 else if w = 1 then ally A1 (F1 16).toNat else if w = 2 then pls F1 A1 else if w = 3 then mst9 F1 A1 else if w = 4 then cmm A1 (F1 16).toNat else if w = 5 then clsF (A 1) d (A 19) (A 1 (5 + d)).toNat l else rhM (A 1) d l))) ∧ F2 0 = 0)))) (fun _ _ => False) := by
  refine Ct.of rfl (by decide +kernel) (Nat.le_of_ble_eq_true rfl) ?_
  generalize hQF9 : QM Γ _ _ _ = QF9
  obtain ⟨t0, t1, t2, t3, t4, t5, t6⟩ := id S
  refine gg_aload_n dX10_line_0 rfl rfl ?_
  refine gi_iconst dX10_line_1 ?_
  refine gm_put3 rfl dX10_line_2 (by (try simp only [uF_ss, uF_cc, id_eq, Nat.reduceLT, reduceCtorEq]); rfl) ?_
  refine gg_aload_n dX10_line_5 rfl rfl ?_
  refine gg_iload_n dX10_line_6 rfl ?_
  refine gg_iload_n dX10_line_7 rfl ?_
  refine gc_X10_234 rfl dX10_line_8 ⟨(Nat.le_of_ble_eq_true rfl), (Nat.le_of_ble_eq_true rfl)⟩ ⟨(Nat.le_of_ble_eq_true rfl), (Nat.le_of_ble_eq_true rfl)⟩ (Nat.le_of_ble_eq_true rfl) (HAt.mu rfl) (c_X10_isLine (by exact S) (by assumption) (by assumption)) (fun _ _ w => w.elim) (fun r_8 h_8 hp => ?_)
  obtain ⟨rfl, rfl⟩ := hp
  refine gi_if_ne (tgt := 20) dX10_line_11 (by decide) (bi_r _) (fun c_11 => ?_) (fun c_11 => ?_)
  · rw [bi_t] at c_11
    simp at c_11
    have hn9 := t5 d (by omega) (by omega)
    refine gg_iload_n dX10_line_20 rfl ?_
    refine gi_iconst dX10_line_21 ?_
    refine gi_icmp_ne (tgt := 30) dX10_line_22 (by decide) ⟨by omega, by omega⟩ ⟨by omega, by omega⟩ (fun c_22 => ?_) (fun c_22 => ?_)
    · refine gg_aload_n dX10_line_30 rfl rfl ?_
      refine gg_iload_n dX10_line_31 rfl ?_
      refine gg_iload_n dX10_line_32 rfl ?_
      refine gc_X10_294 rfl dX10_line_33 ⟨(Nat.le_of_ble_eq_true rfl), (Nat.le_of_ble_eq_true rfl)⟩ ⟨(Nat.le_of_ble_eq_true rfl), (Nat.le_of_ble_eq_true rfl)⟩ (Nat.le_of_ble_eq_true rfl) (HAt.mu rfl) (c2_laysLine (F := uF F 0 0) S N E9 ⟨by omega, by omega⟩ ⟨by omega, by omega⟩) (fun _ _ w => w.elim) (fun r_33 h_33 hp => ?_)
      obtain ⟨F1, A1, rfl, rfl, hF0, hA0, hL⟩ := hp
      have g1 : A1 1 = A 1 := hA0 1 (by decide)
      have hF : frF [16, 24, 25, 39, 40] (uF F 0 0) F1 := frF_m hF0 (by decide)
      have hA : frA [8, 9, 10, 11, 12, 13, 14, 15, 19] A A1 := frA_m hA0 (by decide)
      have hfF := frF_z hF (by decide)
      have hfA := frA_w hA (by decide)
      have e0 : F1 0 = 0 := by rw [hF 0 (by decide), uF_s]
      refine gg_iload_n dX10_line_36 rfl ?_
      by_cases w_37_0 : w = 0
      · refine gi_tab (tgt := 80) dX10_line_37 hw (by omega) (by omega) (by rw [w_37_0]; rfl) (by decide) ?_
        refine gg_aload_n dX10_line_80 rfl rfl ?_
        refine gm_get60 rfl dX10_line_81 (by (try simp only [uF_s, uF_n, ne_eq, not_false_eq_true, Nat.reduceEqDiff, reduceCtorEq]); rfl) ?_
        subst hQF9
        refine gg_iret dX10_line_84 rfl rfl ⟨(Nat.le_of_ble_eq_true rfl), (Nat.le_of_ble_eq_true rfl)⟩ ?_
        refine Or.inr ⟨by omega, F1, F1, A1, A1, rfl, hfF, hfA, hL, Or.inr ⟨by omega, ?_, e0⟩⟩
        rw [if_pos w_37_0]
      by_cases w_37_1 : w = 1
      · refine gi_tab (tgt := 85) dX10_line_37 hw (by omega) (by omega) (by rw [w_37_1]; rfl) (by decide) ?_
        refine gg_aload_n dX10_line_85 rfl rfl ?_
        refine gc_X10_310 rfl dX10_line_86 ⟨(Nat.le_of_ble_eq_true rfl), (Nat.le_of_ble_eq_true rfl)⟩ ⟨(Nat.le_of_ble_eq_true rfl), (Nat.le_of_ble_eq_true rfl)⟩ (Nat.le_of_ble_eq_true rfl) (HAt.mu rfl) (c_X10_allSyllables hL.1) (fun _ _ w => w.elim) (fun r_86 h_86 hp => ?_)
        obtain ⟨rfl, rfl⟩ := hp
        subst hQF9
        refine gg_iret dX10_line_89 rfl rfl ⟨(Nat.le_of_ble_eq_true rfl), (Nat.le_of_ble_eq_true rfl)⟩ ?_
        refine Or.inr ⟨by omega, F1, F1, A1, A1, rfl, hfF, hfA, hL, Or.inr ⟨by omega, ?_, e0⟩⟩
        rw [if_neg w_37_0, if_pos w_37_1]
      by_cases w_37_2 : w = 2
      · refine gi_tab (tgt := 90) dX10_line_37 hw (by omega) (by omega) (by rw [w_37_2]; rfl) (by decide) ?_
        refine gg_aload_n dX10_line_90 rfl rfl ?_
        refine gc_X10_258 rfl dX10_line_91 ⟨(Nat.le_of_ble_eq_true rfl), (Nat.le_of_ble_eq_true rfl)⟩ ⟨(Nat.le_of_ble_eq_true rfl), (Nat.le_of_ble_eq_true rfl)⟩ (Nat.le_of_ble_eq_true rfl) (HAt.mu rfl) (c_X10_places hL.1) (fun _ _ w => w.elim) (fun r_91 h_91 hp => ?_)
        obtain ⟨rfl, rfl⟩ := hp
        subst hQF9
        refine gg_iret dX10_line_94 rfl rfl ⟨(Nat.le_of_ble_eq_true rfl), (Nat.le_of_ble_eq_true rfl)⟩ ?_
        refine Or.inr ⟨by omega, F1, F1, A1, A1, rfl, hfF, hfA, hL, Or.inr ⟨by omega, ?_, e0⟩⟩
        rw [if_neg w_37_0, if_neg w_37_1, if_pos w_37_2]
      by_cases w_37_3 : w = 3
      · refine gi_tab (tgt := 95) dX10_line_37 hw (by omega) (by omega) (by rw [w_37_3]; rfl) (by decide) ?_
        refine gg_aload_n dX10_line_95 rfl rfl ?_
        refine gc_X10_313 rfl dX10_line_96 ⟨(Nat.le_of_ble_eq_true rfl), (Nat.le_of_ble_eq_true rfl)⟩ ⟨(Nat.le_of_ble_eq_true rfl), (Nat.le_of_ble_eq_true rfl)⟩ (Nat.le_of_ble_eq_true rfl) (HAt.mu rfl) (c_X10_mostElisions hL.1) (fun _ _ w => w.elim) (fun r_96 h_96 hp => ?_)
        obtain ⟨rfl, rfl⟩ := hp
        subst hQF9
        refine gg_iret dX10_line_99 rfl rfl ⟨(Nat.le_of_ble_eq_true rfl), (Nat.le_of_ble_eq_true rfl)⟩ ?_
        refine Or.inr ⟨by omega, F1, F1, A1, A1, rfl, hfF, hfA, hL, Or.inr ⟨by omega, ?_, e0⟩⟩
        rw [if_neg w_37_0, if_neg w_37_1, if_neg w_37_2, if_pos w_37_3]
      by_cases w_37_4 : w = 4
      · refine gi_tab (tgt := 100) dX10_line_37 hw (by omega) (by omega) (by rw [w_37_4]; rfl) (by decide) ?_
        refine gg_aload_n dX10_line_100 rfl rfl ?_
        refine gc_X10_333 rfl dX10_line_101 ⟨(Nat.le_of_ble_eq_true rfl), (Nat.le_of_ble_eq_true rfl)⟩ ⟨(Nat.le_of_ble_eq_true rfl), (Nat.le_of_ble_eq_true rfl)⟩ (Nat.le_of_ble_eq_true rfl) (HAt.mu rfl) (c_X10_commas hL.1) (fun _ _ w => w.elim) (fun r_101 h_101 hp => ?_)
        obtain ⟨rfl, rfl⟩ := hp
        subst hQF9
        refine gg_iret dX10_line_104 rfl rfl ⟨(Nat.le_of_ble_eq_true rfl), (Nat.le_of_ble_eq_true rfl)⟩ ?_
        refine Or.inr ⟨by omega, F1, F1, A1, A1, rfl, hfF, hfA, hL, Or.inr ⟨by omega, ?_, e0⟩⟩
        rw [if_neg w_37_0, if_neg w_37_1, if_neg w_37_2, if_neg w_37_3, if_pos w_37_4]
      by_cases w_37_5 : w = 5
      · refine gi_tab (tgt := 105) dX10_line_37 hw (by omega) (by omega) (by rw [w_37_5]; rfl) (by decide) ?_
        exact absurd w_37_5 c_22
      by_cases w_37_6 : w = 6
      · refine gi_tab (tgt := 112) dX10_line_37 hw (by omega) (by omega) (by rw [w_37_6]; rfl) (by decide) ?_
        refine gg_aload_n dX10_line_112 rfl rfl ?_
        refine gg_iload_n dX10_line_113 rfl ?_
        refine gg_iload_n dX10_line_114 rfl ?_
        refine gc_X10_316 rfl dX10_line_115 ⟨(Nat.le_of_ble_eq_true rfl), (Nat.le_of_ble_eq_true rfl)⟩ ⟨(Nat.le_of_ble_eq_true rfl), (Nat.le_of_ble_eq_true rfl)⟩ (Nat.le_of_ble_eq_true rfl) (HAt.mu rfl) (c_X10_laysRhyme (F := F1) (A := A1) (by rw [g1]; exact S) (by rw [g1]; exact N) (by rw [g1]; exact E9) ⟨by omega, by omega⟩ (by rw [g1]; exact ⟨by omega, by omega⟩)) (fun _ _ w => w.elim) (fun r_115 h_115 hp => ?_)
        obtain ⟨F2, A2, rfl, rfl, hF2, hA2, hL2, h39, h40⟩ := hp
        rw [g1] at h40
        refine gg_aload_n dX10_line_118 rfl rfl ?_
        refine gm_get133 rfl dX10_line_119 h40 ?_
        subst hQF9
        refine gg_iret dX10_line_122 rfl rfl ⟨(Nat.le_of_ble_eq_true rfl), (Nat.le_of_ble_eq_true rfl)⟩ ?_
        refine Or.inr ⟨by omega, F1, F2, A1, A2, rfl, fun j hj => by rw [hF2 j (fun q => hj (by revert q; simp; omega)), hfF j hj], fun j hj => by rw [hA2 j (fun q => hj (by revert q; simp; omega)), hfA j hj], hL, Or.inr ⟨by omega, ?_, by rw [hF2 0 (by decide), e0]⟩⟩
        rw [if_neg w_37_0, if_neg w_37_1, if_neg w_37_2, if_neg w_37_3, if_neg w_37_4, if_neg w_37_5]
      refine gi_tabD (tgt := 123) dX10_line_37 hw (by omega) (by decide) ?_
      refine gg_aload_n dX10_line_123 rfl rfl ?_
      refine gi_iconst dX10_line_124 ?_
      refine gc_X10_162 rfl dX10_line_125 ⟨(Nat.le_of_ble_eq_true rfl), (Nat.le_of_ble_eq_true rfl)⟩ ⟨(Nat.le_of_ble_eq_true rfl), (Nat.le_of_ble_eq_true rfl)⟩ (Nat.le_of_ble_eq_true rfl) (HAt.mu rfl) (c_X10_fails) (fun _ _ w => w.elim) (fun r_125 h_125 hp => ?_)
      obtain ⟨rfl, rfl⟩ := hp
      subst hQF9
      refine gg_iret dX10_line_128 rfl rfl ⟨(Nat.le_of_ble_eq_true rfl), (Nat.le_of_ble_eq_true rfl)⟩ ?_
      exact Or.inr ⟨by omega, F1, uF F1 0 2, A1, A1, rfl, frF_u hfF (by decide), hfA, hL, Or.inl ⟨by omega, rfl, uF_s⟩⟩
    · refine gg_aload_n dX10_line_25 rfl rfl ?_
      refine gg_iload_n dX10_line_26 rfl ?_
      refine gc_X10_330 rfl dX10_line_27 ⟨(Nat.le_of_ble_eq_true rfl), (Nat.le_of_ble_eq_true rfl)⟩ ⟨(Nat.le_of_ble_eq_true rfl), (Nat.le_of_ble_eq_true rfl)⟩ (Nat.le_of_ble_eq_true rfl) (HAt.mu rfl) (c_X10_laysClasses (F := uF F 0 0) S N E9 ⟨by omega, by omega⟩) (fun _ _ w => w.elim) (fun r_27 h_27 hp => ?_)
      obtain ⟨F5, A5, rfl, rfl, hF5, hA5, j19⟩ := hp
      have g5 : A5 1 = A 1 := hA5 1 (by decide)
      refine gg_aload_n dX10_line_30 rfl rfl ?_
      refine gg_iload_n dX10_line_31 rfl ?_
      refine gg_iload_n dX10_line_32 rfl ?_
      refine gc_X10_294 rfl dX10_line_33 ⟨(Nat.le_of_ble_eq_true rfl), (Nat.le_of_ble_eq_true rfl)⟩ ⟨(Nat.le_of_ble_eq_true rfl), (Nat.le_of_ble_eq_true rfl)⟩ (Nat.le_of_ble_eq_true rfl) (HAt.mu rfl) (c2_laysLine (F := F5) (A := A5) (by rw [g5]; exact S) (by rw [g5]; exact N) (by rw [g5]; exact E9) ⟨by omega, by omega⟩ (by rw [g5]; exact ⟨by omega, by omega⟩)) (fun _ _ w => w.elim) (fun r_33 h_33 hp => ?_)
      obtain ⟨F1, A1, rfl, rfl, hF0, hA0, hL⟩ := hp
      rw [g5] at hL
      have g1 : A1 1 = A 1 := by rw [hA0 1 (by decide), g5]
      have hF : frF [16, 24, 25, 39, 40] (uF F 0 0) F1 := fun j hj => by rw [hF0 j (fun q => hj (by revert q; simp; omega)), hF5 j hj]
      have hA : frA [8, 9, 10, 11, 12, 13, 14, 15, 19] A A1 := fun j hj => by rw [hA0 j (fun q => hj (by revert q; simp; omega)), hA5 j hj]
      have h19 : A1 19 = clsF (A 1) d (A 19) (A 1 (5 + d)).toNat := by rw [hA0 19 (by decide), j19]
      have hfF := frF_z hF (by decide)
      have hfA := frA_w hA (by decide)
      have e0 : F1 0 = 0 := by rw [hF 0 (by decide), uF_s]
      refine gg_iload_n dX10_line_36 rfl ?_
      by_cases w_37_0 : w = 0
      · refine gi_tab (tgt := 80) dX10_line_37 hw (by omega) (by omega) (by rw [w_37_0]; rfl) (by decide) ?_
        refine gg_aload_n dX10_line_80 rfl rfl ?_
        refine gm_get60 rfl dX10_line_81 (by (try simp only [uF_s, uF_n, ne_eq, not_false_eq_true, Nat.reduceEqDiff, reduceCtorEq]); rfl) ?_
        subst hQF9
        refine gg_iret dX10_line_84 rfl rfl ⟨(Nat.le_of_ble_eq_true rfl), (Nat.le_of_ble_eq_true rfl)⟩ ?_
        refine Or.inr ⟨by omega, F1, F1, A1, A1, rfl, hfF, hfA, hL, Or.inr ⟨by omega, ?_, e0⟩⟩
        rw [if_pos w_37_0]
      by_cases w_37_1 : w = 1
      · refine gi_tab (tgt := 85) dX10_line_37 hw (by omega) (by omega) (by rw [w_37_1]; rfl) (by decide) ?_
        refine gg_aload_n dX10_line_85 rfl rfl ?_
        refine gc_X10_310 rfl dX10_line_86 ⟨(Nat.le_of_ble_eq_true rfl), (Nat.le_of_ble_eq_true rfl)⟩ ⟨(Nat.le_of_ble_eq_true rfl), (Nat.le_of_ble_eq_true rfl)⟩ (Nat.le_of_ble_eq_true rfl) (HAt.mu rfl) (c_X10_allSyllables hL.1) (fun _ _ w => w.elim) (fun r_86 h_86 hp => ?_)
        obtain ⟨rfl, rfl⟩ := hp
        subst hQF9
        refine gg_iret dX10_line_89 rfl rfl ⟨(Nat.le_of_ble_eq_true rfl), (Nat.le_of_ble_eq_true rfl)⟩ ?_
        refine Or.inr ⟨by omega, F1, F1, A1, A1, rfl, hfF, hfA, hL, Or.inr ⟨by omega, ?_, e0⟩⟩
        rw [if_neg w_37_0, if_pos w_37_1]
      by_cases w_37_2 : w = 2
      · refine gi_tab (tgt := 90) dX10_line_37 hw (by omega) (by omega) (by rw [w_37_2]; rfl) (by decide) ?_
        refine gg_aload_n dX10_line_90 rfl rfl ?_
        refine gc_X10_258 rfl dX10_line_91 ⟨(Nat.le_of_ble_eq_true rfl), (Nat.le_of_ble_eq_true rfl)⟩ ⟨(Nat.le_of_ble_eq_true rfl), (Nat.le_of_ble_eq_true rfl)⟩ (Nat.le_of_ble_eq_true rfl) (HAt.mu rfl) (c_X10_places hL.1) (fun _ _ w => w.elim) (fun r_91 h_91 hp => ?_)
        obtain ⟨rfl, rfl⟩ := hp
        subst hQF9
        refine gg_iret dX10_line_94 rfl rfl ⟨(Nat.le_of_ble_eq_true rfl), (Nat.le_of_ble_eq_true rfl)⟩ ?_
        refine Or.inr ⟨by omega, F1, F1, A1, A1, rfl, hfF, hfA, hL, Or.inr ⟨by omega, ?_, e0⟩⟩
        rw [if_neg w_37_0, if_neg w_37_1, if_pos w_37_2]
      by_cases w_37_3 : w = 3
      · refine gi_tab (tgt := 95) dX10_line_37 hw (by omega) (by omega) (by rw [w_37_3]; rfl) (by decide) ?_
        refine gg_aload_n dX10_line_95 rfl rfl ?_
        refine gc_X10_313 rfl dX10_line_96 ⟨(Nat.le_of_ble_eq_true rfl), (Nat.le_of_ble_eq_true rfl)⟩ ⟨(Nat.le_of_ble_eq_true rfl), (Nat.le_of_ble_eq_true rfl)⟩ (Nat.le_of_ble_eq_true rfl) (HAt.mu rfl) (c_X10_mostElisions hL.1) (fun _ _ w => w.elim) (fun r_96 h_96 hp => ?_)
        obtain ⟨rfl, rfl⟩ := hp
        subst hQF9
        refine gg_iret dX10_line_99 rfl rfl ⟨(Nat.le_of_ble_eq_true rfl), (Nat.le_of_ble_eq_true rfl)⟩ ?_
        refine Or.inr ⟨by omega, F1, F1, A1, A1, rfl, hfF, hfA, hL, Or.inr ⟨by omega, ?_, e0⟩⟩
        rw [if_neg w_37_0, if_neg w_37_1, if_neg w_37_2, if_pos w_37_3]
      by_cases w_37_4 : w = 4
      · refine gi_tab (tgt := 100) dX10_line_37 hw (by omega) (by omega) (by rw [w_37_4]; rfl) (by decide) ?_
        refine gg_aload_n dX10_line_100 rfl rfl ?_
        refine gc_X10_333 rfl dX10_line_101 ⟨(Nat.le_of_ble_eq_true rfl), (Nat.le_of_ble_eq_true rfl)⟩ ⟨(Nat.le_of_ble_eq_true rfl), (Nat.le_of_ble_eq_true rfl)⟩ (Nat.le_of_ble_eq_true rfl) (HAt.mu rfl) (c_X10_commas hL.1) (fun _ _ w => w.elim) (fun r_101 h_101 hp => ?_)
        obtain ⟨rfl, rfl⟩ := hp
        subst hQF9
        refine gg_iret dX10_line_104 rfl rfl ⟨(Nat.le_of_ble_eq_true rfl), (Nat.le_of_ble_eq_true rfl)⟩ ?_
        refine Or.inr ⟨by omega, F1, F1, A1, A1, rfl, hfF, hfA, hL, Or.inr ⟨by omega, ?_, e0⟩⟩
        rw [if_neg w_37_0, if_neg w_37_1, if_neg w_37_2, if_neg w_37_3, if_pos w_37_4]
      by_cases w_37_5 : w = 5
      · refine gi_tab (tgt := 105) dX10_line_37 hw (by omega) (by omega) (by rw [w_37_5]; rfl) (by decide) ?_
        refine gg_aload_n dX10_line_105 rfl rfl ?_
        refine gm_get142 rfl dX10_line_106 ?_
        refine gg_iload_n dX10_line_109 rfl ?_
        refine gm_iald dX10_line_110 (by decide) rfl (by decide) ⟨by omega, by simp only [ml9]; omega⟩ (by (try simp only [uA_s, uA_n, ne_eq, not_false_eq_true, Nat.reduceEqDiff, reduceCtorEq]); rfl) ?_
        subst hQF9
        refine gg_iret dX10_line_111 rfl rfl ⟨(Nat.le_of_ble_eq_true rfl), (Nat.le_of_ble_eq_true rfl)⟩ ?_
        refine Or.inr ⟨by omega, F1, F1, A1, A1, rfl, hfF, hfA, hL, Or.inr ⟨by omega, ?_, e0⟩⟩
        rw [if_neg w_37_0, if_neg w_37_1, if_neg w_37_2, if_neg w_37_3, if_neg w_37_4, if_pos w_37_5, h19]
      by_cases w_37_6 : w = 6
      · refine gi_tab (tgt := 112) dX10_line_37 hw (by omega) (by omega) (by rw [w_37_6]; rfl) (by decide) ?_
        refine gg_aload_n dX10_line_112 rfl rfl ?_
        refine gg_iload_n dX10_line_113 rfl ?_
        refine gg_iload_n dX10_line_114 rfl ?_
        refine gc_X10_316 rfl dX10_line_115 ⟨(Nat.le_of_ble_eq_true rfl), (Nat.le_of_ble_eq_true rfl)⟩ ⟨(Nat.le_of_ble_eq_true rfl), (Nat.le_of_ble_eq_true rfl)⟩ (Nat.le_of_ble_eq_true rfl) (HAt.mu rfl) (c_X10_laysRhyme (F := F1) (A := A1) (by rw [g1]; exact S) (by rw [g1]; exact N) (by rw [g1]; exact E9) ⟨by omega, by omega⟩ (by rw [g1]; exact ⟨by omega, by omega⟩)) (fun _ _ w => w.elim) (fun r_115 h_115 hp => ?_)
        obtain ⟨F2, A2, rfl, rfl, hF2, hA2, hL2, h39, h40⟩ := hp
        rw [g1] at h40
        refine gg_aload_n dX10_line_118 rfl rfl ?_
        refine gm_get133 rfl dX10_line_119 h40 ?_
        subst hQF9
        refine gg_iret dX10_line_122 rfl rfl ⟨(Nat.le_of_ble_eq_true rfl), (Nat.le_of_ble_eq_true rfl)⟩ ?_
        refine Or.inr ⟨by omega, F1, F2, A1, A2, rfl, fun j hj => by rw [hF2 j (fun q => hj (by revert q; simp; omega)), hfF j hj], fun j hj => by rw [hA2 j (fun q => hj (by revert q; simp; omega)), hfA j hj], hL, Or.inr ⟨by omega, ?_, by rw [hF2 0 (by decide), e0]⟩⟩
        rw [if_neg w_37_0, if_neg w_37_1, if_neg w_37_2, if_neg w_37_3, if_neg w_37_4, if_neg w_37_5]
      refine gi_tabD (tgt := 123) dX10_line_37 hw (by omega) (by decide) ?_
      refine gg_aload_n dX10_line_123 rfl rfl ?_
      refine gi_iconst dX10_line_124 ?_
      refine gc_X10_162 rfl dX10_line_125 ⟨(Nat.le_of_ble_eq_true rfl), (Nat.le_of_ble_eq_true rfl)⟩ ⟨(Nat.le_of_ble_eq_true rfl), (Nat.le_of_ble_eq_true rfl)⟩ (Nat.le_of_ble_eq_true rfl) (HAt.mu rfl) (c_X10_fails) (fun _ _ w => w.elim) (fun r_125 h_125 hp => ?_)
      obtain ⟨rfl, rfl⟩ := hp
      subst hQF9
      refine gg_iret dX10_line_128 rfl rfl ⟨(Nat.le_of_ble_eq_true rfl), (Nat.le_of_ble_eq_true rfl)⟩ ?_
      exact Or.inr ⟨by omega, F1, uF F1 0 2, A1, A1, rfl, frF_u hfF (by decide), hfA, hL, Or.inl ⟨by omega, rfl, uF_s⟩⟩
  · rw [bi_f] at c_11
    simp at c_11
    refine gg_aload_n dX10_line_14 rfl rfl ?_
    refine gi_iconst dX10_line_15 ?_
    refine gc_X10_162 rfl dX10_line_16 ⟨(Nat.le_of_ble_eq_true rfl), (Nat.le_of_ble_eq_true rfl)⟩ ⟨(Nat.le_of_ble_eq_true rfl), (Nat.le_of_ble_eq_true rfl)⟩ (Nat.le_of_ble_eq_true rfl) (HAt.mu rfl) (c_X10_fails) (fun _ _ w => w.elim) (fun r_16 h_16 hp => ?_)
    obtain ⟨rfl, rfl⟩ := hp
    subst hQF9
    refine gg_iret dX10_line_19 rfl rfl ⟨(Nat.le_of_ble_eq_true rfl), (Nat.le_of_ble_eq_true rfl)⟩ ?_
    exact Or.inl ⟨by omega, rfl, by rw [uF_ss]⟩
