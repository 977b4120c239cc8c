/-! the reference: a line laid out as words -/
def frF (l9 : List Nat) (F F' : Nat → Int) : Prop := ∀ j, j ∉ l9 → F' j = F j
def frA (l9 : List Nat) (A A' : Nat → Int → Int) : Prop := ∀ j, j ∉ l9 → A' j = A j
def wSy (a : Int → Int) (q len : Int) : Int := if exO a a q len < 0 then wC (fun k => a (q + k)) len else a (9 + 20 * exO a a q len + 1 + 12)
/-- what the reference holds of its word number w, which stands at q of now -/
def WDq (a : Int → Int) (A1 : Nat → Int → Int) (w q len : Int) (c : Bool) : Prop :=
  (1 ≤ wSy a q len ∧ wSy a q len ≤ 12) ∧ A1 8 w = q ∧ A1 9 w = len ∧ A1 12 w = bi c ∧ A1 14 w = bi (vow (a q)) ∧ A1 13 w = bi (wE (fun k => a (q + k)) len) ∧ A1 10 w = wSy a q len ∧ ∀ k, 0 ≤ k → k < wSy a q len → A1 11 (12 * w + k) = mrk a (exO a a q len) (wSy a q len) k
theorem parseL_ok {f : Int → Int} {n p : Int} {m : Nat} (h : (parseL f n (m + 1) p).1 = true) : wlen f n 12 p ≠ 0 ∧ ¬ (p + wlen f n 12 p < n ∧ isLet (f (p + wlen f n 12 p)) = true) ∧
    ((n ≤ p + wlen f n 12 p + bi (decide (p + wlen f n 12 p < n) && decide (f (p + wlen f n 12 p) = 44)) ∧ (parseL f n (m + 1) p).2.2 = [(p, wlen f n 12 p, decide (p + wlen f n 12 p < n) && decide (f (p + wlen f n 12 p) = 44))]) ∨
     (p + wlen f n 12 p + bi (decide (p + wlen f n 12 p < n) && decide (f (p + wlen f n 12 p) = 44)) < n ∧ (parseL f n m (p + wlen f n 12 p + bi (decide (p + wlen f n 12 p < n) && decide (f (p + wlen f n 12 p) = 44)) + 1)).1 = true ∧
       (parseL f n (m + 1) p).2.2 = (p, wlen f n 12 p, decide (p + wlen f n 12 p < n) && decide (f (p + wlen f n 12 p) = 44)) :: (parseL f n m (p + wlen f n 12 p + bi (decide (p + wlen f n 12 p < n) && decide (f (p + wlen f n 12 p) = 44)) + 1)).2.2)) := by
  rw [parseL] at h ⊢
  generalize hw : wlen f n 12 p = w at h ⊢
  generalize hc : (decide (p + w < n) && decide (f (p + w) = 44)) = c at h ⊢
  by_cases z : w = 0
  · rw [if_pos z] at h; cases h
  · rw [if_neg z] at h ⊢
    by_cases z1 : n ≤ p + w + bi c
    · rw [if_pos z1] at h ⊢
      refine ⟨z, fun z2 => ?_, Or.inl ⟨z1, rfl⟩⟩
      cases c with
      | false => simp only [bi, Bool.false_eq_true, if_false] at z1; omega
      | true =>
        simp only [Bool.and_eq_true, decide_eq_true_eq] at hc
        rw [hc.2] at z2
        simp [isLet] at z2
    · rw [if_neg z1] at h ⊢
      by_cases z3 : f (p + w + bi c) = 32
      · rw [if_pos z3] at h ⊢
        refine ⟨z, fun z2 => ?_, Or.inr ⟨by omega, h, rfl⟩⟩
        cases c with
        | false =>
          simp only [bi, Bool.false_eq_true, if_false, Int.add_zero] at z3
          rw [z3] at z2
          simp [isLet] at z2
        | true =>
          simp only [Bool.and_eq_true, decide_eq_true_eq] at hc
          rw [hc.2] at z2
          simp [isLet] at z2
      · rw [if_neg z3] at h; cases h
theorem wlen_let (f : Int → Int) (n : Int) : ∀ (m : Nat) (p i : Int), 0 ≤ i → i < wlen f n m p → p + i < n ∧ isLet (f (p + i)) = true
  | 0, p, i, h0, h1 => by simp [wlen] at h1; omega
  | m + 1, p, i, h0, h1 => by
    unfold wlen at h1
    split at h1
    · rename_i q
      by_cases z : i = 0
      · rw [z, Int.add_zero]; exact q
      · have := wlen_let f n m (p + 1) (i - 1) (by omega) (by omega)
        rw [show p + 1 + (i - 1) = p + i by omega] at this
        exact this
    · omega
theorem frF_u {l9 : List Nat} {F F' : Nat → Int} {k : Nat} {x : Int} (hf : frF l9 F F') (hk : k ∈ l9) : frF l9 F (uF F' k x) := fun j hj => by
  rw [uF_n (fun e : j = k => hj (by rw [e]; exact hk))]
  exact hf j hj
theorem frA_u {l9 : List Nat} {A A' : Nat → Int → Int} {k : Nat} {x : Int → Int} (hf : frA l9 A A') (hk : k ∈ l9) : frA l9 A (uA A' k x) := fun j hj => by
  rw [uA_n (fun e : j = k => hj (by rw [e]; exact hk))]
  exact hf j hj
theorem WDq_fr {a : Int → Int} {A1 A2 : Nat → Int → Int} {i q len : Int} {c : Bool} (hq : WDq a A1 i q len c) (e8 : A2 8 i = A1 8 i) (e9 : A2 9 i = A1 9 i) (e12 : A2 12 i = A1 12 i) (e14 : A2 14 i = A1 14 i) (e13 : A2 13 i = A1 13 i) (e10 : A2 10 i = A1 10 i)
    (e11 : ∀ k, 0 ≤ k → k < wSy a q len → A2 11 (12 * i + k) = A1 11 (12 * i + k)) : WDq a A2 i q len c := by
  obtain ⟨q0, q1, q2, q3, q4, q5, q6, q7⟩ := hq
  exact ⟨q0, by rw [e8, q1], by rw [e9, q2], by rw [e12, q3], by rw [e14, q4], by rw [e13, q5], by rw [e10, q6], fun k h0 h1 => by rw [e11 k h0 h1, q7 k h0 h1]⟩
theorem parseL_lt {f : Int → Int} {n p : Int} : ∀ {m : Nat}, (parseL f n m p).1 = true → p < n
  | 0, hq => by cases hq
  | m + 1, hq => by
    have := (parseL_ok hq).1
    rcases Int.lt_or_le p n with z | z
    · exact z
    · exact absurd (by rw [wlen, if_neg (by omega)]) this
theorem wC_r {f : Int → Int} {n : Int} (hn : 1 ≤ n ∧ n ≤ 12) : 1 ≤ wC f n ∧ wC f n ≤ 12 := by
  have := wN_r f n.toNat
  unfold wC
  split
  · rename_i q
    unfold wS at q
    rw [decide_eq_true_iff] at q
    omega
  · split <;> omega
theorem wSy_r {a : Int → Int} {q len : Int} (S : StA a) (E9 : ExA a) (hn : 1 ≤ len ∧ len ≤ 12) : 1 ≤ wSy a q len ∧ wSy a q len ≤ 12 := by
  unfold wSy
  split
  · exact wC_r hn
  · rename_i z
    rcases exO_r (a := a) (r := a) (fr := q) (n := len) S.2.2.2.2.1.1 with y | y
    · omega
    · have := (E9 _ y.1 y.2).2.1
      omega
set_option maxRecDepth 100000 in
set_option maxHeartbeats 4000000 in
theorem c_X10_laysLine {Γ : GT} {h : XH} {F : Nat → Int} {A : Nat → Int → Int} (S : StA (A 1)) (N : LnA (A 1)) (E9 : ExA (A 1)) {d l : Int} (hd : 0 ≤ d ∧ d ≤ 3) (hl : 0 ≤ l ∧ l < A 1 (5 + d)) : Ct Γ M_X10_laysLine [.ref (g_L Γ 0), .int (iN d), .int (iN l)] (mst Γ h F A) (fun r h9 => ∃ (F1 : Nat → Int) (A1 : Nat → Int → Int), r = none ∧ h9 = mst Γ h F1 A1 ∧ frF [16, 24, 25] F F1 ∧ frA [8, 9, 10, 11, 12, 13, 14, 15] A A1 ∧ F1 16 = ((parseL (fun k => A 1 ((169 + 61 * (10 * d + l)) + 1 + k)) (A 1 (169 + 61 * (10 * d + l))) 12 0).2.2.length : Int) ∧ ∀ (i : Nat) (pv lenv : Int) (cv : Bool), (parseL (fun k => A 1 ((169 + 61 * (10 * d + l)) + 1 + k)) (A 1 (169 + 61 * (10 * d + l))) 12 0).2.2[i]? = some (pv, lenv, cv) → WDq (A 1) A1 i ((169 + 61 * (10 * d + l)) + 1 + pv) lenv cv) (fun _ _ => False) := by
  refine Ct.of rfl (by decide +kernel) (Nat.le_of_ble_eq_true rfl) ?_
  generalize hQF9 : QM Γ _ _ _ = QF9
  obtain ⟨s0, s1, s2, s3, s4, s5, s6⟩ := id S
  have q5 := s5 d (by omega) (by omega)
  obtain ⟨n1, n2, n3⟩ := N d l (by omega) (by omega) (by omega) (by omega)
  refine gg_iload_n dX10_laysLine_0 rfl ?_
  refine gg_iload_n dX10_laysLine_1 rfl ?_
  refine gc_X10_221 rfl dX10_laysLine_2 ⟨(Nat.le_of_ble_eq_true rfl), (Nat.le_of_ble_eq_true rfl)⟩ ⟨(Nat.le_of_ble_eq_true rfl), (Nat.le_of_ble_eq_true rfl)⟩ (Nat.le_of_ble_eq_true rfl) (c_X10_lineAt) (fun _ _ w => w.elim) (fun r_2 h_2 hp => ?_)
  obtain ⟨rfl, rfl⟩ := hp
  refine gg_istore_n dX10_laysLine_5 (Nat.le_of_ble_eq_true rfl) rfl ?_
  refine gg_aload_n dX10_laysLine_6 rfl rfl ?_
  refine gm_get13 rfl dX10_laysLine_7 ?_
  refine gg_iload_n dX10_laysLine_10 rfl ?_
  refine gm_iald dX10_laysLine_11 (by decide) rfl (by decide) ⟨by omega, by simp only [ml9]; omega⟩ (by (try simp only [uA_s, uA_n, ne_eq, not_false_eq_true, Nat.reduceEqDiff, reduceCtorEq]); rfl) ?_
  refine gg_istore dX10_laysLine_12 (Nat.le_of_ble_eq_true rfl) rfl ?_
  refine gg_aload_n dX10_laysLine_14 rfl rfl ?_
  refine gi_iconst dX10_laysLine_15 ?_
  refine gm_put60 rfl dX10_laysLine_16 (by (try simp only [uF_ss, uF_cc, id_eq, Nat.reduceLT, reduceCtorEq]); rfl) ?_
  refine gi_iconst dX10_laysLine_19 ?_
  refine gg_istore dX10_laysLine_20 (Nat.le_of_ble_eq_true rfl) rfl ?_
  have L_22 : ∀ (n9 : Nat) (F1 : Nat → Int) (A1 : Nat → Int → Int) (wv kv : Int) (L1 : List (Int × Int × Bool)), ((12 - wv).toNat) = n9 → ∀ (hF : frF [16, 24, 25] F F1) (hA : frA [8, 9, 10, 11, 12, 13, 14, 15] A A1) (h16 : F1 16 = wv) (hwv : 0 ≤ wv ∧ wv ≤ 12) (hk : 0 ≤ kv ∧ kv ≤ 61) (hL : (kv < (A 1 (169 + 61 * (10 * d + l))) ∧ (parseL (fun k => A 1 ((169 + 61 * (10 * d + l)) + 1 + k)) (A 1 (169 + 61 * (10 * d + l))) (12 - wv).toNat kv).1 = true ∧ (parseL (fun k => A 1 ((169 + 61 * (10 * d + l)) + 1 + k)) (A 1 (169 + 61 * (10 * d + l))) 12 0).2.2 = L1 ++ (parseL (fun k => A 1 ((169 + 61 * (10 * d + l)) + 1 + k)) (A 1 (169 + 61 * (10 * d + l))) (12 - wv).toNat kv).2.2) ∨ ((A 1 (169 + 61 * (10 * d + l))) ≤ kv ∧ (parseL (fun k => A 1 ((169 + 61 * (10 * d + l)) + 1 + k)) (A 1 (169 + 61 * (10 * d + l))) 12 0).2.2 = L1)) (hlen : (L1.length : Int) = wv) (hD : ∀ (i : Nat) (pv lenv : Int) (cv : Bool), L1[i]? = some (pv, lenv, cv) → WDq (A 1) A1 i ((169 + 61 * (10 * d + l)) + 1 + pv) lenv cv), GG Γ M_X10_laysLine QF9 (0, 0) (mst Γ h F1 A1) 22 [some (.ref (g_L Γ 0)), some (.int (iN d)), some (.int (iN l)), some (.int (iN (169 + 61 * (10 * d + l)))), some (.int (iN (A 1 (169 + 61 * (10 * d + l))))), some (.int (iN kv)), none, none] [] := by
    intro n9
    induction n9 using Nat.strongRecOn with
    | ind n9 ih_22 => 
      intro F1 A1 wv kv L1 hm9 hF hA h16 hwv hk hL hlen hD
      have hA1 : A1 1 = A 1 := hA 1 (by decide)
      refine gg_iload dX10_laysLine_22 rfl ?_
      refine gg_iload dX10_laysLine_24 rfl ?_
      refine gi_icmp_ge (tgt := 191) dX10_laysLine_26 (by decide) ⟨by omega, by omega⟩ ⟨by omega, by omega⟩ (fun c_26 => ?_) (fun c_26 => ?_)
      · subst hQF9
        refine gg_vret dX10_laysLine_191 rfl ⟨(Nat.le_of_ble_eq_true rfl), (Nat.le_of_ble_eq_true rfl)⟩ ?_
        rcases hL with ⟨hL0, -⟩ | ⟨-, hL1⟩
        · exact absurd hL0 (by omega)
        · exact ⟨F1, A1, rfl, rfl, hF, hA, by rw [h16, hL1]; omega, by rw [hL1]; exact hD⟩
      · have hL9 : kv < (A 1 (169 + 61 * (10 * d + l))) ∧ (parseL (fun k => A 1 ((169 + 61 * (10 * d + l)) + 1 + k)) (A 1 (169 + 61 * (10 * d + l))) (12 - wv).toNat kv).1 = true ∧ (parseL (fun k => A 1 ((169 + 61 * (10 * d + l)) + 1 + k)) (A 1 (169 + 61 * (10 * d + l))) 12 0).2.2 = L1 ++ (parseL (fun k => A 1 ((169 + 61 * (10 * d + l)) + 1 + k)) (A 1 (169 + 61 * (10 * d + l))) (12 - wv).toNat kv).2.2 := by
          rcases hL with z | z
          · exact z
          · exact absurd z.1 (by omega)
        obtain ⟨hL0, hL1, hL2⟩ := hL9
        have hw11 : 0 ≤ wv ∧ wv ≤ 11 := by
          rcases Int.lt_or_le wv 12 with z | z
          · omega
          · rw [show (12 - wv).toNat = 0 by omega] at hL1; cases hL1
        have hm1 : (12 - wv).toNat = (12 - (wv + 1)).toNat + 1 := by omega
        rw [hm1] at hL1 hL2
        obtain ⟨k0, k1, k2⟩ := parseL_ok hL1
        have hlr := wlen_r (fun k => A 1 ((169 + 61 * (10 * d + l)) + 1 + k)) (A 1 (169 + 61 * (10 * d + l))) 12 kv
        have hll := wlen_let (fun k => A 1 ((169 + 61 * (10 * d + l)) + 1 + k)) (A 1 (169 + 61 * (10 * d + l))) 12 kv
        obtain ⟨lv9, hlv⟩ : ∃ lv9, lv9 = wlen (fun k => A 1 ((169 + 61 * (10 * d + l)) + 1 + k)) (A 1 (169 + 61 * (10 * d + l))) 12 kv := ⟨_, rfl⟩
        rw [← hlv] at k0 k1 k2 hlr hll
        have hlr3 := hlr.2.2 (by omega)
        have L_82 : GG Γ M_X10_laysLine QF9 (0, 0) (mst Γ h F1 (uA A1 8 (up (A1 8) wv ((169 + 61 * (10 * d + l)) + 1 + kv)))) 82 [some (.ref (g_L Γ 0)), some (.int (iN d)), some (.int (iN l)), some (.int (iN (169 + 61 * (10 * d + l)))), some (.int (iN (A 1 (169 + 61 * (10 * d + l))))), some (.int (iN (kv + lv9))), some (.int (iN wv)), some (.int (iN kv))] [] := by
          refine gg_aload_n dX10_laysLine_82 rfl rfl ?_
          refine gm_get66 rfl dX10_laysLine_83 ?_
          refine gg_iload dX10_laysLine_86 rfl ?_
          refine gg_iload dX10_laysLine_88 rfl ?_
          refine gg_iload dX10_laysLine_90 rfl ?_
          refine gi_isub dX10_laysLine_92 ?_
          refine gm_iast dX10_laysLine_93 (by decide) rfl (by decide) ⟨by omega, by simp only [ml9]; omega⟩ (by simp only [uA_s, uA_n, uA_ss, uA_cc, id_eq, ne_eq, not_false_eq_true, Nat.reduceEqDiff, Nat.reduceLT, reduceCtorEq, show kv + lv9 - kv = lv9 by omega]; rfl) ?_
          refine gg_aload_n dX10_laysLine_94 rfl rfl ?_
          refine gm_get75 rfl dX10_laysLine_95 ?_
          refine gg_iload dX10_laysLine_98 rfl ?_
          refine gg_iload dX10_laysLine_100 rfl ?_
          refine gg_iload dX10_laysLine_102 rfl ?_
          refine gi_icmp_ge (tgt := 127) dX10_laysLine_104 (by decide) ⟨by omega, by omega⟩ ⟨by omega, by omega⟩ (fun c_104 => ?_) (fun c_104 => ?_)
          · refine gi_iconst dX10_laysLine_127 ?_
            refine gm_zast dX10_laysLine_128 (by decide) rfl (by decide) ⟨by omega, by simp only [ml9]; omega⟩ (by omega) (by (try simp only [uA_s, uA_n, uA_ss, uA_cc, id_eq, ne_eq, not_false_eq_true, Nat.reduceEqDiff, Nat.reduceLT, reduceCtorEq]); rfl) ?_
            refine gg_iload dX10_laysLine_129 rfl ?_
            refine gg_aload_n dX10_laysLine_131 rfl rfl ?_
            refine gm_get75 rfl dX10_laysLine_132 ?_
            refine gg_iload dX10_laysLine_135 rfl ?_
            refine gm_zald dX10_laysLine_137 (by decide) rfl (by decide) ⟨by omega, by simp only [ml9]; omega⟩ (by simp only [uA_s, uA_n, uA_ss, uA_cc, id_eq, ne_eq, not_false_eq_true, Nat.reduceEqDiff, Nat.reduceLT, reduceCtorEq, up_s]; rfl) ?_
            refine gi_if_eq (tgt := 145) dX10_laysLine_138 (by decide) ⟨by omega, by omega⟩ (fun c_138 => ?_) (fun c_138 => ?_)
            · refine gi_iconst dX10_laysLine_145 ?_
              refine gi_iadd dX10_laysLine_146 ?_
              refine gg_istore dX10_laysLine_147 (Nat.le_of_ble_eq_true rfl) rfl ?_
              refine gg_aload_n dX10_laysLine_149 rfl rfl ?_
              refine gg_dup dX10_laysLine_150 rfl ?_
              refine gm_get60 rfl dX10_laysLine_151 h16 ?_
              refine gi_iconst dX10_laysLine_154 ?_
              refine gi_iadd dX10_laysLine_155 ?_
              refine gm_put60 rfl dX10_laysLine_156 (by (try simp only [uF_ss, uF_cc, id_eq, Nat.reduceLT, reduceCtorEq]); rfl) ?_
              refine gg_aload_n dX10_laysLine_159 rfl rfl ?_
              refine gm_get82 rfl dX10_laysLine_160 ?_
              refine gg_iload dX10_laysLine_163 rfl ?_
              refine gg_aload_n dX10_laysLine_165 rfl rfl ?_
              refine gg_iload dX10_laysLine_166 rfl ?_
              refine gi_iconst dX10_laysLine_168 ?_
              refine gc_X10_243 rfl dX10_laysLine_169 ⟨(Nat.le_of_ble_eq_true rfl), (Nat.le_of_ble_eq_true rfl)⟩ ⟨(Nat.le_of_ble_eq_true rfl), (Nat.le_of_ble_eq_true rfl)⟩ (Nat.le_of_ble_eq_true rfl) (HAt.mu rfl) (c_X10_letter (k := 0) hw11 ⟨by simp only [uA_s, uA_n, uA_ss, uA_cc, id_eq, ne_eq, not_false_eq_true, Nat.reduceEqDiff, Nat.reduceLT, reduceCtorEq, up_s]; omega, by simp only [uA_s, uA_n, uA_ss, uA_cc, id_eq, ne_eq, not_false_eq_true, Nat.reduceEqDiff, Nat.reduceLT, reduceCtorEq, up_s]; omega⟩) (fun _ _ w => w.elim) (fun r_169 h_169 hp => ?_)
              obtain ⟨rfl, rfl⟩ := hp
              simp only [uA_s, uA_n, uA_ss, uA_cc, id_eq, ne_eq, not_false_eq_true, Nat.reduceEqDiff, Nat.reduceLT, reduceCtorEq, up_s, hA1, Int.add_zero]
              refine gc_X10_246 rfl dX10_laysLine_172 ⟨(Nat.le_of_ble_eq_true rfl), (Nat.le_of_ble_eq_true rfl)⟩ ⟨(Nat.le_of_ble_eq_true rfl), (Nat.le_of_ble_eq_true rfl)⟩ (Nat.le_of_ble_eq_true rfl) (c_X10_isVowel (s6 _)) (fun _ _ w => w.elim) (fun r_172 h_172 hp => ?_)
              obtain ⟨rfl, rfl⟩ := hp
              refine gm_zast dX10_laysLine_175 (by decide) rfl (by decide) ⟨by omega, by simp only [ml9]; omega⟩ (bi_01 _) (by (try simp only [uA_s, uA_n, uA_ss, uA_cc, id_eq, ne_eq, not_false_eq_true, Nat.reduceEqDiff, Nat.reduceLT, reduceCtorEq]); rfl) ?_
              have L_176 : ∀ (F2 : Nat → Int) (A2 : Nat → Int → Int) (qv kn : Int) (cv : Bool) (gF : frF [16, 24, 25] F F2) (gA : frA [8, 9, 10, 11, 12, 13, 14, 15] A A2) (g16 : F2 16 = wv + 1) (gq : qv = (169 + 61 * (10 * d + l)) + 1 + kv) (gc : cv = (decide (kv + lv9 < (A 1 (169 + 61 * (10 * d + l)))) && decide (A 1 ((169 + 61 * (10 * d + l)) + 1 + (kv + lv9)) = 44))) (gk : kn = kv + lv9 + bi cv + 1) (g8 : A2 8 wv = qv) (g9 : A2 9 wv = lv9) (g12 : A2 12 wv = bi cv) (g14 : A2 14 wv = bi (vow (A 1 qv))) (gD : ∀ (i : Nat) (pv lenv : Int) (cv : Bool), L1[i]? = some (pv, lenv, cv) → WDq (A 1) A2 i ((169 + 61 * (10 * d + l)) + 1 + pv) lenv cv), GG Γ M_X10_laysLine QF9 (0, 0) (mst Γ h F2 A2) 176 [some (.ref (g_L Γ 0)), some (.int (iN d)), some (.int (iN l)), some (.int (iN (169 + 61 * (10 * d + l)))), some (.int (iN (A 1 (169 + 61 * (10 * d + l))))), some (.int (iN kn)), some (.int (iN wv)), none] [] := by
                intro F2 A2 qv kn cv gF gA g16 gq gc gk g8 g9 g12 g14 gD
                have g1 : A2 1 = A 1 := gA 1 (by decide)
                refine gg_aload_n dX10_laysLine_176 rfl rfl ?_
                refine gg_iload dX10_laysLine_177 rfl ?_
                refine gc_X10_249 rfl dX10_laysLine_179 ⟨(Nat.le_of_ble_eq_true rfl), (Nat.le_of_ble_eq_true rfl)⟩ ⟨(Nat.le_of_ble_eq_true rfl), (Nat.le_of_ble_eq_true rfl)⟩ (Nat.le_of_ble_eq_true rfl) (HAt.mu rfl) (c_X10_laysCores (F := F2) (A := A2) (by rw [g1]; exact S) hw11 (by rw [g9]; omega) (by rw [g8, g9]; omega)) (fun _ _ w => w.elim) (fun r_179 h_179 hp => ?_)
                obtain ⟨rfl, rfl⟩ := hp
                simp only [g1, g8, g9]
                have hwc := wC_r (f := (fun k => A 1 (qv + k))) (n := lv9) ⟨by omega, by omega⟩
                refine gg_aload_n dX10_laysLine_182 rfl rfl ?_
                refine gg_iload dX10_laysLine_183 rfl ?_
                refine gc_X10_252 rfl dX10_laysLine_185 ⟨(Nat.le_of_ble_eq_true rfl), (Nat.le_of_ble_eq_true rfl)⟩ ⟨(Nat.le_of_ble_eq_true rfl), (Nat.le_of_ble_eq_true rfl)⟩ (Nat.le_of_ble_eq_true rfl) (HAt.mu rfl) (c_X10_laysMarks (mv := wSy (A 1) qv lv9) (by simp only [uA_s, uA_n, uA_ss, uA_cc, id_eq, ne_eq, not_false_eq_true, Nat.reduceEqDiff, Nat.reduceLT, reduceCtorEq, g1]; exact S) (by simp only [uA_s, uA_n, uA_ss, uA_cc, id_eq, ne_eq, not_false_eq_true, Nat.reduceEqDiff, Nat.reduceLT, reduceCtorEq, g1]; exact E9) hw11 (by simp only [uA_s, uA_n, uA_ss, uA_cc, id_eq, ne_eq, not_false_eq_true, Nat.reduceEqDiff, Nat.reduceLT, reduceCtorEq, g9]; omega) (by simp only [uA_s, uA_n, uA_ss, uA_cc, id_eq, ne_eq, not_false_eq_true, Nat.reduceEqDiff, Nat.reduceLT, reduceCtorEq, g8, g9]; omega) (by simp only [uF_s, uF_n, uF_ss, uF_cc, id_eq, ne_eq, not_false_eq_true, Nat.reduceEqDiff, Nat.reduceLT, reduceCtorEq]; omega) (by simp only [uA_s, uA_n, uA_ss, uA_cc, id_eq, ne_eq, not_false_eq_true, Nat.reduceEqDiff, Nat.reduceLT, reduceCtorEq, uF_s, uF_n, uF_ss, uF_cc, id_eq, ne_eq, not_false_eq_true, Nat.reduceEqDiff, Nat.reduceLT, reduceCtorEq, g1, g8, g9]; rfl)) (fun _ _ w => w.elim) (fun r_185 h_185 hp => ?_)
                obtain ⟨rfl, rfl⟩ := hp
                simp only [uA_s, uA_n, uA_ss, uA_cc, id_eq, ne_eq, not_false_eq_true, Nat.reduceEqDiff, Nat.reduceLT, reduceCtorEq, g1, g8, g9]
                refine gg_goto (tgt := 22) dX10_laysLine_188 (by decide) ?_
                refine gg_drop 6 ?_
                refine gg_drop 7 ?_
                have hkn : kn ≤ (A 1 (169 + 61 * (10 * d + l))) + 1 := by
                  rcases Bool.eq_false_or_eq_true cv with z | z
                  · rw [z, eq_comm, Bool.and_eq_true, decide_eq_true_iff] at gc
                    have := gc.1
                    rw [gk, z]; simp only [bi, if_true]; omega
                  · rw [gk, z]; simp [bi]; omega
                refine ih_22 _ (by omega) _ _ (wv + 1) kn (L1 ++ [(kv, lv9, cv)]) rfl (frF_u (frF_u gF (by decide)) (by decide)) (frA_u (frA_u (frA_u (frA_u gA (by decide)) (by decide)) (by decide)) (by decide)) (by simp only [uF_s, uF_n, uF_ss, uF_cc, id_eq, ne_eq, not_false_eq_true, Nat.reduceEqDiff, Nat.reduceLT, reduceCtorEq]; exact g16) (by omega) (by have := bi_01 cv; omega) ?_ (by rw [List.length_append]; simp; omega) ?_
                · rw [← gc] at k2
                  rcases k2 with ⟨k3, k4⟩ | ⟨k3, k4, k5⟩
                  · exact Or.inr ⟨by omega, by rw [hL2, k4]⟩
                  · refine Or.inl ⟨by rw [gk]; exact parseL_lt k4, by rw [gk]; exact k4, by rw [hL2, k5, gk]; simp⟩
                · intro i pv lenv cv2 hi2
                  rcases Nat.lt_or_ge i L1.length with hi3 | hi3
                  · rw [List.getElem?_append_left hi3] at hi2
                    have hq9 := (gD i pv lenv cv2 hi2).1
                    refine WDq_fr (gD i pv lenv cv2 hi2) ?_ ?_ ?_ ?_ ?_ ?_ ?_
                    all_goals (try intros)
                    all_goals (try simp only [uA_s, uA_n, uA_ss, uA_cc, id_eq, ne_eq, not_false_eq_true, Nat.reduceEqDiff, Nat.reduceLT, reduceCtorEq])
                    all_goals (first | rfl | exact up_n (by omega) | (unfold wrM; rw [if_neg]; omega))
                  · rw [List.getElem?_append_right hi3] at hi2
                    have hi4 : i - L1.length = 0 := by have := (List.getElem?_eq_some_iff.mp hi2).1; simp at this; omega
                    rw [hi4] at hi2
                    simp only [List.getElem?_cons_zero, Option.some.injEq, Prod.mk.injEq] at hi2
                    obtain ⟨rfl, rfl, rfl⟩ := hi2
                    have hi5 : (i : Int) = wv := by omega
                    rw [hi5, ← gq]
                    refine ⟨wSy_r S E9 ⟨by omega, by omega⟩, by simp only [uA_s, uA_n, uA_ss, uA_cc, id_eq, ne_eq, not_false_eq_true, Nat.reduceEqDiff, Nat.reduceLT, reduceCtorEq]; exact g8, by simp only [uA_s, uA_n, uA_ss, uA_cc, id_eq, ne_eq, not_false_eq_true, Nat.reduceEqDiff, Nat.reduceLT, reduceCtorEq]; exact g9, by simp only [uA_s, uA_n, uA_ss, uA_cc, id_eq, ne_eq, not_false_eq_true, Nat.reduceEqDiff, Nat.reduceLT, reduceCtorEq]; exact g12, by simp only [uA_s, uA_n, uA_ss, uA_cc, id_eq, ne_eq, not_false_eq_true, Nat.reduceEqDiff, Nat.reduceLT, reduceCtorEq]; exact g14, by simp only [uA_s, uA_n, uA_ss, uA_cc, id_eq, ne_eq, not_false_eq_true, Nat.reduceEqDiff, Nat.reduceLT, reduceCtorEq]; exact up_s, by simp only [uA_s, uA_n, uA_ss, uA_cc, id_eq, ne_eq, not_false_eq_true, Nat.reduceEqDiff, Nat.reduceLT, reduceCtorEq]; exact up_s, ?_⟩
                    intro k hk0 hk1
                    simp only [uA_s, uA_n, uA_ss, uA_cc, id_eq, ne_eq, not_false_eq_true, Nat.reduceEqDiff, Nat.reduceLT, reduceCtorEq]
                    unfold wrM
                    rw [if_pos (by omega)]
                    congr 1; omega
              refine gg_drop 7 ?_
              refine L_176 (uF F1 16 (wv + 1)) _ _ (kv + lv9 + 1) false (frF_u hF (by decide)) (frA_u (frA_u (frA_u (frA_u hA (by decide)) (by decide)) (by decide)) (by decide)) (uF_s) rfl (by rw [eq_comm, Bool.and_eq_false_iff, decide_eq_false_iff_not, decide_eq_false_iff_not]; exact Or.inl (by omega)) (by simp [bi]; try omega) (by simp only [uA_s, uA_n, uA_ss, uA_cc, id_eq, ne_eq, not_false_eq_true, Nat.reduceEqDiff, Nat.reduceLT, reduceCtorEq, up_s]) (by simp only [uA_s, uA_n, uA_ss, uA_cc, id_eq, ne_eq, not_false_eq_true, Nat.reduceEqDiff, Nat.reduceLT, reduceCtorEq, up_s]) (by simp only [uA_s, uA_n, uA_ss, uA_cc, id_eq, ne_eq, not_false_eq_true, Nat.reduceEqDiff, Nat.reduceLT, reduceCtorEq, up_s]; rfl) (by simp only [uA_s, uA_n, uA_ss, uA_cc, id_eq, ne_eq, not_false_eq_true, Nat.reduceEqDiff, Nat.reduceLT, reduceCtorEq, up_s]) ?_
              intro i pv lenv cv hi2
              have hi3 := (List.getElem?_eq_some_iff.mp hi2).1
              have hq9 := (hD i pv lenv cv hi2).1
              refine WDq_fr (hD i pv lenv cv hi2) ?_ ?_ ?_ ?_ ?_ ?_ ?_
              all_goals (try intros)
              all_goals (try simp only [uA_s, uA_n, uA_ss, uA_cc, id_eq, ne_eq, not_false_eq_true, Nat.reduceEqDiff, Nat.reduceLT, reduceCtorEq])
              all_goals (first | rfl | exact up_n (by omega))
            · exact absurd rfl c_138
          · refine gg_aload_n dX10_laysLine_107 rfl rfl ?_
            refine gm_get13 rfl dX10_laysLine_108 ?_
            refine gg_iload_n dX10_laysLine_111 rfl ?_
            refine gi_iconst dX10_laysLine_112 ?_
            refine gi_iadd dX10_laysLine_113 ?_
            refine gg_iload dX10_laysLine_114 rfl ?_
            refine gi_iadd dX10_laysLine_116 ?_
            refine gm_iald dX10_laysLine_117 (by decide) rfl (by decide) ⟨by omega, by simp only [ml9]; omega⟩ (by simp only [uA_s, uA_n, uA_ss, uA_cc, id_eq, ne_eq, not_false_eq_true, Nat.reduceEqDiff, Nat.reduceLT, reduceCtorEq, hA1]; rfl) ?_
            refine gi_bipush dX10_laysLine_118 (by decide) ?_
            refine gi_icmp_ne (tgt := 127) dX10_laysLine_120 (by decide) (s6 _) ⟨by omega, by omega⟩ (fun c_120 => ?_) (fun c_120 => ?_)
            · refine gi_iconst dX10_laysLine_127 ?_
              refine gm_zast dX10_laysLine_128 (by decide) rfl (by decide) ⟨by omega, by simp only [ml9]; omega⟩ (by omega) (by (try simp only [uA_s, uA_n, uA_ss, uA_cc, id_eq, ne_eq, not_false_eq_true, Nat.reduceEqDiff, Nat.reduceLT, reduceCtorEq]); rfl) ?_
              refine gg_iload dX10_laysLine_129 rfl ?_
              refine gg_aload_n dX10_laysLine_131 rfl rfl ?_
              refine gm_get75 rfl dX10_laysLine_132 ?_
              refine gg_iload dX10_laysLine_135 rfl ?_
              refine gm_zald dX10_laysLine_137 (by decide) rfl (by decide) ⟨by omega, by simp only [ml9]; omega⟩ (by simp only [uA_s, uA_n, uA_ss, uA_cc, id_eq, ne_eq, not_false_eq_true, Nat.reduceEqDiff, Nat.reduceLT, reduceCtorEq, up_s]; rfl) ?_
              refine gi_if_eq (tgt := 145) dX10_laysLine_138 (by decide) ⟨by omega, by omega⟩ (fun c_138 => ?_) (fun c_138 => ?_)
              · refine gi_iconst dX10_laysLine_145 ?_
                refine gi_iadd dX10_laysLine_146 ?_
                refine gg_istore dX10_laysLine_147 (Nat.le_of_ble_eq_true rfl) rfl ?_
                refine gg_aload_n dX10_laysLine_149 rfl rfl ?_
                refine gg_dup dX10_laysLine_150 rfl ?_
                refine gm_get60 rfl dX10_laysLine_151 h16 ?_
                refine gi_iconst dX10_laysLine_154 ?_
                refine gi_iadd dX10_laysLine_155 ?_
                refine gm_put60 rfl dX10_laysLine_156 (by (try simp only [uF_ss, uF_cc, id_eq, Nat.reduceLT, reduceCtorEq]); rfl) ?_
                refine gg_aload_n dX10_laysLine_159 rfl rfl ?_
                refine gm_get82 rfl dX10_laysLine_160 ?_
                refine gg_iload dX10_laysLine_163 rfl ?_
                refine gg_aload_n dX10_laysLine_165 rfl rfl ?_
                refine gg_iload dX10_laysLine_166 rfl ?_
                refine gi_iconst dX10_laysLine_168 ?_
                refine gc_X10_243 rfl dX10_laysLine_169 ⟨(Nat.le_of_ble_eq_true rfl), (Nat.le_of_ble_eq_true rfl)⟩ ⟨(Nat.le_of_ble_eq_true rfl), (Nat.le_of_ble_eq_true rfl)⟩ (Nat.le_of_ble_eq_true rfl) (HAt.mu rfl) (c_X10_letter (k := 0) hw11 ⟨by simp only [uA_s, uA_n, uA_ss, uA_cc, id_eq, ne_eq, not_false_eq_true, Nat.reduceEqDiff, Nat.reduceLT, reduceCtorEq, up_s]; omega, by simp only [uA_s, uA_n, uA_ss, uA_cc, id_eq, ne_eq, not_false_eq_true, Nat.reduceEqDiff, Nat.reduceLT, reduceCtorEq, up_s]; omega⟩) (fun _ _ w => w.elim) (fun r_169 h_169 hp => ?_)
                obtain ⟨rfl, rfl⟩ := hp
                simp only [uA_s, uA_n, uA_ss, uA_cc, id_eq, ne_eq, not_false_eq_true, Nat.reduceEqDiff, Nat.reduceLT, reduceCtorEq, up_s, hA1, Int.add_zero]
                refine gc_X10_246 rfl dX10_laysLine_172 ⟨(Nat.le_of_ble_eq_true rfl), (Nat.le_of_ble_eq_true rfl)⟩ ⟨(Nat.le_of_ble_eq_true rfl), (Nat.le_of_ble_eq_true rfl)⟩ (Nat.le_of_ble_eq_true rfl) (c_X10_isVowel (s6 _)) (fun _ _ w => w.elim) (fun r_172 h_172 hp => ?_)
                obtain ⟨rfl, rfl⟩ := hp
                refine gm_zast dX10_laysLine_175 (by decide) rfl (by decide) ⟨by omega, by simp only [ml9]; omega⟩ (bi_01 _) (by (try simp only [uA_s, uA_n, uA_ss, uA_cc, id_eq, ne_eq, not_false_eq_true, Nat.reduceEqDiff, Nat.reduceLT, reduceCtorEq]); rfl) ?_
                have L_176 : ∀ (F2 : Nat → Int) (A2 : Nat → Int → Int) (qv kn : Int) (cv : Bool) (gF : frF [16, 24, 25] F F2) (gA : frA [8, 9, 10, 11, 12, 13, 14, 15] A A2) (g16 : F2 16 = wv + 1) (gq : qv = (169 + 61 * (10 * d + l)) + 1 + kv) (gc : cv = (decide (kv + lv9 < (A 1 (169 + 61 * (10 * d + l)))) && decide (A 1 ((169 + 61 * (10 * d + l)) + 1 + (kv + lv9)) = 44))) (gk : kn = kv + lv9 + bi cv + 1) (g8 : A2 8 wv = qv) (g9 : A2 9 wv = lv9) (g12 : A2 12 wv = bi cv) (g14 : A2 14 wv = bi (vow (A 1 qv))) (gD : ∀ (i : Nat) (pv lenv : Int) (cv : Bool), L1[i]? = some (pv, lenv, cv) → WDq (A 1) A2 i ((169 + 61 * (10 * d + l)) + 1 + pv) lenv cv), GG Γ M_X10_laysLine QF9 (0, 0) (mst Γ h F2 A2) 176 [some (.ref (g_L Γ 0)), some (.int (iN d)), some (.int (iN l)), some (.int (iN (169 + 61 * (10 * d + l)))), some (.int (iN (A 1 (169 + 61 * (10 * d + l))))), some (.int (iN kn)), some (.int (iN wv)), none] [] := by
                  intro F2 A2 qv kn cv gF gA g16 gq gc gk g8 g9 g12 g14 gD
                  have g1 : A2 1 = A 1 := gA 1 (by decide)
                  refine gg_aload_n dX10_laysLine_176 rfl rfl ?_
                  refine gg_iload dX10_laysLine_177 rfl ?_
                  refine gc_X10_249 rfl dX10_laysLine_179 ⟨(Nat.le_of_ble_eq_true rfl), (Nat.le_of_ble_eq_true rfl)⟩ ⟨(Nat.le_of_ble_eq_true rfl), (Nat.le_of_ble_eq_true rfl)⟩ (Nat.le_of_ble_eq_true rfl) (HAt.mu rfl) (c_X10_laysCores (F := F2) (A := A2) (by rw [g1]; exact S) hw11 (by rw [g9]; omega) (by rw [g8, g9]; omega)) (fun _ _ w => w.elim) (fun r_179 h_179 hp => ?_)
                  obtain ⟨rfl, rfl⟩ := hp
                  simp only [g1, g8, g9]
                  have hwc := wC_r (f := (fun k => A 1 (qv + k))) (n := lv9) ⟨by omega, by omega⟩
                  refine gg_aload_n dX10_laysLine_182 rfl rfl ?_
                  refine gg_iload dX10_laysLine_183 rfl ?_
                  refine gc_X10_252 rfl dX10_laysLine_185 ⟨(Nat.le_of_ble_eq_true rfl), (Nat.le_of_ble_eq_true rfl)⟩ ⟨(Nat.le_of_ble_eq_true rfl), (Nat.le_of_ble_eq_true rfl)⟩ (Nat.le_of_ble_eq_true rfl) (HAt.mu rfl) (c_X10_laysMarks (mv := wSy (A 1) qv lv9) (by simp only [uA_s, uA_n, uA_ss, uA_cc, id_eq, ne_eq, not_false_eq_true, Nat.reduceEqDiff, Nat.reduceLT, reduceCtorEq, g1]; exact S) (by simp only [uA_s, uA_n, uA_ss, uA_cc, id_eq, ne_eq, not_false_eq_true, Nat.reduceEqDiff, Nat.reduceLT, reduceCtorEq, g1]; exact E9) hw11 (by simp only [uA_s, uA_n, uA_ss, uA_cc, id_eq, ne_eq, not_false_eq_true, Nat.reduceEqDiff, Nat.reduceLT, reduceCtorEq, g9]; omega) (by simp only [uA_s, uA_n, uA_ss, uA_cc, id_eq, ne_eq, not_false_eq_true, Nat.reduceEqDiff, Nat.reduceLT, reduceCtorEq, g8, g9]; omega) (by simp only [uF_s, uF_n, uF_ss, uF_cc, id_eq, ne_eq, not_false_eq_true, Nat.reduceEqDiff, Nat.reduceLT, reduceCtorEq]; omega) (by simp only [uA_s, uA_n, uA_ss, uA_cc, id_eq, ne_eq, not_false_eq_true, Nat.reduceEqDiff, Nat.reduceLT, reduceCtorEq, uF_s, uF_n, uF_ss, uF_cc, id_eq, ne_eq, not_false_eq_true, Nat.reduceEqDiff, Nat.reduceLT, reduceCtorEq, g1, g8, g9]; rfl)) (fun _ _ w => w.elim) (fun r_185 h_185 hp => ?_)
                  obtain ⟨rfl, rfl⟩ := hp
                  simp only [uA_s, uA_n, uA_ss, uA_cc, id_eq, ne_eq, not_false_eq_true, Nat.reduceEqDiff, Nat.reduceLT, reduceCtorEq, g1, g8, g9]
                  refine gg_goto (tgt := 22) dX10_laysLine_188 (by decide) ?_
                  refine gg_drop 6 ?_
                  refine gg_drop 7 ?_
                  have hkn : kn ≤ (A 1 (169 + 61 * (10 * d + l))) + 1 := by
                    rcases Bool.eq_false_or_eq_true cv with z | z
                    · rw [z, eq_comm, Bool.and_eq_true, decide_eq_true_iff] at gc
                      have := gc.1
                      rw [gk, z]; simp only [bi, if_true]; omega
                    · rw [gk, z]; simp [bi]; omega
                  refine ih_22 _ (by omega) _ _ (wv + 1) kn (L1 ++ [(kv, lv9, cv)]) rfl (frF_u (frF_u gF (by decide)) (by decide)) (frA_u (frA_u (frA_u (frA_u gA (by decide)) (by decide)) (by decide)) (by decide)) (by simp only [uF_s, uF_n, uF_ss, uF_cc, id_eq, ne_eq, not_false_eq_true, Nat.reduceEqDiff, Nat.reduceLT, reduceCtorEq]; exact g16) (by omega) (by have := bi_01 cv; omega) ?_ (by rw [List.length_append]; simp; omega) ?_
                  · rw [← gc] at k2
                    rcases k2 with ⟨k3, k4⟩ | ⟨k3, k4, k5⟩
                    · exact Or.inr ⟨by omega, by rw [hL2, k4]⟩
                    · refine Or.inl ⟨by rw [gk]; exact parseL_lt k4, by rw [gk]; exact k4, by rw [hL2, k5, gk]; simp⟩
                  · intro i pv lenv cv2 hi2
                    rcases Nat.lt_or_ge i L1.length with hi3 | hi3
                    · rw [List.getElem?_append_left hi3] at hi2
                      have hq9 := (gD i pv lenv cv2 hi2).1
                      refine WDq_fr (gD i pv lenv cv2 hi2) ?_ ?_ ?_ ?_ ?_ ?_ ?_
                      all_goals (try intros)
                      all_goals (try simp only [uA_s, uA_n, uA_ss, uA_cc, id_eq, ne_eq, not_false_eq_true, Nat.reduceEqDiff, Nat.reduceLT, reduceCtorEq])
                      all_goals (first | rfl | exact up_n (by omega) | (unfold wrM; rw [if_neg]; omega))
                    · rw [List.getElem?_append_right hi3] at hi2
                      have hi4 : i - L1.length = 0 := by have := (List.getElem?_eq_some_iff.mp hi2).1; simp at this; omega
                      rw [hi4] at hi2
                      simp only [List.getElem?_cons_zero, Option.some.injEq, Prod.mk.injEq] at hi2
                      obtain ⟨rfl, rfl, rfl⟩ := hi2
                      have hi5 : (i : Int) = wv := by omega
                      rw [hi5, ← gq]
                      refine ⟨wSy_r S E9 ⟨by omega, by omega⟩, by simp only [uA_s, uA_n, uA_ss, uA_cc, id_eq, ne_eq, not_false_eq_true, Nat.reduceEqDiff, Nat.reduceLT, reduceCtorEq]; exact g8, by simp only [uA_s, uA_n, uA_ss, uA_cc, id_eq, ne_eq, not_false_eq_true, Nat.reduceEqDiff, Nat.reduceLT, reduceCtorEq]; exact g9, by simp only [uA_s, uA_n, uA_ss, uA_cc, id_eq, ne_eq, not_false_eq_true, Nat.reduceEqDiff, Nat.reduceLT, reduceCtorEq]; exact g12, by simp only [uA_s, uA_n, uA_ss, uA_cc, id_eq, ne_eq, not_false_eq_true, Nat.reduceEqDiff, Nat.reduceLT, reduceCtorEq]; exact g14, by simp only [uA_s, uA_n, uA_ss, uA_cc, id_eq, ne_eq, not_false_eq_true, Nat.reduceEqDiff, Nat.reduceLT, reduceCtorEq]; exact up_s, by simp only [uA_s, uA_n, uA_ss, uA_cc, id_eq, ne_eq, not_false_eq_true, Nat.reduceEqDiff, Nat.reduceLT, reduceCtorEq]; exact up_s, ?_⟩
                      intro k hk0 hk1
                      simp only [uA_s, uA_n, uA_ss, uA_cc, id_eq, ne_eq, not_false_eq_true, Nat.reduceEqDiff, Nat.reduceLT, reduceCtorEq]
                      unfold wrM
                      rw [if_pos (by omega)]
                      congr 1; omega
                refine gg_drop 7 ?_
                refine L_176 (uF F1 16 (wv + 1)) _ _ (kv + lv9 + 1) false (frF_u hF (by decide)) (frA_u (frA_u (frA_u (frA_u hA (by decide)) (by decide)) (by decide)) (by decide)) (uF_s) rfl (by rw [eq_comm, Bool.and_eq_false_iff, decide_eq_false_iff_not, decide_eq_false_iff_not]; exact Or.inr c_120) (by simp [bi]; try omega) (by simp only [uA_s, uA_n, uA_ss, uA_cc, id_eq, ne_eq, not_false_eq_true, Nat.reduceEqDiff, Nat.reduceLT, reduceCtorEq, up_s]) (by simp only [uA_s, uA_n, uA_ss, uA_cc, id_eq, ne_eq, not_false_eq_true, Nat.reduceEqDiff, Nat.reduceLT, reduceCtorEq, up_s]) (by simp only [uA_s, uA_n, uA_ss, uA_cc, id_eq, ne_eq, not_false_eq_true, Nat.reduceEqDiff, Nat.reduceLT, reduceCtorEq, up_s]; rfl) (by simp only [uA_s, uA_n, uA_ss, uA_cc, id_eq, ne_eq, not_false_eq_true, Nat.reduceEqDiff, Nat.reduceLT, reduceCtorEq, up_s]) ?_
                intro i pv lenv cv hi2
                have hi3 := (List.getElem?_eq_some_iff.mp hi2).1
                have hq9 := (hD i pv lenv cv hi2).1
                refine WDq_fr (hD i pv lenv cv hi2) ?_ ?_ ?_ ?_ ?_ ?_ ?_
                all_goals (try intros)
                all_goals (try simp only [uA_s, uA_n, uA_ss, uA_cc, id_eq, ne_eq, not_false_eq_true, Nat.reduceEqDiff, Nat.reduceLT, reduceCtorEq])
                all_goals (first | rfl | exact up_n (by omega))
              · exact absurd rfl c_138
            · refine gi_iconst dX10_laysLine_123 ?_
              refine gg_goto (tgt := 128) dX10_laysLine_124 (by decide) ?_
              refine gm_zast dX10_laysLine_128 (by decide) rfl (by decide) ⟨by omega, by simp only [ml9]; omega⟩ (by omega) (by (try simp only [uA_s, uA_n, uA_ss, uA_cc, id_eq, ne_eq, not_false_eq_true, Nat.reduceEqDiff, Nat.reduceLT, reduceCtorEq]); rfl) ?_
              refine gg_iload dX10_laysLine_129 rfl ?_
              refine gg_aload_n dX10_laysLine_131 rfl rfl ?_
              refine gm_get75 rfl dX10_laysLine_132 ?_
              refine gg_iload dX10_laysLine_135 rfl ?_
              refine gm_zald dX10_laysLine_137 (by decide) rfl (by decide) ⟨by omega, by simp only [ml9]; omega⟩ (by simp only [uA_s, uA_n, uA_ss, uA_cc, id_eq, ne_eq, not_false_eq_true, Nat.reduceEqDiff, Nat.reduceLT, reduceCtorEq, up_s]; rfl) ?_
              refine gi_if_eq (tgt := 145) dX10_laysLine_138 (by decide) ⟨by omega, by omega⟩ (fun c_138 => ?_) (fun c_138 => ?_)
              · exact absurd c_138 (by decide)
              · refine gi_iconst dX10_laysLine_141 ?_
                refine gg_goto (tgt := 146) dX10_laysLine_142 (by decide) ?_
                refine gi_iadd dX10_laysLine_146 ?_
                refine gg_istore dX10_laysLine_147 (Nat.le_of_ble_eq_true rfl) rfl ?_
                refine gg_aload_n dX10_laysLine_149 rfl rfl ?_
                refine gg_dup dX10_laysLine_150 rfl ?_
                refine gm_get60 rfl dX10_laysLine_151 h16 ?_
                refine gi_iconst dX10_laysLine_154 ?_
                refine gi_iadd dX10_laysLine_155 ?_
                refine gm_put60 rfl dX10_laysLine_156 (by (try simp only [uF_ss, uF_cc, id_eq, Nat.reduceLT, reduceCtorEq]); rfl) ?_
                refine gg_aload_n dX10_laysLine_159 rfl rfl ?_
                refine gm_get82 rfl dX10_laysLine_160 ?_
                refine gg_iload dX10_laysLine_163 rfl ?_
                refine gg_aload_n dX10_laysLine_165 rfl rfl ?_
                refine gg_iload dX10_laysLine_166 rfl ?_
                refine gi_iconst dX10_laysLine_168 ?_
                refine gc_X10_243 rfl dX10_laysLine_169 ⟨(Nat.le_of_ble_eq_true rfl), (Nat.le_of_ble_eq_true rfl)⟩ ⟨(Nat.le_of_ble_eq_true rfl), (Nat.le_of_ble_eq_true rfl)⟩ (Nat.le_of_ble_eq_true rfl) (HAt.mu rfl) (c_X10_letter (k := 0) hw11 ⟨by simp only [uA_s, uA_n, uA_ss, uA_cc, id_eq, ne_eq, not_false_eq_true, Nat.reduceEqDiff, Nat.reduceLT, reduceCtorEq, up_s]; omega, by simp only [uA_s, uA_n, uA_ss, uA_cc, id_eq, ne_eq, not_false_eq_true, Nat.reduceEqDiff, Nat.reduceLT, reduceCtorEq, up_s]; omega⟩) (fun _ _ w => w.elim) (fun r_169 h_169 hp => ?_)
                obtain ⟨rfl, rfl⟩ := hp
                simp only [uA_s, uA_n, uA_ss, uA_cc, id_eq, ne_eq, not_false_eq_true, Nat.reduceEqDiff, Nat.reduceLT, reduceCtorEq, up_s, hA1, Int.add_zero]
                refine gc_X10_246 rfl dX10_laysLine_172 ⟨(Nat.le_of_ble_eq_true rfl), (Nat.le_of_ble_eq_true rfl)⟩ ⟨(Nat.le_of_ble_eq_true rfl), (Nat.le_of_ble_eq_true rfl)⟩ (Nat.le_of_ble_eq_true rfl) (c_X10_isVowel (s6 _)) (fun _ _ w => w.elim) (fun r_172 h_172 hp => ?_)
                obtain ⟨rfl, rfl⟩ := hp
                refine gm_zast dX10_laysLine_175 (by decide) rfl (by decide) ⟨by omega, by simp only [ml9]; omega⟩ (bi_01 _) (by (try simp only [uA_s, uA_n, uA_ss, uA_cc, id_eq, ne_eq, not_false_eq_true, Nat.reduceEqDiff, Nat.reduceLT, reduceCtorEq]); rfl) ?_
                have L_176 : ∀ (F2 : Nat → Int) (A2 : Nat → Int → Int) (qv kn : Int) (cv : Bool) (gF : frF [16, 24, 25] F F2) (gA : frA [8, 9, 10, 11, 12, 13, 14, 15] A A2) (g16 : F2 16 = wv + 1) (gq : qv = (169 + 61 * (10 * d + l)) + 1 + kv) (gc : cv = (decide (kv + lv9 < (A 1 (169 + 61 * (10 * d + l)))) && decide (A 1 ((169 + 61 * (10 * d + l)) + 1 + (kv + lv9)) = 44))) (gk : kn = kv + lv9 + bi cv + 1) (g8 : A2 8 wv = qv) (g9 : A2 9 wv = lv9) (g12 : A2 12 wv = bi cv) (g14 : A2 14 wv = bi (vow (A 1 qv))) (gD : ∀ (i : Nat) (pv lenv : Int) (cv : Bool), L1[i]? = some (pv, lenv, cv) → WDq (A 1) A2 i ((169 + 61 * (10 * d + l)) + 1 + pv) lenv cv), GG Γ M_X10_laysLine QF9 (0, 0) (mst Γ h F2 A2) 176 [some (.ref (g_L Γ 0)), some (.int (iN d)), some (.int (iN l)), some (.int (iN (169 + 61 * (10 * d + l)))), some (.int (iN (A 1 (169 + 61 * (10 * d + l))))), some (.int (iN kn)), some (.int (iN wv)), none] [] := by
                  intro F2 A2 qv kn cv gF gA g16 gq gc gk g8 g9 g12 g14 gD
                  have g1 : A2 1 = A 1 := gA 1 (by decide)
                  refine gg_aload_n dX10_laysLine_176 rfl rfl ?_
                  refine gg_iload dX10_laysLine_177 rfl ?_
                  refine gc_X10_249 rfl dX10_laysLine_179 ⟨(Nat.le_of_ble_eq_true rfl), (Nat.le_of_ble_eq_true rfl)⟩ ⟨(Nat.le_of_ble_eq_true rfl), (Nat.le_of_ble_eq_true rfl)⟩ (Nat.le_of_ble_eq_true rfl) (HAt.mu rfl) (c_X10_laysCores (F := F2) (A := A2) (by rw [g1]; exact S) hw11 (by rw [g9]; omega) (by rw [g8, g9]; omega)) (fun _ _ w => w.elim) (fun r_179 h_179 hp => ?_)
                  obtain ⟨rfl, rfl⟩ := hp
                  simp only [g1, g8, g9]
                  have hwc := wC_r (f := (fun k => A 1 (qv + k))) (n := lv9) ⟨by omega, by omega⟩
                  refine gg_aload_n dX10_laysLine_182 rfl rfl ?_
                  refine gg_iload dX10_laysLine_183 rfl ?_
                  refine gc_X10_252 rfl dX10_laysLine_185 ⟨(Nat.le_of_ble_eq_true rfl), (Nat.le_of_ble_eq_true rfl)⟩ ⟨(Nat.le_of_ble_eq_true rfl), (Nat.le_of_ble_eq_true rfl)⟩ (Nat.le_of_ble_eq_true rfl) (HAt.mu rfl) (c_X10_laysMarks (mv := wSy (A 1) qv lv9) (by simp only [uA_s, uA_n, uA_ss, uA_cc, id_eq, ne_eq, not_false_eq_true, Nat.reduceEqDiff, Nat.reduceLT, reduceCtorEq, g1]; exact S) (by simp only [uA_s, uA_n, uA_ss, uA_cc, id_eq, ne_eq, not_false_eq_true, Nat.reduceEqDiff, Nat.reduceLT, reduceCtorEq, g1]; exact E9) hw11 (by simp only [uA_s, uA_n, uA_ss, uA_cc, id_eq, ne_eq, not_false_eq_true, Nat.reduceEqDiff, Nat.reduceLT, reduceCtorEq, g9]; omega) (by simp only [uA_s, uA_n, uA_ss, uA_cc, id_eq, ne_eq, not_false_eq_true, Nat.reduceEqDiff, Nat.reduceLT, reduceCtorEq, g8, g9]; omega) (by simp only [uF_s, uF_n, uF_ss, uF_cc, id_eq, ne_eq, not_false_eq_true, Nat.reduceEqDiff, Nat.reduceLT, reduceCtorEq]; omega) (by simp only [uA_s, uA_n, uA_ss, uA_cc, id_eq, ne_eq, not_false_eq_true, Nat.reduceEqDiff, Nat.reduceLT, reduceCtorEq, uF_s, uF_n, uF_ss, uF_cc, id_eq, ne_eq, not_false_eq_true, Nat.reduceEqDiff, Nat.reduceLT, reduceCtorEq, g1, g8, g9]; rfl)) (fun _ _ w => w.elim) (fun r_185 h_185 hp => ?_)
                  obtain ⟨rfl, rfl⟩ := hp
                  simp only [uA_s, uA_n, uA_ss, uA_cc, id_eq, ne_eq, not_false_eq_true, Nat.reduceEqDiff, Nat.reduceLT, reduceCtorEq, g1, g8, g9]
                  refine gg_goto (tgt := 22) dX10_laysLine_188 (by decide) ?_
                  refine gg_drop 6 ?_
                  refine gg_drop 7 ?_
                  have hkn : kn ≤ (A 1 (169 + 61 * (10 * d + l))) + 1 := by
                    rcases Bool.eq_false_or_eq_true cv with z | z
                    · rw [z, eq_comm, Bool.and_eq_true, decide_eq_true_iff] at gc
                      have := gc.1
                      rw [gk, z]; simp only [bi, if_true]; omega
                    · rw [gk, z]; simp [bi]; omega
                  refine ih_22 _ (by omega) _ _ (wv + 1) kn (L1 ++ [(kv, lv9, cv)]) rfl (frF_u (frF_u gF (by decide)) (by decide)) (frA_u (frA_u (frA_u (frA_u gA (by decide)) (by decide)) (by decide)) (by decide)) (by simp only [uF_s, uF_n, uF_ss, uF_cc, id_eq, ne_eq, not_false_eq_true, Nat.reduceEqDiff, Nat.reduceLT, reduceCtorEq]; exact g16) (by omega) (by have := bi_01 cv; omega) ?_ (by rw [List.length_append]; simp; omega) ?_
                  · rw [← gc] at k2
                    rcases k2 with ⟨k3, k4⟩ | ⟨k3, k4, k5⟩
                    · exact Or.inr ⟨by omega, by rw [hL2, k4]⟩
                    · refine Or.inl ⟨by rw [gk]; exact parseL_lt k4, by rw [gk]; exact k4, by rw [hL2, k5, gk]; simp⟩
                  · intro i pv lenv cv2 hi2
                    rcases Nat.lt_or_ge i L1.length with hi3 | hi3
                    · rw [List.getElem?_append_left hi3] at hi2
                      have hq9 := (gD i pv lenv cv2 hi2).1
                      refine WDq_fr (gD i pv lenv cv2 hi2) ?_ ?_ ?_ ?_ ?_ ?_ ?_
                      all_goals (try intros)
                      all_goals (try simp only [uA_s, uA_n, uA_ss, uA_cc, id_eq, ne_eq, not_false_eq_true, Nat.reduceEqDiff, Nat.reduceLT, reduceCtorEq])
                      all_goals (first | rfl | exact up_n (by omega) | (unfold wrM; rw [if_neg]; omega))
                    · rw [List.getElem?_append_right hi3] at hi2
                      have hi4 : i - L1.length = 0 := by have := (List.getElem?_eq_some_iff.mp hi2).1; simp at this; omega
                      rw [hi4] at hi2
                      simp only [List.getElem?_cons_zero, Option.some.injEq, Prod.mk.injEq] at hi2
                      obtain ⟨rfl, rfl, rfl⟩ := hi2
                      have hi5 : (i : Int) = wv := by omega
                      rw [hi5, ← gq]
                      refine ⟨wSy_r S E9 ⟨by omega, by omega⟩, by simp only [uA_s, uA_n, uA_ss, uA_cc, id_eq, ne_eq, not_false_eq_true, Nat.reduceEqDiff, Nat.reduceLT, reduceCtorEq]; exact g8, by simp only [uA_s, uA_n, uA_ss, uA_cc, id_eq, ne_eq, not_false_eq_true, Nat.reduceEqDiff, Nat.reduceLT, reduceCtorEq]; exact g9, by simp only [uA_s, uA_n, uA_ss, uA_cc, id_eq, ne_eq, not_false_eq_true, Nat.reduceEqDiff, Nat.reduceLT, reduceCtorEq]; exact g12, by simp only [uA_s, uA_n, uA_ss, uA_cc, id_eq, ne_eq, not_false_eq_true, Nat.reduceEqDiff, Nat.reduceLT, reduceCtorEq]; exact g14, by simp only [uA_s, uA_n, uA_ss, uA_cc, id_eq, ne_eq, not_false_eq_true, Nat.reduceEqDiff, Nat.reduceLT, reduceCtorEq]; exact up_s, by simp only [uA_s, uA_n, uA_ss, uA_cc, id_eq, ne_eq, not_false_eq_true, Nat.reduceEqDiff, Nat.reduceLT, reduceCtorEq]; exact up_s, ?_⟩
                      intro k hk0 hk1
                      simp only [uA_s, uA_n, uA_ss, uA_cc, id_eq, ne_eq, not_false_eq_true, Nat.reduceEqDiff, Nat.reduceLT, reduceCtorEq]
                      unfold wrM
                      rw [if_pos (by omega)]
                      congr 1; omega
                refine gg_drop 7 ?_
                refine L_176 (uF F1 16 (wv + 1)) _ _ (kv + lv9 + 2) true (frF_u hF (by decide)) (frA_u (frA_u (frA_u (frA_u hA (by decide)) (by decide)) (by decide)) (by decide)) (uF_s) rfl (by rw [eq_comm, Bool.and_eq_true, decide_eq_true_iff, decide_eq_true_iff]; exact ⟨c_104, c_120⟩) (by simp [bi]; try omega) (by simp only [uA_s, uA_n, uA_ss, uA_cc, id_eq, ne_eq, not_false_eq_true, Nat.reduceEqDiff, Nat.reduceLT, reduceCtorEq, up_s]) (by simp only [uA_s, uA_n, uA_ss, uA_cc, id_eq, ne_eq, not_false_eq_true, Nat.reduceEqDiff, Nat.reduceLT, reduceCtorEq, up_s]) (by simp only [uA_s, uA_n, uA_ss, uA_cc, id_eq, ne_eq, not_false_eq_true, Nat.reduceEqDiff, Nat.reduceLT, reduceCtorEq, up_s]; rfl) (by simp only [uA_s, uA_n, uA_ss, uA_cc, id_eq, ne_eq, not_false_eq_true, Nat.reduceEqDiff, Nat.reduceLT, reduceCtorEq, up_s]) ?_
                intro i pv lenv cv hi2
                have hi3 := (List.getElem?_eq_some_iff.mp hi2).1
                have hq9 := (hD i pv lenv cv hi2).1
                refine WDq_fr (hD i pv lenv cv hi2) ?_ ?_ ?_ ?_ ?_ ?_ ?_
                all_goals (try intros)
                all_goals (try simp only [uA_s, uA_n, uA_ss, uA_cc, id_eq, ne_eq, not_false_eq_true, Nat.reduceEqDiff, Nat.reduceLT, reduceCtorEq])
                all_goals (first | rfl | exact up_n (by omega))
        have L_176 : ∀ (F2 : Nat → Int) (A2 : Nat → Int → Int) (qv kn : Int) (cv : Bool) (gF : frF [16, 24, 25] F F2) (gA : frA [8, 9, 10, 11, 12, 13, 14, 15] A A2) (g16 : F2 16 = wv + 1) (gq : qv = (169 + 61 * (10 * d + l)) + 1 + kv) (gc : cv = (decide (kv + lv9 < (A 1 (169 + 61 * (10 * d + l)))) && decide (A 1 ((169 + 61 * (10 * d + l)) + 1 + (kv + lv9)) = 44))) (gk : kn = kv + lv9 + bi cv + 1) (g8 : A2 8 wv = qv) (g9 : A2 9 wv = lv9) (g12 : A2 12 wv = bi cv) (g14 : A2 14 wv = bi (vow (A 1 qv))) (gD : ∀ (i : Nat) (pv lenv : Int) (cv : Bool), L1[i]? = some (pv, lenv, cv) → WDq (A 1) A2 i ((169 + 61 * (10 * d + l)) + 1 + pv) lenv cv), GG Γ M_X10_laysLine QF9 (0, 0) (mst Γ h F2 A2) 176 [some (.ref (g_L Γ 0)), some (.int (iN d)), some (.int (iN l)), some (.int (iN (169 + 61 * (10 * d + l)))), some (.int (iN (A 1 (169 + 61 * (10 * d + l))))), some (.int (iN kn)), some (.int (iN wv)), none] [] := by
          intro F2 A2 qv kn cv gF gA g16 gq gc gk g8 g9 g12 g14 gD
          have g1 : A2 1 = A 1 := gA 1 (by decide)
          refine gg_aload_n dX10_laysLine_176 rfl rfl ?_
          refine gg_iload dX10_laysLine_177 rfl ?_
          refine gc_X10_249 rfl dX10_laysLine_179 ⟨(Nat.le_of_ble_eq_true rfl), (Nat.le_of_ble_eq_true rfl)⟩ ⟨(Nat.le_of_ble_eq_true rfl), (Nat.le_of_ble_eq_true rfl)⟩ (Nat.le_of_ble_eq_true rfl) (HAt.mu rfl) (c_X10_laysCores (F := F2) (A := A2) (by rw [g1]; exact S) hw11 (by rw [g9]; omega) (by rw [g8, g9]; omega)) (fun _ _ w => w.elim) (fun r_179 h_179 hp => ?_)
          obtain ⟨rfl, rfl⟩ := hp
          simp only [g1, g8, g9]
          have hwc := wC_r (f := (fun k => A 1 (qv + k))) (n := lv9) ⟨by omega, by omega⟩
          refine gg_aload_n dX10_laysLine_182 rfl rfl ?_
          refine gg_iload dX10_laysLine_183 rfl ?_
          refine gc_X10_252 rfl dX10_laysLine_185 ⟨(Nat.le_of_ble_eq_true rfl), (Nat.le_of_ble_eq_true rfl)⟩ ⟨(Nat.le_of_ble_eq_true rfl), (Nat.le_of_ble_eq_true rfl)⟩ (Nat.le_of_ble_eq_true rfl) (HAt.mu rfl) (c_X10_laysMarks (mv := wSy (A 1) qv lv9) (by simp only [uA_s, uA_n, uA_ss, uA_cc, id_eq, ne_eq, not_false_eq_true, Nat.reduceEqDiff, Nat.reduceLT, reduceCtorEq, g1]; exact S) (by simp only [uA_s, uA_n, uA_ss, uA_cc, id_eq, ne_eq, not_false_eq_true, Nat.reduceEqDiff, Nat.reduceLT, reduceCtorEq, g1]; exact E9) hw11 (by simp only [uA_s, uA_n, uA_ss, uA_cc, id_eq, ne_eq, not_false_eq_true, Nat.reduceEqDiff, Nat.reduceLT, reduceCtorEq, g9]; omega) (by simp only [uA_s, uA_n, uA_ss, uA_cc, id_eq, ne_eq, not_false_eq_true, Nat.reduceEqDiff, Nat.reduceLT, reduceCtorEq, g8, g9]; omega) (by simp only [uF_s, uF_n, uF_ss, uF_cc, id_eq, ne_eq, not_false_eq_true, Nat.reduceEqDiff, Nat.reduceLT, reduceCtorEq]; omega) (by simp only [uA_s, uA_n, uA_ss, uA_cc, id_eq, ne_eq, not_false_eq_true, Nat.reduceEqDiff, Nat.reduceLT, reduceCtorEq, uF_s, uF_n, uF_ss, uF_cc, id_eq, ne_eq, not_false_eq_true, Nat.reduceEqDiff, Nat.reduceLT, reduceCtorEq, g1, g8, g9]; rfl)) (fun _ _ w => w.elim) (fun r_185 h_185 hp => ?_)
          obtain ⟨rfl, rfl⟩ := hp
          simp only [uA_s, uA_n, uA_ss, uA_cc, id_eq, ne_eq, not_false_eq_true, Nat.reduceEqDiff, Nat.reduceLT, reduceCtorEq, g1, g8, g9]
          refine gg_goto (tgt := 22) dX10_laysLine_188 (by decide) ?_
          refine gg_drop 6 ?_
          refine gg_drop 7 ?_
          have hkn : kn ≤ (A 1 (169 + 61 * (10 * d + l))) + 1 := by
            rcases Bool.eq_false_or_eq_true cv with z | z
            · rw [z, eq_comm, Bool.and_eq_true, decide_eq_true_iff] at gc
              have := gc.1
              rw [gk, z]; simp only [bi, if_true]; omega
            · rw [gk, z]; simp [bi]; omega
          refine ih_22 _ (by omega) _ _ (wv + 1) kn (L1 ++ [(kv, lv9, cv)]) rfl (frF_u (frF_u gF (by decide)) (by decide)) (frA_u (frA_u (frA_u (frA_u gA (by decide)) (by decide)) (by decide)) (by decide)) (by simp only [uF_s, uF_n, uF_ss, uF_cc, id_eq, ne_eq, not_false_eq_true, Nat.reduceEqDiff, Nat.reduceLT, reduceCtorEq]; exact g16) (by omega) (by have := bi_01 cv; omega) ?_ (by rw [List.length_append]; simp; omega) ?_
          · rw [← gc] at k2
            rcases k2 with ⟨k3, k4⟩ | ⟨k3, k4, k5⟩
            · exact Or.inr ⟨by omega, by rw [hL2, k4]⟩
            · refine Or.inl ⟨by rw [gk]; exact parseL_lt k4, by rw [gk]; exact k4, by rw [hL2, k5, gk]; simp⟩
          · intro i pv lenv cv2 hi2
            rcases Nat.lt_or_ge i L1.length with hi3 | hi3
            · rw [List.getElem?_append_left hi3] at hi2
              have hq9 := (gD i pv lenv cv2 hi2).1
              refine WDq_fr (gD i pv lenv cv2 hi2) ?_ ?_ ?_ ?_ ?_ ?_ ?_
              all_goals (try intros)
              all_goals (try simp only [uA_s, uA_n, uA_ss, uA_cc, id_eq, ne_eq, not_false_eq_true, Nat.reduceEqDiff, Nat.reduceLT, reduceCtorEq])
              all_goals (first | rfl | exact up_n (by omega) | (unfold wrM; rw [if_neg]; omega))
            · rw [List.getElem?_append_right hi3] at hi2
              have hi4 : i - L1.length = 0 := by have := (List.getElem?_eq_some_iff.mp hi2).1; simp at this; omega
              rw [hi4] at hi2
              simp only [List.getElem?_cons_zero, Option.some.injEq, Prod.mk.injEq] at hi2
              obtain ⟨rfl, rfl, rfl⟩ := hi2
              have hi5 : (i : Int) = wv := by omega
              rw [hi5, ← gq]
              refine ⟨wSy_r S E9 ⟨by omega, by omega⟩, by simp only [uA_s, uA_n, uA_ss, uA_cc, id_eq, ne_eq, not_false_eq_true, Nat.reduceEqDiff, Nat.reduceLT, reduceCtorEq]; exact g8, by simp only [uA_s, uA_n, uA_ss, uA_cc, id_eq, ne_eq, not_false_eq_true, Nat.reduceEqDiff, Nat.reduceLT, reduceCtorEq]; exact g9, by simp only [uA_s, uA_n, uA_ss, uA_cc, id_eq, ne_eq, not_false_eq_true, Nat.reduceEqDiff, Nat.reduceLT, reduceCtorEq]; exact g12, by simp only [uA_s, uA_n, uA_ss, uA_cc, id_eq, ne_eq, not_false_eq_true, Nat.reduceEqDiff, Nat.reduceLT, reduceCtorEq]; exact g14, by simp only [uA_s, uA_n, uA_ss, uA_cc, id_eq, ne_eq, not_false_eq_true, Nat.reduceEqDiff, Nat.reduceLT, reduceCtorEq]; exact up_s, by simp only [uA_s, uA_n, uA_ss, uA_cc, id_eq, ne_eq, not_false_eq_true, Nat.reduceEqDiff, Nat.reduceLT, reduceCtorEq]; exact up_s, ?_⟩
              intro k hk0 hk1
              simp only [uA_s, uA_n, uA_ss, uA_cc, id_eq, ne_eq, not_false_eq_true, Nat.reduceEqDiff, Nat.reduceLT, reduceCtorEq]
              unfold wrM
              rw [if_pos (by omega)]
              congr 1; omega
        refine gg_aload_n dX10_laysLine_29 rfl rfl ?_
        refine gm_get60 rfl dX10_laysLine_30 h16 ?_
        refine gg_istore dX10_laysLine_33 (Nat.le_of_ble_eq_true rfl) rfl ?_
        refine gg_aload_n dX10_laysLine_35 rfl rfl ?_
        refine gm_get63 rfl dX10_laysLine_36 ?_
        refine gg_iload dX10_laysLine_39 rfl ?_
        refine gg_iload_n dX10_laysLine_41 rfl ?_
        refine gi_iconst dX10_laysLine_42 ?_
        refine gi_iadd dX10_laysLine_43 ?_
        refine gg_iload dX10_laysLine_44 rfl ?_
        refine gi_iadd dX10_laysLine_46 ?_
        refine gm_iast dX10_laysLine_47 (by decide) rfl (by decide) ⟨by omega, by simp only [ml9]; omega⟩ (by (try simp only [uA_s, uA_n, uA_ss, uA_cc, id_eq, ne_eq, not_false_eq_true, Nat.reduceEqDiff, Nat.reduceLT, reduceCtorEq]); rfl) ?_
        refine gg_iload dX10_laysLine_48 rfl ?_
        refine gg_istore dX10_laysLine_50 (Nat.le_of_ble_eq_true rfl) rfl ?_
        have L_52 : ∀ (n9 : Nat) (iv : Int), ((lv9 - iv).toNat) = n9 → ∀ (hi : 0 ≤ iv ∧ iv ≤ lv9), GG Γ M_X10_laysLine QF9 (0, 0) (mst Γ h F1 (uA A1 8 (up (A1 8) wv ((169 + 61 * (10 * d + l)) + 1 + kv)))) 52 [some (.ref (g_L Γ 0)), some (.int (iN d)), some (.int (iN l)), some (.int (iN (169 + 61 * (10 * d + l)))), some (.int (iN (A 1 (169 + 61 * (10 * d + l))))), some (.int (iN (kv + iv))), some (.int (iN wv)), some (.int (iN kv))] [] := by
          intro n9
          induction n9 using Nat.strongRecOn with
          | ind n9 ih_52 => 
            intro iv hm9 hi
            refine gg_iload dX10_laysLine_52 rfl ?_
            refine gg_iload dX10_laysLine_54 rfl ?_
            refine gi_icmp_ge (tgt := 82) dX10_laysLine_56 (by decide) ⟨by omega, by omega⟩ ⟨by omega, by omega⟩ (fun c_56 => ?_) (fun c_56 => ?_)
            · have hi2 : iv = lv9 := by
                rcases Int.lt_or_le iv lv9 with z | z
                · have := (hll iv (by omega) z).1; omega
                · omega
              rw [hi2]; exact L_82
            · refine gg_aload_n dX10_laysLine_59 rfl rfl ?_
              refine gm_get13 rfl dX10_laysLine_60 ?_
              refine gg_iload_n dX10_laysLine_63 rfl ?_
              refine gi_iconst dX10_laysLine_64 ?_
              refine gi_iadd dX10_laysLine_65 ?_
              refine gg_iload dX10_laysLine_66 rfl ?_
              refine gi_iadd dX10_laysLine_68 ?_
              refine gm_iald dX10_laysLine_69 (by decide) rfl (by decide) ⟨by omega, by simp only [ml9]; omega⟩ (by simp only [uA_s, uA_n, uA_ss, uA_cc, id_eq, ne_eq, not_false_eq_true, Nat.reduceEqDiff, Nat.reduceLT, reduceCtorEq, hA1]; rfl) ?_
              refine gc_X10_170 rfl dX10_laysLine_70 ⟨(Nat.le_of_ble_eq_true rfl), (Nat.le_of_ble_eq_true rfl)⟩ ⟨(Nat.le_of_ble_eq_true rfl), (Nat.le_of_ble_eq_true rfl)⟩ (Nat.le_of_ble_eq_true rfl) (c_X10_isLetter (s6 _)) (fun _ _ w => w.elim) (fun r_70 h_70 hp => ?_)
              obtain ⟨rfl, rfl⟩ := hp
              refine gi_if_eq (tgt := 82) dX10_laysLine_73 (by decide) (bi_r _) (fun c_73 => ?_) (fun c_73 => ?_)
              · rw [bi_f] at c_73
                have hi2 : iv = lv9 := by
                  rcases Int.lt_or_le iv lv9 with z | z
                  · have := (hll iv (by omega) z).2; rw [this] at c_73; cases c_73
                  · omega
                rw [hi2]; exact L_82
              · rw [bi_t] at c_73
                refine gi_iinc dX10_laysLine_76 rfl (Nat.le_of_ble_eq_true rfl) rfl ?_
                refine gg_goto (tgt := 52) dX10_laysLine_79 (by decide) ?_
                have hi2 : iv < lv9 := by
                  rcases Int.lt_or_le iv lv9 with z | z
                  · exact z
                  · exact absurd ⟨by omega, by rw [show lv9 = iv by omega]; exact c_73⟩ k1
                refine gg_conv (ih_52 _ (by omega) (iv + 1) rfl (by omega)) rfl (by simp [lset, Int.add_assoc]) rfl
        refine gg_conv (L_52 _ 0 rfl (by omega)) rfl (by simp [lset]) rfl
  refine gg_drop 6 ?_
  refine gg_drop 7 ?_
  exact L_22 _ (uF F 16 0) A 0 0 [] rfl (frF_u (fun _ _ => rfl) (by decide)) (fun _ _ => rfl) uF_s (by omega) (by omega) (Or.inl ⟨by omega, n3, by simp⟩) rfl (fun i pv lenv cv q => by simp at q)
