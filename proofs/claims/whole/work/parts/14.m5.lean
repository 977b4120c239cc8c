/-! the reference: drafts -/
theorem cp_own {f : Int → Int} {a b k n : Int} (ho : a + n ≤ b ∨ b ≤ a) (hk : 0 ≤ k ∧ k < n) : cp f f a b k (a + k) = f (a + k) := by
  unfold cp
  rw [if_neg (by omega)]
theorem lyA_p {a inp : Int → Int} {n t k : Int} (hk : 0 ≤ k) (hl : k < n) : up (lyA a inp n t k) (t + 1 + k) (inp k) = lyA a inp n t (k + 1) := by
  rw [← lyA_s hk, if_pos hl]
theorem lyA_q {a inp : Int → Int} {n t k : Int} (hk : 0 ≤ k) (hl : n ≤ k) : up (lyA a inp n t k) (t + 1 + k) 0 = lyA a inp n t (k + 1) := by
  rw [← lyA_s hk, if_neg (by omega)]
/-- what a call that only reads keeps of the reference -/
def KF (F F' : Nat → Int) : Prop := F' 5 = F 5 ∧ F' 6 = F 6 ∧ F' 8 = F 8 ∧ F' 10 = F 10
def KA (A A' : Nat → Int → Int) : Prop := A' 1 = A 1 ∧ A' 3 = A 3 ∧ A' 4 = A 4 ∧ A' 5 = A 5
set_option maxRecDepth 100000 in
set_option maxHeartbeats 4000000 in
theorem c_X10_isLine {Γ : GT} {h : XH} {F : Nat → Int} {A : Nat → Int → Int} (S : StA (A 1)) {d l : Int} (hd : InR d) (hl : InR l) : Ct Γ M_X10_isLine [.ref (g_L Γ 0), .int (iN d), .int (iN l)] (mst Γ h F A) (fun r h9 => r = some (.int (iN (bi (decide (0 ≤ d ∧ d ≤ 3 ∧ 0 ≤ l ∧ l < A 1 (5 + d)))))) ∧ h9 = mst Γ h F A) (fun _ _ => False) := by
  refine Ct.of rfl (by decide +kernel) (Nat.le_of_ble_eq_true rfl) ?_
  generalize hQF9 : QM Γ _ _ _ = QF9
  obtain ⟨s0, s1, s2, s3, s4, s5, s6⟩ := id S
  refine gg_iload_n dX10_isLine_0 rfl ?_
  refine gc_X10_218 rfl dX10_isLine_1 ⟨(Nat.le_of_ble_eq_true rfl), (Nat.le_of_ble_eq_true rfl)⟩ ⟨(Nat.le_of_ble_eq_true rfl), (Nat.le_of_ble_eq_true rfl)⟩ (Nat.le_of_ble_eq_true rfl) (c_X10_isDraft hd) (fun _ _ w => w.elim) (fun r_1 h_1 hp => ?_)
  obtain ⟨rfl, rfl⟩ := hp
  refine gi_if_eq (tgt := 29) dX10_isLine_4 (by decide) (bi_r _) (fun c_4 => ?_) (fun c_4 => ?_)
  · rw [bi_f] at c_4
    simp at c_4
    refine gi_iconst dX10_isLine_29 ?_
    subst hQF9
    refine gg_iret dX10_isLine_30 rfl (nar_bool (by omega)) ⟨(Nat.le_of_ble_eq_true rfl), (Nat.le_of_ble_eq_true rfl)⟩ ?_
    exact ⟨by congr 3; rw [bi_d]; first | (rw [if_pos (by omega)]; done) | rw [if_neg (by omega)], rfl⟩
  · rw [bi_t] at c_4
    simp at c_4
    have q5 := s5 d (by omega) (by omega)
    refine gg_iload_n dX10_isLine_7 rfl ?_
    refine gi_iconst dX10_isLine_8 ?_
    refine gg_aload_n dX10_isLine_9 rfl rfl ?_
    refine gm_get13 rfl dX10_isLine_10 ?_
    refine gi_iconst dX10_isLine_13 ?_
    refine gg_iload_n dX10_isLine_14 rfl ?_
    refine gi_iadd dX10_isLine_15 ?_
    refine gm_iald dX10_isLine_16 (by decide) rfl (by decide) ⟨by omega, by simp only [ml9]; omega⟩ (by (try simp only [uA_s, uA_n, ne_eq, not_false_eq_true, Nat.reduceEqDiff, reduceCtorEq]); rfl) ?_
    refine gi_iconst dX10_isLine_17 ?_
    refine gi_isub dX10_isLine_18 ?_
    refine gc_X10_158 rfl dX10_isLine_19 ⟨(Nat.le_of_ble_eq_true rfl), (Nat.le_of_ble_eq_true rfl)⟩ ⟨(Nat.le_of_ble_eq_true rfl), (Nat.le_of_ble_eq_true rfl)⟩ (Nat.le_of_ble_eq_true rfl) (c_X10_in hl ⟨by omega, by omega⟩ ⟨by omega, by omega⟩) (fun _ _ w => w.elim) (fun r_19 h_19 hp => ?_)
    obtain ⟨rfl, rfl⟩ := hp
    refine gi_if_eq (tgt := 29) dX10_isLine_22 (by decide) (bi_r _) (fun c_22 => ?_) (fun c_22 => ?_)
    · rw [bi_f] at c_22
      simp at c_22
      refine gi_iconst dX10_isLine_29 ?_
      subst hQF9
      refine gg_iret dX10_isLine_30 rfl (nar_bool (by omega)) ⟨(Nat.le_of_ble_eq_true rfl), (Nat.le_of_ble_eq_true rfl)⟩ ?_
      exact ⟨by congr 3; rw [bi_d]; first | (rw [if_pos (by omega)]; done) | rw [if_neg (by omega)], rfl⟩
    · rw [bi_t] at c_22
      simp at c_22
      refine gi_iconst dX10_isLine_25 ?_
      refine gg_goto (tgt := 30) dX10_isLine_26 (by decide) ?_
      subst hQF9
      refine gg_iret dX10_isLine_30 rfl (nar_bool (by omega)) ⟨(Nat.le_of_ble_eq_true rfl), (Nat.le_of_ble_eq_true rfl)⟩ ?_
      exact ⟨by congr 3; rw [bi_d]; first | (rw [if_pos (by omega)]; done) | rw [if_neg (by omega)], rfl⟩
set_option maxRecDepth 100000 in
set_option maxHeartbeats 4000000 in
theorem c_X10_moves {Γ : GT} {h : XH} {F : Nat → Int} {A : Nat → Int → Int} {a b : Int} (ha : 0 ≤ a ∧ a + 61 ≤ 2609) (hb : 0 ≤ b ∧ b + 61 ≤ 2609) (ho : a + 61 ≤ b ∨ b ≤ a) : Ct Γ M_X10_moves [.ref (g_L Γ 0), .int (iN a), .int (iN b)] (mst Γ h F A) (fun r h9 => r = none ∧ h9 = mst Γ h (F) (uA A 1 (cp (A 1) (A 1) a b 61))) (fun _ _ => False) := by
  refine Ct.of rfl (by decide +kernel) (Nat.le_of_ble_eq_true rfl) ?_
  generalize hQF9 : QM Γ _ _ _ = QF9
  refine gi_iconst dX10_moves_0 ?_
  refine gg_istore_n dX10_moves_1 (Nat.le_of_ble_eq_true rfl) rfl ?_
  have L_2 : ∀ (n9 : Nat) (k : Int), ((61 - k).toNat) = n9 → ∀ (hk : 0 ≤ k ∧ k ≤ 61), GG Γ M_X10_moves QF9 (0, 0) (mst Γ h F (uA A 1 (cp (A 1) (A 1) a b k))) 2 [some (.ref (g_L Γ 0)), some (.int (iN a)), some (.int (iN b)), some (.int (iN k))] [] := by
    intro n9
    induction n9 using Nat.strongRecOn with
    | ind n9 ih_2 => 
      intro k hm9 hk
      refine gg_iload_n dX10_moves_2 rfl ?_
      refine gi_bipush dX10_moves_3 (by decide) ?_
      refine gi_icmp_ge (tgt := 30) dX10_moves_5 (by decide) ⟨by omega, by omega⟩ ⟨by omega, by omega⟩ (fun c_5 => ?_) (fun c_5 => ?_)
      · subst hQF9
        refine gg_vret dX10_moves_30 rfl ⟨(Nat.le_of_ble_eq_true rfl), (Nat.le_of_ble_eq_true rfl)⟩ ?_
        rw [show k = 61 by omega]
        exact ⟨rfl, rfl⟩
      · refine gg_aload_n dX10_moves_8 rfl rfl ?_
        refine gm_get13 rfl dX10_moves_9 ?_
        refine gg_iload_n dX10_moves_12 rfl ?_
        refine gg_iload_n dX10_moves_13 rfl ?_
        refine gi_iadd dX10_moves_14 ?_
        refine gg_aload_n dX10_moves_15 rfl rfl ?_
        refine gm_get13 rfl dX10_moves_16 ?_
        refine gg_iload_n dX10_moves_19 rfl ?_
        refine gg_iload_n dX10_moves_20 rfl ?_
        refine gi_iadd dX10_moves_21 ?_
        refine gm_iald dX10_moves_22 (by decide) rfl (by decide) ⟨by omega, by simp only [ml9]; omega⟩ (by rw [uA_s, cp_own ho (by omega)]) ?_
        refine gm_iast dX10_moves_23 (by decide) rfl (by decide) ⟨by omega, by simp only [ml9]; omega⟩ (by rw [uA_ss, uA_s, cp_s hk.1]) ?_
        refine gi_iinc dX10_moves_24 rfl (Nat.le_of_ble_eq_true rfl) rfl ?_
        refine gg_goto (tgt := 2) dX10_moves_27 (by decide) ?_
        exact ih_2 _ (by omega) (k + 1) rfl (by omega)
  refine gg_conv (L_2 _ 0 rfl (by omega)) (by rw [cp_0, uA_id]) rfl rfl
set_option maxRecDepth 100000 in
set_option maxHeartbeats 4000000 in
theorem c_X10_lays {Γ : GT} {h : XH} {F : Nat → Int} {A : Nat → Int → Int} {d l : Int} (hd : 0 ≤ d ∧ d ≤ 3) (hl : 0 ≤ l ∧ l ≤ 9) (h12 : 0 ≤ F 12 ∧ F 12 ≤ 60) : Ct Γ M_X10_lays [.ref (g_L Γ 0), .int (iN d), .int (iN l)] (mst Γ h F A) (fun r h9 => r = none ∧ h9 = mst Γ h (F) (uA A 1 (lyA (A 1) (A 5) (F 12) (169 + 61 * (10 * d + l)) 60))) (fun _ _ => False) := by
  refine Ct.of rfl (by decide +kernel) (Nat.le_of_ble_eq_true rfl) ?_
  generalize hQF9 : QM Γ _ _ _ = QF9
  refine gg_iload_n dX10_lays_0 rfl ?_
  refine gg_iload_n dX10_lays_1 rfl ?_
  refine gc_X10_221 rfl dX10_lays_2 ⟨(Nat.le_of_ble_eq_true rfl), (Nat.le_of_ble_eq_true rfl)⟩ ⟨(Nat.le_of_ble_eq_true rfl), (Nat.le_of_ble_eq_true rfl)⟩ (Nat.le_of_ble_eq_true rfl) (c_X10_lineAt) (fun _ _ w => w.elim) (fun r_2 h_2 hp => ?_)
  obtain ⟨rfl, rfl⟩ := hp
  refine gg_istore_n dX10_lays_5 (Nat.le_of_ble_eq_true rfl) rfl ?_
  refine gg_aload_n dX10_lays_6 rfl rfl ?_
  refine gm_get13 rfl dX10_lays_7 ?_
  refine gg_iload_n dX10_lays_10 rfl ?_
  refine gg_aload_n dX10_lays_11 rfl rfl ?_
  refine gm_get48 rfl dX10_lays_12 (by (try simp only [uF_s, uF_n, ne_eq, not_false_eq_true, Nat.reduceEqDiff, reduceCtorEq]); rfl) ?_
  refine gm_iast dX10_lays_15 (by decide) rfl (by decide) ⟨by omega, by simp only [ml9]; omega⟩ (by (try simp only [uA_s, uA_n, uA_ss, uA_cc, id_eq, ne_eq, not_false_eq_true, Nat.reduceEqDiff, Nat.reduceLT, reduceCtorEq]); rfl) ?_
  refine gi_iconst dX10_lays_16 ?_
  refine gg_istore dX10_lays_17 (Nat.le_of_ble_eq_true rfl) rfl ?_
  have L_19 : ∀ (n9 : Nat) (k : Int), ((60 - k).toNat) = n9 → ∀ (hk : 0 ≤ k ∧ k ≤ 60), GG Γ M_X10_lays QF9 (0, 0) (mst Γ h F (uA A 1 (lyA (A 1) (A 5) (F 12) (169 + 61 * (10 * d + l)) k))) 19 [some (.ref (g_L Γ 0)), some (.int (iN d)), some (.int (iN l)), some (.int (iN (169 + 61 * (10 * d + l)))), some (.int (iN k))] [] := by
    intro n9
    induction n9 using Nat.strongRecOn with
    | ind n9 ih_19 => 
      intro k hm9 hk
      refine gg_iload dX10_lays_19 rfl ?_
      refine gi_bipush dX10_lays_21 (by decide) ?_
      refine gi_icmp_ge (tgt := 63) dX10_lays_23 (by decide) ⟨by omega, by omega⟩ ⟨by omega, by omega⟩ (fun c_23 => ?_) (fun c_23 => ?_)
      · subst hQF9
        refine gg_vret dX10_lays_63 rfl ⟨(Nat.le_of_ble_eq_true rfl), (Nat.le_of_ble_eq_true rfl)⟩ ?_
        rw [show k = 60 by omega]
        exact ⟨rfl, rfl⟩
      · refine gg_aload_n dX10_lays_26 rfl rfl ?_
        refine gm_get13 rfl dX10_lays_27 ?_
        refine gg_iload_n dX10_lays_30 rfl ?_
        refine gi_iconst dX10_lays_31 ?_
        refine gi_iadd dX10_lays_32 ?_
        refine gg_iload dX10_lays_33 rfl ?_
        refine gi_iadd dX10_lays_35 ?_
        refine gg_iload dX10_lays_36 rfl ?_
        refine gg_aload_n dX10_lays_38 rfl rfl ?_
        refine gm_get48 rfl dX10_lays_39 (by (try simp only [uF_s, uF_n, ne_eq, not_false_eq_true, Nat.reduceEqDiff, reduceCtorEq]); rfl) ?_
        refine gi_icmp_ge (tgt := 55) dX10_lays_42 (by decide) ⟨by omega, by omega⟩ ⟨by omega, by omega⟩ (fun c_42 => ?_) (fun c_42 => ?_)
        · refine gi_iconst dX10_lays_55 ?_
          refine gm_iast dX10_lays_56 (by decide) rfl (by decide) ⟨by omega, by simp only [ml9]; omega⟩ (by first | rw [uA_ss, uA_s, lyA_p hk.1 (by omega)] | rw [uA_ss, uA_s, lyA_q hk.1 (by omega)]) ?_
          refine gi_iinc dX10_lays_57 rfl (Nat.le_of_ble_eq_true rfl) rfl ?_
          refine gg_goto (tgt := 19) dX10_lays_60 (by decide) ?_
          exact ih_19 _ (by omega) (k + 1) rfl (by omega)
        · refine gg_aload_n dX10_lays_45 rfl rfl ?_
          refine gm_get33 rfl dX10_lays_46 ?_
          refine gg_iload dX10_lays_49 rfl ?_
          refine gm_iald dX10_lays_51 (by decide) rfl (by decide) ⟨by omega, by simp only [ml9]; omega⟩ (by (try simp only [uA_s, uA_n, ne_eq, not_false_eq_true, Nat.reduceEqDiff, reduceCtorEq]); rfl) ?_
          refine gg_goto (tgt := 56) dX10_lays_52 (by decide) ?_
          refine gm_iast dX10_lays_56 (by decide) rfl (by decide) ⟨by omega, by simp only [ml9]; omega⟩ (by first | rw [uA_ss, uA_s, lyA_p hk.1 (by omega)] | rw [uA_ss, uA_s, lyA_q hk.1 (by omega)]) ?_
          refine gi_iinc dX10_lays_57 rfl (Nat.le_of_ble_eq_true rfl) rfl ?_
          refine gg_goto (tgt := 19) dX10_lays_60 (by decide) ?_
          exact ih_19 _ (by omega) (k + 1) rfl (by omega)
  refine gg_conv (L_19 _ 0 rfl (by omega)) (by rw [lyA_0]) rfl rfl
set_option maxRecDepth 100000 in
set_option maxHeartbeats 4000000 in
theorem c_X10_exceptions {Γ : GT} {h : XH} {F : Nat → Int} {A : Nat → Int → Int} : Ct Γ M_X10_exceptions [.ref (g_L Γ 0)] (mst Γ h F A) (fun r h9 => r = some (.int (iN (A 1 4))) ∧ h9 = mst Γ h F A) (fun _ _ => False) := by
  refine Ct.of rfl (by decide +kernel) (Nat.le_of_ble_eq_true rfl) ?_
  generalize hQF9 : QM Γ _ _ _ = QF9
  refine gg_aload_n dX10_exceptions_0 rfl rfl ?_
  refine gm_get13 rfl dX10_exceptions_1 ?_
  refine gi_iconst dX10_exceptions_4 ?_
  refine gm_iald dX10_exceptions_5 (by decide) rfl (by decide) ⟨by omega, by simp only [ml9]; omega⟩ (by (try simp only [uA_s, uA_n, ne_eq, not_false_eq_true, Nat.reduceEqDiff, reduceCtorEq]); rfl) ?_
  subst hQF9
  refine gg_iret dX10_exceptions_6 rfl rfl ⟨(Nat.le_of_ble_eq_true rfl), (Nat.le_of_ble_eq_true rfl)⟩ ?_
  exact ⟨rfl, rfl⟩
set_option maxRecDepth 100000 in
set_option maxHeartbeats 4000000 in
theorem c_X10_removeLine {Γ : GT} {h : XH} {F : Nat → Int} {A : Nat → Int → Int} (S : StA (A 1)) (h5 : 0 ≤ F 5 ∧ F 5 ≤ 8) {d l : Int} (hd : InR d) (hl : InR l) : Ct Γ M_X10_removeLine [.ref (g_L Γ 0), .int (iN d), .int (iN l)] (mst Γ h F A) (fun r h9 => (¬ (0 ≤ d ∧ d ≤ 3 ∧ 0 ≤ l ∧ l < A 1 (5 + d)) ∧ r = some (.int (iN 0)) ∧ h9 = mst Γ h (uF F 0 1) A) ∨ ((0 ≤ d ∧ d ≤ 3 ∧ 0 ≤ l ∧ l < A 1 (5 + d)) ∧ r = some (.int (iN (A 1 (5 + d) - 1))) ∧ h9 = mst Γ h (uF (uF F 0 0) 5 (kc (F 5))) (uA (uA A 1 (up (shd (A 1) (169 + 61 * (10 * d + l)) (169 + 61 * (10 * d + (A 1 (5 + d) - 1))) 61) (5 + d) (A 1 (5 + d) - 1))) 4 (kA A (F 5))))) (fun _ _ => False) := by
  refine Ct.of rfl (by decide +kernel) (Nat.le_of_ble_eq_true rfl) ?_
  generalize hQF9 : QM Γ _ _ _ = QF9
  obtain ⟨s0, s1, s2, s3, s4, s5, s6⟩ := id S
  refine gg_aload_n dX10_removeLine_0 rfl rfl ?_
  refine gi_iconst dX10_removeLine_1 ?_
  refine gm_put3 rfl dX10_removeLine_2 (by (try simp only [uF_ss, uF_cc, id_eq, Nat.reduceLT, reduceCtorEq]); rfl) ?_
  refine gg_aload_n dX10_removeLine_5 rfl rfl ?_
  refine gg_iload_n dX10_removeLine_6 rfl ?_
  refine gg_iload_n dX10_removeLine_7 rfl ?_
  refine gc_X10_234 rfl dX10_removeLine_8 ⟨(Nat.le_of_ble_eq_true rfl), (Nat.le_of_ble_eq_true rfl)⟩ ⟨(Nat.le_of_ble_eq_true rfl), (Nat.le_of_ble_eq_true rfl)⟩ (Nat.le_of_ble_eq_true rfl) (HAt.mu rfl) (c_X10_isLine (by exact S) (by assumption) (by assumption)) (fun _ _ w => w.elim) (fun r_8 h_8 hp => ?_)
  obtain ⟨rfl, rfl⟩ := hp
  refine gi_if_ne (tgt := 20) dX10_removeLine_11 (by decide) (bi_r _) (fun c_11 => ?_) (fun c_11 => ?_)
  · rw [bi_t] at c_11
    simp at c_11
    have q5 := s5 d (by omega) (by omega)
    refine gg_aload_n dX10_removeLine_20 rfl rfl ?_
    refine gc_X10_184 rfl dX10_removeLine_21 ⟨(Nat.le_of_ble_eq_true rfl), (Nat.le_of_ble_eq_true rfl)⟩ ⟨(Nat.le_of_ble_eq_true rfl), (Nat.le_of_ble_eq_true rfl)⟩ (Nat.le_of_ble_eq_true rfl) (HAt.mu rfl) (c_X10_keeps (by simp only [uF_s, uF_n, uF_ss, uF_cc, id_eq, ne_eq, not_false_eq_true, Nat.reduceEqDiff, Nat.reduceLT, reduceCtorEq]; exact h5)) (fun _ _ w => w.elim) (fun r_21 h_21 hp => ?_)
    obtain ⟨rfl, rfl⟩ := hp
    simp only [uF_s, uF_n, uF_ss, uF_cc, id_eq, ne_eq, not_false_eq_true, Nat.reduceEqDiff, Nat.reduceLT, reduceCtorEq]
    refine gg_iload_n dX10_removeLine_24 rfl ?_
    refine gg_istore_n dX10_removeLine_25 (Nat.le_of_ble_eq_true rfl) rfl ?_
    have L_26 : ∀ (n9 : Nat) (k : Int), ((A 1 (5 + d) - 1 - k).toNat) = n9 → ∀ (hk : l ≤ k ∧ k ≤ A 1 (5 + d) - 1), GG Γ M_X10_removeLine QF9 (0, 0) (mst Γ h (uF (uF F 0 0) 5 (kc (F 5))) (uA (uA A 1 (shd (A 1) (169 + 61 * (10 * d + l)) (169 + 61 * (10 * d + k)) 61)) 4 (kA A (F 5)))) 26 [some (.ref (g_L Γ 0)), some (.int (iN d)), some (.int (iN l)), some (.int (iN k))] [] := by
      intro n9
      induction n9 using Nat.strongRecOn with
      | ind n9 ih_26 => 
        intro k hm9 hk
        have e5 : shd (A 1) (169 + 61 * (10 * d + l)) (169 + 61 * (10 * d + k)) 61 (5 + d) = A 1 (5 + d) := by unfold shd; rw [if_neg (by omega)]
        refine gg_iload_n dX10_removeLine_26 rfl ?_
        refine gi_iconst dX10_removeLine_27 ?_
        refine gi_iadd dX10_removeLine_28 ?_
        refine gg_aload_n dX10_removeLine_29 rfl rfl ?_
        refine gm_get13 rfl dX10_removeLine_30 ?_
        refine gi_iconst dX10_removeLine_33 ?_
        refine gg_iload_n dX10_removeLine_34 rfl ?_
        refine gi_iadd dX10_removeLine_35 ?_
        refine gm_iald dX10_removeLine_36 (by decide) rfl (by decide) ⟨by omega, by simp only [ml9]; omega⟩ (by simp only [uA_s, uA_n, uA_ss, uA_cc, id_eq, ne_eq, not_false_eq_true, Nat.reduceEqDiff, Nat.reduceLT, reduceCtorEq]; exact e5) ?_
        refine gi_icmp_ge (tgt := 62) dX10_removeLine_37 (by decide) ⟨by omega, by omega⟩ ⟨by omega, by omega⟩ (fun c_37 => ?_) (fun c_37 => ?_)
        · refine gg_aload_n dX10_removeLine_62 rfl rfl ?_
          refine gm_get13 rfl dX10_removeLine_63 ?_
          refine gi_iconst dX10_removeLine_66 ?_
          refine gg_iload_n dX10_removeLine_67 rfl ?_
          refine gi_iadd dX10_removeLine_68 ?_
          refine gg_dup2 dX10_removeLine_69 rfl rfl ?_
          refine gm_iald dX10_removeLine_70 (by decide) rfl (by decide) ⟨by omega, by simp only [ml9]; omega⟩ (by simp only [uA_s, uA_n, uA_ss, uA_cc, id_eq, ne_eq, not_false_eq_true, Nat.reduceEqDiff, Nat.reduceLT, reduceCtorEq]; exact e5) ?_
          refine gi_iconst dX10_removeLine_71 ?_
          refine gi_isub dX10_removeLine_72 ?_
          refine gm_iast dX10_removeLine_73 (by decide) rfl (by decide) ⟨by omega, by simp only [ml9]; omega⟩ (by (try simp only [uA_s, uA_n, uA_ss, uA_cc, id_eq, ne_eq, not_false_eq_true, Nat.reduceEqDiff, Nat.reduceLT, reduceCtorEq]); rfl) ?_
          refine gg_aload_n dX10_removeLine_74 rfl rfl ?_
          refine gm_get13 rfl dX10_removeLine_75 ?_
          refine gi_iconst dX10_removeLine_78 ?_
          refine gg_iload_n dX10_removeLine_79 rfl ?_
          refine gi_iadd dX10_removeLine_80 ?_
          refine gm_iald dX10_removeLine_81 (by decide) rfl (by decide) ⟨by omega, by simp only [ml9]; omega⟩ (by simp only [uA_s, uA_n, uA_ss, uA_cc, id_eq, ne_eq, not_false_eq_true, Nat.reduceEqDiff, Nat.reduceLT, reduceCtorEq]; exact up_s) ?_
          subst hQF9
          refine gg_iret dX10_removeLine_82 rfl rfl ⟨(Nat.le_of_ble_eq_true rfl), (Nat.le_of_ble_eq_true rfl)⟩ ?_
          exact Or.inr ⟨by omega, rfl, by rw [show k = A 1 (5 + d) - 1 by omega]⟩
        · refine gg_aload_n dX10_removeLine_40 rfl rfl ?_
          refine gg_iload_n dX10_removeLine_41 rfl ?_
          refine gg_iload_n dX10_removeLine_42 rfl ?_
          refine gi_iconst dX10_removeLine_43 ?_
          refine gi_iadd dX10_removeLine_44 ?_
          refine gc_X10_221 rfl dX10_removeLine_45 ⟨(Nat.le_of_ble_eq_true rfl), (Nat.le_of_ble_eq_true rfl)⟩ ⟨(Nat.le_of_ble_eq_true rfl), (Nat.le_of_ble_eq_true rfl)⟩ (Nat.le_of_ble_eq_true rfl) (c_X10_lineAt) (fun _ _ w => w.elim) (fun r_45 h_45 hp => ?_)
          obtain ⟨rfl, rfl⟩ := hp
          refine gg_iload_n dX10_removeLine_48 rfl ?_
          refine gg_iload_n dX10_removeLine_49 rfl ?_
          refine gc_X10_221 rfl dX10_removeLine_50 ⟨(Nat.le_of_ble_eq_true rfl), (Nat.le_of_ble_eq_true rfl)⟩ ⟨(Nat.le_of_ble_eq_true rfl), (Nat.le_of_ble_eq_true rfl)⟩ (Nat.le_of_ble_eq_true rfl) (c_X10_lineAt) (fun _ _ w => w.elim) (fun r_50 h_50 hp => ?_)
          obtain ⟨rfl, rfl⟩ := hp
          refine gc_X10_227 rfl dX10_removeLine_53 ⟨(Nat.le_of_ble_eq_true rfl), (Nat.le_of_ble_eq_true rfl)⟩ ⟨(Nat.le_of_ble_eq_true rfl), (Nat.le_of_ble_eq_true rfl)⟩ (Nat.le_of_ble_eq_true rfl) (HAt.mu rfl) (c_X10_moves ⟨by omega, by omega⟩ ⟨by omega, by omega⟩ (by omega)) (fun _ _ w => w.elim) (fun r_53 h_53 hp => ?_)
          obtain ⟨rfl, rfl⟩ := hp
          simp only [uA_s, uA_n, uA_ss, uA_cc, id_eq, ne_eq, not_false_eq_true, Nat.reduceEqDiff, Nat.reduceLT, reduceCtorEq]
          refine gi_iinc dX10_removeLine_56 rfl (Nat.le_of_ble_eq_true rfl) rfl ?_
          refine gg_goto (tgt := 26) dX10_removeLine_59 (by decide) ?_
          refine gg_conv (ih_26 _ (by omega) (k + 1) rfl (by omega)) ?_ rfl rfl
          rw [show 169 + 61 * (10 * d + (k + 1)) = 169 + 61 * (10 * d + k) + 61 by omega, shd_b (by omega) (by omega)]
    refine gg_conv (L_26 _ l rfl (by omega)) (by rw [shd_0, uA_id]) rfl rfl
  · rw [bi_f] at c_11
    simp at c_11
    refine gg_aload_n dX10_removeLine_14 rfl rfl ?_
    refine gi_iconst dX10_removeLine_15 ?_
    refine gc_X10_162 rfl dX10_removeLine_16 ⟨(Nat.le_of_ble_eq_true rfl), (Nat.le_of_ble_eq_true rfl)⟩ ⟨(Nat.le_of_ble_eq_true rfl), (Nat.le_of_ble_eq_true rfl)⟩ (Nat.le_of_ble_eq_true rfl) (HAt.mu rfl) (c_X10_fails) (fun _ _ w => w.elim) (fun r_16 h_16 hp => ?_)
    obtain ⟨rfl, rfl⟩ := hp
    subst hQF9
    refine gg_iret dX10_removeLine_19 rfl rfl ⟨(Nat.le_of_ble_eq_true rfl), (Nat.le_of_ble_eq_true rfl)⟩ ?_
    exact Or.inl ⟨by omega, rfl, by rw [uF_ss]⟩
set_option maxRecDepth 100000 in
set_option maxHeartbeats 4000000 in
theorem c_X10_clearDraft {Γ : GT} {h : XH} {F : Nat → Int} {A : Nat → Int → Int} (S : StA (A 1)) (h5 : 0 ≤ F 5 ∧ F 5 ≤ 8) {d : Int} (hd : InR d) : Ct Γ M_X10_clearDraft [.ref (g_L Γ 0), .int (iN d)] (mst Γ h F A) (fun r h9 => (¬ (0 ≤ d ∧ d ≤ 3) ∧ r = some (.int (iN 0)) ∧ h9 = mst Γ h (uF F 0 1) A) ∨ ((0 ≤ d ∧ d ≤ 3) ∧ r = some (.int (iN (A 1 (5 + d)))) ∧ h9 = mst Γ h (uF (uF F 0 0) 5 (kc (F 5))) (uA (uA A 1 (up (A 1) (5 + d) 0)) 4 (kA A (F 5))))) (fun _ _ => False) := by
  refine Ct.of rfl (by decide +kernel) (Nat.le_of_ble_eq_true rfl) ?_
  generalize hQF9 : QM Γ _ _ _ = QF9
  obtain ⟨s0, s1, s2, s3, s4, s5, s6⟩ := id S
  refine gg_aload_n dX10_clearDraft_0 rfl rfl ?_
  refine gi_iconst dX10_clearDraft_1 ?_
  refine gm_put3 rfl dX10_clearDraft_2 (by (try simp only [uF_ss, uF_cc, id_eq, Nat.reduceLT, reduceCtorEq]); rfl) ?_
  refine gg_iload_n dX10_clearDraft_5 rfl ?_
  refine gc_X10_218 rfl dX10_clearDraft_6 ⟨(Nat.le_of_ble_eq_true rfl), (Nat.le_of_ble_eq_true rfl)⟩ ⟨(Nat.le_of_ble_eq_true rfl), (Nat.le_of_ble_eq_true rfl)⟩ (Nat.le_of_ble_eq_true rfl) (c_X10_isDraft (by assumption)) (fun _ _ w => w.elim) (fun r_6 h_6 hp => ?_)
  obtain ⟨rfl, rfl⟩ := hp
  refine gi_if_ne (tgt := 18) dX10_clearDraft_9 (by decide) (bi_r _) (fun c_9 => ?_) (fun c_9 => ?_)
  · rw [bi_t] at c_9
    simp at c_9
    refine gg_aload_n dX10_clearDraft_18 rfl rfl ?_
    refine gc_X10_184 rfl dX10_clearDraft_19 ⟨(Nat.le_of_ble_eq_true rfl), (Nat.le_of_ble_eq_true rfl)⟩ ⟨(Nat.le_of_ble_eq_true rfl), (Nat.le_of_ble_eq_true rfl)⟩ (Nat.le_of_ble_eq_true rfl) (HAt.mu rfl) (c_X10_keeps (by simp only [uF_s, uF_n, uF_ss, uF_cc, id_eq, ne_eq, not_false_eq_true, Nat.reduceEqDiff, Nat.reduceLT, reduceCtorEq]; exact h5)) (fun _ _ w => w.elim) (fun r_19 h_19 hp => ?_)
    obtain ⟨rfl, rfl⟩ := hp
    simp only [uF_s, uF_n, uF_ss, uF_cc, id_eq, ne_eq, not_false_eq_true, Nat.reduceEqDiff, Nat.reduceLT, reduceCtorEq]
    refine gg_aload_n dX10_clearDraft_22 rfl rfl ?_
    refine gm_get13 rfl dX10_clearDraft_23 ?_
    refine gi_iconst dX10_clearDraft_26 ?_
    refine gg_iload_n dX10_clearDraft_27 rfl ?_
    refine gi_iadd dX10_clearDraft_28 ?_
    refine gm_iald dX10_clearDraft_29 (by decide) rfl (by decide) ⟨by omega, by simp only [ml9]; omega⟩ (by (try simp only [uA_s, uA_n, ne_eq, not_false_eq_true, Nat.reduceEqDiff, reduceCtorEq]); rfl) ?_
    refine gg_istore_n dX10_clearDraft_30 (Nat.le_of_ble_eq_true rfl) rfl ?_
    refine gg_aload_n dX10_clearDraft_31 rfl rfl ?_
    refine gm_get13 rfl dX10_clearDraft_32 ?_
    refine gi_iconst dX10_clearDraft_35 ?_
    refine gg_iload_n dX10_clearDraft_36 rfl ?_
    refine gi_iadd dX10_clearDraft_37 ?_
    refine gi_iconst dX10_clearDraft_38 ?_
    refine gm_iast dX10_clearDraft_39 (by decide) rfl (by decide) ⟨by omega, by simp only [ml9]; omega⟩ (by (try simp only [uA_s, uA_n, uA_ss, uA_cc, id_eq, ne_eq, not_false_eq_true, Nat.reduceEqDiff, Nat.reduceLT, reduceCtorEq]); rfl) ?_
    refine gg_iload_n dX10_clearDraft_40 rfl ?_
    subst hQF9
    refine gg_iret dX10_clearDraft_41 rfl rfl ⟨(Nat.le_of_ble_eq_true rfl), (Nat.le_of_ble_eq_true rfl)⟩ ?_
    exact Or.inr ⟨by omega, rfl, rfl⟩
  · rw [bi_f] at c_9
    simp at c_9
    refine gg_aload_n dX10_clearDraft_12 rfl rfl ?_
    refine gi_iconst dX10_clearDraft_13 ?_
    refine gc_X10_162 rfl dX10_clearDraft_14 ⟨(Nat.le_of_ble_eq_true rfl), (Nat.le_of_ble_eq_true rfl)⟩ ⟨(Nat.le_of_ble_eq_true rfl), (Nat.le_of_ble_eq_true rfl)⟩ (Nat.le_of_ble_eq_true rfl) (HAt.mu rfl) (c_X10_fails) (fun _ _ w => w.elim) (fun r_14 h_14 hp => ?_)
    obtain ⟨rfl, rfl⟩ := hp
    subst hQF9
    refine gg_iret dX10_clearDraft_17 rfl rfl ⟨(Nat.le_of_ble_eq_true rfl), (Nat.le_of_ble_eq_true rfl)⟩ ?_
    exact Or.inl ⟨by omega, rfl, by rw [uF_ss]⟩
set_option maxRecDepth 100000 in
set_option maxHeartbeats 4000000 in
theorem c_X10_lines {Γ : GT} {h : XH} {F : Nat → Int} {A : Nat → Int → Int} (S : StA (A 1)) : Ct Γ M_X10_lines [.ref (g_L Γ 0)] (mst Γ h F A) (fun r h9 => r = some (.int (iN (A 1 5 + A 1 6 + A 1 7 + A 1 8))) ∧ h9 = mst Γ h F A) (fun _ _ => False) := by
  refine Ct.of rfl (by decide +kernel) (Nat.le_of_ble_eq_true rfl) ?_
  generalize hQF9 : QM Γ _ _ _ = QF9
  obtain ⟨s0, s1, s2, s3, s4, s5, s6⟩ := id S
  refine gi_iconst dX10_lines_0 ?_
  refine gg_istore_n dX10_lines_1 (Nat.le_of_ble_eq_true rfl) rfl ?_
  refine gi_iconst dX10_lines_2 ?_
  refine gg_istore_n dX10_lines_3 (Nat.le_of_ble_eq_true rfl) rfl ?_
  refine gg_iload_n dX10_lines_4 rfl ?_
  refine gi_iconst dX10_lines_5 ?_
  refine gi_icmp_ge (tgt := 26) dX10_lines_6 (by decide) ⟨by omega, by omega⟩ ⟨by omega, by omega⟩ (fun c9 => absurd c9 (by decide)) (fun c9 => ?_)
  refine gg_iload_n dX10_lines_9 rfl ?_
  refine gg_aload_n dX10_lines_10 rfl rfl ?_
  refine gm_get13 rfl dX10_lines_11 ?_
  refine gi_iconst dX10_lines_14 ?_
  refine gg_iload_n dX10_lines_15 rfl ?_
  refine gi_iadd dX10_lines_16 ?_
  refine gm_iald dX10_lines_17 (by decide) rfl (by decide) ⟨by omega, by simp only [ml9]; omega⟩ (by (try simp only [uA_s, uA_n, ne_eq, not_false_eq_true, Nat.reduceEqDiff, reduceCtorEq]); rfl) ?_
  refine gi_iadd dX10_lines_18 ?_
  refine gg_istore_n dX10_lines_19 (Nat.le_of_ble_eq_true rfl) rfl ?_
  refine gi_iinc dX10_lines_20 rfl (Nat.le_of_ble_eq_true rfl) rfl ?_
  refine gg_goto (tgt := 4) dX10_lines_23 (by decide) ?_
  refine gg_iload_n dX10_lines_4 rfl ?_
  refine gi_iconst dX10_lines_5 ?_
  refine gi_icmp_ge (tgt := 26) dX10_lines_6 (by decide) ⟨by omega, by omega⟩ ⟨by omega, by omega⟩ (fun c9 => absurd c9 (by decide)) (fun c9 => ?_)
  refine gg_iload_n dX10_lines_9 rfl ?_
  refine gg_aload_n dX10_lines_10 rfl rfl ?_
  refine gm_get13 rfl dX10_lines_11 ?_
  refine gi_iconst dX10_lines_14 ?_
  refine gg_iload_n dX10_lines_15 rfl ?_
  refine gi_iadd dX10_lines_16 ?_
  refine gm_iald dX10_lines_17 (by decide) rfl (by decide) ⟨by omega, by simp only [ml9]; omega⟩ (by (try simp only [uA_s, uA_n, ne_eq, not_false_eq_true, Nat.reduceEqDiff, reduceCtorEq]); rfl) ?_
  refine gi_iadd dX10_lines_18 ?_
  refine gg_istore_n dX10_lines_19 (Nat.le_of_ble_eq_true rfl) rfl ?_
  refine gi_iinc dX10_lines_20 rfl (Nat.le_of_ble_eq_true rfl) rfl ?_
  refine gg_goto (tgt := 4) dX10_lines_23 (by decide) ?_
  refine gg_iload_n dX10_lines_4 rfl ?_
  refine gi_iconst dX10_lines_5 ?_
  refine gi_icmp_ge (tgt := 26) dX10_lines_6 (by decide) ⟨by omega, by omega⟩ ⟨by omega, by omega⟩ (fun c9 => absurd c9 (by decide)) (fun c9 => ?_)
  refine gg_iload_n dX10_lines_9 rfl ?_
  refine gg_aload_n dX10_lines_10 rfl rfl ?_
  refine gm_get13 rfl dX10_lines_11 ?_
  refine gi_iconst dX10_lines_14 ?_
  refine gg_iload_n dX10_lines_15 rfl ?_
  refine gi_iadd dX10_lines_16 ?_
  refine gm_iald dX10_lines_17 (by decide) rfl (by decide) ⟨by omega, by simp only [ml9]; omega⟩ (by (try simp only [uA_s, uA_n, ne_eq, not_false_eq_true, Nat.reduceEqDiff, reduceCtorEq]); rfl) ?_
  refine gi_iadd dX10_lines_18 ?_
  refine gg_istore_n dX10_lines_19 (Nat.le_of_ble_eq_true rfl) rfl ?_
  refine gi_iinc dX10_lines_20 rfl (Nat.le_of_ble_eq_true rfl) rfl ?_
  refine gg_goto (tgt := 4) dX10_lines_23 (by decide) ?_
  refine gg_iload_n dX10_lines_4 rfl ?_
  refine gi_iconst dX10_lines_5 ?_
  refine gi_icmp_ge (tgt := 26) dX10_lines_6 (by decide) ⟨by omega, by omega⟩ ⟨by omega, by omega⟩ (fun c9 => absurd c9 (by decide)) (fun c9 => ?_)
  refine gg_iload_n dX10_lines_9 rfl ?_
  refine gg_aload_n dX10_lines_10 rfl rfl ?_
  refine gm_get13 rfl dX10_lines_11 ?_
  refine gi_iconst dX10_lines_14 ?_
  refine gg_iload_n dX10_lines_15 rfl ?_
  refine gi_iadd dX10_lines_16 ?_
  refine gm_iald dX10_lines_17 (by decide) rfl (by decide) ⟨by omega, by simp only [ml9]; omega⟩ (by (try simp only [uA_s, uA_n, ne_eq, not_false_eq_true, Nat.reduceEqDiff, reduceCtorEq]); rfl) ?_
  refine gi_iadd dX10_lines_18 ?_
  refine gg_istore_n dX10_lines_19 (Nat.le_of_ble_eq_true rfl) rfl ?_
  refine gi_iinc dX10_lines_20 rfl (Nat.le_of_ble_eq_true rfl) rfl ?_
  refine gg_goto (tgt := 4) dX10_lines_23 (by decide) ?_
  refine gg_iload_n dX10_lines_4 rfl ?_
  refine gi_iconst dX10_lines_5 ?_
  refine gi_icmp_ge (tgt := 26) dX10_lines_6 (by decide) ⟨by omega, by omega⟩ ⟨by omega, by omega⟩ (fun c9 => ?_) (fun c9 => absurd c9 (by decide))
  refine gg_iload_n dX10_lines_26 rfl ?_
  subst hQF9
  refine gg_iret dX10_lines_27 rfl rfl ⟨(Nat.le_of_ble_eq_true rfl), (Nat.le_of_ble_eq_true rfl)⟩ ?_
  exact ⟨by simp, rfl⟩
set_option maxRecDepth 100000 in
set_option maxHeartbeats 4000000 in
theorem c_X10_undo {Γ : GT} {h : XH} {F : Nat → Int} {A : Nat → Int → Int} (h5 : 0 ≤ F 5 ∧ F 5 ≤ 8) : Ct Γ M_X10_undo [.ref (g_L Γ 0)] (mst Γ h F A) (fun r h9 => (F 5 = 0 ∧ r = some (.int (iN 0)) ∧ h9 = mst Γ h (uF F 0 1) A) ∨ (0 < F 5 ∧ r = some (.int (iN (F 5 - 1))) ∧ h9 = mst Γ h (uF (uF F 0 0) 5 (F 5 - 1)) (uA A 1 (cp (A 4) (A 1) (2609 * (F 5 - 1)) 0 2609)))) (fun _ _ => False) := by
  refine Ct.of rfl (by decide +kernel) (Nat.le_of_ble_eq_true rfl) ?_
  generalize hQF9 : QM Γ _ _ _ = QF9
  refine gg_aload_n dX10_undo_0 rfl rfl ?_
  refine gi_iconst dX10_undo_1 ?_
  refine gm_put3 rfl dX10_undo_2 (by (try simp only [uF_ss, uF_cc, id_eq, Nat.reduceLT, reduceCtorEq]); rfl) ?_
  refine gg_aload_n dX10_undo_5 rfl rfl ?_
  refine gm_get26 rfl dX10_undo_6 (by (try simp only [uF_s, uF_n, ne_eq, not_false_eq_true, Nat.reduceEqDiff, reduceCtorEq]); rfl) ?_
  refine gi_if_ne (tgt := 18) dX10_undo_9 (by decide) ⟨by omega, by omega⟩ (fun c_9 => ?_) (fun c_9 => ?_)
  · refine gg_aload_n dX10_undo_18 rfl rfl ?_
    refine gg_dup dX10_undo_19 rfl ?_
    refine gm_get26 rfl dX10_undo_20 (by (try simp only [uF_s, uF_n, ne_eq, not_false_eq_true, Nat.reduceEqDiff, reduceCtorEq]); rfl) ?_
    refine gi_iconst dX10_undo_23 ?_
    refine gi_isub dX10_undo_24 ?_
    refine gm_put26 rfl dX10_undo_25 (by (try simp only [uF_ss, uF_cc, id_eq, Nat.reduceLT, reduceCtorEq]); rfl) ?_
    refine gg_aload_n dX10_undo_28 rfl rfl ?_
    refine gm_get23 rfl dX10_undo_29 ?_
    refine gi_sipush dX10_undo_32 (by decide) ?_
    refine gg_aload_n dX10_undo_35 rfl rfl ?_
    refine gm_get26 rfl dX10_undo_36 (by (try simp only [uF_s, uF_n, ne_eq, not_false_eq_true, Nat.reduceEqDiff, reduceCtorEq]); rfl) ?_
    refine gi_imul dX10_undo_39 ?_
    refine gg_aload_n dX10_undo_40 rfl rfl ?_
    refine gm_get13 rfl dX10_undo_41 ?_
    refine gi_iconst dX10_undo_44 ?_
    refine gc_X10_154 rfl dX10_undo_45 ⟨(Nat.le_of_ble_eq_true rfl), (Nat.le_of_ble_eq_true rfl)⟩ ⟨(Nat.le_of_ble_eq_true rfl), (Nat.le_of_ble_eq_true rfl)⟩ (Nat.le_of_ble_eq_true rfl) (c_X10_copies (ja := 4) (jb := 1) (by decide) (by decide) rfl rfl (by decide) (by decide) ⟨by omega, by simp only [ml9]; omega⟩ ⟨by omega, by simp only [ml9]; omega⟩ (Or.inl (by decide))) (fun _ _ w => w.elim) (fun r_45 h_45 hp => ?_)
    obtain ⟨rfl, rfl⟩ := hp
    simp only [uA_s, uA_n, uA_ss, uA_cc, id_eq, ne_eq, not_false_eq_true, Nat.reduceEqDiff, Nat.reduceLT, reduceCtorEq]
    refine gg_aload_n dX10_undo_48 rfl rfl ?_
    refine gm_get26 rfl dX10_undo_49 (by (try simp only [uF_s, uF_n, ne_eq, not_false_eq_true, Nat.reduceEqDiff, reduceCtorEq]); rfl) ?_
    subst hQF9
    refine gg_iret dX10_undo_52 rfl rfl ⟨(Nat.le_of_ble_eq_true rfl), (Nat.le_of_ble_eq_true rfl)⟩ ?_
    exact Or.inr ⟨by omega, rfl, rfl⟩
  · refine gg_aload_n dX10_undo_12 rfl rfl ?_
    refine gi_iconst dX10_undo_13 ?_
    refine gc_X10_162 rfl dX10_undo_14 ⟨(Nat.le_of_ble_eq_true rfl), (Nat.le_of_ble_eq_true rfl)⟩ ⟨(Nat.le_of_ble_eq_true rfl), (Nat.le_of_ble_eq_true rfl)⟩ (Nat.le_of_ble_eq_true rfl) (HAt.mu rfl) (c_X10_fails) (fun _ _ w => w.elim) (fun r_14 h_14 hp => ?_)
    obtain ⟨rfl, rfl⟩ := hp
    subst hQF9
    refine gg_iret dX10_undo_17 rfl rfl ⟨(Nat.le_of_ble_eq_true rfl), (Nat.le_of_ble_eq_true rfl)⟩ ?_
    exact Or.inl ⟨by omega, rfl, by rw [uF_ss]⟩
set_option maxRecDepth 100000 in
set_option maxHeartbeats 4000000 in
theorem c_X10_save {Γ : GT} {h : XH} {F : Nat → Int} {A : Nat → Int → Int} (S : StA (A 1)) : Ct Γ M_X10_save [.ref (g_L Γ 0)] (mst Γ h F A) (fun r h9 => r = some (.int (iN (A 1 5 + A 1 6 + A 1 7 + A 1 8))) ∧ h9 = mst Γ h (uF F 6 1) (uA A 3 (cp (A 1) (A 3) 0 0 2609))) (fun _ _ => False) := by
  refine Ct.of rfl (by decide +kernel) (Nat.le_of_ble_eq_true rfl) ?_
  generalize hQF9 : QM Γ _ _ _ = QF9
  refine gg_aload_n dX10_save_0 rfl rfl ?_
  refine gm_get13 rfl dX10_save_1 ?_
  refine gi_iconst dX10_save_4 ?_
  refine gg_aload_n dX10_save_5 rfl rfl ?_
  refine gm_get20 rfl dX10_save_6 ?_
  refine gi_iconst dX10_save_9 ?_
  refine gc_X10_154 rfl dX10_save_10 ⟨(Nat.le_of_ble_eq_true rfl), (Nat.le_of_ble_eq_true rfl)⟩ ⟨(Nat.le_of_ble_eq_true rfl), (Nat.le_of_ble_eq_true rfl)⟩ (Nat.le_of_ble_eq_true rfl) (c_X10_copies (ja := 1) (jb := 3) (by decide) (by decide) rfl rfl (by decide) (by decide) ⟨by omega, by simp only [ml9]; omega⟩ ⟨by omega, by simp only [ml9]; omega⟩ (Or.inl (by decide))) (fun _ _ w => w.elim) (fun r_10 h_10 hp => ?_)
  obtain ⟨rfl, rfl⟩ := hp
  simp only [uA_s, uA_n, uA_ss, uA_cc, id_eq, ne_eq, not_false_eq_true, Nat.reduceEqDiff, Nat.reduceLT, reduceCtorEq]
  refine gg_aload_n dX10_save_13 rfl rfl ?_
  refine gi_iconst dX10_save_14 ?_
  refine gm_put29 rfl dX10_save_15 (by omega) (by (try simp only [uF_ss, uF_cc, id_eq, Nat.reduceLT, reduceCtorEq]); rfl) ?_
  refine gg_aload_n dX10_save_18 rfl rfl ?_
  refine gc_X10_355 rfl dX10_save_19 ⟨(Nat.le_of_ble_eq_true rfl), (Nat.le_of_ble_eq_true rfl)⟩ ⟨(Nat.le_of_ble_eq_true rfl), (Nat.le_of_ble_eq_true rfl)⟩ (Nat.le_of_ble_eq_true rfl) (HAt.mu rfl) (c_X10_lines (by simp only [uA_s, uA_n, uA_ss, uA_cc, id_eq, ne_eq, not_false_eq_true, Nat.reduceEqDiff, Nat.reduceLT, reduceCtorEq]; exact S)) (fun _ _ w => w.elim) (fun r_19 h_19 hp => ?_)
  obtain ⟨rfl, rfl⟩ := hp
  simp only [uA_s, uA_n, uA_ss, uA_cc, id_eq, ne_eq, not_false_eq_true, Nat.reduceEqDiff, Nat.reduceLT, reduceCtorEq]
  subst hQF9
  refine gg_iret dX10_save_22 rfl rfl ⟨(Nat.le_of_ble_eq_true rfl), (Nat.le_of_ble_eq_true rfl)⟩ ?_
  exact ⟨rfl, rfl⟩
theorem sta_cp {f g : Int → Int} (S : StA f) (T : ∀ x, InR (g x)) : StA (cp f g 0 0 2609) := by
  obtain ⟨s0, s1, s2, s3, s4, s5, s6⟩ := S
  have e9 : ∀ x, 0 ≤ x → x < 2609 → cp f g 0 0 2609 x = f x := fun x h1 h2 => by unfold cp; rw [if_pos (by omega)]; congr 1; omega
  refine ⟨by rw [e9 0 (by omega) (by omega)]; exact s0, by rw [e9 1 (by omega) (by omega)]; exact s1, by rw [e9 1 (by omega) (by omega), e9 2 (by omega) (by omega)]; exact s2, by rw [e9 3 (by omega) (by omega)]; exact s3, by rw [e9 4 (by omega) (by omega)]; exact s4, fun d h1 h2 => by rw [e9 (5 + d) (by omega) (by omega)]; exact s5 d h1 h2, fun x => ?_⟩
  unfold cp
  split
  · exact s6 _
  · exact T _
set_option maxRecDepth 100000 in
set_option maxHeartbeats 4000000 in
theorem c_X10_restore {Γ : GT} {h : XH} {F : Nat → Int} {A : Nat → Int → Int} (S : StA (A 3)) (T : ∀ x, InR (A 1 x)) (h6 : F 6 = 0 ∨ F 6 = 1) : Ct Γ M_X10_restore [.ref (g_L Γ 0)] (mst Γ h F A) (fun r h9 => (F 6 = 0 ∧ r = some (.int (iN 0)) ∧ h9 = mst Γ h (uF F 0 1) A) ∨ (F 6 = 1 ∧ r = some (.int (iN (A 3 5 + A 3 6 + A 3 7 + A 3 8))) ∧ h9 = mst Γ h (uF (uF F 0 0) 5 0) (uA A 1 (cp (A 3) (A 1) 0 0 2609)))) (fun _ _ => False) := by
  refine Ct.of rfl (by decide +kernel) (Nat.le_of_ble_eq_true rfl) ?_
  generalize hQF9 : QM Γ _ _ _ = QF9
  have hcs : StA (cp (A 3) (A 1) 0 0 2609) ∨ True := Or.inr trivial
  refine gg_aload_n dX10_restore_0 rfl rfl ?_
  refine gi_iconst dX10_restore_1 ?_
  refine gm_put3 rfl dX10_restore_2 (by (try simp only [uF_ss, uF_cc, id_eq, Nat.reduceLT, reduceCtorEq]); rfl) ?_
  refine gg_aload_n dX10_restore_5 rfl rfl ?_
  refine gm_get29 rfl dX10_restore_6 (by (try simp only [uF_s, uF_n, ne_eq, not_false_eq_true, Nat.reduceEqDiff, reduceCtorEq]); rfl) ?_
  refine gi_if_ne (tgt := 18) dX10_restore_9 (by decide) ⟨by omega, by omega⟩ (fun c_9 => ?_) (fun c_9 => ?_)
  · refine gg_aload_n dX10_restore_18 rfl rfl ?_
    refine gm_get20 rfl dX10_restore_19 ?_
    refine gi_iconst dX10_restore_22 ?_
    refine gg_aload_n dX10_restore_23 rfl rfl ?_
    refine gm_get13 rfl dX10_restore_24 ?_
    refine gi_iconst dX10_restore_27 ?_
    refine gc_X10_154 rfl dX10_restore_28 ⟨(Nat.le_of_ble_eq_true rfl), (Nat.le_of_ble_eq_true rfl)⟩ ⟨(Nat.le_of_ble_eq_true rfl), (Nat.le_of_ble_eq_true rfl)⟩ (Nat.le_of_ble_eq_true rfl) (c_X10_copies (ja := 3) (jb := 1) (by decide) (by decide) rfl rfl (by decide) (by decide) ⟨by omega, by simp only [ml9]; omega⟩ ⟨by omega, by simp only [ml9]; omega⟩ (Or.inl (by decide))) (fun _ _ w => w.elim) (fun r_28 h_28 hp => ?_)
    obtain ⟨rfl, rfl⟩ := hp
    simp only [uA_s, uA_n, uA_ss, uA_cc, id_eq, ne_eq, not_false_eq_true, Nat.reduceEqDiff, Nat.reduceLT, reduceCtorEq]
    refine gg_aload_n dX10_restore_31 rfl rfl ?_
    refine gi_iconst dX10_restore_32 ?_
    refine gm_put26 rfl dX10_restore_33 (by (try simp only [uF_ss, uF_cc, id_eq, Nat.reduceLT, reduceCtorEq]); rfl) ?_
    refine gg_aload_n dX10_restore_36 rfl rfl ?_
    refine gc_X10_355 rfl dX10_restore_37 ⟨(Nat.le_of_ble_eq_true rfl), (Nat.le_of_ble_eq_true rfl)⟩ ⟨(Nat.le_of_ble_eq_true rfl), (Nat.le_of_ble_eq_true rfl)⟩ (Nat.le_of_ble_eq_true rfl) (HAt.mu rfl) (c_X10_lines (by simp only [uA_s, uA_n, uA_ss, uA_cc, id_eq, ne_eq, not_false_eq_true, Nat.reduceEqDiff, Nat.reduceLT, reduceCtorEq]; exact sta_cp S T)) (fun _ _ w => w.elim) (fun r_37 h_37 hp => ?_)
    obtain ⟨rfl, rfl⟩ := hp
    simp only [uA_s, uA_n, uA_ss, uA_cc, id_eq, ne_eq, not_false_eq_true, Nat.reduceEqDiff, Nat.reduceLT, reduceCtorEq]
    subst hQF9
    refine gg_iret dX10_restore_40 rfl rfl ⟨(Nat.le_of_ble_eq_true rfl), (Nat.le_of_ble_eq_true rfl)⟩ ?_
    exact Or.inr ⟨by omega, by simp [cp], rfl⟩
  · refine gg_aload_n dX10_restore_12 rfl rfl ?_
    refine gi_iconst dX10_restore_13 ?_
    refine gc_X10_162 rfl dX10_restore_14 ⟨(Nat.le_of_ble_eq_true rfl), (Nat.le_of_ble_eq_true rfl)⟩ ⟨(Nat.le_of_ble_eq_true rfl), (Nat.le_of_ble_eq_true rfl)⟩ (Nat.le_of_ble_eq_true rfl) (HAt.mu rfl) (c_X10_fails) (fun _ _ w => w.elim) (fun r_14 h_14 hp => ?_)
    obtain ⟨rfl, rfl⟩ := hp
    subst hQF9
    refine gg_iret dX10_restore_17 rfl rfl ⟨(Nat.le_of_ble_eq_true rfl), (Nat.le_of_ble_eq_true rfl)⟩ ?_
    exact Or.inl ⟨by omega, rfl, by rw [uF_ss]⟩
def LnA (a : Int → Int) : Prop := ∀ d l, 0 ≤ d → d ≤ 3 → 0 ≤ l → l < a (5 + d) → (1 ≤ a (169 + 61 * (10 * d + l)) ∧ a (169 + 61 * (10 * d + l)) ≤ 60) ∧ (∀ k, 0 ≤ k → k < a (169 + 61 * (10 * d + l)) → 0 ≤ a (169 + 61 * (10 * d + l) + 1 + k) ∧ a (169 + 61 * (10 * d + l) + 1 + k) < 65536) ∧ (parseL (fun k => a (169 + 61 * (10 * d + l) + 1 + k)) (a (169 + 61 * (10 * d + l))) 12 0).1 = true
set_option maxRecDepth 100000 in
set_option maxHeartbeats 4000000 in
theorem c_X10_character {Γ : GT} {h : XH} {F : Nat → Int} {A : Nat → Int → Int} (S : StA (A 1)) (N : LnA (A 1)) {d l : Int} (hd : InR d) (hl : InR l) {p : Int} (hp9 : InR p) : Ct Γ M_X10_character [.ref (g_L Γ 0), .int (iN d), .int (iN l), .int (iN p)] (mst Γ h F A) (fun r h9 => (¬ ((0 ≤ d ∧ d ≤ 3 ∧ 0 ≤ l ∧ l < A 1 (5 + d)) ∧ 0 ≤ p ∧ p < A 1 (169 + 61 * (10 * d + l))) ∧ r = some (.int (iN 0)) ∧ h9 = mst Γ h (uF F 0 1) A) ∨ (((0 ≤ d ∧ d ≤ 3 ∧ 0 ≤ l ∧ l < A 1 (5 + d)) ∧ 0 ≤ p ∧ p < A 1 (169 + 61 * (10 * d + l))) ∧ r = some (.int (iN (A 1 ((169 + 61 * (10 * d + l)) + 1 + p)))) ∧ h9 = mst Γ h (uF F 0 0) A)) (fun _ _ => False) := by
  refine Ct.of rfl (by decide +kernel) (Nat.le_of_ble_eq_true rfl) ?_
  generalize hQF9 : QM Γ _ _ _ = QF9
  obtain ⟨s0, s1, s2, s3, s4, s5, s6⟩ := id S
  refine gg_aload_n dX10_character_0 rfl rfl ?_
  refine gi_iconst dX10_character_1 ?_
  refine gm_put3 rfl dX10_character_2 (by (try simp only [uF_ss, uF_cc, id_eq, Nat.reduceLT, reduceCtorEq]); rfl) ?_
  refine gg_aload_n dX10_character_5 rfl rfl ?_
  refine gg_iload_n dX10_character_6 rfl ?_
  refine gg_iload_n dX10_character_7 rfl ?_
  refine gc_X10_234 rfl dX10_character_8 ⟨(Nat.le_of_ble_eq_true rfl), (Nat.le_of_ble_eq_true rfl)⟩ ⟨(Nat.le_of_ble_eq_true rfl), (Nat.le_of_ble_eq_true rfl)⟩ (Nat.le_of_ble_eq_true rfl) (HAt.mu rfl) (c_X10_isLine (by exact S) (by assumption) (by assumption)) (fun _ _ w => w.elim) (fun r_8 h_8 hp => ?_)
  obtain ⟨rfl, rfl⟩ := hp
  refine gi_if_eq (tgt := 34) dX10_character_11 (by decide) (bi_r _) (fun c_11 => ?_) (fun c_11 => ?_)
  · rw [bi_f] at c_11
    simp at c_11
    refine gg_aload_n dX10_character_34 rfl rfl ?_
    refine gi_iconst dX10_character_35 ?_
    refine gc_X10_162 rfl dX10_character_36 ⟨(Nat.le_of_ble_eq_true rfl), (Nat.le_of_ble_eq_true rfl)⟩ ⟨(Nat.le_of_ble_eq_true rfl), (Nat.le_of_ble_eq_true rfl)⟩ (Nat.le_of_ble_eq_true rfl) (HAt.mu rfl) (c_X10_fails) (fun _ _ w => w.elim) (fun r_36 h_36 hp => ?_)
    obtain ⟨rfl, rfl⟩ := hp
    refine gi_i2c dX10_character_39 ⟨by omega, by omega⟩ ?_
    subst hQF9
    refine gg_iret dX10_character_40 rfl (nar_char ⟨by omega, by omega⟩) ⟨(Nat.le_of_ble_eq_true rfl), (Nat.le_of_ble_eq_true rfl)⟩ ?_
    exact Or.inl ⟨by omega, rfl, by rw [uF_ss]⟩
  · rw [bi_t] at c_11
    simp at c_11
    have q5 := s5 d (by omega) (by omega)
    obtain ⟨n1, n2, n3⟩ := N d l (by omega) (by omega) (by omega) (by omega)
    refine gg_iload_n dX10_character_14 rfl ?_
    refine gi_iconst dX10_character_15 ?_
    refine gg_aload_n dX10_character_16 rfl rfl ?_
    refine gm_get13 rfl dX10_character_17 ?_
    refine gg_iload_n dX10_character_20 rfl ?_
    refine gg_iload_n dX10_character_21 rfl ?_
    refine gc_X10_221 rfl dX10_character_22 ⟨(Nat.le_of_ble_eq_true rfl), (Nat.le_of_ble_eq_true rfl)⟩ ⟨(Nat.le_of_ble_eq_true rfl), (Nat.le_of_ble_eq_true rfl)⟩ (Nat.le_of_ble_eq_true rfl) (c_X10_lineAt) (fun _ _ w => w.elim) (fun r_22 h_22 hp => ?_)
    obtain ⟨rfl, rfl⟩ := hp
    refine gm_iald dX10_character_25 (by decide) rfl (by decide) ⟨by omega, by simp only [ml9]; omega⟩ (by (try simp only [uA_s, uA_n, ne_eq, not_false_eq_true, Nat.reduceEqDiff, reduceCtorEq]); rfl) ?_
    refine gi_iconst dX10_character_26 ?_
    refine gi_isub dX10_character_27 ?_
    refine gc_X10_158 rfl dX10_character_28 ⟨(Nat.le_of_ble_eq_true rfl), (Nat.le_of_ble_eq_true rfl)⟩ ⟨(Nat.le_of_ble_eq_true rfl), (Nat.le_of_ble_eq_true rfl)⟩ (Nat.le_of_ble_eq_true rfl) (c_X10_in (by assumption) ⟨by omega, by omega⟩ ⟨by omega, by omega⟩) (fun _ _ w => w.elim) (fun r_28 h_28 hp => ?_)
    obtain ⟨rfl, rfl⟩ := hp
    refine gi_if_ne (tgt := 41) dX10_character_31 (by decide) (bi_r _) (fun c_31 => ?_) (fun c_31 => ?_)
    · rw [bi_t] at c_31
      simp at c_31
      have n4 := n2 p (by omega) (by omega)
      refine gg_aload_n dX10_character_41 rfl rfl ?_
      refine gm_get13 rfl dX10_character_42 ?_
      refine gg_iload_n dX10_character_45 rfl ?_
      refine gg_iload_n dX10_character_46 rfl ?_
      refine gc_X10_221 rfl dX10_character_47 ⟨(Nat.le_of_ble_eq_true rfl), (Nat.le_of_ble_eq_true rfl)⟩ ⟨(Nat.le_of_ble_eq_true rfl), (Nat.le_of_ble_eq_true rfl)⟩ (Nat.le_of_ble_eq_true rfl) (c_X10_lineAt) (fun _ _ w => w.elim) (fun r_47 h_47 hp => ?_)
      obtain ⟨rfl, rfl⟩ := hp
      refine gi_iconst dX10_character_50 ?_
      refine gi_iadd dX10_character_51 ?_
      refine gg_iload_n dX10_character_52 rfl ?_
      refine gi_iadd dX10_character_53 ?_
      refine gm_iald dX10_character_54 (by decide) rfl (by decide) ⟨by omega, by simp only [ml9]; omega⟩ (by (try simp only [uA_s, uA_n, ne_eq, not_false_eq_true, Nat.reduceEqDiff, reduceCtorEq]); rfl) ?_
      refine gi_i2c dX10_character_55 n4 ?_
      subst hQF9
      refine gg_iret dX10_character_56 rfl (nar_char n4) ⟨(Nat.le_of_ble_eq_true rfl), (Nat.le_of_ble_eq_true rfl)⟩ ?_
      exact Or.inr ⟨by omega, rfl, rfl⟩
    · rw [bi_f] at c_31
      simp at c_31
      refine gg_aload_n dX10_character_34 rfl rfl ?_
      refine gi_iconst dX10_character_35 ?_
      refine gc_X10_162 rfl dX10_character_36 ⟨(Nat.le_of_ble_eq_true rfl), (Nat.le_of_ble_eq_true rfl)⟩ ⟨(Nat.le_of_ble_eq_true rfl), (Nat.le_of_ble_eq_true rfl)⟩ (Nat.le_of_ble_eq_true rfl) (HAt.mu rfl) (c_X10_fails) (fun _ _ w => w.elim) (fun r_36 h_36 hp => ?_)
      obtain ⟨rfl, rfl⟩ := hp
      refine gi_i2c dX10_character_39 ⟨by omega, by omega⟩ ?_
      subst hQF9
      refine gg_iret dX10_character_40 rfl (nar_char ⟨by omega, by omega⟩) ⟨(Nat.le_of_ble_eq_true rfl), (Nat.le_of_ble_eq_true rfl)⟩ ?_
      exact Or.inl ⟨by omega, rfl, by rw [uF_ss]⟩
