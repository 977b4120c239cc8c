/-! the reference: the state that changes -/
def shf (f : Int → Int) (k : Int) : Int → Int := fun j => if 0 ≤ j ∧ j < 2609 * (k - 1) then f (j + 2609) else f j
theorem shf_1 {f : Int → Int} : shf f 1 = f := by
  funext j
  unfold shf
  rw [if_neg (by omega)]
theorem shf_s {f : Int → Int} {k : Int} (hk : 1 ≤ k) : cp (shf f k) (shf f k) (2609 * k) (2609 * (k - 1)) 2609 = shf f (k + 1) := by
  funext j
  unfold cp shf
  by_cases h : 2609 * (k - 1) ≤ j ∧ j < 2609 * (k - 1) + 2609
  · rw [if_pos h, if_neg (by omega), if_pos (by omega)]
    congr 1
    omega
  · rw [if_neg h]
    by_cases h2 : 0 ≤ j ∧ j < 2609 * (k - 1)
    · rw [if_pos h2, if_pos (by omega)]
    · rw [if_neg h2, if_neg (by omega)]
def kc (c : Int) : Int := if c = 8 then 8 else c + 1
def kA (A : Nat → Int → Int) (c : Int) : Int → Int := if c = 8 then cp (A 1) (shf (A 4) 8) 0 (2609 * 7) 2609 else cp (A 1) (A 4) 0 (2609 * c) 2609
set_option maxRecDepth 100000 in
set_option maxHeartbeats 4000000 in
theorem c_X10_keeps {Γ : GT} {h : XH} {F : Nat → Int} {A : Nat → Int → Int} (h5 : 0 ≤ F 5 ∧ F 5 ≤ 8) : Ct Γ M_X10_keeps [.ref (g_L Γ 0)] (mst Γ h F A) (fun r h9 => r = none ∧ h9 = mst Γ h (uF F 5 (kc (F 5))) (uA A 4 (kA A (F 5)))) (fun _ _ => False) := by
  refine Ct.of rfl (by decide +kernel) (Nat.le_of_ble_eq_true rfl) ?_
  generalize hQF9 : QM Γ _ _ _ = QF9
  refine gg_aload_n dX10_keeps_0 rfl rfl ?_
  refine gm_get26 rfl dX10_keeps_1 (by (try simp only [uF_s, uF_n, ne_eq, not_false_eq_true, Nat.reduceEqDiff, reduceCtorEq]); rfl) ?_
  refine gi_bipush dX10_keeps_4 (by decide) ?_
  refine gi_icmp_ne (tgt := 56) dX10_keeps_6 (by decide) ⟨by omega, by omega⟩ ⟨by omega, by omega⟩ (fun c_6 => ?_) (fun c_6 => ?_)
  · refine gg_aload_n dX10_keeps_56 rfl rfl ?_
    refine gm_get13 rfl dX10_keeps_57 ?_
    refine gi_iconst dX10_keeps_60 ?_
    refine gg_aload_n dX10_keeps_61 rfl rfl ?_
    refine gm_get23 rfl dX10_keeps_62 ?_
    refine gi_sipush dX10_keeps_65 (by decide) ?_
    refine gg_aload_n dX10_keeps_68 rfl rfl ?_
    refine gm_get26 rfl dX10_keeps_69 (by (try simp only [uF_s, uF_n, ne_eq, not_false_eq_true, Nat.reduceEqDiff, reduceCtorEq]); rfl) ?_
    refine gi_imul dX10_keeps_72 ?_
    refine gc_X10_154 rfl dX10_keeps_73 ⟨(Nat.le_of_ble_eq_true rfl), (Nat.le_of_ble_eq_true rfl)⟩ ⟨(Nat.le_of_ble_eq_true rfl), (Nat.le_of_ble_eq_true rfl)⟩ (Nat.le_of_ble_eq_true rfl) (c_X10_copies (ja := 1) (jb := 4) (by decide) (by decide) rfl rfl (by decide) (by decide) ⟨by omega, by simp only [ml9]; omega⟩ ⟨by omega, by simp only [ml9]; omega⟩ (Or.inl (by decide))) (fun _ _ w => w.elim) (fun r_73 h_73 hp => ?_)
    obtain ⟨rfl, rfl⟩ := hp
    simp only [uA_s, uA_n, uA_ss, uA_cc, id_eq, ne_eq, not_false_eq_true, Nat.reduceEqDiff, Nat.reduceLT, reduceCtorEq]
    refine gg_aload_n dX10_keeps_76 rfl rfl ?_
    refine gg_dup dX10_keeps_77 rfl ?_
    refine gm_get26 rfl dX10_keeps_78 (by (try simp only [uF_s, uF_n, ne_eq, not_false_eq_true, Nat.reduceEqDiff, reduceCtorEq]); rfl) ?_
    refine gi_iconst dX10_keeps_81 ?_
    refine gi_iadd dX10_keeps_82 ?_
    refine gm_put26 rfl dX10_keeps_83 (by (try simp only [uF_ss, uF_cc, id_eq, Nat.reduceLT, reduceCtorEq]); rfl) ?_
    subst hQF9
    refine gg_vret dX10_keeps_86 rfl ⟨(Nat.le_of_ble_eq_true rfl), (Nat.le_of_ble_eq_true rfl)⟩ ?_
    first | (rw [kc, kA, if_neg c_6, if_neg c_6]; exact ⟨rfl, rfl⟩) | (rw [kc, kA, if_pos c_6, if_pos c_6, show k = 8 by omega, c_6]; exact ⟨rfl, rfl⟩)
  · refine gi_iconst dX10_keeps_9 ?_
    refine gg_istore_n dX10_keeps_10 (Nat.le_of_ble_eq_true rfl) rfl ?_
    have L_11 : ∀ (n9 : Nat) (k : Int), ((8 - k).toNat) = n9 → ∀ (hk : 1 ≤ k ∧ k ≤ 8), GG Γ M_X10_keeps QF9 (0, 0) (mst Γ h F (uA A 4 (shf (A 4) k))) 11 [some (.ref (g_L Γ 0)), some (.int (iN k))] [] := by
      intro n9
      induction n9 using Nat.strongRecOn with
      | ind n9 ih_11 => 
        intro k hm9 hk
        refine gg_iload_n dX10_keeps_11 rfl ?_
        refine gi_bipush dX10_keeps_12 (by decide) ?_
        refine gi_icmp_ge (tgt := 46) dX10_keeps_14 (by decide) ⟨by omega, by omega⟩ ⟨by omega, by omega⟩ (fun c_14 => ?_) (fun c_14 => ?_)
        · refine gg_aload_n dX10_keeps_46 rfl rfl ?_
          refine gg_dup dX10_keeps_47 rfl ?_
          refine gm_get26 rfl dX10_keeps_48 (by (try simp only [uF_s, uF_n, ne_eq, not_false_eq_true, Nat.reduceEqDiff, reduceCtorEq]); rfl) ?_
          refine gi_iconst dX10_keeps_51 ?_
          refine gi_isub dX10_keeps_52 ?_
          refine gm_put26 rfl dX10_keeps_53 (by (try simp only [uF_ss, uF_cc, id_eq, Nat.reduceLT, reduceCtorEq]); rfl) ?_
          refine gg_aload_n dX10_keeps_56 rfl rfl ?_
          refine gm_get13 rfl dX10_keeps_57 ?_
          refine gi_iconst dX10_keeps_60 ?_
          refine gg_aload_n dX10_keeps_61 rfl rfl ?_
          refine gm_get23 rfl dX10_keeps_62 ?_
          refine gi_sipush dX10_keeps_65 (by decide) ?_
          refine gg_aload_n dX10_keeps_68 rfl rfl ?_
          refine gm_get26 rfl dX10_keeps_69 (by (try simp only [uF_s, uF_n, ne_eq, not_false_eq_true, Nat.reduceEqDiff, reduceCtorEq]); rfl) ?_
          refine gi_imul dX10_keeps_72 ?_
          refine gc_X10_154 rfl dX10_keeps_73 ⟨(Nat.le_of_ble_eq_true rfl), (Nat.le_of_ble_eq_true rfl)⟩ ⟨(Nat.le_of_ble_eq_true rfl), (Nat.le_of_ble_eq_true rfl)⟩ (Nat.le_of_ble_eq_true rfl) (c_X10_copies (ja := 1) (jb := 4) (by decide) (by decide) rfl rfl (by decide) (by decide) ⟨by omega, by simp only [ml9]; omega⟩ ⟨by omega, by simp only [ml9]; omega⟩ (Or.inl (by decide))) (fun _ _ w => w.elim) (fun r_73 h_73 hp => ?_)
          obtain ⟨rfl, rfl⟩ := hp
          simp only [uA_s, uA_n, uA_ss, uA_cc, id_eq, ne_eq, not_false_eq_true, Nat.reduceEqDiff, Nat.reduceLT, reduceCtorEq]
          refine gg_aload_n dX10_keeps_76 rfl rfl ?_
          refine gg_dup dX10_keeps_77 rfl ?_
          refine gm_get26 rfl dX10_keeps_78 (by (try simp only [uF_s, uF_n, ne_eq, not_false_eq_true, Nat.reduceEqDiff, reduceCtorEq]); rfl) ?_
          refine gi_iconst dX10_keeps_81 ?_
          refine gi_iadd dX10_keeps_82 ?_
          refine gm_put26 rfl dX10_keeps_83 (by (try simp only [uF_ss, uF_cc, id_eq, Nat.reduceLT, reduceCtorEq]); rfl) ?_
          subst hQF9
          refine gg_vret dX10_keeps_86 rfl ⟨(Nat.le_of_ble_eq_true rfl), (Nat.le_of_ble_eq_true rfl)⟩ ?_
          first | (rw [kc, kA, if_neg c_6, if_neg c_6]; exact ⟨rfl, rfl⟩) | (rw [kc, kA, if_pos c_6, if_pos c_6, show k = 8 by omega, c_6]; exact ⟨rfl, rfl⟩)
        · refine gg_aload_n dX10_keeps_17 rfl rfl ?_
          refine gm_get23 rfl dX10_keeps_18 ?_
          refine gi_sipush dX10_keeps_21 (by decide) ?_
          refine gg_iload_n dX10_keeps_24 rfl ?_
          refine gi_imul dX10_keeps_25 ?_
          refine gg_aload_n dX10_keeps_26 rfl rfl ?_
          refine gm_get23 rfl dX10_keeps_27 ?_
          refine gi_sipush dX10_keeps_30 (by decide) ?_
          refine gg_iload_n dX10_keeps_33 rfl ?_
          refine gi_iconst dX10_keeps_34 ?_
          refine gi_isub dX10_keeps_35 ?_
          refine gi_imul dX10_keeps_36 ?_
          refine gc_X10_154 rfl dX10_keeps_37 ⟨(Nat.le_of_ble_eq_true rfl), (Nat.le_of_ble_eq_true rfl)⟩ ⟨(Nat.le_of_ble_eq_true rfl), (Nat.le_of_ble_eq_true rfl)⟩ (Nat.le_of_ble_eq_true rfl) (c_X10_copies (ja := 4) (jb := 4) (by decide) (by decide) rfl rfl (by decide) (by decide) ⟨by omega, by simp only [ml9]; omega⟩ ⟨by omega, by simp only [ml9]; omega⟩ (by omega)) (fun _ _ w => w.elim) (fun r_37 h_37 hp => ?_)
          obtain ⟨rfl, rfl⟩ := hp
          simp only [uA_s, uA_n, uA_ss, uA_cc, id_eq, ne_eq, not_false_eq_true, Nat.reduceEqDiff, Nat.reduceLT, reduceCtorEq]
          refine gi_iinc dX10_keeps_40 rfl (Nat.le_of_ble_eq_true rfl) rfl ?_
          refine gg_goto (tgt := 11) dX10_keeps_43 (by decide) ?_
          rw [shf_s hk.1]
          refine ih_11 _ (by omega) (k + 1) rfl (by omega)
    refine gg_conv (L_11 _ 1 rfl (by omega)) (by rw [shf_1, uA_id]) rfl rfl
set_option maxRecDepth 100000 in
set_option maxHeartbeats 4000000 in
theorem c_X10_becomes {Γ : GT} {h : XH} {F : Nat → Int} {A : Nat → Int → Int} (h5 : 0 ≤ F 5 ∧ F 5 ≤ 8) {a b c : Int} : Ct Γ M_X10_becomes [.ref (g_L Γ 0), .int (iN a), .int (iN b), .int (iN c)] (mst Γ h F A) (fun r h9 => r = none ∧ h9 = mst Γ h (uF F 5 (kc (F 5))) (uA (uA A 1 (up (up (up (A 1) 0 a) 1 b) 2 c)) 4 (kA A (F 5)))) (fun _ _ => False) := by
  refine Ct.of rfl (by decide +kernel) (Nat.le_of_ble_eq_true rfl) ?_
  generalize hQF9 : QM Γ _ _ _ = QF9
  refine gg_aload_n dX10_becomes_0 rfl rfl ?_
  refine gc_X10_184 rfl dX10_becomes_1 ⟨(Nat.le_of_ble_eq_true rfl), (Nat.le_of_ble_eq_true rfl)⟩ ⟨(Nat.le_of_ble_eq_true rfl), (Nat.le_of_ble_eq_true rfl)⟩ (Nat.le_of_ble_eq_true rfl) (HAt.mu rfl) (c_X10_keeps h5) (fun _ _ w => w.elim) (fun r_1 h_1 hp => ?_)
  obtain ⟨rfl, rfl⟩ := hp
  refine gg_aload_n dX10_becomes_4 rfl rfl ?_
  refine gm_get13 rfl dX10_becomes_5 ?_
  refine gi_iconst dX10_becomes_8 ?_
  refine gg_iload_n dX10_becomes_9 rfl ?_
  refine gm_iast dX10_becomes_10 (by decide) rfl (by decide) ⟨by omega, by simp only [ml9]; omega⟩ (by (try simp only [uA_s, uA_n, uA_ss, uA_cc, id_eq, ne_eq, not_false_eq_true, Nat.reduceEqDiff, Nat.reduceLT, reduceCtorEq]); rfl) ?_
  refine gg_aload_n dX10_becomes_11 rfl rfl ?_
  refine gm_get13 rfl dX10_becomes_12 ?_
  refine gi_iconst dX10_becomes_15 ?_
  refine gg_iload_n dX10_becomes_16 rfl ?_
  refine gm_iast dX10_becomes_17 (by decide) rfl (by decide) ⟨by omega, by simp only [ml9]; omega⟩ (by (try simp only [uA_s, uA_n, uA_ss, uA_cc, id_eq, ne_eq, not_false_eq_true, Nat.reduceEqDiff, Nat.reduceLT, reduceCtorEq]); rfl) ?_
  refine gg_aload_n dX10_becomes_18 rfl rfl ?_
  refine gm_get13 rfl dX10_becomes_19 ?_
  refine gi_iconst dX10_becomes_22 ?_
  refine gg_iload_n dX10_becomes_23 rfl ?_
  refine gm_iast dX10_becomes_24 (by decide) rfl (by decide) ⟨by omega, by simp only [ml9]; omega⟩ (by (try simp only [uA_s, uA_n, uA_ss, uA_cc, id_eq, ne_eq, not_false_eq_true, Nat.reduceEqDiff, Nat.reduceLT, reduceCtorEq]); rfl) ?_
  subst hQF9
  refine gg_vret dX10_becomes_25 rfl ⟨(Nat.le_of_ble_eq_true rfl), (Nat.le_of_ble_eq_true rfl)⟩ ?_
  exact ⟨rfl, rfl⟩
set_option maxRecDepth 100000 in
set_option maxHeartbeats 4000000 in
theorem c_X10_setMetre {Γ : GT} {h : XH} {F : Nat → Int} {A : Nat → Int → Int} (h5 : 0 ≤ F 5 ∧ F 5 ≤ 8) {a b c : Int} (ha : InR a) (hb : InR b) (hc : InR c) : Ct Γ M_X10_setMetre [.ref (g_L Γ 0), .int (iN a), .int (iN b), .int (iN c)] (mst Γ h F A) (fun r h9 => (¬ (0 ≤ a ∧ a ≤ 3 ∧ 2 ≤ b ∧ b ≤ 6 ∧ 0 ≤ c ∧ c ≤ b - 1) ∧ r = some (.int (iN 0)) ∧ h9 = mst Γ h (uF F 0 1) A) ∨ ((0 ≤ a ∧ a ≤ 3 ∧ 2 ≤ b ∧ b ≤ 6 ∧ 0 ≤ c ∧ c ≤ b - 1) ∧ r = some (.int (iN (100 * A 1 0 + 10 * A 1 1 + A 1 2))) ∧ h9 = mst Γ h (uF (uF F 0 0) 5 (kc (F 5))) (uA (uA A 1 (up (up (up (A 1) 0 a) 1 b) 2 c)) 4 (kA A (F 5))))) (fun _ _ => False) := by
  refine Ct.of rfl (by decide +kernel) (Nat.le_of_ble_eq_true rfl) ?_
  generalize hQF9 : QM Γ _ _ _ = QF9
  refine gg_aload_n dX10_setMetre_0 rfl rfl ?_
  refine gi_iconst dX10_setMetre_1 ?_
  refine gm_put3 rfl dX10_setMetre_2 (by (try simp only [uF_ss, uF_cc, id_eq, Nat.reduceLT, reduceCtorEq]); rfl) ?_
  refine gg_iload_n dX10_setMetre_5 rfl ?_
  refine gi_iconst dX10_setMetre_6 ?_
  refine gi_iconst dX10_setMetre_7 ?_
  refine gc_X10_158 rfl dX10_setMetre_8 ⟨(Nat.le_of_ble_eq_true rfl), (Nat.le_of_ble_eq_true rfl)⟩ ⟨(Nat.le_of_ble_eq_true rfl), (Nat.le_of_ble_eq_true rfl)⟩ (Nat.le_of_ble_eq_true rfl) (c_X10_in ⟨by omega, by omega⟩ ⟨by omega, by omega⟩ ⟨by omega, by omega⟩) (fun _ _ w => w.elim) (fun r_8 h_8 hp => ?_)
  obtain ⟨rfl, rfl⟩ := hp
  refine gi_if_eq (tgt := 35) dX10_setMetre_11 (by decide) (bi_r _) (fun c_11 => ?_) (fun c_11 => ?_)
  · rw [bi_f] at c_11
    simp at c_11
    refine gg_aload_n dX10_setMetre_35 rfl rfl ?_
    refine gi_iconst dX10_setMetre_36 ?_
    refine gc_X10_162 rfl dX10_setMetre_37 ⟨(Nat.le_of_ble_eq_true rfl), (Nat.le_of_ble_eq_true rfl)⟩ ⟨(Nat.le_of_ble_eq_true rfl), (Nat.le_of_ble_eq_true rfl)⟩ (Nat.le_of_ble_eq_true rfl) (HAt.mu rfl) (c_X10_fails) (fun _ _ w => w.elim) (fun r_37 h_37 hp => ?_)
    obtain ⟨rfl, rfl⟩ := hp
    subst hQF9
    refine gg_iret dX10_setMetre_40 rfl rfl ⟨(Nat.le_of_ble_eq_true rfl), (Nat.le_of_ble_eq_true rfl)⟩ ?_
    exact Or.inl ⟨by omega, rfl, by rw [uF_ss]⟩
  · rw [bi_t] at c_11
    simp at c_11
    refine gg_iload_n dX10_setMetre_14 rfl ?_
    refine gi_iconst dX10_setMetre_15 ?_
    refine gi_bipush dX10_setMetre_16 (by decide) ?_
    refine gc_X10_158 rfl dX10_setMetre_18 ⟨(Nat.le_of_ble_eq_true rfl), (Nat.le_of_ble_eq_true rfl)⟩ ⟨(Nat.le_of_ble_eq_true rfl), (Nat.le_of_ble_eq_true rfl)⟩ (Nat.le_of_ble_eq_true rfl) (c_X10_in ⟨by omega, by omega⟩ ⟨by omega, by omega⟩ ⟨by omega, by omega⟩) (fun _ _ w => w.elim) (fun r_18 h_18 hp => ?_)
    obtain ⟨rfl, rfl⟩ := hp
    refine gi_if_eq (tgt := 35) dX10_setMetre_21 (by decide) (bi_r _) (fun c_21 => ?_) (fun c_21 => ?_)
    · rw [bi_f] at c_21
      simp at c_21
      refine gg_aload_n dX10_setMetre_35 rfl rfl ?_
      refine gi_iconst dX10_setMetre_36 ?_
      refine gc_X10_162 rfl dX10_setMetre_37 ⟨(Nat.le_of_ble_eq_true rfl), (Nat.le_of_ble_eq_true rfl)⟩ ⟨(Nat.le_of_ble_eq_true rfl), (Nat.le_of_ble_eq_true rfl)⟩ (Nat.le_of_ble_eq_true rfl) (HAt.mu rfl) (c_X10_fails) (fun _ _ w => w.elim) (fun r_37 h_37 hp => ?_)
      obtain ⟨rfl, rfl⟩ := hp
      subst hQF9
      refine gg_iret dX10_setMetre_40 rfl rfl ⟨(Nat.le_of_ble_eq_true rfl), (Nat.le_of_ble_eq_true rfl)⟩ ?_
      exact Or.inl ⟨by omega, rfl, by rw [uF_ss]⟩
    · rw [bi_t] at c_21
      simp at c_21
      refine gg_iload_n dX10_setMetre_24 rfl ?_
      refine gi_iconst dX10_setMetre_25 ?_
      refine gg_iload_n dX10_setMetre_26 rfl ?_
      refine gi_iconst dX10_setMetre_27 ?_
      refine gi_isub dX10_setMetre_28 ?_
      refine gc_X10_158 rfl dX10_setMetre_29 ⟨(Nat.le_of_ble_eq_true rfl), (Nat.le_of_ble_eq_true rfl)⟩ ⟨(Nat.le_of_ble_eq_true rfl), (Nat.le_of_ble_eq_true rfl)⟩ (Nat.le_of_ble_eq_true rfl) (c_X10_in ⟨by omega, by omega⟩ ⟨by omega, by omega⟩ ⟨by omega, by omega⟩) (fun _ _ w => w.elim) (fun r_29 h_29 hp => ?_)
      obtain ⟨rfl, rfl⟩ := hp
      refine gi_if_ne (tgt := 41) dX10_setMetre_32 (by decide) (bi_r _) (fun c_32 => ?_) (fun c_32 => ?_)
      · rw [bi_t] at c_32
        simp at c_32
        refine gg_aload_n dX10_setMetre_41 rfl rfl ?_
        refine gc_X10_187 rfl dX10_setMetre_42 ⟨(Nat.le_of_ble_eq_true rfl), (Nat.le_of_ble_eq_true rfl)⟩ ⟨(Nat.le_of_ble_eq_true rfl), (Nat.le_of_ble_eq_true rfl)⟩ (Nat.le_of_ble_eq_true rfl) (HAt.mu rfl) (c_X10_metreTold) (fun _ _ w => w.elim) (fun r_42 h_42 hp => ?_)
        obtain ⟨rfl, rfl⟩ := hp
        refine gg_istore dX10_setMetre_45 (Nat.le_of_ble_eq_true rfl) rfl ?_
        refine gg_aload_n dX10_setMetre_47 rfl rfl ?_
        refine gg_iload_n dX10_setMetre_48 rfl ?_
        refine gg_iload_n dX10_setMetre_49 rfl ?_
        refine gg_iload_n dX10_setMetre_50 rfl ?_
        refine gc_X10_190 rfl dX10_setMetre_51 ⟨(Nat.le_of_ble_eq_true rfl), (Nat.le_of_ble_eq_true rfl)⟩ ⟨(Nat.le_of_ble_eq_true rfl), (Nat.le_of_ble_eq_true rfl)⟩ (Nat.le_of_ble_eq_true rfl) (HAt.mu rfl) (c_X10_becomes (F := uF F 0 0) (by rw [uF_n (by decide)]; exact h5)) (fun _ _ w => w.elim) (fun r_51 h_51 hp => ?_)
        obtain ⟨rfl, rfl⟩ := hp
        refine gg_iload dX10_setMetre_54 rfl ?_
        subst hQF9
        refine gg_iret dX10_setMetre_56 rfl rfl ⟨(Nat.le_of_ble_eq_true rfl), (Nat.le_of_ble_eq_true rfl)⟩ ?_
        exact Or.inr ⟨by omega, rfl, by rw [uF_n (by decide)]⟩
      · rw [bi_f] at c_32
        simp at c_32
        refine gg_aload_n dX10_setMetre_35 rfl rfl ?_
        refine gi_iconst dX10_setMetre_36 ?_
        refine gc_X10_162 rfl dX10_setMetre_37 ⟨(Nat.le_of_ble_eq_true rfl), (Nat.le_of_ble_eq_true rfl)⟩ ⟨(Nat.le_of_ble_eq_true rfl), (Nat.le_of_ble_eq_true rfl)⟩ (Nat.le_of_ble_eq_true rfl) (HAt.mu rfl) (c_X10_fails) (fun _ _ w => w.elim) (fun r_37 h_37 hp => ?_)
        obtain ⟨rfl, rfl⟩ := hp
        subst hQF9
        refine gg_iret dX10_setMetre_40 rfl rfl ⟨(Nat.le_of_ble_eq_true rfl), (Nat.le_of_ble_eq_true rfl)⟩ ?_
        exact Or.inl ⟨by omega, rfl, by rw [uF_ss]⟩
set_option maxRecDepth 100000 in
set_option maxHeartbeats 4000000 in
theorem c_X10_setTolerance {Γ : GT} {h : XH} {F : Nat → Int} {A : Nat → Int → Int} (h5 : 0 ≤ F 5 ∧ F 5 ≤ 8) {a : Int} (ha : InR a) : Ct Γ M_X10_setTolerance [.ref (g_L Γ 0), .int (iN a)] (mst Γ h F A) (fun r h9 => (¬ (0 ≤ a ∧ a ≤ 30) ∧ r = some (.int (iN 0)) ∧ h9 = mst Γ h (uF F 0 1) A) ∨ ((0 ≤ a ∧ a ≤ 30) ∧ r = some (.int (iN (A 1 3))) ∧ h9 = mst Γ h (uF (uF F 0 0) 5 (kc (F 5))) (uA (uA A 1 (up (A 1) 3 a)) 4 (kA A (F 5))))) (fun _ _ => False) := by
  refine Ct.of rfl (by decide +kernel) (Nat.le_of_ble_eq_true rfl) ?_
  generalize hQF9 : QM Γ _ _ _ = QF9
  refine gg_aload_n dX10_setTolerance_0 rfl rfl ?_
  refine gi_iconst dX10_setTolerance_1 ?_
  refine gm_put3 rfl dX10_setTolerance_2 (by (try simp only [uF_ss, uF_cc, id_eq, Nat.reduceLT, reduceCtorEq]); rfl) ?_
  refine gg_iload_n dX10_setTolerance_5 rfl ?_
  refine gi_iconst dX10_setTolerance_6 ?_
  refine gi_bipush dX10_setTolerance_7 (by decide) ?_
  refine gc_X10_158 rfl dX10_setTolerance_9 ⟨(Nat.le_of_ble_eq_true rfl), (Nat.le_of_ble_eq_true rfl)⟩ ⟨(Nat.le_of_ble_eq_true rfl), (Nat.le_of_ble_eq_true rfl)⟩ (Nat.le_of_ble_eq_true rfl) (c_X10_in ⟨by omega, by omega⟩ ⟨by omega, by omega⟩ ⟨by omega, by omega⟩) (fun _ _ w => w.elim) (fun r_9 h_9 hp => ?_)
  obtain ⟨rfl, rfl⟩ := hp
  refine gi_if_ne (tgt := 21) dX10_setTolerance_12 (by decide) (bi_r _) (fun c_12 => ?_) (fun c_12 => ?_)
  · rw [bi_t] at c_12
    simp at c_12
    refine gg_aload_n dX10_setTolerance_21 rfl rfl ?_
    refine gc_X10_184 rfl dX10_setTolerance_22 ⟨(Nat.le_of_ble_eq_true rfl), (Nat.le_of_ble_eq_true rfl)⟩ ⟨(Nat.le_of_ble_eq_true rfl), (Nat.le_of_ble_eq_true rfl)⟩ (Nat.le_of_ble_eq_true rfl) (HAt.mu rfl) (c_X10_keeps (F := uF F 0 0) (by rw [uF_n (by decide)]; exact h5)) (fun _ _ w => w.elim) (fun r_22 h_22 hp => ?_)
    obtain ⟨rfl, rfl⟩ := hp
    refine gg_aload_n dX10_setTolerance_25 rfl rfl ?_
    refine gm_get13 rfl dX10_setTolerance_26 ?_
    refine gi_iconst dX10_setTolerance_29 ?_
    refine gm_iald dX10_setTolerance_30 (by decide) rfl (by decide) ⟨by omega, by simp only [ml9]; omega⟩ (by (try simp only [uA_s, uA_n, ne_eq, not_false_eq_true, Nat.reduceEqDiff, reduceCtorEq]); rfl) ?_
    refine gg_istore_n dX10_setTolerance_31 (Nat.le_of_ble_eq_true rfl) rfl ?_
    refine gg_aload_n dX10_setTolerance_32 rfl rfl ?_
    refine gm_get13 rfl dX10_setTolerance_33 ?_
    refine gi_iconst dX10_setTolerance_36 ?_
    refine gg_iload_n dX10_setTolerance_37 rfl ?_
    refine gm_iast dX10_setTolerance_38 (by decide) rfl (by decide) ⟨by omega, by simp only [ml9]; omega⟩ (by (try simp only [uA_s, uA_n, uA_ss, uA_cc, id_eq, ne_eq, not_false_eq_true, Nat.reduceEqDiff, Nat.reduceLT, reduceCtorEq]); rfl) ?_
    refine gg_iload_n dX10_setTolerance_39 rfl ?_
    subst hQF9
    refine gg_iret dX10_setTolerance_40 rfl rfl ⟨(Nat.le_of_ble_eq_true rfl), (Nat.le_of_ble_eq_true rfl)⟩ ?_
    exact Or.inr ⟨by omega, rfl, by rw [uF_n (by decide)]⟩
  · rw [bi_f] at c_12
    simp at c_12
    refine gg_aload_n dX10_setTolerance_15 rfl rfl ?_
    refine gi_iconst dX10_setTolerance_16 ?_
    refine gc_X10_162 rfl dX10_setTolerance_17 ⟨(Nat.le_of_ble_eq_true rfl), (Nat.le_of_ble_eq_true rfl)⟩ ⟨(Nat.le_of_ble_eq_true rfl), (Nat.le_of_ble_eq_true rfl)⟩ (Nat.le_of_ble_eq_true rfl) (HAt.mu rfl) (c_X10_fails) (fun _ _ w => w.elim) (fun r_17 h_17 hp => ?_)
    obtain ⟨rfl, rfl⟩ := hp
    subst hQF9
    refine gg_iret dX10_setTolerance_20 rfl rfl ⟨(Nat.le_of_ble_eq_true rfl), (Nat.le_of_ble_eq_true rfl)⟩ ?_
    exact Or.inl ⟨by omega, rfl, by rw [uF_ss]⟩
