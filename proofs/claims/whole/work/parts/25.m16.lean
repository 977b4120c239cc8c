/-! the reference: means, metres told, lines changed -/
theorem n32_c {a b : Int} (ha : 0 ≤ a ∧ a ≤ 1000) (hb : 1 ≤ b ∧ b ≤ 10) : vf_n32 (FP.fdiv (FP.i2f (iN a)) (FP.i2f (iN b))) := by
  obtain ⟨n, rfl⟩ := Int.eq_ofNat_of_zero_le ha.1
  obtain ⟨m, hm⟩ := Int.eq_ofNat_of_zero_le (show 0 ≤ b - 1 by omega)
  have e1 : b = ((m + 1 : Nat) : Int) := by omega
  rw [e1, iN_nI, iN_nI]
  exact n32_ok ⟨m, by omega⟩ ⟨n, by omega⟩
theorem bsC_ok2 {a : Int → Int} {d l : Int} (S : StA a) (N : LnA a) (hd : 0 ≤ d ∧ d ≤ 3) (hl : 0 ≤ l ∧ l < a (5 + d)) : -1 ≤ (bsC a d l (a 0) (a 1) (a 2)).1 ∧ (bsC a d l (a 0) (a 1) (a 2)).1 ≤ 100 :=
  (bsC_ok (kd := a 0) S.2.1 S.2.2.1 (lnW_n N hd hl).2).1
theorem smV_2 {a : Int → Int} {d : Int} (S : StA a) (N : LnA a) (hd : 0 ≤ d ∧ d ≤ 3) : ∀ l : Nat, (l : Int) ≤ a (5 + d) → 0 ≤ smV a d 2 l ∧ smV a d 2 l ≤ 100 * l
  | 0, _ => by simp [smV]
  | l + 1, hl => by
    have ih := smV_2 S N hd l (by omega)
    have hb := bsC_ok2 (d := d) (l := l) S N hd ⟨by omega, by omega⟩
    rw [smV, olV, if_neg (by decide), if_pos rfl]
    split <;> omega
theorem smV_3 {a : Int → Int} {d : Int} : ∀ l : Nat, 0 ≤ smV a d 3 l ∧ smV a d 3 l ≤ l
  | 0 => by simp [smV]
  | l + 1 => by
    have ih := smV_3 (a := a) (d := d) l
    rw [smV, olV, if_neg (by decide), if_neg (by decide), if_pos rfl]
    split <;> omega
set_option maxRecDepth 100000 in
set_option maxHeartbeats 4000000 in
theorem c_X10_meanCost {Γ : GT} {h : XH} {F : Nat → Int} {A : Nat → Int → Int} (S : StA (A 1)) (N : LnA (A 1)) (E9 : ExA (A 1)) (h38 : F 38 = 0 ∨ F 38 = 1) {d : Int} (hd : InR d) : Ct Γ M_X10_meanCost [.ref (g_L Γ 0), .int (iN d)] (mst Γ h F A) (fun r h9 => (¬ (0 ≤ d ∧ d ≤ 3) ∧ r = some (.float (FP.i2f (iN 0))) ∧ h9 = mst Γ h (uF F 0 1) A) ∨ ((0 ≤ d ∧ d ≤ 3) ∧ ∃ (F2 : Nat → Int) (A2 : Nat → Int → Int), h9 = mst Γ h F2 A2 ∧ frF [0, 16, 24, 25, 27, 28, 29, 30, 34, 35, 36, 37, 38, 39, 40, 41, 42] F F2 ∧ frA [8, 9, 10, 11, 12, 13, 14, 15, 16, 17, 18, 19, 20, 21, 22] A A2 ∧ (((A 1 (5 + d) - smV (A 1) d 3 (A 1 (5 + d)).toNat) = 0 ∧ r = some (.float (FP.i2f (iN 0))) ∧ F2 0 = 2) ∨ (0 < (A 1 (5 + d) - smV (A 1) d 3 (A 1 (5 + d)).toNat) ∧ r = some (.float (FP.fdiv (FP.i2f (iN (smV (A 1) d 2 (A 1 (5 + d)).toNat))) (FP.i2f (iN (A 1 (5 + d) - smV (A 1) d 3 (A 1 (5 + d)).toNat))))) ∧ F2 0 = 0)))) (fun _ _ => False) := by
  refine Ct.of rfl (by decide +kernel) (Nat.le_of_ble_eq_true rfl) ?_
  generalize hQF9 : QM Γ _ _ _ = QF9
  obtain ⟨t0, t1, t2, t3, t4, t5, t6⟩ := id S
  refine gg_aload_n dX10_meanCost_0 rfl rfl ?_
  refine gi_iconst dX10_meanCost_1 ?_
  refine gm_put3 rfl dX10_meanCost_2 (by (try simp only [uF_ss, uF_cc, id_eq, Nat.reduceLT, reduceCtorEq]); rfl) ?_
  refine gg_iload_n dX10_meanCost_5 rfl ?_
  refine gc_X10_218 rfl dX10_meanCost_6 ⟨(Nat.le_of_ble_eq_true rfl), (Nat.le_of_ble_eq_true rfl)⟩ ⟨(Nat.le_of_ble_eq_true rfl), (Nat.le_of_ble_eq_true rfl)⟩ (Nat.le_of_ble_eq_true rfl) (c_X10_isDraft (by assumption)) (fun _ _ w => w.elim) (fun r_6 h_6 hp => ?_)
  obtain ⟨rfl, rfl⟩ := hp
  refine gi_if_ne (tgt := 19) dX10_meanCost_9 (by decide) (bi_r _) (fun c_9 => ?_) (fun c_9 => ?_)
  · rw [bi_t] at c_9
    simp at c_9
    have hn9 := t5 d (by omega) (by omega)
    refine gg_aload_n dX10_meanCost_19 rfl rfl ?_
    refine gm_get13 rfl dX10_meanCost_20 ?_
    refine gi_iconst dX10_meanCost_23 ?_
    refine gg_iload_n dX10_meanCost_24 rfl ?_
    refine gi_iadd dX10_meanCost_25 ?_
    refine gm_iald dX10_meanCost_26 (by decide) rfl (by decide) ⟨by omega, by simp only [ml9]; omega⟩ (by (try simp only [uA_s, uA_n, ne_eq, not_false_eq_true, Nat.reduceEqDiff, reduceCtorEq]); rfl) ?_
    refine gg_aload_n dX10_meanCost_27 rfl rfl ?_
    refine gg_iload_n dX10_meanCost_28 rfl ?_
    refine gi_iconst dX10_meanCost_29 ?_
    refine gc_X10_352 rfl dX10_meanCost_30 ⟨(Nat.le_of_ble_eq_true rfl), (Nat.le_of_ble_eq_true rfl)⟩ ⟨(Nat.le_of_ble_eq_true rfl), (Nat.le_of_ble_eq_true rfl)⟩ (Nat.le_of_ble_eq_true rfl) (HAt.mu rfl) (c_X10_sums (F := uF F 0 0) S N E9 (by simp only [uF_s, uF_n, uF_ss, uF_cc, id_eq, ne_eq, not_false_eq_true, Nat.reduceEqDiff, Nat.reduceLT, reduceCtorEq]; exact h38) ⟨by omega, by omega⟩ ⟨by omega, by omega⟩) (fun _ _ w => w.elim) (fun r_30 h_30 hp => ?_)
    obtain ⟨F1, A1, rfl, rfl, hF, hA, x38⟩ := hp
    have g1 : A1 1 = A 1 := hA 1 (by decide)
    have hs3 := smV_3 (a := A 1) (d := d) (A 1 (5 + d)).toNat
    refine gi_isub dX10_meanCost_33 ?_
    refine gg_istore_n dX10_meanCost_34 (Nat.le_of_ble_eq_true rfl) rfl ?_
    refine gg_iload_n dX10_meanCost_35 rfl ?_
    refine gi_if_ne (tgt := 48) dX10_meanCost_36 (by decide) ⟨by omega, by omega⟩ (fun c_36 => ?_) (fun c_36 => ?_)
    · refine gg_aload_n dX10_meanCost_48 rfl rfl ?_
      refine gg_iload_n dX10_meanCost_49 rfl ?_
      refine gi_iconst dX10_meanCost_50 ?_
      refine gc_X10_352 rfl dX10_meanCost_51 ⟨(Nat.le_of_ble_eq_true rfl), (Nat.le_of_ble_eq_true rfl)⟩ ⟨(Nat.le_of_ble_eq_true rfl), (Nat.le_of_ble_eq_true rfl)⟩ (Nat.le_of_ble_eq_true rfl) (HAt.mu rfl) (c_X10_sums (F := F1) (A := A1) (by rw [g1]; exact S) (by rw [g1]; exact N) (by rw [g1]; exact E9) x38 ⟨by omega, by omega⟩ ⟨by omega, by omega⟩) (fun _ _ w => w.elim) (fun r_51 h_51 hp => ?_)
      obtain ⟨F2, A2, rfl, rfl, hF2, hA2, y38⟩ := hp
      rw [g1]
      have hs2 := smV_2 (a := A 1) (d := d) S N ⟨by omega, by omega⟩ (A 1 (5 + d)).toNat (by omega)
      refine gg_i2f dX10_meanCost_54  ?_
      refine gg_iload_n dX10_meanCost_55 rfl ?_
      refine gg_i2f dX10_meanCost_56  ?_
      refine gg_fdiv dX10_meanCost_57 (n32_c ⟨by omega, by omega⟩ ⟨by omega, by omega⟩) ?_
      subst hQF9
      refine gg_fret dX10_meanCost_58 rfl ⟨(Nat.le_of_ble_eq_true rfl), (Nat.le_of_ble_eq_true rfl)⟩ ?_
      exact Or.inr ⟨by omega, F2, A2, rfl, fun j hj => by rw [hF2 j (fun q => hj (by revert q; simp; omega)), frF_z hF (by decide) j hj], fun j hj => by rw [hA2 j (fun q => hj (by revert q; simp; omega)), hA j (fun q => hj (by revert q; simp; omega))], Or.inr ⟨by omega, rfl, by rw [hF2 0 (by decide), hF 0 (by decide), uF_s]⟩⟩
    · refine gg_aload_n dX10_meanCost_39 rfl rfl ?_
      refine gi_iconst dX10_meanCost_40 ?_
      refine gc_X10_162 rfl dX10_meanCost_41 ⟨(Nat.le_of_ble_eq_true rfl), (Nat.le_of_ble_eq_true rfl)⟩ ⟨(Nat.le_of_ble_eq_true rfl), (Nat.le_of_ble_eq_true rfl)⟩ (Nat.le_of_ble_eq_true rfl) (HAt.mu rfl) (c_X10_fails) (fun _ _ w => w.elim) (fun r_41 h_41 hp => ?_)
      obtain ⟨rfl, rfl⟩ := hp
      refine gg_i2f dX10_meanCost_44  ?_
      refine gg_goto (tgt := 58) dX10_meanCost_45 (by decide) ?_
      subst hQF9
      refine gg_fret dX10_meanCost_58 rfl ⟨(Nat.le_of_ble_eq_true rfl), (Nat.le_of_ble_eq_true rfl)⟩ ?_
      exact Or.inr ⟨by omega, uF F1 0 2, A1, rfl, frF_u (frF_z hF (by decide)) (by decide), frA_w hA (by decide), Or.inl ⟨c_36, rfl, uF_s⟩⟩
  · rw [bi_f] at c_9
    simp at c_9
    refine gg_aload_n dX10_meanCost_12 rfl rfl ?_
    refine gi_iconst dX10_meanCost_13 ?_
    refine gc_X10_162 rfl dX10_meanCost_14 ⟨(Nat.le_of_ble_eq_true rfl), (Nat.le_of_ble_eq_true rfl)⟩ ⟨(Nat.le_of_ble_eq_true rfl), (Nat.le_of_ble_eq_true rfl)⟩ (Nat.le_of_ble_eq_true rfl) (HAt.mu rfl) (c_X10_fails) (fun _ _ w => w.elim) (fun r_14 h_14 hp => ?_)
    obtain ⟨rfl, rfl⟩ := hp
    refine gg_i2f dX10_meanCost_17  ?_
    subst hQF9
    refine gg_fret dX10_meanCost_18 rfl ⟨(Nat.le_of_ble_eq_true rfl), (Nat.le_of_ble_eq_true rfl)⟩ ?_
    exact Or.inl ⟨by omega, rfl, by rw [uF_ss]⟩
set_option maxRecDepth 100000 in
set_option maxHeartbeats 4000000 in
theorem c_X10_thrown {Γ : GT} {h : XH} {F : Nat → Int} {A : Nat → Int → Int} : Ct Γ M_X10_thrown [.ref (g_L Γ 0)] (mst Γ h F A) (fun r h9 => r = some (.int (iN (F 0))) ∧ h9 = mst Γ h F A) (fun _ _ => False) := by
  refine Ct.of rfl (by decide +kernel) (Nat.le_of_ble_eq_true rfl) ?_
  generalize hQF9 : QM Γ _ _ _ = QF9
  refine gg_aload_n dX10_thrown_0 rfl rfl ?_
  refine gm_get3 rfl dX10_thrown_1 (by (try simp only [uF_s, uF_n, ne_eq, not_false_eq_true, Nat.reduceEqDiff, reduceCtorEq]); rfl) ?_
  subst hQF9
  refine gg_iret dX10_thrown_4 rfl rfl ⟨(Nat.le_of_ble_eq_true rfl), (Nat.le_of_ble_eq_true rfl)⟩ ?_
  exact ⟨rfl, rfl⟩
set_option maxRecDepth 100000 in
set_option maxHeartbeats 4000000 in
theorem c_X10_metre {Γ : GT} {h : XH} {F : Nat → Int} {A : Nat → Int → Int} (S : StA (A 1)) {w : Int} (hw : InR w) : Ct Γ M_X10_metre [.ref (g_L Γ 0), .int (iN w)] (mst Γ h F A) (fun r h9 => (¬ (0 ≤ w ∧ w ≤ 4) ∧ r = some (.int (iN (0))) ∧ h9 = mst Γ h (uF F 0 1) A) ∨ ((0 ≤ w ∧ w ≤ 4) ∧ r = some (.int (iN (if w = 3 then (A 1 1 * szk (A 1 0)) else if w = 4 then (plN (fun p9 => decide (p9 % szk (A 1 0) = sto (A 1 0))) (A 1 1 * szk (A 1 0)).toNat : Int) else A 1 w))) ∧ h9 = mst Γ h (uF F 0 0) A)) (fun _ _ => False) := by
  refine Ct.of rfl (by decide +kernel) (Nat.le_of_ble_eq_true rfl) ?_
  generalize hQF9 : QM Γ _ _ _ = QF9
  obtain ⟨t0, t1, t2, t3, t4, t5, t6⟩ := id S
  have hz9 := szk_r (A 1 0)
  have ho9 := sto_r (A 1 0)
  have hps : 4 ≤ (A 1 1 * szk (A 1 0)) ∧ (A 1 1 * szk (A 1 0)) ≤ 18 := by rcases hz9 with q | q <;> rw [q] <;> omega
  refine gg_aload_n dX10_metre_0 rfl rfl ?_
  refine gi_iconst dX10_metre_1 ?_
  refine gm_put3 rfl dX10_metre_2 (by (try simp only [uF_ss, uF_cc, id_eq, Nat.reduceLT, reduceCtorEq]); rfl) ?_
  refine gg_aload_n dX10_metre_5 rfl rfl ?_
  refine gm_get13 rfl dX10_metre_6 ?_
  refine gi_iconst dX10_metre_9 ?_
  refine gm_iald dX10_metre_10 (by decide) rfl (by decide) ⟨by omega, by simp only [ml9]; omega⟩ (by (try simp only [uA_s, uA_n, ne_eq, not_false_eq_true, Nat.reduceEqDiff, reduceCtorEq]); rfl) ?_
  refine gg_aload_n dX10_metre_11 rfl rfl ?_
  refine gm_get13 rfl dX10_metre_12 ?_
  refine gi_iconst dX10_metre_15 ?_
  refine gm_iald dX10_metre_16 (by decide) rfl (by decide) ⟨by omega, by simp only [ml9]; omega⟩ (by (try simp only [uA_s, uA_n, ne_eq, not_false_eq_true, Nat.reduceEqDiff, reduceCtorEq]); rfl) ?_
  refine gc_X10_205 rfl dX10_metre_17 ⟨(Nat.le_of_ble_eq_true rfl), (Nat.le_of_ble_eq_true rfl)⟩ ⟨(Nat.le_of_ble_eq_true rfl), (Nat.le_of_ble_eq_true rfl)⟩ (Nat.le_of_ble_eq_true rfl) (c2_sizeOf t0) (fun _ _ w => w.elim) (fun r_17 h_17 hp => ?_)
  obtain ⟨rfl, rfl⟩ := hp
  refine gi_imul dX10_metre_20 ?_
  refine gg_istore_n dX10_metre_21 (Nat.le_of_ble_eq_true rfl) rfl ?_
  refine gg_iload_n dX10_metre_22 rfl ?_
  by_cases w_23_0 : w = 0
  · refine gi_tab (tgt := 56) dX10_metre_23 hw (by omega) (by omega) (by rw [w_23_0]; rfl) (by decide) ?_
    refine gg_aload_n dX10_metre_56 rfl rfl ?_
    refine gm_get13 rfl dX10_metre_57 ?_
    refine gi_iconst dX10_metre_60 ?_
    refine gg_iload_n dX10_metre_61 rfl ?_
    refine gi_iadd dX10_metre_62 ?_
    refine gm_iald dX10_metre_63 (by decide) rfl (by decide) ⟨by omega, by simp only [ml9]; omega⟩ (by (try simp only [uA_s, uA_n, ne_eq, not_false_eq_true, Nat.reduceEqDiff, reduceCtorEq]); rfl) ?_
    subst hQF9
    refine gg_iret dX10_metre_64 rfl rfl ⟨(Nat.le_of_ble_eq_true rfl), (Nat.le_of_ble_eq_true rfl)⟩ ?_
    exact Or.inr ⟨by omega, by rw [if_neg (by omega), if_neg (by omega), Int.zero_add], rfl⟩
  by_cases w_23_1 : w = 1
  · refine gi_tab (tgt := 56) dX10_metre_23 hw (by omega) (by omega) (by rw [w_23_1]; rfl) (by decide) ?_
    refine gg_aload_n dX10_metre_56 rfl rfl ?_
    refine gm_get13 rfl dX10_metre_57 ?_
    refine gi_iconst dX10_metre_60 ?_
    refine gg_iload_n dX10_metre_61 rfl ?_
    refine gi_iadd dX10_metre_62 ?_
    refine gm_iald dX10_metre_63 (by decide) rfl (by decide) ⟨by omega, by simp only [ml9]; omega⟩ (by (try simp only [uA_s, uA_n, ne_eq, not_false_eq_true, Nat.reduceEqDiff, reduceCtorEq]); rfl) ?_
    subst hQF9
    refine gg_iret dX10_metre_64 rfl rfl ⟨(Nat.le_of_ble_eq_true rfl), (Nat.le_of_ble_eq_true rfl)⟩ ?_
    exact Or.inr ⟨by omega, by rw [if_neg (by omega), if_neg (by omega), Int.zero_add], rfl⟩
  by_cases w_23_2 : w = 2
  · refine gi_tab (tgt := 56) dX10_metre_23 hw (by omega) (by omega) (by rw [w_23_2]; rfl) (by decide) ?_
    refine gg_aload_n dX10_metre_56 rfl rfl ?_
    refine gm_get13 rfl dX10_metre_57 ?_
    refine gi_iconst dX10_metre_60 ?_
    refine gg_iload_n dX10_metre_61 rfl ?_
    refine gi_iadd dX10_metre_62 ?_
    refine gm_iald dX10_metre_63 (by decide) rfl (by decide) ⟨by omega, by simp only [ml9]; omega⟩ (by (try simp only [uA_s, uA_n, ne_eq, not_false_eq_true, Nat.reduceEqDiff, reduceCtorEq]); rfl) ?_
    subst hQF9
    refine gg_iret dX10_metre_64 rfl rfl ⟨(Nat.le_of_ble_eq_true rfl), (Nat.le_of_ble_eq_true rfl)⟩ ?_
    exact Or.inr ⟨by omega, by rw [if_neg (by omega), if_neg (by omega), Int.zero_add], rfl⟩
  by_cases w_23_3 : w = 3
  · refine gi_tab (tgt := 65) dX10_metre_23 hw (by omega) (by omega) (by rw [w_23_3]; rfl) (by decide) ?_
    refine gg_iload_n dX10_metre_65 rfl ?_
    subst hQF9
    refine gg_iret dX10_metre_66 rfl rfl ⟨(Nat.le_of_ble_eq_true rfl), (Nat.le_of_ble_eq_true rfl)⟩ ?_
    exact Or.inr ⟨by omega, by rw [if_pos (by omega)], rfl⟩
  by_cases w_23_4 : w = 4
  · refine gi_tab (tgt := 67) dX10_metre_23 hw (by omega) (by omega) (by rw [w_23_4]; rfl) (by decide) ?_
    refine gi_iconst dX10_metre_67 ?_
    refine gg_istore_n dX10_metre_68 (Nat.le_of_ble_eq_true rfl) rfl ?_
    refine gi_iconst dX10_metre_69 ?_
    refine gg_istore dX10_metre_70 (Nat.le_of_ble_eq_true rfl) rfl ?_
    have L_72 : ∀ (n9 : Nat) (p : Int), (((A 1 1 * szk (A 1 0)) - p).toNat) = n9 → ∀ (hp9 : 0 ≤ p ∧ p ≤ (A 1 1 * szk (A 1 0))), GG Γ M_X10_metre QF9 (0, 0) (mst Γ h (uF F 0 0) A) 72 [some (.ref (g_L Γ 0)), some (.int (iN w)), some (.int (iN (A 1 1 * szk (A 1 0)))), some (.int (iN (plN (fun p9 => decide (p9 % szk (A 1 0) = sto (A 1 0))) p.toNat : Int))), some (.int (iN p))] [] := by
      intro n9
      induction n9 using Nat.strongRecOn with
      | ind n9 ih_72 => 
        intro p hm9 hp9
        have hm9 := Int.emod_nonneg p (show szk (A 1 0) ≠ 0 by omega)
        have hm8 := Int.emod_lt_of_pos p (show 0 < szk (A 1 0) by omega)
        refine gg_iload dX10_metre_72 rfl ?_
        refine gg_iload_n dX10_metre_74 rfl ?_
        refine gi_icmp_ge (tgt := 119) dX10_metre_75 (by decide) ⟨by omega, by omega⟩ ⟨by omega, by omega⟩ (fun c_75 => ?_) (fun c_75 => ?_)
        · refine gg_iload_n dX10_metre_119 rfl ?_
          subst hQF9
          refine gg_iret dX10_metre_120 rfl rfl ⟨(Nat.le_of_ble_eq_true rfl), (Nat.le_of_ble_eq_true rfl)⟩ ?_
          exact Or.inr ⟨by omega, by rw [if_neg (by omega), if_pos (by omega), show p = (A 1 1 * szk (A 1 0)) by omega], rfl⟩
        · refine gg_iload_n dX10_metre_78 rfl ?_
          refine gg_iload dX10_metre_79 rfl ?_
          refine gg_aload_n dX10_metre_81 rfl rfl ?_
          refine gm_get13 rfl dX10_metre_82 ?_
          refine gi_iconst dX10_metre_85 ?_
          refine gm_iald dX10_metre_86 (by decide) rfl (by decide) ⟨by omega, by simp only [ml9]; omega⟩ (by (try simp only [uA_s, uA_n, ne_eq, not_false_eq_true, Nat.reduceEqDiff, reduceCtorEq]); rfl) ?_
          refine gc_X10_205 rfl dX10_metre_87 ⟨(Nat.le_of_ble_eq_true rfl), (Nat.le_of_ble_eq_true rfl)⟩ ⟨(Nat.le_of_ble_eq_true rfl), (Nat.le_of_ble_eq_true rfl)⟩ (Nat.le_of_ble_eq_true rfl) (c2_sizeOf t0) (fun _ _ w => w.elim) (fun r_87 h_87 hp => ?_)
          obtain ⟨rfl, rfl⟩ := hp
          refine gi_irem dX10_metre_90 ⟨by omega, by omega⟩ ⟨by omega, by omega⟩ ?_
          refine gg_aload_n dX10_metre_91 rfl rfl ?_
          refine gm_get13 rfl dX10_metre_92 ?_
          refine gi_iconst dX10_metre_95 ?_
          refine gm_iald dX10_metre_96 (by decide) rfl (by decide) ⟨by omega, by simp only [ml9]; omega⟩ (by (try simp only [uA_s, uA_n, ne_eq, not_false_eq_true, Nat.reduceEqDiff, reduceCtorEq]); rfl) ?_
          refine gc_X10_208 rfl dX10_metre_97 ⟨(Nat.le_of_ble_eq_true rfl), (Nat.le_of_ble_eq_true rfl)⟩ ⟨(Nat.le_of_ble_eq_true rfl), (Nat.le_of_ble_eq_true rfl)⟩ (Nat.le_of_ble_eq_true rfl) (c2_strongOf t0) (fun _ _ w => w.elim) (fun r_97 h_97 hp => ?_)
          obtain ⟨rfl, rfl⟩ := hp
          refine gi_icmp_ne (tgt := 110) dX10_metre_100 (by decide) ⟨by omega, by omega⟩ ⟨by omega, by omega⟩ (fun c_100 => ?_) (fun c_100 => ?_)
          · refine gi_iconst dX10_metre_110 ?_
            refine gi_ior _ (by first | exact ior_0 | exact or_pl) dX10_metre_111 ?_
            refine gg_istore_n dX10_metre_112 (Nat.le_of_ble_eq_true rfl) rfl ?_
            refine gi_iinc dX10_metre_113 rfl (Nat.le_of_ble_eq_true rfl) rfl ?_
            refine gg_goto (tgt := 72) dX10_metre_116 (by decide) ?_
            have ep : (p + 1).toNat = p.toNat + 1 := by omega
            exact gg_conv (ih_72 _ (by omega) (p + 1) rfl (by omega)) rfl (by rw [ep, plN, Int.toNat_of_nonneg hp9.1, decide_eq_false c_100, if_neg (by decide)]; rfl) rfl
          · refine gi_iconst dX10_metre_103 ?_
            refine gg_iload dX10_metre_104 rfl ?_
            refine gi_ishl _ (bt_shl ⟨by omega, by omega⟩) dX10_metre_106 ?_
            refine gg_goto (tgt := 111) dX10_metre_107 (by decide) ?_
            refine gi_ior _ (by first | exact ior_0 | exact or_pl) dX10_metre_111 ?_
            refine gg_istore_n dX10_metre_112 (Nat.le_of_ble_eq_true rfl) rfl ?_
            refine gi_iinc dX10_metre_113 rfl (Nat.le_of_ble_eq_true rfl) rfl ?_
            refine gg_goto (tgt := 72) dX10_metre_116 (by decide) ?_
            have ep : (p + 1).toNat = p.toNat + 1 := by omega
            exact gg_conv (ih_72 _ (by omega) (p + 1) rfl (by omega)) rfl (by rw [ep, plN, Int.toNat_of_nonneg hp9.1, decide_eq_true c_100, if_pos rfl]; rfl) rfl
    exact L_72 _ 0 rfl (by omega)
  refine gi_tabD (tgt := 121) dX10_metre_23 hw (by omega) (by decide) ?_
  refine gg_aload_n dX10_metre_121 rfl rfl ?_
  refine gi_iconst dX10_metre_122 ?_
  refine gc_X10_162 rfl dX10_metre_123 ⟨(Nat.le_of_ble_eq_true rfl), (Nat.le_of_ble_eq_true rfl)⟩ ⟨(Nat.le_of_ble_eq_true rfl), (Nat.le_of_ble_eq_true rfl)⟩ (Nat.le_of_ble_eq_true rfl) (HAt.mu rfl) (c_X10_fails) (fun _ _ w => w.elim) (fun r_123 h_123 hp => ?_)
  obtain ⟨rfl, rfl⟩ := hp
  subst hQF9
  refine gg_iret dX10_metre_126 rfl rfl ⟨(Nat.le_of_ble_eq_true rfl), (Nat.le_of_ble_eq_true rfl)⟩ ?_
  exact Or.inl ⟨by omega, rfl, by rw [uF_ss]⟩
set_option maxRecDepth 100000 in
set_option maxHeartbeats 4000000 in
theorem c_X10_replaceLine {Γ : GT} {h : XH} {F : Nat → Int} {A : Nat → Int → Int} (S : StA (A 1)) (h5 : 0 ≤ F 5 ∧ F 5 ≤ 8) (h8 : 0 ≤ F 8 ∧ F 8 ≤ 60) (h10 : InR (F 10)) (i4 : ∀ i, 0 ≤ i ∧ i < F 8 → 0 ≤ A 5 i ∧ A 5 i < 65536) {d l : Int} (hd : InR d) (hl : InR l) : Ct Γ M_X10_replaceLine [.ref (g_L Γ 0), .int (iN d), .int (iN l)] (mst Γ h F A) (fun r h9 => (¬ (0 ≤ d ∧ d ≤ 3 ∧ 0 ≤ l ∧ l < A 1 (5 + d)) ∧ r = some (.int (iN 0)) ∧ h9 = mst Γ h (uF F 0 1) A) ∨ ((0 ≤ d ∧ d ≤ 3 ∧ 0 ≤ l ∧ l < A 1 (5 + d)) ∧ (parseL (A 5) (F 8) 12 0).1 = false ∧ r = some (.int (iN (0))) ∧ ∃ m : Int, h9 = mst Γ h (uF (uF (uF (uF (uF (uF (uF F 0 2) 8 0) 9 (parseL (A 5) (F 8) 12 0).2.1) 10 (parseL (A 5) (F 8) 12 0).2.1) 11 1) 12 (F 8)) 13 (m)) A) ∨ ((0 ≤ d ∧ d ≤ 3 ∧ 0 ≤ l ∧ l < A 1 (5 + d)) ∧ (parseL (A 5) (F 8) 12 0).1 = true ∧ r = some (.int (iN (((parseL (A 5) (F 8) 12 0).2.2.length : Int)))) ∧ h9 = mst Γ h (uF (uF (uF (uF (uF (uF (uF F 0 0) 8 0) 9 (parseL (A 5) (F 8) 12 0).2.1) 11 0) 12 (F 8)) 13 (((parseL (A 5) (F 8) 12 0).2.2.length : Int))) 5 (kc (F 5))) (uA (uA A 1 (lyA (A 1) (A 5) (F 8) (169 + 61 * (10 * d + l)) 60)) 4 (kA A (F 5))))) (fun _ _ => False) := by
  refine Ct.of rfl (by decide +kernel) (Nat.le_of_ble_eq_true rfl) ?_
  generalize hQF9 : QM Γ _ _ _ = QF9
  obtain ⟨t0, t1, t2, t3, t4, t5, t6⟩ := id S
  refine gg_aload_n dX10_replaceLine_0 rfl rfl ?_
  refine gi_iconst dX10_replaceLine_1 ?_
  refine gm_put3 rfl dX10_replaceLine_2 (by (try simp only [uF_ss, uF_cc, id_eq, Nat.reduceLT, reduceCtorEq]); rfl) ?_
  refine gg_aload_n dX10_replaceLine_5 rfl rfl ?_
  refine gg_iload_n dX10_replaceLine_6 rfl ?_
  refine gg_iload_n dX10_replaceLine_7 rfl ?_
  refine gc_X10_234 rfl dX10_replaceLine_8 ⟨(Nat.le_of_ble_eq_true rfl), (Nat.le_of_ble_eq_true rfl)⟩ ⟨(Nat.le_of_ble_eq_true rfl), (Nat.le_of_ble_eq_true rfl)⟩ (Nat.le_of_ble_eq_true rfl) (HAt.mu rfl) (c_X10_isLine (by exact S) (by assumption) (by assumption)) (fun _ _ w => w.elim) (fun r_8 h_8 hp => ?_)
  obtain ⟨rfl, rfl⟩ := hp
  refine gi_if_ne (tgt := 20) dX10_replaceLine_11 (by decide) (bi_r _) (fun c_11 => ?_) (fun c_11 => ?_)
  · rw [bi_t] at c_11
    simp at c_11
    have hn9 := t5 d (by omega) (by omega)
    refine gg_aload_n dX10_replaceLine_20 rfl rfl ?_
    refine gc_X10_224 rfl dX10_replaceLine_21 ⟨(Nat.le_of_ble_eq_true rfl), (Nat.le_of_ble_eq_true rfl)⟩ ⟨(Nat.le_of_ble_eq_true rfl), (Nat.le_of_ble_eq_true rfl)⟩ (Nat.le_of_ble_eq_true rfl) (HAt.mu rfl) (c_X10_isWrongLine (F := uF F 0 0) (by simp only [uF_s, uF_n, uF_ss, uF_cc, id_eq, ne_eq, not_false_eq_true, Nat.reduceEqDiff, Nat.reduceLT, reduceCtorEq]; exact h8) (by simp only [uF_s, uF_n, uF_ss, uF_cc, id_eq, ne_eq, not_false_eq_true, Nat.reduceEqDiff, Nat.reduceLT, reduceCtorEq]; exact h10) (by simp only [uF_s, uF_n, uF_ss, uF_cc, id_eq, ne_eq, not_false_eq_true, Nat.reduceEqDiff, Nat.reduceLT, reduceCtorEq]; exact i4)) (fun _ _ w => w.elim) (fun r_21 h_21 hp => ?_)
    simp only [uF_s, uF_n, uF_ss, uF_cc, id_eq, ne_eq, not_false_eq_true, Nat.reduceEqDiff, Nat.reduceLT, reduceCtorEq] at hp
    obtain ⟨m9, hp⟩ := hp
    rcases hp with ⟨pl, rfl, em, rfl⟩ | ⟨pl, rfl, rfl⟩
    · refine gi_if_eq (tgt := 33) dX10_replaceLine_24 (by decide) ⟨by omega, by omega⟩ (fun c_24 => ?_) (fun c_24 => ?_)
      · refine gg_aload_n dX10_replaceLine_33 rfl rfl ?_
        refine gc_X10_184 rfl dX10_replaceLine_34 ⟨(Nat.le_of_ble_eq_true rfl), (Nat.le_of_ble_eq_true rfl)⟩ ⟨(Nat.le_of_ble_eq_true rfl), (Nat.le_of_ble_eq_true rfl)⟩ (Nat.le_of_ble_eq_true rfl) (HAt.mu rfl) (c_X10_keeps (by simp only [uF_s, uF_n, uF_ss, uF_cc, id_eq, ne_eq, not_false_eq_true, Nat.reduceEqDiff, Nat.reduceLT, reduceCtorEq]; exact h5)) (fun _ _ w => w.elim) (fun r_34 h_34 hp => ?_)
        obtain ⟨rfl, rfl⟩ := hp
        simp only [uF_s, uF_n, uF_ss, uF_cc, id_eq, ne_eq, not_false_eq_true, Nat.reduceEqDiff, Nat.reduceLT, reduceCtorEq]
        refine gg_aload_n dX10_replaceLine_37 rfl rfl ?_
        refine gg_iload_n dX10_replaceLine_38 rfl ?_
        refine gg_iload_n dX10_replaceLine_39 rfl ?_
        refine gc_X10_231 rfl dX10_replaceLine_40 ⟨(Nat.le_of_ble_eq_true rfl), (Nat.le_of_ble_eq_true rfl)⟩ ⟨(Nat.le_of_ble_eq_true rfl), (Nat.le_of_ble_eq_true rfl)⟩ (Nat.le_of_ble_eq_true rfl) (HAt.mu rfl) (c_X10_lays ⟨by omega, by omega⟩ ⟨by omega, by omega⟩ (by simp only [uF_s, uF_n, uF_ss, uF_cc, id_eq, ne_eq, not_false_eq_true, Nat.reduceEqDiff, Nat.reduceLT, reduceCtorEq]; exact h8)) (fun _ _ w => w.elim) (fun r_40 h_40 hp => ?_)
        obtain ⟨rfl, rfl⟩ := hp
        simp only [uF_s, uF_n, uF_ss, uF_cc, id_eq, ne_eq, not_false_eq_true, Nat.reduceEqDiff, Nat.reduceLT, reduceCtorEq, uA_s, uA_n, uA_ss, uA_cc, id_eq, ne_eq, not_false_eq_true, Nat.reduceEqDiff, Nat.reduceLT, reduceCtorEq]
        refine gg_aload_n dX10_replaceLine_43 rfl rfl ?_
        refine gm_get51 rfl dX10_replaceLine_44 (by (try simp only [uF_s, uF_n, ne_eq, not_false_eq_true, Nat.reduceEqDiff, reduceCtorEq]); rfl) ?_
        subst hQF9
        refine gg_iret dX10_replaceLine_47 rfl rfl ⟨(Nat.le_of_ble_eq_true rfl), (Nat.le_of_ble_eq_true rfl)⟩ ?_
        subst em
        exact Or.inr (Or.inr ⟨by omega, pl, rfl, by simp only [uF_s, uF_n, uF_ss, uF_cc, id_eq, ne_eq, not_false_eq_true, Nat.reduceEqDiff, Nat.reduceLT, reduceCtorEq, uA_s, uA_n, uA_ss, uA_cc, id_eq, ne_eq, not_false_eq_true, Nat.reduceEqDiff, Nat.reduceLT, reduceCtorEq]⟩)
      · exact absurd rfl c_24
    · refine gi_if_eq (tgt := 33) dX10_replaceLine_24 (by decide) ⟨by omega, by omega⟩ (fun c_24 => ?_) (fun c_24 => ?_)
      · exact absurd c_24 (by decide)
      · refine gg_aload_n dX10_replaceLine_27 rfl rfl ?_
        refine gi_iconst dX10_replaceLine_28 ?_
        refine gc_X10_162 rfl dX10_replaceLine_29 ⟨(Nat.le_of_ble_eq_true rfl), (Nat.le_of_ble_eq_true rfl)⟩ ⟨(Nat.le_of_ble_eq_true rfl), (Nat.le_of_ble_eq_true rfl)⟩ (Nat.le_of_ble_eq_true rfl) (HAt.mu rfl) (c_X10_fails) (fun _ _ w => w.elim) (fun r_29 h_29 hp => ?_)
        obtain ⟨rfl, rfl⟩ := hp
        subst hQF9
        refine gg_iret dX10_replaceLine_32 rfl rfl ⟨(Nat.le_of_ble_eq_true rfl), (Nat.le_of_ble_eq_true rfl)⟩ ?_
        exact Or.inr (Or.inl ⟨by omega, pl, rfl, m9, by simp only [uF_s, uF_n, uF_ss, uF_cc, id_eq, ne_eq, not_false_eq_true, Nat.reduceEqDiff, Nat.reduceLT, reduceCtorEq]⟩)
  · rw [bi_f] at c_11
    simp at c_11
    refine gg_aload_n dX10_replaceLine_14 rfl rfl ?_
    refine gi_iconst dX10_replaceLine_15 ?_
    refine gc_X10_162 rfl dX10_replaceLine_16 ⟨(Nat.le_of_ble_eq_true rfl), (Nat.le_of_ble_eq_true rfl)⟩ ⟨(Nat.le_of_ble_eq_true rfl), (Nat.le_of_ble_eq_true rfl)⟩ (Nat.le_of_ble_eq_true rfl) (HAt.mu rfl) (c_X10_fails) (fun _ _ w => w.elim) (fun r_16 h_16 hp => ?_)
    obtain ⟨rfl, rfl⟩ := hp
    subst hQF9
    refine gg_iret dX10_replaceLine_19 rfl rfl ⟨(Nat.le_of_ble_eq_true rfl), (Nat.le_of_ble_eq_true rfl)⟩ ?_
    exact Or.inl ⟨by omega, rfl, by rw [uF_ss]⟩
set_option maxRecDepth 100000 in
set_option maxHeartbeats 4000000 in
theorem c_X10_addLine {Γ : GT} {h : XH} {F : Nat → Int} {A : Nat → Int → Int} (S : StA (A 1)) (h5 : 0 ≤ F 5 ∧ F 5 ≤ 8) (h8 : 0 ≤ F 8 ∧ F 8 ≤ 60) (h10 : InR (F 10)) (i4 : ∀ i, 0 ≤ i ∧ i < F 8 → 0 ≤ A 5 i ∧ A 5 i < 65536) {d l : Int} (hd : InR d) (hl : InR l) : Ct Γ M_X10_addLine [.ref (g_L Γ 0), .int (iN d), .int (iN l)] (mst Γ h F A) (fun r h9 => (¬ ((0 ≤ d ∧ d ≤ 3) ∧ 0 ≤ l ∧ l ≤ A 1 (5 + d)) ∧ r = some (.int (iN (0))) ∧ h9 = mst Γ h (uF F 0 1) A) ∨ (((0 ≤ d ∧ d ≤ 3) ∧ 0 ≤ l ∧ l ≤ A 1 (5 + d)) ∧ (parseL (A 5) (F 8) 12 0).1 = false ∧ r = some (.int (iN (0))) ∧ ∃ m : Int, h9 = mst Γ h (uF (uF (uF (uF (uF (uF (uF F 0 2) 8 0) 9 (parseL (A 5) (F 8) 12 0).2.1) 10 (parseL (A 5) (F 8) 12 0).2.1) 11 1) 12 (F 8)) 13 (m)) A) ∨ (((0 ≤ d ∧ d ≤ 3) ∧ 0 ≤ l ∧ l ≤ A 1 (5 + d)) ∧ (parseL (A 5) (F 8) 12 0).1 = true ∧ A 1 (5 + d) = 10 ∧ r = some (.int (iN (0))) ∧ h9 = mst Γ h (uF (uF (uF (uF (uF (uF (uF F 0 0) 8 0) 9 (parseL (A 5) (F 8) 12 0).2.1) 11 0) 12 (F 8)) 13 (((parseL (A 5) (F 8) 12 0).2.2.length : Int))) 0 3) A) ∨ (((0 ≤ d ∧ d ≤ 3) ∧ 0 ≤ l ∧ l ≤ A 1 (5 + d)) ∧ (parseL (A 5) (F 8) 12 0).1 = true ∧ A 1 (5 + d) < 10 ∧ r = some (.int (iN (((parseL (A 5) (F 8) 12 0).2.2.length : Int)))) ∧ h9 = mst Γ h (uF (uF (uF (uF (uF (uF (uF F 0 0) 8 0) 9 (parseL (A 5) (F 8) 12 0).2.1) 11 0) 12 (F 8)) 13 (((parseL (A 5) (F 8) 12 0).2.2.length : Int))) 5 (kc (F 5))) (uA (uA A 1 (lyA (up (shu (A 1) (169 + 61 * (10 * d + l)) (169 + 61 * (10 * d + A 1 (5 + d))) 61) (5 + d) (A 1 (5 + d) + 1)) (A 5) (F 8) (169 + 61 * (10 * d + l)) 60)) 4 (kA A (F 5))))) (fun _ _ => False) := by
  refine Ct.of rfl (by decide +kernel) (Nat.le_of_ble_eq_true rfl) ?_
  generalize hQF9 : QM Γ _ _ _ = QF9
  obtain ⟨t0, t1, t2, t3, t4, t5, t6⟩ := id S
  refine gg_aload_n dX10_addLine_0 rfl rfl ?_
  refine gi_iconst dX10_addLine_1 ?_
  refine gm_put3 rfl dX10_addLine_2 (by (try simp only [uF_ss, uF_cc, id_eq, Nat.reduceLT, reduceCtorEq]); rfl) ?_
  refine gg_iload_n dX10_addLine_5 rfl ?_
  refine gc_X10_218 rfl dX10_addLine_6 ⟨(Nat.le_of_ble_eq_true rfl), (Nat.le_of_ble_eq_true rfl)⟩ ⟨(Nat.le_of_ble_eq_true rfl), (Nat.le_of_ble_eq_true rfl)⟩ (Nat.le_of_ble_eq_true rfl) (c_X10_isDraft (by assumption)) (fun _ _ w => w.elim) (fun r_6 h_6 hp => ?_)
  obtain ⟨rfl, rfl⟩ := hp
  refine gi_if_eq (tgt := 28) dX10_addLine_9 (by decide) (bi_r _) (fun c_9 => ?_) (fun c_9 => ?_)
  · rw [bi_f] at c_9
    simp at c_9
    refine gg_aload_n dX10_addLine_28 rfl rfl ?_
    refine gi_iconst dX10_addLine_29 ?_
    refine gc_X10_162 rfl dX10_addLine_30 ⟨(Nat.le_of_ble_eq_true rfl), (Nat.le_of_ble_eq_true rfl)⟩ ⟨(Nat.le_of_ble_eq_true rfl), (Nat.le_of_ble_eq_true rfl)⟩ (Nat.le_of_ble_eq_true rfl) (HAt.mu rfl) (c_X10_fails) (fun _ _ w => w.elim) (fun r_30 h_30 hp => ?_)
    obtain ⟨rfl, rfl⟩ := hp
    subst hQF9
    refine gg_iret dX10_addLine_33 rfl rfl ⟨(Nat.le_of_ble_eq_true rfl), (Nat.le_of_ble_eq_true rfl)⟩ ?_
    exact Or.inl ⟨by omega, rfl, by rw [uF_ss]⟩
  · rw [bi_t] at c_9
    simp at c_9
    have hn9 := t5 d (by omega) (by omega)
    refine gg_iload_n dX10_addLine_12 rfl ?_
    refine gi_iconst dX10_addLine_13 ?_
    refine gg_aload_n dX10_addLine_14 rfl rfl ?_
    refine gm_get13 rfl dX10_addLine_15 ?_
    refine gi_iconst dX10_addLine_18 ?_
    refine gg_iload_n dX10_addLine_19 rfl ?_
    refine gi_iadd dX10_addLine_20 ?_
    refine gm_iald dX10_addLine_21 (by decide) rfl (by decide) ⟨by omega, by simp only [ml9]; omega⟩ (by (try simp only [uA_s, uA_n, ne_eq, not_false_eq_true, Nat.reduceEqDiff, reduceCtorEq]); rfl) ?_
    refine gc_X10_158 rfl dX10_addLine_22 ⟨(Nat.le_of_ble_eq_true rfl), (Nat.le_of_ble_eq_true rfl)⟩ ⟨(Nat.le_of_ble_eq_true rfl), (Nat.le_of_ble_eq_true rfl)⟩ (Nat.le_of_ble_eq_true rfl) (c_X10_in hl ⟨by omega, by omega⟩ ⟨by omega, by omega⟩) (fun _ _ w => w.elim) (fun r_22 h_22 hp => ?_)
    obtain ⟨rfl, rfl⟩ := hp
    refine gi_if_ne (tgt := 34) dX10_addLine_25 (by decide) (bi_r _) (fun c_25 => ?_) (fun c_25 => ?_)
    · rw [bi_t] at c_25
      rw [Bool.and_eq_true, decide_eq_true_iff, decide_eq_true_iff] at c_25
      refine gg_aload_n dX10_addLine_34 rfl rfl ?_
      refine gc_X10_224 rfl dX10_addLine_35 ⟨(Nat.le_of_ble_eq_true rfl), (Nat.le_of_ble_eq_true rfl)⟩ ⟨(Nat.le_of_ble_eq_true rfl), (Nat.le_of_ble_eq_true rfl)⟩ (Nat.le_of_ble_eq_true rfl) (HAt.mu rfl) (c_X10_isWrongLine (F := uF F 0 0) (by simp only [uF_s, uF_n, uF_ss, uF_cc, id_eq, ne_eq, not_false_eq_true, Nat.reduceEqDiff, Nat.reduceLT, reduceCtorEq]; exact h8) (by simp only [uF_s, uF_n, uF_ss, uF_cc, id_eq, ne_eq, not_false_eq_true, Nat.reduceEqDiff, Nat.reduceLT, reduceCtorEq]; exact h10) (by simp only [uF_s, uF_n, uF_ss, uF_cc, id_eq, ne_eq, not_false_eq_true, Nat.reduceEqDiff, Nat.reduceLT, reduceCtorEq]; exact i4)) (fun _ _ w => w.elim) (fun r_35 h_35 hp => ?_)
      simp only [uF_s, uF_n, uF_ss, uF_cc, id_eq, ne_eq, not_false_eq_true, Nat.reduceEqDiff, Nat.reduceLT, reduceCtorEq] at hp
      obtain ⟨m9, hp⟩ := hp
      rcases hp with ⟨pl, rfl, em, rfl⟩ | ⟨pl, rfl, rfl⟩
      · refine gi_if_eq (tgt := 47) dX10_addLine_38 (by decide) ⟨by omega, by omega⟩ (fun c_38 => ?_) (fun c_38 => ?_)
        · refine gg_aload_n dX10_addLine_47 rfl rfl ?_
          refine gm_get13 rfl dX10_addLine_48 ?_
          refine gi_iconst dX10_addLine_51 ?_
          refine gg_iload_n dX10_addLine_52 rfl ?_
          refine gi_iadd dX10_addLine_53 ?_
          refine gm_iald dX10_addLine_54 (by decide) rfl (by decide) ⟨by omega, by simp only [ml9]; omega⟩ (by (try simp only [uA_s, uA_n, ne_eq, not_false_eq_true, Nat.reduceEqDiff, reduceCtorEq]); rfl) ?_
          refine gi_bipush dX10_addLine_55 (by decide) ?_
          refine gi_icmp_ne (tgt := 66) dX10_addLine_57 (by decide) ⟨by omega, by omega⟩ ⟨by omega, by omega⟩ (fun c_57 => ?_) (fun c_57 => ?_)
          · refine gg_aload_n dX10_addLine_66 rfl rfl ?_
            refine gc_X10_184 rfl dX10_addLine_67 ⟨(Nat.le_of_ble_eq_true rfl), (Nat.le_of_ble_eq_true rfl)⟩ ⟨(Nat.le_of_ble_eq_true rfl), (Nat.le_of_ble_eq_true rfl)⟩ (Nat.le_of_ble_eq_true rfl) (HAt.mu rfl) (c_X10_keeps (by simp only [uF_s, uF_n, uF_ss, uF_cc, id_eq, ne_eq, not_false_eq_true, Nat.reduceEqDiff, Nat.reduceLT, reduceCtorEq]; exact h5)) (fun _ _ w => w.elim) (fun r_67 h_67 hp => ?_)
            obtain ⟨rfl, rfl⟩ := hp
            simp only [uF_s, uF_n, uF_ss, uF_cc, id_eq, ne_eq, not_false_eq_true, Nat.reduceEqDiff, Nat.reduceLT, reduceCtorEq]
            refine gg_aload_n dX10_addLine_70 rfl rfl ?_
            refine gm_get13 rfl dX10_addLine_71 ?_
            refine gi_iconst dX10_addLine_74 ?_
            refine gg_iload_n dX10_addLine_75 rfl ?_
            refine gi_iadd dX10_addLine_76 ?_
            refine gm_iald dX10_addLine_77 (by decide) rfl (by decide) ⟨by omega, by simp only [ml9]; omega⟩ (by (try simp only [uA_s, uA_n, ne_eq, not_false_eq_true, Nat.reduceEqDiff, reduceCtorEq]); rfl) ?_
            refine gg_istore_n dX10_addLine_78 (Nat.le_of_ble_eq_true rfl) rfl ?_
            have L_79 : ∀ (n9 : Nat) (k : Int), ((k - l).toNat) = n9 → ∀ (hk : l ≤ k ∧ k ≤ A 1 (5 + d)), GG Γ M_X10_addLine QF9 (0, 0) (mst Γ h (uF (uF (uF (uF (uF (uF (uF F 0 0) 5 (kc (F 5))) 8 0) 9 (parseL (A 5) (F 8) 12 0).2.1) 11 0) 12 (F 8)) 13 (m9)) (uA (uA A 1 (shu (A 1) (169 + 61 * (10 * d + k)) (169 + 61 * (10 * d + A 1 (5 + d))) 61)) 4 (kA A (F 5)))) 79 [some (.ref (g_L Γ 0)), some (.int (iN d)), some (.int (iN l)), some (.int (iN k))] [] := by
              intro n9
              induction n9 using Nat.strongRecOn with
              | ind n9 ih_79 => 
                intro k hm9 hk
                have e5 : shu (A 1) (169 + 61 * (10 * d + k)) (169 + 61 * (10 * d + A 1 (5 + d))) 61 (5 + d) = A 1 (5 + d) := by unfold shu; rw [if_neg (by omega)]
                refine gg_iload_n dX10_addLine_79 rfl ?_
                refine gg_iload_n dX10_addLine_80 rfl ?_
                refine gi_icmp_le (tgt := 106) dX10_addLine_81 (by decide) ⟨by omega, by omega⟩ ⟨by omega, by omega⟩ (fun c_81 => ?_) (fun c_81 => ?_)
                · refine gg_aload_n dX10_addLine_106 rfl rfl ?_
                  refine gm_get13 rfl dX10_addLine_107 ?_
                  refine gi_iconst dX10_addLine_110 ?_
                  refine gg_iload_n dX10_addLine_111 rfl ?_
                  refine gi_iadd dX10_addLine_112 ?_
                  refine gg_dup2 dX10_addLine_113 rfl rfl ?_
                  refine gm_iald dX10_addLine_114 (by decide) rfl (by decide) ⟨by omega, by simp only [ml9]; omega⟩ (by simp only [uA_s, uA_n, uA_ss, uA_cc, id_eq, ne_eq, not_false_eq_true, Nat.reduceEqDiff, Nat.reduceLT, reduceCtorEq]; exact e5) ?_
                  refine gi_iconst dX10_addLine_115 ?_
                  refine gi_iadd dX10_addLine_116 ?_
                  refine gm_iast dX10_addLine_117 (by decide) rfl (by decide) ⟨by omega, by simp only [ml9]; omega⟩ (by (try simp only [uA_s, uA_n, uA_ss, uA_cc, id_eq, ne_eq, not_false_eq_true, Nat.reduceEqDiff, Nat.reduceLT, reduceCtorEq]); rfl) ?_
                  refine gg_aload_n dX10_addLine_118 rfl rfl ?_
                  refine gg_iload_n dX10_addLine_119 rfl ?_
                  refine gg_iload_n dX10_addLine_120 rfl ?_
                  refine gc_X10_231 rfl dX10_addLine_121 ⟨(Nat.le_of_ble_eq_true rfl), (Nat.le_of_ble_eq_true rfl)⟩ ⟨(Nat.le_of_ble_eq_true rfl), (Nat.le_of_ble_eq_true rfl)⟩ (Nat.le_of_ble_eq_true rfl) (HAt.mu rfl) (c_X10_lays ⟨by omega, by omega⟩ ⟨by omega, by omega⟩ (by simp only [uF_s, uF_n, uF_ss, uF_cc, id_eq, ne_eq, not_false_eq_true, Nat.reduceEqDiff, Nat.reduceLT, reduceCtorEq]; exact h8)) (fun _ _ w => w.elim) (fun r_121 h_121 hp => ?_)
                  obtain ⟨rfl, rfl⟩ := hp
                  simp only [uF_s, uF_n, uF_ss, uF_cc, id_eq, ne_eq, not_false_eq_true, Nat.reduceEqDiff, Nat.reduceLT, reduceCtorEq, uA_s, uA_n, uA_ss, uA_cc, id_eq, ne_eq, not_false_eq_true, Nat.reduceEqDiff, Nat.reduceLT, reduceCtorEq]
                  refine gg_aload_n dX10_addLine_124 rfl rfl ?_
                  refine gm_get51 rfl dX10_addLine_125 (by (try simp only [uF_s, uF_n, ne_eq, not_false_eq_true, Nat.reduceEqDiff, reduceCtorEq]); rfl) ?_
                  subst hQF9
                  refine gg_iret dX10_addLine_128 rfl rfl ⟨(Nat.le_of_ble_eq_true rfl), (Nat.le_of_ble_eq_true rfl)⟩ ?_
                  subst em
                  exact Or.inr (Or.inr (Or.inr ⟨by omega, pl, by omega, rfl, by rw [show k = l by omega]; simp only [uF_s, uF_n, uF_ss, uF_cc, id_eq, ne_eq, not_false_eq_true, Nat.reduceEqDiff, Nat.reduceLT, reduceCtorEq]⟩))
                · refine gg_aload_n dX10_addLine_84 rfl rfl ?_
                  refine gg_iload_n dX10_addLine_85 rfl ?_
                  refine gg_iload_n dX10_addLine_86 rfl ?_
                  refine gi_iconst dX10_addLine_87 ?_
                  refine gi_isub dX10_addLine_88 ?_
                  refine gc_X10_221 rfl dX10_addLine_89 ⟨(Nat.le_of_ble_eq_true rfl), (Nat.le_of_ble_eq_true rfl)⟩ ⟨(Nat.le_of_ble_eq_true rfl), (Nat.le_of_ble_eq_true rfl)⟩ (Nat.le_of_ble_eq_true rfl) (c_X10_lineAt) (fun _ _ w => w.elim) (fun r_89 h_89 hp => ?_)
                  obtain ⟨rfl, rfl⟩ := hp
                  refine gg_iload_n dX10_addLine_92 rfl ?_
                  refine gg_iload_n dX10_addLine_93 rfl ?_
                  refine gc_X10_221 rfl dX10_addLine_94 ⟨(Nat.le_of_ble_eq_true rfl), (Nat.le_of_ble_eq_true rfl)⟩ ⟨(Nat.le_of_ble_eq_true rfl), (Nat.le_of_ble_eq_true rfl)⟩ (Nat.le_of_ble_eq_true rfl) (c_X10_lineAt) (fun _ _ w => w.elim) (fun r_94 h_94 hp => ?_)
                  obtain ⟨rfl, rfl⟩ := hp
                  refine gc_X10_227 rfl dX10_addLine_97 ⟨(Nat.le_of_ble_eq_true rfl), (Nat.le_of_ble_eq_true rfl)⟩ ⟨(Nat.le_of_ble_eq_true rfl), (Nat.le_of_ble_eq_true rfl)⟩ (Nat.le_of_ble_eq_true rfl) (HAt.mu rfl) (c_X10_moves ⟨by omega, by omega⟩ ⟨by omega, by omega⟩ (by omega)) (fun _ _ w => w.elim) (fun r_97 h_97 hp => ?_)
                  obtain ⟨rfl, rfl⟩ := hp
                  simp only [uA_s, uA_n, uA_ss, uA_cc, id_eq, ne_eq, not_false_eq_true, Nat.reduceEqDiff, Nat.reduceLT, reduceCtorEq]
                  refine gi_iinc dX10_addLine_100 rfl (Nat.le_of_ble_eq_true rfl) rfl ?_
                  refine gg_goto (tgt := 79) dX10_addLine_103 (by decide) ?_
                  refine gg_conv (ih_79 _ (by omega) (k + -1) rfl (by omega)) ?_ rfl rfl
                  rw [show 169 + 61 * (10 * d + (k + -1)) = (169 + 61 * (10 * d + k)) - 61 by omega, show 169 + 61 * (10 * d + (k - 1)) = (169 + 61 * (10 * d + k)) - 61 by omega, shu_b (by omega) (by omega)]
            refine gg_conv (L_79 _ (A 1 (5 + d)) rfl (by omega)) (by rw [shu_0, uA_id]) rfl rfl
          · refine gg_aload_n dX10_addLine_60 rfl rfl ?_
            refine gi_iconst dX10_addLine_61 ?_
            refine gc_X10_162 rfl dX10_addLine_62 ⟨(Nat.le_of_ble_eq_true rfl), (Nat.le_of_ble_eq_true rfl)⟩ ⟨(Nat.le_of_ble_eq_true rfl), (Nat.le_of_ble_eq_true rfl)⟩ (Nat.le_of_ble_eq_true rfl) (HAt.mu rfl) (c_X10_fails) (fun _ _ w => w.elim) (fun r_62 h_62 hp => ?_)
            obtain ⟨rfl, rfl⟩ := hp
            subst hQF9
            refine gg_iret dX10_addLine_65 rfl rfl ⟨(Nat.le_of_ble_eq_true rfl), (Nat.le_of_ble_eq_true rfl)⟩ ?_
            subst em
            exact Or.inr (Or.inr (Or.inl ⟨by omega, pl, by omega, rfl, by simp only [uF_s, uF_n, uF_ss, uF_cc, id_eq, ne_eq, not_false_eq_true, Nat.reduceEqDiff, Nat.reduceLT, reduceCtorEq]⟩))
        · exact absurd rfl c_38
      · refine gi_if_eq (tgt := 47) dX10_addLine_38 (by decide) ⟨by omega, by omega⟩ (fun c_38 => ?_) (fun c_38 => ?_)
        · exact absurd c_38 (by decide)
        · refine gg_aload_n dX10_addLine_41 rfl rfl ?_
          refine gi_iconst dX10_addLine_42 ?_
          refine gc_X10_162 rfl dX10_addLine_43 ⟨(Nat.le_of_ble_eq_true rfl), (Nat.le_of_ble_eq_true rfl)⟩ ⟨(Nat.le_of_ble_eq_true rfl), (Nat.le_of_ble_eq_true rfl)⟩ (Nat.le_of_ble_eq_true rfl) (HAt.mu rfl) (c_X10_fails) (fun _ _ w => w.elim) (fun r_43 h_43 hp => ?_)
          obtain ⟨rfl, rfl⟩ := hp
          subst hQF9
          refine gg_iret dX10_addLine_46 rfl rfl ⟨(Nat.le_of_ble_eq_true rfl), (Nat.le_of_ble_eq_true rfl)⟩ ?_
          exact Or.inr (Or.inl ⟨by omega, pl, rfl, m9, by simp only [uF_s, uF_n, uF_ss, uF_cc, id_eq, ne_eq, not_false_eq_true, Nat.reduceEqDiff, Nat.reduceLT, reduceCtorEq]⟩)
    · rw [bi_f] at c_25
      rw [Bool.and_eq_false_iff, decide_eq_false_iff_not, decide_eq_false_iff_not] at c_25
      refine gg_aload_n dX10_addLine_28 rfl rfl ?_
      refine gi_iconst dX10_addLine_29 ?_
      refine gc_X10_162 rfl dX10_addLine_30 ⟨(Nat.le_of_ble_eq_true rfl), (Nat.le_of_ble_eq_true rfl)⟩ ⟨(Nat.le_of_ble_eq_true rfl), (Nat.le_of_ble_eq_true rfl)⟩ (Nat.le_of_ble_eq_true rfl) (HAt.mu rfl) (c_X10_fails) (fun _ _ w => w.elim) (fun r_30 h_30 hp => ?_)
      obtain ⟨rfl, rfl⟩ := hp
      subst hQF9
      refine gg_iret dX10_addLine_33 rfl rfl ⟨(Nat.le_of_ble_eq_true rfl), (Nat.le_of_ble_eq_true rfl)⟩ ?_
      exact Or.inl ⟨by omega, rfl, by rw [uF_ss]⟩
def cpD (a : Int → Int) (x y : Int) : Nat → Int → Int
  | 0 => up a (5 + y) (a (5 + x))
  | l + 1 => cp (cpD a x y l) (cpD a x y l) (169 + 61 * (10 * x + l)) (169 + 61 * (10 * y + l)) 61
theorem cpD_5 {a : Int → Int} {x y : Int} (hx : 0 ≤ x ∧ x ≤ 3) (hy : 0 ≤ y ∧ y ≤ 3) : ∀ l : Nat, cpD a x y l (5 + x) = a (5 + x)
  | 0 => by
    rw [cpD]
    by_cases e9 : x = y
    · rw [e9, up_s]
    · rw [up_n (by omega)]
  | l + 1 => by rw [cpD, cp, if_neg (by omega)]; exact cpD_5 hx hy l
set_option maxRecDepth 100000 in
set_option maxHeartbeats 4000000 in
theorem c_X10_copyDraft {Γ : GT} {h : XH} {F : Nat → Int} {A : Nat → Int → Int} (S : StA (A 1)) (h5 : 0 ≤ F 5 ∧ F 5 ≤ 8) {x y : Int} (hx : InR x) (hy : InR y) : Ct Γ M_X10_copyDraft [.ref (g_L Γ 0), .int (iN x), .int (iN y)] (mst Γ h F A) (fun r h9 => (¬ ((0 ≤ x ∧ x ≤ 3) ∧ 0 ≤ y ∧ y ≤ 3) ∧ r = some (.int (iN (0))) ∧ h9 = mst Γ h (uF F 0 1) A) ∨ (((0 ≤ x ∧ x ≤ 3) ∧ 0 ≤ y ∧ y ≤ 3) ∧ r = some (.int (iN (A 1 (5 + x)))) ∧ h9 = mst Γ h (uF (uF F 0 0) 5 (kc (F 5))) (uA (uA A 1 (cpD (A 1) x y 10)) 4 (kA A (F 5))))) (fun _ _ => False) := by
  refine Ct.of rfl (by decide +kernel) (Nat.le_of_ble_eq_true rfl) ?_
  generalize hQF9 : QM Γ _ _ _ = QF9
  obtain ⟨t0, t1, t2, t3, t4, t5, t6⟩ := id S
  refine gg_aload_n dX10_copyDraft_0 rfl rfl ?_
  refine gi_iconst dX10_copyDraft_1 ?_
  refine gm_put3 rfl dX10_copyDraft_2 (by (try simp only [uF_ss, uF_cc, id_eq, Nat.reduceLT, reduceCtorEq]); rfl) ?_
  refine gg_iload_n dX10_copyDraft_5 rfl ?_
  refine gc_X10_218 rfl dX10_copyDraft_6 ⟨(Nat.le_of_ble_eq_true rfl), (Nat.le_of_ble_eq_true rfl)⟩ ⟨(Nat.le_of_ble_eq_true rfl), (Nat.le_of_ble_eq_true rfl)⟩ (Nat.le_of_ble_eq_true rfl) (c_X10_isDraft hx) (fun _ _ w => w.elim) (fun r_6 h_6 hp => ?_)
  obtain ⟨rfl, rfl⟩ := hp
  refine gi_if_eq (tgt := 19) dX10_copyDraft_9 (by decide) (bi_r _) (fun c_9 => ?_) (fun c_9 => ?_)
  · rw [bi_f] at c_9
    simp at c_9
    refine gg_aload_n dX10_copyDraft_19 rfl rfl ?_
    refine gi_iconst dX10_copyDraft_20 ?_
    refine gc_X10_162 rfl dX10_copyDraft_21 ⟨(Nat.le_of_ble_eq_true rfl), (Nat.le_of_ble_eq_true rfl)⟩ ⟨(Nat.le_of_ble_eq_true rfl), (Nat.le_of_ble_eq_true rfl)⟩ (Nat.le_of_ble_eq_true rfl) (HAt.mu rfl) (c_X10_fails) (fun _ _ w => w.elim) (fun r_21 h_21 hp => ?_)
    obtain ⟨rfl, rfl⟩ := hp
    subst hQF9
    refine gg_iret dX10_copyDraft_24 rfl rfl ⟨(Nat.le_of_ble_eq_true rfl), (Nat.le_of_ble_eq_true rfl)⟩ ?_
    exact Or.inl ⟨by omega, rfl, by rw [uF_ss]⟩
  · rw [bi_t] at c_9
    simp at c_9
    refine gg_iload_n dX10_copyDraft_12 rfl ?_
    refine gc_X10_218 rfl dX10_copyDraft_13 ⟨(Nat.le_of_ble_eq_true rfl), (Nat.le_of_ble_eq_true rfl)⟩ ⟨(Nat.le_of_ble_eq_true rfl), (Nat.le_of_ble_eq_true rfl)⟩ (Nat.le_of_ble_eq_true rfl) (c_X10_isDraft hy) (fun _ _ w => w.elim) (fun r_13 h_13 hp => ?_)
    obtain ⟨rfl, rfl⟩ := hp
    refine gi_if_ne (tgt := 25) dX10_copyDraft_16 (by decide) (bi_r _) (fun c_16 => ?_) (fun c_16 => ?_)
    · rw [bi_t] at c_16
      simp at c_16
      have hnx := t5 x (by omega) (by omega)
      refine gg_aload_n dX10_copyDraft_25 rfl rfl ?_
      refine gc_X10_184 rfl dX10_copyDraft_26 ⟨(Nat.le_of_ble_eq_true rfl), (Nat.le_of_ble_eq_true rfl)⟩ ⟨(Nat.le_of_ble_eq_true rfl), (Nat.le_of_ble_eq_true rfl)⟩ (Nat.le_of_ble_eq_true rfl) (HAt.mu rfl) (c_X10_keeps (by simp only [uF_s, uF_n, uF_ss, uF_cc, id_eq, ne_eq, not_false_eq_true, Nat.reduceEqDiff, Nat.reduceLT, reduceCtorEq]; exact h5)) (fun _ _ w => w.elim) (fun r_26 h_26 hp => ?_)
      obtain ⟨rfl, rfl⟩ := hp
      simp only [uF_s, uF_n, uF_ss, uF_cc, id_eq, ne_eq, not_false_eq_true, Nat.reduceEqDiff, Nat.reduceLT, reduceCtorEq]
      refine gg_aload_n dX10_copyDraft_29 rfl rfl ?_
      refine gm_get13 rfl dX10_copyDraft_30 ?_
      refine gi_iconst dX10_copyDraft_33 ?_
      refine gg_iload_n dX10_copyDraft_34 rfl ?_
      refine gi_iadd dX10_copyDraft_35 ?_
      refine gg_aload_n dX10_copyDraft_36 rfl rfl ?_
      refine gm_get13 rfl dX10_copyDraft_37 ?_
      refine gi_iconst dX10_copyDraft_40 ?_
      refine gg_iload_n dX10_copyDraft_41 rfl ?_
      refine gi_iadd dX10_copyDraft_42 ?_
      refine gm_iald dX10_copyDraft_43 (by decide) rfl (by decide) ⟨by omega, by simp only [ml9]; omega⟩ (by (try simp only [uA_s, uA_n, ne_eq, not_false_eq_true, Nat.reduceEqDiff, reduceCtorEq]); rfl) ?_
      refine gm_iast dX10_copyDraft_44 (by decide) rfl (by decide) ⟨by omega, by simp only [ml9]; omega⟩ (by (try simp only [uA_s, uA_n, uA_ss, uA_cc, id_eq, ne_eq, not_false_eq_true, Nat.reduceEqDiff, Nat.reduceLT, reduceCtorEq]); rfl) ?_
      refine gi_iconst dX10_copyDraft_45 ?_
      refine gg_istore_n dX10_copyDraft_46 (Nat.le_of_ble_eq_true rfl) rfl ?_
      have L_47 : ∀ (n9 : Nat) (k : Int), ((10 - k).toNat) = n9 → ∀ (hk : 0 ≤ k ∧ k ≤ 10), GG Γ M_X10_copyDraft QF9 (0, 0) (mst Γ h (uF (uF F 0 0) 5 (kc (F 5))) (uA (uA A 1 (cpD (A 1) x y k.toNat)) 4 (kA A (F 5)))) 47 [some (.ref (g_L Γ 0)), some (.int (iN x)), some (.int (iN y)), some (.int (iN k))] [] := by
        intro n9
        induction n9 using Nat.strongRecOn with
        | ind n9 ih_47 => 
          intro k hm9 hk
          refine gg_iload_n dX10_copyDraft_47 rfl ?_
          refine gi_bipush dX10_copyDraft_48 (by decide) ?_
          refine gi_icmp_ge (tgt := 73) dX10_copyDraft_50 (by decide) ⟨by omega, by omega⟩ ⟨by omega, by omega⟩ (fun c_50 => ?_) (fun c_50 => ?_)
          · refine gg_aload_n dX10_copyDraft_73 rfl rfl ?_
            refine gm_get13 rfl dX10_copyDraft_74 ?_
            refine gi_iconst dX10_copyDraft_77 ?_
            refine gg_iload_n dX10_copyDraft_78 rfl ?_
            refine gi_iadd dX10_copyDraft_79 ?_
            refine gm_iald dX10_copyDraft_80 (by decide) rfl (by decide) ⟨by omega, by simp only [ml9]; omega⟩ (by simp only [uA_s, uA_n, uA_ss, uA_cc, id_eq, ne_eq, not_false_eq_true, Nat.reduceEqDiff, Nat.reduceLT, reduceCtorEq]; exact cpD_5 ⟨by omega, by omega⟩ ⟨by omega, by omega⟩ _) ?_
            subst hQF9
            refine gg_iret dX10_copyDraft_81 rfl rfl ⟨(Nat.le_of_ble_eq_true rfl), (Nat.le_of_ble_eq_true rfl)⟩ ?_
            rw [show k.toNat = 10 by omega]
            exact Or.inr ⟨by omega, rfl, rfl⟩
          · refine gg_aload_n dX10_copyDraft_53 rfl rfl ?_
            refine gg_iload_n dX10_copyDraft_54 rfl ?_
            refine gg_iload_n dX10_copyDraft_55 rfl ?_
            refine gc_X10_221 rfl dX10_copyDraft_56 ⟨(Nat.le_of_ble_eq_true rfl), (Nat.le_of_ble_eq_true rfl)⟩ ⟨(Nat.le_of_ble_eq_true rfl), (Nat.le_of_ble_eq_true rfl)⟩ (Nat.le_of_ble_eq_true rfl) (c_X10_lineAt) (fun _ _ w => w.elim) (fun r_56 h_56 hp => ?_)
            obtain ⟨rfl, rfl⟩ := hp
            refine gg_iload_n dX10_copyDraft_59 rfl ?_
            refine gg_iload_n dX10_copyDraft_60 rfl ?_
            refine gc_X10_221 rfl dX10_copyDraft_61 ⟨(Nat.le_of_ble_eq_true rfl), (Nat.le_of_ble_eq_true rfl)⟩ ⟨(Nat.le_of_ble_eq_true rfl), (Nat.le_of_ble_eq_true rfl)⟩ (Nat.le_of_ble_eq_true rfl) (c_X10_lineAt) (fun _ _ w => w.elim) (fun r_61 h_61 hp => ?_)
            obtain ⟨rfl, rfl⟩ := hp
            refine gc_X10_227 rfl dX10_copyDraft_64 ⟨(Nat.le_of_ble_eq_true rfl), (Nat.le_of_ble_eq_true rfl)⟩ ⟨(Nat.le_of_ble_eq_true rfl), (Nat.le_of_ble_eq_true rfl)⟩ (Nat.le_of_ble_eq_true rfl) (HAt.mu rfl) (c_X10_moves ⟨by omega, by omega⟩ ⟨by omega, by omega⟩ (by omega)) (fun _ _ w => w.elim) (fun r_64 h_64 hp => ?_)
            obtain ⟨rfl, rfl⟩ := hp
            simp only [uA_s, uA_n, uA_ss, uA_cc, id_eq, ne_eq, not_false_eq_true, Nat.reduceEqDiff, Nat.reduceLT, reduceCtorEq]
            refine gi_iinc dX10_copyDraft_67 rfl (Nat.le_of_ble_eq_true rfl) rfl ?_
            refine gg_goto (tgt := 47) dX10_copyDraft_70 (by decide) ?_
            have ek : (k + 1).toNat = k.toNat + 1 := by omega
            refine gg_conv (ih_47 _ (by omega) (k + 1) rfl (by omega)) ?_ rfl rfl
            rw [ek, cpD, Int.toNat_of_nonneg hk.1]
      exact gg_conv (L_47 _ 0 rfl (by omega)) rfl rfl rfl
    · rw [bi_f] at c_16
      simp at c_16
      refine gg_aload_n dX10_copyDraft_19 rfl rfl ?_
      refine gi_iconst dX10_copyDraft_20 ?_
      refine gc_X10_162 rfl dX10_copyDraft_21 ⟨(Nat.le_of_ble_eq_true rfl), (Nat.le_of_ble_eq_true rfl)⟩ ⟨(Nat.le_of_ble_eq_true rfl), (Nat.le_of_ble_eq_true rfl)⟩ (Nat.le_of_ble_eq_true rfl) (HAt.mu rfl) (c_X10_fails) (fun _ _ w => w.elim) (fun r_21 h_21 hp => ?_)
      obtain ⟨rfl, rfl⟩ := hp
      subst hQF9
      refine gg_iret dX10_copyDraft_24 rfl rfl ⟨(Nat.le_of_ble_eq_true rfl), (Nat.le_of_ble_eq_true rfl)⟩ ?_
      exact Or.inl ⟨by omega, rfl, by rw [uF_ss]⟩
/-- an exception dropped: those behind it move down by 20 -/
def drE (a : Int → Int) (e : Int) : Int → Int := up (shd a (9 + 20 * e) (9 + 20 * (a 4 - 1)) 20) 4 (a 4 - 1)
set_option maxRecDepth 100000 in
set_option maxHeartbeats 4000000 in
theorem c_X10_dropException {Γ : GT} {h : XH} {F : Nat → Int} {A : Nat → Int → Int} (S : StA (A 1)) (h5 : 0 ≤ F 5 ∧ F 5 ≤ 8) {e : Int} (he : InR e) : Ct Γ M_X10_dropException [.ref (g_L Γ 0), .int (iN e)] (mst Γ h F A) (fun r h9 => (¬ (0 ≤ e ∧ e < A 1 4) ∧ r = some (.int (iN (0))) ∧ h9 = mst Γ h (uF F 0 1) A) ∨ ((0 ≤ e ∧ e < A 1 4) ∧ r = some (.int (iN (A 1 (9 + 20 * e + 1 + 12)))) ∧ h9 = mst Γ h (uF (uF F 0 0) 5 (kc (F 5))) (uA (uA A 1 (drE (A 1) e)) 4 (kA A (F 5))))) (fun _ _ => False) := by
  refine Ct.of rfl (by decide +kernel) (Nat.le_of_ble_eq_true rfl) ?_
  generalize hQF9 : QM Γ _ _ _ = QF9
  obtain ⟨t0, t1, t2, t3, t4, t5, t6⟩ := id S
  refine gg_aload_n dX10_dropException_0 rfl rfl ?_
  refine gi_iconst dX10_dropException_1 ?_
  refine gm_put3 rfl dX10_dropException_2 (by (try simp only [uF_ss, uF_cc, id_eq, Nat.reduceLT, reduceCtorEq]); rfl) ?_
  refine gg_iload_n dX10_dropException_5 rfl ?_
  refine gi_iconst dX10_dropException_6 ?_
  refine gg_aload_n dX10_dropException_7 rfl rfl ?_
  refine gm_get13 rfl dX10_dropException_8 ?_
  refine gi_iconst dX10_dropException_11 ?_
  refine gm_iald dX10_dropException_12 (by decide) rfl (by decide) ⟨by omega, by simp only [ml9]; omega⟩ (by (try simp only [uA_s, uA_n, ne_eq, not_false_eq_true, Nat.reduceEqDiff, reduceCtorEq]); rfl) ?_
  refine gi_iconst dX10_dropException_13 ?_
  refine gi_isub dX10_dropException_14 ?_
  refine gc_X10_158 rfl dX10_dropException_15 ⟨(Nat.le_of_ble_eq_true rfl), (Nat.le_of_ble_eq_true rfl)⟩ ⟨(Nat.le_of_ble_eq_true rfl), (Nat.le_of_ble_eq_true rfl)⟩ (Nat.le_of_ble_eq_true rfl) (c_X10_in he ⟨by omega, by omega⟩ ⟨by omega, by omega⟩) (fun _ _ w => w.elim) (fun r_15 h_15 hp => ?_)
  obtain ⟨rfl, rfl⟩ := hp
  refine gi_if_ne (tgt := 27) dX10_dropException_18 (by decide) (bi_r _) (fun c_18 => ?_) (fun c_18 => ?_)
  · rw [bi_t] at c_18
    rw [Bool.and_eq_true, decide_eq_true_iff, decide_eq_true_iff] at c_18
    refine gg_aload_n dX10_dropException_27 rfl rfl ?_
    refine gc_X10_184 rfl dX10_dropException_28 ⟨(Nat.le_of_ble_eq_true rfl), (Nat.le_of_ble_eq_true rfl)⟩ ⟨(Nat.le_of_ble_eq_true rfl), (Nat.le_of_ble_eq_true rfl)⟩ (Nat.le_of_ble_eq_true rfl) (HAt.mu rfl) (c_X10_keeps (by simp only [uF_s, uF_n, uF_ss, uF_cc, id_eq, ne_eq, not_false_eq_true, Nat.reduceEqDiff, Nat.reduceLT, reduceCtorEq]; exact h5)) (fun _ _ w => w.elim) (fun r_28 h_28 hp => ?_)
    obtain ⟨rfl, rfl⟩ := hp
    simp only [uF_s, uF_n, uF_ss, uF_cc, id_eq, ne_eq, not_false_eq_true, Nat.reduceEqDiff, Nat.reduceLT, reduceCtorEq]
    refine gg_aload_n dX10_dropException_31 rfl rfl ?_
    refine gm_get13 rfl dX10_dropException_32 ?_
    refine gg_iload_n dX10_dropException_35 rfl ?_
    refine gc_X10_211 rfl dX10_dropException_36 ⟨(Nat.le_of_ble_eq_true rfl), (Nat.le_of_ble_eq_true rfl)⟩ ⟨(Nat.le_of_ble_eq_true rfl), (Nat.le_of_ble_eq_true rfl)⟩ (Nat.le_of_ble_eq_true rfl) (c_X10_exceptionAt) (fun _ _ w => w.elim) (fun r_36 h_36 hp => ?_)
    obtain ⟨rfl, rfl⟩ := hp
    refine gi_iconst dX10_dropException_39 ?_
    refine gi_iadd dX10_dropException_40 ?_
    refine gi_bipush dX10_dropException_41 (by decide) ?_
    refine gi_iadd dX10_dropException_43 ?_
    refine gm_iald dX10_dropException_44 (by decide) rfl (by decide) ⟨by omega, by simp only [ml9]; omega⟩ (by (try simp only [uA_s, uA_n, ne_eq, not_false_eq_true, Nat.reduceEqDiff, reduceCtorEq]); rfl) ?_
    refine gg_istore_n dX10_dropException_45 (Nat.le_of_ble_eq_true rfl) rfl ?_
    refine gg_iload_n dX10_dropException_46 rfl ?_
    refine gc_X10_211 rfl dX10_dropException_47 ⟨(Nat.le_of_ble_eq_true rfl), (Nat.le_of_ble_eq_true rfl)⟩ ⟨(Nat.le_of_ble_eq_true rfl), (Nat.le_of_ble_eq_true rfl)⟩ (Nat.le_of_ble_eq_true rfl) (c_X10_exceptionAt) (fun _ _ w => w.elim) (fun r_47 h_47 hp => ?_)
    obtain ⟨rfl, rfl⟩ := hp
    refine gg_istore_n dX10_dropException_50 (Nat.le_of_ble_eq_true rfl) rfl ?_
    have L_51 : ∀ (n9 : Nat) (k : Int), ((9 + 20 * (A 1 4 - 1) - k).toNat) = n9 → ∀ (hk : (9 + 20 * e) ≤ k ∧ k ≤ 9 + 20 * (A 1 4 - 1)), GG Γ M_X10_dropException QF9 (0, 0) (mst Γ h (uF (uF F 0 0) 5 (kc (F 5))) (uA (uA A 1 (shd (A 1) (9 + 20 * e) k 20)) 4 (kA A (F 5)))) 51 [some (.ref (g_L Γ 0)), some (.int (iN e)), some (.int (iN (A 1 (9 + 20 * e + 1 + 12)))), some (.int (iN k))] [] := by
      intro n9
      induction n9 using Nat.strongRecOn with
      | ind n9 ih_51 => 
        intro k hm9 hk
        have e5 : shd (A 1) (9 + 20 * e) k 20 4 = A 1 4 := by unfold shd; rw [if_neg (by omega)]
        refine gg_iload_n dX10_dropException_51 rfl ?_
        refine gg_aload_n dX10_dropException_52 rfl rfl ?_
        refine gm_get13 rfl dX10_dropException_53 ?_
        refine gi_iconst dX10_dropException_56 ?_
        refine gm_iald dX10_dropException_57 (by decide) rfl (by decide) ⟨by omega, by simp only [ml9]; omega⟩ (by simp only [uA_s, uA_n, uA_ss, uA_cc, id_eq, ne_eq, not_false_eq_true, Nat.reduceEqDiff, Nat.reduceLT, reduceCtorEq]; exact e5) ?_
        refine gi_iconst dX10_dropException_58 ?_
        refine gi_isub dX10_dropException_59 ?_
        refine gc_X10_211 rfl dX10_dropException_60 ⟨(Nat.le_of_ble_eq_true rfl), (Nat.le_of_ble_eq_true rfl)⟩ ⟨(Nat.le_of_ble_eq_true rfl), (Nat.le_of_ble_eq_true rfl)⟩ (Nat.le_of_ble_eq_true rfl) (c_X10_exceptionAt) (fun _ _ w => w.elim) (fun r_60 h_60 hp => ?_)
        obtain ⟨rfl, rfl⟩ := hp
        refine gi_icmp_ge (tgt := 87) dX10_dropException_63 (by decide) ⟨by omega, by omega⟩ ⟨by omega, by omega⟩ (fun c_63 => ?_) (fun c_63 => ?_)
        · refine gg_aload_n dX10_dropException_87 rfl rfl ?_
          refine gm_get13 rfl dX10_dropException_88 ?_
          refine gi_iconst dX10_dropException_91 ?_
          refine gg_dup2 dX10_dropException_92 rfl rfl ?_
          refine gm_iald dX10_dropException_93 (by decide) rfl (by decide) ⟨by omega, by simp only [ml9]; omega⟩ (by simp only [uA_s, uA_n, uA_ss, uA_cc, id_eq, ne_eq, not_false_eq_true, Nat.reduceEqDiff, Nat.reduceLT, reduceCtorEq]; exact e5) ?_
          refine gi_iconst dX10_dropException_94 ?_
          refine gi_isub dX10_dropException_95 ?_
          refine gm_iast dX10_dropException_96 (by decide) rfl (by decide) ⟨by omega, by simp only [ml9]; omega⟩ (by (try simp only [uA_s, uA_n, uA_ss, uA_cc, id_eq, ne_eq, not_false_eq_true, Nat.reduceEqDiff, Nat.reduceLT, reduceCtorEq]); rfl) ?_
          refine gg_iload_n dX10_dropException_97 rfl ?_
          subst hQF9
          refine gg_iret dX10_dropException_98 rfl rfl ⟨(Nat.le_of_ble_eq_true rfl), (Nat.le_of_ble_eq_true rfl)⟩ ?_
          have ek : k = 9 + 20 * (A 1 4 - 1) := by omega
          exact Or.inr ⟨by omega, rfl, by rw [ek]; rfl⟩
        · refine gg_aload_n dX10_dropException_66 rfl rfl ?_
          refine gm_get13 rfl dX10_dropException_67 ?_
          refine gg_iload_n dX10_dropException_70 rfl ?_
          refine gg_aload_n dX10_dropException_71 rfl rfl ?_
          refine gm_get13 rfl dX10_dropException_72 ?_
          refine gg_iload_n dX10_dropException_75 rfl ?_
          refine gi_bipush dX10_dropException_76 (by decide) ?_
          refine gi_iadd dX10_dropException_78 ?_
          refine gm_iald dX10_dropException_79 (by decide) rfl (by decide) ⟨by omega, by simp only [ml9]; omega⟩ (by (try simp only [uA_s, uA_n, ne_eq, not_false_eq_true, Nat.reduceEqDiff, reduceCtorEq]); rfl) ?_
          refine gm_iast dX10_dropException_80 (by decide) rfl (by decide) ⟨by omega, by simp only [ml9]; omega⟩ (by (try simp only [uA_s, uA_n, uA_ss, uA_cc, id_eq, ne_eq, not_false_eq_true, Nat.reduceEqDiff, Nat.reduceLT, reduceCtorEq]); rfl) ?_
          refine gi_iinc dX10_dropException_81 rfl (Nat.le_of_ble_eq_true rfl) rfl ?_
          refine gg_goto (tgt := 51) dX10_dropException_84 (by decide) ?_
          refine gg_conv (ih_51 _ (by omega) (k + 1) rfl (by omega)) ?_ rfl rfl
          rw [shd_1 (by omega) (by omega)]
    refine gg_conv (L_51 _ (9 + 20 * e) rfl (by omega)) (by rw [shd_0, uA_id]) rfl rfl
  · rw [bi_f] at c_18
    rw [Bool.and_eq_false_iff, decide_eq_false_iff_not, decide_eq_false_iff_not] at c_18
    refine gg_aload_n dX10_dropException_21 rfl rfl ?_
    refine gi_iconst dX10_dropException_22 ?_
    refine gc_X10_162 rfl dX10_dropException_23 ⟨(Nat.le_of_ble_eq_true rfl), (Nat.le_of_ble_eq_true rfl)⟩ ⟨(Nat.le_of_ble_eq_true rfl), (Nat.le_of_ble_eq_true rfl)⟩ (Nat.le_of_ble_eq_true rfl) (HAt.mu rfl) (c_X10_fails) (fun _ _ w => w.elim) (fun r_23 h_23 hp => ?_)
    obtain ⟨rfl, rfl⟩ := hp
    subst hQF9
    refine gg_iret dX10_dropException_26 rfl rfl ⟨(Nat.le_of_ble_eq_true rfl), (Nat.le_of_ble_eq_true rfl)⟩ ?_
    exact Or.inl ⟨by omega, rfl, by rw [uF_ss]⟩
/-- the lines between x and y moved, the place y free -/
def mvL (a : Int → Int) (d x y : Int) : Int → Int := if x ≤ y then shd a (169 + 61 * (10 * d + x)) (169 + 61 * (10 * d + y)) 61 else shu a (169 + 61 * (10 * d + y)) (169 + 61 * (10 * d + x)) 61
set_option maxRecDepth 100000 in
set_option maxHeartbeats 4000000 in
theorem c_X10_moveLine {Γ : GT} {h : XH} {F : Nat → Int} {A : Nat → Int → Int} (S : StA (A 1)) (h5 : 0 ≤ F 5 ∧ F 5 ≤ 8) {d x y : Int} (hd : InR d) (hx : InR x) (hy : InR y) : Ct Γ M_X10_moveLine [.ref (g_L Γ 0), .int (iN d), .int (iN x), .int (iN y)] (mst Γ h F A) (fun r h9 => (¬ ((0 ≤ d ∧ d ≤ 3 ∧ 0 ≤ x ∧ x < A 1 (5 + d)) ∧ (0 ≤ d ∧ d ≤ 3 ∧ 0 ≤ y ∧ y < A 1 (5 + d))) ∧ r = some (.int (iN (0))) ∧ h9 = mst Γ h (uF F 0 1) A) ∨ (((0 ≤ d ∧ d ≤ 3 ∧ 0 ≤ x ∧ x < A 1 (5 + d)) ∧ (0 ≤ d ∧ d ≤ 3 ∧ 0 ≤ y ∧ y < A 1 (5 + d))) ∧ r = some (.int (iN (if x ≤ y then y - x else x - y))) ∧ h9 = mst Γ h (uF (uF F 0 0) 5 (kc (F 5))) (uA (uA (uA A 1 (cp (cp (A 1) (A 7) (169 + 61 * (10 * d + x)) 0 61) (mvL (A 1) d x y) 0 (169 + 61 * (10 * d + y)) 61)) 4 (kA A (F 5))) 7 (cp (A 1) (A 7) (169 + 61 * (10 * d + x)) 0 61)))) (fun _ _ => False) := by
  refine Ct.of rfl (by decide +kernel) (Nat.le_of_ble_eq_true rfl) ?_
  generalize hQF9 : QM Γ _ _ _ = QF9
  obtain ⟨t0, t1, t2, t3, t4, t5, t6⟩ := id S
  refine gg_aload_n dX10_moveLine_0 rfl rfl ?_
  refine gi_iconst dX10_moveLine_1 ?_
  refine gm_put3 rfl dX10_moveLine_2 (by (try simp only [uF_ss, uF_cc, id_eq, Nat.reduceLT, reduceCtorEq]); rfl) ?_
  refine gg_aload_n dX10_moveLine_5 rfl rfl ?_
  refine gg_iload_n dX10_moveLine_6 rfl ?_
  refine gg_iload_n dX10_moveLine_7 rfl ?_
  refine gc_X10_234 rfl dX10_moveLine_8 ⟨(Nat.le_of_ble_eq_true rfl), (Nat.le_of_ble_eq_true rfl)⟩ ⟨(Nat.le_of_ble_eq_true rfl), (Nat.le_of_ble_eq_true rfl)⟩ (Nat.le_of_ble_eq_true rfl) (HAt.mu rfl) (c_X10_isLine S hd hx) (fun _ _ w => w.elim) (fun r_8 h_8 hp => ?_)
  obtain ⟨rfl, rfl⟩ := hp
  refine gi_if_eq (tgt := 23) dX10_moveLine_11 (by decide) (bi_r _) (fun c_11 => ?_) (fun c_11 => ?_)
  · rw [bi_f] at c_11
    simp at c_11
    refine gg_aload_n dX10_moveLine_23 rfl rfl ?_
    refine gi_iconst dX10_moveLine_24 ?_
    refine gc_X10_162 rfl dX10_moveLine_25 ⟨(Nat.le_of_ble_eq_true rfl), (Nat.le_of_ble_eq_true rfl)⟩ ⟨(Nat.le_of_ble_eq_true rfl), (Nat.le_of_ble_eq_true rfl)⟩ (Nat.le_of_ble_eq_true rfl) (HAt.mu rfl) (c_X10_fails) (fun _ _ w => w.elim) (fun r_25 h_25 hp => ?_)
    obtain ⟨rfl, rfl⟩ := hp
    subst hQF9
    refine gg_iret dX10_moveLine_28 rfl rfl ⟨(Nat.le_of_ble_eq_true rfl), (Nat.le_of_ble_eq_true rfl)⟩ ?_
    exact Or.inl ⟨by omega, rfl, by rw [uF_ss]⟩
  · rw [bi_t] at c_11
    simp at c_11
    have hn9 := t5 d (by omega) (by omega)
    refine gg_aload_n dX10_moveLine_14 rfl rfl ?_
    refine gg_iload_n dX10_moveLine_15 rfl ?_
    refine gg_iload_n dX10_moveLine_16 rfl ?_
    refine gc_X10_234 rfl dX10_moveLine_17 ⟨(Nat.le_of_ble_eq_true rfl), (Nat.le_of_ble_eq_true rfl)⟩ ⟨(Nat.le_of_ble_eq_true rfl), (Nat.le_of_ble_eq_true rfl)⟩ (Nat.le_of_ble_eq_true rfl) (HAt.mu rfl) (c_X10_isLine S hd hy) (fun _ _ w => w.elim) (fun r_17 h_17 hp => ?_)
    obtain ⟨rfl, rfl⟩ := hp
    refine gi_if_ne (tgt := 29) dX10_moveLine_20 (by decide) (bi_r _) (fun c_20 => ?_) (fun c_20 => ?_)
    · rw [bi_t] at c_20
      simp at c_20
      refine gg_aload_n dX10_moveLine_29 rfl rfl ?_
      refine gc_X10_184 rfl dX10_moveLine_30 ⟨(Nat.le_of_ble_eq_true rfl), (Nat.le_of_ble_eq_true rfl)⟩ ⟨(Nat.le_of_ble_eq_true rfl), (Nat.le_of_ble_eq_true rfl)⟩ (Nat.le_of_ble_eq_true rfl) (HAt.mu rfl) (c_X10_keeps (by simp only [uF_s, uF_n, uF_ss, uF_cc, id_eq, ne_eq, not_false_eq_true, Nat.reduceEqDiff, Nat.reduceLT, reduceCtorEq]; exact h5)) (fun _ _ w => w.elim) (fun r_30 h_30 hp => ?_)
      obtain ⟨rfl, rfl⟩ := hp
      simp only [uF_s, uF_n, uF_ss, uF_cc, id_eq, ne_eq, not_false_eq_true, Nat.reduceEqDiff, Nat.reduceLT, reduceCtorEq]
      refine gi_iconst dX10_moveLine_33 ?_
      refine gg_istore dX10_moveLine_34 (Nat.le_of_ble_eq_true rfl) rfl ?_
      have L_36 : ∀ (n9 : Nat) (k : Int), ((61 - k).toNat) = n9 → ∀ (hk : 0 ≤ k ∧ k ≤ 61), GG Γ M_X10_moveLine QF9 (0, 0) (mst Γ h (uF (uF F 0 0) 5 (kc (F 5))) (uA (uA (uA A 1 (A 1)) 4 (kA A (F 5))) 7 (cp (A 1) (A 7) (169 + 61 * (10 * d + x)) 0 k))) 36 [some (.ref (g_L Γ 0)), some (.int (iN d)), some (.int (iN x)), some (.int (iN y)), some (.int (iN k))] [] := by
        intro n9
        induction n9 using Nat.strongRecOn with
        | ind n9 ih_36 => 
          intro k hm9 hk
          refine gg_iload dX10_moveLine_36 rfl ?_
          refine gi_bipush dX10_moveLine_38 (by decide) ?_
          refine gi_icmp_ge (tgt := 69) dX10_moveLine_40 (by decide) ⟨by omega, by omega⟩ ⟨by omega, by omega⟩ (fun c_40 => ?_) (fun c_40 => ?_)
          · refine gg_iload_n dX10_moveLine_69 rfl ?_
            refine gg_istore dX10_moveLine_70 (Nat.le_of_ble_eq_true rfl) rfl ?_
            have L_72 : ∀ (n9 : Nat) (i : Int), ((y - i).toNat) = n9 → ∀ (hi : x ≤ i ∧ (i ≤ y ∨ i = x)), GG Γ M_X10_moveLine QF9 (0, 0) (mst Γ h (uF (uF F 0 0) 5 (kc (F 5))) (uA (uA (uA A 1 (shd (A 1) (169 + 61 * (10 * d + x)) (169 + 61 * (10 * d + i)) 61)) 4 (kA A (F 5))) 7 (cp (A 1) (A 7) (169 + 61 * (10 * d + x)) 0 61))) 72 [some (.ref (g_L Γ 0)), some (.int (iN d)), some (.int (iN x)), some (.int (iN y)), some (.int (iN i))] [] := by
              intro n9
              induction n9 using Nat.strongRecOn with
              | ind n9 ih_72 => 
                intro i hm9 hi
                refine gg_iload dX10_moveLine_72 rfl ?_
                refine gg_iload_n dX10_moveLine_74 rfl ?_
                refine gi_icmp_ge (tgt := 102) dX10_moveLine_75 (by decide) ⟨by omega, by omega⟩ ⟨by omega, by omega⟩ (fun c_75 => ?_) (fun c_75 => ?_)
                · refine gg_iload_n dX10_moveLine_102 rfl ?_
                  refine gg_istore dX10_moveLine_103 (Nat.le_of_ble_eq_true rfl) rfl ?_
                  have L_105 : ∀ (n9 : Nat) (i : Int) (f9 : Int → Int), ((i - y).toNat) = n9 → ∀ (hi : i ≤ x ∧ (y ≤ i ∨ i = x)) (hf : f9 = if x ≤ y then shd (A 1) (169 + 61 * (10 * d + x)) (169 + 61 * (10 * d + y)) 61 else A 1), GG Γ M_X10_moveLine QF9 (0, 0) (mst Γ h (uF (uF F 0 0) 5 (kc (F 5))) (uA (uA (uA A 1 (shu f9 (169 + 61 * (10 * d + i)) (169 + 61 * (10 * d + x)) 61)) 4 (kA A (F 5))) 7 (cp (A 1) (A 7) (169 + 61 * (10 * d + x)) 0 61))) 105 [some (.ref (g_L Γ 0)), some (.int (iN d)), some (.int (iN x)), some (.int (iN y)), some (.int (iN i))] [] := by
                    intro n9
                    induction n9 using Nat.strongRecOn with
                    | ind n9 ih_105 => 
                      intro i f9 hm9 hi hf
                      refine gg_iload dX10_moveLine_105 rfl ?_
                      refine gg_iload_n dX10_moveLine_107 rfl ?_
                      refine gi_icmp_le (tgt := 135) dX10_moveLine_108 (by decide) ⟨by omega, by omega⟩ ⟨by omega, by omega⟩ (fun c_108 => ?_) (fun c_108 => ?_)
                      · refine gi_iconst dX10_moveLine_135 ?_
                        refine gg_istore dX10_moveLine_136 (Nat.le_of_ble_eq_true rfl) rfl ?_
                        have L_138 : ∀ (n9 : Nat) (k : Int), ((61 - k).toNat) = n9 → ∀ (hk : 0 ≤ k ∧ k ≤ 61), GG Γ M_X10_moveLine QF9 (0, 0) (mst Γ h (uF (uF F 0 0) 5 (kc (F 5))) (uA (uA (uA A 1 (cp (cp (A 1) (A 7) (169 + 61 * (10 * d + x)) 0 61) (mvL (A 1) d x y) 0 (169 + 61 * (10 * d + y)) k)) 4 (kA A (F 5))) 7 (cp (A 1) (A 7) (169 + 61 * (10 * d + x)) 0 61))) 138 [some (.ref (g_L Γ 0)), some (.int (iN d)), some (.int (iN x)), some (.int (iN y)), some (.int (iN k))] [] := by
                          intro n9
                          induction n9 using Nat.strongRecOn with
                          | ind n9 ih_138 => 
                            intro k hm9 hk
                            refine gg_iload dX10_moveLine_138 rfl ?_
                            refine gi_bipush dX10_moveLine_140 (by decide) ?_
                            refine gi_icmp_ge (tgt := 171) dX10_moveLine_142 (by decide) ⟨by omega, by omega⟩ ⟨by omega, by omega⟩ (fun c_142 => ?_) (fun c_142 => ?_)
                            · refine gg_iload_n dX10_moveLine_171 rfl ?_
                              refine gg_iload_n dX10_moveLine_172 rfl ?_
                              refine gi_isub dX10_moveLine_173 ?_
                              refine gc_X10_238 rfl dX10_moveLine_174 ⟨(Nat.le_of_ble_eq_true rfl), (Nat.le_of_ble_eq_true rfl)⟩ ⟨(Nat.le_of_ble_eq_true rfl), (Nat.le_of_ble_eq_true rfl)⟩ ?_
                              rw [iN_abs ⟨by omega, by omega⟩]
                              subst hQF9
                              refine gg_iret dX10_moveLine_177 rfl rfl ⟨(Nat.le_of_ble_eq_true rfl), (Nat.le_of_ble_eq_true rfl)⟩ ?_
                              rw [show k = 61 by omega]
                              exact Or.inr ⟨by omega, by congr 3; split <;> omega, rfl⟩
                            · refine gg_aload_n dX10_moveLine_145 rfl rfl ?_
                              refine gm_get13 rfl dX10_moveLine_146 ?_
                              refine gg_iload_n dX10_moveLine_149 rfl ?_
                              refine gg_iload_n dX10_moveLine_150 rfl ?_
                              refine gc_X10_221 rfl dX10_moveLine_151 ⟨(Nat.le_of_ble_eq_true rfl), (Nat.le_of_ble_eq_true rfl)⟩ ⟨(Nat.le_of_ble_eq_true rfl), (Nat.le_of_ble_eq_true rfl)⟩ (Nat.le_of_ble_eq_true rfl) (c_X10_lineAt) (fun _ _ w => w.elim) (fun r_151 h_151 hp => ?_)
                              obtain ⟨rfl, rfl⟩ := hp
                              refine gg_iload dX10_moveLine_154 rfl ?_
                              refine gi_iadd dX10_moveLine_156 ?_
                              refine gg_aload_n dX10_moveLine_157 rfl rfl ?_
                              refine gm_get57 rfl dX10_moveLine_158 ?_
                              refine gg_iload dX10_moveLine_161 rfl ?_
                              refine gm_iald dX10_moveLine_163 (by decide) rfl (by decide) ⟨by omega, by simp only [ml9]; omega⟩ (by (try simp only [uA_s, uA_n, ne_eq, not_false_eq_true, Nat.reduceEqDiff, reduceCtorEq]); rfl) ?_
                              refine gm_iast dX10_moveLine_164 (by decide) rfl (by decide) ⟨by omega, by simp only [ml9]; omega⟩ (by (try simp only [uA_s, uA_n, uA_ss, uA_cc, id_eq, ne_eq, not_false_eq_true, Nat.reduceEqDiff, Nat.reduceLT, reduceCtorEq]); rfl) ?_
                              refine gi_iinc dX10_moveLine_165 rfl (Nat.le_of_ble_eq_true rfl) rfl ?_
                              refine gg_goto (tgt := 138) dX10_moveLine_168 (by decide) ?_
                              refine gg_conv (ih_138 _ (by omega) (k + 1) rfl (by omega)) ?_ rfl rfl
                              rw [← cp_s hk.1, Int.zero_add]
                        have em : mvL (A 1) d x y = shu f9 (169 + 61 * (10 * d + i)) (169 + 61 * (10 * d + x)) 61 := by
                          unfold mvL
                          by_cases q : x ≤ y
                          · rw [if_pos q] at hf ⊢; rw [hf, show i = x by omega, shu_0]
                          · rw [if_neg q] at hf ⊢; rw [hf, show i = y by omega]
                        refine gg_conv (L_138 _ 0 rfl (by omega)) (by rw [cp_0, em]) rfl rfl
                      · refine gg_aload_n dX10_moveLine_111 rfl rfl ?_
                        refine gg_iload_n dX10_moveLine_112 rfl ?_
                        refine gg_iload dX10_moveLine_113 rfl ?_
                        refine gi_iconst dX10_moveLine_115 ?_
                        refine gi_isub dX10_moveLine_116 ?_
                        refine gc_X10_221 rfl dX10_moveLine_117 ⟨(Nat.le_of_ble_eq_true rfl), (Nat.le_of_ble_eq_true rfl)⟩ ⟨(Nat.le_of_ble_eq_true rfl), (Nat.le_of_ble_eq_true rfl)⟩ (Nat.le_of_ble_eq_true rfl) (c_X10_lineAt) (fun _ _ w => w.elim) (fun r_117 h_117 hp => ?_)
                        obtain ⟨rfl, rfl⟩ := hp
                        refine gg_iload_n dX10_moveLine_120 rfl ?_
                        refine gg_iload dX10_moveLine_121 rfl ?_
                        refine gc_X10_221 rfl dX10_moveLine_123 ⟨(Nat.le_of_ble_eq_true rfl), (Nat.le_of_ble_eq_true rfl)⟩ ⟨(Nat.le_of_ble_eq_true rfl), (Nat.le_of_ble_eq_true rfl)⟩ (Nat.le_of_ble_eq_true rfl) (c_X10_lineAt) (fun _ _ w => w.elim) (fun r_123 h_123 hp => ?_)
                        obtain ⟨rfl, rfl⟩ := hp
                        refine gc_X10_227 rfl dX10_moveLine_126 ⟨(Nat.le_of_ble_eq_true rfl), (Nat.le_of_ble_eq_true rfl)⟩ ⟨(Nat.le_of_ble_eq_true rfl), (Nat.le_of_ble_eq_true rfl)⟩ (Nat.le_of_ble_eq_true rfl) (HAt.mu rfl) (c_X10_moves ⟨by omega, by omega⟩ ⟨by omega, by omega⟩ (by omega)) (fun _ _ w => w.elim) (fun r_126 h_126 hp => ?_)
                        obtain ⟨rfl, rfl⟩ := hp
                        simp only [uA_s, uA_n, uA_ss, uA_cc, id_eq, ne_eq, not_false_eq_true, Nat.reduceEqDiff, Nat.reduceLT, reduceCtorEq]
                        refine gi_iinc dX10_moveLine_129 rfl (Nat.le_of_ble_eq_true rfl) rfl ?_
                        refine gg_goto (tgt := 105) dX10_moveLine_132 (by decide) ?_
                        refine gg_conv (ih_105 _ (by omega) (i + -1) f9 rfl (by omega) hf) ?_ rfl rfl
                        rw [show 169 + 61 * (10 * d + (i + -1)) = (169 + 61 * (10 * d + i)) - 61 by omega, show 169 + 61 * (10 * d + (i - 1)) = (169 + 61 * (10 * d + i)) - 61 by omega, shu_b (by omega) (by omega)]
                  refine gg_conv (L_105 _ x (shd (A 1) (169 + 61 * (10 * d + x)) (169 + 61 * (10 * d + i)) 61) rfl (by omega) ?_) (by rw [shu_0]) rfl rfl
                  by_cases q : x ≤ y
                  · rw [if_pos q, show i = y by omega]
                  · rw [if_neg q, show i = x by omega, shd_0]
                · refine gg_aload_n dX10_moveLine_78 rfl rfl ?_
                  refine gg_iload_n dX10_moveLine_79 rfl ?_
                  refine gg_iload dX10_moveLine_80 rfl ?_
                  refine gi_iconst dX10_moveLine_82 ?_
                  refine gi_iadd dX10_moveLine_83 ?_
                  refine gc_X10_221 rfl dX10_moveLine_84 ⟨(Nat.le_of_ble_eq_true rfl), (Nat.le_of_ble_eq_true rfl)⟩ ⟨(Nat.le_of_ble_eq_true rfl), (Nat.le_of_ble_eq_true rfl)⟩ (Nat.le_of_ble_eq_true rfl) (c_X10_lineAt) (fun _ _ w => w.elim) (fun r_84 h_84 hp => ?_)
                  obtain ⟨rfl, rfl⟩ := hp
                  refine gg_iload_n dX10_moveLine_87 rfl ?_
                  refine gg_iload dX10_moveLine_88 rfl ?_
                  refine gc_X10_221 rfl dX10_moveLine_90 ⟨(Nat.le_of_ble_eq_true rfl), (Nat.le_of_ble_eq_true rfl)⟩ ⟨(Nat.le_of_ble_eq_true rfl), (Nat.le_of_ble_eq_true rfl)⟩ (Nat.le_of_ble_eq_true rfl) (c_X10_lineAt) (fun _ _ w => w.elim) (fun r_90 h_90 hp => ?_)
                  obtain ⟨rfl, rfl⟩ := hp
                  refine gc_X10_227 rfl dX10_moveLine_93 ⟨(Nat.le_of_ble_eq_true rfl), (Nat.le_of_ble_eq_true rfl)⟩ ⟨(Nat.le_of_ble_eq_true rfl), (Nat.le_of_ble_eq_true rfl)⟩ (Nat.le_of_ble_eq_true rfl) (HAt.mu rfl) (c_X10_moves ⟨by omega, by omega⟩ ⟨by omega, by omega⟩ (by omega)) (fun _ _ w => w.elim) (fun r_93 h_93 hp => ?_)
                  obtain ⟨rfl, rfl⟩ := hp
                  simp only [uA_s, uA_n, uA_ss, uA_cc, id_eq, ne_eq, not_false_eq_true, Nat.reduceEqDiff, Nat.reduceLT, reduceCtorEq]
                  refine gi_iinc dX10_moveLine_96 rfl (Nat.le_of_ble_eq_true rfl) rfl ?_
                  refine gg_goto (tgt := 72) dX10_moveLine_99 (by decide) ?_
                  refine gg_conv (ih_72 _ (by omega) (i + 1) rfl (by omega)) ?_ rfl rfl
                  rw [show 169 + 61 * (10 * d + (i + 1)) = (169 + 61 * (10 * d + i)) + 61 by omega, shd_b (by omega) (by omega)]
            rw [show k = 61 by omega]
            refine gg_conv (L_72 _ x rfl (by omega)) (by rw [shd_0]) rfl rfl
          · refine gg_aload_n dX10_moveLine_43 rfl rfl ?_
            refine gm_get57 rfl dX10_moveLine_44 ?_
            refine gg_iload dX10_moveLine_47 rfl ?_
            refine gg_aload_n dX10_moveLine_49 rfl rfl ?_
            refine gm_get13 rfl dX10_moveLine_50 ?_
            refine gg_iload_n dX10_moveLine_53 rfl ?_
            refine gg_iload_n dX10_moveLine_54 rfl ?_
            refine gc_X10_221 rfl dX10_moveLine_55 ⟨(Nat.le_of_ble_eq_true rfl), (Nat.le_of_ble_eq_true rfl)⟩ ⟨(Nat.le_of_ble_eq_true rfl), (Nat.le_of_ble_eq_true rfl)⟩ (Nat.le_of_ble_eq_true rfl) (c_X10_lineAt) (fun _ _ w => w.elim) (fun r_55 h_55 hp => ?_)
            obtain ⟨rfl, rfl⟩ := hp
            refine gg_iload dX10_moveLine_58 rfl ?_
            refine gi_iadd dX10_moveLine_60 ?_
            refine gm_iald dX10_moveLine_61 (by decide) rfl (by decide) ⟨by omega, by simp only [ml9]; omega⟩ (by (try simp only [uA_s, uA_n, ne_eq, not_false_eq_true, Nat.reduceEqDiff, reduceCtorEq]); rfl) ?_
            refine gm_iast dX10_moveLine_62 (by decide) rfl (by decide) ⟨by omega, by simp only [ml9]; omega⟩ (by (try simp only [uA_s, uA_n, uA_ss, uA_cc, id_eq, ne_eq, not_false_eq_true, Nat.reduceEqDiff, Nat.reduceLT, reduceCtorEq]); rfl) ?_
            refine gi_iinc dX10_moveLine_63 rfl (Nat.le_of_ble_eq_true rfl) rfl ?_
            refine gg_goto (tgt := 36) dX10_moveLine_66 (by decide) ?_
            refine gg_conv (ih_36 _ (by omega) (k + 1) rfl (by omega)) ?_ rfl rfl
            rw [← cp_s hk.1, Int.zero_add]
      refine gg_conv (L_36 _ 0 rfl (by omega)) (by rw [cp_0, uA_id, uA_e (show (uA A 4 (kA A (F 5))) 7 = A 7 from uA_n (by decide))]) rfl rfl
    · rw [bi_f] at c_20
      simp at c_20
      refine gg_aload_n dX10_moveLine_23 rfl rfl ?_
      refine gi_iconst dX10_moveLine_24 ?_
      refine gc_X10_162 rfl dX10_moveLine_25 ⟨(Nat.le_of_ble_eq_true rfl), (Nat.le_of_ble_eq_true rfl)⟩ ⟨(Nat.le_of_ble_eq_true rfl), (Nat.le_of_ble_eq_true rfl)⟩ (Nat.le_of_ble_eq_true rfl) (HAt.mu rfl) (c_X10_fails) (fun _ _ w => w.elim) (fun r_25 h_25 hp => ?_)
      obtain ⟨rfl, rfl⟩ := hp
      subst hQF9
      refine gg_iret dX10_moveLine_28 rfl rfl ⟨(Nat.le_of_ble_eq_true rfl), (Nat.le_of_ble_eq_true rfl)⟩ ?_
      exact Or.inl ⟨by omega, rfl, by rw [uF_ss]⟩
