/-! the reference: means, metres told, lines changed -/
theorem n32_c {a b : Int} (ha : 0 ≤ a ∧ a ≤ 1000) (hb : 1 ≤ b ∧ b ≤ 10) : vf_n32 (FP.fdiv (FP.i2f (iN a)) (FP.i2f (iN b))) := by
  obtain ⟨n, rfl⟩ := Int.eq_ofNat_of_zero_le ha.1
  obtain ⟨m, hm⟩ := Int.eq_ofNat_of_zero_le (show 0 ≤ b - 1 by omega)
  have e1 : b = ((m + 1 : Nat) : Int) := by omega
  rw [e1, iN_nI, iN_nI]
  exact n32_ok ⟨m, by omega⟩ ⟨n, by omega⟩
theorem bsC_ok2 {a : Int → Int} {d l : Int} (S : StA a) (N : LnA a) (hd : 0 ≤ d ∧ d ≤ 3) (hl : 0 ≤ l ∧ l < a (5 + d)) : -1 ≤ (bsC a d l (a 0) (a 1) (a 2)).1 ∧ (bsC a d l (a 0) (a 1) (a 2)).1 ≤ 100 :=
  (bsC_ok (kd := a 0) S.2.1 S.2.2.1 (lnW_n N hd hl).2).1
theorem smV_2 {a : Int → Int} {d : Int} (S : StA a) (N : LnA a) (hd : 0 ≤ d ∧ d ≤ 3) : ∀ l : Nat, (l : Int) ≤ a (5 + d) → 0 ≤ smV a d 2 l ∧ smV a d 2 l ≤ 100 * l
  | 0, _ => by simp [smV]
  | l + 1, hl => by
    have ih := smV_2 S N hd l (by omega)
    have hb := bsC_ok2 (d := d) (l := l) S N hd ⟨by omega, by omega⟩
    rw [smV, olV, if_neg (by decide), if_pos rfl]
    split <;> omega
theorem smV_3 {a : Int → Int} {d : Int} : ∀ l : Nat, 0 ≤ smV a d 3 l ∧ smV a d 3 l ≤ l
  | 0 => by simp [smV]
  | l + 1 => by
    have ih := smV_3 (a := a) (d := d) l
    rw [smV, olV, if_neg (by decide), if_neg (by decide), if_pos rfl]
    split <;> omega
set_option maxRecDepth 100000 in
set_option maxHeartbeats 4000000 in
theorem c_X10_meanCost {Γ : GT} {h : XH} {F : Nat → Int} {A : Nat → Int → Int} (S : StA (A 1)) (N : LnA (A 1)) (E9 : ExA (A 1)) (h38 : F 38 = 0 ∨ F 38 = 1) {d : Int} (hd : InR d) : Ct Γ M_X10_meanCost [.ref (g_L Γ 0), .int (iN d)] (mst Γ h F A) (fun r h9 => (¬ (0 ≤ d ∧ d ≤ 3) ∧ r = some (.float (FP.i2f (iN 0))) ∧ h9 = mst Γ h (uF F 0 1) A) ∨ ((0 ≤ d ∧ d ≤ 3) ∧ ∃ (F2 : Nat → Int) (A2 : Nat → Int → Int), h9 = mst Γ h F2 A2 ∧ frF [0, 16, 24, 25, 27, 28, 29, 30, 34, 35, 36, 37, 38, 39, 40, 41, 42] F F2 ∧ frA [8, 9, 10, 11, 12, 13, 14, 15, 16, 17, 18, 19, 20, 21, 22] A A2 ∧ (((A 1 (5 + d) - smV (A 1) d 3 (A 1 (5 + d)).toNat) = 0 ∧ r = some (.float (FP.i2f (iN 0))) ∧ F2 0 = 2) ∨ (0 < (A 1 (5 + d) - smV (A 1) d 3 (A 1 (5 + d)).toNat) ∧ r = some (.float (FP.fdiv (FP.i2f (iN (smV (A 1) d 2 (A 1 (5 + d)).toNat))) (FP.i2f (iN (A 1 (5 + d) - smV (A 1) d 3 (A 1 (5 + d)).toNat))))) ∧ F2 0 = 0)))) (fun _ _ => False) := by
  refine Ct.of rfl (by decide +kernel) (Nat.le_of_ble_eq_true rfl) ?_
  generalize hQF9 : QM Γ _ _ _ = QF9
  obtain ⟨t0, t1, t2, t3, t4, t5, t6⟩ := id S
  refine gg_aload_n dX10_meanCost_0 rfl rfl ?_
  refine gi_iconst dX10_meanCost_1 ?_
  refine gm_put3 rfl dX10_meanCost_2 (by (try simp only [uF_ss, uF_cc, id_eq, Nat.reduceLT, reduceCtorEq]); rfl) ?_
  refine gg_iload_n dX10_meanCost_5 rfl ?_
  refine gc_X10_218 rfl dX10_meanCost_6 ⟨(Nat.le_of_ble_eq_true rfl), (Nat.le_of_ble_eq_true rfl)⟩ ⟨(Nat.le_of_ble_eq_true rfl), (Nat.le_of_ble_eq_true rfl)⟩ (Nat.le_of_ble_eq_true rfl) (c_X10_isDraft (by assumption)) (fun _ _ w => w.elim) (fun r_6 h_6 hp => ?_)
  obtain ⟨rfl, rfl⟩ := hp
  refine gi_if_ne (tgt := 19) dX10_meanCost_9 (by decide) (bi_r _) (fun c_9 => ?_) (fun c_9 => ?_)
  · rw [bi_t] at c_9
    simp at c_9
    have hn9 := t5 d (by omega) (by omega)
    refine gg_aload_n dX10_meanCost_19 rfl rfl ?_
    refine gm_get13 rfl dX10_meanCost_20 ?_
    refine gi_iconst dX10_meanCost_23 ?_
    refine gg_iload_n dX10_meanCost_24 rfl ?_
    refine gi_iadd dX10_meanCost_25 ?_
    refine gm_iald dX10_meanCost_26 (by decide) rfl (by decide) ⟨by omega, by simp only [ml9]; omega⟩ (by (try simp only [uA_s, uA_n, ne_eq, not_false_eq_true, Nat.reduceEqDiff, reduceCtorEq]); rfl) ?_
    refine gg_aload_n dX10_meanCost_27 rfl rfl ?_
    refine gg_iload_n dX10_meanCost_28 rfl ?_
    refine gi_iconst dX10_meanCost_29 ?_
    refine gc_X10_352 rfl dX10_meanCost_30 ⟨(Nat.le_of_ble_eq_true rfl), (Nat.le_of_ble_eq_true rfl)⟩ ⟨(Nat.le_of_ble_eq_true rfl), (Nat.le_of_ble_eq_true rfl)⟩ (Nat.le_of_ble_eq_true rfl) (HAt.mu rfl) (c_X10_sums (F := uF F 0 0) S N E9 (by simp only [uF_s, uF_n, uF_ss, uF_cc, id_eq, ne_eq, not_false_eq_true, Nat.reduceEqDiff, Nat.reduceLT, reduceCtorEq]; exact h38) ⟨by omega, by omega⟩ ⟨by omega, by omega⟩) (fun _ _ w => w.elim) (fun r_30 h_30 hp => ?_)
    obtain ⟨F1, A1, rfl, rfl, hF, hA, x38⟩ := hp
    have g1 : A1 1 = A 1 := hA 1 (by decide)
    have hs3 := smV_3 (a := A 1) (d := d) (A 1 (5 + d)).toNat
    refine gi_isub dX10_meanCost_33 ?_
    refine gg_istore_n dX10_meanCost_34 (Nat.le_of_ble_eq_true rfl) rfl ?_
    refine gg_iload_n dX10_meanCost_35 rfl ?_
    refine gi_if_ne (tgt := 48) dX10_meanCost_36 (by decide) ⟨by omega, by omega⟩ (fun c_36 => ?_) (fun c_36 => ?_)
    · refine gg_aload_n dX10_meanCost_48 rfl rfl ?_
      refine gg_iload_n dX10_meanCost_49 rfl ?_
      refine gi_iconst dX10_meanCost_50 ?_
      refine gc_X10_352 rfl dX10_meanCost_51 ⟨(Nat.le_of_ble_eq_true rfl), (Nat.le_of_ble_eq_true rfl)⟩ ⟨(Nat.le_of_ble_eq_true rfl), (Nat.le_of_ble_eq_true rfl)⟩ (Nat.le_of_ble_eq_true rfl) (HAt.mu rfl) (c_X10_sums (F := F1) (A := A1) (by rw [g1]; exact S) (by rw [g1]; exact N) (by rw [g1]; exact E9) x38 ⟨by omega, by omega⟩ ⟨by omega, by omega⟩) (fun _ _ w => w.elim) (fun r_51 h_51 hp => ?_)
      obtain ⟨F2, A2, rfl, rfl, hF2, hA2, y38⟩ := hp
      rw [g1]
      have hs2 := smV_2 (a := A 1) (d := d) S N ⟨by omega, by omega⟩ (A 1 (5 + d)).toNat (by omega)
      refine gg_i2f dX10_meanCost_54  ?_
      refine gg_iload_n dX10_meanCost_55 rfl ?_
      refine gg_i2f dX10_meanCost_56  ?_
      refine gg_fdiv dX10_meanCost_57 (n32_c ⟨by omega, by omega⟩ ⟨by omega, by omega⟩) ?_
      subst hQF9
      refine gg_fret dX10_meanCost_58 rfl ⟨(Nat.le_of_ble_eq_true rfl), (Nat.le_of_ble_eq_true rfl)⟩ ?_
      exact Or.inr ⟨by omega, F2, A2, rfl, fun j hj => by rw [hF2 j (fun q => hj (by revert q; simp; omega)), frF_z hF (by decide) j hj], fun j hj => by rw [hA2 j (fun q => hj (by revert q; simp; omega)), hA j (fun q => hj (by revert q; simp; omega))], Or.inr ⟨by omega, rfl, by rw [hF2 0 (by decide), hF 0 (by decide), uF_s]⟩⟩
    · refine gg_aload_n dX10_meanCost_39 rfl rfl ?_
      refine gi_iconst dX10_meanCost_40 ?_
      refine gc_X10_162 rfl dX10_meanCost_41 ⟨(Nat.le_of_ble_eq_true rfl), (Nat.le_of_ble_eq_true rfl)⟩ ⟨(Nat.le_of_ble_eq_true rfl), (Nat.le_of_ble_eq_true rfl)⟩ (Nat.le_of_ble_eq_true rfl) (HAt.mu rfl) (c_X10_fails) (fun _ _ w => w.elim) (fun r_41 h_41 hp => ?_)
      obtain ⟨rfl, rfl⟩ := hp
      refine gg_i2f dX10_meanCost_44  ?_
      refine gg_goto (tgt := 58) dX10_meanCost_45 (by decide) ?_
      subst hQF9
      refine gg_fret dX10_meanCost_58 rfl ⟨(Nat.le_of_ble_eq_true rfl), (Nat.le_of_ble_eq_true rfl)⟩ ?_
      exact Or.inr ⟨by omega, uF F1 0 2, A1, rfl, frF_u (frF_z hF (by decide)) (by decide), frA_w hA (by decide), Or.inl ⟨c_36, rfl, uF_s⟩⟩
  · rw [bi_f] at c_9
    simp at c_9
    refine gg_aload_n dX10_meanCost_12 rfl rfl ?_
    refine gi_iconst dX10_meanCost_13 ?_
    refine gc_X10_162 rfl dX10_meanCost_14 ⟨(Nat.le_of_ble_eq_true rfl), (Nat.le_of_ble_eq_true rfl)⟩ ⟨(Nat.le_of_ble_eq_true rfl), (Nat.le_of_ble_eq_true rfl)⟩ (Nat.le_of_ble_eq_true rfl) (HAt.mu rfl) (c_X10_fails) (fun _ _ w => w.elim) (fun r_14 h_14 hp => ?_)
    obtain ⟨rfl, rfl⟩ := hp
    refine gg_i2f dX10_meanCost_17  ?_
    subst hQF9
    refine gg_fret dX10_meanCost_18 rfl ⟨(Nat.le_of_ble_eq_true rfl), (Nat.le_of_ble_eq_true rfl)⟩ ?_
    exact Or.inl ⟨by omega, rfl, by rw [uF_ss]⟩
set_option maxRecDepth 100000 in
set_option maxHeartbeats 4000000 in
theorem c_X10_thrown {Γ : GT} {h : XH} {F : Nat → Int} {A : Nat → Int → Int} : Ct Γ M_X10_thrown [.ref (g_L Γ 0)] (mst Γ h F A) (fun r h9 => r = some (.int (iN (F 0))) ∧ h9 = mst Γ h F A) (fun _ _ => False) := by
  refine Ct.of rfl (by decide +kernel) (Nat.le_of_ble_eq_true rfl) ?_
  generalize hQF9 : QM Γ _ _ _ = QF9
  refine gg_aload_n dX10_thrown_0 rfl rfl ?_
  refine gm_get3 rfl dX10_thrown_1 (by (try simp only [uF_s, uF_n, ne_eq, not_false_eq_true, Nat.reduceEqDiff, reduceCtorEq]); rfl) ?_
  subst hQF9
  refine gg_iret dX10_thrown_4 rfl rfl ⟨(Nat.le_of_ble_eq_true rfl), (Nat.le_of_ble_eq_true rfl)⟩ ?_
  exact ⟨rfl, rfl⟩
set_option maxRecDepth 100000 in
set_option maxHeartbeats 4000000 in
theorem c_X10_metre {Γ : GT} {h : XH} {F : Nat → Int} {A : Nat → Int → Int} (S : StA (A 1)) {w : Int} (hw : InR w) : Ct Γ M_X10_metre [.ref (g_L Γ 0), .int (iN w)] (mst Γ h F A) (fun r h9 => (¬ (0 ≤ w ∧ w ≤ 4) ∧ r = some (.int (iN (0))) ∧ h9 = mst Γ h (uF F 0 1) A) ∨ ((0 ≤ w ∧ w ≤ 4) ∧ r = some (.int (iN (if w = 3 then (A 1 1 * szk (A 1 0)) else if w = 4 then (plN (fun p9 => decide (p9 % szk (A 1 0) = sto (A 1 0))) (A 1 1 * szk (A 1 0)).toNat : Int) else A 1 w))) ∧ h9 = mst Γ h (uF F 0 0) A)) (fun _ _ => False) := by
  refine Ct.of rfl (by decide +kernel) (Nat.le_of_ble_eq_true rfl) ?_
  generalize hQF9 : QM Γ _ _ _ = QF9
  obtain ⟨t0, t1, t2, t3, t4, t5, t6⟩ := id S
  have hz9 := szk_r (A 1 0)
  have ho9 := sto_r (A 1 0)
  have hps : 4 ≤ (A 1 1 * szk (A 1 0)) ∧ (A 1 1 * szk (A 1 0)) ≤ 18 := by rcases hz9 with q | q <;> rw [q] <;> omega
  refine gg_aload_n dX10_metre_0 rfl rfl ?_
  refine gi_iconst dX10_metre_1 ?_
  refine gm_put3 rfl dX10_metre_2 (by (try simp only [uF_ss, uF_cc, id_eq, Nat.reduceLT, reduceCtorEq]); rfl) ?_
  refine gg_aload_n dX10_metre_5 rfl rfl ?_
  refine gm_get13 rfl dX10_metre_6 ?_
  refine gi_iconst dX10_metre_9 ?_
  refine gm_iald dX10_metre_10 (by decide) rfl (by decide) ⟨by omega, by simp only [ml9]; omega⟩ (by (try simp only [uA_s, uA_n, ne_eq, not_false_eq_true, Nat.reduceEqDiff, reduceCtorEq]); rfl) ?_
  refine gg_aload_n dX10_metre_11 rfl rfl ?_
  refine gm_get13 rfl dX10_metre_12 ?_
  refine gi_iconst dX10_metre_15 ?_
  refine gm_iald dX10_metre_16 (by decide) rfl (by decide) ⟨by omega, by simp only [ml9]; omega⟩ (by (try simp only [uA_s, uA_n, ne_eq, not_false_eq_true, Nat.reduceEqDiff, reduceCtorEq]); rfl) ?_
  refine gc_X10_205 rfl dX10_metre_17 ⟨(Nat.le_of_ble_eq_true rfl), (Nat.le_of_ble_eq_true rfl)⟩ ⟨(Nat.le_of_ble_eq_true rfl), (Nat.le_of_ble_eq_true rfl)⟩ (Nat.le_of_ble_eq_true rfl) (c2_sizeOf t0) (fun _ _ w => w.elim) (fun r_17 h_17 hp => ?_)
  obtain ⟨rfl, rfl⟩ := hp
  refine gi_imul dX10_metre_20 ?_
  refine gg_istore_n dX10_metre_21 (Nat.le_of_ble_eq_true rfl) rfl ?_
  refine gg_iload_n dX10_metre_22 rfl ?_
  by_cases w_23_0 : w = 0
  · refine gi_tab (tgt := 56) dX10_metre_23 hw (by omega) (by omega) (by rw [w_23_0]; rfl) (by decide) ?_
    refine gg_aload_n dX10_metre_56 rfl rfl ?_
    refine gm_get13 rfl dX10_metre_57 ?_
    refine gi_iconst dX10_metre_60 ?_
    refine gg_iload_n dX10_metre_61 rfl ?_
    refine gi_iadd dX10_metre_62 ?_
    refine gm_iald dX10_metre_63 (by decide) rfl (by decide) ⟨by omega, by simp only [ml9]; omega⟩ (by (try simp only [uA_s, uA_n, ne_eq, not_false_eq_true, Nat.reduceEqDiff, reduceCtorEq]); rfl) ?_
    subst hQF9
    refine gg_iret dX10_metre_64 rfl rfl ⟨(Nat.le_of_ble_eq_true rfl), (Nat.le_of_ble_eq_true rfl)⟩ ?_
    exact Or.inr ⟨by omega, by rw [if_neg (by omega), if_neg (by omega), Int.zero_add], rfl⟩
  by_cases w_23_1 : w = 1
  · refine gi_tab (tgt := 56) dX10_metre_23 hw (by omega) (by omega) (by rw [w_23_1]; rfl) (by decide) ?_
    refine gg_aload_n dX10_metre_56 rfl rfl ?_
    refine gm_get13 rfl dX10_metre_57 ?_
    refine gi_iconst dX10_metre_60 ?_
    refine gg_iload_n dX10_metre_61 rfl ?_
    refine gi_iadd dX10_metre_62 ?_
    refine gm_iald dX10_metre_63 (by decide) rfl (by decide) ⟨by omega, by simp only [ml9]; omega⟩ (by (try simp only [uA_s, uA_n, ne_eq, not_false_eq_true, Nat.reduceEqDiff, reduceCtorEq]); rfl) ?_
    subst hQF9
    refine gg_iret dX10_metre_64 rfl rfl ⟨(Nat.le_of_ble_eq_true rfl), (Nat.le_of_ble_eq_true rfl)⟩ ?_
    exact Or.inr ⟨by omega, by rw [if_neg (by omega), if_neg (by omega), Int.zero_add], rfl⟩
  by_cases w_23_2 : w = 2
  · refine gi_tab (tgt := 56) dX10_metre_23 hw (by omega) (by omega) (by rw [w_23_2]; rfl) (by decide) ?_
    refine gg_aload_n dX10_metre_56 rfl rfl ?_
    refine gm_get13 rfl dX10_metre_57 ?_
    refine gi_iconst dX10_metre_60 ?_
    refine gg_iload_n dX10_metre_61 rfl ?_
    refine gi_iadd dX10_metre_62 ?_
    refine gm_iald dX10_metre_63 (by decide) rfl (by decide) ⟨by omega, by simp only [ml9]; omega⟩ (by (try simp only [uA_s, uA_n, ne_eq, not_false_eq_true, Nat.reduceEqDiff, reduceCtorEq]); rfl) ?_
    subst hQF9
    refine gg_iret dX10_metre_64 rfl rfl ⟨(Nat.le_of_ble_eq_true rfl), (Nat.le_of_ble_eq_true rfl)⟩ ?_
    exact Or.inr ⟨by omega, by rw [if_neg (by omega), if_neg (by omega), Int.zero_add], rfl⟩
  by_cases w_23_3 : w = 3
  · refine gi_tab (tgt := 65) dX10_metre_23 hw (by omega) (by omega) (by rw [w_23_3]; rfl) (by decide) ?_
    refine gg_iload_n dX10_metre_65 rfl ?_
    subst hQF9
    refine gg_iret dX10_metre_66 rfl rfl ⟨(Nat.le_of_ble_eq_true rfl), (Nat.le_of_ble_eq_true rfl)⟩ ?_
    exact Or.inr ⟨by omega, by rw [if_pos (by omega)], rfl⟩
  by_cases w_23_4 : w = 4
  · refine gi_tab (tgt := 67) dX10_metre_23 hw (by omega) (by omega) (by rw [w_23_4]; rfl) (by decide) ?_
    refine gi_iconst dX10_metre_67 ?_
    refine gg_istore_n dX10_metre_68 (Nat.le_of_ble_eq_true rfl) rfl ?_
    refine gi_iconst dX10_metre_69 ?_
    refine gg_istore dX10_metre_70 (Nat.le_of_ble_eq_true rfl) rfl ?_
    have L_72 : ∀ (n9 : Nat) (p : Int), (((A 1 1 * szk (A 1 0)) - p).toNat) = n9 → ∀ (hp9 : 0 ≤ p ∧ p ≤ (A 1 1 * szk (A 1 0))), GG Γ M_X10_metre QF9 (0, 0) (mst Γ h (uF F 0 0) A) 72 [some (.ref (g_L Γ 0)), some (.int (iN w)), some (.int (iN (A 1 1 * szk (A 1 0)))), some (.int (iN (plN (fun p9 => decide (p9 % szk (A 1 0) = sto (A 1 0))) p.toNat : Int))), some (.int (iN p))] [] := by
      intro n9
      induction n9 using Nat.strongRecOn with
      | ind n9 ih_72 => 
        intro p hm9 hp9
        have hm9 := Int.emod_nonneg p (show szk (A 1 0) ≠ 0 by omega)
        have hm8 := Int.emod_lt_of_pos p (show 0 < szk (A 1 0) by omega)
        refine gg_iload dX10_metre_72 rfl ?_
        refine gg_iload_n dX10_metre_74 rfl ?_
        refine gi_icmp_ge (tgt := 119) dX10_metre_75 (by decide) ⟨by omega, by omega⟩ ⟨by omega, by omega⟩ (fun c_75 => ?_) (fun c_75 => ?_)
        · refine gg_iload_n dX10_metre_119 rfl ?_
          subst hQF9
          refine gg_iret dX10_metre_120 rfl rfl ⟨(Nat.le_of_ble_eq_true rfl), (Nat.le_of_ble_eq_true rfl)⟩ ?_
          exact Or.inr ⟨by omega, by rw [if_neg (by omega), if_pos (by omega), show p = (A 1 1 * szk (A 1 0)) by omega], rfl⟩
        · refine gg_iload_n dX10_metre_78 rfl ?_
          refine gg_iload dX10_metre_79 rfl ?_
          refine gg_aload_n dX10_metre_81 rfl rfl ?_
          refine gm_get13 rfl dX10_metre_82 ?_
          refine gi_iconst dX10_metre_85 ?_
          refine gm_iald dX10_metre_86 (by decide) rfl (by decide) ⟨by omega, by simp only [ml9]; omega⟩ (by (try simp only [uA_s, uA_n, ne_eq, not_false_eq_true, Nat.reduceEqDiff, reduceCtorEq]); rfl) ?_
          refine gc_X10_205 rfl dX10_metre_87 ⟨(Nat.le_of_ble_eq_true rfl), (Nat.le_of_ble_eq_true rfl)⟩ ⟨(Nat.le_of_ble_eq_true rfl), (Nat.le_of_ble_eq_true rfl)⟩ (Nat.le_of_ble_eq_true rfl) (c2_sizeOf t0) (fun _ _ w => w.elim) (fun r_87 h_87 hp => ?_)
          obtain ⟨rfl, rfl⟩ := hp
          refine gi_irem dX10_metre_90 ⟨by omega, by omega⟩ ⟨by omega, by omega⟩ ?_
          refine gg_aload_n dX10_metre_91 rfl rfl ?_
          refine gm_get13 rfl dX10_metre_92 ?_
          refine gi_iconst dX10_metre_95 ?_
          refine gm_iald dX10_metre_96 (by decide) rfl (by decide) ⟨by omega, by simp only [ml9]; omega⟩ (by (try simp only [uA_s, uA_n, ne_eq, not_false_eq_true, Nat.reduceEqDiff, reduceCtorEq]); rfl) ?_
          refine gc_X10_208 rfl dX10_metre_97 ⟨(Nat.le_of_ble_eq_true rfl), (Nat.le_of_ble_eq_true rfl)⟩ ⟨(Nat.le_of_ble_eq_true rfl), (Nat.le_of_ble_eq_true rfl)⟩ (Nat.le_of_ble_eq_true rfl) (c2_strongOf t0) (fun _ _ w => w.elim) (fun r_97 h_97 hp => ?_)
          obtain ⟨rfl, rfl⟩ := hp
          refine gi_icmp_ne (tgt := 110) dX10_metre_100 (by decide) ⟨by omega, by omega⟩ ⟨by omega, by omega⟩ (fun c_100 => ?_) (fun c_100 => ?_)
          · refine gi_iconst dX10_metre_110 ?_
            refine gi_ior _ (by first | exact ior_0 | exact or_pl) dX10_metre_111 ?_
            refine gg_istore_n dX10_metre_112 (Nat.le_of_ble_eq_true rfl) rfl ?_
            refine gi_iinc dX10_metre_113 rfl (Nat.le_of_ble_eq_true rfl) rfl ?_
            refine gg_goto (tgt := 72) dX10_metre_116 (by decide) ?_
            have ep : (p + 1).toNat = p.toNat + 1 := by omega
            exact gg_conv (ih_72 _ (by omega) (p + 1) rfl (by omega)) rfl (by rw [ep, plN, Int.toNat_of_nonneg hp9.1, decide_eq_false c_100, if_neg (by decide)]; rfl) rfl
          · refine gi_iconst dX10_metre_103 ?_
            refine gg_iload dX10_metre_104 rfl ?_
            refine gi_ishl _ (bt_shl ⟨by omega, by omega⟩) dX10_metre_106 ?_
            refine gg_goto (tgt := 111) dX10_metre_107 (by decide) ?_
            refine gi_ior _ (by first | exact ior_0 | exact or_pl) dX10_metre_111 ?_
            refine gg_istore_n dX10_metre_112 (Nat.le_of_ble_eq_true rfl) rfl ?_
            refine gi_iinc dX10_metre_113 rfl (Nat.le_of_ble_eq_true rfl) rfl ?_
            refine gg_goto (tgt := 72) dX10_metre_116 (by decide) ?_
            have ep : (p + 1).toNat = p.toNat + 1 := by omega
            exact gg_conv (ih_72 _ (by omega) (p + 1) rfl (by omega)) rfl (by rw [ep, plN, Int.toNat_of_nonneg hp9.1, decide_eq_true c_100, if_pos rfl]; rfl) rfl
    exact L_72 _ 0 rfl (by omega)
  refine gi_tabD (tgt := 121) dX10_metre_23 hw (by omega) (by decide) ?_
  refine gg_aload_n dX10_metre_121 rfl rfl ?_
  refine gi_iconst dX10_metre_122 ?_
  refine gc_X10_162 rfl dX10_metre_123 ⟨(Nat.le_of_ble_eq_true rfl), (Nat.le_of_ble_eq_true rfl)⟩ ⟨(Nat.le_of_ble_eq_true rfl), (Nat.le_of_ble_eq_true rfl)⟩ (Nat.le_of_ble_eq_true rfl) (HAt.mu rfl) (c_X10_fails) (fun _ _ w => w.elim) (fun r_123 h_123 hp => ?_)
  obtain ⟨rfl, rfl⟩ := hp
  subst hQF9
  refine gg_iret dX10_metre_126 rfl rfl ⟨(Nat.le_of_ble_eq_true rfl), (Nat.le_of_ble_eq_true rfl)⟩ ?_
  exact Or.inl ⟨by omega, rfl, by rw [uF_ss]⟩
set_option maxRecDepth 100000 in
set_option maxHeartbeats 4000000 in
theorem c_X10_replaceLine {Γ : GT} {h : XH} {F : Nat → Int} {A : Nat → Int → Int} (S : StA (A 1)) (h5 : 0 ≤ F 5 ∧ F 5 ≤ 8) (h8 : 0 ≤ F 8 ∧ F 8 ≤ 60) (h10 : InR (F 10)) (i4 : ∀ i, 0 ≤ i ∧ i < F 8 → 0 ≤ A 5 i ∧ A 5 i < 65536) {d l : Int} (hd : InR d) (hl : InR l) : Ct Γ M_X10_replaceLine [.ref (g_L Γ 0), .int (iN d), .int (iN l)] (mst Γ h F A) (fun r h9 => (¬ (0 ≤ d ∧ d ≤ 3 ∧ 0 ≤ l ∧ l < A 1 (5 + d)) ∧ r = some (.int (iN 0)) ∧ h9 = mst Γ h (uF F 0 1) A) ∨ ((0 ≤ d ∧ d ≤ 3 ∧ 0 ≤ l ∧ l < A 1 (5 + d)) ∧ (parseL (A 5) (F 8) 12 0).1 = false ∧ r = some (.int (iN (0))) ∧ ∃ m : Int, h9 = mst Γ h (uF (uF (uF (uF (uF (uF (uF F 0 2) 8 0) 9 (parseL (A 5) (F 8) 12 0).2.1) 10 (parseL (A 5) (F 8) 12 0).2.1) 11 1) 12 (F 8)) 13 (m)) A) ∨ ((0 ≤ d ∧ d ≤ 3 ∧ 0 ≤ l ∧ l < A 1 (5 + d)) ∧ (parseL (A 5) (F 8) 12 0).1 = true ∧ r = some (.int (iN (((parseL (A 5) (F 8) 12 0).2.2.length : Int)))) ∧ h9 = mst Γ h (uF (uF (uF (uF (uF (uF (uF F 0 0) 8 0) 9 (parseL (A 5) (F 8) 12 0).2.1) 11 0) 12 (F 8)) 13 (((parseL (A 5) (F 8) 12 0).2.2.length : Int))) 5 (kc (F 5))) (uA (uA A 1 (lyA (A 1) (A 5) (F 8) (169 + 61 * (10 * d + l)) 60)) 4 (kA A (F 5))))) (fun _ _ => False) := by
  refine Ct.of rfl (by decide +kernel) (Nat.le_of_ble_eq_true rfl) ?_
  generalize hQF9 : QM Γ _ _ _ = QF9
  obtain ⟨t0, t1, t2, t3, t4, t5, t6⟩ := id S
  refine gg_aload_n dX10_replaceLine_0 rfl rfl ?_
  refine gi_iconst dX10_replaceLine_1 ?_
  refine gm_put3 rfl dX10_replaceLine_2 (by (try simp only [uF_ss, uF_cc, id_eq, Nat.reduceLT, reduceCtorEq]); rfl) ?_
  refine gg_aload_n dX10_replaceLine_5 rfl rfl ?_
  refine gg_iload_n dX10_replaceLine_6 rfl ?_
  refine gg_iload_n dX10_replaceLine_7 rfl ?_
  refine gc_X10_234 rfl dX10_replaceLine_8 ⟨(Nat.le_of_ble_eq_true rfl), (Nat.le_of_ble_eq_true rfl)⟩ ⟨(Nat.le_of_ble_eq_true rfl), (Nat.le_of_ble_eq_true rfl)⟩ (Nat.le_of_ble_eq_true rfl) (HAt.mu rfl) (c_X10_isLine (by exact S) (by assumption) (by assumption)) (fun _ _ w => w.elim) (fun r_8 h_8 hp => ?_)
  obtain ⟨rfl, rfl⟩ := hp
  refine gi_if_ne (tgt := 20) dX10_replaceLine_11 (by decide) (bi_r _) (fun c_11 => ?_) (fun c_11 => ?_)
  · rw [bi_t] at c_11
    simp at c_11
    have hn9 := t5 d (by omega) (by omega)
    refine gg_aload_n dX10_replaceLine_20 rfl rfl ?_
    refine gc_X10_224 rfl dX10_replaceLine_21 ⟨(Nat.le_of_ble_eq_true rfl), (Nat.le_of_ble_eq_true rfl)⟩ ⟨(Nat.le_of_ble_eq_true rfl), (Nat.le_of_ble_eq_true rfl)⟩ (Nat.le_of_ble_eq_true rfl) (HAt.mu rfl) (c_X10_isWrongLine (F := uF F 0 0) (by simp only [uF_s, uF_n, uF_ss, uF_cc, id_eq, ne_eq, not_false_eq_true, Nat.reduceEqDiff, Nat.reduceLT, reduceCtorEq]; exact h8) (by simp only [uF_s, uF_n, uF_ss, uF_cc, id_eq, ne_eq, not_false_eq_true, Nat.reduceEqDiff, Nat.reduceLT, reduceCtorEq]; exact h10) (by simp only [uF_s, uF_n, uF_ss, uF_cc, id_eq, ne_eq, not_false_eq_true, Nat.reduceEqDiff, Nat.reduceLT, reduceCtorEq]; exact i4)) (fun _ _ w => w.elim) (fun r_21 h_21 hp => ?_)
    simp only [uF_s, uF_n, uF_ss, uF_cc, id_eq, ne_eq, not_false_eq_true, Nat.reduceEqDiff, Nat.reduceLT, reduceCtorEq] at hp
    obtain ⟨m9, hp⟩ := hp
    rcases hp with ⟨pl, rfl, em, rfl⟩ | ⟨pl, rfl, rfl⟩
    · refine gi_if_eq (tgt := 33) dX10_replaceLine_24 (by decide) ⟨by omega, by omega⟩ (fun c_24 => ?_) (fun c_24 => ?_)
      · refine gg_aload_n dX10_replaceLine_33 rfl rfl ?_
        refine gc_X10_184 rfl dX10_replaceLine_34 ⟨(Nat.le_of_ble_eq_true rfl), (Nat.le_of_ble_eq_true rfl)⟩ ⟨(Nat.le_of_ble_eq_true rfl), (Nat.le_of_ble_eq_true rfl)⟩ (Nat.le_of_ble_eq_true rfl) (HAt.mu rfl) (c_X10_keeps (by simp only [uF_s, uF_n, uF_ss, uF_cc, id_eq, ne_eq, not_false_eq_true, Nat.reduceEqDiff, Nat.reduceLT, reduceCtorEq]; exact h5)) (fun _ _ w => w.elim) (fun r_34 h_34 hp => ?_)
        obtain ⟨rfl, rfl⟩ := hp
        simp only [uF_s, uF_n, uF_ss, uF_cc, id_eq, ne_eq, not_false_eq_true, Nat.reduceEqDiff, Nat.reduceLT, reduceCtorEq]
        refine gg_aload_n dX10_replaceLine_37 rfl rfl ?_
        refine gg_iload_n dX10_replaceLine_38 rfl ?_
        refine gg_iload_n dX10_replaceLine_39 rfl ?_
        refine gc_X10_231 rfl dX10_replaceLine_40 ⟨(Nat.le_of_ble_eq_true rfl), (Nat.le_of_ble_eq_true rfl)⟩ ⟨(Nat.le_of_ble_eq_true rfl), (Nat.le_of_ble_eq_true rfl)⟩ (Nat.le_of_ble_eq_true rfl) (HAt.mu rfl) (c_X10_lays ⟨by omega, by omega⟩ ⟨by omega, by omega⟩ (by simp only [uF_s, uF_n, uF_ss, uF_cc, id_eq, ne_eq, not_false_eq_true, Nat.reduceEqDiff, Nat.reduceLT, reduceCtorEq]; exact h8)) (fun _ _ w => w.elim) (fun r_40 h_40 hp => ?_)
        obtain ⟨rfl, rfl⟩ := hp
        simp only [uF_s, uF_n, uF_ss, uF_cc, id_eq, ne_eq, not_false_eq_true, Nat.reduceEqDiff, Nat.reduceLT, reduceCtorEq, uA_s, uA_n, uA_ss, uA_cc, id_eq, ne_eq, not_false_eq_true, Nat.reduceEqDiff, Nat.reduceLT, reduceCtorEq]
        refine gg_aload_n dX10_replaceLine_43 rfl rfl ?_
        refine gm_get51 rfl dX10_replaceLine_44 (by (try simp only [uF_s, uF_n, ne_eq, not_false_eq_true, Nat.reduceEqDiff, reduceCtorEq]); rfl) ?_
        subst hQF9
        refine gg_iret dX10_replaceLine_47 rfl rfl ⟨(Nat.le_of_ble_eq_true rfl), (Nat.le_of_ble_eq_true rfl)⟩ ?_
        subst em
        exact Or.inr (Or.inr ⟨by omega, pl, rfl, by simp only [uF_s, uF_n, uF_ss, uF_cc, id_eq, ne_eq, not_false_eq_true, Nat.reduceEqDiff, Nat.reduceLT, reduceCtorEq, uA_s, uA_n, uA_ss, uA_cc, id_eq, ne_eq, not_false_eq_true, Nat.reduceEqDiff, Nat.reduceLT, reduceCtorEq]⟩)
      · exact absurd rfl c_24
    · refine gi_if_eq (tgt := 33) dX10_replaceLine_24 (by decide) ⟨by omega, by omega⟩ (fun c_24 => ?_) (fun c_24 => ?_)
      · exact absurd c_24 (by decide)
      · refine gg_aload_n dX10_replaceLine_27 rfl rfl ?_
        refine gi_iconst dX10_replaceLine_28 ?_
        refine gc_X10_162 rfl dX10_replaceLine_29 ⟨(Nat.le_of_ble_eq_true rfl), (Nat.le_of_ble_eq_true rfl)⟩ ⟨(Nat.le_of_ble_eq_true rfl), (Nat.le_of_ble_eq_true rfl)⟩ (Nat.le_of_ble_eq_true rfl) (HAt.mu rfl) (c_X10_fails) (fun _ _ w => w.elim) (fun r_29 h_29 hp => ?_)
        obtain ⟨rfl, rfl⟩ := hp
        subst hQF9
        refine gg_iret dX10_replaceLine_32 rfl rfl ⟨(Nat.le_of_ble_eq_true rfl), (Nat.le_of_ble_eq_true rfl)⟩ ?_
        exact Or.inr (Or.inl ⟨by omega, pl, rfl, m9, by simp only [uF_s, uF_n, uF_ss, uF_cc, id_eq, ne_eq, not_false_eq_true, Nat.reduceEqDiff, Nat.reduceLT, reduceCtorEq]⟩)
  · rw [bi_f] at c_11
    simp at c_11
    refine gg_aload_n dX10_replaceLine_14 rfl rfl ?_
    refine gi_iconst dX10_replaceLine_15 ?_
    refine gc_X10_162 rfl dX10_replaceLine_16 ⟨(Nat.le_of_ble_eq_true rfl), (Nat.le_of_ble_eq_true rfl)⟩ ⟨(Nat.le_of_ble_eq_true rfl), (Nat.le_of_ble_eq_true rfl)⟩ (Nat.le_of_ble_eq_true rfl) (HAt.mu rfl) (c_X10_fails) (fun _ _ w => w.elim) (fun r_16 h_16 hp => ?_)
    obtain ⟨rfl, rfl⟩ := hp
    subst hQF9
    refine gg_iret dX10_replaceLine_19 rfl rfl ⟨(Nat.le_of_ble_eq_true rfl), (Nat.le_of_ble_eq_true rfl)⟩ ?_
    exact Or.inl ⟨by omega, rfl, by rw [uF_ss]⟩
