/-! the reference: what keeps the best scan's inversion -/
set_option maxRecDepth 100000 in
set_option maxHeartbeats 4000000 in
theorem c3_X10_cost {Γ : GT} {h : XH} {F : Nat → Int} {A : Nat → Int → Int} (S : StA (A 1)) (N : LnA (A 1)) (E9 : ExA (A 1)) {d l : Int} (hd : InR d) (hl : InR l) {z i : Int} (hz : InR z) (hi : i = 0 ∨ i = 1) : Ct Γ M_X10_cost [.ref (g_L Γ 0), .int (iN d), .int (iN l), .int (iN z), .int (iN i)] (mst Γ h F A) (fun r h9 => (¬ (0 ≤ d ∧ d ≤ 3 ∧ 0 ≤ l ∧ l < A 1 (5 + d)) ∧ r = some (.int (iN 0)) ∧ h9 = mst Γ h (uF F 0 1) A) ∨ ((0 ≤ d ∧ d ≤ 3 ∧ 0 ≤ l ∧ l < A 1 (5 + d)) ∧ ∃ (F1 F2 : Nat → Int) (A1 A2 : Nat → Int → Int), h9 = mst Γ h F2 A2 ∧ F2 38 = F 38 ∧ frF [0, 16, 24, 25, 27, 28, 29, 30, 34, 35, 36, 37, 38, 39, 40, 41, 42] F F2 ∧ frA [8, 9, 10, 11, 12, 13, 14, 15, 16, 17, 18, 19, 20, 21, 22] A A2 ∧ LD (A 1) d l F1 A1 ∧ ((are F1 A1 z = false ∧ r = some (.int (iN (0))) ∧ F2 0 = 2) ∨ (are F1 A1 z = true ∧ cst (A 1 0) (A 1 1) (A 1 2) (sA A1 z (s0 A1) (F1 16).toNat) z i < 0 ∧ r = some (.int (iN (0))) ∧ F2 0 = 3) ∨ (are F1 A1 z = true ∧ 0 ≤ cst (A 1 0) (A 1 1) (A 1 2) (sA A1 z (s0 A1) (F1 16).toNat) z i ∧ r = some (.int (iN (cst (A 1 0) (A 1 1) (A 1 2) (sA A1 z (s0 A1) (F1 16).toNat) z i))) ∧ F2 0 = 0)))) (fun _ _ => False) := by
  refine Ct.of rfl (by decide +kernel) (Nat.le_of_ble_eq_true rfl) ?_
  generalize hQF9 : QM Γ _ _ _ = QF9
  obtain ⟨t0, t1, t2, t3, t4, t5, t6⟩ := id S
  refine gg_aload_n dX10_cost_0 rfl rfl ?_
  refine gi_iconst dX10_cost_1 ?_
  refine gm_put3 rfl dX10_cost_2 (by (try simp only [uF_ss, uF_cc, id_eq, Nat.reduceLT, reduceCtorEq]); rfl) ?_
  refine gg_aload_n dX10_cost_5 rfl rfl ?_
  refine gg_iload_n dX10_cost_6 rfl ?_
  refine gg_iload_n dX10_cost_7 rfl ?_
  refine gc_X10_234 rfl dX10_cost_8 ⟨(Nat.le_of_ble_eq_true rfl), (Nat.le_of_ble_eq_true rfl)⟩ ⟨(Nat.le_of_ble_eq_true rfl), (Nat.le_of_ble_eq_true rfl)⟩ (Nat.le_of_ble_eq_true rfl) (HAt.mu rfl) (c_X10_isLine (by exact S) (by assumption) (by assumption)) (fun _ _ w => w.elim) (fun r_8 h_8 hp => ?_)
  obtain ⟨rfl, rfl⟩ := hp
  refine gi_if_ne (tgt := 20) dX10_cost_11 (by decide) (bi_r _) (fun c_11 => ?_) (fun c_11 => ?_)
  · rw [bi_t] at c_11
    simp at c_11
    refine gg_aload_n dX10_cost_20 rfl rfl ?_
    refine gg_iload_n dX10_cost_21 rfl ?_
    refine gg_iload_n dX10_cost_22 rfl ?_
    refine gc_X10_294 rfl dX10_cost_23 ⟨(Nat.le_of_ble_eq_true rfl), (Nat.le_of_ble_eq_true rfl)⟩ ⟨(Nat.le_of_ble_eq_true rfl), (Nat.le_of_ble_eq_true rfl)⟩ (Nat.le_of_ble_eq_true rfl) (HAt.mu rfl) (c2_laysLine S N E9 ⟨by omega, by omega⟩ ⟨by omega, by omega⟩) (fun _ _ w => w.elim) (fun r_23 h_23 hp => ?_)
    obtain ⟨F1, A1, rfl, rfl, hF, hA, hL⟩ := hp
    have g1 : A1 1 = A 1 := hA 1 (by decide)
    refine gg_aload_n dX10_cost_26 rfl rfl ?_
    refine gg_iload_n dX10_cost_27 rfl ?_
    refine gc_X10_261 rfl dX10_cost_28 ⟨(Nat.le_of_ble_eq_true rfl), (Nat.le_of_ble_eq_true rfl)⟩ ⟨(Nat.le_of_ble_eq_true rfl), (Nat.le_of_ble_eq_true rfl)⟩ (Nat.le_of_ble_eq_true rfl) (HAt.mu rfl) (c_X10_areElisions hL.1 hz) (fun _ _ w => w.elim) (fun r_28 h_28 hp => ?_)
    obtain ⟨rfl, rfl⟩ := hp
    refine gi_if_ne (tgt := 40) dX10_cost_31 (by decide) (bi_r _) (fun c_31 => ?_) (fun c_31 => ?_)
    · rw [bi_t] at c_31
      have hzr := are_r hL.1.1.2 c_31
      refine gg_aload_n dX10_cost_40 rfl rfl ?_
      refine gc_X10_297 rfl dX10_cost_41 ⟨(Nat.le_of_ble_eq_true rfl), (Nat.le_of_ble_eq_true rfl)⟩ ⟨(Nat.le_of_ble_eq_true rfl), (Nat.le_of_ble_eq_true rfl)⟩ (Nat.le_of_ble_eq_true rfl) (HAt.mu rfl) (c_X10_byNow) (fun _ _ w => w.elim) (fun r_41 h_41 hp => ?_)
      obtain ⟨rfl, rfl⟩ := hp
      rw [g1]
      refine gg_aload_n dX10_cost_44 rfl rfl ?_
      refine gg_iload_n dX10_cost_45 rfl ?_
      refine gc_X10_287 rfl dX10_cost_46 ⟨(Nat.le_of_ble_eq_true rfl), (Nat.le_of_ble_eq_true rfl)⟩ ⟨(Nat.le_of_ble_eq_true rfl), (Nat.le_of_ble_eq_true rfl)⟩ (Nat.le_of_ble_eq_true rfl) (HAt.mu rfl) (c_X10_laysSounds (F := (uF (uF (uF F1 27 (A 1 0)) 28 (A 1 1)) 29 (A 1 2))) (A := A1) (LW_fr (by simp only [uF_s, uF_n, uF_ss, uF_cc, id_eq, ne_eq, not_false_eq_true, Nat.reduceEqDiff, Nat.reduceLT, reduceCtorEq]) rfl rfl rfl rfl rfl hL.1) ⟨by omega, by omega⟩) (fun _ _ w => w.elim) (fun r_46 h_46 hp => ?_)
      obtain ⟨rfl, rfl⟩ := hp
      have e16 : (uF (uF (uF F1 27 (A 1 0)) 28 (A 1 1)) 29 (A 1 2)) 16 = F1 16 := by simp only [uF_s, uF_n, uF_ss, uF_cc, id_eq, ne_eq, not_false_eq_true, Nat.reduceEqDiff, Nat.reduceLT, reduceCtorEq]
      rw [e16]
      have hsk : sOk (sA A1 z (s0 A1) (F1 16).toNat) 144 := sOk_m (by have := hL.1.1; omega) (sA_ok (A := A1) (z := z) (s := s0 A1) hL.1 rfl (F1 16).toNat (by have := hL.1.1; omega))
      obtain ⟨s8, hs8⟩ : ∃ s8, s8 = sA A1 z (s0 A1) (F1 16).toNat := ⟨_, rfl⟩
      rw [← hs8] at hsk ⊢
      refine gg_aload_n dX10_cost_49 rfl rfl ?_
      refine gg_iload_n dX10_cost_50 rfl ?_
      refine gg_iload dX10_cost_51 rfl ?_
      refine gc_X10_284 rfl dX10_cost_53 ⟨(Nat.le_of_ble_eq_true rfl), (Nat.le_of_ble_eq_true rfl)⟩ ⟨(Nat.le_of_ble_eq_true rfl), (Nat.le_of_ble_eq_true rfl)⟩ (Nat.le_of_ble_eq_true rfl) (HAt.mu rfl) (c_X10_costOf (by simp only [uF_s, uF_n, uF_ss, uF_cc, id_eq, ne_eq, not_false_eq_true, Nat.reduceEqDiff, Nat.reduceLT, reduceCtorEq]; exact t0) (by simp only [uF_s, uF_n, uF_ss, uF_cc, id_eq, ne_eq, not_false_eq_true, Nat.reduceEqDiff, Nat.reduceLT, reduceCtorEq]; exact t1) (by simp only [uF_s, uF_n, uF_ss, uF_cc, id_eq, ne_eq, not_false_eq_true, Nat.reduceEqDiff, Nat.reduceLT, reduceCtorEq]; exact t2) (by simp only [uF_s, uF_n, uF_ss, uF_cc, id_eq, ne_eq, not_false_eq_true, Nat.reduceEqDiff, Nat.reduceLT, reduceCtorEq, uA_s, uA_n, uA_ss, uA_cc, id_eq, ne_eq, not_false_eq_true, Nat.reduceEqDiff, Nat.reduceLT, reduceCtorEq]; exact hsk) ⟨by omega, by omega⟩ hi) (fun _ _ w => w.elim) (fun r_53 h_53 hp => ?_)
      obtain ⟨rfl, rfl⟩ := hp
      simp only [uF_s, uF_n, uF_ss, uF_cc, id_eq, ne_eq, not_false_eq_true, Nat.reduceEqDiff, Nat.reduceLT, reduceCtorEq, uA_s, uA_n, uA_ss, uA_cc, id_eq, ne_eq, not_false_eq_true, Nat.reduceEqDiff, Nat.reduceLT, reduceCtorEq]
      have hcr := cst_r (kd := A 1 0) (s := s8) (z := z) (i := i) t1 t2 (by omega)
      obtain ⟨c9, hc9⟩ : ∃ c9, c9 = cst (A 1 0) (A 1 1) (A 1 2) s8 z i := ⟨_, rfl⟩
      change GG Γ _ _ _ _ _ _ (.int (iN (cst (A 1 0) (A 1 1) (A 1 2) s8 z i)) :: _)
      rw [← hc9] at hcr ⊢
      refine gg_istore dX10_cost_56 (Nat.le_of_ble_eq_true rfl) rfl ?_
      refine gg_iload dX10_cost_58 rfl ?_
      refine gi_if_ge (tgt := 71) dX10_cost_60 (by decide) ⟨by omega, by omega⟩ (fun c_60 => ?_) (fun c_60 => ?_)
      · refine gg_iload dX10_cost_71 rfl ?_
        subst hQF9
        refine gg_iret dX10_cost_73 rfl rfl ⟨(Nat.le_of_ble_eq_true rfl), (Nat.le_of_ble_eq_true rfl)⟩ ?_
        subst hs8
        refine Or.inr ⟨by omega, F1, _, A1, _, rfl, (by first | exact (hF 38 (by decide)).trans (uF_n (by decide)) | (rw [uF_n (by decide)]; exact (hF 38 (by decide)).trans (uF_n (by decide))) | (simp only [uF_n, ne_eq, Nat.reduceEqDiff, not_false_eq_true]; exact (hF 38 (by decide)).trans (uF_n (by decide))) | (rw [hF2 38 (by decide)]; exact (hF 38 (by decide)).trans (uF_n (by decide)))), ?_, ?_, hL, Or.inr (Or.inr ⟨c_31, by rw [← hc9]; omega, by rw [← hc9], ?_⟩)⟩
        · exact frF_u (frF_u (frF_u (frF_u (frF_z hF (by decide)) (by decide)) (by decide)) (by decide)) (by decide)
        · exact frA_u (frA_u (frA_u (frA_w hA (by decide)) (by decide)) (by decide)) (by decide)
        · simp only [uF_s, uF_n, uF_ss, uF_cc, id_eq, ne_eq, not_false_eq_true, Nat.reduceEqDiff, Nat.reduceLT, reduceCtorEq, uA_s, uA_n, uA_ss, uA_cc, id_eq, ne_eq, not_false_eq_true, Nat.reduceEqDiff, Nat.reduceLT, reduceCtorEq]; rw [hF 0 (by decide), uF_s]
      · refine gg_aload_n dX10_cost_63 rfl rfl ?_
        refine gi_iconst dX10_cost_64 ?_
        refine gc_X10_162 rfl dX10_cost_65 ⟨(Nat.le_of_ble_eq_true rfl), (Nat.le_of_ble_eq_true rfl)⟩ ⟨(Nat.le_of_ble_eq_true rfl), (Nat.le_of_ble_eq_true rfl)⟩ (Nat.le_of_ble_eq_true rfl) (HAt.mu rfl) (c_X10_fails) (fun _ _ w => w.elim) (fun r_65 h_65 hp => ?_)
        obtain ⟨rfl, rfl⟩ := hp
        refine gg_goto (tgt := 73) dX10_cost_68 (by decide) ?_
        subst hQF9
        refine gg_iret dX10_cost_73 rfl rfl ⟨(Nat.le_of_ble_eq_true rfl), (Nat.le_of_ble_eq_true rfl)⟩ ?_
        subst hs8
        refine Or.inr ⟨by omega, F1, _, A1, _, rfl, (by first | exact (hF 38 (by decide)).trans (uF_n (by decide)) | (rw [uF_n (by decide)]; exact (hF 38 (by decide)).trans (uF_n (by decide))) | (simp only [uF_n, ne_eq, Nat.reduceEqDiff, not_false_eq_true]; exact (hF 38 (by decide)).trans (uF_n (by decide))) | (rw [hF2 38 (by decide)]; exact (hF 38 (by decide)).trans (uF_n (by decide)))), ?_, ?_, hL, Or.inr (Or.inl ⟨c_31, by rw [← hc9]; omega, rfl, uF_s⟩)⟩
        · exact frF_u (frF_u (frF_u (frF_u (frF_u (frF_z hF (by decide)) (by decide)) (by decide)) (by decide)) (by decide)) (by decide)
        · exact frA_u (frA_u (frA_u (frA_w hA (by decide)) (by decide)) (by decide)) (by decide)
    · rw [bi_f] at c_31
      refine gg_aload_n dX10_cost_34 rfl rfl ?_
      refine gi_iconst dX10_cost_35 ?_
      refine gc_X10_162 rfl dX10_cost_36 ⟨(Nat.le_of_ble_eq_true rfl), (Nat.le_of_ble_eq_true rfl)⟩ ⟨(Nat.le_of_ble_eq_true rfl), (Nat.le_of_ble_eq_true rfl)⟩ (Nat.le_of_ble_eq_true rfl) (HAt.mu rfl) (c_X10_fails) (fun _ _ w => w.elim) (fun r_36 h_36 hp => ?_)
      obtain ⟨rfl, rfl⟩ := hp
      subst hQF9
      refine gg_iret dX10_cost_39 rfl rfl ⟨(Nat.le_of_ble_eq_true rfl), (Nat.le_of_ble_eq_true rfl)⟩ ?_
      refine Or.inr ⟨by omega, F1, uF F1 0 2, A1, A1, rfl, (by first | exact (hF 38 (by decide)).trans (uF_n (by decide)) | (rw [uF_n (by decide)]; exact (hF 38 (by decide)).trans (uF_n (by decide))) | (simp only [uF_n, ne_eq, Nat.reduceEqDiff, not_false_eq_true]; exact (hF 38 (by decide)).trans (uF_n (by decide))) | (rw [hF2 38 (by decide)]; exact (hF 38 (by decide)).trans (uF_n (by decide)))), frF_u (frF_z hF (by decide)) (by decide), frA_w hA (by decide), hL, Or.inl ⟨c_31, rfl, uF_s⟩⟩
  · rw [bi_f] at c_11
    simp at c_11
    refine gg_aload_n dX10_cost_14 rfl rfl ?_
    refine gi_iconst dX10_cost_15 ?_
    refine gc_X10_162 rfl dX10_cost_16 ⟨(Nat.le_of_ble_eq_true rfl), (Nat.le_of_ble_eq_true rfl)⟩ ⟨(Nat.le_of_ble_eq_true rfl), (Nat.le_of_ble_eq_true rfl)⟩ (Nat.le_of_ble_eq_true rfl) (HAt.mu rfl) (c_X10_fails) (fun _ _ w => w.elim) (fun r_16 h_16 hp => ?_)
    obtain ⟨rfl, rfl⟩ := hp
    subst hQF9
    refine gg_iret dX10_cost_19 rfl rfl ⟨(Nat.le_of_ble_eq_true rfl), (Nat.le_of_ble_eq_true rfl)⟩ ?_
    exact Or.inl ⟨by omega, rfl, by rw [uF_ss]⟩
set_option maxRecDepth 100000 in
set_option maxHeartbeats 4000000 in
theorem c3_X10_rhyme {Γ : GT} {h : XH} {F : Nat → Int} {A : Nat → Int → Int} (S : StA (A 1)) (N : LnA (A 1)) (E9 : ExA (A 1)) {d l : Int} (hd : InR d) (hl : InR l) {p : Int} (hp9 : InR p) : Ct Γ M_X10_rhyme [.ref (g_L Γ 0), .int (iN d), .int (iN l), .int (iN p)] (mst Γ h F A) (fun r h9 => (¬ (0 ≤ d ∧ d ≤ 3 ∧ 0 ≤ l ∧ l < A 1 (5 + d)) ∧ r = some (.int (iN 0)) ∧ h9 = mst Γ h (uF F 0 1) A) ∨ ((0 ≤ d ∧ d ≤ 3 ∧ 0 ≤ l ∧ l < A 1 (5 + d)) ∧ ∃ (F2 : Nat → Int) (A2 : Nat → Int → Int), h9 = mst Γ h F2 A2 ∧ F2 38 = F 38 ∧ frF [0, 16, 24, 25, 27, 28, 29, 30, 34, 35, 36, 37, 38, 39, 40, 41, 42] F F2 ∧ frA [8, 9, 10, 11, 12, 13, 14, 15, 16, 17, 18, 19, 20, 21, 22] A A2 ∧ ((¬ (0 ≤ p ∧ p < rhM (A 1) d l) ∧ r = some (.int (iN (0))) ∧ F2 0 = 1) ∨ ((0 ≤ p ∧ p < rhM (A 1) d l) ∧ r = some (.int (iN (A 1 (rhF (A 1) d l + p)))) ∧ F2 0 = 0)))) (fun _ _ => False) := by
  refine Ct.of rfl (by decide +kernel) (Nat.le_of_ble_eq_true rfl) ?_
  generalize hQF9 : QM Γ _ _ _ = QF9
  obtain ⟨t0, t1, t2, t3, t4, t5, t6⟩ := id S
  refine gg_aload_n dX10_rhyme_0 rfl rfl ?_
  refine gi_iconst dX10_rhyme_1 ?_
  refine gm_put3 rfl dX10_rhyme_2 (by (try simp only [uF_ss, uF_cc, id_eq, Nat.reduceLT, reduceCtorEq]); rfl) ?_
  refine gg_aload_n dX10_rhyme_5 rfl rfl ?_
  refine gg_iload_n dX10_rhyme_6 rfl ?_
  refine gg_iload_n dX10_rhyme_7 rfl ?_
  refine gc_X10_234 rfl dX10_rhyme_8 ⟨(Nat.le_of_ble_eq_true rfl), (Nat.le_of_ble_eq_true rfl)⟩ ⟨(Nat.le_of_ble_eq_true rfl), (Nat.le_of_ble_eq_true rfl)⟩ (Nat.le_of_ble_eq_true rfl) (HAt.mu rfl) (c_X10_isLine (by exact S) (by assumption) (by assumption)) (fun _ _ w => w.elim) (fun r_8 h_8 hp => ?_)
  obtain ⟨rfl, rfl⟩ := hp
  refine gi_if_ne (tgt := 21) dX10_rhyme_11 (by decide) (bi_r _) (fun c_11 => ?_) (fun c_11 => ?_)
  · rw [bi_t] at c_11
    simp at c_11
    refine gg_aload_n dX10_rhyme_21 rfl rfl ?_
    refine gg_iload_n dX10_rhyme_22 rfl ?_
    refine gg_iload_n dX10_rhyme_23 rfl ?_
    refine gc_X10_316 rfl dX10_rhyme_24 ⟨(Nat.le_of_ble_eq_true rfl), (Nat.le_of_ble_eq_true rfl)⟩ ⟨(Nat.le_of_ble_eq_true rfl), (Nat.le_of_ble_eq_true rfl)⟩ (Nat.le_of_ble_eq_true rfl) (HAt.mu rfl) (c_X10_laysRhyme (F := uF F 0 0) S N E9 ⟨by omega, by omega⟩ ⟨by omega, by omega⟩) (fun _ _ w => w.elim) (fun r_24 h_24 hp => ?_)
    obtain ⟨F1, A1, rfl, rfl, hF, hA, hL, h39, h40⟩ := hp
    have g1 : A1 1 = A 1 := hA 1 (by decide)
    have e0 : F1 0 = 0 := by rw [hF 0 (by decide), uF_s]
    have hn9 := (t5 d (by omega) (by omega)).2
    have hrx := rh_r N (d := d) (l := l) ⟨by omega, by omega⟩ ⟨by omega, by omega⟩ hn9
    obtain ⟨n1, n2, n3⟩ := N d l (by omega) (by omega) (by omega) (by omega)
    refine gg_iload_n dX10_rhyme_27 rfl ?_
    refine gi_iconst dX10_rhyme_28 ?_
    refine gg_aload_n dX10_rhyme_29 rfl rfl ?_
    refine gm_get133 rfl dX10_rhyme_30 h40 ?_
    refine gi_iconst dX10_rhyme_33 ?_
    refine gi_isub dX10_rhyme_34 ?_
    refine gc_X10_158 rfl dX10_rhyme_35 ⟨(Nat.le_of_ble_eq_true rfl), (Nat.le_of_ble_eq_true rfl)⟩ ⟨(Nat.le_of_ble_eq_true rfl), (Nat.le_of_ble_eq_true rfl)⟩ (Nat.le_of_ble_eq_true rfl) (c_X10_in hp9 ⟨by omega, by omega⟩ ⟨by omega, by omega⟩) (fun _ _ w => w.elim) (fun r_35 h_35 hp => ?_)
    obtain ⟨rfl, rfl⟩ := hp
    refine gi_if_eq (tgt := 56) dX10_rhyme_38 (by decide) (bi_r _) (fun c_38 => ?_) (fun c_38 => ?_)
    · rw [bi_f] at c_38
      rw [Bool.and_eq_false_iff, decide_eq_false_iff_not, decide_eq_false_iff_not] at c_38
      refine gg_aload_n dX10_rhyme_56 rfl rfl ?_
      refine gi_iconst dX10_rhyme_57 ?_
      refine gc_X10_162 rfl dX10_rhyme_58 ⟨(Nat.le_of_ble_eq_true rfl), (Nat.le_of_ble_eq_true rfl)⟩ ⟨(Nat.le_of_ble_eq_true rfl), (Nat.le_of_ble_eq_true rfl)⟩ (Nat.le_of_ble_eq_true rfl) (HAt.mu rfl) (c_X10_fails) (fun _ _ w => w.elim) (fun r_58 h_58 hp => ?_)
      obtain ⟨rfl, rfl⟩ := hp
      refine gi_i2c dX10_rhyme_61 ⟨by omega, by omega⟩ ?_
      subst hQF9
      refine gg_iret dX10_rhyme_62 rfl (nar_char ⟨by omega, by omega⟩) ⟨(Nat.le_of_ble_eq_true rfl), (Nat.le_of_ble_eq_true rfl)⟩ ?_
      first | exact Or.inr ⟨by omega, F1, A1, rfl, (by first | exact (hF 38 (by decide)).trans (uF_n (by decide)) | (rw [uF_n (by decide)]; exact (hF 38 (by decide)).trans (uF_n (by decide))) | (simp only [uF_n, ne_eq, Nat.reduceEqDiff, not_false_eq_true]; exact (hF 38 (by decide)).trans (uF_n (by decide))) | (rw [hF2 38 (by decide)]; exact (hF 38 (by decide)).trans (uF_n (by decide)))), frF_z hF (by decide), frA_w hA (by decide), Or.inr ⟨by omega, rfl, e0⟩⟩ | exact Or.inr ⟨by omega, uF F1 0 1, A1, rfl, (by first | exact (hF 38 (by decide)).trans (uF_n (by decide)) | (rw [uF_n (by decide)]; exact (hF 38 (by decide)).trans (uF_n (by decide))) | (simp only [uF_n, ne_eq, Nat.reduceEqDiff, not_false_eq_true]; exact (hF 38 (by decide)).trans (uF_n (by decide))) | (rw [hF2 38 (by decide)]; exact (hF 38 (by decide)).trans (uF_n (by decide)))), frF_u (frF_z hF (by decide)) (by decide), frA_w hA (by decide), Or.inl ⟨by omega, rfl, uF_s⟩⟩
    · rw [bi_t] at c_38
      rw [Bool.and_eq_true, decide_eq_true_iff, decide_eq_true_iff] at c_38
      have hch := n2 (rhF (A 1) d l + p - (169 + 61 * (10 * d + l) + 1)) (by omega) (by omega)
      rw [show 169 + 61 * (10 * d + l) + 1 + (rhF (A 1) d l + p - (169 + 61 * (10 * d + l) + 1)) = rhF (A 1) d l + p by omega] at hch
      refine gg_aload_n dX10_rhyme_41 rfl rfl ?_
      refine gm_get13 rfl dX10_rhyme_42 ?_
      refine gg_aload_n dX10_rhyme_45 rfl rfl ?_
      refine gm_get130 rfl dX10_rhyme_46 h39 ?_
      refine gg_iload_n dX10_rhyme_49 rfl ?_
      refine gi_iadd dX10_rhyme_50 ?_
      refine gm_iald dX10_rhyme_51 (by decide) rfl (by decide) ⟨by omega, by simp only [ml9]; omega⟩ (congrFun g1 _) ?_
      refine gi_i2c dX10_rhyme_52 ⟨by omega, by omega⟩ ?_
      refine gg_goto (tgt := 62) dX10_rhyme_53 (by decide) ?_
      subst hQF9
      refine gg_iret dX10_rhyme_62 rfl (nar_char ⟨by omega, by omega⟩) ⟨(Nat.le_of_ble_eq_true rfl), (Nat.le_of_ble_eq_true rfl)⟩ ?_
      first | exact Or.inr ⟨by omega, F1, A1, rfl, (by first | exact (hF 38 (by decide)).trans (uF_n (by decide)) | (rw [uF_n (by decide)]; exact (hF 38 (by decide)).trans (uF_n (by decide))) | (simp only [uF_n, ne_eq, Nat.reduceEqDiff, not_false_eq_true]; exact (hF 38 (by decide)).trans (uF_n (by decide))) | (rw [hF2 38 (by decide)]; exact (hF 38 (by decide)).trans (uF_n (by decide)))), frF_z hF (by decide), frA_w hA (by decide), Or.inr ⟨by omega, rfl, e0⟩⟩ | exact Or.inr ⟨by omega, uF F1 0 1, A1, rfl, (by first | exact (hF 38 (by decide)).trans (uF_n (by decide)) | (rw [uF_n (by decide)]; exact (hF 38 (by decide)).trans (uF_n (by decide))) | (simp only [uF_n, ne_eq, Nat.reduceEqDiff, not_false_eq_true]; exact (hF 38 (by decide)).trans (uF_n (by decide))) | (rw [hF2 38 (by decide)]; exact (hF 38 (by decide)).trans (uF_n (by decide)))), frF_u (frF_z hF (by decide)) (by decide), frA_w hA (by decide), Or.inl ⟨by omega, rfl, uF_s⟩⟩
  · rw [bi_f] at c_11
    simp at c_11
    refine gg_aload_n dX10_rhyme_14 rfl rfl ?_
    refine gi_iconst dX10_rhyme_15 ?_
    refine gc_X10_162 rfl dX10_rhyme_16 ⟨(Nat.le_of_ble_eq_true rfl), (Nat.le_of_ble_eq_true rfl)⟩ ⟨(Nat.le_of_ble_eq_true rfl), (Nat.le_of_ble_eq_true rfl)⟩ (Nat.le_of_ble_eq_true rfl) (HAt.mu rfl) (c_X10_fails) (fun _ _ w => w.elim) (fun r_16 h_16 hp => ?_)
    obtain ⟨rfl, rfl⟩ := hp
    refine gi_i2c dX10_rhyme_19 ⟨by omega, by omega⟩ ?_
    subst hQF9
    refine gg_iret dX10_rhyme_20 rfl (nar_char ⟨by omega, by omega⟩) ⟨(Nat.le_of_ble_eq_true rfl), (Nat.le_of_ble_eq_true rfl)⟩ ?_
    exact Or.inl ⟨by omega, rfl, by rw [uF_ss]⟩
set_option maxRecDepth 100000 in
set_option maxHeartbeats 4000000 in
theorem c3_X10_rhymes {Γ : GT} {h : XH} {F : Nat → Int} {A : Nat → Int → Int} (S : StA (A 1)) (N : LnA (A 1)) (E9 : ExA (A 1)) {d x y : Int} (hd : InR d) (hx : InR x) (hy : InR y) : Ct Γ M_X10_rhymes [.ref (g_L Γ 0), .int (iN d), .int (iN x), .int (iN y)] (mst Γ h F A) (fun r h9 => (¬ ((0 ≤ d ∧ d ≤ 3 ∧ 0 ≤ x ∧ x < A 1 (5 + d)) ∧ (0 ≤ d ∧ d ≤ 3 ∧ 0 ≤ y ∧ y < A 1 (5 + d))) ∧ r = some (.int (iN (0))) ∧ h9 = mst Γ h (uF F 0 1) A) ∨ (((0 ≤ d ∧ d ≤ 3 ∧ 0 ≤ x ∧ x < A 1 (5 + d)) ∧ (0 ≤ d ∧ d ≤ 3 ∧ 0 ≤ y ∧ y < A 1 (5 + d))) ∧ ∃ (F2 : Nat → Int) (A2 : Nat → Int → Int), h9 = mst Γ h F2 A2 ∧ F2 38 = F 38 ∧ frF [0, 16, 24, 25, 27, 28, 29, 30, 34, 35, 36, 37, 38, 39, 40, 41, 42] F F2 ∧ frA [8, 9, 10, 11, 12, 13, 14, 15, 16, 17, 18, 19, 20, 21, 22] A A2 ∧ r = some (.int (iN (knd (A 1) d x y))) ∧ F2 0 = 0)) (fun _ _ => False) := by
  refine Ct.of rfl (by decide +kernel) (Nat.le_of_ble_eq_true rfl) ?_
  generalize hQF9 : QM Γ _ _ _ = QF9
  obtain ⟨t0, t1, t2, t3, t4, t5, t6⟩ := id S
  refine gg_aload_n dX10_rhymes_0 rfl rfl ?_
  refine gi_iconst dX10_rhymes_1 ?_
  refine gm_put3 rfl dX10_rhymes_2 (by (try simp only [uF_ss, uF_cc, id_eq, Nat.reduceLT, reduceCtorEq]); rfl) ?_
  refine gg_aload_n dX10_rhymes_5 rfl rfl ?_
  refine gg_iload_n dX10_rhymes_6 rfl ?_
  refine gg_iload_n dX10_rhymes_7 rfl ?_
  refine gc_X10_234 rfl dX10_rhymes_8 ⟨(Nat.le_of_ble_eq_true rfl), (Nat.le_of_ble_eq_true rfl)⟩ ⟨(Nat.le_of_ble_eq_true rfl), (Nat.le_of_ble_eq_true rfl)⟩ (Nat.le_of_ble_eq_true rfl) (HAt.mu rfl) (c_X10_isLine S hd hx) (fun _ _ w => w.elim) (fun r_8 h_8 hp => ?_)
  obtain ⟨rfl, rfl⟩ := hp
  refine gi_if_eq (tgt := 33) dX10_rhymes_11 (by decide) (bi_r _) (fun c_11 => ?_) (fun c_11 => ?_)
  · rw [bi_f] at c_11
    simp at c_11
    refine gg_aload_n dX10_rhymes_33 rfl rfl ?_
    refine gi_iconst dX10_rhymes_34 ?_
    refine gc_X10_162 rfl dX10_rhymes_35 ⟨(Nat.le_of_ble_eq_true rfl), (Nat.le_of_ble_eq_true rfl)⟩ ⟨(Nat.le_of_ble_eq_true rfl), (Nat.le_of_ble_eq_true rfl)⟩ (Nat.le_of_ble_eq_true rfl) (HAt.mu rfl) (c_X10_fails) (fun _ _ w => w.elim) (fun r_35 h_35 hp => ?_)
    obtain ⟨rfl, rfl⟩ := hp
    subst hQF9
    refine gg_iret dX10_rhymes_38 rfl rfl ⟨(Nat.le_of_ble_eq_true rfl), (Nat.le_of_ble_eq_true rfl)⟩ ?_
    exact Or.inl ⟨by omega, rfl, by rw [uF_ss]⟩
  · rw [bi_t] at c_11
    simp at c_11
    refine gg_aload_n dX10_rhymes_14 rfl rfl ?_
    refine gg_iload_n dX10_rhymes_15 rfl ?_
    refine gg_iload_n dX10_rhymes_16 rfl ?_
    refine gc_X10_234 rfl dX10_rhymes_17 ⟨(Nat.le_of_ble_eq_true rfl), (Nat.le_of_ble_eq_true rfl)⟩ ⟨(Nat.le_of_ble_eq_true rfl), (Nat.le_of_ble_eq_true rfl)⟩ (Nat.le_of_ble_eq_true rfl) (HAt.mu rfl) (c_X10_isLine S hd hy) (fun _ _ w => w.elim) (fun r_17 h_17 hp => ?_)
    obtain ⟨rfl, rfl⟩ := hp
    refine gi_if_eq (tgt := 33) dX10_rhymes_20 (by decide) (bi_r _) (fun c_20 => ?_) (fun c_20 => ?_)
    · rw [bi_f] at c_20
      simp at c_20
      refine gg_aload_n dX10_rhymes_33 rfl rfl ?_
      refine gi_iconst dX10_rhymes_34 ?_
      refine gc_X10_162 rfl dX10_rhymes_35 ⟨(Nat.le_of_ble_eq_true rfl), (Nat.le_of_ble_eq_true rfl)⟩ ⟨(Nat.le_of_ble_eq_true rfl), (Nat.le_of_ble_eq_true rfl)⟩ (Nat.le_of_ble_eq_true rfl) (HAt.mu rfl) (c_X10_fails) (fun _ _ w => w.elim) (fun r_35 h_35 hp => ?_)
      obtain ⟨rfl, rfl⟩ := hp
      subst hQF9
      refine gg_iret dX10_rhymes_38 rfl rfl ⟨(Nat.le_of_ble_eq_true rfl), (Nat.le_of_ble_eq_true rfl)⟩ ?_
      exact Or.inl ⟨by omega, rfl, by rw [uF_ss]⟩
    · rw [bi_t] at c_20
      simp at c_20
      refine gg_aload_n dX10_rhymes_23 rfl rfl ?_
      refine gg_iload_n dX10_rhymes_24 rfl ?_
      refine gg_iload_n dX10_rhymes_25 rfl ?_
      refine gg_iload_n dX10_rhymes_26 rfl ?_
      refine gc_X10_327 rfl dX10_rhymes_27 ⟨(Nat.le_of_ble_eq_true rfl), (Nat.le_of_ble_eq_true rfl)⟩ ⟨(Nat.le_of_ble_eq_true rfl), (Nat.le_of_ble_eq_true rfl)⟩ (Nat.le_of_ble_eq_true rfl) (HAt.mu rfl) (c_X10_kindOf (F := uF F 0 0) S N E9 ⟨by omega, by omega⟩ ⟨by omega, by omega⟩ ⟨by omega, by omega⟩) (fun _ _ w => w.elim) (fun r_27 h_27 hp => ?_)
      obtain ⟨F1, A1, rfl, rfl, hF, hA⟩ := hp
      refine gg_goto (tgt := 38) dX10_rhymes_30 (by decide) ?_
      subst hQF9
      refine gg_iret dX10_rhymes_38 rfl rfl ⟨(Nat.le_of_ble_eq_true rfl), (Nat.le_of_ble_eq_true rfl)⟩ ?_
      exact Or.inr ⟨by omega, F1, A1, rfl, (by first | exact (hF 38 (by decide)).trans (uF_n (by decide)) | (rw [uF_n (by decide)]; exact (hF 38 (by decide)).trans (uF_n (by decide))) | (simp only [uF_n, ne_eq, Nat.reduceEqDiff, not_false_eq_true]; exact (hF 38 (by decide)).trans (uF_n (by decide))) | (rw [hF2 38 (by decide)]; exact (hF 38 (by decide)).trans (uF_n (by decide)))), frF_z hF (by decide), frA_w hA (by decide), rfl, by rw [hF 0 (by decide), uF_s]⟩
set_option maxRecDepth 100000 in
set_option maxHeartbeats 4000000 in
theorem c3_X10_line {Γ : GT} {h : XH} {F : Nat → Int} {A : Nat → Int → Int} (S : StA (A 1)) (N : LnA (A 1)) (E9 : ExA (A 1)) {d l : Int} (hd : InR d) (hl : InR l) {w : Int} (hw : InR w) : Ct Γ M_X10_line [.ref (g_L Γ 0), .int (iN d), .int (iN l), .int (iN w)] (mst Γ h F A) (fun r h9 => (¬ (0 ≤ d ∧ d ≤ 3 ∧ 0 ≤ l ∧ l < A 1 (5 + d)) ∧ r = some (.int (iN 0)) ∧ h9 = mst Γ h (uF F 0 1) A) ∨ ((0 ≤ d ∧ d ≤ 3 ∧ 0 ≤ l ∧ l < A 1 (5 + d)) ∧ ∃ (F1 F2 : Nat → Int) (A1 A2 : Nat → Int → Int), h9 = mst Γ h F2 A2 ∧ F2 38 = F 38 ∧ frF [0, 16, 24, 25, 27, 28, 29, 30, 34, 35, 36, 37, 38, 39, 40, 41, 42] F F2 ∧ frA [8, 9, 10, 11, 12, 13, 14, 15, 16, 17, 18, 19, 20, 21, 22] A A2 ∧ LD (A 1) d l F1 A1 ∧ ((¬ (0 ≤ w ∧ w ≤ 6) ∧ r = some (.int (iN (0))) ∧ F2 0 = 2) ∨ ((0 ≤ w ∧ w ≤ 6) ∧ r = some (.int (iN (if w = 0 then F1 16 else if w = 1 then ally A1 (F1 16).toNat else if w = 2 then pls F1 A1 else if w = 3 then mst9 F1 A1 else if w = 4 then cmm A1 (F1 16).toNat else if w = 5 then clsF (A 1) d (A 19) (A 1 (5 + d)).toNat l else rhM (A 1) d l))) ∧ F2 0 = 0)))) (fun _ _ => False) := by
  refine Ct.of rfl (by decide +kernel) (Nat.le_of_ble_eq_true rfl) ?_
  generalize hQF9 : QM Γ _ _ _ = QF9
  obtain ⟨t0, t1, t2, t3, t4, t5, t6⟩ := id S
  refine gg_aload_n dX10_line_0 rfl rfl ?_
  refine gi_iconst dX10_line_1 ?_
  refine gm_put3 rfl dX10_line_2 (by (try simp only [uF_ss, uF_cc, id_eq, Nat.reduceLT, reduceCtorEq]); rfl) ?_
  refine gg_aload_n dX10_line_5 rfl rfl ?_
  refine gg_iload_n dX10_line_6 rfl ?_
  refine gg_iload_n dX10_line_7 rfl ?_
  refine gc_X10_234 rfl dX10_line_8 ⟨(Nat.le_of_ble_eq_true rfl), (Nat.le_of_ble_eq_true rfl)⟩ ⟨(Nat.le_of_ble_eq_true rfl), (Nat.le_of_ble_eq_true rfl)⟩ (Nat.le_of_ble_eq_true rfl) (HAt.mu rfl) (c_X10_isLine (by exact S) (by assumption) (by assumption)) (fun _ _ w => w.elim) (fun r_8 h_8 hp => ?_)
  obtain ⟨rfl, rfl⟩ := hp
  refine gi_if_ne (tgt := 20) dX10_line_11 (by decide) (bi_r _) (fun c_11 => ?_) (fun c_11 => ?_)
  · rw [bi_t] at c_11
    simp at c_11
    have hn9 := t5 d (by omega) (by omega)
    refine gg_iload_n dX10_line_20 rfl ?_
    refine gi_iconst dX10_line_21 ?_
    refine gi_icmp_ne (tgt := 30) dX10_line_22 (by decide) ⟨by omega, by omega⟩ ⟨by omega, by omega⟩ (fun c_22 => ?_) (fun c_22 => ?_)
    · refine gg_aload_n dX10_line_30 rfl rfl ?_
      refine gg_iload_n dX10_line_31 rfl ?_
      refine gg_iload_n dX10_line_32 rfl ?_
      refine gc_X10_294 rfl dX10_line_33 ⟨(Nat.le_of_ble_eq_true rfl), (Nat.le_of_ble_eq_true rfl)⟩ ⟨(Nat.le_of_ble_eq_true rfl), (Nat.le_of_ble_eq_true rfl)⟩ (Nat.le_of_ble_eq_true rfl) (HAt.mu rfl) (c2_laysLine (F := uF F 0 0) S N E9 ⟨by omega, by omega⟩ ⟨by omega, by omega⟩) (fun _ _ w => w.elim) (fun r_33 h_33 hp => ?_)
      obtain ⟨F1, A1, rfl, rfl, hF0, hA0, hL⟩ := hp
      have g1 : A1 1 = A 1 := hA0 1 (by decide)
      have hF : frF [16, 24, 25, 39, 40] (uF F 0 0) F1 := frF_m hF0 (by decide)
      have hA : frA [8, 9, 10, 11, 12, 13, 14, 15, 19] A A1 := frA_m hA0 (by decide)
      have hfF := frF_z hF (by decide)
      have hfA := frA_w hA (by decide)
      have e0 : F1 0 = 0 := by rw [hF 0 (by decide), uF_s]
      refine gg_iload_n dX10_line_36 rfl ?_
      by_cases w_37_0 : w = 0
      · refine gi_tab (tgt := 80) dX10_line_37 hw (by omega) (by omega) (by rw [w_37_0]; rfl) (by decide) ?_
        refine gg_aload_n dX10_line_80 rfl rfl ?_
        refine gm_get60 rfl dX10_line_81 (by (try simp only [uF_s, uF_n, ne_eq, not_false_eq_true, Nat.reduceEqDiff, reduceCtorEq]); rfl) ?_
        subst hQF9
        refine gg_iret dX10_line_84 rfl rfl ⟨(Nat.le_of_ble_eq_true rfl), (Nat.le_of_ble_eq_true rfl)⟩ ?_
        refine Or.inr ⟨by omega, F1, F1, A1, A1, rfl, (by first | exact (hF 38 (by decide)).trans (uF_n (by decide)) | (rw [uF_n (by decide)]; exact (hF 38 (by decide)).trans (uF_n (by decide))) | (simp only [uF_n, ne_eq, Nat.reduceEqDiff, not_false_eq_true]; exact (hF 38 (by decide)).trans (uF_n (by decide))) | (rw [hF2 38 (by decide)]; exact (hF 38 (by decide)).trans (uF_n (by decide)))), hfF, hfA, hL, Or.inr ⟨by omega, ?_, e0⟩⟩
        rw [if_pos w_37_0]
      by_cases w_37_1 : w = 1
      · refine gi_tab (tgt := 85) dX10_line_37 hw (by omega) (by omega) (by rw [w_37_1]; rfl) (by decide) ?_
        refine gg_aload_n dX10_line_85 rfl rfl ?_
        refine gc_X10_310 rfl dX10_line_86 ⟨(Nat.le_of_ble_eq_true rfl), (Nat.le_of_ble_eq_true rfl)⟩ ⟨(Nat.le_of_ble_eq_true rfl), (Nat.le_of_ble_eq_true rfl)⟩ (Nat.le_of_ble_eq_true rfl) (HAt.mu rfl) (c_X10_allSyllables hL.1) (fun _ _ w => w.elim) (fun r_86 h_86 hp => ?_)
        obtain ⟨rfl, rfl⟩ := hp
        subst hQF9
        refine gg_iret dX10_line_89 rfl rfl ⟨(Nat.le_of_ble_eq_true rfl), (Nat.le_of_ble_eq_true rfl)⟩ ?_
        refine Or.inr ⟨by omega, F1, F1, A1, A1, rfl, (by first | exact (hF 38 (by decide)).trans (uF_n (by decide)) | (rw [uF_n (by decide)]; exact (hF 38 (by decide)).trans (uF_n (by decide))) | (simp only [uF_n, ne_eq, Nat.reduceEqDiff, not_false_eq_true]; exact (hF 38 (by decide)).trans (uF_n (by decide))) | (rw [hF2 38 (by decide)]; exact (hF 38 (by decide)).trans (uF_n (by decide)))), hfF, hfA, hL, Or.inr ⟨by omega, ?_, e0⟩⟩
        rw [if_neg w_37_0, if_pos w_37_1]
      by_cases w_37_2 : w = 2
      · refine gi_tab (tgt := 90) dX10_line_37 hw (by omega) (by omega) (by rw [w_37_2]; rfl) (by decide) ?_
        refine gg_aload_n dX10_line_90 rfl rfl ?_
        refine gc_X10_258 rfl dX10_line_91 ⟨(Nat.le_of_ble_eq_true rfl), (Nat.le_of_ble_eq_true rfl)⟩ ⟨(Nat.le_of_ble_eq_true rfl), (Nat.le_of_ble_eq_true rfl)⟩ (Nat.le_of_ble_eq_true rfl) (HAt.mu rfl) (c_X10_places hL.1) (fun _ _ w => w.elim) (fun r_91 h_91 hp => ?_)
        obtain ⟨rfl, rfl⟩ := hp
        subst hQF9
        refine gg_iret dX10_line_94 rfl rfl ⟨(Nat.le_of_ble_eq_true rfl), (Nat.le_of_ble_eq_true rfl)⟩ ?_
        refine Or.inr ⟨by omega, F1, F1, A1, A1, rfl, (by first | exact (hF 38 (by decide)).trans (uF_n (by decide)) | (rw [uF_n (by decide)]; exact (hF 38 (by decide)).trans (uF_n (by decide))) | (simp only [uF_n, ne_eq, Nat.reduceEqDiff, not_false_eq_true]; exact (hF 38 (by decide)).trans (uF_n (by decide))) | (rw [hF2 38 (by decide)]; exact (hF 38 (by decide)).trans (uF_n (by decide)))), hfF, hfA, hL, Or.inr ⟨by omega, ?_, e0⟩⟩
        rw [if_neg w_37_0, if_neg w_37_1, if_pos w_37_2]
      by_cases w_37_3 : w = 3
      · refine gi_tab (tgt := 95) dX10_line_37 hw (by omega) (by omega) (by rw [w_37_3]; rfl) (by decide) ?_
        refine gg_aload_n dX10_line_95 rfl rfl ?_
        refine gc_X10_313 rfl dX10_line_96 ⟨(Nat.le_of_ble_eq_true rfl), (Nat.le_of_ble_eq_true rfl)⟩ ⟨(Nat.le_of_ble_eq_true rfl), (Nat.le_of_ble_eq_true rfl)⟩ (Nat.le_of_ble_eq_true rfl) (HAt.mu rfl) (c_X10_mostElisions hL.1) (fun _ _ w => w.elim) (fun r_96 h_96 hp => ?_)
        obtain ⟨rfl, rfl⟩ := hp
        subst hQF9
        refine gg_iret dX10_line_99 rfl rfl ⟨(Nat.le_of_ble_eq_true rfl), (Nat.le_of_ble_eq_true rfl)⟩ ?_
        refine Or.inr ⟨by omega, F1, F1, A1, A1, rfl, (by first | exact (hF 38 (by decide)).trans (uF_n (by decide)) | (rw [uF_n (by decide)]; exact (hF 38 (by decide)).trans (uF_n (by decide))) | (simp only [uF_n, ne_eq, Nat.reduceEqDiff, not_false_eq_true]; exact (hF 38 (by decide)).trans (uF_n (by decide))) | (rw [hF2 38 (by decide)]; exact (hF 38 (by decide)).trans (uF_n (by decide)))), hfF, hfA, hL, Or.inr ⟨by omega, ?_, e0⟩⟩
        rw [if_neg w_37_0, if_neg w_37_1, if_neg w_37_2, if_pos w_37_3]
      by_cases w_37_4 : w = 4
      · refine gi_tab (tgt := 100) dX10_line_37 hw (by omega) (by omega) (by rw [w_37_4]; rfl) (by decide) ?_
        refine gg_aload_n dX10_line_100 rfl rfl ?_
        refine gc_X10_333 rfl dX10_line_101 ⟨(Nat.le_of_ble_eq_true rfl), (Nat.le_of_ble_eq_true rfl)⟩ ⟨(Nat.le_of_ble_eq_true rfl), (Nat.le_of_ble_eq_true rfl)⟩ (Nat.le_of_ble_eq_true rfl) (HAt.mu rfl) (c_X10_commas hL.1) (fun _ _ w => w.elim) (fun r_101 h_101 hp => ?_)
        obtain ⟨rfl, rfl⟩ := hp
        subst hQF9
        refine gg_iret dX10_line_104 rfl rfl ⟨(Nat.le_of_ble_eq_true rfl), (Nat.le_of_ble_eq_true rfl)⟩ ?_
        refine Or.inr ⟨by omega, F1, F1, A1, A1, rfl, (by first | exact (hF 38 (by decide)).trans (uF_n (by decide)) | (rw [uF_n (by decide)]; exact (hF 38 (by decide)).trans (uF_n (by decide))) | (simp only [uF_n, ne_eq, Nat.reduceEqDiff, not_false_eq_true]; exact (hF 38 (by decide)).trans (uF_n (by decide))) | (rw [hF2 38 (by decide)]; exact (hF 38 (by decide)).trans (uF_n (by decide)))), hfF, hfA, hL, Or.inr ⟨by omega, ?_, e0⟩⟩
        rw [if_neg w_37_0, if_neg w_37_1, if_neg w_37_2, if_neg w_37_3, if_pos w_37_4]
      by_cases w_37_5 : w = 5
      · refine gi_tab (tgt := 105) dX10_line_37 hw (by omega) (by omega) (by rw [w_37_5]; rfl) (by decide) ?_
        exact absurd w_37_5 c_22
      by_cases w_37_6 : w = 6
      · refine gi_tab (tgt := 112) dX10_line_37 hw (by omega) (by omega) (by rw [w_37_6]; rfl) (by decide) ?_
        refine gg_aload_n dX10_line_112 rfl rfl ?_
        refine gg_iload_n dX10_line_113 rfl ?_
        refine gg_iload_n dX10_line_114 rfl ?_
        refine gc_X10_316 rfl dX10_line_115 ⟨(Nat.le_of_ble_eq_true rfl), (Nat.le_of_ble_eq_true rfl)⟩ ⟨(Nat.le_of_ble_eq_true rfl), (Nat.le_of_ble_eq_true rfl)⟩ (Nat.le_of_ble_eq_true rfl) (HAt.mu rfl) (c_X10_laysRhyme (F := F1) (A := A1) (by rw [g1]; exact S) (by rw [g1]; exact N) (by rw [g1]; exact E9) ⟨by omega, by omega⟩ (by rw [g1]; exact ⟨by omega, by omega⟩)) (fun _ _ w => w.elim) (fun r_115 h_115 hp => ?_)
        obtain ⟨F2, A2, rfl, rfl, hF2, hA2, hL2, h39, h40⟩ := hp
        rw [g1] at h40
        refine gg_aload_n dX10_line_118 rfl rfl ?_
        refine gm_get133 rfl dX10_line_119 h40 ?_
        subst hQF9
        refine gg_iret dX10_line_122 rfl rfl ⟨(Nat.le_of_ble_eq_true rfl), (Nat.le_of_ble_eq_true rfl)⟩ ?_
        refine Or.inr ⟨by omega, F1, F2, A1, A2, rfl, (by first | exact (hF 38 (by decide)).trans (uF_n (by decide)) | (rw [uF_n (by decide)]; exact (hF 38 (by decide)).trans (uF_n (by decide))) | (simp only [uF_n, ne_eq, Nat.reduceEqDiff, not_false_eq_true]; exact (hF 38 (by decide)).trans (uF_n (by decide))) | (rw [hF2 38 (by decide)]; exact (hF 38 (by decide)).trans (uF_n (by decide)))), fun j hj => by rw [hF2 j (fun q => hj (by revert q; simp; omega)), hfF j hj], fun j hj => by rw [hA2 j (fun q => hj (by revert q; simp; omega)), hfA j hj], hL, Or.inr ⟨by omega, ?_, by rw [hF2 0 (by decide), e0]⟩⟩
        rw [if_neg w_37_0, if_neg w_37_1, if_neg w_37_2, if_neg w_37_3, if_neg w_37_4, if_neg w_37_5]
      refine gi_tabD (tgt := 123) dX10_line_37 hw (by omega) (by decide) ?_
      refine gg_aload_n dX10_line_123 rfl rfl ?_
      refine gi_iconst dX10_line_124 ?_
      refine gc_X10_162 rfl dX10_line_125 ⟨(Nat.le_of_ble_eq_true rfl), (Nat.le_of_ble_eq_true rfl)⟩ ⟨(Nat.le_of_ble_eq_true rfl), (Nat.le_of_ble_eq_true rfl)⟩ (Nat.le_of_ble_eq_true rfl) (HAt.mu rfl) (c_X10_fails) (fun _ _ w => w.elim) (fun r_125 h_125 hp => ?_)
      obtain ⟨rfl, rfl⟩ := hp
      subst hQF9
      refine gg_iret dX10_line_128 rfl rfl ⟨(Nat.le_of_ble_eq_true rfl), (Nat.le_of_ble_eq_true rfl)⟩ ?_
      exact Or.inr ⟨by omega, F1, uF F1 0 2, A1, A1, rfl, (by first | exact (hF 38 (by decide)).trans (uF_n (by decide)) | (rw [uF_n (by decide)]; exact (hF 38 (by decide)).trans (uF_n (by decide))) | (simp only [uF_n, ne_eq, Nat.reduceEqDiff, not_false_eq_true]; exact (hF 38 (by decide)).trans (uF_n (by decide))) | (rw [hF2 38 (by decide)]; exact (hF 38 (by decide)).trans (uF_n (by decide)))), frF_u hfF (by decide), hfA, hL, Or.inl ⟨by omega, rfl, uF_s⟩⟩
    · refine gg_aload_n dX10_line_25 rfl rfl ?_
      refine gg_iload_n dX10_line_26 rfl ?_
      refine gc_X10_330 rfl dX10_line_27 ⟨(Nat.le_of_ble_eq_true rfl), (Nat.le_of_ble_eq_true rfl)⟩ ⟨(Nat.le_of_ble_eq_true rfl), (Nat.le_of_ble_eq_true rfl)⟩ (Nat.le_of_ble_eq_true rfl) (HAt.mu rfl) (c_X10_laysClasses (F := uF F 0 0) S N E9 ⟨by omega, by omega⟩) (fun _ _ w => w.elim) (fun r_27 h_27 hp => ?_)
      obtain ⟨F5, A5, rfl, rfl, hF5, hA5, j19⟩ := hp
      have g5 : A5 1 = A 1 := hA5 1 (by decide)
      refine gg_aload_n dX10_line_30 rfl rfl ?_
      refine gg_iload_n dX10_line_31 rfl ?_
      refine gg_iload_n dX10_line_32 rfl ?_
      refine gc_X10_294 rfl dX10_line_33 ⟨(Nat.le_of_ble_eq_true rfl), (Nat.le_of_ble_eq_true rfl)⟩ ⟨(Nat.le_of_ble_eq_true rfl), (Nat.le_of_ble_eq_true rfl)⟩ (Nat.le_of_ble_eq_true rfl) (HAt.mu rfl) (c2_laysLine (F := F5) (A := A5) (by rw [g5]; exact S) (by rw [g5]; exact N) (by rw [g5]; exact E9) ⟨by omega, by omega⟩ (by rw [g5]; exact ⟨by omega, by omega⟩)) (fun _ _ w => w.elim) (fun r_33 h_33 hp => ?_)
      obtain ⟨F1, A1, rfl, rfl, hF0, hA0, hL⟩ := hp
      rw [g5] at hL
      have g1 : A1 1 = A 1 := by rw [hA0 1 (by decide), g5]
      have hF : frF [16, 24, 25, 39, 40] (uF F 0 0) F1 := fun j hj => by rw [hF0 j (fun q => hj (by revert q; simp; omega)), hF5 j hj]
      have hA : frA [8, 9, 10, 11, 12, 13, 14, 15, 19] A A1 := fun j hj => by rw [hA0 j (fun q => hj (by revert q; simp; omega)), hA5 j hj]
      have h19 : A1 19 = clsF (A 1) d (A 19) (A 1 (5 + d)).toNat := by rw [hA0 19 (by decide), j19]
      have hfF := frF_z hF (by decide)
      have hfA := frA_w hA (by decide)
      have e0 : F1 0 = 0 := by rw [hF 0 (by decide), uF_s]
      refine gg_iload_n dX10_line_36 rfl ?_
      by_cases w_37_0 : w = 0
      · refine gi_tab (tgt := 80) dX10_line_37 hw (by omega) (by omega) (by rw [w_37_0]; rfl) (by decide) ?_
        refine gg_aload_n dX10_line_80 rfl rfl ?_
        refine gm_get60 rfl dX10_line_81 (by (try simp only [uF_s, uF_n, ne_eq, not_false_eq_true, Nat.reduceEqDiff, reduceCtorEq]); rfl) ?_
        subst hQF9
        refine gg_iret dX10_line_84 rfl rfl ⟨(Nat.le_of_ble_eq_true rfl), (Nat.le_of_ble_eq_true rfl)⟩ ?_
        refine Or.inr ⟨by omega, F1, F1, A1, A1, rfl, (by first | exact (hF 38 (by decide)).trans (uF_n (by decide)) | (rw [uF_n (by decide)]; exact (hF 38 (by decide)).trans (uF_n (by decide))) | (simp only [uF_n, ne_eq, Nat.reduceEqDiff, not_false_eq_true]; exact (hF 38 (by decide)).trans (uF_n (by decide))) | (rw [hF2 38 (by decide)]; exact (hF 38 (by decide)).trans (uF_n (by decide)))), hfF, hfA, hL, Or.inr ⟨by omega, ?_, e0⟩⟩
        rw [if_pos w_37_0]
      by_cases w_37_1 : w = 1
      · refine gi_tab (tgt := 85) dX10_line_37 hw (by omega) (by omega) (by rw [w_37_1]; rfl) (by decide) ?_
        refine gg_aload_n dX10_line_85 rfl rfl ?_
        refine gc_X10_310 rfl dX10_line_86 ⟨(Nat.le_of_ble_eq_true rfl), (Nat.le_of_ble_eq_true rfl)⟩ ⟨(Nat.le_of_ble_eq_true rfl), (Nat.le_of_ble_eq_true rfl)⟩ (Nat.le_of_ble_eq_true rfl) (HAt.mu rfl) (c_X10_allSyllables hL.1) (fun _ _ w => w.elim) (fun r_86 h_86 hp => ?_)
        obtain ⟨rfl, rfl⟩ := hp
        subst hQF9
        refine gg_iret dX10_line_89 rfl rfl ⟨(Nat.le_of_ble_eq_true rfl), (Nat.le_of_ble_eq_true rfl)⟩ ?_
        refine Or.inr ⟨by omega, F1, F1, A1, A1, rfl, (by first | exact (hF 38 (by decide)).trans (uF_n (by decide)) | (rw [uF_n (by decide)]; exact (hF 38 (by decide)).trans (uF_n (by decide))) | (simp only [uF_n, ne_eq, Nat.reduceEqDiff, not_false_eq_true]; exact (hF 38 (by decide)).trans (uF_n (by decide))) | (rw [hF2 38 (by decide)]; exact (hF 38 (by decide)).trans (uF_n (by decide)))), hfF, hfA, hL, Or.inr ⟨by omega, ?_, e0⟩⟩
        rw [if_neg w_37_0, if_pos w_37_1]
      by_cases w_37_2 : w = 2
      · refine gi_tab (tgt := 90) dX10_line_37 hw (by omega) (by omega) (by rw [w_37_2]; rfl) (by decide) ?_
        refine gg_aload_n dX10_line_90 rfl rfl ?_
        refine gc_X10_258 rfl dX10_line_91 ⟨(Nat.le_of_ble_eq_true rfl), (Nat.le_of_ble_eq_true rfl)⟩ ⟨(Nat.le_of_ble_eq_true rfl), (Nat.le_of_ble_eq_true rfl)⟩ (Nat.le_of_ble_eq_true rfl) (HAt.mu rfl) (c_X10_places hL.1) (fun _ _ w => w.elim) (fun r_91 h_91 hp => ?_)
        obtain ⟨rfl, rfl⟩ := hp
        subst hQF9
        refine gg_iret dX10_line_94 rfl rfl ⟨(Nat.le_of_ble_eq_true rfl), (Nat.le_of_ble_eq_true rfl)⟩ ?_
        refine Or.inr ⟨by omega, F1, F1, A1, A1, rfl, (by first | exact (hF 38 (by decide)).trans (uF_n (by decide)) | (rw [uF_n (by decide)]; exact (hF 38 (by decide)).trans (uF_n (by decide))) | (simp only [uF_n, ne_eq, Nat.reduceEqDiff, not_false_eq_true]; exact (hF 38 (by decide)).trans (uF_n (by decide))) | (rw [hF2 38 (by decide)]; exact (hF 38 (by decide)).trans (uF_n (by decide)))), hfF, hfA, hL, Or.inr ⟨by omega, ?_, e0⟩⟩
        rw [if_neg w_37_0, if_neg w_37_1, if_pos w_37_2]
      by_cases w_37_3 : w = 3
      · refine gi_tab (tgt := 95) dX10_line_37 hw (by omega) (by omega) (by rw [w_37_3]; rfl) (by decide) ?_
        refine gg_aload_n dX10_line_95 rfl rfl ?_
        refine gc_X10_313 rfl dX10_line_96 ⟨(Nat.le_of_ble_eq_true rfl), (Nat.le_of_ble_eq_true rfl)⟩ ⟨(Nat.le_of_ble_eq_true rfl), (Nat.le_of_ble_eq_true rfl)⟩ (Nat.le_of_ble_eq_true rfl) (HAt.mu rfl) (c_X10_mostElisions hL.1) (fun _ _ w => w.elim) (fun r_96 h_96 hp => ?_)
        obtain ⟨rfl, rfl⟩ := hp
        subst hQF9
        refine gg_iret dX10_line_99 rfl rfl ⟨(Nat.le_of_ble_eq_true rfl), (Nat.le_of_ble_eq_true rfl)⟩ ?_
        refine Or.inr ⟨by omega, F1, F1, A1, A1, rfl, (by first | exact (hF 38 (by decide)).trans (uF_n (by decide)) | (rw [uF_n (by decide)]; exact (hF 38 (by decide)).trans (uF_n (by decide))) | (simp only [uF_n, ne_eq, Nat.reduceEqDiff, not_false_eq_true]; exact (hF 38 (by decide)).trans (uF_n (by decide))) | (rw [hF2 38 (by decide)]; exact (hF 38 (by decide)).trans (uF_n (by decide)))), hfF, hfA, hL, Or.inr ⟨by omega, ?_, e0⟩⟩
        rw [if_neg w_37_0, if_neg w_37_1, if_neg w_37_2, if_pos w_37_3]
      by_cases w_37_4 : w = 4
      · refine gi_tab (tgt := 100) dX10_line_37 hw (by omega) (by omega) (by rw [w_37_4]; rfl) (by decide) ?_
        refine gg_aload_n dX10_line_100 rfl rfl ?_
        refine gc_X10_333 rfl dX10_line_101 ⟨(Nat.le_of_ble_eq_true rfl), (Nat.le_of_ble_eq_true rfl)⟩ ⟨(Nat.le_of_ble_eq_true rfl), (Nat.le_of_ble_eq_true rfl)⟩ (Nat.le_of_ble_eq_true rfl) (HAt.mu rfl) (c_X10_commas hL.1) (fun _ _ w => w.elim) (fun r_101 h_101 hp => ?_)
        obtain ⟨rfl, rfl⟩ := hp
        subst hQF9
        refine gg_iret dX10_line_104 rfl rfl ⟨(Nat.le_of_ble_eq_true rfl), (Nat.le_of_ble_eq_true rfl)⟩ ?_
        refine Or.inr ⟨by omega, F1, F1, A1, A1, rfl, (by first | exact (hF 38 (by decide)).trans (uF_n (by decide)) | (rw [uF_n (by decide)]; exact (hF 38 (by decide)).trans (uF_n (by decide))) | (simp only [uF_n, ne_eq, Nat.reduceEqDiff, not_false_eq_true]; exact (hF 38 (by decide)).trans (uF_n (by decide))) | (rw [hF2 38 (by decide)]; exact (hF 38 (by decide)).trans (uF_n (by decide)))), hfF, hfA, hL, Or.inr ⟨by omega, ?_, e0⟩⟩
        rw [if_neg w_37_0, if_neg w_37_1, if_neg w_37_2, if_neg w_37_3, if_pos w_37_4]
      by_cases w_37_5 : w = 5
      · refine gi_tab (tgt := 105) dX10_line_37 hw (by omega) (by omega) (by rw [w_37_5]; rfl) (by decide) ?_
        refine gg_aload_n dX10_line_105 rfl rfl ?_
        refine gm_get142 rfl dX10_line_106 ?_
        refine gg_iload_n dX10_line_109 rfl ?_
        refine gm_iald dX10_line_110 (by decide) rfl (by decide) ⟨by omega, by simp only [ml9]; omega⟩ (by (try simp only [uA_s, uA_n, ne_eq, not_false_eq_true, Nat.reduceEqDiff, reduceCtorEq]); rfl) ?_
        subst hQF9
        refine gg_iret dX10_line_111 rfl rfl ⟨(Nat.le_of_ble_eq_true rfl), (Nat.le_of_ble_eq_true rfl)⟩ ?_
        refine Or.inr ⟨by omega, F1, F1, A1, A1, rfl, (by first | exact (hF 38 (by decide)).trans (uF_n (by decide)) | (rw [uF_n (by decide)]; exact (hF 38 (by decide)).trans (uF_n (by decide))) | (simp only [uF_n, ne_eq, Nat.reduceEqDiff, not_false_eq_true]; exact (hF 38 (by decide)).trans (uF_n (by decide))) | (rw [hF2 38 (by decide)]; exact (hF 38 (by decide)).trans (uF_n (by decide)))), hfF, hfA, hL, Or.inr ⟨by omega, ?_, e0⟩⟩
        rw [if_neg w_37_0, if_neg w_37_1, if_neg w_37_2, if_neg w_37_3, if_neg w_37_4, if_pos w_37_5, h19]
      by_cases w_37_6 : w = 6
      · refine gi_tab (tgt := 112) dX10_line_37 hw (by omega) (by omega) (by rw [w_37_6]; rfl) (by decide) ?_
        refine gg_aload_n dX10_line_112 rfl rfl ?_
        refine gg_iload_n dX10_line_113 rfl ?_
        refine gg_iload_n dX10_line_114 rfl ?_
        refine gc_X10_316 rfl dX10_line_115 ⟨(Nat.le_of_ble_eq_true rfl), (Nat.le_of_ble_eq_true rfl)⟩ ⟨(Nat.le_of_ble_eq_true rfl), (Nat.le_of_ble_eq_true rfl)⟩ (Nat.le_of_ble_eq_true rfl) (HAt.mu rfl) (c_X10_laysRhyme (F := F1) (A := A1) (by rw [g1]; exact S) (by rw [g1]; exact N) (by rw [g1]; exact E9) ⟨by omega, by omega⟩ (by rw [g1]; exact ⟨by omega, by omega⟩)) (fun _ _ w => w.elim) (fun r_115 h_115 hp => ?_)
        obtain ⟨F2, A2, rfl, rfl, hF2, hA2, hL2, h39, h40⟩ := hp
        rw [g1] at h40
        refine gg_aload_n dX10_line_118 rfl rfl ?_
        refine gm_get133 rfl dX10_line_119 h40 ?_
        subst hQF9
        refine gg_iret dX10_line_122 rfl rfl ⟨(Nat.le_of_ble_eq_true rfl), (Nat.le_of_ble_eq_true rfl)⟩ ?_
        refine Or.inr ⟨by omega, F1, F2, A1, A2, rfl, (by first | exact (hF 38 (by decide)).trans (uF_n (by decide)) | (rw [uF_n (by decide)]; exact (hF 38 (by decide)).trans (uF_n (by decide))) | (simp only [uF_n, ne_eq, Nat.reduceEqDiff, not_false_eq_true]; exact (hF 38 (by decide)).trans (uF_n (by decide))) | (rw [hF2 38 (by decide)]; exact (hF 38 (by decide)).trans (uF_n (by decide)))), fun j hj => by rw [hF2 j (fun q => hj (by revert q; simp; omega)), hfF j hj], fun j hj => by rw [hA2 j (fun q => hj (by revert q; simp; omega)), hfA j hj], hL, Or.inr ⟨by omega, ?_, by rw [hF2 0 (by decide), e0]⟩⟩
        rw [if_neg w_37_0, if_neg w_37_1, if_neg w_37_2, if_neg w_37_3, if_neg w_37_4, if_neg w_37_5]
      refine gi_tabD (tgt := 123) dX10_line_37 hw (by omega) (by decide) ?_
      refine gg_aload_n dX10_line_123 rfl rfl ?_
      refine gi_iconst dX10_line_124 ?_
      refine gc_X10_162 rfl dX10_line_125 ⟨(Nat.le_of_ble_eq_true rfl), (Nat.le_of_ble_eq_true rfl)⟩ ⟨(Nat.le_of_ble_eq_true rfl), (Nat.le_of_ble_eq_true rfl)⟩ (Nat.le_of_ble_eq_true rfl) (HAt.mu rfl) (c_X10_fails) (fun _ _ w => w.elim) (fun r_125 h_125 hp => ?_)
      obtain ⟨rfl, rfl⟩ := hp
      subst hQF9
      refine gg_iret dX10_line_128 rfl rfl ⟨(Nat.le_of_ble_eq_true rfl), (Nat.le_of_ble_eq_true rfl)⟩ ?_
      exact Or.inr ⟨by omega, F1, uF F1 0 2, A1, A1, rfl, (by first | exact (hF 38 (by decide)).trans (uF_n (by decide)) | (rw [uF_n (by decide)]; exact (hF 38 (by decide)).trans (uF_n (by decide))) | (simp only [uF_n, ne_eq, Nat.reduceEqDiff, not_false_eq_true]; exact (hF 38 (by decide)).trans (uF_n (by decide))) | (rw [hF2 38 (by decide)]; exact (hF 38 (by decide)).trans (uF_n (by decide)))), frF_u hfF (by decide), hfA, hL, Or.inl ⟨by omega, rfl, uF_s⟩⟩
  · rw [bi_f] at c_11
    simp at c_11
    refine gg_aload_n dX10_line_14 rfl rfl ?_
    refine gi_iconst dX10_line_15 ?_
    refine gc_X10_162 rfl dX10_line_16 ⟨(Nat.le_of_ble_eq_true rfl), (Nat.le_of_ble_eq_true rfl)⟩ ⟨(Nat.le_of_ble_eq_true rfl), (Nat.le_of_ble_eq_true rfl)⟩ (Nat.le_of_ble_eq_true rfl) (HAt.mu rfl) (c_X10_fails) (fun _ _ w => w.elim) (fun r_16 h_16 hp => ?_)
    obtain ⟨rfl, rfl⟩ := hp
    subst hQF9
    refine gg_iret dX10_line_19 rfl rfl ⟨(Nat.le_of_ble_eq_true rfl), (Nat.le_of_ble_eq_true rfl)⟩ ?_
    exact Or.inl ⟨by omega, rfl, by rw [uF_ss]⟩
set_option maxRecDepth 100000 in
set_option maxHeartbeats 4000000 in
theorem c3_X10_word_ {Γ : GT} {h : XH} {F : Nat → Int} {A : Nat → Int → Int} (S : StA (A 1)) (N : LnA (A 1)) (E9 : ExA (A 1)) {d l : Int} (hd : InR d) (hl : InR l) {w u : Int} (hw : InR w) (hu : InR u) : Ct Γ M_X10_word_ [.ref (g_L Γ 0), .int (iN d), .int (iN l), .int (iN w), .int (iN u)] (mst Γ h F A) (fun r h9 => (¬ (0 ≤ d ∧ d ≤ 3 ∧ 0 ≤ l ∧ l < A 1 (5 + d)) ∧ r = some (.int (iN 0)) ∧ h9 = mst Γ h (uF F 0 1) A) ∨ ((0 ≤ d ∧ d ≤ 3 ∧ 0 ≤ l ∧ l < A 1 (5 + d)) ∧ ∃ (F1 F2 : Nat → Int) (A1 A2 : Nat → Int → Int), h9 = mst Γ h F2 A2 ∧ F2 38 = F 38 ∧ frF [0, 16, 24, 25, 27, 28, 29, 30, 34, 35, 36, 37, 38, 39, 40, 41, 42] F F2 ∧ frA [8, 9, 10, 11, 12, 13, 14, 15, 16, 17, 18, 19, 20, 21, 22] A A2 ∧ LD (A 1) d l F1 A1 ∧ ((¬ (0 ≤ w ∧ w < F1 16) ∧ r = some (.int (iN (0))) ∧ F2 0 = 1) ∨ ((0 ≤ w ∧ w < F1 16) ∧ ¬ (0 ≤ u ∧ u ≤ 5) ∧ r = some (.int (iN (0))) ∧ F2 0 = 2) ∨ ((0 ≤ w ∧ w < F1 16) ∧ (0 ≤ u ∧ u ≤ 5) ∧ r = some (.int (iN (if u = 0 then A1 9 w else if u = 1 then wC (fun k => A 1 (A1 8 w + k)) (A1 9 w) else if u = 2 then A1 10 w else if u = 3 then A1 12 w else if u = 4 then exO (A 1) (A 1) (A1 8 w) (A1 9 w) else tld (fun k => A1 11 (12 * w + k)) (A1 10 w).toNat))) ∧ F2 0 = 0)))) (fun _ _ => False) := by
  refine Ct.of rfl (by decide +kernel) (Nat.le_of_ble_eq_true rfl) ?_
  generalize hQF9 : QM Γ _ _ _ = QF9
  obtain ⟨t0, t1, t2, t3, t4, t5, t6⟩ := id S
  refine gg_aload_n dX10_word__0 rfl rfl ?_
  refine gi_iconst dX10_word__1 ?_
  refine gm_put3 rfl dX10_word__2 (by (try simp only [uF_ss, uF_cc, id_eq, Nat.reduceLT, reduceCtorEq]); rfl) ?_
  refine gg_aload_n dX10_word__5 rfl rfl ?_
  refine gg_iload_n dX10_word__6 rfl ?_
  refine gg_iload_n dX10_word__7 rfl ?_
  refine gc_X10_234 rfl dX10_word__8 ⟨(Nat.le_of_ble_eq_true rfl), (Nat.le_of_ble_eq_true rfl)⟩ ⟨(Nat.le_of_ble_eq_true rfl), (Nat.le_of_ble_eq_true rfl)⟩ (Nat.le_of_ble_eq_true rfl) (HAt.mu rfl) (c_X10_isLine (by exact S) (by assumption) (by assumption)) (fun _ _ w => w.elim) (fun r_8 h_8 hp => ?_)
  obtain ⟨rfl, rfl⟩ := hp
  refine gi_if_ne (tgt := 20) dX10_word__11 (by decide) (bi_r _) (fun c_11 => ?_) (fun c_11 => ?_)
  · rw [bi_t] at c_11
    simp at c_11
    have hn9 := t5 d (by omega) (by omega)
    refine gg_aload_n dX10_word__20 rfl rfl ?_
    refine gg_iload_n dX10_word__21 rfl ?_
    refine gg_iload_n dX10_word__22 rfl ?_
    refine gc_X10_294 rfl dX10_word__23 ⟨(Nat.le_of_ble_eq_true rfl), (Nat.le_of_ble_eq_true rfl)⟩ ⟨(Nat.le_of_ble_eq_true rfl), (Nat.le_of_ble_eq_true rfl)⟩ (Nat.le_of_ble_eq_true rfl) (HAt.mu rfl) (c2_laysLine (F := uF F 0 0) S N E9 ⟨by omega, by omega⟩ ⟨by omega, by omega⟩) (fun _ _ w => w.elim) (fun r_23 h_23 hp => ?_)
    obtain ⟨F1, A1, rfl, rfl, hF, hA, hL⟩ := hp
    have g1 : A1 1 = A 1 := hA 1 (by decide)
    have hfF := frF_z hF (by decide)
    have hfA := frA_w hA (by decide)
    have e0 : F1 0 = 0 := by rw [hF 0 (by decide), uF_s]
    have h16 := hL.1.1
    refine gg_iload_n dX10_word__26 rfl ?_
    refine gi_iconst dX10_word__27 ?_
    refine gg_aload_n dX10_word__28 rfl rfl ?_
    refine gm_get60 rfl dX10_word__29 (by (try simp only [uF_s, uF_n, ne_eq, not_false_eq_true, Nat.reduceEqDiff, reduceCtorEq]); rfl) ?_
    refine gi_iconst dX10_word__32 ?_
    refine gi_isub dX10_word__33 ?_
    refine gc_X10_158 rfl dX10_word__34 ⟨(Nat.le_of_ble_eq_true rfl), (Nat.le_of_ble_eq_true rfl)⟩ ⟨(Nat.le_of_ble_eq_true rfl), (Nat.le_of_ble_eq_true rfl)⟩ (Nat.le_of_ble_eq_true rfl) (c_X10_in hw ⟨by omega, by omega⟩ ⟨by omega, by omega⟩) (fun _ _ w => w.elim) (fun r_34 h_34 hp => ?_)
    obtain ⟨rfl, rfl⟩ := hp
    refine gi_if_ne (tgt := 46) dX10_word__37 (by decide) (bi_r _) (fun c_37 => ?_) (fun c_37 => ?_)
    · rw [bi_t] at c_37
      rw [Bool.and_eq_true, decide_eq_true_iff, decide_eq_true_iff] at c_37
      obtain ⟨pv, lenv, cv, x1, x2, x3, x4⟩ := LD_at N ⟨by omega, by omega⟩ ⟨by omega, by omega⟩ hn9.2 hL (w := w) (by omega) (by omega)
      obtain ⟨y1, y2, y3, y4, y5⟩ := hL.1.2 w (by omega) (by omega)
      refine gg_iload dX10_word__46 rfl ?_
      by_cases w_48_0 : u = 0
      · refine gi_tab (tgt := 88) dX10_word__48 hu (by omega) (by omega) (by rw [w_48_0]; rfl) (by decide) ?_
        refine gg_aload_n dX10_word__88 rfl rfl ?_
        refine gm_get66 rfl dX10_word__89 ?_
        refine gg_iload_n dX10_word__92 rfl ?_
        refine gm_iald dX10_word__93 (by decide) rfl (by decide) ⟨by omega, by simp only [ml9]; omega⟩ (by (try simp only [uA_s, uA_n, ne_eq, not_false_eq_true, Nat.reduceEqDiff, reduceCtorEq]); rfl) ?_
        subst hQF9
        refine gg_iret dX10_word__94 rfl rfl ⟨(Nat.le_of_ble_eq_true rfl), (Nat.le_of_ble_eq_true rfl)⟩ ?_
        refine Or.inr ⟨by omega, F1, F1, A1, A1, rfl, (by first | exact (hF 38 (by decide)).trans (uF_n (by decide)) | (rw [uF_n (by decide)]; exact (hF 38 (by decide)).trans (uF_n (by decide))) | (simp only [uF_n, ne_eq, Nat.reduceEqDiff, not_false_eq_true]; exact (hF 38 (by decide)).trans (uF_n (by decide))) | (rw [hF2 38 (by decide)]; exact (hF 38 (by decide)).trans (uF_n (by decide)))), hfF, hfA, hL, Or.inr (Or.inr ⟨by omega, by omega, ?_, e0⟩)⟩
        rw [if_pos w_48_0]
      by_cases w_48_1 : u = 1
      · refine gi_tab (tgt := 95) dX10_word__48 hu (by omega) (by omega) (by rw [w_48_1]; rfl) (by decide) ?_
        refine gg_aload_n dX10_word__95 rfl rfl ?_
        refine gg_iload_n dX10_word__96 rfl ?_
        refine gc_X10_249 rfl dX10_word__97 ⟨(Nat.le_of_ble_eq_true rfl), (Nat.le_of_ble_eq_true rfl)⟩ ⟨(Nat.le_of_ble_eq_true rfl), (Nat.le_of_ble_eq_true rfl)⟩ (Nat.le_of_ble_eq_true rfl) (HAt.mu rfl) (c_X10_laysCores (F := F1) (A := A1) (by rw [g1]; exact S) ⟨by omega, by omega⟩ x4 (by omega)) (fun _ _ w => w.elim) (fun r_97 h_97 hp => ?_)
        obtain ⟨rfl, rfl⟩ := hp
        refine gg_aload_n dX10_word__100 rfl rfl ?_
        refine gm_get85 rfl dX10_word__101 (by (try simp only [uF_s, uF_n, ne_eq, not_false_eq_true, Nat.reduceEqDiff, reduceCtorEq]); rfl) ?_
        subst hQF9
        refine gg_iret dX10_word__104 rfl rfl ⟨(Nat.le_of_ble_eq_true rfl), (Nat.le_of_ble_eq_true rfl)⟩ ?_
        refine Or.inr ⟨by omega, F1, _, A1, _, rfl, (by first | exact (hF 38 (by decide)).trans (uF_n (by decide)) | (rw [uF_n (by decide)]; exact (hF 38 (by decide)).trans (uF_n (by decide))) | (simp only [uF_n, ne_eq, Nat.reduceEqDiff, not_false_eq_true]; exact (hF 38 (by decide)).trans (uF_n (by decide))) | (rw [hF2 38 (by decide)]; exact (hF 38 (by decide)).trans (uF_n (by decide)))), frF_u (frF_u hfF (by decide)) (by decide), frA_u (frA_u hfA (by decide)) (by decide), hL, Or.inr (Or.inr ⟨by omega, by omega, ?_, by rw [uF_n (by decide), uF_n (by decide), e0]⟩)⟩
        rw [if_neg w_48_0, if_pos w_48_1, g1]
      by_cases w_48_2 : u = 2
      · refine gi_tab (tgt := 105) dX10_word__48 hu (by omega) (by omega) (by rw [w_48_2]; rfl) (by decide) ?_
        refine gg_aload_n dX10_word__105 rfl rfl ?_
        refine gm_get69 rfl dX10_word__106 ?_
        refine gg_iload_n dX10_word__109 rfl ?_
        refine gm_iald dX10_word__110 (by decide) rfl (by decide) ⟨by omega, by simp only [ml9]; omega⟩ (by (try simp only [uA_s, uA_n, ne_eq, not_false_eq_true, Nat.reduceEqDiff, reduceCtorEq]); rfl) ?_
        subst hQF9
        refine gg_iret dX10_word__111 rfl rfl ⟨(Nat.le_of_ble_eq_true rfl), (Nat.le_of_ble_eq_true rfl)⟩ ?_
        refine Or.inr ⟨by omega, F1, F1, A1, A1, rfl, (by first | exact (hF 38 (by decide)).trans (uF_n (by decide)) | (rw [uF_n (by decide)]; exact (hF 38 (by decide)).trans (uF_n (by decide))) | (simp only [uF_n, ne_eq, Nat.reduceEqDiff, not_false_eq_true]; exact (hF 38 (by decide)).trans (uF_n (by decide))) | (rw [hF2 38 (by decide)]; exact (hF 38 (by decide)).trans (uF_n (by decide)))), hfF, hfA, hL, Or.inr (Or.inr ⟨by omega, by omega, ?_, e0⟩)⟩
        rw [if_neg w_48_0, if_neg w_48_1, if_pos w_48_2]
      by_cases w_48_3 : u = 3
      · refine gi_tab (tgt := 112) dX10_word__48 hu (by omega) (by omega) (by rw [w_48_3]; rfl) (by decide) ?_
        refine gg_aload_n dX10_word__112 rfl rfl ?_
        refine gm_get75 rfl dX10_word__113 ?_
        refine gg_iload_n dX10_word__116 rfl ?_
        refine gm_zald dX10_word__117 (by decide) rfl (by decide) ⟨by omega, by simp only [ml9]; omega⟩ (by (try simp only [uA_s, uA_n, ne_eq, not_false_eq_true, Nat.reduceEqDiff, reduceCtorEq]); rfl) ?_
        refine gi_if_eq (tgt := 125) dX10_word__118 (by decide) ⟨by omega, by omega⟩ (fun c_118 => ?_) (fun c_118 => ?_)
        · refine gi_iconst dX10_word__125 ?_
          subst hQF9
          refine gg_iret dX10_word__126 rfl rfl ⟨(Nat.le_of_ble_eq_true rfl), (Nat.le_of_ble_eq_true rfl)⟩ ?_
          refine Or.inr ⟨by omega, F1, F1, A1, A1, rfl, (by first | exact (hF 38 (by decide)).trans (uF_n (by decide)) | (rw [uF_n (by decide)]; exact (hF 38 (by decide)).trans (uF_n (by decide))) | (simp only [uF_n, ne_eq, Nat.reduceEqDiff, not_false_eq_true]; exact (hF 38 (by decide)).trans (uF_n (by decide))) | (rw [hF2 38 (by decide)]; exact (hF 38 (by decide)).trans (uF_n (by decide)))), hfF, hfA, hL, Or.inr (Or.inr ⟨by omega, by omega, ?_, e0⟩)⟩
          rw [if_neg w_48_0, if_neg w_48_1, if_neg w_48_2, if_pos w_48_3, c_118]
        · refine gi_iconst dX10_word__121 ?_
          refine gg_goto (tgt := 126) dX10_word__122 (by decide) ?_
          subst hQF9
          refine gg_iret dX10_word__126 rfl rfl ⟨(Nat.le_of_ble_eq_true rfl), (Nat.le_of_ble_eq_true rfl)⟩ ?_
          refine Or.inr ⟨by omega, F1, F1, A1, A1, rfl, (by first | exact (hF 38 (by decide)).trans (uF_n (by decide)) | (rw [uF_n (by decide)]; exact (hF 38 (by decide)).trans (uF_n (by decide))) | (simp only [uF_n, ne_eq, Nat.reduceEqDiff, not_false_eq_true]; exact (hF 38 (by decide)).trans (uF_n (by decide))) | (rw [hF2 38 (by decide)]; exact (hF 38 (by decide)).trans (uF_n (by decide)))), hfF, hfA, hL, Or.inr (Or.inr ⟨by omega, by omega, ?_, e0⟩)⟩
          rw [if_neg w_48_0, if_neg w_48_1, if_neg w_48_2, if_pos w_48_3, show A1 12 w = 1 by omega]
      by_cases w_48_4 : u = 4
      · refine gi_tab (tgt := 127) dX10_word__48 hu (by omega) (by omega) (by rw [w_48_4]; rfl) (by decide) ?_
        refine gg_aload_n dX10_word__127 rfl rfl ?_
        refine gg_aload_n dX10_word__128 rfl rfl ?_
        refine gm_get13 rfl dX10_word__129 ?_
        refine gg_aload_n dX10_word__132 rfl rfl ?_
        refine gm_get63 rfl dX10_word__133 ?_
        refine gg_iload_n dX10_word__136 rfl ?_
        refine gm_iald dX10_word__137 (by decide) rfl (by decide) ⟨by omega, by simp only [ml9]; omega⟩ (by (try simp only [uA_s, uA_n, ne_eq, not_false_eq_true, Nat.reduceEqDiff, reduceCtorEq]); rfl) ?_
        refine gg_aload_n dX10_word__138 rfl rfl ?_
        refine gm_get66 rfl dX10_word__139 ?_
        refine gg_iload_n dX10_word__142 rfl ?_
        refine gm_iald dX10_word__143 (by decide) rfl (by decide) ⟨by omega, by simp only [ml9]; omega⟩ (by (try simp only [uA_s, uA_n, ne_eq, not_false_eq_true, Nat.reduceEqDiff, reduceCtorEq]); rfl) ?_
        refine gc_X10_214 rfl dX10_word__144 ⟨(Nat.le_of_ble_eq_true rfl), (Nat.le_of_ble_eq_true rfl)⟩ ⟨(Nat.le_of_ble_eq_true rfl), (Nat.le_of_ble_eq_true rfl)⟩ (Nat.le_of_ble_eq_true rfl) (HAt.mu rfl) (c_X10_exceptionOf (A := A1) (j := 1) (by rw [g1]; exact S) (by decide) rfl (by decide) ⟨by omega, by omega⟩ ⟨by omega, by show _ ≤ (2609 : Int); omega⟩ (by rw [g1]; exact t6)) (fun _ _ w => w.elim) (fun r_144 h_144 hp => ?_)
        obtain ⟨rfl, rfl⟩ := hp
        subst hQF9
        refine gg_iret dX10_word__147 rfl rfl ⟨(Nat.le_of_ble_eq_true rfl), (Nat.le_of_ble_eq_true rfl)⟩ ?_
        refine Or.inr ⟨by omega, F1, F1, A1, A1, rfl, (by first | exact (hF 38 (by decide)).trans (uF_n (by decide)) | (rw [uF_n (by decide)]; exact (hF 38 (by decide)).trans (uF_n (by decide))) | (simp only [uF_n, ne_eq, Nat.reduceEqDiff, not_false_eq_true]; exact (hF 38 (by decide)).trans (uF_n (by decide))) | (rw [hF2 38 (by decide)]; exact (hF 38 (by decide)).trans (uF_n (by decide)))), hfF, hfA, hL, Or.inr (Or.inr ⟨by omega, by omega, ?_, e0⟩)⟩
        rw [if_neg w_48_0, if_neg w_48_1, if_neg w_48_2, if_neg w_48_3, if_pos w_48_4, g1]
      by_cases w_48_5 : u = 5
      · refine gi_tab (tgt := 148) dX10_word__48 hu (by omega) (by omega) (by rw [w_48_5]; rfl) (by decide) ?_
        refine gg_aload_n dX10_word__148 rfl rfl ?_
        refine gg_iload_n dX10_word__149 rfl ?_
        refine gc_X10_336 rfl dX10_word__150 ⟨(Nat.le_of_ble_eq_true rfl), (Nat.le_of_ble_eq_true rfl)⟩ ⟨(Nat.le_of_ble_eq_true rfl), (Nat.le_of_ble_eq_true rfl)⟩ (Nat.le_of_ble_eq_true rfl) (HAt.mu rfl) (c_X10_marksTold hL.1 ⟨by omega, by omega⟩) (fun _ _ w => w.elim) (fun r_150 h_150 hp => ?_)
        obtain ⟨rfl, rfl⟩ := hp
        subst hQF9
        refine gg_iret dX10_word__153 rfl rfl ⟨(Nat.le_of_ble_eq_true rfl), (Nat.le_of_ble_eq_true rfl)⟩ ?_
        refine Or.inr ⟨by omega, F1, F1, A1, A1, rfl, (by first | exact (hF 38 (by decide)).trans (uF_n (by decide)) | (rw [uF_n (by decide)]; exact (hF 38 (by decide)).trans (uF_n (by decide))) | (simp only [uF_n, ne_eq, Nat.reduceEqDiff, not_false_eq_true]; exact (hF 38 (by decide)).trans (uF_n (by decide))) | (rw [hF2 38 (by decide)]; exact (hF 38 (by decide)).trans (uF_n (by decide)))), hfF, hfA, hL, Or.inr (Or.inr ⟨by omega, by omega, ?_, e0⟩)⟩
        rw [if_neg w_48_0, if_neg w_48_1, if_neg w_48_2, if_neg w_48_3, if_neg w_48_4, ]
      refine gi_tabD (tgt := 154) dX10_word__48 hu (by omega) (by decide) ?_
      refine gg_aload_n dX10_word__154 rfl rfl ?_
      refine gi_iconst dX10_word__155 ?_
      refine gc_X10_162 rfl dX10_word__156 ⟨(Nat.le_of_ble_eq_true rfl), (Nat.le_of_ble_eq_true rfl)⟩ ⟨(Nat.le_of_ble_eq_true rfl), (Nat.le_of_ble_eq_true rfl)⟩ (Nat.le_of_ble_eq_true rfl) (HAt.mu rfl) (c_X10_fails) (fun _ _ w => w.elim) (fun r_156 h_156 hp => ?_)
      obtain ⟨rfl, rfl⟩ := hp
      subst hQF9
      refine gg_iret dX10_word__159 rfl rfl ⟨(Nat.le_of_ble_eq_true rfl), (Nat.le_of_ble_eq_true rfl)⟩ ?_
      exact Or.inr ⟨by omega, F1, uF F1 0 2, A1, A1, rfl, (by first | exact (hF 38 (by decide)).trans (uF_n (by decide)) | (rw [uF_n (by decide)]; exact (hF 38 (by decide)).trans (uF_n (by decide))) | (simp only [uF_n, ne_eq, Nat.reduceEqDiff, not_false_eq_true]; exact (hF 38 (by decide)).trans (uF_n (by decide))) | (rw [hF2 38 (by decide)]; exact (hF 38 (by decide)).trans (uF_n (by decide)))), frF_u hfF (by decide), hfA, hL, Or.inr (Or.inl ⟨by omega, by omega, rfl, uF_s⟩)⟩
    · rw [bi_f] at c_37
      rw [Bool.and_eq_false_iff, decide_eq_false_iff_not, decide_eq_false_iff_not] at c_37
      refine gg_aload_n dX10_word__40 rfl rfl ?_
      refine gi_iconst dX10_word__41 ?_
      refine gc_X10_162 rfl dX10_word__42 ⟨(Nat.le_of_ble_eq_true rfl), (Nat.le_of_ble_eq_true rfl)⟩ ⟨(Nat.le_of_ble_eq_true rfl), (Nat.le_of_ble_eq_true rfl)⟩ (Nat.le_of_ble_eq_true rfl) (HAt.mu rfl) (c_X10_fails) (fun _ _ w => w.elim) (fun r_42 h_42 hp => ?_)
      obtain ⟨rfl, rfl⟩ := hp
      subst hQF9
      refine gg_iret dX10_word__45 rfl rfl ⟨(Nat.le_of_ble_eq_true rfl), (Nat.le_of_ble_eq_true rfl)⟩ ?_
      exact Or.inr ⟨by omega, F1, uF F1 0 1, A1, A1, rfl, (by first | exact (hF 38 (by decide)).trans (uF_n (by decide)) | (rw [uF_n (by decide)]; exact (hF 38 (by decide)).trans (uF_n (by decide))) | (simp only [uF_n, ne_eq, Nat.reduceEqDiff, not_false_eq_true]; exact (hF 38 (by decide)).trans (uF_n (by decide))) | (rw [hF2 38 (by decide)]; exact (hF 38 (by decide)).trans (uF_n (by decide)))), frF_u hfF (by decide), hfA, hL, Or.inl ⟨by omega, rfl, uF_s⟩⟩
  · rw [bi_f] at c_11
    simp at c_11
    refine gg_aload_n dX10_word__14 rfl rfl ?_
    refine gi_iconst dX10_word__15 ?_
    refine gc_X10_162 rfl dX10_word__16 ⟨(Nat.le_of_ble_eq_true rfl), (Nat.le_of_ble_eq_true rfl)⟩ ⟨(Nat.le_of_ble_eq_true rfl), (Nat.le_of_ble_eq_true rfl)⟩ (Nat.le_of_ble_eq_true rfl) (HAt.mu rfl) (c_X10_fails) (fun _ _ w => w.elim) (fun r_16 h_16 hp => ?_)
    obtain ⟨rfl, rfl⟩ := hp
    subst hQF9
    refine gg_iret dX10_word__19 rfl rfl ⟨(Nat.le_of_ble_eq_true rfl), (Nat.le_of_ble_eq_true rfl)⟩ ?_
    exact Or.inl ⟨by omega, rfl, by rw [uF_ss]⟩
set_option maxRecDepth 100000 in
set_option maxHeartbeats 4000000 in
theorem c3_X10_difference {Γ : GT} {h : XH} {F : Nat → Int} {A : Nat → Int → Int} (S : StA (A 1)) (N : LnA (A 1)) (E9 : ExA (A 1)) {x y : Int} (hx : InR x) (hy : InR y) : Ct Γ M_X10_difference [.ref (g_L Γ 0), .int (iN x), .int (iN y)] (mst Γ h F A) (fun r h9 => (¬ ((0 ≤ x ∧ x ≤ 3) ∧ 0 ≤ y ∧ y ≤ 3) ∧ r = some (.int (iN (0))) ∧ h9 = mst Γ h (uF F 0 1) A) ∨ (((0 ≤ x ∧ x ≤ 3) ∧ 0 ≤ y ∧ y ≤ 3) ∧ ∃ (F2 : Nat → Int) (A2 : Nat → Int → Int), h9 = mst Γ h F2 A2 ∧ F2 38 = F 38 ∧ frF [0, 16, 24, 25, 27, 28, 29, 30, 34, 35, 36, 37, 38, 39, 40, 41, 42] F F2 ∧ frA [8, 9, 10, 11, 12, 13, 14, 15, 16, 17, 18, 19, 20, 21, 22] A A2 ∧ r = some (.int (iN (dfT (A 1) x y (A 1 (5 + x)).toNat (A 1 (5 + y)).toNat))) ∧ F2 0 = 0)) (fun _ _ => False) := by
  refine Ct.of rfl (by decide +kernel) (Nat.le_of_ble_eq_true rfl) ?_
  generalize hQF9 : QM Γ _ _ _ = QF9
  obtain ⟨t0, t1, t2, t3, t4, t5, t6⟩ := id S
  refine gg_aload_n dX10_difference_0 rfl rfl ?_
  refine gi_iconst dX10_difference_1 ?_
  refine gm_put3 rfl dX10_difference_2 (by (try simp only [uF_ss, uF_cc, id_eq, Nat.reduceLT, reduceCtorEq]); rfl) ?_
  refine gg_iload_n dX10_difference_5 rfl ?_
  refine gc_X10_218 rfl dX10_difference_6 ⟨(Nat.le_of_ble_eq_true rfl), (Nat.le_of_ble_eq_true rfl)⟩ ⟨(Nat.le_of_ble_eq_true rfl), (Nat.le_of_ble_eq_true rfl)⟩ (Nat.le_of_ble_eq_true rfl) (c_X10_isDraft hx) (fun _ _ w => w.elim) (fun r_6 h_6 hp => ?_)
  obtain ⟨rfl, rfl⟩ := hp
  refine gi_if_eq (tgt := 19) dX10_difference_9 (by decide) (bi_r _) (fun c_9 => ?_) (fun c_9 => ?_)
  · rw [bi_f] at c_9
    simp at c_9
    refine gg_aload_n dX10_difference_19 rfl rfl ?_
    refine gi_iconst dX10_difference_20 ?_
    refine gc_X10_162 rfl dX10_difference_21 ⟨(Nat.le_of_ble_eq_true rfl), (Nat.le_of_ble_eq_true rfl)⟩ ⟨(Nat.le_of_ble_eq_true rfl), (Nat.le_of_ble_eq_true rfl)⟩ (Nat.le_of_ble_eq_true rfl) (HAt.mu rfl) (c_X10_fails) (fun _ _ w => w.elim) (fun r_21 h_21 hp => ?_)
    obtain ⟨rfl, rfl⟩ := hp
    subst hQF9
    refine gg_iret dX10_difference_24 rfl rfl ⟨(Nat.le_of_ble_eq_true rfl), (Nat.le_of_ble_eq_true rfl)⟩ ?_
    exact Or.inl ⟨by omega, rfl, by rw [uF_ss]⟩
  · rw [bi_t] at c_9
    simp at c_9
    refine gg_iload_n dX10_difference_12 rfl ?_
    refine gc_X10_218 rfl dX10_difference_13 ⟨(Nat.le_of_ble_eq_true rfl), (Nat.le_of_ble_eq_true rfl)⟩ ⟨(Nat.le_of_ble_eq_true rfl), (Nat.le_of_ble_eq_true rfl)⟩ (Nat.le_of_ble_eq_true rfl) (c_X10_isDraft hy) (fun _ _ w => w.elim) (fun r_13 h_13 hp => ?_)
    obtain ⟨rfl, rfl⟩ := hp
    refine gi_if_ne (tgt := 25) dX10_difference_16 (by decide) (bi_r _) (fun c_16 => ?_) (fun c_16 => ?_)
    · rw [bi_t] at c_16
      simp at c_16
      have hnx := t5 x (by omega) (by omega)
      have hny := t5 y (by omega) (by omega)
      refine gg_aload_n dX10_difference_25 rfl rfl ?_
      refine gm_get13 rfl dX10_difference_26 ?_
      refine gi_iconst dX10_difference_29 ?_
      refine gg_iload_n dX10_difference_30 rfl ?_
      refine gi_iadd dX10_difference_31 ?_
      refine gm_iald dX10_difference_32 (by decide) rfl (by decide) ⟨by omega, by simp only [ml9]; omega⟩ (by (try simp only [uA_s, uA_n, ne_eq, not_false_eq_true, Nat.reduceEqDiff, reduceCtorEq]); rfl) ?_
      refine gg_istore_n dX10_difference_33 (Nat.le_of_ble_eq_true rfl) rfl ?_
      refine gg_aload_n dX10_difference_34 rfl rfl ?_
      refine gm_get13 rfl dX10_difference_35 ?_
      refine gi_iconst dX10_difference_38 ?_
      refine gg_iload_n dX10_difference_39 rfl ?_
      refine gi_iadd dX10_difference_40 ?_
      refine gm_iald dX10_difference_41 (by decide) rfl (by decide) ⟨by omega, by simp only [ml9]; omega⟩ (by (try simp only [uA_s, uA_n, ne_eq, not_false_eq_true, Nat.reduceEqDiff, reduceCtorEq]); rfl) ?_
      refine gg_istore dX10_difference_42 (Nat.le_of_ble_eq_true rfl) rfl ?_
      refine gi_iconst dX10_difference_44 ?_
      refine gg_istore dX10_difference_45 (Nat.le_of_ble_eq_true rfl) rfl ?_
      have L_47 : ∀ (n9 : Nat) (i : Int) (F1 : Nat → Int) (A1 : Nat → Int → Int), ((A 1 (5 + x) + 1 - i).toNat) = n9 → ∀ (hi : 0 ≤ i ∧ i ≤ A 1 (5 + x) + 1) (hF : frF [16, 24, 25] (uF F 0 0) F1) (hA : frA [8, 9, 10, 11, 12, 13, 14, 15, 20, 21, 22] A A1) (hT : ∀ i' j' : Nat, (i' : Int) < i → (j' : Int) ≤ A 1 (5 + y) → A1 22 (11 * i' + j') = dfT (A 1) x y i' j'), GG Γ M_X10_difference QF9 (0, 0) (mst Γ h F1 A1) 47 [some (.ref (g_L Γ 0)), some (.int (iN x)), some (.int (iN y)), some (.int (iN (A 1 (5 + x)))), some (.int (iN (A 1 (5 + y)))), some (.int (iN i)), none, none] [] := by
        intro n9
        induction n9 using Nat.strongRecOn with
        | ind n9 ih_47 => 
          intro i F1 A1 hm9 hi hF hA hT
          refine gg_iload dX10_difference_47 rfl ?_
          refine gg_iload_n dX10_difference_49 rfl ?_
          refine gi_icmp_gt (tgt := 200) dX10_difference_50 (by decide) ⟨by omega, by omega⟩ ⟨by omega, by omega⟩ (fun c_50 => ?_) (fun c_50 => ?_)
          · refine gg_aload_n dX10_difference_200 rfl rfl ?_
            refine gm_get151 rfl dX10_difference_201 ?_
            refine gi_bipush dX10_difference_204 (by decide) ?_
            refine gg_iload_n dX10_difference_206 rfl ?_
            refine gi_imul dX10_difference_207 ?_
            refine gg_iload dX10_difference_208 rfl ?_
            refine gi_iadd dX10_difference_210 ?_
            refine gm_iald dX10_difference_211 (by decide) rfl (by decide) ⟨by omega, by simp only [ml9]; omega⟩ (by (try simp only [uA_s, uA_n, ne_eq, not_false_eq_true, Nat.reduceEqDiff, reduceCtorEq]); rfl) ?_
            subst hQF9
            refine gg_iret dX10_difference_212 rfl rfl ⟨(Nat.le_of_ble_eq_true rfl), (Nat.le_of_ble_eq_true rfl)⟩ ?_
            have hz := hT (A 1 (5 + x)).toNat (A 1 (5 + y)).toNat (by omega) (by omega)
            rw [Int.toNat_of_nonneg hnx.1, Int.toNat_of_nonneg hny.1] at hz
            exact Or.inr ⟨by omega, F1, A1, rfl, (by first | exact (hF 38 (by decide)).trans (uF_n (by decide)) | (rw [uF_n (by decide)]; exact (hF 38 (by decide)).trans (uF_n (by decide))) | (simp only [uF_n, ne_eq, Nat.reduceEqDiff, not_false_eq_true]; exact (hF 38 (by decide)).trans (uF_n (by decide))) | (rw [hF2 38 (by decide)]; exact (hF 38 (by decide)).trans (uF_n (by decide)))), frF_z hF (by decide), frA_w hA (by decide), by rw [hz], by rw [hF 0 (by decide), uF_s]⟩
          · refine gi_iconst dX10_difference_53 ?_
            refine gg_istore dX10_difference_54 (Nat.le_of_ble_eq_true rfl) rfl ?_
            have L_56 : ∀ (n9 : Nat) (j : Int) (F2 : Nat → Int) (A2 : Nat → Int → Int), ((A 1 (5 + y) + 1 - j).toNat) = n9 → ∀ (hj : 0 ≤ j ∧ j ≤ A 1 (5 + y) + 1) (hF2 : frF [16, 24, 25] (uF F 0 0) F2) (hA2 : frA [8, 9, 10, 11, 12, 13, 14, 15, 20, 21, 22] A A2) (hU : ∀ i' j' : Nat, (((i' : Int) < i ∧ (j' : Int) ≤ A 1 (5 + y)) ∨ ((i' : Int) = i ∧ (j' : Int) < j)) → A2 22 (11 * i' + j') = dfT (A 1) x y i' j'), GG Γ M_X10_difference QF9 (0, 0) (mst Γ h F2 A2) 56 [some (.ref (g_L Γ 0)), some (.int (iN x)), some (.int (iN y)), some (.int (iN (A 1 (5 + x)))), some (.int (iN (A 1 (5 + y)))), some (.int (iN i)), some (.int (iN j)), none] [] := by
              intro n9
              induction n9 using Nat.strongRecOn with
              | ind n9 ih_56 => 
                intro j F2 A2 hm9 hj hF2 hA2 hU
                have g2 : A2 1 = A 1 := hA2 1 (by decide)
                refine gg_iload dX10_difference_56 rfl ?_
                refine gg_iload dX10_difference_58 rfl ?_
                refine gi_icmp_gt (tgt := 194) dX10_difference_60 (by decide) ⟨by omega, by omega⟩ ⟨by omega, by omega⟩ (fun c_60 => ?_) (fun c_60 => ?_)
                · refine gi_iinc dX10_difference_194 rfl (Nat.le_of_ble_eq_true rfl) rfl ?_
                  refine gg_goto (tgt := 47) dX10_difference_197 (by decide) ?_
                  refine gg_drop 6 ?_
                  refine gg_drop 7 ?_
                  refine ih_47 _ (by omega) (i + 1) F2 A2 rfl (by omega) hF2 hA2 (fun i' j' q q2 => hU i' j' (by omega))
                · have L_173 : ∀ (F3 : Nat → Int) (A3 : Nat → Int → Int) (hF3 : frF [16, 24, 25] (uF F 0 0) F3) (hA3 : frA [8, 9, 10, 11, 12, 13, 14, 15, 20, 21, 22] A A3) (hW : ∀ i' j' : Nat, (((i' : Int) < i ∧ (j' : Int) ≤ A 1 (5 + y)) ∨ ((i' : Int) = i ∧ (j' : Int) < j)) → A3 22 (11 * i' + j') = dfT (A 1) x y i' j'), GG Γ M_X10_difference QF9 (0, 0) (mst Γ h F3 A3) 173 [some (.ref (g_L Γ 0)), some (.int (iN x)), some (.int (iN y)), some (.int (iN (A 1 (5 + x)))), some (.int (iN (A 1 (5 + y)))), some (.int (iN i)), some (.int (iN j)), some (.int (iN (dfT (A 1) x y i.toNat j.toNat)))] [] := by
                    intro F3 A3 hF3 hA3 hW
                    refine gg_aload_n dX10_difference_173 rfl rfl ?_
                    refine gm_get151 rfl dX10_difference_174 ?_
                    refine gi_bipush dX10_difference_177 (by decide) ?_
                    refine gg_iload dX10_difference_179 rfl ?_
                    refine gi_imul dX10_difference_181 ?_
                    refine gg_iload dX10_difference_182 rfl ?_
                    refine gi_iadd dX10_difference_184 ?_
                    refine gg_iload dX10_difference_185 rfl ?_
                    refine gm_iast dX10_difference_187 (by decide) rfl (by decide) ⟨by omega, by simp only [ml9]; omega⟩ (by (try simp only [uA_s, uA_n, uA_ss, uA_cc, id_eq, ne_eq, not_false_eq_true, Nat.reduceEqDiff, Nat.reduceLT, reduceCtorEq]); rfl) ?_
                    refine gi_iinc dX10_difference_188 rfl (Nat.le_of_ble_eq_true rfl) rfl ?_
                    refine gg_goto (tgt := 56) dX10_difference_191 (by decide) ?_
                    refine gg_drop 7 ?_
                    refine ih_56 _ (by omega) (j + 1) F3 _ rfl (by omega) hF3 (frA_u hA3 (by decide)) (fun i' j' q => ?_)
                    rw [uA_s]
                    by_cases e9 : (i' : Int) = i ∧ (j' : Int) = j
                    · rw [e9.1, e9.2, up_s, show i.toNat = i' by omega, show j.toNat = j' by omega]
                    · rw [up_n (by omega)]; exact hW i' j' (by omega)
                  refine gg_iload dX10_difference_63 rfl ?_
                  refine gi_if_ne (tgt := 75) dX10_difference_65 (by decide) ⟨by omega, by omega⟩ (fun c_65 => ?_) (fun c_65 => ?_)
                  · refine gg_iload dX10_difference_75 rfl ?_
                    refine gi_if_ne (tgt := 87) dX10_difference_77 (by decide) ⟨by omega, by omega⟩ (fun c_77 => ?_) (fun c_77 => ?_)
                    · have u0 : A2 22 (11 * (i - 1) + j - 1) = dfT (A 1) x y (i - 1).toNat (j - 1).toNat := by
                        rw [← hU (i - 1).toNat (j - 1).toNat (by omega)]; congr 1; omega
                      refine gg_aload_n dX10_difference_87 rfl rfl ?_
                      refine gm_get151 rfl dX10_difference_88 ?_
                      refine gi_bipush dX10_difference_91 (by decide) ?_
                      refine gg_iload dX10_difference_93 rfl ?_
                      refine gi_iconst dX10_difference_95 ?_
                      refine gi_isub dX10_difference_96 ?_
                      refine gi_imul dX10_difference_97 ?_
                      refine gg_iload dX10_difference_98 rfl ?_
                      refine gi_iadd dX10_difference_100 ?_
                      refine gi_iconst dX10_difference_101 ?_
                      refine gi_isub dX10_difference_102 ?_
                      refine gm_iald dX10_difference_103 (by decide) rfl (by decide) ⟨by omega, by simp only [ml9]; omega⟩ u0 ?_
                      refine gg_aload_n dX10_difference_104 rfl rfl ?_
                      refine gg_iload_n dX10_difference_105 rfl ?_
                      refine gg_iload dX10_difference_106 rfl ?_
                      refine gi_iconst dX10_difference_108 ?_
                      refine gi_isub dX10_difference_109 ?_
                      refine gg_iload_n dX10_difference_110 rfl ?_
                      refine gg_iload dX10_difference_111 rfl ?_
                      refine gi_iconst dX10_difference_113 ?_
                      refine gi_isub dX10_difference_114 ?_
                      refine gc_X10_342 rfl dX10_difference_115 ⟨(Nat.le_of_ble_eq_true rfl), (Nat.le_of_ble_eq_true rfl)⟩ ⟨(Nat.le_of_ble_eq_true rfl), (Nat.le_of_ble_eq_true rfl)⟩ (Nat.le_of_ble_eq_true rfl) (HAt.mu rfl) (c_X10_apart (F := F2) (A := A2) (by rw [g2]; exact S) (by rw [g2]; exact N) (by rw [g2]; exact E9) ⟨by omega, by omega⟩ (by rw [g2]; omega) ⟨by omega, by omega⟩ (by rw [g2]; omega)) (fun _ _ w => w.elim) (fun r_115 h_115 hp => ?_)
                      obtain ⟨F4, A4, rfl, rfl, hF3, hA3⟩ := hp
                      rw [g2]
                      have hF4 : frF [16, 24, 25] (uF F 0 0) F4 := fun j hj => by rw [hF3 j hj, hF2 j hj]
                      have hA4 : frA [8, 9, 10, 11, 12, 13, 14, 15, 20, 21, 22] A A4 := fun j hj => by rw [hA3 j (fun q => hj (by revert q; simp; omega)), hA2 j hj]
                      have e22 : A4 22 = A2 22 := hA3 22 (by decide)
                      have hpr := apP_r (A 1) x (i - 1) y (j - 1) 12
                      have u1 : A4 22 (11 * (i - 1) + j) = dfT (A 1) x y (i - 1).toNat ((j - 1).toNat + 1) := by
                        rw [e22, ← hU (i - 1).toNat ((j - 1).toNat + 1) (by omega)]; congr 1; omega
                      have u2 : A4 22 (11 * i + j - 1) = dfT (A 1) x y ((i - 1).toNat + 1) (j - 1).toNat := by
                        rw [e22, ← hU ((i - 1).toNat + 1) (j - 1).toNat (by omega)]; congr 1; omega
                      have v0 := dfT_r (A 1) x y (i - 1).toNat (j - 1).toNat
                      have v1 := dfT_r (A 1) x y (i - 1).toNat ((j - 1).toNat + 1)
                      have v2 := dfT_r (A 1) x y ((i - 1).toNat + 1) (j - 1).toNat
                      refine gi_iadd dX10_difference_118 ?_
                      refine gg_istore dX10_difference_119 (Nat.le_of_ble_eq_true rfl) rfl ?_
                      refine gg_iload dX10_difference_121 rfl ?_
                      refine gi_if_le (tgt := 173) dX10_difference_123 (by decide) ⟨by omega, by omega⟩ (fun c_123 => ?_) (fun c_123 => ?_)
                      · exact absurd c_65 (by omega)
                      · refine gg_iload dX10_difference_126 rfl ?_
                        refine gi_if_le (tgt := 173) dX10_difference_128 (by decide) ⟨by omega, by omega⟩ (fun c_128 => ?_) (fun c_128 => ?_)
                        · exact absurd c_77 (by omega)
                        · refine gg_iload dX10_difference_131 rfl ?_
                          refine gi_iconst dX10_difference_133 ?_
                          refine gg_aload_n dX10_difference_134 rfl rfl ?_
                          refine gm_get151 rfl dX10_difference_135 ?_
                          refine gi_bipush dX10_difference_138 (by decide) ?_
                          refine gg_iload dX10_difference_140 rfl ?_
                          refine gi_iconst dX10_difference_142 ?_
                          refine gi_isub dX10_difference_143 ?_
                          refine gi_imul dX10_difference_144 ?_
                          refine gg_iload dX10_difference_145 rfl ?_
                          refine gi_iadd dX10_difference_147 ?_
                          refine gm_iald dX10_difference_148 (by decide) rfl (by decide) ⟨by omega, by simp only [ml9]; omega⟩ u1 ?_
                          refine gg_aload_n dX10_difference_149 rfl rfl ?_
                          refine gm_get151 rfl dX10_difference_150 ?_
                          refine gi_bipush dX10_difference_153 (by decide) ?_
                          refine gg_iload dX10_difference_155 rfl ?_
                          refine gi_imul dX10_difference_157 ?_
                          refine gg_iload dX10_difference_158 rfl ?_
                          refine gi_iadd dX10_difference_160 ?_
                          refine gi_iconst dX10_difference_161 ?_
                          refine gi_isub dX10_difference_162 ?_
                          refine gm_iald dX10_difference_163 (by decide) rfl (by decide) ⟨by omega, by simp only [ml9]; omega⟩ u2 ?_
                          refine gc_X10_339 rfl dX10_difference_164 ⟨(Nat.le_of_ble_eq_true rfl), (Nat.le_of_ble_eq_true rfl)⟩ ⟨(Nat.le_of_ble_eq_true rfl), (Nat.le_of_ble_eq_true rfl)⟩ ?_
                          rw [iN_min ⟨by omega, by omega⟩ ⟨by omega, by omega⟩]
                          refine gi_iadd dX10_difference_167 ?_
                          refine gc_X10_339 rfl dX10_difference_168 ⟨(Nat.le_of_ble_eq_true rfl), (Nat.le_of_ble_eq_true rfl)⟩ ⟨(Nat.le_of_ble_eq_true rfl), (Nat.le_of_ble_eq_true rfl)⟩ ?_
                          rw [iN_min ⟨by omega, by omega⟩ ⟨by omega, by omega⟩]
                          refine gg_istore dX10_difference_171 (Nat.le_of_ble_eq_true rfl) rfl ?_
                          exact gg_conv (L_173 F4 A4 hF4 hA4 (by rw [e22]; exact hU)) rfl (by rw [show i.toNat = (i - 1).toNat + 1 by omega, show j.toNat = (j - 1).toNat + 1 by omega]; simp only [dfT, dfR, show (((i - 1).toNat : Nat) : Int) = i - 1 by omega, show (((j - 1).toNat : Nat) : Int) = j - 1 by omega]; rfl) rfl
                    · refine gi_iconst dX10_difference_80 ?_
                      refine gg_iload dX10_difference_81 rfl ?_
                      refine gi_imul dX10_difference_83 ?_
                      refine gg_goto (tgt := 119) dX10_difference_84 (by decide) ?_
                      refine gg_istore dX10_difference_119 (Nat.le_of_ble_eq_true rfl) rfl ?_
                      refine gg_iload dX10_difference_121 rfl ?_
                      refine gi_if_le (tgt := 173) dX10_difference_123 (by decide) ⟨by omega, by omega⟩ (fun c_123 => ?_) (fun c_123 => ?_)
                      · exact absurd c_65 (by omega)
                      · refine gg_iload dX10_difference_126 rfl ?_
                        refine gi_if_le (tgt := 173) dX10_difference_128 (by decide) ⟨by omega, by omega⟩ (fun c_128 => ?_) (fun c_128 => ?_)
                        · exact gg_conv (L_173 F2 A2 hF2 hA2 hU) rfl (by rw [show i.toNat = (i - 1).toNat + 1 by omega, show j.toNat = 0 by omega]; simp only [dfT, dfR, show (((i - 1).toNat : Nat) : Int) + 1 = i by omega]; rfl) rfl
                        · exact absurd c_77 (by omega)
                  · refine gi_iconst dX10_difference_68 ?_
                    refine gg_iload dX10_difference_69 rfl ?_
                    refine gi_imul dX10_difference_71 ?_
                    refine gg_goto (tgt := 119) dX10_difference_72 (by decide) ?_
                    refine gg_istore dX10_difference_119 (Nat.le_of_ble_eq_true rfl) rfl ?_
                    refine gg_iload dX10_difference_121 rfl ?_
                    refine gi_if_le (tgt := 173) dX10_difference_123 (by decide) ⟨by omega, by omega⟩ (fun c_123 => ?_) (fun c_123 => ?_)
                    · exact gg_conv (L_173 F2 A2 hF2 hA2 hU) rfl (by rw [show i.toNat = 0 by omega]; simp only [dfT, Int.toNat_of_nonneg hj.1]; rfl) rfl
                    · exact absurd c_65 (by omega)
            refine gg_drop 7 ?_
            exact L_56 _ 0 F1 A1 rfl (by omega) hF hA (fun i' j' q => by rcases q with q | q; exact hT i' j' q.1 q.2; omega)
      refine gg_drop 6 ?_
      refine gg_drop 7 ?_
      exact L_47 _ 0 (uF F 0 0) A rfl (by omega) (fun _ _ => rfl) (fun _ _ => rfl) (fun i' j' q => by omega)
    · rw [bi_f] at c_16
      simp at c_16
      refine gg_aload_n dX10_difference_19 rfl rfl ?_
      refine gi_iconst dX10_difference_20 ?_
      refine gc_X10_162 rfl dX10_difference_21 ⟨(Nat.le_of_ble_eq_true rfl), (Nat.le_of_ble_eq_true rfl)⟩ ⟨(Nat.le_of_ble_eq_true rfl), (Nat.le_of_ble_eq_true rfl)⟩ (Nat.le_of_ble_eq_true rfl) (HAt.mu rfl) (c_X10_fails) (fun _ _ w => w.elim) (fun r_21 h_21 hp => ?_)
      obtain ⟨rfl, rfl⟩ := hp
      subst hQF9
      refine gg_iret dX10_difference_24 rfl rfl ⟨(Nat.le_of_ble_eq_true rfl), (Nat.le_of_ble_eq_true rfl)⟩ ?_
      exact Or.inl ⟨by omega, rfl, by rw [uF_ss]⟩
