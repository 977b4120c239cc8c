/-! the reference: what is known of the best scan's inversion -/
set_option maxRecDepth 100000 in
set_option maxHeartbeats 4000000 in
theorem c3_X10_scan {Γ : GT} {h : XH} {F : Nat → Int} {A : Nat → Int → Int} (S : StA (A 1)) (N : LnA (A 1)) (E9 : ExA (A 1)) (h38 : F 38 = 0 ∨ F 38 = 1) {d l : Int} (hd : InR d) (hl : InR l) {w : Int} (hw : InR w) : Ct Γ M_X10_scan [.ref (g_L Γ 0), .int (iN d), .int (iN l), .int (iN w)] (mst Γ h F A) (fun r h9 => (¬ (0 ≤ d ∧ d ≤ 3 ∧ 0 ≤ l ∧ l < A 1 (5 + d)) ∧ r = some (.int (iN 0)) ∧ h9 = mst Γ h (uF F 0 1) A) ∨ ((0 ≤ d ∧ d ≤ 3 ∧ 0 ≤ l ∧ l < A 1 (5 + d)) ∧ ¬ (0 ≤ w ∧ w ≤ 5) ∧ r = some (.int (iN (0))) ∧ h9 = mst Γ h (uF F 0 2) A) ∨ ((0 ≤ d ∧ d ≤ 3 ∧ 0 ≤ l ∧ l < A 1 (5 + d)) ∧ (0 ≤ w ∧ w ≤ 5) ∧ ∃ (F1 F2 : Nat → Int) (A1 A2 : Nat → Int → Int), h9 = mst Γ h F2 A2 ∧ (F2 38 = 0 ∨ F2 38 = 1) ∧ frF [0, 16, 24, 25, 27, 28, 29, 30, 34, 35, 36, 37, 38, 39, 40, 41, 42] F F2 ∧ frA [8, 9, 10, 11, 12, 13, 14, 15, 16, 17, 18, 19, 20, 21, 22] A A2 ∧ LD (A 1) d l F1 A1 ∧ (((bst9 (A 1) F1 A1 (F 36) (F 38)).1 < 0 ∧ r = some (.int (iN (0))) ∧ F2 0 = 3) ∨ (0 ≤ (bst9 (A 1) F1 A1 (F 36) (F 38)).1 ∧ r = some (.int (iN (if w = 0 then (bst9 (A 1) F1 A1 (F 36) (F 38)).1 else if w = 1 then (bst9 (A 1) F1 A1 (F 36) (F 38)).2.1 else if w = 2 then (bst9 (A 1) F1 A1 (F 36) (F 38)).2.2.2.2 else if w = 3 then (bst9 (A 1) F1 A1 (F 36) (F 38)).2.2.1 else wro (A 1 0) (sA A1 ((bst9 (A 1) F1 A1 (F 36) (F 38)).2.1) (s0 A1) (F1 16).toNat).2.1 (bst9 (A 1) F1 A1 (F 36) (F 38)).2.2.2.2 (bi (decide (w = 4))) (min (A 1 1 * szk (A 1 0)) (sA A1 ((bst9 (A 1) F1 A1 (F 36) (F 38)).2.1) (s0 A1) (F1 16).toNat).1).toNat))) ∧ F2 0 = 0)))) (fun _ _ => False) := by
  refine Ct.of rfl (by decide +kernel) (Nat.le_of_ble_eq_true rfl) ?_
  generalize hQF9 : QM Γ _ _ _ = QF9
  obtain ⟨t0, t1, t2, t3, t4, t5, t6⟩ := id S
  refine gg_aload_n dX10_scan_0 rfl rfl ?_
  refine gi_iconst dX10_scan_1 ?_
  refine gm_put3 rfl dX10_scan_2 (by (try simp only [uF_ss, uF_cc, id_eq, Nat.reduceLT, reduceCtorEq]); rfl) ?_
  refine gg_aload_n dX10_scan_5 rfl rfl ?_
  refine gg_iload_n dX10_scan_6 rfl ?_
  refine gg_iload_n dX10_scan_7 rfl ?_
  refine gc_X10_234 rfl dX10_scan_8 ⟨(Nat.le_of_ble_eq_true rfl), (Nat.le_of_ble_eq_true rfl)⟩ ⟨(Nat.le_of_ble_eq_true rfl), (Nat.le_of_ble_eq_true rfl)⟩ (Nat.le_of_ble_eq_true rfl) (HAt.mu rfl) (c_X10_isLine (by exact S) (by assumption) (by assumption)) (fun _ _ w => w.elim) (fun r_8 h_8 hp => ?_)
  obtain ⟨rfl, rfl⟩ := hp
  refine gi_if_ne (tgt := 20) dX10_scan_11 (by decide) (bi_r _) (fun c_11 => ?_) (fun c_11 => ?_)
  · rw [bi_t] at c_11
    simp at c_11
    refine gg_iload_n dX10_scan_20 rfl ?_
    refine gi_iconst dX10_scan_21 ?_
    refine gi_iconst dX10_scan_22 ?_
    refine gc_X10_158 rfl dX10_scan_23 ⟨(Nat.le_of_ble_eq_true rfl), (Nat.le_of_ble_eq_true rfl)⟩ ⟨(Nat.le_of_ble_eq_true rfl), (Nat.le_of_ble_eq_true rfl)⟩ (Nat.le_of_ble_eq_true rfl) (c_X10_in (by assumption) ⟨by omega, by omega⟩ ⟨by omega, by omega⟩) (fun _ _ w => w.elim) (fun r_23 h_23 hp => ?_)
    obtain ⟨rfl, rfl⟩ := hp
    refine gi_if_ne (tgt := 35) dX10_scan_26 (by decide) (bi_r _) (fun c_26 => ?_) (fun c_26 => ?_)
    · rw [bi_t] at c_26
      rw [Bool.and_eq_true, decide_eq_true_iff, decide_eq_true_iff] at c_26
      refine gg_aload_n dX10_scan_35 rfl rfl ?_
      refine gg_iload_n dX10_scan_36 rfl ?_
      refine gg_iload_n dX10_scan_37 rfl ?_
      refine gc_X10_303 rfl dX10_scan_38 ⟨(Nat.le_of_ble_eq_true rfl), (Nat.le_of_ble_eq_true rfl)⟩ ⟨(Nat.le_of_ble_eq_true rfl), (Nat.le_of_ble_eq_true rfl)⟩ (Nat.le_of_ble_eq_true rfl) (HAt.mu rfl) (c_X10_scansLine (F := uF F 0 0) S N E9 (by simp only [uF_s, uF_n, uF_ss, uF_cc, id_eq, ne_eq, not_false_eq_true, Nat.reduceEqDiff, Nat.reduceLT, reduceCtorEq]; exact h38) ⟨by omega, by omega⟩ ⟨by omega, by omega⟩) (fun _ _ w => w.elim) (fun r_38 h_38 hp => ?_)
      obtain ⟨F1, F2, A1, A2, rfl, rfl, hL, hF, hA, hA2, e16, e27, e28, e29, okb, hb⟩ := hp
      simp only [uF_s, uF_n, uF_ss, uF_cc, id_eq, ne_eq, not_false_eq_true, Nat.reduceEqDiff, Nat.reduceLT, reduceCtorEq] at hb
      obtain ⟨b34, b35, b36, b37, b38⟩ := bof_c hb
      obtain ⟨o1, o2, o3⟩ := id okb
      dsimp only [bof] at o1 o2 o3
      have g1 : A1 1 = A 1 := hA 1 (by decide)
      have e0 : F2 0 = 0 := by rw [hF 0 (by decide), uF_s]
      have h1 : A2 1 = A1 1 := hA2 1 (by decide)
      have h10 : A2 10 = A1 10 := hA2 10 (by decide)
      have h11 : A2 11 = A1 11 := hA2 11 (by decide)
      have h12 : A2 12 = A1 12 := hA2 12 (by decide)
      have h13 : A2 13 = A1 13 := hA2 13 (by decide)
      have h14 : A2 14 = A1 14 := hA2 14 (by decide)
      have hL2 : LW F2 A2 := LW_fr e16 h10 h12 h13 h14 h11 hL.1
      have k9 : 0 ≤ F2 27 ∧ F2 27 ≤ 3 := by rw [e27]; exact t0
      have f9 : 2 ≤ F2 28 ∧ F2 28 ≤ 6 := by rw [e28]; exact t1
      have hfF := frF_z hF (by decide)
      have hfA := frA_t hA hA2 (by decide) (by decide)
      refine gg_aload_n dX10_scan_41 rfl rfl ?_
      refine gm_get115 rfl dX10_scan_42 (by (try simp only [uF_s, uF_n, ne_eq, not_false_eq_true, Nat.reduceEqDiff, reduceCtorEq]); rfl) ?_
      refine gi_if_ge (tgt := 54) dX10_scan_45 (by decide) ⟨by omega, by omega⟩ (fun c_45 => ?_) (fun c_45 => ?_)
      · refine gg_iload_n dX10_scan_54 rfl ?_
        by_cases w_55_0 : w = 0
        · refine gi_tab (tgt := 84) dX10_scan_55 hw (by omega) (by omega) (by rw [w_55_0]; rfl) (by decide) ?_
          refine gg_aload_n dX10_scan_84 rfl rfl ?_
          refine gm_get115 rfl dX10_scan_85 (by (try simp only [uF_s, uF_n, ne_eq, not_false_eq_true, Nat.reduceEqDiff, reduceCtorEq]); rfl) ?_
          subst hQF9
          refine gg_iret dX10_scan_88 rfl rfl ⟨(Nat.le_of_ble_eq_true rfl), (Nat.le_of_ble_eq_true rfl)⟩ ?_
          refine Or.inr (Or.inr ⟨by omega, by omega, F1, F2, A1, A2, rfl, (by first | exact o3 | (rw [uF_n (by decide)]; exact o3)), hfF, hfA, hL, Or.inr ⟨by omega, ?_, e0⟩⟩)
          rw [if_pos w_55_0, b34]
        by_cases w_55_1 : w = 1
        · refine gi_tab (tgt := 89) dX10_scan_55 hw (by omega) (by omega) (by rw [w_55_1]; rfl) (by decide) ?_
          refine gg_aload_n dX10_scan_89 rfl rfl ?_
          refine gm_get118 rfl dX10_scan_90 (by (try simp only [uF_s, uF_n, ne_eq, not_false_eq_true, Nat.reduceEqDiff, reduceCtorEq]); rfl) ?_
          subst hQF9
          refine gg_iret dX10_scan_93 rfl rfl ⟨(Nat.le_of_ble_eq_true rfl), (Nat.le_of_ble_eq_true rfl)⟩ ?_
          refine Or.inr (Or.inr ⟨by omega, by omega, F1, F2, A1, A2, rfl, (by first | exact o3 | (rw [uF_n (by decide)]; exact o3)), hfF, hfA, hL, Or.inr ⟨by omega, ?_, e0⟩⟩)
          rw [if_neg w_55_0, if_pos w_55_1, b35]
        by_cases w_55_2 : w = 2
        · refine gi_tab (tgt := 94) dX10_scan_55 hw (by omega) (by omega) (by rw [w_55_2]; rfl) (by decide) ?_
          refine gg_aload_n dX10_scan_94 rfl rfl ?_
          refine gm_get127 rfl dX10_scan_95 (by (try simp only [uF_s, uF_n, ne_eq, not_false_eq_true, Nat.reduceEqDiff, reduceCtorEq]); rfl) ?_
          refine gi_if_eq (tgt := 105) dX10_scan_98 (by decide) ⟨by omega, by omega⟩ (fun c_98 => ?_) (fun c_98 => ?_)
          · refine gi_iconst dX10_scan_105 ?_
            subst hQF9
            refine gg_iret dX10_scan_106 rfl rfl ⟨(Nat.le_of_ble_eq_true rfl), (Nat.le_of_ble_eq_true rfl)⟩ ?_
            refine Or.inr (Or.inr ⟨by omega, by omega, F1, F2, A1, A2, rfl, (by first | exact o3 | (rw [uF_n (by decide)]; exact o3)), hfF, hfA, hL, Or.inr ⟨by omega, ?_, e0⟩⟩)
            rw [if_neg w_55_0, if_neg w_55_1, if_pos w_55_2, ← b38, c_98]
          · refine gi_iconst dX10_scan_101 ?_
            refine gg_goto (tgt := 106) dX10_scan_102 (by decide) ?_
            subst hQF9
            refine gg_iret dX10_scan_106 rfl rfl ⟨(Nat.le_of_ble_eq_true rfl), (Nat.le_of_ble_eq_true rfl)⟩ ?_
            refine Or.inr (Or.inr ⟨by omega, by omega, F1, F2, A1, A2, rfl, (by first | exact o3 | (rw [uF_n (by decide)]; exact o3)), hfF, hfA, hL, Or.inr ⟨by omega, ?_, e0⟩⟩)
            rw [if_neg w_55_0, if_neg w_55_1, if_pos w_55_2, ← b38, show F2 38 = 1 by omega]
        by_cases w_55_3 : w = 3
        · refine gi_tab (tgt := 107) dX10_scan_55 hw (by omega) (by omega) (by rw [w_55_3]; rfl) (by decide) ?_
          refine gg_aload_n dX10_scan_107 rfl rfl ?_
          refine gm_get121 rfl dX10_scan_108 (by (try simp only [uF_s, uF_n, ne_eq, not_false_eq_true, Nat.reduceEqDiff, reduceCtorEq]); rfl) ?_
          subst hQF9
          refine gg_iret dX10_scan_111 rfl rfl ⟨(Nat.le_of_ble_eq_true rfl), (Nat.le_of_ble_eq_true rfl)⟩ ?_
          refine Or.inr (Or.inr ⟨by omega, by omega, F1, F2, A1, A2, rfl, (by first | exact o3 | (rw [uF_n (by decide)]; exact o3)), hfF, hfA, hL, Or.inr ⟨by omega, ?_, e0⟩⟩)
          rw [if_neg w_55_0, if_neg w_55_1, if_neg w_55_2, if_pos w_55_3, b36]
        refine gi_tabD (tgt := 112) dX10_scan_55 hw (by omega) (by decide) ?_
        refine gg_aload_n dX10_scan_112 rfl rfl ?_
        refine gg_iload_n dX10_scan_113 rfl ?_
        refine gi_iconst dX10_scan_114 ?_
        refine gi_icmp_ne (tgt := 122) dX10_scan_115 (by decide) ⟨by omega, by omega⟩ ⟨by omega, by omega⟩ (fun c_115 => ?_) (fun c_115 => ?_)
        · refine gi_iconst dX10_scan_122 ?_
          refine gc_X10_306 rfl dX10_scan_123 ⟨(Nat.le_of_ble_eq_true rfl), (Nat.le_of_ble_eq_true rfl)⟩ ⟨(Nat.le_of_ble_eq_true rfl), (Nat.le_of_ble_eq_true rfl)⟩ (Nat.le_of_ble_eq_true rfl) (HAt.mu rfl) (c_X10_wrongOnes k9 f9 hL2 o2 o3 (by first | exact Or.inl rfl | exact Or.inr rfl)) (fun _ _ w => w.elim) (fun r_123 h_123 hp => ?_)
          obtain ⟨rfl, rfl⟩ := hp
          subst hQF9
          refine gg_iret dX10_scan_126 rfl rfl ⟨(Nat.le_of_ble_eq_true rfl), (Nat.le_of_ble_eq_true rfl)⟩ ?_
          have hag : agr (sA A2 (F2 35) (s0 A2) (F2 16).toNat) (sA A1 (F2 35) (s0 A1) (F1 16).toNat) := by
            rw [sA_cg h10 h11 h12, e16]; exact sA_agr (agr_0 _ _) _
          refine Or.inr (Or.inr ⟨by omega, by omega, F1, _, A1, _, rfl, (by first | exact o3 | (rw [uF_n (by decide)]; exact o3)), frF_u hfF (by decide), frA_u (frA_u (frA_u hfA (by decide)) (by decide)) (by decide), hL, Or.inr ⟨by omega, ?_, by rw [uF_n (by decide), e0]⟩⟩)
          rw [if_neg w_55_0, if_neg w_55_1, if_neg w_55_2, if_neg w_55_3, ← b35, ← b38, decide_eq_false (show ¬ w = 4 by omega), ← hag.1, e27, e28]
          congr 3
          exact wro_cg (fun p p0 p1 => (hag.2 p p0 (by omega)).1)
        · refine gi_iconst dX10_scan_118 ?_
          refine gg_goto (tgt := 123) dX10_scan_119 (by decide) ?_
          refine gc_X10_306 rfl dX10_scan_123 ⟨(Nat.le_of_ble_eq_true rfl), (Nat.le_of_ble_eq_true rfl)⟩ ⟨(Nat.le_of_ble_eq_true rfl), (Nat.le_of_ble_eq_true rfl)⟩ (Nat.le_of_ble_eq_true rfl) (HAt.mu rfl) (c_X10_wrongOnes k9 f9 hL2 o2 o3 (by first | exact Or.inl rfl | exact Or.inr rfl)) (fun _ _ w => w.elim) (fun r_123 h_123 hp => ?_)
          obtain ⟨rfl, rfl⟩ := hp
          subst hQF9
          refine gg_iret dX10_scan_126 rfl rfl ⟨(Nat.le_of_ble_eq_true rfl), (Nat.le_of_ble_eq_true rfl)⟩ ?_
          have hag : agr (sA A2 (F2 35) (s0 A2) (F2 16).toNat) (sA A1 (F2 35) (s0 A1) (F1 16).toNat) := by
            rw [sA_cg h10 h11 h12, e16]; exact sA_agr (agr_0 _ _) _
          refine Or.inr (Or.inr ⟨by omega, by omega, F1, _, A1, _, rfl, (by first | exact o3 | (rw [uF_n (by decide)]; exact o3)), frF_u hfF (by decide), frA_u (frA_u (frA_u hfA (by decide)) (by decide)) (by decide), hL, Or.inr ⟨by omega, ?_, by rw [uF_n (by decide), e0]⟩⟩)
          rw [if_neg w_55_0, if_neg w_55_1, if_neg w_55_2, if_neg w_55_3, ← b35, ← b38, decide_eq_true (show w = 4 by omega), ← hag.1, e27, e28]
          congr 3
          exact wro_cg (fun p p0 p1 => (hag.2 p p0 (by omega)).1)
      · refine gg_aload_n dX10_scan_48 rfl rfl ?_
        refine gi_iconst dX10_scan_49 ?_
        refine gc_X10_162 rfl dX10_scan_50 ⟨(Nat.le_of_ble_eq_true rfl), (Nat.le_of_ble_eq_true rfl)⟩ ⟨(Nat.le_of_ble_eq_true rfl), (Nat.le_of_ble_eq_true rfl)⟩ (Nat.le_of_ble_eq_true rfl) (HAt.mu rfl) (c_X10_fails) (fun _ _ w => w.elim) (fun r_50 h_50 hp => ?_)
        obtain ⟨rfl, rfl⟩ := hp
        subst hQF9
        refine gg_iret dX10_scan_53 rfl rfl ⟨(Nat.le_of_ble_eq_true rfl), (Nat.le_of_ble_eq_true rfl)⟩ ?_
        refine Or.inr (Or.inr ⟨by omega, by omega, F1, _, A1, A2, rfl, (by first | exact o3 | (rw [uF_n (by decide)]; exact o3)), frF_u hfF (by decide), hfA, hL, Or.inl ⟨by omega, rfl, uF_s⟩⟩)
    · rw [bi_f] at c_26
      rw [Bool.and_eq_false_iff, decide_eq_false_iff_not, decide_eq_false_iff_not] at c_26
      refine gg_aload_n dX10_scan_29 rfl rfl ?_
      refine gi_iconst dX10_scan_30 ?_
      refine gc_X10_162 rfl dX10_scan_31 ⟨(Nat.le_of_ble_eq_true rfl), (Nat.le_of_ble_eq_true rfl)⟩ ⟨(Nat.le_of_ble_eq_true rfl), (Nat.le_of_ble_eq_true rfl)⟩ (Nat.le_of_ble_eq_true rfl) (HAt.mu rfl) (c_X10_fails) (fun _ _ w => w.elim) (fun r_31 h_31 hp => ?_)
      obtain ⟨rfl, rfl⟩ := hp
      subst hQF9
      refine gg_iret dX10_scan_34 rfl rfl ⟨(Nat.le_of_ble_eq_true rfl), (Nat.le_of_ble_eq_true rfl)⟩ ?_
      exact Or.inr (Or.inl ⟨by omega, by omega, rfl, by rw [uF_ss]⟩)
  · rw [bi_f] at c_11
    simp at c_11
    refine gg_aload_n dX10_scan_14 rfl rfl ?_
    refine gi_iconst dX10_scan_15 ?_
    refine gc_X10_162 rfl dX10_scan_16 ⟨(Nat.le_of_ble_eq_true rfl), (Nat.le_of_ble_eq_true rfl)⟩ ⟨(Nat.le_of_ble_eq_true rfl), (Nat.le_of_ble_eq_true rfl)⟩ (Nat.le_of_ble_eq_true rfl) (HAt.mu rfl) (c_X10_fails) (fun _ _ w => w.elim) (fun r_16 h_16 hp => ?_)
    obtain ⟨rfl, rfl⟩ := hp
    subst hQF9
    refine gg_iret dX10_scan_19 rfl rfl ⟨(Nat.le_of_ble_eq_true rfl), (Nat.le_of_ble_eq_true rfl)⟩ ?_
    exact Or.inl ⟨by omega, rfl, by rw [uF_ss]⟩
set_option maxRecDepth 100000 in
set_option maxHeartbeats 4000000 in
theorem c3_X10_scans {Γ : GT} {h : XH} {F : Nat → Int} {A : Nat → Int → Int} (S : StA (A 1)) (N : LnA (A 1)) (E9 : ExA (A 1)) (h38 : F 38 = 0 ∨ F 38 = 1) {d l : Int} (hd : InR d) (hl : InR l) : Ct Γ M_X10_scans [.ref (g_L Γ 0), .int (iN d), .int (iN l)] (mst Γ h F A) (fun r h9 => (¬ (0 ≤ d ∧ d ≤ 3 ∧ 0 ≤ l ∧ l < A 1 (5 + d)) ∧ r = some (.int (iN 0)) ∧ h9 = mst Γ h (uF F 0 1) A) ∨ ((0 ≤ d ∧ d ≤ 3 ∧ 0 ≤ l ∧ l < A 1 (5 + d)) ∧ ∃ (F1 F2 : Nat → Int) (A1 A2 : Nat → Int → Int), h9 = mst Γ h F2 A2 ∧ (F2 38 = 0 ∨ F2 38 = 1) ∧ frF [0, 16, 24, 25, 27, 28, 29, 30, 34, 35, 36, 37, 38, 39, 40, 41, 42] F F2 ∧ frA [8, 9, 10, 11, 12, 13, 14, 15, 16, 17, 18, 19, 20, 21, 22] A A2 ∧ LD (A 1) d l F1 A1 ∧ r = some (.int (iN ((bst9 (A 1) F1 A1 (F 36) (F 38)).2.2.2.1))) ∧ F2 0 = 0)) (fun _ _ => False) := by
  refine Ct.of rfl (by decide +kernel) (Nat.le_of_ble_eq_true rfl) ?_
  generalize hQF9 : QM Γ _ _ _ = QF9
  obtain ⟨t0, t1, t2, t3, t4, t5, t6⟩ := id S
  refine gg_aload_n dX10_scans_0 rfl rfl ?_
  refine gi_iconst dX10_scans_1 ?_
  refine gm_put3 rfl dX10_scans_2 (by (try simp only [uF_ss, uF_cc, id_eq, Nat.reduceLT, reduceCtorEq]); rfl) ?_
  refine gg_aload_n dX10_scans_5 rfl rfl ?_
  refine gg_iload_n dX10_scans_6 rfl ?_
  refine gg_iload_n dX10_scans_7 rfl ?_
  refine gc_X10_234 rfl dX10_scans_8 ⟨(Nat.le_of_ble_eq_true rfl), (Nat.le_of_ble_eq_true rfl)⟩ ⟨(Nat.le_of_ble_eq_true rfl), (Nat.le_of_ble_eq_true rfl)⟩ (Nat.le_of_ble_eq_true rfl) (HAt.mu rfl) (c_X10_isLine (by exact S) (by assumption) (by assumption)) (fun _ _ w => w.elim) (fun r_8 h_8 hp => ?_)
  obtain ⟨rfl, rfl⟩ := hp
  refine gi_if_ne (tgt := 20) dX10_scans_11 (by decide) (bi_r _) (fun c_11 => ?_) (fun c_11 => ?_)
  · rw [bi_t] at c_11
    simp at c_11
    refine gg_aload_n dX10_scans_20 rfl rfl ?_
    refine gg_iload_n dX10_scans_21 rfl ?_
    refine gg_iload_n dX10_scans_22 rfl ?_
    refine gc_X10_303 rfl dX10_scans_23 ⟨(Nat.le_of_ble_eq_true rfl), (Nat.le_of_ble_eq_true rfl)⟩ ⟨(Nat.le_of_ble_eq_true rfl), (Nat.le_of_ble_eq_true rfl)⟩ (Nat.le_of_ble_eq_true rfl) (HAt.mu rfl) (c_X10_scansLine (F := uF F 0 0) S N E9 (by simp only [uF_s, uF_n, uF_ss, uF_cc, id_eq, ne_eq, not_false_eq_true, Nat.reduceEqDiff, Nat.reduceLT, reduceCtorEq]; exact h38) ⟨by omega, by omega⟩ ⟨by omega, by omega⟩) (fun _ _ w => w.elim) (fun r_23 h_23 hp => ?_)
    obtain ⟨F1, F2, A1, A2, rfl, rfl, hL, hF, hA, hA2, e16, e27, e28, e29, okb, hb⟩ := hp
    simp only [uF_s, uF_n, uF_ss, uF_cc, id_eq, ne_eq, not_false_eq_true, Nat.reduceEqDiff, Nat.reduceLT, reduceCtorEq] at hb
    obtain ⟨b34, b35, b36, b37, b38⟩ := bof_c hb
    obtain ⟨o1, o2, o3⟩ := id okb
    dsimp only [bof] at o1 o2 o3
    have g1 : A1 1 = A 1 := hA 1 (by decide)
    have e0 : F2 0 = 0 := by rw [hF 0 (by decide), uF_s]
    have h1 : A2 1 = A1 1 := hA2 1 (by decide)
    have h10 : A2 10 = A1 10 := hA2 10 (by decide)
    have h11 : A2 11 = A1 11 := hA2 11 (by decide)
    have h12 : A2 12 = A1 12 := hA2 12 (by decide)
    have h13 : A2 13 = A1 13 := hA2 13 (by decide)
    have h14 : A2 14 = A1 14 := hA2 14 (by decide)
    have hL2 : LW F2 A2 := LW_fr e16 h10 h12 h13 h14 h11 hL.1
    have k9 : 0 ≤ F2 27 ∧ F2 27 ≤ 3 := by rw [e27]; exact t0
    have f9 : 2 ≤ F2 28 ∧ F2 28 ≤ 6 := by rw [e28]; exact t1
    have hfF := frF_z hF (by decide)
    have hfA := frA_t hA hA2 (by decide) (by decide)
    refine gg_aload_n dX10_scans_26 rfl rfl ?_
    refine gm_get124 rfl dX10_scans_27 (by (try simp only [uF_s, uF_n, ne_eq, not_false_eq_true, Nat.reduceEqDiff, reduceCtorEq]); rfl) ?_
    subst hQF9
    refine gg_iret dX10_scans_30 rfl rfl ⟨(Nat.le_of_ble_eq_true rfl), (Nat.le_of_ble_eq_true rfl)⟩ ?_
    refine Or.inr ⟨by omega, F1, F2, A1, A2, rfl, o3, hfF, hfA, hL, by rw [b37], e0⟩
  · rw [bi_f] at c_11
    simp at c_11
    refine gg_aload_n dX10_scans_14 rfl rfl ?_
    refine gi_iconst dX10_scans_15 ?_
    refine gc_X10_162 rfl dX10_scans_16 ⟨(Nat.le_of_ble_eq_true rfl), (Nat.le_of_ble_eq_true rfl)⟩ ⟨(Nat.le_of_ble_eq_true rfl), (Nat.le_of_ble_eq_true rfl)⟩ (Nat.le_of_ble_eq_true rfl) (HAt.mu rfl) (c_X10_fails) (fun _ _ w => w.elim) (fun r_16 h_16 hp => ?_)
    obtain ⟨rfl, rfl⟩ := hp
    subst hQF9
    refine gg_iret dX10_scans_19 rfl rfl ⟨(Nat.le_of_ble_eq_true rfl), (Nat.le_of_ble_eq_true rfl)⟩ ?_
    exact Or.inl ⟨by omega, rfl, by rw [uF_ss]⟩
set_option maxRecDepth 100000 in
set_option maxHeartbeats 4000000 in
theorem c3_X10_reason {Γ : GT} {h : XH} {F : Nat → Int} {A : Nat → Int → Int} (S : StA (A 1)) (N : LnA (A 1)) (E9 : ExA (A 1)) (h38 : F 38 = 0 ∨ F 38 = 1) {d l : Int} (hd : InR d) (hl : InR l) : Ct Γ M_X10_reason [.ref (g_L Γ 0), .int (iN d), .int (iN l)] (mst Γ h F A) (fun r h9 => (¬ (0 ≤ d ∧ d ≤ 3 ∧ 0 ≤ l ∧ l < A 1 (5 + d)) ∧ r = some (.int (iN 0)) ∧ h9 = mst Γ h (uF F 0 1) A) ∨ ((0 ≤ d ∧ d ≤ 3 ∧ 0 ≤ l ∧ l < A 1 (5 + d)) ∧ ∃ (F1 F2 : Nat → Int) (A1 A2 : Nat → Int → Int), h9 = mst Γ h F2 A2 ∧ (F2 38 = 0 ∨ F2 38 = 1) ∧ frF [0, 16, 24, 25, 27, 28, 29, 30, 34, 35, 36, 37, 38, 39, 40, 41, 42] F F2 ∧ frA [8, 9, 10, 11, 12, 13, 14, 15, 16, 17, 18, 19, 20, 21, 22] A A2 ∧ LD (A 1) d l F1 A1 ∧ r = some (.int (iN (rsn (A 1) F1 A1 ((bst9 (A 1) F1 A1 (F 36) (F 38)).1)))) ∧ F2 0 = 0)) (fun _ _ => False) := by
  refine Ct.of rfl (by decide +kernel) (Nat.le_of_ble_eq_true rfl) ?_
  generalize hQF9 : QM Γ _ _ _ = QF9
  obtain ⟨t0, t1, t2, t3, t4, t5, t6⟩ := id S
  refine gg_aload_n dX10_reason_0 rfl rfl ?_
  refine gi_iconst dX10_reason_1 ?_
  refine gm_put3 rfl dX10_reason_2 (by (try simp only [uF_ss, uF_cc, id_eq, Nat.reduceLT, reduceCtorEq]); rfl) ?_
  refine gg_aload_n dX10_reason_5 rfl rfl ?_
  refine gg_iload_n dX10_reason_6 rfl ?_
  refine gg_iload_n dX10_reason_7 rfl ?_
  refine gc_X10_234 rfl dX10_reason_8 ⟨(Nat.le_of_ble_eq_true rfl), (Nat.le_of_ble_eq_true rfl)⟩ ⟨(Nat.le_of_ble_eq_true rfl), (Nat.le_of_ble_eq_true rfl)⟩ (Nat.le_of_ble_eq_true rfl) (HAt.mu rfl) (c_X10_isLine (by exact S) (by assumption) (by assumption)) (fun _ _ w => w.elim) (fun r_8 h_8 hp => ?_)
  obtain ⟨rfl, rfl⟩ := hp
  refine gi_if_ne (tgt := 20) dX10_reason_11 (by decide) (bi_r _) (fun c_11 => ?_) (fun c_11 => ?_)
  · rw [bi_t] at c_11
    simp at c_11
    refine gg_aload_n dX10_reason_20 rfl rfl ?_
    refine gg_iload_n dX10_reason_21 rfl ?_
    refine gg_iload_n dX10_reason_22 rfl ?_
    refine gc_X10_303 rfl dX10_reason_23 ⟨(Nat.le_of_ble_eq_true rfl), (Nat.le_of_ble_eq_true rfl)⟩ ⟨(Nat.le_of_ble_eq_true rfl), (Nat.le_of_ble_eq_true rfl)⟩ (Nat.le_of_ble_eq_true rfl) (HAt.mu rfl) (c_X10_scansLine (F := uF F 0 0) S N E9 (by simp only [uF_s, uF_n, uF_ss, uF_cc, id_eq, ne_eq, not_false_eq_true, Nat.reduceEqDiff, Nat.reduceLT, reduceCtorEq]; exact h38) ⟨by omega, by omega⟩ ⟨by omega, by omega⟩) (fun _ _ w => w.elim) (fun r_23 h_23 hp => ?_)
    obtain ⟨F1, F2, A1, A2, rfl, rfl, hL, hF, hA, hA2, e16, e27, e28, e29, okb, hb⟩ := hp
    simp only [uF_s, uF_n, uF_ss, uF_cc, id_eq, ne_eq, not_false_eq_true, Nat.reduceEqDiff, Nat.reduceLT, reduceCtorEq] at hb
    obtain ⟨b34, b35, b36, b37, b38⟩ := bof_c hb
    obtain ⟨o1, o2, o3⟩ := id okb
    dsimp only [bof] at o1 o2 o3
    have g1 : A1 1 = A 1 := hA 1 (by decide)
    have e0 : F2 0 = 0 := by rw [hF 0 (by decide), uF_s]
    have h1 : A2 1 = A1 1 := hA2 1 (by decide)
    have h10 : A2 10 = A1 10 := hA2 10 (by decide)
    have h11 : A2 11 = A1 11 := hA2 11 (by decide)
    have h12 : A2 12 = A1 12 := hA2 12 (by decide)
    have h13 : A2 13 = A1 13 := hA2 13 (by decide)
    have h14 : A2 14 = A1 14 := hA2 14 (by decide)
    have hL2 : LW F2 A2 := LW_fr e16 h10 h12 h13 h14 h11 hL.1
    have k9 : 0 ≤ F2 27 ∧ F2 27 ≤ 3 := by rw [e27]; exact t0
    have f9 : 2 ≤ F2 28 ∧ F2 28 ≤ 6 := by rw [e28]; exact t1
    have hfF := frF_z hF (by decide)
    have hfA := frA_t hA hA2 (by decide) (by decide)
    refine gg_aload_n dX10_reason_26 rfl rfl ?_
    refine gm_get115 rfl dX10_reason_27 (by (try simp only [uF_s, uF_n, ne_eq, not_false_eq_true, Nat.reduceEqDiff, reduceCtorEq]); rfl) ?_
    refine gi_if_lt (tgt := 52) dX10_reason_30 (by decide) ⟨by omega, by omega⟩ (fun c_30 => ?_) (fun c_30 => ?_)
    · refine gg_aload_n dX10_reason_52 rfl rfl ?_
      refine gc_X10_310 rfl dX10_reason_53 ⟨(Nat.le_of_ble_eq_true rfl), (Nat.le_of_ble_eq_true rfl)⟩ ⟨(Nat.le_of_ble_eq_true rfl), (Nat.le_of_ble_eq_true rfl)⟩ (Nat.le_of_ble_eq_true rfl) (HAt.mu rfl) (c_X10_allSyllables hL2) (fun _ _ w => w.elim) (fun r_53 h_53 hp => ?_)
      obtain ⟨rfl, rfl⟩ := hp
      rw [ally_fr h10, e16]
      have hal := ally_r hL.1 (F1 16).toNat (by have := hL.1.1; omega)
      have h16 := hL.1.1
      refine gg_istore_n dX10_reason_56 (Nat.le_of_ble_eq_true rfl) rfl ?_
      refine gg_iload_n dX10_reason_57 rfl ?_
      refine gg_aload_n dX10_reason_58 rfl rfl ?_
      refine gc_X10_277 rfl dX10_reason_59 ⟨(Nat.le_of_ble_eq_true rfl), (Nat.le_of_ble_eq_true rfl)⟩ ⟨(Nat.le_of_ble_eq_true rfl), (Nat.le_of_ble_eq_true rfl)⟩ (Nat.le_of_ble_eq_true rfl) (HAt.mu rfl) (c_X10_positions k9 f9) (fun _ _ w => w.elim) (fun r_59 h_59 hp => ?_)
      obtain ⟨rfl, rfl⟩ := hp
      rw [e27, e28]
      have hps : 4 ≤ A 1 1 * szk (A 1 0) ∧ A 1 1 * szk (A 1 0) ≤ 18 := by rcases szk_r (A 1 0) with q | q <;> rw [q] <;> omega
      refine gg_aload_n dX10_reason_62 rfl rfl ?_
      refine gg_aload_n dX10_reason_63 rfl rfl ?_
      refine gc_X10_277 rfl dX10_reason_64 ⟨(Nat.le_of_ble_eq_true rfl), (Nat.le_of_ble_eq_true rfl)⟩ ⟨(Nat.le_of_ble_eq_true rfl), (Nat.le_of_ble_eq_true rfl)⟩ (Nat.le_of_ble_eq_true rfl) (HAt.mu rfl) (c_X10_positions k9 f9) (fun _ _ w => w.elim) (fun r_64 h_64 hp => ?_)
      obtain ⟨rfl, rfl⟩ := hp
      rw [e27, e28]
      have hps : 4 ≤ A 1 1 * szk (A 1 0) ∧ A 1 1 * szk (A 1 0) ≤ 18 := by rcases szk_r (A 1 0) with q | q <;> rw [q] <;> omega
      refine gi_iconst dX10_reason_67 ?_
      refine gi_isub dX10_reason_68 ?_
      refine gi_iconst dX10_reason_69 ?_
      refine gc_X10_273 rfl dX10_reason_70 ⟨(Nat.le_of_ble_eq_true rfl), (Nat.le_of_ble_eq_true rfl)⟩ ⟨(Nat.le_of_ble_eq_true rfl), (Nat.le_of_ble_eq_true rfl)⟩ (Nat.le_of_ble_eq_true rfl) (HAt.mu rfl) (c_X10_isStrong k9 f9 ⟨by omega, by omega⟩ (Or.inl rfl)) (fun _ _ w => w.elim) (fun r_70 h_70 hp => ?_)
      obtain ⟨rfl, rfl⟩ := hp
      rw [e27]
      refine gi_if_eq (tgt := 80) dX10_reason_73 (by decide) (bi_r _) (fun c_73 => ?_) (fun c_73 => ?_)
      · rw [bi_f] at c_73
        refine gi_iconst dX10_reason_80 ?_
        refine gi_isub dX10_reason_81 ?_
        refine gi_icmp_ge (tgt := 87) dX10_reason_82 (by decide) ⟨by omega, by omega⟩ ⟨by omega, by omega⟩ (fun c_82 => ?_) (fun c_82 => ?_)
        · refine gg_iload_n dX10_reason_87 rfl ?_
          refine gg_aload_n dX10_reason_88 rfl rfl ?_
          refine gc_X10_313 rfl dX10_reason_89 ⟨(Nat.le_of_ble_eq_true rfl), (Nat.le_of_ble_eq_true rfl)⟩ ⟨(Nat.le_of_ble_eq_true rfl), (Nat.le_of_ble_eq_true rfl)⟩ (Nat.le_of_ble_eq_true rfl) (HAt.mu rfl) (c_X10_mostElisions hL2) (fun _ _ w => w.elim) (fun r_89 h_89 hp => ?_)
          obtain ⟨rfl, rfl⟩ := hp
          rw [mst_fr (F := F1) (A := A1) e16 h10 h12 h13 h14]
          have hme := mst_r F1 A1
          refine gi_isub dX10_reason_92 ?_
          refine gg_aload_n dX10_reason_93 rfl rfl ?_
          refine gc_X10_277 rfl dX10_reason_94 ⟨(Nat.le_of_ble_eq_true rfl), (Nat.le_of_ble_eq_true rfl)⟩ ⟨(Nat.le_of_ble_eq_true rfl), (Nat.le_of_ble_eq_true rfl)⟩ (Nat.le_of_ble_eq_true rfl) (HAt.mu rfl) (c_X10_positions k9 f9) (fun _ _ w => w.elim) (fun r_94 h_94 hp => ?_)
          obtain ⟨rfl, rfl⟩ := hp
          rw [e27, e28]
          have hps : 4 ≤ A 1 1 * szk (A 1 0) ∧ A 1 1 * szk (A 1 0) ≤ 18 := by rcases szk_r (A 1 0) with q | q <;> rw [q] <;> omega
          refine gi_iconst dX10_reason_97 ?_
          refine gi_iadd dX10_reason_98 ?_
          refine gi_icmp_le (tgt := 106) dX10_reason_99 (by decide) ⟨by omega, by omega⟩ ⟨by omega, by omega⟩ (fun c_99 => ?_) (fun c_99 => ?_)
          · refine gi_iconst dX10_reason_106 ?_
            subst hQF9
            refine gg_iret dX10_reason_107 rfl rfl ⟨(Nat.le_of_ble_eq_true rfl), (Nat.le_of_ble_eq_true rfl)⟩ ?_
            refine Or.inr ⟨by omega, F1, F2, A1, A2, rfl, o3, hfF, hfA, hL, ?_, e0⟩
            rw [rsn, if_neg (by omega), if_neg (by first | (rw [c_73, if_pos rfl]; omega) | (rw [c_73, if_neg (by decide)]; omega)), if_neg (by omega)]
          · refine gi_iconst dX10_reason_102 ?_
            refine gg_goto (tgt := 107) dX10_reason_103 (by decide) ?_
            subst hQF9
            refine gg_iret dX10_reason_107 rfl rfl ⟨(Nat.le_of_ble_eq_true rfl), (Nat.le_of_ble_eq_true rfl)⟩ ?_
            refine Or.inr ⟨by omega, F1, F2, A1, A2, rfl, o3, hfF, hfA, hL, ?_, e0⟩
            rw [rsn, if_neg (by omega), if_neg (by first | (rw [c_73, if_pos rfl]; omega) | (rw [c_73, if_neg (by decide)]; omega)), if_pos (by omega)]
        · refine gi_iconst dX10_reason_85 ?_
          subst hQF9
          refine gg_iret dX10_reason_86 rfl rfl ⟨(Nat.le_of_ble_eq_true rfl), (Nat.le_of_ble_eq_true rfl)⟩ ?_
          refine Or.inr ⟨by omega, F1, F2, A1, A2, rfl, o3, hfF, hfA, hL, ?_, e0⟩
          rw [rsn, if_neg (by omega), if_pos (by first | (rw [c_73, if_pos rfl]; omega) | (rw [c_73, if_neg (by decide)]; omega))]
      · rw [bi_t] at c_73
        refine gi_iconst dX10_reason_76 ?_
        refine gg_goto (tgt := 81) dX10_reason_77 (by decide) ?_
        refine gi_isub dX10_reason_81 ?_
        refine gi_icmp_ge (tgt := 87) dX10_reason_82 (by decide) ⟨by omega, by omega⟩ ⟨by omega, by omega⟩ (fun c_82 => ?_) (fun c_82 => ?_)
        · refine gg_iload_n dX10_reason_87 rfl ?_
          refine gg_aload_n dX10_reason_88 rfl rfl ?_
          refine gc_X10_313 rfl dX10_reason_89 ⟨(Nat.le_of_ble_eq_true rfl), (Nat.le_of_ble_eq_true rfl)⟩ ⟨(Nat.le_of_ble_eq_true rfl), (Nat.le_of_ble_eq_true rfl)⟩ (Nat.le_of_ble_eq_true rfl) (HAt.mu rfl) (c_X10_mostElisions hL2) (fun _ _ w => w.elim) (fun r_89 h_89 hp => ?_)
          obtain ⟨rfl, rfl⟩ := hp
          rw [mst_fr (F := F1) (A := A1) e16 h10 h12 h13 h14]
          have hme := mst_r F1 A1
          refine gi_isub dX10_reason_92 ?_
          refine gg_aload_n dX10_reason_93 rfl rfl ?_
          refine gc_X10_277 rfl dX10_reason_94 ⟨(Nat.le_of_ble_eq_true rfl), (Nat.le_of_ble_eq_true rfl)⟩ ⟨(Nat.le_of_ble_eq_true rfl), (Nat.le_of_ble_eq_true rfl)⟩ (Nat.le_of_ble_eq_true rfl) (HAt.mu rfl) (c_X10_positions k9 f9) (fun _ _ w => w.elim) (fun r_94 h_94 hp => ?_)
          obtain ⟨rfl, rfl⟩ := hp
          rw [e27, e28]
          have hps : 4 ≤ A 1 1 * szk (A 1 0) ∧ A 1 1 * szk (A 1 0) ≤ 18 := by rcases szk_r (A 1 0) with q | q <;> rw [q] <;> omega
          refine gi_iconst dX10_reason_97 ?_
          refine gi_iadd dX10_reason_98 ?_
          refine gi_icmp_le (tgt := 106) dX10_reason_99 (by decide) ⟨by omega, by omega⟩ ⟨by omega, by omega⟩ (fun c_99 => ?_) (fun c_99 => ?_)
          · refine gi_iconst dX10_reason_106 ?_
            subst hQF9
            refine gg_iret dX10_reason_107 rfl rfl ⟨(Nat.le_of_ble_eq_true rfl), (Nat.le_of_ble_eq_true rfl)⟩ ?_
            refine Or.inr ⟨by omega, F1, F2, A1, A2, rfl, o3, hfF, hfA, hL, ?_, e0⟩
            rw [rsn, if_neg (by omega), if_neg (by first | (rw [c_73, if_pos rfl]; omega) | (rw [c_73, if_neg (by decide)]; omega)), if_neg (by omega)]
          · refine gi_iconst dX10_reason_102 ?_
            refine gg_goto (tgt := 107) dX10_reason_103 (by decide) ?_
            subst hQF9
            refine gg_iret dX10_reason_107 rfl rfl ⟨(Nat.le_of_ble_eq_true rfl), (Nat.le_of_ble_eq_true rfl)⟩ ?_
            refine Or.inr ⟨by omega, F1, F2, A1, A2, rfl, o3, hfF, hfA, hL, ?_, e0⟩
            rw [rsn, if_neg (by omega), if_neg (by first | (rw [c_73, if_pos rfl]; omega) | (rw [c_73, if_neg (by decide)]; omega)), if_pos (by omega)]
        · refine gi_iconst dX10_reason_85 ?_
          subst hQF9
          refine gg_iret dX10_reason_86 rfl rfl ⟨(Nat.le_of_ble_eq_true rfl), (Nat.le_of_ble_eq_true rfl)⟩ ?_
          refine Or.inr ⟨by omega, F1, F2, A1, A2, rfl, o3, hfF, hfA, hL, ?_, e0⟩
          rw [rsn, if_neg (by omega), if_pos (by first | (rw [c_73, if_pos rfl]; omega) | (rw [c_73, if_neg (by decide)]; omega))]
    · refine gg_aload_n dX10_reason_33 rfl rfl ?_
      refine gm_get115 rfl dX10_reason_34 (by (try simp only [uF_s, uF_n, ne_eq, not_false_eq_true, Nat.reduceEqDiff, reduceCtorEq]); rfl) ?_
      refine gg_aload_n dX10_reason_37 rfl rfl ?_
      refine gm_get13 rfl dX10_reason_38 ?_
      refine gi_iconst dX10_reason_41 ?_
      refine gm_iald dX10_reason_42 (by decide) rfl (by decide) ⟨by omega, by simp only [ml9]; omega⟩ (by rw [h1, g1]) ?_
      refine gi_icmp_gt (tgt := 50) dX10_reason_43 (by decide) ⟨by omega, by omega⟩ ⟨by omega, by omega⟩ (fun c_43 => ?_) (fun c_43 => ?_)
      · refine gi_iconst dX10_reason_50 ?_
        subst hQF9
        refine gg_iret dX10_reason_51 rfl rfl ⟨(Nat.le_of_ble_eq_true rfl), (Nat.le_of_ble_eq_true rfl)⟩ ?_
        refine Or.inr ⟨by omega, F1, F2, A1, A2, rfl, o3, hfF, hfA, hL, ?_, e0⟩
        rw [rsn, if_pos (by omega), if_neg (by omega)]
      · refine gi_iconst dX10_reason_46 ?_
        refine gg_goto (tgt := 51) dX10_reason_47 (by decide) ?_
        subst hQF9
        refine gg_iret dX10_reason_51 rfl rfl ⟨(Nat.le_of_ble_eq_true rfl), (Nat.le_of_ble_eq_true rfl)⟩ ?_
        refine Or.inr ⟨by omega, F1, F2, A1, A2, rfl, o3, hfF, hfA, hL, ?_, e0⟩
        rw [rsn, if_pos (by omega), if_pos (by omega)]
  · rw [bi_f] at c_11
    simp at c_11
    refine gg_aload_n dX10_reason_14 rfl rfl ?_
    refine gi_iconst dX10_reason_15 ?_
    refine gc_X10_162 rfl dX10_reason_16 ⟨(Nat.le_of_ble_eq_true rfl), (Nat.le_of_ble_eq_true rfl)⟩ ⟨(Nat.le_of_ble_eq_true rfl), (Nat.le_of_ble_eq_true rfl)⟩ (Nat.le_of_ble_eq_true rfl) (HAt.mu rfl) (c_X10_fails) (fun _ _ w => w.elim) (fun r_16 h_16 hp => ?_)
    obtain ⟨rfl, rfl⟩ := hp
    subst hQF9
    refine gg_iret dX10_reason_19 rfl rfl ⟨(Nat.le_of_ble_eq_true rfl), (Nat.le_of_ble_eq_true rfl)⟩ ?_
    exact Or.inl ⟨by omega, rfl, by rw [uF_ss]⟩
set_option maxRecDepth 100000 in
set_option maxHeartbeats 4000000 in
theorem c3_X10_suits {Γ : GT} {h : XH} {F : Nat → Int} {A : Nat → Int → Int} (S : StA (A 1)) (N : LnA (A 1)) (E9 : ExA (A 1)) (h38 : F 38 = 0 ∨ F 38 = 1) {d : Int} (hd : InR d) : Ct Γ M_X10_suits [.ref (g_L Γ 0), .int (iN d)] (mst Γ h F A) (fun r h9 => (¬ (0 ≤ d ∧ d ≤ 3) ∧ r = some (.int (iN (0))) ∧ h9 = mst Γ h (uF F 0 1) A) ∨ ((0 ≤ d ∧ d ≤ 3) ∧ ∃ (F2 : Nat → Int) (A2 : Nat → Int → Int), h9 = mst Γ h F2 A2 ∧ (F2 38 = 0 ∨ F2 38 = 1) ∧ frF [0, 16, 24, 25, 27, 28, 29, 30, 34, 35, 36, 37, 38, 39, 40, 41, 42] F F2 ∧ frA [8, 9, 10, 11, 12, 13, 14, 15, 16, 17, 18, 19, 20, 21, 22] A A2 ∧ (((suK (A 1) d 4).1 = 0 ∧ r = some (.int (iN (0))) ∧ F2 0 = 2) ∨ (0 < (suK (A 1) d 4).1 ∧ r = some (.int (iN ((suK (A 1) d 4).2.2))) ∧ F2 0 = 0)))) (fun _ _ => False) := by
  refine Ct.of rfl (by decide +kernel) (Nat.le_of_ble_eq_true rfl) ?_
  generalize hQF9 : QM Γ _ _ _ = QF9
  obtain ⟨t0, t1, t2, t3, t4, t5, t6⟩ := id S
  refine gg_aload_n dX10_suits_0 rfl rfl ?_
  refine gi_iconst dX10_suits_1 ?_
  refine gm_put3 rfl dX10_suits_2 (by (try simp only [uF_ss, uF_cc, id_eq, Nat.reduceLT, reduceCtorEq]); rfl) ?_
  refine gg_iload_n dX10_suits_5 rfl ?_
  refine gc_X10_218 rfl dX10_suits_6 ⟨(Nat.le_of_ble_eq_true rfl), (Nat.le_of_ble_eq_true rfl)⟩ ⟨(Nat.le_of_ble_eq_true rfl), (Nat.le_of_ble_eq_true rfl)⟩ (Nat.le_of_ble_eq_true rfl) (c_X10_isDraft (by assumption)) (fun _ _ w => w.elim) (fun r_6 h_6 hp => ?_)
  obtain ⟨rfl, rfl⟩ := hp
  refine gi_if_ne (tgt := 18) dX10_suits_9 (by decide) (bi_r _) (fun c_9 => ?_) (fun c_9 => ?_)
  · rw [bi_t] at c_9
    simp at c_9
    have hn9 := t5 d (by omega) (by omega)
    refine gi_iconst dX10_suits_18 ?_
    refine gg_istore_n dX10_suits_19 (Nat.le_of_ble_eq_true rfl) rfl ?_
    refine gi_iconst dX10_suits_20 ?_
    refine gg_istore_n dX10_suits_21 (Nat.le_of_ble_eq_true rfl) rfl ?_
    refine gi_iconst dX10_suits_22 ?_
    refine gg_istore dX10_suits_23 (Nat.le_of_ble_eq_true rfl) rfl ?_
    refine gi_iconst dX10_suits_25 ?_
    refine gg_istore dX10_suits_26 (Nat.le_of_ble_eq_true rfl) rfl ?_
    have L_28 : ∀ (n9 : Nat) (k : Int) (F1 : Nat → Int) (A1 : Nat → Int → Int) (s9 : Int × Int × Int), ((4 - k).toNat) = n9 → ∀ (hk : 0 ≤ k ∧ k ≤ 4) (hF : frF [16, 24, 25, 27, 28, 29, 30, 34, 35, 36, 37, 38] (uF F 0 0) F1) (hA : frA [8, 9, 10, 11, 12, 13, 14, 15, 16, 17, 18] A A1) (x38a : F1 38 = 0 ∨ F1 38 = 1) (hs : suK (A 1) d k.toNat = s9), GG Γ M_X10_suits QF9 (0, 0) (mst Γ h F1 A1) 28 [some (.ref (g_L Γ 0)), some (.int (iN d)), some (.int (iN s9.2.2)), some (.int (iN s9.1)), some (.int (iN s9.2.1)), some (.int (iN k)), none, none, none, none] [] := by
      intro n9
      induction n9 using Nat.strongRecOn with
      | ind n9 ih_28 => 
        intro k F1 A1 s9 hm9 hk hF hA x38a hs
        have so := suK_O N (d := d) ⟨by omega, by omega⟩ hn9 k.toNat
        rw [hs] at so
        obtain ⟨so1, so2⟩ := id so
        refine gg_iload dX10_suits_28 rfl ?_
        refine gi_iconst dX10_suits_30 ?_
        refine gi_icmp_ge (tgt := 182) dX10_suits_31 (by decide) ⟨by omega, by omega⟩ ⟨by omega, by omega⟩ (fun c_31 => ?_) (fun c_31 => ?_)
        · refine gg_iload_n dX10_suits_182 rfl ?_
          refine gi_if_ne (tgt := 194) dX10_suits_183 (by decide) ⟨by omega, by omega⟩ (fun c_183 => ?_) (fun c_183 => ?_)
          · refine gg_iload_n dX10_suits_194 rfl ?_
            subst hQF9
            refine gg_iret dX10_suits_195 rfl rfl ⟨(Nat.le_of_ble_eq_true rfl), (Nat.le_of_ble_eq_true rfl)⟩ ?_
            rw [show k.toNat = 4 by omega] at hs
            rw [hs]
            exact Or.inr ⟨by omega, F1, A1, rfl, (by first | exact x38a | (rw [uF_n (by decide)]; exact x38a)), frF_z hF (by decide), frA_w hA (by decide), Or.inr ⟨by have := so.1; omega, rfl, by rw [hF 0 (by decide), uF_s]⟩⟩
          · refine gg_aload_n dX10_suits_186 rfl rfl ?_
            refine gi_iconst dX10_suits_187 ?_
            refine gc_X10_162 rfl dX10_suits_188 ⟨(Nat.le_of_ble_eq_true rfl), (Nat.le_of_ble_eq_true rfl)⟩ ⟨(Nat.le_of_ble_eq_true rfl), (Nat.le_of_ble_eq_true rfl)⟩ (Nat.le_of_ble_eq_true rfl) (HAt.mu rfl) (c_X10_fails) (fun _ _ w => w.elim) (fun r_188 h_188 hp => ?_)
            obtain ⟨rfl, rfl⟩ := hp
            refine gg_goto (tgt := 195) dX10_suits_191 (by decide) ?_
            subst hQF9
            refine gg_iret dX10_suits_195 rfl rfl ⟨(Nat.le_of_ble_eq_true rfl), (Nat.le_of_ble_eq_true rfl)⟩ ?_
            rw [show k.toNat = 4 by omega] at hs
            rw [hs]
            exact Or.inr ⟨by omega, uF F1 0 2, A1, rfl, (by first | exact x38a | (rw [uF_n (by decide)]; exact x38a)), frF_u (frF_z hF (by decide)) (by decide), frA_w hA (by decide), Or.inl ⟨by omega, rfl, uF_s⟩⟩
        · refine gi_iconst dX10_suits_34 ?_
          refine gg_istore dX10_suits_35 (Nat.le_of_ble_eq_true rfl) rfl ?_
          have L_37 : ∀ (n9 : Nat) (f : Int) (F2 : Nat → Int) (A2 : Nat → Int → Int) (t9 : Int × Int × Int), ((7 - f).toNat) = n9 → ∀ (hf : 2 ≤ f ∧ f ≤ 7) (hF2 : frF [16, 24, 25, 27, 28, 29, 30, 34, 35, 36, 37, 38] (uF F 0 0) F2) (hA2 : frA [8, 9, 10, 11, 12, 13, 14, 15, 16, 17, 18] A A2) (x38b : F2 38 = 0 ∨ F2 38 = 1) (ht : suF (A 1) d k s9 (f - 2).toNat = t9), GG Γ M_X10_suits QF9 (0, 0) (mst Γ h F2 A2) 37 [some (.ref (g_L Γ 0)), some (.int (iN d)), some (.int (iN t9.2.2)), some (.int (iN t9.1)), some (.int (iN t9.2.1)), some (.int (iN k)), some (.int (iN f)), none, none, none] [] := by
            intro n9
            induction n9 using Nat.strongRecOn with
            | ind n9 ih_37 => 
              intro f F2 A2 t9 hm9 hf hF2 hA2 x38b ht
              have to := suF_O N (d := d) (k := k) ⟨by omega, by omega⟩ hn9 so (f - 2).toNat (by omega)
              rw [ht] at to
              obtain ⟨to1, to2⟩ := to
              refine gg_iload dX10_suits_37 rfl ?_
              refine gi_bipush dX10_suits_39 (by decide) ?_
              refine gi_icmp_gt (tgt := 176) dX10_suits_41 (by decide) ⟨by omega, by omega⟩ ⟨by omega, by omega⟩ (fun c_41 => ?_) (fun c_41 => ?_)
              · refine gi_iinc dX10_suits_176 rfl (Nat.le_of_ble_eq_true rfl) rfl ?_
                refine gg_goto (tgt := 28) dX10_suits_179 (by decide) ?_
                refine gg_drop 6 ?_
                refine gg_drop 7 ?_
                refine gg_drop 8 ?_
                refine gg_drop 9 ?_
                exact ih_28 _ (by omega) (k + 1) F2 A2 t9 rfl (by omega) hF2 hA2 x38b (by rw [show (k + 1).toNat = k.toNat + 1 by omega, suK, hs, Int.toNat_of_nonneg hk.1, ← ht, show (f - 2).toNat = 5 by omega])
              · refine gi_iconst dX10_suits_44 ?_
                refine gg_istore dX10_suits_45 (Nat.le_of_ble_eq_true rfl) rfl ?_
                refine gi_iconst dX10_suits_47 ?_
                refine gg_istore dX10_suits_48 (Nat.le_of_ble_eq_true rfl) rfl ?_
                refine gi_iconst dX10_suits_50 ?_
                refine gg_istore dX10_suits_51 (Nat.le_of_ble_eq_true rfl) rfl ?_
                have L_53 : ∀ (n9 : Nat) (l : Int) (F3 : Nat → Int) (A3 : Nat → Int → Int) (v9 : Int × Int), ((A 1 (5 + d) - l).toNat) = n9 → ∀ (hl : 0 ≤ l ∧ l ≤ A 1 (5 + d)) (hF3 : frF [16, 24, 25, 27, 28, 29, 30, 34, 35, 36, 37, 38] (uF F 0 0) F3) (hA3 : frA [8, 9, 10, 11, 12, 13, 14, 15, 16, 17, 18] A A3) (x38c : F3 38 = 0 ∨ F3 38 = 1) (hv : suL (A 1) d k f l.toNat = v9), GG Γ M_X10_suits QF9 (0, 0) (mst Γ h F3 A3) 53 [some (.ref (g_L Γ 0)), some (.int (iN d)), some (.int (iN t9.2.2)), some (.int (iN t9.1)), some (.int (iN t9.2.1)), some (.int (iN k)), some (.int (iN f)), some (.int (iN v9.1)), some (.int (iN v9.2)), some (.int (iN l))] [] := by
                  intro n9
                  induction n9 using Nat.strongRecOn with
                  | ind n9 ih_53 => 
                    intro l F3 A3 v9 hm9 hl hF3 hA3 x38c hv
                    have g3 : A3 1 = A 1 := hA3 1 (by decide)
                    have ev := suL_r (a := A 1) (d := d) (k := k) (f := f) N ⟨by omega, by omega⟩ ⟨by omega, by omega⟩ l.toNat (by omega)
                    rw [hv] at ev
                    refine gg_iload dX10_suits_53 rfl ?_
                    refine gg_aload_n dX10_suits_55 rfl rfl ?_
                    refine gm_get13 rfl dX10_suits_56 ?_
                    refine gi_iconst dX10_suits_59 ?_
                    refine gg_iload_n dX10_suits_60 rfl ?_
                    refine gi_iadd dX10_suits_61 ?_
                    refine gm_iald dX10_suits_62 (by decide) rfl (by decide) ⟨by omega, by simp only [ml9]; omega⟩ (congrFun g3 _) ?_
                    refine gi_icmp_ge (tgt := 127) dX10_suits_63 (by decide) ⟨by omega, by omega⟩ ⟨by omega, by omega⟩ (fun c_63 => ?_) (fun c_63 => ?_)
                    · have ef : (f + 1 - 2).toNat = (f - 2).toNat + 1 := by omega
                      have elv : l.toNat = (A 1 (5 + d)).toNat := by omega
                      have L_170 : ∀ (u9 : Int × Int × Int) (hu : suF (A 1) d k s9 (f + 1 - 2).toNat = u9), GG Γ M_X10_suits QF9 (0, 0) (mst Γ h F3 A3) 170 [some (.ref (g_L Γ 0)), some (.int (iN d)), some (.int (iN u9.2.2)), some (.int (iN u9.1)), some (.int (iN u9.2.1)), some (.int (iN k)), some (.int (iN f)), none, none, none] [] := by
                        intro u9 hu
                        refine gi_iinc dX10_suits_170 rfl (Nat.le_of_ble_eq_true rfl) rfl ?_
                        refine gg_goto (tgt := 37) dX10_suits_173 (by decide) ?_
                        refine gg_drop 7 ?_
                        refine gg_drop 8 ?_
                        refine gg_drop 9 ?_
                        exact ih_37 _ (by omega) (f + 1) F3 A3 u9 rfl (by omega) hF3 hA3 x38c hu
                      refine gg_iload dX10_suits_127 rfl ?_
                      refine gi_if_eq (tgt := 170) dX10_suits_129 (by decide) ⟨by omega, by omega⟩ (fun c_129 => ?_) (fun c_129 => ?_)
                      · refine gg_drop 7 ?_
                        refine gg_drop 8 ?_
                        refine gg_drop 9 ?_
                        exact L_170 t9 (by rw [ef, suF, ht, show (((f - 2).toNat : Nat) : Int) + 2 = f by omega, ← elv, hv, su1, if_pos (by omega)])
                      · refine gg_iload dX10_suits_132 rfl ?_
                        refine gg_iload_n dX10_suits_134 rfl ?_
                        refine gi_icmp_lt (tgt := 170) dX10_suits_135 (by decide) ⟨by omega, by omega⟩ ⟨by omega, by omega⟩ (fun c_135 => ?_) (fun c_135 => ?_)
                        · refine gg_drop 7 ?_
                          refine gg_drop 8 ?_
                          refine gg_drop 9 ?_
                          exact L_170 t9 (by rw [ef, suF, ht, show (((f - 2).toNat : Nat) : Int) + 2 = f by omega, ← elv, hv, su1, if_pos (by omega)])
                        · refine gg_iload dX10_suits_138 rfl ?_
                          refine gg_iload_n dX10_suits_140 rfl ?_
                          refine gi_icmp_ne (tgt := 154) dX10_suits_141 (by decide) ⟨by omega, by omega⟩ ⟨by omega, by omega⟩ (fun c_141 => ?_) (fun c_141 => ?_)
                          · refine gg_iload dX10_suits_154 rfl ?_
                            refine gg_istore_n dX10_suits_156 (Nat.le_of_ble_eq_true rfl) rfl ?_
                            refine gg_iload dX10_suits_157 rfl ?_
                            refine gg_istore dX10_suits_159 (Nat.le_of_ble_eq_true rfl) rfl ?_
                            refine gi_bipush dX10_suits_161 (by decide) ?_
                            refine gg_iload dX10_suits_163 rfl ?_
                            refine gi_imul dX10_suits_165 ?_
                            refine gg_iload dX10_suits_166 rfl ?_
                            refine gi_iadd dX10_suits_168 ?_
                            refine gg_istore_n dX10_suits_169 (Nat.le_of_ble_eq_true rfl) rfl ?_
                            refine gg_drop 7 ?_
                            refine gg_drop 8 ?_
                            refine gg_drop 9 ?_
                            exact gg_conv (L_170 (v9.1, v9.2, 10 * k + f) (by rw [ef, suF, ht, show (((f - 2).toNat : Nat) : Int) + 2 = f by omega, ← elv, hv, su1, if_neg (by omega)])) rfl rfl rfl
                          · refine gg_iload dX10_suits_144 rfl ?_
                            refine gg_iload dX10_suits_146 rfl ?_
                            refine gi_icmp_lt (tgt := 154) dX10_suits_148 (by decide) ⟨by omega, by omega⟩ ⟨by omega, by omega⟩ (fun c_148 => ?_) (fun c_148 => ?_)
                            · refine gg_iload dX10_suits_154 rfl ?_
                              refine gg_istore_n dX10_suits_156 (Nat.le_of_ble_eq_true rfl) rfl ?_
                              refine gg_iload dX10_suits_157 rfl ?_
                              refine gg_istore dX10_suits_159 (Nat.le_of_ble_eq_true rfl) rfl ?_
                              refine gi_bipush dX10_suits_161 (by decide) ?_
                              refine gg_iload dX10_suits_163 rfl ?_
                              refine gi_imul dX10_suits_165 ?_
                              refine gg_iload dX10_suits_166 rfl ?_
                              refine gi_iadd dX10_suits_168 ?_
                              refine gg_istore_n dX10_suits_169 (Nat.le_of_ble_eq_true rfl) rfl ?_
                              refine gg_drop 7 ?_
                              refine gg_drop 8 ?_
                              refine gg_drop 9 ?_
                              exact gg_conv (L_170 (v9.1, v9.2, 10 * k + f) (by rw [ef, suF, ht, show (((f - 2).toNat : Nat) : Int) + 2 = f by omega, ← elv, hv, su1, if_neg (by omega)])) rfl rfl rfl
                            · refine gg_goto (tgt := 170) dX10_suits_151 (by decide) ?_
                              refine gg_drop 7 ?_
                              refine gg_drop 8 ?_
                              refine gg_drop 9 ?_
                              exact L_170 t9 (by rw [ef, suF, ht, show (((f - 2).toNat : Nat) : Int) + 2 = f by omega, ← elv, hv, su1, if_pos (by omega)])
                    · have L_121 : ∀ (F4 : Nat → Int) (A4 : Nat → Int → Int) (w9 : Int × Int) (hF4 : frF [16, 24, 25, 27, 28, 29, 30, 34, 35, 36, 37, 38] (uF F 0 0) F4) (hA4 : frA [8, 9, 10, 11, 12, 13, 14, 15, 16, 17, 18] A A4) (x38d : F4 38 = 0 ∨ F4 38 = 1) (hw : suL (A 1) d k f (l + 1).toNat = w9), GG Γ M_X10_suits QF9 (0, 0) (mst Γ h F4 A4) 121 [some (.ref (g_L Γ 0)), some (.int (iN d)), some (.int (iN t9.2.2)), some (.int (iN t9.1)), some (.int (iN t9.2.1)), some (.int (iN k)), some (.int (iN f)), some (.int (iN w9.1)), some (.int (iN w9.2)), some (.int (iN l))] [] := by
                        intro F4 A4 w9 hF4 hA4 x38d hw
                        refine gi_iinc dX10_suits_121 rfl (Nat.le_of_ble_eq_true rfl) rfl ?_
                        refine gg_goto (tgt := 53) dX10_suits_124 (by decide) ?_
                        exact ih_53 _ (by omega) (l + 1) F4 A4 w9 rfl (by omega) hF4 hA4 x38d hw
                      refine gg_aload_n dX10_suits_66 rfl rfl ?_
                      refine gg_iload_n dX10_suits_67 rfl ?_
                      refine gg_iload dX10_suits_68 rfl ?_
                      refine gc_X10_294 rfl dX10_suits_70 ⟨(Nat.le_of_ble_eq_true rfl), (Nat.le_of_ble_eq_true rfl)⟩ ⟨(Nat.le_of_ble_eq_true rfl), (Nat.le_of_ble_eq_true rfl)⟩ (Nat.le_of_ble_eq_true rfl) (HAt.mu rfl) (c2_laysLine (F := F3) (A := A3) (by rw [g3]; exact S) (by rw [g3]; exact N) (by rw [g3]; exact E9) ⟨by omega, by omega⟩ (by rw [g3]; omega)) (fun _ _ w => w.elim) (fun r_70 h_70 hp => ?_)
                      obtain ⟨F5, A5, rfl, rfl, hF5, hA5, hL⟩ := hp
                      rw [g3] at hL
                      have y38 : F5 38 = 0 ∨ F5 38 = 1 := by rw [hF5 38 (by decide)]; exact x38c
                      refine gg_aload_n dX10_suits_73 rfl rfl ?_
                      refine gg_iload dX10_suits_74 rfl ?_
                      refine gg_iload dX10_suits_76 rfl ?_
                      refine gi_iconst dX10_suits_78 ?_
                      refine gc_X10_270 rfl dX10_suits_79 ⟨(Nat.le_of_ble_eq_true rfl), (Nat.le_of_ble_eq_true rfl)⟩ ⟨(Nat.le_of_ble_eq_true rfl), (Nat.le_of_ble_eq_true rfl)⟩ (Nat.le_of_ble_eq_true rfl) (HAt.mu rfl) (c_X10_by) (fun _ _ w => w.elim) (fun r_79 h_79 hp => ?_)
                      obtain ⟨rfl, rfl⟩ := hp
                      refine gg_aload_n dX10_suits_82 rfl rfl ?_
                      refine gc_X10_300 rfl dX10_suits_83 ⟨(Nat.le_of_ble_eq_true rfl), (Nat.le_of_ble_eq_true rfl)⟩ ⟨(Nat.le_of_ble_eq_true rfl), (Nat.le_of_ble_eq_true rfl)⟩ (Nat.le_of_ble_eq_true rfl) (HAt.mu rfl) (c_X10_finds (F := (uF (uF (uF F5 27 k) 28 f) 29 0)) (A := A5) (by simp only [uF_s, uF_n, uF_ss, uF_cc, id_eq, ne_eq, not_false_eq_true, Nat.reduceEqDiff, Nat.reduceLT, reduceCtorEq]; omega) (by simp only [uF_s, uF_n, uF_ss, uF_cc, id_eq, ne_eq, not_false_eq_true, Nat.reduceEqDiff, Nat.reduceLT, reduceCtorEq]; omega) (by simp only [uF_s, uF_n, uF_ss, uF_cc, id_eq, ne_eq, not_false_eq_true, Nat.reduceEqDiff, Nat.reduceLT, reduceCtorEq]; omega) (LW_fr (by simp only [uF_s, uF_n, uF_ss, uF_cc, id_eq, ne_eq, not_false_eq_true, Nat.reduceEqDiff, Nat.reduceLT, reduceCtorEq]) rfl rfl rfl rfl rfl hL.1) (by simp only [uF_s, uF_n, uF_ss, uF_cc, id_eq, ne_eq, not_false_eq_true, Nat.reduceEqDiff, Nat.reduceLT, reduceCtorEq]; exact y38)) (fun _ _ w => w.elim) (fun r_83 h_83 hp => ?_)
                      obtain ⟨F6, A6, rfl, rfl, hF6, hA6, ok6, hb6⟩ := hp
                      simp only [uF_s, uF_n, uF_ss, uF_cc, id_eq, ne_eq, not_false_eq_true, Nat.reduceEqDiff, Nat.reduceLT, reduceCtorEq] at hb6
                      rw [bN_F (F := F5) (by simp only [uF_s, uF_n, uF_ss, uF_cc, id_eq, ne_eq, not_false_eq_true, Nat.reduceEqDiff, Nat.reduceLT, reduceCtorEq]), pls_fr (F := F5) (A := A5) (by simp only [uF_s, uF_n, uF_ss, uF_cc, id_eq, ne_eq, not_false_eq_true, Nat.reduceEqDiff, Nat.reduceLT, reduceCtorEq]) rfl rfl rfl] at hb6
                      have hq6 := bsC_e S N E9 ⟨by omega, by omega⟩ ⟨by omega, by omega⟩ hL (kd := k) (cs := 0) (x := F5 36) (y := F5 38) (show 2 ≤ f ∧ f ≤ 6 by omega) ⟨by omega, by omega⟩
                      rw [← hb6] at hq6
                      have b6 : F6 34 = (bsC (A 1) d l k f 0).1 := hq6.1
                      obtain ⟨o1, o2, o3⟩ := id ok6
                      dsimp only [bof] at o1 o2 o3
                      rw [b6] at o1
                      have fF6 : frF [16, 24, 25, 27, 28, 29, 30, 34, 35, 36, 37, 38] (uF F 0 0) F6 := by
                        intro j hj
                        have q1 : j ∉ [30, 34, 35, 36, 37, 38] := fun q => hj (by revert q; simp; omega)
                        have q2 : j ∉ [16, 24, 25] := fun q => hj (by revert q; simp; omega)
                        have q3 : j ≠ 27 ∧ j ≠ 28 ∧ j ≠ 29 := by refine ⟨?_, ?_, ?_⟩ <;> (intro e9; subst e9; exact hj (by decide))
                        rw [hF6 j q1, uF_n q3.2.2, uF_n q3.2.1, uF_n q3.1, hF5 j q2, hF3 j hj]
                      have fA6 : frA [8, 9, 10, 11, 12, 13, 14, 15, 16, 17, 18] A A6 := fun j hj => by rw [hA6 j (fun q => hj (by revert q; simp; omega)), hA5 j (fun q => hj (by revert q; simp; omega)), hA3 j hj]
                      have g6 : A6 1 = A 1 := fA6 1 (by decide)
                      have el : (l + 1).toNat = l.toNat + 1 := by omega
                      refine gg_aload_n dX10_suits_86 rfl rfl ?_
                      refine gm_get115 rfl dX10_suits_87 b6 ?_
                      refine gi_if_lt (tgt := 121) dX10_suits_90 (by decide) ⟨by omega, by omega⟩ (fun c_90 => ?_) (fun c_90 => ?_)
                      · exact L_121 F6 A6 v9 fF6 fA6 o3 (by rw [el, suL, Int.toNat_of_nonneg hl.1, if_pos (by omega)]; exact hv)
                      · refine gg_aload_n dX10_suits_93 rfl rfl ?_
                        refine gm_get115 rfl dX10_suits_94 b6 ?_
                        refine gg_aload_n dX10_suits_97 rfl rfl ?_
                        refine gm_get13 rfl dX10_suits_98 ?_
                        refine gi_iconst dX10_suits_101 ?_
                        refine gm_iald dX10_suits_102 (by decide) rfl (by decide) ⟨by omega, by simp only [ml9]; omega⟩ (congrFun g6 _) ?_
                        refine gi_icmp_le (tgt := 109) dX10_suits_103 (by decide) ⟨by omega, by omega⟩ ⟨by omega, by omega⟩ (fun c_103 => ?_) (fun c_103 => ?_)
                        · refine gi_iinc dX10_suits_109 rfl (Nat.le_of_ble_eq_true rfl) rfl ?_
                          refine gg_iload dX10_suits_112 rfl ?_
                          refine gg_aload_n dX10_suits_114 rfl rfl ?_
                          refine gm_get115 rfl dX10_suits_115 b6 ?_
                          refine gi_iadd dX10_suits_118 ?_
                          refine gg_istore dX10_suits_119 (Nat.le_of_ble_eq_true rfl) rfl ?_
                          exact gg_conv (L_121 F6 A6 (v9.1 + 1, v9.2 + (bsC (A 1) d l k f 0).1) fF6 fA6 o3 (by rw [el, suL, Int.toNat_of_nonneg hl.1, if_neg (by omega), hv])) rfl rfl rfl
                        · refine gg_goto (tgt := 121) dX10_suits_106 (by decide) ?_
                          exact L_121 F6 A6 v9 fF6 fA6 o3 (by rw [el, suL, Int.toNat_of_nonneg hl.1, if_pos (by omega)]; exact hv)
                exact L_53 _ 0 F2 A2 (0, 0) rfl (by omega) hF2 hA2 x38b rfl
          refine gg_drop 7 ?_
          refine gg_drop 8 ?_
          refine gg_drop 9 ?_
          exact L_37 _ 2 F1 A1 s9 rfl (by omega) hF hA x38a rfl
    refine gg_drop 6 ?_
    refine gg_drop 7 ?_
    refine gg_drop 8 ?_
    refine gg_drop 9 ?_
    exact L_28 _ 0 (uF F 0 0) A (0, 0, 0) rfl (by omega) (fun _ _ => rfl) (fun _ _ => rfl) (by simp only [uF_s, uF_n, uF_ss, uF_cc, id_eq, ne_eq, not_false_eq_true, Nat.reduceEqDiff, Nat.reduceLT, reduceCtorEq]; exact h38) rfl
  · rw [bi_f] at c_9
    simp at c_9
    refine gg_aload_n dX10_suits_12 rfl rfl ?_
    refine gi_iconst dX10_suits_13 ?_
    refine gc_X10_162 rfl dX10_suits_14 ⟨(Nat.le_of_ble_eq_true rfl), (Nat.le_of_ble_eq_true rfl)⟩ ⟨(Nat.le_of_ble_eq_true rfl), (Nat.le_of_ble_eq_true rfl)⟩ (Nat.le_of_ble_eq_true rfl) (HAt.mu rfl) (c_X10_fails) (fun _ _ w => w.elim) (fun r_14 h_14 hp => ?_)
    obtain ⟨rfl, rfl⟩ := hp
    subst hQF9
    refine gg_iret dX10_suits_17 rfl rfl ⟨(Nat.le_of_ble_eq_true rfl), (Nat.le_of_ble_eq_true rfl)⟩ ?_
    exact Or.inl ⟨by omega, rfl, by rw [uF_ss]⟩
set_option maxRecDepth 100000 in
set_option maxHeartbeats 4000000 in
theorem c3_X10_account {Γ : GT} {h : XH} {F : Nat → Int} {A : Nat → Int → Int} (S : StA (A 1)) (N : LnA (A 1)) (E9 : ExA (A 1)) (h38 : F 38 = 0 ∨ F 38 = 1) {d w : Int} (hd : InR d) (hw : InR w) : Ct Γ M_X10_account [.ref (g_L Γ 0), .int (iN d), .int (iN w)] (mst Γ h F A) (fun r h9 => (¬ (0 ≤ d ∧ d ≤ 3) ∧ r = some (.int (iN (0))) ∧ h9 = mst Γ h (uF F 0 1) A) ∨ ((0 ≤ d ∧ d ≤ 3) ∧ ¬ (0 ≤ w ∧ w ≤ 7) ∧ r = some (.int (iN (0))) ∧ h9 = mst Γ h (uF F 0 2) A) ∨ ((0 ≤ d ∧ d ≤ 3) ∧ (0 ≤ w ∧ w ≤ 7) ∧ ∃ (F2 : Nat → Int) (A2 : Nat → Int → Int), h9 = mst Γ h F2 A2 ∧ (F2 38 = 0 ∨ F2 38 = 1) ∧ frF [0, 16, 24, 25, 27, 28, 29, 30, 34, 35, 36, 37, 38, 39, 40, 41, 42] F F2 ∧ frA [8, 9, 10, 11, 12, 13, 14, 15, 16, 17, 18, 19, 20, 21, 22] A A2 ∧ r = some (.int (iN (if w = 0 then A 1 (5 + d) else if w = 4 then frs (clsF (A 1) d (A 19) (A 1 (5 + d)).toNat) (A 1 (5 + d)).toNat else smV (A 1) d w (A 1 (5 + d)).toNat))) ∧ F2 0 = 0)) (fun _ _ => False) := by
  refine Ct.of rfl (by decide +kernel) (Nat.le_of_ble_eq_true rfl) ?_
  generalize hQF9 : QM Γ _ _ _ = QF9
  obtain ⟨t0, t1, t2, t3, t4, t5, t6⟩ := id S
  refine gg_aload_n dX10_account_0 rfl rfl ?_
  refine gi_iconst dX10_account_1 ?_
  refine gm_put3 rfl dX10_account_2 (by (try simp only [uF_ss, uF_cc, id_eq, Nat.reduceLT, reduceCtorEq]); rfl) ?_
  refine gg_iload_n dX10_account_5 rfl ?_
  refine gc_X10_218 rfl dX10_account_6 ⟨(Nat.le_of_ble_eq_true rfl), (Nat.le_of_ble_eq_true rfl)⟩ ⟨(Nat.le_of_ble_eq_true rfl), (Nat.le_of_ble_eq_true rfl)⟩ (Nat.le_of_ble_eq_true rfl) (c_X10_isDraft (by assumption)) (fun _ _ w => w.elim) (fun r_6 h_6 hp => ?_)
  obtain ⟨rfl, rfl⟩ := hp
  refine gi_if_ne (tgt := 18) dX10_account_9 (by decide) (bi_r _) (fun c_9 => ?_) (fun c_9 => ?_)
  · rw [bi_t] at c_9
    simp at c_9
    refine gg_iload_n dX10_account_18 rfl ?_
    refine gi_iconst dX10_account_19 ?_
    refine gi_bipush dX10_account_20 (by decide) ?_
    refine gc_X10_158 rfl dX10_account_22 ⟨(Nat.le_of_ble_eq_true rfl), (Nat.le_of_ble_eq_true rfl)⟩ ⟨(Nat.le_of_ble_eq_true rfl), (Nat.le_of_ble_eq_true rfl)⟩ (Nat.le_of_ble_eq_true rfl) (c_X10_in hw ⟨by omega, by omega⟩ ⟨by omega, by omega⟩) (fun _ _ w => w.elim) (fun r_22 h_22 hp => ?_)
    obtain ⟨rfl, rfl⟩ := hp
    refine gi_if_ne (tgt := 34) dX10_account_25 (by decide) (bi_r _) (fun c_25 => ?_) (fun c_25 => ?_)
    · rw [bi_t] at c_25
      rw [Bool.and_eq_true, decide_eq_true_iff, decide_eq_true_iff] at c_25
      refine gg_iload_n dX10_account_34 rfl ?_
      refine gi_if_ne (tgt := 49) dX10_account_35 (by decide) ⟨by omega, by omega⟩ (fun c_35 => ?_) (fun c_35 => ?_)
      · refine gg_iload_n dX10_account_49 rfl ?_
        refine gi_iconst dX10_account_50 ?_
        refine gi_icmp_ne (tgt := 62) dX10_account_51 (by decide) ⟨by omega, by omega⟩ ⟨by omega, by omega⟩ (fun c_51 => ?_) (fun c_51 => ?_)
        · refine gg_aload_n dX10_account_62 rfl rfl ?_
          refine gg_iload_n dX10_account_63 rfl ?_
          refine gg_iload_n dX10_account_64 rfl ?_
          refine gc_X10_352 rfl dX10_account_65 ⟨(Nat.le_of_ble_eq_true rfl), (Nat.le_of_ble_eq_true rfl)⟩ ⟨(Nat.le_of_ble_eq_true rfl), (Nat.le_of_ble_eq_true rfl)⟩ (Nat.le_of_ble_eq_true rfl) (HAt.mu rfl) (c_X10_sums (F := uF F 0 0) S N E9 (by simp only [uF_s, uF_n, uF_ss, uF_cc, id_eq, ne_eq, not_false_eq_true, Nat.reduceEqDiff, Nat.reduceLT, reduceCtorEq]; exact h38) ⟨by omega, by omega⟩ hw) (fun _ _ w => w.elim) (fun r_65 h_65 hp => ?_)
          obtain ⟨F1, A1, rfl, rfl, hF, hA, y38⟩ := hp
          subst hQF9
          refine gg_iret dX10_account_68 rfl rfl ⟨(Nat.le_of_ble_eq_true rfl), (Nat.le_of_ble_eq_true rfl)⟩ ?_
          exact Or.inr (Or.inr ⟨by omega, by omega, F1, A1, rfl, (by first | exact y38 | (rw [uF_n (by decide)]; exact h38)), frF_z hF (by decide), frA_w hA (by decide), by rw [if_neg c_35, if_neg c_51], by rw [hF 0 (by decide), uF_s]⟩)
        · refine gg_aload_n dX10_account_54 rfl rfl ?_
          refine gg_iload_n dX10_account_55 rfl ?_
          refine gc_X10_349 rfl dX10_account_56 ⟨(Nat.le_of_ble_eq_true rfl), (Nat.le_of_ble_eq_true rfl)⟩ ⟨(Nat.le_of_ble_eq_true rfl), (Nat.le_of_ble_eq_true rfl)⟩ (Nat.le_of_ble_eq_true rfl) (HAt.mu rfl) (c_X10_classMany (F := uF F 0 0) S N E9 ⟨by omega, by omega⟩) (fun _ _ w => w.elim) (fun r_56 h_56 hp => ?_)
          obtain ⟨F1, A1, rfl, rfl, hF, hA⟩ := hp
          have y38 : F1 38 = 0 ∨ F1 38 = 1 := by rw [hF 38 (by decide), uF_n (by decide)]; exact h38
          refine gg_goto (tgt := 68) dX10_account_59 (by decide) ?_
          subst hQF9
          refine gg_iret dX10_account_68 rfl rfl ⟨(Nat.le_of_ble_eq_true rfl), (Nat.le_of_ble_eq_true rfl)⟩ ?_
          exact Or.inr (Or.inr ⟨by omega, by omega, F1, A1, rfl, (by first | exact y38 | (rw [uF_n (by decide)]; exact h38)), frF_z hF (by decide), frA_w hA (by decide), by rw [if_neg c_35, if_pos c_51], by rw [hF 0 (by decide), uF_s]⟩)
      · refine gg_aload_n dX10_account_38 rfl rfl ?_
        refine gm_get13 rfl dX10_account_39 ?_
        refine gi_iconst dX10_account_42 ?_
        refine gg_iload_n dX10_account_43 rfl ?_
        refine gi_iadd dX10_account_44 ?_
        refine gm_iald dX10_account_45 (by decide) rfl (by decide) ⟨by omega, by simp only [ml9]; omega⟩ (by (try simp only [uA_s, uA_n, ne_eq, not_false_eq_true, Nat.reduceEqDiff, reduceCtorEq]); rfl) ?_
        refine gg_goto (tgt := 68) dX10_account_46 (by decide) ?_
        subst hQF9
        refine gg_iret dX10_account_68 rfl rfl ⟨(Nat.le_of_ble_eq_true rfl), (Nat.le_of_ble_eq_true rfl)⟩ ?_
        exact Or.inr (Or.inr ⟨by omega, by omega, uF F 0 0, A, rfl, (by first | exact y38 | (rw [uF_n (by decide)]; exact h38)), frF_u (fun _ _ => rfl) (by decide), (fun _ _ => rfl), by rw [if_pos c_35], uF_s⟩)
    · rw [bi_f] at c_25
      rw [Bool.and_eq_false_iff, decide_eq_false_iff_not, decide_eq_false_iff_not] at c_25
      refine gg_aload_n dX10_account_28 rfl rfl ?_
      refine gi_iconst dX10_account_29 ?_
      refine gc_X10_162 rfl dX10_account_30 ⟨(Nat.le_of_ble_eq_true rfl), (Nat.le_of_ble_eq_true rfl)⟩ ⟨(Nat.le_of_ble_eq_true rfl), (Nat.le_of_ble_eq_true rfl)⟩ (Nat.le_of_ble_eq_true rfl) (HAt.mu rfl) (c_X10_fails) (fun _ _ w => w.elim) (fun r_30 h_30 hp => ?_)
      obtain ⟨rfl, rfl⟩ := hp
      subst hQF9
      refine gg_iret dX10_account_33 rfl rfl ⟨(Nat.le_of_ble_eq_true rfl), (Nat.le_of_ble_eq_true rfl)⟩ ?_
      exact Or.inr (Or.inl ⟨by omega, by omega, rfl, by rw [uF_ss]⟩)
  · rw [bi_f] at c_9
    simp at c_9
    refine gg_aload_n dX10_account_12 rfl rfl ?_
    refine gi_iconst dX10_account_13 ?_
    refine gc_X10_162 rfl dX10_account_14 ⟨(Nat.le_of_ble_eq_true rfl), (Nat.le_of_ble_eq_true rfl)⟩ ⟨(Nat.le_of_ble_eq_true rfl), (Nat.le_of_ble_eq_true rfl)⟩ (Nat.le_of_ble_eq_true rfl) (HAt.mu rfl) (c_X10_fails) (fun _ _ w => w.elim) (fun r_14 h_14 hp => ?_)
    obtain ⟨rfl, rfl⟩ := hp
    subst hQF9
    refine gg_iret dX10_account_17 rfl rfl ⟨(Nat.le_of_ble_eq_true rfl), (Nat.le_of_ble_eq_true rfl)⟩ ?_
    exact Or.inl ⟨by omega, rfl, by rw [uF_ss]⟩
set_option maxRecDepth 100000 in
set_option maxHeartbeats 4000000 in
theorem c3_X10_meanCost {Γ : GT} {h : XH} {F : Nat → Int} {A : Nat → Int → Int} (S : StA (A 1)) (N : LnA (A 1)) (E9 : ExA (A 1)) (h38 : F 38 = 0 ∨ F 38 = 1) {d : Int} (hd : InR d) : Ct Γ M_X10_meanCost [.ref (g_L Γ 0), .int (iN d)] (mst Γ h F A) (fun r h9 => (¬ (0 ≤ d ∧ d ≤ 3) ∧ r = some (.float (FP.i2f (iN 0))) ∧ h9 = mst Γ h (uF F 0 1) A) ∨ ((0 ≤ d ∧ d ≤ 3) ∧ ∃ (F2 : Nat → Int) (A2 : Nat → Int → Int), h9 = mst Γ h F2 A2 ∧ (F2 38 = 0 ∨ F2 38 = 1) ∧ frF [0, 16, 24, 25, 27, 28, 29, 30, 34, 35, 36, 37, 38, 39, 40, 41, 42] F F2 ∧ frA [8, 9, 10, 11, 12, 13, 14, 15, 16, 17, 18, 19, 20, 21, 22] A A2 ∧ (((A 1 (5 + d) - smV (A 1) d 3 (A 1 (5 + d)).toNat) = 0 ∧ r = some (.float (FP.i2f (iN 0))) ∧ F2 0 = 2) ∨ (0 < (A 1 (5 + d) - smV (A 1) d 3 (A 1 (5 + d)).toNat) ∧ r = some (.float (FP.fdiv (FP.i2f (iN (smV (A 1) d 2 (A 1 (5 + d)).toNat))) (FP.i2f (iN (A 1 (5 + d) - smV (A 1) d 3 (A 1 (5 + d)).toNat))))) ∧ F2 0 = 0)))) (fun _ _ => False) := by
  refine Ct.of rfl (by decide +kernel) (Nat.le_of_ble_eq_true rfl) ?_
  generalize hQF9 : QM Γ _ _ _ = QF9
  obtain ⟨t0, t1, t2, t3, t4, t5, t6⟩ := id S
  refine gg_aload_n dX10_meanCost_0 rfl rfl ?_
  refine gi_iconst dX10_meanCost_1 ?_
  refine gm_put3 rfl dX10_meanCost_2 (by (try simp only [uF_ss, uF_cc, id_eq, Nat.reduceLT, reduceCtorEq]); rfl) ?_
  refine gg_iload_n dX10_meanCost_5 rfl ?_
  refine gc_X10_218 rfl dX10_meanCost_6 ⟨(Nat.le_of_ble_eq_true rfl), (Nat.le_of_ble_eq_true rfl)⟩ ⟨(Nat.le_of_ble_eq_true rfl), (Nat.le_of_ble_eq_true rfl)⟩ (Nat.le_of_ble_eq_true rfl) (c_X10_isDraft (by assumption)) (fun _ _ w => w.elim) (fun r_6 h_6 hp => ?_)
  obtain ⟨rfl, rfl⟩ := hp
  refine gi_if_ne (tgt := 19) dX10_meanCost_9 (by decide) (bi_r _) (fun c_9 => ?_) (fun c_9 => ?_)
  · rw [bi_t] at c_9
    simp at c_9
    have hn9 := t5 d (by omega) (by omega)
    refine gg_aload_n dX10_meanCost_19 rfl rfl ?_
    refine gm_get13 rfl dX10_meanCost_20 ?_
    refine gi_iconst dX10_meanCost_23 ?_
    refine gg_iload_n dX10_meanCost_24 rfl ?_
    refine gi_iadd dX10_meanCost_25 ?_
    refine gm_iald dX10_meanCost_26 (by decide) rfl (by decide) ⟨by omega, by simp only [ml9]; omega⟩ (by (try simp only [uA_s, uA_n, ne_eq, not_false_eq_true, Nat.reduceEqDiff, reduceCtorEq]); rfl) ?_
    refine gg_aload_n dX10_meanCost_27 rfl rfl ?_
    refine gg_iload_n dX10_meanCost_28 rfl ?_
    refine gi_iconst dX10_meanCost_29 ?_
    refine gc_X10_352 rfl dX10_meanCost_30 ⟨(Nat.le_of_ble_eq_true rfl), (Nat.le_of_ble_eq_true rfl)⟩ ⟨(Nat.le_of_ble_eq_true rfl), (Nat.le_of_ble_eq_true rfl)⟩ (Nat.le_of_ble_eq_true rfl) (HAt.mu rfl) (c_X10_sums (F := uF F 0 0) S N E9 (by simp only [uF_s, uF_n, uF_ss, uF_cc, id_eq, ne_eq, not_false_eq_true, Nat.reduceEqDiff, Nat.reduceLT, reduceCtorEq]; exact h38) ⟨by omega, by omega⟩ ⟨by omega, by omega⟩) (fun _ _ w => w.elim) (fun r_30 h_30 hp => ?_)
    obtain ⟨F1, A1, rfl, rfl, hF, hA, x38⟩ := hp
    have g1 : A1 1 = A 1 := hA 1 (by decide)
    have hs3 := smV_3 (a := A 1) (d := d) (A 1 (5 + d)).toNat
    refine gi_isub dX10_meanCost_33 ?_
    refine gg_istore_n dX10_meanCost_34 (Nat.le_of_ble_eq_true rfl) rfl ?_
    refine gg_iload_n dX10_meanCost_35 rfl ?_
    refine gi_if_ne (tgt := 48) dX10_meanCost_36 (by decide) ⟨by omega, by omega⟩ (fun c_36 => ?_) (fun c_36 => ?_)
    · refine gg_aload_n dX10_meanCost_48 rfl rfl ?_
      refine gg_iload_n dX10_meanCost_49 rfl ?_
      refine gi_iconst dX10_meanCost_50 ?_
      refine gc_X10_352 rfl dX10_meanCost_51 ⟨(Nat.le_of_ble_eq_true rfl), (Nat.le_of_ble_eq_true rfl)⟩ ⟨(Nat.le_of_ble_eq_true rfl), (Nat.le_of_ble_eq_true rfl)⟩ (Nat.le_of_ble_eq_true rfl) (HAt.mu rfl) (c_X10_sums (F := F1) (A := A1) (by rw [g1]; exact S) (by rw [g1]; exact N) (by rw [g1]; exact E9) x38 ⟨by omega, by omega⟩ ⟨by omega, by omega⟩) (fun _ _ w => w.elim) (fun r_51 h_51 hp => ?_)
      obtain ⟨F2, A2, rfl, rfl, hF2, hA2, y38⟩ := hp
      rw [g1]
      have hs2 := smV_2 (a := A 1) (d := d) S N ⟨by omega, by omega⟩ (A 1 (5 + d)).toNat (by omega)
      refine gg_i2f dX10_meanCost_54  ?_
      refine gg_iload_n dX10_meanCost_55 rfl ?_
      refine gg_i2f dX10_meanCost_56  ?_
      refine gg_fdiv dX10_meanCost_57 (n32_c ⟨by omega, by omega⟩ ⟨by omega, by omega⟩) ?_
      subst hQF9
      refine gg_fret dX10_meanCost_58 rfl ⟨(Nat.le_of_ble_eq_true rfl), (Nat.le_of_ble_eq_true rfl)⟩ ?_
      exact Or.inr ⟨by omega, F2, A2, rfl, y38, fun j hj => by rw [hF2 j (fun q => hj (by revert q; simp; omega)), frF_z hF (by decide) j hj], fun j hj => by rw [hA2 j (fun q => hj (by revert q; simp; omega)), hA j (fun q => hj (by revert q; simp; omega))], Or.inr ⟨by omega, rfl, by rw [hF2 0 (by decide), hF 0 (by decide), uF_s]⟩⟩
    · refine gg_aload_n dX10_meanCost_39 rfl rfl ?_
      refine gi_iconst dX10_meanCost_40 ?_
      refine gc_X10_162 rfl dX10_meanCost_41 ⟨(Nat.le_of_ble_eq_true rfl), (Nat.le_of_ble_eq_true rfl)⟩ ⟨(Nat.le_of_ble_eq_true rfl), (Nat.le_of_ble_eq_true rfl)⟩ (Nat.le_of_ble_eq_true rfl) (HAt.mu rfl) (c_X10_fails) (fun _ _ w => w.elim) (fun r_41 h_41 hp => ?_)
      obtain ⟨rfl, rfl⟩ := hp
      refine gg_i2f dX10_meanCost_44  ?_
      refine gg_goto (tgt := 58) dX10_meanCost_45 (by decide) ?_
      subst hQF9
      refine gg_fret dX10_meanCost_58 rfl ⟨(Nat.le_of_ble_eq_true rfl), (Nat.le_of_ble_eq_true rfl)⟩ ?_
      exact Or.inr ⟨by omega, uF F1 0 2, A1, rfl, (by first | exact x38 | (rw [uF_n (by decide)]; exact x38)), frF_u (frF_z hF (by decide)) (by decide), frA_w hA (by decide), Or.inl ⟨c_36, rfl, uF_s⟩⟩
  · rw [bi_f] at c_9
    simp at c_9
    refine gg_aload_n dX10_meanCost_12 rfl rfl ?_
    refine gi_iconst dX10_meanCost_13 ?_
    refine gc_X10_162 rfl dX10_meanCost_14 ⟨(Nat.le_of_ble_eq_true rfl), (Nat.le_of_ble_eq_true rfl)⟩ ⟨(Nat.le_of_ble_eq_true rfl), (Nat.le_of_ble_eq_true rfl)⟩ (Nat.le_of_ble_eq_true rfl) (HAt.mu rfl) (c_X10_fails) (fun _ _ w => w.elim) (fun r_14 h_14 hp => ?_)
    obtain ⟨rfl, rfl⟩ := hp
    refine gg_i2f dX10_meanCost_17  ?_
    subst hQF9
    refine gg_fret dX10_meanCost_18 rfl ⟨(Nat.le_of_ble_eq_true rfl), (Nat.le_of_ble_eq_true rfl)⟩ ?_
    exact Or.inl ⟨by omega, rfl, by rw [uF_ss]⟩
