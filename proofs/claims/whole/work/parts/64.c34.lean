/-! the scanner: public methods, 2 -/
set_option maxRecDepth 100000 in
set_option maxHeartbeats 4000000 in
theorem c_X9_clearDraft {Γ : GT} {h : XH} {G : Nat → Int} {B : Nat → Int → Int} {b : Nat} (hb9 : b ≤ 9) (g0 : G 0 = (b : Int)) {mq : Nat} (hmq : G (100 + 10 * b) = (mq : Int)) (WR9 : WR h.2 B) (H9 : HIS G B b) {i : Int} (hi : InR i) : Ct Γ M_X9_clearDraft [.ref (g_L Γ 30), .int (iN i)] (gst Γ h G B) (fun r h9 => (0 ≤ i ∧ i ≤ 3) ∧ r = some (.int (iN (G (103 + 10 * b + i.toNat)))) ∧ h9 = gst Γ h (uF (rmG G B b) (103 + 10 * b + i.toNat) 0) (uA (rmB G B b) (106 + 11 * b + i.toNat) (fillF ((rmB G B b) (106 + 11 * b + i.toNat)) (-1) 10))) (fun E h9 => ¬ (0 ≤ i ∧ i ≤ 3) ∧ E = "java/lang/IndexOutOfBoundsException" ∧ h9 = gst Γ h G B) := by
  refine Ct.of rfl (by decide +kernel) (Nat.le_of_ble_eq_true rfl) ?_
  generalize hQF9 : QM Γ _ _ _ = QF9
  refine gg_aload_n dX9_clearDraft_0 rfl rfl ?_
  refine gg_iload_n dX9_clearDraft_1 rfl ?_
  refine gc_X9_182 rfl dX9_clearDraft_2 ⟨(Nat.le_of_ble_eq_true rfl), (Nat.le_of_ble_eq_true rfl)⟩ ⟨(Nat.le_of_ble_eq_true rfl), (Nat.le_of_ble_eq_true rfl)⟩ (Nat.le_of_ble_eq_true rfl) (HAt.mu gst_30) (c_X9_draftAt hb9 g0 hi) (fun E h8 hx => by subst hQF9; exact gx_out rfl ⟨(Nat.le_of_ble_eq_true rfl), (Nat.le_of_ble_eq_true rfl)⟩ (by obtain ⟨h1, h2, h3⟩ := hx; exact ⟨fun z => h1 z, h2, h3⟩)) (fun r_2 h_2 hp => ?_)
  obtain ⟨hi2, rfl, rfl⟩ := hp
  have hd9 : i.toNat ≤ 3 := by omega
  refine gg_astore_n dX9_clearDraft_5 rfl (Nat.le_of_ble_eq_true rfl) rfl ?_
  refine gg_aload_n dX9_clearDraft_6 rfl rfl ?_
  refine gc_X9_106 rfl dX9_clearDraft_7 ⟨(Nat.le_of_ble_eq_true rfl), (Nat.le_of_ble_eq_true rfl)⟩ ⟨(Nat.le_of_ble_eq_true rfl), (Nat.le_of_ble_eq_true rfl)⟩ (Nat.le_of_ble_eq_true rfl) (HAt.mu gst_30) (c_remember hb9 g0 hmq WR9 H9) (fun _ _ w => w.elim) (fun r_7 h_7 hp => ?_)
  obtain ⟨rfl, rfl⟩ := hp
  refine gg_aload_n dX9_clearDraft_10 rfl rfl ?_
  refine gk_getX9_186 hb9 hd9 rfl dX9_clearDraft_11 (rmG_o H9 (by omega)) ?_
  refine gg_istore_n dX9_clearDraft_14 (Nat.le_of_ble_eq_true rfl) rfl ?_
  refine gg_aload_n dX9_clearDraft_15 rfl rfl ?_
  refine gc_X9_228 rfl dX9_clearDraft_16 ⟨(Nat.le_of_ble_eq_true rfl), (Nat.le_of_ble_eq_true rfl)⟩ ⟨(Nat.le_of_ble_eq_true rfl), (Nat.le_of_ble_eq_true rfl)⟩ (Nat.le_of_ble_eq_true rfl) (HAt.mu (gst_dr hb9 hd9)) (c_X0_empty hb9 hd9) (fun _ _ w => w.elim) (fun r_16 h_16 hp => ?_)
  obtain ⟨rfl, rfl⟩ := hp
  refine gg_iload_n dX9_clearDraft_19 rfl ?_
  subst hQF9
  refine gg_iret dX9_clearDraft_20 rfl rfl ⟨(Nat.le_of_ble_eq_true rfl), (Nat.le_of_ble_eq_true rfl)⟩ ?_
  exact ⟨hi2, rfl, rfl⟩
set_option maxRecDepth 100000 in
set_option maxHeartbeats 4000000 in
theorem c_X9_copyDraft {Γ : GT} {h : XH} {G : Nat → Int} {B : Nat → Int → Int} {b : Nat} (hb9 : b ≤ 9) (g0 : G 0 = (b : Int)) {mq : Nat} (hmq : G (100 + 10 * b) = (mq : Int)) (WR9 : WR h.2 B) (H9 : HIS G B b) {i j : Int} (hi : InR i) (hj : InR j) : Ct Γ M_X9_copyDraft [.ref (g_L Γ 30), .int (iN i), .int (iN j)] (gst Γ h G B) (fun r h9 => ((0 ≤ i ∧ i ≤ 3) ∧ 0 ≤ j ∧ j ≤ 3) ∧ r = some (.int (iN (G (103 + 10 * b + i.toNat)))) ∧ h9 = gst Γ h (uF (rmG G B b) (103 + 10 * b + j.toNat) (G (103 + 10 * b + i.toNat))) (uA (rmB G B b) (106 + 11 * b + j.toNat) (cp ((rmB G B b) (106 + 11 * b + i.toNat)) ((rmB G B b) (106 + 11 * b + j.toNat)) 0 0 10))) (fun E h9 => ¬ ((0 ≤ i ∧ i ≤ 3) ∧ 0 ≤ j ∧ j ≤ 3) ∧ E = "java/lang/IndexOutOfBoundsException" ∧ h9 = gst Γ h G B) := by
  refine Ct.of rfl (by decide +kernel) (Nat.le_of_ble_eq_true rfl) ?_
  generalize hQF9 : QM Γ _ _ _ = QF9
  refine gg_aload_n dX9_copyDraft_0 rfl rfl ?_
  refine gg_iload_n dX9_copyDraft_1 rfl ?_
  refine gc_X9_182 rfl dX9_copyDraft_2 ⟨(Nat.le_of_ble_eq_true rfl), (Nat.le_of_ble_eq_true rfl)⟩ ⟨(Nat.le_of_ble_eq_true rfl), (Nat.le_of_ble_eq_true rfl)⟩ (Nat.le_of_ble_eq_true rfl) (HAt.mu gst_30) (c_X9_draftAt hb9 g0 hi) (fun E h8 hx => by subst hQF9; exact gx_out rfl ⟨(Nat.le_of_ble_eq_true rfl), (Nat.le_of_ble_eq_true rfl)⟩ (by obtain ⟨h1, h2, h3⟩ := hx; exact ⟨fun z => h1 z.1, h2, h3⟩)) (fun r_2 h_2 hp => ?_)
  obtain ⟨hi2, rfl, rfl⟩ := hp
  have hd9 : i.toNat ≤ 3 := by omega
  refine gg_astore_n dX9_copyDraft_5 rfl (Nat.le_of_ble_eq_true rfl) rfl ?_
  refine gg_aload_n dX9_copyDraft_6 rfl rfl ?_
  refine gg_iload_n dX9_copyDraft_7 rfl ?_
  refine gc_X9_182 rfl dX9_copyDraft_8 ⟨(Nat.le_of_ble_eq_true rfl), (Nat.le_of_ble_eq_true rfl)⟩ ⟨(Nat.le_of_ble_eq_true rfl), (Nat.le_of_ble_eq_true rfl)⟩ (Nat.le_of_ble_eq_true rfl) (HAt.mu gst_30) (c_X9_draftAt hb9 g0 hj) (fun E h8 hx => by subst hQF9; exact gx_out rfl ⟨(Nat.le_of_ble_eq_true rfl), (Nat.le_of_ble_eq_true rfl)⟩ (by obtain ⟨h1, h2, h3⟩ := hx; exact ⟨fun z => h1 z.2, h2, h3⟩)) (fun r_8 h_8 hp => ?_)
  obtain ⟨hj2, rfl, rfl⟩ := hp
  have hd9 : j.toNat ≤ 3 := by omega
  refine gg_astore dX9_copyDraft_11 rfl (Nat.le_of_ble_eq_true rfl) rfl ?_
  refine gg_aload_n dX9_copyDraft_13 rfl rfl ?_
  refine gc_X9_106 rfl dX9_copyDraft_14 ⟨(Nat.le_of_ble_eq_true rfl), (Nat.le_of_ble_eq_true rfl)⟩ ⟨(Nat.le_of_ble_eq_true rfl), (Nat.le_of_ble_eq_true rfl)⟩ (Nat.le_of_ble_eq_true rfl) (HAt.mu gst_30) (c_remember hb9 g0 hmq WR9 H9) (fun _ _ w => w.elim) (fun r_14 h_14 hp => ?_)
  obtain ⟨rfl, rfl⟩ := hp
  refine gg_aload dX9_copyDraft_17 rfl rfl ?_
  refine gg_aload_n dX9_copyDraft_19 rfl rfl ?_
  refine gc_X9_224 rfl dX9_copyDraft_20 ⟨(Nat.le_of_ble_eq_true rfl), (Nat.le_of_ble_eq_true rfl)⟩ ⟨(Nat.le_of_ble_eq_true rfl), (Nat.le_of_ble_eq_true rfl)⟩ (Nat.le_of_ble_eq_true rfl) (HAt.mu (gst_dr hb9 (by omega))) (c_X0_become hb9 (d := j.toNat) (by omega) hb9 (d2 := i.toNat) (by omega) (fun l l0 l1 => by rw [rmB_o H9 (by omega)]; exact (WR9 b hb9).1 i.toNat l (by omega) l0 l1)) (fun _ _ w => w.elim) (fun r_20 h_20 hp => ?_)
  obtain ⟨rfl, rfl⟩ := hp
  rw [rmG_o H9 (k := (103 + 10 * b + i.toNat)) (by omega)]
  refine gg_aload dX9_copyDraft_23 rfl rfl ?_
  refine gk_getX9_186 hb9 (show j.toNat ≤ 3 by omega) rfl dX9_copyDraft_25 uF_s ?_
  subst hQF9
  refine gg_iret dX9_copyDraft_28 rfl rfl ⟨(Nat.le_of_ble_eq_true rfl), (Nat.le_of_ble_eq_true rfl)⟩ ?_
  exact ⟨⟨hi2, hj2⟩, rfl, rfl⟩
set_option maxRecDepth 100000 in
set_option maxHeartbeats 4000000 in
theorem c_X9_undo {Γ : GT} {h : XH} {G : Nat → Int} {B : Nat → Int → Int} {b : Nat} (hb9 : b ≤ 9) (g0 : G 0 = (b : Int)) (H9 : HIS G B b) : Ct Γ M_X9_undo [.ref (g_L Γ 30)] (gst Γ h G B) (fun r h9 => 0 < G 1 ∧ r = some (.int (iN (G 1 - 1))) ∧ h9 = gst Γ h (uF (uF G 0 (B 31 (G 1 - 1))) 1 (G 1 - 1)) (uA B 31 (up (B 31) (G 1 - 1) (b : Int)))) (fun E h9 => ¬ 0 < G 1 ∧ E = "java/lang/IllegalStateException" ∧ h9 = gst Γ h G B) := by
  refine Ct.of rfl (by decide +kernel) (Nat.le_of_ble_eq_true rfl) ?_
  generalize hQF9 : QM Γ _ _ _ = QF9
  obtain ⟨hu, hH⟩ := H9
  refine gg_aload_n dX9_undo_0 rfl rfl ?_
  refine gk_getX9_68 rfl dX9_undo_1 rfl ?_
  refine gi_if_le (tgt := 19) dX9_undo_4 (by decide) ⟨by omega, by omega⟩ (fun c_4 => ?_) (fun c_4 => ?_)
  · subst hQF9
    refine gg_throwW (text := "there is no change to undo") thr_0 rfl (by decide) dX9_undo_19 dX9_undo_22 dX9_undo_23 dX9_undo_26 dX9_undo_29 rfl ⟨(Nat.le_of_ble_eq_true rfl), (Nat.le_of_ble_eq_true rfl)⟩ ⟨(Nat.le_of_ble_eq_true rfl), (Nat.le_of_ble_eq_true rfl)⟩ ?_
    exact ⟨by omega, rfl, rfl⟩
  · refine gg_aload_n dX9_undo_7 rfl rfl ?_
    refine gk_getX9_68 rfl dX9_undo_8 rfl ?_
    refine gg_aload_n dX9_undo_11 rfl rfl ?_
    refine gk_getX9_18 rfl dX9_undo_12 ?_
    refine gi_alen dX9_undo_15 (HAt.mu gst_31) (by decide) ?_
    refine gi_icmp_le (tgt := 30) dX9_undo_16 (by decide) ⟨by omega, by omega⟩ ⟨by omega, by omega⟩ (fun c_16 => ?_) (fun c_16 => ?_)
    · refine gg_aload_n dX9_undo_30 rfl rfl ?_
      refine gg_dup dX9_undo_31 rfl ?_
      refine gk_getX9_68 rfl dX9_undo_32 rfl ?_
      refine gi_iconst dX9_undo_35 ?_
      refine gi_isub dX9_undo_36 ?_
      refine gk_putX9_68 rfl dX9_undo_37 (by (try simp only [uF_ss, uF_cc, id_eq, Nat.reduceLT, reduceCtorEq]); rfl) ?_
      refine gg_aload_n dX9_undo_40 rfl rfl ?_
      refine gk_getX9_65 rfl dX9_undo_41 (by rw [uF_n (by decide)]; exact g0) ?_
      refine gg_astore_n dX9_undo_44 rfl (Nat.le_of_ble_eq_true rfl) rfl ?_
      refine gg_aload_n dX9_undo_45 rfl rfl ?_
      refine gg_aload_n dX9_undo_46 rfl rfl ?_
      refine gk_getX9_18 rfl dX9_undo_47 ?_
      refine gg_aload_n dX9_undo_50 rfl rfl ?_
      refine gk_getX9_68 rfl dX9_undo_51 uF_s ?_
      obtain ⟨bj, hbj, hj9, hne⟩ := hH (G 1 - 1) (by omega) (by omega)
      refine gk_ald31 (b := bj) dX9_undo_54 ⟨by omega, by omega⟩ hbj ?_
      refine gk_putX9_65 rfl dX9_undo_55 (by (try simp only [uF_ss, uF_cc, id_eq, Nat.reduceLT, reduceCtorEq]); rfl) ?_
      refine gg_aload_n dX9_undo_58 rfl rfl ?_
      refine gk_getX9_18 rfl dX9_undo_59 ?_
      refine gg_aload_n dX9_undo_62 rfl rfl ?_
      refine gk_getX9_68 rfl dX9_undo_63 (show uF (uF G 1 (G 1 - 1)) 0 (bj : Int) 1 = G 1 - 1 from by rw [uF_n (show (1 : Nat) ≠ 0 by decide), uF_s]) ?_
      refine gg_aload_n dX9_undo_66 rfl rfl ?_
      refine gk_ast31 hb9 dX9_undo_67 ⟨by omega, by omega⟩ rfl ?_
      refine gg_aload_n dX9_undo_68 rfl rfl ?_
      refine gk_getX9_68 rfl dX9_undo_69 (show uF (uF G 1 (G 1 - 1)) 0 (bj : Int) 1 = G 1 - 1 from by rw [uF_n (show (1 : Nat) ≠ 0 by decide), uF_s]) ?_
      subst hQF9
      refine gg_iret dX9_undo_72 rfl rfl ⟨(Nat.le_of_ble_eq_true rfl), (Nat.le_of_ble_eq_true rfl)⟩ ?_
      rw [hbj]
      exact ⟨by omega, rfl, rfl⟩
    · exact absurd c_16 (by omega)
set_option maxRecDepth 100000 in
set_option maxHeartbeats 4000000 in
theorem c_X9_restore {Γ : GT} {h : XH} {G : Nat → Int} {B : Nat → Int → Int} {b : Nat} (hb9 : b ≤ 9) (g0 : G 0 = (b : Int)) {m9 : Nat} (hm9 : G 190 = (m9 : Int)) (WR9 : WR h.2 B) (hn9 : b ≠ 9) (h2 : G 2 = 0 ∨ G 2 = 1) : Ct Γ M_X9_restore [.ref (g_L Γ 30)] (gst Γ h G B) (fun r h9 => G 2 = 1 ∧ r = some (.int (iN (lcS (uF (bcG G b 9) 1 0) b 4))) ∧ h9 = gst Γ h (uF (bcG G b 9) 1 0) (bcB B b 9)) (fun E h9 => G 2 = 0 ∧ E = "java/lang/IllegalStateException" ∧ h9 = gst Γ h G B) := by
  refine Ct.of rfl (by decide +kernel) (Nat.le_of_ble_eq_true rfl) ?_
  generalize hQF9 : QM Γ _ _ _ = QF9
  refine gg_aload_n dX9_restore_0 rfl rfl ?_
  refine gk_getX9_72 rfl dX9_restore_1 rfl ?_
  refine gi_if_ne (tgt := 18) dX9_restore_4 (by decide) ⟨by omega, by omega⟩ (fun c_4 => ?_) (fun c_4 => ?_)
  · refine gg_aload_n dX9_restore_18 rfl rfl ?_
    refine gk_getX9_65 rfl dX9_restore_19 g0 ?_
    refine gg_aload_n dX9_restore_22 rfl rfl ?_
    refine gk_getX9_23 rfl dX9_restore_23 ?_
    refine gc_X9_377 rfl dX9_restore_26 ⟨(Nat.le_of_ble_eq_true rfl), (Nat.le_of_ble_eq_true rfl)⟩ ⟨(Nat.le_of_ble_eq_true rfl), (Nat.le_of_ble_eq_true rfl)⟩ (Nat.le_of_ble_eq_true rfl) (HAt.mu (gst_st hb9)) (c_X7_become hb9 (b2 := 9) (Nat.le_refl _) hn9 WR9 (mq := m9) hm9) (fun _ _ w => w.elim) (fun r_26 h_26 hp => ?_)
    obtain ⟨rfl, rfl⟩ := hp
    refine gg_aload_n dX9_restore_29 rfl rfl ?_
    refine gi_iconst dX9_restore_30 ?_
    refine gk_putX9_68 rfl dX9_restore_31 (by (try simp only [uF_ss, uF_cc, id_eq, Nat.reduceLT, reduceCtorEq]); rfl) ?_
    refine gg_aload_n dX9_restore_34 rfl rfl ?_
    refine gk_getX9_65 rfl dX9_restore_35 (by rw [uF_n (by decide), bcG_l (by decide)]; exact g0) ?_
    refine gc_X9_380 rfl dX9_restore_38 ⟨(Nat.le_of_ble_eq_true rfl), (Nat.le_of_ble_eq_true rfl)⟩ ⟨(Nat.le_of_ble_eq_true rfl), (Nat.le_of_ble_eq_true rfl)⟩ (Nat.le_of_ble_eq_true rfl) (HAt.mu (gst_st hb9)) (c_X7_lineCount hb9) (fun _ _ w => w.elim) (fun r_38 h_38 hp => ?_)
    obtain ⟨rfl, rfl⟩ := hp
    subst hQF9
    refine gg_iret dX9_restore_41 rfl rfl ⟨(Nat.le_of_ble_eq_true rfl), (Nat.le_of_ble_eq_true rfl)⟩ ?_
    exact ⟨by omega, rfl, rfl⟩
  · subst hQF9
    refine gg_throwW (text := "nothing was saved") thr_0 rfl (by decide) dX9_restore_7 dX9_restore_10 dX9_restore_11 dX9_restore_14 dX9_restore_17 rfl ⟨(Nat.le_of_ble_eq_true rfl), (Nat.le_of_ble_eq_true rfl)⟩ ⟨(Nat.le_of_ble_eq_true rfl), (Nat.le_of_ble_eq_true rfl)⟩ ?_
    exact ⟨by omega, rfl, rfl⟩
set_option maxRecDepth 100000 in
set_option maxHeartbeats 4000000 in
theorem c_X9_save {Γ : GT} {h : XH} {G : Nat → Int} {B : Nat → Int → Int} {b : Nat} (hb9 : b ≤ 9) (g0 : G 0 = (b : Int)) {mq : Nat} (hmq : G (100 + 10 * b) = (mq : Int)) (WR9 : WR h.2 B) (hn9 : b ≠ 9) : Ct Γ M_X9_save [.ref (g_L Γ 30)] (gst Γ h G B) (fun r h9 => r = some (.int (iN (lcS (uF (bcG G 9 b) 2 1) 9 4))) ∧ h9 = gst Γ h (uF (bcG G 9 b) 2 1) (bcB B 9 b)) (fun _ _ => False) := by
  refine Ct.of rfl (by decide +kernel) (Nat.le_of_ble_eq_true rfl) ?_
  generalize hQF9 : QM Γ _ _ _ = QF9
  refine gg_aload_n dX9_save_0 rfl rfl ?_
  refine gk_getX9_23 rfl dX9_save_1 ?_
  refine gg_aload_n dX9_save_4 rfl rfl ?_
  refine gk_getX9_65 rfl dX9_save_5 g0 ?_
  refine gc_X9_377 rfl dX9_save_8 ⟨(Nat.le_of_ble_eq_true rfl), (Nat.le_of_ble_eq_true rfl)⟩ ⟨(Nat.le_of_ble_eq_true rfl), (Nat.le_of_ble_eq_true rfl)⟩ (Nat.le_of_ble_eq_true rfl) (HAt.mu (gst_st (Nat.le_refl _))) (c_X7_become (b := 9) (Nat.le_refl _) hb9 (fun z => hn9 z.symm) WR9 (mq := mq) hmq) (fun _ _ w => w.elim) (fun r_8 h_8 hp => ?_)
  obtain ⟨rfl, rfl⟩ := hp
  refine gg_aload_n dX9_save_11 rfl rfl ?_
  refine gi_iconst dX9_save_12 ?_
  refine gk_putX9_72 rfl dX9_save_13 (by omega) (by (try simp only [uF_ss, uF_cc, id_eq, Nat.reduceLT, reduceCtorEq]); rfl) ?_
  refine gg_aload_n dX9_save_16 rfl rfl ?_
  refine gk_getX9_23 rfl dX9_save_17 ?_
  refine gc_X9_380 rfl dX9_save_20 ⟨(Nat.le_of_ble_eq_true rfl), (Nat.le_of_ble_eq_true rfl)⟩ ⟨(Nat.le_of_ble_eq_true rfl), (Nat.le_of_ble_eq_true rfl)⟩ (Nat.le_of_ble_eq_true rfl) (HAt.mu (gst_st (Nat.le_refl _))) (c_X7_lineCount (b := 9) (Nat.le_refl _)) (fun _ _ w => w.elim) (fun r_20 h_20 hp => ?_)
  obtain ⟨rfl, rfl⟩ := hp
  subst hQF9
  refine gg_iret dX9_save_23 rfl rfl ⟨(Nat.le_of_ble_eq_true rfl), (Nat.le_of_ble_eq_true rfl)⟩ ?_
  exact ⟨rfl, rfl⟩
