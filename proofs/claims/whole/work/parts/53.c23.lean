/-! the input taken -/
theorem pMt_r {f : Int → Int} {n : Int} (h : 0 ≤ n) : 0 ≤ (pMt f n).2.1 ∧ (pMt f n).2.1 ≤ n := by
  have mr : 0 ≤ pmM f n ∧ (0 < n → pmM f n ≤ n) := by
    have := mtS_r (i := (kF (f 0)).toNat + 1) (f := f) (n := n) (pmL f).toNat 0 0
    unfold pmM; omega
  unfold pMt
  repeat' split
  all_goals dsimp only
  all_goals omega
theorem parseL_r9 {f : Int → Int} {n : Int} : ∀ {m : Nat} {p : Int}, 0 ≤ p → p ≤ n → 0 ≤ (parseL f n m p).2.1 ∧ (parseL f n m p).2.1 ≤ n
  | 0, p, h0, h1 => ⟨h0, h1⟩
  | m + 1, p, h0, h1 => by
    have wr := wlen_r f n 12 p
    have b0 : 0 ≤ bi (decide (p + wlen f n 12 p < n) && decide (f (p + wlen f n 12 p) = 44)) ∧ p + wlen f n 12 p + bi (decide (p + wlen f n 12 p < n) && decide (f (p + wlen f n 12 p) = 44)) ≤ n := by
      by_cases q : p + wlen f n 12 p < n
      · rcases bi_01 (decide (p + wlen f n 12 p < n) && decide (f (p + wlen f n 12 p) = 44)) with z | z <;> rw [z] <;> omega
      · rw [decide_eq_false q, Bool.false_and, show bi false = 0 from rfl]; omega
    rw [parseL]
    split
    · exact ⟨h0, h1⟩
    · split
      · dsimp only; omega
      · split
        · exact parseL_r9 (by omega) (by omega)
        · dsimp only; omega
set_option maxRecDepth 100000 in
set_option maxHeartbeats 4000000 in
theorem c_X1_takeLine {Γ : GT} {h : XH} {G : Nat → Int} {B : Nat → Int → Int} (p4 : 0 ≤ G 4 ∧ G 4 ≤ 60) (p5 : ∀ k, 0 ≤ k → k < G 4 → 0 ≤ B 41 k ∧ B 41 k < 65536) : Ct Γ M_X1_takeLine [.ref (g_L Γ 40)] (gst Γ h G B) (fun r h9 => ∃ (ι' : Nat → Option XE) (B' : Nat → Int → Int), h9 = gst Γ (h.1, ι') (uF (if (parseL (B 41) (G 4) 12 0).1 = true then uF G 3 (parseL (B 41) (G 4) 12 0).2.1 else uF (uF G 3 (parseL (B 41) (G 4) 12 0).2.1) 5 (parseL (B 41) (G 4) 12 0).2.1) 4 0) B' ∧ (∀ x, x ≠ 42 → x ≠ 43 → B' x = B x) ∧ ext h.2 ι' ∧ (((parseL (B 41) (G 4) 12 0).1 = true ∧ ∃ q : Nat, r = some (.ref q) ∧ LnO ι' q (B 41) (G 4)) ∨ ((parseL (B 41) (G 4) 12 0).1 = false ∧ r = some .null))) (fun _ _ => False) := by
  refine Ct.of rfl (by decide +kernel) (Nat.le_of_ble_eq_true rfl) ?_
  generalize hQF9 : QM Γ _ _ _ = QF9
  refine gg_aload_n dX1_takeLine_0 rfl rfl ?_
  refine gi_iconst dX1_takeLine_1 ?_
  refine gk_putX1_22 rfl dX1_takeLine_2 (by (try simp only [uF_ss, uF_cc, id_eq, Nat.reduceLT, reduceCtorEq]); rfl) ?_
  refine gg_aload_n dX1_takeLine_5 rfl rfl ?_
  refine gc_X1_32 rfl dX1_takeLine_6 ⟨(Nat.le_of_ble_eq_true rfl), (Nat.le_of_ble_eq_true rfl)⟩ ⟨(Nat.le_of_ble_eq_true rfl), (Nat.le_of_ble_eq_true rfl)⟩ (Nat.le_of_ble_eq_true rfl) (HAt.mu gst_40) (c_X1_parseLine (G := uF G 3 0) (by rw [uF_n (by decide)]; exact p4) uF_s (by rw [uF_n (by decide)]; exact p5)) (fun _ _ w => w.elim) (fun r_6 h_6 hp => ?_)
  obtain ⟨ι', B', rfl, hB, hX, hpost⟩ := hp
  rw [uF_n (show 4 ≠ 3 by decide)] at hpost ⊢
  have pr := parseL_r9 (f := B 41) (n := G 4) (m := 12) (p := 0) (Int.le_refl 0) p4.1
  rw [uF_ss]
  rcases hpost with ⟨e9, q, rfl, hq9⟩ | ⟨e9, rfl⟩
  · refine gg_astore_n dX1_takeLine_9 rfl (Nat.le_of_ble_eq_true rfl) rfl ?_
    refine gg_aload_n dX1_takeLine_10 rfl rfl ?_
    refine gg_aload_n dX1_takeLine_11 rfl rfl ?_
    refine gg_ifnull (tgt := 19) dX1_takeLine_12 (by decide) rfl (fun c_12 => ?_) (fun a_12 c_12 => ?_)
    · cases c_12
    · refine gi_iconst dX1_takeLine_15 ?_
      refine gg_goto (tgt := 20) dX1_takeLine_16 (by decide) ?_
      refine gc_X1_36 rfl dX1_takeLine_20 ⟨(Nat.le_of_ble_eq_true rfl), (Nat.le_of_ble_eq_true rfl)⟩ ⟨(Nat.le_of_ble_eq_true rfl), (Nat.le_of_ble_eq_true rfl)⟩ (Nat.le_of_ble_eq_true rfl) (HAt.mu gst_40) (c_X1_close (h := (h.1, ι')) (G := uF G 3 (parseL (B 41) (G 4) 12 0).2.1) (B := B') (by rw [uF_n (by decide)]; exact p4) (by rw [uF_s]; omega) (by rw [uF_n (by decide), hB 41 (by decide) (by decide)]; exact p5) (x := true)) (fun _ _ w => w.elim) (fun r_20 h_20 hp => ?_)
      obtain ⟨rfl, rfl⟩ := hp
      refine gg_aload_n dX1_takeLine_23 rfl rfl ?_
      subst hQF9
      refine gg_aret dX1_takeLine_24 rfl rfl rfl ⟨(Nat.le_of_ble_eq_true rfl), (Nat.le_of_ble_eq_true rfl)⟩ ?_
      refine ⟨ι', B', ?_, hB, hX, ?_⟩
      · rw [if_pos e9, if_pos rfl]
      · exact Or.inl ⟨e9, q, rfl, hq9⟩
  · refine gg_astore_n dX1_takeLine_9 rfl (Nat.le_of_ble_eq_true rfl) rfl ?_
    refine gg_aload_n dX1_takeLine_10 rfl rfl ?_
    refine gg_aload_n dX1_takeLine_11 rfl rfl ?_
    refine gg_ifnull (tgt := 19) dX1_takeLine_12 (by decide) rfl (fun c_12 => ?_) (fun a_12 c_12 => ?_)
    · refine gi_iconst dX1_takeLine_19 ?_
      refine gc_X1_36 rfl dX1_takeLine_20 ⟨(Nat.le_of_ble_eq_true rfl), (Nat.le_of_ble_eq_true rfl)⟩ ⟨(Nat.le_of_ble_eq_true rfl), (Nat.le_of_ble_eq_true rfl)⟩ (Nat.le_of_ble_eq_true rfl) (HAt.mu gst_40) (c_X1_close (h := (h.1, ι')) (G := uF G 3 (parseL (B 41) (G 4) 12 0).2.1) (B := B') (by rw [uF_n (by decide)]; exact p4) (by rw [uF_s]; omega) (by rw [uF_n (by decide), hB 41 (by decide) (by decide)]; exact p5) (x := false)) (fun _ _ w => w.elim) (fun r_20 h_20 hp => ?_)
      obtain ⟨rfl, rfl⟩ := hp
      refine gg_aload_n dX1_takeLine_23 rfl rfl ?_
      subst hQF9
      refine gg_aret dX1_takeLine_24 rfl rfl rfl ⟨(Nat.le_of_ble_eq_true rfl), (Nat.le_of_ble_eq_true rfl)⟩ ?_
      refine ⟨ι', B', ?_, hB, hX, ?_⟩
      · rw [if_neg (show ¬ (false = true) by decide), if_neg (show ¬ ((parseL (B 41) (G 4) 12 0).1 = true) by rw [e9]; decide), uF_s]
      · exact Or.inr ⟨e9, rfl⟩
    · cases c_12
set_option maxRecDepth 100000 in
set_option maxHeartbeats 4000000 in
theorem c_X1_takeMetre {Γ : GT} {h : XH} {G : Nat → Int} {B : Nat → Int → Int} (p4 : 0 ≤ G 4 ∧ G 4 ≤ 60) (p5 : ∀ k, 0 ≤ k → k < G 4 → 0 ≤ B 41 k ∧ B 41 k < 65536) : Ct Γ M_X1_takeMetre [.ref (g_L Γ 40)] (gst Γ h G B) (fun r h9 => ∃ (ι' : Nat → Option XE), h9 = gst Γ (h.1, ι') (uF (if (pMt (B 41) (G 4)).1 = true then uF G 3 (pMt (B 41) (G 4)).2.1 else uF (uF G 3 (pMt (B 41) (G 4)).2.1) 5 (pMt (B 41) (G 4)).2.1) 4 0) B ∧ ext h.2 ι' ∧ (((pMt (B 41) (G 4)).1 = true ∧ ∃ q : Nat, r = some (.ref q) ∧ MtAt ι' q (pMt (B 41) (G 4)).2.2.1 (pMt (B 41) (G 4)).2.2.2.1 (pMt (B 41) (G 4)).2.2.2.2) ∨ ((pMt (B 41) (G 4)).1 = false ∧ r = some .null))) (fun _ _ => False) := by
  refine Ct.of rfl (by decide +kernel) (Nat.le_of_ble_eq_true rfl) ?_
  generalize hQF9 : QM Γ _ _ _ = QF9
  refine gg_aload_n dX1_takeMetre_0 rfl rfl ?_
  refine gi_iconst dX1_takeMetre_1 ?_
  refine gk_putX1_22 rfl dX1_takeMetre_2 (by (try simp only [uF_ss, uF_cc, id_eq, Nat.reduceLT, reduceCtorEq]); rfl) ?_
  refine gg_aload_n dX1_takeMetre_5 rfl rfl ?_
  refine gc_X1_40 rfl dX1_takeMetre_6 ⟨(Nat.le_of_ble_eq_true rfl), (Nat.le_of_ble_eq_true rfl)⟩ ⟨(Nat.le_of_ble_eq_true rfl), (Nat.le_of_ble_eq_true rfl)⟩ (Nat.le_of_ble_eq_true rfl) (HAt.mu gst_40) (c_X1_parseMetre (G := uF G 3 0) (by rw [uF_n (by decide)]; exact p4) uF_s (by rw [uF_n (by decide)]; exact p5)) (fun _ _ w => w.elim) (fun r_6 h_6 hp => ?_)
  obtain ⟨ι', rfl, hX, hpost⟩ := hp
  rw [uF_n (show 4 ≠ 3 by decide)] at hpost ⊢
  have pr := pMt_r (f := B 41) (n := G 4) p4.1
  rw [uF_ss]
  rcases hpost with ⟨e9, q, rfl, hq9⟩ | ⟨e9, rfl⟩
  · refine gg_astore_n dX1_takeMetre_9 rfl (Nat.le_of_ble_eq_true rfl) rfl ?_
    refine gg_aload_n dX1_takeMetre_10 rfl rfl ?_
    refine gg_aload_n dX1_takeMetre_11 rfl rfl ?_
    refine gg_ifnull (tgt := 19) dX1_takeMetre_12 (by decide) rfl (fun c_12 => ?_) (fun a_12 c_12 => ?_)
    · cases c_12
    · refine gi_iconst dX1_takeMetre_15 ?_
      refine gg_goto (tgt := 20) dX1_takeMetre_16 (by decide) ?_
      refine gc_X1_36 rfl dX1_takeMetre_20 ⟨(Nat.le_of_ble_eq_true rfl), (Nat.le_of_ble_eq_true rfl)⟩ ⟨(Nat.le_of_ble_eq_true rfl), (Nat.le_of_ble_eq_true rfl)⟩ (Nat.le_of_ble_eq_true rfl) (HAt.mu gst_40) (c_X1_close (h := (h.1, ι')) (G := uF G 3 (pMt (B 41) (G 4)).2.1) (B := B) (by rw [uF_n (by decide)]; exact p4) (by rw [uF_s]; omega) (by rw [uF_n (by decide)]; exact p5) (x := true)) (fun _ _ w => w.elim) (fun r_20 h_20 hp => ?_)
      obtain ⟨rfl, rfl⟩ := hp
      refine gg_aload_n dX1_takeMetre_23 rfl rfl ?_
      subst hQF9
      refine gg_aret dX1_takeMetre_24 rfl rfl rfl ⟨(Nat.le_of_ble_eq_true rfl), (Nat.le_of_ble_eq_true rfl)⟩ ?_
      refine ⟨ι', ?_, hX, ?_⟩
      · rw [if_pos e9, if_pos rfl]
      · exact Or.inl ⟨e9, q, rfl, hq9⟩
  · refine gg_astore_n dX1_takeMetre_9 rfl (Nat.le_of_ble_eq_true rfl) rfl ?_
    refine gg_aload_n dX1_takeMetre_10 rfl rfl ?_
    refine gg_aload_n dX1_takeMetre_11 rfl rfl ?_
    refine gg_ifnull (tgt := 19) dX1_takeMetre_12 (by decide) rfl (fun c_12 => ?_) (fun a_12 c_12 => ?_)
    · refine gi_iconst dX1_takeMetre_19 ?_
      refine gc_X1_36 rfl dX1_takeMetre_20 ⟨(Nat.le_of_ble_eq_true rfl), (Nat.le_of_ble_eq_true rfl)⟩ ⟨(Nat.le_of_ble_eq_true rfl), (Nat.le_of_ble_eq_true rfl)⟩ (Nat.le_of_ble_eq_true rfl) (HAt.mu gst_40) (c_X1_close (h := (h.1, ι')) (G := uF G 3 (pMt (B 41) (G 4)).2.1) (B := B) (by rw [uF_n (by decide)]; exact p4) (by rw [uF_s]; omega) (by rw [uF_n (by decide)]; exact p5) (x := false)) (fun _ _ w => w.elim) (fun r_20 h_20 hp => ?_)
      obtain ⟨rfl, rfl⟩ := hp
      refine gg_aload_n dX1_takeMetre_23 rfl rfl ?_
      subst hQF9
      refine gg_aret dX1_takeMetre_24 rfl rfl rfl ⟨(Nat.le_of_ble_eq_true rfl), (Nat.le_of_ble_eq_true rfl)⟩ ?_
      refine ⟨ι', ?_, hX, ?_⟩
      · rw [if_neg (show ¬ (false = true) by decide), if_neg (show ¬ ((pMt (B 41) (G 4)).1 = true) by rw [e9]; decide), uF_s]
      · exact Or.inr ⟨e9, rfl⟩
    · cases c_12
set_option maxRecDepth 100000 in
set_option maxHeartbeats 4000000 in
theorem c_X1_takeMarking {Γ : GT} {h : XH} {G : Nat → Int} {B : Nat → Int → Int} (p4 : 0 ≤ G 4 ∧ G 4 ≤ 60) (p5 : ∀ k, 0 ≤ k → k < G 4 → 0 ≤ B 41 k ∧ B 41 k < 65536) {wv : Int} (hw : wv = wlen (B 41) (G 4) 12 0) : Ct Γ M_X1_takeMarking [.ref (g_L Γ 40)] (gst Γ h G B) (fun r h9 => ∃ (ι' : Nat → Option XE), h9 = gst Γ (h.1, ι') (uF (if (rxO (B 41) (G 4) wv ∧ dgR (B 41) (G 4) 6 (wv + 1) ≠ 0 ∧ wv + 1 + dgR (B 41) (G 4) 6 (wv + 1) = G 4) then uF G 3 (if rxO (B 41) (G 4) wv then wv + 1 + dgR (B 41) (G 4) 6 (wv + 1) else wv) else uF (uF G 3 (if rxO (B 41) (G 4) wv then wv + 1 + dgR (B 41) (G 4) 6 (wv + 1) else wv)) 5 (if rxO (B 41) (G 4) wv then wv + 1 + dgR (B 41) (G 4) 6 (wv + 1) else wv)) 4 0) B ∧ ext h.2 ι' ∧ (((rxO (B 41) (G 4) wv ∧ dgR (B 41) (G 4) 6 (wv + 1) ≠ 0 ∧ wv + 1 + dgR (B 41) (G 4) 6 (wv + 1) = G 4) ∧ ∃ q : Nat, r = some (.ref q) ∧ MkO ι' q (B 41) wv (dgR (B 41) (G 4) 6 (wv + 1)) (fun k => B 41 (wv + 1 + k) - 48)) ∨ (¬ (rxO (B 41) (G 4) wv ∧ dgR (B 41) (G 4) 6 (wv + 1) ≠ 0 ∧ wv + 1 + dgR (B 41) (G 4) 6 (wv + 1) = G 4) ∧ r = some .null))) (fun _ _ => False) := by
  refine Ct.of rfl (by decide +kernel) (Nat.le_of_ble_eq_true rfl) ?_
  generalize hQF9 : QM Γ _ _ _ = QF9
  refine gg_aload_n dX1_takeMarking_0 rfl rfl ?_
  refine gi_iconst dX1_takeMarking_1 ?_
  refine gk_putX1_22 rfl dX1_takeMarking_2 (by (try simp only [uF_ss, uF_cc, id_eq, Nat.reduceLT, reduceCtorEq]); rfl) ?_
  refine gg_aload_n dX1_takeMarking_5 rfl rfl ?_
  refine gc_X1_44 rfl dX1_takeMarking_6 ⟨(Nat.le_of_ble_eq_true rfl), (Nat.le_of_ble_eq_true rfl)⟩ ⟨(Nat.le_of_ble_eq_true rfl), (Nat.le_of_ble_eq_true rfl)⟩ (Nat.le_of_ble_eq_true rfl) (HAt.mu gst_40) (c_X1_parseMarking (G := uF G 3 0) (by rw [uF_n (by decide)]; exact p4) uF_s (by rw [uF_n (by decide)]; exact p5) (wv := wv) (by rw [uF_n (show 4 ≠ 3 by decide)]; exact hw)) (fun _ _ w => w.elim) (fun r_6 h_6 hp => ?_)
  obtain ⟨ι', rfl, hX, hpost⟩ := hp
  rw [uF_n (show 4 ≠ 3 by decide)] at hpost ⊢
  have wr := wlen_r (B 41) (G 4) 12 0
  rw [← hw] at wr
  have dr := dgR_r (B 41) (G 4) 6 (wv + 1)
  have pr : 0 ≤ (if rxO (B 41) (G 4) wv then wv + 1 + dgR (B 41) (G 4) 6 (wv + 1) else wv) ∧ (if rxO (B 41) (G 4) wv then wv + 1 + dgR (B 41) (G 4) 6 (wv + 1) else wv) ≤ 100 := by split <;> omega
  rw [uF_ss]
  rcases hpost with ⟨e9, q, rfl, hq9⟩ | ⟨e9, rfl⟩
  · refine gg_astore_n dX1_takeMarking_9 rfl (Nat.le_of_ble_eq_true rfl) rfl ?_
    refine gg_aload_n dX1_takeMarking_10 rfl rfl ?_
    refine gg_aload_n dX1_takeMarking_11 rfl rfl ?_
    refine gg_ifnull (tgt := 19) dX1_takeMarking_12 (by decide) rfl (fun c_12 => ?_) (fun a_12 c_12 => ?_)
    · cases c_12
    · refine gi_iconst dX1_takeMarking_15 ?_
      refine gg_goto (tgt := 20) dX1_takeMarking_16 (by decide) ?_
      refine gc_X1_36 rfl dX1_takeMarking_20 ⟨(Nat.le_of_ble_eq_true rfl), (Nat.le_of_ble_eq_true rfl)⟩ ⟨(Nat.le_of_ble_eq_true rfl), (Nat.le_of_ble_eq_true rfl)⟩ (Nat.le_of_ble_eq_true rfl) (HAt.mu gst_40) (c_X1_close (h := (h.1, ι')) (G := uF G 3 (if rxO (B 41) (G 4) wv then wv + 1 + dgR (B 41) (G 4) 6 (wv + 1) else wv)) (B := B) (by rw [uF_n (by decide)]; exact p4) (by rw [uF_s]; exact pr) (by rw [uF_n (by decide)]; exact p5) (x := true)) (fun _ _ w => w.elim) (fun r_20 h_20 hp => ?_)
      obtain ⟨rfl, rfl⟩ := hp
      refine gg_aload_n dX1_takeMarking_23 rfl rfl ?_
      subst hQF9
      refine gg_aret dX1_takeMarking_24 rfl rfl rfl ⟨(Nat.le_of_ble_eq_true rfl), (Nat.le_of_ble_eq_true rfl)⟩ ?_
      refine ⟨ι', ?_, hX, ?_⟩
      · rw [if_pos e9, if_pos rfl]
      · exact Or.inl ⟨e9, q, rfl, hq9⟩
  · refine gg_astore_n dX1_takeMarking_9 rfl (Nat.le_of_ble_eq_true rfl) rfl ?_
    refine gg_aload_n dX1_takeMarking_10 rfl rfl ?_
    refine gg_aload_n dX1_takeMarking_11 rfl rfl ?_
    refine gg_ifnull (tgt := 19) dX1_takeMarking_12 (by decide) rfl (fun c_12 => ?_) (fun a_12 c_12 => ?_)
    · refine gi_iconst dX1_takeMarking_19 ?_
      refine gc_X1_36 rfl dX1_takeMarking_20 ⟨(Nat.le_of_ble_eq_true rfl), (Nat.le_of_ble_eq_true rfl)⟩ ⟨(Nat.le_of_ble_eq_true rfl), (Nat.le_of_ble_eq_true rfl)⟩ (Nat.le_of_ble_eq_true rfl) (HAt.mu gst_40) (c_X1_close (h := (h.1, ι')) (G := uF G 3 (if rxO (B 41) (G 4) wv then wv + 1 + dgR (B 41) (G 4) 6 (wv + 1) else wv)) (B := B) (by rw [uF_n (by decide)]; exact p4) (by rw [uF_s]; exact pr) (by rw [uF_n (by decide)]; exact p5) (x := false)) (fun _ _ w => w.elim) (fun r_20 h_20 hp => ?_)
      obtain ⟨rfl, rfl⟩ := hp
      refine gg_aload_n dX1_takeMarking_23 rfl rfl ?_
      subst hQF9
      refine gg_aret dX1_takeMarking_24 rfl rfl rfl ⟨(Nat.le_of_ble_eq_true rfl), (Nat.le_of_ble_eq_true rfl)⟩ ?_
      refine ⟨ι', ?_, hX, ?_⟩
      · rw [if_neg (show ¬ (false = true) by decide), if_neg (e9), uF_s]
      · exact Or.inr ⟨e9, rfl⟩
    · cases c_12
