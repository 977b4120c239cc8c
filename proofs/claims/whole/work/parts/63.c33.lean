/-! the scanner: public methods, 1 -/
/-- the state that is written when one is remembered -/
def rmJ (G : Nat → Int) (B : Nat → Int → Int) : Nat := (if G 1 < 8 then B 31 (G 1) else B 31 0).toNat
def rmG (G : Nat → Int) (B : Nat → Int → Int) (b : Nat) : Nat → Int := uF (bcG (if G 1 < 8 then G else uF G 1 7) (rmJ G B) b) 1 (if G 1 < 8 then G 1 + 1 else 8)
def rmB (G : Nat → Int) (B : Nat → Int → Int) (b : Nat) : Nat → Int → Int := bcB (if G 1 < 8 then B else uA B 31 (rtH (B 31))) (rmJ G B) b
/-- the states remembered are others -/
def HIS (G : Nat → Int) (B : Nat → Int → Int) (b : Nat) : Prop := (0 ≤ G 1 ∧ G 1 ≤ 8) ∧ ∀ j, 0 ≤ j → j < 8 → ∃ bj : Nat, B 31 j = (bj : Int) ∧ bj ≤ 9 ∧ bj ≠ b
theorem HIS.j {G : Nat → Int} {B : Nat → Int → Int} {b : Nat} (H : HIS G B b) : rmJ G B ≤ 9 ∧ rmJ G B ≠ b := by
  unfold rmJ
  split
  · obtain ⟨bj, h1, h2, h3⟩ := H.2 (G 1) H.1.1 (by omega)
    rw [h1]; exact ⟨h2, h3⟩
  · obtain ⟨bj, h1, h2, h3⟩ := H.2 0 (by omega) (by omega)
    rw [h1]; exact ⟨h2, h3⟩
theorem rmG_l {G : Nat → Int} {B : Nat → Int → Int} {b k : Nat} (h : k < 100) (h1 : k ≠ 1) : rmG G B b k = G k := by
  unfold rmG; rw [uF_n h1, bcG_l h]; split
  · rfl
  · exact uF_n h1
theorem rmG_o {G : Nat → Int} {B : Nat → Int → Int} {b k : Nat} (H : HIS G B b) (h : 100 + 10 * b ≤ k ∧ k < 110 + 10 * b) : rmG G B b k = G k := by
  have hj := H.j
  unfold rmG bcG; rw [uF_n (by omega), uF_n (by omega)]; unfold cI; rw [if_neg (by omega)]; split
  · rfl
  · exact uF_n (by omega)
theorem rmB_o {G : Nat → Int} {B : Nat → Int → Int} {b k : Nat} (H : HIS G B b) (h : (32 ≤ k ∧ k < 100) ∨ (106 + 11 * b ≤ k ∧ k ≤ 110 + 11 * b)) : rmB G B b k = B k := by
  have hj := H.j
  unfold rmB bcB; rw [uA_n (by omega)]; unfold cR; rw [if_neg (by omega)]; split
  · rfl
  · exact uA_n (by omega)
theorem SW.rm {ι : Nat → Option XE} {G : Nat → Int} {B : Nat → Int → Int} {b mq : Nat} {kd ft c9 : Int} {a : Int → Int} (H : HIS G B b) (x : SW ι G B b mq kd ft c9 a) : SW ι (rmG G B b) (rmB G B b) b mq kd ft c9 a := by
  obtain ⟨x1, x2, x3, x4, x5, x6, x7⟩ := x
  refine ⟨x1, by rw [rmG_l (by omega) (by omega)]; exact x2, by rw [rmG_o H (by omega)]; exact x3, x4, ?_, ?_, by rw [rmG_o H (by omega)]; exact x7⟩
  · unfold ExM at x5 ⊢; rw [rmG_o H (by omega), rmB_o H (by omega)]; exact x5
  · obtain ⟨a1, b1, c1, d1, ix⟩ := x6
    exact ⟨a1, b1, c1, d1, by unfold IX at ix ⊢; rw [rmG_l (by decide) (by decide), rmG_l (by decide) (by decide), rmG_l (by decide) (by decide), rmG_l (by decide) (by decide)]; exact ix⟩
theorem LnD.rm {ι : Nat → Option XE} {G : Nat → Int} {B : Nat → Int → Int} {b d : Nat} {fL : Int → Int → Int} {nL : Int → Int} (hd : d ≤ 3) (H : HIS G B b) (x : LnD ι G B b d fL nL) : LnD ι (rmG G B b) (rmB G B b) b d fL nL := by
  unfold LnD at x ⊢; rw [rmG_o H (by omega), rmB_o H (by omega)]; exact x
theorem c_remember {Γ : GT} {h : XH} {G : Nat → Int} {B : Nat → Int → Int} {b mq : Nat} (hb9 : b ≤ 9) (g0 : G 0 = (b : Int)) (hmq : G (100 + 10 * b) = (mq : Int)) (WR9 : WR h.2 B) (H : HIS G B b) :
    Ct Γ M_X9_remember [.ref (g_L Γ 30)] (gst Γ h G B) (fun r h9 => r = none ∧ h9 = gst Γ h (rmG G B b) (rmB G B b)) (fun _ _ => False) := c_X9_remember hb9 g0 hmq WR9 H.1 H.2
set_option maxRecDepth 100000 in
set_option maxHeartbeats 4000000 in
theorem c_X9_exceptions {Γ : GT} {h : XH} {G : Nat → Int} {B : Nat → Int → Int} {b : Nat} (hb9 : b ≤ 9) (g0 : G 0 = (b : Int)) : Ct Γ M_X9_exceptions [.ref (g_L Γ 30)] (gst Γ h G B) (fun r h9 => r = some (.int (iN (G (102 + 10 * b)))) ∧ h9 = gst Γ h G B) (fun _ _ => False) := by
  refine Ct.of rfl (by decide +kernel) (Nat.le_of_ble_eq_true rfl) ?_
  generalize hQF9 : QM Γ _ _ _ = QF9
  refine gg_aload_n dX9_exceptions_0 rfl rfl ?_
  refine gk_getX9_65 rfl dX9_exceptions_1 g0 ?_
  refine gk_getX9_157 hb9 rfl dX9_exceptions_4 rfl ?_
  subst hQF9
  refine gg_iret dX9_exceptions_7 rfl rfl ⟨(Nat.le_of_ble_eq_true rfl), (Nat.le_of_ble_eq_true rfl)⟩ ?_
  exact ⟨rfl, rfl⟩
set_option maxRecDepth 100000 in
set_option maxHeartbeats 4000000 in
theorem c_X9_errorPosition {Γ : GT} {h : XH} {G : Nat → Int} {B : Nat → Int → Int} (h5 : InR (G 5)) : Ct Γ M_X9_errorPosition [.ref (g_L Γ 30)] (gst Γ h G B) (fun r h9 => G 5 ≠ -1 ∧ r = some (.int (iN (G 5))) ∧ h9 = gst Γ h G B) (fun E h9 => G 5 = -1 ∧ E = "java/util/NoSuchElementException" ∧ h9 = gst Γ h G B) := by
  refine Ct.of rfl (by decide +kernel) (Nat.le_of_ble_eq_true rfl) ?_
  generalize hQF9 : QM Γ _ _ _ = QF9
  refine gg_aload_n dX9_errorPosition_0 rfl rfl ?_
  refine gk_getX9_12 rfl dX9_errorPosition_1 ?_
  refine gk_getX9_93 rfl dX9_errorPosition_4 rfl ?_
  refine gi_iconst dX9_errorPosition_7 ?_
  refine gi_icmp_ne (tgt := 21) dX9_errorPosition_8 (by decide) h5 ⟨by omega, by omega⟩ (fun c_8 => ?_) (fun c_8 => ?_)
  · refine gg_aload_n dX9_errorPosition_21 rfl rfl ?_
    refine gk_getX9_12 rfl dX9_errorPosition_22 ?_
    refine gk_getX9_93 rfl dX9_errorPosition_25 rfl ?_
    subst hQF9
    refine gg_iret dX9_errorPosition_28 rfl rfl ⟨(Nat.le_of_ble_eq_true rfl), (Nat.le_of_ble_eq_true rfl)⟩ ?_
    exact ⟨c_8, rfl, rfl⟩
  · subst hQF9
    refine gg_throw (text := "no text had an error") thr_1 rfl (by decide) dX9_errorPosition_11 dX9_errorPosition_14 dX9_errorPosition_15 dX9_errorPosition_17 dX9_errorPosition_20 rfl ⟨(Nat.le_of_ble_eq_true rfl), (Nat.le_of_ble_eq_true rfl)⟩ ⟨(Nat.le_of_ble_eq_true rfl), (Nat.le_of_ble_eq_true rfl)⟩ ?_
    exact ⟨c_8, rfl, rfl⟩
set_option maxRecDepth 100000 in
set_option maxHeartbeats 4000000 in
theorem c_X9_feed {Γ : GT} {h : XH} {G : Nat → Int} {B : Nat → Int → Int} (p4 : 0 ≤ G 4 ∧ G 4 ≤ 60) (p3 : 0 ≤ G 3 ∧ G 3 ≤ 100) (p5 : ∀ k, 0 ≤ k → k < G 4 → 0 ≤ B 41 k ∧ B 41 k < 65536) {c : Int} (hc : 0 ≤ c ∧ c < 65536) : Ct Γ M_X9_feed [.ref (g_L Γ 30), .int (iN c)] (gst Γ h G B) (fun r h9 => G 4 < 60 ∧ r = some (.int (iN (G 4 + 1))) ∧ h9 = gst Γ h (uF G 4 (G 4 + 1)) (uA B 41 (up (B 41) (G 4) c))) (fun E h9 => ¬ G 4 < 60 ∧ E = "java/lang/IllegalStateException" ∧ h9 = gst Γ h G B) := by
  refine Ct.of rfl (by decide +kernel) (Nat.le_of_ble_eq_true rfl) ?_
  generalize hQF9 : QM Γ _ _ _ = QF9
  refine gg_aload_n dX9_feed_0 rfl rfl ?_
  refine gk_getX9_12 rfl dX9_feed_1 ?_
  refine gk_getX9_79 rfl dX9_feed_4 rfl ?_
  refine gi_bipush dX9_feed_7 (by decide) ?_
  refine gi_icmp_lt (tgt := 22) dX9_feed_9 (by decide) ⟨by omega, by omega⟩ ⟨by omega, by omega⟩ (fun c_9 => ?_) (fun c_9 => ?_)
  · refine gg_aload_n dX9_feed_22 rfl rfl ?_
    refine gk_getX9_12 rfl dX9_feed_23 ?_
    refine gg_iload_n dX9_feed_26 rfl ?_
    refine gc_X9_89 rfl dX9_feed_27 ⟨(Nat.le_of_ble_eq_true rfl), (Nat.le_of_ble_eq_true rfl)⟩ ⟨(Nat.le_of_ble_eq_true rfl), (Nat.le_of_ble_eq_true rfl)⟩ (Nat.le_of_ble_eq_true rfl) (HAt.mu gst_40) (c_X1_append p4 p3 p5 hc (by omega)) (fun _ _ w => w.elim) (fun r_27 h_27 hp => ?_)
    obtain ⟨rfl, rfl⟩ := hp
    subst hQF9
    refine gg_iret dX9_feed_30 rfl rfl ⟨(Nat.le_of_ble_eq_true rfl), (Nat.le_of_ble_eq_true rfl)⟩ ?_
    exact ⟨by omega, rfl, rfl⟩
  · subst hQF9
    refine gg_throw (text := "the input is full") thr_0 rfl (by decide) dX9_feed_12 dX9_feed_15 dX9_feed_16 dX9_feed_18 dX9_feed_21 rfl ⟨(Nat.le_of_ble_eq_true rfl), (Nat.le_of_ble_eq_true rfl)⟩ ⟨(Nat.le_of_ble_eq_true rfl), (Nat.le_of_ble_eq_true rfl)⟩ ?_
    exact ⟨by omega, rfl, rfl⟩
set_option maxRecDepth 100000 in
set_option maxHeartbeats 4000000 in
theorem c_X9_setTolerance {Γ : GT} {h : XH} {G : Nat → Int} {B : Nat → Int → Int} {b : Nat} (hb9 : b ≤ 9) (g0 : G 0 = (b : Int)) {mq : Nat} (hmq : G (100 + 10 * b) = (mq : Int)) (WR9 : WR h.2 B) (H9 : HIS G B b) {t : Int} (ht : InR t) : Ct Γ M_X9_setTolerance [.ref (g_L Γ 30), .int (iN t)] (gst Γ h G B) (fun r h9 => (0 ≤ t ∧ t ≤ 30) ∧ r = some (.int (iN (G (101 + 10 * b)))) ∧ h9 = gst Γ h (uF (rmG G B b) (101 + 10 * b) t) (rmB G B b)) (fun E h9 => ¬ (0 ≤ t ∧ t ≤ 30) ∧ E = "java/lang/IllegalArgumentException" ∧ h9 = gst Γ h G B) := by
  refine Ct.of rfl (by decide +kernel) (Nat.le_of_ble_eq_true rfl) ?_
  generalize hQF9 : QM Γ _ _ _ = QF9
  refine gg_iload_n dX9_setTolerance_0 rfl ?_
  refine gi_if_lt (tgt := 10) dX9_setTolerance_1 (by decide) ht (fun c_1 => ?_) (fun c_1 => ?_)
  · subst hQF9
    refine gg_throw (text := "no such tolerance") thr_2 rfl (by decide) dX9_setTolerance_10 dX9_setTolerance_13 dX9_setTolerance_14 dX9_setTolerance_16 dX9_setTolerance_19 rfl ⟨(Nat.le_of_ble_eq_true rfl), (Nat.le_of_ble_eq_true rfl)⟩ ⟨(Nat.le_of_ble_eq_true rfl), (Nat.le_of_ble_eq_true rfl)⟩ ?_
    exact ⟨by omega, rfl, rfl⟩
  · refine gg_iload_n dX9_setTolerance_4 rfl ?_
    refine gi_bipush dX9_setTolerance_5 (by decide) ?_
    refine gi_icmp_le (tgt := 20) dX9_setTolerance_7 (by decide) ht ⟨by omega, by omega⟩ (fun c_7 => ?_) (fun c_7 => ?_)
    · refine gg_aload_n dX9_setTolerance_20 rfl rfl ?_
      refine gc_X9_106 rfl dX9_setTolerance_21 ⟨(Nat.le_of_ble_eq_true rfl), (Nat.le_of_ble_eq_true rfl)⟩ ⟨(Nat.le_of_ble_eq_true rfl), (Nat.le_of_ble_eq_true rfl)⟩ (Nat.le_of_ble_eq_true rfl) (HAt.mu gst_30) (c_remember hb9 g0 hmq WR9 H9) (fun _ _ w => w.elim) (fun r_21 h_21 hp => ?_)
      obtain ⟨rfl, rfl⟩ := hp
      refine gg_aload_n dX9_setTolerance_24 rfl rfl ?_
      refine gk_getX9_65 rfl dX9_setTolerance_25 ((rmG_l (by decide) (by decide)).trans g0) ?_
      refine gk_getX9_138 hb9 rfl dX9_setTolerance_28 (rmG_o H9 (by omega)) ?_
      refine gg_istore_n dX9_setTolerance_31 (Nat.le_of_ble_eq_true rfl) rfl ?_
      refine gg_aload_n dX9_setTolerance_32 rfl rfl ?_
      refine gk_getX9_65 rfl dX9_setTolerance_33 ((rmG_l (by decide) (by decide)).trans g0) ?_
      refine gg_iload_n dX9_setTolerance_36 rfl ?_
      refine gk_putX9_138 hb9 rfl dX9_setTolerance_37 (by (try simp only [uF_ss, uF_cc, id_eq, Nat.reduceLT, reduceCtorEq]); rfl) ?_
      refine gg_iload_n dX9_setTolerance_40 rfl ?_
      subst hQF9
      refine gg_iret dX9_setTolerance_41 rfl rfl ⟨(Nat.le_of_ble_eq_true rfl), (Nat.le_of_ble_eq_true rfl)⟩ ?_
      exact ⟨⟨by omega, by omega⟩, rfl, rfl⟩
    · subst hQF9
      refine gg_throw (text := "no such tolerance") thr_2 rfl (by decide) dX9_setTolerance_10 dX9_setTolerance_13 dX9_setTolerance_14 dX9_setTolerance_16 dX9_setTolerance_19 rfl ⟨(Nat.le_of_ble_eq_true rfl), (Nat.le_of_ble_eq_true rfl)⟩ ⟨(Nat.le_of_ble_eq_true rfl), (Nat.le_of_ble_eq_true rfl)⟩ ?_
      exact ⟨by omega, rfl, rfl⟩
set_option maxRecDepth 100000 in
set_option maxHeartbeats 4000000 in
theorem c_X9_difference {Γ : GT} {h : XH} {G : Nat → Int} {B : Nat → Int → Int} {b : Nat} (hb9 : b ≤ 9) (g0 : G 0 = (b : Int)) {fL : Int → Int → Int → Int} {nL : Int → Int → Int} (LD : ∀ d : Nat, d ≤ 3 → LnD h.2 G B b d (fL d) (nL d)) {i j : Int} (hi : InR i) (hj : InR j) : Ct Γ M_X9_difference [.ref (g_L Γ 30), .int (iN i), .int (iN j)] (gst Γ h G B) (fun r h9 => ((0 ≤ i ∧ i ≤ 3) ∧ 0 ≤ j ∧ j ≤ 3) ∧ ∃ B' : Nat → Int → Int, r = some (.int (iN (drL (dfL (fL i.toNat) (fL j.toNat) (nL i.toNat) (nL j.toNat)) (B 37) (G (103 + 10 * b + j.toNat)) (G (103 + 10 * b + i.toNat)).toNat (G (103 + 10 * b + j.toNat))))) ∧ h9 = gst Γ h G B' ∧ frA [37] B B') (fun E h9 => ¬ ((0 ≤ i ∧ i ≤ 3) ∧ 0 ≤ j ∧ j ≤ 3) ∧ E = "java/lang/IndexOutOfBoundsException" ∧ h9 = gst Γ h G B) := by
  refine Ct.of rfl (by decide +kernel) (Nat.le_of_ble_eq_true rfl) ?_
  generalize hQF9 : QM Γ _ _ _ = QF9
  refine gg_aload_n dX9_difference_0 rfl rfl ?_
  refine gg_aload_n dX9_difference_1 rfl rfl ?_
  refine gg_iload_n dX9_difference_2 rfl ?_
  refine gc_X9_182 rfl dX9_difference_3 ⟨(Nat.le_of_ble_eq_true rfl), (Nat.le_of_ble_eq_true rfl)⟩ ⟨(Nat.le_of_ble_eq_true rfl), (Nat.le_of_ble_eq_true rfl)⟩ (Nat.le_of_ble_eq_true rfl) (HAt.mu gst_30) (c_X9_draftAt hb9 g0 hi) (fun E h8 hx => by subst hQF9; exact gx_out rfl ⟨(Nat.le_of_ble_eq_true rfl), (Nat.le_of_ble_eq_true rfl)⟩ (by obtain ⟨h1, h2, h3⟩ := hx; exact ⟨fun z => h1 z.1, h2, h3⟩)) (fun r_3 h_3 hp => ?_)
  obtain ⟨hi2, rfl, rfl⟩ := hp
  refine gg_aload_n dX9_difference_6 rfl rfl ?_
  refine gg_iload_n dX9_difference_7 rfl ?_
  refine gc_X9_182 rfl dX9_difference_8 ⟨(Nat.le_of_ble_eq_true rfl), (Nat.le_of_ble_eq_true rfl)⟩ ⟨(Nat.le_of_ble_eq_true rfl), (Nat.le_of_ble_eq_true rfl)⟩ (Nat.le_of_ble_eq_true rfl) (HAt.mu gst_30) (c_X9_draftAt hb9 g0 hj) (fun E h8 hx => by subst hQF9; exact gx_out rfl ⟨(Nat.le_of_ble_eq_true rfl), (Nat.le_of_ble_eq_true rfl)⟩ (by obtain ⟨h1, h2, h3⟩ := hx; exact ⟨fun z => h1 z.2, h2, h3⟩)) (fun r_8 h_8 hp => ?_)
  obtain ⟨hj2, rfl, rfl⟩ := hp
  refine gc_X9_347 rfl dX9_difference_11 ⟨(Nat.le_of_ble_eq_true rfl), (Nat.le_of_ble_eq_true rfl)⟩ ⟨(Nat.le_of_ble_eq_true rfl), (Nat.le_of_ble_eq_true rfl)⟩ (Nat.le_of_ble_eq_true rfl) (HAt.mu gst_30) (c_X9_distance hb9 (d := i.toNat) (d2 := j.toNat) (by omega) (by omega) (LD i.toNat (by omega)) (LD j.toNat (by omega))) (fun _ _ w => w.elim) (fun r_11 h_11 hp => ?_)
  obtain ⟨B', rfl, rfl, fr⟩ := hp
  subst hQF9
  refine gg_iret dX9_difference_14 rfl rfl ⟨(Nat.le_of_ble_eq_true rfl), (Nat.le_of_ble_eq_true rfl)⟩ ?_
  exact ⟨⟨hi2, hj2⟩, B', rfl, rfl, fr⟩
