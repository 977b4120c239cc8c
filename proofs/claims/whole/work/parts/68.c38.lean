/-! the scanner: public methods, 6 -/
set_option maxRecDepth 100000 in
set_option maxHeartbeats 4000000 in
theorem c_X9_dropException {Γ : GT} {h : XH} {G : Nat → Int} {B : Nat → Int → Int} {b : Nat} (hb9 : b ≤ 9) (g0 : G 0 = (b : Int)) {mq : Nat} (hmq : G (100 + 10 * b) = (mq : Int)) (WR9 : WR h.2 B) (H9 : HIS G B b) {a : Int → Int} (X9 : ExM h.2 G B b a) {i : Int} (hi : InR i) : Ct Γ M_X9_dropException [.ref (g_L Γ 30), .int (iN i)] (gst Γ h G B) (fun r h9 => (0 ≤ i ∧ i < a 4) ∧ r = some (.int (iN (a (9 + 20 * i + 1 + 12)))) ∧ h9 = gst Γ h (uF (rmG G B b) (102 + 10 * b) (G (102 + 10 * b) - 1)) (uA (rmB G B b) (110 + 11 * b) (up (shd ((rmB G B b) (110 + 11 * b)) i (G (102 + 10 * b) - 1) 1) (G (102 + 10 * b) - 1) (-1)))) (fun E h9 => ¬ (0 ≤ i ∧ i < a 4) ∧ E = "java/lang/IndexOutOfBoundsException" ∧ h9 = gst Γ h G B) := by
  refine Ct.of rfl (by decide +kernel) (Nat.le_of_ble_eq_true rfl) ?_
  generalize hQF9 : QM Γ _ _ _ = QF9
  have xc := X9.1
  refine gg_aload_n dX9_dropException_0 rfl rfl ?_
  refine gk_getX9_65 rfl dX9_dropException_1 g0 ?_
  refine gg_iload_n dX9_dropException_4 rfl ?_
  refine gc_X9_166 rfl dX9_dropException_5 ⟨(Nat.le_of_ble_eq_true rfl), (Nat.le_of_ble_eq_true rfl)⟩ ⟨(Nat.le_of_ble_eq_true rfl), (Nat.le_of_ble_eq_true rfl)⟩ (Nat.le_of_ble_eq_true rfl) (HAt.mu (gst_st hb9)) (c_X7_markingAt_M hb9 X9 hi) (fun _ _ w => w.elim) (fun r_5 h_5 hp => ?_)
  obtain ⟨o, rfl, rfl, hpost⟩ := hp
  rcases hpost with ⟨e9, rfl⟩ | ⟨e9, q, rfl, hq9⟩
  · refine gg_astore_n dX9_dropException_8 rfl (Nat.le_of_ble_eq_true rfl) rfl ?_
    refine gg_aload_n dX9_dropException_9 rfl rfl ?_
    refine gg_ifnonnull (tgt := 23) dX9_dropException_10 (by decide) rfl (fun a_10 c_10 => ?_) (fun c_10 => ?_)
    · cases c_10
    · subst hQF9
      refine gg_throw (text := "no such exception") thr_3 rfl (by decide) dX9_dropException_13 dX9_dropException_16 dX9_dropException_17 dX9_dropException_19 dX9_dropException_22 rfl ⟨(Nat.le_of_ble_eq_true rfl), (Nat.le_of_ble_eq_true rfl)⟩ ⟨(Nat.le_of_ble_eq_true rfl), (Nat.le_of_ble_eq_true rfl)⟩ ?_
      exact ⟨e9, rfl, rfl⟩
  · obtain ⟨wq, aM, m9, k1, kW, kr⟩ := id hq9
    refine gg_astore_n dX9_dropException_8 rfl (Nat.le_of_ble_eq_true rfl) rfl ?_
    refine gg_aload_n dX9_dropException_9 rfl rfl ?_
    refine gg_ifnonnull (tgt := 23) dX9_dropException_10 (by decide) rfl (fun a_10 c_10 => ?_) (fun c_10 => ?_)
    · refine gg_aload_n dX9_dropException_23 rfl rfl ?_
      refine gc_X9_106 rfl dX9_dropException_24 ⟨(Nat.le_of_ble_eq_true rfl), (Nat.le_of_ble_eq_true rfl)⟩ ⟨(Nat.le_of_ble_eq_true rfl), (Nat.le_of_ble_eq_true rfl)⟩ (Nat.le_of_ble_eq_true rfl) (HAt.mu gst_30) (c_remember hb9 g0 hmq WR9 H9) (fun _ _ w => w.elim) (fun r_24 h_24 hp => ?_)
      obtain ⟨rfl, rfl⟩ := hp
      refine gg_aload_n dX9_dropException_27 rfl rfl ?_
      refine gk_getX9_65 rfl dX9_dropException_28 ((rmG_l (by decide) (by decide)).trans g0) ?_
      refine gg_iload_n dX9_dropException_31 rfl ?_
      refine gc_X9_175 rfl dX9_dropException_32 ⟨(Nat.le_of_ble_eq_true rfl), (Nat.le_of_ble_eq_true rfl)⟩ ⟨(Nat.le_of_ble_eq_true rfl), (Nat.le_of_ble_eq_true rfl)⟩ (Nat.le_of_ble_eq_true rfl) (HAt.mu (gst_st hb9)) (c_X7_removeMarking hb9 (by rw [rmG_o H9 (by omega)]; omega) (fun l l0 l1 => by rw [rmB_o H9 (by omega)]; exact (WR9 b hb9).2 l l0 l1) (i := i) (by rw [rmG_o H9 (by omega)]; omega)) (fun _ _ w => w.elim) (fun r_32 h_32 hp => ?_)
      obtain ⟨rfl, rfl⟩ := hp
      rw [rmG_o H9 (k := (102 + 10 * b)) (by omega)]
      refine gg_aload_n dX9_dropException_35 rfl rfl ?_
      refine gf_X9_179 rfl dX9_dropException_36 (HAt.io k1) rfl ?_
      subst hQF9
      refine gg_iret dX9_dropException_39 rfl rfl ⟨(Nat.le_of_ble_eq_true rfl), (Nat.le_of_ble_eq_true rfl)⟩ ?_
      exact ⟨e9, rfl, rfl⟩
    · cases c_10
def mtV (kd ft c9 w : Int) : Int := if w = 0 then kd else if w = 1 then ft else if w = 2 then c9 else if w = 3 then ft * szk kd else ((plN (fun p => strK kd p 0) (ft * szk kd).toNat : Nat) : Int)
set_option maxRecDepth 100000 in
set_option maxHeartbeats 4000000 in
theorem c_X9_metre {Γ : GT} {h : XH} {G : Nat → Int} {B : Nat → Int → Int} {b : Nat} (hb9 : b ≤ 9) (g0 : G 0 = (b : Int)) {mq : Nat} {kd ft c9 : Int} (hmq : G (100 + 10 * b) = (mq : Int)) (M1 : MtAt h.2 mq kd ft c9) {w : Int} (hw : InR w) : Ct Γ M_X9_metre [.ref (g_L Γ 30), .int (iN w)] (gst Γ h G B) (fun r h9 => (0 ≤ w ∧ w ≤ 4) ∧ r = some (.int (iN (mtV kd ft c9 w))) ∧ h9 = gst Γ h G B) (fun E h9 => ¬ (0 ≤ w ∧ w ≤ 4) ∧ E = "java/lang/IllegalArgumentException" ∧ h9 = gst Γ h G B) := by
  refine Ct.of rfl (by decide +kernel) (Nat.le_of_ble_eq_true rfl) ?_
  generalize hQF9 : QM Γ _ _ _ = QF9
  refine gg_iload_n dX9_metre_0 rfl ?_
  by_cases w_1_0 : w = 0
  · refine gi_tab (tgt := 36) dX9_metre_1 hw (by omega) (by omega) (by rw [w_1_0]; rfl) (by decide) ?_
    refine gg_aload_n dX9_metre_36 rfl rfl ?_
    refine gk_getX9_65 rfl dX9_metre_37 g0 ?_
    refine gk_getX9_109 hb9 rfl dX9_metre_40 hmq ?_
    refine gf_X9_113 rfl dX9_metre_43 (HAt.io M1.2) rfl ?_
    subst hQF9
    refine gg_iret dX9_metre_46 rfl rfl ⟨(Nat.le_of_ble_eq_true rfl), (Nat.le_of_ble_eq_true rfl)⟩ ?_
    exact ⟨⟨by omega, by omega⟩, by rw [w_1_0]; rfl, rfl⟩
  by_cases w_1_1 : w = 1
  · refine gi_tab (tgt := 47) dX9_metre_1 hw (by omega) (by omega) (by rw [w_1_1]; rfl) (by decide) ?_
    refine gg_aload_n dX9_metre_47 rfl rfl ?_
    refine gk_getX9_65 rfl dX9_metre_48 g0 ?_
    refine gk_getX9_109 hb9 rfl dX9_metre_51 hmq ?_
    refine gf_X9_116 rfl dX9_metre_54 (HAt.io M1.2) rfl ?_
    subst hQF9
    refine gg_iret dX9_metre_57 rfl rfl ⟨(Nat.le_of_ble_eq_true rfl), (Nat.le_of_ble_eq_true rfl)⟩ ?_
    exact ⟨⟨by omega, by omega⟩, by rw [w_1_1]; rfl, rfl⟩
  by_cases w_1_2 : w = 2
  · refine gi_tab (tgt := 58) dX9_metre_1 hw (by omega) (by omega) (by rw [w_1_2]; rfl) (by decide) ?_
    refine gg_aload_n dX9_metre_58 rfl rfl ?_
    refine gk_getX9_65 rfl dX9_metre_59 g0 ?_
    refine gk_getX9_109 hb9 rfl dX9_metre_62 hmq ?_
    refine gf_X9_119 rfl dX9_metre_65 (HAt.io M1.2) rfl ?_
    subst hQF9
    refine gg_iret dX9_metre_68 rfl rfl ⟨(Nat.le_of_ble_eq_true rfl), (Nat.le_of_ble_eq_true rfl)⟩ ?_
    exact ⟨⟨by omega, by omega⟩, by rw [w_1_2]; rfl, rfl⟩
  by_cases w_1_3 : w = 3
  · refine gi_tab (tgt := 69) dX9_metre_1 hw (by omega) (by omega) (by rw [w_1_3]; rfl) (by decide) ?_
    refine gg_aload_n dX9_metre_69 rfl rfl ?_
    refine gk_getX9_65 rfl dX9_metre_70 g0 ?_
    refine gk_getX9_109 hb9 rfl dX9_metre_73 hmq ?_
    refine gf_X9_128 rfl dX9_metre_76 (HAt.io M1.2) rfl ?_
    subst hQF9
    refine gg_iret dX9_metre_79 rfl rfl ⟨(Nat.le_of_ble_eq_true rfl), (Nat.le_of_ble_eq_true rfl)⟩ ?_
    exact ⟨⟨by omega, by omega⟩, by rw [w_1_3]; rfl, rfl⟩
  by_cases w_1_4 : w = 4
  · refine gi_tab (tgt := 80) dX9_metre_1 hw (by omega) (by omega) (by rw [w_1_4]; rfl) (by decide) ?_
    refine gg_aload_n dX9_metre_80 rfl rfl ?_
    refine gk_getX9_65 rfl dX9_metre_81 g0 ?_
    refine gk_getX9_109 hb9 rfl dX9_metre_84 hmq ?_
    refine gf_X9_131 rfl dX9_metre_87 (HAt.io M1.2) rfl ?_
    subst hQF9
    refine gg_iret dX9_metre_90 rfl rfl ⟨(Nat.le_of_ble_eq_true rfl), (Nat.le_of_ble_eq_true rfl)⟩ ?_
    exact ⟨⟨by omega, by omega⟩, by rw [w_1_4]; rfl, rfl⟩
  refine gi_tabD (tgt := 91) dX9_metre_1 hw (by omega) (by decide) ?_
  subst hQF9
  refine gg_throw (text := "a metre has no such number") thr_2 rfl (by decide) dX9_metre_91 dX9_metre_94 dX9_metre_95 dX9_metre_97 dX9_metre_100 rfl ⟨(Nat.le_of_ble_eq_true rfl), (Nat.le_of_ble_eq_true rfl)⟩ ⟨(Nat.le_of_ble_eq_true rfl), (Nat.le_of_ble_eq_true rfl)⟩ ?_
  exact ⟨by omega, rfl, rfl⟩
set_option maxRecDepth 100000 in
set_option maxHeartbeats 4000000 in
theorem c_X9_scans {Γ : GT} {h : XH} {G : Nat → Int} {B : Nat → Int → Int} {b mq : Nat} {kd ft c9 : Int} {a : Int → Int} (S : SW h.2 G B b mq kd ft c9 a) {fL : Int → Int → Int → Int} {nL : Int → Int → Int} (LD : ∀ d : Nat, d ≤ 3 → LnD h.2 G B b d (fL d) (nL d)) {i l : Int} (hi : InR i) (hl : InR l) : Ct Γ M_X9_scans [.ref (g_L Γ 30), .int (iN i), .int (iN l)] (gst Γ h G B) (fun r h9 => ((0 ≤ i ∧ i ≤ 3) ∧ 0 ≤ l ∧ l < G (103 + 10 * b + i.toNat)) ∧ ∃ (G' : Nat → Int) (B' : Nat → Int → Int), r = some (.int (iN (srch (dtA a (fL i.toNat l) (nL i.toNat l) kd ft c9)).2)) ∧ h9 = gst Γ h G' B' ∧ frS G G' B B') (fun E h9 => ¬ ((0 ≤ i ∧ i ≤ 3) ∧ 0 ≤ l ∧ l < G (103 + 10 * b + i.toNat)) ∧ E = "java/lang/IndexOutOfBoundsException" ∧ h9 = gst Γ h G B) := by
  refine Ct.of rfl (by decide +kernel) (Nat.le_of_ble_eq_true rfl) ?_
  generalize hQF9 : QM Γ _ _ _ = QF9
  obtain ⟨hb9, g0, hm9, M1, X9, I9, T9⟩ := S
  refine gg_aload_n dX9_scans_0 rfl rfl ?_
  refine gg_aload_n dX9_scans_1 rfl rfl ?_
  refine gg_iload_n dX9_scans_2 rfl ?_
  refine gg_iload_n dX9_scans_3 rfl ?_
  refine gc_X9_208 rfl dX9_scans_4 ⟨(Nat.le_of_ble_eq_true rfl), (Nat.le_of_ble_eq_true rfl)⟩ ⟨(Nat.le_of_ble_eq_true rfl), (Nat.le_of_ble_eq_true rfl)⟩ (Nat.le_of_ble_eq_true rfl) (HAt.mu gst_30) (c_X9_lineAt hb9 g0 (fun d hd => (LD d hd).1) (fun d l => LDs.c LD d l) hi hl) (fun E h8 hx => by subst hQF9; exact gx_out rfl ⟨(Nat.le_of_ble_eq_true rfl), (Nat.le_of_ble_eq_true rfl)⟩ (by obtain ⟨h1, h2, h3⟩ := hx; exact ⟨h1, h2, h3⟩)) (fun r_4 h_4 hp => ?_)
  obtain ⟨hil, rfl, rfl⟩ := hp
  obtain ⟨q1, hq1, L1⟩ := (LD i.toNat (by omega)).2 l hil.2.1 hil.2.2
  rw [hq1, Int.toNat_natCast]
  refine gc_X9_324 rfl dX9_scans_7 ⟨(Nat.le_of_ble_eq_true rfl), (Nat.le_of_ble_eq_true rfl)⟩ ⟨(Nat.le_of_ble_eq_true rfl), (Nat.le_of_ble_eq_true rfl)⟩ (Nat.le_of_ble_eq_true rfl) (HAt.mu gst_30) (c_X9_bestKey hb9 g0 hm9 M1 X9 I9 L1) (fun _ _ w => w.elim) (fun r_7 h_7 hp => ?_)
  obtain ⟨G2, B2, rfl, rfl, hs9⟩ := hp
  refine gg_pop dX9_scans_10 rfl ?_
  refine gg_aload_n dX9_scans_11 rfl rfl ?_
  refine gk_getX9_39 rfl dX9_scans_12 ?_
  refine gk_getX9_334 rfl dX9_scans_15 hs9.2.2.2.2.2.1 ?_
  subst hQF9
  refine gg_iret dX9_scans_18 rfl rfl ⟨(Nat.le_of_ble_eq_true rfl), (Nat.le_of_ble_eq_true rfl)⟩ ?_
  exact ⟨hil, G2, B2, rfl, rfl, hs9.fr⟩
