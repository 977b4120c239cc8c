/-! the scanner: public methods, 13 -/
/-- a number of a line -/
def lnV (a f : Int → Int) (n c5 w : Int) : Int := if w = 0 then pwL f n else if w = 1 then smS (sI a f n) (pwL f n).toNat else if w = 2 then ((plN (eI f n) (pwL f n).toNat : Nat) : Int) else if w = 3 then (grd (eI f n) (sI a f n) (pwL f n).toNat).1 else if w = 4 then btc ((plN (pwC f n) (pwL f n).toNat : Nat) : Int) 12 else if w = 5 then c5 else lwZ f n - bi (wS (lwG f n) (lwZ f n)) - rsE a (lwG f n) (lwZ f n)
theorem prE_r9 {D : DT} {i z : Int} (hD : sOK D) (h0 : 0 ≤ dL D) : -1 ≤ prE D i z ∧ prE D i z ≤ 400 := by
  have h := pzS_r (i := i) (z := z) hD (dL D).toNat (by omega)
  have e := edP_r D (pzS D i z (dL D).toNat).2.1
  have := hD.1
  unfold prE; split
  · omega
  · split <;> omega
/-- a number of a word -/
def wdV (a f : Int → Int) (n w u : Int) : Int := if u = 0 then pwN f n w else if u = 1 then wC (fw f n w) (pwN f n w) else if u = 2 then sI a f n w else if u = 3 then bi (pwC f n w) else if u = 4 then xI a f n w else tld (mI a f n w) (sI a f n w).toNat
theorem frU.tr {G G1 G2 : Nat → Int} {B B1 B2 : Nat → Int → Int} (x : frU G G1 B B1) (y : frU G1 G2 B1 B2) : frU G G2 B B2 :=
  ⟨fun j hj => (y.1 j hj).trans (x.1 j hj), fun j hj => (y.2.1 j hj).trans (x.2.1 j hj), y.2.2⟩
set_option maxRecDepth 100000 in
set_option maxHeartbeats 4000000 in
theorem c_X9_line {Γ : GT} {h : XH} {G : Nat → Int} {B : Nat → Int → Int} {b mq : Nat} {kd ft c9 : Int} {a : Int → Int} (S : SW h.2 G B b mq kd ft c9 a) {fL : Int → Int → Int → Int} {nL : Int → Int → Int} (LD : ∀ d : Nat, d ≤ 3 → LnD h.2 G B b d (fL d) (nL d)) {i l w : Int} (hi : InR i) (hl : InR l) (hw : InR w) : Ct Γ M_X9_line [.ref (g_L Γ 30), .int (iN i), .int (iN l), .int (iN w)] (gst Γ h G B) (fun r h9 => ((0 ≤ i ∧ i ≤ 3) ∧ 0 ≤ l ∧ l < G (103 + 10 * b + i.toNat)) ∧ (0 ≤ w ∧ w ≤ 6) ∧ ∃ (G' : Nat → Int) (B' : Nat → Int → Int), r = some (.int (iN (lnV a (fL i.toNat l) (nL i.toNat l) ((clS a (fL i) (nL i) (B 36) (G (103 + 10 * b + i.toNat)).toNat).1 l) w))) ∧ h9 = gst Γ h G' B' ∧ frU G G' B B') (fun E h9 => (¬ ((0 ≤ i ∧ i ≤ 3) ∧ 0 ≤ l ∧ l < G (103 + 10 * b + i.toNat)) ∧ E = "java/lang/IndexOutOfBoundsException" ∧ h9 = gst Γ h G B) ∨ (((0 ≤ i ∧ i ≤ 3) ∧ 0 ≤ l ∧ l < G (103 + 10 * b + i.toNat)) ∧ ¬ (0 ≤ w ∧ w ≤ 6) ∧ E = "java/lang/IllegalArgumentException" ∧ ∃ (G' : Nat → Int) (B' : Nat → Int → Int), h9 = gst Γ h G' B' ∧ frU G G' B B')) := by
  refine Ct.of rfl (by decide +kernel) (Nat.le_of_ble_eq_true rfl) ?_
  generalize hQF9 : QM Γ _ _ _ = QF9
  have S0 := S
  obtain ⟨hb9, g0, hm9, M1, X9, I9, T9⟩ := S
  refine gg_aload_n dX9_line_0 rfl rfl ?_
  refine gg_iload_n dX9_line_1 rfl ?_
  refine gg_iload_n dX9_line_2 rfl ?_
  refine gc_X9_208 rfl dX9_line_3 ⟨(Nat.le_of_ble_eq_true rfl), (Nat.le_of_ble_eq_true rfl)⟩ ⟨(Nat.le_of_ble_eq_true rfl), (Nat.le_of_ble_eq_true rfl)⟩ (Nat.le_of_ble_eq_true rfl) (HAt.mu gst_30) (c_X9_lineAt hb9 g0 (fun d hd => (LD d hd).1) (fun d l => LDs.c LD d l) hi hl) (fun E h8 hx => by subst hQF9; exact gx_out rfl ⟨(Nat.le_of_ble_eq_true rfl), (Nat.le_of_ble_eq_true rfl)⟩ (by obtain ⟨h1, h2, h3⟩ := hx; exact Or.inl ⟨h1, h2, h3⟩)) (fun r_3 h_3 hp => ?_)
  obtain ⟨hil, rfl, rfl⟩ := hp
  obtain ⟨q1, hq1, L1⟩ := (LD i.toNat (by omega)).2 l hil.2.1 hil.2.2
  rw [hq1, Int.toNat_natCast]
  obtain ⟨w1, v0, v1, v2, v4, l4, W1⟩ := L1.last
  obtain ⟨m1, m2, m3, aT, aW, wl, f9, w9, cL, m5⟩ := id L1
  obtain ⟨y1, y2, aL, aC, f8, g9, y3, y4⟩ := id W1
  refine gg_astore dX9_line_6 rfl (Nat.le_of_ble_eq_true rfl) rfl ?_
  refine gg_aload_n dX9_line_8 rfl rfl ?_
  refine gk_getX9_30 rfl dX9_line_9 ?_
  refine gg_aload dX9_line_12 rfl rfl ?_
  refine gg_aload_n dX9_line_14 rfl rfl ?_
  refine gk_getX9_65 rfl dX9_line_15 g0 ?_
  refine gc_X9_237 rfl dX9_line_18 ⟨(Nat.le_of_ble_eq_true rfl), (Nat.le_of_ble_eq_true rfl)⟩ ⟨(Nat.le_of_ble_eq_true rfl), (Nat.le_of_ble_eq_true rfl)⟩ (Nat.le_of_ble_eq_true rfl) (HAt.mu gst_50) (c_X5_fill hb9 X9 L1) (fun _ _ w => w.elim) (fun r_18 h_18 hp => ?_)
  obtain ⟨G1, B1, rfl, rfl, fF, fA, R1, e7, e10, e11⟩ := hp
  have f1 := frS.fl fF fA I9
  refine gg_iload_n dX9_line_21 rfl ?_
  by_cases w_22_0 : w = 0
  · refine gi_tab (tgt := 64) dX9_line_22 hw (by omega) (by omega) (by rw [w_22_0]; rfl) (by decide) ?_
    refine gg_aload dX9_line_64 rfl rfl ?_
    refine gf_X9_203 rfl dX9_line_66 (HAt.io cL) rfl ?_
    subst hQF9
    refine gg_iret dX9_line_69 rfl rfl ⟨(Nat.le_of_ble_eq_true rfl), (Nat.le_of_ble_eq_true rfl)⟩ ?_
    refine ⟨hil, by omega, G1, B1, ?_, rfl, f1.w⟩
    unfold lnV; rw [if_pos w_22_0]
  by_cases w_22_1 : w = 1
  · refine gi_tab (tgt := 70) dX9_line_22 hw (by omega) (by omega) (by rw [w_22_1]; rfl) (by decide) ?_
    refine gg_aload_n dX9_line_70 rfl rfl ?_
    refine gk_getX9_30 rfl dX9_line_71 ?_
    refine gk_getX9_241 rfl dX9_line_74 e7 ?_
    subst hQF9
    refine gg_iret dX9_line_77 rfl rfl ⟨(Nat.le_of_ble_eq_true rfl), (Nat.le_of_ble_eq_true rfl)⟩ ?_
    refine ⟨hil, by omega, G1, B1, ?_, rfl, f1.w⟩
    unfold lnV; rw [if_neg (by omega), if_pos w_22_1]
  by_cases w_22_2 : w = 2
  · refine gi_tab (tgt := 78) dX9_line_22 hw (by omega) (by omega) (by rw [w_22_2]; rfl) (by decide) ?_
    refine gg_aload_n dX9_line_78 rfl rfl ?_
    refine gk_getX9_30 rfl dX9_line_79 ?_
    refine gk_getX9_244 rfl dX9_line_82 R1.2.2.2.1 ?_
    subst hQF9
    refine gg_iret dX9_line_85 rfl rfl ⟨(Nat.le_of_ble_eq_true rfl), (Nat.le_of_ble_eq_true rfl)⟩ ?_
    refine ⟨hil, by omega, G1, B1, ?_, rfl, f1.w⟩
    unfold lnV; rw [if_neg (by omega), if_neg (by omega), if_pos w_22_2]
  by_cases w_22_3 : w = 3
  · refine gi_tab (tgt := 86) dX9_line_22 hw (by omega) (by omega) (by rw [w_22_3]; rfl) (by decide) ?_
    refine gg_aload_n dX9_line_86 rfl rfl ?_
    refine gk_getX9_30 rfl dX9_line_87 ?_
    refine gk_getX9_247 rfl dX9_line_90 e11 ?_
    subst hQF9
    refine gg_iret dX9_line_93 rfl rfl ⟨(Nat.le_of_ble_eq_true rfl), (Nat.le_of_ble_eq_true rfl)⟩ ?_
    refine ⟨hil, by omega, G1, B1, ?_, rfl, f1.w⟩
    unfold lnV; rw [if_neg (by omega), if_neg (by omega), if_neg (by omega), if_pos w_22_3]
  by_cases w_22_4 : w = 4
  · refine gi_tab (tgt := 94) dX9_line_22 hw (by omega) (by omega) (by rw [w_22_4]; rfl) (by decide) ?_
    refine gg_aload dX9_line_94 rfl rfl ?_
    refine gf_X9_250 rfl dX9_line_96 (HAt.io cL) rfl ?_
    refine gc_X9_253 rfl dX9_line_99 ⟨(Nat.le_of_ble_eq_true rfl), (Nat.le_of_ble_eq_true rfl)⟩ ⟨(Nat.le_of_ble_eq_true rfl), (Nat.le_of_ble_eq_true rfl)⟩ (Nat.le_of_ble_eq_true rfl) (c_J6_bitCount_0f7a4 (z := ((plN (pwC (fL i.toNat l) (nL i.toNat l)) (pwL (fL i.toNat l) (nL i.toNat l)).toNat : Nat) : Int)) ⟨by omega, by have := pl12 (e := pwC (fL i.toNat l) (nL i.toNat l)) (L := pwL (fL i.toNat l) (nL i.toNat l)) (by omega); omega⟩) (fun _ _ w => w.elim) (fun r_99 h_99 hp => ?_)
    obtain ⟨rfl, rfl⟩ := hp
    subst hQF9
    refine gg_iret dX9_line_102 rfl rfl ⟨(Nat.le_of_ble_eq_true rfl), (Nat.le_of_ble_eq_true rfl)⟩ ?_
    refine ⟨hil, by omega, G1, B1, ?_, rfl, f1.w⟩
    unfold lnV; rw [if_neg (by omega), if_neg (by omega), if_neg (by omega), if_neg (by omega), if_pos w_22_4]
  by_cases w_22_5 : w = 5
  · refine gi_tab (tgt := 103) dX9_line_22 hw (by omega) (by omega) (by rw [w_22_5]; rfl) (by decide) ?_
    refine gg_aload_n dX9_line_103 rfl rfl ?_
    refine gg_iload_n dX9_line_104 rfl ?_
    refine gg_iload_n dX9_line_105 rfl ?_
    refine gc_X9_258 rfl dX9_line_106 ⟨(Nat.le_of_ble_eq_true rfl), (Nat.le_of_ble_eq_true rfl)⟩ ⟨(Nat.le_of_ble_eq_true rfl), (Nat.le_of_ble_eq_true rfl)⟩ (Nat.le_of_ble_eq_true rfl) (HAt.mu gst_30) (c_X9_classOf (S0.fs f1) (fun d hd => (LD d hd).fs f1) hil.1 hl) (fun _ _ w => w.elim) (fun r_106 h_106 hp => ?_)
    obtain ⟨B2, rfl, rfl, f2⟩ := hp
    subst hQF9
    refine gg_iret dX9_line_109 rfl rfl ⟨(Nat.le_of_ble_eq_true rfl), (Nat.le_of_ble_eq_true rfl)⟩ ?_
    have lc := (LD i.toNat (by omega)).1
    refine ⟨hil, by omega, G1, B2, ?_, rfl, f1.w.tr (frU.c f1.2.2 f2)⟩
    rw [if_pos (by omega), f1.g (by omega), fA 36 (by decide)]
    unfold lnV; rw [if_neg (by omega), if_neg (by omega), if_neg (by omega), if_neg (by omega), if_neg (by omega), if_pos w_22_5]
  by_cases w_22_6 : w = 6
  · refine gi_tab (tgt := 110) dX9_line_22 hw (by omega) (by omega) (by rw [w_22_6]; rfl) (by decide) ?_
    refine gg_aload dX9_line_110 rfl rfl ?_
    refine gf_X9_262 rfl dX9_line_112 (HAt.io l4) rfl ?_
    refine gf_X9_265 rfl dX9_line_115 (HAt.io y3) rfl ?_
    refine gg_aload_n dX9_line_118 rfl rfl ?_
    refine gk_getX9_65 rfl dX9_line_119 ((fF 0 (by decide)).trans g0) ?_
    refine gg_aload dX9_line_122 rfl rfl ?_
    refine gf_X9_262 rfl dX9_line_124 (HAt.io l4) rfl ?_
    refine gc_X9_270 rfl dX9_line_127 ⟨(Nat.le_of_ble_eq_true rfl), (Nat.le_of_ble_eq_true rfl)⟩ ⟨(Nat.le_of_ble_eq_true rfl), (Nat.le_of_ble_eq_true rfl)⟩ (Nat.le_of_ble_eq_true rfl) (HAt.mu (gst_st hb9)) (c_X7_rhymeStart hb9 (X9.fs f1) W1) (fun _ _ w => w.elim) (fun r_127 h_127 hp => ?_)
    obtain ⟨rfl, rfl⟩ := hp
    refine gi_isub dX9_line_130 ?_
    subst hQF9
    refine gg_iret dX9_line_131 rfl rfl ⟨(Nat.le_of_ble_eq_true rfl), (Nat.le_of_ble_eq_true rfl)⟩ ?_
    refine ⟨hil, by omega, G1, B1, ?_, rfl, f1.w⟩
    unfold lnV; rw [if_neg (by omega), if_neg (by omega), if_neg (by omega), if_neg (by omega), if_neg (by omega), if_neg (by omega)]
  refine gi_tabD (tgt := 132) dX9_line_22 hw (by omega) (by decide) ?_
  subst hQF9
  refine gg_throwW (text := "a line has no such number") thr_2 rfl (by decide) dX9_line_132 dX9_line_135 dX9_line_136 dX9_line_139 dX9_line_142 rfl ⟨(Nat.le_of_ble_eq_true rfl), (Nat.le_of_ble_eq_true rfl)⟩ ⟨(Nat.le_of_ble_eq_true rfl), (Nat.le_of_ble_eq_true rfl)⟩ ?_
  exact Or.inr ⟨hil, by omega, rfl, G1, B1, rfl, f1.w⟩
set_option maxRecDepth 100000 in
set_option maxHeartbeats 4000000 in
theorem c_X9_word {Γ : GT} {h : XH} {G : Nat → Int} {B : Nat → Int → Int} {b mq : Nat} {kd ft c9 : Int} {a : Int → Int} (S : SW h.2 G B b mq kd ft c9 a) {fL : Int → Int → Int → Int} {nL : Int → Int → Int} (LD : ∀ d : Nat, d ≤ 3 → LnD h.2 G B b d (fL d) (nL d)) {i l w u : Int} (hi : InR i) (hl : InR l) (hw : InR w) (hu : InR u) : Ct Γ M_X9_word [.ref (g_L Γ 30), .int (iN i), .int (iN l), .int (iN w), .int (iN u)] (gst Γ h G B) (fun r h9 => ((0 ≤ i ∧ i ≤ 3) ∧ 0 ≤ l ∧ l < G (103 + 10 * b + i.toNat)) ∧ (0 ≤ w ∧ w < pwL (fL i.toNat l) (nL i.toNat l)) ∧ (0 ≤ u ∧ u ≤ 5) ∧ r = some (.int (iN (wdV a (fL i.toNat l) (nL i.toNat l) w u))) ∧ h9 = gst Γ h G B) (fun E h9 => (¬ (((0 ≤ i ∧ i ≤ 3) ∧ 0 ≤ l ∧ l < G (103 + 10 * b + i.toNat)) ∧ (0 ≤ w ∧ w < pwL (fL i.toNat l) (nL i.toNat l))) ∧ E = "java/lang/IndexOutOfBoundsException" ∧ h9 = gst Γ h G B) ∨ (((0 ≤ i ∧ i ≤ 3) ∧ 0 ≤ l ∧ l < G (103 + 10 * b + i.toNat)) ∧ (0 ≤ w ∧ w < pwL (fL i.toNat l) (nL i.toNat l)) ∧ ¬ (0 ≤ u ∧ u ≤ 5) ∧ E = "java/lang/IllegalArgumentException" ∧ h9 = gst Γ h G B)) := by
  refine Ct.of rfl (by decide +kernel) (Nat.le_of_ble_eq_true rfl) ?_
  generalize hQF9 : QM Γ _ _ _ = QF9
  obtain ⟨hb9, g0, hm9, M1, X9, I9, T9⟩ := S
  refine gg_aload_n dX9_word_0 rfl rfl ?_
  refine gg_iload_n dX9_word_1 rfl ?_
  refine gg_iload_n dX9_word_2 rfl ?_
  refine gc_X9_208 rfl dX9_word_3 ⟨(Nat.le_of_ble_eq_true rfl), (Nat.le_of_ble_eq_true rfl)⟩ ⟨(Nat.le_of_ble_eq_true rfl), (Nat.le_of_ble_eq_true rfl)⟩ (Nat.le_of_ble_eq_true rfl) (HAt.mu gst_30) (c_X9_lineAt hb9 g0 (fun d hd => (LD d hd).1) (fun d l => LDs.c LD d l) hi hl) (fun E h8 hx => by subst hQF9; exact gx_out rfl ⟨(Nat.le_of_ble_eq_true rfl), (Nat.le_of_ble_eq_true rfl)⟩ (by obtain ⟨h1, h2, h3⟩ := hx; exact Or.inl ⟨fun z => h1 z.1, h2, h3⟩)) (fun r_3 h_3 hp => ?_)
  obtain ⟨hil, rfl, rfl⟩ := hp
  obtain ⟨q1, hq1, L1⟩ := (LD i.toNat (by omega)).2 l hil.2.1 hil.2.2
  rw [hq1, Int.toNat_natCast]
  obtain ⟨m1, m2, m3, aT, aW, wl, f9, w9, cL, m5⟩ := id L1
  refine gg_astore dX9_word_6 rfl (Nat.le_of_ble_eq_true rfl) rfl ?_
  refine gg_aload dX9_word_8 rfl rfl ?_
  refine gg_iload_n dX9_word_10 rfl ?_
  refine gc_X9_275 rfl dX9_word_11 ⟨(Nat.le_of_ble_eq_true rfl), (Nat.le_of_ble_eq_true rfl)⟩ ⟨(Nat.le_of_ble_eq_true rfl), (Nat.le_of_ble_eq_true rfl)⟩ (Nat.le_of_ble_eq_true rfl) (HAt.io cL) (c_X2_wordAt (h := gst Γ h G B) L1 hw) (fun _ _ w => w.elim) (fun r_11 h_11 hp => ?_)
  obtain ⟨o, rfl, rfl, hpost⟩ := hp
  rcases hpost with ⟨e9, rfl⟩ | ⟨e9, wq, rfl, W1⟩
  · refine gg_astore dX9_word_14 rfl (Nat.le_of_ble_eq_true rfl) rfl ?_
    refine gg_aload dX9_word_16 rfl rfl ?_
    refine gg_ifnonnull (tgt := 32) dX9_word_18 (by decide) rfl (fun a_18 c_18 => ?_) (fun c_18 => ?_)
    · cases c_18
    · subst hQF9
      refine gg_throwW (text := "no such word") thr_3 rfl (by decide) dX9_word_21 dX9_word_24 dX9_word_25 dX9_word_28 dX9_word_31 rfl ⟨(Nat.le_of_ble_eq_true rfl), (Nat.le_of_ble_eq_true rfl)⟩ ⟨(Nat.le_of_ble_eq_true rfl), (Nat.le_of_ble_eq_true rfl)⟩ ?_
      exact Or.inl ⟨fun z => e9 z.2, rfl, rfl⟩
  · obtain ⟨y1, y2, aL, aC, f8, g9, y3, y4, y5⟩ := id W1
    refine gg_astore dX9_word_14 rfl (Nat.le_of_ble_eq_true rfl) rfl ?_
    refine gg_aload dX9_word_16 rfl rfl ?_
    refine gg_ifnonnull (tgt := 32) dX9_word_18 (by decide) rfl (fun a_18 c_18 => ?_) (fun c_18 => ?_)
    · refine gg_iload dX9_word_32 rfl ?_
      by_cases w_34_0 : u = 0
      · refine gi_tab (tgt := 72) dX9_word_34 hu (by omega) (by omega) (by rw [w_34_0]; rfl) (by decide) ?_
        refine gg_aload dX9_word_72 rfl rfl ?_
        refine gf_X9_281 rfl dX9_word_74 (HAt.io y3) rfl ?_
        refine gi_alen dX9_word_77 (HAt.io y4) (by decide) ?_
        subst hQF9
        refine gg_iret dX9_word_78 rfl rfl ⟨(Nat.le_of_ble_eq_true rfl), (Nat.le_of_ble_eq_true rfl)⟩ ?_
        refine ⟨hil, e9, by omega, ?_, rfl⟩
        rw [show ((pwN (fL i.toNat l) (nL i.toNat l) w).toNat : Int) = pwN (fL i.toNat l) (nL i.toNat l) w by omega]
        unfold wdV; rw [if_pos w_34_0]
      by_cases w_34_1 : u = 1
      · refine gi_tab (tgt := 79) dX9_word_34 hu (by omega) (by omega) (by rw [w_34_1]; rfl) (by decide) ?_
        refine gg_aload dX9_word_79 rfl rfl ?_
        refine gf_X9_284 rfl dX9_word_81 (HAt.io y3) rfl ?_
        subst hQF9
        refine gg_iret dX9_word_84 rfl rfl ⟨(Nat.le_of_ble_eq_true rfl), (Nat.le_of_ble_eq_true rfl)⟩ ?_
        refine ⟨hil, e9, by omega, ?_, rfl⟩
        unfold wdV; rw [if_neg (by omega), if_pos w_34_1]
        rfl
      by_cases w_34_2 : u = 2
      · refine gi_tab (tgt := 85) dX9_word_34 hu (by omega) (by omega) (by rw [w_34_2]; rfl) (by decide) ?_
        refine gg_aload dX9_word_85 rfl rfl ?_
        refine gg_aload_n dX9_word_87 rfl rfl ?_
        refine gk_getX9_65 rfl dX9_word_88 g0 ?_
        refine gg_aload dX9_word_91 rfl rfl ?_
        refine gc_X9_287 rfl dX9_word_93 ⟨(Nat.le_of_ble_eq_true rfl), (Nat.le_of_ble_eq_true rfl)⟩ ⟨(Nat.le_of_ble_eq_true rfl), (Nat.le_of_ble_eq_true rfl)⟩ (Nat.le_of_ble_eq_true rfl) (HAt.mu (gst_st hb9)) (c_X7_markingFor hb9 X9 W1) (fun _ _ w => w.elim) (fun r_93 h_93 hp => ?_)
        obtain ⟨o, rfl, rfl, Y, yn⟩ := hp
        refine gc_X9_291 rfl dX9_word_96 ⟨(Nat.le_of_ble_eq_true rfl), (Nat.le_of_ble_eq_true rfl)⟩ ⟨(Nat.le_of_ble_eq_true rfl), (Nat.le_of_ble_eq_true rfl)⟩ (Nat.le_of_ble_eq_true rfl) (c_X9_syllablesOf (h := gst Γ h G B) W1 Y) (fun _ _ w => w.elim) (fun r_96 h_96 hp => ?_)
        obtain ⟨rfl, rfl⟩ := hp
        subst hQF9
        refine gg_iret dX9_word_99 rfl rfl ⟨(Nat.le_of_ble_eq_true rfl), (Nat.le_of_ble_eq_true rfl)⟩ ?_
        refine ⟨hil, e9, by omega, ?_, rfl⟩
        unfold wdV; rw [if_neg (by omega), if_neg (by omega), if_pos w_34_2]
        rfl
      by_cases w_34_3 : u = 3
      · refine gi_tab (tgt := 100) dX9_word_34 hu (by omega) (by omega) (by rw [w_34_3]; rfl) (by decide) ?_
        refine gg_aload dX9_word_100 rfl rfl ?_
        have pb := plN_bit (e9 := pwC (fL i.toNat l) (nL i.toNat l)) (j := w.toNat) (k := (pwL (fL i.toNat l) (nL i.toNat l)).toNat) (by omega)
        rw [Int.toNat_of_nonneg e9.1] at pb
        have pc := pl12 (e := pwC (fL i.toNat l) (nL i.toNat l)) (L := pwL (fL i.toNat l) (nL i.toNat l)) (by omega)
        refine gf_X9_250 rfl dX9_word_102 (HAt.io cL) rfl ?_
        refine gg_iload_n dX9_word_105 rfl ?_
        refine gi_ishr _ (bt_shr ⟨by omega, by omega⟩ ⟨by omega, by omega⟩) dX9_word_106 ?_
        refine gi_iconst dX9_word_107 ?_
        refine gi_iand (bi (pwC (fL i.toNat l) (nL i.toNat l) w)) (by rw [bt_a1 (Int.ediv_nonneg (by omega) (Int.le_of_lt (Int.pow_pos (by omega)))), pb]) dX9_word_108 ?_
        subst hQF9
        refine gg_iret dX9_word_109 rfl rfl ⟨(Nat.le_of_ble_eq_true rfl), (Nat.le_of_ble_eq_true rfl)⟩ ?_
        refine ⟨hil, e9, by omega, ?_, rfl⟩
        unfold wdV; rw [if_neg (by omega), if_neg (by omega), if_neg (by omega), if_pos w_34_3]
      by_cases w_34_4 : u = 4
      · refine gi_tab (tgt := 110) dX9_word_34 hu (by omega) (by omega) (by rw [w_34_4]; rfl) (by decide) ?_
        refine gg_aload_n dX9_word_110 rfl rfl ?_
        refine gk_getX9_65 rfl dX9_word_111 g0 ?_
        refine gg_aload dX9_word_114 rfl rfl ?_
        refine gc_X9_153 rfl dX9_word_116 ⟨(Nat.le_of_ble_eq_true rfl), (Nat.le_of_ble_eq_true rfl)⟩ ⟨(Nat.le_of_ble_eq_true rfl), (Nat.le_of_ble_eq_true rfl)⟩ (Nat.le_of_ble_eq_true rfl) (HAt.mu (gst_st hb9)) (c_X7_markingNumber hb9 X9 W1) (fun _ _ w => w.elim) (fun r_116 h_116 hp => ?_)
        obtain ⟨rfl, rfl⟩ := hp
        subst hQF9
        refine gg_iret dX9_word_119 rfl rfl ⟨(Nat.le_of_ble_eq_true rfl), (Nat.le_of_ble_eq_true rfl)⟩ ?_
        refine ⟨hil, e9, by omega, ?_, rfl⟩
        unfold wdV; rw [if_neg (by omega), if_neg (by omega), if_neg (by omega), if_neg (by omega), if_pos w_34_4]
        rfl
      by_cases w_34_5 : u = 5
      · refine gi_tab (tgt := 120) dX9_word_34 hu (by omega) (by omega) (by rw [w_34_5]; rfl) (by decide) ?_
        refine gg_aload dX9_word_120 rfl rfl ?_
        refine gg_aload_n dX9_word_122 rfl rfl ?_
        refine gk_getX9_65 rfl dX9_word_123 g0 ?_
        refine gg_aload dX9_word_126 rfl rfl ?_
        refine gc_X9_287 rfl dX9_word_128 ⟨(Nat.le_of_ble_eq_true rfl), (Nat.le_of_ble_eq_true rfl)⟩ ⟨(Nat.le_of_ble_eq_true rfl), (Nat.le_of_ble_eq_true rfl)⟩ (Nat.le_of_ble_eq_true rfl) (HAt.mu (gst_st hb9)) (c_X7_markingFor hb9 X9 W1) (fun _ _ w => w.elim) (fun r_128 h_128 hp => ?_)
        obtain ⟨o, rfl, rfl, Y, yn⟩ := hp
        refine gc_X9_295 rfl dX9_word_131 ⟨(Nat.le_of_ble_eq_true rfl), (Nat.le_of_ble_eq_true rfl)⟩ ⟨(Nat.le_of_ble_eq_true rfl), (Nat.le_of_ble_eq_true rfl)⟩ (Nat.le_of_ble_eq_true rfl) (c_X9_marksAsDigits (h := gst Γ h G B) W1 Y) (fun _ _ w => w.elim) (fun r_131 h_131 hp => ?_)
        obtain ⟨rfl, rfl⟩ := hp
        subst hQF9
        refine gg_iret dX9_word_134 rfl rfl ⟨(Nat.le_of_ble_eq_true rfl), (Nat.le_of_ble_eq_true rfl)⟩ ?_
        refine ⟨hil, e9, by omega, ?_, rfl⟩
        unfold wdV; rw [if_neg (by omega), if_neg (by omega), if_neg (by omega), if_neg (by omega), if_neg (by omega)]
        rfl
      refine gi_tabD (tgt := 135) dX9_word_34 hu (by omega) (by decide) ?_
      subst hQF9
      refine gg_throwW (text := "a word has no such number") thr_2 rfl (by decide) dX9_word_135 dX9_word_138 dX9_word_139 dX9_word_142 dX9_word_145 rfl ⟨(Nat.le_of_ble_eq_true rfl), (Nat.le_of_ble_eq_true rfl)⟩ ⟨(Nat.le_of_ble_eq_true rfl), (Nat.le_of_ble_eq_true rfl)⟩ ?_
      exact Or.inr ⟨hil, e9, by omega, rfl, rfl⟩
    · cases c_18
set_option maxRecDepth 100000 in
set_option maxHeartbeats 4000000 in
theorem c_X9_cost {Γ : GT} {h : XH} {G : Nat → Int} {B : Nat → Int → Int} {b mq : Nat} {kd ft c9 : Int} {a : Int → Int} (S : SW h.2 G B b mq kd ft c9 a) {fL : Int → Int → Int → Int} {nL : Int → Int → Int} (LD : ∀ d : Nat, d ≤ 3 → LnD h.2 G B b d (fL d) (nL d)) {i l z v : Int} (hi : InR i) (hl : InR l) (hz : InR z) (hv : v = 0 ∨ v = 1) : Ct Γ M_X9_cost [.ref (g_L Γ 30), .int (iN i), .int (iN l), .int (iN z), .int (iN v)] (gst Γ h G B) (fun r h9 => ((0 ≤ i ∧ i ≤ 3) ∧ 0 ≤ l ∧ l < G (103 + 10 * b + i.toNat)) ∧ (alS (eI (fL i.toNat l) (nL i.toNat l)) (sI a (fL i.toNat l) (nL i.toNat l)) (pwL (fL i.toNat l) (nL i.toNat l)) z) = true ∧ (prE (dtA a (fL i.toNat l) (nL i.toNat l) kd ft c9) v z) ≠ -1 ∧ ∃ (G' : Nat → Int) (B' : Nat → Int → Int), r = some (.int (iN (prE (dtA a (fL i.toNat l) (nL i.toNat l) kd ft c9) v z))) ∧ h9 = gst Γ h G' B' ∧ frS G G' B B') (fun E h9 => (¬ ((0 ≤ i ∧ i ≤ 3) ∧ 0 ≤ l ∧ l < G (103 + 10 * b + i.toNat)) ∧ E = "java/lang/IndexOutOfBoundsException" ∧ h9 = gst Γ h G B) ∨ (((0 ≤ i ∧ i ≤ 3) ∧ 0 ≤ l ∧ l < G (103 + 10 * b + i.toNat)) ∧ (((alS (eI (fL i.toNat l) (nL i.toNat l)) (sI a (fL i.toNat l) (nL i.toNat l)) (pwL (fL i.toNat l) (nL i.toNat l)) z) = false ∧ E = "java/lang/IllegalArgumentException") ∨ ((alS (eI (fL i.toNat l) (nL i.toNat l)) (sI a (fL i.toNat l) (nL i.toNat l)) (pwL (fL i.toNat l) (nL i.toNat l)) z) = true ∧ (prE (dtA a (fL i.toNat l) (nL i.toNat l) kd ft c9) v z) = -1 ∧ E = "java/util/NoSuchElementException")) ∧ ∃ (G' : Nat → Int) (B' : Nat → Int → Int), h9 = gst Γ h G' B' ∧ frS G G' B B')) := by
  refine Ct.of rfl (by decide +kernel) (Nat.le_of_ble_eq_true rfl) ?_
  generalize hQF9 : QM Γ _ _ _ = QF9
  obtain ⟨hb9, g0, hm9, M1, X9, I9, T9⟩ := S
  refine gg_aload_n dX9_cost_0 rfl rfl ?_
  refine gk_getX9_30 rfl dX9_cost_1 ?_
  refine gg_aload_n dX9_cost_4 rfl rfl ?_
  refine gg_iload_n dX9_cost_5 rfl ?_
  refine gg_iload_n dX9_cost_6 rfl ?_
  refine gc_X9_208 rfl dX9_cost_7 ⟨(Nat.le_of_ble_eq_true rfl), (Nat.le_of_ble_eq_true rfl)⟩ ⟨(Nat.le_of_ble_eq_true rfl), (Nat.le_of_ble_eq_true rfl)⟩ (Nat.le_of_ble_eq_true rfl) (HAt.mu gst_30) (c_X9_lineAt hb9 g0 (fun d hd => (LD d hd).1) (fun d l => LDs.c LD d l) hi hl) (fun E h8 hx => by subst hQF9; exact gx_out rfl ⟨(Nat.le_of_ble_eq_true rfl), (Nat.le_of_ble_eq_true rfl)⟩ (by obtain ⟨h1, h2, h3⟩ := hx; exact Or.inl ⟨h1, h2, h3⟩)) (fun r_7 h_7 hp => ?_)
  obtain ⟨hil, rfl, rfl⟩ := hp
  obtain ⟨q1, hq1, L1⟩ := (LD i.toNat (by omega)).2 l hil.2.1 hil.2.2
  rw [hq1, Int.toNat_natCast]
  refine gg_aload_n dX9_cost_10 rfl rfl ?_
  refine gk_getX9_65 rfl dX9_cost_11 g0 ?_
  refine gc_X9_237 rfl dX9_cost_14 ⟨(Nat.le_of_ble_eq_true rfl), (Nat.le_of_ble_eq_true rfl)⟩ ⟨(Nat.le_of_ble_eq_true rfl), (Nat.le_of_ble_eq_true rfl)⟩ (Nat.le_of_ble_eq_true rfl) (HAt.mu gst_50) (c_X5_fill hb9 X9 L1) (fun _ _ w => w.elim) (fun r_14 h_14 hp => ?_)
  obtain ⟨G1, B1, rfl, rfl, fF, fA, R1, e7, e10, e11⟩ := hp
  have f1 := frS.fl fF fA I9
  refine gg_aload_n dX9_cost_17 rfl rfl ?_
  refine gk_getX9_30 rfl dX9_cost_18 ?_
  refine gg_iload_n dX9_cost_21 rfl ?_
  refine gc_X9_310 rfl dX9_cost_22 ⟨(Nat.le_of_ble_eq_true rfl), (Nat.le_of_ble_eq_true rfl)⟩ ⟨(Nat.le_of_ble_eq_true rfl), (Nat.le_of_ble_eq_true rfl)⟩ (Nat.le_of_ble_eq_true rfl) (HAt.mu gst_50) (c_X5_allows R1 hz) (fun _ _ w => w.elim) (fun r_22 h_22 hp => ?_)
  obtain ⟨rfl, rfl⟩ := hp
  refine gi_if_ne (tgt := 39) dX9_cost_25 (by decide) (bi_r _) (fun c_25 => ?_) (fun c_25 => ?_)
  · rw [bi_t] at c_25
    have zr : 0 ≤ z ∧ z ≤ 4095 := by
      have pl := pl12 (e := eI (fL i.toNat l) (nL i.toNat l)) (L := pwL (fL i.toNat l) (nL i.toNat l)) R1.1.2
      unfold alS at c_25; rw [Bool.and_eq_true] at c_25
      have := sbm_r ⟨by omega, by omega⟩ c_25.1
      omega
    refine gg_aload_n dX9_cost_39 rfl rfl ?_
    refine gk_getX9_39 rfl dX9_cost_40 ?_
    refine gg_aload_n dX9_cost_43 rfl rfl ?_
    refine gk_getX9_65 rfl dX9_cost_44 ((fF 0 (by decide)).trans g0) ?_
    refine gk_getX9_109 hb9 rfl dX9_cost_47 ((f1.g (by omega)).trans hm9) ?_
    refine gg_iload_n dX9_cost_50 rfl ?_
    refine gg_iload dX9_cost_51 rfl ?_
    refine gc_X9_316 rfl dX9_cost_53 ⟨(Nat.le_of_ble_eq_true rfl), (Nat.le_of_ble_eq_true rfl)⟩ ⟨(Nat.le_of_ble_eq_true rfl), (Nat.le_of_ble_eq_true rfl)⟩ (Nat.le_of_ble_eq_true rfl) (HAt.mu gst_60) (c_X6_priceOf (D := (dtA a (fL i.toNat l) (nL i.toNat l) kd ft c9)) M1 R1 (z := z) (i := v) zr hv) (fun _ _ w => w.elim) (fun r_53 h_53 hp => ?_)
    obtain ⟨B2, rfl, rfl, fA2, hpz⟩ := hp
    have fG2 : frF [16, 17] G1 (uF (uF G1 16 (mq : Int)) 17 (plN (fun p => strK (dK (dtA a (fL i.toNat l) (nL i.toNat l) kd ft c9)) p v) (dF (dtA a (fL i.toNat l) (nL i.toNat l) kd ft c9) * szk (dK (dtA a (fL i.toNat l) (nL i.toNat l) kd ft c9))).toNat : Nat)) := frF_u (frF_u (fun _ _ => rfl) (by decide)) (by decide)
    have f2 := f1.tr (frS.nm (I := f1.2.2) fG2 fA2)
    have pr := prE_r9 (D := (dtA a (fL i.toNat l) (nL i.toNat l) kd ft c9)) (i := v) (z := z) (RdD.ok (D := (dtA a (fL i.toNat l) (nL i.toNat l) kd ft c9)) R1).1 (RdD.ok (D := (dtA a (fL i.toNat l) (nL i.toNat l) kd ft c9)) R1).2
    obtain ⟨k, hk⟩ : ∃ k, (prE (dtA a (fL i.toNat l) (nL i.toNat l) kd ft c9) v z) = k := ⟨_, rfl⟩
    rw [hk] at pr hQF9 ⊢
    refine gg_istore dX9_cost_56 (Nat.le_of_ble_eq_true rfl) rfl ?_
    refine gg_iload dX9_cost_58 rfl ?_
    refine gi_iconst dX9_cost_60 ?_
    refine gi_icmp_ne (tgt := 75) dX9_cost_61 (by decide) ⟨by omega, by omega⟩ ⟨by omega, by omega⟩ (fun c_61 => ?_) (fun c_61 => ?_)
    · refine gg_iload dX9_cost_75 rfl ?_
      subst hQF9
      refine gg_iret dX9_cost_77 rfl rfl ⟨(Nat.le_of_ble_eq_true rfl), (Nat.le_of_ble_eq_true rfl)⟩ ?_
      exact ⟨hil, c_25, by omega, _, B2, rfl, rfl, f2⟩
    · subst hQF9
      refine gg_throwW (text := "this is no scan") thr_1 rfl (by decide) dX9_cost_64 dX9_cost_67 dX9_cost_68 dX9_cost_71 dX9_cost_74 rfl ⟨(Nat.le_of_ble_eq_true rfl), (Nat.le_of_ble_eq_true rfl)⟩ ⟨(Nat.le_of_ble_eq_true rfl), (Nat.le_of_ble_eq_true rfl)⟩ ?_
      exact Or.inr ⟨hil, Or.inr ⟨c_25, by omega, rfl⟩, _, B2, rfl, f2⟩
  · rw [bi_f] at c_25
    subst hQF9
    refine gg_throwW (text := "these elisions cannot be made together") thr_2 rfl (by decide) dX9_cost_28 dX9_cost_31 dX9_cost_32 dX9_cost_35 dX9_cost_38 rfl ⟨(Nat.le_of_ble_eq_true rfl), (Nat.le_of_ble_eq_true rfl)⟩ ⟨(Nat.le_of_ble_eq_true rfl), (Nat.le_of_ble_eq_true rfl)⟩ ?_
    exact Or.inr ⟨hil, Or.inl ⟨c_25, rfl⟩, G1, B1, rfl, f1⟩
