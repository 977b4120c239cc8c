/-! the scanner: public methods, 4 -/
theorem HIS.b1 {G : Nat → Int} {B B' : Nat → Int → Int} {b : Nat} (f : ∀ x, x ≠ 42 → x ≠ 43 → B' x = B x) (h : HIS G B b) : HIS G B' b := by
  unfold HIS at h ⊢; rw [f 31 (by decide) (by decide)]; exact h
theorem WR.b1 {ι : Nat → Option XE} {B B' : Nat → Int → Int} (f : ∀ x, x ≠ 42 → x ≠ 43 → B' x = B x) (h : WR ι B) : WR ι B' := fun b hb => by
  refine ⟨fun d l => ?_, fun e => ?_⟩
  · rw [f _ (by omega) (by omega)]; exact (h b hb).1 d l
  · rw [f _ (by omega) (by omega)]; exact (h b hb).2 e
theorem LnO.cell {ι : Nat → Option XE} {q : Nat} {f : Int → Int} {n : Int} (L : LnO ι q f n) : ∃ (v0 v2 v3 v4 : Value), ι q = some (.inr (4, [v0, .int (iN (pwL f n)), v2, v3, v4])) := by
  obtain ⟨l1, l2, l3, aT, aW, wl, f9, w9, l4, _⟩ := L
  exact ⟨_, _, _, _, l4⟩
set_option maxRecDepth 100000 in
set_option maxHeartbeats 4000000 in
theorem c_X9_addLine {Γ : GT} {h : XH} {G : Nat → Int} {B : Nat → Int → Int} {b : Nat} (hb9 : b ≤ 9) (g0 : G 0 = (b : Int)) {mq : Nat} (hmq : G (100 + 10 * b) = (mq : Int)) (WR9 : WR h.2 B) (H9 : HIS G B b) {fL : Int → Int → Int → Int} {nL : Int → Int → Int} (LD : ∀ d : Nat, d ≤ 3 → LnD h.2 G B b d (fL d) (nL d)) (p4 : 0 ≤ G 4 ∧ G 4 ≤ 60) (p5 : ∀ k, 0 ≤ k → k < G 4 → 0 ≤ B 41 k ∧ B 41 k < 65536) {i t : Int} (hi : InR i) (ht : InR t) : Ct Γ M_X9_addLine [.ref (g_L Γ 30), .int (iN i), .int (iN t)] (gst Γ h G B) (fun r h9 => ((0 ≤ i ∧ i ≤ 3) ∧ 0 ≤ t ∧ t ≤ G (103 + 10 * b + i.toNat)) ∧ (parseL (B 41) (G 4) 12 0).1 = true ∧ G (103 + 10 * b + i.toNat) < 10 ∧ ∃ (ι' : Nat → Option XE) (B1 : Nat → Int → Int) (q : Nat), ext h.2 ι' ∧ (∀ x, x ≠ 42 → x ≠ 43 → B1 x = B x) ∧ LnO ι' q (B 41) (G 4) ∧ r = some (.int (iN (pwL (B 41) (G 4)))) ∧ h9 = gst Γ (h.1, ι') (uF (rmG (tkG G ((parseL (B 41) (G 4) 12 0).1 = true) (parseL (B 41) (G 4) 12 0).2.1) B1 b) (103 + 10 * b + i.toNat) (G (103 + 10 * b + i.toNat) + 1)) (uA (rmB (tkG G ((parseL (B 41) (G 4) 12 0).1 = true) (parseL (B 41) (G 4) 12 0).2.1) B1 b) (106 + 11 * b + i.toNat) (up (shu ((rmB (tkG G ((parseL (B 41) (G 4) 12 0).1 = true) (parseL (B 41) (G 4) 12 0).2.1) B1 b) (106 + 11 * b + i.toNat)) t (G (103 + 10 * b + i.toNat)) 1) t (q : Int)))) (fun E h9 => (¬ ((0 ≤ i ∧ i ≤ 3) ∧ 0 ≤ t ∧ t ≤ G (103 + 10 * b + i.toNat)) ∧ E = "java/lang/IndexOutOfBoundsException" ∧ h9 = gst Γ h G B) ∨ (((0 ≤ i ∧ i ≤ 3) ∧ 0 ≤ t ∧ t ≤ G (103 + 10 * b + i.toNat)) ∧ ∃ (ι' : Nat → Option XE) (B1 : Nat → Int → Int), ext h.2 ι' ∧ (∀ x, x ≠ 42 → x ≠ 43 → B1 x = B x) ∧ h9 = gst Γ (h.1, ι') (tkG G ((parseL (B 41) (G 4) 12 0).1 = true) (parseL (B 41) (G 4) 12 0).2.1) B1 ∧ (((parseL (B 41) (G 4) 12 0).1 = false ∧ E = "java/lang/IllegalArgumentException") ∨ ((parseL (B 41) (G 4) 12 0).1 = true ∧ ¬ G (103 + 10 * b + i.toNat) < 10 ∧ E = "java/lang/IllegalStateException")))) := by
  refine Ct.of rfl (by decide +kernel) (Nat.le_of_ble_eq_true rfl) ?_
  generalize hQF9 : QM Γ _ _ _ = QF9
  refine gg_aload_n dX9_addLine_0 rfl rfl ?_
  refine gg_iload_n dX9_addLine_1 rfl ?_
  refine gc_X9_182 rfl dX9_addLine_2 ⟨(Nat.le_of_ble_eq_true rfl), (Nat.le_of_ble_eq_true rfl)⟩ ⟨(Nat.le_of_ble_eq_true rfl), (Nat.le_of_ble_eq_true rfl)⟩ (Nat.le_of_ble_eq_true rfl) (HAt.mu gst_30) (c_X9_draftAt hb9 g0 hi) (fun E h8 hx => by subst hQF9; exact gx_out rfl ⟨(Nat.le_of_ble_eq_true rfl), (Nat.le_of_ble_eq_true rfl)⟩ (by obtain ⟨h1, h2, h3⟩ := hx; exact Or.inl ⟨fun z => h1 z.1, h2, h3⟩)) (fun r_2 h_2 hp => ?_)
  obtain ⟨hi2, rfl, rfl⟩ := hp
  have hd9 : i.toNat ≤ 3 := by omega
  have hcn := (LD i.toNat hd9).1
  refine gg_astore_n dX9_addLine_5 rfl (Nat.le_of_ble_eq_true rfl) rfl ?_
  refine gg_iload_n dX9_addLine_6 rfl ?_
  refine gi_if_lt (tgt := 18) dX9_addLine_7 (by decide) ht (fun c_7 => ?_) (fun c_7 => ?_)
  · subst hQF9
    refine gg_throw (text := "no such number of a line") thr_3 rfl (by decide) dX9_addLine_18 dX9_addLine_21 dX9_addLine_22 dX9_addLine_24 dX9_addLine_27 rfl ⟨(Nat.le_of_ble_eq_true rfl), (Nat.le_of_ble_eq_true rfl)⟩ ⟨(Nat.le_of_ble_eq_true rfl), (Nat.le_of_ble_eq_true rfl)⟩ ?_
    exact Or.inl ⟨fun z => by omega, rfl, rfl⟩
  · refine gg_iload_n dX9_addLine_10 rfl ?_
    refine gg_aload_n dX9_addLine_11 rfl rfl ?_
    refine gk_getX9_186 hb9 hd9 rfl dX9_addLine_12 rfl ?_
    refine gi_icmp_le (tgt := 28) dX9_addLine_15 (by decide) ht ⟨by omega, by omega⟩ (fun c_15 => ?_) (fun c_15 => ?_)
    · refine gg_aload_n dX9_addLine_28 rfl rfl ?_
      refine gk_getX9_12 rfl dX9_addLine_29 ?_
      refine gc_X9_191 rfl dX9_addLine_32 ⟨(Nat.le_of_ble_eq_true rfl), (Nat.le_of_ble_eq_true rfl)⟩ ⟨(Nat.le_of_ble_eq_true rfl), (Nat.le_of_ble_eq_true rfl)⟩ (Nat.le_of_ble_eq_true rfl) (HAt.mu gst_40) (c_X1_takeLine p4 p5) (fun _ _ w => w.elim) (fun r_32 h_32 hp => ?_)
      obtain ⟨ι', B1, rfl, hB1, hX, hpost⟩ := hp
      rw [show uF (if (parseL (B 41) (G 4) 12 0).1 = true then uF G 3 (parseL (B 41) (G 4) 12 0).2.1 else uF (uF G 3 (parseL (B 41) (G 4) 12 0).2.1) 5 (parseL (B 41) (G 4) 12 0).2.1) 4 0 = (tkG G ((parseL (B 41) (G 4) 12 0).1 = true) (parseL (B 41) (G 4) 12 0).2.1) from rfl]
      have g1 : (tkG G ((parseL (B 41) (G 4) 12 0).1 = true) (parseL (B 41) (G 4) 12 0).2.1) 0 = (b : Int) := (tkG_l (by decide)).trans g0
      have hmq1 : (tkG G ((parseL (B 41) (G 4) 12 0).1 = true) (parseL (B 41) (G 4) 12 0).2.1) (100 + 10 * b) = (mq : Int) := (tkG_l (by omega)).trans hmq
      have hcn1 : (tkG G ((parseL (B 41) (G 4) 12 0).1 = true) (parseL (B 41) (G 4) 12 0).2.1) (103 + 10 * b + i.toNat) = G (103 + 10 * b + i.toNat) := tkG_l (by omega)
      have H1 : HIS (tkG G ((parseL (B 41) (G 4) 12 0).1 = true) (parseL (B 41) (G 4) 12 0).2.1) B1 b := (H9.tk (c := (parseL (B 41) (G 4) 12 0).1 = true) (P := (parseL (B 41) (G 4) 12 0).2.1)).b1 hB1
      have hcr : rmG (tkG G ((parseL (B 41) (G 4) 12 0).1 = true) (parseL (B 41) (G 4) 12 0).2.1) B1 b (103 + 10 * b + i.toNat) = G (103 + 10 * b + i.toNat) := (rmG_o H1 (by omega)).trans hcn1
      have W1 : WR ι' B1 := (WR9.ext hX).b1 hB1
      rcases hpost with ⟨e9, q, rfl, hq9⟩ | ⟨e9, rfl⟩
      · obtain ⟨v0, v2, v3, v4, cq⟩ := hq9.cell
        refine gg_astore dX9_addLine_35 rfl (Nat.le_of_ble_eq_true rfl) rfl ?_
        refine gg_aload dX9_addLine_37 rfl rfl ?_
        refine gg_ifnonnull (tgt := 52) dX9_addLine_39 (by decide) rfl (fun a_39 c_39 => ?_) (fun c_39 => ?_)
        · refine gg_aload_n dX9_addLine_52 rfl rfl ?_
          refine gk_getX9_186 hb9 hd9 rfl dX9_addLine_53 hcn1 ?_
          refine gi_bipush dX9_addLine_56 (by decide) ?_
          refine gi_icmp_lt (tgt := 71) dX9_addLine_58 (by decide) ⟨by omega, by omega⟩ ⟨by omega, by omega⟩ (fun c_58 => ?_) (fun c_58 => ?_)
          · refine gg_aload_n dX9_addLine_71 rfl rfl ?_
            refine gc_X9_106 rfl dX9_addLine_72 ⟨(Nat.le_of_ble_eq_true rfl), (Nat.le_of_ble_eq_true rfl)⟩ ⟨(Nat.le_of_ble_eq_true rfl), (Nat.le_of_ble_eq_true rfl)⟩ (Nat.le_of_ble_eq_true rfl) (HAt.mu gst_30) (c_remember (h := (h.1, ι')) (B := B1) hb9 g1 hmq1 W1 H1) (fun _ _ w => w.elim) (fun r_72 h_72 hp => ?_)
            obtain ⟨rfl, rfl⟩ := hp
            refine gg_aload_n dX9_addLine_75 rfl rfl ?_
            refine gg_iload_n dX9_addLine_76 rfl ?_
            refine gg_aload dX9_addLine_77 rfl rfl ?_
            refine gc_X9_199 rfl dX9_addLine_79 ⟨(Nat.le_of_ble_eq_true rfl), (Nat.le_of_ble_eq_true rfl)⟩ ⟨(Nat.le_of_ble_eq_true rfl), (Nat.le_of_ble_eq_true rfl)⟩ (Nat.le_of_ble_eq_true rfl) (HAt.mu (gst_dr hb9 hd9)) (c_X0_insert (h := (h.1, ι')) (G := (rmG (tkG G ((parseL (B 41) (G 4) 12 0).1 = true) (parseL (B 41) (G 4) 12 0).2.1) B1 b)) (B := (rmB (tkG G ((parseL (B 41) (G 4) 12 0).1 = true) (parseL (B 41) (G 4) 12 0).2.1) B1 b)) hb9 hd9 (by rw [hcr]; omega) (fun l l0 l1 => by rw [rmB_o H1 (by omega)]; exact (W1 b hb9).1 i.toNat l (by omega) l0 l1) (i := t) (by rw [hcr]; omega) (q := q) cq) (fun _ _ w => w.elim) (fun r_79 h_79 hp => ?_)
            obtain ⟨rfl, rfl⟩ := hp
            rw [hcr]
            refine gg_aload dX9_addLine_82 rfl rfl ?_
            refine gf_X9_203 rfl dX9_addLine_84 (HAt.io cq) rfl ?_
            subst hQF9
            refine gg_iret dX9_addLine_87 rfl rfl ⟨(Nat.le_of_ble_eq_true rfl), (Nat.le_of_ble_eq_true rfl)⟩ ?_
            exact ⟨⟨hi2, by omega, by omega⟩, e9, by omega, ι', B1, q, hX, hB1, hq9, rfl, rfl⟩
          · subst hQF9
            refine gg_throw (text := "the draft is full") thr_0 rfl (by decide) dX9_addLine_61 dX9_addLine_64 dX9_addLine_65 dX9_addLine_67 dX9_addLine_70 rfl ⟨(Nat.le_of_ble_eq_true rfl), (Nat.le_of_ble_eq_true rfl)⟩ ⟨(Nat.le_of_ble_eq_true rfl), (Nat.le_of_ble_eq_true rfl)⟩ ?_
            exact Or.inr ⟨⟨hi2, by omega, by omega⟩, ι', B1, hX, hB1, rfl, Or.inr ⟨e9, by omega, rfl⟩⟩
        · cases c_39
      · refine gg_astore dX9_addLine_35 rfl (Nat.le_of_ble_eq_true rfl) rfl ?_
        refine gg_aload dX9_addLine_37 rfl rfl ?_
        refine gg_ifnonnull (tgt := 52) dX9_addLine_39 (by decide) rfl (fun a_39 c_39 => ?_) (fun c_39 => ?_)
        · cases c_39
        · subst hQF9
          refine gg_throw (text := "the text is no line") thr_2 rfl (by decide) dX9_addLine_42 dX9_addLine_45 dX9_addLine_46 dX9_addLine_48 dX9_addLine_51 rfl ⟨(Nat.le_of_ble_eq_true rfl), (Nat.le_of_ble_eq_true rfl)⟩ ⟨(Nat.le_of_ble_eq_true rfl), (Nat.le_of_ble_eq_true rfl)⟩ ?_
          exact Or.inr ⟨⟨hi2, by omega, by omega⟩, ι', B1, hX, hB1, rfl, Or.inl ⟨e9, rfl⟩⟩
    · subst hQF9
      refine gg_throw (text := "no such number of a line") thr_3 rfl (by decide) dX9_addLine_18 dX9_addLine_21 dX9_addLine_22 dX9_addLine_24 dX9_addLine_27 rfl ⟨(Nat.le_of_ble_eq_true rfl), (Nat.le_of_ble_eq_true rfl)⟩ ⟨(Nat.le_of_ble_eq_true rfl), (Nat.le_of_ble_eq_true rfl)⟩ ?_
      exact Or.inl ⟨fun z => by omega, rfl, rfl⟩
set_option maxRecDepth 100000 in
set_option maxHeartbeats 4000000 in
theorem c_X9_replaceLine {Γ : GT} {h : XH} {G : Nat → Int} {B : Nat → Int → Int} {b : Nat} (hb9 : b ≤ 9) (g0 : G 0 = (b : Int)) {mq : Nat} (hmq : G (100 + 10 * b) = (mq : Int)) (WR9 : WR h.2 B) (H9 : HIS G B b) {fL : Int → Int → Int → Int} {nL : Int → Int → Int} (LD : ∀ d : Nat, d ≤ 3 → LnD h.2 G B b d (fL d) (nL d)) (p4 : 0 ≤ G 4 ∧ G 4 ≤ 60) (p5 : ∀ k, 0 ≤ k → k < G 4 → 0 ≤ B 41 k ∧ B 41 k < 65536) {i l : Int} (hi : InR i) (hl : InR l) : Ct Γ M_X9_replaceLine [.ref (g_L Γ 30), .int (iN i), .int (iN l)] (gst Γ h G B) (fun r h9 => ((0 ≤ i ∧ i ≤ 3) ∧ 0 ≤ l ∧ l < G (103 + 10 * b + i.toNat)) ∧ (parseL (B 41) (G 4) 12 0).1 = true ∧ ∃ (ι' : Nat → Option XE) (B1 : Nat → Int → Int) (q : Nat), ext h.2 ι' ∧ (∀ x, x ≠ 42 → x ≠ 43 → B1 x = B x) ∧ LnO ι' q (B 41) (G 4) ∧ r = some (.int (iN (pwL (B 41) (G 4)))) ∧ h9 = gst Γ (h.1, ι') (rmG (tkG G ((parseL (B 41) (G 4) 12 0).1 = true) (parseL (B 41) (G 4) 12 0).2.1) B1 b) (uA (rmB (tkG G ((parseL (B 41) (G 4) 12 0).1 = true) (parseL (B 41) (G 4) 12 0).2.1) B1 b) (106 + 11 * b + i.toNat) (up ((rmB (tkG G ((parseL (B 41) (G 4) 12 0).1 = true) (parseL (B 41) (G 4) 12 0).2.1) B1 b) (106 + 11 * b + i.toNat)) l (q : Int)))) (fun E h9 => (¬ ((0 ≤ i ∧ i ≤ 3) ∧ 0 ≤ l ∧ l < G (103 + 10 * b + i.toNat)) ∧ E = "java/lang/IndexOutOfBoundsException" ∧ h9 = gst Γ h G B) ∨ (((0 ≤ i ∧ i ≤ 3) ∧ 0 ≤ l ∧ l < G (103 + 10 * b + i.toNat)) ∧ (parseL (B 41) (G 4) 12 0).1 = false ∧ E = "java/lang/IllegalArgumentException" ∧ ∃ (ι' : Nat → Option XE) (B1 : Nat → Int → Int), ext h.2 ι' ∧ (∀ x, x ≠ 42 → x ≠ 43 → B1 x = B x) ∧ h9 = gst Γ (h.1, ι') (tkG G ((parseL (B 41) (G 4) 12 0).1 = true) (parseL (B 41) (G 4) 12 0).2.1) B1)) := by
  refine Ct.of rfl (by decide +kernel) (Nat.le_of_ble_eq_true rfl) ?_
  generalize hQF9 : QM Γ _ _ _ = QF9
  refine gg_aload_n dX9_replaceLine_0 rfl rfl ?_
  refine gg_iload_n dX9_replaceLine_1 rfl ?_
  refine gc_X9_182 rfl dX9_replaceLine_2 ⟨(Nat.le_of_ble_eq_true rfl), (Nat.le_of_ble_eq_true rfl)⟩ ⟨(Nat.le_of_ble_eq_true rfl), (Nat.le_of_ble_eq_true rfl)⟩ (Nat.le_of_ble_eq_true rfl) (HAt.mu gst_30) (c_X9_draftAt hb9 g0 hi) (fun E h8 hx => by subst hQF9; exact gx_out rfl ⟨(Nat.le_of_ble_eq_true rfl), (Nat.le_of_ble_eq_true rfl)⟩ (by obtain ⟨h1, h2, h3⟩ := hx; exact Or.inl ⟨fun z => h1 z.1, h2, h3⟩)) (fun r_2 h_2 hp => ?_)
  obtain ⟨hi2, rfl, rfl⟩ := hp
  have hd9 : i.toNat ≤ 3 := by omega
  have hcn := (LD i.toNat hd9).1
  refine gg_astore_n dX9_replaceLine_5 rfl (Nat.le_of_ble_eq_true rfl) rfl ?_
  refine gg_aload_n dX9_replaceLine_6 rfl rfl ?_
  refine gg_iload_n dX9_replaceLine_7 rfl ?_
  refine gg_iload_n dX9_replaceLine_8 rfl ?_
  refine gc_X9_208 rfl dX9_replaceLine_9 ⟨(Nat.le_of_ble_eq_true rfl), (Nat.le_of_ble_eq_true rfl)⟩ ⟨(Nat.le_of_ble_eq_true rfl), (Nat.le_of_ble_eq_true rfl)⟩ (Nat.le_of_ble_eq_true rfl) (HAt.mu gst_30) (c_X9_lineAt hb9 g0 (fun d hd => (LD d hd).1) (fun d l => LDs.c LD d l) hi hl) (fun E h8 hx => by subst hQF9; exact gx_out rfl ⟨(Nat.le_of_ble_eq_true rfl), (Nat.le_of_ble_eq_true rfl)⟩ (by obtain ⟨h1, h2, h3⟩ := hx; exact Or.inl ⟨h1, h2, h3⟩)) (fun r_9 h_9 hp => ?_)
  obtain ⟨hil, rfl, rfl⟩ := hp
  refine gg_pop dX9_replaceLine_12 rfl ?_
  refine gg_aload_n dX9_replaceLine_13 rfl rfl ?_
  refine gk_getX9_12 rfl dX9_replaceLine_14 ?_
  refine gc_X9_191 rfl dX9_replaceLine_17 ⟨(Nat.le_of_ble_eq_true rfl), (Nat.le_of_ble_eq_true rfl)⟩ ⟨(Nat.le_of_ble_eq_true rfl), (Nat.le_of_ble_eq_true rfl)⟩ (Nat.le_of_ble_eq_true rfl) (HAt.mu gst_40) (c_X1_takeLine p4 p5) (fun _ _ w => w.elim) (fun r_17 h_17 hp => ?_)
  obtain ⟨ι', B1, rfl, hB1, hX, hpost⟩ := hp
  rw [show uF (if (parseL (B 41) (G 4) 12 0).1 = true then uF G 3 (parseL (B 41) (G 4) 12 0).2.1 else uF (uF G 3 (parseL (B 41) (G 4) 12 0).2.1) 5 (parseL (B 41) (G 4) 12 0).2.1) 4 0 = (tkG G ((parseL (B 41) (G 4) 12 0).1 = true) (parseL (B 41) (G 4) 12 0).2.1) from rfl]
  have g1 : (tkG G ((parseL (B 41) (G 4) 12 0).1 = true) (parseL (B 41) (G 4) 12 0).2.1) 0 = (b : Int) := (tkG_l (by decide)).trans g0
  have hmq1 : (tkG G ((parseL (B 41) (G 4) 12 0).1 = true) (parseL (B 41) (G 4) 12 0).2.1) (100 + 10 * b) = (mq : Int) := (tkG_l (by omega)).trans hmq
  have hcn1 : (tkG G ((parseL (B 41) (G 4) 12 0).1 = true) (parseL (B 41) (G 4) 12 0).2.1) (103 + 10 * b + i.toNat) = G (103 + 10 * b + i.toNat) := tkG_l (by omega)
  have H1 : HIS (tkG G ((parseL (B 41) (G 4) 12 0).1 = true) (parseL (B 41) (G 4) 12 0).2.1) B1 b := (H9.tk (c := (parseL (B 41) (G 4) 12 0).1 = true) (P := (parseL (B 41) (G 4) 12 0).2.1)).b1 hB1
  have hcr : rmG (tkG G ((parseL (B 41) (G 4) 12 0).1 = true) (parseL (B 41) (G 4) 12 0).2.1) B1 b (103 + 10 * b + i.toNat) = G (103 + 10 * b + i.toNat) := (rmG_o H1 (by omega)).trans hcn1
  have W1 : WR ι' B1 := (WR9.ext hX).b1 hB1
  rcases hpost with ⟨e9, q, rfl, hq9⟩ | ⟨e9, rfl⟩
  · obtain ⟨v0, v2, v3, v4, cq⟩ := hq9.cell
    refine gg_astore dX9_replaceLine_20 rfl (Nat.le_of_ble_eq_true rfl) rfl ?_
    refine gg_aload dX9_replaceLine_22 rfl rfl ?_
    refine gg_ifnonnull (tgt := 37) dX9_replaceLine_24 (by decide) rfl (fun a_24 c_24 => ?_) (fun c_24 => ?_)
    · refine gg_aload_n dX9_replaceLine_37 rfl rfl ?_
      refine gc_X9_106 rfl dX9_replaceLine_38 ⟨(Nat.le_of_ble_eq_true rfl), (Nat.le_of_ble_eq_true rfl)⟩ ⟨(Nat.le_of_ble_eq_true rfl), (Nat.le_of_ble_eq_true rfl)⟩ (Nat.le_of_ble_eq_true rfl) (HAt.mu gst_30) (c_remember (h := (h.1, ι')) (B := B1) hb9 g1 hmq1 W1 H1) (fun _ _ w => w.elim) (fun r_38 h_38 hp => ?_)
      obtain ⟨rfl, rfl⟩ := hp
      refine gg_aload_n dX9_replaceLine_41 rfl rfl ?_
      refine gg_iload_n dX9_replaceLine_42 rfl ?_
      refine gg_aload dX9_replaceLine_43 rfl rfl ?_
      refine gc_X9_212 rfl dX9_replaceLine_45 ⟨(Nat.le_of_ble_eq_true rfl), (Nat.le_of_ble_eq_true rfl)⟩ ⟨(Nat.le_of_ble_eq_true rfl), (Nat.le_of_ble_eq_true rfl)⟩ (Nat.le_of_ble_eq_true rfl) (HAt.mu (gst_dr hb9 hd9)) (c_X0_put (h := (h.1, ι')) (G := (rmG (tkG G ((parseL (B 41) (G 4) 12 0).1 = true) (parseL (B 41) (G 4) 12 0).2.1) B1 b)) (B := (rmB (tkG G ((parseL (B 41) (G 4) 12 0).1 = true) (parseL (B 41) (G 4) 12 0).2.1) B1 b)) hb9 hd9 (by rw [hcr]; exact hcn) (i := l) (by rw [hcr]; exact hil.2) (q := q) cq) (fun _ _ w => w.elim) (fun r_45 h_45 hp => ?_)
      obtain ⟨rfl, rfl⟩ := hp
      refine gg_aload dX9_replaceLine_48 rfl rfl ?_
      refine gf_X9_203 rfl dX9_replaceLine_50 (HAt.io cq) rfl ?_
      subst hQF9
      refine gg_iret dX9_replaceLine_53 rfl rfl ⟨(Nat.le_of_ble_eq_true rfl), (Nat.le_of_ble_eq_true rfl)⟩ ?_
      exact ⟨hil, e9, ι', B1, q, hX, hB1, hq9, rfl, rfl⟩
    · cases c_24
  · refine gg_astore dX9_replaceLine_20 rfl (Nat.le_of_ble_eq_true rfl) rfl ?_
    refine gg_aload dX9_replaceLine_22 rfl rfl ?_
    refine gg_ifnonnull (tgt := 37) dX9_replaceLine_24 (by decide) rfl (fun a_24 c_24 => ?_) (fun c_24 => ?_)
    · cases c_24
    · subst hQF9
      refine gg_throw (text := "the text is no line") thr_2 rfl (by decide) dX9_replaceLine_27 dX9_replaceLine_30 dX9_replaceLine_31 dX9_replaceLine_33 dX9_replaceLine_36 rfl ⟨(Nat.le_of_ble_eq_true rfl), (Nat.le_of_ble_eq_true rfl)⟩ ⟨(Nat.le_of_ble_eq_true rfl), (Nat.le_of_ble_eq_true rfl)⟩ ?_
      exact Or.inr ⟨hil, e9, rfl, ι', B1, hX, hB1, rfl⟩
