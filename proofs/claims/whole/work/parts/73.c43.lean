/-! the scanner: public methods, 11 -/
set_option maxRecDepth 100000 in
set_option maxHeartbeats 4000000 in
theorem c_X9_rhyme {Γ : GT} {h : XH} {G : Nat → Int} {B : Nat → Int → Int} {b mq : Nat} {kd ft c9 : Int} {a : Int → Int} (S : SW h.2 G B b mq kd ft c9 a) {fL : Int → Int → Int → Int} {nL : Int → Int → Int} (LD : ∀ d : Nat, d ≤ 3 → LnD h.2 G B b d (fL d) (nL d)) {i l k : Int} (hi : InR i) (hl : InR l) (hk : InR k) : Ct Γ M_X9_rhyme [.ref (g_L Γ 30), .int (iN i), .int (iN l), .int (iN k)] (gst Γ h G B) (fun r h9 => (((0 ≤ i ∧ i ≤ 3) ∧ 0 ≤ l ∧ l < G (103 + 10 * b + i.toNat)) ∧ 0 ≤ k ∧ k < lwZ (fL i.toNat l) (nL i.toNat l) - bi (wS (lwG (fL i.toNat l) (nL i.toNat l)) (lwZ (fL i.toNat l) (nL i.toNat l))) - rsE a (lwG (fL i.toNat l) (nL i.toNat l)) (lwZ (fL i.toNat l) (nL i.toNat l))) ∧ r = some (.int (iN (lwG (fL i.toNat l) (nL i.toNat l) (rsE a (lwG (fL i.toNat l) (nL i.toNat l)) (lwZ (fL i.toNat l) (nL i.toNat l)) + k)))) ∧ h9 = gst Γ h G B) (fun E h9 => ¬ (((0 ≤ i ∧ i ≤ 3) ∧ 0 ≤ l ∧ l < G (103 + 10 * b + i.toNat)) ∧ 0 ≤ k ∧ k < lwZ (fL i.toNat l) (nL i.toNat l) - bi (wS (lwG (fL i.toNat l) (nL i.toNat l)) (lwZ (fL i.toNat l) (nL i.toNat l))) - rsE a (lwG (fL i.toNat l) (nL i.toNat l)) (lwZ (fL i.toNat l) (nL i.toNat l))) ∧ E = "java/lang/IndexOutOfBoundsException" ∧ h9 = gst Γ h G B) := by
  refine Ct.of rfl (by decide +kernel) (Nat.le_of_ble_eq_true rfl) ?_
  generalize hQF9 : QM Γ _ _ _ = QF9
  obtain ⟨hb9, g0, hm9, M1, X9, I9, T9⟩ := S
  refine gg_aload_n dX9_rhyme_0 rfl rfl ?_
  refine gg_iload_n dX9_rhyme_1 rfl ?_
  refine gg_iload_n dX9_rhyme_2 rfl ?_
  refine gc_X9_208 rfl dX9_rhyme_3 ⟨(Nat.le_of_ble_eq_true rfl), (Nat.le_of_ble_eq_true rfl)⟩ ⟨(Nat.le_of_ble_eq_true rfl), (Nat.le_of_ble_eq_true rfl)⟩ (Nat.le_of_ble_eq_true rfl) (HAt.mu gst_30) (c_X9_lineAt hb9 g0 (fun d hd => (LD d hd).1) (fun d l => LDs.c LD d l) hi hl) (fun E h8 hx => by subst hQF9; exact gx_out rfl ⟨(Nat.le_of_ble_eq_true rfl), (Nat.le_of_ble_eq_true rfl)⟩ (by obtain ⟨h1, h2, h3⟩ := hx; exact ⟨fun z => h1 z.1, h2, h3⟩)) (fun r_3 h_3 hp => ?_)
  obtain ⟨hil, rfl, rfl⟩ := hp
  obtain ⟨q1, hq1, L1⟩ := (LD i.toNat (by omega)).2 l hil.2.1 hil.2.2
  rw [hq1, Int.toNat_natCast]
  obtain ⟨w1, v0, v1, v2, v4, l4, W1⟩ := L1.last
  have r1 := rsE_r (a := a) (f := lwG (fL i.toNat l) (nL i.toNat l)) W1.1 (syE_1 X9 W1.1)
  have w1r := W1.1
  obtain ⟨y1, y2, aL, aC, f9, g9, y3, y4⟩ := id W1
  refine gf_X9_262 rfl dX9_rhyme_6 (HAt.io l4) rfl ?_
  refine gg_astore dX9_rhyme_9 rfl (Nat.le_of_ble_eq_true rfl) rfl ?_
  refine gg_aload_n dX9_rhyme_11 rfl rfl ?_
  refine gk_getX9_65 rfl dX9_rhyme_12 g0 ?_
  refine gg_aload dX9_rhyme_15 rfl rfl ?_
  refine gc_X9_270 rfl dX9_rhyme_17 ⟨(Nat.le_of_ble_eq_true rfl), (Nat.le_of_ble_eq_true rfl)⟩ ⟨(Nat.le_of_ble_eq_true rfl), (Nat.le_of_ble_eq_true rfl)⟩ (Nat.le_of_ble_eq_true rfl) (HAt.mu (gst_st hb9)) (c_X7_rhymeStart hb9 X9 W1) (fun _ _ w => w.elim) (fun r_17 h_17 hp => ?_)
  obtain ⟨rfl, rfl⟩ := hp
  refine gg_istore dX9_rhyme_20 (Nat.le_of_ble_eq_true rfl) rfl ?_
  refine gg_iload_n dX9_rhyme_22 rfl ?_
  refine gi_if_lt (tgt := 38) dX9_rhyme_23 (by decide) hk (fun c_23 => ?_) (fun c_23 => ?_)
  · subst hQF9
    refine gg_throwW (text := "no such position in the rhyme") thr_3 rfl (by decide) dX9_rhyme_38 dX9_rhyme_41 dX9_rhyme_42 dX9_rhyme_45 dX9_rhyme_48 rfl ⟨(Nat.le_of_ble_eq_true rfl), (Nat.le_of_ble_eq_true rfl)⟩ ⟨(Nat.le_of_ble_eq_true rfl), (Nat.le_of_ble_eq_true rfl)⟩ ?_
    exact ⟨fun z => by omega, rfl, rfl⟩
  · refine gg_iload_n dX9_rhyme_26 rfl ?_
    refine gg_aload dX9_rhyme_27 rfl rfl ?_
    refine gf_X9_265 rfl dX9_rhyme_29 (HAt.io y3) rfl ?_
    refine gg_iload dX9_rhyme_32 rfl ?_
    refine gi_isub dX9_rhyme_34 ?_
    refine gi_icmp_lt (tgt := 49) dX9_rhyme_35 (by decide) hk ⟨by have := bi_01 (wS (lwG (fL i.toNat l) (nL i.toNat l)) (lwZ (fL i.toNat l) (nL i.toNat l))); omega, by have := bi_01 (wS (lwG (fL i.toNat l) (nL i.toNat l)) (lwZ (fL i.toNat l) (nL i.toNat l))); omega⟩ (fun c_35 => ?_) (fun c_35 => ?_)
    · refine gg_aload dX9_rhyme_49 rfl rfl ?_
      refine gg_iload dX9_rhyme_51 rfl ?_
      refine gg_iload_n dX9_rhyme_53 rfl ?_
      refine gi_iadd dX9_rhyme_54 ?_
      refine gc_X9_302 rfl dX9_rhyme_55 ⟨(Nat.le_of_ble_eq_true rfl), (Nat.le_of_ble_eq_true rfl)⟩ ⟨(Nat.le_of_ble_eq_true rfl), (Nat.le_of_ble_eq_true rfl)⟩ (Nat.le_of_ble_eq_true rfl) (HAt.io y3) (c_X8_letterAt (h := gst Γ h G B) W1 (i := rsE a (lwG (fL i.toNat l) (nL i.toNat l)) (lwZ (fL i.toNat l) (nL i.toNat l)) + k) ⟨by omega, by have := bi_01 (wS (lwG (fL i.toNat l) (nL i.toNat l)) (lwZ (fL i.toNat l) (nL i.toNat l))); omega⟩) (fun _ _ w => w.elim) (fun r_55 h_55 hp => ?_)
      obtain ⟨rfl, rfl⟩ := hp
      have lt9 := y2 (rsE a (lwG (fL i.toNat l) (nL i.toNat l)) (lwZ (fL i.toNat l) (nL i.toNat l)) + k) (by omega) (by have := bi_01 (wS (lwG (fL i.toNat l) (nL i.toNat l)) (lwZ (fL i.toNat l) (nL i.toNat l))); omega)
      subst hQF9
      refine gg_iret dX9_rhyme_58 rfl (nar_char ⟨by split <;> omega, by split <;> omega⟩) ⟨(Nat.le_of_ble_eq_true rfl), (Nat.le_of_ble_eq_true rfl)⟩ ?_
      refine ⟨⟨hil, by omega, by omega⟩, ?_, rfl⟩
      rw [if_pos ⟨by omega, by have := bi_01 (wS (lwG (fL i.toNat l) (nL i.toNat l)) (lwZ (fL i.toNat l) (nL i.toNat l))); omega⟩]
    · subst hQF9
      refine gg_throwW (text := "no such position in the rhyme") thr_3 rfl (by decide) dX9_rhyme_38 dX9_rhyme_41 dX9_rhyme_42 dX9_rhyme_45 dX9_rhyme_48 rfl ⟨(Nat.le_of_ble_eq_true rfl), (Nat.le_of_ble_eq_true rfl)⟩ ⟨(Nat.le_of_ble_eq_true rfl), (Nat.le_of_ble_eq_true rfl)⟩ ?_
      exact ⟨fun z => by omega, rfl, rfl⟩
