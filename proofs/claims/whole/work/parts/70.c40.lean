/-! the scanner: public methods, 8 -/
set_option maxRecDepth 100000 in
set_option maxHeartbeats 4000000 in
theorem c_X9_rhymes {Γ : GT} {h : XH} {G : Nat → Int} {B : Nat → Int → Int} {b mq : Nat} {kd ft c9 : Int} {a : Int → Int} (S : SW h.2 G B b mq kd ft c9 a) {fL : Int → Int → Int → Int} {nL : Int → Int → Int} (LD : ∀ d : Nat, d ≤ 3 → LnD h.2 G B b d (fL d) (nL d)) {i l m : Int} (hi : InR i) (hl : InR l) (hm : InR m) : Ct Γ M_X9_rhymes [.ref (g_L Γ 30), .int (iN i), .int (iN l), .int (iN m)] (gst Γ h G B) (fun r h9 => (((0 ≤ i ∧ i ≤ 3) ∧ 0 ≤ l ∧ l < G (103 + 10 * b + i.toNat)) ∧ 0 ≤ m ∧ m < G (103 + 10 * b + i.toNat)) ∧ r = some (.int (iN (rkL a (fL i.toNat l) (nL i.toNat l) (fL i.toNat m) (nL i.toNat m)))) ∧ h9 = gst Γ h G B) (fun E h9 => ¬ (((0 ≤ i ∧ i ≤ 3) ∧ 0 ≤ l ∧ l < G (103 + 10 * b + i.toNat)) ∧ 0 ≤ m ∧ m < G (103 + 10 * b + i.toNat)) ∧ E = "java/lang/IndexOutOfBoundsException" ∧ h9 = gst Γ h G B) := by
  refine Ct.of rfl (by decide +kernel) (Nat.le_of_ble_eq_true rfl) ?_
  generalize hQF9 : QM Γ _ _ _ = QF9
  obtain ⟨hb9, g0, hm9, M1, X9, I9, T9⟩ := S
  refine gg_aload_n dX9_rhymes_0 rfl rfl ?_
  refine gg_iload_n dX9_rhymes_1 rfl ?_
  refine gg_iload_n dX9_rhymes_2 rfl ?_
  refine gc_X9_208 rfl dX9_rhymes_3 ⟨(Nat.le_of_ble_eq_true rfl), (Nat.le_of_ble_eq_true rfl)⟩ ⟨(Nat.le_of_ble_eq_true rfl), (Nat.le_of_ble_eq_true rfl)⟩ (Nat.le_of_ble_eq_true rfl) (HAt.mu gst_30) (c_X9_lineAt hb9 g0 (fun d hd => (LD d hd).1) (fun d l => LDs.c LD d l) hi hl) (fun E h8 hx => by subst hQF9; exact gx_out rfl ⟨(Nat.le_of_ble_eq_true rfl), (Nat.le_of_ble_eq_true rfl)⟩ (by obtain ⟨h1, h2, h3⟩ := hx; exact ⟨fun z => h1 z.1, h2, h3⟩)) (fun r_3 h_3 hp => ?_)
  obtain ⟨hil, rfl, rfl⟩ := hp
  obtain ⟨q1, hq1, L1⟩ := (LD i.toNat (by omega)).2 l hil.2.1 hil.2.2
  rw [hq1, Int.toNat_natCast]
  obtain ⟨w1, v0, v1, v2, v4, l4, W1⟩ := L1.last
  refine gf_X9_262 rfl dX9_rhymes_6 (HAt.io l4) rfl ?_
  refine gg_astore dX9_rhymes_9 rfl (Nat.le_of_ble_eq_true rfl) rfl ?_
  refine gg_aload_n dX9_rhymes_11 rfl rfl ?_
  refine gg_iload_n dX9_rhymes_12 rfl ?_
  refine gg_iload_n dX9_rhymes_13 rfl ?_
  refine gc_X9_208 rfl dX9_rhymes_14 ⟨(Nat.le_of_ble_eq_true rfl), (Nat.le_of_ble_eq_true rfl)⟩ ⟨(Nat.le_of_ble_eq_true rfl), (Nat.le_of_ble_eq_true rfl)⟩ (Nat.le_of_ble_eq_true rfl) (HAt.mu gst_30) (c_X9_lineAt hb9 g0 (fun d hd => (LD d hd).1) (fun d l => LDs.c LD d l) hi hm) (fun E h8 hx => by subst hQF9; exact gx_out rfl ⟨(Nat.le_of_ble_eq_true rfl), (Nat.le_of_ble_eq_true rfl)⟩ (by obtain ⟨h1, h2, h3⟩ := hx; exact ⟨fun z => h1 ⟨z.1.1, z.2⟩, h2, h3⟩)) (fun r_14 h_14 hp => ?_)
  obtain ⟨him, rfl, rfl⟩ := hp
  obtain ⟨q2, hq2, L2⟩ := (LD i.toNat (by omega)).2 m him.2.1 him.2.2
  rw [hq2, Int.toNat_natCast]
  obtain ⟨w2, u0, u1, u2, u4, l9, W2⟩ := L2.last
  refine gf_X9_262 rfl dX9_rhymes_17 (HAt.io l9) rfl ?_
  refine gg_astore dX9_rhymes_20 rfl (Nat.le_of_ble_eq_true rfl) rfl ?_
  refine gg_aload dX9_rhymes_22 rfl rfl ?_
  refine gg_aload_n dX9_rhymes_24 rfl rfl ?_
  refine gk_getX9_65 rfl dX9_rhymes_25 g0 ?_
  refine gg_aload dX9_rhymes_28 rfl rfl ?_
  refine gc_X9_270 rfl dX9_rhymes_30 ⟨(Nat.le_of_ble_eq_true rfl), (Nat.le_of_ble_eq_true rfl)⟩ ⟨(Nat.le_of_ble_eq_true rfl), (Nat.le_of_ble_eq_true rfl)⟩ (Nat.le_of_ble_eq_true rfl) (HAt.mu (gst_st hb9)) (c_X7_rhymeStart hb9 X9 W1) (fun _ _ w => w.elim) (fun r_30 h_30 hp => ?_)
  obtain ⟨rfl, rfl⟩ := hp
  refine gg_aload dX9_rhymes_33 rfl rfl ?_
  refine gg_aload_n dX9_rhymes_35 rfl rfl ?_
  refine gk_getX9_65 rfl dX9_rhymes_36 g0 ?_
  refine gg_aload dX9_rhymes_39 rfl rfl ?_
  refine gc_X9_270 rfl dX9_rhymes_41 ⟨(Nat.le_of_ble_eq_true rfl), (Nat.le_of_ble_eq_true rfl)⟩ ⟨(Nat.le_of_ble_eq_true rfl), (Nat.le_of_ble_eq_true rfl)⟩ (Nat.le_of_ble_eq_true rfl) (HAt.mu (gst_st hb9)) (c_X7_rhymeStart hb9 X9 W2) (fun _ _ w => w.elim) (fun r_41 h_41 hp => ?_)
  obtain ⟨rfl, rfl⟩ := hp
  have r1 := rsE_r (a := a) (f := lwG (fL i.toNat l) (nL i.toNat l)) W1.1 (syE_1 X9 W1.1)
  have r2 := rsE_r (a := a) (f := lwG (fL i.toNat m) (nL i.toNat m)) W2.1 (syE_1 X9 W2.1)
  have w1r := W1.1
  have w2r := W2.1
  replace r1 : 0 ≤ rsE a (lwG (fL i.toNat l) (nL i.toNat l)) (lwZ (fL i.toNat l) (nL i.toNat l)) ∧ rsE a (lwG (fL i.toNat l) (nL i.toNat l)) (lwZ (fL i.toNat l) (nL i.toNat l)) ≤ 11 := by omega
  replace r2 : 0 ≤ rsE a (lwG (fL i.toNat m) (nL i.toNat m)) (lwZ (fL i.toNat m) (nL i.toNat m)) ∧ rsE a (lwG (fL i.toNat m) (nL i.toNat m)) (lwZ (fL i.toNat m) (nL i.toNat m)) ≤ 11 := by omega
  refine gc_X9_306 rfl dX9_rhymes_44 ⟨(Nat.le_of_ble_eq_true rfl), (Nat.le_of_ble_eq_true rfl)⟩ ⟨(Nat.le_of_ble_eq_true rfl), (Nat.le_of_ble_eq_true rfl)⟩ (Nat.le_of_ble_eq_true rfl) (c_X9_rhymeKind (h := gst Γ h G B) W1 W2 (x9 := rsE a (lwG (fL i.toNat l) (nL i.toNat l)) (lwZ (fL i.toNat l) (nL i.toNat l))) (y9 := rsE a (lwG (fL i.toNat m) (nL i.toNat m)) (lwZ (fL i.toNat m) (nL i.toNat m))) r1 r2) (fun _ _ w => w.elim) (fun r_44 h_44 hp => ?_)
  obtain ⟨rfl, rfl⟩ := hp
  subst hQF9
  refine gg_iret dX9_rhymes_47 rfl rfl ⟨(Nat.le_of_ble_eq_true rfl), (Nat.le_of_ble_eq_true rfl)⟩ ?_
  exact ⟨⟨hil, him.2⟩, rfl, rfl⟩
