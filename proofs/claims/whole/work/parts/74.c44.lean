/-! the scanner: public methods, 12 -/
/-- why a line fits or not -/
def reV (D : DT) (tol : Int) : Int := if (srch D).1 ≠ NOK then (if (srch D).1 / 65536 ≤ tol then 0 else 4) else if tfew D = true then 1 else if tmny D = true then 2 else 3
set_option maxRecDepth 100000 in
set_option maxHeartbeats 4000000 in
theorem c_X9_reason {Γ : GT} {h : XH} {G : Nat → Int} {B : Nat → Int → Int} {b mq : Nat} {kd ft c9 : Int} {a : Int → Int} (S : SW h.2 G B b mq kd ft c9 a) {fL : Int → Int → Int → Int} {nL : Int → Int → Int} (LD : ∀ d : Nat, d ≤ 3 → LnD h.2 G B b d (fL d) (nL d)) {i l : Int} (hi : InR i) (hl : InR l) : Ct Γ M_X9_reason [.ref (g_L Γ 30), .int (iN i), .int (iN l)] (gst Γ h G B) (fun r h9 => ((0 ≤ i ∧ i ≤ 3) ∧ 0 ≤ l ∧ l < G (103 + 10 * b + i.toNat)) ∧ ∃ (G' : Nat → Int) (B' : Nat → Int → Int), r = some (.int (iN (reV (dtA a (fL i.toNat l) (nL i.toNat l) kd ft c9) (G (101 + 10 * b))))) ∧ h9 = gst Γ h G' B' ∧ frS G G' B B') (fun E h9 => ¬ ((0 ≤ i ∧ i ≤ 3) ∧ 0 ≤ l ∧ l < G (103 + 10 * b + i.toNat)) ∧ E = "java/lang/IndexOutOfBoundsException" ∧ h9 = gst Γ h G B) := by
  refine Ct.of rfl (by decide +kernel) (Nat.le_of_ble_eq_true rfl) ?_
  generalize hQF9 : QM Γ _ _ _ = QF9
  obtain ⟨hb9, g0, hm9, M1, X9, I9, T9⟩ := S
  refine gg_aload_n dX9_reason_0 rfl rfl ?_
  refine gg_aload_n dX9_reason_1 rfl rfl ?_
  refine gg_iload_n dX9_reason_2 rfl ?_
  refine gg_iload_n dX9_reason_3 rfl ?_
  refine gc_X9_208 rfl dX9_reason_4 ⟨(Nat.le_of_ble_eq_true rfl), (Nat.le_of_ble_eq_true rfl)⟩ ⟨(Nat.le_of_ble_eq_true rfl), (Nat.le_of_ble_eq_true rfl)⟩ (Nat.le_of_ble_eq_true rfl) (HAt.mu gst_30) (c_X9_lineAt hb9 g0 (fun d hd => (LD d hd).1) (fun d l => LDs.c LD d l) hi hl) (fun E h8 hx => by subst hQF9; exact gx_out rfl ⟨(Nat.le_of_ble_eq_true rfl), (Nat.le_of_ble_eq_true rfl)⟩ (by obtain ⟨h1, h2, h3⟩ := hx; exact ⟨h1, h2, h3⟩)) (fun r_4 h_4 hp => ?_)
  obtain ⟨hil, rfl, rfl⟩ := hp
  obtain ⟨q1, hq1, L1⟩ := (LD i.toNat (by omega)).2 l hil.2.1 hil.2.2
  rw [hq1, Int.toNat_natCast]
  refine gc_X9_324 rfl dX9_reason_7 ⟨(Nat.le_of_ble_eq_true rfl), (Nat.le_of_ble_eq_true rfl)⟩ ⟨(Nat.le_of_ble_eq_true rfl), (Nat.le_of_ble_eq_true rfl)⟩ (Nat.le_of_ble_eq_true rfl) (HAt.mu gst_30) (c_X9_bestKey hb9 g0 hm9 M1 X9 I9 L1) (fun _ _ w => w.elim) (fun r_7 h_7 hp => ?_)
  obtain ⟨G2, B2, rfl, rfl, hs9⟩ := hp
  have R2 := hs9.2.2.1
  have ok9 := RdD.ok (D := (dtA a (fL i.toNat l) (nL i.toNat l) kd ft c9)) R2
  have kr := srch_r ok9.1 ok9.2
  have t9 : G2 (101 + 10 * b) = G (101 + 10 * b) := hs9.fr.g (by omega)
  obtain ⟨v, hv⟩ : ∃ v, (reV (dtA a (fL i.toNat l) (nL i.toNat l) kd ft c9) (G (101 + 10 * b))) = v := ⟨_, rfl⟩
  rw [hv] at hQF9
  unfold reV at hv
  obtain ⟨k, hk⟩ : ∃ k, (srch (dtA a (fL i.toNat l) (nL i.toNat l) kd ft c9)).1 = k := ⟨_, rfl⟩
  rw [hk] at kr hv ⊢
  have kr2 := kr
  unfold NOK at kr2
  refine gg_istore_n dX9_reason_10 (Nat.le_of_ble_eq_true rfl) rfl ?_
  refine gg_iload_n dX9_reason_11 rfl ?_
  refine gi_ldcw (z := 1073741824) (by decide) (wi_44 _ (List.mem_of_getElem? (i := 14) rfl)) rfl dX9_reason_12 ?_
  refine gi_icmp_eq (tgt := 32) dX9_reason_15 (by decide) ⟨by omega, by omega⟩ ⟨by omega, by omega⟩ (fun c_15 => ?_) (fun c_15 => ?_)
  · refine gg_aload_n dX9_reason_32 rfl rfl ?_
    refine gk_getX9_30 rfl dX9_reason_33 ?_
    refine gg_aload_n dX9_reason_36 rfl rfl ?_
    refine gk_getX9_65 rfl dX9_reason_37 ((hs9.fr.g (by omega)).trans g0) ?_
    refine gk_getX9_109 hb9 rfl dX9_reason_40 ((hs9.fr.g (by omega)).trans hm9) ?_
    refine gc_X9_340 rfl dX9_reason_43 ⟨(Nat.le_of_ble_eq_true rfl), (Nat.le_of_ble_eq_true rfl)⟩ ⟨(Nat.le_of_ble_eq_true rfl), (Nat.le_of_ble_eq_true rfl)⟩ (Nat.le_of_ble_eq_true rfl) (HAt.mu gst_50) (c_X5_hasTooFew R2 hs9.2.2.2.1 M1) (fun _ _ w => w.elim) (fun r_43 h_43 hp => ?_)
    obtain ⟨rfl, rfl⟩ := hp
    refine gg_conv (st2 := [.int (iN (bi (tfew (dtA a (fL i.toNat l) (nL i.toNat l) kd ft c9))))]) ?_ rfl rfl rfl
    refine gi_if_eq (tgt := 51) dX9_reason_46 (by decide) (bi_r _) (fun c_46 => ?_) (fun c_46 => ?_)
    · rw [bi_f] at c_46
      refine gg_aload_n dX9_reason_51 rfl rfl ?_
      refine gk_getX9_30 rfl dX9_reason_52 ?_
      refine gg_aload_n dX9_reason_55 rfl rfl ?_
      refine gk_getX9_65 rfl dX9_reason_56 ((hs9.fr.g (by omega)).trans g0) ?_
      refine gk_getX9_109 hb9 rfl dX9_reason_59 ((hs9.fr.g (by omega)).trans hm9) ?_
      refine gc_X9_344 rfl dX9_reason_62 ⟨(Nat.le_of_ble_eq_true rfl), (Nat.le_of_ble_eq_true rfl)⟩ ⟨(Nat.le_of_ble_eq_true rfl), (Nat.le_of_ble_eq_true rfl)⟩ (Nat.le_of_ble_eq_true rfl) (HAt.mu gst_50) (c_X5_hasTooMany R2 hs9.2.2.2.1 hs9.2.2.2.2.1 M1) (fun _ _ w => w.elim) (fun r_62 h_62 hp => ?_)
      obtain ⟨rfl, rfl⟩ := hp
      refine gg_conv (st2 := [.int (iN (bi (tmny (dtA a (fL i.toNat l) (nL i.toNat l) kd ft c9))))]) ?_ rfl rfl rfl
      refine gi_if_eq (tgt := 72) dX9_reason_65 (by decide) (bi_r _) (fun c_65 => ?_) (fun c_65 => ?_)
      · rw [bi_f] at c_65
        refine gi_iconst dX9_reason_72 ?_
        subst hQF9
        refine gg_iret dX9_reason_73 rfl rfl ⟨(Nat.le_of_ble_eq_true rfl), (Nat.le_of_ble_eq_true rfl)⟩ ?_
        rw [if_neg (by unfold NOK; omega), if_neg (by rw [c_46]; decide), if_neg (by rw [c_65]; decide)] at hv
        subst hv
        exact ⟨hil, G2, B2, rfl, rfl, hs9.fr⟩
      · rw [bi_t] at c_65
        refine gi_iconst dX9_reason_68 ?_
        refine gg_goto (tgt := 73) dX9_reason_69 (by decide) ?_
        subst hQF9
        refine gg_iret dX9_reason_73 rfl rfl ⟨(Nat.le_of_ble_eq_true rfl), (Nat.le_of_ble_eq_true rfl)⟩ ?_
        rw [if_neg (by unfold NOK; omega), if_neg (by rw [c_46]; decide), if_pos c_65] at hv
        subst hv
        exact ⟨hil, G2, B2, rfl, rfl, hs9.fr⟩
    · rw [bi_t] at c_46
      refine gi_iconst dX9_reason_49 ?_
      subst hQF9
      refine gg_iret dX9_reason_50 rfl rfl ⟨(Nat.le_of_ble_eq_true rfl), (Nat.le_of_ble_eq_true rfl)⟩ ?_
      rw [if_neg (by unfold NOK; omega), if_pos c_46] at hv
      subst hv
      exact ⟨hil, G2, B2, rfl, rfl, hs9.fr⟩
  · refine gg_aload_n dX9_reason_18 rfl rfl ?_
    refine gg_iload_n dX9_reason_19 rfl ?_
    refine gc_X9_337 rfl dX9_reason_20 ⟨(Nat.le_of_ble_eq_true rfl), (Nat.le_of_ble_eq_true rfl)⟩ ⟨(Nat.le_of_ble_eq_true rfl), (Nat.le_of_ble_eq_true rfl)⟩ (Nat.le_of_ble_eq_true rfl) (HAt.mu gst_30) (c_X9_fits hb9 ((hs9.fr.g (by omega)).trans g0) (k := k) kr (by rw [t9]; exact T9)) (fun _ _ w => w.elim) (fun r_20 h_20 hp => ?_)
    obtain ⟨rfl, rfl⟩ := hp
    rw [t9]
    refine gi_if_eq (tgt := 30) dX9_reason_23 (by decide) (bi_r _) (fun c_23 => ?_) (fun c_23 => ?_)
    · rw [bi_f] at c_23
      rw [decide_eq_false_iff_not] at c_23
      refine gi_iconst dX9_reason_30 ?_
      subst hQF9
      refine gg_iret dX9_reason_31 rfl rfl ⟨(Nat.le_of_ble_eq_true rfl), (Nat.le_of_ble_eq_true rfl)⟩ ?_
      rw [if_pos (by unfold NOK; omega)] at hv
      rw [if_neg (fun z => c_23 ⟨by unfold NOK; omega, z⟩)] at hv
      subst hv
      exact ⟨hil, G2, B2, rfl, rfl, hs9.fr⟩
    · rw [bi_t] at c_23
      rw [decide_eq_true_iff] at c_23
      refine gi_iconst dX9_reason_26 ?_
      refine gg_goto (tgt := 31) dX9_reason_27 (by decide) ?_
      subst hQF9
      refine gg_iret dX9_reason_31 rfl rfl ⟨(Nat.le_of_ble_eq_true rfl), (Nat.le_of_ble_eq_true rfl)⟩ ?_
      rw [if_pos (by unfold NOK; omega)] at hv
      rw [if_pos c_23.2] at hv
      subst hv
      exact ⟨hil, G2, B2, rfl, rfl, hs9.fr⟩
