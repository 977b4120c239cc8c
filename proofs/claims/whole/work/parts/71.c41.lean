/-! the scanner: public methods, 9 -/
theorem frS.nm {G G' : Nat → Int} {B B' : Nat → Int → Int} {I : ∃ a b c d, IX G a b c d} (x : frF [16, 17] G G') (y : frA [61] B B') : frS G G' B B' := by
  refine ⟨fun j hj => x j (fun z => hj (by simp only [lF9, List.mem_cons, List.mem_nil_iff, or_false] at z ⊢; omega)), fun j hj => y j (fun z => hj (by simp only [lA9, List.mem_cons, List.mem_nil_iff, or_false] at z ⊢; omega)), ?_⟩
  obtain ⟨a1, b1, c1, d1, ix⟩ := I
  exact ⟨a1, b1, c1, d1, by unfold IX at ix ⊢; rw [x 12 (by decide), x 13 (by decide), x 14 (by decide), x 15 (by decide)]; exact ix⟩
set_option maxRecDepth 100000 in
set_option maxHeartbeats 4000000 in
theorem c_X9_scan {Γ : GT} {h : XH} {G : Nat → Int} {B : Nat → Int → Int} {b mq : Nat} {kd ft c9 : Int} {a : Int → Int} (S : SW h.2 G B b mq kd ft c9 a) {fL : Int → Int → Int → Int} {nL : Int → Int → Int} (LD : ∀ d : Nat, d ≤ 3 → LnD h.2 G B b d (fL d) (nL d)) {i l w : Int} (hi : InR i) (hl : InR l) (hw : InR w) (hpr : ((0 ≤ i ∧ i ≤ 3) ∧ 0 ≤ l ∧ l < G (103 + 10 * b + i.toNat)) → (srch (dtA a (fL i.toNat l) (nL i.toNat l) kd ft c9)).1 ≠ NOK → 0 ≤ prE (dtA a (fL i.toNat l) (nL i.toNat l) kd ft c9) ((srch (dtA a (fL i.toNat l) (nL i.toNat l) kd ft c9)).1 % 2) ((srch (dtA a (fL i.toNat l) (nL i.toNat l) kd ft c9)).1 / 2 % 2048)) : Ct Γ M_X9_scan [.ref (g_L Γ 30), .int (iN i), .int (iN l), .int (iN w)] (gst Γ h G B) (fun r h9 => ((0 ≤ i ∧ i ≤ 3) ∧ 0 ≤ l ∧ l < G (103 + 10 * b + i.toNat)) ∧ (0 ≤ w ∧ w ≤ 5) ∧ (srch (dtA a (fL i.toNat l) (nL i.toNat l) kd ft c9)).1 ≠ NOK ∧ ∃ (G' : Nat → Int) (B' : Nat → Int → Int) (g : Int → Int), r = some (.int (iN (nsV (dtA a (fL i.toNat l) (nL i.toNat l) kd ft c9) g (srch (dtA a (fL i.toNat l) (nL i.toNat l) kd ft c9)).1 w))) ∧ h9 = gst Γ h G' B' ∧ frS G G' B B') (fun E h9 => (¬ ((0 ≤ i ∧ i ≤ 3) ∧ 0 ≤ l ∧ l < G (103 + 10 * b + i.toNat)) ∧ E = "java/lang/IndexOutOfBoundsException" ∧ h9 = gst Γ h G B) ∨ (((0 ≤ i ∧ i ≤ 3) ∧ 0 ≤ l ∧ l < G (103 + 10 * b + i.toNat)) ∧ ¬ (0 ≤ w ∧ w ≤ 5) ∧ E = "java/lang/IllegalArgumentException" ∧ h9 = gst Γ h G B) ∨ (((0 ≤ i ∧ i ≤ 3) ∧ 0 ≤ l ∧ l < G (103 + 10 * b + i.toNat)) ∧ (0 ≤ w ∧ w ≤ 5) ∧ (srch (dtA a (fL i.toNat l) (nL i.toNat l) kd ft c9)).1 = NOK ∧ E = "java/util/NoSuchElementException" ∧ ∃ (G' : Nat → Int) (B' : Nat → Int → Int), h9 = gst Γ h G' B' ∧ frS G G' B B')) := by
  refine Ct.of rfl (by decide +kernel) (Nat.le_of_ble_eq_true rfl) ?_
  generalize hQF9 : QM Γ _ _ _ = QF9
  obtain ⟨hb9, g0, hm9, M1, X9, I9, T9⟩ := S
  refine gg_aload_n dX9_scan_0 rfl rfl ?_
  refine gg_iload_n dX9_scan_1 rfl ?_
  refine gg_iload_n dX9_scan_2 rfl ?_
  refine gc_X9_208 rfl dX9_scan_3 ⟨(Nat.le_of_ble_eq_true rfl), (Nat.le_of_ble_eq_true rfl)⟩ ⟨(Nat.le_of_ble_eq_true rfl), (Nat.le_of_ble_eq_true rfl)⟩ (Nat.le_of_ble_eq_true rfl) (HAt.mu gst_30) (c_X9_lineAt hb9 g0 (fun d hd => (LD d hd).1) (fun d l => LDs.c LD d l) hi hl) (fun E h8 hx => by subst hQF9; exact gx_out rfl ⟨(Nat.le_of_ble_eq_true rfl), (Nat.le_of_ble_eq_true rfl)⟩ (by obtain ⟨h1, h2, h3⟩ := hx; exact Or.inl ⟨h1, h2, h3⟩)) (fun r_3 h_3 hp => ?_)
  obtain ⟨hil, rfl, rfl⟩ := hp
  obtain ⟨q1, hq1, L1⟩ := (LD i.toNat (by omega)).2 l hil.2.1 hil.2.2
  rw [hq1, Int.toNat_natCast]
  refine gg_astore dX9_scan_6 rfl (Nat.le_of_ble_eq_true rfl) rfl ?_
  refine gg_iload_n dX9_scan_8 rfl ?_
  refine gi_if_lt (tgt := 17) dX9_scan_9 (by decide) hw (fun c_9 => ?_) (fun c_9 => ?_)
  · subst hQF9
    refine gg_throwW (text := "a scan has no such number") thr_2 rfl (by decide) dX9_scan_17 dX9_scan_20 dX9_scan_21 dX9_scan_24 dX9_scan_27 rfl ⟨(Nat.le_of_ble_eq_true rfl), (Nat.le_of_ble_eq_true rfl)⟩ ⟨(Nat.le_of_ble_eq_true rfl), (Nat.le_of_ble_eq_true rfl)⟩ ?_
    exact Or.inr (Or.inl ⟨hil, by omega, rfl, rfl⟩)
  · refine gg_iload_n dX9_scan_12 rfl ?_
    refine gi_iconst dX9_scan_13 ?_
    refine gi_icmp_le (tgt := 28) dX9_scan_14 (by decide) hw ⟨by omega, by omega⟩ (fun c_14 => ?_) (fun c_14 => ?_)
    · refine gg_aload_n dX9_scan_28 rfl rfl ?_
      refine gg_aload dX9_scan_29 rfl rfl ?_
      refine gc_X9_324 rfl dX9_scan_31 ⟨(Nat.le_of_ble_eq_true rfl), (Nat.le_of_ble_eq_true rfl)⟩ ⟨(Nat.le_of_ble_eq_true rfl), (Nat.le_of_ble_eq_true rfl)⟩ (Nat.le_of_ble_eq_true rfl) (HAt.mu gst_30) (c_X9_bestKey hb9 g0 hm9 M1 X9 I9 L1) (fun _ _ w => w.elim) (fun r_31 h_31 hp => ?_)
      obtain ⟨G2, B2, rfl, rfl, hs9⟩ := hp
      have R2 := hs9.2.2.1
      have ok9 := RdD.ok (D := (dtA a (fL i.toNat l) (nL i.toNat l) kd ft c9)) R2
      have kr := srch_r ok9.1 ok9.2
      obtain ⟨k, hk⟩ : ∃ k, (srch (dtA a (fL i.toNat l) (nL i.toNat l) kd ft c9)).1 = k := ⟨_, rfl⟩
      rw [hk] at kr hpr hQF9 ⊢
      have kr2 := kr
      unfold NOK at kr2
      refine gg_istore dX9_scan_34 (Nat.le_of_ble_eq_true rfl) rfl ?_
      refine gg_iload dX9_scan_36 rfl ?_
      refine gi_ldcw (z := 1073741824) (by decide) (wi_44 _ (List.mem_of_getElem? (i := 14) rfl)) rfl dX9_scan_38 ?_
      refine gi_icmp_ne (tgt := 55) dX9_scan_41 (by decide) ⟨by omega, by omega⟩ ⟨by omega, by omega⟩ (fun c_41 => ?_) (fun c_41 => ?_)
      · refine gg_aload_n dX9_scan_55 rfl rfl ?_
        refine gg_iload dX9_scan_56 rfl ?_
        refine gg_iload_n dX9_scan_58 rfl ?_
        refine gc_X9_331 rfl dX9_scan_59 ⟨(Nat.le_of_ble_eq_true rfl), (Nat.le_of_ble_eq_true rfl)⟩ ⟨(Nat.le_of_ble_eq_true rfl), (Nat.le_of_ble_eq_true rfl)⟩ (Nat.le_of_ble_eq_true rfl) (HAt.mu gst_30) (c_X9_numberOfScan (D := (dtA a (fL i.toNat l) (nL i.toNat l) kd ft c9)) hb9 ((hs9.fr.g (by omega)).trans g0) ((hs9.fr.g (by omega)).trans hm9) M1 R2 hs9.2.2.2.1 (k := k) kr hw (hpr hil (by unfold NOK; omega))) (fun _ _ w => w.elim) (fun r_59 h_59 hp => ?_)
        obtain ⟨G3, B3, rfl, rfl, f3, f4⟩ := hp
        subst hQF9
        refine gg_iret dX9_scan_62 rfl rfl ⟨(Nat.le_of_ble_eq_true rfl), (Nat.le_of_ble_eq_true rfl)⟩ ?_
        exact ⟨hil, by omega, by unfold NOK; omega, G3, B3, _, rfl, rfl, hs9.fr.tr (frS.nm (I := hs9.fr.2.2) f3 f4)⟩
      · subst hQF9
        refine gg_throwW (text := "the line has no scan") thr_1 rfl (by decide) dX9_scan_44 dX9_scan_47 dX9_scan_48 dX9_scan_51 dX9_scan_54 rfl ⟨(Nat.le_of_ble_eq_true rfl), (Nat.le_of_ble_eq_true rfl)⟩ ⟨(Nat.le_of_ble_eq_true rfl), (Nat.le_of_ble_eq_true rfl)⟩ ?_
        exact Or.inr (Or.inr ⟨hil, by omega, by unfold NOK; omega, rfl, G2, B2, rfl, hs9.fr⟩)
    · subst hQF9
      refine gg_throwW (text := "a scan has no such number") thr_2 rfl (by decide) dX9_scan_17 dX9_scan_20 dX9_scan_21 dX9_scan_24 dX9_scan_27 rfl ⟨(Nat.le_of_ble_eq_true rfl), (Nat.le_of_ble_eq_true rfl)⟩ ⟨(Nat.le_of_ble_eq_true rfl), (Nat.le_of_ble_eq_true rfl)⟩ ?_
      exact Or.inr (Or.inl ⟨hil, by omega, rfl, rfl⟩)
