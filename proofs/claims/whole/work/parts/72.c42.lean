/-! the scanner: public methods, 10 -/
set_option maxRecDepth 100000 in
set_option maxHeartbeats 4000000 in
theorem c_X9_character {Γ : GT} {h : XH} {G : Nat → Int} {B : Nat → Int → Int} {b : Nat} (hb9 : b ≤ 9) (g0 : G 0 = (b : Int)) {fL : Int → Int → Int → Int} {nL : Int → Int → Int} (LD : ∀ d : Nat, d ≤ 3 → LnD h.2 G B b d (fL d) (nL d)) {i l k : Int} (hi : InR i) (hl : InR l) (hk : InR k) : Ct Γ M_X9_character [.ref (g_L Γ 30), .int (iN i), .int (iN l), .int (iN k)] (gst Γ h G B) (fun r h9 => (((0 ≤ i ∧ i ≤ 3) ∧ 0 ≤ l ∧ l < G (103 + 10 * b + i.toNat)) ∧ 0 ≤ k ∧ k < nL i.toNat l) ∧ r = some (.int (iN (fL i.toNat l k))) ∧ h9 = gst Γ h G B) (fun E h9 => ¬ (((0 ≤ i ∧ i ≤ 3) ∧ 0 ≤ l ∧ l < G (103 + 10 * b + i.toNat)) ∧ 0 ≤ k ∧ k < nL i.toNat l) ∧ E = "java/lang/IndexOutOfBoundsException" ∧ h9 = gst Γ h G B) := by
  refine Ct.of rfl (by decide +kernel) (Nat.le_of_ble_eq_true rfl) ?_
  generalize hQF9 : QM Γ _ _ _ = QF9
  refine gg_aload_n dX9_character_0 rfl rfl ?_
  refine gg_iload_n dX9_character_1 rfl ?_
  refine gg_iload_n dX9_character_2 rfl ?_
  refine gc_X9_208 rfl dX9_character_3 ⟨(Nat.le_of_ble_eq_true rfl), (Nat.le_of_ble_eq_true rfl)⟩ ⟨(Nat.le_of_ble_eq_true rfl), (Nat.le_of_ble_eq_true rfl)⟩ (Nat.le_of_ble_eq_true rfl) (HAt.mu gst_30) (c_X9_lineAt hb9 g0 (fun d hd => (LD d hd).1) (fun d l => LDs.c LD d l) hi hl) (fun E h8 hx => by subst hQF9; exact gx_out rfl ⟨(Nat.le_of_ble_eq_true rfl), (Nat.le_of_ble_eq_true rfl)⟩ (by obtain ⟨h1, h2, h3⟩ := hx; exact ⟨fun z => h1 z.1, h2, h3⟩)) (fun r_3 h_3 hp => ?_)
  obtain ⟨hil, rfl, rfl⟩ := hp
  obtain ⟨q1, hq1, L1⟩ := (LD i.toNat (by omega)).2 l hil.2.1 hil.2.2
  rw [hq1, Int.toNat_natCast]
  obtain ⟨n1, -, -, aT, aW, wl, f9, w9, l4, l5, l6, -⟩ := L1
  refine gg_astore dX9_character_6 rfl (Nat.le_of_ble_eq_true rfl) rfl ?_
  refine gg_iload_n dX9_character_8 rfl ?_
  refine gi_if_lt (tgt := 22) dX9_character_9 (by decide) hk (fun c_9 => ?_) (fun c_9 => ?_)
  · subst hQF9
    refine gg_throw (text := "no such position in the line") thr_3 rfl (by decide) dX9_character_22 dX9_character_25 dX9_character_26 dX9_character_28 dX9_character_31 rfl ⟨(Nat.le_of_ble_eq_true rfl), (Nat.le_of_ble_eq_true rfl)⟩ ⟨(Nat.le_of_ble_eq_true rfl), (Nat.le_of_ble_eq_true rfl)⟩ ?_
    exact ⟨fun z => by omega, rfl, rfl⟩
  · refine gg_iload_n dX9_character_12 rfl ?_
    refine gg_aload dX9_character_13 rfl rfl ?_
    refine gf_X9_231 rfl dX9_character_15 (HAt.io l4) rfl ?_
    refine gi_alen dX9_character_18 (HAt.io (h := gst Γ h G B) l5) (by decide) ?_
    rw [Int.toNat_of_nonneg (show 0 ≤ nL i.toNat l by omega)]
    refine gi_icmp_lt (tgt := 32) dX9_character_19 (by decide) hk ⟨by omega, by omega⟩ (fun c_19 => ?_) (fun c_19 => ?_)
    · refine gg_aload dX9_character_32 rfl rfl ?_
      refine gf_X9_231 rfl dX9_character_34 (HAt.io l4) rfl ?_
      refine gg_iload_n dX9_character_37 rfl ?_
      have c9 := l6 k (by omega) (by omega)
      refine gi_cald dX9_character_38 (HAt.io (h := gst Γ h G B) l5) (by omega) ⟨by omega, by omega⟩ ?_
      rw [c9.1]
      subst hQF9
      refine gg_iret dX9_character_39 rfl (nar_char ⟨by omega, by omega⟩) ⟨(Nat.le_of_ble_eq_true rfl), (Nat.le_of_ble_eq_true rfl)⟩ ?_
      exact ⟨⟨hil, by omega, by omega⟩, rfl, rfl⟩
    · subst hQF9
      refine gg_throw (text := "no such position in the line") thr_3 rfl (by decide) dX9_character_22 dX9_character_25 dX9_character_26 dX9_character_28 dX9_character_31 rfl ⟨(Nat.le_of_ble_eq_true rfl), (Nat.le_of_ble_eq_true rfl)⟩ ⟨(Nat.le_of_ble_eq_true rfl), (Nat.le_of_ble_eq_true rfl)⟩ ?_
      exact ⟨fun z => by omega, rfl, rfl⟩
