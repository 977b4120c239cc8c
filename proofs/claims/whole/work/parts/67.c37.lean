/-! the scanner: public methods, 5 -/
theorem ExM.ex9 {ι ι' : Nat → Option XE} {G : Nat → Int} {B : Nat → Int → Int} {b : Nat} {a : Int → Int} (e : ext ι ι') (h : ExM ι G B b a) : ExM ι' G B b a :=
  ⟨h.1, fun x x0 x1 => by obtain ⟨q, h1, h2⟩ := h.2 x x0 x1; exact ⟨q, h1, MkO.ext e h2⟩⟩
theorem ExM.tk {ι : Nat → Option XE} {G : Nat → Int} {B : Nat → Int → Int} {b : Nat} {a : Int → Int} {c : Prop} [Decidable c] {P : Int} (h : ExM ι G B b a) : ExM ι (tkG G c P) B b a := by
  unfold ExM at h ⊢; rw [tkG_l (by omega)]; exact h
set_option maxRecDepth 100000 in
set_option maxHeartbeats 4000000 in
theorem c_X9_readException {Γ : GT} {h : XH} {G : Nat → Int} {B : Nat → Int → Int} {b : Nat} (hb9 : b ≤ 9) (g0 : G 0 = (b : Int)) {mq : Nat} (hmq : G (100 + 10 * b) = (mq : Int)) (WR9 : WR h.2 B) (H9 : HIS G B b) (p4 : 0 ≤ G 4 ∧ G 4 ≤ 60) (p5 : ∀ k, 0 ≤ k → k < G 4 → 0 ≤ B 41 k ∧ B 41 k < 65536) {a : Int → Int} (X9 : ExM h.2 G B b a) {wv : Int} (hw : wv = wlen (B 41) (G 4) 12 0) : Ct Γ M_X9_readException [.ref (g_L Γ 30)] (gst Γ h G B) (fun r h9 => (rxO (B 41) (G 4) wv ∧ dgR (B 41) (G 4) 6 (wv + 1) ≠ 0 ∧ wv + 1 + dgR (B 41) (G 4) 6 (wv + 1) = G 4) ∧ (if exO a (B 41) 0 wv = -1 then G (102 + 10 * b) else exO a (B 41) 0 wv) < 8 ∧ ∃ (ι' : Nat → Option XE) (q : Nat), ext h.2 ι' ∧ MkO ι' q (B 41) wv (dgR (B 41) (G 4) 6 (wv + 1)) (fun k => B 41 (wv + 1 + k) - 48) ∧ r = some (.int (iN (if exO a (B 41) 0 wv = -1 then G (102 + 10 * b) else exO a (B 41) 0 wv))) ∧ h9 = gst Γ (h.1, ι') (uF (rmG (tkG G (rxO (B 41) (G 4) wv ∧ dgR (B 41) (G 4) 6 (wv + 1) ≠ 0 ∧ wv + 1 + dgR (B 41) (G 4) 6 (wv + 1) = G 4) (if rxO (B 41) (G 4) wv then wv + 1 + dgR (B 41) (G 4) 6 (wv + 1) else wv)) B b) (102 + 10 * b) (max (G (102 + 10 * b)) ((if exO a (B 41) 0 wv = -1 then G (102 + 10 * b) else exO a (B 41) 0 wv) + 1))) (uA (rmB (tkG G (rxO (B 41) (G 4) wv ∧ dgR (B 41) (G 4) 6 (wv + 1) ≠ 0 ∧ wv + 1 + dgR (B 41) (G 4) 6 (wv + 1) = G 4) (if rxO (B 41) (G 4) wv then wv + 1 + dgR (B 41) (G 4) 6 (wv + 1) else wv)) B b) (110 + 11 * b) (up ((rmB (tkG G (rxO (B 41) (G 4) wv ∧ dgR (B 41) (G 4) 6 (wv + 1) ≠ 0 ∧ wv + 1 + dgR (B 41) (G 4) 6 (wv + 1) = G 4) (if rxO (B 41) (G 4) wv then wv + 1 + dgR (B 41) (G 4) 6 (wv + 1) else wv)) B b) (110 + 11 * b)) (if exO a (B 41) 0 wv = -1 then G (102 + 10 * b) else exO a (B 41) 0 wv) (q : Int)))) (fun E h9 => ((¬ (rxO (B 41) (G 4) wv ∧ dgR (B 41) (G 4) 6 (wv + 1) ≠ 0 ∧ wv + 1 + dgR (B 41) (G 4) 6 (wv + 1) = G 4) ∧ E = "java/lang/IllegalArgumentException") ∨ ((rxO (B 41) (G 4) wv ∧ dgR (B 41) (G 4) 6 (wv + 1) ≠ 0 ∧ wv + 1 + dgR (B 41) (G 4) 6 (wv + 1) = G 4) ∧ ¬ (if exO a (B 41) 0 wv = -1 then G (102 + 10 * b) else exO a (B 41) 0 wv) < 8 ∧ E = "java/lang/IllegalStateException")) ∧ ∃ ι' : Nat → Option XE, ext h.2 ι' ∧ h9 = gst Γ (h.1, ι') (tkG G (rxO (B 41) (G 4) wv ∧ dgR (B 41) (G 4) 6 (wv + 1) ≠ 0 ∧ wv + 1 + dgR (B 41) (G 4) 6 (wv + 1) = G 4) (if rxO (B 41) (G 4) wv then wv + 1 + dgR (B 41) (G 4) 6 (wv + 1) else wv)) B) := by
  refine Ct.of rfl (by decide +kernel) (Nat.le_of_ble_eq_true rfl) ?_
  generalize hQF9 : QM Γ _ _ _ = QF9
  have er := exO_r (a := a) (r := B 41) (fr := 0) (n := wv) X9.1.2.1
  have xc := X9.1
  obtain ⟨nm, hnm⟩ : ∃ nm, (if exO a (B 41) 0 wv = -1 then G (102 + 10 * b) else exO a (B 41) 0 wv) = nm := ⟨_, rfl⟩
  have nr : 0 ≤ nm ∧ nm ≤ 8 := by rw [← hnm]; split <;> omega
  have nr2 : nm ≤ G (102 + 10 * b) := by rw [← hnm]; split <;> omega
  rw [hnm] at hQF9
  refine gg_aload_n dX9_readException_0 rfl rfl ?_
  refine gk_getX9_12 rfl dX9_readException_1 ?_
  refine gc_X9_141 rfl dX9_readException_4 ⟨(Nat.le_of_ble_eq_true rfl), (Nat.le_of_ble_eq_true rfl)⟩ ⟨(Nat.le_of_ble_eq_true rfl), (Nat.le_of_ble_eq_true rfl)⟩ (Nat.le_of_ble_eq_true rfl) (HAt.mu gst_40) (c_X1_takeMarking p4 p5 hw) (fun _ _ w => w.elim) (fun r_4 h_4 hp => ?_)
  obtain ⟨ι', rfl, hX, hpost⟩ := hp
  rw [show uF (if (rxO (B 41) (G 4) wv ∧ dgR (B 41) (G 4) 6 (wv + 1) ≠ 0 ∧ wv + 1 + dgR (B 41) (G 4) 6 (wv + 1) = G 4) then uF G 3 (if rxO (B 41) (G 4) wv then wv + 1 + dgR (B 41) (G 4) 6 (wv + 1) else wv) else uF (uF G 3 (if rxO (B 41) (G 4) wv then wv + 1 + dgR (B 41) (G 4) 6 (wv + 1) else wv)) 5 (if rxO (B 41) (G 4) wv then wv + 1 + dgR (B 41) (G 4) 6 (wv + 1) else wv)) 4 0 = (tkG G (rxO (B 41) (G 4) wv ∧ dgR (B 41) (G 4) 6 (wv + 1) ≠ 0 ∧ wv + 1 + dgR (B 41) (G 4) 6 (wv + 1) = G 4) (if rxO (B 41) (G 4) wv then wv + 1 + dgR (B 41) (G 4) 6 (wv + 1) else wv)) from rfl]
  have g1 : (tkG G (rxO (B 41) (G 4) wv ∧ dgR (B 41) (G 4) 6 (wv + 1) ≠ 0 ∧ wv + 1 + dgR (B 41) (G 4) 6 (wv + 1) = G 4) (if rxO (B 41) (G 4) wv then wv + 1 + dgR (B 41) (G 4) 6 (wv + 1) else wv)) 0 = (b : Int) := (tkG_l (by decide)).trans g0
  have hmq1 : (tkG G (rxO (B 41) (G 4) wv ∧ dgR (B 41) (G 4) 6 (wv + 1) ≠ 0 ∧ wv + 1 + dgR (B 41) (G 4) 6 (wv + 1) = G 4) (if rxO (B 41) (G 4) wv then wv + 1 + dgR (B 41) (G 4) 6 (wv + 1) else wv)) (100 + 10 * b) = (mq : Int) := (tkG_l (by omega)).trans hmq
  have hc1 : (tkG G (rxO (B 41) (G 4) wv ∧ dgR (B 41) (G 4) 6 (wv + 1) ≠ 0 ∧ wv + 1 + dgR (B 41) (G 4) 6 (wv + 1) = G 4) (if rxO (B 41) (G 4) wv then wv + 1 + dgR (B 41) (G 4) 6 (wv + 1) else wv)) (102 + 10 * b) = G (102 + 10 * b) := tkG_l (by omega)
  have H1 : HIS (tkG G (rxO (B 41) (G 4) wv ∧ dgR (B 41) (G 4) 6 (wv + 1) ≠ 0 ∧ wv + 1 + dgR (B 41) (G 4) 6 (wv + 1) = G 4) (if rxO (B 41) (G 4) wv then wv + 1 + dgR (B 41) (G 4) 6 (wv + 1) else wv)) B b := H9.tk
  have hcr : rmG (tkG G (rxO (B 41) (G 4) wv ∧ dgR (B 41) (G 4) 6 (wv + 1) ≠ 0 ∧ wv + 1 + dgR (B 41) (G 4) 6 (wv + 1) = G 4) (if rxO (B 41) (G 4) wv then wv + 1 + dgR (B 41) (G 4) 6 (wv + 1) else wv)) B b (102 + 10 * b) = G (102 + 10 * b) := (rmG_o H1 (by omega)).trans hc1
  rcases hpost with ⟨e9, q, rfl, hq9⟩ | ⟨e9, rfl⟩
  · obtain ⟨wq, aM, m9, k1, kW, kr⟩ := id hq9
    refine gg_astore_n dX9_readException_7 rfl (Nat.le_of_ble_eq_true rfl) rfl ?_
    refine gg_aload_n dX9_readException_8 rfl rfl ?_
    refine gg_ifnonnull (tgt := 22) dX9_readException_9 (by decide) rfl (fun a_9 c_9 => ?_) (fun c_9 => ?_)
    · refine gg_aload_n dX9_readException_22 rfl rfl ?_
      refine gk_getX9_65 rfl dX9_readException_23 g1 ?_
      refine gg_aload_n dX9_readException_26 rfl rfl ?_
      refine gf_X9_147 rfl dX9_readException_27 (HAt.io k1) rfl ?_
      refine gc_X9_153 rfl dX9_readException_30 ⟨(Nat.le_of_ble_eq_true rfl), (Nat.le_of_ble_eq_true rfl)⟩ ⟨(Nat.le_of_ble_eq_true rfl), (Nat.le_of_ble_eq_true rfl)⟩ (Nat.le_of_ble_eq_true rfl) (HAt.mu (gst_st hb9)) (c_X7_markingNumber (h := (h.1, ι')) hb9 (X9.ex9 hX).tk kW) (fun _ _ w => w.elim) (fun r_30 h_30 hp => ?_)
      obtain ⟨rfl, rfl⟩ := hp
      refine gg_istore_n dX9_readException_33 (Nat.le_of_ble_eq_true rfl) rfl ?_
      have L_50 : GG Γ M_X9_readException QF9 (5, 87) (gst Γ (h.1, ι') (tkG G (rxO (B 41) (G 4) wv ∧ dgR (B 41) (G 4) 6 (wv + 1) ≠ 0 ∧ wv + 1 + dgR (B 41) (G 4) 6 (wv + 1) = G 4) (if rxO (B 41) (G 4) wv then wv + 1 + dgR (B 41) (G 4) 6 (wv + 1) else wv)) B) 50 [some (.ref (g_L Γ 30)), some (.ref q), some (.int (iN (exO a (B 41) 0 wv))), none] [.int (iN nm)] := by
        refine gg_istore_n dX9_readException_50 (Nat.le_of_ble_eq_true rfl) rfl ?_
        refine gg_iload_n dX9_readException_51 rfl ?_
        refine gi_bipush dX9_readException_52 (by decide) ?_
        refine gi_icmp_lt (tgt := 67) dX9_readException_54 (by decide) ⟨by omega, by omega⟩ ⟨by omega, by omega⟩ (fun c_54 => ?_) (fun c_54 => ?_)
        · refine gg_aload_n dX9_readException_67 rfl rfl ?_
          refine gc_X9_106 rfl dX9_readException_68 ⟨(Nat.le_of_ble_eq_true rfl), (Nat.le_of_ble_eq_true rfl)⟩ ⟨(Nat.le_of_ble_eq_true rfl), (Nat.le_of_ble_eq_true rfl)⟩ (Nat.le_of_ble_eq_true rfl) (HAt.mu gst_30) (c_remember (h := (h.1, ι')) (B := B) hb9 g1 hmq1 (WR9.ext hX) H1) (fun _ _ w => w.elim) (fun r_68 h_68 hp => ?_)
          obtain ⟨rfl, rfl⟩ := hp
          refine gg_aload_n dX9_readException_71 rfl rfl ?_
          refine gk_getX9_65 rfl dX9_readException_72 ((rmG_l (by decide) (by decide)).trans g1) ?_
          refine gg_iload_n dX9_readException_75 rfl ?_
          refine gg_aload_n dX9_readException_76 rfl rfl ?_
          refine gc_X9_162 rfl dX9_readException_77 ⟨(Nat.le_of_ble_eq_true rfl), (Nat.le_of_ble_eq_true rfl)⟩ ⟨(Nat.le_of_ble_eq_true rfl), (Nat.le_of_ble_eq_true rfl)⟩ (Nat.le_of_ble_eq_true rfl) (HAt.mu (gst_st hb9)) (c_X7_putMarking (h := (h.1, ι')) (G := (rmG (tkG G (rxO (B 41) (G 4) wv ∧ dgR (B 41) (G 4) 6 (wv + 1) ≠ 0 ∧ wv + 1 + dgR (B 41) (G 4) 6 (wv + 1) = G 4) (if rxO (B 41) (G 4) wv then wv + 1 + dgR (B 41) (G 4) 6 (wv + 1) else wv)) B b)) (B := (rmB (tkG G (rxO (B 41) (G 4) wv ∧ dgR (B 41) (G 4) 6 (wv + 1) ≠ 0 ∧ wv + 1 + dgR (B 41) (G 4) 6 (wv + 1) = G 4) (if rxO (B 41) (G 4) wv then wv + 1 + dgR (B 41) (G 4) 6 (wv + 1) else wv)) B b)) hb9 (by rw [hcr]; omega) (i := nm) (by rw [hcr]; omega) (q := q) k1) (fun _ _ w => w.elim) (fun r_77 h_77 hp => ?_)
          obtain ⟨rfl, rfl⟩ := hp
          rw [hcr]
          refine gg_iload_n dX9_readException_80 rfl ?_
          subst hQF9
          refine gg_iret dX9_readException_81 rfl rfl ⟨(Nat.le_of_ble_eq_true rfl), (Nat.le_of_ble_eq_true rfl)⟩ ?_
          exact ⟨e9, by omega, ι', q, hX, hq9, rfl, rfl⟩
        · subst hQF9
          refine gg_throw (text := "there are too many exceptions") thr_0 rfl (by decide) dX9_readException_57 dX9_readException_60 dX9_readException_61 dX9_readException_63 dX9_readException_66 rfl ⟨(Nat.le_of_ble_eq_true rfl), (Nat.le_of_ble_eq_true rfl)⟩ ⟨(Nat.le_of_ble_eq_true rfl), (Nat.le_of_ble_eq_true rfl)⟩ ?_
          exact ⟨Or.inr ⟨e9, by omega, rfl⟩, ι', hX, rfl⟩
      refine gg_iload_n dX9_readException_34 rfl ?_
      refine gi_iconst dX9_readException_35 ?_
      refine gi_icmp_ne (tgt := 49) dX9_readException_36 (by decide) ⟨by omega, by omega⟩ ⟨by omega, by omega⟩ (fun c_36 => ?_) (fun c_36 => ?_)
      · refine gg_iload_n dX9_readException_49 rfl ?_
        refine gg_drop 3 ?_
        exact gg_conv L_50 rfl rfl (by rw [← hnm, if_neg c_36]; rfl)
      · refine gg_aload_n dX9_readException_39 rfl rfl ?_
        refine gk_getX9_65 rfl dX9_readException_40 g1 ?_
        refine gk_getX9_157 hb9 rfl dX9_readException_43 hc1 ?_
        refine gg_goto (tgt := 50) dX9_readException_46 (by decide) ?_
        refine gg_drop 3 ?_
        exact gg_conv L_50 rfl rfl (by rw [← hnm, if_pos c_36]; rfl)
    · cases c_9
  · refine gg_astore_n dX9_readException_7 rfl (Nat.le_of_ble_eq_true rfl) rfl ?_
    refine gg_aload_n dX9_readException_8 rfl rfl ?_
    refine gg_ifnonnull (tgt := 22) dX9_readException_9 (by decide) rfl (fun a_9 c_9 => ?_) (fun c_9 => ?_)
    · cases c_9
    · subst hQF9
      refine gg_throw (text := "the text is no exception") thr_2 rfl (by decide) dX9_readException_12 dX9_readException_15 dX9_readException_16 dX9_readException_18 dX9_readException_21 rfl ⟨(Nat.le_of_ble_eq_true rfl), (Nat.le_of_ble_eq_true rfl)⟩ ⟨(Nat.le_of_ble_eq_true rfl), (Nat.le_of_ble_eq_true rfl)⟩ ?_
      exact ⟨Or.inl ⟨e9, rfl⟩, ι', hX, rfl⟩
