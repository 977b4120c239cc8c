/-! the scanner: public methods, 14 -/
set_option maxRecDepth 100000 in
set_option maxHeartbeats 4000000 in
theorem c_X9_setMetre {Γ : GT} {h : XH} {G : Nat → Int} {B : Nat → Int → Int} {b : Nat} (hb9 : b ≤ 9) (g0 : G 0 = (b : Int)) {mq : Nat} (hmq : G (100 + 10 * b) = (mq : Int)) (WR9 : WR h.2 B) (H9 : HIS G B b) {kd ft c9 : Int} (M1 : MtAt h.2 mq kd ft c9) {x y z : Int} (hx : InR x) (hy : InR y) (hz : InR z) : Ct Γ M_X9_setMetre [.ref (g_L Γ 30), .int (iN x), .int (iN y), .int (iN z)] (gst Γ h G B) (fun r h9 => (0 ≤ x ∧ x ≤ 3 ∧ 2 ≤ y ∧ y ≤ 6 ∧ 0 ≤ z ∧ z ≤ y - 1) ∧ r = some (.int (iN (100 * kd + 10 * ft + c9))) ∧ ∃ (ι' : Nat → Option XE) (q : Nat), ext h.2 ι' ∧ MtAt ι' q x y z ∧ h9 = gst Γ (h.1, ι') (uF (rmG G B b) (100 + 10 * b) (q : Int)) (rmB G B b)) (fun E h9 => ¬ (0 ≤ x ∧ x ≤ 3 ∧ 2 ≤ y ∧ y ≤ 6 ∧ 0 ≤ z ∧ z ≤ y - 1) ∧ E = "java/lang/IllegalArgumentException" ∧ h9 = gst Γ h G B) := by
  refine Ct.of rfl (by decide +kernel) (Nat.le_of_ble_eq_true rfl) ?_
  generalize hQF9 : QM Γ _ _ _ = QF9
  refine gg_iload_n dX9_setMetre_0 rfl ?_
  refine gi_if_lt (tgt := 29) dX9_setMetre_1 (by decide) hx (fun c_1 => ?_) (fun c_1 => ?_)
  · subst hQF9
    refine gg_throw (text := "no such metre") thr_2 rfl (by decide) dX9_setMetre_29 dX9_setMetre_32 dX9_setMetre_33 dX9_setMetre_35 dX9_setMetre_38 rfl ⟨(Nat.le_of_ble_eq_true rfl), (Nat.le_of_ble_eq_true rfl)⟩ ⟨(Nat.le_of_ble_eq_true rfl), (Nat.le_of_ble_eq_true rfl)⟩ ?_
    exact ⟨by omega, rfl, rfl⟩
  · refine gg_iload_n dX9_setMetre_4 rfl ?_
    refine gi_iconst dX9_setMetre_5 ?_
    refine gi_icmp_ge (tgt := 29) dX9_setMetre_6 (by decide) hx ⟨by omega, by omega⟩ (fun c_6 => ?_) (fun c_6 => ?_)
    · subst hQF9
      refine gg_throw (text := "no such metre") thr_2 rfl (by decide) dX9_setMetre_29 dX9_setMetre_32 dX9_setMetre_33 dX9_setMetre_35 dX9_setMetre_38 rfl ⟨(Nat.le_of_ble_eq_true rfl), (Nat.le_of_ble_eq_true rfl)⟩ ⟨(Nat.le_of_ble_eq_true rfl), (Nat.le_of_ble_eq_true rfl)⟩ ?_
      exact ⟨by omega, rfl, rfl⟩
    · refine gg_iload_n dX9_setMetre_9 rfl ?_
      refine gi_iconst dX9_setMetre_10 ?_
      refine gi_icmp_lt (tgt := 29) dX9_setMetre_11 (by decide) hy ⟨by omega, by omega⟩ (fun c_11 => ?_) (fun c_11 => ?_)
      · subst hQF9
        refine gg_throw (text := "no such metre") thr_2 rfl (by decide) dX9_setMetre_29 dX9_setMetre_32 dX9_setMetre_33 dX9_setMetre_35 dX9_setMetre_38 rfl ⟨(Nat.le_of_ble_eq_true rfl), (Nat.le_of_ble_eq_true rfl)⟩ ⟨(Nat.le_of_ble_eq_true rfl), (Nat.le_of_ble_eq_true rfl)⟩ ?_
        exact ⟨by omega, rfl, rfl⟩
      · refine gg_iload_n dX9_setMetre_14 rfl ?_
        refine gi_bipush dX9_setMetre_15 (by decide) ?_
        refine gi_icmp_gt (tgt := 29) dX9_setMetre_17 (by decide) hy ⟨by omega, by omega⟩ (fun c_17 => ?_) (fun c_17 => ?_)
        · subst hQF9
          refine gg_throw (text := "no such metre") thr_2 rfl (by decide) dX9_setMetre_29 dX9_setMetre_32 dX9_setMetre_33 dX9_setMetre_35 dX9_setMetre_38 rfl ⟨(Nat.le_of_ble_eq_true rfl), (Nat.le_of_ble_eq_true rfl)⟩ ⟨(Nat.le_of_ble_eq_true rfl), (Nat.le_of_ble_eq_true rfl)⟩ ?_
          exact ⟨by omega, rfl, rfl⟩
        · refine gg_iload_n dX9_setMetre_20 rfl ?_
          refine gi_if_lt (tgt := 29) dX9_setMetre_21 (by decide) hz (fun c_21 => ?_) (fun c_21 => ?_)
          · subst hQF9
            refine gg_throw (text := "no such metre") thr_2 rfl (by decide) dX9_setMetre_29 dX9_setMetre_32 dX9_setMetre_33 dX9_setMetre_35 dX9_setMetre_38 rfl ⟨(Nat.le_of_ble_eq_true rfl), (Nat.le_of_ble_eq_true rfl)⟩ ⟨(Nat.le_of_ble_eq_true rfl), (Nat.le_of_ble_eq_true rfl)⟩ ?_
            exact ⟨by omega, rfl, rfl⟩
          · refine gg_iload_n dX9_setMetre_24 rfl ?_
            refine gg_iload_n dX9_setMetre_25 rfl ?_
            refine gi_icmp_lt (tgt := 39) dX9_setMetre_26 (by decide) hz hy (fun c_26 => ?_) (fun c_26 => ?_)
            · refine gg_aload_n dX9_setMetre_39 rfl rfl ?_
              refine gc_X9_106 rfl dX9_setMetre_40 ⟨(Nat.le_of_ble_eq_true rfl), (Nat.le_of_ble_eq_true rfl)⟩ ⟨(Nat.le_of_ble_eq_true rfl), (Nat.le_of_ble_eq_true rfl)⟩ (Nat.le_of_ble_eq_true rfl) (HAt.mu gst_30) (c_remember hb9 g0 hmq WR9 H9) (fun _ _ w => w.elim) (fun r_40 h_40 hp => ?_)
              obtain ⟨rfl, rfl⟩ := hp
              refine gg_aload_n dX9_setMetre_43 rfl rfl ?_
              refine gk_getX9_65 rfl dX9_setMetre_44 ((rmG_l (by decide) (by decide)).trans g0) ?_
              refine gk_getX9_109 hb9 rfl dX9_setMetre_47 ((rmG_o H9 (by omega)).trans hmq) ?_
              refine gg_astore dX9_setMetre_50 rfl (Nat.le_of_ble_eq_true rfl) rfl ?_
              refine gg_aload_n dX9_setMetre_52 rfl rfl ?_
              refine gk_getX9_65 rfl dX9_setMetre_53 ((rmG_l (by decide) (by decide)).trans g0) ?_
              refine gn_X9_43 rfl dX9_setMetre_56 (Nat.le_of_ble_eq_true rfl) (Nat.le_of_ble_eq_true rfl) (fun q9 fr9 => ?_)
              refine gg_dup dX9_setMetre_59 rfl ?_
              refine gg_iload_n dX9_setMetre_60 rfl ?_
              refine gg_iload_n dX9_setMetre_61 rfl ?_
              refine gg_iload_n dX9_setMetre_62 rfl ?_
              refine gc_X9_76 rfl dX9_setMetre_63 ⟨(Nat.le_of_ble_eq_true rfl), (Nat.le_of_ble_eq_true rfl)⟩ ⟨(Nat.le_of_ble_eq_true rfl), (Nat.le_of_ble_eq_true rfl)⟩ (Nat.le_of_ble_eq_true rfl) (c_X4_init (h := gst Γ (h.1, upX h.2 q9 (.inr (6, [.int 0, .int 0, .int 0, .int 0, .int 0, .int 0, .int 0]))) (rmG G B b) (rmB G B b)) upX_s (kd := x) (ft := y) (c9 := z) ⟨by omega, by omega⟩ ⟨by omega, by omega⟩ ⟨by omega, by omega⟩) (fun _ _ w => w.elim) (fun r_63 h_63 hp => ?_)
              obtain ⟨rfl, rfl⟩ := hp
              have hX : ext h.2 (upX h.2 q9 (mtX x y z)) := ext.up fr9.1
              have M2 : MtAt (upX h.2 q9 (mtX x y z)) q9 x y z := ⟨⟨⟨by omega, by omega⟩, ⟨by omega, by omega⟩, by omega, by omega⟩, upX_s⟩
              have M3 := M1.ext hX
              obtain ⟨ι', hι⟩ : ∃ ι', upX h.2 q9 (mtX x y z) = ι' := ⟨_, rfl⟩
              refine gg_conv (h2 := gst Γ (h.1, ι') (rmG G B b) (rmB G B b)) ?_ (by rw [← hι]; show _ = gst Γ (h.1, upX (upX h.2 q9 _) q9 _) _ _; rw [upX_t]; rfl) rfl rfl
              rw [hι] at hX M2 M3
              refine gk_putX9_109 hb9 rfl dX9_setMetre_66 (by (try simp only [uF_ss, uF_cc, id_eq, Nat.reduceLT, reduceCtorEq]); rfl) ?_
              refine gi_bipush dX9_setMetre_69 (by decide) ?_
              refine gg_aload dX9_setMetre_71 rfl rfl ?_
              refine gf_X9_113 rfl dX9_setMetre_73 (HAt.io M3.2) rfl ?_
              refine gi_imul dX9_setMetre_76 ?_
              refine gi_bipush dX9_setMetre_77 (by decide) ?_
              refine gg_aload dX9_setMetre_79 rfl rfl ?_
              refine gf_X9_116 rfl dX9_setMetre_81 (HAt.io M3.2) rfl ?_
              refine gi_imul dX9_setMetre_84 ?_
              refine gi_iadd dX9_setMetre_85 ?_
              refine gg_aload dX9_setMetre_86 rfl rfl ?_
              refine gf_X9_119 rfl dX9_setMetre_88 (HAt.io M3.2) rfl ?_
              refine gi_iadd dX9_setMetre_91 ?_
              subst hQF9
              refine gg_iret dX9_setMetre_92 rfl rfl ⟨(Nat.le_of_ble_eq_true rfl), (Nat.le_of_ble_eq_true rfl)⟩ ?_
              refine ⟨⟨by omega, by omega, by omega, by omega, by omega, by omega⟩, ?_, ι', q9, hX, M2, rfl⟩
              congr 3
            · subst hQF9
              refine gg_throw (text := "no such metre") thr_2 rfl (by decide) dX9_setMetre_29 dX9_setMetre_32 dX9_setMetre_33 dX9_setMetre_35 dX9_setMetre_38 rfl ⟨(Nat.le_of_ble_eq_true rfl), (Nat.le_of_ble_eq_true rfl)⟩ ⟨(Nat.le_of_ble_eq_true rfl), (Nat.le_of_ble_eq_true rfl)⟩ ?_
              exact ⟨by omega, rfl, rfl⟩
theorem RfO.rm {ι : Nat → Option XE} {f : Int → Int} {l c : Int} (h : ∀ j, 0 ≤ j → j < 10 → RfO ι 4 (f j)) (hc : 0 ≤ l ∧ c ≤ 9) : ∀ j, 0 ≤ j → j < 10 → RfO ι 4 (up (shd f l c 1) c (-1) j) := by
  intro j j0 j1
  by_cases e : j = c
  · rw [e, up_s]; exact Or.inl (by decide)
  · rw [up_n e]; unfold shd; split
    · exact h _ (by omega) (by omega)
    · exact h j j0 j1
set_option maxRecDepth 100000 in
set_option maxHeartbeats 4000000 in
theorem c_X9_moveLine {Γ : GT} {h : XH} {G : Nat → Int} {B : Nat → Int → Int} {b : Nat} (hb9 : b ≤ 9) (g0 : G 0 = (b : Int)) {mq : Nat} (hmq : G (100 + 10 * b) = (mq : Int)) (WR9 : WR h.2 B) (H9 : HIS G B b) {fL : Int → Int → Int → Int} {nL : Int → Int → Int} (LD : ∀ d : Nat, d ≤ 3 → LnD h.2 G B b d (fL d) (nL d)) {i l m : Int} (hi : InR i) (hl : InR l) (hm : InR m) : Ct Γ M_X9_moveLine [.ref (g_L Γ 30), .int (iN i), .int (iN l), .int (iN m)] (gst Γ h G B) (fun r h9 => (((0 ≤ i ∧ i ≤ 3) ∧ 0 ≤ l ∧ l < G (103 + 10 * b + i.toNat)) ∧ (0 ≤ m ∧ m < G (103 + 10 * b + i.toNat))) ∧ r = some (.int (iN (if l ≤ m then m - l else l - m))) ∧ h9 = gst Γ h (uF (rmG G B b) (103 + 10 * b + i.toNat) (G (103 + 10 * b + i.toNat))) (uA (rmB G B b) (106 + 11 * b + i.toNat) (up (shu (up (shd ((rmB G B b) (106 + 11 * b + i.toNat)) l (G (103 + 10 * b + i.toNat) - 1) 1) (G (103 + 10 * b + i.toNat) - 1) (-1)) m (G (103 + 10 * b + i.toNat) - 1) 1) m (B (106 + 11 * b + i.toNat) l)))) (fun E h9 => ¬ (((0 ≤ i ∧ i ≤ 3) ∧ 0 ≤ l ∧ l < G (103 + 10 * b + i.toNat)) ∧ (0 ≤ m ∧ m < G (103 + 10 * b + i.toNat))) ∧ E = "java/lang/IndexOutOfBoundsException" ∧ h9 = gst Γ h G B) := by
  refine Ct.of rfl (by decide +kernel) (Nat.le_of_ble_eq_true rfl) ?_
  generalize hQF9 : QM Γ _ _ _ = QF9
  refine gg_aload_n dX9_moveLine_0 rfl rfl ?_
  refine gg_iload_n dX9_moveLine_1 rfl ?_
  refine gc_X9_182 rfl dX9_moveLine_2 ⟨(Nat.le_of_ble_eq_true rfl), (Nat.le_of_ble_eq_true rfl)⟩ ⟨(Nat.le_of_ble_eq_true rfl), (Nat.le_of_ble_eq_true rfl)⟩ (Nat.le_of_ble_eq_true rfl) (HAt.mu gst_30) (c_X9_draftAt hb9 g0 hi) (fun E h8 hx => by subst hQF9; exact gx_out rfl ⟨(Nat.le_of_ble_eq_true rfl), (Nat.le_of_ble_eq_true rfl)⟩ (by obtain ⟨h1, h2, h3⟩ := hx; exact ⟨fun z => h1 z.1.1, h2, h3⟩)) (fun r_2 h_2 hp => ?_)
  obtain ⟨hi2, rfl, rfl⟩ := hp
  have hd9 : i.toNat ≤ 3 := by omega
  refine gg_astore dX9_moveLine_5 rfl (Nat.le_of_ble_eq_true rfl) rfl ?_
  refine gg_aload_n dX9_moveLine_7 rfl rfl ?_
  refine gg_iload_n dX9_moveLine_8 rfl ?_
  refine gg_iload_n dX9_moveLine_9 rfl ?_
  refine gc_X9_208 rfl dX9_moveLine_10 ⟨(Nat.le_of_ble_eq_true rfl), (Nat.le_of_ble_eq_true rfl)⟩ ⟨(Nat.le_of_ble_eq_true rfl), (Nat.le_of_ble_eq_true rfl)⟩ (Nat.le_of_ble_eq_true rfl) (HAt.mu gst_30) (c_X9_lineAt hb9 g0 (fun d hd => (LD d hd).1) (fun d l => LDs.c LD d l) hi hl) (fun E h8 hx => by subst hQF9; exact gx_out rfl ⟨(Nat.le_of_ble_eq_true rfl), (Nat.le_of_ble_eq_true rfl)⟩ (by obtain ⟨h1, h2, h3⟩ := hx; exact ⟨fun z => h1 z.1, h2, h3⟩)) (fun r_10 h_10 hp => ?_)
  obtain ⟨hil, rfl, rfl⟩ := hp
  obtain ⟨q1, hq1, L1⟩ := (LD i.toNat (by omega)).2 l hil.2.1 hil.2.2
  rw [hq1, Int.toNat_natCast]
  obtain ⟨m1, m2, m3, aT, aW, wl, f9, w9, cL, m5⟩ := id L1
  have lc := (LD i.toNat hd9).1
  refine gg_astore dX9_moveLine_13 rfl (Nat.le_of_ble_eq_true rfl) rfl ?_
  refine gg_aload_n dX9_moveLine_15 rfl rfl ?_
  refine gg_iload_n dX9_moveLine_16 rfl ?_
  refine gg_iload_n dX9_moveLine_17 rfl ?_
  refine gc_X9_208 rfl dX9_moveLine_18 ⟨(Nat.le_of_ble_eq_true rfl), (Nat.le_of_ble_eq_true rfl)⟩ ⟨(Nat.le_of_ble_eq_true rfl), (Nat.le_of_ble_eq_true rfl)⟩ (Nat.le_of_ble_eq_true rfl) (HAt.mu gst_30) (c_X9_lineAt hb9 g0 (fun d hd => (LD d hd).1) (fun d l => LDs.c LD d l) hi hm) (fun E h8 hx => by subst hQF9; exact gx_out rfl ⟨(Nat.le_of_ble_eq_true rfl), (Nat.le_of_ble_eq_true rfl)⟩ (by obtain ⟨h1, h2, h3⟩ := hx; exact ⟨fun z => h1 ⟨z.1.1, z.2⟩, h2, h3⟩)) (fun r_18 h_18 hp => ?_)
  obtain ⟨him, rfl, rfl⟩ := hp
  refine gg_pop dX9_moveLine_21 rfl ?_
  refine gg_aload_n dX9_moveLine_22 rfl rfl ?_
  refine gc_X9_106 rfl dX9_moveLine_23 ⟨(Nat.le_of_ble_eq_true rfl), (Nat.le_of_ble_eq_true rfl)⟩ ⟨(Nat.le_of_ble_eq_true rfl), (Nat.le_of_ble_eq_true rfl)⟩ (Nat.le_of_ble_eq_true rfl) (HAt.mu gst_30) (c_remember hb9 g0 hmq WR9 H9) (fun _ _ w => w.elim) (fun r_23 h_23 hp => ?_)
  obtain ⟨rfl, rfl⟩ := hp
  refine gg_aload dX9_moveLine_26 rfl rfl ?_
  refine gg_iload_n dX9_moveLine_28 rfl ?_
  refine gc_X9_215 rfl dX9_moveLine_29 ⟨(Nat.le_of_ble_eq_true rfl), (Nat.le_of_ble_eq_true rfl)⟩ ⟨(Nat.le_of_ble_eq_true rfl), (Nat.le_of_ble_eq_true rfl)⟩ (Nat.le_of_ble_eq_true rfl) (HAt.mu (gst_dr hb9 hd9)) (c_X0_remove hb9 hd9 (by rw [rmG_o H9 (by omega)]; exact lc) (fun l l0 l1 => by rw [rmB_o H9 (by omega)]; exact (WR9 b hb9).1 i.toNat l (by omega) l0 l1) (i := l) (by rw [rmG_o H9 (by omega)]; exact hil.2)) (fun _ _ w => w.elim) (fun r_29 h_29 hp => ?_)
  obtain ⟨rfl, rfl⟩ := hp
  rw [rmG_o H9 (k := (103 + 10 * b + i.toNat)) (by omega)]
  refine gg_aload dX9_moveLine_32 rfl rfl ?_
  refine gg_iload_n dX9_moveLine_34 rfl ?_
  refine gg_aload dX9_moveLine_35 rfl rfl ?_
  refine gc_X9_199 rfl dX9_moveLine_37 ⟨(Nat.le_of_ble_eq_true rfl), (Nat.le_of_ble_eq_true rfl)⟩ ⟨(Nat.le_of_ble_eq_true rfl), (Nat.le_of_ble_eq_true rfl)⟩ (Nat.le_of_ble_eq_true rfl) (HAt.mu (gst_dr hb9 hd9)) (c_X0_insert (G := uF (rmG G B b) (103 + 10 * b + i.toNat) (G (103 + 10 * b + i.toNat) - 1)) (B := uA (rmB G B b) (106 + 11 * b + i.toNat) (up (shd ((rmB G B b) (106 + 11 * b + i.toNat)) l (G (103 + 10 * b + i.toNat) - 1) 1) (G (103 + 10 * b + i.toNat) - 1) (-1))) hb9 hd9 (by rw [uF_s]; omega) (by rw [uA_s]; exact RfO.rm (fun l l0 l1 => by rw [rmB_o H9 (by omega)]; exact (WR9 b hb9).1 i.toNat l (by omega) l0 l1) ⟨hil.2.1, by omega⟩) (i := m) (by rw [uF_s]; omega) (q := q1) cL) (fun _ _ w => w.elim) (fun r_37 h_37 hp => ?_)
  obtain ⟨rfl, rfl⟩ := hp
  rw [uF_s, uF_ss, uA_s, uA_ss, Int.sub_add_cancel]
  refine gg_iload_n dX9_moveLine_40 rfl ?_
  refine gg_iload_n dX9_moveLine_41 rfl ?_
  refine gi_isub dX9_moveLine_42 ?_
  refine gc_X9_218 rfl dX9_moveLine_43 ⟨(Nat.le_of_ble_eq_true rfl), (Nat.le_of_ble_eq_true rfl)⟩ ⟨(Nat.le_of_ble_eq_true rfl), (Nat.le_of_ble_eq_true rfl)⟩ ?_
  rw [iN_abs ⟨by omega, by omega⟩]
  subst hQF9
  refine gg_iret dX9_moveLine_46 rfl rfl ⟨(Nat.le_of_ble_eq_true rfl), (Nat.le_of_ble_eq_true rfl)⟩ ?_
  refine ⟨⟨hil, him.2⟩, ?_, by rw [hq1]⟩
  congr 3
  split <;> split <;> omega
theorem syE_r {ι : Nat → Option XE} {G : Nat → Int} {B : Nat → Int → Int} {b : Nat} {a f : Int → Int} {n : Int} (X : ExM ι G B b a) (hn : 1 ≤ n ∧ n ≤ 12) : 1 ≤ syE a f n ∧ syE a f n ≤ 6 := by
  unfold syE
  split
  · exact ⟨(wC_r hn).1, wC_6 hn⟩
  · have r := exO_r (a := a) (r := f) (fr := 0) (n := n) X.1.2.1
    obtain ⟨q, _, wq, aM, m9, k1, kW, kr, k2⟩ := X.2 (exO a f 0 n) (by omega) (by omega)
    exact kr
theorem LnO.w {ι : Nat → Option XE} {q : Nat} {f : Int → Int} {n : Int} (L : LnO ι q f n) {i : Int} (h0 : 0 ≤ i) (h1 : i < pwL f n) : 1 ≤ pwN f n i ∧ pwN f n i ≤ 12 := by
  obtain ⟨l1, l2, l3, aT, aW, wl, f9, w9, l4, l5, l6, l7, l8, l9⟩ := L
  obtain ⟨wq, _, W⟩ := l8 i h0 h1
  exact W.1
theorem dtA_ok {ι : Nat → Option XE} {G : Nat → Int} {B : Nat → Int → Int} {b : Nat} {a f : Int → Int} {n kd ft c9 : Int} {q : Nat} (X : ExM ι G B b a) (L : LnO ι q f n) : sOK (dtA a f n kd ft c9) ∧ 0 ≤ dL (dtA a f n kd ft c9) :=
  ⟨⟨L.2.1.2, fun w w0 w1 => syE_r X (L.w w0 w1)⟩, by have := L.2.1.1; show 0 ≤ pwL f n; omega⟩
theorem tcF_r {a : Int → Int} {fL : Int → Int → Int} {nL : Int → Int} {tol hi : Int} {v : (Int → Int) → (Int → Int) → Int → Int → Int → Int} {j : Int} : ∀ k : Nat, k ≤ 10 → (∀ l : Int, 0 ≤ l → l < k → 0 ≤ v a (fL l) (nL l) tol j ∧ v a (fL l) (nL l) tol j ≤ hi) → 0 ≤ tcF a fL nL tol v k j ∧ tcF a fL nL tol v k j ≤ hi * k
  | 0, _, _ => by simp [tcF]
  | k + 1, hk, hw => by
    have ih := tcF_r k (by omega) (fun l l0 l1 => hw l l0 (by omega))
    have h1 := hw k (by omega) (by omega)
    rw [tcF]
    have e : hi * ((k + 1 : Nat) : Int) = hi * k + hi := by rw [show ((k + 1 : Nat) : Int) = (k : Int) + 1 by omega, Int.mul_add, Int.mul_one]
    omega
theorem bcF_cg {g c g' c' : Int → Int} : ∀ k : Nat, (∀ j : Int, 0 ≤ j → j < k → g j = g' j ∧ c j = c' j) → bcF g c k = bcF g' c' k
  | 0, _ => rfl
  | k + 1, h => by
    have e := h k (by omega) (by omega)
    rw [bcF, bcF, bcF_cg k (fun j j0 j1 => h j j0 (by omega)), e.1, e.2]
theorem bcF_r9 {g c : Int → Int} : ∀ k : Nat, -1 ≤ (bcF g c k).1 ∧ (bcF g c k).1 < k
  | 0 => by rw [bcF]; dsimp only; omega
  | k + 1 => by
    have := bcF_r9 (g := g) (c := c) k
    rw [bcF]; split
    · dsimp only; omega
    · omega
set_option maxRecDepth 100000 in
set_option maxHeartbeats 4000000 in
theorem c_X9_suits {Γ : GT} {h : XH} {G : Nat → Int} {B : Nat → Int → Int} {b mq : Nat} {kd ft c9 : Int} {a : Int → Int} (S : SW h.2 G B b mq kd ft c9 a) {fL : Int → Int → Int → Int} {nL : Int → Int → Int} (LD : ∀ d : Nat, d ≤ 3 → LnD h.2 G B b d (fL d) (nL d)) (C9 : CA h.2 B) {i : Int} (hi : InR i) : Ct Γ M_X9_suits [.ref (g_L Γ 30), .int (iN i)] (gst Γ h G B) (fun r h9 => (0 ≤ i ∧ i ≤ 3) ∧ 0 ≤ (bcF (tcF a (fL i.toNat) (nL i.toNat) (G (101 + 10 * b)) fiV (G (103 + 10 * b + i.toNat)).toNat) (tcF a (fL i.toNat) (nL i.toNat) (G (101 + 10 * b)) coV (G (103 + 10 * b + i.toNat)).toNat) 20).1 ∧ ∃ (G' : Nat → Int) (B' : Nat → Int → Int), r = some (.int (iN (10 * ((bcF (tcF a (fL i.toNat) (nL i.toNat) (G (101 + 10 * b)) fiV (G (103 + 10 * b + i.toNat)).toNat) (tcF a (fL i.toNat) (nL i.toNat) (G (101 + 10 * b)) coV (G (103 + 10 * b + i.toNat)).toNat) 20).1 / 5) + (2 + (bcF (tcF a (fL i.toNat) (nL i.toNat) (G (101 + 10 * b)) fiV (G (103 + 10 * b + i.toNat)).toNat) (tcF a (fL i.toNat) (nL i.toNat) (G (101 + 10 * b)) coV (G (103 + 10 * b + i.toNat)).toNat) 20).1 % 5)))) ∧ h9 = gst Γ h G' B' ∧ frS G G' B B') (fun E h9 => (¬ (0 ≤ i ∧ i ≤ 3) ∧ E = "java/lang/IndexOutOfBoundsException" ∧ h9 = gst Γ h G B) ∨ ((0 ≤ i ∧ i ≤ 3) ∧ (bcF (tcF a (fL i.toNat) (nL i.toNat) (G (101 + 10 * b)) fiV (G (103 + 10 * b + i.toNat)).toNat) (tcF a (fL i.toNat) (nL i.toNat) (G (101 + 10 * b)) coV (G (103 + 10 * b + i.toNat)).toNat) 20).1 = -1 ∧ E = "java/util/NoSuchElementException" ∧ ∃ (G' : Nat → Int) (B' : Nat → Int → Int), h9 = gst Γ h G' B' ∧ frS G G' B B')) := by
  refine Ct.of rfl (by decide +kernel) (Nat.le_of_ble_eq_true rfl) ?_
  generalize hQF9 : QM Γ _ _ _ = QF9
  have hb9 := S.1
  have g0 := S.2.1
  have X9 := S.2.2.2.2.1
  refine gg_aload_n dX9_suits_0 rfl rfl ?_
  refine gg_aload_n dX9_suits_1 rfl rfl ?_
  refine gg_iload_n dX9_suits_2 rfl ?_
  refine gc_X9_182 rfl dX9_suits_3 ⟨(Nat.le_of_ble_eq_true rfl), (Nat.le_of_ble_eq_true rfl)⟩ ⟨(Nat.le_of_ble_eq_true rfl), (Nat.le_of_ble_eq_true rfl)⟩ (Nat.le_of_ble_eq_true rfl) (HAt.mu gst_30) (c_X9_draftAt hb9 g0 hi) (fun E h8 hx => by subst hQF9; exact gx_out rfl ⟨(Nat.le_of_ble_eq_true rfl), (Nat.le_of_ble_eq_true rfl)⟩ (by obtain ⟨h1, h2, h3⟩ := hx; exact Or.inl ⟨h1, h2, h3⟩)) (fun r_3 h_3 hp => ?_)
  obtain ⟨hi2, rfl, rfl⟩ := hp
  have hd9 : i.toNat ≤ 3 := by omega
  have hcn := (LD i.toNat hd9).1
  refine gc_X9_351 rfl dX9_suits_6 ⟨(Nat.le_of_ble_eq_true rfl), (Nat.le_of_ble_eq_true rfl)⟩ ⟨(Nat.le_of_ble_eq_true rfl), (Nat.le_of_ble_eq_true rfl)⟩ (Nat.le_of_ble_eq_true rfl) (HAt.mu gst_30) (c_X9_tryCandidates S hd9 (LD i.toNat hd9) C9) (fun _ _ w => w.elim) (fun r_6 h_6 hp => ?_)
  obtain ⟨G2, B2, rfl, rfl, fr, E33, E34⟩ := hp
  have lr : ∀ l : Int, 0 ≤ l → l < (G (103 + 10 * b + i.toNat)).toNat → ∀ j : Int, (0 ≤ fiV a (fL i.toNat l) (nL i.toNat l) (G (101 + 10 * b)) j ∧ fiV a (fL i.toNat l) (nL i.toNat l) (G (101 + 10 * b)) j ≤ 1) ∧ (0 ≤ coV a (fL i.toNat l) (nL i.toNat l) (G (101 + 10 * b)) j ∧ coV a (fL i.toNat l) (nL i.toNat l) (G (101 + 10 * b)) j ≤ 16384) := by
    intro l l0 l1 j
    obtain ⟨ql, _, Ll⟩ := (LD i.toNat hd9).2 l l0 (by omega)
    have ok := dtA_ok (kd := j / 5) (ft := 2 + j % 5) (c9 := 0) X9 Ll
    have kr := srch_r ok.1 ok.2
    refine ⟨⟨?_, ?_⟩, ?_⟩
    · unfold fiV; exact (by have := bi_01 (decide ((srch (cdD a (fL i.toNat l) (nL i.toNat l) j)).1 ≠ NOK ∧ (srch (cdD a (fL i.toNat l) (nL i.toNat l) j)).1 / 65536 ≤ G (101 + 10 * b))); omega)
    · unfold fiV; exact (by have := bi_01 (decide ((srch (cdD a (fL i.toNat l) (nL i.toNat l) j)).1 ≠ NOK ∧ (srch (cdD a (fL i.toNat l) (nL i.toNat l) j)).1 / 65536 ≤ G (101 + 10 * b))); omega)
    · unfold coV cdD
      unfold NOK at kr
      split <;> omega
  have t33 : ∀ j : Int, 0 ≤ j → j < 20 → InR (B2 33 j) ∧ InR (B2 34 j) := by
    intro j j0 j1
    have a1 := tcF_r (a := a) (fL := fL i.toNat) (nL := nL i.toNat) (tol := G (101 + 10 * b)) (hi := 1) (v := fiV) (j := j) (G (103 + 10 * b + i.toNat)).toNat (by omega) (fun l l0 l1 => (lr l l0 l1 j).1)
    have a2 := tcF_r (a := a) (fL := fL i.toNat) (nL := nL i.toNat) (tol := G (101 + 10 * b)) (hi := 16384) (v := coV) (j := j) (G (103 + 10 * b + i.toNat)).toNat (by omega) (fun l l0 l1 => (lr l l0 l1 j).2)
    rw [E33 j j0 j1, E34 j j0 j1]
    exact ⟨⟨by omega, by omega⟩, ⟨by omega, by omega⟩⟩
  refine gg_aload_n dX9_suits_9 rfl rfl ?_
  refine gc_X9_354 rfl dX9_suits_10 ⟨(Nat.le_of_ble_eq_true rfl), (Nat.le_of_ble_eq_true rfl)⟩ ⟨(Nat.le_of_ble_eq_true rfl), (Nat.le_of_ble_eq_true rfl)⟩ (Nat.le_of_ble_eq_true rfl) (HAt.mu gst_30) (c_X9_bestCandidate t33) (fun _ _ w => w.elim) (fun r_10 h_10 hp => ?_)
  obtain ⟨rfl, rfl⟩ := hp
  rw [bcF_cg 20 (fun j j0 j1 => ⟨E33 j j0 j1, E34 j j0 j1⟩)]
  have br := bcF_r9 (g := (tcF a (fL i.toNat) (nL i.toNat) (G (101 + 10 * b)) fiV (G (103 + 10 * b + i.toNat)).toNat)) (c := (tcF a (fL i.toNat) (nL i.toNat) (G (101 + 10 * b)) coV (G (103 + 10 * b + i.toNat)).toNat)) 20
  obtain ⟨k, hk⟩ : ∃ k, (bcF (tcF a (fL i.toNat) (nL i.toNat) (G (101 + 10 * b)) fiV (G (103 + 10 * b + i.toNat)).toNat) (tcF a (fL i.toNat) (nL i.toNat) (G (101 + 10 * b)) coV (G (103 + 10 * b + i.toNat)).toNat) 20).1 = k := ⟨_, rfl⟩
  rw [hk] at br hQF9 ⊢
  refine gg_istore_n dX9_suits_13 (Nat.le_of_ble_eq_true rfl) rfl ?_
  refine gg_iload_n dX9_suits_14 rfl ?_
  refine gi_iconst dX9_suits_15 ?_
  refine gi_icmp_ne (tgt := 30) dX9_suits_16 (by decide) ⟨by omega, by omega⟩ ⟨by omega, by omega⟩ (fun c_16 => ?_) (fun c_16 => ?_)
  · refine gi_bipush dX9_suits_30 (by decide) ?_
    refine gg_aload_n dX9_suits_32 rfl rfl ?_
    refine gk_getX9_45 rfl dX9_suits_33 ?_
    refine gg_iload_n dX9_suits_36 rfl ?_
    obtain ⟨q2, hq2, M2⟩ := C9 k (by omega) (by omega)
    have b32 : B2 32 k = (q2 : Int) := by rw [fr.b (by omega)]; exact hq2
    refine gk_ald32 dX9_suits_37 ⟨by omega, by omega⟩ b32 ?_
    refine gf_X9_113 rfl dX9_suits_38 (HAt.io M2.2) rfl ?_
    refine gi_imul dX9_suits_41 ?_
    refine gg_aload_n dX9_suits_42 rfl rfl ?_
    refine gk_getX9_45 rfl dX9_suits_43 ?_
    refine gg_iload_n dX9_suits_46 rfl ?_
    refine gk_ald32 dX9_suits_47 ⟨by omega, by omega⟩ b32 ?_
    refine gf_X9_116 rfl dX9_suits_48 (HAt.io M2.2) rfl ?_
    refine gi_iadd dX9_suits_51 ?_
    subst hQF9
    refine gg_iret dX9_suits_52 rfl rfl ⟨(Nat.le_of_ble_eq_true rfl), (Nat.le_of_ble_eq_true rfl)⟩ ?_
    exact ⟨hi2, by omega, G2, B2, rfl, rfl, fr⟩
  · subst hQF9
    refine gg_throwW (text := "no line fits any metre") thr_1 rfl (by decide) dX9_suits_19 dX9_suits_22 dX9_suits_23 dX9_suits_26 dX9_suits_29 rfl ⟨(Nat.le_of_ble_eq_true rfl), (Nat.le_of_ble_eq_true rfl)⟩ ⟨(Nat.le_of_ble_eq_true rfl), (Nat.le_of_ble_eq_true rfl)⟩ ?_
    exact Or.inr ⟨hi2, by omega, rfl, G2, B2, rfl, fr⟩
theorem suS_3 {a : Int → Int} {fL : Int → Int → Int} {nL : Int → Int} {kd ft c9 tol : Int} : ∀ k : Nat, 0 ≤ suS a fL nL kd ft c9 tol 3 k ∧ suS a fL nL kd ft c9 tol 3 k ≤ k
  | 0 => by simp [suS]
  | k + 1 => by
    have ih := suS_3 (a := a) (fL := fL) (nL := nL) (kd := kd) (ft := ft) (c9 := c9) (tol := tol) k
    rw [suS]; unfold shV; rw [if_neg (by decide), if_neg (by decide), if_pos rfl]
    split <;> omega
set_option maxRecDepth 100000 in
set_option maxHeartbeats 4000000 in
theorem c_X9_meanCost {Γ : GT} {h : XH} {G : Nat → Int} {B : Nat → Int → Int} {b mq : Nat} {kd ft c9 : Int} {a : Int → Int} (S : SW h.2 G B b mq kd ft c9 a) {fL : Int → Int → Int → Int} {nL : Int → Int → Int} (LD : ∀ d : Nat, d ≤ 3 → LnD h.2 G B b d (fL d) (nL d)) {i : Int} (hi : InR i) (hs : (0 ≤ i ∧ i ≤ 3) → 0 ≤ (suS a (fL i.toNat) (nL i.toNat) kd ft c9 (G (101 + 10 * b)) 2 (G (103 + 10 * b + i.toNat)).toNat) ∧ (suS a (fL i.toNat) (nL i.toNat) kd ft c9 (G (101 + 10 * b)) 2 (G (103 + 10 * b + i.toNat)).toNat) ≤ 1000) : Ct Γ M_X9_meanCost [.ref (g_L Γ 30), .int (iN i)] (gst Γ h G B) (fun r h9 => (0 ≤ i ∧ i ≤ 3) ∧ 0 < (G (103 + 10 * b + i.toNat) - (suS a (fL i.toNat) (nL i.toNat) kd ft c9 (G (101 + 10 * b)) 3 (G (103 + 10 * b + i.toNat)).toNat)) ∧ ∃ (G' : Nat → Int) (B' : Nat → Int → Int), r = some (.float (FP.fdiv (FP.i2f (iN (suS a (fL i.toNat) (nL i.toNat) kd ft c9 (G (101 + 10 * b)) 2 (G (103 + 10 * b + i.toNat)).toNat))) (FP.i2f (iN (G (103 + 10 * b + i.toNat) - (suS a (fL i.toNat) (nL i.toNat) kd ft c9 (G (101 + 10 * b)) 3 (G (103 + 10 * b + i.toNat)).toNat)))))) ∧ h9 = gst Γ h G' B' ∧ frS G G' B B') (fun E h9 => (¬ (0 ≤ i ∧ i ≤ 3) ∧ E = "java/lang/IndexOutOfBoundsException" ∧ h9 = gst Γ h G B) ∨ ((0 ≤ i ∧ i ≤ 3) ∧ (G (103 + 10 * b + i.toNat) - (suS a (fL i.toNat) (nL i.toNat) kd ft c9 (G (101 + 10 * b)) 3 (G (103 + 10 * b + i.toNat)).toNat)) = 0 ∧ E = "java/lang/ArithmeticException" ∧ ∃ (G' : Nat → Int) (B' : Nat → Int → Int), h9 = gst Γ h G' B' ∧ frS G G' B B')) := by
  refine Ct.of rfl (by decide +kernel) (Nat.le_of_ble_eq_true rfl) ?_
  generalize hQF9 : QM Γ _ _ _ = QF9
  have hb9 := S.1
  have g0 := S.2.1
  refine gg_aload_n dX9_meanCost_0 rfl rfl ?_
  refine gg_iload_n dX9_meanCost_1 rfl ?_
  refine gc_X9_182 rfl dX9_meanCost_2 ⟨(Nat.le_of_ble_eq_true rfl), (Nat.le_of_ble_eq_true rfl)⟩ ⟨(Nat.le_of_ble_eq_true rfl), (Nat.le_of_ble_eq_true rfl)⟩ (Nat.le_of_ble_eq_true rfl) (HAt.mu gst_30) (c_X9_draftAt hb9 g0 hi) (fun E h8 hx => by subst hQF9; exact gx_out rfl ⟨(Nat.le_of_ble_eq_true rfl), (Nat.le_of_ble_eq_true rfl)⟩ (by obtain ⟨h1, h2, h3⟩ := hx; exact Or.inl ⟨h1, h2, h3⟩)) (fun r_2 h_2 hp => ?_)
  obtain ⟨hi2, rfl, rfl⟩ := hp
  have hd9 : i.toNat ≤ 3 := by omega
  have hcn := (LD i.toNat hd9).1
  refine gg_astore_n dX9_meanCost_5 rfl (Nat.le_of_ble_eq_true rfl) rfl ?_
  refine gg_aload_n dX9_meanCost_6 rfl rfl ?_
  refine gk_getX9_186 hb9 hd9 rfl dX9_meanCost_7 rfl ?_
  refine gg_aload_n dX9_meanCost_10 rfl rfl ?_
  refine gg_aload_n dX9_meanCost_11 rfl rfl ?_
  refine gi_iconst dX9_meanCost_12 ?_
  refine gc_X9_366 rfl dX9_meanCost_13 ⟨(Nat.le_of_ble_eq_true rfl), (Nat.le_of_ble_eq_true rfl)⟩ ⟨(Nat.le_of_ble_eq_true rfl), (Nat.le_of_ble_eq_true rfl)⟩ (Nat.le_of_ble_eq_true rfl) (HAt.mu gst_30) (c_X9_sumOfShares S hd9 (LD i.toNat hd9) (w := 3) ⟨by omega, by omega⟩) (fun _ _ w => w.elim) (fun r_13 h_13 hp => ?_)
  obtain ⟨G2, B2, rfl, rfl, fr⟩ := hp
  have s3 := suS_3 (a := a) (fL := fL i.toNat) (nL := nL i.toNat) (kd := kd) (ft := ft) (c9 := c9) (tol := G (101 + 10 * b)) (G (103 + 10 * b + i.toNat)).toNat
  refine gi_isub dX9_meanCost_16 ?_
  refine gg_istore_n dX9_meanCost_17 (Nat.le_of_ble_eq_true rfl) rfl ?_
  refine gg_iload_n dX9_meanCost_18 rfl ?_
  refine gi_if_ne (tgt := 33) dX9_meanCost_19 (by decide) ⟨by omega, by omega⟩ (fun c_19 => ?_) (fun c_19 => ?_)
  · refine gg_aload_n dX9_meanCost_33 rfl rfl ?_
    refine gg_aload_n dX9_meanCost_34 rfl rfl ?_
    refine gi_iconst dX9_meanCost_35 ?_
    refine gc_X9_366 rfl dX9_meanCost_36 ⟨(Nat.le_of_ble_eq_true rfl), (Nat.le_of_ble_eq_true rfl)⟩ ⟨(Nat.le_of_ble_eq_true rfl), (Nat.le_of_ble_eq_true rfl)⟩ (Nat.le_of_ble_eq_true rfl) (HAt.mu gst_30) (c_X9_sumOfShares (S.fs fr) hd9 ((LD i.toNat hd9).fs fr) (w := 2) ⟨by omega, by omega⟩) (fun _ _ w => w.elim) (fun r_36 h_36 hp => ?_)
    obtain ⟨G3, B3, rfl, rfl, fr3⟩ := hp
    rw [fr.g (j := 101 + 10 * b) (by omega), fr.g (j := (103 + 10 * b + i.toNat)) (by omega)]
    have s2 := hs hi2
    refine gg_i2f dX9_meanCost_39  ?_
    refine gg_iload_n dX9_meanCost_40 rfl ?_
    refine gg_i2f dX9_meanCost_41  ?_
    refine gg_fdiv dX9_meanCost_42 (n32_c ⟨by omega, by omega⟩ ⟨by omega, by omega⟩) ?_
    subst hQF9
    refine gg_fret dX9_meanCost_43 rfl ⟨(Nat.le_of_ble_eq_true rfl), (Nat.le_of_ble_eq_true rfl)⟩ ?_
    exact ⟨hi2, by omega, G3, B3, rfl, rfl, fr.tr fr3⟩
  · subst hQF9
    refine gg_throwW (text := "no line has a scan") thr_4 rfl (by decide) dX9_meanCost_22 dX9_meanCost_25 dX9_meanCost_26 dX9_meanCost_29 dX9_meanCost_32 rfl ⟨(Nat.le_of_ble_eq_true rfl), (Nat.le_of_ble_eq_true rfl)⟩ ⟨(Nat.le_of_ble_eq_true rfl), (Nat.le_of_ble_eq_true rfl)⟩ ?_
    exact Or.inr ⟨hi2, by omega, rfl, G2, B2, rfl, fr⟩
