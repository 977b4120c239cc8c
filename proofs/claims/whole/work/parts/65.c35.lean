/-! the scanner: public methods, 3 -/
theorem WR.ext {ι ι' : Nat → Option XE} {B : Nat → Int → Int} (e : ext ι ι') (h : WR ι B) : WR ι' B := fun b hb => ⟨fun d l hd l0 l1 => ((h b hb).1 d l hd l0 l1).ext e, fun x x0 x1 => ((h b hb).2 x x0 x1).ext e⟩
/-- the ints after the input is taken -/
def tkG (G : Nat → Int) (c : Prop) [Decidable c] (P : Int) : Nat → Int := uF (if c then uF G 3 P else uF (uF G 3 P) 5 P) 4 0
theorem tkG_l {G : Nat → Int} {c : Prop} [Decidable c] {P : Int} {k : Nat} (h : k < 3 ∨ 5 < k) : tkG G c P k = G k := by
  unfold tkG; rw [uF_n (by omega)]
  split
  · exact uF_n (by omega)
  · rw [uF_n (by omega), uF_n (by omega)]
theorem HIS.tk {G : Nat → Int} {B : Nat → Int → Int} {b : Nat} {c : Prop} [Decidable c] {P : Int} (h : HIS G B b) : HIS (tkG G c P) B b := by
  unfold HIS at h ⊢; rw [tkG_l (by decide)]; exact h
theorem LDs.c {ι : Nat → Option XE} {G : Nat → Int} {B : Nat → Int → Int} {b : Nat} {fL : Int → Int → Int → Int} {nL : Int → Int → Int} (LD : ∀ d : Nat, d ≤ 3 → LnD ι G B b d (fL d) (nL d)) (d : Nat) (l : Int) (hd : d ≤ 3) (l0 : 0 ≤ l) (l1 : l < G (103 + 10 * b + d)) : 0 ≤ B (106 + 11 * b + d) l := by
  obtain ⟨q, hq, _⟩ := (LD d hd).2 l l0 l1
  omega
set_option maxRecDepth 100000 in
set_option maxHeartbeats 4000000 in
theorem c_X9_removeLine {Γ : GT} {h : XH} {G : Nat → Int} {B : Nat → Int → Int} {b : Nat} (hb9 : b ≤ 9) (g0 : G 0 = (b : Int)) {mq : Nat} (hmq : G (100 + 10 * b) = (mq : Int)) (WR9 : WR h.2 B) (H9 : HIS G B b) {fL : Int → Int → Int → Int} {nL : Int → Int → Int} (LD : ∀ d : Nat, d ≤ 3 → LnD h.2 G B b d (fL d) (nL d)) {i l : Int} (hi : InR i) (hl : InR l) : Ct Γ M_X9_removeLine [.ref (g_L Γ 30), .int (iN i), .int (iN l)] (gst Γ h G B) (fun r h9 => ((0 ≤ i ∧ i ≤ 3) ∧ 0 ≤ l ∧ l < G (103 + 10 * b + i.toNat)) ∧ r = some (.int (iN (G (103 + 10 * b + i.toNat) - 1))) ∧ h9 = gst Γ h (uF (rmG G B b) (103 + 10 * b + i.toNat) (G (103 + 10 * b + i.toNat) - 1)) (uA (rmB G B b) (106 + 11 * b + i.toNat) (up (shd ((rmB G B b) (106 + 11 * b + i.toNat)) l (G (103 + 10 * b + i.toNat) - 1) 1) (G (103 + 10 * b + i.toNat) - 1) (-1)))) (fun E h9 => ¬ ((0 ≤ i ∧ i ≤ 3) ∧ 0 ≤ l ∧ l < G (103 + 10 * b + i.toNat)) ∧ E = "java/lang/IndexOutOfBoundsException" ∧ h9 = gst Γ h G B) := by
  refine Ct.of rfl (by decide +kernel) (Nat.le_of_ble_eq_true rfl) ?_
  generalize hQF9 : QM Γ _ _ _ = QF9
  refine gg_aload_n dX9_removeLine_0 rfl rfl ?_
  refine gg_iload_n dX9_removeLine_1 rfl ?_
  refine gc_X9_182 rfl dX9_removeLine_2 ⟨(Nat.le_of_ble_eq_true rfl), (Nat.le_of_ble_eq_true rfl)⟩ ⟨(Nat.le_of_ble_eq_true rfl), (Nat.le_of_ble_eq_true rfl)⟩ (Nat.le_of_ble_eq_true rfl) (HAt.mu gst_30) (c_X9_draftAt hb9 g0 hi) (fun E h8 hx => by subst hQF9; exact gx_out rfl ⟨(Nat.le_of_ble_eq_true rfl), (Nat.le_of_ble_eq_true rfl)⟩ (by obtain ⟨h1, h2, h3⟩ := hx; exact ⟨fun z => h1 z.1, h2, h3⟩)) (fun r_2 h_2 hp => ?_)
  obtain ⟨hi2, rfl, rfl⟩ := hp
  have hd9 : i.toNat ≤ 3 := by omega
  refine gg_astore_n dX9_removeLine_5 rfl (Nat.le_of_ble_eq_true rfl) rfl ?_
  refine gg_aload_n dX9_removeLine_6 rfl rfl ?_
  refine gg_iload_n dX9_removeLine_7 rfl ?_
  refine gg_iload_n dX9_removeLine_8 rfl ?_
  refine gc_X9_208 rfl dX9_removeLine_9 ⟨(Nat.le_of_ble_eq_true rfl), (Nat.le_of_ble_eq_true rfl)⟩ ⟨(Nat.le_of_ble_eq_true rfl), (Nat.le_of_ble_eq_true rfl)⟩ (Nat.le_of_ble_eq_true rfl) (HAt.mu gst_30) (c_X9_lineAt hb9 g0 (fun d hd => (LD d hd).1) (fun d l => LDs.c LD d l) hi hl) (fun E h8 hx => by subst hQF9; exact gx_out rfl ⟨(Nat.le_of_ble_eq_true rfl), (Nat.le_of_ble_eq_true rfl)⟩ (by obtain ⟨h1, h2, h3⟩ := hx; exact ⟨h1, h2, h3⟩)) (fun r_9 h_9 hp => ?_)
  obtain ⟨hil, rfl, rfl⟩ := hp
  refine gg_pop dX9_removeLine_12 rfl ?_
  refine gg_aload_n dX9_removeLine_13 rfl rfl ?_
  refine gc_X9_106 rfl dX9_removeLine_14 ⟨(Nat.le_of_ble_eq_true rfl), (Nat.le_of_ble_eq_true rfl)⟩ ⟨(Nat.le_of_ble_eq_true rfl), (Nat.le_of_ble_eq_true rfl)⟩ (Nat.le_of_ble_eq_true rfl) (HAt.mu gst_30) (c_remember hb9 g0 hmq WR9 H9) (fun _ _ w => w.elim) (fun r_14 h_14 hp => ?_)
  obtain ⟨rfl, rfl⟩ := hp
  refine gg_aload_n dX9_removeLine_17 rfl rfl ?_
  refine gg_iload_n dX9_removeLine_18 rfl ?_
  refine gc_X9_215 rfl dX9_removeLine_19 ⟨(Nat.le_of_ble_eq_true rfl), (Nat.le_of_ble_eq_true rfl)⟩ ⟨(Nat.le_of_ble_eq_true rfl), (Nat.le_of_ble_eq_true rfl)⟩ (Nat.le_of_ble_eq_true rfl) (HAt.mu (gst_dr hb9 hd9)) (c_X0_remove hb9 hd9 (by rw [rmG_o H9 (by omega)]; exact (LD i.toNat hd9).1) (fun l l0 l1 => by rw [rmB_o H9 (by omega)]; exact (WR9 b hb9).1 i.toNat l (by omega) l0 l1) (i := l) (by rw [rmG_o H9 (by omega)]; exact hil.2)) (fun _ _ w => w.elim) (fun r_19 h_19 hp => ?_)
  obtain ⟨rfl, rfl⟩ := hp
  rw [rmG_o H9 (k := (103 + 10 * b + i.toNat)) (by omega)]
  refine gg_aload_n dX9_removeLine_22 rfl rfl ?_
  refine gk_getX9_186 hb9 hd9 rfl dX9_removeLine_23 uF_s ?_
  subst hQF9
  refine gg_iret dX9_removeLine_26 rfl rfl ⟨(Nat.le_of_ble_eq_true rfl), (Nat.le_of_ble_eq_true rfl)⟩ ?_
  exact ⟨hil, rfl, rfl⟩
set_option maxRecDepth 100000 in
set_option maxHeartbeats 4000000 in
theorem c_X9_readMetre {Γ : GT} {h : XH} {G : Nat → Int} {B : Nat → Int → Int} {b : Nat} (hb9 : b ≤ 9) (g0 : G 0 = (b : Int)) {mq : Nat} (hmq : G (100 + 10 * b) = (mq : Int)) (WR9 : WR h.2 B) (H9 : HIS G B b) (p4 : 0 ≤ G 4 ∧ G 4 ≤ 60) (p5 : ∀ k, 0 ≤ k → k < G 4 → 0 ≤ B 41 k ∧ B 41 k < 65536) : Ct Γ M_X9_readMetre [.ref (g_L Γ 30)] (gst Γ h G B) (fun r h9 => (pMt (B 41) (G 4)).1 = true ∧ ∃ (ι' : Nat → Option XE) (q : Nat), ext h.2 ι' ∧ MtAt ι' q (pMt (B 41) (G 4)).2.2.1 (pMt (B 41) (G 4)).2.2.2.1 (pMt (B 41) (G 4)).2.2.2.2 ∧ r = some (.int (iN ((pMt (B 41) (G 4)).2.2.2.1 * szk (pMt (B 41) (G 4)).2.2.1))) ∧ h9 = gst Γ (h.1, ι') (uF (rmG (tkG G ((pMt (B 41) (G 4)).1 = true) (pMt (B 41) (G 4)).2.1) B b) (100 + 10 * b) (q : Int)) (rmB (tkG G ((pMt (B 41) (G 4)).1 = true) (pMt (B 41) (G 4)).2.1) B b)) (fun E h9 => (pMt (B 41) (G 4)).1 = false ∧ E = "java/lang/IllegalArgumentException" ∧ ∃ ι' : Nat → Option XE, ext h.2 ι' ∧ h9 = gst Γ (h.1, ι') (tkG G ((pMt (B 41) (G 4)).1 = true) (pMt (B 41) (G 4)).2.1) B) := by
  refine Ct.of rfl (by decide +kernel) (Nat.le_of_ble_eq_true rfl) ?_
  generalize hQF9 : QM Γ _ _ _ = QF9
  refine gg_aload_n dX9_readMetre_0 rfl rfl ?_
  refine gk_getX9_12 rfl dX9_readMetre_1 ?_
  refine gc_X9_122 rfl dX9_readMetre_4 ⟨(Nat.le_of_ble_eq_true rfl), (Nat.le_of_ble_eq_true rfl)⟩ ⟨(Nat.le_of_ble_eq_true rfl), (Nat.le_of_ble_eq_true rfl)⟩ (Nat.le_of_ble_eq_true rfl) (HAt.mu gst_40) (c_X1_takeMetre p4 p5) (fun _ _ w => w.elim) (fun r_4 h_4 hp => ?_)
  obtain ⟨ι', rfl, hX, hpost⟩ := hp
  rw [show uF (if (pMt (B 41) (G 4)).1 = true then uF G 3 (pMt (B 41) (G 4)).2.1 else uF (uF G 3 (pMt (B 41) (G 4)).2.1) 5 (pMt (B 41) (G 4)).2.1) 4 0 = (tkG G ((pMt (B 41) (G 4)).1 = true) (pMt (B 41) (G 4)).2.1) from rfl]
  have g1 : (tkG G ((pMt (B 41) (G 4)).1 = true) (pMt (B 41) (G 4)).2.1) 0 = (b : Int) := (tkG_l (by decide)).trans g0
  have hmq1 : (tkG G ((pMt (B 41) (G 4)).1 = true) (pMt (B 41) (G 4)).2.1) (100 + 10 * b) = (mq : Int) := (tkG_l (by omega)).trans hmq
  rcases hpost with ⟨e9, q, rfl, hq9⟩ | ⟨e9, rfl⟩
  · refine gg_astore_n dX9_readMetre_7 rfl (Nat.le_of_ble_eq_true rfl) rfl ?_
    refine gg_aload_n dX9_readMetre_8 rfl rfl ?_
    refine gg_ifnonnull (tgt := 22) dX9_readMetre_9 (by decide) rfl (fun a_9 c_9 => ?_) (fun c_9 => ?_)
    · refine gg_aload_n dX9_readMetre_22 rfl rfl ?_
      refine gc_X9_106 rfl dX9_readMetre_23 ⟨(Nat.le_of_ble_eq_true rfl), (Nat.le_of_ble_eq_true rfl)⟩ ⟨(Nat.le_of_ble_eq_true rfl), (Nat.le_of_ble_eq_true rfl)⟩ (Nat.le_of_ble_eq_true rfl) (HAt.mu gst_30) (c_remember (h := (h.1, ι')) (B := B) hb9 g1 hmq1 (WR9.ext hX) H9.tk) (fun _ _ w => w.elim) (fun r_23 h_23 hp => ?_)
      obtain ⟨rfl, rfl⟩ := hp
      refine gg_aload_n dX9_readMetre_26 rfl rfl ?_
      refine gk_getX9_65 rfl dX9_readMetre_27 ((rmG_l (by decide) (by decide)).trans g1) ?_
      refine gg_aload_n dX9_readMetre_30 rfl rfl ?_
      refine gk_putX9_109 hb9 rfl dX9_readMetre_31 (by (try simp only [uF_ss, uF_cc, id_eq, Nat.reduceLT, reduceCtorEq]); rfl) ?_
      refine gg_aload_n dX9_readMetre_34 rfl rfl ?_
      refine gf_X9_128 rfl dX9_readMetre_35 (HAt.io hq9.2) rfl ?_
      subst hQF9
      refine gg_iret dX9_readMetre_38 rfl rfl ⟨(Nat.le_of_ble_eq_true rfl), (Nat.le_of_ble_eq_true rfl)⟩ ?_
      exact ⟨e9, ι', q, hX, hq9, rfl, rfl⟩
    · cases c_9
  · refine gg_astore_n dX9_readMetre_7 rfl (Nat.le_of_ble_eq_true rfl) rfl ?_
    refine gg_aload_n dX9_readMetre_8 rfl rfl ?_
    refine gg_ifnonnull (tgt := 22) dX9_readMetre_9 (by decide) rfl (fun a_9 c_9 => ?_) (fun c_9 => ?_)
    · cases c_9
    · subst hQF9
      refine gg_throw (text := "the text is no metre") thr_2 rfl (by decide) dX9_readMetre_12 dX9_readMetre_15 dX9_readMetre_16 dX9_readMetre_18 dX9_readMetre_21 rfl ⟨(Nat.le_of_ble_eq_true rfl), (Nat.le_of_ble_eq_true rfl)⟩ ⟨(Nat.le_of_ble_eq_true rfl), (Nat.le_of_ble_eq_true rfl)⟩ ?_
      exact ⟨e9, rfl, ι', hX, rfl⟩
