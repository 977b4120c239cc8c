/-! the law: its helpers, 3 -/
theorem alS_a {D : DT} {z : Int} (h : alS (dE D) (dS D) (dL D) z = true) : 0 ≤ z ∧ alw (dE D) (dS D) z (dL D).toNat = true := by
  unfold alS at h
  rw [Bool.and_eq_true] at h
  have h1 := h.1
  unfold sbm at h1
  rw [decide_eq_true_iff] at h1
  exact ⟨h1.1, h.2⟩
theorem cost_D {F : Nat → Int} {A : Nat → Int → Int} {D : DT} (K : LK F A D) (hM : MtK D) {v z : Int} (hv : v = 0 ∨ v = 1) (h : alS (dE D) (dS D) (dL D) z = true) : prE D v z = cst (dK D) (dF D) (dZ D) (sA A z (s0 A) (F 16).toNat) z v := by
  obtain ⟨h0, h1⟩ := alS_a h
  obtain ⟨n, rfl⟩ := Int.eq_ofNat_of_zero_le h0
  rw [alS_D K] at h
  rw [K.1]
  exact (prE_c K hM hv h1 (btc_12 K.2.1 ((are_D K).mp h).1)).1
theorem bc_4 {a : Int → Int} {d : Int} (S : StA a) (N : LnA a) (E9 : ExA a) (hd : 0 ≤ d ∧ d ≤ 3) :
    sc9 (bcF (tcF a (fA9 a d) (nA9 a d) (a 3) fiV (a (5 + d)).toNat) (tcF a (fA9 a d) (nA9 a d) (a 3) coV (a (5 + d)).toNat) 20) = suK a d 4 ∧
    (0 ≤ (bcF (tcF a (fA9 a d) (nA9 a d) (a 3) fiV (a (5 + d)).toNat) (tcF a (fA9 a d) (nA9 a d) (a 3) coV (a (5 + d)).toNat) 20).1 → 0 < (bcF (tcF a (fA9 a d) (nA9 a d) (a 3) fiV (a (5 + d)).toNat) (tcF a (fA9 a d) (nA9 a d) (a 3) coV (a (5 + d)).toNat) 20).2.1) := by
  obtain ⟨h1, h2, h3⟩ := bc_D S N E9 hd 3 5 (by omega) (by omega)
  exact ⟨h1, h3⟩
set_option maxRecDepth 100000 in
set_option maxHeartbeats 4000000 in
theorem cw_rhymes {Γ : GT} {h : XH} {G : Nat → Int} {B : Nat → Int → Int} {F : Nat → Int} {A : Nat → Int → Int} {b : Nat} {v : Nat → Int64} (C : CP9 h.2 G B F A b) (h24 : h.1 24 = some (lo9 v))  {i l m : Int} (hi : InR i) (hl : InR l) (hm : InR m) : Ct Γ M_L_rhymes [.ref (g_L Γ 30), .int (iN i), .int (iN l), .int (iN m), .ref (g_L Γ 24)] (gst Γ h G B) (fun r h9 => ∃ (k x : Int) (ι' : Nat → Option XE) (G' : Nat → Int) (B' : Nat → Int → Int) (b' : Nat), r = some (.int (iN k)) ∧ h9 = gst Γ (wl9 h v k x, ι') G' B' ∧ ext h.2 ι' ∧ ((((0 ≤ i ∧ i ≤ 3 ∧ 0 ≤ l ∧ l < A 1 (5 + i)) ∧ (0 ≤ i ∧ i ≤ 3 ∧ 0 ≤ m ∧ m < A 1 (5 + i))) ∧ k = 0 ∧ x = knd (A 1) i l m ∧ CP9 ι' G' B' F A b') ∨ (¬ ((0 ≤ i ∧ i ≤ 3 ∧ 0 ≤ l ∧ l < A 1 (5 + i)) ∧ (0 ≤ i ∧ i ≤ 3 ∧ 0 ≤ m ∧ m < A 1 (5 + i))) ∧ k = 1 ∧ CP9 ι' G' B' F A b'))) (fun _ _ => False) := by
  refine Ct.ofH rfl (by decide +kernel) (Nat.le_of_ble_eq_true rfl) ?_
  generalize hQF9 : QM Γ _ _ _ = QF9
  have hb9 : b ≤ 9 := by have := C.1.1; omega
  have hb8 := C.1.1
  have hn9 : b ≠ 9 := by omega
  have g0 := C.1.2
  obtain ⟨mq, S⟩ := C.SW
  have hmq := S.2.2.1
  have M1 := S.2.2.2.1
  have X9 := S.2.2.2.2.1
  have WR9 := C.2.2.2.2.2.1
  have H9 := C.2.2.1.his
  have LD := C.LD
  have gt := C.m.2.2.1
  have C9 := C.2.2.2.2.2.2.2.1
  obtain ⟨⟨i1, i2, i3, i4, i5⟩, ⟨e1, e2, e3⟩, p3⟩ := C.2.2.2.2.1
  have p4 : 0 ≤ G 4 ∧ G 4 ≤ 60 := by rw [i1]; exact i2
  have p5 : ∀ k, 0 ≤ k → k < G 4 → 0 ≤ B 41 k ∧ B 41 k < 65536 := by intro k k0 k1; rw [i3]; rw [i1] at k1; exact i4 k ⟨k0, k1⟩
  have sta := C.m.sta
  have lna := C.m.lna
  have exa := C.m.exa
  refine gg_aload dL_rhymes_0 rfl rfl ?_
  refine gi_iconst dL_rhymes_2 ?_
  refine gg_aload_n dL_rhymes_3 rfl rfl ?_
  refine gg_iload_n dL_rhymes_4 rfl ?_
  refine gg_iload_n dL_rhymes_5 rfl ?_
  refine gg_iload_n dL_rhymes_6 rfl ?_
  refine gc_L_78 rfl dL_rhymes_7 ⟨(Nat.le_of_ble_eq_true rfl), (Nat.le_of_ble_eq_true rfl)⟩ ⟨(Nat.le_of_ble_eq_true rfl), (Nat.le_of_ble_eq_true rfl)⟩ (Nat.le_of_ble_eq_true rfl) (HAt.mu gst_30) (c_X9_rhymes S LD hi hl hm) (fun E9 h9 hx9 => by subst hQF9; obtain ⟨q1, rfl, rfl⟩ := hx9; exact gx_code (i := 5) (k := 1) [] [] (0, 12, 15, 43) rfl (fun _ q => absurd q List.not_mem_nil) (by decide) (by decide) (wi_23 _ (List.mem_of_getElem? (i := 7) rfl)) (List.mem_of_getElem? (i := 3) rfl) dL_rhymes_15 (Nat.le_of_ble_eq_true rfl) rfl dL_rhymes_17 dL_rhymes_18 rfl ⟨(Nat.le_of_ble_eq_true rfl), (Nat.le_of_ble_eq_true rfl)⟩ ⟨1, 0, h.2, G, B, b, rfl, by unfold wl9; rw [if_neg (show ¬ (1 : Int) = 0 by decide)], (fun _ _ q => q), Or.inr ⟨fun z => q1 ⟨⟨⟨z.1.1, z.1.2.1⟩, z.1.2.2.1, by rw [C.cn z.1.1 z.1.2.1]; exact z.1.2.2.2⟩, z.2.2.2.1, by rw [C.cn z.1.1 z.1.2.1]; exact z.2.2.2.2⟩, rfl, C⟩⟩) (fun r_7 h_7 hp => ?_)
  obtain ⟨q1, rfl, rfl⟩ := hp
  have q2 := C.ys q1.1
  have q3 := C.ys ⟨q1.1.1, q1.2⟩
  have hin : ((i.toNat : Nat) : Int) = i := Int.toNat_of_nonneg q1.1.1.1
  rw [hin, rkL_D lna ⟨q2.1, q2.2.1⟩ (sta.2.2.2.2.2.1 i q2.1 q2.2.1).2 q2.2.2 q3.2.2]
  refine gg_i2l dL_rhymes_10  ?_
  refine gg_last dL_rhymes_11 (iN_in (n := 1) (by decide) (by decide) (by decide)) (HPut.mu (Eq.trans gst_24 h24)) ?_
  rw [gst_up9 (Or.inl rfl)]
  refine gg_goto (tgt := 19) dL_rhymes_12 (by decide) ?_
  refine gi_iconst dL_rhymes_19 ?_
  subst hQF9
  refine gg_iret dL_rhymes_20 rfl rfl ⟨(Nat.le_of_ble_eq_true rfl), (Nat.le_of_ble_eq_true rfl)⟩ ?_
  exact ⟨0, _, h.2, G, B, b, rfl, by unfold wl9; rw [if_pos (show (0 : Int) = 0 from rfl)]; rfl, (fun _ _ q => q), Or.inl ⟨⟨q2, q3⟩, rfl, rfl, C⟩⟩
set_option maxRecDepth 100000 in
set_option maxHeartbeats 4000000 in
theorem cw_rhyme {Γ : GT} {h : XH} {G : Nat → Int} {B : Nat → Int → Int} {F : Nat → Int} {A : Nat → Int → Int} {b : Nat} {v : Nat → Int64} (C : CP9 h.2 G B F A b) (h24 : h.1 24 = some (lo9 v))  {i l m : Int} (hi : InR i) (hl : InR l) (hm : InR m) : Ct Γ M_L_rhyme [.ref (g_L Γ 30), .int (iN i), .int (iN l), .int (iN m), .ref (g_L Γ 24)] (gst Γ h G B) (fun r h9 => ∃ (k x : Int) (ι' : Nat → Option XE) (G' : Nat → Int) (B' : Nat → Int → Int) (b' : Nat), r = some (.int (iN k)) ∧ h9 = gst Γ (wl9 h v k x, ι') G' B' ∧ ext h.2 ι' ∧ ((((0 ≤ i ∧ i ≤ 3 ∧ 0 ≤ l ∧ l < A 1 (5 + i)) ∧ 0 ≤ m ∧ m < rhM (A 1) i l) ∧ k = 0 ∧ x = A 1 (rhF (A 1) i l + m) ∧ CP9 ι' G' B' F A b') ∨ (¬ ((0 ≤ i ∧ i ≤ 3 ∧ 0 ≤ l ∧ l < A 1 (5 + i)) ∧ 0 ≤ m ∧ m < rhM (A 1) i l) ∧ k = 1 ∧ CP9 ι' G' B' F A b'))) (fun _ _ => False) := by
  refine Ct.ofH rfl (by decide +kernel) (Nat.le_of_ble_eq_true rfl) ?_
  generalize hQF9 : QM Γ _ _ _ = QF9
  have hb9 : b ≤ 9 := by have := C.1.1; omega
  have hb8 := C.1.1
  have hn9 : b ≠ 9 := by omega
  have g0 := C.1.2
  obtain ⟨mq, S⟩ := C.SW
  have hmq := S.2.2.1
  have M1 := S.2.2.2.1
  have X9 := S.2.2.2.2.1
  have WR9 := C.2.2.2.2.2.1
  have H9 := C.2.2.1.his
  have LD := C.LD
  have gt := C.m.2.2.1
  have C9 := C.2.2.2.2.2.2.2.1
  obtain ⟨⟨i1, i2, i3, i4, i5⟩, ⟨e1, e2, e3⟩, p3⟩ := C.2.2.2.2.1
  have p4 : 0 ≤ G 4 ∧ G 4 ≤ 60 := by rw [i1]; exact i2
  have p5 : ∀ k, 0 ≤ k → k < G 4 → 0 ≤ B 41 k ∧ B 41 k < 65536 := by intro k k0 k1; rw [i3]; rw [i1] at k1; exact i4 k ⟨k0, k1⟩
  have sta := C.m.sta
  have lna := C.m.lna
  have exa := C.m.exa
  refine gg_aload dL_rhyme_0 rfl rfl ?_
  refine gi_iconst dL_rhyme_2 ?_
  refine gg_aload_n dL_rhyme_3 rfl rfl ?_
  refine gg_iload_n dL_rhyme_4 rfl ?_
  refine gg_iload_n dL_rhyme_5 rfl ?_
  refine gg_iload_n dL_rhyme_6 rfl ?_
  refine gc_L_75 rfl dL_rhyme_7 ⟨(Nat.le_of_ble_eq_true rfl), (Nat.le_of_ble_eq_true rfl)⟩ ⟨(Nat.le_of_ble_eq_true rfl), (Nat.le_of_ble_eq_true rfl)⟩ (Nat.le_of_ble_eq_true rfl) (HAt.mu gst_30) (c_X9_rhyme S LD hi hl hm) (fun E9 h9 hx9 => by subst hQF9; obtain ⟨q1, rfl, rfl⟩ := hx9; exact gx_code (i := 5) (k := 1) [] [] (0, 12, 15, 43) rfl (fun _ q => absurd q List.not_mem_nil) (by decide) (by decide) (wi_23 _ (List.mem_of_getElem? (i := 7) rfl)) (List.mem_of_getElem? (i := 3) rfl) dL_rhyme_15 (Nat.le_of_ble_eq_true rfl) rfl dL_rhyme_17 dL_rhyme_18 rfl ⟨(Nat.le_of_ble_eq_true rfl), (Nat.le_of_ble_eq_true rfl)⟩ ⟨1, 0, h.2, G, B, b, rfl, by unfold wl9; rw [if_neg (show ¬ (1 : Int) = 0 by decide)], (fun _ _ q => q), Or.inr ⟨fun z => q1 ⟨⟨⟨z.1.1, z.1.2.1⟩, z.1.2.2.1, by rw [C.cn z.1.1 z.1.2.1]; exact z.1.2.2.2⟩, by rw [Int.toNat_of_nonneg z.1.1, rhM_c (lnW_n lna ⟨z.1.1, z.1.2.1⟩ z.1.2.2).1]; exact z.2⟩, rfl, C⟩⟩) (fun r_7 h_7 hp => ?_)
  obtain ⟨q1, rfl, rfl⟩ := hp
  have q2 := C.ys q1.1
  have hin : ((i.toNat : Nat) : Int) = i := Int.toNat_of_nonneg q1.1.1.1
  have nl := (lnW_n lna ⟨q2.1, q2.2.1⟩ q2.2.2).1
  rw [hin] at q1 ⊢
  rw [rhM_c nl] at q1
  obtain ⟨xv, hxv⟩ : ∃ xv, lwG (fA9 (A 1) i l) (nA9 (A 1) i l) (rsE (A 1) (lwG (fA9 (A 1) i l) (nA9 (A 1) i l)) (lwZ (fA9 (A 1) i l) (nA9 (A 1) i l)) + m) = xv := ⟨_, rfl⟩
  have ev : xv = A 1 (rhF (A 1) i l + m) := by
    rw [← hxv, rsE_c nl, lwG_c nl]
    unfold rhF
    rw [Int.add_assoc]
  rw [hxv, ev]
  refine gg_i2l dL_rhyme_10  ?_
  refine gg_last dL_rhyme_11 (iN_in (n := 1) (by decide) (by decide) (by decide)) (HPut.mu (Eq.trans gst_24 h24)) ?_
  rw [gst_up9 (Or.inl rfl)]
  refine gg_goto (tgt := 19) dL_rhyme_12 (by decide) ?_
  refine gi_iconst dL_rhyme_19 ?_
  subst hQF9
  refine gg_iret dL_rhyme_20 rfl rfl ⟨(Nat.le_of_ble_eq_true rfl), (Nat.le_of_ble_eq_true rfl)⟩ ?_
  exact ⟨0, _, h.2, G, B, b, rfl, by unfold wl9; rw [if_pos (show (0 : Int) = 0 from rfl)]; rfl, (fun _ _ q => q), Or.inl ⟨⟨q2, q1.2⟩, rfl, rfl, C⟩⟩
set_option maxRecDepth 100000 in
set_option maxHeartbeats 4000000 in
theorem cw_line {Γ : GT} {h : XH} {G : Nat → Int} {B : Nat → Int → Int} {F : Nat → Int} {A : Nat → Int → Int} {b : Nat} {v : Nat → Int64} (C : CP9 h.2 G B F A b) (h24 : h.1 24 = some (lo9 v))  {i l w : Int} (hi : InR i) (hl : InR l) (hw : InR w) : Ct Γ M_L_line [.ref (g_L Γ 30), .int (iN i), .int (iN l), .int (iN w), .ref (g_L Γ 24)] (gst Γ h G B) (fun r h9 => ∃ (k x : Int) (ι' : Nat → Option XE) (G' : Nat → Int) (B' : Nat → Int → Int) (b' : Nat), r = some (.int (iN k)) ∧ h9 = gst Γ (wl9 h v k x, ι') G' B' ∧ ext h.2 ι' ∧ (((0 ≤ i ∧ i ≤ 3 ∧ 0 ≤ l ∧ l < A 1 (5 + i)) ∧ (0 ≤ w ∧ w ≤ 6) ∧ k = 0 ∧ (∀ (F1 : Nat → Int) (A1 : Nat → Int → Int) (e9 : Int → Int), LD (A 1) i l F1 A1 → x = (if w = 0 then F1 16 else if w = 1 then ally A1 (F1 16).toNat else if w = 2 then pls F1 A1 else if w = 3 then mst9 F1 A1 else if w = 4 then cmm A1 (F1 16).toNat else if w = 5 then clsF (A 1) i e9 (A 1 (5 + i)).toNat l else rhM (A 1) i l)) ∧ CP9 ι' G' B' F A b') ∨ (¬ (0 ≤ i ∧ i ≤ 3 ∧ 0 ≤ l ∧ l < A 1 (5 + i)) ∧ k = 1 ∧ CP9 ι' G' B' F A b') ∨ ((0 ≤ i ∧ i ≤ 3 ∧ 0 ≤ l ∧ l < A 1 (5 + i)) ∧ ¬ (0 ≤ w ∧ w ≤ 6) ∧ k = 2 ∧ CP9 ι' G' B' F A b'))) (fun _ _ => False) := by
  refine Ct.ofH rfl (by decide +kernel) (Nat.le_of_ble_eq_true rfl) ?_
  generalize hQF9 : QM Γ _ _ _ = QF9
  have hb9 : b ≤ 9 := by have := C.1.1; omega
  have hb8 := C.1.1
  have hn9 : b ≠ 9 := by omega
  have g0 := C.1.2
  obtain ⟨mq, S⟩ := C.SW
  have hmq := S.2.2.1
  have M1 := S.2.2.2.1
  have X9 := S.2.2.2.2.1
  have WR9 := C.2.2.2.2.2.1
  have H9 := C.2.2.1.his
  have LD := C.LD
  have gt := C.m.2.2.1
  have C9 := C.2.2.2.2.2.2.2.1
  obtain ⟨⟨i1, i2, i3, i4, i5⟩, ⟨e1, e2, e3⟩, p3⟩ := C.2.2.2.2.1
  have p4 : 0 ≤ G 4 ∧ G 4 ≤ 60 := by rw [i1]; exact i2
  have p5 : ∀ k, 0 ≤ k → k < G 4 → 0 ≤ B 41 k ∧ B 41 k < 65536 := by intro k k0 k1; rw [i3]; rw [i1] at k1; exact i4 k ⟨k0, k1⟩
  have sta := C.m.sta
  have lna := C.m.lna
  have exa := C.m.exa
  refine gg_aload dL_line_0 rfl rfl ?_
  refine gi_iconst dL_line_2 ?_
  refine gg_aload_n dL_line_3 rfl rfl ?_
  refine gg_iload_n dL_line_4 rfl ?_
  refine gg_iload_n dL_line_5 rfl ?_
  refine gg_iload_n dL_line_6 rfl ?_
  refine gc_L_68 rfl dL_line_7 ⟨(Nat.le_of_ble_eq_true rfl), (Nat.le_of_ble_eq_true rfl)⟩ ⟨(Nat.le_of_ble_eq_true rfl), (Nat.le_of_ble_eq_true rfl)⟩ (Nat.le_of_ble_eq_true rfl) (HAt.mu gst_30) (c_X9_line S LD hi hl hw) (fun E9 h9 hx9 => by subst hQF9; rcases hx9 with ⟨q1, rfl, rfl⟩ | ⟨q1, q3, rfl, G2, B2, rfl, fr⟩; (exact gx_code (i := 5) (k := 1) [] [(0, 12, 19, 25)] (0, 12, 15, 43) rfl (fun _ q => absurd q List.not_mem_nil) (by decide) (by decide) (wi_23 _ (List.mem_of_getElem? (i := 7) rfl)) (List.mem_of_getElem? (i := 3) rfl) dL_line_15 (Nat.le_of_ble_eq_true rfl) rfl dL_line_17 dL_line_18 rfl ⟨(Nat.le_of_ble_eq_true rfl), (Nat.le_of_ble_eq_true rfl)⟩ ⟨1, 0, h.2, G, B, b, rfl, by unfold wl9; rw [if_neg (show ¬ (1 : Int) = 0 by decide)], (fun _ _ q => q), Or.inr (Or.inl ⟨C.no q1, rfl, C⟩)⟩); (exact gx_code (i := 5) (k := 2) [(0, 12, 15, 43)] [] (0, 12, 19, 25) rfl (List.forall_mem_cons.mpr ⟨⟨by decide, _, wi_23 _ (List.mem_of_getElem? (i := 7) rfl), List.mem_of_getElem? (i := 10) rfl⟩, (fun _ q => absurd q List.not_mem_nil)⟩) (by decide) (by decide) (wi_8 _ (List.mem_of_getElem? (i := 18) rfl)) (List.mem_of_getElem? (i := 2) rfl) dL_line_19 (Nat.le_of_ble_eq_true rfl) rfl dL_line_21 dL_line_22 rfl ⟨(Nat.le_of_ble_eq_true rfl), (Nat.le_of_ble_eq_true rfl)⟩ ⟨2, 0, h.2, G2, B2, b, rfl, by unfold wl9; rw [if_neg (show ¬ (2 : Int) = 0 by decide)], (fun _ _ q => q), Or.inr (Or.inr ⟨C.ys q1, q3, rfl, C.fr fr⟩)⟩)) (fun r_7 h_7 hp => ?_)
  obtain ⟨q1, qw, G2, B2, rfl, rfl, fr⟩ := hp
  have q2 := C.ys q1
  have hin : ((i.toNat : Nat) : Int) = i := Int.toNat_of_nonneg q1.1.1
  rw [hin, C.cn q1.1.1 q1.1.2]
  obtain ⟨xv, hxv⟩ : ∃ xv, lnV (A 1) (fA9 (A 1) i l) (nA9 (A 1) i l) ((clS (A 1) (fA9 (A 1) i) (nA9 (A 1) i) (B 36) (A 1 (5 + i)).toNat).1 l) w = xv := ⟨_, rfl⟩
  rw [hxv]
  refine gg_i2l dL_line_10  ?_
  refine gg_last dL_line_11 (iN_in (n := 1) (by decide) (by decide) (by decide)) (HPut.mu (Eq.trans gst_24 h24)) ?_
  rw [gst_up9 (Or.inl rfl)]
  refine gg_goto (tgt := 23) dL_line_12 (by decide) ?_
  refine gi_iconst dL_line_23 ?_
  subst hQF9
  refine gg_iret dL_line_24 rfl rfl ⟨(Nat.le_of_ble_eq_true rfl), (Nat.le_of_ble_eq_true rfl)⟩ ?_
  exact ⟨0, xv, h.2, G2, B2, b, rfl, by unfold wl9; rw [if_pos (show (0 : Int) = 0 from rfl)]; rfl, (fun _ _ q => q), Or.inl ⟨q2, qw, rfl, fun F1 A1 e9 L => by rw [← hxv, lnV_D sta lna exa ⟨q2.1, q2.2.1⟩ q2.2.2 L, (clS_D (e := e9) lna ⟨q2.1, q2.2.1⟩ (sta.2.2.2.2.2.1 i q2.1 q2.2.1).2 (A 1 (5 + i)).toNat (by omega)).1 l q2.2.2.1 (by omega)], C.fr fr⟩⟩
set_option maxRecDepth 100000 in
set_option maxHeartbeats 4000000 in
theorem cw_word {Γ : GT} {h : XH} {G : Nat → Int} {B : Nat → Int → Int} {F : Nat → Int} {A : Nat → Int → Int} {b : Nat} {v : Nat → Int64} (C : CP9 h.2 G B F A b) (h24 : h.1 24 = some (lo9 v))  {i l w u : Int} (hi : InR i) (hl : InR l) (hw : InR w) (hu : InR u) : Ct Γ M_L_word [.ref (g_L Γ 30), .int (iN i), .int (iN l), .int (iN w), .int (iN u), .ref (g_L Γ 24)] (gst Γ h G B) (fun r h9 => ∃ (k x : Int) (ι' : Nat → Option XE) (G' : Nat → Int) (B' : Nat → Int → Int) (b' : Nat), r = some (.int (iN k)) ∧ h9 = gst Γ (wl9 h v k x, ι') G' B' ∧ ext h.2 ι' ∧ (((0 ≤ i ∧ i ≤ 3 ∧ 0 ≤ l ∧ l < A 1 (5 + i)) ∧ (0 ≤ u ∧ u ≤ 5) ∧ k = 0 ∧ (∀ (F1 : Nat → Int) (A1 : Nat → Int → Int), LD (A 1) i l F1 A1 →  (0 ≤ w ∧ w < F1 16) ∧ x = (if u = 0 then A1 9 w else if u = 1 then wC (fun k => A 1 (A1 8 w + k)) (A1 9 w) else if u = 2 then A1 10 w else if u = 3 then A1 12 w else if u = 4 then exO (A 1) (A 1) (A1 8 w) (A1 9 w) else tld (fun k => A1 11 (12 * w + k)) (A1 10 w).toNat)) ∧ CP9 ι' G' B' F A b') ∨ (k = 1 ∧ ((0 ≤ i ∧ i ≤ 3 ∧ 0 ≤ l ∧ l < A 1 (5 + i)) → ∀ (F1 : Nat → Int) (A1 : Nat → Int → Int), LD (A 1) i l F1 A1 →  ¬ (0 ≤ w ∧ w < F1 16)) ∧ CP9 ι' G' B' F A b') ∨ ((0 ≤ i ∧ i ≤ 3 ∧ 0 ≤ l ∧ l < A 1 (5 + i)) ∧ ¬ (0 ≤ u ∧ u ≤ 5) ∧ k = 2 ∧ (∀ (F1 : Nat → Int) (A1 : Nat → Int → Int), LD (A 1) i l F1 A1 →  (0 ≤ w ∧ w < F1 16)) ∧ CP9 ι' G' B' F A b'))) (fun _ _ => False) := by
  refine Ct.ofH rfl (by decide +kernel) (Nat.le_of_ble_eq_true rfl) ?_
  generalize hQF9 : QM Γ _ _ _ = QF9
  have hb9 : b ≤ 9 := by have := C.1.1; omega
  have hb8 := C.1.1
  have hn9 : b ≠ 9 := by omega
  have g0 := C.1.2
  obtain ⟨mq, S⟩ := C.SW
  have hmq := S.2.2.1
  have M1 := S.2.2.2.1
  have X9 := S.2.2.2.2.1
  have WR9 := C.2.2.2.2.2.1
  have H9 := C.2.2.1.his
  have LD := C.LD
  have gt := C.m.2.2.1
  have C9 := C.2.2.2.2.2.2.2.1
  obtain ⟨⟨i1, i2, i3, i4, i5⟩, ⟨e1, e2, e3⟩, p3⟩ := C.2.2.2.2.1
  have p4 : 0 ≤ G 4 ∧ G 4 ≤ 60 := by rw [i1]; exact i2
  have p5 : ∀ k, 0 ≤ k → k < G 4 → 0 ≤ B 41 k ∧ B 41 k < 65536 := by intro k k0 k1; rw [i3]; rw [i1] at k1; exact i4 k ⟨k0, k1⟩
  have sta := C.m.sta
  have lna := C.m.lna
  have exa := C.m.exa
  refine gg_aload dL_word_0 rfl rfl ?_
  refine gi_iconst dL_word_2 ?_
  refine gg_aload_n dL_word_3 rfl rfl ?_
  refine gg_iload_n dL_word_4 rfl ?_
  refine gg_iload_n dL_word_5 rfl ?_
  refine gg_iload_n dL_word_6 rfl ?_
  refine gg_iload dL_word_7 rfl ?_
  refine gc_L_71 rfl dL_word_9 ⟨(Nat.le_of_ble_eq_true rfl), (Nat.le_of_ble_eq_true rfl)⟩ ⟨(Nat.le_of_ble_eq_true rfl), (Nat.le_of_ble_eq_true rfl)⟩ (Nat.le_of_ble_eq_true rfl) (HAt.mu gst_30) (c_X9_word S LD hi hl hw hu) (fun E9 h9 hx9 => by subst hQF9; rcases hx9 with ⟨q1, rfl, rfl⟩ | ⟨q1, qw, q3, rfl, rfl⟩; (exact gx_code (i := 6) (k := 1) [] [(0, 14, 21, 25)] (0, 14, 17, 43) rfl (fun _ q => absurd q List.not_mem_nil) (by decide) (by decide) (wi_23 _ (List.mem_of_getElem? (i := 7) rfl)) (List.mem_of_getElem? (i := 3) rfl) dL_word_17 (Nat.le_of_ble_eq_true rfl) rfl dL_word_19 dL_word_20 rfl ⟨(Nat.le_of_ble_eq_true rfl), (Nat.le_of_ble_eq_true rfl)⟩ ⟨1, 0, h.2, G, B, b, rfl, by unfold wl9; rw [if_neg (show ¬ (1 : Int) = 0 by decide)], (fun _ _ q => q), Or.inr (Or.inl ⟨rfl, fun z F1 A1 L y => q1 ⟨⟨⟨z.1, z.2.1⟩, z.2.2.1, by rw [C.cn z.1 z.2.1]; exact z.2.2.2⟩, by rw [Int.toNat_of_nonneg z.1]; rw [L.2.1] at y; exact y⟩, C⟩)⟩); (exact gx_code (i := 6) (k := 2) [(0, 14, 17, 43)] [] (0, 14, 21, 25) rfl (List.forall_mem_cons.mpr ⟨⟨by decide, _, wi_23 _ (List.mem_of_getElem? (i := 7) rfl), List.mem_of_getElem? (i := 10) rfl⟩, (fun _ q => absurd q List.not_mem_nil)⟩) (by decide) (by decide) (wi_8 _ (List.mem_of_getElem? (i := 18) rfl)) (List.mem_of_getElem? (i := 2) rfl) dL_word_21 (Nat.le_of_ble_eq_true rfl) rfl dL_word_23 dL_word_24 rfl ⟨(Nat.le_of_ble_eq_true rfl), (Nat.le_of_ble_eq_true rfl)⟩ ⟨2, 0, h.2, G, B, b, rfl, by unfold wl9; rw [if_neg (show ¬ (2 : Int) = 0 by decide)], (fun _ _ q => q), Or.inr (Or.inr ⟨C.ys q1, q3, rfl, fun F1 A1 L => by rw [L.2.1]; rw [Int.toNat_of_nonneg q1.1.1] at qw; exact qw, C⟩)⟩)) (fun r_9 h_9 hp => ?_)
  obtain ⟨q1, qw, qu, rfl, rfl⟩ := hp
  have q2 := C.ys q1
  have hin : ((i.toNat : Nat) : Int) = i := Int.toNat_of_nonneg q1.1.1
  rw [hin] at qw ⊢
  obtain ⟨xv, hxv⟩ : ∃ xv, wdV (A 1) (fA9 (A 1) i l) (nA9 (A 1) i l) w u = xv := ⟨_, rfl⟩
  rw [hxv]
  refine gg_i2l dL_word_12  ?_
  refine gg_last dL_word_13 (iN_in (n := 1) (by decide) (by decide) (by decide)) (HPut.mu (Eq.trans gst_24 h24)) ?_
  rw [gst_up9 (Or.inl rfl)]
  refine gg_goto (tgt := 25) dL_word_14 (by decide) ?_
  refine gi_iconst dL_word_25 ?_
  subst hQF9
  refine gg_iret dL_word_26 rfl rfl ⟨(Nat.le_of_ble_eq_true rfl), (Nat.le_of_ble_eq_true rfl)⟩ ?_
  exact ⟨0, xv, h.2, G, B, b, rfl, by unfold wl9; rw [if_pos (show (0 : Int) = 0 from rfl)]; rfl, (fun _ _ q => q), Or.inl ⟨q2, qu, rfl, fun F1 A1 L => ⟨by rw [L.2.1]; exact qw, by rw [← hxv]; exact wdV_D sta lna exa ⟨q2.1, q2.2.1⟩ q2.2.2 L qw.1 (by rw [L.2.1]; exact qw.2)⟩, C⟩⟩
set_option maxRecDepth 100000 in
set_option maxHeartbeats 4000000 in
theorem cw_cost {Γ : GT} {h : XH} {G : Nat → Int} {B : Nat → Int → Int} {F : Nat → Int} {A : Nat → Int → Int} {b : Nat} {v : Nat → Int64} (C : CP9 h.2 G B F A b) (h24 : h.1 24 = some (lo9 v))  {i l z u : Int} (hi : InR i) (hl : InR l) (hz : InR z) (hv : u = 0 ∨ u = 1) : Ct Γ M_L_cost [.ref (g_L Γ 30), .int (iN i), .int (iN l), .int (iN z), .int (iN u), .ref (g_L Γ 24)] (gst Γ h G B) (fun r h9 => ∃ (k x : Int) (ι' : Nat → Option XE) (G' : Nat → Int) (B' : Nat → Int → Int) (b' : Nat), r = some (.int (iN k)) ∧ h9 = gst Γ (wl9 h v k x, ι') G' B' ∧ ext h.2 ι' ∧ (((0 ≤ i ∧ i ≤ 3 ∧ 0 ≤ l ∧ l < A 1 (5 + i)) ∧ k = 0 ∧ (∀ (F1 : Nat → Int) (A1 : Nat → Int → Int), LD (A 1) i l F1 A1 →  are F1 A1 z = true ∧ 0 ≤ cst (A 1 0) (A 1 1) (A 1 2) (sA A1 z (s0 A1) (F1 16).toNat) z u ∧ x = cst (A 1 0) (A 1 1) (A 1 2) (sA A1 z (s0 A1) (F1 16).toNat) z u) ∧ CP9 ι' G' B' F A b') ∨ (¬ (0 ≤ i ∧ i ≤ 3 ∧ 0 ≤ l ∧ l < A 1 (5 + i)) ∧ k = 1 ∧ CP9 ι' G' B' F A b') ∨ ((0 ≤ i ∧ i ≤ 3 ∧ 0 ≤ l ∧ l < A 1 (5 + i)) ∧ k = 2 ∧ (∀ (F1 : Nat → Int) (A1 : Nat → Int → Int), LD (A 1) i l F1 A1 →  are F1 A1 z = false) ∧ CP9 ι' G' B' F A b') ∨ ((0 ≤ i ∧ i ≤ 3 ∧ 0 ≤ l ∧ l < A 1 (5 + i)) ∧ k = 3 ∧ (∀ (F1 : Nat → Int) (A1 : Nat → Int → Int), LD (A 1) i l F1 A1 →  are F1 A1 z = true ∧ cst (A 1 0) (A 1 1) (A 1 2) (sA A1 z (s0 A1) (F1 16).toNat) z u < 0) ∧ CP9 ι' G' B' F A b'))) (fun _ _ => False) := by
  refine Ct.ofH rfl (by decide +kernel) (Nat.le_of_ble_eq_true rfl) ?_
  generalize hQF9 : QM Γ _ _ _ = QF9
  have hb9 : b ≤ 9 := by have := C.1.1; omega
  have hb8 := C.1.1
  have hn9 : b ≠ 9 := by omega
  have g0 := C.1.2
  obtain ⟨mq, S⟩ := C.SW
  have hmq := S.2.2.1
  have M1 := S.2.2.2.1
  have X9 := S.2.2.2.2.1
  have WR9 := C.2.2.2.2.2.1
  have H9 := C.2.2.1.his
  have LD := C.LD
  have gt := C.m.2.2.1
  have C9 := C.2.2.2.2.2.2.2.1
  obtain ⟨⟨i1, i2, i3, i4, i5⟩, ⟨e1, e2, e3⟩, p3⟩ := C.2.2.2.2.1
  have p4 : 0 ≤ G 4 ∧ G 4 ≤ 60 := by rw [i1]; exact i2
  have p5 : ∀ k, 0 ≤ k → k < G 4 → 0 ≤ B 41 k ∧ B 41 k < 65536 := by intro k k0 k1; rw [i3]; rw [i1] at k1; exact i4 k ⟨k0, k1⟩
  have sta := C.m.sta
  have lna := C.m.lna
  have exa := C.m.exa
  refine gg_aload dL_cost_0 rfl rfl ?_
  refine gi_iconst dL_cost_2 ?_
  refine gg_aload_n dL_cost_3 rfl rfl ?_
  refine gg_iload_n dL_cost_4 rfl ?_
  refine gg_iload_n dL_cost_5 rfl ?_
  refine gg_iload_n dL_cost_6 rfl ?_
  refine gg_iload dL_cost_7 rfl ?_
  refine gc_L_81 rfl dL_cost_9 ⟨(Nat.le_of_ble_eq_true rfl), (Nat.le_of_ble_eq_true rfl)⟩ ⟨(Nat.le_of_ble_eq_true rfl), (Nat.le_of_ble_eq_true rfl)⟩ (Nat.le_of_ble_eq_true rfl) (HAt.mu gst_30) (c_X9_cost S LD hi hl hz hv) (fun E9 h9 hx9 => by subst hQF9; rcases hx9 with ⟨q1, rfl, rfl⟩ | ⟨q1, ⟨qa, rfl⟩ | ⟨qa, qp, rfl⟩, G2, B2, rfl, fr⟩; (exact gx_code (i := 6) (k := 1) [] [(0, 14, 21, 25), (0, 14, 25, 19)] (0, 14, 17, 43) rfl (fun _ q => absurd q List.not_mem_nil) (by decide) (by decide) (wi_23 _ (List.mem_of_getElem? (i := 7) rfl)) (List.mem_of_getElem? (i := 3) rfl) dL_cost_17 (Nat.le_of_ble_eq_true rfl) rfl dL_cost_19 dL_cost_20 rfl ⟨(Nat.le_of_ble_eq_true rfl), (Nat.le_of_ble_eq_true rfl)⟩ ⟨1, 0, h.2, G, B, b, rfl, by unfold wl9; rw [if_neg (show ¬ (1 : Int) = 0 by decide)], (fun _ _ q => q), Or.inr (Or.inl ⟨C.no q1, rfl, C⟩)⟩); (have q2 := C.ys q1; rw [Int.toNat_of_nonneg q1.1.1] at qa; exact gx_code (i := 6) (k := 2) [(0, 14, 17, 43)] [(0, 14, 25, 19)] (0, 14, 21, 25) rfl (List.forall_mem_cons.mpr ⟨⟨by decide, _, wi_23 _ (List.mem_of_getElem? (i := 7) rfl), List.mem_of_getElem? (i := 10) rfl⟩, (fun _ q => absurd q List.not_mem_nil)⟩) (by decide) (by decide) (wi_8 _ (List.mem_of_getElem? (i := 18) rfl)) (List.mem_of_getElem? (i := 2) rfl) dL_cost_21 (Nat.le_of_ble_eq_true rfl) rfl dL_cost_23 dL_cost_24 rfl ⟨(Nat.le_of_ble_eq_true rfl), (Nat.le_of_ble_eq_true rfl)⟩ ⟨2, 0, h.2, G2, B2, b, rfl, by unfold wl9; rw [if_neg (show ¬ (2 : Int) = 0 by decide)], (fun _ _ q => q), Or.inr (Or.inr (Or.inl ⟨q2, rfl, fun F1 A1 L => (show are F1 A1 z = false by rw [← alS_D (LK_LD (kd := A 1 0) (ft := A 1 1) (c9 := A 1 2) sta lna exa ⟨(q2).1, (q2).2.1⟩ (q2).2.2 L)]; exact qa), C.fr fr.w⟩))⟩); (have q2 := C.ys q1; rw [Int.toNat_of_nonneg q1.1.1] at qa qp; exact gx_code (i := 6) (k := 3) [(0, 14, 17, 43), (0, 14, 21, 25)] [] (0, 14, 25, 19) rfl (List.forall_mem_cons.mpr ⟨⟨by decide, _, wi_23 _ (List.mem_of_getElem? (i := 7) rfl), List.mem_of_getElem? (i := 6) rfl⟩, (List.forall_mem_cons.mpr ⟨⟨by decide, _, wi_8 _ (List.mem_of_getElem? (i := 18) rfl), List.mem_of_getElem? (i := 5) rfl⟩, (fun _ q => absurd q List.not_mem_nil)⟩)⟩) (by decide) (by decide) (wi_8 _ (List.mem_of_getElem? (i := 3) rfl)) (List.mem_of_getElem? (i := 1) rfl) dL_cost_25 (Nat.le_of_ble_eq_true rfl) rfl dL_cost_27 dL_cost_28 rfl ⟨(Nat.le_of_ble_eq_true rfl), (Nat.le_of_ble_eq_true rfl)⟩ ⟨3, 0, h.2, G2, B2, b, rfl, by unfold wl9; rw [if_neg (show ¬ (3 : Int) = 0 by decide)], (fun _ _ q => q), Or.inr (Or.inr (Or.inr ⟨q2, rfl, fun F1 A1 L => ⟨(show are F1 A1 z = true by rw [← alS_D (LK_LD (kd := A 1 0) (ft := A 1 1) (c9 := A 1 2) sta lna exa ⟨(q2).1, (q2).2.1⟩ (q2).2.2 L)]; exact qa), by have e := cost_D (LK_LD (kd := A 1 0) (ft := A 1 1) (c9 := A 1 2) sta lna exa ⟨(q2).1, (q2).2.1⟩ (q2).2.2 L) (MtK_c ⟨sta.1, sta.2.1, sta.2.2.1⟩) hv qa; have e2 : (-1 : Int) = cst (A 1 0) (A 1 1) (A 1 2) (sA A1 z (s0 A1) (F1 16).toNat) z u := (by rw [← qp]; exact e); omega⟩, C.fr fr.w⟩))⟩)) (fun r_9 h_9 hp => ?_)
  obtain ⟨q1, qa, qp, G2, B2, rfl, rfl, fr⟩ := hp
  have q2 := C.ys q1
  have hin : ((i.toNat : Nat) : Int) = i := Int.toNat_of_nonneg q1.1.1
  rw [hin] at qa qp ⊢
  have ok := dtA_ok (kd := A 1 0) (ft := A 1 1) (c9 := A 1 2) X9 (Classical.choose_spec ((LD i.toNat (by omega)).2 l q1.2.1 q1.2.2)).2
  rw [hin] at ok
  have pr := prE_r9 (D := (dtA (A 1) (fA9 (A 1) i l) (nA9 (A 1) i l) (A 1 0) (A 1 1) (A 1 2))) (i := u) (z := z) ok.1 ok.2
  obtain ⟨xv, hxv⟩ : ∃ xv, prE (dtA (A 1) (fA9 (A 1) i l) (nA9 (A 1) i l) (A 1 0) (A 1 1) (A 1 2)) u z = xv := ⟨_, rfl⟩
  rw [hxv]
  rw [hxv] at qp pr
  refine gg_i2l dL_cost_12  ?_
  refine gg_last dL_cost_13 (iN_in (n := 1) (by decide) (by decide) (by decide)) (HPut.mu (Eq.trans gst_24 h24)) ?_
  rw [gst_up9 (Or.inl rfl)]
  refine gg_goto (tgt := 29) dL_cost_14 (by decide) ?_
  refine gi_iconst dL_cost_29 ?_
  subst hQF9
  refine gg_iret dL_cost_30 rfl rfl ⟨(Nat.le_of_ble_eq_true rfl), (Nat.le_of_ble_eq_true rfl)⟩ ?_
  exact ⟨0, xv, h.2, G2, B2, b, rfl, by unfold wl9; rw [if_pos (show (0 : Int) = 0 from rfl)]; rfl, (fun _ _ q => q), Or.inl ⟨q2, rfl, fun F1 A1 L => by
    have e := cost_D (LK_LD (kd := A 1 0) (ft := A 1 1) (c9 := A 1 2) sta lna exa ⟨(q2).1, (q2).2.1⟩ (q2).2.2 L) (MtK_c ⟨sta.1, sta.2.1, sta.2.2.1⟩) hv qa
    have e2 : xv = cst (A 1 0) (A 1 1) (A 1 2) (sA A1 z (s0 A1) (F1 16).toNat) z u := by rw [← hxv]; exact e
    exact ⟨(show are F1 A1 z = true by rw [← alS_D (LK_LD (kd := A 1 0) (ft := A 1 1) (c9 := A 1 2) sta lna exa ⟨(q2).1, (q2).2.1⟩ (q2).2.2 L)]; exact qa), by rw [← e2]; omega, e2⟩, C.fr fr.w⟩⟩
