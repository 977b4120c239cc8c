/-! the law: its helpers, 1 -/
set_option maxRecDepth 100000 in
set_option maxHeartbeats 4000000 in
theorem cw_feed {Γ : GT} {h : XH} {G : Nat → Int} {B : Nat → Int → Int} {F : Nat → Int} {A : Nat → Int → Int} {b : Nat} {v : Nat → Int64} (C : CP9 h.2 G B F A b) (h24 : h.1 24 = some (lo9 v)) {c : Int} (hc : 0 ≤ c ∧ c < 65536) : Ct Γ M_L_feed [.ref (g_L Γ 30), .int (iN c), .ref (g_L Γ 24)] (gst Γ h G B) (fun r h9 => ∃ (k x : Int) (ι' : Nat → Option XE) (G' : Nat → Int) (B' : Nat → Int → Int) (b' : Nat), r = some (.int (iN k)) ∧ h9 = gst Γ (wl9 h v k x, ι') G' B' ∧ ext h.2 ι' ∧ ((F 8 < 60 ∧ k = 0 ∧ x = F 8 + 1 ∧ CP9 ι' G' B' (uF F 8 (F 8 + 1)) (uA A 5 (up (A 5) (F 8) c)) b') ∨ (F 8 = 60 ∧ k = 1 ∧ CP9 ι' G' B' F A b'))) (fun _ _ => False) := by
  refine Ct.ofH rfl (by decide +kernel) (Nat.le_of_ble_eq_true rfl) ?_
  generalize hQF9 : QM Γ _ _ _ = QF9
  have hb9 : b ≤ 9 := by have := C.1.1; omega
  have hb8 := C.1.1
  have hn9 : b ≠ 9 := by omega
  have g0 := C.1.2
  obtain ⟨mq, S⟩ := C.SW
  have hmq := S.2.2.1
  have M1 := S.2.2.2.1
  have X9 := S.2.2.2.2.1
  have WR9 := C.2.2.2.2.2.1
  have H9 := C.2.2.1.his
  have LD := C.LD
  have gt := C.m.2.2.1
  have C9 := C.2.2.2.2.2.2.2.1
  obtain ⟨⟨i1, i2, i3, i4, i5⟩, ⟨e1, e2, e3⟩, p3⟩ := C.2.2.2.2.1
  have p4 : 0 ≤ G 4 ∧ G 4 ≤ 60 := by rw [i1]; exact i2
  have p5 : ∀ k, 0 ≤ k → k < G 4 → 0 ≤ B 41 k ∧ B 41 k < 65536 := by intro k k0 k1; rw [i3]; rw [i1] at k1; exact i4 k ⟨k0, k1⟩
  have sta := C.m.sta
  have lna := C.m.lna
  have exa := C.m.exa
  refine gg_aload_n dL_feed_0 rfl rfl ?_
  refine gi_iconst dL_feed_1 ?_
  refine gg_aload_n dL_feed_2 rfl rfl ?_
  refine gg_iload_n dL_feed_3 rfl ?_
  refine gc_L_7 rfl dL_feed_4 ⟨(Nat.le_of_ble_eq_true rfl), (Nat.le_of_ble_eq_true rfl)⟩ ⟨(Nat.le_of_ble_eq_true rfl), (Nat.le_of_ble_eq_true rfl)⟩ (Nat.le_of_ble_eq_true rfl) (HAt.mu gst_30) (c_X9_feed p4 p3 p5 hc) (fun E9 h9 hx9 => by subst hQF9; obtain ⟨q1, rfl, rfl⟩ := hx9; exact gx_code_n (k9 := 3) (k := 1) [] [] (0, 9, 12, 13) rfl (fun _ q => absurd q List.not_mem_nil) (by decide) (by decide) (wi_7 _ (List.mem_of_getElem? (i := 0) rfl)) (List.mem_of_getElem? (i := 0) rfl) dL_feed_12 (Nat.le_of_ble_eq_true rfl) rfl dL_feed_13 dL_feed_14 rfl ⟨(Nat.le_of_ble_eq_true rfl), (Nat.le_of_ble_eq_true rfl)⟩ ⟨1, 0, h.2, G, B, b, rfl, by unfold wl9; rw [if_neg (show ¬ (1 : Int) = 0 by decide)], (fun _ _ q => q), Or.inr ⟨by omega, rfl, C⟩⟩) (fun r_4 h_4 hp => ?_)
  obtain ⟨q1, rfl, rfl⟩ := hp
  rw [i1, i3]
  refine gg_i2l dL_feed_7  ?_
  refine gg_last dL_feed_8 (iN_in (n := 1) (by decide) (by decide) (by decide)) (HPut.mu (Eq.trans gst_24 h24)) ?_
  rw [gst_up9 (Or.inl rfl)]
  refine gg_goto (tgt := 15) dL_feed_9 (by decide) ?_
  refine gi_iconst dL_feed_15 ?_
  subst hQF9
  refine gg_iret dL_feed_16 rfl rfl ⟨(Nat.le_of_ble_eq_true rfl), (Nat.le_of_ble_eq_true rfl)⟩ ?_
  exact ⟨0, F 8 + 1, h.2, _, _, b, rfl, by unfold wl9; rw [if_pos (show (0 : Int) = 0 from rfl)]; rfl, (fun _ _ q => q), Or.inl ⟨by omega, rfl, rfl, by rw [← i3]; exact i3 ▸ (K_feed C (by omega) hc (by rw [uF_n (by decide)]) (by rw [uF_n (by decide)]) uF_s (by rw [uF_n (by decide)]) (by rw [uF_n (by decide)]))⟩⟩
set_option maxRecDepth 100000 in
set_option maxHeartbeats 4000000 in
theorem cw_errorPosition {Γ : GT} {h : XH} {G : Nat → Int} {B : Nat → Int → Int} {F : Nat → Int} {A : Nat → Int → Int} {b : Nat} {v : Nat → Int64} (C : CP9 h.2 G B F A b) (h24 : h.1 24 = some (lo9 v))  : Ct Γ M_L_errorPosition [.ref (g_L Γ 30), .ref (g_L Γ 24)] (gst Γ h G B) (fun r h9 => ∃ (k x : Int) (ι' : Nat → Option XE) (G' : Nat → Int) (B' : Nat → Int → Int) (b' : Nat), r = some (.int (iN k)) ∧ h9 = gst Γ (wl9 h v k x, ι') G' B' ∧ ext h.2 ι' ∧ ((0 ≤ F 10 ∧ k = 0 ∧ x = F 10 ∧ CP9 ι' G' B' F A b') ∨ (F 10 < 0 ∧ k = 1 ∧ CP9 ι' G' B' F A b'))) (fun _ _ => False) := by
  refine Ct.ofH rfl (by decide +kernel) (Nat.le_of_ble_eq_true rfl) ?_
  generalize hQF9 : QM Γ _ _ _ = QF9
  have hb9 : b ≤ 9 := by have := C.1.1; omega
  have hb8 := C.1.1
  have hn9 : b ≠ 9 := by omega
  have g0 := C.1.2
  obtain ⟨mq, S⟩ := C.SW
  have hmq := S.2.2.1
  have M1 := S.2.2.2.1
  have X9 := S.2.2.2.2.1
  have WR9 := C.2.2.2.2.2.1
  have H9 := C.2.2.1.his
  have LD := C.LD
  have gt := C.m.2.2.1
  have C9 := C.2.2.2.2.2.2.2.1
  obtain ⟨⟨i1, i2, i3, i4, i5⟩, ⟨e1, e2, e3⟩, p3⟩ := C.2.2.2.2.1
  have p4 : 0 ≤ G 4 ∧ G 4 ≤ 60 := by rw [i1]; exact i2
  have p5 : ∀ k, 0 ≤ k → k < G 4 → 0 ≤ B 41 k ∧ B 41 k < 65536 := by intro k k0 k1; rw [i3]; rw [i1] at k1; exact i4 k ⟨k0, k1⟩
  have sta := C.m.sta
  have lna := C.m.lna
  have exa := C.m.exa
  refine gg_aload_n dL_errorPosition_0 rfl rfl ?_
  refine gi_iconst dL_errorPosition_1 ?_
  refine gg_aload_n dL_errorPosition_2 rfl rfl ?_
  refine gc_L_15 rfl dL_errorPosition_3 ⟨(Nat.le_of_ble_eq_true rfl), (Nat.le_of_ble_eq_true rfl)⟩ ⟨(Nat.le_of_ble_eq_true rfl), (Nat.le_of_ble_eq_true rfl)⟩ (Nat.le_of_ble_eq_true rfl) (HAt.mu gst_30) (c_X9_errorPosition (by rw [e1]; exact ⟨by omega, by omega⟩)) (fun E9 h9 hx9 => by subst hQF9; obtain ⟨q1, rfl, rfl⟩ := hx9; exact gx_code_n (k9 := 2) (k := 1) [] [] (0, 8, 11, 19) rfl (fun _ q => absurd q List.not_mem_nil) (by decide) (by decide) (wi_8 _ (List.mem_of_getElem? (i := 3) rfl)) (List.mem_of_getElem? (i := 1) rfl) dL_errorPosition_11 (Nat.le_of_ble_eq_true rfl) rfl dL_errorPosition_12 dL_errorPosition_13 rfl ⟨(Nat.le_of_ble_eq_true rfl), (Nat.le_of_ble_eq_true rfl)⟩ ⟨1, 0, h.2, G, B, b, rfl, by unfold wl9; rw [if_neg (show ¬ (1 : Int) = 0 by decide)], (fun _ _ q => q), Or.inr ⟨by omega, rfl, C⟩⟩) (fun r_3 h_3 hp => ?_)
  obtain ⟨q1, rfl, rfl⟩ := hp
  rw [e1]
  refine gg_i2l dL_errorPosition_6  ?_
  refine gg_last dL_errorPosition_7 (iN_in (n := 1) (by decide) (by decide) (by decide)) (HPut.mu (Eq.trans gst_24 h24)) ?_
  rw [gst_up9 (Or.inl rfl)]
  refine gg_goto (tgt := 14) dL_errorPosition_8 (by decide) ?_
  refine gi_iconst dL_errorPosition_14 ?_
  subst hQF9
  refine gg_iret dL_errorPosition_15 rfl rfl ⟨(Nat.le_of_ble_eq_true rfl), (Nat.le_of_ble_eq_true rfl)⟩ ?_
  exact ⟨0, F 10, h.2, G, B, b, rfl, by unfold wl9; rw [if_pos (show (0 : Int) = 0 from rfl)]; rfl, (fun _ _ q => q), Or.inl ⟨by omega, rfl, rfl, C⟩⟩
set_option maxRecDepth 100000 in
set_option maxHeartbeats 4000000 in
theorem cw_setMetre {Γ : GT} {h : XH} {G : Nat → Int} {B : Nat → Int → Int} {F : Nat → Int} {A : Nat → Int → Int} {b : Nat} {v : Nat → Int64} (C : CP9 h.2 G B F A b) (h24 : h.1 24 = some (lo9 v)) {x9 y9 z9 : Int} (hx : InR x9) (hy : InR y9) (hz : InR z9) : Ct Γ M_L_setMetre [.ref (g_L Γ 30), .int (iN x9), .int (iN y9), .int (iN z9), .ref (g_L Γ 24)] (gst Γ h G B) (fun r h9 => ∃ (k x : Int) (ι' : Nat → Option XE) (G' : Nat → Int) (B' : Nat → Int → Int) (b' : Nat), r = some (.int (iN k)) ∧ h9 = gst Γ (wl9 h v k x, ι') G' B' ∧ ext h.2 ι' ∧ (((0 ≤ x9 ∧ x9 ≤ 3 ∧ 2 ≤ y9 ∧ y9 ≤ 6 ∧ 0 ≤ z9 ∧ z9 ≤ y9 - 1) ∧ k = 0 ∧ x = 100 * A 1 0 + 10 * A 1 1 + A 1 2 ∧ CP9 ι' G' B' (uF F 5 (kc (F 5))) (uA (uA A 1 (up (up (up (A 1) 0 x9) 1 y9) 2 z9)) 4 (kA A (F 5))) b') ∨ (¬ (0 ≤ x9 ∧ x9 ≤ 3 ∧ 2 ≤ y9 ∧ y9 ≤ 6 ∧ 0 ≤ z9 ∧ z9 ≤ y9 - 1) ∧ k = 1 ∧ CP9 ι' G' B' F A b'))) (fun _ _ => False) := by
  refine Ct.ofH rfl (by decide +kernel) (Nat.le_of_ble_eq_true rfl) ?_
  generalize hQF9 : QM Γ _ _ _ = QF9
  have hb9 : b ≤ 9 := by have := C.1.1; omega
  have hb8 := C.1.1
  have hn9 : b ≠ 9 := by omega
  have g0 := C.1.2
  obtain ⟨mq, S⟩ := C.SW
  have hmq := S.2.2.1
  have M1 := S.2.2.2.1
  have X9 := S.2.2.2.2.1
  have WR9 := C.2.2.2.2.2.1
  have H9 := C.2.2.1.his
  have LD := C.LD
  have gt := C.m.2.2.1
  have C9 := C.2.2.2.2.2.2.2.1
  obtain ⟨⟨i1, i2, i3, i4, i5⟩, ⟨e1, e2, e3⟩, p3⟩ := C.2.2.2.2.1
  have p4 : 0 ≤ G 4 ∧ G 4 ≤ 60 := by rw [i1]; exact i2
  have p5 : ∀ k, 0 ≤ k → k < G 4 → 0 ≤ B 41 k ∧ B 41 k < 65536 := by intro k k0 k1; rw [i3]; rw [i1] at k1; exact i4 k ⟨k0, k1⟩
  have sta := C.m.sta
  have lna := C.m.lna
  have exa := C.m.exa
  refine gg_aload dL_setMetre_0 rfl rfl ?_
  refine gi_iconst dL_setMetre_2 ?_
  refine gg_aload_n dL_setMetre_3 rfl rfl ?_
  refine gg_iload_n dL_setMetre_4 rfl ?_
  refine gg_iload_n dL_setMetre_5 rfl ?_
  refine gg_iload_n dL_setMetre_6 rfl ?_
  refine gc_L_21 rfl dL_setMetre_7 ⟨(Nat.le_of_ble_eq_true rfl), (Nat.le_of_ble_eq_true rfl)⟩ ⟨(Nat.le_of_ble_eq_true rfl), (Nat.le_of_ble_eq_true rfl)⟩ (Nat.le_of_ble_eq_true rfl) (HAt.mu gst_30) (c_X9_setMetre hb9 g0 hmq WR9 H9 M1 hx hy hz) (fun E9 h9 hx9 => by subst hQF9; obtain ⟨q1, rfl, rfl⟩ := hx9; exact gx_code (i := 5) (k := 1) [] [] (0, 12, 15, 25) rfl (fun _ q => absurd q List.not_mem_nil) (by decide) (by decide) (wi_8 _ (List.mem_of_getElem? (i := 18) rfl)) (List.mem_of_getElem? (i := 2) rfl) dL_setMetre_15 (Nat.le_of_ble_eq_true rfl) rfl dL_setMetre_17 dL_setMetre_18 rfl ⟨(Nat.le_of_ble_eq_true rfl), (Nat.le_of_ble_eq_true rfl)⟩ ⟨1, 0, h.2, G, B, b, rfl, by unfold wl9; rw [if_neg (show ¬ (1 : Int) = 0 by decide)], (fun _ _ q => q), Or.inr ⟨q1, rfl, C⟩⟩) (fun r_7 h_7 hp => ?_)
  obtain ⟨q1, rfl, ι', q, hX, M2, rfl⟩ := hp
  refine gg_i2l dL_setMetre_10  ?_
  refine gg_last dL_setMetre_11 (iN_in (n := 1) (by decide) (by decide) (by decide)) (HPut.mu (Eq.trans gst_24 h24)) ?_
  rw [gst_up9 (Or.inl rfl)]
  refine gg_goto (tgt := 19) dL_setMetre_12 (by decide) ?_
  refine gi_iconst dL_setMetre_19 ?_
  subst hQF9
  refine gg_iret dL_setMetre_20 rfl rfl ⟨(Nat.le_of_ble_eq_true rfl), (Nat.le_of_ble_eq_true rfl)⟩ ?_
  exact ⟨0, _, ι', _, _, b, rfl, by unfold wl9; rw [if_pos (show (0 : Int) = 0 from rfl)]; rfl, hX, Or.inl ⟨q1, rfl, rfl, K_setMetre C hX M2 (by simp only [uF_s, uF_n, ne_eq, Nat.reduceEqDiff, not_false_eq_true]) (by simp only [uF_s, uF_n, ne_eq, Nat.reduceEqDiff, not_false_eq_true]) (by simp only [uF_s, uF_n, ne_eq, Nat.reduceEqDiff, not_false_eq_true]) (by simp only [uF_s, uF_n, ne_eq, Nat.reduceEqDiff, not_false_eq_true]) (by simp only [uF_s, uF_n, ne_eq, Nat.reduceEqDiff, not_false_eq_true])⟩⟩
set_option maxRecDepth 100000 in
set_option maxHeartbeats 4000000 in
theorem cw_readMetre {Γ : GT} {h : XH} {G : Nat → Int} {B : Nat → Int → Int} {F : Nat → Int} {A : Nat → Int → Int} {b : Nat} {v : Nat → Int64} (C : CP9 h.2 G B F A b) (h24 : h.1 24 = some (lo9 v))  : Ct Γ M_L_readMetre [.ref (g_L Γ 30), .ref (g_L Γ 24)] (gst Γ h G B) (fun r h9 => ∃ (k x : Int) (ι' : Nat → Option XE) (G' : Nat → Int) (B' : Nat → Int → Int) (b' : Nat), r = some (.int (iN k)) ∧ h9 = gst Γ (wl9 h v k x, ι') G' B' ∧ ext h.2 ι' ∧ (((pMt (A 5) (F 8)).1 = true ∧ k = 0 ∧ x = (pMt (A 5) (F 8)).2.2.2.1 * szk (pMt (A 5) (F 8)).2.2.1 ∧ CP9 ι' G' B' (uF (uF F 8 0) 5 (kc (F 5))) (uA (uA A 1 (up (up (up (A 1) 0 (pMt (A 5) (F 8)).2.2.1) 1 (pMt (A 5) (F 8)).2.2.2.1) 2 (pMt (A 5) (F 8)).2.2.2.2)) 4 (kA A (F 5))) b') ∨ ((pMt (A 5) (F 8)).1 = false ∧ k = 1 ∧ CP9 ι' G' B' (uF (uF F 8 0) 10 (pMt (A 5) (F 8)).2.1) A b'))) (fun _ _ => False) := by
  refine Ct.ofH rfl (by decide +kernel) (Nat.le_of_ble_eq_true rfl) ?_
  generalize hQF9 : QM Γ _ _ _ = QF9
  have hb9 : b ≤ 9 := by have := C.1.1; omega
  have hb8 := C.1.1
  have hn9 : b ≠ 9 := by omega
  have g0 := C.1.2
  obtain ⟨mq, S⟩ := C.SW
  have hmq := S.2.2.1
  have M1 := S.2.2.2.1
  have X9 := S.2.2.2.2.1
  have WR9 := C.2.2.2.2.2.1
  have H9 := C.2.2.1.his
  have LD := C.LD
  have gt := C.m.2.2.1
  have C9 := C.2.2.2.2.2.2.2.1
  obtain ⟨⟨i1, i2, i3, i4, i5⟩, ⟨e1, e2, e3⟩, p3⟩ := C.2.2.2.2.1
  have p4 : 0 ≤ G 4 ∧ G 4 ≤ 60 := by rw [i1]; exact i2
  have p5 : ∀ k, 0 ≤ k → k < G 4 → 0 ≤ B 41 k ∧ B 41 k < 65536 := by intro k k0 k1; rw [i3]; rw [i1] at k1; exact i4 k ⟨k0, k1⟩
  have sta := C.m.sta
  have lna := C.m.lna
  have exa := C.m.exa
  have pr : 0 ≤ (pMt (A 5) (F 8)).2.1 ∧ (pMt (A 5) (F 8)).2.1 ≤ 60 := by have := pMt_r (f := A 5) (n := F 8) (by omega); omega
  refine gg_aload_n dL_readMetre_0 rfl rfl ?_
  refine gi_iconst dL_readMetre_1 ?_
  refine gg_aload_n dL_readMetre_2 rfl rfl ?_
  refine gc_L_27 rfl dL_readMetre_3 ⟨(Nat.le_of_ble_eq_true rfl), (Nat.le_of_ble_eq_true rfl)⟩ ⟨(Nat.le_of_ble_eq_true rfl), (Nat.le_of_ble_eq_true rfl)⟩ (Nat.le_of_ble_eq_true rfl) (HAt.mu gst_30) (c_X9_readMetre hb9 g0 hmq WR9 H9 p4 p5) (fun E9 h9 hx9 => by subst hQF9; rw [i1, i3] at hx9; obtain ⟨q1, rfl, ι', hX, rfl⟩ := hx9; exact gx_code_n (k9 := 2) (k := 1) [] [] (0, 8, 11, 25) rfl (fun _ q => absurd q List.not_mem_nil) (by decide) (by decide) (wi_8 _ (List.mem_of_getElem? (i := 18) rfl)) (List.mem_of_getElem? (i := 2) rfl) dL_readMetre_11 (Nat.le_of_ble_eq_true rfl) rfl dL_readMetre_12 dL_readMetre_13 rfl ⟨(Nat.le_of_ble_eq_true rfl), (Nat.le_of_ble_eq_true rfl)⟩ ⟨1, 0, ι', _, _, b, rfl, by unfold wl9; rw [if_neg (show ¬ (1 : Int) = 0 by decide)], hX, Or.inr ⟨q1, rfl, CP9.tk C hX (fun _ _ _ => rfl) pr (by rw [uF_n (by decide), uF_n (by decide)]) (by rw [uF_n (by decide), uF_n (by decide)]) (by rw [uF_n (by decide), uF_s]) (by rw [uF_s, if_neg (by rw [q1]; decide)]) (by rw [uF_n (by decide), uF_n (by decide)])⟩⟩) (fun r_3 h_3 hp => ?_)
  rw [i1, i3] at hp
  obtain ⟨q1, ι', q, hX, M2, rfl, rfl⟩ := hp
  have C1 : CP9 ι' (tkG G ((pMt (A 5) (F 8)).1 = true) (pMt (A 5) (F 8)).2.1) B (uF F 8 0) A b := CP9.tk C hX (fun _ _ _ => rfl) pr (by simp only [uF_s, uF_n, ne_eq, Nat.reduceEqDiff, not_false_eq_true]) (by simp only [uF_s, uF_n, ne_eq, Nat.reduceEqDiff, not_false_eq_true]) (by simp only [uF_s, uF_n, ne_eq, Nat.reduceEqDiff, not_false_eq_true]) (by rw [if_pos q1]; simp only [uF_s, uF_n, ne_eq, Nat.reduceEqDiff, not_false_eq_true]) (by simp only [uF_s, uF_n, ne_eq, Nat.reduceEqDiff, not_false_eq_true])
  refine gg_i2l dL_readMetre_6  ?_
  refine gg_last dL_readMetre_7 (iN_in (n := 1) (by decide) (by decide) (by decide)) (HPut.mu (Eq.trans gst_24 h24)) ?_
  rw [gst_up9 (Or.inl rfl)]
  refine gg_goto (tgt := 14) dL_readMetre_8 (by decide) ?_
  refine gi_iconst dL_readMetre_14 ?_
  subst hQF9
  refine gg_iret dL_readMetre_15 rfl rfl ⟨(Nat.le_of_ble_eq_true rfl), (Nat.le_of_ble_eq_true rfl)⟩ ?_
  exact ⟨0, _, ι', _, _, b, rfl, by unfold wl9; rw [if_pos (show (0 : Int) = 0 from rfl)]; rfl, hX, Or.inl ⟨q1, rfl, rfl, K_setMetre (F := uF F 8 0) C1 (fun _ _ q => q) M2 (by simp only [uF_s, uF_n, ne_eq, Nat.reduceEqDiff, not_false_eq_true]) (by simp only [uF_s, uF_n, ne_eq, Nat.reduceEqDiff, not_false_eq_true]) (by simp only [uF_s, uF_n, ne_eq, Nat.reduceEqDiff, not_false_eq_true]) (by simp only [uF_s, uF_n, ne_eq, Nat.reduceEqDiff, not_false_eq_true]) (by simp only [uF_s, uF_n, ne_eq, Nat.reduceEqDiff, not_false_eq_true])⟩⟩
set_option maxRecDepth 100000 in
set_option maxHeartbeats 4000000 in
theorem cw_metre {Γ : GT} {h : XH} {G : Nat → Int} {B : Nat → Int → Int} {F : Nat → Int} {A : Nat → Int → Int} {b : Nat} {v : Nat → Int64} (C : CP9 h.2 G B F A b) (h24 : h.1 24 = some (lo9 v)) {w : Int} (hw : InR w) : Ct Γ M_L_metre [.ref (g_L Γ 30), .int (iN w), .ref (g_L Γ 24)] (gst Γ h G B) (fun r h9 => ∃ (k x : Int) (ι' : Nat → Option XE) (G' : Nat → Int) (B' : Nat → Int → Int) (b' : Nat), r = some (.int (iN k)) ∧ h9 = gst Γ (wl9 h v k x, ι') G' B' ∧ ext h.2 ι' ∧ (((0 ≤ w ∧ w ≤ 4) ∧ k = 0 ∧ x = mtV (A 1 0) (A 1 1) (A 1 2) w ∧ CP9 ι' G' B' F A b') ∨ (¬ (0 ≤ w ∧ w ≤ 4) ∧ k = 1 ∧ CP9 ι' G' B' F A b'))) (fun _ _ => False) := by
  refine Ct.ofH rfl (by decide +kernel) (Nat.le_of_ble_eq_true rfl) ?_
  generalize hQF9 : QM Γ _ _ _ = QF9
  have hb9 : b ≤ 9 := by have := C.1.1; omega
  have hb8 := C.1.1
  have hn9 : b ≠ 9 := by omega
  have g0 := C.1.2
  obtain ⟨mq, S⟩ := C.SW
  have hmq := S.2.2.1
  have M1 := S.2.2.2.1
  have X9 := S.2.2.2.2.1
  have WR9 := C.2.2.2.2.2.1
  have H9 := C.2.2.1.his
  have LD := C.LD
  have gt := C.m.2.2.1
  have C9 := C.2.2.2.2.2.2.2.1
  obtain ⟨⟨i1, i2, i3, i4, i5⟩, ⟨e1, e2, e3⟩, p3⟩ := C.2.2.2.2.1
  have p4 : 0 ≤ G 4 ∧ G 4 ≤ 60 := by rw [i1]; exact i2
  have p5 : ∀ k, 0 ≤ k → k < G 4 → 0 ≤ B 41 k ∧ B 41 k < 65536 := by intro k k0 k1; rw [i3]; rw [i1] at k1; exact i4 k ⟨k0, k1⟩
  have sta := C.m.sta
  have lna := C.m.lna
  have exa := C.m.exa
  refine gg_aload_n dL_metre_0 rfl rfl ?_
  refine gi_iconst dL_metre_1 ?_
  refine gg_aload_n dL_metre_2 rfl rfl ?_
  refine gg_iload_n dL_metre_3 rfl ?_
  refine gc_L_30 rfl dL_metre_4 ⟨(Nat.le_of_ble_eq_true rfl), (Nat.le_of_ble_eq_true rfl)⟩ ⟨(Nat.le_of_ble_eq_true rfl), (Nat.le_of_ble_eq_true rfl)⟩ (Nat.le_of_ble_eq_true rfl) (HAt.mu gst_30) (c_X9_metre hb9 g0 hmq M1 hw) (fun E9 h9 hx9 => by subst hQF9; obtain ⟨q1, rfl, rfl⟩ := hx9; exact gx_code_n (k9 := 3) (k := 1) [] [] (0, 9, 12, 25) rfl (fun _ q => absurd q List.not_mem_nil) (by decide) (by decide) (wi_8 _ (List.mem_of_getElem? (i := 18) rfl)) (List.mem_of_getElem? (i := 2) rfl) dL_metre_12 (Nat.le_of_ble_eq_true rfl) rfl dL_metre_13 dL_metre_14 rfl ⟨(Nat.le_of_ble_eq_true rfl), (Nat.le_of_ble_eq_true rfl)⟩ ⟨1, 0, h.2, G, B, b, rfl, by unfold wl9; rw [if_neg (show ¬ (1 : Int) = 0 by decide)], (fun _ _ q => q), Or.inr ⟨q1, rfl, C⟩⟩) (fun r_4 h_4 hp => ?_)
  obtain ⟨q1, rfl, rfl⟩ := hp
  refine gg_i2l dL_metre_7  ?_
  refine gg_last dL_metre_8 (iN_in (n := 1) (by decide) (by decide) (by decide)) (HPut.mu (Eq.trans gst_24 h24)) ?_
  rw [gst_up9 (Or.inl rfl)]
  refine gg_goto (tgt := 15) dL_metre_9 (by decide) ?_
  refine gi_iconst dL_metre_15 ?_
  subst hQF9
  refine gg_iret dL_metre_16 rfl rfl ⟨(Nat.le_of_ble_eq_true rfl), (Nat.le_of_ble_eq_true rfl)⟩ ?_
  exact ⟨0, _, h.2, G, B, b, rfl, by unfold wl9; rw [if_pos (show (0 : Int) = 0 from rfl)]; rfl, (fun _ _ q => q), Or.inl ⟨q1, rfl, rfl, C⟩⟩
set_option maxRecDepth 100000 in
set_option maxHeartbeats 4000000 in
theorem cw_setTolerance {Γ : GT} {h : XH} {G : Nat → Int} {B : Nat → Int → Int} {F : Nat → Int} {A : Nat → Int → Int} {b : Nat} {v : Nat → Int64} (C : CP9 h.2 G B F A b) (h24 : h.1 24 = some (lo9 v)) {t : Int} (ht : InR t) : Ct Γ M_L_setTolerance [.ref (g_L Γ 30), .int (iN t), .ref (g_L Γ 24)] (gst Γ h G B) (fun r h9 => ∃ (k x : Int) (ι' : Nat → Option XE) (G' : Nat → Int) (B' : Nat → Int → Int) (b' : Nat), r = some (.int (iN k)) ∧ h9 = gst Γ (wl9 h v k x, ι') G' B' ∧ ext h.2 ι' ∧ (((0 ≤ t ∧ t ≤ 30) ∧ k = 0 ∧ x = A 1 3 ∧ CP9 ι' G' B' (uF (uF F 0 0) 5 (kc (F 5))) (uA (uA A 1 (up (A 1) 3 t)) 4 (kA A (F 5))) b') ∨ (¬ (0 ≤ t ∧ t ≤ 30) ∧ k = 1 ∧ CP9 ι' G' B' F A b'))) (fun _ _ => False) := by
  refine Ct.ofH rfl (by decide +kernel) (Nat.le_of_ble_eq_true rfl) ?_
  generalize hQF9 : QM Γ _ _ _ = QF9
  have hb9 : b ≤ 9 := by have := C.1.1; omega
  have hb8 := C.1.1
  have hn9 : b ≠ 9 := by omega
  have g0 := C.1.2
  obtain ⟨mq, S⟩ := C.SW
  have hmq := S.2.2.1
  have M1 := S.2.2.2.1
  have X9 := S.2.2.2.2.1
  have WR9 := C.2.2.2.2.2.1
  have H9 := C.2.2.1.his
  have LD := C.LD
  have gt := C.m.2.2.1
  have C9 := C.2.2.2.2.2.2.2.1
  obtain ⟨⟨i1, i2, i3, i4, i5⟩, ⟨e1, e2, e3⟩, p3⟩ := C.2.2.2.2.1
  have p4 : 0 ≤ G 4 ∧ G 4 ≤ 60 := by rw [i1]; exact i2
  have p5 : ∀ k, 0 ≤ k → k < G 4 → 0 ≤ B 41 k ∧ B 41 k < 65536 := by intro k k0 k1; rw [i3]; rw [i1] at k1; exact i4 k ⟨k0, k1⟩
  have sta := C.m.sta
  have lna := C.m.lna
  have exa := C.m.exa
  refine gg_aload_n dL_setTolerance_0 rfl rfl ?_
  refine gi_iconst dL_setTolerance_1 ?_
  refine gg_aload_n dL_setTolerance_2 rfl rfl ?_
  refine gg_iload_n dL_setTolerance_3 rfl ?_
  refine gc_L_34 rfl dL_setTolerance_4 ⟨(Nat.le_of_ble_eq_true rfl), (Nat.le_of_ble_eq_true rfl)⟩ ⟨(Nat.le_of_ble_eq_true rfl), (Nat.le_of_ble_eq_true rfl)⟩ (Nat.le_of_ble_eq_true rfl) (HAt.mu gst_30) (c_X9_setTolerance hb9 g0 hmq WR9 H9 ht) (fun E9 h9 hx9 => by subst hQF9; obtain ⟨q1, rfl, rfl⟩ := hx9; exact gx_code_n (k9 := 3) (k := 1) [] [] (0, 9, 12, 25) rfl (fun _ q => absurd q List.not_mem_nil) (by decide) (by decide) (wi_8 _ (List.mem_of_getElem? (i := 18) rfl)) (List.mem_of_getElem? (i := 2) rfl) dL_setTolerance_12 (Nat.le_of_ble_eq_true rfl) rfl dL_setTolerance_13 dL_setTolerance_14 rfl ⟨(Nat.le_of_ble_eq_true rfl), (Nat.le_of_ble_eq_true rfl)⟩ ⟨1, 0, h.2, G, B, b, rfl, by unfold wl9; rw [if_neg (show ¬ (1 : Int) = 0 by decide)], (fun _ _ q => q), Or.inr ⟨q1, rfl, C⟩⟩) (fun r_4 h_4 hp => ?_)
  obtain ⟨q1, rfl, rfl⟩ := hp
  rw [gt.1]
  refine gg_i2l dL_setTolerance_7  ?_
  refine gg_last dL_setTolerance_8 (iN_in (n := 1) (by decide) (by decide) (by decide)) (HPut.mu (Eq.trans gst_24 h24)) ?_
  rw [gst_up9 (Or.inl rfl)]
  refine gg_goto (tgt := 15) dL_setTolerance_9 (by decide) ?_
  refine gi_iconst dL_setTolerance_15 ?_
  subst hQF9
  refine gg_iret dL_setTolerance_16 rfl rfl ⟨(Nat.le_of_ble_eq_true rfl), (Nat.le_of_ble_eq_true rfl)⟩ ?_
  exact ⟨0, _, h.2, _, _, b, rfl, by unfold wl9; rw [if_pos (show (0 : Int) = 0 from rfl)]; rfl, (fun _ _ q => q), Or.inl ⟨q1, rfl, rfl, K_setTolerance C q1⟩⟩
