/-! the law: its helpers, 2 -/
theorem parseL_pos {f : Int → Int} {n : Int} : ∀ (m : Nat) (p : Int), 0 ≤ p → p ≤ n → 0 ≤ (parseL f n m p).2.1 ∧ (parseL f n m p).2.1 ≤ n
  | 0, p, h0, h1 => by rw [parseL]; exact ⟨h0, h1⟩
  | m + 1, p, h0, h1 => by
    have hw := wlen_r f n 12 p
    have hw2 := hw.2.2 h1
    have hb := bi_01 (decide (p + wlen f n 12 p < n) && decide (f (p + wlen f n 12 p) = 44))
    have hb2 : p + wlen f n 12 p + bi (decide (p + wlen f n 12 p < n) && decide (f (p + wlen f n 12 p) = 44)) ≤ n := by
      by_cases c : p + wlen f n 12 p < n
      · omega
      · rw [decide_eq_false c, Bool.false_and]; simp [bi]; omega
    rw [parseL]
    split
    · exact ⟨h0, h1⟩
    · split
      · dsimp only; omega
      · split
        · exact parseL_pos m _ (by omega) (by omega)
        · dsimp only; omega
theorem CP9.no {ι : Nat → Option XE} {G : Nat → Int} {B : Nat → Int → Int} {F : Nat → Int} {A : Nat → Int → Int} {b : Nat} (C : CP9 ι G B F A b) {i l : Int} (h : ¬ ((0 ≤ i ∧ i ≤ 3) ∧ 0 ≤ l ∧ l < G (103 + 10 * b + i.toNat))) : ¬ (0 ≤ i ∧ i ≤ 3 ∧ 0 ≤ l ∧ l < A 1 (5 + i)) :=
  fun z => h ⟨⟨z.1, z.2.1⟩, z.2.2.1, by rw [C.cn z.1 z.2.1]; exact z.2.2.2⟩
theorem CP9.ys {ι : Nat → Option XE} {G : Nat → Int} {B : Nat → Int → Int} {F : Nat → Int} {A : Nat → Int → Int} {b : Nat} (C : CP9 ι G B F A b) {i l : Int} (h : (0 ≤ i ∧ i ≤ 3) ∧ 0 ≤ l ∧ l < G (103 + 10 * b + i.toNat)) : 0 ≤ i ∧ i ≤ 3 ∧ 0 ≤ l ∧ l < A 1 (5 + i) :=
  ⟨h.1.1, h.1.2, h.2.1, by rw [← C.cn h.1.1 h.1.2]; exact h.2.2⟩
set_option maxRecDepth 100000 in
set_option maxHeartbeats 4000000 in
theorem cw_clearDraft {Γ : GT} {h : XH} {G : Nat → Int} {B : Nat → Int → Int} {F : Nat → Int} {A : Nat → Int → Int} {b : Nat} {v : Nat → Int64} (C : CP9 h.2 G B F A b) (h24 : h.1 24 = some (lo9 v))  {i : Int} (hi : InR i) : Ct Γ M_L_clearDraft [.ref (g_L Γ 30), .int (iN i), .ref (g_L Γ 24)] (gst Γ h G B) (fun r h9 => ∃ (k x : Int) (ι' : Nat → Option XE) (G' : Nat → Int) (B' : Nat → Int → Int) (b' : Nat), r = some (.int (iN k)) ∧ h9 = gst Γ (wl9 h v k x, ι') G' B' ∧ ext h.2 ι' ∧ (((0 ≤ i ∧ i ≤ 3) ∧ k = 0 ∧ x = A 1 (5 + i) ∧ CP9 ι' G' B' (uF F 5 (kc (F 5))) (uA (uA A 1 (up (A 1) (5 + i) 0)) 4 (kA A (F 5))) b') ∨ (¬ (0 ≤ i ∧ i ≤ 3) ∧ k = 1 ∧ CP9 ι' G' B' F A b'))) (fun _ _ => False) := by
  refine Ct.ofH rfl (by decide +kernel) (Nat.le_of_ble_eq_true rfl) ?_
  generalize hQF9 : QM Γ _ _ _ = QF9
  have hb9 : b ≤ 9 := by have := C.1.1; omega
  have hb8 := C.1.1
  have hn9 : b ≠ 9 := by omega
  have g0 := C.1.2
  obtain ⟨mq, S⟩ := C.SW
  have hmq := S.2.2.1
  have M1 := S.2.2.2.1
  have X9 := S.2.2.2.2.1
  have WR9 := C.2.2.2.2.2.1
  have H9 := C.2.2.1.his
  have LD := C.LD
  have gt := C.m.2.2.1
  have C9 := C.2.2.2.2.2.2.2.1
  obtain ⟨⟨i1, i2, i3, i4, i5⟩, ⟨e1, e2, e3⟩, p3⟩ := C.2.2.2.2.1
  have p4 : 0 ≤ G 4 ∧ G 4 ≤ 60 := by rw [i1]; exact i2
  have p5 : ∀ k, 0 ≤ k → k < G 4 → 0 ≤ B 41 k ∧ B 41 k < 65536 := by intro k k0 k1; rw [i3]; rw [i1] at k1; exact i4 k ⟨k0, k1⟩
  have sta := C.m.sta
  have lna := C.m.lna
  have exa := C.m.exa
  refine gg_aload_n dL_clearDraft_0 rfl rfl ?_
  refine gi_iconst dL_clearDraft_1 ?_
  refine gg_aload_n dL_clearDraft_2 rfl rfl ?_
  refine gg_iload_n dL_clearDraft_3 rfl ?_
  refine gc_L_61 rfl dL_clearDraft_4 ⟨(Nat.le_of_ble_eq_true rfl), (Nat.le_of_ble_eq_true rfl)⟩ ⟨(Nat.le_of_ble_eq_true rfl), (Nat.le_of_ble_eq_true rfl)⟩ (Nat.le_of_ble_eq_true rfl) (HAt.mu gst_30) (c_X9_clearDraft hb9 g0 hmq WR9 H9 hi) (fun E9 h9 hx9 => by subst hQF9; obtain ⟨q1, rfl, rfl⟩ := hx9; exact gx_code_n (k9 := 3) (k := 1) [] [] (0, 9, 12, 43) rfl (fun _ q => absurd q List.not_mem_nil) (by decide) (by decide) (wi_23 _ (List.mem_of_getElem? (i := 7) rfl)) (List.mem_of_getElem? (i := 3) rfl) dL_clearDraft_12 (Nat.le_of_ble_eq_true rfl) rfl dL_clearDraft_13 dL_clearDraft_14 rfl ⟨(Nat.le_of_ble_eq_true rfl), (Nat.le_of_ble_eq_true rfl)⟩ ⟨1, 0, h.2, G, B, b, rfl, by unfold wl9; rw [if_neg (show ¬ (1 : Int) = 0 by decide)], (fun _ _ q => q), Or.inr ⟨q1, rfl, C⟩⟩) (fun r_4 h_4 hp => ?_)
  obtain ⟨q1, rfl, rfl⟩ := hp
  have cn := C.cn q1.1 q1.2
  have hin : ((i.toNat : Nat) : Int) = i := Int.toNat_of_nonneg q1.1
  rw [cn]
  have KK := K_clearDraft (F2 := uF F 5 (kc (F 5))) C (d := i.toNat) (by omega) (by simp only [uF_s, uF_n, ne_eq, Nat.reduceEqDiff, not_false_eq_true]) (by simp only [uF_s, uF_n, ne_eq, Nat.reduceEqDiff, not_false_eq_true]) (by simp only [uF_s, uF_n, ne_eq, Nat.reduceEqDiff, not_false_eq_true]) (by simp only [uF_s, uF_n, ne_eq, Nat.reduceEqDiff, not_false_eq_true]) (by simp only [uF_s, uF_n, ne_eq, Nat.reduceEqDiff, not_false_eq_true])
  rw [hin] at KK
  refine gg_i2l dL_clearDraft_7  ?_
  refine gg_last dL_clearDraft_8 (iN_in (n := 1) (by decide) (by decide) (by decide)) (HPut.mu (Eq.trans gst_24 h24)) ?_
  rw [gst_up9 (Or.inl rfl)]
  refine gg_goto (tgt := 15) dL_clearDraft_9 (by decide) ?_
  refine gi_iconst dL_clearDraft_15 ?_
  subst hQF9
  refine gg_iret dL_clearDraft_16 rfl rfl ⟨(Nat.le_of_ble_eq_true rfl), (Nat.le_of_ble_eq_true rfl)⟩ ?_
  exact ⟨0, _, h.2, _, _, b, rfl, by unfold wl9; rw [if_pos (show (0 : Int) = 0 from rfl)]; rfl, (fun _ _ q => q), Or.inl ⟨q1, rfl, rfl, KK⟩⟩
set_option maxRecDepth 100000 in
set_option maxHeartbeats 4000000 in
theorem cw_copyDraft {Γ : GT} {h : XH} {G : Nat → Int} {B : Nat → Int → Int} {F : Nat → Int} {A : Nat → Int → Int} {b : Nat} {v : Nat → Int64} (C : CP9 h.2 G B F A b) (h24 : h.1 24 = some (lo9 v))  {i j : Int} (hi : InR i) (hj : InR j) : Ct Γ M_L_copyDraft [.ref (g_L Γ 30), .int (iN i), .int (iN j), .ref (g_L Γ 24)] (gst Γ h G B) (fun r h9 => ∃ (k x : Int) (ι' : Nat → Option XE) (G' : Nat → Int) (B' : Nat → Int → Int) (b' : Nat), r = some (.int (iN k)) ∧ h9 = gst Γ (wl9 h v k x, ι') G' B' ∧ ext h.2 ι' ∧ ((((0 ≤ i ∧ i ≤ 3) ∧ 0 ≤ j ∧ j ≤ 3) ∧ k = 0 ∧ x = A 1 (5 + i) ∧ CP9 ι' G' B' (uF F 5 (kc (F 5))) (uA (uA A 1 (cpD (A 1) i j 10)) 4 (kA A (F 5))) b') ∨ (¬ ((0 ≤ i ∧ i ≤ 3) ∧ 0 ≤ j ∧ j ≤ 3) ∧ k = 1 ∧ CP9 ι' G' B' F A b'))) (fun _ _ => False) := by
  refine Ct.ofH rfl (by decide +kernel) (Nat.le_of_ble_eq_true rfl) ?_
  generalize hQF9 : QM Γ _ _ _ = QF9
  have hb9 : b ≤ 9 := by have := C.1.1; omega
  have hb8 := C.1.1
  have hn9 : b ≠ 9 := by omega
  have g0 := C.1.2
  obtain ⟨mq, S⟩ := C.SW
  have hmq := S.2.2.1
  have M1 := S.2.2.2.1
  have X9 := S.2.2.2.2.1
  have WR9 := C.2.2.2.2.2.1
  have H9 := C.2.2.1.his
  have LD := C.LD
  have gt := C.m.2.2.1
  have C9 := C.2.2.2.2.2.2.2.1
  obtain ⟨⟨i1, i2, i3, i4, i5⟩, ⟨e1, e2, e3⟩, p3⟩ := C.2.2.2.2.1
  have p4 : 0 ≤ G 4 ∧ G 4 ≤ 60 := by rw [i1]; exact i2
  have p5 : ∀ k, 0 ≤ k → k < G 4 → 0 ≤ B 41 k ∧ B 41 k < 65536 := by intro k k0 k1; rw [i3]; rw [i1] at k1; exact i4 k ⟨k0, k1⟩
  have sta := C.m.sta
  have lna := C.m.lna
  have exa := C.m.exa
  refine gg_aload_n dL_copyDraft_0 rfl rfl ?_
  refine gi_iconst dL_copyDraft_1 ?_
  refine gg_aload_n dL_copyDraft_2 rfl rfl ?_
  refine gg_iload_n dL_copyDraft_3 rfl ?_
  refine gg_iload_n dL_copyDraft_4 rfl ?_
  refine gc_L_58 rfl dL_copyDraft_5 ⟨(Nat.le_of_ble_eq_true rfl), (Nat.le_of_ble_eq_true rfl)⟩ ⟨(Nat.le_of_ble_eq_true rfl), (Nat.le_of_ble_eq_true rfl)⟩ (Nat.le_of_ble_eq_true rfl) (HAt.mu gst_30) (c_X9_copyDraft hb9 g0 hmq WR9 H9 hi hj) (fun E9 h9 hx9 => by subst hQF9; obtain ⟨q1, rfl, rfl⟩ := hx9; exact gx_code (i := 4) (k := 1) [] [] (0, 10, 13, 43) rfl (fun _ q => absurd q List.not_mem_nil) (by decide) (by decide) (wi_23 _ (List.mem_of_getElem? (i := 7) rfl)) (List.mem_of_getElem? (i := 3) rfl) dL_copyDraft_13 (Nat.le_of_ble_eq_true rfl) rfl dL_copyDraft_15 dL_copyDraft_16 rfl ⟨(Nat.le_of_ble_eq_true rfl), (Nat.le_of_ble_eq_true rfl)⟩ ⟨1, 0, h.2, G, B, b, rfl, by unfold wl9; rw [if_neg (show ¬ (1 : Int) = 0 by decide)], (fun _ _ q => q), Or.inr ⟨q1, rfl, C⟩⟩) (fun r_5 h_5 hp => ?_)
  obtain ⟨q1, rfl, rfl⟩ := hp
  have cn := C.cn q1.1.1 q1.1.2
  have hin : ((i.toNat : Nat) : Int) = i := Int.toNat_of_nonneg q1.1.1
  rw [cn]
  have hjn : ((j.toNat : Nat) : Int) = j := Int.toNat_of_nonneg q1.2.1
  have KK := K_copyDraft (F2 := uF F 5 (kc (F 5))) C (i := i.toNat) (j := j.toNat) (by omega) (by omega) (by simp only [uF_s, uF_n, ne_eq, Nat.reduceEqDiff, not_false_eq_true]) (by simp only [uF_s, uF_n, ne_eq, Nat.reduceEqDiff, not_false_eq_true]) (by simp only [uF_s, uF_n, ne_eq, Nat.reduceEqDiff, not_false_eq_true]) (by simp only [uF_s, uF_n, ne_eq, Nat.reduceEqDiff, not_false_eq_true]) (by simp only [uF_s, uF_n, ne_eq, Nat.reduceEqDiff, not_false_eq_true])
  rw [hin, hjn] at KK
  refine gg_i2l dL_copyDraft_8  ?_
  refine gg_last dL_copyDraft_9 (iN_in (n := 1) (by decide) (by decide) (by decide)) (HPut.mu (Eq.trans gst_24 h24)) ?_
  rw [gst_up9 (Or.inl rfl)]
  refine gg_goto (tgt := 17) dL_copyDraft_10 (by decide) ?_
  refine gi_iconst dL_copyDraft_17 ?_
  subst hQF9
  refine gg_iret dL_copyDraft_18 rfl rfl ⟨(Nat.le_of_ble_eq_true rfl), (Nat.le_of_ble_eq_true rfl)⟩ ?_
  exact ⟨0, _, h.2, _, _, b, rfl, by unfold wl9; rw [if_pos (show (0 : Int) = 0 from rfl)]; rfl, (fun _ _ q => q), Or.inl ⟨q1, rfl, rfl, KK⟩⟩
set_option maxRecDepth 100000 in
set_option maxHeartbeats 4000000 in
theorem cw_removeLine {Γ : GT} {h : XH} {G : Nat → Int} {B : Nat → Int → Int} {F : Nat → Int} {A : Nat → Int → Int} {b : Nat} {v : Nat → Int64} (C : CP9 h.2 G B F A b) (h24 : h.1 24 = some (lo9 v))  {i l : Int} (hi : InR i) (hl : InR l) : Ct Γ M_L_removeLine [.ref (g_L Γ 30), .int (iN i), .int (iN l), .ref (g_L Γ 24)] (gst Γ h G B) (fun r h9 => ∃ (k x : Int) (ι' : Nat → Option XE) (G' : Nat → Int) (B' : Nat → Int → Int) (b' : Nat), r = some (.int (iN k)) ∧ h9 = gst Γ (wl9 h v k x, ι') G' B' ∧ ext h.2 ι' ∧ (((0 ≤ i ∧ i ≤ 3 ∧ 0 ≤ l ∧ l < A 1 (5 + i)) ∧ k = 0 ∧ x = A 1 (5 + i) - 1 ∧ CP9 ι' G' B' (uF F 5 (kc (F 5))) (uA (uA A 1 (up (shd (A 1) (169 + 61 * (10 * i + l)) (169 + 61 * (10 * i + (A 1 (5 + i) - 1))) 61) (5 + i) (A 1 (5 + i) - 1))) 4 (kA A (F 5))) b') ∨ (¬ (0 ≤ i ∧ i ≤ 3 ∧ 0 ≤ l ∧ l < A 1 (5 + i)) ∧ k = 1 ∧ CP9 ι' G' B' F A b'))) (fun _ _ => False) := by
  refine Ct.ofH rfl (by decide +kernel) (Nat.le_of_ble_eq_true rfl) ?_
  generalize hQF9 : QM Γ _ _ _ = QF9
  have hb9 : b ≤ 9 := by have := C.1.1; omega
  have hb8 := C.1.1
  have hn9 : b ≠ 9 := by omega
  have g0 := C.1.2
  obtain ⟨mq, S⟩ := C.SW
  have hmq := S.2.2.1
  have M1 := S.2.2.2.1
  have X9 := S.2.2.2.2.1
  have WR9 := C.2.2.2.2.2.1
  have H9 := C.2.2.1.his
  have LD := C.LD
  have gt := C.m.2.2.1
  have C9 := C.2.2.2.2.2.2.2.1
  obtain ⟨⟨i1, i2, i3, i4, i5⟩, ⟨e1, e2, e3⟩, p3⟩ := C.2.2.2.2.1
  have p4 : 0 ≤ G 4 ∧ G 4 ≤ 60 := by rw [i1]; exact i2
  have p5 : ∀ k, 0 ≤ k → k < G 4 → 0 ≤ B 41 k ∧ B 41 k < 65536 := by intro k k0 k1; rw [i3]; rw [i1] at k1; exact i4 k ⟨k0, k1⟩
  have sta := C.m.sta
  have lna := C.m.lna
  have exa := C.m.exa
  refine gg_aload_n dL_removeLine_0 rfl rfl ?_
  refine gi_iconst dL_removeLine_1 ?_
  refine gg_aload_n dL_removeLine_2 rfl rfl ?_
  refine gg_iload_n dL_removeLine_3 rfl ?_
  refine gg_iload_n dL_removeLine_4 rfl ?_
  refine gc_L_52 rfl dL_removeLine_5 ⟨(Nat.le_of_ble_eq_true rfl), (Nat.le_of_ble_eq_true rfl)⟩ ⟨(Nat.le_of_ble_eq_true rfl), (Nat.le_of_ble_eq_true rfl)⟩ (Nat.le_of_ble_eq_true rfl) (HAt.mu gst_30) (c_X9_removeLine hb9 g0 hmq WR9 H9 LD hi hl) (fun E9 h9 hx9 => by subst hQF9; obtain ⟨q1, rfl, rfl⟩ := hx9; exact gx_code (i := 4) (k := 1) [] [] (0, 10, 13, 43) rfl (fun _ q => absurd q List.not_mem_nil) (by decide) (by decide) (wi_23 _ (List.mem_of_getElem? (i := 7) rfl)) (List.mem_of_getElem? (i := 3) rfl) dL_removeLine_13 (Nat.le_of_ble_eq_true rfl) rfl dL_removeLine_15 dL_removeLine_16 rfl ⟨(Nat.le_of_ble_eq_true rfl), (Nat.le_of_ble_eq_true rfl)⟩ ⟨1, 0, h.2, G, B, b, rfl, by unfold wl9; rw [if_neg (show ¬ (1 : Int) = 0 by decide)], (fun _ _ q => q), Or.inr ⟨C.no q1, rfl, C⟩⟩) (fun r_5 h_5 hp => ?_)
  obtain ⟨q1, rfl, rfl⟩ := hp
  have q2 := C.ys q1
  have cn := C.cn q1.1.1 q1.1.2
  have hin : ((i.toNat : Nat) : Int) = i := Int.toNat_of_nonneg q1.1.1
  rw [cn]
  have KK := K_removeLine (F2 := uF F 5 (kc (F 5))) C (d := i.toNat) (l := l) (by omega) (by rw [hin]; exact q2.2.2) (by simp only [uF_s, uF_n, ne_eq, Nat.reduceEqDiff, not_false_eq_true]) (by simp only [uF_s, uF_n, ne_eq, Nat.reduceEqDiff, not_false_eq_true]) (by simp only [uF_s, uF_n, ne_eq, Nat.reduceEqDiff, not_false_eq_true]) (by simp only [uF_s, uF_n, ne_eq, Nat.reduceEqDiff, not_false_eq_true]) (by simp only [uF_s, uF_n, ne_eq, Nat.reduceEqDiff, not_false_eq_true])
  rw [hin] at KK
  refine gg_i2l dL_removeLine_8  ?_
  refine gg_last dL_removeLine_9 (iN_in (n := 1) (by decide) (by decide) (by decide)) (HPut.mu (Eq.trans gst_24 h24)) ?_
  rw [gst_up9 (Or.inl rfl)]
  refine gg_goto (tgt := 17) dL_removeLine_10 (by decide) ?_
  refine gi_iconst dL_removeLine_17 ?_
  subst hQF9
  refine gg_iret dL_removeLine_18 rfl rfl ⟨(Nat.le_of_ble_eq_true rfl), (Nat.le_of_ble_eq_true rfl)⟩ ?_
  exact ⟨0, _, h.2, _, _, b, rfl, by unfold wl9; rw [if_pos (show (0 : Int) = 0 from rfl)]; rfl, (fun _ _ q => q), Or.inl ⟨q2, rfl, rfl, KK⟩⟩
set_option maxRecDepth 100000 in
set_option maxHeartbeats 4000000 in
theorem cw_moveLine {Γ : GT} {h : XH} {G : Nat → Int} {B : Nat → Int → Int} {F : Nat → Int} {A : Nat → Int → Int} {b : Nat} {v : Nat → Int64} (C : CP9 h.2 G B F A b) (h24 : h.1 24 = some (lo9 v))  {i l m : Int} (hi : InR i) (hl : InR l) (hm : InR m) : Ct Γ M_L_moveLine [.ref (g_L Γ 30), .int (iN i), .int (iN l), .int (iN m), .ref (g_L Γ 24)] (gst Γ h G B) (fun r h9 => ∃ (k x : Int) (ι' : Nat → Option XE) (G' : Nat → Int) (B' : Nat → Int → Int) (b' : Nat), r = some (.int (iN k)) ∧ h9 = gst Γ (wl9 h v k x, ι') G' B' ∧ ext h.2 ι' ∧ ((((0 ≤ i ∧ i ≤ 3 ∧ 0 ≤ l ∧ l < A 1 (5 + i)) ∧ (0 ≤ i ∧ i ≤ 3 ∧ 0 ≤ m ∧ m < A 1 (5 + i))) ∧ k = 0 ∧ x = (if l ≤ m then m - l else l - m) ∧ ∀ h7 : Int → Int, (∀ k, 0 ≤ k → k < 61 → h7 k = A 1 (169 + 61 * (10 * i + l) + k)) → CP9 ι' G' B' (uF F 5 (kc (F 5))) (uA (uA (uA A 1 (cp h7 (mvL (A 1) i l m) 0 (169 + 61 * (10 * i + m)) 61)) 4 (kA A (F 5))) 7 h7) b') ∨ (¬ ((0 ≤ i ∧ i ≤ 3 ∧ 0 ≤ l ∧ l < A 1 (5 + i)) ∧ (0 ≤ i ∧ i ≤ 3 ∧ 0 ≤ m ∧ m < A 1 (5 + i))) ∧ k = 1 ∧ CP9 ι' G' B' F A b'))) (fun _ _ => False) := by
  refine Ct.ofH rfl (by decide +kernel) (Nat.le_of_ble_eq_true rfl) ?_
  generalize hQF9 : QM Γ _ _ _ = QF9
  have hb9 : b ≤ 9 := by have := C.1.1; omega
  have hb8 := C.1.1
  have hn9 : b ≠ 9 := by omega
  have g0 := C.1.2
  obtain ⟨mq, S⟩ := C.SW
  have hmq := S.2.2.1
  have M1 := S.2.2.2.1
  have X9 := S.2.2.2.2.1
  have WR9 := C.2.2.2.2.2.1
  have H9 := C.2.2.1.his
  have LD := C.LD
  have gt := C.m.2.2.1
  have C9 := C.2.2.2.2.2.2.2.1
  obtain ⟨⟨i1, i2, i3, i4, i5⟩, ⟨e1, e2, e3⟩, p3⟩ := C.2.2.2.2.1
  have p4 : 0 ≤ G 4 ∧ G 4 ≤ 60 := by rw [i1]; exact i2
  have p5 : ∀ k, 0 ≤ k → k < G 4 → 0 ≤ B 41 k ∧ B 41 k < 65536 := by intro k k0 k1; rw [i3]; rw [i1] at k1; exact i4 k ⟨k0, k1⟩
  have sta := C.m.sta
  have lna := C.m.lna
  have exa := C.m.exa
  refine gg_aload dL_moveLine_0 rfl rfl ?_
  refine gi_iconst dL_moveLine_2 ?_
  refine gg_aload_n dL_moveLine_3 rfl rfl ?_
  refine gg_iload_n dL_moveLine_4 rfl ?_
  refine gg_iload_n dL_moveLine_5 rfl ?_
  refine gg_iload_n dL_moveLine_6 rfl ?_
  refine gc_L_55 rfl dL_moveLine_7 ⟨(Nat.le_of_ble_eq_true rfl), (Nat.le_of_ble_eq_true rfl)⟩ ⟨(Nat.le_of_ble_eq_true rfl), (Nat.le_of_ble_eq_true rfl)⟩ (Nat.le_of_ble_eq_true rfl) (HAt.mu gst_30) (c_X9_moveLine hb9 g0 hmq WR9 H9 LD hi hl hm) (fun E9 h9 hx9 => by subst hQF9; obtain ⟨q1, rfl, rfl⟩ := hx9; exact gx_code (i := 5) (k := 1) [] [] (0, 12, 15, 43) rfl (fun _ q => absurd q List.not_mem_nil) (by decide) (by decide) (wi_23 _ (List.mem_of_getElem? (i := 7) rfl)) (List.mem_of_getElem? (i := 3) rfl) dL_moveLine_15 (Nat.le_of_ble_eq_true rfl) rfl dL_moveLine_17 dL_moveLine_18 rfl ⟨(Nat.le_of_ble_eq_true rfl), (Nat.le_of_ble_eq_true rfl)⟩ ⟨1, 0, h.2, G, B, b, rfl, by unfold wl9; rw [if_neg (show ¬ (1 : Int) = 0 by decide)], (fun _ _ q => q), Or.inr ⟨fun z => q1 ⟨⟨⟨z.1.1, z.1.2.1⟩, z.1.2.2.1, by rw [C.cn z.1.1 z.1.2.1]; exact z.1.2.2.2⟩, z.2.2.2.1, by rw [C.cn z.1.1 z.1.2.1]; exact z.2.2.2.2⟩, rfl, C⟩⟩) (fun r_7 h_7 hp => ?_)
  obtain ⟨q1, rfl, rfl⟩ := hp
  have q2 := C.ys q1.1
  have q3 := C.ys ⟨q1.1.1, q1.2⟩
  have cn := C.cn q1.1.1.1 q1.1.1.2
  have hin : ((i.toNat : Nat) : Int) = i := Int.toNat_of_nonneg q1.1.1.1
  rw [cn]
  have eB : B (106 + 11 * b + i.toNat) l = (rmB G B b) (106 + 11 * b + i.toNat) l := by rw [rmB_o H9 (by omega)]
  rw [eB]
  have KK : ∀ h7 : Int → Int, (∀ k, 0 ≤ k → k < 61 → h7 k = A 1 (169 + 61 * (10 * i + l) + k)) → _ := fun h7 hh => K_moveLine (F2 := uF F 5 (kc (F 5))) C (d := i.toNat) (x := l) (y := m) (h7 := h7) (by omega) (by rw [hin]; exact q2.2.2) (by rw [hin]; exact q3.2.2) (by rw [hin]; exact hh) (fun k k0 k1 => by rw [hh k k0 k1]; exact sta.2.2.2.2.2.2 _) (by simp only [uF_s, uF_n, ne_eq, Nat.reduceEqDiff, not_false_eq_true]) (by simp only [uF_s, uF_n, ne_eq, Nat.reduceEqDiff, not_false_eq_true]) (by simp only [uF_s, uF_n, ne_eq, Nat.reduceEqDiff, not_false_eq_true]) (by simp only [uF_s, uF_n, ne_eq, Nat.reduceEqDiff, not_false_eq_true]) (by simp only [uF_s, uF_n, ne_eq, Nat.reduceEqDiff, not_false_eq_true])
  rw [hin] at KK
  refine gg_i2l dL_moveLine_10  ?_
  refine gg_last dL_moveLine_11 (iN_in (n := 1) (by decide) (by decide) (by decide)) (HPut.mu (Eq.trans gst_24 h24)) ?_
  rw [gst_up9 (Or.inl rfl)]
  refine gg_goto (tgt := 19) dL_moveLine_12 (by decide) ?_
  refine gi_iconst dL_moveLine_19 ?_
  subst hQF9
  refine gg_iret dL_moveLine_20 rfl rfl ⟨(Nat.le_of_ble_eq_true rfl), (Nat.le_of_ble_eq_true rfl)⟩ ?_
  exact ⟨0, _, h.2, _, _, b, rfl, by unfold wl9; rw [if_pos (show (0 : Int) = 0 from rfl)]; rfl, (fun _ _ q => q), Or.inl ⟨⟨q2, q3⟩, rfl, rfl, KK⟩⟩
set_option maxRecDepth 100000 in
set_option maxHeartbeats 4000000 in
theorem cw_dropException {Γ : GT} {h : XH} {G : Nat → Int} {B : Nat → Int → Int} {F : Nat → Int} {A : Nat → Int → Int} {b : Nat} {v : Nat → Int64} (C : CP9 h.2 G B F A b) (h24 : h.1 24 = some (lo9 v))  {i : Int} (hi : InR i) : Ct Γ M_L_dropException [.ref (g_L Γ 30), .int (iN i), .ref (g_L Γ 24)] (gst Γ h G B) (fun r h9 => ∃ (k x : Int) (ι' : Nat → Option XE) (G' : Nat → Int) (B' : Nat → Int → Int) (b' : Nat), r = some (.int (iN k)) ∧ h9 = gst Γ (wl9 h v k x, ι') G' B' ∧ ext h.2 ι' ∧ (((0 ≤ i ∧ i < A 1 4) ∧ k = 0 ∧ x = A 1 (9 + 20 * i + 1 + 12) ∧ CP9 ι' G' B' (uF F 5 (kc (F 5))) (uA (uA A 1 (drE (A 1) i)) 4 (kA A (F 5))) b') ∨ (¬ (0 ≤ i ∧ i < A 1 4) ∧ k = 1 ∧ CP9 ι' G' B' F A b'))) (fun _ _ => False) := by
  refine Ct.ofH rfl (by decide +kernel) (Nat.le_of_ble_eq_true rfl) ?_
  generalize hQF9 : QM Γ _ _ _ = QF9
  have hb9 : b ≤ 9 := by have := C.1.1; omega
  have hb8 := C.1.1
  have hn9 : b ≠ 9 := by omega
  have g0 := C.1.2
  obtain ⟨mq, S⟩ := C.SW
  have hmq := S.2.2.1
  have M1 := S.2.2.2.1
  have X9 := S.2.2.2.2.1
  have WR9 := C.2.2.2.2.2.1
  have H9 := C.2.2.1.his
  have LD := C.LD
  have gt := C.m.2.2.1
  have C9 := C.2.2.2.2.2.2.2.1
  obtain ⟨⟨i1, i2, i3, i4, i5⟩, ⟨e1, e2, e3⟩, p3⟩ := C.2.2.2.2.1
  have p4 : 0 ≤ G 4 ∧ G 4 ≤ 60 := by rw [i1]; exact i2
  have p5 : ∀ k, 0 ≤ k → k < G 4 → 0 ≤ B 41 k ∧ B 41 k < 65536 := by intro k k0 k1; rw [i3]; rw [i1] at k1; exact i4 k ⟨k0, k1⟩
  have sta := C.m.sta
  have lna := C.m.lna
  have exa := C.m.exa
  refine gg_aload_n dL_dropException_0 rfl rfl ?_
  refine gi_iconst dL_dropException_1 ?_
  refine gg_aload_n dL_dropException_2 rfl rfl ?_
  refine gg_iload_n dL_dropException_3 rfl ?_
  refine gc_L_40 rfl dL_dropException_4 ⟨(Nat.le_of_ble_eq_true rfl), (Nat.le_of_ble_eq_true rfl)⟩ ⟨(Nat.le_of_ble_eq_true rfl), (Nat.le_of_ble_eq_true rfl)⟩ (Nat.le_of_ble_eq_true rfl) (HAt.mu gst_30) (c_X9_dropException hb9 g0 hmq WR9 H9 X9 hi) (fun E9 h9 hx9 => by subst hQF9; obtain ⟨q1, rfl, rfl⟩ := hx9; exact gx_code_n (k9 := 3) (k := 1) [] [] (0, 9, 12, 43) rfl (fun _ q => absurd q List.not_mem_nil) (by decide) (by decide) (wi_23 _ (List.mem_of_getElem? (i := 7) rfl)) (List.mem_of_getElem? (i := 3) rfl) dL_dropException_12 (Nat.le_of_ble_eq_true rfl) rfl dL_dropException_13 dL_dropException_14 rfl ⟨(Nat.le_of_ble_eq_true rfl), (Nat.le_of_ble_eq_true rfl)⟩ ⟨1, 0, h.2, G, B, b, rfl, by unfold wl9; rw [if_neg (show ¬ (1 : Int) = 0 by decide)], (fun _ _ q => q), Or.inr ⟨q1, rfl, C⟩⟩) (fun r_4 h_4 hp => ?_)
  obtain ⟨q1, rfl, rfl⟩ := hp
  rw [X9.1.1]
  have KK := K_dropException (F2 := uF F 5 (kc (F 5))) C (x := i) q1 (by simp only [uF_s, uF_n, ne_eq, Nat.reduceEqDiff, not_false_eq_true]) (by simp only [uF_s, uF_n, ne_eq, Nat.reduceEqDiff, not_false_eq_true]) (by simp only [uF_s, uF_n, ne_eq, Nat.reduceEqDiff, not_false_eq_true]) (by simp only [uF_s, uF_n, ne_eq, Nat.reduceEqDiff, not_false_eq_true]) (by simp only [uF_s, uF_n, ne_eq, Nat.reduceEqDiff, not_false_eq_true])
  refine gg_i2l dL_dropException_7  ?_
  refine gg_last dL_dropException_8 (iN_in (n := 1) (by decide) (by decide) (by decide)) (HPut.mu (Eq.trans gst_24 h24)) ?_
  rw [gst_up9 (Or.inl rfl)]
  refine gg_goto (tgt := 15) dL_dropException_9 (by decide) ?_
  refine gi_iconst dL_dropException_15 ?_
  subst hQF9
  refine gg_iret dL_dropException_16 rfl rfl ⟨(Nat.le_of_ble_eq_true rfl), (Nat.le_of_ble_eq_true rfl)⟩ ?_
  exact ⟨0, _, h.2, _, _, b, rfl, by unfold wl9; rw [if_pos (show (0 : Int) = 0 from rfl)]; rfl, (fun _ _ q => q), Or.inl ⟨q1, rfl, rfl, KK⟩⟩
set_option maxRecDepth 100000 in
set_option maxHeartbeats 4000000 in
theorem cw_character {Γ : GT} {h : XH} {G : Nat → Int} {B : Nat → Int → Int} {F : Nat → Int} {A : Nat → Int → Int} {b : Nat} {v : Nat → Int64} (C : CP9 h.2 G B F A b) (h24 : h.1 24 = some (lo9 v))  {i l m : Int} (hi : InR i) (hl : InR l) (hm : InR m) : Ct Γ M_L_character [.ref (g_L Γ 30), .int (iN i), .int (iN l), .int (iN m), .ref (g_L Γ 24)] (gst Γ h G B) (fun r h9 => ∃ (k x : Int) (ι' : Nat → Option XE) (G' : Nat → Int) (B' : Nat → Int → Int) (b' : Nat), r = some (.int (iN k)) ∧ h9 = gst Γ (wl9 h v k x, ι') G' B' ∧ ext h.2 ι' ∧ ((((0 ≤ i ∧ i ≤ 3 ∧ 0 ≤ l ∧ l < A 1 (5 + i)) ∧ 0 ≤ m ∧ m < A 1 (169 + 61 * (10 * i + l))) ∧ k = 0 ∧ x = A 1 ((169 + 61 * (10 * i + l)) + 1 + m) ∧ CP9 ι' G' B' F A b') ∨ (¬ ((0 ≤ i ∧ i ≤ 3 ∧ 0 ≤ l ∧ l < A 1 (5 + i)) ∧ 0 ≤ m ∧ m < A 1 (169 + 61 * (10 * i + l))) ∧ k = 1 ∧ CP9 ι' G' B' F A b'))) (fun _ _ => False) := by
  refine Ct.ofH rfl (by decide +kernel) (Nat.le_of_ble_eq_true rfl) ?_
  generalize hQF9 : QM Γ _ _ _ = QF9
  have hb9 : b ≤ 9 := by have := C.1.1; omega
  have hb8 := C.1.1
  have hn9 : b ≠ 9 := by omega
  have g0 := C.1.2
  obtain ⟨mq, S⟩ := C.SW
  have hmq := S.2.2.1
  have M1 := S.2.2.2.1
  have X9 := S.2.2.2.2.1
  have WR9 := C.2.2.2.2.2.1
  have H9 := C.2.2.1.his
  have LD := C.LD
  have gt := C.m.2.2.1
  have C9 := C.2.2.2.2.2.2.2.1
  obtain ⟨⟨i1, i2, i3, i4, i5⟩, ⟨e1, e2, e3⟩, p3⟩ := C.2.2.2.2.1
  have p4 : 0 ≤ G 4 ∧ G 4 ≤ 60 := by rw [i1]; exact i2
  have p5 : ∀ k, 0 ≤ k → k < G 4 → 0 ≤ B 41 k ∧ B 41 k < 65536 := by intro k k0 k1; rw [i3]; rw [i1] at k1; exact i4 k ⟨k0, k1⟩
  have sta := C.m.sta
  have lna := C.m.lna
  have exa := C.m.exa
  refine gg_aload dL_character_0 rfl rfl ?_
  refine gi_iconst dL_character_2 ?_
  refine gg_aload_n dL_character_3 rfl rfl ?_
  refine gg_iload_n dL_character_4 rfl ?_
  refine gg_iload_n dL_character_5 rfl ?_
  refine gg_iload_n dL_character_6 rfl ?_
  refine gc_L_64 rfl dL_character_7 ⟨(Nat.le_of_ble_eq_true rfl), (Nat.le_of_ble_eq_true rfl)⟩ ⟨(Nat.le_of_ble_eq_true rfl), (Nat.le_of_ble_eq_true rfl)⟩ (Nat.le_of_ble_eq_true rfl) (HAt.mu gst_30) (c_X9_character hb9 g0 LD hi hl hm) (fun E9 h9 hx9 => by subst hQF9; obtain ⟨q1, rfl, rfl⟩ := hx9; exact gx_code (i := 5) (k := 1) [] [] (0, 12, 15, 43) rfl (fun _ q => absurd q List.not_mem_nil) (by decide) (by decide) (wi_23 _ (List.mem_of_getElem? (i := 7) rfl)) (List.mem_of_getElem? (i := 3) rfl) dL_character_15 (Nat.le_of_ble_eq_true rfl) rfl dL_character_17 dL_character_18 rfl ⟨(Nat.le_of_ble_eq_true rfl), (Nat.le_of_ble_eq_true rfl)⟩ ⟨1, 0, h.2, G, B, b, rfl, by unfold wl9; rw [if_neg (show ¬ (1 : Int) = 0 by decide)], (fun _ _ q => q), Or.inr ⟨fun z => q1 ⟨⟨⟨z.1.1, z.1.2.1⟩, z.1.2.2.1, by rw [C.cn z.1.1 z.1.2.1]; exact z.1.2.2.2⟩, by rw [Int.toNat_of_nonneg z.1.1]; exact z.2⟩, rfl, C⟩⟩) (fun r_7 h_7 hp => ?_)
  obtain ⟨q1, rfl, rfl⟩ := hp
  have q2 := C.ys q1.1
  have hin : ((i.toNat : Nat) : Int) = i := Int.toNat_of_nonneg q1.1.1.1
  rw [hin] at q1 ⊢
  refine gg_i2l dL_character_10  ?_
  refine gg_last dL_character_11 (iN_in (n := 1) (by decide) (by decide) (by decide)) (HPut.mu (Eq.trans gst_24 h24)) ?_
  rw [gst_up9 (Or.inl rfl)]
  refine gg_goto (tgt := 19) dL_character_12 (by decide) ?_
  refine gi_iconst dL_character_19 ?_
  subst hQF9
  refine gg_iret dL_character_20 rfl rfl ⟨(Nat.le_of_ble_eq_true rfl), (Nat.le_of_ble_eq_true rfl)⟩ ?_
  exact ⟨0, _, h.2, G, B, b, rfl, by unfold wl9; rw [if_pos (show (0 : Int) = 0 from rfl)]; rfl, (fun _ _ q => q), Or.inl ⟨⟨q2, q1.2⟩, rfl, rfl, C⟩⟩
set_option maxRecDepth 100000 in
set_option maxHeartbeats 4000000 in
theorem cw_undo {Γ : GT} {h : XH} {G : Nat → Int} {B : Nat → Int → Int} {F : Nat → Int} {A : Nat → Int → Int} {b : Nat} {v : Nat → Int64} (C : CP9 h.2 G B F A b) (h24 : h.1 24 = some (lo9 v))  : Ct Γ M_L_undo [.ref (g_L Γ 30), .ref (g_L Γ 24)] (gst Γ h G B) (fun r h9 => ∃ (k x : Int) (ι' : Nat → Option XE) (G' : Nat → Int) (B' : Nat → Int → Int) (b' : Nat), r = some (.int (iN k)) ∧ h9 = gst Γ (wl9 h v k x, ι') G' B' ∧ ext h.2 ι' ∧ ((0 < F 5 ∧ k = 0 ∧ x = F 5 - 1 ∧ CP9 ι' G' B' (uF F 5 (F 5 - 1)) (uA A 1 (cp (A 4) (A 1) (2609 * (F 5 - 1)) 0 2609)) b') ∨ (F 5 = 0 ∧ k = 1 ∧ CP9 ι' G' B' F A b'))) (fun _ _ => False) := by
  refine Ct.ofH rfl (by decide +kernel) (Nat.le_of_ble_eq_true rfl) ?_
  generalize hQF9 : QM Γ _ _ _ = QF9
  have hb9 : b ≤ 9 := by have := C.1.1; omega
  have hb8 := C.1.1
  have hn9 : b ≠ 9 := by omega
  have g0 := C.1.2
  obtain ⟨mq, S⟩ := C.SW
  have hmq := S.2.2.1
  have M1 := S.2.2.2.1
  have X9 := S.2.2.2.2.1
  have WR9 := C.2.2.2.2.2.1
  have H9 := C.2.2.1.his
  have LD := C.LD
  have gt := C.m.2.2.1
  have C9 := C.2.2.2.2.2.2.2.1
  obtain ⟨⟨i1, i2, i3, i4, i5⟩, ⟨e1, e2, e3⟩, p3⟩ := C.2.2.2.2.1
  have p4 : 0 ≤ G 4 ∧ G 4 ≤ 60 := by rw [i1]; exact i2
  have p5 : ∀ k, 0 ≤ k → k < G 4 → 0 ≤ B 41 k ∧ B 41 k < 65536 := by intro k k0 k1; rw [i3]; rw [i1] at k1; exact i4 k ⟨k0, k1⟩
  have sta := C.m.sta
  have lna := C.m.lna
  have exa := C.m.exa
  obtain ⟨s1, s2, s3, s4, s5, s6⟩ := id C.2.2.1
  refine gg_aload_n dL_undo_0 rfl rfl ?_
  refine gi_iconst dL_undo_1 ?_
  refine gg_aload_n dL_undo_2 rfl rfl ?_
  refine gc_L_109 rfl dL_undo_3 ⟨(Nat.le_of_ble_eq_true rfl), (Nat.le_of_ble_eq_true rfl)⟩ ⟨(Nat.le_of_ble_eq_true rfl), (Nat.le_of_ble_eq_true rfl)⟩ (Nat.le_of_ble_eq_true rfl) (HAt.mu gst_30) (c_X9_undo hb9 g0 H9) (fun E9 h9 hx9 => by subst hQF9; rw [s2] at hx9; obtain ⟨q1, rfl, rfl⟩ := hx9; exact gx_code_n (k9 := 2) (k := 1) [] [] (0, 8, 11, 13) rfl (fun _ q => absurd q List.not_mem_nil) (by decide) (by decide) (wi_7 _ (List.mem_of_getElem? (i := 0) rfl)) (List.mem_of_getElem? (i := 0) rfl) dL_undo_11 (Nat.le_of_ble_eq_true rfl) rfl dL_undo_12 dL_undo_13 rfl ⟨(Nat.le_of_ble_eq_true rfl), (Nat.le_of_ble_eq_true rfl)⟩ ⟨1, 0, h.2, G, B, b, rfl, by unfold wl9; rw [if_neg (show ¬ (1 : Int) = 0 by decide)], (fun _ _ q => q), Or.inr ⟨by omega, rfl, C⟩⟩) (fun r_3 h_3 hp => ?_)
  rw [s2] at hp
  obtain ⟨q1, rfl, rfl⟩ := hp
  have KK := K_undo (F2 := uF F 5 (F 5 - 1)) C q1 (by simp only [uF_s, uF_n, ne_eq, Nat.reduceEqDiff, not_false_eq_true]) (by simp only [uF_s, uF_n, ne_eq, Nat.reduceEqDiff, not_false_eq_true]) (by simp only [uF_s, uF_n, ne_eq, Nat.reduceEqDiff, not_false_eq_true]) (by simp only [uF_s, uF_n, ne_eq, Nat.reduceEqDiff, not_false_eq_true]) (by simp only [uF_s, uF_n, ne_eq, Nat.reduceEqDiff, not_false_eq_true])
  refine gg_i2l dL_undo_6  ?_
  refine gg_last dL_undo_7 (iN_in (n := 1) (by decide) (by decide) (by decide)) (HPut.mu (Eq.trans gst_24 h24)) ?_
  rw [gst_up9 (Or.inl rfl)]
  refine gg_goto (tgt := 14) dL_undo_8 (by decide) ?_
  refine gi_iconst dL_undo_14 ?_
  subst hQF9
  refine gg_iret dL_undo_15 rfl rfl ⟨(Nat.le_of_ble_eq_true rfl), (Nat.le_of_ble_eq_true rfl)⟩ ?_
  exact ⟨0, _, h.2, _, _, _, rfl, by unfold wl9; rw [if_pos (show (0 : Int) = 0 from rfl)]; rfl, (fun _ _ q => q), Or.inl ⟨q1, rfl, rfl, KK⟩⟩
set_option maxRecDepth 100000 in
set_option maxHeartbeats 4000000 in
theorem cw_restore {Γ : GT} {h : XH} {G : Nat → Int} {B : Nat → Int → Int} {F : Nat → Int} {A : Nat → Int → Int} {b : Nat} {v : Nat → Int64} (C : CP9 h.2 G B F A b) (h24 : h.1 24 = some (lo9 v))  : Ct Γ M_L_restore [.ref (g_L Γ 30), .ref (g_L Γ 24)] (gst Γ h G B) (fun r h9 => ∃ (k x : Int) (ι' : Nat → Option XE) (G' : Nat → Int) (B' : Nat → Int → Int) (b' : Nat), r = some (.int (iN k)) ∧ h9 = gst Γ (wl9 h v k x, ι') G' B' ∧ ext h.2 ι' ∧ ((F 6 = 1 ∧ k = 0 ∧ x = A 3 5 + A 3 6 + A 3 7 + A 3 8 ∧ CP9 ι' G' B' (uF F 5 0) (uA A 1 (cp (A 3) (A 1) 0 0 2609)) b') ∨ (F 6 = 0 ∧ k = 1 ∧ CP9 ι' G' B' F A b'))) (fun _ _ => False) := by
  refine Ct.ofH rfl (by decide +kernel) (Nat.le_of_ble_eq_true rfl) ?_
  generalize hQF9 : QM Γ _ _ _ = QF9
  have hb9 : b ≤ 9 := by have := C.1.1; omega
  have hb8 := C.1.1
  have hn9 : b ≠ 9 := by omega
  have g0 := C.1.2
  obtain ⟨mq, S⟩ := C.SW
  have hmq := S.2.2.1
  have M1 := S.2.2.2.1
  have X9 := S.2.2.2.2.1
  have WR9 := C.2.2.2.2.2.1
  have H9 := C.2.2.1.his
  have LD := C.LD
  have gt := C.m.2.2.1
  have C9 := C.2.2.2.2.2.2.2.1
  obtain ⟨⟨i1, i2, i3, i4, i5⟩, ⟨e1, e2, e3⟩, p3⟩ := C.2.2.2.2.1
  have p4 : 0 ≤ G 4 ∧ G 4 ≤ 60 := by rw [i1]; exact i2
  have p5 : ∀ k, 0 ≤ k → k < G 4 → 0 ≤ B 41 k ∧ B 41 k < 65536 := by intro k k0 k1; rw [i3]; rw [i1] at k1; exact i4 k ⟨k0, k1⟩
  have sta := C.m.sta
  have lna := C.m.lna
  have exa := C.m.exa
  refine gg_aload_n dL_restore_0 rfl rfl ?_
  refine gi_iconst dL_restore_1 ?_
  refine gg_aload_n dL_restore_2 rfl rfl ?_
  refine gc_L_112 rfl dL_restore_3 ⟨(Nat.le_of_ble_eq_true rfl), (Nat.le_of_ble_eq_true rfl)⟩ ⟨(Nat.le_of_ble_eq_true rfl), (Nat.le_of_ble_eq_true rfl)⟩ (Nat.le_of_ble_eq_true rfl) (HAt.mu gst_30) (c_X9_restore hb9 g0 (m9 := (G 190).toNat) (by have : 0 ≤ G 190 := C.2.2.2.2.2.2.2.2.2 9 (by omega); omega) WR9 hn9 (by rw [C.2.2.2.1.2.1]; exact C.2.2.2.1.1)) (fun E9 h9 hx9 => by subst hQF9; rw [C.2.2.2.1.2.1] at hx9; obtain ⟨q1, rfl, rfl⟩ := hx9; exact gx_code_n (k9 := 2) (k := 1) [] [] (0, 8, 11, 13) rfl (fun _ q => absurd q List.not_mem_nil) (by decide) (by decide) (wi_7 _ (List.mem_of_getElem? (i := 0) rfl)) (List.mem_of_getElem? (i := 0) rfl) dL_restore_11 (Nat.le_of_ble_eq_true rfl) rfl dL_restore_12 dL_restore_13 rfl ⟨(Nat.le_of_ble_eq_true rfl), (Nat.le_of_ble_eq_true rfl)⟩ ⟨1, 0, h.2, G, B, b, rfl, by unfold wl9; rw [if_neg (show ¬ (1 : Int) = 0 by decide)], (fun _ _ q => q), Or.inr ⟨by omega, rfl, C⟩⟩) (fun r_3 h_3 hp => ?_)
  rw [C.2.2.2.1.2.1] at hp
  obtain ⟨q1, rfl, rfl⟩ := hp
  have KK := K_restore (F2 := uF F 5 0) C q1 (by simp only [uF_s, uF_n, ne_eq, Nat.reduceEqDiff, not_false_eq_true]) (by simp only [uF_s, uF_n, ne_eq, Nat.reduceEqDiff, not_false_eq_true]) (by simp only [uF_s, uF_n, ne_eq, Nat.reduceEqDiff, not_false_eq_true]) (by simp only [uF_s, uF_n, ne_eq, Nat.reduceEqDiff, not_false_eq_true]) (by simp only [uF_s, uF_n, ne_eq, Nat.reduceEqDiff, not_false_eq_true])
  have ms := KK.m.2.2.2.2.1
  have ev : lcS (uF (bcG G b 9) 1 0) b 4 = A 3 5 + A 3 6 + A 3 7 + A 3 8 := by
    have d0 := (ms 0 (by omega)).1
    have d1 := (ms 1 (by omega)).1
    have d2 := (ms 2 (by omega)).1
    have d3 := (ms 3 (by omega)).1
    rw [uA_s] at d0 d1 d2 d3
    have ci : ∀ z, 0 ≤ z → z < 2609 → cp (A 3) (A 1) 0 0 2609 z = A 3 z := fun z z0 z1 => by unfold cp; rw [if_pos (by omega)]; congr 1; omega
    rw [ci _ (by omega) (by omega)] at d0 d1 d2 d3
    show 0 + uF (bcG G b 9) 1 0 (103 + 10 * b + 0) + uF (bcG G b 9) 1 0 (103 + 10 * b + 1) + uF (bcG G b 9) 1 0 (103 + 10 * b + 2) + uF (bcG G b 9) 1 0 (103 + 10 * b + 3) = _
    rw [d0, d1, d2, d3, Int.zero_add]; rfl
  rw [ev]
  refine gg_i2l dL_restore_6  ?_
  refine gg_last dL_restore_7 (iN_in (n := 1) (by decide) (by decide) (by decide)) (HPut.mu (Eq.trans gst_24 h24)) ?_
  rw [gst_up9 (Or.inl rfl)]
  refine gg_goto (tgt := 14) dL_restore_8 (by decide) ?_
  refine gi_iconst dL_restore_14 ?_
  subst hQF9
  refine gg_iret dL_restore_15 rfl rfl ⟨(Nat.le_of_ble_eq_true rfl), (Nat.le_of_ble_eq_true rfl)⟩ ?_
  exact ⟨0, _, h.2, _, _, _, rfl, by unfold wl9; rw [if_pos (show (0 : Int) = 0 from rfl)]; rfl, (fun _ _ q => q), Or.inl ⟨q1, rfl, rfl, KK⟩⟩
set_option maxRecDepth 100000 in
set_option maxHeartbeats 4000000 in
theorem cw_addLine {Γ : GT} {h : XH} {G : Nat → Int} {B : Nat → Int → Int} {F : Nat → Int} {A : Nat → Int → Int} {b : Nat} {v : Nat → Int64} (C : CP9 h.2 G B F A b) (h24 : h.1 24 = some (lo9 v))  {i l : Int} (hi : InR i) (hl : InR l) : Ct Γ M_L_addLine [.ref (g_L Γ 30), .int (iN i), .int (iN l), .ref (g_L Γ 24)] (gst Γ h G B) (fun r h9 => ∃ (k x : Int) (ι' : Nat → Option XE) (G' : Nat → Int) (B' : Nat → Int → Int) (b' : Nat), r = some (.int (iN k)) ∧ h9 = gst Γ (wl9 h v k x, ι') G' B' ∧ ext h.2 ι' ∧ ((((0 ≤ i ∧ i ≤ 3) ∧ 0 ≤ l ∧ l ≤ A 1 (5 + i)) ∧ (parseL (A 5) (F 8) 12 0).1 = true ∧ A 1 (5 + i) < 10 ∧ k = 0 ∧ x = ((parseL (A 5) (F 8) 12 0).2.2.length : Int) ∧ CP9 ι' G' B' (uF (uF F 8 0) 5 (kc (F 5))) (uA (uA A 1 (lyA (up (shu (A 1) (169 + 61 * (10 * i + l)) (169 + 61 * (10 * i + A 1 (5 + i))) 61) (5 + i) (A 1 (5 + i) + 1)) (A 5) (F 8) (169 + 61 * (10 * i + l)) 60)) 4 (kA A (F 5))) b') ∨ (¬ ((0 ≤ i ∧ i ≤ 3) ∧ 0 ≤ l ∧ l ≤ A 1 (5 + i)) ∧ k = 1 ∧ CP9 ι' G' B' F A b') ∨ (((0 ≤ i ∧ i ≤ 3) ∧ 0 ≤ l ∧ l ≤ A 1 (5 + i)) ∧ (parseL (A 5) (F 8) 12 0).1 = false ∧ k = 2 ∧ CP9 ι' G' B' (uF (uF F 8 0) 10 (parseL (A 5) (F 8) 12 0).2.1) A b') ∨ (((0 ≤ i ∧ i ≤ 3) ∧ 0 ≤ l ∧ l ≤ A 1 (5 + i)) ∧ (parseL (A 5) (F 8) 12 0).1 = true ∧ ¬ A 1 (5 + i) < 10 ∧ k = 3 ∧ CP9 ι' G' B' (uF F 8 0) A b'))) (fun _ _ => False) := by
  refine Ct.ofH rfl (by decide +kernel) (Nat.le_of_ble_eq_true rfl) ?_
  generalize hQF9 : QM Γ _ _ _ = QF9
  have hb9 : b ≤ 9 := by have := C.1.1; omega
  have hb8 := C.1.1
  have hn9 : b ≠ 9 := by omega
  have g0 := C.1.2
  obtain ⟨mq, S⟩ := C.SW
  have hmq := S.2.2.1
  have M1 := S.2.2.2.1
  have X9 := S.2.2.2.2.1
  have WR9 := C.2.2.2.2.2.1
  have H9 := C.2.2.1.his
  have LD := C.LD
  have gt := C.m.2.2.1
  have C9 := C.2.2.2.2.2.2.2.1
  obtain ⟨⟨i1, i2, i3, i4, i5⟩, ⟨e1, e2, e3⟩, p3⟩ := C.2.2.2.2.1
  have p4 : 0 ≤ G 4 ∧ G 4 ≤ 60 := by rw [i1]; exact i2
  have p5 : ∀ k, 0 ≤ k → k < G 4 → 0 ≤ B 41 k ∧ B 41 k < 65536 := by intro k k0 k1; rw [i3]; rw [i1] at k1; exact i4 k ⟨k0, k1⟩
  have sta := C.m.sta
  have lna := C.m.lna
  have exa := C.m.exa
  have pr : 0 ≤ (parseL (A 5) (F 8) 12 0).2.1 ∧ (parseL (A 5) (F 8) 12 0).2.1 ≤ 60 := by have := parseL_pos (f := A 5) (n := F 8) 12 0 (by omega) (by omega); omega
  refine gg_aload_n dL_addLine_0 rfl rfl ?_
  refine gi_iconst dL_addLine_1 ?_
  refine gg_aload_n dL_addLine_2 rfl rfl ?_
  refine gg_iload_n dL_addLine_3 rfl ?_
  refine gg_iload_n dL_addLine_4 rfl ?_
  refine gc_L_45 rfl dL_addLine_5 ⟨(Nat.le_of_ble_eq_true rfl), (Nat.le_of_ble_eq_true rfl)⟩ ⟨(Nat.le_of_ble_eq_true rfl), (Nat.le_of_ble_eq_true rfl)⟩ (Nat.le_of_ble_eq_true rfl) (HAt.mu gst_30) (c_X9_addLine hb9 g0 hmq WR9 H9 LD p4 p5 hi hl) (fun E9 h9 hx9 => by subst hQF9; rw [i1, i3] at hx9; rcases hx9 with ⟨q1, rfl, rfl⟩ | ⟨q1, ι', B1, hX, hB1, rfl, ⟨q2, rfl⟩ | ⟨q2, q3, rfl⟩⟩; (exact gx_code (i := 4) (k := 1) [] [(0, 10, 17, 25), (0, 10, 21, 13)] (0, 10, 13, 43) rfl (fun _ q => absurd q List.not_mem_nil) (by decide) (by decide) (wi_23 _ (List.mem_of_getElem? (i := 7) rfl)) (List.mem_of_getElem? (i := 3) rfl) dL_addLine_13 (Nat.le_of_ble_eq_true rfl) rfl dL_addLine_15 dL_addLine_16 rfl ⟨(Nat.le_of_ble_eq_true rfl), (Nat.le_of_ble_eq_true rfl)⟩ ⟨1, 0, h.2, G, B, b, rfl, by unfold wl9; rw [if_neg (show ¬ (1 : Int) = 0 by decide)], (fun _ _ q => q), Or.inr (Or.inl ⟨fun z => q1 ⟨z.1, z.2.1, by rw [C.cn z.1.1 z.1.2]; exact z.2.2⟩, rfl, C⟩)⟩); (rw [C.cn q1.1.1 q1.1.2] at q1; exact gx_code (i := 4) (k := 2) [(0, 10, 13, 43)] [(0, 10, 21, 13)] (0, 10, 17, 25) rfl (List.forall_mem_cons.mpr ⟨⟨by decide, _, wi_23 _ (List.mem_of_getElem? (i := 7) rfl), List.mem_of_getElem? (i := 10) rfl⟩, (fun _ q => absurd q List.not_mem_nil)⟩) (by decide) (by decide) (wi_8 _ (List.mem_of_getElem? (i := 18) rfl)) (List.mem_of_getElem? (i := 2) rfl) dL_addLine_17 (Nat.le_of_ble_eq_true rfl) rfl dL_addLine_19 dL_addLine_20 rfl ⟨(Nat.le_of_ble_eq_true rfl), (Nat.le_of_ble_eq_true rfl)⟩ ⟨2, 0, ι', _, _, b, rfl, by unfold wl9; rw [if_neg (show ¬ (2 : Int) = 0 by decide)], hX, Or.inr (Or.inr (Or.inl ⟨q1, q2, rfl, CP9.tk C hX hB1 pr (by simp only [uF_s, uF_n, ne_eq, Nat.reduceEqDiff, not_false_eq_true]) (by simp only [uF_s, uF_n, ne_eq, Nat.reduceEqDiff, not_false_eq_true]) (by simp only [uF_s, uF_n, ne_eq, Nat.reduceEqDiff, not_false_eq_true]) (by rw [if_neg (by rw [q2]; decide), uF_s]) (by simp only [uF_s, uF_n, ne_eq, Nat.reduceEqDiff, not_false_eq_true])⟩))⟩); (rw [C.cn q1.1.1 q1.1.2] at q1 q3; exact gx_code (i := 4) (k := 3) [(0, 10, 13, 43), (0, 10, 17, 25)] [] (0, 10, 21, 13) rfl (List.forall_mem_cons.mpr ⟨⟨by decide, _, wi_23 _ (List.mem_of_getElem? (i := 7) rfl), List.mem_of_getElem? (i := 2) rfl⟩, (List.forall_mem_cons.mpr ⟨⟨by decide, _, wi_8 _ (List.mem_of_getElem? (i := 18) rfl), List.mem_of_getElem? (i := 1) rfl⟩, (fun _ q => absurd q List.not_mem_nil)⟩)⟩) (by decide) (by decide) (wi_7 _ (List.mem_of_getElem? (i := 0) rfl)) (List.mem_of_getElem? (i := 0) rfl) dL_addLine_21 (Nat.le_of_ble_eq_true rfl) rfl dL_addLine_23 dL_addLine_24 rfl ⟨(Nat.le_of_ble_eq_true rfl), (Nat.le_of_ble_eq_true rfl)⟩ ⟨3, 0, ι', _, _, b, rfl, by unfold wl9; rw [if_neg (show ¬ (3 : Int) = 0 by decide)], hX, Or.inr (Or.inr (Or.inr ⟨q1, q2, q3, rfl, CP9.tk C hX hB1 pr (by simp only [uF_s, uF_n, ne_eq, Nat.reduceEqDiff, not_false_eq_true]) (by simp only [uF_s, uF_n, ne_eq, Nat.reduceEqDiff, not_false_eq_true]) (by simp only [uF_s, uF_n, ne_eq, Nat.reduceEqDiff, not_false_eq_true]) (by rw [if_pos q2]; simp only [uF_s, uF_n, ne_eq, Nat.reduceEqDiff, not_false_eq_true]) (by simp only [uF_s, uF_n, ne_eq, Nat.reduceEqDiff, not_false_eq_true])⟩))⟩)) (fun r_5 h_5 hp => ?_)
  rw [i1, i3] at hp
  obtain ⟨q1, q2, q3, ι', B1, q, hX, hB1, hq9, rfl, rfl⟩ := hp
  have cn := C.cn q1.1.1 q1.1.2
  have hin : ((i.toNat : Nat) : Int) = i := Int.toNat_of_nonneg q1.1.1
  rw [cn]
  rw [cn] at q1 q3
  have C1 : CP9 ι' (tkG G ((parseL (A 5) (F 8) 12 0).1 = true) (parseL (A 5) (F 8) 12 0).2.1) B1 (uF F 8 0) A b := CP9.tk C hX hB1 pr (by simp only [uF_s, uF_n, ne_eq, Nat.reduceEqDiff, not_false_eq_true]) (by simp only [uF_s, uF_n, ne_eq, Nat.reduceEqDiff, not_false_eq_true]) (by simp only [uF_s, uF_n, ne_eq, Nat.reduceEqDiff, not_false_eq_true]) (by rw [if_pos q2]; simp only [uF_s, uF_n, ne_eq, Nat.reduceEqDiff, not_false_eq_true]) (by simp only [uF_s, uF_n, ne_eq, Nat.reduceEqDiff, not_false_eq_true])
  have KK := K_addLine (F := uF F 8 0) (F2 := uF (uF F 8 0) 5 (kc (F 5))) C1 (fun _ _ q => q) (d := i.toNat) (q := q) (t := l) (by omega) (by rw [hin]; exact q1.2) (by rw [hin]; exact q3) hq9 i5 (by simp only [uF_s, uF_n, ne_eq, Nat.reduceEqDiff, not_false_eq_true]) (by simp only [uF_s, uF_n, ne_eq, Nat.reduceEqDiff, not_false_eq_true]) (by simp only [uF_s, uF_n, ne_eq, Nat.reduceEqDiff, not_false_eq_true]) (by simp only [uF_s, uF_n, ne_eq, Nat.reduceEqDiff, not_false_eq_true]) (by simp only [uF_s, uF_n, ne_eq, Nat.reduceEqDiff, not_false_eq_true])
  rw [hin] at KK
  refine gg_i2l dL_addLine_8  ?_
  refine gg_last dL_addLine_9 (iN_in (n := 1) (by decide) (by decide) (by decide)) (HPut.mu (Eq.trans gst_24 h24)) ?_
  rw [gst_up9 (Or.inl rfl)]
  refine gg_goto (tgt := 25) dL_addLine_10 (by decide) ?_
  refine gi_iconst dL_addLine_25 ?_
  subst hQF9
  refine gg_iret dL_addLine_26 rfl rfl ⟨(Nat.le_of_ble_eq_true rfl), (Nat.le_of_ble_eq_true rfl)⟩ ?_
  exact ⟨0, _, ι', _, _, b, rfl, by unfold wl9; rw [if_pos (show (0 : Int) = 0 from rfl)]; rfl, hX, Or.inl ⟨q1, q2, q3, rfl, rfl, KK⟩⟩
set_option maxRecDepth 100000 in
set_option maxHeartbeats 4000000 in
theorem cw_replaceLine {Γ : GT} {h : XH} {G : Nat → Int} {B : Nat → Int → Int} {F : Nat → Int} {A : Nat → Int → Int} {b : Nat} {v : Nat → Int64} (C : CP9 h.2 G B F A b) (h24 : h.1 24 = some (lo9 v))  {i l : Int} (hi : InR i) (hl : InR l) : Ct Γ M_L_replaceLine [.ref (g_L Γ 30), .int (iN i), .int (iN l), .ref (g_L Γ 24)] (gst Γ h G B) (fun r h9 => ∃ (k x : Int) (ι' : Nat → Option XE) (G' : Nat → Int) (B' : Nat → Int → Int) (b' : Nat), r = some (.int (iN k)) ∧ h9 = gst Γ (wl9 h v k x, ι') G' B' ∧ ext h.2 ι' ∧ (((0 ≤ i ∧ i ≤ 3 ∧ 0 ≤ l ∧ l < A 1 (5 + i)) ∧ (parseL (A 5) (F 8) 12 0).1 = true ∧ k = 0 ∧ x = ((parseL (A 5) (F 8) 12 0).2.2.length : Int) ∧ CP9 ι' G' B' (uF (uF F 8 0) 5 (kc (F 5))) (uA (uA A 1 (lyA (A 1) (A 5) (F 8) (169 + 61 * (10 * i + l)) 60)) 4 (kA A (F 5))) b') ∨ (¬ (0 ≤ i ∧ i ≤ 3 ∧ 0 ≤ l ∧ l < A 1 (5 + i)) ∧ k = 1 ∧ CP9 ι' G' B' F A b') ∨ ((0 ≤ i ∧ i ≤ 3 ∧ 0 ≤ l ∧ l < A 1 (5 + i)) ∧ (parseL (A 5) (F 8) 12 0).1 = false ∧ k = 2 ∧ CP9 ι' G' B' (uF (uF F 8 0) 10 (parseL (A 5) (F 8) 12 0).2.1) A b'))) (fun _ _ => False) := by
  refine Ct.ofH rfl (by decide +kernel) (Nat.le_of_ble_eq_true rfl) ?_
  generalize hQF9 : QM Γ _ _ _ = QF9
  have hb9 : b ≤ 9 := by have := C.1.1; omega
  have hb8 := C.1.1
  have hn9 : b ≠ 9 := by omega
  have g0 := C.1.2
  obtain ⟨mq, S⟩ := C.SW
  have hmq := S.2.2.1
  have M1 := S.2.2.2.1
  have X9 := S.2.2.2.2.1
  have WR9 := C.2.2.2.2.2.1
  have H9 := C.2.2.1.his
  have LD := C.LD
  have gt := C.m.2.2.1
  have C9 := C.2.2.2.2.2.2.2.1
  obtain ⟨⟨i1, i2, i3, i4, i5⟩, ⟨e1, e2, e3⟩, p3⟩ := C.2.2.2.2.1
  have p4 : 0 ≤ G 4 ∧ G 4 ≤ 60 := by rw [i1]; exact i2
  have p5 : ∀ k, 0 ≤ k → k < G 4 → 0 ≤ B 41 k ∧ B 41 k < 65536 := by intro k k0 k1; rw [i3]; rw [i1] at k1; exact i4 k ⟨k0, k1⟩
  have sta := C.m.sta
  have lna := C.m.lna
  have exa := C.m.exa
  have pr : 0 ≤ (parseL (A 5) (F 8) 12 0).2.1 ∧ (parseL (A 5) (F 8) 12 0).2.1 ≤ 60 := by have := parseL_pos (f := A 5) (n := F 8) 12 0 (by omega) (by omega); omega
  refine gg_aload_n dL_replaceLine_0 rfl rfl ?_
  refine gi_iconst dL_replaceLine_1 ?_
  refine gg_aload_n dL_replaceLine_2 rfl rfl ?_
  refine gg_iload_n dL_replaceLine_3 rfl ?_
  refine gg_iload_n dL_replaceLine_4 rfl ?_
  refine gc_L_49 rfl dL_replaceLine_5 ⟨(Nat.le_of_ble_eq_true rfl), (Nat.le_of_ble_eq_true rfl)⟩ ⟨(Nat.le_of_ble_eq_true rfl), (Nat.le_of_ble_eq_true rfl)⟩ (Nat.le_of_ble_eq_true rfl) (HAt.mu gst_30) (c_X9_replaceLine hb9 g0 hmq WR9 H9 LD p4 p5 hi hl) (fun E9 h9 hx9 => by subst hQF9; rw [i1, i3] at hx9; rcases hx9 with ⟨q1, rfl, rfl⟩ | ⟨q1, q2, rfl, ι', B1, hX, hB1, rfl⟩; (exact gx_code (i := 4) (k := 1) [] [(0, 10, 17, 25)] (0, 10, 13, 43) rfl (fun _ q => absurd q List.not_mem_nil) (by decide) (by decide) (wi_23 _ (List.mem_of_getElem? (i := 7) rfl)) (List.mem_of_getElem? (i := 3) rfl) dL_replaceLine_13 (Nat.le_of_ble_eq_true rfl) rfl dL_replaceLine_15 dL_replaceLine_16 rfl ⟨(Nat.le_of_ble_eq_true rfl), (Nat.le_of_ble_eq_true rfl)⟩ ⟨1, 0, h.2, G, B, b, rfl, by unfold wl9; rw [if_neg (show ¬ (1 : Int) = 0 by decide)], (fun _ _ q => q), Or.inr (Or.inl ⟨C.no q1, rfl, C⟩)⟩); (exact gx_code (i := 4) (k := 2) [(0, 10, 13, 43)] [] (0, 10, 17, 25) rfl (List.forall_mem_cons.mpr ⟨⟨by decide, _, wi_23 _ (List.mem_of_getElem? (i := 7) rfl), List.mem_of_getElem? (i := 10) rfl⟩, (fun _ q => absurd q List.not_mem_nil)⟩) (by decide) (by decide) (wi_8 _ (List.mem_of_getElem? (i := 18) rfl)) (List.mem_of_getElem? (i := 2) rfl) dL_replaceLine_17 (Nat.le_of_ble_eq_true rfl) rfl dL_replaceLine_19 dL_replaceLine_20 rfl ⟨(Nat.le_of_ble_eq_true rfl), (Nat.le_of_ble_eq_true rfl)⟩ ⟨2, 0, ι', _, _, b, rfl, by unfold wl9; rw [if_neg (show ¬ (2 : Int) = 0 by decide)], hX, Or.inr (Or.inr ⟨C.ys q1, q2, rfl, CP9.tk C hX hB1 pr (by simp only [uF_s, uF_n, ne_eq, Nat.reduceEqDiff, not_false_eq_true]) (by simp only [uF_s, uF_n, ne_eq, Nat.reduceEqDiff, not_false_eq_true]) (by simp only [uF_s, uF_n, ne_eq, Nat.reduceEqDiff, not_false_eq_true]) (by rw [if_neg (by rw [q2]; decide), uF_s]) (by simp only [uF_s, uF_n, ne_eq, Nat.reduceEqDiff, not_false_eq_true])⟩)⟩)) (fun r_5 h_5 hp => ?_)
  rw [i1, i3] at hp
  obtain ⟨q1, q2, ι', B1, q, hX, hB1, hq9, rfl, rfl⟩ := hp
  have q4 := C.ys q1
  have hin : ((i.toNat : Nat) : Int) = i := Int.toNat_of_nonneg q1.1.1
  have C1 : CP9 ι' (tkG G ((parseL (A 5) (F 8) 12 0).1 = true) (parseL (A 5) (F 8) 12 0).2.1) B1 (uF F 8 0) A b := CP9.tk C hX hB1 pr (by simp only [uF_s, uF_n, ne_eq, Nat.reduceEqDiff, not_false_eq_true]) (by simp only [uF_s, uF_n, ne_eq, Nat.reduceEqDiff, not_false_eq_true]) (by simp only [uF_s, uF_n, ne_eq, Nat.reduceEqDiff, not_false_eq_true]) (by rw [if_pos q2]; simp only [uF_s, uF_n, ne_eq, Nat.reduceEqDiff, not_false_eq_true]) (by simp only [uF_s, uF_n, ne_eq, Nat.reduceEqDiff, not_false_eq_true])
  have KK := K_replaceLine (F := uF F 8 0) (F2 := uF (uF F 8 0) 5 (kc (F 5))) C1 (fun _ _ q => q) (d := i.toNat) (q := q) (l := l) (by omega) (by rw [hin]; exact q4.2.2) hq9 i5 (by simp only [uF_s, uF_n, ne_eq, Nat.reduceEqDiff, not_false_eq_true]) (by simp only [uF_s, uF_n, ne_eq, Nat.reduceEqDiff, not_false_eq_true]) (by simp only [uF_s, uF_n, ne_eq, Nat.reduceEqDiff, not_false_eq_true]) (by simp only [uF_s, uF_n, ne_eq, Nat.reduceEqDiff, not_false_eq_true]) (by simp only [uF_s, uF_n, ne_eq, Nat.reduceEqDiff, not_false_eq_true])
  rw [hin] at KK
  refine gg_i2l dL_replaceLine_8  ?_
  refine gg_last dL_replaceLine_9 (iN_in (n := 1) (by decide) (by decide) (by decide)) (HPut.mu (Eq.trans gst_24 h24)) ?_
  rw [gst_up9 (Or.inl rfl)]
  refine gg_goto (tgt := 21) dL_replaceLine_10 (by decide) ?_
  refine gi_iconst dL_replaceLine_21 ?_
  subst hQF9
  refine gg_iret dL_replaceLine_22 rfl rfl ⟨(Nat.le_of_ble_eq_true rfl), (Nat.le_of_ble_eq_true rfl)⟩ ?_
  exact ⟨0, _, ι', _, _, b, rfl, by unfold wl9; rw [if_pos (show (0 : Int) = 0 from rfl)]; rfl, hX, Or.inl ⟨q4, q2, rfl, rfl, KK⟩⟩
set_option maxRecDepth 100000 in
set_option maxHeartbeats 4000000 in
theorem cw_readException {Γ : GT} {h : XH} {G : Nat → Int} {B : Nat → Int → Int} {F : Nat → Int} {A : Nat → Int → Int} {b : Nat} {v : Nat → Int64} (C : CP9 h.2 G B F A b) (h24 : h.1 24 = some (lo9 v))  {wv : Int} (hw : wv = (wlen (A 5) (F 8) 12 0)) : Ct Γ M_L_readException [.ref (g_L Γ 30), .ref (g_L Γ 24)] (gst Γ h G B) (fun r h9 => ∃ (k x : Int) (ι' : Nat → Option XE) (G' : Nat → Int) (B' : Nat → Int → Int) (b' : Nat), r = some (.int (iN k)) ∧ h9 = gst Γ (wl9 h v k x, ι') G' B' ∧ ext h.2 ι' ∧ (((rxO (A 5) (F 8) wv ∧ (dgR (A 5) (F 8) 6 (wv + 1)) ≠ 0 ∧ wv + 1 + (dgR (A 5) (F 8) 6 (wv + 1)) = F 8) ∧ (if exO (A 1) (A 5) 0 wv = -1 then A 1 4 else exO (A 1) (A 5) 0 wv) < 8 ∧ k = 0 ∧ x = (if exO (A 1) (A 5) 0 wv = -1 then A 1 4 else exO (A 1) (A 5) 0 wv) ∧ ∀ m6 : Int → Int, (∀ k, 0 ≤ k → k < (dgR (A 5) (F 8) 6 (wv + 1)) → m6 k = A 5 (wv + 1 + k) - 48) → CP9 ι' G' B' (uF (uF F 8 0) 5 (kc (F 5))) (uA (uA (uA A 1 (rxA (A 1) (A 5) wv (dgR (A 5) (F 8) 6 (wv + 1)) (if exO (A 1) (A 5) 0 wv = -1 then A 1 4 else exO (A 1) (A 5) 0 wv) m6)) 4 (kA A (F 5))) 6 m6) b') ∨ (¬ (rxO (A 5) (F 8) wv ∧ (dgR (A 5) (F 8) 6 (wv + 1)) ≠ 0 ∧ wv + 1 + (dgR (A 5) (F 8) 6 (wv + 1)) = F 8) ∧ k = 1 ∧ CP9 ι' G' B' (uF (uF F 8 0) 10 (if rxO (A 5) (F 8) wv then wv + 1 + (dgR (A 5) (F 8) 6 (wv + 1)) else wv)) A b') ∨ ((rxO (A 5) (F 8) wv ∧ (dgR (A 5) (F 8) 6 (wv + 1)) ≠ 0 ∧ wv + 1 + (dgR (A 5) (F 8) 6 (wv + 1)) = F 8) ∧ ¬ (if exO (A 1) (A 5) 0 wv = -1 then A 1 4 else exO (A 1) (A 5) 0 wv) < 8 ∧ k = 2 ∧ CP9 ι' G' B' (uF F 8 0) A b'))) (fun _ _ => False) := by
  refine Ct.ofH rfl (by decide +kernel) (Nat.le_of_ble_eq_true rfl) ?_
  generalize hQF9 : QM Γ _ _ _ = QF9
  have hb9 : b ≤ 9 := by have := C.1.1; omega
  have hb8 := C.1.1
  have hn9 : b ≠ 9 := by omega
  have g0 := C.1.2
  obtain ⟨mq, S⟩ := C.SW
  have hmq := S.2.2.1
  have M1 := S.2.2.2.1
  have X9 := S.2.2.2.2.1
  have WR9 := C.2.2.2.2.2.1
  have H9 := C.2.2.1.his
  have LD := C.LD
  have gt := C.m.2.2.1
  have C9 := C.2.2.2.2.2.2.2.1
  obtain ⟨⟨i1, i2, i3, i4, i5⟩, ⟨e1, e2, e3⟩, p3⟩ := C.2.2.2.2.1
  have p4 : 0 ≤ G 4 ∧ G 4 ≤ 60 := by rw [i1]; exact i2
  have p5 : ∀ k, 0 ≤ k → k < G 4 → 0 ≤ B 41 k ∧ B 41 k < 65536 := by intro k k0 k1; rw [i3]; rw [i1] at k1; exact i4 k ⟨k0, k1⟩
  have sta := C.m.sta
  have lna := C.m.lna
  have exa := C.m.exa
  have wr := wlen_r (A 5) (F 8) 12 0
  rw [← hw] at wr
  have dr := dgR_r (A 5) (F 8) 6 (wv + 1)
  have er := exO_r (a := A 1) (r := A 5) (fr := 0) (n := wv) X9.1.2.1
  have x4 := X9.1.2
  have pr : 0 ≤ (if rxO (A 5) (F 8) wv then wv + 1 + (dgR (A 5) (F 8) 6 (wv + 1)) else wv) ∧ (if rxO (A 5) (F 8) wv then wv + 1 + (dgR (A 5) (F 8) 6 (wv + 1)) else wv) ≤ 60 := by
    split
    · rename_i z; have := dr.2.2 (by have := z.2.1; omega); omega
    · omega
  have nr : (0 ≤ (if exO (A 1) (A 5) 0 wv = -1 then A 1 4 else exO (A 1) (A 5) 0 wv) ∧ (if exO (A 1) (A 5) 0 wv = -1 then A 1 4 else exO (A 1) (A 5) 0 wv) < 8 → (0 ≤ (if exO (A 1) (A 5) 0 wv = -1 then A 1 4 else exO (A 1) (A 5) 0 wv) ∧ (if exO (A 1) (A 5) 0 wv = -1 then A 1 4 else exO (A 1) (A 5) 0 wv) < 8) ∧ (if exO (A 1) (A 5) 0 wv = -1 then A 1 4 else exO (A 1) (A 5) 0 wv) ≤ A 1 4) ∧ 0 ≤ (if exO (A 1) (A 5) 0 wv = -1 then A 1 4 else exO (A 1) (A 5) 0 wv) := by
    refine ⟨fun z => ⟨z, ?_⟩, ?_⟩
    · split <;> omega
    · split <;> omega
  refine gg_aload_n dL_readException_0 rfl rfl ?_
  refine gi_iconst dL_readException_1 ?_
  refine gg_aload_n dL_readException_2 rfl rfl ?_
  refine gc_L_37 rfl dL_readException_3 ⟨(Nat.le_of_ble_eq_true rfl), (Nat.le_of_ble_eq_true rfl)⟩ ⟨(Nat.le_of_ble_eq_true rfl), (Nat.le_of_ble_eq_true rfl)⟩ (Nat.le_of_ble_eq_true rfl) (HAt.mu gst_30) (c_X9_readException hb9 g0 hmq WR9 H9 p4 p5 X9 (wv := wv) (by rw [i1, i3]; exact hw)) (fun E9 h9 hx9 => by subst hQF9; rw [i1, i3, X9.1.1] at hx9; obtain ⟨hx9, ι', hX, rfl⟩ := hx9; rcases hx9 with ⟨q1, rfl⟩ | ⟨q1, q2, rfl⟩; (have CE : CP9 ι' (tkG G (rxO (A 5) (F 8) wv ∧ (dgR (A 5) (F 8) 6 (wv + 1)) ≠ 0 ∧ wv + 1 + (dgR (A 5) (F 8) 6 (wv + 1)) = F 8) (if rxO (A 5) (F 8) wv then wv + 1 + (dgR (A 5) (F 8) 6 (wv + 1)) else wv)) B (uF (uF F 8 0) 10 (if rxO (A 5) (F 8) wv then wv + 1 + (dgR (A 5) (F 8) 6 (wv + 1)) else wv)) A b := CP9.tk C hX (fun _ _ _ => rfl) pr (by simp only [uF_s, uF_n, ne_eq, Nat.reduceEqDiff, not_false_eq_true]) (by simp only [uF_s, uF_n, ne_eq, Nat.reduceEqDiff, not_false_eq_true]) (by simp only [uF_s, uF_n, ne_eq, Nat.reduceEqDiff, not_false_eq_true]) (by rw [if_neg q1, uF_s]) (by simp only [uF_s, uF_n, ne_eq, Nat.reduceEqDiff, not_false_eq_true]); exact gx_code_n (k9 := 2) (k := 1) [] [(0, 8, 14, 13)] (0, 8, 11, 25) rfl (fun _ q => absurd q List.not_mem_nil) (by decide) (by decide) (wi_8 _ (List.mem_of_getElem? (i := 18) rfl)) (List.mem_of_getElem? (i := 2) rfl) dL_readException_11 (Nat.le_of_ble_eq_true rfl) rfl dL_readException_12 dL_readException_13 rfl ⟨(Nat.le_of_ble_eq_true rfl), (Nat.le_of_ble_eq_true rfl)⟩ ⟨1, 0, ι', (tkG G (rxO (A 5) (F 8) wv ∧ (dgR (A 5) (F 8) 6 (wv + 1)) ≠ 0 ∧ wv + 1 + (dgR (A 5) (F 8) 6 (wv + 1)) = F 8) (if rxO (A 5) (F 8) wv then wv + 1 + (dgR (A 5) (F 8) 6 (wv + 1)) else wv)), B, b, rfl, by unfold wl9; rw [if_neg (show ¬ (1 : Int) = 0 by decide)], hX, Or.inr (Or.inl ⟨q1, rfl, CE⟩)⟩); (have CE : CP9 ι' (tkG G (rxO (A 5) (F 8) wv ∧ (dgR (A 5) (F 8) 6 (wv + 1)) ≠ 0 ∧ wv + 1 + (dgR (A 5) (F 8) 6 (wv + 1)) = F 8) (if rxO (A 5) (F 8) wv then wv + 1 + (dgR (A 5) (F 8) 6 (wv + 1)) else wv)) B (uF F 8 0) A b := CP9.tk C hX (fun _ _ _ => rfl) pr (by simp only [uF_s, uF_n, ne_eq, Nat.reduceEqDiff, not_false_eq_true]) (by simp only [uF_s, uF_n, ne_eq, Nat.reduceEqDiff, not_false_eq_true]) (by simp only [uF_s, uF_n, ne_eq, Nat.reduceEqDiff, not_false_eq_true]) (by rw [if_pos q1]; simp only [uF_s, uF_n, ne_eq, Nat.reduceEqDiff, not_false_eq_true]) (by simp only [uF_s, uF_n, ne_eq, Nat.reduceEqDiff, not_false_eq_true]); exact gx_code_n (k9 := 2) (k := 2) [(0, 8, 11, 25)] [] (0, 8, 14, 13) rfl (List.forall_mem_cons.mpr ⟨⟨by decide, _, wi_8 _ (List.mem_of_getElem? (i := 18) rfl), List.mem_of_getElem? (i := 1) rfl⟩, (fun _ q => absurd q List.not_mem_nil)⟩) (by decide) (by decide) (wi_7 _ (List.mem_of_getElem? (i := 0) rfl)) (List.mem_of_getElem? (i := 0) rfl) dL_readException_14 (Nat.le_of_ble_eq_true rfl) rfl dL_readException_15 dL_readException_16 rfl ⟨(Nat.le_of_ble_eq_true rfl), (Nat.le_of_ble_eq_true rfl)⟩ ⟨2, 0, ι', (tkG G (rxO (A 5) (F 8) wv ∧ (dgR (A 5) (F 8) 6 (wv + 1)) ≠ 0 ∧ wv + 1 + (dgR (A 5) (F 8) 6 (wv + 1)) = F 8) (if rxO (A 5) (F 8) wv then wv + 1 + (dgR (A 5) (F 8) 6 (wv + 1)) else wv)), B, b, rfl, by unfold wl9; rw [if_neg (show ¬ (2 : Int) = 0 by decide)], hX, Or.inr (Or.inr ⟨q1, q2, rfl, CE⟩)⟩)) (fun r_3 h_3 hp => ?_)
  rw [i1, i3, X9.1.1] at hp
  obtain ⟨q1, q2, ι', q, hX, hq9, rfl, rfl⟩ := hp
  have C1 : CP9 ι' (tkG G (rxO (A 5) (F 8) wv ∧ (dgR (A 5) (F 8) 6 (wv + 1)) ≠ 0 ∧ wv + 1 + (dgR (A 5) (F 8) 6 (wv + 1)) = F 8) (if rxO (A 5) (F 8) wv then wv + 1 + (dgR (A 5) (F 8) 6 (wv + 1)) else wv)) B (uF F 8 0) A b := CP9.tk C hX (fun _ _ _ => rfl) pr (by simp only [uF_s, uF_n, ne_eq, Nat.reduceEqDiff, not_false_eq_true]) (by simp only [uF_s, uF_n, ne_eq, Nat.reduceEqDiff, not_false_eq_true]) (by simp only [uF_s, uF_n, ne_eq, Nat.reduceEqDiff, not_false_eq_true]) (by rw [if_pos q1]; simp only [uF_s, uF_n, ne_eq, Nat.reduceEqDiff, not_false_eq_true]) (by simp only [uF_s, uF_n, ne_eq, Nat.reduceEqDiff, not_false_eq_true])
  have KK : ∀ m6 : Int → Int, (∀ k, 0 ≤ k → k < (dgR (A 5) (F 8) 6 (wv + 1)) → m6 k = A 5 (wv + 1 + k) - 48) → _ := fun m6 hm => K_readException (F := uF F 8 0) (F2 := uF (uF F 8 0) 5 (kc (F 5))) C1 (fun _ _ q => q) (q := q) (nm := (if exO (A 1) (A 5) 0 wv = -1 then A 1 4 else exO (A 1) (A 5) 0 wv)) (m6 := m6) (nr.1 ⟨nr.2, q2⟩) hq9 i5 hm (by simp only [uF_s, uF_n, ne_eq, Nat.reduceEqDiff, not_false_eq_true]) (by simp only [uF_s, uF_n, ne_eq, Nat.reduceEqDiff, not_false_eq_true]) (by simp only [uF_s, uF_n, ne_eq, Nat.reduceEqDiff, not_false_eq_true]) (by simp only [uF_s, uF_n, ne_eq, Nat.reduceEqDiff, not_false_eq_true]) (by simp only [uF_s, uF_n, ne_eq, Nat.reduceEqDiff, not_false_eq_true])
  refine gg_i2l dL_readException_6  ?_
  refine gg_last dL_readException_7 (iN_in (n := 1) (by decide) (by decide) (by decide)) (HPut.mu (Eq.trans gst_24 h24)) ?_
  rw [gst_up9 (Or.inl rfl)]
  refine gg_goto (tgt := 17) dL_readException_8 (by decide) ?_
  refine gi_iconst dL_readException_17 ?_
  subst hQF9
  refine gg_iret dL_readException_18 rfl rfl ⟨(Nat.le_of_ble_eq_true rfl), (Nat.le_of_ble_eq_true rfl)⟩ ?_
  exact ⟨0, _, ι', _, _, b, rfl, by unfold wl9; rw [if_pos (show (0 : Int) = 0 from rfl)]; rfl, hX, Or.inl ⟨q1, q2, rfl, rfl, KK⟩⟩
