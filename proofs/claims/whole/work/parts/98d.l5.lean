/-! the law: its helpers, 4 -/
theorem hpr_D {a : Int → Int} {d l : Int} (S : StA a) (N : LnA a) (E9 : ExA a) (hd : 0 ≤ d ∧ d ≤ 3) (hl : 0 ≤ l ∧ l < a (5 + d)) (z : (srch (DA9 a d l (a 0) (a 1) (a 2))).1 ≠ NOK) : 0 ≤ prE (DA9 a d l (a 0) (a 1) (a 2)) ((srch (DA9 a d l (a 0) (a 1) (a 2))).1 % 2) ((srch (DA9 a d l (a 0) (a 1) (a 2))).1 / 2 % 2048) := by
  have K := LK_LD (kd := a 0) (ft := a 1) (c9 := a 2) S N E9 hd hl (LD_c S N E9 hd hl)
  obtain ⟨b, hb⟩ : ∃ b, b = bN (dK (DA9 a d l (a 0) (a 1) (a 2))) (dF (DA9 a d l (a 0) (a 1) (a 2))) (dZ (DA9 a d l (a 0) (a 1) (a 2))) (LFc a d l) (LAc a d l) (-1, 0, 0, 0, 0) (pls (LFc a d l) (LAc a d l) + 1).toNat := ⟨_, rfl⟩
  have s := sk_D K (MtK_c ⟨S.1, S.2.1, S.2.2.1⟩) hb
  have b0 : 0 ≤ b.1 := by
    by_cases c : b.1 < 0
    · exact absurd (s.1.mpr c) z
    · omega
  exact (nsV_D K (MtK_c ⟨S.1, S.2.1, S.2.2.1⟩) hb b0 (fun _ => 0) (w := 0) (by omega)).2
theorem scan_D {a : Int → Int} {d l : Int} {F1 : Nat → Int} {A1 : Nat → Int → Int} (S : StA a) (N : LnA a) (E9 : ExA a) (hd : 0 ≤ d ∧ d ≤ 3) (hl : 0 ≤ l ∧ l < a (5 + d)) (L : LD a d l F1 A1) (x9 y9 : Int) :
    ((srch (DA9 a d l (a 0) (a 1) (a 2))).1 = NOK ↔ (bst9 a F1 A1 x9 y9).1 < 0) ∧ (srch (DA9 a d l (a 0) (a 1) (a 2))).2 = (bst9 a F1 A1 x9 y9).2.2.2.1 ∧ ((srch (DA9 a d l (a 0) (a 1) (a 2))).1 ≠ NOK → 0 ≤ (bst9 a F1 A1 x9 y9).1 ∧ ∀ (g : Int → Int) (w : Int), 0 ≤ w ∧ w ≤ 5 → nsV (DA9 a d l (a 0) (a 1) (a 2)) g (srch (DA9 a d l (a 0) (a 1) (a 2))).1 w = (if w = 0 then (bst9 (a) F1 A1 x9 y9).1 else if w = 1 then (bst9 (a) F1 A1 x9 y9).2.1 else if w = 2 then (bst9 (a) F1 A1 x9 y9).2.2.2.2 else if w = 3 then (bst9 (a) F1 A1 x9 y9).2.2.1 else wro (a 0) (sA A1 ((bst9 (a) F1 A1 x9 y9).2.1) (s0 A1) (F1 16).toNat).2.1 (bst9 (a) F1 A1 x9 y9).2.2.2.2 (bi (decide (w = 4))) (min (a 1 * szk (a 0)) (sA A1 ((bst9 (a) F1 A1 x9 y9).2.1) (s0 A1) (F1 16).toNat).1).toNat)) := by
  have K := LK_LD (kd := a 0) (ft := a 1) (c9 := a 2) S N E9 hd hl L
  have hb : bst9 a F1 A1 x9 y9 = bN (dK (DA9 a d l (a 0) (a 1) (a 2))) (dF (DA9 a d l (a 0) (a 1) (a 2))) (dZ (DA9 a d l (a 0) (a 1) (a 2))) F1 A1 (-1, 0, x9, 0, y9) (pls F1 A1 + 1).toNat := rfl
  have s := sk_D K (MtK_c ⟨S.1, S.2.1, S.2.2.1⟩) hb
  refine ⟨s.1, s.2.2, fun z => ?_⟩
  have b0 : 0 ≤ (bst9 a F1 A1 x9 y9).1 := by
    by_cases c : (bst9 a F1 A1 x9 y9).1 < 0
    · exact absurd (s.1.mpr c) z
    · omega
  exact ⟨b0, fun g w hw => (nsV_D K (MtK_c ⟨S.1, S.2.1, S.2.2.1⟩) hb b0 g hw).1⟩
theorem n64_ok : ∀ (j : Fin 10) (i : Fin 1001), vf_n64 (FP.f2d (FP.fdiv (FP.i2f (nI i.val)) (FP.i2f (nI (j.val + 1))))) := by
  unfold vf_n64
  decide +kernel
theorem n64_c {a b : Int} (ha : 0 ≤ a ∧ a ≤ 1000) (hb : 1 ≤ b ∧ b ≤ 10) : vf_n64 (FP.f2d (FP.fdiv (FP.i2f (iN a)) (FP.i2f (iN b)))) := by
  obtain ⟨n, rfl⟩ := Int.eq_ofNat_of_zero_le ha.1
  obtain ⟨m, hm⟩ := Int.eq_ofNat_of_zero_le (show 0 ≤ b - 1 by omega)
  have e1 : b = ((m + 1 : Nat) : Int) := by omega
  rw [e1, iN_nI, iN_nI]
  exact n64_ok ⟨m, by omega⟩ ⟨n, by omega⟩
theorem CP9.f37 {ι : Nat → Option XE} {G : Nat → Int} {B B' : Nat → Int → Int} {F : Nat → Int} {A : Nat → Int → Int} {b : Nat} (C : CP9 ι G B F A b) (f : frA [37] B B') : CP9 ι G B' F A b := by
  have hB : ∀ k, k ≠ 37 → B' k = B k := fun k hk => f k (fun z => hk (by rw [List.mem_singleton] at z; exact z))
  obtain ⟨⟨c1, c2⟩, c3, ⟨h1, h2, h3, h4, h5, h6⟩, ⟨c5, c6, c7, c8⟩, c9, c10⟩ := C
  have fr : ∀ (x : Nat) (a : Int → Int), MB9 ι G B x a → MB9 ι G B' x a := fun x a m => m.fr (fun _ _ q => q) (fun k q1 q2 => rfl) (fun k q1 q2 => hB k (by omega))
  refine ⟨⟨c1, c2⟩, fr _ _ c3, ⟨h1, h2, by rw [hB 31 (by omega)]; exact h3, by rw [hB 31 (by omega)]; exact h4, fun i i0 i1 => by rw [hB 31 (by omega)]; exact fr _ _ (h5 i i0 i1), h6⟩, ⟨c5, c6, fun q => fr _ _ (c7 q), c8⟩, ?_, ?_⟩
  · unfold IN9 at c9 ⊢
    rw [hB 41 (by omega)]; exact c9
  · obtain ⟨w1, w2, w3, w4, w5⟩ := c10
    refine ⟨fun x hx => ⟨fun d l hd l0 l1 => by rw [hB _ (by omega)]; exact (w1 x hx).1 d l hd l0 l1, fun l l0 l1 => by rw [hB _ (by omega)]; exact (w1 x hx).2 l l0 l1⟩, w2, ?_, w4, w5⟩
    unfold CA at w3 ⊢; rw [hB 32 (by omega)]; exact w3
def wd9 (h : XH) (v : Nat → UInt64) (k : Int) (x : UInt64) : Nat → Option XE := if k = 0 then upX h.1 25 (do9 (vf_upd v 0 x)) else h.1
set_option maxRecDepth 100000 in
set_option maxHeartbeats 4000000 in
theorem cw_scan {Γ : GT} {h : XH} {G : Nat → Int} {B : Nat → Int → Int} {F : Nat → Int} {A : Nat → Int → Int} {b : Nat} {v : Nat → Int64} (C : CP9 h.2 G B F A b) (h24 : h.1 24 = some (lo9 v))  {i l w : Int} (hi : InR i) (hl : InR l) (hw : InR w) : Ct Γ M_L_scan [.ref (g_L Γ 30), .int (iN i), .int (iN l), .int (iN w), .ref (g_L Γ 24)] (gst Γ h G B) (fun r h9 => ∃ (k x : Int) (ι' : Nat → Option XE) (G' : Nat → Int) (B' : Nat → Int → Int) (b' : Nat), r = some (.int (iN k)) ∧ h9 = gst Γ (wl9 h v k x, ι') G' B' ∧ ext h.2 ι' ∧ (((0 ≤ i ∧ i ≤ 3 ∧ 0 ≤ l ∧ l < A 1 (5 + i)) ∧ (0 ≤ w ∧ w ≤ 5) ∧ k = 0 ∧ (∀ (F1 : Nat → Int) (A1 : Nat → Int → Int) (x9 y9 : Int), LD (A 1) i l F1 A1 →  0 ≤ (bst9 (A 1) F1 A1 x9 y9).1 ∧ x = (if w = 0 then (bst9 (A 1) F1 A1 x9 y9).1 else if w = 1 then (bst9 (A 1) F1 A1 x9 y9).2.1 else if w = 2 then (bst9 (A 1) F1 A1 x9 y9).2.2.2.2 else if w = 3 then (bst9 (A 1) F1 A1 x9 y9).2.2.1 else wro (A 1 0) (sA A1 ((bst9 (A 1) F1 A1 x9 y9).2.1) (s0 A1) (F1 16).toNat).2.1 (bst9 (A 1) F1 A1 x9 y9).2.2.2.2 (bi (decide (w = 4))) (min (A 1 1 * szk (A 1 0)) (sA A1 ((bst9 (A 1) F1 A1 x9 y9).2.1) (s0 A1) (F1 16).toNat).1).toNat)) ∧ CP9 ι' G' B' F A b') ∨ (¬ (0 ≤ i ∧ i ≤ 3 ∧ 0 ≤ l ∧ l < A 1 (5 + i)) ∧ k = 1 ∧ CP9 ι' G' B' F A b') ∨ ((0 ≤ i ∧ i ≤ 3 ∧ 0 ≤ l ∧ l < A 1 (5 + i)) ∧ ¬ (0 ≤ w ∧ w ≤ 5) ∧ k = 2 ∧ CP9 ι' G' B' F A b') ∨ ((0 ≤ i ∧ i ≤ 3 ∧ 0 ≤ l ∧ l < A 1 (5 + i)) ∧ (0 ≤ w ∧ w ≤ 5) ∧ k = 3 ∧ (∀ (F1 : Nat → Int) (A1 : Nat → Int → Int) (x9 y9 : Int), LD (A 1) i l F1 A1 →  (bst9 (A 1) F1 A1 x9 y9).1 < 0) ∧ CP9 ι' G' B' F A b'))) (fun _ _ => False) := by
  refine Ct.ofH rfl (by decide +kernel) (Nat.le_of_ble_eq_true rfl) ?_
  generalize hQF9 : QM Γ _ _ _ = QF9
  have hb9 : b ≤ 9 := by have := C.1.1; omega
  have hb8 := C.1.1
  have hn9 : b ≠ 9 := by omega
  have g0 := C.1.2
  obtain ⟨mq, S⟩ := C.SW
  have hmq := S.2.2.1
  have M1 := S.2.2.2.1
  have X9 := S.2.2.2.2.1
  have WR9 := C.2.2.2.2.2.1
  have H9 := C.2.2.1.his
  have LD := C.LD
  have gt := C.m.2.2.1
  have C9 := C.2.2.2.2.2.2.2.1
  obtain ⟨⟨i1, i2, i3, i4, i5⟩, ⟨e1, e2, e3⟩, p3⟩ := C.2.2.2.2.1
  have p4 : 0 ≤ G 4 ∧ G 4 ≤ 60 := by rw [i1]; exact i2
  have p5 : ∀ k, 0 ≤ k → k < G 4 → 0 ≤ B 41 k ∧ B 41 k < 65536 := by intro k k0 k1; rw [i3]; rw [i1] at k1; exact i4 k ⟨k0, k1⟩
  have sta := C.m.sta
  have lna := C.m.lna
  have exa := C.m.exa
  refine gg_aload dL_scan_0 rfl rfl ?_
  refine gi_iconst dL_scan_2 ?_
  refine gg_aload_n dL_scan_3 rfl rfl ?_
  refine gg_iload_n dL_scan_4 rfl ?_
  refine gg_iload_n dL_scan_5 rfl ?_
  refine gg_iload_n dL_scan_6 rfl ?_
  refine gc_L_85 rfl dL_scan_7 ⟨(Nat.le_of_ble_eq_true rfl), (Nat.le_of_ble_eq_true rfl)⟩ ⟨(Nat.le_of_ble_eq_true rfl), (Nat.le_of_ble_eq_true rfl)⟩ (Nat.le_of_ble_eq_true rfl) (HAt.mu gst_30) (c_X9_scan S LD hi hl hw (fun q z => by
    have q2 := C.ys q
    have hin : ((i.toNat : Nat) : Int) = i := Int.toNat_of_nonneg q2.1
    rw [hin] at z ⊢
    exact hpr_D sta lna exa ⟨q2.1, q2.2.1⟩ q2.2.2 z)) (fun E9 h9 hx9 => by subst hQF9; rcases hx9 with ⟨q1, rfl, rfl⟩ | ⟨q1, qw, rfl, rfl⟩ | ⟨q1, qw, qz, rfl, G2, B2, rfl, fr⟩; (exact gx_code (i := 5) (k := 1) [] [(0, 12, 19, 25), (0, 12, 23, 19)] (0, 12, 15, 43) rfl (fun _ q => absurd q List.not_mem_nil) (by decide) (by decide) (wi_23 _ (List.mem_of_getElem? (i := 7) rfl)) (List.mem_of_getElem? (i := 3) rfl) dL_scan_15 (Nat.le_of_ble_eq_true rfl) rfl dL_scan_17 dL_scan_18 rfl ⟨(Nat.le_of_ble_eq_true rfl), (Nat.le_of_ble_eq_true rfl)⟩ ⟨1, 0, h.2, G, B, b, rfl, by unfold wl9; rw [if_neg (show ¬ (1 : Int) = 0 by decide)], (fun _ _ q => q), Or.inr (Or.inl ⟨C.no q1, rfl, C⟩)⟩); (exact gx_code (i := 5) (k := 2) [(0, 12, 15, 43)] [(0, 12, 23, 19)] (0, 12, 19, 25) rfl (List.forall_mem_cons.mpr ⟨⟨by decide, _, wi_23 _ (List.mem_of_getElem? (i := 7) rfl), List.mem_of_getElem? (i := 10) rfl⟩, (fun _ q => absurd q List.not_mem_nil)⟩) (by decide) (by decide) (wi_8 _ (List.mem_of_getElem? (i := 18) rfl)) (List.mem_of_getElem? (i := 2) rfl) dL_scan_19 (Nat.le_of_ble_eq_true rfl) rfl dL_scan_21 dL_scan_22 rfl ⟨(Nat.le_of_ble_eq_true rfl), (Nat.le_of_ble_eq_true rfl)⟩ ⟨2, 0, h.2, G, B, b, rfl, by unfold wl9; rw [if_neg (show ¬ (2 : Int) = 0 by decide)], (fun _ _ q => q), Or.inr (Or.inr (Or.inl ⟨C.ys q1, qw, rfl, C⟩))⟩); (have q2 := C.ys q1; rw [Int.toNat_of_nonneg q1.1.1] at qz; exact gx_code (i := 5) (k := 3) [(0, 12, 15, 43), (0, 12, 19, 25)] [] (0, 12, 23, 19) rfl (List.forall_mem_cons.mpr ⟨⟨by decide, _, wi_23 _ (List.mem_of_getElem? (i := 7) rfl), List.mem_of_getElem? (i := 6) rfl⟩, (List.forall_mem_cons.mpr ⟨⟨by decide, _, wi_8 _ (List.mem_of_getElem? (i := 18) rfl), List.mem_of_getElem? (i := 5) rfl⟩, (fun _ q => absurd q List.not_mem_nil)⟩)⟩) (by decide) (by decide) (wi_8 _ (List.mem_of_getElem? (i := 3) rfl)) (List.mem_of_getElem? (i := 1) rfl) dL_scan_23 (Nat.le_of_ble_eq_true rfl) rfl dL_scan_25 dL_scan_26 rfl ⟨(Nat.le_of_ble_eq_true rfl), (Nat.le_of_ble_eq_true rfl)⟩ ⟨3, 0, h.2, G2, B2, b, rfl, by unfold wl9; rw [if_neg (show ¬ (3 : Int) = 0 by decide)], (fun _ _ q => q), Or.inr (Or.inr (Or.inr ⟨q2, qw, rfl, fun F1 A1 x9 y9 L => (scan_D sta lna exa ⟨(q2).1, (q2).2.1⟩ (q2).2.2 L x9 y9).1.mp qz, C.fr fr.w⟩))⟩)) (fun r_7 h_7 hp => ?_)
  obtain ⟨q1, qw, qz, G2, B2, g2, rfl, rfl, fr⟩ := hp
  have q2 := C.ys q1
  have hin : ((i.toNat : Nat) : Int) = i := Int.toNat_of_nonneg q1.1.1
  rw [hin] at qz ⊢
  obtain ⟨xv, hxv⟩ : ∃ xv, nsV (dtA (A 1) (fA9 (A 1) i l) (nA9 (A 1) i l) (A 1 0) (A 1 1) (A 1 2)) g2 (srch (dtA (A 1) (fA9 (A 1) i l) (nA9 (A 1) i l) (A 1 0) (A 1 1) (A 1 2))).1 w = xv := ⟨_, rfl⟩
  rw [hxv]
  refine gg_i2l dL_scan_10  ?_
  refine gg_last dL_scan_11 (iN_in (n := 1) (by decide) (by decide) (by decide)) (HPut.mu (Eq.trans gst_24 h24)) ?_
  rw [gst_up9 (Or.inl rfl)]
  refine gg_goto (tgt := 27) dL_scan_12 (by decide) ?_
  refine gi_iconst dL_scan_27 ?_
  subst hQF9
  refine gg_iret dL_scan_28 rfl rfl ⟨(Nat.le_of_ble_eq_true rfl), (Nat.le_of_ble_eq_true rfl)⟩ ?_
  exact ⟨0, xv, h.2, G2, B2, b, rfl, by unfold wl9; rw [if_pos (show (0 : Int) = 0 from rfl)]; rfl, (fun _ _ q => q), Or.inl ⟨q2, qw, rfl, fun F1 A1 x9 y9 L => by
    have s := (scan_D sta lna exa ⟨(q2).1, (q2).2.1⟩ (q2).2.2 L x9 y9).2.2 qz
    exact ⟨s.1, by rw [← hxv]; exact s.2 g2 w qw⟩, C.fr fr.w⟩⟩
set_option maxRecDepth 100000 in
set_option maxHeartbeats 4000000 in
theorem cw_scans {Γ : GT} {h : XH} {G : Nat → Int} {B : Nat → Int → Int} {F : Nat → Int} {A : Nat → Int → Int} {b : Nat} {v : Nat → Int64} (C : CP9 h.2 G B F A b) (h24 : h.1 24 = some (lo9 v))  {i l : Int} (hi : InR i) (hl : InR l) : Ct Γ M_L_scans [.ref (g_L Γ 30), .int (iN i), .int (iN l), .ref (g_L Γ 24)] (gst Γ h G B) (fun r h9 => ∃ (k x : Int) (ι' : Nat → Option XE) (G' : Nat → Int) (B' : Nat → Int → Int) (b' : Nat), r = some (.int (iN k)) ∧ h9 = gst Γ (wl9 h v k x, ι') G' B' ∧ ext h.2 ι' ∧ (((0 ≤ i ∧ i ≤ 3 ∧ 0 ≤ l ∧ l < A 1 (5 + i)) ∧ k = 0 ∧ (∀ (F1 : Nat → Int) (A1 : Nat → Int → Int) (x9 y9 : Int), LD (A 1) i l F1 A1 →  x = (bst9 (A 1) F1 A1 x9 y9).2.2.2.1) ∧ CP9 ι' G' B' F A b') ∨ (¬ (0 ≤ i ∧ i ≤ 3 ∧ 0 ≤ l ∧ l < A 1 (5 + i)) ∧ k = 1 ∧ CP9 ι' G' B' F A b'))) (fun _ _ => False) := by
  refine Ct.ofH rfl (by decide +kernel) (Nat.le_of_ble_eq_true rfl) ?_
  generalize hQF9 : QM Γ _ _ _ = QF9
  have hb9 : b ≤ 9 := by have := C.1.1; omega
  have hb8 := C.1.1
  have hn9 : b ≠ 9 := by omega
  have g0 := C.1.2
  obtain ⟨mq, S⟩ := C.SW
  have hmq := S.2.2.1
  have M1 := S.2.2.2.1
  have X9 := S.2.2.2.2.1
  have WR9 := C.2.2.2.2.2.1
  have H9 := C.2.2.1.his
  have LD := C.LD
  have gt := C.m.2.2.1
  have C9 := C.2.2.2.2.2.2.2.1
  obtain ⟨⟨i1, i2, i3, i4, i5⟩, ⟨e1, e2, e3⟩, p3⟩ := C.2.2.2.2.1
  have p4 : 0 ≤ G 4 ∧ G 4 ≤ 60 := by rw [i1]; exact i2
  have p5 : ∀ k, 0 ≤ k → k < G 4 → 0 ≤ B 41 k ∧ B 41 k < 65536 := by intro k k0 k1; rw [i3]; rw [i1] at k1; exact i4 k ⟨k0, k1⟩
  have sta := C.m.sta
  have lna := C.m.lna
  have exa := C.m.exa
  refine gg_aload_n dL_scans_0 rfl rfl ?_
  refine gi_iconst dL_scans_1 ?_
  refine gg_aload_n dL_scans_2 rfl rfl ?_
  refine gg_iload_n dL_scans_3 rfl ?_
  refine gg_iload_n dL_scans_4 rfl ?_
  refine gc_L_88 rfl dL_scans_5 ⟨(Nat.le_of_ble_eq_true rfl), (Nat.le_of_ble_eq_true rfl)⟩ ⟨(Nat.le_of_ble_eq_true rfl), (Nat.le_of_ble_eq_true rfl)⟩ (Nat.le_of_ble_eq_true rfl) (HAt.mu gst_30) (c_X9_scans S LD hi hl) (fun E9 h9 hx9 => by subst hQF9; obtain ⟨q1, rfl, rfl⟩ := hx9; exact gx_code (i := 4) (k := 1) [] [] (0, 10, 13, 43) rfl (fun _ q => absurd q List.not_mem_nil) (by decide) (by decide) (wi_23 _ (List.mem_of_getElem? (i := 7) rfl)) (List.mem_of_getElem? (i := 3) rfl) dL_scans_13 (Nat.le_of_ble_eq_true rfl) rfl dL_scans_15 dL_scans_16 rfl ⟨(Nat.le_of_ble_eq_true rfl), (Nat.le_of_ble_eq_true rfl)⟩ ⟨1, 0, h.2, G, B, b, rfl, by unfold wl9; rw [if_neg (show ¬ (1 : Int) = 0 by decide)], (fun _ _ q => q), Or.inr ⟨C.no q1, rfl, C⟩⟩) (fun r_5 h_5 hp => ?_)
  obtain ⟨q1, G2, B2, rfl, rfl, fr⟩ := hp
  have q2 := C.ys q1
  have hin : ((i.toNat : Nat) : Int) = i := Int.toNat_of_nonneg q1.1.1
  rw [hin]
  obtain ⟨xv, hxv⟩ : ∃ xv, (srch (dtA (A 1) (fA9 (A 1) i l) (nA9 (A 1) i l) (A 1 0) (A 1 1) (A 1 2))).2 = xv := ⟨_, rfl⟩
  rw [hxv]
  refine gg_i2l dL_scans_8  ?_
  refine gg_last dL_scans_9 (iN_in (n := 1) (by decide) (by decide) (by decide)) (HPut.mu (Eq.trans gst_24 h24)) ?_
  rw [gst_up9 (Or.inl rfl)]
  refine gg_goto (tgt := 17) dL_scans_10 (by decide) ?_
  refine gi_iconst dL_scans_17 ?_
  subst hQF9
  refine gg_iret dL_scans_18 rfl rfl ⟨(Nat.le_of_ble_eq_true rfl), (Nat.le_of_ble_eq_true rfl)⟩ ?_
  exact ⟨0, xv, h.2, G2, B2, b, rfl, by unfold wl9; rw [if_pos (show (0 : Int) = 0 from rfl)]; rfl, (fun _ _ q => q), Or.inl ⟨q2, rfl, fun F1 A1 x9 y9 L => by rw [← hxv]; exact (scan_D sta lna exa ⟨(q2).1, (q2).2.1⟩ (q2).2.2 L x9 y9).2.1, C.fr fr.w⟩⟩
set_option maxRecDepth 100000 in
set_option maxHeartbeats 4000000 in
theorem cw_reason {Γ : GT} {h : XH} {G : Nat → Int} {B : Nat → Int → Int} {F : Nat → Int} {A : Nat → Int → Int} {b : Nat} {v : Nat → Int64} (C : CP9 h.2 G B F A b) (h24 : h.1 24 = some (lo9 v))  {i l : Int} (hi : InR i) (hl : InR l) : Ct Γ M_L_reason [.ref (g_L Γ 30), .int (iN i), .int (iN l), .ref (g_L Γ 24)] (gst Γ h G B) (fun r h9 => ∃ (k x : Int) (ι' : Nat → Option XE) (G' : Nat → Int) (B' : Nat → Int → Int) (b' : Nat), r = some (.int (iN k)) ∧ h9 = gst Γ (wl9 h v k x, ι') G' B' ∧ ext h.2 ι' ∧ (((0 ≤ i ∧ i ≤ 3 ∧ 0 ≤ l ∧ l < A 1 (5 + i)) ∧ k = 0 ∧ (∀ (F1 : Nat → Int) (A1 : Nat → Int → Int) (x9 y9 : Int), LD (A 1) i l F1 A1 →  x = rsn (A 1) F1 A1 (bst9 (A 1) F1 A1 x9 y9).1) ∧ CP9 ι' G' B' F A b') ∨ (¬ (0 ≤ i ∧ i ≤ 3 ∧ 0 ≤ l ∧ l < A 1 (5 + i)) ∧ k = 1 ∧ CP9 ι' G' B' F A b'))) (fun _ _ => False) := by
  refine Ct.ofH rfl (by decide +kernel) (Nat.le_of_ble_eq_true rfl) ?_
  generalize hQF9 : QM Γ _ _ _ = QF9
  have hb9 : b ≤ 9 := by have := C.1.1; omega
  have hb8 := C.1.1
  have hn9 : b ≠ 9 := by omega
  have g0 := C.1.2
  obtain ⟨mq, S⟩ := C.SW
  have hmq := S.2.2.1
  have M1 := S.2.2.2.1
  have X9 := S.2.2.2.2.1
  have WR9 := C.2.2.2.2.2.1
  have H9 := C.2.2.1.his
  have LD := C.LD
  have gt := C.m.2.2.1
  have C9 := C.2.2.2.2.2.2.2.1
  obtain ⟨⟨i1, i2, i3, i4, i5⟩, ⟨e1, e2, e3⟩, p3⟩ := C.2.2.2.2.1
  have p4 : 0 ≤ G 4 ∧ G 4 ≤ 60 := by rw [i1]; exact i2
  have p5 : ∀ k, 0 ≤ k → k < G 4 → 0 ≤ B 41 k ∧ B 41 k < 65536 := by intro k k0 k1; rw [i3]; rw [i1] at k1; exact i4 k ⟨k0, k1⟩
  have sta := C.m.sta
  have lna := C.m.lna
  have exa := C.m.exa
  refine gg_aload_n dL_reason_0 rfl rfl ?_
  refine gi_iconst dL_reason_1 ?_
  refine gg_aload_n dL_reason_2 rfl rfl ?_
  refine gg_iload_n dL_reason_3 rfl ?_
  refine gg_iload_n dL_reason_4 rfl ?_
  refine gc_L_91 rfl dL_reason_5 ⟨(Nat.le_of_ble_eq_true rfl), (Nat.le_of_ble_eq_true rfl)⟩ ⟨(Nat.le_of_ble_eq_true rfl), (Nat.le_of_ble_eq_true rfl)⟩ (Nat.le_of_ble_eq_true rfl) (HAt.mu gst_30) (c_X9_reason S LD hi hl) (fun E9 h9 hx9 => by subst hQF9; obtain ⟨q1, rfl, rfl⟩ := hx9; exact gx_code (i := 4) (k := 1) [] [] (0, 10, 13, 43) rfl (fun _ q => absurd q List.not_mem_nil) (by decide) (by decide) (wi_23 _ (List.mem_of_getElem? (i := 7) rfl)) (List.mem_of_getElem? (i := 3) rfl) dL_reason_13 (Nat.le_of_ble_eq_true rfl) rfl dL_reason_15 dL_reason_16 rfl ⟨(Nat.le_of_ble_eq_true rfl), (Nat.le_of_ble_eq_true rfl)⟩ ⟨1, 0, h.2, G, B, b, rfl, by unfold wl9; rw [if_neg (show ¬ (1 : Int) = 0 by decide)], (fun _ _ q => q), Or.inr ⟨C.no q1, rfl, C⟩⟩) (fun r_5 h_5 hp => ?_)
  obtain ⟨q1, G2, B2, rfl, rfl, fr⟩ := hp
  have q2 := C.ys q1
  have hin : ((i.toNat : Nat) : Int) = i := Int.toNat_of_nonneg q1.1.1
  rw [hin, gt.1]
  obtain ⟨xv, hxv⟩ : ∃ xv, reV (dtA (A 1) (fA9 (A 1) i l) (nA9 (A 1) i l) (A 1 0) (A 1 1) (A 1 2)) (A 1 3) = xv := ⟨_, rfl⟩
  rw [hxv]
  refine gg_i2l dL_reason_8  ?_
  refine gg_last dL_reason_9 (iN_in (n := 1) (by decide) (by decide) (by decide)) (HPut.mu (Eq.trans gst_24 h24)) ?_
  rw [gst_up9 (Or.inl rfl)]
  refine gg_goto (tgt := 17) dL_reason_10 (by decide) ?_
  refine gi_iconst dL_reason_17 ?_
  subst hQF9
  refine gg_iret dL_reason_18 rfl rfl ⟨(Nat.le_of_ble_eq_true rfl), (Nat.le_of_ble_eq_true rfl)⟩ ?_
  exact ⟨0, xv, h.2, G2, B2, b, rfl, by unfold wl9; rw [if_pos (show (0 : Int) = 0 from rfl)]; rfl, (fun _ _ q => q), Or.inl ⟨q2, rfl, fun F1 A1 x9 y9 L => by rw [← hxv]; exact reV_D sta (LK_LD (kd := A 1 0) (ft := A 1 1) (c9 := A 1 2) sta lna exa ⟨(q2).1, (q2).2.1⟩ (q2).2.2 L), C.fr fr.w⟩⟩
set_option maxRecDepth 100000 in
set_option maxHeartbeats 4000000 in
theorem cw_difference {Γ : GT} {h : XH} {G : Nat → Int} {B : Nat → Int → Int} {F : Nat → Int} {A : Nat → Int → Int} {b : Nat} {v : Nat → Int64} (C : CP9 h.2 G B F A b) (h24 : h.1 24 = some (lo9 v))  {i j : Int} (hi : InR i) (hj : InR j) : Ct Γ M_L_difference [.ref (g_L Γ 30), .int (iN i), .int (iN j), .ref (g_L Γ 24)] (gst Γ h G B) (fun r h9 => ∃ (k x : Int) (ι' : Nat → Option XE) (G' : Nat → Int) (B' : Nat → Int → Int) (b' : Nat), r = some (.int (iN k)) ∧ h9 = gst Γ (wl9 h v k x, ι') G' B' ∧ ext h.2 ι' ∧ ((((0 ≤ i ∧ i ≤ 3) ∧ (0 ≤ j ∧ j ≤ 3)) ∧ k = 0 ∧ x = dfT (A 1) i j (A 1 (5 + i)).toNat (A 1 (5 + j)).toNat ∧ CP9 ι' G' B' F A b') ∨ (¬ ((0 ≤ i ∧ i ≤ 3) ∧ (0 ≤ j ∧ j ≤ 3)) ∧ k = 1 ∧ CP9 ι' G' B' F A b'))) (fun _ _ => False) := by
  refine Ct.ofH rfl (by decide +kernel) (Nat.le_of_ble_eq_true rfl) ?_
  generalize hQF9 : QM Γ _ _ _ = QF9
  have hb9 : b ≤ 9 := by have := C.1.1; omega
  have hb8 := C.1.1
  have hn9 : b ≠ 9 := by omega
  have g0 := C.1.2
  obtain ⟨mq, S⟩ := C.SW
  have hmq := S.2.2.1
  have M1 := S.2.2.2.1
  have X9 := S.2.2.2.2.1
  have WR9 := C.2.2.2.2.2.1
  have H9 := C.2.2.1.his
  have LD := C.LD
  have gt := C.m.2.2.1
  have C9 := C.2.2.2.2.2.2.2.1
  obtain ⟨⟨i1, i2, i3, i4, i5⟩, ⟨e1, e2, e3⟩, p3⟩ := C.2.2.2.2.1
  have p4 : 0 ≤ G 4 ∧ G 4 ≤ 60 := by rw [i1]; exact i2
  have p5 : ∀ k, 0 ≤ k → k < G 4 → 0 ≤ B 41 k ∧ B 41 k < 65536 := by intro k k0 k1; rw [i3]; rw [i1] at k1; exact i4 k ⟨k0, k1⟩
  have sta := C.m.sta
  have lna := C.m.lna
  have exa := C.m.exa
  refine gg_aload_n dL_difference_0 rfl rfl ?_
  refine gi_iconst dL_difference_1 ?_
  refine gg_aload_n dL_difference_2 rfl rfl ?_
  refine gg_iload_n dL_difference_3 rfl ?_
  refine gg_iload_n dL_difference_4 rfl ?_
  refine gc_L_94 rfl dL_difference_5 ⟨(Nat.le_of_ble_eq_true rfl), (Nat.le_of_ble_eq_true rfl)⟩ ⟨(Nat.le_of_ble_eq_true rfl), (Nat.le_of_ble_eq_true rfl)⟩ (Nat.le_of_ble_eq_true rfl) (HAt.mu gst_30) (c_X9_difference hb9 g0 LD hi hj) (fun E9 h9 hx9 => by subst hQF9; obtain ⟨q1, rfl, rfl⟩ := hx9; exact gx_code (i := 4) (k := 1) [] [] (0, 10, 13, 43) rfl (fun _ q => absurd q List.not_mem_nil) (by decide) (by decide) (wi_23 _ (List.mem_of_getElem? (i := 7) rfl)) (List.mem_of_getElem? (i := 3) rfl) dL_difference_13 (Nat.le_of_ble_eq_true rfl) rfl dL_difference_15 dL_difference_16 rfl ⟨(Nat.le_of_ble_eq_true rfl), (Nat.le_of_ble_eq_true rfl)⟩ ⟨1, 0, h.2, G, B, b, rfl, by unfold wl9; rw [if_neg (show ¬ (1 : Int) = 0 by decide)], (fun _ _ q => q), Or.inr ⟨q1, rfl, C⟩⟩) (fun r_5 h_5 hp => ?_)
  obtain ⟨q1, B2, rfl, rfl, fr⟩ := hp
  have cn := C.cn q1.1.1 q1.1.2
  have cj := C.cn q1.2.1 q1.2.2
  have hin : ((i.toNat : Nat) : Int) = i := Int.toNat_of_nonneg q1.1.1
  have hjn : ((j.toNat : Nat) : Int) = j := Int.toNat_of_nonneg q1.2.1
  rw [cn, cj, hin, hjn]
  have si := sta.2.2.2.2.2.1 i q1.1.1 q1.1.2
  have sj := sta.2.2.2.2.2.1 j q1.2.1 q1.2.2
  have ej : (((A 1 (5 + j)).toNat : Nat) : Int) = A 1 (5 + j) := Int.toNat_of_nonneg sj.1
  have dd := drL_D (g := B 37) lna q1.1 q1.2 sj.1 (A 1 (5 + i)).toNat (by omega) (A 1 (5 + j)).toNat (by omega)
  rw [ej] at dd
  rw [dd]
  refine gg_i2l dL_difference_8  ?_
  refine gg_last dL_difference_9 (iN_in (n := 1) (by decide) (by decide) (by decide)) (HPut.mu (Eq.trans gst_24 h24)) ?_
  rw [gst_up9 (Or.inl rfl)]
  refine gg_goto (tgt := 17) dL_difference_10 (by decide) ?_
  refine gi_iconst dL_difference_17 ?_
  subst hQF9
  refine gg_iret dL_difference_18 rfl rfl ⟨(Nat.le_of_ble_eq_true rfl), (Nat.le_of_ble_eq_true rfl)⟩ ?_
  exact ⟨0, _, h.2, G, B2, b, rfl, by unfold wl9; rw [if_pos (show (0 : Int) = 0 from rfl)]; rfl, (fun _ _ q => q), Or.inl ⟨q1, rfl, rfl, C.f37 fr⟩⟩
set_option maxRecDepth 100000 in
set_option maxHeartbeats 4000000 in
theorem cw_suits {Γ : GT} {h : XH} {G : Nat → Int} {B : Nat → Int → Int} {F : Nat → Int} {A : Nat → Int → Int} {b : Nat} {v : Nat → Int64} (C : CP9 h.2 G B F A b) (h24 : h.1 24 = some (lo9 v))  {i : Int} (hi : InR i) : Ct Γ M_L_suits [.ref (g_L Γ 30), .int (iN i), .ref (g_L Γ 24)] (gst Γ h G B) (fun r h9 => ∃ (k x : Int) (ι' : Nat → Option XE) (G' : Nat → Int) (B' : Nat → Int → Int) (b' : Nat), r = some (.int (iN k)) ∧ h9 = gst Γ (wl9 h v k x, ι') G' B' ∧ ext h.2 ι' ∧ (((0 ≤ i ∧ i ≤ 3) ∧ 0 < (suK (A 1) i 4).1 ∧ k = 0 ∧ x = (suK (A 1) i 4).2.2 ∧ CP9 ι' G' B' F A b') ∨ (¬ (0 ≤ i ∧ i ≤ 3) ∧ k = 1 ∧ CP9 ι' G' B' F A b') ∨ ((0 ≤ i ∧ i ≤ 3) ∧ (suK (A 1) i 4).1 = 0 ∧ k = 2 ∧ CP9 ι' G' B' F A b'))) (fun _ _ => False) := by
  refine Ct.ofH rfl (by decide +kernel) (Nat.le_of_ble_eq_true rfl) ?_
  generalize hQF9 : QM Γ _ _ _ = QF9
  have hb9 : b ≤ 9 := by have := C.1.1; omega
  have hb8 := C.1.1
  have hn9 : b ≠ 9 := by omega
  have g0 := C.1.2
  obtain ⟨mq, S⟩ := C.SW
  have hmq := S.2.2.1
  have M1 := S.2.2.2.1
  have X9 := S.2.2.2.2.1
  have WR9 := C.2.2.2.2.2.1
  have H9 := C.2.2.1.his
  have LD := C.LD
  have gt := C.m.2.2.1
  have C9 := C.2.2.2.2.2.2.2.1
  obtain ⟨⟨i1, i2, i3, i4, i5⟩, ⟨e1, e2, e3⟩, p3⟩ := C.2.2.2.2.1
  have p4 : 0 ≤ G 4 ∧ G 4 ≤ 60 := by rw [i1]; exact i2
  have p5 : ∀ k, 0 ≤ k → k < G 4 → 0 ≤ B 41 k ∧ B 41 k < 65536 := by intro k k0 k1; rw [i3]; rw [i1] at k1; exact i4 k ⟨k0, k1⟩
  have sta := C.m.sta
  have lna := C.m.lna
  have exa := C.m.exa
  refine gg_aload_n dL_suits_0 rfl rfl ?_
  refine gi_iconst dL_suits_1 ?_
  refine gg_aload_n dL_suits_2 rfl rfl ?_
  refine gg_iload_n dL_suits_3 rfl ?_
  refine gc_L_97 rfl dL_suits_4 ⟨(Nat.le_of_ble_eq_true rfl), (Nat.le_of_ble_eq_true rfl)⟩ ⟨(Nat.le_of_ble_eq_true rfl), (Nat.le_of_ble_eq_true rfl)⟩ (Nat.le_of_ble_eq_true rfl) (HAt.mu gst_30) (c_X9_suits S LD C9 hi) (fun E9 h9 hx9 => by subst hQF9; rcases hx9 with ⟨q1, rfl, rfl⟩ | ⟨q1, qb, rfl, G2, B2, rfl, fr⟩; (exact gx_code_n (k9 := 3) (k := 1) [] [(0, 9, 15, 19)] (0, 9, 12, 43) rfl (fun _ q => absurd q List.not_mem_nil) (by decide) (by decide) (wi_23 _ (List.mem_of_getElem? (i := 7) rfl)) (List.mem_of_getElem? (i := 3) rfl) dL_suits_12 (Nat.le_of_ble_eq_true rfl) rfl dL_suits_13 dL_suits_14 rfl ⟨(Nat.le_of_ble_eq_true rfl), (Nat.le_of_ble_eq_true rfl)⟩ ⟨1, 0, h.2, G, B, b, rfl, by unfold wl9; rw [if_neg (show ¬ (1 : Int) = 0 by decide)], (fun _ _ q => q), Or.inr (Or.inl ⟨q1, rfl, C⟩)⟩); (have cn := C.cn q1.1 q1.2; have hin : ((i.toNat : Nat) : Int) = i := Int.toNat_of_nonneg q1.1; rw [hin, cn, gt.1] at qb; obtain ⟨k1, k2⟩ := bc_4 sta lna exa q1; obtain ⟨bb, hbb⟩ : ∃ bb, (bcF (tcF (A 1) (fA9 (A 1) i) (nA9 (A 1) i) (A 1 3) fiV (A 1 (5 + i)).toNat) (tcF (A 1) (fA9 (A 1) i) (nA9 (A 1) i) (A 1 3) coV (A 1 (5 + i)).toNat) 20) = bb := ⟨_, rfl⟩; rw [hbb] at k1 k2 qb; unfold sc9 at k1; rw [if_pos (show bb.1 < 0 by omega)] at k1; exact gx_code_n (k9 := 3) (k := 2) [(0, 9, 12, 43)] [] (0, 9, 15, 19) rfl (List.forall_mem_cons.mpr ⟨⟨by decide, _, wi_23 _ (List.mem_of_getElem? (i := 7) rfl), List.mem_of_getElem? (i := 6) rfl⟩, (fun _ q => absurd q List.not_mem_nil)⟩) (by decide) (by decide) (wi_8 _ (List.mem_of_getElem? (i := 3) rfl)) (List.mem_of_getElem? (i := 1) rfl) dL_suits_15 (Nat.le_of_ble_eq_true rfl) rfl dL_suits_16 dL_suits_17 rfl ⟨(Nat.le_of_ble_eq_true rfl), (Nat.le_of_ble_eq_true rfl)⟩ ⟨2, 0, h.2, G2, B2, b, rfl, by unfold wl9; rw [if_neg (show ¬ (2 : Int) = 0 by decide)], (fun _ _ q => q), Or.inr (Or.inr ⟨q1, by rw [← k1], rfl, C.fr fr.w⟩)⟩)) (fun r_4 h_4 hp => ?_)
  obtain ⟨q1, qb, G2, B2, rfl, rfl, fr⟩ := hp
  have cn := C.cn q1.1 q1.2
  have hin : ((i.toNat : Nat) : Int) = i := Int.toNat_of_nonneg q1.1
  rw [hin, cn, gt.1] at qb ⊢
  obtain ⟨k1, k2⟩ := bc_4 sta lna exa q1
  obtain ⟨bb, hbb⟩ : ∃ bb, (bcF (tcF (A 1) (fA9 (A 1) i) (nA9 (A 1) i) (A 1 3) fiV (A 1 (5 + i)).toNat) (tcF (A 1) (fA9 (A 1) i) (nA9 (A 1) i) (A 1 3) coV (A 1 (5 + i)).toNat) 20) = bb := ⟨_, rfl⟩
  rw [hbb] at k1 k2 qb ⊢
  unfold sc9 at k1
  rw [if_neg (show ¬ bb.1 < 0 by omega)] at k1
  refine gg_i2l dL_suits_7  ?_
  refine gg_last dL_suits_8 (iN_in (n := 1) (by decide) (by decide) (by decide)) (HPut.mu (Eq.trans gst_24 h24)) ?_
  rw [gst_up9 (Or.inl rfl)]
  refine gg_goto (tgt := 18) dL_suits_9 (by decide) ?_
  refine gi_iconst dL_suits_18 ?_
  subst hQF9
  refine gg_iret dL_suits_19 rfl rfl ⟨(Nat.le_of_ble_eq_true rfl), (Nat.le_of_ble_eq_true rfl)⟩ ?_
  exact ⟨0, _, h.2, G2, B2, b, rfl, by unfold wl9; rw [if_pos (show (0 : Int) = 0 from rfl)]; rfl, (fun _ _ q => q), Or.inl ⟨q1, by rw [← k1]; exact k2 qb, rfl, by rw [← k1], C.fr fr.w⟩⟩
set_option maxRecDepth 100000 in
set_option maxHeartbeats 4000000 in
theorem cw_account {Γ : GT} {h : XH} {G : Nat → Int} {B : Nat → Int → Int} {F : Nat → Int} {A : Nat → Int → Int} {b : Nat} {v : Nat → Int64} (C : CP9 h.2 G B F A b) (h24 : h.1 24 = some (lo9 v))  {i w : Int} (hi : InR i) (hw : InR w) : Ct Γ M_L_account [.ref (g_L Γ 30), .int (iN i), .int (iN w), .ref (g_L Γ 24)] (gst Γ h G B) (fun r h9 => ∃ (k x : Int) (ι' : Nat → Option XE) (G' : Nat → Int) (B' : Nat → Int → Int) (b' : Nat), r = some (.int (iN k)) ∧ h9 = gst Γ (wl9 h v k x, ι') G' B' ∧ ext h.2 ι' ∧ (((0 ≤ i ∧ i ≤ 3) ∧ (0 ≤ w ∧ w ≤ 7) ∧ k = 0 ∧ (∀ e9 : Int → Int, x = (if w = 0 then A 1 (5 + i) else if w = 4 then frs (clsF (A 1) i e9 (A 1 (5 + i)).toNat) (A 1 (5 + i)).toNat else smV (A 1) i w (A 1 (5 + i)).toNat)) ∧ CP9 ι' G' B' F A b') ∨ (¬ (0 ≤ i ∧ i ≤ 3) ∧ k = 1 ∧ CP9 ι' G' B' F A b') ∨ ((0 ≤ i ∧ i ≤ 3) ∧ ¬ (0 ≤ w ∧ w ≤ 7) ∧ k = 2 ∧ CP9 ι' G' B' F A b'))) (fun _ _ => False) := by
  refine Ct.ofH rfl (by decide +kernel) (Nat.le_of_ble_eq_true rfl) ?_
  generalize hQF9 : QM Γ _ _ _ = QF9
  have hb9 : b ≤ 9 := by have := C.1.1; omega
  have hb8 := C.1.1
  have hn9 : b ≠ 9 := by omega
  have g0 := C.1.2
  obtain ⟨mq, S⟩ := C.SW
  have hmq := S.2.2.1
  have M1 := S.2.2.2.1
  have X9 := S.2.2.2.2.1
  have WR9 := C.2.2.2.2.2.1
  have H9 := C.2.2.1.his
  have LD := C.LD
  have gt := C.m.2.2.1
  have C9 := C.2.2.2.2.2.2.2.1
  obtain ⟨⟨i1, i2, i3, i4, i5⟩, ⟨e1, e2, e3⟩, p3⟩ := C.2.2.2.2.1
  have p4 : 0 ≤ G 4 ∧ G 4 ≤ 60 := by rw [i1]; exact i2
  have p5 : ∀ k, 0 ≤ k → k < G 4 → 0 ≤ B 41 k ∧ B 41 k < 65536 := by intro k k0 k1; rw [i3]; rw [i1] at k1; exact i4 k ⟨k0, k1⟩
  have sta := C.m.sta
  have lna := C.m.lna
  have exa := C.m.exa
  refine gg_aload_n dL_account_0 rfl rfl ?_
  refine gi_iconst dL_account_1 ?_
  refine gg_aload_n dL_account_2 rfl rfl ?_
  refine gg_iload_n dL_account_3 rfl ?_
  refine gg_iload_n dL_account_4 rfl ?_
  refine gc_L_100 rfl dL_account_5 ⟨(Nat.le_of_ble_eq_true rfl), (Nat.le_of_ble_eq_true rfl)⟩ ⟨(Nat.le_of_ble_eq_true rfl), (Nat.le_of_ble_eq_true rfl)⟩ (Nat.le_of_ble_eq_true rfl) (HAt.mu gst_30) (c_X9_account S LD hi hw) (fun E9 h9 hx9 => by subst hQF9; rcases hx9 with ⟨q1, rfl, rfl⟩ | ⟨q1, qw, rfl, rfl⟩; (exact gx_code (i := 4) (k := 1) [] [(0, 10, 17, 25)] (0, 10, 13, 43) rfl (fun _ q => absurd q List.not_mem_nil) (by decide) (by decide) (wi_23 _ (List.mem_of_getElem? (i := 7) rfl)) (List.mem_of_getElem? (i := 3) rfl) dL_account_13 (Nat.le_of_ble_eq_true rfl) rfl dL_account_15 dL_account_16 rfl ⟨(Nat.le_of_ble_eq_true rfl), (Nat.le_of_ble_eq_true rfl)⟩ ⟨1, 0, h.2, G, B, b, rfl, by unfold wl9; rw [if_neg (show ¬ (1 : Int) = 0 by decide)], (fun _ _ q => q), Or.inr (Or.inl ⟨q1, rfl, C⟩)⟩); (exact gx_code (i := 4) (k := 2) [(0, 10, 13, 43)] [] (0, 10, 17, 25) rfl (List.forall_mem_cons.mpr ⟨⟨by decide, _, wi_23 _ (List.mem_of_getElem? (i := 7) rfl), List.mem_of_getElem? (i := 10) rfl⟩, (fun _ q => absurd q List.not_mem_nil)⟩) (by decide) (by decide) (wi_8 _ (List.mem_of_getElem? (i := 18) rfl)) (List.mem_of_getElem? (i := 2) rfl) dL_account_17 (Nat.le_of_ble_eq_true rfl) rfl dL_account_19 dL_account_20 rfl ⟨(Nat.le_of_ble_eq_true rfl), (Nat.le_of_ble_eq_true rfl)⟩ ⟨2, 0, h.2, G, B, b, rfl, by unfold wl9; rw [if_neg (show ¬ (2 : Int) = 0 by decide)], (fun _ _ q => q), Or.inr (Or.inr ⟨q1, qw, rfl, C⟩)⟩)) (fun r_5 h_5 hp => ?_)
  obtain ⟨⟨q1, qw⟩, G2, B2, rfl, rfl, fr⟩ := hp
  have cn := C.cn q1.1 q1.2
  have hin : ((i.toNat : Nat) : Int) = i := Int.toNat_of_nonneg q1.1
  rw [hin, cn, gt.1]
  have si := sta.2.2.2.2.2.1 i q1.1 q1.2
  obtain ⟨xv, hxv⟩ : ∃ xv, acV (A 1) (fA9 (A 1) i) (nA9 (A 1) i) (A 1 0) (A 1 1) (A 1 2) (A 1 3) (A 1 (5 + i)) (B 36) w = xv := ⟨_, rfl⟩
  rw [hxv]
  refine gg_i2l dL_account_8  ?_
  refine gg_last dL_account_9 (iN_in (n := 1) (by decide) (by decide) (by decide)) (HPut.mu (Eq.trans gst_24 h24)) ?_
  rw [gst_up9 (Or.inl rfl)]
  refine gg_goto (tgt := 21) dL_account_10 (by decide) ?_
  refine gi_iconst dL_account_21 ?_
  subst hQF9
  refine gg_iret dL_account_22 rfl rfl ⟨(Nat.le_of_ble_eq_true rfl), (Nat.le_of_ble_eq_true rfl)⟩ ?_
  exact ⟨0, xv, h.2, G2, B2, b, rfl, by unfold wl9; rw [if_pos (show (0 : Int) = 0 from rfl)]; rfl, (fun _ _ q => q), Or.inl ⟨q1, qw, rfl, fun e9 => by
    rw [← hxv]
    unfold acV
    by_cases c0 : w = 0
    · rw [if_pos c0, if_pos c0]
    by_cases c4 : w = 4
    · rw [if_neg c0, if_neg c0, if_pos c4, if_pos c4]; exact (clS_D (e := e9) lna q1 si.2 (A 1 (5 + i)).toNat (by omega)).2
    · rw [if_neg c0, if_neg c0, if_neg c4, if_neg c4]; exact suS_D sta lna exa q1 (by omega) _ (by omega), C.fr fr⟩⟩
set_option maxRecDepth 100000 in
set_option maxHeartbeats 4000000 in
theorem cw_meanCost {Γ : GT} {h : XH} {G : Nat → Int} {B : Nat → Int → Int} {F : Nat → Int} {A : Nat → Int → Int} {b : Nat} {v : Nat → UInt64} (C : CP9 h.2 G B F A b) (h24 : h.1 25 = some (do9 v))  {i : Int} (hi : InR i) : Ct Γ M_L_meanCost [.ref (g_L Γ 30), .int (iN i), .ref (g_L Γ 25)] (gst Γ h G B) (fun r h9 => ∃ (k : Int) (x : UInt64) (ι' : Nat → Option XE) (G' : Nat → Int) (B' : Nat → Int → Int) (b' : Nat), r = some (.int (iN k)) ∧ h9 = gst Γ (wd9 h v k x, ι') G' B' ∧ ext h.2 ι' ∧ (((0 ≤ i ∧ i ≤ 3) ∧ 0 < A 1 (5 + i) - smV (A 1) i 3 (A 1 (5 + i)).toNat ∧ k = 0 ∧ x = FP.f2d (FP.fdiv (FP.i2f (iN (smV (A 1) i 2 (A 1 (5 + i)).toNat))) (FP.i2f (iN (A 1 (5 + i) - smV (A 1) i 3 (A 1 (5 + i)).toNat)))) ∧ CP9 ι' G' B' F A b') ∨ (¬ (0 ≤ i ∧ i ≤ 3) ∧ k = 1 ∧ CP9 ι' G' B' F A b') ∨ ((0 ≤ i ∧ i ≤ 3) ∧ A 1 (5 + i) - smV (A 1) i 3 (A 1 (5 + i)).toNat = 0 ∧ k = 2 ∧ CP9 ι' G' B' F A b'))) (fun _ _ => False) := by
  refine Ct.ofH rfl (by decide +kernel) (Nat.le_of_ble_eq_true rfl) ?_
  generalize hQF9 : QM Γ _ _ _ = QF9
  have hb9 : b ≤ 9 := by have := C.1.1; omega
  have hb8 := C.1.1
  have hn9 : b ≠ 9 := by omega
  have g0 := C.1.2
  obtain ⟨mq, S⟩ := C.SW
  have hmq := S.2.2.1
  have M1 := S.2.2.2.1
  have X9 := S.2.2.2.2.1
  have WR9 := C.2.2.2.2.2.1
  have H9 := C.2.2.1.his
  have LD := C.LD
  have gt := C.m.2.2.1
  have C9 := C.2.2.2.2.2.2.2.1
  obtain ⟨⟨i1, i2, i3, i4, i5⟩, ⟨e1, e2, e3⟩, p3⟩ := C.2.2.2.2.1
  have p4 : 0 ≤ G 4 ∧ G 4 ≤ 60 := by rw [i1]; exact i2
  have p5 : ∀ k, 0 ≤ k → k < G 4 → 0 ≤ B 41 k ∧ B 41 k < 65536 := by intro k k0 k1; rw [i3]; rw [i1] at k1; exact i4 k ⟨k0, k1⟩
  have sta := C.m.sta
  have lna := C.m.lna
  have exa := C.m.exa
  refine gg_aload_n dL_meanCost_0 rfl rfl ?_
  refine gi_iconst dL_meanCost_1 ?_
  refine gg_aload_n dL_meanCost_2 rfl rfl ?_
  refine gg_iload_n dL_meanCost_3 rfl ?_
  refine gc_L_103 rfl dL_meanCost_4 ⟨(Nat.le_of_ble_eq_true rfl), (Nat.le_of_ble_eq_true rfl)⟩ ⟨(Nat.le_of_ble_eq_true rfl), (Nat.le_of_ble_eq_true rfl)⟩ (Nat.le_of_ble_eq_true rfl) (HAt.mu gst_30) (c_X9_meanCost S LD hi (fun q1 => by
    have cn := C.cn q1.1 q1.2
    have hin : ((i.toNat : Nat) : Int) = i := Int.toNat_of_nonneg q1.1
    have si := sta.2.2.2.2.2.1 i q1.1 q1.2
    have e2 := suS_D (w := 2) sta lna exa q1 (by omega) (A 1 (5 + i)).toNat (by omega)
    have s2 := smV_2 sta lna q1 (A 1 (5 + i)).toNat (by omega)
    rw [hin, cn, gt.1, e2]
    omega)) (fun E9 h9 hx9 => by subst hQF9; rcases hx9 with ⟨q1, rfl, rfl⟩ | ⟨q1, qz, rfl, G2, B2, rfl, fr⟩; (exact gx_code_n (k9 := 3) (k := 1) [] [(0, 9, 15, 107)] (0, 9, 12, 43) rfl (fun _ q => absurd q List.not_mem_nil) (by decide) (by decide) (wi_23 _ (List.mem_of_getElem? (i := 7) rfl)) (List.mem_of_getElem? (i := 3) rfl) dL_meanCost_12 (Nat.le_of_ble_eq_true rfl) rfl dL_meanCost_13 dL_meanCost_14 rfl ⟨(Nat.le_of_ble_eq_true rfl), (Nat.le_of_ble_eq_true rfl)⟩ ⟨1, 0, h.2, G, B, b, rfl, by unfold wd9; rw [if_neg (show ¬ (1 : Int) = 0 by decide)], (fun _ _ q => q), Or.inr (Or.inl ⟨q1, rfl, C⟩)⟩); (have cn := C.cn q1.1 q1.2; have hin : ((i.toNat : Nat) : Int) = i := Int.toNat_of_nonneg q1.1; have si := sta.2.2.2.2.2.1 i q1.1 q1.2; have e2 := suS_D (w := 2) sta lna exa q1 (by omega) (A 1 (5 + i)).toNat (by omega); have e3 := suS_D (w := 3) sta lna exa q1 (by omega) (A 1 (5 + i)).toNat (by omega); rw [hin, cn, gt.1, e3] at qz; exact gx_code_n (k9 := 3) (k := 2) [(0, 9, 12, 43)] [] (0, 9, 15, 107) rfl (List.forall_mem_cons.mpr ⟨⟨by decide, _, wi_23 _ (List.mem_of_getElem? (i := 7) rfl), List.mem_of_getElem? (i := 19) rfl⟩, (fun _ q => absurd q List.not_mem_nil)⟩) (by decide) (by decide) (wi_52 _ (List.mem_of_getElem? (i := 4) rfl)) (List.mem_of_getElem? (i := 4) rfl) dL_meanCost_15 (Nat.le_of_ble_eq_true rfl) rfl dL_meanCost_16 dL_meanCost_17 rfl ⟨(Nat.le_of_ble_eq_true rfl), (Nat.le_of_ble_eq_true rfl)⟩ ⟨2, 0, h.2, G2, B2, b, rfl, by unfold wd9; rw [if_neg (show ¬ (2 : Int) = 0 by decide)], (fun _ _ q => q), Or.inr (Or.inr ⟨q1, qz, rfl, C.fr fr.w⟩)⟩)) (fun r_4 h_4 hp => ?_)
  obtain ⟨q1, qp, G2, B2, rfl, rfl, fr⟩ := hp
  have cn := C.cn q1.1 q1.2
  have hin : ((i.toNat : Nat) : Int) = i := Int.toNat_of_nonneg q1.1
  have si := sta.2.2.2.2.2.1 i q1.1 q1.2
  have e2 := suS_D (w := 2) sta lna exa q1 (by omega) (A 1 (5 + i)).toNat (by omega)
  have e3 := suS_D (w := 3) sta lna exa q1 (by omega) (A 1 (5 + i)).toNat (by omega)
  have s2 := smV_2 sta lna q1 (A 1 (5 + i)).toNat (by omega)
  have s3 := suS_3 (a := A 1) (fL := fA9 (A 1) i) (nL := nA9 (A 1) i) (kd := A 1 0) (ft := A 1 1) (c9 := A 1 2) (tol := A 1 3) (A 1 (5 + i)).toNat
  rw [e3] at s3
  rw [hin, cn, gt.1, e3] at qp
  rw [hin, cn, gt.1, e2, e3]
  have ra : 0 ≤ smV (A 1) i 2 (A 1 (5 + i)).toNat ∧ smV (A 1) i 2 (A 1 (5 + i)).toNat ≤ 1000 := by omega
  have rb : 1 ≤ A 1 (5 + i) - smV (A 1) i 3 (A 1 (5 + i)).toNat ∧ A 1 (5 + i) - smV (A 1) i 3 (A 1 (5 + i)).toNat ≤ 10 := by omega
  refine gg_f2d dL_meanCost_7 (n64_c ra rb) ?_
  refine gg_dast dL_meanCost_8 (iN_in (n := 1) (by decide) (by decide) (by decide)) (HPut.mu (Eq.trans gst_25 h24)) ?_
  rw [gst_up9 (Or.inr rfl)]
  refine gg_goto (tgt := 18) dL_meanCost_9 (by decide) ?_
  refine gi_iconst dL_meanCost_18 ?_
  subst hQF9
  refine gg_iret dL_meanCost_19 rfl rfl ⟨(Nat.le_of_ble_eq_true rfl), (Nat.le_of_ble_eq_true rfl)⟩ ?_
  exact ⟨0, _, h.2, G2, B2, b, rfl, by unfold wd9; rw [if_pos (show (0 : Int) = 0 from rfl)]; rfl, (fun _ _ q => q), Or.inl ⟨q1, qp, rfl, rfl, C.fr fr.w⟩⟩
