/-! the law: its steps, 2 -/
set_option maxHeartbeats 2000000
theorem st_exceptions {nm9 : String} {Γ : GT} {v : Nat → Int64} {w : Nat → UInt64} {ι : Nat → Option XE} {G : Nat → Int} {B : Nat → Int → Int} {F : Nat → Int} {A : Nat → Int → Int} {QF : List Frame → Array Value → State → State → Prop} {cs : Nat × Nat} {b : Nat} {i : Int} (hn : g_n Γ ≤ 2560) (hi : 0 ≤ i ∧ i + 5 ≤ g_n Γ) (C : CP9 ι G B F A b) (hcs : cs.1 + 100 ≤ room_1.cells ∧ cs.2 + 2000 ≤ room_1.slots)
    (kk : ∀ (v' : Nat → Int64) (w' : Nat → UInt64) (ι' : Nat → Option XE) (G' : Nat → Int) (B' : Nat → Int → Int) (F' : Nat → Int) (A' : Nat → Int → Int) (b' : Nat), CP9 ι' G' B' F' A' b' → GG Γ (M_law nm9) QF (cs.1 + 100, cs.2 + 2000) (P9 Γ v' w' ι' G' B' F' A') 2150 (LV9 Γ i none none) []) : GG Γ (M_law nm9) QF cs (P9 Γ v w ι G B F A) 622 (LV9 Γ i none none) [] := by
  have hb9 : b ≤ 9 := by have := C.1.1; omega
  have hb8 := C.1.1
  have hn9 : b ≠ 9 := by omega
  have g0 := C.1.2
  obtain ⟨mq, S⟩ := C.SW
  have hmq := S.2.2.1
  have M1 := S.2.2.2.1
  have X9 := S.2.2.2.2.1
  have WR9 := C.2.2.2.2.2.1
  have H9 := C.2.2.1.his
  have LD := C.LD
  have gt := C.m.2.2.1
  have C9 := C.2.2.2.2.2.2.2.1
  obtain ⟨⟨i1, i2, i3, i4, i5⟩, ⟨e1, e2, e3⟩, p3⟩ := C.2.2.2.2.1
  have p4 : 0 ≤ G 4 ∧ G 4 ≤ 60 := by rw [i1]; exact i2
  have p5 : ∀ k, 0 ≤ k → k < G 4 → 0 ≤ B 41 k ∧ B 41 k < 65536 := by intro k k0 k1; rw [i3]; rw [i1] at k1; exact i4 k ⟨k0, k1⟩
  have sta := C.m.sta
  have lna := C.m.lna
  have exa := C.m.exa
  have h5 : 0 ≤ F 5 ∧ F 5 ≤ 8 := C.2.2.1.1
  have r38 := C.r38
  have hc1 : cs.1 + 60 ≤ room_1.cells := by have := hcs.1; omega
  have hc2 : cs.2 + 1500 ≤ room_1.slots := by have := hcs.2; omega
  refine gg_aload_n dL_law_622 rfl rfl ?_
  refine gc_L_152 rfl dL_law_623 ⟨(Nat.le_of_ble_eq_true rfl), (Nat.le_of_ble_eq_true rfl)⟩ ⟨Nat.le_trans (Nat.add_le_add_left ((Nat.le_of_ble_eq_true rfl) : (mR M_X9_exceptions).cells ≤ 60) _) hc1, Nat.le_trans (Nat.add_le_add_left ((Nat.le_of_ble_eq_true rfl) : (mR M_X9_exceptions).slots ≤ 1500) _) hc2⟩ (Nat.le_of_ble_eq_true rfl) (HAt.mu gst_30) (c_X9_exceptions (h := mst Γ (h9b v w, ι) F A) hb9 g0) (fun _ _ z => z.elim) (fun r h' hp => ?_)
  obtain ⟨rfl, rfl⟩ := hp
  rw [X9.1.1]
  refine gg_widen (k := cs.1 + 60) (n := cs.2 + 1500) (Nat.add_le_add_left (Nat.le_of_ble_eq_true rfl) _) (Nat.add_le_add_left (Nat.le_of_ble_eq_true rfl) _) ?_
  change GG Γ (M_law nm9) QF (cs.1 + 60, cs.2 + 1500) (P9 Γ v w ι G B F A) 626 (LV9 Γ i none none) [.int (iN (A 1 4))]
  refine gg_aload_n dL_law_626 rfl rfl ?_
  rw [P9_m]
  refine gc_L_155 rfl dL_law_627 ⟨(Nat.le_of_ble_eq_true rfl), (Nat.le_of_ble_eq_true rfl)⟩ ⟨hc1, hc2⟩ (Nat.le_of_ble_eq_true rfl) (HAt.mu rfl) c_X10_exceptions (fun _ _ z => z.elim) (fun r h' hp => ?_)
  obtain ⟨rfl, rfl⟩ := hp
  rw [← P9_m]
  have ir : InR (A 1 4) := C.m.2.2.2.2.2 4
  exact gi_icmp_eq dL_law_630 (tgt := 2150) (by omega) ir ir (fun _ => (gg_widen (k := cs.1 + 100) (n := cs.2 + 2000) (by show cs.1 + 60 + 0 ≤ cs.1 + 100; omega) (by show cs.2 + 1500 + 0 ≤ cs.2 + 2000; omega) (kk _ _ _ _ _ _ _ _ C))) (fun z => absurd rfl z)
theorem st_save {nm9 : String} {Γ : GT} {v : Nat → Int64} {w : Nat → UInt64} {ι : Nat → Option XE} {G : Nat → Int} {B : Nat → Int → Int} {F : Nat → Int} {A : Nat → Int → Int} {QF : List Frame → Array Value → State → State → Prop} {cs : Nat × Nat} {b : Nat} {i : Int} (hn : g_n Γ ≤ 2560) (hi : 0 ≤ i ∧ i + 5 ≤ g_n Γ) (C : CP9 ι G B F A b) (hcs : cs.1 + 100 ≤ room_1.cells ∧ cs.2 + 2000 ≤ room_1.slots)
    (kk : ∀ (v' : Nat → Int64) (w' : Nat → UInt64) (ι' : Nat → Option XE) (G' : Nat → Int) (B' : Nat → Int → Int) (F' : Nat → Int) (A' : Nat → Int → Int) (b' : Nat), CP9 ι' G' B' F' A' b' → GG Γ (M_law nm9) QF (cs.1 + 100, cs.2 + 2000) (P9 Γ v' w' ι' G' B' F' A') 2150 (LV9 Γ i none none) []) : GG Γ (M_law nm9) QF cs (P9 Γ v w ι G B F A) 2093 (LV9 Γ i none none) [] := by
  have hb9 : b ≤ 9 := by have := C.1.1; omega
  have hb8 := C.1.1
  have hn9 : b ≠ 9 := by omega
  have g0 := C.1.2
  obtain ⟨mq, S⟩ := C.SW
  have hmq := S.2.2.1
  have M1 := S.2.2.2.1
  have X9 := S.2.2.2.2.1
  have WR9 := C.2.2.2.2.2.1
  have H9 := C.2.2.1.his
  have LD := C.LD
  have gt := C.m.2.2.1
  have C9 := C.2.2.2.2.2.2.2.1
  obtain ⟨⟨i1, i2, i3, i4, i5⟩, ⟨e1, e2, e3⟩, p3⟩ := C.2.2.2.2.1
  have p4 : 0 ≤ G 4 ∧ G 4 ≤ 60 := by rw [i1]; exact i2
  have p5 : ∀ k, 0 ≤ k → k < G 4 → 0 ≤ B 41 k ∧ B 41 k < 65536 := by intro k k0 k1; rw [i3]; rw [i1] at k1; exact i4 k ⟨k0, k1⟩
  have sta := C.m.sta
  have lna := C.m.lna
  have exa := C.m.exa
  have h5 : 0 ≤ F 5 ∧ F 5 ≤ 8 := C.2.2.1.1
  have r38 := C.r38
  have hc1 : cs.1 + 60 ≤ room_1.cells := by have := hcs.1; omega
  have hc2 : cs.2 + 1500 ≤ room_1.slots := by have := hcs.2; omega
  refine gg_aload_n dL_law_2093 rfl rfl ?_
  refine gc_L_220 rfl dL_law_2094 ⟨(Nat.le_of_ble_eq_true rfl), (Nat.le_of_ble_eq_true rfl)⟩ ⟨Nat.le_trans (Nat.add_le_add_left ((Nat.le_of_ble_eq_true rfl) : (mR M_X9_save).cells ≤ 60) _) hc1, Nat.le_trans (Nat.add_le_add_left ((Nat.le_of_ble_eq_true rfl) : (mR M_X9_save).slots ≤ 1500) _) hc2⟩ (Nat.le_of_ble_eq_true rfl) (HAt.mu gst_30) (c_X9_save (h := mst Γ (h9b v w, ι) F A) hb9 g0 hmq WR9 hn9) (fun _ _ z => z.elim) (fun r h' hp => ?_)
  obtain ⟨rfl, rfl⟩ := hp
  have KK := K_save (F2 := uF F 6 1) C (by simp only [uF_s, uF_n, ne_eq, Nat.reduceEqDiff, not_false_eq_true]) (by simp only [uF_s, uF_n, ne_eq, Nat.reduceEqDiff, not_false_eq_true]) (by simp only [uF_s, uF_n, ne_eq, Nat.reduceEqDiff, not_false_eq_true]) (by simp only [uF_s, uF_n, ne_eq, Nat.reduceEqDiff, not_false_eq_true]) (by simp only [uF_s, uF_n, ne_eq, Nat.reduceEqDiff, not_false_eq_true])
  have ms := (KK.2.2.2.1.2.2.1 uF_s).2.2.2.2.1
  have ci : ∀ z, 0 ≤ z → z < 2609 → cp (A 1) (A 3) 0 0 2609 z = A 1 z := fun z z0 z1 => by unfold cp; rw [if_pos (by omega)]; congr 1; omega
  have ev : lcS (uF (bcG G 9 b) 2 1) 9 4 = A 1 5 + A 1 6 + A 1 7 + A 1 8 := by
    have d0 := (ms 0 (by omega)).1
    have d1 := (ms 1 (by omega)).1
    have d2 := (ms 2 (by omega)).1
    have d3 := (ms 3 (by omega)).1
    rw [uA_s] at d0 d1 d2 d3
    rw [ci _ (by omega) (by omega)] at d0 d1 d2 d3
    show 0 + uF (bcG G 9 b) 2 1 (103 + 10 * 9 + 0) + uF (bcG G 9 b) 2 1 (103 + 10 * 9 + 1) + uF (bcG G 9 b) 2 1 (103 + 10 * 9 + 2) + uF (bcG G 9 b) 2 1 (103 + 10 * 9 + 3) = _
    rw [d0, d1, d2, d3, Int.zero_add]; rfl
  rw [ev]
  refine gg_widen (k := cs.1 + 60) (n := cs.2 + 1500) (Nat.add_le_add_left (Nat.le_of_ble_eq_true rfl) _) (Nat.add_le_add_left (Nat.le_of_ble_eq_true rfl) _) ?_
  change GG Γ (M_law nm9) QF (cs.1 + 60, cs.2 + 1500) (P9 Γ v w ι (uF (bcG G 9 b) 2 1) (bcB B 9 b) F A) 2097 (LV9 Γ i none none) [.int (iN (A 1 5 + A 1 6 + A 1 7 + A 1 8))]
  refine gg_aload_n dL_law_2097 rfl rfl ?_
  rw [P9_m]
  refine gc_L_223 rfl dL_law_2098 ⟨(Nat.le_of_ble_eq_true rfl), (Nat.le_of_ble_eq_true rfl)⟩ ⟨hc1, hc2⟩ (Nat.le_of_ble_eq_true rfl) (HAt.mu rfl) (c_X10_save sta) (fun _ _ z => z.elim) (fun r h' hp => ?_)
  obtain ⟨rfl, rfl⟩ := hp
  rw [← P9_m]
  have y0 := sta.2.2.2.2.2.1 0 (by omega) (by omega)
  have y1 := sta.2.2.2.2.2.1 1 (by omega) (by omega)
  have y2 := sta.2.2.2.2.2.1 2 (by omega) (by omega)
  have y3 := sta.2.2.2.2.2.1 3 (by omega) (by omega)
  simp only [Int.reduceAdd, Int.add_zero] at y0 y1 y2 y3
  have ir : InR (A 1 5 + A 1 6 + A 1 7 + A 1 8) := ⟨by omega, by omega⟩
  exact gi_icmp_eq dL_law_2101 (tgt := 2150) (by omega) ir ir (fun _ => (gg_widen (k := cs.1 + 100) (n := cs.2 + 2000) (by show cs.1 + 60 + 0 ≤ cs.1 + 100; omega) (by show cs.2 + 1500 + 0 ≤ cs.2 + 2000; omega) (kk _ _ _ _ _ _ _ _ KK))) (fun z => absurd rfl z)
theorem d64_ok : ∀ (j : Fin 10) (i : Fin 1001), Op.cmpValue (FP.dcmp (FP.f2d (FP.fdiv (FP.i2f (nI i.val)) (FP.i2f (nI (j.val + 1))))) (FP.f2d (FP.fdiv (FP.i2f (nI i.val)) (FP.i2f (nI (j.val + 1)))))) .l = 0 := by
  decide +kernel
theorem d64_c {a b : Int} (ha : 0 ≤ a ∧ a ≤ 1000) (hb : 1 ≤ b ∧ b ≤ 10) : Op.cmpValue (FP.dcmp (FP.f2d (FP.fdiv (FP.i2f (iN a)) (FP.i2f (iN b)))) (FP.f2d (FP.fdiv (FP.i2f (iN a)) (FP.i2f (iN b))))) .l = 0 := by
  obtain ⟨n, rfl⟩ := Int.eq_ofNat_of_zero_le ha.1
  obtain ⟨m, hm⟩ := Int.eq_ofNat_of_zero_le (show 0 ≤ b - 1 by omega)
  have e1 : b = ((m + 1 : Nat) : Int) := by omega
  rw [e1, iN_nI, iN_nI]
  exact d64_ok ⟨m, by omega⟩ ⟨n, by omega⟩
theorem ww9_0 {w : Nat → UInt64} {k : Int} {x : UInt64} (h : k = 0) : ww9 w k x 0 = x := by
  unfold ww9; rw [if_pos h]; rfl
theorem st_meanCost {nm9 : String} {Γ : GT} {v : Nat → Int64} {w : Nat → UInt64} {ι : Nat → Option XE} {G : Nat → Int} {B : Nat → Int → Int} {F : Nat → Int} {A : Nat → Int → Int} {QF : List Frame → Array Value → State → State → Prop} {cs : Nat × Nat} {b : Nat} {i : Int} (hn : g_n Γ ≤ 2560) (hi : 0 ≤ i ∧ i + 5 ≤ g_n Γ) (C : CP9 ι G B F A b) (hcs : cs.1 + 100 ≤ room_1.cells ∧ cs.2 + 2000 ≤ room_1.slots)
    (kk : ∀ (v' : Nat → Int64) (w' : Nat → UInt64) (ι' : Nat → Option XE) (G' : Nat → Int) (B' : Nat → Int → Int) (F' : Nat → Int) (A' : Nat → Int → Int) (b' : Nat), CP9 ι' G' B' F' A' b' → GG Γ (M_law nm9) QF (cs.1 + 100, cs.2 + 2000) (P9 Γ v' w' ι' G' B' F' A') 2150 (LV9 Γ i none none) []) : GG Γ (M_law nm9) QF cs (P9 Γ v w ι G B F A) 1971 (LV9 Γ i none none) [] := by
  have hb9 : b ≤ 9 := by have := C.1.1; omega
  have hb8 := C.1.1
  have hn9 : b ≠ 9 := by omega
  have g0 := C.1.2
  obtain ⟨mq, S⟩ := C.SW
  have hmq := S.2.2.1
  have M1 := S.2.2.2.1
  have X9 := S.2.2.2.2.1
  have WR9 := C.2.2.2.2.2.1
  have H9 := C.2.2.1.his
  have LD := C.LD
  have gt := C.m.2.2.1
  have C9 := C.2.2.2.2.2.2.2.1
  obtain ⟨⟨i1, i2, i3, i4, i5⟩, ⟨e1, e2, e3⟩, p3⟩ := C.2.2.2.2.1
  have p4 : 0 ≤ G 4 ∧ G 4 ≤ 60 := by rw [i1]; exact i2
  have p5 : ∀ k, 0 ≤ k → k < G 4 → 0 ≤ B 41 k ∧ B 41 k < 65536 := by intro k k0 k1; rw [i3]; rw [i1] at k1; exact i4 k ⟨k0, k1⟩
  have sta := C.m.sta
  have lna := C.m.lna
  have exa := C.m.exa
  have h5 : 0 ≤ F 5 ∧ F 5 ≤ 8 := C.2.2.1.1
  have r38 := C.r38
  have hc1 : cs.1 + 60 ≤ room_1.cells := by have := hcs.1; omega
  have hc2 : cs.2 + 1500 ≤ room_1.slots := by have := hcs.2; omega
  refine gg_aload_n dL_law_1971 rfl rfl ?_
  refine g5 (k := 1) hn rfl rfl hi (by decide) dL_law_1972 dL_law_1973 dL_law_1975 dL_law_1976 dL_law_1977 ?_
  refine gg_aload dL_law_1978 rfl rfl ?_
  refine gg_callSX (As := [.ref (g_L Γ 30), .int (iN (sx Γ (i + 1))), .ref (g_L Γ 25)]) (rest := []) mokh_L_meanCost (wi_52 _ (List.mem_of_getElem? (i := 1) rfl)) (wi_52 _ (List.mem_of_getElem? (i := 2) rfl)) dL_law_1980 rfl ⟨(Nat.le_of_ble_eq_true rfl), (Nat.le_of_ble_eq_true rfl)⟩ ⟨Nat.le_trans (Nat.add_le_add_left ((Nat.le_of_ble_eq_true rfl) : (mR M_L_meanCost).cells ≤ 60) _) hc1, Nat.le_trans (Nat.add_le_add_left ((Nat.le_of_ble_eq_true rfl) : (mR M_L_meanCost).slots ≤ 1500) _) hc2⟩ (Nat.le_of_ble_eq_true rfl) (cw_meanCost (h := mst Γ (h9b v w, ι) F A) C (Eq.trans (mst_hi (by decide)) rfl) (sx_r Γ _)) (fun _ _ z => z.elim) (fun r h' hp => ?_)
  obtain ⟨k, x, ι', G', B', b', rfl, rfl, hX, res⟩ := hp
  refine gg_widen (k := cs.1 + 60) (n := cs.2 + 1500) (Nat.add_le_add_left (Nat.le_of_ble_eq_true rfl) _) (Nat.add_le_add_left (Nat.le_of_ble_eq_true rfl) _) ?_
  rw [P9_wd (G := G) (B := B) (ι := ι)]
  change GG Γ (M_law nm9) QF (cs.1 + 60, cs.2 + 1500) (P9 Γ v (ww9 w k x) ι' G' B' F A) 1983 (LV9 Γ i none none) [.int (iN k)]
  refine gg_istore dL_law_1983 (Nat.le_of_ble_eq_true rfl) rfl ?_
  rw [P9_m]
  refine gg_aload_n dL_law_1985 rfl rfl ?_
  refine g5 (k := 1) hn rfl rfl hi (by decide) dL_law_1986 dL_law_1987 dL_law_1989 dL_law_1990 dL_law_1991 ?_
  refine gc_L_216 rfl dL_law_1992 ⟨(Nat.le_of_ble_eq_true rfl), (Nat.le_of_ble_eq_true rfl)⟩ ⟨hc1, hc2⟩ (Nat.le_of_ble_eq_true rfl) (HAt.mu rfl) (c3_X10_meanCost sta lna exa r38 (sx_r Γ _)) (fun _ _ z => z.elim) (fun r2 h2 hp2 => ?_)
  have J : ∃ (F2 : Nat → Int) (A2 : Nat → Int → Int) (y : UInt32), r2 = some (.float y) ∧ h2 = mst Γ (gst Γ (h9b v (ww9 w k x), ι') G' B') F2 A2 ∧ F2 0 = k ∧ (0 ≤ k ∧ k ≤ 3) ∧ (k = 0 → x = FP.f2d y ∧ vf_n64 (FP.f2d y) ∧ Op.cmpValue (FP.dcmp (FP.f2d y) (FP.f2d y)) .l = 0) ∧ CP9 ι' G' B' F2 A2 b' := by
    have ra : (0 ≤ (sx Γ (i + 1)) ∧ (sx Γ (i + 1)) ≤ 3) → 0 ≤ smV (A 1) (sx Γ (i + 1)) 2 (A 1 (5 + (sx Γ (i + 1)))).toNat ∧ smV (A 1) (sx Γ (i + 1)) 2 (A 1 (5 + (sx Γ (i + 1)))).toNat ≤ 1000 := fun q => by
      have si := sta.2.2.2.2.2.1 _ q.1 q.2
      have s2 := smV_2 sta lna q (A 1 (5 + (sx Γ (i + 1)))).toNat (by omega)
      omega
    have rb : (0 ≤ (sx Γ (i + 1)) ∧ (sx Γ (i + 1)) ≤ 3) → 0 < A 1 (5 + (sx Γ (i + 1))) - smV (A 1) (sx Γ (i + 1)) 3 (A 1 (5 + (sx Γ (i + 1)))).toNat → 1 ≤ A 1 (5 + (sx Γ (i + 1))) - smV (A 1) (sx Γ (i + 1)) 3 (A 1 (5 + (sx Γ (i + 1)))).toNat ∧ A 1 (5 + (sx Γ (i + 1))) - smV (A 1) (sx Γ (i + 1)) 3 (A 1 (5 + (sx Γ (i + 1)))).toNat ≤ 10 := fun q q2 => by
      have si := sta.2.2.2.2.2.1 _ q.1 q.2
      have e3 := suS_D (w := 3) sta lna exa q (by omega) (A 1 (5 + (sx Γ (i + 1)))).toNat (by omega)
      have s3 := suS_3 (a := A 1) (fL := fA9 (A 1) (sx Γ (i + 1))) (nL := nA9 (A 1) (sx Γ (i + 1))) (kd := A 1 0) (ft := A 1 1) (c9 := A 1 2) (tol := A 1 3) (A 1 (5 + (sx Γ (i + 1)))).toNat
      rw [e3] at s3
      omega
    rcases res with ⟨r1, r2, rfl, rfl, C2⟩ | ⟨r1, rfl, C2⟩ | ⟨r1, r2, rfl, C2⟩
    · rcases hp2 with ⟨p1, rfl, rfl⟩ | ⟨p1, F2, A2, rfl, h38, fF, fA, ⟨p2, rfl, e0⟩ | ⟨p2, rfl, e0⟩⟩
      · exact absurd r1 p1
      · omega
      · exact ⟨F2, A2, _, rfl, rfl, e0, by decide, fun _ => ⟨rfl, n64_c (ra r1) (rb r1 r2), d64_c (ra r1) (rb r1 r2)⟩, CP9.cF (fF 5 (by decide)) (fF 6 (by decide)) (fF 8 (by decide)) (fF 10 (by decide)) h38 (fA 1 (by decide)) (fA 3 (by decide)) (fA 4 (by decide)) (fA 5 (by decide)) C2⟩
    · rcases hp2 with ⟨p1, rfl, rfl⟩ | ⟨p1, F2, A2, rfl, h38, fF, fA, ⟨p2, rfl, e0⟩ | ⟨p2, rfl, e0⟩⟩
      · exact ⟨_, _, _, rfl, rfl, (by simp only [uF_s, uF_n, ne_eq, Nat.reduceEqDiff, not_false_eq_true]), by decide, fun z => absurd z (by decide), CP9.cF (by first | rfl | simp only [uF_s, uF_n, uA_s, uA_n, ne_eq, Nat.reduceEqDiff, not_false_eq_true]) (by first | rfl | simp only [uF_s, uF_n, uA_s, uA_n, ne_eq, Nat.reduceEqDiff, not_false_eq_true]) (by first | rfl | simp only [uF_s, uF_n, uA_s, uA_n, ne_eq, Nat.reduceEqDiff, not_false_eq_true]) (by first | rfl | simp only [uF_s, uF_n, uA_s, uA_n, ne_eq, Nat.reduceEqDiff, not_false_eq_true]) (by first | exact r38 | (simp only [uF_s, uF_n, ne_eq, Nat.reduceEqDiff, not_false_eq_true]; exact r38)) (by first | rfl | simp only [uF_s, uF_n, uA_s, uA_n, ne_eq, Nat.reduceEqDiff, not_false_eq_true]) (by first | rfl | simp only [uF_s, uF_n, uA_s, uA_n, ne_eq, Nat.reduceEqDiff, not_false_eq_true]) (by first | rfl | simp only [uF_s, uF_n, uA_s, uA_n, ne_eq, Nat.reduceEqDiff, not_false_eq_true]) (by first | rfl | simp only [uF_s, uF_n, uA_s, uA_n, ne_eq, Nat.reduceEqDiff, not_false_eq_true]) C2⟩
      · exact absurd p1 r1
      · exact absurd p1 r1
    · rcases hp2 with ⟨p1, rfl, rfl⟩ | ⟨p1, F2, A2, rfl, h38, fF, fA, ⟨p2, rfl, e0⟩ | ⟨p2, rfl, e0⟩⟩
      · exact absurd r1 p1
      · exact ⟨F2, A2, _, rfl, rfl, e0, by decide, fun z => absurd z (by decide), CP9.cF (fF 5 (by decide)) (fF 6 (by decide)) (fF 8 (by decide)) (fF 10 (by decide)) h38 (fA 1 (by decide)) (fA 3 (by decide)) (fA 4 (by decide)) (fA 5 (by decide)) C2⟩
      · omega
  obtain ⟨F2, A2, y, rfl, rfl, rfl, hk, hx, C2⟩ := J
  rw [← P9_m]
  have k2 : GG Γ (M_law nm9) QF (cs.1 + 60, cs.2 + 1500) (P9 Γ v (ww9 w (F2 0) x) ι' G' B' F2 A2) 2046 (LV9 Γ i (some (.int (iN (F2 0)))) (some (.float y))) [] := gg_goto dL_law_2046 (tgt := 2150) (by decide) (gg_drop 6 (gg_drop 7 (gg_widen (k := cs.1 + 100) (n := cs.2 + 2000) (by show cs.1 + 60 + 0 ≤ cs.1 + 100; omega) (by show cs.2 + 1500 + 0 ≤ cs.2 + 2000; omega) (kk _ _ _ _ _ _ _ _ C2))))
  have ir : InR (F2 0) := ⟨by omega, by omega⟩
  refine gg_fstore dL_law_1995 (Nat.le_of_ble_eq_true rfl) rfl ?_
  refine gg_aload_n dL_law_1997 rfl rfl ?_
  rw [P9_m]
  refine gc_L_125 rfl dL_law_1998 ⟨(Nat.le_of_ble_eq_true rfl), (Nat.le_of_ble_eq_true rfl)⟩ ⟨hc1, hc2⟩ (Nat.le_of_ble_eq_true rfl) (HAt.mu rfl) c_X10_thrown (fun _ _ z => z.elim) (fun r h' hp => ?_)
  obtain ⟨rfl, rfl⟩ := hp
  rw [← P9_m]
  refine gg_iload dL_law_2001 rfl ?_
  refine gi_icmp_eq dL_law_2003 (tgt := 2008) (by decide) ir ir (fun _ => ?_) (fun z => absurd rfl z)
  refine gg_iload dL_law_2008 rfl ?_
  refine gi_if_ne dL_law_2010 (tgt := 2046) (by decide) ir (fun _ => k2) (fun z => ?_)
  obtain ⟨hx1, hx2, hx3⟩ := hx z
  refine gg_aload dL_law_2013 rfl rfl ?_
  refine gi_iconst dL_law_2015 ?_
  refine gg_dald dL_law_2016 (HAt.mu (i := 25) (show _ = some (do9 (ww9 w (F2 0) x)) from by unfold P9; rw [gst_25, mst_hi (by decide)]; rfl)) (iN_in (n := 1) (by decide) (by decide) (by decide)) ?_
  refine gg_fload dL_law_2017 rfl ?_
  refine gg_f2d dL_law_2019 hx2 ?_
  refine gg_dcmp dL_law_2020 ?_
  rw [show ww9 w (F2 0) x (iN 0).toNatClampNeg = FP.f2d y from (ww9_0 z).trans hx1, hx3]
  exact gg_if_eq dL_law_2021 (tgt := 2046) (by decide) (fun _ => k2) (fun z => absurd rfl z)
