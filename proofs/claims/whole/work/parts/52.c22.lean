/-! lines read -/
/-- reading stands after m words at p -/
def LSt (f : Int → Int) (n m p : Int) : Prop :=
  (parseL f n 12 0).1 = (parseL f n (12 - m).toNat p).1 ∧ (parseL f n 12 0).2.1 = (parseL f n (12 - m).toNat p).2.1 ∧
  pwL f n = m + ((parseL f n (12 - m).toNat p).2.2.length : Int) ∧ ∀ j : Int, m ≤ j → (parseL f n 12 0).2.2[j.toNat]? = (parseL f n (12 - m).toNat p).2.2[(j - m).toNat]?
theorem LSt.z {f : Int → Int} {n : Int} : LSt f n 0 0 := ⟨rfl, rfl, by rw [Int.zero_add]; rfl, fun j _ => by rw [show (j - 0).toNat = j.toNat by omega]; rfl⟩
theorem LSt.full {f : Int → Int} {n p : Int} (h : LSt f n 12 p) : (parseL f n 12 0).1 = false ∧ (parseL f n 12 0).2.1 = p := ⟨h.1, h.2.1⟩
theorem LSt.st {f : Int → Int} {n m p : Int} (h : LSt f n m p) (h0 : 0 ≤ m) (h1 : m < 12) {w : Int} (hw : wlen f n 12 p = w) {c : Bool} (hc : (decide (p + w < n) && decide (f (p + w) = 44)) = c) :
    (w = 0 → (parseL f n 12 0).1 = false ∧ (parseL f n 12 0).2.1 = p) ∧
    (w ≠ 0 → pw f n m = (p, w, c) ∧ (n ≤ p + w + bi c → (parseL f n 12 0).1 = true ∧ (parseL f n 12 0).2.1 = p + w + bi c ∧ pwL f n = m + 1) ∧
      (¬ n ≤ p + w + bi c → f (p + w + bi c) ≠ 32 → (parseL f n 12 0).1 = false ∧ (parseL f n 12 0).2.1 = p + w + bi c) ∧
      (¬ n ≤ p + w + bi c → f (p + w + bi c) = 32 → LSt f n (m + 1) (p + w + bi c + 1))) := by
  obtain ⟨e1, e2, e3, e4⟩ := h
  have es : (12 - m).toNat = (12 - (m + 1)).toNat + 1 := by omega
  have hu := @parseL.eq_2 f n p (12 - (m + 1)).toNat
  simp only [hw, hc] at hu
  rw [es, hu] at e1 e2 e3
  have e5 : ∀ j : Int, m ≤ j → (parseL f n 12 0).2.2[j.toNat]? = (parseL f n ((12 - (m + 1)).toNat + 1) p).2.2[(j - m).toNat]? := fun j hj => by rw [e4 j hj, es]
  rw [hu] at e5
  have e6 := e5 m (by omega)
  rw [show (m - m).toNat = 0 by omega] at e6
  refine ⟨fun z => ?_, fun z => ?_⟩
  · rw [if_pos z] at e1 e2; exact ⟨e1, e2⟩
  · rw [if_neg z] at e1 e2 e3 e6
    simp only [if_neg z] at e5
    by_cases q : n ≤ p + w + bi c
    · rw [if_pos q] at e1 e2 e3 e6
      exact ⟨by unfold pw; rw [e6]; rfl, fun _ => ⟨e1, e2, e3⟩, fun x => absurd q x, fun x => absurd q x⟩
    · rw [if_neg q] at e1 e2 e3 e6
      simp only [if_neg q] at e5
      by_cases y : f (p + w + bi c) = 32
      · rw [if_pos y] at e1 e2 e3 e6
        simp only [if_pos y] at e5
        refine ⟨by unfold pw; rw [e6]; rfl, fun x => absurd x q, fun _ x => absurd y x, fun _ _ => ⟨e1, e2, ?_, fun j hj => ?_⟩⟩
        · rw [e3, List.length_cons]; omega
        · rw [e5 j (by omega), show (j - m).toNat = (j - (m + 1)).toNat + 1 by omega, List.getElem?_cons_succ]
      · rw [if_neg y] at e1 e2 e6
        exact ⟨by unfold pw; rw [e6]; rfl, fun x => absurd x q, fun _ _ => ⟨e1, e2⟩, fun _ x => absurd x y⟩
/-- where word i starts and ends -/
def WSE (B : Nat → Int → Int) (f : Int → Int) (n i : Int) : Prop := B 42 i = pwP f n i ∧ B 43 i = pwP f n i + pwN f n i ∧ (1 ≤ pwN f n i ∧ pwN f n i ≤ 12) ∧ 0 ≤ pwP f n i ∧ pwP f n i + pwN f n i ≤ n ∧ ∀ j, 0 ≤ j → j < pwN f n i → 97 ≤ f (pwP f n i + j) ∧ f (pwP f n i + j) ≤ 122
theorem c_lineOf2 {Γ : GT} {h : XH} {G : Nat → Int} {B : Nat → Int → Int} {f : Int → Int} {n wn cm : Int} (hf : B 41 = f) (hn : G 4 = n) (p4 : 0 ≤ n ∧ n ≤ 60) (p5 : ∀ k, 0 ≤ k → k < n → 0 ≤ f k ∧ f k < 65536) (p3 : 0 ≤ G 3 ∧ G 3 ≤ 100) (hwn : pwL f n = wn) (hw : 1 ≤ wn ∧ wn ≤ 12) (n1 : 1 ≤ n) (hok : (parseL f n 12 0).1 = true) (hcm : cm = ((plN (pwC f n) wn.toNat : Nat) : Int)) (hS : ∀ i, 0 ≤ i → i < wn → WSE B f n i) :
    Ct Γ M_X1_lineOf [.ref (g_L Γ 40), .int (iN wn), .int (iN cm)] (gst Γ h G B) (fun r h9 => ∃ (ι' : Nat → Option XE) (q : Nat), r = some (.ref q) ∧ h9 = gst Γ (h.1, ι') G B ∧ ext h.2 ι' ∧ LnO ι' q f n) (fun _ _ => False) := by
  subst hf; subst hn; subst hcm; subst hwn
  exact c_X1_lineOf p4 p5 p3 rfl hw n1 hok hS
set_option maxRecDepth 100000 in
set_option maxHeartbeats 4000000 in
theorem c_X1_parseLine {Γ : GT} {h : XH} {G : Nat → Int} {B : Nat → Int → Int} (p4 : 0 ≤ G 4 ∧ G 4 ≤ 60) (g3 : G 3 = 0) (p5 : ∀ k, 0 ≤ k → k < G 4 → 0 ≤ B 41 k ∧ B 41 k < 65536) : Ct Γ M_X1_parseLine [.ref (g_L Γ 40)] (gst Γ h G B) (fun r h9 => ∃ (ι' : Nat → Option XE) (B' : Nat → Int → Int), h9 = gst Γ (h.1, ι') (uF G 3 (parseL (B 41) (G 4) 12 0).2.1) B' ∧ (∀ x, x ≠ 42 → x ≠ 43 → B' x = B x) ∧ ext h.2 ι' ∧ (((parseL (B 41) (G 4) 12 0).1 = true ∧ ∃ q : Nat, r = some (.ref q) ∧ LnO ι' q (B 41) (G 4)) ∨ ((parseL (B 41) (G 4) 12 0).1 = false ∧ r = some .null))) (fun _ _ => False) := by
  refine Ct.of rfl (by decide +kernel) (Nat.le_of_ble_eq_true rfl) ?_
  generalize hQF9 : QM Γ _ _ _ = QF9
  refine gi_iconst dX1_parseLine_0 ?_
  refine gg_istore_n dX1_parseLine_1 (Nat.le_of_ble_eq_true rfl) rfl ?_
  refine gi_iconst dX1_parseLine_2 ?_
  refine gg_istore_n dX1_parseLine_3 (Nat.le_of_ble_eq_true rfl) rfl ?_
  have L_4 : ∀ (n9 : Nat) (m p : Int) (B' : Nat → Int → Int), ((12 - m).toNat) = n9 → ∀ (hm : 0 ≤ m ∧ m ≤ 12) (hp0 : 0 ≤ p ∧ p ≤ G 4) (hB : ∀ x, x ≠ 42 → x ≠ 43 → B' x = B x) (hL : LSt (B 41) (G 4) m p) (hS : ∀ i, 0 ≤ i → i < m → WSE B' (B 41) (G 4) i), GG Γ M_X1_parseLine QF9 (0, 0) (gst Γ h (uF G 3 p) B') 4 [some (.ref (g_L Γ 40)), some (.int (iN ((plN (pwC (B 41) (G 4)) (m).toNat : Nat) : Int))), some (.int (iN m))] [] := by
    intro n9
    induction n9 using Nat.strongRecOn with
    | ind n9 ih_4 => 
      intro m p B' hm9 hm hp0 hB hL hS
      refine gg_iload_n dX1_parseLine_4 rfl ?_
      refine gi_bipush dX1_parseLine_5 (by decide) ?_
      refine gi_icmp_ge (tgt := 87) dX1_parseLine_7 (by decide) ⟨by omega, by omega⟩ ⟨by omega, by omega⟩ (fun c_7 => ?_) (fun c_7 => ?_)
      · refine gg_null dX1_parseLine_87 ?_
        subst hQF9
        refine gg_aret dX1_parseLine_88 rfl rfl rfl ⟨(Nat.le_of_ble_eq_true rfl), (Nat.le_of_ble_eq_true rfl)⟩ ?_
        have hf9 := LSt.full (show LSt (B 41) (G 4) 12 p by rw [show (12 : Int) = m by omega]; exact hL)
        refine ⟨h.2, B', by rw [hf9.2], hB, ext.rfl9, Or.inr ⟨hf9.1, rfl⟩⟩
      · refine gg_aload_n dX1_parseLine_10 rfl rfl ?_
        refine gk_getX1_15 rfl dX1_parseLine_11 ?_
        refine gg_iload_n dX1_parseLine_14 rfl ?_
        refine gg_aload_n dX1_parseLine_15 rfl rfl ?_
        refine gk_getX1_22 rfl dX1_parseLine_16 uF_s ?_
        refine gk_iast dX1_parseLine_19 (by decide) (by decide) ⟨by omega, by show _ < (12 : Int); omega⟩ (by (try simp only [uA_s, uA_n, uA_ss, uA_cc, id_eq, ne_eq, not_false_eq_true, Nat.reduceEqDiff, Nat.reduceLT, reduceCtorEq]); rfl) ?_
        obtain ⟨B1, hB1⟩ : ∃ B1, uA B' 42 (up (B' 42) m p) = B1 := ⟨_, rfl⟩
        rw [hB1]
        have b1 : B1 41 = B 41 := by rw [← hB1, uA_n (by decide)]; exact hB 41 (by decide) (by decide)
        refine gg_aload_n dX1_parseLine_20 rfl rfl ?_
        refine gc_X1_48 rfl dX1_parseLine_21 ⟨(Nat.le_of_ble_eq_true rfl), (Nat.le_of_ble_eq_true rfl)⟩ ⟨(Nat.le_of_ble_eq_true rfl), (Nat.le_of_ble_eq_true rfl)⟩ (Nat.le_of_ble_eq_true rfl) (HAt.mu gst_40) (c_X1_passLetters (G := uF G 3 p) (B := B1) (by rw [uF_n (by decide)]; exact p4) (by rw [uF_s]; omega) (by rw [uF_n (by decide), b1]; exact p5) (by rw [uF_s, uF_n (by decide)]; omega)) (fun _ _ w => w.elim) (fun r_21 h_21 hp => ?_)
        obtain ⟨rfl, rfl⟩ := hp
        rw [uF_s, uF_n (show 4 ≠ 3 by decide), uF_ss, b1]
        obtain ⟨w, hw⟩ : ∃ w, wlen (B 41) (G 4) 12 p = w := ⟨_, rfl⟩
        have wr := wlen_r (B 41) (G 4) 12 p
        rw [hw] at wr ⊢
        obtain ⟨c9, hc9⟩ : ∃ c9, (decide (p + w < G 4) && decide (B 41 (p + w) = 44)) = c9 := ⟨_, rfl⟩
        have c9r := bi_01 c9
        obtain ⟨t0, t1⟩ := hL.st hm.1 (by omega) hw hc9
        refine gi_if_ne (tgt := 29) dX1_parseLine_24 (by decide) ⟨by omega, by omega⟩ (fun c_24 => ?_) (fun c_24 => ?_)
        · refine gg_aload_n dX1_parseLine_29 rfl rfl ?_
          refine gk_getX1_19 rfl dX1_parseLine_30 ?_
          refine gg_iload_n dX1_parseLine_33 rfl ?_
          refine gg_aload_n dX1_parseLine_34 rfl rfl ?_
          refine gk_getX1_22 rfl dX1_parseLine_35 uF_s ?_
          refine gk_iast dX1_parseLine_38 (by decide) (by decide) ⟨by omega, by show _ < (12 : Int); omega⟩ (by (try simp only [uA_s, uA_n, uA_ss, uA_cc, id_eq, ne_eq, not_false_eq_true, Nat.reduceEqDiff, Nat.reduceLT, reduceCtorEq]); rfl) ?_
          obtain ⟨B2, hB2⟩ : ∃ B2, uA B1 43 (up (B1 43) m (p + w)) = B2 := ⟨_, rfl⟩
          rw [hB2]
          have b2 : B2 41 = B 41 := by rw [← hB2, uA_n (by decide)]; exact b1
          have b3 : B2 42 = up (B' 42) m p := by rw [← hB2, uA_n (by decide), ← hB1, uA_s]
          have b4 : B2 43 = up (B' 43) m (p + w) := by rw [← hB2, uA_s, ← hB1, uA_n (by decide)]
          have bo : ∀ x, x ≠ 42 → x ≠ 43 → B2 x = B x := fun x x0 x1 => by rw [← hB2, uA_n x1, ← hB1, uA_n x0]; exact hB x x0 x1
          obtain ⟨hpw, t2, t3, t4⟩ := t1 c_24
          have w1 : pwP (B 41) (G 4) m = p := by unfold pwP; rw [hpw]
          have w2 : pwN (B 41) (G 4) m = w := by unfold pwN; rw [hpw]
          have w3 : pwC (B 41) (G 4) m = c9 := by unfold pwC; rw [hpw]
          have hS2 : ∀ i, 0 ≤ i → i < m + 1 → WSE B2 (B 41) (G 4) i := fun i i0 i1 => by
            by_cases e : i = m
            · rw [e]
              refine ⟨by rw [b3, up_s, w1], by rw [b4, up_s, w1, w2], by omega, by omega, by omega, fun j j0 j1 => ?_⟩
              rw [w1]; exact wlen_l j0 (by rw [hw]; omega)
            · obtain ⟨y1, y2, y3⟩ := hS i i0 (by omega)
              exact ⟨by rw [b3, up_n e]; exact y1, by rw [b4, up_n e]; exact y2, y3⟩
          have hpl : plN (pwC (B 41) (G 4)) (m + 1).toNat = if c9 = true then plN (pwC (B 41) (G 4)) m.toNat + 2 ^ m.toNat else plN (pwC (B 41) (G 4)) m.toNat := by
            rw [show (m + 1).toNat = m.toNat + 1 by omega, plN, Int.toNat_of_nonneg hm.1, w3]
          have L_54 : GG Γ M_X1_parseLine QF9 (0, 0) (gst Γ h (uF G 3 (p + w + bi c9)) B2) 54 [some (.ref (g_L Γ 40)), some (.int (iN ((plN (pwC (B 41) (G 4)) (m + 1).toNat : Nat) : Int))), some (.int (iN m))] [] := by
            refine gg_aload_n dX1_parseLine_54 rfl rfl ?_
            refine gc_X1_56 rfl dX1_parseLine_55 ⟨(Nat.le_of_ble_eq_true rfl), (Nat.le_of_ble_eq_true rfl)⟩ ⟨(Nat.le_of_ble_eq_true rfl), (Nat.le_of_ble_eq_true rfl)⟩ (Nat.le_of_ble_eq_true rfl) (HAt.mu gst_40) (c_X1_isAtEnd (G := uF G 3 (p + w + bi c9)) (B := B2) (by rw [uF_n (by decide)]; exact p4) (by rw [uF_s]; omega) (by rw [uF_n (by decide), b2]; exact p5)) (fun _ _ w => w.elim) (fun r_55 h_55 hp => ?_)
            obtain ⟨rfl, rfl⟩ := hp
            rw [uF_s, uF_n (show 4 ≠ 3 by decide)]
            refine gi_if_eq (tgt := 70) dX1_parseLine_58 (by decide) (bi_r _) (fun c_58 => ?_) (fun c_58 => ?_)
            · rw [bi_f] at c_58
              rw [decide_eq_false_iff_not] at c_58
              refine gg_aload_n dX1_parseLine_70 rfl rfl ?_
              refine gi_bipush dX1_parseLine_71 (by decide) ?_
              refine gc_X1_52 rfl dX1_parseLine_73 ⟨(Nat.le_of_ble_eq_true rfl), (Nat.le_of_ble_eq_true rfl)⟩ ⟨(Nat.le_of_ble_eq_true rfl), (Nat.le_of_ble_eq_true rfl)⟩ (Nat.le_of_ble_eq_true rfl) (HAt.mu gst_40) (c_X1_pass (G := uF G 3 (p + w + bi c9)) (B := B2) (by rw [uF_n (by decide)]; exact p4) (by rw [uF_s]; omega) (by rw [uF_n (by decide), b2]; exact p5) (c := 32) ⟨by omega, by omega⟩) (fun _ _ w => w.elim) (fun r_73 h_73 hp => ?_)
              obtain ⟨rfl, rfl⟩ := hp
              rw [uF_s, uF_n (show 4 ≠ 3 by decide), uF_ss, b2]
              refine gi_if_ne (tgt := 81) dX1_parseLine_76 (by decide) (bi_r _) (fun c_76 => ?_) (fun c_76 => ?_)
              · rw [bi_t] at c_76
                rw [decide_eq_true_iff] at c_76
                rw [if_pos c_76]
                refine gi_iinc dX1_parseLine_81 rfl (Nat.le_of_ble_eq_true rfl) rfl ?_
                refine gg_goto (tgt := 4) dX1_parseLine_84 (by decide) ?_
                exact ih_4 _ (by omega) (m + 1) ((p + w + bi c9) + 1) B2 rfl (by omega) (by omega) bo (t4 c_58 c_76.2) hS2
              · rw [bi_f] at c_76
                rw [decide_eq_false_iff_not] at c_76
                rw [if_neg c_76]
                refine gg_null dX1_parseLine_79 ?_
                subst hQF9
                refine gg_aret dX1_parseLine_80 rfl rfl rfl ⟨(Nat.le_of_ble_eq_true rfl), (Nat.le_of_ble_eq_true rfl)⟩ ?_
                refine ⟨h.2, B2, by rw [(t3 c_58 (fun z => c_76 ⟨by omega, z⟩)).2], bo, ext.rfl9, Or.inr ⟨(t3 c_58 (fun z => c_76 ⟨by omega, z⟩)).1, rfl⟩⟩
            · rw [bi_t] at c_58
              rw [decide_eq_true_iff] at c_58
              refine gg_aload_n dX1_parseLine_61 rfl rfl ?_
              refine gg_iload_n dX1_parseLine_62 rfl ?_
              refine gi_iconst dX1_parseLine_63 ?_
              refine gi_iadd dX1_parseLine_64 ?_
              refine gg_iload_n dX1_parseLine_65 rfl ?_
              refine gc_X1_60 rfl dX1_parseLine_66 ⟨(Nat.le_of_ble_eq_true rfl), (Nat.le_of_ble_eq_true rfl)⟩ ⟨(Nat.le_of_ble_eq_true rfl), (Nat.le_of_ble_eq_true rfl)⟩ (Nat.le_of_ble_eq_true rfl) (HAt.mu gst_40) (c_lineOf2 (G := uF G 3 (p + w + bi c9)) (B := B2) (f := B 41) (n := G 4) b2 (uF_n (by decide)) p4 p5 (by rw [uF_s]; omega) (wn := m + 1) ((t2 c_58).2.2) ⟨by omega, by omega⟩ (by omega) ((t2 c_58).1) rfl hS2) (fun _ _ w => w.elim) (fun r_66 h_66 hp => ?_)
              obtain ⟨ι', q, rfl, rfl, hX, hLn⟩ := hp
              subst hQF9
              refine gg_aret dX1_parseLine_69 rfl rfl rfl ⟨(Nat.le_of_ble_eq_true rfl), (Nat.le_of_ble_eq_true rfl)⟩ ?_
              exact ⟨ι', B2, by rw [(t2 c_58).2.1], bo, hX, Or.inl ⟨(t2 c_58).1, q, rfl, hLn⟩⟩
          refine gg_aload_n dX1_parseLine_39 rfl rfl ?_
          refine gi_bipush dX1_parseLine_40 (by decide) ?_
          refine gc_X1_52 rfl dX1_parseLine_42 ⟨(Nat.le_of_ble_eq_true rfl), (Nat.le_of_ble_eq_true rfl)⟩ ⟨(Nat.le_of_ble_eq_true rfl), (Nat.le_of_ble_eq_true rfl)⟩ (Nat.le_of_ble_eq_true rfl) (HAt.mu gst_40) (c_X1_pass (G := uF G 3 (p + w)) (B := B2) (by rw [uF_n (by decide)]; exact p4) (by rw [uF_s]; omega) (by rw [uF_n (by decide), b2]; exact p5) (c := 44) ⟨by omega, by omega⟩) (fun _ _ w => w.elim) (fun r_42 h_42 hp => ?_)
          obtain ⟨rfl, rfl⟩ := hp
          rw [uF_s, uF_n (show 4 ≠ 3 by decide), uF_ss, b2]
          refine gi_if_eq (tgt := 54) dX1_parseLine_45 (by decide) (bi_r _) (fun c_45 => ?_) (fun c_45 => ?_)
          · rw [bi_f] at c_45
            rw [decide_eq_false_iff_not] at c_45
            rw [if_neg c_45]
            have c90 : c9 = false := by rw [← hc9, Bool.and_eq_false_iff, decide_eq_false_iff_not, decide_eq_false_iff_not]; omega
            exact gg_conv L_54 (by rw [c90]; show _ = _; rw [show bi false = 0 from rfl, Int.add_zero]) (by rw [hpl, c90]; rfl) rfl
          · rw [bi_t] at c_45
            rw [decide_eq_true_iff] at c_45
            rw [if_pos c_45]
            have c90 : c9 = true := by rw [← hc9, Bool.and_eq_true, decide_eq_true_iff, decide_eq_true_iff]; exact c_45
            refine gg_iload_n dX1_parseLine_48 rfl ?_
            refine gi_iconst dX1_parseLine_49 ?_
            refine gg_iload_n dX1_parseLine_50 rfl ?_
            refine gi_ishl _ (bt_shl ⟨by omega, by omega⟩) dX1_parseLine_51 ?_
            refine gi_ior _ or_pl dX1_parseLine_52 ?_
            refine gg_istore_n dX1_parseLine_53 (Nat.le_of_ble_eq_true rfl) rfl ?_
            exact gg_conv L_54 (by rw [c90]; rfl) (by rw [hpl, c90]; rfl) rfl
        · refine gg_null dX1_parseLine_27 ?_
          subst hQF9
          refine gg_aret dX1_parseLine_28 rfl rfl rfl ⟨(Nat.le_of_ble_eq_true rfl), (Nat.le_of_ble_eq_true rfl)⟩ ?_
          refine ⟨h.2, B1, by rw [(t0 c_24).2, c_24, Int.add_zero], fun x x0 x1 => by rw [← hB1, uA_n x0]; exact hB x x0 x1, ext.rfl9, Or.inr ⟨(t0 c_24).1, rfl⟩⟩
  exact gg_conv (L_4 _ 0 0 B rfl (by omega) (by omega) (fun _ _ _ => rfl) LSt.z (fun i i0 i1 => by omega)) (by rw [← g3, uF_id]) rfl rfl
