/-! exceptions of words; rhymes of words; lines read -/
/-- the exceptions of the state b are those of the array a -/
def ExM (ι : Nat → Option XE) (G : Nat → Int) (B : Nat → Int → Int) (b : Nat) (a : Int → Int) : Prop :=
  (G (102 + 10 * b) = a 4 ∧ 0 ≤ a 4 ∧ a 4 ≤ 8) ∧ ∀ e, 0 ≤ e → e < a 4 → ∃ q : Nat, B (110 + 11 * b) e = (q : Int) ∧ MkO ι q (fun k => a (9 + 20 * e + 1 + k)) (a (9 + 20 * e)) (a (9 + 20 * e + 1 + 12)) (fun k => a (9 + 20 * e + 2 + 12 + k))
theorem c_X7_markingAt_M {Γ : GT} {h : XH} {G : Nat → Int} {B : Nat → Int → Int} {b : Nat} (hb9 : b ≤ 9) {a : Int → Int} (X9 : ExM h.2 G B b a) {i : Int} (hi : InR i) : Ct Γ M_X7_markingAt [.ref (g_L Γ (100 + 11 * b)), .int (iN i)] (gst Γ h G B)
    (fun r h9 => ∃ o : Option Nat, r = some (va_rf o) ∧ h9 = gst Γ h G B ∧ ((¬ (0 ≤ i ∧ i < a 4) ∧ o = none) ∨ ((0 ≤ i ∧ i < a 4) ∧ ∃ q : Nat, o = some q ∧ MkO h.2 q (fun k => a (9 + 20 * i + 1 + k)) (a (9 + 20 * i)) (a (9 + 20 * i + 1 + 12)) (fun k => a (9 + 20 * i + 2 + 12 + k))))) (fun _ _ => False) := by
  obtain ⟨⟨x1, x2⟩, x3⟩ := X9
  refine (c_X7_markingAt hb9 (by omega) hi).mono (fun r h9 hp => ?_) (fun _ _ hx => hx)
  obtain ⟨rfl, rfl⟩ := hp
  rw [x1]
  by_cases q : 0 ≤ i ∧ i < a 4
  · rw [if_pos q]
    obtain ⟨m, hm, hk⟩ := x3 i q.1 q.2
    exact ⟨some m, by rw [hm, rfo_some], rfl, Or.inr ⟨q, m, rfl, hk⟩⟩
  · rw [if_neg q]
    exact ⟨none, rfl, rfl, Or.inl ⟨q, rfl⟩⟩
theorem exE_w {a f : Int → Int} {n e : Int} : (decide (a (9 + 20 * e) = n) && eqN (fun k => a (9 + 20 * e + 1 + k)) f (a (9 + 20 * e)).toNat) = exE a f 0 n e := by
  unfold exE
  by_cases q : a (9 + 20 * e) = n
  · rw [q]
    congr 2
    funext k
    rw [Int.zero_add]
  · rw [decide_eq_false q]; rfl
theorem exF_s {a r : Int → Int} {fr n i m : Int} (hi : i < m) (h0 : 0 ≤ i) : exF a r fr n (m - i).toNat i = if exE a r fr n i = true then i else exF a r fr n (m - (i + 1)).toNat (i + 1) := by
  rw [show (m - i).toNat = (m - (i + 1)).toNat + 1 by omega, exF]
def syE (a f : Int → Int) (n : Int) : Int := if exO a f 0 n < 0 then wC f n else a (9 + 20 * exO a f 0 n + 1 + 12)
def mkE (a f : Int → Int) (n : Int) : Int → Int := mrk a (exO a f 0 n) (syE a f n)
set_option maxRecDepth 100000 in
set_option maxHeartbeats 4000000 in
theorem c_X7_markingNumber {Γ : GT} {h : XH} {G : Nat → Int} {B : Nat → Int → Int} {b : Nat} (hb9 : b ≤ 9) {a : Int → Int} (X9 : ExM h.2 G B b a) {q1 : Nat} {f : Int → Int} {n : Int} (W1 : WdAt h.2 q1 f n) : Ct Γ M_X7_markingNumber [.ref (g_L Γ (100 + 11 * b)), .ref q1] (gst Γ h G B) (fun r h9 => r = some (.int (iN (exO a f 0 n))) ∧ h9 = gst Γ h G B) (fun _ _ => False) := by
  refine Ct.of rfl (by decide +kernel) (Nat.le_of_ble_eq_true rfl) ?_
  generalize hQF9 : QM Γ _ _ _ = QF9
  obtain ⟨⟨x1, x2⟩, x3⟩ := id X9
  refine gi_iconst dX7_markingNumber_0 ?_
  refine gg_istore_n dX7_markingNumber_1 (Nat.le_of_ble_eq_true rfl) rfl ?_
  have L_2 : ∀ (n9 : Nat) (k : Int), ((a 4 - k).toNat) = n9 → ∀ (hk : 0 ≤ k ∧ k ≤ a 4) (E : exO a f 0 n = exF a f 0 n (a 4 - k).toNat k), GG Γ M_X7_markingNumber QF9 (0, 0) (gst Γ h G B) 2 [some (.ref (g_L Γ (100 + 11 * b))), some (.ref q1), some (.int (iN k)), none] [] := by
    intro n9
    induction n9 using Nat.strongRecOn with
    | ind n9 ih_2 => 
      intro k hm9 hk E
      refine gg_iload_n dX7_markingNumber_2 rfl ?_
      refine gg_aload_n dX7_markingNumber_3 rfl rfl ?_
      refine gk_getX7_30 hb9 rfl dX7_markingNumber_4 x1 ?_
      refine gi_icmp_ge (tgt := 39) dX7_markingNumber_7 (by decide) ⟨by omega, by omega⟩ ⟨by omega, by omega⟩ (fun c_7 => ?_) (fun c_7 => ?_)
      · refine gi_iconst dX7_markingNumber_39 ?_
        subst hQF9
        refine gg_iret dX7_markingNumber_40 rfl rfl ⟨(Nat.le_of_ble_eq_true rfl), (Nat.le_of_ble_eq_true rfl)⟩ ?_
        rw [E, show a 4 - k = 0 by omega]
        exact ⟨rfl, rfl⟩
      · refine gg_aload_n dX7_markingNumber_10 rfl rfl ?_
        refine gg_iload_n dX7_markingNumber_11 rfl ?_
        refine gc_X7_47 rfl dX7_markingNumber_12 ⟨(Nat.le_of_ble_eq_true rfl), (Nat.le_of_ble_eq_true rfl)⟩ ⟨(Nat.le_of_ble_eq_true rfl), (Nat.le_of_ble_eq_true rfl)⟩ (Nat.le_of_ble_eq_true rfl) (HAt.mu (gst_st hb9)) (c_X7_markingAt_M hb9 X9 ⟨by omega, by omega⟩) (fun _ _ w => w.elim) (fun r_12 h_12 hp => ?_)
        obtain ⟨o, rfl, rfl, hp⟩ := hp
        rcases hp with ⟨g1, rfl⟩ | ⟨g1, m1, rfl, K1⟩
        · exfalso; omega
        · obtain ⟨wq, aM, m9, k1, k2, k3, k4, k5⟩ := id K1
          refine gg_astore_n dX7_markingNumber_15 rfl (Nat.le_of_ble_eq_true rfl) rfl ?_
          refine gg_aload_n dX7_markingNumber_16 rfl rfl ?_
          refine gg_ifnull (tgt := 33) dX7_markingNumber_17 (by decide) rfl (fun c_17 => ?_) (fun a_17 c_17 => ?_)
          · exact absurd c_17 (by simp [va_rf])
          · refine gg_aload_n dX7_markingNumber_20 rfl rfl ?_
            refine gf_X7_51 rfl dX7_markingNumber_21 (HAt.io k1) rfl ?_
            refine gg_aload_n dX7_markingNumber_24 rfl rfl ?_
            refine gc_X7_55 rfl dX7_markingNumber_25 ⟨(Nat.le_of_ble_eq_true rfl), (Nat.le_of_ble_eq_true rfl)⟩ ⟨(Nat.le_of_ble_eq_true rfl), (Nat.le_of_ble_eq_true rfl)⟩ (Nat.le_of_ble_eq_true rfl) (HAt.io k2.2.2.choose_spec.choose_spec.choose_spec.choose_spec.1) (c_X8_isSame (h := gst Γ h G B) k2 W1) (fun _ _ w => w.elim) (fun r_25 h_25 hp => ?_)
            obtain ⟨rfl, rfl⟩ := hp
            rw [exE_w]
            refine gi_if_eq (tgt := 33) dX7_markingNumber_28 (by decide) (bi_r _) (fun c_28 => ?_) (fun c_28 => ?_)
            · rw [bi_f] at c_28
              refine gi_iinc dX7_markingNumber_33 rfl (Nat.le_of_ble_eq_true rfl) rfl ?_
              refine gg_goto (tgt := 2) dX7_markingNumber_36 (by decide) ?_
              refine gg_drop 3 ?_
              exact ih_2 _ (by omega) (k + 1) rfl (by omega) (by rw [E, exF_s (by omega) (by omega), c_28]; rfl)
            · rw [bi_t] at c_28
              refine gg_iload_n dX7_markingNumber_31 rfl ?_
              subst hQF9
              refine gg_iret dX7_markingNumber_32 rfl rfl ⟨(Nat.le_of_ble_eq_true rfl), (Nat.le_of_ble_eq_true rfl)⟩ ?_
              exact ⟨by rw [E, exF_s (by omega) (by omega), if_pos c_28], rfl⟩
  refine gg_drop 3 ?_
  exact L_2 _ 0 rfl (by omega) (by rw [Int.sub_zero]; rfl)
set_option maxRecDepth 100000 in
set_option maxHeartbeats 4000000 in
theorem c_X7_markingFor {Γ : GT} {h : XH} {G : Nat → Int} {B : Nat → Int → Int} {b : Nat} (hb9 : b ≤ 9) {a : Int → Int} (X9 : ExM h.2 G B b a) {q1 : Nat} {f : Int → Int} {n : Int} (W1 : WdAt h.2 q1 f n) : Ct Γ M_X7_markingFor [.ref (g_L Γ (100 + 11 * b)), .ref q1] (gst Γ h G B) (fun r h9 => ∃ o : Option Nat, r = some (va_rf o) ∧ h9 = gst Γ h G B ∧ SyM h.2 o f n (syE a f n) (mkE a f n) ∧ (o = none ↔ exO a f 0 n < 0)) (fun _ _ => False) := by
  refine Ct.of rfl (by decide +kernel) (Nat.le_of_ble_eq_true rfl) ?_
  generalize hQF9 : QM Γ _ _ _ = QF9
  obtain ⟨⟨x1, x2⟩, x3⟩ := id X9
  have er := exO_r (a := a) (r := f) (fr := 0) (n := n) x2.1
  refine gg_aload_n dX7_markingFor_0 rfl rfl ?_
  refine gg_aload_n dX7_markingFor_1 rfl rfl ?_
  refine gg_aload_n dX7_markingFor_2 rfl rfl ?_
  refine gc_X7_61 rfl dX7_markingFor_3 ⟨(Nat.le_of_ble_eq_true rfl), (Nat.le_of_ble_eq_true rfl)⟩ ⟨(Nat.le_of_ble_eq_true rfl), (Nat.le_of_ble_eq_true rfl)⟩ (Nat.le_of_ble_eq_true rfl) (HAt.mu (gst_st hb9)) (c_X7_markingNumber hb9 X9 W1) (fun _ _ w => w.elim) (fun r_3 h_3 hp => ?_)
  obtain ⟨rfl, rfl⟩ := hp
  refine gc_X7_47 rfl dX7_markingFor_6 ⟨(Nat.le_of_ble_eq_true rfl), (Nat.le_of_ble_eq_true rfl)⟩ ⟨(Nat.le_of_ble_eq_true rfl), (Nat.le_of_ble_eq_true rfl)⟩ (Nat.le_of_ble_eq_true rfl) (HAt.mu (gst_st hb9)) (c_X7_markingAt_M hb9 X9 ⟨by omega, by omega⟩) (fun _ _ w => w.elim) (fun r_6 h_6 hp => ?_)
  obtain ⟨o, rfl, rfl, hp⟩ := hp
  subst hQF9
  refine gg_aret dX7_markingFor_9 rfl rfl (by cases o <;> rfl) ⟨(Nat.le_of_ble_eq_true rfl), (Nat.le_of_ble_eq_true rfl)⟩ ?_
  rcases hp with ⟨g1, rfl⟩ | ⟨g1, m1, rfl, K1⟩
  · exact ⟨none, rfl, rfl, Or.inl ⟨rfl, by rw [syE, if_pos (by omega)], by unfold mkE mrk; funext k; rw [if_pos (by omega)]⟩, ⟨fun _ => by omega, fun _ => rfl⟩⟩
  · refine ⟨some m1, rfl, rfl, Or.inr ⟨m1, fun k => a (9 + 20 * exO a f 0 n + 1 + k), a (9 + 20 * exO a f 0 n), rfl, ?_⟩, ⟨fun q => (by cases q), fun q => (by omega)⟩⟩
    have e1 : syE a f n = a (9 + 20 * exO a f 0 n + 1 + 12) := by rw [syE, if_neg (by omega)]
    have e2 : mkE a f n = fun k => a (9 + 20 * exO a f 0 n + 2 + 12 + k) := by unfold mkE mrk; funext k; rw [if_neg (by omega)]
    rw [e1, e2]; exact K1
def bhE (a f : Int → Int) (n : Int) : Int := if lst2 (mkE a f n) (syE a f n).toNat < 0 then 0 else syE a f n - 1 - lst2 (mkE a f n) (syE a f n).toNat
def rsE (a f : Int → Int) (n : Int) : Int := wA f (fun _ => 0) n (max 0 (wC f n - 1 - bhE a f n))
theorem bhE_r {a f : Int → Int} {n : Int} (hs : 1 ≤ syE a f n) : 0 ≤ bhE a f n ∧ bhE a f n ≤ syE a f n := by
  have := lst2_r (mkE a f n) (syE a f n).toNat
  unfold bhE; split <;> omega
theorem rsE_r {a f : Int → Int} {n : Int} (hn : 1 ≤ n ∧ n ≤ 12) (hs : 1 ≤ syE a f n) : 0 ≤ rsE a f n ∧ rsE a f n < n := by
  have h1 := bhE_r hs
  have h2 := wC_r (f := f) hn
  have h3 := wA_in (f := f) (g := fun _ => 0) (i := max 0 (wC f n - 1 - bhE a f n)) hn.1 (by omega) (by omega)
  exact h3.2
set_option maxRecDepth 100000 in
set_option maxHeartbeats 4000000 in
theorem c_X7_rhymeStart {Γ : GT} {h : XH} {G : Nat → Int} {B : Nat → Int → Int} {b : Nat} (hb9 : b ≤ 9) {a : Int → Int} (X9 : ExM h.2 G B b a) {q1 : Nat} {f : Int → Int} {n : Int} (W1 : WdAt h.2 q1 f n) : Ct Γ M_X7_rhymeStart [.ref (g_L Γ (100 + 11 * b)), .ref q1] (gst Γ h G B) (fun r h9 => r = some (.int (iN (rsE a f n))) ∧ h9 = gst Γ h G B) (fun _ _ => False) := by
  refine Ct.of rfl (by decide +kernel) (Nat.le_of_ble_eq_true rfl) ?_
  generalize hQF9 : QM Γ _ _ _ = QF9
  obtain ⟨⟨x1, x2⟩, x3⟩ := id X9
  obtain ⟨w1, w2, aL, aC, f9, g9, w3, w4, w5, w6, w7⟩ := id W1
  have cr := wC_r (f := f) w1
  refine gg_aload_n dX7_rhymeStart_0 rfl rfl ?_
  refine gg_aload_n dX7_rhymeStart_1 rfl rfl ?_
  refine gc_X7_71 rfl dX7_rhymeStart_2 ⟨(Nat.le_of_ble_eq_true rfl), (Nat.le_of_ble_eq_true rfl)⟩ ⟨(Nat.le_of_ble_eq_true rfl), (Nat.le_of_ble_eq_true rfl)⟩ (Nat.le_of_ble_eq_true rfl) (HAt.mu (gst_st hb9)) (c_X7_markingFor hb9 X9 W1) (fun _ _ w => w.elim) (fun r_2 h_2 hp => ?_)
  obtain ⟨o, rfl, rfl, Y, -⟩ := hp
  have sr := Y.s_r w1
  refine gg_astore_n dX7_rhymeStart_5 (by cases o <;> rfl) (Nat.le_of_ble_eq_true rfl) rfl ?_
  refine gg_aload_n dX7_rhymeStart_6 rfl rfl ?_
  refine gg_aload_n dX7_rhymeStart_7 rfl (by cases o <;> rfl) ?_
  refine gc_X7_75 rfl dX7_rhymeStart_8 ⟨(Nat.le_of_ble_eq_true rfl), (Nat.le_of_ble_eq_true rfl)⟩ ⟨(Nat.le_of_ble_eq_true rfl), (Nat.le_of_ble_eq_true rfl)⟩ (Nat.le_of_ble_eq_true rfl) (c_X9_syllablesOf (h := gst Γ h G B) W1 Y) (fun _ _ w => w.elim) (fun r_8 h_8 hp => ?_)
  obtain ⟨rfl, rfl⟩ := hp
  refine gi_iconst dX7_rhymeStart_11 ?_
  refine gi_isub dX7_rhymeStart_12 ?_
  refine gg_istore_n dX7_rhymeStart_13 (Nat.le_of_ble_eq_true rfl) (by cases o <;> rfl) ?_
  refine gg_iload_n dX7_rhymeStart_14 rfl ?_
  refine gg_istore dX7_rhymeStart_15 (Nat.le_of_ble_eq_true rfl) rfl ?_
  have L_17 : ∀ (n9 : Nat) (k : Int), (k.toNat) = n9 → ∀ (hk : 0 ≤ k ∧ k ≤ (syE a f n) - 1) (E : lst2 (mkE a f n) (syE a f n).toNat = lst2 (mkE a f n) (k + 1).toNat), GG Γ M_X7_rhymeStart QF9 (0, 0) (gst Γ h G B) 17 [some (.ref (g_L Γ (100 + 11 * b))), some (.ref q1), some (va_rf o), some (.int (iN ((syE a f n) - 1))), some (.int (iN k)), none, none] [] := by
    intro n9
    induction n9 using Nat.strongRecOn with
    | ind n9 ih_17 => 
      intro k hm9 hk E
      have L_39 : ∀ (k : Int) (hk : 0 ≤ k ∧ k ≤ (syE a f n) - 1) (E : lst2 (mkE a f n) (syE a f n).toNat = lst2 (mkE a f n) (k + 1).toNat) (Z : k = 0 ∨ (mkE a f n) k = 2), GG Γ M_X7_rhymeStart QF9 (0, 0) (gst Γ h G B) 39 [some (.ref (g_L Γ (100 + 11 * b))), some (.ref q1), some (va_rf o), some (.int (iN ((syE a f n) - 1))), some (.int (iN k)), none, none] [] := by
        intro k hk E Z
        refine gg_aload_n dX7_rhymeStart_39 rfl rfl ?_
        refine gg_aload_n dX7_rhymeStart_40 rfl (by cases o <;> rfl) ?_
        refine gg_iload dX7_rhymeStart_41 rfl ?_
        refine gc_X7_79 rfl dX7_rhymeStart_43 ⟨(Nat.le_of_ble_eq_true rfl), (Nat.le_of_ble_eq_true rfl)⟩ ⟨(Nat.le_of_ble_eq_true rfl), (Nat.le_of_ble_eq_true rfl)⟩ (Nat.le_of_ble_eq_true rfl) (c_X9_markOf (h := gst Γ h G B) W1 Y (k := k) ⟨by omega, by omega⟩) (fun _ _ w => w.elim) (fun r_43 h_43 hp => ?_)
        obtain ⟨rfl, rfl⟩ := hp
        have mr := Y.m_r (k := k) ⟨by omega, by omega⟩
        refine gi_iconst dX7_rhymeStart_46 ?_
        refine gi_icmp_ne (tgt := 54) dX7_rhymeStart_47 (by decide) ⟨by omega, by omega⟩ ⟨by omega, by omega⟩ (fun c_47 => ?_) (fun c_47 => ?_)
        · refine gi_iconst dX7_rhymeStart_54 ?_
          refine gg_istore dX7_rhymeStart_55 (Nat.le_of_ble_eq_true rfl) rfl ?_
          refine gg_iload dX7_rhymeStart_57 rfl ?_
          refine gi_if_eq (tgt := 69) dX7_rhymeStart_59 (by decide) ⟨by omega, by omega⟩ (fun c9 => ?_) (fun c9 => absurd c9 (by decide))
          refine gi_iconst dX7_rhymeStart_69 ?_
          have L_70 : ∀ (z : Int) (hz : z = bhE a f n), GG Γ M_X7_rhymeStart QF9 (0, 0) (gst Γ h G B) 70 [some (.ref (g_L Γ (100 + 11 * b))), some (.ref q1), some (va_rf o), some (.int (iN ((syE a f n) - 1))), none, none, none] [.int (iN z)] := by
            intro z hz
            have br := bhE_r (a := a) (f := f) (n := n) sr.1
            refine gg_istore dX7_rhymeStart_70 (Nat.le_of_ble_eq_true rfl) rfl ?_
            refine gg_aload_n dX7_rhymeStart_72 rfl rfl ?_
            refine gi_iconst dX7_rhymeStart_73 ?_
            refine gg_aload_n dX7_rhymeStart_74 rfl rfl ?_
            refine gf_X7_83 rfl dX7_rhymeStart_75 (HAt.io w3) rfl ?_
            refine gi_iconst dX7_rhymeStart_78 ?_
            refine gi_isub dX7_rhymeStart_79 ?_
            refine gg_iload dX7_rhymeStart_80 rfl ?_
            refine gi_isub dX7_rhymeStart_82 ?_
            refine gc_X7_65 rfl dX7_rhymeStart_83 ⟨(Nat.le_of_ble_eq_true rfl), (Nat.le_of_ble_eq_true rfl)⟩ ⟨(Nat.le_of_ble_eq_true rfl), (Nat.le_of_ble_eq_true rfl)⟩ ?_
            rw [iN_max ⟨by omega, by omega⟩ ⟨by omega, by omega⟩]
            refine gc_X7_86 rfl dX7_rhymeStart_86 ⟨(Nat.le_of_ble_eq_true rfl), (Nat.le_of_ble_eq_true rfl)⟩ ⟨(Nat.le_of_ble_eq_true rfl), (Nat.le_of_ble_eq_true rfl)⟩ (Nat.le_of_ble_eq_true rfl) (HAt.io w3) (c_X8_coreStart (h := gst Γ h G B) W1 ⟨by omega, by omega⟩) (fun _ _ w => w.elim) (fun r_86 h_86 hp => ?_)
            obtain ⟨rfl, rfl⟩ := hp
            subst hQF9
            refine gg_iret dX7_rhymeStart_89 rfl rfl ⟨(Nat.le_of_ble_eq_true rfl), (Nat.le_of_ble_eq_true rfl)⟩ ?_
            rw [hz, if_pos (by omega)]
            exact ⟨rfl, rfl⟩
          refine gg_drop 4 ?_
          refine gg_drop 5 ?_
          refine gg_drop 6 ?_
          refine L_70 _ ?_
          have z0 : k = 0 := Z.resolve_right c_47
          unfold bhE
          have z1 : ¬ mkE a f n ((0 : Nat) : Int) = 2 := by rw [z0] at c_47; exact c_47
          rw [E, z0, show ((0 : Int) + 1).toNat = 0 + 1 by rfl, lst2, if_neg z1, lst2, if_pos (by decide)]
        · refine gi_iconst dX7_rhymeStart_50 ?_
          refine gg_goto (tgt := 55) dX7_rhymeStart_51 (by decide) ?_
          refine gg_istore dX7_rhymeStart_55 (Nat.le_of_ble_eq_true rfl) rfl ?_
          refine gg_iload dX7_rhymeStart_57 rfl ?_
          refine gi_if_eq (tgt := 69) dX7_rhymeStart_59 (by decide) ⟨by omega, by omega⟩ (fun c9 => absurd c9 (by decide)) (fun c9 => ?_)
          refine gg_iload_n dX7_rhymeStart_62 rfl ?_
          refine gg_iload dX7_rhymeStart_63 rfl ?_
          refine gi_isub dX7_rhymeStart_65 ?_
          refine gg_goto (tgt := 70) dX7_rhymeStart_66 (by decide) ?_
          have L_70 : ∀ (z : Int) (hz : z = bhE a f n), GG Γ M_X7_rhymeStart QF9 (0, 0) (gst Γ h G B) 70 [some (.ref (g_L Γ (100 + 11 * b))), some (.ref q1), some (va_rf o), some (.int (iN ((syE a f n) - 1))), none, none, none] [.int (iN z)] := by
            intro z hz
            have br := bhE_r (a := a) (f := f) (n := n) sr.1
            refine gg_istore dX7_rhymeStart_70 (Nat.le_of_ble_eq_true rfl) rfl ?_
            refine gg_aload_n dX7_rhymeStart_72 rfl rfl ?_
            refine gi_iconst dX7_rhymeStart_73 ?_
            refine gg_aload_n dX7_rhymeStart_74 rfl rfl ?_
            refine gf_X7_83 rfl dX7_rhymeStart_75 (HAt.io w3) rfl ?_
            refine gi_iconst dX7_rhymeStart_78 ?_
            refine gi_isub dX7_rhymeStart_79 ?_
            refine gg_iload dX7_rhymeStart_80 rfl ?_
            refine gi_isub dX7_rhymeStart_82 ?_
            refine gc_X7_65 rfl dX7_rhymeStart_83 ⟨(Nat.le_of_ble_eq_true rfl), (Nat.le_of_ble_eq_true rfl)⟩ ⟨(Nat.le_of_ble_eq_true rfl), (Nat.le_of_ble_eq_true rfl)⟩ ?_
            rw [iN_max ⟨by omega, by omega⟩ ⟨by omega, by omega⟩]
            refine gc_X7_86 rfl dX7_rhymeStart_86 ⟨(Nat.le_of_ble_eq_true rfl), (Nat.le_of_ble_eq_true rfl)⟩ ⟨(Nat.le_of_ble_eq_true rfl), (Nat.le_of_ble_eq_true rfl)⟩ (Nat.le_of_ble_eq_true rfl) (HAt.io w3) (c_X8_coreStart (h := gst Γ h G B) W1 ⟨by omega, by omega⟩) (fun _ _ w => w.elim) (fun r_86 h_86 hp => ?_)
            obtain ⟨rfl, rfl⟩ := hp
            subst hQF9
            refine gg_iret dX7_rhymeStart_89 rfl rfl ⟨(Nat.le_of_ble_eq_true rfl), (Nat.le_of_ble_eq_true rfl)⟩ ?_
            rw [hz, if_pos (by omega)]
            exact ⟨rfl, rfl⟩
          refine gg_drop 4 ?_
          refine gg_drop 5 ?_
          refine gg_drop 6 ?_
          refine L_70 _ ?_
          unfold bhE
          rw [E, show (k + 1).toNat = k.toNat + 1 by omega, lst2, Int.toNat_of_nonneg hk.1, if_pos c_47, if_neg (by omega)]
      refine gg_iload dX7_rhymeStart_17 rfl ?_
      refine gi_if_le (tgt := 39) dX7_rhymeStart_19 (by decide) ⟨by omega, by omega⟩ (fun c_19 => ?_) (fun c_19 => ?_)
      · refine gg_drop 5 ?_
        refine gg_drop 6 ?_
        exact L_39 k hk E (Or.inl (by omega))
      · refine gg_aload_n dX7_rhymeStart_22 rfl rfl ?_
        refine gg_aload_n dX7_rhymeStart_23 rfl (by cases o <;> rfl) ?_
        refine gg_iload dX7_rhymeStart_24 rfl ?_
        refine gc_X7_79 rfl dX7_rhymeStart_26 ⟨(Nat.le_of_ble_eq_true rfl), (Nat.le_of_ble_eq_true rfl)⟩ ⟨(Nat.le_of_ble_eq_true rfl), (Nat.le_of_ble_eq_true rfl)⟩ (Nat.le_of_ble_eq_true rfl) (c_X9_markOf (h := gst Γ h G B) W1 Y (k := k) ⟨by omega, by omega⟩) (fun _ _ w => w.elim) (fun r_26 h_26 hp => ?_)
        obtain ⟨rfl, rfl⟩ := hp
        have mr := Y.m_r (k := k) ⟨by omega, by omega⟩
        refine gi_iconst dX7_rhymeStart_29 ?_
        refine gi_icmp_eq (tgt := 39) dX7_rhymeStart_30 (by decide) ⟨by omega, by omega⟩ ⟨by omega, by omega⟩ (fun c_30 => ?_) (fun c_30 => ?_)
        · refine gg_drop 5 ?_
          refine gg_drop 6 ?_
          exact L_39 k hk E (Or.inr c_30)
        · refine gi_iinc dX7_rhymeStart_33 rfl (Nat.le_of_ble_eq_true rfl) rfl ?_
          refine gg_goto (tgt := 17) dX7_rhymeStart_36 (by decide) ?_
          refine gg_drop 5 ?_
          refine gg_drop 6 ?_
          refine ih_17 _ (by omega) (k + -1) rfl (by omega) ?_
          rw [E, show (k + 1).toNat = k.toNat + 1 by omega, lst2, Int.toNat_of_nonneg hk.1, if_neg c_30, show (k + -1 + 1).toNat = k.toNat by omega]
  refine gg_drop 5 ?_
  refine gg_drop 6 ?_
  exact L_17 _ ((syE a f n) - 1) rfl (by omega) (by rw [show (syE a f n) - 1 + 1 = (syE a f n) by omega])
