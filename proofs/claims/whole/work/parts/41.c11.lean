/-! the search -/
def A40 (f g : Int → Int) : Prop := ∀ j, 0 ≤ j → j < 40 → f j = g j
def st1 (D : DT) (i w : Int) (ky wy : Int → Int) (f : Int) (n : (Int → Int) × (Int → Int)) : (Int → Int) × (Int → Int) :=
  if ky f = NOK then n
  else if elE (dE D) (dS D) w (decide (f % 2 = 1)) = true then ex1 D w ky wy f 1 (wpE D i w (f / 2) (decide (f % 2 = 1)) true) (ex1 D w ky wy f 0 (wpE D i w (f / 2) (decide (f % 2 = 1)) false) n)
  else ex1 D w ky wy f 0 (wpE D i w (f / 2) (decide (f % 2 = 1)) false) n
def stF (D : DT) (i w : Int) (ky wy : Int → Int) (n : (Int → Int) × (Int → Int)) : Nat → (Int → Int) × (Int → Int)
  | 0 => n
  | f + 1 => st1 D i w ky wy f (stF D i w ky wy n f)
theorem ex1_cg {D : DT} {w f e p : Int} {ky wy ky' wy' : Int → Int} {n m : (Int → Int) × (Int → Int)} (ht : 0 ≤ toE D w f e) (h1 : ky f = ky' f) (h2 : wy f = wy' f) (h3 : A40 n.1 m.1) (h4 : A40 n.2 m.2) : A40 (ex1 D w ky wy f e p n).1 (ex1 D w ky' wy' f e p m).1 ∧ A40 (ex1 D w ky wy f e p n).2 (ex1 D w ky' wy' f e p m).2 := by
  unfold ex1
  by_cases q : p < 0 ∨ 40 ≤ toE D w f e
  · rw [if_pos q, if_pos q]; exact ⟨h3, h4⟩
  · rw [if_neg q, if_neg q]
    dsimp only
    constructor
    · intro j j0 j1
      unfold up
      by_cases z : j = toE D w f e
      · rw [if_pos z, if_pos z, h3 _ ht (by omega), kyE, kyE, h1]
      · rw [if_neg z, if_neg z]; exact h3 j j0 j1
    · intro j j0 j1
      unfold up
      by_cases z : j = toE D w f e
      · rw [if_pos z, if_pos z, h4 _ ht (by omega), h2]
      · rw [if_neg z, if_neg z]; exact h4 j j0 j1
theorem toE_0 {D : DT} {w f e : Int} (hs : 1 ≤ dS D w) (hf : 0 ≤ f) (he : e = 0 ∨ e = 1) : 0 ≤ toE D w f e := by unfold toE; omega
theorem stF_cg {D : DT} {i w : Int} (hs : 1 ≤ dS D w) {ky wy ky' wy' : Int → Int} {n m : (Int → Int) × (Int → Int)} (h1 : A40 ky ky') (h2 : A40 wy wy') (h3 : A40 n.1 m.1) (h4 : A40 n.2 m.2) : ∀ f : Nat, f ≤ 40 → A40 (stF D i w ky wy n f).1 (stF D i w ky' wy' m f).1 ∧ A40 (stF D i w ky wy n f).2 (stF D i w ky' wy' m f).2
  | 0, _ => ⟨h3, h4⟩
  | f + 1, hf => by
    have ih := stF_cg (i := i) hs h1 h2 h3 h4 f (by omega)
    have e1 := h1 f (by omega) (by omega)
    have e2 := h2 f (by omega) (by omega)
    rw [stF, stF, st1, st1, ← e1]
    by_cases q : ky f = NOK
    · rw [if_pos q, if_pos q]; exact ih
    · rw [if_neg q, if_neg q]
      have a0 := ex1_cg (p := wpE D i w ((f : Int) / 2) (decide ((f : Int) % 2 = 1)) false) (toE_0 (w := w) (f := f) (e := 0) hs (by omega) (Or.inl rfl)) e1 e2 ih.1 ih.2
      by_cases q2 : elE (dE D) (dS D) w (decide ((f : Int) % 2 = 1)) = true
      · rw [if_pos q2, if_pos q2]
        exact ex1_cg (toE_0 hs (by omega) (Or.inr rfl)) e1 e2 a0.1 a0.2
      · rw [if_neg q2, if_neg q2]; exact a0
/-- keys that are none or at most K -/
def KK (K : Int) (ky : Int → Int) : Prop := ∀ j, 0 ≤ j → j < 40 → 0 ≤ ky j ∧ (ky j = NOK ∨ ky j ≤ K)
theorem wpE_r {D : DT} {i w st : Int} {x y : Bool} (hs : 1 ≤ dS D w ∧ dS D w ≤ 6) : -1 ≤ wpE D i w st x y ∧ wpE D i w st x y ≤ 30 := by
  have := wpS_r (D := D) (i := i) (w := w) (st := st) (x := x) (y := y) (dS D w).toNat
  unfold wpE; omega
theorem ex1_b {D : DT} {w f e p K : Int} {ky wy : Int → Int} {n : (Int → Int) × (Int → Int)} (hw : 0 ≤ w ∧ w < 12) (hp : p ≤ 30) (he : e = 0 ∨ e = 1) (hk : 0 ≤ ky f ∧ ky f ≤ K) (hK : K ≤ 800000000) (h : KK (K + 2110000) n.1) : KK (K + 2110000) (ex1 D w ky wy f e p n).1 := by
  unfold ex1
  by_cases q : p < 0 ∨ 40 ≤ toE D w f e
  · rw [if_pos q]; exact h
  · rw [if_neg q]
    dsimp only
    have pw := p12 hw
    have hb : 0 ≤ kyE ky w f e p ∧ kyE ky w f e p ≤ K + 2110000 := by
      unfold kyE
      rcases he with z | z <;> rw [z] <;> omega
    intro j j0 j1
    unfold up
    by_cases z : j = toE D w f e
    · rw [if_pos z]
      have := h j j0 j1
      rw [← z]
      unfold NOK at this ⊢
      omega
    · rw [if_neg z]; exact h j j0 j1
theorem stF_b {D : DT} {i w K : Int} {ky wy : Int → Int} {n : (Int → Int) × (Int → Int)} (hs : 1 ≤ dS D w ∧ dS D w ≤ 6) (hw : 0 ≤ w ∧ w < 12) (hk : KK K ky) (hK : K ≤ 800000000) (h : KK (K + 2110000) n.1) : ∀ f : Nat, f ≤ 40 → KK (K + 2110000) (stF D i w ky wy n f).1
  | 0, _ => h
  | f + 1, hf => by
    have ih := stF_b (i := i) (wy := wy) hs hw hk hK h f (by omega)
    have e1 := hk f (by omega) (by omega)
    rw [stF, st1]
    by_cases q : ky f = NOK
    · rw [if_pos q]; exact ih
    · rw [if_neg q]
      have a0 := ex1_b (D := D) (wy := wy) (e := 0) hw (wpE_r (i := i) (st := (f : Int) / 2) (x := decide ((f : Int) % 2 = 1)) (y := false) hs).2 (Or.inl rfl) ⟨e1.1, e1.2.resolve_left q⟩ hK ih
      by_cases q2 : elE (dE D) (dS D) w (decide ((f : Int) % 2 = 1)) = true
      · rw [if_pos q2]
        exact ex1_b (wy := wy) hw (wpE_r (i := i) (st := (f : Int) / 2) (x := decide ((f : Int) % 2 = 1)) (y := true) hs).2 (Or.inr rfl) ⟨e1.1, e1.2.resolve_left q⟩ hK a0
      · rw [if_neg q2]; exact a0
theorem KK.m {K K' : Int} {ky : Int → Int} (h : KK K ky) (hK : K ≤ K') : KK K' ky := fun j j0 j1 => by have := h j j0 j1; omega
theorem KK.n {K : Int} {ky : Int → Int} (h : KK K ky) (hK : K ≤ 1000000000) : ∀ j, 0 ≤ j → j < 40 → 0 ≤ ky j ∧ ky j ≤ NOK := fun j j0 j1 => by have := h j j0 j1; unfold NOK at this ⊢; omega
set_option maxRecDepth 100000 in
set_option maxHeartbeats 4000000 in
theorem c_X6_stepOver {Γ : GT} {h : XH} {G : Nat → Int} {B : Nat → Int → Int} {D : DT} {i : Int} (S9 : ScM h.2 G D i) (R9 : RdD G B D) {a b c d : Nat} (X9 : IX G a b c d) {w : Int} (hw : 0 ≤ w ∧ w < dL D) (K1 : KK 800000000 (B (62 + a))) (KW : ∀ j, 0 ≤ j → j < 40 → B (62 + a) j ≠ NOK → 1 ≤ w ∨ j = 0) : Ct Γ M_X6_stepOver [.ref (g_L Γ 60), .int (iN w)] (gst Γ h G B) (fun r h9 => ∃ B' : Nat → Int → Int, r = none ∧ h9 = gst Γ h (uF (uF (uF (uF G 12 (c : Int)) 14 (a : Int)) 13 (d : Int)) 15 (b : Int)) B' ∧ frA [61, 62 + c, 62 + d] B B' ∧ B' (62 + c) = (stF D i w (B (62 + a)) (B (62 + b)) (fillF (B (62 + c)) NOK 40, fillF (B (62 + d)) 0 40) 40).1 ∧ B' (62 + d) = (stF D i w (B (62 + a)) (B (62 + b)) (fillF (B (62 + c)) NOK 40, fillF (B (62 + d)) 0 40) 40).2) (fun _ _ => False) := by
  refine Ct.of rfl (by decide +kernel) (Nat.le_of_ble_eq_true rfl) ?_
  generalize hQF9 : QM Γ _ _ _ = QF9
  obtain ⟨x1, x2, x3, x4, x5, x6⟩ := id X9
  have sr := R9.s_r hw
  have r1 := R9.1
  have KQ0 : KK (800000000 + 2110000) (fillF (B (62 + c)) NOK 40) := fun j j0 j1 => by rw [fillF_in ⟨j0, j1⟩]; exact ⟨by decide, Or.inl rfl⟩
  refine gg_aload_n dX6_stepOver_0 rfl rfl ?_
  refine gk_getX6_21 rfl dX6_stepOver_1 x3 ?_
  refine gi_ldc (z := 1073741824) (by decide) (wi_44 _ (List.mem_of_getElem? (i := 23) rfl)) rfl dX6_stepOver_4 ?_
  refine gc_X6_61 rfl dX6_stepOver_6 ⟨(Nat.le_of_ble_eq_true rfl), (Nat.le_of_ble_eq_true rfl)⟩ ⟨(Nat.le_of_ble_eq_true rfl), (Nat.le_of_ble_eq_true rfl)⟩ (Nat.le_of_ble_eq_true rfl) (c_J7_fill_53178 (j := 62 + c) (by rw [gl62 (by omega)]; decide) (by rw [gl62 (by omega)]; decide) (v := NOK)) (fun _ _ w => w.elim) (fun r_6 h_6 hp => ?_)
  obtain ⟨rfl, rfl⟩ := hp
  rw [gl62 (by omega)]
  refine gg_aload_n dX6_stepOver_9 rfl rfl ?_
  refine gk_getX6_24 rfl dX6_stepOver_10 x4 ?_
  refine gi_iconst dX6_stepOver_13 ?_
  refine gc_X6_61 rfl dX6_stepOver_14 ⟨(Nat.le_of_ble_eq_true rfl), (Nat.le_of_ble_eq_true rfl)⟩ ⟨(Nat.le_of_ble_eq_true rfl), (Nat.le_of_ble_eq_true rfl)⟩ (Nat.le_of_ble_eq_true rfl) (c_J7_fill_53178 (j := 62 + d) (by rw [gl62 (by omega)]; decide) (by rw [gl62 (by omega)]; decide) (v := 0)) (fun _ _ w => w.elim) (fun r_14 h_14 hp => ?_)
  obtain ⟨rfl, rfl⟩ := hp
  rw [gl62 (by omega), uA_n (show 62 + d ≠ 62 + c by omega)]
  refine gi_iconst dX6_stepOver_17 ?_
  refine gg_istore_n dX6_stepOver_18 (Nat.le_of_ble_eq_true rfl) rfl ?_
  have L_19 : ∀ (n9 : Nat) (f : Int) (B' : Nat → Int → Int), ((40 - f).toNat) = n9 → ∀ (hf : 0 ≤ f ∧ f ≤ 40) (FB : frA [61, 62 + c, 62 + d] B B') (E1 : B' (62 + c) = (stF D i w (B (62 + a)) (B (62 + b)) (fillF (B (62 + c)) NOK 40, fillF (B (62 + d)) 0 40) f.toNat).1) (E2 : B' (62 + d) = (stF D i w (B (62 + a)) (B (62 + b)) (fillF (B (62 + c)) NOK 40, fillF (B (62 + d)) 0 40) f.toNat).2), GG Γ M_X6_stepOver QF9 (0, 0) (gst Γ h G B') 19 [some (.ref (g_L Γ 60)), some (.int (iN w)), some (.int (iN f)), none] [] := by
    intro n9
    induction n9 using Nat.strongRecOn with
    | ind n9 ih_19 => 
      intro f B' hm9 hf FB E1 E2
      refine gg_iload_n dX6_stepOver_19 rfl ?_
      refine gi_bipush dX6_stepOver_20 (by decide) ?_
      refine gi_icmp_ge (tgt := 101) dX6_stepOver_22 (by decide) ⟨by omega, by omega⟩ ⟨by omega, by omega⟩ (fun c_22 => ?_) (fun c_22 => ?_)
      · refine gg_aload_n dX6_stepOver_101 rfl rfl ?_
        refine gk_getX6_15 rfl dX6_stepOver_102 x1 ?_
        refine gg_astore_n dX6_stepOver_105 rfl (Nat.le_of_ble_eq_true rfl) rfl ?_
        refine gg_aload_n dX6_stepOver_106 rfl rfl ?_
        refine gg_aload_n dX6_stepOver_107 rfl rfl ?_
        refine gk_getX6_21 rfl dX6_stepOver_108 x3 ?_
        refine gk_putX6_15 rfl dX6_stepOver_111 rfl ?_
        refine gg_aload_n dX6_stepOver_114 rfl rfl ?_
        refine gg_aload_n dX6_stepOver_115 rfl rfl ?_
        refine gk_putX6_21 rfl dX6_stepOver_116 rfl ?_
        refine gg_aload_n dX6_stepOver_119 rfl rfl ?_
        refine gk_getX6_18 rfl dX6_stepOver_120 (by rw [uF_n (by decide), uF_n (by decide)]; exact x2) ?_
        refine gg_astore_n dX6_stepOver_123 rfl (Nat.le_of_ble_eq_true rfl) rfl ?_
        refine gg_aload_n dX6_stepOver_124 rfl rfl ?_
        refine gg_aload_n dX6_stepOver_125 rfl rfl ?_
        refine gk_getX6_24 rfl dX6_stepOver_126 (by rw [uF_n (by decide), uF_n (by decide)]; exact x4) ?_
        refine gk_putX6_18 rfl dX6_stepOver_129 rfl ?_
        refine gg_aload_n dX6_stepOver_132 rfl rfl ?_
        refine gg_aload_n dX6_stepOver_133 rfl rfl ?_
        refine gk_putX6_24 rfl dX6_stepOver_134 rfl ?_
        subst hQF9
        refine gg_vret dX6_stepOver_137 rfl ⟨(Nat.le_of_ble_eq_true rfl), (Nat.le_of_ble_eq_true rfl)⟩ ?_
        rw [show f.toNat = 40 by omega] at E1 E2
        exact ⟨B', rfl, rfl, FB, E1, E2⟩
      · have L_37 : GG Γ M_X6_stepOver QF9 (0, 0) (gst Γ h G B') 37 [some (.ref (g_L Γ 60)), some (.int (iN w)), some (.int (iN f)), none] [.int (iN (bi (decide (f % 2 = 1))))] := by
          have bx9 := bi_01 (decide (f % 2 = 1))
          refine gg_istore_n dX6_stepOver_37 (Nat.le_of_ble_eq_true rfl) rfl ?_
          refine gg_aload_n dX6_stepOver_38 rfl rfl ?_
          refine gk_getX6_15 rfl dX6_stepOver_39 x1 ?_
          refine gg_iload_n dX6_stepOver_42 rfl ?_
          refine gk_iald dX6_stepOver_43 (by rw [gl62 (by omega)]; decide) (by rw [gl62 (by omega)]; decide) ⟨by omega, by rw [gl62 (by omega)]; show _ < (40 : Int); omega⟩ rfl ?_
          rw [FB (62 + a) (by simp; omega)]
          have kfr := K1 f (by omega) (by omega)
          refine gi_ldc (z := 1073741824) (by decide) (wi_44 _ (List.mem_of_getElem? (i := 23) rfl)) rfl dX6_stepOver_44 ?_
          refine gi_icmp_eq (tgt := 95) dX6_stepOver_46 (by decide) ⟨by unfold NOK at kfr; omega, by unfold NOK at kfr; omega⟩ ⟨by omega, by omega⟩ (fun c_46 => ?_) (fun c_46 => ?_)
          · have L_95 : ∀ (B1 : Nat → Int → Int) (FB1 : frA [61, 62 + c, 62 + d] B B1) (E11 : B1 (62 + c) = (stF D i w (B (62 + a)) (B (62 + b)) (fillF (B (62 + c)) NOK 40, fillF (B (62 + d)) 0 40) (f + 1).toNat).1) (E21 : B1 (62 + d) = (stF D i w (B (62 + a)) (B (62 + b)) (fillF (B (62 + c)) NOK 40, fillF (B (62 + d)) 0 40) (f + 1).toNat).2), GG Γ M_X6_stepOver QF9 (0, 0) (gst Γ h G B1) 95 [some (.ref (g_L Γ 60)), some (.int (iN w)), some (.int (iN f)), none] [] := by
              intro B1 FB1 E11 E21
              refine gi_iinc dX6_stepOver_95 rfl (Nat.le_of_ble_eq_true rfl) rfl ?_
              refine gg_goto (tgt := 19) dX6_stepOver_98 (by decide) ?_
              refine gg_drop 3 ?_
              exact ih_19 _ (by omega) (f + 1) B1 rfl (by omega) FB1 E11 E21
            refine gg_drop 3 ?_
            refine L_95 B' FB ?_ ?_
            · rw [E1, show (f + 1).toNat = f.toNat + 1 by omega, stF, st1, Int.toNat_of_nonneg hf.1, if_pos (show B (62 + a) f = NOK from c_46)]
            · rw [E2, show (f + 1).toNat = f.toNat + 1 by omega, stF, st1, Int.toNat_of_nonneg hf.1, if_pos (show B (62 + a) f = NOK from c_46)]
          · have kne : B (62 + a) f ≠ NOK := c_46
            have kle := kfr.2.resolve_left kne
            refine gg_aload_n dX6_stepOver_49 rfl rfl ?_
            refine gg_iload_n dX6_stepOver_50 rfl ?_
            refine gg_iload_n dX6_stepOver_51 rfl ?_
            refine gi_iconst dX6_stepOver_52 ?_
            refine gg_aload_n dX6_stepOver_53 rfl rfl ?_
            refine gg_iload_n dX6_stepOver_54 rfl ?_
            refine gg_iload_n dX6_stepOver_55 rfl ?_
            refine gi_iconst dX6_stepOver_56 ?_
            refine gi_ishr (f / 2) (by rw [bt_shr ⟨by omega, by omega⟩ ⟨by omega, by omega⟩]; rfl) dX6_stepOver_57 ?_
            refine gg_iload_n dX6_stepOver_58 rfl ?_
            refine gi_iconst dX6_stepOver_59 ?_
            refine gc_X6_89 rfl dX6_stepOver_60 ⟨(Nat.le_of_ble_eq_true rfl), (Nat.le_of_ble_eq_true rfl)⟩ ⟨(Nat.le_of_ble_eq_true rfl), (Nat.le_of_ble_eq_true rfl)⟩ (Nat.le_of_ble_eq_true rfl) (HAt.mu gst_60) (c_X6_wordPrice (B := B') S9 (R9.fr rfl rfl rfl (FB 51 (by simp; omega)) (FB 52 (by simp; omega))) (w := w) (st := f / 2) (x := (decide (f % 2 = 1))) (y := false) hw ⟨by omega, by omega⟩ (fun q => by rcases KW f (by omega) (by omega) kne with z | z <;> omega) (fun q => by rw [decide_eq_true_iff] at q; rcases KW f (by omega) (by omega) kne with z | z <;> omega)) (fun _ _ w => w.elim) (fun r_60 h_60 hp => ?_)
            obtain ⟨B2, rfl, rfl, F61, -⟩ := hp
            have wr := wpE_r (D := D) (i := i) (w := w) (st := f / 2) (x := (decide (f % 2 = 1))) (y := false) sr
            have F2 : frA [61, 62 + c, 62 + d] B B2 := fun j hj => by rw [F61 j (fun q => hj (by revert q; simp; omega)), FB j hj]
            have KQ := (stF_b (i := i) (wy := B (62 + b)) (n := (fillF (B (62 + c)) NOK 40, fillF (B (62 + d)) 0 40)) sr ⟨hw.1, by omega⟩ K1 (by decide) KQ0 f.toNat (by omega)).n (by decide)
            have C2 : B2 (62 + c) = (stF D i w (B (62 + a)) (B (62 + b)) (fillF (B (62 + c)) NOK 40, fillF (B (62 + d)) 0 40) f.toNat).1 := by rw [F61 _ (by simp; omega), E1]
            have D2 : B2 (62 + d) = (stF D i w (B (62 + a)) (B (62 + b)) (fillF (B (62 + c)) NOK 40, fillF (B (62 + d)) 0 40) f.toNat).2 := by rw [F61 _ (by simp; omega), E2]
            refine gc_X6_93 rfl dX6_stepOver_63 ⟨(Nat.le_of_ble_eq_true rfl), (Nat.le_of_ble_eq_true rfl)⟩ ⟨(Nat.le_of_ble_eq_true rfl), (Nat.le_of_ble_eq_true rfl)⟩ (Nat.le_of_ble_eq_true rfl) (HAt.mu gst_60) (c_X6_extend (G := G) (B := B2) (D := D) (R9.fr rfl rfl rfl (F2 51 (by simp; omega)) (F2 52 (by simp; omega))) X9 (fun j j0 j1 => by rw [F2 (62 + a) (by simp; omega)]; exact (K1.n (by decide)) j j0 j1) (fun j j0 j1 => by rw [C2]; exact KQ j j0 j1) (w := w) (f := f) (e := 0) (p := wpE D i w (f / 2) (decide (f % 2 = 1)) false) hw ⟨by omega, by omega⟩ (by decide) ⟨by omega, by omega⟩ (by rw [F2 (62 + a) (by simp; omega)]; have := K1 f (by omega) (by omega); omega)) (fun _ _ w => w.elim) (fun r_63 h_63 hp => ?_)
            obtain ⟨rfl, rfl⟩ := hp
            obtain ⟨B3, hB3⟩ : ∃ B3, B3 = uA (uA B2 (62 + c) (ex1 D w (B2 (62 + a)) (B2 (62 + b)) f 0 (wpE D i w (f / 2) (decide (f % 2 = 1)) false) (B2 (62 + c), B2 (62 + d))).1) (62 + d) (ex1 D w (B2 (62 + a)) (B2 (62 + b)) f 0 (wpE D i w (f / 2) (decide (f % 2 = 1)) false) (B2 (62 + c), B2 (62 + d))).2 := ⟨_, rfl⟩
            rw [← hB3]
            rw [F2 (62 + a) (by simp; omega), F2 (62 + b) (by simp; omega), C2, D2] at hB3
            have F3 : frA [61, 62 + c, 62 + d] B B3 := fun j hj => by rw [hB3, uA_n (fun q => hj (by rw [q]; simp)), uA_n (fun q => hj (by rw [q]; simp)), F2 j hj]
            have E3 : B3 (62 + c) = (ex1 D w (B (62 + a)) (B (62 + b)) f 0 (wpE D i w (f / 2) (decide (f % 2 = 1)) false) (stF D i w (B (62 + a)) (B (62 + b)) (fillF (B (62 + c)) NOK 40, fillF (B (62 + d)) 0 40) f.toNat)).1 := by rw [hB3, uA_n (show 62 + c ≠ 62 + d by omega), uA_s]
            have E4 : B3 (62 + d) = (ex1 D w (B (62 + a)) (B (62 + b)) f 0 (wpE D i w (f / 2) (decide (f % 2 = 1)) false) (stF D i w (B (62 + a)) (B (62 + b)) (fillF (B (62 + c)) NOK 40, fillF (B (62 + d)) 0 40) f.toNat)).2 := by rw [hB3, uA_s]
            refine gg_aload_n dX6_stepOver_66 rfl rfl ?_
            refine gk_getX6_43 rfl dX6_stepOver_67 ?_
            refine gg_iload_n dX6_stepOver_70 rfl ?_
            refine gg_iload_n dX6_stepOver_71 rfl ?_
            refine gc_X6_97 rfl dX6_stepOver_72 ⟨(Nat.le_of_ble_eq_true rfl), (Nat.le_of_ble_eq_true rfl)⟩ ⟨(Nat.le_of_ble_eq_true rfl), (Nat.le_of_ble_eq_true rfl)⟩ (Nat.le_of_ble_eq_true rfl) (HAt.mu gst_50) (c_X5_canElide (B := B3) (R9.fr rfl rfl rfl (F3 51 (by simp; omega)) (F3 52 (by simp; omega))) hw (x := (decide (f % 2 = 1)))) (fun _ _ w => w.elim) (fun r_72 h_72 hp => ?_)
            obtain ⟨rfl, rfl⟩ := hp
            refine gi_if_eq (tgt := 95) dX6_stepOver_75 (by decide) (bi_r _) (fun c_75 => ?_) (fun c_75 => ?_)
            · rw [bi_f] at c_75
              have L_95 : ∀ (B1 : Nat → Int → Int) (FB1 : frA [61, 62 + c, 62 + d] B B1) (E11 : B1 (62 + c) = (stF D i w (B (62 + a)) (B (62 + b)) (fillF (B (62 + c)) NOK 40, fillF (B (62 + d)) 0 40) (f + 1).toNat).1) (E21 : B1 (62 + d) = (stF D i w (B (62 + a)) (B (62 + b)) (fillF (B (62 + c)) NOK 40, fillF (B (62 + d)) 0 40) (f + 1).toNat).2), GG Γ M_X6_stepOver QF9 (0, 0) (gst Γ h G B1) 95 [some (.ref (g_L Γ 60)), some (.int (iN w)), some (.int (iN f)), none] [] := by
                intro B1 FB1 E11 E21
                refine gi_iinc dX6_stepOver_95 rfl (Nat.le_of_ble_eq_true rfl) rfl ?_
                refine gg_goto (tgt := 19) dX6_stepOver_98 (by decide) ?_
                refine gg_drop 3 ?_
                exact ih_19 _ (by omega) (f + 1) B1 rfl (by omega) FB1 E11 E21
              refine gg_drop 3 ?_
              refine L_95 B3 F3 ?_ ?_
              · rw [E3, show (f + 1).toNat = f.toNat + 1 by omega, stF, st1, Int.toNat_of_nonneg hf.1, if_neg kne, if_neg (by rw [c_75]; decide)]
              · rw [E4, show (f + 1).toNat = f.toNat + 1 by omega, stF, st1, Int.toNat_of_nonneg hf.1, if_neg kne, if_neg (by rw [c_75]; decide)]
            · rw [bi_t] at c_75
              refine gg_aload_n dX6_stepOver_78 rfl rfl ?_
              refine gg_iload_n dX6_stepOver_79 rfl ?_
              refine gg_iload_n dX6_stepOver_80 rfl ?_
              refine gi_iconst dX6_stepOver_81 ?_
              refine gg_aload_n dX6_stepOver_82 rfl rfl ?_
              refine gg_iload_n dX6_stepOver_83 rfl ?_
              refine gg_iload_n dX6_stepOver_84 rfl ?_
              refine gi_iconst dX6_stepOver_85 ?_
              refine gi_ishr (f / 2) (by rw [bt_shr ⟨by omega, by omega⟩ ⟨by omega, by omega⟩]; rfl) dX6_stepOver_86 ?_
              refine gg_iload_n dX6_stepOver_87 rfl ?_
              refine gi_iconst dX6_stepOver_88 ?_
              refine gc_X6_89 rfl dX6_stepOver_89 ⟨(Nat.le_of_ble_eq_true rfl), (Nat.le_of_ble_eq_true rfl)⟩ ⟨(Nat.le_of_ble_eq_true rfl), (Nat.le_of_ble_eq_true rfl)⟩ (Nat.le_of_ble_eq_true rfl) (HAt.mu gst_60) (c_X6_wordPrice (B := B3) S9 (R9.fr rfl rfl rfl (F3 51 (by simp; omega)) (F3 52 (by simp; omega))) (w := w) (st := f / 2) (x := (decide (f % 2 = 1))) (y := true) hw ⟨by omega, by omega⟩ (fun q => by rcases KW f (by omega) (by omega) kne with z | z <;> omega) (fun q => by rw [decide_eq_true_iff] at q; rcases KW f (by omega) (by omega) kne with z | z <;> omega)) (fun _ _ w => w.elim) (fun r_89 h_89 hp => ?_)
              obtain ⟨B4, rfl, rfl, F61b, -⟩ := hp
              have wr2 := wpE_r (D := D) (i := i) (w := w) (st := f / 2) (x := (decide (f % 2 = 1))) (y := true) sr
              have F4 : frA [61, 62 + c, 62 + d] B B4 := fun j hj => by rw [F61b j (fun q => hj (by revert q; simp; omega)), F3 j hj]
              have KQ2 : ∀ j, 0 ≤ j → j < 40 → 0 ≤ B4 (62 + c) j ∧ B4 (62 + c) j ≤ NOK := by
                rw [F61b _ (by simp; omega), E3]
                exact (ex1_b (D := D) (wy := B (62 + b)) (e := 0) ⟨hw.1, by omega⟩ wr.2 (Or.inl rfl) ⟨(K1 f (by omega) (by omega)).1, (K1 f (by omega) (by omega)).2.resolve_left kne⟩ (by decide) (stF_b (i := i) (wy := B (62 + b)) (n := (fillF (B (62 + c)) NOK 40, fillF (B (62 + d)) 0 40)) sr ⟨hw.1, by omega⟩ K1 (by decide) KQ0 f.toNat (by omega))).n (by decide)
              refine gc_X6_93 rfl dX6_stepOver_92 ⟨(Nat.le_of_ble_eq_true rfl), (Nat.le_of_ble_eq_true rfl)⟩ ⟨(Nat.le_of_ble_eq_true rfl), (Nat.le_of_ble_eq_true rfl)⟩ (Nat.le_of_ble_eq_true rfl) (HAt.mu gst_60) (c_X6_extend (G := G) (B := B4) (D := D) (R9.fr rfl rfl rfl (F4 51 (by simp; omega)) (F4 52 (by simp; omega))) X9 (fun j j0 j1 => by rw [F4 (62 + a) (by simp; omega)]; exact (K1.n (by decide)) j j0 j1) KQ2 (w := w) (f := f) (e := 1) (p := wpE D i w (f / 2) (decide (f % 2 = 1)) true) hw ⟨by omega, by omega⟩ (by decide) ⟨by omega, by omega⟩ (by rw [F4 (62 + a) (by simp; omega)]; have := (K1 f (by omega) (by omega)).2.resolve_left kne; omega)) (fun _ _ w => w.elim) (fun r_92 h_92 hp => ?_)
              obtain ⟨rfl, rfl⟩ := hp
              have L_95 : ∀ (B1 : Nat → Int → Int) (FB1 : frA [61, 62 + c, 62 + d] B B1) (E11 : B1 (62 + c) = (stF D i w (B (62 + a)) (B (62 + b)) (fillF (B (62 + c)) NOK 40, fillF (B (62 + d)) 0 40) (f + 1).toNat).1) (E21 : B1 (62 + d) = (stF D i w (B (62 + a)) (B (62 + b)) (fillF (B (62 + c)) NOK 40, fillF (B (62 + d)) 0 40) (f + 1).toNat).2), GG Γ M_X6_stepOver QF9 (0, 0) (gst Γ h G B1) 95 [some (.ref (g_L Γ 60)), some (.int (iN w)), some (.int (iN f)), none] [] := by
                intro B1 FB1 E11 E21
                refine gi_iinc dX6_stepOver_95 rfl (Nat.le_of_ble_eq_true rfl) rfl ?_
                refine gg_goto (tgt := 19) dX6_stepOver_98 (by decide) ?_
                refine gg_drop 3 ?_
                exact ih_19 _ (by omega) (f + 1) B1 rfl (by omega) FB1 E11 E21
              refine gg_drop 3 ?_
              refine L_95 _ (frA_u (frA_u F4 (by simp)) (by simp)) ?_ ?_
              · rw [uA_n (show 62 + c ≠ 62 + d by omega), uA_s, show (f + 1).toNat = f.toNat + 1 by omega, stF, st1, Int.toNat_of_nonneg hf.1, if_neg kne, if_pos c_75, F4 (62 + a) (by simp; omega), F4 (62 + b) (by simp; omega), F61b (62 + c) (by simp; omega), F61b (62 + d) (by simp; omega), E3, E4]
              · rw [uA_s, show (f + 1).toNat = f.toNat + 1 by omega, stF, st1, Int.toNat_of_nonneg hf.1, if_neg kne, if_pos c_75, F4 (62 + a) (by simp; omega), F4 (62 + b) (by simp; omega), F61b (62 + c) (by simp; omega), F61b (62 + d) (by simp; omega), E3, E4]
        have L_95 : ∀ (B1 : Nat → Int → Int) (FB1 : frA [61, 62 + c, 62 + d] B B1) (E11 : B1 (62 + c) = (stF D i w (B (62 + a)) (B (62 + b)) (fillF (B (62 + c)) NOK 40, fillF (B (62 + d)) 0 40) (f + 1).toNat).1) (E21 : B1 (62 + d) = (stF D i w (B (62 + a)) (B (62 + b)) (fillF (B (62 + c)) NOK 40, fillF (B (62 + d)) 0 40) (f + 1).toNat).2), GG Γ M_X6_stepOver QF9 (0, 0) (gst Γ h G B1) 95 [some (.ref (g_L Γ 60)), some (.int (iN w)), some (.int (iN f)), none] [] := by
          intro B1 FB1 E11 E21
          refine gi_iinc dX6_stepOver_95 rfl (Nat.le_of_ble_eq_true rfl) rfl ?_
          refine gg_goto (tgt := 19) dX6_stepOver_98 (by decide) ?_
          refine gg_drop 3 ?_
          exact ih_19 _ (by omega) (f + 1) B1 rfl (by omega) FB1 E11 E21
        refine gg_iload_n dX6_stepOver_25 rfl ?_
        refine gi_iconst dX6_stepOver_26 ?_
        refine gi_iand (f % 2) (bt_a1 (by omega)) dX6_stepOver_27 ?_
        refine gi_iconst dX6_stepOver_28 ?_
        refine gi_icmp_ne (tgt := 36) dX6_stepOver_29 (by decide) ⟨by omega, by omega⟩ ⟨by omega, by omega⟩ (fun c_29 => ?_) (fun c_29 => ?_)
        · refine gi_iconst dX6_stepOver_36 ?_
          refine gg_drop 3 ?_
          exact gg_conv L_37 rfl rfl (by rw [decide_eq_false c_29]; rfl)
        · refine gi_iconst dX6_stepOver_32 ?_
          refine gg_goto (tgt := 37) dX6_stepOver_33 (by decide) ?_
          refine gg_drop 3 ?_
          exact gg_conv L_37 rfl rfl (by rw [decide_eq_true c_29]; rfl)
  refine gg_drop 3 ?_
  refine L_19 _ 0 _ rfl (by omega) (frA_u (frA_u (fun _ _ => rfl) (by simp)) (by simp)) (by rw [uA_n (show 62 + c ≠ 62 + d by omega), uA_s]; rfl) (by rw [uA_s]; rfl)
