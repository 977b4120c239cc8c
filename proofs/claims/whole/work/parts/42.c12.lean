/-! the search, whole; the price of one scan -/
def swF (D : DT) (i : Int) : Nat → (Int → Int) × (Int → Int)
  | 0 => (up (fun _ => NOK) 0 (i * 131073), up (fun _ => 0) 0 1)
  | w + 1 => stF D i w (swF D i w).1 (swF D i w).2 (fun _ => NOK, fun _ => 0) 40
def sOK (D : DT) : Prop := dL D ≤ 12 ∧ ∀ w, 0 ≤ w → w < dL D → 1 ≤ dS D w ∧ dS D w ≤ 6
theorem swF_b {D : DT} {i : Int} (hi : i = 0 ∨ i = 1) (hD : sOK D) : ∀ w : Nat, (w : Int) ≤ dL D → KK (131073 + w * 2110000) (swF D i w).1
  | 0, _ => fun j j0 j1 => by
    rw [swF]; dsimp only; unfold up
    split
    · rcases hi with z | z <;> rw [z] <;> exact ⟨by decide, Or.inr (by decide)⟩
    · exact ⟨(show (0 : Int) ≤ NOK from by decide), Or.inl rfl⟩
  | w + 1, hw => by
    have h12 := hD.1
    have ih := swF_b hi hD w (by omega)
    rw [swF]
    have := stF_b (i := i) (wy := (swF D i w).2) (n := (fun _ => NOK, fun _ => 0)) (hD.2 w (by omega) (by omega)) ⟨by omega, by omega⟩ ih (by omega) (fun j j0 j1 => ⟨(show (0 : Int) ≤ NOK from by decide), Or.inl rfl⟩) 40 (Nat.le_refl _)
    exact this.m (by omega)
theorem swF_0 {D : DT} {i : Int} {j : Int} (hj : (swF D i 0).1 j ≠ NOK) : j = 0 := by
  rw [swF] at hj; dsimp only at hj; unfold up at hj
  by_cases z : j = 0
  · exact z
  · rw [if_neg z] at hj; exact absurd rfl hj
theorem bsF_cg {D : DT} {ky wy ky' wy' : Int → Int} {fd : Int} (h1 : A40 ky ky') (h2 : A40 wy wy') : ∀ k : Nat, k ≤ 20 → bsF D ky wy fd k = bsF D ky' wy' fd k
  | 0, _ => rfl
  | k + 1, hk => by
    rw [bsF, bsF, bsF_cg h1 h2 k (by omega), bs1, bs1, h1 (2 * k) (by omega) (by omega), h2 (2 * k) (by omega) (by omega)]
def srB (D : DT) (i fd : Int) : Int × Int := bsF D (swF D i (dL D).toNat).1 (swF D i (dL D).toNat).2 fd 20
def tfew (D : DT) : Bool := decide (smS (dS D) (dL D).toNat < few D)
def tmny (D : DT) : Bool := decide (smS (dS D) (dL D).toNat - (grd (dE D) (dS D) (dL D).toNat).1 > dF D * szk (dK D) + 1)
def srch (D : DT) : Int × Int := if (tfew D || tmny D) = true then (NOK, 0) else (min (min NOK (srB D 0 0).1) (srB D 1 (srB D 0 0).2).1, (srB D 1 (srB D 0 0).2).2)
theorem srB_r {D : DT} {i fd : Int} (hi : i = 0 ∨ i = 1) (hD : sOK D) (h0 : 0 ≤ dL D) : 0 ≤ (srB D i fd).1 ∧ (srB D i fd).1 ≤ NOK := by
  have h12 := hD.1
  have := swF_b (D := D) hi hD (dL D).toNat (by omega)
  exact bsF_r (this.n (by omega)) 20 (Nat.le_refl _)
set_option maxRecDepth 100000 in
set_option maxHeartbeats 4000000 in
theorem c_X6_search {Γ : GT} {h : XH} {G : Nat → Int} {B : Nat → Int → Int} {q1 : Nat} {D : DT} (M1 : MtAt h.2 q1 (dK D) (dF D) (dZ D)) (R9 : RdD G B D) (r7 : G 7 = smS (dS D) (dL D).toNat) (r8 : G 11 = (grd (dE D) (dS D) (dL D).toNat).1) (I9 : ∃ a b c d, IX G a b c d) : Ct Γ M_X6_search [.ref (g_L Γ 60), .ref q1] (gst Γ h G B) (fun r h9 => ∃ (G' : Nat → Int) (B' : Nat → Int → Int), r = some (.int (iN (srch D).1)) ∧ h9 = gst Γ h G' B' ∧ frF [12, 13, 14, 15, 16, 17, 18] G G' ∧ frA [61, 62, 63, 64, 65] B B' ∧ G' 18 = (srch D).2 ∧ ∃ a b c d, IX G' a b c d) (fun _ _ => False) := by
  refine Ct.of rfl (by decide +kernel) (Nat.le_of_ble_eq_true rfl) ?_
  generalize hQF9 : QM Γ _ _ _ = QF9
  obtain ⟨⟨t1, t2, t3⟩, t4⟩ := id M1
  obtain ⟨r1, r2, r3, r4, r5, r6⟩ := id R9
  have hD : sOK D := ⟨r1.2, fun w w0 w1 => (r3 w w0 w1).1⟩
  have b0r := srB_r (D := D) (i := 0) (fd := 0) (Or.inl rfl) hD (by omega)
  have b1r := srB_r (D := D) (i := 1) (fd := (srB D 0 0).2) (Or.inr rfl) hD (by omega)
  unfold NOK at b0r b1r
  have hfw : few D = (if strK (dK D) (dF D * szk (dK D) - 1) 0 = true then dF D * szk (dK D) else dF D * szk (dK D) - 1) := rfl
  refine gg_aload_n dX6_search_0 rfl rfl ?_
  refine gi_iconst dX6_search_1 ?_
  refine gk_putX6_40 rfl dX6_search_2 rfl ?_
  refine gi_ldc (z := 1073741824) (by decide) (wi_44 _ (List.mem_of_getElem? (i := 23) rfl)) rfl dX6_search_5 ?_
  refine gg_istore_n dX6_search_7 (Nat.le_of_ble_eq_true rfl) rfl ?_
  refine gg_aload_n dX6_search_8 rfl rfl ?_
  refine gk_getX6_43 rfl dX6_search_9 ?_
  refine gg_aload_n dX6_search_12 rfl rfl ?_
  refine gc_X6_48 rfl dX6_search_13 ⟨(Nat.le_of_ble_eq_true rfl), (Nat.le_of_ble_eq_true rfl)⟩ ⟨(Nat.le_of_ble_eq_true rfl), (Nat.le_of_ble_eq_true rfl)⟩ (Nat.le_of_ble_eq_true rfl) (HAt.mu gst_50) (c_X5_hasTooFew (G := uF G 18 0) (B := B) (R9.fr (uF_n (by decide)) (uF_n (by decide)) (uF_n (by decide)) rfl rfl) (by rw [uF_n (by decide)]; exact r7) M1) (fun _ _ w => w.elim) (fun r_13 h_13 hp => ?_)
  obtain ⟨rfl, rfl⟩ := hp
  rw [← hfw, show decide (smS (dS D) (dL D).toNat < few D) = tfew D from rfl]
  refine gi_if_ne (tgt := 30) dX6_search_16 (by decide) (bi_r _) (fun c_16 => ?_) (fun c_16 => ?_)
  · rw [bi_t] at c_16
    refine gg_iload_n dX6_search_30 rfl ?_
    subst hQF9
    refine gg_iret dX6_search_31 rfl rfl ⟨(Nat.le_of_ble_eq_true rfl), (Nat.le_of_ble_eq_true rfl)⟩ ?_
    have hs : srch D = (NOK, 0) := by unfold srch; rw [c_16, if_pos (by simp)]
    obtain ⟨a, b, c, d, y1, y2, y3, y4, y5⟩ := I9
    exact ⟨_, B, by rw [hs]; rfl, rfl, frF_u (fun _ _ => rfl) (by decide), fun _ _ => rfl, by rw [hs, uF_s], a, b, c, d, by rw [uF_n (by decide)]; exact y1, by rw [uF_n (by decide)]; exact y2, by rw [uF_n (by decide)]; exact y3, by rw [uF_n (by decide)]; exact y4, y5⟩
  · rw [bi_f] at c_16
    refine gg_aload_n dX6_search_19 rfl rfl ?_
    refine gk_getX6_43 rfl dX6_search_20 ?_
    refine gg_aload_n dX6_search_23 rfl rfl ?_
    refine gc_X6_54 rfl dX6_search_24 ⟨(Nat.le_of_ble_eq_true rfl), (Nat.le_of_ble_eq_true rfl)⟩ ⟨(Nat.le_of_ble_eq_true rfl), (Nat.le_of_ble_eq_true rfl)⟩ (Nat.le_of_ble_eq_true rfl) (HAt.mu gst_50) (c_X5_hasTooMany (G := uF G 18 0) (B := B) (R9.fr (uF_n (by decide)) (uF_n (by decide)) (uF_n (by decide)) rfl rfl) (by rw [uF_n (by decide)]; exact r7) (by rw [uF_n (by decide)]; exact r8) M1) (fun _ _ w => w.elim) (fun r_24 h_24 hp => ?_)
    obtain ⟨rfl, rfl⟩ := hp
    rw [show decide (smS (dS D) (dL D).toNat - (grd (dE D) (dS D) (dL D).toNat).1 > dF D * szk (dK D) + 1) = tmny D from rfl]
    refine gi_if_eq (tgt := 32) dX6_search_27 (by decide) (bi_r _) (fun c_27 => ?_) (fun c_27 => ?_)
    · rw [bi_f] at c_27
      refine gi_iconst dX6_search_32 ?_
      refine gg_istore_n dX6_search_33 (Nat.le_of_ble_eq_true rfl) rfl ?_
      have L_34 : ∀ (n9 : Nat) (v bst : Int) (G' : Nat → Int) (B' : Nat → Int → Int), ((2 - v).toNat) = n9 → ∀ (hv : 0 ≤ v ∧ v ≤ 2) (hb : 0 ≤ bst ∧ bst ≤ 1073741824) (FG : frF [12, 13, 14, 15, 16, 17, 18] G G') (FB : frA [61, 62, 63, 64, 65] B B') (I9 : ∃ a b c d, IX G' a b c d) (Z : (v = 0 ∧ bst = NOK ∧ G' 18 = 0) ∨ (v = 1 ∧ bst = min NOK (srB D 0 0).1 ∧ G' 18 = (srB D 0 0).2) ∨ (v = 2 ∧ bst = min (min NOK (srB D 0 0).1) (srB D 1 (srB D 0 0).2).1 ∧ G' 18 = (srB D 1 (srB D 0 0).2).2)), GG Γ M_X6_search QF9 (0, 0) (gst Γ h G' B') 34 [some (.ref (g_L Γ 60)), some (.ref q1), some (.int (iN bst)), some (.int (iN v)), none] [] := by
        intro n9
        induction n9 using Nat.strongRecOn with
        | ind n9 ih_34 => 
          intro v bst G' B' hm9 hv hb FG FB I9 Z
          refine gg_iload_n dX6_search_34 rfl ?_
          refine gi_iconst dX6_search_35 ?_
          refine gi_icmp_gt (tgt := 130) dX6_search_36 (by decide) ⟨by omega, by omega⟩ ⟨by omega, by omega⟩ (fun c_36 => ?_) (fun c_36 => ?_)
          · refine gg_iload_n dX6_search_130 rfl ?_
            subst hQF9
            refine gg_iret dX6_search_131 rfl rfl ⟨(Nat.le_of_ble_eq_true rfl), (Nat.le_of_ble_eq_true rfl)⟩ ?_
            rcases Z with ⟨z1, z2, z3⟩ | ⟨z1, z2, z3⟩ | ⟨z1, z2, z3⟩
            · omega
            · omega
            · have hs : srch D = (min (min NOK (srB D 0 0).1) (srB D 1 (srB D 0 0).2).1, (srB D 1 (srB D 0 0).2).2) := by unfold srch; rw [c_16, c_27, if_neg (by decide)]
              exact ⟨G', B', by rw [hs, z2], rfl, FG, FB, by rw [hs, z3], I9⟩
          · have L_51 : GG Γ M_X6_search QF9 (0, 0) (gst Γ h G' B') 51 [some (.ref (g_L Γ 60)), some (.ref q1), some (.int (iN bst)), some (.int (iN v)), none] [.int (iN v), .ref q1, .ref (g_L Γ 60)] := by
              have hv9 : v = 0 ∨ v = 1 := by omega
              refine gc_X6_57 rfl dX6_search_51 ⟨(Nat.le_of_ble_eq_true rfl), (Nat.le_of_ble_eq_true rfl)⟩ ⟨(Nat.le_of_ble_eq_true rfl), (Nat.le_of_ble_eq_true rfl)⟩ (Nat.le_of_ble_eq_true rfl) (HAt.mu gst_60) (c_X6_begin (G := G') (B := B') M1 hv9) (fun _ _ w => w.elim) (fun r_51 h_51 hp => ?_)
              obtain ⟨rfl, rfl⟩ := hp
              have S1 : ScM h.2 (uF (uF G' 16 (q1 : Int)) 17 (plN (fun p => strK (dK D) p v) (dF D * szk (dK D)).toNat : Nat)) D v := ⟨q1, by rw [uF_n (by decide), uF_s], M1, hv9, uF_s⟩
              obtain ⟨a, b, c, d, X9⟩ := I9
              obtain ⟨y1, y2, y3, y4, y5, y6⟩ := id X9
              refine gg_aload_n dX6_search_54 rfl rfl ?_
              refine gk_getX6_15 rfl dX6_search_55 (by rw [uF_n (by decide), uF_n (by decide)]; exact y1) ?_
              refine gi_ldc (z := 1073741824) (by decide) (wi_44 _ (List.mem_of_getElem? (i := 23) rfl)) rfl dX6_search_58 ?_
              refine gc_X6_61 rfl dX6_search_60 ⟨(Nat.le_of_ble_eq_true rfl), (Nat.le_of_ble_eq_true rfl)⟩ ⟨(Nat.le_of_ble_eq_true rfl), (Nat.le_of_ble_eq_true rfl)⟩ (Nat.le_of_ble_eq_true rfl) (c_J7_fill_53178 (j := 62 + a) (by rw [gl62 (by omega)]; decide) (by rw [gl62 (by omega)]; decide) (v := NOK)) (fun _ _ w => w.elim) (fun r_60 h_60 hp => ?_)
              obtain ⟨rfl, rfl⟩ := hp
              rw [gl62 (by omega)]
              refine gg_aload_n dX6_search_63 rfl rfl ?_
              refine gk_getX6_18 rfl dX6_search_64 (by rw [uF_n (by decide), uF_n (by decide)]; exact y2) ?_
              refine gi_iconst dX6_search_67 ?_
              refine gc_X6_61 rfl dX6_search_68 ⟨(Nat.le_of_ble_eq_true rfl), (Nat.le_of_ble_eq_true rfl)⟩ ⟨(Nat.le_of_ble_eq_true rfl), (Nat.le_of_ble_eq_true rfl)⟩ (Nat.le_of_ble_eq_true rfl) (c_J7_fill_53178 (j := 62 + b) (by rw [gl62 (by omega)]; decide) (by rw [gl62 (by omega)]; decide) (v := 0)) (fun _ _ w => w.elim) (fun r_68 h_68 hp => ?_)
              obtain ⟨rfl, rfl⟩ := hp
              rw [gl62 (by omega)]
              refine gg_aload_n dX6_search_71 rfl rfl ?_
              refine gk_getX6_15 rfl dX6_search_72 (by rw [uF_n (by decide), uF_n (by decide)]; exact y1) ?_
              refine gi_iconst dX6_search_75 ?_
              refine gg_iload_n dX6_search_76 rfl ?_
              refine gi_ldc (z := 131073) (by decide) (wi_45 _ (List.mem_of_getElem? (i := 0) rfl)) rfl dX6_search_77 ?_
              refine gi_imul dX6_search_79 ?_
              refine gk_iast dX6_search_80 (by rw [gl62 (by omega)]; decide) (by rw [gl62 (by omega)]; decide) ⟨by omega, by rw [gl62 (by omega)]; show _ < (40 : Int); omega⟩ rfl ?_
              refine gg_aload_n dX6_search_81 rfl rfl ?_
              refine gk_getX6_18 rfl dX6_search_82 (by rw [uF_n (by decide), uF_n (by decide)]; exact y2) ?_
              refine gi_iconst dX6_search_85 ?_
              refine gi_iconst dX6_search_86 ?_
              refine gk_iast dX6_search_87 (by rw [gl62 (by omega)]; decide) (by rw [gl62 (by omega)]; decide) ⟨by omega, by rw [gl62 (by omega)]; show _ < (40 : Int); omega⟩ rfl ?_
              refine gi_iconst dX6_search_88 ?_
              refine gg_istore dX6_search_89 (Nat.le_of_ble_eq_true rfl) rfl ?_
              have L_91 : ∀ (n9 : Nat) (w : Int) (G2 : Nat → Int) (B2 : Nat → Int → Int) (a b c d : Nat), ((dL D - w).toNat) = n9 → ∀ (hw : 0 ≤ w ∧ w ≤ dL D) (F2 : frF [12, 13, 14, 15, 16, 17, 18] G G2) (FB2 : frA [61, 62, 63, 64, 65] B B2) (S2 : ScM h.2 G2 D v) (X2 : IX G2 a b c d) (P1 : A40 (B2 (62 + a)) (swF D v w.toNat).1) (P2 : A40 (B2 (62 + b)) (swF D v w.toNat).2) (f18 : G2 18 = G' 18), GG Γ M_X6_search QF9 (0, 0) (gst Γ h G2 B2) 91 [some (.ref (g_L Γ 60)), some (.ref q1), some (.int (iN bst)), some (.int (iN v)), some (.int (iN w))] [] := by
                intro n9
                induction n9 using Nat.strongRecOn with
                | ind n9 ih_91 => 
                  intro w G2 B2 a b c d hm9 hw F2 FB2 S2 X2 P1 P2 f18
                  refine gg_iload dX6_search_91 rfl ?_
                  refine gg_aload_n dX6_search_93 rfl rfl ?_
                  refine gk_getX6_43 rfl dX6_search_94 ?_
                  refine gk_getX6_68 rfl dX6_search_97 ((F2 6 (by decide)).trans r2) ?_
                  refine gi_icmp_ge (tgt := 115) dX6_search_100 (by decide) ⟨by omega, by omega⟩ ⟨by omega, by omega⟩ (fun c_100 => ?_) (fun c_100 => ?_)
                  · refine gg_iload_n dX6_search_115 rfl ?_
                    refine gg_aload_n dX6_search_116 rfl rfl ?_
                    refine gc_X6_75 rfl dX6_search_117 ⟨(Nat.le_of_ble_eq_true rfl), (Nat.le_of_ble_eq_true rfl)⟩ ⟨(Nat.le_of_ble_eq_true rfl), (Nat.le_of_ble_eq_true rfl)⟩ (Nat.le_of_ble_eq_true rfl) (HAt.mu gst_60) (c_X6_bestAtEnd (G := G2) (B := B2) S2 X2 (fun j j0 j1 => by rw [P1 j j0 j1]; exact ((swF_b hv9 hD w.toNat (by omega)).m (by omega)) j j0 j1)) (fun _ _ w => w.elim) (fun r_117 h_117 hp => ?_)
                    obtain ⟨rfl, rfl⟩ := hp
                    rw [bsF_cg (fd := G2 18) P1 P2 20 (by decide), show w.toNat = (dL D).toNat by omega, f18, show bsF D (swF D v (dL D).toNat).1 (swF D v (dL D).toNat).2 (G' 18) 20 = srB D v (G' 18) from rfl]
                    have brr := srB_r (D := D) (i := v) (fd := G' 18) hv9 hD (by omega)
                    unfold NOK at brr
                    refine gc_X6_79 rfl dX6_search_120 ⟨(Nat.le_of_ble_eq_true rfl), (Nat.le_of_ble_eq_true rfl)⟩ ⟨(Nat.le_of_ble_eq_true rfl), (Nat.le_of_ble_eq_true rfl)⟩ ?_
                    rw [iN_min ⟨by omega, by omega⟩ ⟨by omega, by omega⟩]
                    refine gg_istore_n dX6_search_123 (Nat.le_of_ble_eq_true rfl) rfl ?_
                    refine gi_iinc dX6_search_124 rfl (Nat.le_of_ble_eq_true rfl) rfl ?_
                    refine gg_goto (tgt := 34) dX6_search_127 (by decide) ?_
                    refine gg_drop 4 ?_
                    refine ih_34 _ (by omega) (v + 1) _ _ _ rfl (by omega) (by omega) (frF_u F2 (by decide)) FB2 ⟨a, b, c, d, by rw [uF_n (by decide)]; exact X2.1, by rw [uF_n (by decide)]; exact X2.2.1, by rw [uF_n (by decide)]; exact X2.2.2.1, by rw [uF_n (by decide)]; exact X2.2.2.2.1, X2.2.2.2.2⟩ ?_
                    rw [uF_s]
                    rcases Z with ⟨z1, z2, z3⟩ | ⟨z1, z2, z3⟩ | ⟨z1, z2, z3⟩
                    · exact Or.inr (Or.inl ⟨by omega, by rw [z1, z2, z3], by rw [z1, z3]⟩)
                    · exact Or.inr (Or.inr ⟨by omega, by rw [z1, z2, z3], by rw [z1, z3]⟩)
                    · omega
                  · refine gg_aload_n dX6_search_103 rfl rfl ?_
                    refine gg_iload dX6_search_104 rfl ?_
                    refine gc_X6_71 rfl dX6_search_106 ⟨(Nat.le_of_ble_eq_true rfl), (Nat.le_of_ble_eq_true rfl)⟩ ⟨(Nat.le_of_ble_eq_true rfl), (Nat.le_of_ble_eq_true rfl)⟩ (Nat.le_of_ble_eq_true rfl) (HAt.mu gst_60) (c_X6_stepOver (G := G2) (B := B2) S2 (R9.fr (F2 6 (by decide)) (F2 8 (by decide)) (F2 9 (by decide)) (FB2 51 (by decide)) (FB2 52 (by decide))) X2 (w := w) ⟨by omega, by omega⟩ (fun j j0 j1 => by rw [P1 j j0 j1]; exact ((swF_b hv9 hD w.toNat (by omega)).m (by omega)) j j0 j1) (fun j j0 j1 hn => by rw [P1 j j0 j1] at hn; exact (Int.lt_or_le 0 w).elim (fun z => Or.inl (by omega)) (fun z => Or.inr (swF_0 (D := D) (i := v) (by rw [show w.toNat = 0 by omega] at hn; exact hn))))) (fun _ _ w => w.elim) (fun r_106 h_106 hp => ?_)
                    obtain ⟨B3, rfl, rfl, F3, E3, E4⟩ := hp
                    refine gi_iinc dX6_search_109 rfl (Nat.le_of_ble_eq_true rfl) rfl ?_
                    refine gg_goto (tgt := 91) dX6_search_112 (by decide) ?_
                    obtain ⟨w1, w2, w3, w4, w5, w6⟩ := id X2
                    have fz : ∀ z : Nat, z ≤ 3 → (62 + z) ∈ [61, 62, 63, 64, 65] := fun z hz => by simp; omega
                    have sw := (r3 w (by omega) (by omega)).1
                    have cg := stF_cg (D := D) (i := v) (w := w) sw.1 (n := (fillF (B2 (62 + c)) NOK 40, fillF (B2 (62 + d)) 0 40)) (m := (fun _ => NOK, fun _ => 0)) P1 P2 (fun j j0 j1 => fillF_in ⟨j0, j1⟩) (fun j j0 j1 => fillF_in ⟨j0, j1⟩) 40 (Nat.le_refl _)
                    refine ih_91 _ (by omega) (w + 1) _ _ c d a b rfl (by omega) (frF_u (frF_u (frF_u (frF_u F2 (by decide)) (by decide)) (by decide)) (by decide)) ?_ (S2.fr (by rw [uF_n (by decide), uF_n (by decide), uF_n (by decide), uF_n (by decide)]) (by rw [uF_n (by decide), uF_n (by decide), uF_n (by decide), uF_n (by decide)])) ?_ ?_ ?_ ?_
                    · intro j hj
                      rw [F3 j (fun q => ?_), FB2 j hj]
                      have h1 := fz c (by omega)
                      have h2 := fz d (by omega)
                      simp only [List.mem_cons, List.not_mem_nil, or_false] at q hj h1 h2
                      omega
                    · exact ⟨by rw [uF_n (by decide), uF_n (by decide), uF_n (by decide), uF_s], by rw [uF_n (by decide), uF_s], by rw [uF_n (by decide), uF_n (by decide), uF_s], by rw [uF_s], ⟨by omega, by omega, by omega, by omega⟩, by omega, by omega, by omega, by omega, by omega, by omega⟩
                    · rw [E3, show (w + 1).toNat = w.toNat + 1 by omega, swF, Int.toNat_of_nonneg hw.1]; exact cg.1
                    · rw [E4, show (w + 1).toNat = w.toNat + 1 by omega, swF, Int.toNat_of_nonneg hw.1]; exact cg.2
                    · rw [uF_n (by decide), uF_n (by decide), uF_n (by decide), uF_n (by decide)]; exact f18
              have fz : ∀ z : Nat, z ≤ 3 → (62 + z) ∈ [61, 62, 63, 64, 65] := fun z hz => by simp; omega
              refine L_91 _ 0 _ _ a b c d rfl (by omega) ?_ ?_ S1 ?_ ?_ ?_ ?_
              · exact frF_u (frF_u FG (by decide)) (by decide)
              · exact frA_u (frA_u (frA_u (frA_u (frA_u FB (by decide)) (fz a (by omega))) (fz b (by omega))) (fz a (by omega))) (fz b (by omega))
              · exact ⟨by rw [uF_n (by decide), uF_n (by decide)]; exact y1, by rw [uF_n (by decide), uF_n (by decide)]; exact y2, by rw [uF_n (by decide), uF_n (by decide)]; exact y3, by rw [uF_n (by decide), uF_n (by decide)]; exact y4, y5, y6⟩
              · intro j j0 j1
                rw [uA_n (show 62 + a ≠ 62 + b by omega), uA_s, uA_n (show 62 + a ≠ 62 + b by omega), uA_s, show (0 : Int).toNat = 0 from rfl, swF]
                unfold up
                dsimp only
                by_cases z : j = 0
                · rw [if_pos z, if_pos z]
                · rw [if_neg z, if_neg z]; exact fillF_in ⟨j0, j1⟩
              · intro j j0 j1
                rw [uA_s, uA_n (show 62 + b ≠ 62 + a by omega), uA_s, show (0 : Int).toNat = 0 from rfl, swF]
                unfold up
                dsimp only
                by_cases z : j = 0
                · rw [if_pos z, if_pos z]
                · rw [if_neg z, if_neg z]; exact fillF_in ⟨j0, j1⟩
              · rw [uF_n (by decide), uF_n (by decide)]
            refine gg_aload_n dX6_search_39 rfl rfl ?_
            refine gg_aload_n dX6_search_40 rfl rfl ?_
            refine gg_iload_n dX6_search_41 rfl ?_
            refine gi_iconst dX6_search_42 ?_
            refine gi_icmp_ne (tgt := 50) dX6_search_43 (by decide) ⟨by omega, by omega⟩ ⟨by omega, by omega⟩ (fun c_43 => ?_) (fun c_43 => ?_)
            · refine gi_iconst dX6_search_50 ?_
              refine gg_drop 4 ?_
              exact gg_conv L_51 rfl rfl (by rw [show v = 0 by omega])
            · refine gi_iconst dX6_search_46 ?_
              refine gg_goto (tgt := 51) dX6_search_47 (by decide) ?_
              refine gg_drop 4 ?_
              exact gg_conv L_51 rfl rfl (by rw [c_43])
      refine gg_drop 4 ?_
      refine L_34 _ 0 _ _ B rfl (by omega) (by decide) (frF_u (fun _ _ => rfl) (by decide)) (fun _ _ => rfl) ?_ (Or.inl ⟨rfl, rfl, uF_s⟩)
      obtain ⟨a, b, c, d, y1, y2, y3, y4, y5⟩ := I9
      exact ⟨a, b, c, d, by rw [uF_n (by decide)]; exact y1, by rw [uF_n (by decide)]; exact y2, by rw [uF_n (by decide)]; exact y3, by rw [uF_n (by decide)]; exact y4, y5⟩
    · rw [bi_t] at c_27
      refine gg_iload_n dX6_search_30 rfl ?_
      subst hQF9
      refine gg_iret dX6_search_31 rfl rfl ⟨(Nat.le_of_ble_eq_true rfl), (Nat.le_of_ble_eq_true rfl)⟩ ?_
      have hs : srch D = (NOK, 0) := by unfold srch; rw [c_27, if_pos (by simp)]
      obtain ⟨a, b, c, d, y1, y2, y3, y4, y5⟩ := I9
      exact ⟨_, B, by rw [hs]; rfl, rfl, frF_u (fun _ _ => rfl) (by decide), fun _ _ => rfl, by rw [hs, uF_s], a, b, c, d, by rw [uF_n (by decide)]; exact y1, by rw [uF_n (by decide)]; exact y2, by rw [uF_n (by decide)]; exact y3, by rw [uF_n (by decide)]; exact y4, y5⟩
