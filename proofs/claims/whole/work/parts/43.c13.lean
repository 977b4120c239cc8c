/-! the price of one scan; what is dear in it -/
def zb (z : Int) (w : Nat) : Bool := decide (z / 2 ^ w % 2 = 1)
/-- a scan up to its word w: the sum, -1 for none; the next syllable; whether it is elided with the next word -/
def pzS (D : DT) (i z : Int) : Nat → Int × Int × Bool
  | 0 => (if i = 0 then 0 else 2, 0, false)
  | w + 1 =>
    if (pzS D i z w).1 < 0 then pzS D i z w
    else if wpE D i w (pzS D i z w).2.1 (pzS D i z w).2.2 (zb z w) < 0 then (-1, 0, false)
    else ((pzS D i z w).1 + wpE D i w (pzS D i z w).2.1 (pzS D i z w).2.2 (zb z w) + 2 * bi (zb z w), (pzS D i z w).2.1 + dS D w - bi (zb z w), zb z w)
def pzP (D : DT) (i z : Int) (f : Int → Int) : Nat → Int → Int
  | 0 => f
  | w + 1 => prW D i w (pzS D i z w).2.1 (pzS D i z w).2.2 (zb z w) (pzP D i z f w) (dS D w).toNat
def prE (D : DT) (i z : Int) : Int := if (pzS D i z (dL D).toNat).1 < 0 then -1 else if edP D (pzS D i z (dL D).toNat).2.1 = -1 then -1 else (pzS D i z (dL D).toNat).1 + edP D (pzS D i z (dL D).toNat).2.1
theorem pzS_r {D : DT} {i z : Int} (hD : sOK D) : ∀ w : Nat, (w : Int) ≤ dL D → -1 ≤ (pzS D i z w).1 ∧ (pzS D i z w).1 ≤ 2 + 32 * w ∧ 0 ≤ (pzS D i z w).2.1 ∧ (pzS D i z w).2.1 ≤ 6 * w ∧ (w = 0 → (pzS D i z w).2.1 = 0 ∧ (pzS D i z w).2.2 = false)
  | 0, _ => by rw [pzS]; dsimp only; refine ⟨?_, ?_, by omega, by omega, fun _ => ⟨rfl, rfl⟩⟩ <;> split <;> omega
  | w + 1, hw => by
    have ih := pzS_r (i := i) (z := z) hD w (by omega)
    have hs := hD.2 w (by omega) (by omega)
    have hb := bi_01 (zb z w)
    have hp := wpE_r (D := D) (i := i) (w := w) (st := (pzS D i z w).2.1) (x := (pzS D i z w).2.2) (y := zb z w) hs
    rw [pzS]
    split
    · omega
    · split
      · dsimp only; omega
      · dsimp only; omega
theorem pzS_f {D : DT} {i z : Int} : ∀ {k n : Nat}, k ≤ n → (pzS D i z k).1 < 0 → (pzS D i z n).1 < 0
  | k, 0, hk, hq => by rw [show k = 0 by omega] at hq; exact hq
  | k, n + 1, hk, hq => by
    by_cases w : k = n + 1
    · rw [← w]; exact hq
    · have := pzS_f (show k ≤ n by omega) hq
      rw [pzS, if_pos this]; exact this
set_option maxRecDepth 100000 in
set_option maxHeartbeats 4000000 in
theorem c_X6_priceOf {Γ : GT} {h : XH} {G : Nat → Int} {B : Nat → Int → Int} {q1 : Nat} {D : DT} (M1 : MtAt h.2 q1 (dK D) (dF D) (dZ D)) (R9 : RdD G B D) {z i : Int} (hz : 0 ≤ z ∧ z ≤ 4095) (hi : i = 0 ∨ i = 1) : Ct Γ M_X6_priceOf [.ref (g_L Γ 60), .ref q1, .int (iN z), .int (iN i)] (gst Γ h G B) (fun r h9 => ∃ B' : Nat → Int → Int, r = some (.int (iN (prE D i z))) ∧ h9 = gst Γ h (uF (uF G 16 (q1 : Int)) 17 (plN (fun p => strK (dK D) p i) (dF D * szk (dK D)).toNat : Nat)) B' ∧ frA [61] B B' ∧ (0 ≤ prE D i z → B' 61 = pzP D i z (fillF (B 61) 0 19) (dL D).toNat)) (fun _ _ => False) := by
  refine Ct.of rfl (by decide +kernel) (Nat.le_of_ble_eq_true rfl) ?_
  generalize hQF9 : QM Γ _ _ _ = QF9
  obtain ⟨r1, r2, r3, r4, r5, r6⟩ := id R9
  have hD : sOK D := ⟨r1.2, fun w w0 w1 => (r3 w w0 w1).1⟩
  have S9 : ScM h.2 (uF (uF G 16 (q1 : Int)) 17 (plN (fun p => strK (dK D) p i) (dF D * szk (dK D)).toNat : Nat)) D i := ⟨q1, by rw [uF_n (by decide), uF_s], M1, hi, uF_s⟩
  refine gg_aload_n dX6_priceOf_0 rfl rfl ?_
  refine gg_aload_n dX6_priceOf_1 rfl rfl ?_
  refine gg_iload_n dX6_priceOf_2 rfl ?_
  refine gc_X6_57 rfl dX6_priceOf_3 ⟨(Nat.le_of_ble_eq_true rfl), (Nat.le_of_ble_eq_true rfl)⟩ ⟨(Nat.le_of_ble_eq_true rfl), (Nat.le_of_ble_eq_true rfl)⟩ (Nat.le_of_ble_eq_true rfl) (HAt.mu gst_60) (c_X6_begin (G := G) (B := B) M1 hi) (fun _ _ w => w.elim) (fun r_3 h_3 hp => ?_)
  obtain ⟨rfl, rfl⟩ := hp
  refine gg_iload_n dX6_priceOf_6 rfl ?_
  refine gi_if_eq (tgt := 14) dX6_priceOf_7 (by decide) ⟨by omega, by omega⟩ (fun c_7 => ?_) (fun c_7 => ?_)
  · refine gi_iconst dX6_priceOf_14 ?_
    have L_15 : GG Γ M_X6_priceOf QF9 (0, 0) (gst Γ h (uF (uF G 16 (q1 : Int)) 17 (plN (fun p => strK (dK D) p i) (dF D * szk (dK D)).toNat : Nat)) (uA B 61 (fillF (B 61) 0 19))) 15 [some (.ref (g_L Γ 60)), some (.ref q1), some (.int (iN z)), some (.int (iN i)), none, none, none, none, none, none] [.int (iN (if i = 0 then 0 else 2))] := by
      refine gg_istore dX6_priceOf_15 (Nat.le_of_ble_eq_true rfl) rfl ?_
      refine gi_iconst dX6_priceOf_17 ?_
      refine gg_istore dX6_priceOf_18 (Nat.le_of_ble_eq_true rfl) rfl ?_
      refine gi_iconst dX6_priceOf_20 ?_
      refine gg_istore dX6_priceOf_21 (Nat.le_of_ble_eq_true rfl) rfl ?_
      refine gi_iconst dX6_priceOf_23 ?_
      refine gg_istore dX6_priceOf_24 (Nat.le_of_ble_eq_true rfl) rfl ?_
      have L_26 : ∀ (n9 : Nat) (w : Int) (B' : Nat → Int → Int), ((dL D - w).toNat) = n9 → ∀ (hw : 0 ≤ w ∧ w ≤ dL D) (FB : frA [61] B B') (E : 0 ≤ (pzS D i z w.toNat).1) (EP : B' 61 = pzP D i z (fillF (B 61) 0 19) w.toNat), GG Γ M_X6_priceOf QF9 (0, 0) (gst Γ h (uF (uF G 16 (q1 : Int)) 17 (plN (fun p => strK (dK D) p i) (dF D * szk (dK D)).toNat : Nat)) B') 26 [some (.ref (g_L Γ 60)), some (.ref q1), some (.int (iN z)), some (.int (iN i)), some (.int (iN (pzS D i z w.toNat).1)), some (.int (iN (pzS D i z w.toNat).2.1)), some (.int (iN (bi (pzS D i z w.toNat).2.2))), some (.int (iN w)), none, none] [] := by
        intro n9
        induction n9 using Nat.strongRecOn with
        | ind n9 ih_26 => 
          intro w B' hm9 hw FB E EP
          have pr := pzS_r (i := i) (z := z) hD w.toNat (by omega)
          refine gg_iload dX6_priceOf_26 rfl ?_
          refine gg_aload_n dX6_priceOf_28 rfl rfl ?_
          refine gk_getX6_43 rfl dX6_priceOf_29 ?_
          refine gk_getX6_68 rfl dX6_priceOf_32 ((uF_n (by decide)).trans ((uF_n (by decide)).trans r2)) ?_
          refine gi_icmp_ge (tgt := 139) dX6_priceOf_35 (by decide) ⟨by omega, by omega⟩ ⟨by omega, by omega⟩ (fun c_35 => ?_) (fun c_35 => ?_)
          · refine gg_aload_n dX6_priceOf_139 rfl rfl ?_
            refine gg_iload dX6_priceOf_140 rfl ?_
            refine gc_X6_106 rfl dX6_priceOf_142 ⟨(Nat.le_of_ble_eq_true rfl), (Nat.le_of_ble_eq_true rfl)⟩ ⟨(Nat.le_of_ble_eq_true rfl), (Nat.le_of_ble_eq_true rfl)⟩ (Nat.le_of_ble_eq_true rfl) (HAt.mu gst_60) (c_X6_endPrice S9 (n := (pzS D i z w.toNat).2.1) ⟨by omega, by omega⟩) (fun _ _ w => w.elim) (fun r_142 h_142 hp => ?_)
            obtain ⟨rfl, rfl⟩ := hp
            have er := edP_r D (pzS D i z w.toNat).2.1
            refine gg_istore dX6_priceOf_145 (Nat.le_of_ble_eq_true rfl) rfl ?_
            refine gg_iload dX6_priceOf_147 rfl ?_
            refine gi_iconst dX6_priceOf_149 ?_
            refine gi_icmp_ne (tgt := 157) dX6_priceOf_150 (by decide) ⟨by omega, by omega⟩ ⟨by omega, by omega⟩ (fun c_150 => ?_) (fun c_150 => ?_)
            · refine gg_iload dX6_priceOf_157 rfl ?_
              refine gg_iload dX6_priceOf_159 rfl ?_
              refine gi_iadd dX6_priceOf_161 ?_
              subst hQF9
              refine gg_iret dX6_priceOf_162 rfl rfl ⟨(Nat.le_of_ble_eq_true rfl), (Nat.le_of_ble_eq_true rfl)⟩ ?_
              have wl : w.toNat = (dL D).toNat := by omega
              rw [wl] at EP c_150 E
              rw [wl]
              have hp1 : prE D i z = (pzS D i z (dL D).toNat).1 + edP D (pzS D i z (dL D).toNat).2.1 := by unfold prE; rw [if_neg (by omega), if_neg c_150]
              exact ⟨B', by rw [hp1], rfl, FB, fun _ => EP⟩
            · refine gi_iconst dX6_priceOf_153 ?_
              refine gg_goto (tgt := 162) dX6_priceOf_154 (by decide) ?_
              subst hQF9
              refine gg_iret dX6_priceOf_162 rfl rfl ⟨(Nat.le_of_ble_eq_true rfl), (Nat.le_of_ble_eq_true rfl)⟩ ?_
              have wl : w.toNat = (dL D).toNat := by omega
              rw [wl] at EP c_150 E
              have hp1 : prE D i z = -1 := by unfold prE; rw [if_neg (by omega), if_pos c_150]
              exact ⟨B', by rw [hp1], rfl, FB, fun q => by omega⟩
          · have L_53 : GG Γ M_X6_priceOf QF9 (0, 0) (gst Γ h (uF (uF G 16 (q1 : Int)) 17 (plN (fun p => strK (dK D) p i) (dF D * szk (dK D)).toNat : Nat)) B') 53 [some (.ref (g_L Γ 60)), some (.ref q1), some (.int (iN z)), some (.int (iN i)), some (.int (iN (pzS D i z w.toNat).1)), some (.int (iN (pzS D i z w.toNat).2.1)), some (.int (iN (bi (pzS D i z w.toNat).2.2))), some (.int (iN w)), none, none] [.int (iN (bi (zb z w.toNat)))] := by
              have bz := bi_01 (zb z w.toNat)
              have sr := (r3 w (by omega) (by omega)).1
              refine gg_istore dX6_priceOf_53 (Nat.le_of_ble_eq_true rfl) rfl ?_
              refine gg_aload_n dX6_priceOf_55 rfl rfl ?_
              refine gg_iload dX6_priceOf_56 rfl ?_
              refine gg_iload dX6_priceOf_58 rfl ?_
              refine gg_iload dX6_priceOf_60 rfl ?_
              refine gg_iload dX6_priceOf_62 rfl ?_
              refine gc_X6_89 rfl dX6_priceOf_64 ⟨(Nat.le_of_ble_eq_true rfl), (Nat.le_of_ble_eq_true rfl)⟩ ⟨(Nat.le_of_ble_eq_true rfl), (Nat.le_of_ble_eq_true rfl)⟩ (Nat.le_of_ble_eq_true rfl) (HAt.mu gst_60) (c_X6_wordPrice (B := B') S9 (R9.fr (G' := (uF (uF G 16 (q1 : Int)) 17 (plN (fun p => strK (dK D) p i) (dF D * szk (dK D)).toNat : Nat))) (uF_n (by decide)) (uF_n (by decide)) (uF_n (by decide)) (FB 51 (by decide)) (FB 52 (by decide))) (w := w) (st := (pzS D i z w.toNat).2.1) (x := (pzS D i z w.toNat).2.2) (y := (zb z w.toNat)) ⟨by omega, by omega⟩ ⟨by omega, by omega⟩ (fun q => by rcases Int.lt_or_le 0 w with z1 | z1; exact z1; exact absurd (pr.2.2.2.2 (by omega)).1 (by omega)) (fun q => by rcases Int.lt_or_le 0 w with z1 | z1; exact z1; exact absurd (pr.2.2.2.2 (by omega)).2 (by rw [q]; decide))) (fun _ _ w => w.elim) (fun r_64 h_64 hp => ?_)
              obtain ⟨B3, rfl, rfl, F61, P61⟩ := hp
              have F3 : frA [61] B B3 := fun j hj => by rw [F61 j hj, FB j hj]
              have wr := wpE_r (D := D) (i := i) (w := w) (st := (pzS D i z w.toNat).2.1) (x := (pzS D i z w.toNat).2.2) (y := (zb z w.toNat)) sr
              refine gg_istore dX6_priceOf_67 (Nat.le_of_ble_eq_true rfl) rfl ?_
              refine gg_iload dX6_priceOf_69 rfl ?_
              refine gi_iconst dX6_priceOf_71 ?_
              refine gi_icmp_ne (tgt := 77) dX6_priceOf_72 (by decide) ⟨by omega, by omega⟩ ⟨by omega, by omega⟩ (fun c_72 => ?_) (fun c_72 => ?_)
              · refine gg_iload dX6_priceOf_77 rfl ?_
                refine gg_iload dX6_priceOf_79 rfl ?_
                refine gi_if_eq (tgt := 91) dX6_priceOf_81 (by decide) (bi_r _) (fun c_81 => ?_) (fun c_81 => ?_)
                · rw [bi_f] at c_81
                  refine gg_iload dX6_priceOf_91 rfl ?_
                  refine gi_iadd dX6_priceOf_93 ?_
                  refine gg_istore dX6_priceOf_94 (Nat.le_of_ble_eq_true rfl) rfl ?_
                  refine gg_iload dX6_priceOf_96 rfl ?_
                  refine gg_iload dX6_priceOf_98 rfl ?_
                  refine gi_if_eq (tgt := 117) dX6_priceOf_100 (by decide) (bi_r _) (fun c_100 => ?_) (fun c_100 => ?_)
                  · rw [bi_f] at c_100
                    refine gg_aload_n dX6_priceOf_117 rfl rfl ?_
                    refine gk_getX6_43 rfl dX6_priceOf_118 ?_
                    refine gg_iload dX6_priceOf_121 rfl ?_
                    refine gc_X6_101 rfl dX6_priceOf_123 ⟨(Nat.le_of_ble_eq_true rfl), (Nat.le_of_ble_eq_true rfl)⟩ ⟨(Nat.le_of_ble_eq_true rfl), (Nat.le_of_ble_eq_true rfl)⟩ (Nat.le_of_ble_eq_true rfl) (HAt.mu gst_50) (c_X5_countOf (B := B3) (R9.fr (G' := (uF (uF G 16 (q1 : Int)) 17 (plN (fun p => strK (dK D) p i) (dF D * szk (dK D)).toNat : Nat))) (uF_n (by decide)) (uF_n (by decide)) (uF_n (by decide)) (F3 51 (by decide)) (F3 52 (by decide))) (w := w) ⟨by omega, by omega⟩) (fun _ _ w => w.elim) (fun r_123 h_123 hp => ?_)
                    obtain ⟨rfl, rfl⟩ := hp
                    refine gi_iadd dX6_priceOf_126 ?_
                    refine gg_istore dX6_priceOf_127 (Nat.le_of_ble_eq_true rfl) rfl ?_
                    refine gg_iload dX6_priceOf_129 rfl ?_
                    refine gg_istore dX6_priceOf_131 (Nat.le_of_ble_eq_true rfl) rfl ?_
                    refine gi_iinc dX6_priceOf_133 rfl (Nat.le_of_ble_eq_true rfl) rfl ?_
                    refine gg_goto (tgt := 26) dX6_priceOf_136 (by decide) ?_
                    refine gg_drop 8 ?_
                    refine gg_drop 9 ?_
                    have ew : (w + 1).toNat = w.toNat + 1 := by omega
                    have es : pzS D i z (w + 1).toNat = ((pzS D i z w.toNat).1 + wpE D i w (pzS D i z w.toNat).2.1 (pzS D i z w.toNat).2.2 (zb z w.toNat) + 2 * bi (zb z w.toNat), (pzS D i z w.toNat).2.1 + dS D w - bi (zb z w.toNat), (zb z w.toNat)) := by
                      rw [ew, pzS, Int.toNat_of_nonneg hw.1, if_neg (by omega), if_neg (by omega)]
                    refine gg_conv (ih_26 _ (by omega) (w + 1) _ rfl (by omega) F3 (by rw [es]; dsimp only; omega) ?_) rfl ?_ rfl
                    · rw [P61 (by omega), ew, pzP, Int.toNat_of_nonneg hw.1, EP]
                    · rw [es, c_81]; simp [lset, bi, Int.add_assoc]
                  · rw [c_81] at c_100
                    exact absurd c_100 (by decide)
                · rw [bi_t] at c_81
                  refine gg_iload dX6_priceOf_84 rfl ?_
                  refine gi_iconst dX6_priceOf_86 ?_
                  refine gi_iadd dX6_priceOf_87 ?_
                  refine gg_goto (tgt := 93) dX6_priceOf_88 (by decide) ?_
                  refine gi_iadd dX6_priceOf_93 ?_
                  refine gg_istore dX6_priceOf_94 (Nat.le_of_ble_eq_true rfl) rfl ?_
                  refine gg_iload dX6_priceOf_96 rfl ?_
                  refine gg_iload dX6_priceOf_98 rfl ?_
                  refine gi_if_eq (tgt := 117) dX6_priceOf_100 (by decide) (bi_r _) (fun c_100 => ?_) (fun c_100 => ?_)
                  · rw [c_81] at c_100
                    exact absurd c_100 (by decide)
                  · rw [bi_t] at c_100
                    refine gg_aload_n dX6_priceOf_103 rfl rfl ?_
                    refine gk_getX6_43 rfl dX6_priceOf_104 ?_
                    refine gg_iload dX6_priceOf_107 rfl ?_
                    refine gc_X6_101 rfl dX6_priceOf_109 ⟨(Nat.le_of_ble_eq_true rfl), (Nat.le_of_ble_eq_true rfl)⟩ ⟨(Nat.le_of_ble_eq_true rfl), (Nat.le_of_ble_eq_true rfl)⟩ (Nat.le_of_ble_eq_true rfl) (HAt.mu gst_50) (c_X5_countOf (B := B3) (R9.fr (G' := (uF (uF G 16 (q1 : Int)) 17 (plN (fun p => strK (dK D) p i) (dF D * szk (dK D)).toNat : Nat))) (uF_n (by decide)) (uF_n (by decide)) (uF_n (by decide)) (F3 51 (by decide)) (F3 52 (by decide))) (w := w) ⟨by omega, by omega⟩) (fun _ _ w => w.elim) (fun r_109 h_109 hp => ?_)
                    obtain ⟨rfl, rfl⟩ := hp
                    refine gi_iconst dX6_priceOf_112 ?_
                    refine gi_isub dX6_priceOf_113 ?_
                    refine gg_goto (tgt := 126) dX6_priceOf_114 (by decide) ?_
                    refine gi_iadd dX6_priceOf_126 ?_
                    refine gg_istore dX6_priceOf_127 (Nat.le_of_ble_eq_true rfl) rfl ?_
                    refine gg_iload dX6_priceOf_129 rfl ?_
                    refine gg_istore dX6_priceOf_131 (Nat.le_of_ble_eq_true rfl) rfl ?_
                    refine gi_iinc dX6_priceOf_133 rfl (Nat.le_of_ble_eq_true rfl) rfl ?_
                    refine gg_goto (tgt := 26) dX6_priceOf_136 (by decide) ?_
                    refine gg_drop 8 ?_
                    refine gg_drop 9 ?_
                    have ew : (w + 1).toNat = w.toNat + 1 := by omega
                    have es : pzS D i z (w + 1).toNat = ((pzS D i z w.toNat).1 + wpE D i w (pzS D i z w.toNat).2.1 (pzS D i z w.toNat).2.2 (zb z w.toNat) + 2 * bi (zb z w.toNat), (pzS D i z w.toNat).2.1 + dS D w - bi (zb z w.toNat), (zb z w.toNat)) := by
                      rw [ew, pzS, Int.toNat_of_nonneg hw.1, if_neg (by omega), if_neg (by omega)]
                    refine gg_conv (ih_26 _ (by omega) (w + 1) _ rfl (by omega) F3 (by rw [es]; dsimp only; omega) ?_) rfl ?_ rfl
                    · rw [P61 (by omega), ew, pzP, Int.toNat_of_nonneg hw.1, EP]
                    · rw [es, c_81]; simp [lset, bi, Int.add_sub_assoc, Int.add_assoc]
              · refine gi_iconst dX6_priceOf_75 ?_
                subst hQF9
                refine gg_iret dX6_priceOf_76 rfl rfl ⟨(Nat.le_of_ble_eq_true rfl), (Nat.le_of_ble_eq_true rfl)⟩ ?_
                have ew : (w + 1).toNat = w.toNat + 1 := by omega
                have hf : (pzS D i z (w + 1).toNat).1 < 0 := by
                  rw [ew, pzS, Int.toNat_of_nonneg hw.1, if_neg (by omega), if_pos (by omega)]; decide
                have hg := pzS_f (show (w + 1).toNat ≤ (dL D).toNat by omega) hf
                have hp1 : prE D i z = -1 := by unfold prE; rw [if_pos hg]
                refine ⟨_, by rw [hp1], rfl, F3, fun q => by omega⟩
            refine gg_iload_n dX6_priceOf_38 rfl ?_
            refine gg_iload dX6_priceOf_39 rfl ?_
            refine gi_ishr _ (bt_shr ⟨by omega, by omega⟩ ⟨by omega, by omega⟩) dX6_priceOf_41 ?_
            refine gi_iconst dX6_priceOf_42 ?_
            refine gi_iand _ (bt_a1 (Int.ediv_nonneg (by omega) (Int.le_of_lt (Int.pow_pos (by omega))))) dX6_priceOf_43 ?_
            refine gi_iconst dX6_priceOf_44 ?_
            refine gi_icmp_ne (tgt := 52) dX6_priceOf_45 (by decide) ⟨by omega, by omega⟩ ⟨by omega, by omega⟩ (fun c_45 => ?_) (fun c_45 => ?_)
            · refine gi_iconst dX6_priceOf_52 ?_
              refine gg_drop 8 ?_
              refine gg_drop 9 ?_
              exact gg_conv L_53 rfl rfl (by unfold zb; rw [decide_eq_false c_45]; rfl)
            · refine gi_iconst dX6_priceOf_48 ?_
              refine gg_goto (tgt := 53) dX6_priceOf_49 (by decide) ?_
              refine gg_drop 8 ?_
              refine gg_drop 9 ?_
              exact gg_conv L_53 rfl rfl (by unfold zb; rw [decide_eq_true c_45]; rfl)
      refine gg_drop 8 ?_
      refine gg_drop 9 ?_
      refine gg_conv (L_26 _ 0 _ rfl (by omega) (frA_u (fun _ _ => rfl) (by decide)) (by rw [show (0 : Int).toNat = 0 from rfl, pzS]; dsimp only; split <;> omega) (by rw [uA_s]; rfl)) rfl (by rw [show (0 : Int).toNat = 0 from rfl, pzS]; rfl) rfl
    refine gg_drop 4 ?_
    refine gg_drop 5 ?_
    refine gg_drop 6 ?_
    refine gg_drop 7 ?_
    refine gg_drop 8 ?_
    refine gg_drop 9 ?_
    exact gg_conv L_15 rfl rfl (by rw [if_pos c_7]; rfl)
  · refine gi_iconst dX6_priceOf_10 ?_
    refine gg_goto (tgt := 15) dX6_priceOf_11 (by decide) ?_
    have L_15 : GG Γ M_X6_priceOf QF9 (0, 0) (gst Γ h (uF (uF G 16 (q1 : Int)) 17 (plN (fun p => strK (dK D) p i) (dF D * szk (dK D)).toNat : Nat)) (uA B 61 (fillF (B 61) 0 19))) 15 [some (.ref (g_L Γ 60)), some (.ref q1), some (.int (iN z)), some (.int (iN i)), none, none, none, none, none, none] [.int (iN (if i = 0 then 0 else 2))] := by
      refine gg_istore dX6_priceOf_15 (Nat.le_of_ble_eq_true rfl) rfl ?_
      refine gi_iconst dX6_priceOf_17 ?_
      refine gg_istore dX6_priceOf_18 (Nat.le_of_ble_eq_true rfl) rfl ?_
      refine gi_iconst dX6_priceOf_20 ?_
      refine gg_istore dX6_priceOf_21 (Nat.le_of_ble_eq_true rfl) rfl ?_
      refine gi_iconst dX6_priceOf_23 ?_
      refine gg_istore dX6_priceOf_24 (Nat.le_of_ble_eq_true rfl) rfl ?_
      have L_26 : ∀ (n9 : Nat) (w : Int) (B' : Nat → Int → Int), ((dL D - w).toNat) = n9 → ∀ (hw : 0 ≤ w ∧ w ≤ dL D) (FB : frA [61] B B') (E : 0 ≤ (pzS D i z w.toNat).1) (EP : B' 61 = pzP D i z (fillF (B 61) 0 19) w.toNat), GG Γ M_X6_priceOf QF9 (0, 0) (gst Γ h (uF (uF G 16 (q1 : Int)) 17 (plN (fun p => strK (dK D) p i) (dF D * szk (dK D)).toNat : Nat)) B') 26 [some (.ref (g_L Γ 60)), some (.ref q1), some (.int (iN z)), some (.int (iN i)), some (.int (iN (pzS D i z w.toNat).1)), some (.int (iN (pzS D i z w.toNat).2.1)), some (.int (iN (bi (pzS D i z w.toNat).2.2))), some (.int (iN w)), none, none] [] := by
        intro n9
        induction n9 using Nat.strongRecOn with
        | ind n9 ih_26 => 
          intro w B' hm9 hw FB E EP
          have pr := pzS_r (i := i) (z := z) hD w.toNat (by omega)
          refine gg_iload dX6_priceOf_26 rfl ?_
          refine gg_aload_n dX6_priceOf_28 rfl rfl ?_
          refine gk_getX6_43 rfl dX6_priceOf_29 ?_
          refine gk_getX6_68 rfl dX6_priceOf_32 ((uF_n (by decide)).trans ((uF_n (by decide)).trans r2)) ?_
          refine gi_icmp_ge (tgt := 139) dX6_priceOf_35 (by decide) ⟨by omega, by omega⟩ ⟨by omega, by omega⟩ (fun c_35 => ?_) (fun c_35 => ?_)
          · refine gg_aload_n dX6_priceOf_139 rfl rfl ?_
            refine gg_iload dX6_priceOf_140 rfl ?_
            refine gc_X6_106 rfl dX6_priceOf_142 ⟨(Nat.le_of_ble_eq_true rfl), (Nat.le_of_ble_eq_true rfl)⟩ ⟨(Nat.le_of_ble_eq_true rfl), (Nat.le_of_ble_eq_true rfl)⟩ (Nat.le_of_ble_eq_true rfl) (HAt.mu gst_60) (c_X6_endPrice S9 (n := (pzS D i z w.toNat).2.1) ⟨by omega, by omega⟩) (fun _ _ w => w.elim) (fun r_142 h_142 hp => ?_)
            obtain ⟨rfl, rfl⟩ := hp
            have er := edP_r D (pzS D i z w.toNat).2.1
            refine gg_istore dX6_priceOf_145 (Nat.le_of_ble_eq_true rfl) rfl ?_
            refine gg_iload dX6_priceOf_147 rfl ?_
            refine gi_iconst dX6_priceOf_149 ?_
            refine gi_icmp_ne (tgt := 157) dX6_priceOf_150 (by decide) ⟨by omega, by omega⟩ ⟨by omega, by omega⟩ (fun c_150 => ?_) (fun c_150 => ?_)
            · refine gg_iload dX6_priceOf_157 rfl ?_
              refine gg_iload dX6_priceOf_159 rfl ?_
              refine gi_iadd dX6_priceOf_161 ?_
              subst hQF9
              refine gg_iret dX6_priceOf_162 rfl rfl ⟨(Nat.le_of_ble_eq_true rfl), (Nat.le_of_ble_eq_true rfl)⟩ ?_
              have wl : w.toNat = (dL D).toNat := by omega
              rw [wl] at EP c_150 E
              rw [wl]
              have hp1 : prE D i z = (pzS D i z (dL D).toNat).1 + edP D (pzS D i z (dL D).toNat).2.1 := by unfold prE; rw [if_neg (by omega), if_neg c_150]
              exact ⟨B', by rw [hp1], rfl, FB, fun _ => EP⟩
            · refine gi_iconst dX6_priceOf_153 ?_
              refine gg_goto (tgt := 162) dX6_priceOf_154 (by decide) ?_
              subst hQF9
              refine gg_iret dX6_priceOf_162 rfl rfl ⟨(Nat.le_of_ble_eq_true rfl), (Nat.le_of_ble_eq_true rfl)⟩ ?_
              have wl : w.toNat = (dL D).toNat := by omega
              rw [wl] at EP c_150 E
              have hp1 : prE D i z = -1 := by unfold prE; rw [if_neg (by omega), if_pos c_150]
              exact ⟨B', by rw [hp1], rfl, FB, fun q => by omega⟩
          · have L_53 : GG Γ M_X6_priceOf QF9 (0, 0) (gst Γ h (uF (uF G 16 (q1 : Int)) 17 (plN (fun p => strK (dK D) p i) (dF D * szk (dK D)).toNat : Nat)) B') 53 [some (.ref (g_L Γ 60)), some (.ref q1), some (.int (iN z)), some (.int (iN i)), some (.int (iN (pzS D i z w.toNat).1)), some (.int (iN (pzS D i z w.toNat).2.1)), some (.int (iN (bi (pzS D i z w.toNat).2.2))), some (.int (iN w)), none, none] [.int (iN (bi (zb z w.toNat)))] := by
              have bz := bi_01 (zb z w.toNat)
              have sr := (r3 w (by omega) (by omega)).1
              refine gg_istore dX6_priceOf_53 (Nat.le_of_ble_eq_true rfl) rfl ?_
              refine gg_aload_n dX6_priceOf_55 rfl rfl ?_
              refine gg_iload dX6_priceOf_56 rfl ?_
              refine gg_iload dX6_priceOf_58 rfl ?_
              refine gg_iload dX6_priceOf_60 rfl ?_
              refine gg_iload dX6_priceOf_62 rfl ?_
              refine gc_X6_89 rfl dX6_priceOf_64 ⟨(Nat.le_of_ble_eq_true rfl), (Nat.le_of_ble_eq_true rfl)⟩ ⟨(Nat.le_of_ble_eq_true rfl), (Nat.le_of_ble_eq_true rfl)⟩ (Nat.le_of_ble_eq_true rfl) (HAt.mu gst_60) (c_X6_wordPrice (B := B') S9 (R9.fr (G' := (uF (uF G 16 (q1 : Int)) 17 (plN (fun p => strK (dK D) p i) (dF D * szk (dK D)).toNat : Nat))) (uF_n (by decide)) (uF_n (by decide)) (uF_n (by decide)) (FB 51 (by decide)) (FB 52 (by decide))) (w := w) (st := (pzS D i z w.toNat).2.1) (x := (pzS D i z w.toNat).2.2) (y := (zb z w.toNat)) ⟨by omega, by omega⟩ ⟨by omega, by omega⟩ (fun q => by rcases Int.lt_or_le 0 w with z1 | z1; exact z1; exact absurd (pr.2.2.2.2 (by omega)).1 (by omega)) (fun q => by rcases Int.lt_or_le 0 w with z1 | z1; exact z1; exact absurd (pr.2.2.2.2 (by omega)).2 (by rw [q]; decide))) (fun _ _ w => w.elim) (fun r_64 h_64 hp => ?_)
              obtain ⟨B3, rfl, rfl, F61, P61⟩ := hp
              have F3 : frA [61] B B3 := fun j hj => by rw [F61 j hj, FB j hj]
              have wr := wpE_r (D := D) (i := i) (w := w) (st := (pzS D i z w.toNat).2.1) (x := (pzS D i z w.toNat).2.2) (y := (zb z w.toNat)) sr
              refine gg_istore dX6_priceOf_67 (Nat.le_of_ble_eq_true rfl) rfl ?_
              refine gg_iload dX6_priceOf_69 rfl ?_
              refine gi_iconst dX6_priceOf_71 ?_
              refine gi_icmp_ne (tgt := 77) dX6_priceOf_72 (by decide) ⟨by omega, by omega⟩ ⟨by omega, by omega⟩ (fun c_72 => ?_) (fun c_72 => ?_)
              · refine gg_iload dX6_priceOf_77 rfl ?_
                refine gg_iload dX6_priceOf_79 rfl ?_
                refine gi_if_eq (tgt := 91) dX6_priceOf_81 (by decide) (bi_r _) (fun c_81 => ?_) (fun c_81 => ?_)
                · rw [bi_f] at c_81
                  refine gg_iload dX6_priceOf_91 rfl ?_
                  refine gi_iadd dX6_priceOf_93 ?_
                  refine gg_istore dX6_priceOf_94 (Nat.le_of_ble_eq_true rfl) rfl ?_
                  refine gg_iload dX6_priceOf_96 rfl ?_
                  refine gg_iload dX6_priceOf_98 rfl ?_
                  refine gi_if_eq (tgt := 117) dX6_priceOf_100 (by decide) (bi_r _) (fun c_100 => ?_) (fun c_100 => ?_)
                  · rw [bi_f] at c_100
                    refine gg_aload_n dX6_priceOf_117 rfl rfl ?_
                    refine gk_getX6_43 rfl dX6_priceOf_118 ?_
                    refine gg_iload dX6_priceOf_121 rfl ?_
                    refine gc_X6_101 rfl dX6_priceOf_123 ⟨(Nat.le_of_ble_eq_true rfl), (Nat.le_of_ble_eq_true rfl)⟩ ⟨(Nat.le_of_ble_eq_true rfl), (Nat.le_of_ble_eq_true rfl)⟩ (Nat.le_of_ble_eq_true rfl) (HAt.mu gst_50) (c_X5_countOf (B := B3) (R9.fr (G' := (uF (uF G 16 (q1 : Int)) 17 (plN (fun p => strK (dK D) p i) (dF D * szk (dK D)).toNat : Nat))) (uF_n (by decide)) (uF_n (by decide)) (uF_n (by decide)) (F3 51 (by decide)) (F3 52 (by decide))) (w := w) ⟨by omega, by omega⟩) (fun _ _ w => w.elim) (fun r_123 h_123 hp => ?_)
                    obtain ⟨rfl, rfl⟩ := hp
                    refine gi_iadd dX6_priceOf_126 ?_
                    refine gg_istore dX6_priceOf_127 (Nat.le_of_ble_eq_true rfl) rfl ?_
                    refine gg_iload dX6_priceOf_129 rfl ?_
                    refine gg_istore dX6_priceOf_131 (Nat.le_of_ble_eq_true rfl) rfl ?_
                    refine gi_iinc dX6_priceOf_133 rfl (Nat.le_of_ble_eq_true rfl) rfl ?_
                    refine gg_goto (tgt := 26) dX6_priceOf_136 (by decide) ?_
                    refine gg_drop 8 ?_
                    refine gg_drop 9 ?_
                    have ew : (w + 1).toNat = w.toNat + 1 := by omega
                    have es : pzS D i z (w + 1).toNat = ((pzS D i z w.toNat).1 + wpE D i w (pzS D i z w.toNat).2.1 (pzS D i z w.toNat).2.2 (zb z w.toNat) + 2 * bi (zb z w.toNat), (pzS D i z w.toNat).2.1 + dS D w - bi (zb z w.toNat), (zb z w.toNat)) := by
                      rw [ew, pzS, Int.toNat_of_nonneg hw.1, if_neg (by omega), if_neg (by omega)]
                    refine gg_conv (ih_26 _ (by omega) (w + 1) _ rfl (by omega) F3 (by rw [es]; dsimp only; omega) ?_) rfl ?_ rfl
                    · rw [P61 (by omega), ew, pzP, Int.toNat_of_nonneg hw.1, EP]
                    · rw [es, c_81]; simp [lset, bi, Int.add_assoc]
                  · rw [c_81] at c_100
                    exact absurd c_100 (by decide)
                · rw [bi_t] at c_81
                  refine gg_iload dX6_priceOf_84 rfl ?_
                  refine gi_iconst dX6_priceOf_86 ?_
                  refine gi_iadd dX6_priceOf_87 ?_
                  refine gg_goto (tgt := 93) dX6_priceOf_88 (by decide) ?_
                  refine gi_iadd dX6_priceOf_93 ?_
                  refine gg_istore dX6_priceOf_94 (Nat.le_of_ble_eq_true rfl) rfl ?_
                  refine gg_iload dX6_priceOf_96 rfl ?_
                  refine gg_iload dX6_priceOf_98 rfl ?_
                  refine gi_if_eq (tgt := 117) dX6_priceOf_100 (by decide) (bi_r _) (fun c_100 => ?_) (fun c_100 => ?_)
                  · rw [c_81] at c_100
                    exact absurd c_100 (by decide)
                  · rw [bi_t] at c_100
                    refine gg_aload_n dX6_priceOf_103 rfl rfl ?_
                    refine gk_getX6_43 rfl dX6_priceOf_104 ?_
                    refine gg_iload dX6_priceOf_107 rfl ?_
                    refine gc_X6_101 rfl dX6_priceOf_109 ⟨(Nat.le_of_ble_eq_true rfl), (Nat.le_of_ble_eq_true rfl)⟩ ⟨(Nat.le_of_ble_eq_true rfl), (Nat.le_of_ble_eq_true rfl)⟩ (Nat.le_of_ble_eq_true rfl) (HAt.mu gst_50) (c_X5_countOf (B := B3) (R9.fr (G' := (uF (uF G 16 (q1 : Int)) 17 (plN (fun p => strK (dK D) p i) (dF D * szk (dK D)).toNat : Nat))) (uF_n (by decide)) (uF_n (by decide)) (uF_n (by decide)) (F3 51 (by decide)) (F3 52 (by decide))) (w := w) ⟨by omega, by omega⟩) (fun _ _ w => w.elim) (fun r_109 h_109 hp => ?_)
                    obtain ⟨rfl, rfl⟩ := hp
                    refine gi_iconst dX6_priceOf_112 ?_
                    refine gi_isub dX6_priceOf_113 ?_
                    refine gg_goto (tgt := 126) dX6_priceOf_114 (by decide) ?_
                    refine gi_iadd dX6_priceOf_126 ?_
                    refine gg_istore dX6_priceOf_127 (Nat.le_of_ble_eq_true rfl) rfl ?_
                    refine gg_iload dX6_priceOf_129 rfl ?_
                    refine gg_istore dX6_priceOf_131 (Nat.le_of_ble_eq_true rfl) rfl ?_
                    refine gi_iinc dX6_priceOf_133 rfl (Nat.le_of_ble_eq_true rfl) rfl ?_
                    refine gg_goto (tgt := 26) dX6_priceOf_136 (by decide) ?_
                    refine gg_drop 8 ?_
                    refine gg_drop 9 ?_
                    have ew : (w + 1).toNat = w.toNat + 1 := by omega
                    have es : pzS D i z (w + 1).toNat = ((pzS D i z w.toNat).1 + wpE D i w (pzS D i z w.toNat).2.1 (pzS D i z w.toNat).2.2 (zb z w.toNat) + 2 * bi (zb z w.toNat), (pzS D i z w.toNat).2.1 + dS D w - bi (zb z w.toNat), (zb z w.toNat)) := by
                      rw [ew, pzS, Int.toNat_of_nonneg hw.1, if_neg (by omega), if_neg (by omega)]
                    refine gg_conv (ih_26 _ (by omega) (w + 1) _ rfl (by omega) F3 (by rw [es]; dsimp only; omega) ?_) rfl ?_ rfl
                    · rw [P61 (by omega), ew, pzP, Int.toNat_of_nonneg hw.1, EP]
                    · rw [es, c_81]; simp [lset, bi, Int.add_sub_assoc, Int.add_assoc]
              · refine gi_iconst dX6_priceOf_75 ?_
                subst hQF9
                refine gg_iret dX6_priceOf_76 rfl rfl ⟨(Nat.le_of_ble_eq_true rfl), (Nat.le_of_ble_eq_true rfl)⟩ ?_
                have ew : (w + 1).toNat = w.toNat + 1 := by omega
                have hf : (pzS D i z (w + 1).toNat).1 < 0 := by
                  rw [ew, pzS, Int.toNat_of_nonneg hw.1, if_neg (by omega), if_pos (by omega)]; decide
                have hg := pzS_f (show (w + 1).toNat ≤ (dL D).toNat by omega) hf
                have hp1 : prE D i z = -1 := by unfold prE; rw [if_pos hg]
                refine ⟨_, by rw [hp1], rfl, F3, fun q => by omega⟩
            refine gg_iload_n dX6_priceOf_38 rfl ?_
            refine gg_iload dX6_priceOf_39 rfl ?_
            refine gi_ishr _ (bt_shr ⟨by omega, by omega⟩ ⟨by omega, by omega⟩) dX6_priceOf_41 ?_
            refine gi_iconst dX6_priceOf_42 ?_
            refine gi_iand _ (bt_a1 (Int.ediv_nonneg (by omega) (Int.le_of_lt (Int.pow_pos (by omega))))) dX6_priceOf_43 ?_
            refine gi_iconst dX6_priceOf_44 ?_
            refine gi_icmp_ne (tgt := 52) dX6_priceOf_45 (by decide) ⟨by omega, by omega⟩ ⟨by omega, by omega⟩ (fun c_45 => ?_) (fun c_45 => ?_)
            · refine gi_iconst dX6_priceOf_52 ?_
              refine gg_drop 8 ?_
              refine gg_drop 9 ?_
              exact gg_conv L_53 rfl rfl (by unfold zb; rw [decide_eq_false c_45]; rfl)
            · refine gi_iconst dX6_priceOf_48 ?_
              refine gg_goto (tgt := 53) dX6_priceOf_49 (by decide) ?_
              refine gg_drop 8 ?_
              refine gg_drop 9 ?_
              exact gg_conv L_53 rfl rfl (by unfold zb; rw [decide_eq_true c_45]; rfl)
      refine gg_drop 8 ?_
      refine gg_drop 9 ?_
      refine gg_conv (L_26 _ 0 _ rfl (by omega) (frA_u (fun _ _ => rfl) (by decide)) (by rw [show (0 : Int).toNat = 0 from rfl, pzS]; dsimp only; split <;> omega) (by rw [uA_s]; rfl)) rfl (by rw [show (0 : Int).toNat = 0 from rfl, pzS]; rfl) rfl
    refine gg_drop 4 ?_
    refine gg_drop 5 ?_
    refine gg_drop 6 ?_
    refine gg_drop 7 ?_
    refine gg_drop 8 ?_
    refine gg_drop 9 ?_
    exact gg_conv L_15 rfl rfl (by rw [if_neg c_7]; rfl)
/-- how many prices are above 0; the first foot with one -/
def wnD (f : Int → Int) : Nat → Int
  | 0 => 0
  | k + 1 => wnD f k + (if 0 < f k then 1 else 0)
def fdf (f : Int → Int) (sz : Int) : Nat → Int
  | 0 => -1
  | k + 1 => if 0 ≤ fdf f sz k then fdf f sz k else if 0 < f k then (k : Int) / sz else -1
theorem wnD_r (f : Int → Int) : ∀ k : Nat, 0 ≤ wnD f k ∧ wnD f k ≤ k
  | 0 => by simp [wnD]
  | k + 1 => by have := wnD_r f k; rw [wnD]; split <;> omega
theorem fdf_r (f : Int → Int) {sz : Int} (hs : 0 < sz) : ∀ k : Nat, -1 ≤ fdf f sz k
  | 0 => by simp [fdf]
  | k + 1 => by
    have ih := fdf_r f hs k
    have : 0 ≤ (k : Int) / sz := Int.ediv_nonneg (by omega) (by omega)
    rw [fdf]; split
    · omega
    · split <;> omega
theorem fdf_k (f : Int → Int) {sz : Int} {n : Nat} (h : 0 ≤ fdf f sz n) : ∀ d : Nat, fdf f sz (n + d) = fdf f sz n
  | 0 => rfl
  | d + 1 => by
    have ih := fdf_k f h d
    rw [← Nat.add_assoc, fdf, ih, if_pos h]
set_option maxRecDepth 100000 in
set_option maxHeartbeats 4000000 in
theorem c_X6_dearSyllables {Γ : GT} {h : XH} {G : Nat → Int} {B : Nat → Int → Int} (PR : ∀ k, 0 ≤ k → k < 19 → InR (B 61 k)) : Ct Γ M_X6_dearSyllables [.ref (g_L Γ 60)] (gst Γ h G B) (fun r h9 => r = some (.int (iN (wnD (B 61) 19))) ∧ h9 = gst Γ h G B) (fun _ _ => False) := by
  refine Ct.of rfl (by decide +kernel) (Nat.le_of_ble_eq_true rfl) ?_
  generalize hQF9 : QM Γ _ _ _ = QF9
  refine gi_iconst dX6_dearSyllables_0 ?_
  refine gg_istore_n dX6_dearSyllables_1 (Nat.le_of_ble_eq_true rfl) rfl ?_
  refine gi_iconst dX6_dearSyllables_2 ?_
  refine gg_istore_n dX6_dearSyllables_3 (Nat.le_of_ble_eq_true rfl) rfl ?_
  have L_4 : ∀ (n9 : Nat) (k : Int), ((19 - k).toNat) = n9 → ∀ (hk : 0 ≤ k ∧ k ≤ 19), GG Γ M_X6_dearSyllables QF9 (0, 0) (gst Γ h G B) 4 [some (.ref (g_L Γ 60)), some (.int (iN (wnD (B 61) k.toNat))), some (.int (iN k))] [] := by
    intro n9
    induction n9 using Nat.strongRecOn with
    | ind n9 ih_4 => 
      intro k hm9 hk
      refine gg_iload_n dX6_dearSyllables_4 rfl ?_
      refine gg_aload_n dX6_dearSyllables_5 rfl rfl ?_
      refine gk_getX6_9 rfl dX6_dearSyllables_6 ?_
      refine gi_alen dX6_dearSyllables_9 (HAt.mu (gst_i (by decide))) (by decide) ?_
      refine gi_icmp_ge (tgt := 36) dX6_dearSyllables_10 (by decide) ⟨by omega, by omega⟩ (by decide) (fun c_10 => ?_) (fun c_10 => ?_)
      · have c_11 : (19 : Int) ≤ k := c_10
        refine gg_iload_n dX6_dearSyllables_36 rfl ?_
        subst hQF9
        refine gg_iret dX6_dearSyllables_37 rfl rfl ⟨(Nat.le_of_ble_eq_true rfl), (Nat.le_of_ble_eq_true rfl)⟩ ?_
        rw [show k.toNat = 19 by omega]
        exact ⟨rfl, rfl⟩
      · have c_11 : k < (19 : Int) := c_10
        refine gg_iload_n dX6_dearSyllables_13 rfl ?_
        refine gg_aload_n dX6_dearSyllables_14 rfl rfl ?_
        refine gk_getX6_9 rfl dX6_dearSyllables_15 ?_
        refine gg_iload_n dX6_dearSyllables_18 rfl ?_
        refine gk_iald dX6_dearSyllables_19 (by decide) (by decide) ⟨by omega, by show _ < (19 : Int); omega⟩ (by (try simp only [uA_s, uA_n, ne_eq, not_false_eq_true, Nat.reduceEqDiff, reduceCtorEq]); rfl) ?_
        refine gi_if_le (tgt := 27) dX6_dearSyllables_20 (by decide) (PR k hk.1 (by omega)) (fun c_20 => ?_) (fun c_20 => ?_)
        · refine gi_iconst dX6_dearSyllables_27 ?_
          refine gi_iadd dX6_dearSyllables_28 ?_
          refine gg_istore_n dX6_dearSyllables_29 (Nat.le_of_ble_eq_true rfl) rfl ?_
          refine gi_iinc dX6_dearSyllables_30 rfl (Nat.le_of_ble_eq_true rfl) rfl ?_
          refine gg_goto (tgt := 4) dX6_dearSyllables_33 (by decide) ?_
          refine gg_conv (ih_4 _ (by omega) (k + 1) rfl (by omega)) rfl (by rw [show (k + 1).toNat = k.toNat + 1 by omega, wnD, Int.toNat_of_nonneg hk.1, if_neg (Int.not_lt.mpr c_20)]; rfl) rfl
        · refine gi_iconst dX6_dearSyllables_23 ?_
          refine gg_goto (tgt := 28) dX6_dearSyllables_24 (by decide) ?_
          refine gi_iadd dX6_dearSyllables_28 ?_
          refine gg_istore_n dX6_dearSyllables_29 (Nat.le_of_ble_eq_true rfl) rfl ?_
          refine gi_iinc dX6_dearSyllables_30 rfl (Nat.le_of_ble_eq_true rfl) rfl ?_
          refine gg_goto (tgt := 4) dX6_dearSyllables_33 (by decide) ?_
          refine gg_conv (ih_4 _ (by omega) (k + 1) rfl (by omega)) rfl (by rw [show (k + 1).toNat = k.toNat + 1 by omega, wnD, Int.toNat_of_nonneg hk.1, if_pos c_20]; rfl) rfl
  exact L_4 _ 0 rfl (by omega)
set_option maxRecDepth 100000 in
set_option maxHeartbeats 4000000 in
theorem c_X6_firstDearFoot {Γ : GT} {h : XH} {G : Nat → Int} {B : Nat → Int → Int} {D : DT} {i : Int} (S9 : ScM h.2 G D i) (PR : ∀ k, 0 ≤ k → k < 19 → InR (B 61 k)) : Ct Γ M_X6_firstDearFoot [.ref (g_L Γ 60)] (gst Γ h G B) (fun r h9 => r = some (.int (iN (fdf (B 61) (szk (dK D)) (dP D).toNat))) ∧ h9 = gst Γ h G B) (fun _ _ => False) := by
  refine Ct.of rfl (by decide +kernel) (Nat.le_of_ble_eq_true rfl) ?_
  generalize hQF9 : QM Γ _ _ _ = QF9
  obtain ⟨mq, g16, M1, hi, g17⟩ := id S9
  obtain ⟨⟨t1, t2, t3⟩, t4⟩ := id M1
  have z9 := szk_r (dK D)
  have hP : dP D = dF D * szk (dK D) := rfl
  have p9 : 4 ≤ dP D ∧ dP D ≤ 18 := by rw [hP]; rcases z9 with q | q <;> rw [q] <;> omega
  have zp : 0 < szk (dK D) := by omega
  refine gi_iconst dX6_firstDearFoot_0 ?_
  refine gg_istore_n dX6_firstDearFoot_1 (Nat.le_of_ble_eq_true rfl) rfl ?_
  refine gi_iconst dX6_firstDearFoot_2 ?_
  refine gg_istore_n dX6_firstDearFoot_3 (Nat.le_of_ble_eq_true rfl) rfl ?_
  have L_4 : ∀ (n9 : Nat) (t : Int), ((dF D - t).toNat) = n9 → ∀ (ht : 0 ≤ t ∧ t ≤ dF D) (E : fdf (B 61) (szk (dK D)) (t * szk (dK D)).toNat = -1), GG Γ M_X6_firstDearFoot QF9 (0, 0) (gst Γ h G B) 4 [some (.ref (g_L Γ 60)), some (.int (iN (t * szk (dK D)))), some (.int (iN t)), none] [] := by
    intro n9
    induction n9 using Nat.strongRecOn with
    | ind n9 ih_4 => 
      intro t hm9 ht E
      have tz : 0 ≤ t * szk (dK D) ∧ t * szk (dK D) ≤ dP D := by rw [hP]; rcases z9 with q | q <;> rw [q] <;> omega
      refine gg_iload_n dX6_firstDearFoot_4 rfl ?_
      refine gg_aload_n dX6_firstDearFoot_5 rfl rfl ?_
      refine gk_getX6_32 rfl dX6_firstDearFoot_6 g16 ?_
      refine gf_X6_131 rfl dX6_firstDearFoot_9 (HAt.io t4) rfl ?_
      refine gi_icmp_ge (tgt := 63) dX6_firstDearFoot_12 (by decide) ⟨by omega, by omega⟩ ⟨by omega, by omega⟩ (fun c_12 => ?_) (fun c_12 => ?_)
      · refine gi_iconst dX6_firstDearFoot_63 ?_
        subst hQF9
        refine gg_iret dX6_firstDearFoot_64 rfl rfl ⟨(Nat.le_of_ble_eq_true rfl), (Nat.le_of_ble_eq_true rfl)⟩ ?_
        rw [show t = dF D by omega] at E
        rw [hP, E]
        exact ⟨rfl, rfl⟩
      · refine gi_iconst dX6_firstDearFoot_15 ?_
        refine gg_istore_n dX6_firstDearFoot_16 (Nat.le_of_ble_eq_true rfl) rfl ?_
        have L_17 : ∀ (n9 : Nat) (j : Int), ((szk (dK D) - j).toNat) = n9 → ∀ (hj : 0 ≤ j ∧ j ≤ szk (dK D)) (E2 : fdf (B 61) (szk (dK D)) (t * szk (dK D) + j).toNat = -1), GG Γ M_X6_firstDearFoot QF9 (0, 0) (gst Γ h G B) 17 [some (.ref (g_L Γ 60)), some (.int (iN (t * szk (dK D) + j))), some (.int (iN t)), some (.int (iN j))] [] := by
          intro n9
          induction n9 using Nat.strongRecOn with
          | ind n9 ih_17 => 
            intro j hm9 hj E2
            have tj : t * szk (dK D) + j ≤ dP D := by rw [hP]; rcases z9 with q | q <;> rw [q] at hj ⊢ <;> omega
            refine gg_iload_n dX6_firstDearFoot_17 rfl ?_
            refine gg_aload_n dX6_firstDearFoot_18 rfl rfl ?_
            refine gk_getX6_32 rfl dX6_firstDearFoot_19 g16 ?_
            refine gf_X6_134 rfl dX6_firstDearFoot_22 (HAt.io t4) rfl ?_
            refine gi_icmp_ge (tgt := 57) dX6_firstDearFoot_25 (by decide) ⟨by omega, by omega⟩ ⟨by omega, by omega⟩ (fun c_25 => ?_) (fun c_25 => ?_)
            · refine gi_iinc dX6_firstDearFoot_57 rfl (Nat.le_of_ble_eq_true rfl) rfl ?_
              refine gg_goto (tgt := 4) dX6_firstDearFoot_60 (by decide) ?_
              refine gg_drop 3 ?_
              have ej : j = szk (dK D) := by omega
              have et : (t + 1) * szk (dK D) = t * szk (dK D) + szk (dK D) := by rw [Int.add_mul, Int.one_mul]
              refine gg_conv (ih_4 _ (by omega) (t + 1) rfl (by omega) (by rw [et]; rw [ej] at E2; exact E2)) rfl (by rw [et, ej]; rfl) rfl
            · refine gg_iload_n dX6_firstDearFoot_28 rfl ?_
              refine gg_aload_n dX6_firstDearFoot_29 rfl rfl ?_
              refine gk_getX6_9 rfl dX6_firstDearFoot_30 ?_
              refine gi_alen dX6_firstDearFoot_33 (HAt.mu (gst_i (by decide))) (by decide) ?_
              refine gi_icmp_ge (tgt := 57) dX6_firstDearFoot_34 (by decide) ⟨by omega, by omega⟩ (by decide) (fun c_34 => ?_) (fun c_34 => ?_)
              · have c_35 : (19 : Int) ≤ t * szk (dK D) + j := c_34
                refine gi_iinc dX6_firstDearFoot_57 rfl (Nat.le_of_ble_eq_true rfl) rfl ?_
                refine gg_goto (tgt := 4) dX6_firstDearFoot_60 (by decide) ?_
                refine gg_drop 3 ?_
                have ej : j = szk (dK D) := by omega
                have et : (t + 1) * szk (dK D) = t * szk (dK D) + szk (dK D) := by rw [Int.add_mul, Int.one_mul]
                refine gg_conv (ih_4 _ (by omega) (t + 1) rfl (by omega) (by rw [et]; rw [ej] at E2; exact E2)) rfl (by rw [et, ej]; rfl) rfl
              · have c_35 : t * szk (dK D) + j < (19 : Int) := c_34
                refine gg_aload_n dX6_firstDearFoot_37 rfl rfl ?_
                refine gk_getX6_9 rfl dX6_firstDearFoot_38 ?_
                refine gg_iload_n dX6_firstDearFoot_41 rfl ?_
                refine gk_iald dX6_firstDearFoot_42 (by decide) (by decide) ⟨by omega, by show _ < (19 : Int); omega⟩ (by (try simp only [uA_s, uA_n, ne_eq, not_false_eq_true, Nat.reduceEqDiff, reduceCtorEq]); rfl) ?_
                refine gi_if_le (tgt := 48) dX6_firstDearFoot_43 (by decide) (PR _ (by omega) (by omega)) (fun c_43 => ?_) (fun c_43 => ?_)
                · refine gi_iinc dX6_firstDearFoot_48 rfl (Nat.le_of_ble_eq_true rfl) rfl ?_
                  refine gi_iinc dX6_firstDearFoot_51 rfl (Nat.le_of_ble_eq_true rfl) rfl ?_
                  refine gg_goto (tgt := 17) dX6_firstDearFoot_54 (by decide) ?_
                  refine gg_conv (ih_17 _ (by omega) (j + 1) rfl (by omega) ?_) rfl (by rw [Int.add_assoc]; rfl) rfl
                  rw [show (t * szk (dK D) + (j + 1)).toNat = (t * szk (dK D) + j).toNat + 1 by omega, fdf, E2, if_neg (by decide), Int.toNat_of_nonneg (by omega), if_neg (Int.not_lt.mpr c_43)]
                · refine gg_iload_n dX6_firstDearFoot_46 rfl ?_
                  subst hQF9
                  refine gg_iret dX6_firstDearFoot_47 rfl rfl ⟨(Nat.le_of_ble_eq_true rfl), (Nat.le_of_ble_eq_true rfl)⟩ ?_
                  refine ⟨?_, rfl⟩
                  have e3 : fdf (B 61) (szk (dK D)) ((t * szk (dK D) + j).toNat + 1) = t := by
                    rw [fdf, E2, if_neg (by decide), Int.toNat_of_nonneg (by omega), if_pos c_43, Int.add_comm, Int.add_mul_ediv_right _ _ (by omega), Int.ediv_eq_zero_of_lt hj.1 (by omega), Int.zero_add]
                  obtain ⟨d, hd⟩ : ∃ d : Nat, (dP D).toNat = (t * szk (dK D) + j).toNat + 1 + d := ⟨(dP D).toNat - ((t * szk (dK D) + j).toNat + 1), by
                    have : t * szk (dK D) + j + 1 ≤ dP D := by rw [hP]; rcases z9 with q | q <;> rw [q] at hj c_25 ⊢ <;> omega
                    omega⟩
                  rw [hd, fdf_k (B 61) (by rw [e3]; omega), e3]
        exact gg_conv (L_17 _ 0 rfl (by omega) (by rw [Int.add_zero]; exact E)) rfl (by rw [Int.add_zero]; rfl) rfl
  refine gg_drop 3 ?_
  exact gg_conv (L_4 _ 0 rfl (by omega) (by rw [Int.zero_mul]; rfl)) rfl (by rw [Int.zero_mul]; rfl) rfl
