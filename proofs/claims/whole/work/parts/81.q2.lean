/-! prices against costs -/
theorem spE_p {D : DT} {i : Int} {M : Int → Int} {k : Int} (hk : k < dP D) : spE D i k (M k) = pnl (dK D) M k i := by
  unfold spE pnl
  rw [if_neg (by omega), if_neg (by omega)]
  cases q : strK (dK D) k i <;> simp
theorem qP_ev {D : DT} {i : Int} {M C B : Int → Int} : ∀ k : Nat, (k : Int) ≤ dP D → qP D i M C B k = if 0 < dZ D ∧ dZ D * szk (dK D) < k ∧ C (dZ D * szk (dK D)) = 0 then -1 else pnS (dK D) M i k + (if 0 < dZ D ∧ dZ D * szk (dK D) < k ∧ B (dZ D * szk (dK D)) = 0 then 1 else 0)
  | 0, _ => by
    rw [qP, pnS]
    by_cases q : 0 < dZ D
    · have := szk_r (dK D)
      have : 0 < dZ D * szk (dK D) := Int.mul_pos q (by omega)
      rw [if_neg (by omega), if_neg (by omega)]; rfl
    · rw [if_neg (by omega), if_neg (by omega)]; rfl
  | k + 1, hk => by
    have ih := qP_ev (D := D) (i := i) (M := M) (C := C) (B := B) k (by omega)
    have hp := (pnS_r (dK D) M i k).1
    have hl := pnl_r (dK D) M k i
    rw [qP, ih, spE_p (k := (k : Int)) (by omega), pnS]
    unfold cae
    generalize hc : dZ D * szk (dK D) = c
    simp only [decide_eq_true_iff]
    by_cases e : (k : Int) = c
    · subst e
      repeat' split
      all_goals omega
    · repeat' split
      all_goals omega
theorem strK_end {kd ft i : Int} (h : 2 ≤ ft) : strK kd (ft * szk kd - 1) i = strK kd (ft * szk kd - 1) 0 := by
  have := szk_r kd
  have : 2 * szk kd ≤ ft * szk kd := Int.mul_le_mul_of_nonneg_right h (by omega)
  unfold strK
  rw [if_neg (by omega), if_neg (by omega)]
theorem ebf_end {F : Nat → Int} {A : Nat → Int → Int} {D : DT} (K : LK F A D) {z : Int} (ha : alw (dE D) (dS D) z (dL D).toNat = true) : ebf z (dL D).toNat = false := by
  cases q : ebf z (dL D).toNat
  · rfl
  · have h1 := K.2.1
    obtain ⟨w, hw⟩ : ∃ w, (dL D).toNat = w + 1 := ⟨(dL D).toNat - 1, by omega⟩
    rw [hw] at ha q
    have := (alw_at ha q).1
    rw [show (w : Int) = dL D - 1 by omega, K.2.2.2] at this
    cases this
theorem prE_c {F : Nat → Int} {A : Nat → Int → Int} {D : DT} (K : LK F A D) (hM : MtK D) {i z : Int} (hi : i = 0 ∨ i = 1) (ha : alw (dE D) (dS D) z (dL D).toNat = true) (hb : btc z 12 = btc z (dL D).toNat) :
    prE D i z = cst (dK D) (dF D) (dZ D) (sA A z (s0 A) (dL D).toNat) z i ∧ (sA A z (s0 A) (dL D).toNat).1 = smS (dS D) (dL D).toNat - btc z (dL D).toNat := by
  have h1 := K.2.1
  obtain ⟨⟨i1, i2, i3⟩, i4, i5, i6, i7⟩ := inv9 K hM (i := i) (z := z) (dL D).toNat (by omega) ha
  have he := ebf_end K ha
  rw [he] at i1 i4 i5 i6 i7
  rw [show bi false = 0 from rfl] at i1 i4 i7
  generalize sA A z (s0 A) (dL D).toNat = s at i1 i2 i3 i4 i5 i6 i7 ⊢
  refine ⟨?_, by omega⟩
  have hp9 : pw9 D i s false = qP D i s.2.1 s.2.2.1 s.2.2.2 s.1.toNat := by
    unfold pw9; rw [Bool.false_and, if_neg (by decide), show bi false = 0 from rfl, Int.sub_zero]
  rw [hp9] at i6 i7
  have hsz := szk_r (dK D)
  have hca := cs_at (kd := dK D) hM.2.1 hM.2.2
  have hst := strK_end (kd := dK D) (i := i) hM.2.1.1
  have hP : dP D = dF D * szk (dK D) := rfl
  have hbz := btc_r9 (z := z) 12
  unfold prE cst
  rw [← hP] at hca hst ⊢
  by_cases n1 : s.1 ≤ dP D - 2
  · rw [if_pos (show ¬ (dP D - 1 ≤ s.1 ∧ s.1 ≤ dP D + 1) by omega)]
    split
    · rfl
    · rename_i q
      rw [(i7 (by omega)).2.1, Int.sub_zero, if_pos]
      unfold edP few
      rw [← hP, if_neg (by omega), if_neg]
      split <;> omega
  by_cases n2 : dP D + 2 ≤ s.1
  · rw [if_pos (show ¬ (dP D - 1 ≤ s.1 ∧ s.1 ≤ dP D + 1) by omega), if_pos]
    rw [i6]
    have neg : qP D i s.2.1 s.2.2.1 s.2.2.2 ((dP D + 1).toNat + 1) < 0 := by
      have e : spE D i (((dP D + 1).toNat : Nat) : Int) (s.2.1 (((dP D + 1).toNat : Nat) : Int)) = -1 := by unfold spE; rw [if_pos (by omega)]
      rw [qP, e]
      repeat' split
      all_goals omega
    rw [qP_f neg s.1.toNat (by omega)]; decide
  rw [if_neg (show ¬ ¬ (dP D - 1 ≤ s.1 ∧ s.1 ≤ dP D + 1) by omega)]
  have hpn := fun k => (pnS_r (dK D) s.2.1 i k).1
  by_cases n3 : s.1 = dP D - 1
  · have ev := qP_ev (D := D) (i := i) (M := s.2.1) (C := s.2.2.1) (B := s.2.2.2) s.1.toNat (by omega)
    have ec : dZ D * szk (dK D) < (s.1.toNat : Int) := by omega
    by_cases c1 : strK (dK D) (dP D - 1) 0 = true
    · rw [if_pos (Or.inr ⟨n3, by rw [hst]; exact c1⟩)]
      split
      · rfl
      · rename_i q
        rw [(i7 (by omega)).2.1, Int.sub_zero, if_pos]
        unfold edP few
        rw [← hP, if_neg (by omega), if_neg]
        rw [if_pos c1]; omega
    · rw [if_neg (show ¬ ((s.1 = dP D + 1 ∧ s.2.1 (dP D) = 2) ∨ (s.1 = dP D - 1 ∧ strK (dK D) (dP D - 1) i = true)) by rw [hst]; exact fun q => q.elim (fun q => by omega) (fun q => c1 q.2))]
      by_cases c2 : 0 < dZ D ∧ s.2.2.1 (dZ D * szk (dK D)) = 0
      · rw [if_pos c2, if_pos]
        rw [i6, ev, if_pos ⟨c2.1, ec, c2.2⟩]; decide
      · rw [if_neg c2]
        rw [if_neg (fun q => c2 ⟨q.1, q.2.2⟩)] at ev
        have := hpn s.1.toNat
        have q9 : ¬ (pzS D i z (dL D).toNat).1 < 0 := by rw [i6, ev]; split <;> omega
        obtain ⟨j1, j2, j3⟩ := i7 (by omega)
        have ee : edP D (s.1 - 0) = 1 := by
          unfold edP few
          rw [← hP, if_neg (by omega), if_neg c1, if_pos (by omega)]
        rw [if_neg q9, j2, ee, if_neg (by decide), j1, ev, hb, if_neg (show ¬ s.1 = dP D by omega), show (min (dP D) s.1).toNat = s.1.toNat by omega]
        repeat' split
        all_goals omega
  by_cases n4 : s.1 = dP D
  · have ev := qP_ev (D := D) (i := i) (M := s.2.1) (C := s.2.2.1) (B := s.2.2.2) s.1.toNat (by omega)
    have ec : dZ D * szk (dK D) < (s.1.toNat : Int) := by omega
    rw [if_neg (show ¬ ((s.1 = dP D + 1 ∧ s.2.1 (dP D) = 2) ∨ (s.1 = dP D - 1 ∧ strK (dK D) (dP D - 1) i = true)) by omega)]
    by_cases c2 : 0 < dZ D ∧ s.2.2.1 (dZ D * szk (dK D)) = 0
    · rw [if_pos c2, if_pos]
      rw [i6, ev, if_pos ⟨c2.1, ec, c2.2⟩]; decide
    · rw [if_neg c2]
      rw [if_neg (fun q => c2 ⟨q.1, q.2.2⟩)] at ev
      have := hpn s.1.toNat
      have q9 : ¬ (pzS D i z (dL D).toNat).1 < 0 := by rw [i6, ev]; split <;> omega
      obtain ⟨j1, j2, j3⟩ := i7 (by omega)
      have ee : edP D (s.1 - 0) = 0 := by
        unfold edP
        rw [if_pos (by omega)]
      rw [if_neg q9, j2, ee, if_neg (by decide), j1, ev, hb, if_pos n4, show (min (dP D) s.1).toNat = s.1.toNat by omega]
      repeat' split
      all_goals omega
  have n5 : s.1 = dP D + 1 := by omega
  have ev := qP_ev (D := D) (i := i) (M := s.2.1) (C := s.2.2.1) (B := s.2.2.2) (dP D).toNat (by omega)
  have ec : dZ D * szk (dK D) < ((dP D).toNat : Int) := by omega
  have qs : qP D i s.2.1 s.2.2.1 s.2.2.2 s.1.toNat = if qP D i s.2.1 s.2.2.1 s.2.2.2 (dP D).toNat < 0 then -1 else if s.2.1 (dP D) = 2 then -1 else qP D i s.2.1 s.2.2.1 s.2.2.2 (dP D).toNat := by
    rw [show s.1.toNat = (dP D).toNat + 1 by omega, qP]
    rw [show (((dP D).toNat : Nat) : Int) = dP D by omega]
    have e1 : cae D (dP D) = false := by unfold cae; rw [decide_eq_false_iff_not]; omega
    have e2 : spE D i (dP D) (s.2.1 (dP D)) = if s.2.1 (dP D) = 2 then -1 else 0 := by
      unfold spE; rw [if_neg (by omega), if_pos rfl]
    rw [e1, e2, if_neg (show ¬ (false = true ∧ s.2.2.1 (dP D) = 0) by simp), if_neg (show ¬ (false = true ∧ s.2.2.2 (dP D) = 0) by simp)]
    by_cases c : s.2.1 (dP D) = 2
    · rw [if_pos c, if_pos c, if_pos (show (-1 : Int) < 0 by decide)]
    · rw [if_neg c, if_neg c, if_neg (show ¬ (0 : Int) < 0 by decide)]; split <;> omega
  by_cases c1 : s.2.1 (dP D) = 2
  · rw [if_pos (Or.inl ⟨n5, c1⟩), if_pos]
    rw [i6, qs, if_pos c1]; split <;> decide
  · rw [if_neg (show ¬ ((s.1 = dP D + 1 ∧ s.2.1 (dP D) = 2) ∨ (s.1 = dP D - 1 ∧ strK (dK D) (dP D - 1) i = true)) from fun q => q.elim (fun q => c1 q.2) (fun q => by omega))]
    rw [if_neg c1] at qs
    by_cases c2 : 0 < dZ D ∧ s.2.2.1 (dZ D * szk (dK D)) = 0
    · rw [if_pos c2, if_pos]
      rw [i6, qs, if_pos (by rw [ev, if_pos ⟨c2.1, ec, c2.2⟩]; decide)]; decide
    · rw [if_neg c2]
      rw [if_neg (fun q => c2 ⟨q.1, q.2.2⟩)] at ev
      have := hpn (dP D).toNat
      have qn : ¬ qP D i s.2.1 s.2.2.1 s.2.2.2 (dP D).toNat < 0 := by rw [ev]; split <;> omega
      rw [if_neg qn] at qs
      have q9 : ¬ (pzS D i z (dL D).toNat).1 < 0 := by rw [i6, qs]; exact qn
      obtain ⟨j1, j2, j3⟩ := i7 (by omega)
      have ee : edP D (s.1 - 0) = 1 := by
        unfold edP
        rw [if_neg (by omega), if_pos (Or.inl (by omega))]
      rw [if_neg q9, j2, ee, if_neg (by decide), j1, qs, ev, hb, if_neg (show ¬ s.1 = dP D by omega), show (min (dP D) s.1).toNat = (dP D).toNat by omega]
      repeat' split
      all_goals omega
/-- the prices kept -/
theorem prW_e {D : DT} {i w st p : Int} {x y : Bool} {g : Int → Int} : ∀ j : Nat, (j : Int) ≤ dS D w → prW D i w st x y g j p = if (st ≤ p ∧ p < st + j) ∧ ¬ (p = st + dS D w - 1 ∧ y = true) then spE D i p (mkW D w (p - st) x) else g p
  | 0, _ => by rw [prW, if_neg (by omega)]
  | j + 1, hj => by
    have ih := prW_e (D := D) (w := w) (i := i) (p := p) (st := st) (x := x) (y := y) (g := g) j (by omega)
    rw [prW]
    by_cases c : (decide ((j : Int) = dS D w - 1) && y) = true
    · rw [if_pos c, ih]
      rw [Bool.and_eq_true, decide_eq_true_iff] at c
      by_cases q : (st ≤ p ∧ p < st + j) ∧ ¬ (p = st + dS D w - 1 ∧ y = true)
      · rw [if_pos q, if_pos ⟨by omega, q.2⟩]
      · rw [if_neg q, if_neg]
        intro q2
        by_cases e : p = st + j
        · exact q2.2 ⟨by omega, c.2⟩
        · exact q ⟨by omega, q2.2⟩
    · rw [if_neg c]
      by_cases e : p = st + j
      · subst e
        rw [up_s, if_pos, show st + (j : Int) - st = j by omega]
        refine ⟨by omega, fun q => c ?_⟩
        rw [Bool.and_eq_true, decide_eq_true_iff]; exact ⟨by omega, q.2⟩
      · rw [up_n e, ih]
        by_cases q : (st ≤ p ∧ p < st + j) ∧ ¬ (p = st + dS D w - 1 ∧ y = true)
        · rw [if_pos q, if_pos ⟨by omega, q.2⟩]
        · rw [if_neg q, if_neg (fun q2 => q ⟨by omega, q2.2⟩)]
theorem pzP_e {F : Nat → Int} {A : Nat → Int → Int} {D : DT} (K : LK F A D) (hM : MtK D) {i z p : Int} {f : Int → Int} (p0 : 0 ≤ p) : ∀ w : Nat, (w : Int) ≤ dL D → alw (dE D) (dS D) z w = true → 0 ≤ (pzS D i z w).1 →
    pzP D i z f w p = if p < (sA A z (s0 A) w).1 - bi (ebf z w) then spE D i p ((sA A z (s0 A) w).2.1 p) else f p
  | 0, _, _, _ => by rw [pzP, if_neg]; show ¬ p < 0 - 0; omega
  | w + 1, hw, ha, hp => by
    have hp1 : 0 ≤ (pzS D i z w).1 := by
      by_cases q : (pzS D i z w).1 < 0
      · have := pzS_f (n := w + 1) (by omega) q; omega
      · omega
    have al := alw_le (w + 1) (show w ≤ w + 1 by omega) ha
    have ih := pzP_e K hM (i := i) (f := f) p0 w (by omega) al hp1
    obtain ⟨⟨i1, i2, i3⟩, i4, i5, i6, i7⟩ := inv9 K hM (i := i) (z := z) w (by omega) al
    obtain ⟨j1, j2, j3⟩ := i7 hp1
    obtain ⟨k1, k2, k3, k4, k5⟩ := K.2.2.1 w (by omega) (by omega)
    have hB : 0 < w → A 12 ((w : Int) - 1) = bi (dC D ((w : Int) - 1)) := fun q => (K.2.2.1 ((w : Int) - 1) (by omega) (by omega)).2.2.1
    generalize hs : sA A z (s0 A) w = s at i1 i2 i3 i4 i5 i6 i7 ih j1 j2 j3
    have bx := bi_01 (ebf z w)
    have by9 := bi_01 (zb z w)
    obtain ⟨st, hst⟩ : ∃ st : Nat, s.1 - bi (ebf z w) = (st : Int) := ⟨(s.1 - bi (ebf z w)).toNat, by omega⟩
    have hn : s.1 = st + bi (ebf z w) := by omega
    have hW := sW_st (A := A) (z := z) (st := st) (w := w) (D := D) (s := s) (x := ebf z w) ebf_i (by omega) hn (fun q => by rw [← i5 q, hn, q]; congr 1; simp [bi]) (fun k q1 q2 => (k5 k q1 q2).1) hB (dS D w).toNat (by omega)
    obtain ⟨t1, t2, t3, t4⟩ := hW
    have eT : sA A z (s0 A) (w + 1) = sW A z w (dS D w).toNat s := by rw [sA, k2, hs]
    have t1' := t1 (by omega)
    have ed : ((dS D w).toNat : Int) = dS D w := by omega
    rw [ed] at t1'
    rw [eT]
    generalize sW A z w (dS D w).toNat s = T at t1' t3 t4
    rw [show ebf z (w + 1) = zb z w from rfl, t1', pzP, j2, j3, hst, prW_e _ (by omega), ih, hst]
    by_cases c : (p : Int) < st
    · rw [if_neg (by omega), if_pos c, if_pos (by omega), (t3 p c).1]
    · rw [if_neg c]
      by_cases c2 : (st ≤ p ∧ p < st + ((dS D w).toNat : Int)) ∧ ¬ (p = st + dS D w - 1 ∧ zb z w = true)
      · have hb9 : p < st + dS D w - bi (zb z w) := by
          cases hz : zb z w
          · simp [bi]; omega
          · have := c2.2; rw [hz] at this; simp [bi]; simp at this; omega
        have := (t4 (p - st) (by omega) (by omega)).1
        rw [show (st : Int) + (p - st) = p by omega] at this
        rw [if_pos c2, if_pos hb9, this]
      · rw [if_neg c2, if_neg]
        intro q
        apply c2
        refine ⟨by omega, fun q2 => ?_⟩
        rw [q2.2] at q; simp [bi] at q; omega
