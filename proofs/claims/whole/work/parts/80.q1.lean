/-! what the scans cost, by either side -/
/-- the syllables of a line, as the reference and as the class have them -/
def LK (F : Nat → Int) (A : Nat → Int → Int) (D : DT) : Prop :=
  F 16 = dL D ∧ (1 ≤ dL D ∧ dL D ≤ 12) ∧ (∀ w, 0 ≤ w → w < dL D → (1 ≤ dS D w ∧ dS D w ≤ 6) ∧ A 10 w = dS D w ∧ A 12 w = bi (dC D w) ∧ eln F A w = dE D w ∧ ∀ k, 0 ≤ k → k < dS D w → A 11 (12 * w + k) = dM D w k ∧ 0 ≤ dM D w k ∧ dM D w k ≤ 2) ∧ dE D (dL D - 1) = false
/-- the metre of it -/
def MtK (D : DT) : Prop := (0 ≤ dK D ∧ dK D ≤ 3) ∧ (2 ≤ dF D ∧ dF D ≤ 6) ∧ 0 ≤ dZ D ∧ dZ D < dF D
/-- what the first k sounds cost, or none -/
def qP (D : DT) (i : Int) (M C B : Int → Int) : Nat → Int
  | 0 => 0
  | k + 1 => if qP D i M C B k < 0 then -1 else if cae D k = true ∧ C k = 0 then -1 else if spE D i k (M k) < 0 then -1
    else qP D i M C B k + (if cae D k = true ∧ B k = 0 then 1 else 0) + spE D i k (M k)
theorem qP_cg {D : DT} {i : Int} {M C B M' C' B' : Int → Int} : ∀ k : Nat, (∀ p : Int, 0 ≤ p → p < k → M p = M' p ∧ C p = C' p ∧ B p = B' p) → qP D i M C B k = qP D i M' C' B' k
  | 0, _ => rfl
  | k + 1, h => by
    obtain ⟨h1, h2, h3⟩ := h k (by omega) (by omega)
    rw [qP, qP, qP_cg k (fun p p0 p1 => h p p0 (by omega)), h1, h2, h3]
theorem qP_r {D : DT} {i : Int} {M C B : Int → Int} : ∀ k : Nat, -1 ≤ qP D i M C B k
  | 0 => by rw [qP]; omega
  | k + 1 => by
    have h1 := qP_r (D := D) (i := i) (M := M) (C := C) (B := B) k
    have h2 := spE_r D i k (M k)
    rw [qP]; repeat' split
    all_goals omega
theorem qP_f {D : DT} {i : Int} {M C B : Int → Int} {k : Nat} (h : qP D i M C B k < 0) : ∀ n : Nat, k ≤ n → qP D i M C B n = -1
  | 0, hn => by rw [qP]; rw [show k = 0 by omega, qP] at h; omega
  | n + 1, hn => by
    by_cases e : k = n + 1
    · subst e
      have := qP_r (D := D) (i := i) (M := M) (C := C) (B := B) (n + 1)
      omega
    · rw [qP, if_pos (by rw [qP_f h n (by omega)]; decide)]
/-- a word's sounds -/
theorem sW_st {A : Nat → Int → Int} {z st : Int} {w : Nat} {D : DT} {s : Int × (Int → Int) × (Int → Int) × (Int → Int)} {x : Bool} (hx : x = true ↔ 0 < w ∧ z / 2 ^ (w - 1) % 2 = 1) (h0 : 0 ≤ st) (hn : s.1 = st + bi x)
    (hM : x = true → s.2.1 st = dM D ((w : Int) - 1) (dS D ((w : Int) - 1) - 1)) (hA : ∀ k, 0 ≤ k → k < dS D w → A 11 (12 * w + k) = dM D w k) (hB : 0 < w → A 12 ((w : Int) - 1) = bi (dC D ((w : Int) - 1))) : ∀ j : Nat, (j : Int) ≤ dS D w →
    (0 < j → (sW A z w j s).1 = st + j) ∧ (j = 0 → sW A z w j s = s) ∧ (∀ p, p < st → (sW A z w j s).2.1 p = s.2.1 p ∧ (sW A z w j s).2.2.1 p = s.2.2.1 p ∧ (sW A z w j s).2.2.2 p = s.2.2.2 p) ∧
    ∀ k : Int, 0 ≤ k → k < j → (sW A z w j s).2.1 (st + k) = mkW D w k x ∧ (sW A z w j s).2.2.1 (st + k) = bi (decide (k = 0) && !x) ∧ (k = 0 → x = false → (sW A z w j s).2.2.2 (st + k) = bi (decide (0 < w) && dC D ((w : Int) - 1)))
  | 0, _ => ⟨fun z => absurd z (by omega), fun _ => rfl, fun _ _ => ⟨rfl, rfl, rfl⟩, fun k k0 k1 => by omega⟩
  | j + 1, hj => by
    obtain ⟨t1, t2, t3, t4⟩ := sW_st hx h0 hn hM hA hB j (by omega)
    rw [sW]
    generalize ht : sW A z w j s = t at t1 t2 t3 t4 ⊢
    have ha := hA j (by omega) (by omega)
    have ew : ((w : Int) - 1).toNat = w - 1 := by omega
    unfold s1
    by_cases c : (j : Int) = 0 ∧ 0 < (w : Int) ∧ z / 2 ^ ((w : Int) - 1).toNat % 2 = 1
    · rw [if_pos c]
      obtain ⟨c1, c2, c3⟩ := c
      rw [ew] at c3
      have hx1 : x = true := hx.mpr ⟨by omega, c3⟩
      have et := t2 (by omega)
      subst et
      rw [hx1] at hn
      have e1 : t.1 - 1 = st := by rw [hn]; simp [bi]
      dsimp only
      rw [e1]
      refine ⟨fun _ => by rw [hn]; simp [bi]; omega, fun q => by omega, fun p hp => ⟨up_n (by omega), up_n (by omega), rfl⟩, fun k k0 k1 => ?_⟩
      have ek : k = 0 := by omega
      subst ek
      rw [Int.add_zero, up_s, up_s, hx1, hM hx1, ha]
      refine ⟨?_, rfl, fun _ q => by cases q⟩
      unfold mkW
      rw [c1]
      simp only [decide_true, Bool.and_self, if_true]
      exact Int.max_comm _ _
    · rw [if_neg c]
      have en : t.1 = st + j := by
        by_cases q : 0 < j
        · exact t1 q
        · rw [t2 (by omega), hn]
          have hxf : x = false := by
            cases hxx : x
            · rfl
            · have := hx.mp hxx
              exact absurd ⟨by omega, by omega, by rw [ew]; exact this.2⟩ c
          rw [hxf]; simp [bi]; omega
      dsimp only
      rw [en]
      refine ⟨fun _ => by omega, fun q => by omega, fun p hp => ?_, fun k k0 k1 => ?_⟩
      · rw [up_n (by omega), up_n (by omega), up_n (by omega)]; exact t3 p hp
      · by_cases ek : k = j
        · subst ek
          rw [up_s, up_s, up_s, ha]
          refine ⟨?_, ?_, fun q1 q2 => ?_⟩
          · unfold mkW
            rw [if_neg]
            intro q
            rw [Bool.and_eq_true, decide_eq_true_iff] at q
            have := hx.mp q.2
            exact c ⟨q.1, by omega, by rw [ew]; exact this.2⟩
          · congr 1
            by_cases q : (j : Int) = 0
            · rw [decide_eq_true q, Bool.true_and]
              cases hxx : x
              · rfl
              · have := hx.mp hxx
                exact absurd ⟨q, by omega, by rw [ew]; exact this.2⟩ c
            · rw [decide_eq_false q, Bool.false_and]
          · congr 1
            by_cases q : 0 < w
            · rw [hB q]
              cases dC D ((w : Int) - 1) <;> simp [bi, q1, q]
            · simp [q]
        · rw [up_n (by omega), up_n (by omega), up_n (by omega)]
          exact t4 k k0 (by omega)
def comb (p v : Int) : Int := if p < 0 ∨ v < 0 then -1 else p + v
/-- the prices of a word against those of its sounds -/
theorem wp_q {D : DT} {i : Int} {w st : Nat} {x y : Bool} {M C B : Int → Int} (hM : MtK D) (h0 : w = 0 → st = 0) (hT : ∀ k : Int, 0 ≤ k → k < dS D w → M (st + k) = mkW D w k x ∧ C (st + k) = bi (decide (k = 0) && !x) ∧ (k = 0 → x = false → B (st + k) = bi (decide (0 < w) && dC D ((w : Int) - 1)))) : ∀ j : Nat, (j : Int) ≤ dS D w - bi y → comb (qP D i M C B st) (wpS D i w st x y j) = qP D i M C B (st + j)
  | 0, _ => by
    have := qP_r (D := D) (i := i) (M := M) (C := C) (B := B) st
    unfold comb; rw [wpS, Nat.add_zero]; split <;> omega
  | j + 1, hj => by
    have ih := wp_q (y := y) (i := i) hM h0 hT j (by omega)
    have hy := bi_01 y
    obtain ⟨m1, m2, m3⟩ := hT j (by omega) (by omega)
    have nl : (decide ((j : Int) = dS D w - 1) && y) = false := by
      cases y
      · simp
      · simp [bi] at hj; simp; omega
    have hw := wpS_r (D := D) (i := i) (w := w) (st := st) (x := x) (y := y) j
    have hr := qP_r (D := D) (i := i) (M := M) (C := C) (B := B) st
    have hs := spE_r D i (st + j) (mkW D w j x)
    rw [show st + (j + 1) = (st + j) + 1 by omega, qP, ← ih, show ((st + j : Nat) : Int) = (st : Int) + (j : Int) by omega, m1, m2, wpS, nl, Bool.or_false]
    generalize wpS D i w st x y j = W at hw ⊢
    generalize qP D i M C B st = P at hr ⊢
    generalize spE D i (st + j) (mkW D w j x) = S at hs ⊢
    unfold comb
    cases hc : cae D (st + j)
    · simp only [Bool.false_and, Bool.false_eq_true, if_false, false_and]
      repeat' split
      all_goals omega
    · by_cases a4 : (decide ((0 : Int) < j) || x) = true
      · have c0 : bi (decide ((j : Int) = 0) && !x) = 0 := by
          rw [bi_f]
          cases x
          · simp at a4 ⊢; omega
          · simp
        simp only [Bool.true_and, a4, if_true, c0, and_self]
        repeat' split
        all_goals omega
      · have hj0 : (j : Int) = 0 := by
          simp at a4; omega
        have hx0 : x = false := by
          cases x
          · rfl
          · simp at a4
        have a4' : (decide ((0 : Int) < j) || x) = false := by cases q : (decide ((0 : Int) < j) || x) <;> simp_all
        have hw0 : 0 < w := by
          by_cases q : 0 < w
          · exact q
          · exfalso
            have z0 := h0 (by omega)
            unfold cae at hc
            rw [decide_eq_true_iff] at hc
            have := szk_r (dK D)
            have : 0 < dZ D * szk (dK D) := Int.mul_pos hc.1 (by omega)
            omega
        have hB := m3 hj0 hx0
        rw [decide_eq_true hw0, Bool.true_and] at hB
        have c1 : ¬ (bi (decide ((j : Int) = 0) && !x) = 0) := by rw [hj0, hx0]; simp [bi]
        have e9 : (if B (st + j) = 0 then (1 : Int) else 0) = bi (!dC D ((w : Int) - 1)) := by
          rw [hB]; cases dC D ((w : Int) - 1) <;> simp [bi]
        have b9 := bi_01 (!dC D ((w : Int) - 1))
        simp only [Bool.true_and, a4', Bool.false_eq_true, if_false, if_true, c1, and_false, true_and, e9]
        repeat' split
        all_goals omega
/-- whether the word before is elided -/
def ebf (z : Int) : Nat → Bool
  | 0 => false
  | w + 1 => zb z w
theorem ebf_i {z : Int} {w : Nat} : ebf z w = true ↔ 0 < w ∧ z / 2 ^ (w - 1) % 2 = 1 := by
  cases w with
  | zero => simp [ebf]
  | succ w => simp [ebf, zb]
/-- what is paid behind w words -/
def pw9 (D : DT) (i : Int) (s : Int × (Int → Int) × (Int → Int) × (Int → Int)) (e : Bool) : Int :=
  if (e && cae D (s.1 - 1)) = true then -1 else qP D i s.2.1 s.2.2.1 s.2.2.2 (s.1 - bi e).toNat
/-- both sides behind w words -/
def INV9 (A : Nat → Int → Int) (D : DT) (i z : Int) (w : Nat) : Prop :=
  (bi (ebf z w) ≤ (sA A z (s0 A) w).1 ∧ (w = 0 → (sA A z (s0 A) w).1 = 0) ∧ (0 < w → 1 ≤ (sA A z (s0 A) w).1)) ∧
  (sA A z (s0 A) w).1 = smS (dS D) w - btc z w + bi (ebf z w) ∧
  (ebf z w = true → (sA A z (s0 A) w).2.1 ((sA A z (s0 A) w).1 - 1) = dM D ((w : Int) - 1) (dS D ((w : Int) - 1) - 1)) ∧
  ((pzS D i z w).1 < 0 ↔ pw9 D i (sA A z (s0 A) w) (ebf z w) < 0) ∧
  (0 ≤ (pzS D i z w).1 → (pzS D i z w).1 = (if i = 0 then 0 else 2) + 2 * btc z w + pw9 D i (sA A z (s0 A) w) (ebf z w) ∧ (pzS D i z w).2.1 = (sA A z (s0 A) w).1 - bi (ebf z w) ∧ (pzS D i z w).2.2 = ebf z w)
theorem btc_r9 {z : Int} : ∀ w : Nat, 0 ≤ btc z w ∧ btc z w ≤ w
  | 0 => by simp [btc]
  | w + 1 => by
    have := btc_r9 (z := z) w
    have h1 := Int.emod_nonneg (z / 2 ^ w) (show (2 : Int) ≠ 0 by decide)
    have h2 := Int.emod_lt_of_pos (z / 2 ^ w) (show (0 : Int) < 2 by decide)
    rw [btc]; omega
theorem btc_s {z : Int} {w : Nat} : btc z (w + 1) = btc z w + bi (zb z w) := by
  rw [btc]; congr 1
  unfold zb
  have h1 := Int.emod_nonneg (z / 2 ^ w) (show (2 : Int) ≠ 0 by decide)
  have h2 := Int.emod_lt_of_pos (z / 2 ^ w) (show (0 : Int) < 2 by decide)
  by_cases q : z / 2 ^ w % 2 = 1
  · rw [decide_eq_true q, q]; rfl
  · rw [decide_eq_false q]; simp [bi]; omega
theorem alw_le {e : Int → Bool} {s : Int → Int} {z : Int} {k : Nat} : ∀ n : Nat, k ≤ n → alw e s z n = true → alw e s z k = true
  | 0, hk, h => by rw [show k = 0 by omega]; exact h
  | n + 1, hk, h => by
    by_cases q : k = n + 1
    · subst q; exact h
    · rw [alw, Bool.and_eq_true] at h
      exact alw_le n (by omega) h.1
/-- a word that is elided can be -/
theorem alw_at {e : Int → Bool} {s : Int → Int} {z : Int} {w : Nat} (h : alw e s z (w + 1) = true) (hz : zb z w = true) : e w = true ∧ ¬ (ebf z w = true ∧ s w = 1) := by
  rw [alw, Bool.and_eq_true, Bool.not_eq_true', Bool.and_eq_false_iff] at h
  have h2 := h.2
  unfold zb at hz
  rw [decide_eq_true_iff] at hz
  rw [decide_eq_true hz] at h2
  have h3 : elE e s w (decide (1 ≤ (w : Int) ∧ z / 2 ^ (w - 1) % 2 = 1)) = true := by
    rcases h2 with q | q
    · cases q
    · rw [Bool.not_eq_false'] at q; exact q
  unfold elE at h3
  rw [Bool.and_eq_true, Bool.not_eq_true', Bool.and_eq_false_iff] at h3
  refine ⟨h3.1, fun ⟨q1, q2⟩ => ?_⟩
  rw [ebf_i] at q1
  rcases h3.2 with q | q
  · rw [decide_eq_false_iff_not] at q; exact q ⟨by omega, q1.2⟩
  · rw [decide_eq_false_iff_not] at q; exact q q2
theorem inv9 {F : Nat → Int} {A : Nat → Int → Int} {D : DT} (K : LK F A D) (hM : MtK D) {i z : Int} : ∀ w : Nat, (w : Int) ≤ dL D → alw (dE D) (dS D) z w = true → INV9 A D i z w
  | 0, _, _ => by
    refine ⟨⟨Int.le_refl _, fun _ => rfl, fun q => absurd q (by decide)⟩, rfl, (fun q => by cases q), ?_, fun _ => ⟨?_, rfl, rfl⟩⟩
    · show ((if i = 0 then 0 else 2 : Int) < 0) ↔ _
      rw [show pw9 D i (sA A z (s0 A) 0) (ebf z 0) = 0 from rfl]
      split <;> omega
    · show (if i = 0 then 0 else 2 : Int) = _
      rw [show pw9 D i (sA A z (s0 A) 0) (ebf z 0) = 0 from rfl, btc]; omega
  | w + 1, hw, ha => by
    have ih := inv9 K hM (i := i) (z := z) w (by omega) (alw_le (w + 1) (by omega) ha)
    obtain ⟨⟨i1, i2, i3⟩, i4, i5, i6, i7⟩ := ih
    obtain ⟨k1, k2, k3, k4, k5⟩ := K.2.2.1 w (by omega) (by omega)
    have hB : 0 < w → A 12 ((w : Int) - 1) = bi (dC D ((w : Int) - 1)) := fun q => (K.2.2.1 ((w : Int) - 1) (by omega) (by omega)).2.2.1
    generalize hs : sA A z (s0 A) w = s at i1 i2 i3 i4 i5 i6 i7
    have bx := bi_01 (ebf z w)
    have by9 := bi_01 (zb z w)
    obtain ⟨st, hst⟩ : ∃ st : Nat, s.1 - bi (ebf z w) = (st : Int) := ⟨(s.1 - bi (ebf z w)).toNat, by omega⟩
    have hn : s.1 = st + bi (ebf z w) := by omega
    have hW := sW_st (A := A) (z := z) (st := st) (w := w) (D := D) (s := s) (x := ebf z w) ebf_i (by omega) hn (fun q => by rw [← i5 q, hn, q]; congr 1; simp [bi]) (fun k q1 q2 => (k5 k q1 q2).1) hB (dS D w).toNat (by omega)
    obtain ⟨t1, t2, t3, t4⟩ := hW
    have eT : sA A z (s0 A) (w + 1) = sW A z w (dS D w).toNat s := by rw [sA, k2, hs]
    have t1' := t1 (by omega)
    have ed : ((dS D w).toNat : Int) = dS D w := by omega
    rw [ed] at t1'
    have hz0 : w = 0 → st = 0 := fun q => by
      have := i2 q
      subst q
      simp [ebf, bi] at hst
      omega
    have sps := spE_r
    unfold INV9
    rw [eT]
    generalize sW A z w (dS D w).toNat s = T at t1' t3 t4
    rw [show ebf z (w + 1) = zb z w from rfl, btc_s, t1']
    have hT : ∀ k : Int, 0 ≤ k → k < dS D w → T.2.1 (st + k) = mkW D w k (ebf z w) ∧ T.2.2.1 (st + k) = bi (decide (k = 0) && !(ebf z w)) ∧ (k = 0 → ebf z w = false → T.2.2.2 (st + k) = bi (decide (0 < w) && dC D ((w : Int) - 1))) := fun k q1 q2 => t4 k q1 (by omega)
    have hal := fun q => alw_at (w := w) ha q
    have hq : qP D i T.2.1 T.2.2.1 T.2.2.2 st = qP D i s.2.1 s.2.2.1 s.2.2.2 st := qP_cg st (fun p p0 p1 => t3 p p1)
    have hwE : wpE D i w st (ebf z w) (zb z w) = if (zb z w && cae D ((st : Int) + dS D w - 1)) = true then -1 else wpS D i w st (ebf z w) (zb z w) (dS D w - bi (zb z w)).toNat := by
      unfold wpE
      cases hy : zb z w
      · rw [Bool.false_and, if_neg (by decide)]; simp [bi]
      · rw [Bool.true_and]
        obtain ⟨d, hd⟩ : ∃ d : Nat, dS D w = (d : Int) + 1 := ⟨(dS D w - 1).toNat, by omega⟩
        have hr := wpS_r (D := D) (i := i) (w := w) (st := st) (x := ebf z w) (y := true) d
        rw [show (dS D w).toNat = d + 1 by omega, wpS, show (dS D w - bi true).toNat = d by simp [bi]; omega, show (st : Int) + dS D w - 1 = st + d by omega]
        rw [show (decide ((d : Int) = dS D w - 1) && true) = true by simp; omega, Bool.or_true, Bool.and_true, if_pos rfl]
        by_cases c : cae D ((st : Int) + d) = true
        · rw [if_pos c, if_pos c]; split <;> rfl
        · rw [if_neg c, if_neg c, if_neg c, Int.add_zero]; split <;> omega
    have hP : pw9 D i T (zb z w) = comb (pw9 D i s (ebf z w)) (wpE D i w st (ebf z w) (zb z w)) := by
      unfold pw9
      rw [t1', hst, Int.toNat_natCast]
      have wq := wp_q (D := D) (i := i) (y := zb z w) hM hz0 hT (dS D w - bi (zb z w)).toNat (by omega)
      rw [hq] at wq
      have ep : ((st : Int) + dS D w - bi (zb z w)).toNat = st + (dS D w - bi (zb z w)).toNat := by omega
      rw [ep, ← wq, hwE]
      by_cases c : (zb z w && cae D ((st : Int) + dS D w - 1)) = true
      · rw [if_pos c, if_pos c]; unfold comb; rw [if_pos (by omega)]
      · rw [if_neg c, if_neg c]
        by_cases c2 : (ebf z w && cae D (s.1 - 1)) = true
        · rw [if_pos c2]
          unfold comb
          rw [if_pos (show (-1 : Int) < 0 ∨ _ from Or.inl (by decide))]
          rw [Bool.and_eq_true] at c2
          have e1 : s.1 - 1 = st := by rw [hn, c2.1]; simp [bi]
          rw [e1] at c2
          have d1 : 1 ≤ dS D w - bi (zb z w) := by
            cases hy : zb z w
            · simp [bi]; omega
            · have := (hal hy).2
              have : dS D w ≠ 1 := fun q => this ⟨c2.1, q⟩
              simp [bi]; omega
          have neg : qP D i T.2.1 T.2.2.1 T.2.2.2 (st + 1) < 0 := by
            have h0 := hT 0 (by omega) (by omega)
            rw [Int.add_zero, c2.1] at h0
            rw [qP]
            split
            · decide
            · rw [if_pos ⟨c2.2, by rw [h0.2.1]; rfl⟩]; decide
          have := qP_f neg (st + (dS D w - bi (zb z w)).toNat) (by omega)
          rw [← hq] at wq
          unfold comb at wq
          rw [hq, this] at wq
          exact wq
        · rw [if_neg c2]
    have hwr := wpE_r (D := D) (i := i) (w := w) (st := st) (x := ebf z w) (y := zb z w) k1
    have sm : smS (dS D) (w + 1) = smS (dS D) w + dS D w := rfl
    refine ⟨⟨by omega, fun q => by omega, fun _ => by omega⟩, by rw [sm]; omega, fun q => ?_, ?_⟩
    · have h0 := (hT (dS D w - 1) (by omega) (by omega)).1
      rw [show ((w + 1 : Nat) : Int) - 1 = w by omega, show (st : Int) + dS D w - 1 = st + (dS D w - 1) by omega, h0]
      unfold mkW
      rw [if_neg]
      intro q2
      rw [Bool.and_eq_true, decide_eq_true_iff] at q2
      exact (hal q).2 ⟨q2.2, by omega⟩
    · rw [hP, pzS]
      by_cases c : (pzS D i z w).1 < 0
      · rw [if_pos c]
        have := i6.mp c
        unfold comb
        rw [if_pos (Or.inl this)]
        exact ⟨⟨fun _ => by decide, fun _ => c⟩, fun q => by omega⟩
      · rw [if_neg c]
        obtain ⟨j1, j2, j3⟩ := i7 (by omega)
        have c9 : ¬ pw9 D i s (ebf z w) < 0 := fun q => c (i6.mpr q)
        rw [j2, j3, hst]
        by_cases c2 : wpE D i w st (ebf z w) (zb z w) < 0
        · rw [if_pos c2]; unfold comb; rw [if_pos (Or.inr c2)]
          exact ⟨⟨fun _ => by decide, fun _ => by decide⟩, fun q => absurd q (by decide)⟩
        · rw [if_neg c2]; unfold comb; rw [if_neg (by omega)]
          dsimp only
          have := btc_r9 (z := z) w
          refine ⟨⟨fun q => by exfalso; revert q; rw [j1]; split <;> omega, fun q => by omega⟩, fun _ => ⟨by rw [j1]; omega, by omega, rfl⟩⟩
