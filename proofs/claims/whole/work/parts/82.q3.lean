/-! the search: what its rows hold -/
def cn9 (P : Nat → Bool) : Nat → Int
  | 0 => 0
  | k + 1 => cn9 P k + bi (P k)
theorem cn9_cg {P Q : Nat → Bool} : ∀ n : Nat, (∀ z : Nat, z < n → P z = Q z) → cn9 P n = cn9 Q n
  | 0, _ => rfl
  | n + 1, h => by rw [cn9, cn9, cn9_cg n (fun z hz => h z (by omega)), h n (by omega)]
theorem cn9_add {P Q R : Nat → Bool} : ∀ n : Nat, (∀ z : Nat, z < n → bi (P z) = bi (Q z) + bi (R z)) → cn9 P n = cn9 Q n + cn9 R n
  | 0, _ => rfl
  | n + 1, h => by
    have := cn9_add n (fun z hz => h z (by omega))
    have := h n (by omega)
    rw [cn9, cn9, cn9]; omega
theorem cn9_0 {P : Nat → Bool} : ∀ n : Nat, (∀ z : Nat, z < n → P z = false) → cn9 P n = 0
  | 0, _ => rfl
  | n + 1, h => by rw [cn9, cn9_0 n (fun z hz => h z (by omega)), h n (by omega)]; rfl
theorem cn9_sp {P : Nat → Bool} {n : Nat} : ∀ m : Nat, cn9 P (n + m) = cn9 P n + cn9 (fun z => P (z + n)) m
  | 0 => by rw [Nat.add_zero]; simp [cn9]
  | m + 1 => by
    rw [← Nat.add_assoc, cn9, cn9, cn9_sp m, Nat.add_comm n m]; omega
def Vd9 (D : DT) (i : Int) (w z : Nat) : Bool := alw (dE D) (dS D) z w && decide (0 ≤ (pzS D i z w).1)
def PS9 (D : DT) (i : Int) (w z : Nat) : Int := 2 * (pzS D i z w).2.1 + bi (pzS D i z w).2.2
def KY9 (D : DT) (i : Int) (w z : Nat) : Int := i + 65536 * (pzS D i z w).1 + 4096 * btc z w + 2 * z
theorem pzS_b {D : DT} {i z : Int} : ∀ {w : Nat}, 0 ≤ (pzS D i z w).1 → (pzS D i z w).2.2 = ebf z w
  | 0, _ => rfl
  | w + 1, h => by
    rw [pzS] at h ⊢
    split at h
    · omega
    · rename_i c
      rw [if_neg c]
      split at h
      · exact absurd h (by decide)
      · rename_i c2
        rw [if_neg c2]; rfl
theorem bit_lo {z w k : Nat} (hk : k < w) : ((z + 2 ^ w : Nat) : Int) / 2 ^ k % 2 = (z : Int) / 2 ^ k % 2 := by
  obtain ⟨d, rfl⟩ : ∃ d, w = k + 1 + d := ⟨w - (k + 1), by omega⟩
  have e : ((z + 2 ^ (k + 1 + d) : Nat) : Int) = (z : Int) + 2 * (2 : Int) ^ d * 2 ^ k := by
    rw [Nat.pow_add, Nat.pow_succ]
    push_cast
    rw [Int.mul_comm ((2 : Int) ^ k) 2, Int.mul_assoc, Int.mul_comm ((2 : Int) ^ k) (2 ^ d), ← Int.mul_assoc]
  rw [e, Int.add_mul_ediv_right _ _ (Int.ne_of_gt (Int.pow_pos (by decide))), Int.add_emod, Int.mul_emod_right]
  simp
theorem bit_hi {z w : Nat} (hz : z < 2 ^ w) : (z : Int) / 2 ^ w % 2 = 0 ∧ ((z + 2 ^ w : Nat) : Int) / 2 ^ w % 2 = 1 := by
  have h0 : (z : Int) / 2 ^ w = 0 := Int.ediv_eq_zero_of_lt (by omega) (by exact_mod_cast hz)
  constructor
  · rw [h0]; rfl
  · have e : ((z + 2 ^ w : Nat) : Int) = (z : Int) + 1 * 2 ^ w := by push_cast; omega
    rw [e, Int.add_mul_ediv_right _ _ (Int.ne_of_gt (Int.pow_pos (by decide))), h0]; rfl
theorem zb_hi {z w : Nat} (hz : z < 2 ^ w) : zb (z : Int) w = false ∧ zb ((z + 2 ^ w : Nat) : Int) w = true := by
  unfold zb; rw [(bit_hi hz).1, (bit_hi hz).2]; exact ⟨rfl, rfl⟩
theorem zb_lo {z w k : Nat} (hk : k < w) : zb ((z + 2 ^ w : Nat) : Int) k = zb (z : Int) k := by unfold zb; rw [bit_lo hk]
theorem pzS_lo {D : DT} {i : Int} {z w : Nat} : ∀ k : Nat, k ≤ w → pzS D i ((z + 2 ^ w : Nat) : Int) k = pzS D i (z : Int) k
  | 0, _ => rfl
  | k + 1, hk => by rw [pzS, pzS, pzS_lo k (by omega), zb_lo (by omega)]
theorem btc_lo {z w : Nat} : ∀ k : Nat, k ≤ w → btc ((z + 2 ^ w : Nat) : Int) k = btc (z : Int) k
  | 0, _ => rfl
  | k + 1, hk => by rw [btc, btc, btc_lo k (by omega), bit_lo (by omega)]
theorem alw_lo {e : Int → Bool} {s : Int → Int} {z w : Nat} : ∀ k : Nat, k ≤ w → alw e s ((z + 2 ^ w : Nat) : Int) k = alw e s (z : Int) k
  | 0, _ => rfl
  | k + 1, hk => by
    rw [alw, alw, alw_lo k (by omega), bit_lo (by omega)]
    by_cases q : 1 ≤ k
    · rw [bit_lo (z := z) (w := w) (k := k - 1) (by omega)]
    · rw [decide_eq_false (show ¬ (1 ≤ (k : Int) ∧ ((z + 2 ^ w : Nat) : Int) / 2 ^ (k - 1) % 2 = 1) by omega), decide_eq_false (show ¬ (1 ≤ (k : Int) ∧ (z : Int) / 2 ^ (k - 1) % 2 = 1) by omega)]
theorem ebf_d {z : Int} {w : Nat} : decide (1 ≤ (w : Int) ∧ z / 2 ^ (w - 1) % 2 = 1) = ebf z w := by
  cases q : ebf z w
  · rw [decide_eq_false_iff_not]
    intro q2
    have := ebf_i.mpr (show 0 < w ∧ z / 2 ^ (w - 1) % 2 = 1 from ⟨by omega, q2.2⟩)
    rw [q] at this; cases this
  · rw [decide_eq_true_iff]
    have := ebf_i.mp q
    exact ⟨by omega, this.2⟩
theorem alw_x0 {e : Int → Bool} {s : Int → Int} {z w : Nat} (hz : z < 2 ^ w) : alw e s (z : Int) (w + 1) = alw e s (z : Int) w := by
  rw [alw, (bit_hi hz).1]; simp
theorem alw_x1 {e : Int → Bool} {s : Int → Int} {z w : Nat} (hz : z < 2 ^ w) : alw e s ((z + 2 ^ w : Nat) : Int) (w + 1) = (alw e s (z : Int) w && elE e s w (ebf z w)) := by
  rw [alw, (bit_hi hz).2, alw_lo w (by omega), ebf_d]
  have : ebf ((z + 2 ^ w : Nat) : Int) w = ebf (z : Int) w := by
    cases w with
    | zero => rfl
    | succ w => exact zb_lo (by omega)
  rw [this]; simp
/-- the price of the word w behind a place f -/
def pr9 (D : DT) (i : Int) (w : Nat) (f : Int) (e : Bool) : Int := wpE D i w (f / 2) (decide (f % 2 = 1)) e
def cd9 (D : DT) (i : Int) (w z : Nat) (e : Bool) : Bool := Vd9 D i w z && (!e || elE (dE D) (dS D) w (decide (PS9 D i w z % 2 = 1))) && decide (0 ≤ pr9 D i w (PS9 D i w z) e)
theorem PS9_p {D : DT} {i : Int} {w z : Nat} (hv : Vd9 D i w z = true) : PS9 D i w z / 2 = (pzS D i z w).2.1 ∧ decide (PS9 D i w z % 2 = 1) = (pzS D i z w).2.2 ∧ (pzS D i z w).2.2 = ebf z w := by
  unfold Vd9 at hv
  rw [Bool.and_eq_true, decide_eq_true_iff] at hv
  have hb := pzS_b hv.2
  unfold PS9
  have := bi_01 (pzS D i z w).2.2
  refine ⟨by omega, ?_, hb⟩
  cases (pzS D i z w).2.2
  · rw [decide_eq_false_iff_not, show bi false = 0 from rfl]; omega
  · rw [decide_eq_true_iff, show bi true = 1 from rfl]; omega
theorem x9_0 {D : DT} {i : Int} {w z : Nat} (hz : z < 2 ^ w) : Vd9 D i (w + 1) z = cd9 D i w z false ∧ (cd9 D i w z false = true → PS9 D i (w + 1) z = toE D w (PS9 D i w z) 0 ∧ KY9 D i (w + 1) z = KY9 D i w z + pr9 D i w (PS9 D i w z) false * 65536 + 0 * (135168 + 2 ^ ((w : Int) + 1).toNat)) := by
  have hzb := (zb_hi hz).1
  by_cases hv : Vd9 D i w z = true
  · obtain ⟨p1, p2, p3⟩ := PS9_p hv
    have hv2 := hv
    unfold Vd9 at hv2
    rw [Bool.and_eq_true, decide_eq_true_iff] at hv2
    have hst : pzS D i z (w + 1) = if pr9 D i w (PS9 D i w z) false < 0 then (-1, 0, false) else ((pzS D i z w).1 + pr9 D i w (PS9 D i w z) false, (pzS D i z w).2.1 + dS D w, false) := by
      rw [pzS, if_neg (by omega), hzb]
      unfold pr9
      rw [p1, p2]
      simp [bi]
    have e1 : Vd9 D i (w + 1) z = cd9 D i w z false := by
      unfold Vd9 cd9
      rw [alw_x0 hz, hst, hv, hv2.1]
      by_cases c : pr9 D i w (PS9 D i w z) false < 0
      · rw [if_pos c, decide_eq_false (show ¬ (0 ≤ pr9 D i w (PS9 D i w z) false) by omega)]; rfl
      · rw [if_neg c, decide_eq_true (show 0 ≤ pr9 D i w (PS9 D i w z) false by omega), decide_eq_true (show 0 ≤ ((pzS D i z w).1 + pr9 D i w (PS9 D i w z) false, (pzS D i z w).2.1 + dS D w, false).1 by dsimp only; omega)]; rfl
    refine ⟨e1, fun hc => ?_⟩
    unfold cd9 at hc
    rw [Bool.and_eq_true, decide_eq_true_iff] at hc
    rw [if_neg (by omega)] at hst
    constructor
    · unfold PS9 toE at *
      rw [hst, p1]; simp [bi]
    · unfold KY9
      rw [hst, btc_s, hzb, show bi false = 0 from rfl]; dsimp only; omega
  · have hv1 : Vd9 D i w z = false := by cases q : Vd9 D i w z <;> simp_all
    have ec : cd9 D i w z false = false := by unfold cd9; rw [hv1]; rfl
    rw [ec]
    refine ⟨?_, fun q => by cases q⟩
    unfold Vd9 at hv1 ⊢
    rw [alw_x0 hz]
    rw [Bool.and_eq_false_iff] at hv1 ⊢
    rcases hv1 with q | q
    · exact Or.inl q
    · right
      rw [decide_eq_false_iff_not] at q ⊢
      rw [pzS, if_pos (by omega)]; exact q
theorem x9_1 {D : DT} {i : Int} {w z : Nat} (hz : z < 2 ^ w) : Vd9 D i (w + 1) (z + 2 ^ w) = cd9 D i w z true ∧ (cd9 D i w z true = true → PS9 D i (w + 1) (z + 2 ^ w) = toE D w (PS9 D i w z) 1 ∧ KY9 D i (w + 1) (z + 2 ^ w) = KY9 D i w z + pr9 D i w (PS9 D i w z) true * 65536 + 1 * (135168 + 2 ^ ((w : Int) + 1).toNat)) := by
  have hzb := (zb_hi hz).2
  have hlo := pzS_lo (D := D) (i := i) (z := z) (w := w) w (by omega)
  by_cases hv : Vd9 D i w z = true
  · obtain ⟨p1, p2, p3⟩ := PS9_p hv
    have hv2 := hv
    unfold Vd9 at hv2
    rw [Bool.and_eq_true, decide_eq_true_iff] at hv2
    have hst : pzS D i ((z + 2 ^ w : Nat) : Int) (w + 1) = if pr9 D i w (PS9 D i w z) true < 0 then (-1, 0, false) else ((pzS D i z w).1 + pr9 D i w (PS9 D i w z) true + 2, (pzS D i z w).2.1 + dS D w - 1, true) := by
      rw [pzS, hlo, if_neg (by omega), hzb]
      unfold pr9
      rw [p1, p2]
      simp [bi]
    have e1 : Vd9 D i (w + 1) (z + 2 ^ w) = cd9 D i w z true := by
      unfold Vd9 cd9
      rw [alw_x1 hz, hst, hv, hv2.1, p2, p3]
      by_cases c : pr9 D i w (PS9 D i w z) true < 0
      · rw [if_pos c, decide_eq_false (show ¬ (0 ≤ pr9 D i w (PS9 D i w z) true) by omega)]; simp
      · rw [if_neg c, decide_eq_true (show 0 ≤ pr9 D i w (PS9 D i w z) true by omega), decide_eq_true (show 0 ≤ ((pzS D i z w).1 + pr9 D i w (PS9 D i w z) true + 2, (pzS D i z w).2.1 + dS D w - 1, true).1 by dsimp only; omega)]; simp
    refine ⟨e1, fun hc => ?_⟩
    unfold cd9 at hc
    rw [Bool.and_eq_true, decide_eq_true_iff] at hc
    rw [if_neg (by omega)] at hst
    constructor
    · unfold PS9 toE at *
      rw [hst, p1]; simp [bi]
    · unfold KY9
      rw [hst, btc_s, btc_lo w (by omega), hzb, show ((w : Int) + 1).toNat = w + 1 by omega]; simp only [bi, if_true]
      have : ((z + 2 ^ w : Nat) : Int) = (z : Int) + 2 ^ w := by push_cast; rfl
      rw [this, Int.pow_succ]; omega
  · have hv1 : Vd9 D i w z = false := by cases q : Vd9 D i w z <;> simp_all
    have ec : cd9 D i w z true = false := by unfold cd9; rw [hv1]; rfl
    rw [ec]
    refine ⟨?_, fun q => by cases q⟩
    unfold Vd9 at hv1 ⊢
    rw [alw_x1 hz]
    rw [Bool.and_eq_false_iff] at hv1 ⊢
    rcases hv1 with q | q
    · left; rw [q]; rfl
    · right
      rw [decide_eq_false_iff_not] at q ⊢
      rw [pzS, hlo, if_pos (by omega)]; exact q
/-- where a word ends that can stand -/
theorem to_lt {D : DT} {i : Int} {w : Nat} {f : Int} {e : Bool} (hM : MtK D) (hs : 1 ≤ dS D w) (hf : 0 ≤ f ∧ f < 40) (hp : 0 ≤ pr9 D i w f e) : 0 ≤ toE D w f (bi e) ∧ toE D w f (bi e) < 40 := by
  have hsz := szk_r (dK D)
  have hca := cs_at (kd := dK D) hM.2.1 hM.2.2
  have hP : dP D = dF D * szk (dK D) := rfl
  have key : ∀ j : Nat, (j : Int) < dS D w → ¬ ((j : Int) = dS D w - 1 ∧ e = true) → f / 2 + j ≤ dP D := by
    intro j hj hl
    unfold pr9 wpE at hp
    have h1 : 0 ≤ wpS D i w (f / 2) (decide (f % 2 = 1)) e (j + 1) := by
      by_cases q : wpS D i w (f / 2) (decide (f % 2 = 1)) e (j + 1) < 0
      · have := wpS_f (n := (dS D w).toNat) (by omega) q
        omega
      · omega
    rw [wpS] at h1
    rw [show (decide ((j : Int) = dS D w - 1) && e) = false by cases e <;> simp_all] at h1
    split at h1
    · omega
    split at h1
    · omega
    rw [if_neg (by decide)] at h1
    split at h1
    · omega
    · rename_i q
      by_cases c : dP D < f / 2 + j
      · exfalso; apply q; unfold spE; rw [if_pos c]; decide
      · omega
  unfold toE
  cases e
  · have := key (dS D w - 1).toNat (by omega) (by simp)
    simp only [bi]; simp; omega
  · simp only [bi, if_true]
    by_cases q : dS D w = 1
    · omega
    · have := key (dS D w - 2).toNat (by omega) (by omega)
      omega
