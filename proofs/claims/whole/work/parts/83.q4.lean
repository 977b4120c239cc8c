/-! the search: its steps -/
/-- whether a choice behind w words is among the first T -/
def un9 (D : DT) (i : Int) (w : Nat) (T q : Int) (e : Bool) (z : Nat) : Bool := cd9 D i w z e && decide (2 * PS9 D i w z + bi e < T) && decide (toE D w (PS9 D i w z) (bi e) = q)
def ky9 (D : DT) (i : Int) (w : Nat) (e : Bool) (z : Nat) : Int := KY9 D i w z + pr9 D i w (PS9 D i w z) e * 65536 + bi e * (135168 + 2 ^ ((w : Int) + 1).toNat)
def SI9 (D : DT) (i : Int) (w : Nat) (T : Int) (n : (Int → Int) × (Int → Int)) : Prop :=
  ∀ q, 0 ≤ q → q < 40 → (n.1 q = NOK ∨ ∃ (z : Nat) (e : Bool), z < 2 ^ w ∧ un9 D i w T q e z = true ∧ n.1 q = ky9 D i w e z) ∧ (∀ (z : Nat) (e : Bool), z < 2 ^ w → un9 D i w T q e z = true → n.1 q ≤ ky9 D i w e z) ∧
    n.2 q = cn9 (un9 D i w T q false) (2 ^ w) + cn9 (un9 D i w T q true) (2 ^ w)
/-- what the rows hold behind w words -/
def DPI (D : DT) (i : Int) (w : Nat) (ky wy : Int → Int) : Prop :=
  ∀ p, 0 ≤ p → p < 40 → ((ky p = NOK ∧ ∀ z : Nat, z < 2 ^ w → Vd9 D i w z = true → PS9 D i w z ≠ p) ∨ (∃ z : Nat, z < 2 ^ w ∧ Vd9 D i w z = true ∧ PS9 D i w z = p ∧ ky p = KY9 D i w z ∧ ky p ≠ NOK)) ∧ (∀ z : Nat, z < 2 ^ w → Vd9 D i w z = true → PS9 D i w z = p → ky p ≤ KY9 D i w z) ∧
    wy p = cn9 (fun z => Vd9 D i w z && decide (PS9 D i w z = p)) (2 ^ w)
theorem un9_s {D : DT} {i : Int} {w : Nat} {T q : Int} {e : Bool} {z : Nat} (h : ¬ (2 * PS9 D i w z + bi e = T ∧ cd9 D i w z e = true ∧ toE D w (PS9 D i w z) (bi e) = q)) : un9 D i w (T + 1) q e z = un9 D i w T q e z := by
  unfold un9
  cases c : cd9 D i w z e
  · rfl
  · rw [Bool.true_and, Bool.true_and]
    by_cases c2 : toE D w (PS9 D i w z) (bi e) = q
    · rw [decide_eq_true c2, Bool.and_true, Bool.and_true]
      have : 2 * PS9 D i w z + bi e ≠ T := fun c3 => h ⟨c3, c, c2⟩
      congr 1; apply propext; omega
    · rw [decide_eq_false c2, Bool.and_false, Bool.and_false]
/-- nothing new -/
theorem SI9_same {D : DT} {i : Int} {w : Nat} {T : Int} {n : (Int → Int) × (Int → Int)} (h : SI9 D i w T n) (hz : ∀ (z : Nat) (e : Bool) (q : Int), z < 2 ^ w → 0 ≤ q → q < 40 → ¬ (2 * PS9 D i w z + bi e = T ∧ cd9 D i w z e = true ∧ toE D w (PS9 D i w z) (bi e) = q)) : SI9 D i w (T + 1) n := by
  intro q q0 q1
  obtain ⟨h1, h2, h3⟩ := h q q0 q1
  refine ⟨?_, fun z e z1 hu => h2 z e z1 (by rw [← un9_s (hz z e q z1 q0 q1)]; exact hu), ?_⟩
  · rcases h1 with h1 | ⟨z, e, z1, hu, hk⟩
    · exact Or.inl h1
    · exact Or.inr ⟨z, e, z1, by rw [un9_s (hz z e q z1 q0 q1)]; exact hu, hk⟩
  · rw [h3, cn9_cg _ (fun z z1 => (un9_s (hz z false q z1 q0 q1)).symm), cn9_cg (P := un9 D i w T q true) _ (fun z z1 => (un9_s (hz z true q z1 q0 q1)).symm)]
theorem ex9 {D : DT} {i : Int} {w : Nat} {ky wy : Int → Int} {f : Int} {e0 : Bool} {n : (Int → Int) × (Int → Int)} (H : DPI D i w ky wy) (hf : 0 ≤ f ∧ f < 40) (hk : ky f ≠ NOK) (he : e0 = true → elE (dE D) (dS D) w (decide (f % 2 = 1)) = true) (h : SI9 D i w (2 * f + bi e0) n) :
    SI9 D i w (2 * f + bi e0 + 1) (ex1 D w ky wy f (bi e0) (wpE D i w (f / 2) (decide (f % 2 = 1)) e0) n) := by
  have hb := bi_01 e0
  have par : ∀ (z : Nat) (e : Bool), 2 * PS9 D i w z + bi e = 2 * f + bi e0 → PS9 D i w z = f ∧ e = e0 := by
    intro z e q
    have := bi_01 e
    refine ⟨by omega, ?_⟩
    cases e <;> cases e0 <;> simp [bi] at q ⊢ <;> omega
  obtain ⟨d1, d2, d3⟩ := H f hf.1 hf.2
  have hpr : ∀ z : Nat, PS9 D i w z = f → pr9 D i w (PS9 D i w z) e0 = wpE D i w (f / 2) (decide (f % 2 = 1)) e0 := fun z q => by rw [q]; rfl
  have hcd : ∀ z : Nat, PS9 D i w z = f → cd9 D i w z e0 = (Vd9 D i w z && decide (0 ≤ wpE D i w (f / 2) (decide (f % 2 = 1)) e0)) := fun z q => by
    unfold cd9
    rw [hpr z q, q]
    cases e0
    · simp
    · rw [he rfl]; simp
  generalize hp : wpE D i w (f / 2) (decide (f % 2 = 1)) e0 = p at hpr hcd ⊢
  unfold ex1
  by_cases c : p < 0 ∨ 40 ≤ toE D w f (bi e0)
  · rw [if_pos c]
    refine SI9_same h (fun z e q z1 q0 q1 hh => ?_)
    obtain ⟨a1, rfl⟩ := par z e hh.1
    have a2 := hh.2.1
    rw [hcd z a1, Bool.and_eq_true, decide_eq_true_iff] at a2
    have a3 := hh.2.2
    rw [a1] at a3
    omega
  · rw [if_neg c]
    intro q q0 q1
    obtain ⟨h1, h2, h3⟩ := h q q0 q1
    dsimp only
    by_cases eq9 : q = toE D w f (bi e0)
    · rw [eq9] at h1 h2 h3 ⊢
      rw [up_s, up_s]
      have new : ∀ z : Nat, PS9 D i w z = f → Vd9 D i w z = true → un9 D i w (2 * f + bi e0 + 1) (toE D w f (bi e0)) e0 z = true ∧ un9 D i w (2 * f + bi e0) (toE D w f (bi e0)) e0 z = false ∧ ky9 D i w e0 z = KY9 D i w z + p * 65536 + bi e0 * (135168 + 2 ^ ((w : Int) + 1).toNat) := by
        intro z q2 q3
        unfold un9 ky9
        rw [hcd z q2, q3, hpr z q2, q2, decide_eq_true (show 0 ≤ p by omega), decide_eq_true (show 2 * f + bi e0 < 2 * f + bi e0 + 1 by omega), decide_eq_false (show ¬ (2 * f + bi e0 < 2 * f + bi e0) by omega)]
        simp
      have old : ∀ (z : Nat) (e : Bool), un9 D i w (2 * f + bi e0 + 1) (toE D w f (bi e0)) e z = true → un9 D i w (2 * f + bi e0) (toE D w f (bi e0)) e z = true ∨ (PS9 D i w z = f ∧ e = e0 ∧ Vd9 D i w z = true) := by
        intro z e hu
        by_cases q2 : 2 * PS9 D i w z + bi e = 2 * f + bi e0
        · obtain ⟨a1, rfl⟩ := par z e q2
          right
          unfold un9 cd9 at hu
          simp only [Bool.and_eq_true] at hu
          exact ⟨a1, rfl, hu.1.1.1.1⟩
        · left
          rw [← un9_s (fun q3 => q2 q3.1)]; exact hu
      refine ⟨?_, ?_, ?_⟩
      · unfold kyE
        rcases d1 with d1 | ⟨z, z1, dv, dp, dk, dn⟩
        · exact absurd d1.1 hk
        · obtain ⟨n1, n2, n3⟩ := new z dp dv
          rcases h1 with h1 | ⟨z', e', z1', hu', hk'⟩
          · by_cases m : NOK ≤ ky f + p * 65536 + bi e0 * (135168 + 2 ^ ((w : Int) + 1).toNat)
            · left; rw [h1]; omega
            · right; exact ⟨z, e0, z1, n1, by rw [h1, n3, ← dk]; omega⟩
          · by_cases m : n.1 (toE D w f (bi e0)) ≤ ky f + p * 65536 + bi e0 * (135168 + 2 ^ ((w : Int) + 1).toNat)
            · right
              refine ⟨z', e', z1', ?_, by rw [← hk']; omega⟩
              by_cases q2 : 2 * PS9 D i w z' + bi e' = 2 * f + bi e0
              · exfalso
                unfold un9 at hu'
                simp only [Bool.and_eq_true, decide_eq_true_iff] at hu'
                omega
              · rw [un9_s (fun q3 => q2 q3.1)]; exact hu'
            · right; exact ⟨z, e0, z1, n1, by rw [n3, ← dk]; omega⟩
      · intro z e z1 hu
        unfold kyE
        rcases old z e hu with hu | ⟨a1, rfl, a3⟩
        · have := h2 z e z1 hu; omega
        · rw [(new z a1 a3).2.2]
          have := d2 z z1 a3 a1
          omega
      · have ce : ∀ e : Bool, e ≠ e0 → ∀ z : Nat, un9 D i w (2 * f + bi e0 + 1) (toE D w f (bi e0)) e z = un9 D i w (2 * f + bi e0) (toE D w f (bi e0)) e z := fun e hne z => un9_s (fun q3 => hne (par z e q3.1).2)
        have c0 : cn9 (un9 D i w (2 * f + bi e0 + 1) (toE D w f (bi e0)) e0) (2 ^ w) = cn9 (un9 D i w (2 * f + bi e0) (toE D w f (bi e0)) e0) (2 ^ w) + wy f := by
          rw [d3]
          refine cn9_add _ (fun z z1 => ?_)
          by_cases a1 : PS9 D i w z = f
          · cases a3 : Vd9 D i w z
            · have f1 : ∀ T, un9 D i w T (toE D w f (bi e0)) e0 z = false := fun T => by unfold un9 cd9; rw [a3]; simp
              rw [f1, f1]; simp [bi]
            · obtain ⟨n1, n2, n3⟩ := new z a1 a3
              rw [n1, n2, decide_eq_true a1]; simp [bi]
          · rw [un9_s (fun q3 => a1 (par z e0 q3.1).1), decide_eq_false a1]; simp [bi]
        rw [h3]
        cases e0
        · rw [c0, cn9_cg (P := un9 D i w (2 * f + bi false + 1) (toE D w f (bi false)) true) _ (fun z _ => ce true (by decide) z)]; omega
        · rw [c0, cn9_cg (P := un9 D i w (2 * f + bi true + 1) (toE D w f (bi true)) false) _ (fun z _ => ce false (by decide) z)]; omega
    · rw [up_n eq9, up_n eq9]
      have same : ∀ (z : Nat) (e : Bool), un9 D i w (2 * f + bi e0 + 1) q e z = un9 D i w (2 * f + bi e0) q e z := fun z e => un9_s (fun q3 => by
        obtain ⟨a1, rfl⟩ := par z e q3.1
        exact eq9 (by rw [← q3.2.2, a1]))
      refine ⟨?_, fun z e z1 hu => h2 z e z1 (by rw [← same]; exact hu), ?_⟩
      · rcases h1 with h1 | ⟨z, e, z1, hu, hk2⟩
        · exact Or.inl h1
        · exact Or.inr ⟨z, e, z1, by rw [same]; exact hu, hk2⟩
      · rw [h3, cn9_cg _ (fun z _ => (same z false).symm), cn9_cg (P := un9 D i w (2 * f + bi e0) q true) _ (fun z _ => (same z true).symm)]
theorem st9 {D : DT} {i : Int} {w : Nat} {ky wy : Int → Int} {n : (Int → Int) × (Int → Int)} (H : DPI D i w ky wy) (hn : SI9 D i w 0 n) : ∀ f : Nat, f ≤ 40 → SI9 D i w (2 * f) (stF D i w ky wy n f)
  | 0, _ => hn
  | f + 1, hf => by
    have ih := st9 H hn f (by omega)
    rw [stF, show 2 * ((f + 1 : Nat) : Int) = 2 * (f : Int) + 1 + 1 by omega]
    unfold st1
    have zf : ∀ (z : Nat) (e : Bool) (T : Int), 2 * PS9 D i w z + bi e = T → (T = 2 * f ∨ T = 2 * f + 1) → PS9 D i w z = f := fun z e T q1 q2 => by have := bi_01 e; omega
    by_cases c : ky f = NOK
    · rw [if_pos c]
      have no : ∀ z : Nat, z < 2 ^ w → Vd9 D i w z = true → PS9 D i w z ≠ f := by
        rcases (H f (by omega) (by omega)).1 with d | ⟨z, _, _, _, _, dn⟩
        · exact d.2
        · exact absurd c dn
      have no2 : ∀ T : Int, (T = 2 * f ∨ T = 2 * f + 1) → ∀ (z : Nat) (e : Bool) (q : Int), z < 2 ^ w → 0 ≤ q → q < 40 → ¬ (2 * PS9 D i w z + bi e = T ∧ cd9 D i w z e = true ∧ toE D w (PS9 D i w z) (bi e) = q) := by
        intro T hT z e q z1 _ _ hh
        have hv : Vd9 D i w z = true := by
          have := hh.2.1
          unfold cd9 at this
          simp only [Bool.and_eq_true] at this
          exact this.1.1
        exact no z z1 hv (zf z e T hh.1 hT)
      exact SI9_same (SI9_same ih (no2 _ (Or.inl rfl))) (no2 _ (Or.inr rfl))
    · rw [if_neg c]
      have s1' := ex9 (e0 := false) H ⟨by omega, by omega⟩ c (fun q => by cases q) (by rw [show bi false = 0 from rfl, Int.add_zero]; exact ih)
      rw [show bi false = 0 from rfl, Int.add_zero] at s1'
      by_cases c2 : elE (dE D) (dS D) w (decide ((f : Int) % 2 = 1)) = true
      · rw [if_pos c2]
        exact ex9 (e0 := true) H ⟨by omega, by omega⟩ c (fun _ => c2) s1'
      · rw [if_neg c2]
        refine SI9_same s1' (fun z e q z1 _ _ hh => ?_)
        have hP := zf z e _ hh.1 (Or.inr rfl)
        have he : e = true := by
          have := hh.1
          rw [hP] at this
          cases e
          · rw [show bi false = 0 from rfl] at this; omega
          · rfl
        subst he
        have := hh.2.1
        unfold cd9 at this
        simp only [Bool.and_eq_true] at this
        rw [hP] at this
        exact c2 (by simpa using this.1.2)
theorem KY_r {D : DT} {i : Int} {w z : Nat} (hD : sOK D) (hw : (w : Int) ≤ dL D) (hi : i = 0 ∨ i = 1) (hz : z < 2 ^ w) : KY9 D i w z < NOK := by
  have h1 := pzS_r (i := i) (z := z) hD w hw
  have h2 := btc_r9 (z := z) w
  have h3 : 2 ^ w ≤ 2 ^ 12 := Nat.pow_le_pow_right (by decide) (by have := hD.1; omega)
  have := hD.1
  unfold KY9 NOK; omega
theorem dp9 {D : DT} {i : Int} (hD : sOK D) (hM : MtK D) (hi : i = 0 ∨ i = 1) : ∀ w : Nat, (w : Int) ≤ dL D → DPI D i w (swF D i w).1 (swF D i w).2 ∧ ∀ z : Nat, z < 2 ^ w → Vd9 D i w z = true → 0 ≤ PS9 D i w z ∧ PS9 D i w z < 40
  | 0, _ => by
    have hv : ∀ z : Nat, z < 2 ^ 0 → z = 0 := fun z q => by omega
    have v0 : Vd9 D i 0 0 = true := by unfold Vd9; rw [alw, pzS]; simp; split <;> omega
    have p0 : ∀ z, PS9 D i 0 z = 0 := fun z => rfl
    have k0 : KY9 D i 0 0 = i * 131073 := by unfold KY9; rw [pzS, btc]; rcases hi with q | q <;> rw [q] <;> rfl
    refine ⟨fun p q0 q1 => ?_, fun z _ _ => by rw [p0]; omega⟩
    show ((up (fun _ => NOK) 0 (i * 131073) p = NOK ∧ _) ∨ _) ∧ (∀ z : Nat, _ → _ → _ → up (fun _ => NOK) 0 (i * 131073) p ≤ _) ∧ up (fun _ => 0) 0 1 p = _
    by_cases e : p = 0
    · subst e
      rw [up_s, up_s]
      refine ⟨Or.inr ⟨0, by decide, v0, p0 0, k0.symm, show i * 131073 ≠ NOK by rcases hi with q | q <;> rw [q] <;> decide⟩, fun z z1 _ _ => by rw [hv z z1, k0]; omega, ?_⟩
      show (1 : Int) = cn9 _ 1
      rw [cn9, cn9, v0, p0]; rfl
    · rw [up_n e, up_n e]
      refine ⟨Or.inl ⟨rfl, fun z _ _ => by rw [p0]; omega⟩, fun z _ _ q => absurd q (by rw [p0]; omega), ?_⟩
      rw [cn9_0 _ (fun z _ => by rw [p0, decide_eq_false (by omega)]; simp)]
  | w + 1, hw => by
    obtain ⟨H, hp⟩ := dp9 hD hM hi w (by omega)
    have hs := hD.2 w (by omega) (by omega)
    have st := st9 (D := D) (i := i) (w := w) (n := (fun _ => NOK, fun _ => 0)) H (fun q q0 q1 => by
      have no : ∀ (z : Nat) (e : Bool), z < 2 ^ w → un9 D i w 0 q e z = false := by
        intro z e z1
        cases q2 : un9 D i w 0 q e z
        · rfl
        · exfalso
          unfold un9 cd9 at q2
          simp only [Bool.and_eq_true, decide_eq_true_iff] at q2
          have := hp z z1 q2.1.1.1.1
          have := bi_01 e
          omega
      refine ⟨Or.inl rfl, fun z e z1 hu => ?_, ?_⟩
      · rw [no z e z1] at hu; cases hu
      · rw [cn9_0 _ (fun z z1 => no z false z1), cn9_0 _ (fun z z1 => no z true z1)]; rfl) 40 (by omega)
    have e2 : 2 ^ (w + 1) = 2 ^ w + 2 ^ w := by rw [Nat.pow_succ]; omega
    have uc : ∀ (z : Nat) (e : Bool) (q : Int), z < 2 ^ w → un9 D i w (2 * ((40 : Nat) : Int)) q e z = (cd9 D i w z e && decide (toE D w (PS9 D i w z) (bi e) = q)) := by
      intro z e q z1
      unfold un9
      cases c : cd9 D i w z e
      · rfl
      · have c2 := c
        unfold cd9 at c2
        simp only [Bool.and_eq_true, decide_eq_true_iff] at c2
        have := hp z z1 c2.1.1
        have := bi_01 e
        rw [decide_eq_true (show 2 * PS9 D i w z + bi e < 2 * ((40 : Nat) : Int) by omega)]; simp
    have tr : ∀ (z : Nat) (e : Bool), z < 2 ^ w → cd9 D i w z e = true → 0 ≤ toE D w (PS9 D i w z) (bi e) ∧ toE D w (PS9 D i w z) (bi e) < 40 := by
      intro z e z1 hc
      unfold cd9 at hc
      simp only [Bool.and_eq_true, decide_eq_true_iff] at hc
      exact to_lt hM hs.1 (hp z z1 hc.1.1) hc.2
    have sp : ∀ z' : Nat, z' < 2 ^ (w + 1) → Vd9 D i (w + 1) z' = true → ∃ (z : Nat) (e : Bool), z < 2 ^ w ∧ cd9 D i w z e = true ∧ PS9 D i (w + 1) z' = toE D w (PS9 D i w z) (bi e) ∧ KY9 D i (w + 1) z' = ky9 D i w e z := by
      intro z' z1 hv
      by_cases c : z' < 2 ^ w
      · have x := x9_0 (D := D) (i := i) c
        rw [x.1] at hv
        exact ⟨z', false, c, hv, (x.2 hv).1, (x.2 hv).2⟩
      · have c2 : z' - 2 ^ w < 2 ^ w := by omega
        have x := x9_1 (D := D) (i := i) c2
        rw [show z' - 2 ^ w + 2 ^ w = z' by omega] at x
        rw [x.1] at hv
        exact ⟨z' - 2 ^ w, true, c2, hv, (x.2 hv).1, (x.2 hv).2⟩
    have sq : ∀ (z : Nat) (e : Bool), z < 2 ^ w → cd9 D i w z e = true → ∃ z' : Nat, z' < 2 ^ (w + 1) ∧ Vd9 D i (w + 1) z' = true ∧ PS9 D i (w + 1) z' = toE D w (PS9 D i w z) (bi e) ∧ KY9 D i (w + 1) z' = ky9 D i w e z := by
      intro z e z1 hc
      cases e
      · have x := x9_0 (D := D) (i := i) z1
        exact ⟨z, by omega, by rw [x.1]; exact hc, (x.2 hc).1, (x.2 hc).2⟩
      · have x := x9_1 (D := D) (i := i) z1
        exact ⟨z + 2 ^ w, by omega, by rw [x.1]; exact hc, (x.2 hc).1, (x.2 hc).2⟩
    refine ⟨fun q q0 q1 => ?_, fun z' z1 hv => ?_⟩
    · obtain ⟨s1', s2', s3'⟩ := st q q0 q1
      rw [swF]
      generalize stF D i w (swF D i w).1 (swF D i w).2 (fun _ => NOK, fun _ => 0) 40 = n at s1' s2' s3' ⊢
      have low : ∀ z' : Nat, z' < 2 ^ (w + 1) → Vd9 D i (w + 1) z' = true → PS9 D i (w + 1) z' = q → n.1 q ≤ KY9 D i (w + 1) z' := by
        intro z' z1 hv hq
        obtain ⟨z, e, a1, a2, a3, a4⟩ := sp z' z1 hv
        rw [a4]
        exact s2' z e a1 (by rw [uc z e q a1, a2, ← hq, a3]; simp)
      refine ⟨?_, low, ?_⟩
      · rcases s1' with a | ⟨z, e, z1, hu, hk⟩
        · by_cases c : ∃ z' : Nat, z' < 2 ^ (w + 1) ∧ Vd9 D i (w + 1) z' = true ∧ PS9 D i (w + 1) z' = q
          · obtain ⟨z', b1, b2, b3⟩ := c
            have := low z' b1 b2 b3
            have := KY_r (i := i) hD hw hi b1
            omega
          · exact Or.inl ⟨a, fun z' b1 b2 b3 => c ⟨z', b1, b2, b3⟩⟩
        · rw [uc z e q z1, Bool.and_eq_true, decide_eq_true_iff] at hu
          obtain ⟨z', b1, b2, b3, b4⟩ := sq z e z1 hu.1
          have := KY_r (i := i) hD hw hi b1
          exact Or.inr ⟨z', b1, b2, by rw [b3]; exact hu.2, by rw [b4]; exact hk, by rw [hk, ← b4]; omega⟩
      · rw [s3', e2, cn9_sp]
        congr 1
        · refine cn9_cg _ (fun z z1 => ?_)
          have x := x9_0 (D := D) (i := i) z1
          rw [uc z false q z1, x.1]
          cases c : cd9 D i w z false
          · rfl
          · rw [(x.2 c).1]; rfl
        · refine cn9_cg _ (fun z z1 => ?_)
          have x := x9_1 (D := D) (i := i) z1
          rw [uc z true q z1, x.1]
          cases c : cd9 D i w z true
          · rfl
          · rw [(x.2 c).1]; rfl
    · obtain ⟨z, e, a1, a2, a3, a4⟩ := sp z' z1 hv
      rw [a3]; exact tr z e a1 a2
