/-! the search: its answer -/
/-- whether a set and an inversion are a scan -/
def ok9 (D : DT) (i : Int) (z : Nat) : Bool := alw (dE D) (dS D) z (dL D).toNat && decide (0 ≤ prE D i z)
def key9 (D : DT) (i : Int) (z : Nat) : Int := i + 65536 * prE D i z + 4096 * btc z (dL D).toNat + 2 * z
/-- a least key and a count -/
def BK (D : DT) (i fd : Int) (P : Nat → Bool) (b : Int × Int) : Prop :=
  ((b.1 = NOK ∧ ∀ z : Nat, z < 2 ^ (dL D).toNat → P z = false) ∨ ∃ z : Nat, z < 2 ^ (dL D).toNat ∧ P z = true ∧ b.1 = key9 D i z ∧ b.1 < NOK) ∧ (∀ z : Nat, z < 2 ^ (dL D).toNat → P z = true → b.1 ≤ key9 D i z) ∧ b.2 = fd + cn9 P (2 ^ (dL D).toNat)
theorem ok9_v {D : DT} {i : Int} {z : Nat} : ok9 D i z = (Vd9 D i (dL D).toNat z && decide (edP D (pzS D i z (dL D).toNat).2.1 ≠ -1)) := by
  unfold ok9 Vd9 prE
  have := edP_r D (pzS D i z (dL D).toNat).2.1
  cases alw (dE D) (dS D) z (dL D).toNat
  · rfl
  · rw [Bool.true_and, Bool.true_and]
    by_cases c : (pzS D i z (dL D).toNat).1 < 0
    · rw [if_pos c, decide_eq_false (show ¬ (0 ≤ (pzS D i z (dL D).toNat).1) by omega)]; rfl
    · rw [if_neg c, decide_eq_true (show 0 ≤ (pzS D i z (dL D).toNat).1 by omega)]
      by_cases c2 : edP D (pzS D i z (dL D).toNat).2.1 = -1
      · rw [if_pos c2, decide_eq_false (show ¬ (0 ≤ (-1 : Int)) by decide), decide_eq_false (fun q => q c2)]; rfl
      · rw [if_neg c2, decide_eq_true c2, decide_eq_true (by omega)]; rfl
theorem Vd_e {F : Nat → Int} {A : Nat → Int → Int} {D : DT} (K : LK F A D) {i : Int} {z : Nat} (hv : Vd9 D i (dL D).toNat z = true) : PS9 D i (dL D).toNat z = 2 * (pzS D i z (dL D).toNat).2.1 := by
  obtain ⟨p1, p2, p3⟩ := PS9_p hv
  unfold Vd9 at hv
  rw [Bool.and_eq_true] at hv
  have := ebf_end K hv.1
  unfold PS9
  rw [p3, this]; simp [bi]
theorem srB9 {F : Nat → Int} {A : Nat → Int → Int} {D : DT} (K : LK F A D) (hM : MtK D) {i fd : Int} (hi : i = 0 ∨ i = 1) : BK D i fd (ok9 D i) (srB D i fd) := by
  have hD : sOK D := ⟨K.2.1.2, fun w w0 w1 => (K.2.2.1 w w0 w1).1⟩
  obtain ⟨H, hp⟩ := dp9 hD hM hi (dL D).toNat (by have := K.2.1; omega)
  have h12 : 2 ^ (dL D).toNat ≤ 2 ^ 12 := Nat.pow_le_pow_right (by decide) (by have := K.2.1; omega)
  have key : ∀ z : Nat, z < 2 ^ (dL D).toNat → ok9 D i z = true → key9 D i z = KY9 D i (dL D).toNat z + edP D (pzS D i z (dL D).toNat).2.1 * 65536 := by
    intro z z1 ho
    rw [ok9_v, Bool.and_eq_true, decide_eq_true_iff] at ho
    have hv := ho.1
    unfold Vd9 at hv
    rw [Bool.and_eq_true, decide_eq_true_iff] at hv
    unfold key9 KY9 prE
    rw [if_neg (by omega), if_neg ho.2]; omega
  have kr : ∀ z : Nat, z < 2 ^ (dL D).toNat → ok9 D i z = true → key9 D i z < NOK := by
    intro z z1 ho
    have := prE_r9 (i := i) (z := z) hD (by have := K.2.1; omega)
    have := btc_r9 (z := z) (dL D).toNat
    have := K.2.1
    unfold key9 NOK; omega
  unfold srB
  generalize swF D i (dL D).toNat = kw at H
  have st : ∀ k : Nat, k ≤ 20 → BK D i fd (fun z => ok9 D i z && decide (PS9 D i (dL D).toNat z < 2 * k)) (bsF D kw.1 kw.2 fd k) := by
    intro k
    induction k with
    | zero =>
      intro _
      have no : ∀ z : Nat, z < 2 ^ (dL D).toNat → (ok9 D i z && decide (PS9 D i (dL D).toNat z < 2 * ((0 : Nat) : Int))) = false := by
        intro z z1
        cases c : ok9 D i z
        · rfl
        · rw [ok9_v, Bool.and_eq_true] at c
          have := hp z z1 c.1
          rw [decide_eq_false (by omega)]; rfl
      exact ⟨Or.inl ⟨rfl, no⟩, (fun z z1 q => absurd (show true = false from q.symm.trans (no z z1)) (by decide)), by rw [cn9_0 _ no]; show fd = fd + 0; omega⟩
    | succ k ih =>
      intro hk
      obtain ⟨a1, a2, a3⟩ := ih (by omega)
      obtain ⟨d1, d2, d3⟩ := H (2 * k) (by omega) (by omega)
      rw [bsF]
      generalize bsF D kw.1 kw.2 fd k = b at a1 a2 a3 ⊢
      unfold bs1
      have atk : ∀ z : Nat, Vd9 D i (dL D).toNat z = true → PS9 D i (dL D).toNat z < 2 * ((k + 1 : Nat) : Int) → ¬ PS9 D i (dL D).toNat z < 2 * (k : Int) → PS9 D i (dL D).toNat z = 2 * k ∧ (pzS D i z (dL D).toNat).2.1 = k := by
        intro z hv q1 q2
        have := Vd_e K hv
        omega
      by_cases c : edP D k ≠ -1 ∧ kw.1 (2 * k) ≠ NOK
      · rw [if_pos c]
        have new : ∀ z : Nat, z < 2 ^ (dL D).toNat → Vd9 D i (dL D).toNat z = true → PS9 D i (dL D).toNat z = 2 * k → ok9 D i z = true ∧ key9 D i z = KY9 D i (dL D).toNat z + edP D k * 65536 := by
          intro z z1 hv q
          have e1 := Vd_e K hv
          have e2 : (pzS D i z (dL D).toNat).2.1 = k := by omega
          have o : ok9 D i z = true := by rw [ok9_v, hv, e2, decide_eq_true c.1]; rfl
          exact ⟨o, by rw [key z z1 o, e2]⟩
        refine ⟨?_, fun z z1 q => ?_, ?_⟩
        · dsimp only
          rcases d1 with d | ⟨z, z1, dv, dp, dk, dn⟩
          · exact absurd d.1 c.2
          · obtain ⟨n1, n2⟩ := new z z1 dv dp
            have kz := kr z z1 n1
            have nz : (ok9 D i z && decide (PS9 D i (dL D).toNat z < 2 * ((k + 1 : Nat) : Int))) = true := by rw [n1, decide_eq_true (by omega)]; rfl
            rcases a1 with ⟨b1, b2⟩ | ⟨z', z1', b1, b2, b3⟩
            · right; exact ⟨z, z1, nz, by omega, by omega⟩
            · by_cases m : b.1 ≤ kw.1 (2 * k) + edP D k * 65536
              · right
                refine ⟨z', z1', ?_, by omega, by omega⟩
                rw [Bool.and_eq_true, decide_eq_true_iff] at b1 ⊢
                exact ⟨b1.1, by omega⟩
              · right; exact ⟨z, z1, nz, by omega, by omega⟩
        · dsimp only
          rw [Bool.and_eq_true, decide_eq_true_iff] at q
          by_cases m : PS9 D i (dL D).toNat z < 2 * (k : Int)
          · have := a2 z z1 (show (ok9 D i z && decide (PS9 D i (dL D).toNat z < 2 * (k : Int))) = true by rw [q.1, decide_eq_true m]; rfl)
            omega
          · have hv := q.1
            rw [ok9_v, Bool.and_eq_true] at hv
            obtain ⟨m1, m2⟩ := atk z hv.1 q.2 m
            have := (new z z1 hv.1 m1).2
            have := d2 z z1 hv.1 m1
            omega
        · dsimp only
          rw [a3, d3, cn9_add (P := fun z => ok9 D i z && decide (PS9 D i (dL D).toNat z < 2 * ((k + 1 : Nat) : Int))) (Q := fun z => ok9 D i z && decide (PS9 D i (dL D).toNat z < 2 * (k : Int))) (R := fun z => Vd9 D i (dL D).toNat z && decide (PS9 D i (dL D).toNat z = 2 * k))]
          · omega
          · intro z z1
            cases hv : Vd9 D i (dL D).toNat z
            · have : ok9 D i z = false := by rw [ok9_v, hv]; rfl
              rw [this]; rfl
            · by_cases m : PS9 D i (dL D).toNat z = 2 * k
              · rw [(new z z1 hv m).1, m, decide_eq_true rfl, decide_eq_true (show 2 * (k : Int) < 2 * ((k + 1 : Nat) : Int) by omega), decide_eq_false (show ¬ 2 * (k : Int) < 2 * (k : Int) by omega)]; rfl
              · rw [decide_eq_false m, Bool.and_false]
                have e1 := Vd_e K hv
                rw [show decide (PS9 D i (dL D).toNat z < 2 * ((k + 1 : Nat) : Int)) = decide (PS9 D i (dL D).toNat z < 2 * (k : Int)) by congr 1; apply propext; omega]
                simp [bi]
      · rw [if_neg c]
        have none9 : ∀ z : Nat, z < 2 ^ (dL D).toNat → ok9 D i z = true → PS9 D i (dL D).toNat z ≠ 2 * k := by
          intro z z1 ho q
          have ho2 := ho
          rw [ok9_v, Bool.and_eq_true, decide_eq_true_iff] at ho2
          have e1 := Vd_e K ho2.1
          rw [show (pzS D i z (dL D).toNat).2.1 = k by omega] at ho2
          apply c
          refine ⟨ho2.2, fun q2 => ?_⟩
          rcases d1 with d | ⟨z', _, _, _, _, dn⟩
          · exact d.2 z z1 ho2.1 q
          · exact dn q2
        have same : ∀ z : Nat, z < 2 ^ (dL D).toNat → (ok9 D i z && decide (PS9 D i (dL D).toNat z < 2 * ((k + 1 : Nat) : Int))) = (ok9 D i z && decide (PS9 D i (dL D).toNat z < 2 * (k : Int))) := by
          intro z z1
          cases ho : ok9 D i z
          · rfl
          · have n9 := none9 z z1 ho
            rw [ok9_v, Bool.and_eq_true] at ho
            have e1 := Vd_e K ho.1
            congr 2; apply propext; omega
        refine ⟨?_, fun z z1 q => a2 z z1 ((same z z1).symm.trans q), ?_⟩
        · rcases a1 with ⟨b1, b2⟩ | ⟨z', z1', b1, b2⟩
          · exact Or.inl ⟨b1, fun z z1 => (same z z1).trans (b2 z z1)⟩
          · exact Or.inr ⟨z', z1', (same z' z1').trans b1, b2⟩
        · rw [a3, cn9_cg _ same]
  have fin := st 20 (by omega)
  have e20 : ∀ z : Nat, z < 2 ^ (dL D).toNat → (ok9 D i z && decide (PS9 D i (dL D).toNat z < 2 * ((20 : Nat) : Int))) = ok9 D i z := by
    intro z z1
    cases ho : ok9 D i z
    · rfl
    · rw [ok9_v, Bool.and_eq_true] at ho
      have := hp z z1 ho.1
      rw [decide_eq_true (by omega)]; rfl
  obtain ⟨a1, a2, a3⟩ := fin
  refine ⟨?_, fun z z1 q => a2 z z1 ((e20 z z1).trans q), by rw [a3, cn9_cg _ e20]⟩
  rcases a1 with ⟨b1, b2⟩ | ⟨z', z1', b1, b2⟩
  · exact Or.inl ⟨b1, fun z z1 => (e20 z z1).symm.trans (b2 z z1)⟩
  · exact Or.inr ⟨z', z1', (e20 z' z1').symm.trans b1, b2⟩
