/-! the best scan, by either side -/
abbrev b59 : Type := Int × Int × Int × Int × Int
def kb9 (b : b59) : Int := b.2.2.2.2 + 65536 * b.1 + 4096 * btc b.2.1 12 + 2 * b.2.1
/-- what some scans give -/
def BR9 (D : DT) (P : Int → Nat → Bool) (b : b59) : Prop :=
  ((b.1 < 0 ∧ ∀ (i : Int) (z : Nat), P i z = false) ∨ (∃ (i : Int) (z : Nat), P i z = true ∧ b.1 = prE D i z ∧ b.2.1 = z ∧ b.2.2.1 = smS (dS D) (dL D).toNat - btc z (dL D).toNat ∧ b.2.2.2.2 = i)) ∧
  (∀ (i : Int) (z : Nat), P i z = true → kb9 b ≤ key9 D i z) ∧ b.2.2.2.1 = cn9 (P 0) (2 ^ (dL D).toNat) + cn9 (P 1) (2 ^ (dL D).toNat)
theorem ok9_r {F : Nat → Int} {A : Nat → Int → Int} {D : DT} (K : LK F A D) {i : Int} {z : Nat} (hz : z < 2 ^ (dL D).toNat) (h : ok9 D i z = true) : 0 ≤ prE D i z ∧ prE D i z ≤ 400 ∧ z < 2048 ∧ alw (dE D) (dS D) z (dL D).toNat = true := by
  unfold ok9 at h
  rw [Bool.and_eq_true, decide_eq_true_iff] at h
  have := prE_r9 (D := D) (i := i) (z := z) ⟨K.2.1.2, fun w w0 w1 => (K.2.2.1 w w0 w1).1⟩ (by have := K.2.1; omega)
  exact ⟨h.2, this.2, z_lt K hz h.1, h.1⟩
theorem cn9_one {P : Nat → Bool} {z9 : Nat} {c : Bool} : ∀ N : Nat, z9 < N → P z9 = false → cn9 (fun z => P z || (decide (z = z9) && c)) N = cn9 P N + bi c
  | 0, h, _ => absurd h (by omega)
  | N + 1, h, hp => by
    rw [cn9, cn9]
    by_cases e : z9 = N
    · subst e
      rw [cn9_cg (Q := P) z9 (fun z hz => by rw [decide_eq_false (show ¬ z = z9 by omega)]; simp), hp, decide_eq_true rfl]
      simp [bi]
    · have ih := cn9_one (c := c) N (by omega) hp
      rw [ih, decide_eq_false (show ¬ N = z9 by omega), Bool.false_and, Bool.or_false]; omega
/-- one more scan -/
theorem bt9 {F : Nat → Int} {A : Nat → Int → Int} {D : DT} (K : LK F A D) {P Q : Int → Nat → Bool} {b : b59} {i9 n c : Int} {z9 : Nat} (hi9 : i9 = 0 ∨ i9 = 1) (hz9 : z9 < 2 ^ (dL D).toNat) (hP : ∀ (i : Int) (z : Nat), P i z = true → z < 2 ^ (dL D).toNat ∧ (i = 0 ∨ i = 1) ∧ ok9 D i z = true)
    (hord : ∀ (i : Int) (z : Nat), P i z = true → z < z9 ∨ (z = z9 ∧ i = 0 ∧ i9 = 1)) (hc : c = prE D i9 z9) (hn : n = smS (dS D) (dL D).toNat - btc z9 (dL D).toNat)
    (hQ : ∀ (i : Int) (z : Nat), Q i z = (P i z || (decide (z = z9) && decide (i = i9 ∧ 0 ≤ c)))) (ho : 0 ≤ c → ok9 D i9 z9 = true) (h : BR9 D P b) : BR9 D Q (bt1 c n z9 i9 b) := by
  obtain ⟨h1, h2, h3⟩ := h
  have hL := K.2.1
  have hcn : ∀ i, cn9 (Q i) (2 ^ (dL D).toNat) = cn9 (P i) (2 ^ (dL D).toNat) + bi (decide (i = i9 ∧ 0 ≤ c)) := fun i => by
    by_cases e : i = i9
    · subst e
      rw [cn9_cg (P := Q i) (Q := fun z => P i z || (decide (z = z9) && decide (i = i ∧ 0 ≤ c))) _ (fun z _ => hQ i z)]
      refine cn9_one _ hz9 ?_
      cases q : P i z9
      · rfl
      · have := hord i z9 q; omega
    · rw [decide_eq_false (fun q => e q.1), cn9_cg (P := Q i) (Q := P i) _ (fun z _ => by rw [hQ, decide_eq_false (show ¬ (i = i9 ∧ 0 ≤ c) from fun q => e q.1)]; simp)]
      simp [bi]
  have k9 : ∀ (i : Int) (z : Nat), P i z = true → 0 ≤ prE D i z ∧ prE D i z ≤ 400 ∧ z < 2048 ∧ (i = 0 ∨ i = 1) ∧ key9 D i z = i + 65536 * prE D i z + 4096 * btc z 12 + 2 * z := fun i z q => by
    obtain ⟨zl, q1, q2⟩ := hP i z q
    have r := ok9_r K zl q2
    refine ⟨r.1, r.2.1, r.2.2.1, q1, ?_⟩
    unfold key9; rw [btc_12 hL zl]
  by_cases c0 : c < 0
  · have qp : ∀ (i : Int) (z : Nat), Q i z = P i z := fun i z => by rw [hQ, decide_eq_false (show ¬ (i = i9 ∧ 0 ≤ c) by omega)]; simp
    have qe : Q = P := funext fun i => funext fun z => qp i z
    unfold bt1
    rw [if_pos c0, qe]
    exact ⟨h1, h2, h3⟩
  · have o9 := ho (by omega)
    have r9 := ok9_r K hz9 o9
    have key : key9 D i9 z9 = i9 + 65536 * c + 4096 * btc z9 12 + 2 * z9 := by unfold key9; rw [btc_12 hL hz9, hc]
    have bz := btc_r9 (z := (z9 : Int)) 12
    have new : Q i9 z9 = true := by rw [hQ, decide_eq_true (show z9 = z9 from rfl), decide_eq_true (show i9 = i9 ∧ 0 ≤ c from ⟨rfl, by omega⟩)]; simp
    have old : ∀ (i : Int) (z : Nat), Q i z = true → P i z = true ∨ (i = i9 ∧ z = z9) := fun i z q => by
      rw [hQ, Bool.or_eq_true, Bool.and_eq_true, decide_eq_true_iff, decide_eq_true_iff] at q
      exact q.imp id (fun q => ⟨q.2.1, q.1⟩)
    have count : b.2.2.2.1 + 1 = cn9 (Q 0) (2 ^ (dL D).toNat) + cn9 (Q 1) (2 ^ (dL D).toNat) := by
      rw [h3, hcn 0, hcn 1]
      rcases hi9 with q | q <;> subst q
      · rw [decide_eq_true (show (0 : Int) = 0 ∧ 0 ≤ c by omega), decide_eq_false (show ¬ ((1 : Int) = 0 ∧ 0 ≤ c) by omega)]; simp [bi]; omega
      · rw [decide_eq_true (show (1 : Int) = 1 ∧ 0 ≤ c by omega), decide_eq_false (show ¬ ((0 : Int) = 1 ∧ 0 ≤ c) by omega)]; simp [bi]; omega
    have cmp : (b.1 < 0 ∨ c < b.1 ∨ (c = b.1 ∧ (btc (z9 : Int) 12 < btc b.2.1 12 ∨ (btc (z9 : Int) 12 = btc b.2.1 12 ∧ ((z9 : Int) < b.2.1 ∨ ((z9 : Int) = b.2.1 ∧ b.2.2.2.2 ≠ 0 ∧ i9 = 0)))))) ↔ (b.1 < 0 ∨ key9 D i9 z9 < kb9 b) := by
      rcases h1 with ⟨a1, a2⟩ | ⟨i, z, a3, a4, a5, a6, a7⟩
      · exact ⟨fun _ => Or.inl a1, fun _ => Or.inl a1⟩
      · have r := k9 i z a3
        have bz2 := btc_r9 (z := (z : Int)) 12
        have od := hord i z a3
        unfold kb9
        rw [key, a5, a7, a4]
        have e9 : z = z9 → btc (z : Int) 12 = btc (z9 : Int) 12 := fun q => by rw [q]
        constructor
        · intro q
          right
          rcases q with q | q | ⟨q1, q | ⟨q2, q | ⟨q3, q4, q5⟩⟩⟩
          · omega
          · omega
          · omega
          · omega
          · omega
        · intro q
          rcases q with q | q
          · omega
          · right
            by_cases g1 : c < prE D i z
            · exact Or.inl g1
            · right
              refine ⟨by omega, ?_⟩
              by_cases g2 : btc (z9 : Int) 12 < btc (z : Int) 12
              · exact Or.inl g2
              · right
                refine ⟨by omega, ?_⟩
                by_cases g3 : (z9 : Int) < z
                · exact Or.inl g3
                · right
                  omega
    unfold bt1
    rw [if_neg c0]
    by_cases g : (b.1 < 0 ∨ c < b.1 ∨ (c = b.1 ∧ (btc (z9 : Int) 12 < btc b.2.1 12 ∨ (btc (z9 : Int) 12 = btc b.2.1 12 ∧ ((z9 : Int) < b.2.1 ∨ ((z9 : Int) = b.2.1 ∧ b.2.2.2.2 ≠ 0 ∧ i9 = 0))))))
    · rw [if_pos g]
      refine ⟨Or.inr ⟨i9, z9, new, hc, rfl, hn, rfl⟩, fun i z q => ?_, count⟩
      show i9 + 65536 * c + 4096 * btc z9 12 + 2 * z9 ≤ _
      rw [← key]
      rcases old i z q with q | ⟨rfl, rfl⟩
      · have low := h2 i z q
        rcases cmp.mp g with g | g
        · rcases h1 with ⟨a1, a2⟩ | ⟨i', z', a3, a4, _⟩
          · rw [a2 i z] at q; cases q
          · have := (k9 i' z' a3).1; omega
        · omega
      · exact Int.le_refl _
    · rw [if_neg g]
      have g2 : ¬ (b.1 < 0 ∨ key9 D i9 z9 < kb9 b) := fun q => g (cmp.mpr q)
      refine ⟨?_, fun i z q => ?_, count⟩
      · rcases h1 with ⟨a1, a2⟩ | ⟨i, z, a3, a4⟩
        · exact absurd (Or.inl a1) g
        · exact Or.inr ⟨i, z, by rw [hQ, a3]; rfl, a4⟩
      · rcases old i z q with q | ⟨rfl, rfl⟩
        · exact h2 i z q
        · show kb9 b ≤ _
          omega
def Pk9 (D : DT) (k : Nat) (i : Int) (z : Nat) : Bool := decide (z < k ∧ (i = 0 ∨ i = 1)) && ok9 D i z
theorem bN9 {F : Nat → Int} {A : Nat → Int → Int} {D : DT} (K : LK F A D) (hM : MtK D) {x y : Int} : ∀ k : Nat, k ≤ 2 ^ (dL D).toNat → BR9 D (Pk9 D k) (bN (dK D) (dF D) (dZ D) F A (-1, 0, x, 0, y) k)
  | 0, _ => by
    have no : ∀ i z, Pk9 D 0 i z = false := fun i z => by unfold Pk9; rw [decide_eq_false (by omega)]; rfl
    refine ⟨Or.inl ⟨(show (-1 : Int) < 0 by decide), no⟩, (fun i z q => by rw [no] at q; cases q), ?_⟩
    have n0 := cn9_0 (P := Pk9 D 0 0) (2 ^ (dL D).toNat) (fun z _ => no 0 z)
    have n1 := cn9_0 (P := Pk9 D 0 1) (2 ^ (dL D).toNat) (fun z _ => no 1 z)
    show (0 : Int) = _
    omega
  | k + 1, hk => by
    have ih := bN9 K hM (x := x) (y := y) k (by omega)
    have hL := K.2.1
    rw [bN]
    generalize bN (dK D) (dF D) (dZ D) F A (-1, 0, x, 0, y) k = b at ih ⊢
    by_cases c : are F A k = true
    · rw [if_pos c]
      obtain ⟨c1, c2⟩ := (are_D K).mp c
      have e0 := prE_c K hM (i := 0) (Or.inl rfl) c2 (btc_12 hL c1)
      have e1 := prE_c K hM (i := 1) (Or.inr rfl) c2 (btc_12 hL c1)
      rw [K.1, ← e0.1, ← e1.1, e0.2]
      have okc : ∀ i, 0 ≤ prE D i k → ok9 D i k = true := fun i q => by unfold ok9; rw [c2, decide_eq_true q]; rfl
      have okd : ∀ i, ok9 D i k = decide (0 ≤ prE D i k) := fun i => by unfold ok9; rw [c2]; rfl
      have pk : ∀ i z, Pk9 D k i z = true → z < k ∧ (i = 0 ∨ i = 1) ∧ ok9 D i z = true := fun i z q => by
        unfold Pk9 at q; rw [Bool.and_eq_true, decide_eq_true_iff] at q; exact ⟨q.1.1, q.1.2, q.2⟩
      have s1' := bt9 (Q := fun i z => Pk9 D k i z || (decide (z = k) && decide (i = 0 ∧ 0 ≤ prE D 0 k))) (i9 := 0) (z9 := k) (c := prE D 0 k) (n := smS (dS D) (dL D).toNat - btc (k : Int) (dL D).toNat) K (Or.inl rfl) c1
        (fun i z q => ⟨by have := (pk i z q).1; omega, (pk i z q).2⟩) (fun i z q => Or.inl (pk i z q).1) rfl rfl (fun _ _ => rfl) (okc 0) ih
      have mid : ∀ (i : Int) (z : Nat), (Pk9 D k i z || (decide (z = k) && decide (i = 0 ∧ 0 ≤ prE D 0 k))) = true → Pk9 D k i z = true ∨ (z = k ∧ i = 0 ∧ 0 ≤ prE D 0 k) := fun i z q => by
        rw [Bool.or_eq_true, Bool.and_eq_true, decide_eq_true_iff, decide_eq_true_iff] at q
        exact q
      exact bt9 (Q := Pk9 D (k + 1)) (i9 := 1) (z9 := k) (c := prE D 1 k) (n := smS (dS D) (dL D).toNat - btc (k : Int) (dL D).toNat) K (Or.inr rfl) c1
        (fun i z q => by
          rcases mid i z q with q | ⟨rfl, rfl, q9⟩
          · exact ⟨by have := (pk i z q).1; omega, (pk i z q).2⟩
          · exact ⟨c1, Or.inl rfl, okc 0 q9⟩)
        (fun i z q => by
          rcases mid i z q with q | ⟨rfl, rfl, q⟩
          · exact Or.inl (pk i z q).1
          · exact Or.inr ⟨rfl, rfl, rfl⟩) rfl rfl
        (fun i z => by
          unfold Pk9
          by_cases q : z = k
          · subst q
            rw [okd, decide_eq_false (show ¬ (z < z ∧ (i = 0 ∨ i = 1)) by omega), Bool.false_and, Bool.false_or, decide_eq_true (show z = z from rfl), Bool.true_and, Bool.true_and]
            by_cases i0 : i = 0
            · subst i0
              rw [decide_eq_true (show z < z + 1 ∧ ((0 : Int) = 0 ∨ (0 : Int) = 1) by omega), decide_eq_false (show ¬ ((0 : Int) = 1 ∧ 0 ≤ prE D 1 z) by omega), Bool.or_false, Bool.true_and]
              congr 1; apply propext; omega
            · by_cases i1 : i = 1
              · subst i1
                rw [decide_eq_true (show z < z + 1 ∧ ((1 : Int) = 0 ∨ (1 : Int) = 1) by omega), decide_eq_false (show ¬ ((1 : Int) = 0 ∧ 0 ≤ prE D 0 z) by omega), Bool.false_or, Bool.true_and]
                congr 1; apply propext; omega
              · rw [decide_eq_false (show ¬ (z < z + 1 ∧ (i = 0 ∨ i = 1)) by omega), decide_eq_false (show ¬ (i = 0 ∧ 0 ≤ prE D 0 z) by omega), decide_eq_false (show ¬ (i = 1 ∧ 0 ≤ prE D 1 z) by omega)]; rfl
          · rw [decide_eq_false q, Bool.false_and, Bool.false_and, Bool.or_false, Bool.or_false]
            congr 2; apply propext; omega) (okc 1) s1'
    · rw [if_neg c]
      have no : ∀ i, ok9 D i k = false := fun i => by
        cases q : ok9 D i k
        · rfl
        · exfalso; apply c
          have q2 := q
          unfold ok9 at q2
          rw [Bool.and_eq_true] at q2
          exact (are_D K).mpr ⟨by omega, q2.1⟩
      have same : Pk9 D (k + 1) = Pk9 D k := funext fun i => funext fun z => by
        unfold Pk9
        by_cases q : z = k
        · subst q; rw [no]; simp
        · congr 2; apply propext; omega
      rw [same]; exact ih
/-- the class's search against the reference's -/
theorem srch_D {F : Nat → Int} {A : Nat → Int → Int} {D : DT} (K : LK F A D) (hM : MtK D) {x y : Int} {b : b59} (hb : b = bN (dK D) (dF D) (dZ D) F A (-1, 0, x, 0, y) (pls F A + 1).toNat) :
    (srch D).2 = b.2.2.2.1 ∧ ((b.1 < 0 ∧ (srch D).1 = NOK) ∨ (0 ≤ b.1 ∧ b.1 ≤ 400 ∧ (srch D).1 ≠ NOK ∧ ∃ z : Nat, b.2.1 = z ∧ z < 2048 ∧ z < 2 ^ (dL D).toNat ∧ alw (dE D) (dS D) z (dL D).toNat = true ∧ (b.2.2.2.2 = 0 ∨ b.2.2.2.2 = 1) ∧ b.1 = prE D b.2.2.2.2 z ∧
      b.2.2.1 = smS (dS D) (dL D).toNat - btc z 12 ∧ (srch D).1 = 65536 * b.1 + 4096 * btc z 12 + 2 * z + b.2.2.2.2)) := by
  have hL := K.2.1
  have hpl := pls_D K
  have hlt := plN_lt (dE D) (dL D).toNat
  have ht : (pls F A + 1).toNat = plN (dE D) (dL D).toNat + 1 := by omega
  obtain ⟨h1, h2, h3⟩ := bN9 K hM (x := x) (y := y) (pls F A + 1).toNat (by omega)
  rw [← hb] at h1 h2 h3
  have full : ∀ (i : Int), (i = 0 ∨ i = 1) → ∀ z : Nat, z < 2 ^ (dL D).toNat → Pk9 D (pls F A + 1).toNat i z = ok9 D i z := by
    intro i hi z hz
    unfold Pk9
    cases q : ok9 D i z
    · simp
    · have q2 := q
      unfold ok9 at q2
      rw [Bool.and_eq_true] at q2
      have := (are_D K).mpr ⟨hz, q2.1⟩
      unfold are at this
      rw [Bool.and_eq_true, hpl] at this
      have hs := this.1
      unfold sbm at hs
      rw [decide_eq_true_iff, Int.toNat_natCast, Int.toNat_natCast] at hs
      have hle : z ≤ plN (dE D) (dL D).toNat := by rw [← hs.2]; exact Nat.and_le_right
      rw [decide_eq_true ⟨by omega, hi⟩]; rfl
  have pk : ∀ i z, Pk9 D (pls F A + 1).toNat i z = true → z < 2 ^ (dL D).toNat ∧ (i = 0 ∨ i = 1) ∧ ok9 D i z = true := fun i z q => by
    unfold Pk9 at q; rw [Bool.and_eq_true, decide_eq_true_iff] at q; exact ⟨by omega, q.1.2, q.2⟩
  have c0 := cn9_cg (P := Pk9 D (pls F A + 1).toNat 0) (Q := ok9 D 0) (2 ^ (dL D).toNat) (fun z hz => full 0 (Or.inl rfl) z hz)
  have c1 := cn9_cg (P := Pk9 D (pls F A + 1).toNat 1) (Q := ok9 D 1) (2 ^ (dL D).toNat) (fun z hz => full 1 (Or.inr rfl) z hz)
  rw [c0, c1] at h3
  unfold srch
  by_cases t : (tfew D || tmny D) = true
  · rw [if_pos t]
    have hsz := szk_r (dK D)
    have hca := cs_at (kd := dK D) hM.2.1 hM.2.2
    have none9 : ∀ (i : Int), (i = 0 ∨ i = 1) → ∀ z : Nat, z < 2 ^ (dL D).toNat → ok9 D i z = false := by
      intro i hi z hz
      cases q : ok9 D i z
      · rfl
      · exfalso
        have q2 := q
        unfold ok9 at q2
        rw [Bool.and_eq_true, decide_eq_true_iff] at q2
        obtain ⟨p1, p2⟩ := prE_c K hM hi q2.1 (btc_12 hL hz)
        have bz := btc_r9 (z := (z : Int)) (dL D).toNat
        have bg := (grd_up _ q2.1).1
        have hst := strK_end (kd := dK D) (i := i) hM.2.1.1
        rw [p1] at q2
        unfold cst at q2
        rw [p2] at q2
        rw [Bool.or_eq_true] at t
        unfold tfew tmny few at t
        rw [decide_eq_true_iff, decide_eq_true_iff] at t
        rcases t with t | t
        · by_cases e : strK (dK D) (dF D * szk (dK D) - 1) 0 = true
          · rw [if_pos e] at t
            by_cases g : smS (dS D) (dL D).toNat - btc (z : Int) (dL D).toNat = dF D * szk (dK D) - 1
            · rw [if_neg (by omega), if_pos (Or.inr ⟨g, by rw [hst]; exact e⟩)] at q2
              omega
            · rw [if_pos (by omega)] at q2
              omega
          · rw [if_neg e] at t
            rw [if_pos (by omega)] at q2
            omega
        · rw [if_pos (by omega)] at q2
          omega
    rw [cn9_0 _ (fun z hz => none9 0 (Or.inl rfl) z hz), cn9_0 _ (fun z hz => none9 1 (Or.inr rfl) z hz)] at h3
    refine ⟨by rw [h3]; rfl, Or.inl ⟨?_, rfl⟩⟩
    rcases h1 with ⟨a1, _⟩ | ⟨i, z, a1, _⟩
    · exact a1
    · obtain ⟨p1, p2, p3⟩ := pk i z a1
      rw [none9 i p2 z p1] at p3; cases p3
  · rw [if_neg t]
    obtain ⟨u1, u2, u3⟩ := srB9 K hM (i := 0) (fd := 0) (Or.inl rfl)
    obtain ⟨v1, v2, v3⟩ := srB9 K hM (i := 1) (fd := (srB D 0 0).2) (Or.inr rfl)
    generalize srB D 0 0 = s at u1 u2 u3 v1 v2 v3
    generalize srB D 1 s.2 = v at v1 v2 v3
    dsimp only
    refine ⟨by rw [v3, u3, h3]; omega, ?_⟩
    rcases h1 with ⟨a1, a2⟩ | ⟨i, z, a1, a2, a3, a4, a5⟩
    · left
      refine ⟨a1, ?_⟩
      have n0 : s.1 = NOK := by
        rcases u1 with u | ⟨z, z1, z2, _⟩
        · exact u.1
        · rw [← full 0 (Or.inl rfl) z z1, a2] at z2; cases z2
      have n1 : v.1 = NOK := by
        rcases v1 with u | ⟨z, z1, z2, _⟩
        · exact u.1
        · rw [← full 1 (Or.inr rfl) z z1, a2] at z2; cases z2
      rw [n0, n1]; omega
    · right
      obtain ⟨p1, p2, p3⟩ := pk i z a1
      have r := ok9_r K p1 p3
      have bz := btc_r9 (z := (z : Int)) (dL D).toNat
      have kz : kb9 b = key9 D i z := by
        unfold kb9 key9
        rw [a2, a3, a5, btc_12 hL p1]
      have lo0 : kb9 b ≤ s.1 := by
        rcases u1 with u | ⟨z', z1, z2, z3, _⟩
        · rw [kz, u.1]; unfold key9 NOK; omega
        · rw [z3]; exact h2 0 z' (by rw [full 0 (Or.inl rfl) z' z1]; exact z2)
      have lo1 : kb9 b ≤ v.1 := by
        rcases v1 with u | ⟨z', z1, z2, z3, _⟩
        · rw [kz, u.1]; unfold key9 NOK; omega
        · rw [z3]; exact h2 1 z' (by rw [full 1 (Or.inr rfl) z' z1]; exact z2)
      have hi : s.1 ≤ kb9 b ∨ v.1 ≤ kb9 b := by
        rcases p2 with rfl | rfl
        · left; rw [kz]; exact u2 z p1 p3
        · right; rw [kz]; exact v2 z p1 p3
      have hN : kb9 b < NOK := by rw [kz]; unfold key9 NOK; omega
      have e9 : min (min NOK s.1) v.1 = kb9 b := by omega
      rw [e9]
      refine ⟨by omega, by omega, by omega, z, a3, r.2.2.1, p1, r.2.2.2, by rw [a5]; exact p2, by rw [a5]; exact a2, by rw [a4, btc_12 hL p1], ?_⟩
      unfold kb9; rw [a3]; omega
