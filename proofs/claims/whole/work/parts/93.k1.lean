/-! the coupling: what a bundle of the class means -/
theorem wlen_cg {f g : Int → Int} {n : Int} (h : ∀ k, 0 ≤ k → k < n → g k = f k) : ∀ (m : Nat) (p : Int), 0 ≤ p → wlen g n m p = wlen f n m p
  | 0, _, _ => rfl
  | m + 1, p, hp => by
    rw [wlen, wlen]
    by_cases c : p < n
    · rw [h p hp c, wlen_cg h m (p + 1) (by omega)]
    · rw [if_neg (fun q => c q.1), if_neg (fun q => c q.1)]
theorem parseL_cg {f g : Int → Int} {n : Int} (h : ∀ k, 0 ≤ k → k < n → g k = f k) : ∀ (m : Nat) (p : Int), 0 ≤ p → parseL g n m p = parseL f n m p
  | 0, _, _ => rfl
  | m + 1, p, hp => by
    have hw := (wlen_r f n 12 p).1
    have e1 : (decide (p + wlen f n 12 p < n) && decide (g (p + wlen f n 12 p) = 44)) = (decide (p + wlen f n 12 p < n) && decide (f (p + wlen f n 12 p) = 44)) := by
      by_cases c : p + wlen f n 12 p < n
      · rw [h _ (by omega) c]
      · rw [decide_eq_false c]; rfl
    rw [parseL, parseL, wlen_cg h 12 p hp, e1]
    have hb := bi_01 (decide (p + wlen f n 12 p < n) && decide (f (p + wlen f n 12 p) = 44))
    by_cases c1 : wlen f n 12 p = 0
    · rw [if_pos c1, if_pos c1]
    rw [if_neg c1, if_neg c1]
    by_cases c2 : n ≤ p + wlen f n 12 p + bi (decide (p + wlen f n 12 p < n) && decide (f (p + wlen f n 12 p) = 44))
    · rw [if_pos c2, if_pos c2]
    rw [if_neg c2, if_neg c2, h _ (by omega) (by omega), parseL_cg h m _ (by omega)]
theorem wR_cg {f g : Int → Int} {n k : Int} (h : ∀ k, 0 ≤ k → k < n → g k = f k) (k0 : 0 ≤ k) (k1 : k < n) : wR g k = wR f k := by
  unfold wR
  rw [h k k0 k1]
  by_cases e : k = 0
  · rw [decide_eq_true e]; simp
  · rw [h (k - 1) (by omega) (by omega)]
theorem wN_cg {f g : Int → Int} {n : Int} (h : ∀ k, 0 ≤ k → k < n → g k = f k) : ∀ k : Nat, (k : Int) ≤ n → wN g k = wN f k
  | 0, _ => rfl
  | k + 1, hk => by rw [wN, wN, wR_cg h (by omega) (by omega), wN_cg h k (by omega)]
theorem wF_cg {f g e : Int → Int} {n : Int} (h : ∀ k, 0 ≤ k → k < n → g k = f k) : ∀ k : Nat, (k : Int) ≤ n → wF g e k = wF f e k
  | 0, _ => rfl
  | k + 1, hk => by rw [wF, wF, wR_cg h (by omega) (by omega), wN_cg h k (by omega), wF_cg h k (by omega)]
theorem WdAt.cg {ι : Nat → Option XE} {q : Nat} {f g : Int → Int} {n : Int} (h : ∀ k, 0 ≤ k → k < n → g k = f k) (W : WdAt ι q f n) : WdAt ι q g n := by
  obtain ⟨h1, h2, aL, aC, f9, g9, h3, h4, h5, h6, h7⟩ := W
  have eN := wN_cg h n.toNat (by omega)
  have eF := wF_cg (e := fun _ => 0) h n.toNat (by omega)
  have eS : wS g n = wS f n := by unfold wS; rw [eN, eF, h (n - 1) (by omega) (by omega)]
  have eC : wC g n = wC f n := by unfold wC; rw [eS, eN]
  have eE : wE g n = wE f n := by unfold wE; rw [eS, h (n - 1) (by omega) (by omega)]
  have eA : wA g (fun _ => 0) n = wA f (fun _ => 0) n := by unfold wA; rw [eN, eF]
  exact ⟨h1, fun k k0 k1 => by rw [h k k0 k1]; exact h2 k k0 k1, aL, aC, f9, g9, by rw [eC, eS, eE, h 0 (by omega) (by omega)]; exact h3, h4, fun k k0 k1 => by rw [h k k0 k1]; exact h5 k k0 k1, h6, fun k k0 k1 => by rw [eA]; exact h7 k k0 k1⟩
theorem LnO.cg {ι : Nat → Option XE} {q : Nat} {f g : Int → Int} {n : Int} (h : ∀ k, 0 ≤ k → k < n → g k = f k) (L : LnO ι q f n) : LnO ι q g n := by
  obtain ⟨l1, l2, l3, aT, aW, wl, f9, w9, l4, l5, l6, l7, l8, l9⟩ := L
  have eP := parseL_cg h 12 0 (by omega)
  have eL : pwL g n = pwL f n := by unfold pwL; rw [eP]
  have ew : pw g n = pw f n := by funext i; unfold pw; rw [eP]
  have e1 : pwP g n = pwP f n := by funext i; unfold pwP; rw [ew]
  have e2 : pwN g n = pwN f n := by funext i; unfold pwN; rw [ew]
  have e3 : pwC g n = pwC f n := by funext i; unfold pwC; rw [ew]
  have wr : ∀ i, 0 ≤ i → i < pwL f n → 0 ≤ pwP f n i ∧ pwP f n i + pwN f n i ≤ n := by
    intro i i0 i1
    have := parseL_w (f := f) (n := n) (m := 12) (p := 0) (by omega) l3 (pw f n i) (by
      unfold pw
      rw [List.getElem?_eq_getElem (by unfold pwL at i1; omega)]
      exact List.getElem_mem _)
    exact ⟨this.1, this.2.2⟩
  refine ⟨l1, by rw [eL]; exact l2, by rw [eP]; exact l3, aT, aW, wl, f9, w9, by rw [eL, e3]; exact l4, l5, fun k k0 k1 => by rw [h k k0 k1]; exact l6 k k0 k1, by rw [eL]; exact l7, fun i i0 i1 => ?_, by rw [eL]; exact l9⟩
  rw [eL] at i1
  obtain ⟨wq, w1, w2⟩ := l8 i i0 i1
  have := wr i i0 i1
  refine ⟨wq, w1, ?_⟩
  rw [e1, e2]
  exact w2.cg (fun k k0 k1 => h _ (by omega) (by omega))
theorem MkO.cg {ι : Nat → Option XE} {q : Nat} {f g : Int → Int} {n c : Int} {m w : Int → Int} (h : ∀ k, 0 ≤ k → k < n → g k = f k) (hm : ∀ k, 0 ≤ k → k < c → w k = m k) (M : MkO ι q f n c m) : MkO ι q g n c w := by
  obtain ⟨wq, aM, m9, h1, h2, h3, h4, h5⟩ := M
  exact ⟨wq, aM, m9, h1, h2.cg h, h3, h4, fun k k0 k1 => by rw [hm k k0 k1]; exact h5 k k0 k1⟩
/-- a line in a place against one in another -/
theorem LnO.sl {ι : Nat → Option XE} {q : Nat} {a a' : Int → Int} {d l d' l' : Int} (h : ∀ k, 0 ≤ k → k < 61 → a' (169 + 61 * (10 * d' + l') + k) = a (169 + 61 * (10 * d + l) + k)) (L : LnO ι q (fA9 a d l) (nA9 a d l)) : LnO ι q (fA9 a' d' l') (nA9 a' d' l') := by
  have h0 := h 0 (by omega) (by omega)
  rw [Int.add_zero, Int.add_zero] at h0
  have e0 : nA9 a' d' l' = nA9 a d l := h0
  rw [e0]
  have hn := L.1
  refine L.cg (fun k k0 k1 => ?_)
  show a' (169 + 61 * (10 * d' + l') + 1 + k) = a (169 + 61 * (10 * d + l) + 1 + k)
  have := h (1 + k) (by omega) (by omega)
  rw [← Int.add_assoc, ← Int.add_assoc] at this
  exact this
/-- a bundle means a row of numbers -/
def MB9 (ι : Nat → Option XE) (G : Nat → Int) (B : Nat → Int → Int) (b : Nat) (a : Int → Int) : Prop :=
  b ≤ 9 ∧ (∃ mq : Nat, G (100 + 10 * b) = (mq : Int) ∧ MtAt ι mq (a 0) (a 1) (a 2)) ∧ (G (101 + 10 * b) = a 3 ∧ 0 ≤ a 3 ∧ a 3 ≤ 30) ∧ ExM ι G B b a ∧
  (∀ d : Nat, d ≤ 3 → G (103 + 10 * b + d) = a (5 + (d : Int)) ∧ LnD ι G B b d (fA9 a d) (nA9 a d)) ∧ ∀ x, InR (a x)
theorem MB9.sta {ι : Nat → Option XE} {G : Nat → Int} {B : Nat → Int → Int} {b : Nat} {a : Int → Int} (M : MB9 ι G B b a) : StA a := by
  obtain ⟨m1, ⟨mq, m2, m3⟩, m4, m5, m6, m7⟩ := M
  refine ⟨m3.1.1, m3.1.2.1, m3.1.2.2, m4.2, m5.1.2, fun d d0 d1 => ?_, m7⟩
  obtain ⟨e1, e2⟩ := m6 d.toNat (by omega)
  rw [Int.toNat_of_nonneg d0] at e1
  rw [← e1]; exact e2.1
theorem MB9.lna {ι : Nat → Option XE} {G : Nat → Int} {B : Nat → Int → Int} {b : Nat} {a : Int → Int} (M : MB9 ι G B b a) : LnA a := by
  obtain ⟨m1, ⟨mq, m2, m3⟩, m4, m5, m6, m7⟩ := M
  intro d l d0 d1 l0 l1
  obtain ⟨e1, e2⟩ := m6 d.toNat (by omega)
  rw [Int.toNat_of_nonneg d0] at e1 e2
  obtain ⟨q, _, L⟩ := e2.2 l l0 (by rw [e1]; exact l1)
  obtain ⟨l1, l2, l3, aT, aW, wl, f9, w9, l4, l5, l6, l7, l8, l9⟩ := L
  exact ⟨l1, fun k k0 k1 => (l6 k k0 k1).2, l3⟩
theorem MB9.exa {ι : Nat → Option XE} {G : Nat → Int} {B : Nat → Int → Int} {b : Nat} {a : Int → Int} (M : MB9 ι G B b a) : ExA a := by
  obtain ⟨m1, ⟨mq, m2, m3⟩, m4, m5, m6, m7⟩ := M
  intro e e0 e1
  obtain ⟨q, _, wq, aM, m9, k1, k2, k3, k4, k5⟩ := m5.2 e e0 e1
  exact ⟨k2.1, k3, fun k k0 k1 => (k5 k k0 k1).2⟩
theorem LnD.ext9 {ι ι' : Nat → Option XE} {G : Nat → Int} {B : Nat → Int → Int} {b d : Nat} {fL : Int → Int → Int} {nL : Int → Int} (e : ext ι ι') (x : LnD ι G B b d fL nL) : LnD ι' G B b d fL nL :=
  ⟨x.1, fun l l0 l1 => by obtain ⟨q, h1, h2⟩ := x.2 l l0 l1; exact ⟨q, h1, h2.ext e⟩⟩
/-- what else changes -/
theorem MB9.fr {ι ι' : Nat → Option XE} {G G' : Nat → Int} {B B' : Nat → Int → Int} {b : Nat} {a : Int → Int} (e : ext ι ι') (hG : ∀ k, 100 + 10 * b ≤ k → k < 110 + 10 * b → G' k = G k) (hB : ∀ k, 106 + 11 * b ≤ k → k ≤ 110 + 11 * b → B' k = B k) (M : MB9 ι G B b a) : MB9 ι' G' B' b a := by
  obtain ⟨m1, ⟨mq, m2, m3⟩, m4, m5, m6, m7⟩ := M
  refine ⟨m1, ⟨mq, by rw [hG _ (by omega) (by omega)]; exact m2, m3.ext e⟩, by rw [hG _ (by omega) (by omega)]; exact m4, ?_, fun d hd => ?_, m7⟩
  · have := m5.ex9 e
    unfold ExM at this ⊢
    rw [hG _ (by omega) (by omega), hB _ (by omega) (by omega)]; exact this
  · obtain ⟨e1, e2⟩ := m6 d hd
    refine ⟨by rw [hG _ (by omega) (by omega)]; exact e1, ?_⟩
    have := e2.ext9 e
    unfold LnD at this ⊢
    rw [hG _ (by omega) (by omega), hB _ (by omega) (by omega)]; exact this
/-- the same numbers in another row -/
theorem MB9.cg {ι : Nat → Option XE} {G : Nat → Int} {B : Nat → Int → Int} {b : Nat} {a a' : Int → Int} (h : ∀ k, 0 ≤ k → k < 2609 → a' k = a k) (hr : ∀ x, InR (a' x)) (M : MB9 ι G B b a) : MB9 ι G B b a' := by
  obtain ⟨m1, ⟨mq, m2, m3⟩, m4, m5, m6, m7⟩ := M
  have h4 := h 4 (by omega) (by omega)
  refine ⟨m1, ⟨mq, m2, by rw [h 0 (by omega) (by omega), h 1 (by omega) (by omega), h 2 (by omega) (by omega)]; exact m3⟩, by rw [h 3 (by omega) (by omega)]; exact m4, ⟨by rw [h4]; exact m5.1, fun e e0 e1 => ?_⟩, fun d hd => ?_, hr⟩
  · rw [h4] at e1
    have h5 := m5.1.2
    obtain ⟨q, q1, q2⟩ := m5.2 e e0 e1
    have hw : 1 ≤ a (9 + 20 * e) ∧ a (9 + 20 * e) ≤ 12 := by obtain ⟨wq, aM, m9, k1, k2, k3⟩ := q2; exact k2.1
    have hc : 1 ≤ a (9 + 20 * e + 1 + 12) ∧ a (9 + 20 * e + 1 + 12) ≤ 6 := by obtain ⟨wq, aM, m9, k1, k2, k3, k4⟩ := q2; exact k3
    refine ⟨q, q1, ?_⟩
    rw [h (9 + 20 * e) (by omega) (by omega), h (9 + 20 * e + 1 + 12) (by omega) (by omega)]
    exact q2.cg (fun k k0 k1 => h _ (by omega) (by omega)) (fun k k0 k1 => h _ (by omega) (by omega))
  · obtain ⟨e1, e2⟩ := m6 d hd
    have h5 := e2.1
    refine ⟨by rw [h _ (by omega) (by omega)]; exact e1, e2.1, fun l l0 l1 => ?_⟩
    obtain ⟨q, q1, q2⟩ := e2.2 l l0 l1
    exact ⟨q, q1, q2.sl (fun k k0 k1 => h _ (by omega) (by omega))⟩
/-- a draft changed -/
theorem MB9.dr {ι ι' : Nat → Option XE} {G G' : Nat → Int} {B B' : Nat → Int → Int} {b d : Nat} {a a' : Int → Int} (M : MB9 ι G B b a) (e : ext ι ι') (hd : d ≤ 3) (hG : ∀ k, 100 + 10 * b ≤ k → k < 110 + 10 * b → k ≠ 103 + 10 * b + d → G' k = G k) (hn : G' (103 + 10 * b + d) = a' (5 + (d : Int)) ∧ 0 ≤ a' (5 + (d : Int)) ∧ a' (5 + (d : Int)) ≤ 10)
    (hB : ∀ k, 106 + 11 * b ≤ k → k ≤ 110 + 11 * b → k ≠ 106 + 11 * b + d → B' k = B k) (h1 : ∀ k, 0 ≤ k → k < 169 → k ≠ 5 + (d : Int) → a' k = a k) (h2 : ∀ d' : Int, 0 ≤ d' → d' ≤ 3 → d' ≠ d → ∀ k, 0 ≤ k → k < 610 → a' (169 + 610 * d' + k) = a (169 + 610 * d' + k))
    (h3 : ∀ l, 0 ≤ l → l < a' (5 + (d : Int)) → ∃ q : Nat, B' (106 + 11 * b + d) l = (q : Int) ∧ LnO ι' q (fA9 a' d l) (nA9 a' d l)) (hr : ∀ x, InR (a' x)) : MB9 ι' G' B' b a' := by
  obtain ⟨m1, ⟨mq, m2, m3⟩, m4, m5, m6, m7⟩ := M
  have h4 := h1 4 (by omega) (by omega) (by omega)
  refine ⟨m1, ⟨mq, by rw [hG _ (by omega) (by omega) (by omega)]; exact m2, by rw [h1 0 (by omega) (by omega) (by omega), h1 1 (by omega) (by omega) (by omega), h1 2 (by omega) (by omega) (by omega)]; exact m3.ext e⟩, by rw [hG _ (by omega) (by omega) (by omega), h1 3 (by omega) (by omega) (by omega)]; exact m4, ⟨by rw [h4, hG _ (by omega) (by omega) (by omega)]; exact m5.1, fun x e0 e1 => ?_⟩, fun d' hd' => ?_, hr⟩
  · rw [h4] at e1
    have h5 := m5.1.2
    obtain ⟨q, q1, q2⟩ := m5.2 x e0 e1
    have hw : 1 ≤ a (9 + 20 * x) ∧ a (9 + 20 * x) ≤ 12 := by obtain ⟨wq, aM, m9, k1, k2, k3⟩ := q2; exact k2.1
    have hc : 1 ≤ a (9 + 20 * x + 1 + 12) ∧ a (9 + 20 * x + 1 + 12) ≤ 6 := by obtain ⟨wq, aM, m9, k1, k2, k3, k4⟩ := q2; exact k3
    refine ⟨q, by rw [hB _ (by omega) (by omega) (by omega)]; exact q1, ?_⟩
    rw [h1 (9 + 20 * x) (by omega) (by omega) (by omega), h1 (9 + 20 * x + 1 + 12) (by omega) (by omega) (by omega)]
    exact (q2.ext e).cg (fun k k0 k1 => h1 _ (by omega) (by omega) (by omega)) (fun k k0 k1 => h1 _ (by omega) (by omega) (by omega))
  · by_cases c : d' = d
    · subst c
      exact ⟨hn.1, by rw [hn.1]; exact hn.2, fun l l0 l1 => h3 l l0 (by rw [← hn.1]; exact l1)⟩
    · obtain ⟨e1, e2⟩ := m6 d' hd'
      have h5 := e2.1
      have eg := hG (103 + 10 * b + d') (by omega) (by omega) (by omega)
      refine ⟨by rw [eg, h1 _ (by omega) (by omega) (by omega)]; exact e1, by rw [eg]; exact e2.1, fun l l0 l1 => ?_⟩
      rw [eg] at l1
      obtain ⟨q, q1, q2⟩ := e2.2 l l0 l1
      refine ⟨q, by rw [hB _ (by omega) (by omega) (by omega)]; exact q1, (q2.ext e).sl (fun k k0 k1 => ?_)⟩
      have := h2 d' (by omega) (by omega) (by omega) (61 * l + k) (by omega) (by omega)
      rw [show 169 + 61 * (10 * (d' : Int) + l) + k = 169 + 610 * (d' : Int) + (61 * l + k) by omega]; exact this
/-- the exceptions changed -/
theorem MB9.ex {ι ι' : Nat → Option XE} {G G' : Nat → Int} {B B' : Nat → Int → Int} {b : Nat} {a a' : Int → Int} (M : MB9 ι G B b a) (e : ext ι ι') (hG : ∀ k, 100 + 10 * b ≤ k → k < 110 + 10 * b → k ≠ 102 + 10 * b → G' k = G k)
    (hB : ∀ k, 106 + 11 * b ≤ k → k < 110 + 11 * b → B' k = B k) (h1 : ∀ k, (0 ≤ k ∧ k < 4) ∨ (5 ≤ k ∧ k < 9) ∨ (169 ≤ k ∧ k < 2609) → a' k = a k) (hX : ExM ι' G' B' b a') (hr : ∀ x, InR (a' x)) : MB9 ι' G' B' b a' := by
  obtain ⟨m1, ⟨mq, m2, m3⟩, m4, m5, m6, m7⟩ := M
  refine ⟨m1, ⟨mq, by rw [hG _ (by omega) (by omega) (by omega)]; exact m2, by rw [h1 0 (by omega), h1 1 (by omega), h1 2 (by omega)]; exact m3.ext e⟩, by rw [hG _ (by omega) (by omega) (by omega), h1 3 (by omega)]; exact m4, hX, fun d' hd' => ?_, hr⟩
  obtain ⟨e1, e2⟩ := m6 d' hd'
  have h5 := e2.1
  have eg := hG (103 + 10 * b + d') (by omega) (by omega) (by omega)
  refine ⟨by rw [eg, h1 _ (by omega)]; exact e1, by rw [eg]; exact e2.1, fun l l0 l1 => ?_⟩
  rw [eg] at l1
  obtain ⟨q, q1, q2⟩ := e2.2 l l0 l1
  exact ⟨q, by rw [hB _ (by omega) (by omega)]; exact q1, (q2.ext e).sl (fun k k0 k1 => h1 _ (by omega))⟩
/-- a bundle copied -/
theorem MB9.bc {ι : Nat → Option XE} {G : Nat → Int} {B : Nat → Int → Int} {b b2 : Nat} {a : Int → Int} (hb : b ≤ 9) (hne : b ≠ b2) (M : MB9 ι G B b2 a) : MB9 ι (bcG G b b2) (bcB B b b2) b a := by
  obtain ⟨m1, ⟨mq, m2, m3⟩, m4, m5, m6, m7⟩ := M
  have g1 : ∀ k, k < 10 → bcG G b b2 (100 + 10 * b + k) = if k < 7 then G (100 + 10 * b2 + k) else G (100 + 10 * b + k) := by
    intro k hk
    unfold bcG
    by_cases e2 : k = 2
    · subst e2
      rw [show 100 + 10 * b + 2 = 102 + 10 * b by omega, uF_s, if_pos (by omega)]; congr 1; omega
    · rw [uF_n (by omega)]
      unfold cI
      by_cases e3 : k < 7
      · rw [if_pos e3, if_pos (by omega)]; congr 1; omega
      · rw [if_neg e3, if_neg (by omega)]
  have b1 : ∀ d, d ≤ 3 → bcB B b b2 (106 + 11 * b + d) = cp (B (106 + 11 * b2 + d)) (B (106 + 11 * b + d)) 0 0 10 := by
    intro d hd
    unfold bcB
    rw [uA_n (by omega)]
    unfold cR
    rw [if_pos (by omega)]; congr 2; omega
  have b2' : bcB B b b2 (110 + 11 * b) = cp (B (110 + 11 * b2)) (B (110 + 11 * b)) 0 0 8 := by unfold bcB; rw [uA_s]
  have gm := g1 0 (by omega)
  have gt := g1 1 (by omega)
  have gx := g1 2 (by omega)
  rw [if_pos (by omega)] at gm gt gx
  have cpin : ∀ (f g : Int → Int) (n k : Int), 0 ≤ k → k < n → cp f g 0 0 n k = f k := fun f g n k k0 k1 => by unfold cp; rw [if_pos (by omega)]; congr 1; omega
  refine ⟨hb, ⟨mq, by rw [show 100 + 10 * b = 100 + 10 * b + 0 by omega, gm]; exact m2, m3⟩, ?_, ⟨?_, fun e e0 e1 => ?_⟩, fun d hd => ?_, m7⟩
  · rw [show 101 + 10 * b = 100 + 10 * b + 1 by omega, gt, show 100 + 10 * b2 + 1 = 101 + 10 * b2 by omega]; exact m4
  · rw [show 102 + 10 * b = 100 + 10 * b + 2 by omega, gx, show 100 + 10 * b2 + 2 = 102 + 10 * b2 by omega]; exact m5.1
  · have h5 := m5.1.2
    rw [b2', cpin _ _ _ _ e0 (by omega)]
    exact m5.2 e e0 e1
  · have gd := g1 (3 + d) (by omega)
    rw [if_pos (by omega)] at gd
    obtain ⟨e1, e2⟩ := m6 d hd
    have h5 := e2.1
    have ed : bcG G b b2 (103 + 10 * b + d) = G (103 + 10 * b2 + d) := by rw [show 103 + 10 * b + d = 100 + 10 * b + (3 + d) by omega, gd]; congr 1; omega
    refine ⟨by rw [ed]; exact e1, by rw [ed]; exact e2.1, fun l l0 l1 => ?_⟩
    rw [ed] at l1
    rw [b1 d hd, cpin _ _ _ _ l0 (by omega)]
    exact e2.2 l l0 l1
