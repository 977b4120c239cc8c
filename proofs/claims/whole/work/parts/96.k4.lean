/-! the coupling: more changes -/
theorem cpD_lo {a : Int → Int} {x y k : Int} (hx : 0 ≤ x) (hy : 0 ≤ y) (hk : k < 169) : ∀ l : Nat, cpD a x y l k = up a (5 + y) (a (5 + x)) k
  | 0 => rfl
  | l + 1 => by rw [cpD, cp, if_neg (by omega)]; exact cpD_lo hx hy hk l
theorem cpD_ot {a : Int → Int} {x y d' k : Int} (hx : 0 ≤ x) (hy : 0 ≤ y ∧ y ≤ 3) (hd : 0 ≤ d') (hne : d' ≠ y) (hk : 0 ≤ k ∧ k < 610) : ∀ l : Nat, l ≤ 10 → cpD a x y l (169 + 610 * d' + k) = a (169 + 610 * d' + k)
  | 0, _ => by rw [cpD, up_n (by omega)]
  | l + 1, hl => by rw [cpD, cp, if_neg (by omega)]; exact cpD_ot hx hy hd hne hk l (by omega)
theorem cpD_sl {a : Int → Int} {x y : Int} (hx : 0 ≤ x ∧ x ≤ 3) (hy : 0 ≤ y ∧ y ≤ 3) : ∀ l : Nat, l ≤ 10 → ∀ l' k : Int, 0 ≤ l' → l' < 10 → 0 ≤ k → k < 61 → cpD a x y l (169 + 61 * (10 * y + l') + k) = if l' < l then a (169 + 61 * (10 * x + l') + k) else a (169 + 61 * (10 * y + l') + k)
  | 0, _, l', k, h0, h1, k0, k1 => by rw [cpD, up_n (by omega), if_neg (by omega)]
  | l + 1, hl, l', k, h0, h1, k0, k1 => by
    have ih := cpD_sl (a := a) hx hy l (by omega)
    rw [cpD, cp]
    by_cases e : l' = l
    · rw [if_pos (by omega), if_pos (by omega), show 169 + 61 * (10 * x + (l : Int)) + (169 + 61 * (10 * y + l') + k - (169 + 61 * (10 * y + (l : Int)))) = 169 + 61 * (10 * x + l') + k by omega]
      by_cases c : x = y
      · subst c
        rw [ih l' k h0 h1 k0 k1]
        split <;> rfl
      · have := cpD_ot (a := a) (x := x) (y := y) (d' := x) (k := 61 * l' + k) hx.1 hy hx.1 c (by omega) l (by omega)
        rw [show 169 + 61 * (10 * x + l') + k = 169 + 610 * x + (61 * l' + k) by omega]; exact this
    · rw [if_neg (by omega), ih l' k h0 h1 k0 k1]
      by_cases c : l' < l
      · rw [if_pos c, if_pos (by omega)]
      · rw [if_neg c, if_neg (by omega)]
theorem cpD_r {a : Int → Int} {x y : Int} (ha : ∀ k, InR (a k)) : ∀ l : Nat, ∀ k, InR (cpD a x y l k)
  | 0 => by rw [cpD]; exact up_r ha (ha _)
  | l + 1 => by rw [cpD]; exact cp_r (cpD_r ha l) (cpD_r ha l)
section Ky
variable {ι : Nat → Option XE} {G : Nat → Int} {B : Nat → Int → Int} {F : Nat → Int} {A : Nat → Int → Int} {b : Nat}
theorem K_copyDraft {i j : Nat} {F2 : Nat → Int} (C : CP9 ι G B F A b) (hi : i ≤ 3) (hj : j ≤ 3) (h5 : F2 5 = kc (F 5)) (h6 : F2 6 = F 6) (h8 : F2 8 = F 8) (h10 : F2 10 = F 10) (h38 : F2 38 = F 38) :
    CP9 ι (uF (rmG G B b) (103 + 10 * b + j) (A 1 (5 + (i : Int)))) (uA (rmB G B b) (106 + 11 * b + j) (cp ((rmB G B b) (106 + 11 * b + i)) ((rmB G B b) (106 + 11 * b + j)) 0 0 10)) F2 (uA (uA A 1 (cpD (A 1) i j 10)) 4 (kA A (F 5))) b := by
  have C1 := C.rm
  have e1 : (uA A 4 (kA A (F 5))) 1 = A 1 := uA_n (by decide)
  have L1 := C1.ln hi
  rw [e1] at L1
  have hw := C1.w.1
  generalize rmB G B b = B1 at C1 L1 hw ⊢
  have lo := fun k hk => cpD_lo (a := A 1) (x := (i : Int)) (y := (j : Int)) (k := k) (by omega) (by omega) hk 10
  have e5 : cpD (A 1) i j 10 (5 + (j : Int)) = A 1 (5 + (i : Int)) := by rw [lo _ (by omega), up_s]
  refine CP9.od (C1.dr (ι' := ι) (fun _ _ q => q) hj (by rw [e5]; exact ⟨rfl, L1.1.2⟩) (fun k k0 k1 k2 => by rw [lo k k1, up_n k2, e1]) (fun d' d0 d1 d2 k k0 k1 => by rw [e1]; exact cpD_ot (by omega) (by omega) d0 d2 ⟨k0, k1⟩ 10 (by omega)) (fun l l0 l1 => ?_) (cpD_r C.m.2.2.2.2.2 10) (fun l l0 l1 => by unfold cp; rw [if_pos (by omega)]; exact hw i _ hi (by omega) (by omega))) ?_ ?_ ?_ ?_ ?_
  · rw [e5] at l1
    have := L1.1.2
    obtain ⟨q, q1, q2⟩ := L1.2 l l0 l1
    refine ⟨q, by unfold cp; rw [if_pos (by omega), show 0 + (l - 0) = l by omega]; exact q1, q2.sl (fun k k0 k1 => ?_)⟩
    rw [cpD_sl ⟨by omega, by omega⟩ ⟨by omega, by omega⟩ 10 (by omega) l k l0 (by omega) k0 k1, if_pos (by omega)]
  · rw [uF_s]; exact h5
  · rw [uF_n (by decide)]; exact h6
  · rw [uF_n (by decide)]; exact h8
  · rw [uF_n (by decide)]; exact h10
  · rw [uF_n (by decide)]; exact h38
theorem K_moveLine {d : Nat} {x y : Int} {F2 : Nat → Int} {h7 : Int → Int} (C : CP9 ι G B F A b) (hd : d ≤ 3) (hx : 0 ≤ x ∧ x < A 1 (5 + (d : Int))) (hy : 0 ≤ y ∧ y < A 1 (5 + (d : Int))) (hh : ∀ k, 0 ≤ k → k < 61 → h7 k = A 1 (169 + 61 * (10 * (d : Int) + x) + k)) (hr7 : ∀ k, 0 ≤ k → k < 61 → InR (h7 k)) (h5 : F2 5 = kc (F 5)) (h6 : F2 6 = F 6) (h8 : F2 8 = F 8) (h10 : F2 10 = F 10) (h38 : F2 38 = F 38) :
    CP9 ι (uF (rmG G B b) (103 + 10 * b + d) (A 1 (5 + (d : Int)))) (uA (rmB G B b) (106 + 11 * b + d) (up (shu (up (shd ((rmB G B b) (106 + 11 * b + d)) x (A 1 (5 + (d : Int)) - 1) 1) (A 1 (5 + (d : Int)) - 1) (-1)) y (A 1 (5 + (d : Int)) - 1) 1) y ((rmB G B b) (106 + 11 * b + d) x))) F2
      (uA (uA (uA A 1 (cp h7 (mvL (A 1) d x y) 0 (169 + 61 * (10 * (d : Int) + y)) 61)) 4 (kA A (F 5))) 7 h7) b := by
  have C1 := C.rm
  have e1 : (uA A 4 (kA A (F 5))) 1 = A 1 := uA_n (by decide)
  have L1 := C1.ln hd
  rw [e1] at L1
  have hw := C1.w.1 d
  have r1 := C.m.2.2.2.2.2
  obtain ⟨n, hn⟩ : ∃ n, A 1 (5 + (d : Int)) = n := ⟨_, rfl⟩
  generalize rmB G B b = B1 at C1 L1 hw ⊢
  have hout : ∀ j, (j < 169 + 610 * (d : Int) ∨ 169 + 610 * (d : Int) + 610 ≤ j) → cp h7 (mvL (A 1) d x y) 0 (169 + 61 * (10 * (d : Int) + y)) 61 j = A 1 j := by
    intro j hj
    have := L1.1.2
    unfold cp
    rw [if_neg (by omega)]
    unfold mvL
    split
    · unfold shd; rw [if_neg (by omega)]
    · unfold shu; rw [if_neg (by omega)]
  have e5 := hout (5 + (d : Int)) (by omega)
  have hsh : ∀ l', 0 ≤ l' → l' < n → l' ≠ y → ∃ l'' : Int, (0 ≤ l'' ∧ l'' < n) ∧ (∀ k, 0 ≤ k → k < 61 → cp h7 (mvL (A 1) d x y) 0 (169 + 61 * (10 * (d : Int) + y)) 61 (169 + 61 * (10 * (d : Int) + l') + k) = A 1 (169 + 61 * (10 * (d : Int) + l'') + k)) ∧
      up (shu (up (shd (B1 (106 + 11 * b + d)) x (n - 1) 1) (n - 1) (-1)) y (n - 1) 1) y (B1 (106 + 11 * b + d) x) l' = B1 (106 + 11 * b + d) l'' := by
    intro l' l0 l1 l2
    rw [hn] at hx hy
    by_cases c : x ≤ y
    · by_cases c2 : x ≤ l' ∧ l' < y
      · refine ⟨l' + 1, by omega, fun k k0 k1 => ?_, ?_⟩
        · unfold cp mvL; rw [if_neg (by omega), if_pos c]; unfold shd; rw [if_pos (by omega)]; congr 1; omega
        · rw [up_n l2]; unfold shu; rw [if_neg (by omega), up_n (by omega)]; unfold shd; rw [if_pos (by omega)]
      · refine ⟨l', by omega, fun k k0 k1 => ?_, ?_⟩
        · unfold cp mvL; rw [if_neg (by omega), if_pos c]; unfold shd; rw [if_neg (by omega)]
        · rw [up_n l2]; unfold shu
          by_cases c3 : l' < x
          · rw [if_neg (by omega), up_n (by omega)]; unfold shd; rw [if_neg (by omega)]
          · rw [if_pos (by omega), up_n (by omega)]; unfold shd; rw [if_pos (by omega)]; congr 1; omega
    · by_cases c2 : y < l' ∧ l' ≤ x
      · refine ⟨l' - 1, by omega, fun k k0 k1 => ?_, ?_⟩
        · unfold cp mvL; rw [if_neg (by omega), if_neg c]; unfold shu; rw [if_pos (by omega)]; congr 1; omega
        · rw [up_n l2]; unfold shu; rw [if_pos (by omega), up_n (by omega)]; unfold shd; rw [if_neg (by omega)]
      · refine ⟨l', by omega, fun k k0 k1 => ?_, ?_⟩
        · unfold cp mvL; rw [if_neg (by omega), if_neg c]; unfold shu; rw [if_neg (by omega)]
        · rw [up_n l2]; unfold shu
          by_cases c3 : l' < y
          · rw [if_neg (by omega), up_n (by omega)]; unfold shd; rw [if_neg (by omega)]
          · rw [if_pos (by omega), up_n (by omega)]; unfold shd; rw [if_pos (by omega)]; congr 1; omega
  have hw7 : ∀ l : Int, 0 ≤ l → l < 10 → RfO ι 4 (up (shu (up (shd (B1 (106 + 11 * b + d)) x (A 1 (5 + (d : Int)) - 1) 1) (A 1 (5 + (d : Int)) - 1) (-1)) y (A 1 (5 + (d : Int)) - 1) 1) y (B1 (106 + 11 * b + d) x) l) :=
    RfO.up9 (RfO.shu9 (RfO.rm (fun j j0 j1 => hw j hd j0 j1) ⟨hx.1, by have := L1.1.2; omega⟩) hy.1) (hw x hd hx.1 (by have := L1.1.2; omega))
  have D := C1.dr (ι' := ι) (d := d) (n' := A 1 (5 + (d : Int))) (g' := up (shu (up (shd (B1 (106 + 11 * b + d)) x (A 1 (5 + (d : Int)) - 1) 1) (A 1 (5 + (d : Int)) - 1) (-1)) y (A 1 (5 + (d : Int)) - 1) 1) y (B1 (106 + 11 * b + d) x)) (a' := cp h7 (mvL (A 1) d x y) 0 (169 + 61 * (10 * (d : Int) + y)) 61)
    (fun _ _ q => q) hd (by rw [e5]; exact ⟨rfl, L1.1.2⟩) (fun k k0 k1 k2 => by rw [e1]; exact hout k (by omega)) (fun d' d0 d1 d2 k k0 k1 => by rw [e1]; exact hout _ (by omega)) (fun l' l0 l1 => ?_) (fun z => ?_) hw7
  · refine D.cF ?_ ?_ ?_ ?_ (by rw [h38]; exact C.r38) ?_ ?_ ?_ ?_
    · rw [uF_s]; exact h5
    · rw [uF_n (by decide)]; exact h6
    · rw [uF_n (by decide)]; exact h8
    · rw [uF_n (by decide)]; exact h10
    · rw [uA_n (by decide), uA_n (by decide), uA_s, uA_s]
    · simp only [uA_n, ne_eq, Nat.reduceEqDiff, not_false_eq_true]
    · rw [uA_n (by decide), uA_s, uA_n (by decide), uA_s]
    · simp only [uA_n, ne_eq, Nat.reduceEqDiff, not_false_eq_true]
  · rw [e5, hn] at l1
    by_cases c : l' = y
    · subst c
      obtain ⟨q, q1, q2⟩ := L1.2 x hx.1 hx.2
      refine ⟨q, by rw [up_s]; exact q1, q2.sl (fun k k0 k1 => ?_)⟩
      rw [← hh k k0 k1]
      unfold cp
      rw [if_pos (by omega)]; congr 1; omega
    · obtain ⟨l'', h0, h1, h2⟩ := hsh l' l0 l1 c
      obtain ⟨q, q1, q2⟩ := L1.2 l'' h0.1 (by rw [hn]; exact h0.2)
      exact ⟨q, by rw [hn, h2]; exact q1, q2.sl h1⟩
  · unfold cp
    split
    · exact hr7 _ (by omega) (by omega)
    · unfold mvL; split
      · exact shd_r r1 _
      · exact shu_r r1 _
/-- the exceptions changed, behind a state kept -/
theorem CP9.ex {ι' : Nat → Option XE} {n' : Int} {g' a' : Int → Int} (C : CP9 ι G B F A b) (e : ext ι ι') (h1 : ∀ k, (0 ≤ k ∧ k < 4) ∨ (5 ≤ k ∧ k < 9) ∨ (169 ≤ k ∧ k < 2609) → a' k = A 1 k)
    (hn : n' = a' 4 ∧ 0 ≤ a' 4 ∧ a' 4 ≤ 8) (hX : ∀ x, 0 ≤ x → x < a' 4 → ∃ q : Nat, g' x = (q : Int) ∧ MkO ι' q (fun k => a' (9 + 20 * x + 1 + k)) (a' (9 + 20 * x)) (a' (9 + 20 * x + 1 + 12)) (fun k => a' (9 + 20 * x + 2 + 12 + k))) (hr : ∀ x, InR (a' x)) (hw : ∀ x : Int, 0 ≤ x → x < 8 → RfO ι' 5 (g' x)) :
    CP9 ι' (uF G (102 + 10 * b) n') (uA B (110 + 11 * b) g') F (uA A 1 a') b := by
  refine C.md e (fun k hk => uF_n (by omega)) (fun k hk => uA_n (by omega)) (C.m.ex e (fun k q1 q2 q3 => uF_n q3) (fun k q1 q2 => uA_n (by omega)) h1 ⟨by rw [uF_s]; exact hn, fun x x0 x1 => by rw [uA_s]; exact hX x x0 x1⟩ hr) ⟨fun d l hd l0 l1 => ?_, fun l l0 l1 => ?_⟩ ?_
  · rw [uA_n (by omega)]; exact (C.w.1 d l hd l0 l1).ext e
  · rw [uA_s]; exact hw l l0 l1
  · rw [uF_n (by omega)]; exact C.mq
theorem K_dropException {x : Int} {F2 : Nat → Int} (C : CP9 ι G B F A b) (hx : 0 ≤ x ∧ x < A 1 4) (h5 : F2 5 = kc (F 5)) (h6 : F2 6 = F 6) (h8 : F2 8 = F 8) (h10 : F2 10 = F 10) (h38 : F2 38 = F 38) :
    CP9 ι (uF (rmG G B b) (102 + 10 * b) (A 1 4 - 1)) (uA (rmB G B b) (110 + 11 * b) (up (shd ((rmB G B b) (110 + 11 * b)) x (A 1 4 - 1) 1) (A 1 4 - 1) (-1))) F2 (uA (uA A 1 (drE (A 1) x)) 4 (kA A (F 5))) b := by
  have C1 := C.rm
  have e1 : (uA A 4 (kA A (F 5))) 1 = A 1 := uA_n (by decide)
  have X1 := C1.m.2.2.2.1
  unfold ExM at X1
  rw [e1] at X1
  have hw := C1.w.2
  generalize rmB G B b = B1 at C1 X1 hw ⊢
  obtain ⟨n, hn⟩ : ∃ n, A 1 4 = n := ⟨_, rfl⟩
  rw [hn] at hx X1 ⊢
  have e4 : drE (A 1) x 4 = n - 1 := by unfold drE; rw [up_s, hn]
  have eo : ∀ j, j ≠ 4 → drE (A 1) x j = shd (A 1) (9 + 20 * x) (9 + 20 * (n - 1)) 20 j := fun j hj => by unfold drE; rw [up_n hj, hn]
  refine CP9.od (C1.ex (ι' := ι) (fun _ _ q => q) (fun k hk => by rw [eo k (by omega), e1]; unfold shd; rw [if_neg (by omega)]) (by rw [e4]; omega) (fun z z0 z1 => ?_) (fun z => ?_) (fun l l0 l1 => ?_)) ?_ ?_ ?_ ?_ ?_
  · rw [e4] at z1
    by_cases c : x ≤ z
    · obtain ⟨q, q1, q2⟩ := X1.2 (z + 1) (by omega) (by omega)
      refine ⟨q, by rw [up_n (by omega)]; unfold shd; rw [if_pos (by omega)]; exact q1, ?_⟩
      have hwn : 1 ≤ A 1 (9 + 20 * (z + 1)) ∧ A 1 (9 + 20 * (z + 1)) ≤ 12 := by obtain ⟨wq, aM, m9, k1, k2, k3⟩ := q2; exact k2.1
      have hcn : 1 ≤ A 1 (9 + 20 * (z + 1) + 1 + 12) ∧ A 1 (9 + 20 * (z + 1) + 1 + 12) ≤ 6 := by obtain ⟨wq, aM, m9, k1, k2, k3, k4⟩ := q2; exact k3
      have sh : ∀ k, 0 ≤ k → k < 20 → drE (A 1) x (9 + 20 * z + k) = A 1 (9 + 20 * (z + 1) + k) := fun k k0 k1 => by rw [eo _ (by omega)]; unfold shd; rw [if_pos (by omega)]; congr 1; omega
      have s0' := sh 0 (by omega) (by omega)
      have s13 := sh 13 (by omega) (by omega)
      rw [Int.add_zero, Int.add_zero] at s0'
      rw [s0', show 9 + 20 * z + 1 + 12 = 9 + 20 * z + 13 by omega, s13, show 9 + 20 * (z + 1) + 13 = 9 + 20 * (z + 1) + 1 + 12 by omega]
      exact q2.cg (fun k k0 k1 => by rw [show 9 + 20 * z + 1 + k = 9 + 20 * z + (1 + k) by omega, sh _ (by omega) (by omega)]; congr 1; omega) (fun k k0 k1 => by rw [show 9 + 20 * z + 2 + 12 + k = 9 + 20 * z + (14 + k) by omega, sh _ (by omega) (by omega)]; congr 1; omega)
    · obtain ⟨q, q1, q2⟩ := X1.2 z (by omega) (by omega)
      refine ⟨q, by rw [up_n (by omega)]; unfold shd; rw [if_neg (by omega)]; exact q1, ?_⟩
      have hwn : 1 ≤ A 1 (9 + 20 * z) ∧ A 1 (9 + 20 * z) ≤ 12 := by obtain ⟨wq, aM, m9, k1, k2, k3⟩ := q2; exact k2.1
      have hcn : 1 ≤ A 1 (9 + 20 * z + 1 + 12) ∧ A 1 (9 + 20 * z + 1 + 12) ≤ 6 := by obtain ⟨wq, aM, m9, k1, k2, k3, k4⟩ := q2; exact k3
      have sh : ∀ k, 0 ≤ k → k < 20 → drE (A 1) x (9 + 20 * z + k) = A 1 (9 + 20 * z + k) := fun k k0 k1 => by rw [eo _ (by omega)]; unfold shd; rw [if_neg (by omega)]
      have s0' := sh 0 (by omega) (by omega)
      have s13 := sh 13 (by omega) (by omega)
      rw [Int.add_zero] at s0'
      rw [s0', show 9 + 20 * z + 1 + 12 = 9 + 20 * z + 13 by omega, s13, show 9 + 20 * z + 13 = 9 + 20 * z + 1 + 12 by omega]
      exact q2.cg (fun k k0 k1 => by rw [show 9 + 20 * z + 1 + k = 9 + 20 * z + (1 + k) by omega, sh _ (by omega) (by omega)]) (fun k k0 k1 => by rw [show 9 + 20 * z + 2 + 12 + k = 9 + 20 * z + (14 + k) by omega, sh _ (by omega) (by omega)])
  · unfold drE; exact up_r (shd_r C.m.2.2.2.2.2) ⟨by rw [hn]; omega, by rw [hn]; omega⟩ z
  · by_cases c : l = n - 1
    · rw [c, up_s]; exact Or.inl (by decide)
    · rw [up_n c]; unfold shd; split
      · exact hw _ (by omega) (by omega)
      · exact hw l l0 l1
  · rw [uF_s]; exact h5
  · rw [uF_n (by decide)]; exact h6
  · rw [uF_n (by decide)]; exact h8
  · rw [uF_n (by decide)]; exact h10
  · rw [uF_n (by decide)]; exact h38
theorem K_readException {ι' : Nat → Option XE} {q : Nat} {nm wv dg : Int} {F2 : Nat → Int} {f m m6 : Int → Int} (C : CP9 ι G B F A b) (e : ext ι ι') (hnm : (0 ≤ nm ∧ nm < 8) ∧ nm ≤ A 1 4) (hq : MkO ι' q f wv dg m) (hf : ∀ x, InR (f x)) (hm : ∀ k, 0 ≤ k → k < dg → m6 k = m k) (h5 : F2 5 = kc (F 5)) (h6 : F2 6 = F 6) (h8 : F2 8 = F 8) (h10 : F2 10 = F 10) (h38 : F2 38 = F 38) :
    CP9 ι' (uF (rmG G B b) (102 + 10 * b) (max (A 1 4) (nm + 1))) (uA (rmB G B b) (110 + 11 * b) (up ((rmB G B b) (110 + 11 * b)) nm (q : Int))) F2 (uA (uA (uA A 1 (rxA (A 1) f wv dg nm m6)) 4 (kA A (F 5))) 6 m6) b := by
  have C1 := C.rm
  have e1 : (uA A 4 (kA A (F 5))) 1 = A 1 := uA_n (by decide)
  have X1 := C1.m.2.2.2.1
  unfold ExM at X1
  rw [e1] at X1
  have hw := C1.w.2
  have r1 := C.m.2.2.2.2.2
  generalize rmB G B b = B1 at C1 X1 hw ⊢
  obtain ⟨n, hn⟩ : ∃ n, A 1 4 = n := ⟨_, rfl⟩
  rw [hn] at hnm X1 ⊢
  have hwv : 1 ≤ wv ∧ wv ≤ 12 := by obtain ⟨wq, aM, m9, k1, k2, k3⟩ := hq; exact k2.1
  have hdg : (1 ≤ dg ∧ dg ≤ 6) ∧ ∀ k, 0 ≤ k → k < dg → 0 ≤ m k ∧ m k ≤ 2 := by obtain ⟨wq, aM, m9, k1, k2, k3, k4, k5⟩ := hq; exact ⟨k3, fun k k0 k1 => (k5 k k0 k1).2⟩
  have ot : ∀ j, (j < 9 + 20 * nm ∨ 29 + 20 * nm ≤ j) → j ≠ 4 → rxA (A 1) f wv dg nm m6 j = A 1 j := fun j hj h4 => by
    unfold rxA lyA
    rw [if_neg (by omega), if_neg (by omega), if_neg (by omega), if_neg (by omega)]
    split
    · exact up_n h4
    · rfl
  have e4 : rxA (A 1) f wv dg nm m6 4 = max n (nm + 1) := by
    unfold rxA lyA
    rw [if_neg (by omega), if_neg (by omega), if_neg (by omega), if_neg (by omega)]
    split
    · rw [up_s]; omega
    · omega
  have w0 : rxA (A 1) f wv dg nm m6 (9 + 20 * nm) = wv := by
    unfold rxA lyA
    rw [if_neg (by omega), if_neg (by omega), if_pos rfl]
  have w1 : ∀ k, 0 ≤ k → k < wv → rxA (A 1) f wv dg nm m6 (9 + 20 * nm + 1 + k) = f k := fun k k0 k1 => by
    unfold rxA lyA
    rw [if_neg (by omega), if_neg (by omega), if_neg (by omega), if_pos (by omega), if_pos (by omega)]; congr 1; omega
  have w13 : rxA (A 1) f wv dg nm m6 (9 + 20 * nm + 1 + 12) = dg := by
    unfold rxA lyA
    rw [if_pos rfl]
  have w14 : ∀ k, 0 ≤ k → k < dg → rxA (A 1) f wv dg nm m6 (9 + 20 * nm + 2 + 12 + k) = m k := fun k k0 k1 => by
    unfold rxA
    rw [← hm k k0 k1]
    unfold lyA
    rw [if_neg (by omega), if_pos (by omega), if_pos (by omega)]; congr 1; omega
  have D := C1.ex (ι' := ι') (n' := max n (nm + 1)) (g' := up (B1 (110 + 11 * b)) nm (q : Int)) (a' := rxA (A 1) f wv dg nm m6) e (fun k hk => by rw [e1]; exact ot k (by omega) (by omega)) (by rw [e4]; omega) (fun z z0 z1 => ?_) (fun z => ?_) (fun l l0 l1 => ?_)
  · refine D.cF ?_ ?_ ?_ ?_ (by rw [h38]; exact C.r38) ?_ ?_ ?_ ?_
    · rw [uF_s]; exact h5
    · rw [uF_n (by decide)]; exact h6
    · rw [uF_n (by decide)]; exact h8
    · rw [uF_n (by decide)]; exact h10
    · rw [uA_n (by decide), uA_n (by decide), uA_s, uA_s]
    · simp only [uA_n, ne_eq, Nat.reduceEqDiff, not_false_eq_true]
    · rw [uA_n (by decide), uA_s, uA_n (by decide), uA_s]
    · simp only [uA_n, ne_eq, Nat.reduceEqDiff, not_false_eq_true]
  · rw [e4] at z1
    by_cases c : z = nm
    · subst c
      refine ⟨q, up_s, ?_⟩
      rw [w0, w13]
      exact hq.cg w1 w14
    · obtain ⟨q', q1, q2⟩ := X1.2 z z0 (by omega)
      have hwn : 1 ≤ A 1 (9 + 20 * z) ∧ A 1 (9 + 20 * z) ≤ 12 := by obtain ⟨wq, aM, m9, k1, k2, k3⟩ := q2; exact k2.1
      have hcn : 1 ≤ A 1 (9 + 20 * z + 1 + 12) ∧ A 1 (9 + 20 * z + 1 + 12) ≤ 6 := by obtain ⟨wq, aM, m9, k1, k2, k3, k4⟩ := q2; exact k3
      refine ⟨q', by rw [up_n c]; exact q1, ?_⟩
      rw [ot (9 + 20 * z) (by omega) (by omega), ot (9 + 20 * z + 1 + 12) (by omega) (by omega)]
      exact (q2.ext e).cg (fun k k0 k1 => ot _ (by omega) (by omega)) (fun k k0 k1 => ot _ (by omega) (by omega))
  · unfold rxA
    unfold lyA
    split
    · exact ⟨by omega, by omega⟩
    · split
      · split
        · have := hdg.2 (z - (9 + 20 * nm + 1 + 12 + 1)) (by omega) (by omega)
          rw [hm _ (by omega) (by omega)]
          exact ⟨by omega, by omega⟩
        · exact ⟨by omega, by omega⟩
      · split
        · exact ⟨by omega, by omega⟩
        · split
          · split
            · exact hf _
            · exact ⟨by omega, by omega⟩
          · split
            · exact up_r r1 ⟨by omega, by omega⟩ z
            · exact r1 z
  · by_cases c : l = nm
    · rw [c, up_s]
      obtain ⟨wq, aM, m9, k1, k2⟩ := hq
      exact Or.inr ⟨q, _, rfl, k1⟩
    · rw [up_n c]; exact (hw l l0 l1).ext e
theorem K_undo {F2 : Nat → Int} (C : CP9 ι G B F A b) (hc : 0 < F 5) (h5 : F2 5 = F 5 - 1) (h6 : F2 6 = F 6) (h8 : F2 8 = F 8) (h10 : F2 10 = F 10) (h38 : F2 38 = F 38) :
    CP9 ι (uF (uF G 0 (B 31 (F 5 - 1))) 1 (F 5 - 1)) (uA B 31 (up (B 31) (F 5 - 1) (b : Int))) F2 (uA A 1 (cp (A 4) (A 1) (2609 * (F 5 - 1)) 0 2609)) (B 31 (F 5 - 1)).toNat := by
  obtain ⟨⟨c1, c2⟩, c3, ⟨s1', s2', s3', s4', s5', s6'⟩, ⟨c5, c6, c7, c8⟩, c9, c10⟩ := C
  obtain ⟨bn, k1, k2, k3⟩ := s3' (F 5 - 1) (by omega) (by omega)
  have m9 := s5' (F 5 - 1) (by omega) (by omega)
  rw [k1, Int.toNat_natCast] at m9 ⊢
  have fr : ∀ (x : Nat) (a : Int → Int), MB9 ι G B x a → MB9 ι (uF (uF G 0 (bn : Int)) 1 (F 5 - 1)) (uA B 31 (up (B 31) (F 5 - 1) (b : Int))) x a := fun x a m => m.fr (fun _ _ q => q) (fun k q1 q2 => by rw [uF_n (by omega), uF_n (by omega)]) (fun k q1 q2 => uA_n (by omega))
  refine ⟨⟨k2, by rw [uF_n (by decide), uF_s]⟩, ?_, ⟨by rw [h5]; omega, by rw [h5, uF_s], fun j j0 j1 => ?_, fun i j i0 i1 j0 j1 hij => ?_, fun i i0 i1 => ?_, by rw [uA_n (by decide)]; exact s6'⟩, ⟨by rw [h6]; exact c5, by rw [h6, uF_n (by decide), uF_n (by decide)]; exact c6, fun q => ?_, by rw [uA_n (by decide)]; exact c8⟩, ?_, ?_⟩
  · rw [uA_s]
    refine (fr bn _ m9).cg (fun k k0 k1 => ?_) (cp_r s6' c3.2.2.2.2.2)
    unfold cp; rw [if_pos (by omega), Int.sub_zero]
  · rw [uA_s]
    by_cases q : j = F 5 - 1
    · rw [q, up_s]; exact ⟨b, rfl, c1, fun z => k3 z.symm⟩
    · rw [up_n q]
      obtain ⟨bj, p1, p2, p3⟩ := s3' j j0 j1
      refine ⟨bj, p1, p2, fun z => q ?_⟩
      exact s4' j (F 5 - 1) j0 j1 (by omega) (by omega) (by rw [p1, k1, z])
  · rw [uA_s] at hij
    by_cases q1 : i = F 5 - 1
    · by_cases q2 : j = F 5 - 1
      · omega
      · rw [q1, up_s, up_n q2] at hij
        obtain ⟨bj, p1, p2, p3⟩ := s3' j j0 j1
        rw [p1] at hij; omega
    · by_cases q2 : j = F 5 - 1
      · rw [q2, up_s, up_n q1] at hij
        obtain ⟨bj, p1, p2, p3⟩ := s3' i i0 i1
        rw [p1] at hij; omega
      · rw [up_n q1, up_n q2] at hij
        exact s4' i j i0 i1 j0 j1 hij
  · rw [h5] at i1
    rw [uA_s, up_n (by omega), uA_n (by decide)]
    exact fr _ _ (s5' i i0 (by omega))
  · rw [h6] at q
    rw [uA_n (by decide)]; exact fr 9 _ (c7 q)
  · unfold IN9 at c9 ⊢
    rw [h8, h10, uA_n (by decide), uF_n (by decide), uF_n (by decide), uF_n (by decide), uF_n (by decide), uF_n (by decide), uF_n (by decide), uA_n (by decide)]; exact c9
  · obtain ⟨w1, ⟨x1, x2, x3, x4, w2⟩, w3, w4, w5⟩ := c10
    refine ⟨w1.u31, ⟨x1, x2, x3, x4, ?_⟩, ?_, by rw [h38]; exact w4, fun x hx => by rw [uF_n (by omega), uF_n (by omega)]; exact w5 x hx⟩
    · unfold IX at w2 ⊢
      simp only [uF_n, ne_eq, Nat.reduceEqDiff, not_false_eq_true]; exact w2
    · unfold CA at w3 ⊢; rw [uA_n (by decide)]; exact w3
theorem K_save {F2 : Nat → Int} (C : CP9 ι G B F A b) (h5 : F2 5 = F 5) (h6 : F2 6 = 1) (h8 : F2 8 = F 8) (h10 : F2 10 = F 10) (h38 : F2 38 = F 38) : CP9 ι (uF (bcG G 9 b) 2 1) (bcB B 9 b) F2 (uA A 3 (cp (A 1) (A 3) 0 0 2609)) b := by
  obtain ⟨⟨c1, c2⟩, c3, ⟨s1', s2', s3', s4', s5', s6'⟩, ⟨c5, c6, c7, c8⟩, c9, c10⟩ := C
  have gl : ∀ k, k < 190 → k ≠ 2 → uF (bcG G 9 b) 2 1 k = G k := fun k q1 q2 => by rw [uF_n q2, bcG_n (by omega)]
  have bl : ∀ k, k < 205 → bcB B 9 b k = B k := fun k q1 => bcB_n (by omega)
  have fr : ∀ (x : Nat) (a : Int → Int), x ≤ 8 → MB9 ι G B x a → MB9 ι (uF (bcG G 9 b) 2 1) (bcB B 9 b) x a := fun x a hx m => m.fr (fun _ _ q => q) (fun k q1 q2 => gl k (by omega) (by omega)) (fun k q1 q2 => bl k (by omega))
  refine ⟨⟨c1, by rw [gl 0 (by omega) (by omega)]; exact c2⟩, by rw [uA_n (by decide)]; exact fr b _ c1 c3, ⟨by rw [h5]; exact s1', by rw [h5, gl 1 (by omega) (by omega)]; exact s2', by rw [bl 31 (by omega)]; exact s3', by rw [bl 31 (by omega)]; exact s4', fun i i0 i1 => ?_, by rw [uA_n (by decide)]; exact s6'⟩, ⟨Or.inr h6, by rw [h6, uF_s], fun _ => ?_, by rw [uA_s]; exact cp_r c3.2.2.2.2.2 c8⟩, ?_, ?_⟩
  · rw [h5] at i1
    rw [bl 31 (by omega), uA_n (by decide)]
    obtain ⟨bj, p1, p2, p3⟩ := s3' i i0 (by omega)
    have := s5' i i0 i1
    rw [p1, Int.toNat_natCast] at this ⊢
    exact fr _ _ p2 this
  · rw [uA_s]
    have m1 := c3.bc (b := 9) (by omega) (by omega)
    have m2 : MB9 ι (uF (bcG G 9 b) 2 1) (bcB B 9 b) 9 (A 1) := m1.fr (fun _ _ q => q) (fun k q1 q2 => uF_n (by omega)) (fun k q1 q2 => rfl)
    exact m2.cg (fun k k0 k1 => by unfold cp; rw [if_pos (by omega)]; congr 1; omega) (cp_r c3.2.2.2.2.2 c8)
  · unfold IN9 at c9 ⊢
    rw [h8, h10, uA_n (by decide), gl 3 (by omega) (by omega), gl 4 (by omega) (by omega), gl 5 (by omega) (by omega), bl 41 (by omega)]; exact c9
  · obtain ⟨w1, ⟨x1, x2, x3, x4, w2⟩, w3, w4, w5⟩ := c10
    refine ⟨w1.bc (by omega) (by omega), ⟨x1, x2, x3, x4, ?_⟩, ?_, by rw [h38]; exact w4, fun x hx => ?_⟩
    · unfold IX at w2 ⊢
      rw [gl 12 (by omega) (by omega), gl 13 (by omega) (by omega), gl 14 (by omega) (by omega), gl 15 (by omega) (by omega)]; exact w2
    · unfold CA at w3 ⊢; rw [bl 32 (by omega)]; exact w3
    · rw [uF_n (by omega)]; exact bcG_m w5 (by omega) hx
theorem K_restore {F2 : Nat → Int} (C : CP9 ι G B F A b) (hs : F 6 = 1) (h5 : F2 5 = 0) (h6 : F2 6 = F 6) (h8 : F2 8 = F 8) (h10 : F2 10 = F 10) (h38 : F2 38 = F 38) : CP9 ι (uF (bcG G b 9) 1 0) (bcB B b 9) F2 (uA A 1 (cp (A 3) (A 1) 0 0 2609)) b := by
  obtain ⟨⟨c1, c2⟩, c3, ⟨s1', s2', s3', s4', s5', s6'⟩, ⟨c5, c6, c7, c8⟩, c9, c10⟩ := C
  have gl : ∀ k, k < 100 → k ≠ 1 → uF (bcG G b 9) 1 0 k = G k := fun k q1 q2 => by rw [uF_n q2, bcG_n (by omega)]
  have bl : ∀ k, k < 100 → bcB B b 9 k = B k := fun k q1 => bcB_n (by omega)
  refine ⟨⟨c1, by rw [gl 0 (by omega) (by omega)]; exact c2⟩, ?_, ⟨by rw [h5]; omega, by rw [h5, uF_s], by rw [bl 31 (by omega)]; exact s3', by rw [bl 31 (by omega)]; exact s4', fun i i0 i1 => by rw [h5] at i1; omega, by rw [uA_n (by decide)]; exact s6'⟩, ⟨by rw [h6]; exact c5, by rw [h6, gl 2 (by omega) (by omega)]; exact c6, fun q => ?_, by rw [uA_n (by decide)]; exact c8⟩, ?_, ?_⟩
  · rw [uA_s]
    have m1 := (c7 hs).bc (b := b) (by omega) (by omega)
    have m2 : MB9 ι (uF (bcG G b 9) 1 0) (bcB B b 9) b (A 3) := m1.fr (fun _ _ q => q) (fun k q1 q2 => uF_n (by omega)) (fun k q1 q2 => rfl)
    exact m2.cg (fun k k0 k1 => by unfold cp; rw [if_pos (by omega)]; congr 1; omega) (cp_r c8 c3.2.2.2.2.2)
  · rw [h6] at q
    rw [uA_n (by decide)]
    exact (c7 q).fr (fun _ _ q => q) (fun k q1 q2 => by rw [uF_n (by omega), bcG_n (by omega)]) (fun k q1 q2 => bcB_n (by omega))
  · unfold IN9 at c9 ⊢
    rw [h8, h10, uA_n (by decide), gl 3 (by omega) (by omega), gl 4 (by omega) (by omega), gl 5 (by omega) (by omega), bl 41 (by omega)]; exact c9
  · obtain ⟨w1, ⟨x1, x2, x3, x4, w2⟩, w3, w4, w5⟩ := c10
    refine ⟨w1.bc (by omega) (by omega), ⟨x1, x2, x3, x4, ?_⟩, ?_, by rw [h38]; exact w4, fun x hx => ?_⟩
    · unfold IX at w2 ⊢
      rw [gl 12 (by omega) (by omega), gl 13 (by omega) (by omega), gl 14 (by omega) (by omega), gl 15 (by omega) (by omega)]; exact w2
    · unfold CA at w3 ⊢; rw [bl 32 (by omega)]; exact w3
    · rw [uF_n (by omega)]; exact bcG_m w5 (by omega) hx
theorem K_feed {c : Int} {F2 : Nat → Int} (C : CP9 ι G B F A b) (hf : F 8 < 60) (hc : 0 ≤ c ∧ c < 65536) (h5 : F2 5 = F 5) (h6 : F2 6 = F 6) (h8 : F2 8 = F 8 + 1) (h10 : F2 10 = F 10) (h38 : F2 38 = F 38) : CP9 ι (uF G 4 (F 8 + 1)) (uA B 41 (up (B 41) (F 8) c)) F2 (uA A 5 (up (A 5) (F 8) c)) b := by
  obtain ⟨⟨c1, c2⟩, c3, ⟨s1', s2', s3', s4', s5', s6'⟩, ⟨c5, c6, c7, c8⟩, c9, c10⟩ := C
  have fr : ∀ (x : Nat) (a : Int → Int), MB9 ι G B x a → MB9 ι (uF G 4 (F 8 + 1)) (uA B 41 (up (B 41) (F 8) c)) x a := fun x a m => m.fr (fun _ _ q => q) (fun k q1 q2 => uF_n (by omega)) (fun k q1 q2 => uA_n (by omega))
  refine ⟨⟨c1, by rw [uF_n (by decide)]; exact c2⟩, by rw [uA_n (by decide)]; exact fr _ _ c3, ⟨by rw [h5]; exact s1', by rw [h5, uF_n (by decide)]; exact s2', by rw [uA_n (by decide)]; exact s3', by rw [uA_n (by decide)]; exact s4', fun i i0 i1 => by rw [h5] at i1; rw [uA_n (by decide), uA_n (by decide)]; exact fr _ _ (s5' i i0 i1), by rw [uA_n (by decide)]; exact s6'⟩, ⟨by rw [h6]; exact c5, by rw [h6, uF_n (by decide)]; exact c6, fun q => by rw [h6] at q; rw [uA_n (by decide)]; exact fr _ _ (c7 q), by rw [uA_n (by decide)]; exact c8⟩, ?_, ?_⟩
  · obtain ⟨⟨i1, i2, i3, i4, i5⟩, ⟨i6, i7, i8⟩, i9⟩ := c9
    refine ⟨⟨by rw [uF_s, h8], by rw [h8]; omega, by rw [uA_s, uA_s, i3], fun i hi => ?_, by rw [uA_s]; exact up_r i5 ⟨by omega, by omega⟩⟩, by rw [uF_n (by decide), h10]; exact ⟨i6, i7, i8⟩, by rw [uF_n (by decide)]; exact i9⟩
    rw [h8] at hi
    rw [uA_s]
    by_cases q : i = F 8
    · rw [q, up_s]; exact hc
    · rw [up_n q]; exact i4 i ⟨hi.1, by omega⟩
  · obtain ⟨w1, ⟨x1, x2, x3, x4, w2⟩, w3, w4, w5⟩ := c10
    refine ⟨fun x hx => ⟨fun d l hd l0 l1 => by rw [uA_n (by omega)]; exact (w1 x hx).1 d l hd l0 l1, fun l l0 l1 => by rw [uA_n (by omega)]; exact (w1 x hx).2 l l0 l1⟩, ⟨x1, x2, x3, x4, ?_⟩, ?_, by rw [h38]; exact w4, fun x hx => by rw [uF_n (by omega)]; exact w5 x hx⟩
    · unfold IX at w2 ⊢
      simp only [uF_n, ne_eq, Nat.reduceEqDiff, not_false_eq_true]; exact w2
    · unfold CA at w3 ⊢; rw [uA_n (by decide)]; exact w3
end Ky
