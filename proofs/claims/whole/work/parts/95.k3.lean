/-! the coupling: changes -/
theorem MB9.hd {ι ι' : Nat → Option XE} {G G' : Nat → Int} {B B' : Nat → Int → Int} {b : Nat} {a a' : Int → Int} (M : MB9 ι G B b a) (e : ext ι ι') (hG : ∀ k, 102 + 10 * b ≤ k → k < 110 + 10 * b → G' k = G k) (hB : ∀ k, 106 + 11 * b ≤ k → k ≤ 110 + 11 * b → B' k = B k) (h1 : ∀ k, 4 ≤ k → k < 2609 → a' k = a k)
    (hm : ∃ mq : Nat, G' (100 + 10 * b) = (mq : Int) ∧ MtAt ι' mq (a' 0) (a' 1) (a' 2)) (ht : G' (101 + 10 * b) = a' 3 ∧ 0 ≤ a' 3 ∧ a' 3 ≤ 30) (hr : ∀ x, InR (a' x)) : MB9 ι' G' B' b a' := by
  obtain ⟨m1, _, m4, m5, m6, m7⟩ := M
  have h4 := h1 4 (by omega) (by omega)
  refine ⟨m1, hm, ht, ⟨by rw [h4, hG _ (by omega) (by omega)]; exact m5.1, fun x e0 e1 => ?_⟩, fun d' hd' => ?_, hr⟩
  · rw [h4] at e1
    have h5 := m5.1.2
    obtain ⟨q, q1, q2⟩ := m5.2 x e0 e1
    have hw : 1 ≤ a (9 + 20 * x) ∧ a (9 + 20 * x) ≤ 12 := by obtain ⟨wq, aM, m9, k1, k2, k3⟩ := q2; exact k2.1
    have hc : 1 ≤ a (9 + 20 * x + 1 + 12) ∧ a (9 + 20 * x + 1 + 12) ≤ 6 := by obtain ⟨wq, aM, m9, k1, k2, k3, k4⟩ := q2; exact k3
    refine ⟨q, by rw [hB _ (by omega) (by omega)]; exact q1, ?_⟩
    rw [h1 (9 + 20 * x) (by omega) (by omega), h1 (9 + 20 * x + 1 + 12) (by omega) (by omega)]
    exact (q2.ext e).cg (fun k k0 k1 => h1 _ (by omega) (by omega)) (fun k k0 k1 => h1 _ (by omega) (by omega))
  · obtain ⟨e1, e2⟩ := m6 d' hd'
    have h5 := e2.1
    have eg := hG (103 + 10 * b + d') (by omega) (by omega)
    refine ⟨by rw [eg, h1 _ (by omega) (by omega)]; exact e1, by rw [eg]; exact e2.1, fun l l0 l1 => ?_⟩
    rw [eg] at l1
    obtain ⟨q, q1, q2⟩ := e2.2 l l0 l1
    exact ⟨q, by rw [hB _ (by omega) (by omega)]; exact q1, (q2.ext e).sl (fun k k0 k1 => h1 _ (by omega) (by omega))⟩
theorem up_r {f : Int → Int} {k x : Int} (hf : ∀ y, InR (f y)) (hx : InR x) : ∀ y, InR (up f k x y) := fun y => by
  by_cases e : y = k
  · rw [e, up_s]; exact hx
  · rw [up_n e]; exact hf y
theorem shd_r {f : Int → Int} {lo hi s : Int} (hf : ∀ y, InR (f y)) : ∀ y, InR (shd f lo hi s y) := fun y => by unfold shd; split <;> exact hf _
theorem shu_r {f : Int → Int} {lo hi s : Int} (hf : ∀ y, InR (f y)) : ∀ y, InR (shu f lo hi s y) := fun y => by unfold shu; split <;> exact hf _
theorem cp_r {f g : Int → Int} {x y n : Int} (hf : ∀ y, InR (f y)) (hg : ∀ y, InR (g y)) : ∀ z, InR (cp f g x y n z) := fun z => by unfold cp; split <;> first | exact hf _ | exact hg _
theorem lyA_r {f g : Int → Int} {n t k : Int} (hf : ∀ y, InR (f y)) (hg : ∀ y, InR (g y)) (hn : InR n) : ∀ z, InR (lyA f g n t k z) := fun z => by
  unfold lyA
  split
  · exact hn
  · split
    · split
      · exact hg _
      · exact ⟨by omega, by omega⟩
    · exact hf _
section Kx
variable {ι : Nat → Option XE} {G : Nat → Int} {B : Nat → Int → Int} {F : Nat → Int} {A : Nat → Int → Int} {b : Nat}
theorem CP9.w (C : CP9 ι G B F A b) : (∀ (d : Nat) (l : Int), d ≤ 3 → 0 ≤ l → l < 10 → RfO ι 4 (B (106 + 11 * b + d) l)) ∧ ∀ x : Int, 0 ≤ x → x < 8 → RfO ι 5 (B (110 + 11 * b) x) := C.2.2.2.2.2.1 b (by have := C.1.1; omega)
theorem CP9.m (C : CP9 ι G B F A b) : MB9 ι G B b (A 1) := C.2.1
theorem CP9.mq (C : CP9 ι G B F A b) : 0 ≤ G (100 + 10 * b) := C.2.2.2.2.2.2.2.2.2 b (by have := C.1.1; omega)
theorem CP9.r38 (C : CP9 ι G B F A b) : F 38 = 0 ∨ F 38 = 1 := C.2.2.2.2.2.2.2.2.1
/-- the header changed: metre and tolerance -/
theorem CP9.hd {ι' : Nat → Option XE} {G' : Nat → Int} {a' : Int → Int} (C : CP9 ι G B F A b) (e : ext ι ι') (hG : ∀ k, k ≠ 100 + 10 * b → k ≠ 101 + 10 * b → G' k = G k) (h1 : ∀ k, 4 ≤ k → k < 2609 → a' k = A 1 k)
    (hm : ∃ mq : Nat, G' (100 + 10 * b) = (mq : Int) ∧ MtAt ι' mq (a' 0) (a' 1) (a' 2)) (ht : G' (101 + 10 * b) = a' 3 ∧ 0 ≤ a' 3 ∧ a' 3 ≤ 30) (hr : ∀ x, InR (a' x)) : CP9 ι' G' B F (uA A 1 a') b := by
  refine C.md e (fun k hk => hG k (by omega) (by omega)) (fun k hk => rfl) (C.m.hd e (fun k q1 q2 => hG k (by omega) (by omega)) (fun k q1 q2 => rfl) h1 hm ht hr) ⟨fun d l hd l0 l1 => (C.w.1 d l hd l0 l1).ext e, fun l l0 l1 => (C.w.2 l l0 l1).ext e⟩ ?_
  obtain ⟨mq, q, _⟩ := hm
  rw [q]; omega
/-- the reference's order of changes -/
theorem CP9.od {F1 F2 : Nat → Int} {a' k4 : Int → Int} (C : CP9 ι G B F1 (uA (uA A 4 k4) 1 a') b) (h5 : F2 5 = F1 5) (h6 : F2 6 = F1 6) (h8 : F2 8 = F1 8) (h10 : F2 10 = F1 10) (h38 : F2 38 = F1 38) : CP9 ι G B F2 (uA (uA A 1 a') 4 k4) b :=
  C.cF h5 h6 h8 h10 (by rw [h38]; exact C.r38) (by rw [uA_n (by decide), uA_s, uA_s]) (by simp only [uA_n, ne_eq, Nat.reduceEqDiff, not_false_eq_true]) (by rw [uA_s, uA_n (by decide), uA_s]) (by simp only [uA_n, ne_eq, Nat.reduceEqDiff, not_false_eq_true])
theorem K_setTolerance {t : Int} (C : CP9 ι G B F A b) (ht : 0 ≤ t ∧ t ≤ 30) : CP9 ι (uF (rmG G B b) (101 + 10 * b) t) (rmB G B b) (uF (uF F 0 0) 5 (kc (F 5))) (uA (uA A 1 (up (A 1) 3 t)) 4 (kA A (F 5))) b := by
  have C1 := C.rm
  have M1 := C1.m
  rw [uA_n (by decide)] at M1
  obtain ⟨m1, ⟨mq, m2, m3⟩, m4, m5, m6, m7⟩ := M1
  refine CP9.od (C1.hd (ι' := ι) (a' := up (A 1) 3 t) (fun _ _ q => q) (fun k q1 q2 => uF_n q2) (fun k k0 k1 => by rw [up_n (by omega), uA_n (by decide)]) ⟨mq, by rw [uF_n (by omega)]; exact m2, by rw [up_n (by decide), up_n (by decide), up_n (by decide)]; exact m3⟩ (by rw [uF_s, up_s]; exact ⟨rfl, ht⟩) (up_r m7 ⟨by omega, by omega⟩)) ?_ ?_ ?_ ?_ ?_
  all_goals simp only [uF_s, uF_n, ne_eq, Nat.reduceEqDiff, not_false_eq_true]
theorem K_setMetre {ι' : Nat → Option XE} {q : Nat} {x y z : Int} {F2 : Nat → Int} (C : CP9 ι G B F A b) (e : ext ι ι') (M : MtAt ι' q x y z) (h5 : F2 5 = kc (F 5)) (h6 : F2 6 = F 6) (h8 : F2 8 = F 8) (h10 : F2 10 = F 10) (h38 : F2 38 = F 38) :
    CP9 ι' (uF (rmG G B b) (100 + 10 * b) (q : Int)) (rmB G B b) F2 (uA (uA A 1 (up (up (up (A 1) 0 x) 1 y) 2 z)) 4 (kA A (F 5))) b := by
  have C1 := C.rm
  have M1 := C1.m
  rw [uA_n (by decide)] at M1
  obtain ⟨m1, ⟨mq, m2, m3⟩, m4, m5, m6, m7⟩ := M1
  have hx : InR x ∧ InR y ∧ InR z := by have := M.1; exact ⟨⟨by omega, by omega⟩, ⟨by omega, by omega⟩, ⟨by omega, by omega⟩⟩
  refine CP9.od (C1.hd (ι' := ι') (a' := up (up (up (A 1) 0 x) 1 y) 2 z) e (fun k q1 q2 => uF_n q1) (fun k k0 k1 => by rw [up_n (by omega), up_n (by omega), up_n (by omega), uA_n (by decide)]) ⟨q, uF_s, ?_⟩ ?_ (up_r (up_r (up_r m7 hx.1) hx.2.1) hx.2.2)) ?_ ?_ ?_ ?_ ?_
  · rw [up_n (show (0 : Int) ≠ 2 by decide), up_n (show (0 : Int) ≠ 1 by decide), up_s, up_n (show (1 : Int) ≠ 2 by decide), up_s, up_s]; exact M
  · rw [uF_n (by omega), up_n (show (3 : Int) ≠ 2 by decide), up_n (show (3 : Int) ≠ 1 by decide), up_n (show (3 : Int) ≠ 0 by decide)]; exact m4
  · rw [uF_s]; exact h5
  · rw [uF_n (by decide)]; exact h6
  · rw [uF_n (by decide)]; exact h8
  · rw [uF_n (by decide)]; exact h10
  · rw [uF_n (by decide)]; exact h38
/-- a draft changed, behind a state kept -/
theorem CP9.dr {ι' : Nat → Option XE} {d : Nat} {n' : Int} {g' a' : Int → Int} (C : CP9 ι G B F A b) (e : ext ι ι') (hd : d ≤ 3) (hn : n' = a' (5 + (d : Int)) ∧ 0 ≤ a' (5 + (d : Int)) ∧ a' (5 + (d : Int)) ≤ 10) (h1 : ∀ k, 0 ≤ k → k < 169 → k ≠ 5 + (d : Int) → a' k = A 1 k)
    (h2 : ∀ d' : Int, 0 ≤ d' → d' ≤ 3 → d' ≠ d → ∀ k, 0 ≤ k → k < 610 → a' (169 + 610 * d' + k) = A 1 (169 + 610 * d' + k)) (h3 : ∀ l, 0 ≤ l → l < a' (5 + (d : Int)) → ∃ q : Nat, g' l = (q : Int) ∧ LnO ι' q (fA9 a' d l) (nA9 a' d l)) (hr : ∀ x, InR (a' x))
    (hw : ∀ l : Int, 0 ≤ l → l < 10 → RfO ι' 4 (g' l)) : CP9 ι' (uF G (103 + 10 * b + d) n') (uA B (106 + 11 * b + d) g') F (uA A 1 a') b := by
  refine C.md e (fun k hk => uF_n (by omega)) (fun k hk => uA_n (by omega)) (C.m.dr (d := d) e hd (fun k q1 q2 q3 => uF_n q3) (by rw [uF_s]; exact hn) (fun k q1 q2 q3 => uA_n q3) h1 h2 (fun l l0 l1 => by rw [uA_s]; exact h3 l l0 l1) hr) ⟨fun d' l hd' l0 l1 => ?_, fun l l0 l1 => ?_⟩ ?_
  · by_cases q : d' = d
    · subst q; rw [uA_s]; exact hw l l0 l1
    · rw [uA_n (by omega)]; exact (C.w.1 d' l hd' l0 l1).ext e
  · rw [uA_n (by omega)]; exact (C.w.2 l l0 l1).ext e
  · rw [uF_n (by omega)]; exact C.mq
theorem CP9.ln (C : CP9 ι G B F A b) {d : Nat} (hd : d ≤ 3) : (G (103 + 10 * b + d) = A 1 (5 + (d : Int)) ∧ 0 ≤ A 1 (5 + (d : Int)) ∧ A 1 (5 + (d : Int)) ≤ 10) ∧ ∀ l, 0 ≤ l → l < A 1 (5 + (d : Int)) → ∃ q : Nat, B (106 + 11 * b + d) l = (q : Int) ∧ LnO ι q (fA9 (A 1) d l) (nA9 (A 1) d l) := by
  obtain ⟨e1, e2, e3⟩ := C.m.2.2.2.2.1 d hd
  rw [e1] at e2 e3
  exact ⟨⟨e1, e2⟩, e3⟩
theorem K_clearDraft {d : Nat} {F2 : Nat → Int} (C : CP9 ι G B F A b) (hd : d ≤ 3) (h5 : F2 5 = kc (F 5)) (h6 : F2 6 = F 6) (h8 : F2 8 = F 8) (h10 : F2 10 = F 10) (h38 : F2 38 = F 38) :
    CP9 ι (uF (rmG G B b) (103 + 10 * b + d) 0) (uA (rmB G B b) (106 + 11 * b + d) (fillF ((rmB G B b) (106 + 11 * b + d)) (-1) 10)) F2 (uA (uA A 1 (up (A 1) (5 + (d : Int)) 0)) 4 (kA A (F 5))) b := by
  have C1 := C.rm
  have e1 : (uA A 4 (kA A (F 5))) 1 = A 1 := uA_n (by decide)
  refine CP9.od (C1.dr (ι' := ι) (a' := up (A 1) (5 + (d : Int)) 0) (fun _ _ q => q) hd (by rw [up_s]; omega) (fun k k0 k1 k2 => by rw [up_n k2, e1]) (fun d' d0 d1 d2 k k0 k1 => by rw [up_n (by omega), e1]) (fun l l0 l1 => by rw [up_s] at l1; omega) (up_r C.m.2.2.2.2.2 ⟨by omega, by omega⟩) (fun l l0 l1 => Or.inl (by unfold fillF; rw [if_pos ⟨l0, l1⟩]; decide))) ?_ ?_ ?_ ?_ ?_
  · rw [uF_s]; exact h5
  · rw [uF_n (by decide)]; exact h6
  · rw [uF_n (by decide)]; exact h8
  · rw [uF_n (by decide)]; exact h10
  · rw [uF_n (by decide)]; exact h38
theorem K_removeLine {d : Nat} {l : Int} {F2 : Nat → Int} (C : CP9 ι G B F A b) (hd : d ≤ 3) (hl : 0 ≤ l ∧ l < A 1 (5 + (d : Int))) (h5 : F2 5 = kc (F 5)) (h6 : F2 6 = F 6) (h8 : F2 8 = F 8) (h10 : F2 10 = F 10) (h38 : F2 38 = F 38) :
    CP9 ι (uF (rmG G B b) (103 + 10 * b + d) (A 1 (5 + (d : Int)) - 1)) (uA (rmB G B b) (106 + 11 * b + d) (up (shd ((rmB G B b) (106 + 11 * b + d)) l (A 1 (5 + (d : Int)) - 1) 1) (A 1 (5 + (d : Int)) - 1) (-1))) F2
      (uA (uA A 1 (up (shd (A 1) (169 + 61 * (10 * (d : Int) + l)) (169 + 61 * (10 * (d : Int) + (A 1 (5 + (d : Int)) - 1))) 61) (5 + (d : Int)) (A 1 (5 + (d : Int)) - 1))) 4 (kA A (F 5))) b := by
  have C1 := C.rm
  have e1 : (uA A 4 (kA A (F 5))) 1 = A 1 := uA_n (by decide)
  have L1 := C1.ln hd
  rw [e1] at L1
  have hw := C1.w.1 d
  obtain ⟨n, hn⟩ : ∃ n, A 1 (5 + (d : Int)) = n := ⟨_, rfl⟩
  rw [hn] at hl L1 ⊢
  generalize rmB G B b = B1 at C1 L1 hw ⊢
  refine CP9.od (C1.dr (ι' := ι) (fun _ _ q => q) hd (by rw [up_s]; omega) (fun k k0 k1 k2 => by rw [up_n k2, e1]; unfold shd; rw [if_neg (by omega)]) (fun d' d0 d1 d2 k k0 k1 => by rw [up_n (by omega), e1]; unfold shd; rw [if_neg (by omega)]) (fun l' l0 l1 => ?_) (up_r (shd_r C.m.2.2.2.2.2) ⟨by omega, by omega⟩) (RfO.rm (fun j j0 j1 => hw j hd j0 j1) ⟨hl.1, by omega⟩)) ?_ ?_ ?_ ?_ ?_
  · rw [up_s] at l1
    rw [up_n (by omega)]
    by_cases c : l ≤ l'
    · obtain ⟨q, q1, q2⟩ := L1.2 (l' + 1) (by omega) (by omega)
      refine ⟨q, by unfold shd; rw [if_pos (by omega)]; exact q1, q2.sl (fun k k0 k1 => ?_)⟩
      rw [up_n (by omega)]; unfold shd; rw [if_pos (by omega)]; congr 1; omega
    · obtain ⟨q, q1, q2⟩ := L1.2 l' (by omega) (by omega)
      refine ⟨q, by unfold shd; rw [if_neg (by omega)]; exact q1, q2.sl (fun k k0 k1 => ?_)⟩
      rw [up_n (by omega)]; unfold shd; rw [if_neg (by omega)]
  · rw [uF_s]; exact h5
  · rw [uF_n (by decide)]; exact h6
  · rw [uF_n (by decide)]; exact h8
  · rw [uF_n (by decide)]; exact h10
  · rw [uF_n (by decide)]; exact h38
theorem lyA_new {a f : Int → Int} {n d l : Int} (hn : 0 ≤ n ∧ n ≤ 60) : nA9 (lyA a f n (169 + 61 * (10 * d + l)) 60) d l = n ∧ ∀ k, 0 ≤ k → k < n → fA9 (lyA a f n (169 + 61 * (10 * d + l)) 60) d l k = f k := by
  refine ⟨by show lyA a f n (169 + 61 * (10 * d + l)) 60 (169 + 61 * (10 * d + l)) = n; unfold lyA; rw [if_pos rfl], fun k k0 k1 => ?_⟩
  show lyA a f n (169 + 61 * (10 * d + l)) 60 (169 + 61 * (10 * d + l) + 1 + k) = f k
  unfold lyA
  rw [if_neg (by omega), if_pos (by omega), if_pos (by omega)]; congr 1; omega
theorem lyA_old {a f : Int → Int} {n t j : Int} (h : j < t ∨ t + 61 ≤ j) : lyA a f n t 60 j = a j := by
  unfold lyA; rw [if_neg (by omega), if_neg (by omega)]
theorem RfO.up9 {f : Int → Int} {k x : Int} (h : ∀ j : Int, 0 ≤ j → j < 10 → RfO ι 4 (f j)) (hx : RfO ι 4 x) : ∀ j : Int, 0 ≤ j → j < 10 → RfO ι 4 (up f k x j) := fun j j0 j1 => by
  by_cases e : j = k
  · rw [e, up_s]; exact hx
  · rw [up_n e]; exact h j j0 j1
theorem RfO.shu9 {f : Int → Int} {lo hi : Int} (h : ∀ j : Int, 0 ≤ j → j < 10 → RfO ι 4 (f j)) (h0 : 0 ≤ lo) : ∀ j : Int, 0 ≤ j → j < 10 → RfO ι 4 (shu f lo hi 1 j) := fun j j0 j1 => by
  unfold shu; split
  · exact h _ (by omega) (by omega)
  · exact h j j0 j1
theorem RfO.ln {q : Nat} {f : Int → Int} {n : Int} (L : LnO ι q f n) : RfO ι 4 (q : Int) := by
  obtain ⟨l1, l2, l3, aT, aW, wl, f9, w9, l4, _⟩ := L
  exact Or.inr ⟨q, _, rfl, l4⟩
theorem K_replaceLine {ι' : Nat → Option XE} {d q : Nat} {l : Int} {F2 : Nat → Int} {f : Int → Int} {n : Int} (C : CP9 ι G B F A b) (e : ext ι ι') (hd : d ≤ 3) (hl : 0 ≤ l ∧ l < A 1 (5 + (d : Int))) (hq : LnO ι' q f n) (hf : ∀ x, InR (f x)) (h5 : F2 5 = kc (F 5)) (h6 : F2 6 = F 6) (h8 : F2 8 = F 8) (h10 : F2 10 = F 10) (h38 : F2 38 = F 38) :
    CP9 ι' (rmG G B b) (uA (rmB G B b) (106 + 11 * b + d) (up ((rmB G B b) (106 + 11 * b + d)) l (q : Int))) F2 (uA (uA A 1 (lyA (A 1) f n (169 + 61 * (10 * (d : Int) + l)) 60)) 4 (kA A (F 5))) b := by
  have C1 := C.rm
  have e1 : (uA A 4 (kA A (F 5))) 1 = A 1 := uA_n (by decide)
  have L1 := C1.ln hd
  rw [e1] at L1
  have hw := C1.w.1 d
  have hn := hq.1
  have ln := lyA_new (a := A 1) (f := f) (n := n) (d := (d : Int)) (l := l) ⟨by omega, by omega⟩
  have eg : uF (rmG G B b) (103 + 10 * b + d) (A 1 (5 + (d : Int))) = rmG G B b := by
    funext k
    by_cases c : k = 103 + 10 * b + d
    · subst c; rw [uF_s]; exact L1.1.1.symm
    · exact uF_n c
  rw [← eg]
  generalize rmB G B b = B1 at C1 L1 hw ⊢
  have h9 := L1.1
  refine CP9.od (C1.dr (ι' := ι') e hd (by rw [lyA_old (by omega)]; exact ⟨rfl, L1.1.2⟩) (fun k k0 k1 k2 => by rw [lyA_old (by omega), e1]) (fun d' d0 d1 d2 k k0 k1 => by rw [lyA_old (by omega), e1]) (fun l' l0 l1 => ?_) (lyA_r C.m.2.2.2.2.2 hf ⟨by omega, by omega⟩) (RfO.up9 (fun j j0 j1 => (hw j hd j0 j1).ext e) (RfO.ln hq))) ?_ ?_ ?_ ?_ ?_
  · rw [lyA_old (by omega)] at l1
    by_cases c : l' = l
    · subst c
      refine ⟨q, up_s, ?_⟩
      rw [ln.1]
      exact hq.cg ln.2
    · obtain ⟨q', q1, q2⟩ := L1.2 l' l0 l1
      refine ⟨q', by rw [up_n c]; exact q1, (q2.ext e).sl (fun k k0 k1 => lyA_old (by omega))⟩
  · rw [uF_s]; exact h5
  · rw [uF_n (by decide)]; exact h6
  · rw [uF_n (by decide)]; exact h8
  · rw [uF_n (by decide)]; exact h10
  · rw [uF_n (by decide)]; exact h38
theorem K_addLine {ι' : Nat → Option XE} {d q : Nat} {t : Int} {F2 : Nat → Int} {f : Int → Int} {n : Int} (C : CP9 ι G B F A b) (e : ext ι ι') (hd : d ≤ 3) (ht : 0 ≤ t ∧ t ≤ A 1 (5 + (d : Int))) (hc : A 1 (5 + (d : Int)) < 10) (hq : LnO ι' q f n) (hf : ∀ x, InR (f x)) (h5 : F2 5 = kc (F 5)) (h6 : F2 6 = F 6) (h8 : F2 8 = F 8) (h10 : F2 10 = F 10) (h38 : F2 38 = F 38) :
    CP9 ι' (uF (rmG G B b) (103 + 10 * b + d) (A 1 (5 + (d : Int)) + 1)) (uA (rmB G B b) (106 + 11 * b + d) (up (shu ((rmB G B b) (106 + 11 * b + d)) t (A 1 (5 + (d : Int))) 1) t (q : Int))) F2
      (uA (uA A 1 (lyA (up (shu (A 1) (169 + 61 * (10 * (d : Int) + t)) (169 + 61 * (10 * (d : Int) + A 1 (5 + (d : Int)))) 61) (5 + (d : Int)) (A 1 (5 + (d : Int)) + 1)) f n (169 + 61 * (10 * (d : Int) + t)) 60)) 4 (kA A (F 5))) b := by
  have C1 := C.rm
  have e1 : (uA A 4 (kA A (F 5))) 1 = A 1 := uA_n (by decide)
  have L1 := C1.ln hd
  rw [e1] at L1
  have hw := C1.w.1 d
  have hn := hq.1
  obtain ⟨m, hm⟩ : ∃ m, A 1 (5 + (d : Int)) = m := ⟨_, rfl⟩
  rw [hm] at ht hc L1 ⊢
  have ln := lyA_new (a := up (shu (A 1) (169 + 61 * (10 * (d : Int) + t)) (169 + 61 * (10 * (d : Int) + m)) 61) (5 + (d : Int)) (m + 1)) (f := f) (n := n) (d := (d : Int)) (l := t) ⟨by omega, by omega⟩
  generalize rmB G B b = B1 at C1 L1 hw ⊢
  have ec : lyA (up (shu (A 1) (169 + 61 * (10 * (d : Int) + t)) (169 + 61 * (10 * (d : Int) + m)) 61) (5 + (d : Int)) (m + 1)) f n (169 + 61 * (10 * (d : Int) + t)) 60 (5 + (d : Int)) = m + 1 := by rw [lyA_old (by omega), up_s]
  refine CP9.od (C1.dr (ι' := ι') e hd (by rw [ec]; omega) (fun k k0 k1 k2 => by rw [lyA_old (by omega), up_n k2, e1]; unfold shu; rw [if_neg (by omega)]) (fun d' d0 d1 d2 k k0 k1 => by rw [lyA_old (by omega), up_n (by omega), e1]; unfold shu; rw [if_neg (by omega)]) (fun l' l0 l1 => ?_) (lyA_r (up_r (shu_r C.m.2.2.2.2.2) ⟨by omega, by omega⟩) hf ⟨by omega, by omega⟩) (RfO.up9 (RfO.shu9 (fun j j0 j1 => (hw j hd j0 j1).ext e) ht.1) (RfO.ln hq))) ?_ ?_ ?_ ?_ ?_
  · rw [ec] at l1
    by_cases c : l' = t
    · subst c
      refine ⟨q, up_s, ?_⟩
      rw [ln.1]
      exact hq.cg ln.2
    · rw [up_n c]
      by_cases c2 : t < l'
      · obtain ⟨q', q1, q2⟩ := L1.2 (l' - 1) (by omega) (by omega)
        refine ⟨q', by unfold shu; rw [if_pos (by omega)]; exact q1, (q2.ext e).sl (fun k k0 k1 => ?_)⟩
        rw [lyA_old (by omega), up_n (by omega)]; unfold shu; rw [if_pos (by omega)]; congr 1; omega
      · obtain ⟨q', q1, q2⟩ := L1.2 l' (by omega) (by omega)
        refine ⟨q', by unfold shu; rw [if_neg (by omega)]; exact q1, (q2.ext e).sl (fun k k0 k1 => ?_)⟩
        rw [lyA_old (by omega), up_n (by omega)]; unfold shu; rw [if_neg (by omega)]
  · rw [uF_s]; exact h5
  · rw [uF_n (by decide)]; exact h6
  · rw [uF_n (by decide)]; exact h8
  · rw [uF_n (by decide)]; exact h10
  · rw [uF_n (by decide)]; exact h38
end Kx
