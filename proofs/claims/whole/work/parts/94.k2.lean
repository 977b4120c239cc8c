/-! the coupling: the whole state -/
def HS9 (ι : Nat → Option XE) (G : Nat → Int) (B : Nat → Int → Int) (b : Nat) (c : Int) (A4 : Int → Int) : Prop :=
  (0 ≤ c ∧ c ≤ 8) ∧ G 1 = c ∧ (∀ j, 0 ≤ j → j < 8 → ∃ bj : Nat, B 31 j = (bj : Int) ∧ bj ≤ 8 ∧ bj ≠ b) ∧ (∀ i j, 0 ≤ i → i < 8 → 0 ≤ j → j < 8 → B 31 i = B 31 j → i = j) ∧
  (∀ i, 0 ≤ i → i < c → MB9 ι G B (B 31 i).toNat (fun k => A4 (2609 * i + k))) ∧ ∀ x, InR (A4 x)
def IN9 (G : Nat → Int) (B : Nat → Int → Int) (F : Nat → Int) (A : Nat → Int → Int) : Prop :=
  (G 4 = F 8 ∧ (0 ≤ F 8 ∧ F 8 ≤ 60) ∧ B 41 = A 5 ∧ (∀ i, 0 ≤ i ∧ i < F 8 → 0 ≤ A 5 i ∧ A 5 i < 65536) ∧ ∀ x, InR (A 5 x)) ∧ (G 5 = F 10 ∧ -1 ≤ F 10 ∧ F 10 ≤ 60) ∧ 0 ≤ G 3 ∧ G 3 ≤ 100
def RS9 (ι : Nat → Option XE) (G : Nat → Int) (B : Nat → Int → Int) (F : Nat → Int) : Prop :=
  WR ι B ∧ (∃ a b c d, IX G a b c d) ∧ CA ι B ∧ (F 38 = 0 ∨ F 38 = 1) ∧ ∀ b' : Nat, b' ≤ 9 → 0 ≤ G (100 + 10 * b')
/-- the class's state and the reference's -/
def CP9 (ι : Nat → Option XE) (G : Nat → Int) (B : Nat → Int → Int) (F : Nat → Int) (A : Nat → Int → Int) (b : Nat) : Prop :=
  (b ≤ 8 ∧ G 0 = (b : Int)) ∧ MB9 ι G B b (A 1) ∧ HS9 ι G B b (F 5) (A 4) ∧ ((F 6 = 0 ∨ F 6 = 1) ∧ G 2 = F 6 ∧ (F 6 = 1 → MB9 ι G B 9 (A 3)) ∧ ∀ x, InR (A 3 x)) ∧ IN9 G B F A ∧ RS9 ι G B F
theorem HS9.his {ι : Nat → Option XE} {G : Nat → Int} {B : Nat → Int → Int} {b : Nat} {c : Int} {A4 : Int → Int} (H : HS9 ι G B b c A4) : HIS G B b := by
  obtain ⟨h1, h2, h3, h4, h5, h6⟩ := H
  refine ⟨by rw [h2]; exact h1, fun j j0 j1 => ?_⟩
  obtain ⟨bj, k1, k2, k3⟩ := h3 j j0 j1
  exact ⟨bj, k1, by omega, k3⟩
theorem bcG_n {G : Nat → Int} {b b2 k : Nat} (h : k < 100 + 10 * b ∨ 110 + 10 * b ≤ k) : bcG G b b2 k = G k := by
  unfold bcG; rw [uF_n (by omega)]; unfold cI; rw [if_neg (by omega)]
theorem bcB_n {B : Nat → Int → Int} {b b2 k : Nat} (h : k < 106 + 11 * b ∨ 110 + 11 * b < k) : bcB B b b2 k = B k := by
  unfold bcB; rw [uA_n (by omega)]; unfold cR; rw [if_neg (by omega)]
theorem WR.bc {ι : Nat → Option XE} {B : Nat → Int → Int} {b b2 : Nat} (hb : b ≤ 9) (hb2 : b2 ≤ 9) (W : WR ι B) : WR ι (bcB B b b2) := by
  intro x hx
  by_cases e : x = b
  · subst e
    have h2 := W b2 hb2
    refine ⟨fun d l hd l0 l1 => ?_, fun l l0 l1 => ?_⟩
    · unfold bcB
      rw [uA_n (by omega)]
      unfold cR
      rw [if_pos (by omega)]
      unfold cp
      rw [if_pos (by omega), show 106 + 11 * x + d - 11 * x + 11 * b2 = 106 + 11 * b2 + d by omega]
      exact h2.1 d _ hd (by omega) (by omega)
    · unfold bcB
      rw [uA_s]
      unfold cp
      rw [if_pos (by omega)]
      exact h2.2 _ (by omega) (by omega)
  · exact ⟨fun d l hd l0 l1 => by rw [bcB_n (by omega)]; exact (W x hx).1 d l hd l0 l1, fun l l0 l1 => by rw [bcB_n (by omega)]; exact (W x hx).2 l l0 l1⟩
theorem bcG_m {G : Nat → Int} {b b2 x : Nat} (h : ∀ b' : Nat, b' ≤ 9 → 0 ≤ G (100 + 10 * b')) (hb2 : b2 ≤ 9) (hx : x ≤ 9) : 0 ≤ bcG G b b2 (100 + 10 * x) := by
  by_cases e : x = b
  · subst e
    unfold bcG; rw [uF_n (by omega)]; unfold cI; rw [if_pos (by omega), show 100 + 10 * x - 10 * x + 10 * b2 = 100 + 10 * b2 by omega]; exact h b2 hb2
  · rw [bcG_n (by omega)]; exact h x hx
theorem kA_r {A : Nat → Int → Int} {c : Int} (h1 : ∀ x, InR (A 1 x)) (h4 : ∀ x, InR (A 4 x)) : ∀ x, InR (kA A c x) := by
  intro x
  unfold kA
  split
  · show InR (if 2609 * 7 ≤ x ∧ x < 2609 * 7 + 2609 then A 1 (0 + (x - 2609 * 7)) else shf (A 4) 8 x)
    unfold shf
    split
    · exact h1 _
    · split <;> exact h4 _
  · show InR (if 2609 * c ≤ x ∧ x < 2609 * c + 2609 then A 1 (0 + (x - 2609 * c)) else A 4 x)
    split
    · exact h1 _
    · exact h4 _
/-- a state kept -/
theorem HS9.rm {ι : Nat → Option XE} {G : Nat → Int} {B : Nat → Int → Int} {b : Nat} {c : Int} {A : Nat → Int → Int} (hb : b ≤ 8) (M : MB9 ι G B b (A 1)) (H : HS9 ι G B b c (A 4)) : HS9 ι (rmG G B b) (rmB G B b) b (kc c) (kA A c) := by
  have hK := kA_r (A := A) (c := c) M.2.2.2.2.2 H.2.2.2.2.2
  obtain ⟨h1, h2, h3, h4, h5, h6⟩ := H
  by_cases c8 : c = 8
  · obtain ⟨bj, k1, k2, k3⟩ := h3 0 (by omega) (by omega)
    have eJ : rmJ G B = bj := by unfold rmJ; rw [if_neg (by omega), k1]; rfl
    have eG : rmG G B b = uF (bcG (uF G 1 7) bj b) 1 8 := by unfold rmG; rw [eJ, if_neg (by omega), if_neg (by omega)]
    have eB : rmB G B b = bcB (uA B 31 (rtH (B 31))) bj b := by unfold rmB; rw [eJ, if_neg (by omega)]
    have e31 : rmB G B b 31 = rtH (B 31) := by rw [eB, bcB_n (by omega), uA_s]
    have rt : ∀ j, 0 ≤ j → j < 7 → rtH (B 31) j = B 31 (j + 1) := fun j j0 j1 => by unfold rtH shH; rw [up_n (by omega), if_pos (by omega)]
    have rt7 : rtH (B 31) 7 = B 31 0 := by unfold rtH; rw [up_s]
    have rtx : ∀ j, 0 ≤ j → j < 8 → ∃ i, 0 ≤ i ∧ i < 8 ∧ rtH (B 31) j = B 31 i ∧ i = (if j < 7 then j + 1 else 0) := fun j j0 j1 => by
      by_cases e : j < 7
      · exact ⟨j + 1, by omega, by omega, rt j j0 e, by rw [if_pos e]⟩
      · exact ⟨0, by omega, by omega, by rw [show j = 7 by omega]; exact rt7, by rw [if_neg e]⟩
    have ek : kc c = 8 := by unfold kc; rw [if_pos c8]
    refine ⟨by rw [ek]; omega, by rw [eG, ek, uF_s], fun j j0 j1 => ?_, fun i j i0 i1 j0 j1 hij => ?_, fun i i0 i1 => ?_, hK⟩
    · obtain ⟨i, i0, i1, ie, _⟩ := rtx j j0 j1
      rw [e31, ie]; exact h3 i i0 i1
    · rw [e31] at hij
      obtain ⟨x, x0, x1, xe, xe2⟩ := rtx i i0 i1
      obtain ⟨y, y0, y1, ye, ye2⟩ := rtx j j0 j1
      rw [xe, ye] at hij
      have := h4 x y x0 x1 y0 y1 hij
      rw [xe2, ye2] at this
      split at this <;> split at this <;> omega
    · rw [ek] at i1
      have kv : kA A c = cp (A 1) (shf (A 4) 8) 0 (2609 * 7) 2609 := by unfold kA; rw [if_pos c8]
      rw [e31]
      by_cases e : i < 7
      · rw [rt i i0 e]
        obtain ⟨bi9, p1, p2, p3⟩ := h3 (i + 1) (by omega) (by omega)
        have hne : bi9 ≠ bj := fun q => by
          have := h4 (i + 1) 0 (by omega) (by omega) (by omega) (by omega) (by rw [p1, k1, q])
          omega
        have m := h5 (i + 1) (by omega) (by omega)
        rw [p1, Int.toNat_natCast] at m ⊢
        have m2 : MB9 ι (rmG G B b) (rmB G B b) bi9 (fun k => A 4 (2609 * (i + 1) + k)) := m.fr (fun _ _ q => q) (fun k q1 q2 => by rw [eG, uF_n (by omega), bcG_n (by omega), uF_n (by omega)]) (fun k q1 q2 => by rw [eB, bcB_n (by omega), uA_n (by omega)])
        refine m2.cg (fun k k0 k1 => ?_) (fun x => hK _)
        rw [kv]
        unfold cp shf
        rw [if_neg (by omega), if_pos (by omega)]; congr 1; omega
      · have ei : i = 7 := by omega
        subst ei
        rw [rt7, k1, Int.toNat_natCast]
        have m0 : MB9 ι (uF G 1 7) (uA B 31 (rtH (B 31))) b (A 1) := M.fr (fun _ _ q => q) (fun k q1 q2 => uF_n (by omega)) (fun k q1 q2 => uA_n (by omega))
        have m1 := m0.bc (b := bj) (by omega) k3
        have m2 : MB9 ι (rmG G B b) (rmB G B b) bj (A 1) := m1.fr (fun _ _ q => q) (fun k q1 q2 => by rw [eG, uF_n (by omega)]) (fun k q1 q2 => by rw [eB])
        refine m2.cg (fun k k0 k1 => ?_) (fun x => hK _)
        rw [kv]
        unfold cp
        rw [if_pos (by omega)]; congr 1; omega
  · obtain ⟨bj, k1, k2, k3⟩ := h3 c (by omega) (by omega)
    have eJ : rmJ G B = bj := by unfold rmJ; rw [if_pos (by omega), h2, k1]; rfl
    have eG : rmG G B b = uF (bcG G bj b) 1 (c + 1) := by unfold rmG; rw [eJ, if_pos (by omega), if_pos (by omega), h2]
    have eB : rmB G B b = bcB B bj b := by unfold rmB; rw [eJ, if_pos (by omega)]
    have e31 : rmB G B b 31 = B 31 := by rw [eB, bcB_n (by omega)]
    have ek : kc c = c + 1 := by unfold kc; rw [if_neg c8]
    have kv : kA A c = cp (A 1) (A 4) 0 (2609 * c) 2609 := by unfold kA; rw [if_neg c8]
    refine ⟨by rw [ek]; omega, by rw [eG, ek, uF_s], fun j j0 j1 => by rw [e31]; exact h3 j j0 j1, fun i j i0 i1 j0 j1 hij => by rw [e31] at hij; exact h4 i j i0 i1 j0 j1 hij, fun i i0 i1 => ?_, hK⟩
    rw [ek] at i1
    rw [e31]
    by_cases e : i < c
    · obtain ⟨bi9, p1, p2, p3⟩ := h3 i (by omega) (by omega)
      have hne : bi9 ≠ bj := fun q => by
        have := h4 i c (by omega) (by omega) (by omega) (by omega) (by rw [p1, k1, q])
        omega
      have m := h5 i (by omega) (by omega)
      rw [p1, Int.toNat_natCast] at m ⊢
      have m2 : MB9 ι (rmG G B b) (rmB G B b) bi9 (fun k => A 4 (2609 * i + k)) := m.fr (fun _ _ q => q) (fun k q1 q2 => by rw [eG, uF_n (by omega), bcG_n (by omega)]) (fun k q1 q2 => by rw [eB, bcB_n (by omega)])
      refine m2.cg (fun k k0 k1 => ?_) (fun x => hK _)
      rw [kv]
      unfold cp
      rw [if_neg (by omega)]
    · have ei : i = c := by omega
      subst ei
      rw [k1, Int.toNat_natCast]
      have m1 := M.bc (b := bj) (by omega) k3
      have m2 : MB9 ι (rmG G B b) (rmB G B b) bj (A 1) := m1.fr (fun _ _ q => q) (fun k q1 q2 => by rw [eG, uF_n (by omega)]) (fun k q1 q2 => by rw [eB])
      refine m2.cg (fun k k0 k1 => ?_) (fun x => hK _)
      rw [kv]
      unfold cp
      rw [if_pos (by omega)]; congr 1; omega
theorem rmG_x {G : Nat → Int} {B : Nat → Int → Int} {b k : Nat} (h1 : k ≠ 1) (h : k < 100 + 10 * rmJ G B ∨ 110 + 10 * rmJ G B ≤ k) : rmG G B b k = G k := by
  unfold rmG; rw [uF_n h1, bcG_n h]; split
  · rfl
  · exact uF_n h1
theorem rmB_x {G : Nat → Int} {B : Nat → Int → Int} {b k : Nat} (h1 : k ≠ 31) (h : k < 106 + 11 * rmJ G B ∨ 110 + 11 * rmJ G B < k) : rmB G B b k = B k := by
  unfold rmB; rw [bcB_n h]; split
  · rfl
  · exact uA_n h1
theorem rmJ_8 {ι : Nat → Option XE} {G : Nat → Int} {B : Nat → Int → Int} {b : Nat} {c : Int} {A4 : Int → Int} (H : HS9 ι G B b c A4) : rmJ G B ≤ 8 ∧ rmJ G B ≠ b := by
  obtain ⟨h1, h2, h3, h4, h5, h6⟩ := H
  unfold rmJ
  split
  · obtain ⟨bj, k1, k2, k3⟩ := h3 (G 1) (by omega) (by omega)
    rw [k1]; exact ⟨k2, k3⟩
  · obtain ⟨bj, k1, k2, k3⟩ := h3 0 (by omega) (by omega)
    rw [k1]; exact ⟨k2, k3⟩
/-- the numbers of the reference that count -/
theorem CP9.cF {ι : Nat → Option XE} {G : Nat → Int} {B : Nat → Int → Int} {F F' : Nat → Int} {A A' : Nat → Int → Int} {b : Nat} (h5 : F' 5 = F 5) (h6 : F' 6 = F 6) (h8 : F' 8 = F 8) (h10 : F' 10 = F 10) (h38 : F' 38 = 0 ∨ F' 38 = 1) (a1 : A' 1 = A 1) (a3 : A' 3 = A 3) (a4 : A' 4 = A 4) (a5 : A' 5 = A 5) (C : CP9 ι G B F A b) : CP9 ι G B F' A' b := by
  unfold CP9 IN9 RS9 at C ⊢
  rw [h5, h6, h8, h10, a1, a3, a4, a5]
  obtain ⟨c1, c2, c3, c4, c5, c6, c7, c8, c9, c10⟩ := C
  exact ⟨c1, c2, c3, c4, c5, c6, c7, c8, h38, c10⟩
theorem CP9.rm {ι : Nat → Option XE} {G : Nat → Int} {B : Nat → Int → Int} {F : Nat → Int} {A : Nat → Int → Int} {b : Nat} (C : CP9 ι G B F A b) : CP9 ι (rmG G B b) (rmB G B b) (uF F 5 (kc (F 5))) (uA A 4 (kA A (F 5))) b := by
  obtain ⟨⟨c1, c2⟩, c3, c4, ⟨c5, c6, c7, c8⟩, c9, c10⟩ := C
  have hj := rmJ_8 c4
  have hH := c4.his
  have gl : ∀ k, k < 100 → k ≠ 1 → rmG G B b k = G k := fun k q1 q2 => rmG_l q1 q2
  have bl : ∀ k, k < 100 → k ≠ 31 → rmB G B b k = B k := fun k q1 q2 => rmB_x q2 (by omega)
  have fr : ∀ (x : Nat) (a : Int → Int), x ≠ rmJ G B → x ≤ 9 → MB9 ι G B x a → MB9 ι (rmG G B b) (rmB G B b) x a := fun x a hx hx9 m => m.fr (fun _ _ q => q) (fun k q1 q2 => rmG_x (by omega) (by omega)) (fun k q1 q2 => rmB_x (by omega) (by omega))
  refine ⟨⟨c1, by rw [gl 0 (by omega) (by omega)]; exact c2⟩, ?_, ?_, ⟨?_, ?_, fun q => ?_, ?_⟩, ?_, ?_⟩
  · rw [uA_n (by decide)]; exact fr b _ hj.2.symm (by omega) c3
  · rw [uF_s, uA_s]; exact c4.rm c1 c3
  · rw [uF_n (by decide)]; exact c5
  · rw [uF_n (by decide), gl 2 (by omega) (by omega)]; exact c6
  · rw [uF_n (by decide)] at q
    rw [uA_n (by decide)]; exact fr 9 _ (by omega) (by omega) (c7 q)
  · rw [uA_n (by decide)]; exact c8
  · unfold IN9 at c9 ⊢
    rw [uF_n (by decide), uF_n (by decide), uA_n (by decide), gl 3 (by omega) (by omega), gl 4 (by omega) (by omega), gl 5 (by omega) (by omega), bl 41 (by omega) (by omega)]; exact c9
  · obtain ⟨w1, ⟨x1, x2, x3, x4, w2⟩, w3, w4, w5⟩ := c10
    refine ⟨?_, ⟨x1, x2, x3, x4, ?_⟩, ?_, by rw [uF_n (by decide)]; exact w4, fun x hx => ?_⟩
    · unfold rmB
      refine WR.bc (by omega) (by omega) ?_
      split
      · exact w1
      · exact fun x hx => ⟨fun d l hd l0 l1 => by rw [uA_n (by omega)]; exact (w1 x hx).1 d l hd l0 l1, fun l l0 l1 => by rw [uA_n (by omega)]; exact (w1 x hx).2 l l0 l1⟩
    · unfold IX at w2 ⊢
      rw [gl 12 (by omega) (by omega), gl 13 (by omega) (by omega), gl 14 (by omega) (by omega), gl 15 (by omega) (by omega)]; exact w2
    · unfold CA at w3 ⊢; rw [bl 32 (by omega) (by omega)]; exact w3
    · unfold rmG
      rw [uF_n (by omega)]
      refine bcG_m (fun y hy => ?_) (by omega) hx
      split
      · exact w5 y hy
      · rw [uF_n (by omega)]; exact w5 y hy
/-- the bundle that is now changed -/
theorem CP9.md {ι ι' : Nat → Option XE} {G G' : Nat → Int} {B B' : Nat → Int → Int} {F : Nat → Int} {A : Nat → Int → Int} {b : Nat} {a' : Int → Int} (C : CP9 ι G B F A b) (e : ext ι ι') (hG : ∀ k, k < 100 + 10 * b ∨ 110 + 10 * b ≤ k → G' k = G k) (hB : ∀ k, k < 106 + 11 * b ∨ 110 + 11 * b < k → B' k = B k) (hM : MB9 ι' G' B' b a')
    (hW : (∀ (d : Nat) (l : Int), d ≤ 3 → 0 ≤ l → l < 10 → RfO ι' 4 (B' (106 + 11 * b + d) l)) ∧ ∀ x : Int, 0 ≤ x → x < 8 → RfO ι' 5 (B' (110 + 11 * b) x)) (hm : 0 ≤ G' (100 + 10 * b)) : CP9 ι' G' B' F (uA A 1 a') b := by
  obtain ⟨⟨c1, c2⟩, c3, ⟨h1, h2, h3, h4, h5, h6⟩, ⟨c5, c6, c7, c8⟩, c9, c10⟩ := C
  have fr : ∀ (x : Nat) (a : Int → Int), x ≠ b → MB9 ι G B x a → MB9 ι' G' B' x a := fun x a hx m => m.fr e (fun k q1 q2 => hG k (by omega)) (fun k q1 q2 => hB k (by omega))
  refine ⟨⟨c1, by rw [hG 0 (by omega)]; exact c2⟩, by rw [uA_s]; exact hM, ⟨h1, by rw [hG 1 (by omega)]; exact h2, by rw [hB 31 (by omega)]; exact h3, by rw [hB 31 (by omega)]; exact h4, fun i i0 i1 => ?_, by rw [uA_n (by decide)]; exact h6⟩, ⟨c5, by rw [hG 2 (by omega)]; exact c6, fun q => ?_, by rw [uA_n (by decide)]; exact c8⟩, ?_, ?_⟩
  · rw [hB 31 (by omega), uA_n (by decide)]
    refine fr _ _ ?_ (h5 i i0 i1)
    obtain ⟨bj, k1, k2, k3⟩ := h3 i i0 (by omega)
    rw [k1]; exact k3
  · rw [uA_n (by decide)]; exact fr 9 _ (by omega) (c7 q)
  · unfold IN9 at c9 ⊢
    rw [uA_n (by decide), hG 3 (by omega), hG 4 (by omega), hG 5 (by omega), hB 41 (by omega)]; exact c9
  · obtain ⟨w1, ⟨x1, x2, x3, x4, w2⟩, w3, w4, w5⟩ := c10
    refine ⟨fun x hx => ?_, ⟨x1, x2, x3, x4, ?_⟩, fun j j0 j1 => ?_, w4, fun x hx => ?_⟩
    · by_cases q : x = b
      · subst q; exact hW
      · exact ⟨fun d l hd l0 l1 => by rw [hB _ (by omega)]; exact ((w1 x hx).1 d l hd l0 l1).ext e, fun l l0 l1 => by rw [hB _ (by omega)]; exact ((w1 x hx).2 l l0 l1).ext e⟩
    · unfold IX at w2 ⊢
      rw [hG 12 (by omega), hG 13 (by omega), hG 14 (by omega), hG 15 (by omega)]; exact w2
    · obtain ⟨q, q1, q2⟩ := w3 j j0 j1
      exact ⟨q, by rw [hB 32 (by omega)]; exact q1, q2.ext e⟩
    · by_cases q : x = b
      · subst q; exact hm
      · rw [hG _ (by omega)]; exact w5 x hx
/-- what reading changes -/
theorem CP9.fr {ι : Nat → Option XE} {G G' : Nat → Int} {B B' : Nat → Int → Int} {F : Nat → Int} {A : Nat → Int → Int} {b : Nat} (C : CP9 ι G B F A b) (f : frU G G' B B') : CP9 ι G' B' F A b := by
  have hG : ∀ k, k < 6 ∨ 19 ≤ k → G' k = G k := fun k hk => f.1 k (fun z => by simp only [lF9, List.mem_cons, List.mem_nil_iff, or_false] at z; omega)
  have hB : ∀ k, k < 33 ∨ 66 ≤ k ∨ (36 < k ∧ k < 51) → B' k = B k := fun k hk => f.2.1 k (fun z => by simp only [lA9, List.mem_cons, List.mem_nil_iff, or_false] at z; omega)
  obtain ⟨⟨c1, c2⟩, c3, ⟨h1, h2, h3, h4, h5, h6⟩, ⟨c5, c6, c7, c8⟩, c9, c10⟩ := C
  have fr : ∀ (x : Nat) (a : Int → Int), MB9 ι G B x a → MB9 ι G' B' x a := fun x a m => m.fr (fun _ _ q => q) (fun k q1 q2 => hG k (by omega)) (fun k q1 q2 => hB k (by omega))
  refine ⟨⟨c1, by rw [hG 0 (by omega)]; exact c2⟩, fr _ _ c3, ⟨h1, by rw [hG 1 (by omega)]; exact h2, by rw [hB 31 (by omega)]; exact h3, by rw [hB 31 (by omega)]; exact h4, fun i i0 i1 => by rw [hB 31 (by omega)]; exact fr _ _ (h5 i i0 i1), h6⟩, ⟨c5, by rw [hG 2 (by omega)]; exact c6, fun q => fr _ _ (c7 q), c8⟩, ?_, ?_⟩
  · unfold IN9 at c9 ⊢
    rw [hG 3 (by omega), hG 4 (by omega), hG 5 (by omega), hB 41 (by omega)]; exact c9
  · obtain ⟨w1, w2, w3, w4, w5⟩ := c10
    refine ⟨fun x hx => ⟨fun d l hd l0 l1 => by rw [hB _ (by omega)]; exact (w1 x hx).1 d l hd l0 l1, fun l l0 l1 => by rw [hB _ (by omega)]; exact (w1 x hx).2 l l0 l1⟩, f.2.2, ?_, w4, fun x hx => by rw [hG _ (by omega)]; exact w5 x hx⟩
    unfold CA at w3 ⊢; rw [hB 32 (by omega)]; exact w3
/-- the input taken -/
theorem CP9.tk {ι ι' : Nat → Option XE} {G : Nat → Int} {B B' : Nat → Int → Int} {F F' : Nat → Int} {A : Nat → Int → Int} {b : Nat} {c : Prop} [Decidable c] {P : Int} (C : CP9 ι G B F A b) (e : ext ι ι') (hB : ∀ x, x ≠ 42 → x ≠ 43 → B' x = B x) (hP : 0 ≤ P ∧ P ≤ 60) (h5 : F' 5 = F 5) (h6 : F' 6 = F 6) (h8 : F' 8 = 0) (h10 : F' 10 = if c then F 10 else P) (h38 : F' 38 = F 38) : CP9 ι' (tkG G c P) B' F' A b := by
  obtain ⟨⟨c1, c2⟩, c3, ⟨h1, h2, h3, h4, h5', h6'⟩, ⟨c5, c6, c7, c8⟩, c9, c10⟩ := C
  have hG : ∀ k, k < 3 ∨ 5 < k → tkG G c P k = G k := fun k hk => tkG_l hk
  have fr : ∀ (x : Nat) (a : Int → Int), MB9 ι G B x a → MB9 ι' (tkG G c P) B' x a := fun x a m => m.fr e (fun k q1 q2 => hG k (by omega)) (fun k q1 q2 => hB k (by omega) (by omega))
  refine ⟨⟨c1, by rw [hG 0 (by omega)]; exact c2⟩, fr _ _ c3, ⟨by rw [h5]; exact h1, by rw [h5, hG 1 (by omega)]; exact h2, by rw [hB 31 (by omega) (by omega)]; exact h3, by rw [hB 31 (by omega) (by omega)]; exact h4, fun i i0 i1 => by rw [h5] at i1; rw [hB 31 (by omega) (by omega)]; exact fr _ _ (h5' i i0 i1), h6'⟩, ⟨by rw [h6]; exact c5, by rw [h6, hG 2 (by omega)]; exact c6, fun q => by rw [h6] at q; exact fr _ _ (c7 q), c8⟩, ?_, ?_⟩
  · obtain ⟨⟨i1, i2, i3, i4, i5⟩, ⟨i6, i7, i8⟩, i9⟩ := c9
    refine ⟨⟨by rw [h8]; unfold tkG; rw [uF_s], by rw [h8]; omega, by rw [hB 41 (by omega) (by omega)]; exact i3, fun i hi => by rw [h8] at hi; omega, i5⟩, ?_, ?_⟩
    · rw [h10]
      unfold tkG
      by_cases q : c
      · rw [if_pos q, if_pos q, uF_n (by decide), uF_n (by decide)]; exact ⟨i6, i7, i8⟩
      · rw [if_neg q, if_neg q, uF_n (by decide), uF_s]; omega
    · unfold tkG
      by_cases q : c
      · rw [if_pos q, uF_n (by decide), uF_s]; omega
      · rw [if_neg q, uF_n (by decide), uF_n (by decide), uF_s]; omega
  · obtain ⟨w1, ⟨x1, x2, x3, x4, w2⟩, w3, w4, w5⟩ := c10
    refine ⟨fun x hx => ⟨fun d l hd l0 l1 => by rw [hB _ (by omega) (by omega)]; exact ((w1 x hx).1 d l hd l0 l1).ext e, fun l l0 l1 => by rw [hB _ (by omega) (by omega)]; exact ((w1 x hx).2 l l0 l1).ext e⟩, ⟨x1, x2, x3, x4, ?_⟩, fun j j0 j1 => ?_, by rw [h38]; exact w4, fun x hx => by rw [hG _ (by omega)]; exact w5 x hx⟩
    · unfold IX at w2 ⊢
      rw [hG 12 (by omega), hG 13 (by omega), hG 14 (by omega), hG 15 (by omega)]; exact w2
    · obtain ⟨q, q1, q2⟩ := w3 j j0 j1
      exact ⟨q, by rw [hB 32 (by omega) (by omega)]; exact q1, q2.ext e⟩
