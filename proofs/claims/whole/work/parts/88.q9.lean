/-! the answers about scans, by either side -/
theorem MtK_c {a : Int → Int} {d l kd ft c9 : Int} (h : (0 ≤ kd ∧ kd ≤ 3) ∧ (2 ≤ ft ∧ ft ≤ 6) ∧ 0 ≤ c9 ∧ c9 < ft) : MtK (DA9 a d l kd ft c9) := h
theorem wnD_e {kd sz i : Int} {f m : Int → Int} {n : Nat} (h1 : ∀ p : Int, 0 ≤ p → p < n → (0 < f p ↔ pnl kd m p i ≠ 0)) : ∀ k : Nat, k ≤ n → wnD f k = wnC kd m i k
  | 0, _ => rfl
  | k + 1, hk => by
    have := h1 k (by omega) (by omega)
    rw [wnD, wnC, wnD_e (sz := sz) h1 k (by omega)]
    by_cases c : pnl kd m k i = 0
    · rw [if_pos c, if_neg (fun q => this.mp q c), Int.add_zero]
    · rw [if_neg c, if_pos (this.mpr c)]
theorem wnD_z {f : Int → Int} {n : Nat} : ∀ k : Nat, (∀ p : Int, n ≤ p → p < n + k → ¬ 0 < f p) → wnD f (n + k) = wnD f n
  | 0, _ => rfl
  | k + 1, h => by
    rw [← Nat.add_assoc, wnD, wnD_z k (fun p p0 p1 => h p p0 (by omega)), if_neg (h _ (by omega) (by omega)), Int.add_zero]
theorem fdf_e {kd i : Int} {f m : Int → Int} {n : Nat} (h1 : ∀ p : Int, 0 ≤ p → p < n → (0 < f p ↔ pnl kd m p i ≠ 0)) : ∀ k : Nat, k ≤ n → fdf f (szk kd) k = wfF kd m i k ∧ -1 ≤ wfF kd m i k
  | 0, _ => by rw [fdf, wfF]; omega
  | k + 1, hk => by
    have := h1 k (by omega) (by omega)
    obtain ⟨i1, i2⟩ := fdf_e h1 k (by omega)
    have hs := szk_r kd
    have hd : 0 ≤ (k : Int) / szk kd := Int.ediv_nonneg (by omega) (by omega)
    rw [fdf, wfF, i1]
    by_cases c : 0 ≤ wfF kd m i k
    · rw [if_pos c, if_neg (by omega)]; omega
    · rw [if_neg c]
      by_cases c2 : pnl kd m k i = 0
      · rw [if_neg (fun q => this.mp q c2), if_neg (fun q => q.2 c2)]; omega
      · rw [if_pos (this.mpr c2), if_pos ⟨by omega, c2⟩]; omega
theorem fdf_z {f : Int → Int} {sz : Int} {n : Nat} (hn : -1 ≤ fdf f sz n) : ∀ k : Nat, (∀ p : Int, n ≤ p → p < n + k → ¬ 0 < f p) → fdf f sz (n + k) = fdf f sz n
  | 0, _ => rfl
  | k + 1, h => by
    rw [← Nat.add_assoc, fdf, fdf_z hn k (fun p p0 p1 => h p p0 (by omega)), if_neg (h _ (by omega) (by omega))]
    split <;> omega
theorem nsV_D {F : Nat → Int} {A : Nat → Int → Int} {D : DT} (K : LK F A D) (hM : MtK D) {x y w : Int} {b : b59} (hb : b = bN (dK D) (dF D) (dZ D) F A (-1, 0, x, 0, y) (pls F A + 1).toNat) (hb0 : 0 ≤ b.1) (g : Int → Int) (hw : 0 ≤ w ∧ w ≤ 5) :
    nsV D g (srch D).1 w = (if w = 0 then b.1 else if w = 1 then b.2.1 else if w = 2 then b.2.2.2.2 else if w = 3 then b.2.2.1 else wro (dK D) (sA A b.2.1 (s0 A) (F 16).toNat).2.1 b.2.2.2.2 (bi (decide (w = 4))) (min (dF D * szk (dK D)) (sA A b.2.1 (s0 A) (F 16).toNat).1).toNat) ∧ 0 ≤ prE D ((srch D).1 % 2) ((srch D).1 / 2 % 2048) := by
  obtain ⟨_, h⟩ := srch_D K hM hb
  rcases h with h | ⟨h1, h2, h3, z, h4, h5, h6, h7, h8, h9, h10, h11⟩
  · omega
  have bz := btc_r9 (z := (z : Int)) 12
  have e1 : (srch D).1 / 65536 = b.1 := by rw [h11]; omega
  have e2 : (srch D).1 / 2 % 2048 = z := by rw [h11]; omega
  have e3 : (srch D).1 % 2 = b.2.2.2.2 := by rw [h11]; omega
  have hL := K.2.1
  refine ⟨?_, by rw [e2, e3, ← h9]; exact hb0⟩
  unfold nsV
  rw [e1, e2, e3, h4]
  by_cases w0 : w = 0
  · rw [if_pos w0, if_pos w0]
  rw [if_neg w0, if_neg w0]
  by_cases w1 : w = 1
  · rw [if_pos w1, if_pos w1]
  rw [if_neg w1, if_neg w1]
  by_cases w2 : w = 2
  · rw [if_pos w2, if_pos w2]
  rw [if_neg w2, if_neg w2]
  by_cases w3 : w = 3
  · rw [if_pos w3, if_pos w3, h10]
  rw [if_neg w3, if_neg w3]
  have hp0 : 0 ≤ (pzS D b.2.2.2.2 z (dL D).toNat).1 := by
    rw [h9] at hb0
    unfold prE at hb0
    split at hb0
    · omega
    · omega
  have pz := fun (p : Int) (p0 : 0 ≤ p) => pzP_e K hM (i := b.2.2.2.2) (z := (z : Int)) (f := fillF g 0 19) p0 (dL D).toNat (by omega) h7 hp0
  rw [ebf_end K h7] at pz
  rw [K.1]
  have hsz := szk_r (dK D)
  have hca := cs_at (kd := dK D) hM.2.1 hM.2.2
  have hP : dP D = dF D * szk (dK D) := rfl
  have sn : 0 ≤ (sA A z (s0 A) (dL D).toNat).1 := by
    have := (inv9 K hM (i := b.2.2.2.2) (z := (z : Int)) (dL D).toNat (by omega) h7).1.1
    rw [ebf_end K h7] at this
    exact this
  generalize sA A z (s0 A) (dL D).toNat = s at pz sn ⊢
  rw [← hP] at hca ⊢
  obtain ⟨n, hn⟩ : ∃ n : Nat, min (dP D) s.1 = (n : Int) := ⟨(min (dP D) s.1).toNat, by omega⟩
  rw [hn, Int.toNat_natCast]
  have in9 : ∀ p : Int, 0 ≤ p → p < n → (0 < pzP D b.2.2.2.2 z (fillF g 0 19) (dL D).toNat p ↔ pnl (dK D) s.2.1 p b.2.2.2.2 ≠ 0) := by
    intro p p0 p1
    rw [pz p p0, if_pos (by rw [show bi false = 0 from rfl]; omega), spE_p (by omega)]
    have := pnl_r (dK D) s.2.1 p b.2.2.2.2
    omega
  have out9 : ∀ p : Int, n ≤ p → p < 19 → ¬ 0 < pzP D b.2.2.2.2 z (fillF g 0 19) (dL D).toNat p := by
    intro p p0 p1
    rw [pz p (by omega), show bi false = 0 from rfl]
    by_cases c : p < s.1 - 0
    · rw [if_pos c]
      unfold spE
      by_cases c2 : dP D < p
      · rw [if_pos c2]; decide
      · rw [if_neg c2, if_pos (by omega)]; split <;> decide
    · rw [if_neg c]
      unfold fillF
      rw [if_pos (by omega)]; decide
  unfold wro
  by_cases w4 : w = 4
  · rw [if_pos w4, decide_eq_true w4, show bi true = 1 from rfl, if_neg (by decide)]
    obtain ⟨d, hd⟩ : ∃ d, (dP D).toNat = n + d := ⟨(dP D).toNat - n, by omega⟩
    have e := fdf_e (kd := dK D) in9 n (Nat.le_refl n)
    rw [hd, fdf_z (by rw [e.1]; exact e.2) d (fun p p0 p1 => out9 p p0 (by omega)), e.1]
  · rw [if_neg w4, decide_eq_false w4, show bi false = 0 from rfl, if_pos rfl]
    obtain ⟨d, hd⟩ : ∃ d, 19 = n + d := ⟨19 - n, by omega⟩
    rw [show wnD (pzP D b.2.2.2.2 z (fillF g 0 19) (dL D).toNat) 19 = wnD (pzP D b.2.2.2.2 z (fillF g 0 19) (dL D).toNat) (n + d) by rw [← hd], wnD_z d (fun p p0 p1 => out9 p p0 (by omega)), wnD_e (sz := 0) in9 n (Nat.le_refl n)]
/-- the key against the best cost -/
theorem sk_D {F : Nat → Int} {A : Nat → Int → Int} {D : DT} (K : LK F A D) (hM : MtK D) {x y : Int} {b : b59} (hb : b = bN (dK D) (dF D) (dZ D) F A (-1, 0, x, 0, y) (pls F A + 1).toNat) :
    ((srch D).1 = NOK ↔ b.1 < 0) ∧ (0 ≤ b.1 → (srch D).1 / 65536 = b.1 ∧ (srch D).1 / 2 % 2048 = b.2.1) ∧ (srch D).2 = b.2.2.2.1 := by
  obtain ⟨h0, h⟩ := srch_D K hM hb
  rcases h with h | ⟨h1, h2, h3, z, h4, h5, h6, h7, h8, h9, h10, h11⟩
  · exact ⟨⟨fun _ => h.1, fun _ => h.2⟩, fun q => by omega, h0⟩
  · have bz := btc_r9 (z := (z : Int)) 12
    exact ⟨⟨fun q => absurd q h3, fun q => by omega⟩, fun _ => ⟨by rw [h11]; omega, by rw [h11, h4]; omega⟩, h0⟩
theorem reV_D {a : Int → Int} {d l : Int} {F : Nat → Int} {A : Nat → Int → Int} (S : StA a) (K : LK F A (DA9 a d l (a 0) (a 1) (a 2))) {x y : Int} :
    reV (DA9 a d l (a 0) (a 1) (a 2)) (a 3) = rsn a F A (bst9 a F A x y).1 := by
  have hM : MtK (DA9 a d l (a 0) (a 1) (a 2)) := MtK_c ⟨S.1, S.2.1, S.2.2.1⟩
  obtain ⟨h1, h2, h3⟩ := sk_D K hM (b := bst9 a F A x y) (x := x) (y := y) rfl
  unfold reV rsn
  have hL := K.2.1
  by_cases c : (bst9 a F A x y).1 < 0
  · rw [if_neg (fun q => q (h1.mpr c)), if_neg (show ¬ 0 ≤ (bst9 a F A x y).1 by omega), ally_D K _ (by rw [K.1]; omega), mst_D K, K.1]
    unfold tfew tmny few
    have hst := szk_r (a 0)
    simp only [decide_eq_true_iff]
    show (if smS (dS (DA9 a d l (a 0) (a 1) (a 2))) (dL (DA9 a d l (a 0) (a 1) (a 2))).toNat < (if strK (a 0) (a 1 * szk (a 0) - 1) 0 = true then a 1 * szk (a 0) else a 1 * szk (a 0) - 1) then (1 : Int) else if smS (dS (DA9 a d l (a 0) (a 1) (a 2))) (dL (DA9 a d l (a 0) (a 1) (a 2))).toNat - (grd (dE (DA9 a d l (a 0) (a 1) (a 2))) (dS (DA9 a d l (a 0) (a 1) (a 2))) (dL (DA9 a d l (a 0) (a 1) (a 2))).toNat).1 > a 1 * szk (a 0) + 1 then 2 else 3) = _
    generalize smS (dS (DA9 a d l (a 0) (a 1) (a 2))) (dL (DA9 a d l (a 0) (a 1) (a 2))).toNat = X
    generalize (grd (dE (DA9 a d l (a 0) (a 1) (a 2))) (dS (DA9 a d l (a 0) (a 1) (a 2))) (dL (DA9 a d l (a 0) (a 1) (a 2))).toNat).1 = Y
    generalize a 1 * szk (a 0) = Z
    repeat' split
    all_goals first | rfl | omega
  · rw [if_pos (fun q => c (h1.mp q)), if_pos (show 0 ≤ (bst9 a F A x y).1 by omega), (h2 (by omega)).1]
theorem shV_D {a : Int → Int} {d l w : Int} (S : StA a) (N : LnA a) (E9 : ExA a) (hd : 0 ≤ d ∧ d ≤ 3) (hl : 0 ≤ l ∧ l < a (5 + d)) (hw : 1 ≤ w ∧ w ≤ 7 ∧ w ≠ 4) :
    shV (DA9 a d l (a 0) (a 1) (a 2)) (mkC a (fA9 a d l) (nA9 a d l)) (a 3) w = olV a d l w := by
  have L := LD_c S N E9 hd hl
  have K := LK_LD (kd := a 0) (ft := a 1) (c9 := a 2) S N E9 hd hl L
  have hM : MtK (DA9 a d l (a 0) (a 1) (a 2)) := MtK_c ⟨S.1, S.2.1, S.2.2.1⟩
  obtain ⟨h1, h2, h3⟩ := sk_D K hM (b := bsC a d l (a 0) (a 1) (a 2)) (x := 0) (y := 0) rfl
  have hL := K.2.1
  have eL : dL (DA9 a d l (a 0) (a 1) (a 2)) = ((lnW a d l).length : Int) := rfl
  unfold shV olV
  by_cases w1 : w = 1
  · rw [if_pos w1, if_pos w1, bi_d]
    by_cases c : (bsC a d l (a 0) (a 1) (a 2)).1 < 0
    · rw [if_neg (fun q => q.1 (h1.mpr c)), if_neg (by omega)]
    · have := (h2 (by omega)).1
      rw [this]
      by_cases c2 : (bsC a d l (a 0) (a 1) (a 2)).1 ≤ a 3
      · rw [if_pos ⟨fun q => c (h1.mp q), c2⟩, if_pos ⟨by omega, c2⟩]
      · rw [if_neg (fun q => c2 q.2), if_neg (fun q => c2 q.2)]
  rw [if_neg w1, if_neg w1]
  by_cases w2 : w = 2
  · rw [if_pos w2, if_pos w2]
    by_cases c : (bsC a d l (a 0) (a 1) (a 2)).1 < 0
    · rw [if_pos (h1.mpr c), if_neg (by omega)]
    · rw [if_neg (fun q => c (h1.mp q)), if_pos (by omega), (h2 (by omega)).1]
  rw [if_neg w2, if_neg w2]
  by_cases w3 : w = 3
  · rw [if_pos w3, if_pos w3]
    by_cases c : (bsC a d l (a 0) (a 1) (a 2)).1 < 0
    · rw [if_pos (h1.mpr c), if_neg (by omega)]
    · rw [if_neg (fun q => c (h1.mp q)), if_pos (by omega)]
  rw [if_neg w3, if_neg w3]
  by_cases w5 : w = 5
  · rw [if_pos w5, if_pos w5, ally_D K _ (by rw [eL]; omega), eL, Int.toNat_natCast]
  rw [if_neg w5, if_neg w5]
  by_cases w6 : w = 6
  · rw [if_pos w6, if_pos w6]
    by_cases c : (bsC a d l (a 0) (a 1) (a 2)).1 < 0
    · rw [if_pos (h1.mpr c), if_neg (by omega)]
    · rw [if_neg (fun q => c (h1.mp q)), if_pos (by omega), (h2 (by omega)).2]
  rw [if_neg w6, if_neg w6]
  have ex : ∀ k : Nat, smS (fun i => bi (decide (0 ≤ xI a (fA9 a d l) (nA9 a d l) i))) k = exC a d l k := by
    intro k
    induction k with
    | zero => rfl
    | succ k ih =>
      rw [smS, exC, ih, xI_c, bi_d]
      congr 1
      by_cases c : exO a a (qwi a d l k) (nwi a d l k) < 0
      · rw [if_pos c, if_neg (by omega)]
      · rw [if_neg c, if_pos (by omega)]
  unfold mkC
  rw [ex, pwL_c, Int.toNat_natCast]
theorem suS_D {a : Int → Int} {d w : Int} (S : StA a) (N : LnA a) (E9 : ExA a) (hd : 0 ≤ d ∧ d ≤ 3) (hw : 1 ≤ w ∧ w ≤ 7 ∧ w ≠ 4) : ∀ k : Nat, (k : Int) ≤ a (5 + d) → suS a (fA9 a d) (nA9 a d) (a 0) (a 1) (a 2) (a 3) w k = smV a d w k
  | 0, _ => rfl
  | k + 1, hk => by
    rw [suS, smV, suS_D S N E9 hd hw k (by omega)]
    congr 1
    exact shV_D S N E9 hd ⟨by omega, by omega⟩ hw
/-- what a candidate gets -/
theorem tc_D {a : Int → Int} {d kd ft : Int} (S : StA a) (N : LnA a) (E9 : ExA a) (hd : 0 ≤ d ∧ d ≤ 3) (hm : (0 ≤ kd ∧ kd ≤ 3) ∧ 2 ≤ ft ∧ ft ≤ 6) {j : Int} (hj : j / 5 = kd ∧ 2 + j % 5 = ft) : ∀ k : Nat, (k : Int) ≤ a (5 + d) →
    tcF a (fA9 a d) (nA9 a d) (a 3) fiV k j = (suL a d kd ft k).1 ∧ tcF a (fA9 a d) (nA9 a d) (a 3) coV k j = (suL a d kd ft k).2
  | 0, _ => ⟨rfl, rfl⟩
  | k + 1, hk => by
    obtain ⟨i1, i2⟩ := tc_D S N E9 hd hm hj k (by omega)
    have L := LD_c S N E9 hd (l := k) ⟨by omega, by omega⟩
    have K := LK_LD (kd := kd) (ft := ft) (c9 := 0) S N E9 hd ⟨by omega, by omega⟩ L
    have hM : MtK (DA9 a d k kd ft 0) := MtK_c ⟨hm.1, hm.2, by omega, by omega⟩
    obtain ⟨h1, h2, h3⟩ := sk_D K hM (b := bsC a d k kd ft 0) (x := 0) (y := 0) rfl
    rw [tcF, tcF, suL, i1, i2]
    unfold fiV coV cdD
    rw [hj.1, hj.2]
    show (suL a d kd ft k).1 + bi (decide ((srch (DA9 a d k kd ft 0)).1 ≠ NOK ∧ (srch (DA9 a d k kd ft 0)).1 / 65536 ≤ a 3)) = _ ∧ (suL a d kd ft k).2 + (if (srch (DA9 a d k kd ft 0)).1 ≠ NOK ∧ (srch (DA9 a d k kd ft 0)).1 / 65536 ≤ a 3 then (srch (DA9 a d k kd ft 0)).1 / 65536 else 0) = _
    rw [bi_d]
    by_cases c : (bsC a d k kd ft 0).1 < 0
    · have n : ¬ ((srch (DA9 a d k kd ft 0)).1 ≠ NOK ∧ (srch (DA9 a d k kd ft 0)).1 / 65536 ≤ a 3) := fun q => q.1 (h1.mpr c)
      rw [if_neg n, if_neg n, if_pos (Or.inl c), Int.add_zero, Int.add_zero]; exact ⟨rfl, rfl⟩
    · have e := (h2 (by omega)).1
      rw [e]
      by_cases c2 : (bsC a d k kd ft 0).1 ≤ a 3
      · have n : (srch (DA9 a d k kd ft 0)).1 ≠ NOK ∧ (bsC a d k kd ft 0).1 ≤ a 3 := ⟨fun q => c (h1.mp q), c2⟩
        rw [if_pos n, if_pos n, if_neg (by omega)]; exact ⟨rfl, rfl⟩
      · have n : ¬ ((srch (DA9 a d k kd ft 0)).1 ≠ NOK ∧ (bsC a d k kd ft 0).1 ≤ a 3) := fun q => c2 q.2
        rw [if_neg n, if_neg n, if_pos (Or.inr (by omega)), Int.add_zero, Int.add_zero]; exact ⟨rfl, rfl⟩
/-- the best candidates -/
def sc9 (b : Int × Int × Int) : Int × Int × Int := if b.1 < 0 then (0, 0, 0) else (b.2.1, b.2.2, 10 * (b.1 / 5) + (2 + b.1 % 5))
theorem bc_D {a : Int → Int} {d : Int} (S : StA a) (N : LnA a) (E9 : ExA a) (hd : 0 ≤ d ∧ d ≤ 3) : ∀ (k f : Nat), k ≤ 3 → f ≤ 5 →
    sc9 (bcF (tcF a (fA9 a d) (nA9 a d) (a 3) fiV (a (5 + d)).toNat) (tcF a (fA9 a d) (nA9 a d) (a 3) coV (a (5 + d)).toNat) (5 * k + f)) = suF a d k (suK a d k) f ∧
    ((bcF (tcF a (fA9 a d) (nA9 a d) (a 3) fiV (a (5 + d)).toNat) (tcF a (fA9 a d) (nA9 a d) (a 3) coV (a (5 + d)).toNat) (5 * k + f)).1 < 0 → (bcF (tcF a (fA9 a d) (nA9 a d) (a 3) fiV (a (5 + d)).toNat) (tcF a (fA9 a d) (nA9 a d) (a 3) coV (a (5 + d)).toNat) (5 * k + f)).2.1 = 0) ∧
    (0 ≤ (bcF (tcF a (fA9 a d) (nA9 a d) (a 3) fiV (a (5 + d)).toNat) (tcF a (fA9 a d) (nA9 a d) (a 3) coV (a (5 + d)).toNat) (5 * k + f)).1 → 0 < (bcF (tcF a (fA9 a d) (nA9 a d) (a 3) fiV (a (5 + d)).toNat) (tcF a (fA9 a d) (nA9 a d) (a 3) coV (a (5 + d)).toNat) (5 * k + f)).2.1) := by
  have step : ∀ (k f : Nat), k ≤ 3 → f < 5 → ∀ s : Int × Int × Int,
    sc9 (bcF (tcF a (fA9 a d) (nA9 a d) (a 3) fiV (a (5 + d)).toNat) (tcF a (fA9 a d) (nA9 a d) (a 3) coV (a (5 + d)).toNat) (5 * k + f)) = s →
    ((bcF (tcF a (fA9 a d) (nA9 a d) (a 3) fiV (a (5 + d)).toNat) (tcF a (fA9 a d) (nA9 a d) (a 3) coV (a (5 + d)).toNat) (5 * k + f)).1 < 0 → (bcF (tcF a (fA9 a d) (nA9 a d) (a 3) fiV (a (5 + d)).toNat) (tcF a (fA9 a d) (nA9 a d) (a 3) coV (a (5 + d)).toNat) (5 * k + f)).2.1 = 0) →
    (0 ≤ (bcF (tcF a (fA9 a d) (nA9 a d) (a 3) fiV (a (5 + d)).toNat) (tcF a (fA9 a d) (nA9 a d) (a 3) coV (a (5 + d)).toNat) (5 * k + f)).1 → 0 < (bcF (tcF a (fA9 a d) (nA9 a d) (a 3) fiV (a (5 + d)).toNat) (tcF a (fA9 a d) (nA9 a d) (a 3) coV (a (5 + d)).toNat) (5 * k + f)).2.1) →
    sc9 (bcF (tcF a (fA9 a d) (nA9 a d) (a 3) fiV (a (5 + d)).toNat) (tcF a (fA9 a d) (nA9 a d) (a 3) coV (a (5 + d)).toNat) (5 * k + f + 1)) = su1 k (f + 2) (suL a d k (f + 2) (a (5 + d)).toNat) s ∧
    ((bcF (tcF a (fA9 a d) (nA9 a d) (a 3) fiV (a (5 + d)).toNat) (tcF a (fA9 a d) (nA9 a d) (a 3) coV (a (5 + d)).toNat) (5 * k + f + 1)).1 < 0 → (bcF (tcF a (fA9 a d) (nA9 a d) (a 3) fiV (a (5 + d)).toNat) (tcF a (fA9 a d) (nA9 a d) (a 3) coV (a (5 + d)).toNat) (5 * k + f + 1)).2.1 = 0) ∧
    (0 ≤ (bcF (tcF a (fA9 a d) (nA9 a d) (a 3) fiV (a (5 + d)).toNat) (tcF a (fA9 a d) (nA9 a d) (a 3) coV (a (5 + d)).toNat) (5 * k + f + 1)).1 → 0 < (bcF (tcF a (fA9 a d) (nA9 a d) (a 3) fiV (a (5 + d)).toNat) (tcF a (fA9 a d) (nA9 a d) (a 3) coV (a (5 + d)).toNat) (5 * k + f + 1)).2.1) := by
    intro k f hk hf s e1 e2 e3
    have hn := S.2.2.2.2.2.1 d hd.1 hd.2
    obtain ⟨t1, t2⟩ := tc_D S N E9 hd (kd := (k : Int)) (ft := (f : Int) + 2) ⟨by omega, by omega⟩ (j := ((5 * k + f : Nat) : Int)) ⟨by omega, by omega⟩ (a (5 + d)).toNat (by omega)
    have sr := suL_r (k := (k : Int)) (f := (f : Int) + 2) N hd ⟨by omega, by omega⟩ (a (5 + d)).toNat (by omega)
    rw [bcF, t1, t2]
    generalize bcF (tcF a (fA9 a d) (nA9 a d) (a 3) fiV (a (5 + d)).toNat) (tcF a (fA9 a d) (nA9 a d) (a 3) coV (a (5 + d)).toNat) (5 * k + f) = b at e1 e2 e3 ⊢
    generalize suL a d k (f + 2) (a (5 + d)).toNat = v at sr ⊢
    subst e1
    unfold su1 sc9
    by_cases c : b.1 < 0
    · have e2' := e2 c
      by_cases c2 : v.1 = 0
      · rw [if_neg (show ¬ (b.2.1 < v.1 ∨ (v.1 = b.2.1 ∧ 0 < b.2.1 ∧ v.2 < b.2.2)) by omega), if_pos c]
        rw [if_pos (show v.1 = 0 ∨ v.1 < (0, 0, 0).1 ∨ (v.1 = (0, 0, 0).1 ∧ ((0, 0, 0) : Int × Int × Int).2.1 ≤ v.2) from Or.inl c2)]
        exact ⟨rfl, e2, e3⟩
      · rw [if_pos (show (b.2.1 < v.1 ∨ (v.1 = b.2.1 ∧ 0 < b.2.1 ∧ v.2 < b.2.2)) by omega), if_pos c]
        rw [if_neg (show ¬ (v.1 = 0 ∨ v.1 < (0, 0, 0).1 ∨ (v.1 = (0, 0, 0).1 ∧ ((0, 0, 0) : Int × Int × Int).2.1 ≤ v.2)) by dsimp only; omega)]
        dsimp only
        rw [if_neg (by omega)]
        refine ⟨?_, fun q => by omega, fun _ => by omega⟩
        congr 2; omega
    · have e3' := e3 (by omega)
      rw [if_neg c]
      dsimp only
      by_cases c2 : b.2.1 < v.1 ∨ (v.1 = b.2.1 ∧ 0 < b.2.1 ∧ v.2 < b.2.2)
      · rw [if_pos c2, if_neg (show ¬ (v.1 = 0 ∨ v.1 < b.2.1 ∨ (v.1 = b.2.1 ∧ b.2.2 ≤ v.2)) by omega)]
        dsimp only
        rw [if_neg (by omega)]
        refine ⟨?_, fun q => by omega, fun _ => by omega⟩
        congr 2; omega
      · rw [if_neg c2, if_pos (show (v.1 = 0 ∨ v.1 < b.2.1 ∨ (v.1 = b.2.1 ∧ b.2.2 ≤ v.2)) by omega), if_neg c]
        exact ⟨rfl, e2, e3⟩
  intro k
  induction k with
  | zero =>
    intro f
    induction f with
    | zero => intro _ _; exact ⟨rfl, fun _ => rfl, fun q => absurd (show (0 : Int) ≤ -1 from q) (by decide)⟩
    | succ f ih =>
      intro hk hf
      obtain ⟨i1, i2, i3⟩ := ih hk (by omega)
      have := step 0 f hk (by omega) _ i1 i2 i3
      rw [suF]
      exact this
  | succ k ihk =>
    intro f
    induction f with
    | zero =>
      intro hk _
      have := ihk 5 (by omega) (by omega)
      rw [show 5 * (k + 1) + 0 = 5 * k + 5 by omega]
      exact this
    | succ f ih =>
      intro hk hf
      obtain ⟨i1, i2, i3⟩ := ih hk (by omega)
      have := step (k + 1) f hk (by omega) _ i1 i2 i3
      rw [suF]
      exact this
