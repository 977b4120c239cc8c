/-! rhymes, classes, differences, by either side -/
def VL9 (f : Int → Int) : Nat → Int → List Int
  | 0, _ => []
  | m + 1, p => if vow (f p) = true then f p :: VL9 f m (p + 1) else VL9 f m (p + 1)
theorem VL9_s {f : Int → Int} : ∀ (m : Nat) (p : Int), VL9 f (m + 1) p = VL9 f m p ++ (if vow (f (p + m)) = true then [f (p + m)] else [])
  | 0, p => by
    rw [VL9, VL9, VL9]
    simp
  | m + 1, p => by
    rw [VL9, VL9_s m (p + 1), VL9, show p + 1 + (m : Int) = p + ((m + 1 : Nat) : Int) by omega]
    split <;> simp
theorem VL9_len {f : Int → Int} : ∀ (m : Nat) (p : Int), (VL9 f m p).length ≤ m
  | 0, _ => by simp [VL9]
  | m + 1, p => by
    have := VL9_len (f := f) m (p + 1)
    rw [VL9]; split <;> simp <;> omega
theorem VL9_v {f : Int → Int} : ∀ (m : Nat) (p : Int), ∀ v ∈ VL9 f m p, vow v = true
  | 0, _ => by simp [VL9]
  | m + 1, p => by
    have := VL9_v (f := f) m (p + 1)
    rw [VL9]; split
    · rename_i c
      intro v hv
      rcases List.mem_cons.mp hv with rfl | hv
      · exact c
      · exact this v hv
    · exact this
theorem VL9_get {f : Int → Int} : ∀ (m : Nat) (p : Int) (i : Nat), vwA f m p i = ((VL9 f m p)[i]?).getD (-1)
  | 0, _, _ => by simp [vwA, VL9]
  | m + 1, p, i => by
    rw [vwA, VL9]
    by_cases c : vow (f p) = true
    · rw [if_pos c, if_pos c]
      cases i with
      | zero => simp
      | succ i =>
        rw [if_neg (by omega), show ((i + 1 : Nat) : Int) - 1 = (i : Int) by omega, VL9_get m (p + 1) i]
        simp
    · rw [if_neg c, if_neg c]
      exact VL9_get m (p + 1) i
theorem vIx_w9 (c : Int) : (0 ≤ vIx c ↔ vow c = true) ∧ vIx c ≤ 5 ∧ -1 ≤ vIx c := by
  unfold vIx vow
  simp only [Bool.or_eq_true, beq_iff_eq]
  repeat' split
  all_goals omega
theorem vIx_j9 {c e : Int} (hc : vow c = true) (he : vow e = true) (h : vIx c = vIx e) : c = e := by
  have h1 := (vIx_w9 c).1.mpr hc
  have h2 := (vIx_w9 e).1.mpr he
  unfold vIx at h h1 h2
  repeat' split at h
  all_goals first | omega | skip
  all_goals (repeat' split at h1) <;> (repeat' split at h2) <;> omega
theorem vcA_i {f g : Int → Int} {p q : Int} : ∀ (s m n : Nat), m + n ≤ s → (vcA f p m = vcA g q n ↔ VL9 f m p = VL9 g n q)
  | 0, m, n, h => by
    obtain ⟨rfl, rfl⟩ : m = 0 ∧ n = 0 := by omega
    simp [vcA, VL9]
  | s + 1, m, n, h => by
    have pos : ∀ (f : Int → Int) (p : Int) (k : Nat), 0 ≤ vcA f p k := by
      intro f p k
      induction k with
      | zero => simp [vcA]
      | succ k ih => rw [vcA]; split <;> omega
    cases m with
    | zero =>
      cases n with
      | zero => simp [vcA, VL9]
      | succ n =>
        have ih := vcA_i (f := f) (g := g) (p := p) (q := q) s 0 n (by omega)
        have v := vIx_w9 (g (q + n))
        have := pos g q n
        rw [VL9_s, vcA.eq_2 g q n]
        by_cases c : 0 ≤ vIx (g (q + n))
        · rw [if_pos c, if_pos (v.1.mp c)]
          constructor
          · intro h; rw [vcA] at h; omega
          · intro h; simp [VL9] at h
        · rw [if_neg c, if_neg (fun z => c (v.1.mpr z)), List.append_nil]; exact ih
    | succ m =>
      have v := vIx_w9 (f (p + m))
      have hp := pos f p m
      by_cases c : 0 ≤ vIx (f (p + m))
      · cases n with
        | zero =>
          rw [VL9_s, vcA.eq_2 f p m, if_pos c, if_pos (v.1.mp c)]
          constructor
          · intro h; rw [vcA] at h; omega
          · intro h; simp [VL9] at h
        | succ n =>
          have w := vIx_w9 (g (q + n))
          have hq := pos g q n
          by_cases c2 : 0 ≤ vIx (g (q + n))
          · have ih := vcA_i (f := f) (g := g) (p := p) (q := q) s m n (by omega)
            rw [VL9_s, VL9_s, vcA.eq_2 f p m, vcA.eq_2 g q n, if_pos c, if_pos c2, if_pos (v.1.mp c), if_pos (w.1.mp c2)]
            constructor
            · intro h
              have h1 : vcA f p m = vcA g q n := by omega
              have h2 : vIx (f (p + m)) = vIx (g (q + n)) := by omega
              rw [ih.mp h1, vIx_j9 (v.1.mp c) (w.1.mp c2) h2]
            · intro h
              obtain ⟨h1, h2⟩ := List.append_inj' h rfl
              have h3 := ih.mpr h1
              have h4 : f (p + m) = g (q + n) := by simpa using h2
              rw [h3, h4]
          · have ih := vcA_i (f := f) (g := g) (p := p) (q := q) s (m + 1) n (by omega)
            rw [VL9_s n q, vcA.eq_2 g q n, if_neg c2, if_neg (fun z => c2 (w.1.mpr z)), List.append_nil]; exact ih
      · have ih := vcA_i (f := f) (g := g) (p := p) (q := q) s m n (by omega)
        rw [VL9_s m p, vcA.eq_2 f p m, if_neg c, if_neg (fun z => c (v.1.mpr z)), List.append_nil]; exact ih
theorem vwE_iff {a : Int → Int} {p n q m : Int} : ∀ k : Nat, vwE a p n q m k = true ↔ ∀ i : Nat, i < k → vwA a n.toNat p i = vwA a m.toNat q i
  | 0 => by simp [vwE]
  | k + 1 => by
    rw [vwE, Bool.and_eq_true, decide_eq_true_iff, vwE_iff k]
    constructor
    · intro h i hi
      by_cases e : i = k
      · subst e; exact h.2
      · exact h.1 i (by omega)
    · intro h
      exact ⟨fun i hi => h i (by omega), h k (by omega)⟩
theorem VL9_eq {a : Int → Int} {p n q m : Int} (hn : n ≤ 12) (hm : m ≤ 12) : vwE a p n q m 13 = true ↔ VL9 a n.toNat p = VL9 a m.toNat q := by
  rw [vwE_iff]
  have l1 := VL9_len (f := a) n.toNat p
  have l2 := VL9_len (f := a) m.toNat q
  have v1 := VL9_v (f := a) n.toNat p
  have v2 := VL9_v (f := a) m.toNat q
  constructor
  · intro h
    apply List.ext_getElem?
    intro i
    by_cases c : i < 13
    · have := h i c
      rw [VL9_get, VL9_get] at this
      cases h1 : (VL9 a n.toNat p)[i]? with
      | none =>
        cases h2 : (VL9 a m.toNat q)[i]? with
        | none => rfl
        | some y =>
          rw [h1, h2] at this
          have hy := v2 y (List.mem_of_getElem? h2)
          simp at this
          rw [← this] at hy; cases hy
      | some x =>
        cases h2 : (VL9 a m.toNat q)[i]? with
        | none =>
          rw [h1, h2] at this
          have hy := v1 x (List.mem_of_getElem? h1)
          simp at this
          rw [this] at hy; cases hy
        | some y =>
          rw [h1, h2] at this
          simp at this
          rw [this]
    · rw [List.getElem?_eq_none (by omega), List.getElem?_eq_none (by omega)]
  · intro h i _
    rw [VL9_get, VL9_get, h]
theorem VL9_sh {a : Int → Int} {q : Int} : ∀ (m : Nat) (p : Int), VL9 (fun k => a (q + k)) m p = VL9 a m (q + p)
  | 0, _ => rfl
  | m + 1, p => by rw [VL9, VL9, VL9_sh m (p + 1), Int.add_assoc]
theorem rkL_D {a : Int → Int} {d x y : Int} (N : LnA a) (hd : 0 ≤ d ∧ d ≤ 3) (hc : a (5 + d) ≤ 10) (hx : 0 ≤ x ∧ x < a (5 + d)) (hy : 0 ≤ y ∧ y < a (5 + d)) : rkL a (fA9 a d x) (nA9 a d x) (fA9 a d y) (nA9 a d y) = knd a d x y := by
  have nx := (lnW_n N hd hx).1
  have ny := (lnW_n N hd hy).1
  have rx := rh_r N hd hx hc
  have ry := rh_r N hd hy hc
  unfold rkL knd
  rw [rhM_c nx, rhM_c ny, rsE_c nx, rsE_c ny, lwG_c nx, lwG_c ny, lwZ_c nx, lwZ_c ny]
  have e1 : (decide (lwN a d x = lwN a d y) && eqN (fun k => a (lwP a d x + k)) (fun k => a (lwP a d y + k)) (lwN a d x).toNat) = likeR a (lwP a d x) (lwN a d x) (lwP a d y) (lwN a d y) := rfl
  have e2 : (decide (rhM a d x = rhM a d y) && eqN (fun k => (fun k => a (lwP a d x + k)) (cfr a (lwP a d x) (lwN a d x) + k)) (fun k => (fun k => a (lwP a d y + k)) (cfr a (lwP a d y) (lwN a d y) + k)) (rhM a d x).toNat) = likeR a (rhF a d x) (rhM a d x) (rhF a d y) (rhM a d y) := by
    unfold likeR rhF
    simp only [Int.add_assoc]
  rw [e1, e2]
  have e3 : (vcA (fun k => a (lwP a d x + k)) (cfr a (lwP a d x) (lwN a d x)) (rhM a d x).toNat = vcA (fun k => a (lwP a d y + k)) (cfr a (lwP a d y) (lwN a d y)) (rhM a d y).toNat) ↔ vwE a (rhF a d x) (rhM a d x) (rhF a d y) (rhM a d y) 13 = true := by
    rw [vcA_i _ _ _ (Nat.le_refl _), VL9_eq rx.2.1.2 ry.2.1.2, VL9_sh, VL9_sh]
    exact Iff.rfl
  repeat' split
  all_goals first | rfl | (exfalso; simp_all)
theorem fwN_r9 {p : Int → Bool} : ∀ k : Nat, -1 ≤ fwN p k ∧ fwN p k < k
  | 0 => by rw [fwN]; omega
  | k + 1 => by
    have := fwN_r9 (p := p) k
    rw [fwN]; repeat' split
    all_goals omega
theorem fwN_cg {p q : Int → Bool} : ∀ k : Nat, (∀ j : Int, 0 ≤ j → j < k → p j = q j) → fwN p k = fwN q k
  | 0, _ => rfl
  | k + 1, h => by rw [fwN, fwN, fwN_cg k (fun j j0 j1 => h j j0 (by omega)), h k (by omega) (by omega)]
theorem fnd_f {a : Int → Int} {d l : Int} {c : Int → Int} : ∀ k : Nat, (∀ j : Int, 0 ≤ j → j < k → 0 ≤ c j) → fnd a d c l k = if fwN (fun j => decide (2 ≤ knd a d j l)) k = -1 then -1 else c (fwN (fun j => decide (2 ≤ knd a d j l)) k)
  | 0, _ => by rw [fnd, fwN, if_pos rfl]
  | k + 1, h => by
    have r := fwN_r9 (p := fun j => decide (2 ≤ knd a d j l)) k
    rw [fnd, fwN, fnd_f k (fun j j0 j1 => h j j0 (by omega))]
    by_cases e : fwN (fun j => decide (2 ≤ knd a d j l)) k = -1
    · rw [if_pos e, if_neg (show ¬ 0 ≤ fwN (fun j => decide (2 ≤ knd a d j l)) k by omega)]
      by_cases c2 : 2 ≤ knd a d k l
      · rw [if_pos ⟨by decide, c2⟩, decide_eq_true c2, if_pos rfl, if_neg (by omega)]
      · rw [if_neg (fun q => c2 q.2), decide_eq_false c2, if_neg (show ¬ (false = true) by decide), if_pos (show (-1 : Int) = -1 from rfl)]
    · have := h (fwN (fun j => decide (2 ≤ knd a d j l)) k) (by omega) (by omega)
      rw [if_neg e, if_neg (by omega), if_pos (show 0 ≤ fwN (fun j => decide (2 ≤ knd a d j l)) k by omega), if_neg e]
theorem clS_D {a : Int → Int} {d : Int} {g e : Int → Int} (N : LnA a) (hd : 0 ≤ d ∧ d ≤ 3) (hc : a (5 + d) ≤ 10) : ∀ k : Nat, (k : Int) ≤ a (5 + d) → (∀ j : Int, 0 ≤ j → j < k → (clS a (fA9 a d) (nA9 a d) g k).1 j = clsF a d e k j) ∧ (clS a (fA9 a d) (nA9 a d) g k).2 = frs (clsF a d e k) k
  | 0, _ => ⟨fun j j0 j1 => by omega, rfl⟩
  | k + 1, hk => by
    obtain ⟨i1, i2⟩ := clS_D (g := g) (e := e) N hd hc k (by omega)
    have cr := clsF_r (a := a) (d := d) (g := e) k
    have hP : fwN (rkP a (fA9 a d) (nA9 a d) k) k = fwN (fun j => decide (2 ≤ knd a d j k)) k := fwN_cg k (fun j j0 j1 => by
      unfold rkP
      rw [rkL_D N hd hc ⟨j0, by omega⟩ ⟨by omega, by omega⟩])
    have ff := fnd_f (a := a) (d := d) (l := (k : Int)) (c := clsF a d e k) k (fun j j0 j1 => (cr j j0 j1).1)
    have r := fwN_r9 (p := fun j => decide (2 ≤ knd a d j k)) k
    have hC : clC a (fA9 a d) (nA9 a d) (clS a (fA9 a d) (nA9 a d) g k) k = (if fnd a d (clsF a d e k) k k < 0 then frs (clsF a d e k) k else fnd a d (clsF a d e k) k k) := by
      unfold clC
      rw [hP, ff]
      by_cases c : fwN (fun j => decide (2 ≤ knd a d j k)) k = -1
      · rw [if_pos c, if_pos c, if_pos (by decide), i2]
      · have := (cr (fwN (fun j => decide (2 ≤ knd a d j k)) k) (by omega) (by omega)).1
        rw [if_neg c, if_neg c, if_neg (by omega), i1 _ (by omega) (by omega)]
    rw [clS, clsF, frs, hC]
    dsimp only
    refine ⟨fun j j0 j1 => ?_, ?_⟩
    · by_cases q : j = k
      · rw [q, up_s, up_s]
      · rw [up_n q, up_n q]; exact i1 j j0 (by omega)
    · rw [up_s, i2, frs_cg (c := up (clsF a d e k) k _) (e := clsF a d e k) k (fun j j0 j1 => up_n (by omega))]
theorem lp_D {a : Int → Int} {x i y j : Int} (hx : (lnW a x i).length ≤ 12) (hy : (lnW a y j).length ≤ 12) : lpP (fA9 a x i) (nA9 a x i) (fA9 a y j) (nA9 a y j) (max (pwL (fA9 a x i) (nA9 a x i)) (pwL (fA9 a y j) (nA9 a y j))).toNat = apP a x i y j 12 := by
  have some9 : ∀ (d l : Int) (k : Nat), k < (lnW a d l).length → (lnW a d l)[k]? = some (wdi a d l k) := fun d l k hk => by
    unfold wdi
    rw [Int.toNat_natCast, List.getElem?_eq_getElem hk]; rfl
  have st : ∀ k : Nat, k < max (lnW a x i).length (lnW a y j).length → lw1 (fA9 a x i) (nA9 a x i) (fA9 a y j) (nA9 a y j) k = ap1 a x i y j k := by
    intro k hk
    unfold lw1
    rw [pwL_c, pwL_c, pwN_c, pwN_c]
    by_cases c1 : k < (lnW a x i).length
    · have e1 := some9 x i k c1
      by_cases c2 : k < (lnW a y j).length
      · have e2 := some9 y j k c2
        rw [ap1_ss e1 e2]
        have e3 : (decide (nwi a x i k = nwi a y j k) && eqN (fun u => fA9 a x i (pwP (fA9 a x i) (nA9 a x i) k + u)) (fun u => fA9 a y j (pwP (fA9 a y j) (nA9 a y j) k + u)) (nwi a x i k).toNat) = likeR a (169 + 61 * (10 * x + i) + 1 + (wdi a x i k).1) (wdi a x i k).2.1 (169 + 61 * (10 * y + j) + 1 + (wdi a y j k).1) (wdi a y j k).2.1 := by
          have f1 := fw_c (a := a) (d := x) (l := i) (i := (k : Int))
          have f2 := fw_c (a := a) (d := y) (l := j) (i := (k : Int))
          unfold fw at f1 f2
          rw [f1, f2]; rfl
        rw [e3]
        by_cases c3 : likeR a (169 + 61 * (10 * x + i) + 1 + (wdi a x i k).1) (wdi a x i k).2.1 (169 + 61 * (10 * y + j) + 1 + (wdi a y j k).1) (wdi a y j k).2.1 = true
        · rw [if_pos ⟨by omega, by omega, c3⟩, if_pos c3]
        · rw [if_neg (fun q => c3 q.2.2), if_neg c3]
      · rw [if_neg (fun q => c2 (by omega)), ap1_sn e1 (List.getElem?_eq_none (by omega))]
    · by_cases c2 : k < (lnW a y j).length
      · rw [if_neg (fun q => c1 (by omega)), ap1_ns (List.getElem?_eq_none (by omega)) (some9 y j k c2)]
      · omega
  have s2 : ∀ k : Nat, k ≤ max (lnW a x i).length (lnW a y j).length → lpP (fA9 a x i) (nA9 a x i) (fA9 a y j) (nA9 a y j) k = apP a x i y j k := by
    intro k
    induction k with
    | zero => intro _; rfl
    | succ k ih => intro hk; rw [lpP, apP, ih (by omega), st k (by omega)]
  have s3 : ∀ k : Nat, apP a x i y j (max (lnW a x i).length (lnW a y j).length + k) = apP a x i y j (max (lnW a x i).length (lnW a y j).length) := by
    intro k
    induction k with
    | zero => rfl
    | succ k ih => rw [← Nat.add_assoc, apP, ih, ap1_nn (List.getElem?_eq_none (by omega)) (List.getElem?_eq_none (by omega)), Int.add_zero]
  rw [pwL_c, pwL_c, show (max ((lnW a x i).length : Int) ((lnW a y j).length : Int)).toNat = max (lnW a x i).length (lnW a y j).length by omega, s2 _ (Nat.le_refl _)]
  obtain ⟨d, hd⟩ : ∃ d, 12 = max (lnW a x i).length (lnW a y j).length + d := ⟨12 - max (lnW a x i).length (lnW a y j).length, by omega⟩
  rw [show apP a x i y j 12 = apP a x i y j (max (lnW a x i).length (lnW a y j).length + d) by rw [← hd], s3]
theorem drL_D {a : Int → Int} {x y : Int} {g : Int → Int} (N : LnA a) (hx : 0 ≤ x ∧ x ≤ 3) (hy : 0 ≤ y ∧ y ≤ 3) (hy2 : 0 ≤ a (5 + y)) : ∀ i : Nat, (i : Int) ≤ a (5 + x) → ∀ j : Nat, (j : Int) ≤ a (5 + y) → drL (dfL (fA9 a x) (fA9 a y) (nA9 a x) (nA9 a y)) g (a (5 + y)) i j = dfT a x y i j
  | 0, _, j, hj => by rw [drL, dfT]; unfold d3U; rw [if_pos (by omega)]
  | i + 1, hi, j, hj => by
    have ih := drL_D (g := g) N hx hy hy2 i (by omega)
    have hv : ∀ j : Nat, (j : Int) < a (5 + y) → dfL (fA9 a x) (fA9 a y) (nA9 a x) (nA9 a y) i j = min 5 (apP a x i y j 12) := fun j hj => by
      unfold dfL
      rw [lp_D (lnW_n N hx ⟨by omega, by omega⟩).2 (lnW_n N hy ⟨by omega, hj⟩).2, Int.min_comm]
    have key : ∀ k : Nat, (k : Int) ≤ a (5 + y) → (dcL (dfL (fA9 a x) (fA9 a y) (nA9 a x) (nA9 a y) i) i (drL (dfL (fA9 a x) (fA9 a y) (nA9 a x) (nA9 a y)) g (a (5 + y)) i) k).2 = dfT a x y i k ∧
        ∀ j : Nat, (j : Int) ≤ a (5 + y) → (dcL (dfL (fA9 a x) (fA9 a y) (nA9 a x) (nA9 a y) i) i (drL (dfL (fA9 a x) (fA9 a y) (nA9 a x) (nA9 a y)) g (a (5 + y)) i) k).1 j = if j ≤ k then dfR a x y i (dfT a x y i) j else dfT a x y i j := by
      intro k
      induction k with
      | zero =>
        intro _
        rw [dcL]
        refine ⟨ih 0 (by omega), fun j hj => ?_⟩
        dsimp only
        by_cases e : j = 0
        · subst e; rw [if_pos (by omega), dfR]; exact up_s
        · rw [if_neg (by omega), up_n (by omega)]; exact ih j hj
      | succ k ihk =>
        intro hk
        obtain ⟨k1, k2⟩ := ihk (by omega)
        have a1 := k2 k (by omega)
        have a2 := k2 (k + 1) (by omega)
        rw [if_pos (Nat.le_refl _)] at a1
        rw [if_neg (by omega)] at a2
        rw [show ((k + 1 : Nat) : Int) = (k : Int) + 1 by omega] at a2
        rw [dcL]
        dsimp only
        refine ⟨a2, fun j hj => ?_⟩
        by_cases e : j = k + 1
        · subst e
          rw [show ((k + 1 : Nat) : Int) = (k : Int) + 1 by omega, up_s, if_pos (Nat.le_refl _), dfR, k1, hv k (by omega), a1, a2]
          omega
        · rw [up_n (by omega), k2 j hj]
          by_cases c : j ≤ k
          · rw [if_pos c, if_pos (by omega)]
          · rw [if_neg c, if_neg (by omega)]
    rw [drL, dfT]
    have := (key (a (5 + y)).toNat (by omega)).2 j hj
    rw [if_pos (by omega)] at this
    exact this
