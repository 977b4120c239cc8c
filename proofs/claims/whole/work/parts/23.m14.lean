/-! the reference: lines laid in one way only; what a draft suits -/
/-- two lines laid alike -/
def LE (F : Nat → Int) (A : Nat → Int → Int) (G : Nat → Int) (B : Nat → Int → Int) : Prop := G 16 = F 16 ∧ ∀ k, 0 ≤ k → k < F 16 → B 8 k = A 8 k ∧ B 9 k = A 9 k ∧ B 10 k = A 10 k ∧ B 12 k = A 12 k ∧ B 13 k = A 13 k ∧ B 14 k = A 14 k ∧ ∀ j, 0 ≤ j → j < A 10 k → B 11 (12 * k + j) = A 11 (12 * k + j)
theorem LD_LE {a : Int → Int} {d l : Int} {F G : Nat → Int} {A B : Nat → Int → Int} (p : LD a d l F A) (q : LD a d l G B) : LE F A G B := by
  refine ⟨by rw [p.2.1, q.2.1], fun k k0 k1 => ?_⟩
  have h2 := p.2.1
  have hi : k.toNat < (lnW a d l).length := by omega
  obtain ⟨⟨pv, lenv, cv⟩, hx⟩ : ∃ t, (lnW a d l)[k.toNat] = t := ⟨_, rfl⟩
  have h3 : (lnW a d l)[k.toNat]? = some (pv, lenv, cv) := by rw [List.getElem?_eq_getElem hi, hx]
  have u := p.2.2 _ _ _ _ h3
  have v := q.2.2 _ _ _ _ h3
  rw [Int.toNat_of_nonneg k0] at u v
  obtain ⟨u0, u1, u2, u3, u4, u5, u6, u7⟩ := u
  obtain ⟨v0, v1, v2, v3, v4, v5, v6, v7⟩ := v
  exact ⟨by rw [u1, v1], by rw [u2, v2], by rw [u6, v6], by rw [u3, v3], by rw [u5, v5], by rw [u4, v4], fun j j0 j1 => by rw [u6] at j1; rw [u7 j j0 j1, v7 j j0 j1]⟩
theorem plN_cg {e f : Int → Bool} : ∀ k : Nat, (∀ i : Int, 0 ≤ i → i < k → e i = f i) → plN e k = plN f k
  | 0, _ => rfl
  | k + 1, hq => by rw [plN, plN, plN_cg k (fun i i0 i1 => hq i i0 (by omega)), hq k (by omega) (by omega)]
theorem eln_LE {F G : Nat → Int} {A B : Nat → Int → Int} (E : LE F A G B) {k : Int} (hk : 0 ≤ k) : eln F A k = eln G B k := by
  unfold eln
  rw [E.1]
  by_cases q : k + 1 < F 16
  · obtain ⟨-, -, -, x12, x13, -⟩ := E.2 k hk (by omega)
    obtain ⟨-, -, -, -, -, y14, -⟩ := E.2 (k + 1) (by omega) q
    rw [x12, x13, y14]
  · rw [decide_eq_false (fun h => q h.1), decide_eq_false (fun h => q h.1)]
theorem pls_LE {F G : Nat → Int} {A B : Nat → Int → Int} (E : LE F A G B) : pls F A = pls G B := by
  unfold pls
  rw [E.1, plN_cg _ (fun i i0 _ => eln_LE E i0)]
theorem oks_LE {F G : Nat → Int} {A B : Nat → Int → Int} (E : LE F A G B) {z : Int} : ∀ k : Nat, (k : Int) ≤ F 16 → oks A z k = oks B z k
  | 0, _ => rfl
  | k + 1, hk => by rw [oks, oks, oks_LE E k (by omega), (E.2 k (by omega) (by omega)).2.2.1]
theorem are_LE {F G : Nat → Int} {A B : Nat → Int → Int} (E : LE F A G B) {z : Int} (h0 : 0 ≤ F 16) : are F A z = are G B z := by
  unfold are
  rw [E.1, pls_LE E, oks_LE E (F 16).toNat (by omega)]
theorem s1_LE {A B : Nat → Int → Int} {z i j : Int} {s t : Int × (Int → Int) × (Int → Int) × (Int → Int)} (e1 : B 11 (12 * i + j) = A 11 (12 * i + j)) (e2 : 0 < i → B 12 (i - 1) = A 12 (i - 1)) (hs : agr s t) : agr (s1 A z i j s) (s1 B z i j t) := by
  have h1 := s1_agr (A := A) (z := z) (i := i) (j := j) hs
  have h2 : s1 B z i j t = s1 A z i j t := by
    unfold s1
    rw [e1]
    by_cases q : 0 < i
    · rw [e2 q]
    · have e3 : ∀ x : Int, (j = 0 ∧ 0 < i ∧ x ≠ 0) ↔ False := fun x => ⟨fun h => q h.2.1, False.elim⟩
      simp only [e3]
  rw [h2]; exact h1
theorem sA_LE {F G : Nat → Int} {A B : Nat → Int → Int} (L : LW F A) (E : LE F A G B) {z : Int} {s t : Int × (Int → Int) × (Int → Int) × (Int → Int)} (hs : agr s t) : ∀ k : Nat, (k : Int) ≤ F 16 → agr (sA A z s k) (sA B z t k)
  | 0, _ => hs
  | k + 1, hk => by
    have h0 := sA_LE L E hs (z := z) k (by omega)
    obtain ⟨x8, x9, x10, x12, x13, x14, x11⟩ := E.2 k (by omega) (by omega)
    obtain ⟨k1, k2, k3, k4, k5⟩ := L.2 k (by omega) (by omega)
    have h1 : ∀ j : Nat, j ≤ (A 10 k).toNat → agr (sW A z k j (sA A z s k)) (sW B z k j (sA B z t k)) := by
      intro j
      induction j with
      | zero => intro _; exact h0
      | succ j ih =>
        intro hj
        exact s1_LE (x11 j (by omega) (by omega)) (fun q => (E.2 (k - 1) (by omega) (by omega)).2.2.2.1) (ih (by omega))
    rw [sA, sA, x10]
    exact h1 _ (Nat.le_refl _)
/-- the same best scan, but for what was there before -/
def eqb (b c : Int × Int × Int × Int × Int) : Prop := b.1 = c.1 ∧ b.2.1 = c.2.1 ∧ b.2.2.2.1 = c.2.2.2.1 ∧ (0 ≤ b.1 → b = c)
theorem bt1_eqb {u n z i : Int} {b c : Int × Int × Int × Int × Int} (hb : eqb b c) : eqb (bt1 u n z i b) (bt1 u n z i c) := by
  obtain ⟨h1, h2, h3, h4⟩ := hb
  unfold bt1
  by_cases q : u < 0
  · rw [if_pos q, if_pos q]; exact ⟨h1, h2, h3, h4⟩
  · rw [if_neg q, if_neg q]
    by_cases q2 : b.1 < 0
    · rw [if_pos (Or.inl q2), if_pos (Or.inl (by omega)), h3]
      exact ⟨rfl, rfl, rfl, fun _ => rfl⟩
    · have e := h4 (by omega)
      rw [e]
      exact ⟨rfl, rfl, rfl, fun _ => rfl⟩
theorem bN_LE {F G : Nat → Int} {A B : Nat → Int → Int} (L : LW F A) (E : LE F A G B) {kd ft cs : Int} (hf : 2 ≤ ft ∧ ft ≤ 6) (hc : 0 ≤ cs ∧ cs < ft) {b c : Int × Int × Int × Int × Int} (hb : eqb b c) : ∀ k, eqb (bN kd ft cs F A b k) (bN kd ft cs G B c k)
  | 0 => hb
  | k + 1 => by
    have ih := bN_LE L E (kd := kd) hf hc hb k
    have hg := sA_LE L E (z := k) (agr_0 A B) (F 16).toNat (by have := L.1; omega)
    rw [bN, bN, are_LE E (by have := L.1; omega), E.1, cst_agr hf hc hg, cst_agr hf hc hg, hg.1]
    split
    · exact bt1_eqb (bt1_eqb ih)
    · exact ih
/-- a line laid in one way -/
def LFc (a : Int → Int) (d l : Int) : Nat → Int := fun _ => ((lnW a d l).length : Int)
def wdi (a : Int → Int) (d l i : Int) : Int × Int × Bool := ((lnW a d l)[i.toNat]?).getD (0, 0, false)
def qwi (a : Int → Int) (d l i : Int) : Int := 169 + 61 * (10 * d + l) + 1 + (wdi a d l i).1
def nwi (a : Int → Int) (d l i : Int) : Int := (wdi a d l i).2.1
def LAc (a : Int → Int) (d l : Int) : Nat → Int → Int := fun j i =>
  if j = 8 then qwi a d l i else if j = 9 then nwi a d l i else if j = 10 then wSy a (qwi a d l i) (nwi a d l i)
  else if j = 11 then mrk a (exO a a (qwi a d l (i / 12)) (nwi a d l (i / 12))) (wSy a (qwi a d l (i / 12)) (nwi a d l (i / 12))) (i % 12)
  else if j = 12 then bi (wdi a d l i).2.2 else if j = 13 then bi (wE (fun k => a (qwi a d l i + k)) (nwi a d l i)) else if j = 14 then bi (vow (a (qwi a d l i))) else 0
theorem LD_c {a : Int → Int} {d l : Int} (S : StA a) (N : LnA a) (E9 : ExA a) (hd : 0 ≤ d ∧ d ≤ 3) (hl : 0 ≤ l ∧ l < a (5 + d)) : LD a d l (LFc a d l) (LAc a d l) := by
  refine LD_of S N E9 hd hl rfl (fun i pv lenv cv hi => ?_)
  have h1 : wdi a d l i = (pv, lenv, cv) := by unfold wdi; rw [Int.toNat_natCast, hi]; rfl
  have h2 : qwi a d l i = 169 + 61 * (10 * d + l) + 1 + pv := by unfold qwi; rw [h1]
  have h3 : nwi a d l i = lenv := by unfold nwi; rw [h1]
  have h4 := lnW_w N hd hl hi
  have h5 := wSy_r (q := 169 + 61 * (10 * d + l) + 1 + pv) S E9 h4.2.1
  refine ⟨h5, ?_, ?_, ?_, ?_, ?_, ?_, fun k k0 k1 => ?_⟩
  · simp only [LAc, if_true]; exact h2
  · simp only [LAc, reduceCtorEq, if_false, if_true, Nat.reduceEqDiff]; exact h3
  · simp only [LAc, reduceCtorEq, if_false, if_true, Nat.reduceEqDiff]; rw [h1]
  · simp only [LAc, reduceCtorEq, if_false, if_true, Nat.reduceEqDiff]; rw [h2]
  · simp only [LAc, reduceCtorEq, if_false, if_true, Nat.reduceEqDiff]; rw [h2, h3]
  · simp only [LAc, reduceCtorEq, if_false, if_true, Nat.reduceEqDiff]; rw [h2, h3]
  · simp only [LAc, reduceCtorEq, if_false, if_true, Nat.reduceEqDiff]
    rw [show (12 * (i : Int) + k) / 12 = i by omega, show (12 * (i : Int) + k) % 12 = k by omega, h2, h3]
/-- the best scan of a line by a metre -/
def bsC (a : Int → Int) (d l kd ft cs : Int) : Int × Int × Int × Int × Int := bN kd ft cs (LFc a d l) (LAc a d l) (-1, 0, 0, 0, 0) (pls (LFc a d l) (LAc a d l) + 1).toNat
theorem bsC_e {a : Int → Int} {d l : Int} {F : Nat → Int} {A : Nat → Int → Int} (S : StA a) (N : LnA a) (E9 : ExA a) (hd : 0 ≤ d ∧ d ≤ 3) (hl : 0 ≤ l ∧ l < a (5 + d)) (L : LD a d l F A) {kd ft cs x y : Int} (hf : 2 ≤ ft ∧ ft ≤ 6) (hc : 0 ≤ cs ∧ cs < ft) :
    eqb (bN kd ft cs F A (-1, 0, x, 0, y) (pls F A + 1).toNat) (bsC a d l kd ft cs) := by
  have E := LD_LE L (LD_c S N E9 hd hl)
  unfold bsC
  rw [pls_LE E]
  exact bN_LE L.1 E hf hc (b := (-1, 0, x, 0, y)) (c := (-1, 0, 0, 0, 0)) ⟨rfl, rfl, rfl, fun h => absurd (show (0 : Int) ≤ -1 from h) (by decide)⟩ _
/-- what fits a metre: how many lines, what they cost -/
def suL (a : Int → Int) (d k f : Int) : Nat → Int × Int
  | 0 => (0, 0)
  | l + 1 => if (bsC a d l k f 0).1 < 0 ∨ a 3 < (bsC a d l k f 0).1 then suL a d k f l else ((suL a d k f l).1 + 1, (suL a d k f l).2 + (bsC a d l k f 0).1)
/-- most, lowest, found -/
def su1 (k f : Int) (v : Int × Int) (s : Int × Int × Int) : Int × Int × Int :=
  if v.1 = 0 ∨ v.1 < s.1 ∨ (v.1 = s.1 ∧ s.2.1 ≤ v.2) then s else (v.1, v.2, 10 * k + f)
def suF (a : Int → Int) (d k : Int) (s : Int × Int × Int) : Nat → Int × Int × Int
  | 0 => s
  | f + 1 => su1 k (f + 2) (suL a d k (f + 2) (a (5 + d)).toNat) (suF a d k s f)
def suK (a : Int → Int) (d : Int) : Nat → Int × Int × Int
  | 0 => (0, 0, 0)
  | k + 1 => suF a d k (suK a d k) 5
theorem bN_ok {kd ft cs : Int} {F : Nat → Int} {A : Nat → Int → Int} {b : Int × Int × Int × Int × Int} (hf : 2 ≤ ft ∧ ft ≤ 6) (hc : 0 ≤ cs ∧ cs < ft) (hb : bOk b) : ∀ k : Nat, k ≤ 4096 → bOk (bN kd ft cs F A b k)
  | 0, _ => hb
  | k + 1, hk => by
    have ih := bN_ok (kd := kd) (F := F) (A := A) hf hc hb k (by omega)
    rw [bN]
    split
    · exact bt1_ok (cst_r hf hc (by omega)) ⟨by omega, by omega⟩ (Or.inr rfl) (bt1_ok (cst_r hf hc (by omega)) ⟨by omega, by omega⟩ (Or.inl rfl) ih)
    · exact ih
theorem bsC_ok {a : Int → Int} {d l kd ft cs : Int} (hf : 2 ≤ ft ∧ ft ≤ 6) (hc : 0 ≤ cs ∧ cs < ft) (hn : (lnW a d l).length ≤ 12) : bOk (bsC a d l kd ft cs) := by
  have h1 := pls_r (F := LFc a d l) (A := LAc a d l) (by show ((lnW a d l).length : Int) ≤ 12; omega)
  exact bN_ok hf hc ⟨⟨(by decide : (-1 : Int) ≤ -1), (by decide : (-1 : Int) ≤ 100)⟩, ⟨(by decide : (0 : Int) ≤ 0), (by decide : (0 : Int) ≤ 4095)⟩, Or.inl rfl⟩ _ (by omega)
theorem suL_r {a : Int → Int} {d k f : Int} (N : LnA a) (hd : 0 ≤ d ∧ d ≤ 3) (hf : 2 ≤ f ∧ f ≤ 6) : ∀ l : Nat, (l : Int) ≤ a (5 + d) → (0 ≤ (suL a d k f l).1 ∧ (suL a d k f l).1 ≤ l) ∧ 0 ≤ (suL a d k f l).2 ∧ (suL a d k f l).2 ≤ 100 * l
  | 0, _ => by simp [suL]
  | l + 1, hl => by
    have ih := suL_r (k := k) N hd hf l (by omega)
    have hb := (bsC_ok (kd := k) (cs := 0) hf ⟨by omega, by omega⟩ (lnW_n N hd (l := l) ⟨by omega, by omega⟩).2).1
    rw [suL]
    split
    · omega
    · dsimp only; omega
def suO (s : Int × Int × Int) : Prop := (0 ≤ s.1 ∧ s.1 ≤ 10) ∧ (0 ≤ s.2.1 ∧ s.2.1 ≤ 1000)
theorem su1_O {k f : Int} {v : Int × Int} {s : Int × Int × Int} (hv : (0 ≤ v.1 ∧ v.1 ≤ 10) ∧ 0 ≤ v.2 ∧ v.2 ≤ 1000) (hs : suO s) : suO (su1 k f v s) := by
  unfold su1
  split
  · exact hs
  · exact hv
theorem suF_O {a : Int → Int} {d k : Int} {s : Int × Int × Int} (N : LnA a) (hd : 0 ≤ d ∧ d ≤ 3) (hn : 0 ≤ a (5 + d) ∧ a (5 + d) ≤ 10) (hs : suO s) : ∀ f : Nat, f ≤ 5 → suO (suF a d k s f)
  | 0, _ => hs
  | f + 1, hf => by
    have h1 := suL_r (k := k) (f := f + 2) N hd ⟨by omega, by omega⟩ (a (5 + d)).toNat (by omega)
    rw [suF]
    exact su1_O ⟨by omega, by omega⟩ (suF_O N hd hn hs f (by omega))
theorem suK_O {a : Int → Int} {d : Int} (N : LnA a) (hd : 0 ≤ d ∧ d ≤ 3) (hn : 0 ≤ a (5 + d) ∧ a (5 + d) ≤ 10) : ∀ k : Nat, suO (suK a d k)
  | 0 => ⟨⟨(by decide : (0 : Int) ≤ 0), (by decide : (0 : Int) ≤ 10)⟩, ⟨(by decide : (0 : Int) ≤ 0), (by decide : (0 : Int) ≤ 1000)⟩⟩
  | k + 1 => suF_O N hd hn (suK_O N hd hn k) 5 (by omega)
set_option maxRecDepth 100000 in
set_option maxHeartbeats 4000000 in
theorem c_X10_suits {Γ : GT} {h : XH} {F : Nat → Int} {A : Nat → Int → Int} (S : StA (A 1)) (N : LnA (A 1)) (E9 : ExA (A 1)) (h38 : F 38 = 0 ∨ F 38 = 1) {d : Int} (hd : InR d) : Ct Γ M_X10_suits [.ref (g_L Γ 0), .int (iN d)] (mst Γ h F A) (fun r h9 => (¬ (0 ≤ d ∧ d ≤ 3) ∧ r = some (.int (iN (0))) ∧ h9 = mst Γ h (uF F 0 1) A) ∨ ((0 ≤ d ∧ d ≤ 3) ∧ ∃ (F2 : Nat → Int) (A2 : Nat → Int → Int), h9 = mst Γ h F2 A2 ∧ frF [0, 16, 24, 25, 27, 28, 29, 30, 34, 35, 36, 37, 38, 39, 40, 41, 42] F F2 ∧ frA [8, 9, 10, 11, 12, 13, 14, 15, 16, 17, 18, 19, 20, 21, 22] A A2 ∧ (((suK (A 1) d 4).1 = 0 ∧ r = some (.int (iN (0))) ∧ F2 0 = 2) ∨ (0 < (suK (A 1) d 4).1 ∧ r = some (.int (iN ((suK (A 1) d 4).2.2))) ∧ F2 0 = 0)))) (fun _ _ => False) := by
  refine Ct.of rfl (by decide +kernel) (Nat.le_of_ble_eq_true rfl) ?_
  generalize hQF9 : QM Γ _ _ _ = QF9
  obtain ⟨t0, t1, t2, t3, t4, t5, t6⟩ := id S
  refine gg_aload_n dX10_suits_0 rfl rfl ?_
  refine gi_iconst dX10_suits_1 ?_
  refine gm_put3 rfl dX10_suits_2 (by (try simp only [uF_ss, uF_cc, id_eq, Nat.reduceLT, reduceCtorEq]); rfl) ?_
  refine gg_iload_n dX10_suits_5 rfl ?_
  refine gc_X10_218 rfl dX10_suits_6 ⟨(Nat.le_of_ble_eq_true rfl), (Nat.le_of_ble_eq_true rfl)⟩ ⟨(Nat.le_of_ble_eq_true rfl), (Nat.le_of_ble_eq_true rfl)⟩ (Nat.le_of_ble_eq_true rfl) (c_X10_isDraft (by assumption)) (fun _ _ w => w.elim) (fun r_6 h_6 hp => ?_)
  obtain ⟨rfl, rfl⟩ := hp
  refine gi_if_ne (tgt := 18) dX10_suits_9 (by decide) (bi_r _) (fun c_9 => ?_) (fun c_9 => ?_)
  · rw [bi_t] at c_9
    simp at c_9
    have hn9 := t5 d (by omega) (by omega)
    refine gi_iconst dX10_suits_18 ?_
    refine gg_istore_n dX10_suits_19 (Nat.le_of_ble_eq_true rfl) rfl ?_
    refine gi_iconst dX10_suits_20 ?_
    refine gg_istore_n dX10_suits_21 (Nat.le_of_ble_eq_true rfl) rfl ?_
    refine gi_iconst dX10_suits_22 ?_
    refine gg_istore dX10_suits_23 (Nat.le_of_ble_eq_true rfl) rfl ?_
    refine gi_iconst dX10_suits_25 ?_
    refine gg_istore dX10_suits_26 (Nat.le_of_ble_eq_true rfl) rfl ?_
    have L_28 : ∀ (n9 : Nat) (k : Int) (F1 : Nat → Int) (A1 : Nat → Int → Int) (s9 : Int × Int × Int), ((4 - k).toNat) = n9 → ∀ (hk : 0 ≤ k ∧ k ≤ 4) (hF : frF [16, 24, 25, 27, 28, 29, 30, 34, 35, 36, 37, 38] (uF F 0 0) F1) (hA : frA [8, 9, 10, 11, 12, 13, 14, 15, 16, 17, 18] A A1) (x38a : F1 38 = 0 ∨ F1 38 = 1) (hs : suK (A 1) d k.toNat = s9), GG Γ M_X10_suits QF9 (0, 0) (mst Γ h F1 A1) 28 [some (.ref (g_L Γ 0)), some (.int (iN d)), some (.int (iN s9.2.2)), some (.int (iN s9.1)), some (.int (iN s9.2.1)), some (.int (iN k)), none, none, none, none] [] := by
      intro n9
      induction n9 using Nat.strongRecOn with
      | ind n9 ih_28 => 
        intro k F1 A1 s9 hm9 hk hF hA x38a hs
        have so := suK_O N (d := d) ⟨by omega, by omega⟩ hn9 k.toNat
        rw [hs] at so
        obtain ⟨so1, so2⟩ := id so
        refine gg_iload dX10_suits_28 rfl ?_
        refine gi_iconst dX10_suits_30 ?_
        refine gi_icmp_ge (tgt := 182) dX10_suits_31 (by decide) ⟨by omega, by omega⟩ ⟨by omega, by omega⟩ (fun c_31 => ?_) (fun c_31 => ?_)
        · refine gg_iload_n dX10_suits_182 rfl ?_
          refine gi_if_ne (tgt := 194) dX10_suits_183 (by decide) ⟨by omega, by omega⟩ (fun c_183 => ?_) (fun c_183 => ?_)
          · refine gg_iload_n dX10_suits_194 rfl ?_
            subst hQF9
            refine gg_iret dX10_suits_195 rfl rfl ⟨(Nat.le_of_ble_eq_true rfl), (Nat.le_of_ble_eq_true rfl)⟩ ?_
            rw [show k.toNat = 4 by omega] at hs
            rw [hs]
            exact Or.inr ⟨by omega, F1, A1, rfl, frF_z hF (by decide), frA_w hA (by decide), Or.inr ⟨by have := so.1; omega, rfl, by rw [hF 0 (by decide), uF_s]⟩⟩
          · refine gg_aload_n dX10_suits_186 rfl rfl ?_
            refine gi_iconst dX10_suits_187 ?_
            refine gc_X10_162 rfl dX10_suits_188 ⟨(Nat.le_of_ble_eq_true rfl), (Nat.le_of_ble_eq_true rfl)⟩ ⟨(Nat.le_of_ble_eq_true rfl), (Nat.le_of_ble_eq_true rfl)⟩ (Nat.le_of_ble_eq_true rfl) (HAt.mu rfl) (c_X10_fails) (fun _ _ w => w.elim) (fun r_188 h_188 hp => ?_)
            obtain ⟨rfl, rfl⟩ := hp
            refine gg_goto (tgt := 195) dX10_suits_191 (by decide) ?_
            subst hQF9
            refine gg_iret dX10_suits_195 rfl rfl ⟨(Nat.le_of_ble_eq_true rfl), (Nat.le_of_ble_eq_true rfl)⟩ ?_
            rw [show k.toNat = 4 by omega] at hs
            rw [hs]
            exact Or.inr ⟨by omega, uF F1 0 2, A1, rfl, frF_u (frF_z hF (by decide)) (by decide), frA_w hA (by decide), Or.inl ⟨by omega, rfl, uF_s⟩⟩
        · refine gi_iconst dX10_suits_34 ?_
          refine gg_istore dX10_suits_35 (Nat.le_of_ble_eq_true rfl) rfl ?_
          have L_37 : ∀ (n9 : Nat) (f : Int) (F2 : Nat → Int) (A2 : Nat → Int → Int) (t9 : Int × Int × Int), ((7 - f).toNat) = n9 → ∀ (hf : 2 ≤ f ∧ f ≤ 7) (hF2 : frF [16, 24, 25, 27, 28, 29, 30, 34, 35, 36, 37, 38] (uF F 0 0) F2) (hA2 : frA [8, 9, 10, 11, 12, 13, 14, 15, 16, 17, 18] A A2) (x38b : F2 38 = 0 ∨ F2 38 = 1) (ht : suF (A 1) d k s9 (f - 2).toNat = t9), GG Γ M_X10_suits QF9 (0, 0) (mst Γ h F2 A2) 37 [some (.ref (g_L Γ 0)), some (.int (iN d)), some (.int (iN t9.2.2)), some (.int (iN t9.1)), some (.int (iN t9.2.1)), some (.int (iN k)), some (.int (iN f)), none, none, none] [] := by
            intro n9
            induction n9 using Nat.strongRecOn with
            | ind n9 ih_37 => 
              intro f F2 A2 t9 hm9 hf hF2 hA2 x38b ht
              have to := suF_O N (d := d) (k := k) ⟨by omega, by omega⟩ hn9 so (f - 2).toNat (by omega)
              rw [ht] at to
              obtain ⟨to1, to2⟩ := to
              refine gg_iload dX10_suits_37 rfl ?_
              refine gi_bipush dX10_suits_39 (by decide) ?_
              refine gi_icmp_gt (tgt := 176) dX10_suits_41 (by decide) ⟨by omega, by omega⟩ ⟨by omega, by omega⟩ (fun c_41 => ?_) (fun c_41 => ?_)
              · refine gi_iinc dX10_suits_176 rfl (Nat.le_of_ble_eq_true rfl) rfl ?_
                refine gg_goto (tgt := 28) dX10_suits_179 (by decide) ?_
                refine gg_drop 6 ?_
                refine gg_drop 7 ?_
                refine gg_drop 8 ?_
                refine gg_drop 9 ?_
                exact ih_28 _ (by omega) (k + 1) F2 A2 t9 rfl (by omega) hF2 hA2 x38b (by rw [show (k + 1).toNat = k.toNat + 1 by omega, suK, hs, Int.toNat_of_nonneg hk.1, ← ht, show (f - 2).toNat = 5 by omega])
              · refine gi_iconst dX10_suits_44 ?_
                refine gg_istore dX10_suits_45 (Nat.le_of_ble_eq_true rfl) rfl ?_
                refine gi_iconst dX10_suits_47 ?_
                refine gg_istore dX10_suits_48 (Nat.le_of_ble_eq_true rfl) rfl ?_
                refine gi_iconst dX10_suits_50 ?_
                refine gg_istore dX10_suits_51 (Nat.le_of_ble_eq_true rfl) rfl ?_
                have L_53 : ∀ (n9 : Nat) (l : Int) (F3 : Nat → Int) (A3 : Nat → Int → Int) (v9 : Int × Int), ((A 1 (5 + d) - l).toNat) = n9 → ∀ (hl : 0 ≤ l ∧ l ≤ A 1 (5 + d)) (hF3 : frF [16, 24, 25, 27, 28, 29, 30, 34, 35, 36, 37, 38] (uF F 0 0) F3) (hA3 : frA [8, 9, 10, 11, 12, 13, 14, 15, 16, 17, 18] A A3) (x38c : F3 38 = 0 ∨ F3 38 = 1) (hv : suL (A 1) d k f l.toNat = v9), GG Γ M_X10_suits QF9 (0, 0) (mst Γ h F3 A3) 53 [some (.ref (g_L Γ 0)), some (.int (iN d)), some (.int (iN t9.2.2)), some (.int (iN t9.1)), some (.int (iN t9.2.1)), some (.int (iN k)), some (.int (iN f)), some (.int (iN v9.1)), some (.int (iN v9.2)), some (.int (iN l))] [] := by
                  intro n9
                  induction n9 using Nat.strongRecOn with
                  | ind n9 ih_53 => 
                    intro l F3 A3 v9 hm9 hl hF3 hA3 x38c hv
                    have g3 : A3 1 = A 1 := hA3 1 (by decide)
                    have ev := suL_r (a := A 1) (d := d) (k := k) (f := f) N ⟨by omega, by omega⟩ ⟨by omega, by omega⟩ l.toNat (by omega)
                    rw [hv] at ev
                    refine gg_iload dX10_suits_53 rfl ?_
                    refine gg_aload_n dX10_suits_55 rfl rfl ?_
                    refine gm_get13 rfl dX10_suits_56 ?_
                    refine gi_iconst dX10_suits_59 ?_
                    refine gg_iload_n dX10_suits_60 rfl ?_
                    refine gi_iadd dX10_suits_61 ?_
                    refine gm_iald dX10_suits_62 (by decide) rfl (by decide) ⟨by omega, by simp only [ml9]; omega⟩ (congrFun g3 _) ?_
                    refine gi_icmp_ge (tgt := 127) dX10_suits_63 (by decide) ⟨by omega, by omega⟩ ⟨by omega, by omega⟩ (fun c_63 => ?_) (fun c_63 => ?_)
                    · have ef : (f + 1 - 2).toNat = (f - 2).toNat + 1 := by omega
                      have elv : l.toNat = (A 1 (5 + d)).toNat := by omega
                      have L_170 : ∀ (u9 : Int × Int × Int) (hu : suF (A 1) d k s9 (f + 1 - 2).toNat = u9), GG Γ M_X10_suits QF9 (0, 0) (mst Γ h F3 A3) 170 [some (.ref (g_L Γ 0)), some (.int (iN d)), some (.int (iN u9.2.2)), some (.int (iN u9.1)), some (.int (iN u9.2.1)), some (.int (iN k)), some (.int (iN f)), none, none, none] [] := by
                        intro u9 hu
                        refine gi_iinc dX10_suits_170 rfl (Nat.le_of_ble_eq_true rfl) rfl ?_
                        refine gg_goto (tgt := 37) dX10_suits_173 (by decide) ?_
                        refine gg_drop 7 ?_
                        refine gg_drop 8 ?_
                        refine gg_drop 9 ?_
                        exact ih_37 _ (by omega) (f + 1) F3 A3 u9 rfl (by omega) hF3 hA3 x38c hu
                      refine gg_iload dX10_suits_127 rfl ?_
                      refine gi_if_eq (tgt := 170) dX10_suits_129 (by decide) ⟨by omega, by omega⟩ (fun c_129 => ?_) (fun c_129 => ?_)
                      · refine gg_drop 7 ?_
                        refine gg_drop 8 ?_
                        refine gg_drop 9 ?_
                        exact L_170 t9 (by rw [ef, suF, ht, show (((f - 2).toNat : Nat) : Int) + 2 = f by omega, ← elv, hv, su1, if_pos (by omega)])
                      · refine gg_iload dX10_suits_132 rfl ?_
                        refine gg_iload_n dX10_suits_134 rfl ?_
                        refine gi_icmp_lt (tgt := 170) dX10_suits_135 (by decide) ⟨by omega, by omega⟩ ⟨by omega, by omega⟩ (fun c_135 => ?_) (fun c_135 => ?_)
                        · refine gg_drop 7 ?_
                          refine gg_drop 8 ?_
                          refine gg_drop 9 ?_
                          exact L_170 t9 (by rw [ef, suF, ht, show (((f - 2).toNat : Nat) : Int) + 2 = f by omega, ← elv, hv, su1, if_pos (by omega)])
                        · refine gg_iload dX10_suits_138 rfl ?_
                          refine gg_iload_n dX10_suits_140 rfl ?_
                          refine gi_icmp_ne (tgt := 154) dX10_suits_141 (by decide) ⟨by omega, by omega⟩ ⟨by omega, by omega⟩ (fun c_141 => ?_) (fun c_141 => ?_)
                          · refine gg_iload dX10_suits_154 rfl ?_
                            refine gg_istore_n dX10_suits_156 (Nat.le_of_ble_eq_true rfl) rfl ?_
                            refine gg_iload dX10_suits_157 rfl ?_
                            refine gg_istore dX10_suits_159 (Nat.le_of_ble_eq_true rfl) rfl ?_
                            refine gi_bipush dX10_suits_161 (by decide) ?_
                            refine gg_iload dX10_suits_163 rfl ?_
                            refine gi_imul dX10_suits_165 ?_
                            refine gg_iload dX10_suits_166 rfl ?_
                            refine gi_iadd dX10_suits_168 ?_
                            refine gg_istore_n dX10_suits_169 (Nat.le_of_ble_eq_true rfl) rfl ?_
                            refine gg_drop 7 ?_
                            refine gg_drop 8 ?_
                            refine gg_drop 9 ?_
                            exact gg_conv (L_170 (v9.1, v9.2, 10 * k + f) (by rw [ef, suF, ht, show (((f - 2).toNat : Nat) : Int) + 2 = f by omega, ← elv, hv, su1, if_neg (by omega)])) rfl rfl rfl
                          · refine gg_iload dX10_suits_144 rfl ?_
                            refine gg_iload dX10_suits_146 rfl ?_
                            refine gi_icmp_lt (tgt := 154) dX10_suits_148 (by decide) ⟨by omega, by omega⟩ ⟨by omega, by omega⟩ (fun c_148 => ?_) (fun c_148 => ?_)
                            · refine gg_iload dX10_suits_154 rfl ?_
                              refine gg_istore_n dX10_suits_156 (Nat.le_of_ble_eq_true rfl) rfl ?_
                              refine gg_iload dX10_suits_157 rfl ?_
                              refine gg_istore dX10_suits_159 (Nat.le_of_ble_eq_true rfl) rfl ?_
                              refine gi_bipush dX10_suits_161 (by decide) ?_
                              refine gg_iload dX10_suits_163 rfl ?_
                              refine gi_imul dX10_suits_165 ?_
                              refine gg_iload dX10_suits_166 rfl ?_
                              refine gi_iadd dX10_suits_168 ?_
                              refine gg_istore_n dX10_suits_169 (Nat.le_of_ble_eq_true rfl) rfl ?_
                              refine gg_drop 7 ?_
                              refine gg_drop 8 ?_
                              refine gg_drop 9 ?_
                              exact gg_conv (L_170 (v9.1, v9.2, 10 * k + f) (by rw [ef, suF, ht, show (((f - 2).toNat : Nat) : Int) + 2 = f by omega, ← elv, hv, su1, if_neg (by omega)])) rfl rfl rfl
                            · refine gg_goto (tgt := 170) dX10_suits_151 (by decide) ?_
                              refine gg_drop 7 ?_
                              refine gg_drop 8 ?_
                              refine gg_drop 9 ?_
                              exact L_170 t9 (by rw [ef, suF, ht, show (((f - 2).toNat : Nat) : Int) + 2 = f by omega, ← elv, hv, su1, if_pos (by omega)])
                    · have L_121 : ∀ (F4 : Nat → Int) (A4 : Nat → Int → Int) (w9 : Int × Int) (hF4 : frF [16, 24, 25, 27, 28, 29, 30, 34, 35, 36, 37, 38] (uF F 0 0) F4) (hA4 : frA [8, 9, 10, 11, 12, 13, 14, 15, 16, 17, 18] A A4) (x38d : F4 38 = 0 ∨ F4 38 = 1) (hw : suL (A 1) d k f (l + 1).toNat = w9), GG Γ M_X10_suits QF9 (0, 0) (mst Γ h F4 A4) 121 [some (.ref (g_L Γ 0)), some (.int (iN d)), some (.int (iN t9.2.2)), some (.int (iN t9.1)), some (.int (iN t9.2.1)), some (.int (iN k)), some (.int (iN f)), some (.int (iN w9.1)), some (.int (iN w9.2)), some (.int (iN l))] [] := by
                        intro F4 A4 w9 hF4 hA4 x38d hw
                        refine gi_iinc dX10_suits_121 rfl (Nat.le_of_ble_eq_true rfl) rfl ?_
                        refine gg_goto (tgt := 53) dX10_suits_124 (by decide) ?_
                        exact ih_53 _ (by omega) (l + 1) F4 A4 w9 rfl (by omega) hF4 hA4 x38d hw
                      refine gg_aload_n dX10_suits_66 rfl rfl ?_
                      refine gg_iload_n dX10_suits_67 rfl ?_
                      refine gg_iload dX10_suits_68 rfl ?_
                      refine gc_X10_294 rfl dX10_suits_70 ⟨(Nat.le_of_ble_eq_true rfl), (Nat.le_of_ble_eq_true rfl)⟩ ⟨(Nat.le_of_ble_eq_true rfl), (Nat.le_of_ble_eq_true rfl)⟩ (Nat.le_of_ble_eq_true rfl) (HAt.mu rfl) (c2_laysLine (F := F3) (A := A3) (by rw [g3]; exact S) (by rw [g3]; exact N) (by rw [g3]; exact E9) ⟨by omega, by omega⟩ (by rw [g3]; omega)) (fun _ _ w => w.elim) (fun r_70 h_70 hp => ?_)
                      obtain ⟨F5, A5, rfl, rfl, hF5, hA5, hL⟩ := hp
                      rw [g3] at hL
                      have y38 : F5 38 = 0 ∨ F5 38 = 1 := by rw [hF5 38 (by decide)]; exact x38c
                      refine gg_aload_n dX10_suits_73 rfl rfl ?_
                      refine gg_iload dX10_suits_74 rfl ?_
                      refine gg_iload dX10_suits_76 rfl ?_
                      refine gi_iconst dX10_suits_78 ?_
                      refine gc_X10_270 rfl dX10_suits_79 ⟨(Nat.le_of_ble_eq_true rfl), (Nat.le_of_ble_eq_true rfl)⟩ ⟨(Nat.le_of_ble_eq_true rfl), (Nat.le_of_ble_eq_true rfl)⟩ (Nat.le_of_ble_eq_true rfl) (HAt.mu rfl) (c_X10_by) (fun _ _ w => w.elim) (fun r_79 h_79 hp => ?_)
                      obtain ⟨rfl, rfl⟩ := hp
                      refine gg_aload_n dX10_suits_82 rfl rfl ?_
                      refine gc_X10_300 rfl dX10_suits_83 ⟨(Nat.le_of_ble_eq_true rfl), (Nat.le_of_ble_eq_true rfl)⟩ ⟨(Nat.le_of_ble_eq_true rfl), (Nat.le_of_ble_eq_true rfl)⟩ (Nat.le_of_ble_eq_true rfl) (HAt.mu rfl) (c_X10_finds (F := (uF (uF (uF F5 27 k) 28 f) 29 0)) (A := A5) (by simp only [uF_s, uF_n, uF_ss, uF_cc, id_eq, ne_eq, not_false_eq_true, Nat.reduceEqDiff, Nat.reduceLT, reduceCtorEq]; omega) (by simp only [uF_s, uF_n, uF_ss, uF_cc, id_eq, ne_eq, not_false_eq_true, Nat.reduceEqDiff, Nat.reduceLT, reduceCtorEq]; omega) (by simp only [uF_s, uF_n, uF_ss, uF_cc, id_eq, ne_eq, not_false_eq_true, Nat.reduceEqDiff, Nat.reduceLT, reduceCtorEq]; omega) (LW_fr (by simp only [uF_s, uF_n, uF_ss, uF_cc, id_eq, ne_eq, not_false_eq_true, Nat.reduceEqDiff, Nat.reduceLT, reduceCtorEq]) rfl rfl rfl rfl rfl hL.1) (by simp only [uF_s, uF_n, uF_ss, uF_cc, id_eq, ne_eq, not_false_eq_true, Nat.reduceEqDiff, Nat.reduceLT, reduceCtorEq]; exact y38)) (fun _ _ w => w.elim) (fun r_83 h_83 hp => ?_)
                      obtain ⟨F6, A6, rfl, rfl, hF6, hA6, ok6, hb6⟩ := hp
                      simp only [uF_s, uF_n, uF_ss, uF_cc, id_eq, ne_eq, not_false_eq_true, Nat.reduceEqDiff, Nat.reduceLT, reduceCtorEq] at hb6
                      rw [bN_F (F := F5) (by simp only [uF_s, uF_n, uF_ss, uF_cc, id_eq, ne_eq, not_false_eq_true, Nat.reduceEqDiff, Nat.reduceLT, reduceCtorEq]), pls_fr (F := F5) (A := A5) (by simp only [uF_s, uF_n, uF_ss, uF_cc, id_eq, ne_eq, not_false_eq_true, Nat.reduceEqDiff, Nat.reduceLT, reduceCtorEq]) rfl rfl rfl] at hb6
                      have hq6 := bsC_e S N E9 ⟨by omega, by omega⟩ ⟨by omega, by omega⟩ hL (kd := k) (cs := 0) (x := F5 36) (y := F5 38) (show 2 ≤ f ∧ f ≤ 6 by omega) ⟨by omega, by omega⟩
                      rw [← hb6] at hq6
                      have b6 : F6 34 = (bsC (A 1) d l k f 0).1 := hq6.1
                      obtain ⟨o1, o2, o3⟩ := id ok6
                      dsimp only [bof] at o1 o2 o3
                      rw [b6] at o1
                      have fF6 : frF [16, 24, 25, 27, 28, 29, 30, 34, 35, 36, 37, 38] (uF F 0 0) F6 := by
                        intro j hj
                        have q1 : j ∉ [30, 34, 35, 36, 37, 38] := fun q => hj (by revert q; simp; omega)
                        have q2 : j ∉ [16, 24, 25] := fun q => hj (by revert q; simp; omega)
                        have q3 : j ≠ 27 ∧ j ≠ 28 ∧ j ≠ 29 := by refine ⟨?_, ?_, ?_⟩ <;> (intro e9; subst e9; exact hj (by decide))
                        rw [hF6 j q1, uF_n q3.2.2, uF_n q3.2.1, uF_n q3.1, hF5 j q2, hF3 j hj]
                      have fA6 : frA [8, 9, 10, 11, 12, 13, 14, 15, 16, 17, 18] A A6 := fun j hj => by rw [hA6 j (fun q => hj (by revert q; simp; omega)), hA5 j (fun q => hj (by revert q; simp; omega)), hA3 j hj]
                      have g6 : A6 1 = A 1 := fA6 1 (by decide)
                      have el : (l + 1).toNat = l.toNat + 1 := by omega
                      refine gg_aload_n dX10_suits_86 rfl rfl ?_
                      refine gm_get115 rfl dX10_suits_87 b6 ?_
                      refine gi_if_lt (tgt := 121) dX10_suits_90 (by decide) ⟨by omega, by omega⟩ (fun c_90 => ?_) (fun c_90 => ?_)
                      · exact L_121 F6 A6 v9 fF6 fA6 o3 (by rw [el, suL, Int.toNat_of_nonneg hl.1, if_pos (by omega)]; exact hv)
                      · refine gg_aload_n dX10_suits_93 rfl rfl ?_
                        refine gm_get115 rfl dX10_suits_94 b6 ?_
                        refine gg_aload_n dX10_suits_97 rfl rfl ?_
                        refine gm_get13 rfl dX10_suits_98 ?_
                        refine gi_iconst dX10_suits_101 ?_
                        refine gm_iald dX10_suits_102 (by decide) rfl (by decide) ⟨by omega, by simp only [ml9]; omega⟩ (congrFun g6 _) ?_
                        refine gi_icmp_le (tgt := 109) dX10_suits_103 (by decide) ⟨by omega, by omega⟩ ⟨by omega, by omega⟩ (fun c_103 => ?_) (fun c_103 => ?_)
                        · refine gi_iinc dX10_suits_109 rfl (Nat.le_of_ble_eq_true rfl) rfl ?_
                          refine gg_iload dX10_suits_112 rfl ?_
                          refine gg_aload_n dX10_suits_114 rfl rfl ?_
                          refine gm_get115 rfl dX10_suits_115 b6 ?_
                          refine gi_iadd dX10_suits_118 ?_
                          refine gg_istore dX10_suits_119 (Nat.le_of_ble_eq_true rfl) rfl ?_
                          exact gg_conv (L_121 F6 A6 (v9.1 + 1, v9.2 + (bsC (A 1) d l k f 0).1) fF6 fA6 o3 (by rw [el, suL, Int.toNat_of_nonneg hl.1, if_neg (by omega), hv])) rfl rfl rfl
                        · refine gg_goto (tgt := 121) dX10_suits_106 (by decide) ?_
                          exact L_121 F6 A6 v9 fF6 fA6 o3 (by rw [el, suL, Int.toNat_of_nonneg hl.1, if_pos (by omega)]; exact hv)
                exact L_53 _ 0 F2 A2 (0, 0) rfl (by omega) hF2 hA2 x38b rfl
          refine gg_drop 7 ?_
          refine gg_drop 8 ?_
          refine gg_drop 9 ?_
          exact L_37 _ 2 F1 A1 s9 rfl (by omega) hF hA x38a rfl
    refine gg_drop 6 ?_
    refine gg_drop 7 ?_
    refine gg_drop 8 ?_
    refine gg_drop 9 ?_
    exact L_28 _ 0 (uF F 0 0) A (0, 0, 0) rfl (by omega) (fun _ _ => rfl) (fun _ _ => rfl) (by simp only [uF_s, uF_n, uF_ss, uF_cc, id_eq, ne_eq, not_false_eq_true, Nat.reduceEqDiff, Nat.reduceLT, reduceCtorEq]; exact h38) rfl
  · rw [bi_f] at c_9
    simp at c_9
    refine gg_aload_n dX10_suits_12 rfl rfl ?_
    refine gi_iconst dX10_suits_13 ?_
    refine gc_X10_162 rfl dX10_suits_14 ⟨(Nat.le_of_ble_eq_true rfl), (Nat.le_of_ble_eq_true rfl)⟩ ⟨(Nat.le_of_ble_eq_true rfl), (Nat.le_of_ble_eq_true rfl)⟩ (Nat.le_of_ble_eq_true rfl) (HAt.mu rfl) (c_X10_fails) (fun _ _ w => w.elim) (fun r_14 h_14 hp => ?_)
    obtain ⟨rfl, rfl⟩ := hp
    subst hQF9
    refine gg_iret dX10_suits_17 rfl rfl ⟨(Nat.le_of_ble_eq_true rfl), (Nat.le_of_ble_eq_true rfl)⟩ ?_
    exact Or.inl ⟨by omega, rfl, by rw [uF_ss]⟩
