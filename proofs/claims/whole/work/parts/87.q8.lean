/-! the lines of the numbers: as the class and as the reference have them -/
def fA9 (a : Int → Int) (d l : Int) : Int → Int := fun k => a (169 + 61 * (10 * d + l) + 1 + k)
def nA9 (a : Int → Int) (d l : Int) : Int := a (169 + 61 * (10 * d + l))
def DA9 (a : Int → Int) (d l kd ft c9 : Int) : DT := dtA a (fA9 a d l) (nA9 a d l) kd ft c9
theorem exO_sh {a r : Int → Int} {q n : Int} : exO a (fun k => r (q + k)) 0 n = exO a r q n := by
  have hE : ∀ e, exE a (fun k => r (q + k)) 0 n e = exE a r q n e := fun e => by
    unfold exE
    rw [show (fun k => (fun k => r (q + k)) (0 + k)) = (fun k => r (q + k)) by funext k; simp]
  have hF : ∀ (m : Nat) (e : Int), exF a (fun k => r (q + k)) 0 n m e = exF a r q n m e := by
    intro m
    induction m with
    | zero => intro e; rfl
    | succ m ih => intro e; rw [exF, exF, hE, ih]
  exact hF _ _
theorem syE_sh {a : Int → Int} {q n : Int} : syE a (fun k => a (q + k)) n = wSy a q n := by unfold syE wSy; rw [exO_sh]
theorem mkE_sh {a : Int → Int} {q n : Int} : mkE a (fun k => a (q + k)) n = mrk a (exO a a q n) (wSy a q n) := by unfold mkE; rw [exO_sh, syE_sh]
theorem rsE_sh {a : Int → Int} {q n : Int} : rsE a (fun k => a (q + k)) n = cfr a q n := by
  unfold rsE cfr bhE bhd; rw [mkE_sh, syE_sh]
theorem pwL_c {a : Int → Int} {d l : Int} : pwL (fA9 a d l) (nA9 a d l) = ((lnW a d l).length : Int) := rfl
theorem pwN_c {a : Int → Int} {d l i : Int} : pwN (fA9 a d l) (nA9 a d l) i = nwi a d l i := rfl
theorem pwC_c {a : Int → Int} {d l i : Int} : pwC (fA9 a d l) (nA9 a d l) i = (wdi a d l i).2.2 := rfl
theorem pwP_c {a : Int → Int} {d l i : Int} : 169 + 61 * (10 * d + l) + 1 + pwP (fA9 a d l) (nA9 a d l) i = qwi a d l i := rfl
theorem fw_c {a : Int → Int} {d l i : Int} : fw (fA9 a d l) (nA9 a d l) i = fun k => a (qwi a d l i + k) := by
  funext k
  show a (169 + 61 * (10 * d + l) + 1 + (pwP (fA9 a d l) (nA9 a d l) i + k)) = _
  rw [← Int.add_assoc, pwP_c]
theorem sI_c {a : Int → Int} {d l i : Int} : sI a (fA9 a d l) (nA9 a d l) i = wSy a (qwi a d l i) (nwi a d l i) := by unfold sI; rw [fw_c, pwN_c, syE_sh]
theorem mI_c {a : Int → Int} {d l i : Int} : mI a (fA9 a d l) (nA9 a d l) i = mrk a (exO a a (qwi a d l i) (nwi a d l i)) (wSy a (qwi a d l i) (nwi a d l i)) := by unfold mI; rw [fw_c, pwN_c, mkE_sh]
theorem xI_c {a : Int → Int} {d l i : Int} : xI a (fA9 a d l) (nA9 a d l) i = exO a a (qwi a d l i) (nwi a d l i) := by unfold xI; rw [fw_c, pwN_c, exO_sh]
theorem wSy_6 {a : Int → Int} {q n : Int} (S : StA a) (E9 : ExA a) (hn : 1 ≤ n ∧ n ≤ 12) : 1 ≤ wSy a q n ∧ wSy a q n ≤ 6 := by
  unfold wSy
  split
  · exact ⟨(wC_r hn).1, wC_6 hn⟩
  · have r := exO_r (a := a) (r := a) (fr := q) (n := n) S.2.2.2.2.1.1
    exact (E9 _ (by omega) (by omega)).2.1
/-- the words of a line as LD has them -/
theorem LD_w {a : Int → Int} {d l : Int} {F : Nat → Int} {A : Nat → Int → Int} (L : LD a d l F A) {w : Int} (w0 : 0 ≤ w) (w1 : w < F 16) : WDq a A w (qwi a d l w) (nwi a d l w) (wdi a d l w).2.2 := by
  have h := L.2.1
  have hg : (lnW a d l)[w.toNat]? = some (wdi a d l w) := by
    unfold wdi
    rw [List.getElem?_eq_getElem (by omega)]; rfl
  have := L.2.2 w.toNat (wdi a d l w).1 (wdi a d l w).2.1 (wdi a d l w).2.2 hg
  rw [Int.toNat_of_nonneg w0] at this
  exact this
theorem LK_LD {a : Int → Int} {d l : Int} {F : Nat → Int} {A : Nat → Int → Int} (S : StA a) (N : LnA a) (E9 : ExA a) (hd : 0 ≤ d ∧ d ≤ 3) (hl : 0 ≤ l ∧ l < a (5 + d)) (L : LD a d l F A) {kd ft c9 : Int} : LK F A (DA9 a d l kd ft c9) := by
  have h := L.2.1
  have hL := L.1.1
  have eL : dL (DA9 a d l kd ft c9) = F 16 := by rw [h]; rfl
  refine ⟨eL.symm, by rw [eL]; exact hL, fun w w0 w1 => ?_, ?_⟩
  · rw [eL] at w1
    obtain ⟨q1, q2, q3, q4, q5, q6, q7, q8⟩ := LD_w L w0 w1
    have hn : 1 ≤ nwi a d l w ∧ nwi a d l w ≤ 12 := by
      have hg : (lnW a d l)[w.toNat]? = some ((wdi a d l w).1, (wdi a d l w).2.1, (wdi a d l w).2.2) := by
        unfold wdi
        rw [List.getElem?_eq_getElem (by omega)]; rfl
      exact (lnW_w N hd hl hg).2.1
    have es : dS (DA9 a d l kd ft c9) w = wSy a (qwi a d l w) (nwi a d l w) := sI_c
    have em : dM (DA9 a d l kd ft c9) w = mrk a (exO a a (qwi a d l w) (nwi a d l w)) (wSy a (qwi a d l w) (nwi a d l w)) := mI_c
    have r6 := wSy_6 (q := qwi a d l w) S E9 hn
    refine ⟨by rw [es]; exact r6, by rw [q7, es], q4, ?_, fun k k0 k1 => ?_⟩
    · show eln F A w = (decide (w + 1 < pwL (fA9 a d l) (nA9 a d l)) && (!(wdi a d l w).2.2 && wE (fw (fA9 a d l) (nA9 a d l) w) (nwi a d l w) && vow (fw (fA9 a d l) (nA9 a d l) (w + 1) 0)))
      unfold eln
      rw [pwL_c, ← h, fw_c, fw_c, q4, q6]
      by_cases c : w + 1 < F 16
      · obtain ⟨p1, p2, p3, p4, p5, p6, p7, p8⟩ := LD_w L (w := w + 1) (by omega) c
        rw [p5, decide_eq_true c, Bool.true_and]
        dsimp only
        rw [Int.add_zero]
        cases (wdi a d l w).2.2 <;> cases wE (fun k => a (qwi a d l w + k)) (nwi a d l w) <;> cases vow (a (qwi a d l (w + 1))) <;> simp [bi, c]
      · rw [decide_eq_false c, Bool.false_and, decide_eq_false_iff_not]
        exact fun q => c q.1
    · rw [es] at k1
      have r := (L.1.2 w w0 w1).2.2.2.2 k k0 (by rw [q7]; exact k1)
      rw [q8 k k0 k1] at r
      rw [em]
      exact ⟨q8 k k0 k1, r⟩
  · show (decide (dL (DA9 a d l kd ft c9) - 1 + 1 < pwL (fA9 a d l) (nA9 a d l)) && _) = false
    rw [decide_eq_false (show ¬ (dL (DA9 a d l kd ft c9) - 1 + 1 < pwL (fA9 a d l) (nA9 a d l)) by rw [pwL_c, ← h, eL]; omega)]; rfl
theorem ally_D {F : Nat → Int} {A : Nat → Int → Int} {D : DT} (K : LK F A D) : ∀ k : Nat, (k : Int) ≤ dL D → ally A k = smS (dS D) k
  | 0, _ => rfl
  | k + 1, hk => by rw [ally, smS, ally_D K k (by omega), (K.2.2.1 k (by omega) (by omega)).2.1]
theorem btc_pl {e : Int → Bool} {L : Nat} : ∀ k : Nat, k ≤ L → btc ((plN e L : Nat) : Int) k = smS (fun i => bi (e i)) k
  | 0, _ => rfl
  | k + 1, hk => by rw [btc, smS, btc_pl k (by omega), plN_bit (by omega)]
theorem cmm_D {F : Nat → Int} {A : Nat → Int → Int} {D : DT} (K : LK F A D) : ∀ k : Nat, (k : Int) ≤ dL D → cmm A k = smS (fun i => bi (dC D i)) k
  | 0, _ => rfl
  | k + 1, hk => by
    rw [cmm, smS, cmm_D K k (by omega), (K.2.2.1 k (by omega) (by omega)).2.2.1]
    congr 1
    cases dC D k <;> rfl
theorem lwP_c {a : Int → Int} {d l : Int} (h : 1 ≤ (lnW a d l).length) : qwi a d l (((lnW a d l).length : Int) - 1) = lwP a d l ∧ nwi a d l (((lnW a d l).length : Int) - 1) = lwN a d l := by
  unfold qwi nwi lwP lwN wdi lsW
  rw [show (((lnW a d l).length : Int) - 1).toNat = (lnW a d l).length - 1 by omega]
  exact ⟨rfl, rfl⟩
theorem lwG_c {a : Int → Int} {d l : Int} (h : 1 ≤ (lnW a d l).length) : lwG (fA9 a d l) (nA9 a d l) = fun k => a (lwP a d l + k) := by
  have := fw_c (a := a) (d := d) (l := l) (i := ((lnW a d l).length : Int) - 1)
  rw [(lwP_c h).1] at this
  exact this
theorem lwZ_c {a : Int → Int} {d l : Int} (h : 1 ≤ (lnW a d l).length) : lwZ (fA9 a d l) (nA9 a d l) = lwN a d l := (lwP_c h).2
theorem rsE_c {a : Int → Int} {d l : Int} (h : 1 ≤ (lnW a d l).length) : rsE a (lwG (fA9 a d l) (nA9 a d l)) (lwZ (fA9 a d l) (nA9 a d l)) = cfr a (lwP a d l) (lwN a d l) := by rw [lwG_c h, lwZ_c h, rsE_sh]
theorem rhM_c {a : Int → Int} {d l : Int} (h : 1 ≤ (lnW a d l).length) : lwZ (fA9 a d l) (nA9 a d l) - bi (wS (lwG (fA9 a d l) (nA9 a d l)) (lwZ (fA9 a d l) (nA9 a d l))) - rsE a (lwG (fA9 a d l) (nA9 a d l)) (lwZ (fA9 a d l) (nA9 a d l)) = rhM a d l := by
  rw [rsE_c h, lwG_c h, lwZ_c h]; unfold rhM; omega
/-- the numbers of a line -/
theorem lnV_D {a : Int → Int} {d l : Int} {F : Nat → Int} {A : Nat → Int → Int} (S : StA a) (N : LnA a) (E9 : ExA a) (hd : 0 ≤ d ∧ d ≤ 3) (hl : 0 ≤ l ∧ l < a (5 + d)) (L : LD a d l F A) {c5 w : Int} :
    lnV a (fA9 a d l) (nA9 a d l) c5 w = if w = 0 then F 16 else if w = 1 then ally A (F 16).toNat else if w = 2 then pls F A else if w = 3 then mst9 F A else if w = 4 then cmm A (F 16).toNat else if w = 5 then c5 else rhM a d l := by
  have K := LK_LD (kd := 0) (ft := 2) (c9 := 0) S N E9 hd hl L
  have h := L.2.1
  have hL := L.1.1
  have k1 := K.2.1
  unfold lnV
  by_cases w0 : w = 0
  · rw [if_pos w0, if_pos w0, h]; rfl
  rw [if_neg w0, if_neg w0]
  have eL : dL (DA9 a d l 0 2 0) = F 16 := K.1.symm
  by_cases w1 : w = 1
  · rw [if_pos w1, if_pos w1, ally_D K (F 16).toNat (by omega), ← eL]; rfl
  rw [if_neg w1, if_neg w1]
  by_cases w2 : w = 2
  · rw [if_pos w2, if_pos w2, pls_D K]; rfl
  rw [if_neg w2, if_neg w2]
  by_cases w3 : w = 3
  · rw [if_pos w3, if_pos w3, mst_D K]; rfl
  rw [if_neg w3, if_neg w3]
  by_cases w4 : w = 4
  · rw [if_pos w4, if_pos w4, cmm_D K (F 16).toNat (by omega), ← eL]
    have lt := plN_lt (pwC (fA9 a d l) (nA9 a d l)) (pwL (fA9 a d l) (nA9 a d l)).toNat
    have e1 := btc_hi lt (12 - (pwL (fA9 a d l) (nA9 a d l)).toNat)
    have e2 : pwL (fA9 a d l) (nA9 a d l) = dL (DA9 a d l 0 2 0) := rfl
    rw [show (pwL (fA9 a d l) (nA9 a d l)).toNat + (12 - (pwL (fA9 a d l) (nA9 a d l)).toNat) = 12 by rw [e2]; omega] at e1
    rw [e1, btc_pl _ (Nat.le_refl _)]; rfl
  rw [if_neg w4, if_neg w4]
  by_cases w5 : w = 5
  · rw [if_pos w5, if_pos w5]
  rw [if_neg w5, if_neg w5]
  exact rhM_c (by omega)
theorem tld_cg {v w : Int → Int} : ∀ k : Nat, (∀ j : Int, 0 ≤ j → j < k → v j = w j) → tld v k = tld w k
  | 0, _ => rfl
  | k + 1, h => by rw [tld, tld, tld_cg k (fun j j0 j1 => h j j0 (by omega)), h k (by omega) (by omega)]
theorem wdV_D {a : Int → Int} {d l : Int} {F : Nat → Int} {A : Nat → Int → Int} (S : StA a) (N : LnA a) (E9 : ExA a) (hd : 0 ≤ d ∧ d ≤ 3) (hl : 0 ≤ l ∧ l < a (5 + d)) (L : LD a d l F A) {w u : Int} (w0 : 0 ≤ w) (w1 : w < F 16) :
    wdV a (fA9 a d l) (nA9 a d l) w u = if u = 0 then A 9 w else if u = 1 then wC (fun k => a (A 8 w + k)) (A 9 w) else if u = 2 then A 10 w else if u = 3 then A 12 w else if u = 4 then exO a a (A 8 w) (A 9 w) else tld (fun k => A 11 (12 * w + k)) (A 10 w).toNat := by
  obtain ⟨q1, q2, q3, q4, q5, q6, q7, q8⟩ := LD_w L w0 w1
  unfold wdV
  rw [q2, q3, q7, q4, fw_c, pwN_c, sI_c, pwC_c, xI_c, mI_c]
  repeat' split
  any_goals rfl
  exact tld_cg _ (fun j j0 j1 => (q8 j j0 (by omega)).symm)
