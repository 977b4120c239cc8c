/-! the reference: lines read, drafts changed -/
def parseL (f : Int → Int) (n : Int) : Nat → Int → Bool × Int × List (Int × Int × Bool)
  | 0, p => (false, p, [])
  | m + 1, p =>
    if wlen f n 12 p = 0 then (false, p, [])
    else if n ≤ p + wlen f n 12 p + bi (decide (p + wlen f n 12 p < n) && decide (f (p + wlen f n 12 p) = 44)) then (true, p + wlen f n 12 p + bi (decide (p + wlen f n 12 p < n) && decide (f (p + wlen f n 12 p) = 44)), [(p, wlen f n 12 p, decide (p + wlen f n 12 p < n) && decide (f (p + wlen f n 12 p) = 44))])
    else if f (p + wlen f n 12 p + bi (decide (p + wlen f n 12 p < n) && decide (f (p + wlen f n 12 p) = 44))) = 32 then
      ((parseL f n m (p + wlen f n 12 p + bi (decide (p + wlen f n 12 p < n) && decide (f (p + wlen f n 12 p) = 44)) + 1)).1, (parseL f n m (p + wlen f n 12 p + bi (decide (p + wlen f n 12 p < n) && decide (f (p + wlen f n 12 p) = 44)) + 1)).2.1, (p, wlen f n 12 p, decide (p + wlen f n 12 p < n) && decide (f (p + wlen f n 12 p) = 44)) :: (parseL f n m (p + wlen f n 12 p + bi (decide (p + wlen f n 12 p < n) && decide (f (p + wlen f n 12 p) = 44)) + 1)).2.2)
    else (false, p + wlen f n 12 p + bi (decide (p + wlen f n 12 p < n) && decide (f (p + wlen f n 12 p) = 44)), [(p, wlen f n 12 p, decide (p + wlen f n 12 p < n) && decide (f (p + wlen f n 12 p) = 44))])
/-- where the loop that reads a line stands: m words, the place p, whether there is more, whether there was an error -/
def plI (f : Int → Int) (n m p b e : Int) : Prop :=
  (b = 1 ∧ e = 0 ∧ (parseL f n 12 0).1 = (parseL f n (12 - m).toNat p).1 ∧ (parseL f n 12 0).2.1 = (parseL f n (12 - m).toNat p).2.1 ∧ ((parseL f n 12 0).2.2.length : Int) = m + (parseL f n (12 - m).toNat p).2.2.length) ∨
  (¬ (b = 1 ∧ e = 0) ∧ (parseL f n 12 0).1 = (decide (e = 0) && decide (n ≤ p)) ∧ (parseL f n 12 0).2.1 = p ∧ ((parseL f n 12 0).1 = true → ((parseL f n 12 0).2.2.length : Int) = m))
theorem wlen_stop (f : Int → Int) (n : Int) : ∀ (m : Nat) (p : Int), wlen f n m p = m ∨ ¬ (p + wlen f n m p < n ∧ isLet (f (p + wlen f n m p)) = true)
  | 0, p => Or.inl (by simp [wlen])
  | m + 1, p => by
    by_cases h : p < n ∧ isLet (f p) = true
    · have := wlen_stop f n m (p + 1)
      rw [wlen, if_pos h, show p + (1 + wlen f n m (p + 1)) = p + 1 + wlen f n m (p + 1) by omega]
      rcases this with q | q
      · exact Or.inl (by rw [q]; omega)
      · exact Or.inr q
    · rw [wlen, if_neg h, Int.add_zero]
      exact Or.inr h
theorem plI_step {f : Int → Int} {n m p w s1 e1 s2 : Int} {c : Bool} (I : plI f n m p 1 0) (hm : 0 ≤ m ∧ m < 12) (hw : w = wlen f n 12 p) (h1 : s1 = if p + w < n then f (p + w) else -1) (he : e1 = bi (decide (w = 0) || isLet s1))
    (hc : c = decide (e1 = 0 ∧ s1 = 44)) (h2 : s2 = if e1 = 0 ∧ p + w + bi c < n then f (p + w + bi c) else -1) : plI f n (m + 1) (p + w + bi c + bi (decide (s2 = 32))) (bi (decide (s2 = 32))) e1 := by
  have hr := wlen_r f n 12 p
  rw [← hw] at hr
  unfold plI at I ⊢
  generalize parseL f n 12 0 = R at I ⊢
  rcases I with ⟨-, -, I1, I2, I3⟩ | ⟨q, -⟩
  · rw [show (12 - m).toNat = (12 - (m + 1)).toNat + 1 by omega] at I1 I2 I3
    rw [parseL, ← hw] at I1 I2 I3
    by_cases hz : w = 0
    · have e : e1 = 1 := by rw [he]; simp [hz, bi]
      have ec : c = false := by rw [hc, e]; simp
      have e2 : s2 = -1 := by rw [h2, e]; simp
      rw [if_pos hz] at I1 I2 I3
      refine Or.inr ⟨by rw [e]; omega, by rw [I1, e]; simp, by rw [I2, ec, e2]; simp [bi, hz], fun q => by rw [I1] at q; cases q⟩
    · rw [if_neg hz] at I1 I2 I3
      by_cases hl : isLet s1 = true
      · have e : e1 = 1 := by rw [he, hl]; simp [bi]
        have ec : c = false := by rw [hc, e]; simp
        have e2 : s2 = -1 := by rw [h2, e]; simp
        have hlt : p + w < n := by
          rw [h1] at hl
          by_cases q : p + w < n
          · exact q
          · rw [if_neg q] at hl; simp [isLet] at hl
        rw [h1, if_pos hlt] at hl
        have n44 : ¬ f (p + w) = 44 := fun q => by rw [q] at hl; simp [isLet] at hl
        have n32 : ¬ f (p + w) = 32 := fun q => by rw [q] at hl; simp [isLet] at hl
        have d : (decide (p + w < n) && decide (f (p + w) = 44)) = false := by simp [n44]
        rw [d] at I1 I2 I3
        simp only [bi, Bool.false_eq_true, if_false, Int.add_zero] at I1 I2 I3
        rw [if_neg (by omega), if_neg n32] at I1 I2 I3
        refine Or.inr ⟨by rw [e]; omega, by rw [I1, e]; simp, by rw [I2, ec, e2]; simp [bi], fun q => by rw [I1] at q; cases q⟩
      · have e : e1 = 0 := by rw [he]; simp [hz, hl, bi]
        have ec : c = (decide (p + w < n) && decide (f (p + w) = 44)) := by
          rw [hc, e, h1]
          by_cases q : p + w < n
          · simp [q]
          · simp [q]
        rw [← ec] at I1 I2 I3
        have h2' : s2 = if p + w + bi c < n then f (p + w + bi c) else -1 := by rw [h2, e]; simp
        by_cases q1 : n ≤ p + w + bi c
        · rw [if_pos q1] at I1 I2 I3
          have e2 : s2 = -1 := by rw [h2', if_neg (by omega)]
          refine Or.inr ⟨by rw [e2]; simp [bi], by rw [I1, e, e2]; simp [bi]; simpa [bi] using q1, by rw [I2, e2]; simp [bi], fun _ => by rw [I3]; simp⟩
        · rw [if_neg q1] at I1 I2 I3
          have e2 : s2 = f (p + w + bi c) := by rw [h2', if_pos (by omega)]
          by_cases q2 : f (p + w + bi c) = 32
          · rw [if_pos q2] at I1 I2 I3
            have e3 : bi (decide (s2 = 32)) = 1 := by rw [e2, q2]; simp [bi]
            rw [e3]
            refine Or.inl ⟨rfl, e, I1, I2, by rw [I3]; simp; omega⟩
          · rw [if_neg q2] at I1 I2 I3
            have e3 : bi (decide (s2 = 32)) = 0 := by rw [e2, decide_eq_false q2]; rfl
            rw [e3]
            refine Or.inr ⟨by omega, by rw [I1, e]; simp; omega, by rw [I2, Int.add_zero], fun q => by rw [I1] at q; cases q⟩
  · exact absurd ⟨rfl, rfl⟩ q
theorem c_of {e1 x s1 s3 : Int} {P : Prop} [Decidable P] (h1 : s1 = if P then x else -1) (h3 : s3 = if e1 = 0 ∧ P then x else -1) : decide (s3 = 44) = decide (e1 = 0 ∧ s1 = 44) := by
  subst h1; subst h3
  by_cases z : e1 = 0 <;> by_cases y : P <;> simp [z, y]
theorem plI_end {f : Int → Int} {n m p b e : Int} (I : plI f n m p b e) (h : ¬ (b = 1 ∧ e = 0)) : (parseL f n 12 0).1 = (decide (e = 0) && decide (n ≤ p)) ∧ (parseL f n 12 0).2.1 = p ∧ ((parseL f n 12 0).1 = true → ((parseL f n 12 0).2.2.length : Int) = m) := by
  rcases I with ⟨q1, q2, -⟩ | ⟨-, q⟩
  · exact absurd ⟨q1, q2⟩ h
  · exact q
theorem plI_full {f : Int → Int} {n p : Int} (I : plI f n 12 p 1 0) : (parseL f n 12 0).1 = false ∧ (parseL f n 12 0).2.1 = p := by
  rcases I with ⟨-, -, q1, q2, -⟩ | ⟨q, -⟩
  · exact ⟨q1, q2⟩
  · exact absurd ⟨rfl, rfl⟩ q
theorem plI_0 {f : Int → Int} {n : Int} : plI f n 0 0 1 0 := Or.inl ⟨rfl, rfl, rfl, rfl, by simp⟩
set_option maxRecDepth 100000 in
set_option maxHeartbeats 4000000 in
theorem c_X10_isWrongLine {Γ : GT} {h : XH} {F : Nat → Int} {A : Nat → Int → Int} (h8 : 0 ≤ F 8 ∧ F 8 ≤ 60) (h10 : InR (F 10)) (i4 : ∀ i, 0 ≤ i ∧ i < F 8 → 0 ≤ A 5 i ∧ A 5 i < 65536) : Ct Γ M_X10_isWrongLine [.ref (g_L Γ 0)] (mst Γ h F A) (fun r h9 => ∃ m : Int, ((parseL (A 5) (F 8) 12 0).1 = true ∧ r = some (.int (iN 0)) ∧ m = (parseL (A 5) (F 8) 12 0).2.2.length ∧ h9 = mst Γ h (uF (uF (uF (uF (uF (uF F 0 0) 8 0) 9 (parseL (A 5) (F 8) 12 0).2.1) 11 0) 12 (F 8)) 13 m) A) ∨ ((parseL (A 5) (F 8) 12 0).1 = false ∧ r = some (.int (iN 1)) ∧ h9 = mst Γ h (uF (uF (uF (uF (uF (uF (uF F 0 0) 8 0) 9 (parseL (A 5) (F 8) 12 0).2.1) 10 (parseL (A 5) (F 8) 12 0).2.1) 11 1) 12 (F 8)) 13 m) A)) (fun _ _ => False) := by
  refine Ct.of rfl (by decide +kernel) (Nat.le_of_ble_eq_true rfl) ?_
  generalize hQF9 : QM Γ _ _ _ = QF9
  have L_115 : ∀ (m p e : Int) (hm : 0 ≤ m ∧ m ≤ 12) (hp9 : 0 ≤ p ∧ p ≤ F 8) (he : e = 0 ∨ e = 1) (J : (parseL (A 5) (F 8) 12 0).1 = (decide (e = 0) && decide (F 8 ≤ p)) ∧ (parseL (A 5) (F 8) 12 0).2.1 = p ∧ ((parseL (A 5) (F 8) 12 0).1 = true → ((parseL (A 5) (F 8) 12 0).2.2.length : Int) = m)), GG Γ M_X10_isWrongLine QF9 (0, 0) (mst Γ h (uF (uF (uF (uF F 0 0) 9 p) 11 e) 13 m) A) 115 [some (.ref (g_L Γ 0)), none, none, none] [] := by
    intro m p e hm hp9 he J
    refine gg_aload_n dX10_isWrongLine_115 rfl rfl ?_
    refine gc_X10_180 rfl dX10_isWrongLine_116 ⟨(Nat.le_of_ble_eq_true rfl), (Nat.le_of_ble_eq_true rfl)⟩ ⟨(Nat.le_of_ble_eq_true rfl), (Nat.le_of_ble_eq_true rfl)⟩ (Nat.le_of_ble_eq_true rfl) (HAt.mu rfl) (c_X10_isWrong (by refine ⟨?_, ?_, ?_, ?_⟩ <;> (try simp only [uF_s, uF_n, uF_ss, uF_cc, id_eq, ne_eq, not_false_eq_true, Nat.reduceEqDiff, Nat.reduceLT, reduceCtorEq]) <;> first | omega | assumption | exact bi_01 _ | simp) (by simp only [uF_s, uF_n, uF_ss, uF_cc, id_eq, ne_eq, not_false_eq_true, Nat.reduceEqDiff, Nat.reduceLT, reduceCtorEq]; exact h10)) (fun _ _ w => w.elim) (fun r_116 h_116 hp => ?_)
    simp only [uF_s, uF_n, uF_ss, uF_cc, id_eq, ne_eq, not_false_eq_true, Nat.reduceEqDiff, Nat.reduceLT, reduceCtorEq] at hp
    obtain ⟨j1, j2, j3⟩ := J
    rcases hp with ⟨q, rfl, rfl⟩ | ⟨q, rfl, rfl⟩
    · subst hQF9
      refine gg_iret dX10_isWrongLine_119 rfl (nar_bool (by omega)) ⟨(Nat.le_of_ble_eq_true rfl), (Nat.le_of_ble_eq_true rfl)⟩ ?_
      exact ⟨m, Or.inl ⟨by rw [j1]; simp; omega, rfl, (j3 (by rw [j1]; simp; omega)).symm, by rw [j2]⟩⟩
    · subst hQF9
      refine gg_iret dX10_isWrongLine_119 rfl (nar_bool (by omega)) ⟨(Nat.le_of_ble_eq_true rfl), (Nat.le_of_ble_eq_true rfl)⟩ ?_
      exact ⟨m, Or.inr ⟨by rw [j1]; simp; omega, rfl, by rw [j2]⟩⟩
  refine gg_aload_n dX10_isWrongLine_0 rfl rfl ?_
  refine gc_X10_174 rfl dX10_isWrongLine_1 ⟨(Nat.le_of_ble_eq_true rfl), (Nat.le_of_ble_eq_true rfl)⟩ ⟨(Nat.le_of_ble_eq_true rfl), (Nat.le_of_ble_eq_true rfl)⟩ (Nat.le_of_ble_eq_true rfl) (HAt.mu rfl) (c_X10_begins) (fun _ _ w => w.elim) (fun r_1 h_1 hp => ?_)
  obtain ⟨rfl, rfl⟩ := hp
  simp only [uF_s, uF_n, uF_ss, uF_cc, id_eq, ne_eq, not_false_eq_true, Nat.reduceEqDiff, Nat.reduceLT, reduceCtorEq]
  refine gg_aload_n dX10_isWrongLine_4 rfl rfl ?_
  refine gi_iconst dX10_isWrongLine_5 ?_
  refine gm_put51 rfl dX10_isWrongLine_6 (by (try simp only [uF_ss, uF_cc, id_eq, Nat.reduceLT, reduceCtorEq]); rfl) ?_
  refine gi_iconst dX10_isWrongLine_9 ?_
  refine gg_istore_n dX10_isWrongLine_10 (Nat.le_of_ble_eq_true rfl) rfl ?_
  have L_11 : ∀ (n9 : Nat) (m p b e : Int), ((12 - m).toNat) = n9 → ∀ (hm : 0 ≤ m ∧ m ≤ 12) (hp9 : 0 ≤ p ∧ p ≤ F 8) (hb : b = 0 ∨ b = 1) (he : e = 0 ∨ e = 1) (I : plI (A 5) (F 8) m p b e), GG Γ M_X10_isWrongLine QF9 (0, 0) (mst Γ h (uF (uF (uF (uF F 0 0) 9 p) 11 e) 13 m) A) 11 [some (.ref (g_L Γ 0)), some (.int (iN b)), none, none] [] := by
    intro n9
    induction n9 using Nat.strongRecOn with
    | ind n9 ih_11 => 
      intro m p b e hm9 hm hp9 hb he I
      refine gg_iload_n dX10_isWrongLine_11 rfl ?_
      refine gi_if_eq (tgt := 115) dX10_isWrongLine_12 (by decide) ⟨by omega, by omega⟩ (fun c_12 => ?_) (fun c_12 => ?_)
      · refine gg_drop 1 ?_
        refine gg_drop 2 ?_
        refine gg_drop 3 ?_
        exact L_115 m p e hm hp9 he (plI_end I (by omega))
      · have hb1 : b = 1 := by omega
        subst hb1
        refine gg_aload_n dX10_isWrongLine_15 rfl rfl ?_
        refine gm_get45 rfl dX10_isWrongLine_16 (by (try simp only [uF_s, uF_n, ne_eq, not_false_eq_true, Nat.reduceEqDiff, reduceCtorEq]); rfl) ?_
        refine gi_if_ne (tgt := 115) dX10_isWrongLine_19 (by decide) ⟨by omega, by omega⟩ (fun c_19 => ?_) (fun c_19 => ?_)
        · refine gg_drop 1 ?_
          refine gg_drop 2 ?_
          refine gg_drop 3 ?_
          exact L_115 m p e hm hp9 he (plI_end I (by omega))
        · have he1 : e = 0 := by omega
          subst he1
          refine gg_aload_n dX10_isWrongLine_22 rfl rfl ?_
          refine gm_get51 rfl dX10_isWrongLine_23 (by (try simp only [uF_s, uF_n, ne_eq, not_false_eq_true, Nat.reduceEqDiff, reduceCtorEq]); rfl) ?_
          refine gi_bipush dX10_isWrongLine_26 (by decide) ?_
          refine gi_icmp_ne (tgt := 39) dX10_isWrongLine_28 (by decide) ⟨by omega, by omega⟩ ⟨by omega, by omega⟩ (fun c_28 => ?_) (fun c_28 => ?_)
          · refine gg_aload_n dX10_isWrongLine_39 rfl rfl ?_
            refine gc_X10_177 rfl dX10_isWrongLine_40 ⟨(Nat.le_of_ble_eq_true rfl), (Nat.le_of_ble_eq_true rfl)⟩ ⟨(Nat.le_of_ble_eq_true rfl), (Nat.le_of_ble_eq_true rfl)⟩ (Nat.le_of_ble_eq_true rfl) (HAt.mu rfl) (c_X10_word (by refine ⟨?_, ?_, ?_, ?_⟩ <;> (try simp only [uF_s, uF_n, uF_ss, uF_cc, id_eq, ne_eq, not_false_eq_true, Nat.reduceEqDiff, Nat.reduceLT, reduceCtorEq]) <;> first | omega | assumption | exact bi_01 _ | simp) (by simp only [uF_s, uF_n, uF_ss, uF_cc, id_eq, ne_eq, not_false_eq_true, Nat.reduceEqDiff, Nat.reduceLT, reduceCtorEq])) (fun _ _ w => w.elim) (fun r_40 h_40 hp => ?_)
            obtain ⟨rfl, rfl⟩ := hp
            simp only [uF_s, uF_n, uF_ss, uF_cc, id_eq, ne_eq, not_false_eq_true, Nat.reduceEqDiff, Nat.reduceLT, reduceCtorEq]
            obtain ⟨w, hw⟩ : ∃ w, w = wlen (A 5) (F 8) 12 p := ⟨_, rfl⟩
            rw [← hw]
            have hwr := wlen_r (A 5) (F 8) 12 p
            rw [← hw] at hwr
            obtain ⟨s1, hs1⟩ : ∃ s1, s1 = (if p + w < F 8 then A 5 (p + w) else -1) := ⟨_, rfl⟩
            rw [show sgn (uF (uF (uF (uF F 0 0) 9 (p + w)) 11 0) 13 m) A = s1 by rw [hs1]; simp [sgn, uF_s, uF_n]]
            obtain ⟨e1, he1⟩ : ∃ e1, e1 = bi (decide (w = 0) || isLet s1) := ⟨_, rfl⟩
            rw [← he1]
            have he01 : e1 = 0 ∨ e1 = 1 := by rw [he1]; exact bi_01 _
            refine gg_istore_n dX10_isWrongLine_43 (Nat.le_of_ble_eq_true rfl) rfl ?_
            refine gg_aload_n dX10_isWrongLine_44 rfl rfl ?_
            refine gg_dup dX10_isWrongLine_45 rfl ?_
            refine gm_get51 rfl dX10_isWrongLine_46 (by (try simp only [uF_s, uF_n, ne_eq, not_false_eq_true, Nat.reduceEqDiff, reduceCtorEq]); rfl) ?_
            refine gi_iconst dX10_isWrongLine_49 ?_
            refine gi_iadd dX10_isWrongLine_50 ?_
            refine gm_put51 rfl dX10_isWrongLine_51 (by (try simp only [uF_ss, uF_cc, id_eq, Nat.reduceLT, reduceCtorEq]); rfl) ?_
            refine gg_aload_n dX10_isWrongLine_54 rfl rfl ?_
            refine gc_X10_166 rfl dX10_isWrongLine_55 ⟨(Nat.le_of_ble_eq_true rfl), (Nat.le_of_ble_eq_true rfl)⟩ ⟨(Nat.le_of_ble_eq_true rfl), (Nat.le_of_ble_eq_true rfl)⟩ (Nat.le_of_ble_eq_true rfl) (HAt.mu rfl) (c_X10_sign (by refine ⟨?_, ?_, ?_, ?_⟩ <;> (try simp only [uF_s, uF_n, uF_ss, uF_cc, id_eq, ne_eq, not_false_eq_true, Nat.reduceEqDiff, Nat.reduceLT, reduceCtorEq]) <;> first | omega | assumption | exact bi_01 _ | simp)) (fun _ _ w => w.elim) (fun r_55 h_55 hp => ?_)
            obtain ⟨rfl, rfl⟩ := hp
            have qs3 := sgn_r (F := uF (uF (uF (uF F 0 0) 9 (p + w)) 11 e1) 13 (m + 1)) (A := A) (by refine ⟨?_, ?_, ?_, ?_⟩ <;> (try simp only [uF_s, uF_n, uF_ss, uF_cc, id_eq, ne_eq, not_false_eq_true, Nat.reduceEqDiff, Nat.reduceLT, reduceCtorEq]) <;> first | omega | assumption | exact bi_01 _ | simp)
            obtain ⟨s3, hs3⟩ : ∃ s3, s3 = sgn (uF (uF (uF (uF F 0 0) 9 (p + w)) 11 e1) 13 (m + 1)) A := ⟨_, rfl⟩
            rw [← hs3] at qs3 ⊢
            simp only [sgn, uF_s, uF_n, uF_ss, uF_cc, id_eq, ne_eq, not_false_eq_true, Nat.reduceEqDiff, Nat.reduceLT, reduceCtorEq] at hs3
            refine gi_bipush dX10_isWrongLine_58 (by decide) ?_
            refine gi_icmp_ne (tgt := 67) dX10_isWrongLine_60 (by decide) ⟨by omega, by omega⟩ ⟨by omega, by omega⟩ (fun c_60 => ?_) (fun c_60 => ?_)
            · refine gi_iconst dX10_isWrongLine_67 ?_
              refine gg_istore_n dX10_isWrongLine_68 (Nat.le_of_ble_eq_true rfl) rfl ?_
              refine gg_iload_n dX10_isWrongLine_69 rfl ?_
              refine gi_if_eq (tgt := 83) dX10_isWrongLine_70 (by decide) ⟨by omega, by omega⟩ (fun c9 => ?_) (fun c9 => absurd c9 (by decide))
              refine gg_aload_n dX10_isWrongLine_83 rfl rfl ?_
              refine gc_X10_166 rfl dX10_isWrongLine_84 ⟨(Nat.le_of_ble_eq_true rfl), (Nat.le_of_ble_eq_true rfl)⟩ ⟨(Nat.le_of_ble_eq_true rfl), (Nat.le_of_ble_eq_true rfl)⟩ (Nat.le_of_ble_eq_true rfl) (HAt.mu rfl) (c_X10_sign (by refine ⟨?_, ?_, ?_, ?_⟩ <;> (try simp only [uF_s, uF_n, uF_ss, uF_cc, id_eq, ne_eq, not_false_eq_true, Nat.reduceEqDiff, Nat.reduceLT, reduceCtorEq]) <;> first | omega | assumption | exact bi_01 _ | simp)) (fun _ _ w => w.elim) (fun r_84 h_84 hp => ?_)
              obtain ⟨rfl, rfl⟩ := hp
              have qs4 := sgn_r (F := uF (uF (uF (uF F 0 0) 9 (p + w)) 11 e1) 13 (m + 1)) (A := A) (by refine ⟨?_, ?_, ?_, ?_⟩ <;> (try simp only [uF_s, uF_n, uF_ss, uF_cc, id_eq, ne_eq, not_false_eq_true, Nat.reduceEqDiff, Nat.reduceLT, reduceCtorEq]) <;> first | omega | assumption | exact bi_01 _ | simp)
              obtain ⟨s4, hs4⟩ : ∃ s4, s4 = sgn (uF (uF (uF (uF F 0 0) 9 (p + w)) 11 e1) 13 (m + 1)) A := ⟨_, rfl⟩
              rw [← hs4] at qs4 ⊢
              simp only [sgn, uF_s, uF_n, uF_ss, uF_cc, id_eq, ne_eq, not_false_eq_true, Nat.reduceEqDiff, Nat.reduceLT, reduceCtorEq] at hs4
              refine gi_bipush dX10_isWrongLine_87 (by decide) ?_
              refine gi_icmp_ne (tgt := 96) dX10_isWrongLine_89 (by decide) ⟨by omega, by omega⟩ ⟨by omega, by omega⟩ (fun c_89 => ?_) (fun c_89 => ?_)
              · refine gi_iconst dX10_isWrongLine_96 ?_
                refine gg_istore_n dX10_isWrongLine_97 (Nat.le_of_ble_eq_true rfl) rfl ?_
                refine gg_iload_n dX10_isWrongLine_98 rfl ?_
                refine gi_if_eq (tgt := 112) dX10_isWrongLine_99 (by decide) ⟨by omega, by omega⟩ (fun c9 => ?_) (fun c9 => absurd c9 (by decide))
                refine gg_goto (tgt := 11) dX10_isWrongLine_112 (by decide) ?_
                refine gg_drop 2 ?_
                refine gg_drop 3 ?_
                have hbc : bi (decide (s3 = 44)) = 0 := by simp [bi, c_60]
                have hb4 : bi (decide (s4 = 32)) = 0 := by simp [bi, c_89]
                have hst := plI_step (c := decide (s3 = 44)) (s2 := s4) I (by omega) hw hs1 he1 (c_of hs1 hs3) (by rw [hbc, hs4] <;> simp)
                rw [hb4, hbc] at hst
                try simp only [Int.add_zero] at hst
                refine gg_conv (ih_11 _ (by omega) (m + 1) _ 0 e1 rfl (by omega) (by omega) (by omega) (by omega) hst) rfl rfl rfl
              · refine gi_iconst dX10_isWrongLine_92 ?_
                refine gg_goto (tgt := 97) dX10_isWrongLine_93 (by decide) ?_
                refine gg_istore_n dX10_isWrongLine_97 (Nat.le_of_ble_eq_true rfl) rfl ?_
                refine gg_iload_n dX10_isWrongLine_98 rfl ?_
                refine gi_if_eq (tgt := 112) dX10_isWrongLine_99 (by decide) ⟨by omega, by omega⟩ (fun c9 => absurd c9 (by decide)) (fun c9 => ?_)
                refine gg_aload_n dX10_isWrongLine_102 rfl rfl ?_
                refine gg_dup dX10_isWrongLine_103 rfl ?_
                refine gm_get39 rfl dX10_isWrongLine_104 (by (try simp only [uF_s, uF_n, ne_eq, not_false_eq_true, Nat.reduceEqDiff, reduceCtorEq]); rfl) ?_
                refine gi_iconst dX10_isWrongLine_107 ?_
                refine gi_iadd dX10_isWrongLine_108 ?_
                refine gm_put39 rfl dX10_isWrongLine_109 (by (try simp only [uF_ss, uF_cc, id_eq, Nat.reduceLT, reduceCtorEq]); rfl) ?_
                refine gg_goto (tgt := 11) dX10_isWrongLine_112 (by decide) ?_
                refine gg_drop 2 ?_
                refine gg_drop 3 ?_
                have hbc : bi (decide (s3 = 44)) = 0 := by simp [bi, c_60]
                have hb4 : bi (decide (s4 = 32)) = 1 := by simp [bi, c_89]
                have hst := plI_step (c := decide (s3 = 44)) (s2 := s4) I (by omega) hw hs1 he1 (c_of hs1 hs3) (by rw [hbc, hs4] <;> simp)
                rw [hb4, hbc] at hst
                try simp only [Int.add_zero] at hst
                refine gg_conv (ih_11 _ (by omega) (m + 1) _ 1 e1 rfl (by omega) (by omega) (by omega) (by omega) hst) rfl rfl rfl
            · refine gi_iconst dX10_isWrongLine_63 ?_
              refine gg_goto (tgt := 68) dX10_isWrongLine_64 (by decide) ?_
              refine gg_istore_n dX10_isWrongLine_68 (Nat.le_of_ble_eq_true rfl) rfl ?_
              refine gg_iload_n dX10_isWrongLine_69 rfl ?_
              refine gi_if_eq (tgt := 83) dX10_isWrongLine_70 (by decide) ⟨by omega, by omega⟩ (fun c9 => absurd c9 (by decide)) (fun c9 => ?_)
              refine gg_aload_n dX10_isWrongLine_73 rfl rfl ?_
              refine gg_dup dX10_isWrongLine_74 rfl ?_
              refine gm_get39 rfl dX10_isWrongLine_75 (by (try simp only [uF_s, uF_n, ne_eq, not_false_eq_true, Nat.reduceEqDiff, reduceCtorEq]); rfl) ?_
              refine gi_iconst dX10_isWrongLine_78 ?_
              refine gi_iadd dX10_isWrongLine_79 ?_
              refine gm_put39 rfl dX10_isWrongLine_80 (by (try simp only [uF_ss, uF_cc, id_eq, Nat.reduceLT, reduceCtorEq]); rfl) ?_
              refine gg_aload_n dX10_isWrongLine_83 rfl rfl ?_
              refine gc_X10_166 rfl dX10_isWrongLine_84 ⟨(Nat.le_of_ble_eq_true rfl), (Nat.le_of_ble_eq_true rfl)⟩ ⟨(Nat.le_of_ble_eq_true rfl), (Nat.le_of_ble_eq_true rfl)⟩ (Nat.le_of_ble_eq_true rfl) (HAt.mu rfl) (c_X10_sign (by refine ⟨?_, ?_, ?_, ?_⟩ <;> (try simp only [uF_s, uF_n, uF_ss, uF_cc, id_eq, ne_eq, not_false_eq_true, Nat.reduceEqDiff, Nat.reduceLT, reduceCtorEq]) <;> first | omega | assumption | exact bi_01 _ | simp)) (fun _ _ w => w.elim) (fun r_84 h_84 hp => ?_)
              obtain ⟨rfl, rfl⟩ := hp
              have qs4 := sgn_r (F := uF (uF (uF (uF F 0 0) 9 (p + w + 1)) 11 e1) 13 (m + 1)) (A := A) (by refine ⟨?_, ?_, ?_, ?_⟩ <;> (try simp only [uF_s, uF_n, uF_ss, uF_cc, id_eq, ne_eq, not_false_eq_true, Nat.reduceEqDiff, Nat.reduceLT, reduceCtorEq]) <;> first | omega | assumption | exact bi_01 _ | simp)
              obtain ⟨s4, hs4⟩ : ∃ s4, s4 = sgn (uF (uF (uF (uF F 0 0) 9 (p + w + 1)) 11 e1) 13 (m + 1)) A := ⟨_, rfl⟩
              rw [← hs4] at qs4 ⊢
              simp only [sgn, uF_s, uF_n, uF_ss, uF_cc, id_eq, ne_eq, not_false_eq_true, Nat.reduceEqDiff, Nat.reduceLT, reduceCtorEq] at hs4
              refine gi_bipush dX10_isWrongLine_87 (by decide) ?_
              refine gi_icmp_ne (tgt := 96) dX10_isWrongLine_89 (by decide) ⟨by omega, by omega⟩ ⟨by omega, by omega⟩ (fun c_89 => ?_) (fun c_89 => ?_)
              · refine gi_iconst dX10_isWrongLine_96 ?_
                refine gg_istore_n dX10_isWrongLine_97 (Nat.le_of_ble_eq_true rfl) rfl ?_
                refine gg_iload_n dX10_isWrongLine_98 rfl ?_
                refine gi_if_eq (tgt := 112) dX10_isWrongLine_99 (by decide) ⟨by omega, by omega⟩ (fun c9 => ?_) (fun c9 => absurd c9 (by decide))
                refine gg_goto (tgt := 11) dX10_isWrongLine_112 (by decide) ?_
                refine gg_drop 2 ?_
                refine gg_drop 3 ?_
                have hbc : bi (decide (s3 = 44)) = 1 := by simp [bi, c_60]
                have hb4 : bi (decide (s4 = 32)) = 0 := by simp [bi, c_89]
                have hst := plI_step (c := decide (s3 = 44)) (s2 := s4) I (by omega) hw hs1 he1 (c_of hs1 hs3) (by rw [hbc, hs4] <;> simp)
                rw [hb4, hbc] at hst
                try simp only [Int.add_zero] at hst
                refine gg_conv (ih_11 _ (by omega) (m + 1) _ 0 e1 rfl (by omega) (by omega) (by omega) (by omega) hst) rfl rfl rfl
              · refine gi_iconst dX10_isWrongLine_92 ?_
                refine gg_goto (tgt := 97) dX10_isWrongLine_93 (by decide) ?_
                refine gg_istore_n dX10_isWrongLine_97 (Nat.le_of_ble_eq_true rfl) rfl ?_
                refine gg_iload_n dX10_isWrongLine_98 rfl ?_
                refine gi_if_eq (tgt := 112) dX10_isWrongLine_99 (by decide) ⟨by omega, by omega⟩ (fun c9 => absurd c9 (by decide)) (fun c9 => ?_)
                refine gg_aload_n dX10_isWrongLine_102 rfl rfl ?_
                refine gg_dup dX10_isWrongLine_103 rfl ?_
                refine gm_get39 rfl dX10_isWrongLine_104 (by (try simp only [uF_s, uF_n, ne_eq, not_false_eq_true, Nat.reduceEqDiff, reduceCtorEq]); rfl) ?_
                refine gi_iconst dX10_isWrongLine_107 ?_
                refine gi_iadd dX10_isWrongLine_108 ?_
                refine gm_put39 rfl dX10_isWrongLine_109 (by (try simp only [uF_ss, uF_cc, id_eq, Nat.reduceLT, reduceCtorEq]); rfl) ?_
                refine gg_goto (tgt := 11) dX10_isWrongLine_112 (by decide) ?_
                refine gg_drop 2 ?_
                refine gg_drop 3 ?_
                have hbc : bi (decide (s3 = 44)) = 1 := by simp [bi, c_60]
                have hb4 : bi (decide (s4 = 32)) = 1 := by simp [bi, c_89]
                have hst := plI_step (c := decide (s3 = 44)) (s2 := s4) I (by omega) hw hs1 he1 (c_of hs1 hs3) (by rw [hbc, hs4] <;> simp)
                rw [hb4, hbc] at hst
                try simp only [Int.add_zero] at hst
                refine gg_conv (ih_11 _ (by omega) (m + 1) _ 1 e1 rfl (by omega) (by omega) (by omega) (by omega) hst) rfl rfl rfl
          · refine gg_aload_n dX10_isWrongLine_31 rfl rfl ?_
            refine gi_iconst dX10_isWrongLine_32 ?_
            refine gm_put45 rfl dX10_isWrongLine_33 (by omega) (by (try simp only [uF_ss, uF_cc, id_eq, Nat.reduceLT, reduceCtorEq]); rfl) ?_
            refine gg_goto (tgt := 115) dX10_isWrongLine_36 (by decide) ?_
            refine gg_drop 1 ?_
            refine gg_drop 2 ?_
            refine gg_drop 3 ?_
            obtain ⟨j1, j2⟩ := plI_full (by rw [show m = 12 by omega] at I; exact I)
            exact L_115 m p 1 hm hp9 (by omega) ⟨by rw [j1]; rfl, j2, fun q => by rw [j1] at q; cases q⟩
  refine gg_drop 2 ?_
  refine gg_drop 3 ?_
  refine gg_conv (L_11 _ 0 0 1 0 rfl (by omega) (by omega) (by omega) (by omega) plI_0) rfl rfl rfl
