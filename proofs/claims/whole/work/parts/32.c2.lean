/-! words, lines, exceptions, metres as objects -/
def WdAt (ι : Nat → Option XE) (q : Nat) (f : Int → Int) (n : Int) : Prop :=
  (1 ≤ n ∧ n ≤ 12) ∧ (∀ k, 0 ≤ k → k < n → 97 ≤ f k ∧ f k ≤ 122) ∧ ∃ (aL aC : Nat) (f9 g9 : Int → Int),
    ι q = some (.inr (10, [.ref aL, .int (iN (wC f n)), .int (iN (n - bi (wS f n))), .int (iN (bi (vow (f 0)))), .int (iN (bi (wE f n))), .ref aC])) ∧
    ι aL = some (.inl (1, n.toNat, ia f9)) ∧ (∀ k, 0 ≤ k → k < n → f9 k = f k) ∧ ι aC = some (.inl (0, 12, ia g9)) ∧ ∀ k, 0 ≤ k → k < 12 → g9 k = wA f (fun _ => 0) n k
def MkO (ι : Nat → Option XE) (q : Nat) (f : Int → Int) (n c : Int) (m : Int → Int) : Prop :=
  ∃ (wq aM : Nat) (m9 : Int → Int), ι q = some (.inr (5, [.ref wq, .int (iN c), .ref aM])) ∧ WdAt ι wq f n ∧ (1 ≤ c ∧ c ≤ 6) ∧ ι aM = some (.inl (0, c.toNat, ia m9)) ∧ ∀ k, 0 ≤ k → k < c → m9 k = m k ∧ 0 ≤ m k ∧ m k ≤ 2
def pwL (f : Int → Int) (n : Int) : Int := ((parseL f n 12 0).2.2.length : Int)
def pw (f : Int → Int) (n i : Int) : Int × Int × Bool := (((parseL f n 12 0).2.2)[i.toNat]?).getD (0, 0, false)
def pwP (f : Int → Int) (n i : Int) : Int := (pw f n i).1
def pwN (f : Int → Int) (n i : Int) : Int := (pw f n i).2.1
def pwC (f : Int → Int) (n i : Int) : Bool := (pw f n i).2.2
def LnO (ι : Nat → Option XE) (q : Nat) (f : Int → Int) (n : Int) : Prop :=
  (1 ≤ n ∧ n ≤ 60) ∧ (1 ≤ pwL f n ∧ pwL f n ≤ 12) ∧ (parseL f n 12 0).1 = true ∧ ∃ (aT aW wl : Nat) (f9 : Int → Int) (w9 : Int → Option Nat),
    ι q = some (.inr (4, [.ref aT, .int (iN (pwL f n)), .int (iN ((plN (pwC f n) (pwL f n).toNat : Nat) : Int)), .ref wl, .ref aW])) ∧
    ι aT = some (.inl (1, n.toNat, ia f9)) ∧ (∀ k, 0 ≤ k → k < n → f9 k = f k ∧ 0 ≤ f k ∧ f k < 65536) ∧ ι aW = some (.inl (6, (pwL f n).toNat, ra w9)) ∧
    (∀ i, 0 ≤ i → i < pwL f n → ∃ wq, w9 i = some wq ∧ WdAt ι wq (fun k => f (pwP f n i + k)) (pwN f n i)) ∧ w9 (pwL f n - 1) = some wl
def MtAt (ι : Nat → Option XE) (q : Nat) (kd ft c9 : Int) : Prop :=
  ((0 ≤ kd ∧ kd ≤ 3) ∧ (2 ≤ ft ∧ ft ≤ 6) ∧ 0 ≤ c9 ∧ c9 < ft) ∧ ι q = some (.inr (6, [.int (iN kd), .int (iN ft), .int (iN c9), .int (iN (szk kd)), .int (iN (ft * szk kd)), .int (iN ((plN (fun p => strK kd p 0) (ft * szk kd).toNat : Nat) : Int)), .int (iN ((plN (fun p => strK kd p 1) (ft * szk kd).toNat : Nat) : Int))]))
/-- the syllables and marks of a word by an exception, or none -/
def SyM (ι : Nat → Option XE) (o : Option Nat) (f : Int → Int) (n s : Int) (mk : Int → Int) : Prop :=
  (o = none ∧ s = wC f n ∧ mk = mkd s) ∨ ∃ (q : Nat) (f' : Int → Int) (n' : Int), o = some q ∧ MkO ι q f' n' s mk
/-- what grows -/
def ext (ι ι' : Nat → Option XE) : Prop := ∀ (q : Nat) (e : XE), ι q = some e → ι' q = some e
theorem ext.rfl9 {ι : Nat → Option XE} : ext ι ι := fun _ _ h => h
theorem ext.tr {a b c : Nat → Option XE} (h1 : ext a b) (h2 : ext b c) : ext a c := fun q e h => h2 q e (h1 q e h)
theorem ext.up {ι : Nat → Option XE} {q : Nat} {e : XE} (h : ι q = none) : ext ι (upX ι q e) := fun x y hx => by
  by_cases w : x = q
  · subst w; rw [h] at hx; cases hx
  · rw [upX_n w]; exact hx
theorem WdAt.ext {ι ι' : Nat → Option XE} {q : Nat} {f : Int → Int} {n : Int} (x : ext ι ι') (h : WdAt ι q f n) : WdAt ι' q f n := by
  obtain ⟨h1, h2, aL, aC, f9, g9, h3, h4, h5, h6, h7⟩ := h
  exact ⟨h1, h2, aL, aC, f9, g9, x _ _ h3, x _ _ h4, h5, x _ _ h6, h7⟩
theorem MkO.ext {ι ι' : Nat → Option XE} {q : Nat} {f : Int → Int} {n c : Int} {m : Int → Int} (x : ext ι ι') (h : MkO ι q f n c m) : MkO ι' q f n c m := by
  obtain ⟨wq, aM, m9, h1, h2, h3, h4, h5⟩ := h
  exact ⟨wq, aM, m9, x _ _ h1, h2.ext x, h3, x _ _ h4, h5⟩
theorem LnO.ext {ι ι' : Nat → Option XE} {q : Nat} {f : Int → Int} {n : Int} (x : ext ι ι') (h : LnO ι q f n) : LnO ι' q f n := by
  obtain ⟨h1, h2, h3, aT, aW, wl, f9, w9, h4, h5, h6, h7, h8, h9⟩ := h
  exact ⟨h1, h2, h3, aT, aW, wl, f9, w9, x _ _ h4, x _ _ h5, h6, x _ _ h7, fun i i0 i1 => (h8 i i0 i1).imp fun wq hq => ⟨hq.1, hq.2.ext x⟩, h9⟩
theorem MtAt.ext {ι ι' : Nat → Option XE} {q : Nat} {kd ft c9 : Int} (x : ext ι ι') (h : MtAt ι q kd ft c9) : MtAt ι' q kd ft c9 := ⟨h.1, x _ _ h.2⟩
theorem SyM.s_r {ι : Nat → Option XE} {o : Option Nat} {f : Int → Int} {n s : Int} {mk : Int → Int} (hn : 1 ≤ n ∧ n ≤ 12) (Y : SyM ι o f n s mk) : 1 ≤ s ∧ s ≤ 12 := by
  rcases Y with ⟨-, rfl, -⟩ | ⟨q, f', n', -, wq, aM, m9, -, -, h3, -⟩
  · exact wC_r hn
  · omega
theorem mkd_2 {s k : Int} (h : 0 ≤ k ∧ k < s) : 0 ≤ mkd s k ∧ mkd s k ≤ 2 := by
  unfold mkd
  by_cases q1 : s = 1
  · rw [if_pos q1]; omega
  · rw [if_neg q1]
    by_cases q2 : s = 2
    · rw [if_pos q2]; omega
    · rw [if_neg q2]; split <;> (try split) <;> omega
theorem SyM.m_r {ι : Nat → Option XE} {o : Option Nat} {f : Int → Int} {n s : Int} {mk : Int → Int} (Y : SyM ι o f n s mk) {k : Int} (h : 0 ≤ k ∧ k < s) : 0 ≤ mk k ∧ mk k ≤ 2 := by
  rcases Y with ⟨-, -, rfl⟩ | ⟨q, f', n', -, wq, aM, m9, -, -, h3, -, h5⟩
  · exact mkd_2 h
  · exact (h5 k h.1 h.2).2
theorem plN_bit {e9 : Int → Bool} {j : Nat} : ∀ {k : Nat}, j < k → (plN e9 k : Int) / 2 ^ j % 2 = bi (e9 j)
  | 0, h => by omega
  | k + 1, h => by
    have hl := plN_lt e9 k
    by_cases q : j = k
    · subst q
      unfold plN
      have e1 : (plN e9 j : Int) / 2 ^ j = 0 := Int.ediv_eq_zero_of_lt (by omega) (by exact_mod_cast hl)
      cases hb : e9 j with
      | true =>
        rw [if_pos rfl]
        have e2 : (((plN e9 j + 2 ^ j : Nat) : Nat) : Int) / 2 ^ j = 1 := by
          rw [Int.natCast_add, Int.natCast_pow]
          have := Int.add_mul_ediv_right (plN e9 j : Int) 1 (c := 2 ^ j) (by have := Int.pow_pos (n := 2) (m := j) (by omega); omega)
          rw [Int.one_mul] at this
          rw [show ((2 : Nat) : Int) = 2 from rfl, this, e1]; rfl
        rw [e2]; rfl
      | false =>
        rw [if_neg (by decide), e1]; rfl
    · have ih := plN_bit (e9 := e9) (j := j) (k := k) (by omega)
      unfold plN
      split
      · rw [← ih, Int.natCast_add, Int.natCast_pow]
        obtain ⟨d, rfl⟩ : ∃ d, k = j + 1 + d := ⟨k - j - 1, by omega⟩
        have e3 : ((2 : Nat) : Int) ^ (j + 1 + d) = (2 * 2 ^ d) * 2 ^ j := by
          rw [show ((2 : Nat) : Int) = 2 from rfl, Int.pow_add, Int.pow_succ, Int.mul_comm (2 ^ j) 2, Int.mul_assoc, Int.mul_comm (2 ^ j) (2 ^ d), ← Int.mul_assoc]
        rw [e3, Int.add_mul_ediv_right _ _ (by have := Int.pow_pos (n := 2) (m := j) (by omega); omega)]
        have e4 : (2 * (2 : Int) ^ d) % 2 = 0 := Int.mul_emod_right 2 _
        omega
      · exact ih
set_option maxRecDepth 100000 in
set_option maxHeartbeats 4000000 in
theorem c_X8_letterAt {Γ : GT} {h : XH} {q1 : Nat} {f : Int → Int} {n : Int} (W1 : WdAt h.2 q1 f n) {i : Int} (hi : InR i) : Ct Γ M_X8_letterAt [.ref q1, .int (iN i)] (h) (fun r h9 => r = some (.int (iN (if 0 ≤ i ∧ i < n then f i else 0))) ∧ h9 = h) (fun _ _ => False) := by
  refine Ct.of rfl (by decide +kernel) (Nat.le_of_ble_eq_true rfl) ?_
  generalize hQF9 : QM Γ _ _ _ = QF9
  obtain ⟨w1, w2, aL, aC, f9, g9, w3, w4, w5, w6, w7⟩ := id W1
  refine gg_iload_n dX8_letterAt_0 rfl ?_
  refine gi_if_lt (tgt := 22) dX8_letterAt_1 (by decide) ⟨by omega, by omega⟩ (fun c_1 => ?_) (fun c_1 => ?_)
  · refine gi_iconst dX8_letterAt_22 ?_
    have L_23 : GG Γ M_X8_letterAt QF9 (0, 0) (h) 23 [some (.ref q1), some (.int (iN i))] [.int (iN (if 0 ≤ i ∧ i < n then f i else 0))] := by
      subst hQF9
      refine gg_iret dX8_letterAt_23 rfl (nar_char (by split; have := w2 i (by omega) (by omega); constructor <;> omega; constructor <;> omega)) ⟨(Nat.le_of_ble_eq_true rfl), (Nat.le_of_ble_eq_true rfl)⟩ ?_
      exact ⟨rfl, rfl⟩
    exact gg_conv L_23 rfl rfl (by rw [if_neg (by omega)])
  · refine gg_iload_n dX8_letterAt_4 rfl ?_
    refine gg_aload_n dX8_letterAt_5 rfl rfl ?_
    refine gf_X8_15 rfl dX8_letterAt_6 (HAt.io w3) rfl ?_
    refine gi_alen dX8_letterAt_9 (HAt.io w4) (by decide) ?_
    rw [Int.toNat_of_nonneg (show 0 ≤ n by omega)]
    refine gi_icmp_ge (tgt := 22) dX8_letterAt_10 (by decide) ⟨by omega, by omega⟩ ⟨by omega, by omega⟩ (fun c_10 => ?_) (fun c_10 => ?_)
    · refine gi_iconst dX8_letterAt_22 ?_
      have L_23 : GG Γ M_X8_letterAt QF9 (0, 0) (h) 23 [some (.ref q1), some (.int (iN i))] [.int (iN (if 0 ≤ i ∧ i < n then f i else 0))] := by
        subst hQF9
        refine gg_iret dX8_letterAt_23 rfl (nar_char (by split; have := w2 i (by omega) (by omega); constructor <;> omega; constructor <;> omega)) ⟨(Nat.le_of_ble_eq_true rfl), (Nat.le_of_ble_eq_true rfl)⟩ ?_
        exact ⟨rfl, rfl⟩
      exact gg_conv L_23 rfl rfl (by rw [if_neg (by omega)])
    · refine gg_aload_n dX8_letterAt_13 rfl rfl ?_
      refine gf_X8_15 rfl dX8_letterAt_14 (HAt.io w3) rfl ?_
      refine gg_iload_n dX8_letterAt_17 rfl ?_
      refine gi_cald dX8_letterAt_18 (HAt.io w4) (by omega) ⟨by omega, by omega⟩ ?_
      rw [w5 i (by omega) (by omega)]
      refine gg_goto (tgt := 23) dX8_letterAt_19 (by decide) ?_
      have L_23 : GG Γ M_X8_letterAt QF9 (0, 0) (h) 23 [some (.ref q1), some (.int (iN i))] [.int (iN (if 0 ≤ i ∧ i < n then f i else 0))] := by
        subst hQF9
        refine gg_iret dX8_letterAt_23 rfl (nar_char (by split; have := w2 i (by omega) (by omega); constructor <;> omega; constructor <;> omega)) ⟨(Nat.le_of_ble_eq_true rfl), (Nat.le_of_ble_eq_true rfl)⟩ ?_
        exact ⟨rfl, rfl⟩
      exact gg_conv L_23 rfl rfl (by rw [if_pos (by omega)])
set_option maxRecDepth 100000 in
set_option maxHeartbeats 4000000 in
theorem c_X8_coreStart {Γ : GT} {h : XH} {q1 : Nat} {f : Int → Int} {n : Int} (W1 : WdAt h.2 q1 f n) {i : Int} (hi : InR i) : Ct Γ M_X8_coreStart [.ref q1, .int (iN i)] (h) (fun r h9 => r = some (.int (iN (if 0 ≤ i ∧ i < 12 then wA f (fun _ => 0) n i else 0))) ∧ h9 = h) (fun _ _ => False) := by
  refine Ct.of rfl (by decide +kernel) (Nat.le_of_ble_eq_true rfl) ?_
  generalize hQF9 : QM Γ _ _ _ = QF9
  obtain ⟨w1, w2, aL, aC, f9, g9, w3, w4, w5, w6, w7⟩ := id W1
  refine gg_iload_n dX8_coreStart_0 rfl ?_
  refine gi_if_lt (tgt := 22) dX8_coreStart_1 (by decide) ⟨by omega, by omega⟩ (fun c_1 => ?_) (fun c_1 => ?_)
  · refine gi_iconst dX8_coreStart_22 ?_
    subst hQF9
    refine gg_iret dX8_coreStart_23 rfl rfl ⟨(Nat.le_of_ble_eq_true rfl), (Nat.le_of_ble_eq_true rfl)⟩ ?_
    exact ⟨by rw [if_neg (by omega)], rfl⟩
  · refine gg_iload_n dX8_coreStart_4 rfl ?_
    refine gg_aload_n dX8_coreStart_5 rfl rfl ?_
    refine gf_X8_9 rfl dX8_coreStart_6 (HAt.io w3) rfl ?_
    refine gi_alen dX8_coreStart_9 (HAt.io w6) (by decide) ?_
    refine gi_icmp_ge (tgt := 22) dX8_coreStart_10 (by decide) ⟨by omega, by omega⟩ ⟨by omega, by omega⟩ (fun c_10 => ?_) (fun c_10 => ?_)
    · refine gi_iconst dX8_coreStart_22 ?_
      subst hQF9
      refine gg_iret dX8_coreStart_23 rfl rfl ⟨(Nat.le_of_ble_eq_true rfl), (Nat.le_of_ble_eq_true rfl)⟩ ?_
      exact ⟨by rw [if_neg (by omega)], rfl⟩
    · refine gg_aload_n dX8_coreStart_13 rfl rfl ?_
      refine gf_X8_9 rfl dX8_coreStart_14 (HAt.io w3) rfl ?_
      refine gg_iload_n dX8_coreStart_17 rfl ?_
      refine gi_iald dX8_coreStart_18 (HAt.io w6) (by decide) ⟨by omega, by omega⟩ ?_
      rw [w7 i (by omega) (by omega)]
      refine gg_goto (tgt := 23) dX8_coreStart_19 (by decide) ?_
      subst hQF9
      refine gg_iret dX8_coreStart_23 rfl rfl ⟨(Nat.le_of_ble_eq_true rfl), (Nat.le_of_ble_eq_true rfl)⟩ ?_
      exact ⟨by rw [if_pos (by omega)], rfl⟩
set_option maxRecDepth 100000 in
set_option maxHeartbeats 4000000 in
theorem c_X8_isSame {Γ : GT} {h : XH} {q1 : Nat} {f : Int → Int} {n : Int} (W1 : WdAt h.2 q1 f n) {q2 : Nat} {g : Int → Int} {m : Int} (W2 : WdAt h.2 q2 g m) : Ct Γ M_X8_isSame [.ref q1, .ref q2] (h) (fun r h9 => r = some (.int (iN (bi (decide (n = m) && eqN f g n.toNat)))) ∧ h9 = h) (fun _ _ => False) := by
  refine Ct.of rfl (by decide +kernel) (Nat.le_of_ble_eq_true rfl) ?_
  generalize hQF9 : QM Γ _ _ _ = QF9
  obtain ⟨w1, w2, aL, aC, f9, g9, w3, w4, w5, w6, w7⟩ := id W1
  obtain ⟨v1, v2, bL, bC, k9, j9, v3, v4, v5, v6, v7⟩ := id W2
  refine gg_aload_n dX8_isSame_0 rfl rfl ?_
  refine gf_X8_15 rfl dX8_isSame_1 (HAt.io w3) rfl ?_
  refine gi_alen dX8_isSame_4 (HAt.io w4) (by decide) ?_
  rw [Int.toNat_of_nonneg (show 0 ≤ n by omega)]
  refine gg_aload_n dX8_isSame_5 rfl rfl ?_
  refine gf_X8_15 rfl dX8_isSame_6 (HAt.io v3) rfl ?_
  refine gi_alen dX8_isSame_9 (HAt.io v4) (by decide) ?_
  rw [Int.toNat_of_nonneg (show 0 ≤ m by omega)]
  refine gi_icmp_eq (tgt := 15) dX8_isSame_10 (by decide) ⟨by omega, by omega⟩ ⟨by omega, by omega⟩ (fun c_10 => ?_) (fun c_10 => ?_)
  · refine gi_iconst dX8_isSame_15 ?_
    refine gg_istore_n dX8_isSame_16 (Nat.le_of_ble_eq_true rfl) rfl ?_
    have L_17 : ∀ (n9 : Nat) (k : Int), ((n - k).toNat) = n9 → ∀ (hk : 0 ≤ k ∧ k ≤ n) (E : eqN f g k.toNat = true), GG Γ M_X8_isSame QF9 (0, 0) (h) 17 [some (.ref q1), some (.ref q2), some (.int (iN k))] [] := by
      intro n9
      induction n9 using Nat.strongRecOn with
      | ind n9 ih_17 => 
        intro k hm9 hk E
        refine gg_iload_n dX8_isSame_17 rfl ?_
        refine gg_aload_n dX8_isSame_18 rfl rfl ?_
        refine gf_X8_15 rfl dX8_isSame_19 (HAt.io w3) rfl ?_
        refine gi_alen dX8_isSame_22 (HAt.io w4) (by decide) ?_
        rw [Int.toNat_of_nonneg (show 0 ≤ n by omega)]
        refine gi_icmp_ge (tgt := 49) dX8_isSame_23 (by decide) ⟨by omega, by omega⟩ ⟨by omega, by omega⟩ (fun c_23 => ?_) (fun c_23 => ?_)
        · refine gi_iconst dX8_isSame_49 ?_
          subst hQF9
          refine gg_iret dX8_isSame_50 rfl (nar_bool (by omega)) ⟨(Nat.le_of_ble_eq_true rfl), (Nat.le_of_ble_eq_true rfl)⟩ ?_
          rw [show k = n by omega] at E
          exact ⟨by rw [E, decide_eq_true c_10]; rfl, rfl⟩
        · refine gg_aload_n dX8_isSame_26 rfl rfl ?_
          refine gf_X8_15 rfl dX8_isSame_27 (HAt.io w3) rfl ?_
          refine gg_iload_n dX8_isSame_30 rfl ?_
          refine gi_cald dX8_isSame_31 (HAt.io w4) (by omega) ⟨by omega, by omega⟩ ?_
          rw [w5 k (by omega) (by omega)]
          have b1 := w2 k (by omega) (by omega)
          refine gg_aload_n dX8_isSame_32 rfl rfl ?_
          refine gf_X8_15 rfl dX8_isSame_33 (HAt.io v3) rfl ?_
          refine gg_iload_n dX8_isSame_36 rfl ?_
          refine gi_cald dX8_isSame_37 (HAt.io v4) (by omega) ⟨by omega, by omega⟩ ?_
          rw [v5 k (by omega) (by omega)]
          have b2 := v2 k (by omega) (by omega)
          refine gi_icmp_eq (tgt := 43) dX8_isSame_38 (by decide) ⟨by omega, by omega⟩ ⟨by omega, by omega⟩ (fun c_38 => ?_) (fun c_38 => ?_)
          · refine gi_iinc dX8_isSame_43 rfl (Nat.le_of_ble_eq_true rfl) rfl ?_
            refine gg_goto (tgt := 17) dX8_isSame_46 (by decide) ?_
            refine ih_17 _ (by omega) (k + 1) rfl (by omega) ?_
            rw [show (k + 1).toNat = k.toNat + 1 by omega, eqN, E, Int.toNat_of_nonneg hk.1, decide_eq_true c_38]; rfl
          · refine gi_iconst dX8_isSame_41 ?_
            subst hQF9
            refine gg_iret dX8_isSame_42 rfl (nar_bool (by omega)) ⟨(Nat.le_of_ble_eq_true rfl), (Nat.le_of_ble_eq_true rfl)⟩ ?_
            refine ⟨?_, rfl⟩
            have e9 : eqN f g (k.toNat + 1) = false := by rw [eqN, Int.toNat_of_nonneg hk.1, decide_eq_false c_38, Bool.and_false]
            rw [eqN_f e9 (show k.toNat + 1 ≤ n.toNat by omega), Bool.and_false]; rfl
    exact L_17 _ 0 rfl (by omega) rfl
  · refine gi_iconst dX8_isSame_13 ?_
    subst hQF9
    refine gg_iret dX8_isSame_14 rfl (nar_bool (by omega)) ⟨(Nat.le_of_ble_eq_true rfl), (Nat.le_of_ble_eq_true rfl)⟩ ?_
    exact ⟨by rw [decide_eq_false c_10]; rfl, rfl⟩
def lI (z : Int) : Int64 := Int64.ofInt z
theorem lI_add (a b : Int) : lI a + lI b = lI (a + b) := (Int64.ofInt_add a b).symm
theorem lI_mul (a b : Int) : lI a * lI b = lI (a * b) := (Int64.ofInt_mul a b).symm
theorem iN_64 {z : Int} (h : InR z) : (iN z).toInt64 = lI z := by
  apply Int64.toInt_inj.mp
  rw [Int32.toInt_toInt64, iN_toInt h.1 h.2]
  exact (Int64.toInt_ofInt_of_le (by omega) (by omega)).symm
theorem lI_eq {a b : Int} (ha : 0 ≤ a ∧ a < 2 ^ 62) (hb : 0 ≤ b ∧ b < 2 ^ 62) : lI a = lI b ↔ a = b := by
  constructor
  · intro h
    have h2 := congrArg Int64.toInt h
    unfold lI at h2
    rw [Int64.toInt_ofInt_of_le (by omega) (by omega), Int64.toInt_ofInt_of_le (by omega) (by omega)] at h2
    exact h2
  · intro h; rw [h]
/-- the vowels of k letters from i on, as a number -/
def vcA (f : Int → Int) (i : Int) : Nat → Int
  | 0 => 0
  | k + 1 => if 0 ≤ vIx (f (i + k)) then 7 * vcA f i k + vIx (f (i + k)) + 1 else vcA f i k
theorem vcA_r {f : Int → Int} {i : Int} : ∀ k : Nat, 0 ≤ vcA f i k ∧ vcA f i k < 7 ^ k
  | 0 => by simp [vcA]
  | k + 1 => by
    have ih := vcA_r (f := f) (i := i) k
    have hv := vIx_r (f (i + k))
    rw [vcA, Int.pow_succ]
    split <;> omega
set_option maxRecDepth 100000 in
set_option maxHeartbeats 4000000 in
theorem c_X8_vowelCode {Γ : GT} {h : XH} {q1 : Nat} {f : Int → Int} {n : Int} (W1 : WdAt h.2 q1 f n) {s : Int} (hs : 0 ≤ s ∧ s ≤ 12) : Ct Γ M_X8_vowelCode [.ref q1, .int (iN s)] (h) (fun r h9 => r = some (.long (lI (vcA f s (n - bi (wS f n) - s).toNat))) ∧ h9 = h) (fun _ _ => False) := by
  refine Ct.of rfl (by decide +kernel) (Nat.le_of_ble_eq_true rfl) ?_
  generalize hQF9 : QM Γ _ _ _ = QF9
  obtain ⟨w1, w2, aL, aC, f9, g9, w3, w4, w5, w6, w7⟩ := id W1
  have hb9 := bi_01 (wS f n)
  refine gg_lconst (v := lI 0) dX8_vowelCode_0 rfl ?_
  refine gg_lstore_n dX8_vowelCode_1 (Nat.le_of_ble_eq_true rfl) rfl ?_
  refine gg_iload_n dX8_vowelCode_2 rfl ?_
  refine gg_istore dX8_vowelCode_3 (Nat.le_of_ble_eq_true rfl) rfl ?_
  have L_5 : ∀ (n9 : Nat) (k : Int), ((n - k).toNat) = n9 → ∀ (hk : s ≤ k)  (hk2 : k ≤ n - bi (wS f n) ∨ k = s), GG Γ M_X8_vowelCode QF9 (0, 0) (h) 5 [some (.ref q1), some (.int (iN s)), some (.long (lI (vcA f s (k - s).toNat))), none, some (.int (iN k)), none] [] := by
    intro n9
    induction n9 using Nat.strongRecOn with
    | ind n9 ih_5 => 
      intro k hm9 hk hk2
      refine gg_iload dX8_vowelCode_5 rfl ?_
      refine gg_aload_n dX8_vowelCode_7 rfl rfl ?_
      refine gf_X8_33 rfl dX8_vowelCode_8 (HAt.io w3) rfl ?_
      refine gi_icmp_ge (tgt := 50) dX8_vowelCode_11 (by decide) ⟨by omega, by omega⟩ ⟨by omega, by omega⟩ (fun c_11 => ?_) (fun c_11 => ?_)
      · refine gg_lload_n dX8_vowelCode_50 rfl ?_
        subst hQF9
        refine gg_lret dX8_vowelCode_51 rfl ⟨(Nat.le_of_ble_eq_true rfl), (Nat.le_of_ble_eq_true rfl)⟩ ?_
        refine ⟨?_, rfl⟩
        congr 3
        rcases hk2 with z | z
        · rw [show k = n - bi (wS f n) by omega]
        · rw [z, show (s - s).toNat = 0 by omega, show (n - bi (wS f n) - s).toNat = 0 by omega]
      · refine gg_ldcS (k := 5) (by decide) rfl dX8_vowelCode_14 ?_
        refine gg_aload_n dX8_vowelCode_16 rfl rfl ?_
        refine gg_iload dX8_vowelCode_17 rfl ?_
        refine gc_X8_45 rfl dX8_vowelCode_19 ⟨(Nat.le_of_ble_eq_true rfl), (Nat.le_of_ble_eq_true rfl)⟩ ⟨(Nat.le_of_ble_eq_true rfl), (Nat.le_of_ble_eq_true rfl)⟩ (Nat.le_of_ble_eq_true rfl) (HAt.io w3) (c_X8_letterAt W1 ⟨by omega, by omega⟩) (fun _ _ w => w.elim) (fun r_19 h_19 hp => ?_)
        obtain ⟨rfl, rfl⟩ := hp
        rw [if_pos (by omega)]
        have b1 := w2 k (by omega) (by omega)
        refine gcs_X8_49 (i := s_ix 5) (by decide) rfl dX8_vowelCode_22 ⟨(Nat.le_of_ble_eq_true rfl), (Nat.le_of_ble_eq_true rfl)⟩ ⟨(Nat.le_of_ble_eq_true rfl), (Nat.le_of_ble_eq_true rfl)⟩ (Nat.le_of_ble_eq_true rfl) (c_J0_indexOf_0f7a4 (by decide) ⟨by omega, by omega⟩) (fun _ _ w => w.elim) (fun r_22 h_22 hp => ?_)
        obtain ⟨rfl, rfl⟩ := hp
        rw [show s_ix 5 = 0 from rfl, vIx_eq]
        have b2 := vIx_r (f k)
        refine gg_istore dX8_vowelCode_25 (Nat.le_of_ble_eq_true rfl) rfl ?_
        refine gg_iload dX8_vowelCode_27 rfl ?_
        refine gi_if_lt (tgt := 44) dX8_vowelCode_29 (by decide) ⟨by omega, by omega⟩ (fun c_29 => ?_) (fun c_29 => ?_)
        · refine gi_iinc dX8_vowelCode_44 rfl (Nat.le_of_ble_eq_true rfl) rfl ?_
          refine gg_goto (tgt := 5) dX8_vowelCode_47 (by decide) ?_
          refine gg_drop 3 ?_
          refine gg_drop 5 ?_
          have e9 : (k + 1 - s).toNat = (k - s).toNat + 1 := by omega
          have e8 : s + ((k - s).toNat : Int) = k := by omega
          refine gg_conv (ih_5 _ (by omega) (k + 1) rfl (by omega) (Or.inl (by omega))) rfl ?_ rfl
          rw [e9, vcA, e8, if_neg (by omega)]; rfl
        · refine gg_ldc2w (v := lI 7) (wi_35 _ (List.mem_of_getElem? (i := 18) rfl)) dX8_vowelCode_32 ?_
          refine gg_lload_n dX8_vowelCode_35 rfl ?_
          refine gg_lmul dX8_vowelCode_36 ?_
          rw [lI_mul]
          refine gg_iload dX8_vowelCode_37 rfl ?_
          refine gg_i2l dX8_vowelCode_39 ?_
          rw [iN_64 ⟨by omega, by omega⟩]
          refine gg_ladd dX8_vowelCode_40 ?_
          rw [lI_add]
          refine gg_lconst (v := lI 1) dX8_vowelCode_41 rfl ?_
          refine gg_ladd dX8_vowelCode_42 ?_
          rw [lI_add]
          refine gg_lstore_n dX8_vowelCode_43 (Nat.le_of_ble_eq_true rfl) rfl ?_
          refine gi_iinc dX8_vowelCode_44 rfl (Nat.le_of_ble_eq_true rfl) rfl ?_
          refine gg_goto (tgt := 5) dX8_vowelCode_47 (by decide) ?_
          refine gg_drop 3 ?_
          refine gg_drop 5 ?_
          have e9 : (k + 1 - s).toNat = (k - s).toNat + 1 := by omega
          have e8 : s + ((k - s).toNat : Int) = k := by omega
          refine gg_conv (ih_5 _ (by omega) (k + 1) rfl (by omega) (Or.inl (by omega))) rfl ?_ rfl
          rw [e9, vcA, e8, if_pos (by omega)]; simp [lset, Int.mul_comm]
  refine gg_drop 3 ?_
  refine gg_drop 5 ?_
  exact gg_conv (L_5 _ s rfl (by omega) (Or.inr rfl)) rfl (by rw [show s - s = 0 by omega]; rfl) rfl
set_option maxRecDepth 100000 in
set_option maxHeartbeats 4000000 in
theorem c_X2_wordAt {Γ : GT} {h : XH} {q1 : Nat} {f : Int → Int} {n : Int} (L1 : LnO h.2 q1 f n) {i : Int} (hi : InR i) : Ct Γ M_X2_wordAt [.ref q1, .int (iN i)] (h) (fun r h9 => ∃ o : Option Nat, r = some (va_rf o) ∧ h9 = h ∧ ((¬ (0 ≤ i ∧ i < pwL f n) ∧ o = none) ∨ ((0 ≤ i ∧ i < pwL f n) ∧ ∃ wq, o = some wq ∧ WdAt h.2 wq (fun k => f (pwP f n i + k)) (pwN f n i)))) (fun _ _ => False) := by
  refine Ct.of rfl (by decide +kernel) (Nat.le_of_ble_eq_true rfl) ?_
  generalize hQF9 : QM Γ _ _ _ = QF9
  obtain ⟨l1, l2, l3, aT, aW, wl, f9, w9, l4, l5, l6, l7, l8, l9⟩ := id L1
  refine gg_iload_n dX2_wordAt_0 rfl ?_
  refine gi_if_lt (tgt := 22) dX2_wordAt_1 (by decide) ⟨by omega, by omega⟩ (fun c_1 => ?_) (fun c_1 => ?_)
  · refine gg_null dX2_wordAt_22 ?_
    subst hQF9
    refine gg_aret dX2_wordAt_23 rfl rfl rfl ⟨(Nat.le_of_ble_eq_true rfl), (Nat.le_of_ble_eq_true rfl)⟩ ?_
    exact ⟨none, rfl, rfl, Or.inl ⟨by omega, rfl⟩⟩
  · refine gg_iload_n dX2_wordAt_4 rfl ?_
    refine gg_aload_n dX2_wordAt_5 rfl rfl ?_
    refine gf_X2_13 rfl dX2_wordAt_6 (HAt.io l4) rfl ?_
    refine gi_alen dX2_wordAt_9 (HAt.io l7) (by decide) ?_
    rw [Int.toNat_of_nonneg (show 0 ≤ pwL f n by omega)]
    refine gi_icmp_ge (tgt := 22) dX2_wordAt_10 (by decide) ⟨by omega, by omega⟩ ⟨by omega, by omega⟩ (fun c_10 => ?_) (fun c_10 => ?_)
    · refine gg_null dX2_wordAt_22 ?_
      subst hQF9
      refine gg_aret dX2_wordAt_23 rfl rfl rfl ⟨(Nat.le_of_ble_eq_true rfl), (Nat.le_of_ble_eq_true rfl)⟩ ?_
      exact ⟨none, rfl, rfl, Or.inl ⟨by omega, rfl⟩⟩
    · refine gg_aload_n dX2_wordAt_13 rfl rfl ?_
      refine gf_X2_13 rfl dX2_wordAt_14 (HAt.io l4) rfl ?_
      refine gg_iload_n dX2_wordAt_17 rfl ?_
      obtain ⟨wq, x1, x2⟩ := l8 i (by omega) (by omega)
      refine gi_aald dX2_wordAt_18 (HAt.io l7) (by decide) rfl (by omega) ⟨by omega, by omega⟩ ?_
      rw [x1]
      refine gg_goto (tgt := 23) dX2_wordAt_19 (by decide) ?_
      subst hQF9
      refine gg_aret dX2_wordAt_23 rfl rfl rfl ⟨(Nat.le_of_ble_eq_true rfl), (Nat.le_of_ble_eq_true rfl)⟩ ?_
      exact ⟨some wq, rfl, rfl, Or.inr ⟨by omega, wq, rfl, x2⟩⟩
set_option maxRecDepth 100000 in
set_option maxHeartbeats 4000000 in
theorem c_X3_markAt {Γ : GT} {h : XH} {q1 : Nat} {f : Int → Int} {n c : Int} {m : Int → Int} (K1 : MkO h.2 q1 f n c m) {i : Int} (hi : 0 ≤ i ∧ i < c) : Ct Γ M_X3_markAt [.ref q1, .int (iN i)] (h) (fun r h9 => r = some (.int (iN (m i))) ∧ h9 = h) (fun _ _ => False) := by
  refine Ct.of rfl (by decide +kernel) (Nat.le_of_ble_eq_true rfl) ?_
  generalize hQF9 : QM Γ _ _ _ = QF9
  obtain ⟨wq, aM, m9, k1, k2, k3, k4, k5⟩ := id K1
  refine gg_iload_n dX3_markAt_0 rfl ?_
  refine gi_if_lt (tgt := 22) dX3_markAt_1 (by decide) ⟨by omega, by omega⟩ (fun c_1 => ?_) (fun c_1 => ?_)
  · exact absurd c_1 (by omega)
  · refine gg_iload_n dX3_markAt_4 rfl ?_
    refine gg_aload_n dX3_markAt_5 rfl rfl ?_
    refine gf_X3_15 rfl dX3_markAt_6 (HAt.io k1) rfl ?_
    refine gi_alen dX3_markAt_9 (HAt.io k4) (by decide) ?_
    rw [Int.toNat_of_nonneg (show 0 ≤ c by omega)]
    refine gi_icmp_ge (tgt := 22) dX3_markAt_10 (by decide) ⟨by omega, by omega⟩ ⟨by omega, by omega⟩ (fun c_10 => ?_) (fun c_10 => ?_)
    · exact absurd c_10 (by omega)
    · refine gg_aload_n dX3_markAt_13 rfl rfl ?_
      refine gf_X3_15 rfl dX3_markAt_14 (HAt.io k1) rfl ?_
      refine gg_iload_n dX3_markAt_17 rfl ?_
      refine gi_iald dX3_markAt_18 (HAt.io k4) (by omega) ⟨by omega, by omega⟩ ?_
      rw [(k5 i (by omega) (by omega)).1]
      refine gg_goto (tgt := 23) dX3_markAt_19 (by decide) ?_
      subst hQF9
      refine gg_iret dX3_markAt_23 rfl rfl ⟨(Nat.le_of_ble_eq_true rfl), (Nat.le_of_ble_eq_true rfl)⟩ ?_
      exact ⟨rfl, rfl⟩
set_option maxRecDepth 100000 in
set_option maxHeartbeats 4000000 in
theorem c_X4_behindCaesura {Γ : GT} {h : XH} {q1 : Nat} {kd ft c9 : Int} (M1 : MtAt h.2 q1 kd ft c9) : Ct Γ M_X4_behindCaesura [.ref q1] (h) (fun r h9 => r = some (.int (iN (if c9 = 0 then -1 else c9 * szk kd))) ∧ h9 = h) (fun _ _ => False) := by
  refine Ct.of rfl (by decide +kernel) (Nat.le_of_ble_eq_true rfl) ?_
  generalize hQF9 : QM Γ _ _ _ = QF9
  obtain ⟨⟨t1, t2, t3⟩, t4⟩ := id M1
  have z9 := szk_r kd
  have p9 : 4 ≤ ft * szk kd ∧ ft * szk kd ≤ 18 := by rcases z9 with q | q <;> rw [q] <;> omega
  refine gg_aload_n dX4_behindCaesura_0 rfl rfl ?_
  refine gf_X4_18 rfl dX4_behindCaesura_1 (HAt.io t4) rfl ?_
  refine gi_if_ne (tgt := 11) dX4_behindCaesura_4 (by decide) ⟨by omega, by omega⟩ (fun c_4 => ?_) (fun c_4 => ?_)
  · refine gg_aload_n dX4_behindCaesura_11 rfl rfl ?_
    refine gf_X4_18 rfl dX4_behindCaesura_12 (HAt.io t4) rfl ?_
    refine gg_aload_n dX4_behindCaesura_15 rfl rfl ?_
    refine gf_X4_21 rfl dX4_behindCaesura_16 (HAt.io t4) rfl ?_
    refine gi_imul dX4_behindCaesura_19 ?_
    subst hQF9
    refine gg_iret dX4_behindCaesura_20 rfl rfl ⟨(Nat.le_of_ble_eq_true rfl), (Nat.le_of_ble_eq_true rfl)⟩ ?_
    exact ⟨by rw [if_neg c_4], rfl⟩
  · refine gi_iconst dX4_behindCaesura_7 ?_
    refine gg_goto (tgt := 20) dX4_behindCaesura_8 (by decide) ?_
    subst hQF9
    refine gg_iret dX4_behindCaesura_20 rfl rfl ⟨(Nat.le_of_ble_eq_true rfl), (Nat.le_of_ble_eq_true rfl)⟩ ?_
    exact ⟨by rw [if_pos c_4], rfl⟩
set_option maxRecDepth 100000 in
set_option maxHeartbeats 4000000 in
theorem c_X4_fewestSyllables {Γ : GT} {h : XH} {q1 : Nat} {kd ft c9 : Int} (M1 : MtAt h.2 q1 kd ft c9) : Ct Γ M_X4_fewestSyllables [.ref q1] (h) (fun r h9 => r = some (.int (iN ((if strK kd (ft * szk kd - 1) 0 = true then ft * szk kd else ft * szk kd - 1)))) ∧ h9 = h) (fun _ _ => False) := by
  refine Ct.of rfl (by decide +kernel) (Nat.le_of_ble_eq_true rfl) ?_
  generalize hQF9 : QM Γ _ _ _ = QF9
  obtain ⟨⟨t1, t2, t3⟩, t4⟩ := id M1
  have z9 := szk_r kd
  have p9 : 4 ≤ ft * szk kd ∧ ft * szk kd ≤ 18 := by rcases z9 with q | q <;> rw [q] <;> omega
  have hl9 := plN_lt (fun p => strK kd p 0) (ft * szk kd).toNat
  have hl8 : (2 : Nat) ^ (ft * szk kd).toNat ≤ 2 ^ 18 := Nat.pow_le_pow_right (by omega) (by omega)
  have hb9 := plN_bit (e9 := fun p => strK kd p 0) (j := (ft * szk kd - 1).toNat) (k := (ft * szk kd).toNat) (by omega)
  rw [Int.toNat_of_nonneg (show 0 ≤ ft * szk kd - 1 by omega)] at hb9
  have hc9 := bi_01 (strK kd (ft * szk kd - 1) 0)
  have hd9 : (((plN (fun p => strK kd p 0) (ft * szk kd).toNat : Nat) : Int)) / 2 ^ (ft * szk kd - 1).toNat % 2 = bi (strK kd (ft * szk kd - 1) 0) := hb9
  refine gg_aload_n dX4_fewestSyllables_0 rfl rfl ?_
  refine gf_X4_27 rfl dX4_fewestSyllables_1 (HAt.io t4) rfl ?_
  refine gg_aload_n dX4_fewestSyllables_4 rfl rfl ?_
  refine gf_X4_24 rfl dX4_fewestSyllables_5 (HAt.io t4) rfl ?_
  refine gi_iconst dX4_fewestSyllables_8 ?_
  refine gi_isub dX4_fewestSyllables_9 ?_
  refine gi_ishr _ (bt_shr ⟨by omega, by omega⟩ ⟨by omega, by omega⟩) dX4_fewestSyllables_10 ?_
  refine gi_iconst dX4_fewestSyllables_11 ?_
  refine gi_iand (bi (strK kd (ft * szk kd - 1) 0)) (by rw [bt_a1 (Int.ediv_nonneg (by omega) (Int.le_of_lt (Int.pow_pos (by omega)))), hd9]) dX4_fewestSyllables_12 ?_
  refine gi_iconst dX4_fewestSyllables_13 ?_
  refine gi_icmp_ne (tgt := 21) dX4_fewestSyllables_14 (by decide) ⟨by omega, by omega⟩ ⟨by omega, by omega⟩ (fun c_14 => ?_) (fun c_14 => ?_)
  · refine gi_iconst dX4_fewestSyllables_21 ?_
    refine gg_istore_n dX4_fewestSyllables_22 (Nat.le_of_ble_eq_true rfl) rfl ?_
    refine gg_iload_n dX4_fewestSyllables_23 rfl ?_
    refine gi_if_eq (tgt := 34) dX4_fewestSyllables_24 (by decide) ⟨by omega, by omega⟩ (fun c9 => ?_) (fun c9 => absurd c9 (by decide))
    refine gg_aload_n dX4_fewestSyllables_34 rfl rfl ?_
    refine gf_X4_24 rfl dX4_fewestSyllables_35 (HAt.io t4) rfl ?_
    refine gi_iconst dX4_fewestSyllables_38 ?_
    refine gi_isub dX4_fewestSyllables_39 ?_
    subst hQF9
    refine gg_iret dX4_fewestSyllables_40 rfl rfl ⟨(Nat.le_of_ble_eq_true rfl), (Nat.le_of_ble_eq_true rfl)⟩ ?_
    have q9 : strK kd (ft * szk kd - 1) 0 = false := by
      cases q : strK kd (ft * szk kd - 1) 0 <;> rw [q] at c_14 <;> first | rfl | exact absurd rfl c_14 | exact absurd c_14 (by decide)
    exact ⟨by rw [q9]; rfl, rfl⟩
  · refine gi_iconst dX4_fewestSyllables_17 ?_
    refine gg_goto (tgt := 22) dX4_fewestSyllables_18 (by decide) ?_
    refine gg_istore_n dX4_fewestSyllables_22 (Nat.le_of_ble_eq_true rfl) rfl ?_
    refine gg_iload_n dX4_fewestSyllables_23 rfl ?_
    refine gi_if_eq (tgt := 34) dX4_fewestSyllables_24 (by decide) ⟨by omega, by omega⟩ (fun c9 => absurd c9 (by decide)) (fun c9 => ?_)
    refine gg_aload_n dX4_fewestSyllables_27 rfl rfl ?_
    refine gf_X4_24 rfl dX4_fewestSyllables_28 (HAt.io t4) rfl ?_
    refine gg_goto (tgt := 40) dX4_fewestSyllables_31 (by decide) ?_
    subst hQF9
    refine gg_iret dX4_fewestSyllables_40 rfl rfl ⟨(Nat.le_of_ble_eq_true rfl), (Nat.le_of_ble_eq_true rfl)⟩ ?_
    have q9 : strK kd (ft * szk kd - 1) 0 = true := by
      cases q : strK kd (ft * szk kd - 1) 0 <;> rw [q] at c_14 <;> first | rfl | exact absurd rfl c_14 | exact absurd c_14 (by decide)
    exact ⟨by rw [q9]; rfl, rfl⟩
