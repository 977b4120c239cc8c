/-! marks, rhymes, words compared -/
set_option maxRecDepth 100000 in
set_option maxHeartbeats 4000000 in
theorem c_X9_syllablesOf_N {Γ : GT} {h : XH} {q1 : Nat} {f : Int → Int} {n : Int} (W1 : WdAt h.2 q1 f n) {s : Int} {mk : Int → Int} (Y : SyM h.2 none f n s mk) : Ct Γ M_X9_syllablesOf [.ref q1, .null] (h) (fun r h9 => r = some (.int (iN (s))) ∧ h9 = h) (fun _ _ => False) := by
  refine Ct.of rfl (by decide +kernel) (Nat.le_of_ble_eq_true rfl) ?_
  generalize hQF9 : QM Γ _ _ _ = QF9
  obtain ⟨w1, w2, aL, aC, f9, g9, w3, w4, w5, w6, w7⟩ := id W1
  have hs9 := Y.s_r w1
  obtain ⟨y1, y2⟩ : s = wC f n ∧ mk = mkd s := by
    rcases Y with ⟨-, y1, y2⟩ | ⟨q, f', n', y0, -⟩
    · exact ⟨y1, y2⟩
    · cases y0
  refine gg_aload_n dX9_syllablesOf_0 rfl rfl ?_
  refine gg_ifnonnull (tgt := 11) dX9_syllablesOf_1 (by decide) rfl (fun a_1 c_1 => ?_) (fun c_1 => ?_)
  · exact absurd c_1 (by simp)
  · refine gg_aload_n dX9_syllablesOf_4 rfl rfl ?_
    refine gf_X9_284 rfl dX9_syllablesOf_5 (HAt.io w3) rfl ?_
    refine gg_goto (tgt := 15) dX9_syllablesOf_8 (by decide) ?_
    subst hQF9
    refine gg_iret dX9_syllablesOf_15 rfl rfl ⟨(Nat.le_of_ble_eq_true rfl), (Nat.le_of_ble_eq_true rfl)⟩ ?_
    exact ⟨by rw [y1], rfl⟩
set_option maxRecDepth 100000 in
set_option maxHeartbeats 4000000 in
theorem c_X9_syllablesOf_S {Γ : GT} {h : XH} {q1 : Nat} {f : Int → Int} {n : Int} (W1 : WdAt h.2 q1 f n) {q2 : Nat} {s : Int} {mk : Int → Int} (Y : SyM h.2 (some q2) f n s mk) : Ct Γ M_X9_syllablesOf [.ref q1, .ref q2] (h) (fun r h9 => r = some (.int (iN (s))) ∧ h9 = h) (fun _ _ => False) := by
  refine Ct.of rfl (by decide +kernel) (Nat.le_of_ble_eq_true rfl) ?_
  generalize hQF9 : QM Γ _ _ _ = QF9
  obtain ⟨w1, w2, aL, aC, f9, g9, w3, w4, w5, w6, w7⟩ := id W1
  have hs9 := Y.s_r w1
  obtain ⟨f2, n2, y1⟩ : ∃ (f2 : Int → Int) (n2 : Int), MkO h.2 q2 f2 n2 s mk := by
    rcases Y with ⟨y0, -⟩ | ⟨q, f', n', y0, y1⟩
    · cases y0
    · cases y0; exact ⟨_, _, y1⟩
  obtain ⟨wq, aM, m9, k1, k2, k3, k4, k5⟩ := id y1
  refine gg_aload_n dX9_syllablesOf_0 rfl rfl ?_
  refine gg_ifnonnull (tgt := 11) dX9_syllablesOf_1 (by decide) rfl (fun a_1 c_1 => ?_) (fun c_1 => ?_)
  · refine gg_aload_n dX9_syllablesOf_11 rfl rfl ?_
    refine gf_X9_179 rfl dX9_syllablesOf_12 (HAt.io k1) rfl ?_
    subst hQF9
    refine gg_iret dX9_syllablesOf_15 rfl rfl ⟨(Nat.le_of_ble_eq_true rfl), (Nat.le_of_ble_eq_true rfl)⟩ ?_
    exact ⟨rfl, rfl⟩
  · exact absurd c_1 (by simp)
theorem c_X9_syllablesOf {Γ : GT} {h : XH} {q1 : Nat} {f : Int → Int} {n : Int} (W1 : WdAt h.2 q1 f n) {o : Option Nat} {s : Int} {mk : Int → Int} (Y : SyM h.2 o f n s mk) : Ct Γ M_X9_syllablesOf [.ref q1, va_rf o] h (fun r h9 => r = some (.int (iN (s))) ∧ h9 = h) (fun _ _ => False) := by
  cases o with
  | none => exact c_X9_syllablesOf_N W1 Y 
  | some q2 => exact c_X9_syllablesOf_S W1 Y 
theorem and1_n : ∀ z : Fin 30, iN ((z.val : Int) - 15) &&& iN 1 = iN (((z.val : Int) - 15) % 2) := by decide +kernel
theorem and1 {z : Int} (h : -15 ≤ z ∧ z < 15) : iN z &&& iN 1 = iN (z % 2) := by
  obtain ⟨k, hk⟩ := Int.eq_ofNat_of_zero_le (show 0 ≤ z + 15 by omega)
  have e := and1_n ⟨k, by omega⟩
  dsimp only at e
  rw [← hk, show z + 15 - 15 = z by omega] at e
  exact e
set_option maxRecDepth 100000 in
set_option maxHeartbeats 4000000 in
theorem c_X9_markOf_N {Γ : GT} {h : XH} {q1 : Nat} {f : Int → Int} {n : Int} (W1 : WdAt h.2 q1 f n) {s : Int} {mk : Int → Int} (Y : SyM h.2 none f n s mk) {k : Int} (hk : 0 ≤ k ∧ k < s) : Ct Γ M_X9_markOf [.ref q1, .null, .int (iN k)] (h) (fun r h9 => r = some (.int (iN (mk k))) ∧ h9 = h) (fun _ _ => False) := by
  refine Ct.of rfl (by decide +kernel) (Nat.le_of_ble_eq_true rfl) ?_
  generalize hQF9 : QM Γ _ _ _ = QF9
  obtain ⟨w1, w2, aL, aC, f9, g9, w3, w4, w5, w6, w7⟩ := id W1
  have hs9 := Y.s_r w1
  obtain ⟨y1, y2⟩ : s = wC f n ∧ mk = mkd s := by
    rcases Y with ⟨-, y1, y2⟩ | ⟨q, f', n', y0, -⟩
    · exact ⟨y1, y2⟩
    · cases y0
  refine gg_aload_n dX9_markOf_0 rfl rfl ?_
  refine gg_ifnull (tgt := 10) dX9_markOf_1 (by decide) rfl (fun c_1 => ?_) (fun a_1 c_1 => ?_)
  · refine gg_aload_n dX9_markOf_10 rfl rfl ?_
    refine gf_X9_284 rfl dX9_markOf_11 (HAt.io w3) rfl ?_
    rw [← y1]
    refine gi_iconst dX9_markOf_14 ?_
    refine gi_icmp_ne (tgt := 20) dX9_markOf_15 (by decide) ⟨by omega, by omega⟩ ⟨by omega, by omega⟩ (fun c_15 => ?_) (fun c_15 => ?_)
    · refine gi_iconst dX9_markOf_20 ?_
      refine gg_aload_n dX9_markOf_21 rfl rfl ?_
      refine gf_X9_284 rfl dX9_markOf_22 (HAt.io w3) rfl ?_
      rw [← y1]
      refine gi_iconst dX9_markOf_25 ?_
      refine gi_isub dX9_markOf_26 ?_
      refine gc_X9_427 rfl dX9_markOf_27 ⟨(Nat.le_of_ble_eq_true rfl), (Nat.le_of_ble_eq_true rfl)⟩ ⟨(Nat.le_of_ble_eq_true rfl), (Nat.le_of_ble_eq_true rfl)⟩ ?_
      rw [iN_max ⟨by omega, by omega⟩ ⟨by omega, by omega⟩]
      refine gg_istore_n dX9_markOf_30 (Nat.le_of_ble_eq_true rfl) rfl ?_
      refine gg_iload_n dX9_markOf_31 rfl ?_
      refine gg_iload_n dX9_markOf_32 rfl ?_
      refine gi_icmp_ne (tgt := 38) dX9_markOf_33 (by decide) ⟨by omega, by omega⟩ ⟨by omega, by omega⟩ (fun c_33 => ?_) (fun c_33 => ?_)
      · refine gg_iload_n dX9_markOf_38 rfl ?_
        refine gg_iload_n dX9_markOf_39 rfl ?_
        refine gi_isub dX9_markOf_40 ?_
        refine gi_iconst dX9_markOf_41 ?_
        refine gi_iand ((k - max 0 (s - 3)) % 2) (and1 ⟨by omega, by omega⟩) dX9_markOf_42 ?_
        refine gi_if_ne (tgt := 50) dX9_markOf_43 (by decide) ⟨by omega, by omega⟩ (fun c_43 => ?_) (fun c_43 => ?_)
        · refine gi_iconst dX9_markOf_50 ?_
          refine gg_istore dX9_markOf_51 (Nat.le_of_ble_eq_true rfl) rfl ?_
          refine gg_iload dX9_markOf_53 rfl ?_
          refine gi_if_eq (tgt := 62) dX9_markOf_55 (by decide) ⟨by omega, by omega⟩ (fun c9 => ?_) (fun c9 => absurd c9 (by decide))
          refine gi_iconst dX9_markOf_62 ?_
          subst hQF9
          refine gg_iret dX9_markOf_63 rfl rfl ⟨(Nat.le_of_ble_eq_true rfl), (Nat.le_of_ble_eq_true rfl)⟩ ?_
          refine ⟨?_, rfl⟩
          rw [y2, mkd, if_neg c_15]
          by_cases q : s = 2
          · rw [if_pos q]; congr 3; omega
          · rw [if_neg q, if_neg (by omega), if_neg (by omega)]
        · refine gi_iconst dX9_markOf_46 ?_
          refine gg_goto (tgt := 51) dX9_markOf_47 (by decide) ?_
          refine gg_istore dX9_markOf_51 (Nat.le_of_ble_eq_true rfl) rfl ?_
          refine gg_iload dX9_markOf_53 rfl ?_
          refine gi_if_eq (tgt := 62) dX9_markOf_55 (by decide) ⟨by omega, by omega⟩ (fun c9 => absurd c9 (by decide)) (fun c9 => ?_)
          refine gi_iconst dX9_markOf_58 ?_
          refine gg_goto (tgt := 63) dX9_markOf_59 (by decide) ?_
          subst hQF9
          refine gg_iret dX9_markOf_63 rfl rfl ⟨(Nat.le_of_ble_eq_true rfl), (Nat.le_of_ble_eq_true rfl)⟩ ?_
          refine ⟨?_, rfl⟩
          rw [y2, mkd, if_neg c_15]
          by_cases q : s = 2
          · exfalso; omega
          · rw [if_neg q, if_neg (by omega), if_pos (by omega)]
      · refine gi_iconst dX9_markOf_36 ?_
        subst hQF9
        refine gg_iret dX9_markOf_37 rfl rfl ⟨(Nat.le_of_ble_eq_true rfl), (Nat.le_of_ble_eq_true rfl)⟩ ?_
        refine ⟨?_, rfl⟩
        rw [y2, mkd, if_neg c_15]
        by_cases q : s = 2
        · rw [if_pos q, show k = 0 by omega, q]; rfl
        · rw [if_neg q, if_pos (by omega)]
    · refine gi_iconst dX9_markOf_18 ?_
      subst hQF9
      refine gg_iret dX9_markOf_19 rfl rfl ⟨(Nat.le_of_ble_eq_true rfl), (Nat.le_of_ble_eq_true rfl)⟩ ?_
      exact ⟨by rw [y2, mkd, if_pos c_15], rfl⟩
  · exact absurd c_1 (by simp)
set_option maxRecDepth 100000 in
set_option maxHeartbeats 4000000 in
theorem c_X9_markOf_S {Γ : GT} {h : XH} {q1 : Nat} {f : Int → Int} {n : Int} (W1 : WdAt h.2 q1 f n) {q2 : Nat} {s : Int} {mk : Int → Int} (Y : SyM h.2 (some q2) f n s mk) {k : Int} (hk : 0 ≤ k ∧ k < s) : Ct Γ M_X9_markOf [.ref q1, .ref q2, .int (iN k)] (h) (fun r h9 => r = some (.int (iN (mk k))) ∧ h9 = h) (fun _ _ => False) := by
  refine Ct.of rfl (by decide +kernel) (Nat.le_of_ble_eq_true rfl) ?_
  generalize hQF9 : QM Γ _ _ _ = QF9
  obtain ⟨w1, w2, aL, aC, f9, g9, w3, w4, w5, w6, w7⟩ := id W1
  have hs9 := Y.s_r w1
  obtain ⟨f2, n2, y1⟩ : ∃ (f2 : Int → Int) (n2 : Int), MkO h.2 q2 f2 n2 s mk := by
    rcases Y with ⟨y0, -⟩ | ⟨q, f', n', y0, y1⟩
    · cases y0
    · cases y0; exact ⟨_, _, y1⟩
  obtain ⟨wq, aM, m9, k1, k2, k3, k4, k5⟩ := id y1
  refine gg_aload_n dX9_markOf_0 rfl rfl ?_
  refine gg_ifnull (tgt := 10) dX9_markOf_1 (by decide) rfl (fun c_1 => ?_) (fun a_1 c_1 => ?_)
  · exact absurd c_1 (by simp)
  · refine gg_aload_n dX9_markOf_4 rfl rfl ?_
    refine gg_iload_n dX9_markOf_5 rfl ?_
    refine gc_X9_456 rfl dX9_markOf_6 ⟨(Nat.le_of_ble_eq_true rfl), (Nat.le_of_ble_eq_true rfl)⟩ ⟨(Nat.le_of_ble_eq_true rfl), (Nat.le_of_ble_eq_true rfl)⟩ (Nat.le_of_ble_eq_true rfl) (HAt.io k1) (c_X3_markAt y1 hk) (fun _ _ w => w.elim) (fun r_6 h_6 hp => ?_)
    obtain ⟨rfl, rfl⟩ := hp
    subst hQF9
    refine gg_iret dX9_markOf_9 rfl rfl ⟨(Nat.le_of_ble_eq_true rfl), (Nat.le_of_ble_eq_true rfl)⟩ ?_
    exact ⟨rfl, rfl⟩
theorem c_X9_markOf {Γ : GT} {h : XH} {q1 : Nat} {f : Int → Int} {n : Int} (W1 : WdAt h.2 q1 f n) {o : Option Nat} {s : Int} {mk : Int → Int} (Y : SyM h.2 o f n s mk) {k : Int} (hk : 0 ≤ k ∧ k < s) : Ct Γ M_X9_markOf [.ref q1, va_rf o, .int (iN k)] h (fun r h9 => r = some (.int (iN (mk k))) ∧ h9 = h) (fun _ _ => False) := by
  cases o with
  | none => exact c_X9_markOf_N W1 Y hk
  | some q2 => exact c_X9_markOf_S W1 Y hk
set_option maxRecDepth 100000 in
set_option maxHeartbeats 4000000 in
theorem c_X9_marksAsDigits_N {Γ : GT} {h : XH} {q1 : Nat} {f : Int → Int} {n : Int} (W1 : WdAt h.2 q1 f n) {s : Int} {mk : Int → Int} (Y : SyM h.2 none f n s mk) : Ct Γ M_X9_marksAsDigits [.ref q1, .null] (h) (fun r h9 => r = some (.int (iN (tld mk s.toNat))) ∧ h9 = h) (fun _ _ => False) := by
  refine Ct.of rfl (by decide +kernel) (Nat.le_of_ble_eq_true rfl) ?_
  generalize hQF9 : QM Γ _ _ _ = QF9
  obtain ⟨w1, w2, aL, aC, f9, g9, w3, w4, w5, w6, w7⟩ := id W1
  have hs9 := Y.s_r w1
  refine gi_iconst dX9_marksAsDigits_0 ?_
  refine gg_istore_n dX9_marksAsDigits_1 (Nat.le_of_ble_eq_true rfl) rfl ?_
  refine gi_iconst dX9_marksAsDigits_2 ?_
  refine gg_istore_n dX9_marksAsDigits_3 (Nat.le_of_ble_eq_true rfl) rfl ?_
  have L_4 : ∀ (n9 : Nat) (k : Int), ((s - k).toNat) = n9 → ∀ (hk : 0 ≤ k ∧ k ≤ s), GG Γ M_X9_marksAsDigits QF9 (0, 0) (h) 4 [some (.ref q1), some (.null), some (.int (iN (tld mk k.toNat))), some (.int (iN k))] [] := by
    intro n9
    induction n9 using Nat.strongRecOn with
    | ind n9 ih_4 => 
      intro k hm9 hk
      refine gg_iload_n dX9_marksAsDigits_4 rfl ?_
      refine gg_aload_n dX9_marksAsDigits_5 rfl rfl ?_
      refine gg_aload_n dX9_marksAsDigits_6 rfl rfl ?_
      refine gc_X9_291 rfl dX9_marksAsDigits_7 ⟨(Nat.le_of_ble_eq_true rfl), (Nat.le_of_ble_eq_true rfl)⟩ ⟨(Nat.le_of_ble_eq_true rfl), (Nat.le_of_ble_eq_true rfl)⟩ (Nat.le_of_ble_eq_true rfl) ((c_X9_syllablesOf (o := none) W1 Y)) (fun _ _ w => w.elim) (fun r_7 h_7 hp => ?_)
      obtain ⟨rfl, rfl⟩ := hp
      refine gi_icmp_ge (tgt := 31) dX9_marksAsDigits_10 (by decide) ⟨by omega, by omega⟩ ⟨by omega, by omega⟩ (fun c_10 => ?_) (fun c_10 => ?_)
      · refine gg_iload_n dX9_marksAsDigits_31 rfl ?_
        subst hQF9
        refine gg_iret dX9_marksAsDigits_32 rfl rfl ⟨(Nat.le_of_ble_eq_true rfl), (Nat.le_of_ble_eq_true rfl)⟩ ?_
        rw [show k = s by omega]
        exact ⟨rfl, rfl⟩
      · refine gi_bipush dX9_marksAsDigits_13 (by decide) ?_
        refine gg_iload_n dX9_marksAsDigits_15 rfl ?_
        refine gi_imul dX9_marksAsDigits_16 ?_
        refine gg_aload_n dX9_marksAsDigits_17 rfl rfl ?_
        refine gg_aload_n dX9_marksAsDigits_18 rfl rfl ?_
        refine gg_iload_n dX9_marksAsDigits_19 rfl ?_
        refine gc_X9_459 rfl dX9_marksAsDigits_20 ⟨(Nat.le_of_ble_eq_true rfl), (Nat.le_of_ble_eq_true rfl)⟩ ⟨(Nat.le_of_ble_eq_true rfl), (Nat.le_of_ble_eq_true rfl)⟩ (Nat.le_of_ble_eq_true rfl) (c_X9_markOf (o := none) W1 Y ⟨by omega, by omega⟩) (fun _ _ w => w.elim) (fun r_20 h_20 hp => ?_)
        obtain ⟨rfl, rfl⟩ := hp
        refine gi_iadd dX9_marksAsDigits_23 ?_
        refine gg_istore_n dX9_marksAsDigits_24 (Nat.le_of_ble_eq_true rfl) rfl ?_
        refine gi_iinc dX9_marksAsDigits_25 rfl (Nat.le_of_ble_eq_true rfl) rfl ?_
        refine gg_goto (tgt := 4) dX9_marksAsDigits_28 (by decide) ?_
        exact gg_conv (ih_4 _ (by omega) (k + 1) rfl (by omega)) rfl (by rw [show (k + 1).toNat = k.toNat + 1 by omega, tld, Int.toNat_of_nonneg hk.1]; rfl) rfl
  exact L_4 _ 0 rfl (by omega)
set_option maxRecDepth 100000 in
set_option maxHeartbeats 4000000 in
theorem c_X9_marksAsDigits_S {Γ : GT} {h : XH} {q1 : Nat} {f : Int → Int} {n : Int} (W1 : WdAt h.2 q1 f n) {q2 : Nat} {s : Int} {mk : Int → Int} (Y : SyM h.2 (some q2) f n s mk) : Ct Γ M_X9_marksAsDigits [.ref q1, .ref q2] (h) (fun r h9 => r = some (.int (iN (tld mk s.toNat))) ∧ h9 = h) (fun _ _ => False) := by
  refine Ct.of rfl (by decide +kernel) (Nat.le_of_ble_eq_true rfl) ?_
  generalize hQF9 : QM Γ _ _ _ = QF9
  obtain ⟨w1, w2, aL, aC, f9, g9, w3, w4, w5, w6, w7⟩ := id W1
  have hs9 := Y.s_r w1
  refine gi_iconst dX9_marksAsDigits_0 ?_
  refine gg_istore_n dX9_marksAsDigits_1 (Nat.le_of_ble_eq_true rfl) rfl ?_
  refine gi_iconst dX9_marksAsDigits_2 ?_
  refine gg_istore_n dX9_marksAsDigits_3 (Nat.le_of_ble_eq_true rfl) rfl ?_
  have L_4 : ∀ (n9 : Nat) (k : Int), ((s - k).toNat) = n9 → ∀ (hk : 0 ≤ k ∧ k ≤ s), GG Γ M_X9_marksAsDigits QF9 (0, 0) (h) 4 [some (.ref q1), some (.ref q2), some (.int (iN (tld mk k.toNat))), some (.int (iN k))] [] := by
    intro n9
    induction n9 using Nat.strongRecOn with
    | ind n9 ih_4 => 
      intro k hm9 hk
      refine gg_iload_n dX9_marksAsDigits_4 rfl ?_
      refine gg_aload_n dX9_marksAsDigits_5 rfl rfl ?_
      refine gg_aload_n dX9_marksAsDigits_6 rfl rfl ?_
      refine gc_X9_291 rfl dX9_marksAsDigits_7 ⟨(Nat.le_of_ble_eq_true rfl), (Nat.le_of_ble_eq_true rfl)⟩ ⟨(Nat.le_of_ble_eq_true rfl), (Nat.le_of_ble_eq_true rfl)⟩ (Nat.le_of_ble_eq_true rfl) ((c_X9_syllablesOf (o := (some q2)) W1 Y)) (fun _ _ w => w.elim) (fun r_7 h_7 hp => ?_)
      obtain ⟨rfl, rfl⟩ := hp
      refine gi_icmp_ge (tgt := 31) dX9_marksAsDigits_10 (by decide) ⟨by omega, by omega⟩ ⟨by omega, by omega⟩ (fun c_10 => ?_) (fun c_10 => ?_)
      · refine gg_iload_n dX9_marksAsDigits_31 rfl ?_
        subst hQF9
        refine gg_iret dX9_marksAsDigits_32 rfl rfl ⟨(Nat.le_of_ble_eq_true rfl), (Nat.le_of_ble_eq_true rfl)⟩ ?_
        rw [show k = s by omega]
        exact ⟨rfl, rfl⟩
      · refine gi_bipush dX9_marksAsDigits_13 (by decide) ?_
        refine gg_iload_n dX9_marksAsDigits_15 rfl ?_
        refine gi_imul dX9_marksAsDigits_16 ?_
        refine gg_aload_n dX9_marksAsDigits_17 rfl rfl ?_
        refine gg_aload_n dX9_marksAsDigits_18 rfl rfl ?_
        refine gg_iload_n dX9_marksAsDigits_19 rfl ?_
        refine gc_X9_459 rfl dX9_marksAsDigits_20 ⟨(Nat.le_of_ble_eq_true rfl), (Nat.le_of_ble_eq_true rfl)⟩ ⟨(Nat.le_of_ble_eq_true rfl), (Nat.le_of_ble_eq_true rfl)⟩ (Nat.le_of_ble_eq_true rfl) (c_X9_markOf (o := (some q2)) W1 Y ⟨by omega, by omega⟩) (fun _ _ w => w.elim) (fun r_20 h_20 hp => ?_)
        obtain ⟨rfl, rfl⟩ := hp
        refine gi_iadd dX9_marksAsDigits_23 ?_
        refine gg_istore_n dX9_marksAsDigits_24 (Nat.le_of_ble_eq_true rfl) rfl ?_
        refine gi_iinc dX9_marksAsDigits_25 rfl (Nat.le_of_ble_eq_true rfl) rfl ?_
        refine gg_goto (tgt := 4) dX9_marksAsDigits_28 (by decide) ?_
        exact gg_conv (ih_4 _ (by omega) (k + 1) rfl (by omega)) rfl (by rw [show (k + 1).toNat = k.toNat + 1 by omega, tld, Int.toNat_of_nonneg hk.1]; rfl) rfl
  exact L_4 _ 0 rfl (by omega)
theorem c_X9_marksAsDigits {Γ : GT} {h : XH} {q1 : Nat} {f : Int → Int} {n : Int} (W1 : WdAt h.2 q1 f n) {o : Option Nat} {s : Int} {mk : Int → Int} (Y : SyM h.2 o f n s mk) : Ct Γ M_X9_marksAsDigits [.ref q1, va_rf o] h (fun r h9 => r = some (.int (iN (tld mk s.toNat))) ∧ h9 = h) (fun _ _ => False) := by
  cases o with
  | none => exact c_X9_marksAsDigits_N W1 Y
  | some q2 => exact c_X9_marksAsDigits_S W1 Y
set_option maxRecDepth 100000 in
set_option maxHeartbeats 4000000 in
theorem c_X9_isSameRhyme {Γ : GT} {h : XH} {q1 : Nat} {f : Int → Int} {n : Int} (W1 : WdAt h.2 q1 f n) {q2 : Nat} {g : Int → Int} {m : Int} (W2 : WdAt h.2 q2 g m) {x9 y9 : Int} (hx9 : 0 ≤ x9 ∧ x9 ≤ 11) (hy9 : 0 ≤ y9 ∧ y9 ≤ 11) : Ct Γ M_X9_isSameRhyme [.ref q1, .int (iN x9), .ref q2, .int (iN y9)] (h) (fun r h9 => r = some (.int (iN (bi (decide ((n - bi (wS f n) - x9) = (m - bi (wS g m) - y9)) && eqN (fun k => f (x9 + k)) (fun k => g (y9 + k)) (n - bi (wS f n) - x9).toNat)))) ∧ h9 = h) (fun _ _ => False) := by
  refine Ct.of rfl (by decide +kernel) (Nat.le_of_ble_eq_true rfl) ?_
  generalize hQF9 : QM Γ _ _ _ = QF9
  obtain ⟨w1, w2, aL, aC, f9, g9, w3, w4, w5, w6, w7⟩ := id W1
  obtain ⟨v1, v2, bL, bC, k9, j9, v3, v4, v5, v6, v7⟩ := id W2
  have hb9 := bi_01 (wS f n)
  have hb8 := bi_01 (wS g m)
  refine gg_aload_n dX9_isSameRhyme_0 rfl rfl ?_
  refine gf_X9_265 rfl dX9_isSameRhyme_1 (HAt.io w3) rfl ?_
  refine gg_iload_n dX9_isSameRhyme_4 rfl ?_
  refine gi_isub dX9_isSameRhyme_5 ?_
  refine gg_istore dX9_isSameRhyme_6 (Nat.le_of_ble_eq_true rfl) rfl ?_
  refine gg_iload dX9_isSameRhyme_8 rfl ?_
  refine gg_aload_n dX9_isSameRhyme_10 rfl rfl ?_
  refine gf_X9_265 rfl dX9_isSameRhyme_11 (HAt.io v3) rfl ?_
  refine gg_iload_n dX9_isSameRhyme_14 rfl ?_
  refine gi_isub dX9_isSameRhyme_15 ?_
  refine gi_icmp_eq (tgt := 21) dX9_isSameRhyme_16 (by decide) ⟨by omega, by omega⟩ ⟨by omega, by omega⟩ (fun c_16 => ?_) (fun c_16 => ?_)
  · refine gi_iconst dX9_isSameRhyme_21 ?_
    refine gg_istore dX9_isSameRhyme_22 (Nat.le_of_ble_eq_true rfl) rfl ?_
    have L_24 : ∀ (n9 : Nat) (k : Int), (((n - bi (wS f n) - x9) - k).toNat) = n9 → ∀ (hk : 0 ≤ k ∧ (k ≤ (n - bi (wS f n) - x9) ∨ k = 0)) (E : eqN (fun k => f (x9 + k)) (fun k => g (y9 + k)) k.toNat = true), GG Γ M_X9_isSameRhyme QF9 (0, 0) (h) 24 [some (.ref q1), some (.int (iN x9)), some (.ref q2), some (.int (iN y9)), some (.int (iN (n - bi (wS f n) - x9))), some (.int (iN k))] [] := by
      intro n9
      induction n9 using Nat.strongRecOn with
      | ind n9 ih_24 => 
        intro k hm9 hk E
        refine gg_iload dX9_isSameRhyme_24 rfl ?_
        refine gg_iload dX9_isSameRhyme_26 rfl ?_
        refine gi_icmp_ge (tgt := 58) dX9_isSameRhyme_28 (by decide) ⟨by omega, by omega⟩ ⟨by omega, by omega⟩ (fun c_28 => ?_) (fun c_28 => ?_)
        · refine gi_iconst dX9_isSameRhyme_58 ?_
          subst hQF9
          refine gg_iret dX9_isSameRhyme_59 rfl (nar_bool (by omega)) ⟨(Nat.le_of_ble_eq_true rfl), (Nat.le_of_ble_eq_true rfl)⟩ ?_
          rw [show k.toNat = (n - bi (wS f n) - x9).toNat by omega] at E
          exact ⟨by rw [E, decide_eq_true c_16]; rfl, rfl⟩
        · refine gg_aload_n dX9_isSameRhyme_31 rfl rfl ?_
          refine gg_iload_n dX9_isSameRhyme_32 rfl ?_
          refine gg_iload dX9_isSameRhyme_33 rfl ?_
          refine gi_iadd dX9_isSameRhyme_35 ?_
          refine gc_X9_302 rfl dX9_isSameRhyme_36 ⟨(Nat.le_of_ble_eq_true rfl), (Nat.le_of_ble_eq_true rfl)⟩ ⟨(Nat.le_of_ble_eq_true rfl), (Nat.le_of_ble_eq_true rfl)⟩ (Nat.le_of_ble_eq_true rfl) (HAt.io w3) (c_X8_letterAt W1 ⟨by omega, by omega⟩) (fun _ _ w => w.elim) (fun r_36 h_36 hp => ?_)
          obtain ⟨rfl, rfl⟩ := hp
          rw [if_pos (by omega)]
          have b1 := w2 (x9 + k) (by omega) (by omega)
          refine gg_aload_n dX9_isSameRhyme_39 rfl rfl ?_
          refine gg_iload_n dX9_isSameRhyme_40 rfl ?_
          refine gg_iload dX9_isSameRhyme_41 rfl ?_
          refine gi_iadd dX9_isSameRhyme_43 ?_
          refine gc_X9_302 rfl dX9_isSameRhyme_44 ⟨(Nat.le_of_ble_eq_true rfl), (Nat.le_of_ble_eq_true rfl)⟩ ⟨(Nat.le_of_ble_eq_true rfl), (Nat.le_of_ble_eq_true rfl)⟩ (Nat.le_of_ble_eq_true rfl) (HAt.io v3) (c_X8_letterAt W2 ⟨by omega, by omega⟩) (fun _ _ w => w.elim) (fun r_44 h_44 hp => ?_)
          obtain ⟨rfl, rfl⟩ := hp
          rw [if_pos (by omega)]
          have b2 := v2 (y9 + k) (by omega) (by omega)
          refine gi_icmp_eq (tgt := 52) dX9_isSameRhyme_47 (by decide) ⟨by omega, by omega⟩ ⟨by omega, by omega⟩ (fun c_47 => ?_) (fun c_47 => ?_)
          · refine gi_iinc dX9_isSameRhyme_52 rfl (Nat.le_of_ble_eq_true rfl) rfl ?_
            refine gg_goto (tgt := 24) dX9_isSameRhyme_55 (by decide) ?_
            refine ih_24 _ (by omega) (k + 1) rfl (by omega) ?_
            rw [show (k + 1).toNat = k.toNat + 1 by omega, eqN, E, Int.toNat_of_nonneg hk.1, decide_eq_true c_47]; rfl
          · refine gi_iconst dX9_isSameRhyme_50 ?_
            subst hQF9
            refine gg_iret dX9_isSameRhyme_51 rfl (nar_bool (by omega)) ⟨(Nat.le_of_ble_eq_true rfl), (Nat.le_of_ble_eq_true rfl)⟩ ?_
            refine ⟨?_, rfl⟩
            have e9 : eqN (fun k => f (x9 + k)) (fun k => g (y9 + k)) (k.toNat + 1) = false := by rw [eqN, Int.toNat_of_nonneg hk.1, decide_eq_false c_47, Bool.and_false]
            rw [eqN_f e9 (show k.toNat + 1 ≤ (n - bi (wS f n) - x9).toNat by omega), Bool.and_false]; rfl
    exact L_24 _ 0 rfl (by omega) rfl
  · refine gi_iconst dX9_isSameRhyme_19 ?_
    subst hQF9
    refine gg_iret dX9_isSameRhyme_20 rfl (nar_bool (by omega)) ⟨(Nat.le_of_ble_eq_true rfl), (Nat.le_of_ble_eq_true rfl)⟩ ?_
    exact ⟨by rw [decide_eq_false c_16]; rfl, rfl⟩
theorem lg_cmp_0 {a b : Int64} : lg_cmp a b = 0 ↔ a = b := by
  unfold lg_cmp
  by_cases q : a > b
  · rw [if_pos q]
    constructor
    · intro h; exact absurd h (by decide)
    · intro h; rw [h] at q; exact absurd q (Int64.lt_irrefl)
  · rw [if_neg q]
    by_cases q2 : a = b
    · rw [if_pos q2]; exact ⟨fun _ => q2, fun _ => rfl⟩
    · rw [if_neg q2]
      constructor
      · intro h; exact absurd h (by decide)
      · intro h; exact absurd h q2
theorem vc_lt {f : Int → Int} {i : Int} {k : Nat} (hk : k ≤ 12) : 0 ≤ vcA f i k ∧ vcA f i k < 2 ^ 62 := by
  have h1 := vcA_r (f := f) (i := i) k
  have h2 : (7 : Int) ^ k ≤ 7 ^ 12 := by
    have : 7 ^ k ≤ 7 ^ 12 := Nat.pow_le_pow_right (by omega) hk
    exact_mod_cast this
  have h3 : (7 : Int) ^ 12 < 2 ^ 62 := by decide
  omega
set_option maxRecDepth 100000 in
set_option maxHeartbeats 4000000 in
theorem c_X9_rhymeKind {Γ : GT} {h : XH} {q1 : Nat} {f : Int → Int} {n : Int} (W1 : WdAt h.2 q1 f n) {q2 : Nat} {g : Int → Int} {m : Int} (W2 : WdAt h.2 q2 g m) {x9 y9 : Int} (hx9 : 0 ≤ x9 ∧ x9 ≤ 11) (hy9 : 0 ≤ y9 ∧ y9 ≤ 11) : Ct Γ M_X9_rhymeKind [.ref q1, .int (iN x9), .ref q2, .int (iN y9)] (h) (fun r h9 => r = some (.int (iN ((if (decide (n = m) && eqN f g n.toNat) = true then 3 else if (decide ((n - bi (wS f n) - x9) = (m - bi (wS g m) - y9)) && eqN (fun k => f (x9 + k)) (fun k => g (y9 + k)) (n - bi (wS f n) - x9).toNat) = true then 2 else if vcA f x9 (n - bi (wS f n) - x9).toNat = vcA g y9 (m - bi (wS g m) - y9).toNat then 1 else 0)))) ∧ h9 = h) (fun _ _ => False) := by
  refine Ct.of rfl (by decide +kernel) (Nat.le_of_ble_eq_true rfl) ?_
  generalize hQF9 : QM Γ _ _ _ = QF9
  obtain ⟨w1, w2, aL, aC, f9, g9, w3, w4, w5, w6, w7⟩ := id W1
  obtain ⟨v1, v2, bL, bC, k9, j9, v3, v4, v5, v6, v7⟩ := id W2
  have hb9 := bi_01 (wS f n)
  have hb8 := bi_01 (wS g m)
  refine gg_aload_n dX9_rhymeKind_0 rfl rfl ?_
  refine gg_aload_n dX9_rhymeKind_1 rfl rfl ?_
  refine gc_X9_437 rfl dX9_rhymeKind_2 ⟨(Nat.le_of_ble_eq_true rfl), (Nat.le_of_ble_eq_true rfl)⟩ ⟨(Nat.le_of_ble_eq_true rfl), (Nat.le_of_ble_eq_true rfl)⟩ (Nat.le_of_ble_eq_true rfl) (HAt.io w3) (c_X8_isSame W1 W2) (fun _ _ w => w.elim) (fun r_2 h_2 hp => ?_)
  obtain ⟨rfl, rfl⟩ := hp
  refine gi_if_eq (tgt := 10) dX9_rhymeKind_5 (by decide) (bi_r _) (fun c_5 => ?_) (fun c_5 => ?_)
  · rw [bi_f] at c_5
    refine gg_aload_n dX9_rhymeKind_10 rfl rfl ?_
    refine gg_iload_n dX9_rhymeKind_11 rfl ?_
    refine gg_aload_n dX9_rhymeKind_12 rfl rfl ?_
    refine gg_iload_n dX9_rhymeKind_13 rfl ?_
    refine gc_X9_441 rfl dX9_rhymeKind_14 ⟨(Nat.le_of_ble_eq_true rfl), (Nat.le_of_ble_eq_true rfl)⟩ ⟨(Nat.le_of_ble_eq_true rfl), (Nat.le_of_ble_eq_true rfl)⟩ (Nat.le_of_ble_eq_true rfl) (c_X9_isSameRhyme W1 W2 hx9 hy9) (fun _ _ w => w.elim) (fun r_14 h_14 hp => ?_)
    obtain ⟨rfl, rfl⟩ := hp
    refine gi_if_eq (tgt := 22) dX9_rhymeKind_17 (by decide) (bi_r _) (fun c_17 => ?_) (fun c_17 => ?_)
    · rw [bi_f] at c_17
      refine gg_aload_n dX9_rhymeKind_22 rfl rfl ?_
      refine gg_iload_n dX9_rhymeKind_23 rfl ?_
      refine gc_X9_445 rfl dX9_rhymeKind_24 ⟨(Nat.le_of_ble_eq_true rfl), (Nat.le_of_ble_eq_true rfl)⟩ ⟨(Nat.le_of_ble_eq_true rfl), (Nat.le_of_ble_eq_true rfl)⟩ (Nat.le_of_ble_eq_true rfl) (HAt.io w3) (c_X8_vowelCode W1 ⟨by omega, by omega⟩) (fun _ _ w => w.elim) (fun r_24 h_24 hp => ?_)
      obtain ⟨rfl, rfl⟩ := hp
      refine gg_aload_n dX9_rhymeKind_27 rfl rfl ?_
      refine gg_iload_n dX9_rhymeKind_28 rfl ?_
      refine gc_X9_445 rfl dX9_rhymeKind_29 ⟨(Nat.le_of_ble_eq_true rfl), (Nat.le_of_ble_eq_true rfl)⟩ ⟨(Nat.le_of_ble_eq_true rfl), (Nat.le_of_ble_eq_true rfl)⟩ (Nat.le_of_ble_eq_true rfl) (HAt.io v3) (c_X8_vowelCode W2 ⟨by omega, by omega⟩) (fun _ _ w => w.elim) (fun r_29 h_29 hp => ?_)
      obtain ⟨rfl, rfl⟩ := hp
      refine gg_lcmp dX9_rhymeKind_32 ?_
      obtain ⟨lc, hlc⟩ : ∃ lc : Int, lg_cmp (lI (vcA f x9 (n - bi (wS f n) - x9).toNat)) (lI (vcA g y9 (m - bi (wS g m) - y9).toNat)) = iN lc ∧ InR lc := ⟨_, (iN_self _).symm, iN_rng _⟩
      rw [hlc.1]
      refine gi_if_ne (tgt := 40) dX9_rhymeKind_33 (by decide) hlc.2 (fun c_33 => ?_) (fun c_33 => ?_)
      · refine gi_iconst dX9_rhymeKind_40 ?_
        subst hQF9
        refine gg_iret dX9_rhymeKind_41 rfl rfl ⟨(Nat.le_of_ble_eq_true rfl), (Nat.le_of_ble_eq_true rfl)⟩ ?_
        have e9 := lI_eq (vc_lt (f := f) (i := x9) (k := (n - bi (wS f n) - x9).toNat) (by omega)) (vc_lt (f := g) (i := y9) (k := (m - bi (wS g m) - y9).toNat) (by omega))
        rw [← lg_cmp_0, hlc.1, ← iN_0, iN_eq hlc.2 (by decide)] at e9
        exact ⟨by rw [if_neg (by rw [c_5]; decide), if_neg (by rw [c_17]; decide), if_neg (fun q => c_33 (e9.mpr q))], rfl⟩
      · refine gi_iconst dX9_rhymeKind_36 ?_
        refine gg_goto (tgt := 41) dX9_rhymeKind_37 (by decide) ?_
        subst hQF9
        refine gg_iret dX9_rhymeKind_41 rfl rfl ⟨(Nat.le_of_ble_eq_true rfl), (Nat.le_of_ble_eq_true rfl)⟩ ?_
        have e9 := lI_eq (vc_lt (f := f) (i := x9) (k := (n - bi (wS f n) - x9).toNat) (by omega)) (vc_lt (f := g) (i := y9) (k := (m - bi (wS g m) - y9).toNat) (by omega))
        rw [← lg_cmp_0, hlc.1, ← iN_0, iN_eq hlc.2 (by decide)] at e9
        exact ⟨by rw [if_neg (by rw [c_5]; decide), if_neg (by rw [c_17]; decide), if_pos (e9.mp c_33)], rfl⟩
    · rw [bi_t] at c_17
      refine gi_iconst dX9_rhymeKind_20 ?_
      subst hQF9
      refine gg_iret dX9_rhymeKind_21 rfl rfl ⟨(Nat.le_of_ble_eq_true rfl), (Nat.le_of_ble_eq_true rfl)⟩ ?_
      exact ⟨by rw [if_neg (by rw [c_5]; decide), if_pos c_17], rfl⟩
  · rw [bi_t] at c_5
    refine gi_iconst dX9_rhymeKind_8 ?_
    subst hQF9
    refine gg_iret dX9_rhymeKind_9 rfl rfl ⟨(Nat.le_of_ble_eq_true rfl), (Nat.le_of_ble_eq_true rfl)⟩ ?_
    exact ⟨by rw [if_pos c_5], rfl⟩
/-- a place of words in two lines -/
def lw1 (f : Int → Int) (n : Int) (g : Int → Int) (m : Int) (i : Int) : Int := if i < pwL f n ∧ i < pwL g m ∧ (decide (pwN f n i = pwN g m i) && eqN (fun k => f (pwP f n i + k)) (fun k => g (pwP g m i + k)) (pwN f n i).toNat) = true then 0 else 1
def lpP (f : Int → Int) (n : Int) (g : Int → Int) (m : Int) : Nat → Int
  | 0 => 0
  | k + 1 => lpP f n g m k + lw1 f n g m k
theorem lpP_r (f : Int → Int) (n : Int) (g : Int → Int) (m : Int) : ∀ k : Nat, 0 ≤ lpP f n g m k ∧ lpP f n g m k ≤ k
  | 0 => by simp [lpP]
  | k + 1 => by
    have ih := lpP_r f n g m k
    rw [lpP, lw1]
    split <;> omega
set_option maxRecDepth 100000 in
set_option maxHeartbeats 4000000 in
theorem c_X9_lineDifference {Γ : GT} {h : XH} {q1 : Nat} {f : Int → Int} {n : Int} (L1 : LnO h.2 q1 f n) {q2 : Nat} {g : Int → Int} {m : Int} (L2 : LnO h.2 q2 g m) : Ct Γ M_X9_lineDifference [.ref q1, .ref q2] (h) (fun r h9 => r = some (.int (iN (min (lpP f n g m (max (pwL f n) (pwL g m)).toNat) 5))) ∧ h9 = h) (fun _ _ => False) := by
  refine Ct.of rfl (by decide +kernel) (Nat.le_of_ble_eq_true rfl) ?_
  generalize hQF9 : QM Γ _ _ _ = QF9
  obtain ⟨l1, l2, l3, aT, aW, wl, f9, w9, l4, l5, l6, l7, l8, l9⟩ := id L1
  obtain ⟨e1, e2, e3, bT, bW, ul, j9, u9, e4, e5, e6, e7, e8, e9⟩ := id L2
  have hl9 := lpP_r f n g m (max (pwL f n) (pwL g m)).toNat
  refine gg_aload_n dX9_lineDifference_0 rfl rfl ?_
  refine gg_ifnull (tgt := 8) dX9_lineDifference_1 (by decide) rfl (fun c_1 => ?_) (fun a_1 c_1 => ?_)
  · exact absurd c_1 (by simp)
  · refine gg_aload_n dX9_lineDifference_4 rfl rfl ?_
    refine gg_ifnonnull (tgt := 10) dX9_lineDifference_5 (by decide) rfl (fun a_5 c_5 => ?_) (fun c_5 => ?_)
    · refine gi_iconst dX9_lineDifference_10 ?_
      refine gg_istore_n dX9_lineDifference_11 (Nat.le_of_ble_eq_true rfl) rfl ?_
      refine gi_iconst dX9_lineDifference_12 ?_
      refine gg_istore_n dX9_lineDifference_13 (Nat.le_of_ble_eq_true rfl) rfl ?_
      have L_14 : ∀ (n9 : Nat) (k : Int), (((max (pwL f n) (pwL g m)) - k).toNat) = n9 → ∀ (hk : 0 ≤ k ∧ k ≤ (max (pwL f n) (pwL g m))), GG Γ M_X9_lineDifference QF9 (0, 0) (h) 14 [some (.ref q1), some (.ref q2), some (.int (iN (lpP f n g m k.toNat))), some (.int (iN k)), none, none] [] := by
        intro n9
        induction n9 using Nat.strongRecOn with
        | ind n9 ih_14 => 
          intro k hm9 hk
          have hp9 := lpP_r f n g m k.toNat
          refine gg_iload_n dX9_lineDifference_14 rfl ?_
          refine gg_aload_n dX9_lineDifference_15 rfl rfl ?_
          refine gf_X9_203 rfl dX9_lineDifference_16 (HAt.io l4) rfl ?_
          refine gg_aload_n dX9_lineDifference_19 rfl rfl ?_
          refine gf_X9_203 rfl dX9_lineDifference_20 (HAt.io e4) rfl ?_
          refine gc_X9_427 rfl dX9_lineDifference_23 ⟨(Nat.le_of_ble_eq_true rfl), (Nat.le_of_ble_eq_true rfl)⟩ ⟨(Nat.le_of_ble_eq_true rfl), (Nat.le_of_ble_eq_true rfl)⟩ ?_
          rw [iN_max ⟨by omega, by omega⟩ ⟨by omega, by omega⟩]
          refine gi_icmp_ge (tgt := 72) dX9_lineDifference_26 (by decide) ⟨by omega, by omega⟩ ⟨by omega, by omega⟩ (fun c_26 => ?_) (fun c_26 => ?_)
          · refine gg_iload_n dX9_lineDifference_72 rfl ?_
            refine gi_iconst dX9_lineDifference_73 ?_
            refine gc_X9_430 rfl dX9_lineDifference_74 ⟨(Nat.le_of_ble_eq_true rfl), (Nat.le_of_ble_eq_true rfl)⟩ ⟨(Nat.le_of_ble_eq_true rfl), (Nat.le_of_ble_eq_true rfl)⟩ ?_
            rw [iN_min ⟨by omega, by omega⟩ ⟨by omega, by omega⟩]
            subst hQF9
            refine gg_iret dX9_lineDifference_77 rfl rfl ⟨(Nat.le_of_ble_eq_true rfl), (Nat.le_of_ble_eq_true rfl)⟩ ?_
            rw [show k = (max (pwL f n) (pwL g m)) by omega]
            exact ⟨rfl, rfl⟩
          · refine gg_aload_n dX9_lineDifference_29 rfl rfl ?_
            refine gg_iload_n dX9_lineDifference_30 rfl ?_
            refine gc_X9_275 rfl dX9_lineDifference_31 ⟨(Nat.le_of_ble_eq_true rfl), (Nat.le_of_ble_eq_true rfl)⟩ ⟨(Nat.le_of_ble_eq_true rfl), (Nat.le_of_ble_eq_true rfl)⟩ (Nat.le_of_ble_eq_true rfl) (HAt.io l4) (c_X2_wordAt L1 ⟨by omega, by omega⟩) (fun _ _ w => w.elim) (fun r_31 h_31 hp => ?_)
            obtain ⟨o1, rfl, rfl, hp⟩ := hp
            rcases hp with ⟨g1, rfl⟩ | ⟨g1, x1, rfl, X1⟩
            · refine gg_astore dX9_lineDifference_34 rfl (Nat.le_of_ble_eq_true rfl) rfl ?_
              refine gg_aload_n dX9_lineDifference_36 rfl rfl ?_
              refine gg_iload_n dX9_lineDifference_37 rfl ?_
              refine gc_X9_275 rfl dX9_lineDifference_38 ⟨(Nat.le_of_ble_eq_true rfl), (Nat.le_of_ble_eq_true rfl)⟩ ⟨(Nat.le_of_ble_eq_true rfl), (Nat.le_of_ble_eq_true rfl)⟩ (Nat.le_of_ble_eq_true rfl) (HAt.io e4) (c_X2_wordAt L2 ⟨by omega, by omega⟩) (fun _ _ w => w.elim) (fun r_38 h_38 hp => ?_)
              obtain ⟨o2, rfl, rfl, hp⟩ := hp
              rcases hp with ⟨g2, rfl⟩ | ⟨g2, x2, rfl, X2⟩
              · refine gg_astore dX9_lineDifference_41 rfl (Nat.le_of_ble_eq_true rfl) rfl ?_
                refine gg_aload dX9_lineDifference_43 rfl rfl ?_
                refine gg_ifnull (tgt := 63) dX9_lineDifference_45 (by decide) rfl (fun c_45 => ?_) (fun a_45 c_45 => ?_)
                · refine gi_iinc dX9_lineDifference_63 rfl (Nat.le_of_ble_eq_true rfl) rfl ?_
                  refine gi_iinc dX9_lineDifference_66 rfl (Nat.le_of_ble_eq_true rfl) rfl ?_
                  refine gg_goto (tgt := 14) dX9_lineDifference_69 (by decide) ?_
                  refine gg_drop 4 ?_
                  refine gg_drop 5 ?_
                  exact gg_conv (ih_14 _ (by omega) (k + 1) rfl (by omega)) rfl (by rw [show (k + 1).toNat = k.toNat + 1 by omega, lpP, Int.toNat_of_nonneg hk.1, lw1, if_neg (by omega)]; simp [lset]) rfl
                · exact absurd c_45 (by simp [va_rf])
              · refine gg_astore dX9_lineDifference_41 rfl (Nat.le_of_ble_eq_true rfl) rfl ?_
                refine gg_aload dX9_lineDifference_43 rfl rfl ?_
                refine gg_ifnull (tgt := 63) dX9_lineDifference_45 (by decide) rfl (fun c_45 => ?_) (fun a_45 c_45 => ?_)
                · refine gi_iinc dX9_lineDifference_63 rfl (Nat.le_of_ble_eq_true rfl) rfl ?_
                  refine gi_iinc dX9_lineDifference_66 rfl (Nat.le_of_ble_eq_true rfl) rfl ?_
                  refine gg_goto (tgt := 14) dX9_lineDifference_69 (by decide) ?_
                  refine gg_drop 4 ?_
                  refine gg_drop 5 ?_
                  exact gg_conv (ih_14 _ (by omega) (k + 1) rfl (by omega)) rfl (by rw [show (k + 1).toNat = k.toNat + 1 by omega, lpP, Int.toNat_of_nonneg hk.1, lw1, if_neg (by omega)]; simp [lset]) rfl
                · exact absurd c_45 (by simp [va_rf])
            · refine gg_astore dX9_lineDifference_34 rfl (Nat.le_of_ble_eq_true rfl) rfl ?_
              refine gg_aload_n dX9_lineDifference_36 rfl rfl ?_
              refine gg_iload_n dX9_lineDifference_37 rfl ?_
              refine gc_X9_275 rfl dX9_lineDifference_38 ⟨(Nat.le_of_ble_eq_true rfl), (Nat.le_of_ble_eq_true rfl)⟩ ⟨(Nat.le_of_ble_eq_true rfl), (Nat.le_of_ble_eq_true rfl)⟩ (Nat.le_of_ble_eq_true rfl) (HAt.io e4) (c_X2_wordAt L2 ⟨by omega, by omega⟩) (fun _ _ w => w.elim) (fun r_38 h_38 hp => ?_)
              obtain ⟨o2, rfl, rfl, hp⟩ := hp
              rcases hp with ⟨g2, rfl⟩ | ⟨g2, x2, rfl, X2⟩
              · refine gg_astore dX9_lineDifference_41 rfl (Nat.le_of_ble_eq_true rfl) rfl ?_
                refine gg_aload dX9_lineDifference_43 rfl rfl ?_
                refine gg_ifnull (tgt := 63) dX9_lineDifference_45 (by decide) rfl (fun c_45 => ?_) (fun a_45 c_45 => ?_)
                · exact absurd c_45 (by simp [va_rf])
                · refine gg_aload dX9_lineDifference_48 rfl rfl ?_
                  refine gg_ifnull (tgt := 63) dX9_lineDifference_50 (by decide) rfl (fun c_50 => ?_) (fun a_50 c_50 => ?_)
                  · refine gi_iinc dX9_lineDifference_63 rfl (Nat.le_of_ble_eq_true rfl) rfl ?_
                    refine gi_iinc dX9_lineDifference_66 rfl (Nat.le_of_ble_eq_true rfl) rfl ?_
                    refine gg_goto (tgt := 14) dX9_lineDifference_69 (by decide) ?_
                    refine gg_drop 4 ?_
                    refine gg_drop 5 ?_
                    exact gg_conv (ih_14 _ (by omega) (k + 1) rfl (by omega)) rfl (by rw [show (k + 1).toNat = k.toNat + 1 by omega, lpP, Int.toNat_of_nonneg hk.1, lw1, if_neg (by omega)]; simp [lset]) rfl
                  · exact absurd c_50 (by simp [va_rf])
              · refine gg_astore dX9_lineDifference_41 rfl (Nat.le_of_ble_eq_true rfl) rfl ?_
                refine gg_aload dX9_lineDifference_43 rfl rfl ?_
                refine gg_ifnull (tgt := 63) dX9_lineDifference_45 (by decide) rfl (fun c_45 => ?_) (fun a_45 c_45 => ?_)
                · exact absurd c_45 (by simp [va_rf])
                · refine gg_aload dX9_lineDifference_48 rfl rfl ?_
                  refine gg_ifnull (tgt := 63) dX9_lineDifference_50 (by decide) rfl (fun c_50 => ?_) (fun a_50 c_50 => ?_)
                  · exact absurd c_50 (by simp [va_rf])
                  · refine gg_aload dX9_lineDifference_53 rfl rfl ?_
                    refine gg_aload dX9_lineDifference_55 rfl rfl ?_
                    refine gc_X9_437 rfl dX9_lineDifference_57 ⟨(Nat.le_of_ble_eq_true rfl), (Nat.le_of_ble_eq_true rfl)⟩ ⟨(Nat.le_of_ble_eq_true rfl), (Nat.le_of_ble_eq_true rfl)⟩ (Nat.le_of_ble_eq_true rfl) (HAt.io X1.2.2.choose_spec.choose_spec.choose_spec.choose_spec.1) (c_X8_isSame X1 X2) (fun _ _ w => w.elim) (fun r_57 h_57 hp => ?_)
                    obtain ⟨rfl, rfl⟩ := hp
                    refine gi_if_ne (tgt := 66) dX9_lineDifference_60 (by decide) (bi_r _) (fun c_60 => ?_) (fun c_60 => ?_)
                    · rw [bi_t] at c_60
                      refine gi_iinc dX9_lineDifference_66 rfl (Nat.le_of_ble_eq_true rfl) rfl ?_
                      refine gg_goto (tgt := 14) dX9_lineDifference_69 (by decide) ?_
                      refine gg_drop 4 ?_
                      refine gg_drop 5 ?_
                      exact gg_conv (ih_14 _ (by omega) (k + 1) rfl (by omega)) rfl (by rw [show (k + 1).toNat = k.toNat + 1 by omega, lpP, Int.toNat_of_nonneg hk.1, lw1, if_pos ⟨by omega, by omega, c_60⟩]; simp [lset]) rfl
                    · rw [bi_f] at c_60
                      refine gi_iinc dX9_lineDifference_63 rfl (Nat.le_of_ble_eq_true rfl) rfl ?_
                      refine gi_iinc dX9_lineDifference_66 rfl (Nat.le_of_ble_eq_true rfl) rfl ?_
                      refine gg_goto (tgt := 14) dX9_lineDifference_69 (by decide) ?_
                      refine gg_drop 4 ?_
                      refine gg_drop 5 ?_
                      exact gg_conv (ih_14 _ (by omega) (k + 1) rfl (by omega)) rfl (by rw [show (k + 1).toNat = k.toNat + 1 by omega, lpP, Int.toNat_of_nonneg hk.1, lw1, if_neg (fun q => by rw [q.2.2] at c_60; exact absurd c_60 (by decide))]; simp [lset]) rfl
      refine gg_drop 4 ?_
      refine gg_drop 5 ?_
      exact L_14 _ 0 rfl (by omega)
    · exact absurd c_5 (by simp)
