/-! the reference: reading -/
def vow (c : Int) : Bool := c == 97 || c == 101 || c == 105 || c == 111 || c == 117 || c == 121
def isLet (c : Int) : Bool := decide (97 ≤ c) && decide (c ≤ 122)
def bi (b : Bool) : Int := if b then 1 else 0
theorem bi_01 (b : Bool) : bi b = 0 ∨ bi b = 1 := by cases b <;> simp [bi]
theorem bi_r (b : Bool) : InR (bi b) := by cases b <;> simp [bi, InR]
theorem bi_t {b : Bool} : bi b ≠ 0 ↔ b = true := by cases b <;> simp [bi]
theorem bi_f {b : Bool} : bi b = 0 ↔ b = false := by cases b <;> simp [bi]
theorem bi_d {p : Prop} [Decidable p] : bi (decide p) = if p then 1 else 0 := by by_cases h : p <;> simp [bi, h]
theorem ior_1 {a : Int} (h : a = 0 ∨ a = 1) : iN a ||| iN 1 = iN 1 := by rcases h with rfl | rfl <;> rfl
theorem ior_0 {a : Int} : iN a ||| iN 0 = iN a := by
  show Int32.ofInt a ||| 0 = Int32.ofInt a
  simp
theorem ior_m {a b : Int} (h : a = 0 ∨ a = 1) (h2 : b = 0 ∨ b = 1) : iN a ||| iN b = iN (max a b) := by rcases h with rfl | rfl <;> rcases h2 with rfl | rfl <;> rfl
def sgn (F : Nat → Int) (A : Nat → Int → Int) : Int := if F 11 = 0 ∧ F 9 < F 8 then A 5 (F 9) else -1
def InpOk (F : Nat → Int) (A : Nat → Int → Int) : Prop := (0 ≤ F 8 ∧ F 8 ≤ 60) ∧ (0 ≤ F 9 ∧ F 9 ≤ F 8) ∧ (F 11 = 0 ∨ F 11 = 1) ∧ ∀ i, 0 ≤ i ∧ i < F 8 → 0 ≤ A 5 i ∧ A 5 i < 65536
theorem sgn_r {F : Nat → Int} {A : Nat → Int → Int} (I : InpOk F A) : -1 ≤ sgn F A ∧ sgn F A < 65536 := by
  unfold sgn
  split
  · have := I.2.2.2 (F 9) ⟨I.2.1.1, by omega⟩
    omega
  · omega
theorem sgn_lt {F : Nat → Int} {A : Nat → Int → Int} (h : sgn F A ≠ -1) : F 11 = 0 ∧ F 9 < F 8 ∧ sgn F A = A 5 (F 9) := by
  unfold sgn at h ⊢
  split at h
  · rename_i q; exact ⟨q.1, q.2, by rw [if_pos q]⟩
  · exact absurd rfl h

set_option maxRecDepth 100000 in
set_option maxHeartbeats 4000000 in
theorem c_X10_in {Γ : GT} {h : XH} {v a b : Int} (hv : InR v) (ha : InR a) (hb : InR b) : Ct Γ M_X10_in [.int (iN v), .int (iN a), .int (iN b)] (h) (fun r h9 => r = some (.int (iN (bi (decide (a ≤ v) && decide (v ≤ b))))) ∧ h9 = h) (fun _ _ => False) := by
  refine Ct.of rfl (by decide +kernel) (Nat.le_of_ble_eq_true rfl) ?_
  generalize hQF9 : QM Γ _ _ _ = QF9
  refine gg_iload_n dX10_in_0 rfl ?_
  refine gg_iload_n dX10_in_1 rfl ?_
  refine gi_icmp_lt (tgt := 14) dX10_in_2 (by decide) ⟨by omega, by omega⟩ ⟨by omega, by omega⟩ (fun c_2 => ?_) (fun c_2 => ?_)
  · refine gi_iconst dX10_in_14 ?_
    subst hQF9
    refine gg_iret dX10_in_15 rfl (nar_bool (by omega)) ⟨(Nat.le_of_ble_eq_true rfl), (Nat.le_of_ble_eq_true rfl)⟩ ?_
    exact ⟨by congr 3; simp only [bi]; split <;> simp_all <;> omega, rfl⟩
  · refine gg_iload_n dX10_in_5 rfl ?_
    refine gg_iload_n dX10_in_6 rfl ?_
    refine gi_icmp_gt (tgt := 14) dX10_in_7 (by decide) ⟨by omega, by omega⟩ ⟨by omega, by omega⟩ (fun c_7 => ?_) (fun c_7 => ?_)
    · refine gi_iconst dX10_in_14 ?_
      subst hQF9
      refine gg_iret dX10_in_15 rfl (nar_bool (by omega)) ⟨(Nat.le_of_ble_eq_true rfl), (Nat.le_of_ble_eq_true rfl)⟩ ?_
      exact ⟨by congr 3; simp only [bi]; split <;> simp_all <;> omega, rfl⟩
    · refine gi_iconst dX10_in_10 ?_
      refine gg_goto (tgt := 15) dX10_in_11 (by decide) ?_
      subst hQF9
      refine gg_iret dX10_in_15 rfl (nar_bool (by omega)) ⟨(Nat.le_of_ble_eq_true rfl), (Nat.le_of_ble_eq_true rfl)⟩ ?_
      exact ⟨by congr 3; simp only [bi]; split <;> simp_all <;> omega, rfl⟩
set_option maxRecDepth 100000 in
set_option maxHeartbeats 4000000 in
theorem c_X10_fails {Γ : GT} {h : XH} {F : Nat → Int} {A : Nat → Int → Int} {w : Int} : Ct Γ M_X10_fails [.ref (g_L Γ 0), .int (iN w)] (mst Γ h F A) (fun r h9 => r = some (.int (iN (0))) ∧ h9 = mst Γ h (uF F 0 w) A) (fun _ _ => False) := by
  refine Ct.of rfl (by decide +kernel) (Nat.le_of_ble_eq_true rfl) ?_
  generalize hQF9 : QM Γ _ _ _ = QF9
  refine gg_aload_n dX10_fails_0 rfl rfl ?_
  refine gg_iload_n dX10_fails_1 rfl ?_
  refine gm_put3 rfl dX10_fails_2 (by (try simp only [uF_ss, uF_cc, id_eq, Nat.reduceLT, reduceCtorEq]); rfl) ?_
  refine gi_iconst dX10_fails_5 ?_
  subst hQF9
  refine gg_iret dX10_fails_6 rfl rfl ⟨(Nat.le_of_ble_eq_true rfl), (Nat.le_of_ble_eq_true rfl)⟩ ?_
  exact ⟨rfl, rfl⟩
set_option maxRecDepth 100000 in
set_option maxHeartbeats 4000000 in
theorem c_X10_isLetter {Γ : GT} {h : XH} {c : Int} (hc : InR c) : Ct Γ M_X10_isLetter [.int (iN c)] (h) (fun r h9 => r = some (.int (iN (bi (isLet c)))) ∧ h9 = h) (fun _ _ => False) := by
  refine Ct.of rfl (by decide +kernel) (Nat.le_of_ble_eq_true rfl) ?_
  generalize hQF9 : QM Γ _ _ _ = QF9
  refine gg_iload_n dX10_isLetter_0 rfl ?_
  refine gi_bipush dX10_isLetter_1 (by decide) ?_
  refine gi_bipush dX10_isLetter_3 (by decide) ?_
  refine gc_X10_158 rfl dX10_isLetter_5 ⟨(Nat.le_of_ble_eq_true rfl), (Nat.le_of_ble_eq_true rfl)⟩ ⟨(Nat.le_of_ble_eq_true rfl), (Nat.le_of_ble_eq_true rfl)⟩ (Nat.le_of_ble_eq_true rfl) (c_X10_in hc ⟨by omega, by omega⟩ ⟨by omega, by omega⟩) (fun _ _ w => w.elim) (fun r_5 h_5 hp => ?_)
  obtain ⟨rfl, rfl⟩ := hp
  subst hQF9
  refine gg_iret dX10_isLetter_8 rfl (nar_bool (bi_01 _)) ⟨(Nat.le_of_ble_eq_true rfl), (Nat.le_of_ble_eq_true rfl)⟩ ?_
  exact ⟨rfl, rfl⟩
set_option maxRecDepth 100000 in
set_option maxHeartbeats 4000000 in
theorem c_X10_isVowel {Γ : GT} {h : XH} {c : Int} (hc : InR c) : Ct Γ M_X10_isVowel [.int (iN c)] (h) (fun r h9 => r = some (.int (iN (bi (vow c)))) ∧ h9 = h) (fun _ _ => False) := by
  refine Ct.of rfl (by decide +kernel) (Nat.le_of_ble_eq_true rfl) ?_
  generalize hQF9 : QM Γ _ _ _ = QF9
  refine gg_iload_n dX10_isVowel_0 rfl ?_
  refine gi_bipush dX10_isVowel_1 (by decide) ?_
  refine gi_icmp_eq (tgt := 36) dX10_isVowel_3 (by decide) hc ⟨by omega, by omega⟩ (fun c_3 => ?_) (fun c_3 => ?_)
  · refine gi_iconst dX10_isVowel_36 ?_
    refine gg_goto (tgt := 41) dX10_isVowel_37 (by decide) ?_
    subst hQF9
    refine gg_iret dX10_isVowel_41 rfl (nar_bool (by omega)) ⟨(Nat.le_of_ble_eq_true rfl), (Nat.le_of_ble_eq_true rfl)⟩ ?_
    exact ⟨by congr 3; simp [bi, vow, *], rfl⟩
  · refine gg_iload_n dX10_isVowel_6 rfl ?_
    refine gi_bipush dX10_isVowel_7 (by decide) ?_
    refine gi_icmp_eq (tgt := 36) dX10_isVowel_9 (by decide) hc ⟨by omega, by omega⟩ (fun c_9 => ?_) (fun c_9 => ?_)
    · refine gi_iconst dX10_isVowel_36 ?_
      refine gg_goto (tgt := 41) dX10_isVowel_37 (by decide) ?_
      subst hQF9
      refine gg_iret dX10_isVowel_41 rfl (nar_bool (by omega)) ⟨(Nat.le_of_ble_eq_true rfl), (Nat.le_of_ble_eq_true rfl)⟩ ?_
      exact ⟨by congr 3; simp [bi, vow, *], rfl⟩
    · refine gg_iload_n dX10_isVowel_12 rfl ?_
      refine gi_bipush dX10_isVowel_13 (by decide) ?_
      refine gi_icmp_eq (tgt := 36) dX10_isVowel_15 (by decide) hc ⟨by omega, by omega⟩ (fun c_15 => ?_) (fun c_15 => ?_)
      · refine gi_iconst dX10_isVowel_36 ?_
        refine gg_goto (tgt := 41) dX10_isVowel_37 (by decide) ?_
        subst hQF9
        refine gg_iret dX10_isVowel_41 rfl (nar_bool (by omega)) ⟨(Nat.le_of_ble_eq_true rfl), (Nat.le_of_ble_eq_true rfl)⟩ ?_
        exact ⟨by congr 3; simp [bi, vow, *], rfl⟩
      · refine gg_iload_n dX10_isVowel_18 rfl ?_
        refine gi_bipush dX10_isVowel_19 (by decide) ?_
        refine gi_icmp_eq (tgt := 36) dX10_isVowel_21 (by decide) hc ⟨by omega, by omega⟩ (fun c_21 => ?_) (fun c_21 => ?_)
        · refine gi_iconst dX10_isVowel_36 ?_
          refine gg_goto (tgt := 41) dX10_isVowel_37 (by decide) ?_
          subst hQF9
          refine gg_iret dX10_isVowel_41 rfl (nar_bool (by omega)) ⟨(Nat.le_of_ble_eq_true rfl), (Nat.le_of_ble_eq_true rfl)⟩ ?_
          exact ⟨by congr 3; simp [bi, vow, *], rfl⟩
        · refine gg_iload_n dX10_isVowel_24 rfl ?_
          refine gi_bipush dX10_isVowel_25 (by decide) ?_
          refine gi_icmp_eq (tgt := 36) dX10_isVowel_27 (by decide) hc ⟨by omega, by omega⟩ (fun c_27 => ?_) (fun c_27 => ?_)
          · refine gi_iconst dX10_isVowel_36 ?_
            refine gg_goto (tgt := 41) dX10_isVowel_37 (by decide) ?_
            subst hQF9
            refine gg_iret dX10_isVowel_41 rfl (nar_bool (by omega)) ⟨(Nat.le_of_ble_eq_true rfl), (Nat.le_of_ble_eq_true rfl)⟩ ?_
            exact ⟨by congr 3; simp [bi, vow, *], rfl⟩
          · refine gg_iload_n dX10_isVowel_30 rfl ?_
            refine gi_bipush dX10_isVowel_31 (by decide) ?_
            refine gi_icmp_ne (tgt := 40) dX10_isVowel_33 (by decide) hc ⟨by omega, by omega⟩ (fun c_33 => ?_) (fun c_33 => ?_)
            · refine gi_iconst dX10_isVowel_40 ?_
              subst hQF9
              refine gg_iret dX10_isVowel_41 rfl (nar_bool (by omega)) ⟨(Nat.le_of_ble_eq_true rfl), (Nat.le_of_ble_eq_true rfl)⟩ ?_
              exact ⟨by congr 3; simp [bi, vow, *], rfl⟩
            · refine gi_iconst dX10_isVowel_36 ?_
              refine gg_goto (tgt := 41) dX10_isVowel_37 (by decide) ?_
              subst hQF9
              refine gg_iret dX10_isVowel_41 rfl (nar_bool (by omega)) ⟨(Nat.le_of_ble_eq_true rfl), (Nat.le_of_ble_eq_true rfl)⟩ ?_
              exact ⟨by congr 3; simp [bi, vow, *], rfl⟩
set_option maxRecDepth 100000 in
set_option maxHeartbeats 4000000 in
theorem c_X10_sign {Γ : GT} {h : XH} {F : Nat → Int} {A : Nat → Int → Int} (I : InpOk F A) : Ct Γ M_X10_sign [.ref (g_L Γ 0)] (mst Γ h F A) (fun r h9 => r = some (.int (iN (sgn F A))) ∧ h9 = mst Γ h F A) (fun _ _ => False) := by
  refine Ct.of rfl (by decide +kernel) (Nat.le_of_ble_eq_true rfl) ?_
  generalize hQF9 : QM Γ _ _ _ = QF9
  obtain ⟨i1, i2, i3, i4⟩ := id I
  refine gg_aload_n dX10_sign_0 rfl rfl ?_
  refine gm_get45 rfl dX10_sign_1 (by (try simp only [uF_s, uF_n, ne_eq, not_false_eq_true, Nat.reduceEqDiff, reduceCtorEq]); rfl) ?_
  refine gi_if_ne (tgt := 30) dX10_sign_4 (by decide) ⟨by omega, by omega⟩ (fun c_4 => ?_) (fun c_4 => ?_)
  · refine gi_iconst dX10_sign_30 ?_
    subst hQF9
    refine gg_iret dX10_sign_31 rfl rfl ⟨(Nat.le_of_ble_eq_true rfl), (Nat.le_of_ble_eq_true rfl)⟩ ?_
    exact ⟨by congr 3; simp only [sgn]; split <;> first | rfl | omega, rfl⟩
  · refine gg_aload_n dX10_sign_7 rfl rfl ?_
    refine gm_get39 rfl dX10_sign_8 (by (try simp only [uF_s, uF_n, ne_eq, not_false_eq_true, Nat.reduceEqDiff, reduceCtorEq]); rfl) ?_
    refine gg_aload_n dX10_sign_11 rfl rfl ?_
    refine gm_get36 rfl dX10_sign_12 (by (try simp only [uF_s, uF_n, ne_eq, not_false_eq_true, Nat.reduceEqDiff, reduceCtorEq]); rfl) ?_
    refine gi_icmp_ge (tgt := 30) dX10_sign_15 (by decide) ⟨by omega, by omega⟩ ⟨by omega, by omega⟩ (fun c_15 => ?_) (fun c_15 => ?_)
    · refine gi_iconst dX10_sign_30 ?_
      subst hQF9
      refine gg_iret dX10_sign_31 rfl rfl ⟨(Nat.le_of_ble_eq_true rfl), (Nat.le_of_ble_eq_true rfl)⟩ ?_
      exact ⟨by congr 3; simp only [sgn]; split <;> first | rfl | omega, rfl⟩
    · refine gg_aload_n dX10_sign_18 rfl rfl ?_
      refine gm_get33 rfl dX10_sign_19 ?_
      refine gg_aload_n dX10_sign_22 rfl rfl ?_
      refine gm_get39 rfl dX10_sign_23 (by (try simp only [uF_s, uF_n, ne_eq, not_false_eq_true, Nat.reduceEqDiff, reduceCtorEq]); rfl) ?_
      refine gm_iald dX10_sign_26 (by decide) rfl (by decide) ⟨by omega, by simp only [ml9]; omega⟩ (by (try simp only [uA_s, uA_n, ne_eq, not_false_eq_true, Nat.reduceEqDiff, reduceCtorEq]); rfl) ?_
      refine gg_goto (tgt := 31) dX10_sign_27 (by decide) ?_
      subst hQF9
      refine gg_iret dX10_sign_31 rfl rfl ⟨(Nat.le_of_ble_eq_true rfl), (Nat.le_of_ble_eq_true rfl)⟩ ?_
      exact ⟨by congr 3; simp only [sgn]; split <;> first | rfl | omega, rfl⟩
set_option maxRecDepth 100000 in
set_option maxHeartbeats 4000000 in
theorem c_X10_takes {Γ : GT} {h : XH} {F : Nat → Int} {A : Nat → Int → Int} (I : InpOk F A) {c : Int} (hc : InR c) : Ct Γ M_X10_takes [.ref (g_L Γ 0), .int (iN c)] (mst Γ h F A) (fun r h9 => r = none ∧ h9 = mst Γ h (if sgn F A = c then uF F 9 (F 9 + 1) else uF F 11 1) (A)) (fun _ _ => False) := by
  refine Ct.of rfl (by decide +kernel) (Nat.le_of_ble_eq_true rfl) ?_
  generalize hQF9 : QM Γ _ _ _ = QF9
  obtain ⟨i1, i2, i3, i4⟩ := id I
  have hs := sgn_r I
  refine gg_aload_n dX10_takes_0 rfl rfl ?_
  refine gc_X10_166 rfl dX10_takes_1 ⟨(Nat.le_of_ble_eq_true rfl), (Nat.le_of_ble_eq_true rfl)⟩ ⟨(Nat.le_of_ble_eq_true rfl), (Nat.le_of_ble_eq_true rfl)⟩ (Nat.le_of_ble_eq_true rfl) (HAt.mu rfl) (c_X10_sign (by refine ⟨?_, ?_, ?_, ?_⟩ <;> (try simp only [uF_s, uF_n, uF_ss, uF_cc, id_eq, ne_eq, not_false_eq_true, Nat.reduceEqDiff, Nat.reduceLT, reduceCtorEq]) <;> first | omega | assumption)) (fun _ _ w => w.elim) (fun r_1 h_1 hp => ?_)
  obtain ⟨rfl, rfl⟩ := hp
  refine gg_iload_n dX10_takes_4 rfl ?_
  refine gi_icmp_ne (tgt := 21) dX10_takes_5 (by decide) ⟨by omega, by omega⟩ ⟨by omega, by omega⟩ (fun c_5 => ?_) (fun c_5 => ?_)
  · refine gg_aload_n dX10_takes_21 rfl rfl ?_
    refine gi_iconst dX10_takes_22 ?_
    refine gm_put45 rfl dX10_takes_23 (by omega) (by (try simp only [uF_ss, uF_cc, id_eq, Nat.reduceLT, reduceCtorEq]); rfl) ?_
    subst hQF9
    refine gg_vret dX10_takes_26 rfl ⟨(Nat.le_of_ble_eq_true rfl), (Nat.le_of_ble_eq_true rfl)⟩ ?_
    exact ⟨rfl, by simp [*]⟩
  · refine gg_aload_n dX10_takes_8 rfl rfl ?_
    refine gg_dup dX10_takes_9 rfl ?_
    refine gm_get39 rfl dX10_takes_10 (by (try simp only [uF_s, uF_n, ne_eq, not_false_eq_true, Nat.reduceEqDiff, reduceCtorEq]); rfl) ?_
    refine gi_iconst dX10_takes_13 ?_
    refine gi_iadd dX10_takes_14 ?_
    refine gm_put39 rfl dX10_takes_15 (by (try simp only [uF_ss, uF_cc, id_eq, Nat.reduceLT, reduceCtorEq]); rfl) ?_
    refine gg_goto (tgt := 26) dX10_takes_18 (by decide) ?_
    subst hQF9
    refine gg_vret dX10_takes_26 rfl ⟨(Nat.le_of_ble_eq_true rfl), (Nat.le_of_ble_eq_true rfl)⟩ ?_
    exact ⟨rfl, by simp [*]⟩
set_option maxRecDepth 100000 in
set_option maxHeartbeats 4000000 in
theorem c_X10_digit {Γ : GT} {h : XH} {F : Nat → Int} {A : Nat → Int → Int} (I : InpOk F A) {a b : Int} (ha : 0 ≤ a ∧ a ≤ 9) (hb : 0 ≤ b ∧ b ≤ 9) : Ct Γ M_X10_digit [.ref (g_L Γ 0), .int (iN a), .int (iN b)] (mst Γ h F A) (fun r h9 => (48 + a ≤ sgn F A ∧ sgn F A ≤ 48 + b ∧ r = some (.int (iN (sgn F A - 48))) ∧ h9 = mst Γ h (uF F 9 (F 9 + 1)) A) ∨ (¬ (48 + a ≤ sgn F A ∧ sgn F A ≤ 48 + b) ∧ r = some (.int (iN 0)) ∧ h9 = mst Γ h (uF F 11 1) A)) (fun _ _ => False) := by
  refine Ct.of rfl (by decide +kernel) (Nat.le_of_ble_eq_true rfl) ?_
  generalize hQF9 : QM Γ _ _ _ = QF9
  obtain ⟨i1, i2, i3, i4⟩ := id I
  have hs := sgn_r I
  have hl := sgn_lt (F := F) (A := A)
  refine gg_aload_n dX10_digit_0 rfl rfl ?_
  refine gg_dup dX10_digit_1 rfl ?_
  refine gm_get45 rfl dX10_digit_2 (by (try simp only [uF_s, uF_n, ne_eq, not_false_eq_true, Nat.reduceEqDiff, reduceCtorEq]); rfl) ?_
  refine gg_aload_n dX10_digit_5 rfl rfl ?_
  refine gc_X10_166 rfl dX10_digit_6 ⟨(Nat.le_of_ble_eq_true rfl), (Nat.le_of_ble_eq_true rfl)⟩ ⟨(Nat.le_of_ble_eq_true rfl), (Nat.le_of_ble_eq_true rfl)⟩ (Nat.le_of_ble_eq_true rfl) (HAt.mu rfl) (c_X10_sign (by refine ⟨?_, ?_, ?_, ?_⟩ <;> (try simp only [uF_s, uF_n, uF_ss, uF_cc, id_eq, ne_eq, not_false_eq_true, Nat.reduceEqDiff, Nat.reduceLT, reduceCtorEq]) <;> first | omega | assumption)) (fun _ _ w => w.elim) (fun r_6 h_6 hp => ?_)
  obtain ⟨rfl, rfl⟩ := hp
  refine gi_bipush dX10_digit_9 (by decide) ?_
  refine gg_iload_n dX10_digit_11 rfl ?_
  refine gi_iadd dX10_digit_12 ?_
  refine gi_bipush dX10_digit_13 (by decide) ?_
  refine gg_iload_n dX10_digit_15 rfl ?_
  refine gi_iadd dX10_digit_16 ?_
  refine gc_X10_158 rfl dX10_digit_17 ⟨(Nat.le_of_ble_eq_true rfl), (Nat.le_of_ble_eq_true rfl)⟩ ⟨(Nat.le_of_ble_eq_true rfl), (Nat.le_of_ble_eq_true rfl)⟩ (Nat.le_of_ble_eq_true rfl) (c_X10_in ⟨by omega, by omega⟩ ⟨by omega, by omega⟩ ⟨by omega, by omega⟩) (fun _ _ w => w.elim) (fun r_17 h_17 hp => ?_)
  obtain ⟨rfl, rfl⟩ := hp
  refine gi_if_ne (tgt := 27) dX10_digit_20 (by decide) (bi_r _) (fun c_20 => ?_) (fun c_20 => ?_)
  · rw [bi_t] at c_20; simp only [Bool.and_eq_true, decide_eq_true_eq] at c_20
    obtain ⟨l1, l2, l3⟩ := hl (by omega)
    refine gi_iconst dX10_digit_27 ?_
    refine gi_ior _ (by first | exact ior_1 (by omega) | exact ior_0 | exact ior_m (by omega) (by omega)) dX10_digit_28 ?_
    refine gm_put45 rfl dX10_digit_29 (by omega) (by (try simp only [uF_ss, uF_cc, id_eq, Nat.reduceLT, reduceCtorEq]); rfl) ?_
    refine gg_aload_n dX10_digit_32 rfl rfl ?_
    refine gm_get45 rfl dX10_digit_33 (by (try simp only [uF_s, uF_n, ne_eq, not_false_eq_true, Nat.reduceEqDiff, reduceCtorEq]); rfl) ?_
    refine gi_if_eq (tgt := 41) dX10_digit_36 (by decide) ⟨by omega, by omega⟩ (fun c_36 => ?_) (fun c_36 => ?_)
    · refine gg_aload_n dX10_digit_41 rfl rfl ?_
      refine gg_dup dX10_digit_42 rfl ?_
      refine gm_get39 rfl dX10_digit_43 (by (try simp only [uF_s, uF_n, ne_eq, not_false_eq_true, Nat.reduceEqDiff, reduceCtorEq]); rfl) ?_
      refine gi_iconst dX10_digit_46 ?_
      refine gi_iadd dX10_digit_47 ?_
      refine gm_put39 rfl dX10_digit_48 (by (try simp only [uF_ss, uF_cc, id_eq, Nat.reduceLT, reduceCtorEq]); rfl) ?_
      refine gg_aload_n dX10_digit_51 rfl rfl ?_
      refine gm_get33 rfl dX10_digit_52 ?_
      refine gg_aload_n dX10_digit_55 rfl rfl ?_
      refine gm_get39 rfl dX10_digit_56 (by (try simp only [uF_s, uF_n, ne_eq, not_false_eq_true, Nat.reduceEqDiff, reduceCtorEq]); rfl) ?_
      refine gi_iconst dX10_digit_59 ?_
      refine gi_isub dX10_digit_60 ?_
      refine gm_iald dX10_digit_61 (by decide) rfl (by decide) ⟨by omega, by simp only [ml9]; omega⟩ (by (try simp only [uA_s, uA_n, ne_eq, not_false_eq_true, Nat.reduceEqDiff, reduceCtorEq]); rfl) ?_
      refine gi_bipush dX10_digit_62 (by decide) ?_
      refine gi_isub dX10_digit_64 ?_
      subst hQF9
      refine gg_iret dX10_digit_65 rfl rfl ⟨(Nat.le_of_ble_eq_true rfl), (Nat.le_of_ble_eq_true rfl)⟩ ?_
      first | (exfalso; omega) | exact Or.inl ⟨by omega, by omega, by rw [l3]; congr 3; first | rfl | (congr 1; congr 1; omega), by rw [uF_e (F := uF F 9 (F 9 + 1)) (k := 11) (by simp only [uF_s, uF_n, uF_ss, uF_cc, id_eq, ne_eq, not_false_eq_true, Nat.reduceEqDiff, Nat.reduceLT, reduceCtorEq])]⟩
    · refine gi_iconst dX10_digit_39 ?_
      subst hQF9
      refine gg_iret dX10_digit_40 rfl rfl ⟨(Nat.le_of_ble_eq_true rfl), (Nat.le_of_ble_eq_true rfl)⟩ ?_
      first | exact Or.inr ⟨by omega, rfl, rfl⟩ | (exfalso; omega)
  · rw [bi_f] at c_20; simp only [Bool.and_eq_false_iff, decide_eq_false_iff_not] at c_20
    refine gi_iconst dX10_digit_23 ?_
    refine gg_goto (tgt := 28) dX10_digit_24 (by decide) ?_
    refine gi_ior _ (by first | exact ior_1 (by omega) | exact ior_0 | exact ior_m (by omega) (by omega)) dX10_digit_28 ?_
    refine gm_put45 rfl dX10_digit_29 (by omega) (by (try simp only [uF_ss, uF_cc, id_eq, Nat.reduceLT, reduceCtorEq]); rfl) ?_
    refine gg_aload_n dX10_digit_32 rfl rfl ?_
    refine gm_get45 rfl dX10_digit_33 (by (try simp only [uF_s, uF_n, ne_eq, not_false_eq_true, Nat.reduceEqDiff, reduceCtorEq]); rfl) ?_
    refine gi_if_eq (tgt := 41) dX10_digit_36 (by decide) ⟨by omega, by omega⟩ (fun c_36 => ?_) (fun c_36 => ?_)
    · refine gg_aload_n dX10_digit_41 rfl rfl ?_
      refine gg_dup dX10_digit_42 rfl ?_
      refine gm_get39 rfl dX10_digit_43 (by (try simp only [uF_s, uF_n, ne_eq, not_false_eq_true, Nat.reduceEqDiff, reduceCtorEq]); rfl) ?_
      refine gi_iconst dX10_digit_46 ?_
      refine gi_iadd dX10_digit_47 ?_
      refine gm_put39 rfl dX10_digit_48 (by (try simp only [uF_ss, uF_cc, id_eq, Nat.reduceLT, reduceCtorEq]); rfl) ?_
      refine gg_aload_n dX10_digit_51 rfl rfl ?_
      refine gm_get33 rfl dX10_digit_52 ?_
      refine gg_aload_n dX10_digit_55 rfl rfl ?_
      refine gm_get39 rfl dX10_digit_56 (by (try simp only [uF_s, uF_n, ne_eq, not_false_eq_true, Nat.reduceEqDiff, reduceCtorEq]); rfl) ?_
      refine gi_iconst dX10_digit_59 ?_
      refine gi_isub dX10_digit_60 ?_
      refine gm_iald dX10_digit_61 (by decide) rfl (by decide) ⟨by omega, by simp only [ml9]; omega⟩ (by (try simp only [uA_s, uA_n, ne_eq, not_false_eq_true, Nat.reduceEqDiff, reduceCtorEq]); rfl) ?_
      refine gi_bipush dX10_digit_62 (by decide) ?_
      refine gi_isub dX10_digit_64 ?_
      subst hQF9
      refine gg_iret dX10_digit_65 rfl rfl ⟨(Nat.le_of_ble_eq_true rfl), (Nat.le_of_ble_eq_true rfl)⟩ ?_
      first | (exfalso; omega) | exact Or.inl ⟨by omega, by omega, by rw [l3]; congr 3; first | rfl | (congr 1; congr 1; omega), by rw [uF_e (F := uF F 9 (F 9 + 1)) (k := 11) (by simp only [uF_s, uF_n, uF_ss, uF_cc, id_eq, ne_eq, not_false_eq_true, Nat.reduceEqDiff, Nat.reduceLT, reduceCtorEq])]⟩
    · refine gi_iconst dX10_digit_39 ?_
      subst hQF9
      refine gg_iret dX10_digit_40 rfl rfl ⟨(Nat.le_of_ble_eq_true rfl), (Nat.le_of_ble_eq_true rfl)⟩ ?_
      first | exact Or.inr ⟨by omega, rfl, rfl⟩ | (exfalso; omega)
def wlen (f : Int → Int) (n : Int) : Nat → Int → Int
  | 0, _ => 0
  | m + 1, p => if p < n ∧ isLet (f p) = true then 1 + wlen f n m (p + 1) else 0
theorem wlen_r (f : Int → Int) (n : Int) : ∀ (m : Nat) (p : Int), 0 ≤ wlen f n m p ∧ wlen f n m p ≤ m ∧ (p ≤ n → p + wlen f n m p ≤ n)
  | 0, p => by simp [wlen]
  | m + 1, p => by
    have := wlen_r f n m (p + 1)
    unfold wlen
    split <;> omega
theorem wlen_s {f : Int → Int} {n : Int} {p k : Int} (h0 : 0 ≤ k) (h : k < 12) : wlen f n (12 - k).toNat p = if p < n ∧ isLet (f p) = true then 1 + wlen f n (12 - (k + 1)).toNat (p + 1) else 0 := by
  obtain ⟨m, hm⟩ : ∃ m, (12 - k).toNat = m + 1 := ⟨(12 - (k + 1)).toNat, by omega⟩
  rw [hm, wlen, show (12 - (k + 1)).toNat = m by omega]
set_option maxRecDepth 100000 in
set_option maxHeartbeats 4000000 in
theorem c_X10_word {Γ : GT} {h : XH} {F : Nat → Int} {A : Nat → Int → Int} (I : InpOk F A) (e11 : F 11 = 0) : Ct Γ M_X10_word [.ref (g_L Γ 0)] (mst Γ h F A) (fun r h9 => r = some (.int (iN (wlen (A 5) (F 8) 12 (F 9)))) ∧ h9 = mst Γ h (uF (uF F 9 (F 9 + wlen (A 5) (F 8) 12 (F 9))) 11 (bi (decide (wlen (A 5) (F 8) 12 (F 9) = 0) || isLet (sgn (uF F 9 (F 9 + wlen (A 5) (F 8) 12 (F 9))) A)))) A) (fun _ _ => False) := by
  refine Ct.of rfl (by decide +kernel) (Nat.le_of_ble_eq_true rfl) ?_
  generalize hQF9 : QM Γ _ _ _ = QF9
  obtain ⟨i1, i2, i3, i4⟩ := id I
  have L_39 : ∀ (k : Int) (hk : 0 ≤ k ∧ k ≤ 12) (hn : F 9 + k ≤ F 8) (hw : wlen (A 5) (F 8) 12 (F 9) = k), GG Γ M_X10_word QF9 (0, 0) (mst Γ h (uF F 9 (F 9 + k)) A) 39 [some (.ref (g_L Γ 0)), some (.int (iN (F 9)))] [] := by
    intro k hk hn hw
    have hI : InpOk (uF F 9 (F 9 + k)) A := (by refine ⟨?_, ?_, ?_, ?_⟩ <;> (try simp only [uF_s, uF_n, uF_ss, uF_cc, id_eq, ne_eq, not_false_eq_true, Nat.reduceEqDiff, Nat.reduceLT, reduceCtorEq]) <;> first | omega | assumption)
    have hs := sgn_r hI
    refine gg_aload_n dX10_word_39 rfl rfl ?_
    refine gg_dup dX10_word_40 rfl ?_
    refine gm_get45 rfl dX10_word_41 (by (try simp only [uF_s, uF_n, ne_eq, not_false_eq_true, Nat.reduceEqDiff, reduceCtorEq]); rfl) ?_
    refine gg_aload_n dX10_word_44 rfl rfl ?_
    refine gm_get39 rfl dX10_word_45 (by (try simp only [uF_s, uF_n, ne_eq, not_false_eq_true, Nat.reduceEqDiff, reduceCtorEq]); rfl) ?_
    refine gg_iload_n dX10_word_48 rfl ?_
    refine gi_icmp_eq (tgt := 62) dX10_word_49 (by decide) ⟨by omega, by omega⟩ ⟨by omega, by omega⟩ (fun c_49 => ?_) (fun c_49 => ?_)
    · refine gi_iconst dX10_word_62 ?_
      refine gg_goto (tgt := 67) dX10_word_63 (by decide) ?_
      refine gi_ior _ (by first | exact ior_1 (by omega) | exact ior_0 | exact ior_m (by omega) (by omega)) dX10_word_67 ?_
      refine gm_put45 rfl dX10_word_68 (by omega) (by (try simp only [uF_ss, uF_cc, id_eq, Nat.reduceLT, reduceCtorEq]); rfl) ?_
      refine gg_aload_n dX10_word_71 rfl rfl ?_
      refine gm_get39 rfl dX10_word_72 (by (try simp only [uF_s, uF_n, ne_eq, not_false_eq_true, Nat.reduceEqDiff, reduceCtorEq]); rfl) ?_
      refine gg_iload_n dX10_word_75 rfl ?_
      refine gi_isub dX10_word_76 ?_
      subst hQF9
      refine gg_iret dX10_word_77 rfl rfl ⟨(Nat.le_of_ble_eq_true rfl), (Nat.le_of_ble_eq_true rfl)⟩ ?_
      refine ⟨by rw [hw]; congr 3; omega, ?_⟩
      rw [hw]
      try simp only [uF_s, uF_n, uF_ss, uF_cc, id_eq, ne_eq, not_false_eq_true, Nat.reduceEqDiff, Nat.reduceLT, reduceCtorEq]
      congr 2
      first | (simp [bi, c_59]; done) | (simp [bi, c_59, e11]; omega) | (rw [show k = 0 by omega]; simp [bi])
    · refine gg_aload_n dX10_word_52 rfl rfl ?_
      refine gc_X10_166 rfl dX10_word_53 ⟨(Nat.le_of_ble_eq_true rfl), (Nat.le_of_ble_eq_true rfl)⟩ ⟨(Nat.le_of_ble_eq_true rfl), (Nat.le_of_ble_eq_true rfl)⟩ (Nat.le_of_ble_eq_true rfl) (HAt.mu rfl) (c_X10_sign hI) (fun _ _ w => w.elim) (fun r_53 h_53 hp => ?_)
      obtain ⟨rfl, rfl⟩ := hp
      refine gc_X10_170 rfl dX10_word_56 ⟨(Nat.le_of_ble_eq_true rfl), (Nat.le_of_ble_eq_true rfl)⟩ ⟨(Nat.le_of_ble_eq_true rfl), (Nat.le_of_ble_eq_true rfl)⟩ (Nat.le_of_ble_eq_true rfl) (c_X10_isLetter ⟨by omega, by omega⟩) (fun _ _ w => w.elim) (fun r_56 h_56 hp => ?_)
      obtain ⟨rfl, rfl⟩ := hp
      refine gi_if_eq (tgt := 66) dX10_word_59 (by decide) (bi_r _) (fun c_59 => ?_) (fun c_59 => ?_)
      · rw [bi_f] at c_59
        refine gi_iconst dX10_word_66 ?_
        refine gi_ior _ (by first | exact ior_1 (by omega) | exact ior_0 | exact ior_m (by omega) (by omega)) dX10_word_67 ?_
        refine gm_put45 rfl dX10_word_68 (by omega) (by (try simp only [uF_ss, uF_cc, id_eq, Nat.reduceLT, reduceCtorEq]); rfl) ?_
        refine gg_aload_n dX10_word_71 rfl rfl ?_
        refine gm_get39 rfl dX10_word_72 (by (try simp only [uF_s, uF_n, ne_eq, not_false_eq_true, Nat.reduceEqDiff, reduceCtorEq]); rfl) ?_
        refine gg_iload_n dX10_word_75 rfl ?_
        refine gi_isub dX10_word_76 ?_
        subst hQF9
        refine gg_iret dX10_word_77 rfl rfl ⟨(Nat.le_of_ble_eq_true rfl), (Nat.le_of_ble_eq_true rfl)⟩ ?_
        refine ⟨by rw [hw]; congr 3; omega, ?_⟩
        rw [hw]
        try simp only [uF_s, uF_n, uF_ss, uF_cc, id_eq, ne_eq, not_false_eq_true, Nat.reduceEqDiff, Nat.reduceLT, reduceCtorEq]
        congr 2
        first | (simp [bi, c_59]; done) | (simp [bi, c_59, e11]; omega) | (rw [show k = 0 by omega]; simp [bi])
      · rw [bi_t] at c_59
        refine gi_iconst dX10_word_62 ?_
        refine gg_goto (tgt := 67) dX10_word_63 (by decide) ?_
        refine gi_ior _ (by first | exact ior_1 (by omega) | exact ior_0 | exact ior_m (by omega) (by omega)) dX10_word_67 ?_
        refine gm_put45 rfl dX10_word_68 (by omega) (by (try simp only [uF_ss, uF_cc, id_eq, Nat.reduceLT, reduceCtorEq]); rfl) ?_
        refine gg_aload_n dX10_word_71 rfl rfl ?_
        refine gm_get39 rfl dX10_word_72 (by (try simp only [uF_s, uF_n, ne_eq, not_false_eq_true, Nat.reduceEqDiff, reduceCtorEq]); rfl) ?_
        refine gg_iload_n dX10_word_75 rfl ?_
        refine gi_isub dX10_word_76 ?_
        subst hQF9
        refine gg_iret dX10_word_77 rfl rfl ⟨(Nat.le_of_ble_eq_true rfl), (Nat.le_of_ble_eq_true rfl)⟩ ?_
        refine ⟨by rw [hw]; congr 3; omega, ?_⟩
        rw [hw]
        try simp only [uF_s, uF_n, uF_ss, uF_cc, id_eq, ne_eq, not_false_eq_true, Nat.reduceEqDiff, Nat.reduceLT, reduceCtorEq]
        congr 2
        first | (simp [bi, c_59]; done) | (simp [bi, c_59, e11]; omega) | (rw [show k = 0 by omega]; simp [bi])
  refine gg_aload_n dX10_word_0 rfl rfl ?_
  refine gm_get39 rfl dX10_word_1 (by (try simp only [uF_s, uF_n, ne_eq, not_false_eq_true, Nat.reduceEqDiff, reduceCtorEq]); rfl) ?_
  refine gg_istore_n dX10_word_4 (Nat.le_of_ble_eq_true rfl) rfl ?_
  have L_5 : ∀ (n9 : Nat) (k : Int), ((12 - k).toNat) = n9 → ∀ (hk : 0 ≤ k ∧ k ≤ 12) (hn : F 9 + k ≤ F 8) (hw : wlen (A 5) (F 8) 12 (F 9) = k + wlen (A 5) (F 8) (12 - k).toNat (F 9 + k)), GG Γ M_X10_word QF9 (0, 0) (mst Γ h (uF F 9 (F 9 + k)) A) 5 [some (.ref (g_L Γ 0)), some (.int (iN (F 9)))] [] := by
    intro n9
    induction n9 using Nat.strongRecOn with
    | ind n9 ih_5 => 
      intro k hm9 hk hn hw
      have hI : InpOk (uF F 9 (F 9 + k)) A := (by refine ⟨?_, ?_, ?_, ?_⟩ <;> (try simp only [uF_s, uF_n, uF_ss, uF_cc, id_eq, ne_eq, not_false_eq_true, Nat.reduceEqDiff, Nat.reduceLT, reduceCtorEq]) <;> first | omega | assumption)
      have hs := sgn_r hI
      have hd : sgn (uF F 9 (F 9 + k)) A = if F 9 + k < F 8 then A 5 (F 9 + k) else -1 := by simp [sgn, uF_s, uF_n, e11]
      refine gg_aload_n dX10_word_5 rfl rfl ?_
      refine gc_X10_166 rfl dX10_word_6 ⟨(Nat.le_of_ble_eq_true rfl), (Nat.le_of_ble_eq_true rfl)⟩ ⟨(Nat.le_of_ble_eq_true rfl), (Nat.le_of_ble_eq_true rfl)⟩ (Nat.le_of_ble_eq_true rfl) (HAt.mu rfl) (c_X10_sign hI) (fun _ _ w => w.elim) (fun r_6 h_6 hp => ?_)
      obtain ⟨rfl, rfl⟩ := hp
      refine gc_X10_170 rfl dX10_word_9 ⟨(Nat.le_of_ble_eq_true rfl), (Nat.le_of_ble_eq_true rfl)⟩ ⟨(Nat.le_of_ble_eq_true rfl), (Nat.le_of_ble_eq_true rfl)⟩ (Nat.le_of_ble_eq_true rfl) (c_X10_isLetter ⟨by omega, by omega⟩) (fun _ _ w => w.elim) (fun r_9 h_9 hp => ?_)
      obtain ⟨rfl, rfl⟩ := hp
      refine gi_if_eq (tgt := 39) dX10_word_12 (by decide) (bi_r _) (fun c_12 => ?_) (fun c_12 => ?_)
      · refine L_39 k hk hn ?_
        rw [hw]
        rcases Int.lt_or_le k 12 with q | q
        · rw [wlen_s (by omega) q, if_neg (fun w => by rw [hd, if_pos w.1, w.2] at c_12; simp [bi] at c_12)]; omega
        · rw [show (12 - k).toNat = 0 by omega]; simp [wlen]
      · refine gg_aload_n dX10_word_15 rfl rfl ?_
        refine gm_get39 rfl dX10_word_16 (by (try simp only [uF_s, uF_n, ne_eq, not_false_eq_true, Nat.reduceEqDiff, reduceCtorEq]); rfl) ?_
        refine gg_iload_n dX10_word_19 rfl ?_
        refine gi_isub dX10_word_20 ?_
        refine gi_bipush dX10_word_21 (by decide) ?_
        refine gi_icmp_ge (tgt := 39) dX10_word_23 (by decide) ⟨by omega, by omega⟩ ⟨by omega, by omega⟩ (fun c_23 => ?_) (fun c_23 => ?_)
        · refine L_39 k hk hn ?_
          rw [hw, show (12 - k).toNat = 0 by omega]; simp [wlen]
        · refine gg_aload_n dX10_word_26 rfl rfl ?_
          refine gg_dup dX10_word_27 rfl ?_
          refine gm_get39 rfl dX10_word_28 (by (try simp only [uF_s, uF_n, ne_eq, not_false_eq_true, Nat.reduceEqDiff, reduceCtorEq]); rfl) ?_
          refine gi_iconst dX10_word_31 ?_
          refine gi_iadd dX10_word_32 ?_
          refine gm_put39 rfl dX10_word_33 (by (try simp only [uF_ss, uF_cc, id_eq, Nat.reduceLT, reduceCtorEq]); rfl) ?_
          refine gg_goto (tgt := 5) dX10_word_36 (by decide) ?_
          rw [bi_t] at c_12
          have h1 : F 9 + k < F 8 := by rw [hd] at c_12; split at c_12 <;> first | assumption | (simp [isLet] at c_12)
          rw [hd, if_pos h1] at c_12
          rw [wlen_s (by omega) (by omega), if_pos ⟨h1, c_12⟩] at hw
          refine gg_conv (ih_5 _ (by omega) (k + 1) rfl (by omega) (by omega) (by rw [hw, Int.add_assoc, Int.add_assoc])) (by rw [Int.add_assoc]) rfl rfl
  refine gg_conv (L_5 _ 0 rfl (by omega) (by omega) (by simp)) (by rw [uF_e (by omega)]) rfl rfl
set_option maxRecDepth 100000 in
set_option maxHeartbeats 4000000 in
theorem c_X10_isWrong {Γ : GT} {h : XH} {F : Nat → Int} {A : Nat → Int → Int} (I : InpOk F A) (h10 : InR (F 10)) : Ct Γ M_X10_isWrong [.ref (g_L Γ 0)] (mst Γ h F A) (fun r h9 => (¬ (F 11 = 1 ∨ F 9 < F 8) ∧ r = some (.int (iN 0)) ∧ h9 = mst Γ h (uF (uF (uF F 8 0) 11 0) 12 (F 8)) A) ∨ ((F 11 = 1 ∨ F 9 < F 8) ∧ r = some (.int (iN 1)) ∧ h9 = mst Γ h (uF (uF (uF (uF F 8 0) 10 (F 9)) 11 1) 12 (F 8)) A)) (fun _ _ => False) := by
  refine Ct.of rfl (by decide +kernel) (Nat.le_of_ble_eq_true rfl) ?_
  generalize hQF9 : QM Γ _ _ _ = QF9
  obtain ⟨i1, i2, i3, i4⟩ := id I
  refine gg_aload_n dX10_isWrong_0 rfl rfl ?_
  refine gg_dup dX10_isWrong_1 rfl ?_
  refine gm_get45 rfl dX10_isWrong_2 (by (try simp only [uF_s, uF_n, ne_eq, not_false_eq_true, Nat.reduceEqDiff, reduceCtorEq]); rfl) ?_
  refine gg_aload_n dX10_isWrong_5 rfl rfl ?_
  refine gm_get39 rfl dX10_isWrong_6 (by (try simp only [uF_s, uF_n, ne_eq, not_false_eq_true, Nat.reduceEqDiff, reduceCtorEq]); rfl) ?_
  refine gg_aload_n dX10_isWrong_9 rfl rfl ?_
  refine gm_get36 rfl dX10_isWrong_10 (by (try simp only [uF_s, uF_n, ne_eq, not_false_eq_true, Nat.reduceEqDiff, reduceCtorEq]); rfl) ?_
  refine gi_icmp_ge (tgt := 20) dX10_isWrong_13 (by decide) ⟨by omega, by omega⟩ ⟨by omega, by omega⟩ (fun c_13 => ?_) (fun c_13 => ?_)
  · refine gi_iconst dX10_isWrong_20 ?_
    refine gi_ior _ (by first | exact ior_1 (by omega) | exact ior_0 | exact ior_m (by omega) (by omega)) dX10_isWrong_21 ?_
    refine gm_put45 rfl dX10_isWrong_22 (by omega) (by (try simp only [uF_ss, uF_cc, id_eq, Nat.reduceLT, reduceCtorEq]); rfl) ?_
    refine gg_aload_n dX10_isWrong_25 rfl rfl ?_
    refine gg_aload_n dX10_isWrong_26 rfl rfl ?_
    refine gm_get36 rfl dX10_isWrong_27 (by (try simp only [uF_s, uF_n, ne_eq, not_false_eq_true, Nat.reduceEqDiff, reduceCtorEq]); rfl) ?_
    refine gm_put48 rfl dX10_isWrong_30 (by (try simp only [uF_ss, uF_cc, id_eq, Nat.reduceLT, reduceCtorEq]); rfl) ?_
    refine gg_aload_n dX10_isWrong_33 rfl rfl ?_
    refine gi_iconst dX10_isWrong_34 ?_
    refine gm_put36 rfl dX10_isWrong_35 (by (try simp only [uF_ss, uF_cc, id_eq, Nat.reduceLT, reduceCtorEq]); rfl) ?_
    refine gg_aload_n dX10_isWrong_38 rfl rfl ?_
    refine gm_get45 rfl dX10_isWrong_39 (by (try simp only [uF_s, uF_n, ne_eq, not_false_eq_true, Nat.reduceEqDiff, reduceCtorEq]); rfl) ?_
    refine gi_if_eq (tgt := 53) dX10_isWrong_42 (by decide) ⟨by omega, by omega⟩ (fun c_42 => ?_) (fun c_42 => ?_)
    · refine gg_aload_n dX10_isWrong_53 rfl rfl ?_
      refine gm_get45 rfl dX10_isWrong_54 (by (try simp only [uF_s, uF_n, ne_eq, not_false_eq_true, Nat.reduceEqDiff, reduceCtorEq]); rfl) ?_
      subst hQF9
      refine gg_iret dX10_isWrong_57 rfl (nar_bool (by omega)) ⟨(Nat.le_of_ble_eq_true rfl), (Nat.le_of_ble_eq_true rfl)⟩ ?_
      first | (exfalso; omega) | (have e : F 11 = 0 := (by omega); rw [e]; exact Or.inl ⟨by omega, rfl, rfl⟩) | exact Or.inr ⟨by omega, rfl, rfl⟩ | (have e : F 11 = 1 := (by omega); rw [e]; exact Or.inr ⟨by omega, rfl, rfl⟩)
    · refine gg_aload_n dX10_isWrong_45 rfl rfl ?_
      refine gg_aload_n dX10_isWrong_46 rfl rfl ?_
      refine gm_get39 rfl dX10_isWrong_47 (by (try simp only [uF_s, uF_n, ne_eq, not_false_eq_true, Nat.reduceEqDiff, reduceCtorEq]); rfl) ?_
      refine gm_put42 rfl dX10_isWrong_50 (by (try simp only [uF_ss, uF_cc, id_eq, Nat.reduceLT, reduceCtorEq]); rfl) ?_
      refine gg_aload_n dX10_isWrong_53 rfl rfl ?_
      refine gm_get45 rfl dX10_isWrong_54 (by (try simp only [uF_s, uF_n, ne_eq, not_false_eq_true, Nat.reduceEqDiff, reduceCtorEq]); rfl) ?_
      subst hQF9
      refine gg_iret dX10_isWrong_57 rfl (nar_bool (by omega)) ⟨(Nat.le_of_ble_eq_true rfl), (Nat.le_of_ble_eq_true rfl)⟩ ?_
      first | (exfalso; omega) | (have e : F 11 = 0 := (by omega); rw [e]; exact Or.inl ⟨by omega, rfl, rfl⟩) | exact Or.inr ⟨by omega, rfl, rfl⟩ | (have e : F 11 = 1 := (by omega); rw [e]; exact Or.inr ⟨by omega, rfl, rfl⟩)
  · refine gi_iconst dX10_isWrong_16 ?_
    refine gg_goto (tgt := 21) dX10_isWrong_17 (by decide) ?_
    refine gi_ior _ (by first | exact ior_1 (by omega) | exact ior_0 | exact ior_m (by omega) (by omega)) dX10_isWrong_21 ?_
    refine gm_put45 rfl dX10_isWrong_22 (by omega) (by (try simp only [uF_ss, uF_cc, id_eq, Nat.reduceLT, reduceCtorEq]); rfl) ?_
    refine gg_aload_n dX10_isWrong_25 rfl rfl ?_
    refine gg_aload_n dX10_isWrong_26 rfl rfl ?_
    refine gm_get36 rfl dX10_isWrong_27 (by (try simp only [uF_s, uF_n, ne_eq, not_false_eq_true, Nat.reduceEqDiff, reduceCtorEq]); rfl) ?_
    refine gm_put48 rfl dX10_isWrong_30 (by (try simp only [uF_ss, uF_cc, id_eq, Nat.reduceLT, reduceCtorEq]); rfl) ?_
    refine gg_aload_n dX10_isWrong_33 rfl rfl ?_
    refine gi_iconst dX10_isWrong_34 ?_
    refine gm_put36 rfl dX10_isWrong_35 (by (try simp only [uF_ss, uF_cc, id_eq, Nat.reduceLT, reduceCtorEq]); rfl) ?_
    refine gg_aload_n dX10_isWrong_38 rfl rfl ?_
    refine gm_get45 rfl dX10_isWrong_39 (by (try simp only [uF_s, uF_n, ne_eq, not_false_eq_true, Nat.reduceEqDiff, reduceCtorEq]); rfl) ?_
    refine gi_if_eq (tgt := 53) dX10_isWrong_42 (by decide) ⟨by omega, by omega⟩ (fun c_42 => ?_) (fun c_42 => ?_)
    · refine gg_aload_n dX10_isWrong_53 rfl rfl ?_
      refine gm_get45 rfl dX10_isWrong_54 (by (try simp only [uF_s, uF_n, ne_eq, not_false_eq_true, Nat.reduceEqDiff, reduceCtorEq]); rfl) ?_
      subst hQF9
      refine gg_iret dX10_isWrong_57 rfl (nar_bool (by omega)) ⟨(Nat.le_of_ble_eq_true rfl), (Nat.le_of_ble_eq_true rfl)⟩ ?_
      first | (exfalso; omega) | (have e : F 11 = 0 := (by omega); rw [e]; exact Or.inl ⟨by omega, rfl, rfl⟩) | exact Or.inr ⟨by omega, rfl, rfl⟩ | (have e : F 11 = 1 := (by omega); rw [e]; exact Or.inr ⟨by omega, rfl, rfl⟩)
    · refine gg_aload_n dX10_isWrong_45 rfl rfl ?_
      refine gg_aload_n dX10_isWrong_46 rfl rfl ?_
      refine gm_get39 rfl dX10_isWrong_47 (by (try simp only [uF_s, uF_n, ne_eq, not_false_eq_true, Nat.reduceEqDiff, reduceCtorEq]); rfl) ?_
      refine gm_put42 rfl dX10_isWrong_50 (by (try simp only [uF_ss, uF_cc, id_eq, Nat.reduceLT, reduceCtorEq]); rfl) ?_
      refine gg_aload_n dX10_isWrong_53 rfl rfl ?_
      refine gm_get45 rfl dX10_isWrong_54 (by (try simp only [uF_s, uF_n, ne_eq, not_false_eq_true, Nat.reduceEqDiff, reduceCtorEq]); rfl) ?_
      subst hQF9
      refine gg_iret dX10_isWrong_57 rfl (nar_bool (by omega)) ⟨(Nat.le_of_ble_eq_true rfl), (Nat.le_of_ble_eq_true rfl)⟩ ?_
      first | (exfalso; omega) | (have e : F 11 = 0 := (by omega); rw [e]; exact Or.inl ⟨by omega, rfl, rfl⟩) | exact Or.inr ⟨by omega, rfl, rfl⟩ | (have e : F 11 = 1 := (by omega); rw [e]; exact Or.inr ⟨by omega, rfl, rfl⟩)
set_option maxRecDepth 100000 in
set_option maxHeartbeats 4000000 in
theorem c_X10_begins {Γ : GT} {h : XH} {F : Nat → Int} {A : Nat → Int → Int} : Ct Γ M_X10_begins [.ref (g_L Γ 0)] (mst Γ h F A) (fun r h9 => r = none ∧ h9 = mst Γ h (uF (uF (uF F 0 0) 9 0) 11 0) (A)) (fun _ _ => False) := by
  refine Ct.of rfl (by decide +kernel) (Nat.le_of_ble_eq_true rfl) ?_
  generalize hQF9 : QM Γ _ _ _ = QF9
  refine gg_aload_n dX10_begins_0 rfl rfl ?_
  refine gi_iconst dX10_begins_1 ?_
  refine gm_put3 rfl dX10_begins_2 (by (try simp only [uF_ss, uF_cc, id_eq, Nat.reduceLT, reduceCtorEq]); rfl) ?_
  refine gg_aload_n dX10_begins_5 rfl rfl ?_
  refine gi_iconst dX10_begins_6 ?_
  refine gm_put39 rfl dX10_begins_7 (by (try simp only [uF_ss, uF_cc, id_eq, Nat.reduceLT, reduceCtorEq]); rfl) ?_
  refine gg_aload_n dX10_begins_10 rfl rfl ?_
  refine gi_iconst dX10_begins_11 ?_
  refine gm_put45 rfl dX10_begins_12 (by omega) (by (try simp only [uF_ss, uF_cc, id_eq, Nat.reduceLT, reduceCtorEq]); rfl) ?_
  subst hQF9
  refine gg_vret dX10_begins_15 rfl ⟨(Nat.le_of_ble_eq_true rfl), (Nat.le_of_ble_eq_true rfl)⟩ ?_
  exact ⟨rfl, rfl⟩
set_option maxRecDepth 100000 in
set_option maxHeartbeats 4000000 in
theorem c_X10_sizeOf {Γ : GT} {h : XH} {k : Int} (hk : 0 ≤ k ∧ k ≤ 3) : Ct Γ M_X10_sizeOf [.int (iN k)] (h) (fun r h9 => r = some (.int (iN (if k < 2 then 2 else 3))) ∧ h9 = h) (fun _ _ => False) := by
  refine Ct.of rfl (by decide +kernel) (Nat.le_of_ble_eq_true rfl) ?_
  generalize hQF9 : QM Γ _ _ _ = QF9
  refine gg_iload_n dX10_sizeOf_0 rfl ?_
  refine gi_iconst dX10_sizeOf_1 ?_
  refine gi_icmp_ge (tgt := 9) dX10_sizeOf_2 (by decide) ⟨by omega, by omega⟩ ⟨by omega, by omega⟩ (fun c_2 => ?_) (fun c_2 => ?_)
  · refine gi_iconst dX10_sizeOf_9 ?_
    subst hQF9
    refine gg_iret dX10_sizeOf_10 rfl rfl ⟨(Nat.le_of_ble_eq_true rfl), (Nat.le_of_ble_eq_true rfl)⟩ ?_
    exact ⟨by congr 3; simp [*]; try omega, rfl⟩
  · refine gi_iconst dX10_sizeOf_5 ?_
    refine gg_goto (tgt := 10) dX10_sizeOf_6 (by decide) ?_
    subst hQF9
    refine gg_iret dX10_sizeOf_10 rfl rfl ⟨(Nat.le_of_ble_eq_true rfl), (Nat.le_of_ble_eq_true rfl)⟩ ?_
    exact ⟨by congr 3; simp [*]; try omega, rfl⟩
set_option maxRecDepth 100000 in
set_option maxHeartbeats 4000000 in
theorem c_X10_strongOf {Γ : GT} {h : XH} {k : Int} (hk : 0 ≤ k ∧ k ≤ 3) : Ct Γ M_X10_strongOf [.int (iN k)] (h) (fun r h9 => r = some (.int (iN (if k = 0 then 1 else if k = 2 then 2 else 0))) ∧ h9 = h) (fun _ _ => False) := by
  refine Ct.of rfl (by decide +kernel) (Nat.le_of_ble_eq_true rfl) ?_
  generalize hQF9 : QM Γ _ _ _ = QF9
  refine gg_iload_n dX10_strongOf_0 rfl ?_
  refine gi_if_ne (tgt := 8) dX10_strongOf_1 (by decide) ⟨by omega, by omega⟩ (fun c_1 => ?_) (fun c_1 => ?_)
  · refine gg_iload_n dX10_strongOf_8 rfl ?_
    refine gi_iconst dX10_strongOf_9 ?_
    refine gi_icmp_ne (tgt := 17) dX10_strongOf_10 (by decide) ⟨by omega, by omega⟩ ⟨by omega, by omega⟩ (fun c_10 => ?_) (fun c_10 => ?_)
    · refine gi_iconst dX10_strongOf_17 ?_
      subst hQF9
      refine gg_iret dX10_strongOf_18 rfl rfl ⟨(Nat.le_of_ble_eq_true rfl), (Nat.le_of_ble_eq_true rfl)⟩ ?_
      exact ⟨by congr 3; simp [*], rfl⟩
    · refine gi_iconst dX10_strongOf_13 ?_
      refine gg_goto (tgt := 18) dX10_strongOf_14 (by decide) ?_
      subst hQF9
      refine gg_iret dX10_strongOf_18 rfl rfl ⟨(Nat.le_of_ble_eq_true rfl), (Nat.le_of_ble_eq_true rfl)⟩ ?_
      exact ⟨by congr 3; simp [*], rfl⟩
  · refine gi_iconst dX10_strongOf_4 ?_
    refine gg_goto (tgt := 18) dX10_strongOf_5 (by decide) ?_
    subst hQF9
    refine gg_iret dX10_strongOf_18 rfl rfl ⟨(Nat.le_of_ble_eq_true rfl), (Nat.le_of_ble_eq_true rfl)⟩ ?_
    exact ⟨by congr 3; simp [*], rfl⟩
set_option maxRecDepth 100000 in
set_option maxHeartbeats 4000000 in
theorem c_X10_metreTold {Γ : GT} {h : XH} {F : Nat → Int} {A : Nat → Int → Int} : Ct Γ M_X10_metreTold [.ref (g_L Γ 0)] (mst Γ h F A) (fun r h9 => r = some (.int (iN (100 * A 1 0 + 10 * A 1 1 + A 1 2))) ∧ h9 = mst Γ h F A) (fun _ _ => False) := by
  refine Ct.of rfl (by decide +kernel) (Nat.le_of_ble_eq_true rfl) ?_
  generalize hQF9 : QM Γ _ _ _ = QF9
  refine gi_bipush dX10_metreTold_0 (by decide) ?_
  refine gg_aload_n dX10_metreTold_2 rfl rfl ?_
  refine gm_get13 rfl dX10_metreTold_3 ?_
  refine gi_iconst dX10_metreTold_6 ?_
  refine gm_iald dX10_metreTold_7 (by decide) rfl (by decide) ⟨by omega, by simp only [ml9]; omega⟩ (by (try simp only [uA_s, uA_n, ne_eq, not_false_eq_true, Nat.reduceEqDiff, reduceCtorEq]); rfl) ?_
  refine gi_imul dX10_metreTold_8 ?_
  refine gi_bipush dX10_metreTold_9 (by decide) ?_
  refine gg_aload_n dX10_metreTold_11 rfl rfl ?_
  refine gm_get13 rfl dX10_metreTold_12 ?_
  refine gi_iconst dX10_metreTold_15 ?_
  refine gm_iald dX10_metreTold_16 (by decide) rfl (by decide) ⟨by omega, by simp only [ml9]; omega⟩ (by (try simp only [uA_s, uA_n, ne_eq, not_false_eq_true, Nat.reduceEqDiff, reduceCtorEq]); rfl) ?_
  refine gi_imul dX10_metreTold_17 ?_
  refine gi_iadd dX10_metreTold_18 ?_
  refine gg_aload_n dX10_metreTold_19 rfl rfl ?_
  refine gm_get13 rfl dX10_metreTold_20 ?_
  refine gi_iconst dX10_metreTold_23 ?_
  refine gm_iald dX10_metreTold_24 (by decide) rfl (by decide) ⟨by omega, by simp only [ml9]; omega⟩ (by (try simp only [uA_s, uA_n, ne_eq, not_false_eq_true, Nat.reduceEqDiff, reduceCtorEq]); rfl) ?_
  refine gi_iadd dX10_metreTold_25 ?_
  subst hQF9
  refine gg_iret dX10_metreTold_26 rfl rfl ⟨(Nat.le_of_ble_eq_true rfl), (Nat.le_of_ble_eq_true rfl)⟩ ?_
  exact ⟨rfl, rfl⟩
set_option maxRecDepth 100000 in
set_option maxHeartbeats 4000000 in
theorem c_X10_errorPosition {Γ : GT} {h : XH} {F : Nat → Int} {A : Nat → Int → Int} (h10 : InR (F 10)) : Ct Γ M_X10_errorPosition [.ref (g_L Γ 0)] (mst Γ h F A) (fun r h9 => (F 10 < 0 ∧ r = some (.int (iN 0)) ∧ h9 = mst Γ h (uF F 0 1) A) ∨ (0 ≤ F 10 ∧ r = some (.int (iN (F 10))) ∧ h9 = mst Γ h (uF F 0 0) A)) (fun _ _ => False) := by
  refine Ct.of rfl (by decide +kernel) (Nat.le_of_ble_eq_true rfl) ?_
  generalize hQF9 : QM Γ _ _ _ = QF9
  refine gg_aload_n dX10_errorPosition_0 rfl rfl ?_
  refine gi_iconst dX10_errorPosition_1 ?_
  refine gm_put3 rfl dX10_errorPosition_2 (by (try simp only [uF_ss, uF_cc, id_eq, Nat.reduceLT, reduceCtorEq]); rfl) ?_
  refine gg_aload_n dX10_errorPosition_5 rfl rfl ?_
  refine gm_get42 rfl dX10_errorPosition_6 (by (try simp only [uF_s, uF_n, ne_eq, not_false_eq_true, Nat.reduceEqDiff, reduceCtorEq]); rfl) ?_
  refine gi_if_ge (tgt := 20) dX10_errorPosition_9 (by decide) ⟨by omega, by omega⟩ (fun c_9 => ?_) (fun c_9 => ?_)
  · refine gg_aload_n dX10_errorPosition_20 rfl rfl ?_
    refine gm_get42 rfl dX10_errorPosition_21 (by (try simp only [uF_s, uF_n, ne_eq, not_false_eq_true, Nat.reduceEqDiff, reduceCtorEq]); rfl) ?_
    subst hQF9
    refine gg_iret dX10_errorPosition_24 rfl rfl ⟨(Nat.le_of_ble_eq_true rfl), (Nat.le_of_ble_eq_true rfl)⟩ ?_
    first | exact Or.inr ⟨by omega, rfl, rfl⟩ | exact Or.inl ⟨by omega, rfl, by rw [uF_ss]⟩
  · refine gg_aload_n dX10_errorPosition_12 rfl rfl ?_
    refine gi_iconst dX10_errorPosition_13 ?_
    refine gc_X10_162 rfl dX10_errorPosition_14 ⟨(Nat.le_of_ble_eq_true rfl), (Nat.le_of_ble_eq_true rfl)⟩ ⟨(Nat.le_of_ble_eq_true rfl), (Nat.le_of_ble_eq_true rfl)⟩ (Nat.le_of_ble_eq_true rfl) (HAt.mu rfl) (c_X10_fails) (fun _ _ w => w.elim) (fun r_14 h_14 hp => ?_)
    obtain ⟨rfl, rfl⟩ := hp
    refine gg_goto (tgt := 24) dX10_errorPosition_17 (by decide) ?_
    subst hQF9
    refine gg_iret dX10_errorPosition_24 rfl rfl ⟨(Nat.le_of_ble_eq_true rfl), (Nat.le_of_ble_eq_true rfl)⟩ ?_
    first | exact Or.inr ⟨by omega, rfl, rfl⟩ | exact Or.inl ⟨by omega, rfl, by rw [uF_ss]⟩
set_option maxRecDepth 100000 in
set_option maxHeartbeats 4000000 in
theorem c_X10_feed {Γ : GT} {h : XH} {F : Nat → Int} {A : Nat → Int → Int} (h8 : 0 ≤ F 8 ∧ F 8 ≤ 60) {c : Int} : Ct Γ M_X10_feed [.ref (g_L Γ 0), .int (iN c)] (mst Γ h F A) (fun r h9 => (F 8 = 60 ∧ r = some (.int (iN 0)) ∧ h9 = mst Γ h (uF F 0 1) A) ∨ (F 8 < 60 ∧ r = some (.int (iN (F 8 + 1))) ∧ h9 = mst Γ h (uF (uF F 0 0) 8 (F 8 + 1)) (uA A 5 (up (A 5) (F 8) c)))) (fun _ _ => False) := by
  refine Ct.of rfl (by decide +kernel) (Nat.le_of_ble_eq_true rfl) ?_
  generalize hQF9 : QM Γ _ _ _ = QF9
  refine gg_aload_n dX10_feed_0 rfl rfl ?_
  refine gi_iconst dX10_feed_1 ?_
  refine gm_put3 rfl dX10_feed_2 (by (try simp only [uF_ss, uF_cc, id_eq, Nat.reduceLT, reduceCtorEq]); rfl) ?_
  refine gg_aload_n dX10_feed_5 rfl rfl ?_
  refine gm_get36 rfl dX10_feed_6 (by (try simp only [uF_s, uF_n, ne_eq, not_false_eq_true, Nat.reduceEqDiff, reduceCtorEq]); rfl) ?_
  refine gi_bipush dX10_feed_9 (by decide) ?_
  refine gi_icmp_ne (tgt := 20) dX10_feed_11 (by decide) ⟨by omega, by omega⟩ ⟨by omega, by omega⟩ (fun c_11 => ?_) (fun c_11 => ?_)
  · refine gg_aload_n dX10_feed_20 rfl rfl ?_
    refine gm_get33 rfl dX10_feed_21 ?_
    refine gg_aload_n dX10_feed_24 rfl rfl ?_
    refine gm_get36 rfl dX10_feed_25 (by (try simp only [uF_s, uF_n, ne_eq, not_false_eq_true, Nat.reduceEqDiff, reduceCtorEq]); rfl) ?_
    refine gg_iload_n dX10_feed_28 rfl ?_
    refine gm_iast dX10_feed_29 (by decide) rfl (by decide) ⟨by omega, by simp only [ml9]; omega⟩ (by (try simp only [uA_s, uA_n, uA_ss, uA_cc, id_eq, ne_eq, not_false_eq_true, Nat.reduceEqDiff, Nat.reduceLT, reduceCtorEq]); rfl) ?_
    refine gg_aload_n dX10_feed_30 rfl rfl ?_
    refine gg_dup dX10_feed_31 rfl ?_
    refine gm_get36 rfl dX10_feed_32 (by (try simp only [uF_s, uF_n, ne_eq, not_false_eq_true, Nat.reduceEqDiff, reduceCtorEq]); rfl) ?_
    refine gi_iconst dX10_feed_35 ?_
    refine gi_iadd dX10_feed_36 ?_
    refine gm_put36 rfl dX10_feed_37 (by (try simp only [uF_ss, uF_cc, id_eq, Nat.reduceLT, reduceCtorEq]); rfl) ?_
    refine gg_aload_n dX10_feed_40 rfl rfl ?_
    refine gm_get36 rfl dX10_feed_41 (by (try simp only [uF_s, uF_n, ne_eq, not_false_eq_true, Nat.reduceEqDiff, reduceCtorEq]); rfl) ?_
    subst hQF9
    refine gg_iret dX10_feed_44 rfl rfl ⟨(Nat.le_of_ble_eq_true rfl), (Nat.le_of_ble_eq_true rfl)⟩ ?_
    first | exact Or.inr ⟨by omega, rfl, rfl⟩ | exact Or.inl ⟨by omega, rfl, by rw [uF_ss]⟩
  · refine gg_aload_n dX10_feed_14 rfl rfl ?_
    refine gi_iconst dX10_feed_15 ?_
    refine gc_X10_162 rfl dX10_feed_16 ⟨(Nat.le_of_ble_eq_true rfl), (Nat.le_of_ble_eq_true rfl)⟩ ⟨(Nat.le_of_ble_eq_true rfl), (Nat.le_of_ble_eq_true rfl)⟩ (Nat.le_of_ble_eq_true rfl) (HAt.mu rfl) (c_X10_fails) (fun _ _ w => w.elim) (fun r_16 h_16 hp => ?_)
    obtain ⟨rfl, rfl⟩ := hp
    subst hQF9
    refine gg_iret dX10_feed_19 rfl rfl ⟨(Nat.le_of_ble_eq_true rfl), (Nat.le_of_ble_eq_true rfl)⟩ ?_
    first | exact Or.inr ⟨by omega, rfl, rfl⟩ | exact Or.inl ⟨by omega, rfl, by rw [uF_ss]⟩
def cp (f g : Int → Int) (a b : Int) (n : Int) : Int → Int := fun j => if b ≤ j ∧ j < b + n then f (a + (j - b)) else g j
theorem cp_0 {f g : Int → Int} {a b : Int} : cp f g a b 0 = g := by
  funext j
  unfold cp
  rw [if_neg (by omega)]
theorem cp_s {f g : Int → Int} {a b n : Int} (hn : 0 ≤ n) : up (cp f g a b n) (b + n) (f (a + n)) = cp f g a b (n + 1) := by
  funext j
  unfold up cp
  by_cases h : j = b + n
  · subst h
    rw [if_pos rfl, if_pos (by omega)]
    congr 1
    omega
  · rw [if_neg h]
    by_cases h2 : b ≤ j ∧ j < b + n
    · rw [if_pos h2, if_pos (by omega)]
    · rw [if_neg h2, if_neg (by omega)]
theorem cp_get {A : Nat → Int → Int} {ja jb : Nat} {a b k : Int} (ho : ja ≠ jb ∨ a + 2609 ≤ b ∨ b + 2609 ≤ a) (hk : 0 ≤ k ∧ k < 2609) : uA A jb (cp (A ja) (A jb) a b k) ja (a + k) = A ja (a + k) := by
  by_cases e : ja = jb
  · subst e
    rw [uA_s]
    unfold cp
    rw [if_neg (by omega)]
  · rw [uA_n e]
set_option maxRecDepth 100000 in
set_option maxHeartbeats 4000000 in
theorem c_X10_copies {Γ : GT} {h : XH} {F : Nat → Int} {A : Nat → Int → Int} {ja jb : Nat} {a b : Int} (h1 : 1 ≤ ja ∧ ja ≤ 22) (h2 : 1 ≤ jb ∧ jb ≤ 22) (k1 : mk9 ja = 0) (k2 : mk9 jb = 0) (n1 : ml9 ja ≤ 20872) (n2 : ml9 jb ≤ 20872) (ha : 0 ≤ a ∧ a + 2609 ≤ ml9 ja) (hb : 0 ≤ b ∧ b + 2609 ≤ ml9 jb) (ho : ja ≠ jb ∨ a + 2609 ≤ b ∨ b + 2609 ≤ a) : Ct Γ M_X10_copies [.ref (g_L Γ ja), .int (iN a), .ref (g_L Γ jb), .int (iN b)] (mst Γ h F A) (fun r h9 => r = none ∧ h9 = mst Γ h (F) (uA A jb (cp (A ja) (A jb) a b 2609))) (fun _ _ => False) := by
  refine Ct.of rfl (by decide +kernel) (Nat.le_of_ble_eq_true rfl) ?_
  generalize hQF9 : QM Γ _ _ _ = QF9
  refine gi_iconst dX10_copies_0 ?_
  refine gg_istore dX10_copies_1 (Nat.le_of_ble_eq_true rfl) rfl ?_
  have L_3 : ∀ (n9 : Nat) (k : Int), ((2609 - k).toNat) = n9 → ∀ (hk : 0 ≤ k ∧ k ≤ 2609), GG Γ M_X10_copies QF9 (0, 0) (mst Γ h F (uA A jb (cp (A ja) (A jb) a b k))) 3 [some (.ref (g_L Γ ja)), some (.int (iN a)), some (.ref (g_L Γ jb)), some (.int (iN b)), some (.int (iN k))] [] := by
    intro n9
    induction n9 using Nat.strongRecOn with
    | ind n9 ih_3 => 
      intro k hm9 hk
      refine gg_iload dX10_copies_3 rfl ?_
      refine gi_sipush dX10_copies_5 (by decide) ?_
      refine gi_icmp_ge (tgt := 29) dX10_copies_8 (by decide) ⟨by omega, by omega⟩ ⟨by omega, by omega⟩ (fun c_8 => ?_) (fun c_8 => ?_)
      · subst hQF9
        refine gg_vret dX10_copies_29 rfl ⟨(Nat.le_of_ble_eq_true rfl), (Nat.le_of_ble_eq_true rfl)⟩ ?_
        rw [show k = 2609 by omega]
        exact ⟨rfl, rfl⟩
      · refine gg_aload_n dX10_copies_11 rfl rfl ?_
        refine gg_iload_n dX10_copies_12 rfl ?_
        refine gg_iload dX10_copies_13 rfl ?_
        refine gi_iadd dX10_copies_15 ?_
        refine gg_aload_n dX10_copies_16 rfl rfl ?_
        refine gg_iload_n dX10_copies_17 rfl ?_
        refine gg_iload dX10_copies_18 rfl ?_
        refine gi_iadd dX10_copies_20 ?_
        refine gm_iald dX10_copies_21 h1 k1 n1 ⟨by omega, by omega⟩ (cp_get ho (by omega)) ?_
        refine gm_iast dX10_copies_22 h2 k2 n2 ⟨by omega, by omega⟩ (by rw [uA_ss, uA_s, cp_s hk.1]) ?_
        refine gi_iinc dX10_copies_23 rfl (Nat.le_of_ble_eq_true rfl) rfl ?_
        refine gg_goto (tgt := 3) dX10_copies_26 (by decide) ?_
        refine ih_3 _ (by omega) (k + 1) rfl (by omega)
  refine gg_conv (L_3 _ 0 rfl (by omega)) (by rw [cp_0, uA_id]) rfl rfl
