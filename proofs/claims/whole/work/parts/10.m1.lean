/-! the reference: reading -/
def vow (c : Int) : Bool := c == 97 || c == 101 || c == 105 || c == 111 || c == 117 || c == 121
def isLet (c : Int) : Bool := decide (97 ≤ c) && decide (c ≤ 122)
def bi (b : Bool) : Int := if b then 1 else 0
theorem bi_01 (b : Bool) : bi b = 0 ∨ bi b = 1 := by cases b <;> simp [bi]
theorem bi_r (b : Bool) : InR (bi b) := by cases b <;> simp [bi, InR]
theorem bi_t {b : Bool} : bi b ≠ 0 ↔ b = true := by cases b <;> simp [bi]
theorem bi_f {b : Bool} : bi b = 0 ↔ b = false := by cases b <;> simp [bi]
theorem bi_d {p : Prop} [Decidable p] : bi (decide p) = if p then 1 else 0 := by by_cases h : p <;> simp [bi, h]
def sgn (F : Nat → Int) (A : Nat → Int → Int) : Int := if F 11 = 0 ∧ F 9 < F 8 then A 5 (F 9) else -1

set_option maxRecDepth 100000 in
set_option maxHeartbeats 4000000 in
theorem c_X10_in {Γ : GT} {h : XH} {v a b : Int} (hv : InR v) (ha : InR a) (hb : InR b) : Ct Γ M_X10_in [.int (iN v), .int (iN a), .int (iN b)] (h) (fun r h9 => r = some (.int (iN (bi (decide (a ≤ v) && decide (v ≤ b))))) ∧ h9 = h) (fun _ _ => False) := by
  refine Ct.of rfl (by decide +kernel) (Nat.le_of_ble_eq_true rfl) ?_
  generalize hQF9 : QM Γ _ _ _ = QF9
  refine gg_iload_n dX10_in_0 rfl ?_
  refine gg_iload_n dX10_in_1 rfl ?_
  refine gi_icmp_lt (tgt := 14) dX10_in_2 (by decide) ⟨by omega, by omega⟩ ⟨by omega, by omega⟩ (fun c_2 => ?_) (fun c_2 => ?_)
  · refine gi_iconst dX10_in_14 ?_
    subst hQF9
    refine gg_iret dX10_in_15 rfl (nar_bool (by omega)) ⟨(Nat.le_of_ble_eq_true rfl), (Nat.le_of_ble_eq_true rfl)⟩ ?_
    exact ⟨by congr 3; simp only [bi]; split <;> simp_all <;> omega, rfl⟩
  · refine gg_iload_n dX10_in_5 rfl ?_
    refine gg_iload_n dX10_in_6 rfl ?_
    refine gi_icmp_gt (tgt := 14) dX10_in_7 (by decide) ⟨by omega, by omega⟩ ⟨by omega, by omega⟩ (fun c_7 => ?_) (fun c_7 => ?_)
    · refine gi_iconst dX10_in_14 ?_
      subst hQF9
      refine gg_iret dX10_in_15 rfl (nar_bool (by omega)) ⟨(Nat.le_of_ble_eq_true rfl), (Nat.le_of_ble_eq_true rfl)⟩ ?_
      exact ⟨by congr 3; simp only [bi]; split <;> simp_all <;> omega, rfl⟩
    · refine gi_iconst dX10_in_10 ?_
      refine gg_goto (tgt := 15) dX10_in_11 (by decide) ?_
      subst hQF9
      refine gg_iret dX10_in_15 rfl (nar_bool (by omega)) ⟨(Nat.le_of_ble_eq_true rfl), (Nat.le_of_ble_eq_true rfl)⟩ ?_
      exact ⟨by congr 3; simp only [bi]; split <;> simp_all <;> omega, rfl⟩
set_option maxRecDepth 100000 in
set_option maxHeartbeats 4000000 in
theorem c_X10_fails {Γ : GT} {h : XH} {F : Nat → Int} {A : Nat → Int → Int} {w : Int} : Ct Γ M_X10_fails [.ref (g_L Γ 0), .int (iN w)] (mst Γ h F A) (fun r h9 => r = some (.int (iN (0))) ∧ h9 = mst Γ h (uF F 0 w) A) (fun _ _ => False) := by
  refine Ct.of rfl (by decide +kernel) (Nat.le_of_ble_eq_true rfl) ?_
  generalize hQF9 : QM Γ _ _ _ = QF9
  refine gg_aload_n dX10_fails_0 rfl rfl ?_
  refine gg_iload_n dX10_fails_1 rfl ?_
  refine gm_put3 rfl dX10_fails_2 ?_
  refine gi_iconst dX10_fails_5 ?_
  subst hQF9
  refine gg_iret dX10_fails_6 rfl rfl ⟨(Nat.le_of_ble_eq_true rfl), (Nat.le_of_ble_eq_true rfl)⟩ ?_
  exact ⟨rfl, rfl⟩
set_option maxRecDepth 100000 in
set_option maxHeartbeats 4000000 in
theorem c_X10_isLetter {Γ : GT} {h : XH} {c : Int} (hc : InR c) : Ct Γ M_X10_isLetter [.int (iN c)] (h) (fun r h9 => r = some (.int (iN (bi (isLet c)))) ∧ h9 = h) (fun _ _ => False) := by
  refine Ct.of rfl (by decide +kernel) (Nat.le_of_ble_eq_true rfl) ?_
  generalize hQF9 : QM Γ _ _ _ = QF9
  refine gg_iload_n dX10_isLetter_0 rfl ?_
  refine gi_bipush dX10_isLetter_1 (by decide) ?_
  refine gi_bipush dX10_isLetter_3 (by decide) ?_
  refine gc_X10_158 rfl dX10_isLetter_5 ⟨(Nat.le_of_ble_eq_true rfl), (Nat.le_of_ble_eq_true rfl)⟩ ⟨(Nat.le_of_ble_eq_true rfl), (Nat.le_of_ble_eq_true rfl)⟩ (Nat.le_of_ble_eq_true rfl) (c_X10_in hc ⟨by omega, by omega⟩ ⟨by omega, by omega⟩) (fun _ _ w => w.elim) (fun r_5 h_5 hp => ?_)
  obtain ⟨rfl, rfl⟩ := hp
  subst hQF9
  refine gg_iret dX10_isLetter_8 rfl (nar_bool (bi_01 _)) ⟨(Nat.le_of_ble_eq_true rfl), (Nat.le_of_ble_eq_true rfl)⟩ ?_
  exact ⟨rfl, rfl⟩
set_option maxRecDepth 100000 in
set_option maxHeartbeats 4000000 in
theorem c_X10_isVowel {Γ : GT} {h : XH} {c : Int} (hc : InR c) : Ct Γ M_X10_isVowel [.int (iN c)] (h) (fun r h9 => r = some (.int (iN (bi (vow c)))) ∧ h9 = h) (fun _ _ => False) := by
  refine Ct.of rfl (by decide +kernel) (Nat.le_of_ble_eq_true rfl) ?_
  generalize hQF9 : QM Γ _ _ _ = QF9
  refine gg_iload_n dX10_isVowel_0 rfl ?_
  refine gi_bipush dX10_isVowel_1 (by decide) ?_
  refine gi_icmp_eq (tgt := 36) dX10_isVowel_3 (by decide) hc ⟨by omega, by omega⟩ (fun c_3 => ?_) (fun c_3 => ?_)
  · refine gi_iconst dX10_isVowel_36 ?_
    refine gg_goto (tgt := 41) dX10_isVowel_37 (by decide) ?_
    subst hQF9
    refine gg_iret dX10_isVowel_41 rfl (nar_bool (by omega)) ⟨(Nat.le_of_ble_eq_true rfl), (Nat.le_of_ble_eq_true rfl)⟩ ?_
    exact ⟨by congr 3; simp [bi, vow, *], rfl⟩
  · refine gg_iload_n dX10_isVowel_6 rfl ?_
    refine gi_bipush dX10_isVowel_7 (by decide) ?_
    refine gi_icmp_eq (tgt := 36) dX10_isVowel_9 (by decide) hc ⟨by omega, by omega⟩ (fun c_9 => ?_) (fun c_9 => ?_)
    · refine gi_iconst dX10_isVowel_36 ?_
      refine gg_goto (tgt := 41) dX10_isVowel_37 (by decide) ?_
      subst hQF9
      refine gg_iret dX10_isVowel_41 rfl (nar_bool (by omega)) ⟨(Nat.le_of_ble_eq_true rfl), (Nat.le_of_ble_eq_true rfl)⟩ ?_
      exact ⟨by congr 3; simp [bi, vow, *], rfl⟩
    · refine gg_iload_n dX10_isVowel_12 rfl ?_
      refine gi_bipush dX10_isVowel_13 (by decide) ?_
      refine gi_icmp_eq (tgt := 36) dX10_isVowel_15 (by decide) hc ⟨by omega, by omega⟩ (fun c_15 => ?_) (fun c_15 => ?_)
      · refine gi_iconst dX10_isVowel_36 ?_
        refine gg_goto (tgt := 41) dX10_isVowel_37 (by decide) ?_
        subst hQF9
        refine gg_iret dX10_isVowel_41 rfl (nar_bool (by omega)) ⟨(Nat.le_of_ble_eq_true rfl), (Nat.le_of_ble_eq_true rfl)⟩ ?_
        exact ⟨by congr 3; simp [bi, vow, *], rfl⟩
      · refine gg_iload_n dX10_isVowel_18 rfl ?_
        refine gi_bipush dX10_isVowel_19 (by decide) ?_
        refine gi_icmp_eq (tgt := 36) dX10_isVowel_21 (by decide) hc ⟨by omega, by omega⟩ (fun c_21 => ?_) (fun c_21 => ?_)
        · refine gi_iconst dX10_isVowel_36 ?_
          refine gg_goto (tgt := 41) dX10_isVowel_37 (by decide) ?_
          subst hQF9
          refine gg_iret dX10_isVowel_41 rfl (nar_bool (by omega)) ⟨(Nat.le_of_ble_eq_true rfl), (Nat.le_of_ble_eq_true rfl)⟩ ?_
          exact ⟨by congr 3; simp [bi, vow, *], rfl⟩
        · refine gg_iload_n dX10_isVowel_24 rfl ?_
          refine gi_bipush dX10_isVowel_25 (by decide) ?_
          refine gi_icmp_eq (tgt := 36) dX10_isVowel_27 (by decide) hc ⟨by omega, by omega⟩ (fun c_27 => ?_) (fun c_27 => ?_)
          · refine gi_iconst dX10_isVowel_36 ?_
            refine gg_goto (tgt := 41) dX10_isVowel_37 (by decide) ?_
            subst hQF9
            refine gg_iret dX10_isVowel_41 rfl (nar_bool (by omega)) ⟨(Nat.le_of_ble_eq_true rfl), (Nat.le_of_ble_eq_true rfl)⟩ ?_
            exact ⟨by congr 3; simp [bi, vow, *], rfl⟩
          · refine gg_iload_n dX10_isVowel_30 rfl ?_
            refine gi_bipush dX10_isVowel_31 (by decide) ?_
            refine gi_icmp_ne (tgt := 40) dX10_isVowel_33 (by decide) hc ⟨by omega, by omega⟩ (fun c_33 => ?_) (fun c_33 => ?_)
            · refine gi_iconst dX10_isVowel_40 ?_
              subst hQF9
              refine gg_iret dX10_isVowel_41 rfl (nar_bool (by omega)) ⟨(Nat.le_of_ble_eq_true rfl), (Nat.le_of_ble_eq_true rfl)⟩ ?_
              exact ⟨by congr 3; simp [bi, vow, *], rfl⟩
            · refine gi_iconst dX10_isVowel_36 ?_
              refine gg_goto (tgt := 41) dX10_isVowel_37 (by decide) ?_
              subst hQF9
              refine gg_iret dX10_isVowel_41 rfl (nar_bool (by omega)) ⟨(Nat.le_of_ble_eq_true rfl), (Nat.le_of_ble_eq_true rfl)⟩ ?_
              exact ⟨by congr 3; simp [bi, vow, *], rfl⟩
set_option maxRecDepth 100000 in
set_option maxHeartbeats 4000000 in
theorem c_X10_sign {Γ : GT} {h : XH} {F : Nat → Int} {A : Nat → Int → Int} (h8 : InR (F 8)) (h9 : 0 ≤ F 9 ∧ F 9 ≤ 60) (h60 : F 8 ≤ 60) (h11 : InR (F 11)) : Ct Γ M_X10_sign [.ref (g_L Γ 0)] (mst Γ h F A) (fun r h9 => r = some (.int (iN (sgn F A))) ∧ h9 = mst Γ h F A) (fun _ _ => False) := by
  refine Ct.of rfl (by decide +kernel) (Nat.le_of_ble_eq_true rfl) ?_
  generalize hQF9 : QM Γ _ _ _ = QF9
  refine gg_aload_n dX10_sign_0 rfl rfl ?_
  refine gm_get45 rfl dX10_sign_1 ?_
  refine gi_if_ne (tgt := 30) dX10_sign_4 (by decide) ⟨by omega, by omega⟩ (fun c_4 => ?_) (fun c_4 => ?_)
  · refine gi_iconst dX10_sign_30 ?_
    subst hQF9
    refine gg_iret dX10_sign_31 rfl rfl ⟨(Nat.le_of_ble_eq_true rfl), (Nat.le_of_ble_eq_true rfl)⟩ ?_
    exact ⟨by congr 3; simp only [sgn]; split <;> first | rfl | omega, rfl⟩
  · refine gg_aload_n dX10_sign_7 rfl rfl ?_
    refine gm_get39 rfl dX10_sign_8 ?_
    refine gg_aload_n dX10_sign_11 rfl rfl ?_
    refine gm_get36 rfl dX10_sign_12 ?_
    refine gi_icmp_ge (tgt := 30) dX10_sign_15 (by decide) ⟨by omega, by omega⟩ ⟨by omega, by omega⟩ (fun c_15 => ?_) (fun c_15 => ?_)
    · refine gi_iconst dX10_sign_30 ?_
      subst hQF9
      refine gg_iret dX10_sign_31 rfl rfl ⟨(Nat.le_of_ble_eq_true rfl), (Nat.le_of_ble_eq_true rfl)⟩ ?_
      exact ⟨by congr 3; simp only [sgn]; split <;> first | rfl | omega, rfl⟩
    · refine gg_aload_n dX10_sign_18 rfl rfl ?_
      refine gm_get33 rfl dX10_sign_19 ?_
      refine gg_aload_n dX10_sign_22 rfl rfl ?_
      refine gm_get39 rfl dX10_sign_23 ?_
      refine gm_iald dX10_sign_26 (by decide) rfl (by decide) ⟨by omega, by simp only [ml9]; omega⟩ ?_
      refine gg_goto (tgt := 31) dX10_sign_27 (by decide) ?_
      subst hQF9
      refine gg_iret dX10_sign_31 rfl rfl ⟨(Nat.le_of_ble_eq_true rfl), (Nat.le_of_ble_eq_true rfl)⟩ ?_
      exact ⟨by congr 3; simp only [sgn]; split <;> first | rfl | omega, rfl⟩
