/-! the reference: elisions, sounds, costs -/
theorem iN_tn (n : Nat) : iN (n : Int) = nI n := iN_nI n
theorem smod_k {k : Nat} (hk : k < 32) : ((nI k &&& 31).toBitVec.smod 32).toNat = k := by
  have : ∀ j : Fin 32, ((nI j.val &&& 31).toBitVec.smod 32).toNat = j.val := by decide +kernel
  exact this ⟨k, hk⟩
theorem bt_shr {z k : Int} (hz : 0 ≤ z ∧ z ≤ 2147483647) (hk : 0 ≤ k ∧ k < 32) : iN z >>> (iN k &&& 31) = iN (z / 2 ^ k.toNat) := by
  obtain ⟨n, rfl⟩ := Int.eq_ofNat_of_zero_le hz.1
  obtain ⟨j, rfl⟩ := Int.eq_ofNat_of_zero_le hk.1
  rw [iN_nI, iN_nI, pk_shrN (by omega) _ j (smod_k (by omega)), ← iN_nI]
  congr 1
theorem bt_shl {k : Int} (hk : 0 ≤ k ∧ k < 31) : iN 1 <<< (iN k &&& 31) = iN (2 ^ k.toNat) := by
  obtain ⟨j, rfl⟩ := Int.eq_ofNat_of_zero_le hk.1
  have h1 : iN 1 = nI 1 := rfl
  have hp : 1 * 2 ^ j < 2 ^ 32 := by rw [Nat.one_mul]; exact Nat.pow_lt_pow_right (by omega) (by omega)
  rw [iN_nI, h1, pk_shlN _ j (smod_k (by omega)) hp, ← iN_nI]
  congr 1
  simp
theorem bt_and {a b : Int} (ha : 0 ≤ a) (hb : 0 ≤ b) : iN a &&& iN b = iN ((a.toNat &&& b.toNat : Nat) : Int) := by
  obtain ⟨n, rfl⟩ := Int.eq_ofNat_of_zero_le ha
  obtain ⟨m, rfl⟩ := Int.eq_ofNat_of_zero_le hb
  rw [iN_nI, iN_nI, fa_and, iN_nI]
  rfl
theorem bt_or {a b : Int} (ha : 0 ≤ a) (hb : 0 ≤ b) : iN a ||| iN b = iN ((a.toNat ||| b.toNat : Nat) : Int) := by
  obtain ⟨n, rfl⟩ := Int.eq_ofNat_of_zero_le ha
  obtain ⟨m, rfl⟩ := Int.eq_ofNat_of_zero_le hb
  rw [iN_nI, iN_nI, fa_or, iN_nI]
  rfl
theorem bt_a1 {a : Int} (ha : 0 ≤ a) : iN a &&& iN 1 = iN (a % 2) := by
  rw [bt_and ha (by omega)]
  congr 1
  obtain ⟨n, rfl⟩ := Int.eq_ofNat_of_zero_le ha
  show ((n &&& 1 : Nat) : Int) = _
  rw [Nat.and_one_is_mod]
  omega
theorem bt_a3 {a : Int} (ha : 0 ≤ a) : iN a &&& iN 3 = iN (a % 4) := by
  rw [bt_and ha (by omega)]
  congr 1
  obtain ⟨n, rfl⟩ := Int.eq_ofNat_of_zero_le ha
  show ((n &&& 3 : Nat) : Int) = _
  rw [show (3 : Nat) = 2 ^ 2 - 1 from rfl, Nat.and_two_pow_sub_one_eq_mod]
  omega
/-- a set out of its members -/
def plN (e9 : Int → Bool) : Nat → Nat
  | 0 => 0
  | k + 1 => if e9 k = true then plN e9 k + 2 ^ k else plN e9 k
theorem plN_lt (e9 : Int → Bool) : ∀ k, plN e9 k < 2 ^ k
  | 0 => by simp [plN]
  | k + 1 => by
    have := plN_lt e9 k
    unfold plN
    rw [Nat.pow_succ]
    split <;> omega
theorem plN_or {e9 : Int → Bool} {k : Nat} : plN e9 k ||| 2 ^ k = plN e9 k + 2 ^ k := by
  rw [Nat.or_comm, Nat.add_comm, show (2 ^ k : Nat) = 2 ^ k * 1 by omega, ← Nat.two_pow_add_eq_or_of_lt (plN_lt e9 k)]
theorem or_pl {e9 : Int → Bool} {k : Nat} : iN ((plN e9 k : Nat) : Int) ||| iN (2 ^ k) = iN ((plN e9 k + 2 ^ k : Nat) : Int) := by
  rw [bt_or (by omega) (Int.le_of_lt (Int.pow_pos (by omega))), ← plN_or]
  congr 3
/-- what a laid line is -/
def LW (F : Nat → Int) (A : Nat → Int → Int) : Prop := (1 ≤ F 16 ∧ F 16 ≤ 12) ∧ ∀ k, 0 ≤ k → k < F 16 → (A 12 k = 0 ∨ A 12 k = 1) ∧ (A 13 k = 0 ∨ A 13 k = 1) ∧ (A 14 k = 0 ∨ A 14 k = 1) ∧ (1 ≤ A 10 k ∧ A 10 k ≤ 12) ∧ ∀ j, 0 ≤ j → j < A 10 k → 0 ≤ A 11 (12 * k + j) ∧ A 11 (12 * k + j) ≤ 2
def eln (F : Nat → Int) (A : Nat → Int → Int) (k : Int) : Bool := decide (k + 1 < F 16 ∧ A 12 k = 0 ∧ A 13 k ≠ 0 ∧ A 14 (k + 1) ≠ 0)
def pls (F : Nat → Int) (A : Nat → Int → Int) : Int := plN (eln F A) (F 16).toNat
theorem pls_r {F : Nat → Int} {A : Nat → Int → Int} (hw : F 16 ≤ 12) : 0 ≤ pls F A ∧ pls F A < 4096 := by
  have h1 := plN_lt (eln F A) (F 16).toNat
  have h2 : 2 ^ (F 16).toNat ≤ 2 ^ 12 := Nat.pow_le_pow_right (by omega) (by omega)
  unfold pls
  omega
def btc (z : Int) : Nat → Int
  | 0 => 0
  | k + 1 => btc z k + z / 2 ^ k % 2
theorem btc_r {z : Int} (hz : 0 ≤ z) : ∀ k, 0 ≤ btc z k ∧ btc z k ≤ k
  | 0 => by simp [btc]
  | k + 1 => by
    have := btc_r hz k
    unfold btc
    omega
def ally (A : Nat → Int → Int) : Nat → Int
  | 0 => 0
  | k + 1 => ally A k + A 10 k
set_option maxRecDepth 100000 in
set_option maxHeartbeats 4000000 in
theorem c_X10_isElision {Γ : GT} {h : XH} {F : Nat → Int} {A : Nat → Int → Int} (L9 : LW F A) {k : Int} (hk : 0 ≤ k ∧ k < F 16) : Ct Γ M_X10_isElision [.ref (g_L Γ 0), .int (iN k)] (mst Γ h F A) (fun r h9 => r = some (.int (iN (bi (eln F A k)))) ∧ h9 = mst Γ h F A) (fun _ _ => False) := by
  refine Ct.of rfl (by decide +kernel) (Nat.le_of_ble_eq_true rfl) ?_
  generalize hQF9 : QM Γ _ _ _ = QF9
  obtain ⟨l1, l2⟩ := id L9
  obtain ⟨k1, k2, k3, k4, k5⟩ := l2 k (by omega) (by omega)
  refine gg_iload_n dX10_isElision_0 rfl ?_
  refine gi_iconst dX10_isElision_1 ?_
  refine gi_iadd dX10_isElision_2 ?_
  refine gg_aload_n dX10_isElision_3 rfl rfl ?_
  refine gm_get60 rfl dX10_isElision_4 (by (try simp only [uF_s, uF_n, ne_eq, not_false_eq_true, Nat.reduceEqDiff, reduceCtorEq]); rfl) ?_
  refine gi_icmp_ge (tgt := 43) dX10_isElision_7 (by decide) ⟨by omega, by omega⟩ ⟨by omega, by omega⟩ (fun c_7 => ?_) (fun c_7 => ?_)
  · refine gi_iconst dX10_isElision_43 ?_
    subst hQF9
    refine gg_iret dX10_isElision_44 rfl (nar_bool (by omega)) ⟨(Nat.le_of_ble_eq_true rfl), (Nat.le_of_ble_eq_true rfl)⟩ ?_
    exact ⟨by congr 3; rw [eln, bi_d]; first | (rw [if_pos ⟨by omega, by omega, by omega, by omega⟩]; done) | rw [if_neg (by omega)], rfl⟩
  · obtain ⟨m1, m2, m3, m4, m5⟩ := l2 (k + 1) (by omega) (by omega)
    refine gg_aload_n dX10_isElision_10 rfl rfl ?_
    refine gm_get75 rfl dX10_isElision_11 ?_
    refine gg_iload_n dX10_isElision_14 rfl ?_
    refine gm_zald dX10_isElision_15 (by decide) rfl (by decide) ⟨by omega, by simp only [ml9]; omega⟩ (by (try simp only [uA_s, uA_n, ne_eq, not_false_eq_true, Nat.reduceEqDiff, reduceCtorEq]); rfl) ?_
    refine gi_if_ne (tgt := 43) dX10_isElision_16 (by decide) ⟨by omega, by omega⟩ (fun c_16 => ?_) (fun c_16 => ?_)
    · refine gi_iconst dX10_isElision_43 ?_
      subst hQF9
      refine gg_iret dX10_isElision_44 rfl (nar_bool (by omega)) ⟨(Nat.le_of_ble_eq_true rfl), (Nat.le_of_ble_eq_true rfl)⟩ ?_
      exact ⟨by congr 3; rw [eln, bi_d]; first | (rw [if_pos ⟨by omega, by omega, by omega, by omega⟩]; done) | rw [if_neg (by omega)], rfl⟩
    · refine gg_aload_n dX10_isElision_19 rfl rfl ?_
      refine gm_get79 rfl dX10_isElision_20 ?_
      refine gg_iload_n dX10_isElision_23 rfl ?_
      refine gm_zald dX10_isElision_24 (by decide) rfl (by decide) ⟨by omega, by simp only [ml9]; omega⟩ (by (try simp only [uA_s, uA_n, ne_eq, not_false_eq_true, Nat.reduceEqDiff, reduceCtorEq]); rfl) ?_
      refine gi_if_eq (tgt := 43) dX10_isElision_25 (by decide) ⟨by omega, by omega⟩ (fun c_25 => ?_) (fun c_25 => ?_)
      · refine gi_iconst dX10_isElision_43 ?_
        subst hQF9
        refine gg_iret dX10_isElision_44 rfl (nar_bool (by omega)) ⟨(Nat.le_of_ble_eq_true rfl), (Nat.le_of_ble_eq_true rfl)⟩ ?_
        exact ⟨by congr 3; rw [eln, bi_d]; first | (rw [if_pos ⟨by omega, by omega, by omega, by omega⟩]; done) | rw [if_neg (by omega)], rfl⟩
      · refine gg_aload_n dX10_isElision_28 rfl rfl ?_
        refine gm_get82 rfl dX10_isElision_29 ?_
        refine gg_iload_n dX10_isElision_32 rfl ?_
        refine gi_iconst dX10_isElision_33 ?_
        refine gi_iadd dX10_isElision_34 ?_
        refine gm_zald dX10_isElision_35 (by decide) rfl (by decide) ⟨by omega, by simp only [ml9]; omega⟩ (by (try simp only [uA_s, uA_n, ne_eq, not_false_eq_true, Nat.reduceEqDiff, reduceCtorEq]); rfl) ?_
        refine gi_if_eq (tgt := 43) dX10_isElision_36 (by decide) ⟨by omega, by omega⟩ (fun c_36 => ?_) (fun c_36 => ?_)
        · refine gi_iconst dX10_isElision_43 ?_
          subst hQF9
          refine gg_iret dX10_isElision_44 rfl (nar_bool (by omega)) ⟨(Nat.le_of_ble_eq_true rfl), (Nat.le_of_ble_eq_true rfl)⟩ ?_
          exact ⟨by congr 3; rw [eln, bi_d]; first | (rw [if_pos ⟨by omega, by omega, by omega, by omega⟩]; done) | rw [if_neg (by omega)], rfl⟩
        · refine gi_iconst dX10_isElision_39 ?_
          refine gg_goto (tgt := 44) dX10_isElision_40 (by decide) ?_
          subst hQF9
          refine gg_iret dX10_isElision_44 rfl (nar_bool (by omega)) ⟨(Nat.le_of_ble_eq_true rfl), (Nat.le_of_ble_eq_true rfl)⟩ ?_
          exact ⟨by congr 3; rw [eln, bi_d]; first | (rw [if_pos ⟨by omega, by omega, by omega, by omega⟩]; done) | rw [if_neg (by omega)], rfl⟩
set_option maxRecDepth 100000 in
set_option maxHeartbeats 4000000 in
theorem c_X10_places {Γ : GT} {h : XH} {F : Nat → Int} {A : Nat → Int → Int} (L9 : LW F A) : Ct Γ M_X10_places [.ref (g_L Γ 0)] (mst Γ h F A) (fun r h9 => r = some (.int (iN (pls F A))) ∧ h9 = mst Γ h F A) (fun _ _ => False) := by
  refine Ct.of rfl (by decide +kernel) (Nat.le_of_ble_eq_true rfl) ?_
  generalize hQF9 : QM Γ _ _ _ = QF9
  obtain ⟨l1, l2⟩ := id L9
  refine gi_iconst dX10_places_0 ?_
  refine gg_istore_n dX10_places_1 (Nat.le_of_ble_eq_true rfl) rfl ?_
  refine gi_iconst dX10_places_2 ?_
  refine gg_istore_n dX10_places_3 (Nat.le_of_ble_eq_true rfl) rfl ?_
  have L_4 : ∀ (n9 : Nat) (k : Int), ((F 16 - k).toNat) = n9 → ∀ (hk : 0 ≤ k ∧ k ≤ F 16), GG Γ M_X10_places QF9 (0, 0) (mst Γ h F A) 4 [some (.ref (g_L Γ 0)), some (.int (iN (plN (eln F A) k.toNat))), some (.int (iN k))] [] := by
    intro n9
    induction n9 using Nat.strongRecOn with
    | ind n9 ih_4 => 
      intro k hm9 hk
      refine gg_iload_n dX10_places_4 rfl ?_
      refine gg_aload_n dX10_places_5 rfl rfl ?_
      refine gm_get60 rfl dX10_places_6 (by (try simp only [uF_s, uF_n, ne_eq, not_false_eq_true, Nat.reduceEqDiff, reduceCtorEq]); rfl) ?_
      refine gi_icmp_ge (tgt := 36) dX10_places_9 (by decide) ⟨by omega, by omega⟩ ⟨by omega, by omega⟩ (fun c_9 => ?_) (fun c_9 => ?_)
      · refine gg_iload_n dX10_places_36 rfl ?_
        subst hQF9
        refine gg_iret dX10_places_37 rfl rfl ⟨(Nat.le_of_ble_eq_true rfl), (Nat.le_of_ble_eq_true rfl)⟩ ?_
        rw [show k = F 16 by omega]
        exact ⟨rfl, rfl⟩
      · refine gg_iload_n dX10_places_12 rfl ?_
        refine gg_aload_n dX10_places_13 rfl rfl ?_
        refine gg_iload_n dX10_places_14 rfl ?_
        refine gc_X10_255 rfl dX10_places_15 ⟨(Nat.le_of_ble_eq_true rfl), (Nat.le_of_ble_eq_true rfl)⟩ ⟨(Nat.le_of_ble_eq_true rfl), (Nat.le_of_ble_eq_true rfl)⟩ (Nat.le_of_ble_eq_true rfl) (HAt.mu rfl) (c_X10_isElision L9 ⟨by omega, by omega⟩) (fun _ _ w => w.elim) (fun r_15 h_15 hp => ?_)
        obtain ⟨rfl, rfl⟩ := hp
        refine gi_if_eq (tgt := 27) dX10_places_18 (by decide) (bi_r _) (fun c_18 => ?_) (fun c_18 => ?_)
        · rw [bi_f] at c_18
          refine gi_iconst dX10_places_27 ?_
          refine gi_ior _ (by first | exact ior_0 | exact or_pl) dX10_places_28 ?_
          refine gg_istore_n dX10_places_29 (Nat.le_of_ble_eq_true rfl) rfl ?_
          refine gi_iinc dX10_places_30 rfl (Nat.le_of_ble_eq_true rfl) rfl ?_
          refine gg_goto (tgt := 4) dX10_places_33 (by decide) ?_
          have ek : (k + 1).toNat = k.toNat + 1 := by omega
          refine gg_conv (ih_4 _ (by omega) (k + 1) rfl (by omega)) rfl ?_ rfl
          simp only [lset, ek, plN, Int.toNat_of_nonneg hk.1, c_18, if_true, Bool.false_eq_true, if_false]
        · rw [bi_t] at c_18
          refine gi_iconst dX10_places_21 ?_
          refine gg_iload_n dX10_places_22 rfl ?_
          refine gi_ishl _ (bt_shl ⟨by omega, by omega⟩) dX10_places_23 ?_
          refine gg_goto (tgt := 28) dX10_places_24 (by decide) ?_
          refine gi_ior _ (by first | exact ior_0 | exact or_pl) dX10_places_28 ?_
          refine gg_istore_n dX10_places_29 (Nat.le_of_ble_eq_true rfl) rfl ?_
          refine gi_iinc dX10_places_30 rfl (Nat.le_of_ble_eq_true rfl) rfl ?_
          refine gg_goto (tgt := 4) dX10_places_33 (by decide) ?_
          have ek : (k + 1).toNat = k.toNat + 1 := by omega
          refine gg_conv (ih_4 _ (by omega) (k + 1) rfl (by omega)) rfl ?_ rfl
          simp only [lset, ek, plN, Int.toNat_of_nonneg hk.1, c_18, if_true, Bool.false_eq_true, if_false]
  exact L_4 _ 0 rfl (by omega)
set_option maxRecDepth 100000 in
set_option maxHeartbeats 4000000 in
theorem c_X10_bits {Γ : GT} {h : XH} {z : Int} (hz : 0 ≤ z ∧ z ≤ 4095) : Ct Γ M_X10_bits [.int (iN z)] (h) (fun r h9 => r = some (.int (iN (btc z 12))) ∧ h9 = h) (fun _ _ => False) := by
  refine Ct.of rfl (by decide +kernel) (Nat.le_of_ble_eq_true rfl) ?_
  generalize hQF9 : QM Γ _ _ _ = QF9
  refine gi_iconst dX10_bits_0 ?_
  refine gg_istore_n dX10_bits_1 (Nat.le_of_ble_eq_true rfl) rfl ?_
  refine gi_iconst dX10_bits_2 ?_
  refine gg_istore_n dX10_bits_3 (Nat.le_of_ble_eq_true rfl) rfl ?_
  have L_4 : ∀ (n9 : Nat) (k : Int), ((12 - k).toNat) = n9 → ∀ (hk : 0 ≤ k ∧ k ≤ 12), GG Γ M_X10_bits QF9 (0, 0) (h) 4 [some (.int (iN z)), some (.int (iN (btc z k.toNat))), some (.int (iN k))] [] := by
    intro n9
    induction n9 using Nat.strongRecOn with
    | ind n9 ih_4 => 
      intro k hm9 hk
      refine gg_iload_n dX10_bits_4 rfl ?_
      refine gi_bipush dX10_bits_5 (by decide) ?_
      refine gi_icmp_ge (tgt := 24) dX10_bits_7 (by decide) ⟨by omega, by omega⟩ ⟨by omega, by omega⟩ (fun c_7 => ?_) (fun c_7 => ?_)
      · refine gg_iload_n dX10_bits_24 rfl ?_
        subst hQF9
        refine gg_iret dX10_bits_25 rfl rfl ⟨(Nat.le_of_ble_eq_true rfl), (Nat.le_of_ble_eq_true rfl)⟩ ?_
        rw [show k.toNat = 12 by omega]
        exact ⟨rfl, rfl⟩
      · refine gg_iload_n dX10_bits_10 rfl ?_
        refine gg_iload_n dX10_bits_11 rfl ?_
        refine gg_iload_n dX10_bits_12 rfl ?_
        refine gi_ishr _ (bt_shr ⟨by omega, by omega⟩ ⟨by omega, by omega⟩) dX10_bits_13 ?_
        refine gi_iconst dX10_bits_14 ?_
        refine gi_iand _ (bt_a1 (Int.ediv_nonneg (by omega) (Int.le_of_lt (Int.pow_pos (by omega))))) dX10_bits_15 ?_
        refine gi_iadd dX10_bits_16 ?_
        refine gg_istore_n dX10_bits_17 (Nat.le_of_ble_eq_true rfl) rfl ?_
        refine gi_iinc dX10_bits_18 rfl (Nat.le_of_ble_eq_true rfl) rfl ?_
        refine gg_goto (tgt := 4) dX10_bits_21 (by decide) ?_
        have ek : (k + 1).toNat = k.toNat + 1 := by omega
        refine gg_conv (ih_4 _ (by omega) (k + 1) rfl (by omega)) rfl ?_ rfl
        simp only [lset, ek, btc]
  exact L_4 _ 0 rfl (by omega)
set_option maxRecDepth 100000 in
set_option maxHeartbeats 4000000 in
theorem c_X10_allSyllables {Γ : GT} {h : XH} {F : Nat → Int} {A : Nat → Int → Int} (L9 : LW F A) : Ct Γ M_X10_allSyllables [.ref (g_L Γ 0)] (mst Γ h F A) (fun r h9 => r = some (.int (iN (ally A (F 16).toNat))) ∧ h9 = mst Γ h F A) (fun _ _ => False) := by
  refine Ct.of rfl (by decide +kernel) (Nat.le_of_ble_eq_true rfl) ?_
  generalize hQF9 : QM Γ _ _ _ = QF9
  obtain ⟨l1, l2⟩ := id L9
  refine gi_iconst dX10_allSyllables_0 ?_
  refine gg_istore_n dX10_allSyllables_1 (Nat.le_of_ble_eq_true rfl) rfl ?_
  refine gi_iconst dX10_allSyllables_2 ?_
  refine gg_istore_n dX10_allSyllables_3 (Nat.le_of_ble_eq_true rfl) rfl ?_
  have L_4 : ∀ (n9 : Nat) (k : Int), ((F 16 - k).toNat) = n9 → ∀ (hk : 0 ≤ k ∧ k ≤ F 16), GG Γ M_X10_allSyllables QF9 (0, 0) (mst Γ h F A) 4 [some (.ref (g_L Γ 0)), some (.int (iN (ally A k.toNat))), some (.int (iN k))] [] := by
    intro n9
    induction n9 using Nat.strongRecOn with
    | ind n9 ih_4 => 
      intro k hm9 hk
      refine gg_iload_n dX10_allSyllables_4 rfl ?_
      refine gg_aload_n dX10_allSyllables_5 rfl rfl ?_
      refine gm_get60 rfl dX10_allSyllables_6 (by (try simp only [uF_s, uF_n, ne_eq, not_false_eq_true, Nat.reduceEqDiff, reduceCtorEq]); rfl) ?_
      refine gi_icmp_ge (tgt := 27) dX10_allSyllables_9 (by decide) ⟨by omega, by omega⟩ ⟨by omega, by omega⟩ (fun c_9 => ?_) (fun c_9 => ?_)
      · refine gg_iload_n dX10_allSyllables_27 rfl ?_
        subst hQF9
        refine gg_iret dX10_allSyllables_28 rfl rfl ⟨(Nat.le_of_ble_eq_true rfl), (Nat.le_of_ble_eq_true rfl)⟩ ?_
        rw [show k = F 16 by omega]
        exact ⟨rfl, rfl⟩
      · refine gg_iload_n dX10_allSyllables_12 rfl ?_
        refine gg_aload_n dX10_allSyllables_13 rfl rfl ?_
        refine gm_get69 rfl dX10_allSyllables_14 ?_
        refine gg_iload_n dX10_allSyllables_17 rfl ?_
        refine gm_iald dX10_allSyllables_18 (by decide) rfl (by decide) ⟨by omega, by simp only [ml9]; omega⟩ (by (try simp only [uA_s, uA_n, ne_eq, not_false_eq_true, Nat.reduceEqDiff, reduceCtorEq]); rfl) ?_
        refine gi_iadd dX10_allSyllables_19 ?_
        refine gg_istore_n dX10_allSyllables_20 (Nat.le_of_ble_eq_true rfl) rfl ?_
        refine gi_iinc dX10_allSyllables_21 rfl (Nat.le_of_ble_eq_true rfl) rfl ?_
        refine gg_goto (tgt := 4) dX10_allSyllables_24 (by decide) ?_
        have ek : (k + 1).toNat = k.toNat + 1 := by omega
        refine gg_conv (ih_4 _ (by omega) (k + 1) rfl (by omega)) rfl ?_ rfl
        simp only [lset, ek, ally, Int.toNat_of_nonneg hk.1]
  exact L_4 _ 0 rfl (by omega)
set_option maxRecDepth 100000 in
set_option maxHeartbeats 4000000 in
theorem c_X10_by {Γ : GT} {h : XH} {F : Nat → Int} {A : Nat → Int → Int} {a b c : Int} : Ct Γ M_X10_by [.ref (g_L Γ 0), .int (iN a), .int (iN b), .int (iN c)] (mst Γ h F A) (fun r h9 => r = none ∧ h9 = mst Γ h (uF (uF (uF F 27 a) 28 b) 29 c) (A)) (fun _ _ => False) := by
  refine Ct.of rfl (by decide +kernel) (Nat.le_of_ble_eq_true rfl) ?_
  generalize hQF9 : QM Γ _ _ _ = QF9
  refine gg_aload_n dX10_by_0 rfl rfl ?_
  refine gg_iload_n dX10_by_1 rfl ?_
  refine gm_put94 rfl dX10_by_2 (by (try simp only [uF_ss, uF_cc, id_eq, Nat.reduceLT, reduceCtorEq]); rfl) ?_
  refine gg_aload_n dX10_by_5 rfl rfl ?_
  refine gg_iload_n dX10_by_6 rfl ?_
  refine gm_put97 rfl dX10_by_7 (by (try simp only [uF_ss, uF_cc, id_eq, Nat.reduceLT, reduceCtorEq]); rfl) ?_
  refine gg_aload_n dX10_by_10 rfl rfl ?_
  refine gg_iload_n dX10_by_11 rfl ?_
  refine gm_put100 rfl dX10_by_12 (by (try simp only [uF_ss, uF_cc, id_eq, Nat.reduceLT, reduceCtorEq]); rfl) ?_
  subst hQF9
  refine gg_vret dX10_by_15 rfl ⟨(Nat.le_of_ble_eq_true rfl), (Nat.le_of_ble_eq_true rfl)⟩ ?_
  exact ⟨rfl, rfl⟩
set_option maxRecDepth 100000 in
set_option maxHeartbeats 4000000 in
theorem c_X10_byNow {Γ : GT} {h : XH} {F : Nat → Int} {A : Nat → Int → Int} : Ct Γ M_X10_byNow [.ref (g_L Γ 0)] (mst Γ h F A) (fun r h9 => r = none ∧ h9 = mst Γ h (uF (uF (uF F 27 (A 1 0)) 28 (A 1 1)) 29 (A 1 2)) (A)) (fun _ _ => False) := by
  refine Ct.of rfl (by decide +kernel) (Nat.le_of_ble_eq_true rfl) ?_
  generalize hQF9 : QM Γ _ _ _ = QF9
  refine gg_aload_n dX10_byNow_0 rfl rfl ?_
  refine gg_aload_n dX10_byNow_1 rfl rfl ?_
  refine gm_get13 rfl dX10_byNow_2 ?_
  refine gi_iconst dX10_byNow_5 ?_
  refine gm_iald dX10_byNow_6 (by decide) rfl (by decide) ⟨by omega, by simp only [ml9]; omega⟩ (by (try simp only [uA_s, uA_n, ne_eq, not_false_eq_true, Nat.reduceEqDiff, reduceCtorEq]); rfl) ?_
  refine gg_aload_n dX10_byNow_7 rfl rfl ?_
  refine gm_get13 rfl dX10_byNow_8 ?_
  refine gi_iconst dX10_byNow_11 ?_
  refine gm_iald dX10_byNow_12 (by decide) rfl (by decide) ⟨by omega, by simp only [ml9]; omega⟩ (by (try simp only [uA_s, uA_n, ne_eq, not_false_eq_true, Nat.reduceEqDiff, reduceCtorEq]); rfl) ?_
  refine gg_aload_n dX10_byNow_13 rfl rfl ?_
  refine gm_get13 rfl dX10_byNow_14 ?_
  refine gi_iconst dX10_byNow_17 ?_
  refine gm_iald dX10_byNow_18 (by decide) rfl (by decide) ⟨by omega, by simp only [ml9]; omega⟩ (by (try simp only [uA_s, uA_n, ne_eq, not_false_eq_true, Nat.reduceEqDiff, reduceCtorEq]); rfl) ?_
  refine gc_X10_270 rfl dX10_byNow_19 ⟨(Nat.le_of_ble_eq_true rfl), (Nat.le_of_ble_eq_true rfl)⟩ ⟨(Nat.le_of_ble_eq_true rfl), (Nat.le_of_ble_eq_true rfl)⟩ (Nat.le_of_ble_eq_true rfl) (HAt.mu rfl) (c_X10_by) (fun _ _ w => w.elim) (fun r_19 h_19 hp => ?_)
  obtain ⟨rfl, rfl⟩ := hp
  subst hQF9
  refine gg_vret dX10_byNow_22 rfl ⟨(Nat.le_of_ble_eq_true rfl), (Nat.le_of_ble_eq_true rfl)⟩ ?_
  exact ⟨rfl, rfl⟩
