/-! texts and rows of the JDK -/
section RowsJ
variable {Γ : GT} {M : MT} {QF : List Frame → Array Value → State → State → Prop} {cs : Nat × Nat} {h : XH} {pc : Nat} {lv : List (Option Value)} {st : List Value}
theorem i2b_eq : ∀ c : Fin 256, (iN (c.val : Int)).toInt8.toInt32 = iN (if (c.val : Int) < 128 then (c.val : Int) else (c.val : Int) - 256) := by decide +kernel
theorem gi_i2b {c : Int} (hd : decode M.2.1 pc = .ok (.i2b, 1)) (hc : 0 ≤ c ∧ c ≤ 255) (k : GG Γ M QF cs h (pc + 1) lv (.int (iN (if c < 128 then c else c - 256)) :: st)) : GG Γ M QF cs h pc lv (.int (iN c) :: st) := by
  obtain ⟨n, rfl⟩ := Int.eq_ofNat_of_zero_le hc.1
  have e9 := i2b_eq ⟨n, by omega⟩
  dsimp only at e9
  exact fun p e s m args below meth c H locs ls C R z f L => lv_i2b C.x C.b hd e9 (k p e s m args below meth c H locs ls C R z f L)
end RowsJ
theorem nar_byte {x : Int} (h : 0 ≤ x ∧ x < 128) : narrow .byte (.int (iN x)) = .int (iN x) := by
  obtain ⟨n, rfl⟩ := Int.eq_ofNat_of_zero_le h.1
  have : ∀ j : Fin 128, narrow .byte (.int (iN (j.val : Int))) = .int (iN (j.val : Int)) := by decide +kernel
  exact this ⟨n, by omega⟩
set_option maxRecDepth 100000 in
set_option maxHeartbeats 4000000 in
theorem c_J0_coder_7d493 {Γ : GT} {h : XH} {i : Nat} (hi9 : i < 5) : Ct Γ M_J0_coder_7d493 [.ref (g_str Γ i)] (h) (fun r h9 => r = some (.int (iN (0))) ∧ h9 = h) (fun _ _ => False) := by
  refine Ct.of rfl (by decide +kernel) (Nat.le_of_ble_eq_true rfl) ?_
  generalize hQF9 : QM Γ _ _ _ = QF9
  refine gs_J0_38 rfl dJ0_coder_7d493_0 ?_
  refine gi_if_eq (tgt := 13) dJ0_coder_7d493_3 (by decide) ⟨by omega, by omega⟩ (fun c_3 => ?_) (fun c_3 => ?_)
  · exact absurd c_3 (by decide)
  · refine gg_aload_n dJ0_coder_7d493_6 rfl rfl ?_
    refine gs_J0_15 hi9 rfl dJ0_coder_7d493_7 ?_
    refine gg_goto (tgt := 14) dJ0_coder_7d493_10 (by decide) ?_
    subst hQF9
    refine gg_iret dJ0_coder_7d493_14 rfl (nar_byte ⟨by omega, by omega⟩) ⟨(Nat.le_of_ble_eq_true rfl), (Nat.le_of_ble_eq_true rfl)⟩ ?_
    exact ⟨rfl, rfl⟩
set_option maxRecDepth 100000 in
set_option maxHeartbeats 4000000 in
theorem c_J0_isLatin1_aae02 {Γ : GT} {h : XH} {i : Nat} (hi9 : i < 5) : Ct Γ M_J0_isLatin1_aae02 [.ref (g_str Γ i)] (h) (fun r h9 => r = some (.int (iN (1))) ∧ h9 = h) (fun _ _ => False) := by
  refine Ct.of rfl (by decide +kernel) (Nat.le_of_ble_eq_true rfl) ?_
  generalize hQF9 : QM Γ _ _ _ = QF9
  refine gs_J0_38 rfl dJ0_isLatin1_aae02_0 ?_
  refine gi_if_eq (tgt := 17) dJ0_isLatin1_aae02_3 (by decide) ⟨by omega, by omega⟩ (fun c_3 => ?_) (fun c_3 => ?_)
  · exact absurd c_3 (by decide)
  · refine gg_aload_n dJ0_isLatin1_aae02_6 rfl rfl ?_
    refine gs_J0_15 hi9 rfl dJ0_isLatin1_aae02_7 ?_
    refine gi_if_ne (tgt := 17) dJ0_isLatin1_aae02_10 (by decide) ⟨by omega, by omega⟩ (fun c_10 => ?_) (fun c_10 => ?_)
    · exact absurd rfl c_10
    · refine gi_iconst dJ0_isLatin1_aae02_13 ?_
      refine gg_goto (tgt := 18) dJ0_isLatin1_aae02_14 (by decide) ?_
      subst hQF9
      refine gg_iret dJ0_isLatin1_aae02_18 rfl (nar_bool (by omega)) ⟨(Nat.le_of_ble_eq_true rfl), (Nat.le_of_ble_eq_true rfl)⟩ ?_
      exact ⟨rfl, rfl⟩
set_option maxRecDepth 100000 in
set_option maxHeartbeats 4000000 in
theorem c_J0_length_8abf5 {Γ : GT} {h : XH} {i : Nat} (hi9 : i < 5) : Ct Γ M_J0_length_8abf5 [.ref (g_str Γ i)] (h) (fun r h9 => r = some (.int (iN (sln i))) ∧ h9 = h) (fun _ _ => False) := by
  refine Ct.of rfl (by decide +kernel) (Nat.le_of_ble_eq_true rfl) ?_
  generalize hQF9 : QM Γ _ _ _ = QF9
  refine gg_aload_n dJ0_length_8abf5_0 rfl rfl ?_
  refine gs_J0_9 hi9 rfl dJ0_length_8abf5_1 ?_
  refine gg_slen hi9 dJ0_length_8abf5_4 ?_
  refine gg_aload_n dJ0_length_8abf5_5 rfl rfl ?_
  refine gcs_J0_335 hi9 rfl dJ0_length_8abf5_6 ⟨(Nat.le_of_ble_eq_true rfl), (Nat.le_of_ble_eq_true rfl)⟩ ⟨(Nat.le_of_ble_eq_true rfl), (Nat.le_of_ble_eq_true rfl)⟩ (Nat.le_of_ble_eq_true rfl) (c_J0_coder_7d493 hi9) (fun _ _ w => w.elim) (fun r_6 h_6 hp => ?_)
  obtain ⟨rfl, rfl⟩ := hp
  refine gi_ishr (sln i) (by show iN (sln i) >>> (iN 0 &&& 31) = iN (sln i); have := sln_r ⟨i, hi9⟩; dsimp only at this; rw [bt_shr ⟨by omega, by omega⟩ ⟨by omega, by omega⟩]; simp) dJ0_length_8abf5_9 ?_
  subst hQF9
  refine gg_iret dJ0_length_8abf5_10 rfl rfl ⟨(Nat.le_of_ble_eq_true rfl), (Nat.le_of_ble_eq_true rfl)⟩ ?_
  exact ⟨rfl, rfl⟩
def ixF (i : Nat) (c : Int) : Nat → Int → Int
  | 0, _ => -1
  | m + 1, k => if sby i k = c then k else ixF i c m (k + 1)
set_option maxRecDepth 100000 in
set_option maxHeartbeats 4000000 in
theorem c_J1_canEncode_9a6ad {Γ : GT} {h : XH} {c : Int} (hc : 0 ≤ c ∧ c < 65536) : Ct Γ M_J1_canEncode_9a6ad [.int (iN c)] (h) (fun r h9 => r = some (.int (iN (bi (decide (c ≤ 255))))) ∧ h9 = h) (fun _ _ => False) := by
  refine Ct.of rfl (by decide +kernel) (Nat.le_of_ble_eq_true rfl) ?_
  generalize hQF9 : QM Γ _ _ _ = QF9
  refine gg_iload_n dJ1_canEncode_9a6ad_0 rfl ?_
  refine gi_if_lt (tgt := 15) dJ1_canEncode_9a6ad_1 (by decide) ⟨by omega, by omega⟩ (fun c_1 => ?_) (fun c_1 => ?_)
  · refine gi_iconst dJ1_canEncode_9a6ad_15 ?_
    subst hQF9
    refine gg_iret dJ1_canEncode_9a6ad_16 rfl (nar_bool (by omega)) ⟨(Nat.le_of_ble_eq_true rfl), (Nat.le_of_ble_eq_true rfl)⟩ ?_
    exact ⟨by rw [decide_eq_false (by omega)]; rfl, rfl⟩
  · refine gg_iload_n dJ1_canEncode_9a6ad_4 rfl ?_
    refine gi_sipush dJ1_canEncode_9a6ad_5 (by decide) ?_
    refine gi_icmp_gt (tgt := 15) dJ1_canEncode_9a6ad_8 (by decide) ⟨by omega, by omega⟩ ⟨by omega, by omega⟩ (fun c_8 => ?_) (fun c_8 => ?_)
    · refine gi_iconst dJ1_canEncode_9a6ad_15 ?_
      subst hQF9
      refine gg_iret dJ1_canEncode_9a6ad_16 rfl (nar_bool (by omega)) ⟨(Nat.le_of_ble_eq_true rfl), (Nat.le_of_ble_eq_true rfl)⟩ ?_
      exact ⟨by rw [decide_eq_false (by omega)]; rfl, rfl⟩
    · refine gi_iconst dJ1_canEncode_9a6ad_11 ?_
      refine gg_goto (tgt := 16) dJ1_canEncode_9a6ad_12 (by decide) ?_
      subst hQF9
      refine gg_iret dJ1_canEncode_9a6ad_16 rfl (nar_bool (by omega)) ⟨(Nat.le_of_ble_eq_true rfl), (Nat.le_of_ble_eq_true rfl)⟩ ?_
      exact ⟨by rw [decide_eq_true (by omega)]; rfl, rfl⟩
set_option maxRecDepth 100000 in
set_option maxHeartbeats 4000000 in
theorem c_J3_checkIndex_N {Γ : GT} {h : XH} {k n : Int} (hk : 0 ≤ k ∧ k < n) (hn : n ≤ 2147483647) : Ct Γ M_J3_checkIndex_8e157 [.int (iN k), .int (iN n), .null] (h) (fun r h9 => r = some (.int (iN (k))) ∧ h9 = h) (fun _ _ => False) := by
  refine Ct.of rfl (by decide +kernel) (Nat.le_of_ble_eq_true rfl) ?_
  generalize hQF9 : QM Γ _ _ _ = QF9
  refine gg_iload_n dJ3_checkIndex_8e157_0 rfl ?_
  refine gi_if_lt (tgt := 9) dJ3_checkIndex_8e157_1 (by decide) ⟨by omega, by omega⟩ (fun c_1 => ?_) (fun c_1 => ?_)
  · exact absurd c_1 (by omega)
  · refine gg_iload_n dJ3_checkIndex_8e157_4 rfl ?_
    refine gg_iload_n dJ3_checkIndex_8e157_5 rfl ?_
    refine gi_icmp_lt (tgt := 16) dJ3_checkIndex_8e157_6 (by decide) ⟨by omega, by omega⟩ ⟨by omega, by omega⟩ (fun c_6 => ?_) (fun c_6 => ?_)
    · refine gg_iload_n dJ3_checkIndex_8e157_16 rfl ?_
      subst hQF9
      refine gg_iret dJ3_checkIndex_8e157_17 rfl rfl ⟨(Nat.le_of_ble_eq_true rfl), (Nat.le_of_ble_eq_true rfl)⟩ ?_
      exact ⟨rfl, rfl⟩
    · exact absurd c_6 (by omega)
set_option maxRecDepth 100000 in
set_option maxHeartbeats 4000000 in
theorem c_J3_checkIndex_R {Γ : GT} {h : XH} {k n : Int} (hk : 0 ≤ k ∧ k < n) (hn : n ≤ 2147483647) {q9 : Nat} : Ct Γ M_J3_checkIndex_8e157 [.int (iN k), .int (iN n), .ref q9] (h) (fun r h9 => r = some (.int (iN (k))) ∧ h9 = h) (fun _ _ => False) := by
  refine Ct.of rfl (by decide +kernel) (Nat.le_of_ble_eq_true rfl) ?_
  generalize hQF9 : QM Γ _ _ _ = QF9
  refine gg_iload_n dJ3_checkIndex_8e157_0 rfl ?_
  refine gi_if_lt (tgt := 9) dJ3_checkIndex_8e157_1 (by decide) ⟨by omega, by omega⟩ (fun c_1 => ?_) (fun c_1 => ?_)
  · exact absurd c_1 (by omega)
  · refine gg_iload_n dJ3_checkIndex_8e157_4 rfl ?_
    refine gg_iload_n dJ3_checkIndex_8e157_5 rfl ?_
    refine gi_icmp_lt (tgt := 16) dJ3_checkIndex_8e157_6 (by decide) ⟨by omega, by omega⟩ ⟨by omega, by omega⟩ (fun c_6 => ?_) (fun c_6 => ?_)
    · refine gg_iload_n dJ3_checkIndex_8e157_16 rfl ?_
      subst hQF9
      refine gg_iret dJ3_checkIndex_8e157_17 rfl rfl ⟨(Nat.le_of_ble_eq_true rfl), (Nat.le_of_ble_eq_true rfl)⟩ ?_
      exact ⟨rfl, rfl⟩
    · exact absurd c_6 (by omega)
theorem c_J3_checkIndex_8e157 {Γ : GT} {h : XH} {k n : Int} (hk : 0 ≤ k ∧ k < n) (hn : n ≤ 2147483647) {v : Value} (hv : v.isRef = true) : Ct Γ M_J3_checkIndex_8e157 [.int (iN k), .int (iN n), v] h (fun r h9 => r = some (.int (iN k)) ∧ h9 = h) (fun _ _ => False) := by
  cases v with
  | null => exact c_J3_checkIndex_N hk hn
  | ref a => exact c_J3_checkIndex_R hk hn
  | _ => cases hv
set_option maxRecDepth 100000 in
set_option maxHeartbeats 4000000 in
theorem c_J0_checkIndex_df160 {Γ : GT} {h : XH} {k n : Int} (hk : 0 ≤ k ∧ k < n) (hn : n ≤ 2147483647) : Ct Γ M_J0_checkIndex_df160 [.int (iN k), .int (iN n)] (h) (fun r h9 => r = none ∧ h9 = h) (fun _ _ => False) := by
  refine Ct.of rfl (by decide +kernel) (Nat.le_of_ble_eq_true rfl) ?_
  generalize hQF9 : QM Γ _ _ _ = QF9
  refine gg_iload_n dJ0_checkIndex_df160_0 rfl ?_
  refine gg_iload_n dJ0_checkIndex_df160_1 rfl ?_
  refine gs_J0_1053 rfl dJ0_checkIndex_df160_2 (fun v9 hv9 => ?_)
  refine gc_J0_1059 rfl dJ0_checkIndex_df160_5 ⟨(Nat.le_of_ble_eq_true rfl), (Nat.le_of_ble_eq_true rfl)⟩ ⟨(Nat.le_of_ble_eq_true rfl), (Nat.le_of_ble_eq_true rfl)⟩ (Nat.le_of_ble_eq_true rfl) (c_J3_checkIndex_8e157 hk hn hv9) (fun _ _ w => w.elim) (fun r_5 h_5 hp => ?_)
  obtain ⟨rfl, rfl⟩ := hp
  refine gg_pop dJ0_checkIndex_df160_8 rfl ?_
  subst hQF9
  refine gg_vret dJ0_checkIndex_df160_9 rfl ⟨(Nat.le_of_ble_eq_true rfl), (Nat.le_of_ble_eq_true rfl)⟩ ?_
  exact ⟨rfl, rfl⟩
set_option maxRecDepth 100000 in
set_option maxHeartbeats 4000000 in
theorem c_J1_charAt_3b067 {Γ : GT} {h : XH} {i : Nat} (hi9 : i < 5) {k : Int} (hk : 0 ≤ k ∧ k < sln i) : Ct Γ M_J1_charAt_3b067 [.ref (g_sv Γ i), .int (iN k)] (h) (fun r h9 => r = some (.int (iN (sby i k))) ∧ h9 = h) (fun _ _ => False) := by
  refine Ct.of rfl (by decide +kernel) (Nat.le_of_ble_eq_true rfl) ?_
  generalize hQF9 : QM Γ _ _ _ = QF9
  have hs9 := sln_r ⟨i, hi9⟩
  dsimp only at hs9
  have hb9 : 0 ≤ sby i k ∧ sby i k ≤ 122 := by
    obtain ⟨n9, hn9⟩ := Int.eq_ofNat_of_zero_le (show 0 ≤ k by omega)
    have := sby_r ⟨i, hi9⟩ ⟨n9, by omega⟩
    rw [hn9]; exact this
  refine gg_iload_n dJ1_charAt_3b067_0 rfl ?_
  refine gg_aload_n dJ1_charAt_3b067_1 rfl rfl ?_
  refine gg_slen hi9 dJ1_charAt_3b067_2 ?_
  refine gc_J1_9 rfl dJ1_charAt_3b067_3 ⟨(Nat.le_of_ble_eq_true rfl), (Nat.le_of_ble_eq_true rfl)⟩ ⟨(Nat.le_of_ble_eq_true rfl), (Nat.le_of_ble_eq_true rfl)⟩ (Nat.le_of_ble_eq_true rfl) (c_J0_checkIndex_df160 hk (by omega)) (fun _ _ w => w.elim) (fun r_3 h_3 hp => ?_)
  obtain ⟨rfl, rfl⟩ := hp
  refine gg_aload_n dJ1_charAt_3b067_6 rfl rfl ?_
  refine gg_iload_n dJ1_charAt_3b067_7 rfl ?_
  refine gg_sbld hi9 dJ1_charAt_3b067_8 hk ?_
  refine gi_sipush dJ1_charAt_3b067_9 (by decide) ?_
  refine gi_iand (sby i k) (by rw [bt_and hb9.1 (by decide)]; congr 1; have e9 : (sby i k).toNat &&& (255 : Int).toNat = (sby i k).toNat := (Nat.and_two_pow_sub_one_eq_mod (sby i k).toNat 8).trans (Nat.mod_eq_of_lt (by omega)); rw [e9]; omega) dJ1_charAt_3b067_12 ?_
  refine gi_i2c dJ1_charAt_3b067_13 ⟨by omega, by omega⟩ ?_
  subst hQF9
  refine gg_iret dJ1_charAt_3b067_14 rfl (nar_char ⟨by omega, by omega⟩) ⟨(Nat.le_of_ble_eq_true rfl), (Nat.le_of_ble_eq_true rfl)⟩ ?_
  exact ⟨rfl, rfl⟩
set_option maxRecDepth 100000 in
set_option maxHeartbeats 4000000 in
theorem c_J0_charAt_5068e {Γ : GT} {h : XH} {i : Nat} (hi9 : i < 5) {k : Int} (hk : 0 ≤ k ∧ k < sln i) : Ct Γ M_J0_charAt_5068e [.ref (g_str Γ i), .int (iN k)] (h) (fun r h9 => r = some (.int (iN (sby i k))) ∧ h9 = h) (fun _ _ => False) := by
  refine Ct.of rfl (by decide +kernel) (Nat.le_of_ble_eq_true rfl) ?_
  generalize hQF9 : QM Γ _ _ _ = QF9
  have hs9 := sln_r ⟨i, hi9⟩
  dsimp only at hs9
  have hb9 : 0 ≤ sby i k ∧ sby i k ≤ 122 := by
    obtain ⟨n9, hn9⟩ := Int.eq_ofNat_of_zero_le (show 0 ≤ k by omega)
    have := sby_r ⟨i, hi9⟩ ⟨n9, by omega⟩
    rw [hn9]; exact this
  refine gg_aload_n dJ0_charAt_5068e_0 rfl rfl ?_
  refine gcs_J0_492 hi9 rfl dJ0_charAt_5068e_1 ⟨(Nat.le_of_ble_eq_true rfl), (Nat.le_of_ble_eq_true rfl)⟩ ⟨(Nat.le_of_ble_eq_true rfl), (Nat.le_of_ble_eq_true rfl)⟩ (Nat.le_of_ble_eq_true rfl) (c_J0_isLatin1_aae02 hi9) (fun _ _ w => w.elim) (fun r_1 h_1 hp => ?_)
  obtain ⟨rfl, rfl⟩ := hp
  refine gi_if_eq (tgt := 16) dJ0_charAt_5068e_4 (by decide) ⟨by omega, by omega⟩ (fun c_4 => ?_) (fun c_4 => ?_)
  · exact absurd c_4 (by decide)
  · refine gg_aload_n dJ0_charAt_5068e_7 rfl rfl ?_
    refine gs_J0_9 hi9 rfl dJ0_charAt_5068e_8 ?_
    refine gg_iload_n dJ0_charAt_5068e_11 rfl ?_
    refine gc_J0_495 rfl dJ0_charAt_5068e_12 ⟨(Nat.le_of_ble_eq_true rfl), (Nat.le_of_ble_eq_true rfl)⟩ ⟨(Nat.le_of_ble_eq_true rfl), (Nat.le_of_ble_eq_true rfl)⟩ (Nat.le_of_ble_eq_true rfl) (c_J1_charAt_3b067 hi9 hk) (fun _ _ w => w.elim) (fun r_12 h_12 hp => ?_)
    obtain ⟨rfl, rfl⟩ := hp
    subst hQF9
    refine gg_iret dJ0_charAt_5068e_15 rfl (nar_char ⟨by omega, by omega⟩) ⟨(Nat.le_of_ble_eq_true rfl), (Nat.le_of_ble_eq_true rfl)⟩ ?_
    exact ⟨rfl, rfl⟩
set_option maxRecDepth 100000 in
set_option maxHeartbeats 4000000 in
theorem c_J1_indexOfChar_4cfef {Γ : GT} {h : XH} {i : Nat} (hi9 : i < 5) {c : Int} (hc : 0 ≤ c ∧ c ≤ 255) : Ct Γ M_J1_indexOfChar_4cfef [.ref (g_sv Γ i), .int (iN c), .int (iN 0), .int (iN (sln i))] (h) (fun r h9 => r = some (.int (iN (ixF i c (sln i).toNat 0))) ∧ h9 = h) (fun _ _ => False) := by
  refine Ct.of rfl (by decide +kernel) (Nat.le_of_ble_eq_true rfl) ?_
  generalize hQF9 : QM Γ _ _ _ = QF9
  have hs9 := sln_r ⟨i, hi9⟩
  dsimp only at hs9
  refine gg_iload_n dJ1_indexOfChar_4cfef_0 rfl ?_
  refine gi_i2b dJ1_indexOfChar_4cfef_1 hc ?_
  refine gg_istore dJ1_indexOfChar_4cfef_2 (Nat.le_of_ble_eq_true rfl) rfl ?_
  refine gg_iload_n dJ1_indexOfChar_4cfef_4 rfl ?_
  refine gg_istore dJ1_indexOfChar_4cfef_5 (Nat.le_of_ble_eq_true rfl) rfl ?_
  have L_7 : ∀ (n9 : Nat) (k : Int), ((sln i - k).toNat) = n9 → ∀ (hk : 0 ≤ k ∧ k ≤ sln i) (E : ixF i c (sln i).toNat 0 = ixF i c (sln i - k).toNat k), GG Γ M_J1_indexOfChar_4cfef QF9 (0, 0) (h) 7 [some (.ref (g_sv Γ i)), some (.int (iN c)), some (.int (iN 0)), some (.int (iN (sln i))), some (.int (iN (if c < 128 then c else c - 256))), some (.int (iN k))] [] := by
    intro n9
    induction n9 using Nat.strongRecOn with
    | ind n9 ih_7 => 
      intro k hm9 hk E
      refine gg_iload dJ1_indexOfChar_4cfef_7 rfl ?_
      refine gg_iload_n dJ1_indexOfChar_4cfef_9 rfl ?_
      refine gi_icmp_ge (tgt := 31) dJ1_indexOfChar_4cfef_10 (by decide) ⟨by omega, by omega⟩ ⟨by omega, by omega⟩ (fun c_10 => ?_) (fun c_10 => ?_)
      · refine gi_iconst dJ1_indexOfChar_4cfef_31 ?_
        subst hQF9
        refine gg_iret dJ1_indexOfChar_4cfef_32 rfl rfl ⟨(Nat.le_of_ble_eq_true rfl), (Nat.le_of_ble_eq_true rfl)⟩ ?_
        rw [E, show k = sln i by omega, show (sln i - sln i).toNat = 0 by omega]
        exact ⟨rfl, rfl⟩
      · refine gg_aload_n dJ1_indexOfChar_4cfef_13 rfl rfl ?_
        refine gg_iload dJ1_indexOfChar_4cfef_14 rfl ?_
        refine gg_sbld hi9 dJ1_indexOfChar_4cfef_16 (by omega) ?_
        have hb9 : 0 ≤ sby i k ∧ sby i k ≤ 122 := by
          obtain ⟨n9, hn9⟩ := Int.eq_ofNat_of_zero_le (show 0 ≤ k by omega)
          have := sby_r ⟨i, hi9⟩ ⟨n9, by omega⟩
          rw [hn9]; exact this
        refine gg_iload dJ1_indexOfChar_4cfef_17 rfl ?_
        refine gi_icmp_ne (tgt := 25) dJ1_indexOfChar_4cfef_19 (by decide) ⟨by omega, by omega⟩ (by split <;> constructor <;> omega) (fun c_19 => ?_) (fun c_19 => ?_)
        · refine gi_iinc dJ1_indexOfChar_4cfef_25 rfl (Nat.le_of_ble_eq_true rfl) rfl ?_
          refine gg_goto (tgt := 7) dJ1_indexOfChar_4cfef_28 (by decide) ?_
          refine ih_7 _ (by omega) (k + 1) rfl (by omega) ?_
          rw [E, show (sln i - k).toNat = (sln i - (k + 1)).toNat + 1 by omega, ixF, if_neg ?_]
          intro q
          apply c_19
          rw [q, if_pos (by omega)]
        · refine gg_iload dJ1_indexOfChar_4cfef_22 rfl ?_
          subst hQF9
          refine gg_iret dJ1_indexOfChar_4cfef_24 rfl rfl ⟨(Nat.le_of_ble_eq_true rfl), (Nat.le_of_ble_eq_true rfl)⟩ ?_
          refine ⟨?_, rfl⟩
          rw [E, show (sln i - k).toNat = (sln i - (k + 1)).toNat + 1 by omega, ixF, if_pos ?_]
          by_cases q : c < 128
          · rw [if_pos q] at c_19; exact c_19
          · rw [if_neg q] at c_19; omega
  exact L_7 _ 0 rfl (by omega) (by rw [show sln i - 0 = sln i by omega])
set_option maxRecDepth 100000 in
set_option maxHeartbeats 4000000 in
theorem c_J1_indexOf_4cfef {Γ : GT} {h : XH} {i : Nat} (hi9 : i < 5) {c : Int} (hc : 0 ≤ c ∧ c < 65536) : Ct Γ M_J1_indexOf_4cfef [.ref (g_sv Γ i), .int (iN c), .int (iN 0), .int (iN (sln i))] (h) (fun r h9 => r = some (.int (iN ((if c ≤ 255 then ixF i c (sln i).toNat 0 else -1)))) ∧ h9 = h) (fun _ _ => False) := by
  refine Ct.of rfl (by decide +kernel) (Nat.le_of_ble_eq_true rfl) ?_
  generalize hQF9 : QM Γ _ _ _ = QF9
  have hs9 := sln_r ⟨i, hi9⟩
  dsimp only at hs9
  refine gg_iload_n dJ1_indexOf_4cfef_0 rfl ?_
  refine gc_J1_88 rfl dJ1_indexOf_4cfef_1 ⟨(Nat.le_of_ble_eq_true rfl), (Nat.le_of_ble_eq_true rfl)⟩ ⟨(Nat.le_of_ble_eq_true rfl), (Nat.le_of_ble_eq_true rfl)⟩ (Nat.le_of_ble_eq_true rfl) (c_J1_canEncode_9a6ad hc) (fun _ _ w => w.elim) (fun r_1 h_1 hp => ?_)
  obtain ⟨rfl, rfl⟩ := hp
  refine gi_if_ne (tgt := 9) dJ1_indexOf_4cfef_4 (by decide) (bi_r _) (fun c_4 => ?_) (fun c_4 => ?_)
  · rw [bi_t] at c_4
    rw [decide_eq_true_iff] at c_4
    refine gg_iload_n dJ1_indexOf_4cfef_9 rfl ?_
    refine gi_iconst dJ1_indexOf_4cfef_10 ?_
    refine gc_J1_92 rfl dJ1_indexOf_4cfef_11 ⟨(Nat.le_of_ble_eq_true rfl), (Nat.le_of_ble_eq_true rfl)⟩ ⟨(Nat.le_of_ble_eq_true rfl), (Nat.le_of_ble_eq_true rfl)⟩ ?_
    rw [iN_max ⟨by omega, by omega⟩ ⟨by omega, by omega⟩]
    rw [show max (0 : Int) 0 = 0 from rfl]
    refine gg_istore_n dJ1_indexOf_4cfef_14 (Nat.le_of_ble_eq_true rfl) rfl ?_
    refine gg_iload_n dJ1_indexOf_4cfef_15 rfl ?_
    refine gg_aload_n dJ1_indexOf_4cfef_16 rfl rfl ?_
    refine gg_slen hi9 dJ1_indexOf_4cfef_17 ?_
    refine gc_J1_38 rfl dJ1_indexOf_4cfef_18 ⟨(Nat.le_of_ble_eq_true rfl), (Nat.le_of_ble_eq_true rfl)⟩ ⟨(Nat.le_of_ble_eq_true rfl), (Nat.le_of_ble_eq_true rfl)⟩ ?_
    rw [iN_min ⟨by omega, by omega⟩ ⟨by omega, by omega⟩]
    rw [show min (sln i) (sln i) = sln i by omega]
    refine gg_istore_n dJ1_indexOf_4cfef_21 (Nat.le_of_ble_eq_true rfl) rfl ?_
    refine gg_iload_n dJ1_indexOf_4cfef_22 rfl ?_
    refine gg_iload_n dJ1_indexOf_4cfef_23 rfl ?_
    refine gi_icmp_lt (tgt := 29) dJ1_indexOf_4cfef_24 (by decide) ⟨by omega, by omega⟩ ⟨by omega, by omega⟩ (fun c_24 => ?_) (fun c_24 => ?_)
    · refine gg_aload_n dJ1_indexOf_4cfef_29 rfl rfl ?_
      refine gg_iload_n dJ1_indexOf_4cfef_30 rfl ?_
      refine gg_iload_n dJ1_indexOf_4cfef_31 rfl ?_
      refine gg_iload_n dJ1_indexOf_4cfef_32 rfl ?_
      refine gc_J1_95 rfl dJ1_indexOf_4cfef_33 ⟨(Nat.le_of_ble_eq_true rfl), (Nat.le_of_ble_eq_true rfl)⟩ ⟨(Nat.le_of_ble_eq_true rfl), (Nat.le_of_ble_eq_true rfl)⟩ (Nat.le_of_ble_eq_true rfl) (c_J1_indexOfChar_4cfef hi9 ⟨hc.1, by omega⟩) (fun _ _ w => w.elim) (fun r_33 h_33 hp => ?_)
      obtain ⟨rfl, rfl⟩ := hp
      subst hQF9
      refine gg_iret dJ1_indexOf_4cfef_36 rfl rfl ⟨(Nat.le_of_ble_eq_true rfl), (Nat.le_of_ble_eq_true rfl)⟩ ?_
      exact ⟨by rw [if_pos (by omega)], rfl⟩
    · exact absurd c_24 (by omega)
  · rw [bi_f] at c_4
    rw [decide_eq_false_iff_not] at c_4
    refine gi_iconst dJ1_indexOf_4cfef_7 ?_
    subst hQF9
    refine gg_iret dJ1_indexOf_4cfef_8 rfl rfl ⟨(Nat.le_of_ble_eq_true rfl), (Nat.le_of_ble_eq_true rfl)⟩ ?_
    exact ⟨by rw [if_neg (by omega)], rfl⟩
set_option maxRecDepth 100000 in
set_option maxHeartbeats 4000000 in
theorem c_J0_indexOf_7cf53 {Γ : GT} {h : XH} {i : Nat} (hi9 : i < 5) {c : Int} (hc : 0 ≤ c ∧ c < 65536) : Ct Γ M_J0_indexOf_7cf53 [.ref (g_str Γ i), .int (iN c), .int (iN 0)] (h) (fun r h9 => r = some (.int (iN ((if c ≤ 255 then ixF i c (sln i).toNat 0 else -1)))) ∧ h9 = h) (fun _ _ => False) := by
  refine Ct.of rfl (by decide +kernel) (Nat.le_of_ble_eq_true rfl) ?_
  generalize hQF9 : QM Γ _ _ _ = QF9
  have hs9 := sln_r ⟨i, hi9⟩
  dsimp only at hs9
  refine gg_aload_n dJ0_indexOf_7cf53_0 rfl rfl ?_
  refine gcs_J0_492 hi9 rfl dJ0_indexOf_7cf53_1 ⟨(Nat.le_of_ble_eq_true rfl), (Nat.le_of_ble_eq_true rfl)⟩ ⟨(Nat.le_of_ble_eq_true rfl), (Nat.le_of_ble_eq_true rfl)⟩ (Nat.le_of_ble_eq_true rfl) (c_J0_isLatin1_aae02 hi9) (fun _ _ w => w.elim) (fun r_1 h_1 hp => ?_)
  obtain ⟨rfl, rfl⟩ := hp
  refine gi_if_eq (tgt := 23) dJ0_indexOf_7cf53_4 (by decide) ⟨by omega, by omega⟩ (fun c_4 => ?_) (fun c_4 => ?_)
  · exact absurd c_4 (by decide)
  · refine gg_aload_n dJ0_indexOf_7cf53_7 rfl rfl ?_
    refine gs_J0_9 hi9 rfl dJ0_indexOf_7cf53_8 ?_
    refine gg_iload_n dJ0_indexOf_7cf53_11 rfl ?_
    refine gg_iload_n dJ0_indexOf_7cf53_12 rfl ?_
    refine gg_aload_n dJ0_indexOf_7cf53_13 rfl rfl ?_
    refine gcs_J0_505 hi9 rfl dJ0_indexOf_7cf53_14 ⟨(Nat.le_of_ble_eq_true rfl), (Nat.le_of_ble_eq_true rfl)⟩ ⟨(Nat.le_of_ble_eq_true rfl), (Nat.le_of_ble_eq_true rfl)⟩ (Nat.le_of_ble_eq_true rfl) (c_J0_length_8abf5 hi9) (fun _ _ w => w.elim) (fun r_14 h_14 hp => ?_)
    obtain ⟨rfl, rfl⟩ := hp
    refine gc_J0_637 rfl dJ0_indexOf_7cf53_17 ⟨(Nat.le_of_ble_eq_true rfl), (Nat.le_of_ble_eq_true rfl)⟩ ⟨(Nat.le_of_ble_eq_true rfl), (Nat.le_of_ble_eq_true rfl)⟩ (Nat.le_of_ble_eq_true rfl) (c_J1_indexOf_4cfef hi9 hc) (fun _ _ w => w.elim) (fun r_17 h_17 hp => ?_)
    obtain ⟨rfl, rfl⟩ := hp
    refine gg_goto (tgt := 36) dJ0_indexOf_7cf53_20 (by decide) ?_
    subst hQF9
    refine gg_iret dJ0_indexOf_7cf53_36 rfl rfl ⟨(Nat.le_of_ble_eq_true rfl), (Nat.le_of_ble_eq_true rfl)⟩ ?_
    exact ⟨rfl, rfl⟩
set_option maxRecDepth 100000 in
set_option maxHeartbeats 4000000 in
theorem c_J0_indexOf_0f7a4 {Γ : GT} {h : XH} {i : Nat} (hi9 : i < 5) {c : Int} (hc : 0 ≤ c ∧ c < 65536) : Ct Γ M_J0_indexOf_0f7a4 [.ref (g_str Γ i), .int (iN c)] (h) (fun r h9 => r = some (.int (iN ((if c ≤ 255 then ixF i c (sln i).toNat 0 else -1)))) ∧ h9 = h) (fun _ _ => False) := by
  refine Ct.of rfl (by decide +kernel) (Nat.le_of_ble_eq_true rfl) ?_
  generalize hQF9 : QM Γ _ _ _ = QF9
  refine gg_aload_n dJ0_indexOf_0f7a4_0 rfl rfl ?_
  refine gg_iload_n dJ0_indexOf_0f7a4_1 rfl ?_
  refine gi_iconst dJ0_indexOf_0f7a4_2 ?_
  refine gcs_J0_633 hi9 rfl dJ0_indexOf_0f7a4_3 ⟨(Nat.le_of_ble_eq_true rfl), (Nat.le_of_ble_eq_true rfl)⟩ ⟨(Nat.le_of_ble_eq_true rfl), (Nat.le_of_ble_eq_true rfl)⟩ (Nat.le_of_ble_eq_true rfl) (c_J0_indexOf_7cf53 hi9 hc) (fun _ _ w => w.elim) (fun r_3 h_3 hp => ?_)
  obtain ⟨rfl, rfl⟩ := hp
  subst hQF9
  refine gg_iret dJ0_indexOf_0f7a4_6 rfl rfl ⟨(Nat.le_of_ble_eq_true rfl), (Nat.le_of_ble_eq_true rfl)⟩ ?_
  exact ⟨rfl, rfl⟩
/-- which vowel a letter is, -1 for none -/
def vIx (c : Int) : Int := if c = 97 then 0 else if c = 101 then 1 else if c = 105 then 2 else if c = 111 then 3 else if c = 117 then 4 else if c = 121 then 5 else -1
theorem vIx_eq (c : Int) : (if c ≤ 255 then ixF 0 c (sln 0).toNat 0 else -1) = vIx c := by
  have e6 : (sln 0).toNat = 6 := rfl
  rw [e6]
  simp only [ixF, show sby 0 0 = 97 from rfl, show sby 0 (0 + 1) = 101 from rfl, show sby 0 (0 + 1 + 1) = 105 from rfl, show sby 0 (0 + 1 + 1 + 1) = 111 from rfl, show sby 0 (0 + 1 + 1 + 1 + 1) = 117 from rfl, show sby 0 (0 + 1 + 1 + 1 + 1 + 1) = 121 from rfl]
  unfold vIx
  by_cases q1 : c = 97 <;> by_cases q2 : c = 101 <;> by_cases q3 : c = 105 <;> by_cases q4 : c = 111 <;> by_cases q5 : c = 117 <;> by_cases q6 : c = 121 <;> (try subst q1) <;> (try subst q2) <;> (try subst q3) <;> (try subst q4) <;> (try subst q5) <;> (try subst q6) <;> first
    | omega
    | rfl
    | (simp only [eq_comm (b := c), q1, q2, q3, q4, q5, q6, if_false]; split <;> rfl)
theorem vIx_r (c : Int) : -1 ≤ vIx c ∧ vIx c ≤ 5 := by unfold vIx; repeat' split <;> first | omega | skip
theorem vIx_v (c : Int) : 0 ≤ vIx c ↔ vow c = true := by
  unfold vIx vow
  by_cases q1 : c = 97 <;> by_cases q2 : c = 101 <;> by_cases q3 : c = 105 <;> by_cases q4 : c = 111 <;> by_cases q5 : c = 117 <;> by_cases q6 : c = 121 <;> simp [q1, q2, q3, q4, q5, q6]
set_option maxRecDepth 100000 in
set_option maxHeartbeats 4000000 in
theorem c_X9_isVowel {Γ : GT} {h : XH} {c : Int} (hc : 0 ≤ c ∧ c < 65536) : Ct Γ M_X9_isVowel [.int (iN c)] (h) (fun r h9 => r = some (.int (iN (bi (vow c)))) ∧ h9 = h) (fun _ _ => False) := by
  refine Ct.of rfl (by decide +kernel) (Nat.le_of_ble_eq_true rfl) ?_
  generalize hQF9 : QM Γ _ _ _ = QF9
  have hv9 := vIx_r c
  have hv8 := vIx_v c
  refine gg_ldcSW (k := 0) (by decide) rfl dX9_isVowel_0 ?_
  refine gg_iload_n dX9_isVowel_3 rfl ?_
  refine gcs_X9_451 (i := s_ix 0) (by decide) rfl dX9_isVowel_4 ⟨(Nat.le_of_ble_eq_true rfl), (Nat.le_of_ble_eq_true rfl)⟩ ⟨(Nat.le_of_ble_eq_true rfl), (Nat.le_of_ble_eq_true rfl)⟩ (Nat.le_of_ble_eq_true rfl) (c_J0_indexOf_0f7a4 (by decide) hc) (fun _ _ w => w.elim) (fun r_4 h_4 hp => ?_)
  obtain ⟨rfl, rfl⟩ := hp
  rw [show s_ix 0 = 0 from rfl, vIx_eq]
  refine gi_if_lt (tgt := 14) dX9_isVowel_7 (by decide) ⟨by omega, by omega⟩ (fun c_7 => ?_) (fun c_7 => ?_)
  · refine gi_iconst dX9_isVowel_14 ?_
    subst hQF9
    refine gg_iret dX9_isVowel_15 rfl (nar_bool (by omega)) ⟨(Nat.le_of_ble_eq_true rfl), (Nat.le_of_ble_eq_true rfl)⟩ ?_
    have q9 : vow c = false := by
      cases q : vow c with | false => rfl | true => exact absurd (hv8.mpr q) (by omega)
    rw [q9]
    exact ⟨rfl, rfl⟩
  · refine gi_iconst dX9_isVowel_10 ?_
    refine gg_goto (tgt := 15) dX9_isVowel_11 (by decide) ?_
    subst hQF9
    refine gg_iret dX9_isVowel_15 rfl (nar_bool (by omega)) ⟨(Nat.le_of_ble_eq_true rfl), (Nat.le_of_ble_eq_true rfl)⟩ ?_
    have q9 : vow c = true := by
      exact hv8.mp c_7
    rw [q9]
    exact ⟨rfl, rfl⟩
def fillF (f : Int → Int) (v n : Int) : Int → Int := fun k => if 0 ≤ k ∧ k < n then v else f k
theorem fillF_0 {f : Int → Int} {v : Int} : fillF f v 0 = f := by funext k; unfold fillF; rw [if_neg (by omega)]
theorem fillF_s {f : Int → Int} {v n : Int} (hn : 0 ≤ n) : up (fillF f v n) n v = fillF f v (n + 1) := by
  funext k
  unfold up fillF
  by_cases q : k = n
  · rw [if_pos q, if_pos (by omega)]
  · rw [if_neg q]
    by_cases q2 : 0 ≤ k ∧ k < n
    · rw [if_pos q2, if_pos (by omega)]
    · rw [if_neg q2, if_neg (by omega)]
theorem fillF_in {f : Int → Int} {v n k : Int} (h : 0 ≤ k ∧ k < n) : fillF f v n k = v := if_pos h
set_option maxRecDepth 100000 in
set_option maxHeartbeats 4000000 in
theorem c_J7_fill_53178 {Γ : GT} {h : XH} {G : Nat → Int} {B : Nat → Int → Int} {j : Nat} (hj : 0 < gl9 j) (hj2 : gl9 j ≤ 72) {v : Int} : Ct Γ M_J7_fill_53178 [.ref (g_L Γ j), .int (iN v)] (gst Γ h G B) (fun r h9 => r = none ∧ h9 = gst Γ h G (uA B j (fillF (B j) v (gl9 j)))) (fun _ _ => False) := by
  refine Ct.of rfl (by decide +kernel) (Nat.le_of_ble_eq_true rfl) ?_
  generalize hQF9 : QM Γ _ _ _ = QF9
  refine gi_iconst dJ7_fill_53178_0 ?_
  refine gg_istore_n dJ7_fill_53178_1 (Nat.le_of_ble_eq_true rfl) rfl ?_
  refine gg_aload_n dJ7_fill_53178_2 rfl rfl ?_
  refine gi_alen dJ7_fill_53178_3 (HAt.mu (gst_i hj)) (by decide) ?_
  refine gg_istore_n dJ7_fill_53178_4 (Nat.le_of_ble_eq_true rfl) rfl ?_
  have L_5 : ∀ (n9 : Nat) (k : Int), (((gl9 j : Int) - k).toNat) = n9 → ∀ (hk : 0 ≤ k ∧ k ≤ gl9 j), GG Γ M_J7_fill_53178 QF9 (0, 0) (gst Γ h G (uA B j (fillF (B j) v k))) 5 [some (.ref (g_L Γ j)), some (.int (iN v)), some (.int (iN k)), some (.int (iN (gl9 j : Int)))] [] := by
    intro n9
    induction n9 using Nat.strongRecOn with
    | ind n9 ih_5 => 
      intro k hm9 hk
      refine gg_iload_n dJ7_fill_53178_5 rfl ?_
      refine gg_iload_n dJ7_fill_53178_6 rfl ?_
      refine gi_icmp_ge (tgt := 20) dJ7_fill_53178_7 (by decide) ⟨by omega, by omega⟩ ⟨by omega, by omega⟩ (fun c_7 => ?_) (fun c_7 => ?_)
      · subst hQF9
        refine gg_vret dJ7_fill_53178_20 rfl ⟨(Nat.le_of_ble_eq_true rfl), (Nat.le_of_ble_eq_true rfl)⟩ ?_
        rw [show k = (gl9 j : Int) by omega]
        exact ⟨rfl, rfl⟩
      · refine gg_aload_n dJ7_fill_53178_10 rfl rfl ?_
        refine gg_iload_n dJ7_fill_53178_11 rfl ?_
        refine gg_iload_n dJ7_fill_53178_12 rfl ?_
        refine gk_iast dJ7_fill_53178_13 hj hj2 ⟨by omega, by omega⟩ (by rw [uA_s, uA_ss]) ?_
        refine gi_iinc dJ7_fill_53178_14 rfl (Nat.le_of_ble_eq_true rfl) rfl ?_
        refine gg_goto (tgt := 5) dJ7_fill_53178_17 (by decide) ?_
        refine gg_conv (ih_5 _ (by omega) (k + 1) rfl (by omega)) (by rw [fillF_s hk.1]) rfl rfl
  exact gg_conv (L_5 _ 0 rfl (by omega)) (by rw [fillF_0, uA_id]) rfl rfl
