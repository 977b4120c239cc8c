/-! names of metres -/
set_option maxRecDepth 100000 in
set_option maxHeartbeats 4000000 in
theorem c_X1_nameOf {Γ : GT} {h : XH} {kd : Int} (hk : 0 ≤ kd ∧ kd ≤ 3) : Ct Γ M_X1_nameOf [.int (iN kd)] (h) (fun r h9 => r = some (.ref (g_str Γ (kd.toNat + 1))) ∧ h9 = h) (fun _ _ => False) := by
  refine Ct.of rfl (by decide +kernel) (Nat.le_of_ble_eq_true rfl) ?_
  generalize hQF9 : QM Γ _ _ _ = QF9
  refine gg_iload_n dX1_nameOf_0 rfl ?_
  by_cases w_1_0 : kd = 0
  · refine gi_tab (tgt := 28) dX1_nameOf_1 ⟨by omega, by omega⟩ (by omega) (by omega) (by rw [w_1_0]; rfl) (by decide) ?_
    refine gg_ldcS (k := 1) (by decide) rfl dX1_nameOf_28 ?_
    subst hQF9
    refine gg_aret dX1_nameOf_30 rfl rfl rfl ⟨(Nat.le_of_ble_eq_true rfl), (Nat.le_of_ble_eq_true rfl)⟩ ?_
    exact ⟨by rw [w_1_0]; rfl, rfl⟩
  by_cases w_1_1 : kd = 1
  · refine gi_tab (tgt := 31) dX1_nameOf_1 ⟨by omega, by omega⟩ (by omega) (by omega) (by rw [w_1_1]; rfl) (by decide) ?_
    refine gg_ldcS (k := 2) (by decide) rfl dX1_nameOf_31 ?_
    subst hQF9
    refine gg_aret dX1_nameOf_33 rfl rfl rfl ⟨(Nat.le_of_ble_eq_true rfl), (Nat.le_of_ble_eq_true rfl)⟩ ?_
    exact ⟨by rw [w_1_1]; rfl, rfl⟩
  by_cases w_1_2 : kd = 2
  · refine gi_tab (tgt := 34) dX1_nameOf_1 ⟨by omega, by omega⟩ (by omega) (by omega) (by rw [w_1_2]; rfl) (by decide) ?_
    refine gg_ldcS (k := 3) (by decide) rfl dX1_nameOf_34 ?_
    subst hQF9
    refine gg_aret dX1_nameOf_36 rfl rfl rfl ⟨(Nat.le_of_ble_eq_true rfl), (Nat.le_of_ble_eq_true rfl)⟩ ?_
    exact ⟨by rw [w_1_2]; rfl, rfl⟩
  refine gi_tabD (tgt := 37) dX1_nameOf_1 ⟨by omega, by omega⟩ (by omega) (by decide) ?_
  refine gg_ldcS (k := 4) (by decide) rfl dX1_nameOf_37 ?_
  subst hQF9
  refine gg_aret dX1_nameOf_39 rfl rfl rfl ⟨(Nat.le_of_ble_eq_true rfl), (Nat.le_of_ble_eq_true rfl)⟩ ?_
  exact ⟨by rw [show kd = 3 by omega]; rfl, rfl⟩
/-- the kind of metre by its first letter -/
def kF (c : Int) : Int := if c = 105 then 0 else if c = 116 then 1 else if c = 97 then 2 else if c = 100 then 3 else -1
def mtS (i : Nat) (f : Int → Int) (n : Int) : Nat → Int → Int → Int
  | 0, _, _ => 0
  | m + 1, k, p => if p < n ∧ f p = sby i k then 1 + mtS i f n m (k + 1) (p + 1) else 0
theorem mtS_r {i : Nat} {f : Int → Int} {n : Int} : ∀ (m : Nat) (k p : Int), 0 ≤ mtS i f n m k p ∧ mtS i f n m k p ≤ m ∧ (p ≤ n → p + mtS i f n m k p ≤ n)
  | 0, k, p => by simp [mtS]
  | m + 1, k, p => by
    have := mtS_r (i := i) (f := f) (n := n) m (k + 1) (p + 1)
    rw [mtS]; split <;> omega
theorem kF_r (c : Int) : -1 ≤ kF c ∧ kF c ≤ 3 := by unfold kF; repeat' split <;> first | omega | skip
theorem s0_0 : sby 1 0 = 105 ∧ sby 2 0 = 116 ∧ sby 3 0 = 97 ∧ sby 4 0 = 100 := ⟨rfl, rfl, rfl, rfl⟩
set_option maxRecDepth 100000 in
set_option maxHeartbeats 4000000 in
theorem c_X1_kindFrom {Γ : GT} {h : XH} {c : Int} (hc : 0 ≤ c ∧ c < 65536) : Ct Γ M_X1_kindFrom [.int (iN c)] (h) (fun r h9 => r = some (.int (iN (kF c))) ∧ h9 = h) (fun _ _ => False) := by
  refine Ct.of rfl (by decide +kernel) (Nat.le_of_ble_eq_true rfl) ?_
  generalize hQF9 : QM Γ _ _ _ = QF9
  refine gi_iconst dX1_kindFrom_0 ?_
  refine gg_istore_n dX1_kindFrom_1 (Nat.le_of_ble_eq_true rfl) rfl ?_
  have L_2 : ∀ (n9 : Nat) (k : Int), ((4 - k).toNat) = n9 → ∀ (hk : 0 ≤ k ∧ k ≤ 4) (E : ∀ j : Nat, (j : Int) < k → sby (j + 1) 0 ≠ c), GG Γ M_X1_kindFrom QF9 (0, 0) (h) 2 [some (.int (iN c)), some (.int (iN k))] [] := by
    intro n9
    induction n9 using Nat.strongRecOn with
    | ind n9 ih_2 => 
      intro k hm9 hk E
      refine gg_iload_n dX1_kindFrom_2 rfl ?_
      refine gi_iconst dX1_kindFrom_3 ?_
      refine gi_icmp_ge (tgt := 27) dX1_kindFrom_4 (by decide) ⟨by omega, by omega⟩ ⟨by omega, by omega⟩ (fun c_4 => ?_) (fun c_4 => ?_)
      · refine gi_iconst dX1_kindFrom_27 ?_
        subst hQF9
        refine gg_iret dX1_kindFrom_28 rfl rfl ⟨(Nat.le_of_ble_eq_true rfl), (Nat.le_of_ble_eq_true rfl)⟩ ?_
        have e0 := E 0 (by omega)
        have e1 := E 1 (by omega)
        have e2 := E 2 (by omega)
        have e3 := E 3 (by omega)
        rw [show sby (0 + 1) 0 = 105 from rfl] at e0
        rw [show sby (1 + 1) 0 = 116 from rfl] at e1
        rw [show sby (2 + 1) 0 = 97 from rfl] at e2
        rw [show sby (3 + 1) 0 = 100 from rfl] at e3
        refine ⟨?_, rfl⟩
        unfold kF
        rw [if_neg (fun z => e0 z.symm), if_neg (fun z => e1 z.symm), if_neg (fun z => e2 z.symm), if_neg (fun z => e3 z.symm)]
      · refine gg_iload_n dX1_kindFrom_7 rfl ?_
        refine gc_X1_86 rfl dX1_kindFrom_8 ⟨(Nat.le_of_ble_eq_true rfl), (Nat.le_of_ble_eq_true rfl)⟩ ⟨(Nat.le_of_ble_eq_true rfl), (Nat.le_of_ble_eq_true rfl)⟩ (Nat.le_of_ble_eq_true rfl) (c_X1_nameOf (kd := k) ⟨by omega, by omega⟩) (fun _ _ w => w.elim) (fun r_8 h_8 hp => ?_)
        obtain ⟨rfl, rfl⟩ := hp
        have hb : 0 ≤ sby (k.toNat + 1) 0 ∧ sby (k.toNat + 1) 0 ≤ 122 := sby_r ⟨k.toNat + 1, by omega⟩ ⟨0, by omega⟩
        refine gi_iconst dX1_kindFrom_11 ?_
        refine gcs_X1_108 (i := k.toNat + 1) (by omega) rfl dX1_kindFrom_12 ⟨(Nat.le_of_ble_eq_true rfl), (Nat.le_of_ble_eq_true rfl)⟩ ⟨(Nat.le_of_ble_eq_true rfl), (Nat.le_of_ble_eq_true rfl)⟩ (Nat.le_of_ble_eq_true rfl) (c_J0_charAt_5068e (i := k.toNat + 1) (k := 0) (by omega) ⟨by omega, by have := sln_r ⟨k.toNat + 1, by omega⟩; dsimp only at this; omega⟩) (fun _ _ w => w.elim) (fun r_12 h_12 hp => ?_)
        obtain ⟨rfl, rfl⟩ := hp
        refine gg_iload_n dX1_kindFrom_15 rfl ?_
        refine gi_icmp_ne (tgt := 21) dX1_kindFrom_16 (by decide) ⟨by omega, by omega⟩ ⟨by omega, by omega⟩ (fun c_16 => ?_) (fun c_16 => ?_)
        · refine gi_iinc dX1_kindFrom_21 rfl (Nat.le_of_ble_eq_true rfl) rfl ?_
          refine gg_goto (tgt := 2) dX1_kindFrom_24 (by decide) ?_
          refine ih_2 _ (by omega) (k + 1) rfl (by omega) (fun j hj => ?_)
          rcases Int.lt_or_le (j : Int) k with z | z
          · exact E j z
          · rw [show j = k.toNat by omega]; exact c_16
        · refine gg_iload_n dX1_kindFrom_19 rfl ?_
          subst hQF9
          refine gg_iret dX1_kindFrom_20 rfl rfl ⟨(Nat.le_of_ble_eq_true rfl), (Nat.le_of_ble_eq_true rfl)⟩ ?_
          refine ⟨?_, rfl⟩
          congr 3
          rw [← c_16]
          have hk4 : k = 0 ∨ k = 1 ∨ k = 2 ∨ k = 3 := by omega
          rcases hk4 with z | z | z | z <;> rw [z] <;> rfl
  exact L_2 _ 0 rfl (by omega) (fun j hj => by omega)
set_option maxRecDepth 100000 in
set_option maxHeartbeats 4000000 in
theorem c_X1_passAll {Γ : GT} {h : XH} {G : Nat → Int} {B : Nat → Int → Int} (p4 : 0 ≤ G 4 ∧ G 4 ≤ 60) (p3 : 0 ≤ G 3 ∧ G 3 ≤ 100) (p5 : ∀ k, 0 ≤ k → k < G 4 → 0 ≤ B 41 k ∧ B 41 k < 65536) (p6 : G 3 ≤ G 4) {i : Nat} (hi9 : i < 5) : Ct Γ M_X1_passAll [.ref (g_L Γ 40), .ref (g_str Γ i)] (gst Γ h G B) (fun r h9 => r = some (.int (iN (bi (decide (mtS i (B 41) (G 4) (sln i).toNat 0 (G 3) = sln i))))) ∧ h9 = gst Γ h (uF G 3 (G 3 + mtS i (B 41) (G 4) (sln i).toNat 0 (G 3))) B) (fun _ _ => False) := by
  refine Ct.of rfl (by decide +kernel) (Nat.le_of_ble_eq_true rfl) ?_
  generalize hQF9 : QM Γ _ _ _ = QF9
  have hs9 := sln_r ⟨i, hi9⟩
  dsimp only at hs9
  refine gi_iconst dX1_passAll_0 ?_
  refine gg_istore_n dX1_passAll_1 (Nat.le_of_ble_eq_true rfl) rfl ?_
  have L_2 : ∀ (n9 : Nat) (k : Int), ((sln i - k).toNat) = n9 → ∀ (hk : 0 ≤ k ∧ k ≤ sln i) (hk2 : G 3 + k ≤ G 4) (E : mtS i (B 41) (G 4) (sln i).toNat 0 (G 3) = k + mtS i (B 41) (G 4) (sln i - k).toNat k (G 3 + k)), GG Γ M_X1_passAll QF9 (0, 0) (gst Γ h (uF G 3 (G 3 + k)) B) 2 [some (.ref (g_L Γ 40)), some (.ref (g_str Γ i)), some (.int (iN k))] [] := by
    intro n9
    induction n9 using Nat.strongRecOn with
    | ind n9 ih_2 => 
      intro k hm9 hk hk2 E
      refine gg_iload_n dX1_passAll_2 rfl ?_
      refine gg_aload_n dX1_passAll_3 rfl rfl ?_
      refine gcs_X1_126 hi9 rfl dX1_passAll_4 ⟨(Nat.le_of_ble_eq_true rfl), (Nat.le_of_ble_eq_true rfl)⟩ ⟨(Nat.le_of_ble_eq_true rfl), (Nat.le_of_ble_eq_true rfl)⟩ (Nat.le_of_ble_eq_true rfl) (c_J0_length_8abf5 hi9) (fun _ _ w => w.elim) (fun r_4 h_4 hp => ?_)
      obtain ⟨rfl, rfl⟩ := hp
      refine gi_icmp_ge (tgt := 30) dX1_passAll_7 (by decide) ⟨by omega, by omega⟩ ⟨by omega, by omega⟩ (fun c_7 => ?_) (fun c_7 => ?_)
      · refine gi_iconst dX1_passAll_30 ?_
        subst hQF9
        refine gg_iret dX1_passAll_31 rfl (nar_bool (by omega)) ⟨(Nat.le_of_ble_eq_true rfl), (Nat.le_of_ble_eq_true rfl)⟩ ?_
        have e9 : mtS i (B 41) (G 4) (sln i).toNat 0 (G 3) = k := by
          rw [E, show (sln i - k).toNat = 0 by omega, mtS]; omega
        rw [e9, decide_eq_true (by omega)]
        exact ⟨rfl, rfl⟩
      · refine gg_aload_n dX1_passAll_10 rfl rfl ?_
        refine gg_aload_n dX1_passAll_11 rfl rfl ?_
        refine gg_iload_n dX1_passAll_12 rfl ?_
        refine gcs_X1_108 hi9 rfl dX1_passAll_13 ⟨(Nat.le_of_ble_eq_true rfl), (Nat.le_of_ble_eq_true rfl)⟩ ⟨(Nat.le_of_ble_eq_true rfl), (Nat.le_of_ble_eq_true rfl)⟩ (Nat.le_of_ble_eq_true rfl) (c_J0_charAt_5068e (k := k) hi9 ⟨by omega, by omega⟩) (fun _ _ w => w.elim) (fun r_13 h_13 hp => ?_)
        obtain ⟨rfl, rfl⟩ := hp
        have hb9 : 0 ≤ sby i k ∧ sby i k ≤ 122 := by
          obtain ⟨n9, hn9⟩ := Int.eq_ofNat_of_zero_le (show 0 ≤ k by omega)
          have := sby_r ⟨i, hi9⟩ ⟨n9, by omega⟩
          rw [hn9]; exact this
        have hb7 : 97 ≤ sby i k := by
          obtain ⟨n9, hn9⟩ := Int.eq_ofNat_of_zero_le (show 0 ≤ k by omega)
          have : ∀ (a : Fin 5) (b : Fin 8), (b.val : Int) < sln a.val → 97 ≤ sby a.val (b.val : Int) := by decide +kernel
          rw [hn9]; exact this ⟨i, hi9⟩ ⟨n9, by omega⟩ (by show (n9 : Int) < sln i; omega)
        refine gc_X1_52 rfl dX1_passAll_16 ⟨(Nat.le_of_ble_eq_true rfl), (Nat.le_of_ble_eq_true rfl)⟩ ⟨(Nat.le_of_ble_eq_true rfl), (Nat.le_of_ble_eq_true rfl)⟩ (Nat.le_of_ble_eq_true rfl) (HAt.mu gst_40) (c_X1_pass (G := uF G 3 (G 3 + k)) (by rw [uF_n (by decide)]; exact p4) (by rw [uF_s]; omega) (by rw [uF_n (by decide)]; exact p5) (c := sby i k) ⟨by omega, by omega⟩) (fun _ _ w => w.elim) (fun r_16 h_16 hp => ?_)
        obtain ⟨rfl, rfl⟩ := hp
        rw [uF_n (show 4 ≠ 3 by decide), uF_s, uF_ss]
        refine gi_if_ne (tgt := 24) dX1_passAll_19 (by decide) (bi_r _) (fun c_19 => ?_) (fun c_19 => ?_)
        · rw [bi_t] at c_19
          rw [decide_eq_true_iff] at c_19
          refine gi_iinc dX1_passAll_24 rfl (Nat.le_of_ble_eq_true rfl) rfl ?_
          refine gg_goto (tgt := 2) dX1_passAll_27 (by decide) ?_
          rw [if_pos c_19]
          refine gg_conv (ih_2 _ (by omega) (k + 1) rfl (by omega) (by omega) ?_) (by rw [Int.add_assoc]) rfl rfl
          rw [E, show (sln i - k).toNat = (sln i - (k + 1)).toNat + 1 by omega, mtS, if_pos c_19, Int.add_assoc (G 3) k 1]; omega
        · rw [bi_f] at c_19
          rw [decide_eq_false_iff_not] at c_19
          refine gi_iconst dX1_passAll_22 ?_
          subst hQF9
          refine gg_iret dX1_passAll_23 rfl (nar_bool (by omega)) ⟨(Nat.le_of_ble_eq_true rfl), (Nat.le_of_ble_eq_true rfl)⟩ ?_
          have e9 : mtS i (B 41) (G 4) (sln i).toNat 0 (G 3) = k := by
            rw [E, show (sln i - k).toNat = (sln i - (k + 1)).toNat + 1 by omega, mtS, if_neg c_19]; omega
          rw [if_neg c_19, e9, decide_eq_false (by omega)]
          exact ⟨rfl, rfl⟩
  exact gg_conv (L_2 _ 0 rfl (by omega) (by omega) (by rw [Int.sub_zero, Int.add_zero, Int.zero_add])) (by rw [Int.add_zero, uF_id]) rfl rfl
