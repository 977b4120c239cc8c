/-! metres, lines, exceptions, words are made -/
theorem bt_xor {a b : Int} (ha : 0 ≤ a) (hb : 0 ≤ b) : iN a ^^^ iN b = iN ((a.toNat ^^^ b.toNat : Nat) : Int) := by
  obtain ⟨n, rfl⟩ := Int.eq_ofNat_of_zero_le ha
  obtain ⟨m, rfl⟩ := Int.eq_ofNat_of_zero_le hb
  rw [iN_nI, iN_nI, iN_nI]
  apply Int32.toBitVec_inj.1
  show BitVec.ofNat 32 n ^^^ BitVec.ofNat 32 m = BitVec.ofNat 32 (n ^^^ m)
  apply BitVec.eq_of_getLsbD_eq
  intro i hi
  simp [hi]
def stN (kd : Int) : Nat → Nat
  | 0 => 0
  | t + 1 => stN kd t ||| 2 ^ ((t : Int) * szk kd + sto kd).toNat
theorem st_or {x k : Nat} : iN ((x : Nat) : Int) ||| iN (2 ^ k) = iN ((x ||| 2 ^ k : Nat) : Int) := by
  rw [bt_or (by omega) (Int.le_of_lt (Int.pow_pos (by omega)))]
  congr 3
theorem stN_0 : ∀ (k : Fin 4) (t : Fin 5), stN (k.val : Int) (t.val + 2) = plN (fun p => strK (k.val : Int) p 0) (((t.val : Int) + 2) * szk (k.val : Int)).toNat := by decide +kernel
theorem stN_1 : ∀ (k : Fin 4) (t : Fin 5), (stN (k.val : Int) (t.val + 2) ^^^ 2 ^ (sto (k.val : Int)).toNat) ^^^ 2 ^ (szk (k.val : Int) - 1 - sto (k.val : Int)).toNat = plN (fun p => strK (k.val : Int) p 1) (((t.val : Int) + 2) * szk (k.val : Int)).toNat := by decide +kernel
theorem stN_e {kd ft : Int} (hk : 0 ≤ kd ∧ kd ≤ 3) (hf : 2 ≤ ft ∧ ft ≤ 6) : stN kd ft.toNat = plN (fun p => strK kd p 0) (ft * szk kd).toNat ∧ (stN kd ft.toNat ^^^ 2 ^ (sto kd).toNat) ^^^ 2 ^ (szk kd - 1 - sto kd).toNat = plN (fun p => strK kd p 1) (ft * szk kd).toNat := by
  obtain ⟨k, rfl⟩ := Int.eq_ofNat_of_zero_le hk.1
  obtain ⟨t, ht⟩ := Int.eq_ofNat_of_zero_le (show 0 ≤ ft - 2 by omega)
  have e1 : ft = (t : Int) + 2 := by omega
  subst e1
  have h1 := stN_0 ⟨k, by omega⟩ ⟨t, by omega⟩
  have h2 := stN_1 ⟨k, by omega⟩ ⟨t, by omega⟩
  rw [show ((t : Int) + 2).toNat = t + 2 by omega]
  exact ⟨h1, h2⟩
def mt0 : List Value := [.int 0, .int 0, .int 0, .int 0, .int 0, .int 0, .int 0]
set_option maxRecDepth 100000 in
set_option maxHeartbeats 4000000 in
theorem c_X4_init {Γ : GT} {h : XH} {q : Nat} (hq : h.2 q = some (.inr (6, [.int 0, .int 0, .int 0, .int 0, .int 0, .int 0, .int 0]))) {kd ft c9 : Int} (hk : 0 ≤ kd ∧ kd ≤ 3) (hf : 2 ≤ ft ∧ ft ≤ 6) (hc : 0 ≤ c9 ∧ c9 < ft) : Ct Γ M_X4_init [.ref q, .int (iN kd), .int (iN ft), .int (iN c9)] (h) (fun r h9 => r = none ∧ h9 = (h.1, upX h.2 q (.inr (6, [.int (iN kd), .int (iN ft), .int (iN c9), .int (iN (szk kd)), .int (iN (ft * szk kd)), .int (iN ((plN (fun p => strK kd p 0) (ft * szk kd).toNat : Nat) : Int)), .int (iN ((plN (fun p => strK kd p 1) (ft * szk kd).toNat : Nat) : Int))])))) (fun _ _ => False) := by
  refine Ct.of rfl (by decide +kernel) (Nat.le_of_ble_eq_true rfl) ?_
  generalize hQF9 : QM Γ _ _ _ = QF9
  have z9 := szk_r kd
  have o9 := sto_r kd
  have os : sto kd ≤ szk kd - 1 := by unfold sto szk; repeat' split <;> first | omega | skip
  have se := stN_e hk hf
  refine gg_aload_n dX4_init_0 rfl rfl ?_
  refine gc_X4_3 rfl dX4_init_1 ⟨(Nat.le_of_ble_eq_true rfl), (Nat.le_of_ble_eq_true rfl)⟩ ?_
  refine gg_aload_n dX4_init_4 rfl rfl ?_
  refine gg_iload_n dX4_init_5 rfl ?_
  refine gp_X4_9 rfl rfl dX4_init_6 (Nat.le_of_ble_eq_true rfl) rfl rfl (HPut.io hq) ?_
  refine gg_aload_n dX4_init_9 rfl rfl ?_
  refine gg_iload_n dX4_init_10 rfl ?_
  refine gp_X4_15 rfl rfl dX4_init_11 (Nat.le_of_ble_eq_true rfl) rfl rfl (HPut.io upX_s) ?_
  simp only [upX_t]
  refine gg_aload_n dX4_init_14 rfl rfl ?_
  refine gg_iload_n dX4_init_15 rfl ?_
  refine gp_X4_18 rfl rfl dX4_init_16 (Nat.le_of_ble_eq_true rfl) rfl rfl (HPut.io upX_s) ?_
  simp only [upX_t]
  refine gg_aload_n dX4_init_19 rfl rfl ?_
  refine gg_iload_n dX4_init_20 rfl ?_
  have L_34 : GG Γ M_X4_init QF9 (0, 0) ((h.1, upX h.2 q (.inr (6, [.int (iN kd), .int (iN ft), .int (iN c9), .int 0, .int 0, .int 0, .int 0])))) 34 [some (.ref q), some (.int (iN kd)), some (.int (iN ft)), some (.int (iN c9)), none, none, none] [.int (iN (szk kd)), .ref q] := by
    refine gp_X4_21 rfl rfl dX4_init_34 (Nat.le_of_ble_eq_true rfl) rfl rfl (HPut.io upX_s) ?_
    simp only [upX_t]
    refine gg_aload_n dX4_init_37 rfl rfl ?_
    refine gg_iload_n dX4_init_38 rfl ?_
    refine gg_aload_n dX4_init_39 rfl rfl ?_
    refine gf_X4_21 rfl dX4_init_40 (HAt.io upX_s) rfl ?_
    refine gi_imul dX4_init_43 ?_
    refine gp_X4_24 rfl rfl dX4_init_44 (Nat.le_of_ble_eq_true rfl) rfl rfl (HPut.io upX_s) ?_
    simp only [upX_t]
    have L_66 : GG Γ M_X4_init QF9 (0, 0) ((h.1, upX h.2 q (.inr (6, [.int (iN kd), .int (iN ft), .int (iN c9), .int (iN (szk kd)), .int (iN (ft * szk kd)), .int 0, .int 0])))) 66 [some (.ref q), some (.int (iN kd)), some (.int (iN ft)), some (.int (iN c9)), none, none, none] [.int (iN (sto kd))] := by
      refine gg_istore dX4_init_66 (Nat.le_of_ble_eq_true rfl) rfl ?_
      refine gi_iconst dX4_init_68 ?_
      refine gg_istore dX4_init_69 (Nat.le_of_ble_eq_true rfl) rfl ?_
      refine gi_iconst dX4_init_71 ?_
      refine gg_istore dX4_init_72 (Nat.le_of_ble_eq_true rfl) rfl ?_
      have L_74 : ∀ (n9 : Nat) (t : Int), ((ft - t).toNat) = n9 → ∀ (ht : 0 ≤ t ∧ t ≤ ft), GG Γ M_X4_init QF9 (0, 0) ((h.1, upX h.2 q (.inr (6, [.int (iN kd), .int (iN ft), .int (iN c9), .int (iN (szk kd)), .int (iN (ft * szk kd)), .int 0, .int 0])))) 74 [some (.ref q), some (.int (iN kd)), some (.int (iN ft)), some (.int (iN c9)), some (.int (iN (sto kd))), some (.int (iN ((stN kd t.toNat : Nat) : Int))), some (.int (iN t))] [] := by
        intro n9
        induction n9 using Nat.strongRecOn with
        | ind n9 ih_74 => 
          intro t hm9 ht
          refine gg_iload dX4_init_74 rfl ?_
          refine gg_iload_n dX4_init_76 rfl ?_
          refine gi_icmp_ge (tgt := 103) dX4_init_77 (by decide) ⟨by omega, by omega⟩ ⟨by omega, by omega⟩ (fun c_77 => ?_) (fun c_77 => ?_)
          · refine gg_aload_n dX4_init_103 rfl rfl ?_
            refine gg_iload dX4_init_104 rfl ?_
            refine gp_X4_27 rfl rfl dX4_init_106 (Nat.le_of_ble_eq_true rfl) rfl rfl (HPut.io upX_s) ?_
            simp only [upX_t]
            refine gg_aload_n dX4_init_109 rfl rfl ?_
            refine gg_iload dX4_init_110 rfl ?_
            refine gi_iconst dX4_init_112 ?_
            refine gg_iload dX4_init_113 rfl ?_
            refine gi_ishl _ (bt_shl ⟨by omega, by omega⟩) dX4_init_115 ?_
            refine gi_ixor _ (bt_xor (by omega) (Int.le_of_lt (Int.pow_pos (by omega)))) dX4_init_116 ?_
            refine gi_iconst dX4_init_117 ?_
            refine gg_aload_n dX4_init_118 rfl rfl ?_
            refine gf_X4_21 rfl dX4_init_119 (HAt.io upX_s) rfl ?_
            refine gi_iconst dX4_init_122 ?_
            refine gi_isub dX4_init_123 ?_
            refine gg_iload dX4_init_124 rfl ?_
            refine gi_isub dX4_init_126 ?_
            refine gi_ishl _ (bt_shl ⟨by omega, by omega⟩) dX4_init_127 ?_
            refine gi_ixor _ (bt_xor (by omega) (Int.le_of_lt (Int.pow_pos (by omega)))) dX4_init_128 ?_
            refine gp_X4_30 rfl rfl dX4_init_129 (Nat.le_of_ble_eq_true rfl) rfl rfl (HPut.io upX_s) ?_
            simp only [upX_t]
            subst hQF9
            refine gg_vret dX4_init_132 rfl ⟨(Nat.le_of_ble_eq_true rfl), (Nat.le_of_ble_eq_true rfl)⟩ ?_
            refine ⟨rfl, ?_⟩
            rw [show t = ft by omega]
            have e1 := congrArg (fun z : Nat => (z : Int)) se.1
            have e2 := congrArg (fun z : Nat => (z : Int)) se.2
            rw [← e1, ← e2]
            have p1 : ∀ k : Nat, ((2 : Int) ^ k).toNat = 2 ^ k := fun k => by rw [show (2 : Int) ^ k = ((2 ^ k : Nat) : Int) by rw [Int.natCast_pow]; rfl]; rfl
            rw [p1, p1, Int.toNat_natCast, Int.toNat_natCast]
            rfl
          · refine gg_iload dX4_init_80 rfl ?_
            refine gi_iconst dX4_init_82 ?_
            refine gg_iload dX4_init_83 rfl ?_
            refine gg_aload_n dX4_init_85 rfl rfl ?_
            refine gf_X4_21 rfl dX4_init_86 (HAt.io upX_s) rfl ?_
            refine gi_imul dX4_init_89 ?_
            refine gg_iload dX4_init_90 rfl ?_
            refine gi_iadd dX4_init_92 ?_
            refine gi_ishl _ (bt_shl ⟨by rcases z9 with w | w <;> rw [w] <;> omega, by rcases z9 with w | w <;> rw [w] <;> omega⟩) dX4_init_93 ?_
            refine gi_ior ((stN kd (t + 1).toNat : Nat) : Int) (by rw [st_or, show (t + 1).toNat = t.toNat + 1 by omega, stN, Int.toNat_of_nonneg ht.1]) dX4_init_94 ?_
            refine gg_istore dX4_init_95 (Nat.le_of_ble_eq_true rfl) rfl ?_
            refine gi_iinc dX4_init_97 rfl (Nat.le_of_ble_eq_true rfl) rfl ?_
            refine gg_goto (tgt := 74) dX4_init_100 (by decide) ?_
            exact ih_74 _ (by omega) (t + 1) rfl (by omega)
      exact L_74 _ 0 rfl (by omega)
    refine gg_iload_n dX4_init_47 rfl ?_
    refine gi_if_eq (tgt := 56) dX4_init_48 (by decide) ⟨by omega, by omega⟩ (fun c_48 => ?_) (fun c_48 => ?_)
    · refine gg_aload_n dX4_init_56 rfl rfl ?_
      refine gf_X4_21 rfl dX4_init_57 (HAt.io upX_s) rfl ?_
      refine gi_iconst dX4_init_60 ?_
      refine gi_isub dX4_init_61 ?_
      refine gg_goto (tgt := 66) dX4_init_62 (by decide) ?_
      refine gg_drop 4 ?_
      refine gg_drop 5 ?_
      refine gg_drop 6 ?_
      exact gg_conv L_66 rfl rfl (by rw [show szk kd - 1 = sto kd by unfold szk sto; repeat' split <;> first | omega | skip])
    · refine gg_iload_n dX4_init_51 rfl ?_
      refine gi_iconst dX4_init_52 ?_
      refine gi_icmp_ne (tgt := 65) dX4_init_53 (by decide) ⟨by omega, by omega⟩ ⟨by omega, by omega⟩ (fun c_53 => ?_) (fun c_53 => ?_)
      · refine gi_iconst dX4_init_65 ?_
        refine gg_drop 4 ?_
        refine gg_drop 5 ?_
        refine gg_drop 6 ?_
        exact gg_conv L_66 rfl rfl (by rw [show sto kd = 0 by unfold sto; repeat' split <;> first | omega | skip])
      · refine gg_aload_n dX4_init_56 rfl rfl ?_
        refine gf_X4_21 rfl dX4_init_57 (HAt.io upX_s) rfl ?_
        refine gi_iconst dX4_init_60 ?_
        refine gi_isub dX4_init_61 ?_
        refine gg_goto (tgt := 66) dX4_init_62 (by decide) ?_
        refine gg_drop 4 ?_
        refine gg_drop 5 ?_
        refine gg_drop 6 ?_
        exact gg_conv L_66 rfl rfl (by rw [show szk kd - 1 = sto kd by unfold szk sto; repeat' split <;> first | omega | skip])
  refine gi_if_eq (tgt := 29) dX4_init_21 (by decide) ⟨by omega, by omega⟩ (fun c_21 => ?_) (fun c_21 => ?_)
  · refine gi_iconst dX4_init_29 ?_
    refine gg_goto (tgt := 34) dX4_init_30 (by decide) ?_
    refine gg_drop 4 ?_
    refine gg_drop 5 ?_
    refine gg_drop 6 ?_
    exact gg_conv L_34 rfl rfl (by rw [show szk kd = 2 by unfold szk; rw [if_pos (by omega)]])
  · refine gg_iload_n dX4_init_24 rfl ?_
    refine gi_iconst dX4_init_25 ?_
    refine gi_icmp_ne (tgt := 33) dX4_init_26 (by decide) ⟨by omega, by omega⟩ ⟨by omega, by omega⟩ (fun c_26 => ?_) (fun c_26 => ?_)
    · refine gi_iconst dX4_init_33 ?_
      refine gg_drop 4 ?_
      refine gg_drop 5 ?_
      refine gg_drop 6 ?_
      exact gg_conv L_34 rfl rfl (by rw [show szk kd = 3 by unfold szk; rw [if_neg (by omega)]])
    · refine gi_iconst dX4_init_29 ?_
      refine gg_goto (tgt := 34) dX4_init_30 (by decide) ?_
      refine gg_drop 4 ?_
      refine gg_drop 5 ?_
      refine gg_drop 6 ?_
      exact gg_conv L_34 rfl rfl (by rw [show szk kd = 2 by unfold szk; rw [if_pos (by omega)]])
set_option maxRecDepth 100000 in
set_option maxHeartbeats 4000000 in
theorem c_X2_init {Γ : GT} {h : XH} {q : Nat} (hq : h.2 q = some (.inr (4, [.null, .int 0, .int 0, .null, .null]))) {aT aW wl : Nat} {m : Nat} {w9 : Int → Option Nat} (hW : h.2 aW = some (.inl (6, m, ra w9))) (hne : aW ≠ q) {cm : Int} : Ct Γ M_X2_init [.ref q, .ref aT, .ref aW, .int (iN cm), .ref wl] (h) (fun r h9 => r = none ∧ h9 = (h.1, upX h.2 q (.inr (4, [.ref aT, .int (iN (m : Int)), .int (iN cm), .ref wl, .ref aW])))) (fun _ _ => False) := by
  refine Ct.of rfl (by decide +kernel) (Nat.le_of_ble_eq_true rfl) ?_
  generalize hQF9 : QM Γ _ _ _ = QF9
  refine gg_aload_n dX2_init_0 rfl rfl ?_
  refine gc_X2_1 rfl dX2_init_1 ⟨(Nat.le_of_ble_eq_true rfl), (Nat.le_of_ble_eq_true rfl)⟩ ?_
  refine gg_aload_n dX2_init_4 rfl rfl ?_
  refine gg_aload_n dX2_init_5 rfl rfl ?_
  refine gp_X2_7 rfl rfl dX2_init_6 (Nat.le_of_ble_eq_true rfl) rfl rfl (HPut.io hq) ?_
  refine gg_aload_n dX2_init_9 rfl rfl ?_
  refine gg_aload_n dX2_init_10 rfl rfl ?_
  refine gp_X2_13 rfl rfl dX2_init_11 (Nat.le_of_ble_eq_true rfl) rfl rfl (HPut.io upX_s) ?_
  simp only [upX_t]
  refine gg_aload_n dX2_init_14 rfl rfl ?_
  refine gg_iload_n dX2_init_15 rfl ?_
  refine gp_X2_17 rfl rfl dX2_init_16 (Nat.le_of_ble_eq_true rfl) rfl rfl (HPut.io upX_s) ?_
  simp only [upX_t]
  refine gg_aload_n dX2_init_19 rfl rfl ?_
  refine gg_aload dX2_init_20 rfl rfl ?_
  refine gp_X2_21 rfl rfl dX2_init_22 (Nat.le_of_ble_eq_true rfl) rfl rfl (HPut.io upX_s) ?_
  simp only [upX_t]
  refine gg_aload_n dX2_init_25 rfl rfl ?_
  refine gg_aload_n dX2_init_26 rfl rfl ?_
  refine gi_alen dX2_init_27 (HAt.io (Eq.trans (upX_n hne) hW)) (by decide) ?_
  refine gp_X2_25 rfl rfl dX2_init_28 (Nat.le_of_ble_eq_true rfl) rfl rfl (HPut.io upX_s) ?_
  simp only [upX_t]
  subst hQF9
  refine gg_vret dX2_init_31 rfl ⟨(Nat.le_of_ble_eq_true rfl), (Nat.le_of_ble_eq_true rfl)⟩ ?_
  exact ⟨rfl, rfl⟩
set_option maxRecDepth 100000 in
set_option maxHeartbeats 4000000 in
theorem c_X3_init {Γ : GT} {h : XH} {q : Nat} (hq : h.2 q = some (.inr (5, [.null, .int 0, .null]))) {wq aM : Nat} {m : Nat} {m9 : Int → Int} (hM : h.2 aM = some (.inl (0, m, ia m9))) (hne : aM ≠ q) : Ct Γ M_X3_init [.ref q, .ref wq, .ref aM] (h) (fun r h9 => r = none ∧ h9 = (h.1, upX h.2 q (.inr (5, [.ref wq, .int (iN (m : Int)), .ref aM])))) (fun _ _ => False) := by
  refine Ct.of rfl (by decide +kernel) (Nat.le_of_ble_eq_true rfl) ?_
  generalize hQF9 : QM Γ _ _ _ = QF9
  refine gg_aload_n dX3_init_0 rfl rfl ?_
  refine gc_X3_3 rfl dX3_init_1 ⟨(Nat.le_of_ble_eq_true rfl), (Nat.le_of_ble_eq_true rfl)⟩ ?_
  refine gg_aload_n dX3_init_4 rfl rfl ?_
  refine gg_aload_n dX3_init_5 rfl rfl ?_
  refine gp_X3_9 rfl rfl dX3_init_6 (Nat.le_of_ble_eq_true rfl) rfl rfl (HPut.io hq) ?_
  refine gg_aload_n dX3_init_9 rfl rfl ?_
  refine gg_aload_n dX3_init_10 rfl rfl ?_
  refine gp_X3_15 rfl rfl dX3_init_11 (Nat.le_of_ble_eq_true rfl) rfl rfl (HPut.io upX_s) ?_
  simp only [upX_t]
  refine gg_aload_n dX3_init_14 rfl rfl ?_
  refine gg_aload_n dX3_init_15 rfl rfl ?_
  refine gi_alen dX3_init_16 (HAt.io (Eq.trans (upX_n hne) hM)) (by decide) ?_
  refine gp_X3_19 rfl rfl dX3_init_17 (Nat.le_of_ble_eq_true rfl) rfl rfl (HPut.io upX_s) ?_
  simp only [upX_t]
  subst hQF9
  refine gg_vret dX3_init_20 rfl ⟨(Nat.le_of_ble_eq_true rfl), (Nat.le_of_ble_eq_true rfl)⟩ ?_
  exact ⟨rfl, rfl⟩
set_option maxRecDepth 100000 in
set_option maxHeartbeats 4000000 in
theorem c_X1_copyOf {Γ : GT} {h : XH} {G : Nat → Int} {B : Nat → Int → Int} (p4 : 0 ≤ G 4 ∧ G 4 ≤ 60) (p5 : ∀ k, 0 ≤ k → k < G 4 → 0 ≤ B 41 k ∧ B 41 k < 65536) (p3 : 0 ≤ G 3 ∧ G 3 ≤ 100) {x y : Int} (hx : 0 ≤ x ∧ x ≤ y) (hy : y ≤ G 4) : Ct Γ M_X1_copyOf [.ref (g_L Γ 40), .int (iN x), .int (iN y)] (gst Γ h G B) (fun r h9 => ∃ (q9 : Nat) (f9 : Int → Int), r = some (.ref q9) ∧ Fresh Γ (gst Γ h G B) q9 ∧ h9 = gst Γ (h.1, upX h.2 q9 (.inl (1, (y - x).toNat, ia f9))) G B ∧ ∀ j, 0 ≤ j → j < y - x → f9 j = B 41 (x + j)) (fun _ _ => False) := by
  refine Ct.of rfl (by decide +kernel) (Nat.le_of_ble_eq_true rfl) ?_
  generalize hQF9 : QM Γ _ _ _ = QF9
  refine gi_iconst dX1_copyOf_0 ?_
  refine gg_iload_n dX1_copyOf_1 rfl ?_
  refine gg_iload_n dX1_copyOf_2 rfl ?_
  refine gi_isub dX1_copyOf_3 ?_
  refine gc_X1_121 rfl dX1_copyOf_4 ⟨(Nat.le_of_ble_eq_true rfl), (Nat.le_of_ble_eq_true rfl)⟩ ⟨(Nat.le_of_ble_eq_true rfl), (Nat.le_of_ble_eq_true rfl)⟩ ?_
  rw [iN_max ⟨by omega, by omega⟩ ⟨by omega, by omega⟩]
  rw [show max 0 (y - x) = y - x by omega]
  refine gg_newa (n := iN (y - x)) (t := 1) (N := (y - x).toNat) (a0 := ((y - x).toNat, ia (fun _ => 0))) dX1_copyOf_7 (by decide) rfl (wi_1 _ (List.mem_of_getElem? (i := 23) rfl)) (fun _ => rfl) (fun z => by rw [← iN_0, iN_lt ⟨by omega, by omega⟩ ⟨by omega, by omega⟩] at z; omega) (iN_clamp (by omega) (by omega)) (by show (y - x).toNat * 2 ≤ _; omega) (Nat.le_of_ble_eq_true rfl) (by show 0 + (y - x).toNat ≤ 60; omega) (fun q9 fr9 => ?_)
  refine gg_widen (k := 1) (n := 60) (Nat.le_refl _) (by show 0 + (y - x).toNat ≤ 60; omega) ?_
  refine gg_astore_n dX1_copyOf_9 rfl (Nat.le_of_ble_eq_true rfl) rfl ?_
  refine gi_iconst dX1_copyOf_10 ?_
  refine gg_istore dX1_copyOf_11 (Nat.le_of_ble_eq_true rfl) rfl ?_
  have L_13 : ∀ (n9 : Nat) (k : Int) (f9 : Int → Int), ((y - x - k).toNat) = n9 → ∀ (hk : 0 ≤ k ∧ k ≤ y - x) (E : ∀ j, 0 ≤ j → j < k → f9 j = B 41 (x + j)), GG Γ M_X1_copyOf QF9 (1, 60) (gst Γ (h.1, upX h.2 q9 (.inl (1, (y - x).toNat, ia f9))) G B) 13 [some (.ref (g_L Γ 40)), some (.int (iN x)), some (.int (iN y)), some (.ref q9), some (.int (iN k))] [] := by
    intro n9
    induction n9 using Nat.strongRecOn with
    | ind n9 ih_13 => 
      intro k f9 hm9 hk E
      refine gg_iload dX1_copyOf_13 rfl ?_
      refine gg_aload_n dX1_copyOf_15 rfl rfl ?_
      refine gi_alen dX1_copyOf_16 (HAt.io (h := gst Γ (h.1, upX h.2 q9 (.inl (1, (y - x).toNat, ia f9))) G B) upX_s) (by decide) ?_
      rw [Int.toNat_of_nonneg (by omega)]
      refine gi_icmp_ge (tgt := 38) dX1_copyOf_17 (by decide) ⟨by omega, by omega⟩ ⟨by omega, by omega⟩ (fun c_17 => ?_) (fun c_17 => ?_)
      · refine gg_aload_n dX1_copyOf_38 rfl rfl ?_
        subst hQF9
        refine gg_aret dX1_copyOf_39 rfl rfl rfl ⟨(Nat.le_of_ble_eq_true rfl), (Nat.le_of_ble_eq_true rfl)⟩ ?_
        rw [show k = y - x by omega] at E
        exact ⟨q9, f9, rfl, fr9, rfl, E⟩
      · refine gg_aload_n dX1_copyOf_20 rfl rfl ?_
        refine gg_iload dX1_copyOf_21 rfl ?_
        refine gg_aload_n dX1_copyOf_23 rfl rfl ?_
        refine gg_iload_n dX1_copyOf_24 rfl ?_
        refine gg_iload dX1_copyOf_25 rfl ?_
        refine gi_iadd dX1_copyOf_27 ?_
        refine gc_X1_78 rfl dX1_copyOf_28 ⟨(Nat.le_of_ble_eq_true rfl), (Nat.le_of_ble_eq_true rfl)⟩ ⟨(Nat.le_of_ble_eq_true rfl), (Nat.le_of_ble_eq_true rfl)⟩ (Nat.le_of_ble_eq_true rfl) (HAt.mu gst_40) (c_X1_characterAt (h := (h.1, upX h.2 q9 (.inl (1, (y - x).toNat, ia f9)))) p4 p3 p5 (p := x + k) ⟨by omega, by omega⟩) (fun _ _ w => w.elim) (fun r_28 h_28 hp => ?_)
        obtain ⟨rfl, rfl⟩ := hp
        have hch : chA G B (x + k) = B 41 (x + k) := by unfold chA; rw [if_pos (by omega)]
        rw [hch]
        have hcr := p5 (x + k) (by omega) (by omega)
        refine gi_cast dX1_copyOf_31 (f := f9) (n := (y - x).toNat) (by omega) ⟨by omega, by omega⟩ hcr (HPut.io (h := gst Γ (h.1, upX h.2 q9 (.inl (1, (y - x).toNat, ia f9))) G B) upX_s) ?_
        refine gi_iinc dX1_copyOf_32 rfl (Nat.le_of_ble_eq_true rfl) rfl ?_
        refine gg_goto (tgt := 13) dX1_copyOf_35 (by decide) ?_
        refine gg_conv (ih_13 _ (by omega) (k + 1) (up f9 k (B 41 (x + k))) rfl (by omega) ?_) ?_ rfl rfl
        · intro j j0 j1
          by_cases e : j = k
          · rw [e, up_s]
          · rw [up_n e]; exact E j j0 (by omega)
        · show gst Γ (h.1, upX h.2 q9 _) G B = gst Γ (h.1, upX (upX h.2 q9 _) q9 _) G B
          rw [upX_t]
  exact L_13 _ 0 (fun _ => 0) rfl (by omega) (fun j j0 j1 => by omega)
