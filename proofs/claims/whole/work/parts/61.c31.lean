/-! the scanner: what is remembered -/
def shH (f : Int → Int) (m : Int) : Int → Int := fun j => if 0 ≤ j ∧ j < m then f (j + 1) else f j
/-- the history, its oldest state last -/
def rtH (f : Int → Int) : Int → Int := up (shH f 7) 7 (f 0)
theorem shH_s {f : Int → Int} {m : Int} (h : 0 ≤ m) : up (shH f m) m (f (m + 1)) = shH f (m + 1) := by
  funext j; unfold up shH
  by_cases e : j = m
  · rw [if_pos e, if_pos (by omega), e]
  · rw [if_neg e]
    by_cases q : 0 ≤ j ∧ j < m
    · rw [if_pos q, if_pos (by omega)]
    · rw [if_neg q, if_neg (by omega)]
theorem WR.u31 {ι : Nat → Option XE} {B : Nat → Int → Int} {g : Int → Int} (h : WR ι B) : WR ι (uA B 31 g) := fun b hb => by
  refine ⟨fun d l => ?_, fun e => ?_⟩
  · rw [uA_n (by omega)]; exact (h b hb).1 d l
  · rw [uA_n (by omega)]; exact (h b hb).2 e
theorem bcG_l {G : Nat → Int} {b b2 j : Nat} (h : j < 100) : bcG G b b2 j = G j := by
  unfold bcG; rw [uF_n (by omega)]; unfold cI; rw [if_neg (by omega)]
set_option maxRecDepth 100000 in
set_option maxHeartbeats 4000000 in
theorem c_X9_remember {Γ : GT} {h : XH} {G : Nat → Int} {B : Nat → Int → Int} {b : Nat} (hb9 : b ≤ 9) (g0 : G 0 = (b : Int)) {mq : Nat} (hmq : G (100 + 10 * b) = (mq : Int)) (WR9 : WR h.2 B) (hu : 0 ≤ G 1 ∧ G 1 ≤ 8) (hH : ∀ j, 0 ≤ j → j < 8 → ∃ bj : Nat, B 31 j = (bj : Int) ∧ bj ≤ 9 ∧ bj ≠ b) : Ct Γ M_X9_remember [.ref (g_L Γ 30)] (gst Γ h G B) (fun r h9 => r = none ∧ h9 = gst Γ h (uF (bcG (if G 1 < 8 then G else uF G 1 7) (if G 1 < 8 then B 31 (G 1) else B 31 0).toNat b) 1 (if G 1 < 8 then G 1 + 1 else 8)) (bcB (if G 1 < 8 then B else uA B 31 (rtH (B 31))) (if G 1 < 8 then B 31 (G 1) else B 31 0).toNat b)) (fun _ _ => False) := by
  refine Ct.of rfl (by decide +kernel) (Nat.le_of_ble_eq_true rfl) ?_
  generalize hQF9 : QM Γ _ _ _ = QF9
  obtain ⟨u, hu9⟩ : ∃ u, G 1 = u := ⟨_, rfl⟩
  rw [hu9] at hu
  obtain ⟨b0, hb0, hk0, hn0⟩ := hH 0 (by omega) (by omega)
  refine gg_aload_n dX9_remember_0 rfl rfl ?_
  refine gk_getX9_68 rfl dX9_remember_1 hu9 ?_
  refine gg_aload_n dX9_remember_4 rfl rfl ?_
  refine gk_getX9_18 rfl dX9_remember_5 ?_
  refine gi_alen dX9_remember_8 (HAt.mu gst_31) (by decide) ?_
  refine gi_icmp_lt (tgt := 74) dX9_remember_9 (by decide) ⟨by omega, by omega⟩ ⟨by omega, by omega⟩ (fun c_9 => ?_) (fun c_9 => ?_)
  · try rw [show (((8 : Nat) : Int)) - 1 = 7 from rfl]
    refine gg_aload_n dX9_remember_74 rfl rfl ?_
    refine gk_getX9_18 rfl dX9_remember_75 ?_
    refine gg_aload_n dX9_remember_78 rfl rfl ?_
    refine gk_getX9_68 rfl dX9_remember_79 hu9 ?_
    obtain ⟨bj, hbj, hj9, hne⟩ := hH u (by omega) (by omega)
    refine gk_ald31 (b := bj) dX9_remember_82 ⟨by omega, by omega⟩ hbj ?_
    refine gg_aload_n dX9_remember_83 rfl rfl ?_
    refine gk_getX9_65 rfl dX9_remember_84 g0 ?_
    refine gc_X9_377 rfl dX9_remember_87 ⟨(Nat.le_of_ble_eq_true rfl), (Nat.le_of_ble_eq_true rfl)⟩ ⟨(Nat.le_of_ble_eq_true rfl), (Nat.le_of_ble_eq_true rfl)⟩ (Nat.le_of_ble_eq_true rfl) (HAt.mu (gst_st hj9)) (c_X7_become (G := G) (B := B) hj9 hb9 hne WR9 (mq := mq) (by exact hmq)) (fun _ _ w => w.elim) (fun r_87 h_87 hp => ?_)
    obtain ⟨rfl, rfl⟩ := hp
    refine gg_aload_n dX9_remember_90 rfl rfl ?_
    refine gg_dup dX9_remember_91 rfl ?_
    refine gk_getX9_68 rfl dX9_remember_92 ((bcG_l (by decide)).trans hu9) ?_
    refine gi_iconst dX9_remember_95 ?_
    refine gi_iadd dX9_remember_96 ?_
    refine gk_putX9_68 rfl dX9_remember_97 (by (try simp only [uF_ss, uF_cc, id_eq, Nat.reduceLT, reduceCtorEq]); rfl) ?_
    subst hQF9
    refine gg_vret dX9_remember_100 rfl ⟨(Nat.le_of_ble_eq_true rfl), (Nat.le_of_ble_eq_true rfl)⟩ ?_
    refine ⟨rfl, ?_⟩
    have c9 : u < 8 := by omega
    rw [hu9, if_pos c9, if_pos c9, if_pos c9, if_pos c9, hbj]
    rfl
  · refine gg_aload_n dX9_remember_12 rfl rfl ?_
    refine gk_getX9_18 rfl dX9_remember_13 ?_
    refine gi_iconst dX9_remember_16 ?_
    refine gk_ald31 (b := b0) dX9_remember_17 ⟨by omega, by omega⟩ hb0 ?_
    refine gg_astore_n dX9_remember_18 rfl (Nat.le_of_ble_eq_true rfl) rfl ?_
    refine gi_iconst dX9_remember_19 ?_
    refine gg_istore_n dX9_remember_20 (Nat.le_of_ble_eq_true rfl) rfl ?_
    have L_21 : ∀ (n9 : Nat) (i : Int), ((8 - i).toNat) = n9 → ∀ (hi : 1 ≤ i ∧ i ≤ 8), GG Γ M_X9_remember QF9 (0, 0) (gst Γ h G (uA B 31 (shH (B 31) (i - 1)))) 21 [some (.ref (g_L Γ 30)), some (.ref (g_L Γ (100 + 11 * b0))), some (.int (iN i))] [] := by
      intro n9
      induction n9 using Nat.strongRecOn with
      | ind n9 ih_21 => 
        intro i hm9 hi
        refine gg_iload_n dX9_remember_21 rfl ?_
        refine gg_aload_n dX9_remember_22 rfl rfl ?_
        refine gk_getX9_18 rfl dX9_remember_23 ?_
        refine gi_alen dX9_remember_26 (HAt.mu gst_31) (by decide) ?_
        refine gi_icmp_ge (tgt := 50) dX9_remember_27 (by decide) ⟨by omega, by omega⟩ ⟨by omega, by omega⟩ (fun c_27 => ?_) (fun c_27 => ?_)
        · refine gg_aload_n dX9_remember_50 rfl rfl ?_
          refine gk_getX9_18 rfl dX9_remember_51 ?_
          refine gg_aload_n dX9_remember_54 rfl rfl ?_
          refine gk_getX9_18 rfl dX9_remember_55 ?_
          refine gi_alen dX9_remember_58 (HAt.mu gst_31) (by decide) ?_
          refine gi_iconst dX9_remember_59 ?_
          refine gi_isub dX9_remember_60 ?_
          refine gg_aload_n dX9_remember_61 rfl rfl ?_
          refine gk_ast31 hk0 dX9_remember_62 ⟨by omega, by omega⟩ rfl ?_
          rw [uA_s, uA_ss, show i - 1 = 7 by omega, show (((8 : Nat) : Int)) - 1 = 7 from rfl, ← hb0, show up (shH (B 31) 7) 7 (B 31 0) = rtH (B 31) from rfl]
          refine gg_aload_n dX9_remember_63 rfl rfl ?_
          refine gg_aload_n dX9_remember_64 rfl rfl ?_
          refine gk_getX9_18 rfl dX9_remember_65 ?_
          refine gi_alen dX9_remember_68 (HAt.mu gst_31) (by decide) ?_
          refine gi_iconst dX9_remember_69 ?_
          refine gi_isub dX9_remember_70 ?_
          refine gk_putX9_68 rfl dX9_remember_71 (by (try simp only [uF_ss, uF_cc, id_eq, Nat.reduceLT, reduceCtorEq]); rfl) ?_
          try rw [show (((8 : Nat) : Int)) - 1 = 7 from rfl]
          refine gg_aload_n dX9_remember_74 rfl rfl ?_
          refine gk_getX9_18 rfl dX9_remember_75 ?_
          refine gg_aload_n dX9_remember_78 rfl rfl ?_
          refine gk_getX9_68 rfl dX9_remember_79 uF_s ?_
          have hj9 := hk0
          have hne := hn0
          refine gk_ald31 (b := b0) dX9_remember_82 ⟨by omega, by omega⟩ (by rw [uA_s]; unfold rtH; rw [up_s]; exact hb0) ?_
          refine gg_aload_n dX9_remember_83 rfl rfl ?_
          refine gk_getX9_65 rfl dX9_remember_84 (by rw [uF_n (by decide)]; exact g0) ?_
          refine gc_X9_377 rfl dX9_remember_87 ⟨(Nat.le_of_ble_eq_true rfl), (Nat.le_of_ble_eq_true rfl)⟩ ⟨(Nat.le_of_ble_eq_true rfl), (Nat.le_of_ble_eq_true rfl)⟩ (Nat.le_of_ble_eq_true rfl) (HAt.mu (gst_st hj9)) (c_X7_become (G := uF G 1 7) (B := uA B 31 (rtH (B 31))) hj9 hb9 hne WR9.u31 (mq := mq) (by rw [uF_n (by omega)]; exact hmq)) (fun _ _ w => w.elim) (fun r_87 h_87 hp => ?_)
          obtain ⟨rfl, rfl⟩ := hp
          refine gg_aload_n dX9_remember_90 rfl rfl ?_
          refine gg_dup dX9_remember_91 rfl ?_
          refine gk_getX9_68 rfl dX9_remember_92 ((bcG_l (by decide)).trans uF_s) ?_
          refine gi_iconst dX9_remember_95 ?_
          refine gi_iadd dX9_remember_96 ?_
          refine gk_putX9_68 rfl dX9_remember_97 (by (try simp only [uF_ss, uF_cc, id_eq, Nat.reduceLT, reduceCtorEq]); rfl) ?_
          subst hQF9
          refine gg_vret dX9_remember_100 rfl ⟨(Nat.le_of_ble_eq_true rfl), (Nat.le_of_ble_eq_true rfl)⟩ ?_
          refine ⟨rfl, ?_⟩
          have c9 : ¬ u < 8 := by omega
          rw [hu9, if_neg c9, if_neg c9, if_neg c9, if_neg c9, hb0]
          rfl
        · refine gg_aload_n dX9_remember_30 rfl rfl ?_
          refine gk_getX9_18 rfl dX9_remember_31 ?_
          refine gg_iload_n dX9_remember_34 rfl ?_
          refine gi_iconst dX9_remember_35 ?_
          refine gi_isub dX9_remember_36 ?_
          refine gg_aload_n dX9_remember_37 rfl rfl ?_
          refine gk_getX9_18 rfl dX9_remember_38 ?_
          refine gg_iload_n dX9_remember_41 rfl ?_
          obtain ⟨bj, hbj, hj9, hne⟩ := hH i (by omega) (by omega)
          refine gk_ald31 (b := bj) dX9_remember_42 ⟨by omega, by omega⟩ (by rw [uA_s]; unfold shH; rw [if_neg (by omega)]; exact hbj) ?_
          refine gk_ast31 hj9 dX9_remember_43 ⟨by omega, by omega⟩ rfl ?_
          refine gi_iinc dX9_remember_44 rfl (Nat.le_of_ble_eq_true rfl) rfl ?_
          refine gg_goto (tgt := 21) dX9_remember_47 (by decide) ?_
          refine gg_conv (ih_21 _ (by omega) (i + 1) rfl (by omega)) ?_ rfl rfl
          rw [uA_s, uA_ss, show i + 1 - 1 = i - 1 + 1 by omega, ← shH_s (by omega), show i - 1 + 1 = i by omega, hbj]
    refine gg_conv (L_21 _ 1 rfl (by omega)) ?_ rfl rfl
    rw [show shH (B 31) (1 - 1) = B 31 by funext j; unfold shH; rw [if_neg (by omega)]]
    congr 1; funext j; unfold uA; split <;> simp_all
