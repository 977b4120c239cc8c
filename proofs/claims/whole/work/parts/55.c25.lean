/-! the scanner: accounts -/
def lF9 : List Nat := [6, 7, 8, 9, 10, 11, 12, 13, 14, 15, 16, 17, 18]
def lA9 : List Nat := [33, 34, 51, 52, 61, 62, 63, 64, 65]
/-- what searches change -/
def frS (G G' : Nat → Int) (B B' : Nat → Int → Int) : Prop := frF lF9 G G' ∧ frA lA9 B B' ∧ ∃ a b c d, IX G' a b c d
theorem frS.tr {G G1 G2 : Nat → Int} {B B1 B2 : Nat → Int → Int} (x : frS G G1 B B1) (y : frS G1 G2 B1 B2) : frS G G2 B B2 :=
  ⟨fun j hj => (y.1 j hj).trans (x.1 j hj), fun j hj => (y.2.1 j hj).trans (x.2.1 j hj), y.2.2⟩
theorem frS.rf {G : Nat → Int} {B : Nat → Int → Int} (I : ∃ a b c d, IX G a b c d) : frS G G B B := ⟨fun _ _ => rfl, fun _ _ => rfl, I⟩
theorem frS.g {G G' : Nat → Int} {B B' : Nat → Int → Int} (x : frS G G' B B') {j : Nat} (h : j < 6 ∨ 19 ≤ j) : G' j = G j := x.1 j (fun z => by simp only [lF9, List.mem_cons, List.mem_nil_iff, or_false] at z; omega)
theorem frS.b {G G' : Nat → Int} {B B' : Nat → Int → Int} (x : frS G G' B B') {j : Nat} (h : j < 33 ∨ 66 ≤ j ∨ (34 < j ∧ j < 51)) : B' j = B j := x.2.1 j (fun z => by simp only [lA9, List.mem_cons, List.mem_nil_iff, or_false] at z; omega)
theorem srW.fr {G G' : Nat → Int} {B B' : Nat → Int → Int} {D : DT} (x : srW G G' B B' D) : frS G G' B B' :=
  ⟨x.1, fun j hj => x.2.1 j (fun z => hj (by simp only [lA9, List.mem_cons, List.mem_nil_iff, or_false] at z ⊢; omega)), x.2.2.2.2.2.2⟩
/-- the state that is now -/
def SW (ι : Nat → Option XE) (G : Nat → Int) (B : Nat → Int → Int) (b mq : Nat) (kd ft c9 : Int) (a : Int → Int) : Prop :=
  b ≤ 9 ∧ G 0 = (b : Int) ∧ G (100 + 10 * b) = (mq : Int) ∧ MtAt ι mq kd ft c9 ∧ ExM ι G B b a ∧ (∃ a b c d, IX G a b c d) ∧ InR (G (101 + 10 * b))
theorem ExM.fs {ι : Nat → Option XE} {G G' : Nat → Int} {B B' : Nat → Int → Int} {b : Nat} {a : Int → Int} (f : frS G G' B B') (x : ExM ι G B b a) : ExM ι G' B' b a := by
  unfold ExM at x ⊢; rw [f.g (by omega), f.b (by omega)]; exact x
theorem SW.fs {ι : Nat → Option XE} {G G' : Nat → Int} {B B' : Nat → Int → Int} {b mq : Nat} {kd ft c9 : Int} {a : Int → Int} (f : frS G G' B B') (x : SW ι G B b mq kd ft c9 a) : SW ι G' B' b mq kd ft c9 a := by
  obtain ⟨x1, x2, x3, x4, x5, x6, x7⟩ := x
  exact ⟨x1, by rw [f.g (by omega)]; exact x2, by rw [f.g (by omega)]; exact x3, x4, x5.fs f, f.2.2, by rw [f.g (by omega)]; exact x7⟩
/-- the lines of a draft -/
def LnD (ι : Nat → Option XE) (G : Nat → Int) (B : Nat → Int → Int) (b d : Nat) (fL : Int → Int → Int) (nL : Int → Int) : Prop :=
  (0 ≤ G (103 + 10 * b + d) ∧ G (103 + 10 * b + d) ≤ 10) ∧ ∀ l, 0 ≤ l → l < G (103 + 10 * b + d) → ∃ q : Nat, B (106 + 11 * b + d) l = (q : Int) ∧ LnO ι q (fL l) (nL l)
theorem LnD.fs {ι : Nat → Option XE} {G G' : Nat → Int} {B B' : Nat → Int → Int} {b d : Nat} {fL : Int → Int → Int} {nL : Int → Int} (f : frS G G' B B') (x : LnD ι G B b d fL nL) : LnD ι G' B' b d fL nL := by
  unfold LnD at x ⊢; rw [f.g (by omega), f.b (by omega)]; exact x
theorem RdD.ok {G : Nat → Int} {B : Nat → Int → Int} {D : DT} (R : RdD G B D) : sOK D ∧ 0 ≤ dL D := ⟨⟨R.1.2, fun w w0 w1 => (R.2.2.1 w w0 w1).1⟩, by have := R.1.1; omega⟩
theorem srch_r {D : DT} (h : sOK D) (h0 : 0 ≤ dL D) : 0 ≤ (srch D).1 ∧ (srch D).1 ≤ NOK := by
  have r0 := srB_r (D := D) (i := 0) (fd := 0) (Or.inl rfl) h h0
  have r1 := srB_r (D := D) (i := 1) (fd := (srB D 0 0).2) (Or.inr rfl) h h0
  unfold srch
  split
  · unfold NOK; dsimp only; omega
  · dsimp only; unfold NOK at *; omega
/-- what a line adds -/
def shV (D : DT) (mk tol w : Int) : Int :=
  if w = 1 then bi (decide ((srch D).1 ≠ NOK ∧ (srch D).1 / 65536 ≤ tol)) else if w = 2 then (if (srch D).1 = NOK then 0 else (srch D).1 / 65536) else if w = 3 then (if (srch D).1 = NOK then 1 else 0)
  else if w = 5 then smS (dS D) (dL D).toNat else if w = 6 then (if (srch D).1 = NOK then 0 else btc ((srch D).1 / 2 % 2048) 12) else mk
def mkC (a f : Int → Int) (n : Int) : Int := smS (fun i => bi (decide (0 ≤ xI a f n i))) (pwL f n).toNat
theorem an2047 {a : Int} (ha : 0 ≤ a) : iN a &&& iN 2047 = iN (a % 2048) := by
  rw [bt_and ha (by omega)]
  congr 1
  obtain ⟨n, rfl⟩ := Int.eq_ofNat_of_zero_le ha
  rw [show (2047 : Int).toNat = 2 ^ 11 - 1 from rfl, Int.toNat_natCast, Nat.and_two_pow_sub_one_eq_mod]
  rfl
set_option maxRecDepth 100000 in
set_option maxHeartbeats 4000000 in
theorem c_X9_share {Γ : GT} {h : XH} {G : Nat → Int} {B : Nat → Int → Int} {b mq : Nat} {kd ft c9 : Int} {a : Int → Int} (S : SW h.2 G B b mq kd ft c9 a) {q1 : Nat} {f : Int → Int} {n : Int} (L1 : LnO h.2 q1 f n) {w : Int} (hw : InR w) : Ct Γ M_X9_share [.ref (g_L Γ 30), .ref q1, .int (iN w)] (gst Γ h G B) (fun r h9 => ∃ (G' : Nat → Int) (B' : Nat → Int → Int), r = some (.int (iN (shV (dtA a f n kd ft c9) (mkC a f n) (G (101 + 10 * b)) w))) ∧ h9 = gst Γ h G' B' ∧ frS G G' B B') (fun _ _ => False) := by
  refine Ct.of rfl (by decide +kernel) (Nat.le_of_ble_eq_true rfl) ?_
  generalize hQF9 : QM Γ _ _ _ = QF9
  obtain ⟨hb9, g0, hm9, M1, X9, I9, T9⟩ := S
  refine gg_aload_n dX9_share_0 rfl rfl ?_
  refine gk_getX9_30 rfl dX9_share_1 ?_
  refine gg_aload_n dX9_share_4 rfl rfl ?_
  refine gg_aload_n dX9_share_5 rfl rfl ?_
  refine gk_getX9_65 rfl dX9_share_6 g0 ?_
  refine gc_X9_237 rfl dX9_share_9 ⟨(Nat.le_of_ble_eq_true rfl), (Nat.le_of_ble_eq_true rfl)⟩ ⟨(Nat.le_of_ble_eq_true rfl), (Nat.le_of_ble_eq_true rfl)⟩ (Nat.le_of_ble_eq_true rfl) (HAt.mu gst_50) (c_X5_fill hb9 X9 L1) (fun _ _ w => w.elim) (fun r_9 h_9 hp => ?_)
  obtain ⟨G1, B1, rfl, rfl, fF, fA, R1, e7, e10, e11⟩ := hp
  refine gg_aload_n dX9_share_12 rfl rfl ?_
  refine gk_getX9_39 rfl dX9_share_13 ?_
  refine gg_aload_n dX9_share_16 rfl rfl ?_
  refine gk_getX9_65 rfl dX9_share_17 ((fF 0 (by decide)).trans g0) ?_
  refine gk_getX9_109 hb9 rfl dX9_share_20 (Eq.trans (fF (100 + 10 * b) (by simp only [List.mem_cons, List.mem_nil_iff, or_false]; omega)) hm9) ?_
  refine gc_X9_397 rfl dX9_share_23 ⟨(Nat.le_of_ble_eq_true rfl), (Nat.le_of_ble_eq_true rfl)⟩ ⟨(Nat.le_of_ble_eq_true rfl), (Nat.le_of_ble_eq_true rfl)⟩ (Nat.le_of_ble_eq_true rfl) (HAt.mu gst_60) (c_X6_search (D := dtA a f n kd ft c9) M1 R1 e7 e11 (by obtain ⟨a1, b1, c1, d1, ix⟩ := I9; exact ⟨a1, b1, c1, d1, by unfold IX at ix ⊢; rw [fF 12 (by decide), fF 13 (by decide), fF 14 (by decide), fF 15 (by decide)]; exact ix⟩)) (fun _ _ w => w.elim) (fun r_23 h_23 hp => ?_)
  obtain ⟨G2, B2, rfl, rfl, fF2, fA2, e18, I2⟩ := hp
  have hs9 : srW G G2 B B2 (dtA a f n kd ft c9) := by
    refine ⟨fun j hj => ?_, fun j hj => ?_, R1.fr (fF2 6 (by decide)) (fF2 8 (by decide)) (fF2 9 (by decide)) (fA2 51 (by decide)) (fA2 52 (by decide)), (fF2 7 (by decide)).trans e7, (fF2 11 (by decide)).trans e11, e18, I2⟩
    · rw [fF2 j (fun z => hj (by simp only [List.mem_cons, List.mem_nil_iff, or_false] at z ⊢; omega)), fF j (fun z => hj (by simp only [List.mem_cons, List.mem_nil_iff, or_false] at z ⊢; omega))]
    · rw [fA2 j (fun z => hj (by simp only [List.mem_cons, List.mem_nil_iff, or_false] at z ⊢; omega)), fA j (fun z => hj (by simp only [List.mem_cons, List.mem_nil_iff, or_false] at z ⊢; omega))]
  have e12 : G2 10 = mkC a f n := (fF2 10 (by decide)).trans e10
  have e13 : G2 7 = smS (dS (dtA a f n kd ft c9)) (dL (dtA a f n kd ft c9)).toNat := hs9.2.2.2.1
  have f9 := hs9.fr
  have ok9 := RdD.ok (D := dtA a f n kd ft c9) R1
  have kr := srch_r ok9.1 ok9.2
  unfold NOK at kr
  obtain ⟨k, hk⟩ : ∃ k, (srch (dtA a f n kd ft c9)).1 = k := ⟨_, rfl⟩
  rw [hk] at kr ⊢
  have t9 : G2 (101 + 10 * b) = G (101 + 10 * b) := f9.g (by omega)
  refine gg_istore_n dX9_share_26 (Nat.le_of_ble_eq_true rfl) rfl ?_
  refine gg_iload_n dX9_share_27 rfl ?_
  refine gi_ldcw (z := 1073741824) (by decide) (wi_44 _ (List.mem_of_getElem? (i := 14) rfl)) rfl dX9_share_28 ?_
  refine gi_icmp_eq (tgt := 38) dX9_share_31 (by decide) ⟨by omega, by omega⟩ ⟨by omega, by omega⟩ (fun c_31 => ?_) (fun c_31 => ?_)
  · refine gi_iconst dX9_share_38 ?_
    refine gg_istore dX9_share_39 (Nat.le_of_ble_eq_true rfl) rfl ?_
    refine gg_iload_n dX9_share_41 rfl ?_
    by_cases w_42_0 : w = 1
    · refine gi_tab (tgt := 80) dX9_share_42 hw (by omega) (by omega) (by rw [w_42_0]; rfl) (by decide) ?_
      refine gg_aload_n dX9_share_80 rfl rfl ?_
      refine gg_iload_n dX9_share_81 rfl ?_
      refine gc_X9_337 rfl dX9_share_82 ⟨(Nat.le_of_ble_eq_true rfl), (Nat.le_of_ble_eq_true rfl)⟩ ⟨(Nat.le_of_ble_eq_true rfl), (Nat.le_of_ble_eq_true rfl)⟩ (Nat.le_of_ble_eq_true rfl) (HAt.mu gst_30) (c_X9_fits hb9 ((f9.g (by omega)).trans g0) (k := k) kr (by rw [t9]; exact T9)) (fun _ _ w => w.elim) (fun r_82 h_82 hp => ?_)
      obtain ⟨rfl, rfl⟩ := hp
      refine gi_if_eq (tgt := 92) dX9_share_85 (by decide) (bi_r _) (fun c_85 => ?_) (fun c_85 => ?_)
      · rw [bi_f] at c_85
        rw [decide_eq_false_iff_not] at c_85
        refine gi_iconst dX9_share_92 ?_
        subst hQF9
        refine gg_iret dX9_share_93 rfl rfl ⟨(Nat.le_of_ble_eq_true rfl), (Nat.le_of_ble_eq_true rfl)⟩ ?_
        refine ⟨G2, B2, ?_, rfl, f9⟩
        rw [show shV (dtA a f n kd ft c9) (mkC a f n) (G (101 + 10 * b)) w = 0 by unfold shV; rw [hk, if_pos (by omega), ← t9, decide_eq_false c_85]; rfl]
      · rw [bi_t] at c_85
        rw [decide_eq_true_iff] at c_85
        refine gi_iconst dX9_share_88 ?_
        refine gg_goto (tgt := 93) dX9_share_89 (by decide) ?_
        subst hQF9
        refine gg_iret dX9_share_93 rfl rfl ⟨(Nat.le_of_ble_eq_true rfl), (Nat.le_of_ble_eq_true rfl)⟩ ?_
        refine ⟨G2, B2, ?_, rfl, f9⟩
        rw [show shV (dtA a f n kd ft c9) (mkC a f n) (G (101 + 10 * b)) w = 1 by unfold shV; rw [hk, if_pos (by omega), ← t9, decide_eq_true c_85]; rfl]
    by_cases w_42_1 : w = 2
    · refine gi_tab (tgt := 94) dX9_share_42 hw (by omega) (by omega) (by rw [w_42_1]; rfl) (by decide) ?_
      refine gg_iload dX9_share_94 rfl ?_
      refine gi_if_eq (tgt := 106) dX9_share_96 (by decide) ⟨by omega, by omega⟩ (fun c9 => ?_) (fun c9 => absurd c9 (by decide))
      refine gi_iconst dX9_share_106 ?_
      subst hQF9
      refine gg_iret dX9_share_107 rfl rfl ⟨(Nat.le_of_ble_eq_true rfl), (Nat.le_of_ble_eq_true rfl)⟩ ?_
      refine ⟨G2, B2, ?_, rfl, f9⟩
      congr 3
      unfold shV NOK; rw [hk]
      repeat' split
      all_goals first | rfl | omega
    by_cases w_42_2 : w = 3
    · refine gi_tab (tgt := 108) dX9_share_42 hw (by omega) (by omega) (by rw [w_42_2]; rfl) (by decide) ?_
      refine gg_iload dX9_share_108 rfl ?_
      refine gi_if_eq (tgt := 117) dX9_share_110 (by decide) ⟨by omega, by omega⟩ (fun c9 => ?_) (fun c9 => absurd c9 (by decide))
      refine gi_iconst dX9_share_117 ?_
      subst hQF9
      refine gg_iret dX9_share_118 rfl rfl ⟨(Nat.le_of_ble_eq_true rfl), (Nat.le_of_ble_eq_true rfl)⟩ ?_
      refine ⟨G2, B2, ?_, rfl, f9⟩
      congr 3
      unfold shV NOK; rw [hk]
      repeat' split
      all_goals first | rfl | omega
    by_cases w_42_3 : w = 4
    · refine gi_tab (tgt := 147) dX9_share_42 hw (by omega) (by omega) (by rw [w_42_3]; rfl) (by decide) ?_
      refine gg_aload_n dX9_share_147 rfl rfl ?_
      refine gk_getX9_30 rfl dX9_share_148 ?_
      refine gk_getX9_411 rfl dX9_share_151 e12 ?_
      subst hQF9
      refine gg_iret dX9_share_154 rfl rfl ⟨(Nat.le_of_ble_eq_true rfl), (Nat.le_of_ble_eq_true rfl)⟩ ?_
      refine ⟨G2, B2, ?_, rfl, f9⟩
      congr 3
      unfold shV NOK; rw [hk]
      repeat' split
      all_goals first | rfl | omega
    by_cases w_42_4 : w = 5
    · refine gi_tab (tgt := 119) dX9_share_42 hw (by omega) (by omega) (by rw [w_42_4]; rfl) (by decide) ?_
      refine gg_aload_n dX9_share_119 rfl rfl ?_
      refine gk_getX9_30 rfl dX9_share_120 ?_
      refine gk_getX9_241 rfl dX9_share_123 e13 ?_
      subst hQF9
      refine gg_iret dX9_share_126 rfl rfl ⟨(Nat.le_of_ble_eq_true rfl), (Nat.le_of_ble_eq_true rfl)⟩ ?_
      refine ⟨G2, B2, ?_, rfl, f9⟩
      congr 3
      unfold shV NOK; rw [hk]
      repeat' split
      all_goals first | rfl | omega
    by_cases w_42_5 : w = 6
    · refine gi_tab (tgt := 127) dX9_share_42 hw (by omega) (by omega) (by rw [w_42_5]; rfl) (by decide) ?_
      refine gg_iload dX9_share_127 rfl ?_
      refine gi_if_eq (tgt := 145) dX9_share_129 (by decide) ⟨by omega, by omega⟩ (fun c9 => ?_) (fun c9 => absurd c9 (by decide))
      refine gi_iconst dX9_share_145 ?_
      subst hQF9
      refine gg_iret dX9_share_146 rfl rfl ⟨(Nat.le_of_ble_eq_true rfl), (Nat.le_of_ble_eq_true rfl)⟩ ?_
      refine ⟨G2, B2, ?_, rfl, f9⟩
      congr 3
      unfold shV NOK; rw [hk]
      repeat' split
      all_goals first | rfl | omega
    refine gi_tabD (tgt := 147) dX9_share_42 hw (by omega) (by decide) ?_
    refine gg_aload_n dX9_share_147 rfl rfl ?_
    refine gk_getX9_30 rfl dX9_share_148 ?_
    refine gk_getX9_411 rfl dX9_share_151 e12 ?_
    subst hQF9
    refine gg_iret dX9_share_154 rfl rfl ⟨(Nat.le_of_ble_eq_true rfl), (Nat.le_of_ble_eq_true rfl)⟩ ?_
    refine ⟨G2, B2, ?_, rfl, f9⟩
    congr 3
    unfold shV NOK; rw [hk]
    repeat' split
    all_goals first | rfl | omega
  · refine gi_iconst dX9_share_34 ?_
    refine gg_goto (tgt := 39) dX9_share_35 (by decide) ?_
    refine gg_istore dX9_share_39 (Nat.le_of_ble_eq_true rfl) rfl ?_
    refine gg_iload_n dX9_share_41 rfl ?_
    by_cases w_42_0 : w = 1
    · refine gi_tab (tgt := 80) dX9_share_42 hw (by omega) (by omega) (by rw [w_42_0]; rfl) (by decide) ?_
      refine gg_aload_n dX9_share_80 rfl rfl ?_
      refine gg_iload_n dX9_share_81 rfl ?_
      refine gc_X9_337 rfl dX9_share_82 ⟨(Nat.le_of_ble_eq_true rfl), (Nat.le_of_ble_eq_true rfl)⟩ ⟨(Nat.le_of_ble_eq_true rfl), (Nat.le_of_ble_eq_true rfl)⟩ (Nat.le_of_ble_eq_true rfl) (HAt.mu gst_30) (c_X9_fits hb9 ((f9.g (by omega)).trans g0) (k := k) kr (by rw [t9]; exact T9)) (fun _ _ w => w.elim) (fun r_82 h_82 hp => ?_)
      obtain ⟨rfl, rfl⟩ := hp
      refine gi_if_eq (tgt := 92) dX9_share_85 (by decide) (bi_r _) (fun c_85 => ?_) (fun c_85 => ?_)
      · rw [bi_f] at c_85
        rw [decide_eq_false_iff_not] at c_85
        refine gi_iconst dX9_share_92 ?_
        subst hQF9
        refine gg_iret dX9_share_93 rfl rfl ⟨(Nat.le_of_ble_eq_true rfl), (Nat.le_of_ble_eq_true rfl)⟩ ?_
        refine ⟨G2, B2, ?_, rfl, f9⟩
        rw [show shV (dtA a f n kd ft c9) (mkC a f n) (G (101 + 10 * b)) w = 0 by unfold shV; rw [hk, if_pos (by omega), ← t9, decide_eq_false c_85]; rfl]
      · rw [bi_t] at c_85
        rw [decide_eq_true_iff] at c_85
        refine gi_iconst dX9_share_88 ?_
        refine gg_goto (tgt := 93) dX9_share_89 (by decide) ?_
        subst hQF9
        refine gg_iret dX9_share_93 rfl rfl ⟨(Nat.le_of_ble_eq_true rfl), (Nat.le_of_ble_eq_true rfl)⟩ ?_
        refine ⟨G2, B2, ?_, rfl, f9⟩
        rw [show shV (dtA a f n kd ft c9) (mkC a f n) (G (101 + 10 * b)) w = 1 by unfold shV; rw [hk, if_pos (by omega), ← t9, decide_eq_true c_85]; rfl]
    by_cases w_42_1 : w = 2
    · refine gi_tab (tgt := 94) dX9_share_42 hw (by omega) (by omega) (by rw [w_42_1]; rfl) (by decide) ?_
      refine gg_iload dX9_share_94 rfl ?_
      refine gi_if_eq (tgt := 106) dX9_share_96 (by decide) ⟨by omega, by omega⟩ (fun c9 => absurd c9 (by decide)) (fun c9 => ?_)
      refine gg_iload_n dX9_share_99 rfl ?_
      refine gi_bipush dX9_share_100 (by decide) ?_
      refine gi_ishr _ (bt_shr ⟨by omega, by omega⟩ ⟨by omega, by omega⟩) dX9_share_102 ?_
      rw [show (2 : Int) ^ (16 : Int).toNat = 65536 from rfl]
      refine gg_goto (tgt := 107) dX9_share_103 (by decide) ?_
      subst hQF9
      refine gg_iret dX9_share_107 rfl rfl ⟨(Nat.le_of_ble_eq_true rfl), (Nat.le_of_ble_eq_true rfl)⟩ ?_
      refine ⟨G2, B2, ?_, rfl, f9⟩
      congr 3
      unfold shV NOK; rw [hk]
      repeat' split
      all_goals first | rfl | omega
    by_cases w_42_2 : w = 3
    · refine gi_tab (tgt := 108) dX9_share_42 hw (by omega) (by omega) (by rw [w_42_2]; rfl) (by decide) ?_
      refine gg_iload dX9_share_108 rfl ?_
      refine gi_if_eq (tgt := 117) dX9_share_110 (by decide) ⟨by omega, by omega⟩ (fun c9 => absurd c9 (by decide)) (fun c9 => ?_)
      refine gi_iconst dX9_share_113 ?_
      refine gg_goto (tgt := 118) dX9_share_114 (by decide) ?_
      subst hQF9
      refine gg_iret dX9_share_118 rfl rfl ⟨(Nat.le_of_ble_eq_true rfl), (Nat.le_of_ble_eq_true rfl)⟩ ?_
      refine ⟨G2, B2, ?_, rfl, f9⟩
      congr 3
      unfold shV NOK; rw [hk]
      repeat' split
      all_goals first | rfl | omega
    by_cases w_42_3 : w = 4
    · refine gi_tab (tgt := 147) dX9_share_42 hw (by omega) (by omega) (by rw [w_42_3]; rfl) (by decide) ?_
      refine gg_aload_n dX9_share_147 rfl rfl ?_
      refine gk_getX9_30 rfl dX9_share_148 ?_
      refine gk_getX9_411 rfl dX9_share_151 e12 ?_
      subst hQF9
      refine gg_iret dX9_share_154 rfl rfl ⟨(Nat.le_of_ble_eq_true rfl), (Nat.le_of_ble_eq_true rfl)⟩ ?_
      refine ⟨G2, B2, ?_, rfl, f9⟩
      congr 3
      unfold shV NOK; rw [hk]
      repeat' split
      all_goals first | rfl | omega
    by_cases w_42_4 : w = 5
    · refine gi_tab (tgt := 119) dX9_share_42 hw (by omega) (by omega) (by rw [w_42_4]; rfl) (by decide) ?_
      refine gg_aload_n dX9_share_119 rfl rfl ?_
      refine gk_getX9_30 rfl dX9_share_120 ?_
      refine gk_getX9_241 rfl dX9_share_123 e13 ?_
      subst hQF9
      refine gg_iret dX9_share_126 rfl rfl ⟨(Nat.le_of_ble_eq_true rfl), (Nat.le_of_ble_eq_true rfl)⟩ ?_
      refine ⟨G2, B2, ?_, rfl, f9⟩
      congr 3
      unfold shV NOK; rw [hk]
      repeat' split
      all_goals first | rfl | omega
    by_cases w_42_5 : w = 6
    · refine gi_tab (tgt := 127) dX9_share_42 hw (by omega) (by omega) (by rw [w_42_5]; rfl) (by decide) ?_
      refine gg_iload dX9_share_127 rfl ?_
      refine gi_if_eq (tgt := 145) dX9_share_129 (by decide) ⟨by omega, by omega⟩ (fun c9 => absurd c9 (by decide)) (fun c9 => ?_)
      refine gg_iload_n dX9_share_132 rfl ?_
      refine gi_iconst dX9_share_133 ?_
      refine gi_ishr _ (bt_shr ⟨by omega, by omega⟩ ⟨by omega, by omega⟩) dX9_share_134 ?_
      rw [show (2 : Int) ^ (1 : Int).toNat = 2 from rfl]
      refine gi_sipush dX9_share_135 (by decide) ?_
      refine gi_iand _ (an2047 (by omega)) dX9_share_138 ?_
      refine gc_X9_253 rfl dX9_share_139 ⟨(Nat.le_of_ble_eq_true rfl), (Nat.le_of_ble_eq_true rfl)⟩ ⟨(Nat.le_of_ble_eq_true rfl), (Nat.le_of_ble_eq_true rfl)⟩ (Nat.le_of_ble_eq_true rfl) (c_J6_bitCount_0f7a4 (z := k / 2 % 2048) ⟨by omega, by omega⟩) (fun _ _ w => w.elim) (fun r_139 h_139 hp => ?_)
      obtain ⟨rfl, rfl⟩ := hp
      refine gg_goto (tgt := 146) dX9_share_142 (by decide) ?_
      subst hQF9
      refine gg_iret dX9_share_146 rfl rfl ⟨(Nat.le_of_ble_eq_true rfl), (Nat.le_of_ble_eq_true rfl)⟩ ?_
      refine ⟨G2, B2, ?_, rfl, f9⟩
      congr 3
      unfold shV NOK; rw [hk]
      repeat' split
      all_goals first | rfl | omega
    refine gi_tabD (tgt := 147) dX9_share_42 hw (by omega) (by decide) ?_
    refine gg_aload_n dX9_share_147 rfl rfl ?_
    refine gk_getX9_30 rfl dX9_share_148 ?_
    refine gk_getX9_411 rfl dX9_share_151 e12 ?_
    subst hQF9
    refine gg_iret dX9_share_154 rfl rfl ⟨(Nat.le_of_ble_eq_true rfl), (Nat.le_of_ble_eq_true rfl)⟩ ?_
    refine ⟨G2, B2, ?_, rfl, f9⟩
    congr 3
    unfold shV NOK; rw [hk]
    repeat' split
    all_goals first | rfl | omega
