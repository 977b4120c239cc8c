/-! the scanner: numbers of a scan -/
theorem prW_i {D : DT} {i w st : Int} {x y : Bool} {f : Int → Int} {k : Int} (h : InR (f k)) : ∀ n : Nat, InR (prW D i w st x y f n k)
  | 0 => h
  | n + 1 => by
    rw [prW]
    split
    · exact prW_i h n
    · by_cases e : k = st + n
      · rw [e, up_s]; have := spE_r D i (st + n) (mkW D w n x); exact ⟨by omega, by omega⟩
      · rw [up_n e]; exact prW_i h n
theorem pzP_i {D : DT} {i z : Int} {f : Int → Int} {k : Int} (h : InR (f k)) : ∀ w : Nat, InR (pzP D i z f w k)
  | 0 => h
  | w + 1 => by rw [pzP]; exact prW_i (pzP_i h w) _
/-- a number of the scan k -/
def nsV (D : DT) (g : Int → Int) (k w : Int) : Int :=
  if w = 0 then k / 65536 else if w = 1 then k / 2 % 2048 else if w = 2 then k % 2 else if w = 3 then smS (dS D) (dL D).toNat - btc (k / 2 % 2048) 12
  else if w = 4 then fdf (pzP D (k % 2) (k / 2 % 2048) (fillF g 0 19) (dL D).toNat) (szk (dK D)) (dP D).toNat else wnD (pzP D (k % 2) (k / 2 % 2048) (fillF g 0 19) (dL D).toNat) 19
set_option maxRecDepth 100000 in
set_option maxHeartbeats 4000000 in
theorem c_X9_numberOfScan {Γ : GT} {h : XH} {G : Nat → Int} {B : Nat → Int → Int} {b : Nat} (hb9 : b ≤ 9) (g0 : G 0 = (b : Int)) {mq : Nat} {D : DT} (hmq : G (100 + 10 * b) = (mq : Int)) (M1 : MtAt h.2 mq (dK D) (dF D) (dZ D)) (R : RdD G B D) (e7 : G 7 = smS (dS D) (dL D).toNat) {k w : Int} (hk : 0 ≤ k ∧ k ≤ NOK) (hw : InR w) (hpr : 0 ≤ prE D (k % 2) (k / 2 % 2048)) : Ct Γ M_X9_numberOfScan [.ref (g_L Γ 30), .int (iN k), .int (iN w)] (gst Γ h G B) (fun r h9 => ∃ (G' : Nat → Int) (B' : Nat → Int → Int), r = some (.int (iN (nsV D (B 61) k w))) ∧ h9 = gst Γ h G' B' ∧ frF [16, 17] G G' ∧ frA [61] B B') (fun _ _ => False) := by
  refine Ct.of rfl (by decide +kernel) (Nat.le_of_ble_eq_true rfl) ?_
  generalize hQF9 : QM Γ _ _ _ = QF9
  unfold NOK at hk
  refine gg_iload_n dX9_numberOfScan_0 rfl ?_
  refine gi_iconst dX9_numberOfScan_1 ?_
  refine gi_ishr _ (bt_shr ⟨by omega, by omega⟩ ⟨by omega, by omega⟩) dX9_numberOfScan_2 ?_
  rw [show (2 : Int) ^ (1 : Int).toNat = 2 from rfl]
  refine gi_sipush dX9_numberOfScan_3 (by decide) ?_
  refine gi_iand _ (an2047 (by omega)) dX9_numberOfScan_6 ?_
  refine gg_istore_n dX9_numberOfScan_7 (Nat.le_of_ble_eq_true rfl) rfl ?_
  have L_20 : GG Γ M_X9_numberOfScan QF9 (0, 0) (gst Γ h G B) 20 [some (.ref (g_L Γ 30)), some (.int (iN k)), some (.int (iN w)), some (.int (iN (k / 2 % 2048))), none] [.int (iN (k % 2))] := by
    refine gg_istore dX9_numberOfScan_20 (Nat.le_of_ble_eq_true rfl) rfl ?_
    refine gg_iload_n dX9_numberOfScan_22 rfl ?_
    by_cases w_23_0 : w = 0
    · refine gi_tab (tgt := 56) dX9_numberOfScan_23 hw (by omega) (by omega) (by rw [w_23_0]; rfl) (by decide) ?_
      refine gg_iload_n dX9_numberOfScan_56 rfl ?_
      refine gi_bipush dX9_numberOfScan_57 (by decide) ?_
      refine gi_ishr _ (bt_shr ⟨by omega, by omega⟩ ⟨by omega, by omega⟩) dX9_numberOfScan_59 ?_
      rw [show (2 : Int) ^ (16 : Int).toNat = 65536 from rfl]
      subst hQF9
      refine gg_iret dX9_numberOfScan_60 rfl rfl ⟨(Nat.le_of_ble_eq_true rfl), (Nat.le_of_ble_eq_true rfl)⟩ ?_
      refine ⟨G, B, ?_, rfl, fun _ _ => rfl, fun _ _ => rfl⟩
      congr 3
      unfold nsV
      repeat' split
      all_goals first | rfl | omega
    by_cases w_23_1 : w = 1
    · refine gi_tab (tgt := 61) dX9_numberOfScan_23 hw (by omega) (by omega) (by rw [w_23_1]; rfl) (by decide) ?_
      refine gg_iload_n dX9_numberOfScan_61 rfl ?_
      subst hQF9
      refine gg_iret dX9_numberOfScan_62 rfl rfl ⟨(Nat.le_of_ble_eq_true rfl), (Nat.le_of_ble_eq_true rfl)⟩ ?_
      refine ⟨G, B, ?_, rfl, fun _ _ => rfl, fun _ _ => rfl⟩
      congr 3
      unfold nsV
      repeat' split
      all_goals first | rfl | omega
    by_cases w_23_2 : w = 2
    · refine gi_tab (tgt := 63) dX9_numberOfScan_23 hw (by omega) (by omega) (by rw [w_23_2]; rfl) (by decide) ?_
      refine gg_iload_n dX9_numberOfScan_63 rfl ?_
      refine gi_iconst dX9_numberOfScan_64 ?_
      refine gi_iand _ (bt_a1 (by omega)) dX9_numberOfScan_65 ?_
      subst hQF9
      refine gg_iret dX9_numberOfScan_66 rfl rfl ⟨(Nat.le_of_ble_eq_true rfl), (Nat.le_of_ble_eq_true rfl)⟩ ?_
      refine ⟨G, B, ?_, rfl, fun _ _ => rfl, fun _ _ => rfl⟩
      congr 3
      unfold nsV
      repeat' split
      all_goals first | rfl | omega
    by_cases w_23_3 : w = 3
    · refine gi_tab (tgt := 67) dX9_numberOfScan_23 hw (by omega) (by omega) (by rw [w_23_3]; rfl) (by decide) ?_
      refine gg_aload_n dX9_numberOfScan_67 rfl rfl ?_
      refine gk_getX9_30 rfl dX9_numberOfScan_68 ?_
      refine gk_getX9_241 rfl dX9_numberOfScan_71 e7 ?_
      refine gg_iload_n dX9_numberOfScan_74 rfl ?_
      refine gc_X9_253 rfl dX9_numberOfScan_75 ⟨(Nat.le_of_ble_eq_true rfl), (Nat.le_of_ble_eq_true rfl)⟩ ⟨(Nat.le_of_ble_eq_true rfl), (Nat.le_of_ble_eq_true rfl)⟩ (Nat.le_of_ble_eq_true rfl) (c_J6_bitCount_0f7a4 (z := k / 2 % 2048) ⟨by omega, by omega⟩) (fun _ _ w => w.elim) (fun r_75 h_75 hp => ?_)
      obtain ⟨rfl, rfl⟩ := hp
      refine gi_isub dX9_numberOfScan_78 ?_
      subst hQF9
      refine gg_iret dX9_numberOfScan_79 rfl rfl ⟨(Nat.le_of_ble_eq_true rfl), (Nat.le_of_ble_eq_true rfl)⟩ ?_
      refine ⟨G, B, ?_, rfl, fun _ _ => rfl, fun _ _ => rfl⟩
      congr 3
      unfold nsV
      repeat' split
      all_goals first | rfl | omega
    by_cases w_23_4 : w = 4
    · refine gi_tab (tgt := 80) dX9_numberOfScan_23 hw (by omega) (by omega) (by rw [w_23_4]; rfl) (by decide) ?_
      refine gg_aload_n dX9_numberOfScan_80 rfl rfl ?_
      refine gk_getX9_39 rfl dX9_numberOfScan_81 ?_
      refine gg_aload_n dX9_numberOfScan_84 rfl rfl ?_
      refine gk_getX9_65 rfl dX9_numberOfScan_85 g0 ?_
      refine gk_getX9_109 hb9 rfl dX9_numberOfScan_88 hmq ?_
      refine gg_iload_n dX9_numberOfScan_91 rfl ?_
      refine gg_iload dX9_numberOfScan_92 rfl ?_
      refine gc_X9_316 rfl dX9_numberOfScan_94 ⟨(Nat.le_of_ble_eq_true rfl), (Nat.le_of_ble_eq_true rfl)⟩ ⟨(Nat.le_of_ble_eq_true rfl), (Nat.le_of_ble_eq_true rfl)⟩ (Nat.le_of_ble_eq_true rfl) (HAt.mu gst_60) (c_X6_priceOf (D := D) M1 R (z := k / 2 % 2048) (i := k % 2) ⟨by omega, by omega⟩ (by omega)) (fun _ _ w => w.elim) (fun r_94 h_94 hp => ?_)
      obtain ⟨B1, rfl, rfl, fA, hpz⟩ := hp
      have ep := hpz hpr
      have PR : ∀ j, 0 ≤ j → j < 19 → InR (B1 61 j) := fun j j0 j1 => by rw [ep]; exact pzP_i (by rw [fillF_in ⟨j0, j1⟩]; exact ⟨by omega, by omega⟩) _
      have fG : frF [16, 17] G (uF (uF G 16 (mq : Int)) 17 (plN (fun p => strK (dK D) p (k % 2)) (dF D * szk (dK D)).toNat : Nat)) := frF_u (frF_u (fun _ _ => rfl) (by decide)) (by decide)
      refine gg_pop dX9_numberOfScan_97 rfl ?_
      refine gg_aload_n dX9_numberOfScan_98 rfl rfl ?_
      refine gk_getX9_39 rfl dX9_numberOfScan_99 ?_
      refine gc_X9_401 rfl dX9_numberOfScan_102 ⟨(Nat.le_of_ble_eq_true rfl), (Nat.le_of_ble_eq_true rfl)⟩ ⟨(Nat.le_of_ble_eq_true rfl), (Nat.le_of_ble_eq_true rfl)⟩ (Nat.le_of_ble_eq_true rfl) (HAt.mu gst_60) (c_X6_firstDearFoot (D := D) (i := k % 2) ⟨mq, by rw [uF_n (by decide), uF_s], M1, by omega, uF_s⟩ PR) (fun _ _ w => w.elim) (fun r_102 h_102 hp => ?_)
      obtain ⟨rfl, rfl⟩ := hp
      subst hQF9
      refine gg_iret dX9_numberOfScan_105 rfl rfl ⟨(Nat.le_of_ble_eq_true rfl), (Nat.le_of_ble_eq_true rfl)⟩ ?_
      refine ⟨_, B1, ?_, rfl, fG, fA⟩
      rw [ep]
      congr 3
      unfold nsV
      repeat' split
      all_goals first | rfl | omega
    refine gi_tabD (tgt := 106) dX9_numberOfScan_23 hw (by omega) (by decide) ?_
    refine gg_aload_n dX9_numberOfScan_106 rfl rfl ?_
    refine gk_getX9_39 rfl dX9_numberOfScan_107 ?_
    refine gg_aload_n dX9_numberOfScan_110 rfl rfl ?_
    refine gk_getX9_65 rfl dX9_numberOfScan_111 g0 ?_
    refine gk_getX9_109 hb9 rfl dX9_numberOfScan_114 hmq ?_
    refine gg_iload_n dX9_numberOfScan_117 rfl ?_
    refine gg_iload dX9_numberOfScan_118 rfl ?_
    refine gc_X9_316 rfl dX9_numberOfScan_120 ⟨(Nat.le_of_ble_eq_true rfl), (Nat.le_of_ble_eq_true rfl)⟩ ⟨(Nat.le_of_ble_eq_true rfl), (Nat.le_of_ble_eq_true rfl)⟩ (Nat.le_of_ble_eq_true rfl) (HAt.mu gst_60) (c_X6_priceOf (D := D) M1 R (z := k / 2 % 2048) (i := k % 2) ⟨by omega, by omega⟩ (by omega)) (fun _ _ w => w.elim) (fun r_120 h_120 hp => ?_)
    obtain ⟨B1, rfl, rfl, fA, hpz⟩ := hp
    have ep := hpz hpr
    have PR : ∀ j, 0 ≤ j → j < 19 → InR (B1 61 j) := fun j j0 j1 => by rw [ep]; exact pzP_i (by rw [fillF_in ⟨j0, j1⟩]; exact ⟨by omega, by omega⟩) _
    have fG : frF [16, 17] G (uF (uF G 16 (mq : Int)) 17 (plN (fun p => strK (dK D) p (k % 2)) (dF D * szk (dK D)).toNat : Nat)) := frF_u (frF_u (fun _ _ => rfl) (by decide)) (by decide)
    refine gg_pop dX9_numberOfScan_123 rfl ?_
    refine gg_aload_n dX9_numberOfScan_124 rfl rfl ?_
    refine gk_getX9_39 rfl dX9_numberOfScan_125 ?_
    refine gc_X9_404 rfl dX9_numberOfScan_128 ⟨(Nat.le_of_ble_eq_true rfl), (Nat.le_of_ble_eq_true rfl)⟩ ⟨(Nat.le_of_ble_eq_true rfl), (Nat.le_of_ble_eq_true rfl)⟩ (Nat.le_of_ble_eq_true rfl) (HAt.mu gst_60) (c_X6_dearSyllables PR) (fun _ _ w => w.elim) (fun r_128 h_128 hp => ?_)
    obtain ⟨rfl, rfl⟩ := hp
    subst hQF9
    refine gg_iret dX9_numberOfScan_131 rfl rfl ⟨(Nat.le_of_ble_eq_true rfl), (Nat.le_of_ble_eq_true rfl)⟩ ?_
    refine ⟨_, B1, ?_, rfl, fG, fA⟩
    rw [ep]
    congr 3
    unfold nsV
    repeat' split
    all_goals first | rfl | omega
  refine gg_iload_n dX9_numberOfScan_8 rfl ?_
  refine gi_iconst dX9_numberOfScan_9 ?_
  refine gi_iand _ (bt_a1 (by omega)) dX9_numberOfScan_10 ?_
  refine gi_iconst dX9_numberOfScan_11 ?_
  refine gi_icmp_ne (tgt := 19) dX9_numberOfScan_12 (by decide) ⟨by omega, by omega⟩ ⟨by omega, by omega⟩ (fun c_12 => ?_) (fun c_12 => ?_)
  · refine gi_iconst dX9_numberOfScan_19 ?_
    refine gg_drop 4 ?_
    exact gg_conv L_20 rfl rfl (by rw [show k % 2 = 0 by omega])
  · refine gi_iconst dX9_numberOfScan_15 ?_
    refine gg_goto (tgt := 20) dX9_numberOfScan_16 (by decide) ?_
    refine gg_drop 4 ?_
    exact gg_conv L_20 rfl rfl (by rw [show k % 2 = 1 by omega])
