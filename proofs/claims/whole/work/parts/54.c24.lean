/-! the scanner: small things -/
def bcE (x : Int32) : Int32 :=
  let u := fun (a b : Int32) => (a.toUInt32 >>> (b.toUInt32 &&& Int32.toUInt32 31)).toInt32
  let a := x - (u x 1 &&& 1431655765)
  let b := (a &&& 858993459) + (u a 2 &&& 858993459)
  let c := (b + u b 4) &&& 252645135
  let d := c + u c 8
  let e := d + u d 16
  e &&& 63
theorem bcE_t : ∀ (a b : Fin 64), bcE (iN ((a.val * 64 + b.val : Nat) : Int)) = iN (btc ((a.val * 64 + b.val : Nat) : Int) 12) := by decide +kernel
theorem gi_ldcw {Γ : GT} {M : MT} {QF : List Frame → Array Value → State → State → Prop} {cs : Nat × Nat} {h : XH} {pc : Nat} {lv : List (Option Value)} {st : List Value} {own : String} {index : Nat} {v : Int32} {z : Int} (hv : v = iN z) (hc : Cond.constant own index v ∈ WA) (hM : M.1.cls = own) (hd : decode M.2.1 pc = .ok (.ldc_w index, 3)) (k : GG Γ M QF cs h (pc + 3) lv (.int (iN z) :: st)) : GG Γ M QF cs h pc lv st := by
  subst hv
  exact gg_ldcw (by rw [hM]; exact hc) hd k
set_option maxRecDepth 100000 in
set_option maxHeartbeats 4000000 in
theorem c_J6_bitCount_0f7a4 {Γ : GT} {h : XH} {z : Int} (hz : 0 ≤ z ∧ z ≤ 4095) : Ct Γ M_J6_bitCount_0f7a4 [.int (iN z)] (h) (fun r h9 => r = some (.int (iN (btc z 12))) ∧ h9 = h) (fun _ _ => False) := by
  refine Ct.of rfl (by decide +kernel) (Nat.le_of_ble_eq_true rfl) ?_
  generalize hQF9 : QM Γ _ _ _ = QF9
  refine gg_iload_n dJ6_bitCount_0f7a4_0 rfl ?_
  refine gg_iload_n dJ6_bitCount_0f7a4_1 rfl ?_
  refine gg_iconst dJ6_bitCount_0f7a4_2 rfl ?_
  refine gg_iushr dJ6_bitCount_0f7a4_3 rfl ?_
  refine gi_ldcw (z := 1431655765) (by decide) (wi_33 _ (List.mem_of_getElem? (i := 22) rfl)) rfl dJ6_bitCount_0f7a4_4 ?_
  refine gg_iand dJ6_bitCount_0f7a4_7 ?_
  refine gg_isub dJ6_bitCount_0f7a4_8 ?_
  refine gg_istore_n dJ6_bitCount_0f7a4_9 (Nat.le_of_ble_eq_true rfl) rfl ?_
  refine gg_iload_n dJ6_bitCount_0f7a4_10 rfl ?_
  refine gi_ldcw (z := 858993459) (by decide) (wi_33 _ (List.mem_of_getElem? (i := 23) rfl)) rfl dJ6_bitCount_0f7a4_11 ?_
  refine gg_iand dJ6_bitCount_0f7a4_14 ?_
  refine gg_iload_n dJ6_bitCount_0f7a4_15 rfl ?_
  refine gg_iconst dJ6_bitCount_0f7a4_16 rfl ?_
  refine gg_iushr dJ6_bitCount_0f7a4_17 rfl ?_
  refine gi_ldcw (z := 858993459) (by decide) (wi_33 _ (List.mem_of_getElem? (i := 23) rfl)) rfl dJ6_bitCount_0f7a4_18 ?_
  refine gg_iand dJ6_bitCount_0f7a4_21 ?_
  refine gg_iadd dJ6_bitCount_0f7a4_22 ?_
  refine gg_istore_n dJ6_bitCount_0f7a4_23 (Nat.le_of_ble_eq_true rfl) rfl ?_
  refine gg_iload_n dJ6_bitCount_0f7a4_24 rfl ?_
  refine gg_iload_n dJ6_bitCount_0f7a4_25 rfl ?_
  refine gg_iconst dJ6_bitCount_0f7a4_26 rfl ?_
  refine gg_iushr dJ6_bitCount_0f7a4_27 rfl ?_
  refine gg_iadd dJ6_bitCount_0f7a4_28 ?_
  refine gi_ldcw (z := 252645135) (by decide) (wi_34 _ (List.mem_of_getElem? (i := 0) rfl)) rfl dJ6_bitCount_0f7a4_29 ?_
  refine gg_iand dJ6_bitCount_0f7a4_32 ?_
  refine gg_istore_n dJ6_bitCount_0f7a4_33 (Nat.le_of_ble_eq_true rfl) rfl ?_
  refine gg_iload_n dJ6_bitCount_0f7a4_34 rfl ?_
  refine gg_iload_n dJ6_bitCount_0f7a4_35 rfl ?_
  refine gg_bipush dJ6_bitCount_0f7a4_36 rfl ?_
  refine gg_iushr dJ6_bitCount_0f7a4_38 rfl ?_
  refine gg_iadd dJ6_bitCount_0f7a4_39 ?_
  refine gg_istore_n dJ6_bitCount_0f7a4_40 (Nat.le_of_ble_eq_true rfl) rfl ?_
  refine gg_iload_n dJ6_bitCount_0f7a4_41 rfl ?_
  refine gg_iload_n dJ6_bitCount_0f7a4_42 rfl ?_
  refine gg_bipush dJ6_bitCount_0f7a4_43 rfl ?_
  refine gg_iushr dJ6_bitCount_0f7a4_45 rfl ?_
  refine gg_iadd dJ6_bitCount_0f7a4_46 ?_
  refine gg_istore_n dJ6_bitCount_0f7a4_47 (Nat.le_of_ble_eq_true rfl) rfl ?_
  refine gg_iload_n dJ6_bitCount_0f7a4_48 rfl ?_
  refine gg_bipush dJ6_bitCount_0f7a4_49 rfl ?_
  refine gg_iand dJ6_bitCount_0f7a4_51 ?_
  subst hQF9
  refine gg_iret dJ6_bitCount_0f7a4_52 rfl rfl ⟨(Nat.le_of_ble_eq_true rfl), (Nat.le_of_ble_eq_true rfl)⟩ ?_
  obtain ⟨n, rfl⟩ := Int.eq_ofNat_of_zero_le hz.1
  refine ⟨?_, rfl⟩
  have e9 := bcE_t ⟨n / 64, by omega⟩ ⟨n % 64, by omega⟩
  dsimp only at e9
  rw [show n / 64 * 64 + n % 64 = n by omega] at e9
  rw [← e9]
  rfl
set_option maxRecDepth 100000 in
set_option maxHeartbeats 4000000 in
theorem c_X9_fits {Γ : GT} {h : XH} {G : Nat → Int} {B : Nat → Int → Int} {b : Nat} (hb9 : b ≤ 9) (g0 : G 0 = (b : Int)) {k : Int} (hk : 0 ≤ k ∧ k ≤ NOK) (ht : InR (G (101 + 10 * b))) : Ct Γ M_X9_fits [.ref (g_L Γ 30), .int (iN k)] (gst Γ h G B) (fun r h9 => r = some (.int (iN (bi (decide (k ≠ NOK ∧ k / 65536 ≤ G (101 + 10 * b)))))) ∧ h9 = gst Γ h G B) (fun _ _ => False) := by
  refine Ct.of rfl (by decide +kernel) (Nat.le_of_ble_eq_true rfl) ?_
  generalize hQF9 : QM Γ _ _ _ = QF9
  unfold NOK at hk
  refine gg_iload_n dX9_fits_0 rfl ?_
  refine gi_ldcw (z := 1073741824) (by decide) (wi_44 _ (List.mem_of_getElem? (i := 14) rfl)) rfl dX9_fits_1 ?_
  refine gi_icmp_eq (tgt := 25) dX9_fits_4 (by decide) ⟨by omega, by omega⟩ ⟨by omega, by omega⟩ (fun c_4 => ?_) (fun c_4 => ?_)
  · refine gi_iconst dX9_fits_25 ?_
    subst hQF9
    refine gg_iret dX9_fits_26 rfl (nar_bool (by omega)) ⟨(Nat.le_of_ble_eq_true rfl), (Nat.le_of_ble_eq_true rfl)⟩ ?_
    unfold NOK
    exact ⟨by rw [decide_eq_false (fun z => z.1 c_4)]; rfl, rfl⟩
  · refine gg_iload_n dX9_fits_7 rfl ?_
    refine gi_bipush dX9_fits_8 (by decide) ?_
    refine gi_ishr _ (bt_shr ⟨by omega, by omega⟩ ⟨by omega, by omega⟩) dX9_fits_10 ?_
    rw [show (2 : Int) ^ (16 : Int).toNat = 65536 from rfl]
    refine gg_aload_n dX9_fits_11 rfl rfl ?_
    refine gk_getX9_65 rfl dX9_fits_12 g0 ?_
    refine gk_getX9_138 hb9 rfl dX9_fits_15 (by (try simp only [uF_s, uF_n, ne_eq, not_false_eq_true, Nat.reduceEqDiff, reduceCtorEq]); rfl) ?_
    refine gi_icmp_gt (tgt := 25) dX9_fits_18 (by decide) ⟨by omega, by omega⟩ ht (fun c_18 => ?_) (fun c_18 => ?_)
    · refine gi_iconst dX9_fits_25 ?_
      subst hQF9
      refine gg_iret dX9_fits_26 rfl (nar_bool (by omega)) ⟨(Nat.le_of_ble_eq_true rfl), (Nat.le_of_ble_eq_true rfl)⟩ ?_
      unfold NOK
      exact ⟨by rw [decide_eq_false (fun z => by have := z.2; omega)]; rfl, rfl⟩
    · refine gi_iconst dX9_fits_21 ?_
      refine gg_goto (tgt := 26) dX9_fits_22 (by decide) ?_
      subst hQF9
      refine gg_iret dX9_fits_26 rfl (nar_bool (by omega)) ⟨(Nat.le_of_ble_eq_true rfl), (Nat.le_of_ble_eq_true rfl)⟩ ?_
      unfold NOK
      exact ⟨by rw [decide_eq_true ⟨c_4, by omega⟩]; rfl, rfl⟩
set_option maxRecDepth 100000 in
set_option maxHeartbeats 4000000 in
theorem c_X9_draftAt {Γ : GT} {h : XH} {G : Nat → Int} {B : Nat → Int → Int} {b : Nat} (hb9 : b ≤ 9) (g0 : G 0 = (b : Int)) {i : Int} (hi : InR i) : Ct Γ M_X9_draftAt [.ref (g_L Γ 30), .int (iN i)] (gst Γ h G B) (fun r h9 => (0 ≤ i ∧ i ≤ 3) ∧ r = some (.ref (g_L Γ (102 + 11 * b + i.toNat))) ∧ h9 = gst Γ h G B) (fun E h9 => ¬ (0 ≤ i ∧ i ≤ 3) ∧ E = "java/lang/IndexOutOfBoundsException" ∧ h9 = gst Γ h G B) := by
  refine Ct.of rfl (by decide +kernel) (Nat.le_of_ble_eq_true rfl) ?_
  generalize hQF9 : QM Γ _ _ _ = QF9
  refine gg_iload_n dX9_draftAt_0 rfl ?_
  refine gi_if_lt (tgt := 9) dX9_draftAt_1 (by decide) hi (fun c_1 => ?_) (fun c_1 => ?_)
  · subst hQF9
    refine gg_throwW (text := "no such draft") thr_3 rfl (by decide) dX9_draftAt_9 dX9_draftAt_12 dX9_draftAt_13 dX9_draftAt_16 dX9_draftAt_19 rfl ⟨(Nat.le_of_ble_eq_true rfl), (Nat.le_of_ble_eq_true rfl)⟩ ⟨(Nat.le_of_ble_eq_true rfl), (Nat.le_of_ble_eq_true rfl)⟩ ?_
    exact ⟨by omega, rfl, rfl⟩
  · refine gg_iload_n dX9_draftAt_4 rfl ?_
    refine gi_iconst dX9_draftAt_5 ?_
    refine gi_icmp_lt (tgt := 20) dX9_draftAt_6 (by decide) hi ⟨by omega, by omega⟩ (fun c_6 => ?_) (fun c_6 => ?_)
    · refine gg_aload_n dX9_draftAt_20 rfl rfl ?_
      refine gk_getX9_65 rfl dX9_draftAt_21 g0 ?_
      refine gk_getX9_387 hb9 rfl dX9_draftAt_24 ?_
      refine gg_iload_n dX9_draftAt_27 rfl ?_
      refine gk_aldD hb9 (d := i.toNat) (by omega) (by omega) dX9_draftAt_28 ?_
      subst hQF9
      refine gg_aret dX9_draftAt_29 rfl rfl rfl ⟨(Nat.le_of_ble_eq_true rfl), (Nat.le_of_ble_eq_true rfl)⟩ ?_
      exact ⟨⟨by omega, by omega⟩, rfl, rfl⟩
    · subst hQF9
      refine gg_throwW (text := "no such draft") thr_3 rfl (by decide) dX9_draftAt_9 dX9_draftAt_12 dX9_draftAt_13 dX9_draftAt_16 dX9_draftAt_19 rfl ⟨(Nat.le_of_ble_eq_true rfl), (Nat.le_of_ble_eq_true rfl)⟩ ⟨(Nat.le_of_ble_eq_true rfl), (Nat.le_of_ble_eq_true rfl)⟩ ?_
      exact ⟨by omega, rfl, rfl⟩
set_option maxRecDepth 100000 in
set_option maxHeartbeats 4000000 in
theorem c_X9_lineAt {Γ : GT} {h : XH} {G : Nat → Int} {B : Nat → Int → Int} {b : Nat} (hb9 : b ≤ 9) (g0 : G 0 = (b : Int)) (hc : ∀ d : Nat, d ≤ 3 → 0 ≤ G (103 + 10 * b + d) ∧ G (103 + 10 * b + d) ≤ 10) (hl9 : ∀ (d : Nat) (l : Int), d ≤ 3 → 0 ≤ l → l < G (103 + 10 * b + d) → 0 ≤ B (106 + 11 * b + d) l) {i l : Int} (hi : InR i) (hl : InR l) : Ct Γ M_X9_lineAt [.ref (g_L Γ 30), .int (iN i), .int (iN l)] (gst Γ h G B) (fun r h9 => ((0 ≤ i ∧ i ≤ 3) ∧ 0 ≤ l ∧ l < G (103 + 10 * b + i.toNat)) ∧ r = some (.ref (B (106 + 11 * b + i.toNat) l).toNat) ∧ h9 = gst Γ h G B) (fun E h9 => ¬ ((0 ≤ i ∧ i ≤ 3) ∧ 0 ≤ l ∧ l < G (103 + 10 * b + i.toNat)) ∧ E = "java/lang/IndexOutOfBoundsException" ∧ h9 = gst Γ h G B) := by
  refine Ct.of rfl (by decide +kernel) (Nat.le_of_ble_eq_true rfl) ?_
  generalize hQF9 : QM Γ _ _ _ = QF9
  refine gg_aload_n dX9_lineAt_0 rfl rfl ?_
  refine gg_iload_n dX9_lineAt_1 rfl ?_
  refine gc_X9_182 rfl dX9_lineAt_2 ⟨(Nat.le_of_ble_eq_true rfl), (Nat.le_of_ble_eq_true rfl)⟩ ⟨(Nat.le_of_ble_eq_true rfl), (Nat.le_of_ble_eq_true rfl)⟩ (Nat.le_of_ble_eq_true rfl) (HAt.mu gst_30) (c_X9_draftAt hb9 g0 hi) (fun E h8 hx => by subst hQF9; exact gx_out rfl ⟨(Nat.le_of_ble_eq_true rfl), (Nat.le_of_ble_eq_true rfl)⟩ (by obtain ⟨h1, h2, h3⟩ := hx; exact ⟨fun z => h1 z.1, h2, h3⟩)) (fun r_2 h_2 hp => ?_)
  obtain ⟨hi2, rfl, rfl⟩ := hp
  have hd9 : i.toNat ≤ 3 := by omega
  have hcn := hc i.toNat hd9
  refine gg_iload_n dX9_lineAt_5 rfl ?_
  refine gc_X9_391 rfl dX9_lineAt_6 ⟨(Nat.le_of_ble_eq_true rfl), (Nat.le_of_ble_eq_true rfl)⟩ ⟨(Nat.le_of_ble_eq_true rfl), (Nat.le_of_ble_eq_true rfl)⟩ (Nat.le_of_ble_eq_true rfl) (HAt.mu (gst_dr hb9 hd9)) (c_X0_lineOf hb9 hd9 hcn hl) (fun _ _ w => w.elim) (fun r_6 h_6 hp => ?_)
  obtain ⟨rfl, rfl⟩ := hp
  by_cases hq : 0 ≤ l ∧ l < G (103 + 10 * b + i.toNat)
  · have hv9 := hl9 i.toNat l hd9 hq.1 hq.2
    rw [if_pos hq, show rfo (B (106 + 11 * b + i.toNat) l) = some (B (106 + 11 * b + i.toNat) l).toNat by unfold rfo; rw [if_neg (by omega)]]
    refine gg_astore_n dX9_lineAt_9 rfl (Nat.le_of_ble_eq_true rfl) rfl ?_
    refine gg_aload_n dX9_lineAt_10 rfl rfl ?_
    refine gg_ifnonnull (tgt := 25) dX9_lineAt_11 (by decide) rfl (fun a_11 c_11 => ?_) (fun c_11 => ?_)
    · refine gg_aload_n dX9_lineAt_25 rfl rfl ?_
      subst hQF9
      refine gg_aret dX9_lineAt_26 rfl rfl rfl ⟨(Nat.le_of_ble_eq_true rfl), (Nat.le_of_ble_eq_true rfl)⟩ ?_
      exact ⟨⟨hi2, hq⟩, rfl, rfl⟩
    · cases c_11
  · rw [if_neg hq]
    refine gg_astore_n dX9_lineAt_9 rfl (Nat.le_of_ble_eq_true rfl) rfl ?_
    refine gg_aload_n dX9_lineAt_10 rfl rfl ?_
    refine gg_ifnonnull (tgt := 25) dX9_lineAt_11 (by decide) rfl (fun a_11 c_11 => ?_) (fun c_11 => ?_)
    · cases c_11
    · subst hQF9
      refine gg_throwW (text := "no such line") thr_3 rfl (by decide) dX9_lineAt_14 dX9_lineAt_17 dX9_lineAt_18 dX9_lineAt_21 dX9_lineAt_24 rfl ⟨(Nat.le_of_ble_eq_true rfl), (Nat.le_of_ble_eq_true rfl)⟩ ⟨(Nat.le_of_ble_eq_true rfl), (Nat.le_of_ble_eq_true rfl)⟩ ?_
      exact ⟨fun z => hq z.2, rfl, rfl⟩
/-- a line as it is read and a metre -/
def dtA (a f : Int → Int) (n kd ft c9 : Int) : DT := (pwL f n, sI a f n, mI a f n, eI f n, pwC f n, kd, ft, c9)
/-- what a search leaves -/
def srW (G G' : Nat → Int) (B B' : Nat → Int → Int) (D : DT) : Prop :=
  frF [6, 7, 8, 9, 10, 11, 12, 13, 14, 15, 16, 17, 18] G G' ∧ frA [51, 52, 61, 62, 63, 64, 65] B B' ∧ RdD G' B' D ∧ G' 7 = smS (dS D) (dL D).toNat ∧ G' 11 = (grd (dE D) (dS D) (dL D).toNat).1 ∧ G' 18 = (srch D).2 ∧ ∃ a b c d, IX G' a b c d
set_option maxRecDepth 100000 in
set_option maxHeartbeats 4000000 in
theorem c_X9_bestKey {Γ : GT} {h : XH} {G : Nat → Int} {B : Nat → Int → Int} {b : Nat} (hb9 : b ≤ 9) (g0 : G 0 = (b : Int)) {mq : Nat} {kd ft c9 : Int} (hm9 : G (100 + 10 * b) = (mq : Int)) (M1 : MtAt h.2 mq kd ft c9) {a : Int → Int} (X9 : ExM h.2 G B b a) (I9 : ∃ a b c d, IX G a b c d) {q1 : Nat} {f : Int → Int} {n : Int} (L1 : LnO h.2 q1 f n) : Ct Γ M_X9_bestKey [.ref (g_L Γ 30), .ref q1] (gst Γ h G B) (fun r h9 => ∃ (G' : Nat → Int) (B' : Nat → Int → Int), r = some (.int (iN (srch (dtA a f n kd ft c9)).1)) ∧ h9 = gst Γ h G' B' ∧ srW G G' B B' (dtA a f n kd ft c9)) (fun _ _ => False) := by
  refine Ct.of rfl (by decide +kernel) (Nat.le_of_ble_eq_true rfl) ?_
  generalize hQF9 : QM Γ _ _ _ = QF9
  refine gg_aload_n dX9_bestKey_0 rfl rfl ?_
  refine gk_getX9_30 rfl dX9_bestKey_1 ?_
  refine gg_aload_n dX9_bestKey_4 rfl rfl ?_
  refine gg_aload_n dX9_bestKey_5 rfl rfl ?_
  refine gk_getX9_65 rfl dX9_bestKey_6 g0 ?_
  refine gc_X9_237 rfl dX9_bestKey_9 ⟨(Nat.le_of_ble_eq_true rfl), (Nat.le_of_ble_eq_true rfl)⟩ ⟨(Nat.le_of_ble_eq_true rfl), (Nat.le_of_ble_eq_true rfl)⟩ (Nat.le_of_ble_eq_true rfl) (HAt.mu gst_50) (c_X5_fill hb9 X9 L1) (fun _ _ w => w.elim) (fun r_9 h_9 hp => ?_)
  obtain ⟨G1, B1, rfl, rfl, fF, fA, R1, e7, e10, e11⟩ := hp
  refine gg_aload_n dX9_bestKey_12 rfl rfl ?_
  refine gk_getX9_39 rfl dX9_bestKey_13 ?_
  refine gg_aload_n dX9_bestKey_16 rfl rfl ?_
  refine gk_getX9_65 rfl dX9_bestKey_17 ((fF 0 (by decide)).trans g0) ?_
  refine gk_getX9_109 hb9 rfl dX9_bestKey_20 (Eq.trans (fF (100 + 10 * b) (by simp only [List.mem_cons, List.mem_nil_iff, or_false]; omega)) hm9) ?_
  refine gc_X9_397 rfl dX9_bestKey_23 ⟨(Nat.le_of_ble_eq_true rfl), (Nat.le_of_ble_eq_true rfl)⟩ ⟨(Nat.le_of_ble_eq_true rfl), (Nat.le_of_ble_eq_true rfl)⟩ (Nat.le_of_ble_eq_true rfl) (HAt.mu gst_60) (c_X6_search (D := dtA a f n kd ft c9) M1 R1 e7 e11 (by obtain ⟨a1, b1, c1, d1, ix⟩ := I9; exact ⟨a1, b1, c1, d1, by unfold IX at ix ⊢; rw [fF 12 (by decide), fF 13 (by decide), fF 14 (by decide), fF 15 (by decide)]; exact ix⟩)) (fun _ _ w => w.elim) (fun r_23 h_23 hp => ?_)
  obtain ⟨G2, B2, rfl, rfl, fF2, fA2, e18, I2⟩ := hp
  have hs9 : srW G G2 B B2 (dtA a f n kd ft c9) := by
    refine ⟨fun j hj => ?_, fun j hj => ?_, R1.fr (fF2 6 (by decide)) (fF2 8 (by decide)) (fF2 9 (by decide)) (fA2 51 (by decide)) (fA2 52 (by decide)), (fF2 7 (by decide)).trans e7, (fF2 11 (by decide)).trans e11, e18, I2⟩
    · rw [fF2 j (fun z => hj (by simp only [List.mem_cons, List.mem_nil_iff, or_false] at z ⊢; omega)), fF j (fun z => hj (by simp only [List.mem_cons, List.mem_nil_iff, or_false] at z ⊢; omega))]
    · rw [fA2 j (fun z => hj (by simp only [List.mem_cons, List.mem_nil_iff, or_false] at z ⊢; omega)), fA j (fun z => hj (by simp only [List.mem_cons, List.mem_nil_iff, or_false] at z ⊢; omega))]
  subst hQF9
  refine gg_iret dX9_bestKey_26 rfl rfl ⟨(Nat.le_of_ble_eq_true rfl), (Nat.le_of_ble_eq_true rfl)⟩ ?_
  exact ⟨G2, B2, rfl, rfl, hs9⟩
