/-! a line read: syllables, marks, places, commas -/
def smS (s : Int → Int) : Nat → Int
  | 0 => 0
  | k + 1 => smS s k + s k
def elE (e : Int → Bool) (s : Int → Int) (w : Int) (x : Bool) : Bool := e w && !(x && decide (s w = 1))
def grd (e : Int → Bool) (s : Int → Int) : Nat → Int × Bool
  | 0 => (0, false)
  | k + 1 => ((grd e s k).1 + bi (elE e s k (grd e s k).2), elE e s k (grd e s k).2)
theorem grd_r (e : Int → Bool) (s : Int → Int) : ∀ k : Nat, 0 ≤ (grd e s k).1 ∧ (grd e s k).1 ≤ k
  | 0 => by simp [grd]
  | k + 1 => by
    have ih := grd_r e s k
    have hb := bi_01 (elE e s k (grd e s k).2)
    rw [grd]; dsimp only; omega
theorem smS_r {s : Int → Int} {L : Nat} (hs : ∀ i : Int, 0 ≤ i → i < L → 1 ≤ s i ∧ s i ≤ 6) : ∀ k : Nat, k ≤ L → (k : Int) ≤ smS s k ∧ smS s k ≤ 6 * k
  | 0, _ => by simp [smS]
  | k + 1, hk => by
    have ih := smS_r hs k (by omega)
    have := hs k (by omega) (by omega)
    rw [smS]; omega
/-- what the class holds of the line that it has read -/
def RdG (G : Nat → Int) (B : Nat → Int → Int) (L : Int) (s : Int → Int) (mk : Int → Int → Int) (e c : Int → Bool) : Prop :=
  (1 ≤ L ∧ L ≤ 12) ∧ G 6 = L ∧ (∀ i, 0 ≤ i → i < L → (1 ≤ s i ∧ s i ≤ 6) ∧ B 51 i = s i ∧ ∀ k, 0 ≤ k → k < s i → B 52 (6 * i + k) = mk i k ∧ 0 ≤ mk i k ∧ mk i k ≤ 2) ∧ G 8 = (plN e L.toNat : Nat) ∧ G 9 = (plN c L.toNat : Nat) ∧ e (L - 1) = false
theorem RdG.fr {G G' : Nat → Int} {B B' : Nat → Int → Int} {L : Int} {s : Int → Int} {mk : Int → Int → Int} {e c : Int → Bool} (R : RdG G B L s mk e c) (h6 : G' 6 = G 6) (h8 : G' 8 = G 8) (h9 : G' 9 = G 9) (b1 : B' 51 = B 51) (b2 : B' 52 = B 52) : RdG G' B' L s mk e c := by
  unfold RdG at R ⊢; rw [h6, h8, h9, b1, b2]; exact R
theorem pl12 {e : Int → Bool} {L : Int} (h : L ≤ 12) : (plN e L.toNat : Int) < 4096 := by
  have h1 := plN_lt e L.toNat
  have h2 : 2 ^ L.toNat ≤ 4096 := Nat.le_trans (Nat.pow_le_pow_right (n := 2) (by omega) (show L.toNat ≤ 12 by omega)) (by decide)
  omega
theorem wN_6 (f : Int → Int) : ∀ k : Nat, 2 * wN f k ≤ k + 1 ∧ (vow (f ((k : Int) - 1)) = false → 2 * wN f k ≤ k)
  | 0 => by simp [wN]
  | k + 1 => by
    have ih := wN_6 f k
    rw [wN, show (((k + 1 : Nat) : Int) - 1) = (k : Int) by omega]
    by_cases q : wR f k = true
    · rw [if_pos q]
      unfold wR at q
      rw [Bool.and_eq_true, Bool.or_eq_true, decide_eq_true_iff, Bool.not_eq_true'] at q
      refine ⟨?_, fun z => by rw [z] at q; exact absurd q.1 (by decide)⟩
      rcases q.2 with q2 | q2
      · have : k = 0 := by omega
        subst this
        simp [wN]
      · have := ih.2 q2; omega
    · rw [if_neg q]
      exact ⟨by omega, fun z => by omega⟩
theorem wC_6 {f : Int → Int} {n : Int} (hn : 1 ≤ n ∧ n ≤ 12) : wC f n ≤ 6 := by
  have := (wN_6 f n.toNat).1
  unfold wC
  split
  · omega
  · split <;> omega
theorem SyM.s_6 {ι : Nat → Option XE} {o : Option Nat} {f : Int → Int} {n s : Int} {mk : Int → Int} (hn : 1 ≤ n ∧ n ≤ 12) (Y : SyM ι o f n s mk) : 1 ≤ s ∧ s ≤ 6 := by
  rcases Y with ⟨-, rfl, -⟩ | ⟨q, f', n', -, wq, aM, m9, -, -, h3, -⟩
  · exact ⟨(wC_r hn).1, wC_6 hn⟩
  · exact h3
set_option maxRecDepth 100000 in
set_option maxHeartbeats 4000000 in
theorem c_X5_countOf {Γ : GT} {h : XH} {G : Nat → Int} {B : Nat → Int → Int} {L : Int} {s : Int → Int} {mk : Int → Int → Int} {e c : Int → Bool} (R9 : RdG G B L s mk e c) {w : Int} (hw : 0 ≤ w ∧ w < L) : Ct Γ M_X5_countOf [.ref (g_L Γ 50), .int (iN w)] (gst Γ h G B) (fun r h9 => r = some (.int (iN (s w))) ∧ h9 = gst Γ h G B) (fun _ _ => False) := by
  refine Ct.of rfl (by decide +kernel) (Nat.le_of_ble_eq_true rfl) ?_
  generalize hQF9 : QM Γ _ _ _ = QF9
  obtain ⟨r1, r2, r3, r4, r5, r6⟩ := id R9
  have pe := pl12 (e := e) r1.2
  have pc9 := pl12 (e := c) r1.2
  refine gg_iload_n dX5_countOf_0 rfl ?_
  refine gi_if_lt (tgt := 19) dX5_countOf_1 (by decide) ⟨by omega, by omega⟩ (fun c_1 => ?_) (fun c_1 => ?_)
  · exact absurd c_1 (by omega)
  · refine gg_iload_n dX5_countOf_4 rfl ?_
    refine gi_bipush dX5_countOf_5 (by decide) ?_
    refine gi_icmp_ge (tgt := 19) dX5_countOf_7 (by decide) ⟨by omega, by omega⟩ ⟨by omega, by omega⟩ (fun c_7 => ?_) (fun c_7 => ?_)
    · exact absurd c_7 (by omega)
    · refine gg_aload_n dX5_countOf_10 rfl rfl ?_
      refine gk_getX5_30 rfl dX5_countOf_11 ?_
      refine gg_iload_n dX5_countOf_14 rfl ?_
      refine gk_iald dX5_countOf_15 (by decide) (by decide) ⟨by omega, by show _ < (12 : Int); omega⟩ (r3 w hw.1 hw.2).2.1 ?_
      refine gg_goto (tgt := 20) dX5_countOf_16 (by decide) ?_
      subst hQF9
      refine gg_iret dX5_countOf_20 rfl rfl ⟨(Nat.le_of_ble_eq_true rfl), (Nat.le_of_ble_eq_true rfl)⟩ ?_
      exact ⟨rfl, rfl⟩
set_option maxRecDepth 100000 in
set_option maxHeartbeats 4000000 in
theorem c_X5_markAt {Γ : GT} {h : XH} {G : Nat → Int} {B : Nat → Int → Int} {L : Int} {s : Int → Int} {mk : Int → Int → Int} {e c : Int → Bool} (R9 : RdG G B L s mk e c) {w : Int} (hw : 0 ≤ w ∧ w < L) {k : Int} (hk : 0 ≤ k ∧ k < s w) : Ct Γ M_X5_markAt [.ref (g_L Γ 50), .int (iN w), .int (iN k)] (gst Γ h G B) (fun r h9 => r = some (.int (iN (mk w k))) ∧ h9 = gst Γ h G B) (fun _ _ => False) := by
  refine Ct.of rfl (by decide +kernel) (Nat.le_of_ble_eq_true rfl) ?_
  generalize hQF9 : QM Γ _ _ _ = QF9
  obtain ⟨r1, r2, r3, r4, r5, r6⟩ := id R9
  have pe := pl12 (e := e) r1.2
  have pc9 := pl12 (e := c) r1.2
  obtain ⟨s1, s2, s3⟩ := r3 w hw.1 hw.2
  refine gg_iload_n dX5_markAt_0 rfl ?_
  refine gi_bipush dX5_markAt_1 (by decide) ?_
  refine gi_imul dX5_markAt_3 ?_
  refine gg_iload_n dX5_markAt_4 rfl ?_
  refine gi_iadd dX5_markAt_5 ?_
  refine gg_istore_n dX5_markAt_6 (Nat.le_of_ble_eq_true rfl) rfl ?_
  refine gg_iload_n dX5_markAt_7 rfl ?_
  refine gi_if_lt (tgt := 29) dX5_markAt_8 (by decide) ⟨by omega, by omega⟩ (fun c_8 => ?_) (fun c_8 => ?_)
  · exact absurd c_8 (by omega)
  · refine gg_iload_n dX5_markAt_11 rfl ?_
    refine gg_aload_n dX5_markAt_12 rfl rfl ?_
    refine gk_getX5_34 rfl dX5_markAt_13 ?_
    refine gi_alen dX5_markAt_16 (HAt.mu (gst_i (by decide))) (by decide) ?_
    refine gi_icmp_ge (tgt := 29) dX5_markAt_17 (by decide) ⟨by omega, by omega⟩ (by decide) (fun c_17 => ?_) (fun c_17 => ?_)
    · exfalso
      have c_18 : (72 : Int) ≤ w * 6 + k := c_17
      omega
    · refine gg_aload_n dX5_markAt_20 rfl rfl ?_
      refine gk_getX5_34 rfl dX5_markAt_21 ?_
      refine gg_iload_n dX5_markAt_24 rfl ?_
      refine gk_iald dX5_markAt_25 (by decide) (by decide) ⟨by omega, by show _ < (72 : Int); omega⟩ rfl ?_
      rw [Int.mul_comm w 6, (s3 k hk.1 hk.2).1]
      refine gg_goto (tgt := 30) dX5_markAt_26 (by decide) ?_
      subst hQF9
      refine gg_iret dX5_markAt_30 rfl rfl ⟨(Nat.le_of_ble_eq_true rfl), (Nat.le_of_ble_eq_true rfl)⟩ ?_
      exact ⟨rfl, rfl⟩
set_option maxRecDepth 100000 in
set_option maxHeartbeats 4000000 in
theorem c_X5_hasCommaBehind {Γ : GT} {h : XH} {G : Nat → Int} {B : Nat → Int → Int} {L : Int} (hL : 1 ≤ L ∧ L ≤ 12) {c : Int → Bool} (r5 : G 9 = (plN c L.toNat : Nat)) {w : Int} (hw : 0 ≤ w ∧ w < L) : Ct Γ M_X5_hasCommaBehind [.ref (g_L Γ 50), .int (iN w)] (gst Γ h G B) (fun r h9 => r = some (.int (iN (bi (c w)))) ∧ h9 = gst Γ h G B) (fun _ _ => False) := by
  refine Ct.of rfl (by decide +kernel) (Nat.le_of_ble_eq_true rfl) ?_
  generalize hQF9 : QM Γ _ _ _ = QF9
  have hb9 := plN_bit (e9 := c) (j := w.toNat) (k := L.toNat) (by omega)
  rw [Int.toNat_of_nonneg hw.1] at hb9
  have hc9 := bi_01 (c w)
  have pe := pl12 (e := c) hL.2
  refine gg_aload_n dX5_hasCommaBehind_0 rfl rfl ?_
  refine gk_getX5_21 rfl dX5_hasCommaBehind_1 r5 ?_
  refine gg_iload_n dX5_hasCommaBehind_4 rfl ?_
  refine gi_ishr _ (bt_shr ⟨by omega, by omega⟩ ⟨by omega, by omega⟩) dX5_hasCommaBehind_5 ?_
  refine gi_iconst dX5_hasCommaBehind_6 ?_
  refine gi_iand (bi (c w)) (by rw [bt_a1 (Int.ediv_nonneg (by omega) (Int.le_of_lt (Int.pow_pos (by omega)))), hb9]) dX5_hasCommaBehind_7 ?_
  refine gi_iconst dX5_hasCommaBehind_8 ?_
  refine gi_icmp_ne (tgt := 16) dX5_hasCommaBehind_9 (by decide) ⟨by omega, by omega⟩ ⟨by omega, by omega⟩ (fun c_9 => ?_) (fun c_9 => ?_)
  · refine gi_iconst dX5_hasCommaBehind_16 ?_
    subst hQF9
    refine gg_iret dX5_hasCommaBehind_17 rfl (nar_bool (by omega)) ⟨(Nat.le_of_ble_eq_true rfl), (Nat.le_of_ble_eq_true rfl)⟩ ?_
    have q9 : c w = false := by
      cases q : c w <;> rw [q] at c_9 <;> first | rfl | exact absurd rfl c_9 | exact absurd c_9 (by decide)
    exact ⟨by rw [q9]; rfl, rfl⟩
  · refine gi_iconst dX5_hasCommaBehind_12 ?_
    refine gg_goto (tgt := 17) dX5_hasCommaBehind_13 (by decide) ?_
    subst hQF9
    refine gg_iret dX5_hasCommaBehind_17 rfl (nar_bool (by omega)) ⟨(Nat.le_of_ble_eq_true rfl), (Nat.le_of_ble_eq_true rfl)⟩ ?_
    have q9 : c w = true := by
      cases q : c w <;> rw [q] at c_9 <;> first | rfl | exact absurd rfl c_9 | exact absurd c_9 (by decide)
    exact ⟨by rw [q9]; rfl, rfl⟩
set_option maxRecDepth 100000 in
set_option maxHeartbeats 4000000 in
theorem c_X5_hasPlace {Γ : GT} {h : XH} {G : Nat → Int} {B : Nat → Int → Int} {L : Int} (hL : 1 ≤ L ∧ L ≤ 12) {e : Int → Bool} (r4 : G 8 = (plN e L.toNat : Nat)) {w : Int} (hw : 0 ≤ w ∧ w < L) : Ct Γ M_X5_hasPlace [.ref (g_L Γ 50), .int (iN w)] (gst Γ h G B) (fun r h9 => r = some (.int (iN (bi (e w)))) ∧ h9 = gst Γ h G B) (fun _ _ => False) := by
  refine Ct.of rfl (by decide +kernel) (Nat.le_of_ble_eq_true rfl) ?_
  generalize hQF9 : QM Γ _ _ _ = QF9
  have hb9 := plN_bit (e9 := e) (j := w.toNat) (k := L.toNat) (by omega)
  rw [Int.toNat_of_nonneg hw.1] at hb9
  have hc9 := bi_01 (e w)
  have pe := pl12 (e := e) hL.2
  refine gg_aload_n dX5_hasPlace_0 rfl rfl ?_
  refine gk_getX5_18 rfl dX5_hasPlace_1 r4 ?_
  refine gg_iload_n dX5_hasPlace_4 rfl ?_
  refine gi_ishr _ (bt_shr ⟨by omega, by omega⟩ ⟨by omega, by omega⟩) dX5_hasPlace_5 ?_
  refine gi_iconst dX5_hasPlace_6 ?_
  refine gi_iand (bi (e w)) (by rw [bt_a1 (Int.ediv_nonneg (by omega) (Int.le_of_lt (Int.pow_pos (by omega)))), hb9]) dX5_hasPlace_7 ?_
  refine gi_iconst dX5_hasPlace_8 ?_
  refine gi_icmp_ne (tgt := 16) dX5_hasPlace_9 (by decide) ⟨by omega, by omega⟩ ⟨by omega, by omega⟩ (fun c_9 => ?_) (fun c_9 => ?_)
  · refine gi_iconst dX5_hasPlace_16 ?_
    subst hQF9
    refine gg_iret dX5_hasPlace_17 rfl (nar_bool (by omega)) ⟨(Nat.le_of_ble_eq_true rfl), (Nat.le_of_ble_eq_true rfl)⟩ ?_
    have q9 : e w = false := by
      cases q : e w <;> rw [q] at c_9 <;> first | rfl | exact absurd rfl c_9 | exact absurd c_9 (by decide)
    exact ⟨by rw [q9]; rfl, rfl⟩
  · refine gi_iconst dX5_hasPlace_12 ?_
    refine gg_goto (tgt := 17) dX5_hasPlace_13 (by decide) ?_
    subst hQF9
    refine gg_iret dX5_hasPlace_17 rfl (nar_bool (by omega)) ⟨(Nat.le_of_ble_eq_true rfl), (Nat.le_of_ble_eq_true rfl)⟩ ?_
    have q9 : e w = true := by
      cases q : e w <;> rw [q] at c_9 <;> first | rfl | exact absurd rfl c_9 | exact absurd c_9 (by decide)
    exact ⟨by rw [q9]; rfl, rfl⟩
set_option maxRecDepth 100000 in
set_option maxHeartbeats 4000000 in
theorem c_X5_canElide {Γ : GT} {h : XH} {G : Nat → Int} {B : Nat → Int → Int} {L : Int} {s : Int → Int} {mk : Int → Int → Int} {e c : Int → Bool} (R9 : RdG G B L s mk e c) {w : Int} (hw : 0 ≤ w ∧ w < L) {x : Bool} : Ct Γ M_X5_canElide [.ref (g_L Γ 50), .int (iN w), .int (iN (bi x))] (gst Γ h G B) (fun r h9 => r = some (.int (iN (bi (elE e s w x)))) ∧ h9 = gst Γ h G B) (fun _ _ => False) := by
  refine Ct.of rfl (by decide +kernel) (Nat.le_of_ble_eq_true rfl) ?_
  generalize hQF9 : QM Γ _ _ _ = QF9
  obtain ⟨r1, r2, r3, r4, r5, r6⟩ := id R9
  have pe := pl12 (e := e) r1.2
  have pc9 := pl12 (e := c) r1.2
  have hx9 := bi_01 x
  have sr := (r3 w hw.1 hw.2).1
  refine gg_aload_n dX5_canElide_0 rfl rfl ?_
  refine gg_iload_n dX5_canElide_1 rfl ?_
  refine gc_X5_96 rfl dX5_canElide_2 ⟨(Nat.le_of_ble_eq_true rfl), (Nat.le_of_ble_eq_true rfl)⟩ ⟨(Nat.le_of_ble_eq_true rfl), (Nat.le_of_ble_eq_true rfl)⟩ (Nat.le_of_ble_eq_true rfl) (HAt.mu gst_50) (c_X5_hasPlace r1 r4 hw) (fun _ _ w => w.elim) (fun r_2 h_2 hp => ?_)
  obtain ⟨rfl, rfl⟩ := hp
  refine gi_if_eq (tgt := 25) dX5_canElide_5 (by decide) (bi_r _) (fun c_5 => ?_) (fun c_5 => ?_)
  · rw [bi_f] at c_5
    refine gi_iconst dX5_canElide_25 ?_
    subst hQF9
    refine gg_iret dX5_canElide_26 rfl (nar_bool (by omega)) ⟨(Nat.le_of_ble_eq_true rfl), (Nat.le_of_ble_eq_true rfl)⟩ ?_
    exact ⟨by rw [elE, c_5]; rfl, rfl⟩
  · rw [bi_t] at c_5
    refine gg_iload_n dX5_canElide_8 rfl ?_
    refine gi_if_eq (tgt := 21) dX5_canElide_9 (by decide) (bi_r _) (fun c_9 => ?_) (fun c_9 => ?_)
    · rw [bi_f] at c_9
      refine gi_iconst dX5_canElide_21 ?_
      refine gg_goto (tgt := 26) dX5_canElide_22 (by decide) ?_
      subst hQF9
      refine gg_iret dX5_canElide_26 rfl (nar_bool (by omega)) ⟨(Nat.le_of_ble_eq_true rfl), (Nat.le_of_ble_eq_true rfl)⟩ ?_
      exact ⟨by rw [elE, c_5, c_9]; rfl, rfl⟩
    · rw [bi_t] at c_9
      refine gg_aload_n dX5_canElide_12 rfl rfl ?_
      refine gg_iload_n dX5_canElide_13 rfl ?_
      refine gc_X5_99 rfl dX5_canElide_14 ⟨(Nat.le_of_ble_eq_true rfl), (Nat.le_of_ble_eq_true rfl)⟩ ⟨(Nat.le_of_ble_eq_true rfl), (Nat.le_of_ble_eq_true rfl)⟩ (Nat.le_of_ble_eq_true rfl) (HAt.mu gst_50) (c_X5_countOf R9 hw) (fun _ _ w => w.elim) (fun r_14 h_14 hp => ?_)
      obtain ⟨rfl, rfl⟩ := hp
      refine gi_iconst dX5_canElide_17 ?_
      refine gi_icmp_eq (tgt := 25) dX5_canElide_18 (by decide) ⟨by omega, by omega⟩ ⟨by omega, by omega⟩ (fun c_18 => ?_) (fun c_18 => ?_)
      · refine gi_iconst dX5_canElide_25 ?_
        subst hQF9
        refine gg_iret dX5_canElide_26 rfl (nar_bool (by omega)) ⟨(Nat.le_of_ble_eq_true rfl), (Nat.le_of_ble_eq_true rfl)⟩ ?_
        exact ⟨by rw [elE, c_5, c_9, decide_eq_true c_18]; rfl, rfl⟩
      · refine gi_iconst dX5_canElide_21 ?_
        refine gg_goto (tgt := 26) dX5_canElide_22 (by decide) ?_
        subst hQF9
        refine gg_iret dX5_canElide_26 rfl (nar_bool (by omega)) ⟨(Nat.le_of_ble_eq_true rfl), (Nat.le_of_ble_eq_true rfl)⟩ ?_
        exact ⟨by rw [elE, c_5, c_9, decide_eq_false c_18]; rfl, rfl⟩
set_option maxRecDepth 100000 in
set_option maxHeartbeats 4000000 in
theorem c_X5_hasTooFew {Γ : GT} {h : XH} {G : Nat → Int} {B : Nat → Int → Int} {L : Int} {s : Int → Int} {mk : Int → Int → Int} {e c : Int → Bool} (R9 : RdG G B L s mk e c) (r7 : G 7 = smS s L.toNat) {q1 : Nat} {kd ft c9 : Int} (M1 : MtAt h.2 q1 kd ft c9) : Ct Γ M_X5_hasTooFew [.ref (g_L Γ 50), .ref q1] (gst Γ h G B) (fun r h9 => r = some (.int (iN (bi (decide (smS s L.toNat < (if strK kd (ft * szk kd - 1) 0 = true then ft * szk kd else ft * szk kd - 1)))))) ∧ h9 = gst Γ h G B) (fun _ _ => False) := by
  refine Ct.of rfl (by decide +kernel) (Nat.le_of_ble_eq_true rfl) ?_
  generalize hQF9 : QM Γ _ _ _ = QF9
  obtain ⟨r1, r2, r3, r4, r5, r6⟩ := id R9
  have pe := pl12 (e := e) r1.2
  have pc9 := pl12 (e := c) r1.2
  have smr := smS_r (s := s) (L := L.toNat) (fun i i0 i1 => (r3 i i0 (by omega)).1) L.toNat (Nat.le_refl _)
  rw [Int.toNat_of_nonneg (by omega)] at smr
  have gr9 := grd_r e s L.toNat
  rw [Int.toNat_of_nonneg (by omega)] at gr9
  obtain ⟨⟨t1, t2, t3⟩, t4⟩ := id M1
  have z9 := szk_r kd
  have p9 : 4 ≤ ft * szk kd ∧ ft * szk kd ≤ 18 := by rcases z9 with q | q <;> rw [q] <;> omega
  refine gg_aload_n dX5_hasTooFew_0 rfl rfl ?_
  refine gk_getX5_15 rfl dX5_hasTooFew_1 r7 ?_
  refine gg_aload_n dX5_hasTooFew_4 rfl rfl ?_
  refine gc_X5_103 rfl dX5_hasTooFew_5 ⟨(Nat.le_of_ble_eq_true rfl), (Nat.le_of_ble_eq_true rfl)⟩ ⟨(Nat.le_of_ble_eq_true rfl), (Nat.le_of_ble_eq_true rfl)⟩ (Nat.le_of_ble_eq_true rfl) (HAt.io t4) (c_X4_fewestSyllables (h := gst Γ h G B) M1) (fun _ _ w => w.elim) (fun r_5 h_5 hp => ?_)
  obtain ⟨rfl, rfl⟩ := hp
  refine gi_icmp_ge (tgt := 15) dX5_hasTooFew_8 (by decide) ⟨by omega, by omega⟩ (by split <;> constructor <;> omega) (fun c_8 => ?_) (fun c_8 => ?_)
  · refine gi_iconst dX5_hasTooFew_15 ?_
    subst hQF9
    refine gg_iret dX5_hasTooFew_16 rfl (nar_bool (by omega)) ⟨(Nat.le_of_ble_eq_true rfl), (Nat.le_of_ble_eq_true rfl)⟩ ?_
    exact ⟨by rw [decide_eq_false (Int.not_lt.mpr c_8)]; rfl, rfl⟩
  · refine gi_iconst dX5_hasTooFew_11 ?_
    refine gg_goto (tgt := 16) dX5_hasTooFew_12 (by decide) ?_
    subst hQF9
    refine gg_iret dX5_hasTooFew_16 rfl (nar_bool (by omega)) ⟨(Nat.le_of_ble_eq_true rfl), (Nat.le_of_ble_eq_true rfl)⟩ ?_
    exact ⟨by rw [decide_eq_true c_8]; rfl, rfl⟩
set_option maxRecDepth 100000 in
set_option maxHeartbeats 4000000 in
theorem c_X5_hasTooMany {Γ : GT} {h : XH} {G : Nat → Int} {B : Nat → Int → Int} {L : Int} {s : Int → Int} {mk : Int → Int → Int} {e c : Int → Bool} (R9 : RdG G B L s mk e c) (r7 : G 7 = smS s L.toNat) (r8 : G 11 = (grd e s L.toNat).1) {q1 : Nat} {kd ft c9 : Int} (M1 : MtAt h.2 q1 kd ft c9) : Ct Γ M_X5_hasTooMany [.ref (g_L Γ 50), .ref q1] (gst Γ h G B) (fun r h9 => r = some (.int (iN (bi (decide (smS s L.toNat - (grd e s L.toNat).1 > ft * szk kd + 1))))) ∧ h9 = gst Γ h G B) (fun _ _ => False) := by
  refine Ct.of rfl (by decide +kernel) (Nat.le_of_ble_eq_true rfl) ?_
  generalize hQF9 : QM Γ _ _ _ = QF9
  obtain ⟨r1, r2, r3, r4, r5, r6⟩ := id R9
  have pe := pl12 (e := e) r1.2
  have pc9 := pl12 (e := c) r1.2
  have smr := smS_r (s := s) (L := L.toNat) (fun i i0 i1 => (r3 i i0 (by omega)).1) L.toNat (Nat.le_refl _)
  rw [Int.toNat_of_nonneg (by omega)] at smr
  have gr9 := grd_r e s L.toNat
  rw [Int.toNat_of_nonneg (by omega)] at gr9
  obtain ⟨⟨t1, t2, t3⟩, t4⟩ := id M1
  have z9 := szk_r kd
  have p9 : 4 ≤ ft * szk kd ∧ ft * szk kd ≤ 18 := by rcases z9 with q | q <;> rw [q] <;> omega
  refine gg_aload_n dX5_hasTooMany_0 rfl rfl ?_
  refine gk_getX5_15 rfl dX5_hasTooMany_1 r7 ?_
  refine gg_aload_n dX5_hasTooMany_4 rfl rfl ?_
  refine gk_getX5_27 rfl dX5_hasTooMany_5 r8 ?_
  refine gi_isub dX5_hasTooMany_8 ?_
  refine gg_aload_n dX5_hasTooMany_9 rfl rfl ?_
  refine gf_X5_108 rfl dX5_hasTooMany_10 (HAt.io t4) rfl ?_
  refine gi_iconst dX5_hasTooMany_13 ?_
  refine gi_iadd dX5_hasTooMany_14 ?_
  refine gi_icmp_le (tgt := 22) dX5_hasTooMany_15 (by decide) ⟨by omega, by omega⟩ ⟨by omega, by omega⟩ (fun c_15 => ?_) (fun c_15 => ?_)
  · refine gi_iconst dX5_hasTooMany_22 ?_
    subst hQF9
    refine gg_iret dX5_hasTooMany_23 rfl (nar_bool (by omega)) ⟨(Nat.le_of_ble_eq_true rfl), (Nat.le_of_ble_eq_true rfl)⟩ ?_
    exact ⟨by rw [decide_eq_false (by omega)]; rfl, rfl⟩
  · refine gi_iconst dX5_hasTooMany_18 ?_
    refine gg_goto (tgt := 23) dX5_hasTooMany_19 (by decide) ?_
    subst hQF9
    refine gg_iret dX5_hasTooMany_23 rfl (nar_bool (by omega)) ⟨(Nat.le_of_ble_eq_true rfl), (Nat.le_of_ble_eq_true rfl)⟩ ?_
    exact ⟨by rw [decide_eq_true (by omega)]; rfl, rfl⟩
set_option maxRecDepth 100000 in
set_option maxHeartbeats 4000000 in
theorem c_X5_countMostElisions {Γ : GT} {h : XH} {G : Nat → Int} {B : Nat → Int → Int} {L : Int} {s : Int → Int} {mk : Int → Int → Int} {e c : Int → Bool} (R9 : RdG G B L s mk e c) : Ct Γ M_X5_countMostElisions [.ref (g_L Γ 50)] (gst Γ h G B) (fun r h9 => r = some (.int (iN ((grd e s L.toNat).1))) ∧ h9 = gst Γ h G B) (fun _ _ => False) := by
  refine Ct.of rfl (by decide +kernel) (Nat.le_of_ble_eq_true rfl) ?_
  generalize hQF9 : QM Γ _ _ _ = QF9
  obtain ⟨r1, r2, r3, r4, r5, r6⟩ := id R9
  have pe := pl12 (e := e) r1.2
  have pc9 := pl12 (e := c) r1.2
  refine gi_iconst dX5_countMostElisions_0 ?_
  refine gg_istore_n dX5_countMostElisions_1 (Nat.le_of_ble_eq_true rfl) rfl ?_
  refine gi_iconst dX5_countMostElisions_2 ?_
  refine gg_istore_n dX5_countMostElisions_3 (Nat.le_of_ble_eq_true rfl) rfl ?_
  refine gi_iconst dX5_countMostElisions_4 ?_
  refine gg_istore_n dX5_countMostElisions_5 (Nat.le_of_ble_eq_true rfl) rfl ?_
  have L_6 : ∀ (n9 : Nat) (k : Int), ((L - k).toNat) = n9 → ∀ (hk : 0 ≤ k ∧ k ≤ L), GG Γ M_X5_countMostElisions QF9 (0, 0) (gst Γ h G B) 6 [some (.ref (g_L Γ 50)), some (.int (iN (grd e s k.toNat).1)), some (.int (iN (bi (grd e s k.toNat).2))), some (.int (iN k))] [] := by
    intro n9
    induction n9 using Nat.strongRecOn with
    | ind n9 ih_6 => 
      intro k hm9 hk
      refine gg_iload_n dX5_countMostElisions_6 rfl ?_
      refine gg_aload_n dX5_countMostElisions_7 rfl rfl ?_
      refine gk_getX5_9 rfl dX5_countMostElisions_8 r2 ?_
      refine gi_icmp_ge (tgt := 39) dX5_countMostElisions_11 (by decide) ⟨by omega, by omega⟩ ⟨by omega, by omega⟩ (fun c_11 => ?_) (fun c_11 => ?_)
      · refine gg_iload_n dX5_countMostElisions_39 rfl ?_
        subst hQF9
        refine gg_iret dX5_countMostElisions_40 rfl rfl ⟨(Nat.le_of_ble_eq_true rfl), (Nat.le_of_ble_eq_true rfl)⟩ ?_
        rw [show k = L by omega]
        exact ⟨rfl, rfl⟩
      · refine gg_aload_n dX5_countMostElisions_14 rfl rfl ?_
        refine gg_iload_n dX5_countMostElisions_15 rfl ?_
        refine gg_iload_n dX5_countMostElisions_16 rfl ?_
        refine gc_X5_111 rfl dX5_countMostElisions_17 ⟨(Nat.le_of_ble_eq_true rfl), (Nat.le_of_ble_eq_true rfl)⟩ ⟨(Nat.le_of_ble_eq_true rfl), (Nat.le_of_ble_eq_true rfl)⟩ (Nat.le_of_ble_eq_true rfl) (HAt.mu gst_50) (c_X5_canElide R9 ⟨by omega, by omega⟩ (x := (grd e s k.toNat).2)) (fun _ _ w => w.elim) (fun r_17 h_17 hp => ?_)
        obtain ⟨rfl, rfl⟩ := hp
        have eb9 := bi_01 (elE e s k (grd e s k.toNat).2)
        refine gg_istore_n dX5_countMostElisions_20 (Nat.le_of_ble_eq_true rfl) rfl ?_
        refine gg_iload_n dX5_countMostElisions_21 rfl ?_
        refine gg_iload_n dX5_countMostElisions_22 rfl ?_
        refine gi_if_eq (tgt := 30) dX5_countMostElisions_23 (by decide) (bi_r _) (fun c_23 => ?_) (fun c_23 => ?_)
        · rw [bi_f] at c_23
          refine gi_iconst dX5_countMostElisions_30 ?_
          refine gi_iadd dX5_countMostElisions_31 ?_
          refine gg_istore_n dX5_countMostElisions_32 (Nat.le_of_ble_eq_true rfl) rfl ?_
          refine gi_iinc dX5_countMostElisions_33 rfl (Nat.le_of_ble_eq_true rfl) rfl ?_
          refine gg_goto (tgt := 6) dX5_countMostElisions_36 (by decide) ?_
          refine gg_conv (ih_6 _ (by omega) (k + 1) rfl (by omega)) rfl (by rw [show (k + 1).toNat = k.toNat + 1 by omega, grd, Int.toNat_of_nonneg hk.1, c_23]; rfl) rfl
        · rw [bi_t] at c_23
          refine gi_iconst dX5_countMostElisions_26 ?_
          refine gg_goto (tgt := 31) dX5_countMostElisions_27 (by decide) ?_
          refine gi_iadd dX5_countMostElisions_31 ?_
          refine gg_istore_n dX5_countMostElisions_32 (Nat.le_of_ble_eq_true rfl) rfl ?_
          refine gi_iinc dX5_countMostElisions_33 rfl (Nat.le_of_ble_eq_true rfl) rfl ?_
          refine gg_goto (tgt := 6) dX5_countMostElisions_36 (by decide) ?_
          refine gg_conv (ih_6 _ (by omega) (k + 1) rfl (by omega)) rfl (by rw [show (k + 1).toNat = k.toNat + 1 by omega, grd, Int.toNat_of_nonneg hk.1, c_23]; rfl) rfl
  exact L_6 _ 0 rfl (by omega)
/-- the sets that can be made -/
def alw (e : Int → Bool) (s : Int → Int) (z : Int) : Nat → Bool
  | 0 => true
  | k + 1 => alw e s z k && !(decide (z / 2 ^ k % 2 = 1) && !elE e s k (decide (1 ≤ (k : Int) ∧ z / 2 ^ (k - 1) % 2 = 1)))
theorem alw_f {e : Int → Bool} {s : Int → Int} {z : Int} : ∀ {k n : Nat}, k ≤ n → alw e s z k = false → alw e s z n = false
  | k, 0, hk, hq => by rw [show k = 0 by omega] at hq; exact hq
  | k, n + 1, hk, hq => by
    by_cases w : k = n + 1
    · rw [← w]; exact hq
    · rw [alw, alw_f (show k ≤ n by omega) hq]; rfl
def alS (e : Int → Bool) (s : Int → Int) (L z : Int) : Bool := sbm z (plN e L.toNat : Nat) && alw e s z L.toNat
set_option maxRecDepth 100000 in
set_option maxHeartbeats 4000000 in
theorem c_X5_allows {Γ : GT} {h : XH} {G : Nat → Int} {B : Nat → Int → Int} {L : Int} {s : Int → Int} {mk : Int → Int → Int} {e c : Int → Bool} (R9 : RdG G B L s mk e c) {z : Int} (hz : InR z) : Ct Γ M_X5_allows [.ref (g_L Γ 50), .int (iN z)] (gst Γ h G B) (fun r h9 => r = some (.int (iN (bi (alS e s L z)))) ∧ h9 = gst Γ h G B) (fun _ _ => False) := by
  refine Ct.of rfl (by decide +kernel) (Nat.le_of_ble_eq_true rfl) ?_
  generalize hQF9 : QM Γ _ _ _ = QF9
  obtain ⟨r1, r2, r3, r4, r5, r6⟩ := id R9
  have pe := pl12 (e := e) r1.2
  have pc9 := pl12 (e := c) r1.2
  refine gg_iload_n dX5_allows_0 rfl ?_
  refine gg_aload_n dX5_allows_1 rfl rfl ?_
  refine gk_getX5_18 rfl dX5_allows_2 r4 ?_
  refine gi_iconst dX5_allows_5 ?_
  refine gi_ixor _ (iN_self _).symm dX5_allows_6 ?_
  refine gi_iand _ (iN_self _).symm dX5_allows_7 ?_
  refine gi_if_eq (tgt := 13) dX5_allows_8 (by decide) (iN_rng _) (fun c_8 => ?_) (fun c_8 => ?_)
  · rw [sub_iff hz ⟨by omega, by omega⟩] at c_8
    have hzr := sbm_r ⟨by omega, by omega⟩ c_8
    refine gi_iconst dX5_allows_13 ?_
    refine gg_istore_n dX5_allows_14 (Nat.le_of_ble_eq_true rfl) rfl ?_
    refine gi_iconst dX5_allows_15 ?_
    refine gg_istore_n dX5_allows_16 (Nat.le_of_ble_eq_true rfl) rfl ?_
    have L_17 : ∀ (n9 : Nat) (k : Int) (x9 : Bool), ((L - k).toNat) = n9 → ∀ (hk : 0 ≤ k ∧ k ≤ L) (hx : x9 = (decide (1 ≤ k ∧ z / 2 ^ (k - 1).toNat % 2 = 1))) (E : alw e s z k.toNat = true), GG Γ M_X5_allows QF9 (0, 0) (gst Γ h G B) 17 [some (.ref (g_L Γ 50)), some (.int (iN z)), some (.int (iN (bi x9))), some (.int (iN k)), none] [] := by
      intro n9
      induction n9 using Nat.strongRecOn with
      | ind n9 ih_17 => 
        intro k x9 hm9 hk hx E
        refine gg_iload_n dX5_allows_17 rfl ?_
        refine gg_aload_n dX5_allows_18 rfl rfl ?_
        refine gk_getX5_9 rfl dX5_allows_19 r2 ?_
        refine gi_icmp_ge (tgt := 66) dX5_allows_22 (by decide) ⟨by omega, by omega⟩ ⟨by omega, by omega⟩ (fun c_22 => ?_) (fun c_22 => ?_)
        · refine gi_iconst dX5_allows_66 ?_
          subst hQF9
          refine gg_iret dX5_allows_67 rfl (nar_bool (by omega)) ⟨(Nat.le_of_ble_eq_true rfl), (Nat.le_of_ble_eq_true rfl)⟩ ?_
          rw [show k = L by omega] at E
          exact ⟨by rw [alS, c_8, E]; rfl, rfl⟩
        · refine gg_iload_n dX5_allows_25 rfl ?_
          refine gg_iload_n dX5_allows_26 rfl ?_
          refine gi_ishr _ (bt_shr ⟨by omega, by omega⟩ ⟨by omega, by omega⟩) dX5_allows_27 ?_
          refine gi_iconst dX5_allows_28 ?_
          refine gi_iand _ (bt_a1 (Int.ediv_nonneg (by omega) (Int.le_of_lt (Int.pow_pos (by omega))))) dX5_allows_29 ?_
          refine gi_iconst dX5_allows_30 ?_
          refine gi_icmp_ne (tgt := 38) dX5_allows_31 (by decide) ⟨by omega, by omega⟩ ⟨by omega, by omega⟩ (fun c_31 => ?_) (fun c_31 => ?_)
          · refine gi_iconst dX5_allows_38 ?_
            refine gg_istore dX5_allows_39 (Nat.le_of_ble_eq_true rfl) rfl ?_
            refine gg_iload dX5_allows_41 rfl ?_
            refine gi_if_eq (tgt := 57) dX5_allows_43 (by decide) ⟨by omega, by omega⟩ (fun c9 => ?_) (fun c9 => absurd c9 (by decide))
            refine gg_iload dX5_allows_57 rfl ?_
            refine gg_istore_n dX5_allows_59 (Nat.le_of_ble_eq_true rfl) rfl ?_
            refine gi_iinc dX5_allows_60 rfl (Nat.le_of_ble_eq_true rfl) rfl ?_
            refine gg_goto (tgt := 17) dX5_allows_63 (by decide) ?_
            refine gg_drop 4 ?_
            have ek : (k + 1).toNat = k.toNat + 1 := by omega
            refine gg_conv (ih_17 _ (by omega) (k + 1) false rfl (by omega) (by rw [decide_eq_false (fun q => c_31 (by rw [show k + 1 - 1 = k by omega] at q; exact q.2))]) ?_) rfl rfl rfl
            rw [ek, alw, E, Int.toNat_of_nonneg hk.1, decide_eq_false c_31]; rfl
          · refine gi_iconst dX5_allows_34 ?_
            refine gg_goto (tgt := 39) dX5_allows_35 (by decide) ?_
            refine gg_istore dX5_allows_39 (Nat.le_of_ble_eq_true rfl) rfl ?_
            refine gg_iload dX5_allows_41 rfl ?_
            refine gi_if_eq (tgt := 57) dX5_allows_43 (by decide) ⟨by omega, by omega⟩ (fun c9 => absurd c9 (by decide)) (fun c9 => ?_)
            refine gg_aload_n dX5_allows_46 rfl rfl ?_
            refine gg_iload_n dX5_allows_47 rfl ?_
            refine gg_iload_n dX5_allows_48 rfl ?_
            refine gc_X5_111 rfl dX5_allows_49 ⟨(Nat.le_of_ble_eq_true rfl), (Nat.le_of_ble_eq_true rfl)⟩ ⟨(Nat.le_of_ble_eq_true rfl), (Nat.le_of_ble_eq_true rfl)⟩ (Nat.le_of_ble_eq_true rfl) (HAt.mu gst_50) (c_X5_canElide R9 ⟨by omega, by omega⟩ (x := x9)) (fun _ _ w => w.elim) (fun r_49 h_49 hp => ?_)
            obtain ⟨rfl, rfl⟩ := hp
            refine gi_if_ne (tgt := 57) dX5_allows_52 (by decide) (bi_r _) (fun c_52 => ?_) (fun c_52 => ?_)
            · rw [bi_t] at c_52
              refine gg_iload dX5_allows_57 rfl ?_
              refine gg_istore_n dX5_allows_59 (Nat.le_of_ble_eq_true rfl) rfl ?_
              refine gi_iinc dX5_allows_60 rfl (Nat.le_of_ble_eq_true rfl) rfl ?_
              refine gg_goto (tgt := 17) dX5_allows_63 (by decide) ?_
              refine gg_drop 4 ?_
              have ek : (k + 1).toNat = k.toNat + 1 := by omega
              refine gg_conv (ih_17 _ (by omega) (k + 1) true rfl (by omega) (by rw [decide_eq_true ⟨by omega, by rw [show k + 1 - 1 = k by omega]; exact c_31⟩]) ?_) rfl rfl rfl
              rw [ek, alw, E, Int.toNat_of_nonneg hk.1]
              have hx2 : x9 = decide (1 ≤ k ∧ z / 2 ^ (k.toNat - 1) % 2 = 1) := by rw [hx, show (k - 1).toNat = k.toNat - 1 by omega]
              rw [← hx2, c_52, decide_eq_true c_31]; rfl
            · rw [bi_f] at c_52
              refine gi_iconst dX5_allows_55 ?_
              subst hQF9
              refine gg_iret dX5_allows_56 rfl (nar_bool (by omega)) ⟨(Nat.le_of_ble_eq_true rfl), (Nat.le_of_ble_eq_true rfl)⟩ ?_
              refine ⟨?_, rfl⟩
              have ek : (k + 1).toNat = k.toNat + 1 := by omega
              have hf : alw e s z (k + 1).toNat = false := by
                have hx2 : x9 = decide (1 ≤ k ∧ z / 2 ^ (k.toNat - 1) % 2 = 1) := by rw [hx, show (k - 1).toNat = k.toNat - 1 by omega]
                rw [ek, alw, Int.toNat_of_nonneg hk.1, ← hx2, c_52, decide_eq_true c_31, Bool.and_eq_false_iff]
                exact Or.inr rfl
              rw [alS, alw_f (show (k + 1).toNat ≤ L.toNat by omega) hf, Bool.and_false]; rfl
    refine gg_drop 4 ?_
    exact L_17 _ 0 false rfl (by omega) (by rw [decide_eq_false (by omega)]) rfl
  · rw [Ne, sub_iff hz ⟨by omega, by omega⟩, Bool.not_eq_true] at c_8
    refine gi_iconst dX5_allows_11 ?_
    subst hQF9
    refine gg_iret dX5_allows_12 rfl (nar_bool (by omega)) ⟨(Nat.le_of_ble_eq_true rfl), (Nat.le_of_ble_eq_true rfl)⟩ ?_
    exact ⟨by rw [alS, c_8]; rfl, rfl⟩
