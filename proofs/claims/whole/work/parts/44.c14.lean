/-! the input of the class -/
def chA (G : Nat → Int) (B : Nat → Int → Int) (p : Int) : Int := if 0 ≤ p ∧ p < G 4 then B 41 p else 0
set_option maxRecDepth 100000 in
set_option maxHeartbeats 4000000 in
theorem c_X1_characterAt {Γ : GT} {h : XH} {G : Nat → Int} {B : Nat → Int → Int} (p4 : 0 ≤ G 4 ∧ G 4 ≤ 60) (p3 : 0 ≤ G 3 ∧ G 3 ≤ 100) (p5 : ∀ k, 0 ≤ k → k < G 4 → 0 ≤ B 41 k ∧ B 41 k < 65536) {p : Int} (hp9 : InR p) : Ct Γ M_X1_characterAt [.ref (g_L Γ 40), .int (iN p)] (gst Γ h G B) (fun r h9 => r = some (.int (iN (chA G B p))) ∧ h9 = gst Γ h G B) (fun _ _ => False) := by
  refine Ct.of rfl (by decide +kernel) (Nat.le_of_ble_eq_true rfl) ?_
  generalize hQF9 : QM Γ _ _ _ = QF9
  refine gg_iload_n dX1_characterAt_0 rfl ?_
  refine gi_if_lt (tgt := 25) dX1_characterAt_1 (by decide) ⟨by omega, by omega⟩ (fun c_1 => ?_) (fun c_1 => ?_)
  · refine gi_iconst dX1_characterAt_25 ?_
    refine gg_istore_n dX1_characterAt_26 (Nat.le_of_ble_eq_true rfl) rfl ?_
    refine gg_iload_n dX1_characterAt_27 rfl ?_
    refine gi_if_eq (tgt := 40) dX1_characterAt_28 (by decide) ⟨by omega, by omega⟩ (fun c9 => ?_) (fun c9 => absurd c9 (by decide))
    refine gi_iconst dX1_characterAt_40 ?_
    have L_41 : GG Γ M_X1_characterAt QF9 (0, 0) (gst Γ h G B) 41 [some (.ref (g_L Γ 40)), some (.int (iN p)), none] [.int (iN (chA G B p))] := by
      subst hQF9
      refine gg_iret dX1_characterAt_41 rfl (nar_char (by unfold chA; split; exact p5 p (by omega) (by omega); exact ⟨by omega, by omega⟩)) ⟨(Nat.le_of_ble_eq_true rfl), (Nat.le_of_ble_eq_true rfl)⟩ ?_
      exact ⟨rfl, rfl⟩
    refine gg_drop 2 ?_
    exact gg_conv L_41 rfl rfl (by unfold chA; rw [if_neg (by omega)])
  · refine gg_iload_n dX1_characterAt_4 rfl ?_
    refine gg_aload_n dX1_characterAt_5 rfl rfl ?_
    refine gk_getX1_26 rfl dX1_characterAt_6 (by (try simp only [uF_s, uF_n, ne_eq, not_false_eq_true, Nat.reduceEqDiff, reduceCtorEq]); rfl) ?_
    refine gi_icmp_ge (tgt := 25) dX1_characterAt_9 (by decide) ⟨by omega, by omega⟩ ⟨by omega, by omega⟩ (fun c_9 => ?_) (fun c_9 => ?_)
    · refine gi_iconst dX1_characterAt_25 ?_
      refine gg_istore_n dX1_characterAt_26 (Nat.le_of_ble_eq_true rfl) rfl ?_
      refine gg_iload_n dX1_characterAt_27 rfl ?_
      refine gi_if_eq (tgt := 40) dX1_characterAt_28 (by decide) ⟨by omega, by omega⟩ (fun c9 => ?_) (fun c9 => absurd c9 (by decide))
      refine gi_iconst dX1_characterAt_40 ?_
      have L_41 : GG Γ M_X1_characterAt QF9 (0, 0) (gst Γ h G B) 41 [some (.ref (g_L Γ 40)), some (.int (iN p)), none] [.int (iN (chA G B p))] := by
        subst hQF9
        refine gg_iret dX1_characterAt_41 rfl (nar_char (by unfold chA; split; exact p5 p (by omega) (by omega); exact ⟨by omega, by omega⟩)) ⟨(Nat.le_of_ble_eq_true rfl), (Nat.le_of_ble_eq_true rfl)⟩ ?_
        exact ⟨rfl, rfl⟩
      refine gg_drop 2 ?_
      exact gg_conv L_41 rfl rfl (by unfold chA; rw [if_neg (by omega)])
    · refine gg_iload_n dX1_characterAt_12 rfl ?_
      refine gg_aload_n dX1_characterAt_13 rfl rfl ?_
      refine gk_getX1_9 rfl dX1_characterAt_14 ?_
      refine gi_alen dX1_characterAt_17 (HAt.mu gst_41) (by decide) ?_
      refine gi_icmp_ge (tgt := 25) dX1_characterAt_18 (by decide) ⟨by omega, by omega⟩ (by decide) (fun c_18 => ?_) (fun c_18 => ?_)
      · have c_19 : (60 : Int) ≤ p := c_18
        refine gi_iconst dX1_characterAt_25 ?_
        refine gg_istore_n dX1_characterAt_26 (Nat.le_of_ble_eq_true rfl) rfl ?_
        refine gg_iload_n dX1_characterAt_27 rfl ?_
        refine gi_if_eq (tgt := 40) dX1_characterAt_28 (by decide) ⟨by omega, by omega⟩ (fun c9 => ?_) (fun c9 => absurd c9 (by decide))
        refine gi_iconst dX1_characterAt_40 ?_
        have L_41 : GG Γ M_X1_characterAt QF9 (0, 0) (gst Γ h G B) 41 [some (.ref (g_L Γ 40)), some (.int (iN p)), none] [.int (iN (chA G B p))] := by
          subst hQF9
          refine gg_iret dX1_characterAt_41 rfl (nar_char (by unfold chA; split; exact p5 p (by omega) (by omega); exact ⟨by omega, by omega⟩)) ⟨(Nat.le_of_ble_eq_true rfl), (Nat.le_of_ble_eq_true rfl)⟩ ?_
          exact ⟨rfl, rfl⟩
        refine gg_drop 2 ?_
        exact gg_conv L_41 rfl rfl (by unfold chA; rw [if_neg (by omega)])
      · refine gi_iconst dX1_characterAt_21 ?_
        refine gg_goto (tgt := 26) dX1_characterAt_22 (by decide) ?_
        refine gg_istore_n dX1_characterAt_26 (Nat.le_of_ble_eq_true rfl) rfl ?_
        refine gg_iload_n dX1_characterAt_27 rfl ?_
        refine gi_if_eq (tgt := 40) dX1_characterAt_28 (by decide) ⟨by omega, by omega⟩ (fun c9 => absurd c9 (by decide)) (fun c9 => ?_)
        refine gg_aload_n dX1_characterAt_31 rfl rfl ?_
        refine gk_getX1_9 rfl dX1_characterAt_32 ?_
        refine gg_iload_n dX1_characterAt_35 rfl ?_
        refine gk_cald dX1_characterAt_36 ⟨by omega, by omega⟩ rfl ?_
        refine gg_goto (tgt := 41) dX1_characterAt_37 (by decide) ?_
        have L_41 : GG Γ M_X1_characterAt QF9 (0, 0) (gst Γ h G B) 41 [some (.ref (g_L Γ 40)), some (.int (iN p)), none] [.int (iN (chA G B p))] := by
          subst hQF9
          refine gg_iret dX1_characterAt_41 rfl (nar_char (by unfold chA; split; exact p5 p (by omega) (by omega); exact ⟨by omega, by omega⟩)) ⟨(Nat.le_of_ble_eq_true rfl), (Nat.le_of_ble_eq_true rfl)⟩ ?_
          exact ⟨rfl, rfl⟩
        refine gg_drop 2 ?_
        exact gg_conv L_41 rfl rfl (by unfold chA; rw [if_pos (by omega)])
set_option maxRecDepth 100000 in
set_option maxHeartbeats 4000000 in
theorem c_X1_isAtEnd {Γ : GT} {h : XH} {G : Nat → Int} {B : Nat → Int → Int} (p4 : 0 ≤ G 4 ∧ G 4 ≤ 60) (p3 : 0 ≤ G 3 ∧ G 3 ≤ 100) (p5 : ∀ k, 0 ≤ k → k < G 4 → 0 ≤ B 41 k ∧ B 41 k < 65536) : Ct Γ M_X1_isAtEnd [.ref (g_L Γ 40)] (gst Γ h G B) (fun r h9 => r = some (.int (iN (bi (decide (G 4 ≤ G 3))))) ∧ h9 = gst Γ h G B) (fun _ _ => False) := by
  refine Ct.of rfl (by decide +kernel) (Nat.le_of_ble_eq_true rfl) ?_
  generalize hQF9 : QM Γ _ _ _ = QF9
  refine gg_aload_n dX1_isAtEnd_0 rfl rfl ?_
  refine gk_getX1_22 rfl dX1_isAtEnd_1 (by (try simp only [uF_s, uF_n, ne_eq, not_false_eq_true, Nat.reduceEqDiff, reduceCtorEq]); rfl) ?_
  refine gg_aload_n dX1_isAtEnd_4 rfl rfl ?_
  refine gk_getX1_26 rfl dX1_isAtEnd_5 (by (try simp only [uF_s, uF_n, ne_eq, not_false_eq_true, Nat.reduceEqDiff, reduceCtorEq]); rfl) ?_
  refine gi_icmp_lt (tgt := 15) dX1_isAtEnd_8 (by decide) ⟨by omega, by omega⟩ ⟨by omega, by omega⟩ (fun c_8 => ?_) (fun c_8 => ?_)
  · refine gi_iconst dX1_isAtEnd_15 ?_
    subst hQF9
    refine gg_iret dX1_isAtEnd_16 rfl (nar_bool (by omega)) ⟨(Nat.le_of_ble_eq_true rfl), (Nat.le_of_ble_eq_true rfl)⟩ ?_
    exact ⟨by rw [decide_eq_false (by omega)]; rfl, rfl⟩
  · refine gi_iconst dX1_isAtEnd_11 ?_
    refine gg_goto (tgt := 16) dX1_isAtEnd_12 (by decide) ?_
    subst hQF9
    refine gg_iret dX1_isAtEnd_16 rfl (nar_bool (by omega)) ⟨(Nat.le_of_ble_eq_true rfl), (Nat.le_of_ble_eq_true rfl)⟩ ?_
    exact ⟨by rw [decide_eq_true (by omega)]; rfl, rfl⟩
set_option maxRecDepth 100000 in
set_option maxHeartbeats 4000000 in
theorem c_X1_pass {Γ : GT} {h : XH} {G : Nat → Int} {B : Nat → Int → Int} (p4 : 0 ≤ G 4 ∧ G 4 ≤ 60) (p3 : 0 ≤ G 3 ∧ G 3 ≤ 100) (p5 : ∀ k, 0 ≤ k → k < G 4 → 0 ≤ B 41 k ∧ B 41 k < 65536) {c : Int} (hc : 1 ≤ c ∧ c < 65536) : Ct Γ M_X1_pass [.ref (g_L Γ 40), .int (iN c)] (gst Γ h G B) (fun r h9 => r = some (.int (iN (bi (decide (G 3 < G 4 ∧ B 41 (G 3) = c))))) ∧ h9 = gst Γ h (if (G 3 < G 4 ∧ B 41 (G 3) = c) then uF G 3 (G 3 + 1) else G) B) (fun _ _ => False) := by
  refine Ct.of rfl (by decide +kernel) (Nat.le_of_ble_eq_true rfl) ?_
  generalize hQF9 : QM Γ _ _ _ = QF9
  refine gg_aload_n dX1_pass_0 rfl rfl ?_
  refine gc_X1_56 rfl dX1_pass_1 ⟨(Nat.le_of_ble_eq_true rfl), (Nat.le_of_ble_eq_true rfl)⟩ ⟨(Nat.le_of_ble_eq_true rfl), (Nat.le_of_ble_eq_true rfl)⟩ (Nat.le_of_ble_eq_true rfl) (HAt.mu gst_40) (c_X1_isAtEnd p4 p3 p5) (fun _ _ w => w.elim) (fun r_1 h_1 hp => ?_)
  obtain ⟨rfl, rfl⟩ := hp
  refine gi_if_ne (tgt := 19) dX1_pass_4 (by decide) (bi_r _) (fun c_4 => ?_) (fun c_4 => ?_)
  · rw [bi_t] at c_4
    rw [decide_eq_true_iff] at c_4
    refine gi_iconst dX1_pass_19 ?_
    subst hQF9
    refine gg_iret dX1_pass_20 rfl (nar_bool (by omega)) ⟨(Nat.le_of_ble_eq_true rfl), (Nat.le_of_ble_eq_true rfl)⟩ ?_
    exact ⟨by rw [decide_eq_false (by omega)]; rfl, by rw [if_neg (by omega)]⟩
  · rw [bi_f] at c_4
    rw [decide_eq_false_iff_not] at c_4
    have q5 := p5 (G 3) (by omega) (by omega)
    have q6 : chA G B (G 3) = B 41 (G 3) := by unfold chA; rw [if_pos (by omega)]
    refine gg_aload_n dX1_pass_7 rfl rfl ?_
    refine gg_aload_n dX1_pass_8 rfl rfl ?_
    refine gk_getX1_22 rfl dX1_pass_9 (by (try simp only [uF_s, uF_n, ne_eq, not_false_eq_true, Nat.reduceEqDiff, reduceCtorEq]); rfl) ?_
    refine gc_X1_78 rfl dX1_pass_12 ⟨(Nat.le_of_ble_eq_true rfl), (Nat.le_of_ble_eq_true rfl)⟩ ⟨(Nat.le_of_ble_eq_true rfl), (Nat.le_of_ble_eq_true rfl)⟩ (Nat.le_of_ble_eq_true rfl) (HAt.mu gst_40) (c_X1_characterAt p4 p3 p5 (p := G 3) ⟨by omega, by omega⟩) (fun _ _ w => w.elim) (fun r_12 h_12 hp => ?_)
    obtain ⟨rfl, rfl⟩ := hp
    refine gg_iload_n dX1_pass_15 rfl ?_
    refine gi_icmp_eq (tgt := 21) dX1_pass_16 (by decide) ⟨by omega, by omega⟩ ⟨by omega, by omega⟩ (fun c_16 => ?_) (fun c_16 => ?_)
    · refine gg_aload_n dX1_pass_21 rfl rfl ?_
      refine gg_dup dX1_pass_22 rfl ?_
      refine gk_getX1_22 rfl dX1_pass_23 (by (try simp only [uF_s, uF_n, ne_eq, not_false_eq_true, Nat.reduceEqDiff, reduceCtorEq]); rfl) ?_
      refine gi_iconst dX1_pass_26 ?_
      refine gi_iadd dX1_pass_27 ?_
      refine gk_putX1_22 rfl dX1_pass_28 rfl ?_
      refine gi_iconst dX1_pass_31 ?_
      subst hQF9
      refine gg_iret dX1_pass_32 rfl (nar_bool (by omega)) ⟨(Nat.le_of_ble_eq_true rfl), (Nat.le_of_ble_eq_true rfl)⟩ ?_
      exact ⟨by rw [decide_eq_true (by omega)]; rfl, by rw [if_pos (by omega)]⟩
    · refine gi_iconst dX1_pass_19 ?_
      subst hQF9
      refine gg_iret dX1_pass_20 rfl (nar_bool (by omega)) ⟨(Nat.le_of_ble_eq_true rfl), (Nat.le_of_ble_eq_true rfl)⟩ ?_
      exact ⟨by rw [decide_eq_false (by omega)]; rfl, by rw [if_neg (by omega)]⟩
set_option maxRecDepth 100000 in
set_option maxHeartbeats 4000000 in
theorem c_X1_passLetters {Γ : GT} {h : XH} {G : Nat → Int} {B : Nat → Int → Int} (p4 : 0 ≤ G 4 ∧ G 4 ≤ 60) (p3 : 0 ≤ G 3 ∧ G 3 ≤ 100) (p5 : ∀ k, 0 ≤ k → k < G 4 → 0 ≤ B 41 k ∧ B 41 k < 65536) (p6 : G 3 ≤ G 4) : Ct Γ M_X1_passLetters [.ref (g_L Γ 40)] (gst Γ h G B) (fun r h9 => r = some (.int (iN (wlen (B 41) (G 4) 12 (G 3)))) ∧ h9 = gst Γ h (uF G 3 (G 3 + wlen (B 41) (G 4) 12 (G 3))) B) (fun _ _ => False) := by
  refine Ct.of rfl (by decide +kernel) (Nat.le_of_ble_eq_true rfl) ?_
  generalize hQF9 : QM Γ _ _ _ = QF9
  refine gi_iconst dX1_passLetters_0 ?_
  refine gg_istore_n dX1_passLetters_1 (Nat.le_of_ble_eq_true rfl) rfl ?_
  have L_2 : ∀ (n9 : Nat) (k : Int), ((12 - k).toNat) = n9 → ∀ (hk : 0 ≤ k ∧ k ≤ 12) (hk2 : G 3 + k ≤ G 4) (E : wlen (B 41) (G 4) 12 (G 3) = k + wlen (B 41) (G 4) (12 - k).toNat (G 3 + k)), GG Γ M_X1_passLetters QF9 (0, 0) (gst Γ h (uF G 3 (G 3 + k)) B) 2 [some (.ref (g_L Γ 40)), some (.int (iN k))] [] := by
    intro n9
    induction n9 using Nat.strongRecOn with
    | ind n9 ih_2 => 
      intro k hm9 hk hk2 E
      refine gg_iload_n dX1_passLetters_2 rfl ?_
      refine gi_bipush dX1_passLetters_3 (by decide) ?_
      refine gi_icmp_ge (tgt := 50) dX1_passLetters_5 (by decide) ⟨by omega, by omega⟩ ⟨by omega, by omega⟩ (fun c_5 => ?_) (fun c_5 => ?_)
      · refine gg_iload_n dX1_passLetters_50 rfl ?_
        subst hQF9
        refine gg_iret dX1_passLetters_51 rfl rfl ⟨(Nat.le_of_ble_eq_true rfl), (Nat.le_of_ble_eq_true rfl)⟩ ?_
        have e9 : wlen (B 41) (G 4) 12 (G 3) = k := by
          rw [E]
          rw [show k = 12 by omega]; rfl
        rw [e9]
        exact ⟨rfl, rfl⟩
      · refine gg_aload_n dX1_passLetters_8 rfl rfl ?_
        refine gg_aload_n dX1_passLetters_9 rfl rfl ?_
        refine gk_getX1_22 rfl dX1_passLetters_10 uF_s ?_
        refine gc_X1_78 rfl dX1_passLetters_13 ⟨(Nat.le_of_ble_eq_true rfl), (Nat.le_of_ble_eq_true rfl)⟩ ⟨(Nat.le_of_ble_eq_true rfl), (Nat.le_of_ble_eq_true rfl)⟩ (Nat.le_of_ble_eq_true rfl) (HAt.mu gst_40) (c_X1_characterAt (G := uF G 3 (G 3 + k)) (by rw [uF_n (by decide)]; exact p4) (by rw [uF_s]; omega) (by rw [uF_n (by decide)]; exact p5) (p := G 3 + k) ⟨by omega, by omega⟩) (fun _ _ w => w.elim) (fun r_13 h_13 hp => ?_)
        obtain ⟨rfl, rfl⟩ := hp
        have hch : chA (uF G 3 (G 3 + k)) B (G 3 + k) = if G 3 + k < G 4 then B 41 (G 3 + k) else 0 := by
          unfold chA; rw [uF_n (by decide)]; by_cases q : G 3 + k < G 4
          · rw [if_pos (by omega), if_pos q]
          · rw [if_neg (by omega), if_neg q]
        rw [hch]
        have hcr : 0 ≤ (if G 3 + k < G 4 then B 41 (G 3 + k) else 0) ∧ (if G 3 + k < G 4 then B 41 (G 3 + k) else 0) < 65536 := by
          split
          · exact p5 _ (by omega) (by omega)
          · omega
        refine gi_bipush dX1_passLetters_16 (by decide) ?_
        refine gi_icmp_lt (tgt := 50) dX1_passLetters_18 (by decide) ⟨by omega, by omega⟩ ⟨by omega, by omega⟩ (fun c_18 => ?_) (fun c_18 => ?_)
        · refine gg_iload_n dX1_passLetters_50 rfl ?_
          subst hQF9
          refine gg_iret dX1_passLetters_51 rfl rfl ⟨(Nat.le_of_ble_eq_true rfl), (Nat.le_of_ble_eq_true rfl)⟩ ?_
          have e9 : wlen (B 41) (G 4) 12 (G 3) = k := by
            rw [E]
            rw [wlen_s hk.1 (by omega), if_neg ?_]
            · omega
            · rintro ⟨q1, q2⟩
              unfold isLet at q2; rw [Bool.and_eq_true, decide_eq_true_iff, decide_eq_true_iff] at q2
              rw [if_pos q1] at c_18
              omega
          rw [e9]
          exact ⟨rfl, rfl⟩
        · refine gg_aload_n dX1_passLetters_21 rfl rfl ?_
          refine gg_aload_n dX1_passLetters_22 rfl rfl ?_
          refine gk_getX1_22 rfl dX1_passLetters_23 uF_s ?_
          refine gc_X1_78 rfl dX1_passLetters_26 ⟨(Nat.le_of_ble_eq_true rfl), (Nat.le_of_ble_eq_true rfl)⟩ ⟨(Nat.le_of_ble_eq_true rfl), (Nat.le_of_ble_eq_true rfl)⟩ (Nat.le_of_ble_eq_true rfl) (HAt.mu gst_40) (c_X1_characterAt (G := uF G 3 (G 3 + k)) (by rw [uF_n (by decide)]; exact p4) (by rw [uF_s]; omega) (by rw [uF_n (by decide)]; exact p5) (p := G 3 + k) ⟨by omega, by omega⟩) (fun _ _ w => w.elim) (fun r_26 h_26 hp => ?_)
          obtain ⟨rfl, rfl⟩ := hp
          rw [hch]
          refine gi_bipush dX1_passLetters_29 (by decide) ?_
          refine gi_icmp_gt (tgt := 50) dX1_passLetters_31 (by decide) ⟨by omega, by omega⟩ ⟨by omega, by omega⟩ (fun c_31 => ?_) (fun c_31 => ?_)
          · refine gg_iload_n dX1_passLetters_50 rfl ?_
            subst hQF9
            refine gg_iret dX1_passLetters_51 rfl rfl ⟨(Nat.le_of_ble_eq_true rfl), (Nat.le_of_ble_eq_true rfl)⟩ ?_
            have e9 : wlen (B 41) (G 4) 12 (G 3) = k := by
              rw [E]
              rw [wlen_s hk.1 (by omega), if_neg ?_]
              · omega
              · rintro ⟨q1, q2⟩
                unfold isLet at q2; rw [Bool.and_eq_true, decide_eq_true_iff, decide_eq_true_iff] at q2
                rw [if_pos q1] at c_31
                omega
            rw [e9]
            exact ⟨rfl, rfl⟩
          · refine gg_aload_n dX1_passLetters_34 rfl rfl ?_
            refine gg_dup dX1_passLetters_35 rfl ?_
            refine gk_getX1_22 rfl dX1_passLetters_36 uF_s ?_
            refine gi_iconst dX1_passLetters_39 ?_
            refine gi_iadd dX1_passLetters_40 ?_
            refine gk_putX1_22 rfl dX1_passLetters_41 (by rw [uF_ss, Int.add_assoc]) ?_
            refine gi_iinc dX1_passLetters_44 rfl (Nat.le_of_ble_eq_true rfl) rfl ?_
            refine gg_goto (tgt := 2) dX1_passLetters_47 (by decide) ?_
            have q1 : G 3 + k < G 4 := by
              rcases Int.lt_or_le (G 3 + k) (G 4) with q | q
              · exact q
              · rw [if_neg (by omega)] at c_18; omega
            rw [if_pos q1] at c_18 c_31
            refine ih_2 _ (by omega) (k + 1) rfl (by omega) (by omega) ?_
            rw [E, wlen_s hk.1 (by omega), if_pos ⟨q1, by unfold isLet; rw [decide_eq_true c_18, decide_eq_true c_31]; rfl⟩, Int.add_assoc (G 3) k 1]; omega
  exact gg_conv (L_2 _ 0 rfl (by omega) (by omega) (by rw [Int.sub_zero, Int.add_zero, Int.zero_add]; rfl)) (by rw [Int.add_zero, uF_id]) rfl rfl
set_option maxRecDepth 100000 in
set_option maxHeartbeats 4000000 in
theorem c_X1_passDigit {Γ : GT} {h : XH} {G : Nat → Int} {B : Nat → Int → Int} (p4 : 0 ≤ G 4 ∧ G 4 ≤ 60) (p3 : 0 ≤ G 3 ∧ G 3 ≤ 100) (p5 : ∀ k, 0 ≤ k → k < G 4 → 0 ≤ B 41 k ∧ B 41 k < 65536) {a b : Int} (ha : 0 ≤ a ∧ a ≤ 9) (hb : -1 ≤ b ∧ b ≤ 9) : Ct Γ M_X1_passDigit [.ref (g_L Γ 40), .int (iN a), .int (iN b)] (gst Γ h G B) (fun r h9 => r = some (.int (iN (if (G 3 < G 4 ∧ 48 + a ≤ B 41 (G 3) ∧ B 41 (G 3) ≤ 48 + b) then B 41 (G 3) - 48 else -1))) ∧ h9 = gst Γ h (if (G 3 < G 4 ∧ 48 + a ≤ B 41 (G 3) ∧ B 41 (G 3) ≤ 48 + b) then uF G 3 (G 3 + 1) else G) B) (fun _ _ => False) := by
  refine Ct.of rfl (by decide +kernel) (Nat.le_of_ble_eq_true rfl) ?_
  generalize hQF9 : QM Γ _ _ _ = QF9
  refine gg_aload_n dX1_passDigit_0 rfl rfl ?_
  refine gg_aload_n dX1_passDigit_1 rfl rfl ?_
  refine gk_getX1_22 rfl dX1_passDigit_2 (by (try simp only [uF_s, uF_n, ne_eq, not_false_eq_true, Nat.reduceEqDiff, reduceCtorEq]); rfl) ?_
  refine gc_X1_78 rfl dX1_passDigit_5 ⟨(Nat.le_of_ble_eq_true rfl), (Nat.le_of_ble_eq_true rfl)⟩ ⟨(Nat.le_of_ble_eq_true rfl), (Nat.le_of_ble_eq_true rfl)⟩ (Nat.le_of_ble_eq_true rfl) (HAt.mu gst_40) (c_X1_characterAt p4 p3 p5 (p := G 3) ⟨by omega, by omega⟩) (fun _ _ w => w.elim) (fun r_5 h_5 hp => ?_)
  obtain ⟨rfl, rfl⟩ := hp
  have hch : (G 3 < G 4 ∧ chA G B (G 3) = B 41 (G 3) ∧ 0 ≤ B 41 (G 3) ∧ B 41 (G 3) < 65536) ∨ (G 4 ≤ G 3 ∧ chA G B (G 3) = 0) := by
    unfold chA; rcases Int.lt_or_le (G 3) (G 4) with q | q
    · rw [if_pos (by omega)]; exact Or.inl ⟨q, rfl, p5 _ (by omega) q⟩
    · rw [if_neg (by omega)]; exact Or.inr ⟨q, rfl⟩
  refine gi_bipush dX1_passDigit_8 (by decide) ?_
  refine gi_isub dX1_passDigit_10 ?_
  refine gg_istore_n dX1_passDigit_11 (Nat.le_of_ble_eq_true rfl) rfl ?_
  refine gg_iload_n dX1_passDigit_12 rfl ?_
  refine gg_iload_n dX1_passDigit_13 rfl ?_
  refine gi_icmp_lt (tgt := 22) dX1_passDigit_14 (by decide) ⟨by omega, by omega⟩ ⟨by omega, by omega⟩ (fun c_14 => ?_) (fun c_14 => ?_)
  · refine gi_iconst dX1_passDigit_22 ?_
    subst hQF9
    refine gg_iret dX1_passDigit_23 rfl rfl ⟨(Nat.le_of_ble_eq_true rfl), (Nat.le_of_ble_eq_true rfl)⟩ ?_
    exact ⟨by rw [if_neg (by omega)], by rw [if_neg (by omega)]⟩
  · refine gg_iload_n dX1_passDigit_17 rfl ?_
    refine gg_iload_n dX1_passDigit_18 rfl ?_
    refine gi_icmp_le (tgt := 24) dX1_passDigit_19 (by decide) ⟨by omega, by omega⟩ ⟨by omega, by omega⟩ (fun c_19 => ?_) (fun c_19 => ?_)
    · refine gg_aload_n dX1_passDigit_24 rfl rfl ?_
      refine gg_dup dX1_passDigit_25 rfl ?_
      refine gk_getX1_22 rfl dX1_passDigit_26 (by (try simp only [uF_s, uF_n, ne_eq, not_false_eq_true, Nat.reduceEqDiff, reduceCtorEq]); rfl) ?_
      refine gi_iconst dX1_passDigit_29 ?_
      refine gi_iadd dX1_passDigit_30 ?_
      refine gk_putX1_22 rfl dX1_passDigit_31 rfl ?_
      refine gg_iload_n dX1_passDigit_34 rfl ?_
      subst hQF9
      refine gg_iret dX1_passDigit_35 rfl rfl ⟨(Nat.le_of_ble_eq_true rfl), (Nat.le_of_ble_eq_true rfl)⟩ ?_
      exact ⟨by rw [if_pos (by omega)]; congr 3; omega, by rw [if_pos (by omega)]⟩
    · refine gi_iconst dX1_passDigit_22 ?_
      subst hQF9
      refine gg_iret dX1_passDigit_23 rfl rfl ⟨(Nat.le_of_ble_eq_true rfl), (Nat.le_of_ble_eq_true rfl)⟩ ?_
      exact ⟨by rw [if_neg (by omega)], by rw [if_neg (by omega)]⟩
set_option maxRecDepth 100000 in
set_option maxHeartbeats 4000000 in
theorem c_X1_append {Γ : GT} {h : XH} {G : Nat → Int} {B : Nat → Int → Int} (p4 : 0 ≤ G 4 ∧ G 4 ≤ 60) (p3 : 0 ≤ G 3 ∧ G 3 ≤ 100) (p5 : ∀ k, 0 ≤ k → k < G 4 → 0 ≤ B 41 k ∧ B 41 k < 65536) {c : Int} (hc : 0 ≤ c ∧ c < 65536) (hl : G 4 < 60) : Ct Γ M_X1_append [.ref (g_L Γ 40), .int (iN c)] (gst Γ h G B) (fun r h9 => r = some (.int (iN (G 4 + 1))) ∧ h9 = gst Γ h (uF G 4 (G 4 + 1)) (uA B 41 (up (B 41) (G 4) c))) (fun _ _ => False) := by
  refine Ct.of rfl (by decide +kernel) (Nat.le_of_ble_eq_true rfl) ?_
  generalize hQF9 : QM Γ _ _ _ = QF9
  refine gg_aload_n dX1_append_0 rfl rfl ?_
  refine gk_getX1_26 rfl dX1_append_1 (by (try simp only [uF_s, uF_n, ne_eq, not_false_eq_true, Nat.reduceEqDiff, reduceCtorEq]); rfl) ?_
  refine gg_aload_n dX1_append_4 rfl rfl ?_
  refine gk_getX1_9 rfl dX1_append_5 ?_
  refine gi_alen dX1_append_8 (HAt.mu gst_41) (by decide) ?_
  refine gi_icmp_ge (tgt := 32) dX1_append_9 (by decide) ⟨by omega, by omega⟩ (by decide) (fun c_9 => ?_) (fun c_9 => ?_)
  · have c_10 : (60 : Int) ≤ G 4 := c_9
    omega
  · refine gg_aload_n dX1_append_12 rfl rfl ?_
    refine gk_getX1_9 rfl dX1_append_13 ?_
    refine gg_aload_n dX1_append_16 rfl rfl ?_
    refine gk_getX1_26 rfl dX1_append_17 (by (try simp only [uF_s, uF_n, ne_eq, not_false_eq_true, Nat.reduceEqDiff, reduceCtorEq]); rfl) ?_
    refine gg_iload_n dX1_append_20 rfl ?_
    refine gk_cast dX1_append_21 ⟨by omega, by omega⟩ hc rfl ?_
    refine gg_aload_n dX1_append_22 rfl rfl ?_
    refine gg_dup dX1_append_23 rfl ?_
    refine gk_getX1_26 rfl dX1_append_24 (by (try simp only [uF_s, uF_n, ne_eq, not_false_eq_true, Nat.reduceEqDiff, reduceCtorEq]); rfl) ?_
    refine gi_iconst dX1_append_27 ?_
    refine gi_iadd dX1_append_28 ?_
    refine gk_putX1_26 rfl dX1_append_29 rfl ?_
    refine gg_aload_n dX1_append_32 rfl rfl ?_
    refine gk_getX1_26 rfl dX1_append_33 (by (try simp only [uF_s, uF_n, ne_eq, not_false_eq_true, Nat.reduceEqDiff, reduceCtorEq]); rfl) ?_
    subst hQF9
    refine gg_iret dX1_append_36 rfl rfl ⟨(Nat.le_of_ble_eq_true rfl), (Nat.le_of_ble_eq_true rfl)⟩ ?_
    exact ⟨rfl, rfl⟩
set_option maxRecDepth 100000 in
set_option maxHeartbeats 4000000 in
theorem c_X1_close {Γ : GT} {h : XH} {G : Nat → Int} {B : Nat → Int → Int} (p4 : 0 ≤ G 4 ∧ G 4 ≤ 60) (p3 : 0 ≤ G 3 ∧ G 3 ≤ 100) (p5 : ∀ k, 0 ≤ k → k < G 4 → 0 ≤ B 41 k ∧ B 41 k < 65536) {x : Bool} : Ct Γ M_X1_close [.ref (g_L Γ 40), .int (iN (bi x))] (gst Γ h G B) (fun r h9 => r = none ∧ h9 = gst Γ h (uF (if x = true then G else uF G 5 (G 3)) 4 0) B) (fun _ _ => False) := by
  refine Ct.of rfl (by decide +kernel) (Nat.le_of_ble_eq_true rfl) ?_
  generalize hQF9 : QM Γ _ _ _ = QF9
  have hx9 := bi_01 x
  refine gg_iload_n dX1_close_0 rfl ?_
  refine gi_if_ne (tgt := 12) dX1_close_1 (by decide) (bi_r _) (fun c_1 => ?_) (fun c_1 => ?_)
  · rw [bi_t] at c_1
    refine gg_aload_n dX1_close_12 rfl rfl ?_
    refine gi_iconst dX1_close_13 ?_
    refine gk_putX1_26 rfl dX1_close_14 rfl ?_
    subst hQF9
    refine gg_vret dX1_close_17 rfl ⟨(Nat.le_of_ble_eq_true rfl), (Nat.le_of_ble_eq_true rfl)⟩ ?_
    rw [c_1]
    exact ⟨rfl, rfl⟩
  · rw [bi_f] at c_1
    refine gg_aload_n dX1_close_4 rfl rfl ?_
    refine gg_aload_n dX1_close_5 rfl rfl ?_
    refine gk_getX1_22 rfl dX1_close_6 (by (try simp only [uF_s, uF_n, ne_eq, not_false_eq_true, Nat.reduceEqDiff, reduceCtorEq]); rfl) ?_
    refine gk_putX1_29 rfl dX1_close_9 rfl ?_
    refine gg_aload_n dX1_close_12 rfl rfl ?_
    refine gi_iconst dX1_close_13 ?_
    refine gk_putX1_26 rfl dX1_close_14 rfl ?_
    subst hQF9
    refine gg_vret dX1_close_17 rfl ⟨(Nat.le_of_ble_eq_true rfl), (Nat.le_of_ble_eq_true rfl)⟩ ?_
    rw [c_1]
    exact ⟨rfl, rfl⟩
