/-! drafts and states -/
def RfO (ι : Nat → Option XE) (c : Nat) (x : Int) : Prop := x < 0 ∨ ∃ (q : Nat) (vs : List Value), x = (q : Int) ∧ ι q = some (.inr (c, vs))
theorem RfO.ext {ι ι' : Nat → Option XE} {c : Nat} {x : Int} (e : ext ι ι') (h : RfO ι c x) : RfO ι' c x := h.imp id (fun ⟨q, vs, h1, h2⟩ => ⟨q, vs, h1, e _ _ h2⟩)
/-- the references of all states are lines and exceptions -/
def WR (ι : Nat → Option XE) (B : Nat → Int → Int) : Prop := ∀ b : Nat, b ≤ 9 → (∀ (d : Nat) (l : Int), d ≤ 3 → 0 ≤ l → l < 10 → RfO ι 4 (B (106 + 11 * b + d) l)) ∧ ∀ e : Int, 0 ≤ e → e < 8 → RfO ι 5 (B (110 + 11 * b) e)
section RowsX
variable {Γ : GT} {M : MT} {QF : List Frame → Array Value → State → State → Prop} {cs : Nat × Nat} {h : XH} {pc : Nat} {lv : List (Option Value)} {st : List Value} {G : Nat → Int} {B : Nat → Int → Int}
theorem gk_astLx {b d : Nat} {i x : Int} (hb : b ≤ 9) (hdd : d ≤ 3) (hd : decode M.2.1 pc = .ok (.aastore, 1)) (hx : RfO h.2 4 x) (hi : 0 ≤ i ∧ i < 10) {B' : Nat → Int → Int} (hB : uA B (106 + 11 * b + d) (up (B (106 + 11 * b + d)) i x) = B') (k : GG Γ M QF cs (gst Γ h G B') (pc + 1) lv st) : GG Γ M QF cs (gst Γ h G B) pc lv (va_rf (rfo x) :: .int (iN i) :: .ref (g_L Γ (106 + 11 * b + d)) :: st) := by
  rcases hx with hx | ⟨q, vs, rfl, hq⟩
  · rw [rfo_none hx]; exact gk_astLN hx hb hdd hd hi hB k
  · rw [rfo_some]; exact gk_astL hb hdd hd hq hi hB k
theorem gk_astMx {b : Nat} {i x : Int} (hb : b ≤ 9) (hd : decode M.2.1 pc = .ok (.aastore, 1)) (hx : RfO h.2 5 x) (hi : 0 ≤ i ∧ i < 8) {B' : Nat → Int → Int} (hB : uA B (110 + 11 * b) (up (B (110 + 11 * b)) i x) = B') (k : GG Γ M QF cs (gst Γ h G B') (pc + 1) lv st) : GG Γ M QF cs (gst Γ h G B) pc lv (va_rf (rfo x) :: .int (iN i) :: .ref (g_L Γ (110 + 11 * b)) :: st) := by
  rcases hx with hx | ⟨q, vs, rfl, hq⟩
  · rw [rfo_none hx]; exact gk_astMN hx hb hd hi hB k
  · rw [rfo_some]; exact gk_astM hb hd hq hi hB k
end RowsX
theorem rfr_ref (x : Int) : (va_rf (rfo x)).isRef = true := by unfold rfo; split <;> rfl
set_option maxRecDepth 100000 in
set_option maxHeartbeats 4000000 in
theorem c_X0_lineOf {Γ : GT} {h : XH} {G : Nat → Int} {B : Nat → Int → Int} {b d : Nat} (hb9 : b ≤ 9) (hd9 : d ≤ 3) (hc : 0 ≤ G (103 + 10 * b + d) ∧ G (103 + 10 * b + d) ≤ 10) {i : Int} (hi : InR i) : Ct Γ M_X0_lineOf [.ref (g_L Γ (102 + 11 * b + d)), .int (iN i)] (gst Γ h G B) (fun r h9 => r = some (va_rf (if 0 ≤ i ∧ i < G (103 + 10 * b + d) then rfo (B (106 + 11 * b + d) i) else none)) ∧ h9 = gst Γ h G B) (fun _ _ => False) := by
  refine Ct.of rfl (by decide +kernel) (Nat.le_of_ble_eq_true rfl) ?_
  generalize hQF9 : QM Γ _ _ _ = QF9
  refine gg_iload_n dX0_lineOf_0 rfl ?_
  refine gi_if_lt (tgt := 27) dX0_lineOf_1 (by decide) ⟨by omega, by omega⟩ (fun c_1 => ?_) (fun c_1 => ?_)
  · refine gg_null dX0_lineOf_27 ?_
    have L_28 : GG Γ M_X0_lineOf QF9 (0, 0) (gst Γ h G B) 28 [some (.ref (g_L Γ (102 + 11 * b + d))), some (.int (iN i))] [va_rf (if 0 ≤ i ∧ i < G (103 + 10 * b + d) then rfo (B (106 + 11 * b + d) i) else none)] := by
      subst hQF9
      refine gg_aret dX0_lineOf_28 rfl rfl (by split; exact rfr_ref _; rfl) ⟨(Nat.le_of_ble_eq_true rfl), (Nat.le_of_ble_eq_true rfl)⟩ ?_
      exact ⟨rfl, rfl⟩
    exact gg_conv L_28 rfl rfl (by rw [if_neg (by omega)]; rfl)
  · refine gg_iload_n dX0_lineOf_4 rfl ?_
    refine gg_aload_n dX0_lineOf_5 rfl rfl ?_
    refine gk_getX0_17 hb9 hd9 rfl dX0_lineOf_6 rfl ?_
    refine gi_icmp_ge (tgt := 27) dX0_lineOf_9 (by decide) ⟨by omega, by omega⟩ ⟨by omega, by omega⟩ (fun c_9 => ?_) (fun c_9 => ?_)
    · refine gg_null dX0_lineOf_27 ?_
      have L_28 : GG Γ M_X0_lineOf QF9 (0, 0) (gst Γ h G B) 28 [some (.ref (g_L Γ (102 + 11 * b + d))), some (.int (iN i))] [va_rf (if 0 ≤ i ∧ i < G (103 + 10 * b + d) then rfo (B (106 + 11 * b + d) i) else none)] := by
        subst hQF9
        refine gg_aret dX0_lineOf_28 rfl rfl (by split; exact rfr_ref _; rfl) ⟨(Nat.le_of_ble_eq_true rfl), (Nat.le_of_ble_eq_true rfl)⟩ ?_
        exact ⟨rfl, rfl⟩
      exact gg_conv L_28 rfl rfl (by rw [if_neg (by omega)]; rfl)
    · refine gg_iload_n dX0_lineOf_12 rfl ?_
      refine gi_bipush dX0_lineOf_13 (by decide) ?_
      refine gi_icmp_ge (tgt := 27) dX0_lineOf_15 (by decide) ⟨by omega, by omega⟩ ⟨by omega, by omega⟩ (fun c_15 => ?_) (fun c_15 => ?_)
      · refine gg_null dX0_lineOf_27 ?_
        have L_28 : GG Γ M_X0_lineOf QF9 (0, 0) (gst Γ h G B) 28 [some (.ref (g_L Γ (102 + 11 * b + d))), some (.int (iN i))] [va_rf (if 0 ≤ i ∧ i < G (103 + 10 * b + d) then rfo (B (106 + 11 * b + d) i) else none)] := by
          subst hQF9
          refine gg_aret dX0_lineOf_28 rfl rfl (by split; exact rfr_ref _; rfl) ⟨(Nat.le_of_ble_eq_true rfl), (Nat.le_of_ble_eq_true rfl)⟩ ?_
          exact ⟨rfl, rfl⟩
        exact gg_conv L_28 rfl rfl (by rw [if_neg (by omega)]; rfl)
      · refine gg_aload_n dX0_lineOf_18 rfl rfl ?_
        refine gk_getX0_11 hb9 hd9 rfl dX0_lineOf_19 ?_
        refine gg_iload_n dX0_lineOf_22 rfl ?_
        refine gk_aldL hb9 hd9 dX0_lineOf_23 ⟨by omega, by omega⟩ rfl ?_
        refine gg_goto (tgt := 28) dX0_lineOf_24 (by decide) ?_
        have L_28 : GG Γ M_X0_lineOf QF9 (0, 0) (gst Γ h G B) 28 [some (.ref (g_L Γ (102 + 11 * b + d))), some (.int (iN i))] [va_rf (if 0 ≤ i ∧ i < G (103 + 10 * b + d) then rfo (B (106 + 11 * b + d) i) else none)] := by
          subst hQF9
          refine gg_aret dX0_lineOf_28 rfl rfl (by split; exact rfr_ref _; rfl) ⟨(Nat.le_of_ble_eq_true rfl), (Nat.le_of_ble_eq_true rfl)⟩ ?_
          exact ⟨rfl, rfl⟩
        exact gg_conv L_28 rfl rfl (by rw [if_pos (by omega)])
set_option maxRecDepth 100000 in
set_option maxHeartbeats 4000000 in
theorem c_X0_insert {Γ : GT} {h : XH} {G : Nat → Int} {B : Nat → Int → Int} {b d : Nat} (hb9 : b ≤ 9) (hd9 : d ≤ 3) (hc : 0 ≤ G (103 + 10 * b + d) ∧ G (103 + 10 * b + d) < 10) (hL : ∀ l, 0 ≤ l → l < 10 → RfO h.2 4 (B (106 + 11 * b + d) l)) {i : Int} (hi : 0 ≤ i ∧ i ≤ G (103 + 10 * b + d)) {q : Nat} {vs : List Value} (hq : h.2 q = some (.inr (4, vs))) : Ct Γ M_X0_insert [.ref (g_L Γ (102 + 11 * b + d)), .int (iN i), .ref q] (gst Γ h G B) (fun r h9 => r = none ∧ h9 = gst Γ h (uF G (103 + 10 * b + d) (G (103 + 10 * b + d) + 1)) (uA B (106 + 11 * b + d) (up (shu (B (106 + 11 * b + d)) i (G (103 + 10 * b + d)) 1) i (q : Int)))) (fun _ _ => False) := by
  refine Ct.of rfl (by decide +kernel) (Nat.le_of_ble_eq_true rfl) ?_
  generalize hQF9 : QM Γ _ _ _ = QF9
  refine gg_iload_n dX0_insert_0 rfl ?_
  refine gi_if_lt (tgt := 21) dX0_insert_1 (by decide) ⟨by omega, by omega⟩ (fun c_1 => ?_) (fun c_1 => ?_)
  · exact absurd c_1 (by omega)
  · refine gg_iload_n dX0_insert_4 rfl ?_
    refine gg_aload_n dX0_insert_5 rfl rfl ?_
    refine gk_getX0_17 hb9 hd9 rfl dX0_insert_6 rfl ?_
    refine gi_icmp_gt (tgt := 21) dX0_insert_9 (by decide) ⟨by omega, by omega⟩ ⟨by omega, by omega⟩ (fun c_9 => ?_) (fun c_9 => ?_)
    · exact absurd c_9 (by omega)
    · refine gg_aload_n dX0_insert_12 rfl rfl ?_
      refine gk_getX0_17 hb9 hd9 rfl dX0_insert_13 rfl ?_
      refine gi_bipush dX0_insert_16 (by decide) ?_
      refine gi_icmp_lt (tgt := 22) dX0_insert_18 (by decide) ⟨by omega, by omega⟩ ⟨by omega, by omega⟩ (fun c_18 => ?_) (fun c_18 => ?_)
      · refine gg_aload_n dX0_insert_22 rfl rfl ?_
        refine gk_getX0_17 hb9 hd9 rfl dX0_insert_23 rfl ?_
        refine gg_istore_n dX0_insert_26 (Nat.le_of_ble_eq_true rfl) rfl ?_
        have L_27 : ∀ (n9 : Nat) (k : Int), ((k - i).toNat) = n9 → ∀ (hk : i ≤ k ∧ k ≤ G (103 + 10 * b + d)), GG Γ M_X0_insert QF9 (0, 0) (gst Γ h G (uA B (106 + 11 * b + d) (shu (B (106 + 11 * b + d)) k (G (103 + 10 * b + d)) 1))) 27 [some (.ref (g_L Γ (102 + 11 * b + d))), some (.int (iN i)), some (.ref q), some (.int (iN k))] [] := by
          intro n9
          induction n9 using Nat.strongRecOn with
          | ind n9 ih_27 => 
            intro k hm9 hk
            refine gg_iload_n dX0_insert_27 rfl ?_
            refine gg_iload_n dX0_insert_28 rfl ?_
            refine gi_icmp_le (tgt := 52) dX0_insert_29 (by decide) ⟨by omega, by omega⟩ ⟨by omega, by omega⟩ (fun c_29 => ?_) (fun c_29 => ?_)
            · refine gg_aload_n dX0_insert_52 rfl rfl ?_
              refine gk_getX0_11 hb9 hd9 rfl dX0_insert_53 ?_
              refine gg_iload_n dX0_insert_56 rfl ?_
              refine gg_aload_n dX0_insert_57 rfl rfl ?_
              refine gk_astL hb9 hd9 dX0_insert_58 hq ⟨by omega, by omega⟩ rfl ?_
              rw [uA_s, uA_ss]
              refine gg_aload_n dX0_insert_59 rfl rfl ?_
              refine gg_dup dX0_insert_60 rfl ?_
              refine gk_getX0_17 hb9 hd9 rfl dX0_insert_61 rfl ?_
              refine gi_iconst dX0_insert_64 ?_
              refine gi_iadd dX0_insert_65 ?_
              refine gk_putX0_17 hb9 hd9 rfl dX0_insert_66 rfl ?_
              subst hQF9
              refine gg_vret dX0_insert_69 rfl ⟨(Nat.le_of_ble_eq_true rfl), (Nat.le_of_ble_eq_true rfl)⟩ ?_
              rw [show k = i by omega]
              exact ⟨rfl, rfl⟩
            · refine gg_aload_n dX0_insert_32 rfl rfl ?_
              refine gk_getX0_11 hb9 hd9 rfl dX0_insert_33 ?_
              refine gg_iload_n dX0_insert_36 rfl ?_
              refine gg_aload_n dX0_insert_37 rfl rfl ?_
              refine gk_getX0_11 hb9 hd9 rfl dX0_insert_38 ?_
              refine gg_iload_n dX0_insert_41 rfl ?_
              refine gi_iconst dX0_insert_42 ?_
              refine gi_isub dX0_insert_43 ?_
              refine gk_aldL hb9 hd9 dX0_insert_44 ⟨by omega, by omega⟩ rfl ?_
              rw [uA_s, show shu (B (106 + 11 * b + d)) k (G (103 + 10 * b + d)) 1 (k - 1) = B (106 + 11 * b + d) (k - 1) by unfold shu; rw [if_neg (by omega)]]
              refine gk_astLx hb9 hd9 dX0_insert_45 (hL _ (by omega) (by omega)) ⟨by omega, by omega⟩ rfl ?_
              rw [uA_s, uA_ss]
              refine gi_iinc dX0_insert_46 rfl (Nat.le_of_ble_eq_true rfl) rfl ?_
              refine gg_goto (tgt := 27) dX0_insert_49 (by decide) ?_
              refine gg_conv (ih_27 _ (by omega) (k + -1) rfl (by omega)) ?_ rfl rfl
              rw [← Int.sub_eq_add_neg]
              congr 2
              funext j
              unfold up shu
              by_cases e : j = k
              · rw [if_pos e, if_pos (by omega), e]
              · rw [if_neg e]; by_cases e2 : k + 1 ≤ j ∧ j < G (103 + 10 * b + d) + 1
                · rw [if_pos e2, if_pos (by omega)]
                · rw [if_neg e2, if_neg (by omega)]
        exact gg_conv (L_27 _ (G (103 + 10 * b + d)) rfl (by omega)) (by rw [shu_0, uA_id]) rfl rfl
      · exact absurd c_18 (by omega)
set_option maxRecDepth 100000 in
set_option maxHeartbeats 4000000 in
theorem c_X0_put {Γ : GT} {h : XH} {G : Nat → Int} {B : Nat → Int → Int} {b d : Nat} (hb9 : b ≤ 9) (hd9 : d ≤ 3) (hc : 0 ≤ G (103 + 10 * b + d) ∧ G (103 + 10 * b + d) ≤ 10) {i : Int} (hi : 0 ≤ i ∧ i < G (103 + 10 * b + d)) {q : Nat} {vs : List Value} (hq : h.2 q = some (.inr (4, vs))) : Ct Γ M_X0_put [.ref (g_L Γ (102 + 11 * b + d)), .int (iN i), .ref q] (gst Γ h G B) (fun r h9 => r = none ∧ h9 = gst Γ h G (uA B (106 + 11 * b + d) (up (B (106 + 11 * b + d)) i (q : Int)))) (fun _ _ => False) := by
  refine Ct.of rfl (by decide +kernel) (Nat.le_of_ble_eq_true rfl) ?_
  generalize hQF9 : QM Γ _ _ _ = QF9
  refine gg_iload_n dX0_put_0 rfl ?_
  refine gi_if_lt (tgt := 19) dX0_put_1 (by decide) ⟨by omega, by omega⟩ (fun c_1 => ?_) (fun c_1 => ?_)
  · exact absurd c_1 (by omega)
  · refine gg_iload_n dX0_put_4 rfl ?_
    refine gg_aload_n dX0_put_5 rfl rfl ?_
    refine gk_getX0_17 hb9 hd9 rfl dX0_put_6 rfl ?_
    refine gi_icmp_ge (tgt := 19) dX0_put_9 (by decide) ⟨by omega, by omega⟩ ⟨by omega, by omega⟩ (fun c_9 => ?_) (fun c_9 => ?_)
    · exact absurd c_9 (by omega)
    · refine gg_aload_n dX0_put_12 rfl rfl ?_
      refine gk_getX0_11 hb9 hd9 rfl dX0_put_13 ?_
      refine gg_iload_n dX0_put_16 rfl ?_
      refine gg_aload_n dX0_put_17 rfl rfl ?_
      refine gk_astL hb9 hd9 dX0_put_18 hq ⟨by omega, by omega⟩ rfl ?_
      subst hQF9
      refine gg_vret dX0_put_19 rfl ⟨(Nat.le_of_ble_eq_true rfl), (Nat.le_of_ble_eq_true rfl)⟩ ?_
      exact ⟨rfl, rfl⟩
set_option maxRecDepth 100000 in
set_option maxHeartbeats 4000000 in
theorem c_X0_remove {Γ : GT} {h : XH} {G : Nat → Int} {B : Nat → Int → Int} {b d : Nat} (hb9 : b ≤ 9) (hd9 : d ≤ 3) (hc : 0 ≤ G (103 + 10 * b + d) ∧ G (103 + 10 * b + d) ≤ 10) (hL : ∀ l, 0 ≤ l → l < 10 → RfO h.2 4 (B (106 + 11 * b + d) l)) {i : Int} (hi : 0 ≤ i ∧ i < G (103 + 10 * b + d)) : Ct Γ M_X0_remove [.ref (g_L Γ (102 + 11 * b + d)), .int (iN i)] (gst Γ h G B) (fun r h9 => r = none ∧ h9 = gst Γ h (uF G (103 + 10 * b + d) (G (103 + 10 * b + d) - 1)) (uA B (106 + 11 * b + d) (up (shd (B (106 + 11 * b + d)) i (G (103 + 10 * b + d) - 1) 1) (G (103 + 10 * b + d) - 1) (-1)))) (fun _ _ => False) := by
  refine Ct.of rfl (by decide +kernel) (Nat.le_of_ble_eq_true rfl) ?_
  generalize hQF9 : QM Γ _ _ _ = QF9
  refine gg_iload_n dX0_remove_0 rfl ?_
  refine gi_if_lt (tgt := 12) dX0_remove_1 (by decide) ⟨by omega, by omega⟩ (fun c_1 => ?_) (fun c_1 => ?_)
  · exact absurd c_1 (by omega)
  · refine gg_iload_n dX0_remove_4 rfl ?_
    refine gg_aload_n dX0_remove_5 rfl rfl ?_
    refine gk_getX0_17 hb9 hd9 rfl dX0_remove_6 rfl ?_
    refine gi_icmp_lt (tgt := 13) dX0_remove_9 (by decide) ⟨by omega, by omega⟩ ⟨by omega, by omega⟩ (fun c_9 => ?_) (fun c_9 => ?_)
    · refine gg_iload_n dX0_remove_13 rfl ?_
      refine gi_iconst dX0_remove_14 ?_
      refine gi_iadd dX0_remove_15 ?_
      refine gg_istore_n dX0_remove_16 (Nat.le_of_ble_eq_true rfl) rfl ?_
      have L_17 : ∀ (n9 : Nat) (k : Int), ((G (103 + 10 * b + d) - k).toNat) = n9 → ∀ (hk : i + 1 ≤ k ∧ k ≤ G (103 + 10 * b + d)), GG Γ M_X0_remove QF9 (0, 0) (gst Γ h G (uA B (106 + 11 * b + d) (shd (B (106 + 11 * b + d)) i (k - 1) 1))) 17 [some (.ref (g_L Γ (102 + 11 * b + d))), some (.int (iN i)), some (.int (iN k))] [] := by
        intro n9
        induction n9 using Nat.strongRecOn with
        | ind n9 ih_17 => 
          intro k hm9 hk
          refine gg_iload_n dX0_remove_17 rfl ?_
          refine gg_aload_n dX0_remove_18 rfl rfl ?_
          refine gk_getX0_17 hb9 hd9 rfl dX0_remove_19 rfl ?_
          refine gi_icmp_ge (tgt := 45) dX0_remove_22 (by decide) ⟨by omega, by omega⟩ ⟨by omega, by omega⟩ (fun c_22 => ?_) (fun c_22 => ?_)
          · refine gg_aload_n dX0_remove_45 rfl rfl ?_
            refine gg_dup dX0_remove_46 rfl ?_
            refine gk_getX0_17 hb9 hd9 rfl dX0_remove_47 rfl ?_
            refine gi_iconst dX0_remove_50 ?_
            refine gi_isub dX0_remove_51 ?_
            refine gk_putX0_17 hb9 hd9 rfl dX0_remove_52 rfl ?_
            refine gg_aload_n dX0_remove_55 rfl rfl ?_
            refine gk_getX0_11 hb9 hd9 rfl dX0_remove_56 ?_
            refine gg_aload_n dX0_remove_59 rfl rfl ?_
            refine gk_getX0_17 hb9 hd9 rfl dX0_remove_60 uF_s ?_
            refine gg_null dX0_remove_63 ?_
            refine gk_astLN (x := -1) (by decide) hb9 hd9 dX0_remove_64 ⟨by omega, by omega⟩ rfl ?_
            rw [uA_s, uA_ss]
            subst hQF9
            refine gg_vret dX0_remove_65 rfl ⟨(Nat.le_of_ble_eq_true rfl), (Nat.le_of_ble_eq_true rfl)⟩ ?_
            rw [show k = G (103 + 10 * b + d) by omega]
            exact ⟨rfl, rfl⟩
          · refine gg_aload_n dX0_remove_25 rfl rfl ?_
            refine gk_getX0_11 hb9 hd9 rfl dX0_remove_26 ?_
            refine gg_iload_n dX0_remove_29 rfl ?_
            refine gi_iconst dX0_remove_30 ?_
            refine gi_isub dX0_remove_31 ?_
            refine gg_aload_n dX0_remove_32 rfl rfl ?_
            refine gk_getX0_11 hb9 hd9 rfl dX0_remove_33 ?_
            refine gg_iload_n dX0_remove_36 rfl ?_
            refine gk_aldL hb9 hd9 dX0_remove_37 ⟨by omega, by omega⟩ rfl ?_
            rw [uA_s, show shd (B (106 + 11 * b + d)) i (k - 1) 1 k = B (106 + 11 * b + d) k by unfold shd; rw [if_neg (by omega)]]
            refine gk_astLx hb9 hd9 dX0_remove_38 (hL _ (by omega) (by omega)) ⟨by omega, by omega⟩ rfl ?_
            rw [uA_s, uA_ss]
            refine gi_iinc dX0_remove_39 rfl (Nat.le_of_ble_eq_true rfl) rfl ?_
            refine gg_goto (tgt := 17) dX0_remove_42 (by decide) ?_
            refine gg_conv (ih_17 _ (by omega) (k + 1) rfl (by omega)) ?_ rfl rfl
            congr 2
            funext j
            unfold up shd
            by_cases e : j = k - 1
            · rw [if_pos e, if_pos (by omega), e, show k - 1 + 1 = k by omega]
            · rw [if_neg e]; by_cases e2 : i ≤ j ∧ j < k - 1
              · rw [if_pos e2, if_pos (by omega)]
              · rw [if_neg e2, if_neg (by omega)]
      exact gg_conv (L_17 _ (i + 1) rfl (by omega)) (by rw [show i + 1 - 1 = i by omega, shd_0, uA_id]) rfl rfl
    · exact absurd c_9 (by omega)
set_option maxRecDepth 100000 in
set_option maxHeartbeats 4000000 in
theorem c_X0_empty {Γ : GT} {h : XH} {G : Nat → Int} {B : Nat → Int → Int} {b d : Nat} (hb9 : b ≤ 9) (hd9 : d ≤ 3) : Ct Γ M_X0_empty [.ref (g_L Γ (102 + 11 * b + d))] (gst Γ h G B) (fun r h9 => r = none ∧ h9 = gst Γ h (uF G (103 + 10 * b + d) 0) (uA B (106 + 11 * b + d) (fillF (B (106 + 11 * b + d)) (-1) 10))) (fun _ _ => False) := by
  refine Ct.of rfl (by decide +kernel) (Nat.le_of_ble_eq_true rfl) ?_
  generalize hQF9 : QM Γ _ _ _ = QF9
  refine gi_iconst dX0_empty_0 ?_
  refine gg_istore_n dX0_empty_1 (Nat.le_of_ble_eq_true rfl) rfl ?_
  have L_2 : ∀ (n9 : Nat) (k : Int), ((10 - k).toNat) = n9 → ∀ (hk : 0 ≤ k ∧ k ≤ 10), GG Γ M_X0_empty QF9 (0, 0) (gst Γ h G (uA B (106 + 11 * b + d) (fillF (B (106 + 11 * b + d)) (-1) k))) 2 [some (.ref (g_L Γ (102 + 11 * b + d))), some (.int (iN k))] [] := by
    intro n9
    induction n9 using Nat.strongRecOn with
    | ind n9 ih_2 => 
      intro k hm9 hk
      refine gg_iload_n dX0_empty_2 rfl ?_
      refine gi_bipush dX0_empty_3 (by decide) ?_
      refine gi_icmp_ge (tgt := 21) dX0_empty_5 (by decide) ⟨by omega, by omega⟩ ⟨by omega, by omega⟩ (fun c_5 => ?_) (fun c_5 => ?_)
      · refine gg_aload_n dX0_empty_21 rfl rfl ?_
        refine gi_iconst dX0_empty_22 ?_
        refine gk_putX0_17 hb9 hd9 rfl dX0_empty_23 rfl ?_
        subst hQF9
        refine gg_vret dX0_empty_26 rfl ⟨(Nat.le_of_ble_eq_true rfl), (Nat.le_of_ble_eq_true rfl)⟩ ?_
        rw [show k = 10 by omega]
        exact ⟨rfl, rfl⟩
      · refine gg_aload_n dX0_empty_8 rfl rfl ?_
        refine gk_getX0_11 hb9 hd9 rfl dX0_empty_9 ?_
        refine gg_iload_n dX0_empty_12 rfl ?_
        refine gg_null dX0_empty_13 ?_
        refine gk_astLN (x := -1) (by decide) hb9 hd9 dX0_empty_14 ⟨by omega, by omega⟩ rfl ?_
        rw [uA_s, uA_ss]
        refine gi_iinc dX0_empty_15 rfl (Nat.le_of_ble_eq_true rfl) rfl ?_
        refine gg_goto (tgt := 2) dX0_empty_18 (by decide) ?_
        exact gg_conv (ih_2 _ (by omega) (k + 1) rfl (by omega)) (by rw [fillF_s hk.1]) rfl rfl
  exact gg_conv (L_2 _ 0 rfl (by omega)) (by rw [fillF_0, uA_id]) rfl rfl
theorem cp_at {A : Nat → Int → Int} {j j2 : Nat} {k : Int} : uA A j (cp (A j2) (A j) 0 0 k) j2 k = A j2 k := by
  unfold uA
  split
  · rename_i e
    unfold cp; rw [if_neg (by omega), e]
  · rfl
set_option maxRecDepth 100000 in
set_option maxHeartbeats 4000000 in
theorem c_X0_become {Γ : GT} {h : XH} {G : Nat → Int} {B : Nat → Int → Int} {b d : Nat} (hb9 : b ≤ 9) (hd9 : d ≤ 3) {b2 d2 : Nat} (hb8 : b2 ≤ 9) (hd8 : d2 ≤ 3) (hL : ∀ l, 0 ≤ l → l < 10 → RfO h.2 4 (B (106 + 11 * b2 + d2) l)) : Ct Γ M_X0_become [.ref (g_L Γ (102 + 11 * b + d)), .ref (g_L Γ (102 + 11 * b2 + d2))] (gst Γ h G B) (fun r h9 => r = none ∧ h9 = gst Γ h (uF G (103 + 10 * b + d) (G (103 + 10 * b2 + d2))) (uA B (106 + 11 * b + d) (cp (B (106 + 11 * b2 + d2)) (B (106 + 11 * b + d)) 0 0 10))) (fun _ _ => False) := by
  refine Ct.of rfl (by decide +kernel) (Nat.le_of_ble_eq_true rfl) ?_
  generalize hQF9 : QM Γ _ _ _ = QF9
  refine gi_iconst dX0_become_0 ?_
  refine gg_istore_n dX0_become_1 (Nat.le_of_ble_eq_true rfl) rfl ?_
  have L_2 : ∀ (n9 : Nat) (k : Int), ((10 - k).toNat) = n9 → ∀ (hk : 0 ≤ k ∧ k ≤ 10), GG Γ M_X0_become QF9 (0, 0) (gst Γ h G (uA B (106 + 11 * b + d) (cp (B (106 + 11 * b2 + d2)) (B (106 + 11 * b + d)) 0 0 k))) 2 [some (.ref (g_L Γ (102 + 11 * b + d))), some (.ref (g_L Γ (102 + 11 * b2 + d2))), some (.int (iN k))] [] := by
    intro n9
    induction n9 using Nat.strongRecOn with
    | ind n9 ih_2 => 
      intro k hm9 hk
      refine gg_iload_n dX0_become_2 rfl ?_
      refine gi_bipush dX0_become_3 (by decide) ?_
      refine gi_icmp_ge (tgt := 26) dX0_become_5 (by decide) ⟨by omega, by omega⟩ ⟨by omega, by omega⟩ (fun c_5 => ?_) (fun c_5 => ?_)
      · refine gg_aload_n dX0_become_26 rfl rfl ?_
        refine gg_aload_n dX0_become_27 rfl rfl ?_
        refine gk_getX0_17 hb8 hd8 rfl dX0_become_28 rfl ?_
        refine gk_putX0_17 hb9 hd9 rfl dX0_become_31 rfl ?_
        subst hQF9
        refine gg_vret dX0_become_34 rfl ⟨(Nat.le_of_ble_eq_true rfl), (Nat.le_of_ble_eq_true rfl)⟩ ?_
        rw [show k = 10 by omega]
        exact ⟨rfl, rfl⟩
      · refine gg_aload_n dX0_become_8 rfl rfl ?_
        refine gk_getX0_11 hb9 hd9 rfl dX0_become_9 ?_
        refine gg_iload_n dX0_become_12 rfl ?_
        refine gg_aload_n dX0_become_13 rfl rfl ?_
        refine gk_getX0_11 hb8 hd8 rfl dX0_become_14 ?_
        refine gg_iload_n dX0_become_17 rfl ?_
        refine gk_aldL hb8 hd8 dX0_become_18 ⟨by omega, by omega⟩ rfl ?_
        rw [cp_at]
        refine gk_astLx hb9 hd9 dX0_become_19 (hL _ (by omega) (by omega)) ⟨by omega, by omega⟩ rfl ?_
        rw [uA_s, uA_ss]
        refine gi_iinc dX0_become_20 rfl (Nat.le_of_ble_eq_true rfl) rfl ?_
        refine gg_goto (tgt := 2) dX0_become_23 (by decide) ?_
        exact gg_conv (ih_2 _ (by omega) (k + 1) rfl (by omega)) (by rw [← cp_s hk.1, Int.zero_add]) rfl rfl
  exact gg_conv (L_2 _ 0 rfl (by omega)) (by rw [cp_0, uA_id]) rfl rfl
/-- a state copied to another one: its ints, its rows -/
def cI (G : Nat → Int) (b b2 i : Nat) : Nat → Int := fun k => if (100 + 10 * b ≤ k ∧ k ≤ 101 + 10 * b) ∨ (103 + 10 * b ≤ k ∧ k < 103 + 10 * b + i) then G (k - 10 * b + 10 * b2) else G k
def cR (B : Nat → Int → Int) (b b2 i : Nat) : Nat → Int → Int := fun j => if 106 + 11 * b ≤ j ∧ j < 106 + 11 * b + i then cp (B (j - 11 * b + 11 * b2)) (B j) 0 0 10 else B j
def bcG (G : Nat → Int) (b b2 : Nat) : Nat → Int := uF (cI G b b2 4) (102 + 10 * b) (G (102 + 10 * b2))
def bcB (B : Nat → Int → Int) (b b2 : Nat) : Nat → Int → Int := uA (cR B b b2 4) (110 + 11 * b) (cp (B (110 + 11 * b2)) (B (110 + 11 * b)) 0 0 8)
theorem cI_0 {G : Nat → Int} {b b2 : Nat} : uF (uF G (100 + 10 * b) (G (100 + 10 * b2))) (101 + 10 * b) (G (101 + 10 * b2)) = cI G b b2 0 := by
  funext k
  unfold cI
  by_cases e : k = 101 + 10 * b
  · rw [e, uF_s, if_pos (by omega)]; congr 1; omega
  · rw [uF_n e]
    by_cases e2 : k = 100 + 10 * b
    · rw [e2, uF_s, if_pos (by omega)]; congr 1; omega
    · rw [uF_n e2, if_neg (by omega)]
theorem cI_s {G : Nat → Int} {b b2 i : Nat} : uF (cI G b b2 i) (103 + 10 * b + i) (G (103 + 10 * b2 + i)) = cI G b b2 (i + 1) := by
  funext k
  by_cases e : k = 103 + 10 * b + i
  · rw [e, uF_s]; unfold cI; rw [if_pos (by omega)]; congr 1; omega
  · rw [uF_n e]; unfold cI
    by_cases q : (100 + 10 * b ≤ k ∧ k ≤ 101 + 10 * b) ∨ (103 + 10 * b ≤ k ∧ k < 103 + 10 * b + i)
    · rw [if_pos q, if_pos (by omega)]
    · rw [if_neg q, if_neg (by omega)]
theorem cR_0 {B : Nat → Int → Int} {b b2 : Nat} : cR B b b2 0 = B := by
  funext j; unfold cR; rw [if_neg (by omega)]
theorem cR_s {B : Nat → Int → Int} {b b2 i : Nat} : uA (cR B b b2 i) (106 + 11 * b + i) (cp (B (106 + 11 * b2 + i)) (B (106 + 11 * b + i)) 0 0 10) = cR B b b2 (i + 1) := by
  funext j
  by_cases e : j = 106 + 11 * b + i
  · subst e
    rw [uA_s]; unfold cR; rw [if_pos (by omega), show 106 + 11 * b + i - 11 * b + 11 * b2 = 106 + 11 * b2 + i by omega]
  · rw [uA_n e]; unfold cR
    by_cases q : 106 + 11 * b ≤ j ∧ j < 106 + 11 * b + i
    · rw [if_pos q, if_pos (by omega)]
    · rw [if_neg q, if_neg (by omega)]
theorem cI_o {G : Nat → Int} {b b2 i k : Nat} (h : k < 100 + 10 * b ∨ 103 + 10 * b + i ≤ k ∨ k = 102 + 10 * b) : cI G b b2 i k = G k := by
  unfold cI; rw [if_neg (by omega)]
theorem cR_o {B : Nat → Int → Int} {b b2 i j : Nat} (h : j < 106 + 11 * b ∨ 106 + 11 * b + i ≤ j) : cR B b b2 i j = B j := by
  unfold cR; rw [if_neg (by omega)]
set_option maxRecDepth 100000 in
set_option maxHeartbeats 4000000 in
theorem c_X7_become {Γ : GT} {h : XH} {G : Nat → Int} {B : Nat → Int → Int} {b : Nat} (hb9 : b ≤ 9) {b2 : Nat} (hb8 : b2 ≤ 9) (hne : b ≠ b2) (R9 : WR h.2 B) {mq : Nat} (hmq : G (100 + 10 * b2) = (mq : Int)) : Ct Γ M_X7_become [.ref (g_L Γ (100 + 11 * b)), .ref (g_L Γ (100 + 11 * b2))] (gst Γ h G B) (fun r h9 => r = none ∧ h9 = gst Γ h (bcG G b b2) (bcB B b b2)) (fun _ _ => False) := by
  refine Ct.of rfl (by decide +kernel) (Nat.le_of_ble_eq_true rfl) ?_
  generalize hQF9 : QM Γ _ _ _ = QF9
  refine gg_aload_n dX7_become_0 rfl rfl ?_
  refine gg_aload_n dX7_become_1 rfl rfl ?_
  refine gk_getX7_14 hb8 rfl dX7_become_2 hmq ?_
  refine gk_putX7_14 hb9 rfl dX7_become_5 rfl ?_
  refine gg_aload_n dX7_become_8 rfl rfl ?_
  refine gg_aload_n dX7_become_9 rfl rfl ?_
  refine gk_getX7_20 hb8 rfl dX7_become_10 (uF_n (by omega)) ?_
  refine gk_putX7_20 hb9 rfl dX7_become_13 rfl ?_
  refine gi_iconst dX7_become_16 ?_
  refine gg_istore_n dX7_become_17 (Nat.le_of_ble_eq_true rfl) rfl ?_
  have L_18 : ∀ (n9 : Nat) (k : Int), ((4 - k).toNat) = n9 → ∀ (hk : 0 ≤ k ∧ k ≤ 4), GG Γ M_X7_become QF9 (0, 0) (gst Γ h (cI G b b2 k.toNat) (cR B b b2 k.toNat)) 18 [some (.ref (g_L Γ (100 + 11 * b))), some (.ref (g_L Γ (100 + 11 * b2))), some (.int (iN k))] [] := by
    intro n9
    induction n9 using Nat.strongRecOn with
    | ind n9 ih_18 => 
      intro k hm9 hk
      have L_46 : ∀ (n9 : Nat) (k : Int), ((8 - k).toNat) = n9 → ∀ (hk : 0 ≤ k ∧ k ≤ 8), GG Γ M_X7_become QF9 (0, 0) (gst Γ h (cI G b b2 4) (uA (cR B b b2 4) (110 + 11 * b) (cp (B (110 + 11 * b2)) (B (110 + 11 * b)) 0 0 k))) 46 [some (.ref (g_L Γ (100 + 11 * b))), some (.ref (g_L Γ (100 + 11 * b2))), some (.int (iN k))] [] := by
        intro n9
        induction n9 using Nat.strongRecOn with
        | ind n9 ih_46 => 
          intro k hm9 hk
          refine gg_iload_n dX7_become_46 rfl ?_
          refine gi_bipush dX7_become_47 (by decide) ?_
          refine gi_icmp_ge (tgt := 70) dX7_become_49 (by decide) ⟨by omega, by omega⟩ ⟨by omega, by omega⟩ (fun c_49 => ?_) (fun c_49 => ?_)
          · refine gg_aload_n dX7_become_70 rfl rfl ?_
            refine gg_aload_n dX7_become_71 rfl rfl ?_
            refine gk_getX7_30 hb8 rfl dX7_become_72 (cI_o (by omega)) ?_
            refine gk_putX7_30 hb9 rfl dX7_become_75 rfl ?_
            subst hQF9
            refine gg_vret dX7_become_78 rfl ⟨(Nat.le_of_ble_eq_true rfl), (Nat.le_of_ble_eq_true rfl)⟩ ?_
            rw [show k = 8 by omega]
            exact ⟨rfl, rfl⟩
          · refine gg_aload_n dX7_become_52 rfl rfl ?_
            refine gk_getX7_35 hb9 rfl dX7_become_53 ?_
            refine gg_iload_n dX7_become_56 rfl ?_
            refine gg_aload_n dX7_become_57 rfl rfl ?_
            refine gk_getX7_35 hb8 rfl dX7_become_58 ?_
            refine gg_iload_n dX7_become_61 rfl ?_
            refine gk_aldM hb8 dX7_become_62 ⟨by omega, by omega⟩ rfl ?_
            rw [uA_n (show 110 + 11 * b2 ≠ 110 + 11 * b by omega), cR_o (by omega)]
            refine gk_astMx hb9 dX7_become_63 ((R9 b2 hb8).2 _ (by omega) (by omega)) ⟨by omega, by omega⟩ rfl ?_
            rw [uA_s, uA_ss]
            refine gi_iinc dX7_become_64 rfl (Nat.le_of_ble_eq_true rfl) rfl ?_
            refine gg_goto (tgt := 46) dX7_become_67 (by decide) ?_
            exact gg_conv (ih_46 _ (by omega) (k + 1) rfl (by omega)) (by rw [← cp_s hk.1, Int.zero_add]) rfl rfl
      refine gg_iload_n dX7_become_18 rfl ?_
      refine gi_iconst dX7_become_19 ?_
      refine gi_icmp_ge (tgt := 44) dX7_become_20 (by decide) ⟨by omega, by omega⟩ ⟨by omega, by omega⟩ (fun c_20 => ?_) (fun c_20 => ?_)
      · refine gi_iconst dX7_become_44 ?_
        refine gg_istore_n dX7_become_45 (Nat.le_of_ble_eq_true rfl) rfl ?_
        rw [show k.toNat = 4 by omega]
        exact gg_conv (L_46 _ 0 rfl (by omega)) (by rw [cp_0, uA_e (cR_o (by omega))]) rfl rfl
      · refine gg_aload_n dX7_become_23 rfl rfl ?_
        refine gk_getX7_26 hb9 rfl dX7_become_24 ?_
        refine gg_iload_n dX7_become_27 rfl ?_
        refine gk_aldD hb9 (Int.toNat_of_nonneg (show 0 ≤ k by omega)).symm (by omega) dX7_become_28 ?_
        refine gg_aload_n dX7_become_29 rfl rfl ?_
        refine gk_getX7_26 hb8 rfl dX7_become_30 ?_
        refine gg_iload_n dX7_become_33 rfl ?_
        refine gk_aldD hb8 (Int.toNat_of_nonneg (show 0 ≤ k by omega)).symm (by omega) dX7_become_34 ?_
        refine gc_X7_40 rfl dX7_become_35 ⟨(Nat.le_of_ble_eq_true rfl), (Nat.le_of_ble_eq_true rfl)⟩ ⟨(Nat.le_of_ble_eq_true rfl), (Nat.le_of_ble_eq_true rfl)⟩ (Nat.le_of_ble_eq_true rfl) (HAt.mu (gst_dr hb9 (show k.toNat ≤ 3 by omega))) (c_X0_become hb9 (by omega) hb8 (by omega) (fun l l0 l1 => by rw [cR_o (by omega)]; exact (R9 b2 hb8).1 _ l (by omega) l0 l1)) (fun _ _ w => w.elim) (fun r_35 h_35 hp => ?_)
        obtain ⟨rfl, rfl⟩ := hp
        rw [cI_o (show _ ∨ _ ∨ _ by omega), cR_o (show 106 + 11 * b2 + k.toNat < 106 + 11 * b ∨ 106 + 11 * b + k.toNat ≤ 106 + 11 * b2 + k.toNat by omega), cR_o (show 106 + 11 * b + k.toNat < 106 + 11 * b ∨ 106 + 11 * b + k.toNat ≤ 106 + 11 * b + k.toNat by omega), cI_s, cR_s, show k.toNat + 1 = (k + 1).toNat by omega]
        refine gi_iinc dX7_become_38 rfl (Nat.le_of_ble_eq_true rfl) rfl ?_
        refine gg_goto (tgt := 18) dX7_become_41 (by decide) ?_
        exact ih_18 _ (by omega) (k + 1) rfl (by omega)
  exact gg_conv (L_18 _ 0 rfl (by omega)) (by rw [← hmq, cI_0, show (0 : Int).toNat = 0 from rfl, cR_0]) rfl rfl
def lcS (G : Nat → Int) (b : Nat) : Nat → Int
  | 0 => 0
  | k + 1 => lcS G b k + G (103 + 10 * b + k)
set_option maxRecDepth 100000 in
set_option maxHeartbeats 4000000 in
theorem c_X7_lineCount {Γ : GT} {h : XH} {G : Nat → Int} {B : Nat → Int → Int} {b : Nat} (hb9 : b ≤ 9) : Ct Γ M_X7_lineCount [.ref (g_L Γ (100 + 11 * b))] (gst Γ h G B) (fun r h9 => r = some (.int (iN (lcS G b 4))) ∧ h9 = gst Γ h G B) (fun _ _ => False) := by
  refine Ct.of rfl (by decide +kernel) (Nat.le_of_ble_eq_true rfl) ?_
  generalize hQF9 : QM Γ _ _ _ = QF9
  refine gi_iconst dX7_lineCount_0 ?_
  refine gg_istore_n dX7_lineCount_1 (Nat.le_of_ble_eq_true rfl) rfl ?_
  refine gi_iconst dX7_lineCount_2 ?_
  refine gg_istore_n dX7_lineCount_3 (Nat.le_of_ble_eq_true rfl) rfl ?_
  have L_4 : ∀ (n9 : Nat) (k : Int), ((4 - k).toNat) = n9 → ∀ (hk : 0 ≤ k ∧ k ≤ 4), GG Γ M_X7_lineCount QF9 (0, 0) (gst Γ h G B) 4 [some (.ref (g_L Γ (100 + 11 * b))), some (.int (iN (lcS G b k.toNat))), some (.int (iN k))] [] := by
    intro n9
    induction n9 using Nat.strongRecOn with
    | ind n9 ih_4 => 
      intro k hm9 hk
      refine gg_iload_n dX7_lineCount_4 rfl ?_
      refine gi_iconst dX7_lineCount_5 ?_
      refine gi_icmp_ge (tgt := 27) dX7_lineCount_6 (by decide) ⟨by omega, by omega⟩ ⟨by omega, by omega⟩ (fun c_6 => ?_) (fun c_6 => ?_)
      · refine gg_iload_n dX7_lineCount_27 rfl ?_
        subst hQF9
        refine gg_iret dX7_lineCount_28 rfl rfl ⟨(Nat.le_of_ble_eq_true rfl), (Nat.le_of_ble_eq_true rfl)⟩ ?_
        rw [show k.toNat = 4 by omega]
        exact ⟨rfl, rfl⟩
      · refine gg_iload_n dX7_lineCount_9 rfl ?_
        refine gg_aload_n dX7_lineCount_10 rfl rfl ?_
        refine gk_getX7_26 hb9 rfl dX7_lineCount_11 ?_
        refine gg_iload_n dX7_lineCount_14 rfl ?_
        refine gk_aldD hb9 (Int.toNat_of_nonneg (show 0 ≤ k by omega)).symm (by omega) dX7_lineCount_15 ?_
        refine gk_getX7_44 hb9 (show k.toNat ≤ 3 by omega) rfl dX7_lineCount_16 rfl ?_
        refine gi_iadd dX7_lineCount_19 ?_
        refine gg_istore_n dX7_lineCount_20 (Nat.le_of_ble_eq_true rfl) rfl ?_
        refine gi_iinc dX7_lineCount_21 rfl (Nat.le_of_ble_eq_true rfl) rfl ?_
        refine gg_goto (tgt := 4) dX7_lineCount_24 (by decide) ?_
        exact gg_conv (ih_4 _ (by omega) (k + 1) rfl (by omega)) rfl (by rw [show (k + 1).toNat = k.toNat + 1 by omega, lcS]; rfl) rfl
  exact L_4 _ 0 rfl (by omega)
set_option maxRecDepth 100000 in
set_option maxHeartbeats 4000000 in
theorem c_X7_markingAt {Γ : GT} {h : XH} {G : Nat → Int} {B : Nat → Int → Int} {b : Nat} (hb9 : b ≤ 9) (hc : 0 ≤ G (102 + 10 * b) ∧ G (102 + 10 * b) ≤ 8) {i : Int} (hi : InR i) : Ct Γ M_X7_markingAt [.ref (g_L Γ (100 + 11 * b)), .int (iN i)] (gst Γ h G B) (fun r h9 => r = some (va_rf (if 0 ≤ i ∧ i < G (102 + 10 * b) then rfo (B (110 + 11 * b) i) else none)) ∧ h9 = gst Γ h G B) (fun _ _ => False) := by
  refine Ct.of rfl (by decide +kernel) (Nat.le_of_ble_eq_true rfl) ?_
  generalize hQF9 : QM Γ _ _ _ = QF9
  refine gg_iload_n dX7_markingAt_0 rfl ?_
  refine gi_if_lt (tgt := 27) dX7_markingAt_1 (by decide) ⟨by omega, by omega⟩ (fun c_1 => ?_) (fun c_1 => ?_)
  · refine gg_null dX7_markingAt_27 ?_
    have L_28 : GG Γ M_X7_markingAt QF9 (0, 0) (gst Γ h G B) 28 [some (.ref (g_L Γ (100 + 11 * b))), some (.int (iN i))] [va_rf (if 0 ≤ i ∧ i < G (102 + 10 * b) then rfo (B (110 + 11 * b) i) else none)] := by
      subst hQF9
      refine gg_aret dX7_markingAt_28 rfl rfl (by split; exact rfr_ref _; rfl) ⟨(Nat.le_of_ble_eq_true rfl), (Nat.le_of_ble_eq_true rfl)⟩ ?_
      exact ⟨rfl, rfl⟩
    exact gg_conv L_28 rfl rfl (by rw [if_neg (by omega)]; rfl)
  · refine gg_iload_n dX7_markingAt_4 rfl ?_
    refine gg_aload_n dX7_markingAt_5 rfl rfl ?_
    refine gk_getX7_30 hb9 rfl dX7_markingAt_6 rfl ?_
    refine gi_icmp_ge (tgt := 27) dX7_markingAt_9 (by decide) ⟨by omega, by omega⟩ ⟨by omega, by omega⟩ (fun c_9 => ?_) (fun c_9 => ?_)
    · refine gg_null dX7_markingAt_27 ?_
      have L_28 : GG Γ M_X7_markingAt QF9 (0, 0) (gst Γ h G B) 28 [some (.ref (g_L Γ (100 + 11 * b))), some (.int (iN i))] [va_rf (if 0 ≤ i ∧ i < G (102 + 10 * b) then rfo (B (110 + 11 * b) i) else none)] := by
        subst hQF9
        refine gg_aret dX7_markingAt_28 rfl rfl (by split; exact rfr_ref _; rfl) ⟨(Nat.le_of_ble_eq_true rfl), (Nat.le_of_ble_eq_true rfl)⟩ ?_
        exact ⟨rfl, rfl⟩
      exact gg_conv L_28 rfl rfl (by rw [if_neg (by omega)]; rfl)
    · refine gg_iload_n dX7_markingAt_12 rfl ?_
      refine gi_bipush dX7_markingAt_13 (by decide) ?_
      refine gi_icmp_ge (tgt := 27) dX7_markingAt_15 (by decide) ⟨by omega, by omega⟩ ⟨by omega, by omega⟩ (fun c_15 => ?_) (fun c_15 => ?_)
      · refine gg_null dX7_markingAt_27 ?_
        have L_28 : GG Γ M_X7_markingAt QF9 (0, 0) (gst Γ h G B) 28 [some (.ref (g_L Γ (100 + 11 * b))), some (.int (iN i))] [va_rf (if 0 ≤ i ∧ i < G (102 + 10 * b) then rfo (B (110 + 11 * b) i) else none)] := by
          subst hQF9
          refine gg_aret dX7_markingAt_28 rfl rfl (by split; exact rfr_ref _; rfl) ⟨(Nat.le_of_ble_eq_true rfl), (Nat.le_of_ble_eq_true rfl)⟩ ?_
          exact ⟨rfl, rfl⟩
        exact gg_conv L_28 rfl rfl (by rw [if_neg (by omega)]; rfl)
      · refine gg_aload_n dX7_markingAt_18 rfl rfl ?_
        refine gk_getX7_35 hb9 rfl dX7_markingAt_19 ?_
        refine gg_iload_n dX7_markingAt_22 rfl ?_
        refine gk_aldM hb9 dX7_markingAt_23 ⟨by omega, by omega⟩ rfl ?_
        refine gg_goto (tgt := 28) dX7_markingAt_24 (by decide) ?_
        have L_28 : GG Γ M_X7_markingAt QF9 (0, 0) (gst Γ h G B) 28 [some (.ref (g_L Γ (100 + 11 * b))), some (.int (iN i))] [va_rf (if 0 ≤ i ∧ i < G (102 + 10 * b) then rfo (B (110 + 11 * b) i) else none)] := by
          subst hQF9
          refine gg_aret dX7_markingAt_28 rfl rfl (by split; exact rfr_ref _; rfl) ⟨(Nat.le_of_ble_eq_true rfl), (Nat.le_of_ble_eq_true rfl)⟩ ?_
          exact ⟨rfl, rfl⟩
        exact gg_conv L_28 rfl rfl (by rw [if_pos (by omega)])
set_option maxRecDepth 100000 in
set_option maxHeartbeats 4000000 in
theorem c_X7_putMarking {Γ : GT} {h : XH} {G : Nat → Int} {B : Nat → Int → Int} {b : Nat} (hb9 : b ≤ 9) (hc : 0 ≤ G (102 + 10 * b) ∧ G (102 + 10 * b) ≤ 8) {i : Int} (hi : 0 ≤ i ∧ i ≤ G (102 + 10 * b) ∧ i < 8) {q : Nat} {vs : List Value} (hq : h.2 q = some (.inr (5, vs))) : Ct Γ M_X7_putMarking [.ref (g_L Γ (100 + 11 * b)), .int (iN i), .ref q] (gst Γ h G B) (fun r h9 => r = none ∧ h9 = gst Γ h (uF G (102 + 10 * b) (max (G (102 + 10 * b)) (i + 1))) (uA B (110 + 11 * b) (up (B (110 + 11 * b)) i (q : Int)))) (fun _ _ => False) := by
  refine Ct.of rfl (by decide +kernel) (Nat.le_of_ble_eq_true rfl) ?_
  generalize hQF9 : QM Γ _ _ _ = QF9
  refine gg_iload_n dX7_putMarking_0 rfl ?_
  refine gi_if_lt (tgt := 18) dX7_putMarking_1 (by decide) ⟨by omega, by omega⟩ (fun c_1 => ?_) (fun c_1 => ?_)
  · exact absurd c_1 (by omega)
  · refine gg_iload_n dX7_putMarking_4 rfl ?_
    refine gg_aload_n dX7_putMarking_5 rfl rfl ?_
    refine gk_getX7_30 hb9 rfl dX7_putMarking_6 rfl ?_
    refine gi_icmp_gt (tgt := 18) dX7_putMarking_9 (by decide) ⟨by omega, by omega⟩ ⟨by omega, by omega⟩ (fun c_9 => ?_) (fun c_9 => ?_)
    · exact absurd c_9 (by omega)
    · refine gg_iload_n dX7_putMarking_12 rfl ?_
      refine gi_bipush dX7_putMarking_13 (by decide) ?_
      refine gi_icmp_lt (tgt := 19) dX7_putMarking_15 (by decide) ⟨by omega, by omega⟩ ⟨by omega, by omega⟩ (fun c_15 => ?_) (fun c_15 => ?_)
      · refine gg_aload_n dX7_putMarking_19 rfl rfl ?_
        refine gk_getX7_35 hb9 rfl dX7_putMarking_20 ?_
        refine gg_iload_n dX7_putMarking_23 rfl ?_
        refine gg_aload_n dX7_putMarking_24 rfl rfl ?_
        refine gk_astM hb9 dX7_putMarking_25 hq ⟨by omega, by omega⟩ rfl ?_
        refine gg_aload_n dX7_putMarking_26 rfl rfl ?_
        refine gg_aload_n dX7_putMarking_27 rfl rfl ?_
        refine gk_getX7_30 hb9 rfl dX7_putMarking_28 rfl ?_
        refine gg_iload_n dX7_putMarking_31 rfl ?_
        refine gi_iconst dX7_putMarking_32 ?_
        refine gi_iadd dX7_putMarking_33 ?_
        refine gc_X7_65 rfl dX7_putMarking_34 ⟨(Nat.le_of_ble_eq_true rfl), (Nat.le_of_ble_eq_true rfl)⟩ ⟨(Nat.le_of_ble_eq_true rfl), (Nat.le_of_ble_eq_true rfl)⟩ ?_
        rw [iN_max ⟨by omega, by omega⟩ ⟨by omega, by omega⟩]
        refine gk_putX7_30 hb9 rfl dX7_putMarking_37 rfl ?_
        subst hQF9
        refine gg_vret dX7_putMarking_40 rfl ⟨(Nat.le_of_ble_eq_true rfl), (Nat.le_of_ble_eq_true rfl)⟩ ?_
        exact ⟨rfl, rfl⟩
      · exact absurd c_15 (by omega)
set_option maxRecDepth 100000 in
set_option maxHeartbeats 4000000 in
theorem c_X7_removeMarking {Γ : GT} {h : XH} {G : Nat → Int} {B : Nat → Int → Int} {b : Nat} (hb9 : b ≤ 9) (hc : 0 ≤ G (102 + 10 * b) ∧ G (102 + 10 * b) ≤ 8) (hL : ∀ l, 0 ≤ l → l < 8 → RfO h.2 5 (B (110 + 11 * b) l)) {i : Int} (hi : 0 ≤ i ∧ i < G (102 + 10 * b)) : Ct Γ M_X7_removeMarking [.ref (g_L Γ (100 + 11 * b)), .int (iN i)] (gst Γ h G B) (fun r h9 => r = none ∧ h9 = gst Γ h (uF G (102 + 10 * b) (G (102 + 10 * b) - 1)) (uA B (110 + 11 * b) (up (shd (B (110 + 11 * b)) i (G (102 + 10 * b) - 1) 1) (G (102 + 10 * b) - 1) (-1)))) (fun _ _ => False) := by
  refine Ct.of rfl (by decide +kernel) (Nat.le_of_ble_eq_true rfl) ?_
  generalize hQF9 : QM Γ _ _ _ = QF9
  refine gg_iload_n dX7_removeMarking_0 rfl ?_
  refine gi_if_lt (tgt := 12) dX7_removeMarking_1 (by decide) ⟨by omega, by omega⟩ (fun c_1 => ?_) (fun c_1 => ?_)
  · exact absurd c_1 (by omega)
  · refine gg_iload_n dX7_removeMarking_4 rfl ?_
    refine gg_aload_n dX7_removeMarking_5 rfl rfl ?_
    refine gk_getX7_30 hb9 rfl dX7_removeMarking_6 rfl ?_
    refine gi_icmp_lt (tgt := 13) dX7_removeMarking_9 (by decide) ⟨by omega, by omega⟩ ⟨by omega, by omega⟩ (fun c_9 => ?_) (fun c_9 => ?_)
    · refine gg_iload_n dX7_removeMarking_13 rfl ?_
      refine gi_iconst dX7_removeMarking_14 ?_
      refine gi_iadd dX7_removeMarking_15 ?_
      refine gg_istore_n dX7_removeMarking_16 (Nat.le_of_ble_eq_true rfl) rfl ?_
      have L_17 : ∀ (n9 : Nat) (k : Int), ((G (102 + 10 * b) - k).toNat) = n9 → ∀ (hk : i + 1 ≤ k ∧ k ≤ G (102 + 10 * b)), GG Γ M_X7_removeMarking QF9 (0, 0) (gst Γ h G (uA B (110 + 11 * b) (shd (B (110 + 11 * b)) i (k - 1) 1))) 17 [some (.ref (g_L Γ (100 + 11 * b))), some (.int (iN i)), some (.int (iN k))] [] := by
        intro n9
        induction n9 using Nat.strongRecOn with
        | ind n9 ih_17 => 
          intro k hm9 hk
          refine gg_iload_n dX7_removeMarking_17 rfl ?_
          refine gg_aload_n dX7_removeMarking_18 rfl rfl ?_
          refine gk_getX7_30 hb9 rfl dX7_removeMarking_19 rfl ?_
          refine gi_icmp_ge (tgt := 45) dX7_removeMarking_22 (by decide) ⟨by omega, by omega⟩ ⟨by omega, by omega⟩ (fun c_22 => ?_) (fun c_22 => ?_)
          · refine gg_aload_n dX7_removeMarking_45 rfl rfl ?_
            refine gg_dup dX7_removeMarking_46 rfl ?_
            refine gk_getX7_30 hb9 rfl dX7_removeMarking_47 rfl ?_
            refine gi_iconst dX7_removeMarking_50 ?_
            refine gi_isub dX7_removeMarking_51 ?_
            refine gk_putX7_30 hb9 rfl dX7_removeMarking_52 rfl ?_
            refine gg_aload_n dX7_removeMarking_55 rfl rfl ?_
            refine gk_getX7_35 hb9 rfl dX7_removeMarking_56 ?_
            refine gg_aload_n dX7_removeMarking_59 rfl rfl ?_
            refine gk_getX7_30 hb9 rfl dX7_removeMarking_60 uF_s ?_
            refine gg_null dX7_removeMarking_63 ?_
            refine gk_astMN (x := -1) (by decide) hb9 dX7_removeMarking_64 ⟨by omega, by omega⟩ rfl ?_
            rw [uA_s, uA_ss]
            subst hQF9
            refine gg_vret dX7_removeMarking_65 rfl ⟨(Nat.le_of_ble_eq_true rfl), (Nat.le_of_ble_eq_true rfl)⟩ ?_
            rw [show k = G (102 + 10 * b) by omega]
            exact ⟨rfl, rfl⟩
          · refine gg_aload_n dX7_removeMarking_25 rfl rfl ?_
            refine gk_getX7_35 hb9 rfl dX7_removeMarking_26 ?_
            refine gg_iload_n dX7_removeMarking_29 rfl ?_
            refine gi_iconst dX7_removeMarking_30 ?_
            refine gi_isub dX7_removeMarking_31 ?_
            refine gg_aload_n dX7_removeMarking_32 rfl rfl ?_
            refine gk_getX7_35 hb9 rfl dX7_removeMarking_33 ?_
            refine gg_iload_n dX7_removeMarking_36 rfl ?_
            refine gk_aldM hb9 dX7_removeMarking_37 ⟨by omega, by omega⟩ rfl ?_
            rw [uA_s, show shd (B (110 + 11 * b)) i (k - 1) 1 k = B (110 + 11 * b) k by unfold shd; rw [if_neg (by omega)]]
            refine gk_astMx hb9 dX7_removeMarking_38 (hL _ (by omega) (by omega)) ⟨by omega, by omega⟩ rfl ?_
            rw [uA_s, uA_ss]
            refine gi_iinc dX7_removeMarking_39 rfl (Nat.le_of_ble_eq_true rfl) rfl ?_
            refine gg_goto (tgt := 17) dX7_removeMarking_42 (by decide) ?_
            refine gg_conv (ih_17 _ (by omega) (k + 1) rfl (by omega)) ?_ rfl rfl
            congr 2
            funext j
            unfold up shd
            by_cases e : j = k - 1
            · rw [if_pos e, if_pos (by omega), e, show k - 1 + 1 = k by omega]
            · rw [if_neg e]; by_cases e2 : i ≤ j ∧ j < k - 1
              · rw [if_pos e2, if_pos (by omega)]
              · rw [if_neg e2, if_neg (by omega)]
      exact gg_conv (L_17 _ (i + 1) rfl (by omega)) (by rw [show i + 1 - 1 = i by omega, shd_0, uA_id]) rfl rfl
    · exact absurd c_9 (by omega)
