/-! a line is read -/
set_option maxRecDepth 100000 in
set_option maxHeartbeats 4000000 in
theorem c_X5_fillWord_N {Γ : GT} {h : XH} {G : Nat → Int} {B : Nat → Int → Int} {q1 : Nat} {f : Int → Int} {n : Int} (W1 : WdAt h.2 q1 f n) {s : Int} {mk : Int → Int} (Y : SyM h.2 none f n s mk) {i : Int} (hi : 0 ≤ i ∧ i < 12) : Ct Γ M_X5_fillWord [.ref (g_L Γ 50), .int (iN i), .ref q1, .null] (gst Γ h G B) (fun r h9 => r = none ∧ h9 = gst Γ h (uF (uF (uF G 6 (G 6 + 1)) 7 (G 7 + s)) 10 (G 10 + 0)) (uA (uA B 51 (up (B 51) i s)) 52 (wrM (B 52) (6 * i) s mk))) (fun _ _ => False) := by
  refine Ct.of rfl (by decide +kernel) (Nat.le_of_ble_eq_true rfl) ?_
  generalize hQF9 : QM Γ _ _ _ = QF9
  obtain ⟨w1, w2, aL, aC, f9, g9, w3, w4, w5, w6, w7⟩ := id W1
  have s6 := Y.s_6 w1
  refine gg_iload_n dX5_fillWord_0 rfl ?_
  refine gi_if_lt (tgt := 10) dX5_fillWord_1 (by decide) ⟨by omega, by omega⟩ (fun c_1 => ?_) (fun c_1 => ?_)
  · exact absurd c_1 (by omega)
  · refine gg_iload_n dX5_fillWord_4 rfl ?_
    refine gi_bipush dX5_fillWord_5 (by decide) ?_
    refine gi_icmp_lt (tgt := 11) dX5_fillWord_7 (by decide) ⟨by omega, by omega⟩ ⟨by omega, by omega⟩ (fun c_7 => ?_) (fun c_7 => ?_)
    · refine gg_aload_n dX5_fillWord_11 rfl rfl ?_
      refine gg_aload_n dX5_fillWord_12 rfl rfl ?_
      refine gc_X5_69 rfl dX5_fillWord_13 ⟨(Nat.le_of_ble_eq_true rfl), (Nat.le_of_ble_eq_true rfl)⟩ ⟨(Nat.le_of_ble_eq_true rfl), (Nat.le_of_ble_eq_true rfl)⟩ (Nat.le_of_ble_eq_true rfl) (c_X9_syllablesOf (o := none) (h := gst Γ h G B) W1 Y) (fun _ _ w => w.elim) (fun r_13 h_13 hp => ?_)
      obtain ⟨rfl, rfl⟩ := hp
      refine gi_bipush dX5_fillWord_16 (by decide) ?_
      refine gc_X5_73 rfl dX5_fillWord_18 ⟨(Nat.le_of_ble_eq_true rfl), (Nat.le_of_ble_eq_true rfl)⟩ ⟨(Nat.le_of_ble_eq_true rfl), (Nat.le_of_ble_eq_true rfl)⟩ ?_
      rw [iN_min ⟨by omega, by omega⟩ ⟨by omega, by omega⟩]
      rw [show min s 6 = s by omega]
      refine gg_istore dX5_fillWord_21 (Nat.le_of_ble_eq_true rfl) rfl ?_
      refine gg_aload_n dX5_fillWord_23 rfl rfl ?_
      refine gk_getX5_30 rfl dX5_fillWord_24 ?_
      refine gg_iload_n dX5_fillWord_27 rfl ?_
      refine gg_iload dX5_fillWord_28 rfl ?_
      refine gk_iast dX5_fillWord_30 (by decide) (by decide) ⟨by omega, by show _ < (12 : Int); omega⟩ rfl ?_
      refine gi_iconst dX5_fillWord_31 ?_
      refine gg_istore dX5_fillWord_32 (Nat.le_of_ble_eq_true rfl) rfl ?_
      have L_34 : ∀ (n9 : Nat) (k : Int), ((s - k).toNat) = n9 → ∀ (hk : 0 ≤ k ∧ k ≤ s), GG Γ M_X5_fillWord QF9 (0, 0) (gst Γ h G (uA (uA B 51 (up (B 51) i s)) 52 (wrM (B 52) (6 * i) k mk))) 34 [some (.ref (g_L Γ 50)), some (.int (iN i)), some (.ref q1), some (.null), some (.int (iN s)), some (.int (iN k))] [] := by
        intro n9
        induction n9 using Nat.strongRecOn with
        | ind n9 ih_34 => 
          intro k hm9 hk
          refine gg_iload dX5_fillWord_34 rfl ?_
          refine gg_iload dX5_fillWord_36 rfl ?_
          refine gi_icmp_ge (tgt := 66) dX5_fillWord_38 (by decide) ⟨by omega, by omega⟩ ⟨by omega, by omega⟩ (fun c_38 => ?_) (fun c_38 => ?_)
          · refine gg_aload_n dX5_fillWord_66 rfl rfl ?_
            refine gg_dup dX5_fillWord_67 rfl ?_
            refine gk_getX5_9 rfl dX5_fillWord_68 (by (try simp only [uF_s, uF_n, ne_eq, not_false_eq_true, Nat.reduceEqDiff, reduceCtorEq]); rfl) ?_
            refine gi_iconst dX5_fillWord_71 ?_
            refine gi_iadd dX5_fillWord_72 ?_
            refine gk_putX5_9 rfl dX5_fillWord_73 rfl ?_
            refine gg_aload_n dX5_fillWord_76 rfl rfl ?_
            refine gg_dup dX5_fillWord_77 rfl ?_
            refine gk_getX5_15 rfl dX5_fillWord_78 (by (try simp only [uF_s, uF_n, ne_eq, not_false_eq_true, Nat.reduceEqDiff, reduceCtorEq]); rfl) ?_
            refine gg_iload dX5_fillWord_81 rfl ?_
            refine gi_iadd dX5_fillWord_83 ?_
            refine gk_putX5_15 rfl dX5_fillWord_84 rfl ?_
            refine gg_aload_n dX5_fillWord_87 rfl rfl ?_
            refine gg_dup dX5_fillWord_88 rfl ?_
            refine gk_getX5_24 rfl dX5_fillWord_89 (by (try simp only [uF_s, uF_n, ne_eq, not_false_eq_true, Nat.reduceEqDiff, reduceCtorEq]); rfl) ?_
            refine gg_aload_n dX5_fillWord_92 rfl rfl ?_
            refine gg_ifnonnull (tgt := 100) dX5_fillWord_93 (by decide) rfl (fun a_93 c_93 => ?_) (fun c_93 => ?_)
            · exact absurd c_93 (by simp)
            · refine gi_iconst dX5_fillWord_96 ?_
              refine gg_goto (tgt := 101) dX5_fillWord_97 (by decide) ?_
              refine gi_iadd dX5_fillWord_101 ?_
              refine gk_putX5_24 rfl dX5_fillWord_102 rfl ?_
              subst hQF9
              refine gg_vret dX5_fillWord_105 rfl ⟨(Nat.le_of_ble_eq_true rfl), (Nat.le_of_ble_eq_true rfl)⟩ ?_
              rw [show k = s by omega]
              exact ⟨rfl, rfl⟩
          · refine gg_aload_n dX5_fillWord_41 rfl rfl ?_
            refine gk_getX5_34 rfl dX5_fillWord_42 ?_
            refine gg_iload_n dX5_fillWord_45 rfl ?_
            refine gi_bipush dX5_fillWord_46 (by decide) ?_
            refine gi_imul dX5_fillWord_48 ?_
            refine gg_iload dX5_fillWord_49 rfl ?_
            refine gi_iadd dX5_fillWord_51 ?_
            refine gg_aload_n dX5_fillWord_52 rfl rfl ?_
            refine gg_aload_n dX5_fillWord_53 rfl rfl ?_
            refine gg_iload dX5_fillWord_54 rfl ?_
            refine gc_X5_79 rfl dX5_fillWord_56 ⟨(Nat.le_of_ble_eq_true rfl), (Nat.le_of_ble_eq_true rfl)⟩ ⟨(Nat.le_of_ble_eq_true rfl), (Nat.le_of_ble_eq_true rfl)⟩ (Nat.le_of_ble_eq_true rfl) (c_X9_markOf (o := none) (h := gst Γ h G (uA (uA B 51 (up (B 51) i s)) 52 (wrM (B 52) (6 * i) k mk))) W1 Y (k := k) ⟨by omega, by omega⟩) (fun _ _ w => w.elim) (fun r_56 h_56 hp => ?_)
            obtain ⟨rfl, rfl⟩ := hp
            refine gk_iast dX5_fillWord_59 (by decide) (by decide) ⟨by omega, by show _ < (72 : Int); omega⟩ (by rw [uA_s, uA_ss, Int.mul_comm i 6, wrM_1 hk.1]) ?_
            refine gi_iinc dX5_fillWord_60 rfl (Nat.le_of_ble_eq_true rfl) rfl ?_
            refine gg_goto (tgt := 34) dX5_fillWord_63 (by decide) ?_
            exact ih_34 _ (by omega) (k + 1) rfl (by omega)
      exact gg_conv (L_34 _ 0 rfl (by omega)) (by rw [wrM_0, uA_e (uA_n (by decide))]) rfl rfl
    · exact absurd c_7 (by omega)
set_option maxRecDepth 100000 in
set_option maxHeartbeats 4000000 in
theorem c_X5_fillWord_S {Γ : GT} {h : XH} {G : Nat → Int} {B : Nat → Int → Int} {q1 : Nat} {f : Int → Int} {n : Int} (W1 : WdAt h.2 q1 f n) {q2 : Nat} {s : Int} {mk : Int → Int} (Y : SyM h.2 (some q2) f n s mk) {i : Int} (hi : 0 ≤ i ∧ i < 12) : Ct Γ M_X5_fillWord [.ref (g_L Γ 50), .int (iN i), .ref q1, .ref q2] (gst Γ h G B) (fun r h9 => r = none ∧ h9 = gst Γ h (uF (uF (uF G 6 (G 6 + 1)) 7 (G 7 + s)) 10 (G 10 + 1)) (uA (uA B 51 (up (B 51) i s)) 52 (wrM (B 52) (6 * i) s mk))) (fun _ _ => False) := by
  refine Ct.of rfl (by decide +kernel) (Nat.le_of_ble_eq_true rfl) ?_
  generalize hQF9 : QM Γ _ _ _ = QF9
  obtain ⟨w1, w2, aL, aC, f9, g9, w3, w4, w5, w6, w7⟩ := id W1
  have s6 := Y.s_6 w1
  refine gg_iload_n dX5_fillWord_0 rfl ?_
  refine gi_if_lt (tgt := 10) dX5_fillWord_1 (by decide) ⟨by omega, by omega⟩ (fun c_1 => ?_) (fun c_1 => ?_)
  · exact absurd c_1 (by omega)
  · refine gg_iload_n dX5_fillWord_4 rfl ?_
    refine gi_bipush dX5_fillWord_5 (by decide) ?_
    refine gi_icmp_lt (tgt := 11) dX5_fillWord_7 (by decide) ⟨by omega, by omega⟩ ⟨by omega, by omega⟩ (fun c_7 => ?_) (fun c_7 => ?_)
    · refine gg_aload_n dX5_fillWord_11 rfl rfl ?_
      refine gg_aload_n dX5_fillWord_12 rfl rfl ?_
      refine gc_X5_69 rfl dX5_fillWord_13 ⟨(Nat.le_of_ble_eq_true rfl), (Nat.le_of_ble_eq_true rfl)⟩ ⟨(Nat.le_of_ble_eq_true rfl), (Nat.le_of_ble_eq_true rfl)⟩ (Nat.le_of_ble_eq_true rfl) (c_X9_syllablesOf (o := (some q2)) (h := gst Γ h G B) W1 Y) (fun _ _ w => w.elim) (fun r_13 h_13 hp => ?_)
      obtain ⟨rfl, rfl⟩ := hp
      refine gi_bipush dX5_fillWord_16 (by decide) ?_
      refine gc_X5_73 rfl dX5_fillWord_18 ⟨(Nat.le_of_ble_eq_true rfl), (Nat.le_of_ble_eq_true rfl)⟩ ⟨(Nat.le_of_ble_eq_true rfl), (Nat.le_of_ble_eq_true rfl)⟩ ?_
      rw [iN_min ⟨by omega, by omega⟩ ⟨by omega, by omega⟩]
      rw [show min s 6 = s by omega]
      refine gg_istore dX5_fillWord_21 (Nat.le_of_ble_eq_true rfl) rfl ?_
      refine gg_aload_n dX5_fillWord_23 rfl rfl ?_
      refine gk_getX5_30 rfl dX5_fillWord_24 ?_
      refine gg_iload_n dX5_fillWord_27 rfl ?_
      refine gg_iload dX5_fillWord_28 rfl ?_
      refine gk_iast dX5_fillWord_30 (by decide) (by decide) ⟨by omega, by show _ < (12 : Int); omega⟩ rfl ?_
      refine gi_iconst dX5_fillWord_31 ?_
      refine gg_istore dX5_fillWord_32 (Nat.le_of_ble_eq_true rfl) rfl ?_
      have L_34 : ∀ (n9 : Nat) (k : Int), ((s - k).toNat) = n9 → ∀ (hk : 0 ≤ k ∧ k ≤ s), GG Γ M_X5_fillWord QF9 (0, 0) (gst Γ h G (uA (uA B 51 (up (B 51) i s)) 52 (wrM (B 52) (6 * i) k mk))) 34 [some (.ref (g_L Γ 50)), some (.int (iN i)), some (.ref q1), some (.ref q2), some (.int (iN s)), some (.int (iN k))] [] := by
        intro n9
        induction n9 using Nat.strongRecOn with
        | ind n9 ih_34 => 
          intro k hm9 hk
          refine gg_iload dX5_fillWord_34 rfl ?_
          refine gg_iload dX5_fillWord_36 rfl ?_
          refine gi_icmp_ge (tgt := 66) dX5_fillWord_38 (by decide) ⟨by omega, by omega⟩ ⟨by omega, by omega⟩ (fun c_38 => ?_) (fun c_38 => ?_)
          · refine gg_aload_n dX5_fillWord_66 rfl rfl ?_
            refine gg_dup dX5_fillWord_67 rfl ?_
            refine gk_getX5_9 rfl dX5_fillWord_68 (by (try simp only [uF_s, uF_n, ne_eq, not_false_eq_true, Nat.reduceEqDiff, reduceCtorEq]); rfl) ?_
            refine gi_iconst dX5_fillWord_71 ?_
            refine gi_iadd dX5_fillWord_72 ?_
            refine gk_putX5_9 rfl dX5_fillWord_73 rfl ?_
            refine gg_aload_n dX5_fillWord_76 rfl rfl ?_
            refine gg_dup dX5_fillWord_77 rfl ?_
            refine gk_getX5_15 rfl dX5_fillWord_78 (by (try simp only [uF_s, uF_n, ne_eq, not_false_eq_true, Nat.reduceEqDiff, reduceCtorEq]); rfl) ?_
            refine gg_iload dX5_fillWord_81 rfl ?_
            refine gi_iadd dX5_fillWord_83 ?_
            refine gk_putX5_15 rfl dX5_fillWord_84 rfl ?_
            refine gg_aload_n dX5_fillWord_87 rfl rfl ?_
            refine gg_dup dX5_fillWord_88 rfl ?_
            refine gk_getX5_24 rfl dX5_fillWord_89 (by (try simp only [uF_s, uF_n, ne_eq, not_false_eq_true, Nat.reduceEqDiff, reduceCtorEq]); rfl) ?_
            refine gg_aload_n dX5_fillWord_92 rfl rfl ?_
            refine gg_ifnonnull (tgt := 100) dX5_fillWord_93 (by decide) rfl (fun a_93 c_93 => ?_) (fun c_93 => ?_)
            · refine gi_iconst dX5_fillWord_100 ?_
              refine gi_iadd dX5_fillWord_101 ?_
              refine gk_putX5_24 rfl dX5_fillWord_102 rfl ?_
              subst hQF9
              refine gg_vret dX5_fillWord_105 rfl ⟨(Nat.le_of_ble_eq_true rfl), (Nat.le_of_ble_eq_true rfl)⟩ ?_
              rw [show k = s by omega]
              exact ⟨rfl, rfl⟩
            · exact absurd c_93 (by simp)
          · refine gg_aload_n dX5_fillWord_41 rfl rfl ?_
            refine gk_getX5_34 rfl dX5_fillWord_42 ?_
            refine gg_iload_n dX5_fillWord_45 rfl ?_
            refine gi_bipush dX5_fillWord_46 (by decide) ?_
            refine gi_imul dX5_fillWord_48 ?_
            refine gg_iload dX5_fillWord_49 rfl ?_
            refine gi_iadd dX5_fillWord_51 ?_
            refine gg_aload_n dX5_fillWord_52 rfl rfl ?_
            refine gg_aload_n dX5_fillWord_53 rfl rfl ?_
            refine gg_iload dX5_fillWord_54 rfl ?_
            refine gc_X5_79 rfl dX5_fillWord_56 ⟨(Nat.le_of_ble_eq_true rfl), (Nat.le_of_ble_eq_true rfl)⟩ ⟨(Nat.le_of_ble_eq_true rfl), (Nat.le_of_ble_eq_true rfl)⟩ (Nat.le_of_ble_eq_true rfl) (c_X9_markOf (o := (some q2)) (h := gst Γ h G (uA (uA B 51 (up (B 51) i s)) 52 (wrM (B 52) (6 * i) k mk))) W1 Y (k := k) ⟨by omega, by omega⟩) (fun _ _ w => w.elim) (fun r_56 h_56 hp => ?_)
            obtain ⟨rfl, rfl⟩ := hp
            refine gk_iast dX5_fillWord_59 (by decide) (by decide) ⟨by omega, by show _ < (72 : Int); omega⟩ (by rw [uA_s, uA_ss, Int.mul_comm i 6, wrM_1 hk.1]) ?_
            refine gi_iinc dX5_fillWord_60 rfl (Nat.le_of_ble_eq_true rfl) rfl ?_
            refine gg_goto (tgt := 34) dX5_fillWord_63 (by decide) ?_
            exact ih_34 _ (by omega) (k + 1) rfl (by omega)
      exact gg_conv (L_34 _ 0 rfl (by omega)) (by rw [wrM_0, uA_e (uA_n (by decide))]) rfl rfl
    · exact absurd c_7 (by omega)
theorem c_X5_fillWord {Γ : GT} {h : XH} {G : Nat → Int} {B : Nat → Int → Int} {q1 : Nat} {f : Int → Int} {n : Int} (W1 : WdAt h.2 q1 f n) {o : Option Nat} {s : Int} {mk : Int → Int} (Y : SyM h.2 o f n s mk) {i : Int} (hi : 0 ≤ i ∧ i < 12) : Ct Γ M_X5_fillWord [.ref (g_L Γ 50), .int (iN i), .ref q1, va_rf o] (gst Γ h G B) (fun r h9 => r = none ∧ h9 = gst Γ h (uF (uF (uF G 6 (G 6 + 1)) 7 (G 7 + s)) 10 (G 10 + bi (decide (o ≠ none)))) (uA (uA B 51 (up (B 51) i s)) 52 (wrM (B 52) (6 * i) s mk))) (fun _ _ => False) := by
  cases o with
  | none => exact c_X5_fillWord_N W1 Y hi
  | some q2 => exact c_X5_fillWord_S W1 Y hi
set_option maxRecDepth 100000 in
set_option maxHeartbeats 4000000 in
theorem c_X5_addPlace_N {Γ : GT} {h : XH} {G : Nat → Int} {B : Nat → Int → Int} {q1 : Nat} {f : Int → Int} {n : Int} (W1 : WdAt h.2 q1 f n) {L : Int} (hL : 1 ≤ L ∧ L ≤ 12) {e c : Int → Bool} (r5 : G 9 = (plN c L.toNat : Nat)) {i : Int} (hi : 0 ≤ i ∧ i < L) (r4 : G 8 = (plN e i.toNat : Nat)) (he : e i = false) : Ct Γ M_X5_addPlace [.ref (g_L Γ 50), .int (iN i), .ref q1, .null] (gst Γ h G B) (fun r h9 => r = none ∧ h9 = gst Γ h (uF G 8 (plN e (i + 1).toNat : Nat)) B) (fun _ _ => False) := by
  refine Ct.of rfl (by decide +kernel) (Nat.le_of_ble_eq_true rfl) ?_
  generalize hQF9 : QM Γ _ _ _ = QF9
  refine gg_aload_n dX5_addPlace_0 rfl rfl ?_
  refine gg_ifnull (tgt := 38) dX5_addPlace_1 (by decide) rfl (fun c_1 => ?_) (fun a_1 c_1 => ?_)
  · subst hQF9
    refine gg_vret dX5_addPlace_38 rfl ⟨(Nat.le_of_ble_eq_true rfl), (Nat.le_of_ble_eq_true rfl)⟩ ?_
    refine ⟨rfl, ?_⟩
    have e9 : e i = false := by rw [he]
    rw [show (i + 1).toNat = i.toNat + 1 by omega, plN, Int.toNat_of_nonneg hi.1, if_neg (by rw [e9]; decide), uF_e r4]
  · exact absurd c_1 (by simp)
set_option maxRecDepth 100000 in
set_option maxHeartbeats 4000000 in
theorem c_X5_addPlace_S {Γ : GT} {h : XH} {G : Nat → Int} {B : Nat → Int → Int} {q1 : Nat} {f : Int → Int} {n : Int} (W1 : WdAt h.2 q1 f n) {q2 : Nat} {g : Int → Int} {m : Int} (W2 : WdAt h.2 q2 g m) {L : Int} (hL : 1 ≤ L ∧ L ≤ 12) {e c : Int → Bool} (r5 : G 9 = (plN c L.toNat : Nat)) {i : Int} (hi : 0 ≤ i ∧ i < L) (r4 : G 8 = (plN e i.toNat : Nat)) (he : e i = (!c i && wE f n && vow (g 0))) : Ct Γ M_X5_addPlace [.ref (g_L Γ 50), .int (iN i), .ref q1, .ref q2] (gst Γ h G B) (fun r h9 => r = none ∧ h9 = gst Γ h (uF G 8 (plN e (i + 1).toNat : Nat)) B) (fun _ _ => False) := by
  refine Ct.of rfl (by decide +kernel) (Nat.le_of_ble_eq_true rfl) ?_
  generalize hQF9 : QM Γ _ _ _ = QF9
  obtain ⟨w1, w2, aL, aC, f9, g9, w3, w4, w5, w6, w7⟩ := id W1
  obtain ⟨v1, v2, bL, bC, k9, j9, v3, v4, v5, v6, v7⟩ := id W2
  refine gg_aload_n dX5_addPlace_0 rfl rfl ?_
  refine gg_ifnull (tgt := 38) dX5_addPlace_1 (by decide) rfl (fun c_1 => ?_) (fun a_1 c_1 => ?_)
  · exact absurd c_1 (by simp)
  · refine gg_aload_n dX5_addPlace_4 rfl rfl ?_
    refine gg_iload_n dX5_addPlace_5 rfl ?_
    refine gc_X5_83 rfl dX5_addPlace_6 ⟨(Nat.le_of_ble_eq_true rfl), (Nat.le_of_ble_eq_true rfl)⟩ ⟨(Nat.le_of_ble_eq_true rfl), (Nat.le_of_ble_eq_true rfl)⟩ (Nat.le_of_ble_eq_true rfl) (HAt.mu gst_50) (c_X5_hasCommaBehind hL r5 hi) (fun _ _ w => w.elim) (fun r_6 h_6 hp => ?_)
    obtain ⟨rfl, rfl⟩ := hp
    refine gi_if_ne (tgt := 38) dX5_addPlace_9 (by decide) (bi_r _) (fun c_9 => ?_) (fun c_9 => ?_)
    · rw [bi_t] at c_9
      subst hQF9
      refine gg_vret dX5_addPlace_38 rfl ⟨(Nat.le_of_ble_eq_true rfl), (Nat.le_of_ble_eq_true rfl)⟩ ?_
      refine ⟨rfl, ?_⟩
      have e9 : e i = false := by rw [he, c_9]; rfl
      rw [show (i + 1).toNat = i.toNat + 1 by omega, plN, Int.toNat_of_nonneg hi.1, if_neg (by rw [e9]; decide), uF_e r4]
    · rw [bi_f] at c_9
      refine gg_aload_n dX5_addPlace_12 rfl rfl ?_
      refine gf_X5_87 rfl dX5_addPlace_13 (HAt.io w3) rfl ?_
      refine gi_if_eq (tgt := 38) dX5_addPlace_16 (by decide) (bi_r _) (fun c_16 => ?_) (fun c_16 => ?_)
      · rw [bi_f] at c_16
        subst hQF9
        refine gg_vret dX5_addPlace_38 rfl ⟨(Nat.le_of_ble_eq_true rfl), (Nat.le_of_ble_eq_true rfl)⟩ ?_
        refine ⟨rfl, ?_⟩
        have e9 : e i = false := by rw [he, c_16]; simp
        rw [show (i + 1).toNat = i.toNat + 1 by omega, plN, Int.toNat_of_nonneg hi.1, if_neg (by rw [e9]; decide), uF_e r4]
      · rw [bi_t] at c_16
        refine gg_aload_n dX5_addPlace_19 rfl rfl ?_
        refine gf_X5_93 rfl dX5_addPlace_20 (HAt.io v3) rfl ?_
        refine gi_if_eq (tgt := 38) dX5_addPlace_23 (by decide) (bi_r _) (fun c_23 => ?_) (fun c_23 => ?_)
        · rw [bi_f] at c_23
          subst hQF9
          refine gg_vret dX5_addPlace_38 rfl ⟨(Nat.le_of_ble_eq_true rfl), (Nat.le_of_ble_eq_true rfl)⟩ ?_
          refine ⟨rfl, ?_⟩
          have e9 : e i = false := by rw [he, c_23]; simp
          rw [show (i + 1).toNat = i.toNat + 1 by omega, plN, Int.toNat_of_nonneg hi.1, if_neg (by rw [e9]; decide), uF_e r4]
        · rw [bi_t] at c_23
          refine gg_aload_n dX5_addPlace_26 rfl rfl ?_
          refine gg_dup dX5_addPlace_27 rfl ?_
          refine gk_getX5_18 rfl dX5_addPlace_28 r4 ?_
          refine gi_iconst dX5_addPlace_31 ?_
          refine gg_iload_n dX5_addPlace_32 rfl ?_
          refine gi_ishl _ (bt_shl ⟨by omega, by omega⟩) dX5_addPlace_33 ?_
          refine gi_ior _ or_pl dX5_addPlace_34 ?_
          refine gk_putX5_18 rfl dX5_addPlace_35 rfl ?_
          subst hQF9
          refine gg_vret dX5_addPlace_38 rfl ⟨(Nat.le_of_ble_eq_true rfl), (Nat.le_of_ble_eq_true rfl)⟩ ?_
          refine ⟨rfl, ?_⟩
          have e9 : e i = true := by rw [he, c_9, c_16, c_23]; rfl
          rw [show (i + 1).toNat = i.toNat + 1 by omega, plN, Int.toNat_of_nonneg hi.1, if_pos e9]
def fw (f : Int → Int) (n i : Int) : Int → Int := fun k => f (pwP f n i + k)
def sI (a f : Int → Int) (n i : Int) : Int := syE a (fw f n i) (pwN f n i)
def mI (a f : Int → Int) (n i : Int) : Int → Int := mkE a (fw f n i) (pwN f n i)
def xI (a f : Int → Int) (n i : Int) : Int := exO a (fw f n i) 0 (pwN f n i)
def eI (f : Int → Int) (n i : Int) : Bool := decide (i + 1 < pwL f n) && (!pwC f n i && wE (fw f n i) (pwN f n i) && vow (fw f n (i + 1) 0))
theorem eI_l {f : Int → Int} {n : Int} : eI f n (pwL f n - 1) = false := by unfold eI; rw [decide_eq_false (by omega)]; rfl
theorem ExM.fr {ι : Nat → Option XE} {G G' : Nat → Int} {B B' : Nat → Int → Int} {b : Nat} {a : Int → Int} (X : ExM ι G B b a) (h1 : G' (102 + 10 * b) = G (102 + 10 * b)) (h2 : B' (110 + 11 * b) = B (110 + 11 * b)) : ExM ι G' B' b a := by
  unfold ExM at X ⊢; rw [h1, h2]; exact X
theorem syx {ι : Nat → Option XE} {a f : Int → Int} {n : Int} {o : Option Nat} (er : exO a f 0 n = -1 ∨ (0 ≤ exO a f 0 n ∧ exO a f 0 n < a 4)) (hp : (¬ (0 ≤ exO a f 0 n ∧ exO a f 0 n < a 4) ∧ o = none) ∨ ((0 ≤ exO a f 0 n ∧ exO a f 0 n < a 4) ∧ ∃ q : Nat, o = some q ∧ MkO ι q (fun k => a (9 + 20 * exO a f 0 n + 1 + k)) (a (9 + 20 * exO a f 0 n)) (a (9 + 20 * exO a f 0 n + 1 + 12)) (fun k => a (9 + 20 * exO a f 0 n + 2 + 12 + k)))) : SyM ι o f n (syE a f n) (mkE a f n) ∧ bi (decide (o ≠ none)) = bi (decide (0 ≤ exO a f 0 n)) := by
  rcases hp with ⟨g1, rfl⟩ | ⟨g1, m1, rfl, K1⟩
  · refine ⟨Or.inl ⟨rfl, by rw [syE, if_pos (by omega)], by unfold mkE mrk; funext k; rw [if_pos (by omega)]⟩, ?_⟩
    rw [decide_eq_false (by simp), decide_eq_false (by omega)]
  · refine ⟨Or.inr ⟨m1, fun k => a (9 + 20 * exO a f 0 n + 1 + k), a (9 + 20 * exO a f 0 n), rfl, ?_⟩, ?_⟩
    · have e1 : syE a f n = a (9 + 20 * exO a f 0 n + 1 + 12) := by rw [syE, if_neg (by omega)]
      have e2 : mkE a f n = fun k => a (9 + 20 * exO a f 0 n + 2 + 12 + k) := by unfold mkE mrk; funext k; rw [if_neg (by omega)]
      rw [e1, e2]; exact K1
    · rw [decide_eq_true (by simp), decide_eq_true g1.1]
set_option maxRecDepth 100000 in
set_option maxHeartbeats 4000000 in
theorem c_X5_fill {Γ : GT} {h : XH} {G : Nat → Int} {B : Nat → Int → Int} {b : Nat} (hb9 : b ≤ 9) {a : Int → Int} (X9 : ExM h.2 G B b a) {q1 : Nat} {f : Int → Int} {n : Int} (L1 : LnO h.2 q1 f n) : Ct Γ M_X5_fill [.ref (g_L Γ 50), .ref q1, .ref (g_L Γ (100 + 11 * b))] (gst Γ h G B) (fun r h9 => ∃ (G' : Nat → Int) (B' : Nat → Int → Int), r = none ∧ h9 = gst Γ h G' B' ∧ frF [6, 7, 8, 9, 10, 11] G G' ∧ frA [51, 52] B B' ∧ RdG G' B' (pwL f n) (sI a f n) (mI a f n) (eI f n) (pwC f n) ∧ G' 7 = smS (sI a f n) (pwL f n).toNat ∧ G' 10 = smS (fun i => bi (decide (0 ≤ xI a f n i))) (pwL f n).toNat ∧ G' 11 = (grd (eI f n) (sI a f n) (pwL f n).toNat).1) (fun _ _ => False) := by
  refine Ct.of rfl (by decide +kernel) (Nat.le_of_ble_eq_true rfl) ?_
  generalize hQF9 : QM Γ _ _ _ = QF9
  obtain ⟨l1, l2, l3, aT, aW, wl, f9, w9, l4, l5, l6, l7, l8, l9⟩ := id L1
  have x9r := X9.1.2
  refine gg_aload_n dX5_fill_0 rfl rfl ?_
  refine gi_iconst dX5_fill_1 ?_
  refine gk_putX5_9 rfl dX5_fill_2 rfl ?_
  refine gg_aload_n dX5_fill_5 rfl rfl ?_
  refine gi_iconst dX5_fill_6 ?_
  refine gk_putX5_15 rfl dX5_fill_7 rfl ?_
  refine gg_aload_n dX5_fill_10 rfl rfl ?_
  refine gi_iconst dX5_fill_11 ?_
  refine gk_putX5_18 rfl dX5_fill_12 rfl ?_
  refine gg_aload_n dX5_fill_15 rfl rfl ?_
  refine gg_aload_n dX5_fill_16 rfl rfl ?_
  refine gf_X5_37 rfl dX5_fill_17 (HAt.io l4) rfl ?_
  refine gk_putX5_21 rfl dX5_fill_20 rfl ?_
  refine gg_aload_n dX5_fill_23 rfl rfl ?_
  refine gi_iconst dX5_fill_24 ?_
  refine gk_putX5_24 rfl dX5_fill_25 rfl ?_
  refine gi_iconst dX5_fill_28 ?_
  refine gg_istore_n dX5_fill_29 (Nat.le_of_ble_eq_true rfl) rfl ?_
  have L_30 : ∀ (n9 : Nat) (k : Int) (G' : Nat → Int) (B' : Nat → Int → Int), ((pwL f n - k).toNat) = n9 → ∀ (hk : 0 ≤ k ∧ k ≤ pwL f n) (J6 : G' 6 = k) (J7 : G' 7 = smS (sI a f n) k.toNat) (J8 : G' 8 = (plN (eI f n) k.toNat : Nat)) (J9 : G' 9 = (plN (pwC f n) (pwL f n).toNat : Nat)) (J10 : G' 10 = smS (fun i => bi (decide (0 ≤ xI a f n i))) k.toNat) (FG : frF [6, 7, 8, 9, 10] G G') (FB : frA [51, 52] B B') (J : ∀ i, 0 ≤ i → i < k → (1 ≤ sI a f n i ∧ sI a f n i ≤ 6) ∧ B' 51 i = sI a f n i ∧ ∀ j, 0 ≤ j → j < sI a f n i → B' 52 (6 * i + j) = mI a f n i j ∧ 0 ≤ mI a f n i j ∧ mI a f n i j ≤ 2), GG Γ M_X5_fill QF9 (0, 0) (gst Γ h G' B') 30 [some (.ref (g_L Γ 50)), some (.ref q1), some (.ref (g_L Γ (100 + 11 * b))), some (.int (iN k)), none] [] := by
    intro n9
    induction n9 using Nat.strongRecOn with
    | ind n9 ih_30 => 
      intro k G' B' hm9 hk J6 J7 J8 J9 J10 FG FB J
      refine gg_iload_n dX5_fill_30 rfl ?_
      refine gg_aload_n dX5_fill_31 rfl rfl ?_
      refine gf_X5_40 rfl dX5_fill_32 (HAt.io l4) rfl ?_
      refine gi_icmp_ge (tgt := 93) dX5_fill_35 (by decide) ⟨by omega, by omega⟩ ⟨by omega, by omega⟩ (fun c_35 => ?_) (fun c_35 => ?_)
      · have hkL : k = pwL f n := by omega
        have R9 : RdG G' B' (pwL f n) (sI a f n) (mI a f n) (eI f n) (pwC f n) := ⟨l2, by rw [J6, hkL], fun i i0 i1 => J i i0 (by omega), by rw [J8, hkL], J9, eI_l⟩
        refine gg_aload_n dX5_fill_93 rfl rfl ?_
        refine gg_aload_n dX5_fill_94 rfl rfl ?_
        refine gc_X5_65 rfl dX5_fill_95 ⟨(Nat.le_of_ble_eq_true rfl), (Nat.le_of_ble_eq_true rfl)⟩ ⟨(Nat.le_of_ble_eq_true rfl), (Nat.le_of_ble_eq_true rfl)⟩ (Nat.le_of_ble_eq_true rfl) (HAt.mu gst_50) (c_X5_countMostElisions R9) (fun _ _ w => w.elim) (fun r_95 h_95 hp => ?_)
        obtain ⟨rfl, rfl⟩ := hp
        refine gk_putX5_27 rfl dX5_fill_98 rfl ?_
        subst hQF9
        refine gg_vret dX5_fill_101 rfl ⟨(Nat.le_of_ble_eq_true rfl), (Nat.le_of_ble_eq_true rfl)⟩ ?_
        refine ⟨_, B', rfl, rfl, ?_, FB, R9.fr (uF_n (by decide)) (uF_n (by decide)) (uF_n (by decide)) rfl rfl, ?_, ?_, uF_s⟩
        · intro j hj
          rw [uF_n (fun q => hj (by rw [q]; decide)), FG j (fun q => hj (by revert q; simp; omega))]
        · rw [uF_n (by decide), J7, hkL]
        · rw [uF_n (by decide), J10, hkL]
      · refine gg_iload_n dX5_fill_38 rfl ?_
        refine gi_bipush dX5_fill_39 (by decide) ?_
        refine gi_icmp_ge (tgt := 93) dX5_fill_41 (by decide) ⟨by omega, by omega⟩ ⟨by omega, by omega⟩ (fun c_41 => ?_) (fun c_41 => ?_)
        · exact absurd c_41 (by omega)
        · refine gg_aload_n dX5_fill_44 rfl rfl ?_
          refine gg_iload_n dX5_fill_45 rfl ?_
          refine gc_X5_43 rfl dX5_fill_46 ⟨(Nat.le_of_ble_eq_true rfl), (Nat.le_of_ble_eq_true rfl)⟩ ⟨(Nat.le_of_ble_eq_true rfl), (Nat.le_of_ble_eq_true rfl)⟩ (Nat.le_of_ble_eq_true rfl) (HAt.io l4) (c_X2_wordAt (h := gst Γ h G' B') L1 ⟨by omega, by omega⟩) (fun _ _ w => w.elim) (fun r_46 h_46 hp => ?_)
          obtain ⟨o1, rfl, rfl, hp⟩ := hp
          rcases hp with ⟨g1, rfl⟩ | ⟨g1, x1, rfl, X1⟩
          · refine gg_astore dX5_fill_49 rfl (Nat.le_of_ble_eq_true rfl) rfl ?_
            refine gg_aload dX5_fill_51 rfl rfl ?_
            refine gg_ifnull (tgt := 87) dX5_fill_53 (by decide) rfl (fun c_53 => ?_) (fun a_53 c_53 => ?_)
            · exfalso
              omega
            · exfalso
              omega
          · refine gg_astore dX5_fill_49 rfl (Nat.le_of_ble_eq_true rfl) rfl ?_
            refine gg_aload dX5_fill_51 rfl rfl ?_
            refine gg_ifnull (tgt := 87) dX5_fill_53 (by decide) rfl (fun c_53 => ?_) (fun a_53 c_53 => ?_)
            · exact absurd c_53 (by simp [va_rf])
            · refine gg_aload_n dX5_fill_56 rfl rfl ?_
              refine gg_iload_n dX5_fill_57 rfl ?_
              refine gg_aload dX5_fill_58 rfl rfl ?_
              refine gg_aload_n dX5_fill_60 rfl rfl ?_
              refine gg_aload_n dX5_fill_61 rfl rfl ?_
              refine gg_aload dX5_fill_62 rfl rfl ?_
              refine gc_X5_47 rfl dX5_fill_64 ⟨(Nat.le_of_ble_eq_true rfl), (Nat.le_of_ble_eq_true rfl)⟩ ⟨(Nat.le_of_ble_eq_true rfl), (Nat.le_of_ble_eq_true rfl)⟩ (Nat.le_of_ble_eq_true rfl) (HAt.mu (gst_st hb9)) (c_X7_markingNumber (h := h) (G := G') (B := B') hb9 (X9.fr (FG _ (by simp; omega)) (FB _ (by simp; omega))) X1) (fun _ _ w => w.elim) (fun r_64 h_64 hp => ?_)
              obtain ⟨rfl, rfl⟩ := hp
              have er := exO_r (a := a) (r := fun k1 => f (pwP f n k + k1)) (fr := 0) (n := pwN f n k) x9r.1
              refine gc_X5_53 rfl dX5_fill_67 ⟨(Nat.le_of_ble_eq_true rfl), (Nat.le_of_ble_eq_true rfl)⟩ ⟨(Nat.le_of_ble_eq_true rfl), (Nat.le_of_ble_eq_true rfl)⟩ (Nat.le_of_ble_eq_true rfl) (HAt.mu (gst_st hb9)) (c_X7_markingAt_M (h := h) hb9 (X9.fr (FG _ (by simp; omega)) (FB _ (by simp; omega))) (i := exO a (fun k1 => f (pwP f n k + k1)) 0 (pwN f n k)) ⟨by omega, by omega⟩) (fun _ _ w => w.elim) (fun r_67 h_67 hp => ?_)
              obtain ⟨o, rfl, rfl, hp⟩ := hp
              have Y : SyM h.2 o (fun k1 => f (pwP f n k + k1)) (pwN f n k) (sI a f n k) (mI a f n k) ∧ bi (decide (o ≠ none)) = bi (decide (0 ≤ xI a f n k)) := syx er hp
              have s6 := Y.1.s_6 X1.1
              refine gc_X5_57 rfl dX5_fill_70 ⟨(Nat.le_of_ble_eq_true rfl), (Nat.le_of_ble_eq_true rfl)⟩ ⟨(Nat.le_of_ble_eq_true rfl), (Nat.le_of_ble_eq_true rfl)⟩ (Nat.le_of_ble_eq_true rfl) (HAt.mu gst_50) (c_X5_fillWord (h := h) (G := G') (B := B') (i := k) X1 Y.1 ⟨by omega, by omega⟩) (fun _ _ w => w.elim) (fun r_70 h_70 hp => ?_)
              obtain ⟨rfl, rfl⟩ := hp
              refine gg_aload_n dX5_fill_73 rfl rfl ?_
              refine gg_iload_n dX5_fill_74 rfl ?_
              refine gg_aload dX5_fill_75 rfl rfl ?_
              refine gg_aload_n dX5_fill_77 rfl rfl ?_
              refine gg_iload_n dX5_fill_78 rfl ?_
              refine gi_iconst dX5_fill_79 ?_
              refine gi_iadd dX5_fill_80 ?_
              refine gc_X5_43 rfl dX5_fill_81 ⟨(Nat.le_of_ble_eq_true rfl), (Nat.le_of_ble_eq_true rfl)⟩ ⟨(Nat.le_of_ble_eq_true rfl), (Nat.le_of_ble_eq_true rfl)⟩ (Nat.le_of_ble_eq_true rfl) (HAt.io l4) (c_X2_wordAt (h := gst Γ h (uF (uF (uF G' 6 (G' 6 + 1)) 7 (G' 7 + sI a f n k)) 10 (G' 10 + bi (decide (o ≠ none)))) (uA (uA B' 51 (up (B' 51) k (sI a f n k))) 52 (wrM (B' 52) (6 * k) (sI a f n k) (mI a f n k)))) L1 ⟨by omega, by omega⟩) (fun _ _ w => w.elim) (fun r_81 h_81 hp => ?_)
              obtain ⟨o2, rfl, rfl, hp⟩ := hp
              rcases hp with ⟨g2, rfl⟩ | ⟨g2, x2, rfl, X2⟩
              · refine gc_X5_61 rfl dX5_fill_84 ⟨(Nat.le_of_ble_eq_true rfl), (Nat.le_of_ble_eq_true rfl)⟩ ⟨(Nat.le_of_ble_eq_true rfl), (Nat.le_of_ble_eq_true rfl)⟩ (Nat.le_of_ble_eq_true rfl) (HAt.mu gst_50) (c_X5_addPlace_N (h := h) (G := (uF (uF (uF G' 6 (G' 6 + 1)) 7 (G' 7 + sI a f n k)) 10 (G' 10 + bi (decide (o ≠ none))))) (B := (uA (uA B' 51 (up (B' 51) k (sI a f n k))) 52 (wrM (B' 52) (6 * k) (sI a f n k) (mI a f n k)))) (e := eI f n) X1 ⟨l2.1, l2.2⟩ (by simp only [uF_s, uF_n, uF_ss, uF_cc, id_eq, ne_eq, not_false_eq_true, Nat.reduceEqDiff, Nat.reduceLT, reduceCtorEq]; exact J9) ⟨by omega, by omega⟩ (by simp only [uF_s, uF_n, uF_ss, uF_cc, id_eq, ne_eq, not_false_eq_true, Nat.reduceEqDiff, Nat.reduceLT, reduceCtorEq]; exact J8) (by unfold eI; rw [decide_eq_false (by omega)]; rfl)) (fun _ _ w => w.elim) (fun r_84 h_84 hp => ?_)
                obtain ⟨rfl, rfl⟩ := hp
                refine gi_iinc dX5_fill_87 rfl (Nat.le_of_ble_eq_true rfl) rfl ?_
                refine gg_goto (tgt := 30) dX5_fill_90 (by decide) ?_
                refine gg_drop 4 ?_
                have ek : (k + 1).toNat = k.toNat + 1 := by omega
                refine ih_30 _ (by omega) (k + 1) _ _ rfl (by omega) ?_ ?_ ?_ ?_ ?_ ?_ ?_ ?_
                · simp only [uF_s, uF_n, uF_ss, uF_cc, id_eq, ne_eq, not_false_eq_true, Nat.reduceEqDiff, Nat.reduceLT, reduceCtorEq]; omega
                · simp only [uF_s, uF_n, uF_ss, uF_cc, id_eq, ne_eq, not_false_eq_true, Nat.reduceEqDiff, Nat.reduceLT, reduceCtorEq]; rw [J7, ek, smS, Int.toNat_of_nonneg hk.1]
                · simp only [uF_s, uF_n, uF_ss, uF_cc, id_eq, ne_eq, not_false_eq_true, Nat.reduceEqDiff, Nat.reduceLT, reduceCtorEq]
                · simp only [uF_s, uF_n, uF_ss, uF_cc, id_eq, ne_eq, not_false_eq_true, Nat.reduceEqDiff, Nat.reduceLT, reduceCtorEq]; exact J9
                · simp only [uF_s, uF_n, uF_ss, uF_cc, id_eq, ne_eq, not_false_eq_true, Nat.reduceEqDiff, Nat.reduceLT, reduceCtorEq]; rw [J10, ek, smS, Int.toNat_of_nonneg hk.1, Y.2]
                · exact frF_u (frF_u (frF_u (frF_u FG (by decide)) (by decide)) (by decide)) (by decide)
                · exact frA_u (frA_u FB (by decide)) (by decide)
                · intro i i0 i1
                  simp only [uA_s, uA_n, uA_ss, uA_cc, id_eq, ne_eq, not_false_eq_true, Nat.reduceEqDiff, Nat.reduceLT, reduceCtorEq]
                  by_cases e9 : i = k
                  · rw [e9, up_s]
                    refine ⟨s6, rfl, fun j j0 j1 => ⟨?_, Y.1.m_r ⟨j0, j1⟩⟩⟩
                    unfold wrM; rw [if_pos (by omega)]; congr 1; omega
                  · rw [up_n e9]
                    obtain ⟨y1, y2, y3⟩ := J i i0 (by omega)
                    refine ⟨y1, y2, fun j j0 j1 => ⟨?_, (y3 j j0 j1).2⟩⟩
                    unfold wrM; rw [if_neg (by omega)]; exact (y3 j j0 j1).1
              · refine gc_X5_61 rfl dX5_fill_84 ⟨(Nat.le_of_ble_eq_true rfl), (Nat.le_of_ble_eq_true rfl)⟩ ⟨(Nat.le_of_ble_eq_true rfl), (Nat.le_of_ble_eq_true rfl)⟩ (Nat.le_of_ble_eq_true rfl) (HAt.mu gst_50) (c_X5_addPlace_S (h := h) (G := (uF (uF (uF G' 6 (G' 6 + 1)) 7 (G' 7 + sI a f n k)) 10 (G' 10 + bi (decide (o ≠ none))))) (B := (uA (uA B' 51 (up (B' 51) k (sI a f n k))) 52 (wrM (B' 52) (6 * k) (sI a f n k) (mI a f n k)))) (e := eI f n) X1 X2 ⟨l2.1, l2.2⟩ (by simp only [uF_s, uF_n, uF_ss, uF_cc, id_eq, ne_eq, not_false_eq_true, Nat.reduceEqDiff, Nat.reduceLT, reduceCtorEq]; exact J9) ⟨by omega, by omega⟩ (by simp only [uF_s, uF_n, uF_ss, uF_cc, id_eq, ne_eq, not_false_eq_true, Nat.reduceEqDiff, Nat.reduceLT, reduceCtorEq]; exact J8) (by unfold eI; rw [decide_eq_true (by omega)]; rfl)) (fun _ _ w => w.elim) (fun r_84 h_84 hp => ?_)
                obtain ⟨rfl, rfl⟩ := hp
                refine gi_iinc dX5_fill_87 rfl (Nat.le_of_ble_eq_true rfl) rfl ?_
                refine gg_goto (tgt := 30) dX5_fill_90 (by decide) ?_
                refine gg_drop 4 ?_
                have ek : (k + 1).toNat = k.toNat + 1 := by omega
                refine ih_30 _ (by omega) (k + 1) _ _ rfl (by omega) ?_ ?_ ?_ ?_ ?_ ?_ ?_ ?_
                · simp only [uF_s, uF_n, uF_ss, uF_cc, id_eq, ne_eq, not_false_eq_true, Nat.reduceEqDiff, Nat.reduceLT, reduceCtorEq]; omega
                · simp only [uF_s, uF_n, uF_ss, uF_cc, id_eq, ne_eq, not_false_eq_true, Nat.reduceEqDiff, Nat.reduceLT, reduceCtorEq]; rw [J7, ek, smS, Int.toNat_of_nonneg hk.1]
                · simp only [uF_s, uF_n, uF_ss, uF_cc, id_eq, ne_eq, not_false_eq_true, Nat.reduceEqDiff, Nat.reduceLT, reduceCtorEq]
                · simp only [uF_s, uF_n, uF_ss, uF_cc, id_eq, ne_eq, not_false_eq_true, Nat.reduceEqDiff, Nat.reduceLT, reduceCtorEq]; exact J9
                · simp only [uF_s, uF_n, uF_ss, uF_cc, id_eq, ne_eq, not_false_eq_true, Nat.reduceEqDiff, Nat.reduceLT, reduceCtorEq]; rw [J10, ek, smS, Int.toNat_of_nonneg hk.1, Y.2]
                · exact frF_u (frF_u (frF_u (frF_u FG (by decide)) (by decide)) (by decide)) (by decide)
                · exact frA_u (frA_u FB (by decide)) (by decide)
                · intro i i0 i1
                  simp only [uA_s, uA_n, uA_ss, uA_cc, id_eq, ne_eq, not_false_eq_true, Nat.reduceEqDiff, Nat.reduceLT, reduceCtorEq]
                  by_cases e9 : i = k
                  · rw [e9, up_s]
                    refine ⟨s6, rfl, fun j j0 j1 => ⟨?_, Y.1.m_r ⟨j0, j1⟩⟩⟩
                    unfold wrM; rw [if_pos (by omega)]; congr 1; omega
                  · rw [up_n e9]
                    obtain ⟨y1, y2, y3⟩ := J i i0 (by omega)
                    refine ⟨y1, y2, fun j j0 j1 => ⟨?_, (y3 j j0 j1).2⟩⟩
                    unfold wrM; rw [if_neg (by omega)]; exact (y3 j j0 j1).1
  refine gg_drop 4 ?_
  refine gg_conv (L_30 _ 0 _ _ rfl (by omega) ?_ ?_ ?_ ?_ ?_ ?_ ?_ ?_) rfl rfl rfl
  · simp only [uF_s, uF_n, uF_ss, uF_cc, id_eq, ne_eq, not_false_eq_true, Nat.reduceEqDiff, Nat.reduceLT, reduceCtorEq]
  · simp only [uF_s, uF_n, uF_ss, uF_cc, id_eq, ne_eq, not_false_eq_true, Nat.reduceEqDiff, Nat.reduceLT, reduceCtorEq]; rfl
  · simp only [uF_s, uF_n, uF_ss, uF_cc, id_eq, ne_eq, not_false_eq_true, Nat.reduceEqDiff, Nat.reduceLT, reduceCtorEq]; rfl
  · simp only [uF_s, uF_n, uF_ss, uF_cc, id_eq, ne_eq, not_false_eq_true, Nat.reduceEqDiff, Nat.reduceLT, reduceCtorEq]
  · simp only [uF_s, uF_n, uF_ss, uF_cc, id_eq, ne_eq, not_false_eq_true, Nat.reduceEqDiff, Nat.reduceLT, reduceCtorEq]; rfl
  · exact frF_u (frF_u (frF_u (frF_u (frF_u (fun _ _ => rfl) (by decide)) (by decide)) (by decide)) (by decide)) (by decide)
  · exact fun _ _ => rfl
  · intro i i0 i1; omega
