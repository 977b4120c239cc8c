/-! the reference: restore, before and after a save -/
set_option maxRecDepth 100000 in
set_option maxHeartbeats 4000000 in
theorem c3_X10_restore {Γ : GT} {h : XH} {F : Nat → Int} {A : Nat → Int → Int} (S : F 6 = 1 → StA (A 3)) (T : ∀ x, InR (A 1 x)) (h6 : F 6 = 0 ∨ F 6 = 1) : Ct Γ M_X10_restore [.ref (g_L Γ 0)] (mst Γ h F A) (fun r h9 => (F 6 = 0 ∧ r = some (.int (iN 0)) ∧ h9 = mst Γ h (uF F 0 1) A) ∨ (F 6 = 1 ∧ r = some (.int (iN (A 3 5 + A 3 6 + A 3 7 + A 3 8))) ∧ h9 = mst Γ h (uF (uF F 0 0) 5 0) (uA A 1 (cp (A 3) (A 1) 0 0 2609)))) (fun _ _ => False) := by
  refine Ct.of rfl (by decide +kernel) (Nat.le_of_ble_eq_true rfl) ?_
  generalize hQF9 : QM Γ _ _ _ = QF9
  refine gg_aload_n dX10_restore_0 rfl rfl ?_
  refine gi_iconst dX10_restore_1 ?_
  refine gm_put3 rfl dX10_restore_2 (by (try simp only [uF_ss, uF_cc, id_eq, Nat.reduceLT, reduceCtorEq]); rfl) ?_
  refine gg_aload_n dX10_restore_5 rfl rfl ?_
  refine gm_get29 rfl dX10_restore_6 (by (try simp only [uF_s, uF_n, ne_eq, not_false_eq_true, Nat.reduceEqDiff, reduceCtorEq]); rfl) ?_
  refine gi_if_ne (tgt := 18) dX10_restore_9 (by decide) ⟨by omega, by omega⟩ (fun c_9 => ?_) (fun c_9 => ?_)
  · refine gg_aload_n dX10_restore_18 rfl rfl ?_
    refine gm_get20 rfl dX10_restore_19 ?_
    refine gi_iconst dX10_restore_22 ?_
    refine gg_aload_n dX10_restore_23 rfl rfl ?_
    refine gm_get13 rfl dX10_restore_24 ?_
    refine gi_iconst dX10_restore_27 ?_
    refine gc_X10_154 rfl dX10_restore_28 ⟨(Nat.le_of_ble_eq_true rfl), (Nat.le_of_ble_eq_true rfl)⟩ ⟨(Nat.le_of_ble_eq_true rfl), (Nat.le_of_ble_eq_true rfl)⟩ (Nat.le_of_ble_eq_true rfl) (c_X10_copies (ja := 3) (jb := 1) (by decide) (by decide) rfl rfl (by decide) (by decide) ⟨by omega, by simp only [ml9]; omega⟩ ⟨by omega, by simp only [ml9]; omega⟩ (Or.inl (by decide))) (fun _ _ w => w.elim) (fun r_28 h_28 hp => ?_)
    obtain ⟨rfl, rfl⟩ := hp
    simp only [uA_s, uA_n, uA_ss, uA_cc, id_eq, ne_eq, not_false_eq_true, Nat.reduceEqDiff, Nat.reduceLT, reduceCtorEq]
    refine gg_aload_n dX10_restore_31 rfl rfl ?_
    refine gi_iconst dX10_restore_32 ?_
    refine gm_put26 rfl dX10_restore_33 (by (try simp only [uF_ss, uF_cc, id_eq, Nat.reduceLT, reduceCtorEq]); rfl) ?_
    refine gg_aload_n dX10_restore_36 rfl rfl ?_
    refine gc_X10_355 rfl dX10_restore_37 ⟨(Nat.le_of_ble_eq_true rfl), (Nat.le_of_ble_eq_true rfl)⟩ ⟨(Nat.le_of_ble_eq_true rfl), (Nat.le_of_ble_eq_true rfl)⟩ (Nat.le_of_ble_eq_true rfl) (HAt.mu rfl) (c_X10_lines (by simp only [uA_s, uA_n, uA_ss, uA_cc, id_eq, ne_eq, not_false_eq_true, Nat.reduceEqDiff, Nat.reduceLT, reduceCtorEq]; exact sta_cp (S (by omega)) T)) (fun _ _ w => w.elim) (fun r_37 h_37 hp => ?_)
    obtain ⟨rfl, rfl⟩ := hp
    simp only [uA_s, uA_n, uA_ss, uA_cc, id_eq, ne_eq, not_false_eq_true, Nat.reduceEqDiff, Nat.reduceLT, reduceCtorEq]
    subst hQF9
    refine gg_iret dX10_restore_40 rfl rfl ⟨(Nat.le_of_ble_eq_true rfl), (Nat.le_of_ble_eq_true rfl)⟩ ?_
    exact Or.inr ⟨by omega, by simp [cp], rfl⟩
  · refine gg_aload_n dX10_restore_12 rfl rfl ?_
    refine gi_iconst dX10_restore_13 ?_
    refine gc_X10_162 rfl dX10_restore_14 ⟨(Nat.le_of_ble_eq_true rfl), (Nat.le_of_ble_eq_true rfl)⟩ ⟨(Nat.le_of_ble_eq_true rfl), (Nat.le_of_ble_eq_true rfl)⟩ (Nat.le_of_ble_eq_true rfl) (HAt.mu rfl) (c_X10_fails) (fun _ _ w => w.elim) (fun r_14 h_14 hp => ?_)
    obtain ⟨rfl, rfl⟩ := hp
    subst hQF9
    refine gg_iret dX10_restore_17 rfl rfl ⟨(Nat.le_of_ble_eq_true rfl), (Nat.le_of_ble_eq_true rfl)⟩ ?_
    exact Or.inl ⟨by omega, rfl, by rw [uF_ss]⟩
