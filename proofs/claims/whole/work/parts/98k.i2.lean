/-! objects made: the reference and the class -/
/-- the same but for where the cells lie -/
def stL (Γ : GT) (L : Nat → Nat) : GT := (Γ.1, Γ.2.1, Γ.2.2.1, Γ.2.2.2.1, L, Γ.2.2.2.2.2)
def F00 (k : Nat) : Int := if k = 10 then -1 else 0
def A00 (j : Nat) : Int → Int := if j = 1 then up (up (fun _ => 0) 1 5) 3 6 else fun _ => 0
def tbL (tb : List (Nat × Nat)) (i : Nat) : Nat := (tb.lookup i).getD 0
def lay10 : List Nat := [0, 1, 22, 21, 20, 19, 18, 17, 16, 15, 14, 13, 12, 11, 10, 9, 8, 7, 6, 5, 4, 3, 2]
set_option maxHeartbeats 4000000 in
set_option maxRecDepth 100000 in
theorem c_X10_init {Γ : GT} {hm ι0 ι : Nat → Option XE} {q : Nat} {ps : List (Nat × XE)} (K : Kp ι0 ι ((q, .inr (12, [.int 0, .null, .null, .null, .null, .int 0, .int 0, .null, .int 0, .int 0, .int 0, .int 0, .int 0, .int 0, .null, .null, .int 0, .null, .null, .null, .null, .null, .null, .null, .int 0, .int 0, .null, .int 0, .int 0, .int 0, .int 0, .null, .null, .null, .int 0, .int 0, .int 0, .int 0, .int 0, .int 0, .int 0, .int 0, .int 0, .null, .null, .null, .null])) :: ps)) : Ct Γ M_X10_init [.ref q] (hm, ι) (fun r h9 => ∃ (L : Nat → Nat) (ι' : Nat → Option XE), r = none ∧ h9 = (hm, ι') ∧ L 0 = q ∧ Kp ι0 ι' (lay10.map (fun i => (L i, mcell (stL Γ L) F00 A00 i)) ++ ps)) (fun _ _ => False) := by
  refine Ct.of rfl (by decide +kernel) (Nat.le_of_ble_eq_true rfl) ?_
  generalize hQF9 : QM Γ _ _ _ = QF9
  refine gg_aload_n dX10_init_0 rfl rfl ?_
  refine gc_X10_7 rfl dX10_init_1 ⟨(Nat.le_of_ble_eq_true rfl), (Nat.le_of_ble_eq_true rfl)⟩ ?_
  refine gg_aload_n dX10_init_4 rfl rfl ?_
  refine gi_iconst dX10_init_5 ?_
  refine gp_X10_3 rfl dX10_init_6 (Nat.le_of_ble_eq_true rfl) rfl rfl (HPut.io K.hd) ?_
  refine gk_kput (e' := .inr (12, [.int (iN 0), .null, .null, .null, .null, .int 0, .int 0, .null, .int 0, .int 0, .int 0, .int 0, .int 0, .int 0, .null, .null, .int 0, .null, .null, .null, .null, .null, .null, .null, .int 0, .int 0, .null, .int 0, .int 0, .int 0, .int 0, .null, .null, .null, .int 0, .int 0, .int 0, .int 0, .int 0, .int 0, .int 0, .int 0, .int 0, .null, .null, .null, .null])) K (fun ι1 K1 => ?_)
  refine gg_aload_n dX10_init_9 rfl rfl ?_
  refine gi_sipush dX10_init_10 rfl ?_
  refine gg_newa (n := iN 2609) (t := 0) (N := 2609) (a0 := (2609, ia (fun _ => 0))) dX10_init_13 (by decide) rfl (wi_1 _ (List.mem_of_getElem? (i := 9) rfl)) (fun _ => rfl) (by decide) (by decide) (by decide) (Nat.le_of_ble_eq_true rfl) (Nat.le_of_ble_eq_true rfl) (fun a1 fa1 => ?_)
  refine gk_knew2 K1 fa1.1 (fun ι2 K2 => ?_)
  refine gp_X10_13 rfl rfl dX10_init_15 (Nat.le_of_ble_eq_true rfl) rfl rfl (HPut.io K2.hd) ?_
  refine gk_kput (e' := .inr (12, [.int (iN 0), .ref a1, .null, .null, .null, .int 0, .int 0, .null, .int 0, .int 0, .int 0, .int 0, .int 0, .int 0, .null, .null, .int 0, .null, .null, .null, .null, .null, .null, .null, .int 0, .int 0, .null, .int 0, .int 0, .int 0, .int 0, .null, .null, .null, .int 0, .int 0, .int 0, .int 0, .int 0, .int 0, .int 0, .int 0, .int 0, .null, .null, .null, .null])) K2 (fun ι3 K3 => ?_)
  refine gg_aload_n dX10_init_18 rfl rfl ?_
  refine gi_sipush dX10_init_19 rfl ?_
  refine gg_newa (n := iN 2609) (t := 0) (N := 2609) (a0 := (2609, ia (fun _ => 0))) dX10_init_22 (by decide) rfl (wi_1 _ (List.mem_of_getElem? (i := 9) rfl)) (fun _ => rfl) (by decide) (by decide) (by decide) (Nat.le_of_ble_eq_true rfl) (Nat.le_of_ble_eq_true rfl) (fun a2 fa2 => ?_)
  refine gk_knew2 K3 fa2.1 (fun ι4 K4 => ?_)
  refine gp_X10_17 rfl rfl dX10_init_24 (Nat.le_of_ble_eq_true rfl) rfl rfl (HPut.io K4.hd) ?_
  refine gk_kput (e' := .inr (12, [.int (iN 0), .ref a1, .ref a2, .null, .null, .int 0, .int 0, .null, .int 0, .int 0, .int 0, .int 0, .int 0, .int 0, .null, .null, .int 0, .null, .null, .null, .null, .null, .null, .null, .int 0, .int 0, .null, .int 0, .int 0, .int 0, .int 0, .null, .null, .null, .int 0, .int 0, .int 0, .int 0, .int 0, .int 0, .int 0, .int 0, .int 0, .null, .null, .null, .null])) K4 (fun ι5 K5 => ?_)
  refine gg_aload_n dX10_init_27 rfl rfl ?_
  refine gi_sipush dX10_init_28 rfl ?_
  refine gg_newa (n := iN 2609) (t := 0) (N := 2609) (a0 := (2609, ia (fun _ => 0))) dX10_init_31 (by decide) rfl (wi_1 _ (List.mem_of_getElem? (i := 9) rfl)) (fun _ => rfl) (by decide) (by decide) (by decide) (Nat.le_of_ble_eq_true rfl) (Nat.le_of_ble_eq_true rfl) (fun a3 fa3 => ?_)
  refine gk_knew2 K5 fa3.1 (fun ι6 K6 => ?_)
  refine gp_X10_20 rfl rfl dX10_init_33 (Nat.le_of_ble_eq_true rfl) rfl rfl (HPut.io K6.hd) ?_
  refine gk_kput (e' := .inr (12, [.int (iN 0), .ref a1, .ref a2, .ref a3, .null, .int 0, .int 0, .null, .int 0, .int 0, .int 0, .int 0, .int 0, .int 0, .null, .null, .int 0, .null, .null, .null, .null, .null, .null, .null, .int 0, .int 0, .null, .int 0, .int 0, .int 0, .int 0, .null, .null, .null, .int 0, .int 0, .int 0, .int 0, .int 0, .int 0, .int 0, .int 0, .int 0, .null, .null, .null, .null])) K6 (fun ι7 K7 => ?_)
  refine gg_aload_n dX10_init_36 rfl rfl ?_
  refine gi_sipush dX10_init_37 rfl ?_
  refine gg_newa (n := iN 20872) (t := 0) (N := 20872) (a0 := (20872, ia (fun _ => 0))) dX10_init_40 (by decide) rfl (wi_1 _ (List.mem_of_getElem? (i := 9) rfl)) (fun _ => rfl) (by decide) (by decide) (by decide) (Nat.le_of_ble_eq_true rfl) (Nat.le_of_ble_eq_true rfl) (fun a4 fa4 => ?_)
  refine gk_knew2 K7 fa4.1 (fun ι8 K8 => ?_)
  refine gp_X10_23 rfl rfl dX10_init_42 (Nat.le_of_ble_eq_true rfl) rfl rfl (HPut.io K8.hd) ?_
  refine gk_kput (e' := .inr (12, [.int (iN 0), .ref a1, .ref a2, .ref a3, .ref a4, .int 0, .int 0, .null, .int 0, .int 0, .int 0, .int 0, .int 0, .int 0, .null, .null, .int 0, .null, .null, .null, .null, .null, .null, .null, .int 0, .int 0, .null, .int 0, .int 0, .int 0, .int 0, .null, .null, .null, .int 0, .int 0, .int 0, .int 0, .int 0, .int 0, .int 0, .int 0, .int 0, .null, .null, .null, .null])) K8 (fun ι9 K9 => ?_)
  refine gg_aload_n dX10_init_45 rfl rfl ?_
  refine gi_iconst dX10_init_46 ?_
  refine gp_X10_26 rfl dX10_init_47 (Nat.le_of_ble_eq_true rfl) rfl rfl (HPut.io K9.hd) ?_
  refine gk_kput (e' := .inr (12, [.int (iN 0), .ref a1, .ref a2, .ref a3, .ref a4, .int (iN 0), .int 0, .null, .int 0, .int 0, .int 0, .int 0, .int 0, .int 0, .null, .null, .int 0, .null, .null, .null, .null, .null, .null, .null, .int 0, .int 0, .null, .int 0, .int 0, .int 0, .int 0, .null, .null, .null, .int 0, .int 0, .int 0, .int 0, .int 0, .int 0, .int 0, .int 0, .int 0, .null, .null, .null, .null])) K9 (fun ι10 K10 => ?_)
  refine gg_aload_n dX10_init_50 rfl rfl ?_
  refine gi_iconst dX10_init_51 ?_
  refine gp_X10_29 rfl dX10_init_52 (Nat.le_of_ble_eq_true rfl) rfl rfl (HPut.io K10.hd) ?_
  refine gk_kput (e' := .inr (12, [.int (iN 0), .ref a1, .ref a2, .ref a3, .ref a4, .int (iN 0), .int (iN 0), .null, .int 0, .int 0, .int 0, .int 0, .int 0, .int 0, .null, .null, .int 0, .null, .null, .null, .null, .null, .null, .null, .int 0, .int 0, .null, .int 0, .int 0, .int 0, .int 0, .null, .null, .null, .int 0, .int 0, .int 0, .int 0, .int 0, .int 0, .int 0, .int 0, .int 0, .null, .null, .null, .null])) K10 (fun ι11 K11 => ?_)
  refine gg_aload_n dX10_init_55 rfl rfl ?_
  refine gi_bipush dX10_init_56 rfl ?_
  refine gg_newa (n := iN 60) (t := 0) (N := 60) (a0 := (60, ia (fun _ => 0))) dX10_init_58 (by decide) rfl (wi_1 _ (List.mem_of_getElem? (i := 9) rfl)) (fun _ => rfl) (by decide) (by decide) (by decide) (Nat.le_of_ble_eq_true rfl) (Nat.le_of_ble_eq_true rfl) (fun a5 fa5 => ?_)
  refine gk_knew2 K11 fa5.1 (fun ι12 K12 => ?_)
  refine gp_X10_33 rfl rfl dX10_init_60 (Nat.le_of_ble_eq_true rfl) rfl rfl (HPut.io K12.hd) ?_
  refine gk_kput (e' := .inr (12, [.int (iN 0), .ref a1, .ref a2, .ref a3, .ref a4, .int (iN 0), .int (iN 0), .ref a5, .int 0, .int 0, .int 0, .int 0, .int 0, .int 0, .null, .null, .int 0, .null, .null, .null, .null, .null, .null, .null, .int 0, .int 0, .null, .int 0, .int 0, .int 0, .int 0, .null, .null, .null, .int 0, .int 0, .int 0, .int 0, .int 0, .int 0, .int 0, .int 0, .int 0, .null, .null, .null, .null])) K12 (fun ι13 K13 => ?_)
  refine gg_aload_n dX10_init_63 rfl rfl ?_
  refine gi_iconst dX10_init_64 ?_
  refine gp_X10_36 rfl dX10_init_65 (Nat.le_of_ble_eq_true rfl) rfl rfl (HPut.io K13.hd) ?_
  refine gk_kput (e' := .inr (12, [.int (iN 0), .ref a1, .ref a2, .ref a3, .ref a4, .int (iN 0), .int (iN 0), .ref a5, .int (iN 0), .int 0, .int 0, .int 0, .int 0, .int 0, .null, .null, .int 0, .null, .null, .null, .null, .null, .null, .null, .int 0, .int 0, .null, .int 0, .int 0, .int 0, .int 0, .null, .null, .null, .int 0, .int 0, .int 0, .int 0, .int 0, .int 0, .int 0, .int 0, .int 0, .null, .null, .null, .null])) K13 (fun ι14 K14 => ?_)
  refine gg_aload_n dX10_init_68 rfl rfl ?_
  refine gi_iconst dX10_init_69 ?_
  refine gp_X10_39 rfl dX10_init_70 (Nat.le_of_ble_eq_true rfl) rfl rfl (HPut.io K14.hd) ?_
  refine gk_kput (e' := .inr (12, [.int (iN 0), .ref a1, .ref a2, .ref a3, .ref a4, .int (iN 0), .int (iN 0), .ref a5, .int (iN 0), .int (iN 0), .int 0, .int 0, .int 0, .int 0, .null, .null, .int 0, .null, .null, .null, .null, .null, .null, .null, .int 0, .int 0, .null, .int 0, .int 0, .int 0, .int 0, .null, .null, .null, .int 0, .int 0, .int 0, .int 0, .int 0, .int 0, .int 0, .int 0, .int 0, .null, .null, .null, .null])) K14 (fun ι15 K15 => ?_)
  refine gg_aload_n dX10_init_73 rfl rfl ?_
  refine gi_iconst dX10_init_74 ?_
  refine gp_X10_42 rfl dX10_init_75 (Nat.le_of_ble_eq_true rfl) rfl rfl (HPut.io K15.hd) ?_
  refine gk_kput (e' := .inr (12, [.int (iN 0), .ref a1, .ref a2, .ref a3, .ref a4, .int (iN 0), .int (iN 0), .ref a5, .int (iN 0), .int (iN 0), .int (iN (-1)), .int 0, .int 0, .int 0, .null, .null, .int 0, .null, .null, .null, .null, .null, .null, .null, .int 0, .int 0, .null, .int 0, .int 0, .int 0, .int 0, .null, .null, .null, .int 0, .int 0, .int 0, .int 0, .int 0, .int 0, .int 0, .int 0, .int 0, .null, .null, .null, .null])) K15 (fun ι16 K16 => ?_)
  refine gg_aload_n dX10_init_78 rfl rfl ?_
  refine gi_iconst dX10_init_79 ?_
  refine gp_X10_45 rfl dX10_init_80 (Nat.le_of_ble_eq_true rfl) rfl rfl (HPut.io K16.hd) ?_
  refine gk_kput (e' := .inr (12, [.int (iN 0), .ref a1, .ref a2, .ref a3, .ref a4, .int (iN 0), .int (iN 0), .ref a5, .int (iN 0), .int (iN 0), .int (iN (-1)), .int (iN 0), .int 0, .int 0, .null, .null, .int 0, .null, .null, .null, .null, .null, .null, .null, .int 0, .int 0, .null, .int 0, .int 0, .int 0, .int 0, .null, .null, .null, .int 0, .int 0, .int 0, .int 0, .int 0, .int 0, .int 0, .int 0, .int 0, .null, .null, .null, .null])) K16 (fun ι17 K17 => ?_)
  refine gg_aload_n dX10_init_83 rfl rfl ?_
  refine gi_iconst dX10_init_84 ?_
  refine gp_X10_48 rfl dX10_init_85 (Nat.le_of_ble_eq_true rfl) rfl rfl (HPut.io K17.hd) ?_
  refine gk_kput (e' := .inr (12, [.int (iN 0), .ref a1, .ref a2, .ref a3, .ref a4, .int (iN 0), .int (iN 0), .ref a5, .int (iN 0), .int (iN 0), .int (iN (-1)), .int (iN 0), .int (iN 0), .int 0, .null, .null, .int 0, .null, .null, .null, .null, .null, .null, .null, .int 0, .int 0, .null, .int 0, .int 0, .int 0, .int 0, .null, .null, .null, .int 0, .int 0, .int 0, .int 0, .int 0, .int 0, .int 0, .int 0, .int 0, .null, .null, .null, .null])) K17 (fun ι18 K18 => ?_)
  refine gg_aload_n dX10_init_88 rfl rfl ?_
  refine gi_iconst dX10_init_89 ?_
  refine gp_X10_51 rfl dX10_init_90 (Nat.le_of_ble_eq_true rfl) rfl rfl (HPut.io K18.hd) ?_
  refine gk_kput (e' := .inr (12, [.int (iN 0), .ref a1, .ref a2, .ref a3, .ref a4, .int (iN 0), .int (iN 0), .ref a5, .int (iN 0), .int (iN 0), .int (iN (-1)), .int (iN 0), .int (iN 0), .int (iN 0), .null, .null, .int 0, .null, .null, .null, .null, .null, .null, .null, .int 0, .int 0, .null, .int 0, .int 0, .int 0, .int 0, .null, .null, .null, .int 0, .int 0, .int 0, .int 0, .int 0, .int 0, .int 0, .int 0, .int 0, .null, .null, .null, .null])) K18 (fun ι19 K19 => ?_)
  refine gg_aload_n dX10_init_93 rfl rfl ?_
  refine gi_bipush dX10_init_94 rfl ?_
  refine gg_newa (n := iN 6) (t := 0) (N := 6) (a0 := (6, ia (fun _ => 0))) dX10_init_96 (by decide) rfl (wi_1 _ (List.mem_of_getElem? (i := 9) rfl)) (fun _ => rfl) (by decide) (by decide) (by decide) (Nat.le_of_ble_eq_true rfl) (Nat.le_of_ble_eq_true rfl) (fun a6 fa6 => ?_)
  refine gk_knew2 K19 fa6.1 (fun ι20 K20 => ?_)
  refine gp_X10_54 rfl rfl dX10_init_98 (Nat.le_of_ble_eq_true rfl) rfl rfl (HPut.io K20.hd) ?_
  refine gk_kput (e' := .inr (12, [.int (iN 0), .ref a1, .ref a2, .ref a3, .ref a4, .int (iN 0), .int (iN 0), .ref a5, .int (iN 0), .int (iN 0), .int (iN (-1)), .int (iN 0), .int (iN 0), .int (iN 0), .ref a6, .null, .int 0, .null, .null, .null, .null, .null, .null, .null, .int 0, .int 0, .null, .int 0, .int 0, .int 0, .int 0, .null, .null, .null, .int 0, .int 0, .int 0, .int 0, .int 0, .int 0, .int 0, .int 0, .int 0, .null, .null, .null, .null])) K20 (fun ι21 K21 => ?_)
  refine gg_aload_n dX10_init_101 rfl rfl ?_
  refine gi_bipush dX10_init_102 rfl ?_
  refine gg_newa (n := iN 61) (t := 0) (N := 61) (a0 := (61, ia (fun _ => 0))) dX10_init_104 (by decide) rfl (wi_1 _ (List.mem_of_getElem? (i := 9) rfl)) (fun _ => rfl) (by decide) (by decide) (by decide) (Nat.le_of_ble_eq_true rfl) (Nat.le_of_ble_eq_true rfl) (fun a7 fa7 => ?_)
  refine gk_knew2 K21 fa7.1 (fun ι22 K22 => ?_)
  refine gp_X10_57 rfl rfl dX10_init_106 (Nat.le_of_ble_eq_true rfl) rfl rfl (HPut.io K22.hd) ?_
  refine gk_kput (e' := .inr (12, [.int (iN 0), .ref a1, .ref a2, .ref a3, .ref a4, .int (iN 0), .int (iN 0), .ref a5, .int (iN 0), .int (iN 0), .int (iN (-1)), .int (iN 0), .int (iN 0), .int (iN 0), .ref a6, .ref a7, .int 0, .null, .null, .null, .null, .null, .null, .null, .int 0, .int 0, .null, .int 0, .int 0, .int 0, .int 0, .null, .null, .null, .int 0, .int 0, .int 0, .int 0, .int 0, .int 0, .int 0, .int 0, .int 0, .null, .null, .null, .null])) K22 (fun ι23 K23 => ?_)
  refine gg_aload_n dX10_init_109 rfl rfl ?_
  refine gi_iconst dX10_init_110 ?_
  refine gp_X10_60 rfl dX10_init_111 (Nat.le_of_ble_eq_true rfl) rfl rfl (HPut.io K23.hd) ?_
  refine gk_kput (e' := .inr (12, [.int (iN 0), .ref a1, .ref a2, .ref a3, .ref a4, .int (iN 0), .int (iN 0), .ref a5, .int (iN 0), .int (iN 0), .int (iN (-1)), .int (iN 0), .int (iN 0), .int (iN 0), .ref a6, .ref a7, .int (iN 0), .null, .null, .null, .null, .null, .null, .null, .int 0, .int 0, .null, .int 0, .int 0, .int 0, .int 0, .null, .null, .null, .int 0, .int 0, .int 0, .int 0, .int 0, .int 0, .int 0, .int 0, .int 0, .null, .null, .null, .null])) K23 (fun ι24 K24 => ?_)
  refine gg_aload_n dX10_init_114 rfl rfl ?_
  refine gi_bipush dX10_init_115 rfl ?_
  refine gg_newa (n := iN 12) (t := 0) (N := 12) (a0 := (12, ia (fun _ => 0))) dX10_init_117 (by decide) rfl (wi_1 _ (List.mem_of_getElem? (i := 9) rfl)) (fun _ => rfl) (by decide) (by decide) (by decide) (Nat.le_of_ble_eq_true rfl) (Nat.le_of_ble_eq_true rfl) (fun a8 fa8 => ?_)
  refine gk_knew2 K24 fa8.1 (fun ι25 K25 => ?_)
  refine gp_X10_63 rfl rfl dX10_init_119 (Nat.le_of_ble_eq_true rfl) rfl rfl (HPut.io K25.hd) ?_
  refine gk_kput (e' := .inr (12, [.int (iN 0), .ref a1, .ref a2, .ref a3, .ref a4, .int (iN 0), .int (iN 0), .ref a5, .int (iN 0), .int (iN 0), .int (iN (-1)), .int (iN 0), .int (iN 0), .int (iN 0), .ref a6, .ref a7, .int (iN 0), .ref a8, .null, .null, .null, .null, .null, .null, .int 0, .int 0, .null, .int 0, .int 0, .int 0, .int 0, .null, .null, .null, .int 0, .int 0, .int 0, .int 0, .int 0, .int 0, .int 0, .int 0, .int 0, .null, .null, .null, .null])) K25 (fun ι26 K26 => ?_)
  refine gg_aload_n dX10_init_122 rfl rfl ?_
  refine gi_bipush dX10_init_123 rfl ?_
  refine gg_newa (n := iN 12) (t := 0) (N := 12) (a0 := (12, ia (fun _ => 0))) dX10_init_125 (by decide) rfl (wi_1 _ (List.mem_of_getElem? (i := 9) rfl)) (fun _ => rfl) (by decide) (by decide) (by decide) (Nat.le_of_ble_eq_true rfl) (Nat.le_of_ble_eq_true rfl) (fun a9 fa9 => ?_)
  refine gk_knew2 K26 fa9.1 (fun ι27 K27 => ?_)
  refine gp_X10_66 rfl rfl dX10_init_127 (Nat.le_of_ble_eq_true rfl) rfl rfl (HPut.io K27.hd) ?_
  refine gk_kput (e' := .inr (12, [.int (iN 0), .ref a1, .ref a2, .ref a3, .ref a4, .int (iN 0), .int (iN 0), .ref a5, .int (iN 0), .int (iN 0), .int (iN (-1)), .int (iN 0), .int (iN 0), .int (iN 0), .ref a6, .ref a7, .int (iN 0), .ref a8, .ref a9, .null, .null, .null, .null, .null, .int 0, .int 0, .null, .int 0, .int 0, .int 0, .int 0, .null, .null, .null, .int 0, .int 0, .int 0, .int 0, .int 0, .int 0, .int 0, .int 0, .int 0, .null, .null, .null, .null])) K27 (fun ι28 K28 => ?_)
  refine gg_aload_n dX10_init_130 rfl rfl ?_
  refine gi_bipush dX10_init_131 rfl ?_
  refine gg_newa (n := iN 12) (t := 0) (N := 12) (a0 := (12, ia (fun _ => 0))) dX10_init_133 (by decide) rfl (wi_1 _ (List.mem_of_getElem? (i := 9) rfl)) (fun _ => rfl) (by decide) (by decide) (by decide) (Nat.le_of_ble_eq_true rfl) (Nat.le_of_ble_eq_true rfl) (fun a10 fa10 => ?_)
  refine gk_knew2 K28 fa10.1 (fun ι29 K29 => ?_)
  refine gp_X10_69 rfl rfl dX10_init_135 (Nat.le_of_ble_eq_true rfl) rfl rfl (HPut.io K29.hd) ?_
  refine gk_kput (e' := .inr (12, [.int (iN 0), .ref a1, .ref a2, .ref a3, .ref a4, .int (iN 0), .int (iN 0), .ref a5, .int (iN 0), .int (iN 0), .int (iN (-1)), .int (iN 0), .int (iN 0), .int (iN 0), .ref a6, .ref a7, .int (iN 0), .ref a8, .ref a9, .ref a10, .null, .null, .null, .null, .int 0, .int 0, .null, .int 0, .int 0, .int 0, .int 0, .null, .null, .null, .int 0, .int 0, .int 0, .int 0, .int 0, .int 0, .int 0, .int 0, .int 0, .null, .null, .null, .null])) K29 (fun ι30 K30 => ?_)
  refine gg_aload_n dX10_init_138 rfl rfl ?_
  refine gi_sipush dX10_init_139 rfl ?_
  refine gg_newa (n := iN 144) (t := 0) (N := 144) (a0 := (144, ia (fun _ => 0))) dX10_init_142 (by decide) rfl (wi_1 _ (List.mem_of_getElem? (i := 9) rfl)) (fun _ => rfl) (by decide) (by decide) (by decide) (Nat.le_of_ble_eq_true rfl) (Nat.le_of_ble_eq_true rfl) (fun a11 fa11 => ?_)
  refine gk_knew2 K30 fa11.1 (fun ι31 K31 => ?_)
  refine gp_X10_72 rfl rfl dX10_init_144 (Nat.le_of_ble_eq_true rfl) rfl rfl (HPut.io K31.hd) ?_
  refine gk_kput (e' := .inr (12, [.int (iN 0), .ref a1, .ref a2, .ref a3, .ref a4, .int (iN 0), .int (iN 0), .ref a5, .int (iN 0), .int (iN 0), .int (iN (-1)), .int (iN 0), .int (iN 0), .int (iN 0), .ref a6, .ref a7, .int (iN 0), .ref a8, .ref a9, .ref a10, .ref a11, .null, .null, .null, .int 0, .int 0, .null, .int 0, .int 0, .int 0, .int 0, .null, .null, .null, .int 0, .int 0, .int 0, .int 0, .int 0, .int 0, .int 0, .int 0, .int 0, .null, .null, .null, .null])) K31 (fun ι32 K32 => ?_)
  refine gg_aload_n dX10_init_147 rfl rfl ?_
  refine gi_bipush dX10_init_148 rfl ?_
  refine gg_newa (n := iN 12) (t := 2) (N := 12) (a0 := (12, ia (fun _ => 0))) dX10_init_150 (by decide) rfl (wi_5 _ (List.mem_of_getElem? (i := 17) rfl)) (fun _ => rfl) (by decide) (by decide) (by decide) (Nat.le_of_ble_eq_true rfl) (Nat.le_of_ble_eq_true rfl) (fun a12 fa12 => ?_)
  refine gk_knew2 K32 fa12.1 (fun ι33 K33 => ?_)
  refine gp_X10_75 rfl rfl dX10_init_152 (Nat.le_of_ble_eq_true rfl) rfl rfl (HPut.io K33.hd) ?_
  refine gk_kput (e' := .inr (12, [.int (iN 0), .ref a1, .ref a2, .ref a3, .ref a4, .int (iN 0), .int (iN 0), .ref a5, .int (iN 0), .int (iN 0), .int (iN (-1)), .int (iN 0), .int (iN 0), .int (iN 0), .ref a6, .ref a7, .int (iN 0), .ref a8, .ref a9, .ref a10, .ref a11, .ref a12, .null, .null, .int 0, .int 0, .null, .int 0, .int 0, .int 0, .int 0, .null, .null, .null, .int 0, .int 0, .int 0, .int 0, .int 0, .int 0, .int 0, .int 0, .int 0, .null, .null, .null, .null])) K33 (fun ι34 K34 => ?_)
  refine gg_aload_n dX10_init_155 rfl rfl ?_
  refine gi_bipush dX10_init_156 rfl ?_
  refine gg_newa (n := iN 12) (t := 2) (N := 12) (a0 := (12, ia (fun _ => 0))) dX10_init_158 (by decide) rfl (wi_5 _ (List.mem_of_getElem? (i := 17) rfl)) (fun _ => rfl) (by decide) (by decide) (by decide) (Nat.le_of_ble_eq_true rfl) (Nat.le_of_ble_eq_true rfl) (fun a13 fa13 => ?_)
  refine gk_knew2 K34 fa13.1 (fun ι35 K35 => ?_)
  refine gp_X10_79 rfl rfl dX10_init_160 (Nat.le_of_ble_eq_true rfl) rfl rfl (HPut.io K35.hd) ?_
  refine gk_kput (e' := .inr (12, [.int (iN 0), .ref a1, .ref a2, .ref a3, .ref a4, .int (iN 0), .int (iN 0), .ref a5, .int (iN 0), .int (iN 0), .int (iN (-1)), .int (iN 0), .int (iN 0), .int (iN 0), .ref a6, .ref a7, .int (iN 0), .ref a8, .ref a9, .ref a10, .ref a11, .ref a12, .ref a13, .null, .int 0, .int 0, .null, .int 0, .int 0, .int 0, .int 0, .null, .null, .null, .int 0, .int 0, .int 0, .int 0, .int 0, .int 0, .int 0, .int 0, .int 0, .null, .null, .null, .null])) K35 (fun ι36 K36 => ?_)
  refine gg_aload_n dX10_init_163 rfl rfl ?_
  refine gi_bipush dX10_init_164 rfl ?_
  refine gg_newa (n := iN 12) (t := 2) (N := 12) (a0 := (12, ia (fun _ => 0))) dX10_init_166 (by decide) rfl (wi_5 _ (List.mem_of_getElem? (i := 17) rfl)) (fun _ => rfl) (by decide) (by decide) (by decide) (Nat.le_of_ble_eq_true rfl) (Nat.le_of_ble_eq_true rfl) (fun a14 fa14 => ?_)
  refine gk_knew2 K36 fa14.1 (fun ι37 K37 => ?_)
  refine gp_X10_82 rfl rfl dX10_init_168 (Nat.le_of_ble_eq_true rfl) rfl rfl (HPut.io K37.hd) ?_
  refine gk_kput (e' := .inr (12, [.int (iN 0), .ref a1, .ref a2, .ref a3, .ref a4, .int (iN 0), .int (iN 0), .ref a5, .int (iN 0), .int (iN 0), .int (iN (-1)), .int (iN 0), .int (iN 0), .int (iN 0), .ref a6, .ref a7, .int (iN 0), .ref a8, .ref a9, .ref a10, .ref a11, .ref a12, .ref a13, .ref a14, .int 0, .int 0, .null, .int 0, .int 0, .int 0, .int 0, .null, .null, .null, .int 0, .int 0, .int 0, .int 0, .int 0, .int 0, .int 0, .int 0, .int 0, .null, .null, .null, .null])) K37 (fun ι38 K38 => ?_)
  refine gg_aload_n dX10_init_171 rfl rfl ?_
  refine gi_iconst dX10_init_172 ?_
  refine gp_X10_85 rfl dX10_init_173 (Nat.le_of_ble_eq_true rfl) rfl rfl (HPut.io K38.hd) ?_
  refine gk_kput (e' := .inr (12, [.int (iN 0), .ref a1, .ref a2, .ref a3, .ref a4, .int (iN 0), .int (iN 0), .ref a5, .int (iN 0), .int (iN 0), .int (iN (-1)), .int (iN 0), .int (iN 0), .int (iN 0), .ref a6, .ref a7, .int (iN 0), .ref a8, .ref a9, .ref a10, .ref a11, .ref a12, .ref a13, .ref a14, .int (iN 0), .int 0, .null, .int 0, .int 0, .int 0, .int 0, .null, .null, .null, .int 0, .int 0, .int 0, .int 0, .int 0, .int 0, .int 0, .int 0, .int 0, .null, .null, .null, .null])) K38 (fun ι39 K39 => ?_)
  refine gg_aload_n dX10_init_176 rfl rfl ?_
  refine gi_iconst dX10_init_177 ?_
  refine gp_X10_88 rfl dX10_init_178 (Nat.le_of_ble_eq_true rfl) rfl rfl (HPut.io K39.hd) ?_
  refine gk_kput (e' := .inr (12, [.int (iN 0), .ref a1, .ref a2, .ref a3, .ref a4, .int (iN 0), .int (iN 0), .ref a5, .int (iN 0), .int (iN 0), .int (iN (-1)), .int (iN 0), .int (iN 0), .int (iN 0), .ref a6, .ref a7, .int (iN 0), .ref a8, .ref a9, .ref a10, .ref a11, .ref a12, .ref a13, .ref a14, .int (iN 0), .int (iN 0), .null, .int 0, .int 0, .int 0, .int 0, .null, .null, .null, .int 0, .int 0, .int 0, .int 0, .int 0, .int 0, .int 0, .int 0, .int 0, .null, .null, .null, .null])) K39 (fun ι40 K40 => ?_)
  refine gg_aload_n dX10_init_181 rfl rfl ?_
  refine gi_bipush dX10_init_182 rfl ?_
  refine gg_newa (n := iN 12) (t := 0) (N := 12) (a0 := (12, ia (fun _ => 0))) dX10_init_184 (by decide) rfl (wi_1 _ (List.mem_of_getElem? (i := 9) rfl)) (fun _ => rfl) (by decide) (by decide) (by decide) (Nat.le_of_ble_eq_true rfl) (Nat.le_of_ble_eq_true rfl) (fun a15 fa15 => ?_)
  refine gk_knew2 K40 fa15.1 (fun ι41 K41 => ?_)
  refine gp_X10_91 rfl rfl dX10_init_186 (Nat.le_of_ble_eq_true rfl) rfl rfl (HPut.io K41.hd) ?_
  refine gk_kput (e' := .inr (12, [.int (iN 0), .ref a1, .ref a2, .ref a3, .ref a4, .int (iN 0), .int (iN 0), .ref a5, .int (iN 0), .int (iN 0), .int (iN (-1)), .int (iN 0), .int (iN 0), .int (iN 0), .ref a6, .ref a7, .int (iN 0), .ref a8, .ref a9, .ref a10, .ref a11, .ref a12, .ref a13, .ref a14, .int (iN 0), .int (iN 0), .ref a15, .int 0, .int 0, .int 0, .int 0, .null, .null, .null, .int 0, .int 0, .int 0, .int 0, .int 0, .int 0, .int 0, .int 0, .int 0, .null, .null, .null, .null])) K41 (fun ι42 K42 => ?_)
  refine gg_aload_n dX10_init_189 rfl rfl ?_
  refine gi_iconst dX10_init_190 ?_
  refine gp_X10_94 rfl dX10_init_191 (Nat.le_of_ble_eq_true rfl) rfl rfl (HPut.io K42.hd) ?_
  refine gk_kput (e' := .inr (12, [.int (iN 0), .ref a1, .ref a2, .ref a3, .ref a4, .int (iN 0), .int (iN 0), .ref a5, .int (iN 0), .int (iN 0), .int (iN (-1)), .int (iN 0), .int (iN 0), .int (iN 0), .ref a6, .ref a7, .int (iN 0), .ref a8, .ref a9, .ref a10, .ref a11, .ref a12, .ref a13, .ref a14, .int (iN 0), .int (iN 0), .ref a15, .int (iN 0), .int 0, .int 0, .int 0, .null, .null, .null, .int 0, .int 0, .int 0, .int 0, .int 0, .int 0, .int 0, .int 0, .int 0, .null, .null, .null, .null])) K42 (fun ι43 K43 => ?_)
  refine gg_aload_n dX10_init_194 rfl rfl ?_
  refine gi_iconst dX10_init_195 ?_
  refine gp_X10_97 rfl dX10_init_196 (Nat.le_of_ble_eq_true rfl) rfl rfl (HPut.io K43.hd) ?_
  refine gk_kput (e' := .inr (12, [.int (iN 0), .ref a1, .ref a2, .ref a3, .ref a4, .int (iN 0), .int (iN 0), .ref a5, .int (iN 0), .int (iN 0), .int (iN (-1)), .int (iN 0), .int (iN 0), .int (iN 0), .ref a6, .ref a7, .int (iN 0), .ref a8, .ref a9, .ref a10, .ref a11, .ref a12, .ref a13, .ref a14, .int (iN 0), .int (iN 0), .ref a15, .int (iN 0), .int (iN 0), .int 0, .int 0, .null, .null, .null, .int 0, .int 0, .int 0, .int 0, .int 0, .int 0, .int 0, .int 0, .int 0, .null, .null, .null, .null])) K43 (fun ι44 K44 => ?_)
  refine gg_aload_n dX10_init_199 rfl rfl ?_
  refine gi_iconst dX10_init_200 ?_
  refine gp_X10_100 rfl dX10_init_201 (Nat.le_of_ble_eq_true rfl) rfl rfl (HPut.io K44.hd) ?_
  refine gk_kput (e' := .inr (12, [.int (iN 0), .ref a1, .ref a2, .ref a3, .ref a4, .int (iN 0), .int (iN 0), .ref a5, .int (iN 0), .int (iN 0), .int (iN (-1)), .int (iN 0), .int (iN 0), .int (iN 0), .ref a6, .ref a7, .int (iN 0), .ref a8, .ref a9, .ref a10, .ref a11, .ref a12, .ref a13, .ref a14, .int (iN 0), .int (iN 0), .ref a15, .int (iN 0), .int (iN 0), .int (iN 0), .int 0, .null, .null, .null, .int 0, .int 0, .int 0, .int 0, .int 0, .int 0, .int 0, .int 0, .int 0, .null, .null, .null, .null])) K44 (fun ι45 K45 => ?_)
  refine gg_aload_n dX10_init_204 rfl rfl ?_
  refine gi_iconst dX10_init_205 ?_
  refine gp_X10_103 rfl dX10_init_206 (Nat.le_of_ble_eq_true rfl) rfl rfl (HPut.io K45.hd) ?_
  refine gk_kput (e' := .inr (12, [.int (iN 0), .ref a1, .ref a2, .ref a3, .ref a4, .int (iN 0), .int (iN 0), .ref a5, .int (iN 0), .int (iN 0), .int (iN (-1)), .int (iN 0), .int (iN 0), .int (iN 0), .ref a6, .ref a7, .int (iN 0), .ref a8, .ref a9, .ref a10, .ref a11, .ref a12, .ref a13, .ref a14, .int (iN 0), .int (iN 0), .ref a15, .int (iN 0), .int (iN 0), .int (iN 0), .int (iN 0), .null, .null, .null, .int 0, .int 0, .int 0, .int 0, .int 0, .int 0, .int 0, .int 0, .int 0, .null, .null, .null, .null])) K45 (fun ι46 K46 => ?_)
  refine gg_aload_n dX10_init_209 rfl rfl ?_
  refine gi_sipush dX10_init_210 rfl ?_
  refine gg_newa (n := iN 144) (t := 0) (N := 144) (a0 := (144, ia (fun _ => 0))) dX10_init_213 (by decide) rfl (wi_1 _ (List.mem_of_getElem? (i := 9) rfl)) (fun _ => rfl) (by decide) (by decide) (by decide) (Nat.le_of_ble_eq_true rfl) (Nat.le_of_ble_eq_true rfl) (fun a16 fa16 => ?_)
  refine gk_knew2 K46 fa16.1 (fun ι47 K47 => ?_)
  refine gp_X10_106 rfl rfl dX10_init_215 (Nat.le_of_ble_eq_true rfl) rfl rfl (HPut.io K47.hd) ?_
  refine gk_kput (e' := .inr (12, [.int (iN 0), .ref a1, .ref a2, .ref a3, .ref a4, .int (iN 0), .int (iN 0), .ref a5, .int (iN 0), .int (iN 0), .int (iN (-1)), .int (iN 0), .int (iN 0), .int (iN 0), .ref a6, .ref a7, .int (iN 0), .ref a8, .ref a9, .ref a10, .ref a11, .ref a12, .ref a13, .ref a14, .int (iN 0), .int (iN 0), .ref a15, .int (iN 0), .int (iN 0), .int (iN 0), .int (iN 0), .ref a16, .null, .null, .int 0, .int 0, .int 0, .int 0, .int 0, .int 0, .int 0, .int 0, .int 0, .null, .null, .null, .null])) K47 (fun ι48 K48 => ?_)
  refine gg_aload_n dX10_init_218 rfl rfl ?_
  refine gi_sipush dX10_init_219 rfl ?_
  refine gg_newa (n := iN 144) (t := 2) (N := 144) (a0 := (144, ia (fun _ => 0))) dX10_init_222 (by decide) rfl (wi_5 _ (List.mem_of_getElem? (i := 17) rfl)) (fun _ => rfl) (by decide) (by decide) (by decide) (Nat.le_of_ble_eq_true rfl) (Nat.le_of_ble_eq_true rfl) (fun a17 fa17 => ?_)
  refine gk_knew2 K48 fa17.1 (fun ι49 K49 => ?_)
  refine gp_X10_109 rfl rfl dX10_init_224 (Nat.le_of_ble_eq_true rfl) rfl rfl (HPut.io K49.hd) ?_
  refine gk_kput (e' := .inr (12, [.int (iN 0), .ref a1, .ref a2, .ref a3, .ref a4, .int (iN 0), .int (iN 0), .ref a5, .int (iN 0), .int (iN 0), .int (iN (-1)), .int (iN 0), .int (iN 0), .int (iN 0), .ref a6, .ref a7, .int (iN 0), .ref a8, .ref a9, .ref a10, .ref a11, .ref a12, .ref a13, .ref a14, .int (iN 0), .int (iN 0), .ref a15, .int (iN 0), .int (iN 0), .int (iN 0), .int (iN 0), .ref a16, .ref a17, .null, .int 0, .int 0, .int 0, .int 0, .int 0, .int 0, .int 0, .int 0, .int 0, .null, .null, .null, .null])) K49 (fun ι50 K50 => ?_)
  refine gg_aload_n dX10_init_227 rfl rfl ?_
  refine gi_sipush dX10_init_228 rfl ?_
  refine gg_newa (n := iN 144) (t := 2) (N := 144) (a0 := (144, ia (fun _ => 0))) dX10_init_231 (by decide) rfl (wi_5 _ (List.mem_of_getElem? (i := 17) rfl)) (fun _ => rfl) (by decide) (by decide) (by decide) (Nat.le_of_ble_eq_true rfl) (Nat.le_of_ble_eq_true rfl) (fun a18 fa18 => ?_)
  refine gk_knew2 K50 fa18.1 (fun ι51 K51 => ?_)
  refine gp_X10_112 rfl rfl dX10_init_233 (Nat.le_of_ble_eq_true rfl) rfl rfl (HPut.io K51.hd) ?_
  refine gk_kput (e' := .inr (12, [.int (iN 0), .ref a1, .ref a2, .ref a3, .ref a4, .int (iN 0), .int (iN 0), .ref a5, .int (iN 0), .int (iN 0), .int (iN (-1)), .int (iN 0), .int (iN 0), .int (iN 0), .ref a6, .ref a7, .int (iN 0), .ref a8, .ref a9, .ref a10, .ref a11, .ref a12, .ref a13, .ref a14, .int (iN 0), .int (iN 0), .ref a15, .int (iN 0), .int (iN 0), .int (iN 0), .int (iN 0), .ref a16, .ref a17, .ref a18, .int 0, .int 0, .int 0, .int 0, .int 0, .int 0, .int 0, .int 0, .int 0, .null, .null, .null, .null])) K51 (fun ι52 K52 => ?_)
  refine gg_aload_n dX10_init_236 rfl rfl ?_
  refine gi_iconst dX10_init_237 ?_
  refine gp_X10_115 rfl dX10_init_238 (Nat.le_of_ble_eq_true rfl) rfl rfl (HPut.io K52.hd) ?_
  refine gk_kput (e' := .inr (12, [.int (iN 0), .ref a1, .ref a2, .ref a3, .ref a4, .int (iN 0), .int (iN 0), .ref a5, .int (iN 0), .int (iN 0), .int (iN (-1)), .int (iN 0), .int (iN 0), .int (iN 0), .ref a6, .ref a7, .int (iN 0), .ref a8, .ref a9, .ref a10, .ref a11, .ref a12, .ref a13, .ref a14, .int (iN 0), .int (iN 0), .ref a15, .int (iN 0), .int (iN 0), .int (iN 0), .int (iN 0), .ref a16, .ref a17, .ref a18, .int (iN 0), .int 0, .int 0, .int 0, .int 0, .int 0, .int 0, .int 0, .int 0, .null, .null, .null, .null])) K52 (fun ι53 K53 => ?_)
  refine gg_aload_n dX10_init_241 rfl rfl ?_
  refine gi_iconst dX10_init_242 ?_
  refine gp_X10_118 rfl dX10_init_243 (Nat.le_of_ble_eq_true rfl) rfl rfl (HPut.io K53.hd) ?_
  refine gk_kput (e' := .inr (12, [.int (iN 0), .ref a1, .ref a2, .ref a3, .ref a4, .int (iN 0), .int (iN 0), .ref a5, .int (iN 0), .int (iN 0), .int (iN (-1)), .int (iN 0), .int (iN 0), .int (iN 0), .ref a6, .ref a7, .int (iN 0), .ref a8, .ref a9, .ref a10, .ref a11, .ref a12, .ref a13, .ref a14, .int (iN 0), .int (iN 0), .ref a15, .int (iN 0), .int (iN 0), .int (iN 0), .int (iN 0), .ref a16, .ref a17, .ref a18, .int (iN 0), .int (iN 0), .int 0, .int 0, .int 0, .int 0, .int 0, .int 0, .int 0, .null, .null, .null, .null])) K53 (fun ι54 K54 => ?_)
  refine gg_aload_n dX10_init_246 rfl rfl ?_
  refine gi_iconst dX10_init_247 ?_
  refine gp_X10_121 rfl dX10_init_248 (Nat.le_of_ble_eq_true rfl) rfl rfl (HPut.io K54.hd) ?_
  refine gk_kput (e' := .inr (12, [.int (iN 0), .ref a1, .ref a2, .ref a3, .ref a4, .int (iN 0), .int (iN 0), .ref a5, .int (iN 0), .int (iN 0), .int (iN (-1)), .int (iN 0), .int (iN 0), .int (iN 0), .ref a6, .ref a7, .int (iN 0), .ref a8, .ref a9, .ref a10, .ref a11, .ref a12, .ref a13, .ref a14, .int (iN 0), .int (iN 0), .ref a15, .int (iN 0), .int (iN 0), .int (iN 0), .int (iN 0), .ref a16, .ref a17, .ref a18, .int (iN 0), .int (iN 0), .int (iN 0), .int 0, .int 0, .int 0, .int 0, .int 0, .int 0, .null, .null, .null, .null])) K54 (fun ι55 K55 => ?_)
  refine gg_aload_n dX10_init_251 rfl rfl ?_
  refine gi_iconst dX10_init_252 ?_
  refine gp_X10_124 rfl dX10_init_253 (Nat.le_of_ble_eq_true rfl) rfl rfl (HPut.io K55.hd) ?_
  refine gk_kput (e' := .inr (12, [.int (iN 0), .ref a1, .ref a2, .ref a3, .ref a4, .int (iN 0), .int (iN 0), .ref a5, .int (iN 0), .int (iN 0), .int (iN (-1)), .int (iN 0), .int (iN 0), .int (iN 0), .ref a6, .ref a7, .int (iN 0), .ref a8, .ref a9, .ref a10, .ref a11, .ref a12, .ref a13, .ref a14, .int (iN 0), .int (iN 0), .ref a15, .int (iN 0), .int (iN 0), .int (iN 0), .int (iN 0), .ref a16, .ref a17, .ref a18, .int (iN 0), .int (iN 0), .int (iN 0), .int (iN 0), .int 0, .int 0, .int 0, .int 0, .int 0, .null, .null, .null, .null])) K55 (fun ι56 K56 => ?_)
  refine gg_aload_n dX10_init_256 rfl rfl ?_
  refine gi_iconst dX10_init_257 ?_
  refine gp_X10_127 rfl dX10_init_258 (Nat.le_of_ble_eq_true rfl) rfl rfl (HPut.io K56.hd) ?_
  refine gk_kput (e' := .inr (12, [.int (iN 0), .ref a1, .ref a2, .ref a3, .ref a4, .int (iN 0), .int (iN 0), .ref a5, .int (iN 0), .int (iN 0), .int (iN (-1)), .int (iN 0), .int (iN 0), .int (iN 0), .ref a6, .ref a7, .int (iN 0), .ref a8, .ref a9, .ref a10, .ref a11, .ref a12, .ref a13, .ref a14, .int (iN 0), .int (iN 0), .ref a15, .int (iN 0), .int (iN 0), .int (iN 0), .int (iN 0), .ref a16, .ref a17, .ref a18, .int (iN 0), .int (iN 0), .int (iN 0), .int (iN 0), .int (iN 0), .int 0, .int 0, .int 0, .int 0, .null, .null, .null, .null])) K56 (fun ι57 K57 => ?_)
  refine gg_aload_n dX10_init_261 rfl rfl ?_
  refine gi_iconst dX10_init_262 ?_
  refine gp_X10_130 rfl dX10_init_263 (Nat.le_of_ble_eq_true rfl) rfl rfl (HPut.io K57.hd) ?_
  refine gk_kput (e' := .inr (12, [.int (iN 0), .ref a1, .ref a2, .ref a3, .ref a4, .int (iN 0), .int (iN 0), .ref a5, .int (iN 0), .int (iN 0), .int (iN (-1)), .int (iN 0), .int (iN 0), .int (iN 0), .ref a6, .ref a7, .int (iN 0), .ref a8, .ref a9, .ref a10, .ref a11, .ref a12, .ref a13, .ref a14, .int (iN 0), .int (iN 0), .ref a15, .int (iN 0), .int (iN 0), .int (iN 0), .int (iN 0), .ref a16, .ref a17, .ref a18, .int (iN 0), .int (iN 0), .int (iN 0), .int (iN 0), .int (iN 0), .int (iN 0), .int 0, .int 0, .int 0, .null, .null, .null, .null])) K57 (fun ι58 K58 => ?_)
  refine gg_aload_n dX10_init_266 rfl rfl ?_
  refine gi_iconst dX10_init_267 ?_
  refine gp_X10_133 rfl dX10_init_268 (Nat.le_of_ble_eq_true rfl) rfl rfl (HPut.io K58.hd) ?_
  refine gk_kput (e' := .inr (12, [.int (iN 0), .ref a1, .ref a2, .ref a3, .ref a4, .int (iN 0), .int (iN 0), .ref a5, .int (iN 0), .int (iN 0), .int (iN (-1)), .int (iN 0), .int (iN 0), .int (iN 0), .ref a6, .ref a7, .int (iN 0), .ref a8, .ref a9, .ref a10, .ref a11, .ref a12, .ref a13, .ref a14, .int (iN 0), .int (iN 0), .ref a15, .int (iN 0), .int (iN 0), .int (iN 0), .int (iN 0), .ref a16, .ref a17, .ref a18, .int (iN 0), .int (iN 0), .int (iN 0), .int (iN 0), .int (iN 0), .int (iN 0), .int (iN 0), .int 0, .int 0, .null, .null, .null, .null])) K58 (fun ι59 K59 => ?_)
  refine gg_aload_n dX10_init_271 rfl rfl ?_
  refine gi_iconst dX10_init_272 ?_
  refine gp_X10_136 rfl dX10_init_273 (Nat.le_of_ble_eq_true rfl) rfl rfl (HPut.io K59.hd) ?_
  refine gk_kput (e' := .inr (12, [.int (iN 0), .ref a1, .ref a2, .ref a3, .ref a4, .int (iN 0), .int (iN 0), .ref a5, .int (iN 0), .int (iN 0), .int (iN (-1)), .int (iN 0), .int (iN 0), .int (iN 0), .ref a6, .ref a7, .int (iN 0), .ref a8, .ref a9, .ref a10, .ref a11, .ref a12, .ref a13, .ref a14, .int (iN 0), .int (iN 0), .ref a15, .int (iN 0), .int (iN 0), .int (iN 0), .int (iN 0), .ref a16, .ref a17, .ref a18, .int (iN 0), .int (iN 0), .int (iN 0), .int (iN 0), .int (iN 0), .int (iN 0), .int (iN 0), .int (iN 0), .int 0, .null, .null, .null, .null])) K59 (fun ι60 K60 => ?_)
  refine gg_aload_n dX10_init_276 rfl rfl ?_
  refine gi_iconst dX10_init_277 ?_
  refine gp_X10_139 rfl dX10_init_278 (Nat.le_of_ble_eq_true rfl) rfl rfl (HPut.io K60.hd) ?_
  refine gk_kput (e' := .inr (12, [.int (iN 0), .ref a1, .ref a2, .ref a3, .ref a4, .int (iN 0), .int (iN 0), .ref a5, .int (iN 0), .int (iN 0), .int (iN (-1)), .int (iN 0), .int (iN 0), .int (iN 0), .ref a6, .ref a7, .int (iN 0), .ref a8, .ref a9, .ref a10, .ref a11, .ref a12, .ref a13, .ref a14, .int (iN 0), .int (iN 0), .ref a15, .int (iN 0), .int (iN 0), .int (iN 0), .int (iN 0), .ref a16, .ref a17, .ref a18, .int (iN 0), .int (iN 0), .int (iN 0), .int (iN 0), .int (iN 0), .int (iN 0), .int (iN 0), .int (iN 0), .int (iN 0), .null, .null, .null, .null])) K60 (fun ι61 K61 => ?_)
  refine gg_aload_n dX10_init_281 rfl rfl ?_
  refine gi_bipush dX10_init_282 rfl ?_
  refine gg_newa (n := iN 10) (t := 0) (N := 10) (a0 := (10, ia (fun _ => 0))) dX10_init_284 (by decide) rfl (wi_1 _ (List.mem_of_getElem? (i := 9) rfl)) (fun _ => rfl) (by decide) (by decide) (by decide) (Nat.le_of_ble_eq_true rfl) (Nat.le_of_ble_eq_true rfl) (fun a19 fa19 => ?_)
  refine gk_knew2 K61 fa19.1 (fun ι62 K62 => ?_)
  refine gp_X10_142 rfl rfl dX10_init_286 (Nat.le_of_ble_eq_true rfl) rfl rfl (HPut.io K62.hd) ?_
  refine gk_kput (e' := .inr (12, [.int (iN 0), .ref a1, .ref a2, .ref a3, .ref a4, .int (iN 0), .int (iN 0), .ref a5, .int (iN 0), .int (iN 0), .int (iN (-1)), .int (iN 0), .int (iN 0), .int (iN 0), .ref a6, .ref a7, .int (iN 0), .ref a8, .ref a9, .ref a10, .ref a11, .ref a12, .ref a13, .ref a14, .int (iN 0), .int (iN 0), .ref a15, .int (iN 0), .int (iN 0), .int (iN 0), .int (iN 0), .ref a16, .ref a17, .ref a18, .int (iN 0), .int (iN 0), .int (iN 0), .int (iN 0), .int (iN 0), .int (iN 0), .int (iN 0), .int (iN 0), .int (iN 0), .ref a19, .null, .null, .null])) K62 (fun ι63 K63 => ?_)
  refine gg_aload_n dX10_init_289 rfl rfl ?_
  refine gi_bipush dX10_init_290 rfl ?_
  refine gg_newa (n := iN 12) (t := 0) (N := 12) (a0 := (12, ia (fun _ => 0))) dX10_init_292 (by decide) rfl (wi_1 _ (List.mem_of_getElem? (i := 9) rfl)) (fun _ => rfl) (by decide) (by decide) (by decide) (Nat.le_of_ble_eq_true rfl) (Nat.le_of_ble_eq_true rfl) (fun a20 fa20 => ?_)
  refine gk_knew2 K63 fa20.1 (fun ι64 K64 => ?_)
  refine gp_X10_145 rfl rfl dX10_init_294 (Nat.le_of_ble_eq_true rfl) rfl rfl (HPut.io K64.hd) ?_
  refine gk_kput (e' := .inr (12, [.int (iN 0), .ref a1, .ref a2, .ref a3, .ref a4, .int (iN 0), .int (iN 0), .ref a5, .int (iN 0), .int (iN 0), .int (iN (-1)), .int (iN 0), .int (iN 0), .int (iN 0), .ref a6, .ref a7, .int (iN 0), .ref a8, .ref a9, .ref a10, .ref a11, .ref a12, .ref a13, .ref a14, .int (iN 0), .int (iN 0), .ref a15, .int (iN 0), .int (iN 0), .int (iN 0), .int (iN 0), .ref a16, .ref a17, .ref a18, .int (iN 0), .int (iN 0), .int (iN 0), .int (iN 0), .int (iN 0), .int (iN 0), .int (iN 0), .int (iN 0), .int (iN 0), .ref a19, .ref a20, .null, .null])) K64 (fun ι65 K65 => ?_)
  refine gg_aload_n dX10_init_297 rfl rfl ?_
  refine gi_bipush dX10_init_298 rfl ?_
  refine gg_newa (n := iN 12) (t := 0) (N := 12) (a0 := (12, ia (fun _ => 0))) dX10_init_300 (by decide) rfl (wi_1 _ (List.mem_of_getElem? (i := 9) rfl)) (fun _ => rfl) (by decide) (by decide) (by decide) (Nat.le_of_ble_eq_true rfl) (Nat.le_of_ble_eq_true rfl) (fun a21 fa21 => ?_)
  refine gk_knew2 K65 fa21.1 (fun ι66 K66 => ?_)
  refine gp_X10_148 rfl rfl dX10_init_302 (Nat.le_of_ble_eq_true rfl) rfl rfl (HPut.io K66.hd) ?_
  refine gk_kput (e' := .inr (12, [.int (iN 0), .ref a1, .ref a2, .ref a3, .ref a4, .int (iN 0), .int (iN 0), .ref a5, .int (iN 0), .int (iN 0), .int (iN (-1)), .int (iN 0), .int (iN 0), .int (iN 0), .ref a6, .ref a7, .int (iN 0), .ref a8, .ref a9, .ref a10, .ref a11, .ref a12, .ref a13, .ref a14, .int (iN 0), .int (iN 0), .ref a15, .int (iN 0), .int (iN 0), .int (iN 0), .int (iN 0), .ref a16, .ref a17, .ref a18, .int (iN 0), .int (iN 0), .int (iN 0), .int (iN 0), .int (iN 0), .int (iN 0), .int (iN 0), .int (iN 0), .int (iN 0), .ref a19, .ref a20, .ref a21, .null])) K66 (fun ι67 K67 => ?_)
  refine gg_aload_n dX10_init_305 rfl rfl ?_
  refine gi_bipush dX10_init_306 rfl ?_
  refine gg_newa (n := iN 121) (t := 0) (N := 121) (a0 := (121, ia (fun _ => 0))) dX10_init_308 (by decide) rfl (wi_1 _ (List.mem_of_getElem? (i := 9) rfl)) (fun _ => rfl) (by decide) (by decide) (by decide) (Nat.le_of_ble_eq_true rfl) (Nat.le_of_ble_eq_true rfl) (fun a22 fa22 => ?_)
  refine gk_knew2 K67 fa22.1 (fun ι68 K68 => ?_)
  refine gp_X10_151 rfl rfl dX10_init_310 (Nat.le_of_ble_eq_true rfl) rfl rfl (HPut.io K68.hd) ?_
  refine gk_kput (e' := .inr (12, [.int (iN 0), .ref a1, .ref a2, .ref a3, .ref a4, .int (iN 0), .int (iN 0), .ref a5, .int (iN 0), .int (iN 0), .int (iN (-1)), .int (iN 0), .int (iN 0), .int (iN 0), .ref a6, .ref a7, .int (iN 0), .ref a8, .ref a9, .ref a10, .ref a11, .ref a12, .ref a13, .ref a14, .int (iN 0), .int (iN 0), .ref a15, .int (iN 0), .int (iN 0), .int (iN 0), .int (iN 0), .ref a16, .ref a17, .ref a18, .int (iN 0), .int (iN 0), .int (iN 0), .int (iN 0), .int (iN 0), .int (iN 0), .int (iN 0), .int (iN 0), .int (iN 0), .ref a19, .ref a20, .ref a21, .ref a22])) K68 (fun ι69 K69 => ?_)
  refine gg_aload_n dX10_init_313 rfl rfl ?_
  refine gf_X10_13 rfl dX10_init_314 (HAt.io K69.hd) rfl ?_
  refine gi_iconst dX10_init_317 ?_
  refine gi_iconst dX10_init_318 ?_
  have K70 : Kp ι0 ι69 ((a1, .inl (0, 2609, ia (fun _ => 0))) :: (q, .inr (12, [.int (iN 0), .ref a1, .ref a2, .ref a3, .ref a4, .int (iN 0), .int (iN 0), .ref a5, .int (iN 0), .int (iN 0), .int (iN (-1)), .int (iN 0), .int (iN 0), .int (iN 0), .ref a6, .ref a7, .int (iN 0), .ref a8, .ref a9, .ref a10, .ref a11, .ref a12, .ref a13, .ref a14, .int (iN 0), .int (iN 0), .ref a15, .int (iN 0), .int (iN 0), .int (iN 0), .int (iN 0), .ref a16, .ref a17, .ref a18, .int (iN 0), .int (iN 0), .int (iN 0), .int (iN 0), .int (iN 0), .int (iN 0), .int (iN 0), .int (iN 0), .int (iN 0), .ref a19, .ref a20, .ref a21, .ref a22])) :: (a22, .inl (0, 121, ia (fun _ => 0))) :: (a21, .inl (0, 12, ia (fun _ => 0))) :: (a20, .inl (0, 12, ia (fun _ => 0))) :: (a19, .inl (0, 10, ia (fun _ => 0))) :: (a18, .inl (2, 144, ia (fun _ => 0))) :: (a17, .inl (2, 144, ia (fun _ => 0))) :: (a16, .inl (0, 144, ia (fun _ => 0))) :: (a15, .inl (0, 12, ia (fun _ => 0))) :: (a14, .inl (2, 12, ia (fun _ => 0))) :: (a13, .inl (2, 12, ia (fun _ => 0))) :: (a12, .inl (2, 12, ia (fun _ => 0))) :: (a11, .inl (0, 144, ia (fun _ => 0))) :: (a10, .inl (0, 12, ia (fun _ => 0))) :: (a9, .inl (0, 12, ia (fun _ => 0))) :: (a8, .inl (0, 12, ia (fun _ => 0))) :: (a7, .inl (0, 61, ia (fun _ => 0))) :: (a6, .inl (0, 6, ia (fun _ => 0))) :: (a5, .inl (0, 60, ia (fun _ => 0))) :: (a4, .inl (0, 20872, ia (fun _ => 0))) :: (a3, .inl (0, 2609, ia (fun _ => 0))) :: (a2, .inl (0, 2609, ia (fun _ => 0))) :: ps) := Kp.pull [_, _, _, _, _, _, _, _, _, _, _, _, _, _, _, _, _, _, _, _, _, _] K69
  refine gi_iast dX10_init_319 (by decide) ⟨by decide, by decide⟩ (HPut.io K70.hd) ?_
  refine gk_kput (e' := .inl (0, 2609, ia (up (fun _ => 0) 1 5))) K70 (fun ι71 K71 => ?_)
  refine gg_aload_n dX10_init_320 rfl rfl ?_
  refine gf_X10_13 rfl dX10_init_321 (HAt.io (K71.at (k := 1) rfl)) rfl ?_
  refine gi_iconst dX10_init_324 ?_
  refine gi_bipush dX10_init_325 rfl ?_
  refine gi_iast dX10_init_327 (by decide) ⟨by decide, by decide⟩ (HPut.io K71.hd) ?_
  refine gk_kput (e' := .inl (0, 2609, ia (up (up (fun _ => 0) 1 5) 3 6))) K71 (fun ι72 K72 => ?_)
  subst hQF9
  refine gg_vret dX10_init_328 rfl ⟨(Nat.le_of_ble_eq_true rfl), (Nat.le_of_ble_eq_true rfl)⟩ ?_
  have K73 : Kp ι0 ι72 ((q, .inr (12, [.int (iN 0), .ref a1, .ref a2, .ref a3, .ref a4, .int (iN 0), .int (iN 0), .ref a5, .int (iN 0), .int (iN 0), .int (iN (-1)), .int (iN 0), .int (iN 0), .int (iN 0), .ref a6, .ref a7, .int (iN 0), .ref a8, .ref a9, .ref a10, .ref a11, .ref a12, .ref a13, .ref a14, .int (iN 0), .int (iN 0), .ref a15, .int (iN 0), .int (iN 0), .int (iN 0), .int (iN 0), .ref a16, .ref a17, .ref a18, .int (iN 0), .int (iN 0), .int (iN 0), .int (iN 0), .int (iN 0), .int (iN 0), .int (iN 0), .int (iN 0), .int (iN 0), .ref a19, .ref a20, .ref a21, .ref a22])) :: (a1, .inl (0, 2609, ia (up (up (fun _ => 0) 1 5) 3 6))) :: (a22, .inl (0, 121, ia (fun _ => 0))) :: (a21, .inl (0, 12, ia (fun _ => 0))) :: (a20, .inl (0, 12, ia (fun _ => 0))) :: (a19, .inl (0, 10, ia (fun _ => 0))) :: (a18, .inl (2, 144, ia (fun _ => 0))) :: (a17, .inl (2, 144, ia (fun _ => 0))) :: (a16, .inl (0, 144, ia (fun _ => 0))) :: (a15, .inl (0, 12, ia (fun _ => 0))) :: (a14, .inl (2, 12, ia (fun _ => 0))) :: (a13, .inl (2, 12, ia (fun _ => 0))) :: (a12, .inl (2, 12, ia (fun _ => 0))) :: (a11, .inl (0, 144, ia (fun _ => 0))) :: (a10, .inl (0, 12, ia (fun _ => 0))) :: (a9, .inl (0, 12, ia (fun _ => 0))) :: (a8, .inl (0, 12, ia (fun _ => 0))) :: (a7, .inl (0, 61, ia (fun _ => 0))) :: (a6, .inl (0, 6, ia (fun _ => 0))) :: (a5, .inl (0, 60, ia (fun _ => 0))) :: (a4, .inl (0, 20872, ia (fun _ => 0))) :: (a3, .inl (0, 2609, ia (fun _ => 0))) :: (a2, .inl (0, 2609, ia (fun _ => 0))) :: ps) := Kp.pull [_] K72
  exact ⟨tbL [(0, q), (1, a1), (2, a2), (3, a3), (4, a4), (5, a5), (6, a6), (7, a7), (8, a8), (9, a9), (10, a10), (11, a11), (12, a12), (13, a13), (14, a14), (15, a15), (16, a16), (17, a17), (18, a18), (19, a19), (20, a20), (21, a21), (22, a22)], _, rfl, rfl, rfl, K73⟩
