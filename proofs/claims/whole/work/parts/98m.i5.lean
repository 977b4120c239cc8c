/-! objects made: the class -/
def six (b j : Nat) : Nat := if j = 11 then 300 + b else 100 + 11 * b + ([0, 1, 5, 9, 4, 8, 3, 7, 2, 6, 10, 0] : List Nat).getD j 0
def ls9 (L : Nat → Nat) : List (Nat × XE) := (L 30, .inr (11, [.ref (L 40), .ref (L 31), .ref (L 199), .ref (L 50), .ref (L 60), .ref (L 32), .ref (L 33), .ref (L 34), .ref (L 35), .ref (L 36), .ref (L 37), .ref (L 188), .int (iN 0), .int (iN 0)])) :: (L 32, .inl (10, 20, ra (up (up (up (up (up (up (up (up (up (up (up (up (up (up (up (up (up (up (up (up (fun _ => none) 0 (some (L 320))) 1 (some (L 321))) 2 (some (L 322))) 3 (some (L 323))) 4 (some (L 324))) 5 (some (L 325))) 6 (some (L 326))) 7 (some (L 327))) 8 (some (L 328))) 9 (some (L 329))) 10 (some (L 330))) 11 (some (L 331))) 12 (some (L 332))) 13 (some (L 333))) 14 (some (L 334))) 15 (some (L 335))) 16 (some (L 336))) 17 (some (L 337))) 18 (some (L 338))) 19 (some (L 339))))) :: (L 339, mt9 3 6 0) :: (L 338, mt9 3 5 0) :: (L 337, mt9 3 4 0) :: (L 336, mt9 3 3 0) :: (L 335, mt9 3 2 0) :: (L 334, mt9 2 6 0) :: (L 333, mt9 2 5 0) :: (L 332, mt9 2 4 0) :: (L 331, mt9 2 3 0) :: (L 330, mt9 2 2 0) :: (L 329, mt9 1 6 0) :: (L 328, mt9 1 5 0) :: (L 327, mt9 1 4 0) :: (L 326, mt9 1 3 0) :: (L 325, mt9 1 2 0) :: (L 324, mt9 0 6 0) :: (L 323, mt9 0 5 0) :: (L 322, mt9 0 4 0) :: (L 321, mt9 0 3 0) :: (L 320, mt9 0 2 0) :: (L 31, .inl (8, 8, ra (up (up (up (up (up (up (up (up (fun _ => none) 0 (some (L 100))) 1 (some (L 111))) 2 (some (L 122))) 3 (some (L 133))) 4 (some (L 144))) 5 (some (L 155))) 6 (some (L 166))) 7 (some (L 177))))) :: (stC (fun j => L (six 7 j)) ++ (stC (fun j => L (six 6 j)) ++ (stC (fun j => L (six 5 j)) ++ (stC (fun j => L (six 4 j)) ++ (stC (fun j => L (six 3 j)) ++ (stC (fun j => L (six 2 j)) ++ (stC (fun j => L (six 1 j)) ++ (stC (fun j => L (six 0 j)) ++ ([(L 188, .inr (9, [.ref (L 308), .int (iN 6), .ref (L 189), .int (iN 0), .ref (L 198)])), (L 189, .inl (7, 4, ra (up (up (up (up (fun _ => none) 0 (some (L 190))) 1 (some (L 191))) 2 (some (L 192))) 3 (some (L 193))))), (L 193, .inr (2, [.ref (L 197), .int (iN 0)])), (L 197, .inl (5, 10, ra (fun _ => none))), (L 192, .inr (2, [.ref (L 196), .int (iN 0)])), (L 196, .inl (5, 10, ra (fun _ => none))), (L 191, .inr (2, [.ref (L 195), .int (iN 0)])), (L 195, .inl (5, 10, ra (fun _ => none))), (L 190, .inr (2, [.ref (L 194), .int (iN 0)])), (L 194, .inl (5, 10, ra (fun _ => none))), (L 198, .inl (9, 8, ra (fun _ => none))), (L 308, mt9 0 5 0), (L 37, .inl (0, 11, ia (fun _ => 0))), (L 36, .inl (0, 10, ia (fun _ => 0))), (L 35, .inl (0, 10, ia (fun _ => 0))), (L 34, .inl (0, 20, ia (fun _ => 0))), (L 33, .inl (0, 20, ia (fun _ => 0))), (L 60, .inr (8, [.ref (L 50), .ref (L 61), .ref (L 62), .ref (L 63), .ref (L 64), .ref (L 65), .ref (L 350), .int (iN 0), .int (iN 0)])), (L 350, mt9 0 2 0), (L 65, .inl (0, 40, ia (fun _ => 0))), (L 64, .inl (0, 40, ia (fun _ => 0))), (L 63, .inl (0, 40, ia (fun _ => 0))), (L 62, .inl (0, 40, ia (fun _ => 0))), (L 61, .inl (0, 19, ia (fun _ => 0))), (L 50, .inr (7, [.int (iN 0), .int (iN 0), .int (iN 0), .int (iN 0), .int (iN 0), .int (iN 0), .ref (L 51), .ref (L 52)])), (L 52, .inl (0, 72, ia (fun _ => 0))), (L 51, .inl (0, 12, ia (fun _ => 0))), (L 199, .inr (9, [.ref (L 309), .int (iN 6), .ref (L 200), .int (iN 0), .ref (L 209)])), (L 200, .inl (7, 4, ra (up (up (up (up (fun _ => none) 0 (some (L 201))) 1 (some (L 202))) 2 (some (L 203))) 3 (some (L 204))))), (L 204, .inr (2, [.ref (L 208), .int (iN 0)])), (L 208, .inl (5, 10, ra (fun _ => none))), (L 203, .inr (2, [.ref (L 207), .int (iN 0)])), (L 207, .inl (5, 10, ra (fun _ => none))), (L 202, .inr (2, [.ref (L 206), .int (iN 0)])), (L 206, .inl (5, 10, ra (fun _ => none))), (L 201, .inr (2, [.ref (L 205), .int (iN 0)])), (L 205, .inl (5, 10, ra (fun _ => none))), (L 209, .inl (9, 8, ra (fun _ => none))), (L 309, mt9 0 5 0), (L 40, .inr (3, [.ref (L 41), .ref (L 42), .ref (L 43), .int (iN 0), .int (iN 0), .int (iN (-1))])), (L 43, .inl (0, 12, ia (fun _ => 0))), (L 42, .inl (0, 12, ia (fun _ => 0))), (L 41, .inl (1, 60, ia (fun _ => 0)))])))))))))
set_option maxHeartbeats 40000000 in
set_option maxRecDepth 100000 in
theorem c_X9_init {Γ : GT} {hm ι0 ι : Nat → Option XE} {q : Nat} {ps : List (Nat × XE)} (K : Kp ι0 ι ((q, .inr (11, [.null, .null, .null, .null, .null, .null, .null, .null, .null, .null, .null, .null, .int 0, .int 0])) :: ps)) : Ct Γ M_X9_init [.ref q] (hm, ι) (fun r h9 => ∃ (L : Nat → Nat) (ι' : Nat → Option XE), r = none ∧ h9 = (hm, ι') ∧ L 30 = q ∧ Kp ι0 ι' (ls9 L ++ ps)) (fun _ _ => False) := by
  refine Ct.of rfl (by decide +kernel) (Nat.le_of_ble_eq_true rfl) ?_
  generalize hQF9 : QM Γ _ _ _ = QF9
  refine gg_aload_n dX9_init_0 rfl rfl ?_
  refine gc_X9_3 rfl dX9_init_1 ⟨(Nat.le_of_ble_eq_true rfl), (Nat.le_of_ble_eq_true rfl)⟩ ?_
  refine gg_aload_n dX9_init_4 rfl rfl ?_
  refine gn_X9_9 rfl dX9_init_5 (Nat.le_of_ble_eq_true rfl) (Nat.le_of_ble_eq_true rfl) (fun a1 fa1 => ?_)
  refine gk_knew K fa1.1 (fun ι1 K1 => ?_)
  refine gg_dup dX9_init_8 rfl ?_
  refine gc_X9_11 rfl dX9_init_9 ⟨(Nat.le_of_ble_eq_true rfl), (Nat.le_of_ble_eq_true rfl)⟩ ⟨(Nat.le_of_ble_eq_true rfl), (Nat.le_of_ble_eq_true rfl)⟩ (Nat.le_of_ble_eq_true rfl) (c_X1_init (hm := hm) K1) (fun _ _ z => z.elim) (fun r9 h9 hp => ?_)
  obtain ⟨ι2, a2, a3, a4, rfl, rfl, K2⟩ := hp
  change Kp ι0 ι2 ((a1, .inr (3, [.ref a2, .ref a3, .ref a4, .int (iN 0), .int (iN 0), .int (iN (-1))])) :: (a4, .inl (0, 12, ia (fun _ => 0))) :: (a3, .inl (0, 12, ia (fun _ => 0))) :: (a2, .inl (1, 60, ia (fun _ => 0))) :: (q, .inr (11, [.null, .null, .null, .null, .null, .null, .null, .null, .null, .null, .null, .null, .int 0, .int 0])) :: ps) at K2
  have K3 : Kp ι0 ι2 ((q, .inr (11, [.null, .null, .null, .null, .null, .null, .null, .null, .null, .null, .null, .null, .int 0, .int 0])) :: (a1, .inr (3, [.ref a2, .ref a3, .ref a4, .int (iN 0), .int (iN 0), .int (iN (-1))])) :: (a4, .inl (0, 12, ia (fun _ => 0))) :: (a3, .inl (0, 12, ia (fun _ => 0))) :: (a2, .inl (1, 60, ia (fun _ => 0))) :: ps) := Kp.pull [_, _, _, _] K2
  refine gp_X9_12 rfl rfl dX9_init_12 (Nat.le_of_ble_eq_true rfl) rfl rfl (HPut.io K3.hd) ?_
  refine gk_kput (e' := .inr (11, [.ref a1, .null, .null, .null, .null, .null, .null, .null, .null, .null, .null, .null, .int 0, .int 0])) K3 (fun ι4 K4 => ?_)
  refine gg_aload_n dX9_init_15 rfl rfl ?_
  refine gi_bipush dX9_init_16 rfl ?_
  refine gn_aX9_16 (N := 8) rfl dX9_init_18 rfl (by decide) (Nat.le_of_ble_eq_true rfl) (Nat.le_of_ble_eq_true rfl) (fun a5 fa5 => ?_)
  refine gk_knew2 K4 fa5.1 (fun ι5 K5 => ?_)
  refine gp_X9_18 rfl rfl dX9_init_21 (Nat.le_of_ble_eq_true rfl) rfl rfl (HPut.io K5.hd) ?_
  refine gk_kput (e' := .inr (11, [.ref a1, .ref a5, .null, .null, .null, .null, .null, .null, .null, .null, .null, .null, .int 0, .int 0])) K5 (fun ι6 K6 => ?_)
  refine gg_aload_n dX9_init_24 rfl rfl ?_
  refine gn_X9_16 rfl dX9_init_25 (Nat.le_of_ble_eq_true rfl) (Nat.le_of_ble_eq_true rfl) (fun a6 fa6 => ?_)
  refine gk_knew K6 fa6.1 (fun ι7 K7 => ?_)
  refine gg_dup dX9_init_28 rfl ?_
  refine gc_X9_22 rfl dX9_init_29 ⟨(Nat.le_of_ble_eq_true rfl), (Nat.le_of_ble_eq_true rfl)⟩ ⟨(Nat.le_of_ble_eq_true rfl), (Nat.le_of_ble_eq_true rfl)⟩ (Nat.le_of_ble_eq_true rfl) (c_X7_init (hm := hm) K7) (fun _ _ z => z.elim) (fun r9 h9 hp => ?_)
  obtain ⟨ι8, a7, a8, a9, a10, a11, a12, a13, a14, a15, a16, a17, rfl, rfl, K8⟩ := hp
  change Kp ι0 ι8 ((a6, .inr (9, [.ref a7, .int (iN 6), .ref a8, .int (iN 0), .ref a9])) :: (a8, .inl (7, 4, ra (up (up (up (up (fun _ => none) 0 (some a10)) 1 (some a12)) 2 (some a14)) 3 (some a16)))) :: (a16, .inr (2, [.ref a17, .int (iN 0)])) :: (a17, .inl (5, 10, ra (fun _ => none))) :: (a14, .inr (2, [.ref a15, .int (iN 0)])) :: (a15, .inl (5, 10, ra (fun _ => none))) :: (a12, .inr (2, [.ref a13, .int (iN 0)])) :: (a13, .inl (5, 10, ra (fun _ => none))) :: (a10, .inr (2, [.ref a11, .int (iN 0)])) :: (a11, .inl (5, 10, ra (fun _ => none))) :: (a9, .inl (9, 8, ra (fun _ => none))) :: (a7, mt9 0 5 0) :: (q, .inr (11, [.ref a1, .ref a5, .null, .null, .null, .null, .null, .null, .null, .null, .null, .null, .int 0, .int 0])) :: (a5, .inl (8, 8, ra (fun _ => none))) :: (a1, .inr (3, [.ref a2, .ref a3, .ref a4, .int (iN 0), .int (iN 0), .int (iN (-1))])) :: (a4, .inl (0, 12, ia (fun _ => 0))) :: (a3, .inl (0, 12, ia (fun _ => 0))) :: (a2, .inl (1, 60, ia (fun _ => 0))) :: ps) at K8
  have K9 : Kp ι0 ι8 ((q, .inr (11, [.ref a1, .ref a5, .null, .null, .null, .null, .null, .null, .null, .null, .null, .null, .int 0, .int 0])) :: (a6, .inr (9, [.ref a7, .int (iN 6), .ref a8, .int (iN 0), .ref a9])) :: (a8, .inl (7, 4, ra (up (up (up (up (fun _ => none) 0 (some a10)) 1 (some a12)) 2 (some a14)) 3 (some a16)))) :: (a16, .inr (2, [.ref a17, .int (iN 0)])) :: (a17, .inl (5, 10, ra (fun _ => none))) :: (a14, .inr (2, [.ref a15, .int (iN 0)])) :: (a15, .inl (5, 10, ra (fun _ => none))) :: (a12, .inr (2, [.ref a13, .int (iN 0)])) :: (a13, .inl (5, 10, ra (fun _ => none))) :: (a10, .inr (2, [.ref a11, .int (iN 0)])) :: (a11, .inl (5, 10, ra (fun _ => none))) :: (a9, .inl (9, 8, ra (fun _ => none))) :: (a7, mt9 0 5 0) :: (a5, .inl (8, 8, ra (fun _ => none))) :: (a1, .inr (3, [.ref a2, .ref a3, .ref a4, .int (iN 0), .int (iN 0), .int (iN (-1))])) :: (a4, .inl (0, 12, ia (fun _ => 0))) :: (a3, .inl (0, 12, ia (fun _ => 0))) :: (a2, .inl (1, 60, ia (fun _ => 0))) :: ps) := Kp.pull [_, _, _, _, _, _, _, _, _, _, _, _] K8
  refine gp_X9_23 rfl rfl dX9_init_32 (Nat.le_of_ble_eq_true rfl) rfl rfl (HPut.io K9.hd) ?_
  refine gk_kput (e' := .inr (11, [.ref a1, .ref a5, .ref a6, .null, .null, .null, .null, .null, .null, .null, .null, .null, .int 0, .int 0])) K9 (fun ι10 K10 => ?_)
  have K11 : Kp ι0 ι10 ((a5, .inl (8, 8, ra (fun _ => none))) :: (q, .inr (11, [.ref a1, .ref a5, .ref a6, .null, .null, .null, .null, .null, .null, .null, .null, .null, .int 0, .int 0])) :: (a6, .inr (9, [.ref a7, .int (iN 6), .ref a8, .int (iN 0), .ref a9])) :: (a8, .inl (7, 4, ra (up (up (up (up (fun _ => none) 0 (some a10)) 1 (some a12)) 2 (some a14)) 3 (some a16)))) :: (a16, .inr (2, [.ref a17, .int (iN 0)])) :: (a17, .inl (5, 10, ra (fun _ => none))) :: (a14, .inr (2, [.ref a15, .int (iN 0)])) :: (a15, .inl (5, 10, ra (fun _ => none))) :: (a12, .inr (2, [.ref a13, .int (iN 0)])) :: (a13, .inl (5, 10, ra (fun _ => none))) :: (a10, .inr (2, [.ref a11, .int (iN 0)])) :: (a11, .inl (5, 10, ra (fun _ => none))) :: (a9, .inl (9, 8, ra (fun _ => none))) :: (a7, mt9 0 5 0) :: (a1, .inr (3, [.ref a2, .ref a3, .ref a4, .int (iN 0), .int (iN 0), .int (iN (-1))])) :: (a4, .inl (0, 12, ia (fun _ => 0))) :: (a3, .inl (0, 12, ia (fun _ => 0))) :: (a2, .inl (1, 60, ia (fun _ => 0))) :: ps) := Kp.pull [_, _, _, _, _, _, _, _, _, _, _, _, _] K10
  have K12 : Kp ι0 ι10 ((q, .inr (11, [.ref a1, .ref a5, .ref a6, .null, .null, .null, .null, .null, .null, .null, .null, .null, .int 0, .int 0])) :: (a5, .inl (8, 8, ra (fun _ => none))) :: (a6, .inr (9, [.ref a7, .int (iN 6), .ref a8, .int (iN 0), .ref a9])) :: (a8, .inl (7, 4, ra (up (up (up (up (fun _ => none) 0 (some a10)) 1 (some a12)) 2 (some a14)) 3 (some a16)))) :: (a16, .inr (2, [.ref a17, .int (iN 0)])) :: (a17, .inl (5, 10, ra (fun _ => none))) :: (a14, .inr (2, [.ref a15, .int (iN 0)])) :: (a15, .inl (5, 10, ra (fun _ => none))) :: (a12, .inr (2, [.ref a13, .int (iN 0)])) :: (a13, .inl (5, 10, ra (fun _ => none))) :: (a10, .inr (2, [.ref a11, .int (iN 0)])) :: (a11, .inl (5, 10, ra (fun _ => none))) :: (a9, .inl (9, 8, ra (fun _ => none))) :: (a7, mt9 0 5 0) :: (a1, .inr (3, [.ref a2, .ref a3, .ref a4, .int (iN 0), .int (iN 0), .int (iN (-1))])) :: (a4, .inl (0, 12, ia (fun _ => 0))) :: (a3, .inl (0, 12, ia (fun _ => 0))) :: (a2, .inl (1, 60, ia (fun _ => 0))) :: ps) := Kp.pull [_] K11
  obtain ⟨ps1, hps1⟩ : ∃ x, x = (a6, .inr (9, [.ref a7, .int (iN 6), .ref a8, .int (iN 0), .ref a9])) :: (a8, .inl (7, 4, ra (up (up (up (up (fun _ => none) 0 (some a10)) 1 (some a12)) 2 (some a14)) 3 (some a16)))) :: (a16, .inr (2, [.ref a17, .int (iN 0)])) :: (a17, .inl (5, 10, ra (fun _ => none))) :: (a14, .inr (2, [.ref a15, .int (iN 0)])) :: (a15, .inl (5, 10, ra (fun _ => none))) :: (a12, .inr (2, [.ref a13, .int (iN 0)])) :: (a13, .inl (5, 10, ra (fun _ => none))) :: (a10, .inr (2, [.ref a11, .int (iN 0)])) :: (a11, .inl (5, 10, ra (fun _ => none))) :: (a9, .inl (9, 8, ra (fun _ => none))) :: (a7, mt9 0 5 0) :: (a1, .inr (3, [.ref a2, .ref a3, .ref a4, .int (iN 0), .int (iN 0), .int (iN (-1))])) :: (a4, .inl (0, 12, ia (fun _ => 0))) :: (a3, .inl (0, 12, ia (fun _ => 0))) :: (a2, .inl (1, 60, ia (fun _ => 0))) :: ps := ⟨_, rfl⟩
  have K13 : Kp ι0 ι10 ((q, .inr (11, [.ref a1, .ref a5, .ref a6, .null, .null, .null, .null, .null, .null, .null, .null, .null, .int 0, .int 0])) :: (a5, .inl (8, 8, ra (fun _ => none))) :: ps1) := by
    rw [hps1]; exact K12
  refine gg_aload_n dX9_init_35 rfl rfl ?_
  refine gn_X9_27 rfl dX9_init_36 (Nat.le_of_ble_eq_true rfl) (Nat.le_of_ble_eq_true rfl) (fun a18 fa18 => ?_)
  refine gk_knew K13 fa18.1 (fun ι14 K14 => ?_)
  refine gg_dup dX9_init_39 rfl ?_
  refine gc_X9_29 rfl dX9_init_40 ⟨(Nat.le_of_ble_eq_true rfl), (Nat.le_of_ble_eq_true rfl)⟩ ⟨(Nat.le_of_ble_eq_true rfl), (Nat.le_of_ble_eq_true rfl)⟩ (Nat.le_of_ble_eq_true rfl) (c_X5_init (hm := hm) K14) (fun _ _ z => z.elim) (fun r9 h9 hp => ?_)
  obtain ⟨ι15, a19, a20, rfl, rfl, K15⟩ := hp
  change Kp ι0 ι15 ((a18, .inr (7, [.int (iN 0), .int (iN 0), .int (iN 0), .int (iN 0), .int (iN 0), .int (iN 0), .ref a19, .ref a20])) :: (a20, .inl (0, 72, ia (fun _ => 0))) :: (a19, .inl (0, 12, ia (fun _ => 0))) :: (q, .inr (11, [.ref a1, .ref a5, .ref a6, .null, .null, .null, .null, .null, .null, .null, .null, .null, .int 0, .int 0])) :: (a5, .inl (8, 8, ra (fun _ => none))) :: ps1) at K15
  have K16 : Kp ι0 ι15 ((q, .inr (11, [.ref a1, .ref a5, .ref a6, .null, .null, .null, .null, .null, .null, .null, .null, .null, .int 0, .int 0])) :: (a18, .inr (7, [.int (iN 0), .int (iN 0), .int (iN 0), .int (iN 0), .int (iN 0), .int (iN 0), .ref a19, .ref a20])) :: (a20, .inl (0, 72, ia (fun _ => 0))) :: (a19, .inl (0, 12, ia (fun _ => 0))) :: (a5, .inl (8, 8, ra (fun _ => none))) :: ps1) := Kp.pull [_, _, _] K15
  refine gp_X9_30 rfl rfl dX9_init_43 (Nat.le_of_ble_eq_true rfl) rfl rfl (HPut.io K16.hd) ?_
  refine gk_kput (e' := .inr (11, [.ref a1, .ref a5, .ref a6, .ref a18, .null, .null, .null, .null, .null, .null, .null, .null, .int 0, .int 0])) K16 (fun ι17 K17 => ?_)
  refine gg_aload_n dX9_init_46 rfl rfl ?_
  refine gn_X9_34 rfl dX9_init_47 (Nat.le_of_ble_eq_true rfl) (Nat.le_of_ble_eq_true rfl) (fun a21 fa21 => ?_)
  refine gk_knew K17 fa21.1 (fun ι18 K18 => ?_)
  refine gg_dup dX9_init_50 rfl ?_
  refine gg_aload_n dX9_init_51 rfl rfl ?_
  refine gf_X9_30 rfl dX9_init_52 (HAt.io (K18.at (k := 1) rfl)) rfl ?_
  refine gc_X9_36 rfl dX9_init_55 ⟨(Nat.le_of_ble_eq_true rfl), (Nat.le_of_ble_eq_true rfl)⟩ ⟨(Nat.le_of_ble_eq_true rfl), (Nat.le_of_ble_eq_true rfl)⟩ (Nat.le_of_ble_eq_true rfl) (c_X6_init (hm := hm) K18) (fun _ _ z => z.elim) (fun r9 h9 hp => ?_)
  obtain ⟨ι19, a22, a23, a24, a25, a26, a27, rfl, rfl, K19⟩ := hp
  change Kp ι0 ι19 ((a21, .inr (8, [.ref a18, .ref a22, .ref a23, .ref a24, .ref a25, .ref a26, .ref a27, .int (iN 0), .int (iN 0)])) :: (a27, mt9 0 2 0) :: (a26, .inl (0, 40, ia (fun _ => 0))) :: (a25, .inl (0, 40, ia (fun _ => 0))) :: (a24, .inl (0, 40, ia (fun _ => 0))) :: (a23, .inl (0, 40, ia (fun _ => 0))) :: (a22, .inl (0, 19, ia (fun _ => 0))) :: (q, .inr (11, [.ref a1, .ref a5, .ref a6, .ref a18, .null, .null, .null, .null, .null, .null, .null, .null, .int 0, .int 0])) :: (a18, .inr (7, [.int (iN 0), .int (iN 0), .int (iN 0), .int (iN 0), .int (iN 0), .int (iN 0), .ref a19, .ref a20])) :: (a20, .inl (0, 72, ia (fun _ => 0))) :: (a19, .inl (0, 12, ia (fun _ => 0))) :: (a5, .inl (8, 8, ra (fun _ => none))) :: ps1) at K19
  have K20 : Kp ι0 ι19 ((q, .inr (11, [.ref a1, .ref a5, .ref a6, .ref a18, .null, .null, .null, .null, .null, .null, .null, .null, .int 0, .int 0])) :: (a21, .inr (8, [.ref a18, .ref a22, .ref a23, .ref a24, .ref a25, .ref a26, .ref a27, .int (iN 0), .int (iN 0)])) :: (a27, mt9 0 2 0) :: (a26, .inl (0, 40, ia (fun _ => 0))) :: (a25, .inl (0, 40, ia (fun _ => 0))) :: (a24, .inl (0, 40, ia (fun _ => 0))) :: (a23, .inl (0, 40, ia (fun _ => 0))) :: (a22, .inl (0, 19, ia (fun _ => 0))) :: (a18, .inr (7, [.int (iN 0), .int (iN 0), .int (iN 0), .int (iN 0), .int (iN 0), .int (iN 0), .ref a19, .ref a20])) :: (a20, .inl (0, 72, ia (fun _ => 0))) :: (a19, .inl (0, 12, ia (fun _ => 0))) :: (a5, .inl (8, 8, ra (fun _ => none))) :: ps1) := Kp.pull [_, _, _, _, _, _, _] K19
  refine gp_X9_39 rfl rfl dX9_init_58 (Nat.le_of_ble_eq_true rfl) rfl rfl (HPut.io K20.hd) ?_
  refine gk_kput (e' := .inr (11, [.ref a1, .ref a5, .ref a6, .ref a18, .ref a21, .null, .null, .null, .null, .null, .null, .null, .int 0, .int 0])) K20 (fun ι21 K21 => ?_)
  have K22 : Kp ι0 ι21 ((a5, .inl (8, 8, ra (fun _ => none))) :: (q, .inr (11, [.ref a1, .ref a5, .ref a6, .ref a18, .ref a21, .null, .null, .null, .null, .null, .null, .null, .int 0, .int 0])) :: (a21, .inr (8, [.ref a18, .ref a22, .ref a23, .ref a24, .ref a25, .ref a26, .ref a27, .int (iN 0), .int (iN 0)])) :: (a27, mt9 0 2 0) :: (a26, .inl (0, 40, ia (fun _ => 0))) :: (a25, .inl (0, 40, ia (fun _ => 0))) :: (a24, .inl (0, 40, ia (fun _ => 0))) :: (a23, .inl (0, 40, ia (fun _ => 0))) :: (a22, .inl (0, 19, ia (fun _ => 0))) :: (a18, .inr (7, [.int (iN 0), .int (iN 0), .int (iN 0), .int (iN 0), .int (iN 0), .int (iN 0), .ref a19, .ref a20])) :: (a20, .inl (0, 72, ia (fun _ => 0))) :: (a19, .inl (0, 12, ia (fun _ => 0))) :: ps1) := Kp.pull [_, _, _, _, _, _, _, _, _, _, _] K21
  have K23 : Kp ι0 ι21 ((q, .inr (11, [.ref a1, .ref a5, .ref a6, .ref a18, .ref a21, .null, .null, .null, .null, .null, .null, .null, .int 0, .int 0])) :: (a5, .inl (8, 8, ra (fun _ => none))) :: (a21, .inr (8, [.ref a18, .ref a22, .ref a23, .ref a24, .ref a25, .ref a26, .ref a27, .int (iN 0), .int (iN 0)])) :: (a27, mt9 0 2 0) :: (a26, .inl (0, 40, ia (fun _ => 0))) :: (a25, .inl (0, 40, ia (fun _ => 0))) :: (a24, .inl (0, 40, ia (fun _ => 0))) :: (a23, .inl (0, 40, ia (fun _ => 0))) :: (a22, .inl (0, 19, ia (fun _ => 0))) :: (a18, .inr (7, [.int (iN 0), .int (iN 0), .int (iN 0), .int (iN 0), .int (iN 0), .int (iN 0), .ref a19, .ref a20])) :: (a20, .inl (0, 72, ia (fun _ => 0))) :: (a19, .inl (0, 12, ia (fun _ => 0))) :: ps1) := Kp.pull [_] K22
  obtain ⟨ps2, hps2⟩ : ∃ x, x = (a21, .inr (8, [.ref a18, .ref a22, .ref a23, .ref a24, .ref a25, .ref a26, .ref a27, .int (iN 0), .int (iN 0)])) :: (a27, mt9 0 2 0) :: (a26, .inl (0, 40, ia (fun _ => 0))) :: (a25, .inl (0, 40, ia (fun _ => 0))) :: (a24, .inl (0, 40, ia (fun _ => 0))) :: (a23, .inl (0, 40, ia (fun _ => 0))) :: (a22, .inl (0, 19, ia (fun _ => 0))) :: (a18, .inr (7, [.int (iN 0), .int (iN 0), .int (iN 0), .int (iN 0), .int (iN 0), .int (iN 0), .ref a19, .ref a20])) :: (a20, .inl (0, 72, ia (fun _ => 0))) :: (a19, .inl (0, 12, ia (fun _ => 0))) :: ps1 := ⟨_, rfl⟩
  have K24 : Kp ι0 ι21 ((q, .inr (11, [.ref a1, .ref a5, .ref a6, .ref a18, .ref a21, .null, .null, .null, .null, .null, .null, .null, .int 0, .int 0])) :: (a5, .inl (8, 8, ra (fun _ => none))) :: ps2) := by
    rw [hps2]; exact K23
  refine gg_aload_n dX9_init_61 rfl rfl ?_
  refine gi_bipush dX9_init_62 rfl ?_
  refine gn_aX9_43 (N := 20) rfl dX9_init_64 rfl (by decide) (Nat.le_of_ble_eq_true rfl) (Nat.le_of_ble_eq_true rfl) (fun a28 fa28 => ?_)
  refine gk_knew2 K24 fa28.1 (fun ι25 K25 => ?_)
  refine gp_X9_45 rfl rfl dX9_init_67 (Nat.le_of_ble_eq_true rfl) rfl rfl (HPut.io K25.hd) ?_
  refine gk_kput (e' := .inr (11, [.ref a1, .ref a5, .ref a6, .ref a18, .ref a21, .ref a28, .null, .null, .null, .null, .null, .null, .int 0, .int 0])) K25 (fun ι26 K26 => ?_)
  refine gg_aload_n dX9_init_70 rfl rfl ?_
  refine gi_bipush dX9_init_71 rfl ?_
  refine gg_newa (n := iN 20) (t := 0) (N := 20) (a0 := (20, ia (fun _ => 0))) dX9_init_73 (by decide) rfl (wi_1 _ (List.mem_of_getElem? (i := 9) rfl)) (fun _ => rfl) (by decide) (by decide) (by decide) (Nat.le_of_ble_eq_true rfl) (Nat.le_of_ble_eq_true rfl) (fun a29 fa29 => ?_)
  refine gk_knew2 K26 fa29.1 (fun ι27 K27 => ?_)
  refine gp_X9_49 rfl rfl dX9_init_75 (Nat.le_of_ble_eq_true rfl) rfl rfl (HPut.io K27.hd) ?_
  refine gk_kput (e' := .inr (11, [.ref a1, .ref a5, .ref a6, .ref a18, .ref a21, .ref a28, .ref a29, .null, .null, .null, .null, .null, .int 0, .int 0])) K27 (fun ι28 K28 => ?_)
  refine gg_aload_n dX9_init_78 rfl rfl ?_
  refine gi_bipush dX9_init_79 rfl ?_
  refine gg_newa (n := iN 20) (t := 0) (N := 20) (a0 := (20, ia (fun _ => 0))) dX9_init_81 (by decide) rfl (wi_1 _ (List.mem_of_getElem? (i := 9) rfl)) (fun _ => rfl) (by decide) (by decide) (by decide) (Nat.le_of_ble_eq_true rfl) (Nat.le_of_ble_eq_true rfl) (fun a30 fa30 => ?_)
  refine gk_knew2 K28 fa30.1 (fun ι29 K29 => ?_)
  refine gp_X9_53 rfl rfl dX9_init_83 (Nat.le_of_ble_eq_true rfl) rfl rfl (HPut.io K29.hd) ?_
  refine gk_kput (e' := .inr (11, [.ref a1, .ref a5, .ref a6, .ref a18, .ref a21, .ref a28, .ref a29, .ref a30, .null, .null, .null, .null, .int 0, .int 0])) K29 (fun ι30 K30 => ?_)
  refine gg_aload_n dX9_init_86 rfl rfl ?_
  refine gi_bipush dX9_init_87 rfl ?_
  refine gg_newa (n := iN 10) (t := 0) (N := 10) (a0 := (10, ia (fun _ => 0))) dX9_init_89 (by decide) rfl (wi_1 _ (List.mem_of_getElem? (i := 9) rfl)) (fun _ => rfl) (by decide) (by decide) (by decide) (Nat.le_of_ble_eq_true rfl) (Nat.le_of_ble_eq_true rfl) (fun a31 fa31 => ?_)
  refine gk_knew2 K30 fa31.1 (fun ι31 K31 => ?_)
  refine gp_X9_56 rfl rfl dX9_init_91 (Nat.le_of_ble_eq_true rfl) rfl rfl (HPut.io K31.hd) ?_
  refine gk_kput (e' := .inr (11, [.ref a1, .ref a5, .ref a6, .ref a18, .ref a21, .ref a28, .ref a29, .ref a30, .ref a31, .null, .null, .null, .int 0, .int 0])) K31 (fun ι32 K32 => ?_)
  refine gg_aload_n dX9_init_94 rfl rfl ?_
  refine gi_bipush dX9_init_95 rfl ?_
  refine gg_newa (n := iN 10) (t := 0) (N := 10) (a0 := (10, ia (fun _ => 0))) dX9_init_97 (by decide) rfl (wi_1 _ (List.mem_of_getElem? (i := 9) rfl)) (fun _ => rfl) (by decide) (by decide) (by decide) (Nat.le_of_ble_eq_true rfl) (Nat.le_of_ble_eq_true rfl) (fun a32 fa32 => ?_)
  refine gk_knew2 K32 fa32.1 (fun ι33 K33 => ?_)
  refine gp_X9_59 rfl rfl dX9_init_99 (Nat.le_of_ble_eq_true rfl) rfl rfl (HPut.io K33.hd) ?_
  refine gk_kput (e' := .inr (11, [.ref a1, .ref a5, .ref a6, .ref a18, .ref a21, .ref a28, .ref a29, .ref a30, .ref a31, .ref a32, .null, .null, .int 0, .int 0])) K33 (fun ι34 K34 => ?_)
  refine gg_aload_n dX9_init_102 rfl rfl ?_
  refine gi_bipush dX9_init_103 rfl ?_
  refine gg_newa (n := iN 11) (t := 0) (N := 11) (a0 := (11, ia (fun _ => 0))) dX9_init_105 (by decide) rfl (wi_1 _ (List.mem_of_getElem? (i := 9) rfl)) (fun _ => rfl) (by decide) (by decide) (by decide) (Nat.le_of_ble_eq_true rfl) (Nat.le_of_ble_eq_true rfl) (fun a33 fa33 => ?_)
  refine gk_knew2 K34 fa33.1 (fun ι35 K35 => ?_)
  refine gp_X9_62 rfl rfl dX9_init_107 (Nat.le_of_ble_eq_true rfl) rfl rfl (HPut.io K35.hd) ?_
  refine gk_kput (e' := .inr (11, [.ref a1, .ref a5, .ref a6, .ref a18, .ref a21, .ref a28, .ref a29, .ref a30, .ref a31, .ref a32, .ref a33, .null, .int 0, .int 0])) K35 (fun ι36 K36 => ?_)
  refine gg_aload_n dX9_init_110 rfl rfl ?_
  refine gn_X9_16 rfl dX9_init_111 (Nat.le_of_ble_eq_true rfl) (Nat.le_of_ble_eq_true rfl) (fun a34 fa34 => ?_)
  refine gk_knew K36 fa34.1 (fun ι37 K37 => ?_)
  refine gg_dup dX9_init_114 rfl ?_
  refine gc_X9_22 rfl dX9_init_115 ⟨(Nat.le_of_ble_eq_true rfl), (Nat.le_of_ble_eq_true rfl)⟩ ⟨(Nat.le_of_ble_eq_true rfl), (Nat.le_of_ble_eq_true rfl)⟩ (Nat.le_of_ble_eq_true rfl) (c_X7_init (hm := hm) K37) (fun _ _ z => z.elim) (fun r9 h9 hp => ?_)
  obtain ⟨ι38, a35, a36, a37, a38, a39, a40, a41, a42, a43, a44, a45, rfl, rfl, K38⟩ := hp
  change Kp ι0 ι38 ((a34, .inr (9, [.ref a35, .int (iN 6), .ref a36, .int (iN 0), .ref a37])) :: (a36, .inl (7, 4, ra (up (up (up (up (fun _ => none) 0 (some a38)) 1 (some a40)) 2 (some a42)) 3 (some a44)))) :: (a44, .inr (2, [.ref a45, .int (iN 0)])) :: (a45, .inl (5, 10, ra (fun _ => none))) :: (a42, .inr (2, [.ref a43, .int (iN 0)])) :: (a43, .inl (5, 10, ra (fun _ => none))) :: (a40, .inr (2, [.ref a41, .int (iN 0)])) :: (a41, .inl (5, 10, ra (fun _ => none))) :: (a38, .inr (2, [.ref a39, .int (iN 0)])) :: (a39, .inl (5, 10, ra (fun _ => none))) :: (a37, .inl (9, 8, ra (fun _ => none))) :: (a35, mt9 0 5 0) :: (q, .inr (11, [.ref a1, .ref a5, .ref a6, .ref a18, .ref a21, .ref a28, .ref a29, .ref a30, .ref a31, .ref a32, .ref a33, .null, .int 0, .int 0])) :: (a33, .inl (0, 11, ia (fun _ => 0))) :: (a32, .inl (0, 10, ia (fun _ => 0))) :: (a31, .inl (0, 10, ia (fun _ => 0))) :: (a30, .inl (0, 20, ia (fun _ => 0))) :: (a29, .inl (0, 20, ia (fun _ => 0))) :: (a28, .inl (10, 20, ra (fun _ => none))) :: (a5, .inl (8, 8, ra (fun _ => none))) :: ps2) at K38
  have K39 : Kp ι0 ι38 ((q, .inr (11, [.ref a1, .ref a5, .ref a6, .ref a18, .ref a21, .ref a28, .ref a29, .ref a30, .ref a31, .ref a32, .ref a33, .null, .int 0, .int 0])) :: (a34, .inr (9, [.ref a35, .int (iN 6), .ref a36, .int (iN 0), .ref a37])) :: (a36, .inl (7, 4, ra (up (up (up (up (fun _ => none) 0 (some a38)) 1 (some a40)) 2 (some a42)) 3 (some a44)))) :: (a44, .inr (2, [.ref a45, .int (iN 0)])) :: (a45, .inl (5, 10, ra (fun _ => none))) :: (a42, .inr (2, [.ref a43, .int (iN 0)])) :: (a43, .inl (5, 10, ra (fun _ => none))) :: (a40, .inr (2, [.ref a41, .int (iN 0)])) :: (a41, .inl (5, 10, ra (fun _ => none))) :: (a38, .inr (2, [.ref a39, .int (iN 0)])) :: (a39, .inl (5, 10, ra (fun _ => none))) :: (a37, .inl (9, 8, ra (fun _ => none))) :: (a35, mt9 0 5 0) :: (a33, .inl (0, 11, ia (fun _ => 0))) :: (a32, .inl (0, 10, ia (fun _ => 0))) :: (a31, .inl (0, 10, ia (fun _ => 0))) :: (a30, .inl (0, 20, ia (fun _ => 0))) :: (a29, .inl (0, 20, ia (fun _ => 0))) :: (a28, .inl (10, 20, ra (fun _ => none))) :: (a5, .inl (8, 8, ra (fun _ => none))) :: ps2) := Kp.pull [_, _, _, _, _, _, _, _, _, _, _, _] K38
  refine gp_X9_65 rfl dX9_init_118 (Nat.le_of_ble_eq_true rfl) rfl rfl (HPut.io K39.hd) ?_
  refine gk_kput (e' := .inr (11, [.ref a1, .ref a5, .ref a6, .ref a18, .ref a21, .ref a28, .ref a29, .ref a30, .ref a31, .ref a32, .ref a33, .ref a34, .int 0, .int 0])) K39 (fun ι40 K40 => ?_)
  have K41 : Kp ι0 ι40 ((a5, .inl (8, 8, ra (fun _ => none))) :: (q, .inr (11, [.ref a1, .ref a5, .ref a6, .ref a18, .ref a21, .ref a28, .ref a29, .ref a30, .ref a31, .ref a32, .ref a33, .ref a34, .int 0, .int 0])) :: (a34, .inr (9, [.ref a35, .int (iN 6), .ref a36, .int (iN 0), .ref a37])) :: (a36, .inl (7, 4, ra (up (up (up (up (fun _ => none) 0 (some a38)) 1 (some a40)) 2 (some a42)) 3 (some a44)))) :: (a44, .inr (2, [.ref a45, .int (iN 0)])) :: (a45, .inl (5, 10, ra (fun _ => none))) :: (a42, .inr (2, [.ref a43, .int (iN 0)])) :: (a43, .inl (5, 10, ra (fun _ => none))) :: (a40, .inr (2, [.ref a41, .int (iN 0)])) :: (a41, .inl (5, 10, ra (fun _ => none))) :: (a38, .inr (2, [.ref a39, .int (iN 0)])) :: (a39, .inl (5, 10, ra (fun _ => none))) :: (a37, .inl (9, 8, ra (fun _ => none))) :: (a35, mt9 0 5 0) :: (a33, .inl (0, 11, ia (fun _ => 0))) :: (a32, .inl (0, 10, ia (fun _ => 0))) :: (a31, .inl (0, 10, ia (fun _ => 0))) :: (a30, .inl (0, 20, ia (fun _ => 0))) :: (a29, .inl (0, 20, ia (fun _ => 0))) :: (a28, .inl (10, 20, ra (fun _ => none))) :: ps2) := Kp.pull [_, _, _, _, _, _, _, _, _, _, _, _, _, _, _, _, _, _, _] K40
  have K42 : Kp ι0 ι40 ((a28, .inl (10, 20, ra (fun _ => none))) :: (a5, .inl (8, 8, ra (fun _ => none))) :: (q, .inr (11, [.ref a1, .ref a5, .ref a6, .ref a18, .ref a21, .ref a28, .ref a29, .ref a30, .ref a31, .ref a32, .ref a33, .ref a34, .int 0, .int 0])) :: (a34, .inr (9, [.ref a35, .int (iN 6), .ref a36, .int (iN 0), .ref a37])) :: (a36, .inl (7, 4, ra (up (up (up (up (fun _ => none) 0 (some a38)) 1 (some a40)) 2 (some a42)) 3 (some a44)))) :: (a44, .inr (2, [.ref a45, .int (iN 0)])) :: (a45, .inl (5, 10, ra (fun _ => none))) :: (a42, .inr (2, [.ref a43, .int (iN 0)])) :: (a43, .inl (5, 10, ra (fun _ => none))) :: (a40, .inr (2, [.ref a41, .int (iN 0)])) :: (a41, .inl (5, 10, ra (fun _ => none))) :: (a38, .inr (2, [.ref a39, .int (iN 0)])) :: (a39, .inl (5, 10, ra (fun _ => none))) :: (a37, .inl (9, 8, ra (fun _ => none))) :: (a35, mt9 0 5 0) :: (a33, .inl (0, 11, ia (fun _ => 0))) :: (a32, .inl (0, 10, ia (fun _ => 0))) :: (a31, .inl (0, 10, ia (fun _ => 0))) :: (a30, .inl (0, 20, ia (fun _ => 0))) :: (a29, .inl (0, 20, ia (fun _ => 0))) :: ps2) := Kp.pull [_, _, _, _, _, _, _, _, _, _, _, _, _, _, _, _, _, _, _] K41
  have K43 : Kp ι0 ι40 ((q, .inr (11, [.ref a1, .ref a5, .ref a6, .ref a18, .ref a21, .ref a28, .ref a29, .ref a30, .ref a31, .ref a32, .ref a33, .ref a34, .int 0, .int 0])) :: (a28, .inl (10, 20, ra (fun _ => none))) :: (a5, .inl (8, 8, ra (fun _ => none))) :: (a34, .inr (9, [.ref a35, .int (iN 6), .ref a36, .int (iN 0), .ref a37])) :: (a36, .inl (7, 4, ra (up (up (up (up (fun _ => none) 0 (some a38)) 1 (some a40)) 2 (some a42)) 3 (some a44)))) :: (a44, .inr (2, [.ref a45, .int (iN 0)])) :: (a45, .inl (5, 10, ra (fun _ => none))) :: (a42, .inr (2, [.ref a43, .int (iN 0)])) :: (a43, .inl (5, 10, ra (fun _ => none))) :: (a40, .inr (2, [.ref a41, .int (iN 0)])) :: (a41, .inl (5, 10, ra (fun _ => none))) :: (a38, .inr (2, [.ref a39, .int (iN 0)])) :: (a39, .inl (5, 10, ra (fun _ => none))) :: (a37, .inl (9, 8, ra (fun _ => none))) :: (a35, mt9 0 5 0) :: (a33, .inl (0, 11, ia (fun _ => 0))) :: (a32, .inl (0, 10, ia (fun _ => 0))) :: (a31, .inl (0, 10, ia (fun _ => 0))) :: (a30, .inl (0, 20, ia (fun _ => 0))) :: (a29, .inl (0, 20, ia (fun _ => 0))) :: ps2) := Kp.pull [_, _] K42
  obtain ⟨ps3, hps3⟩ : ∃ x, x = (a34, .inr (9, [.ref a35, .int (iN 6), .ref a36, .int (iN 0), .ref a37])) :: (a36, .inl (7, 4, ra (up (up (up (up (fun _ => none) 0 (some a38)) 1 (some a40)) 2 (some a42)) 3 (some a44)))) :: (a44, .inr (2, [.ref a45, .int (iN 0)])) :: (a45, .inl (5, 10, ra (fun _ => none))) :: (a42, .inr (2, [.ref a43, .int (iN 0)])) :: (a43, .inl (5, 10, ra (fun _ => none))) :: (a40, .inr (2, [.ref a41, .int (iN 0)])) :: (a41, .inl (5, 10, ra (fun _ => none))) :: (a38, .inr (2, [.ref a39, .int (iN 0)])) :: (a39, .inl (5, 10, ra (fun _ => none))) :: (a37, .inl (9, 8, ra (fun _ => none))) :: (a35, mt9 0 5 0) :: (a33, .inl (0, 11, ia (fun _ => 0))) :: (a32, .inl (0, 10, ia (fun _ => 0))) :: (a31, .inl (0, 10, ia (fun _ => 0))) :: (a30, .inl (0, 20, ia (fun _ => 0))) :: (a29, .inl (0, 20, ia (fun _ => 0))) :: ps2 := ⟨_, rfl⟩
  have K44 : Kp ι0 ι40 ((q, .inr (11, [.ref a1, .ref a5, .ref a6, .ref a18, .ref a21, .ref a28, .ref a29, .ref a30, .ref a31, .ref a32, .ref a33, .ref a34, .int 0, .int 0])) :: (a28, .inl (10, 20, ra (fun _ => none))) :: (a5, .inl (8, 8, ra (fun _ => none))) :: ps3) := by
    rw [hps3]; exact K43
  refine gg_aload_n dX9_init_121 rfl rfl ?_
  refine gi_iconst dX9_init_122 ?_
  refine gp_X9_68 rfl dX9_init_123 (Nat.le_of_ble_eq_true rfl) rfl rfl (HPut.io K44.hd) ?_
  refine gk_kput (e' := .inr (11, [.ref a1, .ref a5, .ref a6, .ref a18, .ref a21, .ref a28, .ref a29, .ref a30, .ref a31, .ref a32, .ref a33, .ref a34, .int (iN 0), .int 0])) K44 (fun ι45 K45 => ?_)
  refine gg_aload_n dX9_init_126 rfl rfl ?_
  refine gi_iconst dX9_init_127 ?_
  refine gp_X9_72 rfl dX9_init_128 (Nat.le_of_ble_eq_true rfl) rfl rfl (HPut.io K45.hd) ?_
  refine gk_kput (e' := .inr (11, [.ref a1, .ref a5, .ref a6, .ref a18, .ref a21, .ref a28, .ref a29, .ref a30, .ref a31, .ref a32, .ref a33, .ref a34, .int (iN 0), .int (iN 0)])) K45 (fun ι46 K46 => ?_)
  refine gi_iconst dX9_init_131 ?_
  refine gg_istore_n dX9_init_132 (by decide) rfl ?_
  have K47 : Kp ι0 ι46 ((a28, .inl (10, 20, ra (fun _ => none))) :: (q, .inr (11, [.ref a1, .ref a5, .ref a6, .ref a18, .ref a21, .ref a28, .ref a29, .ref a30, .ref a31, .ref a32, .ref a33, .ref a34, .int (iN 0), .int (iN 0)])) :: (a5, .inl (8, 8, ra (fun _ => none))) :: ps3) := Kp.pull [_] K46
  have K48 : Kp ι0 ι46 ((a5, .inl (8, 8, ra (fun _ => none))) :: (a28, .inl (10, 20, ra (fun _ => none))) :: (q, .inr (11, [.ref a1, .ref a5, .ref a6, .ref a18, .ref a21, .ref a28, .ref a29, .ref a30, .ref a31, .ref a32, .ref a33, .ref a34, .int (iN 0), .int (iN 0)])) :: ps3) := Kp.pull [_, _] K47
  have K49 : Kp ι0 ι46 ((q, .inr (11, [.ref a1, .ref a5, .ref a6, .ref a18, .ref a21, .ref a28, .ref a29, .ref a30, .ref a31, .ref a32, .ref a33, .ref a34, .int (iN 0), .int (iN 0)])) :: (a5, .inl (8, 8, ra (fun _ => none))) :: (a28, .inl (10, 20, ra (fun _ => none))) :: ps3) := Kp.pull [_, _] K48
  refine hist_step (i := 0) K49 (by decide) rfl ⟨(Nat.le_of_ble_eq_true rfl), (Nat.le_of_ble_eq_true rfl)⟩ (fun ιh0 s0 H0 => ?_)
  refine hist_step (i := 1) H0 (by decide) rfl ⟨(Nat.le_of_ble_eq_true rfl), (Nat.le_of_ble_eq_true rfl)⟩ (fun ιh1 s1 H1 => ?_)
  refine hist_step (i := 2) H1 (by decide) rfl ⟨(Nat.le_of_ble_eq_true rfl), (Nat.le_of_ble_eq_true rfl)⟩ (fun ιh2 s2 H2 => ?_)
  refine hist_step (i := 3) H2 (by decide) rfl ⟨(Nat.le_of_ble_eq_true rfl), (Nat.le_of_ble_eq_true rfl)⟩ (fun ιh3 s3 H3 => ?_)
  refine hist_step (i := 4) H3 (by decide) rfl ⟨(Nat.le_of_ble_eq_true rfl), (Nat.le_of_ble_eq_true rfl)⟩ (fun ιh4 s4 H4 => ?_)
  refine hist_step (i := 5) H4 (by decide) rfl ⟨(Nat.le_of_ble_eq_true rfl), (Nat.le_of_ble_eq_true rfl)⟩ (fun ιh5 s5 H5 => ?_)
  refine hist_step (i := 6) H5 (by decide) rfl ⟨(Nat.le_of_ble_eq_true rfl), (Nat.le_of_ble_eq_true rfl)⟩ (fun ιh6 s6 H6 => ?_)
  refine hist_step (i := 7) H6 (by decide) rfl ⟨(Nat.le_of_ble_eq_true rfl), (Nat.le_of_ble_eq_true rfl)⟩ (fun ιh7 s7 H7 => ?_)
  refine gg_iload_n dX9_init_133 rfl ?_
  refine gg_aload_n dX9_init_134 rfl rfl ?_
  refine gf_X9_18 rfl dX9_init_135 (HAt.io H7.hd) rfl ?_
  refine gi_alen dX9_init_138 (HAt.io (H7.at (k := 1) rfl)) (by decide) ?_
  refine gi_icmp_ge dX9_init_139 (tgt := 161) (by decide) ⟨by decide, by decide⟩ ⟨by decide, by decide⟩ (fun _ => ?_) (fun z => absurd z (by decide))
  refine gi_iconst dX9_init_161 ?_
  refine gg_istore_n dX9_init_162 (by decide) rfl ?_
  refine gi_iconst dX9_init_163 ?_
  refine gg_istore_n dX9_init_164 (by decide) rfl ?_
  have Q0 := Kp.pull [_, _] H7
  have Q1 := Kp.pull [_] Q0
  refine gg_iload_n dX9_init_165 rfl ?_
  refine gi_iconst dX9_init_166 ?_
  refine gi_icmp_ge dX9_init_167 (tgt := 218) (by decide) ⟨by decide, by decide⟩ ⟨by decide, by decide⟩ (fun z => absurd z (by decide)) (fun _ => ?_)
  refine gi_iconst dX9_init_170 ?_
  refine gg_istore_n dX9_init_171 (by decide) rfl ?_
  refine cand_step (hh := 0) (C := .inl (0, 0, ia (fun _ => 0))) (j := 0) (k := 0) (ft := 2) Q1 (by decide) (by decide) (by decide) rfl ⟨(Nat.le_of_ble_eq_true rfl), (Nat.le_of_ble_eq_true rfl)⟩ (fun ιc0 c0 C0 => ?_)
  refine cand_step (hh := 0) (C := .inl (0, 0, ia (fun _ => 0))) (j := 1) (k := 0) (ft := 3) C0 (by decide) (by decide) (by decide) rfl ⟨(Nat.le_of_ble_eq_true rfl), (Nat.le_of_ble_eq_true rfl)⟩ (fun ιc1 c1 C1 => ?_)
  refine cand_step (hh := 0) (C := .inl (0, 0, ia (fun _ => 0))) (j := 2) (k := 0) (ft := 4) C1 (by decide) (by decide) (by decide) rfl ⟨(Nat.le_of_ble_eq_true rfl), (Nat.le_of_ble_eq_true rfl)⟩ (fun ιc2 c2 C2 => ?_)
  refine cand_step (hh := 0) (C := .inl (0, 0, ia (fun _ => 0))) (j := 3) (k := 0) (ft := 5) C2 (by decide) (by decide) (by decide) rfl ⟨(Nat.le_of_ble_eq_true rfl), (Nat.le_of_ble_eq_true rfl)⟩ (fun ιc3 c3 C3 => ?_)
  refine cand_step (hh := 0) (C := .inl (0, 0, ia (fun _ => 0))) (j := 4) (k := 0) (ft := 6) C3 (by decide) (by decide) (by decide) rfl ⟨(Nat.le_of_ble_eq_true rfl), (Nat.le_of_ble_eq_true rfl)⟩ (fun ιc4 c4 C4 => ?_)
  refine gg_iload_n dX9_init_172 rfl ?_
  refine gi_bipush dX9_init_173 rfl ?_
  refine gi_icmp_gt dX9_init_175 (tgt := 212) (by decide) ⟨by decide, by decide⟩ ⟨by decide, by decide⟩ (fun _ => ?_) (fun z => absurd z (by decide))
  refine gi_iinc dX9_init_212 rfl (by decide) rfl ?_
  refine gg_goto dX9_init_215 (tgt := 165) (by decide) ?_
  refine gg_iload_n dX9_init_165 rfl ?_
  refine gi_iconst dX9_init_166 ?_
  refine gi_icmp_ge dX9_init_167 (tgt := 218) (by decide) ⟨by decide, by decide⟩ ⟨by decide, by decide⟩ (fun z => absurd z (by decide)) (fun _ => ?_)
  refine gi_iconst dX9_init_170 ?_
  refine gg_istore_n dX9_init_171 (by decide) rfl ?_
  refine cand_step (hh := 0) (C := .inl (0, 0, ia (fun _ => 0))) (j := 5) (k := 1) (ft := 2) C4 (by decide) (by decide) (by decide) rfl ⟨(Nat.le_of_ble_eq_true rfl), (Nat.le_of_ble_eq_true rfl)⟩ (fun ιc5 c5 C5 => ?_)
  refine cand_step (hh := 0) (C := .inl (0, 0, ia (fun _ => 0))) (j := 6) (k := 1) (ft := 3) C5 (by decide) (by decide) (by decide) rfl ⟨(Nat.le_of_ble_eq_true rfl), (Nat.le_of_ble_eq_true rfl)⟩ (fun ιc6 c6 C6 => ?_)
  refine cand_step (hh := 0) (C := .inl (0, 0, ia (fun _ => 0))) (j := 7) (k := 1) (ft := 4) C6 (by decide) (by decide) (by decide) rfl ⟨(Nat.le_of_ble_eq_true rfl), (Nat.le_of_ble_eq_true rfl)⟩ (fun ιc7 c7 C7 => ?_)
  refine cand_step (hh := 0) (C := .inl (0, 0, ia (fun _ => 0))) (j := 8) (k := 1) (ft := 5) C7 (by decide) (by decide) (by decide) rfl ⟨(Nat.le_of_ble_eq_true rfl), (Nat.le_of_ble_eq_true rfl)⟩ (fun ιc8 c8 C8 => ?_)
  refine cand_step (hh := 0) (C := .inl (0, 0, ia (fun _ => 0))) (j := 9) (k := 1) (ft := 6) C8 (by decide) (by decide) (by decide) rfl ⟨(Nat.le_of_ble_eq_true rfl), (Nat.le_of_ble_eq_true rfl)⟩ (fun ιc9 c9 C9 => ?_)
  refine gg_iload_n dX9_init_172 rfl ?_
  refine gi_bipush dX9_init_173 rfl ?_
  refine gi_icmp_gt dX9_init_175 (tgt := 212) (by decide) ⟨by decide, by decide⟩ ⟨by decide, by decide⟩ (fun _ => ?_) (fun z => absurd z (by decide))
  refine gi_iinc dX9_init_212 rfl (by decide) rfl ?_
  refine gg_goto dX9_init_215 (tgt := 165) (by decide) ?_
  refine gg_iload_n dX9_init_165 rfl ?_
  refine gi_iconst dX9_init_166 ?_
  refine gi_icmp_ge dX9_init_167 (tgt := 218) (by decide) ⟨by decide, by decide⟩ ⟨by decide, by decide⟩ (fun z => absurd z (by decide)) (fun _ => ?_)
  refine gi_iconst dX9_init_170 ?_
  refine gg_istore_n dX9_init_171 (by decide) rfl ?_
  refine cand_step (hh := 0) (C := .inl (0, 0, ia (fun _ => 0))) (j := 10) (k := 2) (ft := 2) C9 (by decide) (by decide) (by decide) rfl ⟨(Nat.le_of_ble_eq_true rfl), (Nat.le_of_ble_eq_true rfl)⟩ (fun ιc10 c10 C10 => ?_)
  refine cand_step (hh := 0) (C := .inl (0, 0, ia (fun _ => 0))) (j := 11) (k := 2) (ft := 3) C10 (by decide) (by decide) (by decide) rfl ⟨(Nat.le_of_ble_eq_true rfl), (Nat.le_of_ble_eq_true rfl)⟩ (fun ιc11 c11 C11 => ?_)
  refine cand_step (hh := 0) (C := .inl (0, 0, ia (fun _ => 0))) (j := 12) (k := 2) (ft := 4) C11 (by decide) (by decide) (by decide) rfl ⟨(Nat.le_of_ble_eq_true rfl), (Nat.le_of_ble_eq_true rfl)⟩ (fun ιc12 c12 C12 => ?_)
  refine cand_step (hh := 0) (C := .inl (0, 0, ia (fun _ => 0))) (j := 13) (k := 2) (ft := 5) C12 (by decide) (by decide) (by decide) rfl ⟨(Nat.le_of_ble_eq_true rfl), (Nat.le_of_ble_eq_true rfl)⟩ (fun ιc13 c13 C13 => ?_)
  refine cand_step (hh := 0) (C := .inl (0, 0, ia (fun _ => 0))) (j := 14) (k := 2) (ft := 6) C13 (by decide) (by decide) (by decide) rfl ⟨(Nat.le_of_ble_eq_true rfl), (Nat.le_of_ble_eq_true rfl)⟩ (fun ιc14 c14 C14 => ?_)
  refine gg_iload_n dX9_init_172 rfl ?_
  refine gi_bipush dX9_init_173 rfl ?_
  refine gi_icmp_gt dX9_init_175 (tgt := 212) (by decide) ⟨by decide, by decide⟩ ⟨by decide, by decide⟩ (fun _ => ?_) (fun z => absurd z (by decide))
  refine gi_iinc dX9_init_212 rfl (by decide) rfl ?_
  refine gg_goto dX9_init_215 (tgt := 165) (by decide) ?_
  refine gg_iload_n dX9_init_165 rfl ?_
  refine gi_iconst dX9_init_166 ?_
  refine gi_icmp_ge dX9_init_167 (tgt := 218) (by decide) ⟨by decide, by decide⟩ ⟨by decide, by decide⟩ (fun z => absurd z (by decide)) (fun _ => ?_)
  refine gi_iconst dX9_init_170 ?_
  refine gg_istore_n dX9_init_171 (by decide) rfl ?_
  refine cand_step (hh := 0) (C := .inl (0, 0, ia (fun _ => 0))) (j := 15) (k := 3) (ft := 2) C14 (by decide) (by decide) (by decide) rfl ⟨(Nat.le_of_ble_eq_true rfl), (Nat.le_of_ble_eq_true rfl)⟩ (fun ιc15 c15 C15 => ?_)
  refine cand_step (hh := 0) (C := .inl (0, 0, ia (fun _ => 0))) (j := 16) (k := 3) (ft := 3) C15 (by decide) (by decide) (by decide) rfl ⟨(Nat.le_of_ble_eq_true rfl), (Nat.le_of_ble_eq_true rfl)⟩ (fun ιc16 c16 C16 => ?_)
  refine cand_step (hh := 0) (C := .inl (0, 0, ia (fun _ => 0))) (j := 17) (k := 3) (ft := 4) C16 (by decide) (by decide) (by decide) rfl ⟨(Nat.le_of_ble_eq_true rfl), (Nat.le_of_ble_eq_true rfl)⟩ (fun ιc17 c17 C17 => ?_)
  refine cand_step (hh := 0) (C := .inl (0, 0, ia (fun _ => 0))) (j := 18) (k := 3) (ft := 5) C17 (by decide) (by decide) (by decide) rfl ⟨(Nat.le_of_ble_eq_true rfl), (Nat.le_of_ble_eq_true rfl)⟩ (fun ιc18 c18 C18 => ?_)
  refine cand_step (hh := 0) (C := .inl (0, 0, ia (fun _ => 0))) (j := 19) (k := 3) (ft := 6) C18 (by decide) (by decide) (by decide) rfl ⟨(Nat.le_of_ble_eq_true rfl), (Nat.le_of_ble_eq_true rfl)⟩ (fun ιc19 c19 C19 => ?_)
  refine gg_iload_n dX9_init_172 rfl ?_
  refine gi_bipush dX9_init_173 rfl ?_
  refine gi_icmp_gt dX9_init_175 (tgt := 212) (by decide) ⟨by decide, by decide⟩ ⟨by decide, by decide⟩ (fun _ => ?_) (fun z => absurd z (by decide))
  refine gi_iinc dX9_init_212 rfl (by decide) rfl ?_
  refine gg_goto dX9_init_215 (tgt := 165) (by decide) ?_
  refine gg_iload_n dX9_init_165 rfl ?_
  refine gi_iconst dX9_init_166 ?_
  refine gi_icmp_ge dX9_init_167 (tgt := 218) (by decide) ⟨by decide, by decide⟩ ⟨by decide, by decide⟩ (fun _ => ?_) (fun z => absurd z (by decide))
  subst hQF9
  refine gg_vret dX9_init_218 rfl ⟨(Nat.le_of_ble_eq_true rfl), (Nat.le_of_ble_eq_true rfl)⟩ ?_
  rw [hps3] at C19
  rw [hps2] at C19
  rw [hps1] at C19
  refine ⟨tbL [(30, q), (31, a5), (32, a28), (33, a29), (34, a30), (35, a31), (36, a32), (37, a33), (40, a1), (41, a2), (42, a3), (43, a4), (50, a18), (51, a19), (52, a20), (60, a21), (61, a22), (62, a23), (63, a24), (64, a25), (65, a26), (100, s0 0), (101, s0 1), (102, s0 8), (103, s0 6), (104, s0 4), (105, s0 2), (106, s0 9), (107, s0 7), (108, s0 5), (109, s0 3), (110, s0 10), (111, s1 0), (112, s1 1), (113, s1 8), (114, s1 6), (115, s1 4), (116, s1 2), (117, s1 9), (118, s1 7), (119, s1 5), (120, s1 3), (121, s1 10), (122, s2 0), (123, s2 1), (124, s2 8), (125, s2 6), (126, s2 4), (127, s2 2), (128, s2 9), (129, s2 7), (130, s2 5), (131, s2 3), (132, s2 10), (133, s3 0), (134, s3 1), (135, s3 8), (136, s3 6), (137, s3 4), (138, s3 2), (139, s3 9), (140, s3 7), (141, s3 5), (142, s3 3), (143, s3 10), (144, s4 0), (145, s4 1), (146, s4 8), (147, s4 6), (148, s4 4), (149, s4 2), (150, s4 9), (151, s4 7), (152, s4 5), (153, s4 3), (154, s4 10), (155, s5 0), (156, s5 1), (157, s5 8), (158, s5 6), (159, s5 4), (160, s5 2), (161, s5 9), (162, s5 7), (163, s5 5), (164, s5 3), (165, s5 10), (166, s6 0), (167, s6 1), (168, s6 8), (169, s6 6), (170, s6 4), (171, s6 2), (172, s6 9), (173, s6 7), (174, s6 5), (175, s6 3), (176, s6 10), (177, s7 0), (178, s7 1), (179, s7 8), (180, s7 6), (181, s7 4), (182, s7 2), (183, s7 9), (184, s7 7), (185, s7 5), (186, s7 3), (187, s7 10), (188, a34), (189, a36), (190, a38), (191, a40), (192, a42), (193, a44), (194, a39), (195, a41), (196, a43), (197, a45), (198, a37), (199, a6), (200, a8), (201, a10), (202, a12), (203, a14), (204, a16), (205, a11), (206, a13), (207, a15), (208, a17), (209, a9), (300, s0 11), (301, s1 11), (302, s2 11), (303, s3 11), (304, s4 11), (305, s5 11), (306, s6 11), (307, s7 11), (308, a35), (309, a7), (320, c0), (321, c1), (322, c2), (323, c3), (324, c4), (325, c5), (326, c6), (327, c7), (328, c8), (329, c9), (330, c10), (331, c11), (332, c12), (333, c13), (334, c14), (335, c15), (336, c16), (337, c17), (338, c18), (339, c19), (350, a27)], _, rfl, rfl, rfl, ?_⟩
  exact C19
