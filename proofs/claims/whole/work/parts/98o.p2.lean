/-! the law: its beginning -/
set_option maxHeartbeats 4000000 in
set_option maxRecDepth 100000 in
theorem law_begin {nm9 : String} {Γ : GT} {QF : List Frame → Array Value → State → State → Prop} (kk : ∀ (L9 L10 : Nat → Nat) (ι : Nat → Option XE) (a24 a25 : Nat), Kp (fun _ => none) ι ((a25, do9 (fun _ => 0)) :: (a24, lo9 (fun _ => 0)) :: (lay10.map (fun i => (L10 i, mcell (stL Γ L10) F00 A00 i)) ++ (ls9 L9 ++ []))) → GG Γ (M_law nm9) QF (200, 40000) (fun _ => none, ι) 28 [some (.ref (g_b Γ)), some (.ref (L9 30)), some (.ref (L10 0)), some (.ref a24), some (.ref a25), some (.int (iN 0)), none, none] []) : GG Γ (M_law nm9) QF (0, 0) (fun _ => none, fun _ => none) 0 [some (.ref (g_b Γ)), none, none, none, none, none, none, none] [] := by
  have K0 : Kp (fun _ => none) (fun _ => none) [] := ⟨List.nodup_nil, fun x hx => absurd hx List.not_mem_nil, fun q e h => by cases h⟩
  refine gn_L_8 rfl dL_law_0 (Nat.le_of_ble_eq_true rfl) (Nat.le_of_ble_eq_true rfl) (fun q0 f0 => ?_)
  refine gk_knew K0 f0.1 (fun ι1 K1 => ?_)
  refine gg_dup dL_law_3 rfl ?_
  refine gc_L_115 rfl dL_law_4 ⟨(Nat.le_of_ble_eq_true rfl), (Nat.le_of_ble_eq_true rfl)⟩ ⟨(Nat.le_of_ble_eq_true rfl), (Nat.le_of_ble_eq_true rfl)⟩ (Nat.le_of_ble_eq_true rfl) (c_X9_init (hm := fun _ => none) K1) (fun _ _ z => z.elim) (fun r9 h9 hp => ?_)
  obtain ⟨L9, ι2, rfl, rfl, e9, K2⟩ := hp
  subst e9
  refine gg_astore_n dL_law_7 rfl (Nat.le_of_ble_eq_true rfl) rfl ?_
  refine gn_L_116 rfl dL_law_8 (Nat.le_of_ble_eq_true rfl) (Nat.le_of_ble_eq_true rfl) (fun q1 f1 => ?_)
  refine gk_knew K2 f1.1 (fun ι3 K3 => ?_)
  refine gg_dup dL_law_11 rfl ?_
  refine gc_L_118 rfl dL_law_12 ⟨(Nat.le_of_ble_eq_true rfl), (Nat.le_of_ble_eq_true rfl)⟩ ⟨(Nat.le_of_ble_eq_true rfl), (Nat.le_of_ble_eq_true rfl)⟩ (Nat.le_of_ble_eq_true rfl) (c_X10_init (hm := fun _ => none) K3) (fun _ _ z => z.elim) (fun r9 h9 hp => ?_)
  obtain ⟨L10, ι4, rfl, rfl, e10, K4⟩ := hp
  subst e10
  refine gg_astore_n dL_law_15 rfl (Nat.le_of_ble_eq_true rfl) rfl ?_
  refine gi_iconst dL_law_16 ?_
  refine gg_newa (n := iN 1) (t := 3) (N := 1) (a0 := (1, .inr (.inl (fun _ => 0)))) dL_law_17 (by decide) rfl (wi_0 _ (List.mem_of_getElem? (i := 6) rfl)) (fun _ => rfl) (by decide) (by decide) (by decide) (Nat.le_of_ble_eq_true rfl) (Nat.le_of_ble_eq_true rfl) (fun a24 f24 => ?_)
  refine gk_knew (e := lo9 (fun _ => 0)) K4 f24.1 (fun ι5 K5 => ?_)
  refine gg_astore_n dL_law_19 rfl (Nat.le_of_ble_eq_true rfl) rfl ?_
  refine gi_iconst dL_law_20 ?_
  refine gg_newa (n := iN 1) (t := 4) (N := 1) (a0 := (1, .inr (.inr (.inr (.inl (fun _ => 0)))))) dL_law_21 (by decide) rfl (wi_0 _ (List.mem_of_getElem? (i := 7) rfl)) (fun _ => rfl) (by decide) (by decide) (by decide) (Nat.le_of_ble_eq_true rfl) (Nat.le_of_ble_eq_true rfl) (fun a25 f25 => ?_)
  refine gk_knew (e := do9 (fun _ => 0)) K5 f25.1 (fun ι6 K6 => ?_)
  refine gg_astore dL_law_23 rfl (Nat.le_of_ble_eq_true rfl) rfl ?_
  refine gi_iconst dL_law_25 ?_
  refine gg_istore dL_law_26 (Nat.le_of_ble_eq_true rfl) rfl ?_
  exact gg_widen (k := 200) (n := 40000) (Nat.le_of_ble_eq_true rfl) (Nat.le_of_ble_eq_true rfl) (kk L9 L10 ι6 a24 a25 K6)
