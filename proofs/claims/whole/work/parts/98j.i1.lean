/-! objects made: what they are made of -/
def Kp (ι0 ι : Nat → Option XE) (ps : List (Nat × XE)) : Prop := (ps.map Prod.fst).Nodup ∧ (∀ x ∈ ps, ι x.1 = some x.2 ∧ ι0 x.1 = none) ∧ ∀ q e, ι0 q = some e → ι q = some e
theorem Kp.hd {ι0 ι : Nat → Option XE} {q : Nat} {e : XE} {ps : List (Nat × XE)} (K : Kp ι0 ι ((q, e) :: ps)) : ι q = some e := (K.2.1 (q, e) List.mem_cons_self).1
theorem Kp.at {ι0 ι : Nat → Option XE} {ps : List (Nat × XE)} (K : Kp ι0 ι ps) {k a : Nat} {e : XE} (h : ps[k]? = some (a, e)) : ι a = some e := (K.2.1 (a, e) (List.mem_of_getElem? h)).1
theorem Kp.new {ι0 ι : Nat → Option XE} {ps : List (Nat × XE)} (K : Kp ι0 ι ps) {a : Nat} (e : XE) (ha : ι a = none) : Kp ι0 (upX ι a e) ((a, e) :: ps) := by
  have h0 : ι0 a = none := by
    cases q : ι0 a with
    | none => rfl
    | some f => have := K.2.2 a f q; rw [ha] at this; cases this
  refine ⟨List.nodup_cons.mpr ⟨fun z => ?_, K.1⟩, fun x hx => ?_, fun q f hq => ?_⟩
  · obtain ⟨x, hx, rfl⟩ := List.mem_map.mp z
    have := (K.2.1 x hx).1; rw [ha] at this; cases this
  · rcases List.mem_cons.mp hx with rfl | hx
    · exact ⟨upX_s, h0⟩
    · have k := K.2.1 x hx
      exact ⟨(upX_n (fun z => by have := k.1; rw [z, ha] at this; cases this)).trans k.1, k.2⟩
  · exact (upX_n (fun z => by rw [z, h0] at hq; cases hq)).trans (K.2.2 q f hq)
theorem Kp.put {ι0 ι : Nat → Option XE} {q : Nat} {e : XE} {ps : List (Nat × XE)} (K : Kp ι0 ι ((q, e) :: ps)) (e' : XE) : Kp ι0 (upX ι q e') ((q, e') :: ps) := by
  have nd := List.nodup_cons.mp K.1
  refine ⟨K.1, fun x hx => ?_, fun p f hp => ?_⟩
  · rcases List.mem_cons.mp hx with rfl | hx
    · exact ⟨upX_s, (K.2.1 (q, e) List.mem_cons_self).2⟩
    · have k := K.2.1 x (List.mem_cons_of_mem _ hx)
      exact ⟨(upX_n (fun z => nd.1 (List.mem_map.mpr ⟨x, hx, z⟩))).trans k.1, k.2⟩
  · have k := (K.2.1 (q, e) List.mem_cons_self).2
    exact (upX_n (fun z => by rw [z] at hp; rw [show ι0 q = none from k] at hp; cases hp)).trans (K.2.2 p f hp)
theorem Kp.pull {ι0 ι : Nat → Option XE} (l1 : List (Nat × XE)) {x : Nat × XE} {l2 : List (Nat × XE)} (K : Kp ι0 ι (l1 ++ x :: l2)) : Kp ι0 ι (x :: (l1 ++ l2)) := by
  have hp : (l1 ++ x :: l2).Perm (x :: (l1 ++ l2)) := List.perm_middle
  exact ⟨(hp.map Prod.fst).nodup_iff.mp K.1, fun y hy => K.2.1 y (hp.mem_iff.mpr hy), K.2.2⟩
section KR
variable {Γ : GT} {M : MT} {QF : List Frame → Array Value → State → State → Prop} {cs : Nat × Nat} {hm ι0 ι : Nat → Option XE} {pc : Nat} {lv : List (Option Value)} {st : List Value} {ps : List (Nat × XE)}
theorem gk_kput {q : Nat} {e e' : XE} (K : Kp ι0 ι ((q, e) :: ps)) (kk : ∀ ι1, Kp ι0 ι1 ((q, e') :: ps) → GG Γ M QF cs (hm, ι1) pc lv st) : GG Γ M QF cs (hm, upX ι q e') pc lv st := kk _ (K.put e')
theorem gk_knew {a : Nat} {e : XE} (K : Kp ι0 ι ps) (ha : ι a = none) (kk : ∀ ι1, Kp ι0 ι1 ((a, e) :: ps) → GG Γ M QF cs (hm, ι1) pc lv st) : GG Γ M QF cs (hm, upX ι a e) pc lv st := kk _ (K.new e ha)
theorem gk_knew2 {a : Nat} {e : XE} {x : Nat × XE} (K : Kp ι0 ι (x :: ps)) (ha : ι a = none) (kk : ∀ ι1, Kp ι0 ι1 (x :: (a, e) :: ps) → GG Γ M QF cs (hm, ι1) pc lv st) : GG Γ M QF cs (hm, upX ι a e) pc lv st := kk _ (Kp.pull [_] (K.new e ha))
end KR
/-- a metre -/
abbrev mt9 (kd ft c9 : Int) : XE := .inr (6, [.int (iN kd), .int (iN ft), .int (iN c9), .int (iN (szk kd)), .int (iN (ft * szk kd)), .int (iN ((plN (fun p => strK kd p 0) (ft * szk kd).toNat : Nat) : Int)), .int (iN ((plN (fun p => strK kd p 1) (ft * szk kd).toNat : Nat) : Int))])
set_option maxHeartbeats 2000000 in
set_option maxRecDepth 100000 in
theorem c_X0_init {Γ : GT} {hm ι0 ι : Nat → Option XE} {q : Nat} {ps : List (Nat × XE)}  (K : Kp ι0 ι ((q, .inr (2, [.null, .int 0])) :: ps)) : Ct Γ M_X0_init [.ref q] (hm, ι) (fun r h9 => ∃ (ι' : Nat → Option XE) (a1 : Nat), r = none ∧ h9 = (hm, ι') ∧ Kp ι0 ι' ((q, .inr (2, [.ref a1, .int (iN 0)])) :: (a1, .inl (5, 10, ra (fun _ => none))) :: ps)) (fun _ _ => False) := by
  refine Ct.of rfl (by decide +kernel) (Nat.le_of_ble_eq_true rfl) ?_
  generalize hQF9 : QM Γ _ _ _ = QF9
  refine gg_aload_n dX0_init_0 rfl rfl ?_
  refine gc_X0_3 rfl dX0_init_1 ⟨(Nat.le_of_ble_eq_true rfl), (Nat.le_of_ble_eq_true rfl)⟩ ?_
  refine gg_aload_n dX0_init_4 rfl rfl ?_
  refine gi_bipush dX0_init_5 rfl ?_
  refine gn_aX0_9 (N := 10) rfl dX0_init_7 rfl (by decide) (Nat.le_of_ble_eq_true rfl) (Nat.le_of_ble_eq_true rfl) (fun a1 fa1 => ?_)
  refine gk_knew2 K fa1.1 (fun ι1 K1 => ?_)
  refine gp_X0_11 rfl rfl dX0_init_10 (Nat.le_of_ble_eq_true rfl) rfl rfl (HPut.io K1.hd) ?_
  refine gk_kput (e' := .inr (2, [.ref a1, .int 0])) K1 (fun ι2 K2 => ?_)
  refine gg_aload_n dX0_init_13 rfl rfl ?_
  refine gi_iconst dX0_init_14 ?_
  refine gp_X0_17 rfl dX0_init_15 (Nat.le_of_ble_eq_true rfl) rfl rfl (HPut.io K2.hd) ?_
  refine gk_kput (e' := .inr (2, [.ref a1, .int (iN 0)])) K2 (fun ι3 K3 => ?_)
  subst hQF9
  refine gg_vret dX0_init_18 rfl ⟨(Nat.le_of_ble_eq_true rfl), (Nat.le_of_ble_eq_true rfl)⟩ ?_
  exact ⟨_, a1, rfl, rfl, K3⟩
set_option maxHeartbeats 2000000 in
set_option maxRecDepth 100000 in
theorem c_X1_init {Γ : GT} {hm ι0 ι : Nat → Option XE} {q : Nat} {ps : List (Nat × XE)}  (K : Kp ι0 ι ((q, .inr (3, [.null, .null, .null, .int 0, .int 0, .int 0])) :: ps)) : Ct Γ M_X1_init [.ref q] (hm, ι) (fun r h9 => ∃ (ι' : Nat → Option XE) (a1 a2 a3 : Nat), r = none ∧ h9 = (hm, ι') ∧ Kp ι0 ι' ((q, .inr (3, [.ref a1, .ref a2, .ref a3, .int (iN 0), .int (iN 0), .int (iN (-1))])) :: (a3, .inl (0, 12, ia (fun _ => 0))) :: (a2, .inl (0, 12, ia (fun _ => 0))) :: (a1, .inl (1, 60, ia (fun _ => 0))) :: ps)) (fun _ _ => False) := by
  refine Ct.of rfl (by decide +kernel) (Nat.le_of_ble_eq_true rfl) ?_
  generalize hQF9 : QM Γ _ _ _ = QF9
  refine gg_aload_n dX1_init_0 rfl rfl ?_
  refine gc_X1_3 rfl dX1_init_1 ⟨(Nat.le_of_ble_eq_true rfl), (Nat.le_of_ble_eq_true rfl)⟩ ?_
  refine gg_aload_n dX1_init_4 rfl rfl ?_
  refine gi_bipush dX1_init_5 rfl ?_
  refine gg_newa (n := iN 60) (t := 1) (N := 60) (a0 := (60, ia (fun _ => 0))) dX1_init_7 (by decide) rfl (wi_1 _ (List.mem_of_getElem? (i := 23) rfl)) (fun _ => rfl) (by decide) (by decide) (by decide) (Nat.le_of_ble_eq_true rfl) (Nat.le_of_ble_eq_true rfl) (fun a1 fa1 => ?_)
  refine gk_knew2 K fa1.1 (fun ι1 K1 => ?_)
  refine gp_X1_9 rfl rfl dX1_init_9 (Nat.le_of_ble_eq_true rfl) rfl rfl (HPut.io K1.hd) ?_
  refine gk_kput (e' := .inr (3, [.ref a1, .null, .null, .int 0, .int 0, .int 0])) K1 (fun ι2 K2 => ?_)
  refine gg_aload_n dX1_init_12 rfl rfl ?_
  refine gi_bipush dX1_init_13 rfl ?_
  refine gg_newa (n := iN 12) (t := 0) (N := 12) (a0 := (12, ia (fun _ => 0))) dX1_init_15 (by decide) rfl (wi_1 _ (List.mem_of_getElem? (i := 9) rfl)) (fun _ => rfl) (by decide) (by decide) (by decide) (Nat.le_of_ble_eq_true rfl) (Nat.le_of_ble_eq_true rfl) (fun a2 fa2 => ?_)
  refine gk_knew2 K2 fa2.1 (fun ι3 K3 => ?_)
  refine gp_X1_15 rfl rfl dX1_init_17 (Nat.le_of_ble_eq_true rfl) rfl rfl (HPut.io K3.hd) ?_
  refine gk_kput (e' := .inr (3, [.ref a1, .ref a2, .null, .int 0, .int 0, .int 0])) K3 (fun ι4 K4 => ?_)
  refine gg_aload_n dX1_init_20 rfl rfl ?_
  refine gi_bipush dX1_init_21 rfl ?_
  refine gg_newa (n := iN 12) (t := 0) (N := 12) (a0 := (12, ia (fun _ => 0))) dX1_init_23 (by decide) rfl (wi_1 _ (List.mem_of_getElem? (i := 9) rfl)) (fun _ => rfl) (by decide) (by decide) (by decide) (Nat.le_of_ble_eq_true rfl) (Nat.le_of_ble_eq_true rfl) (fun a3 fa3 => ?_)
  refine gk_knew2 K4 fa3.1 (fun ι5 K5 => ?_)
  refine gp_X1_19 rfl rfl dX1_init_25 (Nat.le_of_ble_eq_true rfl) rfl rfl (HPut.io K5.hd) ?_
  refine gk_kput (e' := .inr (3, [.ref a1, .ref a2, .ref a3, .int 0, .int 0, .int 0])) K5 (fun ι6 K6 => ?_)
  refine gg_aload_n dX1_init_28 rfl rfl ?_
  refine gi_iconst dX1_init_29 ?_
  refine gp_X1_22 rfl dX1_init_30 (Nat.le_of_ble_eq_true rfl) rfl rfl (HPut.io K6.hd) ?_
  refine gk_kput (e' := .inr (3, [.ref a1, .ref a2, .ref a3, .int (iN 0), .int 0, .int 0])) K6 (fun ι7 K7 => ?_)
  refine gg_aload_n dX1_init_33 rfl rfl ?_
  refine gi_iconst dX1_init_34 ?_
  refine gp_X1_26 rfl dX1_init_35 (Nat.le_of_ble_eq_true rfl) rfl rfl (HPut.io K7.hd) ?_
  refine gk_kput (e' := .inr (3, [.ref a1, .ref a2, .ref a3, .int (iN 0), .int (iN 0), .int 0])) K7 (fun ι8 K8 => ?_)
  refine gg_aload_n dX1_init_38 rfl rfl ?_
  refine gi_iconst dX1_init_39 ?_
  refine gp_X1_29 rfl dX1_init_40 (Nat.le_of_ble_eq_true rfl) rfl rfl (HPut.io K8.hd) ?_
  refine gk_kput (e' := .inr (3, [.ref a1, .ref a2, .ref a3, .int (iN 0), .int (iN 0), .int (iN (-1))])) K8 (fun ι9 K9 => ?_)
  subst hQF9
  refine gg_vret dX1_init_43 rfl ⟨(Nat.le_of_ble_eq_true rfl), (Nat.le_of_ble_eq_true rfl)⟩ ?_
  exact ⟨_, a1, a2, a3, rfl, rfl, K9⟩
set_option maxHeartbeats 2000000 in
set_option maxRecDepth 100000 in
theorem c_X5_init {Γ : GT} {hm ι0 ι : Nat → Option XE} {q : Nat} {ps : List (Nat × XE)}  (K : Kp ι0 ι ((q, .inr (7, [.int 0, .int 0, .int 0, .int 0, .int 0, .int 0, .null, .null])) :: ps)) : Ct Γ M_X5_init [.ref q] (hm, ι) (fun r h9 => ∃ (ι' : Nat → Option XE) (a1 a2 : Nat), r = none ∧ h9 = (hm, ι') ∧ Kp ι0 ι' ((q, .inr (7, [.int (iN 0), .int (iN 0), .int (iN 0), .int (iN 0), .int (iN 0), .int (iN 0), .ref a1, .ref a2])) :: (a2, .inl (0, 72, ia (fun _ => 0))) :: (a1, .inl (0, 12, ia (fun _ => 0))) :: ps)) (fun _ _ => False) := by
  refine Ct.of rfl (by decide +kernel) (Nat.le_of_ble_eq_true rfl) ?_
  generalize hQF9 : QM Γ _ _ _ = QF9
  refine gg_aload_n dX5_init_0 rfl rfl ?_
  refine gc_X5_3 rfl dX5_init_1 ⟨(Nat.le_of_ble_eq_true rfl), (Nat.le_of_ble_eq_true rfl)⟩ ?_
  refine gg_aload_n dX5_init_4 rfl rfl ?_
  refine gi_iconst dX5_init_5 ?_
  refine gp_X5_9 rfl dX5_init_6 (Nat.le_of_ble_eq_true rfl) rfl rfl (HPut.io K.hd) ?_
  refine gk_kput (e' := .inr (7, [.int (iN 0), .int 0, .int 0, .int 0, .int 0, .int 0, .null, .null])) K (fun ι1 K1 => ?_)
  refine gg_aload_n dX5_init_9 rfl rfl ?_
  refine gi_iconst dX5_init_10 ?_
  refine gp_X5_15 rfl dX5_init_11 (Nat.le_of_ble_eq_true rfl) rfl rfl (HPut.io K1.hd) ?_
  refine gk_kput (e' := .inr (7, [.int (iN 0), .int (iN 0), .int 0, .int 0, .int 0, .int 0, .null, .null])) K1 (fun ι2 K2 => ?_)
  refine gg_aload_n dX5_init_14 rfl rfl ?_
  refine gi_iconst dX5_init_15 ?_
  refine gp_X5_18 rfl dX5_init_16 (Nat.le_of_ble_eq_true rfl) rfl rfl (HPut.io K2.hd) ?_
  refine gk_kput (e' := .inr (7, [.int (iN 0), .int (iN 0), .int (iN 0), .int 0, .int 0, .int 0, .null, .null])) K2 (fun ι3 K3 => ?_)
  refine gg_aload_n dX5_init_19 rfl rfl ?_
  refine gi_iconst dX5_init_20 ?_
  refine gp_X5_21 rfl dX5_init_21 (Nat.le_of_ble_eq_true rfl) rfl rfl (HPut.io K3.hd) ?_
  refine gk_kput (e' := .inr (7, [.int (iN 0), .int (iN 0), .int (iN 0), .int (iN 0), .int 0, .int 0, .null, .null])) K3 (fun ι4 K4 => ?_)
  refine gg_aload_n dX5_init_24 rfl rfl ?_
  refine gi_iconst dX5_init_25 ?_
  refine gp_X5_24 rfl dX5_init_26 (Nat.le_of_ble_eq_true rfl) rfl rfl (HPut.io K4.hd) ?_
  refine gk_kput (e' := .inr (7, [.int (iN 0), .int (iN 0), .int (iN 0), .int (iN 0), .int (iN 0), .int 0, .null, .null])) K4 (fun ι5 K5 => ?_)
  refine gg_aload_n dX5_init_29 rfl rfl ?_
  refine gi_iconst dX5_init_30 ?_
  refine gp_X5_27 rfl dX5_init_31 (Nat.le_of_ble_eq_true rfl) rfl rfl (HPut.io K5.hd) ?_
  refine gk_kput (e' := .inr (7, [.int (iN 0), .int (iN 0), .int (iN 0), .int (iN 0), .int (iN 0), .int (iN 0), .null, .null])) K5 (fun ι6 K6 => ?_)
  refine gg_aload_n dX5_init_34 rfl rfl ?_
  refine gi_bipush dX5_init_35 rfl ?_
  refine gg_newa (n := iN 12) (t := 0) (N := 12) (a0 := (12, ia (fun _ => 0))) dX5_init_37 (by decide) rfl (wi_1 _ (List.mem_of_getElem? (i := 9) rfl)) (fun _ => rfl) (by decide) (by decide) (by decide) (Nat.le_of_ble_eq_true rfl) (Nat.le_of_ble_eq_true rfl) (fun a1 fa1 => ?_)
  refine gk_knew2 K6 fa1.1 (fun ι7 K7 => ?_)
  refine gp_X5_30 rfl rfl dX5_init_39 (Nat.le_of_ble_eq_true rfl) rfl rfl (HPut.io K7.hd) ?_
  refine gk_kput (e' := .inr (7, [.int (iN 0), .int (iN 0), .int (iN 0), .int (iN 0), .int (iN 0), .int (iN 0), .ref a1, .null])) K7 (fun ι8 K8 => ?_)
  refine gg_aload_n dX5_init_42 rfl rfl ?_
  refine gi_bipush dX5_init_43 rfl ?_
  refine gg_newa (n := iN 72) (t := 0) (N := 72) (a0 := (72, ia (fun _ => 0))) dX5_init_45 (by decide) rfl (wi_1 _ (List.mem_of_getElem? (i := 9) rfl)) (fun _ => rfl) (by decide) (by decide) (by decide) (Nat.le_of_ble_eq_true rfl) (Nat.le_of_ble_eq_true rfl) (fun a2 fa2 => ?_)
  refine gk_knew2 K8 fa2.1 (fun ι9 K9 => ?_)
  refine gp_X5_34 rfl rfl dX5_init_47 (Nat.le_of_ble_eq_true rfl) rfl rfl (HPut.io K9.hd) ?_
  refine gk_kput (e' := .inr (7, [.int (iN 0), .int (iN 0), .int (iN 0), .int (iN 0), .int (iN 0), .int (iN 0), .ref a1, .ref a2])) K9 (fun ι10 K10 => ?_)
  subst hQF9
  refine gg_vret dX5_init_50 rfl ⟨(Nat.le_of_ble_eq_true rfl), (Nat.le_of_ble_eq_true rfl)⟩ ?_
  exact ⟨_, a1, a2, rfl, rfl, K10⟩
set_option maxHeartbeats 2000000 in
set_option maxRecDepth 100000 in
theorem c_X6_init {Γ : GT} {hm ι0 ι : Nat → Option XE} {q : Nat} {ps : List (Nat × XE)} {z0 : Nat} (K : Kp ι0 ι ((q, .inr (8, [.null, .null, .null, .null, .null, .null, .null, .int 0, .int 0])) :: ps)) : Ct Γ M_X6_init [.ref q, .ref z0] (hm, ι) (fun r h9 => ∃ (ι' : Nat → Option XE) (a1 a2 a3 a4 a5 a6 : Nat), r = none ∧ h9 = (hm, ι') ∧ Kp ι0 ι' ((q, .inr (8, [.ref z0, .ref a1, .ref a2, .ref a3, .ref a4, .ref a5, .ref a6, .int (iN 0), .int (iN 0)])) :: (a6, mt9 0 2 0) :: (a5, .inl (0, 40, ia (fun _ => 0))) :: (a4, .inl (0, 40, ia (fun _ => 0))) :: (a3, .inl (0, 40, ia (fun _ => 0))) :: (a2, .inl (0, 40, ia (fun _ => 0))) :: (a1, .inl (0, 19, ia (fun _ => 0))) :: ps)) (fun _ _ => False) := by
  refine Ct.of rfl (by decide +kernel) (Nat.le_of_ble_eq_true rfl) ?_
  generalize hQF9 : QM Γ _ _ _ = QF9
  refine gg_aload_n dX6_init_0 rfl rfl ?_
  refine gc_X6_3 rfl dX6_init_1 ⟨(Nat.le_of_ble_eq_true rfl), (Nat.le_of_ble_eq_true rfl)⟩ ?_
  refine gg_aload_n dX6_init_4 rfl rfl ?_
  refine gi_bipush dX6_init_5 rfl ?_
  refine gg_newa (n := iN 19) (t := 0) (N := 19) (a0 := (19, ia (fun _ => 0))) dX6_init_7 (by decide) rfl (wi_1 _ (List.mem_of_getElem? (i := 9) rfl)) (fun _ => rfl) (by decide) (by decide) (by decide) (Nat.le_of_ble_eq_true rfl) (Nat.le_of_ble_eq_true rfl) (fun a1 fa1 => ?_)
  refine gk_knew2 K fa1.1 (fun ι1 K1 => ?_)
  refine gp_X6_9 rfl rfl dX6_init_9 (Nat.le_of_ble_eq_true rfl) rfl rfl (HPut.io K1.hd) ?_
  refine gk_kput (e' := .inr (8, [.null, .ref a1, .null, .null, .null, .null, .null, .int 0, .int 0])) K1 (fun ι2 K2 => ?_)
  refine gg_aload_n dX6_init_12 rfl rfl ?_
  refine gi_bipush dX6_init_13 rfl ?_
  refine gg_newa (n := iN 40) (t := 0) (N := 40) (a0 := (40, ia (fun _ => 0))) dX6_init_15 (by decide) rfl (wi_1 _ (List.mem_of_getElem? (i := 9) rfl)) (fun _ => rfl) (by decide) (by decide) (by decide) (Nat.le_of_ble_eq_true rfl) (Nat.le_of_ble_eq_true rfl) (fun a2 fa2 => ?_)
  refine gk_knew2 K2 fa2.1 (fun ι3 K3 => ?_)
  refine gp_X6_15 rfl dX6_init_17 (Nat.le_of_ble_eq_true rfl) rfl rfl (HPut.io K3.hd) ?_
  refine gk_kput (e' := .inr (8, [.null, .ref a1, .ref a2, .null, .null, .null, .null, .int 0, .int 0])) K3 (fun ι4 K4 => ?_)
  refine gg_aload_n dX6_init_20 rfl rfl ?_
  refine gi_bipush dX6_init_21 rfl ?_
  refine gg_newa (n := iN 40) (t := 0) (N := 40) (a0 := (40, ia (fun _ => 0))) dX6_init_23 (by decide) rfl (wi_1 _ (List.mem_of_getElem? (i := 9) rfl)) (fun _ => rfl) (by decide) (by decide) (by decide) (Nat.le_of_ble_eq_true rfl) (Nat.le_of_ble_eq_true rfl) (fun a3 fa3 => ?_)
  refine gk_knew2 K4 fa3.1 (fun ι5 K5 => ?_)
  refine gp_X6_18 rfl dX6_init_25 (Nat.le_of_ble_eq_true rfl) rfl rfl (HPut.io K5.hd) ?_
  refine gk_kput (e' := .inr (8, [.null, .ref a1, .ref a2, .ref a3, .null, .null, .null, .int 0, .int 0])) K5 (fun ι6 K6 => ?_)
  refine gg_aload_n dX6_init_28 rfl rfl ?_
  refine gi_bipush dX6_init_29 rfl ?_
  refine gg_newa (n := iN 40) (t := 0) (N := 40) (a0 := (40, ia (fun _ => 0))) dX6_init_31 (by decide) rfl (wi_1 _ (List.mem_of_getElem? (i := 9) rfl)) (fun _ => rfl) (by decide) (by decide) (by decide) (Nat.le_of_ble_eq_true rfl) (Nat.le_of_ble_eq_true rfl) (fun a4 fa4 => ?_)
  refine gk_knew2 K6 fa4.1 (fun ι7 K7 => ?_)
  refine gp_X6_21 rfl dX6_init_33 (Nat.le_of_ble_eq_true rfl) rfl rfl (HPut.io K7.hd) ?_
  refine gk_kput (e' := .inr (8, [.null, .ref a1, .ref a2, .ref a3, .ref a4, .null, .null, .int 0, .int 0])) K7 (fun ι8 K8 => ?_)
  refine gg_aload_n dX6_init_36 rfl rfl ?_
  refine gi_bipush dX6_init_37 rfl ?_
  refine gg_newa (n := iN 40) (t := 0) (N := 40) (a0 := (40, ia (fun _ => 0))) dX6_init_39 (by decide) rfl (wi_1 _ (List.mem_of_getElem? (i := 9) rfl)) (fun _ => rfl) (by decide) (by decide) (by decide) (Nat.le_of_ble_eq_true rfl) (Nat.le_of_ble_eq_true rfl) (fun a5 fa5 => ?_)
  refine gk_knew2 K8 fa5.1 (fun ι9 K9 => ?_)
  refine gp_X6_24 rfl dX6_init_41 (Nat.le_of_ble_eq_true rfl) rfl rfl (HPut.io K9.hd) ?_
  refine gk_kput (e' := .inr (8, [.null, .ref a1, .ref a2, .ref a3, .ref a4, .ref a5, .null, .int 0, .int 0])) K9 (fun ι10 K10 => ?_)
  refine gg_aload_n dX6_init_44 rfl rfl ?_
  refine gn_X6_27 rfl dX6_init_45 (Nat.le_of_ble_eq_true rfl) (Nat.le_of_ble_eq_true rfl) (fun a6 fa6 => ?_)
  refine gk_knew K10 fa6.1 (fun ι11 K11 => ?_)
  refine gg_dup dX6_init_48 rfl ?_
  refine gi_iconst dX6_init_49 ?_
  refine gi_iconst dX6_init_50 ?_
  refine gi_iconst dX6_init_51 ?_
  refine gc_X6_29 rfl dX6_init_52 ⟨(Nat.le_of_ble_eq_true rfl), (Nat.le_of_ble_eq_true rfl)⟩ ⟨(Nat.le_of_ble_eq_true rfl), (Nat.le_of_ble_eq_true rfl)⟩ (Nat.le_of_ble_eq_true rfl) (c_X4_init (h := (hm, ι11)) K11.hd (kd := 0) (ft := 2) (c9 := 0) ⟨by decide, by decide⟩ ⟨by decide, by decide⟩ ⟨by decide, by decide⟩) (fun _ _ z => z.elim) (fun r9 h9 hp => ?_)
  obtain ⟨rfl, rfl⟩ := hp
  refine gk_kput (e' := mt9 0 2 0) K11 (fun ι12 K12 => ?_)
  have K13 : Kp ι0 ι12 ((q, .inr (8, [.null, .ref a1, .ref a2, .ref a3, .ref a4, .ref a5, .null, .int 0, .int 0])) :: (a6, mt9 0 2 0) :: (a5, .inl (0, 40, ia (fun _ => 0))) :: (a4, .inl (0, 40, ia (fun _ => 0))) :: (a3, .inl (0, 40, ia (fun _ => 0))) :: (a2, .inl (0, 40, ia (fun _ => 0))) :: (a1, .inl (0, 19, ia (fun _ => 0))) :: ps) := Kp.pull [_] K12
  refine gp_X6_32 rfl dX6_init_55 (Nat.le_of_ble_eq_true rfl) rfl rfl (HPut.io K13.hd) ?_
  refine gk_kput (e' := .inr (8, [.null, .ref a1, .ref a2, .ref a3, .ref a4, .ref a5, .ref a6, .int 0, .int 0])) K13 (fun ι14 K14 => ?_)
  refine gg_aload_n dX6_init_58 rfl rfl ?_
  refine gi_iconst dX6_init_59 ?_
  refine gp_X6_36 rfl dX6_init_60 (Nat.le_of_ble_eq_true rfl) rfl rfl (HPut.io K14.hd) ?_
  refine gk_kput (e' := .inr (8, [.null, .ref a1, .ref a2, .ref a3, .ref a4, .ref a5, .ref a6, .int (iN 0), .int 0])) K14 (fun ι15 K15 => ?_)
  refine gg_aload_n dX6_init_63 rfl rfl ?_
  refine gi_iconst dX6_init_64 ?_
  refine gp_X6_40 rfl dX6_init_65 (Nat.le_of_ble_eq_true rfl) rfl rfl (HPut.io K15.hd) ?_
  refine gk_kput (e' := .inr (8, [.null, .ref a1, .ref a2, .ref a3, .ref a4, .ref a5, .ref a6, .int (iN 0), .int (iN 0)])) K15 (fun ι16 K16 => ?_)
  refine gg_aload_n dX6_init_68 rfl rfl ?_
  refine gg_aload_n dX6_init_69 rfl rfl ?_
  refine gp_X6_43 rfl rfl dX6_init_70 (Nat.le_of_ble_eq_true rfl) rfl rfl (HPut.io K16.hd) ?_
  refine gk_kput (e' := .inr (8, [.ref z0, .ref a1, .ref a2, .ref a3, .ref a4, .ref a5, .ref a6, .int (iN 0), .int (iN 0)])) K16 (fun ι17 K17 => ?_)
  subst hQF9
  refine gg_vret dX6_init_73 rfl ⟨(Nat.le_of_ble_eq_true rfl), (Nat.le_of_ble_eq_true rfl)⟩ ?_
  exact ⟨_, a1, a2, a3, a4, a5, a6, rfl, rfl, K17⟩
set_option maxHeartbeats 2000000 in
set_option maxRecDepth 100000 in
theorem c_X7_init {Γ : GT} {hm ι0 ι : Nat → Option XE} {q : Nat} {ps : List (Nat × XE)}  (K : Kp ι0 ι ((q, .inr (9, [.null, .int 0, .null, .int 0, .null])) :: ps)) : Ct Γ M_X7_init [.ref q] (hm, ι) (fun r h9 => ∃ (ι' : Nat → Option XE) (a1 a2 a3 a4 a5 a6 a7 a8 a9 a10 a11 : Nat), r = none ∧ h9 = (hm, ι') ∧ Kp ι0 ι' ((q, .inr (9, [.ref a1, .int (iN 6), .ref a2, .int (iN 0), .ref a3])) :: (a2, .inl (7, 4, ra (up (up (up (up (fun _ => none) 0 (some a4)) 1 (some a6)) 2 (some a8)) 3 (some a10)))) :: (a10, .inr (2, [.ref a11, .int (iN 0)])) :: (a11, .inl (5, 10, ra (fun _ => none))) :: (a8, .inr (2, [.ref a9, .int (iN 0)])) :: (a9, .inl (5, 10, ra (fun _ => none))) :: (a6, .inr (2, [.ref a7, .int (iN 0)])) :: (a7, .inl (5, 10, ra (fun _ => none))) :: (a4, .inr (2, [.ref a5, .int (iN 0)])) :: (a5, .inl (5, 10, ra (fun _ => none))) :: (a3, .inl (9, 8, ra (fun _ => none))) :: (a1, mt9 0 5 0) :: ps)) (fun _ _ => False) := by
  refine Ct.of rfl (by decide +kernel) (Nat.le_of_ble_eq_true rfl) ?_
  generalize hQF9 : QM Γ _ _ _ = QF9
  refine gg_aload_n dX7_init_0 rfl rfl ?_
  refine gc_X7_3 rfl dX7_init_1 ⟨(Nat.le_of_ble_eq_true rfl), (Nat.le_of_ble_eq_true rfl)⟩ ?_
  refine gg_aload_n dX7_init_4 rfl rfl ?_
  refine gn_X7_9 rfl dX7_init_5 (Nat.le_of_ble_eq_true rfl) (Nat.le_of_ble_eq_true rfl) (fun a1 fa1 => ?_)
  refine gk_knew K fa1.1 (fun ι1 K1 => ?_)
  refine gg_dup dX7_init_8 rfl ?_
  refine gi_iconst dX7_init_9 ?_
  refine gi_iconst dX7_init_10 ?_
  refine gi_iconst dX7_init_11 ?_
  refine gc_X7_11 rfl dX7_init_12 ⟨(Nat.le_of_ble_eq_true rfl), (Nat.le_of_ble_eq_true rfl)⟩ ⟨(Nat.le_of_ble_eq_true rfl), (Nat.le_of_ble_eq_true rfl)⟩ (Nat.le_of_ble_eq_true rfl) (c_X4_init (h := (hm, ι1)) K1.hd (kd := 0) (ft := 5) (c9 := 0) ⟨by decide, by decide⟩ ⟨by decide, by decide⟩ ⟨by decide, by decide⟩) (fun _ _ z => z.elim) (fun r9 h9 hp => ?_)
  obtain ⟨rfl, rfl⟩ := hp
  refine gk_kput (e' := mt9 0 5 0) K1 (fun ι2 K2 => ?_)
  have K3 : Kp ι0 ι2 ((q, .inr (9, [.null, .int 0, .null, .int 0, .null])) :: (a1, mt9 0 5 0) :: ps) := Kp.pull [_] K2
  refine gp_X7_14 rfl dX7_init_15 (Nat.le_of_ble_eq_true rfl) rfl rfl (HPut.io K3.hd) ?_
  refine gk_kput (e' := .inr (9, [.ref a1, .int 0, .null, .int 0, .null])) K3 (fun ι4 K4 => ?_)
  refine gg_aload_n dX7_init_18 rfl rfl ?_
  refine gi_bipush dX7_init_19 rfl ?_
  refine gp_X7_20 rfl dX7_init_21 (Nat.le_of_ble_eq_true rfl) rfl rfl (HPut.io K4.hd) ?_
  refine gk_kput (e' := .inr (9, [.ref a1, .int (iN 6), .null, .int 0, .null])) K4 (fun ι5 K5 => ?_)
  refine gg_aload_n dX7_init_24 rfl rfl ?_
  refine gi_iconst dX7_init_25 ?_
  refine gn_aX7_24 (N := 4) rfl dX7_init_26 rfl (by decide) (Nat.le_of_ble_eq_true rfl) (Nat.le_of_ble_eq_true rfl) (fun a2 fa2 => ?_)
  refine gk_knew2 K5 fa2.1 (fun ι6 K6 => ?_)
  refine gp_X7_26 rfl rfl dX7_init_29 (Nat.le_of_ble_eq_true rfl) rfl rfl (HPut.io K6.hd) ?_
  refine gk_kput (e' := .inr (9, [.ref a1, .int (iN 6), .ref a2, .int 0, .null])) K6 (fun ι7 K7 => ?_)
  refine gg_aload_n dX7_init_32 rfl rfl ?_
  refine gi_iconst dX7_init_33 ?_
  refine gp_X7_30 rfl dX7_init_34 (Nat.le_of_ble_eq_true rfl) rfl rfl (HPut.io K7.hd) ?_
  refine gk_kput (e' := .inr (9, [.ref a1, .int (iN 6), .ref a2, .int (iN 0), .null])) K7 (fun ι8 K8 => ?_)
  refine gg_aload_n dX7_init_37 rfl rfl ?_
  refine gi_bipush dX7_init_38 rfl ?_
  refine gn_aX7_33 (N := 8) rfl dX7_init_40 rfl (by decide) (Nat.le_of_ble_eq_true rfl) (Nat.le_of_ble_eq_true rfl) (fun a3 fa3 => ?_)
  refine gk_knew2 K8 fa3.1 (fun ι9 K9 => ?_)
  refine gp_X7_35 rfl rfl dX7_init_43 (Nat.le_of_ble_eq_true rfl) rfl rfl (HPut.io K9.hd) ?_
  refine gk_kput (e' := .inr (9, [.ref a1, .int (iN 6), .ref a2, .int (iN 0), .ref a3])) K9 (fun ι10 K10 => ?_)
  refine gi_iconst dX7_init_46 ?_
  refine gg_istore_n dX7_init_47 (by decide) rfl ?_
  refine gg_iload_n dX7_init_48 rfl ?_
  refine gi_iconst dX7_init_49 ?_
  refine gi_icmp_ge dX7_init_50 (tgt := 72) (by decide) ⟨by decide, by decide⟩ ⟨by decide, by decide⟩ (fun z => absurd z (by decide)) (fun _ => ?_)
  refine gg_aload_n dX7_init_53 rfl rfl ?_
  refine gf_X7_26 rfl dX7_init_54 (HAt.io K10.hd) rfl ?_
  refine gg_iload_n dX7_init_57 rfl ?_
  refine gn_X7_24 rfl dX7_init_58 (Nat.le_of_ble_eq_true rfl) (Nat.le_of_ble_eq_true rfl) (fun a4 fa4 => ?_)
  refine gk_knew K10 fa4.1 (fun ι11 K11 => ?_)
  refine gg_dup dX7_init_61 rfl ?_
  refine gc_X7_39 rfl dX7_init_62 ⟨(Nat.le_of_ble_eq_true rfl), (Nat.le_of_ble_eq_true rfl)⟩ ⟨(Nat.le_of_ble_eq_true rfl), (Nat.le_of_ble_eq_true rfl)⟩ (Nat.le_of_ble_eq_true rfl) (c_X0_init (hm := hm) K11) (fun _ _ z => z.elim) (fun r9 h9 hp => ?_)
  obtain ⟨ι12, a5, rfl, rfl, K12⟩ := hp
  change Kp ι0 ι12 ((a4, .inr (2, [.ref a5, .int (iN 0)])) :: (a5, .inl (5, 10, ra (fun _ => none))) :: (q, .inr (9, [.ref a1, .int (iN 6), .ref a2, .int (iN 0), .ref a3])) :: (a3, .inl (9, 8, ra (fun _ => none))) :: (a2, .inl (7, 4, ra (fun _ => none))) :: (a1, mt9 0 5 0) :: ps) at K12
  have K13 : Kp ι0 ι12 ((a2, .inl (7, 4, ra (fun _ => none))) :: (a4, .inr (2, [.ref a5, .int (iN 0)])) :: (a5, .inl (5, 10, ra (fun _ => none))) :: (q, .inr (9, [.ref a1, .int (iN 6), .ref a2, .int (iN 0), .ref a3])) :: (a3, .inl (9, 8, ra (fun _ => none))) :: (a1, mt9 0 5 0) :: ps) := Kp.pull [_, _, _, _] K12
  refine gi_aast dX7_init_65 (HAt.io (K13.at (k := 1) rfl)) rfl (by decide) rfl (by decide) ⟨by decide, by decide⟩ (HPut.io K13.hd) ?_
  refine gk_kput (e' := .inl (7, 4, ra (up (fun _ => none) 0 (some a4)))) K13 (fun ι14 K14 => ?_)
  refine gg_iinc dX7_init_66 rfl (v := iN 1) (by decide) (by decide) rfl ?_
  refine gg_goto dX7_init_69 (tgt := 48) (by decide) ?_
  refine gg_iload_n dX7_init_48 rfl ?_
  refine gi_iconst dX7_init_49 ?_
  refine gi_icmp_ge dX7_init_50 (tgt := 72) (by decide) ⟨by decide, by decide⟩ ⟨by decide, by decide⟩ (fun z => absurd z (by decide)) (fun _ => ?_)
  refine gg_aload_n dX7_init_53 rfl rfl ?_
  refine gf_X7_26 rfl dX7_init_54 (HAt.io (K14.at (k := 3) rfl)) rfl ?_
  refine gg_iload_n dX7_init_57 rfl ?_
  refine gn_X7_24 rfl dX7_init_58 (Nat.le_of_ble_eq_true rfl) (Nat.le_of_ble_eq_true rfl) (fun a6 fa6 => ?_)
  refine gk_knew K14 fa6.1 (fun ι15 K15 => ?_)
  refine gg_dup dX7_init_61 rfl ?_
  refine gc_X7_39 rfl dX7_init_62 ⟨(Nat.le_of_ble_eq_true rfl), (Nat.le_of_ble_eq_true rfl)⟩ ⟨(Nat.le_of_ble_eq_true rfl), (Nat.le_of_ble_eq_true rfl)⟩ (Nat.le_of_ble_eq_true rfl) (c_X0_init (hm := hm) K15) (fun _ _ z => z.elim) (fun r9 h9 hp => ?_)
  obtain ⟨ι16, a7, rfl, rfl, K16⟩ := hp
  change Kp ι0 ι16 ((a6, .inr (2, [.ref a7, .int (iN 0)])) :: (a7, .inl (5, 10, ra (fun _ => none))) :: (a2, .inl (7, 4, ra (up (fun _ => none) 0 (some a4)))) :: (a4, .inr (2, [.ref a5, .int (iN 0)])) :: (a5, .inl (5, 10, ra (fun _ => none))) :: (q, .inr (9, [.ref a1, .int (iN 6), .ref a2, .int (iN 0), .ref a3])) :: (a3, .inl (9, 8, ra (fun _ => none))) :: (a1, mt9 0 5 0) :: ps) at K16
  have K17 : Kp ι0 ι16 ((a2, .inl (7, 4, ra (up (fun _ => none) 0 (some a4)))) :: (a6, .inr (2, [.ref a7, .int (iN 0)])) :: (a7, .inl (5, 10, ra (fun _ => none))) :: (a4, .inr (2, [.ref a5, .int (iN 0)])) :: (a5, .inl (5, 10, ra (fun _ => none))) :: (q, .inr (9, [.ref a1, .int (iN 6), .ref a2, .int (iN 0), .ref a3])) :: (a3, .inl (9, 8, ra (fun _ => none))) :: (a1, mt9 0 5 0) :: ps) := Kp.pull [_, _] K16
  refine gi_aast dX7_init_65 (HAt.io (K17.at (k := 1) rfl)) rfl (by decide) rfl (by decide) ⟨by decide, by decide⟩ (HPut.io K17.hd) ?_
  refine gk_kput (e' := .inl (7, 4, ra (up (up (fun _ => none) 0 (some a4)) 1 (some a6)))) K17 (fun ι18 K18 => ?_)
  refine gg_iinc dX7_init_66 rfl (v := iN 2) (by decide) (by decide) rfl ?_
  refine gg_goto dX7_init_69 (tgt := 48) (by decide) ?_
  refine gg_iload_n dX7_init_48 rfl ?_
  refine gi_iconst dX7_init_49 ?_
  refine gi_icmp_ge dX7_init_50 (tgt := 72) (by decide) ⟨by decide, by decide⟩ ⟨by decide, by decide⟩ (fun z => absurd z (by decide)) (fun _ => ?_)
  refine gg_aload_n dX7_init_53 rfl rfl ?_
  refine gf_X7_26 rfl dX7_init_54 (HAt.io (K18.at (k := 5) rfl)) rfl ?_
  refine gg_iload_n dX7_init_57 rfl ?_
  refine gn_X7_24 rfl dX7_init_58 (Nat.le_of_ble_eq_true rfl) (Nat.le_of_ble_eq_true rfl) (fun a8 fa8 => ?_)
  refine gk_knew K18 fa8.1 (fun ι19 K19 => ?_)
  refine gg_dup dX7_init_61 rfl ?_
  refine gc_X7_39 rfl dX7_init_62 ⟨(Nat.le_of_ble_eq_true rfl), (Nat.le_of_ble_eq_true rfl)⟩ ⟨(Nat.le_of_ble_eq_true rfl), (Nat.le_of_ble_eq_true rfl)⟩ (Nat.le_of_ble_eq_true rfl) (c_X0_init (hm := hm) K19) (fun _ _ z => z.elim) (fun r9 h9 hp => ?_)
  obtain ⟨ι20, a9, rfl, rfl, K20⟩ := hp
  change Kp ι0 ι20 ((a8, .inr (2, [.ref a9, .int (iN 0)])) :: (a9, .inl (5, 10, ra (fun _ => none))) :: (a2, .inl (7, 4, ra (up (up (fun _ => none) 0 (some a4)) 1 (some a6)))) :: (a6, .inr (2, [.ref a7, .int (iN 0)])) :: (a7, .inl (5, 10, ra (fun _ => none))) :: (a4, .inr (2, [.ref a5, .int (iN 0)])) :: (a5, .inl (5, 10, ra (fun _ => none))) :: (q, .inr (9, [.ref a1, .int (iN 6), .ref a2, .int (iN 0), .ref a3])) :: (a3, .inl (9, 8, ra (fun _ => none))) :: (a1, mt9 0 5 0) :: ps) at K20
  have K21 : Kp ι0 ι20 ((a2, .inl (7, 4, ra (up (up (fun _ => none) 0 (some a4)) 1 (some a6)))) :: (a8, .inr (2, [.ref a9, .int (iN 0)])) :: (a9, .inl (5, 10, ra (fun _ => none))) :: (a6, .inr (2, [.ref a7, .int (iN 0)])) :: (a7, .inl (5, 10, ra (fun _ => none))) :: (a4, .inr (2, [.ref a5, .int (iN 0)])) :: (a5, .inl (5, 10, ra (fun _ => none))) :: (q, .inr (9, [.ref a1, .int (iN 6), .ref a2, .int (iN 0), .ref a3])) :: (a3, .inl (9, 8, ra (fun _ => none))) :: (a1, mt9 0 5 0) :: ps) := Kp.pull [_, _] K20
  refine gi_aast dX7_init_65 (HAt.io (K21.at (k := 1) rfl)) rfl (by decide) rfl (by decide) ⟨by decide, by decide⟩ (HPut.io K21.hd) ?_
  refine gk_kput (e' := .inl (7, 4, ra (up (up (up (fun _ => none) 0 (some a4)) 1 (some a6)) 2 (some a8)))) K21 (fun ι22 K22 => ?_)
  refine gg_iinc dX7_init_66 rfl (v := iN 3) (by decide) (by decide) rfl ?_
  refine gg_goto dX7_init_69 (tgt := 48) (by decide) ?_
  refine gg_iload_n dX7_init_48 rfl ?_
  refine gi_iconst dX7_init_49 ?_
  refine gi_icmp_ge dX7_init_50 (tgt := 72) (by decide) ⟨by decide, by decide⟩ ⟨by decide, by decide⟩ (fun z => absurd z (by decide)) (fun _ => ?_)
  refine gg_aload_n dX7_init_53 rfl rfl ?_
  refine gf_X7_26 rfl dX7_init_54 (HAt.io (K22.at (k := 7) rfl)) rfl ?_
  refine gg_iload_n dX7_init_57 rfl ?_
  refine gn_X7_24 rfl dX7_init_58 (Nat.le_of_ble_eq_true rfl) (Nat.le_of_ble_eq_true rfl) (fun a10 fa10 => ?_)
  refine gk_knew K22 fa10.1 (fun ι23 K23 => ?_)
  refine gg_dup dX7_init_61 rfl ?_
  refine gc_X7_39 rfl dX7_init_62 ⟨(Nat.le_of_ble_eq_true rfl), (Nat.le_of_ble_eq_true rfl)⟩ ⟨(Nat.le_of_ble_eq_true rfl), (Nat.le_of_ble_eq_true rfl)⟩ (Nat.le_of_ble_eq_true rfl) (c_X0_init (hm := hm) K23) (fun _ _ z => z.elim) (fun r9 h9 hp => ?_)
  obtain ⟨ι24, a11, rfl, rfl, K24⟩ := hp
  change Kp ι0 ι24 ((a10, .inr (2, [.ref a11, .int (iN 0)])) :: (a11, .inl (5, 10, ra (fun _ => none))) :: (a2, .inl (7, 4, ra (up (up (up (fun _ => none) 0 (some a4)) 1 (some a6)) 2 (some a8)))) :: (a8, .inr (2, [.ref a9, .int (iN 0)])) :: (a9, .inl (5, 10, ra (fun _ => none))) :: (a6, .inr (2, [.ref a7, .int (iN 0)])) :: (a7, .inl (5, 10, ra (fun _ => none))) :: (a4, .inr (2, [.ref a5, .int (iN 0)])) :: (a5, .inl (5, 10, ra (fun _ => none))) :: (q, .inr (9, [.ref a1, .int (iN 6), .ref a2, .int (iN 0), .ref a3])) :: (a3, .inl (9, 8, ra (fun _ => none))) :: (a1, mt9 0 5 0) :: ps) at K24
  have K25 : Kp ι0 ι24 ((a2, .inl (7, 4, ra (up (up (up (fun _ => none) 0 (some a4)) 1 (some a6)) 2 (some a8)))) :: (a10, .inr (2, [.ref a11, .int (iN 0)])) :: (a11, .inl (5, 10, ra (fun _ => none))) :: (a8, .inr (2, [.ref a9, .int (iN 0)])) :: (a9, .inl (5, 10, ra (fun _ => none))) :: (a6, .inr (2, [.ref a7, .int (iN 0)])) :: (a7, .inl (5, 10, ra (fun _ => none))) :: (a4, .inr (2, [.ref a5, .int (iN 0)])) :: (a5, .inl (5, 10, ra (fun _ => none))) :: (q, .inr (9, [.ref a1, .int (iN 6), .ref a2, .int (iN 0), .ref a3])) :: (a3, .inl (9, 8, ra (fun _ => none))) :: (a1, mt9 0 5 0) :: ps) := Kp.pull [_, _] K24
  refine gi_aast dX7_init_65 (HAt.io (K25.at (k := 1) rfl)) rfl (by decide) rfl (by decide) ⟨by decide, by decide⟩ (HPut.io K25.hd) ?_
  refine gk_kput (e' := .inl (7, 4, ra (up (up (up (up (fun _ => none) 0 (some a4)) 1 (some a6)) 2 (some a8)) 3 (some a10)))) K25 (fun ι26 K26 => ?_)
  refine gg_iinc dX7_init_66 rfl (v := iN 4) (by decide) (by decide) rfl ?_
  refine gg_goto dX7_init_69 (tgt := 48) (by decide) ?_
  refine gg_iload_n dX7_init_48 rfl ?_
  refine gi_iconst dX7_init_49 ?_
  refine gi_icmp_ge dX7_init_50 (tgt := 72) (by decide) ⟨by decide, by decide⟩ ⟨by decide, by decide⟩ (fun _ => ?_) (fun z => absurd z (by decide))
  subst hQF9
  refine gg_vret dX7_init_72 rfl ⟨(Nat.le_of_ble_eq_true rfl), (Nat.le_of_ble_eq_true rfl)⟩ ?_
  have K27 : Kp ι0 ι26 ((q, .inr (9, [.ref a1, .int (iN 6), .ref a2, .int (iN 0), .ref a3])) :: (a2, .inl (7, 4, ra (up (up (up (up (fun _ => none) 0 (some a4)) 1 (some a6)) 2 (some a8)) 3 (some a10)))) :: (a10, .inr (2, [.ref a11, .int (iN 0)])) :: (a11, .inl (5, 10, ra (fun _ => none))) :: (a8, .inr (2, [.ref a9, .int (iN 0)])) :: (a9, .inl (5, 10, ra (fun _ => none))) :: (a6, .inr (2, [.ref a7, .int (iN 0)])) :: (a7, .inl (5, 10, ra (fun _ => none))) :: (a4, .inr (2, [.ref a5, .int (iN 0)])) :: (a5, .inl (5, 10, ra (fun _ => none))) :: (a3, .inl (9, 8, ra (fun _ => none))) :: (a1, mt9 0 5 0) :: ps) := Kp.pull [_, _, _, _, _, _, _, _, _] K26
  exact ⟨_, a1, a2, a3, a4, a5, a6, a7, a8, a9, a10, a11, rfl, rfl, K27⟩
