/-! objects made: the loops of the class -/
/-- a state made -/
def stC (a : Nat → Nat) : List (Nat × XE) := [(a 0, .inr (9, [.ref (a 11), .int (iN 6), .ref (a 1), .int (iN 0), .ref (a 10)])), (a 1, .inl (7, 4, ra (up (up (up (up (fun _ => none) 0 (some (a 8))) 1 (some (a 6))) 2 (some (a 4))) 3 (some (a 2))))), (a 2, .inr (2, [.ref (a 3), .int (iN 0)])), (a 3, .inl (5, 10, ra (fun _ => none))), (a 4, .inr (2, [.ref (a 5), .int (iN 0)])), (a 5, .inl (5, 10, ra (fun _ => none))), (a 6, .inr (2, [.ref (a 7), .int (iN 0)])), (a 7, .inl (5, 10, ra (fun _ => none))), (a 8, .inr (2, [.ref (a 9), .int (iN 0)])), (a 9, .inl (5, 10, ra (fun _ => none))), (a 10, .inl (9, 8, ra (fun _ => none))), (a 11, mt9 0 5 0)]
theorem hist_step {Γ : GT} {QF : List Frame → Array Value → State → State → Prop} {cs : Nat × Nat} {hm ι0 ι : Nat → Option XE} {q hh cc : Nat} {ps : List (Nat × XE)} {f : Int → Option Nat} {fs : List Value} {C : XE} {i : Int} (K : Kp ι0 ι ((q, .inr (11, fs)) :: (hh, .inl (8, 8, ra f)) :: (cc, C) :: ps)) (hi : 0 ≤ i ∧ i < 8) (h1 : fs[1]? = some (.ref hh)) (cap : cs.1 + 12 ≤ 161 ∧ cs.2 + 72 ≤ 1336)
    (kk : ∀ (ι1 : Nat → Option XE) (a : Nat → Nat), Kp ι0 ι1 ((q, .inr (11, fs)) :: (hh, .inl (8, 8, ra (up f i (some (a 0))))) :: (cc, C) :: (stC a ++ ps)) → GG Γ M_X9_init QF (cs.1 + 12, cs.2 + 72) (hm, ι1) 133 [some (.ref q), some (.int (iN (i + 1))), none, none] []) : GG Γ M_X9_init QF cs (hm, ι) 133 [some (.ref q), some (.int (iN i)), none, none] [] := by
  refine gg_iload_n dX9_init_133 rfl ?_
  refine gg_aload_n dX9_init_134 rfl rfl ?_
  refine gf_X9_18 rfl dX9_init_135 (HAt.io K.hd) h1 ?_
  refine gi_alen dX9_init_138 (HAt.io (K.at (k := 1) rfl)) (by decide) ?_
  refine gi_icmp_ge dX9_init_139 (tgt := 161) (by decide) ⟨by omega, by omega⟩ ⟨by decide, by decide⟩ (fun z => absurd hi.2 (by simp only [Int.cast_ofNat_Int] at z; omega)) (fun _ => ?_)
  refine gg_aload_n dX9_init_142 rfl rfl ?_
  refine gf_X9_18 rfl dX9_init_143 (HAt.io K.hd) h1 ?_
  refine gg_iload_n dX9_init_146 rfl ?_
  refine gn_X9_16 rfl dX9_init_147 (by show cs.1 + 1 ≤ 161; omega) (by show cs.2 + 5 ≤ 1336; omega) (fun sa fa => ?_)
  refine gk_knew K fa.1 (fun ι1 K1 => ?_)
  refine gg_dup dX9_init_150 rfl ?_
  refine gc_X9_22 rfl dX9_init_151 ⟨(Nat.le_of_ble_eq_true rfl), (Nat.le_of_ble_eq_true rfl)⟩ ⟨by show cs.1 + 1 + 11 ≤ 161; omega, by show cs.2 + 5 + 67 ≤ 1336; omega⟩ (Nat.le_of_ble_eq_true rfl) (c_X7_init (hm := hm) K1) (fun _ _ z => z.elim) (fun r9 h9 hp => ?_)
  obtain ⟨ι2, w1, w2, w3, w4, w5, w6, w7, w8, w9, w10, w11, rfl, rfl, K2⟩ := hp
  have K3 := Kp.pull [_, _, _, _, _, _, _, _, _, _, _, _, _] K2
  refine gi_aast dX9_init_154 (HAt.io (K3.at (k := 1) rfl)) rfl (by decide) rfl (by decide) ⟨by omega, by omega⟩ (HPut.io K3.hd) ?_
  refine gk_kput K3 (fun ι3 K4 => ?_)
  have K5 := Kp.pull [_, _, _, _, _, _, _, _, _, _, _, _, _, _] K4
  have K6 := Kp.pull [_] K5
  have K7 := Kp.pull [_, _, _, _, _, _, _, _, _, _, _, _, _, _] K6
  refine gi_iinc dX9_init_155 rfl (by decide) rfl ?_
  refine gg_goto dX9_init_158 (tgt := 133) (by decide) ?_
  exact kk ι3 (tbL [(0, sa), (1, w2), (2, w10), (3, w11), (4, w8), (5, w9), (6, w6), (7, w7), (8, w4), (9, w5), (10, w3), (11, w1)]) K7
theorem cand_step {Γ : GT} {QF : List Frame → Array Value → State → State → Prop} {cs : Nat × Nat} {hm ι0 ι : Nat → Option XE} {q hh cc : Nat} {ps : List (Nat × XE)} {f : Int → Option Nat} {fs : List Value} {C : XE} {j k ft : Int} (K : Kp ι0 ι ((q, .inr (11, fs)) :: (cc, .inl (10, 20, ra f)) :: ps)) (hj : 0 ≤ j ∧ j < 20) (hk : 0 ≤ k ∧ k ≤ 3) (hf : 2 ≤ ft ∧ ft ≤ 6) (h1 : fs[5]? = some (.ref cc)) (cap : cs.1 + 1 ≤ 161 ∧ cs.2 + 7 ≤ 1336)
    (kk : ∀ (ι1 : Nat → Option XE) (a : Nat), Kp ι0 ι1 ((q, .inr (11, fs)) :: (cc, .inl (10, 20, ra (up f j (some a)))) :: (a, mt9 k ft 0) :: ps) → GG Γ M_X9_init QF (cs.1 + 1, cs.2 + 7) (hm, ι1) 172 [some (.ref q), some (.int (iN (j + 1))), some (.int (iN k)), some (.int (iN (ft + 1)))] []) : GG Γ M_X9_init QF cs (hm, ι) 172 [some (.ref q), some (.int (iN j)), some (.int (iN k)), some (.int (iN ft))] [] := by
  refine gg_iload_n dX9_init_172 rfl ?_
  refine gi_bipush dX9_init_173 rfl ?_
  refine gi_icmp_gt dX9_init_175 (tgt := 212) (by decide) ⟨by omega, by omega⟩ ⟨by decide, by decide⟩ (fun z => absurd z (by omega)) (fun _ => ?_)
  refine gg_iload_n dX9_init_178 rfl ?_
  refine gg_aload_n dX9_init_179 rfl rfl ?_
  refine gf_X9_45 rfl dX9_init_180 (HAt.io K.hd) h1 ?_
  refine gi_alen dX9_init_183 (HAt.io (K.at (k := 1) rfl)) (by decide) ?_
  refine gi_icmp_ge dX9_init_184 (tgt := 212) (by decide) ⟨by omega, by omega⟩ ⟨by decide, by decide⟩ (fun z => absurd hj.2 (by simp only [Int.cast_ofNat_Int] at z; omega)) (fun _ => ?_)
  refine gg_aload_n dX9_init_187 rfl rfl ?_
  refine gf_X9_45 rfl dX9_init_188 (HAt.io K.hd) h1 ?_
  refine gg_iload_n dX9_init_191 rfl ?_
  refine gn_X9_43 rfl dX9_init_192 (by show cs.1 + 1 ≤ 161; omega) (by show cs.2 + 7 ≤ 1336; omega) (fun sa fa => ?_)
  refine gk_knew K fa.1 (fun ι1 K1 => ?_)
  refine gg_dup dX9_init_195 rfl ?_
  refine gg_iload_n dX9_init_196 rfl ?_
  refine gg_iload_n dX9_init_197 rfl ?_
  refine gi_iconst dX9_init_198 ?_
  refine gc_X9_76 rfl dX9_init_199 ⟨(Nat.le_of_ble_eq_true rfl), (Nat.le_of_ble_eq_true rfl)⟩ ⟨by show cs.1 + 1 + 0 ≤ 161; omega, by show cs.2 + 7 + 0 ≤ 1336; omega⟩ (Nat.le_of_ble_eq_true rfl) (c_X4_init (h := (hm, ι1)) K1.hd (kd := k) (ft := ft) (c9 := 0) hk hf ⟨by omega, by omega⟩) (fun _ _ z => z.elim) (fun r9 h9 hp => ?_)
  obtain ⟨rfl, rfl⟩ := hp
  refine gk_kput (e' := mt9 k ft 0) K1 (fun ι2 K2 => ?_)
  have K3 := Kp.pull [_, _] K2
  refine gi_aast dX9_init_202 (HAt.io (K3.at (k := 1) rfl)) rfl (by decide) rfl (by decide) ⟨by omega, by omega⟩ (HPut.io K3.hd) ?_
  refine gk_kput K3 (fun ι3 K4 => ?_)
  have K5 := Kp.pull [_, _] K4
  refine gi_iinc dX9_init_203 rfl (by decide) rfl ?_
  refine gi_iinc dX9_init_206 rfl (by decide) rfl ?_
  refine gg_goto dX9_init_209 (tgt := 172) (by decide) ?_
  exact kk ι3 sa K5
