/-! the reference: metres read -/
theorem nm_r9 {j : Int} (h : 0 ≤ j ∧ j < 32) : 0 ≤ nmI j ∧ nmI j ≤ 122 := by
  have := (show ∀ j : Fin 32, 0 ≤ nmI (j.val : Int) ∧ nmI (j.val : Int) ≤ 122 by decide +kernel) ⟨j.toNat, by omega⟩
  rwa [show ((⟨j.toNat, by omega⟩ : Fin 32).val : Int) = j from Int.toNat_of_nonneg h.1] at this
theorem nm_n9 {c i : Int} (hc : 0 ≤ c ∧ c ≤ 3) (hi : 0 ≤ i ∧ i ≤ sln (c.toNat + 1)) : (i < sln (c.toNat + 1) → nmI (8 * c + i) = sby (c.toNat + 1) i ∧ nmI (8 * c + i) ≠ 0) ∧ (i = sln (c.toNat + 1) → nmI (8 * c + i) = 0) := by
  have h1 := sln_r ⟨c.toNat + 1, by omega⟩
  dsimp only at h1
  have := (show ∀ (c : Fin 4) (i : Fin 8), ((i.val : Int) < sln (c.val + 1) → nmI (8 * (c.val : Int) + (i.val : Int)) = sby (c.val + 1) (i.val : Int) ∧ nmI (8 * (c.val : Int) + (i.val : Int)) ≠ 0) ∧ ((i.val : Int) = sln (c.val + 1) → nmI (8 * (c.val : Int) + (i.val : Int)) = 0) by decide +kernel) ⟨c.toNat, by omega⟩ ⟨i.toNat, by omega⟩
  dsimp only at this
  rwa [Int.toNat_of_nonneg hc.1, Int.toNat_of_nonneg hi.1] at this
theorem nm_k9 : nmI (8 * 0) = 105 ∧ nmI (8 * 1) = 116 ∧ nmI (8 * 2) = 97 ∧ nmI (8 * 3) = 100 := by decide +kernel
theorem kF_nm {c k : Int} (hk : 0 ≤ k ∧ k ≤ 3) (h : c = nmI (8 * k)) : kF c = k := by
  obtain ⟨h0, h1, h2, h3⟩ := nm_k9
  rcases (show k = 0 ∨ k = 1 ∨ k = 2 ∨ k = 3 by omega) with rfl | rfl | rfl | rfl
  · rw [h, h0]; rfl
  · rw [h, h1]; rfl
  · rw [h, h2]; rfl
  · rw [h, h3]; rfl
theorem kF_no {c : Int} (h : ∀ j, 0 ≤ j → j < 4 → c ≠ nmI (8 * j)) : kF c < 0 := by
  obtain ⟨h0, h1, h2, h3⟩ := nm_k9
  have a0 := h 0 (by decide) (by decide)
  have a1 := h 1 (by decide) (by decide)
  have a2 := h 2 (by decide) (by decide)
  have a3 := h 3 (by decide) (by decide)
  rw [h0] at a0; rw [h1] at a1; rw [h2] at a2; rw [h3] at a3
  unfold kF
  rw [if_neg a0, if_neg a1, if_neg a2, if_neg a3]; decide
set_option maxRecDepth 100000 in
set_option maxHeartbeats 4000000 in
theorem c_X10_readMetre {Γ : GT} {h : XH} {F : Nat → Int} {A : Nat → Int → Int} (h5 : 0 ≤ F 5 ∧ F 5 ≤ 8) (h8 : 0 ≤ F 8 ∧ F 8 ≤ 60) (h10 : InR (F 10)) (i4 : ∀ i, 0 ≤ i ∧ i < F 8 → 0 ≤ A 5 i ∧ A 5 i < 65536) : Ct Γ M_X10_readMetre [.ref (g_L Γ 0)] (mst Γ h F A) (fun r h9 => ((pMt (A 5) (F 8)).1 = false ∧ r = some (.int (iN 0)) ∧ h9 = mst Γ h (uF (uF (uF (uF (uF (uF F 0 1) 9 (pMt (A 5) (F 8)).2.1) 8 0) 10 (pMt (A 5) (F 8)).2.1) 11 1) 12 (F 8)) A) ∨ ((pMt (A 5) (F 8)).1 = true ∧ ((0 ≤ (pMt (A 5) (F 8)).2.2.1 ∧ (pMt (A 5) (F 8)).2.2.1 ≤ 3) ∧ (2 ≤ (pMt (A 5) (F 8)).2.2.2.1 ∧ (pMt (A 5) (F 8)).2.2.2.1 ≤ 6) ∧ 0 ≤ (pMt (A 5) (F 8)).2.2.2.2 ∧ (pMt (A 5) (F 8)).2.2.2.2 < (pMt (A 5) (F 8)).2.2.2.1) ∧ r = some (.int (iN ((pMt (A 5) (F 8)).2.2.2.1 * szk (pMt (A 5) (F 8)).2.2.1))) ∧ h9 = mst Γ h (uF (uF (uF (uF (uF (uF F 0 0) 9 (pMt (A 5) (F 8)).2.1) 8 0) 11 0) 12 (F 8)) 5 (kc (F 5))) (uA (uA A 1 (up (up (up (A 1) 0 (pMt (A 5) (F 8)).2.2.1) 1 (pMt (A 5) (F 8)).2.2.2.1) 2 (pMt (A 5) (F 8)).2.2.2.2)) 4 (kA A (F 5))))) (fun _ _ => False) := by
  refine Ct.of rfl (by decide +kernel) (Nat.le_of_ble_eq_true rfl) ?_
  generalize hQF9 : QM Γ _ _ _ = QF9
  have hs0 : (sgn (uF (uF (uF F 0 0) 9 0) 11 0) A) = if 0 < F 8 then A 5 0 else -1 := by
    by_cases q : 0 < F 8
    · simp only [sgn, uF_s, uF_n, uF_ss, uF_cc, id_eq, ne_eq, not_false_eq_true, Nat.reduceEqDiff, Nat.reduceLT, reduceCtorEq]; rw [if_pos ⟨trivial, q⟩, if_pos q]
    · simp only [sgn, uF_s, uF_n, uF_ss, uF_cc, id_eq, ne_eq, not_false_eq_true, Nat.reduceEqDiff, Nat.reduceLT, reduceCtorEq]; rw [if_neg (fun z => q z.2), if_neg q]
  have s0r : -1 ≤ (sgn (uF (uF (uF F 0 0) 9 0) 11 0) A) ∧ (sgn (uF (uF (uF F 0 0) 9 0) 11 0) A) < 65536 := by
    rw [hs0]; split
    · rename_i q; have := i4 0 ⟨by omega, q⟩; omega
    · omega
  refine gg_aload_n dX10_readMetre_0 rfl rfl ?_
  refine gc_X10_174 rfl dX10_readMetre_1 ⟨(Nat.le_of_ble_eq_true rfl), (Nat.le_of_ble_eq_true rfl)⟩ ⟨(Nat.le_of_ble_eq_true rfl), (Nat.le_of_ble_eq_true rfl)⟩ (Nat.le_of_ble_eq_true rfl) (HAt.mu rfl) (c_X10_begins) (fun _ _ w => w.elim) (fun r_1 h_1 hp => ?_)
  obtain ⟨rfl, rfl⟩ := hp
  refine gi_iconst dX10_readMetre_4 ?_
  refine gg_istore_n dX10_readMetre_5 (Nat.le_of_ble_eq_true rfl) rfl ?_
  have L_6 : ∀ (n9 : Nat) (k : Int), ((4 - k).toNat) = n9 → ∀ (hk : 0 ≤ k ∧ k ≤ 4) (hne : ∀ j : Int, 0 ≤ j → j < k → (sgn (uF (uF (uF F 0 0) 9 0) 11 0) A) ≠ nmI (8 * j)), GG Γ M_X10_readMetre QF9 (0, 0) (mst Γ h (uF (uF (uF F 0 0) 9 0) 11 0) A) 6 [some (.ref (g_L Γ 0)), some (.int (iN k)), none, none] [] := by
    intro n9
    induction n9 using Nat.strongRecOn with
    | ind n9 ih_6 => 
      intro k hm9 hk hne
      refine gg_iload_n dX10_readMetre_6 rfl ?_
      refine gi_iconst dX10_readMetre_7 ?_
      refine gi_icmp_ge (tgt := 32) dX10_readMetre_8 (by decide) ⟨by omega, by omega⟩ ⟨by omega, by omega⟩ (fun c_8 => ?_) (fun c_8 => ?_)
      · refine gg_aload_n dX10_readMetre_32 rfl rfl ?_
        refine gg_iload_n dX10_readMetre_33 rfl ?_
        refine gi_iconst dX10_readMetre_34 ?_
        refine gi_icmp_ne (tgt := 42) dX10_readMetre_35 (by decide) ⟨by omega, by omega⟩ ⟨by omega, by omega⟩ (fun c_35 => ?_) (fun c_35 => ?_)
        · exact absurd c_35 (by omega)
        · refine gi_iconst dX10_readMetre_38 ?_
          refine gg_goto (tgt := 43) dX10_readMetre_39 (by decide) ?_
          refine gm_put45 rfl dX10_readMetre_43 (by omega) (by (try simp only [uF_ss, uF_cc, id_eq, Nat.reduceLT, reduceCtorEq]); rfl) ?_
          refine gi_iconst dX10_readMetre_46 ?_
          refine gg_istore_n dX10_readMetre_47 (Nat.le_of_ble_eq_true rfl) rfl ?_
          have L_48 : ∀ (n9 : Nat) (i av ev kd : Int), ((7 - i).toNat) = n9 → ∀ (ha : 0 ≤ av ∧ av ≤ F 8) (he : ev = 0 ∨ ev = 1) (hi : 0 ≤ i ∧ i ≤ 7) (hkd : 0 ≤ kd ∧ kd ≤ 4) (J : ((ev = 1 ∧ kd = 4 ∧ (F 8 ≤ 0 ∨ (kF (A 5 0)) < 0) ∧ av = 0) ∨ (0 < F 8 ∧ (0 ≤ (kF (A 5 0)) ∧ (kF (A 5 0)) ≤ 3) ∧ kd = (kF (A 5 0)) ∧ i ≤ (pmL (A 5)) ∧ ((ev = 0 ∧ av = i ∧ i + mtS ((kF (A 5 0)).toNat + 1) (A 5) (F 8) ((pmL (A 5)) - i).toNat i i = (pmM (A 5) (F 8))) ∨ (ev = 1 ∧ av = (pmM (A 5) (F 8)) ∧ (pmM (A 5) (F 8)) < (pmL (A 5))))))), GG Γ M_X10_readMetre QF9 (0, 0) (mst Γ h (uF (uF (uF F 0 0) 9 av) 11 ev) A) 48 [some (.ref (g_L Γ 0)), some (.int (iN kd)), some (.int (iN i)), none] [] := by
            intro n9
            induction n9 using Nat.strongRecOn with
            | ind n9 ih_48 => 
              intro i av ev kd hm9 ha he hi hkd J
              have L_88 : ∀ (av ev kd : Int) (ha : 0 ≤ av ∧ av ≤ F 8) (he : ev = 0 ∨ ev = 1) (J : ((ev = 1 ∧ (pMt (A 5) (F 8)).1 = false ∧ av = (pMt (A 5) (F 8)).2.1) ∨ (ev = 0 ∧ (0 < F 8 ∧ (0 ≤ (kF (A 5 0)) ∧ (kF (A 5 0)) ≤ 3) ∧ kd = (kF (A 5 0)) ∧ (pmM (A 5) (F 8)) = (pmL (A 5))) ∧ av = (pmM (A 5) (F 8))))), GG Γ M_X10_readMetre QF9 (0, 0) (mst Γ h (uF (uF (uF F 0 0) 9 av) 11 ev) A) 88 [some (.ref (g_L Γ 0)), some (.int (iN kd)), none, none] [] := by
                intro av ev kd ha he J
                have L_94 : ∀ (av ev kd : Int) (ha : 0 ≤ av ∧ av ≤ F 8) (he : ev = 0 ∨ ev = 1) (J : ((ev = 1 ∧ (pMt (A 5) (F 8)).1 = false ∧ av = (pMt (A 5) (F 8)).2.1) ∨ (ev = 0 ∧ (0 < F 8 ∧ (0 ≤ (kF (A 5 0)) ∧ (kF (A 5 0)) ≤ 3) ∧ kd = (kF (A 5 0)) ∧ (pmM (A 5) (F 8)) = (pmL (A 5))) ∧ av = (pmM (A 5) (F 8)) + 1 ∧ (pmM (A 5) (F 8)) < F 8 ∧ A 5 (pmM (A 5) (F 8)) = 32))), GG Γ M_X10_readMetre QF9 (0, 0) (mst Γ h (uF (uF (uF F 0 0) 9 av) 11 ev) A) 94 [some (.ref (g_L Γ 0)), some (.int (iN kd)), none, none] [] := by
                  intro av ev kd ha he J
                  have L_104 : ∀ (av ev kd ft : Int) (ha : 0 ≤ av ∧ av ≤ F 8) (he : ev = 0 ∨ ev = 1) (J : (((ev = 1 ∧ (pMt (A 5) (F 8)).1 = false ∧ av = (pMt (A 5) (F 8)).2.1) ∧ ft = 0) ∨ (ev = 0 ∧ (0 < F 8 ∧ (0 ≤ (kF (A 5 0)) ∧ (kF (A 5 0)) ≤ 3) ∧ kd = (kF (A 5 0)) ∧ (pmM (A 5) (F 8)) = (pmL (A 5))) ∧ av = (pmM (A 5) (F 8)) + 1 + 1 ∧ (pmM (A 5) (F 8)) < F 8 ∧ A 5 (pmM (A 5) (F 8)) = 32 ∧ (pmM (A 5) (F 8)) + 1 < F 8 ∧ 50 ≤ A 5 ((pmM (A 5) (F 8)) + 1) ∧ A 5 ((pmM (A 5) (F 8)) + 1) ≤ 54 ∧ ft = A 5 ((pmM (A 5) (F 8)) + 1) - 48))), GG Γ M_X10_readMetre QF9 (0, 0) (mst Γ h (uF (uF (uF F 0 0) 9 av) 11 ev) A) 104 [some (.ref (g_L Γ 0)), some (.int (iN kd)), some (.int (iN ft)), some (.int (iN 0))] [] := by
                    intro av ev kd ft ha he J
                    have L_132 : ∀ (av ev kd ft cs : Int) (ha : 0 ≤ av ∧ av ≤ F 8) (he : ev = 0 ∨ ev = 1) (J : ((ev = 1 ∧ (pMt (A 5) (F 8)).1 = false ∧ av = (pMt (A 5) (F 8)).2.1) ∨ (ev = 0 ∧ (pMt (A 5) (F 8)) = (if av < F 8 then (false, av, 0, 0, 0) else (true, av, kd, ft, cs)) ∧ (0 ≤ kd ∧ kd ≤ 3) ∧ (2 ≤ ft ∧ ft ≤ 6) ∧ 0 ≤ cs ∧ cs < ft))), GG Γ M_X10_readMetre QF9 (0, 0) (mst Γ h (uF (uF (uF F 0 0) 9 av) 11 ev) A) 132 [some (.ref (g_L Γ 0)), some (.int (iN kd)), some (.int (iN ft)), some (.int (iN cs))] [] := by
                      intro av ev kd ft cs ha he J
                      refine gg_aload_n dX10_readMetre_132 rfl rfl ?_
                      refine gc_X10_180 rfl dX10_readMetre_133 ⟨(Nat.le_of_ble_eq_true rfl), (Nat.le_of_ble_eq_true rfl)⟩ ⟨(Nat.le_of_ble_eq_true rfl), (Nat.le_of_ble_eq_true rfl)⟩ (Nat.le_of_ble_eq_true rfl) (HAt.mu rfl) (c_X10_isWrong (F := (uF (uF (uF F 0 0) 9 av) 11 ev)) (A := A) (by refine ⟨?_, ?_, ?_, ?_⟩ <;> (try simp only [uF_s, uF_n, uF_ss, uF_cc, id_eq, ne_eq, not_false_eq_true, Nat.reduceEqDiff, Nat.reduceLT, reduceCtorEq]) <;> first | omega | assumption | exact Or.inl trivial) (by simp only [uF_s, uF_n, uF_ss, uF_cc, id_eq, ne_eq, not_false_eq_true, Nat.reduceEqDiff, Nat.reduceLT, reduceCtorEq]; exact h10)) (fun _ _ w => w.elim) (fun r_133 h_133 hp => ?_)
                      simp only [uF_s, uF_n, uF_ss, uF_cc, id_eq, ne_eq, not_false_eq_true, Nat.reduceEqDiff, Nat.reduceLT, reduceCtorEq] at hp
                      rcases hp with ⟨x1, rfl, rfl⟩ | ⟨x1, rfl, rfl⟩
                      · refine gi_if_eq (tgt := 145) dX10_readMetre_136 (by decide) ⟨by omega, by omega⟩ (fun c_136 => ?_) (fun c_136 => ?_)
                        · refine gg_aload_n dX10_readMetre_145 rfl rfl ?_
                          refine gg_iload_n dX10_readMetre_146 rfl ?_
                          refine gg_iload_n dX10_readMetre_147 rfl ?_
                          refine gg_iload_n dX10_readMetre_148 rfl ?_
                          refine gc_X10_190 rfl dX10_readMetre_149 ⟨(Nat.le_of_ble_eq_true rfl), (Nat.le_of_ble_eq_true rfl)⟩ ⟨(Nat.le_of_ble_eq_true rfl), (Nat.le_of_ble_eq_true rfl)⟩ (Nat.le_of_ble_eq_true rfl) (HAt.mu rfl) (c_X10_becomes (by simp only [uF_s, uF_n, uF_ss, uF_cc, id_eq, ne_eq, not_false_eq_true, Nat.reduceEqDiff, Nat.reduceLT, reduceCtorEq]; exact h5)) (fun _ _ w => w.elim) (fun r_149 h_149 hp => ?_)
                          obtain ⟨rfl, rfl⟩ := hp
                          simp only [uF_s, uF_n, uF_ss, uF_cc, id_eq, ne_eq, not_false_eq_true, Nat.reduceEqDiff, Nat.reduceLT, reduceCtorEq, uA_s, uA_n, uA_ss, uA_cc, id_eq, ne_eq, not_false_eq_true, Nat.reduceEqDiff, Nat.reduceLT, reduceCtorEq]
                          refine gg_iload_n dX10_readMetre_152 rfl ?_
                          refine gg_iload_n dX10_readMetre_153 rfl ?_
                          refine gc_X10_205 rfl dX10_readMetre_154 ⟨(Nat.le_of_ble_eq_true rfl), (Nat.le_of_ble_eq_true rfl)⟩ ⟨(Nat.le_of_ble_eq_true rfl), (Nat.le_of_ble_eq_true rfl)⟩ (Nat.le_of_ble_eq_true rfl) (c2_sizeOf ⟨by omega, by omega⟩) (fun _ _ w => w.elim) (fun r_154 h_154 hp => ?_)
                          obtain ⟨rfl, rfl⟩ := hp
                          refine gi_imul dX10_readMetre_157 ?_
                          subst hQF9
                          refine gg_iret dX10_readMetre_158 rfl rfl ⟨(Nat.le_of_ble_eq_true rfl), (Nat.le_of_ble_eq_true rfl)⟩ ?_
                          right
                          rcases J with j | ⟨j1, j2, j3, j4, j5⟩
                          · exact absurd (Or.inl j.1) x1
                          · rw [if_neg (by omega)] at j2
                            rw [j2]
                            refine ⟨rfl, ⟨j3, j4, j5⟩, rfl, ?_⟩
                            simp only [uF_s, uF_n, uF_ss, uF_cc, id_eq, ne_eq, not_false_eq_true, Nat.reduceEqDiff, Nat.reduceLT, reduceCtorEq]
                        · exact absurd c_136 (by decide)
                      · refine gi_if_eq (tgt := 145) dX10_readMetre_136 (by decide) ⟨by omega, by omega⟩ (fun c_136 => ?_) (fun c_136 => ?_)
                        · exact absurd c_136 (by decide)
                        · refine gg_aload_n dX10_readMetre_139 rfl rfl ?_
                          refine gi_iconst dX10_readMetre_140 ?_
                          refine gc_X10_162 rfl dX10_readMetre_141 ⟨(Nat.le_of_ble_eq_true rfl), (Nat.le_of_ble_eq_true rfl)⟩ ⟨(Nat.le_of_ble_eq_true rfl), (Nat.le_of_ble_eq_true rfl)⟩ (Nat.le_of_ble_eq_true rfl) (HAt.mu rfl) (c_X10_fails) (fun _ _ w => w.elim) (fun r_141 h_141 hp => ?_)
                          obtain ⟨rfl, rfl⟩ := hp
                          subst hQF9
                          refine gg_iret dX10_readMetre_144 rfl rfl ⟨(Nat.le_of_ble_eq_true rfl), (Nat.le_of_ble_eq_true rfl)⟩ ?_
                          left
                          have hb : (pMt (A 5) (F 8)).1 = false ∧ av = (pMt (A 5) (F 8)).2.1 := by
                            rcases J with j | ⟨j1, j2, _⟩
                            · exact j.2
                            · rw [j2, if_pos (by omega)]; exact ⟨rfl, rfl⟩
                          refine ⟨hb.1, rfl, ?_⟩
                          rw [← hb.2]; simp only [uF_s, uF_n, uF_ss, uF_cc, id_eq, ne_eq, not_false_eq_true, Nat.reduceEqDiff, Nat.reduceLT, reduceCtorEq]
                    refine gg_aload_n dX10_readMetre_104 rfl rfl ?_
                    refine gc_X10_166 rfl dX10_readMetre_105 ⟨(Nat.le_of_ble_eq_true rfl), (Nat.le_of_ble_eq_true rfl)⟩ ⟨(Nat.le_of_ble_eq_true rfl), (Nat.le_of_ble_eq_true rfl)⟩ (Nat.le_of_ble_eq_true rfl) (HAt.mu rfl) (c_X10_sign (F := (uF (uF (uF F 0 0) 9 av) 11 ev)) (A := A) (by refine ⟨?_, ?_, ?_, ?_⟩ <;> (try simp only [uF_s, uF_n, uF_ss, uF_cc, id_eq, ne_eq, not_false_eq_true, Nat.reduceEqDiff, Nat.reduceLT, reduceCtorEq]) <;> first | omega | assumption | exact Or.inl trivial)) (fun _ _ w => w.elim) (fun r_105 h_105 hp => ?_)
                    obtain ⟨rfl, rfl⟩ := hp
                    refine gi_bipush dX10_readMetre_108 (by decide) ?_
                    have sv : sgn (uF (uF (uF F 0 0) 9 av) 11 ev) A = if ev = 0 ∧ av < F 8 then A 5 av else -1 := by simp only [sgn, uF_s, uF_n, uF_ss, uF_cc, id_eq, ne_eq, not_false_eq_true, Nat.reduceEqDiff, Nat.reduceLT, reduceCtorEq]
                    have srr : -1 ≤ sgn (uF (uF (uF F 0 0) 9 av) 11 ev) A ∧ sgn (uF (uF (uF F 0 0) 9 av) 11 ev) A < 65536 := by
                      rw [sv]; split
                      · rename_i q; have := i4 av ⟨by omega, q.2⟩; omega
                      · omega
                    refine gi_icmp_ne (tgt := 132) dX10_readMetre_110 (by decide) ⟨by omega, by omega⟩ ⟨by omega, by omega⟩ (fun c_110 => ?_) (fun c_110 => ?_)
                    · refine L_132 av ev kd ft 0 ha he ?_
                      rcases J with j | ⟨k0, ok, k1, k2, k3, k4, k5, k6, k7⟩
                      · exact Or.inl j.1
                      · obtain ⟨hn0, hkr, hkd, hm⟩ := ok
                        have nk : ¬ ((pmM (A 5) (F 8)) + 1 + 1 < F 8 ∧ A 5 ((pmM (A 5) (F 8)) + 1 + 1) = 47) := fun z => by
                          rw [if_pos ⟨k0, by omega⟩] at sv; exact c_110 (by rw [sv, k1]; exact z.2)
                        refine Or.inr ⟨k0, ?_, by omega, by omega, by omega, by omega⟩
                        unfold pMt; rw [if_neg (show ¬ (F 8 ≤ 0 ∨ (kF (A 5 0)) < 0) by omega), if_neg (show ¬ (pmM (A 5) (F 8)) ≠ (pmL (A 5)) from fun z => z hm), if_neg (fun z => z ⟨k2, k3⟩), if_neg (fun z => z ⟨k4, k5, k6⟩), if_neg nk, ← k1, ← k7, ← hkd]
                    · have c9 : ev = 0 ∧ av < F 8 := by
                        by_cases q : ev = 0 ∧ av < F 8
                        · exact q
                        · rw [if_neg q] at sv; omega
                      rw [if_pos c9] at sv
                      have J2 : ev = 0 ∧ (0 < F 8 ∧ (0 ≤ (kF (A 5 0)) ∧ (kF (A 5 0)) ≤ 3) ∧ kd = (kF (A 5 0)) ∧ (pmM (A 5) (F 8)) = (pmL (A 5))) ∧ av = (pmM (A 5) (F 8)) + 1 + 1 ∧ (pmM (A 5) (F 8)) < F 8 ∧ A 5 (pmM (A 5) (F 8)) = 32 ∧ (pmM (A 5) (F 8)) + 1 < F 8 ∧ 50 ≤ A 5 ((pmM (A 5) (F 8)) + 1) ∧ A 5 ((pmM (A 5) (F 8)) + 1) ≤ 54 ∧ ft = A 5 ((pmM (A 5) (F 8)) + 1) - 48 := by
                        rcases J with j | j
                        · omega
                        · exact j
                      obtain ⟨k0, ok, k1, k2, k3, k4, k5, k6, k7⟩ := J2
                      obtain ⟨hn0, hkr, hkd, hm⟩ := ok
                      refine gg_aload_n dX10_readMetre_113 rfl rfl ?_
                      refine gg_dup dX10_readMetre_114 rfl ?_
                      refine gm_get39 rfl dX10_readMetre_115 (by (try simp only [uF_s, uF_n, ne_eq, not_false_eq_true, Nat.reduceEqDiff, reduceCtorEq]); rfl) ?_
                      refine gi_iconst dX10_readMetre_118 ?_
                      refine gi_iadd dX10_readMetre_119 ?_
                      refine gm_put39 rfl dX10_readMetre_120 (by (try simp only [uF_ss, uF_cc, id_eq, Nat.reduceLT, reduceCtorEq]); rfl) ?_
                      refine gg_aload_n dX10_readMetre_123 rfl rfl ?_
                      refine gi_iconst dX10_readMetre_124 ?_
                      refine gg_iload_n dX10_readMetre_125 rfl ?_
                      refine gi_iconst dX10_readMetre_126 ?_
                      refine gi_isub dX10_readMetre_127 ?_
                      refine gc_X10_201 rfl dX10_readMetre_128 ⟨(Nat.le_of_ble_eq_true rfl), (Nat.le_of_ble_eq_true rfl)⟩ ⟨(Nat.le_of_ble_eq_true rfl), (Nat.le_of_ble_eq_true rfl)⟩ (Nat.le_of_ble_eq_true rfl) (HAt.mu rfl) (c_X10_digit (F := uF (uF (uF F 0 0) 9 (av + 1)) 11 ev) (A := A) (by refine ⟨?_, ?_, ?_, ?_⟩ <;> (try simp only [uF_s, uF_n, uF_ss, uF_cc, id_eq, ne_eq, not_false_eq_true, Nat.reduceEqDiff, Nat.reduceLT, reduceCtorEq]) <;> first | omega | assumption | exact Or.inl trivial) (a := 1) (b := ft - 1) ⟨by omega, by omega⟩ ⟨by omega, by omega⟩) (fun _ _ w => w.elim) (fun r_128 h_128 hp => ?_)
                      have sw : sgn (uF (uF (uF F 0 0) 9 (av + 1)) 11 ev) A = if av + 1 < F 8 then A 5 (av + 1) else -1 := by
                        simp only [sgn, uF_s, uF_n, uF_ss, uF_cc, id_eq, ne_eq, not_false_eq_true, Nat.reduceEqDiff, Nat.reduceLT, reduceCtorEq]
                        by_cases q : av + 1 < F 8
                        · rw [if_pos ⟨k0, q⟩, if_pos q]
                        · rw [if_neg (fun z => q z.2), if_neg q]
                      simp only [uF_s, uF_n, uF_ss, uF_cc, id_eq, ne_eq, not_false_eq_true, Nat.reduceEqDiff, Nat.reduceLT, reduceCtorEq] at hp
                      rcases hp with ⟨d1, d2, rfl, rfl⟩ | ⟨d1, rfl, rfl⟩
                      · refine gg_istore_n dX10_readMetre_131 (Nat.le_of_ble_eq_true rfl) rfl ?_
                        have q8 : av + 1 < F 8 := by
                          by_cases q8 : av + 1 < F 8
                          · exact q8
                          · rw [sw, if_neg q8] at d1; omega
                        rw [sw, if_pos q8] at d1 d2
                        refine gg_conv (L_132 (av + 1 + 1) ev kd ft (A 5 (av + 1) - 48) (by omega) he ?_) rfl (by rw [sw, if_pos q8]; rfl) rfl
                        refine Or.inr ⟨k0, ?_, by omega, by omega, by omega, by omega⟩
                        unfold pMt; rw [if_neg (show ¬ (F 8 ≤ 0 ∨ (kF (A 5 0)) < 0) by omega), if_neg (show ¬ (pmM (A 5) (F 8)) ≠ (pmL (A 5)) from fun z => z hm), if_neg (fun z => z ⟨k2, k3⟩), if_neg (fun z => z ⟨k4, k5, k6⟩), if_pos (show (pmM (A 5) (F 8)) + 1 + 1 < F 8 ∧ A 5 ((pmM (A 5) (F 8)) + 1 + 1) = 47 by rw [← k1]; omega), if_neg (fun z => z (show (pmM (A 5) (F 8)) + 1 + 1 + 1 < F 8 ∧ 49 ≤ A 5 ((pmM (A 5) (F 8)) + 1 + 1 + 1) ∧ A 5 ((pmM (A 5) (F 8)) + 1 + 1 + 1) ≤ 48 + (A 5 ((pmM (A 5) (F 8)) + 1) - 48 - 1) by rw [← k1]; omega)), ← k1, ← k7, ← hkd]
                      · refine gg_istore_n dX10_readMetre_131 (Nat.le_of_ble_eq_true rfl) rfl ?_
                        refine gg_conv (L_132 (av + 1) 1 kd ft 0 (by omega) (Or.inr rfl) (Or.inl ?_)) rfl rfl rfl
                        have ep : (pMt (A 5) (F 8)) = (false, (pmM (A 5) (F 8)) + 1 + 1 + 1, 0, 0, 0) := by
                          unfold pMt; rw [if_neg (show ¬ (F 8 ≤ 0 ∨ (kF (A 5 0)) < 0) by omega), if_neg (show ¬ (pmM (A 5) (F 8)) ≠ (pmL (A 5)) from fun z => z hm), if_neg (fun z => z ⟨k2, k3⟩), if_neg (fun z => z ⟨k4, k5, k6⟩), if_pos (show (pmM (A 5) (F 8)) + 1 + 1 < F 8 ∧ A 5 ((pmM (A 5) (F 8)) + 1 + 1) = 47 by rw [← k1]; omega), if_pos]
                          intro z; rw [← k1] at z; apply d1; rw [sw, if_pos z.1]; omega
                        rw [ep]; exact ⟨rfl, rfl, by rw [k1]⟩
                  refine gg_aload_n dX10_readMetre_94 rfl rfl ?_
                  refine gi_iconst dX10_readMetre_95 ?_
                  refine gi_bipush dX10_readMetre_96 (by decide) ?_
                  refine gc_X10_201 rfl dX10_readMetre_98 ⟨(Nat.le_of_ble_eq_true rfl), (Nat.le_of_ble_eq_true rfl)⟩ ⟨(Nat.le_of_ble_eq_true rfl), (Nat.le_of_ble_eq_true rfl)⟩ (Nat.le_of_ble_eq_true rfl) (HAt.mu rfl) (c_X10_digit (F := (uF (uF (uF F 0 0) 9 av) 11 ev)) (A := A) (by refine ⟨?_, ?_, ?_, ?_⟩ <;> (try simp only [uF_s, uF_n, uF_ss, uF_cc, id_eq, ne_eq, not_false_eq_true, Nat.reduceEqDiff, Nat.reduceLT, reduceCtorEq]) <;> first | omega | assumption | exact Or.inl trivial) (a := 2) (b := 6) ⟨by omega, by omega⟩ ⟨by omega, by omega⟩) (fun _ _ w => w.elim) (fun r_98 h_98 hp => ?_)
                  have sv : sgn (uF (uF (uF F 0 0) 9 av) 11 ev) A = if ev = 0 ∧ av < F 8 then A 5 av else -1 := by simp only [sgn, uF_s, uF_n, uF_ss, uF_cc, id_eq, ne_eq, not_false_eq_true, Nat.reduceEqDiff, Nat.reduceLT, reduceCtorEq]
                  simp only [uF_s, uF_n, uF_ss, uF_cc, id_eq, ne_eq, not_false_eq_true, Nat.reduceEqDiff, Nat.reduceLT, reduceCtorEq] at hp
                  rcases hp with ⟨d1, d2, rfl, rfl⟩ | ⟨d1, rfl, rfl⟩
                  · refine gg_istore_n dX10_readMetre_101 (Nat.le_of_ble_eq_true rfl) rfl ?_
                    refine gi_iconst dX10_readMetre_102 ?_
                    refine gg_istore_n dX10_readMetre_103 (Nat.le_of_ble_eq_true rfl) rfl ?_
                    have q9 : ev = 0 ∧ av < F 8 := by
                      by_cases q8 : ev = 0 ∧ av < F 8
                      · exact q8
                      · rw [sv, if_neg q8] at d1; omega
                    rw [sv, if_pos q9] at d1 d2
                    rcases J with j | ⟨j1, ok, j3, j4, j5⟩
                    · omega
                    · refine gg_conv (L_104 (av + 1) ev kd (A 5 av - 48) (by omega) he (Or.inr ⟨j1, ok, by omega, j4, j5, by omega, ?_, ?_, ?_⟩)) rfl (by rw [sv, if_pos q9]; rfl) rfl
                      · rw [← j3]; omega
                      · rw [← j3]; omega
                      · rw [← j3]
                  · refine gg_istore_n dX10_readMetre_101 (Nat.le_of_ble_eq_true rfl) rfl ?_
                    refine gi_iconst dX10_readMetre_102 ?_
                    refine gg_istore_n dX10_readMetre_103 (Nat.le_of_ble_eq_true rfl) rfl ?_
                    refine gg_conv (L_104 av 1 kd 0 ha (Or.inr rfl) (Or.inl ⟨?_, rfl⟩)) rfl rfl rfl
                    rcases J with j | ⟨j1, ok, j3, j4, j5⟩
                    · exact ⟨rfl, j.2⟩
                    · obtain ⟨hn0, hkr, hkd, hm⟩ := ok
                      have ep : (pMt (A 5) (F 8)) = (false, (pmM (A 5) (F 8)) + 1, 0, 0, 0) := by
                        unfold pMt; rw [if_neg (show ¬ (F 8 ≤ 0 ∨ (kF (A 5 0)) < 0) by omega), if_neg (show ¬ (pmM (A 5) (F 8)) ≠ (pmL (A 5)) from fun z => z hm), if_neg (fun z => z ⟨j4, j5⟩), if_pos]
                        intro z; apply d1; rw [sv, if_pos ⟨j1, by omega⟩, j3]; omega
                      rw [ep]; exact ⟨rfl, rfl, j3⟩
                refine gg_aload_n dX10_readMetre_88 rfl rfl ?_
                refine gi_bipush dX10_readMetre_89 (by decide) ?_
                refine gc_X10_197 rfl dX10_readMetre_91 ⟨(Nat.le_of_ble_eq_true rfl), (Nat.le_of_ble_eq_true rfl)⟩ ⟨(Nat.le_of_ble_eq_true rfl), (Nat.le_of_ble_eq_true rfl)⟩ (Nat.le_of_ble_eq_true rfl) (HAt.mu rfl) (c_X10_takes (F := (uF (uF (uF F 0 0) 9 av) 11 ev)) (A := A) (by refine ⟨?_, ?_, ?_, ?_⟩ <;> (try simp only [uF_s, uF_n, uF_ss, uF_cc, id_eq, ne_eq, not_false_eq_true, Nat.reduceEqDiff, Nat.reduceLT, reduceCtorEq]) <;> first | omega | assumption | exact Or.inl trivial) (c := 32) ⟨by omega, by omega⟩) (fun _ _ w => w.elim) (fun r_91 h_91 hp => ?_)
                obtain ⟨rfl, rfl⟩ := hp
                simp only [uF_s, uF_n, uF_ss, uF_cc, id_eq, ne_eq, not_false_eq_true, Nat.reduceEqDiff, Nat.reduceLT, reduceCtorEq]
                refine gg_drop 2 ?_
                refine gg_drop 3 ?_
                have sv : sgn (uF (uF (uF F 0 0) 9 av) 11 ev) A = if ev = 0 ∧ av < F 8 then A 5 av else -1 := by simp only [sgn, uF_s, uF_n, uF_ss, uF_cc, id_eq, ne_eq, not_false_eq_true, Nat.reduceEqDiff, Nat.reduceLT, reduceCtorEq]
                by_cases q : sgn (uF (uF (uF F 0 0) 9 av) 11 ev) A = 32
                · have q9 : ev = 0 ∧ av < F 8 := by
                    by_cases q8 : ev = 0 ∧ av < F 8
                    · exact q8
                    · rw [if_neg q8] at sv; omega
                  rw [if_pos q9, q] at sv
                  rcases J with j | ⟨j1, ok, j3⟩
                  · omega
                  · refine gg_conv (L_94 (av + 1) ev kd (by omega) he (Or.inr ⟨j1, ok, by omega, by omega, by rw [← j3]; exact sv.symm⟩)) (by rw [if_pos q]) rfl rfl
                · refine gg_conv (L_94 av 1 kd ha (Or.inr rfl) (Or.inl ?_)) (by rw [if_neg q]) rfl rfl
                  rcases J with j | ⟨j1, ok, j3⟩
                  · exact ⟨rfl, j.2⟩
                  · obtain ⟨hn0, hkr, hkd, hm⟩ := ok
                    have ep : (pMt (A 5) (F 8)) = (false, (pmM (A 5) (F 8)), 0, 0, 0) := by
                      unfold pMt; rw [if_neg (show ¬ (F 8 ≤ 0 ∨ (kF (A 5 0)) < 0) by omega), if_neg (show ¬ (pmM (A 5) (F 8)) ≠ (pmL (A 5)) from fun z => z hm), if_pos]
                      intro z; apply q; rw [sv, if_pos ⟨j1, by omega⟩, j3]; exact z.2
                    rw [ep]; exact ⟨rfl, rfl, j3⟩
              refine gg_aload_n dX10_readMetre_48 rfl rfl ?_
              refine gm_get45 rfl dX10_readMetre_49 (by (try simp only [uF_s, uF_n, ne_eq, not_false_eq_true, Nat.reduceEqDiff, reduceCtorEq]); rfl) ?_
              refine gi_if_ne (tgt := 88) dX10_readMetre_52 (by decide) ⟨by omega, by omega⟩ (fun c_52 => ?_) (fun c_52 => ?_)
              · refine gg_drop 2 ?_
                refine gg_drop 3 ?_
                refine L_88 av ev kd ha he ?_
                left
                rcases J with ⟨j1, j2, j3, j4⟩ | ⟨j1, j2, j3, j4, ⟨j5, j6, j7⟩ | ⟨j5, j6, j7⟩⟩
                · have ep : (pMt (A 5) (F 8)) = (false, 0, 0, 0, 0) := by unfold pMt; rw [if_pos j3]
                  rw [ep]; exact ⟨j1, rfl, j4⟩
                · omega
                · have ep : (pMt (A 5) (F 8)) = (false, (pmM (A 5) (F 8)), 0, 0, 0) := by unfold pMt; rw [if_neg (show ¬ (F 8 ≤ 0 ∨ (kF (A 5 0)) < 0) by omega), if_pos (by omega)]
                  rw [ep]; exact ⟨j5, rfl, j6⟩
              · refine gs_X10_194 rfl dX10_readMetre_55 ?_
                refine gi_bipush dX10_readMetre_58 (by decide) ?_
                refine gg_iload_n dX10_readMetre_60 rfl ?_
                refine gi_imul dX10_readMetre_61 ?_
                refine gg_iload_n dX10_readMetre_62 rfl ?_
                refine gi_iadd dX10_readMetre_63 ?_
                have hb : 0 ≤ kd ∧ kd ≤ 3 := by rcases J with j | j <;> omega
                refine gg_nmld dX10_readMetre_64 ⟨by omega, by omega⟩ ?_
                have nm := nm_r9 (j := 8 * kd + i) ⟨by omega, by omega⟩
                refine gi_if_eq (tgt := 88) dX10_readMetre_65 (by decide) ⟨by omega, by omega⟩ (fun c_65 => ?_) (fun c_65 => ?_)
                · refine gg_drop 2 ?_
                  refine gg_drop 3 ?_
                  refine L_88 av ev kd ha he ?_
                  right
                  rcases J with ⟨j1, j2, j3, j4⟩ | ⟨j1, j2, j3, j4, ⟨j5, j6, j7⟩ | ⟨j5, j6, j7⟩⟩
                  · omega
                  · have nn := nm_n9 (c := kd) (i := i) hb (by rw [j3]; exact ⟨hi.1, j4⟩)
                    have el : i = (pmL (A 5)) := by
                      by_cases q : i < sln (kd.toNat + 1)
                      · exact absurd c_65 (nn.1 q).2
                      · rw [j3] at q; have : sln ((kF (A 5 0)).toNat + 1) = (pmL (A 5)) := rfl; omega
                    rw [el, Int.sub_self] at j7
                    have j8 : (pmL (A 5)) + 0 = (pmM (A 5) (F 8)) := j7
                    exact ⟨j5, ⟨j1, j2, j3, by omega⟩, by omega⟩
                  · omega
                · refine gg_aload_n dX10_readMetre_68 rfl rfl ?_
                  refine gs_X10_194 rfl dX10_readMetre_69 ?_
                  refine gi_bipush dX10_readMetre_72 (by decide) ?_
                  refine gg_iload_n dX10_readMetre_74 rfl ?_
                  refine gi_imul dX10_readMetre_75 ?_
                  refine gg_iload_n dX10_readMetre_76 rfl ?_
                  refine gi_iadd dX10_readMetre_77 ?_
                  refine gg_nmld dX10_readMetre_78 ⟨by omega, by omega⟩ ?_
                  refine gc_X10_197 rfl dX10_readMetre_79 ⟨(Nat.le_of_ble_eq_true rfl), (Nat.le_of_ble_eq_true rfl)⟩ ⟨(Nat.le_of_ble_eq_true rfl), (Nat.le_of_ble_eq_true rfl)⟩ (Nat.le_of_ble_eq_true rfl) (HAt.mu rfl) (c_X10_takes (F := (uF (uF (uF F 0 0) 9 av) 11 ev)) (A := A) (by refine ⟨?_, ?_, ?_, ?_⟩ <;> (try simp only [uF_s, uF_n, uF_ss, uF_cc, id_eq, ne_eq, not_false_eq_true, Nat.reduceEqDiff, Nat.reduceLT, reduceCtorEq]) <;> first | omega | assumption | exact Or.inl trivial) (c := nmI (8 * kd + i)) ⟨by omega, by omega⟩) (fun _ _ w => w.elim) (fun r_79 h_79 hp => ?_)
                  obtain ⟨rfl, rfl⟩ := hp
                  simp only [uF_s, uF_n, uF_ss, uF_cc, id_eq, ne_eq, not_false_eq_true, Nat.reduceEqDiff, Nat.reduceLT, reduceCtorEq]
                  refine gi_iinc dX10_readMetre_82 rfl (Nat.le_of_ble_eq_true rfl) rfl ?_
                  refine gg_goto (tgt := 48) dX10_readMetre_85 (by decide) ?_
                  refine gg_drop 3 ?_
                  rcases J with ⟨j1, j2, j3, j4⟩ | ⟨j1, j2, j3, j4, ⟨j5, j6, j7⟩ | ⟨j5, j6, j7⟩⟩
                  · omega
                  · have nn := nm_n9 (c := kd) (i := i) hb (by rw [j3]; exact ⟨hi.1, j4⟩)
                    have el : i < (pmL (A 5)) := by
                      by_cases q : i = sln (kd.toNat + 1)
                      · exact absurd (nn.2 q) c_65
                      · rw [j3] at q; have : sln ((kF (A 5 0)).toNat + 1) = (pmL (A 5)) := rfl; omega
                    have nb := (nn.1 (by rw [j3]; exact el)).1
                    have sv : sgn (uF (uF (uF F 0 0) 9 av) 11 ev) A = if ev = 0 ∧ av < F 8 then A 5 av else -1 := by simp only [sgn, uF_s, uF_n, uF_ss, uF_cc, id_eq, ne_eq, not_false_eq_true, Nat.reduceEqDiff, Nat.reduceLT, reduceCtorEq]
                    have lr := sln_r ⟨((kF (A 5 0)).toNat + 1), by omega⟩
                    have lr2 : (pmL (A 5)) ≤ 7 := lr.2
                    rw [show ((pmL (A 5)) - i).toNat = ((pmL (A 5)) - (i + 1)).toNat + 1 by omega, mtS] at j7
                    by_cases q : sgn (uF (uF (uF F 0 0) 9 av) 11 ev) A = nmI (8 * kd + i)
                    · have q9 : ev = 0 ∧ av < F 8 := by
                        by_cases q8 : ev = 0 ∧ av < F 8
                        · exact q8
                        · rw [if_neg q8] at sv; omega
                      rw [if_pos q9, q, nb, j3] at sv
                      rw [if_pos ⟨by omega, by rw [sv, j6]⟩] at j7
                      refine gg_conv (ih_48 _ (by omega) (i + 1) (av + 1) ev kd rfl (by omega) he (by omega) hkd (Or.inr ⟨j1, j2, j3, by omega, Or.inl ⟨j5, by omega, by omega⟩⟩)) (by rw [if_pos q]) rfl rfl
                    · have q9 : ¬ (i < F 8 ∧ A 5 i = sby ((kF (A 5 0)).toNat + 1) i) := fun z => by
                        rw [if_pos ⟨j5, by omega⟩] at sv; apply q; rw [sv, nb, j6, z.2, j3]
                      rw [if_neg q9] at j7
                      refine gg_conv (ih_48 _ (by omega) (i + 1) av 1 kd rfl ha (Or.inr rfl) (by omega) hkd (Or.inr ⟨j1, j2, j3, by omega, Or.inr ⟨rfl, by omega, by omega⟩⟩)) (by rw [if_neg q]) rfl rfl
                  · omega
          refine gg_drop 3 ?_
          refine gg_conv (L_48 _ 0 0 1 4 rfl (by omega) (Or.inr rfl) (by omega) (by omega) (Or.inl ⟨rfl, rfl, ?_, rfl⟩)) rfl (by rw [show k = 4 by omega]; rfl) rfl
          by_cases q : F 8 ≤ 0
          · exact Or.inl q
          · refine Or.inr (kF_no (fun j j0 j1 => ?_))
            have := hne j j0 (by omega)
            rw [hs0, if_pos (by omega)] at this; exact this
      · refine gg_aload_n dX10_readMetre_11 rfl rfl ?_
        refine gc_X10_166 rfl dX10_readMetre_12 ⟨(Nat.le_of_ble_eq_true rfl), (Nat.le_of_ble_eq_true rfl)⟩ ⟨(Nat.le_of_ble_eq_true rfl), (Nat.le_of_ble_eq_true rfl)⟩ (Nat.le_of_ble_eq_true rfl) (HAt.mu rfl) (c_X10_sign (F := (uF (uF (uF F 0 0) 9 0) 11 0)) (A := A) (by refine ⟨?_, ?_, ?_, ?_⟩ <;> (try simp only [uF_s, uF_n, uF_ss, uF_cc, id_eq, ne_eq, not_false_eq_true, Nat.reduceEqDiff, Nat.reduceLT, reduceCtorEq]) <;> first | omega | assumption | exact Or.inl trivial)) (fun _ _ w => w.elim) (fun r_12 h_12 hp => ?_)
        obtain ⟨rfl, rfl⟩ := hp
        refine gs_X10_194 rfl dX10_readMetre_15 ?_
        refine gi_bipush dX10_readMetre_18 (by decide) ?_
        refine gg_iload_n dX10_readMetre_20 rfl ?_
        refine gi_imul dX10_readMetre_21 ?_
        refine gg_nmld dX10_readMetre_22 ⟨by omega, by omega⟩ ?_
        have nm := nm_r9 (j := 8 * k) ⟨by omega, by omega⟩
        refine gi_icmp_eq (tgt := 32) dX10_readMetre_23 (by decide) ⟨by omega, by omega⟩ ⟨by omega, by omega⟩ (fun c_23 => ?_) (fun c_23 => ?_)
        · refine gg_aload_n dX10_readMetre_32 rfl rfl ?_
          refine gg_iload_n dX10_readMetre_33 rfl ?_
          refine gi_iconst dX10_readMetre_34 ?_
          refine gi_icmp_ne (tgt := 42) dX10_readMetre_35 (by decide) ⟨by omega, by omega⟩ ⟨by omega, by omega⟩ (fun c_35 => ?_) (fun c_35 => ?_)
          · refine gi_iconst dX10_readMetre_42 ?_
            refine gm_put45 rfl dX10_readMetre_43 (by omega) (by (try simp only [uF_ss, uF_cc, id_eq, Nat.reduceLT, reduceCtorEq]); rfl) ?_
            refine gi_iconst dX10_readMetre_46 ?_
            refine gg_istore_n dX10_readMetre_47 (Nat.le_of_ble_eq_true rfl) rfl ?_
            have L_48 : ∀ (n9 : Nat) (i av ev kd : Int), ((7 - i).toNat) = n9 → ∀ (ha : 0 ≤ av ∧ av ≤ F 8) (he : ev = 0 ∨ ev = 1) (hi : 0 ≤ i ∧ i ≤ 7) (hkd : 0 ≤ kd ∧ kd ≤ 4) (J : ((ev = 1 ∧ kd = 4 ∧ (F 8 ≤ 0 ∨ (kF (A 5 0)) < 0) ∧ av = 0) ∨ (0 < F 8 ∧ (0 ≤ (kF (A 5 0)) ∧ (kF (A 5 0)) ≤ 3) ∧ kd = (kF (A 5 0)) ∧ i ≤ (pmL (A 5)) ∧ ((ev = 0 ∧ av = i ∧ i + mtS ((kF (A 5 0)).toNat + 1) (A 5) (F 8) ((pmL (A 5)) - i).toNat i i = (pmM (A 5) (F 8))) ∨ (ev = 1 ∧ av = (pmM (A 5) (F 8)) ∧ (pmM (A 5) (F 8)) < (pmL (A 5))))))), GG Γ M_X10_readMetre QF9 (0, 0) (mst Γ h (uF (uF (uF F 0 0) 9 av) 11 ev) A) 48 [some (.ref (g_L Γ 0)), some (.int (iN kd)), some (.int (iN i)), none] [] := by
              intro n9
              induction n9 using Nat.strongRecOn with
              | ind n9 ih_48 => 
                intro i av ev kd hm9 ha he hi hkd J
                have L_88 : ∀ (av ev kd : Int) (ha : 0 ≤ av ∧ av ≤ F 8) (he : ev = 0 ∨ ev = 1) (J : ((ev = 1 ∧ (pMt (A 5) (F 8)).1 = false ∧ av = (pMt (A 5) (F 8)).2.1) ∨ (ev = 0 ∧ (0 < F 8 ∧ (0 ≤ (kF (A 5 0)) ∧ (kF (A 5 0)) ≤ 3) ∧ kd = (kF (A 5 0)) ∧ (pmM (A 5) (F 8)) = (pmL (A 5))) ∧ av = (pmM (A 5) (F 8))))), GG Γ M_X10_readMetre QF9 (0, 0) (mst Γ h (uF (uF (uF F 0 0) 9 av) 11 ev) A) 88 [some (.ref (g_L Γ 0)), some (.int (iN kd)), none, none] [] := by
                  intro av ev kd ha he J
                  have L_94 : ∀ (av ev kd : Int) (ha : 0 ≤ av ∧ av ≤ F 8) (he : ev = 0 ∨ ev = 1) (J : ((ev = 1 ∧ (pMt (A 5) (F 8)).1 = false ∧ av = (pMt (A 5) (F 8)).2.1) ∨ (ev = 0 ∧ (0 < F 8 ∧ (0 ≤ (kF (A 5 0)) ∧ (kF (A 5 0)) ≤ 3) ∧ kd = (kF (A 5 0)) ∧ (pmM (A 5) (F 8)) = (pmL (A 5))) ∧ av = (pmM (A 5) (F 8)) + 1 ∧ (pmM (A 5) (F 8)) < F 8 ∧ A 5 (pmM (A 5) (F 8)) = 32))), GG Γ M_X10_readMetre QF9 (0, 0) (mst Γ h (uF (uF (uF F 0 0) 9 av) 11 ev) A) 94 [some (.ref (g_L Γ 0)), some (.int (iN kd)), none, none] [] := by
                    intro av ev kd ha he J
                    have L_104 : ∀ (av ev kd ft : Int) (ha : 0 ≤ av ∧ av ≤ F 8) (he : ev = 0 ∨ ev = 1) (J : (((ev = 1 ∧ (pMt (A 5) (F 8)).1 = false ∧ av = (pMt (A 5) (F 8)).2.1) ∧ ft = 0) ∨ (ev = 0 ∧ (0 < F 8 ∧ (0 ≤ (kF (A 5 0)) ∧ (kF (A 5 0)) ≤ 3) ∧ kd = (kF (A 5 0)) ∧ (pmM (A 5) (F 8)) = (pmL (A 5))) ∧ av = (pmM (A 5) (F 8)) + 1 + 1 ∧ (pmM (A 5) (F 8)) < F 8 ∧ A 5 (pmM (A 5) (F 8)) = 32 ∧ (pmM (A 5) (F 8)) + 1 < F 8 ∧ 50 ≤ A 5 ((pmM (A 5) (F 8)) + 1) ∧ A 5 ((pmM (A 5) (F 8)) + 1) ≤ 54 ∧ ft = A 5 ((pmM (A 5) (F 8)) + 1) - 48))), GG Γ M_X10_readMetre QF9 (0, 0) (mst Γ h (uF (uF (uF F 0 0) 9 av) 11 ev) A) 104 [some (.ref (g_L Γ 0)), some (.int (iN kd)), some (.int (iN ft)), some (.int (iN 0))] [] := by
                      intro av ev kd ft ha he J
                      have L_132 : ∀ (av ev kd ft cs : Int) (ha : 0 ≤ av ∧ av ≤ F 8) (he : ev = 0 ∨ ev = 1) (J : ((ev = 1 ∧ (pMt (A 5) (F 8)).1 = false ∧ av = (pMt (A 5) (F 8)).2.1) ∨ (ev = 0 ∧ (pMt (A 5) (F 8)) = (if av < F 8 then (false, av, 0, 0, 0) else (true, av, kd, ft, cs)) ∧ (0 ≤ kd ∧ kd ≤ 3) ∧ (2 ≤ ft ∧ ft ≤ 6) ∧ 0 ≤ cs ∧ cs < ft))), GG Γ M_X10_readMetre QF9 (0, 0) (mst Γ h (uF (uF (uF F 0 0) 9 av) 11 ev) A) 132 [some (.ref (g_L Γ 0)), some (.int (iN kd)), some (.int (iN ft)), some (.int (iN cs))] [] := by
                        intro av ev kd ft cs ha he J
                        refine gg_aload_n dX10_readMetre_132 rfl rfl ?_
                        refine gc_X10_180 rfl dX10_readMetre_133 ⟨(Nat.le_of_ble_eq_true rfl), (Nat.le_of_ble_eq_true rfl)⟩ ⟨(Nat.le_of_ble_eq_true rfl), (Nat.le_of_ble_eq_true rfl)⟩ (Nat.le_of_ble_eq_true rfl) (HAt.mu rfl) (c_X10_isWrong (F := (uF (uF (uF F 0 0) 9 av) 11 ev)) (A := A) (by refine ⟨?_, ?_, ?_, ?_⟩ <;> (try simp only [uF_s, uF_n, uF_ss, uF_cc, id_eq, ne_eq, not_false_eq_true, Nat.reduceEqDiff, Nat.reduceLT, reduceCtorEq]) <;> first | omega | assumption | exact Or.inl trivial) (by simp only [uF_s, uF_n, uF_ss, uF_cc, id_eq, ne_eq, not_false_eq_true, Nat.reduceEqDiff, Nat.reduceLT, reduceCtorEq]; exact h10)) (fun _ _ w => w.elim) (fun r_133 h_133 hp => ?_)
                        simp only [uF_s, uF_n, uF_ss, uF_cc, id_eq, ne_eq, not_false_eq_true, Nat.reduceEqDiff, Nat.reduceLT, reduceCtorEq] at hp
                        rcases hp with ⟨x1, rfl, rfl⟩ | ⟨x1, rfl, rfl⟩
                        · refine gi_if_eq (tgt := 145) dX10_readMetre_136 (by decide) ⟨by omega, by omega⟩ (fun c_136 => ?_) (fun c_136 => ?_)
                          · refine gg_aload_n dX10_readMetre_145 rfl rfl ?_
                            refine gg_iload_n dX10_readMetre_146 rfl ?_
                            refine gg_iload_n dX10_readMetre_147 rfl ?_
                            refine gg_iload_n dX10_readMetre_148 rfl ?_
                            refine gc_X10_190 rfl dX10_readMetre_149 ⟨(Nat.le_of_ble_eq_true rfl), (Nat.le_of_ble_eq_true rfl)⟩ ⟨(Nat.le_of_ble_eq_true rfl), (Nat.le_of_ble_eq_true rfl)⟩ (Nat.le_of_ble_eq_true rfl) (HAt.mu rfl) (c_X10_becomes (by simp only [uF_s, uF_n, uF_ss, uF_cc, id_eq, ne_eq, not_false_eq_true, Nat.reduceEqDiff, Nat.reduceLT, reduceCtorEq]; exact h5)) (fun _ _ w => w.elim) (fun r_149 h_149 hp => ?_)
                            obtain ⟨rfl, rfl⟩ := hp
                            simp only [uF_s, uF_n, uF_ss, uF_cc, id_eq, ne_eq, not_false_eq_true, Nat.reduceEqDiff, Nat.reduceLT, reduceCtorEq, uA_s, uA_n, uA_ss, uA_cc, id_eq, ne_eq, not_false_eq_true, Nat.reduceEqDiff, Nat.reduceLT, reduceCtorEq]
                            refine gg_iload_n dX10_readMetre_152 rfl ?_
                            refine gg_iload_n dX10_readMetre_153 rfl ?_
                            refine gc_X10_205 rfl dX10_readMetre_154 ⟨(Nat.le_of_ble_eq_true rfl), (Nat.le_of_ble_eq_true rfl)⟩ ⟨(Nat.le_of_ble_eq_true rfl), (Nat.le_of_ble_eq_true rfl)⟩ (Nat.le_of_ble_eq_true rfl) (c2_sizeOf ⟨by omega, by omega⟩) (fun _ _ w => w.elim) (fun r_154 h_154 hp => ?_)
                            obtain ⟨rfl, rfl⟩ := hp
                            refine gi_imul dX10_readMetre_157 ?_
                            subst hQF9
                            refine gg_iret dX10_readMetre_158 rfl rfl ⟨(Nat.le_of_ble_eq_true rfl), (Nat.le_of_ble_eq_true rfl)⟩ ?_
                            right
                            rcases J with j | ⟨j1, j2, j3, j4, j5⟩
                            · exact absurd (Or.inl j.1) x1
                            · rw [if_neg (by omega)] at j2
                              rw [j2]
                              refine ⟨rfl, ⟨j3, j4, j5⟩, rfl, ?_⟩
                              simp only [uF_s, uF_n, uF_ss, uF_cc, id_eq, ne_eq, not_false_eq_true, Nat.reduceEqDiff, Nat.reduceLT, reduceCtorEq]
                          · exact absurd c_136 (by decide)
                        · refine gi_if_eq (tgt := 145) dX10_readMetre_136 (by decide) ⟨by omega, by omega⟩ (fun c_136 => ?_) (fun c_136 => ?_)
                          · exact absurd c_136 (by decide)
                          · refine gg_aload_n dX10_readMetre_139 rfl rfl ?_
                            refine gi_iconst dX10_readMetre_140 ?_
                            refine gc_X10_162 rfl dX10_readMetre_141 ⟨(Nat.le_of_ble_eq_true rfl), (Nat.le_of_ble_eq_true rfl)⟩ ⟨(Nat.le_of_ble_eq_true rfl), (Nat.le_of_ble_eq_true rfl)⟩ (Nat.le_of_ble_eq_true rfl) (HAt.mu rfl) (c_X10_fails) (fun _ _ w => w.elim) (fun r_141 h_141 hp => ?_)
                            obtain ⟨rfl, rfl⟩ := hp
                            subst hQF9
                            refine gg_iret dX10_readMetre_144 rfl rfl ⟨(Nat.le_of_ble_eq_true rfl), (Nat.le_of_ble_eq_true rfl)⟩ ?_
                            left
                            have hb : (pMt (A 5) (F 8)).1 = false ∧ av = (pMt (A 5) (F 8)).2.1 := by
                              rcases J with j | ⟨j1, j2, _⟩
                              · exact j.2
                              · rw [j2, if_pos (by omega)]; exact ⟨rfl, rfl⟩
                            refine ⟨hb.1, rfl, ?_⟩
                            rw [← hb.2]; simp only [uF_s, uF_n, uF_ss, uF_cc, id_eq, ne_eq, not_false_eq_true, Nat.reduceEqDiff, Nat.reduceLT, reduceCtorEq]
                      refine gg_aload_n dX10_readMetre_104 rfl rfl ?_
                      refine gc_X10_166 rfl dX10_readMetre_105 ⟨(Nat.le_of_ble_eq_true rfl), (Nat.le_of_ble_eq_true rfl)⟩ ⟨(Nat.le_of_ble_eq_true rfl), (Nat.le_of_ble_eq_true rfl)⟩ (Nat.le_of_ble_eq_true rfl) (HAt.mu rfl) (c_X10_sign (F := (uF (uF (uF F 0 0) 9 av) 11 ev)) (A := A) (by refine ⟨?_, ?_, ?_, ?_⟩ <;> (try simp only [uF_s, uF_n, uF_ss, uF_cc, id_eq, ne_eq, not_false_eq_true, Nat.reduceEqDiff, Nat.reduceLT, reduceCtorEq]) <;> first | omega | assumption | exact Or.inl trivial)) (fun _ _ w => w.elim) (fun r_105 h_105 hp => ?_)
                      obtain ⟨rfl, rfl⟩ := hp
                      refine gi_bipush dX10_readMetre_108 (by decide) ?_
                      have sv : sgn (uF (uF (uF F 0 0) 9 av) 11 ev) A = if ev = 0 ∧ av < F 8 then A 5 av else -1 := by simp only [sgn, uF_s, uF_n, uF_ss, uF_cc, id_eq, ne_eq, not_false_eq_true, Nat.reduceEqDiff, Nat.reduceLT, reduceCtorEq]
                      have srr : -1 ≤ sgn (uF (uF (uF F 0 0) 9 av) 11 ev) A ∧ sgn (uF (uF (uF F 0 0) 9 av) 11 ev) A < 65536 := by
                        rw [sv]; split
                        · rename_i q; have := i4 av ⟨by omega, q.2⟩; omega
                        · omega
                      refine gi_icmp_ne (tgt := 132) dX10_readMetre_110 (by decide) ⟨by omega, by omega⟩ ⟨by omega, by omega⟩ (fun c_110 => ?_) (fun c_110 => ?_)
                      · refine L_132 av ev kd ft 0 ha he ?_
                        rcases J with j | ⟨k0, ok, k1, k2, k3, k4, k5, k6, k7⟩
                        · exact Or.inl j.1
                        · obtain ⟨hn0, hkr, hkd, hm⟩ := ok
                          have nk : ¬ ((pmM (A 5) (F 8)) + 1 + 1 < F 8 ∧ A 5 ((pmM (A 5) (F 8)) + 1 + 1) = 47) := fun z => by
                            rw [if_pos ⟨k0, by omega⟩] at sv; exact c_110 (by rw [sv, k1]; exact z.2)
                          refine Or.inr ⟨k0, ?_, by omega, by omega, by omega, by omega⟩
                          unfold pMt; rw [if_neg (show ¬ (F 8 ≤ 0 ∨ (kF (A 5 0)) < 0) by omega), if_neg (show ¬ (pmM (A 5) (F 8)) ≠ (pmL (A 5)) from fun z => z hm), if_neg (fun z => z ⟨k2, k3⟩), if_neg (fun z => z ⟨k4, k5, k6⟩), if_neg nk, ← k1, ← k7, ← hkd]
                      · have c9 : ev = 0 ∧ av < F 8 := by
                          by_cases q : ev = 0 ∧ av < F 8
                          · exact q
                          · rw [if_neg q] at sv; omega
                        rw [if_pos c9] at sv
                        have J2 : ev = 0 ∧ (0 < F 8 ∧ (0 ≤ (kF (A 5 0)) ∧ (kF (A 5 0)) ≤ 3) ∧ kd = (kF (A 5 0)) ∧ (pmM (A 5) (F 8)) = (pmL (A 5))) ∧ av = (pmM (A 5) (F 8)) + 1 + 1 ∧ (pmM (A 5) (F 8)) < F 8 ∧ A 5 (pmM (A 5) (F 8)) = 32 ∧ (pmM (A 5) (F 8)) + 1 < F 8 ∧ 50 ≤ A 5 ((pmM (A 5) (F 8)) + 1) ∧ A 5 ((pmM (A 5) (F 8)) + 1) ≤ 54 ∧ ft = A 5 ((pmM (A 5) (F 8)) + 1) - 48 := by
                          rcases J with j | j
                          · omega
                          · exact j
                        obtain ⟨k0, ok, k1, k2, k3, k4, k5, k6, k7⟩ := J2
                        obtain ⟨hn0, hkr, hkd, hm⟩ := ok
                        refine gg_aload_n dX10_readMetre_113 rfl rfl ?_
                        refine gg_dup dX10_readMetre_114 rfl ?_
                        refine gm_get39 rfl dX10_readMetre_115 (by (try simp only [uF_s, uF_n, ne_eq, not_false_eq_true, Nat.reduceEqDiff, reduceCtorEq]); rfl) ?_
                        refine gi_iconst dX10_readMetre_118 ?_
                        refine gi_iadd dX10_readMetre_119 ?_
                        refine gm_put39 rfl dX10_readMetre_120 (by (try simp only [uF_ss, uF_cc, id_eq, Nat.reduceLT, reduceCtorEq]); rfl) ?_
                        refine gg_aload_n dX10_readMetre_123 rfl rfl ?_
                        refine gi_iconst dX10_readMetre_124 ?_
                        refine gg_iload_n dX10_readMetre_125 rfl ?_
                        refine gi_iconst dX10_readMetre_126 ?_
                        refine gi_isub dX10_readMetre_127 ?_
                        refine gc_X10_201 rfl dX10_readMetre_128 ⟨(Nat.le_of_ble_eq_true rfl), (Nat.le_of_ble_eq_true rfl)⟩ ⟨(Nat.le_of_ble_eq_true rfl), (Nat.le_of_ble_eq_true rfl)⟩ (Nat.le_of_ble_eq_true rfl) (HAt.mu rfl) (c_X10_digit (F := uF (uF (uF F 0 0) 9 (av + 1)) 11 ev) (A := A) (by refine ⟨?_, ?_, ?_, ?_⟩ <;> (try simp only [uF_s, uF_n, uF_ss, uF_cc, id_eq, ne_eq, not_false_eq_true, Nat.reduceEqDiff, Nat.reduceLT, reduceCtorEq]) <;> first | omega | assumption | exact Or.inl trivial) (a := 1) (b := ft - 1) ⟨by omega, by omega⟩ ⟨by omega, by omega⟩) (fun _ _ w => w.elim) (fun r_128 h_128 hp => ?_)
                        have sw : sgn (uF (uF (uF F 0 0) 9 (av + 1)) 11 ev) A = if av + 1 < F 8 then A 5 (av + 1) else -1 := by
                          simp only [sgn, uF_s, uF_n, uF_ss, uF_cc, id_eq, ne_eq, not_false_eq_true, Nat.reduceEqDiff, Nat.reduceLT, reduceCtorEq]
                          by_cases q : av + 1 < F 8
                          · rw [if_pos ⟨k0, q⟩, if_pos q]
                          · rw [if_neg (fun z => q z.2), if_neg q]
                        simp only [uF_s, uF_n, uF_ss, uF_cc, id_eq, ne_eq, not_false_eq_true, Nat.reduceEqDiff, Nat.reduceLT, reduceCtorEq] at hp
                        rcases hp with ⟨d1, d2, rfl, rfl⟩ | ⟨d1, rfl, rfl⟩
                        · refine gg_istore_n dX10_readMetre_131 (Nat.le_of_ble_eq_true rfl) rfl ?_
                          have q8 : av + 1 < F 8 := by
                            by_cases q8 : av + 1 < F 8
                            · exact q8
                            · rw [sw, if_neg q8] at d1; omega
                          rw [sw, if_pos q8] at d1 d2
                          refine gg_conv (L_132 (av + 1 + 1) ev kd ft (A 5 (av + 1) - 48) (by omega) he ?_) rfl (by rw [sw, if_pos q8]; rfl) rfl
                          refine Or.inr ⟨k0, ?_, by omega, by omega, by omega, by omega⟩
                          unfold pMt; rw [if_neg (show ¬ (F 8 ≤ 0 ∨ (kF (A 5 0)) < 0) by omega), if_neg (show ¬ (pmM (A 5) (F 8)) ≠ (pmL (A 5)) from fun z => z hm), if_neg (fun z => z ⟨k2, k3⟩), if_neg (fun z => z ⟨k4, k5, k6⟩), if_pos (show (pmM (A 5) (F 8)) + 1 + 1 < F 8 ∧ A 5 ((pmM (A 5) (F 8)) + 1 + 1) = 47 by rw [← k1]; omega), if_neg (fun z => z (show (pmM (A 5) (F 8)) + 1 + 1 + 1 < F 8 ∧ 49 ≤ A 5 ((pmM (A 5) (F 8)) + 1 + 1 + 1) ∧ A 5 ((pmM (A 5) (F 8)) + 1 + 1 + 1) ≤ 48 + (A 5 ((pmM (A 5) (F 8)) + 1) - 48 - 1) by rw [← k1]; omega)), ← k1, ← k7, ← hkd]
                        · refine gg_istore_n dX10_readMetre_131 (Nat.le_of_ble_eq_true rfl) rfl ?_
                          refine gg_conv (L_132 (av + 1) 1 kd ft 0 (by omega) (Or.inr rfl) (Or.inl ?_)) rfl rfl rfl
                          have ep : (pMt (A 5) (F 8)) = (false, (pmM (A 5) (F 8)) + 1 + 1 + 1, 0, 0, 0) := by
                            unfold pMt; rw [if_neg (show ¬ (F 8 ≤ 0 ∨ (kF (A 5 0)) < 0) by omega), if_neg (show ¬ (pmM (A 5) (F 8)) ≠ (pmL (A 5)) from fun z => z hm), if_neg (fun z => z ⟨k2, k3⟩), if_neg (fun z => z ⟨k4, k5, k6⟩), if_pos (show (pmM (A 5) (F 8)) + 1 + 1 < F 8 ∧ A 5 ((pmM (A 5) (F 8)) + 1 + 1) = 47 by rw [← k1]; omega), if_pos]
                            intro z; rw [← k1] at z; apply d1; rw [sw, if_pos z.1]; omega
                          rw [ep]; exact ⟨rfl, rfl, by rw [k1]⟩
                    refine gg_aload_n dX10_readMetre_94 rfl rfl ?_
                    refine gi_iconst dX10_readMetre_95 ?_
                    refine gi_bipush dX10_readMetre_96 (by decide) ?_
                    refine gc_X10_201 rfl dX10_readMetre_98 ⟨(Nat.le_of_ble_eq_true rfl), (Nat.le_of_ble_eq_true rfl)⟩ ⟨(Nat.le_of_ble_eq_true rfl), (Nat.le_of_ble_eq_true rfl)⟩ (Nat.le_of_ble_eq_true rfl) (HAt.mu rfl) (c_X10_digit (F := (uF (uF (uF F 0 0) 9 av) 11 ev)) (A := A) (by refine ⟨?_, ?_, ?_, ?_⟩ <;> (try simp only [uF_s, uF_n, uF_ss, uF_cc, id_eq, ne_eq, not_false_eq_true, Nat.reduceEqDiff, Nat.reduceLT, reduceCtorEq]) <;> first | omega | assumption | exact Or.inl trivial) (a := 2) (b := 6) ⟨by omega, by omega⟩ ⟨by omega, by omega⟩) (fun _ _ w => w.elim) (fun r_98 h_98 hp => ?_)
                    have sv : sgn (uF (uF (uF F 0 0) 9 av) 11 ev) A = if ev = 0 ∧ av < F 8 then A 5 av else -1 := by simp only [sgn, uF_s, uF_n, uF_ss, uF_cc, id_eq, ne_eq, not_false_eq_true, Nat.reduceEqDiff, Nat.reduceLT, reduceCtorEq]
                    simp only [uF_s, uF_n, uF_ss, uF_cc, id_eq, ne_eq, not_false_eq_true, Nat.reduceEqDiff, Nat.reduceLT, reduceCtorEq] at hp
                    rcases hp with ⟨d1, d2, rfl, rfl⟩ | ⟨d1, rfl, rfl⟩
                    · refine gg_istore_n dX10_readMetre_101 (Nat.le_of_ble_eq_true rfl) rfl ?_
                      refine gi_iconst dX10_readMetre_102 ?_
                      refine gg_istore_n dX10_readMetre_103 (Nat.le_of_ble_eq_true rfl) rfl ?_
                      have q9 : ev = 0 ∧ av < F 8 := by
                        by_cases q8 : ev = 0 ∧ av < F 8
                        · exact q8
                        · rw [sv, if_neg q8] at d1; omega
                      rw [sv, if_pos q9] at d1 d2
                      rcases J with j | ⟨j1, ok, j3, j4, j5⟩
                      · omega
                      · refine gg_conv (L_104 (av + 1) ev kd (A 5 av - 48) (by omega) he (Or.inr ⟨j1, ok, by omega, j4, j5, by omega, ?_, ?_, ?_⟩)) rfl (by rw [sv, if_pos q9]; rfl) rfl
                        · rw [← j3]; omega
                        · rw [← j3]; omega
                        · rw [← j3]
                    · refine gg_istore_n dX10_readMetre_101 (Nat.le_of_ble_eq_true rfl) rfl ?_
                      refine gi_iconst dX10_readMetre_102 ?_
                      refine gg_istore_n dX10_readMetre_103 (Nat.le_of_ble_eq_true rfl) rfl ?_
                      refine gg_conv (L_104 av 1 kd 0 ha (Or.inr rfl) (Or.inl ⟨?_, rfl⟩)) rfl rfl rfl
                      rcases J with j | ⟨j1, ok, j3, j4, j5⟩
                      · exact ⟨rfl, j.2⟩
                      · obtain ⟨hn0, hkr, hkd, hm⟩ := ok
                        have ep : (pMt (A 5) (F 8)) = (false, (pmM (A 5) (F 8)) + 1, 0, 0, 0) := by
                          unfold pMt; rw [if_neg (show ¬ (F 8 ≤ 0 ∨ (kF (A 5 0)) < 0) by omega), if_neg (show ¬ (pmM (A 5) (F 8)) ≠ (pmL (A 5)) from fun z => z hm), if_neg (fun z => z ⟨j4, j5⟩), if_pos]
                          intro z; apply d1; rw [sv, if_pos ⟨j1, by omega⟩, j3]; omega
                        rw [ep]; exact ⟨rfl, rfl, j3⟩
                  refine gg_aload_n dX10_readMetre_88 rfl rfl ?_
                  refine gi_bipush dX10_readMetre_89 (by decide) ?_
                  refine gc_X10_197 rfl dX10_readMetre_91 ⟨(Nat.le_of_ble_eq_true rfl), (Nat.le_of_ble_eq_true rfl)⟩ ⟨(Nat.le_of_ble_eq_true rfl), (Nat.le_of_ble_eq_true rfl)⟩ (Nat.le_of_ble_eq_true rfl) (HAt.mu rfl) (c_X10_takes (F := (uF (uF (uF F 0 0) 9 av) 11 ev)) (A := A) (by refine ⟨?_, ?_, ?_, ?_⟩ <;> (try simp only [uF_s, uF_n, uF_ss, uF_cc, id_eq, ne_eq, not_false_eq_true, Nat.reduceEqDiff, Nat.reduceLT, reduceCtorEq]) <;> first | omega | assumption | exact Or.inl trivial) (c := 32) ⟨by omega, by omega⟩) (fun _ _ w => w.elim) (fun r_91 h_91 hp => ?_)
                  obtain ⟨rfl, rfl⟩ := hp
                  simp only [uF_s, uF_n, uF_ss, uF_cc, id_eq, ne_eq, not_false_eq_true, Nat.reduceEqDiff, Nat.reduceLT, reduceCtorEq]
                  refine gg_drop 2 ?_
                  refine gg_drop 3 ?_
                  have sv : sgn (uF (uF (uF F 0 0) 9 av) 11 ev) A = if ev = 0 ∧ av < F 8 then A 5 av else -1 := by simp only [sgn, uF_s, uF_n, uF_ss, uF_cc, id_eq, ne_eq, not_false_eq_true, Nat.reduceEqDiff, Nat.reduceLT, reduceCtorEq]
                  by_cases q : sgn (uF (uF (uF F 0 0) 9 av) 11 ev) A = 32
                  · have q9 : ev = 0 ∧ av < F 8 := by
                      by_cases q8 : ev = 0 ∧ av < F 8
                      · exact q8
                      · rw [if_neg q8] at sv; omega
                    rw [if_pos q9, q] at sv
                    rcases J with j | ⟨j1, ok, j3⟩
                    · omega
                    · refine gg_conv (L_94 (av + 1) ev kd (by omega) he (Or.inr ⟨j1, ok, by omega, by omega, by rw [← j3]; exact sv.symm⟩)) (by rw [if_pos q]) rfl rfl
                  · refine gg_conv (L_94 av 1 kd ha (Or.inr rfl) (Or.inl ?_)) (by rw [if_neg q]) rfl rfl
                    rcases J with j | ⟨j1, ok, j3⟩
                    · exact ⟨rfl, j.2⟩
                    · obtain ⟨hn0, hkr, hkd, hm⟩ := ok
                      have ep : (pMt (A 5) (F 8)) = (false, (pmM (A 5) (F 8)), 0, 0, 0) := by
                        unfold pMt; rw [if_neg (show ¬ (F 8 ≤ 0 ∨ (kF (A 5 0)) < 0) by omega), if_neg (show ¬ (pmM (A 5) (F 8)) ≠ (pmL (A 5)) from fun z => z hm), if_pos]
                        intro z; apply q; rw [sv, if_pos ⟨j1, by omega⟩, j3]; exact z.2
                      rw [ep]; exact ⟨rfl, rfl, j3⟩
                refine gg_aload_n dX10_readMetre_48 rfl rfl ?_
                refine gm_get45 rfl dX10_readMetre_49 (by (try simp only [uF_s, uF_n, ne_eq, not_false_eq_true, Nat.reduceEqDiff, reduceCtorEq]); rfl) ?_
                refine gi_if_ne (tgt := 88) dX10_readMetre_52 (by decide) ⟨by omega, by omega⟩ (fun c_52 => ?_) (fun c_52 => ?_)
                · refine gg_drop 2 ?_
                  refine gg_drop 3 ?_
                  refine L_88 av ev kd ha he ?_
                  left
                  rcases J with ⟨j1, j2, j3, j4⟩ | ⟨j1, j2, j3, j4, ⟨j5, j6, j7⟩ | ⟨j5, j6, j7⟩⟩
                  · have ep : (pMt (A 5) (F 8)) = (false, 0, 0, 0, 0) := by unfold pMt; rw [if_pos j3]
                    rw [ep]; exact ⟨j1, rfl, j4⟩
                  · omega
                  · have ep : (pMt (A 5) (F 8)) = (false, (pmM (A 5) (F 8)), 0, 0, 0) := by unfold pMt; rw [if_neg (show ¬ (F 8 ≤ 0 ∨ (kF (A 5 0)) < 0) by omega), if_pos (by omega)]
                    rw [ep]; exact ⟨j5, rfl, j6⟩
                · refine gs_X10_194 rfl dX10_readMetre_55 ?_
                  refine gi_bipush dX10_readMetre_58 (by decide) ?_
                  refine gg_iload_n dX10_readMetre_60 rfl ?_
                  refine gi_imul dX10_readMetre_61 ?_
                  refine gg_iload_n dX10_readMetre_62 rfl ?_
                  refine gi_iadd dX10_readMetre_63 ?_
                  have hb : 0 ≤ kd ∧ kd ≤ 3 := by rcases J with j | j <;> omega
                  refine gg_nmld dX10_readMetre_64 ⟨by omega, by omega⟩ ?_
                  have nm := nm_r9 (j := 8 * kd + i) ⟨by omega, by omega⟩
                  refine gi_if_eq (tgt := 88) dX10_readMetre_65 (by decide) ⟨by omega, by omega⟩ (fun c_65 => ?_) (fun c_65 => ?_)
                  · refine gg_drop 2 ?_
                    refine gg_drop 3 ?_
                    refine L_88 av ev kd ha he ?_
                    right
                    rcases J with ⟨j1, j2, j3, j4⟩ | ⟨j1, j2, j3, j4, ⟨j5, j6, j7⟩ | ⟨j5, j6, j7⟩⟩
                    · omega
                    · have nn := nm_n9 (c := kd) (i := i) hb (by rw [j3]; exact ⟨hi.1, j4⟩)
                      have el : i = (pmL (A 5)) := by
                        by_cases q : i < sln (kd.toNat + 1)
                        · exact absurd c_65 (nn.1 q).2
                        · rw [j3] at q; have : sln ((kF (A 5 0)).toNat + 1) = (pmL (A 5)) := rfl; omega
                      rw [el, Int.sub_self] at j7
                      have j8 : (pmL (A 5)) + 0 = (pmM (A 5) (F 8)) := j7
                      exact ⟨j5, ⟨j1, j2, j3, by omega⟩, by omega⟩
                    · omega
                  · refine gg_aload_n dX10_readMetre_68 rfl rfl ?_
                    refine gs_X10_194 rfl dX10_readMetre_69 ?_
                    refine gi_bipush dX10_readMetre_72 (by decide) ?_
                    refine gg_iload_n dX10_readMetre_74 rfl ?_
                    refine gi_imul dX10_readMetre_75 ?_
                    refine gg_iload_n dX10_readMetre_76 rfl ?_
                    refine gi_iadd dX10_readMetre_77 ?_
                    refine gg_nmld dX10_readMetre_78 ⟨by omega, by omega⟩ ?_
                    refine gc_X10_197 rfl dX10_readMetre_79 ⟨(Nat.le_of_ble_eq_true rfl), (Nat.le_of_ble_eq_true rfl)⟩ ⟨(Nat.le_of_ble_eq_true rfl), (Nat.le_of_ble_eq_true rfl)⟩ (Nat.le_of_ble_eq_true rfl) (HAt.mu rfl) (c_X10_takes (F := (uF (uF (uF F 0 0) 9 av) 11 ev)) (A := A) (by refine ⟨?_, ?_, ?_, ?_⟩ <;> (try simp only [uF_s, uF_n, uF_ss, uF_cc, id_eq, ne_eq, not_false_eq_true, Nat.reduceEqDiff, Nat.reduceLT, reduceCtorEq]) <;> first | omega | assumption | exact Or.inl trivial) (c := nmI (8 * kd + i)) ⟨by omega, by omega⟩) (fun _ _ w => w.elim) (fun r_79 h_79 hp => ?_)
                    obtain ⟨rfl, rfl⟩ := hp
                    simp only [uF_s, uF_n, uF_ss, uF_cc, id_eq, ne_eq, not_false_eq_true, Nat.reduceEqDiff, Nat.reduceLT, reduceCtorEq]
                    refine gi_iinc dX10_readMetre_82 rfl (Nat.le_of_ble_eq_true rfl) rfl ?_
                    refine gg_goto (tgt := 48) dX10_readMetre_85 (by decide) ?_
                    refine gg_drop 3 ?_
                    rcases J with ⟨j1, j2, j3, j4⟩ | ⟨j1, j2, j3, j4, ⟨j5, j6, j7⟩ | ⟨j5, j6, j7⟩⟩
                    · omega
                    · have nn := nm_n9 (c := kd) (i := i) hb (by rw [j3]; exact ⟨hi.1, j4⟩)
                      have el : i < (pmL (A 5)) := by
                        by_cases q : i = sln (kd.toNat + 1)
                        · exact absurd (nn.2 q) c_65
                        · rw [j3] at q; have : sln ((kF (A 5 0)).toNat + 1) = (pmL (A 5)) := rfl; omega
                      have nb := (nn.1 (by rw [j3]; exact el)).1
                      have sv : sgn (uF (uF (uF F 0 0) 9 av) 11 ev) A = if ev = 0 ∧ av < F 8 then A 5 av else -1 := by simp only [sgn, uF_s, uF_n, uF_ss, uF_cc, id_eq, ne_eq, not_false_eq_true, Nat.reduceEqDiff, Nat.reduceLT, reduceCtorEq]
                      have lr := sln_r ⟨((kF (A 5 0)).toNat + 1), by omega⟩
                      have lr2 : (pmL (A 5)) ≤ 7 := lr.2
                      rw [show ((pmL (A 5)) - i).toNat = ((pmL (A 5)) - (i + 1)).toNat + 1 by omega, mtS] at j7
                      by_cases q : sgn (uF (uF (uF F 0 0) 9 av) 11 ev) A = nmI (8 * kd + i)
                      · have q9 : ev = 0 ∧ av < F 8 := by
                          by_cases q8 : ev = 0 ∧ av < F 8
                          · exact q8
                          · rw [if_neg q8] at sv; omega
                        rw [if_pos q9, q, nb, j3] at sv
                        rw [if_pos ⟨by omega, by rw [sv, j6]⟩] at j7
                        refine gg_conv (ih_48 _ (by omega) (i + 1) (av + 1) ev kd rfl (by omega) he (by omega) hkd (Or.inr ⟨j1, j2, j3, by omega, Or.inl ⟨j5, by omega, by omega⟩⟩)) (by rw [if_pos q]) rfl rfl
                      · have q9 : ¬ (i < F 8 ∧ A 5 i = sby ((kF (A 5 0)).toNat + 1) i) := fun z => by
                          rw [if_pos ⟨j5, by omega⟩] at sv; apply q; rw [sv, nb, j6, z.2, j3]
                        rw [if_neg q9] at j7
                        refine gg_conv (ih_48 _ (by omega) (i + 1) av 1 kd rfl ha (Or.inr rfl) (by omega) hkd (Or.inr ⟨j1, j2, j3, by omega, Or.inr ⟨rfl, by omega, by omega⟩⟩)) (by rw [if_neg q]) rfl rfl
                    · omega
            refine gg_drop 3 ?_
            have n9 : 0 < F 8 := by
              by_cases q : 0 < F 8
              · exact q
              · rw [hs0, if_neg q] at c_23; omega
            rw [hs0, if_pos n9] at c_23
            have kk := kF_nm ⟨hk.1, by omega⟩ c_23
            refine gg_conv (L_48 _ 0 0 0 k rfl (by omega) (Or.inl rfl) (by omega) (by omega) (Or.inr ⟨n9, by omega, kk.symm, ?_, Or.inl ⟨rfl, rfl, ?_⟩⟩)) rfl rfl rfl
            · have := sln_r ⟨((kF (A 5 0)).toNat + 1), by omega⟩; show 0 ≤ sln ((kF (A 5 0)).toNat + 1); dsimp only at this; omega
            · rw [Int.zero_add, Int.sub_zero]; rfl
          · exact absurd c_35 (by omega)
        · refine gi_iinc dX10_readMetre_26 rfl (Nat.le_of_ble_eq_true rfl) rfl ?_
          refine gg_goto (tgt := 6) dX10_readMetre_29 (by decide) ?_
          refine gg_drop 2 ?_
          refine gg_drop 3 ?_
          refine ih_6 _ (by omega) (k + 1) rfl (by omega) (fun j j0 j1 => ?_)
          by_cases q : j = k
          · rw [q]; exact c_23
          · exact hne j j0 (by omega)
  refine gg_drop 2 ?_
  refine gg_drop 3 ?_
  exact L_6 _ 0 rfl (by omega) (fun j j0 j1 => by omega)
