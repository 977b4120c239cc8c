/-! a word is made -/
theorem wF_l {f : Int → Int} {n : Int} (hn : 1 ≤ n) (h1 : 1 ≤ wN f n.toNat) : wF f (fun _ => 0) n.toNat (wN f n.toNat - 1) = n - 1 ↔ wR f (n - 1) = true := by
  have e1 : n.toNat = (n - 1).toNat + 1 := by omega
  have e2 : (((n - 1).toNat : Nat) : Int) = n - 1 := by omega
  rw [e1, wN, e2] at h1
  rw [e1, wF, wN, e2]
  by_cases q : wR f (n - 1) = true
  · rw [if_pos q, if_pos q, Int.add_sub_cancel, up_s]
    exact ⟨fun _ => q, fun _ => rfl⟩
  · rw [if_neg q] at h1
    rw [if_neg q, if_neg q]
    have := (wF_in f (fun _ => 0) (n - 1).toNat (wN f (n - 1).toNat - 1) (by omega) (by omega)).2.2
    exact ⟨fun z => by omega, fun z => absurd z q⟩
theorem wS_e {f : Int → Int} {n : Int} (hn : 1 ≤ n ∧ n ≤ 12) : wS f n = (decide (1 < wN f n.toNat) && (decide (0 < n - 1) && (decide (f (n - 1) = 101) && !vow (f (n - 1 - 1))))) := by
  unfold wS
  by_cases q1 : 1 < wN f n.toNat
  · have h6 := (wN_6 f n.toNat).1
    rw [decide_eq_true q1, decide_eq_true (show 0 < n - 1 by omega), Bool.true_and, Bool.true_and]
    by_cases q2 : f (n - 1) = 101
    · rw [decide_eq_true q2, Bool.true_and]
      have hv : vow (f (n - 1)) = true := by rw [q2]; rfl
      have hl := wF_l (f := f) hn.1 (by omega)
      cases hq : vow (f (n - 1 - 1)) with
      | true =>
        rw [decide_eq_false]; rfl
        rintro ⟨-, z, -⟩
        rw [hl] at z
        unfold wR at z
        rw [hv, hq, decide_eq_false (by omega)] at z
        exact absurd z (by decide)
      | false =>
        rw [decide_eq_true]; rfl
        refine ⟨q1, hl.mpr ?_, q2⟩
        unfold wR
        rw [hv, hq]; simp
    · rw [decide_eq_false q2, decide_eq_false (fun z => q2 z.2.2)]; rfl
  · rw [decide_eq_false q1, decide_eq_false (fun z => q1 z.1)]; rfl
set_option maxRecDepth 100000 in
set_option maxHeartbeats 4000000 in
theorem c_X8_init {Γ : GT} {h : XH} {q aL : Nat} {f f9 : Int → Int} {n : Int} (hq : h.2 q = some (.inr (10, [.null, .int 0, .int 0, .int 0, .int 0, .null]))) (hL : h.2 aL = some (.inl (1, n.toNat, ia f9))) (hn : 1 ≤ n ∧ n ≤ 12) (he : ∀ k, 0 ≤ k → k < n → f9 k = f k) (hl : ∀ k, 0 ≤ k → k < n → 97 ≤ f k ∧ f k ≤ 122) : Ct Γ M_X8_init [.ref q, .ref aL] (h) (fun r h9 => ∃ ι' : Nat → Option XE, r = none ∧ h9 = (h.1, ι') ∧ WdAt ι' q f n ∧ ∀ x e, x ≠ q → h.2 x = some e → ι' x = some e) (fun _ _ => False) := by
  refine Ct.of rfl (by decide +kernel) (Nat.le_of_ble_eq_true rfl) ?_
  generalize hQF9 : QM Γ _ _ _ = QF9
  have h6 := wN_6 f n.toNat
  have bS := bi_01 (wS f n)
  have wSe := wS_e (f := f) hn
  refine gg_aload_n dX8_init_0 rfl rfl ?_
  refine gc_X8_3 rfl dX8_init_1 ⟨(Nat.le_of_ble_eq_true rfl), (Nat.le_of_ble_eq_true rfl)⟩ ?_
  refine gg_aload_n dX8_init_4 rfl rfl ?_
  refine gi_bipush dX8_init_5 (by decide) ?_
  refine gg_newa (n := iN 12) (t := 0) (N := 12) (a0 := (12, ia (fun _ => 0))) dX8_init_7 (by decide) rfl (wi_1 _ (List.mem_of_getElem? (i := 9) rfl)) (fun _ => rfl) (by decide) (by decide) (by decide) (Nat.le_of_ble_eq_true rfl) (Nat.le_of_ble_eq_true rfl) (fun aC fr9 => ?_)
  have hCq : aC ≠ q := fun z => by rw [z] at fr9; rw [fr9.1] at hq; cases hq
  have hLC : aL ≠ aC := fun z => by rw [← z] at fr9; rw [fr9.1] at hL; cases hL
  have hLq : aL ≠ q := fun z => by rw [z] at hL; rw [hL] at hq; cases hq
  refine gp_X8_9 rfl rfl dX8_init_9 (Nat.le_of_ble_eq_true rfl) rfl rfl (HPut.io (Eq.trans (upX_n (fun z => hCq z.symm)) hq)) ?_
  refine gg_aload_n dX8_init_12 rfl rfl ?_
  refine gg_aload_n dX8_init_13 rfl rfl ?_
  refine gp_X8_15 rfl rfl dX8_init_14 (Nat.le_of_ble_eq_true rfl) rfl rfl (HPut.io upX_s) ?_
  simp only [upX_t]
  refine gi_iconst dX8_init_17 ?_
  refine gg_istore_n dX8_init_18 (Nat.le_of_ble_eq_true rfl) rfl ?_
  refine gi_iconst dX8_init_19 ?_
  refine gg_istore_n dX8_init_20 (Nat.le_of_ble_eq_true rfl) rfl ?_
  have L_21 : ∀ (n9 : Nat) (k : Int), ((n - k).toNat) = n9 → ∀ (hk : 0 ≤ k ∧ k ≤ n), GG Γ M_X8_init QF9 (1, 12) ((h.1, upX (upX h.2 aC (.inl (0, 12, ia (wF f (fun _ => 0) k.toNat)))) q (.inr (10, [.ref aL, .int 0, .int 0, .int 0, .int 0, .ref aC])))) 21 [some (.ref q), some (.ref aL), some (.int (iN (wN f k.toNat))), some (.int (iN k)), none] [] := by
    intro n9
    induction n9 using Nat.strongRecOn with
    | ind n9 ih_21 => 
      intro k hm9 hk
      have h7 := wN_6 f k.toNat
      have h8 := wN_r f k.toNat
      refine gg_iload_n dX8_init_21 rfl ?_
      refine gg_aload_n dX8_init_22 rfl rfl ?_
      refine gi_alen dX8_init_23 (HAt.io (Eq.trans (upX_n hLq) (Eq.trans (upX_n hLC) hL))) (by decide) ?_
      rw [Int.toNat_of_nonneg (by omega)]
      refine gi_icmp_ge (tgt := 76) dX8_init_24 (by decide) ⟨by omega, by omega⟩ ⟨by omega, by omega⟩ (fun c_24 => ?_) (fun c_24 => ?_)
      · have hkn : n = k := by omega
        subst hkn
        refine gg_aload_n dX8_init_76 rfl rfl ?_
        refine gi_alen dX8_init_77 (HAt.io (Eq.trans (upX_n hLq) (Eq.trans (upX_n hLC) hL))) (by decide) ?_
        rw [Int.toNat_of_nonneg (by omega)]
        refine gi_iconst dX8_init_78 ?_
        refine gi_isub dX8_init_79 ?_
        refine gg_istore_n dX8_init_80 (Nat.le_of_ble_eq_true rfl) rfl ?_
        have L_114 : GG Γ M_X8_init QF9 (1, 12) ((h.1, upX (upX h.2 aC (.inl (0, 12, ia ((wF f (fun _ => 0) n.toNat))))) q (.inr (10, [.ref aL, .int 0, .int 0, .int 0, .int 0, .ref aC])))) 114 [some (.ref q), some (.ref aL), some (.int (iN (wN f n.toNat))), some (.int (iN (n - 1))), none] [.int (iN (bi (wS f n)))] := by
          have h9 := wN_r f n.toNat
          refine gg_istore dX8_init_114 (Nat.le_of_ble_eq_true rfl) rfl ?_
          have L_133 : GG Γ M_X8_init QF9 (1, 12) ((h.1, upX (upX h.2 aC (.inl (0, 12, ia ((wF f (fun _ => 0) n.toNat))))) q (.inr (10, [.ref aL, .int 0, .int 0, .int 0, .int 0, .ref aC])))) 133 [some (.ref q), some (.ref aL), some (.int (iN (wN f n.toNat))), some (.int (iN (n - 1))), some (.int (iN (bi (wS f n))))] [.int (iN (wC f n)), .ref q] := by
            refine gp_X8_29 rfl rfl dX8_init_133 (Nat.le_of_ble_eq_true rfl) rfl rfl (HPut.io upX_s) ?_
            simp only [upX_t]
            have L_148 : GG Γ M_X8_init QF9 (1, 12) ((h.1, upX (upX h.2 aC (.inl (0, 12, ia ((wF f (fun _ => 0) n.toNat))))) q (.inr (10, [.ref aL, .int (iN (wC f n)), .int 0, .int 0, .int 0, .ref aC])))) 148 [some (.ref q), some (.ref aL), some (.int (iN (wN f n.toNat))), some (.int (iN (n - 1))), some (.int (iN (bi (wS f n))))] [.int (iN (n - bi (wS f n))), .ref q] := by
              refine gp_X8_33 rfl rfl dX8_init_148 (Nat.le_of_ble_eq_true rfl) rfl rfl (HPut.io upX_s) ?_
              simp only [upX_t]
              have L_170 : GG Γ M_X8_init QF9 (1, 12) ((h.1, upX (upX h.2 aC (.inl (0, 12, ia ((wF f (fun _ => 0) n.toNat))))) q (.inr (10, [.ref aL, .int (iN (wC f n)), .int (iN (n - bi (wS f n))), .int 0, .int 0, .ref aC])))) 170 [some (.ref q), some (.ref aL), some (.int (iN (wN f n.toNat))), some (.int (iN (n - 1))), some (.int (iN (bi (wS f n))))] [.int (iN (bi (vow (f 0)))), .ref q] := by
                refine gp_X8_36 rfl rfl dX8_init_170 (Nat.le_of_ble_eq_true rfl) (nar_bool (bi_01 _)) (fit_bool (bi_01 _)) (HPut.io upX_s) ?_
                simp only [upX_t]
                have L_197 : GG Γ M_X8_init QF9 (1, 12) ((h.1, upX (upX h.2 aC (.inl (0, 12, ia ((wF f (fun _ => 0) n.toNat))))) q (.inr (10, [.ref aL, .int (iN (wC f n)), .int (iN (n - bi (wS f n))), .int (iN (bi (vow (f 0)))), .int 0, .ref aC])))) 197 [some (.ref q), some (.ref aL), some (.int (iN (wN f n.toNat))), some (.int (iN (n - 1))), some (.int (iN (bi (wS f n))))] [.int (iN (bi (wE f n))), .ref q] := by
                  refine gp_X8_40 rfl rfl dX8_init_197 (Nat.le_of_ble_eq_true rfl) (nar_bool (bi_01 _)) (fit_bool (bi_01 _)) (HPut.io upX_s) ?_
                  simp only [upX_t]
                  subst hQF9
                  refine gg_vret dX8_init_200 rfl ⟨(Nat.le_of_ble_eq_true rfl), (Nat.le_of_ble_eq_true rfl)⟩ ?_
                  refine ⟨_, rfl, rfl, ⟨hn, hl, aL, aC, f9, wF f (fun _ => 0) n.toNat, upX_s, (upX_n hLq).trans ((upX_n hLC).trans hL), he, (upX_n hCq).trans upX_s, fun k k0 k1 => ?_⟩, fun x e x1 x2 => ?_⟩
                  · unfold wA; split
                    · rename_i z; rw [wF_0 z]; unfold up; split <;> rfl
                    · rfl
                  · rw [upX_n x1, upX_n (fun z => by rw [z] at x2; rw [fr9.1] at x2; cases x2)]; exact x2
                refine gg_aload_n dX8_init_173 rfl rfl ?_
                refine gg_iload_n dX8_init_174 rfl ?_
                refine gi_if_lt (tgt := 196) dX8_init_175 (by decide) ⟨by omega, by omega⟩ (fun c_175 => ?_) (fun c_175 => ?_)
                · exfalso
                  omega
                · refine gg_iload dX8_init_178 rfl ?_
                  refine gi_if_ne (tgt := 196) dX8_init_180 (by decide) (bi_r _) (fun c_180 => ?_) (fun c_180 => ?_)
                  · rw [bi_t] at c_180
                    refine gi_iconst dX8_init_196 ?_
                    exact gg_conv L_197 rfl rfl (by unfold wE; rw [c_180]; simp [bi])
                  · rw [bi_f] at c_180
                    refine gg_aload_n dX8_init_183 rfl rfl ?_
                    refine gg_iload_n dX8_init_184 rfl ?_
                    refine gi_cald dX8_init_185 (f := f9) (n := n.toNat) (HAt.io (Eq.trans (upX_n hLq) (Eq.trans (upX_n hLC) hL))) (by omega) ⟨by omega, by omega⟩ ?_
                    rw [he (n - 1) (by omega) (by omega)]
                    have lr := hl (n - 1) (by omega) (by omega)
                    refine gc_X8_19 rfl dX8_init_186 ⟨(Nat.le_of_ble_eq_true rfl), (Nat.le_of_ble_eq_true rfl)⟩ ⟨(Nat.le_of_ble_eq_true rfl), (Nat.le_of_ble_eq_true rfl)⟩ (Nat.le_of_ble_eq_true rfl) (c_X9_isVowel (c := f (n - 1)) ⟨by omega, by omega⟩) (fun _ _ w => w.elim) (fun r_186 h_186 hp => ?_)
                    obtain ⟨rfl, rfl⟩ := hp
                    refine gi_if_eq (tgt := 196) dX8_init_189 (by decide) (bi_r _) (fun c_189 => ?_) (fun c_189 => ?_)
                    · rw [bi_f] at c_189
                      refine gi_iconst dX8_init_196 ?_
                      exact gg_conv L_197 rfl rfl (by unfold wE; rw [c_189]; simp [bi])
                    · rw [bi_t] at c_189
                      refine gi_iconst dX8_init_192 ?_
                      refine gg_goto (tgt := 197) dX8_init_193 (by decide) ?_
                      exact gg_conv L_197 rfl rfl (by unfold wE; rw [c_180, c_189]; rfl)
              refine gg_aload_n dX8_init_151 rfl rfl ?_
              refine gg_iload_n dX8_init_152 rfl ?_
              refine gi_if_lt (tgt := 169) dX8_init_153 (by decide) ⟨by omega, by omega⟩ (fun c_153 => ?_) (fun c_153 => ?_)
              · exfalso
                omega
              · refine gg_aload_n dX8_init_156 rfl rfl ?_
                refine gi_iconst dX8_init_157 ?_
                refine gi_cald dX8_init_158 (f := f9) (n := n.toNat) (HAt.io (Eq.trans (upX_n hLq) (Eq.trans (upX_n hLC) hL))) (by omega) ⟨by omega, by omega⟩ ?_
                rw [he (0) (by omega) (by omega)]
                have lr := hl (0) (by omega) (by omega)
                refine gc_X8_19 rfl dX8_init_159 ⟨(Nat.le_of_ble_eq_true rfl), (Nat.le_of_ble_eq_true rfl)⟩ ⟨(Nat.le_of_ble_eq_true rfl), (Nat.le_of_ble_eq_true rfl)⟩ (Nat.le_of_ble_eq_true rfl) (c_X9_isVowel (c := f (0)) ⟨by omega, by omega⟩) (fun _ _ w => w.elim) (fun r_159 h_159 hp => ?_)
                obtain ⟨rfl, rfl⟩ := hp
                refine gi_if_eq (tgt := 169) dX8_init_162 (by decide) (bi_r _) (fun c_162 => ?_) (fun c_162 => ?_)
                · rw [bi_f] at c_162
                  refine gi_iconst dX8_init_169 ?_
                  exact gg_conv L_170 rfl rfl (by rw [c_162]; rfl)
                · rw [bi_t] at c_162
                  refine gi_iconst dX8_init_165 ?_
                  refine gg_goto (tgt := 170) dX8_init_166 (by decide) ?_
                  exact gg_conv L_170 rfl rfl (by rw [c_162]; rfl)
            refine gg_aload_n dX8_init_136 rfl rfl ?_
            refine gg_iload dX8_init_137 rfl ?_
            refine gi_if_eq (tgt := 146) dX8_init_139 (by decide) (bi_r _) (fun c_139 => ?_) (fun c_139 => ?_)
            · rw [bi_f] at c_139
              refine gg_aload_n dX8_init_146 rfl rfl ?_
              refine gi_alen dX8_init_147 (HAt.io (Eq.trans (upX_n hLq) (Eq.trans (upX_n hLC) hL))) (by decide) ?_
              rw [Int.toNat_of_nonneg (by omega)]
              exact gg_conv L_148 rfl rfl (by rw [c_139, show n - bi false = n by simp [bi]])
            · rw [bi_t] at c_139
              refine gg_iload_n dX8_init_142 rfl ?_
              refine gg_goto (tgt := 148) dX8_init_143 (by decide) ?_
              exact gg_conv L_148 rfl rfl (by rw [c_139]; rfl)
          refine gg_aload_n dX8_init_116 rfl rfl ?_
          refine gi_iconst dX8_init_117 ?_
          refine gg_iload dX8_init_118 rfl ?_
          refine gi_if_eq (tgt := 129) dX8_init_120 (by decide) (bi_r _) (fun c_120 => ?_) (fun c_120 => ?_)
          · rw [bi_f] at c_120
            refine gg_iload_n dX8_init_129 rfl ?_
            refine gc_X8_23 rfl dX8_init_130 ⟨(Nat.le_of_ble_eq_true rfl), (Nat.le_of_ble_eq_true rfl)⟩ ⟨(Nat.le_of_ble_eq_true rfl), (Nat.le_of_ble_eq_true rfl)⟩ ?_
            rw [iN_max ⟨by omega, by omega⟩ ⟨by omega, by omega⟩]
            refine gg_conv L_133 rfl rfl ?_
            congr 2
            congr 1
            unfold wC
            rw [c_120, if_neg (by decide)]; split <;> omega
          · rw [bi_t] at c_120
            refine gg_iload_n dX8_init_123 rfl ?_
            refine gi_iconst dX8_init_124 ?_
            refine gi_isub dX8_init_125 ?_
            refine gg_goto (tgt := 130) dX8_init_126 (by decide) ?_
            refine gc_X8_23 rfl dX8_init_130 ⟨(Nat.le_of_ble_eq_true rfl), (Nat.le_of_ble_eq_true rfl)⟩ ⟨(Nat.le_of_ble_eq_true rfl), (Nat.le_of_ble_eq_true rfl)⟩ ?_
            rw [iN_max ⟨by omega, by omega⟩ ⟨by omega, by omega⟩]
            refine gg_conv L_133 rfl rfl ?_
            congr 2
            congr 1
            unfold wC
            have wS1 : 1 < wN f n.toNat := by have z := c_120; rw [wSe, Bool.and_eq_true, decide_eq_true_iff] at z; exact z.1
            rw [c_120, if_pos rfl]; omega
        refine gg_iload_n dX8_init_81 rfl ?_
        refine gi_iconst dX8_init_82 ?_
        refine gi_icmp_le (tgt := 113) dX8_init_83 (by decide) ⟨by omega, by omega⟩ ⟨by omega, by omega⟩ (fun c_83 => ?_) (fun c_83 => ?_)
        · refine gi_iconst dX8_init_113 ?_
          refine gg_drop 4 ?_
          exact gg_conv L_114 rfl rfl (by rw [wSe, decide_eq_false (Int.not_lt.mpr c_83)]; simp [bi])
        · refine gg_iload_n dX8_init_86 rfl ?_
          refine gi_if_le (tgt := 113) dX8_init_87 (by decide) ⟨by omega, by omega⟩ (fun c_87 => ?_) (fun c_87 => ?_)
          · refine gi_iconst dX8_init_113 ?_
            refine gg_drop 4 ?_
            exact gg_conv L_114 rfl rfl (by rw [wSe, decide_eq_false (Int.not_lt.mpr c_87)]; simp [bi])
          · refine gg_aload_n dX8_init_90 rfl rfl ?_
            refine gg_iload_n dX8_init_91 rfl ?_
            refine gi_cald dX8_init_92 (f := f9) (n := n.toNat) (HAt.io (Eq.trans (upX_n hLq) (Eq.trans (upX_n hLC) hL))) (by omega) ⟨by omega, by omega⟩ ?_
            rw [he (n - 1) (by omega) (by omega)]
            have lr := hl (n - 1) (by omega) (by omega)
            refine gi_bipush dX8_init_93 (by decide) ?_
            refine gi_icmp_ne (tgt := 113) dX8_init_95 (by decide) ⟨by omega, by omega⟩ ⟨by omega, by omega⟩ (fun c_95 => ?_) (fun c_95 => ?_)
            · refine gi_iconst dX8_init_113 ?_
              refine gg_drop 4 ?_
              exact gg_conv L_114 rfl rfl (by rw [wSe, decide_eq_false c_95]; simp [bi])
            · refine gg_aload_n dX8_init_98 rfl rfl ?_
              refine gg_iload_n dX8_init_99 rfl ?_
              refine gi_iconst dX8_init_100 ?_
              refine gi_isub dX8_init_101 ?_
              refine gi_cald dX8_init_102 (f := f9) (n := n.toNat) (HAt.io (Eq.trans (upX_n hLq) (Eq.trans (upX_n hLC) hL))) (by omega) ⟨by omega, by omega⟩ ?_
              rw [he (n - 1 - 1) (by omega) (by omega)]
              have lr := hl (n - 1 - 1) (by omega) (by omega)
              refine gc_X8_19 rfl dX8_init_103 ⟨(Nat.le_of_ble_eq_true rfl), (Nat.le_of_ble_eq_true rfl)⟩ ⟨(Nat.le_of_ble_eq_true rfl), (Nat.le_of_ble_eq_true rfl)⟩ (Nat.le_of_ble_eq_true rfl) (c_X9_isVowel (c := f (n - 1 - 1)) ⟨by omega, by omega⟩) (fun _ _ w => w.elim) (fun r_103 h_103 hp => ?_)
              obtain ⟨rfl, rfl⟩ := hp
              refine gi_if_ne (tgt := 113) dX8_init_106 (by decide) (bi_r _) (fun c_106 => ?_) (fun c_106 => ?_)
              · rw [bi_t] at c_106
                refine gi_iconst dX8_init_113 ?_
                refine gg_drop 4 ?_
                exact gg_conv L_114 rfl rfl (by rw [wSe, c_106]; simp [bi])
              · rw [bi_f] at c_106
                refine gi_iconst dX8_init_109 ?_
                refine gg_goto (tgt := 114) dX8_init_110 (by decide) ?_
                refine gg_drop 4 ?_
                exact gg_conv L_114 rfl rfl (by rw [wSe, decide_eq_true c_83, decide_eq_true c_87, decide_eq_true c_95, c_106]; rfl)
      · refine gg_iload_n dX8_init_27 rfl ?_
        refine gg_aload_n dX8_init_28 rfl rfl ?_
        refine gf_X8_9 rfl dX8_init_29 (HAt.io upX_s) rfl ?_
        refine gi_alen dX8_init_32 (HAt.io (Eq.trans (upX_n hCq) upX_s)) (by decide) ?_
        refine gi_icmp_ge (tgt := 76) dX8_init_33 (by decide) ⟨by omega, by omega⟩ (by decide) (fun c_33 => ?_) (fun c_33 => ?_)
        · exfalso
          omega
        · refine gg_aload_n dX8_init_36 rfl rfl ?_
          refine gg_iload_n dX8_init_37 rfl ?_
          refine gi_cald dX8_init_38 (f := f9) (n := n.toNat) (HAt.io (Eq.trans (upX_n hLq) (Eq.trans (upX_n hLC) hL))) (by omega) ⟨by omega, by omega⟩ ?_
          rw [he (k) (by omega) (by omega)]
          have lr := hl (k) (by omega) (by omega)
          refine gc_X8_19 rfl dX8_init_39 ⟨(Nat.le_of_ble_eq_true rfl), (Nat.le_of_ble_eq_true rfl)⟩ ⟨(Nat.le_of_ble_eq_true rfl), (Nat.le_of_ble_eq_true rfl)⟩ (Nat.le_of_ble_eq_true rfl) (c_X9_isVowel (c := f (k)) ⟨by omega, by omega⟩) (fun _ _ w => w.elim) (fun r_39 h_39 hp => ?_)
          obtain ⟨rfl, rfl⟩ := hp
          refine gi_if_eq (tgt := 70) dX8_init_42 (by decide) (bi_r _) (fun c_42 => ?_) (fun c_42 => ?_)
          · rw [bi_f] at c_42
            refine gi_iinc dX8_init_70 rfl (Nat.le_of_ble_eq_true rfl) rfl ?_
            refine gg_goto (tgt := 21) dX8_init_73 (by decide) ?_
            refine gg_drop 4 ?_
            have ek : (k + 1).toNat = k.toNat + 1 := by omega
            have hR : wR f k = false := by unfold wR; rw [c_42]; rfl
            exact gg_conv (ih_21 _ (by omega) (k + 1) rfl (by omega)) (by rw [wF_1 hk.1, hR]; rfl) (by rw [wN_1 hk.1, hR]; rfl) rfl
          · rw [bi_t] at c_42
            refine gg_iload_n dX8_init_45 rfl ?_
            refine gi_if_eq (tgt := 60) dX8_init_46 (by decide) ⟨by omega, by omega⟩ (fun c_46 => ?_) (fun c_46 => ?_)
            · refine gg_aload_n dX8_init_60 rfl rfl ?_
              refine gf_X8_9 rfl dX8_init_61 (HAt.io upX_s) rfl ?_
              refine gg_iload_n dX8_init_64 rfl ?_
              refine gg_iload_n dX8_init_65 rfl ?_
              refine gi_iast dX8_init_66 (f := wF f (fun _ => 0) k.toNat) (n := 12) (by decide) ⟨by omega, by omega⟩ (HPut.io (Eq.trans (upX_n hCq) upX_s)) ?_
              simp only []
              rw [upX_c (fun z => hCq z.symm), upX_t]
              refine gi_iinc dX8_init_67 rfl (Nat.le_of_ble_eq_true rfl) rfl ?_
              refine gi_iinc dX8_init_70 rfl (Nat.le_of_ble_eq_true rfl) rfl ?_
              refine gg_goto (tgt := 21) dX8_init_73 (by decide) ?_
              refine gg_drop 4 ?_
              have ek : (k + 1).toNat = k.toNat + 1 := by omega
              have hR : wR f k = true := by unfold wR; rw [c_42, decide_eq_true c_46]; rfl
              exact gg_conv (ih_21 _ (by omega) (k + 1) rfl (by omega)) (by rw [wF_1 hk.1, hR]; rfl) (by rw [wN_1 hk.1, hR]; rfl) rfl
            · refine gg_aload_n dX8_init_49 rfl rfl ?_
              refine gg_iload_n dX8_init_50 rfl ?_
              refine gi_iconst dX8_init_51 ?_
              refine gi_isub dX8_init_52 ?_
              refine gi_cald dX8_init_53 (f := f9) (n := n.toNat) (HAt.io (Eq.trans (upX_n hLq) (Eq.trans (upX_n hLC) hL))) (by omega) ⟨by omega, by omega⟩ ?_
              rw [he (k - 1) (by omega) (by omega)]
              have lr := hl (k - 1) (by omega) (by omega)
              refine gc_X8_19 rfl dX8_init_54 ⟨(Nat.le_of_ble_eq_true rfl), (Nat.le_of_ble_eq_true rfl)⟩ ⟨(Nat.le_of_ble_eq_true rfl), (Nat.le_of_ble_eq_true rfl)⟩ (Nat.le_of_ble_eq_true rfl) (c_X9_isVowel (c := f (k - 1)) ⟨by omega, by omega⟩) (fun _ _ w => w.elim) (fun r_54 h_54 hp => ?_)
              obtain ⟨rfl, rfl⟩ := hp
              refine gi_if_ne (tgt := 70) dX8_init_57 (by decide) (bi_r _) (fun c_57 => ?_) (fun c_57 => ?_)
              · rw [bi_t] at c_57
                refine gi_iinc dX8_init_70 rfl (Nat.le_of_ble_eq_true rfl) rfl ?_
                refine gg_goto (tgt := 21) dX8_init_73 (by decide) ?_
                refine gg_drop 4 ?_
                have ek : (k + 1).toNat = k.toNat + 1 := by omega
                have hR : wR f k = false := by unfold wR; rw [c_57, decide_eq_false (by omega)]; simp
                exact gg_conv (ih_21 _ (by omega) (k + 1) rfl (by omega)) (by rw [wF_1 hk.1, hR]; rfl) (by rw [wN_1 hk.1, hR]; rfl) rfl
              · rw [bi_f] at c_57
                refine gg_aload_n dX8_init_60 rfl rfl ?_
                refine gf_X8_9 rfl dX8_init_61 (HAt.io upX_s) rfl ?_
                refine gg_iload_n dX8_init_64 rfl ?_
                refine gg_iload_n dX8_init_65 rfl ?_
                refine gi_iast dX8_init_66 (f := wF f (fun _ => 0) k.toNat) (n := 12) (by decide) ⟨by omega, by omega⟩ (HPut.io (Eq.trans (upX_n hCq) upX_s)) ?_
                simp only []
                rw [upX_c (fun z => hCq z.symm), upX_t]
                refine gi_iinc dX8_init_67 rfl (Nat.le_of_ble_eq_true rfl) rfl ?_
                refine gi_iinc dX8_init_70 rfl (Nat.le_of_ble_eq_true rfl) rfl ?_
                refine gg_goto (tgt := 21) dX8_init_73 (by decide) ?_
                refine gg_drop 4 ?_
                have ek : (k + 1).toNat = k.toNat + 1 := by omega
                have hR : wR f k = true := by unfold wR; rw [c_42, c_57]; simp
                exact gg_conv (ih_21 _ (by omega) (k + 1) rfl (by omega)) (by rw [wF_1 hk.1, hR]; rfl) (by rw [wN_1 hk.1, hR]; rfl) rfl
  refine gg_drop 4 ?_
  exact gg_conv (L_21 _ 0 rfl (by omega)) rfl rfl rfl
