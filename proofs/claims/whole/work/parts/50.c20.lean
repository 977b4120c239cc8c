/-! exceptions and lines read -/
theorem exA {ι ι' : Nat → Option XE} {q : Nat} {e : XE} (hq : ι q = none) (h : ∀ x e', x ≠ q → upX ι q e x = some e' → ι' x = some e') : ext ι ι' := fun x e' hx => by
  have hne : x ≠ q := fun z => by rw [z, hq] at hx; cases hx
  exact h x e' hne (by rw [upX_n hne]; exact hx)
theorem wlen_l {f : Int → Int} {n p k : Int} (h0 : 0 ≤ k) (h1 : k < wlen f n 12 p) : 97 ≤ f (p + k) ∧ f (p + k) ≤ 122 := by
  have := (wlen_let f n 12 p k h0 h1).2
  unfold isLet at this
  rw [Bool.and_eq_true, decide_eq_true_iff, decide_eq_true_iff] at this
  exact this
theorem dgR_in {f : Int → Int} {n : Int} : ∀ {m : Nat} {p : Int} (j : Int), 0 ≤ j → j < dgR f n m p → 48 ≤ f (p + j) ∧ f (p + j) ≤ 50
  | 0, p, j, j0, j1 => by simp [dgR] at j1; omega
  | m + 1, p, j, j0, j1 => by
    rw [dgR] at j1
    by_cases q : p < n ∧ 48 ≤ f p ∧ f p ≤ 50
    · rw [if_pos q] at j1
      by_cases z : j = 0
      · rw [z, Int.add_zero]; exact q.2
      · have := dgR_in (f := f) (n := n) (m := m) (p := p + 1) (j - 1) (by omega) (by omega)
        rw [show p + 1 + (j - 1) = p + j by omega] at this
        exact this
    · rw [if_neg q] at j1; omega
set_option maxRecDepth 100000 in
set_option maxHeartbeats 4000000 in
theorem c_X1_parseMarking {Γ : GT} {h : XH} {G : Nat → Int} {B : Nat → Int → Int} (p4 : 0 ≤ G 4 ∧ G 4 ≤ 60) (g3 : G 3 = 0) (p5 : ∀ k, 0 ≤ k → k < G 4 → 0 ≤ B 41 k ∧ B 41 k < 65536) {wv : Int} (hw : wv = wlen (B 41) (G 4) 12 0) : Ct Γ M_X1_parseMarking [.ref (g_L Γ 40)] (gst Γ h G B) (fun r h9 => ∃ ι' : Nat → Option XE, h9 = gst Γ (h.1, ι') (uF G 3 (if rxO (B 41) (G 4) wv then wv + 1 + dgR (B 41) (G 4) 6 (wv + 1) else wv)) B ∧ ext h.2 ι' ∧ (((rxO (B 41) (G 4) wv ∧ dgR (B 41) (G 4) 6 (wv + 1) ≠ 0 ∧ wv + 1 + dgR (B 41) (G 4) 6 (wv + 1) = G 4) ∧ ∃ q : Nat, r = some (.ref q) ∧ MkO ι' q (B 41) wv (dgR (B 41) (G 4) 6 (wv + 1)) (fun k => B 41 (wv + 1 + k) - 48)) ∨ (¬ (rxO (B 41) (G 4) wv ∧ dgR (B 41) (G 4) 6 (wv + 1) ≠ 0 ∧ wv + 1 + dgR (B 41) (G 4) 6 (wv + 1) = G 4) ∧ r = some .null))) (fun _ _ => False) := by
  refine Ct.of rfl (by decide +kernel) (Nat.le_of_ble_eq_true rfl) ?_
  generalize hQF9 : QM Γ _ _ _ = QF9
  have wr := wlen_r (B 41) (G 4) 12 0
  rw [← hw] at wr
  simp only [Int.zero_add] at wr
  have dr := dgR_r (B 41) (G 4) 6 (wv + 1)
  refine gg_aload_n dX1_parseMarking_0 rfl rfl ?_
  refine gc_X1_48 rfl dX1_parseMarking_1 ⟨(Nat.le_of_ble_eq_true rfl), (Nat.le_of_ble_eq_true rfl)⟩ ⟨(Nat.le_of_ble_eq_true rfl), (Nat.le_of_ble_eq_true rfl)⟩ (Nat.le_of_ble_eq_true rfl) (HAt.mu gst_40) (c_X1_passLetters p4 (by omega) p5 (by omega)) (fun _ _ w => w.elim) (fun r_1 h_1 hp => ?_)
  obtain ⟨rfl, rfl⟩ := hp
  rw [g3, ← hw, Int.zero_add]
  refine gg_istore_n dX1_parseMarking_4 (Nat.le_of_ble_eq_true rfl) rfl ?_
  refine gg_iload_n dX1_parseMarking_5 rfl ?_
  refine gi_if_eq (tgt := 18) dX1_parseMarking_6 (by decide) ⟨by omega, by omega⟩ (fun c_6 => ?_) (fun c_6 => ?_)
  · refine gg_null dX1_parseMarking_18 ?_
    subst hQF9
    refine gg_aret dX1_parseMarking_19 rfl rfl rfl ⟨(Nat.le_of_ble_eq_true rfl), (Nat.le_of_ble_eq_true rfl)⟩ ?_
    have hx9 : ¬ rxO (B 41) (G 4) wv := fun z => z.1 c_6
    refine ⟨h.2, ?_, ext.rfl9, Or.inr ⟨fun z => hx9 z.1, rfl⟩⟩
    rw [if_neg hx9]
  · refine gg_aload_n dX1_parseMarking_9 rfl rfl ?_
    refine gi_bipush dX1_parseMarking_10 (by decide) ?_
    refine gc_X1_52 rfl dX1_parseMarking_12 ⟨(Nat.le_of_ble_eq_true rfl), (Nat.le_of_ble_eq_true rfl)⟩ ⟨(Nat.le_of_ble_eq_true rfl), (Nat.le_of_ble_eq_true rfl)⟩ (Nat.le_of_ble_eq_true rfl) (HAt.mu gst_40) (c_X1_pass (G := uF G 3 (wv)) (by rw [uF_n (by decide)]; exact p4) (by rw [uF_s]; omega) (by rw [uF_n (by decide)]; exact p5) (c := 32) ⟨by omega, by omega⟩) (fun _ _ w => w.elim) (fun r_12 h_12 hp => ?_)
    obtain ⟨rfl, rfl⟩ := hp
    simp only [uF_s, uF_ss, uF_n (show 4 ≠ 3 by decide)]
    refine gi_if_ne (tgt := 20) dX1_parseMarking_15 (by decide) (bi_r _) (fun c_15 => ?_) (fun c_15 => ?_)
    · rw [bi_t] at c_15
      rw [decide_eq_true_iff] at c_15
      rw [if_pos c_15]
      have hx9 : rxO (B 41) (G 4) wv := ⟨c_6, c_15.1, c_15.2⟩
      refine gg_aload_n dX1_parseMarking_20 rfl rfl ?_
      refine gk_getX1_22 rfl dX1_parseMarking_21 uF_s ?_
      refine gg_istore_n dX1_parseMarking_24 (Nat.le_of_ble_eq_true rfl) rfl ?_
      refine gi_iconst dX1_parseMarking_25 ?_
      refine gg_istore_n dX1_parseMarking_26 (Nat.le_of_ble_eq_true rfl) rfl ?_
      have L_27 : ∀ (n9 : Nat) (c : Int), ((6 - c).toNat) = n9 → ∀ (hc : 0 ≤ c ∧ c ≤ 6) (hcl : wv + 1 + c ≤ G 4) (E : dgR (B 41) (G 4) 6 (wv + 1) = c + dgR (B 41) (G 4) (6 - c).toNat (wv + 1 + c)), GG Γ M_X1_parseMarking QF9 (0, 0) (gst Γ h (uF G 3 (wv + 1 + c)) B) 27 [some (.ref (g_L Γ 40)), some (.int (iN wv)), some (.int (iN (wv + 1))), some (.int (iN c)), none, none] [] := by
        intro n9
        induction n9 using Nat.strongRecOn with
        | ind n9 ih_27 => 
          intro c hm9 hc hcl E
          refine gg_iload_n dX1_parseMarking_27 rfl ?_
          have L_49 : ∀  (E2 : dgR (B 41) (G 4) 6 (wv + 1) = c), GG Γ M_X1_parseMarking QF9 (0, 0) (gst Γ h (uF G 3 (wv + 1 + c)) B) 49 [some (.ref (g_L Γ 40)), some (.int (iN wv)), some (.int (iN (wv + 1))), some (.int (iN c)), none, none] [] := by
            intro  E2
            refine gg_iload_n dX1_parseMarking_49 rfl ?_
            refine gi_if_eq (tgt := 60) dX1_parseMarking_50 (by decide) ⟨by omega, by omega⟩ (fun c_50 => ?_) (fun c_50 => ?_)
            · refine gg_null dX1_parseMarking_60 ?_
              subst hQF9
              refine gg_aret dX1_parseMarking_61 rfl rfl rfl ⟨(Nat.le_of_ble_eq_true rfl), (Nat.le_of_ble_eq_true rfl)⟩ ?_
              refine ⟨h.2, ?_, ext.rfl9, Or.inr ⟨fun z => by omega, rfl⟩⟩
              rw [if_pos hx9, E2]
            · refine gg_aload_n dX1_parseMarking_53 rfl rfl ?_
              refine gc_X1_56 rfl dX1_parseMarking_54 ⟨(Nat.le_of_ble_eq_true rfl), (Nat.le_of_ble_eq_true rfl)⟩ ⟨(Nat.le_of_ble_eq_true rfl), (Nat.le_of_ble_eq_true rfl)⟩ (Nat.le_of_ble_eq_true rfl) (HAt.mu gst_40) (c_X1_isAtEnd (G := uF G 3 (wv + 1 + c)) (by rw [uF_n (by decide)]; exact p4) (by rw [uF_s]; omega) (by rw [uF_n (by decide)]; exact p5)) (fun _ _ w => w.elim) (fun r_54 h_54 hp => ?_)
              obtain ⟨rfl, rfl⟩ := hp
              simp only [uF_s, uF_ss, uF_n (show 4 ≠ 3 by decide)]
              refine gi_if_ne (tgt := 62) dX1_parseMarking_57 (by decide) (bi_r _) (fun c_57 => ?_) (fun c_57 => ?_)
              · rw [bi_t] at c_57
                rw [decide_eq_true_iff] at c_57
                refine gg_iload_n dX1_parseMarking_62 rfl ?_
                refine gg_newa (n := iN c) (t := 0) (N := c.toNat) (a0 := (c.toNat, ia (fun _ => 0))) dX1_parseMarking_63 (by decide) rfl (wi_1 _ (List.mem_of_getElem? (i := 9) rfl)) (fun _ => rfl) (fun z => by rw [← iN_0, iN_lt ⟨by omega, by omega⟩ ⟨by omega, by omega⟩] at z; omega) (iN_clamp (by omega) (by omega)) (by show c.toNat * 4 ≤ _; omega) (Nat.le_of_ble_eq_true rfl) (by show 0 + c.toNat ≤ 87; omega) (fun aM frM => ?_)
                refine gg_widen (k := 1) (n := 6) (Nat.le_refl _) (by show 0 + c.toNat ≤ 6; omega) ?_
                refine gg_astore dX1_parseMarking_65 rfl (Nat.le_of_ble_eq_true rfl) rfl ?_
                refine gi_iconst dX1_parseMarking_67 ?_
                refine gg_istore dX1_parseMarking_68 (Nat.le_of_ble_eq_true rfl) rfl ?_
                have L_70 : ∀ (n9 : Nat) (k : Int) (m9 : Int → Int), ((c - k).toNat) = n9 → ∀ (hk : 0 ≤ k ∧ k ≤ c) (E3 : ∀ j, 0 ≤ j → j < k → m9 j = B 41 (wv + 1 + j) - 48), GG Γ M_X1_parseMarking QF9 (1, 6) (gst Γ (h.1, upX h.2 aM (.inl (0, c.toNat, ia m9))) (uF G 3 (wv + 1 + c)) B) 70 [some (.ref (g_L Γ 40)), some (.int (iN wv)), some (.int (iN (wv + 1))), some (.int (iN c)), some (.ref aM), some (.int (iN k))] [] := by
                  intro n9
                  induction n9 using Nat.strongRecOn with
                  | ind n9 ih_70 => 
                    intro k m9 hm9 hk E3
                    refine gg_iload dX1_parseMarking_70 rfl ?_
                    refine gg_iload_n dX1_parseMarking_72 rfl ?_
                    refine gi_icmp_ge (tgt := 98) dX1_parseMarking_73 (by decide) ⟨by omega, by omega⟩ ⟨by omega, by omega⟩ (fun c_73 => ?_) (fun c_73 => ?_)
                    · refine gn_X1_103 rfl dX1_parseMarking_98 (Nat.le_of_ble_eq_true rfl) (Nat.le_of_ble_eq_true rfl) (fun qK frK => ?_)
                      refine gg_dup dX1_parseMarking_101 rfl ?_
                      refine gn_X1_64 rfl dX1_parseMarking_102 (Nat.le_of_ble_eq_true rfl) (Nat.le_of_ble_eq_true rfl) (fun qW frW => ?_)
                      refine gg_dup dX1_parseMarking_105 rfl ?_
                      refine gg_aload_n dX1_parseMarking_106 rfl rfl ?_
                      refine gi_iconst dX1_parseMarking_107 ?_
                      refine gg_iload_n dX1_parseMarking_108 rfl ?_
                      refine gc_X1_66 rfl dX1_parseMarking_109 ⟨(Nat.le_of_ble_eq_true rfl), (Nat.le_of_ble_eq_true rfl)⟩ ⟨(Nat.le_of_ble_eq_true rfl), (Nat.le_of_ble_eq_true rfl)⟩ (Nat.le_of_ble_eq_true rfl) (HAt.mu (gst_40 (Γ := Γ) (h := (h.1, upX (upX (upX h.2 aM (.inl (0, c.toNat, ia m9))) qK (.inr (5, [.null, .int 0, .null]))) qW (.inr (10, [.null, .int 0, .int 0, .int 0, .int 0, .null])))) (B := B))) (c_X1_copyOf (h := (h.1, upX (upX (upX h.2 aM (.inl (0, c.toNat, ia m9))) qK (.inr (5, [.null, .int 0, .null]))) qW (.inr (10, [.null, .int 0, .int 0, .int 0, .int 0, .null])))) (G := uF G 3 (wv + 1 + c)) (B := B) (by rw [uF_n (by decide)]; exact p4) (by rw [uF_n (by decide)]; exact p5) (by rw [uF_s]; omega) (x := 0) (y := wv) ⟨by omega, by omega⟩ (by rw [uF_n (by decide)]; omega)) (fun _ _ w => w.elim) (fun r_109 h_109 hp => ?_)
                      obtain ⟨qL, f9, rfl, frL, rfl, hf9⟩ := hp
                      refine gc_X1_70 rfl dX1_parseMarking_112 ⟨(Nat.le_of_ble_eq_true rfl), (Nat.le_of_ble_eq_true rfl)⟩ ⟨(Nat.le_of_ble_eq_true rfl), (Nat.le_of_ble_eq_true rfl)⟩ (Nat.le_of_ble_eq_true rfl) (c_X8_init (h := gst Γ (h.1, upX (upX (upX (upX h.2 aM (.inl (0, c.toNat, ia m9))) qK (.inr (5, [.null, .int 0, .null]))) qW (.inr (10, [.null, .int 0, .int 0, .int 0, .int 0, .null]))) qL (.inl (1, (wv - 0).toNat, ia f9))) (uF G 3 (wv + 1 + c)) B) (f := B 41) (f9 := f9) (n := wv) (Eq.trans (upX_n (fun z => by rw [← z] at frL; exact absurd frL.1 (by show upX _ qW _ qW ≠ none; rw [upX_s]; simp))) upX_s) (by rw [Int.sub_zero]; exact upX_s) ⟨by omega, by omega⟩ (fun j j0 j1 => by rw [hf9 j j0 (by omega), Int.zero_add]) (fun j j0 j1 => by have := wlen_l (f := B 41) (n := G 4) (p := 0) j0 (by omega); rw [Int.zero_add] at this; exact this)) (fun _ _ w => w.elim) (fun r_112 h_112 hp => ?_)
                      obtain ⟨ι', rfl, rfl, W9, hx⟩ := hp
                      have nqL : qL ≠ qW := fun z => by rw [z] at frL; exact absurd frL.1 (by show upX _ qW _ qW ≠ none; rw [upX_s]; simp)
                      have nKW : qK ≠ qW := fun z => by rw [← z] at frW; exact absurd frW.1 (by show upX _ qK _ qK ≠ none; rw [upX_s]; simp)
                      have nMK : aM ≠ qK := fun z => by rw [← z] at frK; exact absurd frK.1 (by show upX _ aM _ aM ≠ none; rw [upX_s]; simp)
                      have nMW : aM ≠ qW := fun z => by rw [← z] at frW; exact absurd frW.1 (by show upX (upX _ aM _) qK _ aM ≠ none; rw [upX_n nMK, upX_s]; simp)
                      have nLK : qL ≠ qK := fun z => by rw [z] at frL; exact absurd frL.1 (by show upX (upX _ qK _) qW _ qK ≠ none; rw [upX_n nKW, upX_s]; simp)
                      have nLM : qL ≠ aM := fun z => by rw [z] at frL; exact absurd frL.1 (by show upX (upX (upX _ aM _) qK _) qW _ aM ≠ none; rw [upX_n nMW, upX_n nMK, upX_s]; simp)
                      have hK9 : ι' qK = some (.inr (5, [.null, .int 0, .null])) := hx qK _ nKW (by show upX (upX (upX _ qK _) qW _) qL _ qK = _; rw [upX_n (fun z => nLK z.symm), upX_n nKW, upX_s])
                      have hM9 : ι' aM = some (.inl (0, c.toNat, ia m9)) := hx aM _ nMW (by show upX (upX (upX (upX _ aM _) qK _) qW _) qL _ aM = _; rw [upX_n (fun z => nLM z.symm), upX_n nMW, upX_n nMK, upX_s])
                      have fM : h.2 aM = none := frM.1
                      have fK : upX h.2 aM (.inl (0, c.toNat, ia m9)) qK = none := frK.1
                      have fW : upX (upX h.2 aM (.inl (0, c.toNat, ia m9))) qK (.inr (5, [.null, .int 0, .null])) qW = none := frW.1
                      have fL : upX (upX (upX h.2 aM (.inl (0, c.toNat, ia m9))) qK (.inr (5, [.null, .int 0, .null]))) qW (.inr (10, [.null, .int 0, .int 0, .int 0, .int 0, .null])) qL = none := frL.1
                      rw [upX_n (fun z => nMK z.symm)] at fK
                      rw [upX_n (fun z => nKW z.symm), upX_n (fun z => nMW z.symm)] at fW
                      rw [upX_n nqL, upX_n nLK, upX_n nLM] at fL
                      have hE : ext h.2 ι' := fun x e ex => hx x e (fun z => by rw [z, fW] at ex; cases ex) (by
                        show upX (upX (upX (upX h.2 aM _) qK _) qW _) qL _ x = some e
                        rw [upX_n (fun z => by rw [z, fL] at ex; cases ex), upX_n (fun z => by rw [z, fW] at ex; cases ex), upX_n (fun z => by rw [z, fK] at ex; cases ex), upX_n (fun z => by rw [z, fM] at ex; cases ex)]; exact ex)
                      refine gg_aload dX1_parseMarking_115 rfl rfl ?_
                      refine gc_X1_105 rfl dX1_parseMarking_117 ⟨(Nat.le_of_ble_eq_true rfl), (Nat.le_of_ble_eq_true rfl)⟩ ⟨(Nat.le_of_ble_eq_true rfl), (Nat.le_of_ble_eq_true rfl)⟩ (Nat.le_of_ble_eq_true rfl) (c_X3_init (h := gst Γ (h.1, ι') (uF G 3 (wv + 1 + c)) B) hK9 (wq := qW) hM9 nMK) (fun _ _ w => w.elim) (fun r_117 h_117 hp => ?_)
                      obtain ⟨rfl, rfl⟩ := hp
                      subst hQF9
                      refine gg_aret dX1_parseMarking_120 rfl rfl rfl ⟨(Nat.le_of_ble_eq_true rfl), (Nat.le_of_ble_eq_true rfl)⟩ ?_
                      rw [show k = c by omega] at E3
                      have hcc : ((c.toNat : Nat) : Int) = c := Int.toNat_of_nonneg hc.1
                      rw [hcc]
                      refine ⟨upX ι' qK (.inr (5, [.ref qW, .int (iN c), .ref aM])), by rw [if_pos hx9, E2]; rfl, ?_, Or.inl ⟨⟨hx9, by omega, by omega⟩, qK, rfl, qW, aM, m9, by rw [E2]; exact upX_s, ?_, by omega, ?_, ?_⟩⟩
                      · intro x e ex
                        rw [upX_n (fun z => by rw [z, fK] at ex; cases ex)]; exact hE x e ex
                      · obtain ⟨a1, a2, aL, aC, f8, g8, a3, a4, a5, a6, a7⟩ := W9
                        refine ⟨a1, a2, aL, aC, f8, g8, ?_, ?_, a5, ?_, a7⟩
                        · rw [upX_n (fun z => nKW z.symm)]; exact a3
                        · rw [upX_n (fun z => by rw [z, hK9] at a4; cases a4)]; exact a4
                        · rw [upX_n (fun z => by rw [z, hK9] at a6; cases a6)]; exact a6
                      · rw [upX_n nMK, E2]; exact hM9
                      · intro j j0 j1
                        rw [E2] at j1
                        refine ⟨E3 j j0 j1, ?_⟩
                        have d9 := dgR_in (f := B 41) (n := G 4) (m := 6) (p := wv + 1) j j0 (by omega)
                        constructor
                        · show (0 : Int) ≤ B 41 (wv + 1 + j) - 48; omega
                        · show B 41 (wv + 1 + j) - 48 ≤ (2 : Int); omega
                    · refine gg_aload dX1_parseMarking_76 rfl rfl ?_
                      refine gg_iload dX1_parseMarking_78 rfl ?_
                      refine gg_aload_n dX1_parseMarking_80 rfl rfl ?_
                      refine gg_iload_n dX1_parseMarking_81 rfl ?_
                      refine gg_iload dX1_parseMarking_82 rfl ?_
                      refine gi_iadd dX1_parseMarking_84 ?_
                      refine gc_X1_78 rfl dX1_parseMarking_85 ⟨(Nat.le_of_ble_eq_true rfl), (Nat.le_of_ble_eq_true rfl)⟩ ⟨(Nat.le_of_ble_eq_true rfl), (Nat.le_of_ble_eq_true rfl)⟩ (Nat.le_of_ble_eq_true rfl) (HAt.mu gst_40) (c_X1_characterAt (h := (h.1, upX h.2 aM (.inl (0, c.toNat, ia m9)))) (G := uF G 3 (wv + 1 + c)) (by rw [uF_n (by decide)]; exact p4) (by rw [uF_s]; omega) (by rw [uF_n (by decide)]; exact p5) (p := wv + 1 + k) ⟨by omega, by omega⟩) (fun _ _ w => w.elim) (fun r_85 h_85 hp => ?_)
                      obtain ⟨rfl, rfl⟩ := hp
                      have hch : chA (uF G 3 (wv + 1 + c)) B (wv + 1 + k) = B 41 (wv + 1 + k) := by
                        unfold chA; rw [uF_n (by decide), if_pos (by omega)]
                      rw [hch]
                      have q5 := p5 (wv + 1 + k) (by omega) (by omega)
                      refine gi_bipush dX1_parseMarking_88 (by decide) ?_
                      refine gi_isub dX1_parseMarking_90 ?_
                      refine gi_iast dX1_parseMarking_91 (f := m9) (n := c.toNat) (by omega) ⟨by omega, by omega⟩ (HPut.io (h := gst Γ (h.1, upX h.2 aM (.inl (0, c.toNat, ia m9))) (uF G 3 (wv + 1 + c)) B) upX_s) ?_
                      refine gi_iinc dX1_parseMarking_92 rfl (Nat.le_of_ble_eq_true rfl) rfl ?_
                      refine gg_goto (tgt := 70) dX1_parseMarking_95 (by decide) ?_
                      refine gg_conv (ih_70 _ (by omega) (k + 1) (up m9 k (B 41 (wv + 1 + k) - 48)) rfl (by omega) ?_) ?_ rfl rfl
                      · intro j j0 j1
                        by_cases e : j = k
                        · rw [e, up_s]
                        · rw [up_n e]; exact E3 j j0 (by omega)
                      · show gst Γ (h.1, upX h.2 aM _) _ B = gst Γ (h.1, upX (upX h.2 aM _) aM _) _ B
                        rw [upX_t]
                exact L_70 _ 0 (fun _ => 0) rfl (by omega) (fun j j0 j1 => by omega)
              · rw [bi_f] at c_57
                rw [decide_eq_false_iff_not] at c_57
                refine gg_null dX1_parseMarking_60 ?_
                subst hQF9
                refine gg_aret dX1_parseMarking_61 rfl rfl rfl ⟨(Nat.le_of_ble_eq_true rfl), (Nat.le_of_ble_eq_true rfl)⟩ ?_
                refine ⟨h.2, ?_, ext.rfl9, Or.inr ⟨fun z => by omega, rfl⟩⟩
                rw [if_pos hx9, E2]
          refine gi_bipush dX1_parseMarking_28 (by decide) ?_
          refine gi_icmp_ge (tgt := 49) dX1_parseMarking_30 (by decide) ⟨by omega, by omega⟩ ⟨by omega, by omega⟩ (fun c_30 => ?_) (fun c_30 => ?_)
          · refine gg_drop 4 ?_
            refine gg_drop 5 ?_
            exact L_49 (by rw [E, show c = 6 by omega]; rfl)
          · refine gg_aload_n dX1_parseMarking_33 rfl rfl ?_
            refine gi_iconst dX1_parseMarking_34 ?_
            refine gi_iconst dX1_parseMarking_35 ?_
            refine gc_X1_94 rfl dX1_parseMarking_36 ⟨(Nat.le_of_ble_eq_true rfl), (Nat.le_of_ble_eq_true rfl)⟩ ⟨(Nat.le_of_ble_eq_true rfl), (Nat.le_of_ble_eq_true rfl)⟩ (Nat.le_of_ble_eq_true rfl) (HAt.mu gst_40) (c_X1_passDigit (G := uF G 3 (wv + 1 + c)) (by rw [uF_n (by decide)]; exact p4) (by rw [uF_s]; omega) (by rw [uF_n (by decide)]; exact p5) (a := 0) (b := 2) ⟨by omega, by omega⟩ ⟨by omega, by omega⟩) (fun _ _ w => w.elim) (fun r_36 h_36 hp => ?_)
            obtain ⟨rfl, rfl⟩ := hp
            simp only [uF_s, uF_ss, uF_n (show 4 ≠ 3 by decide)]
            rw [show (48 : Int) + 0 = 48 from rfl, show (48 : Int) + 2 = 50 from rfl]
            refine gi_iconst dX1_parseMarking_39 ?_
            refine gi_icmp_eq (tgt := 49) dX1_parseMarking_40 (by decide) ⟨by split <;> omega, by split <;> omega⟩ ⟨by omega, by omega⟩ (fun c_40 => ?_) (fun c_40 => ?_)
            · refine gg_drop 4 ?_
              refine gg_drop 5 ?_
              have c_41 : ¬ (wv + 1 + c < G 4 ∧ 48 ≤ B 41 (wv + 1 + c) ∧ B 41 (wv + 1 + c) ≤ 50) := fun z => by rw [if_pos z] at c_40; omega
              rw [if_neg c_41]
              exact L_49 (by rw [E, dgR_n c_41, Int.add_zero])
            · refine gi_iinc dX1_parseMarking_43 rfl (Nat.le_of_ble_eq_true rfl) rfl ?_
              refine gg_goto (tgt := 27) dX1_parseMarking_46 (by decide) ?_
              refine gg_drop 4 ?_
              refine gg_drop 5 ?_
              have c_41 : wv + 1 + c < G 4 ∧ 48 ≤ B 41 (wv + 1 + c) ∧ B 41 (wv + 1 + c) ≤ 50 := by
                by_cases z : wv + 1 + c < G 4 ∧ 48 ≤ B 41 (wv + 1 + c) ∧ B 41 (wv + 1 + c) ≤ 50
                · exact z
                · rw [if_neg z] at c_40; exact absurd rfl c_40
              rw [if_pos c_41]
              refine gg_conv (ih_27 _ (by omega) (c + 1) rfl (by omega) (by omega) ?_) (by rw [Int.add_assoc (wv + 1) c 1]) rfl rfl
              rw [E, dgR_y (by omega) c_41, show 6 - c - 1 = 6 - (c + 1) by omega, Int.add_assoc (wv + 1) c 1]; omega
      refine gg_drop 4 ?_
      refine gg_drop 5 ?_
      exact gg_conv (L_27 _ 0 rfl (by omega) (by omega) (by rw [Int.sub_zero, Int.add_zero, Int.zero_add]; rfl)) (by rw [Int.add_zero]) rfl rfl
    · rw [bi_f] at c_15
      rw [decide_eq_false_iff_not] at c_15
      rw [if_neg c_15]
      refine gg_null dX1_parseMarking_18 ?_
      subst hQF9
      refine gg_aret dX1_parseMarking_19 rfl rfl rfl ⟨(Nat.le_of_ble_eq_true rfl), (Nat.le_of_ble_eq_true rfl)⟩ ?_
      have hx9 : ¬ rxO (B 41) (G 4) wv := fun z => c_15 z.2
      refine ⟨h.2, ?_, ext.rfl9, Or.inr ⟨fun z => hx9 z.1, rfl⟩⟩
      rw [if_neg hx9]
