/-! the search: words -/
set_option maxRecDepth 100000 in
set_option maxHeartbeats 4000000 in
theorem c_X6_wordPrice {Γ : GT} {h : XH} {G : Nat → Int} {B : Nat → Int → Int} {D : DT} {i : Int} (S9 : ScM h.2 G D i) (R9 : RdD G B D) {w st : Int} {x y : Bool} (hw : 0 ≤ w ∧ w < dL D) (hst : 0 ≤ st ∧ st ≤ 80) (h0 : 0 < st → 1 ≤ w) (hx : x = true → 1 ≤ w) : Ct Γ M_X6_wordPrice [.ref (g_L Γ 60), .int (iN w), .int (iN st), .int (iN (bi x)), .int (iN (bi y))] (gst Γ h G B) (fun r h9 => ∃ B' : Nat → Int → Int, r = some (.int (iN (wpE D i w st x y))) ∧ h9 = gst Γ h G B' ∧ frA [61] B B' ∧ (0 ≤ wpE D i w st x y → B' 61 = prW D i w st x y (B 61) (dS D w).toNat)) (fun _ _ => False) := by
  refine Ct.of rfl (by decide +kernel) (Nat.le_of_ble_eq_true rfl) ?_
  generalize hQF9 : QM Γ _ _ _ = QF9
  obtain ⟨mq, g16, M1, hi, g17⟩ := id S9
  obtain ⟨⟨t1, t2, t3⟩, t4⟩ := id M1
  have z9 := szk_r (dK D)
  have hP : dP D = dF D * szk (dK D) := rfl
  have p9 : 4 ≤ dP D ∧ dP D ≤ 18 := by rw [hP]; rcases z9 with q | q <;> rw [q] <;> omega
  have sr := R9.s_r hw
  have bx9 := bi_01 x
  have by9 := bi_01 y
  obtain ⟨r1, r2, r3, r4, r5, r6⟩ := id R9
  refine gg_aload_n dX6_wordPrice_0 rfl rfl ?_
  refine gk_getX6_43 rfl dX6_wordPrice_1 ?_
  refine gg_iload_n dX6_wordPrice_4 rfl ?_
  refine gc_X6_101 rfl dX6_wordPrice_5 ⟨(Nat.le_of_ble_eq_true rfl), (Nat.le_of_ble_eq_true rfl)⟩ ⟨(Nat.le_of_ble_eq_true rfl), (Nat.le_of_ble_eq_true rfl)⟩ (Nat.le_of_ble_eq_true rfl) (HAt.mu gst_50) (c_X5_countOf R9 hw) (fun _ _ w => w.elim) (fun r_5 h_5 hp => ?_)
  obtain ⟨rfl, rfl⟩ := hp
  refine gg_istore dX6_wordPrice_8 (Nat.le_of_ble_eq_true rfl) rfl ?_
  refine gi_iconst dX6_wordPrice_10 ?_
  refine gg_istore dX6_wordPrice_11 (Nat.le_of_ble_eq_true rfl) rfl ?_
  refine gi_iconst dX6_wordPrice_13 ?_
  refine gg_istore dX6_wordPrice_14 (Nat.le_of_ble_eq_true rfl) rfl ?_
  have L_16 : ∀ (n9 : Nat) (k : Int) (B' : Nat → Int → Int), ((dS D w - k).toNat) = n9 → ∀ (hk : 0 ≤ k ∧ k ≤ dS D w) (E : 0 ≤ wpS D i w st x y k.toNat) (FB : frA [61] B B') (EP : B' 61 = prW D i w st x y (B 61) k.toNat), GG Γ M_X6_wordPrice QF9 (0, 0) (gst Γ h G B') 16 [some (.ref (g_L Γ 60)), some (.int (iN w)), some (.int (iN st)), some (.int (iN (bi x))), some (.int (iN (bi y))), some (.int (iN (dS D w))), some (.int (iN (wpS D i w st x y k.toNat))), some (.int (iN k)), none, none, none, none] [] := by
    intro n9
    induction n9 using Nat.strongRecOn with
    | ind n9 ih_16 => 
      intro k B' hm9 hk E FB EP
      have wr := wpS_r (D := D) (i := i) (w := w) (st := st) (x := x) (y := y) k.toNat
      refine gg_iload dX6_wordPrice_16 rfl ?_
      refine gg_iload dX6_wordPrice_18 rfl ?_
      refine gi_icmp_ge (tgt := 198) dX6_wordPrice_20 (by decide) ⟨by omega, by omega⟩ ⟨by omega, by omega⟩ (fun c_20 => ?_) (fun c_20 => ?_)
      · refine gg_iload dX6_wordPrice_198 rfl ?_
        subst hQF9
        refine gg_iret dX6_wordPrice_200 rfl rfl ⟨(Nat.le_of_ble_eq_true rfl), (Nat.le_of_ble_eq_true rfl)⟩ ?_
        rw [show k = dS D w by omega] at EP ⊢
        exact ⟨B', rfl, rfl, FB, fun _ => EP⟩
      · have L_37 : GG Γ M_X6_wordPrice QF9 (0, 0) (gst Γ h G B') 37 [some (.ref (g_L Γ 60)), some (.int (iN w)), some (.int (iN st)), some (.int (iN (bi x))), some (.int (iN (bi y))), some (.int (iN (dS D w))), some (.int (iN (wpS D i w st x y k.toNat))), some (.int (iN k)), none, none, none, none] [.int (iN (bi (decide (k = 0) && x)))] := by
          have bjb := bi_01 (decide (k = 0) && x)
          refine gg_istore dX6_wordPrice_37 (Nat.le_of_ble_eq_true rfl) rfl ?_
          have L_58 : GG Γ M_X6_wordPrice QF9 (0, 0) (gst Γ h G B') 58 [some (.ref (g_L Γ 60)), some (.int (iN w)), some (.int (iN st)), some (.int (iN (bi x))), some (.int (iN (bi y))), some (.int (iN (dS D w))), some (.int (iN (wpS D i w st x y k.toNat))), some (.int (iN k)), some (.int (iN (bi (decide (k = 0) && x)))), none, none, none] [.int (iN (bi (decide (k = dS D w - 1) && y)))] := by
            have bjn := bi_01 (decide (k = dS D w - 1) && y)
            refine gg_istore dX6_wordPrice_58 (Nat.le_of_ble_eq_true rfl) rfl ?_
            have L_114 : ∀ (sm : Int) (hsm : sm = (wpS D i w st x y k.toNat + (if cae D (st + k) = true then bi (!dC D (w - 1)) else 0))) (hbad : (cae D (st + k) && (decide (0 < k) || x || (decide (k = dS D w - 1) && y))) = false), GG Γ M_X6_wordPrice QF9 (0, 0) (gst Γ h G B') 114 [some (.ref (g_L Γ 60)), some (.int (iN w)), some (.int (iN st)), some (.int (iN (bi x))), some (.int (iN (bi y))), some (.int (iN (dS D w))), some (.int (iN sm)), some (.int (iN k)), some (.int (iN (bi (decide (k = 0) && x)))), some (.int (iN (bi (decide (k = dS D w - 1) && y)))), none, none] [] := by
              intro sm hsm hbad
              have hsr : 0 ≤ sm ∧ sm ≤ 100 := by
                have := bi_01 (!dC D (w - 1)); rw [hsm]; split <;> omega
              refine gg_iload dX6_wordPrice_114 rfl ?_
              refine gi_if_ne (tgt := 192) dX6_wordPrice_116 (by decide) (bi_r _) (fun c_116 => ?_) (fun c_116 => ?_)
              · rw [bi_t] at c_116
                have L_192 : ∀ (sv : Int) (B1 : Nat → Int → Int) (hs1 : sv = wpS D i w st x y (k + 1).toNat) (hs2 : 0 ≤ sv) (F1 : frA [61] B B1) (P1 : B1 61 = prW D i w st x y (B 61) (k + 1).toNat), GG Γ M_X6_wordPrice QF9 (0, 0) (gst Γ h G B1) 192 [some (.ref (g_L Γ 60)), some (.int (iN w)), some (.int (iN st)), some (.int (iN (bi x))), some (.int (iN (bi y))), some (.int (iN (dS D w))), some (.int (iN sv)), some (.int (iN k)), none, none, none, none] [] := by
                  intro sv B1 hs1 hs2 F1 P1
                  refine gi_iinc dX6_wordPrice_192 rfl (Nat.le_of_ble_eq_true rfl) rfl ?_
                  refine gg_goto (tgt := 16) dX6_wordPrice_195 (by decide) ?_
                  refine gg_drop 8 ?_
                  refine gg_drop 9 ?_
                  refine gg_drop 10 ?_
                  refine gg_drop 11 ?_
                  refine gg_conv (ih_16 _ (by omega) (k + 1) B1 rfl (by omega) (by rw [← hs1]; exact hs2) F1 P1) rfl (by rw [hs1]; rfl) rfl
                refine gg_drop 8 ?_
                refine gg_drop 9 ?_
                refine gg_drop 10 ?_
                refine gg_drop 11 ?_
                have ek : (k + 1).toNat = k.toNat + 1 := by omega
                refine L_192 sm B' ?_ (by omega) FB ?_
                · rw [ek, wpS, Int.toNat_of_nonneg hk.1, if_neg (by omega), if_neg (by rw [hbad]; decide), if_pos c_116, hsm]
                · rw [ek, prW, Int.toNat_of_nonneg hk.1, if_pos c_116, EP]
              · rw [bi_f] at c_116
                have L_165 : ∀ (m : Int) (hm : m = mkW D w k x) (hm2 : 0 ≤ m ∧ m ≤ 2), GG Γ M_X6_wordPrice QF9 (0, 0) (gst Γ h G B') 165 [some (.ref (g_L Γ 60)), some (.int (iN w)), some (.int (iN st)), some (.int (iN (bi x))), some (.int (iN (bi y))), some (.int (iN (dS D w))), some (.int (iN sm)), some (.int (iN k)), some (.int (iN (bi (decide (k = 0) && x)))), some (.int (iN (bi (decide (k = dS D w - 1) && y)))), some (.int (iN m)), none] [] := by
                  intro m hm hm2
                  refine gg_aload_n dX6_wordPrice_165 rfl rfl ?_
                  refine gg_iload_n dX6_wordPrice_166 rfl ?_
                  refine gg_iload dX6_wordPrice_167 rfl ?_
                  refine gi_iadd dX6_wordPrice_169 ?_
                  refine gg_iload dX6_wordPrice_170 rfl ?_
                  refine gc_X6_122 rfl dX6_wordPrice_172 ⟨(Nat.le_of_ble_eq_true rfl), (Nat.le_of_ble_eq_true rfl)⟩ ⟨(Nat.le_of_ble_eq_true rfl), (Nat.le_of_ble_eq_true rfl)⟩ (Nat.le_of_ble_eq_true rfl) (HAt.mu gst_60) (c_X6_syllablePrice S9 (k := st + k) (m := m) ⟨by omega, by omega⟩ ⟨by omega, by omega⟩) (fun _ _ w => w.elim) (fun r_172 h_172 hp => ?_)
                  obtain ⟨rfl, rfl⟩ := hp
                  have hs9 := spE_r D i (st + k) m
                  refine gg_istore dX6_wordPrice_175 (Nat.le_of_ble_eq_true rfl) rfl ?_
                  refine gg_iload dX6_wordPrice_177 rfl ?_
                  refine gi_iconst dX6_wordPrice_179 ?_
                  refine gi_icmp_ne (tgt := 185) dX6_wordPrice_180 (by decide) ⟨by omega, by omega⟩ ⟨by omega, by omega⟩ (fun c_180 => ?_) (fun c_180 => ?_)
                  · refine gg_iload dX6_wordPrice_185 rfl ?_
                    refine gg_iload dX6_wordPrice_187 rfl ?_
                    refine gi_iadd dX6_wordPrice_189 ?_
                    refine gg_istore dX6_wordPrice_190 (Nat.le_of_ble_eq_true rfl) rfl ?_
                    have L_192 : ∀ (sv : Int) (B1 : Nat → Int → Int) (hs1 : sv = wpS D i w st x y (k + 1).toNat) (hs2 : 0 ≤ sv) (F1 : frA [61] B B1) (P1 : B1 61 = prW D i w st x y (B 61) (k + 1).toNat), GG Γ M_X6_wordPrice QF9 (0, 0) (gst Γ h G B1) 192 [some (.ref (g_L Γ 60)), some (.int (iN w)), some (.int (iN st)), some (.int (iN (bi x))), some (.int (iN (bi y))), some (.int (iN (dS D w))), some (.int (iN sv)), some (.int (iN k)), none, none, none, none] [] := by
                      intro sv B1 hs1 hs2 F1 P1
                      refine gi_iinc dX6_wordPrice_192 rfl (Nat.le_of_ble_eq_true rfl) rfl ?_
                      refine gg_goto (tgt := 16) dX6_wordPrice_195 (by decide) ?_
                      refine gg_drop 8 ?_
                      refine gg_drop 9 ?_
                      refine gg_drop 10 ?_
                      refine gg_drop 11 ?_
                      refine gg_conv (ih_16 _ (by omega) (k + 1) B1 rfl (by omega) (by rw [← hs1]; exact hs2) F1 P1) rfl (by rw [hs1]; rfl) rfl
                    refine gg_drop 8 ?_
                    refine gg_drop 9 ?_
                    refine gg_drop 10 ?_
                    refine gg_drop 11 ?_
                    have ek : (k + 1).toNat = k.toNat + 1 := by omega
                    have hkp : st + k ≤ dP D := by
                      rcases Int.lt_or_le (dP D) (st + k) with q | q
                      · exfalso; apply c_180; unfold spE; rw [if_pos q]
                      · exact q
                    refine gg_conv (L_192 (sm + spE D i (st + k) m) (uA B' 61 (up (B' 61) (st + k) (spE D i (st + k) m))) ?_ (by omega) (frA_u FB (by decide)) ?_) (by rw [if_pos hkp]) rfl rfl
                    · rw [ek, wpS, Int.toNat_of_nonneg hk.1, if_neg (by omega), if_neg (by rw [hbad]; decide), if_neg (by rw [c_116]; decide), ← hm, if_neg (by omega), hsm]
                    · rw [ek, prW, Int.toNat_of_nonneg hk.1, if_neg (by rw [c_116]; decide), uA_s, EP, ← hm]
                  · refine gi_iconst dX6_wordPrice_183 ?_
                    subst hQF9
                    refine gg_iret dX6_wordPrice_184 rfl rfl ⟨(Nat.le_of_ble_eq_true rfl), (Nat.le_of_ble_eq_true rfl)⟩ ?_
                    have ek : (k + 1).toNat = k.toNat + 1 := by omega
                    have hf : wpS D i w st x y (k + 1).toNat < 0 := by
                      rw [ek, wpS, Int.toNat_of_nonneg hk.1, if_neg (by omega), if_neg (by rw [hbad]; decide), if_neg (by rw [c_116]; decide), ← hm, c_180, if_pos (by decide)]
                      decide
                    have hg := wpS_f (show (k + 1).toNat ≤ (dS D w).toNat by omega) hf
                    refine ⟨_, by unfold wpE; rw [hg], rfl, ?_, fun q => ?_⟩
                    · split
                      · exact frA_u FB (by decide)
                      · exact FB
                    · unfold wpE at q; omega
                refine gg_aload_n dX6_wordPrice_119 rfl rfl ?_
                refine gk_getX6_43 rfl dX6_wordPrice_120 ?_
                refine gg_iload_n dX6_wordPrice_123 rfl ?_
                refine gg_iload dX6_wordPrice_124 rfl ?_
                refine gc_X6_116 rfl dX6_wordPrice_126 ⟨(Nat.le_of_ble_eq_true rfl), (Nat.le_of_ble_eq_true rfl)⟩ ⟨(Nat.le_of_ble_eq_true rfl), (Nat.le_of_ble_eq_true rfl)⟩ (Nat.le_of_ble_eq_true rfl) (HAt.mu gst_50) (c_X5_markAt (R9.fr rfl rfl rfl (FB _ (by decide)) (FB _ (by decide))) hw (k := k) ⟨by omega, by omega⟩) (fun _ _ w => w.elim) (fun r_126 h_126 hp => ?_)
                obtain ⟨rfl, rfl⟩ := hp
                have mr := R9.m_r hw (k := k) ⟨by omega, by omega⟩
                refine gg_istore dX6_wordPrice_129 (Nat.le_of_ble_eq_true rfl) rfl ?_
                refine gg_iload dX6_wordPrice_131 rfl ?_
                refine gi_if_eq (tgt := 165) dX6_wordPrice_133 (by decide) (bi_r _) (fun c_133 => ?_) (fun c_133 => ?_)
                · rw [bi_f] at c_133
                  refine gg_drop 11 ?_
                  refine L_165 _ ?_ mr
                  unfold mkW; rw [if_neg (by rw [c_133]; decide)]
                · rw [bi_t] at c_133
                  have hw1 : 1 ≤ w := hx (by rw [Bool.and_eq_true] at c_133; exact c_133.2)
                  refine gg_iload dX6_wordPrice_136 rfl ?_
                  refine gg_aload_n dX6_wordPrice_138 rfl rfl ?_
                  refine gk_getX6_43 rfl dX6_wordPrice_139 ?_
                  refine gg_iload_n dX6_wordPrice_142 rfl ?_
                  refine gi_iconst dX6_wordPrice_143 ?_
                  refine gi_isub dX6_wordPrice_144 ?_
                  refine gg_aload_n dX6_wordPrice_145 rfl rfl ?_
                  refine gk_getX6_43 rfl dX6_wordPrice_146 ?_
                  refine gg_iload_n dX6_wordPrice_149 rfl ?_
                  refine gi_iconst dX6_wordPrice_150 ?_
                  refine gi_isub dX6_wordPrice_151 ?_
                  refine gc_X6_101 rfl dX6_wordPrice_152 ⟨(Nat.le_of_ble_eq_true rfl), (Nat.le_of_ble_eq_true rfl)⟩ ⟨(Nat.le_of_ble_eq_true rfl), (Nat.le_of_ble_eq_true rfl)⟩ (Nat.le_of_ble_eq_true rfl) (HAt.mu gst_50) (c_X5_countOf (R9.fr rfl rfl rfl (FB _ (by decide)) (FB _ (by decide))) (w := w - 1) ⟨by omega, by omega⟩) (fun _ _ w => w.elim) (fun r_152 h_152 hp => ?_)
                  obtain ⟨rfl, rfl⟩ := hp
                  have sr1 := R9.s_r (w := w - 1) ⟨by omega, by omega⟩
                  refine gi_iconst dX6_wordPrice_155 ?_
                  refine gi_isub dX6_wordPrice_156 ?_
                  refine gc_X6_116 rfl dX6_wordPrice_157 ⟨(Nat.le_of_ble_eq_true rfl), (Nat.le_of_ble_eq_true rfl)⟩ ⟨(Nat.le_of_ble_eq_true rfl), (Nat.le_of_ble_eq_true rfl)⟩ (Nat.le_of_ble_eq_true rfl) (HAt.mu gst_50) (c_X5_markAt (R9.fr rfl rfl rfl (FB _ (by decide)) (FB _ (by decide))) (w := w - 1) (k := dS D (w - 1) - 1) ⟨by omega, by omega⟩ ⟨by omega, by omega⟩) (fun _ _ w => w.elim) (fun r_157 h_157 hp => ?_)
                  obtain ⟨rfl, rfl⟩ := hp
                  have mr1 := R9.m_r (w := w - 1) (k := dS D (w - 1) - 1) ⟨by omega, by omega⟩ ⟨by omega, by omega⟩
                  refine gc_X6_119 rfl dX6_wordPrice_160 ⟨(Nat.le_of_ble_eq_true rfl), (Nat.le_of_ble_eq_true rfl)⟩ ⟨(Nat.le_of_ble_eq_true rfl), (Nat.le_of_ble_eq_true rfl)⟩ ?_
                  rw [iN_max ⟨by omega, by omega⟩ ⟨by omega, by omega⟩]
                  refine gg_istore dX6_wordPrice_163 (Nat.le_of_ble_eq_true rfl) rfl ?_
                  refine gg_drop 11 ?_
                  refine L_165 _ ?_ (by omega)
                  rw [Bool.and_eq_true, decide_eq_true_iff] at c_133
                  unfold mkW; rw [decide_eq_true c_133.1, c_133.2, if_pos (by rfl)]
            refine gg_iload_n dX6_wordPrice_60 rfl ?_
            refine gg_iload dX6_wordPrice_61 rfl ?_
            refine gi_iadd dX6_wordPrice_63 ?_
            refine gg_aload_n dX6_wordPrice_64 rfl rfl ?_
            refine gk_getX6_32 rfl dX6_wordPrice_65 g16 ?_
            refine gc_X6_109 rfl dX6_wordPrice_68 ⟨(Nat.le_of_ble_eq_true rfl), (Nat.le_of_ble_eq_true rfl)⟩ ⟨(Nat.le_of_ble_eq_true rfl), (Nat.le_of_ble_eq_true rfl)⟩ (Nat.le_of_ble_eq_true rfl) (HAt.io t4) (c_X4_behindCaesura (h := gst Γ h G B') M1) (fun _ _ w => w.elim) (fun r_68 h_68 hp => ?_)
            obtain ⟨rfl, rfl⟩ := hp
            obtain ⟨bh, hbh⟩ : ∃ bh : Int, (if dZ D = 0 then -1 else dZ D * szk (dK D)) = bh := ⟨_, rfl⟩
            rw [hbh]
            have hbr : -1 ≤ bh ∧ bh ≤ 18 := by
              rw [← hbh]; rcases z9 with q | q <;> rw [q] <;> split <;> omega
            have hcb : st + k = bh ↔ cae D (st + k) = true := by
              unfold cae; rw [decide_eq_true_iff, ← hbh]; split <;> omega
            refine gi_icmp_ne (tgt := 114) dX6_wordPrice_71 (by decide) ⟨by omega, by omega⟩ ⟨by omega, by omega⟩ (fun c_71 => ?_) (fun c_71 => ?_)
            · refine gg_drop 10 ?_
              refine gg_drop 11 ?_
              have hc0 : cae D (st + k) = false := by
                cases q : cae D (st + k) with | false => rfl | true => exact absurd (hcb.mpr q) c_71
              refine gg_conv (L_114 _ (by rw [hc0, if_neg (by decide), Int.add_zero]) (by rw [hc0]; rfl)) rfl rfl rfl
            · refine gg_iload dX6_wordPrice_74 rfl ?_
              refine gi_if_gt (tgt := 89) dX6_wordPrice_76 (by decide) ⟨by omega, by omega⟩ (fun c_76 => ?_) (fun c_76 => ?_)
              · refine gi_iconst dX6_wordPrice_89 ?_
                subst hQF9
                refine gg_iret dX6_wordPrice_90 rfl rfl ⟨(Nat.le_of_ble_eq_true rfl), (Nat.le_of_ble_eq_true rfl)⟩ ?_
                have ek : (k + 1).toNat = k.toNat + 1 := by omega
                have hf : wpS D i w st x y (k + 1).toNat < 0 := by
                  rw [ek, wpS, Int.toNat_of_nonneg hk.1, if_neg (by omega)]
                  rw [if_pos ?_]
                  · decide
                  rw [hcb.mp c_71, decide_eq_true c_76]; rfl
                have hg := wpS_f (show (k + 1).toNat ≤ (dS D w).toNat by omega) hf
                refine ⟨B', by unfold wpE; rw [hg], rfl, FB, fun q => ?_⟩
                unfold wpE at q; omega
              · refine gg_iload dX6_wordPrice_79 rfl ?_
                refine gi_if_ne (tgt := 89) dX6_wordPrice_81 (by decide) (bi_r _) (fun c_81 => ?_) (fun c_81 => ?_)
                · rw [bi_t] at c_81
                  refine gi_iconst dX6_wordPrice_89 ?_
                  subst hQF9
                  refine gg_iret dX6_wordPrice_90 rfl rfl ⟨(Nat.le_of_ble_eq_true rfl), (Nat.le_of_ble_eq_true rfl)⟩ ?_
                  have ek : (k + 1).toNat = k.toNat + 1 := by omega
                  have hf : wpS D i w st x y (k + 1).toNat < 0 := by
                    rw [ek, wpS, Int.toNat_of_nonneg hk.1, if_neg (by omega)]
                    rw [if_pos ?_]
                    · decide
                    rw [hcb.mp c_71]
                    rw [Bool.and_eq_true] at c_81
                    rw [c_81.2, Bool.or_true]; rfl
                  have hg := wpS_f (show (k + 1).toNat ≤ (dS D w).toNat by omega) hf
                  refine ⟨B', by unfold wpE; rw [hg], rfl, FB, fun q => ?_⟩
                  unfold wpE at q; omega
                · rw [bi_f] at c_81
                  refine gg_iload dX6_wordPrice_84 rfl ?_
                  refine gi_if_eq (tgt := 91) dX6_wordPrice_86 (by decide) (bi_r _) (fun c_86 => ?_) (fun c_86 => ?_)
                  · rw [bi_f] at c_86
                    refine gg_iload dX6_wordPrice_91 rfl ?_
                    refine gg_aload_n dX6_wordPrice_93 rfl rfl ?_
                    have hw1 : 1 ≤ w := h0 (by
                      have hc1 := hcb.mp c_71
                      unfold cae at hc1; rw [decide_eq_true_iff] at hc1
                      rcases z9 with q | q <;> rw [q] at hc1 <;> omega)
                    refine gk_getX6_43 rfl dX6_wordPrice_94 ?_
                    refine gg_iload_n dX6_wordPrice_97 rfl ?_
                    refine gi_iconst dX6_wordPrice_98 ?_
                    refine gi_isub dX6_wordPrice_99 ?_
                    refine gc_X6_112 rfl dX6_wordPrice_100 ⟨(Nat.le_of_ble_eq_true rfl), (Nat.le_of_ble_eq_true rfl)⟩ ⟨(Nat.le_of_ble_eq_true rfl), (Nat.le_of_ble_eq_true rfl)⟩ (Nat.le_of_ble_eq_true rfl) (HAt.mu gst_50) (c_X5_hasCommaBehind r1 r5 (w := w - 1) ⟨by omega, by omega⟩) (fun _ _ w => w.elim) (fun r_100 h_100 hp => ?_)
                    obtain ⟨rfl, rfl⟩ := hp
                    refine gi_if_eq (tgt := 110) dX6_wordPrice_103 (by decide) (bi_r _) (fun c_103 => ?_) (fun c_103 => ?_)
                    · rw [bi_f] at c_103
                      refine gi_iconst dX6_wordPrice_110 ?_
                      refine gi_iadd dX6_wordPrice_111 ?_
                      refine gg_istore dX6_wordPrice_112 (Nat.le_of_ble_eq_true rfl) rfl ?_
                      refine gg_drop 10 ?_
                      refine gg_drop 11 ?_
                      have hc1 := hcb.mp c_71
                      have k0 : k = 0 := by omega
                      have hx0 : x = false := by
                        rw [decide_eq_true k0, Bool.true_and] at c_81; exact c_81
                      refine gg_conv (L_114 _ rfl ?_) rfl (by rw [hc1, if_pos rfl, c_103]; rfl) rfl
                      rw [hc1, hx0, c_86, decide_eq_false (by omega)]; rfl
                    · rw [bi_t] at c_103
                      refine gi_iconst dX6_wordPrice_106 ?_
                      refine gg_goto (tgt := 111) dX6_wordPrice_107 (by decide) ?_
                      refine gi_iadd dX6_wordPrice_111 ?_
                      refine gg_istore dX6_wordPrice_112 (Nat.le_of_ble_eq_true rfl) rfl ?_
                      refine gg_drop 10 ?_
                      refine gg_drop 11 ?_
                      have hc1 := hcb.mp c_71
                      have k0 : k = 0 := by omega
                      have hx0 : x = false := by
                        rw [decide_eq_true k0, Bool.true_and] at c_81; exact c_81
                      refine gg_conv (L_114 _ rfl ?_) rfl (by rw [hc1, if_pos rfl, c_103]; rfl) rfl
                      rw [hc1, hx0, c_86, decide_eq_false (by omega)]; rfl
                  · rw [bi_t] at c_86
                    refine gi_iconst dX6_wordPrice_89 ?_
                    subst hQF9
                    refine gg_iret dX6_wordPrice_90 rfl rfl ⟨(Nat.le_of_ble_eq_true rfl), (Nat.le_of_ble_eq_true rfl)⟩ ?_
                    have ek : (k + 1).toNat = k.toNat + 1 := by omega
                    have hf : wpS D i w st x y (k + 1).toNat < 0 := by
                      rw [ek, wpS, Int.toNat_of_nonneg hk.1, if_neg (by omega)]
                      rw [if_pos ?_]
                      · decide
                      rw [hcb.mp c_71, c_86, Bool.or_true]; rfl
                    have hg := wpS_f (show (k + 1).toNat ≤ (dS D w).toNat by omega) hf
                    refine ⟨B', by unfold wpE; rw [hg], rfl, FB, fun q => ?_⟩
                    unfold wpE at q; omega
          refine gg_iload dX6_wordPrice_39 rfl ?_
          refine gg_iload dX6_wordPrice_41 rfl ?_
          refine gi_iconst dX6_wordPrice_43 ?_
          refine gi_isub dX6_wordPrice_44 ?_
          refine gi_icmp_ne (tgt := 57) dX6_wordPrice_45 (by decide) ⟨by omega, by omega⟩ ⟨by omega, by omega⟩ (fun c_45 => ?_) (fun c_45 => ?_)
          · refine gi_iconst dX6_wordPrice_57 ?_
            refine gg_drop 9 ?_
            refine gg_drop 10 ?_
            refine gg_drop 11 ?_
            exact gg_conv L_58 rfl rfl (by rw [decide_eq_false c_45]; rfl)
          · refine gg_iload dX6_wordPrice_48 rfl ?_
            refine gi_if_eq (tgt := 57) dX6_wordPrice_50 (by decide) (bi_r _) (fun c_50 => ?_) (fun c_50 => ?_)
            · rw [bi_f] at c_50
              refine gi_iconst dX6_wordPrice_57 ?_
              refine gg_drop 9 ?_
              refine gg_drop 10 ?_
              refine gg_drop 11 ?_
              exact gg_conv L_58 rfl rfl (by rw [c_50, Bool.and_false]; rfl)
            · rw [bi_t] at c_50
              refine gi_iconst dX6_wordPrice_53 ?_
              refine gg_goto (tgt := 58) dX6_wordPrice_54 (by decide) ?_
              refine gg_drop 9 ?_
              refine gg_drop 10 ?_
              refine gg_drop 11 ?_
              exact gg_conv L_58 rfl rfl (by rw [decide_eq_true c_45, c_50]; rfl)
        have L_192 : ∀ (sv : Int) (B1 : Nat → Int → Int) (hs1 : sv = wpS D i w st x y (k + 1).toNat) (hs2 : 0 ≤ sv) (F1 : frA [61] B B1) (P1 : B1 61 = prW D i w st x y (B 61) (k + 1).toNat), GG Γ M_X6_wordPrice QF9 (0, 0) (gst Γ h G B1) 192 [some (.ref (g_L Γ 60)), some (.int (iN w)), some (.int (iN st)), some (.int (iN (bi x))), some (.int (iN (bi y))), some (.int (iN (dS D w))), some (.int (iN sv)), some (.int (iN k)), none, none, none, none] [] := by
          intro sv B1 hs1 hs2 F1 P1
          refine gi_iinc dX6_wordPrice_192 rfl (Nat.le_of_ble_eq_true rfl) rfl ?_
          refine gg_goto (tgt := 16) dX6_wordPrice_195 (by decide) ?_
          refine gg_drop 8 ?_
          refine gg_drop 9 ?_
          refine gg_drop 10 ?_
          refine gg_drop 11 ?_
          refine gg_conv (ih_16 _ (by omega) (k + 1) B1 rfl (by omega) (by rw [← hs1]; exact hs2) F1 P1) rfl (by rw [hs1]; rfl) rfl
        refine gg_iload dX6_wordPrice_23 rfl ?_
        refine gi_if_ne (tgt := 36) dX6_wordPrice_25 (by decide) ⟨by omega, by omega⟩ (fun c_25 => ?_) (fun c_25 => ?_)
        · refine gi_iconst dX6_wordPrice_36 ?_
          refine gg_drop 8 ?_
          refine gg_drop 9 ?_
          refine gg_drop 10 ?_
          refine gg_drop 11 ?_
          exact gg_conv L_37 rfl rfl (by rw [decide_eq_false c_25]; rfl)
        · refine gg_iload_n dX6_wordPrice_28 rfl ?_
          refine gi_if_eq (tgt := 36) dX6_wordPrice_29 (by decide) (bi_r _) (fun c_29 => ?_) (fun c_29 => ?_)
          · rw [bi_f] at c_29
            refine gi_iconst dX6_wordPrice_36 ?_
            refine gg_drop 8 ?_
            refine gg_drop 9 ?_
            refine gg_drop 10 ?_
            refine gg_drop 11 ?_
            exact gg_conv L_37 rfl rfl (by rw [c_29, Bool.and_false]; rfl)
          · rw [bi_t] at c_29
            refine gi_iconst dX6_wordPrice_32 ?_
            refine gg_goto (tgt := 37) dX6_wordPrice_33 (by decide) ?_
            refine gg_drop 8 ?_
            refine gg_drop 9 ?_
            refine gg_drop 10 ?_
            refine gg_drop 11 ?_
            exact gg_conv L_37 rfl rfl (by rw [decide_eq_true c_25, c_29]; rfl)
  refine gg_drop 8 ?_
  refine gg_drop 9 ?_
  refine gg_drop 10 ?_
  refine gg_drop 11 ?_
  exact L_16 _ 0 B rfl (by omega) (by simp [wpS]) (fun _ _ => rfl) rfl
