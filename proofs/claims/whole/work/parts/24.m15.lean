/-! the reference: accounts -/
theorem ally_LE {F G : Nat → Int} {A B : Nat → Int → Int} (E : LE F A G B) : ∀ k : Nat, (k : Int) ≤ F 16 → ally A k = ally B k
  | 0, _ => rfl
  | k + 1, hk => by rw [ally, ally, ally_LE E k (by omega), (E.2 k (by omega) (by omega)).2.2.1]
def exC (a : Int → Int) (d l : Int) : Nat → Int
  | 0 => 0
  | k + 1 => exC a d l k + (if exO a a (qwi a d l k) (nwi a d l k) < 0 then 0 else 1)
/-- what a line adds to an account -/
def olV (a : Int → Int) (d l w : Int) : Int :=
  if w = 1 then (if 0 ≤ (bsC a d l (a 0) (a 1) (a 2)).1 ∧ (bsC a d l (a 0) (a 1) (a 2)).1 ≤ a 3 then 1 else 0)
  else if w = 2 then (if 0 ≤ (bsC a d l (a 0) (a 1) (a 2)).1 then (bsC a d l (a 0) (a 1) (a 2)).1 else 0)
  else if w = 3 then (if 0 ≤ (bsC a d l (a 0) (a 1) (a 2)).1 then 0 else 1)
  else if w = 5 then ally (LAc a d l) (lnW a d l).length
  else if w = 6 then (if 0 ≤ (bsC a d l (a 0) (a 1) (a 2)).1 then btc (bsC a d l (a 0) (a 1) (a 2)).2.1 12 else 0)
  else exC a d l (lnW a d l).length
def smV (a : Int → Int) (d w : Int) : Nat → Int
  | 0 => 0
  | l + 1 => smV a d w l + olV a d l w
set_option maxRecDepth 100000 in
set_option maxHeartbeats 4000000 in
theorem c_X10_ofLine {Γ : GT} {h : XH} {F : Nat → Int} {A : Nat → Int → Int} (S : StA (A 1)) (N : LnA (A 1)) (E9 : ExA (A 1)) (h38 : F 38 = 0 ∨ F 38 = 1) {d l : Int} (hd : 0 ≤ d ∧ d ≤ 3) (hl : 0 ≤ l ∧ l < A 1 (5 + d)) {w : Int} (hw : InR w) : Ct Γ M_X10_ofLine [.ref (g_L Γ 0), .int (iN d), .int (iN l), .int (iN w)] (mst Γ h F A) (fun r h9 => ∃ (F2 : Nat → Int) (A2 : Nat → Int → Int), r = some (.int (iN (olV (A 1) d l w))) ∧ h9 = mst Γ h F2 A2 ∧ frF [16, 24, 25, 27, 28, 29, 30, 34, 35, 36, 37, 38] F F2 ∧ frA [8, 9, 10, 11, 12, 13, 14, 15, 16, 17, 18] A A2 ∧ (F2 38 = 0 ∨ F2 38 = 1)) (fun _ _ => False) := by
  refine Ct.of rfl (by decide +kernel) (Nat.le_of_ble_eq_true rfl) ?_
  generalize hQF9 : QM Γ _ _ _ = QF9
  obtain ⟨t0, t1, t2, t3, t4, t5, t6⟩ := id S
  refine gg_aload_n dX10_ofLine_0 rfl rfl ?_
  refine gg_iload_n dX10_ofLine_1 rfl ?_
  refine gg_iload_n dX10_ofLine_2 rfl ?_
  refine gc_X10_303 rfl dX10_ofLine_3 ⟨(Nat.le_of_ble_eq_true rfl), (Nat.le_of_ble_eq_true rfl)⟩ ⟨(Nat.le_of_ble_eq_true rfl), (Nat.le_of_ble_eq_true rfl)⟩ (Nat.le_of_ble_eq_true rfl) (HAt.mu rfl) (c_X10_scansLine S N E9 h38 hd hl) (fun _ _ w => w.elim) (fun r_3 h_3 hp => ?_)
  obtain ⟨F1, F2, A1, A2, rfl, rfl, hL, hF, hA, hA2, e16, e27, e28, e29, okb, hb⟩ := hp
  have hq := bsC_e S N E9 hd hl hL (kd := A 1 0) (cs := A 1 2) (x := F 36) (y := F 38) t1 t2
  rw [bst9] at hb
  rw [← hb] at hq
  have b34 : F2 34 = (bsC (A 1) d l (A 1 0) (A 1 1) (A 1 2)).1 := hq.1
  have b35 : F2 35 = (bsC (A 1) d l (A 1 0) (A 1 1) (A 1 2)).2.1 := hq.2.1
  obtain ⟨o1, o2, o3⟩ := id okb
  dsimp only [bof] at o1 o2 o3
  have fA : frA [8, 9, 10, 11, 12, 13, 14, 15, 16, 17, 18] A A2 := fun j hj => by rw [hA2 j (fun q => hj (by revert q; simp; omega)), hA j (fun q => hj (by revert q; simp; omega))]
  have g2 : A2 1 = A 1 := fA 1 (by decide)
  have h8 : A2 8 = A1 8 := hA2 8 (by decide)
  have h9b : A2 9 = A1 9 := hA2 9 (by decide)
  have h10 : A2 10 = A1 10 := hA2 10 (by decide)
  have h11 : A2 11 = A1 11 := hA2 11 (by decide)
  have h12 : A2 12 = A1 12 := hA2 12 (by decide)
  have h13 : A2 13 = A1 13 := hA2 13 (by decide)
  have h14 : A2 14 = A1 14 := hA2 14 (by decide)
  have hL2 : LD (A 1) d l F2 A2 := LD_ext hL e16 h8 h9b h10 h11 h12 h13 h14
  have k16 := hL2.1.1
  have k17 := hL2.2.1
  have E2 := LD_LE hL2 (LD_c S N E9 hd hl)
  obtain ⟨c9, hc9⟩ : ∃ c9, c9 = (bsC (A 1) d l (A 1 0) (A 1 1) (A 1 2)).1 := ⟨_, rfl⟩
  rw [← hc9] at b34
  rw [b34] at o1
  refine gg_aload_n dX10_ofLine_6 rfl rfl ?_
  refine gm_get115 rfl dX10_ofLine_7 b34 ?_
  refine gi_if_lt (tgt := 17) dX10_ofLine_10 (by decide) ⟨by omega, by omega⟩ (fun c_10 => ?_) (fun c_10 => ?_)
  · refine gi_iconst dX10_ofLine_17 ?_
    refine gg_istore dX10_ofLine_18 (Nat.le_of_ble_eq_true rfl) rfl ?_
    refine gg_iload_n dX10_ofLine_20 rfl ?_
    by_cases w_21_0 : w = 1
    · refine gi_tab (tgt := 60) dX10_ofLine_21 hw (by omega) (by omega) (by rw [w_21_0]; rfl) (by decide) ?_
      refine gg_iload dX10_ofLine_60 rfl ?_
      refine gi_if_eq (tgt := 82) dX10_ofLine_62 (by decide) ⟨by omega, by omega⟩ (fun c9 => ?_) (fun c9 => absurd c9 (by decide))
      refine gi_iconst dX10_ofLine_82 ?_
      subst hQF9
      refine gg_iret dX10_ofLine_83 rfl rfl ⟨(Nat.le_of_ble_eq_true rfl), (Nat.le_of_ble_eq_true rfl)⟩ ?_
      refine ⟨F2, A2, ?_, rfl, hF, fA, o3⟩
      rw [olV, if_pos w_21_0, ← hc9, if_neg (fun q => absurd q.1 (by omega))]
    by_cases w_21_1 : w = 2
    · refine gi_tab (tgt := 84) dX10_ofLine_21 hw (by omega) (by omega) (by rw [w_21_1]; rfl) (by decide) ?_
      refine gg_iload dX10_ofLine_84 rfl ?_
      refine gi_if_eq (tgt := 96) dX10_ofLine_86 (by decide) ⟨by omega, by omega⟩ (fun c9 => ?_) (fun c9 => absurd c9 (by decide))
      refine gi_iconst dX10_ofLine_96 ?_
      subst hQF9
      refine gg_iret dX10_ofLine_97 rfl rfl ⟨(Nat.le_of_ble_eq_true rfl), (Nat.le_of_ble_eq_true rfl)⟩ ?_
      refine ⟨F2, A2, ?_, rfl, hF, fA, o3⟩
      rw [olV, if_neg w_21_0, if_pos w_21_1, ← hc9, if_neg (by omega)]
    by_cases w_21_2 : w = 3
    · refine gi_tab (tgt := 98) dX10_ofLine_21 hw (by omega) (by omega) (by rw [w_21_2]; rfl) (by decide) ?_
      refine gg_iload dX10_ofLine_98 rfl ?_
      refine gi_if_eq (tgt := 107) dX10_ofLine_100 (by decide) ⟨by omega, by omega⟩ (fun c9 => ?_) (fun c9 => absurd c9 (by decide))
      refine gi_iconst dX10_ofLine_107 ?_
      subst hQF9
      refine gg_iret dX10_ofLine_108 rfl rfl ⟨(Nat.le_of_ble_eq_true rfl), (Nat.le_of_ble_eq_true rfl)⟩ ?_
      refine ⟨F2, A2, ?_, rfl, hF, fA, o3⟩
      rw [olV, if_neg w_21_0, if_neg w_21_1, if_pos w_21_2, ← hc9, if_neg (by omega)]
    by_cases w_21_3 : w = 4
    · refine gi_tab (tgt := 131) dX10_ofLine_21 hw (by omega) (by omega) (by rw [w_21_3]; rfl) (by decide) ?_
      refine gi_iconst dX10_ofLine_131 ?_
      refine gg_istore dX10_ofLine_132 (Nat.le_of_ble_eq_true rfl) rfl ?_
      refine gi_iconst dX10_ofLine_134 ?_
      refine gg_istore dX10_ofLine_135 (Nat.le_of_ble_eq_true rfl) rfl ?_
      have L_137 : ∀ (n9 : Nat) (k : Int), ((F2 16 - k).toNat) = n9 → ∀ (hk : 0 ≤ k ∧ k ≤ F2 16), GG Γ M_X10_ofLine QF9 (0, 0) (mst Γ h F2 A2) 137 [some (.ref (g_L Γ 0)), some (.int (iN d)), some (.int (iN l)), none, none, some (.int (iN (exC (A 1) d l k.toNat))), some (.int (iN k))] [] := by
        intro n9
        induction n9 using Nat.strongRecOn with
        | ind n9 ih_137 => 
          intro k hm9 hk
          refine gg_iload dX10_ofLine_137 rfl ?_
          refine gg_aload_n dX10_ofLine_139 rfl rfl ?_
          refine gm_get60 rfl dX10_ofLine_140 (by (try simp only [uF_s, uF_n, ne_eq, not_false_eq_true, Nat.reduceEqDiff, reduceCtorEq]); rfl) ?_
          refine gi_icmp_ge (tgt := 187) dX10_ofLine_143 (by decide) ⟨by omega, by omega⟩ ⟨by omega, by omega⟩ (fun c_143 => ?_) (fun c_143 => ?_)
          · refine gg_iload dX10_ofLine_187 rfl ?_
            subst hQF9
            refine gg_iret dX10_ofLine_189 rfl rfl ⟨(Nat.le_of_ble_eq_true rfl), (Nat.le_of_ble_eq_true rfl)⟩ ?_
            refine ⟨F2, A2, ?_, rfl, hF, fA, o3⟩
            rw [olV, if_neg (by omega), if_neg (by omega), if_neg (by omega), if_neg (by omega), if_neg (by omega), show k.toNat = (lnW (A 1) d l).length by omega]
          · obtain ⟨pv, lenv, cv, x1, x2, x3, x4⟩ := LD_at N hd hl (t5 d (by omega) (by omega)).2 hL2 (w := k) (by omega) (by omega)
            have xq : A2 8 k = qwi (A 1) d l k := (E2.2 k (by omega) (by omega)).1.symm
            have xn : A2 9 k = nwi (A 1) d l k := (E2.2 k (by omega) (by omega)).2.1.symm
            refine gg_iload dX10_ofLine_146 rfl ?_
            refine gg_aload_n dX10_ofLine_148 rfl rfl ?_
            refine gg_aload_n dX10_ofLine_149 rfl rfl ?_
            refine gm_get13 rfl dX10_ofLine_150 ?_
            refine gg_aload_n dX10_ofLine_153 rfl rfl ?_
            refine gm_get63 rfl dX10_ofLine_154 ?_
            refine gg_iload dX10_ofLine_157 rfl ?_
            refine gm_iald dX10_ofLine_159 (by decide) rfl (by decide) ⟨by omega, by simp only [ml9]; omega⟩ (by (try simp only [uA_s, uA_n, ne_eq, not_false_eq_true, Nat.reduceEqDiff, reduceCtorEq]); rfl) ?_
            refine gg_aload_n dX10_ofLine_160 rfl rfl ?_
            refine gm_get66 rfl dX10_ofLine_161 ?_
            refine gg_iload dX10_ofLine_164 rfl ?_
            refine gm_iald dX10_ofLine_166 (by decide) rfl (by decide) ⟨by omega, by simp only [ml9]; omega⟩ (by (try simp only [uA_s, uA_n, ne_eq, not_false_eq_true, Nat.reduceEqDiff, reduceCtorEq]); rfl) ?_
            refine gc_X10_214 rfl dX10_ofLine_167 ⟨(Nat.le_of_ble_eq_true rfl), (Nat.le_of_ble_eq_true rfl)⟩ ⟨(Nat.le_of_ble_eq_true rfl), (Nat.le_of_ble_eq_true rfl)⟩ (Nat.le_of_ble_eq_true rfl) (HAt.mu rfl) (c_X10_exceptionOf (A := A2) (j := 1) (by rw [g2]; exact S) (by decide) rfl (by decide) ⟨by omega, by omega⟩ ⟨by omega, by show _ ≤ (2609 : Int); omega⟩ (by rw [g2]; exact t6)) (fun _ _ w => w.elim) (fun r_167 h_167 hp => ?_)
            obtain ⟨rfl, rfl⟩ := hp
            rw [g2, xq, xn]
            have hxr := exO_r (a := A 1) (r := A 1) (fr := qwi (A 1) d l k) (n := nwi (A 1) d l k) t4.1
            refine gi_if_lt (tgt := 177) dX10_ofLine_170 (by decide) ⟨by omega, by omega⟩ (fun c_170 => ?_) (fun c_170 => ?_)
            · refine gi_iconst dX10_ofLine_177 ?_
              refine gi_iadd dX10_ofLine_178 ?_
              refine gg_istore dX10_ofLine_179 (Nat.le_of_ble_eq_true rfl) rfl ?_
              refine gi_iinc dX10_ofLine_181 rfl (Nat.le_of_ble_eq_true rfl) rfl ?_
              refine gg_goto (tgt := 137) dX10_ofLine_184 (by decide) ?_
              refine gg_drop 3 ?_
              refine gg_drop 4 ?_
              have ek : (k + 1).toNat = k.toNat + 1 := by omega
              exact gg_conv (ih_137 _ (by omega) (k + 1) rfl (by omega)) rfl (by simp only [ek, exC, Int.toNat_of_nonneg hk.1, if_pos c_170]; rfl) rfl
            · refine gi_iconst dX10_ofLine_173 ?_
              refine gg_goto (tgt := 178) dX10_ofLine_174 (by decide) ?_
              refine gi_iadd dX10_ofLine_178 ?_
              refine gg_istore dX10_ofLine_179 (Nat.le_of_ble_eq_true rfl) rfl ?_
              refine gi_iinc dX10_ofLine_181 rfl (Nat.le_of_ble_eq_true rfl) rfl ?_
              refine gg_goto (tgt := 137) dX10_ofLine_184 (by decide) ?_
              refine gg_drop 3 ?_
              refine gg_drop 4 ?_
              have ek : (k + 1).toNat = k.toNat + 1 := by omega
              exact gg_conv (ih_137 _ (by omega) (k + 1) rfl (by omega)) rfl (by simp only [ek, exC, Int.toNat_of_nonneg hk.1, if_neg (show ¬ exO (A 1) (A 1) (qwi (A 1) d l k) (nwi (A 1) d l k) < 0 by omega)]; rfl) rfl
      refine gg_drop 3 ?_
      refine gg_drop 4 ?_
      exact L_137 _ 0 rfl (by omega)
    by_cases w_21_4 : w = 5
    · refine gi_tab (tgt := 109) dX10_ofLine_21 hw (by omega) (by omega) (by rw [w_21_4]; rfl) (by decide) ?_
      refine gg_aload_n dX10_ofLine_109 rfl rfl ?_
      refine gc_X10_310 rfl dX10_ofLine_110 ⟨(Nat.le_of_ble_eq_true rfl), (Nat.le_of_ble_eq_true rfl)⟩ ⟨(Nat.le_of_ble_eq_true rfl), (Nat.le_of_ble_eq_true rfl)⟩ (Nat.le_of_ble_eq_true rfl) (HAt.mu rfl) (c_X10_allSyllables hL2.1) (fun _ _ w => w.elim) (fun r_110 h_110 hp => ?_)
      obtain ⟨rfl, rfl⟩ := hp
      subst hQF9
      refine gg_iret dX10_ofLine_113 rfl rfl ⟨(Nat.le_of_ble_eq_true rfl), (Nat.le_of_ble_eq_true rfl)⟩ ?_
      refine ⟨F2, A2, ?_, rfl, hF, fA, o3⟩
      rw [olV, if_neg w_21_0, if_neg w_21_1, if_neg w_21_2, if_pos w_21_4, ally_LE E2 (F2 16).toNat (by omega), k17, Int.toNat_natCast]
    by_cases w_21_5 : w = 6
    · refine gi_tab (tgt := 114) dX10_ofLine_21 hw (by omega) (by omega) (by rw [w_21_5]; rfl) (by decide) ?_
      refine gg_iload dX10_ofLine_114 rfl ?_
      refine gi_if_eq (tgt := 129) dX10_ofLine_116 (by decide) ⟨by omega, by omega⟩ (fun c9 => ?_) (fun c9 => absurd c9 (by decide))
      refine gi_iconst dX10_ofLine_129 ?_
      subst hQF9
      refine gg_iret dX10_ofLine_130 rfl rfl ⟨(Nat.le_of_ble_eq_true rfl), (Nat.le_of_ble_eq_true rfl)⟩ ?_
      refine ⟨F2, A2, ?_, rfl, hF, fA, o3⟩
      rw [olV, if_neg w_21_0, if_neg w_21_1, if_neg w_21_2, if_neg w_21_4, if_pos w_21_5, ← hc9, if_neg (by omega)]
    refine gi_tabD (tgt := 131) dX10_ofLine_21 hw (by omega) (by decide) ?_
    refine gi_iconst dX10_ofLine_131 ?_
    refine gg_istore dX10_ofLine_132 (Nat.le_of_ble_eq_true rfl) rfl ?_
    refine gi_iconst dX10_ofLine_134 ?_
    refine gg_istore dX10_ofLine_135 (Nat.le_of_ble_eq_true rfl) rfl ?_
    have L_137 : ∀ (n9 : Nat) (k : Int), ((F2 16 - k).toNat) = n9 → ∀ (hk : 0 ≤ k ∧ k ≤ F2 16), GG Γ M_X10_ofLine QF9 (0, 0) (mst Γ h F2 A2) 137 [some (.ref (g_L Γ 0)), some (.int (iN d)), some (.int (iN l)), none, none, some (.int (iN (exC (A 1) d l k.toNat))), some (.int (iN k))] [] := by
      intro n9
      induction n9 using Nat.strongRecOn with
      | ind n9 ih_137 => 
        intro k hm9 hk
        refine gg_iload dX10_ofLine_137 rfl ?_
        refine gg_aload_n dX10_ofLine_139 rfl rfl ?_
        refine gm_get60 rfl dX10_ofLine_140 (by (try simp only [uF_s, uF_n, ne_eq, not_false_eq_true, Nat.reduceEqDiff, reduceCtorEq]); rfl) ?_
        refine gi_icmp_ge (tgt := 187) dX10_ofLine_143 (by decide) ⟨by omega, by omega⟩ ⟨by omega, by omega⟩ (fun c_143 => ?_) (fun c_143 => ?_)
        · refine gg_iload dX10_ofLine_187 rfl ?_
          subst hQF9
          refine gg_iret dX10_ofLine_189 rfl rfl ⟨(Nat.le_of_ble_eq_true rfl), (Nat.le_of_ble_eq_true rfl)⟩ ?_
          refine ⟨F2, A2, ?_, rfl, hF, fA, o3⟩
          rw [olV, if_neg (by omega), if_neg (by omega), if_neg (by omega), if_neg (by omega), if_neg (by omega), show k.toNat = (lnW (A 1) d l).length by omega]
        · obtain ⟨pv, lenv, cv, x1, x2, x3, x4⟩ := LD_at N hd hl (t5 d (by omega) (by omega)).2 hL2 (w := k) (by omega) (by omega)
          have xq : A2 8 k = qwi (A 1) d l k := (E2.2 k (by omega) (by omega)).1.symm
          have xn : A2 9 k = nwi (A 1) d l k := (E2.2 k (by omega) (by omega)).2.1.symm
          refine gg_iload dX10_ofLine_146 rfl ?_
          refine gg_aload_n dX10_ofLine_148 rfl rfl ?_
          refine gg_aload_n dX10_ofLine_149 rfl rfl ?_
          refine gm_get13 rfl dX10_ofLine_150 ?_
          refine gg_aload_n dX10_ofLine_153 rfl rfl ?_
          refine gm_get63 rfl dX10_ofLine_154 ?_
          refine gg_iload dX10_ofLine_157 rfl ?_
          refine gm_iald dX10_ofLine_159 (by decide) rfl (by decide) ⟨by omega, by simp only [ml9]; omega⟩ (by (try simp only [uA_s, uA_n, ne_eq, not_false_eq_true, Nat.reduceEqDiff, reduceCtorEq]); rfl) ?_
          refine gg_aload_n dX10_ofLine_160 rfl rfl ?_
          refine gm_get66 rfl dX10_ofLine_161 ?_
          refine gg_iload dX10_ofLine_164 rfl ?_
          refine gm_iald dX10_ofLine_166 (by decide) rfl (by decide) ⟨by omega, by simp only [ml9]; omega⟩ (by (try simp only [uA_s, uA_n, ne_eq, not_false_eq_true, Nat.reduceEqDiff, reduceCtorEq]); rfl) ?_
          refine gc_X10_214 rfl dX10_ofLine_167 ⟨(Nat.le_of_ble_eq_true rfl), (Nat.le_of_ble_eq_true rfl)⟩ ⟨(Nat.le_of_ble_eq_true rfl), (Nat.le_of_ble_eq_true rfl)⟩ (Nat.le_of_ble_eq_true rfl) (HAt.mu rfl) (c_X10_exceptionOf (A := A2) (j := 1) (by rw [g2]; exact S) (by decide) rfl (by decide) ⟨by omega, by omega⟩ ⟨by omega, by show _ ≤ (2609 : Int); omega⟩ (by rw [g2]; exact t6)) (fun _ _ w => w.elim) (fun r_167 h_167 hp => ?_)
          obtain ⟨rfl, rfl⟩ := hp
          rw [g2, xq, xn]
          have hxr := exO_r (a := A 1) (r := A 1) (fr := qwi (A 1) d l k) (n := nwi (A 1) d l k) t4.1
          refine gi_if_lt (tgt := 177) dX10_ofLine_170 (by decide) ⟨by omega, by omega⟩ (fun c_170 => ?_) (fun c_170 => ?_)
          · refine gi_iconst dX10_ofLine_177 ?_
            refine gi_iadd dX10_ofLine_178 ?_
            refine gg_istore dX10_ofLine_179 (Nat.le_of_ble_eq_true rfl) rfl ?_
            refine gi_iinc dX10_ofLine_181 rfl (Nat.le_of_ble_eq_true rfl) rfl ?_
            refine gg_goto (tgt := 137) dX10_ofLine_184 (by decide) ?_
            refine gg_drop 3 ?_
            refine gg_drop 4 ?_
            have ek : (k + 1).toNat = k.toNat + 1 := by omega
            exact gg_conv (ih_137 _ (by omega) (k + 1) rfl (by omega)) rfl (by simp only [ek, exC, Int.toNat_of_nonneg hk.1, if_pos c_170]; rfl) rfl
          · refine gi_iconst dX10_ofLine_173 ?_
            refine gg_goto (tgt := 178) dX10_ofLine_174 (by decide) ?_
            refine gi_iadd dX10_ofLine_178 ?_
            refine gg_istore dX10_ofLine_179 (Nat.le_of_ble_eq_true rfl) rfl ?_
            refine gi_iinc dX10_ofLine_181 rfl (Nat.le_of_ble_eq_true rfl) rfl ?_
            refine gg_goto (tgt := 137) dX10_ofLine_184 (by decide) ?_
            refine gg_drop 3 ?_
            refine gg_drop 4 ?_
            have ek : (k + 1).toNat = k.toNat + 1 := by omega
            exact gg_conv (ih_137 _ (by omega) (k + 1) rfl (by omega)) rfl (by simp only [ek, exC, Int.toNat_of_nonneg hk.1, if_neg (show ¬ exO (A 1) (A 1) (qwi (A 1) d l k) (nwi (A 1) d l k) < 0 by omega)]; rfl) rfl
    refine gg_drop 3 ?_
    refine gg_drop 4 ?_
    exact L_137 _ 0 rfl (by omega)
  · refine gi_iconst dX10_ofLine_13 ?_
    refine gg_goto (tgt := 18) dX10_ofLine_14 (by decide) ?_
    refine gg_istore dX10_ofLine_18 (Nat.le_of_ble_eq_true rfl) rfl ?_
    refine gg_iload_n dX10_ofLine_20 rfl ?_
    by_cases w_21_0 : w = 1
    · refine gi_tab (tgt := 60) dX10_ofLine_21 hw (by omega) (by omega) (by rw [w_21_0]; rfl) (by decide) ?_
      refine gg_iload dX10_ofLine_60 rfl ?_
      refine gi_if_eq (tgt := 82) dX10_ofLine_62 (by decide) ⟨by omega, by omega⟩ (fun c9 => absurd c9 (by decide)) (fun c9 => ?_)
      refine gg_aload_n dX10_ofLine_65 rfl rfl ?_
      refine gm_get115 rfl dX10_ofLine_66 b34 ?_
      refine gg_aload_n dX10_ofLine_69 rfl rfl ?_
      refine gm_get13 rfl dX10_ofLine_70 ?_
      refine gi_iconst dX10_ofLine_73 ?_
      refine gm_iald dX10_ofLine_74 (by decide) rfl (by decide) ⟨by omega, by simp only [ml9]; omega⟩ (congrFun g2 _) ?_
      refine gi_icmp_gt (tgt := 82) dX10_ofLine_75 (by decide) ⟨by omega, by omega⟩ ⟨by omega, by omega⟩ (fun c_75 => ?_) (fun c_75 => ?_)
      · refine gi_iconst dX10_ofLine_82 ?_
        subst hQF9
        refine gg_iret dX10_ofLine_83 rfl rfl ⟨(Nat.le_of_ble_eq_true rfl), (Nat.le_of_ble_eq_true rfl)⟩ ?_
        refine ⟨F2, A2, ?_, rfl, hF, fA, o3⟩
        rw [olV, if_pos w_21_0, ← hc9, if_neg (by omega)]
      · refine gi_iconst dX10_ofLine_78 ?_
        refine gg_goto (tgt := 83) dX10_ofLine_79 (by decide) ?_
        subst hQF9
        refine gg_iret dX10_ofLine_83 rfl rfl ⟨(Nat.le_of_ble_eq_true rfl), (Nat.le_of_ble_eq_true rfl)⟩ ?_
        refine ⟨F2, A2, ?_, rfl, hF, fA, o3⟩
        rw [olV, if_pos w_21_0, ← hc9, if_pos ⟨by omega, by omega⟩]
    by_cases w_21_1 : w = 2
    · refine gi_tab (tgt := 84) dX10_ofLine_21 hw (by omega) (by omega) (by rw [w_21_1]; rfl) (by decide) ?_
      refine gg_iload dX10_ofLine_84 rfl ?_
      refine gi_if_eq (tgt := 96) dX10_ofLine_86 (by decide) ⟨by omega, by omega⟩ (fun c9 => absurd c9 (by decide)) (fun c9 => ?_)
      refine gg_aload_n dX10_ofLine_89 rfl rfl ?_
      refine gm_get115 rfl dX10_ofLine_90 b34 ?_
      refine gg_goto (tgt := 97) dX10_ofLine_93 (by decide) ?_
      subst hQF9
      refine gg_iret dX10_ofLine_97 rfl rfl ⟨(Nat.le_of_ble_eq_true rfl), (Nat.le_of_ble_eq_true rfl)⟩ ?_
      refine ⟨F2, A2, ?_, rfl, hF, fA, o3⟩
      rw [olV, if_neg w_21_0, if_pos w_21_1, ← hc9, if_pos (by omega)]
    by_cases w_21_2 : w = 3
    · refine gi_tab (tgt := 98) dX10_ofLine_21 hw (by omega) (by omega) (by rw [w_21_2]; rfl) (by decide) ?_
      refine gg_iload dX10_ofLine_98 rfl ?_
      refine gi_if_eq (tgt := 107) dX10_ofLine_100 (by decide) ⟨by omega, by omega⟩ (fun c9 => absurd c9 (by decide)) (fun c9 => ?_)
      refine gi_iconst dX10_ofLine_103 ?_
      refine gg_goto (tgt := 108) dX10_ofLine_104 (by decide) ?_
      subst hQF9
      refine gg_iret dX10_ofLine_108 rfl rfl ⟨(Nat.le_of_ble_eq_true rfl), (Nat.le_of_ble_eq_true rfl)⟩ ?_
      refine ⟨F2, A2, ?_, rfl, hF, fA, o3⟩
      rw [olV, if_neg w_21_0, if_neg w_21_1, if_pos w_21_2, ← hc9, if_pos (by omega)]
    by_cases w_21_3 : w = 4
    · refine gi_tab (tgt := 131) dX10_ofLine_21 hw (by omega) (by omega) (by rw [w_21_3]; rfl) (by decide) ?_
      refine gi_iconst dX10_ofLine_131 ?_
      refine gg_istore dX10_ofLine_132 (Nat.le_of_ble_eq_true rfl) rfl ?_
      refine gi_iconst dX10_ofLine_134 ?_
      refine gg_istore dX10_ofLine_135 (Nat.le_of_ble_eq_true rfl) rfl ?_
      have L_137 : ∀ (n9 : Nat) (k : Int), ((F2 16 - k).toNat) = n9 → ∀ (hk : 0 ≤ k ∧ k ≤ F2 16), GG Γ M_X10_ofLine QF9 (0, 0) (mst Γ h F2 A2) 137 [some (.ref (g_L Γ 0)), some (.int (iN d)), some (.int (iN l)), none, none, some (.int (iN (exC (A 1) d l k.toNat))), some (.int (iN k))] [] := by
        intro n9
        induction n9 using Nat.strongRecOn with
        | ind n9 ih_137 => 
          intro k hm9 hk
          refine gg_iload dX10_ofLine_137 rfl ?_
          refine gg_aload_n dX10_ofLine_139 rfl rfl ?_
          refine gm_get60 rfl dX10_ofLine_140 (by (try simp only [uF_s, uF_n, ne_eq, not_false_eq_true, Nat.reduceEqDiff, reduceCtorEq]); rfl) ?_
          refine gi_icmp_ge (tgt := 187) dX10_ofLine_143 (by decide) ⟨by omega, by omega⟩ ⟨by omega, by omega⟩ (fun c_143 => ?_) (fun c_143 => ?_)
          · refine gg_iload dX10_ofLine_187 rfl ?_
            subst hQF9
            refine gg_iret dX10_ofLine_189 rfl rfl ⟨(Nat.le_of_ble_eq_true rfl), (Nat.le_of_ble_eq_true rfl)⟩ ?_
            refine ⟨F2, A2, ?_, rfl, hF, fA, o3⟩
            rw [olV, if_neg (by omega), if_neg (by omega), if_neg (by omega), if_neg (by omega), if_neg (by omega), show k.toNat = (lnW (A 1) d l).length by omega]
          · obtain ⟨pv, lenv, cv, x1, x2, x3, x4⟩ := LD_at N hd hl (t5 d (by omega) (by omega)).2 hL2 (w := k) (by omega) (by omega)
            have xq : A2 8 k = qwi (A 1) d l k := (E2.2 k (by omega) (by omega)).1.symm
            have xn : A2 9 k = nwi (A 1) d l k := (E2.2 k (by omega) (by omega)).2.1.symm
            refine gg_iload dX10_ofLine_146 rfl ?_
            refine gg_aload_n dX10_ofLine_148 rfl rfl ?_
            refine gg_aload_n dX10_ofLine_149 rfl rfl ?_
            refine gm_get13 rfl dX10_ofLine_150 ?_
            refine gg_aload_n dX10_ofLine_153 rfl rfl ?_
            refine gm_get63 rfl dX10_ofLine_154 ?_
            refine gg_iload dX10_ofLine_157 rfl ?_
            refine gm_iald dX10_ofLine_159 (by decide) rfl (by decide) ⟨by omega, by simp only [ml9]; omega⟩ (by (try simp only [uA_s, uA_n, ne_eq, not_false_eq_true, Nat.reduceEqDiff, reduceCtorEq]); rfl) ?_
            refine gg_aload_n dX10_ofLine_160 rfl rfl ?_
            refine gm_get66 rfl dX10_ofLine_161 ?_
            refine gg_iload dX10_ofLine_164 rfl ?_
            refine gm_iald dX10_ofLine_166 (by decide) rfl (by decide) ⟨by omega, by simp only [ml9]; omega⟩ (by (try simp only [uA_s, uA_n, ne_eq, not_false_eq_true, Nat.reduceEqDiff, reduceCtorEq]); rfl) ?_
            refine gc_X10_214 rfl dX10_ofLine_167 ⟨(Nat.le_of_ble_eq_true rfl), (Nat.le_of_ble_eq_true rfl)⟩ ⟨(Nat.le_of_ble_eq_true rfl), (Nat.le_of_ble_eq_true rfl)⟩ (Nat.le_of_ble_eq_true rfl) (HAt.mu rfl) (c_X10_exceptionOf (A := A2) (j := 1) (by rw [g2]; exact S) (by decide) rfl (by decide) ⟨by omega, by omega⟩ ⟨by omega, by show _ ≤ (2609 : Int); omega⟩ (by rw [g2]; exact t6)) (fun _ _ w => w.elim) (fun r_167 h_167 hp => ?_)
            obtain ⟨rfl, rfl⟩ := hp
            rw [g2, xq, xn]
            have hxr := exO_r (a := A 1) (r := A 1) (fr := qwi (A 1) d l k) (n := nwi (A 1) d l k) t4.1
            refine gi_if_lt (tgt := 177) dX10_ofLine_170 (by decide) ⟨by omega, by omega⟩ (fun c_170 => ?_) (fun c_170 => ?_)
            · refine gi_iconst dX10_ofLine_177 ?_
              refine gi_iadd dX10_ofLine_178 ?_
              refine gg_istore dX10_ofLine_179 (Nat.le_of_ble_eq_true rfl) rfl ?_
              refine gi_iinc dX10_ofLine_181 rfl (Nat.le_of_ble_eq_true rfl) rfl ?_
              refine gg_goto (tgt := 137) dX10_ofLine_184 (by decide) ?_
              refine gg_drop 3 ?_
              refine gg_drop 4 ?_
              have ek : (k + 1).toNat = k.toNat + 1 := by omega
              exact gg_conv (ih_137 _ (by omega) (k + 1) rfl (by omega)) rfl (by simp only [ek, exC, Int.toNat_of_nonneg hk.1, if_pos c_170]; rfl) rfl
            · refine gi_iconst dX10_ofLine_173 ?_
              refine gg_goto (tgt := 178) dX10_ofLine_174 (by decide) ?_
              refine gi_iadd dX10_ofLine_178 ?_
              refine gg_istore dX10_ofLine_179 (Nat.le_of_ble_eq_true rfl) rfl ?_
              refine gi_iinc dX10_ofLine_181 rfl (Nat.le_of_ble_eq_true rfl) rfl ?_
              refine gg_goto (tgt := 137) dX10_ofLine_184 (by decide) ?_
              refine gg_drop 3 ?_
              refine gg_drop 4 ?_
              have ek : (k + 1).toNat = k.toNat + 1 := by omega
              exact gg_conv (ih_137 _ (by omega) (k + 1) rfl (by omega)) rfl (by simp only [ek, exC, Int.toNat_of_nonneg hk.1, if_neg (show ¬ exO (A 1) (A 1) (qwi (A 1) d l k) (nwi (A 1) d l k) < 0 by omega)]; rfl) rfl
      refine gg_drop 3 ?_
      refine gg_drop 4 ?_
      exact L_137 _ 0 rfl (by omega)
    by_cases w_21_4 : w = 5
    · refine gi_tab (tgt := 109) dX10_ofLine_21 hw (by omega) (by omega) (by rw [w_21_4]; rfl) (by decide) ?_
      refine gg_aload_n dX10_ofLine_109 rfl rfl ?_
      refine gc_X10_310 rfl dX10_ofLine_110 ⟨(Nat.le_of_ble_eq_true rfl), (Nat.le_of_ble_eq_true rfl)⟩ ⟨(Nat.le_of_ble_eq_true rfl), (Nat.le_of_ble_eq_true rfl)⟩ (Nat.le_of_ble_eq_true rfl) (HAt.mu rfl) (c_X10_allSyllables hL2.1) (fun _ _ w => w.elim) (fun r_110 h_110 hp => ?_)
      obtain ⟨rfl, rfl⟩ := hp
      subst hQF9
      refine gg_iret dX10_ofLine_113 rfl rfl ⟨(Nat.le_of_ble_eq_true rfl), (Nat.le_of_ble_eq_true rfl)⟩ ?_
      refine ⟨F2, A2, ?_, rfl, hF, fA, o3⟩
      rw [olV, if_neg w_21_0, if_neg w_21_1, if_neg w_21_2, if_pos w_21_4, ally_LE E2 (F2 16).toNat (by omega), k17, Int.toNat_natCast]
    by_cases w_21_5 : w = 6
    · refine gi_tab (tgt := 114) dX10_ofLine_21 hw (by omega) (by omega) (by rw [w_21_5]; rfl) (by decide) ?_
      refine gg_iload dX10_ofLine_114 rfl ?_
      refine gi_if_eq (tgt := 129) dX10_ofLine_116 (by decide) ⟨by omega, by omega⟩ (fun c9 => absurd c9 (by decide)) (fun c9 => ?_)
      refine gg_aload_n dX10_ofLine_119 rfl rfl ?_
      refine gm_get118 rfl dX10_ofLine_120 (by (try simp only [uF_s, uF_n, ne_eq, not_false_eq_true, Nat.reduceEqDiff, reduceCtorEq]); rfl) ?_
      refine gc_X10_264 rfl dX10_ofLine_123 ⟨(Nat.le_of_ble_eq_true rfl), (Nat.le_of_ble_eq_true rfl)⟩ ⟨(Nat.le_of_ble_eq_true rfl), (Nat.le_of_ble_eq_true rfl)⟩ (Nat.le_of_ble_eq_true rfl) (c_X10_bits o2) (fun _ _ w => w.elim) (fun r_123 h_123 hp => ?_)
      obtain ⟨rfl, rfl⟩ := hp
      refine gg_goto (tgt := 130) dX10_ofLine_126 (by decide) ?_
      subst hQF9
      refine gg_iret dX10_ofLine_130 rfl rfl ⟨(Nat.le_of_ble_eq_true rfl), (Nat.le_of_ble_eq_true rfl)⟩ ?_
      refine ⟨F2, A2, ?_, rfl, hF, fA, o3⟩
      rw [olV, if_neg w_21_0, if_neg w_21_1, if_neg w_21_2, if_neg w_21_4, if_pos w_21_5, ← hc9, if_pos (by omega), b35]
    refine gi_tabD (tgt := 131) dX10_ofLine_21 hw (by omega) (by decide) ?_
    refine gi_iconst dX10_ofLine_131 ?_
    refine gg_istore dX10_ofLine_132 (Nat.le_of_ble_eq_true rfl) rfl ?_
    refine gi_iconst dX10_ofLine_134 ?_
    refine gg_istore dX10_ofLine_135 (Nat.le_of_ble_eq_true rfl) rfl ?_
    have L_137 : ∀ (n9 : Nat) (k : Int), ((F2 16 - k).toNat) = n9 → ∀ (hk : 0 ≤ k ∧ k ≤ F2 16), GG Γ M_X10_ofLine QF9 (0, 0) (mst Γ h F2 A2) 137 [some (.ref (g_L Γ 0)), some (.int (iN d)), some (.int (iN l)), none, none, some (.int (iN (exC (A 1) d l k.toNat))), some (.int (iN k))] [] := by
      intro n9
      induction n9 using Nat.strongRecOn with
      | ind n9 ih_137 => 
        intro k hm9 hk
        refine gg_iload dX10_ofLine_137 rfl ?_
        refine gg_aload_n dX10_ofLine_139 rfl rfl ?_
        refine gm_get60 rfl dX10_ofLine_140 (by (try simp only [uF_s, uF_n, ne_eq, not_false_eq_true, Nat.reduceEqDiff, reduceCtorEq]); rfl) ?_
        refine gi_icmp_ge (tgt := 187) dX10_ofLine_143 (by decide) ⟨by omega, by omega⟩ ⟨by omega, by omega⟩ (fun c_143 => ?_) (fun c_143 => ?_)
        · refine gg_iload dX10_ofLine_187 rfl ?_
          subst hQF9
          refine gg_iret dX10_ofLine_189 rfl rfl ⟨(Nat.le_of_ble_eq_true rfl), (Nat.le_of_ble_eq_true rfl)⟩ ?_
          refine ⟨F2, A2, ?_, rfl, hF, fA, o3⟩
          rw [olV, if_neg (by omega), if_neg (by omega), if_neg (by omega), if_neg (by omega), if_neg (by omega), show k.toNat = (lnW (A 1) d l).length by omega]
        · obtain ⟨pv, lenv, cv, x1, x2, x3, x4⟩ := LD_at N hd hl (t5 d (by omega) (by omega)).2 hL2 (w := k) (by omega) (by omega)
          have xq : A2 8 k = qwi (A 1) d l k := (E2.2 k (by omega) (by omega)).1.symm
          have xn : A2 9 k = nwi (A 1) d l k := (E2.2 k (by omega) (by omega)).2.1.symm
          refine gg_iload dX10_ofLine_146 rfl ?_
          refine gg_aload_n dX10_ofLine_148 rfl rfl ?_
          refine gg_aload_n dX10_ofLine_149 rfl rfl ?_
          refine gm_get13 rfl dX10_ofLine_150 ?_
          refine gg_aload_n dX10_ofLine_153 rfl rfl ?_
          refine gm_get63 rfl dX10_ofLine_154 ?_
          refine gg_iload dX10_ofLine_157 rfl ?_
          refine gm_iald dX10_ofLine_159 (by decide) rfl (by decide) ⟨by omega, by simp only [ml9]; omega⟩ (by (try simp only [uA_s, uA_n, ne_eq, not_false_eq_true, Nat.reduceEqDiff, reduceCtorEq]); rfl) ?_
          refine gg_aload_n dX10_ofLine_160 rfl rfl ?_
          refine gm_get66 rfl dX10_ofLine_161 ?_
          refine gg_iload dX10_ofLine_164 rfl ?_
          refine gm_iald dX10_ofLine_166 (by decide) rfl (by decide) ⟨by omega, by simp only [ml9]; omega⟩ (by (try simp only [uA_s, uA_n, ne_eq, not_false_eq_true, Nat.reduceEqDiff, reduceCtorEq]); rfl) ?_
          refine gc_X10_214 rfl dX10_ofLine_167 ⟨(Nat.le_of_ble_eq_true rfl), (Nat.le_of_ble_eq_true rfl)⟩ ⟨(Nat.le_of_ble_eq_true rfl), (Nat.le_of_ble_eq_true rfl)⟩ (Nat.le_of_ble_eq_true rfl) (HAt.mu rfl) (c_X10_exceptionOf (A := A2) (j := 1) (by rw [g2]; exact S) (by decide) rfl (by decide) ⟨by omega, by omega⟩ ⟨by omega, by show _ ≤ (2609 : Int); omega⟩ (by rw [g2]; exact t6)) (fun _ _ w => w.elim) (fun r_167 h_167 hp => ?_)
          obtain ⟨rfl, rfl⟩ := hp
          rw [g2, xq, xn]
          have hxr := exO_r (a := A 1) (r := A 1) (fr := qwi (A 1) d l k) (n := nwi (A 1) d l k) t4.1
          refine gi_if_lt (tgt := 177) dX10_ofLine_170 (by decide) ⟨by omega, by omega⟩ (fun c_170 => ?_) (fun c_170 => ?_)
          · refine gi_iconst dX10_ofLine_177 ?_
            refine gi_iadd dX10_ofLine_178 ?_
            refine gg_istore dX10_ofLine_179 (Nat.le_of_ble_eq_true rfl) rfl ?_
            refine gi_iinc dX10_ofLine_181 rfl (Nat.le_of_ble_eq_true rfl) rfl ?_
            refine gg_goto (tgt := 137) dX10_ofLine_184 (by decide) ?_
            refine gg_drop 3 ?_
            refine gg_drop 4 ?_
            have ek : (k + 1).toNat = k.toNat + 1 := by omega
            exact gg_conv (ih_137 _ (by omega) (k + 1) rfl (by omega)) rfl (by simp only [ek, exC, Int.toNat_of_nonneg hk.1, if_pos c_170]; rfl) rfl
          · refine gi_iconst dX10_ofLine_173 ?_
            refine gg_goto (tgt := 178) dX10_ofLine_174 (by decide) ?_
            refine gi_iadd dX10_ofLine_178 ?_
            refine gg_istore dX10_ofLine_179 (Nat.le_of_ble_eq_true rfl) rfl ?_
            refine gi_iinc dX10_ofLine_181 rfl (Nat.le_of_ble_eq_true rfl) rfl ?_
            refine gg_goto (tgt := 137) dX10_ofLine_184 (by decide) ?_
            refine gg_drop 3 ?_
            refine gg_drop 4 ?_
            have ek : (k + 1).toNat = k.toNat + 1 := by omega
            exact gg_conv (ih_137 _ (by omega) (k + 1) rfl (by omega)) rfl (by simp only [ek, exC, Int.toNat_of_nonneg hk.1, if_neg (show ¬ exO (A 1) (A 1) (qwi (A 1) d l k) (nwi (A 1) d l k) < 0 by omega)]; rfl) rfl
    refine gg_drop 3 ?_
    refine gg_drop 4 ?_
    exact L_137 _ 0 rfl (by omega)
set_option maxRecDepth 100000 in
set_option maxHeartbeats 4000000 in
theorem c_X10_sums {Γ : GT} {h : XH} {F : Nat → Int} {A : Nat → Int → Int} (S : StA (A 1)) (N : LnA (A 1)) (E9 : ExA (A 1)) (h38 : F 38 = 0 ∨ F 38 = 1) {d : Int} (hd : 0 ≤ d ∧ d ≤ 3) {w : Int} (hw : InR w) : Ct Γ M_X10_sums [.ref (g_L Γ 0), .int (iN d), .int (iN w)] (mst Γ h F A) (fun r h9 => ∃ (F2 : Nat → Int) (A2 : Nat → Int → Int), r = some (.int (iN (smV (A 1) d w (A 1 (5 + d)).toNat))) ∧ h9 = mst Γ h F2 A2 ∧ frF [16, 24, 25, 27, 28, 29, 30, 34, 35, 36, 37, 38] F F2 ∧ frA [8, 9, 10, 11, 12, 13, 14, 15, 16, 17, 18] A A2 ∧ (F2 38 = 0 ∨ F2 38 = 1)) (fun _ _ => False) := by
  refine Ct.of rfl (by decide +kernel) (Nat.le_of_ble_eq_true rfl) ?_
  generalize hQF9 : QM Γ _ _ _ = QF9
  obtain ⟨t0, t1, t2, t3, t4, t5, t6⟩ := id S
  have hn9 := t5 d (by omega) (by omega)
  refine gi_iconst dX10_sums_0 ?_
  refine gg_istore_n dX10_sums_1 (Nat.le_of_ble_eq_true rfl) rfl ?_
  refine gi_iconst dX10_sums_2 ?_
  refine gg_istore dX10_sums_3 (Nat.le_of_ble_eq_true rfl) rfl ?_
  have L_5 : ∀ (n9 : Nat) (l : Int) (F1 : Nat → Int) (A1 : Nat → Int → Int), ((A 1 (5 + d) - l).toNat) = n9 → ∀ (hl : 0 ≤ l ∧ l ≤ A 1 (5 + d)) (hF : frF [16, 24, 25, 27, 28, 29, 30, 34, 35, 36, 37, 38] F F1) (hA : frA [8, 9, 10, 11, 12, 13, 14, 15, 16, 17, 18] A A1) (x38 : F1 38 = 0 ∨ F1 38 = 1), GG Γ M_X10_sums QF9 (0, 0) (mst Γ h F1 A1) 5 [some (.ref (g_L Γ 0)), some (.int (iN d)), some (.int (iN w)), some (.int (iN (smV (A 1) d w l.toNat))), some (.int (iN l))] [] := by
    intro n9
    induction n9 using Nat.strongRecOn with
    | ind n9 ih_5 => 
      intro l F1 A1 hm9 hl hF hA x38
      have g1 : A1 1 = A 1 := hA 1 (by decide)
      refine gg_iload dX10_sums_5 rfl ?_
      refine gg_aload_n dX10_sums_7 rfl rfl ?_
      refine gm_get13 rfl dX10_sums_8 ?_
      refine gi_iconst dX10_sums_11 ?_
      refine gg_iload_n dX10_sums_12 rfl ?_
      refine gi_iadd dX10_sums_13 ?_
      refine gm_iald dX10_sums_14 (by decide) rfl (by decide) ⟨by omega, by simp only [ml9]; omega⟩ (congrFun g1 _) ?_
      refine gi_icmp_ge (tgt := 35) dX10_sums_15 (by decide) ⟨by omega, by omega⟩ ⟨by omega, by omega⟩ (fun c_15 => ?_) (fun c_15 => ?_)
      · refine gg_iload_n dX10_sums_35 rfl ?_
        subst hQF9
        refine gg_iret dX10_sums_36 rfl rfl ⟨(Nat.le_of_ble_eq_true rfl), (Nat.le_of_ble_eq_true rfl)⟩ ?_
        exact ⟨F1, A1, by rw [show l = A 1 (5 + d) by omega], rfl, hF, hA, x38⟩
      · refine gg_iload_n dX10_sums_18 rfl ?_
        refine gg_aload_n dX10_sums_19 rfl rfl ?_
        refine gg_iload_n dX10_sums_20 rfl ?_
        refine gg_iload dX10_sums_21 rfl ?_
        refine gg_iload_n dX10_sums_23 rfl ?_
        refine gc_X10_346 rfl dX10_sums_24 ⟨(Nat.le_of_ble_eq_true rfl), (Nat.le_of_ble_eq_true rfl)⟩ ⟨(Nat.le_of_ble_eq_true rfl), (Nat.le_of_ble_eq_true rfl)⟩ (Nat.le_of_ble_eq_true rfl) (HAt.mu rfl) (c_X10_ofLine (F := F1) (A := A1) (by rw [g1]; exact S) (by rw [g1]; exact N) (by rw [g1]; exact E9) x38 hd (by rw [g1]; omega) hw) (fun _ _ w => w.elim) (fun r_24 h_24 hp => ?_)
        obtain ⟨F2, A2, rfl, rfl, hF2, hA2, y38⟩ := hp
        rw [g1]
        refine gi_iadd dX10_sums_27 ?_
        refine gg_istore_n dX10_sums_28 (Nat.le_of_ble_eq_true rfl) rfl ?_
        refine gi_iinc dX10_sums_29 rfl (Nat.le_of_ble_eq_true rfl) rfl ?_
        refine gg_goto (tgt := 5) dX10_sums_32 (by decide) ?_
        have ek : (l + 1).toNat = l.toNat + 1 := by omega
        exact gg_conv (ih_5 _ (by omega) (l + 1) F2 A2 rfl (by omega) (fun j hj => by rw [hF2 j hj, hF j hj]) (fun j hj => by rw [hA2 j hj, hA j hj]) y38) rfl (by simp only [ek, smV, Int.toNat_of_nonneg hl.1]; rfl) rfl
  exact L_5 _ 0 F A rfl (by omega) (fun _ _ => rfl) (fun _ _ => rfl) h38
set_option maxRecDepth 100000 in
set_option maxHeartbeats 4000000 in
theorem c_X10_classMany {Γ : GT} {h : XH} {F : Nat → Int} {A : Nat → Int → Int} (S : StA (A 1)) (N : LnA (A 1)) (E9 : ExA (A 1)) {d : Int} (hd : 0 ≤ d ∧ d ≤ 3) : Ct Γ M_X10_classMany [.ref (g_L Γ 0), .int (iN d)] (mst Γ h F A) (fun r h9 => ∃ (F1 : Nat → Int) (A1 : Nat → Int → Int), r = some (.int (iN (frs (clsF (A 1) d (A 19) (A 1 (5 + d)).toNat) (A 1 (5 + d)).toNat))) ∧ h9 = mst Γ h F1 A1 ∧ frF [16, 24, 25, 39, 40] F F1 ∧ frA [8, 9, 10, 11, 12, 13, 14, 15, 19] A A1) (fun _ _ => False) := by
  refine Ct.of rfl (by decide +kernel) (Nat.le_of_ble_eq_true rfl) ?_
  generalize hQF9 : QM Γ _ _ _ = QF9
  obtain ⟨t0, t1, t2, t3, t4, t5, t6⟩ := id S
  have hn9 := t5 d (by omega) (by omega)
  refine gg_aload_n dX10_classMany_0 rfl rfl ?_
  refine gg_iload_n dX10_classMany_1 rfl ?_
  refine gc_X10_330 rfl dX10_classMany_2 ⟨(Nat.le_of_ble_eq_true rfl), (Nat.le_of_ble_eq_true rfl)⟩ ⟨(Nat.le_of_ble_eq_true rfl), (Nat.le_of_ble_eq_true rfl)⟩ (Nat.le_of_ble_eq_true rfl) (HAt.mu rfl) (c_X10_laysClasses S N E9 hd) (fun _ _ w => w.elim) (fun r_2 h_2 hp => ?_)
  obtain ⟨F1, A1, rfl, rfl, hF, hA, h19⟩ := hp
  have g1 : A1 1 = A 1 := hA 1 (by decide)
  have hcb : ∀ j : Int, 0 ≤ j → j < A 1 (5 + d) → 0 ≤ (clsF (A 1) d (A 19) (A 1 (5 + d)).toNat) j ∧ (clsF (A 1) d (A 19) (A 1 (5 + d)).toNat) j ≤ j := fun j j0 j1 => clsF_r _ j j0 (by omega)
  refine gi_iconst dX10_classMany_5 ?_
  refine gg_istore_n dX10_classMany_6 (Nat.le_of_ble_eq_true rfl) rfl ?_
  refine gi_iconst dX10_classMany_7 ?_
  refine gg_istore_n dX10_classMany_8 (Nat.le_of_ble_eq_true rfl) rfl ?_
  have L_9 : ∀ (n9 : Nat) (l : Int), ((A 1 (5 + d) - l).toNat) = n9 → ∀ (hl : 0 ≤ l ∧ l ≤ A 1 (5 + d)), GG Γ M_X10_classMany QF9 (0, 0) (mst Γ h F1 A1) 9 [some (.ref (g_L Γ 0)), some (.int (iN d)), some (.int (iN (frs (clsF (A 1) d (A 19) (A 1 (5 + d)).toNat) l.toNat))), some (.int (iN l))] [] := by
    intro n9
    induction n9 using Nat.strongRecOn with
    | ind n9 ih_9 => 
      intro l hm9 hl
      have hsr := frs_r (c := (clsF (A 1) d (A 19) (A 1 (5 + d)).toNat)) l.toNat (fun j j0 j1 => hcb j j0 (by omega))
      refine gg_iload_n dX10_classMany_9 rfl ?_
      refine gg_aload_n dX10_classMany_10 rfl rfl ?_
      refine gm_get13 rfl dX10_classMany_11 ?_
      refine gi_iconst dX10_classMany_14 ?_
      refine gg_iload_n dX10_classMany_15 rfl ?_
      refine gi_iadd dX10_classMany_16 ?_
      refine gm_iald dX10_classMany_17 (by decide) rfl (by decide) ⟨by omega, by simp only [ml9]; omega⟩ (congrFun g1 _) ?_
      refine gi_icmp_ge (tgt := 40) dX10_classMany_18 (by decide) ⟨by omega, by omega⟩ ⟨by omega, by omega⟩ (fun c_18 => ?_) (fun c_18 => ?_)
      · refine gg_iload_n dX10_classMany_40 rfl ?_
        subst hQF9
        refine gg_iret dX10_classMany_41 rfl rfl ⟨(Nat.le_of_ble_eq_true rfl), (Nat.le_of_ble_eq_true rfl)⟩ ?_
        exact ⟨F1, A1, by rw [show l = A 1 (5 + d) by omega], rfl, hF, hA⟩
      · have hcl := hcb l (by omega) (by omega)
        refine gg_iload_n dX10_classMany_21 rfl ?_
        refine gg_aload_n dX10_classMany_22 rfl rfl ?_
        refine gm_get142 rfl dX10_classMany_23 ?_
        refine gg_iload_n dX10_classMany_26 rfl ?_
        refine gm_iald dX10_classMany_27 (by decide) rfl (by decide) ⟨by omega, by simp only [ml9]; omega⟩ (congrFun h19 _) ?_
        refine gi_iconst dX10_classMany_28 ?_
        refine gi_iadd dX10_classMany_29 ?_
        refine gc_X10_267 rfl dX10_classMany_30 ⟨(Nat.le_of_ble_eq_true rfl), (Nat.le_of_ble_eq_true rfl)⟩ ⟨(Nat.le_of_ble_eq_true rfl), (Nat.le_of_ble_eq_true rfl)⟩ ?_
        rw [iN_max ⟨by omega, by omega⟩ ⟨by omega, by omega⟩]
        refine gg_istore_n dX10_classMany_33 (Nat.le_of_ble_eq_true rfl) rfl ?_
        refine gi_iinc dX10_classMany_34 rfl (Nat.le_of_ble_eq_true rfl) rfl ?_
        refine gg_goto (tgt := 9) dX10_classMany_37 (by decide) ?_
        have ek : (l + 1).toNat = l.toNat + 1 := by omega
        exact gg_conv (ih_9 _ (by omega) (l + 1) rfl (by omega)) rfl (by simp only [ek, frs, Int.toNat_of_nonneg hl.1]; rfl) rfl
  exact L_9 _ 0 rfl (by omega)
set_option maxRecDepth 100000 in
set_option maxHeartbeats 4000000 in
theorem c_X10_account {Γ : GT} {h : XH} {F : Nat → Int} {A : Nat → Int → Int} (S : StA (A 1)) (N : LnA (A 1)) (E9 : ExA (A 1)) (h38 : F 38 = 0 ∨ F 38 = 1) {d w : Int} (hd : InR d) (hw : InR w) : Ct Γ M_X10_account [.ref (g_L Γ 0), .int (iN d), .int (iN w)] (mst Γ h F A) (fun r h9 => (¬ (0 ≤ d ∧ d ≤ 3) ∧ r = some (.int (iN (0))) ∧ h9 = mst Γ h (uF F 0 1) A) ∨ ((0 ≤ d ∧ d ≤ 3) ∧ ¬ (0 ≤ w ∧ w ≤ 7) ∧ r = some (.int (iN (0))) ∧ h9 = mst Γ h (uF F 0 2) A) ∨ ((0 ≤ d ∧ d ≤ 3) ∧ (0 ≤ w ∧ w ≤ 7) ∧ ∃ (F2 : Nat → Int) (A2 : Nat → Int → Int), h9 = mst Γ h F2 A2 ∧ frF [0, 16, 24, 25, 27, 28, 29, 30, 34, 35, 36, 37, 38, 39, 40, 41, 42] F F2 ∧ frA [8, 9, 10, 11, 12, 13, 14, 15, 16, 17, 18, 19, 20, 21, 22] A A2 ∧ r = some (.int (iN (if w = 0 then A 1 (5 + d) else if w = 4 then frs (clsF (A 1) d (A 19) (A 1 (5 + d)).toNat) (A 1 (5 + d)).toNat else smV (A 1) d w (A 1 (5 + d)).toNat))) ∧ F2 0 = 0)) (fun _ _ => False) := by
  refine Ct.of rfl (by decide +kernel) (Nat.le_of_ble_eq_true rfl) ?_
  generalize hQF9 : QM Γ _ _ _ = QF9
  obtain ⟨t0, t1, t2, t3, t4, t5, t6⟩ := id S
  refine gg_aload_n dX10_account_0 rfl rfl ?_
  refine gi_iconst dX10_account_1 ?_
  refine gm_put3 rfl dX10_account_2 (by (try simp only [uF_ss, uF_cc, id_eq, Nat.reduceLT, reduceCtorEq]); rfl) ?_
  refine gg_iload_n dX10_account_5 rfl ?_
  refine gc_X10_218 rfl dX10_account_6 ⟨(Nat.le_of_ble_eq_true rfl), (Nat.le_of_ble_eq_true rfl)⟩ ⟨(Nat.le_of_ble_eq_true rfl), (Nat.le_of_ble_eq_true rfl)⟩ (Nat.le_of_ble_eq_true rfl) (c_X10_isDraft (by assumption)) (fun _ _ w => w.elim) (fun r_6 h_6 hp => ?_)
  obtain ⟨rfl, rfl⟩ := hp
  refine gi_if_ne (tgt := 18) dX10_account_9 (by decide) (bi_r _) (fun c_9 => ?_) (fun c_9 => ?_)
  · rw [bi_t] at c_9
    simp at c_9
    refine gg_iload_n dX10_account_18 rfl ?_
    refine gi_iconst dX10_account_19 ?_
    refine gi_bipush dX10_account_20 (by decide) ?_
    refine gc_X10_158 rfl dX10_account_22 ⟨(Nat.le_of_ble_eq_true rfl), (Nat.le_of_ble_eq_true rfl)⟩ ⟨(Nat.le_of_ble_eq_true rfl), (Nat.le_of_ble_eq_true rfl)⟩ (Nat.le_of_ble_eq_true rfl) (c_X10_in hw ⟨by omega, by omega⟩ ⟨by omega, by omega⟩) (fun _ _ w => w.elim) (fun r_22 h_22 hp => ?_)
    obtain ⟨rfl, rfl⟩ := hp
    refine gi_if_ne (tgt := 34) dX10_account_25 (by decide) (bi_r _) (fun c_25 => ?_) (fun c_25 => ?_)
    · rw [bi_t] at c_25
      rw [Bool.and_eq_true, decide_eq_true_iff, decide_eq_true_iff] at c_25
      refine gg_iload_n dX10_account_34 rfl ?_
      refine gi_if_ne (tgt := 49) dX10_account_35 (by decide) ⟨by omega, by omega⟩ (fun c_35 => ?_) (fun c_35 => ?_)
      · refine gg_iload_n dX10_account_49 rfl ?_
        refine gi_iconst dX10_account_50 ?_
        refine gi_icmp_ne (tgt := 62) dX10_account_51 (by decide) ⟨by omega, by omega⟩ ⟨by omega, by omega⟩ (fun c_51 => ?_) (fun c_51 => ?_)
        · refine gg_aload_n dX10_account_62 rfl rfl ?_
          refine gg_iload_n dX10_account_63 rfl ?_
          refine gg_iload_n dX10_account_64 rfl ?_
          refine gc_X10_352 rfl dX10_account_65 ⟨(Nat.le_of_ble_eq_true rfl), (Nat.le_of_ble_eq_true rfl)⟩ ⟨(Nat.le_of_ble_eq_true rfl), (Nat.le_of_ble_eq_true rfl)⟩ (Nat.le_of_ble_eq_true rfl) (HAt.mu rfl) (c_X10_sums (F := uF F 0 0) S N E9 (by simp only [uF_s, uF_n, uF_ss, uF_cc, id_eq, ne_eq, not_false_eq_true, Nat.reduceEqDiff, Nat.reduceLT, reduceCtorEq]; exact h38) ⟨by omega, by omega⟩ hw) (fun _ _ w => w.elim) (fun r_65 h_65 hp => ?_)
          obtain ⟨F1, A1, rfl, rfl, hF, hA, -⟩ := hp
          subst hQF9
          refine gg_iret dX10_account_68 rfl rfl ⟨(Nat.le_of_ble_eq_true rfl), (Nat.le_of_ble_eq_true rfl)⟩ ?_
          exact Or.inr (Or.inr ⟨by omega, by omega, F1, A1, rfl, frF_z hF (by decide), frA_w hA (by decide), by rw [if_neg c_35, if_neg c_51], by rw [hF 0 (by decide), uF_s]⟩)
        · refine gg_aload_n dX10_account_54 rfl rfl ?_
          refine gg_iload_n dX10_account_55 rfl ?_
          refine gc_X10_349 rfl dX10_account_56 ⟨(Nat.le_of_ble_eq_true rfl), (Nat.le_of_ble_eq_true rfl)⟩ ⟨(Nat.le_of_ble_eq_true rfl), (Nat.le_of_ble_eq_true rfl)⟩ (Nat.le_of_ble_eq_true rfl) (HAt.mu rfl) (c_X10_classMany (F := uF F 0 0) S N E9 ⟨by omega, by omega⟩) (fun _ _ w => w.elim) (fun r_56 h_56 hp => ?_)
          obtain ⟨F1, A1, rfl, rfl, hF, hA⟩ := hp
          refine gg_goto (tgt := 68) dX10_account_59 (by decide) ?_
          subst hQF9
          refine gg_iret dX10_account_68 rfl rfl ⟨(Nat.le_of_ble_eq_true rfl), (Nat.le_of_ble_eq_true rfl)⟩ ?_
          exact Or.inr (Or.inr ⟨by omega, by omega, F1, A1, rfl, frF_z hF (by decide), frA_w hA (by decide), by rw [if_neg c_35, if_pos c_51], by rw [hF 0 (by decide), uF_s]⟩)
      · refine gg_aload_n dX10_account_38 rfl rfl ?_
        refine gm_get13 rfl dX10_account_39 ?_
        refine gi_iconst dX10_account_42 ?_
        refine gg_iload_n dX10_account_43 rfl ?_
        refine gi_iadd dX10_account_44 ?_
        refine gm_iald dX10_account_45 (by decide) rfl (by decide) ⟨by omega, by simp only [ml9]; omega⟩ (by (try simp only [uA_s, uA_n, ne_eq, not_false_eq_true, Nat.reduceEqDiff, reduceCtorEq]); rfl) ?_
        refine gg_goto (tgt := 68) dX10_account_46 (by decide) ?_
        subst hQF9
        refine gg_iret dX10_account_68 rfl rfl ⟨(Nat.le_of_ble_eq_true rfl), (Nat.le_of_ble_eq_true rfl)⟩ ?_
        exact Or.inr (Or.inr ⟨by omega, by omega, uF F 0 0, A, rfl, frF_u (fun _ _ => rfl) (by decide), (fun _ _ => rfl), by rw [if_pos c_35], uF_s⟩)
    · rw [bi_f] at c_25
      rw [Bool.and_eq_false_iff, decide_eq_false_iff_not, decide_eq_false_iff_not] at c_25
      refine gg_aload_n dX10_account_28 rfl rfl ?_
      refine gi_iconst dX10_account_29 ?_
      refine gc_X10_162 rfl dX10_account_30 ⟨(Nat.le_of_ble_eq_true rfl), (Nat.le_of_ble_eq_true rfl)⟩ ⟨(Nat.le_of_ble_eq_true rfl), (Nat.le_of_ble_eq_true rfl)⟩ (Nat.le_of_ble_eq_true rfl) (HAt.mu rfl) (c_X10_fails) (fun _ _ w => w.elim) (fun r_30 h_30 hp => ?_)
      obtain ⟨rfl, rfl⟩ := hp
      subst hQF9
      refine gg_iret dX10_account_33 rfl rfl ⟨(Nat.le_of_ble_eq_true rfl), (Nat.le_of_ble_eq_true rfl)⟩ ?_
      exact Or.inr (Or.inl ⟨by omega, by omega, rfl, by rw [uF_ss]⟩)
  · rw [bi_f] at c_9
    simp at c_9
    refine gg_aload_n dX10_account_12 rfl rfl ?_
    refine gi_iconst dX10_account_13 ?_
    refine gc_X10_162 rfl dX10_account_14 ⟨(Nat.le_of_ble_eq_true rfl), (Nat.le_of_ble_eq_true rfl)⟩ ⟨(Nat.le_of_ble_eq_true rfl), (Nat.le_of_ble_eq_true rfl)⟩ (Nat.le_of_ble_eq_true rfl) (HAt.mu rfl) (c_X10_fails) (fun _ _ w => w.elim) (fun r_14 h_14 hp => ?_)
    obtain ⟨rfl, rfl⟩ := hp
    subst hQF9
    refine gg_iret dX10_account_17 rfl rfl ⟨(Nat.le_of_ble_eq_true rfl), (Nat.le_of_ble_eq_true rfl)⟩ ?_
    exact Or.inl ⟨by omega, rfl, by rw [uF_ss]⟩
theorem n32_ok : ∀ (j : Fin 10) (i : Fin 1001), vf_n32 (FP.fdiv (FP.i2f (nI i.val)) (FP.i2f (nI (j.val + 1)))) := by
  unfold vf_n32
  decide +kernel
