/-! the reference: accounts -/
theorem ally_LE {F G : Nat → Int} {A B : Nat → Int → Int} (E : LE F A G B) : ∀ k : Nat, (k : Int) ≤ F 16 → ally A k = ally B k
  | 0, _ => rfl
  | k + 1, hk => by rw [ally, ally, ally_LE E k (by omega), (E.2 k (by omega) (by omega)).2.2.1]
def exC (a : Int → Int) (d l : Int) : Nat → Int
  | 0 => 0
  | k + 1 => exC a d l k + (if exO a a (qwi a d l k) (nwi a d l k) < 0 then 0 else 1)
/-- what a line adds to an account -/
def olV (a : Int → Int) (d l w : Int) : Int :=
  if w = 1 then (if 0 ≤ (bsC a d l (a 0) (a 1) (a 2)).1 ∧ (bsC a d l (a 0) (a 1) (a 2)).1 ≤ a 3 then 1 else 0)
  else if w = 2 then (if 0 ≤ (bsC a d l (a 0) (a 1) (a 2)).1 then (bsC a d l (a 0) (a 1) (a 2)).1 else 0)
  else if w = 3 then (if 0 ≤ (bsC a d l (a 0) (a 1) (a 2)).1 then 0 else 1)
  else if w = 5 then ally (LAc a d l) (lnW a d l).length
  else if w = 6 then (if 0 ≤ (bsC a d l (a 0) (a 1) (a 2)).1 then btc (bsC a d l (a 0) (a 1) (a 2)).2.1 12 else 0)
  else exC a d l (lnW a d l).length
def smV (a : Int → Int) (d w : Int) : Nat → Int
  | 0 => 0
  | l + 1 => smV a d w l + olV a d l w
set_option maxRecDepth 100000 in
set_option maxHeartbeats 4000000 in
theorem c_X10_ofLine {Γ : GT} {h : XH} {F : Nat → Int} {A : Nat → Int → Int} (S : StA (A 1)) (N : LnA (A 1)) (E9 : ExA (A 1)) (h38 : F 38 = 0 ∨ F 38 = 1) {d l : Int} (hd : 0 ≤ d ∧ d ≤ 3) (hl : 0 ≤ l ∧ l < A 1 (5 + d)) {w : Int} (hw : InR w) : Ct Γ M_X10_ofLine [.ref (g_L Γ 0), .int (iN d), .int (iN l), .int (iN w)] (mst Γ h F A) (fun r h9 => ∃ (F2 : Nat → Int) (A2 : Nat → Int → Int), r = some (.int (iN (olV (A 1) d l w))) ∧ h9 = mst Γ h F2 A2 ∧ frF [16, 24, 25, 27, 28, 29, 30, 34, 35, 36, 37, 38] F F2 ∧ frA [8, 9, 10, 11, 12, 13, 14, 15, 16, 17, 18] A A2 ∧ (F2 38 = 0 ∨ F2 38 = 1)) (fun _ _ => False) := by
  refine Ct.of rfl (by decide +kernel) (Nat.le_of_ble_eq_true rfl) ?_
  generalize hQF9 : QM Γ _ _ _ = QF9
  obtain ⟨t0, t1, t2, t3, t4, t5, t6⟩ := id S
  refine gg_aload_n dX10_ofLine_0 rfl rfl ?_
  refine gg_iload_n dX10_ofLine_1 rfl ?_
  refine gg_iload_n dX10_ofLine_2 rfl ?_
  refine gc_X10_303 rfl dX10_ofLine_3 ⟨(Nat.le_of_ble_eq_true rfl), (Nat.le_of_ble_eq_true rfl)⟩ ⟨(Nat.le_of_ble_eq_true rfl), (Nat.le_of_ble_eq_true rfl)⟩ (Nat.le_of_ble_eq_true rfl) (HAt.mu rfl) (c_X10_scansLine S N E9 h38 hd hl) (fun _ _ w => w.elim) (fun r_3 h_3 hp => ?_)
  obtain ⟨F1, F2, A1, A2, rfl, rfl, hL, hF, hA, hA2, e16, e27, e28, e29, okb, hb⟩ := hp
  have hq := bsC_e S N E9 hd hl hL (kd := A 1 0) (cs := A 1 2) (x := F 36) (y := F 38) t1 t2
  rw [bst9] at hb
  rw [← hb] at hq
  have b34 : F2 34 = (bsC (A 1) d l (A 1 0) (A 1 1) (A 1 2)).1 := hq.1
  have b35 : F2 35 = (bsC (A 1) d l (A 1 0) (A 1 1) (A 1 2)).2.1 := hq.2.1
  obtain ⟨o1, o2, o3⟩ := id okb
  dsimp only [bof] at o1 o2 o3
  have fA : frA [8, 9, 10, 11, 12, 13, 14, 15, 16, 17, 18] A A2 := fun j hj => by rw [hA2 j (fun q => hj (by revert q; simp; omega)), hA j (fun q => hj (by revert q; simp; omega))]
  have g2 : A2 1 = A 1 := fA 1 (by decide)
  have h8 : A2 8 = A1 8 := hA2 8 (by decide)
  have h9b : A2 9 = A1 9 := hA2 9 (by decide)
  have h10 : A2 10 = A1 10 := hA2 10 (by decide)
  have h11 : A2 11 = A1 11 := hA2 11 (by decide)
  have h12 : A2 12 = A1 12 := hA2 12 (by decide)
  have h13 : A2 13 = A1 13 := hA2 13 (by decide)
  have h14 : A2 14 = A1 14 := hA2 14 (by decide)
  have hL2 : LD (A 1) d l F2 A2 := LD_ext hL e16 h8 h9b h10 h11 h12 h13 h14
  have k16 := hL2.1.1
  have k17 := hL2.2.1
  have E2 := LD_LE hL2 (LD_c S N E9 hd hl)
  obtain ⟨c9, hc9⟩ : ∃ c9, c9 = (bsC (A 1) d l (A 1 0) (A 1 1) (A 1 2)).1 := ⟨_, rfl⟩
  rw [← hc9] at b34
  rw [b34] at o1
  refine gg_aload_n dX10_ofLine_6 rfl rfl ?_
  refine gm_get115 rfl dX10_ofLine_7 b34 ?_
  refine gi_if_lt (tgt := 17) dX10_ofLine_10 (by decide) ⟨by omega, by omega⟩ (fun c_10 => ?_) (fun c_10 => ?_)
  · refine gi_iconst dX10_ofLine_17 ?_
    refine gg_istore dX10_ofLine_18 (Nat.le_of_ble_eq_true rfl) rfl ?_
    refine gg_iload_n dX10_ofLine_20 rfl ?_
    by_cases w_21_0 : w = 1
    · refine gi_tab (tgt := 60) dX10_ofLine_21 hw (by omega) (by omega) (by rw [w_21_0]; rfl) (by decide) ?_
      refine gg_iload dX10_ofLine_60 rfl ?_
      refine gi_if_eq (tgt := 82) dX10_ofLine_62 (by decide) ⟨by omega, by omega⟩ (fun c9 => ?_) (fun c9 => absurd c9 (by decide))
      refine gi_iconst dX10_ofLine_82 ?_
      subst hQF9
      refine gg_iret dX10_ofLine_83 rfl rfl ⟨(Nat.le_of_ble_eq_true rfl), (Nat.le_of_ble_eq_true rfl)⟩ ?_
      refine ⟨F2, A2, ?_, rfl, hF, fA, o3⟩
      rw [olV, if_pos w_21_0, ← hc9, if_neg (fun q => absurd q.1 (by omega))]
    by_cases w_21_1 : w = 2
    · refine gi_tab (tgt := 84) dX10_ofLine_21 hw (by omega) (by omega) (by rw [w_21_1]; rfl) (by decide) ?_
      refine gg_iload dX10_ofLine_84 rfl ?_
      refine gi_if_eq (tgt := 96) dX10_ofLine_86 (by decide) ⟨by omega, by omega⟩ (fun c9 => ?_) (fun c9 => absurd c9 (by decide))
      refine gi_iconst dX10_ofLine_96 ?_
      subst hQF9
      refine gg_iret dX10_ofLine_97 rfl rfl ⟨(Nat.le_of_ble_eq_true rfl), (Nat.le_of_ble_eq_true rfl)⟩ ?_
      refine ⟨F2, A2, ?_, rfl, hF, fA, o3⟩
      rw [olV, if_neg w_21_0, if_pos w_21_1, ← hc9, if_neg (by omega)]
    by_cases w_21_2 : w = 3
    · refine gi_tab (tgt := 98) dX10_ofLine_21 hw (by omega) (by omega) (by rw [w_21_2]; rfl) (by decide) ?_
      refine gg_iload dX10_ofLine_98 rfl ?_
      refine gi_if_eq (tgt := 107) dX10_ofLine_100 (by decide) ⟨by omega, by omega⟩ (fun c9 => ?_) (fun c9 => absurd c9 (by decide))
      refine gi_iconst dX10_ofLine_107 ?_
      subst hQF9
      refine gg_iret dX10_ofLine_108 rfl rfl ⟨(Nat.le_of_ble_eq_true rfl), (Nat.le_of_ble_eq_true rfl)⟩ ?_
      refine ⟨F2, A2, ?_, rfl, hF, fA, o3⟩
      rw [olV, if_neg w_21_0, if_neg w_21_1, if_pos w_21_2, ← hc9, if_neg (by omega)]
    by_cases w_21_3 : w = 4
    · refine gi_tab (tgt := 131) dX10_ofLine_21 hw (by omega) (by omega) (by rw [w_21_3]; rfl) (by decide) ?_
      refine gi_iconst dX10_ofLine_131 ?_
      refine gg_istore dX10_ofLine_132 (Nat.le_of_ble_eq_true rfl) rfl ?_
      refine gi_iconst dX10_ofLine_134 ?_
      refine gg_istore dX10_ofLine_135 (Nat.le_of_ble_eq_true rfl) rfl ?_
      have L_137 : ∀ (n9 : Nat) (k : Int), ((F2 16 - k).toNat) = n9 → ∀ (hk : 0 ≤ k ∧ k ≤ F2 16), GG Γ M_X10_ofLine QF9 (0, 0) (mst Γ h F2 A2) 137 [some (.ref (g_L Γ 0)), some (.int (iN d)), some (.int (iN l)), none, none, some (.int (iN (exC (A 1) d l k.toNat))), some (.int (iN k))] [] := by
        intro n9
        induction n9 using Nat.strongRecOn with
        | ind n9 ih_137 => 
          intro k hm9 hk
          refine gg_iload dX10_ofLine_137 rfl ?_
          refine gg_aload_n dX10_ofLine_139 rfl rfl ?_
          refine gm_get60 rfl dX10_ofLine_140 (by (try simp only [uF_s, uF_n, ne_eq, not_false_eq_true, Nat.reduceEqDiff, reduceCtorEq]); rfl) ?_
          refine gi_icmp_ge (tgt := 187) dX10_ofLine_143 (by decide) ⟨by omega, by omega⟩ ⟨by omega, by omega⟩ (fun c_143 => ?_) (fun c_143 => ?_)
          · refine gg_iload dX10_ofLine_187 rfl ?_
            subst hQF9
            refine gg_iret dX10_ofLine_189 rfl rfl ⟨(Nat.le_of_ble_eq_true rfl), (Nat.le_of_ble_eq_true rfl)⟩ ?_
            refine ⟨F2, A2, ?_, rfl, hF, fA, o3⟩
            rw [olV, if_neg (by omega), if_neg (by omega), if_neg (by omega), if_neg (by omega), if_neg (by omega), show k.toNat = (lnW (A 1) d l).length by omega]
          · obtain ⟨pv, lenv, cv, x1, x2, x3, x4⟩ := LD_at N hd hl (t5 d (by omega) (by omega)).2 hL2 (w := k) (by omega) (by omega)
            have xq : A2 8 k = qwi (A 1) d l k := (E2.2 k (by omega) (by omega)).1.symm
            have xn : A2 9 k = nwi (A 1) d l k := (E2.2 k (by omega) (by omega)).2.1.symm
            refine gg_iload dX10_ofLine_146 rfl ?_
            refine gg_aload_n dX10_ofLine_148 rfl rfl ?_
            refine gg_aload_n dX10_ofLine_149 rfl rfl ?_
            refine gm_get13 rfl dX10_ofLine_150 ?_
            refine gg_aload_n dX10_ofLine_153 rfl rfl ?_
            refine gm_get63 rfl dX10_ofLine_154 ?_
            refine gg_iload dX10_ofLine_157 rfl ?_
            refine gm_iald dX10_ofLine_159 (by decide) rfl (by decide) ⟨by omega, by simp only [ml9]; omega⟩ (by (try simp only [uA_s, uA_n, ne_eq, not_false_eq_true, Nat.reduceEqDiff, reduceCtorEq]); rfl) ?_
            refine gg_aload_n dX10_ofLine_160 rfl rfl ?_
            refine gm_get66 rfl dX10_ofLine_161 ?_
            refine gg_iload dX10_ofLine_164 rfl ?_
            refine gm_iald dX10_ofLine_166 (by decide) rfl (by decide) ⟨by omega, by simp only [ml9]; omega⟩ (by (try simp only [uA_s, uA_n, ne_eq, not_false_eq_true, Nat.reduceEqDiff, reduceCtorEq]); rfl) ?_
            refine gc_X10_214 rfl dX10_ofLine_167 ⟨(Nat.le_of_ble_eq_true rfl), (Nat.le_of_ble_eq_true rfl)⟩ ⟨(Nat.le_of_ble_eq_true rfl), (Nat.le_of_ble_eq_true rfl)⟩ (Nat.le_of_ble_eq_true rfl) (HAt.mu rfl) (c_X10_exceptionOf (A := A2) (j := 1) (by rw [g2]; exact S) (by decide) rfl (by decide) ⟨by omega, by omega⟩ ⟨by omega, by show _ ≤ (2609 : Int); omega⟩ (by rw [g2]; exact t6)) (fun _ _ w => w.elim) (fun r_167 h_167 hp => ?_)
            obtain ⟨rfl, rfl⟩ := hp
            rw [g2, xq, xn]
            have hxr := exO_r (a := A 1) (r := A 1) (fr := qwi (A 1) d l k) (n := nwi (A 1) d l k) t4.1
            refine gi_if_lt (tgt := 177) dX10_ofLine_170 (by decide) ⟨by omega, by omega⟩ (fun c_170 => ?_) (fun c_170 => ?_)
            · refine gi_iconst dX10_ofLine_177 ?_
              refine gi_iadd dX10_ofLine_178 ?_
              refine gg_istore dX10_ofLine_179 (Nat.le_of_ble_eq_true rfl) rfl ?_
              refine gi_iinc dX10_ofLine_181 rfl (Nat.le_of_ble_eq_true rfl) rfl ?_
              refine gg_goto (tgt := 137) dX10_ofLine_184 (by decide) ?_
              refine gg_drop 3 ?_
              refine gg_drop 4 ?_
              have ek : (k + 1).toNat = k.toNat + 1 := by omega
              exact gg_conv (ih_137 _ (by omega) (k + 1) rfl (by omega)) rfl (by simp only [ek, exC, Int.toNat_of_nonneg hk.1, if_pos c_170]; rfl) rfl
            · refine gi_iconst dX10_ofLine_173 ?_
              refine gg_goto (tgt := 178) dX10_ofLine_174 (by decide) ?_
              refine gi_iadd dX10_ofLine_178 ?_
              refine gg_istore dX10_ofLine_179 (Nat.le_of_ble_eq_true rfl) rfl ?_
              refine gi_iinc dX10_ofLine_181 rfl (Nat.le_of_ble_eq_true rfl) rfl ?_
              refine gg_goto (tgt := 137) dX10_ofLine_184 (by decide) ?_
              refine gg_drop 3 ?_
              refine gg_drop 4 ?_
              have ek : (k + 1).toNat = k.toNat + 1 := by omega
              exact gg_conv (ih_137 _ (by omega) (k + 1) rfl (by omega)) rfl (by simp only [ek, exC, Int.toNat_of_nonneg hk.1, if_neg (show ¬ exO (A 1) (A 1) (qwi (A 1) d l k) (nwi (A 1) d l k) < 0 by omega)]; rfl) rfl
      refine gg_drop 3 ?_
      refine gg_drop 4 ?_
      exact L_137 _ 0 rfl (by omega)
    by_cases w_21_4 : w = 5
    · refine gi_tab (tgt := 109) dX10_ofLine_21 hw (by omega) (by omega) (by rw [w_21_4]; rfl) (by decide) ?_
      refine gg_aload_n dX10_ofLine_109 rfl rfl ?_
      refine gc_X10_310 rfl dX10_ofLine_110 ⟨(Nat.le_of_ble_eq_true rfl), (Nat.le_of_ble_eq_true rfl)⟩ ⟨(Nat.le_of_ble_eq_true rfl), (Nat.le_of_ble_eq_true rfl)⟩ (Nat.le_of_ble_eq_true rfl) (HAt.mu rfl) (c_X10_allSyllables hL2.1) (fun _ _ w => w.elim) (fun r_110 h_110 hp => ?_)
      obtain ⟨rfl, rfl⟩ := hp
      subst hQF9
      refine gg_iret dX10_ofLine_113 rfl rfl ⟨(Nat.le_of_ble_eq_true rfl), (Nat.le_of_ble_eq_true rfl)⟩ ?_
      refine ⟨F2, A2, ?_, rfl, hF, fA, o3⟩
      rw [olV, if_neg w_21_0, if_neg w_21_1, if_neg w_21_2, if_pos w_21_4, ally_LE E2 (F2 16).toNat (by omega), k17, Int.toNat_natCast]
    by_cases w_21_5 : w = 6
    · refine gi_tab (tgt := 114) dX10_ofLine_21 hw (by omega) (by omega) (by rw [w_21_5]; rfl) (by decide) ?_
      refine gg_iload dX10_ofLine_114 rfl ?_
      refine gi_if_eq (tgt := 129) dX10_ofLine_116 (by decide) ⟨by omega, by omega⟩ (fun c9 => ?_) (fun c9 => absurd c9 (by decide))
      refine gi_iconst dX10_ofLine_129 ?_
      subst hQF9
      refine gg_iret dX10_ofLine_130 rfl rfl ⟨(Nat.le_of_ble_eq_true rfl), (Nat.le_of_ble_eq_true rfl)⟩ ?_
      refine ⟨F2, A2, ?_, rfl, hF, fA, o3⟩
      rw [olV, if_neg w_21_0, if_neg w_21_1, if_neg w_21_2, if_neg w_21_4, if_pos w_21_5, ← hc9, if_neg (by omega)]
    refine gi_tabD (tgt := 131) dX10_ofLine_21 hw (by omega) (by decide) ?_
    refine gi_iconst dX10_ofLine_131 ?_
    refine gg_istore dX10_ofLine_132 (Nat.le_of_ble_eq_true rfl) rfl ?_
    refine gi_iconst dX10_ofLine_134 ?_
    refine gg_istore dX10_ofLine_135 (Nat.le_of_ble_eq_true rfl) rfl ?_
    have L_137 : ∀ (n9 : Nat) (k : Int), ((F2 16 - k).toNat) = n9 → ∀ (hk : 0 ≤ k ∧ k ≤ F2 16), GG Γ M_X10_ofLine QF9 (0, 0) (mst Γ h F2 A2) 137 [some (.ref (g_L Γ 0)), some (.int (iN d)), some (.int (iN l)), none, none, some (.int (iN (exC (A 1) d l k.toNat))), some (.int (iN k))] [] := by
      intro n9
      induction n9 using Nat.strongRecOn with
      | ind n9 ih_137 => 
        intro k hm9 hk
        refine gg_iload dX10_ofLine_137 rfl ?_
        refine gg_aload_n dX10_ofLine_139 rfl rfl ?_
        refine gm_get60 rfl dX10_ofLine_140 (by (try simp only [uF_s, uF_n, ne_eq, not_false_eq_true, Nat.reduceEqDiff, reduceCtorEq]); rfl) ?_
        refine gi_icmp_ge (tgt := 187) dX10_ofLine_143 (by decide) ⟨by omega, by omega⟩ ⟨by omega, by omega⟩ (fun c_143 => ?_) (fun c_143 => ?_)
        · refine gg_iload dX10_ofLine_187 rfl ?_
          subst hQF9
          refine gg_iret dX10_ofLine_189 rfl rfl ⟨(Nat.le_of_ble_eq_true rfl), (Nat.le_of_ble_eq_true rfl)⟩ ?_
          refine ⟨F2, A2, ?_, rfl, hF, fA, o3⟩
          rw [olV, if_neg (by omega), if_neg (by omega), if_neg (by omega), if_neg (by omega), if_neg (by omega), show k.toNat = (lnW (A 1) d l).length by omega]
        · obtain ⟨pv, lenv, cv, x1, x2, x3, x4⟩ := LD_at N hd hl (t5 d (by omega) (by omega)).2 hL2 (w := k) (by omega) (by omega)
          have xq : A2 8 k = qwi (A 1) d l k := (E2.2 k (by omega) (by omega)).1.symm
          have xn : A2 9 k = nwi (A 1) d l k := (E2.2 k (by omega) (by omega)).2.1.symm
          refine gg_iload dX10_ofLine_146 rfl ?_
          refine gg_aload_n dX10_ofLine_148 rfl rfl ?_
          refine gg_aload_n dX10_ofLine_149 rfl rfl ?_
          refine gm_get13 rfl dX10_ofLine_150 ?_
          refine gg_aload_n dX10_ofLine_153 rfl rfl ?_
          refine gm_get63 rfl dX10_ofLine_154 ?_
          refine gg_iload dX10_ofLine_157 rfl ?_
          refine gm_iald dX10_ofLine_159 (by decide) rfl (by decide) ⟨by omega, by simp only [ml9]; omega⟩ (by (try simp only [uA_s, uA_n, ne_eq, not_false_eq_true, Nat.reduceEqDiff, reduceCtorEq]); rfl) ?_
          refine gg_aload_n dX10_ofLine_160 rfl rfl ?_
          refine gm_get66 rfl dX10_ofLine_161 ?_
          refine gg_iload dX10_ofLine_164 rfl ?_
          refine gm_iald dX10_ofLine_166 (by decide) rfl (by decide) ⟨by omega, by simp only [ml9]; omega⟩ (by (try simp only [uA_s, uA_n, ne_eq, not_false_eq_true, Nat.reduceEqDiff, reduceCtorEq]); rfl) ?_
          refine gc_X10_214 rfl dX10_ofLine_167 ⟨(Nat.le_of_ble_eq_true rfl), (Nat.le_of_ble_eq_true rfl)⟩ ⟨(Nat.le_of_ble_eq_true rfl), (Nat.le_of_ble_eq_true rfl)⟩ (Nat.le_of_ble_eq_true rfl) (HAt.mu rfl) (c_X10_exceptionOf (A := A2) (j := 1) (by rw [g2]; exact S) (by decide) rfl (by decide) ⟨by omega, by omega⟩ ⟨by omega, by show _ ≤ (2609 : Int); omega⟩ (by rw [g2]; exact t6)) (fun _ _ w => w.elim) (fun r_167 h_167 hp => ?_)
          obtain ⟨rfl, rfl⟩ := hp
          rw [g2, xq, xn]
          have hxr := exO_r (a := A 1) (r := A 1) (fr := qwi (A 1) d l k) (n := nwi (A 1) d l k) t4.1
          refine gi_if_lt (tgt := 177) dX10_ofLine_170 (by decide) ⟨by omega, by omega⟩ (fun c_170 => ?_) (fun c_170 => ?_)
          · refine gi_iconst dX10_ofLine_177 ?_
            refine gi_iadd dX10_ofLine_178 ?_
            refine gg_istore dX10_ofLine_179 (Nat.le_of_ble_eq_true rfl) rfl ?_
            refine gi_iinc dX10_ofLine_181 rfl (Nat.le_of_ble_eq_true rfl) rfl ?_
            refine gg_goto (tgt := 137) dX10_ofLine_184 (by decide) ?_
            refine gg_drop 3 ?_
            refine gg_drop 4 ?_
            have ek : (k + 1).toNat = k.toNat + 1 := by omega
            exact gg_conv (ih_137 _ (by omega) (k + 1) rfl (by omega)) rfl (by simp only [ek, exC, Int.toNat_of_nonneg hk.1, if_pos c_170]; rfl) rfl
          · refine gi_iconst dX10_ofLine_173 ?_
            refine gg_goto (tgt := 178) dX10_ofLine_174 (by decide) ?_
            refine gi_iadd dX10_ofLine_178 ?_
            refine gg_istore dX10_ofLine_179 (Nat.le_of_ble_eq_true rfl) rfl ?_
            refine gi_iinc dX10_ofLine_181 rfl (Nat.le_of_ble_eq_true rfl) rfl ?_
            refine gg_goto (tgt := 137) dX10_ofLine_184 (by decide) ?_
            refine gg_drop 3 ?_
            refine gg_drop 4 ?_
            have ek : (k + 1).toNat = k.toNat + 1 := by omega
            exact gg_conv (ih_137 _ (by omega) (k + 1) rfl (by omega)) rfl (by simp only [ek, exC, Int.toNat_of_nonneg hk.1, if_neg (show ¬ exO (A 1) (A 1) (qwi (A 1) d l k) (nwi (A 1) d l k) < 0 by omega)]; rfl) rfl
    refine gg_drop 3 ?_
    refine gg_drop 4 ?_
    exact L_137 _ 0 rfl (by omega)
  · refine gi_iconst dX10_ofLine_13 ?_
    refine gg_goto (tgt := 18) dX10_ofLine_14 (by decide) ?_
    refine gg_istore dX10_ofLine_18 (Nat.le_of_ble_eq_true rfl) rfl ?_
    refine gg_iload_n dX10_ofLine_20 rfl ?_
    by_cases w_21_0 : w = 1
    · refine gi_tab (tgt := 60) dX10_ofLine_21 hw (by omega) (by omega) (by rw [w_21_0]; rfl) (by decide) ?_
      refine gg_iload dX10_ofLine_60 rfl ?_
      refine gi_if_eq (tgt := 82) dX10_ofLine_62 (by decide) ⟨by omega, by omega⟩ (fun c9 => absurd c9 (by decide)) (fun c9 => ?_)
      refine gg_aload_n dX10_ofLine_65 rfl rfl ?_
      refine gm_get115 rfl dX10_ofLine_66 b34 ?_
      refine gg_aload_n dX10_ofLine_69 rfl rfl ?_
      refine gm_get13 rfl dX10_ofLine_70 ?_
      refine gi_iconst dX10_ofLine_73 ?_
      refine gm_iald dX10_ofLine_74 (by decide) rfl (by decide) ⟨by omega, by simp only [ml9]; omega⟩ (congrFun g2 _) ?_
      refine gi_icmp_gt (tgt := 82) dX10_ofLine_75 (by decide) ⟨by omega, by omega⟩ ⟨by omega, by omega⟩ (fun c_75 => ?_) (fun c_75 => ?_)
      · refine gi_iconst dX10_ofLine_82 ?_
        subst hQF9
        refine gg_iret dX10_ofLine_83 rfl rfl ⟨(Nat.le_of_ble_eq_true rfl), (Nat.le_of_ble_eq_true rfl)⟩ ?_
        refine ⟨F2, A2, ?_, rfl, hF, fA, o3⟩
        rw [olV, if_pos w_21_0, ← hc9, if_neg (by omega)]
      · refine gi_iconst dX10_ofLine_78 ?_
        refine gg_goto (tgt := 83) dX10_ofLine_79 (by decide) ?_
        subst hQF9
        refine gg_iret dX10_ofLine_83 rfl rfl ⟨(Nat.le_of_ble_eq_true rfl), (Nat.le_of_ble_eq_true rfl)⟩ ?_
        refine ⟨F2, A2, ?_, rfl, hF, fA, o3⟩
        rw [olV, if_pos w_21_0, ← hc9, if_pos ⟨by omega, by omega⟩]
    by_cases w_21_1 : w = 2
    · refine gi_tab (tgt := 84) dX10_ofLine_21 hw (by omega) (by omega) (by rw [w_21_1]; rfl) (by decide) ?_
      refine gg_iload dX10_ofLine_84 rfl ?_
      refine gi_if_eq (tgt := 96) dX10_ofLine_86 (by decide) ⟨by omega, by omega⟩ (fun c9 => absurd c9 (by decide)) (fun c9 => ?_)
      refine gg_aload_n dX10_ofLine_89 rfl rfl ?_
      refine gm_get115 rfl dX10_ofLine_90 b34 ?_
      refine gg_goto (tgt := 97) dX10_ofLine_93 (by decide) ?_
      subst hQF9
      refine gg_iret dX10_ofLine_97 rfl rfl ⟨(Nat.le_of_ble_eq_true rfl), (Nat.le_of_ble_eq_true rfl)⟩ ?_
      refine ⟨F2, A2, ?_, rfl, hF, fA, o3⟩
      rw [olV, if_neg w_21_0, if_pos w_21_1, ← hc9, if_pos (by omega)]
    by_cases w_21_2 : w = 3
    · refine gi_tab (tgt := 98) dX10_ofLine_21 hw (by omega) (by omega) (by rw [w_21_2]; rfl) (by decide) ?_
      refine gg_iload dX10_ofLine_98 rfl ?_
      refine gi_if_eq (tgt := 107) dX10_ofLine_100 (by decide) ⟨by omega, by omega⟩ (fun c9 => absurd c9 (by decide)) (fun c9 => ?_)
      refine gi_iconst dX10_ofLine_103 ?_
      refine gg_goto (tgt := 108) dX10_ofLine_104 (by decide) ?_
      subst hQF9
      refine gg_iret dX10_ofLine_108 rfl rfl ⟨(Nat.le_of_ble_eq_true rfl), (Nat.le_of_ble_eq_true rfl)⟩ ?_
      refine ⟨F2, A2, ?_, rfl, hF, fA, o3⟩
      rw [olV, if_neg w_21_0, if_neg w_21_1, if_pos w_21_2, ← hc9, if_pos (by omega)]
    by_cases w_21_3 : w = 4
    · refine gi_tab (tgt := 131) dX10_ofLine_21 hw (by omega) (by omega) (by rw [w_21_3]; rfl) (by decide) ?_
      refine gi_iconst dX10_ofLine_131 ?_
      refine gg_istore dX10_ofLine_132 (Nat.le_of_ble_eq_true rfl) rfl ?_
      refine gi_iconst dX10_ofLine_134 ?_
      refine gg_istore dX10_ofLine_135 (Nat.le_of_ble_eq_true rfl) rfl ?_
      have L_137 : ∀ (n9 : Nat) (k : Int), ((F2 16 - k).toNat) = n9 → ∀ (hk : 0 ≤ k ∧ k ≤ F2 16), GG Γ M_X10_ofLine QF9 (0, 0) (mst Γ h F2 A2) 137 [some (.ref (g_L Γ 0)), some (.int (iN d)), some (.int (iN l)), none, none, some (.int (iN (exC (A 1) d l k.toNat))), some (.int (iN k))] [] := by
        intro n9
        induction n9 using Nat.strongRecOn with
        | ind n9 ih_137 => 
          intro k hm9 hk
          refine gg_iload dX10_ofLine_137 rfl ?_
          refine gg_aload_n dX10_ofLine_139 rfl rfl ?_
          refine gm_get60 rfl dX10_ofLine_140 (by (try simp only [uF_s, uF_n, ne_eq, not_false_eq_true, Nat.reduceEqDiff, reduceCtorEq]); rfl) ?_
          refine gi_icmp_ge (tgt := 187) dX10_ofLine_143 (by decide) ⟨by omega, by omega⟩ ⟨by omega, by omega⟩ (fun c_143 => ?_) (fun c_143 => ?_)
          · refine gg_iload dX10_ofLine_187 rfl ?_
            subst hQF9
            refine gg_iret dX10_ofLine_189 rfl rfl ⟨(Nat.le_of_ble_eq_true rfl), (Nat.le_of_ble_eq_true rfl)⟩ ?_
            refine ⟨F2, A2, ?_, rfl, hF, fA, o3⟩
            rw [olV, if_neg (by omega), if_neg (by omega), if_neg (by omega), if_neg (by omega), if_neg (by omega), show k.toNat = (lnW (A 1) d l).length by omega]
          · obtain ⟨pv, lenv, cv, x1, x2, x3, x4⟩ := LD_at N hd hl (t5 d (by omega) (by omega)).2 hL2 (w := k) (by omega) (by omega)
            have xq : A2 8 k = qwi (A 1) d l k := (E2.2 k (by omega) (by omega)).1.symm
            have xn : A2 9 k = nwi (A 1) d l k := (E2.2 k (by omega) (by omega)).2.1.symm
            refine gg_iload dX10_ofLine_146 rfl ?_
            refine gg_aload_n dX10_ofLine_148 rfl rfl ?_
            refine gg_aload_n dX10_ofLine_149 rfl rfl ?_
            refine gm_get13 rfl dX10_ofLine_150 ?_
            refine gg_aload_n dX10_ofLine_153 rfl rfl ?_
            refine gm_get63 rfl dX10_ofLine_154 ?_
            refine gg_iload dX10_ofLine_157 rfl ?_
            refine gm_iald dX10_ofLine_159 (by decide) rfl (by decide) ⟨by omega, by simp only [ml9]; omega⟩ (by (try simp only [uA_s, uA_n, ne_eq, not_false_eq_true, Nat.reduceEqDiff, reduceCtorEq]); rfl) ?_
            refine gg_aload_n dX10_ofLine_160 rfl rfl ?_
            refine gm_get66 rfl dX10_ofLine_161 ?_
            refine gg_iload dX10_ofLine_164 rfl ?_
            refine gm_iald dX10_ofLine_166 (by decide) rfl (by decide) ⟨by omega, by simp only [ml9]; omega⟩ (by (try simp only [uA_s, uA_n, ne_eq, not_false_eq_true, Nat.reduceEqDiff, reduceCtorEq]); rfl) ?_
            refine gc_X10_214 rfl dX10_ofLine_167 ⟨(Nat.le_of_ble_eq_true rfl), (Nat.le_of_ble_eq_true rfl)⟩ ⟨(Nat.le_of_ble_eq_true rfl), (Nat.le_of_ble_eq_true rfl)⟩ (Nat.le_of_ble_eq_true rfl) (HAt.mu rfl) (c_X10_exceptionOf (A := A2) (j := 1) (by rw [g2]; exact S) (by decide) rfl (by decide) ⟨by omega, by omega⟩ ⟨by omega, by show _ ≤ (2609 : Int); omega⟩ (by rw [g2]; exact t6)) (fun _ _ w => w.elim) (fun r_167 h_167 hp => ?_)
            obtain ⟨rfl, rfl⟩ := hp
            rw [g2, xq, xn]
            have hxr := exO_r (a := A 1) (r := A 1) (fr := qwi (A 1) d l k) (n := nwi (A 1) d l k) t4.1
            refine gi_if_lt (tgt := 177) dX10_ofLine_170 (by decide) ⟨by omega, by omega⟩ (fun c_170 => ?_) (fun c_170 => ?_)
            · refine gi_iconst dX10_ofLine_177 ?_
              refine gi_iadd dX10_ofLine_178 ?_
              refine gg_istore dX10_ofLine_179 (Nat.le_of_ble_eq_true rfl) rfl ?_
              refine gi_iinc dX10_ofLine_181 rfl (Nat.le_of_ble_eq_true rfl) rfl ?_
              refine gg_goto (tgt := 137) dX10_ofLine_184 (by decide) ?_
              refine gg_drop 3 ?_
              refine gg_drop 4 ?_
              have ek : (k + 1).toNat = k.toNat + 1 := by omega
              exact gg_conv (ih_137 _ (by omega) (k + 1) rfl (by omega)) rfl (by simp only [ek, exC, Int.toNat_of_nonneg hk.1, if_pos c_170]; rfl) rfl
            · refine gi_iconst dX10_ofLine_173 ?_
              refine gg_goto (tgt := 178) dX10_ofLine_174 (by decide) ?_
              refine gi_iadd dX10_ofLine_178 ?_
              refine gg_istore dX10_ofLine_179 (Nat.le_of_ble_eq_true rfl) rfl ?_
              refine gi_iinc dX10_ofLine_181 rfl (Nat.le_of_ble_eq_true rfl) rfl ?_
              refine gg_goto (tgt := 137) dX10_ofLine_184 (by decide) ?_
              refine gg_drop 3 ?_
              refine gg_drop 4 ?_
              have ek : (k + 1).toNat = k.toNat + 1 := by omega
              exact gg_conv (ih_137 _ (by omega) (k + 1) rfl (by omega)) rfl (by simp only [ek, exC, Int.toNat_of_nonneg hk.1, if_neg (show ¬ exO (A 1) (A 1) (qwi (A 1) d l k) (nwi (A 1) d l k) < 0 by omega)]; rfl) rfl
      refine gg_drop 3 ?_
      refine gg_drop 4 ?_
      exact L_137 _ 0 rfl (by omega)
    by_cases w_21_4 : w = 5
    · refine gi_tab (tgt := 109) dX10_ofLine_21 hw (by omega) (by omega) (by rw [w_21_4]; rfl) (by decide) ?_
      refine gg_aload_n dX10_ofLine_109 rfl rfl ?_
      refine gc_X10_310 rfl dX10_ofLine_110 ⟨(Nat.le_of_ble_eq_true rfl), (Nat.le_of_ble_eq_true rfl)⟩ ⟨(Nat.le_of_ble_eq_true rfl), (Nat.le_of_ble_eq_true rfl)⟩ (Nat.le_of_ble_eq_true rfl) (HAt.mu rfl) (c_X10_allSyllables hL2.1) (fun _ _ w => w.elim) (fun r_110 h_110 hp => ?_)
      obtain ⟨rfl, rfl⟩ := hp
      subst hQF9
      refine gg_iret dX10_ofLine_113 rfl rfl ⟨(Nat.le_of_ble_eq_true rfl), (Nat.le_of_ble_eq_true rfl)⟩ ?_
      refine ⟨F2, A2, ?_, rfl, hF, fA, o3⟩
      rw [olV, if_neg w_21_0, if_neg w_21_1, if_neg w_21_2, if_pos w_21_4, ally_LE E2 (F2 16).toNat (by omega), k17, Int.toNat_natCast]
    by_cases w_21_5 : w = 6
    · refine gi_tab (tgt := 114) dX10_ofLine_21 hw (by omega) (by omega) (by rw [w_21_5]; rfl) (by decide) ?_
      refine gg_iload dX10_ofLine_114 rfl ?_
      refine gi_if_eq (tgt := 129) dX10_ofLine_116 (by decide) ⟨by omega, by omega⟩ (fun c9 => absurd c9 (by decide)) (fun c9 => ?_)
      refine gg_aload_n dX10_ofLine_119 rfl rfl ?_
      refine gm_get118 rfl dX10_ofLine_120 (by (try simp only [uF_s, uF_n, ne_eq, not_false_eq_true, Nat.reduceEqDiff, reduceCtorEq]); rfl) ?_
      refine gc_X10_264 rfl dX10_ofLine_123 ⟨(Nat.le_of_ble_eq_true rfl), (Nat.le_of_ble_eq_true rfl)⟩ ⟨(Nat.le_of_ble_eq_true rfl), (Nat.le_of_ble_eq_true rfl)⟩ (Nat.le_of_ble_eq_true rfl) (c_X10_bits o2) (fun _ _ w => w.elim) (fun r_123 h_123 hp => ?_)
      obtain ⟨rfl, rfl⟩ := hp
      refine gg_goto (tgt := 130) dX10_ofLine_126 (by decide) ?_
      subst hQF9
      refine gg_iret dX10_ofLine_130 rfl rfl ⟨(Nat.le_of_ble_eq_true rfl), (Nat.le_of_ble_eq_true rfl)⟩ ?_
      refine ⟨F2, A2, ?_, rfl, hF, fA, o3⟩
      rw [olV, if_neg w_21_0, if_neg w_21_1, if_neg w_21_2, if_neg w_21_4, if_pos w_21_5, ← hc9, if_pos (by omega), b35]
    refine gi_tabD (tgt := 131) dX10_ofLine_21 hw (by omega) (by decide) ?_
    refine gi_iconst dX10_ofLine_131 ?_
    refine gg_istore dX10_ofLine_132 (Nat.le_of_ble_eq_true rfl) rfl ?_
    refine gi_iconst dX10_ofLine_134 ?_
    refine gg_istore dX10_ofLine_135 (Nat.le_of_ble_eq_true rfl) rfl ?_
    have L_137 : ∀ (n9 : Nat) (k : Int), ((F2 16 - k).toNat) = n9 → ∀ (hk : 0 ≤ k ∧ k ≤ F2 16), GG Γ M_X10_ofLine QF9 (0, 0) (mst Γ h F2 A2) 137 [some (.ref (g_L Γ 0)), some (.int (iN d)), some (.int (iN l)), none, none, some (.int (iN (exC (A 1) d l k.toNat))), some (.int (iN k))] [] := by
      intro n9
      induction n9 using Nat.strongRecOn with
      | ind n9 ih_137 => 
        intro k hm9 hk
        refine gg_iload dX10_ofLine_137 rfl ?_
        refine gg_aload_n dX10_ofLine_139 rfl rfl ?_
        refine gm_get60 rfl dX10_ofLine_140 (by (try simp only [uF_s, uF_n, ne_eq, not_false_eq_true, Nat.reduceEqDiff, reduceCtorEq]); rfl) ?_
        refine gi_icmp_ge (tgt := 187) dX10_ofLine_143 (by decide) ⟨by omega, by omega⟩ ⟨by omega, by omega⟩ (fun c_143 => ?_) (fun c_143 => ?_)
        · refine gg_iload dX10_ofLine_187 rfl ?_
          subst hQF9
          refine gg_iret dX10_ofLine_189 rfl rfl ⟨(Nat.le_of_ble_eq_true rfl), (Nat.le_of_ble_eq_true rfl)⟩ ?_
          refine ⟨F2, A2, ?_, rfl, hF, fA, o3⟩
          rw [olV, if_neg (by omega), if_neg (by omega), if_neg (by omega), if_neg (by omega), if_neg (by omega), show k.toNat = (lnW (A 1) d l).length by omega]
        · obtain ⟨pv, lenv, cv, x1, x2, x3, x4⟩ := LD_at N hd hl (t5 d (by omega) (by omega)).2 hL2 (w := k) (by omega) (by omega)
          have xq : A2 8 k = qwi (A 1) d l k := (E2.2 k (by omega) (by omega)).1.symm
          have xn : A2 9 k = nwi (A 1) d l k := (E2.2 k (by omega) (by omega)).2.1.symm
          refine gg_iload dX10_ofLine_146 rfl ?_
          refine gg_aload_n dX10_ofLine_148 rfl rfl ?_
          refine gg_aload_n dX10_ofLine_149 rfl rfl ?_
          refine gm_get13 rfl dX10_ofLine_150 ?_
          refine gg_aload_n dX10_ofLine_153 rfl rfl ?_
          refine gm_get63 rfl dX10_ofLine_154 ?_
          refine gg_iload dX10_ofLine_157 rfl ?_
          refine gm_iald dX10_ofLine_159 (by decide) rfl (by decide) ⟨by omega, by simp only [ml9]; omega⟩ (by (try simp only [uA_s, uA_n, ne_eq, not_false_eq_true, Nat.reduceEqDiff, reduceCtorEq]); rfl) ?_
          refine gg_aload_n dX10_ofLine_160 rfl rfl ?_
          refine gm_get66 rfl dX10_ofLine_161 ?_
          refine gg_iload dX10_ofLine_164 rfl ?_
          refine gm_iald dX10_ofLine_166 (by decide) rfl (by decide) ⟨by omega, by simp only [ml9]; omega⟩ (by (try simp only [uA_s, uA_n, ne_eq, not_false_eq_true, Nat.reduceEqDiff, reduceCtorEq]); rfl) ?_
          refine gc_X10_214 rfl dX10_ofLine_167 ⟨(Nat.le_of_ble_eq_true rfl), (Nat.le_of_ble_eq_true rfl)⟩ ⟨(Nat.le_of_ble_eq_true rfl), (Nat.le_of_ble_eq_true rfl)⟩ (Nat.le_of_ble_eq_true rfl) (HAt.mu rfl) (c_X10_exceptionOf (A := A2) (j := 1) (by rw [g2]; exact S) (by decide) rfl (by decide) ⟨by omega, by omega⟩ ⟨by omega, by show _ ≤ (2609 : Int); omega⟩ (by rw [g2]; exact t6)) (fun _ _ w => w.elim) (fun r_167 h_167 hp => ?_)
          obtain ⟨rfl, rfl⟩ := hp
          rw [g2, xq, xn]
          have hxr := exO_r (a := A 1) (r := A 1) (fr := qwi (A 1) d l k) (n := nwi (A 1) d l k) t4.1
          refine gi_if_lt (tgt := 177) dX10_ofLine_170 (by decide) ⟨by omega, by omega⟩ (fun c_170 => ?_) (fun c_170 => ?_)
          · refine gi_iconst dX10_ofLine_177 ?_
            refine gi_iadd dX10_ofLine_178 ?_
            refine gg_istore dX10_ofLine_179 (Nat.le_of_ble_eq_true rfl) rfl ?_
            refine gi_iinc dX10_ofLine_181 rfl (Nat.le_of_ble_eq_true rfl) rfl ?_
            refine gg_goto (tgt := 137) dX10_ofLine_184 (by decide) ?_
            refine gg_drop 3 ?_
            refine gg_drop 4 ?_
            have ek : (k + 1).toNat = k.toNat + 1 := by omega
            exact gg_conv (ih_137 _ (by omega) (k + 1) rfl (by omega)) rfl (by simp only [ek, exC, Int.toNat_of_nonneg hk.1, if_pos c_170]; rfl) rfl
          · refine gi_iconst dX10_ofLine_173 ?_
            refine gg_goto (tgt := 178) dX10_ofLine_174 (by decide) ?_
            refine gi_iadd dX10_ofLine_178 ?_
            refine gg_istore dX10_ofLine_179 (Nat.le_of_ble_eq_true rfl) rfl ?_
            refine gi_iinc dX10_ofLine_181 rfl (Nat.le_of_ble_eq_true rfl) rfl ?_
            refine gg_goto (tgt := 137) dX10_ofLine_184 (by decide) ?_
            refine gg_drop 3 ?_
            refine gg_drop 4 ?_
            have ek : (k + 1).toNat = k.toNat + 1 := by omega
            exact gg_conv (ih_137 _ (by omega) (k + 1) rfl (by omega)) rfl (by simp only [ek, exC, Int.toNat_of_nonneg hk.1, if_neg (show ¬ exO (A 1) (A 1) (qwi (A 1) d l k) (nwi (A 1) d l k) < 0 by omega)]; rfl) rfl
    refine gg_drop 3 ?_
    refine gg_drop 4 ?_
    exact L_137 _ 0 rfl (by omega)
