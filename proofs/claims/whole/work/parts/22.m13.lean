/-! the reference: words told, differences -/
def tld (v : Int → Int) : Nat → Int
  | 0 => 0
  | k + 1 => 10 * tld v k + v k
/-- the words of two lines apart -/
def apN (A : Nat → Int → Int) (n m : Int) : Nat → Int
  | 0 => 0
  | k + 1 => apN A n m k + (if (k < n ∧ m ≤ k) ∨ (n ≤ k ∧ (k : Int) < m) ∨ (k < n ∧ likeR (A 1) (A 20 k) (A 21 k) (A 8 k) (A 9 k) = false) then 1 else 0)
theorem apN_r (A : Nat → Int → Int) (n m : Int) : ∀ k : Nat, 0 ≤ apN A n m k ∧ apN A n m k ≤ k
  | 0 => by simp [apN]
  | k + 1 => by
    have := apN_r A n m k
    rw [apN]; split <;> omega
theorem LD_at {a : Int → Int} {d l : Int} {F : Nat → Int} {A : Nat → Int → Int} (N : LnA a) (hd : 0 ≤ d ∧ d ≤ 3) (hl : 0 ≤ l ∧ l < a (5 + d)) (hn9 : a (5 + d) ≤ 10) (L : LD a d l F A) {w : Int} (h0 : 0 ≤ w) (h1 : w < F 16) :
    ∃ pv lenv cv, (lnW a d l)[w.toNat]? = some (pv, lenv, cv) ∧ WDq a A w (169 + 61 * (10 * d + l) + 1 + pv) lenv cv ∧ (170 ≤ A 8 w ∧ A 8 w + A 9 w ≤ 2609) ∧ (1 ≤ A 9 w ∧ A 9 w ≤ 12) := by
  obtain ⟨n1, n2, n3⟩ := N d l (by omega) (by omega) (by omega) (by omega)
  have h2 := L.2.1
  have hi : w.toNat < (lnW a d l).length := by omega
  obtain ⟨⟨pv, lenv, cv⟩, hx⟩ : ∃ t, (lnW a d l)[w.toNat] = t := ⟨_, rfl⟩
  have h3 : (lnW a d l)[w.toNat]? = some (pv, lenv, cv) := by rw [List.getElem?_eq_getElem hi, hx]
  have h4 := L.2.2 _ _ _ _ h3
  rw [Int.toNat_of_nonneg h0] at h4
  have h5 := lnW_w N hd hl h3
  refine ⟨pv, lenv, cv, h3, h4, ?_, ?_⟩
  · rw [h4.2.1, h4.2.2.1]; omega
  · rw [h4.2.2.1]; omega
set_option maxRecDepth 100000 in
set_option maxHeartbeats 4000000 in
theorem c_X10_marksTold {Γ : GT} {h : XH} {F : Nat → Int} {A : Nat → Int → Int} (L9 : LW F A) {w : Int} (hw : 0 ≤ w ∧ w < F 16) : Ct Γ M_X10_marksTold [.ref (g_L Γ 0), .int (iN w)] (mst Γ h F A) (fun r h9 => r = some (.int (iN (tld (fun k => A 11 (12 * w + k)) (A 10 w).toNat))) ∧ h9 = mst Γ h F A) (fun _ _ => False) := by
  refine Ct.of rfl (by decide +kernel) (Nat.le_of_ble_eq_true rfl) ?_
  generalize hQF9 : QM Γ _ _ _ = QF9
  obtain ⟨l1, l2⟩ := id L9
  obtain ⟨k1, k2, k3, k4, k5⟩ := l2 w (by omega) (by omega)
  refine gi_iconst dX10_marksTold_0 ?_
  refine gg_istore_n dX10_marksTold_1 (Nat.le_of_ble_eq_true rfl) rfl ?_
  refine gi_iconst dX10_marksTold_2 ?_
  refine gg_istore_n dX10_marksTold_3 (Nat.le_of_ble_eq_true rfl) rfl ?_
  have L_4 : ∀ (n9 : Nat) (k : Int), ((A 10 w - k).toNat) = n9 → ∀ (hk : 0 ≤ k ∧ k ≤ A 10 w), GG Γ M_X10_marksTold QF9 (0, 0) (mst Γ h F A) 4 [some (.ref (g_L Γ 0)), some (.int (iN w)), some (.int (iN (tld (fun k => A 11 (12 * w + k)) k.toNat))), some (.int (iN k))] [] := by
    intro n9
    induction n9 using Nat.strongRecOn with
    | ind n9 ih_4 => 
      intro k hm9 hk
      refine gg_iload_n dX10_marksTold_4 rfl ?_
      refine gg_aload_n dX10_marksTold_5 rfl rfl ?_
      refine gm_get69 rfl dX10_marksTold_6 ?_
      refine gg_iload_n dX10_marksTold_9 rfl ?_
      refine gm_iald dX10_marksTold_10 (by decide) rfl (by decide) ⟨by omega, by simp only [ml9]; omega⟩ (by (try simp only [uA_s, uA_n, ne_eq, not_false_eq_true, Nat.reduceEqDiff, reduceCtorEq]); rfl) ?_
      refine gi_icmp_ge (tgt := 37) dX10_marksTold_11 (by decide) ⟨by omega, by omega⟩ ⟨by omega, by omega⟩ (fun c_11 => ?_) (fun c_11 => ?_)
      · refine gg_iload_n dX10_marksTold_37 rfl ?_
        subst hQF9
        refine gg_iret dX10_marksTold_38 rfl rfl ⟨(Nat.le_of_ble_eq_true rfl), (Nat.le_of_ble_eq_true rfl)⟩ ?_
        rw [show k = A 10 w by omega]
        exact ⟨rfl, rfl⟩
      · refine gi_bipush dX10_marksTold_14 (by decide) ?_
        refine gg_iload_n dX10_marksTold_16 rfl ?_
        refine gi_imul dX10_marksTold_17 ?_
        refine gg_aload_n dX10_marksTold_18 rfl rfl ?_
        refine gm_get72 rfl dX10_marksTold_19 ?_
        refine gi_bipush dX10_marksTold_22 (by decide) ?_
        refine gg_iload_n dX10_marksTold_24 rfl ?_
        refine gi_imul dX10_marksTold_25 ?_
        refine gg_iload_n dX10_marksTold_26 rfl ?_
        refine gi_iadd dX10_marksTold_27 ?_
        refine gm_iald dX10_marksTold_28 (by decide) rfl (by decide) ⟨by omega, by simp only [ml9]; omega⟩ (by (try simp only [uA_s, uA_n, ne_eq, not_false_eq_true, Nat.reduceEqDiff, reduceCtorEq]); rfl) ?_
        refine gi_iadd dX10_marksTold_29 ?_
        refine gg_istore_n dX10_marksTold_30 (Nat.le_of_ble_eq_true rfl) rfl ?_
        refine gi_iinc dX10_marksTold_31 rfl (Nat.le_of_ble_eq_true rfl) rfl ?_
        refine gg_goto (tgt := 4) dX10_marksTold_34 (by decide) ?_
        have ek : (k + 1).toNat = k.toNat + 1 := by omega
        exact gg_conv (ih_4 _ (by omega) (k + 1) rfl (by omega)) rfl (by simp only [ek, tld, Int.toNat_of_nonneg hk.1]; rfl) rfl
  exact L_4 _ 0 rfl (by omega)
set_option maxRecDepth 100000 in
set_option maxHeartbeats 4000000 in
theorem c_X10_word_ {Γ : GT} {h : XH} {F : Nat → Int} {A : Nat → Int → Int} (S : StA (A 1)) (N : LnA (A 1)) (E9 : ExA (A 1)) {d l : Int} (hd : InR d) (hl : InR l) {w u : Int} (hw : InR w) (hu : InR u) : Ct Γ M_X10_word_ [.ref (g_L Γ 0), .int (iN d), .int (iN l), .int (iN w), .int (iN u)] (mst Γ h F A) (fun r h9 => (¬ (0 ≤ d ∧ d ≤ 3 ∧ 0 ≤ l ∧ l < A 1 (5 + d)) ∧ r = some (.int (iN 0)) ∧ h9 = mst Γ h (uF F 0 1) A) ∨ ((0 ≤ d ∧ d ≤ 3 ∧ 0 ≤ l ∧ l < A 1 (5 + d)) ∧ ∃ (F1 F2 : Nat → Int) (A1 A2 : Nat → Int → Int), h9 = mst Γ h F2 A2 ∧ frF [0, 16, 24, 25, 27, 28, 29, 30, 34, 35, 36, 37, 38, 39, 40, 41, 42] F F2 ∧ frA [8, 9, 10, 11, 12, 13, 14, 15, 16, 17, 18, 19, 20, 21, 22] A A2 ∧ LD (A 1) d l F1 A1 ∧ ((¬ (0 ≤ w ∧ w < F1 16) ∧ r = some (.int (iN (0))) ∧ F2 0 = 1) ∨ ((0 ≤ w ∧ w < F1 16) ∧ ¬ (0 ≤ u ∧ u ≤ 5) ∧ r = some (.int (iN (0))) ∧ F2 0 = 2) ∨ ((0 ≤ w ∧ w < F1 16) ∧ (0 ≤ u ∧ u ≤ 5) ∧ r = some (.int (iN (if u = 0 then A1 9 w else if u = 1 then wC (fun k => A 1 (A1 8 w + k)) (A1 9 w) else if u = 2 then A1 10 w else if u = 3 then A1 12 w else if u = 4 then exO (A 1) (A 1) (A1 8 w) (A1 9 w) else tld (fun k => A1 11 (12 * w + k)) (A1 10 w).toNat))) ∧ F2 0 = 0)))) (fun _ _ => False) := by
  refine Ct.of rfl (by decide +kernel) (Nat.le_of_ble_eq_true rfl) ?_
  generalize hQF9 : QM Γ _ _ _ = QF9
  obtain ⟨t0, t1, t2, t3, t4, t5, t6⟩ := id S
  refine gg_aload_n dX10_word__0 rfl rfl ?_
  refine gi_iconst dX10_word__1 ?_
  refine gm_put3 rfl dX10_word__2 (by (try simp only [uF_ss, uF_cc, id_eq, Nat.reduceLT, reduceCtorEq]); rfl) ?_
  refine gg_aload_n dX10_word__5 rfl rfl ?_
  refine gg_iload_n dX10_word__6 rfl ?_
  refine gg_iload_n dX10_word__7 rfl ?_
  refine gc_X10_234 rfl dX10_word__8 ⟨(Nat.le_of_ble_eq_true rfl), (Nat.le_of_ble_eq_true rfl)⟩ ⟨(Nat.le_of_ble_eq_true rfl), (Nat.le_of_ble_eq_true rfl)⟩ (Nat.le_of_ble_eq_true rfl) (HAt.mu rfl) (c_X10_isLine (by exact S) (by assumption) (by assumption)) (fun _ _ w => w.elim) (fun r_8 h_8 hp => ?_)
  obtain ⟨rfl, rfl⟩ := hp
  refine gi_if_ne (tgt := 20) dX10_word__11 (by decide) (bi_r _) (fun c_11 => ?_) (fun c_11 => ?_)
  · rw [bi_t] at c_11
    simp at c_11
    have hn9 := t5 d (by omega) (by omega)
    refine gg_aload_n dX10_word__20 rfl rfl ?_
    refine gg_iload_n dX10_word__21 rfl ?_
    refine gg_iload_n dX10_word__22 rfl ?_
    refine gc_X10_294 rfl dX10_word__23 ⟨(Nat.le_of_ble_eq_true rfl), (Nat.le_of_ble_eq_true rfl)⟩ ⟨(Nat.le_of_ble_eq_true rfl), (Nat.le_of_ble_eq_true rfl)⟩ (Nat.le_of_ble_eq_true rfl) (HAt.mu rfl) (c2_laysLine (F := uF F 0 0) S N E9 ⟨by omega, by omega⟩ ⟨by omega, by omega⟩) (fun _ _ w => w.elim) (fun r_23 h_23 hp => ?_)
    obtain ⟨F1, A1, rfl, rfl, hF, hA, hL⟩ := hp
    have g1 : A1 1 = A 1 := hA 1 (by decide)
    have hfF := frF_z hF (by decide)
    have hfA := frA_w hA (by decide)
    have e0 : F1 0 = 0 := by rw [hF 0 (by decide), uF_s]
    have h16 := hL.1.1
    refine gg_iload_n dX10_word__26 rfl ?_
    refine gi_iconst dX10_word__27 ?_
    refine gg_aload_n dX10_word__28 rfl rfl ?_
    refine gm_get60 rfl dX10_word__29 (by (try simp only [uF_s, uF_n, ne_eq, not_false_eq_true, Nat.reduceEqDiff, reduceCtorEq]); rfl) ?_
    refine gi_iconst dX10_word__32 ?_
    refine gi_isub dX10_word__33 ?_
    refine gc_X10_158 rfl dX10_word__34 ⟨(Nat.le_of_ble_eq_true rfl), (Nat.le_of_ble_eq_true rfl)⟩ ⟨(Nat.le_of_ble_eq_true rfl), (Nat.le_of_ble_eq_true rfl)⟩ (Nat.le_of_ble_eq_true rfl) (c_X10_in hw ⟨by omega, by omega⟩ ⟨by omega, by omega⟩) (fun _ _ w => w.elim) (fun r_34 h_34 hp => ?_)
    obtain ⟨rfl, rfl⟩ := hp
    refine gi_if_ne (tgt := 46) dX10_word__37 (by decide) (bi_r _) (fun c_37 => ?_) (fun c_37 => ?_)
    · rw [bi_t] at c_37
      rw [Bool.and_eq_true, decide_eq_true_iff, decide_eq_true_iff] at c_37
      obtain ⟨pv, lenv, cv, x1, x2, x3, x4⟩ := LD_at N ⟨by omega, by omega⟩ ⟨by omega, by omega⟩ hn9.2 hL (w := w) (by omega) (by omega)
      obtain ⟨y1, y2, y3, y4, y5⟩ := hL.1.2 w (by omega) (by omega)
      refine gg_iload dX10_word__46 rfl ?_
      by_cases w_48_0 : u = 0
      · refine gi_tab (tgt := 88) dX10_word__48 hu (by omega) (by omega) (by rw [w_48_0]; rfl) (by decide) ?_
        refine gg_aload_n dX10_word__88 rfl rfl ?_
        refine gm_get66 rfl dX10_word__89 ?_
        refine gg_iload_n dX10_word__92 rfl ?_
        refine gm_iald dX10_word__93 (by decide) rfl (by decide) ⟨by omega, by simp only [ml9]; omega⟩ (by (try simp only [uA_s, uA_n, ne_eq, not_false_eq_true, Nat.reduceEqDiff, reduceCtorEq]); rfl) ?_
        subst hQF9
        refine gg_iret dX10_word__94 rfl rfl ⟨(Nat.le_of_ble_eq_true rfl), (Nat.le_of_ble_eq_true rfl)⟩ ?_
        refine Or.inr ⟨by omega, F1, F1, A1, A1, rfl, hfF, hfA, hL, Or.inr (Or.inr ⟨by omega, by omega, ?_, e0⟩)⟩
        rw [if_pos w_48_0]
      by_cases w_48_1 : u = 1
      · refine gi_tab (tgt := 95) dX10_word__48 hu (by omega) (by omega) (by rw [w_48_1]; rfl) (by decide) ?_
        refine gg_aload_n dX10_word__95 rfl rfl ?_
        refine gg_iload_n dX10_word__96 rfl ?_
        refine gc_X10_249 rfl dX10_word__97 ⟨(Nat.le_of_ble_eq_true rfl), (Nat.le_of_ble_eq_true rfl)⟩ ⟨(Nat.le_of_ble_eq_true rfl), (Nat.le_of_ble_eq_true rfl)⟩ (Nat.le_of_ble_eq_true rfl) (HAt.mu rfl) (c_X10_laysCores (F := F1) (A := A1) (by rw [g1]; exact S) ⟨by omega, by omega⟩ x4 (by omega)) (fun _ _ w => w.elim) (fun r_97 h_97 hp => ?_)
        obtain ⟨rfl, rfl⟩ := hp
        refine gg_aload_n dX10_word__100 rfl rfl ?_
        refine gm_get85 rfl dX10_word__101 (by (try simp only [uF_s, uF_n, ne_eq, not_false_eq_true, Nat.reduceEqDiff, reduceCtorEq]); rfl) ?_
        subst hQF9
        refine gg_iret dX10_word__104 rfl rfl ⟨(Nat.le_of_ble_eq_true rfl), (Nat.le_of_ble_eq_true rfl)⟩ ?_
        refine Or.inr ⟨by omega, F1, _, A1, _, rfl, frF_u (frF_u hfF (by decide)) (by decide), frA_u (frA_u hfA (by decide)) (by decide), hL, Or.inr (Or.inr ⟨by omega, by omega, ?_, by rw [uF_n (by decide), uF_n (by decide), e0]⟩)⟩
        rw [if_neg w_48_0, if_pos w_48_1, g1]
      by_cases w_48_2 : u = 2
      · refine gi_tab (tgt := 105) dX10_word__48 hu (by omega) (by omega) (by rw [w_48_2]; rfl) (by decide) ?_
        refine gg_aload_n dX10_word__105 rfl rfl ?_
        refine gm_get69 rfl dX10_word__106 ?_
        refine gg_iload_n dX10_word__109 rfl ?_
        refine gm_iald dX10_word__110 (by decide) rfl (by decide) ⟨by omega, by simp only [ml9]; omega⟩ (by (try simp only [uA_s, uA_n, ne_eq, not_false_eq_true, Nat.reduceEqDiff, reduceCtorEq]); rfl) ?_
        subst hQF9
        refine gg_iret dX10_word__111 rfl rfl ⟨(Nat.le_of_ble_eq_true rfl), (Nat.le_of_ble_eq_true rfl)⟩ ?_
        refine Or.inr ⟨by omega, F1, F1, A1, A1, rfl, hfF, hfA, hL, Or.inr (Or.inr ⟨by omega, by omega, ?_, e0⟩)⟩
        rw [if_neg w_48_0, if_neg w_48_1, if_pos w_48_2]
      by_cases w_48_3 : u = 3
      · refine gi_tab (tgt := 112) dX10_word__48 hu (by omega) (by omega) (by rw [w_48_3]; rfl) (by decide) ?_
        refine gg_aload_n dX10_word__112 rfl rfl ?_
        refine gm_get75 rfl dX10_word__113 ?_
        refine gg_iload_n dX10_word__116 rfl ?_
        refine gm_zald dX10_word__117 (by decide) rfl (by decide) ⟨by omega, by simp only [ml9]; omega⟩ (by (try simp only [uA_s, uA_n, ne_eq, not_false_eq_true, Nat.reduceEqDiff, reduceCtorEq]); rfl) ?_
        refine gi_if_eq (tgt := 125) dX10_word__118 (by decide) ⟨by omega, by omega⟩ (fun c_118 => ?_) (fun c_118 => ?_)
        · refine gi_iconst dX10_word__125 ?_
          subst hQF9
          refine gg_iret dX10_word__126 rfl rfl ⟨(Nat.le_of_ble_eq_true rfl), (Nat.le_of_ble_eq_true rfl)⟩ ?_
          refine Or.inr ⟨by omega, F1, F1, A1, A1, rfl, hfF, hfA, hL, Or.inr (Or.inr ⟨by omega, by omega, ?_, e0⟩)⟩
          rw [if_neg w_48_0, if_neg w_48_1, if_neg w_48_2, if_pos w_48_3, c_118]
        · refine gi_iconst dX10_word__121 ?_
          refine gg_goto (tgt := 126) dX10_word__122 (by decide) ?_
          subst hQF9
          refine gg_iret dX10_word__126 rfl rfl ⟨(Nat.le_of_ble_eq_true rfl), (Nat.le_of_ble_eq_true rfl)⟩ ?_
          refine Or.inr ⟨by omega, F1, F1, A1, A1, rfl, hfF, hfA, hL, Or.inr (Or.inr ⟨by omega, by omega, ?_, e0⟩)⟩
          rw [if_neg w_48_0, if_neg w_48_1, if_neg w_48_2, if_pos w_48_3, show A1 12 w = 1 by omega]
      by_cases w_48_4 : u = 4
      · refine gi_tab (tgt := 127) dX10_word__48 hu (by omega) (by omega) (by rw [w_48_4]; rfl) (by decide) ?_
        refine gg_aload_n dX10_word__127 rfl rfl ?_
        refine gg_aload_n dX10_word__128 rfl rfl ?_
        refine gm_get13 rfl dX10_word__129 ?_
        refine gg_aload_n dX10_word__132 rfl rfl ?_
        refine gm_get63 rfl dX10_word__133 ?_
        refine gg_iload_n dX10_word__136 rfl ?_
        refine gm_iald dX10_word__137 (by decide) rfl (by decide) ⟨by omega, by simp only [ml9]; omega⟩ (by (try simp only [uA_s, uA_n, ne_eq, not_false_eq_true, Nat.reduceEqDiff, reduceCtorEq]); rfl) ?_
        refine gg_aload_n dX10_word__138 rfl rfl ?_
        refine gm_get66 rfl dX10_word__139 ?_
        refine gg_iload_n dX10_word__142 rfl ?_
        refine gm_iald dX10_word__143 (by decide) rfl (by decide) ⟨by omega, by simp only [ml9]; omega⟩ (by (try simp only [uA_s, uA_n, ne_eq, not_false_eq_true, Nat.reduceEqDiff, reduceCtorEq]); rfl) ?_
        refine gc_X10_214 rfl dX10_word__144 ⟨(Nat.le_of_ble_eq_true rfl), (Nat.le_of_ble_eq_true rfl)⟩ ⟨(Nat.le_of_ble_eq_true rfl), (Nat.le_of_ble_eq_true rfl)⟩ (Nat.le_of_ble_eq_true rfl) (HAt.mu rfl) (c_X10_exceptionOf (A := A1) (j := 1) (by rw [g1]; exact S) (by decide) rfl (by decide) ⟨by omega, by omega⟩ ⟨by omega, by show _ ≤ (2609 : Int); omega⟩ (by rw [g1]; exact t6)) (fun _ _ w => w.elim) (fun r_144 h_144 hp => ?_)
        obtain ⟨rfl, rfl⟩ := hp
        subst hQF9
        refine gg_iret dX10_word__147 rfl rfl ⟨(Nat.le_of_ble_eq_true rfl), (Nat.le_of_ble_eq_true rfl)⟩ ?_
        refine Or.inr ⟨by omega, F1, F1, A1, A1, rfl, hfF, hfA, hL, Or.inr (Or.inr ⟨by omega, by omega, ?_, e0⟩)⟩
        rw [if_neg w_48_0, if_neg w_48_1, if_neg w_48_2, if_neg w_48_3, if_pos w_48_4, g1]
      by_cases w_48_5 : u = 5
      · refine gi_tab (tgt := 148) dX10_word__48 hu (by omega) (by omega) (by rw [w_48_5]; rfl) (by decide) ?_
        refine gg_aload_n dX10_word__148 rfl rfl ?_
        refine gg_iload_n dX10_word__149 rfl ?_
        refine gc_X10_336 rfl dX10_word__150 ⟨(Nat.le_of_ble_eq_true rfl), (Nat.le_of_ble_eq_true rfl)⟩ ⟨(Nat.le_of_ble_eq_true rfl), (Nat.le_of_ble_eq_true rfl)⟩ (Nat.le_of_ble_eq_true rfl) (HAt.mu rfl) (c_X10_marksTold hL.1 ⟨by omega, by omega⟩) (fun _ _ w => w.elim) (fun r_150 h_150 hp => ?_)
        obtain ⟨rfl, rfl⟩ := hp
        subst hQF9
        refine gg_iret dX10_word__153 rfl rfl ⟨(Nat.le_of_ble_eq_true rfl), (Nat.le_of_ble_eq_true rfl)⟩ ?_
        refine Or.inr ⟨by omega, F1, F1, A1, A1, rfl, hfF, hfA, hL, Or.inr (Or.inr ⟨by omega, by omega, ?_, e0⟩)⟩
        rw [if_neg w_48_0, if_neg w_48_1, if_neg w_48_2, if_neg w_48_3, if_neg w_48_4, ]
      refine gi_tabD (tgt := 154) dX10_word__48 hu (by omega) (by decide) ?_
      refine gg_aload_n dX10_word__154 rfl rfl ?_
      refine gi_iconst dX10_word__155 ?_
      refine gc_X10_162 rfl dX10_word__156 ⟨(Nat.le_of_ble_eq_true rfl), (Nat.le_of_ble_eq_true rfl)⟩ ⟨(Nat.le_of_ble_eq_true rfl), (Nat.le_of_ble_eq_true rfl)⟩ (Nat.le_of_ble_eq_true rfl) (HAt.mu rfl) (c_X10_fails) (fun _ _ w => w.elim) (fun r_156 h_156 hp => ?_)
      obtain ⟨rfl, rfl⟩ := hp
      subst hQF9
      refine gg_iret dX10_word__159 rfl rfl ⟨(Nat.le_of_ble_eq_true rfl), (Nat.le_of_ble_eq_true rfl)⟩ ?_
      exact Or.inr ⟨by omega, F1, uF F1 0 2, A1, A1, rfl, frF_u hfF (by decide), hfA, hL, Or.inr (Or.inl ⟨by omega, by omega, rfl, uF_s⟩)⟩
    · rw [bi_f] at c_37
      rw [Bool.and_eq_false_iff, decide_eq_false_iff_not, decide_eq_false_iff_not] at c_37
      refine gg_aload_n dX10_word__40 rfl rfl ?_
      refine gi_iconst dX10_word__41 ?_
      refine gc_X10_162 rfl dX10_word__42 ⟨(Nat.le_of_ble_eq_true rfl), (Nat.le_of_ble_eq_true rfl)⟩ ⟨(Nat.le_of_ble_eq_true rfl), (Nat.le_of_ble_eq_true rfl)⟩ (Nat.le_of_ble_eq_true rfl) (HAt.mu rfl) (c_X10_fails) (fun _ _ w => w.elim) (fun r_42 h_42 hp => ?_)
      obtain ⟨rfl, rfl⟩ := hp
      subst hQF9
      refine gg_iret dX10_word__45 rfl rfl ⟨(Nat.le_of_ble_eq_true rfl), (Nat.le_of_ble_eq_true rfl)⟩ ?_
      exact Or.inr ⟨by omega, F1, uF F1 0 1, A1, A1, rfl, frF_u hfF (by decide), hfA, hL, Or.inl ⟨by omega, rfl, uF_s⟩⟩
  · rw [bi_f] at c_11
    simp at c_11
    refine gg_aload_n dX10_word__14 rfl rfl ?_
    refine gi_iconst dX10_word__15 ?_
    refine gc_X10_162 rfl dX10_word__16 ⟨(Nat.le_of_ble_eq_true rfl), (Nat.le_of_ble_eq_true rfl)⟩ ⟨(Nat.le_of_ble_eq_true rfl), (Nat.le_of_ble_eq_true rfl)⟩ (Nat.le_of_ble_eq_true rfl) (HAt.mu rfl) (c_X10_fails) (fun _ _ w => w.elim) (fun r_16 h_16 hp => ?_)
    obtain ⟨rfl, rfl⟩ := hp
    subst hQF9
    refine gg_iret dX10_word__19 rfl rfl ⟨(Nat.le_of_ble_eq_true rfl), (Nat.le_of_ble_eq_true rfl)⟩ ?_
    exact Or.inl ⟨by omega, rfl, by rw [uF_ss]⟩
/-- the words of two lines -/
def ap1 (a : Int → Int) (d l d' l' : Int) (i : Nat) : Int :=
  match (lnW a d l)[i]?, (lnW a d' l')[i]? with
  | some t, some u => if likeR a (169 + 61 * (10 * d + l) + 1 + t.1) t.2.1 (169 + 61 * (10 * d' + l') + 1 + u.1) u.2.1 = true then 0 else 1
  | none, none => 0
  | _, _ => 1
def apP (a : Int → Int) (d l d' l' : Int) : Nat → Int
  | 0 => 0
  | k + 1 => apP a d l d' l' k + ap1 a d l d' l' k
theorem ap1_r (a : Int → Int) (d l d' l' : Int) (i : Nat) : 0 ≤ ap1 a d l d' l' i ∧ ap1 a d l d' l' i ≤ 1 := by
  unfold ap1
  split
  · split <;> omega
  · omega
  · omega
theorem apP_r (a : Int → Int) (d l d' l' : Int) : ∀ k : Nat, 0 ≤ apP a d l d' l' k ∧ apP a d l d' l' k ≤ k
  | 0 => by simp [apP]
  | k + 1 => by
    have := apP_r a d l d' l' k
    have := ap1_r a d l d' l' k
    rw [apP]; omega
theorem ap1_nn {a : Int → Int} {d l d' l' : Int} {i : Nat} (h1 : (lnW a d l)[i]? = none) (h2 : (lnW a d' l')[i]? = none) : ap1 a d l d' l' i = 0 := by
  unfold ap1; rw [h1, h2]
theorem ap1_sn {a : Int → Int} {d l d' l' : Int} {i : Nat} {t : Int × Int × Bool} (h1 : (lnW a d l)[i]? = some t) (h2 : (lnW a d' l')[i]? = none) : ap1 a d l d' l' i = 1 := by
  unfold ap1; rw [h1, h2]
theorem ap1_ns {a : Int → Int} {d l d' l' : Int} {i : Nat} {t : Int × Int × Bool} (h1 : (lnW a d l)[i]? = none) (h2 : (lnW a d' l')[i]? = some t) : ap1 a d l d' l' i = 1 := by
  unfold ap1; rw [h1, h2]
theorem ap1_ss {a : Int → Int} {d l d' l' : Int} {i : Nat} {t u : Int × Int × Bool} (h1 : (lnW a d l)[i]? = some t) (h2 : (lnW a d' l')[i]? = some u) : ap1 a d l d' l' i = if likeR a (169 + 61 * (10 * d + l) + 1 + t.1) t.2.1 (169 + 61 * (10 * d' + l') + 1 + u.1) u.2.1 = true then 0 else 1 := by
  unfold ap1; rw [h1, h2]
set_option maxRecDepth 100000 in
set_option maxHeartbeats 4000000 in
theorem c_X10_apart {Γ : GT} {h : XH} {F : Nat → Int} {A : Nat → Int → Int} (S : StA (A 1)) (N : LnA (A 1)) (E9 : ExA (A 1)) {d l d' l' : Int} (hd : 0 ≤ d ∧ d ≤ 3) (hl : 0 ≤ l ∧ l < A 1 (5 + d)) (hd' : 0 ≤ d' ∧ d' ≤ 3) (hl' : 0 ≤ l' ∧ l' < A 1 (5 + d')) : Ct Γ M_X10_apart [.ref (g_L Γ 0), .int (iN d), .int (iN l), .int (iN d'), .int (iN l')] (mst Γ h F A) (fun r h9 => ∃ (F1 : Nat → Int) (A1 : Nat → Int → Int), r = some (.int (iN (min 5 (apP (A 1) d l d' l' 12)))) ∧ h9 = mst Γ h F1 A1 ∧ frF [16, 24, 25] F F1 ∧ frA [8, 9, 10, 11, 12, 13, 14, 15, 20, 21] A A1) (fun _ _ => False) := by
  refine Ct.of rfl (by decide +kernel) (Nat.le_of_ble_eq_true rfl) ?_
  generalize hQF9 : QM Γ _ _ _ = QF9
  obtain ⟨t0, t1, t2, t3, t4, t5, t6⟩ := id S
  have hn9 := (t5 d (by omega) (by omega)).2
  have hq9 := (t5 d' (by omega) (by omega)).2
  refine gg_aload_n dX10_apart_0 rfl rfl ?_
  refine gg_iload_n dX10_apart_1 rfl ?_
  refine gg_iload_n dX10_apart_2 rfl ?_
  refine gc_X10_294 rfl dX10_apart_3 ⟨(Nat.le_of_ble_eq_true rfl), (Nat.le_of_ble_eq_true rfl)⟩ ⟨(Nat.le_of_ble_eq_true rfl), (Nat.le_of_ble_eq_true rfl)⟩ (Nat.le_of_ble_eq_true rfl) (HAt.mu rfl) (c2_laysLine S N E9 hd hl) (fun _ _ w => w.elim) (fun r_3 h_3 hp => ?_)
  obtain ⟨F1, A1, rfl, rfl, hF, hA, hL⟩ := hp
  have g1 : A1 1 = A 1 := hA 1 (by decide)
  have h16 := hL.1.1
  refine gg_aload_n dX10_apart_6 rfl rfl ?_
  refine gm_get60 rfl dX10_apart_7 (by (try simp only [uF_s, uF_n, ne_eq, not_false_eq_true, Nat.reduceEqDiff, reduceCtorEq]); rfl) ?_
  refine gg_istore dX10_apart_10 (Nat.le_of_ble_eq_true rfl) rfl ?_
  refine gi_iconst dX10_apart_12 ?_
  refine gg_istore dX10_apart_13 (Nat.le_of_ble_eq_true rfl) rfl ?_
  have L_15 : ∀ (n9 : Nat) (k : Int), ((F1 16 - k).toNat) = n9 → ∀ (hk : 0 ≤ k ∧ k ≤ F1 16), GG Γ M_X10_apart QF9 (0, 0) (mst Γ h F1 (uA (uA A1 20 (wrM (A1 20) 0 k (A1 8))) 21 (wrM (A1 21) 0 k (A1 9)))) 15 [some (.ref (g_L Γ 0)), some (.int (iN d)), some (.int (iN l)), some (.int (iN d')), some (.int (iN l')), some (.int (iN (F1 16))), some (.int (iN k)), none] [] := by
    intro n9
    induction n9 using Nat.strongRecOn with
    | ind n9 ih_15 => 
      intro k hm9 hk
      refine gg_iload dX10_apart_15 rfl ?_
      refine gg_iload dX10_apart_17 rfl ?_
      refine gi_icmp_ge (tgt := 56) dX10_apart_19 (by decide) ⟨by omega, by omega⟩ ⟨by omega, by omega⟩ (fun c_19 => ?_) (fun c_19 => ?_)
      · refine gg_aload_n dX10_apart_56 rfl rfl ?_
        refine gg_iload_n dX10_apart_57 rfl ?_
        refine gg_iload dX10_apart_58 rfl ?_
        refine gc_X10_294 rfl dX10_apart_60 ⟨(Nat.le_of_ble_eq_true rfl), (Nat.le_of_ble_eq_true rfl)⟩ ⟨(Nat.le_of_ble_eq_true rfl), (Nat.le_of_ble_eq_true rfl)⟩ (Nat.le_of_ble_eq_true rfl) (HAt.mu rfl) (c2_laysLine (F := F1) (A := uA (uA A1 20 (wrM (A1 20) 0 k (A1 8))) 21 (wrM (A1 21) 0 k (A1 9))) (by simp only [uF_s, uF_n, uF_ss, uF_cc, id_eq, ne_eq, not_false_eq_true, Nat.reduceEqDiff, Nat.reduceLT, reduceCtorEq, uA_s, uA_n, uA_ss, uA_cc, id_eq, ne_eq, not_false_eq_true, Nat.reduceEqDiff, Nat.reduceLT, reduceCtorEq]; rw [g1]; exact S) (by simp only [uF_s, uF_n, uF_ss, uF_cc, id_eq, ne_eq, not_false_eq_true, Nat.reduceEqDiff, Nat.reduceLT, reduceCtorEq, uA_s, uA_n, uA_ss, uA_cc, id_eq, ne_eq, not_false_eq_true, Nat.reduceEqDiff, Nat.reduceLT, reduceCtorEq]; rw [g1]; exact N) (by simp only [uF_s, uF_n, uF_ss, uF_cc, id_eq, ne_eq, not_false_eq_true, Nat.reduceEqDiff, Nat.reduceLT, reduceCtorEq, uA_s, uA_n, uA_ss, uA_cc, id_eq, ne_eq, not_false_eq_true, Nat.reduceEqDiff, Nat.reduceLT, reduceCtorEq]; rw [g1]; exact E9) hd' (by simp only [uF_s, uF_n, uF_ss, uF_cc, id_eq, ne_eq, not_false_eq_true, Nat.reduceEqDiff, Nat.reduceLT, reduceCtorEq, uA_s, uA_n, uA_ss, uA_cc, id_eq, ne_eq, not_false_eq_true, Nat.reduceEqDiff, Nat.reduceLT, reduceCtorEq]; rw [g1]; exact hl')) (fun _ _ w => w.elim) (fun r_60 h_60 hp => ?_)
        obtain ⟨F3, A3, rfl, rfl, hF3, hA3, hM⟩ := hp
        simp only [uF_s, uF_n, uF_ss, uF_cc, id_eq, ne_eq, not_false_eq_true, Nat.reduceEqDiff, Nat.reduceLT, reduceCtorEq, uA_s, uA_n, uA_ss, uA_cc, id_eq, ne_eq, not_false_eq_true, Nat.reduceEqDiff, Nat.reduceLT, reduceCtorEq] at hM
        rw [g1] at hM
        have g3 : A3 1 = A 1 := by rw [hA3 1 (by decide)]; simp only [uF_s, uF_n, uF_ss, uF_cc, id_eq, ne_eq, not_false_eq_true, Nat.reduceEqDiff, Nat.reduceLT, reduceCtorEq, uA_s, uA_n, uA_ss, uA_cc, id_eq, ne_eq, not_false_eq_true, Nat.reduceEqDiff, Nat.reduceLT, reduceCtorEq]; exact g1
        have k16 := hM.1.1
        have r8 : ∀ w, 0 ≤ w → w < F1 16 → A3 20 w = A1 8 w := fun w h0 h1 => by rw [hA3 20 (by decide)]; simp only [uF_s, uF_n, uF_ss, uF_cc, id_eq, ne_eq, not_false_eq_true, Nat.reduceEqDiff, Nat.reduceLT, reduceCtorEq, uA_s, uA_n, uA_ss, uA_cc, id_eq, ne_eq, not_false_eq_true, Nat.reduceEqDiff, Nat.reduceLT, reduceCtorEq]; rw [wrM, if_pos (by omega), Int.sub_zero]
        have r9 : ∀ w, 0 ≤ w → w < F1 16 → A3 21 w = A1 9 w := fun w h0 h1 => by rw [hA3 21 (by decide)]; simp only [uF_s, uF_n, uF_ss, uF_cc, id_eq, ne_eq, not_false_eq_true, Nat.reduceEqDiff, Nat.reduceLT, reduceCtorEq, uA_s, uA_n, uA_ss, uA_cc, id_eq, ne_eq, not_false_eq_true, Nat.reduceEqDiff, Nat.reduceLT, reduceCtorEq]; rw [wrM, if_pos (by omega), Int.sub_zero]
        refine gi_iconst dX10_apart_63 ?_
        refine gg_istore dX10_apart_64 (Nat.le_of_ble_eq_true rfl) rfl ?_
        refine gi_iconst dX10_apart_66 ?_
        refine gg_istore dX10_apart_67 (Nat.le_of_ble_eq_true rfl) rfl ?_
        have L_69 : ∀ (n9 : Nat) (w : Int), ((12 - w).toNat) = n9 → ∀ (hw : 0 ≤ w ∧ w ≤ 12), GG Γ M_X10_apart QF9 (0, 0) (mst Γ h F3 A3) 69 [some (.ref (g_L Γ 0)), some (.int (iN d)), some (.int (iN l)), some (.int (iN d')), some (.int (iN l')), some (.int (iN (F1 16))), some (.int (iN (apP (A 1) d l d' l' w.toNat))), some (.int (iN w))] [] := by
          intro n9
          induction n9 using Nat.strongRecOn with
          | ind n9 ih_69 => 
            intro w hm9 hw
            refine gg_iload dX10_apart_69 rfl ?_
            refine gi_bipush dX10_apart_71 (by decide) ?_
            refine gi_icmp_ge (tgt := 163) dX10_apart_73 (by decide) ⟨by omega, by omega⟩ ⟨by omega, by omega⟩ (fun c_73 => ?_) (fun c_73 => ?_)
            · refine gi_iconst dX10_apart_163 ?_
              refine gg_iload dX10_apart_164 rfl ?_
              refine gc_X10_339 rfl dX10_apart_166 ⟨(Nat.le_of_ble_eq_true rfl), (Nat.le_of_ble_eq_true rfl)⟩ ⟨(Nat.le_of_ble_eq_true rfl), (Nat.le_of_ble_eq_true rfl)⟩ ?_
              rw [iN_min ⟨by omega, by omega⟩ (by have := apP_r (A 1) d l d' l' w.toNat; exact ⟨by omega, by omega⟩)]
              subst hQF9
              refine gg_iret dX10_apart_169 rfl rfl ⟨(Nat.le_of_ble_eq_true rfl), (Nat.le_of_ble_eq_true rfl)⟩ ?_
              rw [show w.toNat = 12 by omega]
              refine ⟨F3, A3, rfl, rfl, fun j hj => by rw [hF3 j hj, hF j hj], fun j hj => ?_⟩
              rw [hA3 j (fun q => hj (by revert q; simp; omega)), uA_n (fun e9 => hj (by rw [e9]; decide)), uA_n (fun e9 => hj (by rw [e9]; decide)), hA j (fun q => hj (by revert q; simp; omega))]
            · refine gg_iload dX10_apart_76 rfl ?_
              refine gg_iload dX10_apart_78 rfl ?_
              refine gg_iload dX10_apart_80 rfl ?_
              refine gi_icmp_ge (tgt := 89) dX10_apart_82 (by decide) ⟨by omega, by omega⟩ ⟨by omega, by omega⟩ (fun c_82 => ?_) (fun c_82 => ?_)
              · refine gi_iconst dX10_apart_89 ?_
                refine gg_iload dX10_apart_90 rfl ?_
                refine gg_aload_n dX10_apart_92 rfl rfl ?_
                refine gm_get60 rfl dX10_apart_93 (by (try simp only [uF_s, uF_n, ne_eq, not_false_eq_true, Nat.reduceEqDiff, reduceCtorEq]); rfl) ?_
                refine gi_icmp_ge (tgt := 103) dX10_apart_96 (by decide) ⟨by omega, by omega⟩ ⟨by omega, by omega⟩ (fun c_96 => ?_) (fun c_96 => ?_)
                · refine gi_iconst dX10_apart_103 ?_
                  refine gi_icmp_ne (tgt := 149) dX10_apart_104 (by decide) ⟨by omega, by omega⟩ ⟨by omega, by omega⟩ (fun c9 => absurd c9 (by decide)) (fun c9 => ?_)
                  refine gg_iload dX10_apart_107 rfl ?_
                  refine gg_iload dX10_apart_109 rfl ?_
                  refine gi_icmp_ge (tgt := 153) dX10_apart_111 (by decide) ⟨by omega, by omega⟩ ⟨by omega, by omega⟩ (fun c_111 => ?_) (fun c_111 => ?_)
                  · refine gi_iconst dX10_apart_153 ?_
                    refine gi_iadd dX10_apart_154 ?_
                    refine gg_istore dX10_apart_155 (Nat.le_of_ble_eq_true rfl) rfl ?_
                    refine gi_iinc dX10_apart_157 rfl (Nat.le_of_ble_eq_true rfl) rfl ?_
                    refine gg_goto (tgt := 69) dX10_apart_160 (by decide) ?_
                    have ew : (w + 1).toNat = w.toNat + 1 := by omega
                    have x1 : (lnW (A 1) d l)[w.toNat]? = none := List.getElem?_eq_none (by have := hL.2.1; omega)
                    have z1 : (lnW (A 1) d' l')[w.toNat]? = none := List.getElem?_eq_none (by have := hM.2.1; omega)
                    exact gg_conv (ih_69 _ (by omega) (w + 1) rfl (by omega)) rfl (by rw [ew, apP, ap1_nn x1 z1]; rfl) rfl
                  · exact absurd c_82 (by omega)
                · refine gi_iconst dX10_apart_99 ?_
                  refine gg_goto (tgt := 104) dX10_apart_100 (by decide) ?_
                  refine gi_icmp_ne (tgt := 149) dX10_apart_104 (by decide) ⟨by omega, by omega⟩ ⟨by omega, by omega⟩ (fun c9 => ?_) (fun c9 => absurd c9 (by decide))
                  refine gi_iconst dX10_apart_149 ?_
                  refine gg_goto (tgt := 154) dX10_apart_150 (by decide) ?_
                  refine gi_iadd dX10_apart_154 ?_
                  refine gg_istore dX10_apart_155 (Nat.le_of_ble_eq_true rfl) rfl ?_
                  refine gi_iinc dX10_apart_157 rfl (Nat.le_of_ble_eq_true rfl) rfl ?_
                  refine gg_goto (tgt := 69) dX10_apart_160 (by decide) ?_
                  have ew : (w + 1).toNat = w.toNat + 1 := by omega
                  have x1 : (lnW (A 1) d l)[w.toNat]? = none := List.getElem?_eq_none (by have := hL.2.1; omega)
                  obtain ⟨pu, lenu, cu, z1, z2, z3, z4⟩ := LD_at N hd' hl' hq9 hM (w := w) (by omega) (by omega)
                  exact gg_conv (ih_69 _ (by omega) (w + 1) rfl (by omega)) rfl (by rw [ew, apP, ap1_ns x1 z1]; rfl) rfl
              · refine gi_iconst dX10_apart_85 ?_
                refine gg_goto (tgt := 90) dX10_apart_86 (by decide) ?_
                refine gg_iload dX10_apart_90 rfl ?_
                refine gg_aload_n dX10_apart_92 rfl rfl ?_
                refine gm_get60 rfl dX10_apart_93 (by (try simp only [uF_s, uF_n, ne_eq, not_false_eq_true, Nat.reduceEqDiff, reduceCtorEq]); rfl) ?_
                refine gi_icmp_ge (tgt := 103) dX10_apart_96 (by decide) ⟨by omega, by omega⟩ ⟨by omega, by omega⟩ (fun c_96 => ?_) (fun c_96 => ?_)
                · refine gi_iconst dX10_apart_103 ?_
                  refine gi_icmp_ne (tgt := 149) dX10_apart_104 (by decide) ⟨by omega, by omega⟩ ⟨by omega, by omega⟩ (fun c9 => ?_) (fun c9 => absurd c9 (by decide))
                  refine gi_iconst dX10_apart_149 ?_
                  refine gg_goto (tgt := 154) dX10_apart_150 (by decide) ?_
                  refine gi_iadd dX10_apart_154 ?_
                  refine gg_istore dX10_apart_155 (Nat.le_of_ble_eq_true rfl) rfl ?_
                  refine gi_iinc dX10_apart_157 rfl (Nat.le_of_ble_eq_true rfl) rfl ?_
                  refine gg_goto (tgt := 69) dX10_apart_160 (by decide) ?_
                  have ew : (w + 1).toNat = w.toNat + 1 := by omega
                  obtain ⟨pv, lenv, cv, x1, x2, x3, x4⟩ := LD_at N hd hl hn9 hL (w := w) (by omega) (by omega)
                  have z1 : (lnW (A 1) d' l')[w.toNat]? = none := List.getElem?_eq_none (by have := hM.2.1; omega)
                  exact gg_conv (ih_69 _ (by omega) (w + 1) rfl (by omega)) rfl (by rw [ew, apP, ap1_sn x1 z1]; rfl) rfl
                · refine gi_iconst dX10_apart_99 ?_
                  refine gg_goto (tgt := 104) dX10_apart_100 (by decide) ?_
                  refine gi_icmp_ne (tgt := 149) dX10_apart_104 (by decide) ⟨by omega, by omega⟩ ⟨by omega, by omega⟩ (fun c9 => absurd c9 (by decide)) (fun c9 => ?_)
                  refine gg_iload dX10_apart_107 rfl ?_
                  refine gg_iload dX10_apart_109 rfl ?_
                  refine gi_icmp_ge (tgt := 153) dX10_apart_111 (by decide) ⟨by omega, by omega⟩ ⟨by omega, by omega⟩ (fun c_111 => ?_) (fun c_111 => ?_)
                  · exact absurd c_82 (by omega)
                  · obtain ⟨pv, lenv, cv, x1, x2, x3, x4⟩ := LD_at N hd hl hn9 hL (w := w) (by omega) (by omega)
                    obtain ⟨pu, lenu, cu, z1, z2, z3, z4⟩ := LD_at N hd' hl' hq9 hM (w := w) (by omega) (by omega)
                    refine gg_aload_n dX10_apart_114 rfl rfl ?_
                    refine gg_aload_n dX10_apart_115 rfl rfl ?_
                    refine gm_get145 rfl dX10_apart_116 ?_
                    refine gg_iload dX10_apart_119 rfl ?_
                    refine gm_iald dX10_apart_121 (by decide) rfl (by decide) ⟨by omega, by simp only [ml9]; omega⟩ (r8 w (by omega) (by omega)) ?_
                    refine gg_aload_n dX10_apart_122 rfl rfl ?_
                    refine gm_get148 rfl dX10_apart_123 ?_
                    refine gg_iload dX10_apart_126 rfl ?_
                    refine gm_iald dX10_apart_128 (by decide) rfl (by decide) ⟨by omega, by simp only [ml9]; omega⟩ (r9 w (by omega) (by omega)) ?_
                    refine gg_aload_n dX10_apart_129 rfl rfl ?_
                    refine gm_get63 rfl dX10_apart_130 ?_
                    refine gg_iload dX10_apart_133 rfl ?_
                    refine gm_iald dX10_apart_135 (by decide) rfl (by decide) ⟨by omega, by simp only [ml9]; omega⟩ (by (try simp only [uA_s, uA_n, ne_eq, not_false_eq_true, Nat.reduceEqDiff, reduceCtorEq]); rfl) ?_
                    refine gg_aload_n dX10_apart_136 rfl rfl ?_
                    refine gm_get66 rfl dX10_apart_137 ?_
                    refine gg_iload dX10_apart_140 rfl ?_
                    refine gm_iald dX10_apart_142 (by decide) rfl (by decide) ⟨by omega, by simp only [ml9]; omega⟩ (by (try simp only [uA_s, uA_n, ne_eq, not_false_eq_true, Nat.reduceEqDiff, reduceCtorEq]); rfl) ?_
                    refine gc_X10_319 rfl dX10_apart_143 ⟨(Nat.le_of_ble_eq_true rfl), (Nat.le_of_ble_eq_true rfl)⟩ ⟨(Nat.le_of_ble_eq_true rfl), (Nat.le_of_ble_eq_true rfl)⟩ (Nat.le_of_ble_eq_true rfl) (HAt.mu rfl) (c_X10_areLike (A := A3) (by rw [g3]; exact S) ⟨by omega, by omega⟩ ⟨by omega, by omega⟩ ⟨by omega, by omega⟩ ⟨by omega, by omega⟩) (fun _ _ w => w.elim) (fun r_143 h_143 hp => ?_)
                    obtain ⟨rfl, rfl⟩ := hp
                    rw [g3]
                    refine gi_if_ne (tgt := 153) dX10_apart_146 (by decide) (bi_r _) (fun c_146 => ?_) (fun c_146 => ?_)
                    · rw [bi_t] at c_146
                      refine gi_iconst dX10_apart_153 ?_
                      refine gi_iadd dX10_apart_154 ?_
                      refine gg_istore dX10_apart_155 (Nat.le_of_ble_eq_true rfl) rfl ?_
                      refine gi_iinc dX10_apart_157 rfl (Nat.le_of_ble_eq_true rfl) rfl ?_
                      refine gg_goto (tgt := 69) dX10_apart_160 (by decide) ?_
                      have ew : (w + 1).toNat = w.toNat + 1 := by omega
                      obtain ⟨pv, lenv, cv, x1, x2, x3, x4⟩ := LD_at N hd hl hn9 hL (w := w) (by omega) (by omega)
                      obtain ⟨pu, lenu, cu, z1, z2, z3, z4⟩ := LD_at N hd' hl' hq9 hM (w := w) (by omega) (by omega)
                      have hv := ap1_ss x1 z1
                      dsimp only at hv
                      rw [← x2.2.1, ← x2.2.2.1, ← z2.2.1, ← z2.2.2.1, c_146] at hv
                      simp only [if_true, Bool.false_eq_true, if_false] at hv
                      exact gg_conv (ih_69 _ (by omega) (w + 1) rfl (by omega)) rfl (by rw [ew, apP, hv]; rfl) rfl
                    · rw [bi_f] at c_146
                      refine gi_iconst dX10_apart_149 ?_
                      refine gg_goto (tgt := 154) dX10_apart_150 (by decide) ?_
                      refine gi_iadd dX10_apart_154 ?_
                      refine gg_istore dX10_apart_155 (Nat.le_of_ble_eq_true rfl) rfl ?_
                      refine gi_iinc dX10_apart_157 rfl (Nat.le_of_ble_eq_true rfl) rfl ?_
                      refine gg_goto (tgt := 69) dX10_apart_160 (by decide) ?_
                      have ew : (w + 1).toNat = w.toNat + 1 := by omega
                      obtain ⟨pv, lenv, cv, x1, x2, x3, x4⟩ := LD_at N hd hl hn9 hL (w := w) (by omega) (by omega)
                      obtain ⟨pu, lenu, cu, z1, z2, z3, z4⟩ := LD_at N hd' hl' hq9 hM (w := w) (by omega) (by omega)
                      have hv := ap1_ss x1 z1
                      dsimp only at hv
                      rw [← x2.2.1, ← x2.2.2.1, ← z2.2.1, ← z2.2.2.1, c_146] at hv
                      simp only [if_true, Bool.false_eq_true, if_false] at hv
                      exact gg_conv (ih_69 _ (by omega) (w + 1) rfl (by omega)) rfl (by rw [ew, apP, hv]; rfl) rfl
        exact L_69 _ 0 rfl (by omega)
      · refine gg_aload_n dX10_apart_22 rfl rfl ?_
        refine gm_get145 rfl dX10_apart_23 ?_
        refine gg_iload dX10_apart_26 rfl ?_
        refine gg_aload_n dX10_apart_28 rfl rfl ?_
        refine gm_get63 rfl dX10_apart_29 ?_
        refine gg_iload dX10_apart_32 rfl ?_
        refine gm_iald dX10_apart_34 (by decide) rfl (by decide) ⟨by omega, by simp only [ml9]; omega⟩ (by (try simp only [uA_s, uA_n, ne_eq, not_false_eq_true, Nat.reduceEqDiff, reduceCtorEq]); rfl) ?_
        refine gm_iast dX10_apart_35 (by decide) rfl (by decide) ⟨by omega, by simp only [ml9]; omega⟩ (by (try simp only [uA_s, uA_n, uA_ss, uA_cc, id_eq, ne_eq, not_false_eq_true, Nat.reduceEqDiff, Nat.reduceLT, reduceCtorEq]); rfl) ?_
        refine gg_aload_n dX10_apart_36 rfl rfl ?_
        refine gm_get148 rfl dX10_apart_37 ?_
        refine gg_iload dX10_apart_40 rfl ?_
        refine gg_aload_n dX10_apart_42 rfl rfl ?_
        refine gm_get66 rfl dX10_apart_43 ?_
        refine gg_iload dX10_apart_46 rfl ?_
        refine gm_iald dX10_apart_48 (by decide) rfl (by decide) ⟨by omega, by simp only [ml9]; omega⟩ (by (try simp only [uA_s, uA_n, ne_eq, not_false_eq_true, Nat.reduceEqDiff, reduceCtorEq]); rfl) ?_
        refine gm_iast dX10_apart_49 (by decide) rfl (by decide) ⟨by omega, by simp only [ml9]; omega⟩ (by (try simp only [uA_s, uA_n, uA_ss, uA_cc, id_eq, ne_eq, not_false_eq_true, Nat.reduceEqDiff, Nat.reduceLT, reduceCtorEq]); rfl) ?_
        refine gi_iinc dX10_apart_50 rfl (Nat.le_of_ble_eq_true rfl) rfl ?_
        refine gg_goto (tgt := 15) dX10_apart_53 (by decide) ?_
        refine gg_drop 7 ?_
        refine gg_conv (ih_15 _ (by omega) (k + 1) rfl (by omega)) ?_ rfl rfl
        rw [← wrM_1 hk.1, ← wrM_1 hk.1, Int.zero_add]
  refine gg_drop 7 ?_
  exact gg_conv (L_15 _ 0 rfl (by omega)) (by rw [wrM_0, wrM_0, uA_id, uA_id]) rfl rfl
/-- the table of differences, row by row -/
def dfR (a : Int → Int) (x y : Int) (i : Nat) (prv : Nat → Int) : Nat → Int
  | 0 => 3 * ((i : Int) + 1)
  | j + 1 => min (prv j + min 5 (apP a x i y j 12)) (3 + min (prv (j + 1)) (dfR a x y i prv j))
def dfT (a : Int → Int) (x y : Int) : Nat → Nat → Int
  | 0 => fun j => 3 * j
  | i + 1 => dfR a x y i (dfT a x y i)
theorem dfT_r (a : Int → Int) (x y : Int) : ∀ i j : Nat, 0 ≤ dfT a x y i j ∧ dfT a x y i j ≤ 3 * (i + j)
  | 0, j => by simp only [dfT]; omega
  | i + 1, 0 => by simp only [dfT, dfR]; omega
  | i + 1, j + 1 => by
    have h1 := dfT_r a x y i j
    have h2 := dfT_r a x y i (j + 1)
    have h3 := dfT_r a x y (i + 1) j
    have h4 := apP_r a x i y j 12
    simp only [dfT, dfR] at h3 ⊢
    omega
set_option maxRecDepth 100000 in
set_option maxHeartbeats 4000000 in
theorem c_X10_difference {Γ : GT} {h : XH} {F : Nat → Int} {A : Nat → Int → Int} (S : StA (A 1)) (N : LnA (A 1)) (E9 : ExA (A 1)) {x y : Int} (hx : InR x) (hy : InR y) : Ct Γ M_X10_difference [.ref (g_L Γ 0), .int (iN x), .int (iN y)] (mst Γ h F A) (fun r h9 => (¬ ((0 ≤ x ∧ x ≤ 3) ∧ 0 ≤ y ∧ y ≤ 3) ∧ r = some (.int (iN (0))) ∧ h9 = mst Γ h (uF F 0 1) A) ∨ (((0 ≤ x ∧ x ≤ 3) ∧ 0 ≤ y ∧ y ≤ 3) ∧ ∃ (F2 : Nat → Int) (A2 : Nat → Int → Int), h9 = mst Γ h F2 A2 ∧ frF [0, 16, 24, 25, 27, 28, 29, 30, 34, 35, 36, 37, 38, 39, 40, 41, 42] F F2 ∧ frA [8, 9, 10, 11, 12, 13, 14, 15, 16, 17, 18, 19, 20, 21, 22] A A2 ∧ r = some (.int (iN (dfT (A 1) x y (A 1 (5 + x)).toNat (A 1 (5 + y)).toNat))) ∧ F2 0 = 0)) (fun _ _ => False) := by
  refine Ct.of rfl (by decide +kernel) (Nat.le_of_ble_eq_true rfl) ?_
  generalize hQF9 : QM Γ _ _ _ = QF9
  obtain ⟨t0, t1, t2, t3, t4, t5, t6⟩ := id S
  refine gg_aload_n dX10_difference_0 rfl rfl ?_
  refine gi_iconst dX10_difference_1 ?_
  refine gm_put3 rfl dX10_difference_2 (by (try simp only [uF_ss, uF_cc, id_eq, Nat.reduceLT, reduceCtorEq]); rfl) ?_
  refine gg_iload_n dX10_difference_5 rfl ?_
  refine gc_X10_218 rfl dX10_difference_6 ⟨(Nat.le_of_ble_eq_true rfl), (Nat.le_of_ble_eq_true rfl)⟩ ⟨(Nat.le_of_ble_eq_true rfl), (Nat.le_of_ble_eq_true rfl)⟩ (Nat.le_of_ble_eq_true rfl) (c_X10_isDraft hx) (fun _ _ w => w.elim) (fun r_6 h_6 hp => ?_)
  obtain ⟨rfl, rfl⟩ := hp
  refine gi_if_eq (tgt := 19) dX10_difference_9 (by decide) (bi_r _) (fun c_9 => ?_) (fun c_9 => ?_)
  · rw [bi_f] at c_9
    simp at c_9
    refine gg_aload_n dX10_difference_19 rfl rfl ?_
    refine gi_iconst dX10_difference_20 ?_
    refine gc_X10_162 rfl dX10_difference_21 ⟨(Nat.le_of_ble_eq_true rfl), (Nat.le_of_ble_eq_true rfl)⟩ ⟨(Nat.le_of_ble_eq_true rfl), (Nat.le_of_ble_eq_true rfl)⟩ (Nat.le_of_ble_eq_true rfl) (HAt.mu rfl) (c_X10_fails) (fun _ _ w => w.elim) (fun r_21 h_21 hp => ?_)
    obtain ⟨rfl, rfl⟩ := hp
    subst hQF9
    refine gg_iret dX10_difference_24 rfl rfl ⟨(Nat.le_of_ble_eq_true rfl), (Nat.le_of_ble_eq_true rfl)⟩ ?_
    exact Or.inl ⟨by omega, rfl, by rw [uF_ss]⟩
  · rw [bi_t] at c_9
    simp at c_9
    refine gg_iload_n dX10_difference_12 rfl ?_
    refine gc_X10_218 rfl dX10_difference_13 ⟨(Nat.le_of_ble_eq_true rfl), (Nat.le_of_ble_eq_true rfl)⟩ ⟨(Nat.le_of_ble_eq_true rfl), (Nat.le_of_ble_eq_true rfl)⟩ (Nat.le_of_ble_eq_true rfl) (c_X10_isDraft hy) (fun _ _ w => w.elim) (fun r_13 h_13 hp => ?_)
    obtain ⟨rfl, rfl⟩ := hp
    refine gi_if_ne (tgt := 25) dX10_difference_16 (by decide) (bi_r _) (fun c_16 => ?_) (fun c_16 => ?_)
    · rw [bi_t] at c_16
      simp at c_16
      have hnx := t5 x (by omega) (by omega)
      have hny := t5 y (by omega) (by omega)
      refine gg_aload_n dX10_difference_25 rfl rfl ?_
      refine gm_get13 rfl dX10_difference_26 ?_
      refine gi_iconst dX10_difference_29 ?_
      refine gg_iload_n dX10_difference_30 rfl ?_
      refine gi_iadd dX10_difference_31 ?_
      refine gm_iald dX10_difference_32 (by decide) rfl (by decide) ⟨by omega, by simp only [ml9]; omega⟩ (by (try simp only [uA_s, uA_n, ne_eq, not_false_eq_true, Nat.reduceEqDiff, reduceCtorEq]); rfl) ?_
      refine gg_istore_n dX10_difference_33 (Nat.le_of_ble_eq_true rfl) rfl ?_
      refine gg_aload_n dX10_difference_34 rfl rfl ?_
      refine gm_get13 rfl dX10_difference_35 ?_
      refine gi_iconst dX10_difference_38 ?_
      refine gg_iload_n dX10_difference_39 rfl ?_
      refine gi_iadd dX10_difference_40 ?_
      refine gm_iald dX10_difference_41 (by decide) rfl (by decide) ⟨by omega, by simp only [ml9]; omega⟩ (by (try simp only [uA_s, uA_n, ne_eq, not_false_eq_true, Nat.reduceEqDiff, reduceCtorEq]); rfl) ?_
      refine gg_istore dX10_difference_42 (Nat.le_of_ble_eq_true rfl) rfl ?_
      refine gi_iconst dX10_difference_44 ?_
      refine gg_istore dX10_difference_45 (Nat.le_of_ble_eq_true rfl) rfl ?_
      have L_47 : ∀ (n9 : Nat) (i : Int) (F1 : Nat → Int) (A1 : Nat → Int → Int), ((A 1 (5 + x) + 1 - i).toNat) = n9 → ∀ (hi : 0 ≤ i ∧ i ≤ A 1 (5 + x) + 1) (hF : frF [16, 24, 25] (uF F 0 0) F1) (hA : frA [8, 9, 10, 11, 12, 13, 14, 15, 20, 21, 22] A A1) (hT : ∀ i' j' : Nat, (i' : Int) < i → (j' : Int) ≤ A 1 (5 + y) → A1 22 (11 * i' + j') = dfT (A 1) x y i' j'), GG Γ M_X10_difference QF9 (0, 0) (mst Γ h F1 A1) 47 [some (.ref (g_L Γ 0)), some (.int (iN x)), some (.int (iN y)), some (.int (iN (A 1 (5 + x)))), some (.int (iN (A 1 (5 + y)))), some (.int (iN i)), none, none] [] := by
        intro n9
        induction n9 using Nat.strongRecOn with
        | ind n9 ih_47 => 
          intro i F1 A1 hm9 hi hF hA hT
          refine gg_iload dX10_difference_47 rfl ?_
          refine gg_iload_n dX10_difference_49 rfl ?_
          refine gi_icmp_gt (tgt := 200) dX10_difference_50 (by decide) ⟨by omega, by omega⟩ ⟨by omega, by omega⟩ (fun c_50 => ?_) (fun c_50 => ?_)
          · refine gg_aload_n dX10_difference_200 rfl rfl ?_
            refine gm_get151 rfl dX10_difference_201 ?_
            refine gi_bipush dX10_difference_204 (by decide) ?_
            refine gg_iload_n dX10_difference_206 rfl ?_
            refine gi_imul dX10_difference_207 ?_
            refine gg_iload dX10_difference_208 rfl ?_
            refine gi_iadd dX10_difference_210 ?_
            refine gm_iald dX10_difference_211 (by decide) rfl (by decide) ⟨by omega, by simp only [ml9]; omega⟩ (by (try simp only [uA_s, uA_n, ne_eq, not_false_eq_true, Nat.reduceEqDiff, reduceCtorEq]); rfl) ?_
            subst hQF9
            refine gg_iret dX10_difference_212 rfl rfl ⟨(Nat.le_of_ble_eq_true rfl), (Nat.le_of_ble_eq_true rfl)⟩ ?_
            have hz := hT (A 1 (5 + x)).toNat (A 1 (5 + y)).toNat (by omega) (by omega)
            rw [Int.toNat_of_nonneg hnx.1, Int.toNat_of_nonneg hny.1] at hz
            exact Or.inr ⟨by omega, F1, A1, rfl, frF_z hF (by decide), frA_w hA (by decide), by rw [hz], by rw [hF 0 (by decide), uF_s]⟩
          · refine gi_iconst dX10_difference_53 ?_
            refine gg_istore dX10_difference_54 (Nat.le_of_ble_eq_true rfl) rfl ?_
            have L_56 : ∀ (n9 : Nat) (j : Int) (F2 : Nat → Int) (A2 : Nat → Int → Int), ((A 1 (5 + y) + 1 - j).toNat) = n9 → ∀ (hj : 0 ≤ j ∧ j ≤ A 1 (5 + y) + 1) (hF2 : frF [16, 24, 25] (uF F 0 0) F2) (hA2 : frA [8, 9, 10, 11, 12, 13, 14, 15, 20, 21, 22] A A2) (hU : ∀ i' j' : Nat, (((i' : Int) < i ∧ (j' : Int) ≤ A 1 (5 + y)) ∨ ((i' : Int) = i ∧ (j' : Int) < j)) → A2 22 (11 * i' + j') = dfT (A 1) x y i' j'), GG Γ M_X10_difference QF9 (0, 0) (mst Γ h F2 A2) 56 [some (.ref (g_L Γ 0)), some (.int (iN x)), some (.int (iN y)), some (.int (iN (A 1 (5 + x)))), some (.int (iN (A 1 (5 + y)))), some (.int (iN i)), some (.int (iN j)), none] [] := by
              intro n9
              induction n9 using Nat.strongRecOn with
              | ind n9 ih_56 => 
                intro j F2 A2 hm9 hj hF2 hA2 hU
                have g2 : A2 1 = A 1 := hA2 1 (by decide)
                refine gg_iload dX10_difference_56 rfl ?_
                refine gg_iload dX10_difference_58 rfl ?_
                refine gi_icmp_gt (tgt := 194) dX10_difference_60 (by decide) ⟨by omega, by omega⟩ ⟨by omega, by omega⟩ (fun c_60 => ?_) (fun c_60 => ?_)
                · refine gi_iinc dX10_difference_194 rfl (Nat.le_of_ble_eq_true rfl) rfl ?_
                  refine gg_goto (tgt := 47) dX10_difference_197 (by decide) ?_
                  refine gg_drop 6 ?_
                  refine gg_drop 7 ?_
                  refine ih_47 _ (by omega) (i + 1) F2 A2 rfl (by omega) hF2 hA2 (fun i' j' q q2 => hU i' j' (by omega))
                · have L_173 : ∀ (F3 : Nat → Int) (A3 : Nat → Int → Int) (hF3 : frF [16, 24, 25] (uF F 0 0) F3) (hA3 : frA [8, 9, 10, 11, 12, 13, 14, 15, 20, 21, 22] A A3) (hW : ∀ i' j' : Nat, (((i' : Int) < i ∧ (j' : Int) ≤ A 1 (5 + y)) ∨ ((i' : Int) = i ∧ (j' : Int) < j)) → A3 22 (11 * i' + j') = dfT (A 1) x y i' j'), GG Γ M_X10_difference QF9 (0, 0) (mst Γ h F3 A3) 173 [some (.ref (g_L Γ 0)), some (.int (iN x)), some (.int (iN y)), some (.int (iN (A 1 (5 + x)))), some (.int (iN (A 1 (5 + y)))), some (.int (iN i)), some (.int (iN j)), some (.int (iN (dfT (A 1) x y i.toNat j.toNat)))] [] := by
                    intro F3 A3 hF3 hA3 hW
                    refine gg_aload_n dX10_difference_173 rfl rfl ?_
                    refine gm_get151 rfl dX10_difference_174 ?_
                    refine gi_bipush dX10_difference_177 (by decide) ?_
                    refine gg_iload dX10_difference_179 rfl ?_
                    refine gi_imul dX10_difference_181 ?_
                    refine gg_iload dX10_difference_182 rfl ?_
                    refine gi_iadd dX10_difference_184 ?_
                    refine gg_iload dX10_difference_185 rfl ?_
                    refine gm_iast dX10_difference_187 (by decide) rfl (by decide) ⟨by omega, by simp only [ml9]; omega⟩ (by (try simp only [uA_s, uA_n, uA_ss, uA_cc, id_eq, ne_eq, not_false_eq_true, Nat.reduceEqDiff, Nat.reduceLT, reduceCtorEq]); rfl) ?_
                    refine gi_iinc dX10_difference_188 rfl (Nat.le_of_ble_eq_true rfl) rfl ?_
                    refine gg_goto (tgt := 56) dX10_difference_191 (by decide) ?_
                    refine gg_drop 7 ?_
                    refine ih_56 _ (by omega) (j + 1) F3 _ rfl (by omega) hF3 (frA_u hA3 (by decide)) (fun i' j' q => ?_)
                    rw [uA_s]
                    by_cases e9 : (i' : Int) = i ∧ (j' : Int) = j
                    · rw [e9.1, e9.2, up_s, show i.toNat = i' by omega, show j.toNat = j' by omega]
                    · rw [up_n (by omega)]; exact hW i' j' (by omega)
                  refine gg_iload dX10_difference_63 rfl ?_
                  refine gi_if_ne (tgt := 75) dX10_difference_65 (by decide) ⟨by omega, by omega⟩ (fun c_65 => ?_) (fun c_65 => ?_)
                  · refine gg_iload dX10_difference_75 rfl ?_
                    refine gi_if_ne (tgt := 87) dX10_difference_77 (by decide) ⟨by omega, by omega⟩ (fun c_77 => ?_) (fun c_77 => ?_)
                    · have u0 : A2 22 (11 * (i - 1) + j - 1) = dfT (A 1) x y (i - 1).toNat (j - 1).toNat := by
                        rw [← hU (i - 1).toNat (j - 1).toNat (by omega)]; congr 1; omega
                      refine gg_aload_n dX10_difference_87 rfl rfl ?_
                      refine gm_get151 rfl dX10_difference_88 ?_
                      refine gi_bipush dX10_difference_91 (by decide) ?_
                      refine gg_iload dX10_difference_93 rfl ?_
                      refine gi_iconst dX10_difference_95 ?_
                      refine gi_isub dX10_difference_96 ?_
                      refine gi_imul dX10_difference_97 ?_
                      refine gg_iload dX10_difference_98 rfl ?_
                      refine gi_iadd dX10_difference_100 ?_
                      refine gi_iconst dX10_difference_101 ?_
                      refine gi_isub dX10_difference_102 ?_
                      refine gm_iald dX10_difference_103 (by decide) rfl (by decide) ⟨by omega, by simp only [ml9]; omega⟩ u0 ?_
                      refine gg_aload_n dX10_difference_104 rfl rfl ?_
                      refine gg_iload_n dX10_difference_105 rfl ?_
                      refine gg_iload dX10_difference_106 rfl ?_
                      refine gi_iconst dX10_difference_108 ?_
                      refine gi_isub dX10_difference_109 ?_
                      refine gg_iload_n dX10_difference_110 rfl ?_
                      refine gg_iload dX10_difference_111 rfl ?_
                      refine gi_iconst dX10_difference_113 ?_
                      refine gi_isub dX10_difference_114 ?_
                      refine gc_X10_342 rfl dX10_difference_115 ⟨(Nat.le_of_ble_eq_true rfl), (Nat.le_of_ble_eq_true rfl)⟩ ⟨(Nat.le_of_ble_eq_true rfl), (Nat.le_of_ble_eq_true rfl)⟩ (Nat.le_of_ble_eq_true rfl) (HAt.mu rfl) (c_X10_apart (F := F2) (A := A2) (by rw [g2]; exact S) (by rw [g2]; exact N) (by rw [g2]; exact E9) ⟨by omega, by omega⟩ (by rw [g2]; omega) ⟨by omega, by omega⟩ (by rw [g2]; omega)) (fun _ _ w => w.elim) (fun r_115 h_115 hp => ?_)
                      obtain ⟨F4, A4, rfl, rfl, hF3, hA3⟩ := hp
                      rw [g2]
                      have hF4 : frF [16, 24, 25] (uF F 0 0) F4 := fun j hj => by rw [hF3 j hj, hF2 j hj]
                      have hA4 : frA [8, 9, 10, 11, 12, 13, 14, 15, 20, 21, 22] A A4 := fun j hj => by rw [hA3 j (fun q => hj (by revert q; simp; omega)), hA2 j hj]
                      have e22 : A4 22 = A2 22 := hA3 22 (by decide)
                      have hpr := apP_r (A 1) x (i - 1) y (j - 1) 12
                      have u1 : A4 22 (11 * (i - 1) + j) = dfT (A 1) x y (i - 1).toNat ((j - 1).toNat + 1) := by
                        rw [e22, ← hU (i - 1).toNat ((j - 1).toNat + 1) (by omega)]; congr 1; omega
                      have u2 : A4 22 (11 * i + j - 1) = dfT (A 1) x y ((i - 1).toNat + 1) (j - 1).toNat := by
                        rw [e22, ← hU ((i - 1).toNat + 1) (j - 1).toNat (by omega)]; congr 1; omega
                      have v0 := dfT_r (A 1) x y (i - 1).toNat (j - 1).toNat
                      have v1 := dfT_r (A 1) x y (i - 1).toNat ((j - 1).toNat + 1)
                      have v2 := dfT_r (A 1) x y ((i - 1).toNat + 1) (j - 1).toNat
                      refine gi_iadd dX10_difference_118 ?_
                      refine gg_istore dX10_difference_119 (Nat.le_of_ble_eq_true rfl) rfl ?_
                      refine gg_iload dX10_difference_121 rfl ?_
                      refine gi_if_le (tgt := 173) dX10_difference_123 (by decide) ⟨by omega, by omega⟩ (fun c_123 => ?_) (fun c_123 => ?_)
                      · exact absurd c_65 (by omega)
                      · refine gg_iload dX10_difference_126 rfl ?_
                        refine gi_if_le (tgt := 173) dX10_difference_128 (by decide) ⟨by omega, by omega⟩ (fun c_128 => ?_) (fun c_128 => ?_)
                        · exact absurd c_77 (by omega)
                        · refine gg_iload dX10_difference_131 rfl ?_
                          refine gi_iconst dX10_difference_133 ?_
                          refine gg_aload_n dX10_difference_134 rfl rfl ?_
                          refine gm_get151 rfl dX10_difference_135 ?_
                          refine gi_bipush dX10_difference_138 (by decide) ?_
                          refine gg_iload dX10_difference_140 rfl ?_
                          refine gi_iconst dX10_difference_142 ?_
                          refine gi_isub dX10_difference_143 ?_
                          refine gi_imul dX10_difference_144 ?_
                          refine gg_iload dX10_difference_145 rfl ?_
                          refine gi_iadd dX10_difference_147 ?_
                          refine gm_iald dX10_difference_148 (by decide) rfl (by decide) ⟨by omega, by simp only [ml9]; omega⟩ u1 ?_
                          refine gg_aload_n dX10_difference_149 rfl rfl ?_
                          refine gm_get151 rfl dX10_difference_150 ?_
                          refine gi_bipush dX10_difference_153 (by decide) ?_
                          refine gg_iload dX10_difference_155 rfl ?_
                          refine gi_imul dX10_difference_157 ?_
                          refine gg_iload dX10_difference_158 rfl ?_
                          refine gi_iadd dX10_difference_160 ?_
                          refine gi_iconst dX10_difference_161 ?_
                          refine gi_isub dX10_difference_162 ?_
                          refine gm_iald dX10_difference_163 (by decide) rfl (by decide) ⟨by omega, by simp only [ml9]; omega⟩ u2 ?_
                          refine gc_X10_339 rfl dX10_difference_164 ⟨(Nat.le_of_ble_eq_true rfl), (Nat.le_of_ble_eq_true rfl)⟩ ⟨(Nat.le_of_ble_eq_true rfl), (Nat.le_of_ble_eq_true rfl)⟩ ?_
                          rw [iN_min ⟨by omega, by omega⟩ ⟨by omega, by omega⟩]
                          refine gi_iadd dX10_difference_167 ?_
                          refine gc_X10_339 rfl dX10_difference_168 ⟨(Nat.le_of_ble_eq_true rfl), (Nat.le_of_ble_eq_true rfl)⟩ ⟨(Nat.le_of_ble_eq_true rfl), (Nat.le_of_ble_eq_true rfl)⟩ ?_
                          rw [iN_min ⟨by omega, by omega⟩ ⟨by omega, by omega⟩]
                          refine gg_istore dX10_difference_171 (Nat.le_of_ble_eq_true rfl) rfl ?_
                          exact gg_conv (L_173 F4 A4 hF4 hA4 (by rw [e22]; exact hU)) rfl (by rw [show i.toNat = (i - 1).toNat + 1 by omega, show j.toNat = (j - 1).toNat + 1 by omega]; simp only [dfT, dfR, show (((i - 1).toNat : Nat) : Int) = i - 1 by omega, show (((j - 1).toNat : Nat) : Int) = j - 1 by omega]; rfl) rfl
                    · refine gi_iconst dX10_difference_80 ?_
                      refine gg_iload dX10_difference_81 rfl ?_
                      refine gi_imul dX10_difference_83 ?_
                      refine gg_goto (tgt := 119) dX10_difference_84 (by decide) ?_
                      refine gg_istore dX10_difference_119 (Nat.le_of_ble_eq_true rfl) rfl ?_
                      refine gg_iload dX10_difference_121 rfl ?_
                      refine gi_if_le (tgt := 173) dX10_difference_123 (by decide) ⟨by omega, by omega⟩ (fun c_123 => ?_) (fun c_123 => ?_)
                      · exact absurd c_65 (by omega)
                      · refine gg_iload dX10_difference_126 rfl ?_
                        refine gi_if_le (tgt := 173) dX10_difference_128 (by decide) ⟨by omega, by omega⟩ (fun c_128 => ?_) (fun c_128 => ?_)
                        · exact gg_conv (L_173 F2 A2 hF2 hA2 hU) rfl (by rw [show i.toNat = (i - 1).toNat + 1 by omega, show j.toNat = 0 by omega]; simp only [dfT, dfR, show (((i - 1).toNat : Nat) : Int) + 1 = i by omega]; rfl) rfl
                        · exact absurd c_77 (by omega)
                  · refine gi_iconst dX10_difference_68 ?_
                    refine gg_iload dX10_difference_69 rfl ?_
                    refine gi_imul dX10_difference_71 ?_
                    refine gg_goto (tgt := 119) dX10_difference_72 (by decide) ?_
                    refine gg_istore dX10_difference_119 (Nat.le_of_ble_eq_true rfl) rfl ?_
                    refine gg_iload dX10_difference_121 rfl ?_
                    refine gi_if_le (tgt := 173) dX10_difference_123 (by decide) ⟨by omega, by omega⟩ (fun c_123 => ?_) (fun c_123 => ?_)
                    · exact gg_conv (L_173 F2 A2 hF2 hA2 hU) rfl (by rw [show i.toNat = 0 by omega]; simp only [dfT, Int.toNat_of_nonneg hj.1]; rfl) rfl
                    · exact absurd c_65 (by omega)
            refine gg_drop 7 ?_
            exact L_56 _ 0 F1 A1 rfl (by omega) hF hA (fun i' j' q => by rcases q with q | q; exact hT i' j' q.1 q.2; omega)
      refine gg_drop 6 ?_
      refine gg_drop 7 ?_
      exact L_47 _ 0 (uF F 0 0) A rfl (by omega) (fun _ _ => rfl) (fun _ _ => rfl) (fun i' j' q => by omega)
    · rw [bi_f] at c_16
      simp at c_16
      refine gg_aload_n dX10_difference_19 rfl rfl ?_
      refine gi_iconst dX10_difference_20 ?_
      refine gc_X10_162 rfl dX10_difference_21 ⟨(Nat.le_of_ble_eq_true rfl), (Nat.le_of_ble_eq_true rfl)⟩ ⟨(Nat.le_of_ble_eq_true rfl), (Nat.le_of_ble_eq_true rfl)⟩ (Nat.le_of_ble_eq_true rfl) (HAt.mu rfl) (c_X10_fails) (fun _ _ w => w.elim) (fun r_21 h_21 hp => ?_)
      obtain ⟨rfl, rfl⟩ := hp
      subst hQF9
      refine gg_iret dX10_difference_24 rfl rfl ⟨(Nat.le_of_ble_eq_true rfl), (Nat.le_of_ble_eq_true rfl)⟩ ?_
      exact Or.inl ⟨by omega, rfl, by rw [uF_ss]⟩
