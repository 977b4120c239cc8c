/-! the reference: sounds, costs, scans -/
def strK (kd p i : Int) : Bool := decide ((if p < szk kd ∧ i ≠ 0 then szk kd - 1 - p % szk kd else p % szk kd) = sto kd)
/-- one syllable: its word i, its number j -/
def s1 (A : Nat → Int → Int) (z i j : Int) (s : Int × (Int → Int) × (Int → Int) × (Int → Int)) : Int × (Int → Int) × (Int → Int) × (Int → Int) :=
  if j = 0 ∧ 0 < i ∧ z / 2 ^ (i - 1).toNat % 2 = 1 then (s.1, up s.2.1 (s.1 - 1) (max (s.2.1 (s.1 - 1)) (A 11 (12 * i + j))), up s.2.2.1 (s.1 - 1) 0, s.2.2.2)
  else (s.1 + 1, up s.2.1 s.1 (A 11 (12 * i + j)), up s.2.2.1 s.1 (bi (decide (j = 0))), up s.2.2.2 s.1 (bi (decide (j = 0 ∧ 0 < i ∧ A 12 (i - 1) ≠ 0))))
def sW (A : Nat → Int → Int) (z i : Int) : Nat → Int × (Int → Int) × (Int → Int) × (Int → Int) → Int × (Int → Int) × (Int → Int) × (Int → Int)
  | 0, s => s
  | k + 1, s => s1 A z i k (sW A z i k s)
def sA (A : Nat → Int → Int) (z : Int) (s : Int × (Int → Int) × (Int → Int) × (Int → Int)) : Nat → Int × (Int → Int) × (Int → Int) × (Int → Int)
  | 0 => s
  | k + 1 => sW A z k (A 10 k).toNat (sA A z s k)
def s0 (A : Nat → Int → Int) : Int × (Int → Int) × (Int → Int) × (Int → Int) := (0, A 16, A 17, A 18)
def sOk (s : Int × (Int → Int) × (Int → Int) × (Int → Int)) (u : Int) : Prop := (0 ≤ s.1 ∧ s.1 ≤ u) ∧ ∀ k, 0 ≤ k → k < s.1 → (0 ≤ s.2.1 k ∧ s.2.1 k ≤ 2) ∧ (s.2.2.1 k = 0 ∨ s.2.2.1 k = 1) ∧ (s.2.2.2 k = 0 ∨ s.2.2.2 k = 1)
theorem s1_ok {A : Nat → Int → Int} {z i j u : Int} {s : Int × (Int → Int) × (Int → Int) × (Int → Int)} (hm : 0 ≤ A 11 (12 * i + j) ∧ A 11 (12 * i + j) ≤ 2) (hs : sOk s u) : sOk (s1 A z i j s) (u + 1) := by
  obtain ⟨h1, h2⟩ := hs
  unfold s1
  split
  · refine ⟨⟨h1.1, by show s.1 ≤ u + 1; omega⟩, fun k k0 k1 => ?_⟩
    have k1 : k < s.1 := k1
    have q := h2 k k0 k1
    dsimp only
    by_cases e : k = s.1 - 1
    · rw [e, up_s, up_s]
      rw [e] at q
      exact ⟨by omega, Or.inl rfl, q.2.2⟩
    · rw [up_n e, up_n e]
      exact q
  · refine ⟨⟨by show 0 ≤ s.1 + 1; omega, by show s.1 + 1 ≤ u + 1; omega⟩, fun k k0 k1 => ?_⟩
    have k1 : k < s.1 + 1 := k1
    dsimp only
    by_cases e : k = s.1
    · rw [e, up_s, up_s, up_s]
      exact ⟨hm, bi_01 _, bi_01 _⟩
    · rw [up_n e, up_n e, up_n e]
      exact h2 k k0 (by omega)
theorem sOk_m {s : Int × (Int → Int) × (Int → Int) × (Int → Int)} {u v : Int} (hu : u ≤ v) (hs : sOk s u) : sOk s v := ⟨⟨hs.1.1, Int.le_trans hs.1.2 hu⟩, hs.2⟩
def agr (s t : Int × (Int → Int) × (Int → Int) × (Int → Int)) : Prop := s.1 = t.1 ∧ ∀ k, 0 ≤ k → k < s.1 → s.2.1 k = t.2.1 k ∧ s.2.2.1 k = t.2.2.1 k ∧ s.2.2.2 k = t.2.2.2 k
theorem s1_agr {A : Nat → Int → Int} {z i j : Int} {s t : Int × (Int → Int) × (Int → Int) × (Int → Int)} (hs : agr s t) : agr (s1 A z i j s) (s1 A z i j t) := by
  obtain ⟨h1, h2⟩ := hs
  unfold s1
  split
  · refine ⟨h1, fun k k0 k1 => ?_⟩
    have k1 : k < s.1 := k1
    have q := h2 k k0 k1
    show up s.2.1 (s.1 - 1) _ k = up t.2.1 (t.1 - 1) _ k ∧ up s.2.2.1 (s.1 - 1) 0 k = up t.2.2.1 (t.1 - 1) 0 k ∧ _
    rw [← h1]
    by_cases e : k = s.1 - 1
    · subst e
      rw [up_s, up_s, up_s, up_s, q.1]
      exact ⟨rfl, rfl, q.2.2⟩
    · rw [up_n e, up_n e, up_n e, up_n e]
      exact q
  · refine ⟨by show s.1 + 1 = t.1 + 1; omega, fun k k0 k1 => ?_⟩
    have k1 : k < s.1 + 1 := k1
    show up s.2.1 s.1 _ k = up t.2.1 t.1 _ k ∧ up s.2.2.1 s.1 _ k = up t.2.2.1 t.1 _ k ∧ up s.2.2.2 s.1 _ k = up t.2.2.2 t.1 _ k
    rw [← h1]
    by_cases e : k = s.1
    · subst e
      rw [up_s, up_s, up_s, up_s, up_s, up_s]
      exact ⟨rfl, rfl, rfl⟩
    · rw [up_n e, up_n e, up_n e, up_n e, up_n e, up_n e]
      exact h2 k k0 (by omega)
theorem sW_agr {A : Nat → Int → Int} {z i : Int} {s t : Int × (Int → Int) × (Int → Int) × (Int → Int)} (hs : agr s t) : ∀ k, agr (sW A z i k s) (sW A z i k t)
  | 0 => hs
  | k + 1 => s1_agr (sW_agr hs k)
theorem sA_agr {A : Nat → Int → Int} {z : Int} {s t : Int × (Int → Int) × (Int → Int) × (Int → Int)} (hs : agr s t) : ∀ k, agr (sA A z s k) (sA A z t k)
  | 0 => hs
  | k + 1 => sW_agr (sA_agr hs k) _
theorem s1_cg {A B : Nat → Int → Int} {z i j : Int} {s : Int × (Int → Int) × (Int → Int) × (Int → Int)} (e1 : B 11 = A 11) (e2 : B 12 = A 12) : s1 B z i j s = s1 A z i j s := by unfold s1; rw [e1, e2]
theorem sW_cg {A B : Nat → Int → Int} {z i : Int} {s : Int × (Int → Int) × (Int → Int) × (Int → Int)} (e1 : B 11 = A 11) (e2 : B 12 = A 12) : ∀ k, sW B z i k s = sW A z i k s
  | 0 => rfl
  | k + 1 => by rw [sW, sW, s1_cg e1 e2, sW_cg e1 e2 k]
theorem sA_cg {A B : Nat → Int → Int} {z : Int} {s : Int × (Int → Int) × (Int → Int) × (Int → Int)} (e0 : B 10 = A 10) (e1 : B 11 = A 11) (e2 : B 12 = A 12) : ∀ k, sA B z s k = sA A z s k
  | 0 => rfl
  | k + 1 => by rw [sA, sA, sA_cg e0 e1 e2 k, sW_cg e1 e2, e0]
theorem sW_n {A : Nat → Int → Int} {z i : Int} {s : Int × (Int → Int) × (Int → Int) × (Int → Int)} : ∀ k, s.1 ≤ (sW A z i k s).1
  | 0 => Int.le_refl _
  | k + 1 => by
    have := sW_n (A := A) (z := z) (i := i) (s := s) k
    rw [sW, s1]
    split
    · exact this
    · show s.1 ≤ (sW A z i k s).1 + 1; omega
theorem sA_ok {F : Nat → Int} {A : Nat → Int → Int} {z : Int} {s : Int × (Int → Int) × (Int → Int) × (Int → Int)} (L9 : LW F A) (hs : s.1 = 0) : ∀ k : Nat, (k : Int) ≤ F 16 → sOk (sA A z s k) (12 * k)
  | 0, hk => ⟨⟨by show 0 ≤ s.1; omega, by show s.1 ≤ _; omega⟩, fun k k0 k1 => absurd (show k < s.1 from k1) (by omega)⟩
  | k + 1, hk => by
    have h0 := sA_ok L9 hs (z := z) k (by omega)
    obtain ⟨k1, k2, k3, k4, k5⟩ := L9.2 k (by omega) (by omega)
    have h1 : ∀ j : Nat, j ≤ (A 10 k).toNat → sOk (sW A z k j (sA A z s k)) (12 * k + j) := by
      intro j
      induction j with
      | zero => intro _; rw [sW]; exact h0
      | succ j ih =>
        intro hj
        have := s1_ok (z := z) (k5 j (by omega) (by omega)) (ih (by omega))
        rw [show (12 * (k : Int) + ((j + 1 : Nat) : Int)) = 12 * k + j + 1 by omega]
        exact this
    obtain ⟨h2, h3⟩ := h1 _ (Nat.le_refl _)
    rw [sA]
    exact ⟨⟨h2.1, by omega⟩, h3⟩
/-- the penalties -/
def pnl (kd : Int) (m : Int → Int) (p i : Int) : Int := if strK kd p i = false ∧ m p = 2 then 3 else if strK kd p i = true ∧ m p = 0 then 4 else 0
theorem pnl_r (kd : Int) (m : Int → Int) (p i : Int) : 0 ≤ pnl kd m p i ∧ pnl kd m p i ≤ 4 := by unfold pnl; split <;> (try split) <;> omega
def pnS (kd : Int) (m : Int → Int) (i : Int) : Nat → Int
  | 0 => 0
  | k + 1 => pnS kd m i k + pnl kd m k i
theorem pnS_r (kd : Int) (m : Int → Int) (i : Int) : ∀ k, 0 ≤ pnS kd m i k ∧ pnS kd m i k ≤ 4 * k
  | 0 => by simp [pnS]
  | k + 1 => by
    have := pnS_r kd m i k
    have := pnl_r kd m k i
    rw [pnS]; omega
/-- what a laid line costs, -1 for none -/
def cst (kd ft cs : Int) (s : Int × (Int → Int) × (Int → Int) × (Int → Int)) (z i : Int) : Int :=
  if ¬ (ft * szk kd - 1 ≤ s.1 ∧ s.1 ≤ ft * szk kd + 1) then -1
  else if (s.1 = ft * szk kd + 1 ∧ s.2.1 (ft * szk kd) = 2) ∨ (s.1 = ft * szk kd - 1 ∧ strK kd (ft * szk kd - 1) i = true) then -1
  else if 0 < cs ∧ s.2.2.1 (cs * szk kd) = 0 then -1
  else 2 * btc z 12 + (if i = 0 then 0 else 2) + (if s.1 = ft * szk kd then 0 else 1) + (if 0 < cs ∧ s.2.2.2 (cs * szk kd) = 0 then 1 else 0) + pnS kd s.2.1 i (min (ft * szk kd) s.1).toNat
theorem cs_at {kd ft cs : Int} (hf : 2 ≤ ft ∧ ft ≤ 6) (hc : 0 ≤ cs ∧ cs < ft) : 0 ≤ cs * szk kd ∧ cs * szk kd ≤ ft * szk kd - 2 ∧ 4 ≤ ft * szk kd ∧ ft * szk kd ≤ 18 := by
  rcases szk_r kd with q | q <;> rw [q] <;> omega
theorem pnS_cg {kd i : Int} {m n : Int → Int} : ∀ k : Nat, (∀ p : Int, 0 ≤ p → p < k → m p = n p) → pnS kd m i k = pnS kd n i k
  | 0, _ => rfl
  | k + 1, hq => by rw [pnS, pnS, pnS_cg k (fun p p0 p1 => hq p p0 (by omega)), pnl, pnl, hq k (by omega) (by omega)]
theorem cst_agr {kd ft cs z i : Int} {s t : Int × (Int → Int) × (Int → Int) × (Int → Int)} (hf : 2 ≤ ft ∧ ft ≤ 6) (hc : 0 ≤ cs ∧ cs < ft) (hs : agr s t) : cst kd ft cs s z i = cst kd ft cs t z i := by
  obtain ⟨h1, h2⟩ := hs
  have hx := cs_at (kd := kd) hf hc
  unfold cst
  rw [← h1]
  by_cases q1 : ft * szk kd - 1 ≤ s.1 ∧ s.1 ≤ ft * szk kd + 1
  · rw [if_neg (not_not_intro q1), if_neg (not_not_intro q1)]
    have e1 : (s.1 = ft * szk kd + 1 ∧ s.2.1 (ft * szk kd) = 2) ↔ (s.1 = ft * szk kd + 1 ∧ t.2.1 (ft * szk kd) = 2) := by
      constructor <;> rintro ⟨a1, a2⟩
      · exact ⟨a1, by rw [← (h2 _ (by omega) (by omega)).1]; exact a2⟩
      · exact ⟨a1, by rw [(h2 _ (by omega) (by omega)).1]; exact a2⟩
    have e2 := h2 (cs * szk kd) (by omega) (by omega)
    have e3 : pnS kd s.2.1 i (min (ft * szk kd) s.1).toNat = pnS kd t.2.1 i (min (ft * szk kd) s.1).toNat := pnS_cg _ (fun p p0 p1 => (h2 p p0 (by omega)).1)
    rw [e2.2.1, e2.2.2, e3]
    simp only [e1]
  · rw [if_pos q1, if_pos q1]
theorem cst_r {kd ft cs z i : Int} {s : Int × (Int → Int) × (Int → Int) × (Int → Int)} (hf : 2 ≤ ft ∧ ft ≤ 6) (hc : 0 ≤ cs ∧ cs < ft) (hz : 0 ≤ z) : -1 ≤ cst kd ft cs s z i ∧ cst kd ft cs s z i ≤ 100 := by
  have hx := cs_at (kd := kd) hf hc
  have h1 := btc_r hz 12
  have h2 := pnS_r kd s.2.1 i (min (ft * szk kd) s.1).toNat
  unfold cst
  by_cases q1 : ¬ (ft * szk kd - 1 ≤ s.1 ∧ s.1 ≤ ft * szk kd + 1)
  · rw [if_pos q1]; omega
  · rw [if_neg q1]
    by_cases q2 : (s.1 = ft * szk kd + 1 ∧ s.2.1 (ft * szk kd) = 2) ∨ (s.1 = ft * szk kd - 1 ∧ strK kd (ft * szk kd - 1) i = true)
    · rw [if_pos q2]; omega
    · rw [if_neg q2]
      by_cases q3 : 0 < cs ∧ s.2.2.1 (cs * szk kd) = 0
      · rw [if_pos q3]; omega
      · rw [if_neg q3]
        split <;> split <;> split <;> omega
/-- the best scan: cost, set, sounds, number, inverted -/
def bt1 (c n z i : Int) (b : Int × Int × Int × Int × Int) : Int × Int × Int × Int × Int :=
  if c < 0 then b
  else if b.1 < 0 ∨ c < b.1 ∨ (c = b.1 ∧ (btc z 12 < btc b.2.1 12 ∨ (btc z 12 = btc b.2.1 12 ∧ (z < b.2.1 ∨ (z = b.2.1 ∧ b.2.2.2.2 ≠ 0 ∧ i = 0))))) then (c, z, n, b.2.2.2.1 + 1, i)
  else (b.1, b.2.1, b.2.2.1, b.2.2.2.1 + 1, b.2.2.2.2)
def bF (F : Nat → Int) (b : Int × Int × Int × Int × Int) : Nat → Int := uF (uF (uF (uF (uF F 34 b.1) 35 b.2.1) 36 b.2.2.1) 37 b.2.2.2.1) 38 b.2.2.2.2
def bof (F : Nat → Int) : Int × Int × Int × Int × Int := (F 34, F 35, F 36, F 37, F 38)
def bOk (b : Int × Int × Int × Int × Int) : Prop := (-1 ≤ b.1 ∧ b.1 ≤ 100) ∧ (0 ≤ b.2.1 ∧ b.2.1 ≤ 4095) ∧ (b.2.2.2.2 = 0 ∨ b.2.2.2.2 = 1)
def SND (F : Nat → Int) (A : Nat → Int → Int) : Prop := sOk (F 30, A 16, A 17, A 18) 144

set_option maxRecDepth 100000 in
set_option maxHeartbeats 4000000 in
theorem c_X10_positions {Γ : GT} {h : XH} {F : Nat → Int} {A : Nat → Int → Int} (k9 : 0 ≤ F 27 ∧ F 27 ≤ 3) (f9 : 2 ≤ F 28 ∧ F 28 ≤ 6) : Ct Γ M_X10_positions [.ref (g_L Γ 0)] (mst Γ h F A) (fun r h9 => r = some (.int (iN (F 28 * szk (F 27)))) ∧ h9 = mst Γ h F A) (fun _ _ => False) := by
  refine Ct.of rfl (by decide +kernel) (Nat.le_of_ble_eq_true rfl) ?_
  generalize hQF9 : QM Γ _ _ _ = QF9
  refine gg_aload_n dX10_positions_0 rfl rfl ?_
  refine gm_get97 rfl dX10_positions_1 (by (try simp only [uF_s, uF_n, ne_eq, not_false_eq_true, Nat.reduceEqDiff, reduceCtorEq]); rfl) ?_
  refine gg_aload_n dX10_positions_4 rfl rfl ?_
  refine gm_get94 rfl dX10_positions_5 (by (try simp only [uF_s, uF_n, ne_eq, not_false_eq_true, Nat.reduceEqDiff, reduceCtorEq]); rfl) ?_
  refine gc_X10_205 rfl dX10_positions_8 ⟨(Nat.le_of_ble_eq_true rfl), (Nat.le_of_ble_eq_true rfl)⟩ ⟨(Nat.le_of_ble_eq_true rfl), (Nat.le_of_ble_eq_true rfl)⟩ (Nat.le_of_ble_eq_true rfl) (c2_sizeOf k9) (fun _ _ w => w.elim) (fun r_8 h_8 hp => ?_)
  obtain ⟨rfl, rfl⟩ := hp
  refine gi_imul dX10_positions_11 ?_
  subst hQF9
  refine gg_iret dX10_positions_12 rfl rfl ⟨(Nat.le_of_ble_eq_true rfl), (Nat.le_of_ble_eq_true rfl)⟩ ?_
  exact ⟨rfl, rfl⟩
set_option maxRecDepth 100000 in
set_option maxHeartbeats 4000000 in
theorem c_X10_isStrong {Γ : GT} {h : XH} {F : Nat → Int} {A : Nat → Int → Int} (k9 : 0 ≤ F 27 ∧ F 27 ≤ 3) (f9 : 2 ≤ F 28 ∧ F 28 ≤ 6) {p i : Int} (hp9 : 0 ≤ p ∧ p ≤ 200) (hi : i = 0 ∨ i = 1) : Ct Γ M_X10_isStrong [.ref (g_L Γ 0), .int (iN p), .int (iN i)] (mst Γ h F A) (fun r h9 => r = some (.int (iN (bi (strK (F 27) p i)))) ∧ h9 = mst Γ h F A) (fun _ _ => False) := by
  refine Ct.of rfl (by decide +kernel) (Nat.le_of_ble_eq_true rfl) ?_
  generalize hQF9 : QM Γ _ _ _ = QF9
  have hz9 := szk_r (F 27)
  have ho9 := sto_r (F 27)
  have hm9 := Int.emod_nonneg p (show szk (F 27) ≠ 0 by omega)
  have hm8 := Int.emod_lt_of_pos p (show 0 < szk (F 27) by omega)
  refine gg_iload_n dX10_isStrong_0 rfl ?_
  refine gg_aload_n dX10_isStrong_1 rfl rfl ?_
  refine gm_get94 rfl dX10_isStrong_2 (by (try simp only [uF_s, uF_n, ne_eq, not_false_eq_true, Nat.reduceEqDiff, reduceCtorEq]); rfl) ?_
  refine gc_X10_205 rfl dX10_isStrong_5 ⟨(Nat.le_of_ble_eq_true rfl), (Nat.le_of_ble_eq_true rfl)⟩ ⟨(Nat.le_of_ble_eq_true rfl), (Nat.le_of_ble_eq_true rfl)⟩ (Nat.le_of_ble_eq_true rfl) (c2_sizeOf k9) (fun _ _ w => w.elim) (fun r_5 h_5 hp => ?_)
  obtain ⟨rfl, rfl⟩ := hp
  refine gi_irem dX10_isStrong_8 ⟨by omega, by omega⟩ ⟨by omega, by omega⟩ ?_
  refine gg_istore_n dX10_isStrong_9 (Nat.le_of_ble_eq_true rfl) rfl ?_
  refine gg_iload_n dX10_isStrong_10 rfl ?_
  refine gg_aload_n dX10_isStrong_11 rfl rfl ?_
  refine gm_get94 rfl dX10_isStrong_12 (by (try simp only [uF_s, uF_n, ne_eq, not_false_eq_true, Nat.reduceEqDiff, reduceCtorEq]); rfl) ?_
  refine gc_X10_205 rfl dX10_isStrong_15 ⟨(Nat.le_of_ble_eq_true rfl), (Nat.le_of_ble_eq_true rfl)⟩ ⟨(Nat.le_of_ble_eq_true rfl), (Nat.le_of_ble_eq_true rfl)⟩ (Nat.le_of_ble_eq_true rfl) (c2_sizeOf k9) (fun _ _ w => w.elim) (fun r_15 h_15 hp => ?_)
  obtain ⟨rfl, rfl⟩ := hp
  refine gi_icmp_ge (tgt := 39) dX10_isStrong_18 (by decide) ⟨by omega, by omega⟩ ⟨by omega, by omega⟩ (fun c_18 => ?_) (fun c_18 => ?_)
  · refine gg_iload_n dX10_isStrong_39 rfl ?_
    refine gg_aload_n dX10_isStrong_40 rfl rfl ?_
    refine gm_get94 rfl dX10_isStrong_41 (by (try simp only [uF_s, uF_n, ne_eq, not_false_eq_true, Nat.reduceEqDiff, reduceCtorEq]); rfl) ?_
    refine gc_X10_208 rfl dX10_isStrong_44 ⟨(Nat.le_of_ble_eq_true rfl), (Nat.le_of_ble_eq_true rfl)⟩ ⟨(Nat.le_of_ble_eq_true rfl), (Nat.le_of_ble_eq_true rfl)⟩ (Nat.le_of_ble_eq_true rfl) (c2_strongOf k9) (fun _ _ w => w.elim) (fun r_44 h_44 hp => ?_)
    obtain ⟨rfl, rfl⟩ := hp
    refine gi_icmp_ne (tgt := 54) dX10_isStrong_47 (by decide) ⟨by omega, by omega⟩ ⟨by omega, by omega⟩ (fun c_47 => ?_) (fun c_47 => ?_)
    · refine gi_iconst dX10_isStrong_54 ?_
      subst hQF9
      refine gg_iret dX10_isStrong_55 rfl (nar_bool (by omega)) ⟨(Nat.le_of_ble_eq_true rfl), (Nat.le_of_ble_eq_true rfl)⟩ ?_
      exact ⟨by congr 3; rw [strK, bi_d]; first | (rw [if_pos (by split <;> omega)]; done) | rw [if_neg (by split <;> omega)], rfl⟩
    · refine gi_iconst dX10_isStrong_50 ?_
      refine gg_goto (tgt := 55) dX10_isStrong_51 (by decide) ?_
      subst hQF9
      refine gg_iret dX10_isStrong_55 rfl (nar_bool (by omega)) ⟨(Nat.le_of_ble_eq_true rfl), (Nat.le_of_ble_eq_true rfl)⟩ ?_
      exact ⟨by congr 3; rw [strK, bi_d]; first | (rw [if_pos (by split <;> omega)]; done) | rw [if_neg (by split <;> omega)], rfl⟩
  · refine gg_iload_n dX10_isStrong_21 rfl ?_
    refine gi_if_eq (tgt := 39) dX10_isStrong_22 (by decide) ⟨by omega, by omega⟩ (fun c_22 => ?_) (fun c_22 => ?_)
    · refine gg_iload_n dX10_isStrong_39 rfl ?_
      refine gg_aload_n dX10_isStrong_40 rfl rfl ?_
      refine gm_get94 rfl dX10_isStrong_41 (by (try simp only [uF_s, uF_n, ne_eq, not_false_eq_true, Nat.reduceEqDiff, reduceCtorEq]); rfl) ?_
      refine gc_X10_208 rfl dX10_isStrong_44 ⟨(Nat.le_of_ble_eq_true rfl), (Nat.le_of_ble_eq_true rfl)⟩ ⟨(Nat.le_of_ble_eq_true rfl), (Nat.le_of_ble_eq_true rfl)⟩ (Nat.le_of_ble_eq_true rfl) (c2_strongOf k9) (fun _ _ w => w.elim) (fun r_44 h_44 hp => ?_)
      obtain ⟨rfl, rfl⟩ := hp
      refine gi_icmp_ne (tgt := 54) dX10_isStrong_47 (by decide) ⟨by omega, by omega⟩ ⟨by omega, by omega⟩ (fun c_47 => ?_) (fun c_47 => ?_)
      · refine gi_iconst dX10_isStrong_54 ?_
        subst hQF9
        refine gg_iret dX10_isStrong_55 rfl (nar_bool (by omega)) ⟨(Nat.le_of_ble_eq_true rfl), (Nat.le_of_ble_eq_true rfl)⟩ ?_
        exact ⟨by congr 3; rw [strK, bi_d]; first | (rw [if_pos (by split <;> omega)]; done) | rw [if_neg (by split <;> omega)], rfl⟩
      · refine gi_iconst dX10_isStrong_50 ?_
        refine gg_goto (tgt := 55) dX10_isStrong_51 (by decide) ?_
        subst hQF9
        refine gg_iret dX10_isStrong_55 rfl (nar_bool (by omega)) ⟨(Nat.le_of_ble_eq_true rfl), (Nat.le_of_ble_eq_true rfl)⟩ ?_
        exact ⟨by congr 3; rw [strK, bi_d]; first | (rw [if_pos (by split <;> omega)]; done) | rw [if_neg (by split <;> omega)], rfl⟩
    · refine gg_aload_n dX10_isStrong_25 rfl rfl ?_
      refine gm_get94 rfl dX10_isStrong_26 (by (try simp only [uF_s, uF_n, ne_eq, not_false_eq_true, Nat.reduceEqDiff, reduceCtorEq]); rfl) ?_
      refine gc_X10_205 rfl dX10_isStrong_29 ⟨(Nat.le_of_ble_eq_true rfl), (Nat.le_of_ble_eq_true rfl)⟩ ⟨(Nat.le_of_ble_eq_true rfl), (Nat.le_of_ble_eq_true rfl)⟩ (Nat.le_of_ble_eq_true rfl) (c2_sizeOf k9) (fun _ _ w => w.elim) (fun r_29 h_29 hp => ?_)
      obtain ⟨rfl, rfl⟩ := hp
      refine gi_iconst dX10_isStrong_32 ?_
      refine gi_isub dX10_isStrong_33 ?_
      refine gg_iload_n dX10_isStrong_34 rfl ?_
      refine gi_isub dX10_isStrong_35 ?_
      refine gg_goto (tgt := 40) dX10_isStrong_36 (by decide) ?_
      refine gg_aload_n dX10_isStrong_40 rfl rfl ?_
      refine gm_get94 rfl dX10_isStrong_41 (by (try simp only [uF_s, uF_n, ne_eq, not_false_eq_true, Nat.reduceEqDiff, reduceCtorEq]); rfl) ?_
      refine gc_X10_208 rfl dX10_isStrong_44 ⟨(Nat.le_of_ble_eq_true rfl), (Nat.le_of_ble_eq_true rfl)⟩ ⟨(Nat.le_of_ble_eq_true rfl), (Nat.le_of_ble_eq_true rfl)⟩ (Nat.le_of_ble_eq_true rfl) (c2_strongOf k9) (fun _ _ w => w.elim) (fun r_44 h_44 hp => ?_)
      obtain ⟨rfl, rfl⟩ := hp
      refine gi_icmp_ne (tgt := 54) dX10_isStrong_47 (by decide) ⟨by omega, by omega⟩ ⟨by omega, by omega⟩ (fun c_47 => ?_) (fun c_47 => ?_)
      · refine gi_iconst dX10_isStrong_54 ?_
        subst hQF9
        refine gg_iret dX10_isStrong_55 rfl (nar_bool (by omega)) ⟨(Nat.le_of_ble_eq_true rfl), (Nat.le_of_ble_eq_true rfl)⟩ ?_
        exact ⟨by congr 3; rw [strK, bi_d]; first | (rw [if_pos (by split <;> omega)]; done) | rw [if_neg (by split <;> omega)], rfl⟩
      · refine gi_iconst dX10_isStrong_50 ?_
        refine gg_goto (tgt := 55) dX10_isStrong_51 (by decide) ?_
        subst hQF9
        refine gg_iret dX10_isStrong_55 rfl (nar_bool (by omega)) ⟨(Nat.le_of_ble_eq_true rfl), (Nat.le_of_ble_eq_true rfl)⟩ ?_
        exact ⟨by congr 3; rw [strK, bi_d]; first | (rw [if_pos (by split <;> omega)]; done) | rw [if_neg (by split <;> omega)], rfl⟩
set_option maxRecDepth 100000 in
set_option maxHeartbeats 4000000 in
theorem c_X10_penalty {Γ : GT} {h : XH} {F : Nat → Int} {A : Nat → Int → Int} (k9 : 0 ≤ F 27 ∧ F 27 ≤ 3) (f9 : 2 ≤ F 28 ∧ F 28 ≤ 6) {p i : Int} (hp9 : 0 ≤ p ∧ p ≤ 143) (hm9 : 0 ≤ A 16 p ∧ A 16 p ≤ 2) (hi : i = 0 ∨ i = 1) : Ct Γ M_X10_penalty [.ref (g_L Γ 0), .int (iN p), .int (iN i)] (mst Γ h F A) (fun r h9 => r = some (.int (iN (pnl (F 27) (A 16) p i))) ∧ h9 = mst Γ h F A) (fun _ _ => False) := by
  refine Ct.of rfl (by decide +kernel) (Nat.le_of_ble_eq_true rfl) ?_
  generalize hQF9 : QM Γ _ _ _ = QF9
  refine gg_aload_n dX10_penalty_0 rfl rfl ?_
  refine gg_iload_n dX10_penalty_1 rfl ?_
  refine gg_iload_n dX10_penalty_2 rfl ?_
  refine gc_X10_273 rfl dX10_penalty_3 ⟨(Nat.le_of_ble_eq_true rfl), (Nat.le_of_ble_eq_true rfl)⟩ ⟨(Nat.le_of_ble_eq_true rfl), (Nat.le_of_ble_eq_true rfl)⟩ (Nat.le_of_ble_eq_true rfl) (HAt.mu rfl) (c_X10_isStrong k9 f9 ⟨by omega, by omega⟩ hi) (fun _ _ w => w.elim) (fun r_3 h_3 hp => ?_)
  obtain ⟨rfl, rfl⟩ := hp
  refine gg_istore_n dX10_penalty_6 (Nat.le_of_ble_eq_true rfl) rfl ?_
  refine gg_iload_n dX10_penalty_7 rfl ?_
  refine gi_if_ne (tgt := 25) dX10_penalty_8 (by decide) (bi_r _) (fun c_8 => ?_) (fun c_8 => ?_)
  · rw [bi_t] at c_8
    refine gg_iload_n dX10_penalty_25 rfl ?_
    refine gi_if_eq (tgt := 42) dX10_penalty_26 (by decide) (bi_r _) (fun c_26 => ?_) (fun c_26 => ?_)
    · rw [bi_f] at c_26
      refine gi_iconst dX10_penalty_42 ?_
      subst hQF9
      refine gg_iret dX10_penalty_43 rfl rfl ⟨(Nat.le_of_ble_eq_true rfl), (Nat.le_of_ble_eq_true rfl)⟩ ?_
      exact ⟨by congr 3; unfold pnl; simp_all, rfl⟩
    · rw [bi_t] at c_26
      refine gg_aload_n dX10_penalty_29 rfl rfl ?_
      refine gm_get106 rfl dX10_penalty_30 ?_
      refine gg_iload_n dX10_penalty_33 rfl ?_
      refine gm_iald dX10_penalty_34 (by decide) rfl (by decide) ⟨by omega, by simp only [ml9]; omega⟩ (by (try simp only [uA_s, uA_n, ne_eq, not_false_eq_true, Nat.reduceEqDiff, reduceCtorEq]); rfl) ?_
      refine gi_if_ne (tgt := 42) dX10_penalty_35 (by decide) ⟨by omega, by omega⟩ (fun c_35 => ?_) (fun c_35 => ?_)
      · refine gi_iconst dX10_penalty_42 ?_
        subst hQF9
        refine gg_iret dX10_penalty_43 rfl rfl ⟨(Nat.le_of_ble_eq_true rfl), (Nat.le_of_ble_eq_true rfl)⟩ ?_
        exact ⟨by congr 3; unfold pnl; simp_all, rfl⟩
      · refine gi_iconst dX10_penalty_38 ?_
        refine gg_goto (tgt := 43) dX10_penalty_39 (by decide) ?_
        subst hQF9
        refine gg_iret dX10_penalty_43 rfl rfl ⟨(Nat.le_of_ble_eq_true rfl), (Nat.le_of_ble_eq_true rfl)⟩ ?_
        exact ⟨by congr 3; unfold pnl; simp_all, rfl⟩
  · rw [bi_f] at c_8
    refine gg_aload_n dX10_penalty_11 rfl rfl ?_
    refine gm_get106 rfl dX10_penalty_12 ?_
    refine gg_iload_n dX10_penalty_15 rfl ?_
    refine gm_iald dX10_penalty_16 (by decide) rfl (by decide) ⟨by omega, by simp only [ml9]; omega⟩ (by (try simp only [uA_s, uA_n, ne_eq, not_false_eq_true, Nat.reduceEqDiff, reduceCtorEq]); rfl) ?_
    refine gi_iconst dX10_penalty_17 ?_
    refine gi_icmp_ne (tgt := 25) dX10_penalty_18 (by decide) ⟨by omega, by omega⟩ ⟨by omega, by omega⟩ (fun c_18 => ?_) (fun c_18 => ?_)
    · refine gg_iload_n dX10_penalty_25 rfl ?_
      refine gi_if_eq (tgt := 42) dX10_penalty_26 (by decide) (bi_r _) (fun c_26 => ?_) (fun c_26 => ?_)
      · rw [bi_f] at c_26
        refine gi_iconst dX10_penalty_42 ?_
        subst hQF9
        refine gg_iret dX10_penalty_43 rfl rfl ⟨(Nat.le_of_ble_eq_true rfl), (Nat.le_of_ble_eq_true rfl)⟩ ?_
        exact ⟨by congr 3; unfold pnl; simp_all, rfl⟩
      · rw [bi_t] at c_26
        refine gg_aload_n dX10_penalty_29 rfl rfl ?_
        refine gm_get106 rfl dX10_penalty_30 ?_
        refine gg_iload_n dX10_penalty_33 rfl ?_
        refine gm_iald dX10_penalty_34 (by decide) rfl (by decide) ⟨by omega, by simp only [ml9]; omega⟩ (by (try simp only [uA_s, uA_n, ne_eq, not_false_eq_true, Nat.reduceEqDiff, reduceCtorEq]); rfl) ?_
        refine gi_if_ne (tgt := 42) dX10_penalty_35 (by decide) ⟨by omega, by omega⟩ (fun c_35 => ?_) (fun c_35 => ?_)
        · refine gi_iconst dX10_penalty_42 ?_
          subst hQF9
          refine gg_iret dX10_penalty_43 rfl rfl ⟨(Nat.le_of_ble_eq_true rfl), (Nat.le_of_ble_eq_true rfl)⟩ ?_
          exact ⟨by congr 3; unfold pnl; simp_all, rfl⟩
        · refine gi_iconst dX10_penalty_38 ?_
          refine gg_goto (tgt := 43) dX10_penalty_39 (by decide) ?_
          subst hQF9
          refine gg_iret dX10_penalty_43 rfl rfl ⟨(Nat.le_of_ble_eq_true rfl), (Nat.le_of_ble_eq_true rfl)⟩ ?_
          exact ⟨by congr 3; unfold pnl; simp_all, rfl⟩
    · refine gi_iconst dX10_penalty_21 ?_
      refine gg_goto (tgt := 43) dX10_penalty_22 (by decide) ?_
      subst hQF9
      refine gg_iret dX10_penalty_43 rfl rfl ⟨(Nat.le_of_ble_eq_true rfl), (Nat.le_of_ble_eq_true rfl)⟩ ?_
      exact ⟨by congr 3; unfold pnl; simp_all, rfl⟩
set_option maxRecDepth 100000 in
set_option maxHeartbeats 4000000 in
theorem c_X10_laysSounds {Γ : GT} {h : XH} {F : Nat → Int} {A : Nat → Int → Int} (L9 : LW F A) {z : Int} (hz : 0 ≤ z ∧ z ≤ 4095) : Ct Γ M_X10_laysSounds [.ref (g_L Γ 0), .int (iN z)] (mst Γ h F A) (fun r h9 => r = none ∧ h9 = mst Γ h (uF F 30 (sA A z (s0 A) (F 16).toNat).1) (uA (uA (uA A 16 (sA A z (s0 A) (F 16).toNat).2.1) 17 (sA A z (s0 A) (F 16).toNat).2.2.1) 18 (sA A z (s0 A) (F 16).toNat).2.2.2)) (fun _ _ => False) := by
  refine Ct.of rfl (by decide +kernel) (Nat.le_of_ble_eq_true rfl) ?_
  generalize hQF9 : QM Γ _ _ _ = QF9
  obtain ⟨l1, l2⟩ := id L9
  refine gg_aload_n dX10_laysSounds_0 rfl rfl ?_
  refine gi_iconst dX10_laysSounds_1 ?_
  refine gm_put103 rfl dX10_laysSounds_2 (by (try simp only [uF_ss, uF_cc, id_eq, Nat.reduceLT, reduceCtorEq]); rfl) ?_
  refine gi_iconst dX10_laysSounds_5 ?_
  refine gg_istore_n dX10_laysSounds_6 (Nat.le_of_ble_eq_true rfl) rfl ?_
  have L_7 : ∀ (n9 : Nat) (k : Int) (s9 : Int × (Int → Int) × (Int → Int) × (Int → Int)), ((F 16 - k).toNat) = n9 → ∀ (hk : 0 ≤ k ∧ k ≤ F 16) (hs : sA A z (s0 A) k.toNat = s9) (hb : sOk s9 (12 * k)) (hn : 0 < k → 0 < s9.1), GG Γ M_X10_laysSounds QF9 (0, 0) (mst Γ h (uF F 30 s9.1) (uA (uA (uA A 16 s9.2.1) 17 s9.2.2.1) 18 s9.2.2.2)) 7 [some (.ref (g_L Γ 0)), some (.int (iN z)), some (.int (iN k)), none, none] [] := by
    intro n9
    induction n9 using Nat.strongRecOn with
    | ind n9 ih_7 => 
      intro k s9 hm9 hk hs hb hn
      refine gg_iload_n dX10_laysSounds_7 rfl ?_
      refine gg_aload_n dX10_laysSounds_8 rfl rfl ?_
      refine gm_get60 rfl dX10_laysSounds_9 (by (try simp only [uF_s, uF_n, ne_eq, not_false_eq_true, Nat.reduceEqDiff, reduceCtorEq]); rfl) ?_
      refine gi_icmp_ge (tgt := 185) dX10_laysSounds_12 (by decide) ⟨by omega, by omega⟩ ⟨by omega, by omega⟩ (fun c_12 => ?_) (fun c_12 => ?_)
      · subst hQF9
        refine gg_vret dX10_laysSounds_185 rfl ⟨(Nat.le_of_ble_eq_true rfl), (Nat.le_of_ble_eq_true rfl)⟩ ?_
        rw [show k = F 16 by omega] at hs
        exact ⟨rfl, by rw [hs]⟩
      · obtain ⟨k1, k2, k3, k4, k5⟩ := l2 k (by omega) (by omega)
        refine gi_iconst dX10_laysSounds_15 ?_
        refine gg_istore_n dX10_laysSounds_16 (Nat.le_of_ble_eq_true rfl) rfl ?_
        have L_17 : ∀ (n9 : Nat) (j : Int) (t9 : Int × (Int → Int) × (Int → Int) × (Int → Int)), ((A 10 k - j).toNat) = n9 → ∀ (hj : 0 ≤ j ∧ j ≤ A 10 k) (ht : sW A z k j.toNat s9 = t9) (hc : sOk t9 (12 * k + j)) (hm : 0 < k ∨ 0 < j → 0 < t9.1), GG Γ M_X10_laysSounds QF9 (0, 0) (mst Γ h (uF F 30 t9.1) (uA (uA (uA A 16 t9.2.1) 17 t9.2.2.1) 18 t9.2.2.2)) 17 [some (.ref (g_L Γ 0)), some (.int (iN z)), some (.int (iN k)), some (.int (iN j)), none] [] := by
          intro n9
          induction n9 using Nat.strongRecOn with
          | ind n9 ih_17 => 
            intro j t9 hm9 hj ht hc hm
            obtain ⟨c1, c2⟩ := id hc
            refine gg_iload_n dX10_laysSounds_17 rfl ?_
            refine gg_aload_n dX10_laysSounds_18 rfl rfl ?_
            refine gm_get69 rfl dX10_laysSounds_19 ?_
            refine gg_iload_n dX10_laysSounds_22 rfl ?_
            refine gm_iald dX10_laysSounds_23 (by decide) rfl (by decide) ⟨by omega, by simp only [ml9]; omega⟩ (by (try simp only [uA_s, uA_n, ne_eq, not_false_eq_true, Nat.reduceEqDiff, reduceCtorEq]); rfl) ?_
            refine gi_icmp_ge (tgt := 179) dX10_laysSounds_24 (by decide) ⟨by omega, by omega⟩ ⟨by omega, by omega⟩ (fun c_24 => ?_) (fun c_24 => ?_)
            · refine gi_iinc dX10_laysSounds_179 rfl (Nat.le_of_ble_eq_true rfl) rfl ?_
              refine gg_goto (tgt := 7) dX10_laysSounds_182 (by decide) ?_
              refine gg_drop 3 ?_
              refine gg_drop 4 ?_
              have ek : (k + 1).toNat = k.toNat + 1 := by omega
              have ej : j = A 10 k := by omega
              refine ih_7 _ (by omega) (k + 1) t9 rfl (by omega) (by rw [ek, sA, hs, Int.toNat_of_nonneg hk.1, ← ht, ej]) (sOk_m (by omega) hc) (fun _ => hm (by omega))
            · have k6 := k5 j (by omega) (by omega)
              refine gg_aload_n dX10_laysSounds_27 rfl rfl ?_
              refine gm_get72 rfl dX10_laysSounds_28 ?_
              refine gi_bipush dX10_laysSounds_31 (by decide) ?_
              refine gg_iload_n dX10_laysSounds_33 rfl ?_
              refine gi_imul dX10_laysSounds_34 ?_
              refine gg_iload_n dX10_laysSounds_35 rfl ?_
              refine gi_iadd dX10_laysSounds_36 ?_
              refine gm_iald dX10_laysSounds_37 (by decide) rfl (by decide) ⟨by omega, by simp only [ml9]; omega⟩ (by (try simp only [uA_s, uA_n, ne_eq, not_false_eq_true, Nat.reduceEqDiff, reduceCtorEq]); rfl) ?_
              refine gg_istore dX10_laysSounds_38 (Nat.le_of_ble_eq_true rfl) rfl ?_
              have L_101 : ∀  (ne : ¬ (j = 0 ∧ 0 < k ∧ z / 2 ^ (k - 1).toNat % 2 = 1)), GG Γ M_X10_laysSounds QF9 (0, 0) (mst Γ h (uF F 30 t9.1) (uA (uA (uA A 16 t9.2.1) 17 t9.2.2.1) 18 t9.2.2.2)) 101 [some (.ref (g_L Γ 0)), some (.int (iN z)), some (.int (iN k)), some (.int (iN j)), some (.int (iN (A 11 (12 * k + j))))] [] := by
                intro  ne
                refine gg_aload_n dX10_laysSounds_101 rfl rfl ?_
                refine gm_get106 rfl dX10_laysSounds_102 ?_
                refine gg_aload_n dX10_laysSounds_105 rfl rfl ?_
                refine gm_get103 rfl dX10_laysSounds_106 (by (try simp only [uF_s, uF_n, ne_eq, not_false_eq_true, Nat.reduceEqDiff, reduceCtorEq]); rfl) ?_
                refine gg_iload dX10_laysSounds_109 rfl ?_
                refine gm_iast dX10_laysSounds_111 (by decide) rfl (by decide) ⟨by omega, by simp only [ml9]; omega⟩ (by (try simp only [uA_s, uA_n, uA_ss, uA_cc, id_eq, ne_eq, not_false_eq_true, Nat.reduceEqDiff, Nat.reduceLT, reduceCtorEq]); rfl) ?_
                refine gg_aload_n dX10_laysSounds_112 rfl rfl ?_
                refine gm_get109 rfl dX10_laysSounds_113 ?_
                refine gg_aload_n dX10_laysSounds_116 rfl rfl ?_
                refine gm_get103 rfl dX10_laysSounds_117 (by (try simp only [uF_s, uF_n, ne_eq, not_false_eq_true, Nat.reduceEqDiff, reduceCtorEq]); rfl) ?_
                have L_129 : GG Γ M_X10_laysSounds QF9 (0, 0) (mst Γ h (uF F 30 (t9.1)) (uA (uA (uA A 16 (up t9.2.1 t9.1 (A 11 (12 * k + j)))) 17 (t9.2.2.1)) 18 (t9.2.2.2))) 129 [some (.ref (g_L Γ 0)), some (.int (iN z)), some (.int (iN k)), some (.int (iN j)), some (.int (iN (A 11 (12 * k + j))))] [.int (iN (bi (decide (j = 0)))), .int (iN t9.1), .ref (g_L Γ 17)] := by
                  refine gm_zast dX10_laysSounds_129 (by decide) rfl (by decide) ⟨by omega, by simp only [ml9]; omega⟩ (bi_01 _) (by (try simp only [uA_s, uA_n, uA_ss, uA_cc, id_eq, ne_eq, not_false_eq_true, Nat.reduceEqDiff, Nat.reduceLT, reduceCtorEq]); rfl) ?_
                  refine gg_aload_n dX10_laysSounds_130 rfl rfl ?_
                  refine gm_get112 rfl dX10_laysSounds_131 ?_
                  refine gg_aload_n dX10_laysSounds_134 rfl rfl ?_
                  refine gm_get103 rfl dX10_laysSounds_135 (by (try simp only [uF_s, uF_n, ne_eq, not_false_eq_true, Nat.reduceEqDiff, reduceCtorEq]); rfl) ?_
                  have L_162 : GG Γ M_X10_laysSounds QF9 (0, 0) (mst Γ h (uF F 30 (t9.1)) (uA (uA (uA A 16 (up t9.2.1 t9.1 (A 11 (12 * k + j)))) 17 (up t9.2.2.1 t9.1 (bi (decide (j = 0))))) 18 (t9.2.2.2))) 162 [some (.ref (g_L Γ 0)), some (.int (iN z)), some (.int (iN k)), some (.int (iN j)), some (.int (iN (A 11 (12 * k + j))))] [.int (iN (bi (decide (j = 0 ∧ 0 < k ∧ A 12 (k - 1) ≠ 0)))), .int (iN t9.1), .ref (g_L Γ 18)] := by
                    refine gm_zast dX10_laysSounds_162 (by decide) rfl (by decide) ⟨by omega, by simp only [ml9]; omega⟩ (bi_01 _) (by (try simp only [uA_s, uA_n, uA_ss, uA_cc, id_eq, ne_eq, not_false_eq_true, Nat.reduceEqDiff, Nat.reduceLT, reduceCtorEq]); rfl) ?_
                    refine gg_aload_n dX10_laysSounds_163 rfl rfl ?_
                    refine gg_dup dX10_laysSounds_164 rfl ?_
                    refine gm_get103 rfl dX10_laysSounds_165 (by (try simp only [uF_s, uF_n, ne_eq, not_false_eq_true, Nat.reduceEqDiff, reduceCtorEq]); rfl) ?_
                    refine gi_iconst dX10_laysSounds_168 ?_
                    refine gi_iadd dX10_laysSounds_169 ?_
                    refine gm_put103 rfl dX10_laysSounds_170 (by (try simp only [uF_ss, uF_cc, id_eq, Nat.reduceLT, reduceCtorEq]); rfl) ?_
                    refine gi_iinc dX10_laysSounds_173 rfl (Nat.le_of_ble_eq_true rfl) rfl ?_
                    refine gg_goto (tgt := 17) dX10_laysSounds_176 (by decide) ?_
                    refine gg_drop 4 ?_
                    have ej : (j + 1).toNat = j.toNat + 1 := by omega
                    have e1 := s1_ok (z := z) k6 hc
                    rw [Int.add_assoc] at e1
                    refine gg_conv (ih_17 _ (by omega) (j + 1) (s1 A z k j t9) rfl (by omega) (by rw [ej, sW, ht, Int.toNat_of_nonneg hj.1]) e1 (fun _ => ?_)) ?_ rfl rfl
                    · rw [s1, if_neg ne]; show 0 < t9.1 + 1; omega
                    · rw [s1, if_neg ne]
                  refine gg_iload_n dX10_laysSounds_138 rfl ?_
                  refine gi_if_ne (tgt := 161) dX10_laysSounds_139 (by decide) ⟨by omega, by omega⟩ (fun c_139 => ?_) (fun c_139 => ?_)
                  · refine gi_iconst dX10_laysSounds_161 ?_
                    exact gg_conv L_162 rfl rfl (by rw [decide_eq_false (fun q => c_139 q.1)]; rfl)
                  · refine gg_iload_n dX10_laysSounds_142 rfl ?_
                    refine gi_if_le (tgt := 161) dX10_laysSounds_143 (by decide) ⟨by omega, by omega⟩ (fun c_143 => ?_) (fun c_143 => ?_)
                    · refine gi_iconst dX10_laysSounds_161 ?_
                      exact gg_conv L_162 rfl rfl (by rw [decide_eq_false (fun q => absurd q.2.1 (by omega))]; rfl)
                    · obtain ⟨m1, m2, m3, m4, m5⟩ := l2 (k - 1) (by omega) (by omega)
                      refine gg_aload_n dX10_laysSounds_146 rfl rfl ?_
                      refine gm_get75 rfl dX10_laysSounds_147 ?_
                      refine gg_iload_n dX10_laysSounds_150 rfl ?_
                      refine gi_iconst dX10_laysSounds_151 ?_
                      refine gi_isub dX10_laysSounds_152 ?_
                      refine gm_zald dX10_laysSounds_153 (by decide) rfl (by decide) ⟨by omega, by simp only [ml9]; omega⟩ (by (try simp only [uA_s, uA_n, ne_eq, not_false_eq_true, Nat.reduceEqDiff, reduceCtorEq]); rfl) ?_
                      refine gi_if_eq (tgt := 161) dX10_laysSounds_154 (by decide) ⟨by omega, by omega⟩ (fun c_154 => ?_) (fun c_154 => ?_)
                      · refine gi_iconst dX10_laysSounds_161 ?_
                        exact gg_conv L_162 rfl rfl (by rw [decide_eq_false (fun q => q.2.2 c_154)]; rfl)
                      · refine gi_iconst dX10_laysSounds_157 ?_
                        refine gg_goto (tgt := 162) dX10_laysSounds_158 (by decide) ?_
                        exact gg_conv L_162 rfl rfl (by rw [decide_eq_true ⟨c_139, by omega, c_154⟩]; rfl)
                refine gg_iload_n dX10_laysSounds_120 rfl ?_
                refine gi_if_ne (tgt := 128) dX10_laysSounds_121 (by decide) ⟨by omega, by omega⟩ (fun c_121 => ?_) (fun c_121 => ?_)
                · refine gi_iconst dX10_laysSounds_128 ?_
                  exact gg_conv L_129 rfl rfl (by rw [decide_eq_false c_121]; rfl)
                · refine gi_iconst dX10_laysSounds_124 ?_
                  refine gg_goto (tgt := 129) dX10_laysSounds_125 (by decide) ?_
                  exact gg_conv L_129 rfl rfl (by rw [decide_eq_true c_121]; rfl)
              refine gg_iload_n dX10_laysSounds_40 rfl ?_
              refine gi_if_ne (tgt := 101) dX10_laysSounds_41 (by decide) ⟨by omega, by omega⟩ (fun c_41 => ?_) (fun c_41 => ?_)
              · exact L_101 (by omega)
              · refine gg_iload_n dX10_laysSounds_44 rfl ?_
                refine gi_if_le (tgt := 101) dX10_laysSounds_45 (by decide) ⟨by omega, by omega⟩ (fun c_45 => ?_) (fun c_45 => ?_)
                · exact L_101 (by omega)
                · refine gg_iload_n dX10_laysSounds_48 rfl ?_
                  refine gg_iload_n dX10_laysSounds_49 rfl ?_
                  refine gi_iconst dX10_laysSounds_50 ?_
                  refine gi_isub dX10_laysSounds_51 ?_
                  refine gi_ishr _ (bt_shr ⟨by omega, by omega⟩ ⟨by omega, by omega⟩) dX10_laysSounds_52 ?_
                  refine gi_iconst dX10_laysSounds_53 ?_
                  refine gi_iand _ (bt_a1 (Int.ediv_nonneg (by omega) (Int.le_of_lt (Int.pow_pos (by omega))))) dX10_laysSounds_54 ?_
                  refine gi_iconst dX10_laysSounds_55 ?_
                  refine gi_icmp_ne (tgt := 101) dX10_laysSounds_56 (by decide) (by have := Int.emod_nonneg (z / 2 ^ (k - 1).toNat) (show (2 : Int) ≠ 0 by omega); have := Int.emod_lt_of_pos (z / 2 ^ (k - 1).toNat) (show (0 : Int) < 2 by omega); exact ⟨by omega, by omega⟩) ⟨by omega, by omega⟩ (fun c_56 => ?_) (fun c_56 => ?_)
                  · exact L_101 (fun q => c_56 q.2.2)
                  · have c0 := hm (by omega)
                    have c3 := c2 (t9.1 - 1) (by omega) (by omega)
                    refine gg_aload_n dX10_laysSounds_59 rfl rfl ?_
                    refine gm_get106 rfl dX10_laysSounds_60 ?_
                    refine gg_aload_n dX10_laysSounds_63 rfl rfl ?_
                    refine gm_get103 rfl dX10_laysSounds_64 (by (try simp only [uF_s, uF_n, ne_eq, not_false_eq_true, Nat.reduceEqDiff, reduceCtorEq]); rfl) ?_
                    refine gi_iconst dX10_laysSounds_67 ?_
                    refine gi_isub dX10_laysSounds_68 ?_
                    refine gg_aload_n dX10_laysSounds_69 rfl rfl ?_
                    refine gm_get106 rfl dX10_laysSounds_70 ?_
                    refine gg_aload_n dX10_laysSounds_73 rfl rfl ?_
                    refine gm_get103 rfl dX10_laysSounds_74 (by (try simp only [uF_s, uF_n, ne_eq, not_false_eq_true, Nat.reduceEqDiff, reduceCtorEq]); rfl) ?_
                    refine gi_iconst dX10_laysSounds_77 ?_
                    refine gi_isub dX10_laysSounds_78 ?_
                    refine gm_iald dX10_laysSounds_79 (by decide) rfl (by decide) ⟨by omega, by simp only [ml9]; omega⟩ (by (try simp only [uA_s, uA_n, ne_eq, not_false_eq_true, Nat.reduceEqDiff, reduceCtorEq]); rfl) ?_
                    refine gg_iload dX10_laysSounds_80 rfl ?_
                    refine gc_X10_267 rfl dX10_laysSounds_82 ⟨(Nat.le_of_ble_eq_true rfl), (Nat.le_of_ble_eq_true rfl)⟩ ⟨(Nat.le_of_ble_eq_true rfl), (Nat.le_of_ble_eq_true rfl)⟩ ?_
                    rw [iN_max ⟨by omega, by omega⟩ ⟨by omega, by omega⟩]
                    refine gm_iast dX10_laysSounds_85 (by decide) rfl (by decide) ⟨by omega, by simp only [ml9]; omega⟩ (by (try simp only [uA_s, uA_n, uA_ss, uA_cc, id_eq, ne_eq, not_false_eq_true, Nat.reduceEqDiff, Nat.reduceLT, reduceCtorEq]); rfl) ?_
                    refine gg_aload_n dX10_laysSounds_86 rfl rfl ?_
                    refine gm_get109 rfl dX10_laysSounds_87 ?_
                    refine gg_aload_n dX10_laysSounds_90 rfl rfl ?_
                    refine gm_get103 rfl dX10_laysSounds_91 (by (try simp only [uF_s, uF_n, ne_eq, not_false_eq_true, Nat.reduceEqDiff, reduceCtorEq]); rfl) ?_
                    refine gi_iconst dX10_laysSounds_94 ?_
                    refine gi_isub dX10_laysSounds_95 ?_
                    refine gi_iconst dX10_laysSounds_96 ?_
                    refine gm_zast dX10_laysSounds_97 (by decide) rfl (by decide) ⟨by omega, by simp only [ml9]; omega⟩ (by omega) (by (try simp only [uA_s, uA_n, uA_ss, uA_cc, id_eq, ne_eq, not_false_eq_true, Nat.reduceEqDiff, Nat.reduceLT, reduceCtorEq]); rfl) ?_
                    refine gg_goto (tgt := 173) dX10_laysSounds_98 (by decide) ?_
                    refine gi_iinc dX10_laysSounds_173 rfl (Nat.le_of_ble_eq_true rfl) rfl ?_
                    refine gg_goto (tgt := 17) dX10_laysSounds_176 (by decide) ?_
                    refine gg_drop 4 ?_
                    have ej : (j + 1).toNat = j.toNat + 1 := by omega
                    have e1 := s1_ok (z := z) k6 hc
                    rw [Int.add_assoc] at e1
                    refine gg_conv (ih_17 _ (by omega) (j + 1) (s1 A z k j t9) rfl (by omega) (by rw [ej, sW, ht, Int.toNat_of_nonneg hj.1]) e1 (fun _ => ?_)) ?_ rfl rfl
                    · rw [s1, if_pos ⟨by omega, by omega, c_56⟩]; exact c0
                    · rw [s1, if_pos ⟨by omega, by omega, c_56⟩]
        refine gg_drop 4 ?_
        exact L_17 _ 0 s9 rfl (by omega) rfl (by rw [Int.add_zero]; exact hb) (fun q => hn (by omega))
  refine gg_drop 3 ?_
  refine gg_drop 4 ?_
  refine gg_conv (L_7 _ 0 (s0 A) rfl (by omega) rfl ⟨⟨Int.le_refl _, Int.le_refl _⟩, fun k k0 k1 => absurd (show k < (0 : Int) from k1) (by omega)⟩ (by omega)) (by unfold s0; dsimp only; rw [uA_id, uA_id, uA_id]) rfl rfl
theorem bF_id (F : Nat → Int) : bF F (bof F) = F := by
  unfold bF bof; dsimp only; rw [uF_id, uF_id, uF_id, uF_id, uF_id]
theorem bF_m (F : Nat → Int) (x : Int) : bF F (F 34, F 35, F 36, x, F 38) = uF F 37 x := by
  unfold bF; dsimp only; rw [uF_id, uF_id, uF_id, uF_e (uF_n (by decide))]
theorem bof_bF (F : Nat → Int) (b : Int × Int × Int × Int × Int) : bof (bF F b) = b := by
  unfold bof bF
  simp only [uF_s, uF_n, uF_ss, uF_cc, id_eq, ne_eq, not_false_eq_true, Nat.reduceEqDiff, Nat.reduceLT, reduceCtorEq]
theorem bF_n {F : Nat → Int} {b : Int × Int × Int × Int × Int} {j : Nat} (hj : j ∉ [34, 35, 36, 37, 38]) : bF F b j = F j := by
  simp only [List.mem_cons, List.not_mem_nil, or_false, not_or] at hj
  unfold bF
  rw [uF_n hj.2.2.2.2, uF_n hj.2.2.2.1, uF_n hj.2.2.1, uF_n hj.2.1, uF_n hj.1]
theorem bt1_ok {c n z i : Int} {b : Int × Int × Int × Int × Int} (hc : -1 ≤ c ∧ c ≤ 100) (hz : 0 ≤ z ∧ z ≤ 4095) (hi : i = 0 ∨ i = 1) (hb : bOk b) : bOk (bt1 c n z i b) := by
  unfold bt1
  split
  · exact hb
  · split
    · exact ⟨hc, hz, hi⟩
    · exact hb
theorem eln_fr {F G : Nat → Int} {A B : Nat → Int → Int} (e0 : G 16 = F 16) (e2 : B 12 = A 12) (e3 : B 13 = A 13) (e4 : B 14 = A 14) : eln G B = eln F A := by
  funext k; unfold eln; rw [e0, e2, e3, e4]
theorem pls_fr {F G : Nat → Int} {A B : Nat → Int → Int} (e0 : G 16 = F 16) (e2 : B 12 = A 12) (e3 : B 13 = A 13) (e4 : B 14 = A 14) : pls G B = pls F A := by
  unfold pls; rw [e0, eln_fr e0 e2 e3 e4]
theorem oks_fr {A B : Nat → Int → Int} {z : Int} (e1 : B 10 = A 10) : ∀ k, oks B z k = oks A z k
  | 0 => rfl
  | k + 1 => by rw [oks, oks, oks_fr e1 k, e1]
theorem are_fr {F G : Nat → Int} {A B : Nat → Int → Int} {z : Int} (e0 : G 16 = F 16) (e1 : B 10 = A 10) (e2 : B 12 = A 12) (e3 : B 13 = A 13) (e4 : B 14 = A 14) : are G B z = are F A z := by
  unfold are; rw [e0, pls_fr e0 e2 e3 e4, oks_fr e1]
theorem LW_fr {F G : Nat → Int} {A B : Nat → Int → Int} (e0 : G 16 = F 16) (e1 : B 10 = A 10) (e2 : B 12 = A 12) (e3 : B 13 = A 13) (e4 : B 14 = A 14) (e5 : B 11 = A 11) (L9 : LW F A) : LW G B := by
  unfold LW at L9 ⊢; rw [e0, e1, e2, e3, e4, e5]; exact L9
/-- the best scan after the sets below k -/
def bN (kd ft cs : Int) (F : Nat → Int) (A : Nat → Int → Int) (i0 : Int × Int × Int × Int × Int) : Nat → Int × Int × Int × Int × Int
  | 0 => i0
  | k + 1 => if are F A k = true then bt1 (cst kd ft cs (sA A k (s0 A) (F 16).toNat) k 1) (sA A k (s0 A) (F 16).toNat).1 k 1 (bt1 (cst kd ft cs (sA A k (s0 A) (F 16).toNat) k 0) (sA A k (s0 A) (F 16).toNat).1 k 0 (bN kd ft cs F A i0 k)) else bN kd ft cs F A i0 k
set_option maxRecDepth 100000 in
set_option maxHeartbeats 4000000 in
theorem c_X10_costOf {Γ : GT} {h : XH} {F : Nat → Int} {A : Nat → Int → Int} (k9 : 0 ≤ F 27 ∧ F 27 ≤ 3) (f9 : 2 ≤ F 28 ∧ F 28 ≤ 6) (x9 : 0 ≤ F 29 ∧ F 29 < F 28) (S9 : sOk (F 30, A 16, A 17, A 18) 144) {z i : Int} (hz : 0 ≤ z ∧ z ≤ 4095) (hi : i = 0 ∨ i = 1) : Ct Γ M_X10_costOf [.ref (g_L Γ 0), .int (iN z), .int (iN i)] (mst Γ h F A) (fun r h9 => r = some (.int (iN (cst (F 27) (F 28) (F 29) (F 30, A 16, A 17, A 18) z i))) ∧ h9 = mst Γ h F A) (fun _ _ => False) := by
  refine Ct.of rfl (by decide +kernel) (Nat.le_of_ble_eq_true rfl) ?_
  generalize hQF9 : QM Γ _ _ _ = QF9
  have hx := cs_at (kd := F 27) f9 x9
  obtain ⟨⟨s1a, s1b⟩, s2⟩ := id S9
  dsimp only at s1a s1b s2
  refine gg_aload_n dX10_costOf_0 rfl rfl ?_
  refine gc_X10_277 rfl dX10_costOf_1 ⟨(Nat.le_of_ble_eq_true rfl), (Nat.le_of_ble_eq_true rfl)⟩ ⟨(Nat.le_of_ble_eq_true rfl), (Nat.le_of_ble_eq_true rfl)⟩ (Nat.le_of_ble_eq_true rfl) (HAt.mu rfl) (c_X10_positions k9 f9) (fun _ _ w => w.elim) (fun r_1 h_1 hp => ?_)
  obtain ⟨rfl, rfl⟩ := hp
  refine gg_istore_n dX10_costOf_4 (Nat.le_of_ble_eq_true rfl) rfl ?_
  refine gg_aload_n dX10_costOf_5 rfl rfl ?_
  refine gm_get103 rfl dX10_costOf_6 (by (try simp only [uF_s, uF_n, ne_eq, not_false_eq_true, Nat.reduceEqDiff, reduceCtorEq]); rfl) ?_
  refine gg_iload_n dX10_costOf_9 rfl ?_
  refine gi_iconst dX10_costOf_10 ?_
  refine gi_isub dX10_costOf_11 ?_
  refine gg_iload_n dX10_costOf_12 rfl ?_
  refine gi_iconst dX10_costOf_13 ?_
  refine gi_iadd dX10_costOf_14 ?_
  refine gc_X10_158 rfl dX10_costOf_15 ⟨(Nat.le_of_ble_eq_true rfl), (Nat.le_of_ble_eq_true rfl)⟩ ⟨(Nat.le_of_ble_eq_true rfl), (Nat.le_of_ble_eq_true rfl)⟩ (Nat.le_of_ble_eq_true rfl) (c_X10_in ⟨by omega, by omega⟩ ⟨by omega, by omega⟩ ⟨by omega, by omega⟩) (fun _ _ w => w.elim) (fun r_15 h_15 hp => ?_)
  obtain ⟨rfl, rfl⟩ := hp
  refine gi_if_ne (tgt := 23) dX10_costOf_18 (by decide) (bi_r _) (fun c_18 => ?_) (fun c_18 => ?_)
  · rw [bi_t] at c_18
    rw [Bool.and_eq_true, decide_eq_true_iff, decide_eq_true_iff] at c_18
    have s3 := s2 (F 29 * szk (F 27)) (by omega) (by omega)
    have L_64 : ∀  (q2 : (F 30 = F 28 * szk (F 27) + 1 ∧ A 16 (F 28 * szk (F 27)) = 2) ∨ (F 30 = F 28 * szk (F 27) - 1 ∧ strK (F 27) (F 28 * szk (F 27) - 1) i = true)), GG Γ M_X10_costOf QF9 (0, 0) (mst Γ h F A) 64 [some (.ref (g_L Γ 0)), some (.int (iN z)), some (.int (iN i)), some (.int (iN (F 28 * szk (F 27)))), none, none, none] [] := by
      intro  q2
      refine gi_iconst dX10_costOf_64 ?_
      subst hQF9
      refine gg_iret dX10_costOf_65 rfl rfl ⟨(Nat.le_of_ble_eq_true rfl), (Nat.le_of_ble_eq_true rfl)⟩ ?_
      refine ⟨?_, rfl⟩
      unfold cst; dsimp only
      rw [if_neg (by omega), if_pos q2]
    have L_66 : ∀  (q2 : ¬ ((F 30 = F 28 * szk (F 27) + 1 ∧ A 16 (F 28 * szk (F 27)) = 2) ∨ (F 30 = F 28 * szk (F 27) - 1 ∧ strK (F 27) (F 28 * szk (F 27) - 1) i = true))), GG Γ M_X10_costOf QF9 (0, 0) (mst Γ h F A) 66 [some (.ref (g_L Γ 0)), some (.int (iN z)), some (.int (iN i)), some (.int (iN (F 28 * szk (F 27)))), none, none, none] [] := by
      intro  q2
      refine gg_aload_n dX10_costOf_66 rfl rfl ?_
      refine gm_get100 rfl dX10_costOf_67 (by (try simp only [uF_s, uF_n, ne_eq, not_false_eq_true, Nat.reduceEqDiff, reduceCtorEq]); rfl) ?_
      refine gg_aload_n dX10_costOf_70 rfl rfl ?_
      refine gm_get94 rfl dX10_costOf_71 (by (try simp only [uF_s, uF_n, ne_eq, not_false_eq_true, Nat.reduceEqDiff, reduceCtorEq]); rfl) ?_
      refine gc_X10_205 rfl dX10_costOf_74 ⟨(Nat.le_of_ble_eq_true rfl), (Nat.le_of_ble_eq_true rfl)⟩ ⟨(Nat.le_of_ble_eq_true rfl), (Nat.le_of_ble_eq_true rfl)⟩ (Nat.le_of_ble_eq_true rfl) (c2_sizeOf k9) (fun _ _ w => w.elim) (fun r_74 h_74 hp => ?_)
      obtain ⟨rfl, rfl⟩ := hp
      refine gi_imul dX10_costOf_77 ?_
      refine gg_istore dX10_costOf_78 (Nat.le_of_ble_eq_true rfl) rfl ?_
      have L_99 : ∀  (q3 : ¬ (0 < F 29 ∧ A 17 (F 29 * szk (F 27)) = 0)), GG Γ M_X10_costOf QF9 (0, 0) (mst Γ h F A) 99 [some (.ref (g_L Γ 0)), some (.int (iN z)), some (.int (iN i)), some (.int (iN (F 28 * szk (F 27)))), some (.int (iN (F 29 * szk (F 27)))), none, none] [] := by
        intro  q3
        refine gi_iconst dX10_costOf_99 ?_
        refine gg_iload_n dX10_costOf_100 rfl ?_
        refine gc_X10_264 rfl dX10_costOf_101 ⟨(Nat.le_of_ble_eq_true rfl), (Nat.le_of_ble_eq_true rfl)⟩ ⟨(Nat.le_of_ble_eq_true rfl), (Nat.le_of_ble_eq_true rfl)⟩ (Nat.le_of_ble_eq_true rfl) (c_X10_bits hz) (fun _ _ w => w.elim) (fun r_101 h_101 hp => ?_)
        obtain ⟨rfl, rfl⟩ := hp
        refine gi_imul dX10_costOf_104 ?_
        have L_114 : GG Γ M_X10_costOf QF9 (0, 0) (mst Γ h F A) 114 [some (.ref (g_L Γ 0)), some (.int (iN z)), some (.int (iN i)), some (.int (iN (F 28 * szk (F 27)))), some (.int (iN (F 29 * szk (F 27)))), none, none] [.int (iN (if i = 0 then 0 else 2)), .int (iN (2 * btc z 12))] := by
          refine gi_iadd dX10_costOf_114 ?_
          have L_128 : GG Γ M_X10_costOf QF9 (0, 0) (mst Γ h F A) 128 [some (.ref (g_L Γ 0)), some (.int (iN z)), some (.int (iN i)), some (.int (iN (F 28 * szk (F 27)))), some (.int (iN (F 29 * szk (F 27)))), none, none] [.int (iN (if F 30 = F 28 * szk (F 27) then 0 else 1)), .int (iN (2 * btc z 12 + (if i = 0 then 0 else 2)))] := by
            refine gi_iadd dX10_costOf_128 ?_
            have L_151 : GG Γ M_X10_costOf QF9 (0, 0) (mst Γ h F A) 151 [some (.ref (g_L Γ 0)), some (.int (iN z)), some (.int (iN i)), some (.int (iN (F 28 * szk (F 27)))), some (.int (iN (F 29 * szk (F 27)))), none, none] [.int (iN (if 0 < F 29 ∧ A 18 (F 29 * szk (F 27)) = 0 then 1 else 0)), .int (iN (2 * btc z 12 + (if i = 0 then 0 else 2) + (if F 30 = F 28 * szk (F 27) then 0 else 1)))] := by
              refine gi_iadd dX10_costOf_151 ?_
              refine gg_istore dX10_costOf_152 (Nat.le_of_ble_eq_true rfl) rfl ?_
              refine gi_iconst dX10_costOf_154 ?_
              refine gg_istore dX10_costOf_155 (Nat.le_of_ble_eq_true rfl) rfl ?_
              have L_157 : ∀ (n9 : Nat) (p : Int), ((F 28 * szk (F 27) - p).toNat) = n9 → ∀ (hp9 : 0 ≤ p ∧ p ≤ F 28 * szk (F 27) ∧ p ≤ F 30), GG Γ M_X10_costOf QF9 (0, 0) (mst Γ h F A) 157 [some (.ref (g_L Γ 0)), some (.int (iN z)), some (.int (iN i)), some (.int (iN (F 28 * szk (F 27)))), some (.int (iN (F 29 * szk (F 27)))), some (.int (iN (2 * btc z 12 + (if i = 0 then 0 else 2) + (if F 30 = F 28 * szk (F 27) then 0 else 1) + (if 0 < F 29 ∧ A 18 (F 29 * szk (F 27)) = 0 then 1 else 0) + pnS (F 27) (A 16) i p.toNat))), some (.int (iN p))] [] := by
                intro n9
                induction n9 using Nat.strongRecOn with
                | ind n9 ih_157 => 
                  intro p hm9 hp9
                  refine gg_iload dX10_costOf_157 rfl ?_
                  refine gg_iload_n dX10_costOf_159 rfl ?_
                  refine gi_icmp_ge (tgt := 190) dX10_costOf_160 (by decide) ⟨by omega, by omega⟩ ⟨by omega, by omega⟩ (fun c_160 => ?_) (fun c_160 => ?_)
                  · refine gg_iload dX10_costOf_190 rfl ?_
                    subst hQF9
                    refine gg_iret dX10_costOf_192 rfl rfl ⟨(Nat.le_of_ble_eq_true rfl), (Nat.le_of_ble_eq_true rfl)⟩ ?_
                    refine ⟨?_, rfl⟩
                    unfold cst; dsimp only
                    rw [if_neg (not_not_intro c_18), if_neg q2, if_neg q3, show p = min (F 28 * szk (F 27)) (F 30) by omega]
                  · refine gg_iload dX10_costOf_163 rfl ?_
                    refine gg_aload_n dX10_costOf_165 rfl rfl ?_
                    refine gm_get103 rfl dX10_costOf_166 (by (try simp only [uF_s, uF_n, ne_eq, not_false_eq_true, Nat.reduceEqDiff, reduceCtorEq]); rfl) ?_
                    refine gi_icmp_ge (tgt := 190) dX10_costOf_169 (by decide) ⟨by omega, by omega⟩ ⟨by omega, by omega⟩ (fun c_169 => ?_) (fun c_169 => ?_)
                    · refine gg_iload dX10_costOf_190 rfl ?_
                      subst hQF9
                      refine gg_iret dX10_costOf_192 rfl rfl ⟨(Nat.le_of_ble_eq_true rfl), (Nat.le_of_ble_eq_true rfl)⟩ ?_
                      refine ⟨?_, rfl⟩
                      unfold cst; dsimp only
                      rw [if_neg (not_not_intro c_18), if_neg q2, if_neg q3, show p = min (F 28 * szk (F 27)) (F 30) by omega]
                    · refine gg_iload dX10_costOf_172 rfl ?_
                      refine gg_aload_n dX10_costOf_174 rfl rfl ?_
                      refine gg_iload dX10_costOf_175 rfl ?_
                      refine gg_iload_n dX10_costOf_177 rfl ?_
                      refine gc_X10_280 rfl dX10_costOf_178 ⟨(Nat.le_of_ble_eq_true rfl), (Nat.le_of_ble_eq_true rfl)⟩ ⟨(Nat.le_of_ble_eq_true rfl), (Nat.le_of_ble_eq_true rfl)⟩ (Nat.le_of_ble_eq_true rfl) (HAt.mu rfl) (c_X10_penalty k9 f9 ⟨by omega, by omega⟩ (s2 p (by omega) (by omega)).1 hi) (fun _ _ w => w.elim) (fun r_178 h_178 hp => ?_)
                      obtain ⟨rfl, rfl⟩ := hp
                      refine gi_iadd dX10_costOf_181 ?_
                      refine gg_istore dX10_costOf_182 (Nat.le_of_ble_eq_true rfl) rfl ?_
                      refine gi_iinc dX10_costOf_184 rfl (Nat.le_of_ble_eq_true rfl) rfl ?_
                      refine gg_goto (tgt := 157) dX10_costOf_187 (by decide) ?_
                      have ep : (p + 1).toNat = p.toNat + 1 := by omega
                      exact gg_conv (ih_157 _ (by omega) (p + 1) rfl (by omega)) rfl (by rw [ep, pnS, Int.toNat_of_nonneg hp9.1, ← Int.add_assoc]; rfl) rfl
              exact gg_conv (L_157 _ 0 rfl (by omega)) rfl (by simp [pnS, lset]) rfl
            refine gg_aload_n dX10_costOf_129 rfl rfl ?_
            refine gm_get100 rfl dX10_costOf_130 (by (try simp only [uF_s, uF_n, ne_eq, not_false_eq_true, Nat.reduceEqDiff, reduceCtorEq]); rfl) ?_
            refine gi_if_le (tgt := 150) dX10_costOf_133 (by decide) ⟨by omega, by omega⟩ (fun c_133 => ?_) (fun c_133 => ?_)
            · refine gi_iconst dX10_costOf_150 ?_
              refine gg_drop 5 ?_
              refine gg_drop 6 ?_
              exact gg_conv L_151 rfl rfl (by rw [if_neg (fun q => absurd q.1 (by omega))])
            · refine gg_aload_n dX10_costOf_136 rfl rfl ?_
              refine gm_get112 rfl dX10_costOf_137 ?_
              refine gg_iload dX10_costOf_140 rfl ?_
              refine gm_zald dX10_costOf_142 (by decide) rfl (by decide) ⟨by omega, by simp only [ml9]; omega⟩ (by (try simp only [uA_s, uA_n, ne_eq, not_false_eq_true, Nat.reduceEqDiff, reduceCtorEq]); rfl) ?_
              refine gi_if_ne (tgt := 150) dX10_costOf_143 (by decide) ⟨by omega, by omega⟩ (fun c_143 => ?_) (fun c_143 => ?_)
              · refine gi_iconst dX10_costOf_150 ?_
                refine gg_drop 5 ?_
                refine gg_drop 6 ?_
                exact gg_conv L_151 rfl rfl (by rw [if_neg (fun q => c_143 q.2)])
              · refine gi_iconst dX10_costOf_146 ?_
                refine gg_goto (tgt := 151) dX10_costOf_147 (by decide) ?_
                refine gg_drop 5 ?_
                refine gg_drop 6 ?_
                exact gg_conv L_151 rfl rfl (by rw [if_pos ⟨by omega, c_143⟩])
          refine gg_aload_n dX10_costOf_115 rfl rfl ?_
          refine gm_get103 rfl dX10_costOf_116 (by (try simp only [uF_s, uF_n, ne_eq, not_false_eq_true, Nat.reduceEqDiff, reduceCtorEq]); rfl) ?_
          refine gg_iload_n dX10_costOf_119 rfl ?_
          refine gi_icmp_ne (tgt := 127) dX10_costOf_120 (by decide) ⟨by omega, by omega⟩ ⟨by omega, by omega⟩ (fun c_120 => ?_) (fun c_120 => ?_)
          · refine gi_iconst dX10_costOf_127 ?_
            refine gg_drop 5 ?_
            refine gg_drop 6 ?_
            exact gg_conv L_128 rfl rfl (by rw [if_neg c_120])
          · refine gi_iconst dX10_costOf_123 ?_
            refine gg_goto (tgt := 128) dX10_costOf_124 (by decide) ?_
            refine gg_drop 5 ?_
            refine gg_drop 6 ?_
            exact gg_conv L_128 rfl rfl (by rw [if_pos c_120])
        refine gg_iload_n dX10_costOf_105 rfl ?_
        refine gi_if_eq (tgt := 113) dX10_costOf_106 (by decide) ⟨by omega, by omega⟩ (fun c_106 => ?_) (fun c_106 => ?_)
        · refine gi_iconst dX10_costOf_113 ?_
          refine gg_drop 5 ?_
          refine gg_drop 6 ?_
          exact gg_conv L_114 rfl rfl (by rw [if_pos c_106])
        · refine gi_iconst dX10_costOf_109 ?_
          refine gg_goto (tgt := 114) dX10_costOf_110 (by decide) ?_
          refine gg_drop 5 ?_
          refine gg_drop 6 ?_
          exact gg_conv L_114 rfl rfl (by rw [if_neg c_106])
      refine gg_aload_n dX10_costOf_80 rfl rfl ?_
      refine gm_get100 rfl dX10_costOf_81 (by (try simp only [uF_s, uF_n, ne_eq, not_false_eq_true, Nat.reduceEqDiff, reduceCtorEq]); rfl) ?_
      refine gi_if_le (tgt := 99) dX10_costOf_84 (by decide) ⟨by omega, by omega⟩ (fun c_84 => ?_) (fun c_84 => ?_)
      · refine gg_drop 5 ?_
        refine gg_drop 6 ?_
        exact L_99 (fun q => by omega)
      · refine gg_aload_n dX10_costOf_87 rfl rfl ?_
        refine gm_get109 rfl dX10_costOf_88 ?_
        refine gg_iload dX10_costOf_91 rfl ?_
        refine gm_zald dX10_costOf_93 (by decide) rfl (by decide) ⟨by omega, by simp only [ml9]; omega⟩ (by (try simp only [uA_s, uA_n, ne_eq, not_false_eq_true, Nat.reduceEqDiff, reduceCtorEq]); rfl) ?_
        refine gi_if_ne (tgt := 99) dX10_costOf_94 (by decide) ⟨by omega, by omega⟩ (fun c_94 => ?_) (fun c_94 => ?_)
        · refine gg_drop 5 ?_
          refine gg_drop 6 ?_
          exact L_99 (fun q => c_94 q.2)
        · refine gi_iconst dX10_costOf_97 ?_
          subst hQF9
          refine gg_iret dX10_costOf_98 rfl rfl ⟨(Nat.le_of_ble_eq_true rfl), (Nat.le_of_ble_eq_true rfl)⟩ ?_
          refine ⟨?_, rfl⟩
          unfold cst; dsimp only
          rw [if_neg (by omega), if_neg q2, if_pos ⟨by omega, c_94⟩]
    refine gg_aload_n dX10_costOf_23 rfl rfl ?_
    refine gm_get103 rfl dX10_costOf_24 (by (try simp only [uF_s, uF_n, ne_eq, not_false_eq_true, Nat.reduceEqDiff, reduceCtorEq]); rfl) ?_
    refine gg_iload_n dX10_costOf_27 rfl ?_
    refine gi_iconst dX10_costOf_28 ?_
    refine gi_iadd dX10_costOf_29 ?_
    refine gi_icmp_ne (tgt := 43) dX10_costOf_30 (by decide) ⟨by omega, by omega⟩ ⟨by omega, by omega⟩ (fun c_30 => ?_) (fun c_30 => ?_)
    · refine gg_aload_n dX10_costOf_43 rfl rfl ?_
      refine gm_get103 rfl dX10_costOf_44 (by (try simp only [uF_s, uF_n, ne_eq, not_false_eq_true, Nat.reduceEqDiff, reduceCtorEq]); rfl) ?_
      refine gg_iload_n dX10_costOf_47 rfl ?_
      refine gi_iconst dX10_costOf_48 ?_
      refine gi_isub dX10_costOf_49 ?_
      refine gi_icmp_ne (tgt := 66) dX10_costOf_50 (by decide) ⟨by omega, by omega⟩ ⟨by omega, by omega⟩ (fun c_50 => ?_) (fun c_50 => ?_)
      · refine gg_drop 4 ?_
        refine gg_drop 5 ?_
        refine gg_drop 6 ?_
        exact L_66 (fun q => q.elim (fun q3 => c_30 q3.1) (fun q3 => c_50 q3.1))
      · refine gg_aload_n dX10_costOf_53 rfl rfl ?_
        refine gg_iload_n dX10_costOf_54 rfl ?_
        refine gi_iconst dX10_costOf_55 ?_
        refine gi_isub dX10_costOf_56 ?_
        refine gg_iload_n dX10_costOf_57 rfl ?_
        refine gc_X10_273 rfl dX10_costOf_58 ⟨(Nat.le_of_ble_eq_true rfl), (Nat.le_of_ble_eq_true rfl)⟩ ⟨(Nat.le_of_ble_eq_true rfl), (Nat.le_of_ble_eq_true rfl)⟩ (Nat.le_of_ble_eq_true rfl) (HAt.mu rfl) (c_X10_isStrong k9 f9 ⟨by omega, by omega⟩ hi) (fun _ _ w => w.elim) (fun r_58 h_58 hp => ?_)
        obtain ⟨rfl, rfl⟩ := hp
        refine gi_if_eq (tgt := 66) dX10_costOf_61 (by decide) (bi_r _) (fun c_61 => ?_) (fun c_61 => ?_)
        · rw [bi_f] at c_61
          refine gg_drop 4 ?_
          refine gg_drop 5 ?_
          refine gg_drop 6 ?_
          exact L_66 (fun q => q.elim (fun q3 => absurd q3.1 (by omega)) (fun q3 => by rw [c_61] at q3; cases q3.2))
        · rw [bi_t] at c_61
          refine gg_drop 4 ?_
          refine gg_drop 5 ?_
          refine gg_drop 6 ?_
          exact L_64 (Or.inr ⟨by omega, c_61⟩)
    · have s4 := s2 (F 28 * szk (F 27)) (by omega) (by omega)
      refine gg_aload_n dX10_costOf_33 rfl rfl ?_
      refine gm_get106 rfl dX10_costOf_34 ?_
      refine gg_iload_n dX10_costOf_37 rfl ?_
      refine gm_iald dX10_costOf_38 (by decide) rfl (by decide) ⟨by omega, by simp only [ml9]; omega⟩ (by (try simp only [uA_s, uA_n, ne_eq, not_false_eq_true, Nat.reduceEqDiff, reduceCtorEq]); rfl) ?_
      refine gi_iconst dX10_costOf_39 ?_
      refine gi_icmp_eq (tgt := 64) dX10_costOf_40 (by decide) ⟨by omega, by omega⟩ ⟨by omega, by omega⟩ (fun c_40 => ?_) (fun c_40 => ?_)
      · refine gg_drop 4 ?_
        refine gg_drop 5 ?_
        refine gg_drop 6 ?_
        exact L_64 (Or.inl ⟨by omega, by omega⟩)
      · refine gg_aload_n dX10_costOf_43 rfl rfl ?_
        refine gm_get103 rfl dX10_costOf_44 (by (try simp only [uF_s, uF_n, ne_eq, not_false_eq_true, Nat.reduceEqDiff, reduceCtorEq]); rfl) ?_
        refine gg_iload_n dX10_costOf_47 rfl ?_
        refine gi_iconst dX10_costOf_48 ?_
        refine gi_isub dX10_costOf_49 ?_
        refine gi_icmp_ne (tgt := 66) dX10_costOf_50 (by decide) ⟨by omega, by omega⟩ ⟨by omega, by omega⟩ (fun c_50 => ?_) (fun c_50 => ?_)
        · refine gg_drop 4 ?_
          refine gg_drop 5 ?_
          refine gg_drop 6 ?_
          exact L_66 (fun q => q.elim (fun q3 => c_40 q3.2) (fun q3 => c_50 q3.1))
        · refine gg_aload_n dX10_costOf_53 rfl rfl ?_
          refine gg_iload_n dX10_costOf_54 rfl ?_
          refine gi_iconst dX10_costOf_55 ?_
          refine gi_isub dX10_costOf_56 ?_
          refine gg_iload_n dX10_costOf_57 rfl ?_
          refine gc_X10_273 rfl dX10_costOf_58 ⟨(Nat.le_of_ble_eq_true rfl), (Nat.le_of_ble_eq_true rfl)⟩ ⟨(Nat.le_of_ble_eq_true rfl), (Nat.le_of_ble_eq_true rfl)⟩ (Nat.le_of_ble_eq_true rfl) (HAt.mu rfl) (c_X10_isStrong k9 f9 ⟨by omega, by omega⟩ hi) (fun _ _ w => w.elim) (fun r_58 h_58 hp => ?_)
          obtain ⟨rfl, rfl⟩ := hp
          refine gi_if_eq (tgt := 66) dX10_costOf_61 (by decide) (bi_r _) (fun c_61 => ?_) (fun c_61 => ?_)
          · rw [bi_f] at c_61
            refine gg_drop 4 ?_
            refine gg_drop 5 ?_
            refine gg_drop 6 ?_
            exact L_66 (fun q => q.elim (fun q3 => absurd q3.1 (by omega)) (fun q3 => by rw [c_61] at q3; cases q3.2))
          · rw [bi_t] at c_61
            refine gg_drop 4 ?_
            refine gg_drop 5 ?_
            refine gg_drop 6 ?_
            exact L_64 (Or.inr ⟨by omega, c_61⟩)
  · rw [bi_f] at c_18
    rw [Bool.and_eq_false_iff, decide_eq_false_iff_not, decide_eq_false_iff_not] at c_18
    refine gi_iconst dX10_costOf_21 ?_
    subst hQF9
    refine gg_iret dX10_costOf_22 rfl rfl ⟨(Nat.le_of_ble_eq_true rfl), (Nat.le_of_ble_eq_true rfl)⟩ ?_
    refine ⟨?_, rfl⟩
    unfold cst; dsimp only
    rw [if_pos (by omega)]
set_option maxRecDepth 100000 in
set_option maxHeartbeats 4000000 in
theorem c_X10_tries {Γ : GT} {h : XH} {F : Nat → Int} {A : Nat → Int → Int} (k9 : 0 ≤ F 27 ∧ F 27 ≤ 3) (f9 : 2 ≤ F 28 ∧ F 28 ≤ 6) (x9 : 0 ≤ F 29 ∧ F 29 < F 28) (S9 : sOk (F 30, A 16, A 17, A 18) 144) {z i : Int} (hz : 0 ≤ z ∧ z ≤ 4095) (hi : i = 0 ∨ i = 1) {s9 : Int × (Int → Int) × (Int → Int) × (Int → Int)} {b9 : Int × Int × Int × Int × Int} (hs9 : s9 = (F 30, A 16, A 17, A 18)) (hb9 : b9 = bof F) (ok : bOk b9) : Ct Γ M_X10_tries [.ref (g_L Γ 0), .int (iN z), .int (iN i)] (mst Γ h F A) (fun r h9 => r = none ∧ h9 = mst Γ h (bF F (bt1 (cst (F 27) (F 28) (F 29) s9 z i) s9.1 z i b9)) (A)) (fun _ _ => False) := by
  refine Ct.of rfl (by decide +kernel) (Nat.le_of_ble_eq_true rfl) ?_
  generalize hQF9 : QM Γ _ _ _ = QF9
  subst hs9
  subst hb9
  obtain ⟨o1, o2, o3⟩ := id ok
  dsimp only [bof] at o1 o2 o3
  have hcr := cst_r (kd := F 27) (s := (F 30, A 16, A 17, A 18)) (i := i) f9 x9 hz.1
  obtain ⟨c9, hc9⟩ : ∃ c9, c9 = cst (F 27) (F 28) (F 29) (F 30, A 16, A 17, A 18) z i := ⟨_, rfl⟩
  rw [← hc9] at hcr
  obtain ⟨B9, hB⟩ : ∃ B9 : Bool, B9 = decide (F 34 < 0 ∨ c9 < F 34 ∨ (c9 = F 34 ∧ (btc z 12 < btc (F 35) 12 ∨ (btc z 12 = btc (F 35) 12 ∧ (z < F 35 ∨ (z = F 35 ∧ F 38 ≠ 0 ∧ i = 0)))))) := ⟨_, rfl⟩
  have hb1 := btc_r (z := z) hz.1 12
  have hb2 := btc_r (z := F 35) o2.1 12
  refine gg_aload_n dX10_tries_0 rfl rfl ?_
  refine gg_iload_n dX10_tries_1 rfl ?_
  refine gg_iload_n dX10_tries_2 rfl ?_
  refine gc_X10_284 rfl dX10_tries_3 ⟨(Nat.le_of_ble_eq_true rfl), (Nat.le_of_ble_eq_true rfl)⟩ ⟨(Nat.le_of_ble_eq_true rfl), (Nat.le_of_ble_eq_true rfl)⟩ (Nat.le_of_ble_eq_true rfl) (HAt.mu rfl) (c_X10_costOf k9 f9 x9 S9 hz hi) (fun _ _ w => w.elim) (fun r_3 h_3 hp => ?_)
  obtain ⟨rfl, rfl⟩ := hp
  rw [← hc9]
  refine gg_istore_n dX10_tries_6 (Nat.le_of_ble_eq_true rfl) rfl ?_
  refine gg_iload_n dX10_tries_7 rfl ?_
  refine gi_if_ge (tgt := 12) dX10_tries_8 (by decide) ⟨by omega, by omega⟩ (fun c_8 => ?_) (fun c_8 => ?_)
  · refine gg_aload_n dX10_tries_12 rfl rfl ?_
    refine gg_dup dX10_tries_13 rfl ?_
    refine gm_get124 rfl dX10_tries_14 (by (try simp only [uF_s, uF_n, ne_eq, not_false_eq_true, Nat.reduceEqDiff, reduceCtorEq]); rfl) ?_
    refine gi_iconst dX10_tries_17 ?_
    refine gi_iadd dX10_tries_18 ?_
    refine gm_put124 rfl dX10_tries_19 (by (try simp only [uF_ss, uF_cc, id_eq, Nat.reduceLT, reduceCtorEq]); rfl) ?_
    have L_137 : GG Γ M_X10_tries QF9 (0, 0) (mst Γ h (uF F 37 (F 37 + 1)) A) 137 [some (.ref (g_L Γ 0)), some (.int (iN z)), some (.int (iN i)), some (.int (iN c9)), some (.int (iN (bi B9)))] [] := by
      refine gg_iload dX10_tries_137 rfl ?_
      refine gi_if_ne (tgt := 143) dX10_tries_139 (by decide) (bi_r _) (fun c_139 => ?_) (fun c_139 => ?_)
      · rw [bi_t] at c_139
        refine gg_aload_n dX10_tries_143 rfl rfl ?_
        refine gg_iload_n dX10_tries_144 rfl ?_
        refine gm_put115 rfl dX10_tries_145 (by (try simp only [uF_ss, uF_cc, id_eq, Nat.reduceLT, reduceCtorEq]); rfl) ?_
        refine gg_aload_n dX10_tries_148 rfl rfl ?_
        refine gg_iload_n dX10_tries_149 rfl ?_
        refine gm_put118 rfl dX10_tries_150 (by (try simp only [uF_ss, uF_cc, id_eq, Nat.reduceLT, reduceCtorEq]); rfl) ?_
        refine gg_aload_n dX10_tries_153 rfl rfl ?_
        refine gg_iload_n dX10_tries_154 rfl ?_
        refine gm_put127 rfl dX10_tries_155 (by omega) (by (try simp only [uF_ss, uF_cc, id_eq, Nat.reduceLT, reduceCtorEq]); rfl) ?_
        refine gg_aload_n dX10_tries_158 rfl rfl ?_
        refine gg_aload_n dX10_tries_159 rfl rfl ?_
        refine gm_get103 rfl dX10_tries_160 (by (try simp only [uF_s, uF_n, ne_eq, not_false_eq_true, Nat.reduceEqDiff, reduceCtorEq]); rfl) ?_
        refine gm_put121 rfl dX10_tries_163 (by (try simp only [uF_ss, uF_cc, id_eq, Nat.reduceLT, reduceCtorEq]); rfl) ?_
        subst hQF9
        refine gg_vret dX10_tries_166 rfl ⟨(Nat.le_of_ble_eq_true rfl), (Nat.le_of_ble_eq_true rfl)⟩ ?_
        refine ⟨rfl, ?_⟩
        rw [hB, decide_eq_true_iff] at c_139
        rw [← hc9, bt1, if_neg (by omega)]
        rw [if_pos (by exact c_139)]
        rfl
      · rw [bi_f] at c_139
        subst hQF9
        refine gg_vret dX10_tries_142 rfl ⟨(Nat.le_of_ble_eq_true rfl), (Nat.le_of_ble_eq_true rfl)⟩ ?_
        refine ⟨rfl, ?_⟩
        rw [hB, decide_eq_false_iff_not] at c_139
        rw [← hc9, bt1, if_neg (by omega)]
        rw [if_neg (by exact c_139)]
        exact congrArg (fun f9 => mst Γ h f9 A) (bF_m F _).symm
    refine gg_aload_n dX10_tries_22 rfl rfl ?_
    refine gm_get115 rfl dX10_tries_23 (by (try simp only [uF_s, uF_n, ne_eq, not_false_eq_true, Nat.reduceEqDiff, reduceCtorEq]); rfl) ?_
    refine gi_if_lt (tgt := 37) dX10_tries_26 (by decide) ⟨by omega, by omega⟩ (fun c_26 => ?_) (fun c_26 => ?_)
    · refine gi_iconst dX10_tries_37 ?_
      refine gg_goto (tgt := 42) dX10_tries_38 (by decide) ?_
      refine gg_istore dX10_tries_42 (Nat.le_of_ble_eq_true rfl) rfl ?_
      refine gg_aload_n dX10_tries_44 rfl rfl ?_
      refine gm_get115 rfl dX10_tries_45 (by (try simp only [uF_s, uF_n, ne_eq, not_false_eq_true, Nat.reduceEqDiff, reduceCtorEq]); rfl) ?_
      refine gi_if_lt (tgt := 137) dX10_tries_48 (by decide) ⟨by omega, by omega⟩ (fun c_48 => ?_) (fun c_48 => ?_)
      · exact gg_conv L_137 rfl (by rw [show B9 = true from by rw [hB]; rw [decide_eq_true_iff]; omega]; rfl) rfl
      · exact absurd c_26 (by omega)
    · refine gg_iload_n dX10_tries_29 rfl ?_
      refine gg_aload_n dX10_tries_30 rfl rfl ?_
      refine gm_get115 rfl dX10_tries_31 (by (try simp only [uF_s, uF_n, ne_eq, not_false_eq_true, Nat.reduceEqDiff, reduceCtorEq]); rfl) ?_
      refine gi_icmp_ge (tgt := 41) dX10_tries_34 (by decide) ⟨by omega, by omega⟩ ⟨by omega, by omega⟩ (fun c_34 => ?_) (fun c_34 => ?_)
      · refine gi_iconst dX10_tries_41 ?_
        refine gg_istore dX10_tries_42 (Nat.le_of_ble_eq_true rfl) rfl ?_
        refine gg_aload_n dX10_tries_44 rfl rfl ?_
        refine gm_get115 rfl dX10_tries_45 (by (try simp only [uF_s, uF_n, ne_eq, not_false_eq_true, Nat.reduceEqDiff, reduceCtorEq]); rfl) ?_
        refine gi_if_lt (tgt := 137) dX10_tries_48 (by decide) ⟨by omega, by omega⟩ (fun c_48 => ?_) (fun c_48 => ?_)
        · exact absurd c_48 (by omega)
        · refine gg_iload_n dX10_tries_51 rfl ?_
          refine gg_aload_n dX10_tries_52 rfl rfl ?_
          refine gm_get115 rfl dX10_tries_53 (by (try simp only [uF_s, uF_n, ne_eq, not_false_eq_true, Nat.reduceEqDiff, reduceCtorEq]); rfl) ?_
          refine gi_icmp_ne (tgt := 137) dX10_tries_56 (by decide) ⟨by omega, by omega⟩ ⟨by omega, by omega⟩ (fun c_56 => ?_) (fun c_56 => ?_)
          · exact gg_conv L_137 rfl (by rw [show B9 = false from by rw [hB]; rw [decide_eq_false_iff_not]; omega]; rfl) rfl
          · refine gg_iload_n dX10_tries_59 rfl ?_
            refine gc_X10_264 rfl dX10_tries_60 ⟨(Nat.le_of_ble_eq_true rfl), (Nat.le_of_ble_eq_true rfl)⟩ ⟨(Nat.le_of_ble_eq_true rfl), (Nat.le_of_ble_eq_true rfl)⟩ (Nat.le_of_ble_eq_true rfl) (c_X10_bits hz) (fun _ _ w => w.elim) (fun r_60 h_60 hp => ?_)
            obtain ⟨rfl, rfl⟩ := hp
            refine gg_aload_n dX10_tries_63 rfl rfl ?_
            refine gm_get118 rfl dX10_tries_64 (by (try simp only [uF_s, uF_n, ne_eq, not_false_eq_true, Nat.reduceEqDiff, reduceCtorEq]); rfl) ?_
            refine gc_X10_264 rfl dX10_tries_67 ⟨(Nat.le_of_ble_eq_true rfl), (Nat.le_of_ble_eq_true rfl)⟩ ⟨(Nat.le_of_ble_eq_true rfl), (Nat.le_of_ble_eq_true rfl)⟩ (Nat.le_of_ble_eq_true rfl) (c_X10_bits o2) (fun _ _ w => w.elim) (fun r_67 h_67 hp => ?_)
            obtain ⟨rfl, rfl⟩ := hp
            refine gi_icmp_eq (tgt := 95) dX10_tries_70 (by decide) ⟨by omega, by omega⟩ ⟨by omega, by omega⟩ (fun c_70 => ?_) (fun c_70 => ?_)
            · refine gg_iload_n dX10_tries_95 rfl ?_
              refine gg_aload_n dX10_tries_96 rfl rfl ?_
              refine gm_get118 rfl dX10_tries_97 (by (try simp only [uF_s, uF_n, ne_eq, not_false_eq_true, Nat.reduceEqDiff, reduceCtorEq]); rfl) ?_
              refine gi_icmp_eq (tgt := 119) dX10_tries_100 (by decide) ⟨by omega, by omega⟩ ⟨by omega, by omega⟩ (fun c_100 => ?_) (fun c_100 => ?_)
              · refine gg_aload_n dX10_tries_119 rfl rfl ?_
                refine gm_get127 rfl dX10_tries_120 (by (try simp only [uF_s, uF_n, ne_eq, not_false_eq_true, Nat.reduceEqDiff, reduceCtorEq]); rfl) ?_
                refine gi_if_eq (tgt := 134) dX10_tries_123 (by decide) ⟨by omega, by omega⟩ (fun c_123 => ?_) (fun c_123 => ?_)
                · refine gi_iconst dX10_tries_134 ?_
                  refine gg_istore dX10_tries_135 (Nat.le_of_ble_eq_true rfl) rfl ?_
                  exact gg_conv L_137 rfl (by rw [show B9 = false from by rw [hB]; rw [decide_eq_false_iff_not]; omega]; rfl) rfl
                · refine gg_iload_n dX10_tries_126 rfl ?_
                  refine gi_if_ne (tgt := 134) dX10_tries_127 (by decide) ⟨by omega, by omega⟩ (fun c_127 => ?_) (fun c_127 => ?_)
                  · refine gi_iconst dX10_tries_134 ?_
                    refine gg_istore dX10_tries_135 (Nat.le_of_ble_eq_true rfl) rfl ?_
                    exact gg_conv L_137 rfl (by rw [show B9 = false from by rw [hB]; rw [decide_eq_false_iff_not]; omega]; rfl) rfl
                  · refine gi_iconst dX10_tries_130 ?_
                    refine gg_goto (tgt := 135) dX10_tries_131 (by decide) ?_
                    refine gg_istore dX10_tries_135 (Nat.le_of_ble_eq_true rfl) rfl ?_
                    exact gg_conv L_137 rfl (by rw [show B9 = true from by rw [hB]; rw [decide_eq_true_iff]; omega]; rfl) rfl
              · refine gg_iload_n dX10_tries_103 rfl ?_
                refine gg_aload_n dX10_tries_104 rfl rfl ?_
                refine gm_get118 rfl dX10_tries_105 (by (try simp only [uF_s, uF_n, ne_eq, not_false_eq_true, Nat.reduceEqDiff, reduceCtorEq]); rfl) ?_
                refine gi_icmp_ge (tgt := 115) dX10_tries_108 (by decide) ⟨by omega, by omega⟩ ⟨by omega, by omega⟩ (fun c_108 => ?_) (fun c_108 => ?_)
                · refine gi_iconst dX10_tries_115 ?_
                  refine gg_goto (tgt := 135) dX10_tries_116 (by decide) ?_
                  refine gg_istore dX10_tries_135 (Nat.le_of_ble_eq_true rfl) rfl ?_
                  exact gg_conv L_137 rfl (by rw [show B9 = false from by rw [hB]; rw [decide_eq_false_iff_not]; omega]; rfl) rfl
                · refine gi_iconst dX10_tries_111 ?_
                  refine gg_goto (tgt := 135) dX10_tries_112 (by decide) ?_
                  refine gg_istore dX10_tries_135 (Nat.le_of_ble_eq_true rfl) rfl ?_
                  exact gg_conv L_137 rfl (by rw [show B9 = true from by rw [hB]; rw [decide_eq_true_iff]; omega]; rfl) rfl
            · refine gg_iload_n dX10_tries_73 rfl ?_
              refine gc_X10_264 rfl dX10_tries_74 ⟨(Nat.le_of_ble_eq_true rfl), (Nat.le_of_ble_eq_true rfl)⟩ ⟨(Nat.le_of_ble_eq_true rfl), (Nat.le_of_ble_eq_true rfl)⟩ (Nat.le_of_ble_eq_true rfl) (c_X10_bits hz) (fun _ _ w => w.elim) (fun r_74 h_74 hp => ?_)
              obtain ⟨rfl, rfl⟩ := hp
              refine gg_aload_n dX10_tries_77 rfl rfl ?_
              refine gm_get118 rfl dX10_tries_78 (by (try simp only [uF_s, uF_n, ne_eq, not_false_eq_true, Nat.reduceEqDiff, reduceCtorEq]); rfl) ?_
              refine gc_X10_264 rfl dX10_tries_81 ⟨(Nat.le_of_ble_eq_true rfl), (Nat.le_of_ble_eq_true rfl)⟩ ⟨(Nat.le_of_ble_eq_true rfl), (Nat.le_of_ble_eq_true rfl)⟩ (Nat.le_of_ble_eq_true rfl) (c_X10_bits o2) (fun _ _ w => w.elim) (fun r_81 h_81 hp => ?_)
              obtain ⟨rfl, rfl⟩ := hp
              refine gi_icmp_ge (tgt := 91) dX10_tries_84 (by decide) ⟨by omega, by omega⟩ ⟨by omega, by omega⟩ (fun c_84 => ?_) (fun c_84 => ?_)
              · refine gi_iconst dX10_tries_91 ?_
                refine gg_goto (tgt := 135) dX10_tries_92 (by decide) ?_
                refine gg_istore dX10_tries_135 (Nat.le_of_ble_eq_true rfl) rfl ?_
                exact gg_conv L_137 rfl (by rw [show B9 = false from by rw [hB]; rw [decide_eq_false_iff_not]; omega]; rfl) rfl
              · refine gi_iconst dX10_tries_87 ?_
                refine gg_goto (tgt := 135) dX10_tries_88 (by decide) ?_
                refine gg_istore dX10_tries_135 (Nat.le_of_ble_eq_true rfl) rfl ?_
                exact gg_conv L_137 rfl (by rw [show B9 = true from by rw [hB]; rw [decide_eq_true_iff]; omega]; rfl) rfl
      · refine gi_iconst dX10_tries_37 ?_
        refine gg_goto (tgt := 42) dX10_tries_38 (by decide) ?_
        refine gg_istore dX10_tries_42 (Nat.le_of_ble_eq_true rfl) rfl ?_
        refine gg_aload_n dX10_tries_44 rfl rfl ?_
        refine gm_get115 rfl dX10_tries_45 (by (try simp only [uF_s, uF_n, ne_eq, not_false_eq_true, Nat.reduceEqDiff, reduceCtorEq]); rfl) ?_
        refine gi_if_lt (tgt := 137) dX10_tries_48 (by decide) ⟨by omega, by omega⟩ (fun c_48 => ?_) (fun c_48 => ?_)
        · exact absurd c_48 (by omega)
        · refine gg_iload_n dX10_tries_51 rfl ?_
          refine gg_aload_n dX10_tries_52 rfl rfl ?_
          refine gm_get115 rfl dX10_tries_53 (by (try simp only [uF_s, uF_n, ne_eq, not_false_eq_true, Nat.reduceEqDiff, reduceCtorEq]); rfl) ?_
          refine gi_icmp_ne (tgt := 137) dX10_tries_56 (by decide) ⟨by omega, by omega⟩ ⟨by omega, by omega⟩ (fun c_56 => ?_) (fun c_56 => ?_)
          · exact gg_conv L_137 rfl (by rw [show B9 = true from by rw [hB]; rw [decide_eq_true_iff]; omega]; rfl) rfl
          · exact absurd c_34 (by omega)
  · subst hQF9
    refine gg_vret dX10_tries_11 rfl ⟨(Nat.le_of_ble_eq_true rfl), (Nat.le_of_ble_eq_true rfl)⟩ ?_
    refine ⟨rfl, ?_⟩
    rw [← hc9, bt1, if_pos c_8, bF_id]
theorem frF_b {l9 : List Nat} {F F' : Nat → Int} {b : Int × Int × Int × Int × Int} (hf : frF l9 F F') (hk : 34 ∈ l9 ∧ 35 ∈ l9 ∧ 36 ∈ l9 ∧ 37 ∈ l9 ∧ 38 ∈ l9) : frF l9 F (bF F' b) :=
  frF_u (frF_u (frF_u (frF_u (frF_u hf hk.1) hk.2.1) hk.2.2.1) hk.2.2.2.1) hk.2.2.2.2
theorem agr_0 (A B : Nat → Int → Int) : agr (s0 A) (s0 B) := ⟨rfl, fun k k0 k1 => absurd (show k < (0 : Int) from k1) (by omega)⟩
set_option maxRecDepth 100000 in
set_option maxHeartbeats 4000000 in
theorem c_X10_finds {Γ : GT} {h : XH} {F : Nat → Int} {A : Nat → Int → Int} (k9 : 0 ≤ F 27 ∧ F 27 ≤ 3) (f9 : 2 ≤ F 28 ∧ F 28 ≤ 6) (x9 : 0 ≤ F 29 ∧ F 29 < F 28) (L9 : LW F A) (h38 : F 38 = 0 ∨ F 38 = 1) : Ct Γ M_X10_finds [.ref (g_L Γ 0)] (mst Γ h F A) (fun r h9 => ∃ (F1 : Nat → Int) (A1 : Nat → Int → Int), r = none ∧ h9 = mst Γ h F1 A1 ∧ frF [30, 34, 35, 36, 37, 38] F F1 ∧ frA [16, 17, 18] A A1 ∧ bOk (bof F1) ∧ bof F1 = bN (F 27) (F 28) (F 29) F A (-1, 0, F 36, 0, F 38) (pls F A + 1).toNat) (fun _ _ => False) := by
  refine Ct.of rfl (by decide +kernel) (Nat.le_of_ble_eq_true rfl) ?_
  generalize hQF9 : QM Γ _ _ _ = QF9
  obtain ⟨l1, l2⟩ := id L9
  have hpr := pls_r (F := F) (A := A) (by omega)
  have e0 : bof (uF (uF (uF F 34 (-1)) 35 0) 37 0) = (-1, 0, F 36, 0, F 38) := by
    unfold bof; simp only [uF_s, uF_n, uF_ss, uF_cc, id_eq, ne_eq, not_false_eq_true, Nat.reduceEqDiff, Nat.reduceLT, reduceCtorEq]
  refine gg_aload_n dX10_finds_0 rfl rfl ?_
  refine gi_iconst dX10_finds_1 ?_
  refine gm_put115 rfl dX10_finds_2 (by (try simp only [uF_ss, uF_cc, id_eq, Nat.reduceLT, reduceCtorEq]); rfl) ?_
  refine gg_aload_n dX10_finds_5 rfl rfl ?_
  refine gi_iconst dX10_finds_6 ?_
  refine gm_put118 rfl dX10_finds_7 (by (try simp only [uF_ss, uF_cc, id_eq, Nat.reduceLT, reduceCtorEq]); rfl) ?_
  refine gg_aload_n dX10_finds_10 rfl rfl ?_
  refine gi_iconst dX10_finds_11 ?_
  refine gm_put124 rfl dX10_finds_12 (by (try simp only [uF_ss, uF_cc, id_eq, Nat.reduceLT, reduceCtorEq]); rfl) ?_
  refine gg_aload_n dX10_finds_15 rfl rfl ?_
  refine gc_X10_258 rfl dX10_finds_16 ⟨(Nat.le_of_ble_eq_true rfl), (Nat.le_of_ble_eq_true rfl)⟩ ⟨(Nat.le_of_ble_eq_true rfl), (Nat.le_of_ble_eq_true rfl)⟩ (Nat.le_of_ble_eq_true rfl) (HAt.mu rfl) (c_X10_places (LW_fr (by simp only [uF_s, uF_n, uF_ss, uF_cc, id_eq, ne_eq, not_false_eq_true, Nat.reduceEqDiff, Nat.reduceLT, reduceCtorEq]) rfl rfl rfl rfl rfl L9)) (fun _ _ w => w.elim) (fun r_16 h_16 hp => ?_)
  obtain ⟨rfl, rfl⟩ := hp
  rw [pls_fr (F := F) (A := A) (by simp only [uF_s, uF_n, uF_ss, uF_cc, id_eq, ne_eq, not_false_eq_true, Nat.reduceEqDiff, Nat.reduceLT, reduceCtorEq]) rfl rfl rfl]
  refine gg_istore_n dX10_finds_19 (Nat.le_of_ble_eq_true rfl) rfl ?_
  refine gi_iconst dX10_finds_20 ?_
  refine gg_istore_n dX10_finds_21 (Nat.le_of_ble_eq_true rfl) rfl ?_
  have L_22 : ∀ (n9 : Nat) (k : Int) (F1 : Nat → Int) (A1 : Nat → Int → Int), ((pls F A + 1 - k).toNat) = n9 → ∀ (hk : 0 ≤ k ∧ k ≤ pls F A + 1) (hF : frF [30, 34, 35, 36, 37, 38] F F1) (hA : frA [16, 17, 18] A A1) (ok : bOk (bof F1)) (hb : bof F1 = bN (F 27) (F 28) (F 29) F A (-1, 0, F 36, 0, F 38) k.toNat), GG Γ M_X10_finds QF9 (0, 0) (mst Γ h F1 A1) 22 [some (.ref (g_L Γ 0)), some (.int (iN (pls F A))), some (.int (iN k))] [] := by
    intro n9
    induction n9 using Nat.strongRecOn with
    | ind n9 ih_22 => 
      intro k F1 A1 hm9 hk hF hA ok hb
      have g16 : F1 16 = F 16 := hF 16 (by decide)
      have g27 : F1 27 = F 27 := hF 27 (by decide)
      have g28 : F1 28 = F 28 := hF 28 (by decide)
      have g29 : F1 29 = F 29 := hF 29 (by decide)
      have g10 : A1 10 = A 10 := hA 10 (by decide)
      have g11 : A1 11 = A 11 := hA 11 (by decide)
      have g12 : A1 12 = A 12 := hA 12 (by decide)
      have g13 : A1 13 = A 13 := hA 13 (by decide)
      have g14 : A1 14 = A 14 := hA 14 (by decide)
      have L1 : LW F1 A1 := LW_fr g16 g10 g12 g13 g14 g11 L9
      refine gg_iload_n dX10_finds_22 rfl ?_
      refine gg_iload_n dX10_finds_23 rfl ?_
      refine gi_icmp_gt (tgt := 61) dX10_finds_24 (by decide) ⟨by omega, by omega⟩ ⟨by omega, by omega⟩ (fun c_24 => ?_) (fun c_24 => ?_)
      · subst hQF9
        refine gg_vret dX10_finds_61 rfl ⟨(Nat.le_of_ble_eq_true rfl), (Nat.le_of_ble_eq_true rfl)⟩ ?_
        exact ⟨F1, A1, rfl, rfl, hF, hA, ok, by rw [hb, show k = pls F A + 1 by omega]⟩
      · refine gg_aload_n dX10_finds_27 rfl rfl ?_
        refine gg_iload_n dX10_finds_28 rfl ?_
        refine gc_X10_261 rfl dX10_finds_29 ⟨(Nat.le_of_ble_eq_true rfl), (Nat.le_of_ble_eq_true rfl)⟩ ⟨(Nat.le_of_ble_eq_true rfl), (Nat.le_of_ble_eq_true rfl)⟩ (Nat.le_of_ble_eq_true rfl) (HAt.mu rfl) (c_X10_areElisions L1 ⟨by omega, by omega⟩) (fun _ _ w => w.elim) (fun r_29 h_29 hp => ?_)
        obtain ⟨rfl, rfl⟩ := hp
        rw [are_fr (F := F) (A := A) g16 g10 g12 g13 g14]
        refine gi_if_ne (tgt := 38) dX10_finds_32 (by decide) (bi_r _) (fun c_32 => ?_) (fun c_32 => ?_)
        · rw [bi_t] at c_32
          refine gg_aload_n dX10_finds_38 rfl rfl ?_
          refine gg_iload_n dX10_finds_39 rfl ?_
          refine gc_X10_287 rfl dX10_finds_40 ⟨(Nat.le_of_ble_eq_true rfl), (Nat.le_of_ble_eq_true rfl)⟩ ⟨(Nat.le_of_ble_eq_true rfl), (Nat.le_of_ble_eq_true rfl)⟩ (Nat.le_of_ble_eq_true rfl) (HAt.mu rfl) (c_X10_laysSounds L1 ⟨by omega, by omega⟩) (fun _ _ w => w.elim) (fun r_40 h_40 hp => ?_)
          obtain ⟨rfl, rfl⟩ := hp
          have hsk : sOk (sA A1 k (s0 A1) (F1 16).toNat) 144 := sOk_m (by omega) (sA_ok (A := A1) (z := k) (s := s0 A1) L1 rfl (F1 16).toNat (by omega))
          have hag : agr (sA A1 k (s0 A1) (F1 16).toNat) (sA A k (s0 A) (F 16).toNat) := by
            rw [sA_cg g10 g11 g12, g16]; exact sA_agr (agr_0 _ _) _
          generalize sA A1 k (s0 A1) (F1 16).toNat = s8 at hsk hag ⊢
          have e27 : uF F1 30 s8.1 27 = F 27 := by rw [uF_n (by decide), g27]
          have e28 : uF F1 30 s8.1 28 = F 28 := by rw [uF_n (by decide), g28]
          have e29 : uF F1 30 s8.1 29 = F 29 := by rw [uF_n (by decide), g29]
          have hc0 := cst_r (kd := F 27) (s := s8) (z := k) (i := 0) f9 x9 (by omega)
          have hc1 := cst_r (kd := F 27) (s := s8) (z := k) (i := 1) f9 x9 (by omega)
          refine gg_aload_n dX10_finds_43 rfl rfl ?_
          refine gg_iload_n dX10_finds_44 rfl ?_
          refine gi_iconst dX10_finds_45 ?_
          refine gc_X10_290 rfl dX10_finds_46 ⟨(Nat.le_of_ble_eq_true rfl), (Nat.le_of_ble_eq_true rfl)⟩ ⟨(Nat.le_of_ble_eq_true rfl), (Nat.le_of_ble_eq_true rfl)⟩ (Nat.le_of_ble_eq_true rfl) (HAt.mu rfl) (c_X10_tries (s9 := s8) (b9 := bof F1) (by rw [e27]; exact k9) (by rw [e28]; exact f9) (by rw [e28, e29]; exact x9) (by simp only [uF_s, uF_n, uF_ss, uF_cc, id_eq, ne_eq, not_false_eq_true, Nat.reduceEqDiff, Nat.reduceLT, reduceCtorEq, uA_s, uA_n, uA_ss, uA_cc, id_eq, ne_eq, not_false_eq_true, Nat.reduceEqDiff, Nat.reduceLT, reduceCtorEq]; exact hsk) ⟨by omega, by omega⟩ (Or.inl rfl) (by simp only [uF_s, uF_n, uF_ss, uF_cc, id_eq, ne_eq, not_false_eq_true, Nat.reduceEqDiff, Nat.reduceLT, reduceCtorEq, uA_s, uA_n, uA_ss, uA_cc, id_eq, ne_eq, not_false_eq_true, Nat.reduceEqDiff, Nat.reduceLT, reduceCtorEq] <;> rfl) (by unfold bof; simp only [uF_s, uF_n, uF_ss, uF_cc, id_eq, ne_eq, not_false_eq_true, Nat.reduceEqDiff, Nat.reduceLT, reduceCtorEq, uA_s, uA_n, uA_ss, uA_cc, id_eq, ne_eq, not_false_eq_true, Nat.reduceEqDiff, Nat.reduceLT, reduceCtorEq]) ok) (fun _ _ w => w.elim) (fun r_46 h_46 hp => ?_)
          obtain ⟨rfl, rfl⟩ := hp
          obtain ⟨b8, hb8⟩ : ∃ b8, b8 = bt1 (cst (F 27) (F 28) (F 29) s8 k 0) s8.1 k 0 (bof F1) := ⟨_, rfl⟩
          rw [e27, e28, e29, ← hb8]
          have ok8 : bOk b8 := by rw [hb8]; exact bt1_ok hc0 ⟨by omega, by omega⟩ (Or.inl rfl) ok
          have d27 : bF (uF F1 30 s8.1) b8 27 = F 27 := by rw [bF_n (by decide), e27]
          have d28 : bF (uF F1 30 s8.1) b8 28 = F 28 := by rw [bF_n (by decide), e28]
          have d29 : bF (uF F1 30 s8.1) b8 29 = F 29 := by rw [bF_n (by decide), e29]
          have d30 : bF (uF F1 30 s8.1) b8 30 = s8.1 := by rw [bF_n (by decide), uF_s]
          refine gg_aload_n dX10_finds_49 rfl rfl ?_
          refine gg_iload_n dX10_finds_50 rfl ?_
          refine gi_iconst dX10_finds_51 ?_
          refine gc_X10_290 rfl dX10_finds_52 ⟨(Nat.le_of_ble_eq_true rfl), (Nat.le_of_ble_eq_true rfl)⟩ ⟨(Nat.le_of_ble_eq_true rfl), (Nat.le_of_ble_eq_true rfl)⟩ (Nat.le_of_ble_eq_true rfl) (HAt.mu rfl) (c_X10_tries (s9 := s8) (b9 := b8) (by rw [d27]; exact k9) (by rw [d28]; exact f9) (by rw [d28, d29]; exact x9) (by rw [d30]; simp only [uF_s, uF_n, uF_ss, uF_cc, id_eq, ne_eq, not_false_eq_true, Nat.reduceEqDiff, Nat.reduceLT, reduceCtorEq, uA_s, uA_n, uA_ss, uA_cc, id_eq, ne_eq, not_false_eq_true, Nat.reduceEqDiff, Nat.reduceLT, reduceCtorEq]; exact hsk) ⟨by omega, by omega⟩ (Or.inr rfl) (by rw [d30]; simp only [uF_s, uF_n, uF_ss, uF_cc, id_eq, ne_eq, not_false_eq_true, Nat.reduceEqDiff, Nat.reduceLT, reduceCtorEq, uA_s, uA_n, uA_ss, uA_cc, id_eq, ne_eq, not_false_eq_true, Nat.reduceEqDiff, Nat.reduceLT, reduceCtorEq] <;> rfl) (by rw [bof_bF]) ok8) (fun _ _ w => w.elim) (fun r_52 h_52 hp => ?_)
          obtain ⟨rfl, rfl⟩ := hp
          obtain ⟨b7, hb7⟩ : ∃ b7, b7 = bt1 (cst (F 27) (F 28) (F 29) s8 k 1) s8.1 k 1 b8 := ⟨_, rfl⟩
          rw [d27, d28, d29, ← hb7]
          have ok7 : bOk b7 := by rw [hb7]; exact bt1_ok hc1 ⟨by omega, by omega⟩ (Or.inr rfl) ok8
          refine gi_iinc dX10_finds_55 rfl (Nat.le_of_ble_eq_true rfl) rfl ?_
          refine gg_goto (tgt := 22) dX10_finds_58 (by decide) ?_
          have ek : (k + 1).toNat = k.toNat + 1 := by omega
          refine ih_22 _ (by omega) (k + 1) (bF (bF (uF F1 30 s8.1) b8) b7) (uA (uA (uA A1 16 s8.2.1) 17 s8.2.2.1) 18 s8.2.2.2) rfl (by omega) (frF_b (frF_b (frF_u hF (by decide)) (by decide)) (by decide)) (frA_u (frA_u (frA_u hA (by decide)) (by decide)) (by decide)) (by rw [bof_bF]; exact ok7) ?_
          rw [bof_bF, ek, bN, Int.toNat_of_nonneg hk.1, c_32, if_pos rfl, hb7, hb8, cst_agr f9 x9 hag, cst_agr f9 x9 hag, hag.1, hb]
        · rw [bi_f] at c_32
          refine gg_goto (tgt := 55) dX10_finds_35 (by decide) ?_
          refine gi_iinc dX10_finds_55 rfl (Nat.le_of_ble_eq_true rfl) rfl ?_
          refine gg_goto (tgt := 22) dX10_finds_58 (by decide) ?_
          have ek : (k + 1).toNat = k.toNat + 1 := by omega
          exact ih_22 _ (by omega) (k + 1) F1 A1 rfl (by omega) hF hA ok (by rw [hb, ek, bN, Int.toNat_of_nonneg hk.1, c_32, if_neg (by decide)])
  exact L_22 _ 0 (uF (uF (uF F 34 (-1)) 35 0) 37 0) A rfl (by omega) (frF_u (frF_u (frF_u (fun _ _ => rfl) (by decide)) (by decide)) (by decide)) (fun _ _ => rfl) (by rw [e0]; exact ⟨⟨(by decide : (-1 : Int) ≤ -1), (by decide : (-1 : Int) ≤ 100)⟩, ⟨(by decide : (0 : Int) ≤ 0), (by decide : (0 : Int) ≤ 4095)⟩, h38⟩) (by rw [e0]; rfl)
