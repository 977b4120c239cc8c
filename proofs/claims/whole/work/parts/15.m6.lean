/-! words: cores and marks -/
theorem up_up {α : Type} {f : Int → α} {k : Int} {x y : α} : up (up f k x) k y = up f k y := by
  funext j
  unfold up
  by_cases q : j = k <;> simp [q]
theorem up_id {α : Type} {f : Int → α} {k : Int} : up f k (f k) = f := by
  funext j
  unfold up
  by_cases q : j = k <;> simp [q]
/-- a sequence of vowels begins at k -/
def wR (f : Int → Int) (k : Int) : Bool := vow (f k) && (decide (k = 0) || !vow (f (k - 1)))
def wN (f : Int → Int) : Nat → Int
  | 0 => 0
  | k + 1 => if wR f k = true then wN f k + 1 else wN f k
def wF (f g : Int → Int) : Nat → Int → Int
  | 0 => g
  | k + 1 => if wR f k = true then up (wF f g k) (wN f k) k else wF f g k
theorem wN_r (f : Int → Int) : ∀ k : Nat, 0 ≤ wN f k ∧ wN f k ≤ k
  | 0 => by simp [wN]
  | k + 1 => by
    have := wN_r f k
    unfold wN
    split <;> omega
theorem wN_1 {f : Int → Int} {k : Int} (hk : 0 ≤ k) : wN f (k + 1).toNat = if wR f k = true then wN f k.toNat + 1 else wN f k.toNat := by
  rw [show (k + 1).toNat = k.toNat + 1 by omega, wN, Int.toNat_of_nonneg hk]
theorem wF_1 {f g : Int → Int} {k : Int} (hk : 0 ≤ k) : wF f g (k + 1).toNat = if wR f k = true then up (wF f g k.toNat) (wN f k.toNat) k else wF f g k.toNat := by
  rw [show (k + 1).toNat = k.toNat + 1 by omega, wF, Int.toNat_of_nonneg hk]
/-- what lies ahead of the count does not depend on what was there before; it is a place ahead of k -/
theorem wF_in (f g : Int → Int) : ∀ (k : Nat) (i : Int), 0 ≤ i → i < wN f k → wF f g k i = wF f (fun _ => 0) k i ∧ 0 ≤ wF f g k i ∧ wF f g k i < k
  | 0, i, h0, h1 => by simp [wN] at h1; omega
  | k + 1, i, h0, h1 => by
    unfold wF
    unfold wN at h1
    split at h1
    · rename_i q
      rw [if_pos q, if_pos q]
      unfold up
      by_cases e : i = wN f k
      · rw [if_pos e, if_pos e]; omega
      · rw [if_neg e, if_neg e]
        have := wF_in f g k i h0 (by omega)
        omega
    · rename_i q
      rw [if_neg q, if_neg q]
      have := wF_in f g k i h0 h1
      omega
/-- silent: the last core is a single e behind a letter that is no vowel -/
def wS (f : Int → Int) (n : Int) : Bool := decide (1 < wN f n.toNat ∧ wF f (fun _ => 0) n.toNat (wN f n.toNat - 1) = n - 1 ∧ f (n - 1) = 101)
def wC (f : Int → Int) (n : Int) : Int := if wS f n = true then wN f n.toNat - 1 else if wN f n.toNat = 0 then 1 else wN f n.toNat
def wE (f : Int → Int) (n : Int) : Bool := !wS f n && vow (f (n - 1))
def wA (f g : Int → Int) (n : Int) : Int → Int := if wN f n.toNat = 0 then up g 0 0 else wF f g n.toNat
theorem wF_0 {f g : Int → Int} : ∀ {k : Nat}, wN f k = 0 → wF f g k = g
  | 0, _ => rfl
  | k + 1, hz => by
    unfold wN at hz
    have := wN_r f k
    split at hz
    · omega
    · rename_i q
      rw [wF, if_neg q, wF_0 hz]
def mkd (n k : Int) : Int := if n = 1 then 1 else if n = 2 then 2 * (n - 1 - k) else if n - 1 - k = 2 then 2 else if (n - 1 - k) % 2 = 0 then 1 else 0
def mrk (a : Int → Int) (e m k : Int) : Int := if e < 0 then mkd m k else a (9 + 20 * e + 2 + 12 + k)
def wrM (g : Int → Int) (b m : Int) (v : Int → Int) : Int → Int := fun j => if b ≤ j ∧ j < b + m then v (j - b) else g j
theorem wrM_0 {g : Int → Int} {b : Int} {v : Int → Int} : wrM g b 0 v = g := by
  funext j; unfold wrM; rw [if_neg (by omega)]
theorem wrM_1 {g : Int → Int} {b m : Int} {v : Int → Int} (hm : 0 ≤ m) : up (wrM g b m v) (b + m) (v m) = wrM g b (m + 1) v := by
  funext j
  unfold up wrM
  by_cases q : j = b + m
  · have q2 : b ≤ j ∧ j < b + (m + 1) := by omega
    have q3 : j - b = m := by omega
    rw [if_pos q, if_pos q2, q3]
  · rw [if_neg q]
    by_cases q2 : b ≤ j ∧ j < b + m
    · have q3 : b ≤ j ∧ j < b + (m + 1) := by omega
      rw [if_pos q2, if_pos q3]
    · have q3 : ¬ (b ≤ j ∧ j < b + (m + 1)) := by omega
      rw [if_neg q2, if_neg q3]
set_option maxRecDepth 100000 in
set_option maxHeartbeats 4000000 in
theorem c_X10_letter {Γ : GT} {h : XH} {F : Nat → Int} {A : Nat → Int → Int} {w : Int} (hw : 0 ≤ w ∧ w ≤ 11) {k : Int} (hk : 0 ≤ A 8 w + k ∧ A 8 w + k < 2609) : Ct Γ M_X10_letter [.ref (g_L Γ 0), .int (iN w), .int (iN k)] (mst Γ h F A) (fun r h9 => r = some (.int (iN (A 1 (A 8 w + k)))) ∧ h9 = mst Γ h F A) (fun _ _ => False) := by
  refine Ct.of rfl (by decide +kernel) (Nat.le_of_ble_eq_true rfl) ?_
  generalize hQF9 : QM Γ _ _ _ = QF9
  refine gg_aload_n dX10_letter_0 rfl rfl ?_
  refine gm_get13 rfl dX10_letter_1 ?_
  refine gg_aload_n dX10_letter_4 rfl rfl ?_
  refine gm_get63 rfl dX10_letter_5 ?_
  refine gg_iload_n dX10_letter_8 rfl ?_
  refine gm_iald dX10_letter_9 (by decide) rfl (by decide) ⟨by omega, by simp only [ml9]; omega⟩ (by (try simp only [uA_s, uA_n, ne_eq, not_false_eq_true, Nat.reduceEqDiff, reduceCtorEq]); rfl) ?_
  refine gg_iload_n dX10_letter_10 rfl ?_
  refine gi_iadd dX10_letter_11 ?_
  refine gm_iald dX10_letter_12 (by decide) rfl (by decide) ⟨by omega, by simp only [ml9]; omega⟩ (by (try simp only [uA_s, uA_n, ne_eq, not_false_eq_true, Nat.reduceEqDiff, reduceCtorEq]); rfl) ?_
  subst hQF9
  refine gg_iret dX10_letter_13 rfl rfl ⟨(Nat.le_of_ble_eq_true rfl), (Nat.le_of_ble_eq_true rfl)⟩ ?_
  exact ⟨rfl, rfl⟩
set_option maxRecDepth 100000 in
set_option maxHeartbeats 4000000 in
theorem c_X10_laysCores {Γ : GT} {h : XH} {F : Nat → Int} {A : Nat → Int → Int} (S : StA (A 1)) {w : Int} (hw : 0 ≤ w ∧ w ≤ 11) (hn : 1 ≤ A 9 w ∧ A 9 w ≤ 12) (hf : 0 ≤ A 8 w ∧ A 8 w + A 9 w ≤ 2609) : Ct Γ M_X10_laysCores [.ref (g_L Γ 0), .int (iN w)] (mst Γ h F A) (fun r h9 => r = none ∧ h9 = mst Γ h (uF (uF F 24 (wC (fun k => A 1 (A 8 w + k)) (A 9 w))) 25 (bi (wS (fun k => A 1 (A 8 w + k)) (A 9 w)))) (uA (uA A 13 (up (A 13) w (bi (wE (fun k => A 1 (A 8 w + k)) (A 9 w))))) 15 (wA (fun k => A 1 (A 8 w + k)) (A 15) (A 9 w)))) (fun _ _ => False) := by
  refine Ct.of rfl (by decide +kernel) (Nat.le_of_ble_eq_true rfl) ?_
  generalize hQF9 : QM Γ _ _ _ = QF9
  obtain ⟨s0, s1, s2, s3, s4, s5, s6⟩ := id S
  refine gg_aload_n dX10_laysCores_0 rfl rfl ?_
  refine gm_get66 rfl dX10_laysCores_1 ?_
  refine gg_iload_n dX10_laysCores_4 rfl ?_
  refine gm_iald dX10_laysCores_5 (by decide) rfl (by decide) ⟨by omega, by simp only [ml9]; omega⟩ (by (try simp only [uA_s, uA_n, ne_eq, not_false_eq_true, Nat.reduceEqDiff, reduceCtorEq]); rfl) ?_
  refine gg_istore_n dX10_laysCores_6 (Nat.le_of_ble_eq_true rfl) rfl ?_
  refine gg_aload_n dX10_laysCores_7 rfl rfl ?_
  refine gi_iconst dX10_laysCores_8 ?_
  refine gm_put85 rfl dX10_laysCores_9 (by (try simp only [uF_ss, uF_cc, id_eq, Nat.reduceLT, reduceCtorEq]); rfl) ?_
  refine gi_iconst dX10_laysCores_12 ?_
  refine gg_istore_n dX10_laysCores_13 (Nat.le_of_ble_eq_true rfl) rfl ?_
  have L_14 : ∀ (n9 : Nat) (k : Int), ((A 9 w - k).toNat) = n9 → ∀ (hk : 0 ≤ k ∧ k ≤ A 9 w), GG Γ M_X10_laysCores QF9 (0, 0) (mst Γ h (uF F 24 (wN (fun k => A 1 (A 8 w + k)) k.toNat)) (uA A 15 (wF (fun k => A 1 (A 8 w + k)) (A 15) k.toNat))) 14 [some (.ref (g_L Γ 0)), some (.int (iN w)), some (.int (iN (A 9 w))), some (.int (iN k))] [] := by
    intro n9
    induction n9 using Nat.strongRecOn with
    | ind n9 ih_14 => 
      intro k hm9 hk
      have hN := wN_r (fun k => A 1 (A 8 w + k)) k.toNat
      refine gg_iload_n dX10_laysCores_14 rfl ?_
      refine gg_iload_n dX10_laysCores_15 rfl ?_
      refine gi_icmp_ge (tgt := 78) dX10_laysCores_16 (by decide) ⟨by omega, by omega⟩ ⟨by omega, by omega⟩ (fun c_16 => ?_) (fun c_16 => ?_)
      · have ek : k = A 9 w := by omega
        subst ek
        refine gg_aload_n dX10_laysCores_78 rfl rfl ?_
        refine gm_get79 rfl dX10_laysCores_79 ?_
        refine gg_iload_n dX10_laysCores_82 rfl ?_
        refine gg_aload_n dX10_laysCores_83 rfl rfl ?_
        refine gg_iload_n dX10_laysCores_84 rfl ?_
        refine gg_iload_n dX10_laysCores_85 rfl ?_
        refine gi_iconst dX10_laysCores_86 ?_
        refine gi_isub dX10_laysCores_87 ?_
        refine gc_X10_243 rfl dX10_laysCores_88 ⟨(Nat.le_of_ble_eq_true rfl), (Nat.le_of_ble_eq_true rfl)⟩ ⟨(Nat.le_of_ble_eq_true rfl), (Nat.le_of_ble_eq_true rfl)⟩ (Nat.le_of_ble_eq_true rfl) (HAt.mu rfl) (c_X10_letter hw ⟨by simp only [uA_s, uA_n, uA_ss, uA_cc, id_eq, ne_eq, not_false_eq_true, Nat.reduceEqDiff, Nat.reduceLT, reduceCtorEq]; omega, by simp only [uA_s, uA_n, uA_ss, uA_cc, id_eq, ne_eq, not_false_eq_true, Nat.reduceEqDiff, Nat.reduceLT, reduceCtorEq]; omega⟩) (fun _ _ w => w.elim) (fun r_88 h_88 hp => ?_)
        obtain ⟨rfl, rfl⟩ := hp
        simp only [uA_s, uA_n, uA_ss, uA_cc, id_eq, ne_eq, not_false_eq_true, Nat.reduceEqDiff, Nat.reduceLT, reduceCtorEq]
        refine gc_X10_246 rfl dX10_laysCores_91 ⟨(Nat.le_of_ble_eq_true rfl), (Nat.le_of_ble_eq_true rfl)⟩ ⟨(Nat.le_of_ble_eq_true rfl), (Nat.le_of_ble_eq_true rfl)⟩ (Nat.le_of_ble_eq_true rfl) (c_X10_isVowel (s6 _)) (fun _ _ w => w.elim) (fun r_91 h_91 hp => ?_)
        obtain ⟨rfl, rfl⟩ := hp
        refine gm_zast dX10_laysCores_94 (by decide) rfl (by decide) ⟨by omega, by simp only [ml9]; omega⟩ (bi_01 _) (by (try simp only [uA_s, uA_n, uA_ss, uA_cc, id_eq, ne_eq, not_false_eq_true, Nat.reduceEqDiff, Nat.reduceLT, reduceCtorEq]); rfl) ?_
        refine gg_aload_n dX10_laysCores_95 rfl rfl ?_
        refine gg_aload_n dX10_laysCores_96 rfl rfl ?_
        refine gm_get85 rfl dX10_laysCores_97 (by (try simp only [uF_s, uF_n, ne_eq, not_false_eq_true, Nat.reduceEqDiff, reduceCtorEq]); rfl) ?_
        refine gi_iconst dX10_laysCores_100 ?_
        refine gi_icmp_le (tgt := 138) dX10_laysCores_101 (by decide) ⟨by omega, by omega⟩ ⟨by omega, by omega⟩ (fun c_101 => ?_) (fun c_101 => ?_)
        · refine gi_iconst dX10_laysCores_138 ?_
          refine gm_put88 rfl dX10_laysCores_139 (by omega) (by (try simp only [uF_ss, uF_cc, id_eq, Nat.reduceLT, reduceCtorEq]); rfl) ?_
          refine gg_aload_n dX10_laysCores_142 rfl rfl ?_
          refine gm_get88 rfl dX10_laysCores_143 (by (try simp only [uF_s, uF_n, ne_eq, not_false_eq_true, Nat.reduceEqDiff, reduceCtorEq]); rfl) ?_
          refine gi_if_eq (tgt := 166) dX10_laysCores_146 (by decide) ⟨by omega, by omega⟩ (fun c_146 => ?_) (fun c_146 => ?_)
          · refine gg_aload_n dX10_laysCores_166 rfl rfl ?_
            refine gm_get85 rfl dX10_laysCores_167 (by (try simp only [uF_s, uF_n, ne_eq, not_false_eq_true, Nat.reduceEqDiff, reduceCtorEq]); rfl) ?_
            refine gi_if_ne (tgt := 185) dX10_laysCores_170 (by decide) ⟨by omega, by omega⟩ (fun c_170 => ?_) (fun c_170 => ?_)
            · subst hQF9
              refine gg_vret dX10_laysCores_185 rfl ⟨(Nat.le_of_ble_eq_true rfl), (Nat.le_of_ble_eq_true rfl)⟩ ?_
              have hS : wS (fun k => A 1 (A 8 w + k)) (A 9 w) = false := by unfold wS; rw [decide_eq_false_iff_not]; rintro ⟨z1, z2, z3⟩; first | omega | (exact c_131 z3) | (exact c_118 (by rw [hin.1]; exact z2))
              refine ⟨rfl, ?_⟩
              unfold wC wE wA
              rw [hS]
              have b0 : bi false = 0 := rfl
              rw [if_neg c_170]
              simp [c_170, b0]
            · refine gg_aload_n dX10_laysCores_173 rfl rfl ?_
              refine gm_get91 rfl dX10_laysCores_174 ?_
              refine gi_iconst dX10_laysCores_177 ?_
              refine gi_iconst dX10_laysCores_178 ?_
              refine gm_iast dX10_laysCores_179 (by decide) rfl (by decide) ⟨by omega, by simp only [ml9]; omega⟩ (by (try simp only [uA_s, uA_n, uA_ss, uA_cc, id_eq, ne_eq, not_false_eq_true, Nat.reduceEqDiff, Nat.reduceLT, reduceCtorEq]); rfl) ?_
              refine gg_aload_n dX10_laysCores_180 rfl rfl ?_
              refine gi_iconst dX10_laysCores_181 ?_
              refine gm_put85 rfl dX10_laysCores_182 (by (try simp only [uF_ss, uF_cc, id_eq, Nat.reduceLT, reduceCtorEq]); rfl) ?_
              subst hQF9
              refine gg_vret dX10_laysCores_185 rfl ⟨(Nat.le_of_ble_eq_true rfl), (Nat.le_of_ble_eq_true rfl)⟩ ?_
              have hS : wS (fun k => A 1 (A 8 w + k)) (A 9 w) = false := by unfold wS; rw [decide_eq_false_iff_not]; rintro ⟨z1, z2, z3⟩; first | omega | (exact c_131 z3) | (exact c_118 (by rw [hin.1]; exact z2))
              refine ⟨rfl, ?_⟩
              unfold wC wE wA
              rw [hS]
              have b0 : bi false = 0 := rfl
              have hz := c_170
              rw [if_pos hz, wF_0 hz]
              simp [hz, b0]
          · exact absurd rfl c_146
        · have hin := wF_in (fun k => A 1 (A 8 w + k)) (A 15) (A 9 w).toNat (wN (fun k => A 1 (A 8 w + k)) (A 9 w).toNat - 1) (by omega) (by omega)
          refine gg_aload_n dX10_laysCores_104 rfl rfl ?_
          refine gm_get91 rfl dX10_laysCores_105 ?_
          refine gg_aload_n dX10_laysCores_108 rfl rfl ?_
          refine gm_get85 rfl dX10_laysCores_109 (by (try simp only [uF_s, uF_n, ne_eq, not_false_eq_true, Nat.reduceEqDiff, reduceCtorEq]); rfl) ?_
          refine gi_iconst dX10_laysCores_112 ?_
          refine gi_isub dX10_laysCores_113 ?_
          refine gm_iald dX10_laysCores_114 (by decide) rfl (by decide) ⟨by omega, by simp only [ml9]; omega⟩ (by (try simp only [uA_s, uA_n, ne_eq, not_false_eq_true, Nat.reduceEqDiff, reduceCtorEq]); rfl) ?_
          refine gg_iload_n dX10_laysCores_115 rfl ?_
          refine gi_iconst dX10_laysCores_116 ?_
          refine gi_isub dX10_laysCores_117 ?_
          refine gi_icmp_ne (tgt := 138) dX10_laysCores_118 (by decide) ⟨by omega, by omega⟩ ⟨by omega, by omega⟩ (fun c_118 => ?_) (fun c_118 => ?_)
          · refine gi_iconst dX10_laysCores_138 ?_
            refine gm_put88 rfl dX10_laysCores_139 (by omega) (by (try simp only [uF_ss, uF_cc, id_eq, Nat.reduceLT, reduceCtorEq]); rfl) ?_
            refine gg_aload_n dX10_laysCores_142 rfl rfl ?_
            refine gm_get88 rfl dX10_laysCores_143 (by (try simp only [uF_s, uF_n, ne_eq, not_false_eq_true, Nat.reduceEqDiff, reduceCtorEq]); rfl) ?_
            refine gi_if_eq (tgt := 166) dX10_laysCores_146 (by decide) ⟨by omega, by omega⟩ (fun c_146 => ?_) (fun c_146 => ?_)
            · refine gg_aload_n dX10_laysCores_166 rfl rfl ?_
              refine gm_get85 rfl dX10_laysCores_167 (by (try simp only [uF_s, uF_n, ne_eq, not_false_eq_true, Nat.reduceEqDiff, reduceCtorEq]); rfl) ?_
              refine gi_if_ne (tgt := 185) dX10_laysCores_170 (by decide) ⟨by omega, by omega⟩ (fun c_170 => ?_) (fun c_170 => ?_)
              · subst hQF9
                refine gg_vret dX10_laysCores_185 rfl ⟨(Nat.le_of_ble_eq_true rfl), (Nat.le_of_ble_eq_true rfl)⟩ ?_
                have hS : wS (fun k => A 1 (A 8 w + k)) (A 9 w) = false := by unfold wS; rw [decide_eq_false_iff_not]; rintro ⟨z1, z2, z3⟩; first | omega | (exact c_131 z3) | (exact c_118 (by rw [hin.1]; exact z2))
                refine ⟨rfl, ?_⟩
                unfold wC wE wA
                rw [hS]
                have b0 : bi false = 0 := rfl
                rw [if_neg c_170]
                simp [c_170, b0]
              · refine gg_aload_n dX10_laysCores_173 rfl rfl ?_
                refine gm_get91 rfl dX10_laysCores_174 ?_
                refine gi_iconst dX10_laysCores_177 ?_
                refine gi_iconst dX10_laysCores_178 ?_
                refine gm_iast dX10_laysCores_179 (by decide) rfl (by decide) ⟨by omega, by simp only [ml9]; omega⟩ (by (try simp only [uA_s, uA_n, uA_ss, uA_cc, id_eq, ne_eq, not_false_eq_true, Nat.reduceEqDiff, Nat.reduceLT, reduceCtorEq]); rfl) ?_
                refine gg_aload_n dX10_laysCores_180 rfl rfl ?_
                refine gi_iconst dX10_laysCores_181 ?_
                refine gm_put85 rfl dX10_laysCores_182 (by (try simp only [uF_ss, uF_cc, id_eq, Nat.reduceLT, reduceCtorEq]); rfl) ?_
                subst hQF9
                refine gg_vret dX10_laysCores_185 rfl ⟨(Nat.le_of_ble_eq_true rfl), (Nat.le_of_ble_eq_true rfl)⟩ ?_
                have hS : wS (fun k => A 1 (A 8 w + k)) (A 9 w) = false := by unfold wS; rw [decide_eq_false_iff_not]; rintro ⟨z1, z2, z3⟩; first | omega | (exact c_131 z3) | (exact c_118 (by rw [hin.1]; exact z2))
                refine ⟨rfl, ?_⟩
                unfold wC wE wA
                rw [hS]
                have b0 : bi false = 0 := rfl
                have hz := c_170
                rw [if_pos hz, wF_0 hz]
                simp [hz, b0]
            · exact absurd rfl c_146
          · refine gg_aload_n dX10_laysCores_121 rfl rfl ?_
            refine gg_iload_n dX10_laysCores_122 rfl ?_
            refine gg_iload_n dX10_laysCores_123 rfl ?_
            refine gi_iconst dX10_laysCores_124 ?_
            refine gi_isub dX10_laysCores_125 ?_
            refine gc_X10_243 rfl dX10_laysCores_126 ⟨(Nat.le_of_ble_eq_true rfl), (Nat.le_of_ble_eq_true rfl)⟩ ⟨(Nat.le_of_ble_eq_true rfl), (Nat.le_of_ble_eq_true rfl)⟩ (Nat.le_of_ble_eq_true rfl) (HAt.mu rfl) (c_X10_letter hw ⟨by simp only [uA_s, uA_n, uA_ss, uA_cc, id_eq, ne_eq, not_false_eq_true, Nat.reduceEqDiff, Nat.reduceLT, reduceCtorEq]; omega, by simp only [uA_s, uA_n, uA_ss, uA_cc, id_eq, ne_eq, not_false_eq_true, Nat.reduceEqDiff, Nat.reduceLT, reduceCtorEq]; omega⟩) (fun _ _ w => w.elim) (fun r_126 h_126 hp => ?_)
            obtain ⟨rfl, rfl⟩ := hp
            simp only [uA_s, uA_n, uA_ss, uA_cc, id_eq, ne_eq, not_false_eq_true, Nat.reduceEqDiff, Nat.reduceLT, reduceCtorEq]
            refine gi_bipush dX10_laysCores_129 (by decide) ?_
            refine gi_icmp_ne (tgt := 138) dX10_laysCores_131 (by decide) (s6 _) ⟨by omega, by omega⟩ (fun c_131 => ?_) (fun c_131 => ?_)
            · refine gi_iconst dX10_laysCores_138 ?_
              refine gm_put88 rfl dX10_laysCores_139 (by omega) (by (try simp only [uF_ss, uF_cc, id_eq, Nat.reduceLT, reduceCtorEq]); rfl) ?_
              refine gg_aload_n dX10_laysCores_142 rfl rfl ?_
              refine gm_get88 rfl dX10_laysCores_143 (by (try simp only [uF_s, uF_n, ne_eq, not_false_eq_true, Nat.reduceEqDiff, reduceCtorEq]); rfl) ?_
              refine gi_if_eq (tgt := 166) dX10_laysCores_146 (by decide) ⟨by omega, by omega⟩ (fun c_146 => ?_) (fun c_146 => ?_)
              · refine gg_aload_n dX10_laysCores_166 rfl rfl ?_
                refine gm_get85 rfl dX10_laysCores_167 (by (try simp only [uF_s, uF_n, ne_eq, not_false_eq_true, Nat.reduceEqDiff, reduceCtorEq]); rfl) ?_
                refine gi_if_ne (tgt := 185) dX10_laysCores_170 (by decide) ⟨by omega, by omega⟩ (fun c_170 => ?_) (fun c_170 => ?_)
                · subst hQF9
                  refine gg_vret dX10_laysCores_185 rfl ⟨(Nat.le_of_ble_eq_true rfl), (Nat.le_of_ble_eq_true rfl)⟩ ?_
                  have hS : wS (fun k => A 1 (A 8 w + k)) (A 9 w) = false := by unfold wS; rw [decide_eq_false_iff_not]; rintro ⟨z1, z2, z3⟩; first | omega | (exact c_131 z3) | (exact c_118 (by rw [hin.1]; exact z2))
                  refine ⟨rfl, ?_⟩
                  unfold wC wE wA
                  rw [hS]
                  have b0 : bi false = 0 := rfl
                  rw [if_neg c_170]
                  simp [c_170, b0]
                · refine gg_aload_n dX10_laysCores_173 rfl rfl ?_
                  refine gm_get91 rfl dX10_laysCores_174 ?_
                  refine gi_iconst dX10_laysCores_177 ?_
                  refine gi_iconst dX10_laysCores_178 ?_
                  refine gm_iast dX10_laysCores_179 (by decide) rfl (by decide) ⟨by omega, by simp only [ml9]; omega⟩ (by (try simp only [uA_s, uA_n, uA_ss, uA_cc, id_eq, ne_eq, not_false_eq_true, Nat.reduceEqDiff, Nat.reduceLT, reduceCtorEq]); rfl) ?_
                  refine gg_aload_n dX10_laysCores_180 rfl rfl ?_
                  refine gi_iconst dX10_laysCores_181 ?_
                  refine gm_put85 rfl dX10_laysCores_182 (by (try simp only [uF_ss, uF_cc, id_eq, Nat.reduceLT, reduceCtorEq]); rfl) ?_
                  subst hQF9
                  refine gg_vret dX10_laysCores_185 rfl ⟨(Nat.le_of_ble_eq_true rfl), (Nat.le_of_ble_eq_true rfl)⟩ ?_
                  have hS : wS (fun k => A 1 (A 8 w + k)) (A 9 w) = false := by unfold wS; rw [decide_eq_false_iff_not]; rintro ⟨z1, z2, z3⟩; first | omega | (exact c_131 z3) | (exact c_118 (by rw [hin.1]; exact z2))
                  refine ⟨rfl, ?_⟩
                  unfold wC wE wA
                  rw [hS]
                  have b0 : bi false = 0 := rfl
                  have hz := c_170
                  rw [if_pos hz, wF_0 hz]
                  simp [hz, b0]
              · exact absurd rfl c_146
            · refine gi_iconst dX10_laysCores_134 ?_
              refine gg_goto (tgt := 139) dX10_laysCores_135 (by decide) ?_
              refine gm_put88 rfl dX10_laysCores_139 (by omega) (by (try simp only [uF_ss, uF_cc, id_eq, Nat.reduceLT, reduceCtorEq]); rfl) ?_
              refine gg_aload_n dX10_laysCores_142 rfl rfl ?_
              refine gm_get88 rfl dX10_laysCores_143 (by (try simp only [uF_s, uF_n, ne_eq, not_false_eq_true, Nat.reduceEqDiff, reduceCtorEq]); rfl) ?_
              refine gi_if_eq (tgt := 166) dX10_laysCores_146 (by decide) ⟨by omega, by omega⟩ (fun c_146 => ?_) (fun c_146 => ?_)
              · exact absurd c_146 (by decide)
              · refine gg_aload_n dX10_laysCores_149 rfl rfl ?_
                refine gg_dup dX10_laysCores_150 rfl ?_
                refine gm_get85 rfl dX10_laysCores_151 (by (try simp only [uF_s, uF_n, ne_eq, not_false_eq_true, Nat.reduceEqDiff, reduceCtorEq]); rfl) ?_
                refine gi_iconst dX10_laysCores_154 ?_
                refine gi_isub dX10_laysCores_155 ?_
                refine gm_put85 rfl dX10_laysCores_156 (by (try simp only [uF_ss, uF_cc, id_eq, Nat.reduceLT, reduceCtorEq]); rfl) ?_
                refine gg_aload_n dX10_laysCores_159 rfl rfl ?_
                refine gm_get79 rfl dX10_laysCores_160 ?_
                refine gg_iload_n dX10_laysCores_163 rfl ?_
                refine gi_iconst dX10_laysCores_164 ?_
                refine gm_zast dX10_laysCores_165 (by decide) rfl (by decide) ⟨by omega, by simp only [ml9]; omega⟩ (by omega) (by (try simp only [uA_s, uA_n, uA_ss, uA_cc, id_eq, ne_eq, not_false_eq_true, Nat.reduceEqDiff, Nat.reduceLT, reduceCtorEq]); rfl) ?_
                refine gg_aload_n dX10_laysCores_166 rfl rfl ?_
                refine gm_get85 rfl dX10_laysCores_167 (by (try simp only [uF_s, uF_n, ne_eq, not_false_eq_true, Nat.reduceEqDiff, reduceCtorEq]); rfl) ?_
                refine gi_if_ne (tgt := 185) dX10_laysCores_170 (by decide) ⟨by omega, by omega⟩ (fun c_170 => ?_) (fun c_170 => ?_)
                · subst hQF9
                  refine gg_vret dX10_laysCores_185 rfl ⟨(Nat.le_of_ble_eq_true rfl), (Nat.le_of_ble_eq_true rfl)⟩ ?_
                  have hS : wS (fun k => A 1 (A 8 w + k)) (A 9 w) = true := by unfold wS; rw [decide_eq_true_iff]; exact ⟨by omega, by rw [← hin.1]; exact c_118, by rw [show A 8 w + (A 9 w - 1) = A 8 w + (A 9 w - 1) from rfl] at c_131; exact c_131⟩
                  refine ⟨rfl, ?_⟩
                  unfold wC wE wA
                  rw [hS]
                  have b0 : bi false = 0 := rfl
                  have nz : ¬ wN (fun k => A 1 (A 8 w + k)) (A 9 w).toNat = 0 := by omega
                  simp [up_up, b0, nz, show bi true = 1 from rfl]
                · refine gg_aload_n dX10_laysCores_173 rfl rfl ?_
                  refine gm_get91 rfl dX10_laysCores_174 ?_
                  refine gi_iconst dX10_laysCores_177 ?_
                  refine gi_iconst dX10_laysCores_178 ?_
                  refine gm_iast dX10_laysCores_179 (by decide) rfl (by decide) ⟨by omega, by simp only [ml9]; omega⟩ (by (try simp only [uA_s, uA_n, uA_ss, uA_cc, id_eq, ne_eq, not_false_eq_true, Nat.reduceEqDiff, Nat.reduceLT, reduceCtorEq]); rfl) ?_
                  refine gg_aload_n dX10_laysCores_180 rfl rfl ?_
                  refine gi_iconst dX10_laysCores_181 ?_
                  refine gm_put85 rfl dX10_laysCores_182 (by (try simp only [uF_ss, uF_cc, id_eq, Nat.reduceLT, reduceCtorEq]); rfl) ?_
                  subst hQF9
                  refine gg_vret dX10_laysCores_185 rfl ⟨(Nat.le_of_ble_eq_true rfl), (Nat.le_of_ble_eq_true rfl)⟩ ?_
                  exfalso; omega
      · have L_72 : ∀ (b9 : Bool) (hb9 : b9 = wR (fun k => A 1 (A 8 w + k)) k), GG Γ M_X10_laysCores QF9 (0, 0) (mst Γ h (uF F 24 (if b9 = true then wN (fun k => A 1 (A 8 w + k)) k.toNat + 1 else wN (fun k => A 1 (A 8 w + k)) k.toNat)) (uA A 15 (if b9 = true then up (wF (fun k => A 1 (A 8 w + k)) (A 15) k.toNat) (wN (fun k => A 1 (A 8 w + k)) k.toNat) k else wF (fun k => A 1 (A 8 w + k)) (A 15) k.toNat))) 72 [some (.ref (g_L Γ 0)), some (.int (iN w)), some (.int (iN (A 9 w))), some (.int (iN k))] [] := by
          intro b9 hb9
          refine gi_iinc dX10_laysCores_72 rfl (Nat.le_of_ble_eq_true rfl) rfl ?_
          refine gg_goto (tgt := 14) dX10_laysCores_75 (by decide) ?_
          refine gg_conv (ih_14 _ (by omega) (k + 1) rfl (by omega)) (by rw [wN_1 hk.1, wF_1 hk.1, hb9]) rfl rfl
        refine gg_aload_n dX10_laysCores_19 rfl rfl ?_
        refine gg_iload_n dX10_laysCores_20 rfl ?_
        refine gg_iload_n dX10_laysCores_21 rfl ?_
        refine gc_X10_243 rfl dX10_laysCores_22 ⟨(Nat.le_of_ble_eq_true rfl), (Nat.le_of_ble_eq_true rfl)⟩ ⟨(Nat.le_of_ble_eq_true rfl), (Nat.le_of_ble_eq_true rfl)⟩ (Nat.le_of_ble_eq_true rfl) (HAt.mu rfl) (c_X10_letter hw ⟨by simp only [uA_s, uA_n, uA_ss, uA_cc, id_eq, ne_eq, not_false_eq_true, Nat.reduceEqDiff, Nat.reduceLT, reduceCtorEq]; omega, by simp only [uA_s, uA_n, uA_ss, uA_cc, id_eq, ne_eq, not_false_eq_true, Nat.reduceEqDiff, Nat.reduceLT, reduceCtorEq]; omega⟩) (fun _ _ w => w.elim) (fun r_22 h_22 hp => ?_)
        obtain ⟨rfl, rfl⟩ := hp
        simp only [uA_s, uA_n, uA_ss, uA_cc, id_eq, ne_eq, not_false_eq_true, Nat.reduceEqDiff, Nat.reduceLT, reduceCtorEq]
        refine gc_X10_246 rfl dX10_laysCores_25 ⟨(Nat.le_of_ble_eq_true rfl), (Nat.le_of_ble_eq_true rfl)⟩ ⟨(Nat.le_of_ble_eq_true rfl), (Nat.le_of_ble_eq_true rfl)⟩ (Nat.le_of_ble_eq_true rfl) (c_X10_isVowel (s6 _)) (fun _ _ w => w.elim) (fun r_25 h_25 hp => ?_)
        obtain ⟨rfl, rfl⟩ := hp
        refine gi_if_eq (tgt := 72) dX10_laysCores_28 (by decide) (bi_r _) (fun c_28 => ?_) (fun c_28 => ?_)
        · rw [bi_f] at c_28
          refine L_72 false ?_; simp [wR, c_28]
        · rw [bi_t] at c_28
          refine gg_iload_n dX10_laysCores_31 rfl ?_
          refine gi_if_le (tgt := 52) dX10_laysCores_32 (by decide) ⟨by omega, by omega⟩ (fun c_32 => ?_) (fun c_32 => ?_)
          · refine gg_aload_n dX10_laysCores_52 rfl rfl ?_
            refine gm_get91 rfl dX10_laysCores_53 ?_
            refine gg_aload_n dX10_laysCores_56 rfl rfl ?_
            refine gm_get85 rfl dX10_laysCores_57 (by (try simp only [uF_s, uF_n, ne_eq, not_false_eq_true, Nat.reduceEqDiff, reduceCtorEq]); rfl) ?_
            refine gg_iload_n dX10_laysCores_60 rfl ?_
            refine gm_iast dX10_laysCores_61 (by decide) rfl (by decide) ⟨by omega, by simp only [ml9]; omega⟩ (by (try simp only [uA_s, uA_n, uA_ss, uA_cc, id_eq, ne_eq, not_false_eq_true, Nat.reduceEqDiff, Nat.reduceLT, reduceCtorEq]); rfl) ?_
            refine gg_aload_n dX10_laysCores_62 rfl rfl ?_
            refine gg_dup dX10_laysCores_63 rfl ?_
            refine gm_get85 rfl dX10_laysCores_64 (by (try simp only [uF_s, uF_n, ne_eq, not_false_eq_true, Nat.reduceEqDiff, reduceCtorEq]); rfl) ?_
            refine gi_iconst dX10_laysCores_67 ?_
            refine gi_iadd dX10_laysCores_68 ?_
            refine gm_put85 rfl dX10_laysCores_69 (by (try simp only [uF_ss, uF_cc, id_eq, Nat.reduceLT, reduceCtorEq]); rfl) ?_
            refine L_72 true ?_; have k0 : k = 0 := (by omega); subst k0; simp only [Int.add_zero] at c_28; simp [wR, c_28]
          · refine gg_aload_n dX10_laysCores_35 rfl rfl ?_
            refine gg_iload_n dX10_laysCores_36 rfl ?_
            refine gg_iload_n dX10_laysCores_37 rfl ?_
            refine gi_iconst dX10_laysCores_38 ?_
            refine gi_isub dX10_laysCores_39 ?_
            refine gc_X10_243 rfl dX10_laysCores_40 ⟨(Nat.le_of_ble_eq_true rfl), (Nat.le_of_ble_eq_true rfl)⟩ ⟨(Nat.le_of_ble_eq_true rfl), (Nat.le_of_ble_eq_true rfl)⟩ (Nat.le_of_ble_eq_true rfl) (HAt.mu rfl) (c_X10_letter hw ⟨by simp only [uA_s, uA_n, uA_ss, uA_cc, id_eq, ne_eq, not_false_eq_true, Nat.reduceEqDiff, Nat.reduceLT, reduceCtorEq]; omega, by simp only [uA_s, uA_n, uA_ss, uA_cc, id_eq, ne_eq, not_false_eq_true, Nat.reduceEqDiff, Nat.reduceLT, reduceCtorEq]; omega⟩) (fun _ _ w => w.elim) (fun r_40 h_40 hp => ?_)
            obtain ⟨rfl, rfl⟩ := hp
            simp only [uA_s, uA_n, uA_ss, uA_cc, id_eq, ne_eq, not_false_eq_true, Nat.reduceEqDiff, Nat.reduceLT, reduceCtorEq]
            refine gc_X10_246 rfl dX10_laysCores_43 ⟨(Nat.le_of_ble_eq_true rfl), (Nat.le_of_ble_eq_true rfl)⟩ ⟨(Nat.le_of_ble_eq_true rfl), (Nat.le_of_ble_eq_true rfl)⟩ (Nat.le_of_ble_eq_true rfl) (c_X10_isVowel (s6 _)) (fun _ _ w => w.elim) (fun r_43 h_43 hp => ?_)
            obtain ⟨rfl, rfl⟩ := hp
            refine gi_if_eq (tgt := 52) dX10_laysCores_46 (by decide) (bi_r _) (fun c_46 => ?_) (fun c_46 => ?_)
            · rw [bi_f] at c_46
              refine gg_aload_n dX10_laysCores_52 rfl rfl ?_
              refine gm_get91 rfl dX10_laysCores_53 ?_
              refine gg_aload_n dX10_laysCores_56 rfl rfl ?_
              refine gm_get85 rfl dX10_laysCores_57 (by (try simp only [uF_s, uF_n, ne_eq, not_false_eq_true, Nat.reduceEqDiff, reduceCtorEq]); rfl) ?_
              refine gg_iload_n dX10_laysCores_60 rfl ?_
              refine gm_iast dX10_laysCores_61 (by decide) rfl (by decide) ⟨by omega, by simp only [ml9]; omega⟩ (by (try simp only [uA_s, uA_n, uA_ss, uA_cc, id_eq, ne_eq, not_false_eq_true, Nat.reduceEqDiff, Nat.reduceLT, reduceCtorEq]); rfl) ?_
              refine gg_aload_n dX10_laysCores_62 rfl rfl ?_
              refine gg_dup dX10_laysCores_63 rfl ?_
              refine gm_get85 rfl dX10_laysCores_64 (by (try simp only [uF_s, uF_n, ne_eq, not_false_eq_true, Nat.reduceEqDiff, reduceCtorEq]); rfl) ?_
              refine gi_iconst dX10_laysCores_67 ?_
              refine gi_iadd dX10_laysCores_68 ?_
              refine gm_put85 rfl dX10_laysCores_69 (by (try simp only [uF_ss, uF_cc, id_eq, Nat.reduceLT, reduceCtorEq]); rfl) ?_
              refine L_72 true ?_; simp [wR, c_28, c_46]
            · rw [bi_t] at c_46
              refine gg_goto (tgt := 72) dX10_laysCores_49 (by decide) ?_
              refine L_72 false ?_; simp [wR, c_46]; omega
  refine gg_conv (L_14 _ 0 rfl (by omega)) (by simp [wN, wF, uA_id]) rfl rfl
def ExA (a : Int → Int) : Prop := ∀ e, 0 ≤ e → e < a 4 → (1 ≤ a (9 + 20 * e) ∧ a (9 + 20 * e) ≤ 12) ∧ (1 ≤ a (9 + 20 * e + 1 + 12) ∧ a (9 + 20 * e + 1 + 12) ≤ 6) ∧ ∀ k, 0 ≤ k → k < a (9 + 20 * e + 1 + 12) → 0 ≤ a (9 + 20 * e + 2 + 12 + k) ∧ a (9 + 20 * e + 2 + 12 + k) ≤ 2
set_option maxRecDepth 100000 in
set_option maxHeartbeats 4000000 in
theorem c_X10_laysMarks {Γ : GT} {h : XH} {F : Nat → Int} {A : Nat → Int → Int} (S : StA (A 1)) (E9 : ExA (A 1)) {w : Int} (hw : 0 ≤ w ∧ w ≤ 11) (hn : 1 ≤ A 9 w ∧ A 9 w ≤ 12) (hf : 0 ≤ A 8 w ∧ A 8 w + A 9 w ≤ 2609) (h24 : 1 ≤ F 24 ∧ F 24 ≤ 12) {mv : Int} (hmv : mv = if exO (A 1) (A 1) (A 8 w) (A 9 w) < 0 then F 24 else A 1 (9 + 20 * exO (A 1) (A 1) (A 8 w) (A 9 w) + 1 + 12)) : Ct Γ M_X10_laysMarks [.ref (g_L Γ 0), .int (iN w)] (mst Γ h F A) (fun r h9 => r = none ∧ h9 = mst Γ h F (uA (uA A 10 (up (A 10) w mv)) 11 (wrM (A 11) (12 * w) mv (mrk (A 1) (exO (A 1) (A 1) (A 8 w) (A 9 w)) mv)))) (fun _ _ => False) := by
  refine Ct.of rfl (by decide +kernel) (Nat.le_of_ble_eq_true rfl) ?_
  generalize hQF9 : QM Γ _ _ _ = QF9
  obtain ⟨s0, s1, s2, s3, s4, s5, s6⟩ := id S
  refine gg_aload_n dX10_laysMarks_0 rfl rfl ?_
  refine gg_aload_n dX10_laysMarks_1 rfl rfl ?_
  refine gm_get13 rfl dX10_laysMarks_2 ?_
  refine gg_aload_n dX10_laysMarks_5 rfl rfl ?_
  refine gm_get63 rfl dX10_laysMarks_6 ?_
  refine gg_iload_n dX10_laysMarks_9 rfl ?_
  refine gm_iald dX10_laysMarks_10 (by decide) rfl (by decide) ⟨by omega, by simp only [ml9]; omega⟩ (by (try simp only [uA_s, uA_n, ne_eq, not_false_eq_true, Nat.reduceEqDiff, reduceCtorEq]); rfl) ?_
  refine gg_aload_n dX10_laysMarks_11 rfl rfl ?_
  refine gm_get66 rfl dX10_laysMarks_12 ?_
  refine gg_iload_n dX10_laysMarks_15 rfl ?_
  refine gm_iald dX10_laysMarks_16 (by decide) rfl (by decide) ⟨by omega, by simp only [ml9]; omega⟩ (by (try simp only [uA_s, uA_n, ne_eq, not_false_eq_true, Nat.reduceEqDiff, reduceCtorEq]); rfl) ?_
  refine gc_X10_214 rfl dX10_laysMarks_17 ⟨(Nat.le_of_ble_eq_true rfl), (Nat.le_of_ble_eq_true rfl)⟩ ⟨(Nat.le_of_ble_eq_true rfl), (Nat.le_of_ble_eq_true rfl)⟩ (Nat.le_of_ble_eq_true rfl) (HAt.mu rfl) (c_X10_exceptionOf S (j := 1) (by decide) rfl (by decide) ⟨by omega, by omega⟩ ⟨by omega, by simp only [ml9]; omega⟩ s6) (fun _ _ w => w.elim) (fun r_17 h_17 hp => ?_)
  obtain ⟨rfl, rfl⟩ := hp
  have her := exO_r (a := A 1) (r := A 1) (fr := A 8 w) (n := A 9 w) (by omega)
  obtain ⟨ev, hev⟩ : ∃ ev, ev = exO (A 1) (A 1) (A 8 w) (A 9 w) := ⟨_, rfl⟩
  rw [← hev] at her hmv ⊢
  have L_46 : ∀  (hmr : 1 ≤ mv ∧ mv ≤ 12), GG Γ M_X10_laysMarks QF9 (0, 0) (mst Γ h F A) 46 [some (.ref (g_L Γ 0)), some (.int (iN w)), some (.int (iN ev)), none, none, none, none] [.int (iN mv)] := by
    intro  hmr
    refine gg_istore_n dX10_laysMarks_46 (Nat.le_of_ble_eq_true rfl) rfl ?_
    refine gg_aload_n dX10_laysMarks_47 rfl rfl ?_
    refine gm_get69 rfl dX10_laysMarks_48 ?_
    refine gg_iload_n dX10_laysMarks_51 rfl ?_
    refine gg_iload_n dX10_laysMarks_52 rfl ?_
    refine gm_iast dX10_laysMarks_53 (by decide) rfl (by decide) ⟨by omega, by simp only [ml9]; omega⟩ (by (try simp only [uA_s, uA_n, uA_ss, uA_cc, id_eq, ne_eq, not_false_eq_true, Nat.reduceEqDiff, Nat.reduceLT, reduceCtorEq]); rfl) ?_
    refine gi_iconst dX10_laysMarks_54 ?_
    refine gg_istore dX10_laysMarks_55 (Nat.le_of_ble_eq_true rfl) rfl ?_
    have L_57 : ∀ (n9 : Nat) (k : Int), ((mv - k).toNat) = n9 → ∀ (hk : 0 ≤ k ∧ k ≤ mv), GG Γ M_X10_laysMarks QF9 (0, 0) (mst Γ h F (uA (uA A 10 (up (A 10) w mv)) 11 (wrM (A 11) (12 * w) k (mrk (A 1) ev mv)))) 57 [some (.ref (g_L Γ 0)), some (.int (iN w)), some (.int (iN ev)), some (.int (iN mv)), some (.int (iN k)), none, none] [] := by
      intro n9
      induction n9 using Nat.strongRecOn with
      | ind n9 ih_57 => 
        intro k hm9 hk
        refine gg_iload dX10_laysMarks_57 rfl ?_
        refine gg_iload_n dX10_laysMarks_59 rfl ?_
        refine gi_icmp_ge (tgt := 160) dX10_laysMarks_60 (by decide) ⟨by omega, by omega⟩ ⟨by omega, by omega⟩ (fun c_60 => ?_) (fun c_60 => ?_)
        · subst hQF9
          refine gg_vret dX10_laysMarks_160 rfl ⟨(Nat.le_of_ble_eq_true rfl), (Nat.le_of_ble_eq_true rfl)⟩ ?_
          rw [show k = mv by omega, ← hev]
          exact ⟨rfl, rfl⟩
        · have L_114 : ∀ (v9 : Int) (hv9 : v9 = mkd mv k), GG Γ M_X10_laysMarks QF9 (0, 0) (mst Γ h F (uA (uA A 10 (up (A 10) w mv)) 11 (wrM (A 11) (12 * w) k (mrk (A 1) ev mv)))) 114 [some (.ref (g_L Γ 0)), some (.int (iN w)), some (.int (iN ev)), some (.int (iN mv)), some (.int (iN k)), some (.int (iN (mv - 1 - k))), none] [.int (iN v9)] := by
            intro v9 hv9
            refine gg_istore dX10_laysMarks_114 (Nat.le_of_ble_eq_true rfl) rfl ?_
            refine gg_aload_n dX10_laysMarks_116 rfl rfl ?_
            refine gm_get72 rfl dX10_laysMarks_117 ?_
            refine gi_bipush dX10_laysMarks_120 (by decide) ?_
            refine gg_iload_n dX10_laysMarks_122 rfl ?_
            refine gi_imul dX10_laysMarks_123 ?_
            refine gg_iload dX10_laysMarks_124 rfl ?_
            refine gi_iadd dX10_laysMarks_126 ?_
            refine gg_iload_n dX10_laysMarks_127 rfl ?_
            refine gi_if_ge (tgt := 136) dX10_laysMarks_128 (by decide) ⟨by omega, by omega⟩ (fun c_128 => ?_) (fun c_128 => ?_)
            · refine gg_aload_n dX10_laysMarks_136 rfl rfl ?_
              refine gm_get13 rfl dX10_laysMarks_137 ?_
              refine gg_iload_n dX10_laysMarks_140 rfl ?_
              refine gc_X10_211 rfl dX10_laysMarks_141 ⟨(Nat.le_of_ble_eq_true rfl), (Nat.le_of_ble_eq_true rfl)⟩ ⟨(Nat.le_of_ble_eq_true rfl), (Nat.le_of_ble_eq_true rfl)⟩ (Nat.le_of_ble_eq_true rfl) (c_X10_exceptionAt) (fun _ _ w => w.elim) (fun r_141 h_141 hp => ?_)
              obtain ⟨rfl, rfl⟩ := hp
              refine gi_iconst dX10_laysMarks_144 ?_
              refine gi_iadd dX10_laysMarks_145 ?_
              refine gi_bipush dX10_laysMarks_146 (by decide) ?_
              refine gi_iadd dX10_laysMarks_148 ?_
              refine gg_iload dX10_laysMarks_149 rfl ?_
              refine gi_iadd dX10_laysMarks_151 ?_
              refine gm_iald dX10_laysMarks_152 (by decide) rfl (by decide) ⟨by omega, by simp only [ml9]; omega⟩ (by (try simp only [uA_s, uA_n, ne_eq, not_false_eq_true, Nat.reduceEqDiff, reduceCtorEq]); rfl) ?_
              refine gm_iast dX10_laysMarks_153 (by decide) rfl (by decide) ⟨by omega, by simp only [ml9]; omega⟩ (by simp only [uA_s, uA_n, uA_ss, uA_cc, id_eq, ne_eq, not_false_eq_true, Nat.reduceEqDiff, Nat.reduceLT, reduceCtorEq]; first | rw [show v9 = mrk (A 1) ev mv k by rw [mrk, if_pos (by omega)]; exact hv9, wrM_1 hk.1] | rw [show A 1 (9 + 20 * ev + 2 + 12 + k) = mrk (A 1) ev mv k by rw [mrk, if_neg (by omega)], wrM_1 hk.1]) ?_
              refine gi_iinc dX10_laysMarks_154 rfl (Nat.le_of_ble_eq_true rfl) rfl ?_
              refine gg_goto (tgt := 57) dX10_laysMarks_157 (by decide) ?_
              refine gg_drop 5 ?_
              refine gg_drop 6 ?_
              exact ih_57 _ (by omega) (k + 1) rfl (by omega)
            · refine gg_iload dX10_laysMarks_131 rfl ?_
              refine gg_goto (tgt := 153) dX10_laysMarks_133 (by decide) ?_
              refine gm_iast dX10_laysMarks_153 (by decide) rfl (by decide) ⟨by omega, by simp only [ml9]; omega⟩ (by simp only [uA_s, uA_n, uA_ss, uA_cc, id_eq, ne_eq, not_false_eq_true, Nat.reduceEqDiff, Nat.reduceLT, reduceCtorEq]; first | rw [show v9 = mrk (A 1) ev mv k by rw [mrk, if_pos (by omega)]; exact hv9, wrM_1 hk.1] | rw [show A 1 (9 + 20 * ev + 2 + 12 + k) = mrk (A 1) ev mv k by rw [mrk, if_neg (by omega)], wrM_1 hk.1]) ?_
              refine gi_iinc dX10_laysMarks_154 rfl (Nat.le_of_ble_eq_true rfl) rfl ?_
              refine gg_goto (tgt := 57) dX10_laysMarks_157 (by decide) ?_
              refine gg_drop 5 ?_
              refine gg_drop 6 ?_
              exact ih_57 _ (by omega) (k + 1) rfl (by omega)
          refine gg_iload_n dX10_laysMarks_63 rfl ?_
          refine gi_iconst dX10_laysMarks_64 ?_
          refine gi_isub dX10_laysMarks_65 ?_
          refine gg_iload dX10_laysMarks_66 rfl ?_
          refine gi_isub dX10_laysMarks_68 ?_
          refine gg_istore dX10_laysMarks_69 (Nat.le_of_ble_eq_true rfl) rfl ?_
          refine gg_iload_n dX10_laysMarks_71 rfl ?_
          refine gi_iconst dX10_laysMarks_72 ?_
          refine gi_icmp_ne (tgt := 80) dX10_laysMarks_73 (by decide) ⟨by omega, by omega⟩ ⟨by omega, by omega⟩ (fun c_73 => ?_) (fun c_73 => ?_)
          · refine gg_iload_n dX10_laysMarks_80 rfl ?_
            refine gi_iconst dX10_laysMarks_81 ?_
            refine gi_icmp_ne (tgt := 92) dX10_laysMarks_82 (by decide) ⟨by omega, by omega⟩ ⟨by omega, by omega⟩ (fun c_82 => ?_) (fun c_82 => ?_)
            · refine gg_iload dX10_laysMarks_92 rfl ?_
              refine gi_iconst dX10_laysMarks_94 ?_
              refine gi_icmp_ne (tgt := 102) dX10_laysMarks_95 (by decide) ⟨by omega, by omega⟩ ⟨by omega, by omega⟩ (fun c_95 => ?_) (fun c_95 => ?_)
              · refine gg_iload dX10_laysMarks_102 rfl ?_
                refine gi_iconst dX10_laysMarks_104 ?_
                refine gi_irem dX10_laysMarks_105 ⟨by omega, by omega⟩ ⟨by omega, by omega⟩ ?_
                refine gi_if_ne (tgt := 113) dX10_laysMarks_106 (by decide) ⟨by omega, by omega⟩ (fun c_106 => ?_) (fun c_106 => ?_)
                · refine gi_iconst dX10_laysMarks_113 ?_
                  refine gg_drop 6 ?_
                  refine L_114 _ ?_; unfold mkd; rw [if_neg c_73, if_neg c_82, if_neg c_95, if_neg c_106]
                · refine gi_iconst dX10_laysMarks_109 ?_
                  refine gg_goto (tgt := 114) dX10_laysMarks_110 (by decide) ?_
                  refine gg_drop 6 ?_
                  refine L_114 _ ?_; unfold mkd; rw [if_neg c_73, if_neg c_82, if_neg c_95, if_pos c_106]
              · refine gi_iconst dX10_laysMarks_98 ?_
                refine gg_goto (tgt := 114) dX10_laysMarks_99 (by decide) ?_
                refine gg_drop 6 ?_
                refine L_114 _ ?_; unfold mkd; rw [if_neg c_73, if_neg c_82, if_pos c_95]
            · refine gi_iconst dX10_laysMarks_85 ?_
              refine gg_iload dX10_laysMarks_86 rfl ?_
              refine gi_imul dX10_laysMarks_88 ?_
              refine gg_goto (tgt := 114) dX10_laysMarks_89 (by decide) ?_
              refine gg_drop 6 ?_
              refine L_114 _ ?_; unfold mkd; rw [if_neg c_73, if_pos c_82]
          · refine gi_iconst dX10_laysMarks_76 ?_
            refine gg_goto (tgt := 114) dX10_laysMarks_77 (by decide) ?_
            refine gg_drop 6 ?_
            refine L_114 _ ?_; unfold mkd; rw [if_pos c_73]
    refine gg_drop 5 ?_
    refine gg_drop 6 ?_
    refine gg_conv (L_57 _ 0 rfl (by omega)) (by rw [wrM_0, uA_e (A := uA A 10 (up (A 10) w mv)) (k := 11) (by simp only [uA_s, uA_n, uA_ss, uA_cc, id_eq, ne_eq, not_false_eq_true, Nat.reduceEqDiff, Nat.reduceLT, reduceCtorEq])]) rfl rfl
  refine gg_istore_n dX10_laysMarks_20 (Nat.le_of_ble_eq_true rfl) rfl ?_
  refine gg_iload_n dX10_laysMarks_21 rfl ?_
  refine gi_if_ge (tgt := 32) dX10_laysMarks_22 (by decide) ⟨by omega, by omega⟩ (fun c_22 => ?_) (fun c_22 => ?_)
  · refine gg_aload_n dX10_laysMarks_32 rfl rfl ?_
    refine gm_get13 rfl dX10_laysMarks_33 ?_
    refine gg_iload_n dX10_laysMarks_36 rfl ?_
    refine gc_X10_211 rfl dX10_laysMarks_37 ⟨(Nat.le_of_ble_eq_true rfl), (Nat.le_of_ble_eq_true rfl)⟩ ⟨(Nat.le_of_ble_eq_true rfl), (Nat.le_of_ble_eq_true rfl)⟩ (Nat.le_of_ble_eq_true rfl) (c_X10_exceptionAt) (fun _ _ w => w.elim) (fun r_37 h_37 hp => ?_)
    obtain ⟨rfl, rfl⟩ := hp
    refine gi_iconst dX10_laysMarks_40 ?_
    refine gi_iadd dX10_laysMarks_41 ?_
    refine gi_bipush dX10_laysMarks_42 (by decide) ?_
    refine gi_iadd dX10_laysMarks_44 ?_
    refine gm_iald dX10_laysMarks_45 (by decide) rfl (by decide) ⟨by omega, by simp only [ml9]; omega⟩ (by (try simp only [uA_s, uA_n, ne_eq, not_false_eq_true, Nat.reduceEqDiff, reduceCtorEq]); rfl) ?_
    refine gg_drop 3 ?_
    refine gg_drop 4 ?_
    refine gg_drop 5 ?_
    refine gg_drop 6 ?_
    rw [if_neg (by omega)] at hmv
    obtain ⟨x1, x2, x3⟩ := E9 ev (by omega) (by omega)
    rw [← hmv]
    exact L_46 (by omega)
  · refine gg_aload_n dX10_laysMarks_25 rfl rfl ?_
    refine gm_get85 rfl dX10_laysMarks_26 (by (try simp only [uF_s, uF_n, ne_eq, not_false_eq_true, Nat.reduceEqDiff, reduceCtorEq]); rfl) ?_
    refine gg_goto (tgt := 46) dX10_laysMarks_29 (by decide) ?_
    refine gg_drop 3 ?_
    refine gg_drop 4 ?_
    refine gg_drop 5 ?_
    refine gg_drop 6 ?_
    rw [if_pos (by omega)] at hmv
    rw [← hmv]
    exact L_46 (by omega)
