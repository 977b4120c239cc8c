/-! the reference: exceptions and lines kept -/
def StA (a : Int → Int) : Prop := (0 ≤ a 0 ∧ a 0 ≤ 3) ∧ (2 ≤ a 1 ∧ a 1 ≤ 6) ∧ (0 ≤ a 2 ∧ a 2 < a 1) ∧ (0 ≤ a 3 ∧ a 3 ≤ 30) ∧ (0 ≤ a 4 ∧ a 4 ≤ 8) ∧ (∀ d, 0 ≤ d → d ≤ 3 → 0 ≤ a (5 + d) ∧ a (5 + d) ≤ 10) ∧ ∀ x, InR (a x)
def eqN (f g : Int → Int) : Nat → Bool
  | 0 => true
  | m + 1 => eqN f g m && decide (f m = g m)
theorem eqN_f {f g : Int → Int} {m n : Nat} (h : eqN f g m = false) (hn : m ≤ n) : eqN f g n = false := by
  induction n with
  | zero => rw [show m = 0 by omega] at h; exact h
  | succ n ih =>
    rcases Nat.lt_or_ge n m with q | q
    · rw [show n + 1 = m by omega]; exact h
    · rw [eqN, ih q]; rfl
theorem eqN_iff {f g : Int → Int} : ∀ {n : Nat}, eqN f g n = true ↔ ∀ k : Int, 0 ≤ k → k < n → f k = g k
  | 0 => by simp [eqN]; intros; omega
  | n + 1 => by
    rw [eqN, Bool.and_eq_true, eqN_iff (n := n), decide_eq_true_eq]
    constructor
    · intro h k h0 h1
      by_cases e : k = n
      · rw [e]; exact h.2
      · exact h.1 k h0 (by omega)
    · intro h
      exact ⟨fun k h0 h1 => h k h0 (by omega), h n (by omega) (by omega)⟩
/-- the exception e of the array a is for the n letters of r from fr on -/
def exE (a r : Int → Int) (fr n e : Int) : Bool := decide (a (9 + 20 * e) = n) && eqN (fun k => a (9 + 20 * e + 1 + k)) (fun k => r (fr + k)) n.toNat
def exF (a r : Int → Int) (fr n : Int) : Nat → Int → Int
  | 0, _ => -1
  | m + 1, e => if exE a r fr n e = true then e else exF a r fr n m (e + 1)
def exO (a r : Int → Int) (fr n : Int) : Int := exF a r fr n (a 4).toNat 0
theorem exF_r (a r : Int → Int) (fr n : Int) : ∀ (m : Nat) (e : Int), 0 ≤ e → exF a r fr n m e = -1 ∨ (e ≤ exF a r fr n m e ∧ exF a r fr n m e < e + m ∧ exE a r fr n (exF a r fr n m e) = true)
  | 0, e, h => Or.inl rfl
  | m + 1, e, h => by
    unfold exF
    by_cases q : exE a r fr n e = true
    · rw [if_pos q]; exact Or.inr ⟨by omega, by omega, q⟩
    · rw [if_neg q]
      rcases exF_r a r fr n m (e + 1) (by omega) with w | w
      · exact Or.inl w
      · exact Or.inr ⟨by omega, by omega, w.2.2⟩
theorem exO_r {a r : Int → Int} {fr n : Int} (h : 0 ≤ a 4) : exO a r fr n = -1 ∨ (0 ≤ exO a r fr n ∧ exO a r fr n < a 4) := by
  rcases exF_r a r fr n (a 4).toNat 0 (by omega) with w | w
  · exact Or.inl w
  · exact Or.inr ⟨w.1, by have := w.2.1; unfold exO; omega⟩
/-- down by s: the places lo .. hi - 1 take what stood s behind them -/
def shd (f : Int → Int) (lo hi s : Int) : Int → Int := fun j => if lo ≤ j ∧ j < hi then f (j + s) else f j
/-- up by s: the places lo + s .. hi + s - 1 take what stood s ahead of them -/
def shu (f : Int → Int) (lo hi s : Int) : Int → Int := fun j => if lo + s ≤ j ∧ j < hi + s then f (j - s) else f j
theorem shd_0 {f : Int → Int} {lo s : Int} : shd f lo lo s = f := by
  funext j; unfold shd; rw [if_neg (by omega)]
theorem shu_0 {f : Int → Int} {lo s : Int} : shu f lo lo s = f := by
  funext j; unfold shu; rw [if_neg (by omega)]
theorem shd_1 {f : Int → Int} {lo k s : Int} (h : lo ≤ k) (hs : 0 < s) : up (shd f lo k s) k (shd f lo k s (k + s)) = shd f lo (k + 1) s := by
  funext j
  unfold up shd
  by_cases e : j = k
  · subst e; rw [if_pos rfl, if_neg (by omega), if_pos (by omega)]
  · rw [if_neg e]
    by_cases q : lo ≤ j ∧ j < k
    · rw [if_pos q, if_pos (by omega)]
    · rw [if_neg q, if_neg (by omega)]
theorem shd_b {f : Int → Int} {lo k s : Int} (h : lo ≤ k) (hs : 0 < s) : cp (shd f lo k s) (shd f lo k s) (k + s) k s = shd f lo (k + s) s := by
  funext j
  unfold cp shd
  by_cases e : k ≤ j ∧ j < k + s
  · rw [if_pos e, if_neg (by omega), if_pos (by omega)]; congr 1; omega
  · rw [if_neg e]
    by_cases q : lo ≤ j ∧ j < k
    · rw [if_pos q, if_pos (by omega)]
    · rw [if_neg q, if_neg (by omega)]
theorem shu_b {f : Int → Int} {k hi s : Int} (h : k ≤ hi) (hs : 0 < s) : cp (shu f k hi s) (shu f k hi s) (k - s) k s = shu f (k - s) hi s := by
  funext j
  unfold cp shu
  by_cases e : k ≤ j ∧ j < k + s
  · rw [if_pos e, if_neg (by omega), if_pos (by omega)]; congr 1; omega
  · rw [if_neg e]
    by_cases q : k + s ≤ j ∧ j < hi + s
    · rw [if_pos q, if_pos (by omega)]
    · rw [if_neg q, if_neg (by omega)]
/-- a line laid at a place -/
def lyA (a inp : Int → Int) (n t k : Int) : Int → Int := fun j => if j = t then n else if t + 1 ≤ j ∧ j < t + 1 + k then (if j - (t + 1) < n then inp (j - (t + 1)) else 0) else a j
theorem lyA_s {a inp : Int → Int} {n t k : Int} (hk : 0 ≤ k) : up (lyA a inp n t k) (t + 1 + k) (if k < n then inp k else 0) = lyA a inp n t (k + 1) := by
  funext j
  unfold up lyA
  by_cases e : j = t + 1 + k
  · have e1 : ¬ j = t := by omega
    have e2 : t + 1 ≤ j ∧ j < t + 1 + (k + 1) := by omega
    have e3 : j - (t + 1) = k := by omega
    rw [if_pos e, if_neg e1, if_pos e2, e3]
  · rw [if_neg e]
    by_cases q : j = t
    · rw [if_pos q, if_pos q]
    · rw [if_neg q, if_neg q]
      by_cases q2 : t + 1 ≤ j ∧ j < t + 1 + k
      · have e2 : t + 1 ≤ j ∧ j < t + 1 + (k + 1) := by omega
        rw [if_pos q2, if_pos e2]
      · have e2 : ¬ (t + 1 ≤ j ∧ j < t + 1 + (k + 1)) := by omega
        rw [if_neg q2, if_neg e2]
theorem lyA_0 {a inp : Int → Int} {n t : Int} : lyA a inp n t 0 = up a t n := by
  funext j
  unfold up lyA
  by_cases q : j = t
  · rw [if_pos q, if_pos q]
  · rw [if_neg q, if_neg q, if_neg (by omega)]
set_option maxRecDepth 100000 in
set_option maxHeartbeats 4000000 in
theorem c_X10_exceptionAt {Γ : GT} {h : XH} {e : Int} : Ct Γ M_X10_exceptionAt [.int (iN e)] (h) (fun r h9 => r = some (.int (iN (9 + 20 * e))) ∧ h9 = h) (fun _ _ => False) := by
  refine Ct.of rfl (by decide +kernel) (Nat.le_of_ble_eq_true rfl) ?_
  generalize hQF9 : QM Γ _ _ _ = QF9
  refine gi_bipush dX10_exceptionAt_0 (by decide) ?_
  refine gi_bipush dX10_exceptionAt_2 (by decide) ?_
  refine gg_iload_n dX10_exceptionAt_4 rfl ?_
  refine gi_imul dX10_exceptionAt_5 ?_
  refine gi_iadd dX10_exceptionAt_6 ?_
  subst hQF9
  refine gg_iret dX10_exceptionAt_7 rfl rfl ⟨(Nat.le_of_ble_eq_true rfl), (Nat.le_of_ble_eq_true rfl)⟩ ?_
  exact ⟨rfl, rfl⟩
set_option maxRecDepth 100000 in
set_option maxHeartbeats 4000000 in
theorem c_X10_lineAt {Γ : GT} {h : XH} {d l : Int} : Ct Γ M_X10_lineAt [.int (iN d), .int (iN l)] (h) (fun r h9 => r = some (.int (iN (169 + 61 * (10 * d + l)))) ∧ h9 = h) (fun _ _ => False) := by
  refine Ct.of rfl (by decide +kernel) (Nat.le_of_ble_eq_true rfl) ?_
  generalize hQF9 : QM Γ _ _ _ = QF9
  refine gi_sipush dX10_lineAt_0 (by decide) ?_
  refine gi_bipush dX10_lineAt_3 (by decide) ?_
  refine gi_bipush dX10_lineAt_5 (by decide) ?_
  refine gg_iload_n dX10_lineAt_7 rfl ?_
  refine gi_imul dX10_lineAt_8 ?_
  refine gg_iload_n dX10_lineAt_9 rfl ?_
  refine gi_iadd dX10_lineAt_10 ?_
  refine gi_imul dX10_lineAt_11 ?_
  refine gi_iadd dX10_lineAt_12 ?_
  subst hQF9
  refine gg_iret dX10_lineAt_13 rfl rfl ⟨(Nat.le_of_ble_eq_true rfl), (Nat.le_of_ble_eq_true rfl)⟩ ?_
  exact ⟨rfl, rfl⟩
set_option maxRecDepth 100000 in
set_option maxHeartbeats 4000000 in
theorem c_X10_isDraft {Γ : GT} {h : XH} {d : Int} (hd : InR d) : Ct Γ M_X10_isDraft [.int (iN d)] (h) (fun r h9 => r = some (.int (iN (bi (decide (0 ≤ d) && decide (d ≤ 3))))) ∧ h9 = h) (fun _ _ => False) := by
  refine Ct.of rfl (by decide +kernel) (Nat.le_of_ble_eq_true rfl) ?_
  generalize hQF9 : QM Γ _ _ _ = QF9
  refine gg_iload_n dX10_isDraft_0 rfl ?_
  refine gi_iconst dX10_isDraft_1 ?_
  refine gi_iconst dX10_isDraft_2 ?_
  refine gc_X10_158 rfl dX10_isDraft_3 ⟨(Nat.le_of_ble_eq_true rfl), (Nat.le_of_ble_eq_true rfl)⟩ ⟨(Nat.le_of_ble_eq_true rfl), (Nat.le_of_ble_eq_true rfl)⟩ (Nat.le_of_ble_eq_true rfl) (c_X10_in hd ⟨by omega, by omega⟩ ⟨by omega, by omega⟩) (fun _ _ w => w.elim) (fun r_3 h_3 hp => ?_)
  obtain ⟨rfl, rfl⟩ := hp
  subst hQF9
  refine gg_iret dX10_isDraft_6 rfl (nar_bool (bi_01 _)) ⟨(Nat.le_of_ble_eq_true rfl), (Nat.le_of_ble_eq_true rfl)⟩ ?_
  exact ⟨rfl, rfl⟩
set_option maxRecDepth 100000 in
set_option maxHeartbeats 4000000 in
theorem c_X10_exceptionOf {Γ : GT} {h : XH} {F : Nat → Int} {A : Nat → Int → Int} (S : StA (A 1)) {j : Nat} {fr n : Int} (h1 : 1 ≤ j ∧ j ≤ 22) (k1 : mk9 j = 0) (n1 : ml9 j ≤ 20872) (hn : 0 ≤ n ∧ n ≤ 12) (hf : 0 ≤ fr ∧ fr + n ≤ ml9 j) (hj : ∀ x, InR (A j x)) : Ct Γ M_X10_exceptionOf [.ref (g_L Γ 0), .ref (g_L Γ j), .int (iN fr), .int (iN n)] (mst Γ h F A) (fun r h9 => r = some (.int (iN (exO (A 1) (A j) fr n))) ∧ h9 = mst Γ h F A) (fun _ _ => False) := by
  refine Ct.of rfl (by decide +kernel) (Nat.le_of_ble_eq_true rfl) ?_
  generalize hQF9 : QM Γ _ _ _ = QF9
  obtain ⟨s0, s1, s2, s3, s4, s5, s6⟩ := id S
  refine gi_iconst dX10_exceptionOf_0 ?_
  refine gg_istore dX10_exceptionOf_1 (Nat.le_of_ble_eq_true rfl) rfl ?_
  have L_3 : ∀ (n9 : Nat) (e : Int), ((A 1 4 - e).toNat) = n9 → ∀ (he : 0 ≤ e ∧ e ≤ A 1 4) (hx : exO (A 1) (A j) fr n = exF (A 1) (A j) fr n (A 1 4 - e).toNat e), GG Γ M_X10_exceptionOf QF9 (0, 0) (mst Γ h F A) 3 [some (.ref (g_L Γ 0)), some (.ref (g_L Γ j)), some (.int (iN fr)), some (.int (iN n)), some (.int (iN e)), none, none] [] := by
    intro n9
    induction n9 using Nat.strongRecOn with
    | ind n9 ih_3 => 
      intro e hm9 he hx
      refine gg_iload dX10_exceptionOf_3 rfl ?_
      refine gg_aload_n dX10_exceptionOf_5 rfl rfl ?_
      refine gm_get13 rfl dX10_exceptionOf_6 ?_
      refine gi_iconst dX10_exceptionOf_9 ?_
      refine gm_iald dX10_exceptionOf_10 (by decide) rfl (by decide) ⟨by omega, by simp only [ml9]; omega⟩ (by (try simp only [uA_s, uA_n, ne_eq, not_false_eq_true, Nat.reduceEqDiff, reduceCtorEq]); rfl) ?_
      refine gi_icmp_ge (tgt := 100) dX10_exceptionOf_11 (by decide) ⟨by omega, by omega⟩ ⟨by omega, by omega⟩ (fun c_11 => ?_) (fun c_11 => ?_)
      · refine gi_iconst dX10_exceptionOf_100 ?_
        subst hQF9
        refine gg_iret dX10_exceptionOf_101 rfl rfl ⟨(Nat.le_of_ble_eq_true rfl), (Nat.le_of_ble_eq_true rfl)⟩ ?_
        rw [hx, show (A 1 4 - e).toNat = 0 by omega]
        exact ⟨rfl, rfl⟩
      · have L_86 : ∀ (b : Bool) (hb : b = exE (A 1) (A j) fr n e), GG Γ M_X10_exceptionOf QF9 (0, 0) (mst Γ h F A) 86 [some (.ref (g_L Γ 0)), some (.ref (g_L Γ j)), some (.int (iN fr)), some (.int (iN n)), some (.int (iN e)), some (.int (iN (bi b))), none] [] := by
          intro b hb
          refine gg_iload dX10_exceptionOf_86 rfl ?_
          refine gi_if_eq (tgt := 94) dX10_exceptionOf_88 (by decide) (bi_r _) (fun c_88 => ?_) (fun c_88 => ?_)
          · rw [bi_f] at c_88
            refine gi_iinc dX10_exceptionOf_94 rfl (Nat.le_of_ble_eq_true rfl) rfl ?_
            refine gg_goto (tgt := 3) dX10_exceptionOf_97 (by decide) ?_
            refine gg_drop 5 ?_
            refine gg_drop 6 ?_
            rw [show (A 1 4 - e).toNat = (A 1 4 - (e + 1)).toNat + 1 by omega, exF, if_neg (by rw [← hb, c_88]; decide)] at hx
            exact ih_3 _ (by omega) (e + 1) rfl (by omega) hx
          · rw [bi_t] at c_88
            refine gg_iload dX10_exceptionOf_91 rfl ?_
            subst hQF9
            refine gg_iret dX10_exceptionOf_93 rfl rfl ⟨(Nat.le_of_ble_eq_true rfl), (Nat.le_of_ble_eq_true rfl)⟩ ?_
            rw [show (A 1 4 - e).toNat = (A 1 4 - (e + 1)).toNat + 1 by omega, exF, if_pos (by rw [← hb, c_88])] at hx
            rw [hx]; exact ⟨rfl, rfl⟩
        refine gg_aload_n dX10_exceptionOf_14 rfl rfl ?_
        refine gm_get13 rfl dX10_exceptionOf_15 ?_
        refine gg_iload dX10_exceptionOf_18 rfl ?_
        refine gc_X10_211 rfl dX10_exceptionOf_20 ⟨(Nat.le_of_ble_eq_true rfl), (Nat.le_of_ble_eq_true rfl)⟩ ⟨(Nat.le_of_ble_eq_true rfl), (Nat.le_of_ble_eq_true rfl)⟩ (Nat.le_of_ble_eq_true rfl) (c_X10_exceptionAt) (fun _ _ w => w.elim) (fun r_20 h_20 hp => ?_)
        obtain ⟨rfl, rfl⟩ := hp
        refine gm_iald dX10_exceptionOf_23 (by decide) rfl (by decide) ⟨by omega, by simp only [ml9]; omega⟩ (by (try simp only [uA_s, uA_n, ne_eq, not_false_eq_true, Nat.reduceEqDiff, reduceCtorEq]); rfl) ?_
        refine gg_iload_n dX10_exceptionOf_24 rfl ?_
        refine gi_icmp_ne (tgt := 32) dX10_exceptionOf_25 (by decide) (s6 _) ⟨by omega, by omega⟩ (fun c_25 => ?_) (fun c_25 => ?_)
        · refine gi_iconst dX10_exceptionOf_32 ?_
          refine gg_istore dX10_exceptionOf_33 (Nat.le_of_ble_eq_true rfl) rfl ?_
          refine gi_iconst dX10_exceptionOf_35 ?_
          refine gg_istore dX10_exceptionOf_36 (Nat.le_of_ble_eq_true rfl) rfl ?_
          have L_38 : ∀ (n9 : Nat) (k : Int), ((n - k).toNat) = n9 → ∀ (hk : 0 ≤ k ∧ k ≤ n), GG Γ M_X10_exceptionOf QF9 (0, 0) (mst Γ h F A) 38 [some (.ref (g_L Γ 0)), some (.ref (g_L Γ j)), some (.int (iN fr)), some (.int (iN n)), some (.int (iN e)), some (.int (iN (bi (decide (A 1 (9 + 20 * e) = n) && eqN (fun k => A 1 (9 + 20 * e + 1 + k)) (fun k => A j (fr + k)) k.toNat)))), some (.int (iN k))] [] := by
            intro n9
            induction n9 using Nat.strongRecOn with
            | ind n9 ih_38 => 
              intro k hm9 hk
              refine gg_iload dX10_exceptionOf_38 rfl ?_
              refine gg_iload_n dX10_exceptionOf_40 rfl ?_
              refine gi_icmp_ge (tgt := 86) dX10_exceptionOf_41 (by decide) ⟨by omega, by omega⟩ ⟨by omega, by omega⟩ (fun c_41 => ?_) (fun c_41 => ?_)
              · refine gg_drop 6 ?_
                refine L_86 _ ?_; rw [show k = n by omega]; rfl
              · refine gg_iload dX10_exceptionOf_44 rfl ?_
                refine gi_if_eq (tgt := 86) dX10_exceptionOf_46 (by decide) (bi_r _) (fun c_46 => ?_) (fun c_46 => ?_)
                · rw [bi_f] at c_46
                  refine gg_drop 6 ?_
                  refine L_86 _ ?_
                  unfold exE
                  rw [c_46]
                  rw [Bool.and_eq_false_iff] at c_46
                  rcases c_46 with q | q
                  · rw [q]; rfl
                  · rw [eqN_f q (by omega)]; simp
                · rw [bi_t] at c_46
                  refine gg_aload_n dX10_exceptionOf_49 rfl rfl ?_
                  refine gm_get13 rfl dX10_exceptionOf_50 ?_
                  refine gg_iload dX10_exceptionOf_53 rfl ?_
                  refine gc_X10_211 rfl dX10_exceptionOf_55 ⟨(Nat.le_of_ble_eq_true rfl), (Nat.le_of_ble_eq_true rfl)⟩ ⟨(Nat.le_of_ble_eq_true rfl), (Nat.le_of_ble_eq_true rfl)⟩ (Nat.le_of_ble_eq_true rfl) (c_X10_exceptionAt) (fun _ _ w => w.elim) (fun r_55 h_55 hp => ?_)
                  obtain ⟨rfl, rfl⟩ := hp
                  refine gi_iconst dX10_exceptionOf_58 ?_
                  refine gi_iadd dX10_exceptionOf_59 ?_
                  refine gg_iload dX10_exceptionOf_60 rfl ?_
                  refine gi_iadd dX10_exceptionOf_62 ?_
                  refine gm_iald dX10_exceptionOf_63 (by decide) rfl (by decide) ⟨by omega, by simp only [ml9]; omega⟩ (by (try simp only [uA_s, uA_n, ne_eq, not_false_eq_true, Nat.reduceEqDiff, reduceCtorEq]); rfl) ?_
                  refine gg_aload_n dX10_exceptionOf_64 rfl rfl ?_
                  refine gg_iload_n dX10_exceptionOf_65 rfl ?_
                  refine gg_iload dX10_exceptionOf_66 rfl ?_
                  refine gi_iadd dX10_exceptionOf_68 ?_
                  refine gm_iald dX10_exceptionOf_69 h1 k1 n1 ⟨by omega, by omega⟩ (by (try simp only [uA_s, uA_n, ne_eq, not_false_eq_true, Nat.reduceEqDiff, reduceCtorEq]); rfl) ?_
                  refine gi_icmp_ne (tgt := 77) dX10_exceptionOf_70 (by decide) (s6 _) (hj _) (fun c_70 => ?_) (fun c_70 => ?_)
                  · refine gi_iconst dX10_exceptionOf_77 ?_
                    refine gg_istore dX10_exceptionOf_78 (Nat.le_of_ble_eq_true rfl) rfl ?_
                    refine gi_iinc dX10_exceptionOf_80 rfl (Nat.le_of_ble_eq_true rfl) rfl ?_
                    refine gg_goto (tgt := 38) dX10_exceptionOf_83 (by decide) ?_
                    have hs : (k + 1).toNat = k.toNat + 1 := by omega
                    refine gg_conv (ih_38 _ (by omega) (k + 1) rfl (by omega)) rfl ?_ rfl
                    rw [hs]; simp only [eqN, Int.toNat_of_nonneg hk.1]; simp_all [lset, bi]
                  · refine gi_iconst dX10_exceptionOf_73 ?_
                    refine gg_goto (tgt := 78) dX10_exceptionOf_74 (by decide) ?_
                    refine gg_istore dX10_exceptionOf_78 (Nat.le_of_ble_eq_true rfl) rfl ?_
                    refine gi_iinc dX10_exceptionOf_80 rfl (Nat.le_of_ble_eq_true rfl) rfl ?_
                    refine gg_goto (tgt := 38) dX10_exceptionOf_83 (by decide) ?_
                    have hs : (k + 1).toNat = k.toNat + 1 := by omega
                    refine gg_conv (ih_38 _ (by omega) (k + 1) rfl (by omega)) rfl ?_ rfl
                    rw [hs]; simp only [eqN, Int.toNat_of_nonneg hk.1]; simp_all [lset, bi]
          refine gg_conv (L_38 _ 0 rfl (by omega)) rfl (by simp [lset, eqN, bi, c_25]) rfl
        · refine gi_iconst dX10_exceptionOf_28 ?_
          refine gg_goto (tgt := 33) dX10_exceptionOf_29 (by decide) ?_
          refine gg_istore dX10_exceptionOf_33 (Nat.le_of_ble_eq_true rfl) rfl ?_
          refine gi_iconst dX10_exceptionOf_35 ?_
          refine gg_istore dX10_exceptionOf_36 (Nat.le_of_ble_eq_true rfl) rfl ?_
          have L_38 : ∀ (n9 : Nat) (k : Int), ((n - k).toNat) = n9 → ∀ (hk : 0 ≤ k ∧ k ≤ n), GG Γ M_X10_exceptionOf QF9 (0, 0) (mst Γ h F A) 38 [some (.ref (g_L Γ 0)), some (.ref (g_L Γ j)), some (.int (iN fr)), some (.int (iN n)), some (.int (iN e)), some (.int (iN (bi (decide (A 1 (9 + 20 * e) = n) && eqN (fun k => A 1 (9 + 20 * e + 1 + k)) (fun k => A j (fr + k)) k.toNat)))), some (.int (iN k))] [] := by
            intro n9
            induction n9 using Nat.strongRecOn with
            | ind n9 ih_38 => 
              intro k hm9 hk
              refine gg_iload dX10_exceptionOf_38 rfl ?_
              refine gg_iload_n dX10_exceptionOf_40 rfl ?_
              refine gi_icmp_ge (tgt := 86) dX10_exceptionOf_41 (by decide) ⟨by omega, by omega⟩ ⟨by omega, by omega⟩ (fun c_41 => ?_) (fun c_41 => ?_)
              · refine gg_drop 6 ?_
                refine L_86 _ ?_; rw [show k = n by omega]; rfl
              · refine gg_iload dX10_exceptionOf_44 rfl ?_
                refine gi_if_eq (tgt := 86) dX10_exceptionOf_46 (by decide) (bi_r _) (fun c_46 => ?_) (fun c_46 => ?_)
                · rw [bi_f] at c_46
                  refine gg_drop 6 ?_
                  refine L_86 _ ?_
                  unfold exE
                  rw [c_46]
                  rw [Bool.and_eq_false_iff] at c_46
                  rcases c_46 with q | q
                  · rw [q]; rfl
                  · rw [eqN_f q (by omega)]; simp
                · rw [bi_t] at c_46
                  refine gg_aload_n dX10_exceptionOf_49 rfl rfl ?_
                  refine gm_get13 rfl dX10_exceptionOf_50 ?_
                  refine gg_iload dX10_exceptionOf_53 rfl ?_
                  refine gc_X10_211 rfl dX10_exceptionOf_55 ⟨(Nat.le_of_ble_eq_true rfl), (Nat.le_of_ble_eq_true rfl)⟩ ⟨(Nat.le_of_ble_eq_true rfl), (Nat.le_of_ble_eq_true rfl)⟩ (Nat.le_of_ble_eq_true rfl) (c_X10_exceptionAt) (fun _ _ w => w.elim) (fun r_55 h_55 hp => ?_)
                  obtain ⟨rfl, rfl⟩ := hp
                  refine gi_iconst dX10_exceptionOf_58 ?_
                  refine gi_iadd dX10_exceptionOf_59 ?_
                  refine gg_iload dX10_exceptionOf_60 rfl ?_
                  refine gi_iadd dX10_exceptionOf_62 ?_
                  refine gm_iald dX10_exceptionOf_63 (by decide) rfl (by decide) ⟨by omega, by simp only [ml9]; omega⟩ (by (try simp only [uA_s, uA_n, ne_eq, not_false_eq_true, Nat.reduceEqDiff, reduceCtorEq]); rfl) ?_
                  refine gg_aload_n dX10_exceptionOf_64 rfl rfl ?_
                  refine gg_iload_n dX10_exceptionOf_65 rfl ?_
                  refine gg_iload dX10_exceptionOf_66 rfl ?_
                  refine gi_iadd dX10_exceptionOf_68 ?_
                  refine gm_iald dX10_exceptionOf_69 h1 k1 n1 ⟨by omega, by omega⟩ (by (try simp only [uA_s, uA_n, ne_eq, not_false_eq_true, Nat.reduceEqDiff, reduceCtorEq]); rfl) ?_
                  refine gi_icmp_ne (tgt := 77) dX10_exceptionOf_70 (by decide) (s6 _) (hj _) (fun c_70 => ?_) (fun c_70 => ?_)
                  · refine gi_iconst dX10_exceptionOf_77 ?_
                    refine gg_istore dX10_exceptionOf_78 (Nat.le_of_ble_eq_true rfl) rfl ?_
                    refine gi_iinc dX10_exceptionOf_80 rfl (Nat.le_of_ble_eq_true rfl) rfl ?_
                    refine gg_goto (tgt := 38) dX10_exceptionOf_83 (by decide) ?_
                    have hs : (k + 1).toNat = k.toNat + 1 := by omega
                    refine gg_conv (ih_38 _ (by omega) (k + 1) rfl (by omega)) rfl ?_ rfl
                    rw [hs]; simp only [eqN, Int.toNat_of_nonneg hk.1]; simp_all [lset, bi]
                  · refine gi_iconst dX10_exceptionOf_73 ?_
                    refine gg_goto (tgt := 78) dX10_exceptionOf_74 (by decide) ?_
                    refine gg_istore dX10_exceptionOf_78 (Nat.le_of_ble_eq_true rfl) rfl ?_
                    refine gi_iinc dX10_exceptionOf_80 rfl (Nat.le_of_ble_eq_true rfl) rfl ?_
                    refine gg_goto (tgt := 38) dX10_exceptionOf_83 (by decide) ?_
                    have hs : (k + 1).toNat = k.toNat + 1 := by omega
                    refine gg_conv (ih_38 _ (by omega) (k + 1) rfl (by omega)) rfl ?_ rfl
                    rw [hs]; simp only [eqN, Int.toNat_of_nonneg hk.1]; simp_all [lset, bi]
          refine gg_conv (L_38 _ 0 rfl (by omega)) rfl (by simp [lset, eqN, bi, c_25]) rfl
  refine gg_drop 5 ?_
  refine gg_drop 6 ?_
  exact L_3 _ 0 rfl (by omega) (by unfold exO; rw [Int.sub_zero])
