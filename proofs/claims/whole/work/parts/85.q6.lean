/-! the sets of elisions -/
theorem zb_01 {z : Int} {w : Nat} : bi (zb z w) = z / 2 ^ w % 2 := by
  have h1 := Int.emod_nonneg (z / 2 ^ w) (show (2 : Int) ≠ 0 by decide)
  have h2 := Int.emod_lt_of_pos (z / 2 ^ w) (show (0 : Int) < 2 by decide)
  unfold zb
  by_cases q : z / 2 ^ w % 2 = 1
  · rw [decide_eq_true q, q]; rfl
  · rw [decide_eq_false q]; simp [bi]; omega
theorem alw_iff {e : Int → Bool} {s : Int → Int} {z : Int} : ∀ n : Nat, alw e s z n = true ↔ ∀ k : Nat, k < n → zb z k = true → e k = true ∧ ¬ (ebf z k = true ∧ s k = 1)
  | 0 => by simp [alw]
  | n + 1 => by
    constructor
    · intro h k hk hz
      exact alw_at (alw_le (n + 1) (by omega) h) hz
    · intro h
      rw [alw, (alw_iff n).mpr (fun k hk => h k (by omega)), Bool.true_and, ebf_d]
      by_cases c : zb z n = true
      · obtain ⟨h1, h2⟩ := h n (by omega) c
        have : elE e s n (ebf z n) = true := by
          unfold elE
          rw [h1, Bool.true_and, Bool.not_eq_true', Bool.and_eq_false_iff]
          by_cases q : ebf z n = true
          · right; rw [decide_eq_false_iff_not]; exact fun q2 => h2 ⟨q, q2⟩
          · left; cases q3 : ebf z n <;> simp_all
        rw [this]; simp
      · have : zb z n = false := by cases q : zb z n <;> simp_all
        unfold zb at this
        rw [this]; rfl
theorem oks_iff {A : Nat → Int → Int} {z : Int} : ∀ n : Nat, oks A z n = true ↔ ∀ k : Nat, k < n → ¬ (1 ≤ (k : Int) ∧ A 10 k = 1 ∧ z / 2 ^ (k - 1) % 4 = 3)
  | 0 => by simp [oks]
  | n + 1 => by
    rw [oks, Bool.and_eq_true, oks_iff n, Bool.not_eq_true', decide_eq_false_iff_not]
    constructor
    · intro h k hk
      by_cases q : k = n
      · subst q; exact h.2
      · exact h.1 k (by omega)
    · intro h
      exact ⟨fun k hk => h k (by omega), h n (by omega)⟩
theorem mod4 {z : Int} {k : Nat} (hk : 1 ≤ k) : z / 2 ^ (k - 1) % 4 = 3 ↔ ebf z k = true ∧ zb z k = true := by
  obtain ⟨d, rfl⟩ : ∃ d, k = d + 1 := ⟨k - 1, by omega⟩
  rw [show d + 1 - 1 = d by omega, show ebf z (d + 1) = zb z d from rfl]
  unfold zb
  rw [decide_eq_true_iff, decide_eq_true_iff, Int.pow_succ, ← Int.ediv_ediv_of_nonneg (by exact Int.le_of_lt (Int.pow_pos (by decide)))]
  omega
theorem pl_tb {e : Int → Bool} {L k : Nat} : Nat.testBit (plN e L) k = (decide (k < L) && e k) := by
  rw [Nat.testBit_eq_decide_div_mod_eq]
  by_cases c : k < L
  · have := plN_bit (e9 := e) c
    rw [decide_eq_true c, Bool.true_and]
    have h2 : (plN e L / 2 ^ k % 2 : Nat) = (bi (e k)).toNat := by
      have h3 : ((plN e L / 2 ^ k % 2 : Nat) : Int) = bi (e k) := by rw [← this]; push_cast; rfl
      rw [← h3]; rfl
    rw [h2]
    cases e k <;> simp [bi]
  · have h1 := plN_lt e L
    have h2 : 2 ^ L ≤ 2 ^ k := Nat.pow_le_pow_right (by decide) (by omega)
    rw [decide_eq_false c, Bool.false_and, decide_eq_false_iff_not, Nat.div_eq_of_lt (by omega)]
    decide
theorem zb_tb {z k : Nat} : zb (z : Int) k = Nat.testBit z k := by
  unfold zb
  rw [Nat.testBit_eq_decide_div_mod_eq]
  congr 1
  apply propext
  have : ((z / 2 ^ k % 2 : Nat) : Int) = (z : Int) / 2 ^ k % 2 := by push_cast; rfl
  omega
theorem sbm_iff {e : Int → Bool} {L z : Nat} : sbm (z : Int) (plN e L : Nat) = true ↔ z < 2 ^ L ∧ ∀ k : Nat, k < L → zb (z : Int) k = true → e k = true := by
  unfold sbm
  rw [decide_eq_true_iff, Int.toNat_natCast, Int.toNat_natCast]
  constructor
  · intro ⟨_, h⟩
    have h1 : z ≤ plN e L := by rw [← h]; exact Nat.and_le_right
    have h2 := plN_lt e L
    refine ⟨by omega, fun k hk hz => ?_⟩
    rw [zb_tb, ← h, Nat.testBit_and, pl_tb, Bool.and_eq_true, Bool.and_eq_true] at hz
    exact hz.2.2
  · intro ⟨h1, h2⟩
    refine ⟨by omega, Nat.eq_of_testBit_eq (fun k => ?_)⟩
    rw [Nat.testBit_and, pl_tb]
    cases c : Nat.testBit z k
    · rfl
    · rw [Bool.true_and]
      by_cases q : k < L
      · rw [decide_eq_true q, h2 k q (by rw [zb_tb]; exact c)]; rfl
      · have h3 : 2 ^ L ≤ 2 ^ k := Nat.pow_le_pow_right (by decide) (by omega)
        rw [Nat.testBit_lt_two_pow (by omega)] at c
        cases c
theorem pls_D {F : Nat → Int} {A : Nat → Int → Int} {D : DT} (K : LK F A D) : pls F A = (plN (dE D) (dL D).toNat : Nat) := by
  unfold pls
  rw [K.1]
  congr 1
  exact plN_cg _ (fun i i0 i1 => (K.2.2.1 i i0 (by have := K.2.1; omega)).2.2.2.1)
theorem are_D {F : Nat → Int} {A : Nat → Int → Int} {D : DT} (K : LK F A D) {z : Nat} : are F A z = true ↔ z < 2 ^ (dL D).toNat ∧ alw (dE D) (dS D) z (dL D).toNat = true := by
  unfold are
  rw [Bool.and_eq_true, pls_D K, sbm_iff, K.1, alw_iff, oks_iff]
  have hL := K.2.1
  have hA : ∀ k : Nat, k < (dL D).toNat → A 10 k = dS D k := fun k hk => (K.2.2.1 k (by omega) (by omega)).2.1
  constructor
  · intro ⟨⟨h1, h2⟩, h3⟩
    refine ⟨h1, fun k hk hz => ⟨h2 k hk hz, fun hq => ?_⟩⟩
    have := (ebf_i.mp hq.1).1
    exact h3 k hk ⟨by omega, by rw [hA k hk]; exact hq.2, (mod4 (by omega)).mpr ⟨hq.1, hz⟩⟩
  · intro ⟨h1, h2⟩
    refine ⟨⟨h1, fun k hk hz => (h2 k hk hz).1⟩, fun k hk hq => ?_⟩
    obtain ⟨q1, q2, q3⟩ := hq
    obtain ⟨m1, m2⟩ := (mod4 (by omega)).mp q3
    exact (h2 k hk m2).2 ⟨m1, by rw [← hA k hk]; exact q2⟩
theorem alS_D {F : Nat → Int} {A : Nat → Int → Int} {D : DT} (K : LK F A D) {z : Int} : alS (dE D) (dS D) (dL D) z = are F A z := by
  by_cases c : 0 ≤ z
  · obtain ⟨n, rfl⟩ := Int.eq_ofNat_of_zero_le c
    have h := are_D K (z := n)
    unfold alS
    by_cases q : are F A n = true
    · rw [q]
      obtain ⟨h1, h2⟩ := h.mp q
      rw [h2, Bool.and_true, sbm_iff]
      exact ⟨h1, fun k hk hz => ((alw_iff _).mp h2 k hk hz).1⟩
    · have q2 : are F A n = false := by cases q3 : are F A n <;> simp_all
      rw [q2]
      cases q3 : sbm (n : Int) (plN (dE D) (dL D).toNat : Nat) && alw (dE D) (dS D) n (dL D).toNat
      · rfl
      · exfalso; apply q
        rw [Bool.and_eq_true] at q3
        exact h.mpr ⟨(sbm_iff.mp q3.1).1, q3.2⟩
  · unfold alS are sbm
    rw [decide_eq_false (fun q => c q.1), decide_eq_false (fun q => c q.1)]; rfl
theorem lt_half {z w : Nat} (h : z < 2 ^ (w + 1)) (hz : zb (z : Int) w = false) : z < 2 ^ w := by
  by_cases c : z < 2 ^ w
  · exact c
  · exfalso
    have e : z = (z - 2 ^ w) + 2 ^ w := by omega
    have h2 : z - 2 ^ w < 2 ^ w := by rw [Nat.pow_succ] at h; omega
    have := (zb_hi h2).2
    rw [← e, hz] at this; cases this
theorem z_lt {F : Nat → Int} {A : Nat → Int → Int} {D : DT} (K : LK F A D) {z : Nat} (h : z < 2 ^ (dL D).toNat) (ha : alw (dE D) (dS D) z (dL D).toNat = true) : z < 2048 := by
  have hL := K.2.1
  obtain ⟨w, hw⟩ : ∃ w, (dL D).toNat = w + 1 := ⟨(dL D).toNat - 1, by omega⟩
  have he := ebf_end K ha
  rw [hw] at h he
  have := lt_half h he
  have : 2 ^ w ≤ 2 ^ 11 := Nat.pow_le_pow_right (by decide) (by omega)
  omega
theorem btc_hi {z w : Nat} (h : z < 2 ^ w) : ∀ d : Nat, btc (z : Int) (w + d) = btc (z : Int) w
  | 0 => rfl
  | d + 1 => by
    rw [← Nat.add_assoc, btc, btc_hi h d]
    have h2 : 2 ^ w ≤ 2 ^ (w + d) := Nat.pow_le_pow_right (by decide) (by omega)
    rw [(bit_hi (show z < 2 ^ (w + d) by omega)).1, Int.add_zero]
theorem btc_12 {D : DT} (hL : 1 ≤ dL D ∧ dL D ≤ 12) {z : Nat} (h : z < 2 ^ (dL D).toNat) : btc (z : Int) 12 = btc (z : Int) (dL D).toNat := by
  have := btc_hi h (12 - (dL D).toNat)
  rwa [show (dL D).toNat + (12 - (dL D).toNat) = 12 by omega] at this
/-- no set has more elisions than the one that takes each as soon as it can -/
theorem grd_up {e : Int → Bool} {s : Int → Int} {z : Int} : ∀ w : Nat, alw e s z w = true → btc z w ≤ (grd e s w).1 ∧ (btc z w = (grd e s w).1 → (grd e s w).2 = true → ebf z w = true)
  | 0, _ => by simp [btc, grd]
  | w + 1, h => by
    obtain ⟨h1, h2⟩ := grd_up w (alw_le (w + 1) (by omega) h)
    rw [btc_s, grd, show ebf z (w + 1) = zb z w from rfl]
    dsimp only
    have b1 := bi_01 (elE e s w (grd e s w).2)
    cases hz : zb z w
    · have e0 : bi false = 0 := rfl
      rw [e0]
      refine ⟨by omega, fun q1 q2 => ?_⟩
      rw [q2] at q1
      have e1 : bi true = 1 := rfl
      omega
    · obtain ⟨a1, a2⟩ := alw_at h hz
      have e1 : bi true = 1 := rfl
      rw [e1]
      refine ⟨?_, fun _ _ => rfl⟩
      by_cases c : btc z w = (grd e s w).1
      · have g : elE e s w (grd e s w).2 = true := by
          unfold elE
          rw [a1, Bool.true_and, Bool.not_eq_true', Bool.and_eq_false_iff]
          by_cases q : (grd e s w).2 = true
          · right; rw [decide_eq_false_iff_not]; exact fun q2 => a2 ⟨h2 c q, q2⟩
          · left; cases q3 : (grd e s w).2 <;> simp_all
        rw [g, e1]; omega
      · omega
def gz9 (e : Int → Bool) (s : Int → Int) : Nat → Nat
  | 0 => 0
  | k + 1 => if elE e s k (grd e s k).2 = true then gz9 e s k + 2 ^ k else gz9 e s k
theorem gz9_p {e : Int → Bool} {s : Int → Int} : ∀ w : Nat, gz9 e s w < 2 ^ w ∧ alw e s (gz9 e s w : Nat) w = true ∧ btc (gz9 e s w : Nat) w = (grd e s w).1 ∧ ebf (gz9 e s w : Nat) w = (grd e s w).2
  | 0 => by simp [gz9, alw, btc, grd, ebf]
  | w + 1 => by
    obtain ⟨h1, h2, h3, h4⟩ := gz9_p (e := e) (s := s) w
    have hp : 2 ^ (w + 1) = 2 ^ w + 2 ^ w := by rw [Nat.pow_succ]; omega
    rw [gz9, grd]
    by_cases c : elE e s w (grd e s w).2 = true
    · rw [if_pos c, c]
      refine ⟨by omega, ?_, ?_, ?_⟩
      · rw [alw_x1 h1, h2, h4, c]; rfl
      · rw [btc_s, btc_lo w (by omega), (zb_hi h1).2, h3]
      · exact (zb_hi h1).2
    · have c2 : elE e s w (grd e s w).2 = false := by cases q : elE e s w (grd e s w).2 <;> simp_all
      rw [if_neg c, c2]
      refine ⟨by omega, ?_, ?_, ?_⟩
      · rw [alw_x0 h1, h2]
      · rw [btc_s, (zb_hi h1).1, h3]
      · exact (zb_hi h1).1
theorem sub_step : ∀ z p z' : Nat, z &&& p = z → z' &&& p = z' → z' < z → z' ≤ (z - 1) &&& p := by
  intro z
  induction z using Nat.strongRecOn with
  | ind z ih =>
    intro p z' h1 h2 h3
    have d1 : (z / 2) &&& (p / 2) = z / 2 := by rw [← Nat.and_div_two, h1]
    have d2 : (z' / 2) &&& (p / 2) = z' / 2 := by rw [← Nat.and_div_two, h2]
    have m2 : (z' % 2) ≤ p % 2 := by
      have : z' % 2 = (z' &&& p) % 2 := by rw [h2]
      rw [this]
      have hb : (z' &&& p) % 2 = (z' % 2) &&& (p % 2) := by have := Nat.and_mod_two_pow (a := z') (b := p) (n := 1); simpa using this
      rw [hb]; exact Nat.and_le_right
    by_cases c : z % 2 = 1
    · have e1 : (z - 1) / 2 = z / 2 := by omega
      have e2 : ((z - 1) &&& p) / 2 = z / 2 := by rw [Nat.and_div_two, e1, d1]
      omega
    · have e1 : (z - 1) / 2 = z / 2 - 1 := by omega
      have e2 : ((z - 1) &&& p) / 2 = (z / 2 - 1) &&& (p / 2) := by rw [Nat.and_div_two, e1]
      have e3 := ih (z / 2) (by omega) (p / 2) (z' / 2) d1 d2 (by omega)
      have hb : ((z - 1) &&& p) % 2 = p % 2 := by
        have := Nat.and_mod_two_pow (a := z - 1) (b := p) (n := 1)
        simp only [Nat.pow_one] at this
        rw [this, show (z - 1) % 2 = 1 by omega]
        rcases Nat.mod_two_eq_zero_or_one p with q | q <;> rw [q] <;> rfl
      omega
theorem mEl_up {F : Nat → Int} {A : Nat → Int → Int} {m : Int} (hm : ∀ z : Nat, are F A z = true → btc (z : Int) 12 ≤ m) : ∀ (n : Nat) (z acc : Int), acc ≤ m → mEl F A n z acc ≤ m
  | 0, _, _, h => h
  | n + 1, z, acc, h => by
    rw [mEl]
    split
    · exact h
    · refine mEl_up hm n _ _ ?_
      split
      · rename_i c q
        obtain ⟨k, rfl⟩ := Int.eq_ofNat_of_zero_le (show 0 ≤ z by omega)
        have := hm k q
        omega
      · exact h
theorem mEl_acc {F : Nat → Int} {A : Nat → Int → Int} : ∀ (n : Nat) (z acc : Int), acc ≤ mEl F A n z acc
  | 0, _, _ => Int.le_refl _
  | n + 1, z, acc => by
    rw [mEl]
    split
    · omega
    · have := mEl_acc (F := F) (A := A) n (((z - 1).toNat &&& (pls F A).toNat : Nat) : Int) (if are F A z = true then max acc (btc z 12) else acc)
      split at this <;> rename_i q
      · rw [if_pos q]; omega
      · rw [if_neg q]; omega
theorem mEl_lo {F : Nat → Int} {A : Nat → Int → Int} {p g : Nat} (hp : pls F A = (p : Int)) (hg : g &&& p = g) (ha : are F A g = true) (hg0 : 0 < g) : ∀ (n z : Nat) (acc : Int), z &&& p = z → g ≤ z → z ≤ n → btc (g : Int) 12 ≤ mEl F A n z acc
  | 0, z, acc, _, h2, h3 => by omega
  | n + 1, z, acc, h1, h2, h3 => by
    rw [mEl, if_neg (by omega)]
    by_cases c : g = z
    · subst c
      rw [if_pos ha]
      have := mEl_acc (F := F) (A := A) n ((((g : Int) - 1).toNat &&& (pls F A).toNat : Nat) : Int) (max acc (btc (g : Int) 12))
      omega
    · rw [hp, Int.toNat_natCast, show ((z : Int) - 1).toNat = z - 1 by omega]
      have hl : (z - 1) &&& p ≤ z - 1 := Nat.and_le_left
      exact mEl_lo hp hg ha hg0 n _ _ (by rw [Nat.and_assoc, Nat.and_self]) (sub_step z p g h1 hg (by omega)) (by omega)
theorem mst_D {F : Nat → Int} {A : Nat → Int → Int} {D : DT} (K : LK F A D) : mst9 F A = (grd (dE D) (dS D) (dL D).toNat).1 := by
  have hL := K.2.1
  obtain ⟨g1, g2, g3, g4⟩ := gz9_p (e := dE D) (s := dS D) (dL D).toNat
  generalize gz9 (dE D) (dS D) (dL D).toNat = g at g1 g2 g3 g4
  have ha : are F A g = true := (are_D K).mpr ⟨g1, g2⟩
  have hp := pls_D K
  have up9 : mst9 F A ≤ (grd (dE D) (dS D) (dL D).toNat).1 := by
    unfold mst9
    refine mEl_up (fun z hz => ?_) _ _ _ (grd_r _ _ _).1
    obtain ⟨q1, q2⟩ := (are_D K).mp hz
    rw [btc_12 hL q1]
    exact (grd_up _ q2).1
  have lo : (grd (dE D) (dS D) (dL D).toNat).1 ≤ mst9 F A := by
    rw [← g3, ← btc_12 hL g1]
    by_cases c : g = 0
    · subst c
      have : btc ((0 : Nat) : Int) 12 = 0 := by decide
      rw [this]
      exact (mst_r F A).1
    · unfold mst9
      rw [hp, Int.toNat_natCast]
      have hs := ha
      unfold are at hs
      rw [Bool.and_eq_true, hp] at hs
      have hs2 := hs.1
      unfold sbm at hs2
      rw [decide_eq_true_iff, Int.toNat_natCast, Int.toNat_natCast] at hs2
      have hle : g ≤ plN (dE D) (dL D).toNat := by rw [← hs2.2]; exact Nat.and_le_right
      exact mEl_lo hp hs2.2 ha (by omega) _ _ _ (Nat.and_self _) hle (Nat.le_refl _)
  omega
