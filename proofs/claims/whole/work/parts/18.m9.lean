/-! the reference: sets of elisions, sounds, costs -/
theorem bv_sub (x p : BitVec 32) : x &&& (p ^^^ BitVec.allOnes 32) = 0#32 ↔ x &&& p = x := by
  constructor
  · intro hq
    apply BitVec.eq_of_getLsbD_eq
    intro i hi
    have := congrArg (fun b => BitVec.getLsbD b i) hq
    simp only [BitVec.getLsbD_and, BitVec.getLsbD_xor, BitVec.getLsbD_allOnes, hi, decide_true, BitVec.getLsbD_zero] at this ⊢
    revert this
    cases x.getLsbD i <;> cases p.getLsbD i <;> simp
  · intro hq
    apply BitVec.eq_of_getLsbD_eq
    intro i hi
    have := congrArg (fun b => BitVec.getLsbD b i) hq
    simp only [BitVec.getLsbD_and, BitVec.getLsbD_xor, BitVec.getLsbD_allOnes, hi, decide_true, BitVec.getLsbD_zero] at this ⊢
    revert this
    cases x.getLsbD i <;> cases p.getLsbD i <;> simp
def sbm (z pl : Int) : Bool := decide (0 ≤ z ∧ z.toNat &&& pl.toNat = z.toNat)
theorem sub_iff {z pl : Int} (hz : InR z) (hp : 0 ≤ pl ∧ pl < 4096) : (iN z &&& iN (iN pl ^^^ iN (-1)).toInt).toInt = 0 ↔ sbm z pl = true := by
  rw [iN_self]
  have h0 : (iN z &&& (iN pl ^^^ iN (-1))).toInt = 0 ↔ (iN z).toBitVec &&& ((iN pl).toBitVec ^^^ BitVec.allOnes 32) = 0#32 := by
    constructor
    · intro hq
      have h1 : iN z &&& (iN pl ^^^ iN (-1)) = 0 := by rw [← Int32.toInt_inj, hq]; rfl
      have h2 := congrArg Int32.toBitVec h1
      have e1 : (iN (-1)).toBitVec = BitVec.allOnes 32 := rfl
      rw [Int32.toBitVec_and, Int32.toBitVec_xor, e1] at h2
      exact h2
    · intro hq
      have h1 : iN z &&& (iN pl ^^^ iN (-1)) = 0 := by
        apply Int32.toBitVec_inj.mp
        have e1 : (iN (-1)).toBitVec = BitVec.allOnes 32 := rfl
        rw [Int32.toBitVec_and, Int32.toBitVec_xor, e1]
        exact hq
      rw [h1]; rfl
  rw [h0, bv_sub, sbm, decide_eq_true_iff]
  obtain ⟨m, rfl⟩ := Int.eq_ofNat_of_zero_le hp.1
  have hpm : (iN ((m : Nat) : Int)).toBitVec.toNat = m := by rw [iN_nI, pk_tn (by omega)]
  have key : (iN z).toBitVec &&& (iN ((m : Nat) : Int)).toBitVec = (iN z).toBitVec ↔ (iN z).toBitVec.toNat &&& m = (iN z).toBitVec.toNat := by
    rw [← BitVec.toNat_inj, BitVec.toNat_and, hpm]
  rw [key]
  by_cases hz0 : 0 ≤ z
  · obtain ⟨n, rfl⟩ := Int.eq_ofNat_of_zero_le hz0
    have hpn : (iN ((n : Nat) : Int)).toBitVec.toNat = n := by rw [iN_nI, pk_tn (by have := hz.2; omega)]
    rw [hpn]
    simp
  · have hbig : 4096 ≤ (iN z).toBitVec.toNat := by
      have h1 : (iN z).toInt = z := iN_toInt hz.1 hz.2
      have h2 : (iN z).toInt = (iN z).toBitVec.toInt := rfl
      rw [h1, BitVec.toInt_eq_toNat_cond] at h2
      split at h2 <;> omega
    constructor
    · intro hq
      have : (iN z).toBitVec.toNat &&& m ≤ m := Nat.and_le_right
      omega
    · intro hq; exact absurd hq.1 hz0
def oks (A : Nat → Int → Int) (z : Int) : Nat → Bool
  | 0 => true
  | k + 1 => oks A z k && !decide (1 ≤ (k : Int) ∧ A 10 k = 1 ∧ z / 2 ^ (k - 1) % 4 = 3)
def are (F : Nat → Int) (A : Nat → Int → Int) (z : Int) : Bool := sbm z (pls F A) && oks A z (F 16).toNat
theorem oks_f {A : Nat → Int → Int} {z : Int} : ∀ {k n : Nat}, k ≤ n → oks A z k = false → oks A z n = false
  | k, 0, hk, hq => by rw [show k = 0 by omega] at hq; exact hq
  | k, n + 1, hk, hq => by
    by_cases e : k = n + 1
    · rw [← e]; exact hq
    · rw [oks, oks_f (show k ≤ n by omega) hq]; rfl
theorem sbm_r {z pl : Int} (hp : 0 ≤ pl ∧ pl < 4096) (hq : sbm z pl = true) : 0 ≤ z ∧ z ≤ pl := by
  unfold sbm at hq
  rw [decide_eq_true_iff] at hq
  have : z.toNat &&& pl.toNat ≤ pl.toNat := Nat.and_le_right
  omega
/-- the most elisions, by the sets below a set -/
def mEl (F : Nat → Int) (A : Nat → Int → Int) : Nat → Int → Int → Int
  | 0, _, acc => acc
  | n + 1, z, acc => if z ≤ 0 then acc else mEl F A n (((z - 1).toNat &&& (pls F A).toNat : Nat) : Int) (if are F A z = true then max acc (btc z 12) else acc)
theorem mEl_f (F : Nat → Int) (A : Nat → Int → Int) : ∀ (n m : Nat) (z acc : Int), z.toNat ≤ n → z.toNat ≤ m → mEl F A n z acc = mEl F A m z acc
  | 0, 0, z, acc, h1, h2 => rfl
  | 0, m + 1, z, acc, h1, h2 => by rw [mEl, mEl, if_pos (by omega)]
  | n + 1, 0, z, acc, h1, h2 => by rw [mEl, mEl, if_pos (by omega)]
  | n + 1, m + 1, z, acc, h1, h2 => by
    rw [mEl, mEl]
    by_cases q : z ≤ 0
    · rw [if_pos q, if_pos q]
    · rw [if_neg q, if_neg q]
      have hx : (z - 1).toNat &&& (pls F A).toNat ≤ (z - 1).toNat := Nat.and_le_left
      exact mEl_f F A n m _ _ (by omega) (by omega)
theorem mEl_s {F : Nat → Int} {A : Nat → Int → Int} {z acc : Int} (hz : 0 < z) : mEl F A z.toNat z acc = mEl F A (((z - 1).toNat &&& (pls F A).toNat : Nat) : Int).toNat (((z - 1).toNat &&& (pls F A).toNat : Nat) : Int) (if are F A z = true then max acc (btc z 12) else acc) := by
  have hx : (z - 1).toNat &&& (pls F A).toNat ≤ (z - 1).toNat := Nat.and_le_left
  obtain ⟨n, hn⟩ : ∃ n, z.toNat = n + 1 := ⟨(z - 1).toNat, by omega⟩
  rw [hn, mEl, if_neg (by omega)]
  exact mEl_f F A _ _ _ _ (by omega) (by omega)
def mst9 (F : Nat → Int) (A : Nat → Int → Int) : Int := mEl F A (pls F A).toNat (pls F A) 0
def szk (k : Int) : Int := if k < 2 then 2 else 3
def sto (k : Int) : Int := if k = 0 then 1 else if k = 2 then 2 else 0
theorem szk_r (k : Int) : szk k = 2 ∨ szk k = 3 := by unfold szk; split <;> omega
theorem c2_sizeOf {Γ : GT} {h : XH} {k : Int} (hk : 0 ≤ k ∧ k ≤ 3) : Ct Γ M_X10_sizeOf [.int (iN k)] h (fun r h9 => r = some (.int (iN (szk k))) ∧ h9 = h) (fun _ _ => False) := c_X10_sizeOf hk
theorem c2_strongOf {Γ : GT} {h : XH} {k : Int} (hk : 0 ≤ k ∧ k ≤ 3) : Ct Γ M_X10_strongOf [.int (iN k)] h (fun r h9 => r = some (.int (iN (sto k))) ∧ h9 = h) (fun _ _ => False) := c_X10_strongOf hk
def strg (F : Nat → Int) (p i : Int) : Bool := decide ((if p < szk (F 27) ∧ i ≠ 0 then szk (F 27) - 1 - p % szk (F 27) else p % szk (F 27)) = sto (F 27))
def MtO (F : Nat → Int) : Prop := (0 ≤ F 27 ∧ F 27 ≤ 3) ∧ (2 ≤ F 28 ∧ F 28 ≤ 6) ∧ (0 ≤ F 29 ∧ F 29 < F 28)
theorem sto_r (k : Int) : 0 ≤ sto k ∧ sto k ≤ 2 := by
  unfold sto
  by_cases q : k = 0
  · rw [if_pos q]; omega
  · rw [if_neg q]
    by_cases q2 : k = 2
    · rw [if_pos q2]; omega
    · rw [if_neg q2]; omega
set_option maxRecDepth 100000 in
set_option maxHeartbeats 4000000 in
theorem c_X10_areElisions {Γ : GT} {h : XH} {F : Nat → Int} {A : Nat → Int → Int} (L9 : LW F A) {z : Int} (hz : InR z) : Ct Γ M_X10_areElisions [.ref (g_L Γ 0), .int (iN z)] (mst Γ h F A) (fun r h9 => r = some (.int (iN (bi (are F A z)))) ∧ h9 = mst Γ h F A) (fun _ _ => False) := by
  refine Ct.of rfl (by decide +kernel) (Nat.le_of_ble_eq_true rfl) ?_
  generalize hQF9 : QM Γ _ _ _ = QF9
  obtain ⟨l1, l2⟩ := id L9
  have hpr := pls_r (F := F) (A := A) (by omega)
  refine gg_iload_n dX10_areElisions_0 rfl ?_
  refine gg_aload_n dX10_areElisions_1 rfl rfl ?_
  refine gc_X10_258 rfl dX10_areElisions_2 ⟨(Nat.le_of_ble_eq_true rfl), (Nat.le_of_ble_eq_true rfl)⟩ ⟨(Nat.le_of_ble_eq_true rfl), (Nat.le_of_ble_eq_true rfl)⟩ (Nat.le_of_ble_eq_true rfl) (HAt.mu rfl) (c_X10_places L9) (fun _ _ w => w.elim) (fun r_2 h_2 hp => ?_)
  obtain ⟨rfl, rfl⟩ := hp
  refine gi_iconst dX10_areElisions_5 ?_
  refine gi_ixor _ (iN_self _).symm dX10_areElisions_6 ?_
  refine gi_iand _ (iN_self _).symm dX10_areElisions_7 ?_
  refine gi_if_eq (tgt := 13) dX10_areElisions_8 (by decide) (iN_rng _) (fun c_8 => ?_) (fun c_8 => ?_)
  · rw [sub_iff hz hpr] at c_8
    have hzr := sbm_r hpr c_8
    refine gi_iconst dX10_areElisions_13 ?_
    refine gg_istore_n dX10_areElisions_14 (Nat.le_of_ble_eq_true rfl) rfl ?_
    have L_15 : ∀ (n9 : Nat) (k : Int), ((F 16 - k).toNat) = n9 → ∀ (hk : 1 ≤ k ∧ k ≤ F 16) (ho : oks A z k.toNat = true), GG Γ M_X10_areElisions QF9 (0, 0) (mst Γ h F A) 15 [some (.ref (g_L Γ 0)), some (.int (iN z)), some (.int (iN k))] [] := by
      intro n9
      induction n9 using Nat.strongRecOn with
      | ind n9 ih_15 => 
        intro k hm9 hk ho
        refine gg_iload_n dX10_areElisions_15 rfl ?_
        refine gg_aload_n dX10_areElisions_16 rfl rfl ?_
        refine gm_get60 rfl dX10_areElisions_17 (by (try simp only [uF_s, uF_n, ne_eq, not_false_eq_true, Nat.reduceEqDiff, reduceCtorEq]); rfl) ?_
        refine gi_icmp_ge (tgt := 52) dX10_areElisions_20 (by decide) ⟨by omega, by omega⟩ ⟨by omega, by omega⟩ (fun c_20 => ?_) (fun c_20 => ?_)
        · refine gi_iconst dX10_areElisions_52 ?_
          subst hQF9
          refine gg_iret dX10_areElisions_53 rfl (nar_bool (by omega)) ⟨(Nat.le_of_ble_eq_true rfl), (Nat.le_of_ble_eq_true rfl)⟩ ?_
          refine ⟨?_, rfl⟩
          rw [show k = F 16 by omega] at ho
          rw [are, c_8, ho]; rfl
        · obtain ⟨k1, k2, k3, k4, k5⟩ := l2 k (by omega) (by omega)
          refine gg_aload_n dX10_areElisions_23 rfl rfl ?_
          refine gm_get69 rfl dX10_areElisions_24 ?_
          refine gg_iload_n dX10_areElisions_27 rfl ?_
          refine gm_iald dX10_areElisions_28 (by decide) rfl (by decide) ⟨by omega, by simp only [ml9]; omega⟩ (by (try simp only [uA_s, uA_n, ne_eq, not_false_eq_true, Nat.reduceEqDiff, reduceCtorEq]); rfl) ?_
          refine gi_iconst dX10_areElisions_29 ?_
          refine gi_icmp_ne (tgt := 46) dX10_areElisions_30 (by decide) ⟨by omega, by omega⟩ ⟨by omega, by omega⟩ (fun c_30 => ?_) (fun c_30 => ?_)
          · refine gi_iinc dX10_areElisions_46 rfl (Nat.le_of_ble_eq_true rfl) rfl ?_
            refine gg_goto (tgt := 15) dX10_areElisions_49 (by decide) ?_
            have ek : (k + 1).toNat = k.toNat + 1 := by omega
            refine ih_15 _ (by omega) (k + 1) rfl (by omega) ?_
            rw [ek, oks, ho, Bool.true_and, Bool.not_eq_true', decide_eq_false_iff_not, Int.toNat_of_nonneg (by omega)]
            rintro ⟨-, y1, -⟩; exact c_30 y1
          · refine gg_iload_n dX10_areElisions_33 rfl ?_
            refine gg_iload_n dX10_areElisions_34 rfl ?_
            refine gi_iconst dX10_areElisions_35 ?_
            refine gi_isub dX10_areElisions_36 ?_
            refine gi_ishr _ (bt_shr ⟨by omega, by omega⟩ ⟨by omega, by omega⟩) dX10_areElisions_37 ?_
            refine gi_iconst dX10_areElisions_38 ?_
            refine gi_iand _ (bt_a3 (Int.ediv_nonneg (by omega) (Int.le_of_lt (Int.pow_pos (by omega))))) dX10_areElisions_39 ?_
            refine gi_iconst dX10_areElisions_40 ?_
            refine gi_icmp_ne (tgt := 46) dX10_areElisions_41 (by decide) ⟨by omega, by omega⟩ ⟨by omega, by omega⟩ (fun c_41 => ?_) (fun c_41 => ?_)
            · refine gi_iinc dX10_areElisions_46 rfl (Nat.le_of_ble_eq_true rfl) rfl ?_
              refine gg_goto (tgt := 15) dX10_areElisions_49 (by decide) ?_
              have ek : (k + 1).toNat = k.toNat + 1 := by omega
              refine ih_15 _ (by omega) (k + 1) rfl (by omega) ?_
              rw [ek, oks, ho, Bool.true_and, Bool.not_eq_true', decide_eq_false_iff_not, Int.toNat_of_nonneg (by omega)]
              rintro ⟨-, -, y2⟩
              rw [show k.toNat - 1 = (k - 1).toNat by omega] at y2
              exact c_41 y2
            · refine gi_iconst dX10_areElisions_44 ?_
              subst hQF9
              refine gg_iret dX10_areElisions_45 rfl (nar_bool (by omega)) ⟨(Nat.le_of_ble_eq_true rfl), (Nat.le_of_ble_eq_true rfl)⟩ ?_
              refine ⟨?_, rfl⟩
              have ek : (k + 1).toNat = k.toNat + 1 := by omega
              have hf : oks A z (k + 1).toNat = false := by
                rw [ek, oks, Bool.and_eq_false_iff]
                refine Or.inr ?_
                rw [Bool.not_eq_false', decide_eq_true_iff, Int.toNat_of_nonneg (by omega)]
                exact ⟨by omega, c_30, by rw [show k.toNat - 1 = (k - 1).toNat by omega]; exact c_41⟩
              rw [are, oks_f (show (k + 1).toNat ≤ (F 16).toNat by omega) hf, Bool.and_false]; rfl
    exact L_15 _ 1 rfl (by omega) (by simp [oks])
  · rw [Ne, sub_iff hz hpr, Bool.not_eq_true] at c_8
    refine gi_iconst dX10_areElisions_11 ?_
    subst hQF9
    refine gg_iret dX10_areElisions_12 rfl (nar_bool (by omega)) ⟨(Nat.le_of_ble_eq_true rfl), (Nat.le_of_ble_eq_true rfl)⟩ ?_
    exact ⟨by rw [are, c_8]; rfl, rfl⟩
set_option maxRecDepth 100000 in
set_option maxHeartbeats 4000000 in
theorem c_X10_mostElisions {Γ : GT} {h : XH} {F : Nat → Int} {A : Nat → Int → Int} (L9 : LW F A) : Ct Γ M_X10_mostElisions [.ref (g_L Γ 0)] (mst Γ h F A) (fun r h9 => r = some (.int (iN (mst9 F A))) ∧ h9 = mst Γ h F A) (fun _ _ => False) := by
  refine Ct.of rfl (by decide +kernel) (Nat.le_of_ble_eq_true rfl) ?_
  generalize hQF9 : QM Γ _ _ _ = QF9
  obtain ⟨l1, l2⟩ := id L9
  have hpr := pls_r (F := F) (A := A) (by omega)
  refine gg_aload_n dX10_mostElisions_0 rfl rfl ?_
  refine gc_X10_258 rfl dX10_mostElisions_1 ⟨(Nat.le_of_ble_eq_true rfl), (Nat.le_of_ble_eq_true rfl)⟩ ⟨(Nat.le_of_ble_eq_true rfl), (Nat.le_of_ble_eq_true rfl)⟩ (Nat.le_of_ble_eq_true rfl) (HAt.mu rfl) (c_X10_places L9) (fun _ _ w => w.elim) (fun r_1 h_1 hp => ?_)
  obtain ⟨rfl, rfl⟩ := hp
  refine gg_istore_n dX10_mostElisions_4 (Nat.le_of_ble_eq_true rfl) rfl ?_
  refine gi_iconst dX10_mostElisions_5 ?_
  refine gg_istore_n dX10_mostElisions_6 (Nat.le_of_ble_eq_true rfl) rfl ?_
  refine gg_iload_n dX10_mostElisions_7 rfl ?_
  refine gg_istore_n dX10_mostElisions_8 (Nat.le_of_ble_eq_true rfl) rfl ?_
  have L_9 : ∀ (n9 : Nat) (z acc : Int), (z.toNat) = n9 → ∀ (hz : 0 ≤ z ∧ z ≤ pls F A) (ha : 0 ≤ acc ∧ acc ≤ 12) (hr : mst9 F A = mEl F A z.toNat z acc), GG Γ M_X10_mostElisions QF9 (0, 0) (mst Γ h F A) 9 [some (.ref (g_L Γ 0)), some (.int (iN (pls F A))), some (.int (iN acc)), some (.int (iN z))] [] := by
    intro n9
    induction n9 using Nat.strongRecOn with
    | ind n9 ih_9 => 
      intro z acc hm9 hz ha hr
      refine gg_iload_n dX10_mostElisions_9 rfl ?_
      refine gi_if_le (tgt := 43) dX10_mostElisions_10 (by decide) ⟨by omega, by omega⟩ (fun c_10 => ?_) (fun c_10 => ?_)
      · refine gg_iload_n dX10_mostElisions_43 rfl ?_
        subst hQF9
        refine gg_iret dX10_mostElisions_44 rfl rfl ⟨(Nat.le_of_ble_eq_true rfl), (Nat.le_of_ble_eq_true rfl)⟩ ?_
        rw [hr, show z = 0 by omega]
        exact ⟨rfl, rfl⟩
      · refine gg_aload_n dX10_mostElisions_13 rfl rfl ?_
        refine gg_iload_n dX10_mostElisions_14 rfl ?_
        refine gc_X10_261 rfl dX10_mostElisions_15 ⟨(Nat.le_of_ble_eq_true rfl), (Nat.le_of_ble_eq_true rfl)⟩ ⟨(Nat.le_of_ble_eq_true rfl), (Nat.le_of_ble_eq_true rfl)⟩ (Nat.le_of_ble_eq_true rfl) (HAt.mu rfl) (c_X10_areElisions L9 ⟨by omega, by omega⟩) (fun _ _ w => w.elim) (fun r_15 h_15 hp => ?_)
        obtain ⟨rfl, rfl⟩ := hp
        refine gi_if_eq (tgt := 32) dX10_mostElisions_18 (by decide) (bi_r _) (fun c_18 => ?_) (fun c_18 => ?_)
        · rw [bi_f] at c_18
          refine gg_iload_n dX10_mostElisions_32 rfl ?_
          refine gg_istore_n dX10_mostElisions_33 (Nat.le_of_ble_eq_true rfl) rfl ?_
          refine gg_iload_n dX10_mostElisions_34 rfl ?_
          refine gi_iconst dX10_mostElisions_35 ?_
          refine gi_isub dX10_mostElisions_36 ?_
          refine gg_iload_n dX10_mostElisions_37 rfl ?_
          refine gi_iand _ (bt_and (by omega) (by omega)) dX10_mostElisions_38 ?_
          refine gg_istore_n dX10_mostElisions_39 (Nat.le_of_ble_eq_true rfl) rfl ?_
          refine gg_goto (tgt := 9) dX10_mostElisions_40 (by decide) ?_
          have hx : (z - 1).toNat &&& (pls F A).toNat ≤ (z - 1).toNat := Nat.and_le_left
          have hb := btc_r (z := z) (by omega) 12
          rw [mEl_s (by omega), c_18] at hr
          try simp only [if_true, Bool.false_eq_true, if_false] at hr
          exact ih_9 _ (by omega) _ _ rfl (by omega) (by omega) hr
        · rw [bi_t] at c_18
          refine gg_iload_n dX10_mostElisions_21 rfl ?_
          refine gg_iload_n dX10_mostElisions_22 rfl ?_
          refine gc_X10_264 rfl dX10_mostElisions_23 ⟨(Nat.le_of_ble_eq_true rfl), (Nat.le_of_ble_eq_true rfl)⟩ ⟨(Nat.le_of_ble_eq_true rfl), (Nat.le_of_ble_eq_true rfl)⟩ (Nat.le_of_ble_eq_true rfl) (c_X10_bits ⟨by omega, by omega⟩) (fun _ _ w => w.elim) (fun r_23 h_23 hp => ?_)
          obtain ⟨rfl, rfl⟩ := hp
          have hb := btc_r (z := z) (by omega) 12
          refine gc_X10_267 rfl dX10_mostElisions_26 ⟨(Nat.le_of_ble_eq_true rfl), (Nat.le_of_ble_eq_true rfl)⟩ ⟨(Nat.le_of_ble_eq_true rfl), (Nat.le_of_ble_eq_true rfl)⟩ ?_
          rw [iN_max ⟨by omega, by omega⟩ ⟨by omega, by omega⟩]
          refine gg_goto (tgt := 33) dX10_mostElisions_29 (by decide) ?_
          refine gg_istore_n dX10_mostElisions_33 (Nat.le_of_ble_eq_true rfl) rfl ?_
          refine gg_iload_n dX10_mostElisions_34 rfl ?_
          refine gi_iconst dX10_mostElisions_35 ?_
          refine gi_isub dX10_mostElisions_36 ?_
          refine gg_iload_n dX10_mostElisions_37 rfl ?_
          refine gi_iand _ (bt_and (by omega) (by omega)) dX10_mostElisions_38 ?_
          refine gg_istore_n dX10_mostElisions_39 (Nat.le_of_ble_eq_true rfl) rfl ?_
          refine gg_goto (tgt := 9) dX10_mostElisions_40 (by decide) ?_
          have hx : (z - 1).toNat &&& (pls F A).toNat ≤ (z - 1).toNat := Nat.and_le_left
          have hb := btc_r (z := z) (by omega) 12
          rw [mEl_s (by omega), c_18] at hr
          try simp only [if_true, Bool.false_eq_true, if_false] at hr
          exact ih_9 _ (by omega) _ _ rfl (by omega) (by omega) hr
  exact L_9 _ _ 0 rfl (by omega) (by omega) rfl
