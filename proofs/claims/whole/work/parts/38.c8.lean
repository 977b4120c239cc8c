/-! the search: prices -/
/-- a line as read and a metre: words, syllables, marks, places, commas; kind, feet, caesura -/
abbrev DT : Type := Int × (Int → Int) × (Int → Int → Int) × (Int → Bool) × (Int → Bool) × Int × Int × Int
def dL (D : DT) : Int := D.1
def dS (D : DT) : Int → Int := D.2.1
def dM (D : DT) : Int → Int → Int := D.2.2.1
def dE (D : DT) : Int → Bool := D.2.2.2.1
def dC (D : DT) : Int → Bool := D.2.2.2.2.1
def dK (D : DT) : Int := D.2.2.2.2.2.1
def dF (D : DT) : Int := D.2.2.2.2.2.2.1
def dZ (D : DT) : Int := D.2.2.2.2.2.2.2
def dP (D : DT) : Int := dF D * szk (dK D)
abbrev RdD (G : Nat → Int) (B : Nat → Int → Int) (D : DT) : Prop := RdG G B (dL D) (dS D) (dM D) (dE D) (dC D)
def ScM (ι : Nat → Option XE) (G : Nat → Int) (D : DT) (i : Int) : Prop := ∃ mq : Nat, G 16 = (mq : Int) ∧ MtAt ι mq (dK D) (dF D) (dZ D) ∧ (i = 0 ∨ i = 1) ∧ G 17 = (plN (fun p => strK (dK D) p i) (dP D).toNat : Nat)
theorem ScM.fr {ι : Nat → Option XE} {G G' : Nat → Int} {D : DT} {i : Int} (S : ScM ι G D i) (h1 : G' 16 = G 16) (h2 : G' 17 = G 17) : ScM ι G' D i := by
  unfold ScM at S ⊢; rw [h1, h2]; exact S
def spE (D : DT) (i k m : Int) : Int := if dP D < k then -1 else if k = dP D then (if m = 2 then -1 else 0) else if strK (dK D) k i = true then (if m = 0 then 4 else 0) else (if m = 2 then 3 else 0)
theorem spE_r (D : DT) (i k m : Int) : -1 ≤ spE D i k m ∧ spE D i k m ≤ 4 := by
  unfold spE; repeat' split <;> first | omega | skip
theorem RdG.s_r {G : Nat → Int} {B : Nat → Int → Int} {L : Int} {s : Int → Int} {mk : Int → Int → Int} {e c : Int → Bool} (R : RdG G B L s mk e c) {w : Int} (hw : 0 ≤ w ∧ w < L) : 1 ≤ s w ∧ s w ≤ 6 := (R.2.2.1 w hw.1 hw.2).1
theorem RdG.m_r {G : Nat → Int} {B : Nat → Int → Int} {L : Int} {s : Int → Int} {mk : Int → Int → Int} {e c : Int → Bool} (R : RdG G B L s mk e c) {w k : Int} (hw : 0 ≤ w ∧ w < L) (hk : 0 ≤ k ∧ k < s w) : 0 ≤ mk w k ∧ mk w k ≤ 2 := ((R.2.2.1 w hw.1 hw.2).2.2 k hk.1 hk.2).2
def cae (D : DT) (k : Int) : Bool := decide (0 < dZ D ∧ k = dZ D * szk (dK D))
def mkW (D : DT) (w j : Int) (x : Bool) : Int := if (decide (j = 0) && x) = true then max (dM D w j) (dM D (w - 1) (dS D (w - 1) - 1)) else dM D w j
/-- what a word costs up to its syllable j, -1 where it cannot stand -/
def wpS (D : DT) (i w st : Int) (x y : Bool) : Nat → Int
  | 0 => 0
  | j + 1 =>
    if wpS D i w st x y j < 0 then -1
    else if (cae D (st + j) && (decide (0 < (j : Int)) || x || (decide ((j : Int) = dS D w - 1) && y))) = true then -1
    else if (decide ((j : Int) = dS D w - 1) && y) = true then wpS D i w st x y j + (if cae D (st + j) = true then bi (!dC D (w - 1)) else 0)
    else if spE D i (st + j) (mkW D w j x) < 0 then -1
    else wpS D i w st x y j + (if cae D (st + j) = true then bi (!dC D (w - 1)) else 0) + spE D i (st + j) (mkW D w j x)
def prW (D : DT) (i w st : Int) (x y : Bool) (f : Int → Int) : Nat → Int → Int
  | 0 => f
  | j + 1 => if (decide ((j : Int) = dS D w - 1) && y) = true then prW D i w st x y f j else up (prW D i w st x y f j) (st + j) (spE D i (st + j) (mkW D w j x))
theorem wpS_r {D : DT} {i w st : Int} {x y : Bool} : ∀ j : Nat, -1 ≤ wpS D i w st x y j ∧ wpS D i w st x y j ≤ 5 * j
  | 0 => by simp [wpS]
  | j + 1 => by
    have ih := wpS_r (D := D) (i := i) (w := w) (st := st) (x := x) (y := y) j
    have h1 := spE_r D i (st + j) (mkW D w j x)
    have h2 := bi_01 (!dC D (w - 1))
    rw [wpS]
    repeat' split <;> first | omega | skip
theorem wpS_f {D : DT} {i w st : Int} {x y : Bool} : ∀ {k n : Nat}, k ≤ n → wpS D i w st x y k < 0 → wpS D i w st x y n = -1
  | k, 0, hk, hq => by rw [show k = 0 by omega, wpS] at hq; omega
  | k, n + 1, hk, hq => by
    by_cases z : k = n + 1
    · have := wpS_r (D := D) (i := i) (w := w) (st := st) (x := x) (y := y) (n + 1)
      rw [z] at hq; omega
    · rw [wpS, if_pos (by rw [wpS_f (show k ≤ n by omega) hq]; decide)]
def wpE (D : DT) (i w st : Int) (x y : Bool) : Int := wpS D i w st x y (dS D w).toNat
set_option maxRecDepth 100000 in
set_option maxHeartbeats 4000000 in
theorem c_X6_syllablePrice {Γ : GT} {h : XH} {G : Nat → Int} {B : Nat → Int → Int} {D : DT} {i : Int} (S9 : ScM h.2 G D i) {k m : Int} (hk : 0 ≤ k ∧ k ≤ 100) (hm : 0 ≤ m ∧ m ≤ 2) : Ct Γ M_X6_syllablePrice [.ref (g_L Γ 60), .int (iN k), .int (iN m)] (gst Γ h G B) (fun r h9 => r = some (.int (iN (spE D i k m))) ∧ h9 = gst Γ h G (if k ≤ dP D then uA B 61 (up (B 61) k (spE D i k m)) else B)) (fun _ _ => False) := by
  refine Ct.of rfl (by decide +kernel) (Nat.le_of_ble_eq_true rfl) ?_
  generalize hQF9 : QM Γ _ _ _ = QF9
  obtain ⟨mq, g16, M1, hi, g17⟩ := id S9
  obtain ⟨⟨t1, t2, t3⟩, t4⟩ := id M1
  have z9 := szk_r (dK D)
  have hP : dP D = dF D * szk (dK D) := rfl
  have p9 : 4 ≤ dP D ∧ dP D ≤ 18 := by rw [hP]; rcases z9 with q | q <;> rw [q] <;> omega
  have hl9 := plN_lt (fun p => strK (dK D) p i) (dP D).toNat
  have hl8 : 2 ^ (dP D).toNat ≤ 2 ^ 18 := Nat.pow_le_pow_right (by omega) (by omega)
  have hb9 : k < dP D → ((plN (fun p => strK (dK D) p i) (dP D).toNat : Nat) : Int) / 2 ^ k.toNat % 2 = bi (strK (dK D) k i) := fun q => by
    have := plN_bit (e9 := fun p => strK (dK D) p i) (j := k.toNat) (k := (dP D).toNat) (by omega)
    rw [Int.toNat_of_nonneg hk.1] at this; exact this
  have hc9 := bi_01 (strK (dK D) k i)
  have hs9 := spE_r D i k m
  refine gg_iload_n dX6_syllablePrice_0 rfl ?_
  refine gi_if_lt (tgt := 24) dX6_syllablePrice_1 (by decide) ⟨by omega, by omega⟩ (fun c_1 => ?_) (fun c_1 => ?_)
  · exact absurd c_1 (by omega)
  · refine gg_iload_n dX6_syllablePrice_4 rfl ?_
    refine gg_aload_n dX6_syllablePrice_5 rfl rfl ?_
    refine gk_getX6_32 rfl dX6_syllablePrice_6 g16 ?_
    refine gf_X6_125 rfl dX6_syllablePrice_9 (HAt.io t4) rfl ?_
    refine gi_icmp_gt (tgt := 24) dX6_syllablePrice_12 (by decide) ⟨by omega, by omega⟩ ⟨by omega, by omega⟩ (fun c_12 => ?_) (fun c_12 => ?_)
    · refine gi_iconst dX6_syllablePrice_24 ?_
      subst hQF9
      refine gg_iret dX6_syllablePrice_25 rfl rfl ⟨(Nat.le_of_ble_eq_true rfl), (Nat.le_of_ble_eq_true rfl)⟩ ?_
      refine ⟨?_, ?_⟩
      · unfold spE; rw [if_pos (by omega)]
      · rw [if_neg (by omega)]
    · refine gg_iload_n dX6_syllablePrice_15 rfl ?_
      refine gg_aload_n dX6_syllablePrice_16 rfl rfl ?_
      refine gk_getX6_9 rfl dX6_syllablePrice_17 ?_
      refine gi_alen dX6_syllablePrice_20 (HAt.mu (gst_i (by decide))) (by decide) ?_
      refine gi_icmp_lt (tgt := 26) dX6_syllablePrice_21 (by decide) ⟨by omega, by omega⟩ (by decide) (fun c_21 => ?_) (fun c_21 => ?_)
      · have L_89 : ∀ (v : Int) (hv : v = spE D i k m) (hkP : k ≤ dP D), GG Γ M_X6_syllablePrice QF9 (0, 0) (gst Γ h G B) 89 [some (.ref (g_L Γ 60)), some (.int (iN k)), some (.int (iN m)), some (.int (iN v))] [] := by
          intro v hv hkP
          refine gg_aload_n dX6_syllablePrice_89 rfl rfl ?_
          refine gk_getX6_9 rfl dX6_syllablePrice_90 ?_
          refine gg_iload_n dX6_syllablePrice_93 rfl ?_
          refine gg_iload_n dX6_syllablePrice_94 rfl ?_
          refine gk_iast dX6_syllablePrice_95 (by decide) (by decide) ⟨by omega, by show _ < (19 : Int); omega⟩ rfl ?_
          refine gg_iload_n dX6_syllablePrice_96 rfl ?_
          subst hQF9
          refine gg_iret dX6_syllablePrice_97 rfl rfl ⟨(Nat.le_of_ble_eq_true rfl), (Nat.le_of_ble_eq_true rfl)⟩ ?_
          rw [if_pos hkP, hv]
          exact ⟨rfl, rfl⟩
        refine gi_iconst dX6_syllablePrice_26 ?_
        refine gg_istore_n dX6_syllablePrice_27 (Nat.le_of_ble_eq_true rfl) rfl ?_
        refine gg_iload_n dX6_syllablePrice_28 rfl ?_
        refine gg_aload_n dX6_syllablePrice_29 rfl rfl ?_
        refine gk_getX6_32 rfl dX6_syllablePrice_30 g16 ?_
        refine gf_X6_125 rfl dX6_syllablePrice_33 (HAt.io t4) rfl ?_
        refine gi_icmp_ne (tgt := 53) dX6_syllablePrice_36 (by decide) ⟨by omega, by omega⟩ ⟨by omega, by omega⟩ (fun c_36 => ?_) (fun c_36 => ?_)
        · refine gg_aload_n dX6_syllablePrice_53 rfl rfl ?_
          refine gk_getX6_36 rfl dX6_syllablePrice_54 g17 ?_
          refine gg_iload_n dX6_syllablePrice_57 rfl ?_
          refine gi_ishr _ (bt_shr ⟨by omega, by omega⟩ ⟨by omega, by omega⟩) dX6_syllablePrice_58 ?_
          refine gi_iconst dX6_syllablePrice_59 ?_
          refine gi_iand (bi (strK (dK D) k i)) (by rw [bt_a1 (Int.ediv_nonneg (by omega) (Int.le_of_lt (Int.pow_pos (by omega)))), hb9 (by omega)]) dX6_syllablePrice_60 ?_
          refine gi_iconst dX6_syllablePrice_61 ?_
          refine gi_icmp_ne (tgt := 78) dX6_syllablePrice_62 (by decide) ⟨by omega, by omega⟩ ⟨by omega, by omega⟩ (fun c_62 => ?_) (fun c_62 => ?_)
          · refine gg_iload_n dX6_syllablePrice_78 rfl ?_
            refine gi_iconst dX6_syllablePrice_79 ?_
            refine gi_icmp_ne (tgt := 87) dX6_syllablePrice_80 (by decide) ⟨by omega, by omega⟩ ⟨by omega, by omega⟩ (fun c_80 => ?_) (fun c_80 => ?_)
            · refine gi_iconst dX6_syllablePrice_87 ?_
              refine gg_istore_n dX6_syllablePrice_88 (Nat.le_of_ble_eq_true rfl) rfl ?_
              have q9 : strK (dK D) k i = false := by
                cases q : strK (dK D) k i <;> rw [q] at c_62 <;> first | rfl | exact absurd rfl c_62
              refine L_89 _ ?_ (by omega)
              unfold spE
              rw [if_neg (by omega), if_neg (by omega), if_neg (by rw [q9]; decide), if_neg c_80]
            · refine gi_iconst dX6_syllablePrice_83 ?_
              refine gg_goto (tgt := 88) dX6_syllablePrice_84 (by decide) ?_
              refine gg_istore_n dX6_syllablePrice_88 (Nat.le_of_ble_eq_true rfl) rfl ?_
              have q9 : strK (dK D) k i = false := by
                cases q : strK (dK D) k i <;> rw [q] at c_62 <;> first | rfl | exact absurd rfl c_62
              refine L_89 _ ?_ (by omega)
              unfold spE
              rw [if_neg (by omega), if_neg (by omega), if_neg (by rw [q9]; decide), if_pos c_80]
          · refine gg_iload_n dX6_syllablePrice_65 rfl ?_
            refine gi_if_ne (tgt := 73) dX6_syllablePrice_66 (by decide) ⟨by omega, by omega⟩ (fun c_66 => ?_) (fun c_66 => ?_)
            · refine gi_iconst dX6_syllablePrice_73 ?_
              refine gg_istore_n dX6_syllablePrice_74 (Nat.le_of_ble_eq_true rfl) rfl ?_
              refine gg_goto (tgt := 89) dX6_syllablePrice_75 (by decide) ?_
              have q9 : strK (dK D) k i = true := by
                cases q : strK (dK D) k i <;> rw [q] at c_62 <;> first | rfl | exact absurd c_62 (by decide)
              refine L_89 _ ?_ (by omega)
              unfold spE
              rw [if_neg (by omega), if_neg (by omega), if_pos q9, if_neg c_66]
            · refine gi_iconst dX6_syllablePrice_69 ?_
              refine gg_goto (tgt := 74) dX6_syllablePrice_70 (by decide) ?_
              refine gg_istore_n dX6_syllablePrice_74 (Nat.le_of_ble_eq_true rfl) rfl ?_
              refine gg_goto (tgt := 89) dX6_syllablePrice_75 (by decide) ?_
              have q9 : strK (dK D) k i = true := by
                cases q : strK (dK D) k i <;> rw [q] at c_62 <;> first | rfl | exact absurd c_62 (by decide)
              refine L_89 _ ?_ (by omega)
              unfold spE
              rw [if_neg (by omega), if_neg (by omega), if_pos q9, if_pos c_66]
        · refine gg_iload_n dX6_syllablePrice_39 rfl ?_
          refine gi_iconst dX6_syllablePrice_40 ?_
          refine gi_icmp_ne (tgt := 48) dX6_syllablePrice_41 (by decide) ⟨by omega, by omega⟩ ⟨by omega, by omega⟩ (fun c_41 => ?_) (fun c_41 => ?_)
          · refine gi_iconst dX6_syllablePrice_48 ?_
            refine gg_istore_n dX6_syllablePrice_49 (Nat.le_of_ble_eq_true rfl) rfl ?_
            refine gg_goto (tgt := 89) dX6_syllablePrice_50 (by decide) ?_
            refine L_89 _ ?_ (by omega)
            unfold spE
            rw [if_neg (by omega), if_pos (by omega)]
            rw [if_neg c_41]
          · refine gi_iconst dX6_syllablePrice_44 ?_
            refine gg_goto (tgt := 49) dX6_syllablePrice_45 (by decide) ?_
            refine gg_istore_n dX6_syllablePrice_49 (Nat.le_of_ble_eq_true rfl) rfl ?_
            refine gg_goto (tgt := 89) dX6_syllablePrice_50 (by decide) ?_
            refine L_89 _ ?_ (by omega)
            unfold spE
            rw [if_neg (by omega), if_pos (by omega)]
            rw [if_pos c_41]
      · exfalso
        have c_22 : (19 : Int) ≤ k := c_21
        omega
