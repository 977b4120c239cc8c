/-! the search: steps -/
def NOK : Int := 1073741824
def few (D : DT) : Int := if strK (dK D) (dF D * szk (dK D) - 1) 0 = true then dF D * szk (dK D) else dF D * szk (dK D) - 1
def edP (D : DT) (n : Int) : Int := if n = dP D then 0 else if n = dP D + 1 ∨ n = few D then 1 else -1
theorem edP_r (D : DT) (n : Int) : -1 ≤ edP D n ∧ edP D n ≤ 1 := by unfold edP; repeat' split <;> first | omega | skip
def IX (G : Nat → Int) (a b c d : Nat) : Prop := G 12 = (a : Int) ∧ G 13 = (b : Int) ∧ G 14 = (c : Int) ∧ G 15 = (d : Int) ∧ (a ≤ 3 ∧ b ≤ 3 ∧ c ≤ 3 ∧ d ≤ 3) ∧ a ≠ b ∧ a ≠ c ∧ a ≠ d ∧ b ≠ c ∧ b ≠ d ∧ c ≠ d
theorem gl62 {a : Nat} (h : a ≤ 3) : gl9 (62 + a) = 40 := by unfold gl9; rw [if_pos (by omega)]
theorem sh16 {a : Int} (h : 0 ≤ a ∧ a ≤ 30000) : iN a <<< (iN 16 &&& 31) = iN (a * 65536) := by
  obtain ⟨n, rfl⟩ := Int.eq_ofNat_of_zero_le h.1
  have hp : n * 2 ^ 16 < 2 ^ 32 := by omega
  rw [show iN 16 = nI 16 from rfl, iN_nI, pk_shlN _ 16 (smod_k (by omega)) hp, ← iN_nI]
  congr 1
set_option maxRecDepth 100000 in
set_option maxHeartbeats 4000000 in
theorem c_X6_endPrice {Γ : GT} {h : XH} {G : Nat → Int} {B : Nat → Int → Int} {D : DT} {i : Int} (S9 : ScM h.2 G D i) {n : Int} (hn : InR n) : Ct Γ M_X6_endPrice [.ref (g_L Γ 60), .int (iN n)] (gst Γ h G B) (fun r h9 => r = some (.int (iN (edP D n))) ∧ h9 = gst Γ h G B) (fun _ _ => False) := by
  refine Ct.of rfl (by decide +kernel) (Nat.le_of_ble_eq_true rfl) ?_
  generalize hQF9 : QM Γ _ _ _ = QF9
  obtain ⟨mq, g16, M1, hi, g17⟩ := id S9
  obtain ⟨⟨t1, t2, t3⟩, t4⟩ := id M1
  have z9 := szk_r (dK D)
  have hP : dP D = dF D * szk (dK D) := rfl
  have p9 : 4 ≤ dP D ∧ dP D ≤ 18 := by rw [hP]; rcases z9 with q | q <;> rw [q] <;> omega
  have hfw : few D = dP D ∨ few D = dP D - 1 := by rw [hP]; unfold few; split <;> omega
  refine gg_iload_n dX6_endPrice_0 rfl ?_
  refine gg_aload_n dX6_endPrice_1 rfl rfl ?_
  refine gk_getX6_32 rfl dX6_endPrice_2 g16 ?_
  refine gf_X6_125 rfl dX6_endPrice_5 (HAt.io t4) rfl ?_
  refine gi_icmp_ne (tgt := 13) dX6_endPrice_8 (by decide) ⟨by omega, by omega⟩ ⟨by omega, by omega⟩ (fun c_8 => ?_) (fun c_8 => ?_)
  · refine gg_iload_n dX6_endPrice_13 rfl ?_
    refine gg_aload_n dX6_endPrice_14 rfl rfl ?_
    refine gk_getX6_32 rfl dX6_endPrice_15 g16 ?_
    refine gf_X6_125 rfl dX6_endPrice_18 (HAt.io t4) rfl ?_
    refine gi_iconst dX6_endPrice_21 ?_
    refine gi_iadd dX6_endPrice_22 ?_
    refine gi_icmp_eq (tgt := 37) dX6_endPrice_23 (by decide) ⟨by omega, by omega⟩ ⟨by omega, by omega⟩ (fun c_23 => ?_) (fun c_23 => ?_)
    · refine gi_iconst dX6_endPrice_37 ?_
      refine gg_goto (tgt := 42) dX6_endPrice_38 (by decide) ?_
      subst hQF9
      refine gg_iret dX6_endPrice_42 rfl rfl ⟨(Nat.le_of_ble_eq_true rfl), (Nat.le_of_ble_eq_true rfl)⟩ ?_
      exact ⟨by unfold edP; rw [if_neg (by omega), if_pos (by omega)], rfl⟩
    · refine gg_iload_n dX6_endPrice_26 rfl ?_
      refine gg_aload_n dX6_endPrice_27 rfl rfl ?_
      refine gk_getX6_32 rfl dX6_endPrice_28 g16 ?_
      refine gc_X6_128 rfl dX6_endPrice_31 ⟨(Nat.le_of_ble_eq_true rfl), (Nat.le_of_ble_eq_true rfl)⟩ ⟨(Nat.le_of_ble_eq_true rfl), (Nat.le_of_ble_eq_true rfl)⟩ (Nat.le_of_ble_eq_true rfl) (HAt.io t4) (c_X4_fewestSyllables (h := gst Γ h G B) M1) (fun _ _ w => w.elim) (fun r_31 h_31 hp => ?_)
      obtain ⟨rfl, rfl⟩ := hp
      rw [show (if strK (dK D) (dF D * szk (dK D) - 1) 0 = true then dF D * szk (dK D) else dF D * szk (dK D) - 1) = few D from rfl]
      refine gi_icmp_ne (tgt := 41) dX6_endPrice_34 (by decide) ⟨by omega, by omega⟩ ⟨by omega, by omega⟩ (fun c_34 => ?_) (fun c_34 => ?_)
      · refine gi_iconst dX6_endPrice_41 ?_
        subst hQF9
        refine gg_iret dX6_endPrice_42 rfl rfl ⟨(Nat.le_of_ble_eq_true rfl), (Nat.le_of_ble_eq_true rfl)⟩ ?_
        exact ⟨by unfold edP; rw [if_neg (by omega), if_neg (by omega)], rfl⟩
      · refine gi_iconst dX6_endPrice_37 ?_
        refine gg_goto (tgt := 42) dX6_endPrice_38 (by decide) ?_
        subst hQF9
        refine gg_iret dX6_endPrice_42 rfl rfl ⟨(Nat.le_of_ble_eq_true rfl), (Nat.le_of_ble_eq_true rfl)⟩ ?_
        exact ⟨by unfold edP; rw [if_neg (by omega), if_pos (by omega)], rfl⟩
  · refine gi_iconst dX6_endPrice_11 ?_
    subst hQF9
    refine gg_iret dX6_endPrice_12 rfl rfl ⟨(Nat.le_of_ble_eq_true rfl), (Nat.le_of_ble_eq_true rfl)⟩ ?_
    exact ⟨by unfold edP; rw [if_pos (by omega)], rfl⟩
set_option maxRecDepth 100000 in
set_option maxHeartbeats 4000000 in
theorem c_X6_begin {Γ : GT} {h : XH} {G : Nat → Int} {B : Nat → Int → Int} {q1 : Nat} {kd ft c9 : Int} (M1 : MtAt h.2 q1 kd ft c9) {i : Int} (hi : i = 0 ∨ i = 1) : Ct Γ M_X6_begin [.ref (g_L Γ 60), .ref q1, .int (iN i)] (gst Γ h G B) (fun r h9 => r = none ∧ h9 = gst Γ h (uF (uF G 16 (q1 : Int)) 17 (plN (fun p => strK kd p i) (ft * szk kd).toNat : Nat)) (uA B 61 (fillF (B 61) 0 19))) (fun _ _ => False) := by
  refine Ct.of rfl (by decide +kernel) (Nat.le_of_ble_eq_true rfl) ?_
  generalize hQF9 : QM Γ _ _ _ = QF9
  obtain ⟨⟨t1, t2, t3⟩, t4⟩ := id M1
  have z9 := szk_r kd
  have p9 : 4 ≤ ft * szk kd ∧ ft * szk kd ≤ 18 := by rcases z9 with q | q <;> rw [q] <;> omega
  refine gg_aload_n dX6_begin_0 rfl rfl ?_
  refine gg_aload_n dX6_begin_1 rfl rfl ?_
  refine gk_putX6_32 rfl dX6_begin_2 rfl ?_
  refine gg_aload_n dX6_begin_5 rfl rfl ?_
  refine gg_iload_n dX6_begin_6 rfl ?_
  refine gi_if_eq (tgt := 17) dX6_begin_7 (by decide) ⟨by omega, by omega⟩ (fun c_7 => ?_) (fun c_7 => ?_)
  · refine gg_aload_n dX6_begin_17 rfl rfl ?_
    refine gf_X6_88 rfl dX6_begin_18 (HAt.io t4) rfl ?_
    refine gk_putX6_36 rfl dX6_begin_21 rfl ?_
    refine gg_aload_n dX6_begin_24 rfl rfl ?_
    refine gk_getX6_9 rfl dX6_begin_25 ?_
    refine gi_iconst dX6_begin_28 ?_
    refine gc_X6_61 rfl dX6_begin_29 ⟨(Nat.le_of_ble_eq_true rfl), (Nat.le_of_ble_eq_true rfl)⟩ ⟨(Nat.le_of_ble_eq_true rfl), (Nat.le_of_ble_eq_true rfl)⟩ (Nat.le_of_ble_eq_true rfl) (c_J7_fill_53178 (j := 61) (by decide) (by decide) (v := 0)) (fun _ _ w => w.elim) (fun r_29 h_29 hp => ?_)
    obtain ⟨rfl, rfl⟩ := hp
    subst hQF9
    refine gg_vret dX6_begin_32 rfl ⟨(Nat.le_of_ble_eq_true rfl), (Nat.le_of_ble_eq_true rfl)⟩ ?_
    have i9 : i = 0 := by omega
    subst i9
    exact ⟨rfl, rfl⟩
  · refine gg_aload_n dX6_begin_10 rfl rfl ?_
    refine gf_X6_85 rfl dX6_begin_11 (HAt.io t4) rfl ?_
    refine gg_goto (tgt := 21) dX6_begin_14 (by decide) ?_
    refine gk_putX6_36 rfl dX6_begin_21 rfl ?_
    refine gg_aload_n dX6_begin_24 rfl rfl ?_
    refine gk_getX6_9 rfl dX6_begin_25 ?_
    refine gi_iconst dX6_begin_28 ?_
    refine gc_X6_61 rfl dX6_begin_29 ⟨(Nat.le_of_ble_eq_true rfl), (Nat.le_of_ble_eq_true rfl)⟩ ⟨(Nat.le_of_ble_eq_true rfl), (Nat.le_of_ble_eq_true rfl)⟩ (Nat.le_of_ble_eq_true rfl) (c_J7_fill_53178 (j := 61) (by decide) (by decide) (v := 0)) (fun _ _ w => w.elim) (fun r_29 h_29 hp => ?_)
    obtain ⟨rfl, rfl⟩ := hp
    subst hQF9
    refine gg_vret dX6_begin_32 rfl ⟨(Nat.le_of_ble_eq_true rfl), (Nat.le_of_ble_eq_true rfl)⟩ ?_
    have i9 : i = 1 := by omega
    subst i9
    exact ⟨rfl, rfl⟩
def toE (D : DT) (w f e : Int) : Int := 2 * (f / 2 + dS D w - e) + e
def kyE (ky : Int → Int) (w f e p : Int) : Int := ky f + p * 65536 + e * (135168 + 2 ^ (w + 1).toNat)
/-- one way on: from f, elided with the next word or not, at a price -/
def ex1 (D : DT) (w : Int) (ky wy : Int → Int) (f e p : Int) (n : (Int → Int) × (Int → Int)) : (Int → Int) × (Int → Int) :=
  if p < 0 ∨ 40 ≤ toE D w f e then n else (up n.1 (toE D w f e) (min (n.1 (toE D w f e)) (kyE ky w f e p)), up n.2 (toE D w f e) (n.2 (toE D w f e) + wy f))
theorem p12 {w : Int} (hw : 0 ≤ w ∧ w < 12) : 0 < (2 : Int) ^ (w + 1).toNat ∧ (2 : Int) ^ (w + 1).toNat ≤ 4096 := by
  refine ⟨Int.pow_pos (by omega), ?_⟩
  have h1 : 2 ^ (w + 1).toNat ≤ 2 ^ 12 := Nat.pow_le_pow_right (n := 2) (by omega) (show (w + 1).toNat ≤ 12 by omega)
  have h2 : (((2 : Nat) ^ (w + 1).toNat : Nat) : Int) = (2 : Int) ^ (w + 1).toNat := by rw [Int.natCast_pow]; rfl
  rw [← h2]
  exact Int.ofNat_le.mpr (Nat.le_trans h1 (by decide))
set_option maxRecDepth 100000 in
set_option maxHeartbeats 4000000 in
theorem c_X6_extend {Γ : GT} {h : XH} {G : Nat → Int} {B : Nat → Int → Int} {D : DT} (R9 : RdD G B D) {a b c d : Nat} (X9 : IX G a b c d) (K1 : ∀ j, 0 ≤ j → j < 40 → 0 ≤ B (62 + a) j ∧ B (62 + a) j ≤ NOK) (K2 : ∀ j, 0 ≤ j → j < 40 → 0 ≤ B (62 + c) j ∧ B (62 + c) j ≤ NOK) {w f e p : Int} (hw : 0 ≤ w ∧ w < dL D) (hf : 0 ≤ f ∧ f < 40) (he : e = 0 ∨ e = 1) (hp9 : -1 ≤ p ∧ p ≤ 60) (hk9 : B (62 + a) f ≤ 900000000) : Ct Γ M_X6_extend [.ref (g_L Γ 60), .int (iN f), .int (iN w), .int (iN e), .int (iN p)] (gst Γ h G B) (fun r h9 => r = none ∧ h9 = gst Γ h G (uA (uA B (62 + c) (ex1 D w (B (62 + a)) (B (62 + b)) f e p (B (62 + c), B (62 + d))).1) (62 + d) (ex1 D w (B (62 + a)) (B (62 + b)) f e p (B (62 + c), B (62 + d))).2)) (fun _ _ => False) := by
  refine Ct.of rfl (by decide +kernel) (Nat.le_of_ble_eq_true rfl) ?_
  generalize hQF9 : QM Γ _ _ _ = QF9
  obtain ⟨x1, x2, x3, x4, x5, x6⟩ := id X9
  have sr := R9.s_r hw
  have kr := K1 f hf.1 hf.2
  obtain ⟨r1, r2, r3, r4, r5, r6⟩ := id R9
  have pw := p12 (w := w) ⟨hw.1, by omega⟩
  have hd2 : 0 ≤ f / 2 ∧ f / 2 ≤ 19 := by omega
  have hto : toE D w f e = 2 * (f / 2 + dS D w - e) + e := rfl
  have hky : kyE (B (62 + a)) w f e p = B (62 + a) f + p * 65536 + e * (135168 + 2 ^ (w + 1).toNat) := rfl
  have hep : 0 ≤ e * (135168 + 2 ^ (w + 1).toNat) ∧ e * (135168 + 2 ^ (w + 1).toNat) ≤ 139264 := by rcases he with q | q <;> rw [q] <;> omega
  refine gi_iconst dX6_extend_0 ?_
  refine gg_iload_n dX6_extend_1 rfl ?_
  refine gi_iconst dX6_extend_2 ?_
  refine gi_ishr (f / 2) (by rw [bt_shr ⟨by omega, by omega⟩ ⟨by omega, by omega⟩]; rfl) dX6_extend_3 ?_
  refine gg_aload_n dX6_extend_4 rfl rfl ?_
  refine gk_getX6_43 rfl dX6_extend_5 ?_
  refine gg_iload_n dX6_extend_8 rfl ?_
  refine gc_X6_101 rfl dX6_extend_9 ⟨(Nat.le_of_ble_eq_true rfl), (Nat.le_of_ble_eq_true rfl)⟩ ⟨(Nat.le_of_ble_eq_true rfl), (Nat.le_of_ble_eq_true rfl)⟩ (Nat.le_of_ble_eq_true rfl) (HAt.mu gst_50) (c_X5_countOf R9 hw) (fun _ _ w => w.elim) (fun r_9 h_9 hp => ?_)
  obtain ⟨rfl, rfl⟩ := hp
  refine gi_iadd dX6_extend_12 ?_
  refine gg_iload_n dX6_extend_13 rfl ?_
  refine gi_isub dX6_extend_14 ?_
  refine gi_imul dX6_extend_15 ?_
  refine gg_iload_n dX6_extend_16 rfl ?_
  refine gi_iadd dX6_extend_17 ?_
  refine gg_istore dX6_extend_18 (Nat.le_of_ble_eq_true rfl) rfl ?_
  rw [← hto]
  refine gg_iload dX6_extend_20 rfl ?_
  refine gi_iconst dX6_extend_22 ?_
  refine gi_icmp_eq (tgt := 48) dX6_extend_23 (by decide) ⟨by omega, by omega⟩ ⟨by omega, by omega⟩ (fun c_23 => ?_) (fun c_23 => ?_)
  · subst hQF9
    refine gg_vret dX6_extend_48 rfl ⟨(Nat.le_of_ble_eq_true rfl), (Nat.le_of_ble_eq_true rfl)⟩ ?_
    refine ⟨rfl, ?_⟩
    unfold ex1
    rw [if_pos (by omega)]
    dsimp only
    rw [uA_id (A := B) (k := 62 + c), uA_id]
  · refine gg_iload_n dX6_extend_26 rfl ?_
    refine gi_if_lt (tgt := 48) dX6_extend_27 (by decide) ⟨by omega, by omega⟩ (fun c_27 => ?_) (fun c_27 => ?_)
    · exact absurd c_27 (by omega)
    · refine gg_iload_n dX6_extend_30 rfl ?_
      refine gi_bipush dX6_extend_31 (by decide) ?_
      refine gi_icmp_ge (tgt := 48) dX6_extend_33 (by decide) ⟨by omega, by omega⟩ ⟨by omega, by omega⟩ (fun c_33 => ?_) (fun c_33 => ?_)
      · exact absurd c_33 (by omega)
      · refine gg_iload dX6_extend_36 rfl ?_
        refine gi_if_lt (tgt := 48) dX6_extend_38 (by decide) ⟨by omega, by omega⟩ (fun c_38 => ?_) (fun c_38 => ?_)
        · exfalso
          omega
        · refine gg_iload dX6_extend_41 rfl ?_
          refine gi_bipush dX6_extend_43 (by decide) ?_
          refine gi_icmp_lt (tgt := 49) dX6_extend_45 (by decide) ⟨by omega, by omega⟩ ⟨by omega, by omega⟩ (fun c_45 => ?_) (fun c_45 => ?_)
          · refine gi_ldc (z := 135168) (by decide) (wi_45 _ (List.mem_of_getElem? (i := 20) rfl)) rfl dX6_extend_49 ?_
            refine gi_iconst dX6_extend_51 ?_
            refine gg_iload_n dX6_extend_52 rfl ?_
            refine gi_iconst dX6_extend_53 ?_
            refine gi_iadd dX6_extend_54 ?_
            refine gi_ishl _ (bt_shl ⟨by omega, by omega⟩) dX6_extend_55 ?_
            refine gi_iadd dX6_extend_56 ?_
            refine gg_istore dX6_extend_57 (Nat.le_of_ble_eq_true rfl) rfl ?_
            refine gg_aload_n dX6_extend_59 rfl rfl ?_
            refine gk_getX6_15 rfl dX6_extend_60 x1 ?_
            refine gg_iload_n dX6_extend_63 rfl ?_
            refine gk_iald dX6_extend_64 (by rw [gl62 (by omega)]; decide) (by rw [gl62 (by omega)]; decide) ⟨by omega, by rw [gl62 (by omega)]; show _ < (40 : Int); omega⟩ rfl ?_
            refine gg_iload dX6_extend_65 rfl ?_
            refine gi_bipush dX6_extend_67 (by decide) ?_
            refine gi_ishl _ (sh16 ⟨by omega, by omega⟩) dX6_extend_69 ?_
            refine gi_iadd dX6_extend_70 ?_
            refine gg_iload_n dX6_extend_71 rfl ?_
            refine gg_iload dX6_extend_72 rfl ?_
            refine gi_imul dX6_extend_74 ?_
            refine gi_iadd dX6_extend_75 ?_
            refine gg_istore dX6_extend_76 (Nat.le_of_ble_eq_true rfl) rfl ?_
            rw [← hky]
            refine gg_aload_n dX6_extend_78 rfl rfl ?_
            refine gk_getX6_21 rfl dX6_extend_79 x3 ?_
            refine gg_iload dX6_extend_82 rfl ?_
            refine gg_aload_n dX6_extend_84 rfl rfl ?_
            refine gk_getX6_21 rfl dX6_extend_85 x3 ?_
            refine gg_iload dX6_extend_88 rfl ?_
            refine gk_iald dX6_extend_90 (by rw [gl62 (by omega)]; decide) (by rw [gl62 (by omega)]; decide) ⟨by omega, by rw [gl62 (by omega)]; show _ < (40 : Int); omega⟩ rfl ?_
            have k2r := K2 (toE D w f e) (by omega) (by omega)
            unfold NOK at k2r kr
            refine gg_iload dX6_extend_91 rfl ?_
            refine gc_X6_79 rfl dX6_extend_93 ⟨(Nat.le_of_ble_eq_true rfl), (Nat.le_of_ble_eq_true rfl)⟩ ⟨(Nat.le_of_ble_eq_true rfl), (Nat.le_of_ble_eq_true rfl)⟩ ?_
            rw [iN_min ⟨by omega, by omega⟩ ⟨by omega, by omega⟩]
            refine gk_iast dX6_extend_96 (by rw [gl62 (by omega)]; decide) (by rw [gl62 (by omega)]; decide) ⟨by omega, by rw [gl62 (by omega)]; show _ < (40 : Int); omega⟩ rfl ?_
            refine gg_aload_n dX6_extend_97 rfl rfl ?_
            refine gk_getX6_24 rfl dX6_extend_98 x4 ?_
            refine gg_iload dX6_extend_101 rfl ?_
            refine gg_dup2 dX6_extend_103 rfl rfl ?_
            refine gk_iald dX6_extend_104 (by rw [gl62 (by omega)]; decide) (by rw [gl62 (by omega)]; decide) ⟨by omega, by rw [gl62 (by omega)]; show _ < (40 : Int); omega⟩ rfl ?_
            rw [uA_n (show 62 + d ≠ 62 + c by omega)]
            refine gg_aload_n dX6_extend_105 rfl rfl ?_
            refine gk_getX6_18 rfl dX6_extend_106 x2 ?_
            refine gg_iload_n dX6_extend_109 rfl ?_
            refine gk_iald dX6_extend_110 (by rw [gl62 (by omega)]; decide) (by rw [gl62 (by omega)]; decide) ⟨by omega, by rw [gl62 (by omega)]; show _ < (40 : Int); omega⟩ rfl ?_
            rw [uA_n (show 62 + b ≠ 62 + c by omega)]
            refine gi_iadd dX6_extend_111 ?_
            refine gk_iast dX6_extend_112 (by rw [gl62 (by omega)]; decide) (by rw [gl62 (by omega)]; decide) ⟨by omega, by rw [gl62 (by omega)]; show _ < (40 : Int); omega⟩ rfl ?_
            subst hQF9
            refine gg_vret dX6_extend_113 rfl ⟨(Nat.le_of_ble_eq_true rfl), (Nat.le_of_ble_eq_true rfl)⟩ ?_
            refine ⟨rfl, ?_⟩
            unfold ex1
            rw [if_neg (by omega)]
            dsimp only
            rw [uA_n (show 62 + d ≠ 62 + c by omega)]
          · subst hQF9
            refine gg_vret dX6_extend_48 rfl ⟨(Nat.le_of_ble_eq_true rfl), (Nat.le_of_ble_eq_true rfl)⟩ ?_
            refine ⟨rfl, ?_⟩
            unfold ex1
            rw [if_pos (by omega)]
            dsimp only
            rw [uA_id (A := B) (k := 62 + c), uA_id]
def bs1 (D : DT) (ky wy : Int → Int) (k : Int) (b : Int × Int) : Int × Int :=
  if edP D k ≠ -1 ∧ ky (2 * k) ≠ NOK then (min b.1 (ky (2 * k) + edP D k * 65536), b.2 + wy (2 * k)) else b
def bsF (D : DT) (ky wy : Int → Int) (fd : Int) : Nat → Int × Int
  | 0 => (NOK, fd)
  | k + 1 => bs1 D ky wy k (bsF D ky wy fd k)
theorem bsF_r {D : DT} {ky wy : Int → Int} {fd : Int} (hk : ∀ j, 0 ≤ j → j < 40 → 0 ≤ ky j ∧ ky j ≤ NOK) : ∀ k : Nat, k ≤ 20 → 0 ≤ (bsF D ky wy fd k).1 ∧ (bsF D ky wy fd k).1 ≤ NOK
  | 0, _ => by simp [bsF, NOK]
  | k + 1, h => by
    have ih := bsF_r (D := D) (wy := wy) (fd := fd) hk k (by omega)
    have h1 := hk (2 * k) (by omega) (by omega)
    have h2 := edP_r D k
    rw [bsF, bs1]
    split
    · dsimp only; omega
    · exact ih
set_option maxRecDepth 100000 in
set_option maxHeartbeats 4000000 in
theorem c_X6_bestAtEnd {Γ : GT} {h : XH} {G : Nat → Int} {B : Nat → Int → Int} {D : DT} {i : Int} (S9 : ScM h.2 G D i) {a b c d : Nat} (X9 : IX G a b c d) (K1 : ∀ j, 0 ≤ j → j < 40 → 0 ≤ B (62 + a) j ∧ (B (62 + a) j = NOK ∨ B (62 + a) j ≤ 900000000)) : Ct Γ M_X6_bestAtEnd [.ref (g_L Γ 60)] (gst Γ h G B) (fun r h9 => r = some (.int (iN (bsF D (B (62 + a)) (B (62 + b)) (G 18) 20).1)) ∧ h9 = gst Γ h (uF G 18 (bsF D (B (62 + a)) (B (62 + b)) (G 18) 20).2) B) (fun _ _ => False) := by
  refine Ct.of rfl (by decide +kernel) (Nat.le_of_ble_eq_true rfl) ?_
  generalize hQF9 : QM Γ _ _ _ = QF9
  obtain ⟨x1, x2, x3, x4, x5, x6⟩ := id X9
  have K3 : ∀ j, 0 ≤ j → j < 40 → 0 ≤ B (62 + a) j ∧ B (62 + a) j ≤ NOK := fun j j0 j1 => by
    have := K1 j j0 j1; unfold NOK at this ⊢; omega
  refine gi_ldc (z := 1073741824) (by decide) (wi_44 _ (List.mem_of_getElem? (i := 23) rfl)) rfl dX6_bestAtEnd_0 ?_
  refine gg_istore_n dX6_bestAtEnd_2 (Nat.le_of_ble_eq_true rfl) rfl ?_
  refine gi_iconst dX6_bestAtEnd_3 ?_
  refine gg_istore_n dX6_bestAtEnd_4 (Nat.le_of_ble_eq_true rfl) rfl ?_
  have L_5 : ∀ (n9 : Nat) (k : Int), ((20 - k).toNat) = n9 → ∀ (hk : 0 ≤ k ∧ k ≤ 20), GG Γ M_X6_bestAtEnd QF9 (0, 0) (gst Γ h (uF G 18 (bsF D (B (62 + a)) (B (62 + b)) (G 18) k.toNat).2) B) 5 [some (.ref (g_L Γ 60)), some (.int (iN (bsF D (B (62 + a)) (B (62 + b)) (G 18) k.toNat).1)), some (.int (iN k)), none] [] := by
    intro n9
    induction n9 using Nat.strongRecOn with
    | ind n9 ih_5 => 
      intro k hm9 hk
      have br := bsF_r (D := D) (wy := B (62 + b)) (fd := G 18) K3 k.toNat (by omega)
      unfold NOK at br
      refine gi_iconst dX6_bestAtEnd_5 ?_
      refine gg_iload_n dX6_bestAtEnd_6 rfl ?_
      refine gi_imul dX6_bestAtEnd_7 ?_
      refine gi_bipush dX6_bestAtEnd_8 (by decide) ?_
      refine gi_icmp_ge (tgt := 78) dX6_bestAtEnd_10 (by decide) ⟨by omega, by omega⟩ ⟨by omega, by omega⟩ (fun c_10 => ?_) (fun c_10 => ?_)
      · refine gg_iload_n dX6_bestAtEnd_78 rfl ?_
        subst hQF9
        refine gg_iret dX6_bestAtEnd_79 rfl rfl ⟨(Nat.le_of_ble_eq_true rfl), (Nat.le_of_ble_eq_true rfl)⟩ ?_
        rw [show k.toNat = 20 by omega]
        exact ⟨rfl, rfl⟩
      · have L_72 : ∀ (v : Int × Int) (hv : v = bs1 D (B (62 + a)) (B (62 + b)) k (bsF D (B (62 + a)) (B (62 + b)) (G 18) k.toNat)), GG Γ M_X6_bestAtEnd QF9 (0, 0) (gst Γ h (uF G 18 v.2) B) 72 [some (.ref (g_L Γ 60)), some (.int (iN v.1)), some (.int (iN k)), none] [] := by
          intro v hv
          refine gi_iinc dX6_bestAtEnd_72 rfl (Nat.le_of_ble_eq_true rfl) rfl ?_
          refine gg_goto (tgt := 5) dX6_bestAtEnd_75 (by decide) ?_
          refine gg_drop 3 ?_
          exact gg_conv (ih_5 _ (by omega) (k + 1) rfl (by omega)) (by rw [show (k + 1).toNat = k.toNat + 1 by omega, bsF, Int.toNat_of_nonneg hk.1, ← hv]) (by rw [show (k + 1).toNat = k.toNat + 1 by omega, bsF, Int.toNat_of_nonneg hk.1, ← hv]; rfl) rfl
        refine gg_aload_n dX6_bestAtEnd_13 rfl rfl ?_
        refine gg_iload_n dX6_bestAtEnd_14 rfl ?_
        refine gc_X6_106 rfl dX6_bestAtEnd_15 ⟨(Nat.le_of_ble_eq_true rfl), (Nat.le_of_ble_eq_true rfl)⟩ ⟨(Nat.le_of_ble_eq_true rfl), (Nat.le_of_ble_eq_true rfl)⟩ (Nat.le_of_ble_eq_true rfl) (HAt.mu gst_60) (c_X6_endPrice (S9.fr (uF_n (by decide)) (uF_n (by decide))) ⟨by omega, by omega⟩) (fun _ _ w => w.elim) (fun r_15 h_15 hp => ?_)
        obtain ⟨rfl, rfl⟩ := hp
        have er := edP_r D k
        have k1r := K1 (2 * k) (by omega) (by omega)
        unfold NOK at k1r
        refine gg_istore_n dX6_bestAtEnd_18 (Nat.le_of_ble_eq_true rfl) rfl ?_
        refine gg_iload_n dX6_bestAtEnd_19 rfl ?_
        refine gi_iconst dX6_bestAtEnd_20 ?_
        refine gi_icmp_eq (tgt := 72) dX6_bestAtEnd_21 (by decide) ⟨by omega, by omega⟩ ⟨by omega, by omega⟩ (fun c_21 => ?_) (fun c_21 => ?_)
        · refine gg_drop 3 ?_
          exact L_72 (bsF D (B (62 + a)) (B (62 + b)) (G 18) k.toNat) (by unfold bs1; rw [if_neg (fun q => q.1 c_21)])
        · refine gg_aload_n dX6_bestAtEnd_24 rfl rfl ?_
          refine gk_getX6_15 rfl dX6_bestAtEnd_25 (by rw [uF_n (by decide)]; exact x1) ?_
          refine gi_iconst dX6_bestAtEnd_28 ?_
          refine gg_iload_n dX6_bestAtEnd_29 rfl ?_
          refine gi_imul dX6_bestAtEnd_30 ?_
          refine gk_iald dX6_bestAtEnd_31 (by rw [gl62 (by omega)]; decide) (by rw [gl62 (by omega)]; decide) ⟨by omega, by rw [gl62 (by omega)]; show _ < (40 : Int); omega⟩ rfl ?_
          refine gi_ldc (z := 1073741824) (by decide) (wi_44 _ (List.mem_of_getElem? (i := 23) rfl)) rfl dX6_bestAtEnd_32 ?_
          refine gi_icmp_eq (tgt := 72) dX6_bestAtEnd_34 (by decide) ⟨by omega, by omega⟩ ⟨by omega, by omega⟩ (fun c_34 => ?_) (fun c_34 => ?_)
          · refine gg_drop 3 ?_
            exact L_72 (bsF D (B (62 + a)) (B (62 + b)) (G 18) k.toNat) (by unfold bs1; rw [if_neg (fun q => q.2 c_34)])
          · refine gg_iload_n dX6_bestAtEnd_37 rfl ?_
            refine gg_aload_n dX6_bestAtEnd_38 rfl rfl ?_
            refine gk_getX6_15 rfl dX6_bestAtEnd_39 (by rw [uF_n (by decide)]; exact x1) ?_
            refine gi_iconst dX6_bestAtEnd_42 ?_
            refine gg_iload_n dX6_bestAtEnd_43 rfl ?_
            refine gi_imul dX6_bestAtEnd_44 ?_
            refine gk_iald dX6_bestAtEnd_45 (by rw [gl62 (by omega)]; decide) (by rw [gl62 (by omega)]; decide) ⟨by omega, by rw [gl62 (by omega)]; show _ < (40 : Int); omega⟩ rfl ?_
            refine gg_iload_n dX6_bestAtEnd_46 rfl ?_
            refine gi_bipush dX6_bestAtEnd_47 (by decide) ?_
            refine gi_ishl _ (sh16 ⟨by omega, by omega⟩) dX6_bestAtEnd_49 ?_
            refine gi_iadd dX6_bestAtEnd_50 ?_
            refine gc_X6_79 rfl dX6_bestAtEnd_51 ⟨(Nat.le_of_ble_eq_true rfl), (Nat.le_of_ble_eq_true rfl)⟩ ⟨(Nat.le_of_ble_eq_true rfl), (Nat.le_of_ble_eq_true rfl)⟩ ?_
            rw [iN_min ⟨by omega, by omega⟩ ⟨by omega, by omega⟩]
            refine gg_istore_n dX6_bestAtEnd_54 (Nat.le_of_ble_eq_true rfl) rfl ?_
            refine gg_aload_n dX6_bestAtEnd_55 rfl rfl ?_
            refine gg_dup dX6_bestAtEnd_56 rfl ?_
            refine gk_getX6_40 rfl dX6_bestAtEnd_57 uF_s ?_
            refine gg_aload_n dX6_bestAtEnd_60 rfl rfl ?_
            refine gk_getX6_18 rfl dX6_bestAtEnd_61 (by rw [uF_n (by decide)]; exact x2) ?_
            refine gi_iconst dX6_bestAtEnd_64 ?_
            refine gg_iload_n dX6_bestAtEnd_65 rfl ?_
            refine gi_imul dX6_bestAtEnd_66 ?_
            refine gk_iald dX6_bestAtEnd_67 (by rw [gl62 (by omega)]; decide) (by rw [gl62 (by omega)]; decide) ⟨by omega, by rw [gl62 (by omega)]; show _ < (40 : Int); omega⟩ rfl ?_
            refine gi_iadd dX6_bestAtEnd_68 ?_
            refine gk_putX6_40 rfl dX6_bestAtEnd_69 (by rw [uF_ss]) ?_
            refine gg_drop 3 ?_
            exact L_72 (min (bsF D (B (62 + a)) (B (62 + b)) (G 18) k.toNat).1 (B (62 + a) (2 * k) + edP D k * 65536), (bsF D (B (62 + a)) (B (62 + b)) (G 18) k.toNat).2 + B (62 + b) (2 * k)) (by unfold bs1; rw [if_pos ⟨c_21, c_34⟩])
  refine gg_drop 3 ?_
  exact gg_conv (L_5 _ 0 rfl (by omega)) (by rw [show (0 : Int).toNat = 0 from rfl, bsF]; dsimp only; rw [uF_id]) rfl rfl
