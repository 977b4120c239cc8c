/-! metres and exceptions read -/
/-- the cell of a metre -/
def mtX (kd ft c9 : Int) : XE := .inr (6, [.int (iN kd), .int (iN ft), .int (iN c9), .int (iN (szk kd)), .int (iN (ft * szk kd)), .int (iN ((plN (fun p => strK kd p 0) (ft * szk kd).toNat : Nat) : Int)), .int (iN ((plN (fun p => strK kd p 1) (ft * szk kd).toNat : Nat) : Int))])
def pmL (f : Int → Int) : Int := sln ((kF (f 0)).toNat + 1)
def pmM (f : Int → Int) (n : Int) : Int := mtS ((kF (f 0)).toNat + 1) f n (pmL f).toNat 0 0
/-- a text read as a metre: whether it is one, where it stops, kind, feet, caesura -/
def pMt (f : Int → Int) (n : Int) : Bool × Int × Int × Int × Int :=
  if n ≤ 0 ∨ kF (f 0) < 0 then (false, 0, 0, 0, 0)
  else if pmM f n ≠ pmL f then (false, pmM f n, 0, 0, 0)
  else if ¬ (pmM f n < n ∧ f (pmM f n) = 32) then (false, pmM f n, 0, 0, 0)
  else if ¬ (pmM f n + 1 < n ∧ 50 ≤ f (pmM f n + 1) ∧ f (pmM f n + 1) ≤ 54) then (false, pmM f n + 1, 0, 0, 0)
  else if pmM f n + 1 + 1 < n ∧ f (pmM f n + 1 + 1) = 47 then
    (if ¬ (pmM f n + 1 + 1 + 1 < n ∧ 49 ≤ f (pmM f n + 1 + 1 + 1) ∧ f (pmM f n + 1 + 1 + 1) ≤ 48 + (f (pmM f n + 1) - 48 - 1)) then (false, pmM f n + 1 + 1 + 1, 0, 0, 0)
     else if pmM f n + 1 + 1 + 1 + 1 < n then (false, pmM f n + 1 + 1 + 1 + 1, 0, 0, 0) else (true, pmM f n + 1 + 1 + 1 + 1, kF (f 0), f (pmM f n + 1) - 48, f (pmM f n + 1 + 1 + 1) - 48))
  else if pmM f n + 1 + 1 < n then (false, pmM f n + 1 + 1, 0, 0, 0) else (true, pmM f n + 1 + 1, kF (f 0), f (pmM f n + 1) - 48, 0)
set_option maxRecDepth 100000 in
set_option maxHeartbeats 4000000 in
theorem c_X1_parseMetre {Γ : GT} {h : XH} {G : Nat → Int} {B : Nat → Int → Int} (p4 : 0 ≤ G 4 ∧ G 4 ≤ 60) (g3 : G 3 = 0) (p5 : ∀ k, 0 ≤ k → k < G 4 → 0 ≤ B 41 k ∧ B 41 k < 65536) : Ct Γ M_X1_parseMetre [.ref (g_L Γ 40)] (gst Γ h G B) (fun r h9 => ∃ ι' : Nat → Option XE, h9 = gst Γ (h.1, ι') (uF G 3 (pMt (B 41) (G 4)).2.1) B ∧ ext h.2 ι' ∧ (((pMt (B 41) (G 4)).1 = true ∧ ∃ q : Nat, r = some (.ref q) ∧ MtAt ι' q (pMt (B 41) (G 4)).2.2.1 (pMt (B 41) (G 4)).2.2.2.1 (pMt (B 41) (G 4)).2.2.2.2) ∨ ((pMt (B 41) (G 4)).1 = false ∧ r = some .null))) (fun _ _ => False) := by
  refine Ct.of rfl (by decide +kernel) (Nat.le_of_ble_eq_true rfl) ?_
  generalize hQF9 : QM Γ _ _ _ = QF9
  refine gg_aload_n dX1_parseMetre_0 rfl rfl ?_
  refine gi_iconst dX1_parseMetre_1 ?_
  refine gc_X1_78 rfl dX1_parseMetre_2 ⟨(Nat.le_of_ble_eq_true rfl), (Nat.le_of_ble_eq_true rfl)⟩ ⟨(Nat.le_of_ble_eq_true rfl), (Nat.le_of_ble_eq_true rfl)⟩ (Nat.le_of_ble_eq_true rfl) (HAt.mu gst_40) (c_X1_characterAt p4 (by omega) p5 (p := 0) ⟨by omega, by omega⟩) (fun _ _ w => w.elim) (fun r_2 h_2 hp => ?_)
  obtain ⟨rfl, rfl⟩ := hp
  have hch : (0 < G 4 ∧ chA G B 0 = B 41 0 ∧ 0 ≤ B 41 0 ∧ B 41 0 < 65536) ∨ (G 4 ≤ 0 ∧ chA G B 0 = 0) := by
    unfold chA; rcases Int.lt_or_le 0 (G 4) with q | q
    · rw [if_pos (by omega)]; exact Or.inl ⟨q, rfl, p5 _ (by omega) q⟩
    · rw [if_neg (by omega)]; exact Or.inr ⟨q, rfl⟩
  refine gc_X1_82 rfl dX1_parseMetre_5 ⟨(Nat.le_of_ble_eq_true rfl), (Nat.le_of_ble_eq_true rfl)⟩ ⟨(Nat.le_of_ble_eq_true rfl), (Nat.le_of_ble_eq_true rfl)⟩ (Nat.le_of_ble_eq_true rfl) (c_X1_kindFrom (h := gst Γ h G B) (c := chA G B 0) ⟨by omega, by omega⟩) (fun _ _ w => w.elim) (fun r_5 h_5 hp => ?_)
  obtain ⟨rfl, rfl⟩ := hp
  have kr := kF_r (chA G B 0)
  refine gg_istore_n dX1_parseMetre_8 (Nat.le_of_ble_eq_true rfl) rfl ?_
  refine gg_iload_n dX1_parseMetre_9 rfl ?_
  refine gi_iconst dX1_parseMetre_10 ?_
  refine gi_icmp_eq (tgt := 34) dX1_parseMetre_11 (by decide) ⟨by omega, by omega⟩ ⟨by omega, by omega⟩ (fun c_11 => ?_) (fun c_11 => ?_)
  · refine gg_null dX1_parseMetre_34 ?_
    subst hQF9
    refine gg_aret dX1_parseMetre_35 rfl rfl rfl ⟨(Nat.le_of_ble_eq_true rfl), (Nat.le_of_ble_eq_true rfl)⟩ ?_
    have ep : pMt (B 41) (G 4) = (false, 0, 0, 0, 0) := by
      unfold pMt; rw [if_pos]
      rcases hch with z | z
      · rw [z.2.1] at c_11; exact Or.inr (by rw [c_11]; decide)
      · exact Or.inl z.1
    refine ⟨h.2, ?_, ext.rfl9, Or.inr ⟨by rw [ep], rfl⟩⟩
    rw [ep, uF_e g3]
  · have n0 : 0 < G 4 := by
      rcases hch with z | z
      · exact z.1
      · rw [z.2] at c_11; exact absurd rfl c_11
    have ec : chA G B 0 = B 41 0 := (hch.resolve_right (fun z => by omega)).2.1
    rw [ec] at c_11 kr ⊢
    refine gg_aload_n dX1_parseMetre_14 rfl rfl ?_
    refine gg_iload_n dX1_parseMetre_15 rfl ?_
    refine gc_X1_86 rfl dX1_parseMetre_16 ⟨(Nat.le_of_ble_eq_true rfl), (Nat.le_of_ble_eq_true rfl)⟩ ⟨(Nat.le_of_ble_eq_true rfl), (Nat.le_of_ble_eq_true rfl)⟩ (Nat.le_of_ble_eq_true rfl) (c_X1_nameOf (h := gst Γ h G B) (kd := kF (B 41 0)) ⟨by omega, by omega⟩) (fun _ _ w => w.elim) (fun r_16 h_16 hp => ?_)
    obtain ⟨rfl, rfl⟩ := hp
    refine gc_X1_90 rfl dX1_parseMetre_19 ⟨(Nat.le_of_ble_eq_true rfl), (Nat.le_of_ble_eq_true rfl)⟩ ⟨(Nat.le_of_ble_eq_true rfl), (Nat.le_of_ble_eq_true rfl)⟩ (Nat.le_of_ble_eq_true rfl) (HAt.mu gst_40) (c_X1_passAll p4 (by omega) p5 (by omega) (i := (kF (B 41 0)).toNat + 1) (by omega)) (fun _ _ w => w.elim) (fun r_19 h_19 hp => ?_)
    obtain ⟨rfl, rfl⟩ := hp
    rw [g3, Int.zero_add, show mtS ((kF (B 41 0)).toNat + 1) (B 41) (G 4) (sln ((kF (B 41 0)).toNat + 1)).toNat 0 0 = pmM (B 41) (G 4) from rfl, show sln ((kF (B 41 0)).toNat + 1) = pmL (B 41) from rfl]
    have mr : 0 ≤ pmM (B 41) (G 4) ∧ pmM (B 41) (G 4) ≤ G 4 := by
      have := mtS_r (i := (kF (B 41 0)).toNat + 1) (f := B 41) (n := G 4) (pmL (B 41)).toNat 0 0
      unfold pmM; omega
    refine gi_if_eq (tgt := 34) dX1_parseMetre_22 (by decide) (bi_r _) (fun c_22 => ?_) (fun c_22 => ?_)
    · rw [bi_f] at c_22
      rw [decide_eq_false_iff_not] at c_22
      refine gg_null dX1_parseMetre_34 ?_
      subst hQF9
      refine gg_aret dX1_parseMetre_35 rfl rfl rfl ⟨(Nat.le_of_ble_eq_true rfl), (Nat.le_of_ble_eq_true rfl)⟩ ?_
      have ep : pMt (B 41) (G 4) = (false, pmM (B 41) (G 4), 0, 0, 0) := by
        unfold pMt; rw [if_neg (show ¬ (G 4 ≤ 0 ∨ kF (B 41 0) < 0) by omega), if_pos c_22]
      refine ⟨h.2, ?_, ext.rfl9, Or.inr ⟨by rw [ep], rfl⟩⟩
      rw [ep]
    · rw [bi_t] at c_22
      rw [decide_eq_true_iff] at c_22
      have hm := c_22
      refine gg_aload_n dX1_parseMetre_25 rfl rfl ?_
      refine gi_bipush dX1_parseMetre_26 (by decide) ?_
      refine gc_X1_52 rfl dX1_parseMetre_28 ⟨(Nat.le_of_ble_eq_true rfl), (Nat.le_of_ble_eq_true rfl)⟩ ⟨(Nat.le_of_ble_eq_true rfl), (Nat.le_of_ble_eq_true rfl)⟩ (Nat.le_of_ble_eq_true rfl) (HAt.mu gst_40) (c_X1_pass (G := uF G 3 (pmM (B 41) (G 4))) (by rw [uF_n (by decide)]; exact p4) (by rw [uF_s]; omega) (by rw [uF_n (by decide)]; exact p5) (c := 32) ⟨by omega, by omega⟩) (fun _ _ w => w.elim) (fun r_28 h_28 hp => ?_)
      obtain ⟨rfl, rfl⟩ := hp
      simp only [uF_s, uF_ss, uF_n (show 4 ≠ 3 by decide)]
      refine gi_if_ne (tgt := 36) dX1_parseMetre_31 (by decide) (bi_r _) (fun c_31 => ?_) (fun c_31 => ?_)
      · rw [bi_t] at c_31
        rw [decide_eq_true_iff] at c_31
        rw [if_pos c_31]
        obtain ⟨m, hmm⟩ : ∃ m, pmM (B 41) (G 4) = m := ⟨_, rfl⟩
        rw [hmm] at c_31 mr ⊢
        refine gg_aload_n dX1_parseMetre_36 rfl rfl ?_
        refine gi_iconst dX1_parseMetre_37 ?_
        refine gi_bipush dX1_parseMetre_38 (by decide) ?_
        refine gc_X1_94 rfl dX1_parseMetre_40 ⟨(Nat.le_of_ble_eq_true rfl), (Nat.le_of_ble_eq_true rfl)⟩ ⟨(Nat.le_of_ble_eq_true rfl), (Nat.le_of_ble_eq_true rfl)⟩ (Nat.le_of_ble_eq_true rfl) (HAt.mu gst_40) (c_X1_passDigit (G := uF G 3 (m + 1)) (by rw [uF_n (by decide)]; exact p4) (by rw [uF_s]; omega) (by rw [uF_n (by decide)]; exact p5) (a := 2) (b := 6) ⟨by omega, by omega⟩ ⟨by omega, by omega⟩) (fun _ _ w => w.elim) (fun r_40 h_40 hp => ?_)
        obtain ⟨rfl, rfl⟩ := hp
        simp only [uF_s, uF_ss, uF_n (show 4 ≠ 3 by decide)]
        rw [show (48 : Int) + 2 = 50 from rfl, show (48 : Int) + 6 = 54 from rfl]
        have q1 := p5 (m + 1) (by omega)
        refine gg_istore_n dX1_parseMetre_43 (Nat.le_of_ble_eq_true rfl) rfl ?_
        refine gg_iload_n dX1_parseMetre_44 rfl ?_
        refine gi_iconst dX1_parseMetre_45 ?_
        refine gi_icmp_ne (tgt := 51) dX1_parseMetre_46 (by decide) ⟨by split <;> omega, by split <;> omega⟩ ⟨by omega, by omega⟩ (fun c_46 => ?_) (fun c_46 => ?_)
        · have c_47 : m + 1 < G 4 ∧ 50 ≤ B 41 (m + 1) ∧ B 41 (m + 1) ≤ 54 := by
            by_cases z : m + 1 < G 4 ∧ 50 ≤ B 41 (m + 1) ∧ B 41 (m + 1) ≤ 54
            · exact z
            · rw [if_neg z] at c_46; exact absurd rfl c_46
          rw [if_pos c_47, if_pos c_47]
          refine gi_iconst dX1_parseMetre_51 ?_
          refine gg_istore_n dX1_parseMetre_52 (Nat.le_of_ble_eq_true rfl) rfl ?_
          refine gg_aload_n dX1_parseMetre_53 rfl rfl ?_
          refine gi_bipush dX1_parseMetre_54 (by decide) ?_
          refine gc_X1_52 rfl dX1_parseMetre_56 ⟨(Nat.le_of_ble_eq_true rfl), (Nat.le_of_ble_eq_true rfl)⟩ ⟨(Nat.le_of_ble_eq_true rfl), (Nat.le_of_ble_eq_true rfl)⟩ (Nat.le_of_ble_eq_true rfl) (HAt.mu gst_40) (c_X1_pass (G := uF G 3 (m + 1 + 1)) (by rw [uF_n (by decide)]; exact p4) (by rw [uF_s]; omega) (by rw [uF_n (by decide)]; exact p5) (c := 47) ⟨by omega, by omega⟩) (fun _ _ w => w.elim) (fun r_56 h_56 hp => ?_)
          obtain ⟨rfl, rfl⟩ := hp
          simp only [uF_s, uF_ss, uF_n (show 4 ≠ 3 by decide)]
          refine gi_if_eq (tgt := 71) dX1_parseMetre_59 (by decide) (bi_r _) (fun c_59 => ?_) (fun c_59 => ?_)
          · rw [bi_f] at c_59
            rw [decide_eq_false_iff_not] at c_59
            rw [if_neg c_59]
            refine gg_iload_n dX1_parseMetre_71 rfl ?_
            refine gi_iconst dX1_parseMetre_72 ?_
            refine gi_icmp_eq (tgt := 96) dX1_parseMetre_73 (by decide) ⟨by omega, by omega⟩ ⟨by omega, by omega⟩ (fun c9 => absurd c9 (by decide)) (fun c9 => ?_)
            refine gg_aload_n dX1_parseMetre_76 rfl rfl ?_
            refine gc_X1_56 rfl dX1_parseMetre_77 ⟨(Nat.le_of_ble_eq_true rfl), (Nat.le_of_ble_eq_true rfl)⟩ ⟨(Nat.le_of_ble_eq_true rfl), (Nat.le_of_ble_eq_true rfl)⟩ (Nat.le_of_ble_eq_true rfl) (HAt.mu gst_40) (c_X1_isAtEnd (G := uF G 3 (m + 1 + 1)) (by rw [uF_n (by decide)]; exact p4) (by rw [uF_s]; omega) (by rw [uF_n (by decide)]; exact p5)) (fun _ _ w => w.elim) (fun r_77 h_77 hp => ?_)
            obtain ⟨rfl, rfl⟩ := hp
            simp only [uF_s, uF_ss, uF_n (show 4 ≠ 3 by decide)]
            refine gi_if_eq (tgt := 96) dX1_parseMetre_80 (by decide) (bi_r _) (fun c_80 => ?_) (fun c_80 => ?_)
            · rw [bi_f] at c_80
              rw [decide_eq_false_iff_not] at c_80
              refine gg_null dX1_parseMetre_96 ?_
              subst hQF9
              refine gg_aret dX1_parseMetre_97 rfl rfl rfl ⟨(Nat.le_of_ble_eq_true rfl), (Nat.le_of_ble_eq_true rfl)⟩ ?_
              have ep : pMt (B 41) (G 4) = (false, m + 1 + 1, 0, 0, 0) := by
                unfold pMt; rw [hmm, if_neg (show ¬ (G 4 ≤ 0 ∨ kF (B 41 0) < 0) by omega), if_neg (fun z => z (hmm ▸ hm)), if_neg (fun z => z c_31), if_neg (fun z => z c_47), if_neg c_59, if_pos (by omega)]
              refine ⟨h.2, ?_, ext.rfl9, Or.inr ⟨by rw [ep], rfl⟩⟩
              rw [ep]
            · rw [bi_t] at c_80
              rw [decide_eq_true_iff] at c_80
              refine gn_X1_98 rfl dX1_parseMetre_83 (Nat.le_of_ble_eq_true rfl) (Nat.le_of_ble_eq_true rfl) (fun q9 fr9 => ?_)
              refine gg_dup dX1_parseMetre_86 rfl ?_
              refine gg_iload_n dX1_parseMetre_87 rfl ?_
              refine gg_iload_n dX1_parseMetre_88 rfl ?_
              refine gg_iload_n dX1_parseMetre_89 rfl ?_
              refine gc_X1_100 rfl dX1_parseMetre_90 ⟨(Nat.le_of_ble_eq_true rfl), (Nat.le_of_ble_eq_true rfl)⟩ ⟨(Nat.le_of_ble_eq_true rfl), (Nat.le_of_ble_eq_true rfl)⟩ (Nat.le_of_ble_eq_true rfl) (c_X4_init (h := gst Γ (h.1, upX h.2 q9 (.inr (6, [.int 0, .int 0, .int 0, .int 0, .int 0, .int 0, .int 0]))) (uF G 3 (m + 1 + 1)) B) upX_s (kd := kF (B 41 0)) (ft := B 41 (m + 1) - 48) (c9 := 0) ⟨by omega, by omega⟩ ⟨by omega, by omega⟩ ⟨by omega, by omega⟩) (fun _ _ w => w.elim) (fun r_90 h_90 hp => ?_)
              obtain ⟨rfl, rfl⟩ := hp
              refine gg_goto (tgt := 97) dX1_parseMetre_93 (by decide) ?_
              subst hQF9
              refine gg_aret dX1_parseMetre_97 rfl rfl rfl ⟨(Nat.le_of_ble_eq_true rfl), (Nat.le_of_ble_eq_true rfl)⟩ ?_
              have ep : pMt (B 41) (G 4) = (true, m + 1 + 1, kF (B 41 0), B 41 (m + 1) - 48, 0) := by
                unfold pMt; rw [hmm, if_neg (show ¬ (G 4 ≤ 0 ∨ kF (B 41 0) < 0) by omega), if_neg (fun z => z (hmm ▸ hm)), if_neg (fun z => z c_31), if_neg (fun z => z c_47), if_neg c_59, if_neg (by omega)]
              refine ⟨upX h.2 q9 (mtX (kF (B 41 0)) (B 41 (m + 1) - 48) (0)), ?_, ext.up fr9.1, Or.inl ⟨by rw [ep], q9, rfl, ?_⟩⟩
              · rw [ep]; show gst Γ (h.1, upX (upX h.2 q9 _) q9 _) _ B = _; rw [upX_t]; rfl
              · rw [ep]; show MtAt _ q9 (kF (B 41 0)) (B 41 (m + 1) - 48) (0)
                exact ⟨⟨⟨by omega, by omega⟩, ⟨by omega, by omega⟩, by omega, by omega⟩, upX_s⟩
          · rw [bi_t] at c_59
            rw [decide_eq_true_iff] at c_59
            rw [if_pos c_59]
            refine gg_aload_n dX1_parseMetre_62 rfl rfl ?_
            refine gi_iconst dX1_parseMetre_63 ?_
            refine gg_iload_n dX1_parseMetre_64 rfl ?_
            refine gi_iconst dX1_parseMetre_65 ?_
            refine gi_isub dX1_parseMetre_66 ?_
            refine gc_X1_94 rfl dX1_parseMetre_67 ⟨(Nat.le_of_ble_eq_true rfl), (Nat.le_of_ble_eq_true rfl)⟩ ⟨(Nat.le_of_ble_eq_true rfl), (Nat.le_of_ble_eq_true rfl)⟩ (Nat.le_of_ble_eq_true rfl) (HAt.mu gst_40) (c_X1_passDigit (G := uF G 3 (m + 1 + 1 + 1)) (by rw [uF_n (by decide)]; exact p4) (by rw [uF_s]; omega) (by rw [uF_n (by decide)]; exact p5) (a := 1) (b := B 41 (m + 1) - 48 - 1) ⟨by omega, by omega⟩ ⟨by omega, by omega⟩) (fun _ _ w => w.elim) (fun r_67 h_67 hp => ?_)
            obtain ⟨rfl, rfl⟩ := hp
            simp only [uF_s, uF_ss, uF_n (show 4 ≠ 3 by decide)]
            rw [show (48 : Int) + 1 = 49 from rfl]
            have q3 := p5 (m + 1 + 1 + 1) (by omega)
            refine gg_istore_n dX1_parseMetre_70 (Nat.le_of_ble_eq_true rfl) rfl ?_
            refine gg_iload_n dX1_parseMetre_71 rfl ?_
            refine gi_iconst dX1_parseMetre_72 ?_
            refine gi_icmp_eq (tgt := 96) dX1_parseMetre_73 (by decide) ⟨by (try split) <;> omega, by (try split) <;> omega⟩ ⟨by omega, by omega⟩ (fun c_73 => ?_) (fun c_73 => ?_)
            · refine gg_null dX1_parseMetre_96 ?_
              subst hQF9
              refine gg_aret dX1_parseMetre_97 rfl rfl rfl ⟨(Nat.le_of_ble_eq_true rfl), (Nat.le_of_ble_eq_true rfl)⟩ ?_
              have c_74 : ¬ (m + 1 + 1 + 1 < G 4 ∧ 49 ≤ B 41 (m + 1 + 1 + 1) ∧ B 41 (m + 1 + 1 + 1) ≤ 48 + (B 41 (m + 1) - 48 - 1)) := fun z => by rw [if_pos z] at c_73; omega
              rw [if_neg c_74]
              have ep : pMt (B 41) (G 4) = (false, m + 1 + 1 + 1, 0, 0, 0) := by
                unfold pMt; rw [hmm, if_neg (show ¬ (G 4 ≤ 0 ∨ kF (B 41 0) < 0) by omega), if_neg (fun z => z (hmm ▸ hm)), if_neg (fun z => z c_31), if_neg (fun z => z c_47), if_pos c_59, if_pos c_74]
              refine ⟨h.2, ?_, ext.rfl9, Or.inr ⟨by rw [ep], rfl⟩⟩
              rw [ep]
            · have c_74 : (m + 1 + 1 + 1 < G 4 ∧ 49 ≤ B 41 (m + 1 + 1 + 1) ∧ B 41 (m + 1 + 1 + 1) ≤ 48 + (B 41 (m + 1) - 48 - 1)) := by
                by_cases z : (m + 1 + 1 + 1 < G 4 ∧ 49 ≤ B 41 (m + 1 + 1 + 1) ∧ B 41 (m + 1 + 1 + 1) ≤ 48 + (B 41 (m + 1) - 48 - 1))
                · exact z
                · rw [if_neg z] at c_73; exact absurd rfl c_73
              rw [if_pos c_74, if_pos c_74]
              refine gg_aload_n dX1_parseMetre_76 rfl rfl ?_
              refine gc_X1_56 rfl dX1_parseMetre_77 ⟨(Nat.le_of_ble_eq_true rfl), (Nat.le_of_ble_eq_true rfl)⟩ ⟨(Nat.le_of_ble_eq_true rfl), (Nat.le_of_ble_eq_true rfl)⟩ (Nat.le_of_ble_eq_true rfl) (HAt.mu gst_40) (c_X1_isAtEnd (G := uF G 3 (m + 1 + 1 + 1 + 1)) (by rw [uF_n (by decide)]; exact p4) (by rw [uF_s]; omega) (by rw [uF_n (by decide)]; exact p5)) (fun _ _ w => w.elim) (fun r_77 h_77 hp => ?_)
              obtain ⟨rfl, rfl⟩ := hp
              simp only [uF_s, uF_ss, uF_n (show 4 ≠ 3 by decide)]
              refine gi_if_eq (tgt := 96) dX1_parseMetre_80 (by decide) (bi_r _) (fun c_80 => ?_) (fun c_80 => ?_)
              · rw [bi_f] at c_80
                rw [decide_eq_false_iff_not] at c_80
                refine gg_null dX1_parseMetre_96 ?_
                subst hQF9
                refine gg_aret dX1_parseMetre_97 rfl rfl rfl ⟨(Nat.le_of_ble_eq_true rfl), (Nat.le_of_ble_eq_true rfl)⟩ ?_
                have ep : pMt (B 41) (G 4) = (false, m + 1 + 1 + 1 + 1, 0, 0, 0) := by
                  unfold pMt; rw [hmm, if_neg (show ¬ (G 4 ≤ 0 ∨ kF (B 41 0) < 0) by omega), if_neg (fun z => z (hmm ▸ hm)), if_neg (fun z => z c_31), if_neg (fun z => z c_47), if_pos c_59, if_neg (fun z => z c_74), if_pos (by omega)]
                refine ⟨h.2, ?_, ext.rfl9, Or.inr ⟨by rw [ep], rfl⟩⟩
                rw [ep]
              · rw [bi_t] at c_80
                rw [decide_eq_true_iff] at c_80
                refine gn_X1_98 rfl dX1_parseMetre_83 (Nat.le_of_ble_eq_true rfl) (Nat.le_of_ble_eq_true rfl) (fun q9 fr9 => ?_)
                refine gg_dup dX1_parseMetre_86 rfl ?_
                refine gg_iload_n dX1_parseMetre_87 rfl ?_
                refine gg_iload_n dX1_parseMetre_88 rfl ?_
                refine gg_iload_n dX1_parseMetre_89 rfl ?_
                refine gc_X1_100 rfl dX1_parseMetre_90 ⟨(Nat.le_of_ble_eq_true rfl), (Nat.le_of_ble_eq_true rfl)⟩ ⟨(Nat.le_of_ble_eq_true rfl), (Nat.le_of_ble_eq_true rfl)⟩ (Nat.le_of_ble_eq_true rfl) (c_X4_init (h := gst Γ (h.1, upX h.2 q9 (.inr (6, [.int 0, .int 0, .int 0, .int 0, .int 0, .int 0, .int 0]))) (uF G 3 (m + 1 + 1 + 1 + 1)) B) upX_s (kd := kF (B 41 0)) (ft := B 41 (m + 1) - 48) (c9 := B 41 (m + 1 + 1 + 1) - 48) ⟨by omega, by omega⟩ ⟨by omega, by omega⟩ ⟨by omega, by omega⟩) (fun _ _ w => w.elim) (fun r_90 h_90 hp => ?_)
                obtain ⟨rfl, rfl⟩ := hp
                refine gg_goto (tgt := 97) dX1_parseMetre_93 (by decide) ?_
                subst hQF9
                refine gg_aret dX1_parseMetre_97 rfl rfl rfl ⟨(Nat.le_of_ble_eq_true rfl), (Nat.le_of_ble_eq_true rfl)⟩ ?_
                have ep : pMt (B 41) (G 4) = (true, m + 1 + 1 + 1 + 1, kF (B 41 0), B 41 (m + 1) - 48, B 41 (m + 1 + 1 + 1) - 48) := by
                  unfold pMt; rw [hmm, if_neg (show ¬ (G 4 ≤ 0 ∨ kF (B 41 0) < 0) by omega), if_neg (fun z => z (hmm ▸ hm)), if_neg (fun z => z c_31), if_neg (fun z => z c_47), if_pos c_59, if_neg (fun z => z c_74), if_neg (by omega)]
                refine ⟨upX h.2 q9 (mtX (kF (B 41 0)) (B 41 (m + 1) - 48) (B 41 (m + 1 + 1 + 1) - 48)), ?_, ext.up fr9.1, Or.inl ⟨by rw [ep], q9, rfl, ?_⟩⟩
                · rw [ep]; show gst Γ (h.1, upX (upX h.2 q9 _) q9 _) _ B = _; rw [upX_t]; rfl
                · rw [ep]; show MtAt _ q9 (kF (B 41 0)) (B 41 (m + 1) - 48) (B 41 (m + 1 + 1 + 1) - 48)
                  exact ⟨⟨⟨by omega, by omega⟩, ⟨by omega, by omega⟩, by omega, by omega⟩, upX_s⟩
        · have c_47 : ¬ (m + 1 < G 4 ∧ 50 ≤ B 41 (m + 1) ∧ B 41 (m + 1) ≤ 54) := fun z => by rw [if_pos z] at c_46; omega
          rw [if_neg c_47]
          refine gg_null dX1_parseMetre_49 ?_
          subst hQF9
          refine gg_aret dX1_parseMetre_50 rfl rfl rfl ⟨(Nat.le_of_ble_eq_true rfl), (Nat.le_of_ble_eq_true rfl)⟩ ?_
          have ep : pMt (B 41) (G 4) = (false, m + 1, 0, 0, 0) := by
            unfold pMt; rw [hmm, if_neg (show ¬ (G 4 ≤ 0 ∨ kF (B 41 0) < 0) by omega), if_neg (fun z => z (hmm ▸ hm)), if_neg (fun z => z c_31), if_pos c_47]
          refine ⟨h.2, ?_, ext.rfl9, Or.inr ⟨by rw [ep], rfl⟩⟩
          rw [ep]
      · rw [bi_f] at c_31
        rw [decide_eq_false_iff_not] at c_31
        rw [if_neg c_31]
        refine gg_null dX1_parseMetre_34 ?_
        subst hQF9
        refine gg_aret dX1_parseMetre_35 rfl rfl rfl ⟨(Nat.le_of_ble_eq_true rfl), (Nat.le_of_ble_eq_true rfl)⟩ ?_
        have ep : pMt (B 41) (G 4) = (false, pmM (B 41) (G 4), 0, 0, 0) := by
          unfold pMt; rw [if_neg (show ¬ (G 4 ≤ 0 ∨ kF (B 41 0) < 0) by omega), if_neg (show ¬ pmM (B 41) (G 4) ≠ pmL (B 41) from fun z => z hm), if_pos c_31]
        refine ⟨h.2, ?_, ext.rfl9, Or.inr ⟨by rw [ep], rfl⟩⟩
        rw [ep]
