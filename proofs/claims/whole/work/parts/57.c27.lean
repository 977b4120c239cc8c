/-! the scanner: candidates -/
def cdD (a f : Int → Int) (n j : Int) : DT := dtA a f n (j / 5) (2 + j % 5) 0
/-- whether the line fits the candidate j, and its cost then -/
def fiV (a f : Int → Int) (n tol j : Int) : Int := bi (decide ((srch (cdD a f n j)).1 ≠ NOK ∧ (srch (cdD a f n j)).1 / 65536 ≤ tol))
def coV (a f : Int → Int) (n tol j : Int) : Int := if (srch (cdD a f n j)).1 ≠ NOK ∧ (srch (cdD a f n j)).1 / 65536 ≤ tol then (srch (cdD a f n j)).1 / 65536 else 0
def tcU (g v : Int → Int) (m : Int) : Int → Int := fun j => if 0 ≤ j ∧ j < m then g j + v j else g j
theorem tcU_0 {g v : Int → Int} : tcU g v 0 = g := by funext j; unfold tcU; rw [if_neg (by omega)]
theorem tcU_s {g v : Int → Int} {m x : Int} (h0 : 0 ≤ m) (hx : g m + v m = x) : up (tcU g v m) m x = tcU g v (m + 1) := by
  funext j; unfold up tcU
  by_cases e : j = m
  · rw [if_pos e, if_pos (by omega), e, hx]
  · rw [if_neg e]
    by_cases q : 0 ≤ j ∧ j < m
    · rw [if_pos q, if_pos (by omega)]
    · rw [if_neg q, if_neg (by omega)]
theorem tcU_z {g v : Int → Int} {m : Int} (h0 : 0 ≤ m) (hx : v m = 0) : tcU g v m = tcU g v (m + 1) := by
  funext j; unfold tcU
  by_cases e : j = m
  · rw [if_neg (by omega), if_pos (by omega), e, hx, Int.add_zero]
  · by_cases q : 0 ≤ j ∧ j < m
    · rw [if_pos q, if_pos (by omega)]
    · rw [if_neg q, if_neg (by omega)]
theorem tcU_n {g v : Int → Int} {m : Int} : tcU g v m m = g m := by unfold tcU; rw [if_neg (by omega)]
/-- the candidates -/
def CA (ι : Nat → Option XE) (B : Nat → Int → Int) : Prop := ∀ j : Int, 0 ≤ j → j < 20 → ∃ q : Nat, B 32 j = (q : Int) ∧ MtAt ι q (j / 5) (2 + j % 5) 0
theorem frS.fl {G G' : Nat → Int} {B B' : Nat → Int → Int} (x : frF [6, 7, 8, 9, 10, 11] G G') (y : frA [51, 52] B B') (I : ∃ a b c d, IX G a b c d) : frS G G' B B' := by
  refine ⟨fun j hj => x j (fun z => hj (by simp only [lF9, List.mem_cons, List.mem_nil_iff, or_false] at z ⊢; omega)), fun j hj => y j (fun z => hj (by simp only [lA9, List.mem_cons, List.mem_nil_iff, or_false] at z ⊢; omega)), ?_⟩
  obtain ⟨a1, b1, c1, d1, ix⟩ := I
  exact ⟨a1, b1, c1, d1, by unfold IX at ix ⊢; rw [x 12 (by decide), x 13 (by decide), x 14 (by decide), x 15 (by decide)]; exact ix⟩
theorem frS.sr {G G' : Nat → Int} {B B' : Nat → Int → Int} (x : frF [12, 13, 14, 15, 16, 17, 18] G G') (y : frA [61, 62, 63, 64, 65] B B') (I : ∃ a b c d, IX G' a b c d) : frS G G' B B' :=
  ⟨fun j hj => x j (fun z => hj (by simp only [lF9, List.mem_cons, List.mem_nil_iff, or_false] at z ⊢; omega)), fun j hj => y j (fun z => hj (by simp only [lA9, List.mem_cons, List.mem_nil_iff, or_false] at z ⊢; omega)), I⟩
theorem frS.u {G G' : Nat → Int} {B B' : Nat → Int → Int} (x : frS G G' B B') {j : Nat} (h : j = 33 ∨ j = 34) {g : Int → Int} : frS G G' B (uA B' j g) :=
  ⟨x.1, frA_u x.2.1 (by unfold lA9; rcases h with h | h <;> rw [h] <;> decide), x.2.2⟩
set_option maxRecDepth 100000 in
set_option maxHeartbeats 4000000 in
theorem c_X9_tryCandidatesOn {Γ : GT} {h : XH} {G : Nat → Int} {B : Nat → Int → Int} {b mq : Nat} {kd ft c9 : Int} {a : Int → Int} (S : SW h.2 G B b mq kd ft c9 a) (C9 : CA h.2 B) {q1 : Nat} {f : Int → Int} {n : Int} (L1 : LnO h.2 q1 f n) : Ct Γ M_X9_tryCandidatesOn [.ref (g_L Γ 30), .ref q1] (gst Γ h G B) (fun r h9 => ∃ (G' : Nat → Int) (B' : Nat → Int → Int), r = none ∧ h9 = gst Γ h G' B' ∧ frS G G' B B' ∧ B' 33 = tcU (B 33) (fiV a f n (G (101 + 10 * b))) 20 ∧ B' 34 = tcU (B 34) (coV a f n (G (101 + 10 * b))) 20) (fun _ _ => False) := by
  refine Ct.of rfl (by decide +kernel) (Nat.le_of_ble_eq_true rfl) ?_
  generalize hQF9 : QM Γ _ _ _ = QF9
  obtain ⟨hb9, g0, hm9, M1, X9, I9, T9⟩ := S
  refine gg_aload_n dX9_tryCandidatesOn_0 rfl rfl ?_
  refine gk_getX9_30 rfl dX9_tryCandidatesOn_1 ?_
  refine gg_aload_n dX9_tryCandidatesOn_4 rfl rfl ?_
  refine gg_aload_n dX9_tryCandidatesOn_5 rfl rfl ?_
  refine gk_getX9_65 rfl dX9_tryCandidatesOn_6 g0 ?_
  refine gc_X9_237 rfl dX9_tryCandidatesOn_9 ⟨(Nat.le_of_ble_eq_true rfl), (Nat.le_of_ble_eq_true rfl)⟩ ⟨(Nat.le_of_ble_eq_true rfl), (Nat.le_of_ble_eq_true rfl)⟩ (Nat.le_of_ble_eq_true rfl) (HAt.mu gst_50) (c_X5_fill hb9 X9 L1) (fun _ _ w => w.elim) (fun r_9 h_9 hp => ?_)
  obtain ⟨G1, B1, rfl, rfl, fF, fA, R1, e7, e10, e11⟩ := hp
  have f1 := frS.fl fF fA I9
  refine gi_iconst dX9_tryCandidatesOn_12 ?_
  refine gg_istore_n dX9_tryCandidatesOn_13 (Nat.le_of_ble_eq_true rfl) rfl ?_
  have L_14 : ∀ (n9 : Nat) (i : Int) (G1 : Nat → Int) (B1 : Nat → Int → Int), ((20 - i).toNat) = n9 → ∀ (hi : 0 ≤ i ∧ i ≤ 20) (fr : frS G G1 B B1) (R : RdG G1 B1 (pwL f n) (sI a f n) (mI a f n) (eI f n) (pwC f n)) (e7 : G1 7 = smS (sI a f n) (pwL f n).toNat) (e11 : G1 11 = (grd (eI f n) (sI a f n) (pwL f n).toNat).1) (E33 : B1 33 = tcU (B 33) (fiV a f n (G (101 + 10 * b))) i) (E34 : B1 34 = tcU (B 34) (coV a f n (G (101 + 10 * b))) i), GG Γ M_X9_tryCandidatesOn QF9 (0, 0) (gst Γ h G1 B1) 14 [some (.ref (g_L Γ 30)), some (.ref q1), some (.int (iN i)), none] [] := by
    intro n9
    induction n9 using Nat.strongRecOn with
    | ind n9 ih_14 => 
      intro i G1 B1 hm9 hi fr R e7 e11 E33 E34
      refine gg_iload_n dX9_tryCandidatesOn_14 rfl ?_
      refine gg_aload_n dX9_tryCandidatesOn_15 rfl rfl ?_
      refine gk_getX9_45 rfl dX9_tryCandidatesOn_16 ?_
      refine gi_alen dX9_tryCandidatesOn_19 (HAt.mu gst_32) (by decide) ?_
      refine gi_icmp_ge (tgt := 74) dX9_tryCandidatesOn_20 (by decide) ⟨by omega, by omega⟩ ⟨by omega, by omega⟩ (fun c_20 => ?_) (fun c_20 => ?_)
      · subst hQF9
        refine gg_vret dX9_tryCandidatesOn_74 rfl ⟨(Nat.le_of_ble_eq_true rfl), (Nat.le_of_ble_eq_true rfl)⟩ ?_
        rw [show i = 20 by omega] at E33 E34
        exact ⟨G1, B1, rfl, rfl, fr, E33, E34⟩
      · refine gg_aload_n dX9_tryCandidatesOn_23 rfl rfl ?_
        refine gk_getX9_39 rfl dX9_tryCandidatesOn_24 ?_
        refine gg_aload_n dX9_tryCandidatesOn_27 rfl rfl ?_
        refine gk_getX9_45 rfl dX9_tryCandidatesOn_28 ?_
        refine gg_iload_n dX9_tryCandidatesOn_31 rfl ?_
        obtain ⟨q2, hq2, M2⟩ := C9 i (by omega) (by omega)
        have b32 : B1 32 i = (q2 : Int) := by rw [fr.b (by omega)]; exact hq2
        refine gk_ald32 dX9_tryCandidatesOn_32 ⟨by omega, by omega⟩ b32 ?_
        refine gc_X9_397 rfl dX9_tryCandidatesOn_33 ⟨(Nat.le_of_ble_eq_true rfl), (Nat.le_of_ble_eq_true rfl)⟩ ⟨(Nat.le_of_ble_eq_true rfl), (Nat.le_of_ble_eq_true rfl)⟩ (Nat.le_of_ble_eq_true rfl) (HAt.mu gst_60) (c_X6_search (D := cdD a f n i) M2 R e7 e11 fr.2.2) (fun _ _ w => w.elim) (fun r_33 h_33 hp => ?_)
        obtain ⟨G2, B2, rfl, rfl, fF2, fA2, e18, I2⟩ := hp
        have f2 := frS.sr fF2 fA2 I2
        have ok9 := RdD.ok (D := cdD a f n i) R
        have kr := srch_r ok9.1 ok9.2
        obtain ⟨k, hk⟩ : ∃ k, (srch (cdD a f n i)).1 = k := ⟨_, rfl⟩
        rw [hk] at kr ⊢
        have t9 : G2 (101 + 10 * b) = G (101 + 10 * b) := (fr.tr f2).g (by omega)
        have R2 : RdG G2 B2 (pwL f n) (sI a f n) (mI a f n) (eI f n) (pwC f n) := R.fr (fF2 6 (by decide)) (fF2 8 (by decide)) (fF2 9 (by decide)) (fA2 51 (by decide)) (fA2 52 (by decide))
        have b33 : B2 33 = tcU (B 33) (fiV a f n (G (101 + 10 * b))) i := (fA2 33 (by decide)).trans E33
        have b34 : B2 34 = tcU (B 34) (coV a f n (G (101 + 10 * b))) i := (fA2 34 (by decide)).trans E34
        refine gg_istore_n dX9_tryCandidatesOn_36 (Nat.le_of_ble_eq_true rfl) rfl ?_
        refine gg_aload_n dX9_tryCandidatesOn_37 rfl rfl ?_
        refine gg_iload_n dX9_tryCandidatesOn_38 rfl ?_
        refine gc_X9_337 rfl dX9_tryCandidatesOn_39 ⟨(Nat.le_of_ble_eq_true rfl), (Nat.le_of_ble_eq_true rfl)⟩ ⟨(Nat.le_of_ble_eq_true rfl), (Nat.le_of_ble_eq_true rfl)⟩ (Nat.le_of_ble_eq_true rfl) (HAt.mu gst_30) (c_X9_fits hb9 (((fr.tr f2).g (by omega)).trans g0) (k := k) kr (by rw [t9]; exact T9)) (fun _ _ w => w.elim) (fun r_39 h_39 hp => ?_)
        obtain ⟨rfl, rfl⟩ := hp
        rw [t9]
        refine gi_if_eq (tgt := 68) dX9_tryCandidatesOn_42 (by decide) (bi_r _) (fun c_42 => ?_) (fun c_42 => ?_)
        · rw [bi_f] at c_42
          rw [decide_eq_false_iff_not] at c_42
          refine gi_iinc dX9_tryCandidatesOn_68 rfl (Nat.le_of_ble_eq_true rfl) rfl ?_
          refine gg_goto (tgt := 14) dX9_tryCandidatesOn_71 (by decide) ?_
          refine gg_drop 3 ?_
          refine gg_drop 3 ?_
          refine ih_14 _ (by omega) (i + 1) G2 B2 rfl (by omega) (fr.tr f2) R2 ((fF2 7 (by decide)).trans e7) ((fF2 11 (by decide)).trans e11) ?_ ?_
          · rw [b33]; exact tcU_z hi.1 (by unfold fiV; rw [hk, decide_eq_false c_42]; rfl)
          · rw [b34]; exact tcU_z hi.1 (by unfold coV; rw [hk, if_neg c_42])
        · rw [bi_t] at c_42
          rw [decide_eq_true_iff] at c_42
          refine gg_aload_n dX9_tryCandidatesOn_45 rfl rfl ?_
          refine gk_getX9_49 rfl dX9_tryCandidatesOn_46 ?_
          refine gg_iload_n dX9_tryCandidatesOn_49 rfl ?_
          refine gg_dup2 dX9_tryCandidatesOn_50 rfl rfl ?_
          refine gk_iald dX9_tryCandidatesOn_51 (by decide) (by decide) ⟨by omega, by show _ < (20 : Int); omega⟩ (by (try simp only [uA_s, uA_n, ne_eq, not_false_eq_true, Nat.reduceEqDiff, reduceCtorEq]); rfl) ?_
          refine gi_iconst dX9_tryCandidatesOn_52 ?_
          refine gi_iadd dX9_tryCandidatesOn_53 ?_
          refine gk_iast dX9_tryCandidatesOn_54 (by decide) (by decide) ⟨by omega, by show _ < (20 : Int); omega⟩ (by (try simp only [uA_s, uA_n, uA_ss, uA_cc, id_eq, ne_eq, not_false_eq_true, Nat.reduceEqDiff, Nat.reduceLT, reduceCtorEq]); rfl) ?_
          refine gg_aload_n dX9_tryCandidatesOn_55 rfl rfl ?_
          refine gk_getX9_53 rfl dX9_tryCandidatesOn_56 ?_
          refine gg_iload_n dX9_tryCandidatesOn_59 rfl ?_
          refine gg_dup2 dX9_tryCandidatesOn_60 rfl rfl ?_
          refine gk_iald dX9_tryCandidatesOn_61 (by decide) (by decide) ⟨by omega, by show _ < (20 : Int); omega⟩ (by (try simp only [uA_s, uA_n, ne_eq, not_false_eq_true, Nat.reduceEqDiff, reduceCtorEq]); rfl) ?_
          refine gg_iload_n dX9_tryCandidatesOn_62 rfl ?_
          refine gi_bipush dX9_tryCandidatesOn_63 (by decide) ?_
          refine gi_ishr _ (bt_shr ⟨by have := kr.2; unfold NOK at this; omega, by have := kr.2; unfold NOK at this; omega⟩ ⟨by omega, by omega⟩) dX9_tryCandidatesOn_65 ?_
          rw [show (2 : Int) ^ (16 : Int).toNat = 65536 from rfl]
          refine gi_iadd dX9_tryCandidatesOn_66 ?_
          refine gk_iast dX9_tryCandidatesOn_67 (by decide) (by decide) ⟨by omega, by show _ < (20 : Int); omega⟩ (by (try simp only [uA_s, uA_n, uA_ss, uA_cc, id_eq, ne_eq, not_false_eq_true, Nat.reduceEqDiff, Nat.reduceLT, reduceCtorEq]); rfl) ?_
          refine gi_iinc dX9_tryCandidatesOn_68 rfl (Nat.le_of_ble_eq_true rfl) rfl ?_
          refine gg_goto (tgt := 14) dX9_tryCandidatesOn_71 (by decide) ?_
          refine gg_drop 3 ?_
          refine gg_drop 3 ?_
          refine ih_14 _ (by omega) (i + 1) G2 _ rfl (by omega) (((fr.tr f2).u (Or.inl rfl)).u (Or.inr rfl)) (R2.fr rfl rfl rfl rfl rfl) ((fF2 7 (by decide)).trans e7) ((fF2 11 (by decide)).trans e11) ?_ ?_
          · rw [uA_n (by decide), uA_s, b33]; exact tcU_s hi.1 (by rw [tcU_n]; unfold fiV; rw [hk, decide_eq_true c_42]; rfl)
          · rw [uA_s, b34]; exact tcU_s hi.1 (by rw [tcU_n]; unfold coV; rw [hk, if_pos c_42])
  refine gg_drop 3 ?_
  exact L_14 _ 0 G1 B1 rfl (by omega) f1 R1 e7 e11 (by rw [tcU_0]; exact fA 33 (by decide)) (by rw [tcU_0]; exact fA 34 (by decide))
/-- what the lines of a draft add for the candidate j -/
def tcF (a : Int → Int) (fL : Int → Int → Int) (nL : Int → Int) (tol : Int) (v : (Int → Int) → (Int → Int) → Int → Int → Int → Int) : Nat → Int → Int
  | 0, _ => 0
  | k + 1, j => tcF a fL nL tol v k j + v a (fL k) (nL k) tol j
set_option maxRecDepth 100000 in
set_option maxHeartbeats 4000000 in
theorem c_X9_tryCandidates {Γ : GT} {h : XH} {G : Nat → Int} {B : Nat → Int → Int} {b mq : Nat} {kd ft c9 : Int} {a : Int → Int} (S : SW h.2 G B b mq kd ft c9 a) {d : Nat} (hd9 : d ≤ 3) {fL : Int → Int → Int} {nL : Int → Int} (LD : LnD h.2 G B b d fL nL) (C9 : CA h.2 B) : Ct Γ M_X9_tryCandidates [.ref (g_L Γ 30), .ref (g_L Γ (102 + 11 * b + d))] (gst Γ h G B) (fun r h9 => ∃ (G' : Nat → Int) (B' : Nat → Int → Int), r = none ∧ h9 = gst Γ h G' B' ∧ frS G G' B B' ∧ (∀ j : Int, 0 ≤ j → j < 20 → B' 33 j = tcF a fL nL (G (101 + 10 * b)) fiV (G (103 + 10 * b + d)).toNat j) ∧ (∀ j : Int, 0 ≤ j → j < 20 → B' 34 j = tcF a fL nL (G (101 + 10 * b)) coV (G (103 + 10 * b + d)).toNat j)) (fun _ _ => False) := by
  refine Ct.of rfl (by decide +kernel) (Nat.le_of_ble_eq_true rfl) ?_
  generalize hQF9 : QM Γ _ _ _ = QF9
  have hb9 := S.1
  have hcn := LD.1
  refine gg_aload_n dX9_tryCandidates_0 rfl rfl ?_
  refine gk_getX9_49 rfl dX9_tryCandidates_1 ?_
  refine gi_iconst dX9_tryCandidates_4 ?_
  refine gc_X9_414 rfl dX9_tryCandidates_5 ⟨(Nat.le_of_ble_eq_true rfl), (Nat.le_of_ble_eq_true rfl)⟩ ⟨(Nat.le_of_ble_eq_true rfl), (Nat.le_of_ble_eq_true rfl)⟩ (Nat.le_of_ble_eq_true rfl) (c_J7_fill_53178 (j := 33) (by decide) (by decide)) (fun _ _ w => w.elim) (fun r_5 h_5 hp => ?_)
  obtain ⟨rfl, rfl⟩ := hp
  refine gg_aload_n dX9_tryCandidates_8 rfl rfl ?_
  refine gk_getX9_53 rfl dX9_tryCandidates_9 ?_
  refine gi_iconst dX9_tryCandidates_12 ?_
  refine gc_X9_414 rfl dX9_tryCandidates_13 ⟨(Nat.le_of_ble_eq_true rfl), (Nat.le_of_ble_eq_true rfl)⟩ ⟨(Nat.le_of_ble_eq_true rfl), (Nat.le_of_ble_eq_true rfl)⟩ (Nat.le_of_ble_eq_true rfl) (c_J7_fill_53178 (j := 34) (by decide) (by decide)) (fun _ _ w => w.elim) (fun r_13 h_13 hp => ?_)
  obtain ⟨rfl, rfl⟩ := hp
  refine gi_iconst dX9_tryCandidates_16 ?_
  refine gg_istore_n dX9_tryCandidates_17 (Nat.le_of_ble_eq_true rfl) rfl ?_
  have L_18 : ∀ (n9 : Nat) (i : Int) (G1 : Nat → Int) (B1 : Nat → Int → Int), ((G (103 + 10 * b + d) - i).toNat) = n9 → ∀ (hi : 0 ≤ i ∧ i ≤ G (103 + 10 * b + d)) (fr : frS G G1 B B1) (E33 : ∀ j : Int, 0 ≤ j → j < 20 → B1 33 j = tcF a fL nL (G (101 + 10 * b)) fiV i.toNat j) (E34 : ∀ j : Int, 0 ≤ j → j < 20 → B1 34 j = tcF a fL nL (G (101 + 10 * b)) coV i.toNat j), GG Γ M_X9_tryCandidates QF9 (0, 0) (gst Γ h G1 B1) 18 [some (.ref (g_L Γ 30)), some (.ref (g_L Γ (102 + 11 * b + d))), some (.int (iN i)), none] [] := by
    intro n9
    induction n9 using Nat.strongRecOn with
    | ind n9 ih_18 => 
      intro i G1 B1 hm9 hi fr E33 E34
      refine gg_iload_n dX9_tryCandidates_18 rfl ?_
      refine gg_aload_n dX9_tryCandidates_19 rfl rfl ?_
      refine gk_getX9_186 hb9 hd9 rfl dX9_tryCandidates_20 (fr.g (by omega)) ?_
      refine gi_icmp_ge (tgt := 47) dX9_tryCandidates_23 (by decide) ⟨by omega, by omega⟩ ⟨by omega, by omega⟩ (fun c_23 => ?_) (fun c_23 => ?_)
      · subst hQF9
        refine gg_vret dX9_tryCandidates_47 rfl ⟨(Nat.le_of_ble_eq_true rfl), (Nat.le_of_ble_eq_true rfl)⟩ ?_
        rw [show i = G (103 + 10 * b + d) by omega] at E33 E34
        exact ⟨G1, B1, rfl, rfl, fr, E33, E34⟩
      · refine gg_aload_n dX9_tryCandidates_26 rfl rfl ?_
        refine gg_iload_n dX9_tryCandidates_27 rfl ?_
        refine gc_X9_391 rfl dX9_tryCandidates_28 ⟨(Nat.le_of_ble_eq_true rfl), (Nat.le_of_ble_eq_true rfl)⟩ ⟨(Nat.le_of_ble_eq_true rfl), (Nat.le_of_ble_eq_true rfl)⟩ (Nat.le_of_ble_eq_true rfl) (HAt.mu (gst_dr hb9 hd9)) (c_X0_lineOf (h := h) (G := G1) (B := B1) hb9 hd9 (LD.fs fr).1 (i := i) ⟨by omega, by omega⟩) (fun _ _ w => w.elim) (fun r_28 h_28 hp => ?_)
        obtain ⟨rfl, rfl⟩ := hp
        have cn : G1 (103 + 10 * b + d) = G (103 + 10 * b + d) := fr.g (by omega)
        rw [if_pos (by omega)]
        obtain ⟨q1, hq1, L1⟩ := (LD.fs fr).at (l := i) (by omega) (by omega)
        rw [hq1]
        refine gg_astore_n dX9_tryCandidates_31 rfl (Nat.le_of_ble_eq_true rfl) rfl ?_
        refine gg_aload_n dX9_tryCandidates_32 rfl rfl ?_
        refine gg_ifnull (tgt := 41) dX9_tryCandidates_33 (by decide) rfl (fun c_33 => ?_) (fun a_33 c_33 => ?_)
        · cases c_33
        · refine gg_aload_n dX9_tryCandidates_36 rfl rfl ?_
          refine gg_aload_n dX9_tryCandidates_37 rfl rfl ?_
          refine gc_X9_419 rfl dX9_tryCandidates_38 ⟨(Nat.le_of_ble_eq_true rfl), (Nat.le_of_ble_eq_true rfl)⟩ ⟨(Nat.le_of_ble_eq_true rfl), (Nat.le_of_ble_eq_true rfl)⟩ (Nat.le_of_ble_eq_true rfl) (HAt.mu gst_30) (c_X9_tryCandidatesOn (S.fs fr) (fun j j0 j1 => by rw [fr.b (by omega)]; exact C9 j j0 j1) L1) (fun _ _ w => w.elim) (fun r_38 h_38 hp => ?_)
          obtain ⟨G2, B2, rfl, rfl, f2, e33, e34⟩ := hp
          rw [show G1 (101 + 10 * b) = G (101 + 10 * b) from fr.g (by omega)] at e33 e34
          refine gi_iinc dX9_tryCandidates_41 rfl (Nat.le_of_ble_eq_true rfl) rfl ?_
          refine gg_goto (tgt := 18) dX9_tryCandidates_44 (by decide) ?_
          refine gg_drop 3 ?_
          refine gg_drop 3 ?_
          refine ih_18 _ (by omega) (i + 1) G2 B2 rfl (by omega) (fr.tr f2) (fun j j0 j1 => ?_) (fun j j0 j1 => ?_)
          · rw [e33, show (i + 1).toNat = i.toNat + 1 by omega, tcF, Int.toNat_of_nonneg hi.1, ← E33 j j0 j1]; exact if_pos ⟨j0, j1⟩
          · rw [e34, show (i + 1).toNat = i.toNat + 1 by omega, tcF, Int.toNat_of_nonneg hi.1, ← E34 j j0 j1]; exact if_pos ⟨j0, j1⟩
  refine gg_drop 3 ?_
  refine L_18 _ 0 G _ rfl (by omega) (((frS.rf S.2.2.2.2.2.1).u (Or.inl rfl)).u (Or.inr rfl)) (fun j j0 j1 => ?_) (fun j j0 j1 => ?_)
  · rw [uA_n (by decide), uA_s]; exact fillF_in ⟨j0, j1⟩
  · rw [uA_s]; exact fillF_in ⟨j0, j1⟩
/-- the best candidate so far: its number, how many it fits, what it costs -/
def bcF (g c : Int → Int) : Nat → Int × Int × Int
  | 0 => (-1, 0, 0)
  | k + 1 => if (bcF g c k).2.1 < g k ∨ (g k = (bcF g c k).2.1 ∧ 0 < (bcF g c k).2.1 ∧ c k < (bcF g c k).2.2) then (k, g k, c k) else bcF g c k
set_option maxRecDepth 100000 in
set_option maxHeartbeats 4000000 in
theorem c_X9_bestCandidate {Γ : GT} {h : XH} {G : Nat → Int} {B : Nat → Int → Int} (p3 : ∀ j, 0 ≤ j → j < 20 → InR (B 33 j) ∧ InR (B 34 j)) : Ct Γ M_X9_bestCandidate [.ref (g_L Γ 30)] (gst Γ h G B) (fun r h9 => r = some (.int (iN (bcF (B 33) (B 34) 20).1)) ∧ h9 = gst Γ h G B) (fun _ _ => False) := by
  refine Ct.of rfl (by decide +kernel) (Nat.le_of_ble_eq_true rfl) ?_
  generalize hQF9 : QM Γ _ _ _ = QF9
  have br : ∀ k : Nat, k ≤ 20 → InR (bcF (B 33) (B 34) k).2.1 ∧ InR (bcF (B 33) (B 34) k).2.2 := by
    intro k
    induction k with
    | zero => intro _; exact (show InR 0 ∧ InR 0 from ⟨⟨by omega, by omega⟩, ⟨by omega, by omega⟩⟩)
    | succ k ih => intro hk; rw [bcF]; split
                   · exact p3 k (by omega) (by omega)
                   · exact ih (by omega)
  refine gi_iconst dX9_bestCandidate_0 ?_
  refine gg_istore_n dX9_bestCandidate_1 (Nat.le_of_ble_eq_true rfl) rfl ?_
  refine gi_iconst dX9_bestCandidate_2 ?_
  refine gg_istore_n dX9_bestCandidate_3 (Nat.le_of_ble_eq_true rfl) rfl ?_
  refine gi_iconst dX9_bestCandidate_4 ?_
  refine gg_istore_n dX9_bestCandidate_5 (Nat.le_of_ble_eq_true rfl) rfl ?_
  refine gi_iconst dX9_bestCandidate_6 ?_
  refine gg_istore dX9_bestCandidate_7 (Nat.le_of_ble_eq_true rfl) rfl ?_
  have L_9 : ∀ (n9 : Nat) (i : Int), ((20 - i).toNat) = n9 → ∀ (hi : 0 ≤ i ∧ i ≤ 20), GG Γ M_X9_bestCandidate QF9 (0, 0) (gst Γ h G B) 9 [some (.ref (g_L Γ 30)), some (.int (iN (bcF (B 33) (B 34) i.toNat).1)), some (.int (iN (bcF (B 33) (B 34) i.toNat).2.1)), some (.int (iN (bcF (B 33) (B 34) i.toNat).2.2)), some (.int (iN i))] [] := by
    intro n9
    induction n9 using Nat.strongRecOn with
    | ind n9 ih_9 => 
      intro i hm9 hi
      refine gg_iload dX9_bestCandidate_9 rfl ?_
      refine gg_aload_n dX9_bestCandidate_11 rfl rfl ?_
      refine gk_getX9_45 rfl dX9_bestCandidate_12 ?_
      refine gi_alen dX9_bestCandidate_15 (HAt.mu gst_32) (by decide) ?_
      refine gi_icmp_ge (tgt := 81) dX9_bestCandidate_16 (by decide) ⟨by omega, by omega⟩ ⟨by omega, by omega⟩ (fun c_16 => ?_) (fun c_16 => ?_)
      · refine gg_iload_n dX9_bestCandidate_81 rfl ?_
        subst hQF9
        refine gg_iret dX9_bestCandidate_82 rfl rfl ⟨(Nat.le_of_ble_eq_true rfl), (Nat.le_of_ble_eq_true rfl)⟩ ?_
        rw [show i = 20 by omega]
        exact ⟨rfl, rfl⟩
      · have x1 := p3 i (by omega) (by omega)
        have x2 := br i.toNat (by omega)
        refine gg_aload_n dX9_bestCandidate_19 rfl rfl ?_
        refine gk_getX9_49 rfl dX9_bestCandidate_20 ?_
        refine gg_iload dX9_bestCandidate_23 rfl ?_
        refine gk_iald dX9_bestCandidate_25 (by decide) (by decide) ⟨by omega, by show _ < (20 : Int); omega⟩ (by (try simp only [uA_s, uA_n, ne_eq, not_false_eq_true, Nat.reduceEqDiff, reduceCtorEq]); rfl) ?_
        refine gg_iload_n dX9_bestCandidate_26 rfl ?_
        refine gi_icmp_gt (tgt := 56) dX9_bestCandidate_27 (by decide) x1.1 x2.1 (fun c_27 => ?_) (fun c_27 => ?_)
        · refine gg_iload dX9_bestCandidate_56 rfl ?_
          refine gg_istore_n dX9_bestCandidate_58 (Nat.le_of_ble_eq_true rfl) rfl ?_
          refine gg_aload_n dX9_bestCandidate_59 rfl rfl ?_
          refine gk_getX9_49 rfl dX9_bestCandidate_60 ?_
          refine gg_iload dX9_bestCandidate_63 rfl ?_
          refine gk_iald dX9_bestCandidate_65 (by decide) (by decide) ⟨by omega, by show _ < (20 : Int); omega⟩ (by (try simp only [uA_s, uA_n, ne_eq, not_false_eq_true, Nat.reduceEqDiff, reduceCtorEq]); rfl) ?_
          refine gg_istore_n dX9_bestCandidate_66 (Nat.le_of_ble_eq_true rfl) rfl ?_
          refine gg_aload_n dX9_bestCandidate_67 rfl rfl ?_
          refine gk_getX9_53 rfl dX9_bestCandidate_68 ?_
          refine gg_iload dX9_bestCandidate_71 rfl ?_
          refine gk_iald dX9_bestCandidate_73 (by decide) (by decide) ⟨by omega, by show _ < (20 : Int); omega⟩ (by (try simp only [uA_s, uA_n, ne_eq, not_false_eq_true, Nat.reduceEqDiff, reduceCtorEq]); rfl) ?_
          refine gg_istore_n dX9_bestCandidate_74 (Nat.le_of_ble_eq_true rfl) rfl ?_
          refine gi_iinc dX9_bestCandidate_75 rfl (Nat.le_of_ble_eq_true rfl) rfl ?_
          refine gg_goto (tgt := 9) dX9_bestCandidate_78 (by decide) ?_
          refine gg_conv (ih_9 _ (by omega) (i + 1) rfl (by omega)) rfl ?_ rfl
          rw [show (i + 1).toNat = i.toNat + 1 by omega, bcF, Int.toNat_of_nonneg hi.1, if_pos (by omega)]
          rfl
        · refine gg_aload_n dX9_bestCandidate_30 rfl rfl ?_
          refine gk_getX9_49 rfl dX9_bestCandidate_31 ?_
          refine gg_iload dX9_bestCandidate_34 rfl ?_
          refine gk_iald dX9_bestCandidate_36 (by decide) (by decide) ⟨by omega, by show _ < (20 : Int); omega⟩ (by (try simp only [uA_s, uA_n, ne_eq, not_false_eq_true, Nat.reduceEqDiff, reduceCtorEq]); rfl) ?_
          refine gg_iload_n dX9_bestCandidate_37 rfl ?_
          refine gi_icmp_ne (tgt := 75) dX9_bestCandidate_38 (by decide) x1.1 x2.1 (fun c_38 => ?_) (fun c_38 => ?_)
          · refine gi_iinc dX9_bestCandidate_75 rfl (Nat.le_of_ble_eq_true rfl) rfl ?_
            refine gg_goto (tgt := 9) dX9_bestCandidate_78 (by decide) ?_
            refine gg_conv (ih_9 _ (by omega) (i + 1) rfl (by omega)) rfl ?_ rfl
            rw [show (i + 1).toNat = i.toNat + 1 by omega, bcF, Int.toNat_of_nonneg hi.1, if_neg (by omega)]
            rfl
          · refine gg_iload_n dX9_bestCandidate_41 rfl ?_
            refine gi_if_le (tgt := 75) dX9_bestCandidate_42 (by decide) x2.1 (fun c_42 => ?_) (fun c_42 => ?_)
            · refine gi_iinc dX9_bestCandidate_75 rfl (Nat.le_of_ble_eq_true rfl) rfl ?_
              refine gg_goto (tgt := 9) dX9_bestCandidate_78 (by decide) ?_
              refine gg_conv (ih_9 _ (by omega) (i + 1) rfl (by omega)) rfl ?_ rfl
              rw [show (i + 1).toNat = i.toNat + 1 by omega, bcF, Int.toNat_of_nonneg hi.1, if_neg (by omega)]
              rfl
            · refine gg_aload_n dX9_bestCandidate_45 rfl rfl ?_
              refine gk_getX9_53 rfl dX9_bestCandidate_46 ?_
              refine gg_iload dX9_bestCandidate_49 rfl ?_
              refine gk_iald dX9_bestCandidate_51 (by decide) (by decide) ⟨by omega, by show _ < (20 : Int); omega⟩ (by (try simp only [uA_s, uA_n, ne_eq, not_false_eq_true, Nat.reduceEqDiff, reduceCtorEq]); rfl) ?_
              refine gg_iload_n dX9_bestCandidate_52 rfl ?_
              refine gi_icmp_ge (tgt := 75) dX9_bestCandidate_53 (by decide) x1.2 x2.2 (fun c_53 => ?_) (fun c_53 => ?_)
              · refine gi_iinc dX9_bestCandidate_75 rfl (Nat.le_of_ble_eq_true rfl) rfl ?_
                refine gg_goto (tgt := 9) dX9_bestCandidate_78 (by decide) ?_
                refine gg_conv (ih_9 _ (by omega) (i + 1) rfl (by omega)) rfl ?_ rfl
                rw [show (i + 1).toNat = i.toNat + 1 by omega, bcF, Int.toNat_of_nonneg hi.1, if_neg (by omega)]
                rfl
              · refine gg_iload dX9_bestCandidate_56 rfl ?_
                refine gg_istore_n dX9_bestCandidate_58 (Nat.le_of_ble_eq_true rfl) rfl ?_
                refine gg_aload_n dX9_bestCandidate_59 rfl rfl ?_
                refine gk_getX9_49 rfl dX9_bestCandidate_60 ?_
                refine gg_iload dX9_bestCandidate_63 rfl ?_
                refine gk_iald dX9_bestCandidate_65 (by decide) (by decide) ⟨by omega, by show _ < (20 : Int); omega⟩ (by (try simp only [uA_s, uA_n, ne_eq, not_false_eq_true, Nat.reduceEqDiff, reduceCtorEq]); rfl) ?_
                refine gg_istore_n dX9_bestCandidate_66 (Nat.le_of_ble_eq_true rfl) rfl ?_
                refine gg_aload_n dX9_bestCandidate_67 rfl rfl ?_
                refine gk_getX9_53 rfl dX9_bestCandidate_68 ?_
                refine gg_iload dX9_bestCandidate_71 rfl ?_
                refine gk_iald dX9_bestCandidate_73 (by decide) (by decide) ⟨by omega, by show _ < (20 : Int); omega⟩ (by (try simp only [uA_s, uA_n, ne_eq, not_false_eq_true, Nat.reduceEqDiff, reduceCtorEq]); rfl) ?_
                refine gg_istore_n dX9_bestCandidate_74 (Nat.le_of_ble_eq_true rfl) rfl ?_
                refine gi_iinc dX9_bestCandidate_75 rfl (Nat.le_of_ble_eq_true rfl) rfl ?_
                refine gg_goto (tgt := 9) dX9_bestCandidate_78 (by decide) ?_
                refine gg_conv (ih_9 _ (by omega) (i + 1) rfl (by omega)) rfl ?_ rfl
                rw [show (i + 1).toNat = i.toNat + 1 by omega, bcF, Int.toNat_of_nonneg hi.1, if_pos (by omega)]
                rfl
  exact L_9 _ 0 rfl (by omega)
