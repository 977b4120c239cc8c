/-! the scanner: difference -/
set_option maxRecDepth 100000 in
set_option maxHeartbeats 4000000 in
theorem c_X9_classOf {Γ : GT} {h : XH} {G : Nat → Int} {B : Nat → Int → Int} {b mq : Nat} {kd ft c9 : Int} {a : Int → Int} (S : SW h.2 G B b mq kd ft c9 a) {fL : Int → Int → Int → Int} {nL : Int → Int → Int} (LD : ∀ d : Nat, d ≤ 3 → LnD h.2 G B b d (fL d) (nL d)) {i l : Int} (hi : 0 ≤ i ∧ i ≤ 3) (hl : InR l) : Ct Γ M_X9_classOf [.ref (g_L Γ 30), .int (iN i), .int (iN l)] (gst Γ h G B) (fun r h9 => ∃ B' : Nat → Int → Int, r = some (.int (iN (if 0 ≤ l ∧ l < 10 then (clS a (fL i) (nL i) (B 36) (G (103 + 10 * b + i.toNat)).toNat).1 l else 0))) ∧ h9 = gst Γ h G B' ∧ frA [35, 36] B B') (fun _ _ => False) := by
  refine Ct.of rfl (by decide +kernel) (Nat.le_of_ble_eq_true rfl) ?_
  generalize hQF9 : QM Γ _ _ _ = QF9
  have hb9 := S.1
  have g0 := S.2.1
  refine gg_aload_n dX9_classOf_0 rfl rfl ?_
  refine gg_aload_n dX9_classOf_1 rfl rfl ?_
  refine gg_iload_n dX9_classOf_2 rfl ?_
  refine gc_X9_182 rfl dX9_classOf_3 ⟨(Nat.le_of_ble_eq_true rfl), (Nat.le_of_ble_eq_true rfl)⟩ ⟨(Nat.le_of_ble_eq_true rfl), (Nat.le_of_ble_eq_true rfl)⟩ (Nat.le_of_ble_eq_true rfl) (HAt.mu gst_30) (c_X9_draftAt hb9 g0 ⟨by omega, by omega⟩) (fun E h8 hx => by subst hQF9; exact gx_out rfl ⟨(Nat.le_of_ble_eq_true rfl), (Nat.le_of_ble_eq_true rfl)⟩ (by exact absurd hi hx.1)) (fun r_3 h_3 hp => ?_)
  obtain ⟨hi2, rfl, rfl⟩ := hp
  have hd9 : i.toNat ≤ 3 := by omega
  refine gc_X9_362 rfl dX9_classOf_6 ⟨(Nat.le_of_ble_eq_true rfl), (Nat.le_of_ble_eq_true rfl)⟩ ⟨(Nat.le_of_ble_eq_true rfl), (Nat.le_of_ble_eq_true rfl)⟩ (Nat.le_of_ble_eq_true rfl) (HAt.mu gst_30) (c_X9_fillClasses S hd9 (LD i.toNat hd9)) (fun _ _ w => w.elim) (fun r_6 h_6 hp => ?_)
  obtain ⟨B2, rfl, rfl, fr, e36⟩ := hp
  rw [Int.toNat_of_nonneg hi.1] at e36
  refine gg_pop dX9_classOf_9 rfl ?_
  refine gg_iload_n dX9_classOf_10 rfl ?_
  refine gi_if_lt (tgt := 32) dX9_classOf_11 (by decide) hl (fun c_11 => ?_) (fun c_11 => ?_)
  · refine gi_iconst dX9_classOf_32 ?_
    subst hQF9
    refine gg_iret dX9_classOf_33 rfl rfl ⟨(Nat.le_of_ble_eq_true rfl), (Nat.le_of_ble_eq_true rfl)⟩ ?_
    rw [if_neg (fun z => by omega)]
    exact ⟨B2, rfl, rfl, fr⟩
  · refine gg_iload_n dX9_classOf_14 rfl ?_
    refine gg_aload_n dX9_classOf_15 rfl rfl ?_
    refine gk_getX9_59 rfl dX9_classOf_16 ?_
    refine gi_alen dX9_classOf_19 (HAt.mu (gst_i (by decide))) (by decide) ?_
    rw [show ((gl9 36 : Nat) : Int) = 10 from rfl]
    refine gi_icmp_ge (tgt := 32) dX9_classOf_20 (by decide) hl ⟨by omega, by omega⟩ (fun c_20 => ?_) (fun c_20 => ?_)
    · refine gi_iconst dX9_classOf_32 ?_
      subst hQF9
      refine gg_iret dX9_classOf_33 rfl rfl ⟨(Nat.le_of_ble_eq_true rfl), (Nat.le_of_ble_eq_true rfl)⟩ ?_
      rw [if_neg (fun z => by omega)]
      exact ⟨B2, rfl, rfl, fr⟩
    · refine gg_aload_n dX9_classOf_23 rfl rfl ?_
      refine gk_getX9_59 rfl dX9_classOf_24 ?_
      refine gg_iload_n dX9_classOf_27 rfl ?_
      refine gk_iald dX9_classOf_28 (by decide) (by decide) ⟨by omega, by show _ < (10 : Int); omega⟩ (by rw [e36]) ?_
      refine gg_goto (tgt := 33) dX9_classOf_29 (by decide) ?_
      subst hQF9
      refine gg_iret dX9_classOf_33 rfl rfl ⟨(Nat.le_of_ble_eq_true rfl), (Nat.le_of_ble_eq_true rfl)⟩ ?_
      rw [if_pos ⟨by omega, by omega⟩]
      exact ⟨B2, rfl, rfl, fr⟩
/-- how much line i of the one and line j of the other differ -/
def dfL (fL gL : Int → Int → Int) (nL mL : Int → Int) (i j : Int) : Int := min (lpP (fL i) (nL i) (gL j) (mL j) (max (pwL (fL i) (nL i)) (pwL (gL j) (mL j))).toNat) 5
theorem dfL_r {fL gL : Int → Int → Int} {nL mL : Int → Int} {i j : Int} : 0 ≤ dfL fL gL nL mL i j ∧ dfL fL gL nL mL i j ≤ 5 := by
  have := lpP_r (fL i) (nL i) (gL j) (mL j) (max (pwL (fL i) (nL i)) (pwL (gL j) (mL j))).toNat
  unfold dfL; omega
def d3U (g : Int → Int) (m : Int) : Int → Int := fun j => if 0 ≤ j ∧ j < m then 3 * j else g j
/-- a row of distances: the first j places, and the place before -/
def dcL (v : Int → Int) (i : Int) (r : Int → Int) : Nat → (Int → Int) × Int
  | 0 => (up r 0 (3 * (i + 1)), r 0)
  | j + 1 => (up (dcL v i r j).1 (j + 1) (min ((dcL v i r j).2 + v j) (min ((dcL v i r j).1 j) ((dcL v i r j).1 (j + 1)) + 3)), (dcL v i r j).1 (j + 1))
def drL (v : Int → Int → Int) (g : Int → Int) (w : Int) : Nat → Int → Int
  | 0 => d3U g (w + 1)
  | i + 1 => (dcL (v i) i (drL v g w i) w.toNat).1
theorem dcL_r {v : Int → Int} {i w : Int} {r : Int → Int} (hi : 0 ≤ i) (hv : ∀ j, 0 ≤ v j) (hr : ∀ k : Int, 0 ≤ k → k ≤ w → 0 ≤ r k ∧ r k ≤ 30 + 3 * i) (hw : 0 ≤ w) : ∀ j : Nat, (j : Int) ≤ w → (0 ≤ (dcL v i r j).2 ∧ (dcL v i r j).2 ≤ 30 + 3 * i) ∧ ∀ k : Int, 0 ≤ k → k ≤ w → 0 ≤ (dcL v i r j).1 k ∧ (dcL v i r j).1 k ≤ 30 + 3 * (i + 1) ∧ (j < k → (dcL v i r j).1 k ≤ 30 + 3 * i)
  | 0, _ => by
    refine ⟨hr 0 (by omega) hw, fun k k0 k1 => ?_⟩
    show 0 ≤ up r 0 (3 * (i + 1)) k ∧ up r 0 (3 * (i + 1)) k ≤ _ ∧ (((0 : Nat) : Int) < k → up r 0 (3 * (i + 1)) k ≤ _)
    by_cases e : k = 0
    · rw [e, up_s]; omega
    · rw [up_n e]; have := hr k k0 k1; omega
  | j + 1, hj => by
    obtain ⟨h1, h2⟩ := dcL_r (v := v) hi hv hr hw j (by omega)
    have a1 := h2 (j + 1) (by omega) (by omega)
    have a2 := h2 j (by omega) (by omega)
    have a3 := hv j
    rw [dcL]
    dsimp only
    refine ⟨by omega, fun k k0 k1 => ?_⟩
    by_cases e : k = (j : Int) + 1
    · rw [e, up_s]; omega
    · rw [up_n e]; have := h2 k k0 k1; omega
theorem drL_r {v : Int → Int → Int} {g : Int → Int} {w : Int} (hv : ∀ i j, 0 ≤ v i j) (hw : 0 ≤ w ∧ w ≤ 10) : ∀ i : Nat, ∀ k : Int, 0 ≤ k → k ≤ w → 0 ≤ drL v g w i k ∧ drL v g w i k ≤ 30 + 3 * i
  | 0, k, k0, k1 => by rw [drL]; unfold d3U; rw [if_pos (by omega)]; omega
  | i + 1, k, k0, k1 => by
    have := (dcL_r (v := v i) (i := i) (r := drL v g w i) (w := w) (by omega) (hv i) (fun k k0 k1 => drL_r hv hw i k k0 k1) hw.1 w.toNat (by omega)).2 k k0 k1
    rw [drL]; omega
theorem frA.l {ι : Nat → Option XE} {G : Nat → Int} {B B' : Nat → Int → Int} {b d : Nat} {fL : Int → Int → Int} {nL : Int → Int} (f : frA [37] B B') (x : LnD ι G B b d fL nL) : LnD ι G B' b d fL nL := by
  unfold LnD at x ⊢; rw [f (106 + 11 * b + d) (by simp only [List.mem_cons, List.mem_nil_iff, or_false]; omega)]; exact x
set_option maxRecDepth 100000 in
set_option maxHeartbeats 4000000 in
theorem c_X9_distance {Γ : GT} {h : XH} {G : Nat → Int} {B : Nat → Int → Int} {b : Nat} (hb9 : b ≤ 9) {d d2 : Nat} (hd9 : d ≤ 3) (hd8 : d2 ≤ 3) {fL gL : Int → Int → Int} {nL mL : Int → Int} (LA : LnD h.2 G B b d fL nL) (LB : LnD h.2 G B b d2 gL mL) : Ct Γ M_X9_distance [.ref (g_L Γ 30), .ref (g_L Γ (102 + 11 * b + d)), .ref (g_L Γ (102 + 11 * b + d2))] (gst Γ h G B) (fun r h9 => ∃ B' : Nat → Int → Int, r = some (.int (iN ((drL (dfL fL gL nL mL) (B 37) (G (103 + 10 * b + d2)) (G (103 + 10 * b + d)).toNat) (G (103 + 10 * b + d2))))) ∧ h9 = gst Γ h G B' ∧ frA [37] B B') (fun _ _ => False) := by
  refine Ct.of rfl (by decide +kernel) (Nat.le_of_ble_eq_true rfl) ?_
  generalize hQF9 : QM Γ _ _ _ = QF9
  have hcn := LA.1
  have hcm := LB.1
  have hv : ∀ i j, 0 ≤ (dfL fL gL nL mL) i j := fun i j => dfL_r.1
  have rr := drL_r (v := (dfL fL gL nL mL)) (g := B 37) (w := G (103 + 10 * b + d2)) hv hcm
  refine gg_aload_n dX9_distance_0 rfl rfl ?_
  refine gk_getX9_186 hb9 hd8 rfl dX9_distance_1 rfl ?_
  refine gi_bipush dX9_distance_4 (by decide) ?_
  refine gc_X9_430 rfl dX9_distance_6 ⟨(Nat.le_of_ble_eq_true rfl), (Nat.le_of_ble_eq_true rfl)⟩ ⟨(Nat.le_of_ble_eq_true rfl), (Nat.le_of_ble_eq_true rfl)⟩ ?_
  rw [iN_min ⟨by omega, by omega⟩ ⟨by omega, by omega⟩]
  rw [show min (G (103 + 10 * b + d2)) 10 = G (103 + 10 * b + d2) by omega]
  refine gg_istore_n dX9_distance_9 (Nat.le_of_ble_eq_true rfl) rfl ?_
  refine gi_iconst dX9_distance_10 ?_
  refine gg_istore dX9_distance_11 (Nat.le_of_ble_eq_true rfl) rfl ?_
  have L_13 : ∀ (n9 : Nat) (j : Int) (B1 : Nat → Int → Int), ((G (103 + 10 * b + d2) + 1 - j).toNat) = n9 → ∀ (hj : 0 ≤ j ∧ j ≤ G (103 + 10 * b + d2) + 1) (fr : frA [37] B B1) (E : B1 37 = d3U (B 37) j), GG Γ M_X9_distance QF9 (0, 0) (gst Γ h G B1) 13 [some (.ref (g_L Γ 30)), some (.ref (g_L Γ (102 + 11 * b + d))), some (.ref (g_L Γ (102 + 11 * b + d2))), some (.int (iN (G (103 + 10 * b + d2)))), some (.int (iN j)), none, none, none, none] [] := by
    intro n9
    induction n9 using Nat.strongRecOn with
    | ind n9 ih_13 => 
      intro j B1 hm9 hj fr E
      refine gg_iload dX9_distance_13 rfl ?_
      refine gg_iload_n dX9_distance_15 rfl ?_
      refine gi_icmp_gt (tgt := 36) dX9_distance_16 (by decide) ⟨by omega, by omega⟩ ⟨by omega, by omega⟩ (fun c_16 => ?_) (fun c_16 => ?_)
      · refine gi_iconst dX9_distance_36 ?_
        refine gg_istore dX9_distance_37 (Nat.le_of_ble_eq_true rfl) rfl ?_
        have L_39 : ∀ (n9 : Nat) (i : Int) (B1 : Nat → Int → Int), ((G (103 + 10 * b + d) - i).toNat) = n9 → ∀ (hi : 0 ≤ i ∧ i ≤ G (103 + 10 * b + d)) (fr : frA [37] B B1) (E : B1 37 = (drL (dfL fL gL nL mL) (B 37) (G (103 + 10 * b + d2)) i.toNat)), GG Γ M_X9_distance QF9 (0, 0) (gst Γ h G B1) 39 [some (.ref (g_L Γ 30)), some (.ref (g_L Γ (102 + 11 * b + d))), some (.ref (g_L Γ (102 + 11 * b + d2))), some (.int (iN (G (103 + 10 * b + d2)))), some (.int (iN i)), none, none, none, none] [] := by
          intro n9
          induction n9 using Nat.strongRecOn with
          | ind n9 ih_39 => 
            intro i B1 hm9 hi fr E
            refine gg_iload dX9_distance_39 rfl ?_
            refine gg_aload_n dX9_distance_41 rfl rfl ?_
            refine gk_getX9_186 hb9 hd9 rfl dX9_distance_42 rfl ?_
            refine gi_icmp_ge (tgt := 159) dX9_distance_45 (by decide) ⟨by omega, by omega⟩ ⟨by omega, by omega⟩ (fun c_45 => ?_) (fun c_45 => ?_)
            · refine gg_aload_n dX9_distance_159 rfl rfl ?_
              refine gk_getX9_62 rfl dX9_distance_160 ?_
              refine gg_iload_n dX9_distance_163 rfl ?_
              refine gk_iald dX9_distance_164 (by decide) (by decide) ⟨by omega, by show _ < (11 : Int); omega⟩ (by rw [E]) ?_
              subst hQF9
              refine gg_iret dX9_distance_165 rfl rfl ⟨(Nat.le_of_ble_eq_true rfl), (Nat.le_of_ble_eq_true rfl)⟩ ?_
              rw [show i = G (103 + 10 * b + d) by omega]
              exact ⟨B1, rfl, rfl, fr⟩
            · refine gg_aload_n dX9_distance_48 rfl rfl ?_
              refine gk_getX9_62 rfl dX9_distance_49 ?_
              refine gi_iconst dX9_distance_52 ?_
              refine gk_iald dX9_distance_53 (by decide) (by decide) ⟨by omega, by show _ < (11 : Int); omega⟩ (by rw [E]) ?_
              refine gg_istore dX9_distance_54 (Nat.le_of_ble_eq_true rfl) rfl ?_
              refine gg_aload_n dX9_distance_56 rfl rfl ?_
              refine gk_getX9_62 rfl dX9_distance_57 ?_
              refine gi_iconst dX9_distance_60 ?_
              refine gi_iconst dX9_distance_61 ?_
              refine gg_iload dX9_distance_62 rfl ?_
              refine gi_iconst dX9_distance_64 ?_
              refine gi_iadd dX9_distance_65 ?_
              refine gi_imul dX9_distance_66 ?_
              refine gk_iast dX9_distance_67 (by decide) (by decide) ⟨by omega, by show _ < (11 : Int); omega⟩ (by (try simp only [uA_s, uA_n, uA_ss, uA_cc, id_eq, ne_eq, not_false_eq_true, Nat.reduceEqDiff, Nat.reduceLT, reduceCtorEq]); rfl) ?_
              have L_71 : ∀ (n9 : Nat) (j : Int) (B1 : Nat → Int → Int), ((G (103 + 10 * b + d2) - j).toNat) = n9 → ∀ (hj : 0 ≤ j ∧ j ≤ G (103 + 10 * b + d2)) (fr : frA [37] B B1) (E : B1 37 = (dcL ((dfL fL gL nL mL) i) i (drL (dfL fL gL nL mL) (B 37) (G (103 + 10 * b + d2)) i.toNat) j.toNat).1), GG Γ M_X9_distance QF9 (0, 0) (gst Γ h G B1) 71 [some (.ref (g_L Γ 30)), some (.ref (g_L Γ (102 + 11 * b + d))), some (.ref (g_L Γ (102 + 11 * b + d2))), some (.int (iN (G (103 + 10 * b + d2)))), some (.int (iN i)), some (.int (iN (dcL ((dfL fL gL nL mL) i) i (drL (dfL fL gL nL mL) (B 37) (G (103 + 10 * b + d2)) i.toNat) j.toNat).2)), some (.int (iN j)), none, none] [] := by
                intro n9
                induction n9 using Nat.strongRecOn with
                | ind n9 ih_71 => 
                  intro j B1 hm9 hj fr E
                  refine gg_iload dX9_distance_71 rfl ?_
                  refine gg_iload_n dX9_distance_73 rfl ?_
                  refine gi_icmp_ge (tgt := 153) dX9_distance_74 (by decide) ⟨by omega, by omega⟩ ⟨by omega, by omega⟩ (fun c_74 => ?_) (fun c_74 => ?_)
                  · refine gi_iinc dX9_distance_153 rfl (Nat.le_of_ble_eq_true rfl) rfl ?_
                    refine gg_goto (tgt := 39) dX9_distance_156 (by decide) ?_
                    refine gg_drop 5 ?_
                    refine gg_drop 6 ?_
                    refine gg_drop 7 ?_
                    refine gg_drop 8 ?_
                    refine gg_drop 5 ?_
                    refine gg_drop 6 ?_
                    refine ih_39 _ (by omega) (i + 1) B1 rfl (by omega) fr ?_
                    rw [E, show j = G (103 + 10 * b + d2) by omega, show (i + 1).toNat = i.toNat + 1 by omega, drL, Int.toNat_of_nonneg hi.1]
                  · have dr := dcL_r (v := (dfL fL gL nL mL) i) (i := i) (r := (drL (dfL fL gL nL mL) (B 37) (G (103 + 10 * b + d2)) i.toNat)) hi.1 (hv i) (fun k k0 k1 => by have := rr i.toNat k k0 k1; omega) hcm.1 j.toNat (by omega)
                    have dj := dr.2 j (by omega) (by omega)
                    have dk := dr.2 (j + 1) (by omega) (by omega)
                    refine gg_iload dX9_distance_77 rfl ?_
                    refine gg_aload_n dX9_distance_79 rfl rfl ?_
                    refine gg_iload dX9_distance_80 rfl ?_
                    refine gc_X9_391 rfl dX9_distance_82 ⟨(Nat.le_of_ble_eq_true rfl), (Nat.le_of_ble_eq_true rfl)⟩ ⟨(Nat.le_of_ble_eq_true rfl), (Nat.le_of_ble_eq_true rfl)⟩ (Nat.le_of_ble_eq_true rfl) (HAt.mu (gst_dr hb9 hd9)) (c_X0_lineOf (B := B1) hb9 hd9 LA.1 (i := i) ⟨by omega, by omega⟩) (fun _ _ w => w.elim) (fun r_82 h_82 hp => ?_)
                    obtain ⟨rfl, rfl⟩ := hp
                    rw [if_pos (by omega)]
                    obtain ⟨q1, hq1, L1⟩ := (fr.l LA).at (l := i) (by omega) (by omega)
                    rw [hq1]
                    refine gg_aload_n dX9_distance_85 rfl rfl ?_
                    refine gg_iload dX9_distance_86 rfl ?_
                    refine gc_X9_391 rfl dX9_distance_88 ⟨(Nat.le_of_ble_eq_true rfl), (Nat.le_of_ble_eq_true rfl)⟩ ⟨(Nat.le_of_ble_eq_true rfl), (Nat.le_of_ble_eq_true rfl)⟩ (Nat.le_of_ble_eq_true rfl) (HAt.mu (gst_dr hb9 hd8)) (c_X0_lineOf (B := B1) hb9 hd8 LB.1 (i := j) ⟨by omega, by omega⟩) (fun _ _ w => w.elim) (fun r_88 h_88 hp => ?_)
                    obtain ⟨rfl, rfl⟩ := hp
                    rw [if_pos (by omega)]
                    obtain ⟨q2, hq2, L2⟩ := (fr.l LB).at (l := j) (by omega) (by omega)
                    rw [hq2]
                    refine gc_X9_433 rfl dX9_distance_91 ⟨(Nat.le_of_ble_eq_true rfl), (Nat.le_of_ble_eq_true rfl)⟩ ⟨(Nat.le_of_ble_eq_true rfl), (Nat.le_of_ble_eq_true rfl)⟩ (Nat.le_of_ble_eq_true rfl) (c_X9_lineDifference (h := gst Γ h G B1) L1 L2) (fun _ _ w => w.elim) (fun r_91 h_91 hp => ?_)
                    obtain ⟨rfl, rfl⟩ := hp
                    rw [show min (lpP (fL i) (nL i) (gL j) (mL j) (max (pwL (fL i) (nL i)) (pwL (gL j) (mL j))).toNat) 5 = (dfL fL gL nL mL) i j from rfl]
                    have v9 := dfL_r (fL := fL) (gL := gL) (nL := nL) (mL := mL) (i := i) (j := j)
                    refine gi_iadd dX9_distance_94 ?_
                    refine gg_istore dX9_distance_95 (Nat.le_of_ble_eq_true rfl) rfl ?_
                    refine gg_aload_n dX9_distance_97 rfl rfl ?_
                    refine gk_getX9_62 rfl dX9_distance_98 ?_
                    refine gg_iload dX9_distance_101 rfl ?_
                    refine gk_iald dX9_distance_103 (by decide) (by decide) ⟨by omega, by show _ < (11 : Int); omega⟩ (by rw [E]) ?_
                    refine gg_aload_n dX9_distance_104 rfl rfl ?_
                    refine gk_getX9_62 rfl dX9_distance_105 ?_
                    refine gg_iload dX9_distance_108 rfl ?_
                    refine gi_iconst dX9_distance_110 ?_
                    refine gi_iadd dX9_distance_111 ?_
                    refine gk_iald dX9_distance_112 (by decide) (by decide) ⟨by omega, by show _ < (11 : Int); omega⟩ (by rw [E]) ?_
                    refine gc_X9_430 rfl dX9_distance_113 ⟨(Nat.le_of_ble_eq_true rfl), (Nat.le_of_ble_eq_true rfl)⟩ ⟨(Nat.le_of_ble_eq_true rfl), (Nat.le_of_ble_eq_true rfl)⟩ ?_
                    rw [iN_min ⟨by omega, by omega⟩ ⟨by omega, by omega⟩]
                    refine gi_iconst dX9_distance_116 ?_
                    refine gi_iadd dX9_distance_117 ?_
                    refine gg_istore dX9_distance_118 (Nat.le_of_ble_eq_true rfl) rfl ?_
                    refine gg_aload_n dX9_distance_120 rfl rfl ?_
                    refine gk_getX9_62 rfl dX9_distance_121 ?_
                    refine gg_iload dX9_distance_124 rfl ?_
                    refine gi_iconst dX9_distance_126 ?_
                    refine gi_iadd dX9_distance_127 ?_
                    refine gk_iald dX9_distance_128 (by decide) (by decide) ⟨by omega, by show _ < (11 : Int); omega⟩ (by rw [E]) ?_
                    refine gg_istore dX9_distance_129 (Nat.le_of_ble_eq_true rfl) rfl ?_
                    refine gg_aload_n dX9_distance_131 rfl rfl ?_
                    refine gk_getX9_62 rfl dX9_distance_132 ?_
                    refine gg_iload dX9_distance_135 rfl ?_
                    refine gi_iconst dX9_distance_137 ?_
                    refine gi_iadd dX9_distance_138 ?_
                    refine gg_iload dX9_distance_139 rfl ?_
                    refine gg_iload dX9_distance_141 rfl ?_
                    refine gc_X9_430 rfl dX9_distance_143 ⟨(Nat.le_of_ble_eq_true rfl), (Nat.le_of_ble_eq_true rfl)⟩ ⟨(Nat.le_of_ble_eq_true rfl), (Nat.le_of_ble_eq_true rfl)⟩ ?_
                    rw [iN_min ⟨by omega, by omega⟩ ⟨by omega, by omega⟩]
                    refine gk_iast dX9_distance_146 (by decide) (by decide) ⟨by omega, by show _ < (11 : Int); omega⟩ (by (try simp only [uA_s, uA_n, uA_ss, uA_cc, id_eq, ne_eq, not_false_eq_true, Nat.reduceEqDiff, Nat.reduceLT, reduceCtorEq]); rfl) ?_
                    refine gi_iinc dX9_distance_147 rfl (Nat.le_of_ble_eq_true rfl) rfl ?_
                    refine gg_goto (tgt := 71) dX9_distance_150 (by decide) ?_
                    refine gg_drop 7 ?_
                    refine gg_drop 8 ?_
                    refine gg_drop 7 ?_
                    refine gg_drop 8 ?_
                    refine gg_conv (ih_71 _ (by omega) (j + 1) _ rfl (by omega) (frA_u fr (by decide)) ?_) rfl ?_ rfl
                    · rw [uA_s, show (j + 1).toNat = j.toNat + 1 by omega, dcL, E, Int.toNat_of_nonneg hj.1]
                    · rw [show (j + 1).toNat = j.toNat + 1 by omega, dcL, Int.toNat_of_nonneg hj.1]
                      rfl
              refine gi_iconst dX9_distance_68 ?_
              refine gg_istore dX9_distance_69 (Nat.le_of_ble_eq_true rfl) rfl ?_
              refine gg_drop 7 ?_
              refine gg_drop 8 ?_
              refine L_71 _ 0 _ rfl (by omega) (frA_u fr (by decide)) ?_
              rw [uA_s, E]; rfl
        refine gg_drop 5 ?_
        refine gg_drop 6 ?_
        refine gg_drop 7 ?_
        refine gg_drop 8 ?_
        rw [show j = G (103 + 10 * b + d2) + 1 by omega] at E
        refine gg_conv (L_39 _ 0 B1 rfl (by omega) fr E) rfl rfl rfl
      · refine gg_aload_n dX9_distance_19 rfl rfl ?_
        refine gk_getX9_62 rfl dX9_distance_20 ?_
        refine gg_iload dX9_distance_23 rfl ?_
        refine gi_iconst dX9_distance_25 ?_
        refine gg_iload dX9_distance_26 rfl ?_
        refine gi_imul dX9_distance_28 ?_
        refine gk_iast dX9_distance_29 (by decide) (by decide) ⟨by omega, by show _ < (11 : Int); omega⟩ (by (try simp only [uA_s, uA_n, uA_ss, uA_cc, id_eq, ne_eq, not_false_eq_true, Nat.reduceEqDiff, Nat.reduceLT, reduceCtorEq]); rfl) ?_
        refine gi_iinc dX9_distance_30 rfl (Nat.le_of_ble_eq_true rfl) rfl ?_
        refine gg_goto (tgt := 13) dX9_distance_33 (by decide) ?_
        refine gg_drop 5 ?_
        refine gg_drop 6 ?_
        refine gg_drop 7 ?_
        refine gg_drop 8 ?_
        refine ih_13 _ (by omega) (j + 1) _ rfl (by omega) (frA_u fr (by decide)) ?_
        rw [uA_s, E]
        funext k; unfold up d3U
        by_cases e : k = j
        · rw [if_pos e, if_pos (by omega), e]
        · rw [if_neg e]
          by_cases q : 0 ≤ k ∧ k < j
          · rw [if_pos q, if_pos (by omega)]
          · rw [if_neg q, if_neg (by omega)]
  refine gg_drop 5 ?_
  refine gg_drop 6 ?_
  refine gg_drop 7 ?_
  refine gg_drop 8 ?_
  exact L_13 _ 0 B rfl (by omega) (fun _ _ => rfl) (by funext k; unfold d3U; rw [if_neg (by omega)])
