/-! the scanner: sums -/
/-- the sum of what the lines add -/
def suS (a : Int → Int) (fL : Int → Int → Int) (nL : Int → Int) (kd ft c9 tol w : Int) : Nat → Int
  | 0 => 0
  | k + 1 => suS a fL nL kd ft c9 tol w k + shV (dtA a (fL k) (nL k) kd ft c9) (mkC a (fL k) (nL k)) tol w
theorem LnD.at {ι : Nat → Option XE} {G : Nat → Int} {B : Nat → Int → Int} {b d : Nat} {fL : Int → Int → Int} {nL : Int → Int} (x : LnD ι G B b d fL nL) {l : Int} (l0 : 0 ≤ l) (l1 : l < G (103 + 10 * b + d)) : ∃ q : Nat, rfo (B (106 + 11 * b + d) l) = some q ∧ LnO ι q (fL l) (nL l) := by
  obtain ⟨q, hq, L⟩ := x.2 l l0 l1
  exact ⟨q, by rw [hq]; unfold rfo; rw [if_neg (by omega)]; rfl, L⟩
set_option maxRecDepth 100000 in
set_option maxHeartbeats 4000000 in
theorem c_X9_sumOfShares {Γ : GT} {h : XH} {G : Nat → Int} {B : Nat → Int → Int} {b mq : Nat} {kd ft c9 : Int} {a : Int → Int} (S : SW h.2 G B b mq kd ft c9 a) {d : Nat} (hd9 : d ≤ 3) {fL : Int → Int → Int} {nL : Int → Int} (LD : LnD h.2 G B b d fL nL) {w : Int} (hw : InR w) : Ct Γ M_X9_sumOfShares [.ref (g_L Γ 30), .ref (g_L Γ (102 + 11 * b + d)), .int (iN w)] (gst Γ h G B) (fun r h9 => ∃ (G' : Nat → Int) (B' : Nat → Int → Int), r = some (.int (iN (suS a fL nL kd ft c9 (G (101 + 10 * b)) w (G (103 + 10 * b + d)).toNat))) ∧ h9 = gst Γ h G' B' ∧ frS G G' B B') (fun _ _ => False) := by
  refine Ct.of rfl (by decide +kernel) (Nat.le_of_ble_eq_true rfl) ?_
  generalize hQF9 : QM Γ _ _ _ = QF9
  have hb9 := S.1
  have hcn := LD.1
  refine gi_iconst dX9_sumOfShares_0 ?_
  refine gg_istore_n dX9_sumOfShares_1 (Nat.le_of_ble_eq_true rfl) rfl ?_
  refine gi_iconst dX9_sumOfShares_2 ?_
  refine gg_istore dX9_sumOfShares_3 (Nat.le_of_ble_eq_true rfl) rfl ?_
  have L_5 : ∀ (n9 : Nat) (i : Int) (G1 : Nat → Int) (B1 : Nat → Int → Int), ((G (103 + 10 * b + d) - i).toNat) = n9 → ∀ (hi : 0 ≤ i ∧ i ≤ G (103 + 10 * b + d)) (fr : frS G G1 B B1), GG Γ M_X9_sumOfShares QF9 (0, 0) (gst Γ h G1 B1) 5 [some (.ref (g_L Γ 30)), some (.ref (g_L Γ (102 + 11 * b + d))), some (.int (iN w)), some (.int (iN (suS a fL nL kd ft c9 (G (101 + 10 * b)) w i.toNat))), some (.int (iN i)), none] [] := by
    intro n9
    induction n9 using Nat.strongRecOn with
    | ind n9 ih_5 => 
      intro i G1 B1 hm9 hi fr
      refine gg_iload dX9_sumOfShares_5 rfl ?_
      refine gg_aload_n dX9_sumOfShares_7 rfl rfl ?_
      refine gk_getX9_186 hb9 hd9 rfl dX9_sumOfShares_8 (fr.g (by omega)) ?_
      refine gi_icmp_ge (tgt := 43) dX9_sumOfShares_11 (by decide) ⟨by omega, by omega⟩ ⟨by omega, by omega⟩ (fun c_11 => ?_) (fun c_11 => ?_)
      · refine gg_iload_n dX9_sumOfShares_43 rfl ?_
        subst hQF9
        refine gg_iret dX9_sumOfShares_44 rfl rfl ⟨(Nat.le_of_ble_eq_true rfl), (Nat.le_of_ble_eq_true rfl)⟩ ?_
        rw [show i = G (103 + 10 * b + d) by omega]
        exact ⟨G1, B1, rfl, rfl, fr⟩
      · refine gg_aload_n dX9_sumOfShares_14 rfl rfl ?_
        refine gg_iload dX9_sumOfShares_15 rfl ?_
        refine gc_X9_391 rfl dX9_sumOfShares_17 ⟨(Nat.le_of_ble_eq_true rfl), (Nat.le_of_ble_eq_true rfl)⟩ ⟨(Nat.le_of_ble_eq_true rfl), (Nat.le_of_ble_eq_true rfl)⟩ (Nat.le_of_ble_eq_true rfl) (HAt.mu (gst_dr hb9 hd9)) (c_X0_lineOf (h := h) (G := G1) (B := B1) hb9 hd9 (LD.fs fr).1 (i := i) ⟨by omega, by omega⟩) (fun _ _ w => w.elim) (fun r_17 h_17 hp => ?_)
        obtain ⟨rfl, rfl⟩ := hp
        have cn : G1 (103 + 10 * b + d) = G (103 + 10 * b + d) := fr.g (by omega)
        rw [if_pos (by omega)]
        obtain ⟨q1, hq1, L1⟩ := (LD.fs fr).at (l := i) (by omega) (by omega)
        rw [hq1]
        refine gg_astore dX9_sumOfShares_20 rfl (Nat.le_of_ble_eq_true rfl) rfl ?_
        refine gg_aload dX9_sumOfShares_22 rfl rfl ?_
        refine gg_ifnull (tgt := 37) dX9_sumOfShares_24 (by decide) rfl (fun c_24 => ?_) (fun a_24 c_24 => ?_)
        · cases c_24
        · refine gg_iload_n dX9_sumOfShares_27 rfl ?_
          refine gg_aload_n dX9_sumOfShares_28 rfl rfl ?_
          refine gg_aload dX9_sumOfShares_29 rfl rfl ?_
          refine gg_iload_n dX9_sumOfShares_31 rfl ?_
          refine gc_X9_407 rfl dX9_sumOfShares_32 ⟨(Nat.le_of_ble_eq_true rfl), (Nat.le_of_ble_eq_true rfl)⟩ ⟨(Nat.le_of_ble_eq_true rfl), (Nat.le_of_ble_eq_true rfl)⟩ (Nat.le_of_ble_eq_true rfl) (HAt.mu gst_30) (c_X9_share (S.fs fr) L1 hw) (fun _ _ w => w.elim) (fun r_32 h_32 hp => ?_)
          obtain ⟨G2, B2, rfl, rfl, f2⟩ := hp
          rw [show G1 (101 + 10 * b) = G (101 + 10 * b) from fr.g (by omega)]
          refine gi_iadd dX9_sumOfShares_35 ?_
          refine gg_istore_n dX9_sumOfShares_36 (Nat.le_of_ble_eq_true rfl) rfl ?_
          refine gi_iinc dX9_sumOfShares_37 rfl (Nat.le_of_ble_eq_true rfl) rfl ?_
          refine gg_goto (tgt := 5) dX9_sumOfShares_40 (by decide) ?_
          refine gg_drop 5 ?_
          refine gg_drop 5 ?_
          refine gg_conv (ih_5 _ (by omega) (i + 1) G2 B2 rfl (by omega) (fr.tr f2)) rfl ?_ rfl
          rw [show (i + 1).toNat = i.toNat + 1 by omega, suS, Int.toNat_of_nonneg hi.1]
          rfl
  refine gg_drop 5 ?_
  exact L_5 _ 0 G B rfl (by omega) (frS.rf S.2.2.2.2.2.1)
