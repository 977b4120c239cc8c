/-! the scanner: classes of rhyme -/
theorem syE_1 {ι : Nat → Option XE} {G : Nat → Int} {B : Nat → Int → Int} {b : Nat} {a f : Int → Int} {n : Int} (X : ExM ι G B b a) (hn : 1 ≤ n ∧ n ≤ 12) : 1 ≤ syE a f n := by
  obtain ⟨⟨x1, x2⟩, x3⟩ := X
  have er := exO_r (a := a) (r := f) (fr := 0) (n := n) x2.1
  have cr := wC_r (f := f) hn
  unfold syE
  split
  · omega
  · obtain ⟨q, _, wq, aM, m9, _, _, hc, _⟩ := x3 (exO a f 0 n) (by omega) (by omega); omega
/-- the last word of a line -/
def lwG (f : Int → Int) (n : Int) : Int → Int := fun k => f (pwP f n (pwL f n - 1) + k)
def lwZ (f : Int → Int) (n : Int) : Int := pwN f n (pwL f n - 1)
theorem LnO.last {ι : Nat → Option XE} {q : Nat} {f : Int → Int} {n : Int} (L : LnO ι q f n) : ∃ (wl : Nat) (v0 v1 v2 v4 : Value), ι q = some (.inr (4, [v0, v1, v2, .ref wl, v4])) ∧ WdAt ι wl (lwG f n) (lwZ f n) := by
  obtain ⟨l1, l2, l3, aT, aW, wl, f9, w9, l4, l5, l6, l7, l8, l9⟩ := L
  obtain ⟨wq, e1, e2⟩ := l8 (pwL f n - 1) (by omega) (by omega)
  rw [l9] at e1
  cases e1
  exact ⟨wl, _, _, _, _, l4, e2⟩
/-- how two lines rhyme -/
def rkL (a f : Int → Int) (n : Int) (g : Int → Int) (m : Int) : Int :=
  if (decide (lwZ f n = lwZ g m) && eqN (lwG f n) (lwG g m) (lwZ f n).toNat) = true then 3 else if (decide ((lwZ f n - bi (wS (lwG f n) (lwZ f n)) - rsE a (lwG f n) (lwZ f n)) = (lwZ g m - bi (wS (lwG g m) (lwZ g m)) - rsE a (lwG g m) (lwZ g m))) && eqN (fun k => (lwG f n) (rsE a (lwG f n) (lwZ f n) + k)) (fun k => (lwG g m) (rsE a (lwG g m) (lwZ g m) + k)) (lwZ f n - bi (wS (lwG f n) (lwZ f n)) - rsE a (lwG f n) (lwZ f n)).toNat) = true then 2 else if vcA (lwG f n) (rsE a (lwG f n) (lwZ f n)) (lwZ f n - bi (wS (lwG f n) (lwZ f n)) - rsE a (lwG f n) (lwZ f n)).toNat = vcA (lwG g m) (rsE a (lwG g m) (lwZ g m)) (lwZ g m - bi (wS (lwG g m) (lwZ g m)) - rsE a (lwG g m) (lwZ g m)).toNat then 1 else 0
theorem rkL_r (a f : Int → Int) (n : Int) (g : Int → Int) (m : Int) : 0 ≤ rkL a f n g m ∧ rkL a f n g m ≤ 3 := by unfold rkL; repeat' split <;> first | omega | skip
/-- the first number that has p, or none -/
def fwN (p : Int → Bool) : Nat → Int
  | 0 => -1
  | k + 1 => if 0 ≤ fwN p k then fwN p k else if p k = true then (k : Int) else -1
theorem fwN_r (p : Int → Bool) : ∀ k : Nat, -1 ≤ fwN p k ∧ fwN p k < k
  | 0 => by simp [fwN]
  | k + 1 => by have := fwN_r p k; rw [fwN]; (repeat' split) <;> omega
theorem fwN_st {p : Int → Bool} {k : Nat} (h : 0 ≤ fwN p k) : ∀ m : Nat, fwN p (k + m) = fwN p k
  | 0 => rfl
  | m + 1 => by rw [← Nat.add_assoc, fwN, fwN_st h m, if_pos h]
theorem fwN_hit {p : Int → Bool} {k n : Nat} (h : fwN p k = -1) (hp : p k = true) (hk : k < n) : fwN p n = k := by
  have e : fwN p (k + 1) = k := by rw [fwN, h, if_neg (by omega), if_pos hp]
  have := fwN_st (p := p) (k := k + 1) (by omega) (n - (k + 1))
  rw [show k + 1 + (n - (k + 1)) = n by omega] at this
  rw [this, e]
def rkP (a : Int → Int) (fL : Int → Int → Int) (nL : Int → Int) (m : Int) : Int → Bool := fun j => decide (2 ≤ rkL a (fL j) (nL j) (fL m) (nL m))
def rsL (a : Int → Int) (fL : Int → Int → Int) (nL : Int → Int) (j : Int) : Int := rsE a (lwG (fL j) (nL j)) (lwZ (fL j) (nL j))
set_option maxRecDepth 100000 in
set_option maxHeartbeats 4000000 in
theorem c_X9_firstWithSameRhyme {Γ : GT} {h : XH} {G : Nat → Int} {B : Nat → Int → Int} {b : Nat} (hb9 : b ≤ 9) {a : Int → Int} (X9 : ExM h.2 G B b a) {d : Nat} (hd9 : d ≤ 3) {fL : Int → Int → Int} {nL : Int → Int} (LD : LnD h.2 G B b d fL nL) {q9 : Nat} {m : Int} (hm : 0 ≤ m ∧ m < G (103 + 10 * b + d)) (L9 : LnO h.2 q9 (fL m) (nL m)) (E35 : ∀ j, 0 ≤ j → j ≤ m → B 35 j = rsL a fL nL j) : Ct Γ M_X9_firstWithSameRhyme [.ref (g_L Γ 30), .ref (g_L Γ (102 + 11 * b + d)), .ref q9, .int (iN m)] (gst Γ h G B) (fun r h9 => r = some (.int (iN (fwN (rkP a fL nL m) m.toNat))) ∧ h9 = gst Γ h G B) (fun _ _ => False) := by
  refine Ct.of rfl (by decide +kernel) (Nat.le_of_ble_eq_true rfl) ?_
  generalize hQF9 : QM Γ _ _ _ = QF9
  have hcn := LD.1
  obtain ⟨w2, u0, u1, u2, u4, l9, W2⟩ := L9.last
  refine gi_iconst dX9_firstWithSameRhyme_0 ?_
  refine gg_istore dX9_firstWithSameRhyme_1 (Nat.le_of_ble_eq_true rfl) rfl ?_
  have L_3 : ∀ (n9 : Nat) (i : Int), ((m - i).toNat) = n9 → ∀ (hi : 0 ≤ i ∧ i ≤ m) (E : fwN (rkP a fL nL m) i.toNat = -1), GG Γ M_X9_firstWithSameRhyme QF9 (0, 0) (gst Γ h G B) 3 [some (.ref (g_L Γ 30)), some (.ref (g_L Γ (102 + 11 * b + d))), some (.ref q9), some (.int (iN m)), some (.int (iN i)), none] [] := by
    intro n9
    induction n9 using Nat.strongRecOn with
    | ind n9 ih_3 => 
      intro i hm9 hi E
      refine gg_iload dX9_firstWithSameRhyme_3 rfl ?_
      refine gg_iload_n dX9_firstWithSameRhyme_5 rfl ?_
      refine gi_icmp_ge (tgt := 73) dX9_firstWithSameRhyme_6 (by decide) ⟨by omega, by omega⟩ ⟨by omega, by omega⟩ (fun c_6 => ?_) (fun c_6 => ?_)
      · refine gi_iconst dX9_firstWithSameRhyme_73 ?_
        subst hQF9
        refine gg_iret dX9_firstWithSameRhyme_74 rfl rfl ⟨(Nat.le_of_ble_eq_true rfl), (Nat.le_of_ble_eq_true rfl)⟩ ?_
        have e9 : i = m := by omega
        rw [e9] at E
        rw [E]
        exact ⟨rfl, rfl⟩
      · refine gg_iload dX9_firstWithSameRhyme_9 rfl ?_
        refine gi_bipush dX9_firstWithSameRhyme_11 (by decide) ?_
        refine gi_icmp_ge (tgt := 73) dX9_firstWithSameRhyme_13 (by decide) ⟨by omega, by omega⟩ ⟨by omega, by omega⟩ (fun c_13 => ?_) (fun c_13 => ?_)
        · exact absurd c_13 (by omega)
        · refine gg_aload_n dX9_firstWithSameRhyme_16 rfl rfl ?_
          refine gg_iload dX9_firstWithSameRhyme_17 rfl ?_
          refine gc_X9_391 rfl dX9_firstWithSameRhyme_19 ⟨(Nat.le_of_ble_eq_true rfl), (Nat.le_of_ble_eq_true rfl)⟩ ⟨(Nat.le_of_ble_eq_true rfl), (Nat.le_of_ble_eq_true rfl)⟩ (Nat.le_of_ble_eq_true rfl) (HAt.mu (gst_dr hb9 hd9)) (c_X0_lineOf hb9 hd9 LD.1 (i := i) ⟨by omega, by omega⟩) (fun _ _ w => w.elim) (fun r_19 h_19 hp => ?_)
          obtain ⟨rfl, rfl⟩ := hp
          rw [if_pos (by omega)]
          obtain ⟨q1, hq1, L1⟩ := LD.at (l := i) (by omega) (by omega)
          rw [hq1]
          obtain ⟨w1, v0, v1, v2, v4, l4, W1⟩ := L1.last
          refine gg_astore dX9_firstWithSameRhyme_22 rfl (Nat.le_of_ble_eq_true rfl) rfl ?_
          refine gg_aload dX9_firstWithSameRhyme_24 rfl rfl ?_
          refine gg_ifnull (tgt := 67) dX9_firstWithSameRhyme_26 (by decide) rfl (fun c_26 => ?_) (fun a_26 c_26 => ?_)
          · cases c_26
          · refine gg_iload_n dX9_firstWithSameRhyme_29 rfl ?_
            refine gi_bipush dX9_firstWithSameRhyme_30 (by decide) ?_
            refine gi_icmp_ge (tgt := 67) dX9_firstWithSameRhyme_32 (by decide) ⟨by omega, by omega⟩ ⟨by omega, by omega⟩ (fun c_32 => ?_) (fun c_32 => ?_)
            · exact absurd c_32 (by omega)
            · refine gg_aload dX9_firstWithSameRhyme_35 rfl rfl ?_
              refine gf_X9_262 rfl dX9_firstWithSameRhyme_37 (HAt.io l4) rfl ?_
              refine gg_aload_n dX9_firstWithSameRhyme_40 rfl rfl ?_
              refine gk_getX9_56 rfl dX9_firstWithSameRhyme_41 ?_
              refine gg_iload dX9_firstWithSameRhyme_44 rfl ?_
              refine gk_iald dX9_firstWithSameRhyme_46 (by decide) (by decide) ⟨by omega, by show _ < (10 : Int); omega⟩ (by (try simp only [uA_s, uA_n, ne_eq, not_false_eq_true, Nat.reduceEqDiff, reduceCtorEq]); rfl) ?_
              refine gg_aload_n dX9_firstWithSameRhyme_47 rfl rfl ?_
              refine gf_X9_262 rfl dX9_firstWithSameRhyme_48 (HAt.io l9) rfl ?_
              refine gg_aload_n dX9_firstWithSameRhyme_51 rfl rfl ?_
              refine gk_getX9_56 rfl dX9_firstWithSameRhyme_52 ?_
              refine gg_iload_n dX9_firstWithSameRhyme_55 rfl ?_
              refine gk_iald dX9_firstWithSameRhyme_56 (by decide) (by decide) ⟨by omega, by show _ < (10 : Int); omega⟩ (by (try simp only [uA_s, uA_n, ne_eq, not_false_eq_true, Nat.reduceEqDiff, reduceCtorEq]); rfl) ?_
              rw [E35 i (by omega) (by omega), E35 m (by omega) (by omega)]
              have r1 : 0 ≤ rsL a fL nL i ∧ rsL a fL nL i ≤ 11 := by have w := W1.1; have := rsE_r (a := a) (f := lwG (fL i) (nL i)) W1.1 (syE_1 X9 W1.1); unfold rsL; omega
              have r2 : 0 ≤ rsL a fL nL m ∧ rsL a fL nL m ≤ 11 := by have w := W2.1; have := rsE_r (a := a) (f := lwG (fL m) (nL m)) W2.1 (syE_1 X9 W2.1); unfold rsL; omega
              refine gc_X9_306 rfl dX9_firstWithSameRhyme_57 ⟨(Nat.le_of_ble_eq_true rfl), (Nat.le_of_ble_eq_true rfl)⟩ ⟨(Nat.le_of_ble_eq_true rfl), (Nat.le_of_ble_eq_true rfl)⟩ (Nat.le_of_ble_eq_true rfl) (c_X9_rhymeKind (h := gst Γ h G B) W1 W2 (x9 := rsL a fL nL i) (y9 := rsL a fL nL m) r1 r2) (fun _ _ w => w.elim) (fun r_57 h_57 hp => ?_)
              obtain ⟨rfl, rfl⟩ := hp
              obtain ⟨z, hz⟩ : ∃ z, rkL a (fL i) (nL i) (fL m) (nL m) = z := ⟨_, rfl⟩
              have zr := rkL_r a (fL i) (nL i) (fL m) (nL m)
              rw [hz] at zr
              refine gg_conv (st2 := [.int (iN z)]) ?_ rfl rfl (by rw [← hz]; rfl)
              refine gi_iconst dX9_firstWithSameRhyme_60 ?_
              refine gi_icmp_lt (tgt := 67) dX9_firstWithSameRhyme_61 (by decide) ⟨by omega, by omega⟩ ⟨by omega, by omega⟩ (fun c_61 => ?_) (fun c_61 => ?_)
              · refine gi_iinc dX9_firstWithSameRhyme_67 rfl (Nat.le_of_ble_eq_true rfl) rfl ?_
                refine gg_goto (tgt := 3) dX9_firstWithSameRhyme_70 (by decide) ?_
                refine gg_drop 5 ?_
                refine gg_drop 5 ?_
                refine ih_3 _ (by omega) (i + 1) rfl (by omega) ?_
                rw [show (i + 1).toNat = i.toNat + 1 by omega, fwN, E, if_neg (by omega), Int.toNat_of_nonneg hi.1, if_neg (by unfold rkP; rw [hz, decide_eq_false (by omega)]; decide)]
              · refine gg_iload dX9_firstWithSameRhyme_64 rfl ?_
                subst hQF9
                refine gg_iret dX9_firstWithSameRhyme_66 rfl rfl ⟨(Nat.le_of_ble_eq_true rfl), (Nat.le_of_ble_eq_true rfl)⟩ ?_
                rw [fwN_hit (k := i.toNat) E (by unfold rkP; rw [Int.toNat_of_nonneg hi.1, hz]; exact decide_eq_true (by omega)) (by omega), Int.toNat_of_nonneg hi.1]
                exact ⟨rfl, rfl⟩
  refine gg_drop 5 ?_
  exact L_3 _ 0 rfl (by omega) rfl
