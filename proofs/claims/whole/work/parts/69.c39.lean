/-! the scanner: public methods, 7 -/
def frU (G G' : Nat → Int) (B B' : Nat → Int → Int) : Prop := frF lF9 G G' ∧ frA (35 :: 36 :: lA9) B B' ∧ ∃ a b c d, IX G' a b c d
theorem frS.w {G G' : Nat → Int} {B B' : Nat → Int → Int} (x : frS G G' B B') : frU G G' B B' := ⟨x.1, fun j hj => x.2.1 j (fun z => hj (List.mem_cons_of_mem _ (List.mem_cons_of_mem _ z))), x.2.2⟩
theorem frU.c {G : Nat → Int} {B B' : Nat → Int → Int} (I : ∃ a b c d, IX G a b c d) (x : frA [35, 36] B B') : frU G G B B' :=
  ⟨fun _ _ => rfl, fun j hj => x j (fun z => hj (by simp only [List.mem_cons, List.mem_nil_iff, or_false] at z ⊢; omega)), I⟩
/-- an account of a draft -/
def acV (a : Int → Int) (fL : Int → Int → Int) (nL : Int → Int) (kd ft c9 tol cnt : Int) (g : Int → Int) (w : Int) : Int :=
  if w = 0 then cnt else if w = 4 then (clS a fL nL g cnt.toNat).2 else suS a fL nL kd ft c9 tol w cnt.toNat
set_option maxRecDepth 100000 in
set_option maxHeartbeats 4000000 in
theorem c_X9_account {Γ : GT} {h : XH} {G : Nat → Int} {B : Nat → Int → Int} {b mq : Nat} {kd ft c9 : Int} {a : Int → Int} (S : SW h.2 G B b mq kd ft c9 a) {fL : Int → Int → Int → Int} {nL : Int → Int → Int} (LD : ∀ d : Nat, d ≤ 3 → LnD h.2 G B b d (fL d) (nL d)) {i w : Int} (hi : InR i) (hw : InR w) : Ct Γ M_X9_account [.ref (g_L Γ 30), .int (iN i), .int (iN w)] (gst Γ h G B) (fun r h9 => ((0 ≤ i ∧ i ≤ 3) ∧ 0 ≤ w ∧ w ≤ 7) ∧ ∃ (G' : Nat → Int) (B' : Nat → Int → Int), r = some (.int (iN (acV a (fL i.toNat) (nL i.toNat) kd ft c9 (G (101 + 10 * b)) (G (103 + 10 * b + i.toNat)) (B 36) w))) ∧ h9 = gst Γ h G' B' ∧ frU G G' B B') (fun E h9 => (¬ (0 ≤ i ∧ i ≤ 3) ∧ E = "java/lang/IndexOutOfBoundsException" ∧ h9 = gst Γ h G B) ∨ ((0 ≤ i ∧ i ≤ 3) ∧ ¬ (0 ≤ w ∧ w ≤ 7) ∧ E = "java/lang/IllegalArgumentException" ∧ h9 = gst Γ h G B)) := by
  refine Ct.of rfl (by decide +kernel) (Nat.le_of_ble_eq_true rfl) ?_
  generalize hQF9 : QM Γ _ _ _ = QF9
  have hb9 := S.1
  have g0 := S.2.1
  refine gg_aload_n dX9_account_0 rfl rfl ?_
  refine gg_iload_n dX9_account_1 rfl ?_
  refine gc_X9_182 rfl dX9_account_2 ⟨(Nat.le_of_ble_eq_true rfl), (Nat.le_of_ble_eq_true rfl)⟩ ⟨(Nat.le_of_ble_eq_true rfl), (Nat.le_of_ble_eq_true rfl)⟩ (Nat.le_of_ble_eq_true rfl) (HAt.mu gst_30) (c_X9_draftAt hb9 g0 hi) (fun E h8 hx => by subst hQF9; exact gx_out rfl ⟨(Nat.le_of_ble_eq_true rfl), (Nat.le_of_ble_eq_true rfl)⟩ (by obtain ⟨h1, h2, h3⟩ := hx; exact Or.inl ⟨h1, h2, h3⟩)) (fun r_2 h_2 hp => ?_)
  obtain ⟨hi2, rfl, rfl⟩ := hp
  have hd9 : i.toNat ≤ 3 := by omega
  have hcn := (LD i.toNat hd9).1
  refine gg_astore_n dX9_account_5 rfl (Nat.le_of_ble_eq_true rfl) rfl ?_
  refine gg_iload_n dX9_account_6 rfl ?_
  refine gi_if_lt (tgt := 16) dX9_account_7 (by decide) hw (fun c_7 => ?_) (fun c_7 => ?_)
  · subst hQF9
    refine gg_throwW (text := "a draft has no such account") thr_2 rfl (by decide) dX9_account_16 dX9_account_19 dX9_account_20 dX9_account_23 dX9_account_26 rfl ⟨(Nat.le_of_ble_eq_true rfl), (Nat.le_of_ble_eq_true rfl)⟩ ⟨(Nat.le_of_ble_eq_true rfl), (Nat.le_of_ble_eq_true rfl)⟩ ?_
    exact Or.inr ⟨hi2, by omega, rfl, rfl⟩
  · refine gg_iload_n dX9_account_10 rfl ?_
    refine gi_bipush dX9_account_11 (by decide) ?_
    refine gi_icmp_le (tgt := 27) dX9_account_13 (by decide) hw ⟨by omega, by omega⟩ (fun c_13 => ?_) (fun c_13 => ?_)
    · refine gg_iload_n dX9_account_27 rfl ?_
      refine gi_if_ne (tgt := 36) dX9_account_28 (by decide) hw (fun c_28 => ?_) (fun c_28 => ?_)
      · refine gg_iload_n dX9_account_36 rfl ?_
        refine gi_iconst dX9_account_37 ?_
        refine gi_icmp_ne (tgt := 49) dX9_account_38 (by decide) hw ⟨by omega, by omega⟩ (fun c_38 => ?_) (fun c_38 => ?_)
        · refine gg_aload_n dX9_account_49 rfl rfl ?_
          refine gg_aload_n dX9_account_50 rfl rfl ?_
          refine gg_iload_n dX9_account_51 rfl ?_
          refine gc_X9_366 rfl dX9_account_52 ⟨(Nat.le_of_ble_eq_true rfl), (Nat.le_of_ble_eq_true rfl)⟩ ⟨(Nat.le_of_ble_eq_true rfl), (Nat.le_of_ble_eq_true rfl)⟩ (Nat.le_of_ble_eq_true rfl) (HAt.mu gst_30) (c_X9_sumOfShares S hd9 (LD i.toNat hd9) hw) (fun _ _ w => w.elim) (fun r_52 h_52 hp => ?_)
          obtain ⟨G2, B2, rfl, rfl, fr⟩ := hp
          subst hQF9
          refine gg_iret dX9_account_55 rfl rfl ⟨(Nat.le_of_ble_eq_true rfl), (Nat.le_of_ble_eq_true rfl)⟩ ?_
          refine ⟨⟨hi2, by omega, by omega⟩, G2, B2, ?_, rfl, fr.w⟩
          unfold acV; rw [if_neg (by omega), if_neg c_38]
        · refine gg_aload_n dX9_account_41 rfl rfl ?_
          refine gg_aload_n dX9_account_42 rfl rfl ?_
          refine gc_X9_362 rfl dX9_account_43 ⟨(Nat.le_of_ble_eq_true rfl), (Nat.le_of_ble_eq_true rfl)⟩ ⟨(Nat.le_of_ble_eq_true rfl), (Nat.le_of_ble_eq_true rfl)⟩ (Nat.le_of_ble_eq_true rfl) (HAt.mu gst_30) (c_X9_fillClasses S hd9 (LD i.toNat hd9)) (fun _ _ w => w.elim) (fun r_43 h_43 hp => ?_)
          obtain ⟨B2, rfl, rfl, fr, e36⟩ := hp
          refine gg_goto (tgt := 55) dX9_account_46 (by decide) ?_
          subst hQF9
          refine gg_iret dX9_account_55 rfl rfl ⟨(Nat.le_of_ble_eq_true rfl), (Nat.le_of_ble_eq_true rfl)⟩ ?_
          refine ⟨⟨hi2, by omega, by omega⟩, G, B2, ?_, rfl, frU.c S.2.2.2.2.2.1 fr⟩
          unfold acV; rw [if_neg (by omega), if_pos c_38]
      · refine gg_aload_n dX9_account_31 rfl rfl ?_
        refine gk_getX9_186 hb9 hd9 rfl dX9_account_32 rfl ?_
        subst hQF9
        refine gg_iret dX9_account_35 rfl rfl ⟨(Nat.le_of_ble_eq_true rfl), (Nat.le_of_ble_eq_true rfl)⟩ ?_
        refine ⟨⟨hi2, by omega, by omega⟩, G, B, ?_, rfl, (frS.rf S.2.2.2.2.2.1).w⟩
        unfold acV; rw [if_pos c_28]
    · subst hQF9
      refine gg_throwW (text := "a draft has no such account") thr_2 rfl (by decide) dX9_account_16 dX9_account_19 dX9_account_20 dX9_account_23 dX9_account_26 rfl ⟨(Nat.le_of_ble_eq_true rfl), (Nat.le_of_ble_eq_true rfl)⟩ ⟨(Nat.le_of_ble_eq_true rfl), (Nat.le_of_ble_eq_true rfl)⟩ ?_
      exact Or.inr ⟨hi2, by omega, rfl, rfl⟩
