/-! the scanner: classes filled -/
/-- the class of line k -/
def clC (a : Int → Int) (fL : Int → Int → Int) (nL : Int → Int) (c : (Int → Int) × Int) (k : Nat) : Int := if fwN (rkP a fL nL k) k = -1 then c.2 else c.1 (fwN (rkP a fL nL k) k)
/-- the classes of the first k lines, and how many -/
def clS (a : Int → Int) (fL : Int → Int → Int) (nL : Int → Int) (g : Int → Int) : Nat → (Int → Int) × Int
  | 0 => (g, 0)
  | k + 1 => (up (clS a fL nL g k).1 k (clC a fL nL (clS a fL nL g k) k), max (clS a fL nL g k).2 (clC a fL nL (clS a fL nL g k) k + 1))
theorem clS_r (a : Int → Int) (fL : Int → Int → Int) (nL : Int → Int) (g : Int → Int) : ∀ k : Nat, (0 ≤ (clS a fL nL g k).2 ∧ (clS a fL nL g k).2 ≤ k) ∧ ∀ j : Int, 0 ≤ j → j < k → 0 ≤ (clS a fL nL g k).1 j ∧ (clS a fL nL g k).1 j < (clS a fL nL g k).2
  | 0 => ⟨by simp [clS], fun j j0 j1 => by omega⟩
  | k + 1 => by
    obtain ⟨h1, h2⟩ := clS_r a fL nL g k
    have hc : 0 ≤ clC a fL nL (clS a fL nL g k) k ∧ clC a fL nL (clS a fL nL g k) k ≤ (clS a fL nL g k).2 := by
      have fr := fwN_r (rkP a fL nL k) k
      unfold clC
      split
      · omega
      · have := h2 (fwN (rkP a fL nL (k : Int)) k) (by omega) (by omega); omega
    rw [clS]
    refine ⟨by dsimp only; omega, fun j j0 j1 => ?_⟩
    dsimp only
    by_cases e : j = k
    · rw [e, up_s]; omega
    · rw [up_n e]; have := h2 j j0 (by omega); omega
theorem clC_r {a : Int → Int} {fL : Int → Int → Int} {nL : Int → Int} {g : Int → Int} (k : Nat) : 0 ≤ clC a fL nL (clS a fL nL g k) k ∧ clC a fL nL (clS a fL nL g k) k ≤ k := by
  obtain ⟨h1, h2⟩ := clS_r a fL nL g k
  have fr := fwN_r (rkP a fL nL k) k
  unfold clC
  split
  · omega
  · have := h2 (fwN (rkP a fL nL (k : Int)) k) (by omega) (by omega); omega
theorem ExM.f2 {ι : Nat → Option XE} {G : Nat → Int} {B B' : Nat → Int → Int} {b : Nat} {a : Int → Int} (f : frA [35, 36] B B') (x : ExM ι G B b a) : ExM ι G B' b a := by
  unfold ExM at x ⊢; rw [f (110 + 11 * b) (by simp only [List.mem_cons, List.mem_nil_iff, or_false]; omega)]; exact x
theorem LnD.f2 {ι : Nat → Option XE} {G : Nat → Int} {B B' : Nat → Int → Int} {b d : Nat} {fL : Int → Int → Int} {nL : Int → Int} (f : frA [35, 36] B B') (x : LnD ι G B b d fL nL) : LnD ι G B' b d fL nL := by
  unfold LnD at x ⊢; rw [f (106 + 11 * b + d) (by simp only [List.mem_cons, List.mem_nil_iff, or_false]; omega)]; exact x
set_option maxRecDepth 100000 in
set_option maxHeartbeats 4000000 in
theorem c_X9_fillClasses {Γ : GT} {h : XH} {G : Nat → Int} {B : Nat → Int → Int} {b mq : Nat} {kd ft c9 : Int} {a : Int → Int} (S : SW h.2 G B b mq kd ft c9 a) {d : Nat} (hd9 : d ≤ 3) {fL : Int → Int → Int} {nL : Int → Int} (LD : LnD h.2 G B b d fL nL) : Ct Γ M_X9_fillClasses [.ref (g_L Γ 30), .ref (g_L Γ (102 + 11 * b + d))] (gst Γ h G B) (fun r h9 => ∃ B' : Nat → Int → Int, r = some (.int (iN (clS a fL nL (B 36) (G (103 + 10 * b + d)).toNat).2)) ∧ h9 = gst Γ h G B' ∧ frA [35, 36] B B' ∧ B' 36 = (clS a fL nL (B 36) (G (103 + 10 * b + d)).toNat).1) (fun _ _ => False) := by
  refine Ct.of rfl (by decide +kernel) (Nat.le_of_ble_eq_true rfl) ?_
  generalize hQF9 : QM Γ _ _ _ = QF9
  obtain ⟨hb9, g0, hm9, M1, X9, I9, T9⟩ := S
  have hcn := LD.1
  refine gi_iconst dX9_fillClasses_0 ?_
  refine gg_istore_n dX9_fillClasses_1 (Nat.le_of_ble_eq_true rfl) rfl ?_
  refine gi_iconst dX9_fillClasses_2 ?_
  refine gg_istore_n dX9_fillClasses_3 (Nat.le_of_ble_eq_true rfl) rfl ?_
  have L_4 : ∀ (n9 : Nat) (i : Int) (B1 : Nat → Int → Int), ((G (103 + 10 * b + d) - i).toNat) = n9 → ∀ (hi : 0 ≤ i ∧ i ≤ G (103 + 10 * b + d)) (fr : frA [35, 36] B B1) (E35 : ∀ j, 0 ≤ j → j < i → B1 35 j = rsL a fL nL j) (E36 : B1 36 = (clS a fL nL (B 36) i.toNat).1), GG Γ M_X9_fillClasses QF9 (0, 0) (gst Γ h G B1) 4 [some (.ref (g_L Γ 30)), some (.ref (g_L Γ (102 + 11 * b + d))), some (.int (iN (clS a fL nL (B 36) i.toNat).2)), some (.int (iN i)), none, none] [] := by
    intro n9
    induction n9 using Nat.strongRecOn with
    | ind n9 ih_4 => 
      intro i B1 hm9 hi fr E35 E36
      refine gg_iload_n dX9_fillClasses_4 rfl ?_
      refine gg_aload_n dX9_fillClasses_5 rfl rfl ?_
      refine gk_getX9_186 hb9 hd9 rfl dX9_fillClasses_6 rfl ?_
      refine gi_icmp_ge (tgt := 100) dX9_fillClasses_9 (by decide) ⟨by omega, by omega⟩ ⟨by omega, by omega⟩ (fun c_9 => ?_) (fun c_9 => ?_)
      · refine gg_iload_n dX9_fillClasses_100 rfl ?_
        subst hQF9
        refine gg_iret dX9_fillClasses_101 rfl rfl ⟨(Nat.le_of_ble_eq_true rfl), (Nat.le_of_ble_eq_true rfl)⟩ ?_
        rw [show i = G (103 + 10 * b + d) by omega] at E36 ⊢
        exact ⟨B1, rfl, rfl, fr, E36⟩
      · refine gg_iload_n dX9_fillClasses_12 rfl ?_
        refine gi_bipush dX9_fillClasses_13 (by decide) ?_
        refine gi_icmp_ge (tgt := 100) dX9_fillClasses_15 (by decide) ⟨by omega, by omega⟩ ⟨by omega, by omega⟩ (fun c_15 => ?_) (fun c_15 => ?_)
        · exact absurd c_15 (by omega)
        · refine gg_aload_n dX9_fillClasses_18 rfl rfl ?_
          refine gg_iload_n dX9_fillClasses_19 rfl ?_
          refine gc_X9_391 rfl dX9_fillClasses_20 ⟨(Nat.le_of_ble_eq_true rfl), (Nat.le_of_ble_eq_true rfl)⟩ ⟨(Nat.le_of_ble_eq_true rfl), (Nat.le_of_ble_eq_true rfl)⟩ (Nat.le_of_ble_eq_true rfl) (HAt.mu (gst_dr hb9 hd9)) (c_X0_lineOf (B := B1) hb9 hd9 LD.1 (i := i) ⟨by omega, by omega⟩) (fun _ _ w => w.elim) (fun r_20 h_20 hp => ?_)
          obtain ⟨rfl, rfl⟩ := hp
          rw [if_pos (by omega)]
          obtain ⟨q1, hq1, L1⟩ := (LD.f2 fr).at (l := i) (by omega) (by omega)
          rw [hq1]
          obtain ⟨w1, v0, v1, v2, v4, l4, W1⟩ := L1.last
          refine gg_astore dX9_fillClasses_23 rfl (Nat.le_of_ble_eq_true rfl) rfl ?_
          refine gg_aload dX9_fillClasses_25 rfl rfl ?_
          refine gg_ifnull (tgt := 94) dX9_fillClasses_27 (by decide) rfl (fun c_27 => ?_) (fun a_27 c_27 => ?_)
          · cases c_27
          · refine gg_aload_n dX9_fillClasses_30 rfl rfl ?_
            refine gk_getX9_56 rfl dX9_fillClasses_31 ?_
            refine gg_iload_n dX9_fillClasses_34 rfl ?_
            refine gg_aload_n dX9_fillClasses_35 rfl rfl ?_
            refine gk_getX9_65 rfl dX9_fillClasses_36 g0 ?_
            refine gg_aload dX9_fillClasses_39 rfl rfl ?_
            refine gf_X9_262 rfl dX9_fillClasses_41 (HAt.io l4) rfl ?_
            refine gc_X9_270 rfl dX9_fillClasses_44 ⟨(Nat.le_of_ble_eq_true rfl), (Nat.le_of_ble_eq_true rfl)⟩ ⟨(Nat.le_of_ble_eq_true rfl), (Nat.le_of_ble_eq_true rfl)⟩ (Nat.le_of_ble_eq_true rfl) (HAt.mu (gst_st hb9)) (c_X7_rhymeStart hb9 (X9.f2 fr) W1) (fun _ _ w => w.elim) (fun r_44 h_44 hp => ?_)
            obtain ⟨rfl, rfl⟩ := hp
            rw [show rsE a (lwG (fL i) (nL i)) (lwZ (fL i) (nL i)) = rsL a fL nL i from rfl]
            refine gk_iast dX9_fillClasses_47 (by decide) (by decide) ⟨by omega, by show _ < (10 : Int); omega⟩ (by (try simp only [uA_s, uA_n, uA_ss, uA_cc, id_eq, ne_eq, not_false_eq_true, Nat.reduceEqDiff, Nat.reduceLT, reduceCtorEq]); rfl) ?_
            have cr := clS_r a fL nL (B 36) i.toNat
            have cc := clC_r (a := a) (fL := fL) (nL := nL) (g := B 36) i.toNat
            refine gg_aload_n dX9_fillClasses_48 rfl rfl ?_
            refine gg_aload_n dX9_fillClasses_49 rfl rfl ?_
            refine gg_aload dX9_fillClasses_50 rfl rfl ?_
            refine gg_iload_n dX9_fillClasses_52 rfl ?_
            refine gc_X9_423 rfl dX9_fillClasses_53 ⟨(Nat.le_of_ble_eq_true rfl), (Nat.le_of_ble_eq_true rfl)⟩ ⟨(Nat.le_of_ble_eq_true rfl), (Nat.le_of_ble_eq_true rfl)⟩ (Nat.le_of_ble_eq_true rfl) (HAt.mu gst_30) (c_X9_firstWithSameRhyme (B := uA B1 35 (up (B1 35) i (rsL a fL nL i))) hb9 (X9.f2 (frA_u fr (by decide))) hd9 (LD.f2 (frA_u fr (by decide))) (m := i) ⟨by omega, by omega⟩ L1 (fun j j0 j1 => by rw [uA_s]; by_cases e : j = i; exact (by rw [e, up_s]); exact (by rw [up_n e]; exact E35 j j0 (by omega)))) (fun _ _ w => w.elim) (fun r_53 h_53 hp => ?_)
            obtain ⟨rfl, rfl⟩ := hp
            obtain ⟨e9, he⟩ : ∃ e9, fwN (rkP a fL nL i) i.toNat = e9 := ⟨_, rfl⟩
            have er := fwN_r (rkP a fL nL i) i.toNat
            rw [he] at er ⊢
            refine gg_istore dX9_fillClasses_56 (Nat.le_of_ble_eq_true rfl) rfl ?_
            refine gg_aload_n dX9_fillClasses_58 rfl rfl ?_
            refine gk_getX9_59 rfl dX9_fillClasses_59 ?_
            refine gg_iload_n dX9_fillClasses_62 rfl ?_
            refine gg_iload dX9_fillClasses_63 rfl ?_
            refine gi_iconst dX9_fillClasses_65 ?_
            refine gi_icmp_ne (tgt := 73) dX9_fillClasses_66 (by decide) ⟨by omega, by omega⟩ ⟨by omega, by omega⟩ (fun c_66 => ?_) (fun c_66 => ?_)
            · have hcl : (clC a fL nL (clS a fL nL (B 36) i.toNat) i.toNat) = (clS a fL nL (B 36) i.toNat).1 e9 := by unfold clC; rw [Int.toNat_of_nonneg hi.1, he, if_neg c_66]
              rw [hcl] at cc
              refine gg_aload_n dX9_fillClasses_73 rfl rfl ?_
              refine gk_getX9_59 rfl dX9_fillClasses_74 ?_
              refine gg_iload dX9_fillClasses_77 rfl ?_
              refine gk_iald dX9_fillClasses_79 (by decide) (by decide) ⟨by omega, by show _ < (10 : Int); omega⟩ (by rw [uA_n (by decide), E36]) ?_
              refine gk_iast dX9_fillClasses_80 (by decide) (by decide) ⟨by omega, by show _ < (10 : Int); omega⟩ (by (try simp only [uA_s, uA_n, uA_ss, uA_cc, id_eq, ne_eq, not_false_eq_true, Nat.reduceEqDiff, Nat.reduceLT, reduceCtorEq]); rfl) ?_
              refine gg_iload_n dX9_fillClasses_81 rfl ?_
              refine gg_aload_n dX9_fillClasses_82 rfl rfl ?_
              refine gk_getX9_59 rfl dX9_fillClasses_83 ?_
              refine gg_iload_n dX9_fillClasses_86 rfl ?_
              refine gk_iald dX9_fillClasses_87 (by decide) (by decide) ⟨by omega, by show _ < (10 : Int); omega⟩ (by rw [uA_s, up_s]) ?_
              refine gi_iconst dX9_fillClasses_88 ?_
              refine gi_iadd dX9_fillClasses_89 ?_
              refine gc_X9_427 rfl dX9_fillClasses_90 ⟨(Nat.le_of_ble_eq_true rfl), (Nat.le_of_ble_eq_true rfl)⟩ ⟨(Nat.le_of_ble_eq_true rfl), (Nat.le_of_ble_eq_true rfl)⟩ ?_
              rw [iN_max ⟨by omega, by omega⟩ ⟨by omega, by omega⟩]
              refine gg_istore_n dX9_fillClasses_93 (Nat.le_of_ble_eq_true rfl) rfl ?_
              refine gi_iinc dX9_fillClasses_94 rfl (Nat.le_of_ble_eq_true rfl) rfl ?_
              refine gg_goto (tgt := 4) dX9_fillClasses_97 (by decide) ?_
              refine gg_drop 4 ?_
              refine gg_drop 5 ?_
              refine gg_drop 4 ?_
              refine gg_drop 5 ?_
              refine gg_conv (ih_4 _ (by omega) (i + 1) _ rfl (by omega) (frA_u (frA_u fr (by decide)) (by decide)) ?_ ?_) rfl ?_ rfl
              · intro j j0 j1
                rw [uA_n (by decide), uA_s]
                by_cases e : j = i
                · rw [e, up_s]
                · rw [up_n e]; exact E35 j j0 (by omega)
              · rw [uA_s, show (i + 1).toNat = i.toNat + 1 by omega, clS, E36, Int.toNat_of_nonneg hi.1, hcl]
              · rw [show (i + 1).toNat = i.toNat + 1 by omega, clS, hcl]
                rfl
            · have hcl : (clC a fL nL (clS a fL nL (B 36) i.toNat) i.toNat) = (clS a fL nL (B 36) i.toNat).2 := by unfold clC; rw [Int.toNat_of_nonneg hi.1, he, if_pos c_66]
              rw [hcl] at cc
              refine gg_iload_n dX9_fillClasses_69 rfl ?_
              refine gg_goto (tgt := 80) dX9_fillClasses_70 (by decide) ?_
              refine gk_iast dX9_fillClasses_80 (by decide) (by decide) ⟨by omega, by show _ < (10 : Int); omega⟩ (by (try simp only [uA_s, uA_n, uA_ss, uA_cc, id_eq, ne_eq, not_false_eq_true, Nat.reduceEqDiff, Nat.reduceLT, reduceCtorEq]); rfl) ?_
              refine gg_iload_n dX9_fillClasses_81 rfl ?_
              refine gg_aload_n dX9_fillClasses_82 rfl rfl ?_
              refine gk_getX9_59 rfl dX9_fillClasses_83 ?_
              refine gg_iload_n dX9_fillClasses_86 rfl ?_
              refine gk_iald dX9_fillClasses_87 (by decide) (by decide) ⟨by omega, by show _ < (10 : Int); omega⟩ (by rw [uA_s, up_s]) ?_
              refine gi_iconst dX9_fillClasses_88 ?_
              refine gi_iadd dX9_fillClasses_89 ?_
              refine gc_X9_427 rfl dX9_fillClasses_90 ⟨(Nat.le_of_ble_eq_true rfl), (Nat.le_of_ble_eq_true rfl)⟩ ⟨(Nat.le_of_ble_eq_true rfl), (Nat.le_of_ble_eq_true rfl)⟩ ?_
              rw [iN_max ⟨by omega, by omega⟩ ⟨by omega, by omega⟩]
              refine gg_istore_n dX9_fillClasses_93 (Nat.le_of_ble_eq_true rfl) rfl ?_
              refine gi_iinc dX9_fillClasses_94 rfl (Nat.le_of_ble_eq_true rfl) rfl ?_
              refine gg_goto (tgt := 4) dX9_fillClasses_97 (by decide) ?_
              refine gg_drop 4 ?_
              refine gg_drop 5 ?_
              refine gg_drop 4 ?_
              refine gg_drop 5 ?_
              refine gg_conv (ih_4 _ (by omega) (i + 1) _ rfl (by omega) (frA_u (frA_u fr (by decide)) (by decide)) ?_ ?_) rfl ?_ rfl
              · intro j j0 j1
                rw [uA_n (by decide), uA_s]
                by_cases e : j = i
                · rw [e, up_s]
                · rw [up_n e]; exact E35 j j0 (by omega)
              · rw [uA_s, show (i + 1).toNat = i.toNat + 1 by omega, clS, E36, Int.toNat_of_nonneg hi.1, hcl]
              · rw [show (i + 1).toNat = i.toNat + 1 by omega, clS, hcl]
                rfl
  refine gg_drop 4 ?_
  refine gg_drop 5 ?_
  exact L_4 _ 0 B rfl (by omega) (fun _ _ => rfl) (fun j j0 j1 => by omega) rfl
