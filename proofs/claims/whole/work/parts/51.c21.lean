/-! lines made and read -/
theorem WdAt.pt {ι : Nat → Option XE} {q aW m : Nat} {w9 w8 : Int → Option Nat} {f : Int → Int} {n : Int} (hA : ι aW = some (.inl (6, m, ra w9))) (w : WdAt ι q f n) : WdAt (upX ι aW (.inl (6, m, ra w8))) q f n := by
  obtain ⟨a1, a2, aL, aC, f8, g8, a3, a4, a5, a6, a7⟩ := w
  refine ⟨a1, a2, aL, aC, f8, g8, ?_, ?_, a5, ?_, a7⟩
  · rw [upX_n (fun z => by rw [z, hA] at a3; cases a3)]; exact a3
  · rw [upX_n (fun z => by rw [z, hA] at a4; cases a4)]; exact a4
  · rw [upX_n (fun z => by rw [z, hA] at a6; cases a6)]; exact a6
set_option maxRecDepth 100000 in
set_option maxHeartbeats 4000000 in
theorem c_X1_lineOf {Γ : GT} {h : XH} {G : Nat → Int} {B : Nat → Int → Int} (p4 : 0 ≤ G 4 ∧ G 4 ≤ 60) (p5 : ∀ k, 0 ≤ k → k < G 4 → 0 ≤ B 41 k ∧ B 41 k < 65536) (p3 : 0 ≤ G 3 ∧ G 3 ≤ 100) {wn : Int} (hwn : wn = pwL (B 41) (G 4)) (hw : 1 ≤ wn ∧ wn ≤ 12) (n1 : 1 ≤ G 4) (hok : (parseL (B 41) (G 4) 12 0).1 = true) (hS : ∀ i, 0 ≤ i → i < wn → B 42 i = pwP (B 41) (G 4) i ∧ B 43 i = pwP (B 41) (G 4) i + pwN (B 41) (G 4) i ∧ (1 ≤ pwN (B 41) (G 4) i ∧ pwN (B 41) (G 4) i ≤ 12) ∧ 0 ≤ pwP (B 41) (G 4) i ∧ pwP (B 41) (G 4) i + pwN (B 41) (G 4) i ≤ G 4 ∧ ∀ j, 0 ≤ j → j < pwN (B 41) (G 4) i → 97 ≤ B 41 (pwP (B 41) (G 4) i + j) ∧ B 41 (pwP (B 41) (G 4) i + j) ≤ 122) : Ct Γ M_X1_lineOf [.ref (g_L Γ 40), .int (iN wn), .int (iN ((plN (pwC (B 41) (G 4)) (pwL (B 41) (G 4)).toNat : Nat) : Int))] (gst Γ h G B) (fun r h9 => ∃ (ι' : Nat → Option XE) (q : Nat), r = some (.ref q) ∧ h9 = gst Γ (h.1, ι') G B ∧ ext h.2 ι' ∧ LnO ι' q (B 41) (G 4)) (fun _ _ => False) := by
  refine Ct.of rfl (by decide +kernel) (Nat.le_of_ble_eq_true rfl) ?_
  generalize hQF9 : QM Γ _ _ _ = QF9
  refine gg_iload_n dX1_lineOf_0 rfl ?_
  refine gn_aX1_64 (N := wn.toNat) rfl dX1_lineOf_1 (Int.toNat_of_nonneg (by omega)).symm (by omega) (Nat.le_of_ble_eq_true rfl) (by show 0 + wn.toNat ≤ 1013; omega) (fun aW frA => ?_)
  have fA : h.2 aW = none := frA.1
  refine gg_widen (k := 1) (n := 12) (Nat.le_refl _) (by show 0 + wn.toNat ≤ 12; omega) ?_
  refine gg_astore_n dX1_lineOf_4 rfl (Nat.le_of_ble_eq_true rfl) rfl ?_
  refine gg_null dX1_lineOf_5 ?_
  refine gg_astore dX1_lineOf_6 rfl (Nat.le_of_ble_eq_true rfl) rfl ?_
  refine gi_iconst dX1_lineOf_8 ?_
  refine gg_istore dX1_lineOf_9 (Nat.le_of_ble_eq_true rfl) rfl ?_
  have L_11 : ∀ (n9 : Nat) (k : Int) (ι9 : Nat → Option XE) (w9 : Int → Option Nat) (lw : Value), ((wn - k).toNat) = n9 → ∀ (hk : 0 ≤ k ∧ k ≤ wn) (hX : ext h.2 ι9) (hA : ι9 aW = some (.inl (6, wn.toNat, ra w9))) (hW : ∀ i, 0 ≤ i → i < k → ∃ wq, w9 i = some wq ∧ WdAt ι9 wq (fun j => B 41 (pwP (B 41) (G 4) i + j)) (pwN (B 41) (G 4) i)) (hl : (k = 0 ∧ lw = .null) ∨ (1 ≤ k ∧ ∃ wq, lw = .ref wq ∧ w9 (k - 1) = some wq)), GG Γ M_X1_lineOf QF9 (1 + 3 * k.toNat, 12 + 78 * k.toNat) (gst Γ (h.1, ι9) G B) 11 [some (.ref (g_L Γ 40)), some (.int (iN wn)), some (.int (iN ((plN (pwC (B 41) (G 4)) (pwL (B 41) (G 4)).toNat : Nat) : Int))), some (.ref aW), some (lw), some (.int (iN k))] [] := by
    intro n9
    induction n9 using Nat.strongRecOn with
    | ind n9 ih_11 => 
      intro k ι9 w9 lw hm9 hk hX hA hW hl
      refine gg_iload dX1_lineOf_11 rfl ?_
      refine gg_iload_n dX1_lineOf_13 rfl ?_
      refine gi_icmp_ge (tgt := 63) dX1_lineOf_14 (by decide) ⟨by omega, by omega⟩ ⟨by omega, by omega⟩ (fun c_14 => ?_) (fun c_14 => ?_)
      · refine gg_widen (k := 37) (n := 948) (by show 1 + 3 * k.toNat ≤ 37; omega) (by show 12 + 78 * k.toNat ≤ 948; omega) ?_
        obtain ⟨wq, rfl, hwq⟩ : ∃ wq, lw = .ref wq ∧ w9 (k - 1) = some wq := by
          rcases hl with z | z
          · omega
          · exact z.2
        refine gg_aload dX1_lineOf_63 rfl rfl ?_
        refine gg_ifnonnull (tgt := 72) dX1_lineOf_65 (by decide) rfl (fun a_65 c_65 => ?_) (fun c_65 => ?_)
        · refine gn_X1_73 rfl dX1_lineOf_72 (Nat.le_of_ble_eq_true rfl) (Nat.le_of_ble_eq_true rfl) (fun qN frN => ?_)
          refine gg_conv (h2 := gst Γ (h.1, upX ι9 qN (.inr (4, [.null, .int 0, .int 0, .null, .null]))) G B) ?_ rfl rfl rfl
          refine gg_dup dX1_lineOf_75 rfl ?_
          refine gg_aload_n dX1_lineOf_76 rfl rfl ?_
          refine gi_iconst dX1_lineOf_77 ?_
          refine gg_aload_n dX1_lineOf_78 rfl rfl ?_
          refine gk_getX1_26 rfl dX1_lineOf_79 (by (try simp only [uF_s, uF_n, ne_eq, not_false_eq_true, Nat.reduceEqDiff, reduceCtorEq]); rfl) ?_
          refine gc_X1_66 rfl dX1_lineOf_82 ⟨(Nat.le_of_ble_eq_true rfl), (Nat.le_of_ble_eq_true rfl)⟩ ⟨(Nat.le_of_ble_eq_true rfl), (Nat.le_of_ble_eq_true rfl)⟩ (Nat.le_of_ble_eq_true rfl) (HAt.mu gst_40) (c_X1_copyOf (h := (h.1, upX ι9 qN (.inr (4, [.null, .int 0, .int 0, .null, .null])))) (G := G) (B := B) p4 p5 p3 (x := 0) (y := G 4) ⟨by omega, by omega⟩ (by omega)) (fun _ _ w => w.elim) (fun r_82 h_82 hp => ?_)
          obtain ⟨qT, fT, rfl, frT, rfl, hfT⟩ := hp
          rw [Int.sub_zero] at hfT ⊢
          have fN : ι9 qN = none := frN.1
          have fT9 : upX ι9 qN (.inr (4, [.null, .int 0, .int 0, .null, .null])) qT = none := frT.1
          have nNT : qN ≠ qT := fun z => by rw [← z, upX_s] at fT9; cases fT9
          rw [upX_n (fun z => nNT z.symm)] at fT9
          have nAN : aW ≠ qN := fun z => by rw [z, fN] at hA; cases hA
          have nAT : aW ≠ qT := fun z => by rw [z, fT9] at hA; cases hA
          refine gg_aload_n dX1_lineOf_85 rfl rfl ?_
          refine gg_iload_n dX1_lineOf_86 rfl ?_
          refine gg_aload dX1_lineOf_87 rfl rfl ?_
          refine gc_X1_75 rfl dX1_lineOf_89 ⟨(Nat.le_of_ble_eq_true rfl), (Nat.le_of_ble_eq_true rfl)⟩ ⟨(Nat.le_of_ble_eq_true rfl), (Nat.le_of_ble_eq_true rfl)⟩ (Nat.le_of_ble_eq_true rfl) (c_X2_init (h := gst Γ (h.1, upX (upX ι9 qN (.inr (4, [.null, .int 0, .int 0, .null, .null]))) qT (.inl (1, (G 4).toNat, ia fT))) G B) (m := wn.toNat) (w9 := w9) (Eq.trans (upX_n nNT) upX_s) (Eq.trans (upX_n nAT) (Eq.trans (upX_n nAN) hA)) nAN) (fun _ _ w => w.elim) (fun r_89 h_89 hp => ?_)
          obtain ⟨rfl, rfl⟩ := hp
          subst hQF9
          refine gg_aret dX1_lineOf_92 rfl rfl rfl ⟨(Nat.le_of_ble_eq_true rfl), (Nat.le_of_ble_eq_true rfl)⟩ ?_
          rw [show k = wn by omega] at hwq hW
          subst hwn
          have hx2 : ext ι9 (upX (upX (upX ι9 qN (.inr (4, [.null, .int 0, .int 0, .null, .null]))) qT (.inl (1, (G 4).toNat, ia fT))) qN (.inr (4, [.ref qT, .int (iN (((pwL (B 41) (G 4)).toNat : Nat) : Int)), .int (iN ((plN (pwC (B 41) (G 4)) (pwL (B 41) (G 4)).toNat : Nat) : Int)), .ref wq, .ref aW]))) := fun x e ex => by
            rw [upX_n (fun z => by rw [z, fN] at ex; cases ex), upX_n (fun z => by rw [z, fT9] at ex; cases ex), upX_n (fun z => by rw [z, fN] at ex; cases ex)]; exact ex
          refine ⟨_, qN, rfl, rfl, fun x e ex => hx2 x e (hX x e ex), ⟨n1, p4.2⟩, ⟨by omega, by omega⟩, hok, qT, aW, wq, fT, w9, ?_, ?_, ?_, ?_, ?_, ?_⟩
          · show upX _ qN _ qN = _; rw [upX_s, Int.toNat_of_nonneg (by omega)]
          · show upX _ qN _ qT = _; rw [upX_n (fun z => nNT z.symm), upX_s]
          · intro j j0 j1
            have e1 := hfT j j0 j1
            rw [Int.zero_add] at e1
            exact ⟨e1, p5 j j0 j1⟩
          · exact hx2 _ _ hA
          · intro i i0 i1
            obtain ⟨wq2, e1, e2⟩ := hW i i0 i1
            exact ⟨wq2, e1, e2.ext hx2⟩
          · exact hwq
        · cases c_65
      · refine gg_iload dX1_lineOf_17 rfl ?_
        refine gi_bipush dX1_lineOf_19 (by decide) ?_
        refine gi_icmp_ge (tgt := 63) dX1_lineOf_21 (by decide) ⟨by omega, by omega⟩ ⟨by omega, by omega⟩ (fun c_21 => ?_) (fun c_21 => ?_)
        · exact absurd c_21 (by omega)
        · refine gn_X1_64 rfl dX1_lineOf_24 (by show 1 + 3 * k.toNat + 1 ≤ 39; omega) (by show 12 + 78 * k.toNat + 6 ≤ 1013; omega) (fun qW frW => ?_)
          refine gg_conv (h2 := gst Γ (h.1, upX ι9 qW (.inr (10, [.null, .int 0, .int 0, .int 0, .int 0, .null]))) G B) ?_ rfl rfl rfl
          refine gg_dup dX1_lineOf_27 rfl ?_
          refine gg_aload_n dX1_lineOf_28 rfl rfl ?_
          refine gg_aload_n dX1_lineOf_29 rfl rfl ?_
          refine gk_getX1_15 rfl dX1_lineOf_30 ?_
          refine gg_iload dX1_lineOf_33 rfl ?_
          refine gk_iald dX1_lineOf_35 (by decide) (by decide) ⟨by omega, by show _ < (12 : Int); omega⟩ (by (try simp only [uA_s, uA_n, ne_eq, not_false_eq_true, Nat.reduceEqDiff, reduceCtorEq]); rfl) ?_
          refine gg_aload_n dX1_lineOf_36 rfl rfl ?_
          refine gk_getX1_19 rfl dX1_lineOf_37 ?_
          refine gg_iload dX1_lineOf_40 rfl ?_
          refine gk_iald dX1_lineOf_42 (by decide) (by decide) ⟨by omega, by show _ < (12 : Int); omega⟩ (by (try simp only [uA_s, uA_n, ne_eq, not_false_eq_true, Nat.reduceEqDiff, reduceCtorEq]); rfl) ?_
          obtain ⟨s1, s2, s3, s4, s5, s6⟩ := hS k (by omega) (by omega)
          rw [s1, s2]
          refine gc_X1_66 rfl dX1_lineOf_43 ⟨(Nat.le_of_ble_eq_true rfl), (Nat.le_of_ble_eq_true rfl)⟩ ⟨by show 1 + 3 * k.toNat + 1 + 1 ≤ 39; omega, by show 12 + 78 * k.toNat + 6 + 60 ≤ 1013; omega⟩ (Nat.le_of_ble_eq_true rfl) (HAt.mu gst_40) (c_X1_copyOf (h := (h.1, upX ι9 qW (.inr (10, [.null, .int 0, .int 0, .int 0, .int 0, .null])))) (G := G) (B := B) p4 p5 p3 (x := pwP (B 41) (G 4) k) (y := pwP (B 41) (G 4) k + pwN (B 41) (G 4) k) ⟨by omega, by omega⟩ (by omega)) (fun _ _ w => w.elim) (fun r_43 h_43 hp => ?_)
          obtain ⟨qL, f9, rfl, frL, rfl, hf9⟩ := hp
          rw [show pwP (B 41) (G 4) k + pwN (B 41) (G 4) k - pwP (B 41) (G 4) k = pwN (B 41) (G 4) k by omega] at hf9 ⊢
          have fW : ι9 qW = none := frW.1
          have fL : upX ι9 qW (.inr (10, [.null, .int 0, .int 0, .int 0, .int 0, .null])) qL = none := frL.1
          have nWL : qW ≠ qL := fun z => by rw [← z, upX_s] at fL; cases fL
          rw [upX_n (fun z => nWL z.symm)] at fL
          refine gc_X1_70 rfl dX1_lineOf_46 ⟨(Nat.le_of_ble_eq_true rfl), (Nat.le_of_ble_eq_true rfl)⟩ ⟨by show 1 + 3 * k.toNat + 1 + 1 + 1 ≤ 39; omega, by show 12 + 78 * k.toNat + 6 + 60 + 12 ≤ 1013; omega⟩ (Nat.le_of_ble_eq_true rfl) (c_X8_init (h := gst Γ (h.1, upX (upX ι9 qW (.inr (10, [.null, .int 0, .int 0, .int 0, .int 0, .null]))) qL (.inl (1, (pwN (B 41) (G 4) k).toNat, ia f9))) G B) (f := fun j => B 41 (pwP (B 41) (G 4) k + j)) (f9 := f9) (n := pwN (B 41) (G 4) k) (Eq.trans (upX_n nWL) upX_s) upX_s s3 hf9 s6) (fun _ _ w => w.elim) (fun r_46 h_46 hp => ?_)
          obtain ⟨ι', rfl, rfl, W9, hx⟩ := hp
          have hE : ext ι9 ι' := fun x e ex => hx x e (fun z => by rw [z, fW] at ex; cases ex) (by
            show upX (upX ι9 qW _) qL _ x = some e
            rw [upX_n (fun z => by rw [z, fL] at ex; cases ex), upX_n (fun z => by rw [z, fW] at ex; cases ex)]; exact ex)
          refine gg_astore dX1_lineOf_49 rfl (Nat.le_of_ble_eq_true rfl) rfl ?_
          refine gg_aload_n dX1_lineOf_51 rfl rfl ?_
          refine gg_iload dX1_lineOf_52 rfl ?_
          refine gg_aload dX1_lineOf_54 rfl rfl ?_
          have W8 := W9
          obtain ⟨_, _, _, _, _, _, a3, _⟩ := W8
          refine gi_aast (f := w9) (n := wn.toNat) dX1_lineOf_56 (HAt.io (h := gst Γ (h.1, ι') G B) a3) rfl (by decide) rfl (by omega) ⟨by omega, by omega⟩ (HPut.io (h := gst Γ (h.1, ι') G B) (hE _ _ hA)) ?_
          refine gi_iinc dX1_lineOf_57 rfl (Nat.le_of_ble_eq_true rfl) rfl ?_
          refine gg_goto (tgt := 11) dX1_lineOf_60 (by decide) ?_
          refine gg_widen (k := 1 + 3 * (k + 1).toNat) (n := 12 + 78 * (k + 1).toNat) (by show 1 + 3 * k.toNat + 1 + 1 + 1 ≤ _; omega) (by show 12 + 78 * k.toNat + 6 + 60 + 12 ≤ _; omega) ?_
          refine ih_11 _ (by omega) (k + 1) (upX ι' aW (.inl (6, wn.toNat, ra (up w9 k (some qW))))) (up w9 k (some qW)) (.ref qW) rfl (by omega) ?_ upX_s ?_ (Or.inr ⟨by omega, qW, rfl, by rw [show k + 1 - 1 = k by omega, up_s]⟩)
          · exact fun x e ex => by rw [upX_n (fun z => by rw [z, fA] at ex; cases ex)]; exact hE x e (hX x e ex)
          · intro i i0 i1
            by_cases e : i = k
            · rw [e, up_s]; exact ⟨qW, rfl, W9.pt (hE _ _ hA)⟩
            · obtain ⟨wq, e1, e2⟩ := hW i i0 (by omega)
              exact ⟨wq, by rw [up_n e]; exact e1, (e2.ext hE).pt (hE _ _ hA)⟩
  exact L_11 _ 0 (upX h.2 aW (.inl (6, wn.toNat, ra (fun _ => none)))) (fun _ => none) .null rfl (by omega) (ext.up fA) upX_s (fun i i0 i1 => by omega) (Or.inl ⟨rfl, rfl⟩)
