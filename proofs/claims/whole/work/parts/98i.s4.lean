/-! the law: its loop -/
set_option maxHeartbeats 2000000
theorem n32_31 (x : Int32) : ∃ z : Int, x &&& iN 31 = iN z ∧ 0 ≤ z ∧ z ≤ 31 := by
  refine ⟨(x &&& iN 31).toInt, (iN_self _).symm, ?_⟩
  have h1 : (x &&& iN 31).toBitVec.toNat ≤ 31 := by
    rw [Int32.toBitVec_and, BitVec.toNat_and]
    exact Nat.and_le_right
  have h2 : (x &&& iN 31).toInt = ((x &&& iN 31).toBitVec.toNat : Int) := by
    rw [← Int32.toInt_toBitVec, BitVec.toInt_eq_toNat_of_lt (by omega)]
  omega
theorem law_loop {nm9 : String} {Γ : GT} {QF : List Frame → Array Value → State → State → Prop} {c0 s0' : Nat} (hn : g_n Γ ≤ 2560) (hc : c0 + 60000 ≤ room_1.cells ∧ s0' + 1200000 ≤ room_1.slots)
    (kE : ∀ (cs : Nat × Nat) (h : XH) (lv : List (Option Value)), cs.1 ≤ room_1.cells → cs.2 ≤ room_1.slots → GG Γ (M_law nm9) QF cs h 2157 lv [.int 1]) :
    ∀ (m : Nat) (i : Int) (v : Nat → Int64) (w : Nat → UInt64) (ι : Nat → Option XE) (G : Nat → Int) (B : Nat → Int → Int) (F : Nat → Int) (A : Nat → Int → Int) (b : Nat), (g_n Γ : Int) - i < m → 0 ≤ i → i ≤ 2564 → CP9 ι G B F A b → GG Γ (M_law nm9) QF (c0 + 20 * i.toNat, s0' + 400 * i.toNat) (P9 Γ v w ι G B F A) 28 (LV9 Γ i none none) []
  | m, i, v, w, ι, G, B, F, A, b, hm, h0, h9, C => by
    refine gg_iload dL_law_28 rfl ?_
    refine gg_aload_n dL_law_30 rfl rfl ?_
    refine gg_slen9 dL_law_31 ?_
    refine gi_iconst dL_law_32 ?_
    refine gi_isub dL_law_33 ?_
    refine gi_icmp_gt dL_law_34 (tgt := 2156) (by decide) ⟨by omega, by omega⟩ ⟨by omega, by omega⟩ (fun z => ?_) (fun z => ?_)
    · refine gg_iconst dL_law_2156 rfl ?_
      exact kE _ _ _ (by have := hc.1; show c0 + 20 * i.toNat ≤ _; omega) (by have := hc.2; show s0' + 400 * i.toNat ≤ _; omega)
    have m1 : ∃ m', m = m' + 1 := by
      cases m with
      | zero => exfalso; simp only [Int.natCast_zero, Int.ofNat_eq_natCast] at hm; omega
      | succ m' => exact ⟨m', rfl⟩
    obtain ⟨m', rfl⟩ := m1
    have hcs : (c0 + 20 * i.toNat, s0' + 400 * i.toNat).1 + 100 ≤ room_1.cells ∧ (c0 + 20 * i.toNat, s0' + 400 * i.toNat).2 + 2000 ≤ room_1.slots := ⟨by have := hc.1; show c0 + 20 * i.toNat + 100 ≤ _; omega, by have := hc.2; show s0' + 400 * i.toNat + 2000 ≤ _; omega⟩
    have nxt : ∀ (v' : Nat → Int64) (w' : Nat → UInt64) (ι' : Nat → Option XE) (G' : Nat → Int) (B' : Nat → Int → Int) (F' : Nat → Int) (A' : Nat → Int → Int) (b' : Nat), CP9 ι' G' B' F' A' b' → GG Γ (M_law nm9) QF ((c0 + 20 * i.toNat, s0' + 400 * i.toNat).1 + 100, (c0 + 20 * i.toNat, s0' + 400 * i.toNat).2 + 2000) (P9 Γ v' w' ι' G' B' F' A') 2150 (LV9 Γ i none none) [] := fun v' w' ι' G' B' F' A' b' C' => by
      refine gi_iinc dL_law_2150 rfl (Nat.le_of_ble_eq_true rfl) rfl ?_
      refine gg_goto dL_law_2153 (tgt := 28) (by decide) ?_
      refine gg_widen (k := c0 + 20 * (i + 5).toNat) (n := s0' + 400 * (i + 5).toNat) (by show c0 + 20 * i.toNat + 100 ≤ _; omega) (by show s0' + 400 * i.toNat + 2000 ≤ _; omega) ?_
      exact law_loop hn hc kE m' (i + 5) v' w' ι' G' B' F' A' b' (by omega) (by omega) (by omega) C'
    refine gg_aload_n dL_law_37 rfl rfl ?_
    refine gg_iload dL_law_38 rfl ?_
    refine gg_sld dL_law_40 (by omega) hn ?_
    refine gi_bipush dL_law_41 rfl ?_
    obtain ⟨z, hz, z0, z1⟩ := n32_31 (g_x Γ i.toNat)
    refine gg_iand dL_law_43 ?_
    rw [hz]
    rcases (show z = 0 ∨ z = 1 ∨ z = 2 ∨ z = 3 ∨ z = 4 ∨ z = 5 ∨ z = 6 ∨ z = 7 ∨ z = 8 ∨ z = 9 ∨ z = 10 ∨ z = 11 ∨ z = 12 ∨ z = 13 ∨ z = 14 ∨ z = 15 ∨ z = 16 ∨ z = 17 ∨ z = 18 ∨ z = 19 ∨ z = 20 ∨ z = 21 ∨ z = 22 ∨ z = 23 ∨ z = 24 ∨ z = 25 ∨ z = 26 ∨ z = 27 ∨ z = 28 ∨ z = 29 ∨ z = 30 ∨ z = 31 by omega) with rfl | rfl | rfl | rfl | rfl | rfl | rfl | rfl | rfl | rfl | rfl | rfl | rfl | rfl | rfl | rfl | rfl | rfl | rfl | rfl | rfl | rfl | rfl | rfl | rfl | rfl | rfl | rfl | rfl | rfl | rfl | rfl
    · exact gi_tab dL_law_44 ⟨by decide, by decide⟩ (by decide) (by decide) (off := 140) rfl (tgt := 184) (by decide) (st_feed hn ⟨h0, by omega⟩ C hcs nxt)
    · exact gi_tab dL_law_44 ⟨by decide, by decide⟩ (by decide) (by decide) (off := 198) rfl (tgt := 242) (by decide) (st_errorPosition hn ⟨h0, by omega⟩ C hcs nxt)
    · exact gi_tab dL_law_44 ⟨by decide, by decide⟩ (by decide) (by decide) (off := 242) rfl (tgt := 286) (by decide) (st_setMetre hn ⟨h0, by omega⟩ C hcs nxt)
    · exact gi_tab dL_law_44 ⟨by decide, by decide⟩ (by decide) (by decide) (off := 322) rfl (tgt := 366) (by decide) (st_readMetre hn ⟨h0, by omega⟩ C hcs nxt)
    · exact gi_tab dL_law_44 ⟨by decide, by decide⟩ (by decide) (by decide) (off := 366) rfl (tgt := 410) (by decide) (st_metre hn ⟨h0, by omega⟩ C hcs nxt)
    · exact gi_tab dL_law_44 ⟨by decide, by decide⟩ (by decide) (by decide) (off := 422) rfl (tgt := 466) (by decide) (st_setTolerance hn ⟨h0, by omega⟩ C hcs nxt)
    · exact gi_tab dL_law_44 ⟨by decide, by decide⟩ (by decide) (by decide) (off := 478) rfl (tgt := 522) (by decide) (st_readException hn ⟨h0, by omega⟩ C hcs nxt)
    · exact gi_tab dL_law_44 ⟨by decide, by decide⟩ (by decide) (by decide) (off := 522) rfl (tgt := 566) (by decide) (st_dropException hn ⟨h0, by omega⟩ C hcs nxt)
    · exact gi_tab dL_law_44 ⟨by decide, by decide⟩ (by decide) (by decide) (off := 578) rfl (tgt := 622) (by decide) (st_exceptions hn ⟨h0, by omega⟩ C hcs nxt)
    · exact gi_tab dL_law_44 ⟨by decide, by decide⟩ (by decide) (by decide) (off := 591) rfl (tgt := 635) (by decide) (st_addLine hn ⟨h0, by omega⟩ C hcs nxt)
    · exact gi_tab dL_law_44 ⟨by decide, by decide⟩ (by decide) (by decide) (off := 659) rfl (tgt := 703) (by decide) (st_replaceLine hn ⟨h0, by omega⟩ C hcs nxt)
    · exact gi_tab dL_law_44 ⟨by decide, by decide⟩ (by decide) (by decide) (off := 727) rfl (tgt := 771) (by decide) (st_removeLine hn ⟨h0, by omega⟩ C hcs nxt)
    · exact gi_tab dL_law_44 ⟨by decide, by decide⟩ (by decide) (by decide) (off := 795) rfl (tgt := 839) (by decide) (st_moveLine hn ⟨h0, by omega⟩ C hcs nxt)
    · exact gi_tab dL_law_44 ⟨by decide, by decide⟩ (by decide) (by decide) (off := 875) rfl (tgt := 919) (by decide) (st_copyDraft hn ⟨h0, by omega⟩ C hcs nxt)
    · exact gi_tab dL_law_44 ⟨by decide, by decide⟩ (by decide) (by decide) (off := 943) rfl (tgt := 987) (by decide) (st_clearDraft hn ⟨h0, by omega⟩ C hcs nxt)
    · exact gi_tab dL_law_44 ⟨by decide, by decide⟩ (by decide) (by decide) (off := 999) rfl (tgt := 1043) (by decide) (st_character hn ⟨h0, by omega⟩ C hcs nxt)
    · exact gi_tab dL_law_44 ⟨by decide, by decide⟩ (by decide) (by decide) (off := 1079) rfl (tgt := 1123) (by decide) (st_line hn ⟨h0, by omega⟩ C hcs nxt)
    · exact gi_tab dL_law_44 ⟨by decide, by decide⟩ (by decide) (by decide) (off := 1159) rfl (tgt := 1203) (by decide) (st_word hn ⟨h0, by omega⟩ C hcs nxt)
    · exact gi_tab dL_law_44 ⟨by decide, by decide⟩ (by decide) (by decide) (off := 1251) rfl (tgt := 1295) (by decide) (st_rhyme hn ⟨h0, by omega⟩ C hcs nxt)
    · exact gi_tab dL_law_44 ⟨by decide, by decide⟩ (by decide) (by decide) (off := 1331) rfl (tgt := 1375) (by decide) (st_rhymes hn ⟨h0, by omega⟩ C hcs nxt)
    · exact gi_tab dL_law_44 ⟨by decide, by decide⟩ (by decide) (by decide) (off := 1411) rfl (tgt := 1455) (by decide) (st_cost hn ⟨h0, by omega⟩ C hcs nxt)
    · exact gi_tab dL_law_44 ⟨by decide, by decide⟩ (by decide) (by decide) (off := 1519) rfl (tgt := 1563) (by decide) (st_scan hn ⟨h0, by omega⟩ C hcs nxt)
    · exact gi_tab dL_law_44 ⟨by decide, by decide⟩ (by decide) (by decide) (off := 1599) rfl (tgt := 1643) (by decide) (st_scans hn ⟨h0, by omega⟩ C hcs nxt)
    · exact gi_tab dL_law_44 ⟨by decide, by decide⟩ (by decide) (by decide) (off := 1667) rfl (tgt := 1711) (by decide) (st_reason hn ⟨h0, by omega⟩ C hcs nxt)
    · exact gi_tab dL_law_44 ⟨by decide, by decide⟩ (by decide) (by decide) (off := 1735) rfl (tgt := 1779) (by decide) (st_difference hn ⟨h0, by omega⟩ C hcs nxt)
    · exact gi_tab dL_law_44 ⟨by decide, by decide⟩ (by decide) (by decide) (off := 1803) rfl (tgt := 1847) (by decide) (st_suits hn ⟨h0, by omega⟩ C hcs nxt)
    · exact gi_tab dL_law_44 ⟨by decide, by decide⟩ (by decide) (by decide) (off := 1859) rfl (tgt := 1903) (by decide) (st_account hn ⟨h0, by omega⟩ C hcs nxt)
    · exact gi_tab dL_law_44 ⟨by decide, by decide⟩ (by decide) (by decide) (off := 1927) rfl (tgt := 1971) (by decide) (st_meanCost hn ⟨h0, by omega⟩ C hcs nxt)
    · exact gi_tab dL_law_44 ⟨by decide, by decide⟩ (by decide) (by decide) (off := 2005) rfl (tgt := 2049) (by decide) (st_undo hn ⟨h0, by omega⟩ C hcs nxt)
    · exact gi_tab dL_law_44 ⟨by decide, by decide⟩ (by decide) (by decide) (off := 2049) rfl (tgt := 2093) (by decide) (st_save hn ⟨h0, by omega⟩ C hcs nxt)
    · exact gi_tab dL_law_44 ⟨by decide, by decide⟩ (by decide) (by decide) (off := 2062) rfl (tgt := 2106) (by decide) (st_restore hn ⟨h0, by omega⟩ C hcs nxt)
    · refine gi_tabD dL_law_44 ⟨by decide, by decide⟩ (Or.inr (by decide)) (tgt := 2150) (by decide) ?_
      exact gg_widen (k := c0 + 20 * i.toNat + 100) (n := s0' + 400 * i.toNat + 2000) (by show c0 + 20 * i.toNat ≤ _; omega) (by show s0' + 400 * i.toNat ≤ _; omega) (nxt v w ι G B F A b C)
