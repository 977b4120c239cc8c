/-! the law: its steps, 1 -/
set_option maxHeartbeats 2000000
def c16 (x : Int) : Int := ((iN x).toUInt32 % 65536).toInt32.toInt
theorem gc17 {nm9 : String} {Γ : GT} {QF : List Frame → Array Value → State → State → Prop} {cs : Nat × Nat} {pc : Nat} {h : XH} {lv : List (Option Value)} {st : List Value} {x : Int} (d0 : decode cL_law pc = .ok (.i2c, 1)) (kk : (0 ≤ c16 x ∧ c16 x < 65536) → GG Γ (M_law nm9) QF cs h (pc + 1) lv (.int (iN (c16 x)) :: st)) : GG Γ (M_law nm9) QF cs h pc lv (.int (iN x) :: st) :=
  gc16 d0 (fun c hc hr => by
    have e : c = c16 x := hc
    subst e; exact kk hr)
def bz (x : Int) : Int := if x = 0 then 0 else 1
theorem bz_01 (x : Int) : bz x = 0 ∨ bz x = 1 := by unfold bz; split <;> simp
theorem bz_r (x : Int) : InR (bz x) := by rcases bz_01 x with q | q <;> rw [q] <;> exact ⟨by omega, by omega⟩
theorem gb7 {nm9 : String} {Γ : GT} {QF : List Frame → Array Value → State → State → Prop} {cs : Nat × Nat} {pc : Nat} {h : XH} {lv : List (Option Value)} {st : List Value} {x : Int} (hx : InR x) (d0 : decode cL_law pc = .ok (.ifCond .eq 7, 3)) (d1 : decode cL_law (pc + 3) = .ok (.iconst 1, 1)) (d2 : decode cL_law (pc + 4) = .ok (.goto 4, 3)) (d3 : decode cL_law (pc + 7) = .ok (.iconst 0, 1))
    (kk : GG Γ (M_law nm9) QF cs h (pc + 8) lv (.int (iN (bz x)) :: st)) : GG Γ (M_law nm9) QF cs h pc lv (.int (iN x) :: st) := by
  refine gi_if_eq d0 (tgt := pc + 7) (by omega) hx (fun z => ?_) (fun z => ?_)
  · refine gi_iconst d3 ?_
    have e : bz x = 0 := by unfold bz; rw [if_pos z]
    rw [e] at kk; exact kk
  · refine gi_iconst d1 ?_
    refine gg_goto d2 (tgt := pc + 8) (by omega) ?_
    have e : bz x = 1 := by unfold bz; rw [if_neg z]
    rw [e] at kk; exact kk
theorem mtV_ref {a : Int → Int} {w : Int} (hw : 0 ≤ w ∧ w ≤ 4) : (if w = 3 then a 1 * szk (a 0) else if w = 4 then (plN (fun p9 => decide (p9 % szk (a 0) = sto (a 0))) (a 1 * szk (a 0)).toNat : Int) else a w) = mtV (a 0) (a 1) (a 2) w := by
  have e : (fun p => strK (a 0) p 0) = fun p9 => decide (p9 % szk (a 0) = sto (a 0)) := by
    funext p
    unfold strK
    rw [if_neg (fun z => z.2 rfl)]
  unfold mtV
  rw [e]
  rcases (show w = 0 ∨ w = 1 ∨ w = 2 ∨ w = 3 ∨ w = 4 by omega) with rfl | rfl | rfl | rfl | rfl <;> simp
theorem vv9_0 {v : Nat → Int64} {k x : Int} (h : k = 0) : vv9 v k x 0 = (iN x).toInt64 := by
  unfold vv9; rw [if_pos h]; rfl
theorem st_feed {nm9 : String} {Γ : GT} {v : Nat → Int64} {w : Nat → UInt64} {ι : Nat → Option XE} {G : Nat → Int} {B : Nat → Int → Int} {F : Nat → Int} {A : Nat → Int → Int} {QF : List Frame → Array Value → State → State → Prop} {cs : Nat × Nat} {b : Nat} {i : Int} (hn : g_n Γ ≤ 2560) (hi : 0 ≤ i ∧ i + 5 ≤ g_n Γ) (C : CP9 ι G B F A b) (hcs : cs.1 + 100 ≤ room_1.cells ∧ cs.2 + 2000 ≤ room_1.slots)
    (kk : ∀ (v' : Nat → Int64) (w' : Nat → UInt64) (ι' : Nat → Option XE) (G' : Nat → Int) (B' : Nat → Int → Int) (F' : Nat → Int) (A' : Nat → Int → Int) (b' : Nat), CP9 ι' G' B' F' A' b' → GG Γ (M_law nm9) QF (cs.1 + 100, cs.2 + 2000) (P9 Γ v' w' ι' G' B' F' A') 2150 (LV9 Γ i none none) []) : GG Γ (M_law nm9) QF cs (P9 Γ v w ι G B F A) 184 (LV9 Γ i none none) [] := by
  obtain ⟨⟨i1, i2, i3, i4, i5⟩, ⟨e1, e2, e3⟩, p3⟩ := C.2.2.2.2.1
  have sta := C.m.sta
  have lna := C.m.lna
  have exa := C.m.exa
  have h5 : 0 ≤ F 5 ∧ F 5 ≤ 8 := C.2.2.1.1
  have h10 : InR (F 10) := ⟨by omega, by omega⟩
  have r38 := C.r38
  have t6 := C.m.2.2.2.2.2
  have hc1 : cs.1 + 60 ≤ room_1.cells := by have := hcs.1; omega
  have hc2 : cs.2 + 1500 ≤ room_1.slots := by have := hcs.2; omega
  refine gg_aload_n dL_law_184 rfl rfl ?_
  refine g5 (k := 1) hn rfl rfl hi (by decide) dL_law_185 dL_law_186 dL_law_188 dL_law_189 dL_law_190 ?_
  refine gc17 dL_law_191 (fun c16_r => ?_)
  refine gg_aload_n dL_law_192 rfl rfl ?_
  refine gg_callSX (As := [.ref (g_L Γ 30), .int (iN (c16 (sx Γ (i + 1)))), .ref (g_L Γ 24)]) (rest := []) mokh_L_feed (wi_6 _ (List.mem_of_getElem? (i := 20) rfl)) (wi_6 _ (List.mem_of_getElem? (i := 21) rfl)) dL_law_193 rfl ⟨(Nat.le_of_ble_eq_true rfl), (Nat.le_of_ble_eq_true rfl)⟩ ⟨Nat.le_trans (Nat.add_le_add_left ((Nat.le_of_ble_eq_true rfl) : (mR M_L_feed).cells ≤ 60) cs.1) hc1, Nat.le_trans (Nat.add_le_add_left ((Nat.le_of_ble_eq_true rfl) : (mR M_L_feed).slots ≤ 1500) cs.2) hc2⟩ (Nat.le_of_ble_eq_true rfl) (cw_feed (h := mst Γ (h9b v w, ι) F A) C (Eq.trans (mst_hi (by decide)) rfl) c16_r) (fun _ _ z => z.elim) (fun r h' hp => ?_)
  obtain ⟨k, x, ι', G', B', b', rfl, rfl, hX, res⟩ := hp
  refine gg_widen (k := cs.1 + 60) (n := cs.2 + 1500) (Nat.add_le_add_left (Nat.le_of_ble_eq_true rfl) _) (Nat.add_le_add_left (Nat.le_of_ble_eq_true rfl) _) ?_
  rw [P9_wl (G := G) (B := B) (ι := ι)]
  change GG Γ (M_law nm9) QF (cs.1 + 60, cs.2 + 1500) (P9 Γ (vv9 v k x) w ι' G' B' F A) 196 (LV9 Γ i none none) [.int (iN k)]
  refine gg_istore dL_law_196 (Nat.le_of_ble_eq_true rfl) rfl ?_
  rw [P9_m]
  refine gg_aload_n dL_law_198 rfl rfl ?_
  refine g5 (k := 1) hn rfl rfl hi (by decide) dL_law_199 dL_law_200 dL_law_202 dL_law_203 dL_law_204 ?_
  refine gc17 dL_law_205 (fun c16_r => ?_)
  refine gc_L_124 rfl dL_law_206 ⟨(Nat.le_of_ble_eq_true rfl), (Nat.le_of_ble_eq_true rfl)⟩ ⟨hc1, hc2⟩ (Nat.le_of_ble_eq_true rfl) (HAt.mu rfl) (c_X10_feed i2) (fun _ _ z => z.elim) (fun r2 h2 hp2 => ?_)
  have J : ∃ (F2 : Nat → Int) (A2 : Nat → Int → Int) (x2 : Int), r2 = some (.int (iN x2)) ∧ h2 = mst Γ (gst Γ (h9b (vv9 v k x) w, ι') G' B') F2 A2 ∧ F2 0 = k ∧ (0 ≤ k ∧ k ≤ 3) ∧ (k = 0 → x2 = x) ∧ CP9 ι' G' B' F2 A2 b' := by
    rcases res with ⟨r1, rfl, rfl, C2⟩ | ⟨r1, rfl, C2⟩
    · rcases hp2 with ⟨p1, rfl, rfl⟩ | ⟨p1, rfl, rfl⟩
      · first | exact absurd r1 p1 | exact absurd p1 r1 | exact absurd r2 p2 | exact absurd p2 r2 | (exfalso; omega) | (rw [r1] at p1; exact absurd p1 (by decide)) | (rw [r2] at p2; exact absurd p2 (by decide))
      · exact ⟨_, _, _, rfl, rfl, (by simp only [uF_s, uF_n, ne_eq, Nat.reduceEqDiff, not_false_eq_true]), by decide, fun _ => rfl, CP9.cF (by first | rfl | simp only [uF_s, uF_n, uA_s, uA_n, ne_eq, Nat.reduceEqDiff, not_false_eq_true]) (by first | rfl | simp only [uF_s, uF_n, uA_s, uA_n, ne_eq, Nat.reduceEqDiff, not_false_eq_true]) (by first | rfl | simp only [uF_s, uF_n, uA_s, uA_n, ne_eq, Nat.reduceEqDiff, not_false_eq_true]) (by first | rfl | simp only [uF_s, uF_n, uA_s, uA_n, ne_eq, Nat.reduceEqDiff, not_false_eq_true]) (by first | exact r38 | (simp only [uF_s, uF_n, ne_eq, Nat.reduceEqDiff, not_false_eq_true]; exact r38)) (by first | rfl | simp only [uF_s, uF_n, uA_s, uA_n, ne_eq, Nat.reduceEqDiff, not_false_eq_true]) (by first | rfl | simp only [uF_s, uF_n, uA_s, uA_n, ne_eq, Nat.reduceEqDiff, not_false_eq_true]) (by first | rfl | simp only [uF_s, uF_n, uA_s, uA_n, ne_eq, Nat.reduceEqDiff, not_false_eq_true]) (by first | rfl | simp only [uF_s, uF_n, uA_s, uA_n, ne_eq, Nat.reduceEqDiff, not_false_eq_true]) C2⟩
    · rcases hp2 with ⟨p1, rfl, rfl⟩ | ⟨p1, rfl, rfl⟩
      · exact ⟨_, _, _, rfl, rfl, (by simp only [uF_s, uF_n, ne_eq, Nat.reduceEqDiff, not_false_eq_true]), by decide, fun z => absurd z (by decide), CP9.cF (by first | rfl | simp only [uF_s, uF_n, uA_s, uA_n, ne_eq, Nat.reduceEqDiff, not_false_eq_true]) (by first | rfl | simp only [uF_s, uF_n, uA_s, uA_n, ne_eq, Nat.reduceEqDiff, not_false_eq_true]) (by first | rfl | simp only [uF_s, uF_n, uA_s, uA_n, ne_eq, Nat.reduceEqDiff, not_false_eq_true]) (by first | rfl | simp only [uF_s, uF_n, uA_s, uA_n, ne_eq, Nat.reduceEqDiff, not_false_eq_true]) (by first | exact r38 | (simp only [uF_s, uF_n, ne_eq, Nat.reduceEqDiff, not_false_eq_true]; exact r38)) (by first | rfl | simp only [uF_s, uF_n, uA_s, uA_n, ne_eq, Nat.reduceEqDiff, not_false_eq_true]) (by first | rfl | simp only [uF_s, uF_n, uA_s, uA_n, ne_eq, Nat.reduceEqDiff, not_false_eq_true]) (by first | rfl | simp only [uF_s, uF_n, uA_s, uA_n, ne_eq, Nat.reduceEqDiff, not_false_eq_true]) (by first | rfl | simp only [uF_s, uF_n, uA_s, uA_n, ne_eq, Nat.reduceEqDiff, not_false_eq_true]) C2⟩
      · first | exact absurd r1 p1 | exact absurd p1 r1 | exact absurd r2 p2 | exact absurd p2 r2 | (exfalso; omega) | (rw [r1] at p1; exact absurd p1 (by decide)) | (rw [r2] at p2; exact absurd p2 (by decide))
  obtain ⟨F2, A2, x2, rfl, rfl, rfl, hk, hx, C2⟩ := J
  rw [← P9_m]
  exact tail9 (x6 := none) (x2 := x2) (fun z => by rw [vv9_0 z, hx z]) hk dL_law_209 dL_law_211 dL_law_212 dL_law_215 dL_law_217 dL_law_222 dL_law_224 dL_law_227 dL_law_228 dL_law_229 dL_law_230 dL_law_232 dL_law_233 dL_law_234 dL_law_239 (by decide) ⟨hc1, hc2⟩ (gg_widen (k := cs.1 + 100) (n := cs.2 + 2000) (by show cs.1 + 60 + 0 ≤ cs.1 + 100; omega) (by show cs.2 + 1500 + 0 ≤ cs.2 + 2000; omega) (kk _ _ _ _ _ _ _ _ C2))
theorem st_errorPosition {nm9 : String} {Γ : GT} {v : Nat → Int64} {w : Nat → UInt64} {ι : Nat → Option XE} {G : Nat → Int} {B : Nat → Int → Int} {F : Nat → Int} {A : Nat → Int → Int} {QF : List Frame → Array Value → State → State → Prop} {cs : Nat × Nat} {b : Nat} {i : Int} (hn : g_n Γ ≤ 2560) (hi : 0 ≤ i ∧ i + 5 ≤ g_n Γ) (C : CP9 ι G B F A b) (hcs : cs.1 + 100 ≤ room_1.cells ∧ cs.2 + 2000 ≤ room_1.slots)
    (kk : ∀ (v' : Nat → Int64) (w' : Nat → UInt64) (ι' : Nat → Option XE) (G' : Nat → Int) (B' : Nat → Int → Int) (F' : Nat → Int) (A' : Nat → Int → Int) (b' : Nat), CP9 ι' G' B' F' A' b' → GG Γ (M_law nm9) QF (cs.1 + 100, cs.2 + 2000) (P9 Γ v' w' ι' G' B' F' A') 2150 (LV9 Γ i none none) []) : GG Γ (M_law nm9) QF cs (P9 Γ v w ι G B F A) 242 (LV9 Γ i none none) [] := by
  obtain ⟨⟨i1, i2, i3, i4, i5⟩, ⟨e1, e2, e3⟩, p3⟩ := C.2.2.2.2.1
  have sta := C.m.sta
  have lna := C.m.lna
  have exa := C.m.exa
  have h5 : 0 ≤ F 5 ∧ F 5 ≤ 8 := C.2.2.1.1
  have h10 : InR (F 10) := ⟨by omega, by omega⟩
  have r38 := C.r38
  have t6 := C.m.2.2.2.2.2
  have hc1 : cs.1 + 60 ≤ room_1.cells := by have := hcs.1; omega
  have hc2 : cs.2 + 1500 ≤ room_1.slots := by have := hcs.2; omega
  refine gg_aload_n dL_law_242 rfl rfl ?_
  refine gg_aload_n dL_law_243 rfl rfl ?_
  refine gg_callSX (As := [.ref (g_L Γ 30), .ref (g_L Γ 24)]) (rest := []) mokh_L_errorPosition (wi_8 _ (List.mem_of_getElem? (i := 0) rfl)) (wi_8 _ (List.mem_of_getElem? (i := 1) rfl)) dL_law_244 rfl ⟨(Nat.le_of_ble_eq_true rfl), (Nat.le_of_ble_eq_true rfl)⟩ ⟨Nat.le_trans (Nat.add_le_add_left ((Nat.le_of_ble_eq_true rfl) : (mR M_L_errorPosition).cells ≤ 60) cs.1) hc1, Nat.le_trans (Nat.add_le_add_left ((Nat.le_of_ble_eq_true rfl) : (mR M_L_errorPosition).slots ≤ 1500) cs.2) hc2⟩ (Nat.le_of_ble_eq_true rfl) (cw_errorPosition (h := mst Γ (h9b v w, ι) F A) C (Eq.trans (mst_hi (by decide)) rfl) ) (fun _ _ z => z.elim) (fun r h' hp => ?_)
  obtain ⟨k, x, ι', G', B', b', rfl, rfl, hX, res⟩ := hp
  refine gg_widen (k := cs.1 + 60) (n := cs.2 + 1500) (Nat.add_le_add_left (Nat.le_of_ble_eq_true rfl) _) (Nat.add_le_add_left (Nat.le_of_ble_eq_true rfl) _) ?_
  rw [P9_wl (G := G) (B := B) (ι := ι)]
  change GG Γ (M_law nm9) QF (cs.1 + 60, cs.2 + 1500) (P9 Γ (vv9 v k x) w ι' G' B' F A) 247 (LV9 Γ i none none) [.int (iN k)]
  refine gg_istore dL_law_247 (Nat.le_of_ble_eq_true rfl) rfl ?_
  rw [P9_m]
  refine gg_aload_n dL_law_249 rfl rfl ?_
  refine gc_L_131 rfl dL_law_250 ⟨(Nat.le_of_ble_eq_true rfl), (Nat.le_of_ble_eq_true rfl)⟩ ⟨hc1, hc2⟩ (Nat.le_of_ble_eq_true rfl) (HAt.mu rfl) (c_X10_errorPosition h10) (fun _ _ z => z.elim) (fun r2 h2 hp2 => ?_)
  have J : ∃ (F2 : Nat → Int) (A2 : Nat → Int → Int) (x2 : Int), r2 = some (.int (iN x2)) ∧ h2 = mst Γ (gst Γ (h9b (vv9 v k x) w, ι') G' B') F2 A2 ∧ F2 0 = k ∧ (0 ≤ k ∧ k ≤ 3) ∧ (k = 0 → x2 = x) ∧ CP9 ι' G' B' F2 A2 b' := by
    rcases res with ⟨r1, rfl, rfl, C2⟩ | ⟨r1, rfl, C2⟩
    · rcases hp2 with ⟨p1, rfl, rfl⟩ | ⟨p1, rfl, rfl⟩
      · first | exact absurd r1 p1 | exact absurd p1 r1 | exact absurd r2 p2 | exact absurd p2 r2 | (exfalso; omega) | (rw [r1] at p1; exact absurd p1 (by decide)) | (rw [r2] at p2; exact absurd p2 (by decide))
      · exact ⟨_, _, _, rfl, rfl, (by simp only [uF_s, uF_n, ne_eq, Nat.reduceEqDiff, not_false_eq_true]), by decide, fun _ => rfl, CP9.cF (by first | rfl | simp only [uF_s, uF_n, uA_s, uA_n, ne_eq, Nat.reduceEqDiff, not_false_eq_true]) (by first | rfl | simp only [uF_s, uF_n, uA_s, uA_n, ne_eq, Nat.reduceEqDiff, not_false_eq_true]) (by first | rfl | simp only [uF_s, uF_n, uA_s, uA_n, ne_eq, Nat.reduceEqDiff, not_false_eq_true]) (by first | rfl | simp only [uF_s, uF_n, uA_s, uA_n, ne_eq, Nat.reduceEqDiff, not_false_eq_true]) (by first | exact r38 | (simp only [uF_s, uF_n, ne_eq, Nat.reduceEqDiff, not_false_eq_true]; exact r38)) (by first | rfl | simp only [uF_s, uF_n, uA_s, uA_n, ne_eq, Nat.reduceEqDiff, not_false_eq_true]) (by first | rfl | simp only [uF_s, uF_n, uA_s, uA_n, ne_eq, Nat.reduceEqDiff, not_false_eq_true]) (by first | rfl | simp only [uF_s, uF_n, uA_s, uA_n, ne_eq, Nat.reduceEqDiff, not_false_eq_true]) (by first | rfl | simp only [uF_s, uF_n, uA_s, uA_n, ne_eq, Nat.reduceEqDiff, not_false_eq_true]) C2⟩
    · rcases hp2 with ⟨p1, rfl, rfl⟩ | ⟨p1, rfl, rfl⟩
      · exact ⟨_, _, _, rfl, rfl, (by simp only [uF_s, uF_n, ne_eq, Nat.reduceEqDiff, not_false_eq_true]), by decide, fun z => absurd z (by decide), CP9.cF (by first | rfl | simp only [uF_s, uF_n, uA_s, uA_n, ne_eq, Nat.reduceEqDiff, not_false_eq_true]) (by first | rfl | simp only [uF_s, uF_n, uA_s, uA_n, ne_eq, Nat.reduceEqDiff, not_false_eq_true]) (by first | rfl | simp only [uF_s, uF_n, uA_s, uA_n, ne_eq, Nat.reduceEqDiff, not_false_eq_true]) (by first | rfl | simp only [uF_s, uF_n, uA_s, uA_n, ne_eq, Nat.reduceEqDiff, not_false_eq_true]) (by first | exact r38 | (simp only [uF_s, uF_n, ne_eq, Nat.reduceEqDiff, not_false_eq_true]; exact r38)) (by first | rfl | simp only [uF_s, uF_n, uA_s, uA_n, ne_eq, Nat.reduceEqDiff, not_false_eq_true]) (by first | rfl | simp only [uF_s, uF_n, uA_s, uA_n, ne_eq, Nat.reduceEqDiff, not_false_eq_true]) (by first | rfl | simp only [uF_s, uF_n, uA_s, uA_n, ne_eq, Nat.reduceEqDiff, not_false_eq_true]) (by first | rfl | simp only [uF_s, uF_n, uA_s, uA_n, ne_eq, Nat.reduceEqDiff, not_false_eq_true]) C2⟩
      · first | exact absurd r1 p1 | exact absurd p1 r1 | exact absurd r2 p2 | exact absurd p2 r2 | (exfalso; omega) | (rw [r1] at p1; exact absurd p1 (by decide)) | (rw [r2] at p2; exact absurd p2 (by decide))
  obtain ⟨F2, A2, x2, rfl, rfl, rfl, hk, hx, C2⟩ := J
  rw [← P9_m]
  exact tail9 (x6 := none) (x2 := x2) (fun z => by rw [vv9_0 z, hx z]) hk dL_law_253 dL_law_255 dL_law_256 dL_law_259 dL_law_261 dL_law_266 dL_law_268 dL_law_271 dL_law_272 dL_law_273 dL_law_274 dL_law_276 dL_law_277 dL_law_278 dL_law_283 (by decide) ⟨hc1, hc2⟩ (gg_widen (k := cs.1 + 100) (n := cs.2 + 2000) (by show cs.1 + 60 + 0 ≤ cs.1 + 100; omega) (by show cs.2 + 1500 + 0 ≤ cs.2 + 2000; omega) (kk _ _ _ _ _ _ _ _ C2))
theorem st_setMetre {nm9 : String} {Γ : GT} {v : Nat → Int64} {w : Nat → UInt64} {ι : Nat → Option XE} {G : Nat → Int} {B : Nat → Int → Int} {F : Nat → Int} {A : Nat → Int → Int} {QF : List Frame → Array Value → State → State → Prop} {cs : Nat × Nat} {b : Nat} {i : Int} (hn : g_n Γ ≤ 2560) (hi : 0 ≤ i ∧ i + 5 ≤ g_n Γ) (C : CP9 ι G B F A b) (hcs : cs.1 + 100 ≤ room_1.cells ∧ cs.2 + 2000 ≤ room_1.slots)
    (kk : ∀ (v' : Nat → Int64) (w' : Nat → UInt64) (ι' : Nat → Option XE) (G' : Nat → Int) (B' : Nat → Int → Int) (F' : Nat → Int) (A' : Nat → Int → Int) (b' : Nat), CP9 ι' G' B' F' A' b' → GG Γ (M_law nm9) QF (cs.1 + 100, cs.2 + 2000) (P9 Γ v' w' ι' G' B' F' A') 2150 (LV9 Γ i none none) []) : GG Γ (M_law nm9) QF cs (P9 Γ v w ι G B F A) 286 (LV9 Γ i none none) [] := by
  obtain ⟨⟨i1, i2, i3, i4, i5⟩, ⟨e1, e2, e3⟩, p3⟩ := C.2.2.2.2.1
  have sta := C.m.sta
  have lna := C.m.lna
  have exa := C.m.exa
  have h5 : 0 ≤ F 5 ∧ F 5 ≤ 8 := C.2.2.1.1
  have h10 : InR (F 10) := ⟨by omega, by omega⟩
  have r38 := C.r38
  have t6 := C.m.2.2.2.2.2
  have hc1 : cs.1 + 60 ≤ room_1.cells := by have := hcs.1; omega
  have hc2 : cs.2 + 1500 ≤ room_1.slots := by have := hcs.2; omega
  refine gg_aload_n dL_law_286 rfl rfl ?_
  refine g5 (k := 1) hn rfl rfl hi (by decide) dL_law_287 dL_law_288 dL_law_290 dL_law_291 dL_law_292 ?_
  refine g5 (k := 2) hn rfl rfl hi (by decide) dL_law_293 dL_law_294 dL_law_296 dL_law_297 dL_law_298 ?_
  refine g5 (k := 3) hn rfl rfl hi (by decide) dL_law_299 dL_law_300 dL_law_302 dL_law_303 dL_law_304 ?_
  refine gg_aload_n dL_law_305 rfl rfl ?_
  refine gg_callSX (As := [.ref (g_L Γ 30), .int (iN (sx Γ (i + 1))), .int (iN (sx Γ (i + 2))), .int (iN (sx Γ (i + 3))), .ref (g_L Γ 24)]) (rest := []) mokh_L_setMetre (wi_8 _ (List.mem_of_getElem? (i := 15) rfl)) (wi_8 _ (List.mem_of_getElem? (i := 16) rfl)) dL_law_306 rfl ⟨(Nat.le_of_ble_eq_true rfl), (Nat.le_of_ble_eq_true rfl)⟩ ⟨Nat.le_trans (Nat.add_le_add_left ((Nat.le_of_ble_eq_true rfl) : (mR M_L_setMetre).cells ≤ 60) cs.1) hc1, Nat.le_trans (Nat.add_le_add_left ((Nat.le_of_ble_eq_true rfl) : (mR M_L_setMetre).slots ≤ 1500) cs.2) hc2⟩ (Nat.le_of_ble_eq_true rfl) (cw_setMetre (h := mst Γ (h9b v w, ι) F A) C (Eq.trans (mst_hi (by decide)) rfl) (sx_r Γ _) (sx_r Γ _) (sx_r Γ _)) (fun _ _ z => z.elim) (fun r h' hp => ?_)
  obtain ⟨k, x, ι', G', B', b', rfl, rfl, hX, res⟩ := hp
  refine gg_widen (k := cs.1 + 60) (n := cs.2 + 1500) (Nat.add_le_add_left (Nat.le_of_ble_eq_true rfl) _) (Nat.add_le_add_left (Nat.le_of_ble_eq_true rfl) _) ?_
  rw [P9_wl (G := G) (B := B) (ι := ι)]
  change GG Γ (M_law nm9) QF (cs.1 + 60, cs.2 + 1500) (P9 Γ (vv9 v k x) w ι' G' B' F A) 309 (LV9 Γ i none none) [.int (iN k)]
  refine gg_istore dL_law_309 (Nat.le_of_ble_eq_true rfl) rfl ?_
  rw [P9_m]
  refine gg_aload_n dL_law_311 rfl rfl ?_
  refine g5 (k := 1) hn rfl rfl hi (by decide) dL_law_312 dL_law_313 dL_law_315 dL_law_316 dL_law_317 ?_
  refine g5 (k := 2) hn rfl rfl hi (by decide) dL_law_318 dL_law_319 dL_law_321 dL_law_322 dL_law_323 ?_
  refine g5 (k := 3) hn rfl rfl hi (by decide) dL_law_324 dL_law_325 dL_law_327 dL_law_328 dL_law_329 ?_
  refine gc_L_135 rfl dL_law_330 ⟨(Nat.le_of_ble_eq_true rfl), (Nat.le_of_ble_eq_true rfl)⟩ ⟨hc1, hc2⟩ (Nat.le_of_ble_eq_true rfl) (HAt.mu rfl) (c_X10_setMetre h5 (sx_r Γ _) (sx_r Γ _) (sx_r Γ _)) (fun _ _ z => z.elim) (fun r2 h2 hp2 => ?_)
  have J : ∃ (F2 : Nat → Int) (A2 : Nat → Int → Int) (x2 : Int), r2 = some (.int (iN x2)) ∧ h2 = mst Γ (gst Γ (h9b (vv9 v k x) w, ι') G' B') F2 A2 ∧ F2 0 = k ∧ (0 ≤ k ∧ k ≤ 3) ∧ (k = 0 → x2 = x) ∧ CP9 ι' G' B' F2 A2 b' := by
    rcases res with ⟨r1, rfl, rfl, C2⟩ | ⟨r1, rfl, C2⟩
    · rcases hp2 with ⟨p1, rfl, rfl⟩ | ⟨p1, rfl, rfl⟩
      · first | exact absurd r1 p1 | exact absurd p1 r1 | exact absurd r2 p2 | exact absurd p2 r2 | (exfalso; omega) | (rw [r1] at p1; exact absurd p1 (by decide)) | (rw [r2] at p2; exact absurd p2 (by decide))
      · exact ⟨_, _, _, rfl, rfl, (by simp only [uF_s, uF_n, ne_eq, Nat.reduceEqDiff, not_false_eq_true]), by decide, fun _ => rfl, CP9.cF (by first | rfl | simp only [uF_s, uF_n, uA_s, uA_n, ne_eq, Nat.reduceEqDiff, not_false_eq_true]) (by first | rfl | simp only [uF_s, uF_n, uA_s, uA_n, ne_eq, Nat.reduceEqDiff, not_false_eq_true]) (by first | rfl | simp only [uF_s, uF_n, uA_s, uA_n, ne_eq, Nat.reduceEqDiff, not_false_eq_true]) (by first | rfl | simp only [uF_s, uF_n, uA_s, uA_n, ne_eq, Nat.reduceEqDiff, not_false_eq_true]) (by first | exact r38 | (simp only [uF_s, uF_n, ne_eq, Nat.reduceEqDiff, not_false_eq_true]; exact r38)) (by first | rfl | simp only [uF_s, uF_n, uA_s, uA_n, ne_eq, Nat.reduceEqDiff, not_false_eq_true]) (by first | rfl | simp only [uF_s, uF_n, uA_s, uA_n, ne_eq, Nat.reduceEqDiff, not_false_eq_true]) (by first | rfl | simp only [uF_s, uF_n, uA_s, uA_n, ne_eq, Nat.reduceEqDiff, not_false_eq_true]) (by first | rfl | simp only [uF_s, uF_n, uA_s, uA_n, ne_eq, Nat.reduceEqDiff, not_false_eq_true]) C2⟩
    · rcases hp2 with ⟨p1, rfl, rfl⟩ | ⟨p1, rfl, rfl⟩
      · exact ⟨_, _, _, rfl, rfl, (by simp only [uF_s, uF_n, ne_eq, Nat.reduceEqDiff, not_false_eq_true]), by decide, fun z => absurd z (by decide), CP9.cF (by first | rfl | simp only [uF_s, uF_n, uA_s, uA_n, ne_eq, Nat.reduceEqDiff, not_false_eq_true]) (by first | rfl | simp only [uF_s, uF_n, uA_s, uA_n, ne_eq, Nat.reduceEqDiff, not_false_eq_true]) (by first | rfl | simp only [uF_s, uF_n, uA_s, uA_n, ne_eq, Nat.reduceEqDiff, not_false_eq_true]) (by first | rfl | simp only [uF_s, uF_n, uA_s, uA_n, ne_eq, Nat.reduceEqDiff, not_false_eq_true]) (by first | exact r38 | (simp only [uF_s, uF_n, ne_eq, Nat.reduceEqDiff, not_false_eq_true]; exact r38)) (by first | rfl | simp only [uF_s, uF_n, uA_s, uA_n, ne_eq, Nat.reduceEqDiff, not_false_eq_true]) (by first | rfl | simp only [uF_s, uF_n, uA_s, uA_n, ne_eq, Nat.reduceEqDiff, not_false_eq_true]) (by first | rfl | simp only [uF_s, uF_n, uA_s, uA_n, ne_eq, Nat.reduceEqDiff, not_false_eq_true]) (by first | rfl | simp only [uF_s, uF_n, uA_s, uA_n, ne_eq, Nat.reduceEqDiff, not_false_eq_true]) C2⟩
      · first | exact absurd r1 p1 | exact absurd p1 r1 | exact absurd r2 p2 | exact absurd p2 r2 | (exfalso; omega) | (rw [r1] at p1; exact absurd p1 (by decide)) | (rw [r2] at p2; exact absurd p2 (by decide))
  obtain ⟨F2, A2, x2, rfl, rfl, rfl, hk, hx, C2⟩ := J
  rw [← P9_m]
  exact tail9 (x6 := none) (x2 := x2) (fun z => by rw [vv9_0 z, hx z]) hk dL_law_333 dL_law_335 dL_law_336 dL_law_339 dL_law_341 dL_law_346 dL_law_348 dL_law_351 dL_law_352 dL_law_353 dL_law_354 dL_law_356 dL_law_357 dL_law_358 dL_law_363 (by decide) ⟨hc1, hc2⟩ (gg_widen (k := cs.1 + 100) (n := cs.2 + 2000) (by show cs.1 + 60 + 0 ≤ cs.1 + 100; omega) (by show cs.2 + 1500 + 0 ≤ cs.2 + 2000; omega) (kk _ _ _ _ _ _ _ _ C2))
theorem st_readMetre {nm9 : String} {Γ : GT} {v : Nat → Int64} {w : Nat → UInt64} {ι : Nat → Option XE} {G : Nat → Int} {B : Nat → Int → Int} {F : Nat → Int} {A : Nat → Int → Int} {QF : List Frame → Array Value → State → State → Prop} {cs : Nat × Nat} {b : Nat} {i : Int} (hn : g_n Γ ≤ 2560) (hi : 0 ≤ i ∧ i + 5 ≤ g_n Γ) (C : CP9 ι G B F A b) (hcs : cs.1 + 100 ≤ room_1.cells ∧ cs.2 + 2000 ≤ room_1.slots)
    (kk : ∀ (v' : Nat → Int64) (w' : Nat → UInt64) (ι' : Nat → Option XE) (G' : Nat → Int) (B' : Nat → Int → Int) (F' : Nat → Int) (A' : Nat → Int → Int) (b' : Nat), CP9 ι' G' B' F' A' b' → GG Γ (M_law nm9) QF (cs.1 + 100, cs.2 + 2000) (P9 Γ v' w' ι' G' B' F' A') 2150 (LV9 Γ i none none) []) : GG Γ (M_law nm9) QF cs (P9 Γ v w ι G B F A) 366 (LV9 Γ i none none) [] := by
  obtain ⟨⟨i1, i2, i3, i4, i5⟩, ⟨e1, e2, e3⟩, p3⟩ := C.2.2.2.2.1
  have sta := C.m.sta
  have lna := C.m.lna
  have exa := C.m.exa
  have h5 : 0 ≤ F 5 ∧ F 5 ≤ 8 := C.2.2.1.1
  have h10 : InR (F 10) := ⟨by omega, by omega⟩
  have r38 := C.r38
  have t6 := C.m.2.2.2.2.2
  have hc1 : cs.1 + 60 ≤ room_1.cells := by have := hcs.1; omega
  have hc2 : cs.2 + 1500 ≤ room_1.slots := by have := hcs.2; omega
  refine gg_aload_n dL_law_366 rfl rfl ?_
  refine gg_aload_n dL_law_367 rfl rfl ?_
  refine gg_callSX (As := [.ref (g_L Γ 30), .ref (g_L Γ 24)]) (rest := []) mokh_L_readMetre (wi_10 _ (List.mem_of_getElem? (i := 15) rfl)) (wi_10 _ (List.mem_of_getElem? (i := 16) rfl)) dL_law_368 rfl ⟨(Nat.le_of_ble_eq_true rfl), (Nat.le_of_ble_eq_true rfl)⟩ ⟨Nat.le_trans (Nat.add_le_add_left ((Nat.le_of_ble_eq_true rfl) : (mR M_L_readMetre).cells ≤ 60) cs.1) hc1, Nat.le_trans (Nat.add_le_add_left ((Nat.le_of_ble_eq_true rfl) : (mR M_L_readMetre).slots ≤ 1500) cs.2) hc2⟩ (Nat.le_of_ble_eq_true rfl) (cw_readMetre (h := mst Γ (h9b v w, ι) F A) C (Eq.trans (mst_hi (by decide)) rfl) ) (fun _ _ z => z.elim) (fun r h' hp => ?_)
  obtain ⟨k, x, ι', G', B', b', rfl, rfl, hX, res⟩ := hp
  refine gg_widen (k := cs.1 + 60) (n := cs.2 + 1500) (Nat.add_le_add_left (Nat.le_of_ble_eq_true rfl) _) (Nat.add_le_add_left (Nat.le_of_ble_eq_true rfl) _) ?_
  rw [P9_wl (G := G) (B := B) (ι := ι)]
  change GG Γ (M_law nm9) QF (cs.1 + 60, cs.2 + 1500) (P9 Γ (vv9 v k x) w ι' G' B' F A) 371 (LV9 Γ i none none) [.int (iN k)]
  refine gg_istore dL_law_371 (Nat.le_of_ble_eq_true rfl) rfl ?_
  rw [P9_m]
  refine gg_aload_n dL_law_373 rfl rfl ?_
  refine gc_L_138 rfl dL_law_374 ⟨(Nat.le_of_ble_eq_true rfl), (Nat.le_of_ble_eq_true rfl)⟩ ⟨hc1, hc2⟩ (Nat.le_of_ble_eq_true rfl) (HAt.mu rfl) (c_X10_readMetre h5 i2 h10 i4) (fun _ _ z => z.elim) (fun r2 h2 hp2 => ?_)
  have J : ∃ (F2 : Nat → Int) (A2 : Nat → Int → Int) (x2 : Int), r2 = some (.int (iN x2)) ∧ h2 = mst Γ (gst Γ (h9b (vv9 v k x) w, ι') G' B') F2 A2 ∧ F2 0 = k ∧ (0 ≤ k ∧ k ≤ 3) ∧ (k = 0 → x2 = x) ∧ CP9 ι' G' B' F2 A2 b' := by
    rcases res with ⟨r1, rfl, rfl, C2⟩ | ⟨r1, rfl, C2⟩
    · rcases hp2 with ⟨p1, rfl, rfl⟩ | ⟨p1, p2, rfl, rfl⟩
      · first | exact absurd r1 p1 | exact absurd p1 r1 | exact absurd r2 p2 | exact absurd p2 r2 | (exfalso; omega) | (rw [r1] at p1; exact absurd p1 (by decide)) | (rw [r2] at p2; exact absurd p2 (by decide))
      · exact ⟨_, _, _, rfl, rfl, (by simp only [uF_s, uF_n, ne_eq, Nat.reduceEqDiff, not_false_eq_true]), by decide, fun _ => rfl, CP9.cF (by first | rfl | simp only [uF_s, uF_n, uA_s, uA_n, ne_eq, Nat.reduceEqDiff, not_false_eq_true]) (by first | rfl | simp only [uF_s, uF_n, uA_s, uA_n, ne_eq, Nat.reduceEqDiff, not_false_eq_true]) (by first | rfl | simp only [uF_s, uF_n, uA_s, uA_n, ne_eq, Nat.reduceEqDiff, not_false_eq_true]) (by first | rfl | simp only [uF_s, uF_n, uA_s, uA_n, ne_eq, Nat.reduceEqDiff, not_false_eq_true]) (by first | exact r38 | (simp only [uF_s, uF_n, ne_eq, Nat.reduceEqDiff, not_false_eq_true]; exact r38)) (by first | rfl | simp only [uF_s, uF_n, uA_s, uA_n, ne_eq, Nat.reduceEqDiff, not_false_eq_true]) (by first | rfl | simp only [uF_s, uF_n, uA_s, uA_n, ne_eq, Nat.reduceEqDiff, not_false_eq_true]) (by first | rfl | simp only [uF_s, uF_n, uA_s, uA_n, ne_eq, Nat.reduceEqDiff, not_false_eq_true]) (by first | rfl | simp only [uF_s, uF_n, uA_s, uA_n, ne_eq, Nat.reduceEqDiff, not_false_eq_true]) C2⟩
    · rcases hp2 with ⟨p1, rfl, rfl⟩ | ⟨p1, p2, rfl, rfl⟩
      · exact ⟨_, _, _, rfl, rfl, (by simp only [uF_s, uF_n, ne_eq, Nat.reduceEqDiff, not_false_eq_true]), by decide, fun z => absurd z (by decide), CP9.cF (by first | rfl | simp only [uF_s, uF_n, uA_s, uA_n, ne_eq, Nat.reduceEqDiff, not_false_eq_true]) (by first | rfl | simp only [uF_s, uF_n, uA_s, uA_n, ne_eq, Nat.reduceEqDiff, not_false_eq_true]) (by first | rfl | simp only [uF_s, uF_n, uA_s, uA_n, ne_eq, Nat.reduceEqDiff, not_false_eq_true]) (by first | rfl | simp only [uF_s, uF_n, uA_s, uA_n, ne_eq, Nat.reduceEqDiff, not_false_eq_true]) (by first | exact r38 | (simp only [uF_s, uF_n, ne_eq, Nat.reduceEqDiff, not_false_eq_true]; exact r38)) (by first | rfl | simp only [uF_s, uF_n, uA_s, uA_n, ne_eq, Nat.reduceEqDiff, not_false_eq_true]) (by first | rfl | simp only [uF_s, uF_n, uA_s, uA_n, ne_eq, Nat.reduceEqDiff, not_false_eq_true]) (by first | rfl | simp only [uF_s, uF_n, uA_s, uA_n, ne_eq, Nat.reduceEqDiff, not_false_eq_true]) (by first | rfl | simp only [uF_s, uF_n, uA_s, uA_n, ne_eq, Nat.reduceEqDiff, not_false_eq_true]) C2⟩
      · first | exact absurd r1 p1 | exact absurd p1 r1 | exact absurd r2 p2 | exact absurd p2 r2 | (exfalso; omega) | (rw [r1] at p1; exact absurd p1 (by decide)) | (rw [r2] at p2; exact absurd p2 (by decide))
  obtain ⟨F2, A2, x2, rfl, rfl, rfl, hk, hx, C2⟩ := J
  rw [← P9_m]
  exact tail9 (x6 := none) (x2 := x2) (fun z => by rw [vv9_0 z, hx z]) hk dL_law_377 dL_law_379 dL_law_380 dL_law_383 dL_law_385 dL_law_390 dL_law_392 dL_law_395 dL_law_396 dL_law_397 dL_law_398 dL_law_400 dL_law_401 dL_law_402 dL_law_407 (by decide) ⟨hc1, hc2⟩ (gg_widen (k := cs.1 + 100) (n := cs.2 + 2000) (by show cs.1 + 60 + 0 ≤ cs.1 + 100; omega) (by show cs.2 + 1500 + 0 ≤ cs.2 + 2000; omega) (kk _ _ _ _ _ _ _ _ C2))
theorem st_metre {nm9 : String} {Γ : GT} {v : Nat → Int64} {w : Nat → UInt64} {ι : Nat → Option XE} {G : Nat → Int} {B : Nat → Int → Int} {F : Nat → Int} {A : Nat → Int → Int} {QF : List Frame → Array Value → State → State → Prop} {cs : Nat × Nat} {b : Nat} {i : Int} (hn : g_n Γ ≤ 2560) (hi : 0 ≤ i ∧ i + 5 ≤ g_n Γ) (C : CP9 ι G B F A b) (hcs : cs.1 + 100 ≤ room_1.cells ∧ cs.2 + 2000 ≤ room_1.slots)
    (kk : ∀ (v' : Nat → Int64) (w' : Nat → UInt64) (ι' : Nat → Option XE) (G' : Nat → Int) (B' : Nat → Int → Int) (F' : Nat → Int) (A' : Nat → Int → Int) (b' : Nat), CP9 ι' G' B' F' A' b' → GG Γ (M_law nm9) QF (cs.1 + 100, cs.2 + 2000) (P9 Γ v' w' ι' G' B' F' A') 2150 (LV9 Γ i none none) []) : GG Γ (M_law nm9) QF cs (P9 Γ v w ι G B F A) 410 (LV9 Γ i none none) [] := by
  obtain ⟨⟨i1, i2, i3, i4, i5⟩, ⟨e1, e2, e3⟩, p3⟩ := C.2.2.2.2.1
  have sta := C.m.sta
  have lna := C.m.lna
  have exa := C.m.exa
  have h5 : 0 ≤ F 5 ∧ F 5 ≤ 8 := C.2.2.1.1
  have h10 : InR (F 10) := ⟨by omega, by omega⟩
  have r38 := C.r38
  have t6 := C.m.2.2.2.2.2
  have hc1 : cs.1 + 60 ≤ room_1.cells := by have := hcs.1; omega
  have hc2 : cs.2 + 1500 ≤ room_1.slots := by have := hcs.2; omega
  refine gg_aload_n dL_law_410 rfl rfl ?_
  refine g5 (k := 1) hn rfl rfl hi (by decide) dL_law_411 dL_law_412 dL_law_414 dL_law_415 dL_law_416 ?_
  refine gg_aload_n dL_law_417 rfl rfl ?_
  refine gg_callSX (As := [.ref (g_L Γ 30), .int (iN (sx Γ (i + 1))), .ref (g_L Γ 24)]) (rest := []) mokh_L_metre (wi_15 _ (List.mem_of_getElem? (i := 20) rfl)) (wi_15 _ (List.mem_of_getElem? (i := 21) rfl)) dL_law_418 rfl ⟨(Nat.le_of_ble_eq_true rfl), (Nat.le_of_ble_eq_true rfl)⟩ ⟨Nat.le_trans (Nat.add_le_add_left ((Nat.le_of_ble_eq_true rfl) : (mR M_L_metre).cells ≤ 60) cs.1) hc1, Nat.le_trans (Nat.add_le_add_left ((Nat.le_of_ble_eq_true rfl) : (mR M_L_metre).slots ≤ 1500) cs.2) hc2⟩ (Nat.le_of_ble_eq_true rfl) (cw_metre (h := mst Γ (h9b v w, ι) F A) C (Eq.trans (mst_hi (by decide)) rfl) (sx_r Γ _)) (fun _ _ z => z.elim) (fun r h' hp => ?_)
  obtain ⟨k, x, ι', G', B', b', rfl, rfl, hX, res⟩ := hp
  refine gg_widen (k := cs.1 + 60) (n := cs.2 + 1500) (Nat.add_le_add_left (Nat.le_of_ble_eq_true rfl) _) (Nat.add_le_add_left (Nat.le_of_ble_eq_true rfl) _) ?_
  rw [P9_wl (G := G) (B := B) (ι := ι)]
  change GG Γ (M_law nm9) QF (cs.1 + 60, cs.2 + 1500) (P9 Γ (vv9 v k x) w ι' G' B' F A) 421 (LV9 Γ i none none) [.int (iN k)]
  refine gg_istore dL_law_421 (Nat.le_of_ble_eq_true rfl) rfl ?_
  rw [P9_m]
  refine gg_aload_n dL_law_423 rfl rfl ?_
  refine g5 (k := 1) hn rfl rfl hi (by decide) dL_law_424 dL_law_425 dL_law_427 dL_law_428 dL_law_429 ?_
  refine gc_L_142 rfl dL_law_430 ⟨(Nat.le_of_ble_eq_true rfl), (Nat.le_of_ble_eq_true rfl)⟩ ⟨hc1, hc2⟩ (Nat.le_of_ble_eq_true rfl) (HAt.mu rfl) (c_X10_metre sta (sx_r Γ _)) (fun _ _ z => z.elim) (fun r2 h2 hp2 => ?_)
  have J : ∃ (F2 : Nat → Int) (A2 : Nat → Int → Int) (x2 : Int), r2 = some (.int (iN x2)) ∧ h2 = mst Γ (gst Γ (h9b (vv9 v k x) w, ι') G' B') F2 A2 ∧ F2 0 = k ∧ (0 ≤ k ∧ k ≤ 3) ∧ (k = 0 → x2 = x) ∧ CP9 ι' G' B' F2 A2 b' := by
    rcases res with ⟨r1, rfl, rfl, C2⟩ | ⟨r1, rfl, C2⟩
    · rcases hp2 with ⟨p1, rfl, rfl⟩ | ⟨p1, rfl, rfl⟩
      · first | exact absurd r1 p1 | exact absurd p1 r1 | exact absurd r2 p2 | exact absurd p2 r2 | (exfalso; omega) | (rw [r1] at p1; exact absurd p1 (by decide)) | (rw [r2] at p2; exact absurd p2 (by decide))
      · exact ⟨_, _, _, rfl, rfl, (by simp only [uF_s, uF_n, ne_eq, Nat.reduceEqDiff, not_false_eq_true]), by decide, fun _ => mtV_ref r1, CP9.cF (by first | rfl | simp only [uF_s, uF_n, uA_s, uA_n, ne_eq, Nat.reduceEqDiff, not_false_eq_true]) (by first | rfl | simp only [uF_s, uF_n, uA_s, uA_n, ne_eq, Nat.reduceEqDiff, not_false_eq_true]) (by first | rfl | simp only [uF_s, uF_n, uA_s, uA_n, ne_eq, Nat.reduceEqDiff, not_false_eq_true]) (by first | rfl | simp only [uF_s, uF_n, uA_s, uA_n, ne_eq, Nat.reduceEqDiff, not_false_eq_true]) (by first | exact r38 | (simp only [uF_s, uF_n, ne_eq, Nat.reduceEqDiff, not_false_eq_true]; exact r38)) (by first | rfl | simp only [uF_s, uF_n, uA_s, uA_n, ne_eq, Nat.reduceEqDiff, not_false_eq_true]) (by first | rfl | simp only [uF_s, uF_n, uA_s, uA_n, ne_eq, Nat.reduceEqDiff, not_false_eq_true]) (by first | rfl | simp only [uF_s, uF_n, uA_s, uA_n, ne_eq, Nat.reduceEqDiff, not_false_eq_true]) (by first | rfl | simp only [uF_s, uF_n, uA_s, uA_n, ne_eq, Nat.reduceEqDiff, not_false_eq_true]) C2⟩
    · rcases hp2 with ⟨p1, rfl, rfl⟩ | ⟨p1, rfl, rfl⟩
      · exact ⟨_, _, _, rfl, rfl, (by simp only [uF_s, uF_n, ne_eq, Nat.reduceEqDiff, not_false_eq_true]), by decide, fun z => absurd z (by decide), CP9.cF (by first | rfl | simp only [uF_s, uF_n, uA_s, uA_n, ne_eq, Nat.reduceEqDiff, not_false_eq_true]) (by first | rfl | simp only [uF_s, uF_n, uA_s, uA_n, ne_eq, Nat.reduceEqDiff, not_false_eq_true]) (by first | rfl | simp only [uF_s, uF_n, uA_s, uA_n, ne_eq, Nat.reduceEqDiff, not_false_eq_true]) (by first | rfl | simp only [uF_s, uF_n, uA_s, uA_n, ne_eq, Nat.reduceEqDiff, not_false_eq_true]) (by first | exact r38 | (simp only [uF_s, uF_n, ne_eq, Nat.reduceEqDiff, not_false_eq_true]; exact r38)) (by first | rfl | simp only [uF_s, uF_n, uA_s, uA_n, ne_eq, Nat.reduceEqDiff, not_false_eq_true]) (by first | rfl | simp only [uF_s, uF_n, uA_s, uA_n, ne_eq, Nat.reduceEqDiff, not_false_eq_true]) (by first | rfl | simp only [uF_s, uF_n, uA_s, uA_n, ne_eq, Nat.reduceEqDiff, not_false_eq_true]) (by first | rfl | simp only [uF_s, uF_n, uA_s, uA_n, ne_eq, Nat.reduceEqDiff, not_false_eq_true]) C2⟩
      · first | exact absurd r1 p1 | exact absurd p1 r1 | exact absurd r2 p2 | exact absurd p2 r2 | (exfalso; omega) | (rw [r1] at p1; exact absurd p1 (by decide)) | (rw [r2] at p2; exact absurd p2 (by decide))
  obtain ⟨F2, A2, x2, rfl, rfl, rfl, hk, hx, C2⟩ := J
  rw [← P9_m]
  exact tail9 (x6 := none) (x2 := x2) (fun z => by rw [vv9_0 z, hx z]) hk dL_law_433 dL_law_435 dL_law_436 dL_law_439 dL_law_441 dL_law_446 dL_law_448 dL_law_451 dL_law_452 dL_law_453 dL_law_454 dL_law_456 dL_law_457 dL_law_458 dL_law_463 (by decide) ⟨hc1, hc2⟩ (gg_widen (k := cs.1 + 100) (n := cs.2 + 2000) (by show cs.1 + 60 + 0 ≤ cs.1 + 100; omega) (by show cs.2 + 1500 + 0 ≤ cs.2 + 2000; omega) (kk _ _ _ _ _ _ _ _ C2))
theorem st_setTolerance {nm9 : String} {Γ : GT} {v : Nat → Int64} {w : Nat → UInt64} {ι : Nat → Option XE} {G : Nat → Int} {B : Nat → Int → Int} {F : Nat → Int} {A : Nat → Int → Int} {QF : List Frame → Array Value → State → State → Prop} {cs : Nat × Nat} {b : Nat} {i : Int} (hn : g_n Γ ≤ 2560) (hi : 0 ≤ i ∧ i + 5 ≤ g_n Γ) (C : CP9 ι G B F A b) (hcs : cs.1 + 100 ≤ room_1.cells ∧ cs.2 + 2000 ≤ room_1.slots)
    (kk : ∀ (v' : Nat → Int64) (w' : Nat → UInt64) (ι' : Nat → Option XE) (G' : Nat → Int) (B' : Nat → Int → Int) (F' : Nat → Int) (A' : Nat → Int → Int) (b' : Nat), CP9 ι' G' B' F' A' b' → GG Γ (M_law nm9) QF (cs.1 + 100, cs.2 + 2000) (P9 Γ v' w' ι' G' B' F' A') 2150 (LV9 Γ i none none) []) : GG Γ (M_law nm9) QF cs (P9 Γ v w ι G B F A) 466 (LV9 Γ i none none) [] := by
  obtain ⟨⟨i1, i2, i3, i4, i5⟩, ⟨e1, e2, e3⟩, p3⟩ := C.2.2.2.2.1
  have sta := C.m.sta
  have lna := C.m.lna
  have exa := C.m.exa
  have h5 : 0 ≤ F 5 ∧ F 5 ≤ 8 := C.2.2.1.1
  have h10 : InR (F 10) := ⟨by omega, by omega⟩
  have r38 := C.r38
  have t6 := C.m.2.2.2.2.2
  have hc1 : cs.1 + 60 ≤ room_1.cells := by have := hcs.1; omega
  have hc2 : cs.2 + 1500 ≤ room_1.slots := by have := hcs.2; omega
  refine gg_aload_n dL_law_466 rfl rfl ?_
  refine g5 (k := 1) hn rfl rfl hi (by decide) dL_law_467 dL_law_468 dL_law_470 dL_law_471 dL_law_472 ?_
  refine gg_aload_n dL_law_473 rfl rfl ?_
  refine gg_callSX (As := [.ref (g_L Γ 30), .int (iN (sx Γ (i + 1))), .ref (g_L Γ 24)]) (rest := []) mokh_L_setTolerance (wi_16 _ (List.mem_of_getElem? (i := 11) rfl)) (wi_16 _ (List.mem_of_getElem? (i := 12) rfl)) dL_law_474 rfl ⟨(Nat.le_of_ble_eq_true rfl), (Nat.le_of_ble_eq_true rfl)⟩ ⟨Nat.le_trans (Nat.add_le_add_left ((Nat.le_of_ble_eq_true rfl) : (mR M_L_setTolerance).cells ≤ 60) cs.1) hc1, Nat.le_trans (Nat.add_le_add_left ((Nat.le_of_ble_eq_true rfl) : (mR M_L_setTolerance).slots ≤ 1500) cs.2) hc2⟩ (Nat.le_of_ble_eq_true rfl) (cw_setTolerance (h := mst Γ (h9b v w, ι) F A) C (Eq.trans (mst_hi (by decide)) rfl) (sx_r Γ _)) (fun _ _ z => z.elim) (fun r h' hp => ?_)
  obtain ⟨k, x, ι', G', B', b', rfl, rfl, hX, res⟩ := hp
  refine gg_widen (k := cs.1 + 60) (n := cs.2 + 1500) (Nat.add_le_add_left (Nat.le_of_ble_eq_true rfl) _) (Nat.add_le_add_left (Nat.le_of_ble_eq_true rfl) _) ?_
  rw [P9_wl (G := G) (B := B) (ι := ι)]
  change GG Γ (M_law nm9) QF (cs.1 + 60, cs.2 + 1500) (P9 Γ (vv9 v k x) w ι' G' B' F A) 477 (LV9 Γ i none none) [.int (iN k)]
  refine gg_istore dL_law_477 (Nat.le_of_ble_eq_true rfl) rfl ?_
  rw [P9_m]
  refine gg_aload_n dL_law_479 rfl rfl ?_
  refine g5 (k := 1) hn rfl rfl hi (by decide) dL_law_480 dL_law_481 dL_law_483 dL_law_484 dL_law_485 ?_
  refine gc_L_145 rfl dL_law_486 ⟨(Nat.le_of_ble_eq_true rfl), (Nat.le_of_ble_eq_true rfl)⟩ ⟨hc1, hc2⟩ (Nat.le_of_ble_eq_true rfl) (HAt.mu rfl) (c_X10_setTolerance h5 (sx_r Γ _)) (fun _ _ z => z.elim) (fun r2 h2 hp2 => ?_)
  have J : ∃ (F2 : Nat → Int) (A2 : Nat → Int → Int) (x2 : Int), r2 = some (.int (iN x2)) ∧ h2 = mst Γ (gst Γ (h9b (vv9 v k x) w, ι') G' B') F2 A2 ∧ F2 0 = k ∧ (0 ≤ k ∧ k ≤ 3) ∧ (k = 0 → x2 = x) ∧ CP9 ι' G' B' F2 A2 b' := by
    rcases res with ⟨r1, rfl, rfl, C2⟩ | ⟨r1, rfl, C2⟩
    · rcases hp2 with ⟨p1, rfl, rfl⟩ | ⟨p1, rfl, rfl⟩
      · first | exact absurd r1 p1 | exact absurd p1 r1 | exact absurd r2 p2 | exact absurd p2 r2 | (exfalso; omega) | (rw [r1] at p1; exact absurd p1 (by decide)) | (rw [r2] at p2; exact absurd p2 (by decide))
      · exact ⟨_, _, _, rfl, rfl, (by simp only [uF_s, uF_n, ne_eq, Nat.reduceEqDiff, not_false_eq_true]), by decide, fun _ => rfl, CP9.cF (by first | rfl | simp only [uF_s, uF_n, uA_s, uA_n, ne_eq, Nat.reduceEqDiff, not_false_eq_true]) (by first | rfl | simp only [uF_s, uF_n, uA_s, uA_n, ne_eq, Nat.reduceEqDiff, not_false_eq_true]) (by first | rfl | simp only [uF_s, uF_n, uA_s, uA_n, ne_eq, Nat.reduceEqDiff, not_false_eq_true]) (by first | rfl | simp only [uF_s, uF_n, uA_s, uA_n, ne_eq, Nat.reduceEqDiff, not_false_eq_true]) (by first | exact r38 | (simp only [uF_s, uF_n, ne_eq, Nat.reduceEqDiff, not_false_eq_true]; exact r38)) (by first | rfl | simp only [uF_s, uF_n, uA_s, uA_n, ne_eq, Nat.reduceEqDiff, not_false_eq_true]) (by first | rfl | simp only [uF_s, uF_n, uA_s, uA_n, ne_eq, Nat.reduceEqDiff, not_false_eq_true]) (by first | rfl | simp only [uF_s, uF_n, uA_s, uA_n, ne_eq, Nat.reduceEqDiff, not_false_eq_true]) (by first | rfl | simp only [uF_s, uF_n, uA_s, uA_n, ne_eq, Nat.reduceEqDiff, not_false_eq_true]) C2⟩
    · rcases hp2 with ⟨p1, rfl, rfl⟩ | ⟨p1, rfl, rfl⟩
      · exact ⟨_, _, _, rfl, rfl, (by simp only [uF_s, uF_n, ne_eq, Nat.reduceEqDiff, not_false_eq_true]), by decide, fun z => absurd z (by decide), CP9.cF (by first | rfl | simp only [uF_s, uF_n, uA_s, uA_n, ne_eq, Nat.reduceEqDiff, not_false_eq_true]) (by first | rfl | simp only [uF_s, uF_n, uA_s, uA_n, ne_eq, Nat.reduceEqDiff, not_false_eq_true]) (by first | rfl | simp only [uF_s, uF_n, uA_s, uA_n, ne_eq, Nat.reduceEqDiff, not_false_eq_true]) (by first | rfl | simp only [uF_s, uF_n, uA_s, uA_n, ne_eq, Nat.reduceEqDiff, not_false_eq_true]) (by first | exact r38 | (simp only [uF_s, uF_n, ne_eq, Nat.reduceEqDiff, not_false_eq_true]; exact r38)) (by first | rfl | simp only [uF_s, uF_n, uA_s, uA_n, ne_eq, Nat.reduceEqDiff, not_false_eq_true]) (by first | rfl | simp only [uF_s, uF_n, uA_s, uA_n, ne_eq, Nat.reduceEqDiff, not_false_eq_true]) (by first | rfl | simp only [uF_s, uF_n, uA_s, uA_n, ne_eq, Nat.reduceEqDiff, not_false_eq_true]) (by first | rfl | simp only [uF_s, uF_n, uA_s, uA_n, ne_eq, Nat.reduceEqDiff, not_false_eq_true]) C2⟩
      · first | exact absurd r1 p1 | exact absurd p1 r1 | exact absurd r2 p2 | exact absurd p2 r2 | (exfalso; omega) | (rw [r1] at p1; exact absurd p1 (by decide)) | (rw [r2] at p2; exact absurd p2 (by decide))
  obtain ⟨F2, A2, x2, rfl, rfl, rfl, hk, hx, C2⟩ := J
  rw [← P9_m]
  exact tail9 (x6 := none) (x2 := x2) (fun z => by rw [vv9_0 z, hx z]) hk dL_law_489 dL_law_491 dL_law_492 dL_law_495 dL_law_497 dL_law_502 dL_law_504 dL_law_507 dL_law_508 dL_law_509 dL_law_510 dL_law_512 dL_law_513 dL_law_514 dL_law_519 (by decide) ⟨hc1, hc2⟩ (gg_widen (k := cs.1 + 100) (n := cs.2 + 2000) (by show cs.1 + 60 + 0 ≤ cs.1 + 100; omega) (by show cs.2 + 1500 + 0 ≤ cs.2 + 2000; omega) (kk _ _ _ _ _ _ _ _ C2))
theorem st_readException {nm9 : String} {Γ : GT} {v : Nat → Int64} {w : Nat → UInt64} {ι : Nat → Option XE} {G : Nat → Int} {B : Nat → Int → Int} {F : Nat → Int} {A : Nat → Int → Int} {QF : List Frame → Array Value → State → State → Prop} {cs : Nat × Nat} {b : Nat} {i : Int} (hn : g_n Γ ≤ 2560) (hi : 0 ≤ i ∧ i + 5 ≤ g_n Γ) (C : CP9 ι G B F A b) (hcs : cs.1 + 100 ≤ room_1.cells ∧ cs.2 + 2000 ≤ room_1.slots)
    (kk : ∀ (v' : Nat → Int64) (w' : Nat → UInt64) (ι' : Nat → Option XE) (G' : Nat → Int) (B' : Nat → Int → Int) (F' : Nat → Int) (A' : Nat → Int → Int) (b' : Nat), CP9 ι' G' B' F' A' b' → GG Γ (M_law nm9) QF (cs.1 + 100, cs.2 + 2000) (P9 Γ v' w' ι' G' B' F' A') 2150 (LV9 Γ i none none) []) : GG Γ (M_law nm9) QF cs (P9 Γ v w ι G B F A) 522 (LV9 Γ i none none) [] := by
  obtain ⟨⟨i1, i2, i3, i4, i5⟩, ⟨e1, e2, e3⟩, p3⟩ := C.2.2.2.2.1
  have sta := C.m.sta
  have lna := C.m.lna
  have exa := C.m.exa
  have h5 : 0 ≤ F 5 ∧ F 5 ≤ 8 := C.2.2.1.1
  have h10 : InR (F 10) := ⟨by omega, by omega⟩
  have r38 := C.r38
  have t6 := C.m.2.2.2.2.2
  have hc1 : cs.1 + 60 ≤ room_1.cells := by have := hcs.1; omega
  have hc2 : cs.2 + 1500 ≤ room_1.slots := by have := hcs.2; omega
  refine gg_aload_n dL_law_522 rfl rfl ?_
  refine gg_aload_n dL_law_523 rfl rfl ?_
  refine gg_callSX (As := [.ref (g_L Γ 30), .ref (g_L Γ 24)]) (rest := []) mokh_L_readException (wi_16 _ (List.mem_of_getElem? (i := 23) rfl)) (wi_17 _ (List.mem_of_getElem? (i := 0) rfl)) dL_law_524 rfl ⟨(Nat.le_of_ble_eq_true rfl), (Nat.le_of_ble_eq_true rfl)⟩ ⟨Nat.le_trans (Nat.add_le_add_left ((Nat.le_of_ble_eq_true rfl) : (mR M_L_readException).cells ≤ 60) cs.1) hc1, Nat.le_trans (Nat.add_le_add_left ((Nat.le_of_ble_eq_true rfl) : (mR M_L_readException).slots ≤ 1500) cs.2) hc2⟩ (Nat.le_of_ble_eq_true rfl) (cw_readException (h := mst Γ (h9b v w, ι) F A) C (Eq.trans (mst_hi (by decide)) rfl) rfl) (fun _ _ z => z.elim) (fun r h' hp => ?_)
  obtain ⟨k, x, ι', G', B', b', rfl, rfl, hX, res⟩ := hp
  refine gg_widen (k := cs.1 + 60) (n := cs.2 + 1500) (Nat.add_le_add_left (Nat.le_of_ble_eq_true rfl) _) (Nat.add_le_add_left (Nat.le_of_ble_eq_true rfl) _) ?_
  rw [P9_wl (G := G) (B := B) (ι := ι)]
  change GG Γ (M_law nm9) QF (cs.1 + 60, cs.2 + 1500) (P9 Γ (vv9 v k x) w ι' G' B' F A) 527 (LV9 Γ i none none) [.int (iN k)]
  refine gg_istore dL_law_527 (Nat.le_of_ble_eq_true rfl) rfl ?_
  rw [P9_m]
  refine gg_aload_n dL_law_529 rfl rfl ?_
  refine gc_L_148 rfl dL_law_530 ⟨(Nat.le_of_ble_eq_true rfl), (Nat.le_of_ble_eq_true rfl)⟩ ⟨hc1, hc2⟩ (Nat.le_of_ble_eq_true rfl) (HAt.mu rfl) (c_X10_readException sta h5 i2 h10 i4 i5 rfl) (fun _ _ z => z.elim) (fun r2 h2 hp2 => ?_)
  have J : ∃ (F2 : Nat → Int) (A2 : Nat → Int → Int) (x2 : Int), r2 = some (.int (iN x2)) ∧ h2 = mst Γ (gst Γ (h9b (vv9 v k x) w, ι') G' B') F2 A2 ∧ F2 0 = k ∧ (0 ≤ k ∧ k ≤ 3) ∧ (k = 0 → x2 = x) ∧ CP9 ι' G' B' F2 A2 b' := by
    obtain ⟨m, hp2⟩ := hp2
    have er := exO_r (a := A 1) (r := A 5) (fr := 0) (n := wlen (A 5) (F 8) 12 0) sta.2.2.2.2.1.1
    have x4 := sta.2.2.2.2.1
    have en : (if exO (A 1) (A 5) 0 (wlen (A 5) (F 8) 12 0) < 0 then A 1 4 else exO (A 1) (A 5) 0 (wlen (A 5) (F 8) 12 0)) = (if exO (A 1) (A 5) 0 (wlen (A 5) (F 8) 12 0) = -1 then A 1 4 else exO (A 1) (A 5) 0 (wlen (A 5) (F 8) 12 0)) := by
      rcases er with q | q
      · rw [if_pos (by omega), if_pos q]
      · rw [if_neg (by omega), if_neg (by omega)]
    rcases res with ⟨r1, r2, rfl, rfl, C2⟩ | ⟨r1, rfl, C2⟩ | ⟨r1, r2, rfl, C2⟩
    · rcases hp2 with ⟨p1, rfl, rfl⟩ | ⟨p1, pm, p2, p3, rfl, rfl⟩ | ⟨p1, pm, p2, rfl, rfl⟩
      · exact absurd r1 p1
      · (exfalso; rw [← en, if_pos p2] at r2; omega)
      · (rw [en]; exact ⟨_, _, _, rfl, rfl, (by simp only [uF_s, uF_n, ne_eq, Nat.reduceEqDiff, not_false_eq_true]), by decide, fun _ => rfl, CP9.cF (by first | rfl | simp only [uF_s, uF_n, uA_s, uA_n, ne_eq, Nat.reduceEqDiff, not_false_eq_true]) (by first | rfl | simp only [uF_s, uF_n, uA_s, uA_n, ne_eq, Nat.reduceEqDiff, not_false_eq_true]) (by first | rfl | simp only [uF_s, uF_n, uA_s, uA_n, ne_eq, Nat.reduceEqDiff, not_false_eq_true]) (by first | rfl | simp only [uF_s, uF_n, uA_s, uA_n, ne_eq, Nat.reduceEqDiff, not_false_eq_true]) (by first | exact r38 | (simp only [uF_s, uF_n, ne_eq, Nat.reduceEqDiff, not_false_eq_true]; exact r38)) (by first | rfl | simp only [uF_s, uF_n, uA_s, uA_n, ne_eq, Nat.reduceEqDiff, not_false_eq_true]) (by first | rfl | simp only [uF_s, uF_n, uA_s, uA_n, ne_eq, Nat.reduceEqDiff, not_false_eq_true]) (by first | rfl | simp only [uF_s, uF_n, uA_s, uA_n, ne_eq, Nat.reduceEqDiff, not_false_eq_true]) (by first | rfl | simp only [uF_s, uF_n, uA_s, uA_n, ne_eq, Nat.reduceEqDiff, not_false_eq_true]) (C2 m pm)⟩)
    · rcases hp2 with ⟨p1, rfl, rfl⟩ | ⟨p1, pm, p2, p3, rfl, rfl⟩ | ⟨p1, pm, p2, rfl, rfl⟩
      · exact ⟨_, _, _, rfl, rfl, (by simp only [uF_s, uF_n, ne_eq, Nat.reduceEqDiff, not_false_eq_true]), by decide, fun z => absurd z (by decide), CP9.cF (by first | rfl | simp only [uF_s, uF_n, uA_s, uA_n, ne_eq, Nat.reduceEqDiff, not_false_eq_true]) (by first | rfl | simp only [uF_s, uF_n, uA_s, uA_n, ne_eq, Nat.reduceEqDiff, not_false_eq_true]) (by first | rfl | simp only [uF_s, uF_n, uA_s, uA_n, ne_eq, Nat.reduceEqDiff, not_false_eq_true]) (by first | rfl | simp only [uF_s, uF_n, uA_s, uA_n, ne_eq, Nat.reduceEqDiff, not_false_eq_true]) (by first | exact r38 | (simp only [uF_s, uF_n, ne_eq, Nat.reduceEqDiff, not_false_eq_true]; exact r38)) (by first | rfl | simp only [uF_s, uF_n, uA_s, uA_n, ne_eq, Nat.reduceEqDiff, not_false_eq_true]) (by first | rfl | simp only [uF_s, uF_n, uA_s, uA_n, ne_eq, Nat.reduceEqDiff, not_false_eq_true]) (by first | rfl | simp only [uF_s, uF_n, uA_s, uA_n, ne_eq, Nat.reduceEqDiff, not_false_eq_true]) (by first | rfl | simp only [uF_s, uF_n, uA_s, uA_n, ne_eq, Nat.reduceEqDiff, not_false_eq_true]) C2⟩
      · exact absurd p1 r1
      · exact absurd p1 r1
    · rcases hp2 with ⟨p1, rfl, rfl⟩ | ⟨p1, pm, p2, p3, rfl, rfl⟩ | ⟨p1, pm, p2, rfl, rfl⟩
      · exact absurd r1 p1
      · exact ⟨_, _, _, rfl, rfl, (by simp only [uF_s, uF_n, ne_eq, Nat.reduceEqDiff, not_false_eq_true]), by decide, fun z => absurd z (by decide), CP9.cF (by first | rfl | simp only [uF_s, uF_n, uA_s, uA_n, ne_eq, Nat.reduceEqDiff, not_false_eq_true]) (by first | rfl | simp only [uF_s, uF_n, uA_s, uA_n, ne_eq, Nat.reduceEqDiff, not_false_eq_true]) (by first | rfl | simp only [uF_s, uF_n, uA_s, uA_n, ne_eq, Nat.reduceEqDiff, not_false_eq_true]) (by first | rfl | simp only [uF_s, uF_n, uA_s, uA_n, ne_eq, Nat.reduceEqDiff, not_false_eq_true]) (by first | exact r38 | (simp only [uF_s, uF_n, ne_eq, Nat.reduceEqDiff, not_false_eq_true]; exact r38)) (by first | rfl | simp only [uF_s, uF_n, uA_s, uA_n, ne_eq, Nat.reduceEqDiff, not_false_eq_true]) (by first | rfl | simp only [uF_s, uF_n, uA_s, uA_n, ne_eq, Nat.reduceEqDiff, not_false_eq_true]) (by first | rfl | simp only [uF_s, uF_n, uA_s, uA_n, ne_eq, Nat.reduceEqDiff, not_false_eq_true]) (by first | rfl | simp only [uF_s, uF_n, uA_s, uA_n, ne_eq, Nat.reduceEqDiff, not_false_eq_true]) C2⟩
      · (exfalso; rw [← en] at r2; rcases p2 with q | q; (rw [if_neg (by omega)] at r2; omega); (split at r2 <;> omega))
  obtain ⟨F2, A2, x2, rfl, rfl, rfl, hk, hx, C2⟩ := J
  rw [← P9_m]
  exact tail9 (x6 := none) (x2 := x2) (fun z => by rw [vv9_0 z, hx z]) hk dL_law_533 dL_law_535 dL_law_536 dL_law_539 dL_law_541 dL_law_546 dL_law_548 dL_law_551 dL_law_552 dL_law_553 dL_law_554 dL_law_556 dL_law_557 dL_law_558 dL_law_563 (by decide) ⟨hc1, hc2⟩ (gg_widen (k := cs.1 + 100) (n := cs.2 + 2000) (by show cs.1 + 60 + 0 ≤ cs.1 + 100; omega) (by show cs.2 + 1500 + 0 ≤ cs.2 + 2000; omega) (kk _ _ _ _ _ _ _ _ C2))
theorem st_dropException {nm9 : String} {Γ : GT} {v : Nat → Int64} {w : Nat → UInt64} {ι : Nat → Option XE} {G : Nat → Int} {B : Nat → Int → Int} {F : Nat → Int} {A : Nat → Int → Int} {QF : List Frame → Array Value → State → State → Prop} {cs : Nat × Nat} {b : Nat} {i : Int} (hn : g_n Γ ≤ 2560) (hi : 0 ≤ i ∧ i + 5 ≤ g_n Γ) (C : CP9 ι G B F A b) (hcs : cs.1 + 100 ≤ room_1.cells ∧ cs.2 + 2000 ≤ room_1.slots)
    (kk : ∀ (v' : Nat → Int64) (w' : Nat → UInt64) (ι' : Nat → Option XE) (G' : Nat → Int) (B' : Nat → Int → Int) (F' : Nat → Int) (A' : Nat → Int → Int) (b' : Nat), CP9 ι' G' B' F' A' b' → GG Γ (M_law nm9) QF (cs.1 + 100, cs.2 + 2000) (P9 Γ v' w' ι' G' B' F' A') 2150 (LV9 Γ i none none) []) : GG Γ (M_law nm9) QF cs (P9 Γ v w ι G B F A) 566 (LV9 Γ i none none) [] := by
  obtain ⟨⟨i1, i2, i3, i4, i5⟩, ⟨e1, e2, e3⟩, p3⟩ := C.2.2.2.2.1
  have sta := C.m.sta
  have lna := C.m.lna
  have exa := C.m.exa
  have h5 : 0 ≤ F 5 ∧ F 5 ≤ 8 := C.2.2.1.1
  have h10 : InR (F 10) := ⟨by omega, by omega⟩
  have r38 := C.r38
  have t6 := C.m.2.2.2.2.2
  have hc1 : cs.1 + 60 ≤ room_1.cells := by have := hcs.1; omega
  have hc2 : cs.2 + 1500 ≤ room_1.slots := by have := hcs.2; omega
  refine gg_aload_n dL_law_566 rfl rfl ?_
  refine g5 (k := 1) hn rfl rfl hi (by decide) dL_law_567 dL_law_568 dL_law_570 dL_law_571 dL_law_572 ?_
  refine gg_aload_n dL_law_573 rfl rfl ?_
  refine gg_callSX (As := [.ref (g_L Γ 30), .int (iN (sx Γ (i + 1))), .ref (g_L Γ 24)]) (rest := []) mokh_L_dropException (wi_23 _ (List.mem_of_getElem? (i := 4) rfl)) (wi_23 _ (List.mem_of_getElem? (i := 5) rfl)) dL_law_574 rfl ⟨(Nat.le_of_ble_eq_true rfl), (Nat.le_of_ble_eq_true rfl)⟩ ⟨Nat.le_trans (Nat.add_le_add_left ((Nat.le_of_ble_eq_true rfl) : (mR M_L_dropException).cells ≤ 60) cs.1) hc1, Nat.le_trans (Nat.add_le_add_left ((Nat.le_of_ble_eq_true rfl) : (mR M_L_dropException).slots ≤ 1500) cs.2) hc2⟩ (Nat.le_of_ble_eq_true rfl) (cw_dropException (h := mst Γ (h9b v w, ι) F A) C (Eq.trans (mst_hi (by decide)) rfl) (sx_r Γ _)) (fun _ _ z => z.elim) (fun r h' hp => ?_)
  obtain ⟨k, x, ι', G', B', b', rfl, rfl, hX, res⟩ := hp
  refine gg_widen (k := cs.1 + 60) (n := cs.2 + 1500) (Nat.add_le_add_left (Nat.le_of_ble_eq_true rfl) _) (Nat.add_le_add_left (Nat.le_of_ble_eq_true rfl) _) ?_
  rw [P9_wl (G := G) (B := B) (ι := ι)]
  change GG Γ (M_law nm9) QF (cs.1 + 60, cs.2 + 1500) (P9 Γ (vv9 v k x) w ι' G' B' F A) 577 (LV9 Γ i none none) [.int (iN k)]
  refine gg_istore dL_law_577 (Nat.le_of_ble_eq_true rfl) rfl ?_
  rw [P9_m]
  refine gg_aload_n dL_law_579 rfl rfl ?_
  refine g5 (k := 1) hn rfl rfl hi (by decide) dL_law_580 dL_law_581 dL_law_583 dL_law_584 dL_law_585 ?_
  refine gc_L_151 rfl dL_law_586 ⟨(Nat.le_of_ble_eq_true rfl), (Nat.le_of_ble_eq_true rfl)⟩ ⟨hc1, hc2⟩ (Nat.le_of_ble_eq_true rfl) (HAt.mu rfl) (c_X10_dropException sta h5 (sx_r Γ _)) (fun _ _ z => z.elim) (fun r2 h2 hp2 => ?_)
  have J : ∃ (F2 : Nat → Int) (A2 : Nat → Int → Int) (x2 : Int), r2 = some (.int (iN x2)) ∧ h2 = mst Γ (gst Γ (h9b (vv9 v k x) w, ι') G' B') F2 A2 ∧ F2 0 = k ∧ (0 ≤ k ∧ k ≤ 3) ∧ (k = 0 → x2 = x) ∧ CP9 ι' G' B' F2 A2 b' := by
    rcases res with ⟨r1, rfl, rfl, C2⟩ | ⟨r1, rfl, C2⟩
    · rcases hp2 with ⟨p1, rfl, rfl⟩ | ⟨p1, rfl, rfl⟩
      · first | exact absurd r1 p1 | exact absurd p1 r1 | exact absurd r2 p2 | exact absurd p2 r2 | (exfalso; omega) | (rw [r1] at p1; exact absurd p1 (by decide)) | (rw [r2] at p2; exact absurd p2 (by decide))
      · exact ⟨_, _, _, rfl, rfl, (by simp only [uF_s, uF_n, ne_eq, Nat.reduceEqDiff, not_false_eq_true]), by decide, fun _ => rfl, CP9.cF (by first | rfl | simp only [uF_s, uF_n, uA_s, uA_n, ne_eq, Nat.reduceEqDiff, not_false_eq_true]) (by first | rfl | simp only [uF_s, uF_n, uA_s, uA_n, ne_eq, Nat.reduceEqDiff, not_false_eq_true]) (by first | rfl | simp only [uF_s, uF_n, uA_s, uA_n, ne_eq, Nat.reduceEqDiff, not_false_eq_true]) (by first | rfl | simp only [uF_s, uF_n, uA_s, uA_n, ne_eq, Nat.reduceEqDiff, not_false_eq_true]) (by first | exact r38 | (simp only [uF_s, uF_n, ne_eq, Nat.reduceEqDiff, not_false_eq_true]; exact r38)) (by first | rfl | simp only [uF_s, uF_n, uA_s, uA_n, ne_eq, Nat.reduceEqDiff, not_false_eq_true]) (by first | rfl | simp only [uF_s, uF_n, uA_s, uA_n, ne_eq, Nat.reduceEqDiff, not_false_eq_true]) (by first | rfl | simp only [uF_s, uF_n, uA_s, uA_n, ne_eq, Nat.reduceEqDiff, not_false_eq_true]) (by first | rfl | simp only [uF_s, uF_n, uA_s, uA_n, ne_eq, Nat.reduceEqDiff, not_false_eq_true]) C2⟩
    · rcases hp2 with ⟨p1, rfl, rfl⟩ | ⟨p1, rfl, rfl⟩
      · exact ⟨_, _, _, rfl, rfl, (by simp only [uF_s, uF_n, ne_eq, Nat.reduceEqDiff, not_false_eq_true]), by decide, fun z => absurd z (by decide), CP9.cF (by first | rfl | simp only [uF_s, uF_n, uA_s, uA_n, ne_eq, Nat.reduceEqDiff, not_false_eq_true]) (by first | rfl | simp only [uF_s, uF_n, uA_s, uA_n, ne_eq, Nat.reduceEqDiff, not_false_eq_true]) (by first | rfl | simp only [uF_s, uF_n, uA_s, uA_n, ne_eq, Nat.reduceEqDiff, not_false_eq_true]) (by first | rfl | simp only [uF_s, uF_n, uA_s, uA_n, ne_eq, Nat.reduceEqDiff, not_false_eq_true]) (by first | exact r38 | (simp only [uF_s, uF_n, ne_eq, Nat.reduceEqDiff, not_false_eq_true]; exact r38)) (by first | rfl | simp only [uF_s, uF_n, uA_s, uA_n, ne_eq, Nat.reduceEqDiff, not_false_eq_true]) (by first | rfl | simp only [uF_s, uF_n, uA_s, uA_n, ne_eq, Nat.reduceEqDiff, not_false_eq_true]) (by first | rfl | simp only [uF_s, uF_n, uA_s, uA_n, ne_eq, Nat.reduceEqDiff, not_false_eq_true]) (by first | rfl | simp only [uF_s, uF_n, uA_s, uA_n, ne_eq, Nat.reduceEqDiff, not_false_eq_true]) C2⟩
      · first | exact absurd r1 p1 | exact absurd p1 r1 | exact absurd r2 p2 | exact absurd p2 r2 | (exfalso; omega) | (rw [r1] at p1; exact absurd p1 (by decide)) | (rw [r2] at p2; exact absurd p2 (by decide))
  obtain ⟨F2, A2, x2, rfl, rfl, rfl, hk, hx, C2⟩ := J
  rw [← P9_m]
  exact tail9 (x6 := none) (x2 := x2) (fun z => by rw [vv9_0 z, hx z]) hk dL_law_589 dL_law_591 dL_law_592 dL_law_595 dL_law_597 dL_law_602 dL_law_604 dL_law_607 dL_law_608 dL_law_609 dL_law_610 dL_law_612 dL_law_613 dL_law_614 dL_law_619 (by decide) ⟨hc1, hc2⟩ (gg_widen (k := cs.1 + 100) (n := cs.2 + 2000) (by show cs.1 + 60 + 0 ≤ cs.1 + 100; omega) (by show cs.2 + 1500 + 0 ≤ cs.2 + 2000; omega) (kk _ _ _ _ _ _ _ _ C2))
theorem st_addLine {nm9 : String} {Γ : GT} {v : Nat → Int64} {w : Nat → UInt64} {ι : Nat → Option XE} {G : Nat → Int} {B : Nat → Int → Int} {F : Nat → Int} {A : Nat → Int → Int} {QF : List Frame → Array Value → State → State → Prop} {cs : Nat × Nat} {b : Nat} {i : Int} (hn : g_n Γ ≤ 2560) (hi : 0 ≤ i ∧ i + 5 ≤ g_n Γ) (C : CP9 ι G B F A b) (hcs : cs.1 + 100 ≤ room_1.cells ∧ cs.2 + 2000 ≤ room_1.slots)
    (kk : ∀ (v' : Nat → Int64) (w' : Nat → UInt64) (ι' : Nat → Option XE) (G' : Nat → Int) (B' : Nat → Int → Int) (F' : Nat → Int) (A' : Nat → Int → Int) (b' : Nat), CP9 ι' G' B' F' A' b' → GG Γ (M_law nm9) QF (cs.1 + 100, cs.2 + 2000) (P9 Γ v' w' ι' G' B' F' A') 2150 (LV9 Γ i none none) []) : GG Γ (M_law nm9) QF cs (P9 Γ v w ι G B F A) 635 (LV9 Γ i none none) [] := by
  obtain ⟨⟨i1, i2, i3, i4, i5⟩, ⟨e1, e2, e3⟩, p3⟩ := C.2.2.2.2.1
  have sta := C.m.sta
  have lna := C.m.lna
  have exa := C.m.exa
  have h5 : 0 ≤ F 5 ∧ F 5 ≤ 8 := C.2.2.1.1
  have h10 : InR (F 10) := ⟨by omega, by omega⟩
  have r38 := C.r38
  have t6 := C.m.2.2.2.2.2
  have hc1 : cs.1 + 60 ≤ room_1.cells := by have := hcs.1; omega
  have hc2 : cs.2 + 1500 ≤ room_1.slots := by have := hcs.2; omega
  refine gg_aload_n dL_law_635 rfl rfl ?_
  refine g5 (k := 1) hn rfl rfl hi (by decide) dL_law_636 dL_law_637 dL_law_639 dL_law_640 dL_law_641 ?_
  refine g5 (k := 2) hn rfl rfl hi (by decide) dL_law_642 dL_law_643 dL_law_645 dL_law_646 dL_law_647 ?_
  refine gg_aload_n dL_law_648 rfl rfl ?_
  refine gg_callSX (As := [.ref (g_L Γ 30), .int (iN (sx Γ (i + 1))), .int (iN (sx Γ (i + 2))), .ref (g_L Γ 24)]) (rest := []) mokh_L_addLine (wi_24 _ (List.mem_of_getElem? (i := 8) rfl)) (wi_24 _ (List.mem_of_getElem? (i := 9) rfl)) dL_law_649 rfl ⟨(Nat.le_of_ble_eq_true rfl), (Nat.le_of_ble_eq_true rfl)⟩ ⟨Nat.le_trans (Nat.add_le_add_left ((Nat.le_of_ble_eq_true rfl) : (mR M_L_addLine).cells ≤ 60) cs.1) hc1, Nat.le_trans (Nat.add_le_add_left ((Nat.le_of_ble_eq_true rfl) : (mR M_L_addLine).slots ≤ 1500) cs.2) hc2⟩ (Nat.le_of_ble_eq_true rfl) (cw_addLine (h := mst Γ (h9b v w, ι) F A) C (Eq.trans (mst_hi (by decide)) rfl) (sx_r Γ _) (sx_r Γ _)) (fun _ _ z => z.elim) (fun r h' hp => ?_)
  obtain ⟨k, x, ι', G', B', b', rfl, rfl, hX, res⟩ := hp
  refine gg_widen (k := cs.1 + 60) (n := cs.2 + 1500) (Nat.add_le_add_left (Nat.le_of_ble_eq_true rfl) _) (Nat.add_le_add_left (Nat.le_of_ble_eq_true rfl) _) ?_
  rw [P9_wl (G := G) (B := B) (ι := ι)]
  change GG Γ (M_law nm9) QF (cs.1 + 60, cs.2 + 1500) (P9 Γ (vv9 v k x) w ι' G' B' F A) 652 (LV9 Γ i none none) [.int (iN k)]
  refine gg_istore dL_law_652 (Nat.le_of_ble_eq_true rfl) rfl ?_
  rw [P9_m]
  refine gg_aload_n dL_law_654 rfl rfl ?_
  refine g5 (k := 1) hn rfl rfl hi (by decide) dL_law_655 dL_law_656 dL_law_658 dL_law_659 dL_law_660 ?_
  refine g5 (k := 2) hn rfl rfl hi (by decide) dL_law_661 dL_law_662 dL_law_664 dL_law_665 dL_law_666 ?_
  refine gc_L_159 rfl dL_law_667 ⟨(Nat.le_of_ble_eq_true rfl), (Nat.le_of_ble_eq_true rfl)⟩ ⟨hc1, hc2⟩ (Nat.le_of_ble_eq_true rfl) (HAt.mu rfl) (c_X10_addLine sta h5 i2 h10 i4 (sx_r Γ _) (sx_r Γ _)) (fun _ _ z => z.elim) (fun r2 h2 hp2 => ?_)
  have J : ∃ (F2 : Nat → Int) (A2 : Nat → Int → Int) (x2 : Int), r2 = some (.int (iN x2)) ∧ h2 = mst Γ (gst Γ (h9b (vv9 v k x) w, ι') G' B') F2 A2 ∧ F2 0 = k ∧ (0 ≤ k ∧ k ≤ 3) ∧ (k = 0 → x2 = x) ∧ CP9 ι' G' B' F2 A2 b' := by
    rcases res with ⟨r1, r2, r3, rfl, rfl, C2⟩ | ⟨r1, rfl, C2⟩ | ⟨r1, r2, rfl, C2⟩ | ⟨r1, r2, r3, rfl, C2⟩
    · rcases hp2 with ⟨p1, rfl, rfl⟩ | ⟨p1, p2, rfl, m, rfl⟩ | ⟨p1, p2, p3, rfl, rfl⟩ | ⟨p1, p2, p3, rfl, rfl⟩
      · first | exact absurd r1 p1 | exact absurd p1 r1 | exact absurd r2 p2 | exact absurd p2 r2 | (exfalso; omega) | (rw [r1] at p1; exact absurd p1 (by decide)) | (rw [r2] at p2; exact absurd p2 (by decide))
      · first | exact absurd r1 p1 | exact absurd p1 r1 | exact absurd r2 p2 | exact absurd p2 r2 | (exfalso; omega) | (rw [r1] at p1; exact absurd p1 (by decide)) | (rw [r2] at p2; exact absurd p2 (by decide))
      · first | exact absurd r1 p1 | exact absurd p1 r1 | exact absurd r2 p2 | exact absurd p2 r2 | (exfalso; omega) | (rw [r1] at p1; exact absurd p1 (by decide)) | (rw [r2] at p2; exact absurd p2 (by decide))
      · exact ⟨_, _, _, rfl, rfl, (by simp only [uF_s, uF_n, ne_eq, Nat.reduceEqDiff, not_false_eq_true]), by decide, fun _ => rfl, CP9.cF (by first | rfl | simp only [uF_s, uF_n, uA_s, uA_n, ne_eq, Nat.reduceEqDiff, not_false_eq_true]) (by first | rfl | simp only [uF_s, uF_n, uA_s, uA_n, ne_eq, Nat.reduceEqDiff, not_false_eq_true]) (by first | rfl | simp only [uF_s, uF_n, uA_s, uA_n, ne_eq, Nat.reduceEqDiff, not_false_eq_true]) (by first | rfl | simp only [uF_s, uF_n, uA_s, uA_n, ne_eq, Nat.reduceEqDiff, not_false_eq_true]) (by first | exact r38 | (simp only [uF_s, uF_n, ne_eq, Nat.reduceEqDiff, not_false_eq_true]; exact r38)) (by first | rfl | simp only [uF_s, uF_n, uA_s, uA_n, ne_eq, Nat.reduceEqDiff, not_false_eq_true]) (by first | rfl | simp only [uF_s, uF_n, uA_s, uA_n, ne_eq, Nat.reduceEqDiff, not_false_eq_true]) (by first | rfl | simp only [uF_s, uF_n, uA_s, uA_n, ne_eq, Nat.reduceEqDiff, not_false_eq_true]) (by first | rfl | simp only [uF_s, uF_n, uA_s, uA_n, ne_eq, Nat.reduceEqDiff, not_false_eq_true]) C2⟩
    · rcases hp2 with ⟨p1, rfl, rfl⟩ | ⟨p1, p2, rfl, m, rfl⟩ | ⟨p1, p2, p3, rfl, rfl⟩ | ⟨p1, p2, p3, rfl, rfl⟩
      · exact ⟨_, _, _, rfl, rfl, (by simp only [uF_s, uF_n, ne_eq, Nat.reduceEqDiff, not_false_eq_true]), by decide, fun z => absurd z (by decide), CP9.cF (by first | rfl | simp only [uF_s, uF_n, uA_s, uA_n, ne_eq, Nat.reduceEqDiff, not_false_eq_true]) (by first | rfl | simp only [uF_s, uF_n, uA_s, uA_n, ne_eq, Nat.reduceEqDiff, not_false_eq_true]) (by first | rfl | simp only [uF_s, uF_n, uA_s, uA_n, ne_eq, Nat.reduceEqDiff, not_false_eq_true]) (by first | rfl | simp only [uF_s, uF_n, uA_s, uA_n, ne_eq, Nat.reduceEqDiff, not_false_eq_true]) (by first | exact r38 | (simp only [uF_s, uF_n, ne_eq, Nat.reduceEqDiff, not_false_eq_true]; exact r38)) (by first | rfl | simp only [uF_s, uF_n, uA_s, uA_n, ne_eq, Nat.reduceEqDiff, not_false_eq_true]) (by first | rfl | simp only [uF_s, uF_n, uA_s, uA_n, ne_eq, Nat.reduceEqDiff, not_false_eq_true]) (by first | rfl | simp only [uF_s, uF_n, uA_s, uA_n, ne_eq, Nat.reduceEqDiff, not_false_eq_true]) (by first | rfl | simp only [uF_s, uF_n, uA_s, uA_n, ne_eq, Nat.reduceEqDiff, not_false_eq_true]) C2⟩
      · first | exact absurd r1 p1 | exact absurd p1 r1 | exact absurd r2 p2 | exact absurd p2 r2 | (exfalso; omega) | (rw [r1] at p1; exact absurd p1 (by decide)) | (rw [r2] at p2; exact absurd p2 (by decide))
      · first | exact absurd r1 p1 | exact absurd p1 r1 | exact absurd r2 p2 | exact absurd p2 r2 | (exfalso; omega) | (rw [r1] at p1; exact absurd p1 (by decide)) | (rw [r2] at p2; exact absurd p2 (by decide))
      · first | exact absurd r1 p1 | exact absurd p1 r1 | exact absurd r2 p2 | exact absurd p2 r2 | (exfalso; omega) | (rw [r1] at p1; exact absurd p1 (by decide)) | (rw [r2] at p2; exact absurd p2 (by decide))
    · rcases hp2 with ⟨p1, rfl, rfl⟩ | ⟨p1, p2, rfl, m, rfl⟩ | ⟨p1, p2, p3, rfl, rfl⟩ | ⟨p1, p2, p3, rfl, rfl⟩
      · first | exact absurd r1 p1 | exact absurd p1 r1 | exact absurd r2 p2 | exact absurd p2 r2 | (exfalso; omega) | (rw [r1] at p1; exact absurd p1 (by decide)) | (rw [r2] at p2; exact absurd p2 (by decide))
      · exact ⟨_, _, _, rfl, rfl, (by simp only [uF_s, uF_n, ne_eq, Nat.reduceEqDiff, not_false_eq_true]), by decide, fun z => absurd z (by decide), CP9.cF (by first | rfl | simp only [uF_s, uF_n, uA_s, uA_n, ne_eq, Nat.reduceEqDiff, not_false_eq_true]) (by first | rfl | simp only [uF_s, uF_n, uA_s, uA_n, ne_eq, Nat.reduceEqDiff, not_false_eq_true]) (by first | rfl | simp only [uF_s, uF_n, uA_s, uA_n, ne_eq, Nat.reduceEqDiff, not_false_eq_true]) (by first | rfl | simp only [uF_s, uF_n, uA_s, uA_n, ne_eq, Nat.reduceEqDiff, not_false_eq_true]) (by first | exact r38 | (simp only [uF_s, uF_n, ne_eq, Nat.reduceEqDiff, not_false_eq_true]; exact r38)) (by first | rfl | simp only [uF_s, uF_n, uA_s, uA_n, ne_eq, Nat.reduceEqDiff, not_false_eq_true]) (by first | rfl | simp only [uF_s, uF_n, uA_s, uA_n, ne_eq, Nat.reduceEqDiff, not_false_eq_true]) (by first | rfl | simp only [uF_s, uF_n, uA_s, uA_n, ne_eq, Nat.reduceEqDiff, not_false_eq_true]) (by first | rfl | simp only [uF_s, uF_n, uA_s, uA_n, ne_eq, Nat.reduceEqDiff, not_false_eq_true]) C2⟩
      · first | exact absurd r1 p1 | exact absurd p1 r1 | exact absurd r2 p2 | exact absurd p2 r2 | (exfalso; omega) | (rw [r1] at p1; exact absurd p1 (by decide)) | (rw [r2] at p2; exact absurd p2 (by decide))
      · first | exact absurd r1 p1 | exact absurd p1 r1 | exact absurd r2 p2 | exact absurd p2 r2 | (exfalso; omega) | (rw [r1] at p1; exact absurd p1 (by decide)) | (rw [r2] at p2; exact absurd p2 (by decide))
    · rcases hp2 with ⟨p1, rfl, rfl⟩ | ⟨p1, p2, rfl, m, rfl⟩ | ⟨p1, p2, p3, rfl, rfl⟩ | ⟨p1, p2, p3, rfl, rfl⟩
      · first | exact absurd r1 p1 | exact absurd p1 r1 | exact absurd r2 p2 | exact absurd p2 r2 | (exfalso; omega) | (rw [r1] at p1; exact absurd p1 (by decide)) | (rw [r2] at p2; exact absurd p2 (by decide))
      · first | exact absurd r1 p1 | exact absurd p1 r1 | exact absurd r2 p2 | exact absurd p2 r2 | (exfalso; omega) | (rw [r1] at p1; exact absurd p1 (by decide)) | (rw [r2] at p2; exact absurd p2 (by decide))
      · exact ⟨_, _, _, rfl, rfl, (by simp only [uF_s, uF_n, ne_eq, Nat.reduceEqDiff, not_false_eq_true]), by decide, fun z => absurd z (by decide), CP9.cF (by first | rfl | simp only [uF_s, uF_n, uA_s, uA_n, ne_eq, Nat.reduceEqDiff, not_false_eq_true]) (by first | rfl | simp only [uF_s, uF_n, uA_s, uA_n, ne_eq, Nat.reduceEqDiff, not_false_eq_true]) (by first | rfl | simp only [uF_s, uF_n, uA_s, uA_n, ne_eq, Nat.reduceEqDiff, not_false_eq_true]) (by first | rfl | simp only [uF_s, uF_n, uA_s, uA_n, ne_eq, Nat.reduceEqDiff, not_false_eq_true]) (by first | exact r38 | (simp only [uF_s, uF_n, ne_eq, Nat.reduceEqDiff, not_false_eq_true]; exact r38)) (by first | rfl | simp only [uF_s, uF_n, uA_s, uA_n, ne_eq, Nat.reduceEqDiff, not_false_eq_true]) (by first | rfl | simp only [uF_s, uF_n, uA_s, uA_n, ne_eq, Nat.reduceEqDiff, not_false_eq_true]) (by first | rfl | simp only [uF_s, uF_n, uA_s, uA_n, ne_eq, Nat.reduceEqDiff, not_false_eq_true]) (by first | rfl | simp only [uF_s, uF_n, uA_s, uA_n, ne_eq, Nat.reduceEqDiff, not_false_eq_true]) C2⟩
      · first | exact absurd r1 p1 | exact absurd p1 r1 | exact absurd r2 p2 | exact absurd p2 r2 | (exfalso; omega) | (rw [r1] at p1; exact absurd p1 (by decide)) | (rw [r2] at p2; exact absurd p2 (by decide))
  obtain ⟨F2, A2, x2, rfl, rfl, rfl, hk, hx, C2⟩ := J
  rw [← P9_m]
  exact tail9 (x6 := none) (x2 := x2) (fun z => by rw [vv9_0 z, hx z]) hk dL_law_670 dL_law_672 dL_law_673 dL_law_676 dL_law_678 dL_law_683 dL_law_685 dL_law_688 dL_law_689 dL_law_690 dL_law_691 dL_law_693 dL_law_694 dL_law_695 dL_law_700 (by decide) ⟨hc1, hc2⟩ (gg_widen (k := cs.1 + 100) (n := cs.2 + 2000) (by show cs.1 + 60 + 0 ≤ cs.1 + 100; omega) (by show cs.2 + 1500 + 0 ≤ cs.2 + 2000; omega) (kk _ _ _ _ _ _ _ _ C2))
theorem st_replaceLine {nm9 : String} {Γ : GT} {v : Nat → Int64} {w : Nat → UInt64} {ι : Nat → Option XE} {G : Nat → Int} {B : Nat → Int → Int} {F : Nat → Int} {A : Nat → Int → Int} {QF : List Frame → Array Value → State → State → Prop} {cs : Nat × Nat} {b : Nat} {i : Int} (hn : g_n Γ ≤ 2560) (hi : 0 ≤ i ∧ i + 5 ≤ g_n Γ) (C : CP9 ι G B F A b) (hcs : cs.1 + 100 ≤ room_1.cells ∧ cs.2 + 2000 ≤ room_1.slots)
    (kk : ∀ (v' : Nat → Int64) (w' : Nat → UInt64) (ι' : Nat → Option XE) (G' : Nat → Int) (B' : Nat → Int → Int) (F' : Nat → Int) (A' : Nat → Int → Int) (b' : Nat), CP9 ι' G' B' F' A' b' → GG Γ (M_law nm9) QF (cs.1 + 100, cs.2 + 2000) (P9 Γ v' w' ι' G' B' F' A') 2150 (LV9 Γ i none none) []) : GG Γ (M_law nm9) QF cs (P9 Γ v w ι G B F A) 703 (LV9 Γ i none none) [] := by
  obtain ⟨⟨i1, i2, i3, i4, i5⟩, ⟨e1, e2, e3⟩, p3⟩ := C.2.2.2.2.1
  have sta := C.m.sta
  have lna := C.m.lna
  have exa := C.m.exa
  have h5 : 0 ≤ F 5 ∧ F 5 ≤ 8 := C.2.2.1.1
  have h10 : InR (F 10) := ⟨by omega, by omega⟩
  have r38 := C.r38
  have t6 := C.m.2.2.2.2.2
  have hc1 : cs.1 + 60 ≤ room_1.cells := by have := hcs.1; omega
  have hc2 : cs.2 + 1500 ≤ room_1.slots := by have := hcs.2; omega
  refine gg_aload_n dL_law_703 rfl rfl ?_
  refine g5 (k := 1) hn rfl rfl hi (by decide) dL_law_704 dL_law_705 dL_law_707 dL_law_708 dL_law_709 ?_
  refine g5 (k := 2) hn rfl rfl hi (by decide) dL_law_710 dL_law_711 dL_law_713 dL_law_714 dL_law_715 ?_
  refine gg_aload_n dL_law_716 rfl rfl ?_
  refine gg_callSX (As := [.ref (g_L Γ 30), .int (iN (sx Γ (i + 1))), .int (iN (sx Γ (i + 2))), .ref (g_L Γ 24)]) (rest := []) mokh_L_replaceLine (wi_27 _ (List.mem_of_getElem? (i := 0) rfl)) (wi_27 _ (List.mem_of_getElem? (i := 1) rfl)) dL_law_717 rfl ⟨(Nat.le_of_ble_eq_true rfl), (Nat.le_of_ble_eq_true rfl)⟩ ⟨Nat.le_trans (Nat.add_le_add_left ((Nat.le_of_ble_eq_true rfl) : (mR M_L_replaceLine).cells ≤ 60) cs.1) hc1, Nat.le_trans (Nat.add_le_add_left ((Nat.le_of_ble_eq_true rfl) : (mR M_L_replaceLine).slots ≤ 1500) cs.2) hc2⟩ (Nat.le_of_ble_eq_true rfl) (cw_replaceLine (h := mst Γ (h9b v w, ι) F A) C (Eq.trans (mst_hi (by decide)) rfl) (sx_r Γ _) (sx_r Γ _)) (fun _ _ z => z.elim) (fun r h' hp => ?_)
  obtain ⟨k, x, ι', G', B', b', rfl, rfl, hX, res⟩ := hp
  refine gg_widen (k := cs.1 + 60) (n := cs.2 + 1500) (Nat.add_le_add_left (Nat.le_of_ble_eq_true rfl) _) (Nat.add_le_add_left (Nat.le_of_ble_eq_true rfl) _) ?_
  rw [P9_wl (G := G) (B := B) (ι := ι)]
  change GG Γ (M_law nm9) QF (cs.1 + 60, cs.2 + 1500) (P9 Γ (vv9 v k x) w ι' G' B' F A) 720 (LV9 Γ i none none) [.int (iN k)]
  refine gg_istore dL_law_720 (Nat.le_of_ble_eq_true rfl) rfl ?_
  rw [P9_m]
  refine gg_aload_n dL_law_722 rfl rfl ?_
  refine g5 (k := 1) hn rfl rfl hi (by decide) dL_law_723 dL_law_724 dL_law_726 dL_law_727 dL_law_728 ?_
  refine g5 (k := 2) hn rfl rfl hi (by decide) dL_law_729 dL_law_730 dL_law_732 dL_law_733 dL_law_734 ?_
  refine gc_L_162 rfl dL_law_735 ⟨(Nat.le_of_ble_eq_true rfl), (Nat.le_of_ble_eq_true rfl)⟩ ⟨hc1, hc2⟩ (Nat.le_of_ble_eq_true rfl) (HAt.mu rfl) (c_X10_replaceLine sta h5 i2 h10 i4 (sx_r Γ _) (sx_r Γ _)) (fun _ _ z => z.elim) (fun r2 h2 hp2 => ?_)
  have J : ∃ (F2 : Nat → Int) (A2 : Nat → Int → Int) (x2 : Int), r2 = some (.int (iN x2)) ∧ h2 = mst Γ (gst Γ (h9b (vv9 v k x) w, ι') G' B') F2 A2 ∧ F2 0 = k ∧ (0 ≤ k ∧ k ≤ 3) ∧ (k = 0 → x2 = x) ∧ CP9 ι' G' B' F2 A2 b' := by
    rcases res with ⟨r1, r2, rfl, rfl, C2⟩ | ⟨r1, rfl, C2⟩ | ⟨r1, r2, rfl, C2⟩
    · rcases hp2 with ⟨p1, rfl, rfl⟩ | ⟨p1, p2, rfl, m, rfl⟩ | ⟨p1, p2, rfl, rfl⟩
      · first | exact absurd r1 p1 | exact absurd p1 r1 | exact absurd r2 p2 | exact absurd p2 r2 | (exfalso; omega) | (rw [r1] at p1; exact absurd p1 (by decide)) | (rw [r2] at p2; exact absurd p2 (by decide))
      · first | exact absurd r1 p1 | exact absurd p1 r1 | exact absurd r2 p2 | exact absurd p2 r2 | (exfalso; omega) | (rw [r1] at p1; exact absurd p1 (by decide)) | (rw [r2] at p2; exact absurd p2 (by decide))
      · exact ⟨_, _, _, rfl, rfl, (by simp only [uF_s, uF_n, ne_eq, Nat.reduceEqDiff, not_false_eq_true]), by decide, fun _ => rfl, CP9.cF (by first | rfl | simp only [uF_s, uF_n, uA_s, uA_n, ne_eq, Nat.reduceEqDiff, not_false_eq_true]) (by first | rfl | simp only [uF_s, uF_n, uA_s, uA_n, ne_eq, Nat.reduceEqDiff, not_false_eq_true]) (by first | rfl | simp only [uF_s, uF_n, uA_s, uA_n, ne_eq, Nat.reduceEqDiff, not_false_eq_true]) (by first | rfl | simp only [uF_s, uF_n, uA_s, uA_n, ne_eq, Nat.reduceEqDiff, not_false_eq_true]) (by first | exact r38 | (simp only [uF_s, uF_n, ne_eq, Nat.reduceEqDiff, not_false_eq_true]; exact r38)) (by first | rfl | simp only [uF_s, uF_n, uA_s, uA_n, ne_eq, Nat.reduceEqDiff, not_false_eq_true]) (by first | rfl | simp only [uF_s, uF_n, uA_s, uA_n, ne_eq, Nat.reduceEqDiff, not_false_eq_true]) (by first | rfl | simp only [uF_s, uF_n, uA_s, uA_n, ne_eq, Nat.reduceEqDiff, not_false_eq_true]) (by first | rfl | simp only [uF_s, uF_n, uA_s, uA_n, ne_eq, Nat.reduceEqDiff, not_false_eq_true]) C2⟩
    · rcases hp2 with ⟨p1, rfl, rfl⟩ | ⟨p1, p2, rfl, m, rfl⟩ | ⟨p1, p2, rfl, rfl⟩
      · exact ⟨_, _, _, rfl, rfl, (by simp only [uF_s, uF_n, ne_eq, Nat.reduceEqDiff, not_false_eq_true]), by decide, fun z => absurd z (by decide), CP9.cF (by first | rfl | simp only [uF_s, uF_n, uA_s, uA_n, ne_eq, Nat.reduceEqDiff, not_false_eq_true]) (by first | rfl | simp only [uF_s, uF_n, uA_s, uA_n, ne_eq, Nat.reduceEqDiff, not_false_eq_true]) (by first | rfl | simp only [uF_s, uF_n, uA_s, uA_n, ne_eq, Nat.reduceEqDiff, not_false_eq_true]) (by first | rfl | simp only [uF_s, uF_n, uA_s, uA_n, ne_eq, Nat.reduceEqDiff, not_false_eq_true]) (by first | exact r38 | (simp only [uF_s, uF_n, ne_eq, Nat.reduceEqDiff, not_false_eq_true]; exact r38)) (by first | rfl | simp only [uF_s, uF_n, uA_s, uA_n, ne_eq, Nat.reduceEqDiff, not_false_eq_true]) (by first | rfl | simp only [uF_s, uF_n, uA_s, uA_n, ne_eq, Nat.reduceEqDiff, not_false_eq_true]) (by first | rfl | simp only [uF_s, uF_n, uA_s, uA_n, ne_eq, Nat.reduceEqDiff, not_false_eq_true]) (by first | rfl | simp only [uF_s, uF_n, uA_s, uA_n, ne_eq, Nat.reduceEqDiff, not_false_eq_true]) C2⟩
      · first | exact absurd r1 p1 | exact absurd p1 r1 | exact absurd r2 p2 | exact absurd p2 r2 | (exfalso; omega) | (rw [r1] at p1; exact absurd p1 (by decide)) | (rw [r2] at p2; exact absurd p2 (by decide))
      · first | exact absurd r1 p1 | exact absurd p1 r1 | exact absurd r2 p2 | exact absurd p2 r2 | (exfalso; omega) | (rw [r1] at p1; exact absurd p1 (by decide)) | (rw [r2] at p2; exact absurd p2 (by decide))
    · rcases hp2 with ⟨p1, rfl, rfl⟩ | ⟨p1, p2, rfl, m, rfl⟩ | ⟨p1, p2, rfl, rfl⟩
      · first | exact absurd r1 p1 | exact absurd p1 r1 | exact absurd r2 p2 | exact absurd p2 r2 | (exfalso; omega) | (rw [r1] at p1; exact absurd p1 (by decide)) | (rw [r2] at p2; exact absurd p2 (by decide))
      · exact ⟨_, _, _, rfl, rfl, (by simp only [uF_s, uF_n, ne_eq, Nat.reduceEqDiff, not_false_eq_true]), by decide, fun z => absurd z (by decide), CP9.cF (by first | rfl | simp only [uF_s, uF_n, uA_s, uA_n, ne_eq, Nat.reduceEqDiff, not_false_eq_true]) (by first | rfl | simp only [uF_s, uF_n, uA_s, uA_n, ne_eq, Nat.reduceEqDiff, not_false_eq_true]) (by first | rfl | simp only [uF_s, uF_n, uA_s, uA_n, ne_eq, Nat.reduceEqDiff, not_false_eq_true]) (by first | rfl | simp only [uF_s, uF_n, uA_s, uA_n, ne_eq, Nat.reduceEqDiff, not_false_eq_true]) (by first | exact r38 | (simp only [uF_s, uF_n, ne_eq, Nat.reduceEqDiff, not_false_eq_true]; exact r38)) (by first | rfl | simp only [uF_s, uF_n, uA_s, uA_n, ne_eq, Nat.reduceEqDiff, not_false_eq_true]) (by first | rfl | simp only [uF_s, uF_n, uA_s, uA_n, ne_eq, Nat.reduceEqDiff, not_false_eq_true]) (by first | rfl | simp only [uF_s, uF_n, uA_s, uA_n, ne_eq, Nat.reduceEqDiff, not_false_eq_true]) (by first | rfl | simp only [uF_s, uF_n, uA_s, uA_n, ne_eq, Nat.reduceEqDiff, not_false_eq_true]) C2⟩
      · first | exact absurd r1 p1 | exact absurd p1 r1 | exact absurd r2 p2 | exact absurd p2 r2 | (exfalso; omega) | (rw [r1] at p1; exact absurd p1 (by decide)) | (rw [r2] at p2; exact absurd p2 (by decide))
  obtain ⟨F2, A2, x2, rfl, rfl, rfl, hk, hx, C2⟩ := J
  rw [← P9_m]
  exact tail9 (x6 := none) (x2 := x2) (fun z => by rw [vv9_0 z, hx z]) hk dL_law_738 dL_law_740 dL_law_741 dL_law_744 dL_law_746 dL_law_751 dL_law_753 dL_law_756 dL_law_757 dL_law_758 dL_law_759 dL_law_761 dL_law_762 dL_law_763 dL_law_768 (by decide) ⟨hc1, hc2⟩ (gg_widen (k := cs.1 + 100) (n := cs.2 + 2000) (by show cs.1 + 60 + 0 ≤ cs.1 + 100; omega) (by show cs.2 + 1500 + 0 ≤ cs.2 + 2000; omega) (kk _ _ _ _ _ _ _ _ C2))
theorem st_removeLine {nm9 : String} {Γ : GT} {v : Nat → Int64} {w : Nat → UInt64} {ι : Nat → Option XE} {G : Nat → Int} {B : Nat → Int → Int} {F : Nat → Int} {A : Nat → Int → Int} {QF : List Frame → Array Value → State → State → Prop} {cs : Nat × Nat} {b : Nat} {i : Int} (hn : g_n Γ ≤ 2560) (hi : 0 ≤ i ∧ i + 5 ≤ g_n Γ) (C : CP9 ι G B F A b) (hcs : cs.1 + 100 ≤ room_1.cells ∧ cs.2 + 2000 ≤ room_1.slots)
    (kk : ∀ (v' : Nat → Int64) (w' : Nat → UInt64) (ι' : Nat → Option XE) (G' : Nat → Int) (B' : Nat → Int → Int) (F' : Nat → Int) (A' : Nat → Int → Int) (b' : Nat), CP9 ι' G' B' F' A' b' → GG Γ (M_law nm9) QF (cs.1 + 100, cs.2 + 2000) (P9 Γ v' w' ι' G' B' F' A') 2150 (LV9 Γ i none none) []) : GG Γ (M_law nm9) QF cs (P9 Γ v w ι G B F A) 771 (LV9 Γ i none none) [] := by
  obtain ⟨⟨i1, i2, i3, i4, i5⟩, ⟨e1, e2, e3⟩, p3⟩ := C.2.2.2.2.1
  have sta := C.m.sta
  have lna := C.m.lna
  have exa := C.m.exa
  have h5 : 0 ≤ F 5 ∧ F 5 ≤ 8 := C.2.2.1.1
  have h10 : InR (F 10) := ⟨by omega, by omega⟩
  have r38 := C.r38
  have t6 := C.m.2.2.2.2.2
  have hc1 : cs.1 + 60 ≤ room_1.cells := by have := hcs.1; omega
  have hc2 : cs.2 + 1500 ≤ room_1.slots := by have := hcs.2; omega
  refine gg_aload_n dL_law_771 rfl rfl ?_
  refine g5 (k := 1) hn rfl rfl hi (by decide) dL_law_772 dL_law_773 dL_law_775 dL_law_776 dL_law_777 ?_
  refine g5 (k := 2) hn rfl rfl hi (by decide) dL_law_778 dL_law_779 dL_law_781 dL_law_782 dL_law_783 ?_
  refine gg_aload_n dL_law_784 rfl rfl ?_
  refine gg_callSX (As := [.ref (g_L Γ 30), .int (iN (sx Γ (i + 1))), .int (iN (sx Γ (i + 2))), .ref (g_L Γ 24)]) (rest := []) mokh_L_removeLine (wi_28 _ (List.mem_of_getElem? (i := 3) rfl)) (wi_28 _ (List.mem_of_getElem? (i := 4) rfl)) dL_law_785 rfl ⟨(Nat.le_of_ble_eq_true rfl), (Nat.le_of_ble_eq_true rfl)⟩ ⟨Nat.le_trans (Nat.add_le_add_left ((Nat.le_of_ble_eq_true rfl) : (mR M_L_removeLine).cells ≤ 60) cs.1) hc1, Nat.le_trans (Nat.add_le_add_left ((Nat.le_of_ble_eq_true rfl) : (mR M_L_removeLine).slots ≤ 1500) cs.2) hc2⟩ (Nat.le_of_ble_eq_true rfl) (cw_removeLine (h := mst Γ (h9b v w, ι) F A) C (Eq.trans (mst_hi (by decide)) rfl) (sx_r Γ _) (sx_r Γ _)) (fun _ _ z => z.elim) (fun r h' hp => ?_)
  obtain ⟨k, x, ι', G', B', b', rfl, rfl, hX, res⟩ := hp
  refine gg_widen (k := cs.1 + 60) (n := cs.2 + 1500) (Nat.add_le_add_left (Nat.le_of_ble_eq_true rfl) _) (Nat.add_le_add_left (Nat.le_of_ble_eq_true rfl) _) ?_
  rw [P9_wl (G := G) (B := B) (ι := ι)]
  change GG Γ (M_law nm9) QF (cs.1 + 60, cs.2 + 1500) (P9 Γ (vv9 v k x) w ι' G' B' F A) 788 (LV9 Γ i none none) [.int (iN k)]
  refine gg_istore dL_law_788 (Nat.le_of_ble_eq_true rfl) rfl ?_
  rw [P9_m]
  refine gg_aload_n dL_law_790 rfl rfl ?_
  refine g5 (k := 1) hn rfl rfl hi (by decide) dL_law_791 dL_law_792 dL_law_794 dL_law_795 dL_law_796 ?_
  refine g5 (k := 2) hn rfl rfl hi (by decide) dL_law_797 dL_law_798 dL_law_800 dL_law_801 dL_law_802 ?_
  refine gc_L_165 rfl dL_law_803 ⟨(Nat.le_of_ble_eq_true rfl), (Nat.le_of_ble_eq_true rfl)⟩ ⟨hc1, hc2⟩ (Nat.le_of_ble_eq_true rfl) (HAt.mu rfl) (c_X10_removeLine sta h5 (sx_r Γ _) (sx_r Γ _)) (fun _ _ z => z.elim) (fun r2 h2 hp2 => ?_)
  have J : ∃ (F2 : Nat → Int) (A2 : Nat → Int → Int) (x2 : Int), r2 = some (.int (iN x2)) ∧ h2 = mst Γ (gst Γ (h9b (vv9 v k x) w, ι') G' B') F2 A2 ∧ F2 0 = k ∧ (0 ≤ k ∧ k ≤ 3) ∧ (k = 0 → x2 = x) ∧ CP9 ι' G' B' F2 A2 b' := by
    rcases res with ⟨r1, rfl, rfl, C2⟩ | ⟨r1, rfl, C2⟩
    · rcases hp2 with ⟨p1, rfl, rfl⟩ | ⟨p1, rfl, rfl⟩
      · first | exact absurd r1 p1 | exact absurd p1 r1 | exact absurd r2 p2 | exact absurd p2 r2 | (exfalso; omega) | (rw [r1] at p1; exact absurd p1 (by decide)) | (rw [r2] at p2; exact absurd p2 (by decide))
      · exact ⟨_, _, _, rfl, rfl, (by simp only [uF_s, uF_n, ne_eq, Nat.reduceEqDiff, not_false_eq_true]), by decide, fun _ => rfl, CP9.cF (by first | rfl | simp only [uF_s, uF_n, uA_s, uA_n, ne_eq, Nat.reduceEqDiff, not_false_eq_true]) (by first | rfl | simp only [uF_s, uF_n, uA_s, uA_n, ne_eq, Nat.reduceEqDiff, not_false_eq_true]) (by first | rfl | simp only [uF_s, uF_n, uA_s, uA_n, ne_eq, Nat.reduceEqDiff, not_false_eq_true]) (by first | rfl | simp only [uF_s, uF_n, uA_s, uA_n, ne_eq, Nat.reduceEqDiff, not_false_eq_true]) (by first | exact r38 | (simp only [uF_s, uF_n, ne_eq, Nat.reduceEqDiff, not_false_eq_true]; exact r38)) (by first | rfl | simp only [uF_s, uF_n, uA_s, uA_n, ne_eq, Nat.reduceEqDiff, not_false_eq_true]) (by first | rfl | simp only [uF_s, uF_n, uA_s, uA_n, ne_eq, Nat.reduceEqDiff, not_false_eq_true]) (by first | rfl | simp only [uF_s, uF_n, uA_s, uA_n, ne_eq, Nat.reduceEqDiff, not_false_eq_true]) (by first | rfl | simp only [uF_s, uF_n, uA_s, uA_n, ne_eq, Nat.reduceEqDiff, not_false_eq_true]) C2⟩
    · rcases hp2 with ⟨p1, rfl, rfl⟩ | ⟨p1, rfl, rfl⟩
      · exact ⟨_, _, _, rfl, rfl, (by simp only [uF_s, uF_n, ne_eq, Nat.reduceEqDiff, not_false_eq_true]), by decide, fun z => absurd z (by decide), CP9.cF (by first | rfl | simp only [uF_s, uF_n, uA_s, uA_n, ne_eq, Nat.reduceEqDiff, not_false_eq_true]) (by first | rfl | simp only [uF_s, uF_n, uA_s, uA_n, ne_eq, Nat.reduceEqDiff, not_false_eq_true]) (by first | rfl | simp only [uF_s, uF_n, uA_s, uA_n, ne_eq, Nat.reduceEqDiff, not_false_eq_true]) (by first | rfl | simp only [uF_s, uF_n, uA_s, uA_n, ne_eq, Nat.reduceEqDiff, not_false_eq_true]) (by first | exact r38 | (simp only [uF_s, uF_n, ne_eq, Nat.reduceEqDiff, not_false_eq_true]; exact r38)) (by first | rfl | simp only [uF_s, uF_n, uA_s, uA_n, ne_eq, Nat.reduceEqDiff, not_false_eq_true]) (by first | rfl | simp only [uF_s, uF_n, uA_s, uA_n, ne_eq, Nat.reduceEqDiff, not_false_eq_true]) (by first | rfl | simp only [uF_s, uF_n, uA_s, uA_n, ne_eq, Nat.reduceEqDiff, not_false_eq_true]) (by first | rfl | simp only [uF_s, uF_n, uA_s, uA_n, ne_eq, Nat.reduceEqDiff, not_false_eq_true]) C2⟩
      · first | exact absurd r1 p1 | exact absurd p1 r1 | exact absurd r2 p2 | exact absurd p2 r2 | (exfalso; omega) | (rw [r1] at p1; exact absurd p1 (by decide)) | (rw [r2] at p2; exact absurd p2 (by decide))
  obtain ⟨F2, A2, x2, rfl, rfl, rfl, hk, hx, C2⟩ := J
  rw [← P9_m]
  exact tail9 (x6 := none) (x2 := x2) (fun z => by rw [vv9_0 z, hx z]) hk dL_law_806 dL_law_808 dL_law_809 dL_law_812 dL_law_814 dL_law_819 dL_law_821 dL_law_824 dL_law_825 dL_law_826 dL_law_827 dL_law_829 dL_law_830 dL_law_831 dL_law_836 (by decide) ⟨hc1, hc2⟩ (gg_widen (k := cs.1 + 100) (n := cs.2 + 2000) (by show cs.1 + 60 + 0 ≤ cs.1 + 100; omega) (by show cs.2 + 1500 + 0 ≤ cs.2 + 2000; omega) (kk _ _ _ _ _ _ _ _ C2))
theorem st_moveLine {nm9 : String} {Γ : GT} {v : Nat → Int64} {w : Nat → UInt64} {ι : Nat → Option XE} {G : Nat → Int} {B : Nat → Int → Int} {F : Nat → Int} {A : Nat → Int → Int} {QF : List Frame → Array Value → State → State → Prop} {cs : Nat × Nat} {b : Nat} {i : Int} (hn : g_n Γ ≤ 2560) (hi : 0 ≤ i ∧ i + 5 ≤ g_n Γ) (C : CP9 ι G B F A b) (hcs : cs.1 + 100 ≤ room_1.cells ∧ cs.2 + 2000 ≤ room_1.slots)
    (kk : ∀ (v' : Nat → Int64) (w' : Nat → UInt64) (ι' : Nat → Option XE) (G' : Nat → Int) (B' : Nat → Int → Int) (F' : Nat → Int) (A' : Nat → Int → Int) (b' : Nat), CP9 ι' G' B' F' A' b' → GG Γ (M_law nm9) QF (cs.1 + 100, cs.2 + 2000) (P9 Γ v' w' ι' G' B' F' A') 2150 (LV9 Γ i none none) []) : GG Γ (M_law nm9) QF cs (P9 Γ v w ι G B F A) 839 (LV9 Γ i none none) [] := by
  obtain ⟨⟨i1, i2, i3, i4, i5⟩, ⟨e1, e2, e3⟩, p3⟩ := C.2.2.2.2.1
  have sta := C.m.sta
  have lna := C.m.lna
  have exa := C.m.exa
  have h5 : 0 ≤ F 5 ∧ F 5 ≤ 8 := C.2.2.1.1
  have h10 : InR (F 10) := ⟨by omega, by omega⟩
  have r38 := C.r38
  have t6 := C.m.2.2.2.2.2
  have hc1 : cs.1 + 60 ≤ room_1.cells := by have := hcs.1; omega
  have hc2 : cs.2 + 1500 ≤ room_1.slots := by have := hcs.2; omega
  refine gg_aload_n dL_law_839 rfl rfl ?_
  refine g5 (k := 1) hn rfl rfl hi (by decide) dL_law_840 dL_law_841 dL_law_843 dL_law_844 dL_law_845 ?_
  refine g5 (k := 2) hn rfl rfl hi (by decide) dL_law_846 dL_law_847 dL_law_849 dL_law_850 dL_law_851 ?_
  refine g5 (k := 3) hn rfl rfl hi (by decide) dL_law_852 dL_law_853 dL_law_855 dL_law_856 dL_law_857 ?_
  refine gg_aload_n dL_law_858 rfl rfl ?_
  refine gg_callSX (As := [.ref (g_L Γ 30), .int (iN (sx Γ (i + 1))), .int (iN (sx Γ (i + 2))), .int (iN (sx Γ (i + 3))), .ref (g_L Γ 24)]) (rest := []) mokh_L_moveLine (wi_28 _ (List.mem_of_getElem? (i := 18) rfl)) (wi_28 _ (List.mem_of_getElem? (i := 19) rfl)) dL_law_859 rfl ⟨(Nat.le_of_ble_eq_true rfl), (Nat.le_of_ble_eq_true rfl)⟩ ⟨Nat.le_trans (Nat.add_le_add_left ((Nat.le_of_ble_eq_true rfl) : (mR M_L_moveLine).cells ≤ 60) cs.1) hc1, Nat.le_trans (Nat.add_le_add_left ((Nat.le_of_ble_eq_true rfl) : (mR M_L_moveLine).slots ≤ 1500) cs.2) hc2⟩ (Nat.le_of_ble_eq_true rfl) (cw_moveLine (h := mst Γ (h9b v w, ι) F A) C (Eq.trans (mst_hi (by decide)) rfl) (sx_r Γ _) (sx_r Γ _) (sx_r Γ _)) (fun _ _ z => z.elim) (fun r h' hp => ?_)
  obtain ⟨k, x, ι', G', B', b', rfl, rfl, hX, res⟩ := hp
  refine gg_widen (k := cs.1 + 60) (n := cs.2 + 1500) (Nat.add_le_add_left (Nat.le_of_ble_eq_true rfl) _) (Nat.add_le_add_left (Nat.le_of_ble_eq_true rfl) _) ?_
  rw [P9_wl (G := G) (B := B) (ι := ι)]
  change GG Γ (M_law nm9) QF (cs.1 + 60, cs.2 + 1500) (P9 Γ (vv9 v k x) w ι' G' B' F A) 862 (LV9 Γ i none none) [.int (iN k)]
  refine gg_istore dL_law_862 (Nat.le_of_ble_eq_true rfl) rfl ?_
  rw [P9_m]
  refine gg_aload_n dL_law_864 rfl rfl ?_
  refine g5 (k := 1) hn rfl rfl hi (by decide) dL_law_865 dL_law_866 dL_law_868 dL_law_869 dL_law_870 ?_
  refine g5 (k := 2) hn rfl rfl hi (by decide) dL_law_871 dL_law_872 dL_law_874 dL_law_875 dL_law_876 ?_
  refine g5 (k := 3) hn rfl rfl hi (by decide) dL_law_877 dL_law_878 dL_law_880 dL_law_881 dL_law_882 ?_
  refine gc_L_168 rfl dL_law_883 ⟨(Nat.le_of_ble_eq_true rfl), (Nat.le_of_ble_eq_true rfl)⟩ ⟨hc1, hc2⟩ (Nat.le_of_ble_eq_true rfl) (HAt.mu rfl) (c_X10_moveLine sta h5 (sx_r Γ _) (sx_r Γ _) (sx_r Γ _)) (fun _ _ z => z.elim) (fun r2 h2 hp2 => ?_)
  have J : ∃ (F2 : Nat → Int) (A2 : Nat → Int → Int) (x2 : Int), r2 = some (.int (iN x2)) ∧ h2 = mst Γ (gst Γ (h9b (vv9 v k x) w, ι') G' B') F2 A2 ∧ F2 0 = k ∧ (0 ≤ k ∧ k ≤ 3) ∧ (k = 0 → x2 = x) ∧ CP9 ι' G' B' F2 A2 b' := by
    rcases res with ⟨r1, rfl, rfl, C2⟩ | ⟨r1, rfl, C2⟩
    · rcases hp2 with ⟨p1, rfl, rfl⟩ | ⟨p1, rfl, rfl⟩
      · first | exact absurd r1 p1 | exact absurd p1 r1 | exact absurd r2 p2 | exact absurd p2 r2 | (exfalso; omega) | (rw [r1] at p1; exact absurd p1 (by decide)) | (rw [r2] at p2; exact absurd p2 (by decide))
      · exact ⟨_, _, _, rfl, rfl, (by simp only [uF_s, uF_n, ne_eq, Nat.reduceEqDiff, not_false_eq_true]), by decide, fun _ => rfl, CP9.cF (by first | rfl | simp only [uF_s, uF_n, uA_s, uA_n, ne_eq, Nat.reduceEqDiff, not_false_eq_true]) (by first | rfl | simp only [uF_s, uF_n, uA_s, uA_n, ne_eq, Nat.reduceEqDiff, not_false_eq_true]) (by first | rfl | simp only [uF_s, uF_n, uA_s, uA_n, ne_eq, Nat.reduceEqDiff, not_false_eq_true]) (by first | rfl | simp only [uF_s, uF_n, uA_s, uA_n, ne_eq, Nat.reduceEqDiff, not_false_eq_true]) (by first | exact r38 | (simp only [uF_s, uF_n, ne_eq, Nat.reduceEqDiff, not_false_eq_true]; exact r38)) (by first | rfl | simp only [uF_s, uF_n, uA_s, uA_n, ne_eq, Nat.reduceEqDiff, not_false_eq_true]) (by first | rfl | simp only [uF_s, uF_n, uA_s, uA_n, ne_eq, Nat.reduceEqDiff, not_false_eq_true]) (by first | rfl | simp only [uF_s, uF_n, uA_s, uA_n, ne_eq, Nat.reduceEqDiff, not_false_eq_true]) (by first | rfl | simp only [uF_s, uF_n, uA_s, uA_n, ne_eq, Nat.reduceEqDiff, not_false_eq_true]) (C2 _ (fun k k0 k1 => by unfold cp; rw [if_pos (by omega)]; congr 1; omega))⟩
    · rcases hp2 with ⟨p1, rfl, rfl⟩ | ⟨p1, rfl, rfl⟩
      · exact ⟨_, _, _, rfl, rfl, (by simp only [uF_s, uF_n, ne_eq, Nat.reduceEqDiff, not_false_eq_true]), by decide, fun z => absurd z (by decide), CP9.cF (by first | rfl | simp only [uF_s, uF_n, uA_s, uA_n, ne_eq, Nat.reduceEqDiff, not_false_eq_true]) (by first | rfl | simp only [uF_s, uF_n, uA_s, uA_n, ne_eq, Nat.reduceEqDiff, not_false_eq_true]) (by first | rfl | simp only [uF_s, uF_n, uA_s, uA_n, ne_eq, Nat.reduceEqDiff, not_false_eq_true]) (by first | rfl | simp only [uF_s, uF_n, uA_s, uA_n, ne_eq, Nat.reduceEqDiff, not_false_eq_true]) (by first | exact r38 | (simp only [uF_s, uF_n, ne_eq, Nat.reduceEqDiff, not_false_eq_true]; exact r38)) (by first | rfl | simp only [uF_s, uF_n, uA_s, uA_n, ne_eq, Nat.reduceEqDiff, not_false_eq_true]) (by first | rfl | simp only [uF_s, uF_n, uA_s, uA_n, ne_eq, Nat.reduceEqDiff, not_false_eq_true]) (by first | rfl | simp only [uF_s, uF_n, uA_s, uA_n, ne_eq, Nat.reduceEqDiff, not_false_eq_true]) (by first | rfl | simp only [uF_s, uF_n, uA_s, uA_n, ne_eq, Nat.reduceEqDiff, not_false_eq_true]) C2⟩
      · first | exact absurd r1 p1 | exact absurd p1 r1 | exact absurd r2 p2 | exact absurd p2 r2 | (exfalso; omega) | (rw [r1] at p1; exact absurd p1 (by decide)) | (rw [r2] at p2; exact absurd p2 (by decide))
  obtain ⟨F2, A2, x2, rfl, rfl, rfl, hk, hx, C2⟩ := J
  rw [← P9_m]
  exact tail9 (x6 := none) (x2 := x2) (fun z => by rw [vv9_0 z, hx z]) hk dL_law_886 dL_law_888 dL_law_889 dL_law_892 dL_law_894 dL_law_899 dL_law_901 dL_law_904 dL_law_905 dL_law_906 dL_law_907 dL_law_909 dL_law_910 dL_law_911 dL_law_916 (by decide) ⟨hc1, hc2⟩ (gg_widen (k := cs.1 + 100) (n := cs.2 + 2000) (by show cs.1 + 60 + 0 ≤ cs.1 + 100; omega) (by show cs.2 + 1500 + 0 ≤ cs.2 + 2000; omega) (kk _ _ _ _ _ _ _ _ C2))
theorem st_copyDraft {nm9 : String} {Γ : GT} {v : Nat → Int64} {w : Nat → UInt64} {ι : Nat → Option XE} {G : Nat → Int} {B : Nat → Int → Int} {F : Nat → Int} {A : Nat → Int → Int} {QF : List Frame → Array Value → State → State → Prop} {cs : Nat × Nat} {b : Nat} {i : Int} (hn : g_n Γ ≤ 2560) (hi : 0 ≤ i ∧ i + 5 ≤ g_n Γ) (C : CP9 ι G B F A b) (hcs : cs.1 + 100 ≤ room_1.cells ∧ cs.2 + 2000 ≤ room_1.slots)
    (kk : ∀ (v' : Nat → Int64) (w' : Nat → UInt64) (ι' : Nat → Option XE) (G' : Nat → Int) (B' : Nat → Int → Int) (F' : Nat → Int) (A' : Nat → Int → Int) (b' : Nat), CP9 ι' G' B' F' A' b' → GG Γ (M_law nm9) QF (cs.1 + 100, cs.2 + 2000) (P9 Γ v' w' ι' G' B' F' A') 2150 (LV9 Γ i none none) []) : GG Γ (M_law nm9) QF cs (P9 Γ v w ι G B F A) 919 (LV9 Γ i none none) [] := by
  obtain ⟨⟨i1, i2, i3, i4, i5⟩, ⟨e1, e2, e3⟩, p3⟩ := C.2.2.2.2.1
  have sta := C.m.sta
  have lna := C.m.lna
  have exa := C.m.exa
  have h5 : 0 ≤ F 5 ∧ F 5 ≤ 8 := C.2.2.1.1
  have h10 : InR (F 10) := ⟨by omega, by omega⟩
  have r38 := C.r38
  have t6 := C.m.2.2.2.2.2
  have hc1 : cs.1 + 60 ≤ room_1.cells := by have := hcs.1; omega
  have hc2 : cs.2 + 1500 ≤ room_1.slots := by have := hcs.2; omega
  refine gg_aload_n dL_law_919 rfl rfl ?_
  refine g5 (k := 1) hn rfl rfl hi (by decide) dL_law_920 dL_law_921 dL_law_923 dL_law_924 dL_law_925 ?_
  refine g5 (k := 2) hn rfl rfl hi (by decide) dL_law_926 dL_law_927 dL_law_929 dL_law_930 dL_law_931 ?_
  refine gg_aload_n dL_law_932 rfl rfl ?_
  refine gg_callSX (As := [.ref (g_L Γ 30), .int (iN (sx Γ (i + 1))), .int (iN (sx Γ (i + 2))), .ref (g_L Γ 24)]) (rest := []) mokh_L_copyDraft (wi_29 _ (List.mem_of_getElem? (i := 9) rfl)) (wi_29 _ (List.mem_of_getElem? (i := 10) rfl)) dL_law_933 rfl ⟨(Nat.le_of_ble_eq_true rfl), (Nat.le_of_ble_eq_true rfl)⟩ ⟨Nat.le_trans (Nat.add_le_add_left ((Nat.le_of_ble_eq_true rfl) : (mR M_L_copyDraft).cells ≤ 60) cs.1) hc1, Nat.le_trans (Nat.add_le_add_left ((Nat.le_of_ble_eq_true rfl) : (mR M_L_copyDraft).slots ≤ 1500) cs.2) hc2⟩ (Nat.le_of_ble_eq_true rfl) (cw_copyDraft (h := mst Γ (h9b v w, ι) F A) C (Eq.trans (mst_hi (by decide)) rfl) (sx_r Γ _) (sx_r Γ _)) (fun _ _ z => z.elim) (fun r h' hp => ?_)
  obtain ⟨k, x, ι', G', B', b', rfl, rfl, hX, res⟩ := hp
  refine gg_widen (k := cs.1 + 60) (n := cs.2 + 1500) (Nat.add_le_add_left (Nat.le_of_ble_eq_true rfl) _) (Nat.add_le_add_left (Nat.le_of_ble_eq_true rfl) _) ?_
  rw [P9_wl (G := G) (B := B) (ι := ι)]
  change GG Γ (M_law nm9) QF (cs.1 + 60, cs.2 + 1500) (P9 Γ (vv9 v k x) w ι' G' B' F A) 936 (LV9 Γ i none none) [.int (iN k)]
  refine gg_istore dL_law_936 (Nat.le_of_ble_eq_true rfl) rfl ?_
  rw [P9_m]
  refine gg_aload_n dL_law_938 rfl rfl ?_
  refine g5 (k := 1) hn rfl rfl hi (by decide) dL_law_939 dL_law_940 dL_law_942 dL_law_943 dL_law_944 ?_
  refine g5 (k := 2) hn rfl rfl hi (by decide) dL_law_945 dL_law_946 dL_law_948 dL_law_949 dL_law_950 ?_
  refine gc_L_171 rfl dL_law_951 ⟨(Nat.le_of_ble_eq_true rfl), (Nat.le_of_ble_eq_true rfl)⟩ ⟨hc1, hc2⟩ (Nat.le_of_ble_eq_true rfl) (HAt.mu rfl) (c_X10_copyDraft sta h5 (sx_r Γ _) (sx_r Γ _)) (fun _ _ z => z.elim) (fun r2 h2 hp2 => ?_)
  have J : ∃ (F2 : Nat → Int) (A2 : Nat → Int → Int) (x2 : Int), r2 = some (.int (iN x2)) ∧ h2 = mst Γ (gst Γ (h9b (vv9 v k x) w, ι') G' B') F2 A2 ∧ F2 0 = k ∧ (0 ≤ k ∧ k ≤ 3) ∧ (k = 0 → x2 = x) ∧ CP9 ι' G' B' F2 A2 b' := by
    rcases res with ⟨r1, rfl, rfl, C2⟩ | ⟨r1, rfl, C2⟩
    · rcases hp2 with ⟨p1, rfl, rfl⟩ | ⟨p1, rfl, rfl⟩
      · first | exact absurd r1 p1 | exact absurd p1 r1 | exact absurd r2 p2 | exact absurd p2 r2 | (exfalso; omega) | (rw [r1] at p1; exact absurd p1 (by decide)) | (rw [r2] at p2; exact absurd p2 (by decide))
      · exact ⟨_, _, _, rfl, rfl, (by simp only [uF_s, uF_n, ne_eq, Nat.reduceEqDiff, not_false_eq_true]), by decide, fun _ => rfl, CP9.cF (by first | rfl | simp only [uF_s, uF_n, uA_s, uA_n, ne_eq, Nat.reduceEqDiff, not_false_eq_true]) (by first | rfl | simp only [uF_s, uF_n, uA_s, uA_n, ne_eq, Nat.reduceEqDiff, not_false_eq_true]) (by first | rfl | simp only [uF_s, uF_n, uA_s, uA_n, ne_eq, Nat.reduceEqDiff, not_false_eq_true]) (by first | rfl | simp only [uF_s, uF_n, uA_s, uA_n, ne_eq, Nat.reduceEqDiff, not_false_eq_true]) (by first | exact r38 | (simp only [uF_s, uF_n, ne_eq, Nat.reduceEqDiff, not_false_eq_true]; exact r38)) (by first | rfl | simp only [uF_s, uF_n, uA_s, uA_n, ne_eq, Nat.reduceEqDiff, not_false_eq_true]) (by first | rfl | simp only [uF_s, uF_n, uA_s, uA_n, ne_eq, Nat.reduceEqDiff, not_false_eq_true]) (by first | rfl | simp only [uF_s, uF_n, uA_s, uA_n, ne_eq, Nat.reduceEqDiff, not_false_eq_true]) (by first | rfl | simp only [uF_s, uF_n, uA_s, uA_n, ne_eq, Nat.reduceEqDiff, not_false_eq_true]) C2⟩
    · rcases hp2 with ⟨p1, rfl, rfl⟩ | ⟨p1, rfl, rfl⟩
      · exact ⟨_, _, _, rfl, rfl, (by simp only [uF_s, uF_n, ne_eq, Nat.reduceEqDiff, not_false_eq_true]), by decide, fun z => absurd z (by decide), CP9.cF (by first | rfl | simp only [uF_s, uF_n, uA_s, uA_n, ne_eq, Nat.reduceEqDiff, not_false_eq_true]) (by first | rfl | simp only [uF_s, uF_n, uA_s, uA_n, ne_eq, Nat.reduceEqDiff, not_false_eq_true]) (by first | rfl | simp only [uF_s, uF_n, uA_s, uA_n, ne_eq, Nat.reduceEqDiff, not_false_eq_true]) (by first | rfl | simp only [uF_s, uF_n, uA_s, uA_n, ne_eq, Nat.reduceEqDiff, not_false_eq_true]) (by first | exact r38 | (simp only [uF_s, uF_n, ne_eq, Nat.reduceEqDiff, not_false_eq_true]; exact r38)) (by first | rfl | simp only [uF_s, uF_n, uA_s, uA_n, ne_eq, Nat.reduceEqDiff, not_false_eq_true]) (by first | rfl | simp only [uF_s, uF_n, uA_s, uA_n, ne_eq, Nat.reduceEqDiff, not_false_eq_true]) (by first | rfl | simp only [uF_s, uF_n, uA_s, uA_n, ne_eq, Nat.reduceEqDiff, not_false_eq_true]) (by first | rfl | simp only [uF_s, uF_n, uA_s, uA_n, ne_eq, Nat.reduceEqDiff, not_false_eq_true]) C2⟩
      · first | exact absurd r1 p1 | exact absurd p1 r1 | exact absurd r2 p2 | exact absurd p2 r2 | (exfalso; omega) | (rw [r1] at p1; exact absurd p1 (by decide)) | (rw [r2] at p2; exact absurd p2 (by decide))
  obtain ⟨F2, A2, x2, rfl, rfl, rfl, hk, hx, C2⟩ := J
  rw [← P9_m]
  exact tail9 (x6 := none) (x2 := x2) (fun z => by rw [vv9_0 z, hx z]) hk dL_law_954 dL_law_956 dL_law_957 dL_law_960 dL_law_962 dL_law_967 dL_law_969 dL_law_972 dL_law_973 dL_law_974 dL_law_975 dL_law_977 dL_law_978 dL_law_979 dL_law_984 (by decide) ⟨hc1, hc2⟩ (gg_widen (k := cs.1 + 100) (n := cs.2 + 2000) (by show cs.1 + 60 + 0 ≤ cs.1 + 100; omega) (by show cs.2 + 1500 + 0 ≤ cs.2 + 2000; omega) (kk _ _ _ _ _ _ _ _ C2))
theorem st_clearDraft {nm9 : String} {Γ : GT} {v : Nat → Int64} {w : Nat → UInt64} {ι : Nat → Option XE} {G : Nat → Int} {B : Nat → Int → Int} {F : Nat → Int} {A : Nat → Int → Int} {QF : List Frame → Array Value → State → State → Prop} {cs : Nat × Nat} {b : Nat} {i : Int} (hn : g_n Γ ≤ 2560) (hi : 0 ≤ i ∧ i + 5 ≤ g_n Γ) (C : CP9 ι G B F A b) (hcs : cs.1 + 100 ≤ room_1.cells ∧ cs.2 + 2000 ≤ room_1.slots)
    (kk : ∀ (v' : Nat → Int64) (w' : Nat → UInt64) (ι' : Nat → Option XE) (G' : Nat → Int) (B' : Nat → Int → Int) (F' : Nat → Int) (A' : Nat → Int → Int) (b' : Nat), CP9 ι' G' B' F' A' b' → GG Γ (M_law nm9) QF (cs.1 + 100, cs.2 + 2000) (P9 Γ v' w' ι' G' B' F' A') 2150 (LV9 Γ i none none) []) : GG Γ (M_law nm9) QF cs (P9 Γ v w ι G B F A) 987 (LV9 Γ i none none) [] := by
  obtain ⟨⟨i1, i2, i3, i4, i5⟩, ⟨e1, e2, e3⟩, p3⟩ := C.2.2.2.2.1
  have sta := C.m.sta
  have lna := C.m.lna
  have exa := C.m.exa
  have h5 : 0 ≤ F 5 ∧ F 5 ≤ 8 := C.2.2.1.1
  have h10 : InR (F 10) := ⟨by omega, by omega⟩
  have r38 := C.r38
  have t6 := C.m.2.2.2.2.2
  have hc1 : cs.1 + 60 ≤ room_1.cells := by have := hcs.1; omega
  have hc2 : cs.2 + 1500 ≤ room_1.slots := by have := hcs.2; omega
  refine gg_aload_n dL_law_987 rfl rfl ?_
  refine g5 (k := 1) hn rfl rfl hi (by decide) dL_law_988 dL_law_989 dL_law_991 dL_law_992 dL_law_993 ?_
  refine gg_aload_n dL_law_994 rfl rfl ?_
  refine gg_callSX (As := [.ref (g_L Γ 30), .int (iN (sx Γ (i + 1))), .ref (g_L Γ 24)]) (rest := []) mokh_L_clearDraft (wi_29 _ (List.mem_of_getElem? (i := 21) rfl)) (wi_29 _ (List.mem_of_getElem? (i := 22) rfl)) dL_law_995 rfl ⟨(Nat.le_of_ble_eq_true rfl), (Nat.le_of_ble_eq_true rfl)⟩ ⟨Nat.le_trans (Nat.add_le_add_left ((Nat.le_of_ble_eq_true rfl) : (mR M_L_clearDraft).cells ≤ 60) cs.1) hc1, Nat.le_trans (Nat.add_le_add_left ((Nat.le_of_ble_eq_true rfl) : (mR M_L_clearDraft).slots ≤ 1500) cs.2) hc2⟩ (Nat.le_of_ble_eq_true rfl) (cw_clearDraft (h := mst Γ (h9b v w, ι) F A) C (Eq.trans (mst_hi (by decide)) rfl) (sx_r Γ _)) (fun _ _ z => z.elim) (fun r h' hp => ?_)
  obtain ⟨k, x, ι', G', B', b', rfl, rfl, hX, res⟩ := hp
  refine gg_widen (k := cs.1 + 60) (n := cs.2 + 1500) (Nat.add_le_add_left (Nat.le_of_ble_eq_true rfl) _) (Nat.add_le_add_left (Nat.le_of_ble_eq_true rfl) _) ?_
  rw [P9_wl (G := G) (B := B) (ι := ι)]
  change GG Γ (M_law nm9) QF (cs.1 + 60, cs.2 + 1500) (P9 Γ (vv9 v k x) w ι' G' B' F A) 998 (LV9 Γ i none none) [.int (iN k)]
  refine gg_istore dL_law_998 (Nat.le_of_ble_eq_true rfl) rfl ?_
  rw [P9_m]
  refine gg_aload_n dL_law_1000 rfl rfl ?_
  refine g5 (k := 1) hn rfl rfl hi (by decide) dL_law_1001 dL_law_1002 dL_law_1004 dL_law_1005 dL_law_1006 ?_
  refine gc_L_174 rfl dL_law_1007 ⟨(Nat.le_of_ble_eq_true rfl), (Nat.le_of_ble_eq_true rfl)⟩ ⟨hc1, hc2⟩ (Nat.le_of_ble_eq_true rfl) (HAt.mu rfl) (c_X10_clearDraft sta h5 (sx_r Γ _)) (fun _ _ z => z.elim) (fun r2 h2 hp2 => ?_)
  have J : ∃ (F2 : Nat → Int) (A2 : Nat → Int → Int) (x2 : Int), r2 = some (.int (iN x2)) ∧ h2 = mst Γ (gst Γ (h9b (vv9 v k x) w, ι') G' B') F2 A2 ∧ F2 0 = k ∧ (0 ≤ k ∧ k ≤ 3) ∧ (k = 0 → x2 = x) ∧ CP9 ι' G' B' F2 A2 b' := by
    rcases res with ⟨r1, rfl, rfl, C2⟩ | ⟨r1, rfl, C2⟩
    · rcases hp2 with ⟨p1, rfl, rfl⟩ | ⟨p1, rfl, rfl⟩
      · first | exact absurd r1 p1 | exact absurd p1 r1 | exact absurd r2 p2 | exact absurd p2 r2 | (exfalso; omega) | (rw [r1] at p1; exact absurd p1 (by decide)) | (rw [r2] at p2; exact absurd p2 (by decide))
      · exact ⟨_, _, _, rfl, rfl, (by simp only [uF_s, uF_n, ne_eq, Nat.reduceEqDiff, not_false_eq_true]), by decide, fun _ => rfl, CP9.cF (by first | rfl | simp only [uF_s, uF_n, uA_s, uA_n, ne_eq, Nat.reduceEqDiff, not_false_eq_true]) (by first | rfl | simp only [uF_s, uF_n, uA_s, uA_n, ne_eq, Nat.reduceEqDiff, not_false_eq_true]) (by first | rfl | simp only [uF_s, uF_n, uA_s, uA_n, ne_eq, Nat.reduceEqDiff, not_false_eq_true]) (by first | rfl | simp only [uF_s, uF_n, uA_s, uA_n, ne_eq, Nat.reduceEqDiff, not_false_eq_true]) (by first | exact r38 | (simp only [uF_s, uF_n, ne_eq, Nat.reduceEqDiff, not_false_eq_true]; exact r38)) (by first | rfl | simp only [uF_s, uF_n, uA_s, uA_n, ne_eq, Nat.reduceEqDiff, not_false_eq_true]) (by first | rfl | simp only [uF_s, uF_n, uA_s, uA_n, ne_eq, Nat.reduceEqDiff, not_false_eq_true]) (by first | rfl | simp only [uF_s, uF_n, uA_s, uA_n, ne_eq, Nat.reduceEqDiff, not_false_eq_true]) (by first | rfl | simp only [uF_s, uF_n, uA_s, uA_n, ne_eq, Nat.reduceEqDiff, not_false_eq_true]) C2⟩
    · rcases hp2 with ⟨p1, rfl, rfl⟩ | ⟨p1, rfl, rfl⟩
      · exact ⟨_, _, _, rfl, rfl, (by simp only [uF_s, uF_n, ne_eq, Nat.reduceEqDiff, not_false_eq_true]), by decide, fun z => absurd z (by decide), CP9.cF (by first | rfl | simp only [uF_s, uF_n, uA_s, uA_n, ne_eq, Nat.reduceEqDiff, not_false_eq_true]) (by first | rfl | simp only [uF_s, uF_n, uA_s, uA_n, ne_eq, Nat.reduceEqDiff, not_false_eq_true]) (by first | rfl | simp only [uF_s, uF_n, uA_s, uA_n, ne_eq, Nat.reduceEqDiff, not_false_eq_true]) (by first | rfl | simp only [uF_s, uF_n, uA_s, uA_n, ne_eq, Nat.reduceEqDiff, not_false_eq_true]) (by first | exact r38 | (simp only [uF_s, uF_n, ne_eq, Nat.reduceEqDiff, not_false_eq_true]; exact r38)) (by first | rfl | simp only [uF_s, uF_n, uA_s, uA_n, ne_eq, Nat.reduceEqDiff, not_false_eq_true]) (by first | rfl | simp only [uF_s, uF_n, uA_s, uA_n, ne_eq, Nat.reduceEqDiff, not_false_eq_true]) (by first | rfl | simp only [uF_s, uF_n, uA_s, uA_n, ne_eq, Nat.reduceEqDiff, not_false_eq_true]) (by first | rfl | simp only [uF_s, uF_n, uA_s, uA_n, ne_eq, Nat.reduceEqDiff, not_false_eq_true]) C2⟩
      · first | exact absurd r1 p1 | exact absurd p1 r1 | exact absurd r2 p2 | exact absurd p2 r2 | (exfalso; omega) | (rw [r1] at p1; exact absurd p1 (by decide)) | (rw [r2] at p2; exact absurd p2 (by decide))
  obtain ⟨F2, A2, x2, rfl, rfl, rfl, hk, hx, C2⟩ := J
  rw [← P9_m]
  exact tail9 (x6 := none) (x2 := x2) (fun z => by rw [vv9_0 z, hx z]) hk dL_law_1010 dL_law_1012 dL_law_1013 dL_law_1016 dL_law_1018 dL_law_1023 dL_law_1025 dL_law_1028 dL_law_1029 dL_law_1030 dL_law_1031 dL_law_1033 dL_law_1034 dL_law_1035 dL_law_1040 (by decide) ⟨hc1, hc2⟩ (gg_widen (k := cs.1 + 100) (n := cs.2 + 2000) (by show cs.1 + 60 + 0 ≤ cs.1 + 100; omega) (by show cs.2 + 1500 + 0 ≤ cs.2 + 2000; omega) (kk _ _ _ _ _ _ _ _ C2))
theorem st_character {nm9 : String} {Γ : GT} {v : Nat → Int64} {w : Nat → UInt64} {ι : Nat → Option XE} {G : Nat → Int} {B : Nat → Int → Int} {F : Nat → Int} {A : Nat → Int → Int} {QF : List Frame → Array Value → State → State → Prop} {cs : Nat × Nat} {b : Nat} {i : Int} (hn : g_n Γ ≤ 2560) (hi : 0 ≤ i ∧ i + 5 ≤ g_n Γ) (C : CP9 ι G B F A b) (hcs : cs.1 + 100 ≤ room_1.cells ∧ cs.2 + 2000 ≤ room_1.slots)
    (kk : ∀ (v' : Nat → Int64) (w' : Nat → UInt64) (ι' : Nat → Option XE) (G' : Nat → Int) (B' : Nat → Int → Int) (F' : Nat → Int) (A' : Nat → Int → Int) (b' : Nat), CP9 ι' G' B' F' A' b' → GG Γ (M_law nm9) QF (cs.1 + 100, cs.2 + 2000) (P9 Γ v' w' ι' G' B' F' A') 2150 (LV9 Γ i none none) []) : GG Γ (M_law nm9) QF cs (P9 Γ v w ι G B F A) 1043 (LV9 Γ i none none) [] := by
  obtain ⟨⟨i1, i2, i3, i4, i5⟩, ⟨e1, e2, e3⟩, p3⟩ := C.2.2.2.2.1
  have sta := C.m.sta
  have lna := C.m.lna
  have exa := C.m.exa
  have h5 : 0 ≤ F 5 ∧ F 5 ≤ 8 := C.2.2.1.1
  have h10 : InR (F 10) := ⟨by omega, by omega⟩
  have r38 := C.r38
  have t6 := C.m.2.2.2.2.2
  have hc1 : cs.1 + 60 ≤ room_1.cells := by have := hcs.1; omega
  have hc2 : cs.2 + 1500 ≤ room_1.slots := by have := hcs.2; omega
  refine gg_aload_n dL_law_1043 rfl rfl ?_
  refine g5 (k := 1) hn rfl rfl hi (by decide) dL_law_1044 dL_law_1045 dL_law_1047 dL_law_1048 dL_law_1049 ?_
  refine g5 (k := 2) hn rfl rfl hi (by decide) dL_law_1050 dL_law_1051 dL_law_1053 dL_law_1054 dL_law_1055 ?_
  refine g5 (k := 3) hn rfl rfl hi (by decide) dL_law_1056 dL_law_1057 dL_law_1059 dL_law_1060 dL_law_1061 ?_
  refine gg_aload_n dL_law_1062 rfl rfl ?_
  refine gg_callSX (As := [.ref (g_L Γ 30), .int (iN (sx Γ (i + 1))), .int (iN (sx Γ (i + 2))), .int (iN (sx Γ (i + 3))), .ref (g_L Γ 24)]) (rest := []) mokh_L_character (wi_30 _ (List.mem_of_getElem? (i := 12) rfl)) (wi_30 _ (List.mem_of_getElem? (i := 13) rfl)) dL_law_1063 rfl ⟨(Nat.le_of_ble_eq_true rfl), (Nat.le_of_ble_eq_true rfl)⟩ ⟨Nat.le_trans (Nat.add_le_add_left ((Nat.le_of_ble_eq_true rfl) : (mR M_L_character).cells ≤ 60) cs.1) hc1, Nat.le_trans (Nat.add_le_add_left ((Nat.le_of_ble_eq_true rfl) : (mR M_L_character).slots ≤ 1500) cs.2) hc2⟩ (Nat.le_of_ble_eq_true rfl) (cw_character (h := mst Γ (h9b v w, ι) F A) C (Eq.trans (mst_hi (by decide)) rfl) (sx_r Γ _) (sx_r Γ _) (sx_r Γ _)) (fun _ _ z => z.elim) (fun r h' hp => ?_)
  obtain ⟨k, x, ι', G', B', b', rfl, rfl, hX, res⟩ := hp
  refine gg_widen (k := cs.1 + 60) (n := cs.2 + 1500) (Nat.add_le_add_left (Nat.le_of_ble_eq_true rfl) _) (Nat.add_le_add_left (Nat.le_of_ble_eq_true rfl) _) ?_
  rw [P9_wl (G := G) (B := B) (ι := ι)]
  change GG Γ (M_law nm9) QF (cs.1 + 60, cs.2 + 1500) (P9 Γ (vv9 v k x) w ι' G' B' F A) 1066 (LV9 Γ i none none) [.int (iN k)]
  refine gg_istore dL_law_1066 (Nat.le_of_ble_eq_true rfl) rfl ?_
  rw [P9_m]
  refine gg_aload_n dL_law_1068 rfl rfl ?_
  refine g5 (k := 1) hn rfl rfl hi (by decide) dL_law_1069 dL_law_1070 dL_law_1072 dL_law_1073 dL_law_1074 ?_
  refine g5 (k := 2) hn rfl rfl hi (by decide) dL_law_1075 dL_law_1076 dL_law_1078 dL_law_1079 dL_law_1080 ?_
  refine g5 (k := 3) hn rfl rfl hi (by decide) dL_law_1081 dL_law_1082 dL_law_1084 dL_law_1085 dL_law_1086 ?_
  refine gc_L_177 rfl dL_law_1087 ⟨(Nat.le_of_ble_eq_true rfl), (Nat.le_of_ble_eq_true rfl)⟩ ⟨hc1, hc2⟩ (Nat.le_of_ble_eq_true rfl) (HAt.mu rfl) (c_X10_character sta lna (sx_r Γ _) (sx_r Γ _) (sx_r Γ _)) (fun _ _ z => z.elim) (fun r2 h2 hp2 => ?_)
  have J : ∃ (F2 : Nat → Int) (A2 : Nat → Int → Int) (x2 : Int), r2 = some (.int (iN x2)) ∧ h2 = mst Γ (gst Γ (h9b (vv9 v k x) w, ι') G' B') F2 A2 ∧ F2 0 = k ∧ (0 ≤ k ∧ k ≤ 3) ∧ (k = 0 → x2 = x) ∧ CP9 ι' G' B' F2 A2 b' := by
    rcases res with ⟨r1, rfl, rfl, C2⟩ | ⟨r1, rfl, C2⟩
    · rcases hp2 with ⟨p1, rfl, rfl⟩ | ⟨p1, rfl, rfl⟩
      · first | exact absurd r1 p1 | exact absurd p1 r1 | exact absurd r2 p2 | exact absurd p2 r2 | (exfalso; omega) | (rw [r1] at p1; exact absurd p1 (by decide)) | (rw [r2] at p2; exact absurd p2 (by decide))
      · exact ⟨_, _, _, rfl, rfl, (by simp only [uF_s, uF_n, ne_eq, Nat.reduceEqDiff, not_false_eq_true]), by decide, fun _ => rfl, CP9.cF (by first | rfl | simp only [uF_s, uF_n, uA_s, uA_n, ne_eq, Nat.reduceEqDiff, not_false_eq_true]) (by first | rfl | simp only [uF_s, uF_n, uA_s, uA_n, ne_eq, Nat.reduceEqDiff, not_false_eq_true]) (by first | rfl | simp only [uF_s, uF_n, uA_s, uA_n, ne_eq, Nat.reduceEqDiff, not_false_eq_true]) (by first | rfl | simp only [uF_s, uF_n, uA_s, uA_n, ne_eq, Nat.reduceEqDiff, not_false_eq_true]) (by first | exact r38 | (simp only [uF_s, uF_n, ne_eq, Nat.reduceEqDiff, not_false_eq_true]; exact r38)) (by first | rfl | simp only [uF_s, uF_n, uA_s, uA_n, ne_eq, Nat.reduceEqDiff, not_false_eq_true]) (by first | rfl | simp only [uF_s, uF_n, uA_s, uA_n, ne_eq, Nat.reduceEqDiff, not_false_eq_true]) (by first | rfl | simp only [uF_s, uF_n, uA_s, uA_n, ne_eq, Nat.reduceEqDiff, not_false_eq_true]) (by first | rfl | simp only [uF_s, uF_n, uA_s, uA_n, ne_eq, Nat.reduceEqDiff, not_false_eq_true]) C2⟩
    · rcases hp2 with ⟨p1, rfl, rfl⟩ | ⟨p1, rfl, rfl⟩
      · exact ⟨_, _, _, rfl, rfl, (by simp only [uF_s, uF_n, ne_eq, Nat.reduceEqDiff, not_false_eq_true]), by decide, fun z => absurd z (by decide), CP9.cF (by first | rfl | simp only [uF_s, uF_n, uA_s, uA_n, ne_eq, Nat.reduceEqDiff, not_false_eq_true]) (by first | rfl | simp only [uF_s, uF_n, uA_s, uA_n, ne_eq, Nat.reduceEqDiff, not_false_eq_true]) (by first | rfl | simp only [uF_s, uF_n, uA_s, uA_n, ne_eq, Nat.reduceEqDiff, not_false_eq_true]) (by first | rfl | simp only [uF_s, uF_n, uA_s, uA_n, ne_eq, Nat.reduceEqDiff, not_false_eq_true]) (by first | exact r38 | (simp only [uF_s, uF_n, ne_eq, Nat.reduceEqDiff, not_false_eq_true]; exact r38)) (by first | rfl | simp only [uF_s, uF_n, uA_s, uA_n, ne_eq, Nat.reduceEqDiff, not_false_eq_true]) (by first | rfl | simp only [uF_s, uF_n, uA_s, uA_n, ne_eq, Nat.reduceEqDiff, not_false_eq_true]) (by first | rfl | simp only [uF_s, uF_n, uA_s, uA_n, ne_eq, Nat.reduceEqDiff, not_false_eq_true]) (by first | rfl | simp only [uF_s, uF_n, uA_s, uA_n, ne_eq, Nat.reduceEqDiff, not_false_eq_true]) C2⟩
      · first | exact absurd r1 p1 | exact absurd p1 r1 | exact absurd r2 p2 | exact absurd p2 r2 | (exfalso; omega) | (rw [r1] at p1; exact absurd p1 (by decide)) | (rw [r2] at p2; exact absurd p2 (by decide))
  obtain ⟨F2, A2, x2, rfl, rfl, rfl, hk, hx, C2⟩ := J
  rw [← P9_m]
  exact tail9 (x6 := none) (x2 := x2) (fun z => by rw [vv9_0 z, hx z]) hk dL_law_1090 dL_law_1092 dL_law_1093 dL_law_1096 dL_law_1098 dL_law_1103 dL_law_1105 dL_law_1108 dL_law_1109 dL_law_1110 dL_law_1111 dL_law_1113 dL_law_1114 dL_law_1115 dL_law_1120 (by decide) ⟨hc1, hc2⟩ (gg_widen (k := cs.1 + 100) (n := cs.2 + 2000) (by show cs.1 + 60 + 0 ≤ cs.1 + 100; omega) (by show cs.2 + 1500 + 0 ≤ cs.2 + 2000; omega) (kk _ _ _ _ _ _ _ _ C2))
theorem st_line {nm9 : String} {Γ : GT} {v : Nat → Int64} {w : Nat → UInt64} {ι : Nat → Option XE} {G : Nat → Int} {B : Nat → Int → Int} {F : Nat → Int} {A : Nat → Int → Int} {QF : List Frame → Array Value → State → State → Prop} {cs : Nat × Nat} {b : Nat} {i : Int} (hn : g_n Γ ≤ 2560) (hi : 0 ≤ i ∧ i + 5 ≤ g_n Γ) (C : CP9 ι G B F A b) (hcs : cs.1 + 100 ≤ room_1.cells ∧ cs.2 + 2000 ≤ room_1.slots)
    (kk : ∀ (v' : Nat → Int64) (w' : Nat → UInt64) (ι' : Nat → Option XE) (G' : Nat → Int) (B' : Nat → Int → Int) (F' : Nat → Int) (A' : Nat → Int → Int) (b' : Nat), CP9 ι' G' B' F' A' b' → GG Γ (M_law nm9) QF (cs.1 + 100, cs.2 + 2000) (P9 Γ v' w' ι' G' B' F' A') 2150 (LV9 Γ i none none) []) : GG Γ (M_law nm9) QF cs (P9 Γ v w ι G B F A) 1123 (LV9 Γ i none none) [] := by
  obtain ⟨⟨i1, i2, i3, i4, i5⟩, ⟨e1, e2, e3⟩, p3⟩ := C.2.2.2.2.1
  have sta := C.m.sta
  have lna := C.m.lna
  have exa := C.m.exa
  have h5 : 0 ≤ F 5 ∧ F 5 ≤ 8 := C.2.2.1.1
  have h10 : InR (F 10) := ⟨by omega, by omega⟩
  have r38 := C.r38
  have t6 := C.m.2.2.2.2.2
  have hc1 : cs.1 + 60 ≤ room_1.cells := by have := hcs.1; omega
  have hc2 : cs.2 + 1500 ≤ room_1.slots := by have := hcs.2; omega
  refine gg_aload_n dL_law_1123 rfl rfl ?_
  refine g5 (k := 1) hn rfl rfl hi (by decide) dL_law_1124 dL_law_1125 dL_law_1127 dL_law_1128 dL_law_1129 ?_
  refine g5 (k := 2) hn rfl rfl hi (by decide) dL_law_1130 dL_law_1131 dL_law_1133 dL_law_1134 dL_law_1135 ?_
  refine g5 (k := 3) hn rfl rfl hi (by decide) dL_law_1136 dL_law_1137 dL_law_1139 dL_law_1140 dL_law_1141 ?_
  refine gg_aload_n dL_law_1142 rfl rfl ?_
  refine gg_callSX (As := [.ref (g_L Γ 30), .int (iN (sx Γ (i + 1))), .int (iN (sx Γ (i + 2))), .int (iN (sx Γ (i + 3))), .ref (g_L Γ 24)]) (rest := []) mokh_L_line (wi_31 _ (List.mem_of_getElem? (i := 0) rfl)) (wi_31 _ (List.mem_of_getElem? (i := 1) rfl)) dL_law_1143 rfl ⟨(Nat.le_of_ble_eq_true rfl), (Nat.le_of_ble_eq_true rfl)⟩ ⟨Nat.le_trans (Nat.add_le_add_left ((Nat.le_of_ble_eq_true rfl) : (mR M_L_line).cells ≤ 60) cs.1) hc1, Nat.le_trans (Nat.add_le_add_left ((Nat.le_of_ble_eq_true rfl) : (mR M_L_line).slots ≤ 1500) cs.2) hc2⟩ (Nat.le_of_ble_eq_true rfl) (cw_line (h := mst Γ (h9b v w, ι) F A) C (Eq.trans (mst_hi (by decide)) rfl) (sx_r Γ _) (sx_r Γ _) (sx_r Γ _)) (fun _ _ z => z.elim) (fun r h' hp => ?_)
  obtain ⟨k, x, ι', G', B', b', rfl, rfl, hX, res⟩ := hp
  refine gg_widen (k := cs.1 + 60) (n := cs.2 + 1500) (Nat.add_le_add_left (Nat.le_of_ble_eq_true rfl) _) (Nat.add_le_add_left (Nat.le_of_ble_eq_true rfl) _) ?_
  rw [P9_wl (G := G) (B := B) (ι := ι)]
  change GG Γ (M_law nm9) QF (cs.1 + 60, cs.2 + 1500) (P9 Γ (vv9 v k x) w ι' G' B' F A) 1146 (LV9 Γ i none none) [.int (iN k)]
  refine gg_istore dL_law_1146 (Nat.le_of_ble_eq_true rfl) rfl ?_
  rw [P9_m]
  refine gg_aload_n dL_law_1148 rfl rfl ?_
  refine g5 (k := 1) hn rfl rfl hi (by decide) dL_law_1149 dL_law_1150 dL_law_1152 dL_law_1153 dL_law_1154 ?_
  refine g5 (k := 2) hn rfl rfl hi (by decide) dL_law_1155 dL_law_1156 dL_law_1158 dL_law_1159 dL_law_1160 ?_
  refine g5 (k := 3) hn rfl rfl hi (by decide) dL_law_1161 dL_law_1162 dL_law_1164 dL_law_1165 dL_law_1166 ?_
  refine gc_L_180 rfl dL_law_1167 ⟨(Nat.le_of_ble_eq_true rfl), (Nat.le_of_ble_eq_true rfl)⟩ ⟨hc1, hc2⟩ (Nat.le_of_ble_eq_true rfl) (HAt.mu rfl) (c3_X10_line sta lna exa (sx_r Γ _) (sx_r Γ _) (sx_r Γ _)) (fun _ _ z => z.elim) (fun r2 h2 hp2 => ?_)
  have J : ∃ (F2 : Nat → Int) (A2 : Nat → Int → Int) (x2 : Int), r2 = some (.int (iN x2)) ∧ h2 = mst Γ (gst Γ (h9b (vv9 v k x) w, ι') G' B') F2 A2 ∧ F2 0 = k ∧ (0 ≤ k ∧ k ≤ 3) ∧ (k = 0 → x2 = x) ∧ CP9 ι' G' B' F2 A2 b' := by
    rcases res with ⟨r1, r2, rfl, r3, C2⟩ | ⟨r1, rfl, C2⟩ | ⟨r1, r2, rfl, C2⟩
    · rcases hp2 with ⟨p1, rfl, rfl⟩ | ⟨p1, F1, F2, A1, A2, rfl, f38, fF, fA, L, ⟨p2, rfl, e0⟩ | ⟨p2, rfl, e0⟩⟩
      · first | exact absurd r1 p1 | exact absurd p1 r1 | exact absurd r2 p2 | exact absurd p2 r2 | (exfalso; omega) | (rw [r1] at p1; exact absurd p1 (by decide)) | (rw [r2] at p2; exact absurd p2 (by decide))
      · first | exact absurd r1 p1 | exact absurd p1 r1 | exact absurd r2 p2 | exact absurd p2 r2 | (exfalso; omega) | (rw [r1] at p1; exact absurd p1 (by decide)) | (rw [r2] at p2; exact absurd p2 (by decide))
      · exact ⟨F2, A2, _, rfl, rfl, e0, by decide, fun _ => (r3 F1 A1 (A 19) L).symm, CP9.cF (fF 5 (by decide)) (fF 6 (by decide)) (fF 8 (by decide)) (fF 10 (by decide)) (by rw [f38]; exact r38) (fA 1 (by decide)) (fA 3 (by decide)) (fA 4 (by decide)) (fA 5 (by decide)) C2⟩
    · rcases hp2 with ⟨p1, rfl, rfl⟩ | ⟨p1, F1, F2, A1, A2, rfl, f38, fF, fA, L, ⟨p2, rfl, e0⟩ | ⟨p2, rfl, e0⟩⟩
      · exact ⟨_, _, _, rfl, rfl, (by simp only [uF_s, uF_n, ne_eq, Nat.reduceEqDiff, not_false_eq_true]), by decide, fun z => absurd z (by decide), CP9.cF (by first | rfl | simp only [uF_s, uF_n, uA_s, uA_n, ne_eq, Nat.reduceEqDiff, not_false_eq_true]) (by first | rfl | simp only [uF_s, uF_n, uA_s, uA_n, ne_eq, Nat.reduceEqDiff, not_false_eq_true]) (by first | rfl | simp only [uF_s, uF_n, uA_s, uA_n, ne_eq, Nat.reduceEqDiff, not_false_eq_true]) (by first | rfl | simp only [uF_s, uF_n, uA_s, uA_n, ne_eq, Nat.reduceEqDiff, not_false_eq_true]) (by first | exact r38 | (simp only [uF_s, uF_n, ne_eq, Nat.reduceEqDiff, not_false_eq_true]; exact r38)) (by first | rfl | simp only [uF_s, uF_n, uA_s, uA_n, ne_eq, Nat.reduceEqDiff, not_false_eq_true]) (by first | rfl | simp only [uF_s, uF_n, uA_s, uA_n, ne_eq, Nat.reduceEqDiff, not_false_eq_true]) (by first | rfl | simp only [uF_s, uF_n, uA_s, uA_n, ne_eq, Nat.reduceEqDiff, not_false_eq_true]) (by first | rfl | simp only [uF_s, uF_n, uA_s, uA_n, ne_eq, Nat.reduceEqDiff, not_false_eq_true]) C2⟩
      · first | exact absurd r1 p1 | exact absurd p1 r1 | exact absurd r2 p2 | exact absurd p2 r2 | (exfalso; omega) | (rw [r1] at p1; exact absurd p1 (by decide)) | (rw [r2] at p2; exact absurd p2 (by decide))
      · first | exact absurd r1 p1 | exact absurd p1 r1 | exact absurd r2 p2 | exact absurd p2 r2 | (exfalso; omega) | (rw [r1] at p1; exact absurd p1 (by decide)) | (rw [r2] at p2; exact absurd p2 (by decide))
    · rcases hp2 with ⟨p1, rfl, rfl⟩ | ⟨p1, F1, F2, A1, A2, rfl, f38, fF, fA, L, ⟨p2, rfl, e0⟩ | ⟨p2, rfl, e0⟩⟩
      · first | exact absurd r1 p1 | exact absurd p1 r1 | exact absurd r2 p2 | exact absurd p2 r2 | (exfalso; omega) | (rw [r1] at p1; exact absurd p1 (by decide)) | (rw [r2] at p2; exact absurd p2 (by decide))
      · exact ⟨F2, A2, _, rfl, rfl, e0, by decide, fun z => absurd z (by decide), CP9.cF (fF 5 (by decide)) (fF 6 (by decide)) (fF 8 (by decide)) (fF 10 (by decide)) (by rw [f38]; exact r38) (fA 1 (by decide)) (fA 3 (by decide)) (fA 4 (by decide)) (fA 5 (by decide)) C2⟩
      · first | exact absurd r1 p1 | exact absurd p1 r1 | exact absurd r2 p2 | exact absurd p2 r2 | (exfalso; omega) | (rw [r1] at p1; exact absurd p1 (by decide)) | (rw [r2] at p2; exact absurd p2 (by decide))
  obtain ⟨F2, A2, x2, rfl, rfl, rfl, hk, hx, C2⟩ := J
  rw [← P9_m]
  exact tail9 (x6 := none) (x2 := x2) (fun z => by rw [vv9_0 z, hx z]) hk dL_law_1170 dL_law_1172 dL_law_1173 dL_law_1176 dL_law_1178 dL_law_1183 dL_law_1185 dL_law_1188 dL_law_1189 dL_law_1190 dL_law_1191 dL_law_1193 dL_law_1194 dL_law_1195 dL_law_1200 (by decide) ⟨hc1, hc2⟩ (gg_widen (k := cs.1 + 100) (n := cs.2 + 2000) (by show cs.1 + 60 + 0 ≤ cs.1 + 100; omega) (by show cs.2 + 1500 + 0 ≤ cs.2 + 2000; omega) (kk _ _ _ _ _ _ _ _ C2))
theorem st_word {nm9 : String} {Γ : GT} {v : Nat → Int64} {w : Nat → UInt64} {ι : Nat → Option XE} {G : Nat → Int} {B : Nat → Int → Int} {F : Nat → Int} {A : Nat → Int → Int} {QF : List Frame → Array Value → State → State → Prop} {cs : Nat × Nat} {b : Nat} {i : Int} (hn : g_n Γ ≤ 2560) (hi : 0 ≤ i ∧ i + 5 ≤ g_n Γ) (C : CP9 ι G B F A b) (hcs : cs.1 + 100 ≤ room_1.cells ∧ cs.2 + 2000 ≤ room_1.slots)
    (kk : ∀ (v' : Nat → Int64) (w' : Nat → UInt64) (ι' : Nat → Option XE) (G' : Nat → Int) (B' : Nat → Int → Int) (F' : Nat → Int) (A' : Nat → Int → Int) (b' : Nat), CP9 ι' G' B' F' A' b' → GG Γ (M_law nm9) QF (cs.1 + 100, cs.2 + 2000) (P9 Γ v' w' ι' G' B' F' A') 2150 (LV9 Γ i none none) []) : GG Γ (M_law nm9) QF cs (P9 Γ v w ι G B F A) 1203 (LV9 Γ i none none) [] := by
  obtain ⟨⟨i1, i2, i3, i4, i5⟩, ⟨e1, e2, e3⟩, p3⟩ := C.2.2.2.2.1
  have sta := C.m.sta
  have lna := C.m.lna
  have exa := C.m.exa
  have h5 : 0 ≤ F 5 ∧ F 5 ≤ 8 := C.2.2.1.1
  have h10 : InR (F 10) := ⟨by omega, by omega⟩
  have r38 := C.r38
  have t6 := C.m.2.2.2.2.2
  have hc1 : cs.1 + 60 ≤ room_1.cells := by have := hcs.1; omega
  have hc2 : cs.2 + 1500 ≤ room_1.slots := by have := hcs.2; omega
  refine gg_aload_n dL_law_1203 rfl rfl ?_
  refine g5 (k := 1) hn rfl rfl hi (by decide) dL_law_1204 dL_law_1205 dL_law_1207 dL_law_1208 dL_law_1209 ?_
  refine g5 (k := 2) hn rfl rfl hi (by decide) dL_law_1210 dL_law_1211 dL_law_1213 dL_law_1214 dL_law_1215 ?_
  refine g5 (k := 3) hn rfl rfl hi (by decide) dL_law_1216 dL_law_1217 dL_law_1219 dL_law_1220 dL_law_1221 ?_
  refine g5 (k := 4) hn rfl rfl hi (by decide) dL_law_1222 dL_law_1223 dL_law_1225 dL_law_1226 dL_law_1227 ?_
  refine gg_aload_n dL_law_1228 rfl rfl ?_
  refine gg_callSX (As := [.ref (g_L Γ 30), .int (iN (sx Γ (i + 1))), .int (iN (sx Γ (i + 2))), .int (iN (sx Γ (i + 3))), .int (iN (sx Γ (i + 4))), .ref (g_L Γ 24)]) (rest := []) mokh_L_word (wi_38 _ (List.mem_of_getElem? (i := 20) rfl)) (wi_38 _ (List.mem_of_getElem? (i := 21) rfl)) dL_law_1229 rfl ⟨(Nat.le_of_ble_eq_true rfl), (Nat.le_of_ble_eq_true rfl)⟩ ⟨Nat.le_trans (Nat.add_le_add_left ((Nat.le_of_ble_eq_true rfl) : (mR M_L_word).cells ≤ 60) cs.1) hc1, Nat.le_trans (Nat.add_le_add_left ((Nat.le_of_ble_eq_true rfl) : (mR M_L_word).slots ≤ 1500) cs.2) hc2⟩ (Nat.le_of_ble_eq_true rfl) (cw_word (h := mst Γ (h9b v w, ι) F A) C (Eq.trans (mst_hi (by decide)) rfl) (sx_r Γ _) (sx_r Γ _) (sx_r Γ _) (sx_r Γ _)) (fun _ _ z => z.elim) (fun r h' hp => ?_)
  obtain ⟨k, x, ι', G', B', b', rfl, rfl, hX, res⟩ := hp
  refine gg_widen (k := cs.1 + 60) (n := cs.2 + 1500) (Nat.add_le_add_left (Nat.le_of_ble_eq_true rfl) _) (Nat.add_le_add_left (Nat.le_of_ble_eq_true rfl) _) ?_
  rw [P9_wl (G := G) (B := B) (ι := ι)]
  change GG Γ (M_law nm9) QF (cs.1 + 60, cs.2 + 1500) (P9 Γ (vv9 v k x) w ι' G' B' F A) 1232 (LV9 Γ i none none) [.int (iN k)]
  refine gg_istore dL_law_1232 (Nat.le_of_ble_eq_true rfl) rfl ?_
  rw [P9_m]
  refine gg_aload_n dL_law_1234 rfl rfl ?_
  refine g5 (k := 1) hn rfl rfl hi (by decide) dL_law_1235 dL_law_1236 dL_law_1238 dL_law_1239 dL_law_1240 ?_
  refine g5 (k := 2) hn rfl rfl hi (by decide) dL_law_1241 dL_law_1242 dL_law_1244 dL_law_1245 dL_law_1246 ?_
  refine g5 (k := 3) hn rfl rfl hi (by decide) dL_law_1247 dL_law_1248 dL_law_1250 dL_law_1251 dL_law_1252 ?_
  refine g5 (k := 4) hn rfl rfl hi (by decide) dL_law_1253 dL_law_1254 dL_law_1256 dL_law_1257 dL_law_1258 ?_
  refine gc_L_184 rfl dL_law_1259 ⟨(Nat.le_of_ble_eq_true rfl), (Nat.le_of_ble_eq_true rfl)⟩ ⟨hc1, hc2⟩ (Nat.le_of_ble_eq_true rfl) (HAt.mu rfl) (c3_X10_word_ sta lna exa (sx_r Γ _) (sx_r Γ _) (sx_r Γ _) (sx_r Γ _)) (fun _ _ z => z.elim) (fun r2 h2 hp2 => ?_)
  have J : ∃ (F2 : Nat → Int) (A2 : Nat → Int → Int) (x2 : Int), r2 = some (.int (iN x2)) ∧ h2 = mst Γ (gst Γ (h9b (vv9 v k x) w, ι') G' B') F2 A2 ∧ F2 0 = k ∧ (0 ≤ k ∧ k ≤ 3) ∧ (k = 0 → x2 = x) ∧ CP9 ι' G' B' F2 A2 b' := by
    rcases res with ⟨r1, r2, rfl, r3, C2⟩ | ⟨rfl, r3, C2⟩ | ⟨r1, r2, rfl, r3, C2⟩
    · rcases hp2 with ⟨p1, rfl, rfl⟩ | ⟨p1, F1, F2, A1, A2, rfl, f38, fF, fA, L, ⟨p2, rfl, e0⟩ | ⟨p2, p3, rfl, e0⟩ | ⟨p2, p3, rfl, e0⟩⟩
      · exact absurd r1 p1
      · exact absurd (r3 F1 A1 L).1 p2
      · exact absurd r2 p3
      · exact ⟨F2, A2, _, rfl, rfl, e0, by decide, fun _ => (r3 F1 A1 L).2.symm, CP9.cF (fF 5 (by decide)) (fF 6 (by decide)) (fF 8 (by decide)) (fF 10 (by decide)) (by rw [f38]; exact r38) (fA 1 (by decide)) (fA 3 (by decide)) (fA 4 (by decide)) (fA 5 (by decide)) C2⟩
    · rcases hp2 with ⟨p1, rfl, rfl⟩ | ⟨p1, F1, F2, A1, A2, rfl, f38, fF, fA, L, ⟨p2, rfl, e0⟩ | ⟨p2, p3, rfl, e0⟩ | ⟨p2, p3, rfl, e0⟩⟩
      · exact ⟨_, _, _, rfl, rfl, (by simp only [uF_s, uF_n, ne_eq, Nat.reduceEqDiff, not_false_eq_true]), by decide, fun z => absurd z (by decide), CP9.cF (by first | rfl | simp only [uF_s, uF_n, uA_s, uA_n, ne_eq, Nat.reduceEqDiff, not_false_eq_true]) (by first | rfl | simp only [uF_s, uF_n, uA_s, uA_n, ne_eq, Nat.reduceEqDiff, not_false_eq_true]) (by first | rfl | simp only [uF_s, uF_n, uA_s, uA_n, ne_eq, Nat.reduceEqDiff, not_false_eq_true]) (by first | rfl | simp only [uF_s, uF_n, uA_s, uA_n, ne_eq, Nat.reduceEqDiff, not_false_eq_true]) (by first | exact r38 | (simp only [uF_s, uF_n, ne_eq, Nat.reduceEqDiff, not_false_eq_true]; exact r38)) (by first | rfl | simp only [uF_s, uF_n, uA_s, uA_n, ne_eq, Nat.reduceEqDiff, not_false_eq_true]) (by first | rfl | simp only [uF_s, uF_n, uA_s, uA_n, ne_eq, Nat.reduceEqDiff, not_false_eq_true]) (by first | rfl | simp only [uF_s, uF_n, uA_s, uA_n, ne_eq, Nat.reduceEqDiff, not_false_eq_true]) (by first | rfl | simp only [uF_s, uF_n, uA_s, uA_n, ne_eq, Nat.reduceEqDiff, not_false_eq_true]) C2⟩
      · exact ⟨F2, A2, _, rfl, rfl, e0, by decide, fun z => absurd z (by decide), CP9.cF (fF 5 (by decide)) (fF 6 (by decide)) (fF 8 (by decide)) (fF 10 (by decide)) (by rw [f38]; exact r38) (fA 1 (by decide)) (fA 3 (by decide)) (fA 4 (by decide)) (fA 5 (by decide)) C2⟩
      · exact absurd p2 (r3 p1 F1 A1 L)
      · exact absurd p2 (r3 p1 F1 A1 L)
    · rcases hp2 with ⟨p1, rfl, rfl⟩ | ⟨p1, F1, F2, A1, A2, rfl, f38, fF, fA, L, ⟨p2, rfl, e0⟩ | ⟨p2, p3, rfl, e0⟩ | ⟨p2, p3, rfl, e0⟩⟩
      · exact absurd r1 p1
      · exact absurd (r3 F1 A1 L) p2
      · exact ⟨F2, A2, _, rfl, rfl, e0, by decide, fun z => absurd z (by decide), CP9.cF (fF 5 (by decide)) (fF 6 (by decide)) (fF 8 (by decide)) (fF 10 (by decide)) (by rw [f38]; exact r38) (fA 1 (by decide)) (fA 3 (by decide)) (fA 4 (by decide)) (fA 5 (by decide)) C2⟩
      · exact absurd p3 r2
  obtain ⟨F2, A2, x2, rfl, rfl, rfl, hk, hx, C2⟩ := J
  rw [← P9_m]
  exact tail9 (x6 := none) (x2 := x2) (fun z => by rw [vv9_0 z, hx z]) hk dL_law_1262 dL_law_1264 dL_law_1265 dL_law_1268 dL_law_1270 dL_law_1275 dL_law_1277 dL_law_1280 dL_law_1281 dL_law_1282 dL_law_1283 dL_law_1285 dL_law_1286 dL_law_1287 dL_law_1292 (by decide) ⟨hc1, hc2⟩ (gg_widen (k := cs.1 + 100) (n := cs.2 + 2000) (by show cs.1 + 60 + 0 ≤ cs.1 + 100; omega) (by show cs.2 + 1500 + 0 ≤ cs.2 + 2000; omega) (kk _ _ _ _ _ _ _ _ C2))
theorem st_rhyme {nm9 : String} {Γ : GT} {v : Nat → Int64} {w : Nat → UInt64} {ι : Nat → Option XE} {G : Nat → Int} {B : Nat → Int → Int} {F : Nat → Int} {A : Nat → Int → Int} {QF : List Frame → Array Value → State → State → Prop} {cs : Nat × Nat} {b : Nat} {i : Int} (hn : g_n Γ ≤ 2560) (hi : 0 ≤ i ∧ i + 5 ≤ g_n Γ) (C : CP9 ι G B F A b) (hcs : cs.1 + 100 ≤ room_1.cells ∧ cs.2 + 2000 ≤ room_1.slots)
    (kk : ∀ (v' : Nat → Int64) (w' : Nat → UInt64) (ι' : Nat → Option XE) (G' : Nat → Int) (B' : Nat → Int → Int) (F' : Nat → Int) (A' : Nat → Int → Int) (b' : Nat), CP9 ι' G' B' F' A' b' → GG Γ (M_law nm9) QF (cs.1 + 100, cs.2 + 2000) (P9 Γ v' w' ι' G' B' F' A') 2150 (LV9 Γ i none none) []) : GG Γ (M_law nm9) QF cs (P9 Γ v w ι G B F A) 1295 (LV9 Γ i none none) [] := by
  obtain ⟨⟨i1, i2, i3, i4, i5⟩, ⟨e1, e2, e3⟩, p3⟩ := C.2.2.2.2.1
  have sta := C.m.sta
  have lna := C.m.lna
  have exa := C.m.exa
  have h5 : 0 ≤ F 5 ∧ F 5 ≤ 8 := C.2.2.1.1
  have h10 : InR (F 10) := ⟨by omega, by omega⟩
  have r38 := C.r38
  have t6 := C.m.2.2.2.2.2
  have hc1 : cs.1 + 60 ≤ room_1.cells := by have := hcs.1; omega
  have hc2 : cs.2 + 1500 ≤ room_1.slots := by have := hcs.2; omega
  refine gg_aload_n dL_law_1295 rfl rfl ?_
  refine g5 (k := 1) hn rfl rfl hi (by decide) dL_law_1296 dL_law_1297 dL_law_1299 dL_law_1300 dL_law_1301 ?_
  refine g5 (k := 2) hn rfl rfl hi (by decide) dL_law_1302 dL_law_1303 dL_law_1305 dL_law_1306 dL_law_1307 ?_
  refine g5 (k := 3) hn rfl rfl hi (by decide) dL_law_1308 dL_law_1309 dL_law_1311 dL_law_1312 dL_law_1313 ?_
  refine gg_aload_n dL_law_1314 rfl rfl ?_
  refine gg_callSX (As := [.ref (g_L Γ 30), .int (iN (sx Γ (i + 1))), .int (iN (sx Γ (i + 2))), .int (iN (sx Γ (i + 3))), .ref (g_L Γ 24)]) (rest := []) mokh_L_rhyme (wi_39 _ (List.mem_of_getElem? (i := 19) rfl)) (wi_39 _ (List.mem_of_getElem? (i := 20) rfl)) dL_law_1315 rfl ⟨(Nat.le_of_ble_eq_true rfl), (Nat.le_of_ble_eq_true rfl)⟩ ⟨Nat.le_trans (Nat.add_le_add_left ((Nat.le_of_ble_eq_true rfl) : (mR M_L_rhyme).cells ≤ 60) cs.1) hc1, Nat.le_trans (Nat.add_le_add_left ((Nat.le_of_ble_eq_true rfl) : (mR M_L_rhyme).slots ≤ 1500) cs.2) hc2⟩ (Nat.le_of_ble_eq_true rfl) (cw_rhyme (h := mst Γ (h9b v w, ι) F A) C (Eq.trans (mst_hi (by decide)) rfl) (sx_r Γ _) (sx_r Γ _) (sx_r Γ _)) (fun _ _ z => z.elim) (fun r h' hp => ?_)
  obtain ⟨k, x, ι', G', B', b', rfl, rfl, hX, res⟩ := hp
  refine gg_widen (k := cs.1 + 60) (n := cs.2 + 1500) (Nat.add_le_add_left (Nat.le_of_ble_eq_true rfl) _) (Nat.add_le_add_left (Nat.le_of_ble_eq_true rfl) _) ?_
  rw [P9_wl (G := G) (B := B) (ι := ι)]
  change GG Γ (M_law nm9) QF (cs.1 + 60, cs.2 + 1500) (P9 Γ (vv9 v k x) w ι' G' B' F A) 1318 (LV9 Γ i none none) [.int (iN k)]
  refine gg_istore dL_law_1318 (Nat.le_of_ble_eq_true rfl) rfl ?_
  rw [P9_m]
  refine gg_aload_n dL_law_1320 rfl rfl ?_
  refine g5 (k := 1) hn rfl rfl hi (by decide) dL_law_1321 dL_law_1322 dL_law_1324 dL_law_1325 dL_law_1326 ?_
  refine g5 (k := 2) hn rfl rfl hi (by decide) dL_law_1327 dL_law_1328 dL_law_1330 dL_law_1331 dL_law_1332 ?_
  refine g5 (k := 3) hn rfl rfl hi (by decide) dL_law_1333 dL_law_1334 dL_law_1336 dL_law_1337 dL_law_1338 ?_
  refine gc_L_187 rfl dL_law_1339 ⟨(Nat.le_of_ble_eq_true rfl), (Nat.le_of_ble_eq_true rfl)⟩ ⟨hc1, hc2⟩ (Nat.le_of_ble_eq_true rfl) (HAt.mu rfl) (c3_X10_rhyme sta lna exa (sx_r Γ _) (sx_r Γ _) (sx_r Γ _)) (fun _ _ z => z.elim) (fun r2 h2 hp2 => ?_)
  have J : ∃ (F2 : Nat → Int) (A2 : Nat → Int → Int) (x2 : Int), r2 = some (.int (iN x2)) ∧ h2 = mst Γ (gst Γ (h9b (vv9 v k x) w, ι') G' B') F2 A2 ∧ F2 0 = k ∧ (0 ≤ k ∧ k ≤ 3) ∧ (k = 0 → x2 = x) ∧ CP9 ι' G' B' F2 A2 b' := by
    rcases res with ⟨r1, rfl, rfl, C2⟩ | ⟨r1, rfl, C2⟩
    · rcases hp2 with ⟨p1, rfl, rfl⟩ | ⟨p1, F2, A2, rfl, f38, fF, fA, ⟨p2, rfl, e0⟩ | ⟨p2, rfl, e0⟩⟩
      · exact absurd r1.1 p1
      · exact absurd r1.2 p2
      · exact ⟨F2, A2, _, rfl, rfl, e0, by decide, fun _ => rfl, CP9.cF (fF 5 (by decide)) (fF 6 (by decide)) (fF 8 (by decide)) (fF 10 (by decide)) (by rw [f38]; exact r38) (fA 1 (by decide)) (fA 3 (by decide)) (fA 4 (by decide)) (fA 5 (by decide)) C2⟩
    · rcases hp2 with ⟨p1, rfl, rfl⟩ | ⟨p1, F2, A2, rfl, f38, fF, fA, ⟨p2, rfl, e0⟩ | ⟨p2, rfl, e0⟩⟩
      · exact ⟨_, _, _, rfl, rfl, (by simp only [uF_s, uF_n, ne_eq, Nat.reduceEqDiff, not_false_eq_true]), by decide, fun z => absurd z (by decide), CP9.cF (by first | rfl | simp only [uF_s, uF_n, uA_s, uA_n, ne_eq, Nat.reduceEqDiff, not_false_eq_true]) (by first | rfl | simp only [uF_s, uF_n, uA_s, uA_n, ne_eq, Nat.reduceEqDiff, not_false_eq_true]) (by first | rfl | simp only [uF_s, uF_n, uA_s, uA_n, ne_eq, Nat.reduceEqDiff, not_false_eq_true]) (by first | rfl | simp only [uF_s, uF_n, uA_s, uA_n, ne_eq, Nat.reduceEqDiff, not_false_eq_true]) (by first | exact r38 | (simp only [uF_s, uF_n, ne_eq, Nat.reduceEqDiff, not_false_eq_true]; exact r38)) (by first | rfl | simp only [uF_s, uF_n, uA_s, uA_n, ne_eq, Nat.reduceEqDiff, not_false_eq_true]) (by first | rfl | simp only [uF_s, uF_n, uA_s, uA_n, ne_eq, Nat.reduceEqDiff, not_false_eq_true]) (by first | rfl | simp only [uF_s, uF_n, uA_s, uA_n, ne_eq, Nat.reduceEqDiff, not_false_eq_true]) (by first | rfl | simp only [uF_s, uF_n, uA_s, uA_n, ne_eq, Nat.reduceEqDiff, not_false_eq_true]) C2⟩
      · exact ⟨F2, A2, _, rfl, rfl, e0, by decide, fun z => absurd z (by decide), CP9.cF (fF 5 (by decide)) (fF 6 (by decide)) (fF 8 (by decide)) (fF 10 (by decide)) (by rw [f38]; exact r38) (fA 1 (by decide)) (fA 3 (by decide)) (fA 4 (by decide)) (fA 5 (by decide)) C2⟩
      · exact absurd ⟨p1, p2⟩ r1
  obtain ⟨F2, A2, x2, rfl, rfl, rfl, hk, hx, C2⟩ := J
  rw [← P9_m]
  exact tail9 (x6 := none) (x2 := x2) (fun z => by rw [vv9_0 z, hx z]) hk dL_law_1342 dL_law_1344 dL_law_1345 dL_law_1348 dL_law_1350 dL_law_1355 dL_law_1357 dL_law_1360 dL_law_1361 dL_law_1362 dL_law_1363 dL_law_1365 dL_law_1366 dL_law_1367 dL_law_1372 (by decide) ⟨hc1, hc2⟩ (gg_widen (k := cs.1 + 100) (n := cs.2 + 2000) (by show cs.1 + 60 + 0 ≤ cs.1 + 100; omega) (by show cs.2 + 1500 + 0 ≤ cs.2 + 2000; omega) (kk _ _ _ _ _ _ _ _ C2))
theorem st_rhymes {nm9 : String} {Γ : GT} {v : Nat → Int64} {w : Nat → UInt64} {ι : Nat → Option XE} {G : Nat → Int} {B : Nat → Int → Int} {F : Nat → Int} {A : Nat → Int → Int} {QF : List Frame → Array Value → State → State → Prop} {cs : Nat × Nat} {b : Nat} {i : Int} (hn : g_n Γ ≤ 2560) (hi : 0 ≤ i ∧ i + 5 ≤ g_n Γ) (C : CP9 ι G B F A b) (hcs : cs.1 + 100 ≤ room_1.cells ∧ cs.2 + 2000 ≤ room_1.slots)
    (kk : ∀ (v' : Nat → Int64) (w' : Nat → UInt64) (ι' : Nat → Option XE) (G' : Nat → Int) (B' : Nat → Int → Int) (F' : Nat → Int) (A' : Nat → Int → Int) (b' : Nat), CP9 ι' G' B' F' A' b' → GG Γ (M_law nm9) QF (cs.1 + 100, cs.2 + 2000) (P9 Γ v' w' ι' G' B' F' A') 2150 (LV9 Γ i none none) []) : GG Γ (M_law nm9) QF cs (P9 Γ v w ι G B F A) 1375 (LV9 Γ i none none) [] := by
  obtain ⟨⟨i1, i2, i3, i4, i5⟩, ⟨e1, e2, e3⟩, p3⟩ := C.2.2.2.2.1
  have sta := C.m.sta
  have lna := C.m.lna
  have exa := C.m.exa
  have h5 : 0 ≤ F 5 ∧ F 5 ≤ 8 := C.2.2.1.1
  have h10 : InR (F 10) := ⟨by omega, by omega⟩
  have r38 := C.r38
  have t6 := C.m.2.2.2.2.2
  have hc1 : cs.1 + 60 ≤ room_1.cells := by have := hcs.1; omega
  have hc2 : cs.2 + 1500 ≤ room_1.slots := by have := hcs.2; omega
  refine gg_aload_n dL_law_1375 rfl rfl ?_
  refine g5 (k := 1) hn rfl rfl hi (by decide) dL_law_1376 dL_law_1377 dL_law_1379 dL_law_1380 dL_law_1381 ?_
  refine g5 (k := 2) hn rfl rfl hi (by decide) dL_law_1382 dL_law_1383 dL_law_1385 dL_law_1386 dL_law_1387 ?_
  refine g5 (k := 3) hn rfl rfl hi (by decide) dL_law_1388 dL_law_1389 dL_law_1391 dL_law_1392 dL_law_1393 ?_
  refine gg_aload_n dL_law_1394 rfl rfl ?_
  refine gg_callSX (As := [.ref (g_L Γ 30), .int (iN (sx Γ (i + 1))), .int (iN (sx Γ (i + 2))), .int (iN (sx Γ (i + 3))), .ref (g_L Γ 24)]) (rest := []) mokh_L_rhymes (wi_40 _ (List.mem_of_getElem? (i := 6) rfl)) (wi_40 _ (List.mem_of_getElem? (i := 7) rfl)) dL_law_1395 rfl ⟨(Nat.le_of_ble_eq_true rfl), (Nat.le_of_ble_eq_true rfl)⟩ ⟨Nat.le_trans (Nat.add_le_add_left ((Nat.le_of_ble_eq_true rfl) : (mR M_L_rhymes).cells ≤ 60) cs.1) hc1, Nat.le_trans (Nat.add_le_add_left ((Nat.le_of_ble_eq_true rfl) : (mR M_L_rhymes).slots ≤ 1500) cs.2) hc2⟩ (Nat.le_of_ble_eq_true rfl) (cw_rhymes (h := mst Γ (h9b v w, ι) F A) C (Eq.trans (mst_hi (by decide)) rfl) (sx_r Γ _) (sx_r Γ _) (sx_r Γ _)) (fun _ _ z => z.elim) (fun r h' hp => ?_)
  obtain ⟨k, x, ι', G', B', b', rfl, rfl, hX, res⟩ := hp
  refine gg_widen (k := cs.1 + 60) (n := cs.2 + 1500) (Nat.add_le_add_left (Nat.le_of_ble_eq_true rfl) _) (Nat.add_le_add_left (Nat.le_of_ble_eq_true rfl) _) ?_
  rw [P9_wl (G := G) (B := B) (ι := ι)]
  change GG Γ (M_law nm9) QF (cs.1 + 60, cs.2 + 1500) (P9 Γ (vv9 v k x) w ι' G' B' F A) 1398 (LV9 Γ i none none) [.int (iN k)]
  refine gg_istore dL_law_1398 (Nat.le_of_ble_eq_true rfl) rfl ?_
  rw [P9_m]
  refine gg_aload_n dL_law_1400 rfl rfl ?_
  refine g5 (k := 1) hn rfl rfl hi (by decide) dL_law_1401 dL_law_1402 dL_law_1404 dL_law_1405 dL_law_1406 ?_
  refine g5 (k := 2) hn rfl rfl hi (by decide) dL_law_1407 dL_law_1408 dL_law_1410 dL_law_1411 dL_law_1412 ?_
  refine g5 (k := 3) hn rfl rfl hi (by decide) dL_law_1413 dL_law_1414 dL_law_1416 dL_law_1417 dL_law_1418 ?_
  refine gc_L_190 rfl dL_law_1419 ⟨(Nat.le_of_ble_eq_true rfl), (Nat.le_of_ble_eq_true rfl)⟩ ⟨hc1, hc2⟩ (Nat.le_of_ble_eq_true rfl) (HAt.mu rfl) (c3_X10_rhymes sta lna exa (sx_r Γ _) (sx_r Γ _) (sx_r Γ _)) (fun _ _ z => z.elim) (fun r2 h2 hp2 => ?_)
  have J : ∃ (F2 : Nat → Int) (A2 : Nat → Int → Int) (x2 : Int), r2 = some (.int (iN x2)) ∧ h2 = mst Γ (gst Γ (h9b (vv9 v k x) w, ι') G' B') F2 A2 ∧ F2 0 = k ∧ (0 ≤ k ∧ k ≤ 3) ∧ (k = 0 → x2 = x) ∧ CP9 ι' G' B' F2 A2 b' := by
    rcases res with ⟨r1, rfl, rfl, C2⟩ | ⟨r1, rfl, C2⟩
    · rcases hp2 with ⟨p1, rfl, rfl⟩ | ⟨p1, F2, A2, rfl, f38, fF, fA, rfl, e0⟩
      · first | exact absurd r1 p1 | exact absurd p1 r1 | exact absurd r2 p2 | exact absurd p2 r2 | (exfalso; omega) | (rw [r1] at p1; exact absurd p1 (by decide)) | (rw [r2] at p2; exact absurd p2 (by decide))
      · exact ⟨F2, A2, _, rfl, rfl, e0, by decide, fun _ => rfl, CP9.cF (fF 5 (by decide)) (fF 6 (by decide)) (fF 8 (by decide)) (fF 10 (by decide)) (by rw [f38]; exact r38) (fA 1 (by decide)) (fA 3 (by decide)) (fA 4 (by decide)) (fA 5 (by decide)) C2⟩
    · rcases hp2 with ⟨p1, rfl, rfl⟩ | ⟨p1, F2, A2, rfl, f38, fF, fA, rfl, e0⟩
      · exact ⟨_, _, _, rfl, rfl, (by simp only [uF_s, uF_n, ne_eq, Nat.reduceEqDiff, not_false_eq_true]), by decide, fun z => absurd z (by decide), CP9.cF (by first | rfl | simp only [uF_s, uF_n, uA_s, uA_n, ne_eq, Nat.reduceEqDiff, not_false_eq_true]) (by first | rfl | simp only [uF_s, uF_n, uA_s, uA_n, ne_eq, Nat.reduceEqDiff, not_false_eq_true]) (by first | rfl | simp only [uF_s, uF_n, uA_s, uA_n, ne_eq, Nat.reduceEqDiff, not_false_eq_true]) (by first | rfl | simp only [uF_s, uF_n, uA_s, uA_n, ne_eq, Nat.reduceEqDiff, not_false_eq_true]) (by first | exact r38 | (simp only [uF_s, uF_n, ne_eq, Nat.reduceEqDiff, not_false_eq_true]; exact r38)) (by first | rfl | simp only [uF_s, uF_n, uA_s, uA_n, ne_eq, Nat.reduceEqDiff, not_false_eq_true]) (by first | rfl | simp only [uF_s, uF_n, uA_s, uA_n, ne_eq, Nat.reduceEqDiff, not_false_eq_true]) (by first | rfl | simp only [uF_s, uF_n, uA_s, uA_n, ne_eq, Nat.reduceEqDiff, not_false_eq_true]) (by first | rfl | simp only [uF_s, uF_n, uA_s, uA_n, ne_eq, Nat.reduceEqDiff, not_false_eq_true]) C2⟩
      · first | exact absurd r1 p1 | exact absurd p1 r1 | exact absurd r2 p2 | exact absurd p2 r2 | (exfalso; omega) | (rw [r1] at p1; exact absurd p1 (by decide)) | (rw [r2] at p2; exact absurd p2 (by decide))
  obtain ⟨F2, A2, x2, rfl, rfl, rfl, hk, hx, C2⟩ := J
  rw [← P9_m]
  exact tail9 (x6 := none) (x2 := x2) (fun z => by rw [vv9_0 z, hx z]) hk dL_law_1422 dL_law_1424 dL_law_1425 dL_law_1428 dL_law_1430 dL_law_1435 dL_law_1437 dL_law_1440 dL_law_1441 dL_law_1442 dL_law_1443 dL_law_1445 dL_law_1446 dL_law_1447 dL_law_1452 (by decide) ⟨hc1, hc2⟩ (gg_widen (k := cs.1 + 100) (n := cs.2 + 2000) (by show cs.1 + 60 + 0 ≤ cs.1 + 100; omega) (by show cs.2 + 1500 + 0 ≤ cs.2 + 2000; omega) (kk _ _ _ _ _ _ _ _ C2))
theorem st_cost {nm9 : String} {Γ : GT} {v : Nat → Int64} {w : Nat → UInt64} {ι : Nat → Option XE} {G : Nat → Int} {B : Nat → Int → Int} {F : Nat → Int} {A : Nat → Int → Int} {QF : List Frame → Array Value → State → State → Prop} {cs : Nat × Nat} {b : Nat} {i : Int} (hn : g_n Γ ≤ 2560) (hi : 0 ≤ i ∧ i + 5 ≤ g_n Γ) (C : CP9 ι G B F A b) (hcs : cs.1 + 100 ≤ room_1.cells ∧ cs.2 + 2000 ≤ room_1.slots)
    (kk : ∀ (v' : Nat → Int64) (w' : Nat → UInt64) (ι' : Nat → Option XE) (G' : Nat → Int) (B' : Nat → Int → Int) (F' : Nat → Int) (A' : Nat → Int → Int) (b' : Nat), CP9 ι' G' B' F' A' b' → GG Γ (M_law nm9) QF (cs.1 + 100, cs.2 + 2000) (P9 Γ v' w' ι' G' B' F' A') 2150 (LV9 Γ i none none) []) : GG Γ (M_law nm9) QF cs (P9 Γ v w ι G B F A) 1455 (LV9 Γ i none none) [] := by
  obtain ⟨⟨i1, i2, i3, i4, i5⟩, ⟨e1, e2, e3⟩, p3⟩ := C.2.2.2.2.1
  have sta := C.m.sta
  have lna := C.m.lna
  have exa := C.m.exa
  have h5 : 0 ≤ F 5 ∧ F 5 ≤ 8 := C.2.2.1.1
  have h10 : InR (F 10) := ⟨by omega, by omega⟩
  have r38 := C.r38
  have t6 := C.m.2.2.2.2.2
  have hc1 : cs.1 + 60 ≤ room_1.cells := by have := hcs.1; omega
  have hc2 : cs.2 + 1500 ≤ room_1.slots := by have := hcs.2; omega
  refine gg_aload_n dL_law_1455 rfl rfl ?_
  refine g5 (k := 1) hn rfl rfl hi (by decide) dL_law_1456 dL_law_1457 dL_law_1459 dL_law_1460 dL_law_1461 ?_
  refine g5 (k := 2) hn rfl rfl hi (by decide) dL_law_1462 dL_law_1463 dL_law_1465 dL_law_1466 dL_law_1467 ?_
  refine g5 (k := 3) hn rfl rfl hi (by decide) dL_law_1468 dL_law_1469 dL_law_1471 dL_law_1472 dL_law_1473 ?_
  refine g5 (k := 4) hn rfl rfl hi (by decide) dL_law_1474 dL_law_1475 dL_law_1477 dL_law_1478 dL_law_1479 ?_
  refine gb7 (sx_r Γ _) dL_law_1480 dL_law_1483 dL_law_1484 dL_law_1487 ?_
  refine gg_aload_n dL_law_1488 rfl rfl ?_
  refine gg_callSX (As := [.ref (g_L Γ 30), .int (iN (sx Γ (i + 1))), .int (iN (sx Γ (i + 2))), .int (iN (sx Γ (i + 3))), .int (iN (bz (sx Γ (i + 4)))), .ref (g_L Γ 24)]) (rest := []) mokh_L_cost (wi_40 _ (List.mem_of_getElem? (i := 17) rfl)) (wi_40 _ (List.mem_of_getElem? (i := 18) rfl)) dL_law_1489 rfl ⟨(Nat.le_of_ble_eq_true rfl), (Nat.le_of_ble_eq_true rfl)⟩ ⟨Nat.le_trans (Nat.add_le_add_left ((Nat.le_of_ble_eq_true rfl) : (mR M_L_cost).cells ≤ 60) cs.1) hc1, Nat.le_trans (Nat.add_le_add_left ((Nat.le_of_ble_eq_true rfl) : (mR M_L_cost).slots ≤ 1500) cs.2) hc2⟩ (Nat.le_of_ble_eq_true rfl) (cw_cost (h := mst Γ (h9b v w, ι) F A) C (Eq.trans (mst_hi (by decide)) rfl) (sx_r Γ _) (sx_r Γ _) (sx_r Γ _) (bz_01 _)) (fun _ _ z => z.elim) (fun r h' hp => ?_)
  obtain ⟨k, x, ι', G', B', b', rfl, rfl, hX, res⟩ := hp
  refine gg_widen (k := cs.1 + 60) (n := cs.2 + 1500) (Nat.add_le_add_left (Nat.le_of_ble_eq_true rfl) _) (Nat.add_le_add_left (Nat.le_of_ble_eq_true rfl) _) ?_
  rw [P9_wl (G := G) (B := B) (ι := ι)]
  change GG Γ (M_law nm9) QF (cs.1 + 60, cs.2 + 1500) (P9 Γ (vv9 v k x) w ι' G' B' F A) 1492 (LV9 Γ i none none) [.int (iN k)]
  refine gg_istore dL_law_1492 (Nat.le_of_ble_eq_true rfl) rfl ?_
  rw [P9_m]
  refine gg_aload_n dL_law_1494 rfl rfl ?_
  refine g5 (k := 1) hn rfl rfl hi (by decide) dL_law_1495 dL_law_1496 dL_law_1498 dL_law_1499 dL_law_1500 ?_
  refine g5 (k := 2) hn rfl rfl hi (by decide) dL_law_1501 dL_law_1502 dL_law_1504 dL_law_1505 dL_law_1506 ?_
  refine g5 (k := 3) hn rfl rfl hi (by decide) dL_law_1507 dL_law_1508 dL_law_1510 dL_law_1511 dL_law_1512 ?_
  refine g5 (k := 4) hn rfl rfl hi (by decide) dL_law_1513 dL_law_1514 dL_law_1516 dL_law_1517 dL_law_1518 ?_
  refine gb7 (sx_r Γ _) dL_law_1519 dL_law_1522 dL_law_1523 dL_law_1526 ?_
  refine gc_L_194 rfl dL_law_1527 ⟨(Nat.le_of_ble_eq_true rfl), (Nat.le_of_ble_eq_true rfl)⟩ ⟨hc1, hc2⟩ (Nat.le_of_ble_eq_true rfl) (HAt.mu rfl) (c3_X10_cost sta lna exa (sx_r Γ _) (sx_r Γ _) (sx_r Γ _) (bz_01 _)) (fun _ _ z => z.elim) (fun r2 h2 hp2 => ?_)
  have J : ∃ (F2 : Nat → Int) (A2 : Nat → Int → Int) (x2 : Int), r2 = some (.int (iN x2)) ∧ h2 = mst Γ (gst Γ (h9b (vv9 v k x) w, ι') G' B') F2 A2 ∧ F2 0 = k ∧ (0 ≤ k ∧ k ≤ 3) ∧ (k = 0 → x2 = x) ∧ CP9 ι' G' B' F2 A2 b' := by
    rcases res with ⟨r1, rfl, r3, C2⟩ | ⟨r1, rfl, C2⟩ | ⟨r1, rfl, r3, C2⟩ | ⟨r1, rfl, r3, C2⟩
    · rcases hp2 with ⟨p1, rfl, rfl⟩ | ⟨p1, F1, F2, A1, A2, rfl, f38, fF, fA, L, ⟨p2, rfl, e0⟩ | ⟨p2, p3, rfl, e0⟩ | ⟨p2, p3, rfl, e0⟩⟩
      · exact absurd r1 p1
      · (have z9 := (r3 F1 A1 L).1; rw [p2] at z9; exact absurd z9 (by decide))
      · (have z9 := (r3 F1 A1 L).2.1; omega)
      · exact ⟨F2, A2, _, rfl, rfl, e0, by decide, fun _ => (r3 F1 A1 L).2.2.symm, CP9.cF (fF 5 (by decide)) (fF 6 (by decide)) (fF 8 (by decide)) (fF 10 (by decide)) (by rw [f38]; exact r38) (fA 1 (by decide)) (fA 3 (by decide)) (fA 4 (by decide)) (fA 5 (by decide)) C2⟩
    · rcases hp2 with ⟨p1, rfl, rfl⟩ | ⟨p1, F1, F2, A1, A2, rfl, f38, fF, fA, L, ⟨p2, rfl, e0⟩ | ⟨p2, p3, rfl, e0⟩ | ⟨p2, p3, rfl, e0⟩⟩
      · exact ⟨_, _, _, rfl, rfl, (by simp only [uF_s, uF_n, ne_eq, Nat.reduceEqDiff, not_false_eq_true]), by decide, fun z => absurd z (by decide), CP9.cF (by first | rfl | simp only [uF_s, uF_n, uA_s, uA_n, ne_eq, Nat.reduceEqDiff, not_false_eq_true]) (by first | rfl | simp only [uF_s, uF_n, uA_s, uA_n, ne_eq, Nat.reduceEqDiff, not_false_eq_true]) (by first | rfl | simp only [uF_s, uF_n, uA_s, uA_n, ne_eq, Nat.reduceEqDiff, not_false_eq_true]) (by first | rfl | simp only [uF_s, uF_n, uA_s, uA_n, ne_eq, Nat.reduceEqDiff, not_false_eq_true]) (by first | exact r38 | (simp only [uF_s, uF_n, ne_eq, Nat.reduceEqDiff, not_false_eq_true]; exact r38)) (by first | rfl | simp only [uF_s, uF_n, uA_s, uA_n, ne_eq, Nat.reduceEqDiff, not_false_eq_true]) (by first | rfl | simp only [uF_s, uF_n, uA_s, uA_n, ne_eq, Nat.reduceEqDiff, not_false_eq_true]) (by first | rfl | simp only [uF_s, uF_n, uA_s, uA_n, ne_eq, Nat.reduceEqDiff, not_false_eq_true]) (by first | rfl | simp only [uF_s, uF_n, uA_s, uA_n, ne_eq, Nat.reduceEqDiff, not_false_eq_true]) C2⟩
      · exact absurd p1 r1
      · exact absurd p1 r1
      · exact absurd p1 r1
    · rcases hp2 with ⟨p1, rfl, rfl⟩ | ⟨p1, F1, F2, A1, A2, rfl, f38, fF, fA, L, ⟨p2, rfl, e0⟩ | ⟨p2, p3, rfl, e0⟩ | ⟨p2, p3, rfl, e0⟩⟩
      · exact absurd r1 p1
      · exact ⟨F2, A2, _, rfl, rfl, e0, by decide, fun z => absurd z (by decide), CP9.cF (fF 5 (by decide)) (fF 6 (by decide)) (fF 8 (by decide)) (fF 10 (by decide)) (by rw [f38]; exact r38) (fA 1 (by decide)) (fA 3 (by decide)) (fA 4 (by decide)) (fA 5 (by decide)) C2⟩
      · (have z9 := r3 F1 A1 L; rw [p2] at z9; exact absurd z9 (by decide))
      · (have z9 := r3 F1 A1 L; rw [p2] at z9; exact absurd z9 (by decide))
    · rcases hp2 with ⟨p1, rfl, rfl⟩ | ⟨p1, F1, F2, A1, A2, rfl, f38, fF, fA, L, ⟨p2, rfl, e0⟩ | ⟨p2, p3, rfl, e0⟩ | ⟨p2, p3, rfl, e0⟩⟩
      · exact absurd r1 p1
      · (have z9 := (r3 F1 A1 L).1; rw [p2] at z9; exact absurd z9 (by decide))
      · exact ⟨F2, A2, _, rfl, rfl, e0, by decide, fun z => absurd z (by decide), CP9.cF (fF 5 (by decide)) (fF 6 (by decide)) (fF 8 (by decide)) (fF 10 (by decide)) (by rw [f38]; exact r38) (fA 1 (by decide)) (fA 3 (by decide)) (fA 4 (by decide)) (fA 5 (by decide)) C2⟩
      · (have z9 := (r3 F1 A1 L).2; omega)
  obtain ⟨F2, A2, x2, rfl, rfl, rfl, hk, hx, C2⟩ := J
  rw [← P9_m]
  exact tail9 (x6 := none) (x2 := x2) (fun z => by rw [vv9_0 z, hx z]) hk dL_law_1530 dL_law_1532 dL_law_1533 dL_law_1536 dL_law_1538 dL_law_1543 dL_law_1545 dL_law_1548 dL_law_1549 dL_law_1550 dL_law_1551 dL_law_1553 dL_law_1554 dL_law_1555 dL_law_1560 (by decide) ⟨hc1, hc2⟩ (gg_widen (k := cs.1 + 100) (n := cs.2 + 2000) (by show cs.1 + 60 + 0 ≤ cs.1 + 100; omega) (by show cs.2 + 1500 + 0 ≤ cs.2 + 2000; omega) (kk _ _ _ _ _ _ _ _ C2))
theorem st_scan {nm9 : String} {Γ : GT} {v : Nat → Int64} {w : Nat → UInt64} {ι : Nat → Option XE} {G : Nat → Int} {B : Nat → Int → Int} {F : Nat → Int} {A : Nat → Int → Int} {QF : List Frame → Array Value → State → State → Prop} {cs : Nat × Nat} {b : Nat} {i : Int} (hn : g_n Γ ≤ 2560) (hi : 0 ≤ i ∧ i + 5 ≤ g_n Γ) (C : CP9 ι G B F A b) (hcs : cs.1 + 100 ≤ room_1.cells ∧ cs.2 + 2000 ≤ room_1.slots)
    (kk : ∀ (v' : Nat → Int64) (w' : Nat → UInt64) (ι' : Nat → Option XE) (G' : Nat → Int) (B' : Nat → Int → Int) (F' : Nat → Int) (A' : Nat → Int → Int) (b' : Nat), CP9 ι' G' B' F' A' b' → GG Γ (M_law nm9) QF (cs.1 + 100, cs.2 + 2000) (P9 Γ v' w' ι' G' B' F' A') 2150 (LV9 Γ i none none) []) : GG Γ (M_law nm9) QF cs (P9 Γ v w ι G B F A) 1563 (LV9 Γ i none none) [] := by
  obtain ⟨⟨i1, i2, i3, i4, i5⟩, ⟨e1, e2, e3⟩, p3⟩ := C.2.2.2.2.1
  have sta := C.m.sta
  have lna := C.m.lna
  have exa := C.m.exa
  have h5 : 0 ≤ F 5 ∧ F 5 ≤ 8 := C.2.2.1.1
  have h10 : InR (F 10) := ⟨by omega, by omega⟩
  have r38 := C.r38
  have t6 := C.m.2.2.2.2.2
  have hc1 : cs.1 + 60 ≤ room_1.cells := by have := hcs.1; omega
  have hc2 : cs.2 + 1500 ≤ room_1.slots := by have := hcs.2; omega
  refine gg_aload_n dL_law_1563 rfl rfl ?_
  refine g5 (k := 1) hn rfl rfl hi (by decide) dL_law_1564 dL_law_1565 dL_law_1567 dL_law_1568 dL_law_1569 ?_
  refine g5 (k := 2) hn rfl rfl hi (by decide) dL_law_1570 dL_law_1571 dL_law_1573 dL_law_1574 dL_law_1575 ?_
  refine g5 (k := 3) hn rfl rfl hi (by decide) dL_law_1576 dL_law_1577 dL_law_1579 dL_law_1580 dL_law_1581 ?_
  refine gg_aload_n dL_law_1582 rfl rfl ?_
  refine gg_callSX (As := [.ref (g_L Γ 30), .int (iN (sx Γ (i + 1))), .int (iN (sx Γ (i + 2))), .int (iN (sx Γ (i + 3))), .ref (g_L Γ 24)]) (rest := []) mokh_L_scan (wi_44 _ (List.mem_of_getElem? (i := 7) rfl)) (wi_44 _ (List.mem_of_getElem? (i := 8) rfl)) dL_law_1583 rfl ⟨(Nat.le_of_ble_eq_true rfl), (Nat.le_of_ble_eq_true rfl)⟩ ⟨Nat.le_trans (Nat.add_le_add_left ((Nat.le_of_ble_eq_true rfl) : (mR M_L_scan).cells ≤ 60) cs.1) hc1, Nat.le_trans (Nat.add_le_add_left ((Nat.le_of_ble_eq_true rfl) : (mR M_L_scan).slots ≤ 1500) cs.2) hc2⟩ (Nat.le_of_ble_eq_true rfl) (cw_scan (h := mst Γ (h9b v w, ι) F A) C (Eq.trans (mst_hi (by decide)) rfl) (sx_r Γ _) (sx_r Γ _) (sx_r Γ _)) (fun _ _ z => z.elim) (fun r h' hp => ?_)
  obtain ⟨k, x, ι', G', B', b', rfl, rfl, hX, res⟩ := hp
  refine gg_widen (k := cs.1 + 60) (n := cs.2 + 1500) (Nat.add_le_add_left (Nat.le_of_ble_eq_true rfl) _) (Nat.add_le_add_left (Nat.le_of_ble_eq_true rfl) _) ?_
  rw [P9_wl (G := G) (B := B) (ι := ι)]
  change GG Γ (M_law nm9) QF (cs.1 + 60, cs.2 + 1500) (P9 Γ (vv9 v k x) w ι' G' B' F A) 1586 (LV9 Γ i none none) [.int (iN k)]
  refine gg_istore dL_law_1586 (Nat.le_of_ble_eq_true rfl) rfl ?_
  rw [P9_m]
  refine gg_aload_n dL_law_1588 rfl rfl ?_
  refine g5 (k := 1) hn rfl rfl hi (by decide) dL_law_1589 dL_law_1590 dL_law_1592 dL_law_1593 dL_law_1594 ?_
  refine g5 (k := 2) hn rfl rfl hi (by decide) dL_law_1595 dL_law_1596 dL_law_1598 dL_law_1599 dL_law_1600 ?_
  refine g5 (k := 3) hn rfl rfl hi (by decide) dL_law_1601 dL_law_1602 dL_law_1604 dL_law_1605 dL_law_1606 ?_
  refine gc_L_197 rfl dL_law_1607 ⟨(Nat.le_of_ble_eq_true rfl), (Nat.le_of_ble_eq_true rfl)⟩ ⟨hc1, hc2⟩ (Nat.le_of_ble_eq_true rfl) (HAt.mu rfl) (c3_X10_scan sta lna exa r38 (sx_r Γ _) (sx_r Γ _) (sx_r Γ _)) (fun _ _ z => z.elim) (fun r2 h2 hp2 => ?_)
  have J : ∃ (F2 : Nat → Int) (A2 : Nat → Int → Int) (x2 : Int), r2 = some (.int (iN x2)) ∧ h2 = mst Γ (gst Γ (h9b (vv9 v k x) w, ι') G' B') F2 A2 ∧ F2 0 = k ∧ (0 ≤ k ∧ k ≤ 3) ∧ (k = 0 → x2 = x) ∧ CP9 ι' G' B' F2 A2 b' := by
    rcases res with ⟨r1, r2, rfl, r3, C2⟩ | ⟨r1, rfl, C2⟩ | ⟨r1, r2, rfl, C2⟩ | ⟨r1, r2, rfl, r3, C2⟩
    · rcases hp2 with ⟨p1, rfl, rfl⟩ | ⟨p1, p2, rfl, rfl⟩ | ⟨p1, p2, F1, F2, A1, A2, rfl, h38, fF, fA, L, ⟨p3, rfl, e0⟩ | ⟨p3, rfl, e0⟩⟩
      · first | exact absurd r1 p1 | exact absurd p1 r1 | exact absurd r2 p2 | exact absurd p2 r2 | (exfalso; omega) | (rw [r1] at p1; exact absurd p1 (by decide)) | (rw [r2] at p2; exact absurd p2 (by decide))
      · first | exact absurd r1 p1 | exact absurd p1 r1 | exact absurd r2 p2 | exact absurd p2 r2 | (exfalso; omega) | (rw [r1] at p1; exact absurd p1 (by decide)) | (rw [r2] at p2; exact absurd p2 (by decide))
      · (have z9 := (r3 F1 A1 (F 36) (F 38) L).1; omega)
      · exact ⟨F2, A2, _, rfl, rfl, e0, by decide, fun _ => (r3 F1 A1 (F 36) (F 38) L).2.symm, CP9.cF (fF 5 (by decide)) (fF 6 (by decide)) (fF 8 (by decide)) (fF 10 (by decide)) (h38) (fA 1 (by decide)) (fA 3 (by decide)) (fA 4 (by decide)) (fA 5 (by decide)) C2⟩
    · rcases hp2 with ⟨p1, rfl, rfl⟩ | ⟨p1, p2, rfl, rfl⟩ | ⟨p1, p2, F1, F2, A1, A2, rfl, h38, fF, fA, L, ⟨p3, rfl, e0⟩ | ⟨p3, rfl, e0⟩⟩
      · exact ⟨_, _, _, rfl, rfl, (by simp only [uF_s, uF_n, ne_eq, Nat.reduceEqDiff, not_false_eq_true]), by decide, fun z => absurd z (by decide), CP9.cF (by first | rfl | simp only [uF_s, uF_n, uA_s, uA_n, ne_eq, Nat.reduceEqDiff, not_false_eq_true]) (by first | rfl | simp only [uF_s, uF_n, uA_s, uA_n, ne_eq, Nat.reduceEqDiff, not_false_eq_true]) (by first | rfl | simp only [uF_s, uF_n, uA_s, uA_n, ne_eq, Nat.reduceEqDiff, not_false_eq_true]) (by first | rfl | simp only [uF_s, uF_n, uA_s, uA_n, ne_eq, Nat.reduceEqDiff, not_false_eq_true]) (by first | exact r38 | (simp only [uF_s, uF_n, ne_eq, Nat.reduceEqDiff, not_false_eq_true]; exact r38)) (by first | rfl | simp only [uF_s, uF_n, uA_s, uA_n, ne_eq, Nat.reduceEqDiff, not_false_eq_true]) (by first | rfl | simp only [uF_s, uF_n, uA_s, uA_n, ne_eq, Nat.reduceEqDiff, not_false_eq_true]) (by first | rfl | simp only [uF_s, uF_n, uA_s, uA_n, ne_eq, Nat.reduceEqDiff, not_false_eq_true]) (by first | rfl | simp only [uF_s, uF_n, uA_s, uA_n, ne_eq, Nat.reduceEqDiff, not_false_eq_true]) C2⟩
      · first | exact absurd r1 p1 | exact absurd p1 r1 | exact absurd r2 p2 | exact absurd p2 r2 | (exfalso; omega) | (rw [r1] at p1; exact absurd p1 (by decide)) | (rw [r2] at p2; exact absurd p2 (by decide))
      · first | exact absurd r1 p1 | exact absurd p1 r1 | exact absurd r2 p2 | exact absurd p2 r2 | (exfalso; omega) | (rw [r1] at p1; exact absurd p1 (by decide)) | (rw [r2] at p2; exact absurd p2 (by decide))
      · first | exact absurd r1 p1 | exact absurd p1 r1 | exact absurd r2 p2 | exact absurd p2 r2 | (exfalso; omega) | (rw [r1] at p1; exact absurd p1 (by decide)) | (rw [r2] at p2; exact absurd p2 (by decide))
    · rcases hp2 with ⟨p1, rfl, rfl⟩ | ⟨p1, p2, rfl, rfl⟩ | ⟨p1, p2, F1, F2, A1, A2, rfl, h38, fF, fA, L, ⟨p3, rfl, e0⟩ | ⟨p3, rfl, e0⟩⟩
      · first | exact absurd r1 p1 | exact absurd p1 r1 | exact absurd r2 p2 | exact absurd p2 r2 | (exfalso; omega) | (rw [r1] at p1; exact absurd p1 (by decide)) | (rw [r2] at p2; exact absurd p2 (by decide))
      · exact ⟨_, _, _, rfl, rfl, (by simp only [uF_s, uF_n, ne_eq, Nat.reduceEqDiff, not_false_eq_true]), by decide, fun z => absurd z (by decide), CP9.cF (by first | rfl | simp only [uF_s, uF_n, uA_s, uA_n, ne_eq, Nat.reduceEqDiff, not_false_eq_true]) (by first | rfl | simp only [uF_s, uF_n, uA_s, uA_n, ne_eq, Nat.reduceEqDiff, not_false_eq_true]) (by first | rfl | simp only [uF_s, uF_n, uA_s, uA_n, ne_eq, Nat.reduceEqDiff, not_false_eq_true]) (by first | rfl | simp only [uF_s, uF_n, uA_s, uA_n, ne_eq, Nat.reduceEqDiff, not_false_eq_true]) (by first | exact r38 | (simp only [uF_s, uF_n, ne_eq, Nat.reduceEqDiff, not_false_eq_true]; exact r38)) (by first | rfl | simp only [uF_s, uF_n, uA_s, uA_n, ne_eq, Nat.reduceEqDiff, not_false_eq_true]) (by first | rfl | simp only [uF_s, uF_n, uA_s, uA_n, ne_eq, Nat.reduceEqDiff, not_false_eq_true]) (by first | rfl | simp only [uF_s, uF_n, uA_s, uA_n, ne_eq, Nat.reduceEqDiff, not_false_eq_true]) (by first | rfl | simp only [uF_s, uF_n, uA_s, uA_n, ne_eq, Nat.reduceEqDiff, not_false_eq_true]) C2⟩
      · first | exact absurd r1 p1 | exact absurd p1 r1 | exact absurd r2 p2 | exact absurd p2 r2 | (exfalso; omega) | (rw [r1] at p1; exact absurd p1 (by decide)) | (rw [r2] at p2; exact absurd p2 (by decide))
      · first | exact absurd r1 p1 | exact absurd p1 r1 | exact absurd r2 p2 | exact absurd p2 r2 | (exfalso; omega) | (rw [r1] at p1; exact absurd p1 (by decide)) | (rw [r2] at p2; exact absurd p2 (by decide))
    · rcases hp2 with ⟨p1, rfl, rfl⟩ | ⟨p1, p2, rfl, rfl⟩ | ⟨p1, p2, F1, F2, A1, A2, rfl, h38, fF, fA, L, ⟨p3, rfl, e0⟩ | ⟨p3, rfl, e0⟩⟩
      · first | exact absurd r1 p1 | exact absurd p1 r1 | exact absurd r2 p2 | exact absurd p2 r2 | (exfalso; omega) | (rw [r1] at p1; exact absurd p1 (by decide)) | (rw [r2] at p2; exact absurd p2 (by decide))
      · first | exact absurd r1 p1 | exact absurd p1 r1 | exact absurd r2 p2 | exact absurd p2 r2 | (exfalso; omega) | (rw [r1] at p1; exact absurd p1 (by decide)) | (rw [r2] at p2; exact absurd p2 (by decide))
      · exact ⟨F2, A2, _, rfl, rfl, e0, by decide, fun z => absurd z (by decide), CP9.cF (fF 5 (by decide)) (fF 6 (by decide)) (fF 8 (by decide)) (fF 10 (by decide)) (h38) (fA 1 (by decide)) (fA 3 (by decide)) (fA 4 (by decide)) (fA 5 (by decide)) C2⟩
      · (have z9 := (r3 F1 A1 (F 36) (F 38) L); omega)
  obtain ⟨F2, A2, x2, rfl, rfl, rfl, hk, hx, C2⟩ := J
  rw [← P9_m]
  exact tail9 (x6 := none) (x2 := x2) (fun z => by rw [vv9_0 z, hx z]) hk dL_law_1610 dL_law_1612 dL_law_1613 dL_law_1616 dL_law_1618 dL_law_1623 dL_law_1625 dL_law_1628 dL_law_1629 dL_law_1630 dL_law_1631 dL_law_1633 dL_law_1634 dL_law_1635 dL_law_1640 (by decide) ⟨hc1, hc2⟩ (gg_widen (k := cs.1 + 100) (n := cs.2 + 2000) (by show cs.1 + 60 + 0 ≤ cs.1 + 100; omega) (by show cs.2 + 1500 + 0 ≤ cs.2 + 2000; omega) (kk _ _ _ _ _ _ _ _ C2))
theorem st_scans {nm9 : String} {Γ : GT} {v : Nat → Int64} {w : Nat → UInt64} {ι : Nat → Option XE} {G : Nat → Int} {B : Nat → Int → Int} {F : Nat → Int} {A : Nat → Int → Int} {QF : List Frame → Array Value → State → State → Prop} {cs : Nat × Nat} {b : Nat} {i : Int} (hn : g_n Γ ≤ 2560) (hi : 0 ≤ i ∧ i + 5 ≤ g_n Γ) (C : CP9 ι G B F A b) (hcs : cs.1 + 100 ≤ room_1.cells ∧ cs.2 + 2000 ≤ room_1.slots)
    (kk : ∀ (v' : Nat → Int64) (w' : Nat → UInt64) (ι' : Nat → Option XE) (G' : Nat → Int) (B' : Nat → Int → Int) (F' : Nat → Int) (A' : Nat → Int → Int) (b' : Nat), CP9 ι' G' B' F' A' b' → GG Γ (M_law nm9) QF (cs.1 + 100, cs.2 + 2000) (P9 Γ v' w' ι' G' B' F' A') 2150 (LV9 Γ i none none) []) : GG Γ (M_law nm9) QF cs (P9 Γ v w ι G B F A) 1643 (LV9 Γ i none none) [] := by
  obtain ⟨⟨i1, i2, i3, i4, i5⟩, ⟨e1, e2, e3⟩, p3⟩ := C.2.2.2.2.1
  have sta := C.m.sta
  have lna := C.m.lna
  have exa := C.m.exa
  have h5 : 0 ≤ F 5 ∧ F 5 ≤ 8 := C.2.2.1.1
  have h10 : InR (F 10) := ⟨by omega, by omega⟩
  have r38 := C.r38
  have t6 := C.m.2.2.2.2.2
  have hc1 : cs.1 + 60 ≤ room_1.cells := by have := hcs.1; omega
  have hc2 : cs.2 + 1500 ≤ room_1.slots := by have := hcs.2; omega
  refine gg_aload_n dL_law_1643 rfl rfl ?_
  refine g5 (k := 1) hn rfl rfl hi (by decide) dL_law_1644 dL_law_1645 dL_law_1647 dL_law_1648 dL_law_1649 ?_
  refine g5 (k := 2) hn rfl rfl hi (by decide) dL_law_1650 dL_law_1651 dL_law_1653 dL_law_1654 dL_law_1655 ?_
  refine gg_aload_n dL_law_1656 rfl rfl ?_
  refine gg_callSX (As := [.ref (g_L Γ 30), .int (iN (sx Γ (i + 1))), .int (iN (sx Γ (i + 2))), .ref (g_L Γ 24)]) (rest := []) mokh_L_scans (wi_47 _ (List.mem_of_getElem? (i := 12) rfl)) (wi_47 _ (List.mem_of_getElem? (i := 13) rfl)) dL_law_1657 rfl ⟨(Nat.le_of_ble_eq_true rfl), (Nat.le_of_ble_eq_true rfl)⟩ ⟨Nat.le_trans (Nat.add_le_add_left ((Nat.le_of_ble_eq_true rfl) : (mR M_L_scans).cells ≤ 60) cs.1) hc1, Nat.le_trans (Nat.add_le_add_left ((Nat.le_of_ble_eq_true rfl) : (mR M_L_scans).slots ≤ 1500) cs.2) hc2⟩ (Nat.le_of_ble_eq_true rfl) (cw_scans (h := mst Γ (h9b v w, ι) F A) C (Eq.trans (mst_hi (by decide)) rfl) (sx_r Γ _) (sx_r Γ _)) (fun _ _ z => z.elim) (fun r h' hp => ?_)
  obtain ⟨k, x, ι', G', B', b', rfl, rfl, hX, res⟩ := hp
  refine gg_widen (k := cs.1 + 60) (n := cs.2 + 1500) (Nat.add_le_add_left (Nat.le_of_ble_eq_true rfl) _) (Nat.add_le_add_left (Nat.le_of_ble_eq_true rfl) _) ?_
  rw [P9_wl (G := G) (B := B) (ι := ι)]
  change GG Γ (M_law nm9) QF (cs.1 + 60, cs.2 + 1500) (P9 Γ (vv9 v k x) w ι' G' B' F A) 1660 (LV9 Γ i none none) [.int (iN k)]
  refine gg_istore dL_law_1660 (Nat.le_of_ble_eq_true rfl) rfl ?_
  rw [P9_m]
  refine gg_aload_n dL_law_1662 rfl rfl ?_
  refine g5 (k := 1) hn rfl rfl hi (by decide) dL_law_1663 dL_law_1664 dL_law_1666 dL_law_1667 dL_law_1668 ?_
  refine g5 (k := 2) hn rfl rfl hi (by decide) dL_law_1669 dL_law_1670 dL_law_1672 dL_law_1673 dL_law_1674 ?_
  refine gc_L_200 rfl dL_law_1675 ⟨(Nat.le_of_ble_eq_true rfl), (Nat.le_of_ble_eq_true rfl)⟩ ⟨hc1, hc2⟩ (Nat.le_of_ble_eq_true rfl) (HAt.mu rfl) (c3_X10_scans sta lna exa r38 (sx_r Γ _) (sx_r Γ _)) (fun _ _ z => z.elim) (fun r2 h2 hp2 => ?_)
  have J : ∃ (F2 : Nat → Int) (A2 : Nat → Int → Int) (x2 : Int), r2 = some (.int (iN x2)) ∧ h2 = mst Γ (gst Γ (h9b (vv9 v k x) w, ι') G' B') F2 A2 ∧ F2 0 = k ∧ (0 ≤ k ∧ k ≤ 3) ∧ (k = 0 → x2 = x) ∧ CP9 ι' G' B' F2 A2 b' := by
    rcases res with ⟨r1, rfl, r3, C2⟩ | ⟨r1, rfl, C2⟩
    · rcases hp2 with ⟨p1, rfl, rfl⟩ | ⟨p1, F1, F2, A1, A2, rfl, h38, fF, fA, L, rfl, e0⟩
      · first | exact absurd r1 p1 | exact absurd p1 r1 | exact absurd r2 p2 | exact absurd p2 r2 | (exfalso; omega) | (rw [r1] at p1; exact absurd p1 (by decide)) | (rw [r2] at p2; exact absurd p2 (by decide))
      · exact ⟨F2, A2, _, rfl, rfl, e0, by decide, fun _ => (r3 F1 A1 (F 36) (F 38) L).symm, CP9.cF (fF 5 (by decide)) (fF 6 (by decide)) (fF 8 (by decide)) (fF 10 (by decide)) (h38) (fA 1 (by decide)) (fA 3 (by decide)) (fA 4 (by decide)) (fA 5 (by decide)) C2⟩
    · rcases hp2 with ⟨p1, rfl, rfl⟩ | ⟨p1, F1, F2, A1, A2, rfl, h38, fF, fA, L, rfl, e0⟩
      · exact ⟨_, _, _, rfl, rfl, (by simp only [uF_s, uF_n, ne_eq, Nat.reduceEqDiff, not_false_eq_true]), by decide, fun z => absurd z (by decide), CP9.cF (by first | rfl | simp only [uF_s, uF_n, uA_s, uA_n, ne_eq, Nat.reduceEqDiff, not_false_eq_true]) (by first | rfl | simp only [uF_s, uF_n, uA_s, uA_n, ne_eq, Nat.reduceEqDiff, not_false_eq_true]) (by first | rfl | simp only [uF_s, uF_n, uA_s, uA_n, ne_eq, Nat.reduceEqDiff, not_false_eq_true]) (by first | rfl | simp only [uF_s, uF_n, uA_s, uA_n, ne_eq, Nat.reduceEqDiff, not_false_eq_true]) (by first | exact r38 | (simp only [uF_s, uF_n, ne_eq, Nat.reduceEqDiff, not_false_eq_true]; exact r38)) (by first | rfl | simp only [uF_s, uF_n, uA_s, uA_n, ne_eq, Nat.reduceEqDiff, not_false_eq_true]) (by first | rfl | simp only [uF_s, uF_n, uA_s, uA_n, ne_eq, Nat.reduceEqDiff, not_false_eq_true]) (by first | rfl | simp only [uF_s, uF_n, uA_s, uA_n, ne_eq, Nat.reduceEqDiff, not_false_eq_true]) (by first | rfl | simp only [uF_s, uF_n, uA_s, uA_n, ne_eq, Nat.reduceEqDiff, not_false_eq_true]) C2⟩
      · first | exact absurd r1 p1 | exact absurd p1 r1 | exact absurd r2 p2 | exact absurd p2 r2 | (exfalso; omega) | (rw [r1] at p1; exact absurd p1 (by decide)) | (rw [r2] at p2; exact absurd p2 (by decide))
  obtain ⟨F2, A2, x2, rfl, rfl, rfl, hk, hx, C2⟩ := J
  rw [← P9_m]
  exact tail9 (x6 := none) (x2 := x2) (fun z => by rw [vv9_0 z, hx z]) hk dL_law_1678 dL_law_1680 dL_law_1681 dL_law_1684 dL_law_1686 dL_law_1691 dL_law_1693 dL_law_1696 dL_law_1697 dL_law_1698 dL_law_1699 dL_law_1701 dL_law_1702 dL_law_1703 dL_law_1708 (by decide) ⟨hc1, hc2⟩ (gg_widen (k := cs.1 + 100) (n := cs.2 + 2000) (by show cs.1 + 60 + 0 ≤ cs.1 + 100; omega) (by show cs.2 + 1500 + 0 ≤ cs.2 + 2000; omega) (kk _ _ _ _ _ _ _ _ C2))
theorem st_reason {nm9 : String} {Γ : GT} {v : Nat → Int64} {w : Nat → UInt64} {ι : Nat → Option XE} {G : Nat → Int} {B : Nat → Int → Int} {F : Nat → Int} {A : Nat → Int → Int} {QF : List Frame → Array Value → State → State → Prop} {cs : Nat × Nat} {b : Nat} {i : Int} (hn : g_n Γ ≤ 2560) (hi : 0 ≤ i ∧ i + 5 ≤ g_n Γ) (C : CP9 ι G B F A b) (hcs : cs.1 + 100 ≤ room_1.cells ∧ cs.2 + 2000 ≤ room_1.slots)
    (kk : ∀ (v' : Nat → Int64) (w' : Nat → UInt64) (ι' : Nat → Option XE) (G' : Nat → Int) (B' : Nat → Int → Int) (F' : Nat → Int) (A' : Nat → Int → Int) (b' : Nat), CP9 ι' G' B' F' A' b' → GG Γ (M_law nm9) QF (cs.1 + 100, cs.2 + 2000) (P9 Γ v' w' ι' G' B' F' A') 2150 (LV9 Γ i none none) []) : GG Γ (M_law nm9) QF cs (P9 Γ v w ι G B F A) 1711 (LV9 Γ i none none) [] := by
  obtain ⟨⟨i1, i2, i3, i4, i5⟩, ⟨e1, e2, e3⟩, p3⟩ := C.2.2.2.2.1
  have sta := C.m.sta
  have lna := C.m.lna
  have exa := C.m.exa
  have h5 : 0 ≤ F 5 ∧ F 5 ≤ 8 := C.2.2.1.1
  have h10 : InR (F 10) := ⟨by omega, by omega⟩
  have r38 := C.r38
  have t6 := C.m.2.2.2.2.2
  have hc1 : cs.1 + 60 ≤ room_1.cells := by have := hcs.1; omega
  have hc2 : cs.2 + 1500 ≤ room_1.slots := by have := hcs.2; omega
  refine gg_aload_n dL_law_1711 rfl rfl ?_
  refine g5 (k := 1) hn rfl rfl hi (by decide) dL_law_1712 dL_law_1713 dL_law_1715 dL_law_1716 dL_law_1717 ?_
  refine g5 (k := 2) hn rfl rfl hi (by decide) dL_law_1718 dL_law_1719 dL_law_1721 dL_law_1722 dL_law_1723 ?_
  refine gg_aload_n dL_law_1724 rfl rfl ?_
  refine gg_callSX (As := [.ref (g_L Γ 30), .int (iN (sx Γ (i + 1))), .int (iN (sx Γ (i + 2))), .ref (g_L Γ 24)]) (rest := []) mokh_L_reason (wi_48 _ (List.mem_of_getElem? (i := 0) rfl)) (wi_48 _ (List.mem_of_getElem? (i := 1) rfl)) dL_law_1725 rfl ⟨(Nat.le_of_ble_eq_true rfl), (Nat.le_of_ble_eq_true rfl)⟩ ⟨Nat.le_trans (Nat.add_le_add_left ((Nat.le_of_ble_eq_true rfl) : (mR M_L_reason).cells ≤ 60) cs.1) hc1, Nat.le_trans (Nat.add_le_add_left ((Nat.le_of_ble_eq_true rfl) : (mR M_L_reason).slots ≤ 1500) cs.2) hc2⟩ (Nat.le_of_ble_eq_true rfl) (cw_reason (h := mst Γ (h9b v w, ι) F A) C (Eq.trans (mst_hi (by decide)) rfl) (sx_r Γ _) (sx_r Γ _)) (fun _ _ z => z.elim) (fun r h' hp => ?_)
  obtain ⟨k, x, ι', G', B', b', rfl, rfl, hX, res⟩ := hp
  refine gg_widen (k := cs.1 + 60) (n := cs.2 + 1500) (Nat.add_le_add_left (Nat.le_of_ble_eq_true rfl) _) (Nat.add_le_add_left (Nat.le_of_ble_eq_true rfl) _) ?_
  rw [P9_wl (G := G) (B := B) (ι := ι)]
  change GG Γ (M_law nm9) QF (cs.1 + 60, cs.2 + 1500) (P9 Γ (vv9 v k x) w ι' G' B' F A) 1728 (LV9 Γ i none none) [.int (iN k)]
  refine gg_istore dL_law_1728 (Nat.le_of_ble_eq_true rfl) rfl ?_
  rw [P9_m]
  refine gg_aload_n dL_law_1730 rfl rfl ?_
  refine g5 (k := 1) hn rfl rfl hi (by decide) dL_law_1731 dL_law_1732 dL_law_1734 dL_law_1735 dL_law_1736 ?_
  refine g5 (k := 2) hn rfl rfl hi (by decide) dL_law_1737 dL_law_1738 dL_law_1740 dL_law_1741 dL_law_1742 ?_
  refine gc_L_203 rfl dL_law_1743 ⟨(Nat.le_of_ble_eq_true rfl), (Nat.le_of_ble_eq_true rfl)⟩ ⟨hc1, hc2⟩ (Nat.le_of_ble_eq_true rfl) (HAt.mu rfl) (c3_X10_reason sta lna exa r38 (sx_r Γ _) (sx_r Γ _)) (fun _ _ z => z.elim) (fun r2 h2 hp2 => ?_)
  have J : ∃ (F2 : Nat → Int) (A2 : Nat → Int → Int) (x2 : Int), r2 = some (.int (iN x2)) ∧ h2 = mst Γ (gst Γ (h9b (vv9 v k x) w, ι') G' B') F2 A2 ∧ F2 0 = k ∧ (0 ≤ k ∧ k ≤ 3) ∧ (k = 0 → x2 = x) ∧ CP9 ι' G' B' F2 A2 b' := by
    rcases res with ⟨r1, rfl, r3, C2⟩ | ⟨r1, rfl, C2⟩
    · rcases hp2 with ⟨p1, rfl, rfl⟩ | ⟨p1, F1, F2, A1, A2, rfl, h38, fF, fA, L, rfl, e0⟩
      · first | exact absurd r1 p1 | exact absurd p1 r1 | exact absurd r2 p2 | exact absurd p2 r2 | (exfalso; omega) | (rw [r1] at p1; exact absurd p1 (by decide)) | (rw [r2] at p2; exact absurd p2 (by decide))
      · exact ⟨F2, A2, _, rfl, rfl, e0, by decide, fun _ => (r3 F1 A1 (F 36) (F 38) L).symm, CP9.cF (fF 5 (by decide)) (fF 6 (by decide)) (fF 8 (by decide)) (fF 10 (by decide)) (h38) (fA 1 (by decide)) (fA 3 (by decide)) (fA 4 (by decide)) (fA 5 (by decide)) C2⟩
    · rcases hp2 with ⟨p1, rfl, rfl⟩ | ⟨p1, F1, F2, A1, A2, rfl, h38, fF, fA, L, rfl, e0⟩
      · exact ⟨_, _, _, rfl, rfl, (by simp only [uF_s, uF_n, ne_eq, Nat.reduceEqDiff, not_false_eq_true]), by decide, fun z => absurd z (by decide), CP9.cF (by first | rfl | simp only [uF_s, uF_n, uA_s, uA_n, ne_eq, Nat.reduceEqDiff, not_false_eq_true]) (by first | rfl | simp only [uF_s, uF_n, uA_s, uA_n, ne_eq, Nat.reduceEqDiff, not_false_eq_true]) (by first | rfl | simp only [uF_s, uF_n, uA_s, uA_n, ne_eq, Nat.reduceEqDiff, not_false_eq_true]) (by first | rfl | simp only [uF_s, uF_n, uA_s, uA_n, ne_eq, Nat.reduceEqDiff, not_false_eq_true]) (by first | exact r38 | (simp only [uF_s, uF_n, ne_eq, Nat.reduceEqDiff, not_false_eq_true]; exact r38)) (by first | rfl | simp only [uF_s, uF_n, uA_s, uA_n, ne_eq, Nat.reduceEqDiff, not_false_eq_true]) (by first | rfl | simp only [uF_s, uF_n, uA_s, uA_n, ne_eq, Nat.reduceEqDiff, not_false_eq_true]) (by first | rfl | simp only [uF_s, uF_n, uA_s, uA_n, ne_eq, Nat.reduceEqDiff, not_false_eq_true]) (by first | rfl | simp only [uF_s, uF_n, uA_s, uA_n, ne_eq, Nat.reduceEqDiff, not_false_eq_true]) C2⟩
      · first | exact absurd r1 p1 | exact absurd p1 r1 | exact absurd r2 p2 | exact absurd p2 r2 | (exfalso; omega) | (rw [r1] at p1; exact absurd p1 (by decide)) | (rw [r2] at p2; exact absurd p2 (by decide))
  obtain ⟨F2, A2, x2, rfl, rfl, rfl, hk, hx, C2⟩ := J
  rw [← P9_m]
  exact tail9 (x6 := none) (x2 := x2) (fun z => by rw [vv9_0 z, hx z]) hk dL_law_1746 dL_law_1748 dL_law_1749 dL_law_1752 dL_law_1754 dL_law_1759 dL_law_1761 dL_law_1764 dL_law_1765 dL_law_1766 dL_law_1767 dL_law_1769 dL_law_1770 dL_law_1771 dL_law_1776 (by decide) ⟨hc1, hc2⟩ (gg_widen (k := cs.1 + 100) (n := cs.2 + 2000) (by show cs.1 + 60 + 0 ≤ cs.1 + 100; omega) (by show cs.2 + 1500 + 0 ≤ cs.2 + 2000; omega) (kk _ _ _ _ _ _ _ _ C2))
theorem st_difference {nm9 : String} {Γ : GT} {v : Nat → Int64} {w : Nat → UInt64} {ι : Nat → Option XE} {G : Nat → Int} {B : Nat → Int → Int} {F : Nat → Int} {A : Nat → Int → Int} {QF : List Frame → Array Value → State → State → Prop} {cs : Nat × Nat} {b : Nat} {i : Int} (hn : g_n Γ ≤ 2560) (hi : 0 ≤ i ∧ i + 5 ≤ g_n Γ) (C : CP9 ι G B F A b) (hcs : cs.1 + 100 ≤ room_1.cells ∧ cs.2 + 2000 ≤ room_1.slots)
    (kk : ∀ (v' : Nat → Int64) (w' : Nat → UInt64) (ι' : Nat → Option XE) (G' : Nat → Int) (B' : Nat → Int → Int) (F' : Nat → Int) (A' : Nat → Int → Int) (b' : Nat), CP9 ι' G' B' F' A' b' → GG Γ (M_law nm9) QF (cs.1 + 100, cs.2 + 2000) (P9 Γ v' w' ι' G' B' F' A') 2150 (LV9 Γ i none none) []) : GG Γ (M_law nm9) QF cs (P9 Γ v w ι G B F A) 1779 (LV9 Γ i none none) [] := by
  obtain ⟨⟨i1, i2, i3, i4, i5⟩, ⟨e1, e2, e3⟩, p3⟩ := C.2.2.2.2.1
  have sta := C.m.sta
  have lna := C.m.lna
  have exa := C.m.exa
  have h5 : 0 ≤ F 5 ∧ F 5 ≤ 8 := C.2.2.1.1
  have h10 : InR (F 10) := ⟨by omega, by omega⟩
  have r38 := C.r38
  have t6 := C.m.2.2.2.2.2
  have hc1 : cs.1 + 60 ≤ room_1.cells := by have := hcs.1; omega
  have hc2 : cs.2 + 1500 ≤ room_1.slots := by have := hcs.2; omega
  refine gg_aload_n dL_law_1779 rfl rfl ?_
  refine g5 (k := 1) hn rfl rfl hi (by decide) dL_law_1780 dL_law_1781 dL_law_1783 dL_law_1784 dL_law_1785 ?_
  refine g5 (k := 2) hn rfl rfl hi (by decide) dL_law_1786 dL_law_1787 dL_law_1789 dL_law_1790 dL_law_1791 ?_
  refine gg_aload_n dL_law_1792 rfl rfl ?_
  refine gg_callSX (As := [.ref (g_L Γ 30), .int (iN (sx Γ (i + 1))), .int (iN (sx Γ (i + 2))), .ref (g_L Γ 24)]) (rest := []) mokh_L_difference (wi_48 _ (List.mem_of_getElem? (i := 17) rfl)) (wi_48 _ (List.mem_of_getElem? (i := 18) rfl)) dL_law_1793 rfl ⟨(Nat.le_of_ble_eq_true rfl), (Nat.le_of_ble_eq_true rfl)⟩ ⟨Nat.le_trans (Nat.add_le_add_left ((Nat.le_of_ble_eq_true rfl) : (mR M_L_difference).cells ≤ 60) cs.1) hc1, Nat.le_trans (Nat.add_le_add_left ((Nat.le_of_ble_eq_true rfl) : (mR M_L_difference).slots ≤ 1500) cs.2) hc2⟩ (Nat.le_of_ble_eq_true rfl) (cw_difference (h := mst Γ (h9b v w, ι) F A) C (Eq.trans (mst_hi (by decide)) rfl) (sx_r Γ _) (sx_r Γ _)) (fun _ _ z => z.elim) (fun r h' hp => ?_)
  obtain ⟨k, x, ι', G', B', b', rfl, rfl, hX, res⟩ := hp
  refine gg_widen (k := cs.1 + 60) (n := cs.2 + 1500) (Nat.add_le_add_left (Nat.le_of_ble_eq_true rfl) _) (Nat.add_le_add_left (Nat.le_of_ble_eq_true rfl) _) ?_
  rw [P9_wl (G := G) (B := B) (ι := ι)]
  change GG Γ (M_law nm9) QF (cs.1 + 60, cs.2 + 1500) (P9 Γ (vv9 v k x) w ι' G' B' F A) 1796 (LV9 Γ i none none) [.int (iN k)]
  refine gg_istore dL_law_1796 (Nat.le_of_ble_eq_true rfl) rfl ?_
  rw [P9_m]
  refine gg_aload_n dL_law_1798 rfl rfl ?_
  refine g5 (k := 1) hn rfl rfl hi (by decide) dL_law_1799 dL_law_1800 dL_law_1802 dL_law_1803 dL_law_1804 ?_
  refine g5 (k := 2) hn rfl rfl hi (by decide) dL_law_1805 dL_law_1806 dL_law_1808 dL_law_1809 dL_law_1810 ?_
  refine gc_L_206 rfl dL_law_1811 ⟨(Nat.le_of_ble_eq_true rfl), (Nat.le_of_ble_eq_true rfl)⟩ ⟨hc1, hc2⟩ (Nat.le_of_ble_eq_true rfl) (HAt.mu rfl) (c3_X10_difference sta lna exa (sx_r Γ _) (sx_r Γ _)) (fun _ _ z => z.elim) (fun r2 h2 hp2 => ?_)
  have J : ∃ (F2 : Nat → Int) (A2 : Nat → Int → Int) (x2 : Int), r2 = some (.int (iN x2)) ∧ h2 = mst Γ (gst Γ (h9b (vv9 v k x) w, ι') G' B') F2 A2 ∧ F2 0 = k ∧ (0 ≤ k ∧ k ≤ 3) ∧ (k = 0 → x2 = x) ∧ CP9 ι' G' B' F2 A2 b' := by
    rcases res with ⟨r1, rfl, rfl, C2⟩ | ⟨r1, rfl, C2⟩
    · rcases hp2 with ⟨p1, rfl, rfl⟩ | ⟨p1, F2, A2, rfl, f38, fF, fA, rfl, e0⟩
      · first | exact absurd r1 p1 | exact absurd p1 r1 | exact absurd r2 p2 | exact absurd p2 r2 | (exfalso; omega) | (rw [r1] at p1; exact absurd p1 (by decide)) | (rw [r2] at p2; exact absurd p2 (by decide))
      · exact ⟨F2, A2, _, rfl, rfl, e0, by decide, fun _ => rfl, CP9.cF (fF 5 (by decide)) (fF 6 (by decide)) (fF 8 (by decide)) (fF 10 (by decide)) (by rw [f38]; exact r38) (fA 1 (by decide)) (fA 3 (by decide)) (fA 4 (by decide)) (fA 5 (by decide)) C2⟩
    · rcases hp2 with ⟨p1, rfl, rfl⟩ | ⟨p1, F2, A2, rfl, f38, fF, fA, rfl, e0⟩
      · exact ⟨_, _, _, rfl, rfl, (by simp only [uF_s, uF_n, ne_eq, Nat.reduceEqDiff, not_false_eq_true]), by decide, fun z => absurd z (by decide), CP9.cF (by first | rfl | simp only [uF_s, uF_n, uA_s, uA_n, ne_eq, Nat.reduceEqDiff, not_false_eq_true]) (by first | rfl | simp only [uF_s, uF_n, uA_s, uA_n, ne_eq, Nat.reduceEqDiff, not_false_eq_true]) (by first | rfl | simp only [uF_s, uF_n, uA_s, uA_n, ne_eq, Nat.reduceEqDiff, not_false_eq_true]) (by first | rfl | simp only [uF_s, uF_n, uA_s, uA_n, ne_eq, Nat.reduceEqDiff, not_false_eq_true]) (by first | exact r38 | (simp only [uF_s, uF_n, ne_eq, Nat.reduceEqDiff, not_false_eq_true]; exact r38)) (by first | rfl | simp only [uF_s, uF_n, uA_s, uA_n, ne_eq, Nat.reduceEqDiff, not_false_eq_true]) (by first | rfl | simp only [uF_s, uF_n, uA_s, uA_n, ne_eq, Nat.reduceEqDiff, not_false_eq_true]) (by first | rfl | simp only [uF_s, uF_n, uA_s, uA_n, ne_eq, Nat.reduceEqDiff, not_false_eq_true]) (by first | rfl | simp only [uF_s, uF_n, uA_s, uA_n, ne_eq, Nat.reduceEqDiff, not_false_eq_true]) C2⟩
      · first | exact absurd r1 p1 | exact absurd p1 r1 | exact absurd r2 p2 | exact absurd p2 r2 | (exfalso; omega) | (rw [r1] at p1; exact absurd p1 (by decide)) | (rw [r2] at p2; exact absurd p2 (by decide))
  obtain ⟨F2, A2, x2, rfl, rfl, rfl, hk, hx, C2⟩ := J
  rw [← P9_m]
  exact tail9 (x6 := none) (x2 := x2) (fun z => by rw [vv9_0 z, hx z]) hk dL_law_1814 dL_law_1816 dL_law_1817 dL_law_1820 dL_law_1822 dL_law_1827 dL_law_1829 dL_law_1832 dL_law_1833 dL_law_1834 dL_law_1835 dL_law_1837 dL_law_1838 dL_law_1839 dL_law_1844 (by decide) ⟨hc1, hc2⟩ (gg_widen (k := cs.1 + 100) (n := cs.2 + 2000) (by show cs.1 + 60 + 0 ≤ cs.1 + 100; omega) (by show cs.2 + 1500 + 0 ≤ cs.2 + 2000; omega) (kk _ _ _ _ _ _ _ _ C2))
theorem st_suits {nm9 : String} {Γ : GT} {v : Nat → Int64} {w : Nat → UInt64} {ι : Nat → Option XE} {G : Nat → Int} {B : Nat → Int → Int} {F : Nat → Int} {A : Nat → Int → Int} {QF : List Frame → Array Value → State → State → Prop} {cs : Nat × Nat} {b : Nat} {i : Int} (hn : g_n Γ ≤ 2560) (hi : 0 ≤ i ∧ i + 5 ≤ g_n Γ) (C : CP9 ι G B F A b) (hcs : cs.1 + 100 ≤ room_1.cells ∧ cs.2 + 2000 ≤ room_1.slots)
    (kk : ∀ (v' : Nat → Int64) (w' : Nat → UInt64) (ι' : Nat → Option XE) (G' : Nat → Int) (B' : Nat → Int → Int) (F' : Nat → Int) (A' : Nat → Int → Int) (b' : Nat), CP9 ι' G' B' F' A' b' → GG Γ (M_law nm9) QF (cs.1 + 100, cs.2 + 2000) (P9 Γ v' w' ι' G' B' F' A') 2150 (LV9 Γ i none none) []) : GG Γ (M_law nm9) QF cs (P9 Γ v w ι G B F A) 1847 (LV9 Γ i none none) [] := by
  obtain ⟨⟨i1, i2, i3, i4, i5⟩, ⟨e1, e2, e3⟩, p3⟩ := C.2.2.2.2.1
  have sta := C.m.sta
  have lna := C.m.lna
  have exa := C.m.exa
  have h5 : 0 ≤ F 5 ∧ F 5 ≤ 8 := C.2.2.1.1
  have h10 : InR (F 10) := ⟨by omega, by omega⟩
  have r38 := C.r38
  have t6 := C.m.2.2.2.2.2
  have hc1 : cs.1 + 60 ≤ room_1.cells := by have := hcs.1; omega
  have hc2 : cs.2 + 1500 ≤ room_1.slots := by have := hcs.2; omega
  refine gg_aload_n dL_law_1847 rfl rfl ?_
  refine g5 (k := 1) hn rfl rfl hi (by decide) dL_law_1848 dL_law_1849 dL_law_1851 dL_law_1852 dL_law_1853 ?_
  refine gg_aload_n dL_law_1854 rfl rfl ?_
  refine gg_callSX (As := [.ref (g_L Γ 30), .int (iN (sx Γ (i + 1))), .ref (g_L Γ 24)]) (rest := []) mokh_L_suits (wi_49 _ (List.mem_of_getElem? (i := 17) rfl)) (wi_49 _ (List.mem_of_getElem? (i := 18) rfl)) dL_law_1855 rfl ⟨(Nat.le_of_ble_eq_true rfl), (Nat.le_of_ble_eq_true rfl)⟩ ⟨Nat.le_trans (Nat.add_le_add_left ((Nat.le_of_ble_eq_true rfl) : (mR M_L_suits).cells ≤ 60) cs.1) hc1, Nat.le_trans (Nat.add_le_add_left ((Nat.le_of_ble_eq_true rfl) : (mR M_L_suits).slots ≤ 1500) cs.2) hc2⟩ (Nat.le_of_ble_eq_true rfl) (cw_suits (h := mst Γ (h9b v w, ι) F A) C (Eq.trans (mst_hi (by decide)) rfl) (sx_r Γ _)) (fun _ _ z => z.elim) (fun r h' hp => ?_)
  obtain ⟨k, x, ι', G', B', b', rfl, rfl, hX, res⟩ := hp
  refine gg_widen (k := cs.1 + 60) (n := cs.2 + 1500) (Nat.add_le_add_left (Nat.le_of_ble_eq_true rfl) _) (Nat.add_le_add_left (Nat.le_of_ble_eq_true rfl) _) ?_
  rw [P9_wl (G := G) (B := B) (ι := ι)]
  change GG Γ (M_law nm9) QF (cs.1 + 60, cs.2 + 1500) (P9 Γ (vv9 v k x) w ι' G' B' F A) 1858 (LV9 Γ i none none) [.int (iN k)]
  refine gg_istore dL_law_1858 (Nat.le_of_ble_eq_true rfl) rfl ?_
  rw [P9_m]
  refine gg_aload_n dL_law_1860 rfl rfl ?_
  refine g5 (k := 1) hn rfl rfl hi (by decide) dL_law_1861 dL_law_1862 dL_law_1864 dL_law_1865 dL_law_1866 ?_
  refine gc_L_209 rfl dL_law_1867 ⟨(Nat.le_of_ble_eq_true rfl), (Nat.le_of_ble_eq_true rfl)⟩ ⟨hc1, hc2⟩ (Nat.le_of_ble_eq_true rfl) (HAt.mu rfl) (c3_X10_suits sta lna exa r38 (sx_r Γ _)) (fun _ _ z => z.elim) (fun r2 h2 hp2 => ?_)
  have J : ∃ (F2 : Nat → Int) (A2 : Nat → Int → Int) (x2 : Int), r2 = some (.int (iN x2)) ∧ h2 = mst Γ (gst Γ (h9b (vv9 v k x) w, ι') G' B') F2 A2 ∧ F2 0 = k ∧ (0 ≤ k ∧ k ≤ 3) ∧ (k = 0 → x2 = x) ∧ CP9 ι' G' B' F2 A2 b' := by
    rcases res with ⟨r1, r2, rfl, rfl, C2⟩ | ⟨r1, rfl, C2⟩ | ⟨r1, r2, rfl, C2⟩
    · rcases hp2 with ⟨p1, rfl, rfl⟩ | ⟨p1, F2, A2, rfl, h38, fF, fA, ⟨p2, rfl, e0⟩ | ⟨p2, rfl, e0⟩⟩
      · first | exact absurd r1 p1 | exact absurd p1 r1 | exact absurd r2 p2 | exact absurd p2 r2 | (exfalso; omega) | (rw [r1] at p1; exact absurd p1 (by decide)) | (rw [r2] at p2; exact absurd p2 (by decide))
      · first | exact absurd r1 p1 | exact absurd p1 r1 | exact absurd r2 p2 | exact absurd p2 r2 | (exfalso; omega) | (rw [r1] at p1; exact absurd p1 (by decide)) | (rw [r2] at p2; exact absurd p2 (by decide))
      · exact ⟨F2, A2, _, rfl, rfl, e0, by decide, fun _ => rfl, CP9.cF (fF 5 (by decide)) (fF 6 (by decide)) (fF 8 (by decide)) (fF 10 (by decide)) (h38) (fA 1 (by decide)) (fA 3 (by decide)) (fA 4 (by decide)) (fA 5 (by decide)) C2⟩
    · rcases hp2 with ⟨p1, rfl, rfl⟩ | ⟨p1, F2, A2, rfl, h38, fF, fA, ⟨p2, rfl, e0⟩ | ⟨p2, rfl, e0⟩⟩
      · exact ⟨_, _, _, rfl, rfl, (by simp only [uF_s, uF_n, ne_eq, Nat.reduceEqDiff, not_false_eq_true]), by decide, fun z => absurd z (by decide), CP9.cF (by first | rfl | simp only [uF_s, uF_n, uA_s, uA_n, ne_eq, Nat.reduceEqDiff, not_false_eq_true]) (by first | rfl | simp only [uF_s, uF_n, uA_s, uA_n, ne_eq, Nat.reduceEqDiff, not_false_eq_true]) (by first | rfl | simp only [uF_s, uF_n, uA_s, uA_n, ne_eq, Nat.reduceEqDiff, not_false_eq_true]) (by first | rfl | simp only [uF_s, uF_n, uA_s, uA_n, ne_eq, Nat.reduceEqDiff, not_false_eq_true]) (by first | exact r38 | (simp only [uF_s, uF_n, ne_eq, Nat.reduceEqDiff, not_false_eq_true]; exact r38)) (by first | rfl | simp only [uF_s, uF_n, uA_s, uA_n, ne_eq, Nat.reduceEqDiff, not_false_eq_true]) (by first | rfl | simp only [uF_s, uF_n, uA_s, uA_n, ne_eq, Nat.reduceEqDiff, not_false_eq_true]) (by first | rfl | simp only [uF_s, uF_n, uA_s, uA_n, ne_eq, Nat.reduceEqDiff, not_false_eq_true]) (by first | rfl | simp only [uF_s, uF_n, uA_s, uA_n, ne_eq, Nat.reduceEqDiff, not_false_eq_true]) C2⟩
      · first | exact absurd r1 p1 | exact absurd p1 r1 | exact absurd r2 p2 | exact absurd p2 r2 | (exfalso; omega) | (rw [r1] at p1; exact absurd p1 (by decide)) | (rw [r2] at p2; exact absurd p2 (by decide))
      · first | exact absurd r1 p1 | exact absurd p1 r1 | exact absurd r2 p2 | exact absurd p2 r2 | (exfalso; omega) | (rw [r1] at p1; exact absurd p1 (by decide)) | (rw [r2] at p2; exact absurd p2 (by decide))
    · rcases hp2 with ⟨p1, rfl, rfl⟩ | ⟨p1, F2, A2, rfl, h38, fF, fA, ⟨p2, rfl, e0⟩ | ⟨p2, rfl, e0⟩⟩
      · first | exact absurd r1 p1 | exact absurd p1 r1 | exact absurd r2 p2 | exact absurd p2 r2 | (exfalso; omega) | (rw [r1] at p1; exact absurd p1 (by decide)) | (rw [r2] at p2; exact absurd p2 (by decide))
      · exact ⟨F2, A2, _, rfl, rfl, e0, by decide, fun z => absurd z (by decide), CP9.cF (fF 5 (by decide)) (fF 6 (by decide)) (fF 8 (by decide)) (fF 10 (by decide)) (h38) (fA 1 (by decide)) (fA 3 (by decide)) (fA 4 (by decide)) (fA 5 (by decide)) C2⟩
      · first | exact absurd r1 p1 | exact absurd p1 r1 | exact absurd r2 p2 | exact absurd p2 r2 | (exfalso; omega) | (rw [r1] at p1; exact absurd p1 (by decide)) | (rw [r2] at p2; exact absurd p2 (by decide))
  obtain ⟨F2, A2, x2, rfl, rfl, rfl, hk, hx, C2⟩ := J
  rw [← P9_m]
  exact tail9 (x6 := none) (x2 := x2) (fun z => by rw [vv9_0 z, hx z]) hk dL_law_1870 dL_law_1872 dL_law_1873 dL_law_1876 dL_law_1878 dL_law_1883 dL_law_1885 dL_law_1888 dL_law_1889 dL_law_1890 dL_law_1891 dL_law_1893 dL_law_1894 dL_law_1895 dL_law_1900 (by decide) ⟨hc1, hc2⟩ (gg_widen (k := cs.1 + 100) (n := cs.2 + 2000) (by show cs.1 + 60 + 0 ≤ cs.1 + 100; omega) (by show cs.2 + 1500 + 0 ≤ cs.2 + 2000; omega) (kk _ _ _ _ _ _ _ _ C2))
theorem st_account {nm9 : String} {Γ : GT} {v : Nat → Int64} {w : Nat → UInt64} {ι : Nat → Option XE} {G : Nat → Int} {B : Nat → Int → Int} {F : Nat → Int} {A : Nat → Int → Int} {QF : List Frame → Array Value → State → State → Prop} {cs : Nat × Nat} {b : Nat} {i : Int} (hn : g_n Γ ≤ 2560) (hi : 0 ≤ i ∧ i + 5 ≤ g_n Γ) (C : CP9 ι G B F A b) (hcs : cs.1 + 100 ≤ room_1.cells ∧ cs.2 + 2000 ≤ room_1.slots)
    (kk : ∀ (v' : Nat → Int64) (w' : Nat → UInt64) (ι' : Nat → Option XE) (G' : Nat → Int) (B' : Nat → Int → Int) (F' : Nat → Int) (A' : Nat → Int → Int) (b' : Nat), CP9 ι' G' B' F' A' b' → GG Γ (M_law nm9) QF (cs.1 + 100, cs.2 + 2000) (P9 Γ v' w' ι' G' B' F' A') 2150 (LV9 Γ i none none) []) : GG Γ (M_law nm9) QF cs (P9 Γ v w ι G B F A) 1903 (LV9 Γ i none none) [] := by
  obtain ⟨⟨i1, i2, i3, i4, i5⟩, ⟨e1, e2, e3⟩, p3⟩ := C.2.2.2.2.1
  have sta := C.m.sta
  have lna := C.m.lna
  have exa := C.m.exa
  have h5 : 0 ≤ F 5 ∧ F 5 ≤ 8 := C.2.2.1.1
  have h10 : InR (F 10) := ⟨by omega, by omega⟩
  have r38 := C.r38
  have t6 := C.m.2.2.2.2.2
  have hc1 : cs.1 + 60 ≤ room_1.cells := by have := hcs.1; omega
  have hc2 : cs.2 + 1500 ≤ room_1.slots := by have := hcs.2; omega
  refine gg_aload_n dL_law_1903 rfl rfl ?_
  refine g5 (k := 1) hn rfl rfl hi (by decide) dL_law_1904 dL_law_1905 dL_law_1907 dL_law_1908 dL_law_1909 ?_
  refine g5 (k := 2) hn rfl rfl hi (by decide) dL_law_1910 dL_law_1911 dL_law_1913 dL_law_1914 dL_law_1915 ?_
  refine gg_aload_n dL_law_1916 rfl rfl ?_
  refine gg_callSX (As := [.ref (g_L Γ 30), .int (iN (sx Γ (i + 1))), .int (iN (sx Γ (i + 2))), .ref (g_L Γ 24)]) (rest := []) mokh_L_account (wi_50 _ (List.mem_of_getElem? (i := 17) rfl)) (wi_50 _ (List.mem_of_getElem? (i := 18) rfl)) dL_law_1917 rfl ⟨(Nat.le_of_ble_eq_true rfl), (Nat.le_of_ble_eq_true rfl)⟩ ⟨Nat.le_trans (Nat.add_le_add_left ((Nat.le_of_ble_eq_true rfl) : (mR M_L_account).cells ≤ 60) cs.1) hc1, Nat.le_trans (Nat.add_le_add_left ((Nat.le_of_ble_eq_true rfl) : (mR M_L_account).slots ≤ 1500) cs.2) hc2⟩ (Nat.le_of_ble_eq_true rfl) (cw_account (h := mst Γ (h9b v w, ι) F A) C (Eq.trans (mst_hi (by decide)) rfl) (sx_r Γ _) (sx_r Γ _)) (fun _ _ z => z.elim) (fun r h' hp => ?_)
  obtain ⟨k, x, ι', G', B', b', rfl, rfl, hX, res⟩ := hp
  refine gg_widen (k := cs.1 + 60) (n := cs.2 + 1500) (Nat.add_le_add_left (Nat.le_of_ble_eq_true rfl) _) (Nat.add_le_add_left (Nat.le_of_ble_eq_true rfl) _) ?_
  rw [P9_wl (G := G) (B := B) (ι := ι)]
  change GG Γ (M_law nm9) QF (cs.1 + 60, cs.2 + 1500) (P9 Γ (vv9 v k x) w ι' G' B' F A) 1920 (LV9 Γ i none none) [.int (iN k)]
  refine gg_istore dL_law_1920 (Nat.le_of_ble_eq_true rfl) rfl ?_
  rw [P9_m]
  refine gg_aload_n dL_law_1922 rfl rfl ?_
  refine g5 (k := 1) hn rfl rfl hi (by decide) dL_law_1923 dL_law_1924 dL_law_1926 dL_law_1927 dL_law_1928 ?_
  refine g5 (k := 2) hn rfl rfl hi (by decide) dL_law_1929 dL_law_1930 dL_law_1932 dL_law_1933 dL_law_1934 ?_
  refine gc_L_212 rfl dL_law_1935 ⟨(Nat.le_of_ble_eq_true rfl), (Nat.le_of_ble_eq_true rfl)⟩ ⟨hc1, hc2⟩ (Nat.le_of_ble_eq_true rfl) (HAt.mu rfl) (c3_X10_account sta lna exa r38 (sx_r Γ _) (sx_r Γ _)) (fun _ _ z => z.elim) (fun r2 h2 hp2 => ?_)
  have J : ∃ (F2 : Nat → Int) (A2 : Nat → Int → Int) (x2 : Int), r2 = some (.int (iN x2)) ∧ h2 = mst Γ (gst Γ (h9b (vv9 v k x) w, ι') G' B') F2 A2 ∧ F2 0 = k ∧ (0 ≤ k ∧ k ≤ 3) ∧ (k = 0 → x2 = x) ∧ CP9 ι' G' B' F2 A2 b' := by
    rcases res with ⟨r1, r2, rfl, r3, C2⟩ | ⟨r1, rfl, C2⟩ | ⟨r1, r2, rfl, C2⟩
    · rcases hp2 with ⟨p1, rfl, rfl⟩ | ⟨p1, p2, rfl, rfl⟩ | ⟨p1, p2, F2, A2, rfl, h38, fF, fA, rfl, e0⟩
      · first | exact absurd r1 p1 | exact absurd p1 r1 | exact absurd r2 p2 | exact absurd p2 r2 | (exfalso; omega) | (rw [r1] at p1; exact absurd p1 (by decide)) | (rw [r2] at p2; exact absurd p2 (by decide))
      · first | exact absurd r1 p1 | exact absurd p1 r1 | exact absurd r2 p2 | exact absurd p2 r2 | (exfalso; omega) | (rw [r1] at p1; exact absurd p1 (by decide)) | (rw [r2] at p2; exact absurd p2 (by decide))
      · exact ⟨F2, A2, _, rfl, rfl, e0, by decide, fun _ => (r3 (A 19)).symm, CP9.cF (fF 5 (by decide)) (fF 6 (by decide)) (fF 8 (by decide)) (fF 10 (by decide)) (h38) (fA 1 (by decide)) (fA 3 (by decide)) (fA 4 (by decide)) (fA 5 (by decide)) C2⟩
    · rcases hp2 with ⟨p1, rfl, rfl⟩ | ⟨p1, p2, rfl, rfl⟩ | ⟨p1, p2, F2, A2, rfl, h38, fF, fA, rfl, e0⟩
      · exact ⟨_, _, _, rfl, rfl, (by simp only [uF_s, uF_n, ne_eq, Nat.reduceEqDiff, not_false_eq_true]), by decide, fun z => absurd z (by decide), CP9.cF (by first | rfl | simp only [uF_s, uF_n, uA_s, uA_n, ne_eq, Nat.reduceEqDiff, not_false_eq_true]) (by first | rfl | simp only [uF_s, uF_n, uA_s, uA_n, ne_eq, Nat.reduceEqDiff, not_false_eq_true]) (by first | rfl | simp only [uF_s, uF_n, uA_s, uA_n, ne_eq, Nat.reduceEqDiff, not_false_eq_true]) (by first | rfl | simp only [uF_s, uF_n, uA_s, uA_n, ne_eq, Nat.reduceEqDiff, not_false_eq_true]) (by first | exact r38 | (simp only [uF_s, uF_n, ne_eq, Nat.reduceEqDiff, not_false_eq_true]; exact r38)) (by first | rfl | simp only [uF_s, uF_n, uA_s, uA_n, ne_eq, Nat.reduceEqDiff, not_false_eq_true]) (by first | rfl | simp only [uF_s, uF_n, uA_s, uA_n, ne_eq, Nat.reduceEqDiff, not_false_eq_true]) (by first | rfl | simp only [uF_s, uF_n, uA_s, uA_n, ne_eq, Nat.reduceEqDiff, not_false_eq_true]) (by first | rfl | simp only [uF_s, uF_n, uA_s, uA_n, ne_eq, Nat.reduceEqDiff, not_false_eq_true]) C2⟩
      · first | exact absurd r1 p1 | exact absurd p1 r1 | exact absurd r2 p2 | exact absurd p2 r2 | (exfalso; omega) | (rw [r1] at p1; exact absurd p1 (by decide)) | (rw [r2] at p2; exact absurd p2 (by decide))
      · first | exact absurd r1 p1 | exact absurd p1 r1 | exact absurd r2 p2 | exact absurd p2 r2 | (exfalso; omega) | (rw [r1] at p1; exact absurd p1 (by decide)) | (rw [r2] at p2; exact absurd p2 (by decide))
    · rcases hp2 with ⟨p1, rfl, rfl⟩ | ⟨p1, p2, rfl, rfl⟩ | ⟨p1, p2, F2, A2, rfl, h38, fF, fA, rfl, e0⟩
      · first | exact absurd r1 p1 | exact absurd p1 r1 | exact absurd r2 p2 | exact absurd p2 r2 | (exfalso; omega) | (rw [r1] at p1; exact absurd p1 (by decide)) | (rw [r2] at p2; exact absurd p2 (by decide))
      · exact ⟨_, _, _, rfl, rfl, (by simp only [uF_s, uF_n, ne_eq, Nat.reduceEqDiff, not_false_eq_true]), by decide, fun z => absurd z (by decide), CP9.cF (by first | rfl | simp only [uF_s, uF_n, uA_s, uA_n, ne_eq, Nat.reduceEqDiff, not_false_eq_true]) (by first | rfl | simp only [uF_s, uF_n, uA_s, uA_n, ne_eq, Nat.reduceEqDiff, not_false_eq_true]) (by first | rfl | simp only [uF_s, uF_n, uA_s, uA_n, ne_eq, Nat.reduceEqDiff, not_false_eq_true]) (by first | rfl | simp only [uF_s, uF_n, uA_s, uA_n, ne_eq, Nat.reduceEqDiff, not_false_eq_true]) (by first | exact r38 | (simp only [uF_s, uF_n, ne_eq, Nat.reduceEqDiff, not_false_eq_true]; exact r38)) (by first | rfl | simp only [uF_s, uF_n, uA_s, uA_n, ne_eq, Nat.reduceEqDiff, not_false_eq_true]) (by first | rfl | simp only [uF_s, uF_n, uA_s, uA_n, ne_eq, Nat.reduceEqDiff, not_false_eq_true]) (by first | rfl | simp only [uF_s, uF_n, uA_s, uA_n, ne_eq, Nat.reduceEqDiff, not_false_eq_true]) (by first | rfl | simp only [uF_s, uF_n, uA_s, uA_n, ne_eq, Nat.reduceEqDiff, not_false_eq_true]) C2⟩
      · first | exact absurd r1 p1 | exact absurd p1 r1 | exact absurd r2 p2 | exact absurd p2 r2 | (exfalso; omega) | (rw [r1] at p1; exact absurd p1 (by decide)) | (rw [r2] at p2; exact absurd p2 (by decide))
  obtain ⟨F2, A2, x2, rfl, rfl, rfl, hk, hx, C2⟩ := J
  rw [← P9_m]
  exact tail9 (x6 := none) (x2 := x2) (fun z => by rw [vv9_0 z, hx z]) hk dL_law_1938 dL_law_1940 dL_law_1941 dL_law_1944 dL_law_1946 dL_law_1951 dL_law_1953 dL_law_1956 dL_law_1957 dL_law_1958 dL_law_1959 dL_law_1961 dL_law_1962 dL_law_1963 dL_law_1968 (by decide) ⟨hc1, hc2⟩ (gg_widen (k := cs.1 + 100) (n := cs.2 + 2000) (by show cs.1 + 60 + 0 ≤ cs.1 + 100; omega) (by show cs.2 + 1500 + 0 ≤ cs.2 + 2000; omega) (kk _ _ _ _ _ _ _ _ C2))
theorem st_undo {nm9 : String} {Γ : GT} {v : Nat → Int64} {w : Nat → UInt64} {ι : Nat → Option XE} {G : Nat → Int} {B : Nat → Int → Int} {F : Nat → Int} {A : Nat → Int → Int} {QF : List Frame → Array Value → State → State → Prop} {cs : Nat × Nat} {b : Nat} {i : Int} (hn : g_n Γ ≤ 2560) (hi : 0 ≤ i ∧ i + 5 ≤ g_n Γ) (C : CP9 ι G B F A b) (hcs : cs.1 + 100 ≤ room_1.cells ∧ cs.2 + 2000 ≤ room_1.slots)
    (kk : ∀ (v' : Nat → Int64) (w' : Nat → UInt64) (ι' : Nat → Option XE) (G' : Nat → Int) (B' : Nat → Int → Int) (F' : Nat → Int) (A' : Nat → Int → Int) (b' : Nat), CP9 ι' G' B' F' A' b' → GG Γ (M_law nm9) QF (cs.1 + 100, cs.2 + 2000) (P9 Γ v' w' ι' G' B' F' A') 2150 (LV9 Γ i none none) []) : GG Γ (M_law nm9) QF cs (P9 Γ v w ι G B F A) 2049 (LV9 Γ i none none) [] := by
  obtain ⟨⟨i1, i2, i3, i4, i5⟩, ⟨e1, e2, e3⟩, p3⟩ := C.2.2.2.2.1
  have sta := C.m.sta
  have lna := C.m.lna
  have exa := C.m.exa
  have h5 : 0 ≤ F 5 ∧ F 5 ≤ 8 := C.2.2.1.1
  have h10 : InR (F 10) := ⟨by omega, by omega⟩
  have r38 := C.r38
  have t6 := C.m.2.2.2.2.2
  have hc1 : cs.1 + 60 ≤ room_1.cells := by have := hcs.1; omega
  have hc2 : cs.2 + 1500 ≤ room_1.slots := by have := hcs.2; omega
  refine gg_aload_n dL_law_2049 rfl rfl ?_
  refine gg_aload_n dL_law_2050 rfl rfl ?_
  refine gg_callSX (As := [.ref (g_L Γ 30), .ref (g_L Γ 24)]) (rest := []) mokh_L_undo (wi_52 _ (List.mem_of_getElem? (i := 15) rfl)) (wi_52 _ (List.mem_of_getElem? (i := 16) rfl)) dL_law_2051 rfl ⟨(Nat.le_of_ble_eq_true rfl), (Nat.le_of_ble_eq_true rfl)⟩ ⟨Nat.le_trans (Nat.add_le_add_left ((Nat.le_of_ble_eq_true rfl) : (mR M_L_undo).cells ≤ 60) cs.1) hc1, Nat.le_trans (Nat.add_le_add_left ((Nat.le_of_ble_eq_true rfl) : (mR M_L_undo).slots ≤ 1500) cs.2) hc2⟩ (Nat.le_of_ble_eq_true rfl) (cw_undo (h := mst Γ (h9b v w, ι) F A) C (Eq.trans (mst_hi (by decide)) rfl) ) (fun _ _ z => z.elim) (fun r h' hp => ?_)
  obtain ⟨k, x, ι', G', B', b', rfl, rfl, hX, res⟩ := hp
  refine gg_widen (k := cs.1 + 60) (n := cs.2 + 1500) (Nat.add_le_add_left (Nat.le_of_ble_eq_true rfl) _) (Nat.add_le_add_left (Nat.le_of_ble_eq_true rfl) _) ?_
  rw [P9_wl (G := G) (B := B) (ι := ι)]
  change GG Γ (M_law nm9) QF (cs.1 + 60, cs.2 + 1500) (P9 Γ (vv9 v k x) w ι' G' B' F A) 2054 (LV9 Γ i none none) [.int (iN k)]
  refine gg_istore dL_law_2054 (Nat.le_of_ble_eq_true rfl) rfl ?_
  rw [P9_m]
  refine gg_aload_n dL_law_2056 rfl rfl ?_
  refine gc_L_219 rfl dL_law_2057 ⟨(Nat.le_of_ble_eq_true rfl), (Nat.le_of_ble_eq_true rfl)⟩ ⟨hc1, hc2⟩ (Nat.le_of_ble_eq_true rfl) (HAt.mu rfl) (c_X10_undo h5) (fun _ _ z => z.elim) (fun r2 h2 hp2 => ?_)
  have J : ∃ (F2 : Nat → Int) (A2 : Nat → Int → Int) (x2 : Int), r2 = some (.int (iN x2)) ∧ h2 = mst Γ (gst Γ (h9b (vv9 v k x) w, ι') G' B') F2 A2 ∧ F2 0 = k ∧ (0 ≤ k ∧ k ≤ 3) ∧ (k = 0 → x2 = x) ∧ CP9 ι' G' B' F2 A2 b' := by
    rcases res with ⟨r1, rfl, rfl, C2⟩ | ⟨r1, rfl, C2⟩
    · rcases hp2 with ⟨p1, rfl, rfl⟩ | ⟨p1, rfl, rfl⟩
      · first | exact absurd r1 p1 | exact absurd p1 r1 | exact absurd r2 p2 | exact absurd p2 r2 | (exfalso; omega) | (rw [r1] at p1; exact absurd p1 (by decide)) | (rw [r2] at p2; exact absurd p2 (by decide))
      · exact ⟨_, _, _, rfl, rfl, (by simp only [uF_s, uF_n, ne_eq, Nat.reduceEqDiff, not_false_eq_true]), by decide, fun _ => rfl, CP9.cF (by first | rfl | simp only [uF_s, uF_n, uA_s, uA_n, ne_eq, Nat.reduceEqDiff, not_false_eq_true]) (by first | rfl | simp only [uF_s, uF_n, uA_s, uA_n, ne_eq, Nat.reduceEqDiff, not_false_eq_true]) (by first | rfl | simp only [uF_s, uF_n, uA_s, uA_n, ne_eq, Nat.reduceEqDiff, not_false_eq_true]) (by first | rfl | simp only [uF_s, uF_n, uA_s, uA_n, ne_eq, Nat.reduceEqDiff, not_false_eq_true]) (by first | exact r38 | (simp only [uF_s, uF_n, ne_eq, Nat.reduceEqDiff, not_false_eq_true]; exact r38)) (by first | rfl | simp only [uF_s, uF_n, uA_s, uA_n, ne_eq, Nat.reduceEqDiff, not_false_eq_true]) (by first | rfl | simp only [uF_s, uF_n, uA_s, uA_n, ne_eq, Nat.reduceEqDiff, not_false_eq_true]) (by first | rfl | simp only [uF_s, uF_n, uA_s, uA_n, ne_eq, Nat.reduceEqDiff, not_false_eq_true]) (by first | rfl | simp only [uF_s, uF_n, uA_s, uA_n, ne_eq, Nat.reduceEqDiff, not_false_eq_true]) C2⟩
    · rcases hp2 with ⟨p1, rfl, rfl⟩ | ⟨p1, rfl, rfl⟩
      · exact ⟨_, _, _, rfl, rfl, (by simp only [uF_s, uF_n, ne_eq, Nat.reduceEqDiff, not_false_eq_true]), by decide, fun z => absurd z (by decide), CP9.cF (by first | rfl | simp only [uF_s, uF_n, uA_s, uA_n, ne_eq, Nat.reduceEqDiff, not_false_eq_true]) (by first | rfl | simp only [uF_s, uF_n, uA_s, uA_n, ne_eq, Nat.reduceEqDiff, not_false_eq_true]) (by first | rfl | simp only [uF_s, uF_n, uA_s, uA_n, ne_eq, Nat.reduceEqDiff, not_false_eq_true]) (by first | rfl | simp only [uF_s, uF_n, uA_s, uA_n, ne_eq, Nat.reduceEqDiff, not_false_eq_true]) (by first | exact r38 | (simp only [uF_s, uF_n, ne_eq, Nat.reduceEqDiff, not_false_eq_true]; exact r38)) (by first | rfl | simp only [uF_s, uF_n, uA_s, uA_n, ne_eq, Nat.reduceEqDiff, not_false_eq_true]) (by first | rfl | simp only [uF_s, uF_n, uA_s, uA_n, ne_eq, Nat.reduceEqDiff, not_false_eq_true]) (by first | rfl | simp only [uF_s, uF_n, uA_s, uA_n, ne_eq, Nat.reduceEqDiff, not_false_eq_true]) (by first | rfl | simp only [uF_s, uF_n, uA_s, uA_n, ne_eq, Nat.reduceEqDiff, not_false_eq_true]) C2⟩
      · first | exact absurd r1 p1 | exact absurd p1 r1 | exact absurd r2 p2 | exact absurd p2 r2 | (exfalso; omega) | (rw [r1] at p1; exact absurd p1 (by decide)) | (rw [r2] at p2; exact absurd p2 (by decide))
  obtain ⟨F2, A2, x2, rfl, rfl, rfl, hk, hx, C2⟩ := J
  rw [← P9_m]
  exact tail9 (x6 := none) (x2 := x2) (fun z => by rw [vv9_0 z, hx z]) hk dL_law_2060 dL_law_2062 dL_law_2063 dL_law_2066 dL_law_2068 dL_law_2073 dL_law_2075 dL_law_2078 dL_law_2079 dL_law_2080 dL_law_2081 dL_law_2083 dL_law_2084 dL_law_2085 dL_law_2090 (by decide) ⟨hc1, hc2⟩ (gg_widen (k := cs.1 + 100) (n := cs.2 + 2000) (by show cs.1 + 60 + 0 ≤ cs.1 + 100; omega) (by show cs.2 + 1500 + 0 ≤ cs.2 + 2000; omega) (kk _ _ _ _ _ _ _ _ C2))
theorem st_restore {nm9 : String} {Γ : GT} {v : Nat → Int64} {w : Nat → UInt64} {ι : Nat → Option XE} {G : Nat → Int} {B : Nat → Int → Int} {F : Nat → Int} {A : Nat → Int → Int} {QF : List Frame → Array Value → State → State → Prop} {cs : Nat × Nat} {b : Nat} {i : Int} (hn : g_n Γ ≤ 2560) (hi : 0 ≤ i ∧ i + 5 ≤ g_n Γ) (C : CP9 ι G B F A b) (hcs : cs.1 + 100 ≤ room_1.cells ∧ cs.2 + 2000 ≤ room_1.slots)
    (kk : ∀ (v' : Nat → Int64) (w' : Nat → UInt64) (ι' : Nat → Option XE) (G' : Nat → Int) (B' : Nat → Int → Int) (F' : Nat → Int) (A' : Nat → Int → Int) (b' : Nat), CP9 ι' G' B' F' A' b' → GG Γ (M_law nm9) QF (cs.1 + 100, cs.2 + 2000) (P9 Γ v' w' ι' G' B' F' A') 2150 (LV9 Γ i none none) []) : GG Γ (M_law nm9) QF cs (P9 Γ v w ι G B F A) 2106 (LV9 Γ i none none) [] := by
  obtain ⟨⟨i1, i2, i3, i4, i5⟩, ⟨e1, e2, e3⟩, p3⟩ := C.2.2.2.2.1
  have sta := C.m.sta
  have lna := C.m.lna
  have exa := C.m.exa
  have h5 : 0 ≤ F 5 ∧ F 5 ≤ 8 := C.2.2.1.1
  have h10 : InR (F 10) := ⟨by omega, by omega⟩
  have r38 := C.r38
  have t6 := C.m.2.2.2.2.2
  have hc1 : cs.1 + 60 ≤ room_1.cells := by have := hcs.1; omega
  have hc2 : cs.2 + 1500 ≤ room_1.slots := by have := hcs.2; omega
  refine gg_aload_n dL_law_2106 rfl rfl ?_
  refine gg_aload_n dL_law_2107 rfl rfl ?_
  refine gg_callSX (As := [.ref (g_L Γ 30), .ref (g_L Γ 24)]) (rest := []) mokh_L_restore (wi_53 _ (List.mem_of_getElem? (i := 19) rfl)) (wi_53 _ (List.mem_of_getElem? (i := 20) rfl)) dL_law_2108 rfl ⟨(Nat.le_of_ble_eq_true rfl), (Nat.le_of_ble_eq_true rfl)⟩ ⟨Nat.le_trans (Nat.add_le_add_left ((Nat.le_of_ble_eq_true rfl) : (mR M_L_restore).cells ≤ 60) cs.1) hc1, Nat.le_trans (Nat.add_le_add_left ((Nat.le_of_ble_eq_true rfl) : (mR M_L_restore).slots ≤ 1500) cs.2) hc2⟩ (Nat.le_of_ble_eq_true rfl) (cw_restore (h := mst Γ (h9b v w, ι) F A) C (Eq.trans (mst_hi (by decide)) rfl) ) (fun _ _ z => z.elim) (fun r h' hp => ?_)
  obtain ⟨k, x, ι', G', B', b', rfl, rfl, hX, res⟩ := hp
  refine gg_widen (k := cs.1 + 60) (n := cs.2 + 1500) (Nat.add_le_add_left (Nat.le_of_ble_eq_true rfl) _) (Nat.add_le_add_left (Nat.le_of_ble_eq_true rfl) _) ?_
  rw [P9_wl (G := G) (B := B) (ι := ι)]
  change GG Γ (M_law nm9) QF (cs.1 + 60, cs.2 + 1500) (P9 Γ (vv9 v k x) w ι' G' B' F A) 2111 (LV9 Γ i none none) [.int (iN k)]
  refine gg_istore dL_law_2111 (Nat.le_of_ble_eq_true rfl) rfl ?_
  rw [P9_m]
  refine gg_aload_n dL_law_2113 rfl rfl ?_
  refine gc_L_226 rfl dL_law_2114 ⟨(Nat.le_of_ble_eq_true rfl), (Nat.le_of_ble_eq_true rfl)⟩ ⟨hc1, hc2⟩ (Nat.le_of_ble_eq_true rfl) (HAt.mu rfl) (c3_X10_restore (fun q => (C.2.2.2.1.2.2.1 q).sta) t6 C.2.2.2.1.1) (fun _ _ z => z.elim) (fun r2 h2 hp2 => ?_)
  have J : ∃ (F2 : Nat → Int) (A2 : Nat → Int → Int) (x2 : Int), r2 = some (.int (iN x2)) ∧ h2 = mst Γ (gst Γ (h9b (vv9 v k x) w, ι') G' B') F2 A2 ∧ F2 0 = k ∧ (0 ≤ k ∧ k ≤ 3) ∧ (k = 0 → x2 = x) ∧ CP9 ι' G' B' F2 A2 b' := by
    rcases res with ⟨r1, rfl, rfl, C2⟩ | ⟨r1, rfl, C2⟩
    · rcases hp2 with ⟨p1, rfl, rfl⟩ | ⟨p1, rfl, rfl⟩
      · first | exact absurd r1 p1 | exact absurd p1 r1 | exact absurd r2 p2 | exact absurd p2 r2 | (exfalso; omega) | (rw [r1] at p1; exact absurd p1 (by decide)) | (rw [r2] at p2; exact absurd p2 (by decide))
      · exact ⟨_, _, _, rfl, rfl, (by simp only [uF_s, uF_n, ne_eq, Nat.reduceEqDiff, not_false_eq_true]), by decide, fun _ => rfl, CP9.cF (by first | rfl | simp only [uF_s, uF_n, uA_s, uA_n, ne_eq, Nat.reduceEqDiff, not_false_eq_true]) (by first | rfl | simp only [uF_s, uF_n, uA_s, uA_n, ne_eq, Nat.reduceEqDiff, not_false_eq_true]) (by first | rfl | simp only [uF_s, uF_n, uA_s, uA_n, ne_eq, Nat.reduceEqDiff, not_false_eq_true]) (by first | rfl | simp only [uF_s, uF_n, uA_s, uA_n, ne_eq, Nat.reduceEqDiff, not_false_eq_true]) (by first | exact r38 | (simp only [uF_s, uF_n, ne_eq, Nat.reduceEqDiff, not_false_eq_true]; exact r38)) (by first | rfl | simp only [uF_s, uF_n, uA_s, uA_n, ne_eq, Nat.reduceEqDiff, not_false_eq_true]) (by first | rfl | simp only [uF_s, uF_n, uA_s, uA_n, ne_eq, Nat.reduceEqDiff, not_false_eq_true]) (by first | rfl | simp only [uF_s, uF_n, uA_s, uA_n, ne_eq, Nat.reduceEqDiff, not_false_eq_true]) (by first | rfl | simp only [uF_s, uF_n, uA_s, uA_n, ne_eq, Nat.reduceEqDiff, not_false_eq_true]) C2⟩
    · rcases hp2 with ⟨p1, rfl, rfl⟩ | ⟨p1, rfl, rfl⟩
      · exact ⟨_, _, _, rfl, rfl, (by simp only [uF_s, uF_n, ne_eq, Nat.reduceEqDiff, not_false_eq_true]), by decide, fun z => absurd z (by decide), CP9.cF (by first | rfl | simp only [uF_s, uF_n, uA_s, uA_n, ne_eq, Nat.reduceEqDiff, not_false_eq_true]) (by first | rfl | simp only [uF_s, uF_n, uA_s, uA_n, ne_eq, Nat.reduceEqDiff, not_false_eq_true]) (by first | rfl | simp only [uF_s, uF_n, uA_s, uA_n, ne_eq, Nat.reduceEqDiff, not_false_eq_true]) (by first | rfl | simp only [uF_s, uF_n, uA_s, uA_n, ne_eq, Nat.reduceEqDiff, not_false_eq_true]) (by first | exact r38 | (simp only [uF_s, uF_n, ne_eq, Nat.reduceEqDiff, not_false_eq_true]; exact r38)) (by first | rfl | simp only [uF_s, uF_n, uA_s, uA_n, ne_eq, Nat.reduceEqDiff, not_false_eq_true]) (by first | rfl | simp only [uF_s, uF_n, uA_s, uA_n, ne_eq, Nat.reduceEqDiff, not_false_eq_true]) (by first | rfl | simp only [uF_s, uF_n, uA_s, uA_n, ne_eq, Nat.reduceEqDiff, not_false_eq_true]) (by first | rfl | simp only [uF_s, uF_n, uA_s, uA_n, ne_eq, Nat.reduceEqDiff, not_false_eq_true]) C2⟩
      · first | exact absurd r1 p1 | exact absurd p1 r1 | exact absurd r2 p2 | exact absurd p2 r2 | (exfalso; omega) | (rw [r1] at p1; exact absurd p1 (by decide)) | (rw [r2] at p2; exact absurd p2 (by decide))
  obtain ⟨F2, A2, x2, rfl, rfl, rfl, hk, hx, C2⟩ := J
  rw [← P9_m]
  exact tail9 (x6 := none) (x2 := x2) (fun z => by rw [vv9_0 z, hx z]) hk dL_law_2117 dL_law_2119 dL_law_2120 dL_law_2123 dL_law_2125 dL_law_2130 dL_law_2132 dL_law_2135 dL_law_2136 dL_law_2137 dL_law_2138 dL_law_2140 dL_law_2141 dL_law_2142 dL_law_2147 (by decide) ⟨hc1, hc2⟩ (gg_widen (k := cs.1 + 100) (n := cs.2 + 2000) (by show cs.1 + 60 + 0 ≤ cs.1 + 100; omega) (by show cs.2 + 1500 + 0 ≤ cs.2 + 2000; omega) (kk _ _ _ _ _ _ _ _ C2))
