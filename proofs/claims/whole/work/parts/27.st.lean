/-! rows for statics, strings, throws -/
theorem cx_k {Γ M p s m args meth c} (X : CX Γ M p s m args meth c) : ∀ a : Nat, a < (g_H Γ).size → ¬ gA Γ a → s.heap[a]? = (g_H Γ)[a]? := fun a ha _ => X.R.2.1 a ha
theorem cx_S {Γ M p s m args meth c} {h : XH} {H : Heap} {locs : List Loc} (X : CX Γ M p s m args meth c) (R : RH Γ h H) (z : s.heap.size ≤ H.size) (f : ∀ z ∈ locs, gA Γ z.base) : va_S (gA Γ) s.heap H locs :=
  ⟨z, fun q _ ha => by
    have q1 : q < (g_H Γ).size := Nat.lt_of_not_le ha
    rw [R.2.1 q q1, X.R.2.1 q q1], f⟩
theorem RH.grown {Γ : GT} {h : XH} {H H1 : Heap} (R : RH Γ h H) (z : H.size ≤ H1.size) (o : ∀ q : Nat, q < H.size → H1[q]? = H[q]?) : RH Γ h H1 := by
  obtain ⟨r1, r2, r3, r4, r5, r6⟩ := R
  exact ⟨Nat.le_trans r1 z, fun q hq => (o q (by omega)).trans (r2 q hq), fun j f hj => ⟨(r3 j f hj).1.kept (o _ (r3 j f hj).1.lt), (r3 j f hj).2⟩, fun q f hq => ⟨(r4 q f hq).1.kept (o _ (r4 q f hq).1.lt), (r4 q f hq).2⟩, r5, r6⟩
theorem LR.of_hasL {ls : Array Slot} {nL i : Nat} {x : Int64} {lv : List (Option Value)} (hi : i + 1 < nL) (ho : lok lv i = true) (h : lv_has ls nL ((i, .long x) :: (las lv 0).filter (fun q => !(q.1 == i) && (!(q.1 == i + 1) && !(q.1 + 1 == i && q.2.category == 2))))) : LR ls nL (lset (lset lv i (some (.long x))) (i + 1) none) := by
  refine ⟨h.1, h.2.1, fun j w hj => ?_⟩
  rw [lget_set] at hj
  by_cases e0 : i + 1 = j
  · subst e0
    rw [if_pos rfl] at hj
    split at hj <;> cases hj
  · rw [if_neg e0, lget_set] at hj
    by_cases e : i = j
    · subst e
      rw [if_pos rfl] at hj
      split at hj
      · cases hj; exact h.2.2 (i, .long x) List.mem_cons_self
      · cases hj
    · rw [if_neg e] at hj
      refine h.2.2 (j, w) (List.mem_cons_of_mem _ (List.mem_filter.mpr ⟨?_, ?_⟩))
      · have := (las_get lv 0 j w).mpr hj
        rwa [Nat.zero_add] at this
      · have e1 : (j == i) = false := beq_eq_false_iff_ne.mpr (fun q => e q.symm)
        have e3 : (j == i + 1) = false := beq_eq_false_iff_ne.mpr (fun q => e0 q.symm)
        simp only [e1, e3, Bool.not_false, Bool.true_and]
        by_cases e2 : j + 1 = i
        · subst e2
          simp only [lok, hj] at ho
          have h1 : w.category = 1 := by simpa using ho
          simp [h1]
        · simp [beq_eq_false_iff_ne.mpr e2]
section RowsS
variable {Γ : GT} {M : MT} {QF : List Frame → Array Value → State → State → Prop} {cs : Nat × Nat} {h : XH} {pc : Nat} {lv : List (Option Value)} {st : List Value}
theorem gg_gets {C n d : String} {v : Value} {index : Nat} (hZ : ∀ s : State, KB Γ s → va_Z C n d v (gA Γ) s (g_H Γ)) (hl : Cond.fieldLink M.1.cls index C n d ∈ WA) (hd : decode M.2.1 pc = .ok (.getstatic index, 3)) (kk : GG Γ M QF cs h (pc + 3) lv (v :: st)) : GG Γ M QF cs h pc lv st :=
  fun p e s m args below meth c H locs ls X R z f L => va_gets X.x X.b ((hZ s X.K).kept (cx_k X)) (cx_S X R z f) X.own (X.ts _ hl) (fun x hx => hx) hd (kk p e s m args below meth c H locs ls X R z f L)
theorem gg_getsq {C n d : String} {index : Nat} (hZ : ∀ s : State, KB Γ s → va_Zq C n d (gA Γ) s (g_H Γ)) (hl : Cond.fieldLink M.1.cls index C n d ∈ WA) (hd : decode M.2.1 pc = .ok (.getstatic index, 3)) (kk : ∀ v : Value, v.isRef = true → GG Γ M QF cs h (pc + 3) lv (v :: st)) : GG Γ M QF cs h pc lv st := by
  intro p e s m args below meth c H locs ls X R z f L
  rcases hZ s X.K with q | ⟨t, q⟩
  · exact va_gets X.x X.b (q.kept (cx_k X)) (cx_S X R z f) X.own (X.ts _ hl) (fun x hx => hx) hd (kk .null rfl p e s m args below meth c H locs ls X R z f L)
  · exact va_gets X.x X.b (q.kept (cx_k X)) (cx_S X R z f) X.own (X.ts _ hl) (fun x hx => hx) hd (kk (.ref t) rfl p e s m args below meth c H locs ls X R z f L)
/-- the letters of the names of metres -/
def nmI (i : Int) : Int := ([105, 97, 109, 98, 0, 0, 0, 0, 116, 114, 111, 99, 104, 101, 101, 0, 97, 110, 97, 112, 101, 115, 116, 0, 100, 97, 99, 116, 121, 108, 0, 0] : List Int).getD i.toNat 0
theorem nm_eq : ∀ j : Fin 32, nm_f j.val = .int (iN (nmI (j.val : Int))) := by decide +kernel
theorem gg_nmld {i : Int} (hd : decode M.2.1 pc = .ok (.iaload, 1)) (hi : 0 ≤ i ∧ i < 32) (kk : GG Γ M QF cs h (pc + 1) lv (.int (iN (nmI i)) :: st)) : GG Γ M QF cs h pc lv (.int (iN i) :: .ref (g_nm Γ) :: st) := by
  obtain ⟨n, rfl⟩ := Int.eq_ofNat_of_zero_le hi.1
  exact fun p e s m args below meth c H locs ls X R z f L => va_ti X.x X.b (X.K.2.2.2.2.2.2.2.2.2.2.1.kept (cx_k X)) (cx_S X R z f) (iN_in hi.1 hi.2 (by decide)) (by rw [iN_clamp hi.1 (by omega)]; exact nm_eq ⟨n, by omega⟩) hd (kk p e s m args below meth c H locs ls X R z f L)
theorem gg_sval {i index : Nat} (hi : i < 5) (hl : Cond.fieldLink M.1.cls index "java/lang/String" "value" "[B" ∈ WA) (hd : decode M.2.1 pc = .ok (.getfield index, 3)) (kk : GG Γ M QF cs h (pc + 3) lv (.ref (g_sv Γ i) :: st)) : GG Γ M QF cs h pc lv (.ref (g_str Γ i) :: st) :=
  fun p e s m args below meth c H locs ls X R z f L => vk_getf X.x X.b ((X.K.2.2.2.2.2.2.2.2.1.1 i hi).2.2.1.kept (cx_k X)) (cx_S X R z f) X.own (X.ts _ hl) (fun x hx => hx) hd (kk p e s m args below meth c H locs ls X R z f L)
theorem gg_scod {i index : Nat} (hi : i < 5) (hl : Cond.fieldLink M.1.cls index "java/lang/String" "coder" "B" ∈ WA) (hd : decode M.2.1 pc = .ok (.getfield index, 3)) (kk : GG Γ M QF cs h (pc + 3) lv (.int (iN 0) :: st)) : GG Γ M QF cs h pc lv (.ref (g_str Γ i) :: st) :=
  fun p e s m args below meth c H locs ls X R z f L => vk_getf X.x X.b ((X.K.2.2.2.2.2.2.2.2.1.1 i hi).2.1.kept (cx_k X)) (cx_S X R z f) X.own (X.ts _ hl) (fun x hx => hx) hd (kk p e s m args below meth c H locs ls X R z f L)
/-- the texts that the class holds -/
def sln (i : Nat) : Int := ((s_len.getD i 0 : Nat) : Int)
def sby (i : Nat) (k : Int) : Int := (([[97, 101, 105, 111, 117, 121], [105, 97, 109, 98], [116, 114, 111, 99, 104, 101, 101], [97, 110, 97, 112, 101, 115, 116], [100, 97, 99, 116, 121, 108]] : List (List Int)).getD i []).getD k.toNat 0
theorem sby_eq : ∀ (i : Fin 5) (k : Fin 8), (s_byt.getD i.val []).getD k.val 0 = iN (sby i.val (k.val : Int)) := by decide +kernel
theorem sby_r : ∀ (i : Fin 5) (k : Fin 8), 0 ≤ sby i.val (k.val : Int) ∧ sby i.val (k.val : Int) ≤ 122 := by decide +kernel
theorem sln_r : ∀ i : Fin 5, 4 ≤ sln i.val ∧ sln i.val ≤ 7 := by decide +kernel
theorem gg_slen {i : Nat} (hi : i < 5) (hd : decode M.2.1 pc = .ok (.arraylength, 1)) (kk : GG Γ M QF cs h (pc + 1) lv (.int (iN (sln i)) :: st)) : GG Γ M QF cs h pc lv (.ref (g_sv Γ i) :: st) :=
  fun p e s m args below meth c H locs ls X R z f L => va_tlen X.x X.b ((X.K.2.2.2.2.2.2.2.2.1.1 i hi).2.2.2.kept (cx_k X)) (cx_S X R z f) (v := iN (sln i)) (by unfold sln; rw [iN_nI]; rfl) hd (kk p e s m args below meth c H locs ls X R z f L)
theorem gg_sbld {i : Nat} {k : Int} (hi : i < 5) (hd : decode M.2.1 pc = .ok (.baload, 1)) (hk : 0 ≤ k ∧ k < sln i) (kk : GG Γ M QF cs h (pc + 1) lv (.int (iN (sby i k)) :: st)) : GG Γ M QF cs h pc lv (.int (iN k) :: .ref (g_sv Γ i) :: st) := by
  have hz := sln_r ⟨i, hi⟩
  obtain ⟨n, rfl⟩ := Int.eq_ofNat_of_zero_le hk.1
  refine fun p e s m args below meth c H locs ls X R z f L => va_tb X.x X.b ((X.K.2.2.2.2.2.2.2.2.1.1 i hi).2.2.2.kept (cx_k X)) (cx_S X R z f) (iN_in (n := s_len.getD i 0) hk.1 hk.2 (by unfold sln at hz; dsimp only at hz; omega)) ?_ hd (kk p e s m args below meth c H locs ls X R z f L)
  rw [iN_clamp hk.1 (by dsimp only at hz; omega)]
  exact congrArg Value.int (sby_eq ⟨i, hi⟩ ⟨n, by dsimp only at hz; omega⟩)
theorem gg_ldcS {k : Nat} (hk : k < 6) (hM : M.1.cls = (s_own k).1) (hd : decode M.2.1 pc = .ok (.ldc (s_own k).2.1, 2)) (kk : GG Γ M QF cs h (pc + 2) lv (.ref (g_str Γ (s_ix k)) :: st)) : GG Γ M QF cs h pc lv st :=
  fun p e s m args below meth c H locs ls X R z f L => va_ldcS X.x X.b X.own (by rw [hM]; exact X.K.2.2.2.2.2.2.2.1 k hk) hd (kk p e s m args below meth c H locs ls X R z f L)
theorem gg_ldcSW {k : Nat} (hk : k < 6) (hM : M.1.cls = (s_own k).1) (hd : decode M.2.1 pc = .ok (.ldc_w (s_own k).2.1, 3)) (kk : GG Γ M QF cs h (pc + 3) lv (.ref (g_str Γ (s_ix k)) :: st)) : GG Γ M QF cs h pc lv st := by
  intro p e s m args below meth c H locs ls X R z f L T hT Y
  obtain ⟨t, a1, b1⟩ := kk p e s m args below meth c H locs ls X R z f L T hT Y
  have hZ := X.K.2.2.2.2.2.2.2.1 k hk
  exact ⟨t, Y.ldcStringW X.x (own := M.1.cls) X.own (text := (s_own k).2.2) (a := g_str Γ (s_ix k)) (by rw [hM]; exact hZ.1) (by rw [hM]; exact hZ.2) (g := F0 m pc ls st) rfl (by rw [X.b]; exact hd) t a1, b1⟩
theorem gg_ldcw {index : Nat} {v : Int32} (hl : Cond.constant M.1.cls index v ∈ WA) (hd : decode M.2.1 pc = .ok (.ldc_w index, 3)) (kk : GG Γ M QF cs h (pc + 3) lv (.int v :: st)) : GG Γ M QF cs h pc lv st :=
  fun p e s m args below meth c H locs ls X R z f L => lv_ldcw X.x X.b X.own (X.ts _ hl) hd (kk p e s m args below meth c H locs ls X R z f L)
theorem gg_ldc2w {index : Nat} {v : Int64} (hl : Cond.constantLong M.1.cls index v ∈ WA) (hd : decode M.2.1 pc = .ok (.ldc2_w index, 3)) (kk : GG Γ M QF cs h (pc + 3) lv (.long v :: st)) : GG Γ M QF cs h pc lv st :=
  fun p e s m args below meth c H locs ls X R z f L => lv_ldc2 X.x X.b X.own (X.ts _ hl) hd (kk p e s m args below meth c H locs ls X R z f L)
theorem gg_lstore_n {k9 : Fin 4} {x : Int64} (hd : decode M.2.1 pc = .ok (.lstore_n k9, 1)) (hn : (k9 : Nat) + 1 < M.2.2.1) (ho : lok lv (k9 : Nat) = true) (k : GG Γ M QF cs h (pc + 1) (lset (lset lv (k9 : Nat) (some (.long x))) ((k9 : Nat) + 1) none) st) : GG Γ M QF cs h pc lv (.long x :: st) :=
  fun p e s m args below meth c H locs ls C R z f L => lv_lstore_n C.x C.b hd rfl L.as hn rfl (fun ls2 h2 => k p e s m args below meth c H locs ls2 C R z f (LR.of_hasL hn ho h2))
theorem gg_iushr {x y : Int32} {v : Int32} (hd : decode M.2.1 pc = .ok (.iushr, 1)) (hv : (x.toUInt32 >>> (y.toUInt32 &&& Int32.toUInt32 31)).toInt32 = v) (k : GG Γ M QF cs h (pc + 1) lv (.int v :: st)) : GG Γ M QF cs h pc lv (.int y :: .int x :: st) :=
  fun p e s m args below meth c H locs ls C R z f L => lv_iushr C.x C.b hd hv (k p e s m args below meth c H locs ls C R z f L)
/-- a call on one of the texts -/
theorem gg_callVs {M2 : MT} {i index n : Nat} {As rest : List Value} {post2 : Option Value → XH → Prop} {xp2 : String → XH → Prop} (hi9 : i < 5) (h2 : MOk M2 n) (hl : Cond.methodLink M.1.cls index M2.1 ∈ WA) (hi : Cond.instanceMethod M2.1 ∈ WA) (hs : Cond.selects "java/lang/String" M2.1 M2.1 ∈ WA)
    (hd : decode M.2.1 pc = .ok (.invokevirtual index, 3)) (hn : As.length = n) (hR : (mR M2).frames + 1 ≤ (mR M).frames ∧ 8 + (M2.2.2.1 + 11) + (mR M2).locals ≤ (mR M).locals) (hcap : cs.1 + (mR M2).cells ≤ (mR M).cells ∧ cs.2 + (mR M2).slots ≤ (mR M).slots) (hrest : (rest.map fun v => v.category).sum ≤ 8)
    (K : Ct Γ M2 (.ref (g_str Γ i) :: As) h post2 xp2) (kx : ∀ (E : String) (h' : XH), xp2 E h' → GX Γ M QF (cs.1 + (mR M2).cells, cs.2 + (mR M2).slots) h' pc lv rest E)
    (kk : ∀ (r : Option Value) (h' : XH), post2 r h' → GG Γ M QF (cs.1 + (mR M2).cells, cs.2 + (mR M2).slots) h' (pc + 3) lv (r.toList ++ rest)) : GG Γ M QF cs h pc lv (As.reverse ++ .ref (g_str Γ i) :: rest) :=
  fun p e s m args below meth c H locs ls X R z f L => gg_after kk kx X z f L
    (vx_runV (C := "java/lang/String") (b := g_str Γ i) (As := As) (rest := rest) (nL := M.2.2.1) (Ts := WA) (own := M.1.cls) ⟨X.x, X.b, X.ml, X.own, X.ts⟩ K ⟨gc_B (Γ := Γ) X.ts h2 hl hR, X.ts _ hi, X.ts _ hs⟩
      ⟨pc9_blind, vk_recv (X.K.2.2.2.2.2.2.2.2.1.kept (cx_k X)) hi9 (cx_S X R z f), fun U hU hW => ⟨rfl, by rw [hU]; exact R, X.K.warm hW⟩⟩ rfl hn L.1 rfl (lv_room hrest) hd hcap)
/-- what a throw of the class cls needs -/
def THR (cls : String) (ik ic : Nat) : Prop := ∃ (i9 : Nat) (b9 : ByteArray), lk9 b9 i9 ∧ RX9 ≠ cls ∧ (∀ w ∈ Bundle.throwableAtoms ++ (Bundle.throwableSAtoms ++ Bundle.chainSAtoms rN9 [eN9]), bad9 cls w = false) ∧ Bundle.fit cls = true ∧ Cond.classLink RX9 ik cls ∈ WA ∧ Cond.initialized cls ∈ WA ∧ (∀ w ∈ at9 RX9 ic cls i9 b9, w ∈ WA ∨ w = Cond.castable cls cls ∨ ∃ q ∈ NWD, w = Cond.declares q) ∧ (cls, cls) ∈ NWC ∧ ∀ w ∈ at9 RX9 ic cls i9 b9, vx_ot w = true
theorem thr_at {Γ : GT} {cls : String} {args : Array Value} {s : State} {L : List Cond} (T : ∀ w ∈ L, w ∈ WA ∨ w = Cond.castable cls cls ∨ ∃ q ∈ NWD, w = Cond.declares q) (hc : (cls, cls) ∈ NWC) (K : KB Γ s) (ts : ∀ w ∈ WA, w.before args s = true) : ∀ w ∈ L, w.before args s = true := by
  intro w hw
  rcases T w hw with q | q | ⟨x, hx, q⟩
  · exact ts w q
  · subst q
    exact va_tabs rfl rfl (K.2.2.2.2.1 _ hc)
  · subst q
    exact va_tabs rfl rfl (K.2.2.2.2.2.2.2.2.2.2.2.2.2.2.2.2.2 _ hx)
theorem thr_ot {cls : String} {ik : Nat} {L : List Cond} (T : ∀ w ∈ L, vx_ot w = true) : ∀ w ∈ Cond.classLink RX9 ik cls :: Cond.initialized cls :: L, vx_ot w = true := by
  intro w hw
  rcases List.mem_cons.mp hw with rfl | hw
  · rfl
  · rcases List.mem_cons.mp hw with rfl | hw
    · rfl
    · exact T w hw
theorem gg_throw {post : Option Value → XH → Prop} {xp : String → XH → Prop} {cls text : String} {ik is ic : Nat} (T : THR cls ik ic) (hM : M.1.cls = RX9) (hS : (RX9, is, text) ∈ STL)
    (d0 : decode M.2.1 pc = .ok (.new ik, 3)) (d3 : decode M.2.1 (pc + 3) = .ok (.dup, 1)) (d4 : decode M.2.1 (pc + 4) = .ok (.ldc is, 2)) (d6 : decode M.2.1 (pc + 6) = .ok (.invokespecial ic, 3)) (d9 : decode M.2.1 (pc + 9) = .ok (.athrow, 1))
    (hh : M.2.2.2.2.2 = []) (hR : 5 < (mR M).frames ∧ (st.map fun v => v.category).sum + 82 ≤ (mR M).locals) (hcap : cs.1 + 1 ≤ (mR M).cells ∧ cs.2 + 6 ≤ (mR M).slots) (hp : xp cls h) : GG Γ M (QM Γ M post xp) cs h pc lv st := by
  intro p e s m args below meth c H locs ls X R z f L
  obtain ⟨sa, hsa⟩ := X.K.2.2.2.2.2.2.1 _ hS
  obtain ⟨i9, b9, t1, t2, t3, t4, t5, t6, t7, t8, t9⟩ := T
  exact vx_make9 (A := gA Γ) X.x X.b X.K.2.2.2.2.2.2.2.2.2.2.2.2.2.2.1 t1 t2 t3 (hM ▸ X.own) t4 (X.ts _ t5) (X.ts _ t6) hsa (thr_at t7 t8 X.K X.ts) (thr_ot t9)
    (X.K.2.1.kept (cx_k X)) (X.K.2.2.1.kept (cx_k X)) (cx_S X R z f) (L.1.trans X.ml.symm) d0 d3 (Or.inl ⟨rfl, d4⟩) d6 hR.1 hR.2 hcap.1 hcap.2
    (fun q ce H1 h1 h2 h3 h4 h5 => vx_athrow X.x X.b d9 (gx_out (cs := (cs.1 + 1, cs.2 + 6)) hh hcap hp p e s m args below meth c H1 locs ls q ce X (R.grown h4 h5) (Nat.le_trans z h4) f L h1 h2 h3))
theorem gg_throwW {post : Option Value → XH → Prop} {xp : String → XH → Prop} {cls text : String} {ik is ic : Nat} (T : THR cls ik ic) (hM : M.1.cls = RX9) (hS : (RX9, is, text) ∈ STL)
    (d0 : decode M.2.1 pc = .ok (.new ik, 3)) (d3 : decode M.2.1 (pc + 3) = .ok (.dup, 1)) (d4 : decode M.2.1 (pc + 4) = .ok (.ldc_w is, 3)) (d7 : decode M.2.1 (pc + 7) = .ok (.invokespecial ic, 3)) (d10 : decode M.2.1 (pc + 10) = .ok (.athrow, 1))
    (hh : M.2.2.2.2.2 = []) (hR : 5 < (mR M).frames ∧ (st.map fun v => v.category).sum + 82 ≤ (mR M).locals) (hcap : cs.1 + 1 ≤ (mR M).cells ∧ cs.2 + 6 ≤ (mR M).slots) (hp : xp cls h) : GG Γ M (QM Γ M post xp) cs h pc lv st := by
  intro p e s m args below meth c H locs ls X R z f L
  obtain ⟨sa, hsa⟩ := X.K.2.2.2.2.2.2.1 _ hS
  obtain ⟨i9, b9, t1, t2, t3, t4, t5, t6, t7, t8, t9⟩ := T
  exact vx_make9 (A := gA Γ) X.x X.b X.K.2.2.2.2.2.2.2.2.2.2.2.2.2.2.1 t1 t2 t3 (hM ▸ X.own) t4 (X.ts _ t5) (X.ts _ t6) hsa (thr_at t7 t8 X.K X.ts) (thr_ot t9)
    (X.K.2.1.kept (cx_k X)) (X.K.2.2.1.kept (cx_k X)) (cx_S X R z f) (L.1.trans X.ml.symm) d0 d3 (Or.inr ⟨rfl, d4⟩) d7 hR.1 hR.2 hcap.1 hcap.2
    (fun q ce H1 h1 h2 h3 h4 h5 => vx_athrow X.x X.b d10 (gx_out (cs := (cs.1 + 1, cs.2 + 6)) hh hcap hp p e s m args below meth c H1 locs ls q ce X (R.grown h4 h5) (Nat.le_trans z h4) f L h1 h2 h3))
end RowsS
theorem thr_0 : THR "java/lang/IllegalStateException" 82 86 := by
  refine ⟨7, Bundle.six, ⟨by decide +kernel, by decide +kernel, by decide +kernel, by decide +kernel⟩, by decide, by decide +kernel, by decide, wi_7 _ (List.mem_of_getElem? (i := 5) rfl), wi_7 _ (List.mem_of_getElem? (i := 6) rfl), fun w hw => ?_, by decide +kernel, fun w hw => ?_⟩
  · cases hg : goodWord w with
    | true => exact Or.inl (wi_55 w (List.mem_filter.mpr ⟨hw, hg⟩))
    | false =>
      have h2 : w ∈ (at9 RX9 86 "java/lang/IllegalStateException" 7 Bundle.six).filter (fun w => !goodWord w) := List.mem_filter.mpr ⟨hw, by rw [hg]; rfl⟩
      have h3 : ∀ w ∈ (at9 RX9 86 "java/lang/IllegalStateException" 7 Bundle.six).filter (fun w => !goodWord w), w = Cond.castable "java/lang/IllegalStateException" "java/lang/IllegalStateException" ∨ ∃ q ∈ NWD, w = Cond.declares q := by decide +kernel
      exact Or.inr (h3 w h2)
  · have h3 : (at9 RX9 86 "java/lang/IllegalStateException" 7 Bundle.six).all vx_ot = true := by decide +kernel
    exact List.all_eq_true.mp h3 w hw
theorem thr_1 : THR "java/util/NoSuchElementException" 96 100 := by
  refine ⟨13, prog_33_method_4_code, ⟨by decide +kernel, by decide +kernel, by decide +kernel, by decide +kernel⟩, by decide, by decide +kernel, by decide, wi_8 _ (List.mem_of_getElem? (i := 8) rfl), wi_8 _ (List.mem_of_getElem? (i := 9) rfl), fun w hw => ?_, by decide +kernel, fun w hw => ?_⟩
  · cases hg : goodWord w with
    | true => exact Or.inl (wi_56 w (List.mem_filter.mpr ⟨hw, hg⟩))
    | false =>
      have h2 : w ∈ (at9 RX9 100 "java/util/NoSuchElementException" 13 prog_33_method_4_code).filter (fun w => !goodWord w) := List.mem_filter.mpr ⟨hw, by rw [hg]; rfl⟩
      have h3 : ∀ w ∈ (at9 RX9 100 "java/util/NoSuchElementException" 13 prog_33_method_4_code).filter (fun w => !goodWord w), w = Cond.castable "java/util/NoSuchElementException" "java/util/NoSuchElementException" ∨ ∃ q ∈ NWD, w = Cond.declares q := by decide +kernel
      exact Or.inr (h3 w h2)
  · have h3 : (at9 RX9 100 "java/util/NoSuchElementException" 13 prog_33_method_4_code).all vx_ot = true := by decide +kernel
    exact List.all_eq_true.mp h3 w hw
theorem thr_2 : THR "java/lang/IllegalArgumentException" 101 105 := by
  refine ⟨7, Bundle.six, ⟨by decide +kernel, by decide +kernel, by decide +kernel, by decide +kernel⟩, by decide, by decide +kernel, by decide, wi_8 _ (List.mem_of_getElem? (i := 23) rfl), wi_9 _ (List.mem_of_getElem? (i := 0) rfl), fun w hw => ?_, by decide +kernel, fun w hw => ?_⟩
  · cases hg : goodWord w with
    | true => exact Or.inl (wi_57 w (List.mem_filter.mpr ⟨hw, hg⟩))
    | false =>
      have h2 : w ∈ (at9 RX9 105 "java/lang/IllegalArgumentException" 7 Bundle.six).filter (fun w => !goodWord w) := List.mem_filter.mpr ⟨hw, by rw [hg]; rfl⟩
      have h3 : ∀ w ∈ (at9 RX9 105 "java/lang/IllegalArgumentException" 7 Bundle.six).filter (fun w => !goodWord w), w = Cond.castable "java/lang/IllegalArgumentException" "java/lang/IllegalArgumentException" ∨ ∃ q ∈ NWD, w = Cond.declares q := by decide +kernel
      exact Or.inr (h3 w h2)
  · have h3 : (at9 RX9 105 "java/lang/IllegalArgumentException" 7 Bundle.six).all vx_ot = true := by decide +kernel
    exact List.all_eq_true.mp h3 w hw
theorem thr_3 : THR "java/lang/IndexOutOfBoundsException" 170 174 := by
  refine ⟨7, Bundle.six, ⟨by decide +kernel, by decide +kernel, by decide +kernel, by decide +kernel⟩, by decide, by decide +kernel, by decide, wi_23 _ (List.mem_of_getElem? (i := 12) rfl), wi_23 _ (List.mem_of_getElem? (i := 13) rfl), fun w hw => ?_, by decide +kernel, fun w hw => ?_⟩
  · cases hg : goodWord w with
    | true => exact Or.inl (wi_58 w (List.mem_filter.mpr ⟨hw, hg⟩))
    | false =>
      have h2 : w ∈ (at9 RX9 174 "java/lang/IndexOutOfBoundsException" 7 Bundle.six).filter (fun w => !goodWord w) := List.mem_filter.mpr ⟨hw, by rw [hg]; rfl⟩
      have h3 : ∀ w ∈ (at9 RX9 174 "java/lang/IndexOutOfBoundsException" 7 Bundle.six).filter (fun w => !goodWord w), w = Cond.castable "java/lang/IndexOutOfBoundsException" "java/lang/IndexOutOfBoundsException" ∨ ∃ q ∈ NWD, w = Cond.declares q := by decide +kernel
      exact Or.inr (h3 w h2)
  · have h3 : (at9 RX9 174 "java/lang/IndexOutOfBoundsException" 7 Bundle.six).all vx_ot = true := by decide +kernel
    exact List.all_eq_true.mp h3 w hw
theorem thr_4 : THR "java/lang/ArithmeticException" 370 374 := by
  refine ⟨7, Bundle.six, ⟨by decide +kernel, by decide +kernel, by decide +kernel, by decide +kernel⟩, by decide, by decide +kernel, by decide, wi_52 _ (List.mem_of_getElem? (i := 9) rfl), wi_52 _ (List.mem_of_getElem? (i := 10) rfl), fun w hw => ?_, by decide +kernel, fun w hw => ?_⟩
  · cases hg : goodWord w with
    | true => exact Or.inl (wi_59 w (List.mem_filter.mpr ⟨hw, hg⟩))
    | false =>
      have h2 : w ∈ (at9 RX9 374 "java/lang/ArithmeticException" 7 Bundle.six).filter (fun w => !goodWord w) := List.mem_filter.mpr ⟨hw, by rw [hg]; rfl⟩
      have h3 : ∀ w ∈ (at9 RX9 374 "java/lang/ArithmeticException" 7 Bundle.six).filter (fun w => !goodWord w), w = Cond.castable "java/lang/ArithmeticException" "java/lang/ArithmeticException" ∨ ∃ q ∈ NWD, w = Cond.declares q := by decide +kernel
      exact Or.inr (h3 w h2)
  · have h3 : (at9 RX9 374 "java/lang/ArithmeticException" 7 Bundle.six).all vx_ot = true := by decide +kernel
    exact List.all_eq_true.mp h3 w hw
theorem gs_X10_194 {Γ : GT} {M : MT} {QF : List Frame → Array Value → State → State → Prop} {cs : Nat × Nat} {h : XH} {pc : Nat} {lv : List (Option Value)} {st : List Value} (hM : M.1.cls = RX10) (hd : decode M.2.1 pc = .ok (.getstatic 194, 3)) (kk : GG Γ M QF cs h (pc + 3) lv (.ref (g_nm Γ) :: st)) : GG Γ M QF cs h pc lv st :=
  gg_gets (fun s K => K.2.2.2.2.2.2.2.2.2.1) (by rw [hM]; exact wi_14 _ (List.mem_of_getElem? (i := 20) rfl)) hd kk
theorem gs_J0_38 {Γ : GT} {M : MT} {QF : List Frame → Array Value → State → State → Prop} {cs : Nat × Nat} {h : XH} {pc : Nat} {lv : List (Option Value)} {st : List Value} (hM : M.1.cls = RJ0) (hd : decode M.2.1 pc = .ok (.getstatic 38, 3)) (kk : GG Γ M QF cs h (pc + 3) lv (.int (iN 1) :: st)) : GG Γ M QF cs h pc lv st :=
  gg_gets (fun s K => K.2.2.2.2.2.2.2.2.2.2.2.2.2.2.2.1) (by rw [hM]; exact wi_12 _ (List.mem_of_getElem? (i := 4) rfl)) hd kk
theorem gs_J0_1053 {Γ : GT} {M : MT} {QF : List Frame → Array Value → State → State → Prop} {cs : Nat × Nat} {h : XH} {pc : Nat} {lv : List (Option Value)} {st : List Value} (hM : M.1.cls = RJ0) (hd : decode M.2.1 pc = .ok (.getstatic 1053, 3)) (kk : ∀ v : Value, v.isRef = true → GG Γ M QF cs h (pc + 3) lv (v :: st)) : GG Γ M QF cs h pc lv st :=
  gg_getsq (fun s K => K.2.2.2.2.2.2.2.2.2.2.2.2.2.2.2.2.1) (by rw [hM]; exact wi_12 _ (List.mem_of_getElem? (i := 13) rfl)) hd kk
theorem gcs_X1_108 {Γ : GT} {M : MT} {QF : List Frame → Array Value → State → State → Prop} {cs : Nat × Nat} {h : XH} {pc : Nat} {lv : List (Option Value)} {rest : List Value} {i : Nat} {a0 : Value} {post2 : Option Value → XH → Prop} {xp2 : String → XH → Prop} (hi : i < 5) (hM : M.1.cls = RX1) (hd : decode M.2.1 pc = .ok (.invokevirtual 108, 3)) (hR : (mR M_J0_charAt_5068e).frames + 1 ≤ (mR M).frames ∧ 8 + (2 + 11) + (mR M_J0_charAt_5068e).locals ≤ (mR M).locals) (hcap : cs.1 + (mR M_J0_charAt_5068e).cells ≤ (mR M).cells ∧ cs.2 + (mR M_J0_charAt_5068e).slots ≤ (mR M).slots) (hrest : (rest.map fun v => v.category).sum ≤ 8) (K : Ct Γ M_J0_charAt_5068e [.ref (g_str Γ i), a0] h post2 xp2) (kx : ∀ (E : String) (h' : XH), xp2 E h' → GX Γ M QF (cs.1 + (mR M_J0_charAt_5068e).cells, cs.2 + (mR M_J0_charAt_5068e).slots) h' pc lv rest E) (kk : ∀ (r : Option Value) (h' : XH), post2 r h' → GG Γ M QF (cs.1 + (mR M_J0_charAt_5068e).cells, cs.2 + (mR M_J0_charAt_5068e).slots) h' (pc + 3) lv (r.toList ++ rest)) : GG Γ M QF cs h pc lv (a0 :: .ref (g_str Γ i) :: rest) :=
  gg_callVs (M2 := M_J0_charAt_5068e) (As := [a0]) hi mok_J0_charAt_5068e (by rw [hM]; exact wi_11 _ (List.mem_of_getElem? (i := 18) rfl)) (wi_11 _ (List.mem_of_getElem? (i := 19) rfl)) (wi_11 _ (List.mem_of_getElem? (i := 20) rfl)) hd rfl hR hcap hrest K kx kk
theorem gcs_X1_126 {Γ : GT} {M : MT} {QF : List Frame → Array Value → State → State → Prop} {cs : Nat × Nat} {h : XH} {pc : Nat} {lv : List (Option Value)} {rest : List Value} {i : Nat} {post2 : Option Value → XH → Prop} {xp2 : String → XH → Prop} (hi : i < 5) (hM : M.1.cls = RX1) (hd : decode M.2.1 pc = .ok (.invokevirtual 126, 3)) (hR : (mR M_J0_length_8abf5).frames + 1 ≤ (mR M).frames ∧ 8 + (1 + 11) + (mR M_J0_length_8abf5).locals ≤ (mR M).locals) (hcap : cs.1 + (mR M_J0_length_8abf5).cells ≤ (mR M).cells ∧ cs.2 + (mR M_J0_length_8abf5).slots ≤ (mR M).slots) (hrest : (rest.map fun v => v.category).sum ≤ 8) (K : Ct Γ M_J0_length_8abf5 [.ref (g_str Γ i)] h post2 xp2) (kx : ∀ (E : String) (h' : XH), xp2 E h' → GX Γ M QF (cs.1 + (mR M_J0_length_8abf5).cells, cs.2 + (mR M_J0_length_8abf5).slots) h' pc lv rest E) (kk : ∀ (r : Option Value) (h' : XH), post2 r h' → GG Γ M QF (cs.1 + (mR M_J0_length_8abf5).cells, cs.2 + (mR M_J0_length_8abf5).slots) h' (pc + 3) lv (r.toList ++ rest)) : GG Γ M QF cs h pc lv (.ref (g_str Γ i) :: rest) :=
  gg_callVs (M2 := M_J0_length_8abf5) (As := []) hi mok_J0_length_8abf5 (by rw [hM]; exact wi_13 _ (List.mem_of_getElem? (i := 15) rfl)) (wi_13 _ (List.mem_of_getElem? (i := 16) rfl)) (wi_13 _ (List.mem_of_getElem? (i := 17) rfl)) hd rfl hR hcap hrest K kx kk
theorem gcs_X8_49 {Γ : GT} {M : MT} {QF : List Frame → Array Value → State → State → Prop} {cs : Nat × Nat} {h : XH} {pc : Nat} {lv : List (Option Value)} {rest : List Value} {i : Nat} {a0 : Value} {post2 : Option Value → XH → Prop} {xp2 : String → XH → Prop} (hi : i < 5) (hM : M.1.cls = RX8) (hd : decode M.2.1 pc = .ok (.invokevirtual 49, 3)) (hR : (mR M_J0_indexOf_0f7a4).frames + 1 ≤ (mR M).frames ∧ 8 + (2 + 11) + (mR M_J0_indexOf_0f7a4).locals ≤ (mR M).locals) (hcap : cs.1 + (mR M_J0_indexOf_0f7a4).cells ≤ (mR M).cells ∧ cs.2 + (mR M_J0_indexOf_0f7a4).slots ≤ (mR M).slots) (hrest : (rest.map fun v => v.category).sum ≤ 8) (K : Ct Γ M_J0_indexOf_0f7a4 [.ref (g_str Γ i), a0] h post2 xp2) (kx : ∀ (E : String) (h' : XH), xp2 E h' → GX Γ M QF (cs.1 + (mR M_J0_indexOf_0f7a4).cells, cs.2 + (mR M_J0_indexOf_0f7a4).slots) h' pc lv rest E) (kk : ∀ (r : Option Value) (h' : XH), post2 r h' → GG Γ M QF (cs.1 + (mR M_J0_indexOf_0f7a4).cells, cs.2 + (mR M_J0_indexOf_0f7a4).slots) h' (pc + 3) lv (r.toList ++ rest)) : GG Γ M QF cs h pc lv (a0 :: .ref (g_str Γ i) :: rest) :=
  gg_callVs (M2 := M_J0_indexOf_0f7a4) (As := [a0]) hi mok_J0_indexOf_0f7a4 (by rw [hM]; exact wi_35 _ (List.mem_of_getElem? (i := 20) rfl)) (wi_19 _ (List.mem_of_getElem? (i := 0) rfl)) (wi_19 _ (List.mem_of_getElem? (i := 1) rfl)) hd rfl hR hcap hrest K kx kk
theorem gs_J0_9 {Γ : GT} {M : MT} {QF : List Frame → Array Value → State → State → Prop} {cs : Nat × Nat} {h : XH} {pc : Nat} {lv : List (Option Value)} {st : List Value} {i : Nat} (hi : i < 5) (hM : M.1.cls = RJ0) (hd : decode M.2.1 pc = .ok (.getfield 9, 3)) (kk : GG Γ M QF cs h (pc + 3) lv (.ref (g_sv Γ i) :: st)) : GG Γ M QF cs h pc lv (.ref (g_str Γ i) :: st) :=
  gg_sval hi (by rw [hM]; exact wi_11 _ (List.mem_of_getElem? (i := 23) rfl)) hd kk
theorem gcs_J0_335 {Γ : GT} {M : MT} {QF : List Frame → Array Value → State → State → Prop} {cs : Nat × Nat} {h : XH} {pc : Nat} {lv : List (Option Value)} {rest : List Value} {i : Nat} {post2 : Option Value → XH → Prop} {xp2 : String → XH → Prop} (hi : i < 5) (hM : M.1.cls = RJ0) (hd : decode M.2.1 pc = .ok (.invokevirtual 335, 3)) (hR : (mR M_J0_coder_7d493).frames + 1 ≤ (mR M).frames ∧ 8 + (1 + 11) + (mR M_J0_coder_7d493).locals ≤ (mR M).locals) (hcap : cs.1 + (mR M_J0_coder_7d493).cells ≤ (mR M).cells ∧ cs.2 + (mR M_J0_coder_7d493).slots ≤ (mR M).slots) (hrest : (rest.map fun v => v.category).sum ≤ 8) (K : Ct Γ M_J0_coder_7d493 [.ref (g_str Γ i)] h post2 xp2) (kx : ∀ (E : String) (h' : XH), xp2 E h' → GX Γ M QF (cs.1 + (mR M_J0_coder_7d493).cells, cs.2 + (mR M_J0_coder_7d493).slots) h' pc lv rest E) (kk : ∀ (r : Option Value) (h' : XH), post2 r h' → GG Γ M QF (cs.1 + (mR M_J0_coder_7d493).cells, cs.2 + (mR M_J0_coder_7d493).slots) h' (pc + 3) lv (r.toList ++ rest)) : GG Γ M QF cs h pc lv (.ref (g_str Γ i) :: rest) :=
  gg_callVs (M2 := M_J0_coder_7d493) (As := []) hi mok_J0_coder_7d493 (by rw [hM]; exact wi_13 _ (List.mem_of_getElem? (i := 19) rfl)) (wi_13 _ (List.mem_of_getElem? (i := 20) rfl)) (wi_13 _ (List.mem_of_getElem? (i := 21) rfl)) hd rfl hR hcap hrest K kx kk
theorem gcs_J0_492 {Γ : GT} {M : MT} {QF : List Frame → Array Value → State → State → Prop} {cs : Nat × Nat} {h : XH} {pc : Nat} {lv : List (Option Value)} {rest : List Value} {i : Nat} {post2 : Option Value → XH → Prop} {xp2 : String → XH → Prop} (hi : i < 5) (hM : M.1.cls = RJ0) (hd : decode M.2.1 pc = .ok (.invokevirtual 492, 3)) (hR : (mR M_J0_isLatin1_aae02).frames + 1 ≤ (mR M).frames ∧ 8 + (1 + 11) + (mR M_J0_isLatin1_aae02).locals ≤ (mR M).locals) (hcap : cs.1 + (mR M_J0_isLatin1_aae02).cells ≤ (mR M).cells ∧ cs.2 + (mR M_J0_isLatin1_aae02).slots ≤ (mR M).slots) (hrest : (rest.map fun v => v.category).sum ≤ 8) (K : Ct Γ M_J0_isLatin1_aae02 [.ref (g_str Γ i)] h post2 xp2) (kx : ∀ (E : String) (h' : XH), xp2 E h' → GX Γ M QF (cs.1 + (mR M_J0_isLatin1_aae02).cells, cs.2 + (mR M_J0_isLatin1_aae02).slots) h' pc lv rest E) (kk : ∀ (r : Option Value) (h' : XH), post2 r h' → GG Γ M QF (cs.1 + (mR M_J0_isLatin1_aae02).cells, cs.2 + (mR M_J0_isLatin1_aae02).slots) h' (pc + 3) lv (r.toList ++ rest)) : GG Γ M QF cs h pc lv (.ref (g_str Γ i) :: rest) :=
  gg_callVs (M2 := M_J0_isLatin1_aae02) (As := []) hi mok_J0_isLatin1_aae02 (by rw [hM]; exact wi_12 _ (List.mem_of_getElem? (i := 0) rfl)) (wi_12 _ (List.mem_of_getElem? (i := 1) rfl)) (wi_12 _ (List.mem_of_getElem? (i := 2) rfl)) hd rfl hR hcap hrest K kx kk
theorem gcs_J0_633 {Γ : GT} {M : MT} {QF : List Frame → Array Value → State → State → Prop} {cs : Nat × Nat} {h : XH} {pc : Nat} {lv : List (Option Value)} {rest : List Value} {i : Nat} {a0 a1 : Value} {post2 : Option Value → XH → Prop} {xp2 : String → XH → Prop} (hi : i < 5) (hM : M.1.cls = RJ0) (hd : decode M.2.1 pc = .ok (.invokevirtual 633, 3)) (hR : (mR M_J0_indexOf_7cf53).frames + 1 ≤ (mR M).frames ∧ 8 + (3 + 11) + (mR M_J0_indexOf_7cf53).locals ≤ (mR M).locals) (hcap : cs.1 + (mR M_J0_indexOf_7cf53).cells ≤ (mR M).cells ∧ cs.2 + (mR M_J0_indexOf_7cf53).slots ≤ (mR M).slots) (hrest : (rest.map fun v => v.category).sum ≤ 8) (K : Ct Γ M_J0_indexOf_7cf53 [.ref (g_str Γ i), a0, a1] h post2 xp2) (kx : ∀ (E : String) (h' : XH), xp2 E h' → GX Γ M QF (cs.1 + (mR M_J0_indexOf_7cf53).cells, cs.2 + (mR M_J0_indexOf_7cf53).slots) h' pc lv rest E) (kk : ∀ (r : Option Value) (h' : XH), post2 r h' → GG Γ M QF (cs.1 + (mR M_J0_indexOf_7cf53).cells, cs.2 + (mR M_J0_indexOf_7cf53).slots) h' (pc + 3) lv (r.toList ++ rest)) : GG Γ M QF cs h pc lv (a1 :: a0 :: .ref (g_str Γ i) :: rest) :=
  gg_callVs (M2 := M_J0_indexOf_7cf53) (As := [a0, a1]) hi mok_J0_indexOf_7cf53 (by rw [hM]; exact wi_19 _ (List.mem_of_getElem? (i := 3) rfl)) (wi_19 _ (List.mem_of_getElem? (i := 4) rfl)) (wi_19 _ (List.mem_of_getElem? (i := 5) rfl)) hd rfl hR hcap hrest K kx kk
theorem gcs_J0_505 {Γ : GT} {M : MT} {QF : List Frame → Array Value → State → State → Prop} {cs : Nat × Nat} {h : XH} {pc : Nat} {lv : List (Option Value)} {rest : List Value} {i : Nat} {post2 : Option Value → XH → Prop} {xp2 : String → XH → Prop} (hi : i < 5) (hM : M.1.cls = RJ0) (hd : decode M.2.1 pc = .ok (.invokevirtual 505, 3)) (hR : (mR M_J0_length_8abf5).frames + 1 ≤ (mR M).frames ∧ 8 + (1 + 11) + (mR M_J0_length_8abf5).locals ≤ (mR M).locals) (hcap : cs.1 + (mR M_J0_length_8abf5).cells ≤ (mR M).cells ∧ cs.2 + (mR M_J0_length_8abf5).slots ≤ (mR M).slots) (hrest : (rest.map fun v => v.category).sum ≤ 8) (K : Ct Γ M_J0_length_8abf5 [.ref (g_str Γ i)] h post2 xp2) (kx : ∀ (E : String) (h' : XH), xp2 E h' → GX Γ M QF (cs.1 + (mR M_J0_length_8abf5).cells, cs.2 + (mR M_J0_length_8abf5).slots) h' pc lv rest E) (kk : ∀ (r : Option Value) (h' : XH), post2 r h' → GG Γ M QF (cs.1 + (mR M_J0_length_8abf5).cells, cs.2 + (mR M_J0_length_8abf5).slots) h' (pc + 3) lv (r.toList ++ rest)) : GG Γ M QF cs h pc lv (.ref (g_str Γ i) :: rest) :=
  gg_callVs (M2 := M_J0_length_8abf5) (As := []) hi mok_J0_length_8abf5 (by rw [hM]; exact wi_19 _ (List.mem_of_getElem? (i := 7) rfl)) (wi_13 _ (List.mem_of_getElem? (i := 16) rfl)) (wi_13 _ (List.mem_of_getElem? (i := 17) rfl)) hd rfl hR hcap hrest K kx kk
theorem gs_J0_15 {Γ : GT} {M : MT} {QF : List Frame → Array Value → State → State → Prop} {cs : Nat × Nat} {h : XH} {pc : Nat} {lv : List (Option Value)} {st : List Value} {i : Nat} (hi : i < 5) (hM : M.1.cls = RJ0) (hd : decode M.2.1 pc = .ok (.getfield 15, 3)) (kk : GG Γ M QF cs h (pc + 3) lv (.int (iN 0) :: st)) : GG Γ M QF cs h pc lv (.ref (g_str Γ i) :: st) :=
  gg_scod hi (by rw [hM]; exact wi_12 _ (List.mem_of_getElem? (i := 5) rfl)) hd kk
theorem gcs_X9_451 {Γ : GT} {M : MT} {QF : List Frame → Array Value → State → State → Prop} {cs : Nat × Nat} {h : XH} {pc : Nat} {lv : List (Option Value)} {rest : List Value} {i : Nat} {a0 : Value} {post2 : Option Value → XH → Prop} {xp2 : String → XH → Prop} (hi : i < 5) (hM : M.1.cls = RX9) (hd : decode M.2.1 pc = .ok (.invokevirtual 451, 3)) (hR : (mR M_J0_indexOf_0f7a4).frames + 1 ≤ (mR M).frames ∧ 8 + (2 + 11) + (mR M_J0_indexOf_0f7a4).locals ≤ (mR M).locals) (hcap : cs.1 + (mR M_J0_indexOf_0f7a4).cells ≤ (mR M).cells ∧ cs.2 + (mR M_J0_indexOf_0f7a4).slots ≤ (mR M).slots) (hrest : (rest.map fun v => v.category).sum ≤ 8) (K : Ct Γ M_J0_indexOf_0f7a4 [.ref (g_str Γ i), a0] h post2 xp2) (kx : ∀ (E : String) (h' : XH), xp2 E h' → GX Γ M QF (cs.1 + (mR M_J0_indexOf_0f7a4).cells, cs.2 + (mR M_J0_indexOf_0f7a4).slots) h' pc lv rest E) (kk : ∀ (r : Option Value) (h' : XH), post2 r h' → GG Γ M QF (cs.1 + (mR M_J0_indexOf_0f7a4).cells, cs.2 + (mR M_J0_indexOf_0f7a4).slots) h' (pc + 3) lv (r.toList ++ rest)) : GG Γ M QF cs h pc lv (a0 :: .ref (g_str Γ i) :: rest) :=
  gg_callVs (M2 := M_J0_indexOf_0f7a4) (As := [a0]) hi mok_J0_indexOf_0f7a4 (by rw [hM]; exact wi_18 _ (List.mem_of_getElem? (i := 23) rfl)) (wi_19 _ (List.mem_of_getElem? (i := 0) rfl)) (wi_19 _ (List.mem_of_getElem? (i := 1) rfl)) hd rfl hR hcap hrest K kx kk
