/-! contracts -/
def QC (Γ : GT) (post : Option Value → XH → Prop) : Array Value → State → Outcome → State → Prop := fun _ st o t => ∃ (r : Option Value) (h' : XH), o = .returned r ∧ post r h' ∧ RH Γ h' t.heap ∧ st.heap.size ≤ t.heap.size
def XC9 (Γ : GT) (xp : String → XH → Prop) : String → State → State → Prop := fun E st t => ∃ h' : XH, xp E h' ∧ RH Γ h' t.heap ∧ st.heap.size ≤ t.heap.size
def Pc9 (Γ : GT) (as : List Value) (h : XH) : Array Value → State → Prop := fun v U => v = as.toArray ∧ RH Γ h U.heap ∧ KB Γ U
def wsM (M : MT) : List Cond := (match M.2.2.2.2.2 with
  | [] => Cond.code M.1 M.2.1 M.2.2.1 M.2.2.2.1
  | x :: y => Cond.codeWith M.1 M.2.1 M.2.2.1 M.2.2.2.1 (x :: y)) :: WA
abbrev mR (M : MT) : Room := M.2.2.2.2.1
def Ct (Γ : GT) (M : MT) (as : List Value) (h : XH) (post : Option Value → XH → Prop) (xp : String → XH → Prop) : Prop :=
  vx_Met (g_l Γ) M.1 (wsM M) (mR M) (Pc9 Γ as h) (QC Γ post) (XC9 Γ xp) (mR M).cells (mR M).slots (gA Γ)
abbrev Ok (Γ : GT) (M : MT) (as : List Value) (h : XH) (post : Option Value → XH → Prop) : Prop := Ct Γ M as h post (fun _ _ => False)
def QM (Γ : GT) (M : MT) (post : Option Value → XH → Prop) (xp : String → XH → Prop) : List Frame → Array Value → State → State → Prop := fun below args s => vx_MQ below (QC Γ post) (XC9 Γ xp) args s (mR M).cells (mR M).slots (gA Γ)
def lv0 : List Value → Nat → List (Option Value)
  | [], n => List.replicate n none
  | v :: t, n => some v :: (if v.category = 2 then none :: lv0 t (n - 2) else lv0 t (n - 1))
theorem lget_rep : ∀ (n i : Nat), lget (List.replicate n none) i = none
  | 0, i => by simp [lget]
  | n + 1, 0 => by simp [List.replicate, lget]
  | n + 1, i + 1 => by simp only [List.replicate, lget]; exact lget_rep n i
theorem lv0_args : ∀ (as : List Value) (n k i : Nat) (v : Value), lget (lv0 as n) i = some v → (k + i, v) ∈ lv_args k as
  | [], n, k, i, v, hv => by rw [lv0, lget_rep] at hv; cases hv
  | a :: t, n, k, 0, v, hv => by
    simp only [lv0, lget, Option.some.injEq] at hv
    subst hv
    simp [lv_args]
  | a :: t, n, k, i + 1, v, hv => by
    simp only [lv0, lget] at hv
    simp only [lv_args]
    refine List.mem_cons_of_mem _ ?_
    by_cases c2 : a.category = 2
    · rw [if_pos c2] at hv ⊢
      cases i with
      | zero => simp [lget] at hv
      | succ i =>
        simp only [lget] at hv
        have := lv0_args t (n - 2) (k + 2) i v hv
        rwa [show k + (i + 1 + 1) = k + 2 + i by omega]
    · rw [if_neg c2] at hv ⊢
      have := lv0_args t (n - 1) (k + 1) i v hv
      rwa [show k + (i + 1) = k + 1 + i by omega]
theorem wsM_wa {M : MT} {args : Array Value} {s : State} (h : ∀ w ∈ wsM M, w.before args s = true) : ∀ w ∈ WA, w.before args s = true := fun w hw => h w (List.mem_cons_of_mem _ hw)
theorem Ct.of {Γ : GT} {M : MT} {as : List Value} {h : XH} {post : Option Value → XH → Prop} {xp : String → XH → Prop} (hh : M.2.2.2.2.2 = []) (hy : plainName M.1.cls = true) (hlen : (lg_sl as).length ≤ M.2.2.1)
    (k : GG Γ M (QM Γ M post xp) (0, 0) h 0 (lv0 as M.2.2.1) []) : Ct Γ M as h post xp := by
  have hws : wsM M = Cond.code M.1 M.2.1 M.2.2.1 M.2.2.2.1 :: WA := by unfold wsM; rw [hh]
  refine vx_ofW (cc := M.2.1) (maxL := M.2.2.1) (ret := M.2.2.2.1) hy hws ?_
  intro p e s m args below meth c s₁ B hml hxt hv
  obtain ⟨rfl, hR, hK⟩ := hv
  have hts := atoms_spec (ws := wsM M) B.pre
  rw [lg_entry_eq]
  have hl := lv_entry as (n := M.2.2.1) hlen
  have hxt' : c.exceptionTable.toList = tableOf M.2.2.2.2.2 := by
    rw [hh]
    cases hc : c.exceptionTable.toList with
    | nil => rfl
    | cons x t => exact (hxt x (by rw [hc]; exact List.mem_cons_self)).elim
  exact k p e s m _ below meth c s.heap [] _ ⟨B.exec, B.bytes, B.returns, hml, findClass_of_methodNamed B.named, B.notSynchronized, wsM_wa hts, hK, (name_of_methodNamed B.named B.method).1, hR.base, hxt'⟩ hR (Nat.le_refl _) (fun z hz => absurd hz List.not_mem_nil)
    ⟨hl.1, hl.2.1, fun i v hv => hl.2.2 (i, v) (by have := lv0_args as M.2.2.1 0 i v hv; rwa [Nat.zero_add] at this)⟩
theorem Ct.ofH {Γ : GT} {M : MT} {as : List Value} {h : XH} {post : Option Value → XH → Prop} {xp : String → XH → Prop} {x : Nat × Nat × Nat × Nat} {y : List (Nat × Nat × Nat × Nat)} (hh : M.2.2.2.2.2 = x :: y) (hy : plainName M.1.cls = true) (hlen : (lg_sl as).length ≤ M.2.2.1)
    (k : GG Γ M (QM Γ M post xp) (0, 0) h 0 (lv0 as M.2.2.1) []) : Ct Γ M as h post xp := by
  have hws : wsM M = Cond.codeWith M.1 M.2.1 M.2.2.1 M.2.2.2.1 M.2.2.2.2.2 :: WA := by unfold wsM; rw [hh]
  refine vx_ofWH (cc := M.2.1) (maxL := M.2.2.1) (ret := M.2.2.2.1) hy hws ?_
  intro p e s m args below meth c s₁ B hml hv
  obtain ⟨rfl, hR, hK⟩ := hv
  have hts := atoms_spec (ws := wsM M) B.pre
  rw [lg_entry_eq]
  have hl := lv_entry as (n := M.2.2.1) hlen
  have hxt' : c.exceptionTable.toList = tableOf M.2.2.2.2.2 := vx_table (x := M.1) B (hts _ (by rw [hws]; exact List.mem_cons_self))
  exact k p e s m _ below meth c s.heap [] _ ⟨B.exec, B.bytes, B.returns, hml, findClass_of_methodNamed B.named, B.notSynchronized, wsM_wa hts, hK, (name_of_methodNamed B.named B.method).1, hR.base, hxt'⟩ hR (Nat.le_refl _) (fun z hz => absurd hz List.not_mem_nil)
    ⟨hl.1, hl.2.1, fun i v hv => hl.2.2 (i, v) (by have := lv0_args as M.2.2.1 0 i v hv; rwa [Nat.zero_add] at this)⟩
theorem Ct.mono {Γ : GT} {M : MT} {as : List Value} {h : XH} {post post' : Option Value → XH → Prop} {xp xp' : String → XH → Prop} (k : Ct Γ M as h post xp) (hp : ∀ r h', post r h' → post' r h') (hx : ∀ E h', xp E h' → xp' E h') : Ct Γ M as h post' xp' := by
  intro p e ha hc hk s m args below hf happ hP hK
  obtain ⟨t, o, h1, h2, h3, hq⟩ := k p e ha hc hk s m args below hf happ hP hK
  refine ⟨t, o, h1, h2, h3, ?_⟩
  rcases hq with ⟨⟨r, h', e1, e2, e3, e4⟩, L, hL⟩ | ⟨q, e0, E, ce, L, ⟨h', e2, e3, e4⟩, rest⟩
  · exact Or.inl ⟨⟨r, h', e1, hp r h' e2, e3, e4⟩, L, hL⟩
  · exact Or.inr ⟨q, e0, E, ce, L, ⟨h', hx E h' e2, e3, e4⟩, rest⟩
section Ends9
variable {Γ : GT} {M : MT} {post : Option Value → XH → Prop} {xp : String → XH → Prop} {cs : Nat × Nat} {h : XH} {pc : Nat} {lv : List (Option Value)} {st : List Value}
theorem qc_of {Γ : GT} {post : Option Value → XH → Prop} {h : XH} {H : Heap} {args : Array Value} {s : State} {v : Option Value} (R : RH Γ h H) (z : s.heap.size ≤ H.size) (hp : post v h) : ∀ t : State, t.heap = H → s.WarmedH t.vm → QC Γ post args s (.returned v) t :=
  fun t ht _ => ⟨v, h, rfl, hp, by rw [ht]; exact R, by rw [ht]; exact z⟩
theorem gg_iret {x : Int32} {ty : FieldType} (hd : decode M.2.1 pc = .ok (.ireturn, 1)) (hret : M.2.2.2.1 = some ty) (hn : narrow ty (.int x) = .int x) (hcap : cs.1 ≤ (mR M).cells ∧ cs.2 ≤ (mR M).slots) (hp : post (some (.int x)) h) : GG Γ M (QM Γ M post xp) cs h pc lv [.int x] :=
  fun p e s m args below meth c H locs ls X R z f L => W.widen hcap.1 hcap.2 (vx_ret (W.zret X.x X.b (X.r.trans hret) hn (qc_of R z hp) f hd X.lk))
theorem gg_vret (hd : decode M.2.1 pc = .ok (.return_, 1)) (hret : M.2.2.2.1 = none) (hcap : cs.1 ≤ (mR M).cells ∧ cs.2 ≤ (mR M).slots) (hp : post none h) : GG Γ M (QM Γ M post xp) cs h pc lv [] :=
  fun p e s m args below meth c H locs ls X R z f L => W.widen hcap.1 hcap.2 (vx_ret (W.vret X.x X.b (X.r.trans hret) (qc_of R z hp) f hd X.lk))
theorem gg_lret {x : Int64} (hd : decode M.2.1 pc = .ok (.lreturn, 1)) (hret : M.2.2.2.1 = some .long) (hcap : cs.1 ≤ (mR M).cells ∧ cs.2 ≤ (mR M).slots) (hp : post (some (.long x)) h) : GG Γ M (QM Γ M post xp) cs h pc lv [.long x] :=
  fun p e s m args below meth c H locs ls X R z f L => W.widen hcap.1 hcap.2 (vx_ret (W.lret X.x X.b (X.r.trans hret) (qc_of R z hp) f hd X.lk))
theorem gg_fret {x : UInt32} (hd : decode M.2.1 pc = .ok (.freturn, 1)) (hret : M.2.2.2.1 = some .float) (hcap : cs.1 ≤ (mR M).cells ∧ cs.2 ≤ (mR M).slots) (hp : post (some (.float x)) h) : GG Γ M (QM Γ M post xp) cs h pc lv [.float x] :=
  fun p e s m args below meth c H locs ls X R z f L => W.widen hcap.1 hcap.2 (vx_ret (W.fret X.x X.b (X.r.trans hret) (qc_of R z hp) f hd X.lk))
theorem gg_aret {v : Value} {rt : FieldType} (hd : decode M.2.1 pc = .ok (.areturn, 1)) (hret : M.2.2.2.1 = some rt) (hrt : rt.isReference = true) (hv : v.isRef = true) (hcap : cs.1 ≤ (mR M).cells ∧ cs.2 ≤ (mR M).slots) (hp : post (some v) h) : GG Γ M (QM Γ M post xp) cs h pc lv [v] :=
  fun p e s m args below meth c H locs ls X R z f L => W.widen hcap.1 hcap.2 (vx_ret (W.aret X.x X.b (X.r.trans hret) (by cases rt <;> simp_all [FieldType.isReference]) (by cases v <;> simp_all [Value.isRef]) (qc_of R z hp) f hd X.lk))
end Ends9
/-- a frame with an exception over it -/
def GX (Γ : GT) (M : MT) (QF : List Frame → Array Value → State → State → Prop) (cs : Nat × Nat) (h : XH) (pc : Nat) (lv : List (Option Value)) (rest : List Value) (E : String) : Prop :=
  ∀ (p : Program) (e : Env) (s : State) (m : MethodId) (args : Array Value) (below : List Frame) (meth : Method) (c : Code) (H : Heap) (locs : List Loc) (ls : Array Slot) (q : Addr) (ce : Cell),
    CX Γ M p s m args meth c → RH Γ h H → s.heap.size ≤ H.size → (∀ z ∈ locs, gA Γ z.base) → LR ls M.2.2.1 lv → H[q]? = some ce → ce.vm = .none → s.vm.findClass E = some ce.cls →
    vx_W p (g_l Γ) e M.2.2.2.2.1 s m args below meth c H locs cs.1 cs.2 (QF below args s) (F0 m pc ls rest) q
theorem gx_out {Γ : GT} {M : MT} {post : Option Value → XH → Prop} {xp : String → XH → Prop} {cs : Nat × Nat} {h : XH} {pc : Nat} {lv : List (Option Value)} {rest : List Value} {E : String} (hh : M.2.2.2.2.2 = []) (hcap : cs.1 ≤ (mR M).cells ∧ cs.2 ≤ (mR M).slots) (hp : xp E h) : GX Γ M (QM Γ M post xp) cs h pc lv rest E :=
  fun p e s m args below meth c H locs ls q ce X R z f L h1 h2 h3 => vx_out (fun x hx => by rw [X.xt, hh] at hx; exact absurd hx (by simp [tableOf])) X.lk h1 h2 h3 (fun t ht _ => ⟨h, hp, by rw [ht]; exact R, by rw [ht]; exact z⟩) f hcap.1 hcap.2
/-- behind a call -/
theorem gg_after {Γ : GT} {M : MT} {QF : List Frame → Array Value → State → State → Prop} {cs : Nat × Nat} {pc mc ms : Nat} {lv : List (Option Value)} {st0 rest : List Value} {post2 : Option Value → XH → Prop} {xp2 : String → XH → Prop} {a : Array Value}
    (kk : ∀ (r : Option Value) (h' : XH), post2 r h' → GG Γ M QF (cs.1 + mc, cs.2 + ms) h' (pc + 3) lv (r.toList ++ rest)) (kx : ∀ (E : String) (h' : XH), xp2 E h' → GX Γ M QF (cs.1 + mc, cs.2 + ms) h' pc lv rest E)
    {p : Program} {e : Env} {s : State} {m : MethodId} {args : Array Value} {below : List Frame} {meth : Method} {c : Code} {H : Heap} {locs : List Loc} {ls : Array Slot} (X : CX Γ M p s m args meth c) (z : s.heap.size ≤ H.size) (f : ∀ z ∈ locs, gA Γ z.base) (L : LR ls M.2.2.1 lv)
    (hr : vx_Run p (g_l Γ) e M.2.2.2.2.1 s m args below meth c H locs cs.1 cs.2 mc ms (F0 m pc ls st0) rest (QC Γ post2 a) (XC9 Γ xp2) (gA Γ)) : W p (g_l Γ) e M.2.2.2.2.1 s m args below meth c H locs cs.1 cs.2 (QF below args s) (F0 m pc ls st0) := by
  intro T hT Y
  have hl : ∀ L2 : List Loc, (∀ q ∈ L2, gA Γ q.base) → ∀ z ∈ locs ++ L2, gA Γ z.base := fun L2 h2 z hz => (List.mem_append.mp hz).elim (f z) (h2 z)
  rcases hr T hT Y with ⟨v, st₀, t, T', L2, h0, X', hL, e1, e2, ⟨r, h', hv, hp, hR, hz⟩, stp⟩ | ⟨q, st₀, t, T', L2, E, ce, h0, X', hL, e1, e2, ⟨h', hp, hR, hz⟩, hce, hcv, hcl, stp⟩
  · cases hv
    obtain ⟨t2, a1, b1⟩ := kk v h' hp p e s m args below meth c T'.heap _ ls X (by rw [e1]; exact hR) (by rw [e1]; rw [h0] at hz; omega) (hl L2 hL) L T' rfl X'
    exact ⟨t2, stp t2 a1, b1⟩
  · obtain ⟨t2, a1, b1⟩ := kx E h' hp p e s m args below meth c T'.heap _ ls q ce X (by rw [e1]; exact hR) (by rw [e1]; rw [h0] at hz; omega) (hl L2 hL) L (by rw [e1]; exact hce) hcv hcl T' rfl X'
    exact ⟨t2, stp.trans a1, b1⟩
theorem pc9_blind {Γ : GT} {as : List Value} {h : XH} : FrameBlind (Pc9 Γ as h) := fun a U g mk ⟨q1, q2, q3⟩ => ⟨q1, q2, q3.calling g mk a⟩
theorem gc_recv {Γ : GT} {h : XH} {H : Heap} {s : State} {ci q : Nat} {fs : List Value} {C : String} {T : u_T} {N : Nat} (K : KB Γ s) (R : RH Γ h H) (hq : HAt Γ h q (.inr (ci, fs))) (hc : vwCl[ci]? = some (C, T, N)) : ∃ cell : Cell, H[q]? = some cell ∧ cell.vm.isStatics = false ∧ s.vm.findClass C = some cell.cls :=
  va_recv K.1 (R.at hq).1.P hc (show [(q, xE Γ (.inr (ci, fs)))][0]? = some (q, .inr (ci, fs)) from rfl)
theorem wa_word (h : WA.all goodWord = true) {w : Cond} (hw : w ∈ WA) : (w.onTables && w.keeps) = true ∨ ∃ ty, w = .arrayClass ty := good_of_word (List.all_eq_true.mp h w hw)
abbrev MOk (M2 : MT) (n : Nat) : Prop := M2.2.2.2.2.2 = [] ∧ (M2.1.cls ≠ "java/lang/invoke/MethodHandle" ∧ M2.1.cls ≠ "java/lang/invoke/VarHandle" ∧ (parseMethodDescriptor M2.1.desc).map (fun d => d.parameters.length) = some n) ∧ Cond.code M2.1 M2.2.1 M2.2.2.1 M2.2.2.2.1 ∈ WA ∧ Cond.initialized M2.1.cls ∈ WA
theorem gc_B {Γ : GT} {M M2 : MT} {n index : Nat} {s : State} {args : Array Value} (hts : ∀ w ∈ WA, w.before args s = true) (h2 : MOk M2 n) (hl : Cond.methodLink M.1.cls index M2.1 ∈ WA) (hR : (mR M2).frames + 1 ≤ (mR M).frames ∧ 8 + (M2.2.2.1 + 11) + (mR M2).locals ≤ (mR M).locals) :
    CallB (mR M) s args M.1.cls index M2.1 M2.2.1 M2.2.2.1 M2.2.2.2.1 (wsM M2) (mR M2) (mR M2).cells (mR M2).slots n := by
  have hws : wsM M2 = Cond.code M2.1 M2.2.1 M2.2.2.1 M2.2.2.2.1 :: WA := by unfold wsM; rw [h2.1]
  refine callB_of n (Ts := WA) hts ?_ hws rfl rfl (hts _ h2.2.2.2) (hts _ hl) h2.2.1 hR
  rw [hws]
  intro w hw
  rcases List.mem_cons.mp hw with rfl | hw
  · exact ⟨h2.2.2.1, wa_word waGood h2.2.2.1⟩
  · exact ⟨hw, wa_word waGood hw⟩
section Calls9
variable {Γ : GT} {M : MT} {QF : List Frame → Array Value → State → State → Prop} {cs : Nat × Nat} {h : XH} {pc : Nat} {lv : List (Option Value)}
theorem gg_callV {M2 : MT} {ci q index n : Nat} {fs : List Value} {C : String} {T : u_T} {N : Nat} {As rest : List Value} {post2 : Option Value → XH → Prop} {xp2 : String → XH → Prop} (h2 : MOk M2 n) (hl : Cond.methodLink M.1.cls index M2.1 ∈ WA) (hi : Cond.instanceMethod M2.1 ∈ WA) (hs : Cond.selects C M2.1 M2.1 ∈ WA) (hc : vwCl[ci]? = some (C, T, N))
    (hd : decode M.2.1 pc = .ok (.invokevirtual index, 3)) (hn : As.length = n) (hR : (mR M2).frames + 1 ≤ (mR M).frames ∧ 8 + (M2.2.2.1 + 11) + (mR M2).locals ≤ (mR M).locals) (hcap : cs.1 + (mR M2).cells ≤ (mR M).cells ∧ cs.2 + (mR M2).slots ≤ (mR M).slots) (hrest : (rest.map fun v => v.category).sum ≤ 8)
    (hq : HAt Γ h q (.inr (ci, fs))) (K : Ct Γ M2 (.ref q :: As) h post2 xp2) (kx : ∀ (E : String) (h' : XH), xp2 E h' → GX Γ M QF (cs.1 + (mR M2).cells, cs.2 + (mR M2).slots) h' pc lv rest E)
    (kk : ∀ (r : Option Value) (h' : XH), post2 r h' → GG Γ M QF (cs.1 + (mR M2).cells, cs.2 + (mR M2).slots) h' (pc + 3) lv (r.toList ++ rest)) : GG Γ M QF cs h pc lv (As.reverse ++ .ref q :: rest) :=
  fun p e s m args below meth c H locs ls X R z f L => gg_after kk kx X z f L
    (vx_runV (C := C) (b := q) (As := As) (rest := rest) (nL := M.2.2.1) (Ts := WA) (own := M.1.cls) ⟨X.x, X.b, X.ml, X.own, X.ts⟩ K ⟨gc_B (Γ := Γ) X.ts h2 hl hR, X.ts _ hi, X.ts _ hs⟩
      ⟨pc9_blind, gc_recv X.K R hq hc, fun U hU hW => ⟨rfl, by rw [hU]; exact R, X.K.warm hW⟩⟩ rfl hn L.1 rfl (lv_room hrest) hd hcap)
theorem gg_callS {M2 : MT} {index n : Nat} {As rest : List Value} {post2 : Option Value → XH → Prop} {xp2 : String → XH → Prop} (h2 : MOk M2 n) (hl : Cond.methodLink M.1.cls index M2.1 ∈ WA) (hs : Cond.static M2.1 ∈ WA)
    (hd : decode M.2.1 pc = .ok (.invokestatic index, 3)) (hn : As.length = n) (hR : (mR M2).frames + 1 ≤ (mR M).frames ∧ 8 + (M2.2.2.1 + 11) + (mR M2).locals ≤ (mR M).locals) (hcap : cs.1 + (mR M2).cells ≤ (mR M).cells ∧ cs.2 + (mR M2).slots ≤ (mR M).slots) (hrest : (rest.map fun v => v.category).sum ≤ 8)
    (K : Ct Γ M2 As h post2 xp2) (kx : ∀ (E : String) (h' : XH), xp2 E h' → GX Γ M QF (cs.1 + (mR M2).cells, cs.2 + (mR M2).slots) h' pc lv rest E)
    (kk : ∀ (r : Option Value) (h' : XH), post2 r h' → GG Γ M QF (cs.1 + (mR M2).cells, cs.2 + (mR M2).slots) h' (pc + 3) lv (r.toList ++ rest)) : GG Γ M QF cs h pc lv (As.reverse ++ rest) :=
  fun p e s m args below meth c H locs ls X R z f L => gg_after kk kx X z f L
    (vx_runS (As := As) (rest := rest) (nL := M.2.2.1) (Ts := WA) (own := M.1.cls) ⟨X.x, X.b, X.ml, X.own, X.ts⟩ K ⟨gc_B (Γ := Γ) X.ts h2 hl hR, X.ts _ hs⟩
      ⟨pc9_blind, fun U hU hW => ⟨rfl, by rw [hU]; exact R, X.K.warm hW⟩⟩ rfl hn L.1 rfl (lv_room hrest) hd hcap)
theorem gg_callI {M2 : MT} {q index n : Nat} {As rest : List Value} {post2 : Option Value → XH → Prop} {xp2 : String → XH → Prop} (h2 : MOk M2 n) (hl : Cond.methodLink M.1.cls index M2.1 ∈ WA) (hi : Cond.instanceMethod M2.1 ∈ WA) (hini : M2.1.name = "<init>") (hret : M2.2.2.2.1 = none)
    (hd : decode M.2.1 pc = .ok (.invokespecial index, 3)) (hn : As.length = n) (hR : (mR M2).frames + 1 ≤ (mR M).frames ∧ 8 + (M2.2.2.1 + 11) + (mR M2).locals ≤ (mR M).locals) (hcap : cs.1 + (mR M2).cells ≤ (mR M).cells ∧ cs.2 + (mR M2).slots ≤ (mR M).slots) (hrest : (rest.map fun v => v.category).sum ≤ 8)
    (K : Ct Γ M2 (.ref q :: As) h post2 xp2) (kx : ∀ (E : String) (h' : XH), xp2 E h' → GX Γ M QF (cs.1 + (mR M2).cells, cs.2 + (mR M2).slots) h' pc lv rest E)
    (kk : ∀ (r : Option Value) (h' : XH), post2 r h' → GG Γ M QF (cs.1 + (mR M2).cells, cs.2 + (mR M2).slots) h' (pc + 3) lv (r.toList ++ rest)) : GG Γ M QF cs h pc lv (As.reverse ++ .ref q :: rest) :=
  fun p e s m args below meth c H locs ls X R z f L => gg_after kk kx X z f L
    (vx_runI (b := q) (As := As) (rest := rest) (nL := M.2.2.1) (Ts := WA) (own := M.1.cls) ⟨X.x, X.b, X.ml, X.own, X.ts⟩ K ⟨by have := gc_B (Γ := Γ) X.ts h2 hl hR; rw [hret] at this; exact this, hini, X.ts _ hi⟩
      ⟨pc9_blind, fun U hU hW => ⟨rfl, by rw [hU]; exact R, X.K.warm hW⟩⟩ rfl hn L.1 rfl (lv_room hrest) hd hcap)
theorem gc_N {Γ : GT} {M M2 : MT} {n index : Nat} {host : String} {s : State} {args : Array Value} (hts : ∀ w ∈ WA, w.before args s = true) (K : KB Γ s) (h2 : MOk M2 n) (hl : (M.1.cls, index, M2.1, host) ∈ NWM) (hR : (mR M2).frames + 1 ≤ (mR M).frames ∧ 8 + (M2.2.2.1 + 11) + (mR M2).locals ≤ (mR M).locals) :
    va_CN (mR M) s args M.1.cls index M2.1 host M2.2.1 M2.2.2.1 M2.2.2.2.1 (wsM M2) (mR M2) (mR M2).cells (mR M2).slots n := by
  have hws : wsM M2 = Cond.code M2.1 M2.2.1 M2.2.2.1 M2.2.2.2.1 :: WA := by unfold wsM; rw [h2.1]
  refine va_cnB n (Ts := WA) hts ?_ hws rfl rfl (K.2.2.2.1 _ hl) (hts _ h2.2.2.2) h2.2.1 hR
  rw [hws]
  intro w hw
  rcases List.mem_cons.mp hw with rfl | hw
  · exact ⟨h2.2.2.1, wa_word waGood h2.2.2.1⟩
  · exact ⟨hw, wa_word waGood hw⟩
theorem gg_callSN {M2 : MT} {index n : Nat} {host : String} {As rest : List Value} {post2 : Option Value → XH → Prop} {xp2 : String → XH → Prop} (h2 : MOk M2 n) (hl : (M.1.cls, index, M2.1, host) ∈ NWM) (hs : Cond.static M2.1 ∈ WA)
    (hd : decode M.2.1 pc = .ok (.invokestatic index, 3)) (hn : As.length = n) (hR : (mR M2).frames + 1 ≤ (mR M).frames ∧ 8 + (M2.2.2.1 + 11) + (mR M2).locals ≤ (mR M).locals) (hcap : cs.1 + (mR M2).cells ≤ (mR M).cells ∧ cs.2 + (mR M2).slots ≤ (mR M).slots) (hrest : (rest.map fun v => v.category).sum ≤ 8)
    (K : Ct Γ M2 As h post2 xp2) (kx : ∀ (E : String) (h' : XH), xp2 E h' → GX Γ M QF (cs.1 + (mR M2).cells, cs.2 + (mR M2).slots) h' pc lv rest E)
    (kk : ∀ (r : Option Value) (h' : XH), post2 r h' → GG Γ M QF (cs.1 + (mR M2).cells, cs.2 + (mR M2).slots) h' (pc + 3) lv (r.toList ++ rest)) : GG Γ M QF cs h pc lv (As.reverse ++ rest) :=
  fun p e s m args below meth c H locs ls X R z f L => gg_after kk kx X z f L
    (vx_runSN (As := As) (rest := rest) (nL := M.2.2.1) (Ts := WA) (own := M.1.cls) ⟨X.x, X.b, X.ml, X.own, X.ts⟩ K ⟨gc_N X.ts X.K h2 hl hR, X.ts _ hs, trivial⟩
      ⟨pc9_blind, fun U hU hW => ⟨rfl, by rw [hU]; exact R, X.K.warm hW⟩⟩ rfl hn L.1 rfl (lv_room hrest) hd hcap)
theorem gg_callIN {M2 : MT} {q index n : Nat} {host : String} {As rest : List Value} {post2 : Option Value → XH → Prop} {xp2 : String → XH → Prop} (h2 : MOk M2 n) (hl : (M.1.cls, index, M2.1, host) ∈ NWM) (hi : Cond.instanceMethod M2.1 ∈ WA) (hini : M2.1.name = "<init>") (hret : M2.2.2.2.1 = none)
    (hd : decode M.2.1 pc = .ok (.invokespecial index, 3)) (hn : As.length = n) (hR : (mR M2).frames + 1 ≤ (mR M).frames ∧ 8 + (M2.2.2.1 + 11) + (mR M2).locals ≤ (mR M).locals) (hcap : cs.1 + (mR M2).cells ≤ (mR M).cells ∧ cs.2 + (mR M2).slots ≤ (mR M).slots) (hrest : (rest.map fun v => v.category).sum ≤ 8)
    (K : Ct Γ M2 (.ref q :: As) h post2 xp2) (kx : ∀ (E : String) (h' : XH), xp2 E h' → GX Γ M QF (cs.1 + (mR M2).cells, cs.2 + (mR M2).slots) h' pc lv rest E)
    (kk : ∀ (r : Option Value) (h' : XH), post2 r h' → GG Γ M QF (cs.1 + (mR M2).cells, cs.2 + (mR M2).slots) h' (pc + 3) lv (r.toList ++ rest)) : GG Γ M QF cs h pc lv (As.reverse ++ .ref q :: rest) :=
  fun p e s m args below meth c H locs ls X R z f L => gg_after kk kx X z f L
    (vx_runIN (b := q) (As := As) (rest := rest) (nL := M.2.2.1) (Ts := WA) (own := M.1.cls) ⟨X.x, X.b, X.ml, X.own, X.ts⟩ K ⟨by have := gc_N (host := host) X.ts X.K h2 hl hR; rw [hret] at this; exact this, hini, X.ts _ hi⟩
      ⟨pc9_blind, fun U hU hW => ⟨rfl, by rw [hU]; exact R, X.K.warm hW⟩⟩ rfl hn L.1 rfl (lv_room hrest) hd hcap)
/-- Object's constructor -/
theorem gg_objInit {index : Nat} {q : Nat} {rest : List Value} (hl : Cond.methodLink M.1.cls index objectInit ∈ WA) (hi : Cond.instanceMethod objectInit ∈ WA) (hc : Cond.code objectInit ⟨#[0xb1]⟩ 1 none ∈ WA) (hd : decode M.2.1 pc = .ok (.invokespecial index, 3)) (hR : 1 ≤ (mR M).frames ∧ (rest.map fun v => v.category).sum + 12 ≤ (mR M).locals) (kk : GG Γ M QF cs h (pc + 3) lv rest) : GG Γ M QF cs h pc lv (.ref q :: rest) :=
  fun p e s m args below meth c H locs ls X R z f L => W.objInit X.x X.b X.own (X.ts _ hl) (X.ts _ hi) (X.ts _ hc) rfl (by rw [X.ml]; exact L.1) rfl hd hR.1 (by have := hR.2; simpa [JFrame.monitorRoom] using this) (kk p e s m args below meth c H locs ls X R z f L)
end Calls9
