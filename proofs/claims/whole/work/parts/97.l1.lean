/-! the law: rows -/
/-- caught here -/
theorem gx_catch {Γ : GT} {M : MT} {QF : List Frame → Array Value → State → State → Prop} {cs : Nat × Nat} {h : XH} {pc : Nat} {lv : List (Option Value)} {rest : List Value} {E : String} (pre suf : List (Nat × Nat × Nat × Nat)) (x : Nat × Nat × Nat × Nat) (ht : M.2.2.2.2.2 = pre ++ x :: suf)
    (hpass : ∀ z ∈ pre, z.2.2.2 ≠ 0 ∧ ∃ nm : String, Cond.classLink M.1.cls z.2.2.2 nm ∈ WA ∧ (E, nm) ∈ NWN) (hx : covers (⟨x.1, x.2.1, x.2.2.1, x.2.2.2⟩ : ExceptionTableEntry) pc = true) (h0 : x.2.2.2 ≠ 0) (hlink : Cond.classLink M.1.cls x.2.2.2 E ∈ WA) (hc : (E, E) ∈ NWC)
    (kk : ∀ q : Nat, GG Γ M QF cs h x.2.2.1 lv [.ref q]) : GX Γ M QF cs h pc lv rest E :=
  fun p e s m args below meth c H locs ls q ce X R z f L h1 h2 h3 => vx_catch (own := M.1.cls) (name := E) X.own (pre.map fun q => ⟨q.1, q.2.1, q.2.2.1, q.2.2.2⟩) ⟨x.1, x.2.1, x.2.2.1, x.2.2.2⟩ (suf.map fun q => ⟨q.1, q.2.1, q.2.2.1, q.2.2.2⟩) (by rw [X.xt, ht]; simp [tableOf])
    (fun z hz => by
      obtain ⟨y, hy, rfl⟩ := List.mem_map.mp hz
      obtain ⟨a1, nm, a2, a3⟩ := hpass y hy
      exact Or.inr ⟨a1, nm, X.ts _ a2, X.K.2.2.2.2.2.2.2.2.2.2.2.1 _ a3⟩) hx h0 (X.ts _ hlink) (va_tabs rfl rfl (X.K.2.2.2.2.1 _ hc)) h1 h2 h3 (kk q p e s m args below meth c H locs ls X R z f L)
/-- caught, and told as a number -/
theorem gx_code {Γ : GT} {M : MT} {post : Option Value → XH → Prop} {xp : String → XH → Prop} {cs : Nat × Nat} {h : XH} {pc : Nat} {lv : List (Option Value)} {rest : List Value} {E : String} {i : Nat} {k : Int} (pre suf : List (Nat × Nat × Nat × Nat)) (x : Nat × Nat × Nat × Nat) (ht : M.2.2.2.2.2 = pre ++ x :: suf)
    (hpass : ∀ z ∈ pre, z.2.2.2 ≠ 0 ∧ ∃ nm : String, Cond.classLink M.1.cls z.2.2.2 nm ∈ WA ∧ (E, nm) ∈ NWN) (hx : covers (⟨x.1, x.2.1, x.2.2.1, x.2.2.2⟩ : ExceptionTableEntry) pc = true) (h0 : x.2.2.2 ≠ 0) (hlink : Cond.classLink M.1.cls x.2.2.2 E ∈ WA) (hc : (E, E) ∈ NWC)
    (d1 : decode M.2.1 x.2.2.1 = .ok (.astore i, 2)) (hn : i < M.2.2.1) (ho : lok lv i = true) (d2 : decode M.2.1 (x.2.2.1 + 2) = .ok (.iconst k, 1)) (d3 : decode M.2.1 (x.2.2.1 + 3) = .ok (.ireturn, 1)) (hret : M.2.2.2.1 = some .int) (hcap : cs.1 ≤ (mR M).cells ∧ cs.2 ≤ (mR M).slots) (hp : post (some (.int (iN k))) h) : GX Γ M (QM Γ M post xp) cs h pc lv rest E :=
  gx_catch pre suf x ht hpass hx h0 hlink hc (fun q => gg_astore d1 rfl hn ho (gi_iconst d2 (gg_iret d3 hret rfl hcap hp)))
theorem gx_code_n {Γ : GT} {M : MT} {post : Option Value → XH → Prop} {xp : String → XH → Prop} {cs : Nat × Nat} {h : XH} {pc : Nat} {lv : List (Option Value)} {rest : List Value} {E : String} {k9 : Fin 4} {k : Int} (pre suf : List (Nat × Nat × Nat × Nat)) (x : Nat × Nat × Nat × Nat) (ht : M.2.2.2.2.2 = pre ++ x :: suf)
    (hpass : ∀ z ∈ pre, z.2.2.2 ≠ 0 ∧ ∃ nm : String, Cond.classLink M.1.cls z.2.2.2 nm ∈ WA ∧ (E, nm) ∈ NWN) (hx : covers (⟨x.1, x.2.1, x.2.2.1, x.2.2.2⟩ : ExceptionTableEntry) pc = true) (h0 : x.2.2.2 ≠ 0) (hlink : Cond.classLink M.1.cls x.2.2.2 E ∈ WA) (hc : (E, E) ∈ NWC)
    (d1 : decode M.2.1 x.2.2.1 = .ok (.astore_n k9, 1)) (hn : (k9 : Nat) < M.2.2.1) (ho : lok lv (k9 : Nat) = true) (d2 : decode M.2.1 (x.2.2.1 + 1) = .ok (.iconst k, 1)) (d3 : decode M.2.1 (x.2.2.1 + 2) = .ok (.ireturn, 1)) (hret : M.2.2.2.1 = some .int) (hcap : cs.1 ≤ (mR M).cells ∧ cs.2 ≤ (mR M).slots) (hp : post (some (.int (iN k))) h) : GX Γ M (QM Γ M post xp) cs h pc lv rest E :=
  gx_catch pre suf x ht hpass hx h0 hlink hc (fun q => gg_astore_n d1 rfl hn ho (gi_iconst d2 (gg_iret d3 hret rfl hcap hp)))
/-- a static method with handlers called -/
abbrev MOkH (M2 : MT) (n : Nat) : Prop := M2.2.2.2.2.2 ≠ [] ∧ (M2.1.cls ≠ "java/lang/invoke/MethodHandle" ∧ M2.1.cls ≠ "java/lang/invoke/VarHandle" ∧ (parseMethodDescriptor M2.1.desc).map (fun d => d.parameters.length) = some n) ∧ Cond.codeWith M2.1 M2.2.1 M2.2.2.1 M2.2.2.2.1 M2.2.2.2.2.2 ∈ WA ∧ Cond.initialized M2.1.cls ∈ WA
theorem gg_callSX {Γ : GT} {M : MT} {QF : List Frame → Array Value → State → State → Prop} {cs : Nat × Nat} {h : XH} {pc : Nat} {lv : List (Option Value)} {M2 : MT} {index n : Nat} {As rest : List Value} {post2 : Option Value → XH → Prop} {xp2 : String → XH → Prop} (h2 : MOkH M2 n) (hl : Cond.methodLink M.1.cls index M2.1 ∈ WA) (hs : Cond.static M2.1 ∈ WA)
    (hd : decode M.2.1 pc = .ok (.invokestatic index, 3)) (hn : As.length = n) (hR : (mR M2).frames + 1 ≤ (mR M).frames ∧ 8 + (M2.2.2.1 + 11) + (mR M2).locals ≤ (mR M).locals) (hcap : cs.1 + (mR M2).cells ≤ (mR M).cells ∧ cs.2 + (mR M2).slots ≤ (mR M).slots) (hrest : (rest.map fun v => v.category).sum ≤ 8)
    (K : Ct Γ M2 As h post2 xp2) (kx : ∀ (E : String) (h' : XH), xp2 E h' → GX Γ M QF (cs.1 + (mR M2).cells, cs.2 + (mR M2).slots) h' pc lv rest E)
    (kk : ∀ (r : Option Value) (h' : XH), post2 r h' → GG Γ M QF (cs.1 + (mR M2).cells, cs.2 + (mR M2).slots) h' (pc + 3) lv (r.toList ++ rest)) : GG Γ M QF cs h pc lv (As.reverse ++ rest) := by
  have hws : wsM M2 = Cond.codeWith M2.1 M2.2.1 M2.2.2.1 M2.2.2.2.1 M2.2.2.2.2.2 :: WA := by
    have := h2.1
    unfold wsM
    cases q : M2.2.2.2.2.2 with
    | nil => exact absurd q this
    | cons x y => rfl
  exact fun p e s m args below meth c H locs ls X R z f L => gg_after kk kx X z f L
    (vx_runSX (As := As) (rest := rest) (nL := M.2.2.1) (Ts := WA) (own := M.1.cls) ⟨X.x, X.b, X.ml, X.own, X.ts⟩ K (vx_cwSW (Ts := WA) n X.ts (fun w hw => by
        have hm : w ∈ WA := by
          unfold va_wsS at hw
          rcases List.mem_append.mp hw with hw | hw
          · simp only [List.mem_cons, List.mem_nil_iff, or_false] at hw
            rcases hw with rfl | rfl | rfl
            · exact hl
            · exact hs
            · exact h2.2.2.2
          · rw [hws] at hw
            rcases List.mem_cons.mp hw with rfl | hw
            · exact h2.2.2.1
            · exact hw
        exact ⟨hm, wa_word waGood hm⟩) hws rfl rfl h2.2.1 hR)
      ⟨pc9_blind, fun U hU hW => ⟨rfl, by rw [hU]; exact R, X.K.warm hW⟩⟩ rfl hn L.1 rfl (lv_room hrest) hd hcap)
/-- the script read -/
theorem gg_sld {Γ : GT} {M : MT} {QF : List Frame → Array Value → State → State → Prop} {cs : Nat × Nat} {h : XH} {pc : Nat} {lv : List (Option Value)} {st : List Value} {i : Int} (hd : decode M.2.1 pc = .ok (.iaload, 1)) (hi : 0 ≤ i ∧ i < g_n Γ) (hn : g_n Γ ≤ 2560) (k : GG Γ M QF cs h (pc + 1) lv (.int (g_x Γ i.toNat) :: st)) : GG Γ M QF cs h pc lv (.int (iN i) :: .ref (g_b Γ) :: st) :=
  fun p e s m args below meth c H locs ls X R z f L => va_sld (A := gA Γ) X.x X.b (X.K.2.2.2.2.2.2.2.2.2.2.2.2.1.kept (X.R.2.1 _ X.K.2.2.2.2.2.2.2.2.2.2.2.2.2.1)) (by have := X.K.2.2.2.2.2.2.2.2.2.2.2.2.2.1; have := X.R.1; omega) (fun q => by have := X.K.2.2.2.2.2.2.2.2.2.2.2.2.2.1; unfold gA at q; omega) (cx_S X R z f) (iN_in hi.1 hi.2 (by omega)) hd (by
    rw [iN_clamp hi.1 (by omega)]; exact k p e s m args below meth c H locs ls X R z f L)
theorem gg_slen9 {Γ : GT} {M : MT} {QF : List Frame → Array Value → State → State → Prop} {cs : Nat × Nat} {h : XH} {pc : Nat} {lv : List (Option Value)} {st : List Value} (hd : decode M.2.1 pc = .ok (.arraylength, 1)) (k : GG Γ M QF cs h (pc + 1) lv (.int (iN (g_n Γ : Int)) :: st)) : GG Γ M QF cs h pc lv (.ref (g_b Γ) :: st) :=
  fun p e s m args below meth c H locs ls X R z f L => va_slen (A := gA Γ) X.x X.b (X.K.2.2.2.2.2.2.2.2.2.2.2.2.1.kept (X.R.2.1 _ X.K.2.2.2.2.2.2.2.2.2.2.2.2.2.1)) (by have := X.K.2.2.2.2.2.2.2.2.2.2.2.2.2.1; have := X.R.1; omega) (fun q => by have := X.K.2.2.2.2.2.2.2.2.2.2.2.2.2.1; unfold gA at q; omega) (cx_S X R z f) hd (by
    have e9 : Int32.ofNat (g_n Γ) = iN (g_n Γ : Int) := by rw [iN_nI]; rfl
    rw [e9]; exact k p e s m args below meth c H locs ls X R z f L)
/-- the rows that the answers are written into -/
def lo9 (v : Nat → Int64) : XE := .inl (3, 1, .inr (.inl v))
def do9 (w : Nat → UInt64) : XE := .inl (4, 1, .inr (.inr (.inr (.inl w))))
theorem gst_24 {Γ : GT} {h : XH} {G : Nat → Int} {B : Nat → Int → Int} : (gst Γ h G B).1 24 = h.1 24 := by
  unfold gst gcell; simp [gl9]
theorem gst_25 {Γ : GT} {h : XH} {G : Nat → Int} {B : Nat → Int → Int} : (gst Γ h G B).1 25 = h.1 25 := by
  unfold gst gcell; simp [gl9]
theorem gst_up9 {Γ : GT} {h : XH} {G : Nat → Int} {B : Nat → Int → Int} {i : Nat} {e : XE} (hi : i = 24 ∨ i = 25) : (upX (gst Γ h G B).1 i e, (gst Γ h G B).2) = gst Γ (upX h.1 i e, h.2) G B := by
  unfold gst
  congr 1
  funext j
  by_cases q : j = i
  · subst q
    rw [upX_s]
    rcases hi with q | q <;> subst q <;> simp [gcell, gl9, upX_s]
  · rw [upX_n q]
    dsimp only
    rw [upX_n q]
/-- the long row after an answer -/
def wl9 (h : XH) (v : Nat → Int64) (k x : Int) : Nat → Option XE := if k = 0 then upX h.1 24 (lo9 (vp_updL v 0 (iN x).toInt64)) else h.1
theorem CP9.cn {ι : Nat → Option XE} {G : Nat → Int} {B : Nat → Int → Int} {F : Nat → Int} {A : Nat → Int → Int} {b : Nat} (C : CP9 ι G B F A b) {i : Int} (h0 : 0 ≤ i) (h1 : i ≤ 3) : G (103 + 10 * b + i.toNat) = A 1 (5 + i) := by
  have := (C.m.2.2.2.2.1 i.toNat (by omega)).1
  rwa [Int.toNat_of_nonneg h0] at this
theorem CP9.LD {ι : Nat → Option XE} {G : Nat → Int} {B : Nat → Int → Int} {F : Nat → Int} {A : Nat → Int → Int} {b : Nat} (C : CP9 ι G B F A b) : ∀ d : Nat, d ≤ 3 → LnD ι G B b d (fA9 (A 1) (d : Int)) (nA9 (A 1) (d : Int)) := fun d hd => (C.m.2.2.2.2.1 d hd).2
theorem CP9.SW {ι : Nat → Option XE} {G : Nat → Int} {B : Nat → Int → Int} {F : Nat → Int} {A : Nat → Int → Int} {b : Nat} (C : CP9 ι G B F A b) : ∃ mq : Nat, SW ι G B b mq (A 1 0) (A 1 1) (A 1 2) (A 1) := by
  obtain ⟨m1, ⟨mq, m2, m3⟩, m4, m5, m6, m7⟩ := C.m
  exact ⟨mq, m1, C.1.2, m2, m3, m5, C.2.2.2.2.2.2.1, by rw [m4.1]; exact ⟨by omega, by omega⟩⟩
theorem mokh_L_account : MOkH M_L_account 4 := ⟨by decide, by decide +kernel, wi_50 _ (List.mem_of_getElem? (i := 19) rfl), wi_6 _ (List.mem_of_getElem? (i := 22) rfl)⟩
theorem mokh_L_addLine : MOkH M_L_addLine 4 := ⟨by decide, by decide +kernel, wi_24 _ (List.mem_of_getElem? (i := 10) rfl), wi_6 _ (List.mem_of_getElem? (i := 22) rfl)⟩
theorem mokh_L_character : MOkH M_L_character 5 := ⟨by decide, by decide +kernel, wi_30 _ (List.mem_of_getElem? (i := 14) rfl), wi_6 _ (List.mem_of_getElem? (i := 22) rfl)⟩
theorem mokh_L_clearDraft : MOkH M_L_clearDraft 3 := ⟨by decide, by decide +kernel, wi_29 _ (List.mem_of_getElem? (i := 23) rfl), wi_6 _ (List.mem_of_getElem? (i := 22) rfl)⟩
theorem mokh_L_copyDraft : MOkH M_L_copyDraft 4 := ⟨by decide, by decide +kernel, wi_29 _ (List.mem_of_getElem? (i := 11) rfl), wi_6 _ (List.mem_of_getElem? (i := 22) rfl)⟩
theorem mokh_L_cost : MOkH M_L_cost 6 := ⟨by decide, by decide +kernel, wi_40 _ (List.mem_of_getElem? (i := 19) rfl), wi_6 _ (List.mem_of_getElem? (i := 22) rfl)⟩
theorem mokh_L_difference : MOkH M_L_difference 4 := ⟨by decide, by decide +kernel, wi_48 _ (List.mem_of_getElem? (i := 19) rfl), wi_6 _ (List.mem_of_getElem? (i := 22) rfl)⟩
theorem mokh_L_dropException : MOkH M_L_dropException 3 := ⟨by decide, by decide +kernel, wi_23 _ (List.mem_of_getElem? (i := 6) rfl), wi_6 _ (List.mem_of_getElem? (i := 22) rfl)⟩
theorem mokh_L_errorPosition : MOkH M_L_errorPosition 2 := ⟨by decide, by decide +kernel, wi_8 _ (List.mem_of_getElem? (i := 2) rfl), wi_6 _ (List.mem_of_getElem? (i := 22) rfl)⟩
theorem mokh_L_feed : MOkH M_L_feed 3 := ⟨by decide, by decide +kernel, wi_6 _ (List.mem_of_getElem? (i := 23) rfl), wi_6 _ (List.mem_of_getElem? (i := 22) rfl)⟩
theorem mokh_L_line : MOkH M_L_line 5 := ⟨by decide, by decide +kernel, wi_31 _ (List.mem_of_getElem? (i := 2) rfl), wi_6 _ (List.mem_of_getElem? (i := 22) rfl)⟩
theorem mokh_L_meanCost : MOkH M_L_meanCost 3 := ⟨by decide, by decide +kernel, wi_52 _ (List.mem_of_getElem? (i := 3) rfl), wi_6 _ (List.mem_of_getElem? (i := 22) rfl)⟩
theorem mokh_L_metre : MOkH M_L_metre 3 := ⟨by decide, by decide +kernel, wi_15 _ (List.mem_of_getElem? (i := 22) rfl), wi_6 _ (List.mem_of_getElem? (i := 22) rfl)⟩
theorem mokh_L_moveLine : MOkH M_L_moveLine 5 := ⟨by decide, by decide +kernel, wi_28 _ (List.mem_of_getElem? (i := 20) rfl), wi_6 _ (List.mem_of_getElem? (i := 22) rfl)⟩
theorem mokh_L_readException : MOkH M_L_readException 2 := ⟨by decide, by decide +kernel, wi_17 _ (List.mem_of_getElem? (i := 1) rfl), wi_6 _ (List.mem_of_getElem? (i := 22) rfl)⟩
theorem mokh_L_readMetre : MOkH M_L_readMetre 2 := ⟨by decide, by decide +kernel, wi_10 _ (List.mem_of_getElem? (i := 17) rfl), wi_6 _ (List.mem_of_getElem? (i := 22) rfl)⟩
theorem mokh_L_reason : MOkH M_L_reason 4 := ⟨by decide, by decide +kernel, wi_48 _ (List.mem_of_getElem? (i := 2) rfl), wi_6 _ (List.mem_of_getElem? (i := 22) rfl)⟩
theorem mokh_L_removeLine : MOkH M_L_removeLine 4 := ⟨by decide, by decide +kernel, wi_28 _ (List.mem_of_getElem? (i := 5) rfl), wi_6 _ (List.mem_of_getElem? (i := 22) rfl)⟩
theorem mokh_L_replaceLine : MOkH M_L_replaceLine 4 := ⟨by decide, by decide +kernel, wi_27 _ (List.mem_of_getElem? (i := 2) rfl), wi_6 _ (List.mem_of_getElem? (i := 22) rfl)⟩
theorem mokh_L_restore : MOkH M_L_restore 2 := ⟨by decide, by decide +kernel, wi_53 _ (List.mem_of_getElem? (i := 21) rfl), wi_6 _ (List.mem_of_getElem? (i := 22) rfl)⟩
theorem mokh_L_rhyme : MOkH M_L_rhyme 5 := ⟨by decide, by decide +kernel, wi_39 _ (List.mem_of_getElem? (i := 21) rfl), wi_6 _ (List.mem_of_getElem? (i := 22) rfl)⟩
theorem mokh_L_rhymes : MOkH M_L_rhymes 5 := ⟨by decide, by decide +kernel, wi_40 _ (List.mem_of_getElem? (i := 8) rfl), wi_6 _ (List.mem_of_getElem? (i := 22) rfl)⟩
theorem mokh_L_scan : MOkH M_L_scan 5 := ⟨by decide, by decide +kernel, wi_44 _ (List.mem_of_getElem? (i := 9) rfl), wi_6 _ (List.mem_of_getElem? (i := 22) rfl)⟩
theorem mokh_L_scans : MOkH M_L_scans 4 := ⟨by decide, by decide +kernel, wi_47 _ (List.mem_of_getElem? (i := 14) rfl), wi_6 _ (List.mem_of_getElem? (i := 22) rfl)⟩
theorem mokh_L_setMetre : MOkH M_L_setMetre 5 := ⟨by decide, by decide +kernel, wi_8 _ (List.mem_of_getElem? (i := 17) rfl), wi_6 _ (List.mem_of_getElem? (i := 22) rfl)⟩
theorem mokh_L_setTolerance : MOkH M_L_setTolerance 3 := ⟨by decide, by decide +kernel, wi_16 _ (List.mem_of_getElem? (i := 13) rfl), wi_6 _ (List.mem_of_getElem? (i := 22) rfl)⟩
theorem mokh_L_suits : MOkH M_L_suits 3 := ⟨by decide, by decide +kernel, wi_49 _ (List.mem_of_getElem? (i := 19) rfl), wi_6 _ (List.mem_of_getElem? (i := 22) rfl)⟩
theorem mokh_L_undo : MOkH M_L_undo 2 := ⟨by decide, by decide +kernel, wi_52 _ (List.mem_of_getElem? (i := 17) rfl), wi_6 _ (List.mem_of_getElem? (i := 22) rfl)⟩
theorem mokh_L_word : MOkH M_L_word 6 := ⟨by decide, by decide +kernel, wi_38 _ (List.mem_of_getElem? (i := 22) rfl), wi_6 _ (List.mem_of_getElem? (i := 22) rfl)⟩
