/-! from addresses to numbers -/
def XQ (e e' : XE) : Prop := ∀ (Γ : GT) (q : Nat) (H : Heap), xat Γ q e H → xat Γ q e' H
theorem XQ.refl (e : XE) : XQ e e := fun _ _ _ x => x
theorem XQ.ra9 {t n : Nat} {f f' : Int → Option Nat} (h : ∀ j : Int, 0 ≤ j → j < n → f j = f' j) : XQ (.inl (t, n, ra f)) (.inl (t, n, ra f')) := fun Γ q H x => by
  have e : ∀ c : ClassId, vp_cell c (n, ra f') = vp_cell c (n, ra f) := fun c => by
    show arrV c n (fun j => va_rf (f' (j : Int))) = arrV c n (fun j => va_rf (f (j : Int)))
    unfold arrV
    congr 2
    funext j
    dsimp only
    rw [h (j.val : Int) (Int.natCast_nonneg _) (by have := j.isLt; omega)]
  show H[q]? = some (vp_cell (g_aT Γ t) (n, ra f'))
  rw [e]; exact x
theorem XQ.ia9 {t n : Nat} {f f' : Int → Int} (h : ∀ j : Int, 0 ≤ j → j < n → f j = f' j) : XQ (.inl (t, n, ia f)) (.inl (t, n, ia f')) := fun Γ q H x => by
  have e : ∀ c : ClassId, vp_cell c (n, ia f') = vp_cell c (n, ia f) := fun c => by
    show arrV c n (fun j => .int (iN (f' (j : Int)))) = arrV c n (fun j => .int (iN (f (j : Int))))
    unfold arrV
    congr 2
    funext j
    dsimp only
    rw [h (j.val : Int) (Int.natCast_nonneg _) (by have := j.isLt; omega)]
  show H[q]? = some (vp_cell (g_aT Γ t) (n, ia f'))
  rw [e]; exact x
theorem RH.prom {Γ : GT} {L : Nat → Nat} {ι : Nat → Option XE} {h' : XH} {H : Heap} (R : RH Γ (fun _ => none, ι) H)
    (c1 : ∀ i e', h'.1 i = some e' → ∃ e, ι (L i) = some e ∧ XQ e e') (c2 : ∀ q e, h'.2 q = some e → ι q = some e)
    (c3 : ∀ (i j : Nat) (e f : XE), h'.1 i = some e → h'.1 j = some f → L i = L j → i = j) (c4 : ∀ (i : Nat) (e f : XE), h'.1 i = some e → h'.2 (L i) = some f → False) : RH (stL Γ L) h' H :=
  ⟨R.1, R.2.1, fun i e q => by
    obtain ⟨e0, k1, k2⟩ := c1 i e q
    have r := R.2.2.2.1 _ _ k1
    exact ⟨k2 Γ _ _ r.1, r.2⟩, fun q e k => R.2.2.2.1 q e (c2 q e k), c3, c4⟩
theorem gg_prom {Γ : GT} {L : Nat → Nat} {M : MT} {QF : List Frame → Array Value → State → State → Prop} {cs : Nat × Nat} {ι : Nat → Option XE} {h' : XH} {pc : Nat} {lv : List (Option Value)} {st : List Value}
    (c1 : ∀ i e', h'.1 i = some e' → ∃ e, ι (L i) = some e ∧ XQ e e') (c2 : ∀ q e, h'.2 q = some e → ι q = some e)
    (c3 : ∀ (i j : Nat) (e f : XE), h'.1 i = some e → h'.1 j = some f → L i = L j → i = j) (c4 : ∀ (i : Nat) (e f : XE), h'.1 i = some e → h'.2 (L i) = some f → False)
    (k : GG (stL Γ L) M QF cs h' pc lv st) : GG Γ M QF cs (fun _ => none, ι) pc lv st :=
  fun p e s m args below meth c H locs ls X R z f Lr => k p e s m args below meth c H locs ls
    ⟨X.x, X.b, X.r, X.ml, X.own, X.lk, X.ts, X.K, X.nm, ⟨X.R.1, X.R.2.1, fun i e q => by simp [h00] at q, fun i e q => by simp [h00] at q, fun i j e f q => by simp [h00] at q, fun i e f q => by simp [h00] at q⟩, X.xt⟩
    (R.prom c1 c2 c3 c4) z f Lr
theorem gn_L_8 {Γ : GT} {M : MT} {QF : List Frame → Array Value → State → State → Prop} {cs : Nat × Nat} {h : XH} {pc : Nat} {lv : List (Option Value)} {st : List Value} (hM : M.1.cls = RL) (hd : decode M.2.1 pc = .ok (.new 8, 3)) (hcells : cs.1 + 1 ≤ (mR M).cells) (hslots : cs.2 + 14 ≤ (mR M).slots) (kk : ∀ q, Fresh Γ h q → GG Γ M QF (cs.1 + 1, cs.2 + 14) (h.1, upX h.2 q (.inr (11, [.null, .null, .null, .null, .null, .null, .null, .null, .null, .null, .null, .null, .int 0, .int 0]))) (pc + 3) lv (.ref q :: st)) : GG Γ M QF cs h pc lv st :=
  gg_new (C := RX9) (T := TX9) (N := 14) (ci := 11) (ty0 := tyX9) (fs := [.null, .null, .null, .null, .null, .null, .null, .null, .null, .null, .null, .null, .int 0, .int 0]) wi_69 tyX9_ok rfl (by rw [hM]; exact wi_0 _ (List.mem_of_getElem? (i := 0) rfl)) (wi_0 _ (List.mem_of_getElem? (i := 1) rfl)) (wi_0 _ (List.mem_of_getElem? (i := 2) rfl)) (fun j hj => (show ∀ j : Fin 14, defaultValue (tyX9 j.val) = vp_V [.null, .null, .null, .null, .null, .null, .null, .null, .null, .null, .null, .null, .int 0, .int 0] j.val from by decide +kernel) ⟨j, hj⟩) hd hcells hslots kk
theorem gn_L_116 {Γ : GT} {M : MT} {QF : List Frame → Array Value → State → State → Prop} {cs : Nat × Nat} {h : XH} {pc : Nat} {lv : List (Option Value)} {st : List Value} (hM : M.1.cls = RL) (hd : decode M.2.1 pc = .ok (.new 116, 3)) (hcells : cs.1 + 1 ≤ (mR M).cells) (hslots : cs.2 + 47 ≤ (mR M).slots) (kk : ∀ q, Fresh Γ h q → GG Γ M QF (cs.1 + 1, cs.2 + 47) (h.1, upX h.2 q (.inr (12, [.int 0, .null, .null, .null, .null, .int 0, .int 0, .null, .int 0, .int 0, .int 0, .int 0, .int 0, .int 0, .null, .null, .int 0, .null, .null, .null, .null, .null, .null, .null, .int 0, .int 0, .null, .int 0, .int 0, .int 0, .int 0, .null, .null, .null, .int 0, .int 0, .int 0, .int 0, .int 0, .int 0, .int 0, .int 0, .int 0, .null, .null, .null, .null]))) (pc + 3) lv (.ref q :: st)) : GG Γ M QF cs h pc lv st :=
  gg_new (C := RX10) (T := TX10) (N := 47) (ci := 12) (ty0 := tyX10) (fs := [.int 0, .null, .null, .null, .null, .int 0, .int 0, .null, .int 0, .int 0, .int 0, .int 0, .int 0, .int 0, .null, .null, .int 0, .null, .null, .null, .null, .null, .null, .null, .int 0, .int 0, .null, .int 0, .int 0, .int 0, .int 0, .null, .null, .null, .int 0, .int 0, .int 0, .int 0, .int 0, .int 0, .int 0, .int 0, .int 0, .null, .null, .null, .null]) wi_70 tyX10_ok rfl (by rw [hM]; exact wi_0 _ (List.mem_of_getElem? (i := 3) rfl)) (wi_0 _ (List.mem_of_getElem? (i := 4) rfl)) (wi_0 _ (List.mem_of_getElem? (i := 5) rfl)) (fun j hj => (show ∀ j : Fin 47, defaultValue (tyX10 j.val) = vp_V [.int 0, .null, .null, .null, .null, .int 0, .int 0, .null, .int 0, .int 0, .int 0, .int 0, .int 0, .int 0, .null, .null, .int 0, .null, .null, .null, .null, .null, .null, .null, .int 0, .int 0, .null, .int 0, .int 0, .int 0, .int 0, .null, .null, .null, .int 0, .int 0, .int 0, .int 0, .int 0, .int 0, .int 0, .int 0, .int 0, .null, .null, .null, .null] j.val from by decide +kernel) ⟨j, hj⟩) hd hcells hslots kk
