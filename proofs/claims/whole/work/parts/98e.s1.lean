/-! the law: its world and the ends of its steps -/
set_option maxHeartbeats 1000000
abbrev M_law (nm9 : String) : MT := (⟨RL, nm9, "([I)Z"⟩, cL_law, 8, some .boolean, room_1, [])
def h9b (v : Nat → Int64) (w : Nat → UInt64) : Nat → Option XE := fun i => if i = 24 then some (lo9 v) else if i = 25 then some (do9 w) else none
def P9 (Γ : GT) (v : Nat → Int64) (w : Nat → UInt64) (ι : Nat → Option XE) (G : Nat → Int) (B : Nat → Int → Int) (F : Nat → Int) (A : Nat → Int → Int) : XH := gst Γ (mst Γ (h9b v w, ι) F A) G B
theorem gcell_lo {Γ : GT} {G : Nat → Int} {f : Int → Int} {i : Nat} (c : i ≤ 22) : gcell Γ G f i = none := by
  have h0 : gl9 i = 0 := by
    unfold gl9
    rw [if_neg (by omega)]
    split <;> omega
  unfold gcell
  rw [h0, if_neg (by omega), if_neg (by omega)]
  split <;> first | omega | rfl
theorem P9_m {Γ : GT} {v : Nat → Int64} {w : Nat → UInt64} {ι : Nat → Option XE} {G : Nat → Int} {B : Nat → Int → Int} {F : Nat → Int} {A : Nat → Int → Int} : P9 Γ v w ι G B F A = mst Γ (gst Γ (h9b v w, ι) G B) F A := by
  unfold P9 gst mst
  congr 1
  funext i
  by_cases c : i ≤ 22
  · simp only [gcell_lo c, if_pos c]
  · simp only [if_neg c]
def vv9 (v : Nat → Int64) (k x : Int) : Nat → Int64 := if k = 0 then vp_updL v 0 (iN x).toInt64 else v
def ww9 (w : Nat → UInt64) (k : Int) (x : UInt64) : Nat → UInt64 := if k = 0 then vf_upd w 0 x else w
theorem mst_hi {Γ : GT} {h : XH} {F : Nat → Int} {A : Nat → Int → Int} {i : Nat} (c : 22 < i) : (mst Γ h F A).1 i = h.1 i := by
  unfold mst; dsimp only; rw [if_neg (by omega)]
theorem P9_wl {Γ : GT} {v : Nat → Int64} {w : Nat → UInt64} {ι : Nat → Option XE} {G : Nat → Int} {B : Nat → Int → Int} {F : Nat → Int} {A : Nat → Int → Int} {k x : Int} {ι' : Nat → Option XE} : ((wl9 (mst Γ (h9b v w, ι) F A) v k x, ι') : XH) = mst Γ (h9b (vv9 v k x) w, ι') F A := by
  unfold wl9 vv9 mst
  congr 1
  funext i
  dsimp only
  by_cases c : k = 0
  · rw [if_pos c, if_pos c]
    by_cases e : i = 24
    · subst e; rw [upX_s, if_neg (by omega)]; rfl
    · rw [upX_n e]
      by_cases c2 : i ≤ 22
      · rw [if_pos c2, if_pos c2]
      · rw [if_neg c2, if_neg c2]; unfold h9b; rw [if_neg e, if_neg e]
  · rw [if_neg c, if_neg c]
theorem P9_wd {Γ : GT} {v : Nat → Int64} {w : Nat → UInt64} {ι : Nat → Option XE} {G : Nat → Int} {B : Nat → Int → Int} {F : Nat → Int} {A : Nat → Int → Int} {k : Int} {x : UInt64} {ι' : Nat → Option XE} : ((wd9 (mst Γ (h9b v w, ι) F A) w k x, ι') : XH) = mst Γ (h9b v (ww9 w k x), ι') F A := by
  unfold wd9 ww9 mst
  congr 1
  funext i
  dsimp only
  by_cases c : k = 0
  · rw [if_pos c, if_pos c]
    by_cases e : i = 25
    · subst e; rw [upX_s, if_neg (by omega)]; rfl
    · rw [upX_n e]
      by_cases c2 : i ≤ 22
      · rw [if_pos c2, if_pos c2]
      · rw [if_neg c2, if_neg c2]; unfold h9b; rw [if_neg e, if_neg e]
  · rw [if_neg c, if_neg c]
def sx (Γ : GT) (j : Int) : Int := (g_x Γ j.toNat).toInt
theorem sx_r (Γ : GT) (j : Int) : InR (sx Γ j) := iN_rng _
theorem sx_n (Γ : GT) (j : Int) : iN (sx Γ j) = g_x Γ j.toNat := iN_self _
theorem g5 {nm9 : String} {Γ : GT} {QF : List Frame → Array Value → State → State → Prop} {cs : Nat × Nat} {pc : Nat} {h : XH} {lv : List (Option Value)} {st : List Value} {i k : Int} (hn : g_n Γ ≤ 2560) (l0 : lget lv 0 = some (.ref (g_b Γ))) (l5 : lget lv 5 = some (.int (iN i))) (hi : 0 ≤ i ∧ i + 5 ≤ g_n Γ) (hk : 0 ≤ k ∧ k ≤ 4)
    (d0 : decode cL_law pc = .ok (.aload_n 0, 1)) (d1 : decode cL_law (pc + 1) = .ok (.iload 5, 2)) (d2 : decode cL_law (pc + 3) = .ok (.iconst k, 1)) (d3 : decode cL_law (pc + 4) = .ok (.iadd, 1)) (d4 : decode cL_law (pc + 5) = .ok (.iaload, 1))
    (kk : GG Γ (M_law nm9) QF cs h (pc + 6) lv (.int (iN (sx Γ (i + k))) :: st)) : GG Γ (M_law nm9) QF cs h pc lv st :=
  gg_aload_n d0 l0 rfl (gg_iload d1 l5 (gi_iconst d2 (gi_iadd d3 (gg_sld d4 (by omega) hn (by rw [← sx_n]; exact kk)))))
theorem gc16 {nm9 : String} {Γ : GT} {QF : List Frame → Array Value → State → State → Prop} {cs : Nat × Nat} {pc : Nat} {h : XH} {lv : List (Option Value)} {st : List Value} {x : Int} (d0 : decode cL_law pc = .ok (.i2c, 1))
    (kk : ∀ c : Int, c = ((iN x).toUInt32 % 65536).toInt32.toInt → 0 ≤ c ∧ c < 65536 → GG Γ (M_law nm9) QF cs h (pc + 1) lv (.int (iN c) :: st)) : GG Γ (M_law nm9) QF cs h pc lv (.int (iN x) :: st) :=
  gg_i2c d0 (by
    have e : iN ((((iN x).toUInt32 % 65536).toInt32).toInt) = ((iN x).toUInt32 % 65536).toInt32 := iN_self _
    have hr : 0 ≤ (((iN x).toUInt32 % 65536).toInt32).toInt ∧ (((iN x).toUInt32 % 65536).toInt32).toInt < 65536 := by
      have h1 : ((iN x).toUInt32 % 65536).toNat < 65536 := by
        rw [UInt32.toNat_mod]; exact Nat.mod_lt _ (by decide)
      have h2 : (((iN x).toUInt32 % 65536).toInt32).toInt = (((iN x).toUInt32 % 65536).toNat : Int) := by
        rw [← Int32.toInt_toBitVec]
        show ((iN x).toUInt32 % 65536).toBitVec.toInt = _
        rw [BitVec.toInt_eq_toNat_of_lt (by show 2 * ((iN x).toUInt32 % 65536).toNat < 2 ^ 32; omega)]
        rfl
      omega
    rw [← e]
    exact kk _ rfl hr)
/-- the locals of the law -/
abbrev LV9 (Γ : GT) (i : Int) (a b : Option Value) : List (Option Value) := [some (.ref (g_b Γ)), some (.ref (g_L Γ 30)), some (.ref (g_L Γ 0)), some (.ref (g_L Γ 24)), some (.ref (g_L Γ 25)), some (.int (iN i)), a, b]
theorem lg_cmp_s (x : Int64) : lg_cmp x x = 0 := by
  unfold lg_cmp
  rw [if_neg (by simp [Int64.lt_iff_toInt_lt]), if_pos rfl]
theorem tail9 {nm9 : String} {Γ : GT} {v : Nat → Int64} {w : Nat → UInt64} {ι : Nat → Option XE} {G : Nat → Int} {B : Nat → Int → Int} {F : Nat → Int} {A : Nat → Int → Int} {QF : List Frame → Array Value → State → State → Prop} {cs : Nat × Nat} {pc : Nat} {i x2 off : Int} {x6 x7 : Option Value} (hv : F 0 = 0 → v 0 = (iN x2).toInt64) (hF : 0 ≤ F 0 ∧ F 0 ≤ 3)
    (d0 : decode cL_law pc = .ok (.istore 7, 2)) (d1 : decode cL_law (pc + 2) = .ok (.aload_n 2, 1)) (d2 : decode cL_law (pc + 3) = .ok (.invokevirtual 125, 3)) (d3 : decode cL_law (pc + 6) = .ok (.iload 6, 2)) (d4 : decode cL_law (pc + 8) = .ok (.if_icmp .eq 5, 3)) (d5 : decode cL_law (pc + 13) = .ok (.iload 6, 2)) (d6 : decode cL_law (pc + 15) = .ok (.ifCond .ne 15, 3))
    (d7 : decode cL_law (pc + 18) = .ok (.aload_n 3, 1)) (d8 : decode cL_law (pc + 19) = .ok (.iconst 0, 1)) (d9 : decode cL_law (pc + 20) = .ok (.laload, 1)) (d10 : decode cL_law (pc + 21) = .ok (.iload 7, 2)) (d11 : decode cL_law (pc + 23) = .ok (.i2l, 1)) (d12 : decode cL_law (pc + 24) = .ok (.lcmp, 1)) (d13 : decode cL_law (pc + 25) = .ok (.ifCond .eq 5, 3)) (d14 : decode cL_law (pc + 30) = .ok (.goto off, 3)) (ho : ((pc + 30 : Nat) : Int) + off = (2150 : Nat))
    (hcs : cs.1 ≤ room_1.cells ∧ cs.2 ≤ room_1.slots)
    (kk : GG Γ (M_law nm9) QF cs (P9 Γ v w ι G B F A) 2150 (LV9 Γ i none none) []) : GG Γ (M_law nm9) QF cs (P9 Γ v w ι G B F A) pc (LV9 Γ i (some (.int (iN (F 0)))) x7) [.int (iN x2)] := by
  have k2 : GG Γ (M_law nm9) QF cs (P9 Γ v w ι G B F A) (pc + 30) (LV9 Γ i (some (.int (iN (F 0)))) (some (.int (iN x2)))) [] :=
    gg_goto d14 ho (gg_drop 6 (gg_drop 7 kk))
  have ir : InR (F 0) := ⟨by omega, by omega⟩
  refine gg_istore d0 (Nat.le_of_ble_eq_true rfl) rfl ?_
  refine gg_aload_n d1 rfl rfl ?_
  rw [P9_m]
  refine gc_L_125 rfl d2 ⟨(Nat.le_of_ble_eq_true rfl), (Nat.le_of_ble_eq_true rfl)⟩ hcs (Nat.le_of_ble_eq_true rfl) (HAt.mu rfl) c_X10_thrown (fun _ _ z => z.elim) (fun r h' hp => ?_)
  obtain ⟨rfl, rfl⟩ := hp
  rw [← P9_m]
  refine gg_iload d3 rfl ?_
  refine gi_icmp_eq d4 (tgt := pc + 13) (by omega) ir ir (fun _ => ?_) (fun z => absurd rfl z)
  refine gg_iload d5 rfl ?_
  refine gi_if_ne d6 (tgt := pc + 30) (by omega) ir (fun _ => k2) (fun z => ?_)
  refine gg_aload_n d7 rfl rfl ?_
  refine gi_iconst d8 ?_
  refine gg_lald d9 (HAt.mu (i := 24) (show _ = some (lo9 v) from by unfold P9; rw [gst_24, mst_hi (by decide)]; rfl)) (iN_in (n := 1) (by decide) (by decide) (by decide)) ?_
  refine gg_iload d10 rfl ?_
  refine gg_i2l d11 ?_
  refine gg_lcmp d12 ?_
  rw [show v (iN 0).toNatClampNeg = (iN x2).toInt64 from hv z, lg_cmp_s]
  exact gg_if_eq d13 (tgt := pc + 30) (by omega) (fun _ => k2) (fun z => absurd rfl z)
