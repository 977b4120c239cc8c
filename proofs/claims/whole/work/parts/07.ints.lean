/-! ints as iN z, z an Int; arrays as functions on Int -/
def iN (z : Int) : Int32 := Int32.ofInt z
theorem iN_add (a b : Int) : iN a + iN b = iN (a + b) := (Int32.ofInt_add a b).symm
theorem iN_sub (a b : Int) : iN a - iN b = iN (a - b) := (Int32.ofInt_sub a b).symm
theorem iN_mul (a b : Int) : iN a * iN b = iN (a * b) := (Int32.ofInt_mul a b).symm
theorem iN_neg (a : Int) : -iN a = iN (-a) := (Int32.ofInt_neg a).symm
theorem iN_toInt {z : Int} (h1 : -2147483648 ≤ z) (h2 : z ≤ 2147483647) : (iN z).toInt = z := Int32.toInt_ofInt_of_le h1 (by omega)
theorem iN_self (x : Int32) : iN x.toInt = x := Int32.ofInt_toInt x
theorem iN_rng (x : Int32) : -2147483648 ≤ x.toInt ∧ x.toInt ≤ 2147483647 := by
  have h1 := Int32.le_toInt x
  have h2 := Int32.toInt_lt x
  omega
theorem iN_nI (n : Nat) : iN (n : Int) = nI n := by unfold iN nI; exact Int32.ofInt_eq_ofNat
theorem iN_lt {a b : Int} (ha : -2147483648 ≤ a ∧ a ≤ 2147483647) (hb : -2147483648 ≤ b ∧ b ≤ 2147483647) : iN a < iN b ↔ a < b := by
  rw [Int32.lt_iff_toInt_lt, iN_toInt ha.1 ha.2, iN_toInt hb.1 hb.2]
theorem iN_le {a b : Int} (ha : -2147483648 ≤ a ∧ a ≤ 2147483647) (hb : -2147483648 ≤ b ∧ b ≤ 2147483647) : iN a ≤ iN b ↔ a ≤ b := by
  rw [Int32.le_iff_toInt_le, iN_toInt ha.1 ha.2, iN_toInt hb.1 hb.2]
theorem iN_eq {a b : Int} (ha : -2147483648 ≤ a ∧ a ≤ 2147483647) (hb : -2147483648 ≤ b ∧ b ≤ 2147483647) : iN a = iN b ↔ a = b :=
  ⟨fun h => by rw [← iN_toInt ha.1 ha.2, ← iN_toInt hb.1 hb.2, h], fun h => by rw [h]⟩
theorem iN_clamp {z : Int} (h1 : 0 ≤ z) (h2 : z ≤ 2147483647) : (iN z).toNatClampNeg = z.toNat := by
  have : (iN z).toInt = z := iN_toInt (by omega) h2
  unfold Int32.toNatClampNeg
  rw [this]
theorem iN_in {z : Int} {n : Nat} (h1 : 0 ≤ z) (h2 : z < n) (hn : n ≤ 2147483647) : vp_in (iN z) n := by
  rw [vp_in_iff, iN_toInt (by omega) (by omega)]
  exact ⟨h1, h2⟩
theorem iN_0 : iN 0 = 0 := rfl
theorem iN_div {a b : Int} (ha : 0 ≤ a ∧ a ≤ 2147483647) (hb : 0 < b ∧ b ≤ 2147483647) : iN a / iN b = iN (a / b) := by
  obtain ⟨n, rfl⟩ := Int.eq_ofNat_of_zero_le ha.1
  obtain ⟨m, rfl⟩ := Int.eq_ofNat_of_zero_le (Int.le_of_lt hb.1)
  rw [iN_nI, iN_nI, pk_div (by omega) (by omega) (by omega), ← iN_nI]
  rfl
theorem iN_rem {a b : Int} (ha : 0 ≤ a ∧ a ≤ 2147483647) (hb : 0 < b ∧ b ≤ 2147483647) : iN a - iN a / iN b * iN b = iN (a % b) := by
  obtain ⟨n, rfl⟩ := Int.eq_ofNat_of_zero_le ha.1
  obtain ⟨m, rfl⟩ := Int.eq_ofNat_of_zero_le (Int.le_of_lt hb.1)
  rw [iN_nI, iN_nI, pk_rem (by omega) (by omega) (by omega), ← iN_nI]
  rfl
/-- an array of ints -/
def ia (f : Int → Int) : ((Nat → Int32) ⊕ (Nat → Int64) ⊕ (Nat → UInt32) ⊕ (Nat → UInt64) ⊕ (Nat → Option Nat)) := .inl (fun j => iN (f (j : Int)))
/-- an array of references -/
def ra (f : Int → Option Nat) : ((Nat → Int32) ⊕ (Nat → Int64) ⊕ (Nat → UInt32) ⊕ (Nat → UInt64) ⊕ (Nat → Option Nat)) := .inr (.inr (.inr (.inr (fun j => f (j : Int)))))
def up {α : Type} (f : Int → α) (k : Int) (x : α) : Int → α := fun j => if j = k then x else f j
theorem up_s {α : Type} {f : Int → α} {k : Int} {x : α} : up f k x k = x := by simp [up]
theorem up_n {α : Type} {f : Int → α} {k j : Int} {x : α} (h : j ≠ k) : up f k x j = f j := by simp [up, h]
theorem ia_up {f : Int → Int} {i x : Int} (h0 : 0 ≤ i) (h1 : i ≤ 2147483647) : (Sum.inl (upd (fun j : Nat => iN (f (j : Int))) (iN i).toNatClampNeg (iN x)) : ((Nat → Int32) ⊕ (Nat → Int64) ⊕ (Nat → UInt32) ⊕ (Nat → UInt64) ⊕ (Nat → Option Nat))) = ia (up f i x) := by
  unfold ia
  congr 1
  funext j
  rw [iN_clamp h0 h1]
  unfold upd up
  by_cases h : j = i.toNat
  · rw [if_pos h, if_pos (by omega)]
  · rw [if_neg h, if_neg (by omega)]
theorem ra_up {f : Int → Option Nat} {i : Int} {x : Option Nat} (h0 : 0 ≤ i) (h1 : i ≤ 2147483647) : (Sum.inr (.inr (.inr (.inr (va_up (fun j : Nat => f (j : Int)) (iN i).toNatClampNeg x)))) : ((Nat → Int32) ⊕ (Nat → Int64) ⊕ (Nat → UInt32) ⊕ (Nat → UInt64) ⊕ (Nat → Option Nat))) = ra (up f i x) := by
  unfold ra
  congr 4
  funext j
  rw [iN_clamp h0 h1]
  unfold va_up up
  by_cases h : j = i.toNat
  · rw [if_pos h, if_pos (by omega)]
  · rw [if_neg h, if_neg (by omega)]
theorem nar_bool {x : Int} (h : x = 0 ∨ x = 1) : narrow .boolean (.int (iN x)) = .int (iN x) := by rcases h with rfl | rfl <;> rfl
theorem fit_bool {x : Int} (h : x = 0 ∨ x = 1) : fits .boolean (.int (iN x)) = true := by rcases h with rfl | rfl <;> rfl
theorem nar_char {x : Int} (h : 0 ≤ x ∧ x < 65536) : narrow .char (.int (iN x)) = .int (iN x) := by
  obtain ⟨n, rfl⟩ := Int.eq_ofNat_of_zero_le h.1
  rw [iN_nI]
  exact (pk_charN (by omega)).1
theorem vnar_bool {x : Int} (h : x = 0 ∨ x = 1) : vp_nar .boolean (iN x) = iN x := by simp only [vp_nar, nar_bool h]
theorem vnar_char {x : Int} (h : 0 ≤ x ∧ x < 65536) : vp_nar .char (iN x) = iN x := by simp only [vp_nar, nar_char h]
abbrev InR (a : Int) : Prop := -2147483648 ≤ a ∧ a ≤ 2147483647
section RowsI
variable {Γ : GT} {M : MT} {QF : List Frame → Array Value → State → State → Prop} {cs : Nat × Nat} {h : XH} {pc : Nat} {lv : List (Option Value)} {st : List Value}
theorem gi_iconst {n : Int} (hd : decode M.2.1 pc = .ok (.iconst n, 1)) (k : GG Γ M QF cs h (pc + 1) lv (.int (iN n) :: st)) : GG Γ M QF cs h pc lv st := gg_iconst hd rfl k
theorem gi_bipush {n : Int} (hd : decode M.2.1 pc = .ok (.bipush n, 2)) (hv : (Int8.ofInt n).toInt32 = iN n) (k : GG Γ M QF cs h (pc + 2) lv (.int (iN n) :: st)) : GG Γ M QF cs h pc lv st := gg_bipush hd hv k
theorem gi_sipush {n : Int} (hd : decode M.2.1 pc = .ok (.sipush n, 3)) (hv : (Int16.ofInt n).toInt32 = iN n) (k : GG Γ M QF cs h (pc + 3) lv (.int (iN n) :: st)) : GG Γ M QF cs h pc lv st := gg_sipush hd hv k
theorem gi_iadd {a b : Int} (hd : decode M.2.1 pc = .ok (.iadd, 1)) (k : GG Γ M QF cs h (pc + 1) lv (.int (iN (a + b)) :: st)) : GG Γ M QF cs h pc lv (.int (iN b) :: .int (iN a) :: st) := gg_iadd hd (by rw [iN_add]; exact k)
theorem gi_isub {a b : Int} (hd : decode M.2.1 pc = .ok (.isub, 1)) (k : GG Γ M QF cs h (pc + 1) lv (.int (iN (a - b)) :: st)) : GG Γ M QF cs h pc lv (.int (iN b) :: .int (iN a) :: st) := gg_isub hd (by rw [iN_sub]; exact k)
theorem gi_imul {a b : Int} (hd : decode M.2.1 pc = .ok (.imul, 1)) (k : GG Γ M QF cs h (pc + 1) lv (.int (iN (a * b)) :: st)) : GG Γ M QF cs h pc lv (.int (iN b) :: .int (iN a) :: st) := gg_imul hd (by rw [iN_mul]; exact k)
theorem gi_idiv {a b : Int} (hd : decode M.2.1 pc = .ok (.idiv, 1)) (ha : 0 ≤ a ∧ a ≤ 2147483647) (hb : 0 < b ∧ b ≤ 2147483647) (k : GG Γ M QF cs h (pc + 1) lv (.int (iN (a / b)) :: st)) : GG Γ M QF cs h pc lv (.int (iN b) :: .int (iN a) :: st) :=
  gg_idiv hd (fun q => by rw [← iN_0, iN_eq (by omega) (by omega)] at q; omega) (by rw [iN_div ha hb]; exact k)
theorem gi_irem {a b : Int} (hd : decode M.2.1 pc = .ok (.irem, 1)) (ha : 0 ≤ a ∧ a ≤ 2147483647) (hb : 0 < b ∧ b ≤ 2147483647) (k : GG Γ M QF cs h (pc + 1) lv (.int (iN (a % b)) :: st)) : GG Γ M QF cs h pc lv (.int (iN b) :: .int (iN a) :: st) :=
  gg_irem hd (fun q => by rw [← iN_0, iN_eq (by omega) (by omega)] at q; omega) (by rw [iN_rem ha hb]; exact k)
theorem gi_iinc {i : Nat} {n a : Int} (hd : decode M.2.1 pc = .ok (.iinc i n, 3)) (hl : lget lv i = some (.int (iN a))) (hn : i < M.2.2.1) (ho : lok lv i = true) (k : GG Γ M QF cs h (pc + 3) (lset lv i (some (.int (iN (a + n))))) st) : GG Γ M QF cs h pc lv st := gg_iinc hd hl (iN_add a n) hn ho k
theorem gi_iand {a b : Int} (z : Int) (hz : iN a &&& iN b = iN z) (hd : decode M.2.1 pc = .ok (.iand, 1)) (k : GG Γ M QF cs h (pc + 1) lv (.int (iN z) :: st)) : GG Γ M QF cs h pc lv (.int (iN b) :: .int (iN a) :: st) := gg_iand hd (by rw [hz]; exact k)
theorem gi_ior {a b : Int} (z : Int) (hz : iN a ||| iN b = iN z) (hd : decode M.2.1 pc = .ok (.ior, 1)) (k : GG Γ M QF cs h (pc + 1) lv (.int (iN z) :: st)) : GG Γ M QF cs h pc lv (.int (iN b) :: .int (iN a) :: st) := gg_ior hd (by rw [hz]; exact k)
theorem gi_ixor {a b : Int} (z : Int) (hz : iN a ^^^ iN b = iN z) (hd : decode M.2.1 pc = .ok (.ixor, 1)) (k : GG Γ M QF cs h (pc + 1) lv (.int (iN z) :: st)) : GG Γ M QF cs h pc lv (.int (iN b) :: .int (iN a) :: st) := gg_ixor hd (by rw [hz]; exact k)
theorem gi_ishl {a b : Int} (z : Int) (hz : iN a <<< (iN b &&& 31) = iN z) (hd : decode M.2.1 pc = .ok (.ishl, 1)) (k : GG Γ M QF cs h (pc + 1) lv (.int (iN z) :: st)) : GG Γ M QF cs h pc lv (.int (iN b) :: .int (iN a) :: st) := gg_ishl hd (by rw [hz]; exact k)
theorem gi_ishr {a b : Int} (z : Int) (hz : iN a >>> (iN b &&& 31) = iN z) (hd : decode M.2.1 pc = .ok (.ishr, 1)) (k : GG Γ M QF cs h (pc + 1) lv (.int (iN z) :: st)) : GG Γ M QF cs h pc lv (.int (iN b) :: .int (iN a) :: st) := gg_ishr hd (by rw [hz]; exact k)
theorem gi_icmp_lt {a b off : Int} {tgt : Nat} (hd : decode M.2.1 pc = .ok (.if_icmp .lt off, 3)) (ht : (pc : Int) + off = (tgt : Int)) (ha : InR a) (hb : InR b) (kt : a < b → GG Γ M QF cs h tgt lv st) (kf : b ≤ a → GG Γ M QF cs h (pc + 3) lv st) : GG Γ M QF cs h pc lv (.int (iN b) :: .int (iN a) :: st) :=
  gg_icmp_lt hd ht (fun q => kt ((iN_lt ha hb).mp q)) (fun q => kf (by rw [iN_lt ha hb] at q; omega))
theorem gi_if_lt {a off : Int} {tgt : Nat} (hd : decode M.2.1 pc = .ok (.ifCond .lt off, 3)) (ht : (pc : Int) + off = (tgt : Int)) (ha : InR a) (kt : a < 0 → GG Γ M QF cs h tgt lv st) (kf : 0 ≤ a → GG Γ M QF cs h (pc + 3) lv st) : GG Γ M QF cs h pc lv (.int (iN a) :: st) :=
  gg_if_lt hd ht (fun q => kt (by rw [← iN_0] at q; revert q; exact fun q => by have := q; rw [iN_lt ha (by omega)] at this; omega)) (fun q => kf (by rw [← iN_0] at q; rw [iN_lt ha (by omega)] at q; omega))
theorem gi_icmp_ge {a b off : Int} {tgt : Nat} (hd : decode M.2.1 pc = .ok (.if_icmp .ge off, 3)) (ht : (pc : Int) + off = (tgt : Int)) (ha : InR a) (hb : InR b) (kt : b ≤ a → GG Γ M QF cs h tgt lv st) (kf : a < b → GG Γ M QF cs h (pc + 3) lv st) : GG Γ M QF cs h pc lv (.int (iN b) :: .int (iN a) :: st) :=
  gg_icmp_ge hd ht (fun q => kt ((iN_le hb ha).mp q)) (fun q => kf (by rw [iN_le hb ha] at q; omega))
theorem gi_if_ge {a off : Int} {tgt : Nat} (hd : decode M.2.1 pc = .ok (.ifCond .ge off, 3)) (ht : (pc : Int) + off = (tgt : Int)) (ha : InR a) (kt : 0 ≤ a → GG Γ M QF cs h tgt lv st) (kf : a < 0 → GG Γ M QF cs h (pc + 3) lv st) : GG Γ M QF cs h pc lv (.int (iN a) :: st) :=
  gg_if_ge hd ht (fun q => kt (by rw [← iN_0] at q; revert q; exact fun q => by have := q; rw [iN_le (by omega) ha] at this; omega)) (fun q => kf (by rw [← iN_0] at q; rw [iN_le (by omega) ha] at q; omega))
theorem gi_icmp_gt {a b off : Int} {tgt : Nat} (hd : decode M.2.1 pc = .ok (.if_icmp .gt off, 3)) (ht : (pc : Int) + off = (tgt : Int)) (ha : InR a) (hb : InR b) (kt : b < a → GG Γ M QF cs h tgt lv st) (kf : a ≤ b → GG Γ M QF cs h (pc + 3) lv st) : GG Γ M QF cs h pc lv (.int (iN b) :: .int (iN a) :: st) :=
  gg_icmp_gt hd ht (fun q => kt ((iN_lt hb ha).mp q)) (fun q => kf (by rw [iN_lt hb ha] at q; omega))
theorem gi_if_gt {a off : Int} {tgt : Nat} (hd : decode M.2.1 pc = .ok (.ifCond .gt off, 3)) (ht : (pc : Int) + off = (tgt : Int)) (ha : InR a) (kt : 0 < a → GG Γ M QF cs h tgt lv st) (kf : a ≤ 0 → GG Γ M QF cs h (pc + 3) lv st) : GG Γ M QF cs h pc lv (.int (iN a) :: st) :=
  gg_if_gt hd ht (fun q => kt (by rw [← iN_0] at q; revert q; exact fun q => by have := q; rw [iN_lt (by omega) ha] at this; omega)) (fun q => kf (by rw [← iN_0] at q; rw [iN_lt (by omega) ha] at q; omega))
theorem gi_icmp_le {a b off : Int} {tgt : Nat} (hd : decode M.2.1 pc = .ok (.if_icmp .le off, 3)) (ht : (pc : Int) + off = (tgt : Int)) (ha : InR a) (hb : InR b) (kt : a ≤ b → GG Γ M QF cs h tgt lv st) (kf : b < a → GG Γ M QF cs h (pc + 3) lv st) : GG Γ M QF cs h pc lv (.int (iN b) :: .int (iN a) :: st) :=
  gg_icmp_le hd ht (fun q => kt ((iN_le ha hb).mp q)) (fun q => kf (by rw [iN_le ha hb] at q; omega))
theorem gi_if_le {a off : Int} {tgt : Nat} (hd : decode M.2.1 pc = .ok (.ifCond .le off, 3)) (ht : (pc : Int) + off = (tgt : Int)) (ha : InR a) (kt : a ≤ 0 → GG Γ M QF cs h tgt lv st) (kf : 0 < a → GG Γ M QF cs h (pc + 3) lv st) : GG Γ M QF cs h pc lv (.int (iN a) :: st) :=
  gg_if_le hd ht (fun q => kt (by rw [← iN_0] at q; revert q; exact fun q => by have := q; rw [iN_le ha (by omega)] at this; omega)) (fun q => kf (by rw [← iN_0] at q; rw [iN_le ha (by omega)] at q; omega))
theorem gi_icmp_eq {a b off : Int} {tgt : Nat} (hd : decode M.2.1 pc = .ok (.if_icmp .eq off, 3)) (ht : (pc : Int) + off = (tgt : Int)) (ha : InR a) (hb : InR b) (kt : a = b → GG Γ M QF cs h tgt lv st) (kf : a ≠ b → GG Γ M QF cs h (pc + 3) lv st) : GG Γ M QF cs h pc lv (.int (iN b) :: .int (iN a) :: st) :=
  gg_icmp_eq hd ht (fun q => kt ((iN_eq ha hb).mp q)) (fun q => kf (fun w => q ((iN_eq ha hb).mpr w)))
theorem gi_icmp_ne {a b off : Int} {tgt : Nat} (hd : decode M.2.1 pc = .ok (.if_icmp .ne off, 3)) (ht : (pc : Int) + off = (tgt : Int)) (ha : InR a) (hb : InR b) (kt : a ≠ b → GG Γ M QF cs h tgt lv st) (kf : a = b → GG Γ M QF cs h (pc + 3) lv st) : GG Γ M QF cs h pc lv (.int (iN b) :: .int (iN a) :: st) :=
  gg_icmp_ne hd ht (fun q => kt (fun w => q ((iN_eq ha hb).mpr w))) (fun q => kf ((iN_eq ha hb).mp q))
theorem gi_if_eq {a off : Int} {tgt : Nat} (hd : decode M.2.1 pc = .ok (.ifCond .eq off, 3)) (ht : (pc : Int) + off = (tgt : Int)) (ha : InR a) (kt : a = 0 → GG Γ M QF cs h tgt lv st) (kf : a ≠ 0 → GG Γ M QF cs h (pc + 3) lv st) : GG Γ M QF cs h pc lv (.int (iN a) :: st) :=
  gg_if_eq hd ht (fun q => kt (by rw [← iN_0] at q; exact (iN_eq ha (by omega)).mp q)) (fun q => kf (fun w => q (by rw [w]; rfl)))
theorem gi_if_ne {a off : Int} {tgt : Nat} (hd : decode M.2.1 pc = .ok (.ifCond .ne off, 3)) (ht : (pc : Int) + off = (tgt : Int)) (ha : InR a) (kt : a ≠ 0 → GG Γ M QF cs h tgt lv st) (kf : a = 0 → GG Γ M QF cs h (pc + 3) lv st) : GG Γ M QF cs h pc lv (.int (iN a) :: st) :=
  gg_if_ne hd ht (fun q => kt (fun w => q (by rw [w]; rfl))) (fun q => kf (by rw [← iN_0] at q; exact (iN_eq ha (by omega)).mp q))
theorem gi_iald {q n : Nat} {f : Int → Int} {i : Int} (hd : decode M.2.1 pc = .ok (.iaload, 1)) (hq : HAt Γ h q (.inl (0, n, ia f))) (hn : n ≤ 2147483647) (hi : 0 ≤ i ∧ i < n) (k : GG Γ M QF cs h (pc + 1) lv (.int (iN (f i)) :: st)) : GG Γ M QF cs h pc lv (.int (iN i) :: .ref q :: st) :=
  gg_iald hd hq (iN_in hi.1 hi.2 hn) (by rw [iN_clamp hi.1 (by omega), Int.toNat_of_nonneg hi.1]; exact k)
theorem gi_cald {q n : Nat} {f : Int → Int} {i : Int} (hd : decode M.2.1 pc = .ok (.caload, 1)) (hq : HAt Γ h q (.inl (1, n, ia f))) (hn : n ≤ 2147483647) (hi : 0 ≤ i ∧ i < n) (k : GG Γ M QF cs h (pc + 1) lv (.int (iN (f i)) :: st)) : GG Γ M QF cs h pc lv (.int (iN i) :: .ref q :: st) :=
  gg_cald hd hq (iN_in hi.1 hi.2 hn) (by rw [iN_clamp hi.1 (by omega), Int.toNat_of_nonneg hi.1]; exact k)
theorem gi_zald {q n : Nat} {f : Int → Int} {i : Int} (hd : decode M.2.1 pc = .ok (.baload, 1)) (hq : HAt Γ h q (.inl (2, n, ia f))) (hn : n ≤ 2147483647) (hi : 0 ≤ i ∧ i < n) (k : GG Γ M QF cs h (pc + 1) lv (.int (iN (f i)) :: st)) : GG Γ M QF cs h pc lv (.int (iN i) :: .ref q :: st) :=
  gg_zald hd hq (iN_in hi.1 hi.2 hn) (by rw [iN_clamp hi.1 (by omega), Int.toNat_of_nonneg hi.1]; exact k)
theorem gi_aald {q n t : Nat} {C : String} {f : Int → Option Nat} {i : Int} (hd : decode M.2.1 pc = .ok (.aaload, 1)) (hq : HAt Γ h q (.inl (t, n, ra f))) (ht : t < 11) (hC : aTy t = .object C) (hn : n ≤ 2147483647) (hi : 0 ≤ i ∧ i < n) (k : GG Γ M QF cs h (pc + 1) lv (va_rf (f i) :: st)) : GG Γ M QF cs h pc lv (.int (iN i) :: .ref q :: st) :=
  gg_aald hd hq ht hC (iN_in hi.1 hi.2 hn) (by rw [iN_clamp hi.1 (by omega), Int.toNat_of_nonneg hi.1]; exact k)
theorem gi_alen {q t n : Nat} {x9 : ((Nat → Int32) ⊕ (Nat → Int64) ⊕ (Nat → UInt32) ⊕ (Nat → UInt64) ⊕ (Nat → Option Nat))} (hd : decode M.2.1 pc = .ok (.arraylength, 1)) (hq : HAt Γ h q (.inl (t, n, x9))) (ht : t < 11) (k : GG Γ M QF cs h (pc + 1) lv (.int (iN (n : Int)) :: st)) : GG Γ M QF cs h pc lv (.ref q :: st) :=
  gg_alen hd hq ht (iN_nI n).symm k
theorem gi_iast {q n : Nat} {f : Int → Int} {i x : Int} {h' : XH} (hd : decode M.2.1 pc = .ok (.iastore, 1)) (hn : n ≤ 2147483647) (hi : 0 ≤ i ∧ i < n) (w : HPut Γ h q (.inl (0, n, ia f)) h' (.inl (0, n, ia (up f i x)))) (k : GG Γ M QF cs h' (pc + 1) lv st) : GG Γ M QF cs h pc lv (.int (iN x) :: .int (iN i) :: .ref q :: st) :=
  gg_iast (f9 := fun j : Nat => iN (f (j : Int))) hd (iN_in hi.1 hi.2 hn) (by rw [ia_up hi.1 (by omega)]; exact w) k
theorem gi_zast {q n : Nat} {f : Int → Int} {i x : Int} {h' : XH} (hd : decode M.2.1 pc = .ok (.bastore, 1)) (hn : n ≤ 2147483647) (hi : 0 ≤ i ∧ i < n) (hx : x = 0 ∨ x = 1) (w : HPut Γ h q (.inl (2, n, ia f)) h' (.inl (2, n, ia (up f i x)))) (k : GG Γ M QF cs h' (pc + 1) lv st) : GG Γ M QF cs h pc lv (.int (iN x) :: .int (iN i) :: .ref q :: st) :=
  gg_zast (f9 := fun j : Nat => iN (f (j : Int))) hd (iN_in hi.1 hi.2 hn) (by rw [vnar_bool hx, ia_up hi.1 (by omega)]; exact w) k
theorem gi_cast {q n : Nat} {f : Int → Int} {i x : Int} {h' : XH} (hd : decode M.2.1 pc = .ok (.castore, 1)) (hn : n ≤ 2147483647) (hi : 0 ≤ i ∧ i < n) (hx : 0 ≤ x ∧ x < 65536) (w : HPut Γ h q (.inl (1, n, ia f)) h' (.inl (1, n, ia (up f i x)))) (k : GG Γ M QF cs h' (pc + 1) lv st) : GG Γ M QF cs h pc lv (.int (iN x) :: .int (iN i) :: .ref q :: st) :=
  gg_cast (f9 := fun j : Nat => iN (f (j : Int))) hd (iN_in hi.1 hi.2 hn) (by rw [vnar_char hx, ia_up hi.1 (by omega)]; exact w) k
theorem gi_aast {q n t ci a : Nat} {r : vw_C} {vs : List Value} {f : Int → Option Nat} {i : Int} {h' : XH} (hd : decode M.2.1 pc = .ok (.aastore, 1)) (hv : HAt Γ h a (.inr (ci, vs))) (hc : vwCl[ci]? = some r) (ht : t < 11) (hC : aTy t = .object r.1) (hn : n ≤ 2147483647) (hi : 0 ≤ i ∧ i < n) (w : HPut Γ h q (.inl (t, n, ra f)) h' (.inl (t, n, ra (up f i (some a))))) (k : GG Γ M QF cs h' (pc + 1) lv st) : GG Γ M QF cs h pc lv (.ref a :: .int (iN i) :: .ref q :: st) :=
  gg_aast (f9 := fun j : Nat => f (j : Int)) hd hv hc ht hC (iN_in hi.1 hi.2 hn) (by rw [ra_up hi.1 (by omega)]; exact w) k
theorem gi_aastN {q n t : Nat} {C : String} {f : Int → Option Nat} {i : Int} {h' : XH} (hd : decode M.2.1 pc = .ok (.aastore, 1)) (ht : t < 11) (hC : aTy t = .object C) (hn : n ≤ 2147483647) (hi : 0 ≤ i ∧ i < n) (w : HPut Γ h q (.inl (t, n, ra f)) h' (.inl (t, n, ra (up f i none)))) (k : GG Γ M QF cs h' (pc + 1) lv st) : GG Γ M QF cs h pc lv (.null :: .int (iN i) :: .ref q :: st) :=
  gg_aastN (f9 := fun j : Nat => f (j : Int)) hd ht hC (iN_in hi.1 hi.2 hn) (by rw [ra_up hi.1 (by omega)]; exact w) k
theorem gi_i2c {z : Int} (hd : decode M.2.1 pc = .ok (.i2c, 1)) (hz : 0 ≤ z ∧ z < 65536) (k : GG Γ M QF cs h (pc + 1) lv (.int (iN z) :: st)) : GG Γ M QF cs h pc lv (.int (iN z) :: st) :=
  gg_i2c hd (by
    obtain ⟨n, rfl⟩ := Int.eq_ofNat_of_zero_le hz.1
    rw [pk_char, iN_nI, pk_tn (by omega), Nat.mod_eq_of_lt (by omega), ← iN_nI]
    exact k)
theorem gi_tab {dflt lo hi : Int} {offs : Array Int} {len : Nat} {z off : Int} {tgt : Nat} (hd : decode M.2.1 pc = .ok (.tableswitch dflt lo hi offs, len)) (hz : InR z) (h1 : lo ≤ z) (h2 : z ≤ hi) (ho : offs[(z - lo).toNat]? = some off) (ht : (pc : Int) + off = (tgt : Int)) (k : GG Γ M QF cs h tgt lv st) : GG Γ M QF cs h pc lv (.int (iN z) :: st) :=
  gg_tabIn hd (by rw [iN_toInt hz.1 hz.2]; omega) (by rw [iN_toInt hz.1 hz.2]; omega) (by rw [iN_toInt hz.1 hz.2]; exact ho) ht k
theorem gi_tabD {dflt lo hi : Int} {offs : Array Int} {len : Nat} {z : Int} {tgt : Nat} (hd : decode M.2.1 pc = .ok (.tableswitch dflt lo hi offs, len)) (hz : InR z) (h1 : z < lo ∨ hi < z) (ht : (pc : Int) + dflt = (tgt : Int)) (k : GG Γ M QF cs h tgt lv st) : GG Γ M QF cs h pc lv (.int (iN z) :: st) :=
  gg_tabOut hd (by rw [iN_toInt hz.1 hz.2]; exact h1) ht k
theorem gg_conv {h2 : XH} {lv2 : List (Option Value)} {st2 : List Value} (k : GG Γ M QF cs h2 pc lv2 st2) (e1 : h2 = h) (e2 : lv2 = lv) (e3 : st2 = st) : GG Γ M QF cs h pc lv st := by
  subst e1; subst e2; subst e3; exact k
theorem gg_drop (k9 : Nat) (k : GG Γ M QF cs h pc (lset lv k9 none) st) : GG Γ M QF cs h pc lv st :=
  gg_sub (fun i v q => by
    rw [lget_set] at q
    by_cases e : k9 = i
    · rw [if_pos e] at q
      split at q <;> cases q
    · rw [if_neg e] at q; exact q) k
theorem gi_ldc {own : String} {index : Nat} {v : Int32} {z : Int} (hv : v = iN z) (hc : Cond.constant own index v ∈ WA) (hM : M.1.cls = own) (hd : decode M.2.1 pc = .ok (.ldc index, 2)) (k : GG Γ M QF cs h (pc + 2) lv (.int (iN z) :: st)) : GG Γ M QF cs h pc lv st := by
  subst hv
  exact fun p e s m args below meth c H locs ls X R z f L => lv_ldc X.x X.b (by rw [← hM]; exact X.own) (X.ts _ hc) hd (k p e s m args below meth c H locs ls X R z f L)
theorem iN_max {a b : Int} (ha : InR a) (hb : InR b) : (if iN a < iN b then iN b else iN a) = iN (max a b) := by
  by_cases h : a < b
  · rw [if_pos ((iN_lt ha hb).mpr h), Int.max_eq_right (by omega)]
  · rw [if_neg (fun q => h ((iN_lt ha hb).mp q)), Int.max_eq_left (by omega)]
theorem iN_min {a b : Int} (ha : InR a) (hb : InR b) : (if iN b < iN a then iN b else iN a) = iN (min a b) := by
  by_cases h : b < a
  · rw [if_pos ((iN_lt hb ha).mpr h), Int.min_eq_right (by omega)]
  · rw [if_neg (fun q => h ((iN_lt hb ha).mp q)), Int.min_eq_left (by omega)]
theorem iN_abs {a : Int} (ha : InR a) : (if 0 ≤ iN a then iN a else -iN a) = iN (if 0 ≤ a then a else -a) := by
  by_cases h : 0 ≤ a
  · rw [if_pos (by rw [← iN_0, iN_le (by omega) ha]; exact h), if_pos h]
  · rw [if_neg (by rw [← iN_0, iN_le (by omega) ha]; exact h), if_neg h, iN_neg]
end RowsI
