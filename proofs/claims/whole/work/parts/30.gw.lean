/-! the class: its world: G its ints and references by number, B its rows by the number of the cell -/
def gl9 (j : Nat) : Nat := if 62 ≤ j ∧ j ≤ 65 then 40 else match j with
  | 33 => 20
  | 34 => 20
  | 35 => 10
  | 36 => 10
  | 37 => 11
  | 42 => 12
  | 43 => 12
  | 51 => 12
  | 52 => 72
  | 61 => 19
  | _ => 0
def rfo (x : Int) : Option Nat := if x < 0 then none else some x.toNat
theorem rfo_some (q : Nat) : rfo (q : Int) = some q := by unfold rfo; rw [if_neg (by omega)]; rfl
theorem rfo_none {x : Int} (h : x < 0) : rfo x = none := if_pos h
def vO (Γ : GT) (G : Nat → Int) : List Value := [.ref (g_L Γ 40), .ref (g_L Γ 31), .ref (g_L Γ (100 + 11 * 9)), .ref (g_L Γ 50), .ref (g_L Γ 60), .ref (g_L Γ 32), .ref (g_L Γ 33), .ref (g_L Γ 34), .ref (g_L Γ 35), .ref (g_L Γ 36), .ref (g_L Γ 37), .ref (g_L Γ (100 + 11 * (G 0).toNat)), .int (iN (G 1)), .int (iN (G 2))]
def inO (Γ : GT) (G : Nat → Int) : List Value := [.ref (g_L Γ 41), .ref (g_L Γ 42), .ref (g_L Γ 43), .int (iN (G 3)), .int (iN (G 4)), .int (iN (G 5))]
def rdO (Γ : GT) (G : Nat → Int) : List Value := [.int (iN (G 6)), .int (iN (G 7)), .int (iN (G 8)), .int (iN (G 9)), .int (iN (G 10)), .int (iN (G 11)), .ref (g_L Γ 51), .ref (g_L Γ 52)]
def scO (Γ : GT) (G : Nat → Int) : List Value := [.ref (g_L Γ 50), .ref (g_L Γ 61), .ref (g_L Γ (62 + (G 12).toNat)), .ref (g_L Γ (62 + (G 13).toNat)), .ref (g_L Γ (62 + (G 14).toNat)), .ref (g_L Γ (62 + (G 15).toNat)), .ref (G 16).toNat, .int (iN (G 17)), .int (iN (G 18))]
def stO (Γ : GT) (G : Nat → Int) (b : Nat) : List Value := [.ref (G (100 + 10 * b)).toNat, .int (iN (G (101 + 10 * b))), .ref (g_L Γ (101 + 11 * b)), .int (iN (G (102 + 10 * b))), .ref (g_L Γ (110 + 11 * b))]
def drO (Γ : GT) (G : Nat → Int) (b d : Nat) : List Value := [.ref (g_L Γ (106 + 11 * b + d)), .int (iN (G (103 + 10 * b + d)))]
def gbun (Γ : GT) (G : Nat → Int) (f : Int → Int) (b : Nat) (j : Nat) : XE := match j with
  | 0 => .inr (9, stO Γ G b)
  | 1 => .inl (7, 4, ra (fun d => some (g_L Γ (102 + 11 * b + d.toNat))))
  | 2 => .inr (2, drO Γ G b 0)
  | 3 => .inr (2, drO Γ G b 1)
  | 4 => .inr (2, drO Γ G b 2)
  | 5 => .inr (2, drO Γ G b 3)
  | 10 => .inl (9, 8, ra (fun i => rfo (f i)))
  | _ => .inl (5, 10, ra (fun i => rfo (f i)))
def gcell (Γ : GT) (G : Nat → Int) (f : Int → Int) (i : Nat) : Option XE :=
  if 0 < gl9 i then some (.inl (0, gl9 i, ia f))
  else if 100 ≤ i ∧ i ≤ 209 then some (gbun Γ G f ((i - 100) / 11) ((i - 100) % 11))
  else match i with
  | 30 => some (.inr (11, vO Γ G))
  | 31 => some (.inl (8, 8, ra (fun i => some (g_L Γ (100 + 11 * (f i).toNat)))))
  | 32 => some (.inl (10, 20, ra (fun i => rfo (f i))))
  | 40 => some (.inr (3, inO Γ G))
  | 41 => some (.inl (1, 60, ia f))
  | 50 => some (.inr (7, rdO Γ G))
  | 60 => some (.inr (8, scO Γ G))
  | _ => none
/-- the heap h with the class's world in it -/
def gst (Γ : GT) (h : XH) (G : Nat → Int) (B : Nat → Int → Int) : XH := (fun i => match gcell Γ G (B i) i with
  | some e => some e
  | none => h.1 i, h.2)
section GW
variable {Γ : GT} {h : XH} {G G' : Nat → Int} {B : Nat → Int → Int}
theorem gst_2 : (gst Γ h G B).2 = h.2 := rfl
theorem gst_c {i : Nat} {e : XE} (q : gcell Γ G (B i) i = some e) : (gst Γ h G B).1 i = some e := by unfold gst; dsimp only; rw [q]
theorem gst_i {j : Nat} (hj : 0 < gl9 j) : (gst Γ h G B).1 j = some (.inl (0, gl9 j, ia (B j))) := gst_c (if_pos hj)
theorem gl9_b {i : Nat} (hi : 100 ≤ i) : gl9 i = 0 := by
  unfold gl9
  rw [if_neg (by omega)]
  split <;> omega
theorem gcell_b {f : Int → Int} {b j : Nat} (hb : b ≤ 9) (hj : j ≤ 10) : gcell Γ G f (100 + 11 * b + j) = some (gbun Γ G f b j) := by
  unfold gcell
  rw [gl9_b (by omega), if_neg (by omega), if_pos (by omega), show (100 + 11 * b + j - 100) / 11 = b by omega, show (100 + 11 * b + j - 100) % 11 = j by omega]
theorem gst_30 : (gst Γ h G B).1 30 = some (.inr (11, vO Γ G)) := gst_c rfl
theorem gst_31 : (gst Γ h G B).1 31 = some (.inl (8, 8, ra (fun i => some (g_L Γ (100 + 11 * (B 31 i).toNat))))) := gst_c rfl
theorem gst_32 : (gst Γ h G B).1 32 = some (.inl (10, 20, ra (fun i => rfo (B 32 i)))) := gst_c rfl
theorem gst_40 : (gst Γ h G B).1 40 = some (.inr (3, inO Γ G)) := gst_c rfl
theorem gst_41 : (gst Γ h G B).1 41 = some (.inl (1, 60, ia (B 41))) := gst_c rfl
theorem gst_50 : (gst Γ h G B).1 50 = some (.inr (7, rdO Γ G)) := gst_c rfl
theorem gst_60 : (gst Γ h G B).1 60 = some (.inr (8, scO Γ G)) := gst_c rfl
theorem gst_st {b : Nat} (hb : b ≤ 9) : (gst Γ h G B).1 (100 + 11 * b) = some (.inr (9, stO Γ G b)) := gst_c (gcell_b (j := 0) hb (by omega))
theorem gst_ds {b : Nat} (hb : b ≤ 9) : (gst Γ h G B).1 (101 + 11 * b) = some (.inl (7, 4, ra (fun d => some (g_L Γ (102 + 11 * b + d.toNat))))) := by
  rw [show 101 + 11 * b = 100 + 11 * b + 1 by omega]
  exact gst_c (gcell_b hb (by omega))
theorem gst_dr {b d : Nat} (hb : b ≤ 9) (hd : d ≤ 3) : (gst Γ h G B).1 (102 + 11 * b + d) = some (.inr (2, drO Γ G b d)) := by
  have e : gcell Γ G (B (102 + 11 * b + d)) (100 + 11 * b + (2 + d)) = some (.inr (2, drO Γ G b d)) := by
    rw [gcell_b hb (by omega)]
    match d, hd with
    | 0, _ => rfl
    | 1, _ => rfl
    | 2, _ => rfl
    | 3, _ => rfl
  rw [show 100 + 11 * b + (2 + d) = 102 + 11 * b + d by omega] at e
  exact gst_c e
theorem gst_ls {b d : Nat} (hb : b ≤ 9) (hd : d ≤ 3) : (gst Γ h G B).1 (106 + 11 * b + d) = some (.inl (5, 10, ra (fun i => rfo (B (106 + 11 * b + d) i)))) := by
  have e : gcell Γ G (B (106 + 11 * b + d)) (100 + 11 * b + (6 + d)) = some (.inl (5, 10, ra (fun i => rfo (B (106 + 11 * b + d) i)))) := by
    rw [gcell_b hb (by omega)]
    match d, hd with
    | 0, _ => rfl
    | 1, _ => rfl
    | 2, _ => rfl
    | 3, _ => rfl
  rw [show 100 + 11 * b + (6 + d) = 106 + 11 * b + d by omega] at e
  exact gst_c e
theorem gst_mk {b : Nat} (hb : b ≤ 9) : (gst Γ h G B).1 (110 + 11 * b) = some (.inl (9, 8, ra (fun i => rfo (B (110 + 11 * b) i)))) := by
  rw [show 110 + 11 * b = 100 + 11 * b + 10 by omega]
  exact gst_c (gcell_b hb (by omega))
/-- one cell written -/
theorem gst_up {i : Nat} {e : XE} {B' : Nat → Int → Int} (q : gcell Γ G' (B' i) i = some e) (o : ∀ k, k ≠ i → gcell Γ G' (B' k) k = gcell Γ G (B k) k) : (upX (gst Γ h G B).1 i e, (gst Γ h G B).2) = gst Γ h G' B' := by
  refine Prod.ext (funext fun k => ?_) rfl
  show upX (gst Γ h G B).1 i e k = (gst Γ h G' B').1 k
  by_cases w : k = i
  · subst w
    rw [upX_s]
    exact (gst_c q).symm
  · rw [upX_n w]
    unfold gst
    dsimp only
    rw [o k w]
theorem gst_putA {i : Nat} {e : XE} {f : Int → Int} (q : gcell Γ G f i = some e) : (upX (gst Γ h G B).1 i e, (gst Γ h G B).2) = gst Γ h G (uA B i f) :=
  gst_up (by rw [uA_s]; exact q) (fun k hk => by rw [uA_n hk])
theorem gbun_cg {f : Int → Int} {b j : Nat} (h5 : stO Γ G b = stO Γ G' b) (h6 : ∀ d, d ≤ 3 → drO Γ G b d = drO Γ G' b d) : gbun Γ G f b j = gbun Γ G' f b j := by
  unfold gbun
  split
  · rw [h5]
  · rfl
  · rw [h6 0 (by omega)]
  · rw [h6 1 (by omega)]
  · rw [h6 2 (by omega)]
  · rw [h6 3 (by omega)]
  · rfl
  · rfl
theorem gbun_cs {f : Int → Int} {b j : Nat} (hj : j ≠ 0) (h6 : ∀ d, d ≤ 3 → j ≠ 2 + d → drO Γ G b d = drO Γ G' b d) (h7 : ∀ d, d ≤ 3 → j = 2 + d → drO Γ G b d = drO Γ G' b d) : gbun Γ G f b j = gbun Γ G' f b j := by
  unfold gbun
  split
  · exact absurd rfl hj
  · rfl
  · rw [h7 0 (by omega) rfl]
  · rw [h7 1 (by omega) rfl]
  · rw [h7 2 (by omega) rfl]
  · rw [h7 3 (by omega) rfl]
  · rfl
  · rfl
theorem gcell_cg {f : Int → Int} {i : Nat} (h1 : i ≠ 30 → True) (e1 : i = 30 → vO Γ G = vO Γ G') (e2 : i = 40 → inO Γ G = inO Γ G') (e3 : i = 50 → rdO Γ G = rdO Γ G') (e4 : i = 60 → scO Γ G = scO Γ G') (e5 : ∀ b, b ≤ 9 → i = 100 + 11 * b → stO Γ G b = stO Γ G' b) (e6 : ∀ b d, b ≤ 9 → d ≤ 3 → i = 102 + 11 * b + d → drO Γ G b d = drO Γ G' b d) : gcell Γ G f i = gcell Γ G' f i := by
  unfold gcell
  by_cases q1 : 0 < gl9 i
  · rw [if_pos q1, if_pos q1]
  · rw [if_neg q1, if_neg q1]
    by_cases q2 : 100 ≤ i ∧ i ≤ 209
    · rw [if_pos q2, if_pos q2]
      congr 1
      unfold gbun
      split
      · rename_i w; rw [e5 ((i - 100) / 11) (by omega) (by omega)]
      · rfl
      · rename_i w; rw [e6 ((i - 100) / 11) 0 (by omega) (by omega) (by omega)]
      · rename_i w; rw [e6 ((i - 100) / 11) 1 (by omega) (by omega) (by omega)]
      · rename_i w; rw [e6 ((i - 100) / 11) 2 (by omega) (by omega) (by omega)]
      · rename_i w; rw [e6 ((i - 100) / 11) 3 (by omega) (by omega) (by omega)]
      · rfl
      · rfl
    · rw [if_neg q2, if_neg q2]
      split
      · rw [e1 rfl]
      · rfl
      · rfl
      · rw [e2 rfl]
      · rfl
      · rw [e3 rfl]
      · rw [e4 rfl]
      · rfl
theorem gst_putF {i k : Nat} {x : Int} {e : XE} (q : gcell Γ (uF G k x) (B i) i = some e) (hk : (k ≤ 2 ∧ i = 30) ∨ (3 ≤ k ∧ k ≤ 5 ∧ i = 40) ∨ (6 ≤ k ∧ k ≤ 11 ∧ i = 50) ∨ (12 ≤ k ∧ k ≤ 18 ∧ i = 60) ∨ (∃ b, b ≤ 9 ∧ i = 100 + 11 * b ∧ 100 + 10 * b ≤ k ∧ k ≤ 102 + 10 * b) ∨ (∃ b d, b ≤ 9 ∧ d ≤ 3 ∧ i = 102 + 11 * b + d ∧ k = 103 + 10 * b + d)) : (upX (gst Γ h G B).1 i e, (gst Γ h G B).2) = gst Γ h (uF G k x) B := by
  refine gst_up q (fun j hj => ?_)
  have n1 : ∀ y, y ≠ k → uF G k x y = G y := fun y hy => uF_n hy
  rcases hk with hk | hk | hk | hk | ⟨b9, hk⟩ | ⟨b9, d9, hk⟩
  all_goals refine gcell_cg (fun _ => trivial) (fun w => ?_) (fun w => ?_) (fun w => ?_) (fun w => ?_) (fun b hb w => ?_) (fun b d hb hd w => ?_)
  all_goals first
    | (unfold vO; rw [n1 0 (by omega), n1 1 (by omega), n1 2 (by omega)]; done)
    | (unfold inO; rw [n1 3 (by omega), n1 4 (by omega), n1 5 (by omega)]; done)
    | (unfold rdO; rw [n1 6 (by omega), n1 7 (by omega), n1 8 (by omega), n1 9 (by omega), n1 10 (by omega), n1 11 (by omega)]; done)
    | (unfold scO; rw [n1 12 (by omega), n1 13 (by omega), n1 14 (by omega), n1 15 (by omega), n1 16 (by omega), n1 17 (by omega), n1 18 (by omega)]; done)
    | (unfold stO; rw [n1 (100 + 10 * b) (by omega), n1 (101 + 10 * b) (by omega), n1 (102 + 10 * b) (by omega)]; done)
    | (unfold drO; rw [n1 (103 + 10 * b + d) (by omega)]; done)
theorem uF_at {F : Nat → Int} {k j : Nat} {x : Int} (q : j = k) : uF F k x j = x := by rw [q]; exact uF_s
end GW
section RowsG
variable {Γ : GT} {M : MT} {QF : List Frame → Array Value → State → State → Prop} {cs : Nat × Nat} {h : XH} {pc : Nat} {lv : List (Option Value)} {st : List Value} {G : Nat → Int} {B : Nat → Int → Int}
theorem gk_iald {j : Nat} {i : Int} (hd : decode M.2.1 pc = .ok (.iaload, 1)) (hj : 0 < gl9 j) (hn : gl9 j ≤ 72) (hi : 0 ≤ i ∧ i < gl9 j) {v : Int} (hv : B j i = v) (k : GG Γ M QF cs (gst Γ h G B) (pc + 1) lv (.int (iN v) :: st)) : GG Γ M QF cs (gst Γ h G B) pc lv (.int (iN i) :: .ref (g_L Γ j) :: st) :=
  gi_iald hd (HAt.mu (gst_i hj)) (by omega) hi (by rw [hv]; exact k)
theorem gk_iast {j : Nat} {i x : Int} (hd : decode M.2.1 pc = .ok (.iastore, 1)) (hj : 0 < gl9 j) (hn : gl9 j ≤ 72) (hi : 0 ≤ i ∧ i < gl9 j) {B' : Nat → Int → Int} (hB : uA B j (up (B j) i x) = B') (k : GG Γ M QF cs (gst Γ h G B') (pc + 1) lv st) : GG Γ M QF cs (gst Γ h G B) pc lv (.int (iN x) :: .int (iN i) :: .ref (g_L Γ j) :: st) := by
  refine gi_iast (f := B j) (n := gl9 j) hd (by omega) hi (HPut.mu (gst_i hj)) ?_
  rw [← hB, ← gst_putA (e := .inl (0, gl9 j, ia (up (B j) i x))) (if_pos hj)] at k
  exact k
theorem gk_cald {i : Int} (hd : decode M.2.1 pc = .ok (.caload, 1)) (hi : 0 ≤ i ∧ i < 60) {v : Int} (hv : B 41 i = v) (k : GG Γ M QF cs (gst Γ h G B) (pc + 1) lv (.int (iN v) :: st)) : GG Γ M QF cs (gst Γ h G B) pc lv (.int (iN i) :: .ref (g_L Γ 41) :: st) :=
  gi_cald hd (HAt.mu gst_41) (by decide) hi (by rw [hv]; exact k)
theorem gk_cast {i x : Int} (hd : decode M.2.1 pc = .ok (.castore, 1)) (hi : 0 ≤ i ∧ i < 60) (hx : 0 ≤ x ∧ x < 65536) {B' : Nat → Int → Int} (hB : uA B 41 (up (B 41) i x) = B') (k : GG Γ M QF cs (gst Γ h G B') (pc + 1) lv st) : GG Γ M QF cs (gst Γ h G B) pc lv (.int (iN x) :: .int (iN i) :: .ref (g_L Γ 41) :: st) := by
  refine gi_cast (f := B 41) (n := 60) hd (by decide) hi hx (HPut.mu gst_41) ?_
  rw [← hB, ← gst_putA (i := 41) (e := .inl (1, 60, ia (up (B 41) i x))) rfl] at k
  exact k
theorem gk_ald31 {i : Int} {b : Nat} (hd : decode M.2.1 pc = .ok (.aaload, 1)) (hi : 0 ≤ i ∧ i < 8) (hv : B 31 i = (b : Int)) (k : GG Γ M QF cs (gst Γ h G B) (pc + 1) lv (.ref (g_L Γ (100 + 11 * b)) :: st)) : GG Γ M QF cs (gst Γ h G B) pc lv (.int (iN i) :: .ref (g_L Γ 31) :: st) :=
  gi_aald hd (HAt.mu gst_31) (by decide) rfl (by decide) hi (by rw [hv]; exact k)
theorem gk_ald32 {i : Int} {q : Nat} (hd : decode M.2.1 pc = .ok (.aaload, 1)) (hi : 0 ≤ i ∧ i < 20) (hv : B 32 i = (q : Int)) (k : GG Γ M QF cs (gst Γ h G B) (pc + 1) lv (.ref q :: st)) : GG Γ M QF cs (gst Γ h G B) pc lv (.int (iN i) :: .ref (g_L Γ 32) :: st) :=
  gi_aald hd (HAt.mu gst_32) (by decide) rfl (by decide) hi (by rw [hv, rfo_some]; exact k)
theorem gk_aldD {b d : Nat} {i : Int} (hb : b ≤ 9) (hi : i = (d : Int)) (hdd : d ≤ 3) (hd : decode M.2.1 pc = .ok (.aaload, 1)) (k : GG Γ M QF cs (gst Γ h G B) (pc + 1) lv (.ref (g_L Γ (102 + 11 * b + d)) :: st)) : GG Γ M QF cs (gst Γ h G B) pc lv (.int (iN i) :: .ref (g_L Γ (101 + 11 * b)) :: st) :=
  gi_aald hd (HAt.mu (gst_ds hb)) (by decide) rfl (by decide) ⟨by omega, by omega⟩ (by subst hi; exact k)
theorem gk_aldL {b d : Nat} {i : Int} (hb : b ≤ 9) (hdd : d ≤ 3) (hd : decode M.2.1 pc = .ok (.aaload, 1)) (hi : 0 ≤ i ∧ i < 10) {v : Value} (hv : va_rf (rfo (B (106 + 11 * b + d) i)) = v) (k : GG Γ M QF cs (gst Γ h G B) (pc + 1) lv (v :: st)) : GG Γ M QF cs (gst Γ h G B) pc lv (.int (iN i) :: .ref (g_L Γ (106 + 11 * b + d)) :: st) :=
  gi_aald hd (HAt.mu (gst_ls hb hdd)) (by decide) rfl (by decide) hi (by rw [hv]; exact k)
theorem gk_aldM {b : Nat} {i : Int} (hb : b ≤ 9) (hd : decode M.2.1 pc = .ok (.aaload, 1)) (hi : 0 ≤ i ∧ i < 8) {v : Value} (hv : va_rf (rfo (B (110 + 11 * b) i)) = v) (k : GG Γ M QF cs (gst Γ h G B) (pc + 1) lv (v :: st)) : GG Γ M QF cs (gst Γ h G B) pc lv (.int (iN i) :: .ref (g_L Γ (110 + 11 * b)) :: st) :=
  gi_aald hd (HAt.mu (gst_mk hb)) (by decide) rfl (by decide) hi (by rw [hv]; exact k)
theorem rfo_up {f : Int → Int} {i y : Int} {x : Option Nat} (hx : rfo y = x) : (fun k => rfo (up f i y k)) = up (fun k => rfo (f k)) i x := by
  funext k
  unfold up
  split
  · exact hx
  · rfl

theorem gk_ast31 {i : Int} {b : Nat} (hb : b ≤ 9) (hd : decode M.2.1 pc = .ok (.aastore, 1)) (hi : 0 ≤ i ∧ i < 8) {B' : Nat → Int → Int} (hB : uA B 31 (up (B 31) i (b : Int)) = B') (k : GG Γ M QF cs (gst Γ h G B') (pc + 1) lv st) : GG Γ M QF cs (gst Γ h G B) pc lv (.ref (g_L Γ (100 + 11 * b)) :: .int (iN i) :: .ref (g_L Γ 31) :: st) := by
  refine gi_aast (n := 8) hd (HAt.mu (gst_st hb)) rfl (by decide) rfl (by decide) hi (HPut.mu gst_31) ?_
  have e : (fun k : Int => some (g_L Γ (100 + 11 * (up (B 31) i (b : Int) k).toNat))) = up (fun k : Int => some (g_L Γ (100 + 11 * (B 31 k).toNat))) i (some (g_L Γ (100 + 11 * b))) := by
    funext k; unfold up; split <;> rfl
  rw [← hB, ← gst_putA (i := 31) (e := .inl (8, 8, ra (fun k : Int => some (g_L Γ (100 + 11 * (up (B 31) i (b : Int) k).toNat))))) rfl, e] at k
  exact k
theorem gk_astL {b d q : Nat} {i : Int} {vs : List Value} (hb : b ≤ 9) (hdd : d ≤ 3) (hd : decode M.2.1 pc = .ok (.aastore, 1)) (hq : h.2 q = some (.inr (4, vs))) (hi : 0 ≤ i ∧ i < 10) {B' : Nat → Int → Int} (hB : uA B (106 + 11 * b + d) (up (B (106 + 11 * b + d)) i (q : Int)) = B') (k : GG Γ M QF cs (gst Γ h G B') (pc + 1) lv st) : GG Γ M QF cs (gst Γ h G B) pc lv (.ref q :: .int (iN i) :: .ref (g_L Γ (106 + 11 * b + d)) :: st) := by
  refine gi_aast (n := 10) hd (HAt.io (h := gst Γ h G B) hq) rfl (by decide) rfl (by decide) hi (HPut.mu (gst_ls hb hdd)) ?_
  rw [← hB, ← gst_putA (i := 106 + 11 * b + d) (e := .inl (5, 10, ra (fun k : Int => rfo (up (B (106 + 11 * b + d)) i (q : Int) k)))) ?_, rfo_up (rfo_some q)] at k
  · exact k
  · rw [show 106 + 11 * b + d = 100 + 11 * b + (6 + d) by omega, gcell_b hb (by omega)]
    match d, hdd with
    | 0, _ => rfl
    | 1, _ => rfl
    | 2, _ => rfl
    | 3, _ => rfl
theorem gk_astLN {b d : Nat} {i x : Int} (hx : x < 0) (hb : b ≤ 9) (hdd : d ≤ 3) (hd : decode M.2.1 pc = .ok (.aastore, 1)) (hi : 0 ≤ i ∧ i < 10) {B' : Nat → Int → Int} (hB : uA B (106 + 11 * b + d) (up (B (106 + 11 * b + d)) i x) = B') (k : GG Γ M QF cs (gst Γ h G B') (pc + 1) lv st) : GG Γ M QF cs (gst Γ h G B) pc lv (.null :: .int (iN i) :: .ref (g_L Γ (106 + 11 * b + d)) :: st) := by
  refine gi_aastN (n := 10) hd (by decide) rfl (by decide) hi (HPut.mu (gst_ls hb hdd)) ?_
  rw [← hB, ← gst_putA (i := 106 + 11 * b + d) (e := .inl (5, 10, ra (fun k : Int => rfo (up (B (106 + 11 * b + d)) i x k)))) ?_, rfo_up (rfo_none hx)] at k
  · exact k
  · rw [show 106 + 11 * b + d = 100 + 11 * b + (6 + d) by omega, gcell_b hb (by omega)]
    match d, hdd with
    | 0, _ => rfl
    | 1, _ => rfl
    | 2, _ => rfl
    | 3, _ => rfl
theorem gk_astM {b q : Nat} {i : Int} {vs : List Value} (hb : b ≤ 9) (hd : decode M.2.1 pc = .ok (.aastore, 1)) (hq : h.2 q = some (.inr (5, vs))) (hi : 0 ≤ i ∧ i < 8) {B' : Nat → Int → Int} (hB : uA B (110 + 11 * b) (up (B (110 + 11 * b)) i (q : Int)) = B') (k : GG Γ M QF cs (gst Γ h G B') (pc + 1) lv st) : GG Γ M QF cs (gst Γ h G B) pc lv (.ref q :: .int (iN i) :: .ref (g_L Γ (110 + 11 * b)) :: st) := by
  refine gi_aast (n := 8) hd (HAt.io (h := gst Γ h G B) hq) rfl (by decide) rfl (by decide) hi (HPut.mu (gst_mk hb)) ?_
  rw [← hB, ← gst_putA (i := 110 + 11 * b) (e := .inl (9, 8, ra (fun k : Int => rfo (up (B (110 + 11 * b)) i (q : Int) k)))) ?_, rfo_up (rfo_some q)] at k
  · exact k
  · rw [show 110 + 11 * b = 100 + 11 * b + 10 by omega, gcell_b hb (by omega)]; rfl
theorem gk_astMN {b : Nat} {i x : Int} (hx : x < 0) (hb : b ≤ 9) (hd : decode M.2.1 pc = .ok (.aastore, 1)) (hi : 0 ≤ i ∧ i < 8) {B' : Nat → Int → Int} (hB : uA B (110 + 11 * b) (up (B (110 + 11 * b)) i x) = B') (k : GG Γ M QF cs (gst Γ h G B') (pc + 1) lv st) : GG Γ M QF cs (gst Γ h G B) pc lv (.null :: .int (iN i) :: .ref (g_L Γ (110 + 11 * b)) :: st) := by
  refine gi_aastN (n := 8) hd (by decide) rfl (by decide) hi (HPut.mu (gst_mk hb)) ?_
  rw [← hB, ← gst_putA (i := 110 + 11 * b) (e := .inl (9, 8, ra (fun k : Int => rfo (up (B (110 + 11 * b)) i x k)))) ?_, rfo_up (rfo_none hx)] at k
  · exact k
  · rw [show 110 + 11 * b = 100 + 11 * b + 10 by omega, gcell_b hb (by omega)]; rfl

theorem gk_putX0_17 {x : Int} {b d : Nat} (hb : b ≤ 9) (hdd : d ≤ 3) (hM : M.1.cls = RX0) (hd : decode M.2.1 pc = .ok (.putfield 17, 3)) {G' : Nat → Int} (hF : uF G (103 + 10 * b + d) x = G') (kk : GG Γ M QF cs (gst Γ h G' B) (pc + 3) lv st) : GG Γ M QF cs (gst Γ h G B) pc lv (.int (iN x) :: .ref (g_L Γ (102 + 11 * b + d)) :: st) := by
  refine gp_X0_17 hM hd (Nat.le_of_ble_eq_true rfl) rfl rfl (HPut.mu (gst_dr hb hdd)) ?_
  subst hF
  have n1 : ∀ y, y ≠ (103 + 10 * b + d) → uF G (103 + 10 * b + d) x y = G y := fun y hy => uF_n hy
  have eo : (drO Γ G b d).set 1 (.int (iN x)) = drO Γ (uF G (103 + 10 * b + d) x) b d := by
    unfold drO
    rw [uF_s]
    rfl
  rw [eo, gst_putF (i := (102 + 11 * b + d)) (k := (103 + 10 * b + d)) (x := x) (e := .inr (2, drO Γ (uF G (103 + 10 * b + d) x) b d)) (by have := gcell_b (Γ := Γ) (G := uF G (103 + 10 * b + d) x) (f := B (102 + 11 * b + d)) (j := 2 + d) hb (by omega); rw [show 100 + 11 * b + (2 + d) = 102 + 11 * b + d by omega] at this; rw [this]; exact congrArg some (match d, hdd with | 0, _ => rfl | 1, _ => rfl | 2, _ => rfl | 3, _ => rfl)) (Or.inr (Or.inr (Or.inr (Or.inr (Or.inr ⟨b, d, hb, hdd, rfl, rfl⟩)))))]
  exact kk
theorem gk_getX0_17 {x : Int} {b d : Nat} (hb : b ≤ 9) (hdd : d ≤ 3) (hM : M.1.cls = RX0) (hd : decode M.2.1 pc = .ok (.getfield 17, 3)) (hx : G (103 + 10 * b + d) = x) (kk : GG Γ M QF cs (gst Γ h G B) (pc + 3) lv (.int (iN x) :: st)) : GG Γ M QF cs (gst Γ h G B) pc lv (.ref (g_L Γ (102 + 11 * b + d)) :: st) :=
  gf_X0_17 hM hd (HAt.mu (gst_dr hb hdd)) rfl (by rw [hx]; exact kk)
theorem gk_getX0_11 {b d : Nat} (hb : b ≤ 9) (hdd : d ≤ 3) (hM : M.1.cls = RX0) (hd : decode M.2.1 pc = .ok (.getfield 11, 3)) (kk : GG Γ M QF cs (gst Γ h G B) (pc + 3) lv (.ref (g_L Γ (106 + 11 * b + d)) :: st)) : GG Γ M QF cs (gst Γ h G B) pc lv (.ref (g_L Γ (102 + 11 * b + d)) :: st) :=
  gf_X0_11 hM hd (HAt.mu (gst_dr hb hdd)) rfl kk
theorem gk_putX1_22 {x : Int} (hM : M.1.cls = RX1) (hd : decode M.2.1 pc = .ok (.putfield 22, 3)) {G' : Nat → Int} (hF : uF G 3 x = G') (kk : GG Γ M QF cs (gst Γ h G' B) (pc + 3) lv st) : GG Γ M QF cs (gst Γ h G B) pc lv (.int (iN x) :: .ref (g_L Γ 40) :: st) := by
  refine gp_X1_22 hM hd (Nat.le_of_ble_eq_true rfl) rfl rfl (HPut.mu gst_40) ?_
  subst hF
  rw [← gst_putF (i := 40) (k := 3) (x := x) (e := .inr (3, inO Γ (uF G 3 x))) rfl (Or.inr (Or.inl ⟨by decide, by decide, rfl⟩))] at kk
  exact kk
theorem gk_putX1_26 {x : Int} (hM : M.1.cls = RX1) (hd : decode M.2.1 pc = .ok (.putfield 26, 3)) {G' : Nat → Int} (hF : uF G 4 x = G') (kk : GG Γ M QF cs (gst Γ h G' B) (pc + 3) lv st) : GG Γ M QF cs (gst Γ h G B) pc lv (.int (iN x) :: .ref (g_L Γ 40) :: st) := by
  refine gp_X1_26 hM hd (Nat.le_of_ble_eq_true rfl) rfl rfl (HPut.mu gst_40) ?_
  subst hF
  rw [← gst_putF (i := 40) (k := 4) (x := x) (e := .inr (3, inO Γ (uF G 4 x))) rfl (Or.inr (Or.inl ⟨by decide, by decide, rfl⟩))] at kk
  exact kk
theorem gk_putX1_29 {x : Int} (hM : M.1.cls = RX1) (hd : decode M.2.1 pc = .ok (.putfield 29, 3)) {G' : Nat → Int} (hF : uF G 5 x = G') (kk : GG Γ M QF cs (gst Γ h G' B) (pc + 3) lv st) : GG Γ M QF cs (gst Γ h G B) pc lv (.int (iN x) :: .ref (g_L Γ 40) :: st) := by
  refine gp_X1_29 hM hd (Nat.le_of_ble_eq_true rfl) rfl rfl (HPut.mu gst_40) ?_
  subst hF
  rw [← gst_putF (i := 40) (k := 5) (x := x) (e := .inr (3, inO Γ (uF G 5 x))) rfl (Or.inr (Or.inl ⟨by decide, by decide, rfl⟩))] at kk
  exact kk
theorem gk_getX1_26 {x : Int} (hM : M.1.cls = RX1) (hd : decode M.2.1 pc = .ok (.getfield 26, 3)) (hx : G 4 = x) (kk : GG Γ M QF cs (gst Γ h G B) (pc + 3) lv (.int (iN x) :: st)) : GG Γ M QF cs (gst Γ h G B) pc lv (.ref (g_L Γ 40) :: st) :=
  gf_X1_26 hM hd (HAt.mu gst_40) rfl (by rw [hx]; exact kk)
theorem gk_getX1_9 (hM : M.1.cls = RX1) (hd : decode M.2.1 pc = .ok (.getfield 9, 3)) (kk : GG Γ M QF cs (gst Γ h G B) (pc + 3) lv (.ref (g_L Γ 41) :: st)) : GG Γ M QF cs (gst Γ h G B) pc lv (.ref (g_L Γ 40) :: st) :=
  gf_X1_9 hM hd (HAt.mu gst_40) rfl kk
theorem gk_getX1_22 {x : Int} (hM : M.1.cls = RX1) (hd : decode M.2.1 pc = .ok (.getfield 22, 3)) (hx : G 3 = x) (kk : GG Γ M QF cs (gst Γ h G B) (pc + 3) lv (.int (iN x) :: st)) : GG Γ M QF cs (gst Γ h G B) pc lv (.ref (g_L Γ 40) :: st) :=
  gf_X1_22 hM hd (HAt.mu gst_40) rfl (by rw [hx]; exact kk)
theorem gk_getX1_15 (hM : M.1.cls = RX1) (hd : decode M.2.1 pc = .ok (.getfield 15, 3)) (kk : GG Γ M QF cs (gst Γ h G B) (pc + 3) lv (.ref (g_L Γ 42) :: st)) : GG Γ M QF cs (gst Γ h G B) pc lv (.ref (g_L Γ 40) :: st) :=
  gf_X1_15 hM hd (HAt.mu gst_40) rfl kk
theorem gk_getX1_19 (hM : M.1.cls = RX1) (hd : decode M.2.1 pc = .ok (.getfield 19, 3)) (kk : GG Γ M QF cs (gst Γ h G B) (pc + 3) lv (.ref (g_L Γ 43) :: st)) : GG Γ M QF cs (gst Γ h G B) pc lv (.ref (g_L Γ 40) :: st) :=
  gf_X1_19 hM hd (HAt.mu gst_40) rfl kk
theorem gk_putX5_9 {x : Int} (hM : M.1.cls = RX5) (hd : decode M.2.1 pc = .ok (.putfield 9, 3)) {G' : Nat → Int} (hF : uF G 6 x = G') (kk : GG Γ M QF cs (gst Γ h G' B) (pc + 3) lv st) : GG Γ M QF cs (gst Γ h G B) pc lv (.int (iN x) :: .ref (g_L Γ 50) :: st) := by
  refine gp_X5_9 hM hd (Nat.le_of_ble_eq_true rfl) rfl rfl (HPut.mu gst_50) ?_
  subst hF
  rw [← gst_putF (i := 50) (k := 6) (x := x) (e := .inr (7, rdO Γ (uF G 6 x))) rfl (Or.inr (Or.inr (Or.inl ⟨by decide, by decide, rfl⟩)))] at kk
  exact kk
theorem gk_putX5_15 {x : Int} (hM : M.1.cls = RX5) (hd : decode M.2.1 pc = .ok (.putfield 15, 3)) {G' : Nat → Int} (hF : uF G 7 x = G') (kk : GG Γ M QF cs (gst Γ h G' B) (pc + 3) lv st) : GG Γ M QF cs (gst Γ h G B) pc lv (.int (iN x) :: .ref (g_L Γ 50) :: st) := by
  refine gp_X5_15 hM hd (Nat.le_of_ble_eq_true rfl) rfl rfl (HPut.mu gst_50) ?_
  subst hF
  rw [← gst_putF (i := 50) (k := 7) (x := x) (e := .inr (7, rdO Γ (uF G 7 x))) rfl (Or.inr (Or.inr (Or.inl ⟨by decide, by decide, rfl⟩)))] at kk
  exact kk
theorem gk_putX5_18 {x : Int} (hM : M.1.cls = RX5) (hd : decode M.2.1 pc = .ok (.putfield 18, 3)) {G' : Nat → Int} (hF : uF G 8 x = G') (kk : GG Γ M QF cs (gst Γ h G' B) (pc + 3) lv st) : GG Γ M QF cs (gst Γ h G B) pc lv (.int (iN x) :: .ref (g_L Γ 50) :: st) := by
  refine gp_X5_18 hM hd (Nat.le_of_ble_eq_true rfl) rfl rfl (HPut.mu gst_50) ?_
  subst hF
  rw [← gst_putF (i := 50) (k := 8) (x := x) (e := .inr (7, rdO Γ (uF G 8 x))) rfl (Or.inr (Or.inr (Or.inl ⟨by decide, by decide, rfl⟩)))] at kk
  exact kk
theorem gk_putX5_21 {x : Int} (hM : M.1.cls = RX5) (hd : decode M.2.1 pc = .ok (.putfield 21, 3)) {G' : Nat → Int} (hF : uF G 9 x = G') (kk : GG Γ M QF cs (gst Γ h G' B) (pc + 3) lv st) : GG Γ M QF cs (gst Γ h G B) pc lv (.int (iN x) :: .ref (g_L Γ 50) :: st) := by
  refine gp_X5_21 hM hd (Nat.le_of_ble_eq_true rfl) rfl rfl (HPut.mu gst_50) ?_
  subst hF
  rw [← gst_putF (i := 50) (k := 9) (x := x) (e := .inr (7, rdO Γ (uF G 9 x))) rfl (Or.inr (Or.inr (Or.inl ⟨by decide, by decide, rfl⟩)))] at kk
  exact kk
theorem gk_putX5_24 {x : Int} (hM : M.1.cls = RX5) (hd : decode M.2.1 pc = .ok (.putfield 24, 3)) {G' : Nat → Int} (hF : uF G 10 x = G') (kk : GG Γ M QF cs (gst Γ h G' B) (pc + 3) lv st) : GG Γ M QF cs (gst Γ h G B) pc lv (.int (iN x) :: .ref (g_L Γ 50) :: st) := by
  refine gp_X5_24 hM hd (Nat.le_of_ble_eq_true rfl) rfl rfl (HPut.mu gst_50) ?_
  subst hF
  rw [← gst_putF (i := 50) (k := 10) (x := x) (e := .inr (7, rdO Γ (uF G 10 x))) rfl (Or.inr (Or.inr (Or.inl ⟨by decide, by decide, rfl⟩)))] at kk
  exact kk
theorem gk_putX5_27 {x : Int} (hM : M.1.cls = RX5) (hd : decode M.2.1 pc = .ok (.putfield 27, 3)) {G' : Nat → Int} (hF : uF G 11 x = G') (kk : GG Γ M QF cs (gst Γ h G' B) (pc + 3) lv st) : GG Γ M QF cs (gst Γ h G B) pc lv (.int (iN x) :: .ref (g_L Γ 50) :: st) := by
  refine gp_X5_27 hM hd (Nat.le_of_ble_eq_true rfl) rfl rfl (HPut.mu gst_50) ?_
  subst hF
  rw [← gst_putF (i := 50) (k := 11) (x := x) (e := .inr (7, rdO Γ (uF G 11 x))) rfl (Or.inr (Or.inr (Or.inl ⟨by decide, by decide, rfl⟩)))] at kk
  exact kk
theorem gk_getX5_30 (hM : M.1.cls = RX5) (hd : decode M.2.1 pc = .ok (.getfield 30, 3)) (kk : GG Γ M QF cs (gst Γ h G B) (pc + 3) lv (.ref (g_L Γ 51) :: st)) : GG Γ M QF cs (gst Γ h G B) pc lv (.ref (g_L Γ 50) :: st) :=
  gf_X5_30 hM hd (HAt.mu gst_50) rfl kk
theorem gk_getX5_34 (hM : M.1.cls = RX5) (hd : decode M.2.1 pc = .ok (.getfield 34, 3)) (kk : GG Γ M QF cs (gst Γ h G B) (pc + 3) lv (.ref (g_L Γ 52) :: st)) : GG Γ M QF cs (gst Γ h G B) pc lv (.ref (g_L Γ 50) :: st) :=
  gf_X5_34 hM hd (HAt.mu gst_50) rfl kk
theorem gk_getX5_9 {x : Int} (hM : M.1.cls = RX5) (hd : decode M.2.1 pc = .ok (.getfield 9, 3)) (hx : G 6 = x) (kk : GG Γ M QF cs (gst Γ h G B) (pc + 3) lv (.int (iN x) :: st)) : GG Γ M QF cs (gst Γ h G B) pc lv (.ref (g_L Γ 50) :: st) :=
  gf_X5_9 hM hd (HAt.mu gst_50) rfl (by rw [hx]; exact kk)
theorem gk_getX5_15 {x : Int} (hM : M.1.cls = RX5) (hd : decode M.2.1 pc = .ok (.getfield 15, 3)) (hx : G 7 = x) (kk : GG Γ M QF cs (gst Γ h G B) (pc + 3) lv (.int (iN x) :: st)) : GG Γ M QF cs (gst Γ h G B) pc lv (.ref (g_L Γ 50) :: st) :=
  gf_X5_15 hM hd (HAt.mu gst_50) rfl (by rw [hx]; exact kk)
theorem gk_getX5_24 {x : Int} (hM : M.1.cls = RX5) (hd : decode M.2.1 pc = .ok (.getfield 24, 3)) (hx : G 10 = x) (kk : GG Γ M QF cs (gst Γ h G B) (pc + 3) lv (.int (iN x) :: st)) : GG Γ M QF cs (gst Γ h G B) pc lv (.ref (g_L Γ 50) :: st) :=
  gf_X5_24 hM hd (HAt.mu gst_50) rfl (by rw [hx]; exact kk)
theorem gk_getX5_18 {x : Int} (hM : M.1.cls = RX5) (hd : decode M.2.1 pc = .ok (.getfield 18, 3)) (hx : G 8 = x) (kk : GG Γ M QF cs (gst Γ h G B) (pc + 3) lv (.int (iN x) :: st)) : GG Γ M QF cs (gst Γ h G B) pc lv (.ref (g_L Γ 50) :: st) :=
  gf_X5_18 hM hd (HAt.mu gst_50) rfl (by rw [hx]; exact kk)
theorem gk_getX5_21 {x : Int} (hM : M.1.cls = RX5) (hd : decode M.2.1 pc = .ok (.getfield 21, 3)) (hx : G 9 = x) (kk : GG Γ M QF cs (gst Γ h G B) (pc + 3) lv (.int (iN x) :: st)) : GG Γ M QF cs (gst Γ h G B) pc lv (.ref (g_L Γ 50) :: st) :=
  gf_X5_21 hM hd (HAt.mu gst_50) rfl (by rw [hx]; exact kk)
theorem gk_getX5_27 {x : Int} (hM : M.1.cls = RX5) (hd : decode M.2.1 pc = .ok (.getfield 27, 3)) (hx : G 11 = x) (kk : GG Γ M QF cs (gst Γ h G B) (pc + 3) lv (.int (iN x) :: st)) : GG Γ M QF cs (gst Γ h G B) pc lv (.ref (g_L Γ 50) :: st) :=
  gf_X5_27 hM hd (HAt.mu gst_50) rfl (by rw [hx]; exact kk)
theorem gk_putX6_15 {x : Nat} (hM : M.1.cls = RX6) (hd : decode M.2.1 pc = .ok (.putfield 15, 3)) {G' : Nat → Int} (hF : uF G 12 (x : Int) = G') (kk : GG Γ M QF cs (gst Γ h G' B) (pc + 3) lv st) : GG Γ M QF cs (gst Γ h G B) pc lv (.ref (g_L Γ (62 + x)) :: .ref (g_L Γ 60) :: st) := by
  refine gp_X6_15 hM hd (Nat.le_of_ble_eq_true rfl) rfl rfl (HPut.mu gst_60) ?_
  subst hF
  rw [← gst_putF (i := 60) (k := 12) (x := (x : Int)) (e := .inr (8, scO Γ (uF G 12 (x : Int)))) rfl (Or.inr (Or.inr (Or.inr (Or.inl ⟨by decide, by decide, rfl⟩))))] at kk
  exact kk
theorem gk_putX6_18 {x : Nat} (hM : M.1.cls = RX6) (hd : decode M.2.1 pc = .ok (.putfield 18, 3)) {G' : Nat → Int} (hF : uF G 13 (x : Int) = G') (kk : GG Γ M QF cs (gst Γ h G' B) (pc + 3) lv st) : GG Γ M QF cs (gst Γ h G B) pc lv (.ref (g_L Γ (62 + x)) :: .ref (g_L Γ 60) :: st) := by
  refine gp_X6_18 hM hd (Nat.le_of_ble_eq_true rfl) rfl rfl (HPut.mu gst_60) ?_
  subst hF
  rw [← gst_putF (i := 60) (k := 13) (x := (x : Int)) (e := .inr (8, scO Γ (uF G 13 (x : Int)))) rfl (Or.inr (Or.inr (Or.inr (Or.inl ⟨by decide, by decide, rfl⟩))))] at kk
  exact kk
theorem gk_putX6_21 {x : Nat} (hM : M.1.cls = RX6) (hd : decode M.2.1 pc = .ok (.putfield 21, 3)) {G' : Nat → Int} (hF : uF G 14 (x : Int) = G') (kk : GG Γ M QF cs (gst Γ h G' B) (pc + 3) lv st) : GG Γ M QF cs (gst Γ h G B) pc lv (.ref (g_L Γ (62 + x)) :: .ref (g_L Γ 60) :: st) := by
  refine gp_X6_21 hM hd (Nat.le_of_ble_eq_true rfl) rfl rfl (HPut.mu gst_60) ?_
  subst hF
  rw [← gst_putF (i := 60) (k := 14) (x := (x : Int)) (e := .inr (8, scO Γ (uF G 14 (x : Int)))) rfl (Or.inr (Or.inr (Or.inr (Or.inl ⟨by decide, by decide, rfl⟩))))] at kk
  exact kk
theorem gk_putX6_24 {x : Nat} (hM : M.1.cls = RX6) (hd : decode M.2.1 pc = .ok (.putfield 24, 3)) {G' : Nat → Int} (hF : uF G 15 (x : Int) = G') (kk : GG Γ M QF cs (gst Γ h G' B) (pc + 3) lv st) : GG Γ M QF cs (gst Γ h G B) pc lv (.ref (g_L Γ (62 + x)) :: .ref (g_L Γ 60) :: st) := by
  refine gp_X6_24 hM hd (Nat.le_of_ble_eq_true rfl) rfl rfl (HPut.mu gst_60) ?_
  subst hF
  rw [← gst_putF (i := 60) (k := 15) (x := (x : Int)) (e := .inr (8, scO Γ (uF G 15 (x : Int)))) rfl (Or.inr (Or.inr (Or.inr (Or.inl ⟨by decide, by decide, rfl⟩))))] at kk
  exact kk
theorem gk_putX6_32 {x : Nat} (hM : M.1.cls = RX6) (hd : decode M.2.1 pc = .ok (.putfield 32, 3)) {G' : Nat → Int} (hF : uF G 16 (x : Int) = G') (kk : GG Γ M QF cs (gst Γ h G' B) (pc + 3) lv st) : GG Γ M QF cs (gst Γ h G B) pc lv (.ref x :: .ref (g_L Γ 60) :: st) := by
  refine gp_X6_32 hM hd (Nat.le_of_ble_eq_true rfl) rfl rfl (HPut.mu gst_60) ?_
  subst hF
  rw [← gst_putF (i := 60) (k := 16) (x := (x : Int)) (e := .inr (8, scO Γ (uF G 16 (x : Int)))) rfl (Or.inr (Or.inr (Or.inr (Or.inl ⟨by decide, by decide, rfl⟩))))] at kk
  exact kk
theorem gk_putX6_36 {x : Int} (hM : M.1.cls = RX6) (hd : decode M.2.1 pc = .ok (.putfield 36, 3)) {G' : Nat → Int} (hF : uF G 17 x = G') (kk : GG Γ M QF cs (gst Γ h G' B) (pc + 3) lv st) : GG Γ M QF cs (gst Γ h G B) pc lv (.int (iN x) :: .ref (g_L Γ 60) :: st) := by
  refine gp_X6_36 hM hd (Nat.le_of_ble_eq_true rfl) rfl rfl (HPut.mu gst_60) ?_
  subst hF
  rw [← gst_putF (i := 60) (k := 17) (x := x) (e := .inr (8, scO Γ (uF G 17 x))) rfl (Or.inr (Or.inr (Or.inr (Or.inl ⟨by decide, by decide, rfl⟩))))] at kk
  exact kk
theorem gk_putX6_40 {x : Int} (hM : M.1.cls = RX6) (hd : decode M.2.1 pc = .ok (.putfield 40, 3)) {G' : Nat → Int} (hF : uF G 18 x = G') (kk : GG Γ M QF cs (gst Γ h G' B) (pc + 3) lv st) : GG Γ M QF cs (gst Γ h G B) pc lv (.int (iN x) :: .ref (g_L Γ 60) :: st) := by
  refine gp_X6_40 hM hd (Nat.le_of_ble_eq_true rfl) rfl rfl (HPut.mu gst_60) ?_
  subst hF
  rw [← gst_putF (i := 60) (k := 18) (x := x) (e := .inr (8, scO Γ (uF G 18 x))) rfl (Or.inr (Or.inr (Or.inr (Or.inl ⟨by decide, by decide, rfl⟩))))] at kk
  exact kk
theorem gk_getX6_43 (hM : M.1.cls = RX6) (hd : decode M.2.1 pc = .ok (.getfield 43, 3)) (kk : GG Γ M QF cs (gst Γ h G B) (pc + 3) lv (.ref (g_L Γ 50) :: st)) : GG Γ M QF cs (gst Γ h G B) pc lv (.ref (g_L Γ 60) :: st) :=
  gf_X6_43 hM hd (HAt.mu gst_60) rfl kk
theorem gk_getX6_15 {x : Nat} (hM : M.1.cls = RX6) (hd : decode M.2.1 pc = .ok (.getfield 15, 3)) (hx : G 12 = (x : Int)) (kk : GG Γ M QF cs (gst Γ h G B) (pc + 3) lv (.ref (g_L Γ (62 + x)) :: st)) : GG Γ M QF cs (gst Γ h G B) pc lv (.ref (g_L Γ 60) :: st) :=
  gf_X6_15 hM hd (HAt.mu gst_60) rfl (by rw [hx]; exact kk)
theorem gk_getX6_18 {x : Nat} (hM : M.1.cls = RX6) (hd : decode M.2.1 pc = .ok (.getfield 18, 3)) (hx : G 13 = (x : Int)) (kk : GG Γ M QF cs (gst Γ h G B) (pc + 3) lv (.ref (g_L Γ (62 + x)) :: st)) : GG Γ M QF cs (gst Γ h G B) pc lv (.ref (g_L Γ 60) :: st) :=
  gf_X6_18 hM hd (HAt.mu gst_60) rfl (by rw [hx]; exact kk)
theorem gk_getX6_68 {x : Int} (hM : M.1.cls = RX6) (hd : decode M.2.1 pc = .ok (.getfield 68, 3)) (hx : G 6 = x) (kk : GG Γ M QF cs (gst Γ h G B) (pc + 3) lv (.int (iN x) :: st)) : GG Γ M QF cs (gst Γ h G B) pc lv (.ref (g_L Γ 50) :: st) :=
  gf_X6_68 hM hd (HAt.mu gst_50) rfl (by rw [hx]; exact kk)
theorem gk_getX6_9 (hM : M.1.cls = RX6) (hd : decode M.2.1 pc = .ok (.getfield 9, 3)) (kk : GG Γ M QF cs (gst Γ h G B) (pc + 3) lv (.ref (g_L Γ 61) :: st)) : GG Γ M QF cs (gst Γ h G B) pc lv (.ref (g_L Γ 60) :: st) :=
  gf_X6_9 hM hd (HAt.mu gst_60) rfl kk
theorem gk_getX6_21 {x : Nat} (hM : M.1.cls = RX6) (hd : decode M.2.1 pc = .ok (.getfield 21, 3)) (hx : G 14 = (x : Int)) (kk : GG Γ M QF cs (gst Γ h G B) (pc + 3) lv (.ref (g_L Γ (62 + x)) :: st)) : GG Γ M QF cs (gst Γ h G B) pc lv (.ref (g_L Γ 60) :: st) :=
  gf_X6_21 hM hd (HAt.mu gst_60) rfl (by rw [hx]; exact kk)
theorem gk_getX6_24 {x : Nat} (hM : M.1.cls = RX6) (hd : decode M.2.1 pc = .ok (.getfield 24, 3)) (hx : G 15 = (x : Int)) (kk : GG Γ M QF cs (gst Γ h G B) (pc + 3) lv (.ref (g_L Γ (62 + x)) :: st)) : GG Γ M QF cs (gst Γ h G B) pc lv (.ref (g_L Γ 60) :: st) :=
  gf_X6_24 hM hd (HAt.mu gst_60) rfl (by rw [hx]; exact kk)
theorem gk_getX6_40 {x : Int} (hM : M.1.cls = RX6) (hd : decode M.2.1 pc = .ok (.getfield 40, 3)) (hx : G 18 = x) (kk : GG Γ M QF cs (gst Γ h G B) (pc + 3) lv (.int (iN x) :: st)) : GG Γ M QF cs (gst Γ h G B) pc lv (.ref (g_L Γ 60) :: st) :=
  gf_X6_40 hM hd (HAt.mu gst_60) rfl (by rw [hx]; exact kk)
theorem gk_getX6_32 {x : Nat} (hM : M.1.cls = RX6) (hd : decode M.2.1 pc = .ok (.getfield 32, 3)) (hx : G 16 = (x : Int)) (kk : GG Γ M QF cs (gst Γ h G B) (pc + 3) lv (.ref x :: st)) : GG Γ M QF cs (gst Γ h G B) pc lv (.ref (g_L Γ 60) :: st) :=
  gf_X6_32 hM hd (HAt.mu gst_60) rfl (by rw [hx]; exact kk)
theorem gk_getX6_36 {x : Int} (hM : M.1.cls = RX6) (hd : decode M.2.1 pc = .ok (.getfield 36, 3)) (hx : G 17 = x) (kk : GG Γ M QF cs (gst Γ h G B) (pc + 3) lv (.int (iN x) :: st)) : GG Γ M QF cs (gst Γ h G B) pc lv (.ref (g_L Γ 60) :: st) :=
  gf_X6_36 hM hd (HAt.mu gst_60) rfl (by rw [hx]; exact kk)
theorem gk_putX7_14 {x : Nat} {b : Nat} (hb : b ≤ 9) (hM : M.1.cls = RX7) (hd : decode M.2.1 pc = .ok (.putfield 14, 3)) {G' : Nat → Int} (hF : uF G (100 + 10 * b) (x : Int) = G') (kk : GG Γ M QF cs (gst Γ h G' B) (pc + 3) lv st) : GG Γ M QF cs (gst Γ h G B) pc lv (.ref x :: .ref (g_L Γ (100 + 11 * b)) :: st) := by
  refine gp_X7_14 hM hd (Nat.le_of_ble_eq_true rfl) rfl rfl (HPut.mu (gst_st hb)) ?_
  subst hF
  have n1 : ∀ y, y ≠ (100 + 10 * b) → uF G (100 + 10 * b) (x : Int) y = G y := fun y hy => uF_n hy
  have eo : (stO Γ G b).set 0 (.ref x) = stO Γ (uF G (100 + 10 * b) (x : Int)) b := by
    unfold stO
    rw [n1 (101 + 10 * b) (by omega), n1 (102 + 10 * b) (by omega), uF_s]
    rfl
  rw [eo, gst_putF (i := (100 + 11 * b)) (k := (100 + 10 * b)) (x := (x : Int)) (e := .inr (9, stO Γ (uF G (100 + 10 * b) (x : Int)) b)) (by have := gcell_b (Γ := Γ) (G := uF G (100 + 10 * b) (x : Int)) (f := B (100 + 11 * b)) (j := 0) hb (by omega); rw [Nat.add_zero] at this; exact this) (Or.inr (Or.inr (Or.inr (Or.inr (Or.inl ⟨b, hb, rfl, by omega, by omega⟩)))))]
  exact kk
theorem gk_putX7_20 {x : Int} {b : Nat} (hb : b ≤ 9) (hM : M.1.cls = RX7) (hd : decode M.2.1 pc = .ok (.putfield 20, 3)) {G' : Nat → Int} (hF : uF G (101 + 10 * b) x = G') (kk : GG Γ M QF cs (gst Γ h G' B) (pc + 3) lv st) : GG Γ M QF cs (gst Γ h G B) pc lv (.int (iN x) :: .ref (g_L Γ (100 + 11 * b)) :: st) := by
  refine gp_X7_20 hM hd (Nat.le_of_ble_eq_true rfl) rfl rfl (HPut.mu (gst_st hb)) ?_
  subst hF
  have n1 : ∀ y, y ≠ (101 + 10 * b) → uF G (101 + 10 * b) x y = G y := fun y hy => uF_n hy
  have eo : (stO Γ G b).set 1 (.int (iN x)) = stO Γ (uF G (101 + 10 * b) x) b := by
    unfold stO
    rw [n1 (100 + 10 * b) (by omega), n1 (102 + 10 * b) (by omega), uF_s]
    rfl
  rw [eo, gst_putF (i := (100 + 11 * b)) (k := (101 + 10 * b)) (x := x) (e := .inr (9, stO Γ (uF G (101 + 10 * b) x) b)) (by have := gcell_b (Γ := Γ) (G := uF G (101 + 10 * b) x) (f := B (100 + 11 * b)) (j := 0) hb (by omega); rw [Nat.add_zero] at this; exact this) (Or.inr (Or.inr (Or.inr (Or.inr (Or.inl ⟨b, hb, rfl, by omega, by omega⟩)))))]
  exact kk
theorem gk_putX7_30 {x : Int} {b : Nat} (hb : b ≤ 9) (hM : M.1.cls = RX7) (hd : decode M.2.1 pc = .ok (.putfield 30, 3)) {G' : Nat → Int} (hF : uF G (102 + 10 * b) x = G') (kk : GG Γ M QF cs (gst Γ h G' B) (pc + 3) lv st) : GG Γ M QF cs (gst Γ h G B) pc lv (.int (iN x) :: .ref (g_L Γ (100 + 11 * b)) :: st) := by
  refine gp_X7_30 hM hd (Nat.le_of_ble_eq_true rfl) rfl rfl (HPut.mu (gst_st hb)) ?_
  subst hF
  have n1 : ∀ y, y ≠ (102 + 10 * b) → uF G (102 + 10 * b) x y = G y := fun y hy => uF_n hy
  have eo : (stO Γ G b).set 3 (.int (iN x)) = stO Γ (uF G (102 + 10 * b) x) b := by
    unfold stO
    rw [n1 (100 + 10 * b) (by omega), n1 (101 + 10 * b) (by omega), uF_s]
    rfl
  rw [eo, gst_putF (i := (100 + 11 * b)) (k := (102 + 10 * b)) (x := x) (e := .inr (9, stO Γ (uF G (102 + 10 * b) x) b)) (by have := gcell_b (Γ := Γ) (G := uF G (102 + 10 * b) x) (f := B (100 + 11 * b)) (j := 0) hb (by omega); rw [Nat.add_zero] at this; exact this) (Or.inr (Or.inr (Or.inr (Or.inr (Or.inl ⟨b, hb, rfl, by omega, by omega⟩)))))]
  exact kk
theorem gk_getX7_26 {b : Nat} (hb : b ≤ 9) (hM : M.1.cls = RX7) (hd : decode M.2.1 pc = .ok (.getfield 26, 3)) (kk : GG Γ M QF cs (gst Γ h G B) (pc + 3) lv (.ref (g_L Γ (101 + 11 * b)) :: st)) : GG Γ M QF cs (gst Γ h G B) pc lv (.ref (g_L Γ (100 + 11 * b)) :: st) :=
  gf_X7_26 hM hd (HAt.mu (gst_st hb)) rfl kk
theorem gk_getX7_14 {x : Nat} {b : Nat} (hb : b ≤ 9) (hM : M.1.cls = RX7) (hd : decode M.2.1 pc = .ok (.getfield 14, 3)) (hx : G (100 + 10 * b) = (x : Int)) (kk : GG Γ M QF cs (gst Γ h G B) (pc + 3) lv (.ref x :: st)) : GG Γ M QF cs (gst Γ h G B) pc lv (.ref (g_L Γ (100 + 11 * b)) :: st) :=
  gf_X7_14 hM hd (HAt.mu (gst_st hb)) rfl (by rw [hx]; exact kk)
theorem gk_getX7_20 {x : Int} {b : Nat} (hb : b ≤ 9) (hM : M.1.cls = RX7) (hd : decode M.2.1 pc = .ok (.getfield 20, 3)) (hx : G (101 + 10 * b) = x) (kk : GG Γ M QF cs (gst Γ h G B) (pc + 3) lv (.int (iN x) :: st)) : GG Γ M QF cs (gst Γ h G B) pc lv (.ref (g_L Γ (100 + 11 * b)) :: st) :=
  gf_X7_20 hM hd (HAt.mu (gst_st hb)) rfl (by rw [hx]; exact kk)
theorem gk_getX7_35 {b : Nat} (hb : b ≤ 9) (hM : M.1.cls = RX7) (hd : decode M.2.1 pc = .ok (.getfield 35, 3)) (kk : GG Γ M QF cs (gst Γ h G B) (pc + 3) lv (.ref (g_L Γ (110 + 11 * b)) :: st)) : GG Γ M QF cs (gst Γ h G B) pc lv (.ref (g_L Γ (100 + 11 * b)) :: st) :=
  gf_X7_35 hM hd (HAt.mu (gst_st hb)) rfl kk
theorem gk_getX7_30 {x : Int} {b : Nat} (hb : b ≤ 9) (hM : M.1.cls = RX7) (hd : decode M.2.1 pc = .ok (.getfield 30, 3)) (hx : G (102 + 10 * b) = x) (kk : GG Γ M QF cs (gst Γ h G B) (pc + 3) lv (.int (iN x) :: st)) : GG Γ M QF cs (gst Γ h G B) pc lv (.ref (g_L Γ (100 + 11 * b)) :: st) :=
  gf_X7_30 hM hd (HAt.mu (gst_st hb)) rfl (by rw [hx]; exact kk)
theorem gk_getX7_44 {x : Int} {b d : Nat} (hb : b ≤ 9) (hdd : d ≤ 3) (hM : M.1.cls = RX7) (hd : decode M.2.1 pc = .ok (.getfield 44, 3)) (hx : G (103 + 10 * b + d) = x) (kk : GG Γ M QF cs (gst Γ h G B) (pc + 3) lv (.int (iN x) :: st)) : GG Γ M QF cs (gst Γ h G B) pc lv (.ref (g_L Γ (102 + 11 * b + d)) :: st) :=
  gf_X7_44 hM hd (HAt.mu (gst_dr hb hdd)) rfl (by rw [hx]; exact kk)
theorem gk_getX9_30 (hM : M.1.cls = RX9) (hd : decode M.2.1 pc = .ok (.getfield 30, 3)) (kk : GG Γ M QF cs (gst Γ h G B) (pc + 3) lv (.ref (g_L Γ 50) :: st)) : GG Γ M QF cs (gst Γ h G B) pc lv (.ref (g_L Γ 30) :: st) :=
  gf_X9_30 hM hd (HAt.mu gst_30) rfl kk
theorem gk_putX9_65 {x : Nat} (hM : M.1.cls = RX9) (hd : decode M.2.1 pc = .ok (.putfield 65, 3)) {G' : Nat → Int} (hF : uF G 0 (x : Int) = G') (kk : GG Γ M QF cs (gst Γ h G' B) (pc + 3) lv st) : GG Γ M QF cs (gst Γ h G B) pc lv (.ref (g_L Γ (100 + 11 * x)) :: .ref (g_L Γ 30) :: st) := by
  refine gp_X9_65 hM hd (Nat.le_of_ble_eq_true rfl) rfl rfl (HPut.mu gst_30) ?_
  subst hF
  rw [← gst_putF (i := 30) (k := 0) (x := (x : Int)) (e := .inr (11, vO Γ (uF G 0 (x : Int)))) rfl (Or.inl ⟨by decide, rfl⟩)] at kk
  exact kk
theorem gk_putX9_68 {x : Int} (hM : M.1.cls = RX9) (hd : decode M.2.1 pc = .ok (.putfield 68, 3)) {G' : Nat → Int} (hF : uF G 1 x = G') (kk : GG Γ M QF cs (gst Γ h G' B) (pc + 3) lv st) : GG Γ M QF cs (gst Γ h G B) pc lv (.int (iN x) :: .ref (g_L Γ 30) :: st) := by
  refine gp_X9_68 hM hd (Nat.le_of_ble_eq_true rfl) rfl rfl (HPut.mu gst_30) ?_
  subst hF
  rw [← gst_putF (i := 30) (k := 1) (x := x) (e := .inr (11, vO Γ (uF G 1 x))) rfl (Or.inl ⟨by decide, rfl⟩)] at kk
  exact kk
theorem gk_putX9_72 {x : Int} (hM : M.1.cls = RX9) (hd : decode M.2.1 pc = .ok (.putfield 72, 3)) (hx : x = 0 ∨ x = 1) {G' : Nat → Int} (hF : uF G 2 x = G') (kk : GG Γ M QF cs (gst Γ h G' B) (pc + 3) lv st) : GG Γ M QF cs (gst Γ h G B) pc lv (.int (iN x) :: .ref (g_L Γ 30) :: st) := by
  refine gp_X9_72 hM hd (Nat.le_of_ble_eq_true rfl) (nar_bool hx) (fit_bool hx) (HPut.mu gst_30) ?_
  subst hF
  rw [← gst_putF (i := 30) (k := 2) (x := x) (e := .inr (11, vO Γ (uF G 2 x))) rfl (Or.inl ⟨by decide, rfl⟩)] at kk
  exact kk
theorem gk_getX9_18 (hM : M.1.cls = RX9) (hd : decode M.2.1 pc = .ok (.getfield 18, 3)) (kk : GG Γ M QF cs (gst Γ h G B) (pc + 3) lv (.ref (g_L Γ 31) :: st)) : GG Γ M QF cs (gst Γ h G B) pc lv (.ref (g_L Γ 30) :: st) :=
  gf_X9_18 hM hd (HAt.mu gst_30) rfl kk
theorem gk_getX9_45 (hM : M.1.cls = RX9) (hd : decode M.2.1 pc = .ok (.getfield 45, 3)) (kk : GG Γ M QF cs (gst Γ h G B) (pc + 3) lv (.ref (g_L Γ 32) :: st)) : GG Γ M QF cs (gst Γ h G B) pc lv (.ref (g_L Γ 30) :: st) :=
  gf_X9_45 hM hd (HAt.mu gst_30) rfl kk
theorem gk_getX9_12 (hM : M.1.cls = RX9) (hd : decode M.2.1 pc = .ok (.getfield 12, 3)) (kk : GG Γ M QF cs (gst Γ h G B) (pc + 3) lv (.ref (g_L Γ 40) :: st)) : GG Γ M QF cs (gst Γ h G B) pc lv (.ref (g_L Γ 30) :: st) :=
  gf_X9_12 hM hd (HAt.mu gst_30) rfl kk
theorem gk_getX9_79 {x : Int} (hM : M.1.cls = RX9) (hd : decode M.2.1 pc = .ok (.getfield 79, 3)) (hx : G 4 = x) (kk : GG Γ M QF cs (gst Γ h G B) (pc + 3) lv (.int (iN x) :: st)) : GG Γ M QF cs (gst Γ h G B) pc lv (.ref (g_L Γ 40) :: st) :=
  gf_X9_79 hM hd (HAt.mu gst_40) rfl (by rw [hx]; exact kk)
theorem gk_getX9_93 {x : Int} (hM : M.1.cls = RX9) (hd : decode M.2.1 pc = .ok (.getfield 93, 3)) (hx : G 5 = x) (kk : GG Γ M QF cs (gst Γ h G B) (pc + 3) lv (.int (iN x) :: st)) : GG Γ M QF cs (gst Γ h G B) pc lv (.ref (g_L Γ 40) :: st) :=
  gf_X9_93 hM hd (HAt.mu gst_40) rfl (by rw [hx]; exact kk)
theorem gk_getX9_65 {x : Nat} (hM : M.1.cls = RX9) (hd : decode M.2.1 pc = .ok (.getfield 65, 3)) (hx : G 0 = (x : Int)) (kk : GG Γ M QF cs (gst Γ h G B) (pc + 3) lv (.ref (g_L Γ (100 + 11 * x)) :: st)) : GG Γ M QF cs (gst Γ h G B) pc lv (.ref (g_L Γ 30) :: st) :=
  gf_X9_65 hM hd (HAt.mu gst_30) rfl (by rw [hx]; exact kk)
theorem gk_getX9_109 {x : Nat} {b : Nat} (hb : b ≤ 9) (hM : M.1.cls = RX9) (hd : decode M.2.1 pc = .ok (.getfield 109, 3)) (hx : G (100 + 10 * b) = (x : Int)) (kk : GG Γ M QF cs (gst Γ h G B) (pc + 3) lv (.ref x :: st)) : GG Γ M QF cs (gst Γ h G B) pc lv (.ref (g_L Γ (100 + 11 * b)) :: st) :=
  gf_X9_109 hM hd (HAt.mu (gst_st hb)) rfl (by rw [hx]; exact kk)
theorem gk_putX9_109 {x : Nat} {b : Nat} (hb : b ≤ 9) (hM : M.1.cls = RX9) (hd : decode M.2.1 pc = .ok (.putfield 109, 3)) {G' : Nat → Int} (hF : uF G (100 + 10 * b) (x : Int) = G') (kk : GG Γ M QF cs (gst Γ h G' B) (pc + 3) lv st) : GG Γ M QF cs (gst Γ h G B) pc lv (.ref x :: .ref (g_L Γ (100 + 11 * b)) :: st) := by
  refine gp_X9_109 hM hd (Nat.le_of_ble_eq_true rfl) rfl rfl (HPut.mu (gst_st hb)) ?_
  subst hF
  have n1 : ∀ y, y ≠ (100 + 10 * b) → uF G (100 + 10 * b) (x : Int) y = G y := fun y hy => uF_n hy
  have eo : (stO Γ G b).set 0 (.ref x) = stO Γ (uF G (100 + 10 * b) (x : Int)) b := by
    unfold stO
    rw [n1 (101 + 10 * b) (by omega), n1 (102 + 10 * b) (by omega), uF_s]
    rfl
  rw [eo, gst_putF (i := (100 + 11 * b)) (k := (100 + 10 * b)) (x := (x : Int)) (e := .inr (9, stO Γ (uF G (100 + 10 * b) (x : Int)) b)) (by have := gcell_b (Γ := Γ) (G := uF G (100 + 10 * b) (x : Int)) (f := B (100 + 11 * b)) (j := 0) hb (by omega); rw [Nat.add_zero] at this; exact this) (Or.inr (Or.inr (Or.inr (Or.inr (Or.inl ⟨b, hb, rfl, by omega, by omega⟩)))))]
  exact kk
theorem gk_getX9_138 {x : Int} {b : Nat} (hb : b ≤ 9) (hM : M.1.cls = RX9) (hd : decode M.2.1 pc = .ok (.getfield 138, 3)) (hx : G (101 + 10 * b) = x) (kk : GG Γ M QF cs (gst Γ h G B) (pc + 3) lv (.int (iN x) :: st)) : GG Γ M QF cs (gst Γ h G B) pc lv (.ref (g_L Γ (100 + 11 * b)) :: st) :=
  gf_X9_138 hM hd (HAt.mu (gst_st hb)) rfl (by rw [hx]; exact kk)
theorem gk_putX9_138 {x : Int} {b : Nat} (hb : b ≤ 9) (hM : M.1.cls = RX9) (hd : decode M.2.1 pc = .ok (.putfield 138, 3)) {G' : Nat → Int} (hF : uF G (101 + 10 * b) x = G') (kk : GG Γ M QF cs (gst Γ h G' B) (pc + 3) lv st) : GG Γ M QF cs (gst Γ h G B) pc lv (.int (iN x) :: .ref (g_L Γ (100 + 11 * b)) :: st) := by
  refine gp_X9_138 hM hd (Nat.le_of_ble_eq_true rfl) rfl rfl (HPut.mu (gst_st hb)) ?_
  subst hF
  have n1 : ∀ y, y ≠ (101 + 10 * b) → uF G (101 + 10 * b) x y = G y := fun y hy => uF_n hy
  have eo : (stO Γ G b).set 1 (.int (iN x)) = stO Γ (uF G (101 + 10 * b) x) b := by
    unfold stO
    rw [n1 (100 + 10 * b) (by omega), n1 (102 + 10 * b) (by omega), uF_s]
    rfl
  rw [eo, gst_putF (i := (100 + 11 * b)) (k := (101 + 10 * b)) (x := x) (e := .inr (9, stO Γ (uF G (101 + 10 * b) x) b)) (by have := gcell_b (Γ := Γ) (G := uF G (101 + 10 * b) x) (f := B (100 + 11 * b)) (j := 0) hb (by omega); rw [Nat.add_zero] at this; exact this) (Or.inr (Or.inr (Or.inr (Or.inr (Or.inl ⟨b, hb, rfl, by omega, by omega⟩)))))]
  exact kk
theorem gk_getX9_157 {x : Int} {b : Nat} (hb : b ≤ 9) (hM : M.1.cls = RX9) (hd : decode M.2.1 pc = .ok (.getfield 157, 3)) (hx : G (102 + 10 * b) = x) (kk : GG Γ M QF cs (gst Γ h G B) (pc + 3) lv (.int (iN x) :: st)) : GG Γ M QF cs (gst Γ h G B) pc lv (.ref (g_L Γ (100 + 11 * b)) :: st) :=
  gf_X9_157 hM hd (HAt.mu (gst_st hb)) rfl (by rw [hx]; exact kk)
theorem gk_getX9_186 {x : Int} {b d : Nat} (hb : b ≤ 9) (hdd : d ≤ 3) (hM : M.1.cls = RX9) (hd : decode M.2.1 pc = .ok (.getfield 186, 3)) (hx : G (103 + 10 * b + d) = x) (kk : GG Γ M QF cs (gst Γ h G B) (pc + 3) lv (.int (iN x) :: st)) : GG Γ M QF cs (gst Γ h G B) pc lv (.ref (g_L Γ (102 + 11 * b + d)) :: st) :=
  gf_X9_186 hM hd (HAt.mu (gst_dr hb hdd)) rfl (by rw [hx]; exact kk)
theorem gk_getX9_241 {x : Int} (hM : M.1.cls = RX9) (hd : decode M.2.1 pc = .ok (.getfield 241, 3)) (hx : G 7 = x) (kk : GG Γ M QF cs (gst Γ h G B) (pc + 3) lv (.int (iN x) :: st)) : GG Γ M QF cs (gst Γ h G B) pc lv (.ref (g_L Γ 50) :: st) :=
  gf_X9_241 hM hd (HAt.mu gst_50) rfl (by rw [hx]; exact kk)
theorem gk_getX9_244 {x : Int} (hM : M.1.cls = RX9) (hd : decode M.2.1 pc = .ok (.getfield 244, 3)) (hx : G 8 = x) (kk : GG Γ M QF cs (gst Γ h G B) (pc + 3) lv (.int (iN x) :: st)) : GG Γ M QF cs (gst Γ h G B) pc lv (.ref (g_L Γ 50) :: st) :=
  gf_X9_244 hM hd (HAt.mu gst_50) rfl (by rw [hx]; exact kk)
theorem gk_getX9_247 {x : Int} (hM : M.1.cls = RX9) (hd : decode M.2.1 pc = .ok (.getfield 247, 3)) (hx : G 11 = x) (kk : GG Γ M QF cs (gst Γ h G B) (pc + 3) lv (.int (iN x) :: st)) : GG Γ M QF cs (gst Γ h G B) pc lv (.ref (g_L Γ 50) :: st) :=
  gf_X9_247 hM hd (HAt.mu gst_50) rfl (by rw [hx]; exact kk)
theorem gk_getX9_39 (hM : M.1.cls = RX9) (hd : decode M.2.1 pc = .ok (.getfield 39, 3)) (kk : GG Γ M QF cs (gst Γ h G B) (pc + 3) lv (.ref (g_L Γ 60) :: st)) : GG Γ M QF cs (gst Γ h G B) pc lv (.ref (g_L Γ 30) :: st) :=
  gf_X9_39 hM hd (HAt.mu gst_30) rfl kk
theorem gk_getX9_334 {x : Int} (hM : M.1.cls = RX9) (hd : decode M.2.1 pc = .ok (.getfield 334, 3)) (hx : G 18 = x) (kk : GG Γ M QF cs (gst Γ h G B) (pc + 3) lv (.int (iN x) :: st)) : GG Γ M QF cs (gst Γ h G B) pc lv (.ref (g_L Γ 60) :: st) :=
  gf_X9_334 hM hd (HAt.mu gst_60) rfl (by rw [hx]; exact kk)
theorem gk_getX9_68 {x : Int} (hM : M.1.cls = RX9) (hd : decode M.2.1 pc = .ok (.getfield 68, 3)) (hx : G 1 = x) (kk : GG Γ M QF cs (gst Γ h G B) (pc + 3) lv (.int (iN x) :: st)) : GG Γ M QF cs (gst Γ h G B) pc lv (.ref (g_L Γ 30) :: st) :=
  gf_X9_68 hM hd (HAt.mu gst_30) rfl (by rw [hx]; exact kk)
theorem gk_getX9_23 (hM : M.1.cls = RX9) (hd : decode M.2.1 pc = .ok (.getfield 23, 3)) (kk : GG Γ M QF cs (gst Γ h G B) (pc + 3) lv (.ref (g_L Γ (100 + 11 * 9)) :: st)) : GG Γ M QF cs (gst Γ h G B) pc lv (.ref (g_L Γ 30) :: st) :=
  gf_X9_23 hM hd (HAt.mu gst_30) rfl kk
theorem gk_getX9_72 {x : Int} (hM : M.1.cls = RX9) (hd : decode M.2.1 pc = .ok (.getfield 72, 3)) (hx : G 2 = x) (kk : GG Γ M QF cs (gst Γ h G B) (pc + 3) lv (.int (iN x) :: st)) : GG Γ M QF cs (gst Γ h G B) pc lv (.ref (g_L Γ 30) :: st) :=
  gf_X9_72 hM hd (HAt.mu gst_30) rfl (by rw [hx]; exact kk)
theorem gk_getX9_387 {b : Nat} (hb : b ≤ 9) (hM : M.1.cls = RX9) (hd : decode M.2.1 pc = .ok (.getfield 387, 3)) (kk : GG Γ M QF cs (gst Γ h G B) (pc + 3) lv (.ref (g_L Γ (101 + 11 * b)) :: st)) : GG Γ M QF cs (gst Γ h G B) pc lv (.ref (g_L Γ (100 + 11 * b)) :: st) :=
  gf_X9_387 hM hd (HAt.mu (gst_st hb)) rfl kk
theorem gk_getX9_411 {x : Int} (hM : M.1.cls = RX9) (hd : decode M.2.1 pc = .ok (.getfield 411, 3)) (hx : G 10 = x) (kk : GG Γ M QF cs (gst Γ h G B) (pc + 3) lv (.int (iN x) :: st)) : GG Γ M QF cs (gst Γ h G B) pc lv (.ref (g_L Γ 50) :: st) :=
  gf_X9_411 hM hd (HAt.mu gst_50) rfl (by rw [hx]; exact kk)
theorem gk_getX9_49 (hM : M.1.cls = RX9) (hd : decode M.2.1 pc = .ok (.getfield 49, 3)) (kk : GG Γ M QF cs (gst Γ h G B) (pc + 3) lv (.ref (g_L Γ 33) :: st)) : GG Γ M QF cs (gst Γ h G B) pc lv (.ref (g_L Γ 30) :: st) :=
  gf_X9_49 hM hd (HAt.mu gst_30) rfl kk
theorem gk_getX9_53 (hM : M.1.cls = RX9) (hd : decode M.2.1 pc = .ok (.getfield 53, 3)) (kk : GG Γ M QF cs (gst Γ h G B) (pc + 3) lv (.ref (g_L Γ 34) :: st)) : GG Γ M QF cs (gst Γ h G B) pc lv (.ref (g_L Γ 30) :: st) :=
  gf_X9_53 hM hd (HAt.mu gst_30) rfl kk
theorem gk_getX9_59 (hM : M.1.cls = RX9) (hd : decode M.2.1 pc = .ok (.getfield 59, 3)) (kk : GG Γ M QF cs (gst Γ h G B) (pc + 3) lv (.ref (g_L Γ 36) :: st)) : GG Γ M QF cs (gst Γ h G B) pc lv (.ref (g_L Γ 30) :: st) :=
  gf_X9_59 hM hd (HAt.mu gst_30) rfl kk
theorem gk_getX9_56 (hM : M.1.cls = RX9) (hd : decode M.2.1 pc = .ok (.getfield 56, 3)) (kk : GG Γ M QF cs (gst Γ h G B) (pc + 3) lv (.ref (g_L Γ 35) :: st)) : GG Γ M QF cs (gst Γ h G B) pc lv (.ref (g_L Γ 30) :: st) :=
  gf_X9_56 hM hd (HAt.mu gst_30) rfl kk
theorem gk_getX9_62 (hM : M.1.cls = RX9) (hd : decode M.2.1 pc = .ok (.getfield 62, 3)) (kk : GG Γ M QF cs (gst Γ h G B) (pc + 3) lv (.ref (g_L Γ 37) :: st)) : GG Γ M QF cs (gst Γ h G B) pc lv (.ref (g_L Γ 30) :: st) :=
  gf_X9_62 hM hd (HAt.mu gst_30) rfl kk
end RowsG
