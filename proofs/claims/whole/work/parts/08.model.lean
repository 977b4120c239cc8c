/-! the reference: one object, 22 rows: F its ints by the number of the field, A its rows by their number -/
def ml9 : Nat → Nat := fun j => match j with
  | 1 => 2609
  | 2 => 2609
  | 3 => 2609
  | 4 => 20872
  | 5 => 60
  | 6 => 6
  | 7 => 61
  | 8 => 12
  | 9 => 12
  | 10 => 12
  | 11 => 144
  | 12 => 12
  | 13 => 12
  | 14 => 12
  | 15 => 12
  | 16 => 144
  | 17 => 144
  | 18 => 144
  | 19 => 10
  | 20 => 12
  | 21 => 12
  | 22 => 121
  | _ => 0

def mk9 : Nat → Nat := fun j => match j with
  | 12 => 2
  | 13 => 2
  | 14 => 2
  | 17 => 2
  | 18 => 2
  | _ => 0

def mo9 (Γ : GT) (F : Nat → Int) : List Value := [.int (iN (F 0)), .ref (g_L Γ 1), .ref (g_L Γ 2), .ref (g_L Γ 3), .ref (g_L Γ 4), .int (iN (F 5)), .int (iN (F 6)), .ref (g_L Γ 5), .int (iN (F 8)), .int (iN (F 9)), .int (iN (F 10)), .int (iN (F 11)), .int (iN (F 12)), .int (iN (F 13)), .ref (g_L Γ 6), .ref (g_L Γ 7), .int (iN (F 16)), .ref (g_L Γ 8), .ref (g_L Γ 9), .ref (g_L Γ 10), .ref (g_L Γ 11), .ref (g_L Γ 12), .ref (g_L Γ 13), .ref (g_L Γ 14), .int (iN (F 24)), .int (iN (F 25)), .ref (g_L Γ 15), .int (iN (F 27)), .int (iN (F 28)), .int (iN (F 29)), .int (iN (F 30)), .ref (g_L Γ 16), .ref (g_L Γ 17), .ref (g_L Γ 18), .int (iN (F 34)), .int (iN (F 35)), .int (iN (F 36)), .int (iN (F 37)), .int (iN (F 38)), .int (iN (F 39)), .int (iN (F 40)), .int (iN (F 41)), .int (iN (F 42)), .ref (g_L Γ 19), .ref (g_L Γ 20), .ref (g_L Γ 21), .ref (g_L Γ 22)]
def mcell (Γ : GT) (F : Nat → Int) (A : Nat → Int → Int) (i : Nat) : XE := match i with
  | 0 => .inr (12, mo9 Γ F)
  | j => .inl (mk9 j, ml9 j, ia (A j))
/-- the heap h with the reference's world in it -/
def mst (Γ : GT) (h : XH) (F : Nat → Int) (A : Nat → Int → Int) : XH := (fun i => if i ≤ 22 then some (mcell Γ F A i) else h.1 i, h.2)
theorem mst_0 {Γ : GT} {h : XH} {F : Nat → Int} {A : Nat → Int → Int} : (mst Γ h F A).1 0 = some (.inr (12, mo9 Γ F)) := rfl
theorem mst_j {Γ : GT} {h : XH} {F : Nat → Int} {A : Nat → Int → Int} {j : Nat} (h1 : 1 ≤ j) (h2 : j ≤ 22) : (mst Γ h F A).1 j = some (.inl (mk9 j, ml9 j, ia (A j))) := by
  unfold mst
  simp only [h2, if_true]
  cases j with
  | zero => omega
  | succ j => rfl
def uF (F : Nat → Int) (k : Nat) (x : Int) : Nat → Int := fun j => if j = k then x else F j
def uA (A : Nat → Int → Int) (k : Nat) (f : Int → Int) : Nat → Int → Int := fun j => if j = k then f else A j
theorem uF_s {F : Nat → Int} {k : Nat} {x : Int} : uF F k x k = x := by simp [uF]
theorem uF_n {F : Nat → Int} {k j : Nat} {x : Int} (h : j ≠ k) : uF F k x j = F j := by simp [uF, h]
theorem uA_s {A : Nat → Int → Int} {k : Nat} {x : Int → Int} : uA A k x k = x := by simp [uA]
theorem uA_n {A : Nat → Int → Int} {k j : Nat} {x : Int → Int} (h : j ≠ k) : uA A k x j = A j := by simp [uA, h]
theorem mst_putA {Γ : GT} {h : XH} {F : Nat → Int} {A : Nat → Int → Int} {j : Nat} {f : Int → Int} (h1 : 1 ≤ j) (h2 : j ≤ 22) : (upX (mst Γ h F A).1 j (.inl (mk9 j, ml9 j, ia f)), (mst Γ h F A).2) = mst Γ h F (uA A j f) := by
  unfold mst
  refine Prod.ext ?_ rfl
  funext i
  show upX _ j _ i = _
  by_cases e : i = j
  · subst e
    rw [upX_s]
    simp only [h2, if_true]
    cases i with
    | zero => omega
    | succ i => simp [mcell, uA]
  · rw [upX_n e]
    by_cases q : i ≤ 22
    · simp only [q, if_true]
      cases i with
      | zero => rfl
      | succ i => simp [mcell, uA, e]
    · simp only [q, if_false]
theorem mst_putF {Γ : GT} {h : XH} {F F' : Nat → Int} {A : Nat → Int → Int} {fs : List Value} (e : fs = mo9 Γ F') : (upX (mst Γ h F A).1 0 (.inr (12, fs)), (mst Γ h F A).2) = mst Γ h F' A := by
  subst e
  unfold mst
  refine Prod.ext ?_ rfl
  funext i
  show upX _ 0 _ i = _
  by_cases e : i = 0
  · subst e
    rw [upX_s]
    rfl
  · rw [upX_n e]
    by_cases q : i ≤ 22
    · simp only [q, if_true]
      cases i with
      | zero => omega
      | succ i => rfl
    · simp only [q, if_false]
theorem uF_ss {F : Nat → Int} {k : Nat} {x y : Int} : uF (uF F k x) k y = uF F k y := by
  funext j
  by_cases h : j = k <;> simp [uF, h]
theorem uF_cc {F : Nat → Int} {k j : Nat} {x y : Int} (h : j < k) : uF (uF F k x) j y = uF (uF F j y) k (id x) := by
  funext i
  by_cases h1 : i = j
  · subst h1; simp [uF, Nat.ne_of_lt h]
  · simp [uF, h1]
theorem uF_id {F : Nat → Int} {k : Nat} : uF F k (F k) = F := by
  funext j
  by_cases h : j = k <;> simp [uF, h]
theorem uF_e {F : Nat → Int} {k : Nat} {v : Int} (h : F k = v) : uF F k v = F := by rw [← h, uF_id]
theorem uA_e {A : Nat → Int → Int} {k : Nat} {v : Int → Int} (h : A k = v) : uA A k v = A := by
  subst h
  funext j
  by_cases h : j = k <;> simp [uA, h]
theorem uA_ss {A : Nat → Int → Int} {k : Nat} {x y : Int → Int} : uA (uA A k x) k y = uA A k y := by
  funext j
  by_cases h : j = k <;> simp [uA, h]
theorem uA_cc {A : Nat → Int → Int} {k j : Nat} {x y : Int → Int} (h : j < k) : uA (uA A k x) j y = uA (uA A j y) k (id x) := by
  funext i
  by_cases h1 : i = j
  · subst h1; simp [uA, Nat.ne_of_lt h]
  · simp [uA, h1]
theorem uA_id {A : Nat → Int → Int} {k : Nat} : uA A k (A k) = A := by
  funext j
  by_cases h : j = k <;> simp [uA, h]
section RowsM
variable {Γ : GT} {M : MT} {QF : List Frame → Array Value → State → State → Prop} {cs : Nat × Nat} {h : XH} {pc : Nat} {lv : List (Option Value)} {st : List Value} {F : Nat → Int} {A : Nat → Int → Int}
theorem gm_iald {j : Nat} {i : Int} (hd : decode M.2.1 pc = .ok (.iaload, 1)) (hj : 1 ≤ j ∧ j ≤ 22) (hk : mk9 j = 0) (hn : ml9 j ≤ 20872) (hi : 0 ≤ i ∧ i < ml9 j) {v : Int} (hv : A j i = v) (k : GG Γ M QF cs (mst Γ h F A) (pc + 1) lv (.int (iN v) :: st)) : GG Γ M QF cs (mst Γ h F A) pc lv (.int (iN i) :: .ref (g_L Γ j) :: st) :=
  gi_iald hd (HAt.mu (by rw [mst_j hj.1 hj.2, hk])) (by omega) hi (by rw [hv]; exact k)
theorem gm_zald {j : Nat} {i : Int} (hd : decode M.2.1 pc = .ok (.baload, 1)) (hj : 1 ≤ j ∧ j ≤ 22) (hk : mk9 j = 2) (hn : ml9 j ≤ 20872) (hi : 0 ≤ i ∧ i < ml9 j) {v : Int} (hv : A j i = v) (k : GG Γ M QF cs (mst Γ h F A) (pc + 1) lv (.int (iN v) :: st)) : GG Γ M QF cs (mst Γ h F A) pc lv (.int (iN i) :: .ref (g_L Γ j) :: st) :=
  gi_zald hd (HAt.mu (by rw [mst_j hj.1 hj.2, hk])) (by omega) hi (by rw [hv]; exact k)
theorem gm_iast {j : Nat} {i x : Int} (hd : decode M.2.1 pc = .ok (.iastore, 1)) (hj : 1 ≤ j ∧ j ≤ 22) (hk : mk9 j = 0) (hn : ml9 j ≤ 20872) (hi : 0 ≤ i ∧ i < ml9 j) {A' : Nat → Int → Int} (hA : uA A j (up (A j) i x) = A') (k : GG Γ M QF cs (mst Γ h F A') (pc + 1) lv st) : GG Γ M QF cs (mst Γ h F A) pc lv (.int (iN x) :: .int (iN i) :: .ref (g_L Γ j) :: st) := by
  refine gi_iast (f := A j) (n := ml9 j) hd (by omega) hi (HPut.mu (by rw [mst_j hj.1 hj.2, hk])) ?_
  rw [← hA, ← mst_putA hj.1 hj.2, hk] at k
  exact k
theorem gm_zast {j : Nat} {i x : Int} (hd : decode M.2.1 pc = .ok (.bastore, 1)) (hj : 1 ≤ j ∧ j ≤ 22) (hk : mk9 j = 2) (hn : ml9 j ≤ 20872) (hi : 0 ≤ i ∧ i < ml9 j) (hx : x = 0 ∨ x = 1) {A' : Nat → Int → Int} (hA : uA A j (up (A j) i x) = A') (k : GG Γ M QF cs (mst Γ h F A') (pc + 1) lv st) : GG Γ M QF cs (mst Γ h F A) pc lv (.int (iN x) :: .int (iN i) :: .ref (g_L Γ j) :: st) := by
  refine gi_zast (f := A j) (n := ml9 j) hd (by omega) hi hx (HPut.mu (by rw [mst_j hj.1 hj.2, hk])) ?_
  rw [← hA, ← mst_putA hj.1 hj.2, hk] at k
  exact k
theorem gm_get3 {x : Int} (hM : M.1.cls = RX10) (hd : decode M.2.1 pc = .ok (.getfield 3, 3)) (hx : F 0 = x) (kk : GG Γ M QF cs (mst Γ h F A) (pc + 3) lv (.int (iN x) :: st)) : GG Γ M QF cs (mst Γ h F A) pc lv (.ref (g_L Γ 0) :: st) :=
  gf_X10_3 hM hd (HAt.mu mst_0) rfl (by rw [hx]; exact kk)
theorem gm_put3 {x : Int} (hM : M.1.cls = RX10) (hd : decode M.2.1 pc = .ok (.putfield 3, 3)) {F' : Nat → Int} (hF : uF F 0 x = F') (kk : GG Γ M QF cs (mst Γ h F' A) (pc + 3) lv st) : GG Γ M QF cs (mst Γ h F A) pc lv (.int (iN x) :: .ref (g_L Γ 0) :: st) :=
  gp_X10_3 hM hd (Nat.le_of_ble_eq_true rfl) rfl rfl (HPut.mu mst_0) (by rw [mst_putF (F' := uF F 0 x) (by simp [mo9, uF]), hF]; exact kk)
theorem gm_put26 {x : Int} (hM : M.1.cls = RX10) (hd : decode M.2.1 pc = .ok (.putfield 26, 3)) {F' : Nat → Int} (hF : uF F 5 x = F') (kk : GG Γ M QF cs (mst Γ h F' A) (pc + 3) lv st) : GG Γ M QF cs (mst Γ h F A) pc lv (.int (iN x) :: .ref (g_L Γ 0) :: st) :=
  gp_X10_26 hM hd (Nat.le_of_ble_eq_true rfl) rfl rfl (HPut.mu mst_0) (by rw [mst_putF (F' := uF F 5 x) (by simp [mo9, uF]), hF]; exact kk)
theorem gm_put29 {x : Int} (hM : M.1.cls = RX10) (hd : decode M.2.1 pc = .ok (.putfield 29, 3)) (hx : x = 0 ∨ x = 1) {F' : Nat → Int} (hF : uF F 6 x = F') (kk : GG Γ M QF cs (mst Γ h F' A) (pc + 3) lv st) : GG Γ M QF cs (mst Γ h F A) pc lv (.int (iN x) :: .ref (g_L Γ 0) :: st) :=
  gp_X10_29 hM hd (Nat.le_of_ble_eq_true rfl) (nar_bool hx) (fit_bool hx) (HPut.mu mst_0) (by rw [mst_putF (F' := uF F 6 x) (by simp [mo9, uF]), hF]; exact kk)
theorem gm_put36 {x : Int} (hM : M.1.cls = RX10) (hd : decode M.2.1 pc = .ok (.putfield 36, 3)) {F' : Nat → Int} (hF : uF F 8 x = F') (kk : GG Γ M QF cs (mst Γ h F' A) (pc + 3) lv st) : GG Γ M QF cs (mst Γ h F A) pc lv (.int (iN x) :: .ref (g_L Γ 0) :: st) :=
  gp_X10_36 hM hd (Nat.le_of_ble_eq_true rfl) rfl rfl (HPut.mu mst_0) (by rw [mst_putF (F' := uF F 8 x) (by simp [mo9, uF]), hF]; exact kk)
theorem gm_put39 {x : Int} (hM : M.1.cls = RX10) (hd : decode M.2.1 pc = .ok (.putfield 39, 3)) {F' : Nat → Int} (hF : uF F 9 x = F') (kk : GG Γ M QF cs (mst Γ h F' A) (pc + 3) lv st) : GG Γ M QF cs (mst Γ h F A) pc lv (.int (iN x) :: .ref (g_L Γ 0) :: st) :=
  gp_X10_39 hM hd (Nat.le_of_ble_eq_true rfl) rfl rfl (HPut.mu mst_0) (by rw [mst_putF (F' := uF F 9 x) (by simp [mo9, uF]), hF]; exact kk)
theorem gm_put42 {x : Int} (hM : M.1.cls = RX10) (hd : decode M.2.1 pc = .ok (.putfield 42, 3)) {F' : Nat → Int} (hF : uF F 10 x = F') (kk : GG Γ M QF cs (mst Γ h F' A) (pc + 3) lv st) : GG Γ M QF cs (mst Γ h F A) pc lv (.int (iN x) :: .ref (g_L Γ 0) :: st) :=
  gp_X10_42 hM hd (Nat.le_of_ble_eq_true rfl) rfl rfl (HPut.mu mst_0) (by rw [mst_putF (F' := uF F 10 x) (by simp [mo9, uF]), hF]; exact kk)
theorem gm_put45 {x : Int} (hM : M.1.cls = RX10) (hd : decode M.2.1 pc = .ok (.putfield 45, 3)) (hx : x = 0 ∨ x = 1) {F' : Nat → Int} (hF : uF F 11 x = F') (kk : GG Γ M QF cs (mst Γ h F' A) (pc + 3) lv st) : GG Γ M QF cs (mst Γ h F A) pc lv (.int (iN x) :: .ref (g_L Γ 0) :: st) :=
  gp_X10_45 hM hd (Nat.le_of_ble_eq_true rfl) (nar_bool hx) (fit_bool hx) (HPut.mu mst_0) (by rw [mst_putF (F' := uF F 11 x) (by simp [mo9, uF]), hF]; exact kk)
theorem gm_put48 {x : Int} (hM : M.1.cls = RX10) (hd : decode M.2.1 pc = .ok (.putfield 48, 3)) {F' : Nat → Int} (hF : uF F 12 x = F') (kk : GG Γ M QF cs (mst Γ h F' A) (pc + 3) lv st) : GG Γ M QF cs (mst Γ h F A) pc lv (.int (iN x) :: .ref (g_L Γ 0) :: st) :=
  gp_X10_48 hM hd (Nat.le_of_ble_eq_true rfl) rfl rfl (HPut.mu mst_0) (by rw [mst_putF (F' := uF F 12 x) (by simp [mo9, uF]), hF]; exact kk)
theorem gm_put51 {x : Int} (hM : M.1.cls = RX10) (hd : decode M.2.1 pc = .ok (.putfield 51, 3)) {F' : Nat → Int} (hF : uF F 13 x = F') (kk : GG Γ M QF cs (mst Γ h F' A) (pc + 3) lv st) : GG Γ M QF cs (mst Γ h F A) pc lv (.int (iN x) :: .ref (g_L Γ 0) :: st) :=
  gp_X10_51 hM hd (Nat.le_of_ble_eq_true rfl) rfl rfl (HPut.mu mst_0) (by rw [mst_putF (F' := uF F 13 x) (by simp [mo9, uF]), hF]; exact kk)
theorem gm_put60 {x : Int} (hM : M.1.cls = RX10) (hd : decode M.2.1 pc = .ok (.putfield 60, 3)) {F' : Nat → Int} (hF : uF F 16 x = F') (kk : GG Γ M QF cs (mst Γ h F' A) (pc + 3) lv st) : GG Γ M QF cs (mst Γ h F A) pc lv (.int (iN x) :: .ref (g_L Γ 0) :: st) :=
  gp_X10_60 hM hd (Nat.le_of_ble_eq_true rfl) rfl rfl (HPut.mu mst_0) (by rw [mst_putF (F' := uF F 16 x) (by simp [mo9, uF]), hF]; exact kk)
theorem gm_put85 {x : Int} (hM : M.1.cls = RX10) (hd : decode M.2.1 pc = .ok (.putfield 85, 3)) {F' : Nat → Int} (hF : uF F 24 x = F') (kk : GG Γ M QF cs (mst Γ h F' A) (pc + 3) lv st) : GG Γ M QF cs (mst Γ h F A) pc lv (.int (iN x) :: .ref (g_L Γ 0) :: st) :=
  gp_X10_85 hM hd (Nat.le_of_ble_eq_true rfl) rfl rfl (HPut.mu mst_0) (by rw [mst_putF (F' := uF F 24 x) (by simp [mo9, uF]), hF]; exact kk)
theorem gm_put88 {x : Int} (hM : M.1.cls = RX10) (hd : decode M.2.1 pc = .ok (.putfield 88, 3)) (hx : x = 0 ∨ x = 1) {F' : Nat → Int} (hF : uF F 25 x = F') (kk : GG Γ M QF cs (mst Γ h F' A) (pc + 3) lv st) : GG Γ M QF cs (mst Γ h F A) pc lv (.int (iN x) :: .ref (g_L Γ 0) :: st) :=
  gp_X10_88 hM hd (Nat.le_of_ble_eq_true rfl) (nar_bool hx) (fit_bool hx) (HPut.mu mst_0) (by rw [mst_putF (F' := uF F 25 x) (by simp [mo9, uF]), hF]; exact kk)
theorem gm_put94 {x : Int} (hM : M.1.cls = RX10) (hd : decode M.2.1 pc = .ok (.putfield 94, 3)) {F' : Nat → Int} (hF : uF F 27 x = F') (kk : GG Γ M QF cs (mst Γ h F' A) (pc + 3) lv st) : GG Γ M QF cs (mst Γ h F A) pc lv (.int (iN x) :: .ref (g_L Γ 0) :: st) :=
  gp_X10_94 hM hd (Nat.le_of_ble_eq_true rfl) rfl rfl (HPut.mu mst_0) (by rw [mst_putF (F' := uF F 27 x) (by simp [mo9, uF]), hF]; exact kk)
theorem gm_put97 {x : Int} (hM : M.1.cls = RX10) (hd : decode M.2.1 pc = .ok (.putfield 97, 3)) {F' : Nat → Int} (hF : uF F 28 x = F') (kk : GG Γ M QF cs (mst Γ h F' A) (pc + 3) lv st) : GG Γ M QF cs (mst Γ h F A) pc lv (.int (iN x) :: .ref (g_L Γ 0) :: st) :=
  gp_X10_97 hM hd (Nat.le_of_ble_eq_true rfl) rfl rfl (HPut.mu mst_0) (by rw [mst_putF (F' := uF F 28 x) (by simp [mo9, uF]), hF]; exact kk)
theorem gm_put100 {x : Int} (hM : M.1.cls = RX10) (hd : decode M.2.1 pc = .ok (.putfield 100, 3)) {F' : Nat → Int} (hF : uF F 29 x = F') (kk : GG Γ M QF cs (mst Γ h F' A) (pc + 3) lv st) : GG Γ M QF cs (mst Γ h F A) pc lv (.int (iN x) :: .ref (g_L Γ 0) :: st) :=
  gp_X10_100 hM hd (Nat.le_of_ble_eq_true rfl) rfl rfl (HPut.mu mst_0) (by rw [mst_putF (F' := uF F 29 x) (by simp [mo9, uF]), hF]; exact kk)
theorem gm_put103 {x : Int} (hM : M.1.cls = RX10) (hd : decode M.2.1 pc = .ok (.putfield 103, 3)) {F' : Nat → Int} (hF : uF F 30 x = F') (kk : GG Γ M QF cs (mst Γ h F' A) (pc + 3) lv st) : GG Γ M QF cs (mst Γ h F A) pc lv (.int (iN x) :: .ref (g_L Γ 0) :: st) :=
  gp_X10_103 hM hd (Nat.le_of_ble_eq_true rfl) rfl rfl (HPut.mu mst_0) (by rw [mst_putF (F' := uF F 30 x) (by simp [mo9, uF]), hF]; exact kk)
theorem gm_put115 {x : Int} (hM : M.1.cls = RX10) (hd : decode M.2.1 pc = .ok (.putfield 115, 3)) {F' : Nat → Int} (hF : uF F 34 x = F') (kk : GG Γ M QF cs (mst Γ h F' A) (pc + 3) lv st) : GG Γ M QF cs (mst Γ h F A) pc lv (.int (iN x) :: .ref (g_L Γ 0) :: st) :=
  gp_X10_115 hM hd (Nat.le_of_ble_eq_true rfl) rfl rfl (HPut.mu mst_0) (by rw [mst_putF (F' := uF F 34 x) (by simp [mo9, uF]), hF]; exact kk)
theorem gm_put118 {x : Int} (hM : M.1.cls = RX10) (hd : decode M.2.1 pc = .ok (.putfield 118, 3)) {F' : Nat → Int} (hF : uF F 35 x = F') (kk : GG Γ M QF cs (mst Γ h F' A) (pc + 3) lv st) : GG Γ M QF cs (mst Γ h F A) pc lv (.int (iN x) :: .ref (g_L Γ 0) :: st) :=
  gp_X10_118 hM hd (Nat.le_of_ble_eq_true rfl) rfl rfl (HPut.mu mst_0) (by rw [mst_putF (F' := uF F 35 x) (by simp [mo9, uF]), hF]; exact kk)
theorem gm_put121 {x : Int} (hM : M.1.cls = RX10) (hd : decode M.2.1 pc = .ok (.putfield 121, 3)) {F' : Nat → Int} (hF : uF F 36 x = F') (kk : GG Γ M QF cs (mst Γ h F' A) (pc + 3) lv st) : GG Γ M QF cs (mst Γ h F A) pc lv (.int (iN x) :: .ref (g_L Γ 0) :: st) :=
  gp_X10_121 hM hd (Nat.le_of_ble_eq_true rfl) rfl rfl (HPut.mu mst_0) (by rw [mst_putF (F' := uF F 36 x) (by simp [mo9, uF]), hF]; exact kk)
theorem gm_put124 {x : Int} (hM : M.1.cls = RX10) (hd : decode M.2.1 pc = .ok (.putfield 124, 3)) {F' : Nat → Int} (hF : uF F 37 x = F') (kk : GG Γ M QF cs (mst Γ h F' A) (pc + 3) lv st) : GG Γ M QF cs (mst Γ h F A) pc lv (.int (iN x) :: .ref (g_L Γ 0) :: st) :=
  gp_X10_124 hM hd (Nat.le_of_ble_eq_true rfl) rfl rfl (HPut.mu mst_0) (by rw [mst_putF (F' := uF F 37 x) (by simp [mo9, uF]), hF]; exact kk)
theorem gm_put127 {x : Int} (hM : M.1.cls = RX10) (hd : decode M.2.1 pc = .ok (.putfield 127, 3)) (hx : x = 0 ∨ x = 1) {F' : Nat → Int} (hF : uF F 38 x = F') (kk : GG Γ M QF cs (mst Γ h F' A) (pc + 3) lv st) : GG Γ M QF cs (mst Γ h F A) pc lv (.int (iN x) :: .ref (g_L Γ 0) :: st) :=
  gp_X10_127 hM hd (Nat.le_of_ble_eq_true rfl) (nar_bool hx) (fit_bool hx) (HPut.mu mst_0) (by rw [mst_putF (F' := uF F 38 x) (by simp [mo9, uF]), hF]; exact kk)
theorem gm_put130 {x : Int} (hM : M.1.cls = RX10) (hd : decode M.2.1 pc = .ok (.putfield 130, 3)) {F' : Nat → Int} (hF : uF F 39 x = F') (kk : GG Γ M QF cs (mst Γ h F' A) (pc + 3) lv st) : GG Γ M QF cs (mst Γ h F A) pc lv (.int (iN x) :: .ref (g_L Γ 0) :: st) :=
  gp_X10_130 hM hd (Nat.le_of_ble_eq_true rfl) rfl rfl (HPut.mu mst_0) (by rw [mst_putF (F' := uF F 39 x) (by simp [mo9, uF]), hF]; exact kk)
theorem gm_put133 {x : Int} (hM : M.1.cls = RX10) (hd : decode M.2.1 pc = .ok (.putfield 133, 3)) {F' : Nat → Int} (hF : uF F 40 x = F') (kk : GG Γ M QF cs (mst Γ h F' A) (pc + 3) lv st) : GG Γ M QF cs (mst Γ h F A) pc lv (.int (iN x) :: .ref (g_L Γ 0) :: st) :=
  gp_X10_133 hM hd (Nat.le_of_ble_eq_true rfl) rfl rfl (HPut.mu mst_0) (by rw [mst_putF (F' := uF F 40 x) (by simp [mo9, uF]), hF]; exact kk)
theorem gm_put136 {x : Int} (hM : M.1.cls = RX10) (hd : decode M.2.1 pc = .ok (.putfield 136, 3)) {F' : Nat → Int} (hF : uF F 41 x = F') (kk : GG Γ M QF cs (mst Γ h F' A) (pc + 3) lv st) : GG Γ M QF cs (mst Γ h F A) pc lv (.int (iN x) :: .ref (g_L Γ 0) :: st) :=
  gp_X10_136 hM hd (Nat.le_of_ble_eq_true rfl) rfl rfl (HPut.mu mst_0) (by rw [mst_putF (F' := uF F 41 x) (by simp [mo9, uF]), hF]; exact kk)
theorem gm_put139 {x : Int} (hM : M.1.cls = RX10) (hd : decode M.2.1 pc = .ok (.putfield 139, 3)) {F' : Nat → Int} (hF : uF F 42 x = F') (kk : GG Γ M QF cs (mst Γ h F' A) (pc + 3) lv st) : GG Γ M QF cs (mst Γ h F A) pc lv (.int (iN x) :: .ref (g_L Γ 0) :: st) :=
  gp_X10_139 hM hd (Nat.le_of_ble_eq_true rfl) rfl rfl (HPut.mu mst_0) (by rw [mst_putF (F' := uF F 42 x) (by simp [mo9, uF]), hF]; exact kk)
theorem gm_get13 (hM : M.1.cls = RX10) (hd : decode M.2.1 pc = .ok (.getfield 13, 3)) (kk : GG Γ M QF cs (mst Γ h F A) (pc + 3) lv (.ref (g_L Γ 1) :: st)) : GG Γ M QF cs (mst Γ h F A) pc lv (.ref (g_L Γ 0) :: st) :=
  gf_X10_13 hM hd (HAt.mu mst_0) rfl kk
theorem gm_get26 {x : Int} (hM : M.1.cls = RX10) (hd : decode M.2.1 pc = .ok (.getfield 26, 3)) (hx : F 5 = x) (kk : GG Γ M QF cs (mst Γ h F A) (pc + 3) lv (.int (iN x) :: st)) : GG Γ M QF cs (mst Γ h F A) pc lv (.ref (g_L Γ 0) :: st) :=
  gf_X10_26 hM hd (HAt.mu mst_0) rfl (by rw [hx]; exact kk)
theorem gm_get23 (hM : M.1.cls = RX10) (hd : decode M.2.1 pc = .ok (.getfield 23, 3)) (kk : GG Γ M QF cs (mst Γ h F A) (pc + 3) lv (.ref (g_L Γ 4) :: st)) : GG Γ M QF cs (mst Γ h F A) pc lv (.ref (g_L Γ 0) :: st) :=
  gf_X10_23 hM hd (HAt.mu mst_0) rfl kk
theorem gm_get36 {x : Int} (hM : M.1.cls = RX10) (hd : decode M.2.1 pc = .ok (.getfield 36, 3)) (hx : F 8 = x) (kk : GG Γ M QF cs (mst Γ h F A) (pc + 3) lv (.int (iN x) :: st)) : GG Γ M QF cs (mst Γ h F A) pc lv (.ref (g_L Γ 0) :: st) :=
  gf_X10_36 hM hd (HAt.mu mst_0) rfl (by rw [hx]; exact kk)
theorem gm_get33 (hM : M.1.cls = RX10) (hd : decode M.2.1 pc = .ok (.getfield 33, 3)) (kk : GG Γ M QF cs (mst Γ h F A) (pc + 3) lv (.ref (g_L Γ 5) :: st)) : GG Γ M QF cs (mst Γ h F A) pc lv (.ref (g_L Γ 0) :: st) :=
  gf_X10_33 hM hd (HAt.mu mst_0) rfl kk
theorem gm_get42 {x : Int} (hM : M.1.cls = RX10) (hd : decode M.2.1 pc = .ok (.getfield 42, 3)) (hx : F 10 = x) (kk : GG Γ M QF cs (mst Γ h F A) (pc + 3) lv (.int (iN x) :: st)) : GG Γ M QF cs (mst Γ h F A) pc lv (.ref (g_L Γ 0) :: st) :=
  gf_X10_42 hM hd (HAt.mu mst_0) rfl (by rw [hx]; exact kk)
theorem gm_get45 {x : Int} (hM : M.1.cls = RX10) (hd : decode M.2.1 pc = .ok (.getfield 45, 3)) (hx : F 11 = x) (kk : GG Γ M QF cs (mst Γ h F A) (pc + 3) lv (.int (iN x) :: st)) : GG Γ M QF cs (mst Γ h F A) pc lv (.ref (g_L Γ 0) :: st) :=
  gf_X10_45 hM hd (HAt.mu mst_0) rfl (by rw [hx]; exact kk)
theorem gm_get39 {x : Int} (hM : M.1.cls = RX10) (hd : decode M.2.1 pc = .ok (.getfield 39, 3)) (hx : F 9 = x) (kk : GG Γ M QF cs (mst Γ h F A) (pc + 3) lv (.int (iN x) :: st)) : GG Γ M QF cs (mst Γ h F A) pc lv (.ref (g_L Γ 0) :: st) :=
  gf_X10_39 hM hd (HAt.mu mst_0) rfl (by rw [hx]; exact kk)
theorem gm_get51 {x : Int} (hM : M.1.cls = RX10) (hd : decode M.2.1 pc = .ok (.getfield 51, 3)) (hx : F 13 = x) (kk : GG Γ M QF cs (mst Γ h F A) (pc + 3) lv (.int (iN x) :: st)) : GG Γ M QF cs (mst Γ h F A) pc lv (.ref (g_L Γ 0) :: st) :=
  gf_X10_51 hM hd (HAt.mu mst_0) rfl (by rw [hx]; exact kk)
theorem gm_get54 (hM : M.1.cls = RX10) (hd : decode M.2.1 pc = .ok (.getfield 54, 3)) (kk : GG Γ M QF cs (mst Γ h F A) (pc + 3) lv (.ref (g_L Γ 6) :: st)) : GG Γ M QF cs (mst Γ h F A) pc lv (.ref (g_L Γ 0) :: st) :=
  gf_X10_54 hM hd (HAt.mu mst_0) rfl kk
theorem gm_get48 {x : Int} (hM : M.1.cls = RX10) (hd : decode M.2.1 pc = .ok (.getfield 48, 3)) (hx : F 12 = x) (kk : GG Γ M QF cs (mst Γ h F A) (pc + 3) lv (.int (iN x) :: st)) : GG Γ M QF cs (mst Γ h F A) pc lv (.ref (g_L Γ 0) :: st) :=
  gf_X10_48 hM hd (HAt.mu mst_0) rfl (by rw [hx]; exact kk)
theorem gm_get57 (hM : M.1.cls = RX10) (hd : decode M.2.1 pc = .ok (.getfield 57, 3)) (kk : GG Γ M QF cs (mst Γ h F A) (pc + 3) lv (.ref (g_L Γ 7) :: st)) : GG Γ M QF cs (mst Γ h F A) pc lv (.ref (g_L Γ 0) :: st) :=
  gf_X10_57 hM hd (HAt.mu mst_0) rfl kk
theorem gm_get63 (hM : M.1.cls = RX10) (hd : decode M.2.1 pc = .ok (.getfield 63, 3)) (kk : GG Γ M QF cs (mst Γ h F A) (pc + 3) lv (.ref (g_L Γ 8) :: st)) : GG Γ M QF cs (mst Γ h F A) pc lv (.ref (g_L Γ 0) :: st) :=
  gf_X10_63 hM hd (HAt.mu mst_0) rfl kk
theorem gm_get66 (hM : M.1.cls = RX10) (hd : decode M.2.1 pc = .ok (.getfield 66, 3)) (kk : GG Γ M QF cs (mst Γ h F A) (pc + 3) lv (.ref (g_L Γ 9) :: st)) : GG Γ M QF cs (mst Γ h F A) pc lv (.ref (g_L Γ 0) :: st) :=
  gf_X10_66 hM hd (HAt.mu mst_0) rfl kk
theorem gm_get91 (hM : M.1.cls = RX10) (hd : decode M.2.1 pc = .ok (.getfield 91, 3)) (kk : GG Γ M QF cs (mst Γ h F A) (pc + 3) lv (.ref (g_L Γ 15) :: st)) : GG Γ M QF cs (mst Γ h F A) pc lv (.ref (g_L Γ 0) :: st) :=
  gf_X10_91 hM hd (HAt.mu mst_0) rfl kk
theorem gm_get85 {x : Int} (hM : M.1.cls = RX10) (hd : decode M.2.1 pc = .ok (.getfield 85, 3)) (hx : F 24 = x) (kk : GG Γ M QF cs (mst Γ h F A) (pc + 3) lv (.int (iN x) :: st)) : GG Γ M QF cs (mst Γ h F A) pc lv (.ref (g_L Γ 0) :: st) :=
  gf_X10_85 hM hd (HAt.mu mst_0) rfl (by rw [hx]; exact kk)
theorem gm_get79 (hM : M.1.cls = RX10) (hd : decode M.2.1 pc = .ok (.getfield 79, 3)) (kk : GG Γ M QF cs (mst Γ h F A) (pc + 3) lv (.ref (g_L Γ 13) :: st)) : GG Γ M QF cs (mst Γ h F A) pc lv (.ref (g_L Γ 0) :: st) :=
  gf_X10_79 hM hd (HAt.mu mst_0) rfl kk
theorem gm_get88 {x : Int} (hM : M.1.cls = RX10) (hd : decode M.2.1 pc = .ok (.getfield 88, 3)) (hx : F 25 = x) (kk : GG Γ M QF cs (mst Γ h F A) (pc + 3) lv (.int (iN x) :: st)) : GG Γ M QF cs (mst Γ h F A) pc lv (.ref (g_L Γ 0) :: st) :=
  gf_X10_88 hM hd (HAt.mu mst_0) rfl (by rw [hx]; exact kk)
theorem gm_get69 (hM : M.1.cls = RX10) (hd : decode M.2.1 pc = .ok (.getfield 69, 3)) (kk : GG Γ M QF cs (mst Γ h F A) (pc + 3) lv (.ref (g_L Γ 10) :: st)) : GG Γ M QF cs (mst Γ h F A) pc lv (.ref (g_L Γ 0) :: st) :=
  gf_X10_69 hM hd (HAt.mu mst_0) rfl kk
theorem gm_get72 (hM : M.1.cls = RX10) (hd : decode M.2.1 pc = .ok (.getfield 72, 3)) (kk : GG Γ M QF cs (mst Γ h F A) (pc + 3) lv (.ref (g_L Γ 11) :: st)) : GG Γ M QF cs (mst Γ h F A) pc lv (.ref (g_L Γ 0) :: st) :=
  gf_X10_72 hM hd (HAt.mu mst_0) rfl kk
theorem gm_get60 {x : Int} (hM : M.1.cls = RX10) (hd : decode M.2.1 pc = .ok (.getfield 60, 3)) (hx : F 16 = x) (kk : GG Γ M QF cs (mst Γ h F A) (pc + 3) lv (.int (iN x) :: st)) : GG Γ M QF cs (mst Γ h F A) pc lv (.ref (g_L Γ 0) :: st) :=
  gf_X10_60 hM hd (HAt.mu mst_0) rfl (by rw [hx]; exact kk)
theorem gm_get75 (hM : M.1.cls = RX10) (hd : decode M.2.1 pc = .ok (.getfield 75, 3)) (kk : GG Γ M QF cs (mst Γ h F A) (pc + 3) lv (.ref (g_L Γ 12) :: st)) : GG Γ M QF cs (mst Γ h F A) pc lv (.ref (g_L Γ 0) :: st) :=
  gf_X10_75 hM hd (HAt.mu mst_0) rfl kk
theorem gm_get82 (hM : M.1.cls = RX10) (hd : decode M.2.1 pc = .ok (.getfield 82, 3)) (kk : GG Γ M QF cs (mst Γ h F A) (pc + 3) lv (.ref (g_L Γ 14) :: st)) : GG Γ M QF cs (mst Γ h F A) pc lv (.ref (g_L Γ 0) :: st) :=
  gf_X10_82 hM hd (HAt.mu mst_0) rfl kk
theorem gm_get97 {x : Int} (hM : M.1.cls = RX10) (hd : decode M.2.1 pc = .ok (.getfield 97, 3)) (hx : F 28 = x) (kk : GG Γ M QF cs (mst Γ h F A) (pc + 3) lv (.int (iN x) :: st)) : GG Γ M QF cs (mst Γ h F A) pc lv (.ref (g_L Γ 0) :: st) :=
  gf_X10_97 hM hd (HAt.mu mst_0) rfl (by rw [hx]; exact kk)
theorem gm_get94 {x : Int} (hM : M.1.cls = RX10) (hd : decode M.2.1 pc = .ok (.getfield 94, 3)) (hx : F 27 = x) (kk : GG Γ M QF cs (mst Γ h F A) (pc + 3) lv (.int (iN x) :: st)) : GG Γ M QF cs (mst Γ h F A) pc lv (.ref (g_L Γ 0) :: st) :=
  gf_X10_94 hM hd (HAt.mu mst_0) rfl (by rw [hx]; exact kk)
theorem gm_get106 (hM : M.1.cls = RX10) (hd : decode M.2.1 pc = .ok (.getfield 106, 3)) (kk : GG Γ M QF cs (mst Γ h F A) (pc + 3) lv (.ref (g_L Γ 16) :: st)) : GG Γ M QF cs (mst Γ h F A) pc lv (.ref (g_L Γ 0) :: st) :=
  gf_X10_106 hM hd (HAt.mu mst_0) rfl kk
theorem gm_get103 {x : Int} (hM : M.1.cls = RX10) (hd : decode M.2.1 pc = .ok (.getfield 103, 3)) (hx : F 30 = x) (kk : GG Γ M QF cs (mst Γ h F A) (pc + 3) lv (.int (iN x) :: st)) : GG Γ M QF cs (mst Γ h F A) pc lv (.ref (g_L Γ 0) :: st) :=
  gf_X10_103 hM hd (HAt.mu mst_0) rfl (by rw [hx]; exact kk)
theorem gm_get109 (hM : M.1.cls = RX10) (hd : decode M.2.1 pc = .ok (.getfield 109, 3)) (kk : GG Γ M QF cs (mst Γ h F A) (pc + 3) lv (.ref (g_L Γ 17) :: st)) : GG Γ M QF cs (mst Γ h F A) pc lv (.ref (g_L Γ 0) :: st) :=
  gf_X10_109 hM hd (HAt.mu mst_0) rfl kk
theorem gm_get112 (hM : M.1.cls = RX10) (hd : decode M.2.1 pc = .ok (.getfield 112, 3)) (kk : GG Γ M QF cs (mst Γ h F A) (pc + 3) lv (.ref (g_L Γ 18) :: st)) : GG Γ M QF cs (mst Γ h F A) pc lv (.ref (g_L Γ 0) :: st) :=
  gf_X10_112 hM hd (HAt.mu mst_0) rfl kk
theorem gm_get100 {x : Int} (hM : M.1.cls = RX10) (hd : decode M.2.1 pc = .ok (.getfield 100, 3)) (hx : F 29 = x) (kk : GG Γ M QF cs (mst Γ h F A) (pc + 3) lv (.int (iN x) :: st)) : GG Γ M QF cs (mst Γ h F A) pc lv (.ref (g_L Γ 0) :: st) :=
  gf_X10_100 hM hd (HAt.mu mst_0) rfl (by rw [hx]; exact kk)
theorem gm_get124 {x : Int} (hM : M.1.cls = RX10) (hd : decode M.2.1 pc = .ok (.getfield 124, 3)) (hx : F 37 = x) (kk : GG Γ M QF cs (mst Γ h F A) (pc + 3) lv (.int (iN x) :: st)) : GG Γ M QF cs (mst Γ h F A) pc lv (.ref (g_L Γ 0) :: st) :=
  gf_X10_124 hM hd (HAt.mu mst_0) rfl (by rw [hx]; exact kk)
theorem gm_get115 {x : Int} (hM : M.1.cls = RX10) (hd : decode M.2.1 pc = .ok (.getfield 115, 3)) (hx : F 34 = x) (kk : GG Γ M QF cs (mst Γ h F A) (pc + 3) lv (.int (iN x) :: st)) : GG Γ M QF cs (mst Γ h F A) pc lv (.ref (g_L Γ 0) :: st) :=
  gf_X10_115 hM hd (HAt.mu mst_0) rfl (by rw [hx]; exact kk)
theorem gm_get118 {x : Int} (hM : M.1.cls = RX10) (hd : decode M.2.1 pc = .ok (.getfield 118, 3)) (hx : F 35 = x) (kk : GG Γ M QF cs (mst Γ h F A) (pc + 3) lv (.int (iN x) :: st)) : GG Γ M QF cs (mst Γ h F A) pc lv (.ref (g_L Γ 0) :: st) :=
  gf_X10_118 hM hd (HAt.mu mst_0) rfl (by rw [hx]; exact kk)
theorem gm_get127 {x : Int} (hM : M.1.cls = RX10) (hd : decode M.2.1 pc = .ok (.getfield 127, 3)) (hx : F 38 = x) (kk : GG Γ M QF cs (mst Γ h F A) (pc + 3) lv (.int (iN x) :: st)) : GG Γ M QF cs (mst Γ h F A) pc lv (.ref (g_L Γ 0) :: st) :=
  gf_X10_127 hM hd (HAt.mu mst_0) rfl (by rw [hx]; exact kk)
theorem gm_get121 {x : Int} (hM : M.1.cls = RX10) (hd : decode M.2.1 pc = .ok (.getfield 121, 3)) (hx : F 36 = x) (kk : GG Γ M QF cs (mst Γ h F A) (pc + 3) lv (.int (iN x) :: st)) : GG Γ M QF cs (mst Γ h F A) pc lv (.ref (g_L Γ 0) :: st) :=
  gf_X10_121 hM hd (HAt.mu mst_0) rfl (by rw [hx]; exact kk)
theorem gm_get130 {x : Int} (hM : M.1.cls = RX10) (hd : decode M.2.1 pc = .ok (.getfield 130, 3)) (hx : F 39 = x) (kk : GG Γ M QF cs (mst Γ h F A) (pc + 3) lv (.int (iN x) :: st)) : GG Γ M QF cs (mst Γ h F A) pc lv (.ref (g_L Γ 0) :: st) :=
  gf_X10_130 hM hd (HAt.mu mst_0) rfl (by rw [hx]; exact kk)
theorem gm_get133 {x : Int} (hM : M.1.cls = RX10) (hd : decode M.2.1 pc = .ok (.getfield 133, 3)) (hx : F 40 = x) (kk : GG Γ M QF cs (mst Γ h F A) (pc + 3) lv (.int (iN x) :: st)) : GG Γ M QF cs (mst Γ h F A) pc lv (.ref (g_L Γ 0) :: st) :=
  gf_X10_133 hM hd (HAt.mu mst_0) rfl (by rw [hx]; exact kk)
theorem gm_get142 (hM : M.1.cls = RX10) (hd : decode M.2.1 pc = .ok (.getfield 142, 3)) (kk : GG Γ M QF cs (mst Γ h F A) (pc + 3) lv (.ref (g_L Γ 19) :: st)) : GG Γ M QF cs (mst Γ h F A) pc lv (.ref (g_L Γ 0) :: st) :=
  gf_X10_142 hM hd (HAt.mu mst_0) rfl kk
theorem gm_get145 (hM : M.1.cls = RX10) (hd : decode M.2.1 pc = .ok (.getfield 145, 3)) (kk : GG Γ M QF cs (mst Γ h F A) (pc + 3) lv (.ref (g_L Γ 20) :: st)) : GG Γ M QF cs (mst Γ h F A) pc lv (.ref (g_L Γ 0) :: st) :=
  gf_X10_145 hM hd (HAt.mu mst_0) rfl kk
theorem gm_get148 (hM : M.1.cls = RX10) (hd : decode M.2.1 pc = .ok (.getfield 148, 3)) (kk : GG Γ M QF cs (mst Γ h F A) (pc + 3) lv (.ref (g_L Γ 21) :: st)) : GG Γ M QF cs (mst Γ h F A) pc lv (.ref (g_L Γ 0) :: st) :=
  gf_X10_148 hM hd (HAt.mu mst_0) rfl kk
theorem gm_get151 (hM : M.1.cls = RX10) (hd : decode M.2.1 pc = .ok (.getfield 151, 3)) (kk : GG Γ M QF cs (mst Γ h F A) (pc + 3) lv (.ref (g_L Γ 22) :: st)) : GG Γ M QF cs (mst Γ h F A) pc lv (.ref (g_L Γ 0) :: st) :=
  gf_X10_151 hM hd (HAt.mu mst_0) rfl kk
theorem gm_get20 (hM : M.1.cls = RX10) (hd : decode M.2.1 pc = .ok (.getfield 20, 3)) (kk : GG Γ M QF cs (mst Γ h F A) (pc + 3) lv (.ref (g_L Γ 3) :: st)) : GG Γ M QF cs (mst Γ h F A) pc lv (.ref (g_L Γ 0) :: st) :=
  gf_X10_20 hM hd (HAt.mu mst_0) rfl kk
theorem gm_get29 {x : Int} (hM : M.1.cls = RX10) (hd : decode M.2.1 pc = .ok (.getfield 29, 3)) (hx : F 6 = x) (kk : GG Γ M QF cs (mst Γ h F A) (pc + 3) lv (.int (iN x) :: st)) : GG Γ M QF cs (mst Γ h F A) pc lv (.ref (g_L Γ 0) :: st) :=
  gf_X10_29 hM hd (HAt.mu mst_0) rfl (by rw [hx]; exact kk)
end RowsM
