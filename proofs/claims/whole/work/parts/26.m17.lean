/-! the reference: exceptions read -/
theorem fnd_cg {a : Int → Int} {d l : Int} {c e : Int → Int} : ∀ k : Nat, (∀ j : Int, 0 ≤ j → j < k → c j = e j) → fnd a d c l k = fnd a d e l k
  | 0, _ => rfl
  | k + 1, hq => by rw [fnd, fnd, fnd_cg k (fun j j0 j1 => hq j j0 (by omega)), hq k (by omega) (by omega)]
theorem frs_cg {c e : Int → Int} : ∀ k : Nat, (∀ j : Int, 0 ≤ j → j < k → c j = e j) → frs c k = frs e k
  | 0, _ => rfl
  | k + 1, hq => by rw [frs, frs, frs_cg k (fun j j0 j1 => hq j j0 (by omega)), hq k (by omega) (by omega)]
theorem clsF_cg {a : Int → Int} {d : Int} {g e : Int → Int} : ∀ l : Nat, ∀ j : Int, 0 ≤ j → j < l → clsF a d g l j = clsF a d e l j
  | 0, j, h0, h1 => by omega
  | l + 1, j, h0, h1 => by
    have ih := clsF_cg (a := a) (d := d) (g := g) (e := e) l
    rw [clsF, clsF]
    by_cases q : j = l
    · rw [q, up_s, up_s, fnd_cg l ih, frs_cg l ih]
    · rw [up_n q, up_n q]; exact ih j h0 (by omega)
def dgR (f : Int → Int) (n : Int) : Nat → Int → Int
  | 0, _ => 0
  | m + 1, p => if p < n ∧ 48 ≤ f p ∧ f p ≤ 50 then 1 + dgR f n m (p + 1) else 0
theorem dgR_r (f : Int → Int) (n : Int) : ∀ (m : Nat) (p : Int), 0 ≤ dgR f n m p ∧ dgR f n m p ≤ m
  | 0, p => by simp [dgR]
  | m + 1, p => by
    have := dgR_r f n m (p + 1)
    rw [dgR]; split <;> omega
