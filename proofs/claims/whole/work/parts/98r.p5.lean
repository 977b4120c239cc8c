/-! the law: its beginning is in step -/
theorem G00_0 {L9 : Nat → Nat} {k : Nat} (h : 100 ≤ k) (h2 : 2 ≤ k % 10) : G00 L9 k = 0 := by
  unfold G00
  rw [if_neg (by omega), if_neg (by omega), if_neg (by omega), if_neg (by omega), if_neg (by omega), if_neg (by omega), if_neg (by omega), if_neg (by omega)]
theorem G00_m {L9 : Nat → Nat} {b : Nat} (h : b ≤ 9) : G00 L9 (100 + 10 * b) = (L9 (300 + b) : Int) := by
  unfold G00
  rw [if_neg (by omega), if_neg (by omega), if_neg (by omega), if_neg (by omega), if_neg (by omega), if_neg (by omega), if_pos (by omega), show (100 + 10 * b - 100) / 10 = b by omega]
theorem B00_n {L9 : Nat → Nat} {k : Nat} (h : 100 ≤ k) : B00 L9 k = fun _ => -1 := by
  unfold B00
  rw [if_neg (by omega), if_neg (by omega), if_pos h]
theorem A00_r (j : Nat) (x : Int) : InR (A00 j x) := by
  unfold A00
  split
  · show InR (if x = 3 then 6 else if x = 1 then 5 else 0)
    split
    · exact ⟨by omega, by omega⟩
    · split <;> exact ⟨by omega, by omega⟩
  · exact ⟨by show (-2147483648 : Int) ≤ 0; omega, by show (0 : Int) ≤ _; omega⟩
set_option maxRecDepth 100000 in
set_option maxHeartbeats 4000000 in
theorem CP9_0 {Γ : GT} {L9 L10 : Nat → Nat} {ι : Nat → Option XE} {a24 a25 : Nat} (K : Kp (fun _ => none) ι ((a25, do9 (fun _ => 0)) :: (a24, lo9 (fun _ => 0)) :: (lay10.map (fun i => (L10 i, mcell (stL Γ L10) F00 A00 i)) ++ (ls9 L9 ++ [])))) : CP9 (im9 L9 ι) (G00 L9) (B00 L9) F00 A00 8 := by
  refine ⟨⟨by omega, rfl⟩, ⟨by omega, ⟨L9 308, G00_m (b := 8) (by omega), ⟨⟨by decide, by decide⟩, ⟨by decide, by decide⟩, by decide, by decide⟩, (im9_at (n := 308) (by omega)).trans (K.at (k := 155) rfl)⟩, ⟨rfl, by decide, by decide⟩, ⟨⟨rfl, by decide, by decide⟩, fun e e0 e1 => ?_⟩, fun d hd => ?_, A00_r 1⟩,
    ⟨⟨by decide, by decide⟩, rfl, fun j j0 j1 => ⟨j.toNat, (Int.toNat_of_nonneg j0).symm, by omega, by omega⟩, fun i j _ _ _ _ h => h, fun i i0 i1 => ?_, A00_r 4⟩, ⟨Or.inl rfl, rfl, fun h => absurd h (by decide), A00_r 3⟩,
    ⟨⟨rfl, ⟨by decide, by decide⟩, rfl, fun i hi => ?_, A00_r 5⟩, ⟨rfl, by decide, by decide⟩, (show (0 : Int) ≤ 0 from by decide), (show (0 : Int) ≤ 100 from by decide)⟩, ⟨fun b hb => ⟨fun d l hd l0 l1 => Or.inl (by rw [B00_n (by omega)]; show (-1 : Int) < 0; decide), fun e e0 e1 => Or.inl (by rw [B00_n (by omega)]; show (-1 : Int) < 0; decide)⟩, ⟨0, 1, 2, 3, rfl, rfl, rfl, rfl, by decide, by decide, by decide, by decide, by decide, by decide, by decide⟩, fun j j0 j1 => ?_, Or.inl rfl, fun b hb => by rw [G00_m hb]; omega⟩⟩
  · have : A00 1 4 = 0 := rfl
    rw [this] at e1; omega
  · have h0 : G00 L9 (103 + 10 * 8 + d) = 0 := G00_0 (by omega) (by omega)
    have h1 : A00 1 (5 + (d : Int)) = 0 := by
      show (if (5 + (d : Int)) = 3 then 6 else if (5 + (d : Int)) = 1 then 5 else 0) = (0 : Int)
      rw [if_neg (by omega), if_neg (by omega)]
    exact ⟨by rw [h0, h1], ⟨by rw [h0]; decide, by rw [h0]; decide⟩, fun l l0 l1 => by rw [h0] at l1; omega⟩
  · have : F00 5 = 0 := rfl
    rw [this] at i1; omega
  · have : F00 8 = 0 := rfl
    rw [this] at hi; omega
  · rcases (show j = 0 ∨ j = 1 ∨ j = 2 ∨ j = 3 ∨ j = 4 ∨ j = 5 ∨ j = 6 ∨ j = 7 ∨ j = 8 ∨ j = 9 ∨ j = 10 ∨ j = 11 ∨ j = 12 ∨ j = 13 ∨ j = 14 ∨ j = 15 ∨ j = 16 ∨ j = 17 ∨ j = 18 ∨ j = 19 by omega) with rfl | rfl | rfl | rfl | rfl | rfl | rfl | rfl | rfl | rfl | rfl | rfl | rfl | rfl | rfl | rfl | rfl | rfl | rfl | rfl
    · exact ⟨L9 320, rfl, ⟨⟨by decide, by decide⟩, ⟨by decide, by decide⟩, by decide, by decide⟩, (im9_at (n := 320) (by omega)).trans (K.at (k := 46) rfl)⟩
    · exact ⟨L9 321, rfl, ⟨⟨by decide, by decide⟩, ⟨by decide, by decide⟩, by decide, by decide⟩, (im9_at (n := 321) (by omega)).trans (K.at (k := 45) rfl)⟩
    · exact ⟨L9 322, rfl, ⟨⟨by decide, by decide⟩, ⟨by decide, by decide⟩, by decide, by decide⟩, (im9_at (n := 322) (by omega)).trans (K.at (k := 44) rfl)⟩
    · exact ⟨L9 323, rfl, ⟨⟨by decide, by decide⟩, ⟨by decide, by decide⟩, by decide, by decide⟩, (im9_at (n := 323) (by omega)).trans (K.at (k := 43) rfl)⟩
    · exact ⟨L9 324, rfl, ⟨⟨by decide, by decide⟩, ⟨by decide, by decide⟩, by decide, by decide⟩, (im9_at (n := 324) (by omega)).trans (K.at (k := 42) rfl)⟩
    · exact ⟨L9 325, rfl, ⟨⟨by decide, by decide⟩, ⟨by decide, by decide⟩, by decide, by decide⟩, (im9_at (n := 325) (by omega)).trans (K.at (k := 41) rfl)⟩
    · exact ⟨L9 326, rfl, ⟨⟨by decide, by decide⟩, ⟨by decide, by decide⟩, by decide, by decide⟩, (im9_at (n := 326) (by omega)).trans (K.at (k := 40) rfl)⟩
    · exact ⟨L9 327, rfl, ⟨⟨by decide, by decide⟩, ⟨by decide, by decide⟩, by decide, by decide⟩, (im9_at (n := 327) (by omega)).trans (K.at (k := 39) rfl)⟩
    · exact ⟨L9 328, rfl, ⟨⟨by decide, by decide⟩, ⟨by decide, by decide⟩, by decide, by decide⟩, (im9_at (n := 328) (by omega)).trans (K.at (k := 38) rfl)⟩
    · exact ⟨L9 329, rfl, ⟨⟨by decide, by decide⟩, ⟨by decide, by decide⟩, by decide, by decide⟩, (im9_at (n := 329) (by omega)).trans (K.at (k := 37) rfl)⟩
    · exact ⟨L9 330, rfl, ⟨⟨by decide, by decide⟩, ⟨by decide, by decide⟩, by decide, by decide⟩, (im9_at (n := 330) (by omega)).trans (K.at (k := 36) rfl)⟩
    · exact ⟨L9 331, rfl, ⟨⟨by decide, by decide⟩, ⟨by decide, by decide⟩, by decide, by decide⟩, (im9_at (n := 331) (by omega)).trans (K.at (k := 35) rfl)⟩
    · exact ⟨L9 332, rfl, ⟨⟨by decide, by decide⟩, ⟨by decide, by decide⟩, by decide, by decide⟩, (im9_at (n := 332) (by omega)).trans (K.at (k := 34) rfl)⟩
    · exact ⟨L9 333, rfl, ⟨⟨by decide, by decide⟩, ⟨by decide, by decide⟩, by decide, by decide⟩, (im9_at (n := 333) (by omega)).trans (K.at (k := 33) rfl)⟩
    · exact ⟨L9 334, rfl, ⟨⟨by decide, by decide⟩, ⟨by decide, by decide⟩, by decide, by decide⟩, (im9_at (n := 334) (by omega)).trans (K.at (k := 32) rfl)⟩
    · exact ⟨L9 335, rfl, ⟨⟨by decide, by decide⟩, ⟨by decide, by decide⟩, by decide, by decide⟩, (im9_at (n := 335) (by omega)).trans (K.at (k := 31) rfl)⟩
    · exact ⟨L9 336, rfl, ⟨⟨by decide, by decide⟩, ⟨by decide, by decide⟩, by decide, by decide⟩, (im9_at (n := 336) (by omega)).trans (K.at (k := 30) rfl)⟩
    · exact ⟨L9 337, rfl, ⟨⟨by decide, by decide⟩, ⟨by decide, by decide⟩, by decide, by decide⟩, (im9_at (n := 337) (by omega)).trans (K.at (k := 29) rfl)⟩
    · exact ⟨L9 338, rfl, ⟨⟨by decide, by decide⟩, ⟨by decide, by decide⟩, by decide, by decide⟩, (im9_at (n := 338) (by omega)).trans (K.at (k := 28) rfl)⟩
    · exact ⟨L9 339, rfl, ⟨⟨by decide, by decide⟩, ⟨by decide, by decide⟩, by decide, by decide⟩, (im9_at (n := 339) (by omega)).trans (K.at (k := 27) rfl)⟩
