/-! the law: all of it -/
theorem law_all {nm9 : String} {Γ : GT} {QF : List Frame → Array Value → State → State → Prop} (hn : g_n Γ ≤ 2560) (kE : ∀ (L : Nat → Nat) (cs : Nat × Nat) (h : XH) (lv : List (Option Value)), cs.1 ≤ room_1.cells → cs.2 ≤ room_1.slots → GG (stL Γ L) (M_law nm9) QF cs h 2157 lv [.int 1]) :
    GG Γ (M_law nm9) QF (0, 0) (fun _ => none, fun _ => none) 0 [some (.ref (g_b Γ)), none, none, none, none, none, none, none] [] := by
  refine law_begin (fun L9 L10 ι a24 a25 K => ?_)
  refine law_prom K ?_
  have hm : (g_n (stL Γ (Lf L9 L10 a24 a25)) : Int) - 0 < (2600 : Nat) := by
    have h1 : g_n (stL Γ (Lf L9 L10 a24 a25)) ≤ 2560 := hn
    generalize g_n (stL Γ (Lf L9 L10 a24 a25)) = m at h1
    omega
  exact law_loop (Γ := stL Γ (Lf L9 L10 a24 a25)) (QF := QF) (c0 := 200) (s0' := 40000) hn ⟨by decide, by decide⟩ (kE _) 2600 0 (fun _ => 0) (fun _ => 0) (im9 L9 ι) (G00 L9) (B00 L9) F00 A00 8 hm (by omega) (by omega) (CP9_0 K)
