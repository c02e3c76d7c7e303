/-! ===== printed: the law, call by call ===== -/
/-- the law's method -/
abbrev mL_law (tb : List (Nat × Nat × Nat × Nat)) : MI := (RL, cL_law, 9, (some .boolean), tb, false)
/-- what is behind one call: the law stands at its loop's end, both sides alike -/
def LK (tb : List (Nat × Nat × Nat × Nat)) (g : GP) (adr : Nat → Nat) (b L : Nat) (xs : Nat → Int32) (Q : QT) (i k n : Nat) : Prop :=
  ∀ μ' α', CR μ' α' → MR μ' α' → J g (mL_law tb) room_1 (QX b L xs Q) k n (WM g adr μ') 2391 [some (.ref b), some (.ref (adr 0)), some (.ref (adr 237)), some (.ref (adr 247)), some (.int (nI i)), none, none, none, none] []
section LL
variable {tb : List (Nat × Nat × Nat × Nat)} {g : GP} {adr : Nat → Nat} {b L i k n : Nat} {xs : Nat → Int32} {Q : QT} {μ : Mem} {α : A7}
theorem ifB {P : Prop} [Decidable P] (h : (if P then nI 1 else nI 0) = nI 1) : P := by
  by_cases q : P
  · exact q
  · rw [if_neg q] at h; exact absurd h (by decide)
end LL
