/-! ===== the barrel's state as a value: what is in the slots, colours, the log, the two counts, what lies on the shelves ===== -/
abbrev AS : Type := (Nat → Nat) × (Nat → Nat) × (Nat × (Nat → Nat)) × (Nat × Nat) × (Nat → Bool) × (Nat → Nat → Nat)
abbrev aAt (σ : AS) : Nat → Nat := σ.1
abbrev aCol (σ : AS) : Nat → Nat := σ.2.1
abbrev aLn (σ : AS) : Nat := σ.2.2.1.1
abbrev aLg (σ : AS) : Nat → Nat := σ.2.2.1.2
abbrev aMv (σ : AS) : Nat := σ.2.2.2.1.1
abbrev aRd (σ : AS) : Nat := σ.2.2.2.1.2
abbrev aFl (σ : AS) : Nat → Bool := σ.2.2.2.2.1
abbrev aSh (σ : AS) : Nat → Nat → Nat := σ.2.2.2.2.2
/-- a move of the log: its kind, its ring or column, by how much -/
def mvOK (a w b : Nat) : Prop := (a = 0 ∧ w < 4 ∧ 1 ≤ b ∧ b < 8) ∨ (a = 1 ∧ w < 8 ∧ 1 ≤ b ∧ b < 4)
def VS (σ : AS) : Prop := Bij (aAt σ) ∧ (∀ k, k < 32 → aCol σ k < 6) ∧ aLn σ ≤ 40 ∧ (∀ p, p < aLn σ → mvOK (aLg σ (3 * p)) (aLg σ (3 * p + 1)) (aLg σ (3 * p + 2))) ∧ ∀ i, i < 5 → aFl σ i = true → Bij (aSh σ i)
/-- the class's state at st holds σ -/
def CS (μ : Mem) (st : Nat) (σ : AS) : Prop := PermR μ (st + 2) (aAt σ) ∧ PermR μ (st + 3) (pinv (aAt σ)) ∧ ColR μ (st + 4) (aCol σ) ∧ μ (st + 5) 1 = nI (aLn σ) ∧ (∀ k, k < 3 * aLn σ → μ (st + 6) k = nI (aLg σ k)) ∧ μ st 2 = nI (aMv σ) ∧ μ st 3 = nI (aRd σ) ∧
  (∀ i, i < 5 → μ (st + 8) i = (if aFl σ i = true then nI 1 else nI 0)) ∧ (∀ i, i < 5 → aFl σ i = true → PermR μ (st + 10 + 2 * i) (aSh σ i)) ∧ VS σ
/-- the state at a in μ' is as the state at b in μ -/
def SEq (μ' : Mem) (a : Nat) (μ : Mem) (b : Nat) : Prop := (∀ k, k < 32 → μ' (a + 2) k = μ (b + 2) k ∧ μ' (a + 3) k = μ (b + 3) k ∧ μ' (a + 4) k = μ (b + 4) k) ∧ μ' (a + 5) 1 = μ (b + 5) 1 ∧ (∀ k, k < 120 → μ' (a + 6) k = μ (b + 6) k) ∧ μ' a 2 = μ b 2 ∧ μ' a 3 = μ b 3 ∧
  (∀ i, i < 5 → μ' (a + 8) i = μ (b + 8) i) ∧ ∀ i k, i < 5 → k < 32 → μ' (a + 10 + 2 * i) k = μ (b + 10 + 2 * i) k
theorem CS.eq {μ' μ : Mem} {a b : Nat} {σ : AS} (h : CS μ b σ) (e : SEq μ' a μ b) : CS μ' a σ := by
  obtain ⟨h1, h2, h3, h4, h5, h6, h7, h8, h9, h10⟩ := h
  obtain ⟨e1, e2, e3, e4, e5, e6, e7⟩ := e
  have hln := h10.2.2.1
  exact ⟨fun k hk => by rw [(e1 k hk).1]; exact h1 k hk, fun k hk => by rw [(e1 k hk).2.1]; exact h2 k hk, fun k hk => by rw [(e1 k hk).2.2]; exact h3 k hk, e2.trans h4, fun k hk => (e3 k (by omega)).trans (h5 k hk), e4.trans h6, e5.trans h7, fun i hi => (e6 i hi).trans (h8 i hi), fun i hi hf k hk => by rw [e7 i k hi hk]; exact h9 i hi hf k hk, h10⟩
theorem SEq.of_eq {μ' μ : Mem} {a : Nat} (h : ∀ o, a ≤ o → o < a + 19 → μ' o = μ o) : SEq μ' a μ a :=
  ⟨fun k _ => ⟨by rw [h _ (by omega) (by omega)], by rw [h _ (by omega) (by omega)], by rw [h _ (by omega) (by omega)]⟩, by rw [h _ (by omega) (by omega)], fun k _ => by rw [h _ (by omega) (by omega)], by rw [h _ (by omega) (by omega)], by rw [h _ (by omega) (by omega)], fun i _ => by rw [h _ (by omega) (by omega)], fun i k hi _ => by rw [h _ (by omega) (by omega)]⟩
theorem CS.off {μ' μ : Mem} {a : Nat} {σ : AS} (h : CS μ a σ) (e : ∀ o, a ≤ o → o < a + 19 → μ' o = μ o) : CS μ' a σ := h.eq (SEq.of_eq e)
/-! the past -/
def pushN (n : Nat) : Nat := if n < 8 then n + 1 else 8
def pushF (n : Nat) (past : Nat → AS) (σ : AS) : Nat → AS := fun j => if n < 8 then (if j = n then σ else past j) else (if j = 7 then σ else past (j + 1))
def PR (μ : Mem) (n : Nat) (past : Nat → AS) : Prop := μ 20 1 = nI n ∧ n ≤ 8 ∧ ∃ r : Nat → Nat, (∀ j, j < 8 → μ 21 j = nI (r j) ∧ r j < 8) ∧ (∀ i j, i < 8 → j < 8 → r i = r j → i = j) ∧ ∀ j, j < n → CS μ (22 + 19 * r j) (past j)
theorem PR.off {μ' μ : Mem} {n : Nat} {past : Nat → AS} (h : PR μ n past) (e : ∀ o, 20 ≤ o → o < 174 → μ' o = μ o) : PR μ' n past := by
  obtain ⟨h1, h2, r, h3, h4, h5⟩ := h
  exact ⟨by rw [e 20 (by omega) (by omega)]; exact h1, h2, r, fun j hj => by rw [e 21 (by omega) (by omega)]; exact h3 j hj, h4, fun j hj => (h5 j hj).off (fun o q1 q2 => e o (by have := (h3 j (by omega)).2; omega) (by have := (h3 j (by omega)).2; omega))⟩
section AR
variable {g : GP} {M : MI} {R : Room} {P : PT} {k n pc : Nat} {w : va_W} {l : List (Option Value)}
theorem J.aret {a : Nat} {C : String} (hr : M.2.2.2.1 = some (.object C)) (hk : k ≤ R.cells) (hn : n ≤ R.slots) (d : decode M.2.1 pc = .ok (.areturn, 1)) (hp : P (.inl (some (.ref a))) w) : J g M R (MQx g R P) k n w pc l [.ref a] :=
  fun p ln e s m args below meth c C H locs ls hw hS hl => W.widen hk hn (vx_ret (W.aret C.1 C.2.1 (C.2.2.2.1.trans hr) (Or.inl ⟨_, rfl⟩) (Or.inr ⟨_, rfl⟩) (fun t ht hW => ⟨_, w, rfl, hp, by rw [ht]; exact hw, hS.F ht⟩) hS.2.2 d C.2.2.2.2.2.2.1))
end AR
/-! steps of the state's copy -/
theorem cs_two {μ μ2 μ3 : Mem} {t : Nat} (h1 : ∀ o, o ≠ t + 1 + 1 → o ≠ t + 1 + 2 → o ≠ t + 1 + 3 → μ2 o = μ o) (h3 : ∀ o k, o ≠ t + 5 + 1 → (o ≠ t + 5 ∨ k ≠ 1) → μ3 o k = μ2 o k) : ∀ o k, o ≠ t + 2 → o ≠ t + 3 → o ≠ t + 4 → o ≠ t + 6 → (o ≠ t + 5 ∨ k ≠ 1) → μ3 o k = μ o k := fun o k a b c d e => by
  rw [h3 o k (by omega) e, h1 o (by omega) (by omega) (by omega)]
theorem cs_rd3 {μ μ3 : Mem} {t o k : Nat} (h : ∀ o k, o ≠ t + 2 → o ≠ t + 3 → o ≠ t + 4 → o ≠ t + 6 → (o ≠ t + 5 ∨ k ≠ 1) → μ3 o k = μ o k) (h1 : o < t ∨ t + 19 ≤ o) (_ : k < 10) : μ3 o k = μ o k := h o k (by omega) (by omega) (by omega) (by omega) (Or.inl (by omega))
/-- all of the state's copy but the shelves -/
def CpA (μ' : Mem) (a : Nat) (μ : Mem) (b : Nat) : Prop := (∀ k, k < 32 → μ' (a + 2) k = μ (b + 2) k ∧ μ' (a + 3) k = μ (b + 3) k ∧ μ' (a + 4) k = μ (b + 4) k) ∧ μ' (a + 5) 1 = μ (b + 5) 1 ∧ (∀ k, k < 120 → μ' (a + 6) k = μ (b + 6) k) ∧ μ' a 2 = μ b 2 ∧ μ' a 3 = μ b 3
theorem cs_A {μ μ2 μ3 : Mem} {t u : Nat} (hn : t + 19 ≤ u ∨ u + 19 ≤ t) (hb : ∀ k, k < 32 → μ2 (t + 1 + 1) k = μ (u + 1 + 1) k ∧ μ2 (t + 1 + 2) k = μ (u + 1 + 2) k ∧ μ2 (t + 1 + 3) k = μ (u + 1 + 3) k)
    (hl : ∀ k, k < 120 → μ3 (t + 5 + 1) k = μ2 (u + 5 + 1) k) (hm : μ3 (t + 5) 1 = μ2 (u + 5) 1) (h1 : ∀ o, o ≠ t + 1 + 1 → o ≠ t + 1 + 2 → o ≠ t + 1 + 3 → μ2 o = μ o) (h3 : ∀ o k, o ≠ t + 5 + 1 → (o ≠ t + 5 ∨ k ≠ 1) → μ3 o k = μ2 o k) :
    CpA (wr (wr μ3 t 2 (μ u 2)) t 3 (μ u 3)) t μ u := by
  have w : ∀ o k, o ≠ t → wr (wr μ3 t 2 (μ u 2)) t 3 (μ u 3) o k = μ3 o k := fun o k ho => by rw [wr_o ho, wr_o ho]
  refine ⟨fun k hk => ⟨?_, ?_, ?_⟩, ?_, fun k hk => ?_, ?_, wr_s⟩
  · rw [w _ _ (by omega), h3 _ _ (by omega) (Or.inl (by omega))]; exact (hb k hk).1
  · rw [w _ _ (by omega), h3 _ _ (by omega) (Or.inl (by omega))]; exact (hb k hk).2.1
  · rw [w _ _ (by omega), h3 _ _ (by omega) (Or.inl (by omega))]; exact (hb k hk).2.2
  · rw [w _ _ (by omega), hm, h1 _ (by omega) (by omega) (by omega)]
  · rw [w _ _ (by omega), show t + 6 = t + 5 + 1 by omega, hl k hk, h1 _ (by omega) (by omega) (by omega)]
  · rw [wr_n (Or.inr (by decide)), wr_s]
theorem cs_O {μ μ3 : Mem} {t : Nat} {x y : Int32} (h : ∀ o k, o ≠ t + 2 → o ≠ t + 3 → o ≠ t + 4 → o ≠ t + 6 → (o ≠ t + 5 ∨ k ≠ 1) → μ3 o k = μ o k) : ∀ o, (o < t ∨ t + 19 ≤ o) → wr (wr μ3 t 2 x) t 3 y o = μ o := fun o ho => by
  rw [wr_o (by omega), wr_o (by omega)]
  funext k
  exact h o k (by omega) (by omega) (by omega) (by omega) (Or.inl (by omega))
theorem cs_A2 {μ μ1 μ4 : Mem} {t u i : Nat} {x : Int32} (hi : i < 5) (h : CpA μ1 t μ u) (hO : Off μ4 μ1 (t + 9 + 2 * i + 1)) : CpA (wr μ4 (t + 8) i x) t μ u := by
  have w : ∀ o, o ≠ t + 8 → o ≠ t + 9 + 2 * i + 1 → wr μ4 (t + 8) i x o = μ1 o := fun o h1 h2 => by rw [wr_o h1]; exact hO o h2
  obtain ⟨h1, h2, h3, h4, h5⟩ := h
  exact ⟨fun k hk => ⟨by rw [w _ (by omega) (by omega)]; exact (h1 k hk).1, by rw [w _ (by omega) (by omega)]; exact (h1 k hk).2.1, by rw [w _ (by omega) (by omega)]; exact (h1 k hk).2.2⟩, by rw [w _ (by omega) (by omega)]; exact h2, fun k hk => by rw [w _ (by omega) (by omega)]; exact h3 k hk, by rw [w _ (by omega) (by omega)]; exact h4, by rw [w _ (by omega) (by omega)]; exact h5⟩
theorem cs_P {μ μ1 μ4 : Mem} {t u i : Nat} {x : Int32} (hi : i < 5) (hn : t + 19 ≤ u ∨ u + 19 ≤ t) (h : ∀ j k, j < i → k < 32 → μ1 (t + 10 + 2 * j) k = μ (u + 10 + 2 * j) k) (h4 : ∀ k, k < 32 → μ4 (t + 9 + 2 * i + 1) k = μ1 (u + 9 + 2 * i + 1) k) (hO : Off μ4 μ1 (t + 9 + 2 * i + 1)) (hO1 : ∀ o, (o < t ∨ t + 19 ≤ o) → μ1 o = μ o) :
    ∀ j k, j < i + 1 → k < 32 → wr μ4 (t + 8) i x (t + 10 + 2 * j) k = μ (u + 10 + 2 * j) k := by
  intro j k hj hk
  rw [wr_o (by omega)]
  by_cases e : j = i
  · subst e
    rw [show t + 10 + 2 * j = t + 9 + 2 * j + 1 by omega, h4 k hk, hO1 _ (by omega), show u + 9 + 2 * j + 1 = u + 10 + 2 * j by omega]
  · rw [hO _ (by omega)]; exact h j k (by omega) hk
theorem cs_end {μ μ1 : Mem} {t u i : Nat} (e : i = 5) (hA : CpA μ1 t μ u) (hF : ∀ k, k < i → μ1 (t + 8) k = μ (u + 8) k) (hP : ∀ j k, j < i → k < 32 → μ1 (t + 10 + 2 * j) k = μ (u + 10 + 2 * j) k) : SEq μ1 t μ u := by
  subst e
  obtain ⟨h1, h2, h3, h4, h5⟩ := hA
  exact ⟨h1, h2, h3, h4, h5, hF, hP⟩
theorem cs_z {x : Int32} (h : x = nI 0 ∨ x = nI 1) : vp_nar .boolean x = x := by
  rcases h with rfl | rfl <;> decide
theorem CS.z {μ : Mem} {t : Nat} {σ : AS} (h : CS μ t σ) : ∀ i, i < 5 → μ (t + 8) i = nI 0 ∨ μ (t + 8) i = nI 1 := fun i hi => by
  rw [h.2.2.2.2.2.2.2.1 i hi]
  split
  · exact Or.inr rfl
  · exact Or.inl rfl
/-! the past: steps -/
theorem hold_z {μ μ1 : Mem} {σ : AS} {x y : Int32} (hO : Off μ1 μ 21) (hC : CS μ 1 σ) : ∀ i, i < 5 → wr (wr μ1 21 7 x) 20 1 y (1 + 8) i = nI 0 ∨ wr (wr μ1 21 7 x) 20 1 y (1 + 8) i = nI 1 := fun i hi => by
  rw [wr_o (by decide), wr_o (by decide), hO _ (by decide)]
  exact hC.z i hi
theorem hold_s {μ1 : Mem} {r : Nat → Nat} {i : Nat} (hi : 1 ≤ i) (hI : ∀ j, j + 1 < i → μ1 21 j = nI (r (j + 1))) : ∀ j, j + 1 < i + 1 → wr μ1 21 (i - 1) (nI (r i)) 21 j = nI (r (j + 1)) := by
  intro j hj
  by_cases e : j = i - 1
  · rw [e, wr_s, show i - 1 + 1 = i by omega]
  · rw [wr_n (Or.inr e)]; exact hI j (by omega)
theorem hold_k {μ1 : Mem} {r : Nat → Nat} {i : Nat} {v : Int32} (hi : 1 ≤ i) (hU : ∀ j, i - 1 ≤ j → j < 8 → μ1 21 j = nI (r j)) : ∀ j, i + 1 - 1 ≤ j → j < 8 → wr μ1 21 (i - 1) v 21 j = nI (r j) := by
  intro j h1 h2
  rw [wr_n (Or.inr (by omega))]; exact hU j (by omega) h2
theorem hold_part {μ μ2 : Mem} {n : Nat} {past : Nat → AS} {σ : AS} {r : Nat → Nat} (_ : PR μ n past) (h1 : μ 20 1 = nI n) (h3 : ∀ j, j < 8 → μ 21 j = nI (r j) ∧ r j < 8) (h4 : ∀ i j, i < 8 → j < 8 → r i = r j → i = j) (h5 : ∀ j, j < n → CS μ (22 + 19 * r j) (past j)) (hn : n < 8) (hC : CS μ 1 σ)
    (hE : SEq μ2 (22 + 19 * r n) μ 1) (hO : ∀ o, (o < 22 + 19 * r n ∨ 22 + 19 * r n + 19 ≤ o) → μ2 o = μ o) :
    (fun μ' : Mem => PR μ' (pushN n) (pushF n past σ) ∧ ∀ o, (o < 20 ∨ 174 ≤ o) → μ' o = μ o) (wr μ2 20 1 (nI (n + 1))) := by
  have hrn := (h3 n hn).2
  have w : ∀ o, o ≠ 20 → wr μ2 20 1 (nI (n + 1)) o = μ2 o := fun o ho => wr_o ho
  refine ⟨?_, fun o ho => by rw [w o (by omega), hO o (by omega)]⟩
  rw [show pushN n = n + 1 from if_pos hn]
  refine ⟨wr_s, by omega, r, fun j hj => ⟨by rw [w _ (by decide), hO _ (by omega)]; exact (h3 j hj).1, (h3 j hj).2⟩, h4, fun j hj => ?_⟩
  have hrj := (h3 j (by omega)).2
  by_cases e : j = n
  · subst e
    rw [show pushF j past σ j = σ by simp [pushF, hn]]
    exact (hC.eq hE).off (fun o q1 q2 => w o (by omega))
  · rw [show pushF n past σ j = past j by simp [pushF, hn, e]]
    have hne : r j ≠ r n := fun q => e (h4 j n (by omega) hn q)
    exact (h5 j (by omega)).off (fun o q1 q2 => by rw [w o (by omega), hO o (by omega)])
theorem hold_full {μ μ1 μ2 : Mem} {n i : Nat} {past : Nat → AS} {σ : AS} {r : Nat → Nat} (h1 : μ 20 1 = nI n) (hn : n = 8) (h3 : ∀ j, j < 8 → μ 21 j = nI (r j) ∧ r j < 8) (h4 : ∀ i j, i < 8 → j < 8 → r i = r j → i = j) (h5 : ∀ j, j < n → CS μ (22 + 19 * r j) (past j)) (hi : i = 8)
    (hI : ∀ j, j + 1 < i → μ1 21 j = nI (r (j + 1))) (hO1 : Off μ1 μ 21) (hC : CS μ 1 σ)
    (hE : SEq μ2 (22 + 19 * r 0) (wr (wr μ1 21 7 (nI (r 0))) 20 1 (nI 7)) 1) (hO : ∀ o, (o < 22 + 19 * r 0 ∨ 22 + 19 * r 0 + 19 ≤ o) → μ2 o = wr (wr μ1 21 7 (nI (r 0))) 20 1 (nI 7) o) :
    (fun μ' : Mem => PR μ' (pushN n) (pushF n past σ) ∧ ∀ o, (o < 20 ∨ 174 ≤ o) → μ' o = μ o) (wr μ2 20 1 (nI (7 + 1))) := by
  subst hn; subst hi
  have hr0 := (h3 0 (by omega)).2
  have w : ∀ o, o ≠ 20 → wr μ2 20 1 (nI (7 + 1)) o = μ2 o := fun o ho => wr_o ho
  have u : ∀ o, o ≠ 20 → o ≠ 21 → wr (wr μ1 21 7 (nI (r 0))) 20 1 (nI 7) o = μ o := fun o a b => by rw [wr_o a, wr_o b, hO1 o b]
  refine ⟨?_, fun o ho => by rw [w o (by omega), hO o (by omega), u o (by omega) (by omega)]⟩
  rw [show pushN 8 = 8 from rfl]
  refine ⟨wr_s, by omega, fun j => if j = 7 then r 0 else r (j + 1), fun j hj => ?_, fun a b ha hb q => ?_, fun j hj => ?_⟩
  · rw [w _ (by decide), hO _ (by omega), wr_o (by decide)]
    by_cases e : j = 7
    · subst e; rw [wr_s]; exact ⟨rfl, hr0⟩
    · rw [wr_n (Or.inr e), hI j (by omega)]
      show nI (r (j + 1)) = nI (if j = 7 then r 0 else r (j + 1)) ∧ (if j = 7 then r 0 else r (j + 1)) < 8
      rw [if_neg e]; exact ⟨rfl, (h3 _ (by omega)).2⟩
  · have q' : (if a = 7 then r 0 else r (a + 1)) = (if b = 7 then r 0 else r (b + 1)) := q
    by_cases e1 : a = 7
    · by_cases e2 : b = 7
      · omega
      · rw [if_pos e1, if_neg e2] at q'; have := h4 _ _ (by omega) (by omega) q'; omega
    · by_cases e2 : b = 7
      · rw [if_neg e1, if_pos e2] at q'; have := h4 _ _ (by omega) (by omega) q'; omega
      · rw [if_neg e1, if_neg e2] at q'; have := h4 _ _ (by omega) (by omega) q'; omega
  · show CS _ (22 + 19 * (if j = 7 then r 0 else r (j + 1))) _
    by_cases e : j = 7
    · subst e
      rw [if_pos rfl, show pushF 8 past σ 7 = σ by simp [pushF]]
      have hC2 : CS (wr (wr μ1 21 7 (nI (r 0))) 20 1 (nI 7)) 1 σ := hC.off (fun o q1 q2 => u o (by omega) (by omega))
      exact (hC2.eq hE).off (fun o q1 q2 => w o (by omega))
    · rw [if_neg e, show pushF 8 past σ j = past (j + 1) by simp [pushF, e]]
      have hrj := (h3 (j + 1) (by omega)).2
      have hne : r (j + 1) ≠ r 0 := fun q => by have := h4 _ _ (by omega) (by omega) q; omega
      exact (h5 (j + 1) (by omega)).off (fun o q1 q2 => by rw [w o (by omega), hO o (by omega), u o (by omega) (by omega)])
theorem gb_end {μ μ2 : Mem} {n : Nat} {past : Nat → AS} {r : Nat → Nat} (h1 : μ 20 1 = nI n) (h2 : n ≤ 8) (h3 : ∀ j, j < 8 → μ 21 j = nI (r j) ∧ r j < 8) (h4 : ∀ i j, i < 8 → j < 8 → r i = r j → i = j) (h5 : ∀ j, j < n → CS μ (22 + 19 * r j) (past j)) (hn : 0 < n)
    (hE : SEq μ2 1 μ (22 + 19 * r (n - 1))) (hO : ∀ o, (o < 1 ∨ 1 + 19 ≤ o) → μ2 o = μ o) :
    CS (wr μ2 20 1 (nI (n - 1))) 1 (past (n - 1)) ∧ PR (wr μ2 20 1 (nI (n - 1))) (n - 1) past ∧ ∀ o, (o < 1 ∨ (20 ≤ o ∧ o ≠ 20)) → wr μ2 20 1 (nI (n - 1)) o = μ o := by
  have hr := (h3 (n - 1) (by omega)).2
  have w : ∀ o, o ≠ 20 → wr μ2 20 1 (nI (n - 1)) o = μ2 o := fun o ho => wr_o ho
  refine ⟨((h5 (n - 1) (by omega)).eq hE).off (fun o q1 q2 => w o (by omega)), ⟨wr_s, by omega, r, fun j hj => ⟨by rw [w _ (by decide), hO 21 (by omega)]; exact (h3 j hj).1, (h3 j hj).2⟩, h4, fun j hj => ?_⟩, fun o ho => by rw [w o (by omega), hO o (by omega)]⟩
  have hrj := (h3 j (by omega)).2
  exact (h5 j (by omega)).off (fun o q1 q2 => by rw [w o (by omega), hO o (by omega)])