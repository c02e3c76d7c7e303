/-! ===== lines: a length and the signs ===== -/
abbrev TX : Type := Nat × (Nat → Nat)
def tP (a : Nat) (T : TX) : TX := (T.1 + 1, putT T.2 T.1 a)
def tN (a : Nat) (T : TX) : TX := (T.1 + numW a, numF T.2 T.1 a)
def t0 : TX := (0, fun _ => 0)
def tC (f : Nat → Nat) (s : Nat) : Nat → TX → TX
  | 0, T => T
  | n + 1, T => tN (iter f (n + 1) s) (tP 32 (tC f s n T))
def tCyc (f : Nat → Nat) (s : Nat) (T : TX) : TX := tP 41 (tC f s (cyL f s - 1) (tN s (tP 40 T)))
def tCL (f : Nat → Nat) : Nat → TX
  | 0 => t0
  | n + 1 => if f n ≠ n ∧ lowB f n = true then tCyc f n (tCL f n) else tCL f n
theorem numW_le (a : Nat) : 1 ≤ numW a ∧ numW a ≤ 2 := by unfold numW; split <;> omega
theorem tC_len (f : Nat → Nat) (s : Nat) (T : TX) : ∀ n, (tC f s n T).1 ≤ T.1 + 3 * n
  | 0 => Nat.le_refl _
  | n + 1 => by
    have h := tC_len f s T n
    have h2 := numW_le (iter f (n + 1) s)
    show (tC f s n T).1 + 1 + numW (iter f (n + 1) s) ≤ T.1 + 3 * (n + 1)
    omega
theorem tCyc_len (f : Nat → Nat) (s : Nat) (T : TX) : (tCyc f s T).1 ≤ T.1 + 3 * cyL f s + 1 := by
  have h := tC_len f s (tN s (tP 40 T)) (cyL f s - 1)
  have h2 := numW_le s
  have h3 := cyL_le f s
  have e : (tN s (tP 40 T)).1 = T.1 + 1 + numW s := rfl
  show (tC f s (cyL f s - 1) (tN s (tP 40 T))).1 + 1 ≤ _
  omega
theorem cyL_two {f : Nat → Nat} (h : Bij f) {s : Nat} (hs : s < 32) (hn : f s ≠ s) : 2 ≤ cyL f s := by
  have h1 := (cyL_le f s).1
  have h2 := (cyL_spec h hs).1
  by_cases e : cyL f s = 1
  · rw [e] at h2; exact absurd h2 hn
  · omega
theorem tCL_len {f : Nat → Nat} (h : Bij f) : ∀ {n : Nat}, n ≤ 32 → 2 * (tCL f n).1 ≤ 7 * cyS f n
  | 0, _ => Nat.le_refl 0
  | n + 1, hn => by
    have ih := tCL_len h (n := n) (by omega)
    unfold tCL cyS
    by_cases c : f n ≠ n ∧ lowB f n = true
    · rw [if_pos c, if_pos c.2]
      have h1 := tCyc_len f n (tCL f n)
      have h2 := cyL_two h (show n < 32 by omega) c.1
      omega
    · rw [if_neg c]; omega
theorem tCL_room {f : Nat → Nat} (h : Bij f) {n : Nat} (hn : n < 32) (c : f n ≠ n ∧ lowB f n = true) : (tCL f n).1 + 3 * cyL f n + 1 ≤ 112 := by
  have ih := tCL_len h (n := n) (by omega)
  have h0 := cyS_le h (n := n + 1) (by omega)
  have h9 := cnt_le (fun s => decide (rep f s < n + 1)) 32
  have h2 := cyL_two h hn c.1
  have e : cyS f (n + 1) = cyS f n + cyL f n := by
    show cyS f n + (if lowB f n = true then cyL f n else 0) = _
    rw [if_pos c.2]
  omega
theorem tCL_112 {f : Nat → Nat} (h : Bij f) {n : Nat} (hn : n ≤ 32) : (tCL f n).1 ≤ 112 := by
  have ih := tCL_len h hn
  have h0 := cyS_le h hn
  have h9 := cnt_le (fun s => decide (rep f s < n)) 32
  omega
theorem cyL_gt {f : Nat → Nat} (h : Bij f) {s m : Nat} (hs : s < 32) (hI : ∀ z, 1 ≤ z → z ≤ m → iter f z s ≠ s) : m < cyL f s := by
  have h1 := (cyL_le f s).1
  have h2 := (cyL_spec h hs).1
  by_cases e : cyL f s ≤ m
  · exact absurd h2 (hI _ h1 e)
  · omega
/-- the row of signs at q holds T -/
def TxR (μ : Mem) (q : Nat) (T : TX) : Prop := SgT μ q T.1 T.2
theorem TxR.eq {μ' μ : Mem} {q : Nat} {T : TX} (h : TxR μ q T) (e1 : μ' q = μ q) (e2 : μ' (q + 1) = μ (q + 1)) : TxR μ' q T := ⟨by rw [e1]; exact h.1, fun k hk => by rw [e2]; exact h.2 k hk⟩
theorem c_addSignT {g : GP} {adr : Nat → Nat} (μ : Mem) {q a : Nat} {T : TX} (hq : kt q = 9) (hT : TxR μ q T) (hx2 : T.1 < 120) (ha : a < 65536) : CT g yX5_addSign mX5_addSign (RM 1 0 0) (WM g adr μ) [.ref (adr q), .int (nI a)] (PM g adr (.inl none) (fun μ' => TxR μ' q (tP a T) ∧ ∀ o, o ≠ q → o ≠ q + 1 → μ' o = μ o)) :=
  (c_addSign μ hq hT.1 hx2 ha).mono (PM.mono (fun μ' e => by subst e; exact ⟨SgT.add hT ha, fun o h1 h2 => by rw [wr_o h1, wr_o h2]⟩))
theorem c_addNumberT {g : GP} {adr : Nat → Nat} (μ : Mem) {q a : Nat} {T : TX} (hq : kt q = 9) (hT : TxR μ q T) (hx2 : T.1 + 2 ≤ 120) (ha : a < 100) : CT g yX5_addNumber mX5_addNumber (RM 2 0 0) (WM g adr μ) [.ref (adr q), .int (nI a)] (PM g adr (.inl none) (fun μ' => TxR μ' q (tN a T) ∧ ∀ o, o ≠ q → o ≠ q + 1 → μ' o = μ o)) := c_addNumber μ hq hT hx2 ha
