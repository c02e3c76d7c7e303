/-! ===== a text as a sequence: wrong at a place, or up to a place, counting, doing ===== -/
abbrev PRes : Type := Nat ⊕ (Nat × Nat × (Nat → Nat))
/-- the sign at p as the class hands it on -/
def sg (t : Nat → Nat) (x p : Nat) : Int32 := if p < x then nI (t p) else -1
def hr (t : Nat → Nat) (x p lo hi : Nat) : Bool := decide (p < x) && (decide (lo ≤ t p) && decide (t p ≤ hi))
theorem hr_iff {t : Nat → Nat} {x p lo hi : Nat} : hr t x p lo hi = true ↔ p < x ∧ lo ≤ t p ∧ t p ≤ hi := by
  unfold hr
  simp only [Bool.and_eq_true, decide_eq_true_eq]
theorem hr_one {t : Nat → Nat} {x p c : Nat} : hr t x p c c = true ↔ p < x ∧ t p = c := by
  rw [hr_iff]
  constructor
  · intro h; exact ⟨h.1, by omega⟩
  · intro h; exact ⟨h.1, by omega, by omega⟩
def pDig (t : Nat → Nat) (x p lo hi : Nat) : Option Nat := if hr t x p (48 + lo) (48 + hi) = true then some (t p - 48) else none
theorem pDig_some {t : Nat → Nat} {x p lo hi w : Nat} (h : pDig t x p lo hi = some w) : p < x ∧ t p = 48 + w ∧ lo ≤ w ∧ w ≤ hi := by
  unfold pDig at h
  by_cases e : hr t x p (48 + lo) (48 + hi) = true
  · rw [if_pos e] at h
    have e2 := hr_iff.mp e
    have e3 := Option.some.inj h
    exact ⟨e2.1, by omega, by omega, by omega⟩
  · rw [if_neg e] at h; cases h
theorem pDig_none {t : Nat → Nat} {x p lo hi : Nat} (h : pDig t x p lo hi = none) : ¬ (p < x ∧ 48 + lo ≤ t p ∧ t p ≤ 48 + hi) := by
  unfold pDig at h
  by_cases e : hr t x p (48 + lo) (48 + hi) = true
  · rw [if_pos e] at h; cases h
  · exact fun q => e (hr_iff.mpr q)
theorem pDig_of {t : Nat → Nat} {x p lo hi : Nat} (h : p < x ∧ 48 + lo ≤ t p ∧ t p ≤ 48 + hi) : pDig t x p lo hi = some (t p - 48) := by
  unfold pDig; rw [if_pos (hr_iff.mpr h)]
theorem pDig_no {t : Nat → Nat} {x p lo hi : Nat} (h : ¬ (p < x ∧ 48 + lo ≤ t p ∧ t p ≤ 48 + hi)) : pDig t x p lo hi = none := by
  unfold pDig; rw [if_neg (fun q => h (hr_iff.mp q))]
def comF (F H : Nat → Nat) : Nat → Nat := fun k => pinv H (pinv F (H (F k)))
section PA
variable (t : Nat → Nat) (x : Nat) (σ : AS)
def pMove (a p : Nat) : PRes := match pDig t x (p + 1) 0 (if a = 0 then 3 else 7) with
  | none => .inl (p + 1)
  | some w => match pDig t x (p + 2) 1 (if a = 0 then 7 else 3) with
    | none => .inl (p + 2)
    | some b => .inr (p + 3, 1, moveF a w b)
def pShelf (p : Nat) : PRes := match pDig t x (p + 1) 0 4 with
  | none => .inl (p + 1)
  | some i => if aFl σ i = true then .inr (p + 2, 1, aSh σ i) else .inl (p + 1)
def pRep (f : Nat → PRes) (p : Nat) : PRes := match f (p + 1) with
  | .inl e => .inl e
  | .inr (q, c, F) => if hr t x q 41 41 = true then (match pDig t x (q + 1) 2 9 with
    | none => .inl (q + 1)
    | some m => .inr (q + 2, c * m, iter F m)) else .inl q
def pCom (f : Nat → PRes) (p : Nat) : PRes := match f (p + 1) with
  | .inl e => .inl e
  | .inr (q, c, F) => if hr t x q 44 44 = true then (match f (q + 1) with
    | .inl e => .inl e
    | .inr (q2, c2, H) => if hr t x q2 93 93 = true then .inr (q2 + 1, 2 * (c + c2), comF F H) else .inl q2) else .inl q
def pItem (f : Nat → PRes) (p : Nat) : PRes :=
  if hr t x p 114 114 = true then pMove t x 0 p else if hr t x p 99 99 = true then pMove t x 1 p else if hr t x p 115 115 = true then pShelf t x σ p else
  if hr t x p 40 40 = true then pRep t x f p else if hr t x p 91 91 = true then pCom t x f p else .inl p
def pQuo (r : PRes) : PRes := match r with
  | .inl e => .inl e
  | .inr (q, c, F) => if hr t x q 39 39 = true then .inr (q + 1, c, pinv F) else .inr (q, c, F)
def isIt (p : Nat) : Bool := hr t x p 114 114 || (hr t x p 99 99 || (hr t x p 115 115 || (hr t x p 40 40 || hr t x p 91 91)))
def pLoop (it : Nat → PRes) : Nat → Nat → Nat → (Nat → Nat) → PRes
  | 0, q, c, F => .inr (q, c, F)
  | n + 1, q, c, F => if isIt t x q = true then (match it q with
    | .inl e => .inl e
    | .inr (q', c', G) => pLoop it n q' (c + c') (fun k => G (F k))) else .inr (q, c, F)
def pSeq (it : Nat → PRes) (p : Nat) : PRes := match it p with
  | .inl e => .inl e
  | .inr (q, c, G) => pLoop t x it 59 q (0 + c) (fun k => G k)
def pIt (f : Nat → PRes) (p : Nat) : PRes := pQuo t x (pItem t x σ f p)
def pSq : Nat → Nat → PRes
  | 0, p => .inl (p - 1)
  | n + 1, p => pSeq t x (pIt t x σ (pSq n)) p
def pTxt : PRes := match pSq t x σ 5 0 with
  | .inl e => .inl e
  | .inr (q, c, F) => if q < x then .inl q else .inr (q, c, F)
end PA
/-- what is told of a part that is understood -/
def PGood (x m : Nat) (f : Nat → PRes) : Prop := ∀ p, p ≤ x → (∀ e, f p = .inl e → e ≤ x) ∧ ∀ q c F, f p = .inr (q, c, F) → p < q ∧ q ≤ x ∧ Bij F ∧ c ≤ (q - p) * m
theorem turnF_bij {r b : Nat} (hr : r < 4) : Bij (turnF r b) := by
  refine ⟨fun k hk => turnF_lt hr hk, fun a d ha hd e => ?_⟩
  unfold turnF at e
  split at e <;> split at e <;> omega
theorem shiftF_bij {c b : Nat} (_ : c < 8) : Bij (shiftF c b) := by
  refine ⟨fun k hk => shiftF_lt hk, fun a d ha hd e => ?_⟩
  unfold shiftF at e
  split at e <;> split at e <;> omega
theorem moveF_bij {a w b : Nat} (h : w < if a = 0 then 4 else 8) : Bij (moveF a w b) := by
  unfold moveF
  by_cases e : a = 0
  · rw [if_pos e] at h ⊢; exact turnF_bij h
  · rw [if_neg e] at h ⊢; exact shiftF_bij h
theorem comF_bij {F H : Nat → Nat} (h1 : Bij F) (h2 : Bij H) : Bij (comF F H) := ((h1.comp h2).comp h1.pinv).comp h2.pinv
section PG
variable {t : Nat → Nat} {x : Nat} {σ : AS} {m : Nat}
theorem pMove_good {a p : Nat} (hm : 0 < m) (hp : p < x) : (∀ e, pMove t x a p = .inl e → e ≤ x) ∧ ∀ q c F, pMove t x a p = .inr (q, c, F) → p < q ∧ q ≤ x ∧ Bij F ∧ c ≤ (q - p) * m := by
  unfold pMove
  rcases h1 : pDig t x (p + 1) 0 (if a = 0 then 3 else 7) with _ | w
  · exact ⟨fun e h => by cases h; omega, fun q c F h => by cases h⟩
  · have g1 := pDig_some h1
    rcases h2 : pDig t x (p + 2) 1 (if a = 0 then 7 else 3) with _ | b
    · exact ⟨fun e h => by cases h; omega, fun q c F h => by cases h⟩
    · have g2 := pDig_some h2
      refine ⟨fun e h => (by cases h), fun q c F h => ?_⟩
      cases h
      refine ⟨by omega, by omega, moveF_bij (by have q9 := g1.2.2.2; by_cases q8 : a = 0 <;> simp only [q8, if_true, if_false] at q9 ⊢ <;> omega), ?_⟩
      rw [show p + 3 - p = 3 by omega]; omega
theorem pShelf_good {p : Nat} (hV : ∀ i, i < 5 → aFl σ i = true → Bij (aSh σ i)) (hm : 0 < m) (hp : p < x) : (∀ e, pShelf t x σ p = .inl e → e ≤ x) ∧ ∀ q c F, pShelf t x σ p = .inr (q, c, F) → p < q ∧ q ≤ x ∧ Bij F ∧ c ≤ (q - p) * m := by
  unfold pShelf
  rcases h1 : pDig t x (p + 1) 0 4 with _ | i
  · exact ⟨fun e h => by cases h; omega, fun q c F h => by cases h⟩
  · have g1 := pDig_some h1
    by_cases hf : aFl σ i = true
    · simp only [hf, if_true]
      refine ⟨fun e h => (by cases h), fun q c F h => ?_⟩
      cases h
      refine ⟨by omega, by omega, hV i (by omega) hf, ?_⟩
      rw [show p + 2 - p = 2 by omega]; omega
    · simp only [hf]
      exact ⟨fun e h => by cases h; omega, fun q c F h => by cases h⟩
theorem pRep_good {f : Nat → PRes} {p : Nat} (hf : PGood x m f) (hp : p < x) : (∀ e, pRep t x f p = .inl e → e ≤ x) ∧ ∀ q c F, pRep t x f p = .inr (q, c, F) → p < q ∧ q ≤ x ∧ Bij F ∧ c ≤ (q - p) * (m * 9) := by
  unfold pRep
  have h0 := hf (p + 1) (by omega)
  rcases h1 : f (p + 1) with e | ⟨q, c, F⟩
  · exact ⟨fun e' h => by cases h; exact h0.1 e h1, fun q c F h => by cases h⟩
  · obtain ⟨a1, a2, a3, a4⟩ := h0.2 q c F h1
    by_cases h2 : hr t x q 41 41 = true
    · have g2 := hr_one.mp h2
      simp only [h2, if_true]
      rcases h3 : pDig t x (q + 1) 2 9 with _ | z
      · exact ⟨fun e h => by cases h; omega, fun q c F h => by cases h⟩
      · have g3 := pDig_some h3
        refine ⟨fun e h => (by cases h), fun q' c' F' h => ?_⟩
        cases h
        refine ⟨by omega, by omega, a3.iter z, ?_⟩
        calc c * z ≤ ((q - (p + 1)) * m) * 9 := Nat.mul_le_mul a4 g3.2.2.2
          _ = (q - (p + 1)) * (m * 9) := Nat.mul_assoc _ _ _
          _ ≤ (q + 2 - p) * (m * 9) := Nat.mul_le_mul_right _ (by omega)
    · simp only [h2]
      exact ⟨fun e h => by cases h; exact a2, fun q c F h => by cases h⟩
theorem pCom_good {f : Nat → PRes} {p : Nat} (hf : PGood x m f) (hp : p < x) : (∀ e, pCom t x f p = .inl e → e ≤ x) ∧ ∀ q c F, pCom t x f p = .inr (q, c, F) → p < q ∧ q ≤ x ∧ Bij F ∧ c ≤ (q - p) * (m * 9) := by
  unfold pCom
  have h0 := hf (p + 1) (by omega)
  rcases h1 : f (p + 1) with e | ⟨q, c, F⟩
  · exact ⟨fun e' h => by cases h; exact h0.1 e h1, fun q c F h => by cases h⟩
  · obtain ⟨a1, a2, a3, a4⟩ := h0.2 q c F h1
    by_cases h2 : hr t x q 44 44 = true
    · have g2 := hr_one.mp h2
      simp only [h2, if_true]
      have h5 := hf (q + 1) (by omega)
      rcases h3 : f (q + 1) with e | ⟨q2, c2, H⟩
      · exact ⟨fun e' h => by cases h; exact h5.1 e h3, fun q c F h => by cases h⟩
      · obtain ⟨b1, b2, b3, b4⟩ := h5.2 q2 c2 H h3
        by_cases h4 : hr t x q2 93 93 = true
        · have g4 := hr_one.mp h4
          simp only [h4, if_true]
          refine ⟨fun e h => (by cases h), fun q' c' F' h => ?_⟩
          cases h
          refine ⟨by omega, by omega, comF_bij a3 b3, ?_⟩
          calc 2 * (c + c2) ≤ 2 * ((q - (p + 1)) * m + (q2 - (q + 1)) * m) := Nat.mul_le_mul_left _ (Nat.add_le_add a4 b4)
            _ = 2 * ((q - (p + 1) + (q2 - (q + 1))) * m) := by rw [Nat.add_mul]
            _ ≤ 9 * ((q2 + 1 - p) * m) := Nat.mul_le_mul (by decide) (Nat.mul_le_mul_right _ (by omega))
            _ = (q2 + 1 - p) * (m * 9) := by rw [Nat.mul_comm, Nat.mul_assoc]
        · simp only [h4]
          exact ⟨fun e h => by cases h; exact b2, fun q c F h => by cases h⟩
    · simp only [h2]
      exact ⟨fun e h => by cases h; exact a2, fun q c F h => by cases h⟩
theorem pIt_good {f : Nat → PRes} (hV : ∀ i, i < 5 → aFl σ i = true → Bij (aSh σ i)) (hm : 0 < m) (hf : PGood x m f) : PGood x (m * 9) (pIt t x σ f) := by
  intro p hp
  have key : (∀ e, pItem t x σ f p = .inl e → e ≤ x) ∧ ∀ q c F, pItem t x σ f p = .inr (q, c, F) → p < q ∧ q ≤ x ∧ Bij F ∧ c ≤ (q - p) * (m * 9) := by
    unfold pItem
    by_cases g1 : hr t x p 114 114 = true
    · rw [if_pos g1]; exact pMove_good (by omega) (hr_one.mp g1).1
    · rw [if_neg g1]
      by_cases g2 : hr t x p 99 99 = true
      · rw [if_pos g2]; exact pMove_good (by omega) (hr_one.mp g2).1
      · rw [if_neg g2]
        by_cases g3 : hr t x p 115 115 = true
        · rw [if_pos g3]; exact pShelf_good hV (by omega) (hr_one.mp g3).1
        · rw [if_neg g3]
          by_cases g4 : hr t x p 40 40 = true
          · rw [if_pos g4]; exact pRep_good hf (hr_one.mp g4).1
          · rw [if_neg g4]
            by_cases g5 : hr t x p 91 91 = true
            · rw [if_pos g5]; exact pCom_good hf (hr_one.mp g5).1
            · rw [if_neg g5]
              exact ⟨fun e h => by cases h; exact hp, fun q c F h => by cases h⟩
  unfold pIt pQuo
  rcases h1 : pItem t x σ f p with e | ⟨q, c, F⟩
  · exact ⟨fun e' h => by cases h; exact key.1 e h1, fun q c F h => by cases h⟩
  · obtain ⟨a1, a2, a3, a4⟩ := key.2 q c F h1
    by_cases h2 : hr t x q 39 39 = true
    · have g2 := hr_one.mp h2
      simp only [h2, if_true]
      refine ⟨fun e h => (by cases h), fun q' c' F' h => ?_⟩
      cases h
      exact ⟨by omega, by omega, a3.pinv, Nat.le_trans a4 (Nat.mul_le_mul_right _ (by omega))⟩
    · simp only [h2]
      refine ⟨fun e h => (by cases h), fun q' c' F' h => ?_⟩
      cases h
      exact ⟨a1, a2, a3, a4⟩
theorem pLoop_good {it : Nat → PRes} {p : Nat} (hit : PGood x m it) : ∀ (n q c : Nat) (F : Nat → Nat), p < q → q ≤ x → Bij F → c ≤ (q - p) * m →
    (∀ e, pLoop t x it n q c F = .inl e → e ≤ x) ∧ ∀ q' c' F', pLoop t x it n q c F = .inr (q', c', F') → p < q' ∧ q' ≤ x ∧ Bij F' ∧ c' ≤ (q' - p) * m
  | 0, q, c, F, h1, h2, h3, h4 => ⟨fun e h => (by cases h), fun q' c' F' h => by cases h; exact ⟨h1, h2, h3, h4⟩⟩
  | n + 1, q, c, F, h1, h2, h3, h4 => by
    unfold pLoop
    by_cases g : isIt t x q = true
    · rw [if_pos g]
      have k := hit q h2
      rcases e1 : it q with e | ⟨q1, c1, G⟩
      · exact ⟨fun e' h => by cases h; exact k.1 e e1, fun q c F h => by cases h⟩
      · obtain ⟨a1, a2, a3, a4⟩ := k.2 q1 c1 G e1
        refine pLoop_good hit n q1 (c + c1) (fun k => G (F k)) (by omega) a2 (h3.comp a3) ?_
        calc c + c1 ≤ (q - p) * m + (q1 - q) * m := Nat.add_le_add h4 a4
          _ = ((q - p) + (q1 - q)) * m := (Nat.add_mul _ _ _).symm
          _ = (q1 - p) * m := by rw [show q - p + (q1 - q) = q1 - p by omega]
    · rw [if_neg g]
      exact ⟨fun e h => (by cases h), fun q' c' F' h => by cases h; exact ⟨h1, h2, h3, h4⟩⟩
theorem pSeq_good {it : Nat → PRes} (hit : PGood x m it) : PGood x m (pSeq t x it) := by
  intro p hp
  unfold pSeq
  have k := hit p hp
  rcases e1 : it p with e | ⟨q1, c1, G⟩
  · exact ⟨fun e' h => by cases h; exact k.1 e e1, fun q c F h => by cases h⟩
  · obtain ⟨a1, a2, a3, a4⟩ := k.2 q1 c1 G e1
    exact pLoop_good hit 59 q1 (0 + c1) (fun k => G k) a1 a2 a3 (by omega)
theorem pSq_good (hV : ∀ i, i < 5 → aFl σ i = true → Bij (aSh σ i)) : ∀ n, PGood x (9 ^ n) (pSq t x σ n)
  | 0 => fun p hp => ⟨fun e h => by cases h; omega, fun q c F h => by cases h⟩
  | n + 1 => by
    have h := pSeq_good (t := t) (pIt_good (t := t) hV (Nat.pow_pos (by decide)) (pSq_good hV n))
    rw [← Nat.pow_succ] at h
    exact h
/-- in few signs: what a sequence counts stays small -/
theorem pSq_few (hV : ∀ i, i < 5 → aFl σ i = true → Bij (aSh σ i)) {n p q c : Nat} {F : Nat → Nat} (hx : x ≤ 60) (hn : n ≤ 5) (hp : p ≤ x) (h : pSq t x σ n p = .inr (q, c, F)) : p < q ∧ q ≤ x ∧ Bij F ∧ c ≤ 3542940 := by
  obtain ⟨a1, a2, a3, a4⟩ := (pSq_good hV n p hp).2 q c F h
  refine ⟨a1, a2, a3, Nat.le_trans a4 ?_⟩
  calc (q - p) * 9 ^ n ≤ 60 * 9 ^ 5 := Nat.mul_le_mul (by omega) (Nat.pow_le_pow_right (by decide) hn)
    _ = 3542940 := rfl
theorem pIt_few (hV : ∀ i, i < 5 → aFl σ i = true → Bij (aSh σ i)) {n p q c : Nat} {F : Nat → Nat} (hx : x ≤ 60) (hn : n ≤ 4) (hp : p ≤ x) (h : pIt t x σ (pSq t x σ n) p = .inr (q, c, F)) : p < q ∧ q ≤ x ∧ Bij F ∧ c ≤ 3542940 := by
  have h9 := pIt_good (t := t) hV (Nat.pow_pos (by decide)) (pSq_good (t := t) (x := x) hV n)
  obtain ⟨a1, a2, a3, a4⟩ := (h9 p hp).2 q c F h
  refine ⟨a1, a2, a3, Nat.le_trans a4 ?_⟩
  calc (q - p) * (9 ^ n * 9) ≤ 60 * (9 ^ 4 * 9) := Nat.mul_le_mul (by omega) (Nat.mul_le_mul_right _ (Nat.pow_le_pow_right (by decide) hn))
    _ = 3542940 := rfl
end PG
/-! signs and their comparing -/
theorem nI_m1 {a : Nat} (h : a < 2147483648) : ¬ nI a = -1 := fun e => by
  have h1 := congrArg Int32.toInt e
  rw [nI_toInt h] at h1
  have h2 : (-1 : Int32).toInt = -1 := by decide
  omega
theorem sg_is {t : Nat → Nat} {x p c : Nat} (ht : ∀ k, k < x → t k < 65536) (hc : c < 65536) : sg t x p = nI c ↔ hr t x p c c = true := by
  rw [hr_one]
  unfold sg
  by_cases h : p < x
  · rw [if_pos h, nI_eq (by have := ht p h; omega) (by omega)]
    exact ⟨fun e => ⟨h, e⟩, fun e => e.2⟩
  · rw [if_neg h]
    exact ⟨fun e => absurd e.symm (nI_m1 (by omega)), fun e => absurd e.1 h⟩
theorem sg_toInt {t : Nat → Nat} {x p : Nat} (ht : ∀ k, k < x → t k < 65536) : (sg t x p).toInt = if p < x then (t p : Int) else -1 := by
  unfold sg
  by_cases h : p < x
  · rw [if_pos h, if_pos h, nI_toInt (by have := ht p h; omega)]
  · rw [if_neg h, if_neg h]; decide
theorem sg_48 {t : Nat → Nat} {x p : Nat} (ht : ∀ k, k < x → t k < 65536) : (sg t x p - nI 48).toInt = (if p < x then (t p : Int) else -1) - 48 := by
  unfold sg
  by_cases h : p < x
  · rw [if_pos h, if_pos h, pk_sub_toInt (by have := ht p h; omega) (by decide)]; rfl
  · rw [if_neg h, if_neg h]; decide
theorem sg_dig {t : Nat → Nat} {x p lo hi : Nat} (ht : ∀ k, k < x → t k < 65536) (h1 : lo < 65536) (h2 : hi < 65536) (hn : pDig t x p lo hi = none) (c1 : ¬ sg t x p - nI 48 < nI lo) (c2 : sg t x p - nI 48 ≤ nI hi) : False := by
  rw [Int32.lt_iff_toInt_lt, sg_48 ht, nI_toInt (by omega)] at c1
  rw [Int32.le_iff_toInt_le, sg_48 ht, nI_toInt (by omega)] at c2
  have h3 := pDig_none hn
  split at c1 <;> omega
theorem sg_shelf {t : Nat → Nat} {x p : Nat} (ht : ∀ k, k < x → t k < 65536) (hn : pDig t x p 0 4 = none) : ¬ (0 ≤ sg t x p - nI 48 ∧ sg t x p - nI 48 < nI 5) := by
  intro ⟨c1, c2⟩
  rw [Int32.le_iff_toInt_le, sg_48 ht] at c1
  rw [Int32.lt_iff_toInt_lt, sg_48 ht, nI_toInt (by omega)] at c2
  have h3 := pDig_none hn
  have h4 : (0 : Int32).toInt = 0 := by decide
  split at c1 <;> omega
theorem sg_in {t : Nat → Nat} {x p : Nat} (h : p < x) : sg t x p = nI (t p) := if_pos h
section SGC
variable {g : GP} {M : MI} {R : Room} {Q : QT} {k n pc : Nat} {w : va_W} {l : List (Option Value)} {st : List Value}
theorem J.icmp_eqS {t : Nat → Nat} {x p c : Nat} {off : Int} {tgt : Nat} (ht : ∀ k, k < x → t k < 65536) (hc : c < 65536) (d : decode M.2.1 pc = .ok (.if_icmp .eq off, 3)) (hp : (pc : Int) + off = (tgt : Int)) (kt : hr t x p c c = true → J g M R Q k n w tgt l st) (kf : ¬ hr t x p c c = true → J g M R Q k n w (pc + 3) l st) : J g M R Q k n w pc l (.int (nI c) :: .int (sg t x p) :: st) :=
  J.icmp_eq d hp (fun z => kt ((sg_is ht hc).mp z)) (fun z => kf (fun q => z ((sg_is ht hc).mpr q)))
theorem J.icmp_neS {t : Nat → Nat} {x p c : Nat} {off : Int} {tgt : Nat} (ht : ∀ k, k < x → t k < 65536) (hc : c < 65536) (d : decode M.2.1 pc = .ok (.if_icmp .ne off, 3)) (hp : (pc : Int) + off = (tgt : Int)) (kt : ¬ hr t x p c c = true → J g M R Q k n w tgt l st) (kf : hr t x p c c = true → J g M R Q k n w (pc + 3) l st) : J g M R Q k n w pc l (.int (nI c) :: .int (sg t x p) :: st) :=
  J.icmp_ne d hp (fun z => kt (fun q => z ((sg_is ht hc).mpr q))) (fun z => kf ((sg_is ht hc).mp z))
/-- with minus one -/
theorem J.icmp_eqW {a : Nat} {off : Int} {tgt : Nat} (h : a < 2147483648) (d : decode M.2.1 pc = .ok (.if_icmp .eq off, 3)) (hp : (pc : Int) + off = (tgt : Int)) (kf : J g M R Q k n w (pc + 3) l st) : J g M R Q k n w pc l (.int (-1) :: .int (nI a) :: st) :=
  J.icmp_eq d hp (fun z => absurd z (nI_m1 h)) (fun _ => kf)
theorem J.icmp_neW {a : Nat} {off : Int} {tgt : Nat} (h : a < 2147483648) (d : decode M.2.1 pc = .ok (.if_icmp .ne off, 3)) (hp : (pc : Int) + off = (tgt : Int)) (kt : J g M R Q k n w tgt l st) : J g M R Q k n w pc l (.int (-1) :: .int (nI a) :: st) :=
  J.icmp_ne d hp (fun _ => kt) (fun z => absurd z (nI_m1 h))
theorem J.icmp_eqV {x : Int32} {off : Int} {tgt : Nat} (d : decode M.2.1 pc = .ok (.if_icmp .eq off, 3)) (hp : (pc : Int) + off = (tgt : Int)) (kt : J g M R Q k n w tgt l st) : J g M R Q k n w pc l (.int x :: .int x :: st) :=
  J.icmp_eq d hp (fun _ => kt) (fun z => absurd rfl z)
theorem J.icmp_neV {x : Int32} {off : Int} {tgt : Nat} (d : decode M.2.1 pc = .ok (.if_icmp .ne off, 3)) (hp : (pc : Int) + off = (tgt : Int)) (kf : J g M R Q k n w (pc + 3) l st) : J g M R Q k n w pc l (.int x :: .int x :: st) :=
  J.icmp_ne d hp (fun z => absurd rfl z) (fun _ => kf)
end SGC
theorem signAtI {g : GP} {adr : Nat → Nat} (μ : Mem) {q x i : Nat} {f : Nat → Nat} (hq : kt q = 9) (hT : SgT μ q x f) (hx2 : x ≤ 120) (hi2 : i < 2147483648) : CT g yX5_signAt mX5_signAt (RM 0 0 0) (WM g adr μ) [.ref (adr q), .int (nI i)] (PM g adr (.inl (some (.int (sg f x i)))) (fun μ' => μ' = μ)) := by
  unfold sg
  by_cases h : i < x
  · rw [if_pos h]; exact c_signAt μ hq hT.1 hx2 h (fun k hk => (hT.2 k hk).1)
  · rw [if_neg h]; exact c_signAtE μ hq hT.1 hx2 (by omega) hi2
/-! the reader's frame: the place, the inverse's row, the rows from b on -/
def RdF (μ' μ : Mem) (b : Nat) : Prop := ∀ o k, (o ≠ 193 ∨ k ≠ 1) → o ≠ 200 → (o < b ∨ 231 ≤ o) → μ' o k = μ o k
theorem RdF.rf {μ : Mem} {b : Nat} : RdF μ μ b := fun _ _ _ _ _ => rfl
theorem RdF.trans {μ2 μ1 μ : Mem} {b1 b2 b : Nat} (h2 : RdF μ2 μ1 b2) (h1 : RdF μ1 μ b1) (e1 : b ≤ b1) (e2 : b ≤ b2) : RdF μ2 μ b := fun o k a c d => (h2 o k a c (by omega)).trans (h1 o k a c (by omega))
theorem RdF.wr {μ1 μ : Mem} {b : Nat} {v : Int32} (h : RdF μ1 μ b) : RdF (wr μ1 193 1 v) μ b := fun o k a c d => (wr_n (by omega)).trans (h o k a c d)
theorem RdF.off {μ2 μ1 μ : Mem} {b q : Nat} (h2 : Off μ2 μ1 q) (h : RdF μ1 μ b) (hq : (b ≤ q ∧ q < 231) ∨ q = 200) : RdF μ2 μ b := fun o k a c d => (congrFun (h2 o (by omega)) k).trans (h o k a c d)
theorem RdF.off2 {μ2 μ1 μ : Mem} {b q : Nat} (h2 : ∀ o, o ≠ q → o ≠ 200 → μ2 o = μ1 o) (h : RdF μ1 μ b) (hq : b ≤ q ∧ q < 231) : RdF μ2 μ b := fun o k a c d => (congrFun (h2 o (by omega) c) k).trans (h o k a c d)
theorem SgT.rdf {μ' μ : Mem} {b x : Nat} {t : Nat → Nat} (h : SgT μ 194 x t) (f : RdF μ' μ b) (hb : 200 ≤ b) : SgT μ' 194 x t := ⟨(f 194 1 (by omega) (by omega) (by omega)).trans h.1, fun k hk => ⟨(f 195 k (by omega) (by omega) (by omega)).trans (h.2 k hk).1, (h.2 k hk).2⟩⟩
theorem CS.rdf {μ' μ : Mem} {b : Nat} {σ : AS} (h : CS μ 1 σ) (f : RdF μ' μ b) (hb : 200 ≤ b) : CS μ' 1 σ := h.off (fun o h1 h2 => funext fun k => f o k (by omega) (by omega) (by omega))
theorem PermR.rdf {μ' μ : Mem} {b o : Nat} {f : Nat → Nat} (h : PermR μ o f) (r : RdF μ' μ b) (h1 : 200 < o) (h2 : o < b) : PermR μ' o f := fun k hk => by rw [r o k (by omega) (by omega) (by omega)]; exact h k hk
def pPl (r : PRes) : Nat := match r with
  | .inl e => e
  | .inr (q, _, _) => q
def pVal (r : PRes) : Int32 := match r with
  | .inl _ => -1
  | .inr (_, c, _) => nI c
/-- what is left behind: the place, and the row o -/
def RdP (μ' μ : Mem) (b o : Nat) (r : PRes) : Prop := μ' 193 1 = nI (pPl r) ∧ (match r with | .inl _ => True | .inr (_, _, F) => PermR μ' o F) ∧ RdF μ' μ b
theorem kt_rd {d : Nat} (h : d < 5) : kt (201 + 6 * d) = 1 ∧ kt (203 + 6 * d) = 1 ∧ kt (205 + 6 * d) = 1 := by
  match d, h with
  | 0, _ => exact ⟨rfl, rfl, rfl⟩
  | 1, _ => exact ⟨rfl, rfl, rfl⟩
  | 2, _ => exact ⟨rfl, rfl, rfl⟩
  | 3, _ => exact ⟨rfl, rfl, rfl⟩
  | 4, _ => exact ⟨rfl, rfl, rfl⟩
theorem roomR {h h' nL : Nat} (a : h + 1 ≤ h') (b : nL ≤ 80) : ((RM h 0 0).frames + 1 ≤ (RM h' 0 0).frames ∧ 8 + (nL + 11) + (RM h 0 0).locals ≤ (RM h' 0 0).locals) ∧ (0 + (RM h 0 0).cells = 0 ∧ 0 + (RM h 0 0).slots = 0) ∧ 0 ≤ (RM h' 0 0).cells ∧ 0 ≤ (RM h' 0 0).slots :=
  ⟨⟨by show h + 6 + 1 ≤ h' + 6; omega, by show 8 + (nL + 11) + 100 * (h + 1) ≤ 100 * (h' + 1); omega⟩, ⟨rfl, rfl⟩, Nat.le_refl _, Nat.le_refl _⟩
theorem CS.vs {μ : Mem} {a : Nat} {σ : AS} (h : CS μ a σ) : VS σ := h.2.2.2.2.2.2.2.2.2
theorem CS.sh {μ : Mem} {a : Nat} {σ : AS} (h : CS μ a σ) : ∀ i, i < 5 → aFl σ i = true → Bij (aSh σ i) := h.vs.2.2.2.2
section PE
variable {t : Nat → Nat} {x p : Nat} {σ : AS} {f : Nat → PRes}
theorem pMove_1 {a : Nat} (h : pDig t x (p + 1) 0 (if a = 0 then 3 else 7) = none) : pMove t x a p = .inl (p + 1) := by unfold pMove; rw [h]
theorem pMove_2 {a w : Nat} (h : pDig t x (p + 1) 0 (if a = 0 then 3 else 7) = some w) (h2 : pDig t x (p + 2) 1 (if a = 0 then 7 else 3) = none) : pMove t x a p = .inl (p + 2) := by unfold pMove; rw [h]; simp only [h2]
theorem pMove_3 {a w b : Nat} (h : pDig t x (p + 1) 0 (if a = 0 then 3 else 7) = some w) (h2 : pDig t x (p + 2) 1 (if a = 0 then 7 else 3) = some b) : pMove t x a p = .inr (p + 3, 1, moveF a w b) := by unfold pMove; rw [h]; simp only [h2]
theorem pShelf_1 (h : pDig t x (p + 1) 0 4 = none) : pShelf t x σ p = .inl (p + 1) := by unfold pShelf; rw [h]
theorem pShelf_2 {i : Nat} (h : pDig t x (p + 1) 0 4 = some i) (h2 : ¬ aFl σ i = true) : pShelf t x σ p = .inl (p + 1) := by unfold pShelf; rw [h]; simp only [if_neg h2]
theorem pShelf_3 {i : Nat} (h : pDig t x (p + 1) 0 4 = some i) (h2 : aFl σ i = true) : pShelf t x σ p = .inr (p + 2, 1, aSh σ i) := by unfold pShelf; rw [h]; simp only [if_pos h2]
theorem pRep_1 {e : Nat} (h : f (p + 1) = .inl e) : pRep t x f p = .inl e := by unfold pRep; rw [h]
theorem pRep_2 {q c : Nat} {F : Nat → Nat} (h : f (p + 1) = .inr (q, c, F)) (h2 : ¬ hr t x q 41 41 = true) : pRep t x f p = .inl q := by unfold pRep; rw [h]; simp only [if_neg h2]
theorem pRep_3 {q c : Nat} {F : Nat → Nat} (h : f (p + 1) = .inr (q, c, F)) (h2 : hr t x q 41 41 = true) (h3 : pDig t x (q + 1) 2 9 = none) : pRep t x f p = .inl (q + 1) := by unfold pRep; rw [h]; simp only [if_pos h2, h3]
theorem pRep_4 {q c m : Nat} {F : Nat → Nat} (h : f (p + 1) = .inr (q, c, F)) (h2 : hr t x q 41 41 = true) (h3 : pDig t x (q + 1) 2 9 = some m) : pRep t x f p = .inr (q + 2, c * m, iter F m) := by unfold pRep; rw [h]; simp only [if_pos h2, h3]
theorem pCom_1 {e : Nat} (h : f (p + 1) = .inl e) : pCom t x f p = .inl e := by unfold pCom; rw [h]
theorem pCom_2 {q c : Nat} {F : Nat → Nat} (h : f (p + 1) = .inr (q, c, F)) (h2 : ¬ hr t x q 44 44 = true) : pCom t x f p = .inl q := by unfold pCom; rw [h]; simp only [if_neg h2]
theorem pCom_3 {q c e : Nat} {F : Nat → Nat} (h : f (p + 1) = .inr (q, c, F)) (h2 : hr t x q 44 44 = true) (h3 : f (q + 1) = .inl e) : pCom t x f p = .inl e := by unfold pCom; rw [h]; simp only [if_pos h2, h3]
theorem pCom_4 {q c q2 c2 : Nat} {F H : Nat → Nat} (h : f (p + 1) = .inr (q, c, F)) (h2 : hr t x q 44 44 = true) (h3 : f (q + 1) = .inr (q2, c2, H)) (h4 : ¬ hr t x q2 93 93 = true) : pCom t x f p = .inl q2 := by unfold pCom; rw [h]; simp only [if_pos h2, h3, if_neg h4]
theorem pCom_5 {q c q2 c2 : Nat} {F H : Nat → Nat} (h : f (p + 1) = .inr (q, c, F)) (h2 : hr t x q 44 44 = true) (h3 : f (q + 1) = .inr (q2, c2, H)) (h4 : hr t x q2 93 93 = true) : pCom t x f p = .inr (q2 + 1, 2 * (c + c2), comF F H) := by unfold pCom; rw [h]; simp only [if_pos h2, h3, if_pos h4]
theorem hr_ex {c c' : Nat} (h : hr t x p c c = true) (hn : c ≠ c') : ¬ hr t x p c' c' = true := fun q => hn ((hr_one.mp h).2.symm.trans (hr_one.mp q).2)
theorem pItem_r (h : hr t x p 114 114 = true) : pItem t x σ f p = pMove t x 0 p := by unfold pItem; rw [if_pos h]
theorem pItem_c (h : hr t x p 99 99 = true) : pItem t x σ f p = pMove t x 1 p := by unfold pItem; rw [if_neg (hr_ex h (by decide)), if_pos h]
theorem pItem_s (h : hr t x p 115 115 = true) : pItem t x σ f p = pShelf t x σ p := by unfold pItem; rw [if_neg (hr_ex h (by decide)), if_neg (hr_ex h (by decide)), if_pos h]
theorem pItem_p (h : hr t x p 40 40 = true) : pItem t x σ f p = pRep t x f p := by unfold pItem; rw [if_neg (hr_ex h (by decide)), if_neg (hr_ex h (by decide)), if_neg (hr_ex h (by decide)), if_pos h]
theorem pItem_b (h : hr t x p 91 91 = true) : pItem t x σ f p = pCom t x f p := by unfold pItem; rw [if_neg (hr_ex h (by decide)), if_neg (hr_ex h (by decide)), if_neg (hr_ex h (by decide)), if_neg (hr_ex h (by decide)), if_pos h]
theorem pItem_n (h1 : ¬ hr t x p 114 114 = true) (h2 : ¬ hr t x p 99 99 = true) (h3 : ¬ hr t x p 115 115 = true) (h4 : ¬ hr t x p 40 40 = true) (h5 : ¬ hr t x p 91 91 = true) : pItem t x σ f p = .inl p := by unfold pItem; rw [if_neg h1, if_neg h2, if_neg h3, if_neg h4, if_neg h5]
theorem pIt_e {e : Nat} (h : pItem t x σ f p = .inl e) : pIt t x σ f p = .inl e := by unfold pIt pQuo; rw [h]
theorem pIt_q {q c : Nat} {F : Nat → Nat} (h : pItem t x σ f p = .inr (q, c, F)) (h2 : hr t x q 39 39 = true) : pIt t x σ f p = .inr (q + 1, c, pinv F) := by unfold pIt pQuo; rw [h]; simp only [if_pos h2]
theorem pIt_o {q c : Nat} {F : Nat → Nat} (h : pItem t x σ f p = .inr (q, c, F)) (h2 : ¬ hr t x q 39 39 = true) : pIt t x σ f p = .inr (q, c, F) := by unfold pIt pQuo; rw [h]; simp only [if_neg h2]
theorem isIt_iff : isIt t x p = true ↔ (hr t x p 114 114 = true ∨ hr t x p 99 99 = true ∨ hr t x p 115 115 = true ∨ hr t x p 40 40 = true ∨ hr t x p 91 91 = true) := by
  unfold isIt
  simp only [Bool.or_eq_true]
theorem pItem_not (h : ¬ isIt t x p = true) : pIt t x σ f p = .inl p := by
  have h9 : ∀ {P : Prop}, (P → isIt t x p = true) → ¬ P := fun q r => h (q r)
  exact pIt_e (pItem_n (h9 fun r => isIt_iff.mpr (Or.inl r)) (h9 fun r => isIt_iff.mpr (Or.inr (Or.inl r))) (h9 fun r => isIt_iff.mpr (Or.inr (Or.inr (Or.inl r)))) (h9 fun r => isIt_iff.mpr (Or.inr (Or.inr (Or.inr (Or.inl r))))) (h9 fun r => isIt_iff.mpr (Or.inr (Or.inr (Or.inr (Or.inr r))))))
theorem isIt_lt (h : isIt t x p = true) : p < x := by
  rcases isIt_iff.mp h with h | h | h | h | h <;> exact (hr_one.mp h).1
end PE
section PH
variable {t : Nat → Nat} {x p : Nat} {σ : AS} {m : Nat} {f : Nat → PRes}
/-- the same of an item without what stands behind it -/
theorem pItem_few (hV : ∀ i, i < 5 → aFl σ i = true → Bij (aSh σ i)) {n q c : Nat} {F : Nat → Nat} (hx : x ≤ 60) (hn : n ≤ 4) (hp : p ≤ x) (h : pItem t x σ (pSq t x σ n) p = .inr (q, c, F)) : p < q ∧ q ≤ x ∧ Bij F ∧ c ≤ 3542940 := by
  by_cases h2 : hr t x q 39 39 = true
  · have k := pIt_few (t := t) hV hx hn hp (pIt_q h h2)
    have g2 := hr_one.mp h2
    have h9 := pIt_good (t := t) (m := 9 ^ n) hV (Nat.pow_pos (by decide)) (pSq_good (t := t) (x := x) hV n)
    refine ⟨?_, by omega, ?_, k.2.2.2⟩
    · by_cases g1 : isIt t x p = true
      · have hp2 := isIt_lt g1
        rcases isIt_iff.mp g1 with g | g | g | g | g
        · rw [pItem_r g] at h; exact ((pMove_good (m := 1) (by decide) hp2).2 _ _ _ h).1
        · rw [pItem_c g] at h; exact ((pMove_good (m := 1) (by decide) hp2).2 _ _ _ h).1
        · rw [pItem_s g] at h; exact ((pShelf_good (m := 1) hV (by decide) hp2).2 _ _ _ h).1
        · rw [pItem_p g] at h; exact ((pRep_good (pSq_good (t := t) (x := x) hV n) hp2).2 _ _ _ h).1
        · rw [pItem_b g] at h; exact ((pCom_good (pSq_good (t := t) (x := x) hV n) hp2).2 _ _ _ h).1
      · have k2 := pItem_not (f := pSq t x σ n) (σ := σ) g1
        rw [pIt_q h h2] at k2; cases k2
    · by_cases g1 : isIt t x p = true
      · have hp2 := isIt_lt g1
        rcases isIt_iff.mp g1 with g | g | g | g | g
        · rw [pItem_r g] at h; exact ((pMove_good (m := 1) (by decide) hp2).2 _ _ _ h).2.2.1
        · rw [pItem_c g] at h; exact ((pMove_good (m := 1) (by decide) hp2).2 _ _ _ h).2.2.1
        · rw [pItem_s g] at h; exact ((pShelf_good (m := 1) hV (by decide) hp2).2 _ _ _ h).2.2.1
        · rw [pItem_p g] at h; exact ((pRep_good (pSq_good (t := t) (x := x) hV n) hp2).2 _ _ _ h).2.2.1
        · rw [pItem_b g] at h; exact ((pCom_good (pSq_good (t := t) (x := x) hV n) hp2).2 _ _ _ h).2.2.1
      · have k2 := pItem_not (f := pSq t x σ n) (σ := σ) g1
        rw [pIt_q h h2] at k2; cases k2
  · exact pIt_few (t := t) hV hx hn hp (pIt_o h h2)
end PH
section LK
variable {g : GP} {M : MI} {R : Room} {Q : QT} {k n pc : Nat} {w : va_W} {l : List (Option Value)} {st : List Value}
theorem J.lookup5S {t : Nat → Nat} {x p : Nat} {dflt o1 o2 o3 o4 o5 : Int} {len t0 t1 t2 t3 t4 t5 : Nat} (ht : ∀ k, k < x → t k < 65536)
    (d : decode M.2.1 pc = .ok (.lookupswitch dflt #[(40, o1), (91, o2), (99, o3), (114, o4), (115, o5)], len)) (e0 : (pc : Int) + dflt = (t0 : Int)) (e1 : (pc : Int) + o1 = (t1 : Int)) (e2 : (pc : Int) + o2 = (t2 : Int)) (e3 : (pc : Int) + o3 = (t3 : Int)) (e4 : (pc : Int) + o4 = (t4 : Int)) (e5 : (pc : Int) + o5 = (t5 : Int))
    (k1 : hr t x p 40 40 = true → J g M R Q k n w t1 l st) (k2 : hr t x p 91 91 = true → J g M R Q k n w t2 l st) (k3 : hr t x p 99 99 = true → J g M R Q k n w t3 l st) (k4 : hr t x p 114 114 = true → J g M R Q k n w t4 l st) (k5 : hr t x p 115 115 = true → J g M R Q k n w t5 l st)
    (k0 : ¬ isIt t x p = true → J g M R Q k n w t0 l st) : J g M R Q k n w pc l (.int (sg t x p) :: st) := by
  have key : ∀ c, c < 65536 → hr t x p c c = true → (sg t x p).toInt = (c : Int) := fun c hc h => by rw [(sg_is ht hc).mpr h, nI_toInt (by omega)]
  by_cases h1 : hr t x p 40 40 = true
  · exact J.lookup d rfl (by rw [key 40 (by decide) h1]; rfl) e1 (k1 h1)
  by_cases h2 : hr t x p 91 91 = true
  · exact J.lookup d rfl (by rw [key 91 (by decide) h2]; rfl) e2 (k2 h2)
  by_cases h3 : hr t x p 99 99 = true
  · exact J.lookup d rfl (by rw [key 99 (by decide) h3]; rfl) e3 (k3 h3)
  by_cases h4 : hr t x p 114 114 = true
  · exact J.lookup d rfl (by rw [key 114 (by decide) h4]; rfl) e4 (k4 h4)
  by_cases h5 : hr t x p 115 115 = true
  · exact J.lookup d rfl (by rw [key 115 (by decide) h5]; rfl) e5 (k5 h5)
  have nk : ∀ c : Nat, c < 65536 → ¬ hr t x p c c = true → ¬ (c : Int) = (sg t x p).toInt := fun c hc h q => by
    rw [sg_toInt ht] at q
    rw [hr_one] at h
    split at q <;> omega
  refine J.lookup d rfl ?_ e0 (k0 (fun q => by rcases isIt_iff.mp q with q | q | q | q | q <;> contradiction))
  show (if (40 : Int) = (sg t x p).toInt then o1 else if (91 : Int) = (sg t x p).toInt then o2 else if (99 : Int) = (sg t x p).toInt then o3 else if (114 : Int) = (sg t x p).toInt then o4 else if (115 : Int) = (sg t x p).toInt then o5 else dflt) = dflt
  rw [if_neg (show ¬ (40 : Int) = (sg t x p).toInt from nk 40 (by decide) h1), if_neg (show ¬ (91 : Int) = (sg t x p).toInt from nk 91 (by decide) h2), if_neg (show ¬ (99 : Int) = (sg t x p).toInt from nk 99 (by decide) h3), if_neg (show ¬ (114 : Int) = (sg t x p).toInt from nk 114 (by decide) h4), if_neg (show ¬ (115 : Int) = (sg t x p).toInt from nk 115 (by decide) h5)]
end LK
/-- a sequence at the depth d, in which n more may stand in each other -/
def SeqOK (g : GP) (adr : Nat → Nat) (t : Nat → Nat) (x : Nat) (σ : AS) (n d : Nat) : Prop := ∀ (μ : Mem) (p : Nat), SgT μ 194 x t → CS μ 1 σ → μ 193 1 = nI p → p ≤ x → 0 < n → ∀ r, pSq t x σ n p = r →
  CT g yX4_sequence mX4_sequence (RM (3 * n + 1) 0 0) (WM g adr μ) [.ref (adr 193), .int (nI d), .ref (adr 1)] (PM g adr (.inl (some (.int (pVal r)))) (fun μ' => RdP μ' μ (201 + 6 * d) (201 + 6 * d + 1) r))
/-- the loop of a sequence -/
def SqI (t : Nat → Nat) (x : Nat) (it : Nat → PRes) (p i q c : Nat) (F : Nat → Nat) (r : PRes) : Prop := (i = 0 ∧ q = p ∧ c = 0 ∧ F = (fun k => k) ∧ pSeq t x it p = r) ∨ (0 < i ∧ pLoop t x it (60 - i) q c F = r)
section SQ
variable {t : Nat → Nat} {x p i q c : Nat} {it : Nat → PRes} {F : Nat → Nat} {r : PRes}
theorem SqI.full (h : SqI t x it p i q c F r) (hi : i = 60) : r = .inr (q, c, F) := by
  rcases h with h | ⟨_, h⟩
  · omega
  · rw [← h, hi]; rfl
theorem SqI.stop (h : SqI t x it p i q c F r) (hi : i < 60) (h0 : i ≠ 0) (hn : ¬ isIt t x q = true) : r = .inr (q, c, F) := by
  rcases h with h | ⟨_, h⟩
  · omega
  · rw [← h, show 60 - i = (59 - i) + 1 by omega]
    unfold pLoop
    rw [if_neg hn]
theorem SqI.wrong {e : Nat} (h : SqI t x it p i q c F r) (hi : i < 60) (h0 : i = 0 ∨ isIt t x q = true) (k : it q = .inl e) : r = .inl e := by
  rcases h with ⟨a1, a2, a3, a4, h⟩ | ⟨h1, h⟩
  · rw [← h]; unfold pSeq; rw [← a2, k]
  · rw [← h, show 60 - i = (59 - i) + 1 by omega]
    unfold pLoop
    rw [if_pos (h0.resolve_left (by omega)), k]
theorem SqI.next {q' c' : Nat} {G : Nat → Nat} (h : SqI t x it p i q c F r) (hi : i < 60) (h0 : i = 0 ∨ isIt t x q = true) (k : it q = .inr (q', c', G)) : SqI t x it p (i + 1) q' (c + c') (fun k => G (F k)) r := by
  refine Or.inr ⟨by omega, ?_⟩
  rcases h with ⟨a1, a2, a3, a4, h⟩ | ⟨h1, h⟩
  · rw [← h]; unfold pSeq; rw [← a2, k]; subst a1; subst a3; subst a4; rfl
  · rw [← h, show 60 - i = (60 - (i + 1)) + 1 by omega]
    conv => rhs; unfold pLoop
    rw [if_pos (h0.resolve_left (by omega)), k]
end SQ
