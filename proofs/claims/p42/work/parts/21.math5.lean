/-! ===== changes of the barrel's state ===== -/
def sDo (F : Nat → Nat) (σ : AS) : AS := (fun s => aAt σ (pinv F s), σ.2)
def sMv (σ : AS) : AS := (σ.1, σ.2.1, σ.2.2.1, (aMv σ + 1, aRd σ), σ.2.2.2.2)
def sRd (σ : AS) : AS := (σ.1, σ.2.1, σ.2.2.1, (aMv σ, aRd σ + 1), σ.2.2.2.2)
def sLog (a w b : Nat) (σ : AS) : AS := (σ.1, σ.2.1, (logN (aLn σ), logF (aLn σ) (aLg σ) a w b), σ.2.2.2)
def sLen (x : Nat) (σ : AS) : AS := (σ.1, σ.2.1, (x, aLg σ), σ.2.2.2)
def sCol (i c : Nat) (σ : AS) : AS := (σ.1, fun k => if k = i then c else aCol σ k, σ.2.2)
def sPut (i : Nat) (F : Nat → Nat) (σ : AS) : AS := (σ.1, σ.2.1, σ.2.2.1, σ.2.2.2.1, fun j => if j = i then true else aFl σ j, fun j => if j = i then F else aSh σ j)
def sTake (i : Nat) (σ : AS) : AS := (σ.1, σ.2.1, σ.2.2.1, σ.2.2.2.1, fun j => if j = i then false else aFl σ j, aSh σ)
theorem VS.sDo {σ : AS} {F : Nat → Nat} (h : VS σ) (hF : Bij F) : VS (sDo F σ) := ⟨hF.pinv.comp h.1, h.2⟩
theorem VS.sLog {σ : AS} {a w b : Nat} (h : VS σ) (hm : mvOK a w b) : VS (sLog a w b σ) := by
  obtain ⟨h1, h2, h3, h4, h5⟩ := h
  refine ⟨h1, h2, ?_, ?_, h5⟩
  · show logN (aLn σ) ≤ 40
    unfold logN; split <;> omega
  · show ∀ p, p < logN (aLn σ) → mvOK (logF (aLn σ) (aLg σ) a w b (3 * p)) (logF (aLn σ) (aLg σ) a w b (3 * p + 1)) (logF (aLn σ) (aLg σ) a w b (3 * p + 2))
    intro p hp
    unfold logN at hp
    unfold logF
    by_cases c : aLn σ < 40
    · rw [if_pos c] at hp
      simp only [if_pos c]
      by_cases e : p = aLn σ
      · subst e
        rw [if_pos rfl, if_neg (by omega), if_pos rfl, if_neg (by omega), if_neg (by omega), if_pos rfl]
        exact hm
      · rw [if_neg (by omega), if_neg (by omega), if_neg (by omega), if_neg (by omega), if_neg (by omega), if_neg (by omega), if_neg (by omega), if_neg (by omega), if_neg (by omega)]
        exact h4 p (by omega)
    · rw [if_neg c] at hp
      simp only [if_neg c]
      by_cases e : p = 39
      · subst e
        rw [if_pos rfl, if_neg (by omega), if_pos rfl, if_neg (by omega), if_neg (by omega), if_pos rfl]
        exact hm
      · rw [if_neg (by omega), if_neg (by omega), if_neg (by omega), if_neg (by omega), if_neg (by omega), if_neg (by omega), if_neg (by omega), if_neg (by omega), if_neg (by omega)]
        have := h4 (p + 1) (by omega)
        rw [show 3 * (p + 1) = 3 * p + 3 by omega] at this
        exact this
theorem VS.sLen {σ : AS} {x : Nat} (h : VS σ) (hx : x ≤ aLn σ) : VS (sLen x σ) := ⟨h.1, h.2.1, Nat.le_trans hx h.2.2.1, fun p hp => h.2.2.2.1 p (Nat.lt_of_lt_of_le hp hx), h.2.2.2.2⟩
theorem VS.sCol {σ : AS} {i c : Nat} (h : VS σ) (hc : c < 6) : VS (sCol i c σ) := ⟨h.1, fun k hk => by
  show (if k = i then c else aCol σ k) < 6
  split
  · exact hc
  · exact h.2.1 k hk, h.2.2⟩
theorem VS.sPut {σ : AS} {i : Nat} {F : Nat → Nat} (h : VS σ) (hF : Bij F) : VS (sPut i F σ) := ⟨h.1, h.2.1, h.2.2.1, h.2.2.2.1, fun j hj hf => by
  have hf' : (if j = i then true else aFl σ j) = true := hf
  show Bij (if j = i then F else aSh σ j)
  by_cases e : j = i
  · rw [if_pos e]; exact hF
  · rw [if_neg e] at hf' ⊢; exact h.2.2.2.2 j hj hf'⟩
theorem VS.sTake {σ : AS} {i : Nat} (h : VS σ) : VS (sTake i σ) := ⟨h.1, h.2.1, h.2.2.1, h.2.2.2.1, fun j hj hf => by
  have hf' : (if j = i then false else aFl σ j) = true := hf
  by_cases e : j = i
  · rw [if_pos e] at hf'; cases hf'
  · rw [if_neg e] at hf'; exact h.2.2.2.2 j hj hf'⟩
theorem pinv_do {f F : Nat → Nat} (h : Bij f) (hF : Bij F) {k : Nat} (hk : k < 32) : pinv (fun s => f (pinv F s)) k = F (pinv f k) := by
  have hG : Bij (fun s => f (pinv F s)) := hF.pinv.comp h
  have h1 := h.inv1 hk
  have h2 : (fun s => f (pinv F s)) (F (pinv f k)) = k := by
    show f (pinv F (F (pinv f k))) = k
    rw [hF.inv2 h1.1, h1.2]
  have h3 := hG.inv2 (hF.1 _ h1.1)
  have h4 : f (pinv F (F (pinv f k))) = k := h2
  have h5 : pinv (fun s => f (pinv F s)) (f (pinv F (F (pinv f k)))) = F (pinv f k) := h3
  rw [h4] at h5
  exact h5
/-! the class's rows behind a change -/
theorem CS.ln {μ : Mem} {t : Nat} {σ : AS} (h : CS μ t σ) : aLn σ ≤ 40 := h.vs.2.2.1
theorem CS.sDo {μ' μ : Mem} {σ : AS} {F : Nat → Nat} (h : CS μ 1 σ) (hF : Bij F) (e1 : PermR μ' 3 (fun s => aAt σ (pinv F s))) (e2 : PermR μ' 4 (fun k => F (pinv (aAt σ) k))) (hO : ∀ o, o ≠ 3 → o ≠ 4 → μ' o = μ o) : CS μ' 1 (sDo F σ) := by
  obtain ⟨h1, h2, h3, h4, h5, h6, h7, h8, h9, h10⟩ := h
  refine ⟨e1, e2.cong (fun k hk => pinv_do h10.1 hF hk), h3.eq (hO 5 (by omega) (by omega)), ?_, fun k hk => ?_, ?_, ?_, fun i hi => ?_, fun i hi hf => (h9 i hi hf).eq (hO _ (by omega) (by omega)), h10.sDo hF⟩
  · rw [hO _ (by omega) (by omega)]; exact h4
  · rw [hO _ (by omega) (by omega)]; exact h5 k hk
  · rw [hO _ (by omega) (by omega)]; exact h6
  · rw [hO _ (by omega) (by omega)]; exact h7
  · rw [hO _ (by omega) (by omega)]; exact h8 i hi
theorem CS.sMv {μ : Mem} {σ : AS} (h : CS μ 1 σ) : CS (wr μ 1 2 (nI (aMv σ + 1))) 1 (sMv σ) := by
  obtain ⟨h1, h2, h3, h4, h5, h6, h7, h8, h9, h10⟩ := h
  have e : ∀ o, o ≠ 1 → wr μ 1 2 (nI (aMv σ + 1)) o = μ o := fun o ho => wr_o ho
  refine ⟨h1.eq (e _ (by omega)), h2.eq (e _ (by omega)), h3.eq (e _ (by omega)), ?_, fun k hk => ?_, wr_s, ?_, fun i hi => ?_, fun i hi hf => (h9 i hi hf).eq (e _ (by omega)), h10⟩
  · rw [e _ (by omega)]; exact h4
  · rw [e _ (by omega)]; exact h5 k hk
  · rw [wr_n (Or.inr (by omega))]; exact h7
  · rw [e _ (by omega)]; exact h8 i hi
theorem CS.sRd {μ : Mem} {σ : AS} (h : CS μ 1 σ) : CS (wr μ 1 3 (nI (aRd σ + 1))) 1 (sRd σ) := by
  obtain ⟨h1, h2, h3, h4, h5, h6, h7, h8, h9, h10⟩ := h
  have e : ∀ o, o ≠ 1 → wr μ 1 3 (nI (aRd σ + 1)) o = μ o := fun o ho => wr_o ho
  refine ⟨h1.eq (e _ (by omega)), h2.eq (e _ (by omega)), h3.eq (e _ (by omega)), ?_, fun k hk => ?_, ?_, wr_s, fun i hi => ?_, fun i hi hf => (h9 i hi hf).eq (e _ (by omega)), h10⟩
  · rw [e _ (by omega)]; exact h4
  · rw [e _ (by omega)]; exact h5 k hk
  · rw [wr_n (Or.inr (by omega))]; exact h6
  · rw [e _ (by omega)]; exact h8 i hi
theorem CS.sLogA {μ' μ : Mem} {σ : AS} {a w b : Nat} (h : CS μ 1 σ) (hm : mvOK a w b) (e1 : μ' 6 1 = nI (logN (aLn σ))) (e2 : ∀ k, k < 3 * logN (aLn σ) → μ' 7 k = nI (logF (aLn σ) (aLg σ) a w b k)) (hO : ∀ o k, o ≠ 7 → (o ≠ 6 ∨ k ≠ 1) → μ' o k = μ o k) : CS μ' 1 (sLog a w b σ) := by
  obtain ⟨h1, h2, h3, h4, h5, h6, h7, h8, h9, h10⟩ := h
  have e : ∀ o, o ≠ 7 → o ≠ 6 → μ' o = μ o := fun o h8 h9 => funext fun k => hO o k h8 (Or.inl h9)
  refine ⟨h1.eq (e _ (by omega) (by omega)), h2.eq (e _ (by omega) (by omega)), h3.eq (e _ (by omega) (by omega)), e1, e2, ?_, ?_, fun i hi => ?_, fun i hi hf => (h9 i hi hf).eq (e _ (by omega) (by omega)), h10.sLog hm⟩
  · rw [e _ (by omega) (by omega)]; exact h6
  · rw [e _ (by omega) (by omega)]; exact h7
  · rw [e _ (by omega) (by omega)]; exact h8 i hi
theorem CS.sLenA {μ : Mem} {σ : AS} {x : Nat} (h : CS μ 1 σ) (hx : x ≤ aLn σ) : CS (wr μ 6 1 (nI x)) 1 (sLen x σ) := by
  obtain ⟨h1, h2, h3, h4, h5, h6, h7, h8, h9, h10⟩ := h
  have e : ∀ o, o ≠ 6 → wr μ 6 1 (nI x) o = μ o := fun o ho => wr_o ho
  refine ⟨h1.eq (e _ (by omega)), h2.eq (e _ (by omega)), h3.eq (e _ (by omega)), wr_s, fun k hk => ?_, ?_, ?_, fun i hi => ?_, fun i hi hf => (h9 i hi hf).eq (e _ (by omega)), h10.sLen hx⟩
  · rw [e _ (by omega)]; exact h5 k (by have : k < 3 * x := hk; omega)
  · rw [e _ (by omega)]; exact h6
  · rw [e _ (by omega)]; exact h7
  · rw [e _ (by omega)]; exact h8 i hi
theorem CS.sColA {μ : Mem} {σ : AS} {i c : Nat} (h : CS μ 1 σ) (hc : c < 6) : CS (wr μ 5 i (nI c)) 1 (sCol i c σ) := by
  obtain ⟨h1, h2, h3, h4, h5, h6, h7, h8, h9, h10⟩ := h
  have e : ∀ o, o ≠ 5 → wr μ 5 i (nI c) o = μ o := fun o ho => wr_o ho
  refine ⟨h1.eq (e _ (by omega)), h2.eq (e _ (by omega)), fun k hk => ?_, ?_, fun k hk => ?_, ?_, ?_, fun i hi => ?_, fun i hi hf => (h9 i hi hf).eq (e _ (by omega)), h10.sCol hc⟩
  · show wr μ 5 i (nI c) 5 k = nI (if k = i then c else aCol σ k) ∧ (if k = i then c else aCol σ k) < 6
    by_cases q : k = i
    · subst q; rw [wr_s, if_pos rfl]; exact ⟨rfl, hc⟩
    · rw [wr_n (Or.inr q), if_neg q]; exact h3 k hk
  · rw [e _ (by omega)]; exact h4
  · rw [e _ (by omega)]; exact h5 k hk
  · rw [e _ (by omega)]; exact h6
  · rw [e _ (by omega)]; exact h7
  · rw [e _ (by omega)]; exact h8 i hi
theorem CS.sPutA {μ' μ : Mem} {σ : AS} {i : Nat} {F : Nat → Nat} (h : CS μ 1 σ) (hF : Bij F) (hi5 : i < 5) (e1 : PermR μ' (1 + 10 + 2 * i) F) (e2 : μ' (1 + 8) i = nI 1) (hO : ∀ o k, o ≠ 1 + 10 + 2 * i → (o ≠ 1 + 8 ∨ k ≠ i) → μ' o k = μ o k) : CS μ' 1 (sPut i F σ) := by
  obtain ⟨h1, h2, h3, h4, h5, h6, h7, h8, h9, h10⟩ := h
  have e : ∀ o, o ≠ 1 + 10 + 2 * i → o ≠ 9 → μ' o = μ o := fun o h8 h9 => funext fun k => hO o k h8 (Or.inl h9)
  refine ⟨h1.eq (e _ (by omega) (by omega)), h2.eq (e _ (by omega) (by omega)), h3.eq (e _ (by omega) (by omega)), ?_, fun k hk => ?_, ?_, ?_, fun j hj => ?_, fun j hj hf => ?_, h10.sPut hF⟩
  · rw [e _ (by omega) (by omega)]; exact h4
  · rw [e _ (by omega) (by omega)]; exact h5 k hk
  · rw [e _ (by omega) (by omega)]; exact h6
  · rw [e _ (by omega) (by omega)]; exact h7
  · show μ' (1 + 8) j = if (if j = i then true else aFl σ j) = true then nI 1 else nI 0
    by_cases q : j = i
    · rw [q, if_pos rfl, if_pos rfl]; exact e2
    · rw [if_neg q, hO _ _ (by omega) (Or.inr q)]; exact h8 j hj
  · have hf' : (if j = i then true else aFl σ j) = true := hf
    show PermR μ' (1 + 10 + 2 * j) (if j = i then F else aSh σ j)
    by_cases q : j = i
    · rw [if_pos q, q]; exact e1
    · rw [if_neg q] at hf' ⊢
      exact (h9 j hj hf').eq (e _ (by omega) (by omega))
theorem CS.sTakeA {μ : Mem} {σ : AS} {i : Nat} (h : CS μ 1 σ) : CS (wr μ (1 + 8) i (nI 0)) 1 (sTake i σ) := by
  obtain ⟨h1, h2, h3, h4, h5, h6, h7, h8, h9, h10⟩ := h
  have e : ∀ o, o ≠ 9 → wr μ (1 + 8) i (nI 0) o = μ o := fun o ho => wr_o ho
  refine ⟨h1.eq (e _ (by omega)), h2.eq (e _ (by omega)), h3.eq (e _ (by omega)), ?_, fun k hk => ?_, ?_, ?_, fun j hj => ?_, fun j hj hf => ?_, h10.sTake⟩
  · rw [e _ (by omega)]; exact h4
  · rw [e _ (by omega)]; exact h5 k hk
  · rw [e _ (by omega)]; exact h6
  · rw [e _ (by omega)]; exact h7
  · show wr μ (1 + 8) i (nI 0) (1 + 8) j = if (if j = i then false else aFl σ j) = true then nI 1 else nI 0
    by_cases q : j = i
    · rw [q, wr_s, if_pos rfl, if_neg (by decide)]
    · rw [if_neg q, wr_n (Or.inr q)]; exact h8 j hj
  · have hf' : (if j = i then false else aFl σ j) = true := hf
    by_cases q : j = i
    · rw [if_pos q] at hf'; cases hf'
    · rw [if_neg q] at hf'
      exact (h9 j hj hf').eq (e _ (by omega))
/-! ===== the class's whole state: the barrel's, the past, the snapshot, the input, the line, the error's place, the refusal ===== -/
abbrev A7 : Type := AS × (Nat × (Nat → AS)) × (Bool × AS) × TX × TX × Option Nat × Option (Nat × Nat)
abbrev qS (α : A7) : AS := α.1
abbrev qN (α : A7) : Nat := α.2.1.1
abbrev qP (α : A7) : Nat → AS := α.2.1.2
abbrev qB (α : A7) : Bool := α.2.2.1.1
abbrev qZ (α : A7) : AS := α.2.2.1.2
abbrev qI (α : A7) : TX := α.2.2.2.1
abbrev qL (α : A7) : TX := α.2.2.2.2.1
abbrev qE (α : A7) : Option Nat := α.2.2.2.2.2.1
abbrev qR (α : A7) : Option (Nat × Nat) := α.2.2.2.2.2.2
def ER (μ : Mem) (o k : Nat) (e : Option Nat) : Prop := match e with
  | none => μ o k = -1
  | some p => μ o k = nI p ∧ p < 2147483648
def RR (μ : Mem) (r : Option (Nat × Nat)) : Prop := match r with
  | none => μ 0 9 = -1
  | some (a, d) => μ 0 9 = nI a ∧ μ 0 10 = nI d ∧ a < 2147483648
theorem ER.eq {μ' μ : Mem} {o k : Nat} {e : Option Nat} (h : ER μ o k e) (q : μ' o k = μ o k) : ER μ' o k e := by
  cases e with
  | none => exact q.trans h
  | some p => exact ⟨q.trans h.1, h.2⟩
theorem RR.eq {μ' μ : Mem} {r : Option (Nat × Nat)} (h : RR μ r) (q1 : μ' 0 9 = μ 0 9) (q2 : μ' 0 10 = μ 0 10) : RR μ' r := by
  match r, h with
  | none, h => exact q1.trans h
  | some (a, d), h => exact ⟨q1.trans h.1, q2.trans h.2.1, h.2.2⟩
def CR (μ : Mem) (α : A7) : Prop := CS μ 1 (qS α) ∧ PR μ (qN α) (qP α) ∧ μ 0 3 = (if qB α = true then nI 1 else nI 0) ∧ (qB α = true → CS μ 174 (qZ α)) ∧ TxR μ 194 (qI α) ∧ (qI α).1 ≤ 60 ∧ TxR μ 231 (qL α) ∧ (qL α).1 ≤ 120 ∧ ER μ 0 8 (qE α) ∧ RR μ (qR α)
/-- the cells of the model and of the law stay -/
def FrC (μ' μ : Mem) : Prop := ∀ o, 237 ≤ o → μ' o = μ o
theorem FrC.rf {μ : Mem} : FrC μ μ := fun _ _ => rfl
theorem CR.chg {μ' μ : Mem} {α : A7} {σ' : AS} {n' : Nat} {past' : Nat → AS} (h : CR μ α) (hS : CS μ' 1 σ') (hP : PR μ' n' past') (hO : ∀ o, (o = 0 ∨ (174 ≤ o ∧ o < 193) ∨ o = 194 ∨ o = 195 ∨ o = 231 ∨ o = 232) → μ' o = μ o) : CR μ' (σ', (n', past'), α.2.2) := by
  obtain ⟨h1, h2, h3, h4, h5, h6, h7, h8, h9, h10⟩ := h
  have e0 := hO 0 (by omega)
  exact ⟨hS, hP, by rw [e0]; exact h3, fun hb => (h4 hb).off (fun o q1 q2 => hO o (by omega)), h5.eq (hO _ (by omega)) (hO _ (by omega)), h6, h7.eq (hO _ (by omega)) (hO _ (by omega)), h8, h9.eq (by rw [e0]), h10.eq (by rw [e0]) (by rw [e0])⟩
/-- the scratch cells may change -/
theorem CR.off {μ' μ : Mem} {α : A7} (h : CR μ α) (hO : ∀ o, (o < 193 ∨ o = 194 ∨ o = 195 ∨ o = 231 ∨ o = 232) → μ' o = μ o) : CR μ' α := by
  obtain ⟨σ, ⟨n, past⟩, rest⟩ := α
  exact h.chg (h.1.off (fun o q1 q2 => hO o (by omega))) (h.2.1.off (fun o q1 q2 => hO o (by omega))) (fun o ho => hO o (by omega))
theorem CR.ref {μ : Mem} {α : A7} {a d : Nat} (h : CR μ α) (ha : a < 2147483648) : CR (wr (wr μ 0 9 (nI a)) 0 10 (nI d)) (α.1, α.2.1, α.2.2.1, α.2.2.2.1, α.2.2.2.2.1, α.2.2.2.2.2.1, some (a, d)) := by
  obtain ⟨h1, h2, h3, h4, h5, h6, h7, h8, h9, h10⟩ := h
  have e : ∀ o, o ≠ 0 → wr (wr μ 0 9 (nI a)) 0 10 (nI d) o = μ o := fun o ho => by rw [wr_o ho, wr_o ho]
  exact ⟨h1.off (fun o q1 q2 => e o (by omega)), h2.off (fun o q1 q2 => e o (by omega)), by rw [wr_n (Or.inr (by decide)), wr_n (Or.inr (by decide))]; exact h3, fun hb => (h4 hb).off (fun o q1 q2 => e o (by omega)), h5.eq (e _ (by omega)) (e _ (by omega)), h6, h7.eq (e _ (by omega)) (e _ (by omega)), h8, h9.eq (by rw [wr_n (Or.inr (by decide)), wr_n (Or.inr (by decide))]), ⟨by rw [wr_n (Or.inr (by decide)), wr_s], wr_s, ha⟩⟩
def mvS (a w b : Nat) (σ : AS) : AS := sLog a w b (sMv (sDo (moveF a w b) σ))
def aPush (σ' : AS) (α : A7) : A7 := (σ', (pushN (qN α), pushF (qN α) (qP α) (qS α)), α.2.2)
def aRef (a d : Nat) (α : A7) : A7 := (α.1, α.2.1, α.2.2.1, α.2.2.2.1, α.2.2.2.2.1, α.2.2.2.2.2.1, some (a, d))
def aErr (e : Nat) (α : A7) : A7 := (α.1, α.2.1, α.2.2.1, α.2.2.2.1, α.2.2.2.2.1, some e, α.2.2.2.2.2.2)
def aInp (T : TX) (α : A7) : A7 := (α.1, α.2.1, α.2.2.1, T, α.2.2.2.2)
def aLin (T : TX) (α : A7) : A7 := (α.1, α.2.1, α.2.2.1, α.2.2.2.1, T, α.2.2.2.2.2)
def aNoI (α : A7) : A7 := aInp (0, (qI α).2) α
def aUndo (α : A7) : A7 := (qP α (qN α - 1), (qN α - 1, qP α), α.2.2)
def aSave (α : A7) : A7 := (α.1, α.2.1, (true, qS α), α.2.2.2)
def aRest (α : A7) : A7 := (qZ α, (0, qP α), α.2.2)
theorem mv_lt {a w b : Nat} (h : mvOK a w b) : w < if a = 0 then 4 else 8 := by
  rcases h with ⟨rfl, h, _⟩ | ⟨rfl, h, _⟩
  · rw [if_pos rfl]; exact h
  · rw [if_neg (by decide)]; exact h
theorem mv_wk {a w b : Nat} (h : mvOK a w b) : (a = 0 ∧ w < 4 ∧ b < 8) ∨ (a = 1 ∧ w < 8 ∧ b < 4) := by
  rcases h with ⟨a1, a2, a3, a4⟩ | ⟨a1, a2, a3, a4⟩
  · exact Or.inl ⟨a1, a2, a4⟩
  · exact Or.inr ⟨a1, a2, a4⟩
theorem mv_inv {a w b : Nat} (h : mvOK a w b) : (a = 0 ∧ mvOK 0 w (8 - b)) ∨ (a = 1 ∧ mvOK 1 w (4 - b)) := by
  rcases h with ⟨a1, a2, a3, a4⟩ | ⟨a1, a2, a3, a4⟩
  · exact Or.inl ⟨a1, Or.inl ⟨rfl, a2, by omega, by omega⟩⟩
  · exact Or.inr ⟨a1, Or.inr ⟨rfl, a2, by omega, by omega⟩⟩
/-- an int in a range is a number -/
theorem i_num {x : Int32} {n : Nat} (hn : n < 2147483648) (h : 0 ≤ x ∧ x < nI n) : ∃ i, x = nI i ∧ i < n := by
  refine ⟨x.toInt.toNat, ?_, ?_⟩
  · have h0 : (0 : Int) ≤ x.toInt := by have := Int32.le_iff_toInt_le.mp h.1; simpa using this
    apply Int32.toInt_inj.mp
    rw [nI_toInt (by have := Int32.toInt_lt x; omega)]
    omega
  · have h0 : (0 : Int) ≤ x.toInt := by have := Int32.le_iff_toInt_le.mp h.1; simpa using this
    have h1 := Int32.lt_iff_toInt_lt.mp h.2
    rw [nI_toInt hn] at h1
    omega
theorem i_rng {x : Int32} {a b : Nat} (ha : a < 2147483648) (hb : b < 2147483648) (h : ¬ (x < nI a ∨ nI b < x)) : ∃ i, x = nI i ∧ a ≤ i ∧ i ≤ b := by
  have h1 : ¬ x < nI a := fun q => h (Or.inl q)
  have h2 : ¬ nI b < x := fun q => h (Or.inr q)
  rw [Int32.lt_iff_toInt_lt, nI_toInt ha] at h1
  rw [Int32.lt_iff_toInt_lt, nI_toInt hb] at h2
  refine ⟨x.toInt.toNat, ?_, by omega, by omega⟩
  apply Int32.toInt_inj.mp
  rw [nI_toInt (by omega)]
  omega
theorem CR.push {μ' μ1 μ : Mem} {α : A7} {σ' : AS} (h : CR μ α) (hP : PR μ1 (pushN (qN α)) (pushF (qN α) (qP α) (qS α))) (hO1 : ∀ o, (o < 20 ∨ 174 ≤ o) → μ1 o = μ o) (hS : CS μ' 1 σ') (hO : ∀ o, (o = 0 ∨ (20 ≤ o ∧ o < 193) ∨ o = 194 ∨ o = 195 ∨ o = 231 ∨ o = 232) → μ' o = μ1 o) : CR μ' (aPush σ' α) :=
  h.chg hS (hP.off (fun o q1 q2 => hO o (by omega))) (fun o ho => by rw [hO o (by omega), hO1 o (by omega)])
theorem CR.inp {μ' μ : Mem} {α : A7} {T : TX} (h : CR μ α) (hT : TxR μ' 194 T) (hl : T.1 ≤ 60) (hO : ∀ o, (o < 193 ∨ o = 231 ∨ o = 232) → μ' o = μ o) : CR μ' (aInp T α) := by
  obtain ⟨h1, h2, h3, h4, h5, h6, h7, h8, h9, h10⟩ := h
  have e0 := hO 0 (by omega)
  exact ⟨h1.off (fun o q1 q2 => hO o (by omega)), h2.off (fun o q1 q2 => hO o (by omega)), by rw [e0]; exact h3, fun hb => (h4 hb).off (fun o q1 q2 => hO o (by omega)), hT, hl, h7.eq (hO _ (by omega)) (hO _ (by omega)), h8, h9.eq (by rw [e0]), h10.eq (by rw [e0]) (by rw [e0])⟩
theorem CR.lin {μ' μ : Mem} {α : A7} {T : TX} (h : CR μ α) (hT : TxR μ' 231 T) (hl : T.1 ≤ 120) (hO : ∀ o, (o < 193 ∨ o = 194 ∨ o = 195) → μ' o = μ o) : CR μ' (aLin T α) := by
  obtain ⟨h1, h2, h3, h4, h5, h6, h7, h8, h9, h10⟩ := h
  have e0 := hO 0 (by omega)
  exact ⟨h1.off (fun o q1 q2 => hO o (by omega)), h2.off (fun o q1 q2 => hO o (by omega)), by rw [e0]; exact h3, fun hb => (h4 hb).off (fun o q1 q2 => hO o (by omega)), h5.eq (hO _ (by omega)) (hO _ (by omega)), h6, hT, hl, h9.eq (by rw [e0]), h10.eq (by rw [e0]) (by rw [e0])⟩
theorem CR.err {μ : Mem} {α : A7} {e : Nat} (h : CR μ α) (he : e < 2147483648) : CR (wr μ 0 8 (nI e)) (aErr e α) := by
  obtain ⟨h1, h2, h3, h4, h5, h6, h7, h8, h9, h10⟩ := h
  have f : ∀ o, o ≠ 0 → wr μ 0 8 (nI e) o = μ o := fun o ho => wr_o ho
  exact ⟨h1.off (fun o q1 q2 => f o (by omega)), h2.off (fun o q1 q2 => f o (by omega)), by rw [wr_n (Or.inr (by decide))]; exact h3, fun hb => (h4 hb).off (fun o q1 q2 => f o (by omega)), h5.eq (f _ (by omega)) (f _ (by omega)), h6, h7.eq (f _ (by omega)) (f _ (by omega)), h8, ⟨wr_s, he⟩, h10.eq (wr_n (Or.inr (by decide))) (wr_n (Or.inr (by decide)))⟩
theorem CR.clr {μ : Mem} {α : A7} (h : CR μ α) : CR (wr μ 194 1 (nI 0)) (aNoI α) :=
  h.inp ⟨wr_s, fun k hk => absurd hk (Nat.not_lt_zero k)⟩ (Nat.zero_le _) (fun o ho => wr_o (by omega))
/-- a row of the snapshot, and back -/
theorem CR.save {μ' μ : Mem} {α : A7} (h : CR μ α) (hE : SEq μ' 174 μ 1) (hO : ∀ o, (o < 174 ∨ 174 + 19 ≤ o) → μ' o = μ o) : CR (wr μ' 0 3 (nI 1)) (aSave α) := by
  obtain ⟨h1, h2, h3, h4, h5, h6, h7, h8, h9, h10⟩ := h
  have f : ∀ o, o ≠ 0 → wr μ' 0 3 (nI 1) o = μ' o := fun o ho => wr_o ho
  have f2 : ∀ o, o ≠ 0 → (o < 174 ∨ 174 + 19 ≤ o) → wr μ' 0 3 (nI 1) o = μ o := fun o ho q => (f o ho).trans (hO o q)
  exact ⟨h1.off (fun o q1 q2 => f2 o (by omega) (by omega)), h2.off (fun o q1 q2 => f2 o (by omega) (by omega)), wr_s.trans (if_pos rfl).symm, fun _ => (h1.eq hE).off (fun o q1 q2 => f o (by omega)), h5.eq (f2 _ (by omega) (by omega)) (f2 _ (by omega) (by omega)), h6, h7.eq (f2 _ (by omega) (by omega)) (f2 _ (by omega) (by omega)), h8, h9.eq (by rw [wr_n (Or.inr (by decide)), hO 0 (by omega)]), h10.eq (by rw [wr_n (Or.inr (by decide)), hO 0 (by omega)]) (by rw [wr_n (Or.inr (by decide)), hO 0 (by omega)])⟩
theorem PR.none {μ' μ : Mem} {n : Nat} {past : Nat → AS} (h : PR μ n past) (e0 : μ' 20 1 = nI 0) (e : ∀ o, 21 ≤ o → o < 174 → μ' o = μ o) : PR μ' 0 past := by
  obtain ⟨h1, h2, r, h3, h4, h5⟩ := h
  exact ⟨e0, Nat.zero_le _, r, fun j hj => by rw [e 21 (by omega) (by omega)]; exact h3 j hj, h4, fun j hj => absurd hj (Nat.not_lt_zero j)⟩
theorem CR.rest {μ2 μ1 μ : Mem} {α : A7} (h : CR μ α) (hb : qB α = true) (hE : SEq μ1 1 μ 174) (hO : ∀ o, (o < 1 ∨ 1 + 19 ≤ o) → μ1 o = μ o) (e : μ2 = wr μ1 20 1 (nI 0)) : CR μ2 (aRest α) := by
  subst e
  have f : ∀ o, o ≠ 20 → wr μ1 20 1 (nI 0) o = μ1 o := fun o ho => wr_o ho
  exact h.chg (((h.2.2.2.1 hb).eq hE).off (fun o q1 q2 => f o (by omega))) (h.2.1.none wr_s (fun o q1 q2 => (f o (by omega)).trans (hO o (by omega)))) (fun o ho => (f o (by omega)).trans (hO o (by omega)))
theorem fl_B {μ : Mem} {t : Nat} {σ : AS} {i : Nat} (h : CS μ t σ) (hi : i < 5) (hf : aFl σ i = true) : Bij (aSh σ i) ∧ PermR μ (t + 10 + 2 * i) (aSh σ i) := ⟨h.vs.2.2.2.2 i hi hf, h.2.2.2.2.2.2.2.2.1 i hi hf⟩
theorem fl_P {μ : Mem} {σ : AS} {i : Nat} (h : CS μ 1 σ) (hi : i < 5) (hf : aFl σ i = true) : PermR μ (1 + 9 + 2 * i + 1) (aSh σ i) := by
  have := (fl_B h hi hf).2
  rw [show 1 + 10 + 2 * i = 1 + 9 + 2 * i + 1 by omega] at this
  exact this
