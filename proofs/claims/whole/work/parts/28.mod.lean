/-! ===== the model's state: the row o from b on holds σ ===== -/
def MS (μ : Mem) (o b : Nat) (σ : AS) : Prop := μ o b = nI (aLn σ) ∧ μ o (b + 1) = nI (aMv σ) ∧ μ o (b + 2) = nI (aRd σ) ∧ (∀ i, i < 5 → μ o (b + 3 + i) = nI (if aFl σ i = true then 1 else 0)) ∧ (∀ k, k < 32 → μ o (b + 8 + k) = nI (aAt σ k)) ∧ (∀ k, k < 32 → μ o (b + 40 + k) = nI (aCol σ k)) ∧
  (∀ k, k < 3 * aLn σ → μ o (b + 72 + k) = nI (aLg σ k)) ∧ (∀ i, i < 5 → aFl σ i = true → ∀ k, k < 32 → μ o (b + 192 + 32 * i + k) = nI (aSh σ i k)) ∧ VS σ
theorem MS.eq {μ' μ : Mem} {o' b' o b : Nat} {σ : AS} (h : MS μ o b σ) (e : ∀ k, k < 352 → μ' o' (b' + k) = μ o (b + k)) : MS μ' o' b' σ := by
  obtain ⟨h1, h2, h3, h4, h5, h6, h7, h8, h9⟩ := h
  have hl := h9.2.2.1
  refine ⟨(e 0 (by omega)).trans h1, (e 1 (by omega)).trans h2, (e 2 (by omega)).trans h3, fun i hi => ?_, fun k hk => ?_, fun k hk => ?_, fun k hk => ?_, fun i hi hf k hk => ?_, h9⟩
  · rw [Nat.add_assoc, e _ (by omega), ← Nat.add_assoc]; exact h4 i hi
  · rw [Nat.add_assoc, e _ (by omega), ← Nat.add_assoc]; exact h5 k hk
  · rw [Nat.add_assoc, e _ (by omega), ← Nat.add_assoc]; exact h6 k hk
  · rw [Nat.add_assoc, e _ (by omega), ← Nat.add_assoc]; exact h7 k hk
  · rw [Nat.add_assoc, Nat.add_assoc, e _ (by omega), ← Nat.add_assoc, ← Nat.add_assoc]; exact h8 i hi hf k hk
theorem MS.off {μ' μ : Mem} {o b : Nat} {σ : AS} (h : MS μ o b σ) (e : μ' o = μ o) : MS μ' o b σ := h.eq (fun k _ => by rw [e])
section MSR
variable {μ : Mem} {σ : AS} (h : MS μ 238 0 σ)
theorem MS.vs {o b : Nat} (h : MS μ o b σ) : VS σ := h.2.2.2.2.2.2.2.2
theorem MS.ln {o b : Nat} (h : MS μ o b σ) : aLn σ ≤ 40 := h.vs.2.2.1
theorem MS.rLn (h : MS μ 238 0 σ) : μ 238 0 = nI (aLn σ) := h.1
theorem MS.rMv (h : MS μ 238 0 σ) : μ 238 1 = nI (aMv σ) := h.2.1
theorem MS.rRd (h : MS μ 238 0 σ) : μ 238 2 = nI (aRd σ) := h.2.2.1
theorem MS.rFl (h : MS μ 238 0 σ) {i : Nat} (hi : i < 5) : μ 238 (3 + i) = nI (if aFl σ i = true then 1 else 0) := h.2.2.2.1 i hi
theorem MS.rAt (h : MS μ 238 0 σ) {k : Nat} (hk : k < 32) : μ 238 (8 + k) = nI (aAt σ k) := h.2.2.2.2.1 k hk
theorem MS.rCol (h : MS μ 238 0 σ) {k : Nat} (hk : k < 32) : μ 238 (40 + k) = nI (aCol σ k) := h.2.2.2.2.2.1 k hk
theorem MS.rLg (h : MS μ 238 0 σ) {k : Nat} (hk : k < 3 * aLn σ) : μ 238 (72 + k) = nI (aLg σ k) := h.2.2.2.2.2.2.1 k hk
theorem MS.rSh (h : MS μ 238 0 σ) {i : Nat} (hi : i < 5) (hf : aFl σ i = true) {k : Nat} (hk : k < 32) : μ 238 (192 + 32 * i + k) = nI (aSh σ i k) := h.2.2.2.2.2.2.2.1 i hi hf k hk
end MSR
/-! changes of the model's row -/
section MSC
variable {μ' μ : Mem} {σ : AS}
theorem MS.mk0 (a1 : μ 238 0 = nI (aLn σ)) (a2 : μ 238 1 = nI (aMv σ)) (a3 : μ 238 2 = nI (aRd σ)) (a4 : ∀ i, i < 5 → μ 238 (3 + i) = nI (if aFl σ i = true then 1 else 0)) (a5 : ∀ k, k < 32 → μ 238 (8 + k) = nI (aAt σ k)) (a6 : ∀ k, k < 32 → μ 238 (40 + k) = nI (aCol σ k)) (a7 : ∀ k, k < 3 * aLn σ → μ 238 (72 + k) = nI (aLg σ k)) (a8 : ∀ i, i < 5 → aFl σ i = true → ∀ k, k < 32 → μ 238 (192 + 32 * i + k) = nI (aSh σ i k)) (a9 : VS σ) : MS μ 238 0 σ := ⟨a1, a2, a3, a4, a5, a6, a7, a8, a9⟩
theorem MS.sDo {F : Nat → Nat} (h : MS μ 238 0 σ) (hF : Bij F) (e : ∀ k, k < 32 → μ' 238 (8 + k) = nI (aAt σ (pinv F k))) (hO : ∀ k, (k < 8 ∨ 40 ≤ k) → μ' 238 k = μ 238 k) : MS μ' 238 0 (sDo F σ) :=
  MS.mk0 ((hO 0 (by omega)).trans h.rLn) ((hO 1 (by omega)).trans h.rMv) ((hO 2 (by omega)).trans h.rRd) (fun i hi => (hO _ (by omega)).trans (h.rFl hi)) e (fun k hk => (hO _ (by omega)).trans (h.rCol hk)) (fun k hk => (hO _ (by omega)).trans (h.rLg hk)) (fun i hi hf k hk => (hO _ (by omega)).trans (h.rSh hi hf hk)) (h.vs.sDo hF)
theorem MS.sMv (h : MS μ 238 0 σ) (e : μ' 238 1 = nI (aMv σ + 1)) (hO : ∀ k, k ≠ 1 → μ' 238 k = μ 238 k) : MS μ' 238 0 (sMv σ) :=
  MS.mk0 ((hO 0 (by omega)).trans h.rLn) e ((hO 2 (by omega)).trans h.rRd) (fun i hi => (hO _ (by omega)).trans (h.rFl hi)) (fun k hk => (hO _ (by omega)).trans (h.rAt hk)) (fun k hk => (hO _ (by omega)).trans (h.rCol hk)) (fun k hk => (hO _ (by omega)).trans (h.rLg hk)) (fun i hi hf k hk => (hO _ (by omega)).trans (h.rSh hi hf hk)) h.vs
theorem MS.sRd (h : MS μ 238 0 σ) (e : μ' 238 2 = nI (aRd σ + 1)) (hO : ∀ k, k ≠ 2 → μ' 238 k = μ 238 k) : MS μ' 238 0 (sRd σ) :=
  MS.mk0 ((hO 0 (by omega)).trans h.rLn) ((hO 1 (by omega)).trans h.rMv) e (fun i hi => (hO _ (by omega)).trans (h.rFl hi)) (fun k hk => (hO _ (by omega)).trans (h.rAt hk)) (fun k hk => (hO _ (by omega)).trans (h.rCol hk)) (fun k hk => (hO _ (by omega)).trans (h.rLg hk)) (fun i hi hf k hk => (hO _ (by omega)).trans (h.rSh hi hf hk)) h.vs
theorem MS.sLen {x : Nat} (h : MS μ 238 0 σ) (hx : x ≤ aLn σ) (e : μ' 238 0 = nI x) (hO : ∀ k, k ≠ 0 → μ' 238 k = μ 238 k) : MS μ' 238 0 (sLen x σ) :=
  MS.mk0 e ((hO 1 (by omega)).trans h.rMv) ((hO 2 (by omega)).trans h.rRd) (fun i hi => (hO _ (by omega)).trans (h.rFl hi)) (fun k hk => (hO _ (by omega)).trans (h.rAt hk)) (fun k hk => (hO _ (by omega)).trans (h.rCol hk)) (fun k hk => (hO _ (by omega)).trans (h.rLg (by have : k < 3 * x := hk; omega))) (fun i hi hf k hk => (hO _ (by omega)).trans (h.rSh hi hf hk)) (h.vs.sLen hx)
theorem MS.sLog {a w b : Nat} (h : MS μ 238 0 σ) (hm : mvOK a w b) (e : μ' 238 0 = nI (logN (aLn σ))) (e2 : ∀ k, k < 3 * logN (aLn σ) → μ' 238 (72 + k) = nI (logF (aLn σ) (aLg σ) a w b k)) (hO : ∀ k, k ≠ 0 → (k < 72 ∨ 192 ≤ k) → μ' 238 k = μ 238 k) : MS μ' 238 0 (sLog a w b σ) :=
  MS.mk0 e ((hO 1 (by omega) (by omega)).trans h.rMv) ((hO 2 (by omega) (by omega)).trans h.rRd) (fun i hi => (hO _ (by omega) (by omega)).trans (h.rFl hi)) (fun k hk => (hO _ (by omega) (by omega)).trans (h.rAt hk)) (fun k hk => (hO _ (by omega) (by omega)).trans (h.rCol hk)) e2 (fun i hi hf k hk => (hO _ (by omega) (by omega)).trans (h.rSh hi hf hk)) (h.vs.sLog hm)
theorem MS.sCol {i c : Nat} (h : MS μ 238 0 σ) (hi : i < 32) (hc : c < 6) (e : μ' 238 (40 + i) = nI c) (hO : ∀ k, k ≠ 40 + i → μ' 238 k = μ 238 k) : MS μ' 238 0 (sCol i c σ) := by
  refine MS.mk0 ((hO 0 (by omega)).trans h.rLn) ((hO 1 (by omega)).trans h.rMv) ((hO 2 (by omega)).trans h.rRd) (fun i hi => (hO _ (by omega)).trans (h.rFl hi)) (fun k hk => (hO _ (by omega)).trans (h.rAt hk)) (fun k hk => ?_) (fun k hk => (hO _ (by omega)).trans (h.rLg hk)) (fun j hj hf k hk => (hO _ (by omega)).trans (h.rSh hj hf hk)) (h.vs.sCol hc)
  show μ' 238 (40 + k) = nI (if k = i then c else aCol σ k)
  by_cases q : k = i
  · rw [if_pos q, q]; exact e
  · rw [if_neg q, hO _ (by omega)]; exact h.rCol hk
theorem MS.sPut {i : Nat} {F : Nat → Nat} (h : MS μ 238 0 σ) (hi5 : i < 5) (hF : Bij F) (e : μ' 238 (3 + i) = nI 1) (e2 : ∀ k, k < 32 → μ' 238 (192 + 32 * i + k) = nI (F k)) (hO : ∀ k, k ≠ 3 + i → (k < 192 + 32 * i ∨ 192 + 32 * i + 32 ≤ k) → μ' 238 k = μ 238 k) : MS μ' 238 0 (sPut i F σ) := by
  have hl := h.ln
  refine MS.mk0 ((hO 0 (by omega) (by omega)).trans h.rLn) ((hO 1 (by omega) (by omega)).trans h.rMv) ((hO 2 (by omega) (by omega)).trans h.rRd) (fun j hj => ?_) (fun k hk => (hO _ (by omega) (by omega)).trans (h.rAt hk)) (fun k hk => (hO _ (by omega) (by omega)).trans (h.rCol hk)) (fun k hk => (hO _ (by omega) (by have : k < 3 * aLn σ := hk; omega)).trans (h.rLg hk)) (fun j hj hf k hk => ?_) (h.vs.sPut hF)
  · show μ' 238 (3 + j) = nI (if (if j = i then true else aFl σ j) = true then 1 else 0)
    by_cases q : j = i
    · rw [q, if_pos rfl, if_pos rfl]; exact e
    · rw [if_neg q, hO _ (by omega) (by omega)]; exact h.rFl hj
  · have hf' : (if j = i then true else aFl σ j) = true := hf
    show μ' 238 (192 + 32 * j + k) = nI ((if j = i then F else aSh σ j) k)
    by_cases q : j = i
    · rw [if_pos q, q]; exact e2 k hk
    · rw [if_neg q] at hf' ⊢
      rw [hO _ (by omega) (by omega)]; exact h.rSh hj hf' hk
theorem MS.sTake {i : Nat} (h : MS μ 238 0 σ) (hi5 : i < 5) (e : μ' 238 (3 + i) = nI 0) (hO : ∀ k, k ≠ 3 + i → μ' 238 k = μ 238 k) : MS μ' 238 0 (sTake i σ) := by
  refine MS.mk0 ((hO 0 (by omega)).trans h.rLn) ((hO 1 (by omega)).trans h.rMv) ((hO 2 (by omega)).trans h.rRd) (fun j hj => ?_) (fun k hk => (hO _ (by omega)).trans (h.rAt hk)) (fun k hk => (hO _ (by omega)).trans (h.rCol hk)) (fun k hk => (hO _ (by omega)).trans (h.rLg hk)) (fun j hj hf k hk => ?_) h.vs.sTake
  · show μ' 238 (3 + j) = nI (if (if j = i then false else aFl σ j) = true then 1 else 0)
    by_cases q : j = i
    · rw [q, if_pos rfl, if_neg (by decide)]; exact e
    · rw [if_neg q, hO _ (by omega)]; exact h.rFl hj
  · have hf' : (if j = i then false else aFl σ j) = true := hf
    by_cases q : j = i
    · rw [if_pos q] at hf'; cases hf'
    · rw [if_neg q] at hf'
      rw [hO _ (by omega)]; exact h.rSh hj hf' hk
end MSC
/-! the model's whole state -/
def TxM (μ : Mem) (q k : Nat) (T : TX) : Prop := μ 237 k = nI T.1 ∧ ∀ i, i < T.1 → μ q i = nI (T.2 i) ∧ T.2 i < 65536
def RM9 (μ : Mem) (r : Option (Nat × Nat)) : Prop := match r with
  | none => μ 237 7 = nI 0
  | some (a, d) => μ 237 7 = nI a ∧ μ 237 8 = nI d ∧ 1 ≤ a ∧ a < 2147483648
def PM9 (μ : Mem) (n : Nat) (past : Nat → AS) : Prop := μ 237 5 = nI n ∧ n ≤ 8 ∧ ∀ j, j < n → MS μ 241 (352 * j) (past j)
def MR (μ : Mem) (α : A7) : Prop := MS μ 238 0 (qS α) ∧ PM9 μ (qN α) (qP α) ∧ μ 237 3 = (if qB α = true then nI 1 else nI 0) ∧ (qB α = true → MS μ 240 0 (qZ α)) ∧ TxM μ 245 14 (qI α) ∧ (qI α).1 ≤ 60 ∧ TxM μ 246 19 (qL α) ∧ (qL α).1 ≤ 120 ∧ ER μ 237 17 (qE α) ∧ RM9 μ (qR α)
/-- the class's cells and the law's stay -/
def FrM (μ' μ : Mem) : Prop := ∀ o, (o < 237 ∨ o = 247) → μ' o = μ o
theorem FrM.rf {μ : Mem} : FrM μ μ := fun _ _ => rfl
theorem FrM.trans {μ2 μ1 μ : Mem} (h2 : FrM μ2 μ1) (h1 : FrM μ1 μ) : FrM μ2 μ := fun o ho => (h2 o ho).trans (h1 o ho)
theorem FrM.wrx {μ1 μ : Mem} {o k : Nat} {v : Int32} (h : FrM μ1 μ) (ho : 237 ≤ o ∧ o ≠ 247) : FrM (wr μ1 o k v) μ := fun q hq => (wr_o (by omega)).trans (h q hq)
theorem RM9.eq {μ' μ : Mem} {r : Option (Nat × Nat)} (h : RM9 μ r) (q1 : μ' 237 7 = μ 237 7) (q2 : μ' 237 8 = μ 237 8) : RM9 μ' r := by
  match r, h with
  | none, h => exact q1.trans h
  | some (a, d), h => exact ⟨q1.trans h.1, q2.trans h.2.1, h.2.2⟩
theorem TxM.eq {μ' μ : Mem} {q k : Nat} {T : TX} (h : TxM μ q k T) (e1 : μ' 237 k = μ 237 k) (e2 : μ' q = μ q) : TxM μ' q k T := ⟨e1.trans h.1, fun i hi => by rw [e2]; exact h.2 i hi⟩
theorem PM9.eq {μ' μ : Mem} {n : Nat} {past : Nat → AS} (h : PM9 μ n past) (e1 : μ' 237 5 = μ 237 5) (e2 : μ' 241 = μ 241) : PM9 μ' n past := ⟨e1.trans h.1, h.2.1, fun j hj => (h.2.2 j hj).off e2⟩
/-- the rows that the state doesn't know may change -/
def MRo (μ' μ : Mem) : Prop := ∀ o k, o ≠ 239 → o ≠ 242 → o ≠ 243 → o ≠ 244 → (o ≠ 237 ∨ (k ≠ 6 ∧ k ≠ 11 ∧ k ≠ 15 ∧ k ≠ 16)) → μ' o k = μ o k
theorem MRo.rf {μ : Mem} : MRo μ μ := fun _ _ _ _ _ _ _ => rfl
theorem MRo.trans {μ2 μ1 μ : Mem} (h2 : MRo μ2 μ1) (h1 : MRo μ1 μ) : MRo μ2 μ := fun o k a b c d e => (h2 o k a b c d e).trans (h1 o k a b c d e)
theorem MRo.row {μ' μ : Mem} (h : MRo μ' μ) {o : Nat} (ho : o ≠ 237 ∧ o ≠ 239 ∧ o ≠ 242 ∧ o ≠ 243 ∧ o ≠ 244) : μ' o = μ o := funext fun k => h o k ho.2.1 ho.2.2.1 ho.2.2.2.1 ho.2.2.2.2 (Or.inl ho.1)
theorem MRo.fr {μ' μ : Mem} (h : MRo μ' μ) : FrM μ' μ := fun _ ho => h.row (by omega)
theorem MR.off {μ' μ : Mem} {α : A7} (h : MR μ α) (f : MRo μ' μ) : MR μ' α := by
  obtain ⟨h1, h2, h3, h4, h5, h6, h7, h8, h9, h10⟩ := h
  have e : ∀ k, k ≠ 6 → k ≠ 11 → k ≠ 15 → k ≠ 16 → μ' 237 k = μ 237 k := fun k a b c d => f 237 k (by omega) (by omega) (by omega) (by omega) (Or.inr ⟨a, b, c, d⟩)
  exact ⟨h1.off (f.row (by omega)), h2.eq (e 5 (by omega) (by omega) (by omega) (by omega)) (f.row (by omega)), (e 3 (by omega) (by omega) (by omega) (by omega)).trans h3, fun hb => (h4 hb).off (f.row (by omega)), h5.eq (e 14 (by omega) (by omega) (by omega) (by omega)) (f.row (by omega)), h6, h7.eq (e 19 (by omega) (by omega) (by omega) (by omega)) (f.row (by omega)), h8, h9.eq (e 17 (by omega) (by omega) (by omega) (by omega)), h10.eq (e 7 (by omega) (by omega) (by omega) (by omega)) (e 8 (by omega) (by omega) (by omega) (by omega))⟩
theorem MRo.thr {μ : Mem} {v : Int32} : MRo (wr μ 237 6 v) μ := fun o k a b c d e => wr_n (by omega)
theorem MR.thr {μ : Mem} {α : A7} {v : Int32} (h : MR μ α) : MR (wr μ 237 6 v) α := h.off MRo.thr
theorem FrM.thr {μ : Mem} {v : Int32} : FrM (wr μ 237 6 v) μ := MRo.thr.fr
/-- within a call: what was kept, and what may have changed since -/
def KP (μ μ0 : Mem) : Prop := (∀ k, k < 352 → μ 239 k = μ0 238 k) ∧ ∀ o k, o ≠ 238 → o ≠ 239 → o ≠ 242 → o ≠ 243 → o ≠ 244 → (o ≠ 237 ∨ (k ≠ 6 ∧ k ≠ 11 ∧ k ≠ 15 ∧ k ≠ 16)) → μ o k = μ0 o k
/-- a step that leaves what was kept -/
def KS (μ' μ : Mem) : Prop := ∀ o k, o ≠ 238 → o ≠ 242 → o ≠ 243 → o ≠ 244 → (o ≠ 237 ∨ (k ≠ 6 ∧ k ≠ 11 ∧ k ≠ 15 ∧ k ≠ 16)) → μ' o k = μ o k
theorem KP.step {μ' μ μ0 : Mem} (h : KP μ μ0) (f : KS μ' μ) : KP μ' μ0 := ⟨fun k hk => (f 239 k (by omega) (by omega) (by omega) (by omega) (by omega)).trans (h.1 k hk), fun o k a b c d e q => (f o k a c d e q).trans (h.2 o k a b c d e q)⟩
theorem KS.rf {μ : Mem} : KS μ μ := fun _ _ _ _ _ _ _ => rfl
theorem KS.trans {μ2 μ1 μ : Mem} (h2 : KS μ2 μ1) (h1 : KS μ1 μ) : KS μ2 μ := fun o k a b c d e => (h2 o k a b c d e).trans (h1 o k a b c d e)
theorem KS.wrx {μ1 μ : Mem} {o k : Nat} {v : Int32} (h : KS μ1 μ) (ho : o = 238 ∨ o = 242 ∨ o = 243 ∨ o = 244 ∨ (o = 237 ∧ (k = 6 ∨ k = 11 ∨ k = 15 ∨ k = 16))) : KS (wr μ1 o k v) μ := fun o' k' a b c d e => (wr_n (by omega)).trans (h o' k' a b c d e)
theorem KP.row {μ μ0 : Mem} (h : KP μ μ0) {o : Nat} (ho : o ≠ 237 ∧ o ≠ 238 ∧ o ≠ 239 ∧ o ≠ 242 ∧ o ≠ 243 ∧ o ≠ 244) : μ o = μ0 o := funext fun k => h.2 o k ho.2.1 ho.2.2.1 ho.2.2.2.1 ho.2.2.2.2.1 ho.2.2.2.2.2 (Or.inl ho.1)
/-- a call that throws puts back what was kept -/
theorem MR.back {μ' μ μ0 : Mem} {α : A7} (h : MR μ0 α) (k : KP μ μ0) (e1 : ∀ k, k < 352 → μ' 238 k = μ 239 k) (e2 : ∀ o, o ≠ 238 → μ' o = μ o) : MR μ' α ∧ FrM μ' μ0 := by
  obtain ⟨h1, h2, h3, h4, h5, h6, h7, h8, h9, h10⟩ := h
  have e : ∀ i, i ≠ 6 → i ≠ 11 → i ≠ 15 → i ≠ 16 → μ' 237 i = μ0 237 i := fun i a b c d => by rw [e2 237 (by omega)]; exact k.2 237 i (by omega) (by omega) (by omega) (by omega) (by omega) (Or.inr ⟨a, b, c, d⟩)
  have r : ∀ o, (o ≠ 237 ∧ o ≠ 238 ∧ o ≠ 239 ∧ o ≠ 242 ∧ o ≠ 243 ∧ o ≠ 244) → μ' o = μ0 o := fun o ho => (e2 o ho.2.1).trans (k.row ho)
  exact ⟨⟨h1.eq (fun i hi => by rw [Nat.zero_add, e1 i hi, k.1 i hi]), h2.eq (e 5 (by omega) (by omega) (by omega) (by omega)) (r 241 (by omega)), (e 3 (by omega) (by omega) (by omega) (by omega)).trans h3, fun hb => (h4 hb).off (r 240 (by omega)), h5.eq (e 14 (by omega) (by omega) (by omega) (by omega)) (r 245 (by omega)), h6, h7.eq (e 19 (by omega) (by omega) (by omega) (by omega)) (r 246 (by omega)), h8, h9.eq (e 17 (by omega) (by omega) (by omega) (by omega)), h10.eq (e 7 (by omega) (by omega) (by omega) (by omega)) (e 8 (by omega) (by omega) (by omega) (by omega))⟩, fun o ho => r o (by omega)⟩
/-- what ends() does with a change -/
def EndP (μ' μ : Mem) (n : Nat) : Prop := μ' 237 5 = nI (pushN n) ∧ (∀ j k, j < pushN n → k < 352 → μ' 241 (352 * j + k) = if n < 8 then (if j = n then μ 239 k else μ 241 (352 * j + k)) else (if j = 7 then μ 239 k else μ 241 (352 * (j + 1) + k))) ∧ ∀ o k, o ≠ 241 → (o ≠ 237 ∨ k ≠ 5) → μ' o k = μ o k
theorem MR.push {μ' μ μ0 : Mem} {α : A7} {σ' : AS} (h : MR μ0 α) (k : KP μ μ0) (hS : MS μ 238 0 σ') (e : EndP μ' μ (qN α)) : MR μ' (aPush σ' α) ∧ FrM μ' μ0 := by
  obtain ⟨h1, h2, h3, h4, h5, h6, h7, h8, h9, h10⟩ := h
  obtain ⟨p1, p2, p3⟩ := h2
  obtain ⟨e1, e2, e3⟩ := e
  have f : ∀ i, i ≠ 5 → i ≠ 6 → i ≠ 11 → i ≠ 15 → i ≠ 16 → μ' 237 i = μ0 237 i := fun i z a b c d => by rw [e3 237 i (by omega) (by omega)]; exact k.2 237 i (by omega) (by omega) (by omega) (by omega) (by omega) (Or.inr ⟨a, b, c, d⟩)
  have r : ∀ o, (o ≠ 237 ∧ o ≠ 238 ∧ o ≠ 239 ∧ o ≠ 241 ∧ o ≠ 242 ∧ o ≠ 243 ∧ o ≠ 244) → μ' o = μ0 o := fun o ho => funext fun i => (e3 o i (by omega) (by omega)).trans (congrFun (k.row (o := o) (by omega)) i)
  have r241 : μ 241 = μ0 241 := k.row (by omega)
  have hp : pushN (qN α) ≤ 8 := by unfold pushN; split <;> omega
  refine ⟨⟨hS.off (funext fun i => e3 238 i (by omega) (by omega)), ⟨e1, hp, fun j hj => ?_⟩, (f 3 (by omega) (by omega) (by omega) (by omega) (by omega)).trans h3, fun hb => (h4 hb).off (r 240 (by omega)), h5.eq (f 14 (by omega) (by omega) (by omega) (by omega) (by omega)) (r 245 (by omega)), h6, h7.eq (f 19 (by omega) (by omega) (by omega) (by omega) (by omega)) (r 246 (by omega)), h8, h9.eq (f 17 (by omega) (by omega) (by omega) (by omega) (by omega)), h10.eq (f 7 (by omega) (by omega) (by omega) (by omega) (by omega)) (f 8 (by omega) (by omega) (by omega) (by omega) (by omega))⟩, fun o ho => r o (by omega)⟩
  have hj' : j < pushN (qN α) := hj
  have e2' := fun i hi => e2 j i hj' hi
  show MS μ' 241 (352 * j) (pushF (qN α) (qP α) (qS α) j)
  unfold pushF
  by_cases c : qN α < 8
  · simp only [if_pos c] at e2' ⊢
    rw [show pushN (qN α) = qN α + 1 from if_pos c] at hj'
    by_cases q : j = qN α
    · simp only [if_pos q] at e2' ⊢
      exact h1.eq (fun i hi => by rw [e2' i hi, k.1 i hi, Nat.zero_add])
    · simp only [if_neg q] at e2' ⊢
      exact (p3 j (by omega)).eq (fun i hi => by rw [e2' i hi, r241])
  · simp only [if_neg c] at e2' ⊢
    rw [show pushN (qN α) = 8 from if_neg c] at hj'
    by_cases q : j = 7
    · simp only [if_pos q] at e2' ⊢
      exact h1.eq (fun i hi => by rw [e2' i hi, k.1 i hi, Nat.zero_add])
    · simp only [if_neg q] at e2' ⊢
      exact (p3 (j + 1) (by omega)).eq (fun i hi => by rw [e2' i hi, r241])
/-! rows of the pool -/
def PoolR (μ : Mem) (j : Nat) (F : Nat → Nat) : Prop := ∀ k, k < 32 → μ 242 (32 * j + k) = nI (F k) ∧ F k < 32
/-- a row holds slots, whichever -/
def SlR (μ : Mem) (j : Nat) : Prop := ∀ k, k < 32 → ∃ v, μ 242 (32 * j + k) = nI v ∧ v < 32
theorem PoolR.sl {μ : Mem} {j : Nat} {F : Nat → Nat} (h : PoolR μ j F) : SlR μ j := fun k hk => ⟨F k, h k hk⟩
/-- the rows from r on, their counts and how many there are may have changed -/
def PF (μ' μ : Mem) (r : Nat) : Prop := (∀ k, k < 32 * r → μ' 242 k = μ 242 k) ∧ (∀ k, k < r → μ' 243 k = μ 243 k) ∧ ∀ o k, o ≠ 242 → o ≠ 243 → (o ≠ 237 ∨ k ≠ 11) → μ' o k = μ o k
theorem PF.rf {μ : Mem} {r : Nat} : PF μ μ r := ⟨fun _ _ => rfl, fun _ _ => rfl, fun _ _ _ _ _ => rfl⟩
theorem PF.trans {μ2 μ1 μ : Mem} {r2 r1 r : Nat} (h2 : PF μ2 μ1 r2) (h1 : PF μ1 μ r1) (e1 : r ≤ r1) (e2 : r ≤ r2) : PF μ2 μ r := ⟨fun k hk => (h2.1 k (by omega)).trans (h1.1 k (by omega)), fun k hk => (h2.2.1 k (by omega)).trans (h1.2.1 k (by omega)), fun o k a b c => (h2.2.2 o k a b c).trans (h1.2.2 o k a b c)⟩
theorem PF.ks {μ' μ : Mem} {r : Nat} (h : PF μ' μ r) : KS μ' μ := fun o k a b c _ e => h.2.2 o k b c (by omega)
theorem PF.s {μ' μ : Mem} {r : Nat} (h : PF μ' μ r) : μ' 238 = μ 238 := funext fun k => h.2.2 238 k (by omega) (by omega) (by omega)
theorem PoolR.pf {μ' μ : Mem} {r j : Nat} {F : Nat → Nat} (h : PoolR μ j F) (f : PF μ' μ r) (hj : j < r) : PoolR μ' j F := fun k hk => by rw [f.1 _ (by omega)]; exact h k hk
theorem SlR.pf {μ' μ : Mem} {r j : Nat} (h : SlR μ j) (f : PF μ' μ r) (hj : j < r) : SlR μ' j := fun k hk => by rw [f.1 _ (by omega)]; exact h k hk
/-- only the row j of the pool has changed -/
def P1 (μ' μ : Mem) (j : Nat) : Prop := ∀ o k, (o ≠ 242 ∨ k < 32 * j ∨ 32 * j + 32 ≤ k) → μ' o k = μ o k
theorem P1.rf {μ : Mem} {j : Nat} : P1 μ μ j := fun _ _ _ => rfl
theorem P1.pf {μ' μ : Mem} {j r : Nat} (h : P1 μ' μ j) (hr : r ≤ j) : PF μ' μ r := ⟨fun k hk => h 242 k (by omega), fun k hk => h 243 k (by omega), fun o k a b c => h o k (Or.inl a)⟩
theorem P1.wrx {μ1 μ : Mem} {j k : Nat} {v : Int32} (h : P1 μ1 μ j) (hk : k < 32) : P1 (wr μ1 242 (32 * j + k) v) μ j := fun o q ho => (wr_n (by omega)).trans (h o q ho)
theorem PoolR.p1 {μ' μ : Mem} {j i : Nat} {F : Nat → Nat} (h : PoolR μ i F) (f : P1 μ' μ j) (hn : i ≠ j) : PoolR μ' i F := fun k hk => by rw [f _ _ (by omega)]; exact h k hk
theorem SlR.p1 {μ' μ : Mem} {j i : Nat} (h : SlR μ i) (f : P1 μ' μ j) (hn : i ≠ j) : SlR μ' i := fun k hk => by rw [f _ _ (by omega)]; exact h k hk
theorem PoolR.cong {μ : Mem} {j : Nat} {F G : Nat → Nat} (h : PoolR μ j F) (e : ∀ k, k < 32 → G k = F k) : PoolR μ j G := fun k hk => by rw [e k hk]; exact h k hk
theorem prow_step {μ1 : Mem} {j i : Nat} {v : Int32} {F : Nat → Int32} (h : ∀ k, k < i → μ1 242 (32 * j + k) = F k) (hv : v = F i) : ∀ k, k < i + 1 → wr μ1 242 (32 * j + i) v 242 (32 * j + k) = F k := by
  intro k hk
  by_cases e : k = i
  · subst e; rw [wr_s]; exact hv
  · rw [wr_n (Or.inr (by omega))]; exact h k (by omega)
theorem prow_keep {μ1 : Mem} {j i : Nat} {v : Int32} {F : Nat → Int32} (h : ∀ k, i ≤ k → k < 32 → μ1 242 (32 * j + k) = F k) : ∀ k, i + 1 ≤ k → k < 32 → wr μ1 242 (32 * j + i) v 242 (32 * j + k) = F k := fun k h1 h2 => by
  rw [wr_n (Or.inr (by omega))]; exact h k (by omega) h2
