/-! ===== slots, colours, sums ===== -/
def sumU (f : Nat → Nat) : Nat → Nat
  | 0 => 0
  | n + 1 => sumU f n + f n
theorem sumU_1 (f : Nat → Nat) (n : Nat) : sumU f (n + 1) = sumU f n + f n := rfl
theorem sumU_cong {f g : Nat → Nat} : ∀ {n : Nat}, (∀ k, k < n → f k = g k) → sumU f n = sumU g n
  | 0, _ => rfl
  | n + 1, h => by rw [sumU_1, sumU_1, sumU_cong (fun k hk => h k (by omega)), h n (by omega)]
theorem sumU_le {f : Nat → Nat} {c : Nat} : ∀ {n : Nat}, (∀ k, k < n → f k ≤ c) → sumU f n ≤ n * c
  | 0, _ => by rw [Nat.zero_mul]; exact Nat.le_refl 0
  | n + 1, h => by
    have h1 := sumU_le (n := n) (fun k hk => h k (by omega))
    have h2 := h n (by omega)
    rw [sumU_1, Nat.succ_mul]; omega
/-- the row o holds colours -/
def ColR (μ : Mem) (o : Nat) (c : Nat → Nat) : Prop := ∀ k, k < 32 → μ o k = nI (c k) ∧ c k < 6
theorem ColR.eq {μ1 μ : Mem} {o : Nat} {c : Nat → Nat} (h : ColR μ o c) (e : μ1 o = μ o) : ColR μ1 o c := fun k hk => by rw [e]; exact h k hk
def rightOf (s : Nat) : Nat := s - s % 8 + (s + 1) % 8
def downOf (s : Nat) : Nat := (s + 8) % 32
def seam1 (h : Nat → Nat) (s : Nat) : Nat := (if h s = h (rightOf s) then 0 else 1) + (if h s = h (downOf s) then 0 else 1)
def oneB (h : Nat → Nat) (r : Nat) : Bool := allU (fun k => decide (h (r * 8 + k) = h (r * 8))) 8
def apart (a b : Nat) : Nat := (if a % 8 = b % 8 then 0 else 1) + (if a / 8 = b / 8 then 0 else 1)
theorem apart_le (a b : Nat) : apart a b ≤ 2 := by
  unfold apart; split <;> split <;> omega
theorem seam1_le (h : Nat → Nat) (s : Nat) : seam1 h s ≤ 2 := by
  unfold seam1; split <;> split <;> omega
theorem seam_tt {h : Nat → Nat} {s : Nat} (a : h s = h (rightOf s)) (b : h s = h (downOf s)) : seam1 h s = 0 := by unfold seam1; rw [if_pos a, if_pos b]
theorem seam_tf {h : Nat → Nat} {s : Nat} (a : h s = h (rightOf s)) (b : ¬ h s = h (downOf s)) : seam1 h s = 1 := by unfold seam1; rw [if_pos a, if_neg b]
theorem seam_ft {h : Nat → Nat} {s : Nat} (a : ¬ h s = h (rightOf s)) (b : h s = h (downOf s)) : seam1 h s = 1 := by unfold seam1; rw [if_neg a, if_pos b]
theorem seam_ff {h : Nat → Nat} {s : Nat} (a : ¬ h s = h (rightOf s)) (b : ¬ h s = h (downOf s)) : seam1 h s = 2 := by unfold seam1; rw [if_neg a, if_neg b]
theorem kt_b {b : Nat} (h : kt b = 2) : kt (b + 1) = 1000 + 32 ∧ kt (b + 2) = 1000 + 32 ∧ kt (b + 3) = 1000 + 32 := by
  have hl : b < 237 := kt_lt (by rw [h]; decide)
  exact (show ∀ p, p < 237 → kt p = 2 → kt (p + 1) = 1000 + 32 ∧ kt (p + 2) = 1000 + 32 ∧ kt (p + 3) = 1000 + 32 by decide +kernel) b hl h
theorem kt_m {b : Nat} (h : kt b = 3) : kt (b + 1) = 1000 + 120 := by
  have hl : b < 237 := kt_lt (by rw [h]; decide)
  exact (show ∀ p, p < 237 → kt p = 3 → kt (p + 1) = 1000 + 120 by decide +kernel) b hl h
theorem kt_sg {b : Nat} (h : kt b = 9) : kt (b + 1) = 20000 + 120 := by
  have hl : b < 237 := kt_lt (by rw [h]; decide)
  exact (show ∀ p, p < 237 → kt p = 9 → kt (p + 1) = 20000 + 120 by decide +kernel) b hl h
theorem kt_st {b : Nat} (h : kt b = 5) : kt (b + 1) = 2 ∧ kt (b + 5) = 3 ∧ kt (b + 7) = 4 ∧ kt (b + 8) = 30000 + 5 ∧ ∀ i, i < 5 → kt (b + 9 + 2 * i) = 1 := by
  have hl : b < 237 := kt_lt (by rw [h]; decide)
  exact (show ∀ p, p < 237 → kt p = 5 → kt (p + 1) = 2 ∧ kt (p + 5) = 3 ∧ kt (p + 7) = 4 ∧ kt (p + 8) = 30000 + 5 ∧ ∀ i, i < 5 → kt (p + 9 + 2 * i) = 1 by decide +kernel) b hl h
theorem cpy_in {μ : Mem} {a sp b dp n k : Nat} (h1 : dp ≤ k) (h2 : k < dp + n) : cpy μ a sp b dp n b k = μ a (sp + (k - dp)) := by
  unfold cpy
  rw [if_pos rfl]
  exact pk_cpy_in h1 h2
theorem cpy_out {μ : Mem} {a sp b dp n k : Nat} (h : k < dp ∨ dp + n ≤ k) : cpy μ a sp b dp n b k = μ b k := by
  unfold cpy
  rw [if_pos rfl]
  exact pk_cpy_out h
theorem cpy_o {μ : Mem} {a sp b dp n o : Nat} (h : o ≠ b) : cpy μ a sp b dp n o = μ o := by
  funext k
  unfold cpy
  rw [if_neg h]
/-- how often a slot is hit -/
theorem cnt_hit {f : Nat → Nat} {n k : Nat} (hf : ∀ a b, a < n → b < n → f a = f b → a = b) (h : ∃ j, j < n ∧ f j = k) : cnt (fun s => decide (f s = k)) n = 1 := by
  obtain ⟨j, hj, hk⟩ := h
  have key : ∀ m, m ≤ n → cnt (fun s => decide (f s = k)) m = if j < m then 1 else 0 := by
    intro m
    induction m with
    | zero => intro _; rfl
    | succ m ih =>
      intro hm
      rw [cnt_1, ih (by omega)]
      by_cases e : m = j
      · subst e
        rw [if_neg (by omega), if_pos (by simpa using hk), if_pos (by omega)]
      · rw [if_neg (show ¬ (decide (f m = k) = true) by
          intro q
          exact e (hf m j (by omega) hj ((of_decide_eq_true q).trans hk.symm)))]
        by_cases e2 : j < m
        · rw [if_pos e2, if_pos (by omega)]
        · rw [if_neg e2, if_neg (by omega)]
  rw [key n (Nat.le_refl n), if_pos hj]
/-! the log -/
def logN (x : Nat) : Nat := if x < 40 then x + 1 else 40
/-- the log f of x moves with one more move behind it -/
def logF (x : Nat) (f : Nat → Nat) (a c e : Nat) : Nat → Nat := fun k =>
  let y := if x < 40 then x else 39
  if k = 3 * y then a else if k = 3 * y + 1 then c else if k = 3 * y + 2 then e else if x < 40 then f k else f (k + 3)
theorem logadd_part {μ : Mem} {m x a c e : Nat} {f : Nat → Nat} (hx : μ m 1 = nI x) (hf : ∀ k, k < 3 * x → μ (m + 1) k = nI (f k)) (h : x < 40) :
    (fun μ' : Mem => μ' m 1 = nI (logN x) ∧ (∀ k, k < 3 * logN x → μ' (m + 1) k = nI (logF x f a c e k)) ∧ (∀ o k, o ≠ m + 1 → (o ≠ m ∨ k ≠ 1) → μ' o k = μ o k))
      (wr (wr (wr (wr μ (m + 1) (x * 3) (nI a)) (m + 1) (x * 3 + 1) (nI c)) (m + 1) (x * 3 + 2) (nI e)) m 1 (nI (x + 1))) := by
  have e1 : logN x = x + 1 := if_pos h
  refine ⟨by rw [wr_s, e1], fun k hk => ?_, fun o k h1 h2 => by rw [wr_n h2, wr_o h1, wr_o h1, wr_o h1]⟩
  rw [e1] at hk
  rw [wr_o (by omega)]
  unfold logF
  simp only [if_pos h]
  by_cases q2 : k = 3 * x + 2
  · subst q2; rw [show 3 * x + 2 = x * 3 + 2 by omega, wr_s, if_neg (by omega), if_neg (by omega), if_pos rfl]
  · rw [wr_n (Or.inr (by omega))]
    by_cases q1 : k = 3 * x + 1
    · subst q1; rw [show 3 * x + 1 = x * 3 + 1 by omega, wr_s, if_neg (by omega), if_pos rfl]
    · rw [wr_n (Or.inr (by omega))]
      by_cases q0 : k = 3 * x
      · subst q0; rw [show 3 * x = x * 3 by omega, wr_s, if_pos rfl]
      · rw [wr_n (Or.inr (by omega)), if_neg q0, if_neg q1, if_neg q2]
        exact hf k (by omega)
theorem logadd_full {μ : Mem} {m x a c e : Nat} {f : Nat → Nat} (hx : μ m 1 = nI x) (hx2 : x ≤ 40) (hf : ∀ k, k < 3 * x → μ (m + 1) k = nI (f k)) (h : 40 ≤ x) :
    (fun μ' : Mem => μ' m 1 = nI (logN x) ∧ (∀ k, k < 3 * logN x → μ' (m + 1) k = nI (logF x f a c e k)) ∧ (∀ o k, o ≠ m + 1 → (o ≠ m ∨ k ≠ 1) → μ' o k = μ o k))
      (wr (wr (wr (wr (wr (cpy μ (m + 1) 3 (m + 1) 0 117) m 1 (nI 39)) (m + 1) (39 * 3) (nI a)) (m + 1) (39 * 3 + 1) (nI c)) (m + 1) (39 * 3 + 2) (nI e)) m 1 (nI (39 + 1))) := by
  have e1 : logN x = 40 := if_neg (by omega)
  refine ⟨by rw [wr_s, e1], fun k hk => ?_, fun o k h1 h2 => by rw [wr_n h2, wr_o h1, wr_o h1, wr_o h1, wr_n h2, cpy_o h1]⟩
  rw [e1] at hk
  rw [wr_o (by omega)]
  unfold logF
  simp only [if_neg (show ¬ x < 40 by omega)]
  by_cases q2 : k = 3 * 39 + 2
  · subst q2; rw [wr_s, if_neg (by omega), if_neg (by omega), if_pos rfl]
  · rw [wr_n (Or.inr (by omega))]
    by_cases q1 : k = 3 * 39 + 1
    · subst q1; rw [wr_s, if_neg (by omega), if_pos rfl]
    · rw [wr_n (Or.inr (by omega))]
      by_cases q0 : k = 3 * 39
      · subst q0; rw [wr_s, if_pos rfl]
      · rw [wr_n (Or.inr (by omega)), if_neg q0, if_neg q1, if_neg q2, wr_o (by omega), cpy_in (by omega) (by omega), show 3 + (k - 0) = k + 3 by omega]
        exact hf (k + 3) (by omega)
/-! texts in a row of signs -/
def SgT (μ : Mem) (q x : Nat) (t : Nat → Nat) : Prop := μ q 1 = nI x ∧ (∀ k, k < x → μ (q + 1) k = nI (t k) ∧ t k < 65536)
def putT (t : Nat → Nat) (x a : Nat) : Nat → Nat := fun k => if k = x then a else t k
theorem SgT.add {μ : Mem} {q x a : Nat} {t : Nat → Nat} (h : SgT μ q x t) (ha : a < 65536) : SgT (wr (wr μ (q + 1) x (nI a)) q 1 (nI (x + 1))) q (x + 1) (putT t x a) := by
  refine ⟨wr_s, fun k hk => ?_⟩
  rw [wr_o (by omega)]
  unfold putT
  by_cases e : k = x
  · subst e; rw [wr_s, if_pos rfl]; exact ⟨rfl, ha⟩
  · rw [wr_n (Or.inr e), if_neg e]; exact h.2 k (by omega)
def numW (a : Nat) : Nat := if a < 10 then 1 else 2
/-- the text t of x signs with the number a (two digits at most) behind it -/
def numF (t : Nat → Nat) (x a : Nat) : Nat → Nat := if a < 10 then putT t x (48 + a % 10) else putT (putT t x (48 + a / 10)) (x + 1) (48 + a % 10)
theorem numT_1 {μ : Mem} {q x a : Nat} {t : Nat → Nat} (h : a < 10) (k : SgT μ q (x + 1) (putT t x (48 + a % 10))) : SgT μ q (x + numW a) (numF t x a) := by
  unfold numW numF; rw [if_pos h, if_pos h]; exact k
theorem numT_2 {μ : Mem} {q x a : Nat} {t : Nat → Nat} (h : 10 ≤ a) (k : SgT μ q (x + 1 + 1) (putT (putT t x (48 + a / 10)) (x + 1) (48 + a % 10))) : SgT μ q (x + numW a) (numF t x a) := by
  unfold numW numF; rw [if_neg (by omega), if_neg (by omega)]; exact k
