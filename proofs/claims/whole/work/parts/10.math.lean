/-! ===== numbers and rows: what the methods say ===== -/
def iter (f : Nat → Nat) : Nat → Nat → Nat
  | 0, x => x
  | n + 1, x => f (iter f n x)
theorem iter_0 (f : Nat → Nat) (x : Nat) : iter f 0 x = x := rfl
theorem iter_1 (f : Nat → Nat) (n x : Nat) : iter f (n + 1) x = f (iter f n x) := rfl
/-- how many below n -/
def cnt (p : Nat → Bool) : Nat → Nat
  | 0 => 0
  | n + 1 => cnt p n + if p n then 1 else 0
theorem cnt_1 (p : Nat → Bool) (n : Nat) : cnt p (n + 1) = cnt p n + if p n then 1 else 0 := rfl
theorem cnt_le (p : Nat → Bool) : ∀ n, cnt p n ≤ n
  | 0 => Nat.le_refl 0
  | n + 1 => by
    have h := cnt_le p n
    rw [cnt_1]; split <;> omega
theorem cnt_cong {p q : Nat → Bool} : ∀ {n : Nat}, (∀ k, k < n → p k = q k) → cnt p n = cnt q n
  | 0, _ => rfl
  | n + 1, h => by rw [cnt_1, cnt_1, cnt_cong (fun k hk => h k (by omega)), h n (by omega)]
/-- whether all below n -/
def allU (p : Nat → Bool) : Nat → Bool
  | 0 => true
  | n + 1 => allU p n && p n
theorem allU_1 (p : Nat → Bool) (n : Nat) : allU p (n + 1) = (allU p n && p n) := rfl
theorem allU_iff {p : Nat → Bool} : ∀ {n : Nat}, allU p n = true ↔ ∀ k, k < n → p k = true
  | 0 => ⟨fun _ k hk => absurd hk (by omega), fun _ => rfl⟩
  | n + 1 => by
    rw [allU_1, Bool.and_eq_true, allU_iff]
    constructor
    · rintro ⟨h1, h2⟩ k hk
      by_cases e : k = n
      · rw [e]; exact h2
      · exact h1 k (by omega)
    · intro h
      exact ⟨fun k hk => h k (by omega), h n (by omega)⟩
theorem allU_no {p : Nat → Bool} {n k : Nat} (hk : k < n) (h : p k = false) : allU p n = false := by
  cases e : allU p n with
  | false => rfl
  | true => rw [allU_iff.mp e k hk] at h; cases h
theorem allU_cong {p q : Nat → Bool} {n : Nat} (h : ∀ k, k < n → p k = q k) : allU p n = allU q n := by
  cases e : allU q n with
  | true => exact allU_iff.mpr (fun k hk => by rw [h k hk]; exact allU_iff.mp e k hk)
  | false =>
    cases e2 : allU p n with
    | false => rfl
    | true =>
      rw [allU_iff.mpr (fun k hk => by rw [← h k hk]; exact allU_iff.mp e2 k hk)] at e
      cases e
/-- the row o holds the numbers f, each a slot -/
def PermR (μ : Mem) (o : Nat) (f : Nat → Nat) : Prop := ∀ k, k < 32 → μ o k = nI (f k) ∧ f k < 32
/-- only the row o has changed -/
def Off (μ' μ : Mem) (o : Nat) : Prop := ∀ q, q ≠ o → μ' q = μ q
theorem Off.rf {μ : Mem} {o : Nat} : Off μ μ o := fun _ _ => rfl
theorem Off.wr {μ1 μ : Mem} {o k : Nat} {v : Int32} (h : Off μ1 μ o) : Off (wr μ1 o k v) μ o := fun q hq => (wr_o hq).trans (h q hq)
theorem Off.trans {μ2 μ1 μ : Mem} {o : Nat} (h2 : Off μ2 μ1 o) (h1 : Off μ1 μ o) : Off μ2 μ o := fun q hq => (h2 q hq).trans (h1 q hq)
theorem PermR.eq {μ1 μ : Mem} {o : Nat} {f : Nat → Nat} (h : PermR μ o f) (e : μ1 o = μ o) : PermR μ1 o f := fun k hk => by rw [e]; exact h k hk
theorem PermR.off {μ1 μ : Mem} {o q : Nat} {f : Nat → Nat} (h : PermR μ o f) (e : Off μ1 μ q) (hn : o ≠ q) : PermR μ1 o f := h.eq (e o hn)
theorem PermR.cong {μ : Mem} {o : Nat} {f f' : Nat → Nat} (h : PermR μ o f) (e : ∀ k, k < 32 → f' k = f k) : PermR μ o f' := fun k hk => by rw [e k hk]; exact h k hk
theorem kt_p {p : Nat} (h : kt p = 1) : kt (p + 1) = 1000 + 32 := by
  have hl : p < 248 := kt_lt (by rw [h]; decide)
  exact (show ∀ p, p < 248 → kt p = 1 → kt (p + 1) = 1000 + 32 by decide +kernel) p hl h
/-- a permutation of the 32 slots -/
def Bij (f : Nat → Nat) : Prop := (∀ k, k < 32 → f k < 32) ∧ ∀ a b, a < 32 → b < 32 → f a = f b → a = b
def invG (f : Nat → Nat) (k : Nat) : Nat → Nat
  | 0 => 0
  | n + 1 => if f n = k then n else invG f k n
/-- its inverse -/
def pinv (f : Nat → Nat) : Nat → Nat := fun k => invG f k 32
theorem invG_spec {f : Nat → Nat} {k : Nat} : ∀ {n : Nat}, (∃ j, j < n ∧ f j = k) → invG f k n < n ∧ f (invG f k n) = k
  | 0, h => by obtain ⟨j, hj, -⟩ := h; omega
  | n + 1, h => by
    rw [invG]
    by_cases e : f n = k
    · rw [if_pos e]; exact ⟨by omega, e⟩
    · rw [if_neg e]
      obtain ⟨j, hj, hk⟩ := h
      have hjn : j ≠ n := fun q => e (by rw [← q]; exact hk)
      have := invG_spec (f := f) (k := k) (n := n) ⟨j, by omega, hk⟩
      exact ⟨by omega, this.2⟩
theorem ph_le : ∀ (m n : Nat) (f : Nat → Nat), (∀ i, i < n → f i < m) → (∀ i j, i < j → j < n → f i ≠ f j) → n ≤ m
  | 0, n, f, h, _ => by
    rcases Nat.eq_zero_or_pos n with h0 | h0
    · omega
    · exact absurd (h 0 h0) (by omega)
  | m + 1, n, f, h, hd => by
    rcases Nat.eq_zero_or_pos n with h0 | h0
    · omega
    · have key := ph_le m (n - 1) (fun i => if f i = m then f (n - 1) else f i) (fun i hi => by
        show (if f i = m then f (n - 1) else f i) < m
        by_cases e : f i = m
        · rw [if_pos e]
          have h1 := h (n - 1) (by omega)
          have h2 := hd i (n - 1) (by omega) (by omega)
          omega
        · rw [if_neg e]
          have h1 := h i (by omega)
          omega) (fun i j hij hj => by
        show (if f i = m then f (n - 1) else f i) ≠ (if f j = m then f (n - 1) else f j)
        have h1 := hd i j hij (by omega)
        have h2 := hd i (n - 1) (by omega) (by omega)
        have h3 := hd j (n - 1) (by omega) (by omega)
        by_cases e : f i = m
        · rw [if_pos e]
          by_cases e2 : f j = m
          · exact absurd (e.trans e2.symm) h1
          · rw [if_neg e2]; exact Ne.symm h3
        · rw [if_neg e]
          by_cases e2 : f j = m
          · rw [if_pos e2]; exact h2
          · rw [if_neg e2]; exact h1)
      omega
theorem ph_onto {n : Nat} {f : Nat → Nat} (h : ∀ i, i < n → f i < n) (h2 : ∀ a b, a < n → b < n → f a = f b → a = b) {y : Nat} (hy : y < n) : ∃ i, i < n ∧ f i = y := by
  refine Classical.byContradiction fun hno => ?_
  have hne : ∀ i, i < n → f i ≠ y := fun i hi e => hno ⟨i, hi, e⟩
  have := ph_le (n - 1) n (fun i => if f i < y then f i else f i - 1) (fun i hi => by
    show (if f i < y then f i else f i - 1) < n - 1
    have := h i hi; have := hne i hi
    split <;> omega) (fun i j hij hj e => by
    have e' : (if f i < y then f i else f i - 1) = (if f j < y then f j else f j - 1) := e
    have := hne i (by omega); have := hne j hj
    have : f i = f j := by
      split at e' <;> split at e' <;> omega
    have := h2 i j (by omega) hj this
    omega)
  omega
theorem Bij.inv1 {f : Nat → Nat} (h : Bij f) {k : Nat} (hk : k < 32) : pinv f k < 32 ∧ f (pinv f k) = k := invG_spec (ph_onto h.1 h.2 hk)
theorem Bij.inv2 {f : Nat → Nat} (h : Bij f) {k : Nat} (hk : k < 32) : pinv f (f k) = k := by
  have h1 := h.inv1 (h.1 k hk)
  exact h.2 _ _ h1.1 hk h1.2
theorem Bij.pinv {f : Nat → Nat} (h : Bij f) : Bij (pinv f) := ⟨fun k hk => (h.inv1 hk).1, fun a b ha hb e => by rw [← (h.inv1 ha).2, ← (h.inv1 hb).2, e]⟩
theorem Bij.comp {f h : Nat → Nat} (hf : Bij f) (hh : Bij h) : Bij (fun k => h (f k)) := ⟨fun k hk => hh.1 _ (hf.1 k hk), fun a b ha hb e => hf.2 a b ha hb (hh.2 _ _ (hf.1 a ha) (hf.1 b hb) e)⟩
theorem Bij.id : Bij (fun k => k) := ⟨fun k hk => hk, fun a b _ _ e => e⟩
theorem Bij.cong {f h : Nat → Nat} (hf : Bij f) (e : ∀ k, k < 32 → h k = f k) : Bij h := ⟨fun k hk => by rw [e k hk]; exact hf.1 k hk, fun a b ha hb q => hf.2 a b ha hb (by rw [← e a ha, ← e b hb]; exact q)⟩
theorem iter_lt {f : Nat → Nat} (h : ∀ k, k < 32 → f k < 32) : ∀ (n : Nat) {k : Nat}, k < 32 → iter f n k < 32
  | 0, _, hk => hk
  | n + 1, _, hk => h _ (iter_lt h n hk)
theorem Bij.iter {f : Nat → Nat} (h : Bij f) : ∀ n, Bij (iter f n)
  | 0 => Bij.id
  | n + 1 => (Bij.iter h n).comp h
theorem iter_add (f : Nat → Nat) (a : Nat) : ∀ (b x : Nat), iter f (b + a) x = iter f b (iter f a x)
  | 0, x => by rw [Nat.zero_add]; rfl
  | b + 1, x => by rw [Nat.succ_add, iter_1, iter_1, iter_add f a b x]
/-! rows in a loop -/
theorem row_step {μ1 : Mem} {o i : Nat} {v : Int32} {F : Nat → Int32} (h : ∀ k, k < i → μ1 o k = F k) (hv : v = F i) : ∀ k, k < i + 1 → wr μ1 o i v o k = F k := by
  intro k hk
  by_cases e : k = i
  · subst e; rw [wr_s]; exact hv
  · rw [wr_n (Or.inr e)]; exact h k (by omega)
theorem row_keep {μ1 : Mem} {o i N : Nat} {v : Int32} {F : Nat → Int32} (h : ∀ k, i ≤ k → k < N → μ1 o k = F k) : ∀ k, i + 1 ≤ k → k < N → wr μ1 o i v o k = F k := fun k h1 h2 => by
  rw [wr_n (Or.inr (by omega))]; exact h k (by omega) h2
theorem row_off {μ1 : Mem} {o q i N : Nat} {v : Int32} {F : Nat → Int32} (h : ∀ k, k < N → μ1 o k = F k) (hn : o ≠ q) : ∀ k, k < N → wr μ1 q i v o k = F k := fun k hk => by
  rw [wr_o hn]; exact h k hk
def turnF (r b : Nat) : Nat → Nat := fun k => if k / 8 = r then r * 8 + (k % 8 + b) % 8 else k
def shiftF (c b : Nat) : Nat → Nat := fun k => if k % 8 = c then (k + b * 8) % 32 else k
/-- a move: 0 a turn, 1 a shift -/
def moveF (kind w b : Nat) : Nat → Nat := if kind = 0 then turnF w b else shiftF w b
theorem turnF_lt {r b k : Nat} (hr : r < 4) (hk : k < 32) : turnF r b k < 32 := by
  unfold turnF; split <;> omega
theorem shiftF_lt {c b k : Nat} (hk : k < 32) : shiftF c b k < 32 := by
  unfold shiftF; split <;> omega
/-- how long a slot's cycle is; whether it is its cycle's lowest -/
def fstN (p : Nat → Bool) : Nat → Nat
  | 0 => 0
  | n + 1 => if fstN p n < n then fstN p n else if p n then n else n + 1
def cyL (f : Nat → Nat) (i : Nat) : Nat := fstN (fun n => decide (iter f (n + 1) i = i)) 31 + 1
def lowB (f : Nat → Nat) (i : Nat) : Bool := allU (fun n => decide (i ≤ iter f n i)) 33
theorem fstN_le (p : Nat → Bool) : ∀ n, fstN p n ≤ n
  | 0 => Nat.le_refl 0
  | n + 1 => by
    have ih := fstN_le p n
    rw [fstN]; split
    · omega
    · split <;> omega
theorem fstN_eq {p : Nat → Bool} : ∀ {n j : Nat}, j ≤ n → (∀ m, m < j → p m = false) → (j = n ∨ p j = true) → fstN p n = j
  | 0, j, h, _, _ => by rw [fstN]; omega
  | n + 1, j, h, h1, h2 => by
    rw [fstN]
    by_cases e : j = n + 1
    · have e0 : fstN p n = n := fstN_eq (Nat.le_refl n) (fun m hm => h1 m (by omega)) (Or.inl rfl)
      rw [e0, if_neg (by omega), if_neg (by rw [h1 n (by omega)]; decide), e]
    · by_cases e2 : j = n
      · have e0 : fstN p n = n := fstN_eq (Nat.le_refl n) (fun m hm => h1 m (by omega)) (Or.inl rfl)
        have e3 : p n = true := by
          rcases h2 with h2 | h2
          · omega
          · rw [← e2]; exact h2
        rw [e0, if_neg (by omega), if_pos e3, e2]
      · have h3 : p j = true := by
          rcases h2 with h2 | h2
          · omega
          · exact h2
        have e0 : fstN p n = j := fstN_eq (by omega) h1 (Or.inr h3)
        rw [e0, if_pos (by omega)]
theorem cyL_le (f : Nat → Nat) (i : Nat) : 1 ≤ cyL f i ∧ cyL f i ≤ 32 := by
  have := fstN_le (fun n => decide (iter f (n + 1) i = i)) 31
  unfold cyL; omega
theorem cyL_eq {f : Nat → Nat} {i n : Nat} (h1 : 1 ≤ n) (h2 : n ≤ 32) (hl : ∀ z, 1 ≤ z → z < n → iter f z i ≠ i) (he : iter f n i = i ∨ n = 32) : cyL f i = n := by
  unfold cyL
  rw [fstN_eq (j := n - 1) (by omega) (fun m hm => decide_eq_false (hl (m + 1) (by omega) (by omega))) ?_]
  · omega
  · rcases he with he | he
    · exact Or.inr (decide_eq_true (by rw [show n - 1 + 1 = n by omega]; exact he))
    · exact Or.inl (by omega)
theorem low_no {f : Nat → Nat} {i m : Nat} (h : m < 33) (h2 : iter f m i < i) : lowB f i = false := allU_no h (decide_eq_false (by omega))
theorem iter_per {f : Nat → Nat} {i n : Nat} (h : iter f n i = i) : ∀ q r, iter f (q * n + r) i = iter f r i
  | 0, r => by rw [Nat.zero_mul, Nat.zero_add]
  | q + 1, r => by rw [show (q + 1) * n + r = (q * n + r) + n by rw [Nat.succ_mul]; omega, iter_add, h, iter_per h q r]
theorem iter_mod {f : Nat → Nat} {i n : Nat} (h : iter f n i = i) (m : Nat) : iter f m i = iter f (m % n) i := by
  have := iter_per h (m / n) (m % n)
  rwa [Nat.mul_comm, Nat.div_add_mod] at this
theorem low_yes {f : Nat → Nat} {i m : Nat} (hI : ∀ z, z ≤ m → i ≤ iter f z i) (he : iter f (m + 1) i = i ∨ 32 ≤ m) : lowB f i = true := by
  refine allU_iff.mpr (fun k hk => decide_eq_true ?_)
  rcases he with he | he
  · rw [iter_mod he k]
    exact hI _ (by have := Nat.mod_lt k (show 0 < m + 1 by omega); omega)
  · exact hI k (by omega)
theorem inv_step {μ1 : Mem} {o i : Nat} {f : Nat → Nat} (hB : Bij f) (hi : i < 32) (h : ∀ k, k < i → μ1 o (f k) = nI k) : ∀ k, k < i + 1 → wr μ1 o (f i) (nI i) o (f k) = nI k := by
  intro k hk
  by_cases e : k = i
  · rw [e, wr_s]
  · rw [wr_n (Or.inr (fun q => e (hB.2 k i (by omega) hi q)))]
    exact h k (by omega)
def mxU (f : Nat → Nat) : Nat → Nat
  | 0 => 1
  | n + 1 => max (mxU f n) (f n)
theorem lcm_by {a b x : Nat} (h : Nat.gcd a b = x) (hx : 0 < x) : Nat.lcm a b = a / x * b := by
  have h1 : x ∣ a := by rw [← h]; exact Nat.gcd_dvd_left a b
  obtain ⟨c, rfl⟩ := h1
  rw [Nat.lcm, h, Nat.mul_div_cancel_left c hx, Nat.mul_assoc, Nat.mul_div_cancel_left _ hx]
def ordL (f : Nat → Nat) : Nat → Nat
  | 0 => 1
  | n + 1 => Nat.lcm (ordL f n) (cyL f n)
theorem ordL_pos (f : Nat → Nat) : ∀ n, 0 < ordL f n
  | 0 => by decide
  | n + 1 => Nat.lcm_pos (ordL_pos f n) (by have := cyL_le f n; omega)
theorem ordL_le {f : Nat → Nat} (h : Bij f) {n : Nat} (hn : n ≤ 32) : ordL f n ≤ 1000000 := sorry
theorem ord_by {f : Nat → Nat} (h : Bij f) {m : Nat} (h1 : 1 ≤ m) (h2 : m ≤ 1000000) (hL : ∀ z, 1 ≤ z → z < m → ¬ ∀ k, k < 32 → iter f z k = k) (he : (∀ k, k < 32 → iter f m k = k) ∨ m = 1000000) : ordL f 32 = m := sorry
def evC (f : Nat → Nat) : Bool := decide ((32 - cnt (lowB f) 32) % 2 = 0)
theorem evC_by {f : Nat → Nat} : evC f = true ↔ (32 - cnt (fun s => lowB f s && decide (1 ≤ cyL f s)) 32) % 2 = 0 := by
  rw [show cnt (fun s => lowB f s && decide (1 ≤ cyL f s)) 32 = cnt (lowB f) 32 from cnt_cong (fun k _ => by rw [decide_eq_true (cyL_le f k).1, Bool.and_true])]
  unfold evC
  exact decide_eq_true_iff
theorem cnt_z {p : Nat → Bool} : ∀ {n : Nat}, (∀ k, k < n → p k = false) → cnt p n = 0
  | 0, _ => rfl
  | n + 1, h => by rw [cnt_1, cnt_z (fun k hk => h k (by omega)), h n (by omega)]; rfl
/-- the pairs that a permutation turns round -/
def invN (f : Nat → Nat) : Nat → Nat
  | 0 => 0
  | n + 1 => invN f n + cnt (fun h => decide (n < h) && decide (f h < f n)) 32
section MX
variable {g : GP} {M : MI} {R : Room} {Q : QT} {k n pc : Nat} {w : va_W} {l : List (Option Value)} {st : List Value}
theorem J.maxN {idx a b : Nat} (f : Cond.methodLink M.1 idx Lib.Math.max.name ∈ BIG) (f2 : Cond.static Lib.Math.max.name ∈ BIG) (f3 : Cond.initialized "java/lang/Math" ∈ BIG) (f4 : Cond.code Lib.Math.max.name Lib.Math.max.code 2 (some .int) ∈ BIG) (ha : a < 2147483648) (hb : b < 2147483648) (hf : 1 ≤ R.frames) (hR : (st.map fun v => v.category).sum + 13 ≤ R.locals) (hc : k ≤ R.cells) (hs : n ≤ R.slots)
    (d : decode M.2.1 pc = .ok (.invokestatic idx, 3)) (K : J g M R Q k n w (pc + 3) l (.int (nI (max a b)) :: st)) : J g M R Q k n w pc l (.int (nI b) :: .int (nI a) :: st) := by
  have e : (if nI a < nI b then nI b else nI a) = nI (max a b) := by
    by_cases h : a < b
    · rw [if_pos ((nI_ltI ha hb).mpr h), Nat.max_eq_right (by omega)]
    · rw [if_neg (fun q => h ((nI_ltI ha hb).mp q)), Nat.max_eq_left (by omega)]
  rw [← e] at K
  exact fun p ln e s m args below meth c C H locs ls hw hS hl => va_mmax C.1 C.2.1 (C.2.2.1.trans hl.1.symm) C.2.2.2.2.1 (C.2.2.2.2.2.1 _ f) (C.2.2.2.2.2.1 _ f2) (C.2.2.2.2.2.1 _ f3) (C.2.2.2.2.2.1 _ f4) hf hR hc hs d (K p ln e s m args below meth c C H locs ls hw hS hl)
end MX
