/-! ===== numbers and rows: what the methods say ===== -/
def iter (f : Nat → Nat) : Nat → Nat → Nat
  | 0, x => x
  | n + 1, x => f (iter f n x)
theorem iter_0 (f : Nat → Nat) (x : Nat) : iter f 0 x = x := rfl
theorem iter_1 (f : Nat → Nat) (n x : Nat) : iter f (n + 1) x = f (iter f n x) := rfl
/-- how many below n -/
def cnt (p : Nat → Bool) : Nat → Nat
  | 0 => 0
  | n + 1 => cnt p n + if p n then 1 else 0
theorem cnt_1 (p : Nat → Bool) (n : Nat) : cnt p (n + 1) = cnt p n + if p n then 1 else 0 := rfl
theorem cnt_le (p : Nat → Bool) : ∀ n, cnt p n ≤ n
  | 0 => Nat.le_refl 0
  | n + 1 => by
    have h := cnt_le p n
    rw [cnt_1]; split <;> omega
theorem cnt_cong {p q : Nat → Bool} : ∀ {n : Nat}, (∀ k, k < n → p k = q k) → cnt p n = cnt q n
  | 0, _ => rfl
  | n + 1, h => by rw [cnt_1, cnt_1, cnt_cong (fun k hk => h k (by omega)), h n (by omega)]
/-- whether all below n -/
def allU (p : Nat → Bool) : Nat → Bool
  | 0 => true
  | n + 1 => allU p n && p n
theorem allU_1 (p : Nat → Bool) (n : Nat) : allU p (n + 1) = (allU p n && p n) := rfl
theorem allU_iff {p : Nat → Bool} : ∀ {n : Nat}, allU p n = true ↔ ∀ k, k < n → p k = true
  | 0 => ⟨fun _ k hk => absurd hk (by omega), fun _ => rfl⟩
  | n + 1 => by
    rw [allU_1, Bool.and_eq_true, allU_iff]
    constructor
    · rintro ⟨h1, h2⟩ k hk
      by_cases e : k = n
      · rw [e]; exact h2
      · exact h1 k (by omega)
    · intro h
      exact ⟨fun k hk => h k (by omega), h n (by omega)⟩
theorem allU_no {p : Nat → Bool} {n k : Nat} (hk : k < n) (h : p k = false) : allU p n = false := by
  cases e : allU p n with
  | false => rfl
  | true => rw [allU_iff.mp e k hk] at h; cases h
theorem allU_cong {p q : Nat → Bool} {n : Nat} (h : ∀ k, k < n → p k = q k) : allU p n = allU q n := by
  cases e : allU q n with
  | true => exact allU_iff.mpr (fun k hk => by rw [h k hk]; exact allU_iff.mp e k hk)
  | false =>
    cases e2 : allU p n with
    | false => rfl
    | true =>
      rw [allU_iff.mpr (fun k hk => by rw [← h k hk]; exact allU_iff.mp e2 k hk)] at e
      cases e
/-- the row o holds the numbers f, each a slot -/
def PermR (μ : Mem) (o : Nat) (f : Nat → Nat) : Prop := ∀ k, k < 32 → μ o k = nI (f k) ∧ f k < 32
/-- only the row o has changed -/
def Off (μ' μ : Mem) (o : Nat) : Prop := ∀ q, q ≠ o → μ' q = μ q
theorem Off.rf {μ : Mem} {o : Nat} : Off μ μ o := fun _ _ => rfl
theorem Off.wr {μ1 μ : Mem} {o k : Nat} {v : Int32} (h : Off μ1 μ o) : Off (wr μ1 o k v) μ o := fun q hq => (wr_o hq).trans (h q hq)
theorem Off.trans {μ2 μ1 μ : Mem} {o : Nat} (h2 : Off μ2 μ1 o) (h1 : Off μ1 μ o) : Off μ2 μ o := fun q hq => (h2 q hq).trans (h1 q hq)
theorem PermR.eq {μ1 μ : Mem} {o : Nat} {f : Nat → Nat} (h : PermR μ o f) (e : μ1 o = μ o) : PermR μ1 o f := fun k hk => by rw [e]; exact h k hk
theorem PermR.off {μ1 μ : Mem} {o q : Nat} {f : Nat → Nat} (h : PermR μ o f) (e : Off μ1 μ q) (hn : o ≠ q) : PermR μ1 o f := h.eq (e o hn)
theorem PermR.cong {μ : Mem} {o : Nat} {f f' : Nat → Nat} (h : PermR μ o f) (e : ∀ k, k < 32 → f' k = f k) : PermR μ o f' := fun k hk => by rw [e k hk]; exact h k hk
theorem kt_p {p : Nat} (h : kt p = 1) : kt (p + 1) = 1000 + 32 := by
  have hl : p < 237 := kt_lt (by rw [h]; decide)
  exact (show ∀ p, p < 237 → kt p = 1 → kt (p + 1) = 1000 + 32 by decide +kernel) p hl h
/-- a permutation of the 32 slots -/
def Bij (f : Nat → Nat) : Prop := (∀ k, k < 32 → f k < 32) ∧ ∀ a b, a < 32 → b < 32 → f a = f b → a = b
def invG (f : Nat → Nat) (k : Nat) : Nat → Nat
  | 0 => 0
  | n + 1 => if f n = k then n else invG f k n
/-- its inverse -/
def pinv (f : Nat → Nat) : Nat → Nat := fun k => invG f k 32
theorem invG_spec {f : Nat → Nat} {k : Nat} : ∀ {n : Nat}, (∃ j, j < n ∧ f j = k) → invG f k n < n ∧ f (invG f k n) = k
  | 0, h => by obtain ⟨j, hj, -⟩ := h; omega
  | n + 1, h => by
    rw [invG]
    by_cases e : f n = k
    · rw [if_pos e]; exact ⟨by omega, e⟩
    · rw [if_neg e]
      obtain ⟨j, hj, hk⟩ := h
      have hjn : j ≠ n := fun q => e (by rw [← q]; exact hk)
      have := invG_spec (f := f) (k := k) (n := n) ⟨j, by omega, hk⟩
      exact ⟨by omega, this.2⟩
theorem ph_le : ∀ (m n : Nat) (f : Nat → Nat), (∀ i, i < n → f i < m) → (∀ i j, i < j → j < n → f i ≠ f j) → n ≤ m
  | 0, n, f, h, _ => by
    rcases Nat.eq_zero_or_pos n with h0 | h0
    · omega
    · exact absurd (h 0 h0) (by omega)
  | m + 1, n, f, h, hd => by
    rcases Nat.eq_zero_or_pos n with h0 | h0
    · omega
    · have key := ph_le m (n - 1) (fun i => if f i = m then f (n - 1) else f i) (fun i hi => by
        show (if f i = m then f (n - 1) else f i) < m
        by_cases e : f i = m
        · rw [if_pos e]
          have h1 := h (n - 1) (by omega)
          have h2 := hd i (n - 1) (by omega) (by omega)
          omega
        · rw [if_neg e]
          have h1 := h i (by omega)
          omega) (fun i j hij hj => by
        show (if f i = m then f (n - 1) else f i) ≠ (if f j = m then f (n - 1) else f j)
        have h1 := hd i j hij (by omega)
        have h2 := hd i (n - 1) (by omega) (by omega)
        have h3 := hd j (n - 1) (by omega) (by omega)
        by_cases e : f i = m
        · rw [if_pos e]
          by_cases e2 : f j = m
          · exact absurd (e.trans e2.symm) h1
          · rw [if_neg e2]; exact Ne.symm h3
        · rw [if_neg e]
          by_cases e2 : f j = m
          · rw [if_pos e2]; exact h2
          · rw [if_neg e2]; exact h1)
      omega
theorem ph_onto {n : Nat} {f : Nat → Nat} (h : ∀ i, i < n → f i < n) (h2 : ∀ a b, a < n → b < n → f a = f b → a = b) {y : Nat} (hy : y < n) : ∃ i, i < n ∧ f i = y := by
  refine Classical.byContradiction fun hno => ?_
  have hne : ∀ i, i < n → f i ≠ y := fun i hi e => hno ⟨i, hi, e⟩
  have := ph_le (n - 1) n (fun i => if f i < y then f i else f i - 1) (fun i hi => by
    show (if f i < y then f i else f i - 1) < n - 1
    have := h i hi; have := hne i hi
    split <;> omega) (fun i j hij hj e => by
    have e' : (if f i < y then f i else f i - 1) = (if f j < y then f j else f j - 1) := e
    have := hne i (by omega); have := hne j hj
    have : f i = f j := by
      split at e' <;> split at e' <;> omega
    have := h2 i j (by omega) hj this
    omega)
  omega
theorem Bij.inv1 {f : Nat → Nat} (h : Bij f) {k : Nat} (hk : k < 32) : pinv f k < 32 ∧ f (pinv f k) = k := invG_spec (ph_onto h.1 h.2 hk)
theorem Bij.inv2 {f : Nat → Nat} (h : Bij f) {k : Nat} (hk : k < 32) : pinv f (f k) = k := by
  have h1 := h.inv1 (h.1 k hk)
  exact h.2 _ _ h1.1 hk h1.2
theorem Bij.pinv {f : Nat → Nat} (h : Bij f) : Bij (pinv f) := ⟨fun k hk => (h.inv1 hk).1, fun a b ha hb e => by rw [← (h.inv1 ha).2, ← (h.inv1 hb).2, e]⟩
theorem Bij.comp {f h : Nat → Nat} (hf : Bij f) (hh : Bij h) : Bij (fun k => h (f k)) := ⟨fun k hk => hh.1 _ (hf.1 k hk), fun a b ha hb e => hf.2 a b ha hb (hh.2 _ _ (hf.1 a ha) (hf.1 b hb) e)⟩
theorem Bij.id : Bij (fun k => k) := ⟨fun k hk => hk, fun a b _ _ e => e⟩
theorem Bij.cong {f h : Nat → Nat} (hf : Bij f) (e : ∀ k, k < 32 → h k = f k) : Bij h := ⟨fun k hk => by rw [e k hk]; exact hf.1 k hk, fun a b ha hb q => hf.2 a b ha hb (by rw [← e a ha, ← e b hb]; exact q)⟩
theorem iter_lt {f : Nat → Nat} (h : ∀ k, k < 32 → f k < 32) : ∀ (n : Nat) {k : Nat}, k < 32 → iter f n k < 32
  | 0, _, hk => hk
  | n + 1, _, hk => h _ (iter_lt h n hk)
theorem Bij.iter {f : Nat → Nat} (h : Bij f) : ∀ n, Bij (iter f n)
  | 0 => Bij.id
  | n + 1 => (Bij.iter h n).comp h
theorem iter_add (f : Nat → Nat) (a : Nat) : ∀ (b x : Nat), iter f (b + a) x = iter f b (iter f a x)
  | 0, x => by rw [Nat.zero_add]; rfl
  | b + 1, x => by rw [Nat.succ_add, iter_1, iter_1, iter_add f a b x]
/-! rows in a loop -/
theorem row_step {μ1 : Mem} {o i : Nat} {v : Int32} {F : Nat → Int32} (h : ∀ k, k < i → μ1 o k = F k) (hv : v = F i) : ∀ k, k < i + 1 → wr μ1 o i v o k = F k := by
  intro k hk
  by_cases e : k = i
  · subst e; rw [wr_s]; exact hv
  · rw [wr_n (Or.inr e)]; exact h k (by omega)
theorem row_keep {μ1 : Mem} {o i N : Nat} {v : Int32} {F : Nat → Int32} (h : ∀ k, i ≤ k → k < N → μ1 o k = F k) : ∀ k, i + 1 ≤ k → k < N → wr μ1 o i v o k = F k := fun k h1 h2 => by
  rw [wr_n (Or.inr (by omega))]; exact h k (by omega) h2
theorem row_off {μ1 : Mem} {o q i N : Nat} {v : Int32} {F : Nat → Int32} (h : ∀ k, k < N → μ1 o k = F k) (hn : o ≠ q) : ∀ k, k < N → wr μ1 q i v o k = F k := fun k hk => by
  rw [wr_o hn]; exact h k hk
def turnF (r b : Nat) : Nat → Nat := fun k => if k / 8 = r then r * 8 + (k % 8 + b) % 8 else k
def shiftF (c b : Nat) : Nat → Nat := fun k => if k % 8 = c then (k + b * 8) % 32 else k
/-- a move: 0 a turn, 1 a shift -/
def moveF (kind w b : Nat) : Nat → Nat := if kind = 0 then turnF w b else shiftF w b
theorem turnF_lt {r b k : Nat} (hr : r < 4) (hk : k < 32) : turnF r b k < 32 := by
  unfold turnF; split <;> omega
theorem shiftF_lt {c b k : Nat} (hk : k < 32) : shiftF c b k < 32 := by
  unfold shiftF; split <;> omega
/-- how long a slot's cycle is; whether it is its cycle's lowest -/
def fstN (p : Nat → Bool) : Nat → Nat
  | 0 => 0
  | n + 1 => if fstN p n < n then fstN p n else if p n then n else n + 1
def cyL (f : Nat → Nat) (i : Nat) : Nat := fstN (fun n => decide (iter f (n + 1) i = i)) 31 + 1
def lowB (f : Nat → Nat) (i : Nat) : Bool := allU (fun n => decide (i ≤ iter f n i)) 33
theorem fstN_le (p : Nat → Bool) : ∀ n, fstN p n ≤ n
  | 0 => Nat.le_refl 0
  | n + 1 => by
    have ih := fstN_le p n
    rw [fstN]; split
    · omega
    · split <;> omega
theorem fstN_eq {p : Nat → Bool} : ∀ {n j : Nat}, j ≤ n → (∀ m, m < j → p m = false) → (j = n ∨ p j = true) → fstN p n = j
  | 0, j, h, _, _ => by rw [fstN]; omega
  | n + 1, j, h, h1, h2 => by
    rw [fstN]
    by_cases e : j = n + 1
    · have e0 : fstN p n = n := fstN_eq (Nat.le_refl n) (fun m hm => h1 m (by omega)) (Or.inl rfl)
      rw [e0, if_neg (by omega), if_neg (by rw [h1 n (by omega)]; decide), e]
    · by_cases e2 : j = n
      · have e0 : fstN p n = n := fstN_eq (Nat.le_refl n) (fun m hm => h1 m (by omega)) (Or.inl rfl)
        have e3 : p n = true := by
          rcases h2 with h2 | h2
          · omega
          · rw [← e2]; exact h2
        rw [e0, if_neg (by omega), if_pos e3, e2]
      · have h3 : p j = true := by
          rcases h2 with h2 | h2
          · omega
          · exact h2
        have e0 : fstN p n = j := fstN_eq (by omega) h1 (Or.inr h3)
        rw [e0, if_pos (by omega)]
theorem cyL_le (f : Nat → Nat) (i : Nat) : 1 ≤ cyL f i ∧ cyL f i ≤ 32 := by
  have := fstN_le (fun n => decide (iter f (n + 1) i = i)) 31
  unfold cyL; omega
theorem cyL_eq {f : Nat → Nat} {i n : Nat} (h1 : 1 ≤ n) (h2 : n ≤ 32) (hl : ∀ z, 1 ≤ z → z < n → iter f z i ≠ i) (he : iter f n i = i ∨ n = 32) : cyL f i = n := by
  unfold cyL
  rw [fstN_eq (j := n - 1) (by omega) (fun m hm => decide_eq_false (hl (m + 1) (by omega) (by omega))) ?_]
  · omega
  · rcases he with he | he
    · exact Or.inr (decide_eq_true (by rw [show n - 1 + 1 = n by omega]; exact he))
    · exact Or.inl (by omega)
theorem low_no {f : Nat → Nat} {i m : Nat} (h : m < 33) (h2 : iter f m i < i) : lowB f i = false := allU_no h (decide_eq_false (by omega))
theorem iter_per {f : Nat → Nat} {i n : Nat} (h : iter f n i = i) : ∀ q r, iter f (q * n + r) i = iter f r i
  | 0, r => by rw [Nat.zero_mul, Nat.zero_add]
  | q + 1, r => by rw [show (q + 1) * n + r = (q * n + r) + n by rw [Nat.succ_mul]; omega, iter_add, h, iter_per h q r]
theorem iter_mod {f : Nat → Nat} {i n : Nat} (h : iter f n i = i) (m : Nat) : iter f m i = iter f (m % n) i := by
  have := iter_per h (m / n) (m % n)
  rwa [Nat.mul_comm, Nat.div_add_mod] at this
theorem low_yes {f : Nat → Nat} {i m : Nat} (hI : ∀ z, z ≤ m → i ≤ iter f z i) (he : iter f (m + 1) i = i ∨ 32 ≤ m) : lowB f i = true := by
  refine allU_iff.mpr (fun k hk => decide_eq_true ?_)
  rcases he with he | he
  · rw [iter_mod he k]
    exact hI _ (by have := Nat.mod_lt k (show 0 < m + 1 by omega); omega)
  · exact hI k (by omega)
theorem inv_step {μ1 : Mem} {o i : Nat} {f : Nat → Nat} (hB : Bij f) (hi : i < 32) (h : ∀ k, k < i → μ1 o (f k) = nI k) : ∀ k, k < i + 1 → wr μ1 o (f i) (nI i) o (f k) = nI k := by
  intro k hk
  by_cases e : k = i
  · rw [e, wr_s]
  · rw [wr_n (Or.inr (fun q => e (hB.2 k i (by omega) hi q)))]
    exact h k (by omega)
def mxU (f : Nat → Nat) : Nat → Nat
  | 0 => 1
  | n + 1 => max (mxU f n) (f n)
theorem lcm_by {a b x : Nat} (h : Nat.gcd a b = x) (hx : 0 < x) : Nat.lcm a b = a / x * b := by
  have h1 : x ∣ a := by rw [← h]; exact Nat.gcd_dvd_left a b
  obtain ⟨c, rfl⟩ := h1
  rw [Nat.lcm, h, Nat.mul_div_cancel_left c hx, Nat.mul_assoc, Nat.mul_div_cancel_left _ hx]
def ordL (f : Nat → Nat) : Nat → Nat
  | 0 => 1
  | n + 1 => Nat.lcm (ordL f n) (cyL f n)
theorem ordL_pos (f : Nat → Nat) : ∀ n, 0 < ordL f n
  | 0 => Nat.zero_lt_one
  | n + 1 => Nat.lcm_pos (ordL_pos f n) (by have := cyL_le f n; omega)
/-! the order -/
theorem iter_fix {f : Nat → Nat} {n i : Nat} (h : iter f n i = i) (m : Nat) : iter f (m * n) i = i := by
  have := iter_per h m 0
  rwa [Nat.add_zero] at this
theorem iter_comm (f : Nat → Nat) (a b x : Nat) : iter f a (iter f b x) = iter f b (iter f a x) := by
  rw [← iter_add, ← iter_add, Nat.add_comm]
theorem iter_back {f : Nat → Nat} (h : Bij f) {i : Nat} (hi : i < 32) : ∃ n, 1 ≤ n ∧ n ≤ 32 ∧ iter f n i = i := by
  refine Classical.byContradiction fun hno => ?_
  have h1 : ∀ a, a < 33 → iter f a i < 32 := fun a _ => iter_lt h.1 a hi
  have h2 : ∀ a b, a < b → b < 33 → iter f a i ≠ iter f b i := by
    intro a b hab hb e
    refine hno ⟨b - a, by omega, by omega, ?_⟩
    have e2 : iter f a (iter f (b - a) i) = iter f a i := by
      rw [← iter_add, show a + (b - a) = b by omega]; exact e.symm
    exact (h.iter a).2 _ _ (iter_lt h.1 _ hi) hi e2
  have := ph_le 32 33 (fun a => iter f a i) h1 h2
  omega
theorem cyL_spec {f : Nat → Nat} (h : Bij f) {i : Nat} (hi : i < 32) : iter f (cyL f i) i = i ∧ ∀ z, 1 ≤ z → z < cyL f i → iter f z i ≠ i := by
  obtain ⟨n0, a1, a2, a3⟩ := iter_back h hi
  obtain ⟨n, ⟨b1, b2⟩, b3⟩ := pk_least (fun n => 1 ≤ n ∧ iter f n i = i) ⟨n0, a1, a3⟩
  have hn : n ≤ 32 := by
    refine Nat.not_lt.mp fun q => b3 n0 (by omega) ⟨a1, a3⟩
  have e : cyL f i = n := cyL_eq b1 hn (fun z h1 h2 q => b3 z h2 ⟨h1, q⟩) (Or.inl b2)
  rw [e]
  exact ⟨b2, fun z h1 h2 q => b3 z h2 ⟨h1, q⟩⟩
theorem cyL_dvd {f : Nat → Nat} (h : Bij f) {i : Nat} (hi : i < 32) (n : Nat) : iter f n i = i ↔ cyL f i ∣ n := by
  have hs := cyL_spec h hi
  have hp := cyL_le f i
  constructor
  · intro e
    have e2 : iter f (n % cyL f i) i = i := by rw [← iter_mod hs.1]; exact e
    have hl := Nat.mod_lt n (show 0 < cyL f i by omega)
    rcases Nat.eq_zero_or_pos (n % cyL f i) with h0 | h0
    · exact Nat.dvd_of_mod_eq_zero h0
    · exact absurd e2 (hs.2 _ h0 hl)
  · rintro ⟨q, rfl⟩
    rw [Nat.mul_comm]
    exact iter_fix hs.1 q
theorem ordL_dvd (f : Nat → Nat) (m : Nat) : ∀ n, ordL f n ∣ m ↔ ∀ i, i < n → cyL f i ∣ m
  | 0 => ⟨fun _ i hi => absurd hi (by omega), fun _ => Nat.one_dvd m⟩
  | n + 1 => by
    rw [show ordL f (n + 1) = Nat.lcm (ordL f n) (cyL f n) from rfl, Nat.lcm_dvd_iff, ordL_dvd f m n]
    constructor
    · rintro ⟨h1, h2⟩ i hi
      by_cases e : i = n
      · rw [e]; exact h2
      · exact h1 i (by omega)
    · exact fun h => ⟨fun i hi => h i (by omega), h n (by omega)⟩
theorem ordL_iter {f : Nat → Nat} (h : Bij f) (n : Nat) : (∀ k, k < 32 → iter f n k = k) ↔ ordL f 32 ∣ n := by
  rw [ordL_dvd]
  exact ⟨fun q i hi => (cyL_dvd h hi n).mp (q i hi), fun q i hi => (cyL_dvd h hi n).mpr (q i hi)⟩
/-- the lowest of a slot's cycle -/
def minI (f : Nat → Nat) (s : Nat) : Nat → Nat
  | 0 => s
  | n + 1 => min (minI f s n) (iter f (n + 1) s)
def rep (f : Nat → Nat) (s : Nat) : Nat := minI f s 32
theorem minI_le (f : Nat → Nat) (s : Nat) : ∀ n m, m ≤ n → minI f s n ≤ iter f m s
  | 0, m, h => by rw [show m = 0 by omega]; exact Nat.le_refl _
  | n + 1, m, h => by
    by_cases e : m = n + 1
    · rw [e]; exact Nat.min_le_right _ _
    · exact Nat.le_trans (Nat.min_le_left _ _) (minI_le f s n m (by omega))
theorem minI_at (f : Nat → Nat) (s : Nat) : ∀ n, ∃ m, m ≤ n ∧ minI f s n = iter f m s
  | 0 => ⟨0, Nat.le_refl 0, rfl⟩
  | n + 1 => by
    obtain ⟨m, h1, h2⟩ := minI_at f s n
    rcases Nat.le_total (minI f s n) (iter f (n + 1) s) with h | h
    · exact ⟨m, by omega, by rw [minI, Nat.min_eq_left h]; exact h2⟩
    · exact ⟨n + 1, Nat.le_refl _, by rw [minI, Nat.min_eq_right h]⟩
theorem iter_small {f : Nat → Nat} (h : Bij f) {s : Nat} (hs : s < 32) (m : Nat) : ∃ m', m' < 32 ∧ iter f m s = iter f m' s := by
  have hc := cyL_le f s
  exact ⟨m % cyL f s, by have := Nat.mod_lt m (show 0 < cyL f s by omega); omega, iter_mod (cyL_spec h hs).1 m⟩
theorem rep_le {f : Nat → Nat} (h : Bij f) {s : Nat} (hs : s < 32) (m : Nat) : rep f s ≤ iter f m s := by
  obtain ⟨m', h1, h2⟩ := iter_small h hs m
  rw [h2]
  exact minI_le f s 32 m' (by omega)
theorem rep_at (f : Nat → Nat) (s : Nat) : ∃ m, rep f s = iter f m s := by
  obtain ⟨m, -, h⟩ := minI_at f s 32
  exact ⟨m, h⟩
theorem low_all {f : Nat → Nat} (h : Bij f) {s : Nat} (hs : s < 32) : lowB f s = true ↔ ∀ m, s ≤ iter f m s := by
  constructor
  · intro q m
    obtain ⟨m', h1, h2⟩ := iter_small h hs m
    rw [h2]
    exact of_decide_eq_true (allU_iff.mp q m' (by omega))
  · exact fun q => allU_iff.mpr (fun k _ => decide_eq_true (q k))
theorem iter_inv {f : Nat → Nat} (h : Bij f) {s : Nat} (hs : s < 32) (m : Nat) : ∃ m', iter f m' (iter f m s) = s := by
  have hc := cyL_le f s
  refine ⟨m * cyL f s - m, ?_⟩
  rw [← iter_add, Nat.sub_add_cancel (by have := Nat.mul_le_mul_left m hc.1; omega)]
  exact iter_fix (cyL_spec h hs).1 m
theorem rep_low {f : Nat → Nat} (h : Bij f) {s : Nat} (hs : s < 32) : rep f s < 32 ∧ lowB f (rep f s) = true ∧ cyL f (rep f s) = cyL f s := by
  obtain ⟨m, e⟩ := rep_at f s
  have hl : rep f s < 32 := by rw [e]; exact iter_lt h.1 m hs
  refine ⟨hl, (low_all h hl).mpr (fun z => ?_), ?_⟩
  · have := rep_le h hs (z + m)
    rw [iter_add, ← e] at this
    exact this
  · have key : ∀ n, cyL f (rep f s) ∣ n ↔ cyL f s ∣ n := by
      intro n
      rw [← cyL_dvd h hl, ← cyL_dvd h hs, e]
      constructor
      · intro q
        rw [iter_comm] at q
        exact (h.iter m).2 _ _ (iter_lt h.1 n hs) hs q
      · intro q
        rw [iter_comm, q]
    exact Nat.dvd_antisymm ((key _).mpr (Nat.dvd_refl _)) ((key _).mp (Nat.dvd_refl _))
theorem cnt_step (p : Nat → Bool) : ∀ {n k : Nat}, k < n → p k = true → cnt p k < cnt p n
  | n + 1, k, hk, h => by
    rw [cnt_1]
    by_cases e : k = n
    · subst e; rw [if_pos h]; omega
    · have := cnt_step p (n := n) (k := k) (by omega) h
      omega
theorem cnt_inj {p : Nat → Bool} {n c : Nat} {u : Nat → Nat} (h : ∀ j, j < c → u j < n ∧ p (u j) = true) (hd : ∀ i j, i < j → j < c → u i ≠ u j) : c ≤ cnt p n := by
  refine ph_le (cnt p n) c (fun j => cnt p (u j)) (fun j hj => cnt_step p (h j hj).1 (h j hj).2) (fun i j hij hj e => ?_)
  have e' : cnt p (u i) = cnt p (u j) := e
  rcases Nat.lt_trichotomy (u i) (u j) with q | q | q
  · have := cnt_step p q (h i (by omega)).2; omega
  · exact hd i j hij hj q
  · have := cnt_step p q (h j hj).2; omega
theorem cnt_or {p q r : Nat → Bool} : ∀ {n : Nat}, (∀ k, k < n → (if r k then 1 else 0) = (if p k then 1 else 0) + (if q k then 1 else 0)) → cnt r n = cnt p n + cnt q n
  | 0, _ => rfl
  | n + 1, h => by rw [cnt_1, cnt_1, cnt_1, cnt_or (fun k hk => h k (by omega)), h n (by omega)]; omega
/-- the lengths of the cycles whose lowest stands below n: their sum and their product -/
def cyS (f : Nat → Nat) : Nat → Nat
  | 0 => 0
  | n + 1 => cyS f n + if lowB f n then cyL f n else 0
def cyP (f : Nat → Nat) : Nat → Nat
  | 0 => 1
  | n + 1 => cyP f n * if lowB f n then cyL f n else 1
theorem cyS_le {f : Nat → Nat} (h : Bij f) : ∀ {n : Nat}, n ≤ 32 → cyS f n ≤ cnt (fun s => decide (rep f s < n)) 32
  | 0, _ => Nat.zero_le _
  | n + 1, hn => by
    have ih := cyS_le h (n := n) (by omega)
    have e : cnt (fun s => decide (rep f s < n + 1)) 32 = cnt (fun s => decide (rep f s < n)) 32 + cnt (fun s => decide (rep f s = n)) 32 := cnt_or (fun k _ => by
      by_cases h1 : rep f k < n
      · rw [if_pos (decide_eq_true (by omega)), if_pos (decide_eq_true h1), if_neg (by rw [decide_eq_false (by omega)]; decide)]
      · by_cases h2 : rep f k = n
        · rw [if_pos (decide_eq_true (by omega)), if_neg (by rw [decide_eq_false h1]; decide), if_pos (decide_eq_true h2)]
        · rw [if_neg (by rw [decide_eq_false (by omega)]; decide), if_neg (by rw [decide_eq_false h1]; decide), if_neg (by rw [decide_eq_false h2]; decide)])
    rw [e, cyS]
    by_cases hl : lowB f n = true
    · rw [if_pos hl]
      have hc := cyL_spec h (show n < 32 by omega)
      have hall := (low_all h (show n < 32 by omega)).mp hl
      have := cnt_inj (p := fun s => decide (rep f s = n)) (n := 32) (c := cyL f n) (u := fun j => iter f j n) (fun j _ => by
        have hj := iter_lt h.1 j (show n < 32 by omega)
        refine ⟨hj, decide_eq_true ?_⟩
        obtain ⟨m, hm⟩ := rep_at f (iter f j n)
        have h1 : n ≤ rep f (iter f j n) := by rw [hm, ← iter_add]; exact hall _
        obtain ⟨z, hz⟩ := iter_inv h (show n < 32 by omega) j
        have h2 := rep_le h hj z
        rw [hz] at h2
        omega) (fun i j hij hj q => by
        have q' : iter f i n = iter f j n := q
        have e2 : iter f i (iter f (j - i) n) = iter f i n := by
          rw [← iter_add, show i + (j - i) = j by omega]; exact q'.symm
        exact hc.2 (j - i) (by omega) (by omega) ((h.iter i).2 _ _ (iter_lt h.1 _ (by omega)) (by omega) e2))
      omega
    · rw [if_neg hl]; omega
theorem cube_le : ∀ x, x < 33 → x * x * x ≤ 3 ^ x := by decide +kernel
theorem cube_mul (a b : Nat) : a * b * (a * b) * (a * b) = (a * a * a) * (b * b * b) := by ac_rfl
theorem cyP_cube (f : Nat → Nat) : ∀ n, cyP f n * cyP f n * cyP f n ≤ 3 ^ cyS f n
  | 0 => Nat.le_refl 1
  | n + 1 => by
    have ih := cyP_cube f n
    rw [cyP, cyS]
    by_cases hl : lowB f n = true
    · rw [if_pos hl, if_pos hl]
      have h1 := cube_le (cyL f n) (by have := cyL_le f n; omega)
      rw [cube_mul, Nat.pow_add]
      exact Nat.mul_le_mul ih h1
    · rw [if_neg hl, if_neg hl, Nat.mul_one, Nat.add_zero]; exact ih
theorem cyP_dvd (f : Nat → Nat) : ∀ {n i : Nat}, i < n → lowB f i = true → cyL f i ∣ cyP f n
  | n + 1, i, hi, h => by
    rw [cyP]
    by_cases e : i = n
    · subst e; rw [if_pos h]; exact Nat.dvd_mul_left _ _
    · exact Nat.dvd_trans (cyP_dvd f (n := n) (by omega) h) (Nat.dvd_mul_right _ _)
theorem cyP_pos (f : Nat → Nat) : ∀ n, 0 < cyP f n
  | 0 => Nat.zero_lt_one
  | n + 1 => by
    rw [cyP]
    refine Nat.mul_pos (cyP_pos f n) ?_
    have := cyL_le f n
    split <;> omega
theorem ordL_32 {f : Nat → Nat} (h : Bij f) : ordL f 32 ≤ 1000000 := by
  have h1 : ordL f 32 ∣ cyP f 32 := (ordL_dvd f _ 32).mpr (fun i hi => by
    have hr := rep_low h hi
    rw [← hr.2.2]
    exact cyP_dvd f hr.1 hr.2.1)
  have h2 : ordL f 32 ≤ cyP f 32 := Nat.le_of_dvd (cyP_pos f 32) h1
  have h3 : cyS f 32 ≤ 32 := Nat.le_trans (cyS_le h (Nat.le_refl 32)) (cnt_le _ 32)
  have h4 := cyP_cube f 32
  have h5 : 3 ^ cyS f 32 ≤ 3 ^ 32 := Nat.pow_le_pow_right (by decide) h3
  refine Nat.le_trans h2 (Nat.not_lt.mp fun q => ?_)
  have h6 : 1000000 * 1000000 * 1000000 ≤ cyP f 32 * cyP f 32 * cyP f 32 := Nat.mul_le_mul (Nat.mul_le_mul (by omega) (by omega)) (by omega)
  have h7 : 3 ^ 32 < 1000000 * 1000000 * 1000000 := by decide
  omega
theorem ordL_le {f : Nat → Nat} (h : Bij f) {n : Nat} (hn : n ≤ 32) : ordL f n ≤ 1000000 := by
  have h1 : ordL f n ∣ ordL f 32 := (ordL_dvd f _ n).mpr (fun i hi => (ordL_dvd f _ 32).mp (Nat.dvd_refl _) i (by omega))
  exact Nat.le_trans (Nat.le_of_dvd (ordL_pos f 32) h1) (ordL_32 h)
theorem ord_by {f : Nat → Nat} (h : Bij f) {m : Nat} (h1 : 1 ≤ m) (h2 : m ≤ 1000000) (hL : ∀ z, 1 ≤ z → z < m → ¬ ∀ k, k < 32 → iter f z k = k) (he : (∀ k, k < 32 → iter f m k = k) ∨ m = 1000000) : ordL f 32 = m := by
  have h0 := ordL_pos f 32
  have hi : ∀ k, k < 32 → iter f (ordL f 32) k = k := (ordL_iter h _).mpr (Nat.dvd_refl _)
  have h3 : m ≤ ordL f 32 := Nat.not_lt.mp fun q => hL _ h0 q hi
  rcases he with he | he
  · have := Nat.le_of_dvd (by omega) ((ordL_iter h m).mp he)
    omega
  · have := ordL_32 h
    omega
def evC (f : Nat → Nat) : Bool := decide ((32 - cnt (lowB f) 32) % 2 = 0)
theorem evC_by {f : Nat → Nat} : evC f = true ↔ (32 - cnt (fun s => lowB f s && decide (1 ≤ cyL f s)) 32) % 2 = 0 := by
  rw [show cnt (fun s => lowB f s && decide (1 ≤ cyL f s)) 32 = cnt (lowB f) 32 from cnt_cong (fun k _ => by rw [decide_eq_true (cyL_le f k).1, Bool.and_true])]
  unfold evC
  exact decide_eq_true_iff
theorem cnt_z {p : Nat → Bool} : ∀ {n : Nat}, (∀ k, k < n → p k = false) → cnt p n = 0
  | 0, _ => rfl
  | n + 1, h => by rw [cnt_1, cnt_z (fun k hk => h k (by omega)), h n (by omega)]; rfl
/-- the pairs that a permutation turns round -/
def invN (f : Nat → Nat) : Nat → Nat
  | 0 => 0
  | n + 1 => invN f n + cnt (fun h => decide (n < h) && decide (f h < f n)) 32
section MX
variable {g : GP} {M : MI} {R : Room} {Q : QT} {k n pc : Nat} {w : va_W} {l : List (Option Value)} {st : List Value}
theorem J.maxN {idx a b : Nat} (f : Cond.methodLink M.1 idx Lib.Math.max.name ∈ BIG) (f2 : Cond.static Lib.Math.max.name ∈ BIG) (f3 : Cond.initialized "java/lang/Math" ∈ BIG) (f4 : Cond.code Lib.Math.max.name Lib.Math.max.code 2 (some .int) ∈ BIG) (ha : a < 2147483648) (hb : b < 2147483648) (hf : 1 ≤ R.frames) (hR : (st.map fun v => v.category).sum + 13 ≤ R.locals) (hc : k ≤ R.cells) (hs : n ≤ R.slots)
    (d : decode M.2.1 pc = .ok (.invokestatic idx, 3)) (K : J g M R Q k n w (pc + 3) l (.int (nI (max a b)) :: st)) : J g M R Q k n w pc l (.int (nI b) :: .int (nI a) :: st) := by
  have e : (if nI a < nI b then nI b else nI a) = nI (max a b) := by
    by_cases h : a < b
    · rw [if_pos ((nI_ltI ha hb).mpr h), Nat.max_eq_right (by omega)]
    · rw [if_neg (fun q => h ((nI_ltI ha hb).mp q)), Nat.max_eq_left (by omega)]
  rw [← e] at K
  exact fun p ln e s m args below meth c C H locs ls hw hS hl => va_mmax C.1 C.2.1 (C.2.2.1.trans hl.1.symm) C.2.2.2.2.1 (C.2.2.2.2.2.1 _ f) (C.2.2.2.2.2.1 _ f2) (C.2.2.2.2.2.1 _ f3) (C.2.2.2.2.2.1 _ f4) hf hR hc hs d (K p ln e s m args below meth c C H locs ls hw hS hl)
end MX
