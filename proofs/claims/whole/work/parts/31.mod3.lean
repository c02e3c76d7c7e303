/-! ===== the model: numbers ===== -/
theorem low_m {f : Nat → Nat} (h : Bij f) {i m : Nat} (hi : i < 32) (hm : cyL f i = m + 1) : (allU (fun z => decide (i < iter f (z + 1) i)) m = true) ↔ lowB f i = true := by
  have hs := cyL_spec h hi
  rw [low_all h hi, allU_iff]
  constructor
  · intro q z
    have e := iter_mod hs.1 z
    rw [e]
    have hl := Nat.mod_lt z (show 0 < cyL f i by omega)
    rcases Nat.eq_zero_or_pos (z % cyL f i) with h0 | h0
    · rw [h0]; exact Nat.le_refl _
    · have := of_decide_eq_true (q (z % cyL f i - 1) (by omega))
      rw [show z % cyL f i - 1 + 1 = z % cyL f i by omega] at this
      omega
  · intro q z hz
    refine decide_eq_true ?_
    have h1 := q (z + 1)
    have h2 := hs.2 (z + 1) (by omega) (by omega)
    omega
theorem apart_eq {a b v : Nat} (ha : a < 32) (hb : b < 32) (h : (a = b ∧ v = 0) ∨ (a ≠ b ∧ (a / 8 = b / 8 ∨ a % 8 = b % 8) ∧ v = 1) ∨ (a ≠ b ∧ a / 8 ≠ b / 8 ∧ a % 8 ≠ b % 8 ∧ v = 2)) : v = apart a b := by
  unfold apart
  by_cases c1 : a % 8 = b % 8
  · by_cases c2 : a / 8 = b / 8
    · rw [if_pos c1, if_pos c2]; omega
    · rw [if_pos c1, if_neg c2]; omega
  · by_cases c2 : a / 8 = b / 8
    · rw [if_neg c1, if_pos c2]; omega
    · rw [if_neg c1, if_neg c2]; omega
theorem seam_right {k : Nat} (hk : k < 32) : rightOf k = if k % 8 = 7 then k - 7 else k + 1 := by
  unfold rightOf
  by_cases c : k % 8 = 7
  · rw [if_pos c]; omega
  · rw [if_neg c]; omega
theorem one_step {h : Nat → Nat} {r c : Nat} : allU (fun k => decide (h (8 * r + (k + 1)) = h (8 * r))) (c + 1) = (allU (fun k => decide (h (8 * r + (k + 1)) = h (8 * r))) c && decide (h (8 * r + (c + 1)) = h (8 * r))) := rfl
theorem one_eq {h : Nat → Nat} {r : Nat} : allU (fun k => decide (h (8 * r + (k + 1)) = h (8 * r))) 7 = oneB h r := by
  unfold oneB
  have e1 := allU_iff (p := fun k => decide (h (8 * r + (k + 1)) = h (8 * r))) (n := 7)
  have e2 := allU_iff (p := fun k => decide (h (r * 8 + k) = h (r * 8))) (n := 8)
  rw [Nat.mul_comm r 8] at e2 ⊢
  cases c : allU (fun k => decide (h (8 * r + k) = h (8 * r))) 8 with
  | true =>
    refine e1.mpr (fun k hk => ?_)
    exact e2.mp c (k + 1) (by omega)
  | false =>
    cases c2 : allU (fun k => decide (h (8 * r + (k + 1)) = h (8 * r))) 7 with
    | false => rfl
    | true =>
      have : allU (fun k => decide (h (8 * r + k) = h (8 * r))) 8 = true := e2.mpr (fun k hk => by
        cases k with
        | zero => exact decide_eq_true rfl
        | succ k => exact e1.mp c2 k (by omega))
      rw [c] at this; cases this
theorem lcm_c {a b : Nat} (_ : 0 < a) (hb : 0 < b) : a / Nat.gcd a b * b = Nat.lcm a b := (lcm_by rfl (Nat.gcd_pos_of_pos_right a hb)).symm
theorem TxM.add {μ : Mem} {q k a : Nat} {T : TX} (h : TxM μ q k T) (hq : q ≠ 237) (ha : a < 65536) : TxM (wr (wr μ q T.1 (nI a)) 237 k (nI (T.1 + 1))) q k (tP a T) := by
  refine ⟨wr_s, fun i hi => ?_⟩
  have hi2 : i < T.1 + 1 := hi
  rw [wr_o hq]
  show wr μ q T.1 (nI a) q i = nI (if i = T.1 then a else T.2 i) ∧ (if i = T.1 then a else T.2 i) < 65536
  by_cases e : i = T.1
  · subst e; rw [wr_s, if_pos rfl]; exact ⟨rfl, ha⟩
  · rw [wr_n (Or.inr e), if_neg e]; exact h.2 i (by omega)
theorem tN_1 {a : Nat} {T : TX} (h : a < 10) : tP (48 + a % 10) T = tN a T := by
  show (T.1 + 1, putT T.2 T.1 (48 + a % 10)) = (T.1 + numW a, numF T.2 T.1 a)
  unfold numW numF
  rw [if_pos h, if_pos h]
theorem tN_2 {a : Nat} {T : TX} (h : 10 ≤ a) (h2 : a < 100) : tP (48 + a % 10) (tN (a / 10) T) = tN a T := by
  rw [← tN_1 (show a / 10 < 10 by omega)]
  show (T.1 + 1 + 1, putT (putT T.2 T.1 (48 + a / 10 % 10)) (T.1 + 1) (48 + a % 10)) = (T.1 + numW a, numF T.2 T.1 a)
  unfold numW numF
  rw [if_neg (by omega), if_neg (by omega), show a / 10 % 10 = a / 10 by omega]
/-! sums over a permutation -/
theorem sumU_ex {g : Nat → Nat} {p : Nat} : ∀ {n : Nat}, p < n → sumU g n = sumU (fun i => if i = p then 0 else g i) n + g p
  | n + 1, h => by
    rw [sumU_1, sumU_1]
    by_cases e : p = n
    · subst e
      rw [if_pos rfl, sumU_cong (f := fun i => if i = p then 0 else g i) (g := g) (fun k hk => if_neg (by omega))]
      omega
    · rw [if_neg (Ne.symm e), sumU_ex (p := p) (n := n) (by omega)]
      omega
/-- f with n taken out of its cycle -/
def cut (f : Nat → Nat) (n : Nat) : Nat → Nat := fun k => if k = n then n else if f k = n then f n else f k
theorem sumU_perm {g : Nat → Nat} : ∀ {n : Nat} {f : Nat → Nat}, (∀ k, k < n → f k < n) → (∀ a b, a < n → b < n → f a = f b → a = b) → sumU (fun k => g (f k)) n = sumU g n
  | 0, _, _, _ => rfl
  | n + 1, f, h1, h2 => by
    have c1 : ∀ k, k < n → cut f n k < n := fun k hk => by
      unfold cut
      rw [if_neg (by omega)]
      by_cases e : f k = n
      · rw [if_pos e]
        have h3 := h1 n (by omega)
        have h4 : f n ≠ n := fun q => by have := h2 k n (by omega) (by omega) (e.trans q.symm); omega
        omega
      · rw [if_neg e]; have := h1 k (by omega); omega
    have c2 : ∀ a b, a < n → b < n → cut f n a = cut f n b → a = b := fun a b ha hb e => by
      unfold cut at e
      rw [if_neg (show ¬ a = n by omega), if_neg (show ¬ b = n by omega)] at e
      by_cases ea : f a = n
      · by_cases eb : f b = n
        · exact h2 a b (by omega) (by omega) (ea.trans eb.symm)
        · rw [if_pos ea, if_neg eb] at e
          have := h2 n b (by omega) (by omega) e; omega
      · by_cases eb : f b = n
        · rw [if_neg ea, if_pos eb] at e
          have := h2 a n (by omega) (by omega) e; omega
        · rw [if_neg ea, if_neg eb] at e
          exact h2 a b (by omega) (by omega) e
    have ih := sumU_perm (g := g) c1 c2
    rw [sumU_1, sumU_1, ← ih]
    by_cases e : f n = n
    · rw [e]
      rw [sumU_cong (f := fun k => g (f k)) (g := fun k => g (cut f n k)) (fun k hk => by
        have hne : f k ≠ n := fun q => by have := h2 k n (by omega) (by omega) (q.trans e.symm); omega
        show g (f k) = g (cut f n k)
        unfold cut; rw [if_neg (by omega), if_neg hne])]
    · obtain ⟨p, hp, hp2⟩ := ph_onto h1 h2 (show n < n + 1 by omega)
      have hpn : p < n := by
        have : p ≠ n := fun q => e (by rw [← q]; rw [q]; rw [q] at hp2; exact hp2)
        omega
      rw [sumU_ex (g := fun k => g (f k)) hpn, sumU_ex (g := fun k => g (cut f n k)) hpn]
      have e1 : cut f n p = f n := by unfold cut; rw [if_neg (by omega), if_pos hp2]
      rw [e1, hp2, sumU_cong (f := fun i => if i = p then 0 else g (f i)) (g := fun i => if i = p then 0 else g (cut f n i)) (fun k hk => by
        by_cases q : k = p
        · rw [if_pos q, if_pos q]
        · rw [if_neg q, if_neg q]
          have hne : f k ≠ n := fun z => q (h2 k p (by omega) (by omega) (z.trans hp2.symm))
          unfold cut; rw [if_neg (by omega), if_neg hne])]
      omega
theorem apart_sum {f : Nat → Nat} (h : Bij f) : sumU (fun k => apart (pinv f k) k) 32 = sumU (fun k => apart k (f k)) 32 := by
  rw [← sumU_perm (g := fun k => apart (pinv f k) k) h.1 h.2]
  exact sumU_cong (fun k hk => by rw [h.inv2 hk])
theorem moved_cy {f : Nat → Nat} (h : Bij f) {s : Nat} (hs : s < 32) : (1 < cyL f s) ↔ f s ≠ s := by
  constructor
  · intro q e
    have : cyL f s = 1 := cyL_eq (by omega) (by omega) (fun z h1 h2 => absurd h1 (by omega)) (Or.inl e)
    omega
  · intro q
    have := cyL_two h hs q
    omega
def mx0 (f : Nat → Nat) : Nat → Nat
  | 0 => 0
  | n + 1 => max (mx0 f n) (f n)
theorem mx_eq {f : Nat → Nat} (h : ∀ k, 1 ≤ f k) : ∀ n, mxU f (n + 1) = mx0 f (n + 1)
  | 0 => by
    show max 1 (f 0) = max 0 (f 0)
    have := h 0
    omega
  | n + 1 => by
    show max (mxU f (n + 1)) (f (n + 1)) = max (mx0 f (n + 1)) (f (n + 1))
    rw [mx_eq h n]
theorem sub8 {k : Nat} (h1 : 7 ≤ k) (h2 : k < 32) : nI k - nI 8 + nI 1 = nI (k - 7) := by
  have key : ∀ k, k < 32 → 7 ≤ k → nI k - nI 8 + nI 1 = nI (k - 7) := by decide +kernel
  exact key k h2 h1
