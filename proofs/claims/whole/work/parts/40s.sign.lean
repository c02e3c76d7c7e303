/-! ===== the sign of a permutation: its pairs and its cycles ===== -/
theorem sumU_add {f g : Nat → Nat} : ∀ {n : Nat}, sumU (fun k => f k + g k) n = sumU f n + sumU g n
  | 0 => rfl
  | n + 1 => by rw [sumU_1, sumU_1, sumU_1, sumU_add (n := n)]; omega
theorem sumU_mod {f g : Nat → Nat} : ∀ {n : Nat}, (∀ k, k < n → f k % 2 = g k % 2) → sumU f n % 2 = sumU g n % 2
  | 0, _ => rfl
  | n + 1, h => by
    have h1 := sumU_mod (f := f) (g := g) (n := n) (fun k hk => h k (by omega))
    have h2 := h n (by omega)
    rw [sumU_1, sumU_1]; omega
/-- a row with p and q left out -/
def offS (p q : Nat) (g : Nat → Nat) : Nat → Nat := fun i => if i = p then 0 else if i = q then 0 else g i
theorem offS_sum {p q N : Nat} {g : Nat → Nat} (hp : p < N) (hq : q < N) (hn : p ≠ q) : sumU g N = sumU (offS p q g) N + g p + g q := by
  rw [sumU_ex (g := g) hq, sumU_ex (g := fun i => if i = q then 0 else g i) hp, if_neg hn]
  rfl
/-- all pairs of a square, by the two taken out -/
theorem sq_off {p q N : Nat} {g : Nat → Nat → Nat} (hp : p < N) (hq : q < N) (hn : p ≠ q) :
    sumU (fun i => sumU (g i) N) N = sumU (offS p q fun i => sumU (offS p q (g i)) N) N + sumU (offS p q fun i => g i p + g i q + g p i + g q i) N + (g p p + g p q + g q p + g q q) := by
  rw [offS_sum (g := fun i => sumU (g i) N) hp hq hn, offS_sum (g := g p) hp hq hn, offS_sum (g := g q) hp hq hn]
  have e : sumU (offS p q fun i => sumU (g i) N) N = sumU (offS p q fun i => sumU (offS p q (g i)) N) N + sumU (offS p q fun i => g i p + g i q) N := by
    rw [← sumU_add]
    refine sumU_cong (fun k _ => ?_)
    unfold offS
    by_cases e1 : k = p
    · rw [if_pos e1, if_pos e1, if_pos e1]
    · by_cases e2 : k = q
      · rw [if_neg e1, if_neg e1, if_neg e1, if_pos e2, if_pos e2, if_pos e2]
      · rw [if_neg e1, if_neg e1, if_neg e1, if_neg e2, if_neg e2, if_neg e2]
        have := offS_sum (g := g k) hp hq hn
        show sumU (g k) N = sumU (offS p q (g k)) N + (g k p + g k q)
        omega
  have e2 : sumU (offS p q fun i => g i p + g i q + g p i + g q i) N = sumU (offS p q fun i => g i p + g i q) N + (sumU (offS p q (g p)) N + sumU (offS p q (g q)) N) := by
    rw [← sumU_add, ← sumU_add]
    refine sumU_cong (fun k _ => ?_)
    unfold offS
    split
    · rfl
    · split
      · rfl
      · show g k p + g k q + g p k + g q k = g k p + g k q + (g p k + g q k)
        omega
  rw [e, e2]
  omega
theorem cnt_sum {p : Nat → Bool} : ∀ {n : Nat}, cnt p n = sumU (fun k => if p k = true then 1 else 0) n
  | 0 => rfl
  | n + 1 => by rw [cnt_1, sumU_1, cnt_sum (n := n)]
/-- whether the pair (i, j) is turned round -/
def invD (f : Nat → Nat) (i j : Nat) : Nat := if i < j ∧ f j < f i then 1 else 0
theorem invN_sum {f : Nat → Nat} : ∀ {n : Nat}, invN f n = sumU (fun i => sumU (invD f i) 32) n
  | 0 => rfl
  | n + 1 => by
    rw [sumU_1, ← invN_sum (n := n), invN, cnt_sum]
    refine congrArg (invN f n + ·) (sumU_cong (fun k _ => ?_))
    show (if (decide (n < k) && decide (f k < f n)) = true then 1 else 0) = if n < k ∧ f k < f n then 1 else 0
    by_cases h : n < k ∧ f k < f n
    · rw [if_pos h, if_pos (by rw [decide_eq_true h.1, decide_eq_true h.2]; rfl)]
    · rw [if_neg h, if_neg (by rw [Bool.and_eq_true, decide_eq_true_eq, decide_eq_true_eq]; exact h)]
/-- the parity of the pairs turns when the largest moved slot is cut out -/
theorem inv_cut {f : Nat → Nat} {n p : Nat} (h : Bij f) (hn : n < 32) (hp : p < n) (hf : f p = n) (hb : f n < n) : invN f 32 % 2 = (invN (cut f n) 32 + 1) % 2 := by
  have c1 : cut f n p = f n := by unfold cut; rw [if_neg (by omega), if_pos hf]
  have c2 : cut f n n = n := by unfold cut; rw [if_pos rfl]
  have c3 : ∀ k, k < 32 → k ≠ p → k ≠ n → cut f n k = f k := fun k hk h1 h2 => by
    unfold cut; rw [if_neg h2, if_neg (fun q => h1 (h.2 k p hk (by omega) (q.trans hf.symm)))]
  rw [invN_sum, invN_sum, sq_off (g := invD f) (show p < 32 by omega) hn (by omega), sq_off (g := invD (cut f n)) (show p < 32 by omega) hn (by omega)]
  have e1 : sumU (offS p n fun i => sumU (offS p n (invD f i)) 32) 32 = sumU (offS p n fun i => sumU (offS p n (invD (cut f n) i)) 32) 32 := by
    refine sumU_cong (fun i hi => ?_)
    unfold offS
    by_cases q1 : i = p
    · rw [if_pos q1, if_pos q1]
    · by_cases q2 : i = n
      · rw [if_neg q1, if_neg q1, if_pos q2, if_pos q2]
      · rw [if_neg q1, if_neg q1, if_neg q2, if_neg q2]
        refine sumU_cong (fun j hj => ?_)
        by_cases q3 : j = p
        · rw [if_pos q3, if_pos q3]
        · by_cases q4 : j = n
          · rw [if_neg q3, if_neg q3, if_pos q4, if_pos q4]
          · rw [if_neg q3, if_neg q3, if_neg q4, if_neg q4]
            unfold invD
            rw [c3 i hi q1 q2, c3 j hj q3 q4]
  have e2 : sumU (offS p n fun i => invD f i p + invD f i n + invD f p i + invD f n i) 32 % 2 = sumU (offS p n fun i => invD (cut f n) i p + invD (cut f n) i n + invD (cut f n) p i + invD (cut f n) n i) 32 % 2 := by
    refine sumU_mod (fun i hi => ?_)
    unfold offS
    by_cases q1 : i = p
    · rw [if_pos q1, if_pos q1]
    · by_cases q2 : i = n
      · rw [if_neg q1, if_neg q1, if_pos q2, if_pos q2]
      · rw [if_neg q1, if_neg q1, if_neg q2, if_neg q2]
        show (invD f i p + invD f i n + invD f p i + invD f n i) % 2 = (invD (cut f n) i p + invD (cut f n) i n + invD (cut f n) p i + invD (cut f n) n i) % 2
        unfold invD
        rw [c1, c2, c3 i hi q1 q2, hf]
        have n1 : f i ≠ n := fun q => q1 (h.2 i p hi (by omega) (q.trans hf.symm))
        have n2 : f i ≠ f n := fun q => q2 (h.2 i n hi hn q)
        generalize f i = v at n1 n2
        generalize f n = b at n2 hb
        by_cases a1 : i < p <;> by_cases a2 : i < n <;> by_cases a3 : v < n <;> by_cases a4 : v < b <;>
          simp only [a1, a2, a3, a4, show (p < i) = (¬ i < p) from propext (by omega), show (n < i) = (¬ i < n) from propext (by omega), show (n < v) = (¬ v < n) from propext (by omega), show (b < v) = (¬ v < b) from propext (by omega), true_and, false_and, and_true, and_false, not_true, not_false_iff, if_true, if_false] <;> omega
  have e3 : invD f p p + invD f p n + invD f n p + invD f n n = 1 := by
    unfold invD
    rw [if_neg (by omega), if_pos (by omega), if_neg (by omega), if_neg (by omega)]
  have e4 : invD (cut f n) p p + invD (cut f n) p n + invD (cut f n) n p + invD (cut f n) n n = 0 := by
    unfold invD
    rw [c1, c2, if_neg (by omega), if_neg (by omega), if_neg (by omega), if_neg (by omega)]
  rw [e1, e3, e4]
  omega
theorem cut_bij {f : Nat → Nat} {n : Nat} (h : Bij f) (hn : n < 32) (hb : f n < n) : Bij (cut f n) := by
  refine ⟨fun k hk => ?_, fun a b ha hb' e => ?_⟩
  · unfold cut
    split
    · exact hn
    · split
      · omega
      · exact h.1 k hk
  · unfold cut at e
    by_cases a1 : a = n
    · rw [if_pos a1] at e
      by_cases b1 : b = n
      · exact a1.trans b1.symm
      · rw [if_neg b1] at e
        by_cases b2 : f b = n
        · rw [if_pos b2] at e; omega
        · rw [if_neg b2] at e; exact absurd e.symm b2
    · rw [if_neg a1] at e
      by_cases b1 : b = n
      · rw [if_pos b1] at e
        by_cases a2 : f a = n
        · rw [if_pos a2] at e; omega
        · rw [if_neg a2] at e; exact absurd e a2
      · rw [if_neg b1] at e
        by_cases a2 : f a = n
        · by_cases b2 : f b = n
          · exact h.2 a b ha hb' (a2.trans b2.symm)
          · rw [if_pos a2, if_neg b2] at e
            exact absurd (h.2 n b hn hb' e) (Ne.symm b1)
        · by_cases b2 : f b = n
          · rw [if_neg a2, if_pos b2] at e
            exact absurd (h.2 a n ha hn e) a1
          · rw [if_neg a2, if_neg b2] at e
            exact h.2 a b ha hb' e
theorem cut_1 {f : Nat → Nat} {n x : Nat} (h : x ≠ n) (q : f x = n) : cut f n x = f n := by unfold cut; rw [if_neg h, if_pos q]
theorem cut_2 {f : Nat → Nat} {n x : Nat} (h : x ≠ n) (q : f x ≠ n) : cut f n x = f x := by unfold cut; rw [if_neg h, if_neg q]
theorem cut_a {f : Nat → Nat} {n k : Nat} (hb : f n ≠ n) (hk : k ≠ n) : ∀ m, ∃ m', iter (cut f n) m k = iter f m' k ∧ iter (cut f n) m k ≠ n
  | 0 => ⟨0, rfl, hk⟩
  | m + 1 => by
    obtain ⟨m', e, hne⟩ := cut_a hb hk m
    rw [iter_1]
    by_cases q : f (iter (cut f n) m k) = n
    · refine ⟨m' + 2, ?_, ?_⟩
      · rw [cut_1 hne q, iter_1, iter_1, ← e, q]
      · rw [cut_1 hne q]; exact hb
    · refine ⟨m' + 1, ?_, ?_⟩
      · rw [cut_2 hne q, iter_1, ← e]
      · rw [cut_2 hne q]; exact q
theorem cut_b {f : Nat → Nat} {n k : Nat} (hb : f n ≠ n) (hk : k ≠ n) : ∀ m, (∃ m', iter f m k = iter (cut f n) m' k ∧ iter f m k ≠ n) ∨ (iter f m k = n ∧ ∃ m', f n = iter (cut f n) m' k)
  | 0 => Or.inl ⟨0, rfl, hk⟩
  | m + 1 => by
    rcases cut_b hb hk m with ⟨m', e, hne⟩ | ⟨e, m', e2⟩
    · by_cases q : f (iter f m k) = n
      · refine Or.inr ⟨q, m' + 1, ?_⟩
        rw [iter_1, ← e]; exact (cut_1 hne q).symm
      · refine Or.inl ⟨m' + 1, ?_, q⟩
        rw [iter_1, iter_1, ← e]; exact (cut_2 hne q).symm
    · refine Or.inl ⟨m', ?_, ?_⟩
      · rw [iter_1, e]; exact e2
      · rw [iter_1, e]; exact hb
theorem iter_fx {f : Nat → Nat} {k : Nat} (h : f k = k) : ∀ m, iter f m k = k
  | 0 => rfl
  | m + 1 => by rw [iter_1, iter_fx h m, h]
theorem low_cut {f : Nat → Nat} {n k : Nat} (h : Bij f) (hn : n < 32) (hb : f n < n) (hF : ∀ i, n < i → i < 32 → f i = i) (hk : k < 32) (hkn : k ≠ n) : lowB (cut f n) k = lowB f k := by
  have hc := cut_bij h hn hb
  rw [Bool.eq_iff_iff, low_all hc hk, low_all h hk]
  constructor
  · intro q m
    rcases cut_b (f := f) (n := n) (by omega) hkn m with ⟨m', e, -⟩ | ⟨e, -⟩
    · rw [e]; exact q m'
    · by_cases z : k < n
      · omega
      · rw [iter_fx (hF k (by omega) hk)]; exact Nat.le_refl k
  · intro q m
    obtain ⟨m', e, -⟩ := cut_a (f := f) (n := n) (by omega) hkn m
    rw [e]; exact q m'
theorem cnt_ex {p q : Nat → Bool} {n : Nat} (h1 : p n = false) (h2 : q n = true) : ∀ {N : Nat}, (∀ k, k < N → k ≠ n → q k = p k) → cnt q N = cnt p N + if n < N then 1 else 0
  | 0, _ => rfl
  | N + 1, h => by
    rw [cnt_1, cnt_1, cnt_ex h1 h2 (fun k hk => h k (by omega))]
    by_cases e : n = N
    · subst e
      rw [h1, h2, if_neg (show ¬ n < n by omega), if_pos rfl, if_neg (by decide), if_pos (show n < n + 1 by omega)]
    · rw [h N (by omega) (Ne.symm e)]
      by_cases z : n < N
      · rw [if_pos z, if_pos (show n < N + 1 by omega)]; omega
      · rw [if_neg z, if_neg (show ¬ n < N + 1 by omega)]; omega
theorem sign_n : ∀ (n : Nat) {f : Nat → Nat}, n ≤ 32 → Bij f → (∀ k, n ≤ k → k < 32 → f k = k) → (invN f 32 + cnt (lowB f) 32) % 2 = 0
  | 0, f, _, h, hF => by
    have e1 : invN f 32 = 0 := by
      rw [invN_sum, sumU_cong (g := fun _ => 0) (fun i hi => by
        rw [sumU_cong (g := fun _ => 0) (fun j hj => by
          unfold invD; rw [hF i (by omega) hi, hF j (by omega) hj, if_neg (by omega)])]
        rfl)]
      rfl
    have e2 : cnt (lowB f) 32 = 32 := by
      rw [cnt_cong (q := fun _ => true) (fun k hk => (low_all h hk).mpr fun z => by rw [iter_fx (hF k (by omega) hk)]; exact Nat.le_refl k)]
      rfl
    rw [e1, e2]
  | n + 1, f, hn, h, hF => by
    by_cases e : f n = n
    · refine sign_n n (by omega) h (fun k h1 h2 => ?_)
      by_cases q : k = n
      · rw [q]; exact e
      · exact hF k (by omega) h2
    · have hb : f n < n := by
        have h1 := h.1 n (by omega)
        by_cases z : f n < n + 1
        · omega
        · have := h.2 (f n) n h1 (by omega) (hF (f n) (by omega) h1)
          exact absurd this e
      obtain ⟨p, hp, hp2⟩ := ph_onto h.1 h.2 (show n < 32 by omega)
      have hpn : p < n := by
        have q1 : p ≠ n := fun q => e (by rw [q] at hp2; exact hp2)
        by_cases z : p < n + 1
        · omega
        · have := hF p (by omega) hp; omega
      have hF' : ∀ i, n < i → i < 32 → f i = i := fun i h1 h2 => hF i (by omega) h2
      have ih := sign_n n (f := cut f n) (by omega) (cut_bij h (by omega) hb) (fun k h1 h2 => by
        unfold cut
        by_cases q : k = n
        · rw [if_pos q, q]
        · rw [if_neg q, if_neg (by rw [hF' k (by omega) h2]; exact q), hF' k (by omega) h2])
      have i1 := inv_cut h (show n < 32 by omega) hpn hp2 hb
      have i2 := cnt_ex (p := lowB f) (q := lowB (cut f n)) (n := n) (low_no (m := 1) (by omega) hb)
        ((low_all (cut_bij h (by omega) hb) (show n < 32 by omega)).mpr fun z => by
          rw [iter_fx (show cut f n n = n by unfold cut; rw [if_pos rfl])]; exact Nat.le_refl n)
        (N := 32) (fun k hk hkn => low_cut h (by omega) hb hF' hk hkn)
      rw [if_pos (by omega)] at i2
      omega
/-- the pairs and the cycles agree -/
theorem sign_eq {f : Nat → Nat} (h : Bij f) : invN f 32 % 2 = 0 ↔ evC f = true := by
  have h1 := sign_n 32 (Nat.le_refl 32) h (fun k h1 h2 => by omega)
  have h2 := cnt_le (lowB f) 32
  unfold evC
  rw [decide_eq_true_iff]
  omega
