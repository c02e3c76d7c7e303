/-! ===== the model: steps ===== -/
def KT (μ' μ : Mem) : Prop := ∀ o k, o ≠ 238 → o ≠ 242 → o ≠ 243 → o ≠ 244 → (o ≠ 237 ∨ k ≠ 11) → μ' o k = μ o k
theorem KT.rf {μ : Mem} : KT μ μ := fun _ _ _ _ _ _ _ => rfl
theorem KT.ks {μ' μ : Mem} (h : KT μ' μ) : KS μ' μ := fun o k a b c d e => h o k a b c d (by omega)
theorem KT.trans {μ2 μ1 μ : Mem} (h2 : KT μ2 μ1) (h1 : KT μ1 μ) : KT μ2 μ := fun o k a b c d e => (h2 o k a b c d e).trans (h1 o k a b c d e)
theorem KT.wrx {μ1 μ : Mem} {o k : Nat} {v : Int32} (h : KT μ1 μ) (ho : o = 238 ∨ o = 242 ∨ o = 243 ∨ o = 244 ∨ (o = 237 ∧ k = 11)) : KT (wr μ1 o k v) μ := fun o' k' a b c d e => (wr_n (by omega)).trans (h o' k' a b c d e)
theorem PF.kt {μ' μ : Mem} {r : Nat} (h : PF μ' μ r) : KT μ' μ := fun o k a b c _ e => h.2.2 o k b c e
theorem KP.fld {μ μ0 : Mem} {i : Nat} {v : Int32} (h : KP μ μ0) : KP (wr μ 237 i v) (wr μ0 237 i v) := by
  refine ⟨fun k hk => by rw [wr_o (by omega), wr_o (by omega)]; exact h.1 k hk, fun o k a b c d e q => ?_⟩
  by_cases z : o = 237 ∧ k = i
  · obtain ⟨rfl, rfl⟩ := z; rw [wr_s, wr_s]
  · rw [wr_n (by omega), wr_n (by omega)]; exact h.2 o k a b c d e q
theorem MR.ref {μ : Mem} {α : A7} {a d : Nat} (h : MR μ α) (h1 : 1 ≤ a) (h2 : a < 2147483648) : MR (wr (wr μ 237 7 (nI a)) 237 8 (nI d)) (aRef a d α) := by
  obtain ⟨g1, g2, g3, g4, g5, g6, g7, g8, g9, g10⟩ := h
  have e : ∀ o, o ≠ 237 → wr (wr μ 237 7 (nI a)) 237 8 (nI d) o = μ o := fun o ho => by rw [wr_o ho, wr_o ho]
  have f : ∀ k, k ≠ 7 → k ≠ 8 → wr (wr μ 237 7 (nI a)) 237 8 (nI d) 237 k = μ 237 k := fun k u v => by rw [wr_n (Or.inr v), wr_n (Or.inr u)]
  exact ⟨g1.off (e _ (by decide)), g2.eq (f 5 (by decide) (by decide)) (e _ (by decide)), (f 3 (by decide) (by decide)).trans g3, fun hb => (g4 hb).off (e _ (by decide)), g5.eq (f 14 (by decide) (by decide)) (e _ (by decide)), g6, g7.eq (f 19 (by decide) (by decide)) (e _ (by decide)), g8, g9.eq (f 17 (by decide) (by decide)), ⟨(wr_n (Or.inr (by decide))).trans wr_s, wr_s, h1, h2⟩⟩
theorem MR.inp {μ' μ : Mem} {α : A7} {T : TX} (h : MR μ α) (hT : TxM μ' 245 14 T) (hl : T.1 ≤ 60) (hO : ∀ o k, o ≠ 245 → (o ≠ 237 ∨ k ≠ 14) → μ' o k = μ o k) : MR μ' (aInp T α) := by
  obtain ⟨g1, g2, g3, g4, g5, g6, g7, g8, g9, g10⟩ := h
  have e : ∀ o, o ≠ 237 → o ≠ 245 → μ' o = μ o := fun o h1 h2 => funext fun k => hO o k h2 (Or.inl h1)
  have f : ∀ k, k ≠ 14 → μ' 237 k = μ 237 k := fun k u => hO 237 k (by decide) (Or.inr u)
  exact ⟨g1.off (e _ (by decide) (by decide)), g2.eq (f 5 (by decide)) (e _ (by decide) (by decide)), (f 3 (by decide)).trans g3, fun hb => (g4 hb).off (e _ (by decide) (by decide)), hT, hl, g7.eq (f 19 (by decide)) (e _ (by decide) (by decide)), g8, g9.eq (f 17 (by decide)), g10.eq (f 7 (by decide)) (f 8 (by decide))⟩
theorem MR.noI {μ : Mem} {α : A7} (h : MR μ α) : MR (wr μ 237 14 (nI 0)) (aNoI α) :=
  h.inp ⟨wr_s, fun k hk => absurd hk (Nat.not_lt_zero k)⟩ (Nat.zero_le _) (fun o k h1 h2 => wr_n (by omega))
theorem MR.lin {μ' μ : Mem} {α : A7} {T : TX} (h : MR μ α) (hT : TxM μ' 246 19 T) (hl : T.1 ≤ 120) (hO : ∀ o k, o ≠ 246 → (o ≠ 237 ∨ (k ≠ 19 ∧ k ≠ 6)) → μ' o k = μ o k) : MR μ' (aLin T α) := by
  obtain ⟨g1, g2, g3, g4, g5, g6, g7, g8, g9, g10⟩ := h
  have e : ∀ o, o ≠ 237 → o ≠ 246 → μ' o = μ o := fun o h1 h2 => funext fun k => hO o k h2 (Or.inl h1)
  have f : ∀ k, k ≠ 19 → k ≠ 6 → μ' 237 k = μ 237 k := fun k u v => hO 237 k (by decide) (Or.inr ⟨u, v⟩)
  exact ⟨g1.off (e _ (by decide) (by decide)), g2.eq (f 5 (by decide) (by decide)) (e _ (by decide) (by decide)), (f 3 (by decide) (by decide)).trans g3, fun hb => (g4 hb).off (e _ (by decide) (by decide)), g5.eq (f 14 (by decide) (by decide)) (e _ (by decide) (by decide)), g6, hT, hl, g9.eq (f 17 (by decide) (by decide)), g10.eq (f 7 (by decide) (by decide)) (f 8 (by decide) (by decide))⟩
theorem MR.err {μ : Mem} {α : A7} {e : Nat} (h : MR μ α) (he : e < 2147483648) : MR (wr μ 237 17 (nI e)) (aErr e α) := by
  obtain ⟨g1, g2, g3, g4, g5, g6, g7, g8, g9, g10⟩ := h
  have q : ∀ o, o ≠ 237 → wr μ 237 17 (nI e) o = μ o := fun o ho => wr_o ho
  have f : ∀ k, k ≠ 17 → wr μ 237 17 (nI e) 237 k = μ 237 k := fun k u => wr_n (Or.inr u)
  exact ⟨g1.off (q _ (by decide)), g2.eq (f 5 (by decide)) (q _ (by decide)), (f 3 (by decide)).trans g3, fun hb => (g4 hb).off (q _ (by decide)), g5.eq (f 14 (by decide)) (q _ (by decide)), g6, g7.eq (f 19 (by decide)) (q _ (by decide)), g8, ⟨wr_s, he⟩, g10.eq (f 7 (by decide)) (f 8 (by decide))⟩
theorem endP_part {μ : Mem} {n : Nat} (hn : n < 8) : EndP (wr (cpy μ 239 0 241 (352 * n) 352) 237 5 (nI (n + 1))) μ n := by
  refine ⟨by rw [wr_s]; exact congrArg nI (if_pos hn).symm, fun j k hj hk => ?_, fun o k h1 h2 => ?_⟩
  · rw [show pushN n = n + 1 from if_pos hn] at hj
    rw [if_pos hn, wr_o (by decide)]
    by_cases q : j = n
    · rw [if_pos q, q, cpy_in (by omega) (by omega), show 0 + (352 * n + k - 352 * n) = k by omega]
    · rw [if_neg q, cpy_out (by omega)]
  · rw [wr_n h2, cpy_o h1]
theorem endP_full {μ : Mem} {n : Nat} (hn : n = 8) : EndP (wr (cpy (wr (cpy μ 241 352 241 0 2464) 237 5 (nI (n - 1))) 239 0 241 (352 * (n - 1)) 352) 237 5 (nI (n - 1 + 1))) μ n := by
  subst hn
  refine ⟨wr_s, fun j k hj hk => ?_, fun o k h1 h2 => ?_⟩
  · have hj8 : j < 8 := hj
    rw [if_neg (by decide), wr_o (by decide)]
    by_cases q : j = 7
    · rw [if_pos q, q, cpy_in (by omega) (by omega), show 0 + (352 * 7 + k - 352 * (8 - 1)) = k by omega, wr_o (by decide), cpy_o (by decide)]
    · rw [if_neg q, cpy_out (by omega), wr_o (by decide), cpy_in (by omega) (by omega)]
      exact congrArg (μ 241) (by omega)
  · rw [wr_n h2, cpy_o h1, wr_n h2, cpy_o h1]
/-! the pool -/
theorem PF.w242 {μ1 μ : Mem} {r k : Nat} {v : Int32} (h : PF μ1 μ r) (hk : 32 * r ≤ k) : PF (wr μ1 242 k v) μ r := ⟨fun i hi => by rw [wr_n (Or.inr (by omega))]; exact h.1 i hi, fun i hi => by rw [wr_o (by decide)]; exact h.2.1 i hi, fun o i a b c => by rw [wr_o a]; exact h.2.2 o i a b c⟩
theorem PF.w243 {μ1 μ : Mem} {r k : Nat} {v : Int32} (h : PF μ1 μ r) (hk : r ≤ k) : PF (wr μ1 243 k v) μ r := ⟨fun i hi => by rw [wr_o (by decide)]; exact h.1 i hi, fun i hi => by rw [wr_n (Or.inr (by omega))]; exact h.2.1 i hi, fun o i a b c => by rw [wr_o b]; exact h.2.2 o i a b c⟩
theorem PF.w11 {μ1 μ : Mem} {r : Nat} {v : Int32} (h : PF μ1 μ r) : PF (wr μ1 237 11 v) μ r := ⟨fun i hi => by rw [wr_o (by decide)]; exact h.1 i hi, fun i hi => by rw [wr_o (by decide)]; exact h.2.1 i hi, fun o i a b c => by rw [wr_n c]; exact h.2.2 o i a b c⟩
theorem PF.c242 {μ1 μ : Mem} {r o sp dp n : Nat} (h : PF μ1 μ r) (hd : 32 * r ≤ dp) : PF (cpy μ1 o sp 242 dp n) μ r := ⟨fun i hi => by rw [cpy_out (Or.inl (by omega))]; exact h.1 i hi, fun i hi => by rw [cpy_o (by decide)]; exact h.2.1 i hi, fun o i a b c => by rw [cpy_o a]; exact h.2.2 o i a b c⟩
theorem PoolR.w {μ : Mem} {j o k : Nat} {v : Int32} {F : Nat → Nat} (h : PoolR μ j F) (ho : o ≠ 242 ∨ k < 32 * j ∨ 32 * j + 32 ≤ k) : PoolR (wr μ o k v) j F := fun i hi => by rw [wr_n (by omega)]; exact h i hi
theorem SlR.w {μ : Mem} {j o k : Nat} {v : Int32} (h : SlR μ j) (ho : o ≠ 242 ∨ k < 32 * j ∨ 32 * j + 32 ≤ k) : SlR (wr μ o k v) j := fun i hi => by rw [wr_n (by omega)]; exact h i hi
theorem pinv_row {μ1 : Mem} {j i : Nat} {f : Nat → Nat} (hB : Bij f) (hi : i < 32) (h : ∀ k, k < i → μ1 242 (32 * j + f k) = nI k) : ∀ k, k < i + 1 → wr μ1 242 (32 * j + f i) (nI i) 242 (32 * j + f k) = nI k := by
  intro k hk
  by_cases e : k = i
  · rw [e, wr_s]
  · rw [wr_n (Or.inr (fun q => e (hB.2 k i (by omega) hi (by omega))))]
    exact h k (by omega)
theorem at_row {μ1 : Mem} {i : Nat} {F f : Nat → Nat} (hB : Bij F) (hi : i < 32) (h : ∀ k, k < i → μ1 238 (8 + F k) = nI (f k)) : ∀ k, k < i + 1 → wr μ1 238 (8 + F i) (nI (f i)) 238 (8 + F k) = nI (f k) := by
  intro k hk
  by_cases e : k = i
  · rw [e, wr_s]
  · rw [wr_n (Or.inr (fun q => e (hB.2 k i (by omega) hi (by omega))))]
    exact h k (by omega)
theorem shift_eq {w b k : Nat} (hb : b < 4) (hk : k < 32) : moveF 1 w b k = if k % 8 = w then 8 * ((k / 8 + b) % 4) + k % 8 else k := by
  show (if (1 : Nat) = 0 then turnF w b else shiftF w b) k = _
  rw [if_neg (by decide)]
  unfold shiftF
  by_cases c : k % 8 = w
  · rw [if_pos c, if_pos c]; omega
  · rw [if_neg c, if_neg c]
theorem turn_eq {w b k : Nat} (hk : k < 32) : moveF 0 w b k = if k / 8 = w then 8 * (k / 8) + (k % 8 + b) % 8 else k := by
  show (if (0 : Nat) = 0 then turnF w b else shiftF w b) k = _
  rw [if_pos rfl]
  unfold turnF
  by_cases c : k / 8 = w
  · rw [if_pos c, if_pos c]; omega
  · rw [if_neg c, if_neg c]
theorem moveF_lt {a w b k : Nat} (h : mvOK a w b) (hk : k < 32) : moveF a w b k < 32 := (moveF_bij (mv_lt h)).1 k hk
theorem mlog_part {μ : Mem} {x a w b : Nat} {f : Nat → Nat} (hf : ∀ k, k < 3 * x → μ 238 (72 + k) = nI (f k)) (h : x < 40) :
    (fun μ' : Mem => μ' 238 0 = nI (logN x) ∧ (∀ k, k < 3 * logN x → μ' 238 (72 + k) = nI (logF x f a w b k)) ∧ (∀ k, k ≠ 0 → (k < 72 ∨ 192 ≤ k) → μ' 238 k = μ 238 k))
      (wr (wr (wr (wr μ 238 (72 + 3 * x) (nI a)) 238 (72 + 3 * x + 1) (nI w)) 238 (72 + 3 * x + 2) (nI b)) 238 0 (nI (x + 1))) := by
  have e1 : logN x = x + 1 := if_pos h
  refine ⟨by rw [wr_s, e1], fun k hk => ?_, fun k h1 h2 => by rw [wr_n (Or.inr h1), wr_n (Or.inr (by omega)), wr_n (Or.inr (by omega)), wr_n (Or.inr (by omega))]⟩
  rw [e1] at hk
  rw [wr_n (Or.inr (by omega))]
  unfold logF
  simp only [if_pos h]
  by_cases q2 : k = 3 * x + 2
  · subst q2; rw [show 72 + (3 * x + 2) = 72 + 3 * x + 2 by omega, wr_s, if_neg (by omega), if_neg (by omega), if_pos rfl]
  · rw [wr_n (Or.inr (by omega))]
    by_cases q1 : k = 3 * x + 1
    · subst q1; rw [show 72 + (3 * x + 1) = 72 + 3 * x + 1 by omega, wr_s, if_neg (by omega), if_pos rfl]
    · rw [wr_n (Or.inr (by omega))]
      by_cases q0 : k = 3 * x
      · subst q0; rw [wr_s, if_pos rfl]
      · rw [wr_n (Or.inr (by omega)), if_neg q0, if_neg q1, if_neg q2]
        exact hf k (by omega)
theorem mlog_full {μ : Mem} {x a w b : Nat} {f : Nat → Nat} (hf : ∀ k, k < 3 * x → μ 238 (72 + k) = nI (f k)) (h : x = 40) :
    (fun μ' : Mem => μ' 238 0 = nI (logN x) ∧ (∀ k, k < 3 * logN x → μ' 238 (72 + k) = nI (logF x f a w b k)) ∧ (∀ k, k ≠ 0 → (k < 72 ∨ 192 ≤ k) → μ' 238 k = μ 238 k))
      (wr (wr (wr (wr (wr (cpy μ 238 75 238 72 117) 238 0 (nI (x - 1))) 238 (72 + 3 * (x - 1)) (nI a)) 238 (72 + 3 * (x - 1) + 1) (nI w)) 238 (72 + 3 * (x - 1) + 2) (nI b)) 238 0 (nI (x - 1 + 1))) := by
  subst h
  refine ⟨wr_s, fun k hk => ?_, fun k h1 h2 => by rw [wr_n (Or.inr h1), wr_n (Or.inr (by omega)), wr_n (Or.inr (by omega)), wr_n (Or.inr (by omega)), wr_n (Or.inr h1), cpy_out (by omega)]⟩
  have hk2 : k < 120 := hk
  rw [wr_n (Or.inr (by omega))]
  unfold logF
  simp only [if_neg (show ¬ (40 : Nat) < 40 by decide)]
  by_cases q2 : k = 3 * 39 + 2
  · subst q2; rw [wr_s, if_neg (by omega), if_neg (by omega), if_pos rfl]
  · rw [wr_n (Or.inr (by omega))]
    by_cases q1 : k = 3 * 39 + 1
    · subst q1; rw [wr_s, if_neg (by omega), if_pos rfl]
    · rw [wr_n (Or.inr (by omega))]
      by_cases q0 : k = 3 * 39
      · subst q0; rw [wr_s, if_pos rfl]
      · rw [wr_n (Or.inr (by omega)), if_neg q0, if_neg q1, if_neg q2, wr_n (Or.inr (by omega)), cpy_in (by omega) (by omega), show 75 + (72 + k - 72) = 72 + (k + 3) by omega]
        exact hf (k + 3) (by omega)
/-! ranges, told in both ways -/
theorem in_idx {x : Int32} {n : Nat} (hn : n + 1 < 2147483648) (h : ¬ (0 ≤ x ∧ x < nI (n + 1))) : ¬ (nI 0 ≤ x ∧ x ≤ nI n) := fun q => h ⟨by rw [← nI_0]; exact q.1, by
  have h2 := q.2
  rw [Int32.le_iff_toInt_le, nI_toInt (by omega)] at h2
  rw [Int32.lt_iff_toInt_lt, nI_toInt hn]
  omega⟩
theorem in_rng {x : Int32} {a b : Nat} (h : x < nI a ∨ nI b < x) : ¬ (nI a ≤ x ∧ x ≤ nI b) := fun q => by
  rcases h with h | h
  · exact absurd q.1 (Int32.not_le.mpr h)
  · exact absurd q.2 (Int32.not_le.mpr h)
theorem in_len {x : Int32} {n : Nat} (hn : n < 2147483648) (h : ¬ (0 ≤ x ∧ x < nI n)) : ¬ (nI 0 ≤ x ∧ x ≤ nI n - nI 1) := by
  cases n with
  | zero =>
    intro q
    have h1 := Int32.le_iff_toInt_le.mp q.1
    have h2 := Int32.le_iff_toInt_le.mp q.2
    have e1 : (nI 0).toInt = 0 := by decide
    have e2 : (nI 0 - nI 1).toInt = -1 := by decide
    omega
  | succ n =>
    rw [pk_sub (by omega), Nat.add_sub_cancel]
    exact in_idx hn h
