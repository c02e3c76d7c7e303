/-! ===== printed: the model: its reader, sequences ===== -/
theorem seqM_all {g : GP} {adr : Nat → Nat} {t : Nat → Nat} {x : Nat} {σ : AS} (hx₉ : x ≤ 60) : ∀ n d, d + n = 5 → SeqM g adr t x σ n d
  | 0, d, _ => fun μ p r _ _ _ _ _ _ _ _ h => absurd h (by omega)
  | n + 1, d, e => fun μ p r hT₉ hS₉ hp₉ hpx₉ hw₉ hr₉ hV₉ hro₉ _ res hr0₉ => c_m_sequence μ hT₉ hx₉ hS₉ hp₉ hpx₉ hw₉ hr₉ hV₉ hro₉ (by omega) (seqM_all hx₉ n (d + 1) (by omega)) hr0₉
