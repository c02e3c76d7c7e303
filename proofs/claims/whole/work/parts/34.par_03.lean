/-! ===== printed: the model: its reader ===== -/
theorem c_m_items {g : GP} {adr : Nat → Nat} (μ : Mem) {t : Nat → Nat} {x p r d n : Nat} {σ : AS} {res : PRes} (hT₉ : TxM μ 245 14 (x, t)) (hx₉ : x ≤ 60) (hS₉ : MS μ 238 0 σ) (hp₉ : μ 237 15 = nI p) (hpl₉ : p < x) (hw₉ : μ 237 16 = nI 0) (hr' : μ 237 11 = nI r) (hr0₉ : 0 < r) (hV₉ : PoolV μ r) (hro₉ : r + 2 * (x - p) ≤ 200) (hk₉ : hr t x p 115 115 = true) (hr0x : pShelf t x σ p = res) : CT g yX8_item mX8_item (RM (4 * n + 4) 0 0) (WM g adr μ) [.ref (adr 237), .int (nI d)] (PMx g adr (fun it μ' => IP μ' μ x r p it res)) := by
  rcases hs₉ : pDig t x (p + 1) 0 4 with _ | i
  · exact c_m_items1 μ hT₉ hx₉ hS₉ hp₉ hpl₉ hw₉ hr' hr0₉ hV₉ hro₉ hk₉ hs₉ hr0x
  · by_cases hfl₉ : aFl σ i = true
    · exact c_m_items3 μ hT₉ hx₉ hS₉ hp₉ hpl₉ hw₉ hr' hr0₉ hV₉ hro₉ hk₉ hs₉ hfl₉ hr0x
    · exact c_m_items2 μ hT₉ hx₉ hS₉ hp₉ hpl₉ hw₉ hr' hr0₉ hV₉ hro₉ hk₉ hs₉ hfl₉ hr0x
