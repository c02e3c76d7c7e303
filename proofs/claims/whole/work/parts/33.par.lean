/-! ===== the model's reader ===== -/
def PMx (g : GP) (adr : Nat → Nat) (φ : Nat → Mem → Prop) : PT := fun o w' => ∃ (it : Nat) (μ' : Mem), w' = WM g adr μ' ∧ o = .inl (some (.int (nI it))) ∧ φ it μ'
def PoolV (μ : Mem) (r : Nat) : Prop := ∀ j, j < r → SlR μ j
def RF (μ' μ : Mem) (r : Nat) : Prop := (∀ k, k < 32 * r → μ' 242 k = μ 242 k) ∧ (∀ k, k < r → μ' 243 k = μ 243 k) ∧ ∀ o k, o ≠ 242 → o ≠ 243 → (o ≠ 237 ∨ (k ≠ 11 ∧ k ≠ 15 ∧ k ≠ 16)) → μ' o k = μ o k
theorem RF.rf {μ : Mem} {r : Nat} : RF μ μ r := ⟨fun _ _ => rfl, fun _ _ => rfl, fun _ _ _ _ _ => rfl⟩
theorem RF.trans {μ2 μ1 μ : Mem} {r2 r1 r : Nat} (h2 : RF μ2 μ1 r2) (h1 : RF μ1 μ r1) (e1 : r ≤ r1) (e2 : r ≤ r2) : RF μ2 μ r := ⟨fun k hk => (h2.1 k (by omega)).trans (h1.1 k (by omega)), fun k hk => (h2.2.1 k (by omega)).trans (h1.2.1 k (by omega)), fun o k a b c => (h2.2.2 o k a b c).trans (h1.2.2 o k a b c)⟩
theorem PF.rf9 {μ' μ : Mem} {r : Nat} (h : PF μ' μ r) : RF μ' μ r := ⟨h.1, h.2.1, fun o k a b c => h.2.2 o k a b (by omega)⟩
theorem RF.w {μ1 μ : Mem} {r k : Nat} {v : Int32} (h : RF μ1 μ r) (hk : k = 11 ∨ k = 15 ∨ k = 16) : RF (wr μ1 237 k v) μ r := ⟨fun i hi => by rw [wr_o (by decide)]; exact h.1 i hi, fun i hi => by rw [wr_o (by decide)]; exact h.2.1 i hi, fun o i a b c => by rw [wr_n (by omega)]; exact h.2.2 o i a b c⟩
theorem RF.w243 {μ1 μ : Mem} {r k : Nat} {v : Int32} (h : RF μ1 μ r) (hk : r ≤ k) : RF (wr μ1 243 k v) μ r := ⟨fun i hi => by rw [wr_o (by decide)]; exact h.1 i hi, fun i hi => by rw [wr_n (Or.inr (by omega))]; exact h.2.1 i hi, fun o i a b c => by rw [wr_o b]; exact h.2.2 o i a b c⟩
theorem RF.s {μ' μ : Mem} {r : Nat} (h : RF μ' μ r) : μ' 238 = μ 238 := funext fun k => h.2.2 238 k (by omega) (by omega) (by omega)
theorem RF.ks {μ' μ : Mem} {r : Nat} (h : RF μ' μ r) : KS μ' μ := fun o k a b c _ e => h.2.2 o k b c (by omega)
theorem P1.rf9 {μ' μ : Mem} {j r : Nat} (h : P1 μ' μ j) (hr : r ≤ j) : RF μ' μ r := (h.pf hr).rf9
theorem TxM.rf {μ' μ : Mem} {r : Nat} {T : TX} (h : TxM μ 245 14 T) (f : RF μ' μ r) : TxM μ' 245 14 T := h.eq (f.2.2 237 14 (by omega) (by omega) (by omega)) (funext fun k => f.2.2 245 k (by omega) (by omega) (by omega))
theorem PoolV.w {μ : Mem} {r k : Nat} {v : Int32} (h : PoolV μ r) : PoolV (wr μ 237 k v) r := fun j hj => (h j hj).w (Or.inl (by decide))
theorem PoolV.w243 {μ : Mem} {r k : Nat} {v : Int32} (h : PoolV μ r) : PoolV (wr μ 243 k v) r := fun j hj => (h j hj).w (Or.inl (by decide))
theorem PoolV.rf {μ' μ : Mem} {r s : Nat} (h : PoolV μ s) (f : RF μ' μ r) (hs : s ≤ r) : PoolV μ' s := fun j hj k hk => by rw [f.1 _ (by omega)]; exact h j hj k hk
theorem PoolV.push {μ : Mem} {r : Nat} (h : PoolV μ r) (s : SlR μ r) : PoolV μ (r + 1) := fun j hj => if e : j = r then (by rw [e]; exact s) else h j (by omega)
theorem PoolV.p1 {μ' μ : Mem} {r j : Nat} (h : PoolV μ r) (f : P1 μ' μ j) (s : SlR μ' j) : PoolV μ' r := fun i hi => if e : i = j then (by rw [e]; exact s) else (h i hi).p1 f e
theorem PoolR.rf {μ' μ : Mem} {r j : Nat} {F : Nat → Nat} (h : PoolR μ j F) (f : RF μ' μ r) (hj : j < r) : PoolR μ' j F := fun k hk => by rw [f.1 _ (by omega)]; exact h k hk
theorem isIt_m {t : Nat → Nat} {x p : Nat} : isIt t x p = true ↔ (hr t x p 114 115 = true ∨ hr t x p 99 99 = true ∨ hr t x p 40 40 = true ∨ hr t x p 91 91 = true) := by
  rw [isIt_iff]
  simp only [hr_iff]
  omega
/-- behind an item, without what stands behind it -/
def IP (μ' μ : Mem) (x r p it : Nat) (res : PRes) : Prop := match res with
  | .inl e => μ' 237 15 = nI e ∧ μ' 237 16 = nI 1 ∧ (∃ r', r ≤ r' ∧ r' ≤ r + 2 * (x - p) ∧ μ' 237 11 = nI r' ∧ PoolV μ' r') ∧ RF μ' μ r ∧ it = 0
  | .inr (q, c, F) => μ' 237 15 = nI q ∧ μ' 237 16 = nI 0 ∧ (∃ r', r ≤ it ∧ it < r' ∧ r' ≤ r + 2 * (q - p) ∧ μ' 237 11 = nI r' ∧ PoolV μ' r') ∧ RF μ' μ r ∧ PoolR μ' it F ∧ μ' 243 it = nI c
/-- behind a sequence -/
def SP (μ' μ : Mem) (x r p : Nat) (res : PRes) : Prop := match res with
  | .inl e => μ' 237 15 = nI e ∧ μ' 237 16 = nI 1 ∧ (∃ r', r < r' ∧ r' ≤ r + 1 + 2 * (x - p) ∧ μ' 237 11 = nI r' ∧ PoolV μ' r') ∧ RF μ' μ r
  | .inr (q, c, F) => μ' 237 15 = nI q ∧ μ' 237 16 = nI 0 ∧ (∃ r', r < r' ∧ r' ≤ r + 1 + 2 * (q - p) ∧ μ' 237 11 = nI r' ∧ PoolV μ' r') ∧ RF μ' μ r ∧ PoolR μ' r F ∧ μ' 243 r = nI c
def SeqM (g : GP) (adr : Nat → Nat) (t : Nat → Nat) (x : Nat) (σ : AS) (n d : Nat) : Prop := ∀ (μ : Mem) (p r : Nat), TxM μ 245 14 (x, t) → MS μ 238 0 σ → μ 237 15 = nI p → p ≤ x → μ 237 16 = nI 0 → μ 237 11 = nI r → PoolV μ r → r + 1 + 2 * (x - p) ≤ 200 → 0 < n → ∀ res, pSq t x σ n p = res →
  CT g yX8_sequence mX8_sequence (RM (4 * n + 1) 0 0) (WM g adr μ) [.ref (adr 237), .int (nI d)] (PM g adr (.inl (some (.int (nI r)))) (fun μ' => SP μ' μ x r p res))
section CX
variable {g : GP} {M : MI} {R : Room} {Q : QT} {k n pc : Nat} {w : va_W} {l : List (Option Value)} {st : List Value} {adr : Nat → Nat} {μ : Mem}
theorem clx_X8_152 (hM : M.1 = RX8) {o : Nat} (ho : kt o = 14) {a0 : Value} {Ry : Room} {k' n' : Nat} {φ : Nat → Mem → Prop} (hC : CT g yX8_item mX8_item Ry (WM g adr μ) (.ref (adr o) :: [a0]) (PMx g adr φ)) (hs : (Ry.frames + 1 ≤ R.frames ∧ 8 + (12 + 11) + Ry.locals ≤ R.locals) ∧ (k + Ry.cells = k' ∧ n + Ry.slots = n') ∧ k' ≤ R.cells ∧ n' ≤ R.slots) (hW : Nat.ble ((st.map fun v => v.category).sum) 8 = true) (d : decode M.2.1 pc = .ok (.invokevirtual 152, 3)) (K : ∀ it μ', φ it μ' → J g M R Q k' n' (WM g adr μ') (pc + 3) l (.int (nI it) :: st)) : J g M R Q k n (WM g adr μ) pc l (a0 :: .ref (adr o) :: st) := by
  exact J.callV (d := RX0) (C := RX8) (y := yX8_item) (My := mX8_item) (As := [a0]) (na := 1) (idx := 152) (P := PMx g adr φ) hC (by rw [hM]; exact t_1182) t_1184 s_36 t_9 t_1185 ⟨rfl, by decide +kernel, by decide +kernel, by decide +kernel⟩ rfl hs.1 o (ci := 8) (q := (RX8, TX8, 20)) rfl rfl (WM_get ho (by decide)) (Nat.le_of_ble_eq_true hW) d ⟨by rw [hs.2.1.1]; exact hs.2.2.1, by rw [hs.2.1.2]; exact hs.2.2.2⟩ (fun v w' hp => by obtain ⟨it, μ', rfl, h1, h2⟩ := hp; cases h1; rw [hs.2.1.1, hs.2.1.2]; exact K it μ' h2) (fun E w' hp => by obtain ⟨it, μ', rfl, h1, h2⟩ := hp; cases h1)
end CX
