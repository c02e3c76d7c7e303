/-! ===== the law, whole ===== -/
def QL (g : GP) (b : Nat) : QT := fun below args s t => args = #[Value.ref b] ∧ s.heap.size = g.1 → lw_Z below args s t
theorem tab_eta (L : List ExceptionTableEntry) : L = tableOf (L.map fun x => (x.startPc, x.endPc, x.handlerPc, x.catchType)) := by
  induction L with
  | nil => rfl
  | cons x L ih =>
    show x :: L = ⟨x.startPc, x.endPc, x.handlerPc, x.catchType⟩ :: tableOf (L.map fun x => (x.startPc, x.endPc, x.handlerPc, x.catchType))
    rw [← ih]
theorem law_end {tb : List (Nat × Nat × Nat × Nat)} {g : GP} {b L : Nat} {xs : Nat → Int32} (adr : Nat → Nat) (μ : Mem) (k n : Nat) (l : List (Option Value)) (hk : k ≤ 601024) (hn : n ≤ 7293034) : J g (mL_law tb) room_1 (QX b L xs (QL g b)) k n (WM g adr μ) 2398 l [.int (nI 1)] := by
  intro p ln e s m args below meth c C H locs ls hw hS hl
  by_cases hQ : args = #[Value.ref b] ∧ s.heap.size = g.1
  · obtain ⟨rfl, hs⟩ := hQ
    refine va_forget (fun q hq => ?_) (W.widen hk hn ?_)
    · have h9 := hS.2.2 q hq
      rw [hs]; exact h9
    · have h : W p ln e room_1 (s.setDrawn s.drawn) m #[Value.ref b] below meth c H [] 601024 7293034 (lw_Z below #[Value.ref b] s) (F0 m 2398 ls [.int 1]) := lw_ret (Drawn.sameBut.refl s.drawn lw_cs) C.1 C.2.1 C.2.2.2.1 C.2.2.2.2.2.2.1 dL_law_2398
      intro T hT X
      obtain ⟨t, a, hz⟩ := h T hT X
      exact ⟨t, a, fun _ _ => hz⟩
  · intro T hT X
    exact ⟨_, Steps.refl _, fun _ h => absurd h hQ⟩
theorem whole_start {p : Program} {e : Env} {s : State} {m : MethodId} {below : List Frame} {meth : Method} {c : Code} (l : Launch) (hflags : l.flags = flags0) {b L : Nat} {xs : Nat → Int32} (hL : L ≤ 2048) (C0 : lw_At p s m meth c b L xs) : W p l e room_1 s m #[Value.ref b] below meth c s.heap [] 0 0 (lw_Z below #[Value.ref b] s) (entryFrame m ([Value.ref b] : List Value).toArray 9) := by
  obtain ⟨hx, hb, hr, hml, hown, hts, hX, hbs, hlk, hgv⟩ := C0
  obtain ⟨g, hg, hamb⟩ := amb_start hts hgv
  have hB : ∀ w ∈ BIG, w.before #[Value.ref b] s = true := fun w hw => hts w (List.mem_filter.mp hw).1
  have hst : l.stackTraces = false := by
    unfold Launch.stackTraces
    rw [hflags]
    decide
  have K := law_start (tb := c.exceptionTable.toList.map fun x => (x.startPc, x.endPc, x.handlerPc, x.catchType)) (g := g) (b := b) (L := L) (xs := xs) (Q := QL g b) (by rw [hg]; exact hbs) hL (fun adr μ k n l hk hn => law_end adr μ k n l hk hn)
  have hl9 := lv_entry [Value.ref b] (n := 9) (Nat.le_of_ble_eq_true rfl)
  rw [lg_entry_eq]
  generalize (lg_sl [Value.ref b] ++ List.replicate (9 - (lg_sl [Value.ref b]).length) Slot.unset).toArray = ls at hl9 ⊢
  have h := K p l e s m #[Value.ref b] below meth c ⟨hx, hb, hml, hr, hown, hB, hlk, hst, fun _ => tab_eta _, fun h => (by cases h), hamb⟩ s.heap [] ls ⟨fun k q hq => (by cases hq), fun i j p q hp => (by cases hp), fun k q hq => (by cases hq)⟩ va_S.rf hl9
  intro T hT X
  obtain ⟨t, a, hz⟩ := h T hT X
  exact ⟨t, a, hz ⟨hX, hbs⟩ ⟨rfl, hg.symm⟩⟩
