/-! ===== the system's cells by number: 0 the class's object, 1 its state, 20 its past, 174 its snapshot, 193 its reader, 231 its line, 233 made, 235 spare, 237 the reference, 247 the law's row; a memory gives the ints in them ===== -/
abbrev Mem : Type := Nat → Nat → Int32
def NC : Nat := 237
def ktl : List Nat := [13, 5, 2, 1032, 1032, 1032, 3, 1120, 4, 30005, 1, 1032, 1, 1032, 1, 1032, 1, 1032, 1, 1032, 6, 7, 5, 2, 1032, 1032, 1032, 3, 1120, 4, 30005, 1, 1032, 1, 1032, 1, 1032, 1, 1032, 1, 1032, 5, 2, 1032, 1032, 1032, 3, 1120, 4, 30005, 1, 1032, 1, 1032, 1, 1032, 1, 1032, 1, 1032, 5, 2, 1032, 1032, 1032, 3, 1120, 4, 30005, 1, 1032, 1, 1032, 1, 1032, 1, 1032, 1, 1032, 5, 2, 1032, 1032, 1032, 3, 1120, 4, 30005, 1, 1032, 1, 1032, 1, 1032, 1, 1032, 1, 1032, 5, 2, 1032, 1032, 1032, 3, 1120, 4, 30005, 1, 1032, 1, 1032, 1, 1032, 1, 1032, 1, 1032, 5, 2, 1032, 1032, 1032, 3, 1120, 4, 30005, 1, 1032, 1, 1032, 1, 1032, 1, 1032, 1, 1032, 5, 2, 1032, 1032, 1032, 3, 1120, 4, 30005, 1, 1032, 1, 1032, 1, 1032, 1, 1032, 1, 1032, 5, 2, 1032, 1032, 1032, 3, 1120, 4, 30005, 1, 1032, 1, 1032, 1, 1032, 1, 1032, 1, 1032, 5, 2, 1032, 1032, 1032, 3, 1120, 4, 30005, 1, 1032, 1, 1032, 1, 1032, 1, 1032, 1, 1032, 8, 9, 20120, 10, 11, 12, 1, 1032, 1, 1032, 1, 1032, 1, 1032, 1, 1032, 1, 1032, 1, 1032, 1, 1032, 1, 1032, 1, 1032, 1, 1032, 1, 1032, 1, 1032, 1, 1032, 1, 1032, 1, 1032, 9, 20120, 1, 1032, 1, 1032]
def kt (o : Nat) : Nat := ktl.getD o 0
theorem rg_lt {o N : Nat} (L : List Nat) (hN : L.length = N) (h : L.getD o 0 ≠ 0) : o < N := by
  refine Nat.not_le.mp fun q => h ?_
  rw [List.getD_eq_getElem?_getD, List.getElem?_eq_none (by rw [hN]; exact q)]
  rfl
theorem kt_lt {o : Nat} (h : kt o ≠ 0) : o < NC := rg_lt ktl rfl h
theorem rg_get {α : Type} {N o : Nat} (f : Nat → α) (h : o < N) : ((List.range N).map f)[o]? = some (f o) := by
  rw [List.getElem?_map, List.getElem?_range h, Option.map_some]
theorem rg_set {α : Type} {N o : Nat} {f f' : Nat → α} {e : α} (he : f' o = e) (hf : ∀ i, i ≠ o → f' i = f i) : ((List.range N).map f).set o e = (List.range N).map f' := by
  apply List.ext_getElem?
  intro i
  rw [List.getElem?_set, List.length_map, List.length_range]
  by_cases hi : o = i
  · subst hi
    rw [if_pos rfl]
    by_cases hl : o < N
    · rw [if_pos hl, rg_get f' hl, he]
    · rw [if_neg hl, List.getElem?_eq_none (by rw [List.length_map, List.length_range]; omega)]
  · rw [if_neg hi]
    by_cases hl : i < N
    · rw [rg_get f hl, rg_get f' hl, hf i (Ne.symm hi)]
    · rw [List.getElem?_eq_none (by rw [List.length_map, List.length_range]; omega), List.getElem?_eq_none (by rw [List.length_map, List.length_range]; omega)]
/-- what the cell o of kind c is, with the ints m in it -/
def kdo (g : GP) (adr : Nat → Nat) (o : Nat) (m : Nat → Int32) (c : Nat) : va_E :=
  match c with
  | 1 => .inr (3, [.ref (adr (o + 1))])
  | 2 => .inr (0, [.ref (adr (o + 1)), .ref (adr (o + 2)), .ref (adr (o + 3))])
  | 3 => .inr (1, [.ref (adr (o + 1)), .int (m 1)])
  | 4 => .inl (g.2.2 4, 5, .inr (.inr (.inr (.inr (fun j => some (adr (o + 2 + 2 * j)))))))
  | 5 => .inr (6, [.ref (adr (o + 1)), .ref (adr (o + 5)), .int (m 2), .int (m 3), .ref (adr (o + 7)), .ref (adr (o + 8))])
  | 6 => .inr (2, [.ref (adr (o + 1)), .int (m 1)])
  | 7 => .inl (g.2.2 5, 8, .inr (.inr (.inr (.inr (fun j => some (adr (22 + 19 * (m j).toNatClampNeg)))))))
  | 8 => .inr (4, [.ref (adr (o + 1)), .int (m 1), .ref (adr (o + 3)), .ref (adr (o + 4)), .ref (adr (o + 5)), .ref (adr (o + 6))])
  | 9 => .inr (5, [.ref (adr (o + 1)), .int (m 1)])
  | 10 => .inl (g.2.2 4, 5, .inr (.inr (.inr (.inr (fun j => some (adr (o + 5 + 6 * j)))))))
  | 11 => .inl (g.2.2 4, 5, .inr (.inr (.inr (.inr (fun j => some (adr (o + 6 + 6 * j)))))))
  | 12 => .inl (g.2.2 4, 5, .inr (.inr (.inr (.inr (fun j => some (adr (o + 7 + 6 * j)))))))
  | 13 => .inr (7, [.ref (adr (o + 1)), .ref (adr (o + 20)), .ref (adr (o + 174)), .int (m 3), .ref (adr (o + 193)), .ref (adr (o + 231)), .ref (adr (o + 233)), .ref (adr (o + 235)), .int (m 8), .int (m 9), .int (m 10)])
  | _ => .inr (0, [])
def kdc (g : GP) (adr : Nat → Nat) (o : Nat) (m : Nat → Int32) (c : Nat) : va_E :=
  if c < 1000 then kdo g adr o m c else if c < 20000 then .inl (g.2.2 0, c - 1000, .inl m) else if c < 30000 then .inl (g.2.2 2, c - 20000, .inl m) else if c < 40000 then .inl (g.2.2 1, c - 30000, .inl m) else .inl (g.2.2 3, c - 40000, .inr (.inl (fun j => (m j).toInt64)))
theorem kdc_i (g : GP) (adr : Nat → Nat) (o : Nat) (m : Nat → Int32) {N : Nat} (h : N < 19000) : kdc g adr o m (1000 + N) = .inl (g.2.2 0, N, .inl m) := by
  unfold kdc
  rw [if_neg (by omega), if_pos (by omega), show 1000 + N - 1000 = N by omega]
theorem kdc_c (g : GP) (adr : Nat → Nat) (o : Nat) (m : Nat → Int32) {N : Nat} (h : N < 10000) : kdc g adr o m (20000 + N) = .inl (g.2.2 2, N, .inl m) := by
  unfold kdc
  rw [if_neg (by omega), if_neg (by omega), if_pos (by omega), show 20000 + N - 20000 = N by omega]
theorem kdc_z (g : GP) (adr : Nat → Nat) (o : Nat) (m : Nat → Int32) {N : Nat} (h : N < 10000) : kdc g adr o m (30000 + N) = .inl (g.2.2 1, N, .inl m) := by
  unfold kdc
  rw [if_neg (by omega), if_neg (by omega), if_neg (by omega), if_pos (by omega), show 30000 + N - 30000 = N by omega]
theorem kdc_l (g : GP) (adr : Nat → Nat) (o : Nat) (m : Nat → Int32) : kdc g adr o m 40001 = .inl (g.2.2 3, 1, .inr (.inl (fun j => (m j).toInt64))) := by
  unfold kdc
  rw [if_neg (by omega), if_neg (by omega), if_neg (by omega), if_neg (by omega)]
def WB (g : GP) (adr : Nat → Nat) (μ : Mem) : va_W := (List.range NC).map (fun i => (adr i, kdc g adr i (μ i) (kt i)))
theorem WB_len {g : GP} {adr : Nat → Nat} {μ : Mem} : (WB g adr μ).length = NC := by unfold WB; rw [List.length_map, List.length_range]
/-- the system's cells, and behind them the law's -/
def WM (g : GP) (adr : Nat → Nat) (μ : Mem) : va_W := WB g adr μ ++ g.1.2.1
def wr (μ : Mem) (o k : Nat) (v : Int32) : Mem := fun o' k' => if o' = o ∧ k' = k then v else μ o' k'
/-- n ints of the row a from sp on, copied to the row b from dp on -/
def cpy (μ : Mem) (a sp b dp n : Nat) : Mem := fun o k => if o = b then va_cpy (μ a) (μ b) sp dp n k else μ o k
theorem wr_s {μ : Mem} {o k : Nat} {v : Int32} : wr μ o k v o k = v := if_pos ⟨rfl, rfl⟩
theorem wr_n {μ : Mem} {o k o' k' : Nat} {v : Int32} (h : o' ≠ o ∨ k' ≠ k) : wr μ o k v o' k' = μ o' k' := if_neg (fun q => h.elim (fun z => z q.1) (fun z => z q.2))
theorem wr_o {μ : Mem} {o k o' : Nat} {v : Int32} (h : o' ≠ o) : wr μ o k v o' = μ o' := funext fun _ => wr_n (Or.inl h)
theorem WM_get {g : GP} {adr : Nat → Nat} {μ : Mem} {o c : Nat} (h : kt o = c) (hc : c ≠ 0) : (WM g adr μ)[o]? = some (adr o, kdc g adr o (μ o) c) := by
  have ho : o < NC := kt_lt (by rw [h]; exact hc)
  subst h
  unfold WM
  rw [List.getElem?_append_left (by rw [WB_len]; exact ho)]
  exact rg_get (fun i => (adr i, kdc g adr i (μ i) (kt i))) ho
theorem WM_set {g : GP} {adr : Nat → Nat} {μ : Mem} {o c : Nat} {m' : Nat → Int32} {e : va_E} (h : kt o = c) (hc : c ≠ 0) (he : kdc g adr o m' c = e) : (WM g adr μ).set o (adr o, e) = WM g adr (fun o' => if o' = o then m' else μ o') := by
  have ho : o < NC := kt_lt (by rw [h]; exact hc)
  subst h; subst he
  unfold WM
  rw [List.set_append_left _ _ (by rw [WB_len]; exact ho)]
  refine congrArg (· ++ g.1.2.1) ?_
  refine rg_set (f := fun i => (adr i, kdc g adr i (μ i) (kt i))) (f' := fun i => (adr i, kdc g adr i ((fun o' => if o' = o then m' else μ o') i) (kt i))) ?_ (fun i hi => ?_)
  · show (adr o, kdc g adr o (if o = o then m' else μ o) (kt o)) = _
    rw [if_pos rfl]
  · show (adr i, kdc g adr i (if i = o then m' else μ i) (kt i)) = _
    rw [if_neg hi]
/-- the law's cell at place j -/
theorem WX_get {g : GP} {adr : Nat → Nat} {μ : Mem} {j : Nat} : (WM g adr μ)[NC + j]? = g.1.2.1[j]? := by
  unfold WM
  rw [List.getElem?_append_right (by rw [WB_len]; omega), WB_len, show NC + j - NC = j by omega]
theorem WX_set {g : GP} {adr : Nat → Nat} {μ : Mem} {j : Nat} {q : Nat × va_E} : (WM g adr μ).set (NC + j) q = WM (gx g (g.1.2.1.set j q)) adr μ := by
  show (WB g adr μ ++ g.1.2.1).set (NC + j) q = WB g adr μ ++ g.1.2.1.set j q
  rw [List.set_append_right _ _ (by rw [WB_len]; omega), WB_len, show NC + j - NC = j by omega]
theorem WX_add {g : GP} {adr : Nat → Nat} {μ : Mem} {e : va_W} : WM g adr μ ++ e = WM (gx g (g.1.2.1 ++ e)) adr μ := List.append_assoc _ _ _
theorem wr_eq {μ : Mem} {o k : Nat} {v : Int32} : (fun o' => if o' = o then (upd (μ o) k v) else μ o') = wr μ o k v := by
  funext o' k'
  unfold wr upd
  by_cases h : o' = o
  · subst h
    rw [if_pos rfl]
    by_cases h2 : k' = k
    · rw [if_pos h2, if_pos ⟨rfl, h2⟩]
    · rw [if_neg h2, if_neg (fun q => h2 q.2)]
  · rw [if_neg h, if_neg (fun q => h q.1)]
section MM
variable {g : GP} {M : MI} {R : Room} {Q : QT} {k n pc : Nat} {w : va_W} {l : List (Option Value)} {st : List Value} {adr : Nat → Nat} {μ : Mem}
theorem J.getF {C : String} {T : u_T} {N ci idx kf q0 a : Nat} {fs : List Value} {v : Value} (hin : ∀ z ∈ u_ws C T N, z ∈ BIG) (hc : vwCl[ci]? = some (C, T, N)) (hk : kf < N) (f : Cond.fieldLink M.1 idx (T kf).1 (T kf).2.1 (T kf).2.2.1 ∈ BIG)
    (he : w[q0]? = some (a, .inr (ci, fs))) (hv : fs[kf]? = some v) (d : decode M.2.1 pc = .ok (.getfield idx, 3)) (K : J g M R Q k n w (pc + 3) l (v :: st)) : J g M R Q k n w pc l (.ref a :: st) :=
  fun p ln e s m args below meth c C9 H locs ls hw hS hl => va_get (D := g.2.1) C9.1 C9.2.1 (own := M.1) C9.2.2.2.2.2.1 hin C9.2.2.2.2.1 C9.2.2.2.2.2.2.2.2.2.2.1 hw.1 q0 he hc kf hk (C9.2.2.2.2.2.1 _ f) (fun _ h => h) hv d (K p ln e s m args below meth c C9 H locs ls hw hS hl)
theorem J.putF {C : String} {T : u_T} {N ci idx kf q0 a : Nat} {fs : List Value} {v : Value} {ty : FieldType} (hin : ∀ z ∈ u_ws C T N, z ∈ BIG) (ty0 : Nat → FieldType) (hty : ∀ k, k < N → parseFieldDescriptor (T k).2.2.1 = some (ty0 k)) (hnm : ∀ a, a < N → ∀ b, b < N → a ≠ b → (T a).2.1 ≠ (T b).2.1) (hc : vwCl[ci]? = some (C, T, N)) (hk : kf < N) (f : Cond.fieldLink M.1 idx (T kf).1 (T kf).2.1 (T kf).2.2.1 ∈ BIG)
    (he : w[q0]? = some (a, .inr (ci, fs))) (hfin : (T kf).2.2.2 = false) (hd : parseFieldDescriptor (T kf).2.2.1 = some ty) (hn : narrow ty v = v) (hfit : fits ty v = true) (hl9 : kf < fs.length) (d : decode M.2.1 pc = .ok (.putfield idx, 3)) (K : J g M R Q k n (w.set q0 (a, .inr (ci, fs.set kf v))) (pc + 3) l st) : J g M R Q k n w pc l (v :: .ref a :: st) :=
  fun p ln e s m args below meth c C9 H locs ls hw hS hl => va_put (D := g.2.1) C9.1 C9.2.1 (own := M.1) C9.2.2.2.2.2.1 hin ty0 hty hnm C9.2.2.2.2.1 C9.2.2.2.2.2.2.2.2.2.2.1 hw.1 hw.2 hS q0 he hc kf hk (C9.2.2.2.2.2.1 _ f) (fun _ h => h) hfin hd hn hfit hl9 d (fun H1 locs1 hP hD hS1 => K p ln e s m args below meth c C9 H1 locs1 ls ⟨hP, hD⟩ hS1 hl)
/-! arrays of the memory -/
theorem J.iald {o N i : Nat} {x : Int32} (ho : kt o = 1000 + N) (hN : N < 19000) (hN0 : 0 < N) (hi : i < N) (hx : μ o i = x) (d : decode M.2.1 pc = .ok (.iaload, 1)) (K : J g M R Q k n (WM g adr μ) (pc + 1) l (.int x :: st)) : J g M R Q k n (WM g adr μ) pc l (.int (nI i) :: .ref (adr o) :: st) := by
  intro p ln e s m args below meth c C9 H locs ls hw hS hl
  have he : (WM g adr μ)[o]? = some (adr o, .inl (g.2.2 0, N, .inl (μ o))) := by
    rw [WM_get ho (by omega), kdc_i g adr o _ hN]
  refine va_iald (D := g.2.1) C9.1 C9.2.1 C9.2.2.2.2.2.2.2.2.2.2.1 hw.1 o 0 he rfl (vp_in_nI hi (by omega)) d ?_
  rw [nI_clamp (by omega), hx]
  exact K p ln e s m args below meth c C9 H locs ls hw hS hl
theorem J.cald {o N i : Nat} {x : Int32} (ho : kt o = 20000 + N) (hN : N < 10000) (hi : i < N) (hx : μ o i = x) (d : decode M.2.1 pc = .ok (.caload, 1)) (K : J g M R Q k n (WM g adr μ) (pc + 1) l (.int x :: st)) : J g M R Q k n (WM g adr μ) pc l (.int (nI i) :: .ref (adr o) :: st) := by
  intro p ln e s m args below meth c C9 H locs ls hw hS hl
  have he : (WM g adr μ)[o]? = some (adr o, .inl (g.2.2 2, N, .inl (μ o))) := by
    rw [WM_get ho (by omega), kdc_c g adr o _ hN]
  refine va_cald (D := g.2.1) C9.1 C9.2.1 C9.2.2.2.2.2.2.2.2.2.2.1 hw.1 o 2 he rfl (vp_in_nI hi (by omega)) d ?_
  rw [nI_clamp (by omega), hx]
  exact K p ln e s m args below meth c C9 H locs ls hw hS hl
theorem J.zald {o N i : Nat} {x : Int32} (ho : kt o = 30000 + N) (hN : N < 10000) (hi : i < N) (hx : μ o i = x) (d : decode M.2.1 pc = .ok (.baload, 1)) (K : J g M R Q k n (WM g adr μ) (pc + 1) l (.int x :: st)) : J g M R Q k n (WM g adr μ) pc l (.int (nI i) :: .ref (adr o) :: st) := by
  intro p ln e s m args below meth c C9 H locs ls hw hS hl
  have he : (WM g adr μ)[o]? = some (adr o, .inl (g.2.2 1, N, .inl (μ o))) := by
    rw [WM_get ho (by omega), kdc_z g adr o _ hN]
  refine va_zald (D := g.2.1) C9.1 C9.2.1 C9.2.2.2.2.2.2.2.2.2.2.1 hw.1 o 1 he rfl (vp_in_nI hi (by omega)) d ?_
  rw [nI_clamp (by omega), hx]
  exact K p ln e s m args below meth c C9 H locs ls hw hS hl
theorem J.lald {o i : Nat} {x : Int32} (ho : kt o = 40001) (hi : i < 1) (hx : μ o i = x) (d : decode M.2.1 pc = .ok (.laload, 1)) (K : J g M R Q k n (WM g adr μ) (pc + 1) l (.long x.toInt64 :: st)) : J g M R Q k n (WM g adr μ) pc l (.int (nI i) :: .ref (adr o) :: st) := by
  intro p ln e s m args below meth c C9 H locs ls hw hS hl
  have he : (WM g adr μ)[o]? = some (adr o, .inl (g.2.2 3, 1, .inr (.inl (fun j => (μ o j).toInt64)))) := by
    rw [WM_get ho (by omega), kdc_l g adr o]
  refine va_lald (D := g.2.1) C9.1 C9.2.1 C9.2.2.2.2.2.2.2.2.2.2.1 hw.1 o 3 he rfl (vp_in_nI hi (by omega)) d ?_
  rw [nI_clamp (by omega), hx]
  exact K p ln e s m args below meth c C9 H locs ls hw hS hl
theorem J.iast {o N i : Nat} {x : Int32} (ho : kt o = 1000 + N) (hN : N < 19000) (hN0 : 0 < N) (hi : i < N) (d : decode M.2.1 pc = .ok (.iastore, 1)) (K : J g M R Q k n (WM g adr (wr μ o i x)) (pc + 1) l st) : J g M R Q k n (WM g adr μ) pc l (.int x :: .int (nI i) :: .ref (adr o) :: st) := by
  intro p ln e s m args below meth c C9 H locs ls hw hS hl
  have hd : ∀ m, kdc g adr o m (1000 + N) = .inl (g.2.2 0, N, .inl m) := fun m => kdc_i g adr o m hN
  have he : (WM g adr μ)[o]? = some (adr o, .inl (g.2.2 0, N, .inl (μ o))) := by rw [WM_get ho (by omega), hd]
  refine va_iast (D := g.2.1) C9.1 C9.2.1 C9.2.2.2.2.2.2.2.2.2.2.1 hw.1 hw.2 hS o 0 he rfl (vp_in_nI hi (by omega)) d (fun H1 locs1 hP hD hS1 => ?_)
  rw [nI_clamp (by omega), WM_set ho (by omega) (hd _), wr_eq] at hP hD
  exact K p ln e s m args below meth c C9 H1 locs1 ls ⟨hP, hD⟩ hS1 hl
theorem J.cast {o N i : Nat} {x : Int32} (ho : kt o = 20000 + N) (hN : N < 10000) (hi : i < N) (hx : vp_nar .char x = x) (d : decode M.2.1 pc = .ok (.castore, 1)) (K : J g M R Q k n (WM g adr (wr μ o i x)) (pc + 1) l st) : J g M R Q k n (WM g adr μ) pc l (.int x :: .int (nI i) :: .ref (adr o) :: st) := by
  intro p ln e s m args below meth c C9 H locs ls hw hS hl
  have hd : ∀ m, kdc g adr o m (20000 + N) = .inl (g.2.2 2, N, .inl m) := fun m => kdc_c g adr o m hN
  have he : (WM g adr μ)[o]? = some (adr o, .inl (g.2.2 2, N, .inl (μ o))) := by rw [WM_get ho (by omega), hd]
  refine va_cast (D := g.2.1) C9.1 C9.2.1 C9.2.2.2.2.2.2.2.2.2.2.1 hw.1 hw.2 hS o 2 he rfl (vp_in_nI hi (by omega)) d (fun H1 locs1 hP hD hS1 => ?_)
  rw [nI_clamp (by omega), hx, WM_set ho (by omega) (hd _), wr_eq] at hP hD
  exact K p ln e s m args below meth c C9 H1 locs1 ls ⟨hP, hD⟩ hS1 hl
theorem J.zast {o N i : Nat} {x : Int32} (ho : kt o = 30000 + N) (hN : N < 10000) (hi : i < N) (hx : vp_nar .boolean x = x) (d : decode M.2.1 pc = .ok (.bastore, 1)) (K : J g M R Q k n (WM g adr (wr μ o i x)) (pc + 1) l st) : J g M R Q k n (WM g adr μ) pc l (.int x :: .int (nI i) :: .ref (adr o) :: st) := by
  intro p ln e s m args below meth c C9 H locs ls hw hS hl
  have hd : ∀ m, kdc g adr o m (30000 + N) = .inl (g.2.2 1, N, .inl m) := fun m => kdc_z g adr o m hN
  have he : (WM g adr μ)[o]? = some (adr o, .inl (g.2.2 1, N, .inl (μ o))) := by rw [WM_get ho (by omega), hd]
  refine va_zast (D := g.2.1) C9.1 C9.2.1 C9.2.2.2.2.2.2.2.2.2.2.1 hw.1 hw.2 hS o 1 he rfl (vp_in_nI hi (by omega)) d (fun H1 locs1 hP hD hS1 => ?_)
  rw [nI_clamp (by omega), hx, WM_set ho (by omega) (hd _), wr_eq] at hP hD
  exact K p ln e s m args below meth c C9 H1 locs1 ls ⟨hP, hD⟩ hS1 hl
theorem J.last {o i : Nat} {x : Int32} {y : Int64} (ho : kt o = 40001) (hi : i < 1) (hx : x.toInt64 = y) (d : decode M.2.1 pc = .ok (.lastore, 1)) (K : J g M R Q k n (WM g adr (wr μ o i x)) (pc + 1) l st) : J g M R Q k n (WM g adr μ) pc l (.long y :: .int (nI i) :: .ref (adr o) :: st) := by
  intro p ln e s m args below meth c C9 H locs ls hw hS hl
  have he : (WM g adr μ)[o]? = some (adr o, .inl (g.2.2 3, 1, .inr (.inl (fun j => (μ o j).toInt64)))) := by
    rw [WM_get ho (by omega), kdc_l g adr o]
  subst hx
  refine va_last (D := g.2.1) C9.1 C9.2.1 C9.2.2.2.2.2.2.2.2.2.2.1 hw.1 hw.2 hS o 3 he rfl (vp_in_nI hi (by omega)) d (fun H1 locs1 hP hD hS1 => ?_)
  have e9 : vp_updL (fun j => (μ o j).toInt64) i x.toInt64 = fun j => (upd (μ o) i x j).toInt64 := by
    funext j
    unfold vp_updL upd
    by_cases h : j = i
    · rw [if_pos h, if_pos h]
    · rw [if_neg h, if_neg h]
  rw [nI_clamp (by omega), e9, WM_set (m' := upd (μ o) i x) ho (by omega) (kdc_l g adr o _), wr_eq] at hP hD
  exact K p ln e s m args below meth c C9 H1 locs1 ls ⟨hP, hD⟩ hS1 hl
/-- the fixed rows of permutations -/
theorem J.aaldP {o i a : Nat} (d : decode M.2.1 pc = .ok (.aaload, 1)) (hi : i < 5) (ho : (kt o = 4 ∧ a = o + 2 + 2 * i) ∨ (kt o = 10 ∧ a = o + 5 + 6 * i) ∨ (kt o = 11 ∧ a = o + 6 + 6 * i) ∨ (kt o = 12 ∧ a = o + 7 + 6 * i)) (K : J g M R Q k n (WM g adr μ) (pc + 1) l (.ref (adr a) :: st)) : J g M R Q k n (WM g adr μ) pc l (.int (nI i) :: .ref (adr o) :: st) := by
  intro p ln e s m args below meth c C9 H locs ls hw hS hl
  rcases ho with ⟨h, rfl⟩ | ⟨h, rfl⟩ | ⟨h, rfl⟩ | ⟨h, rfl⟩ <;>
  · have he := WM_get (g := g) (adr := adr) (μ := μ) h (by omega)
    refine va_aldq (D := g.2.1) C9.1 C9.2.1 C9.2.2.2.2.2.2.2.2.2.2.1 hw.1 o 4 he rfl (vp_in_nI hi (by omega)) d ?_
    rw [nI_clamp (by omega)]
    exact K p ln e s m args below meth c C9 H locs ls hw hS hl
/-- the past's states -/
theorem J.aaldS {o i q : Nat} (d : decode M.2.1 pc = .ok (.aaload, 1)) (hi : i < 8) (ho : kt o = 7) (hq : μ o i = nI q) (hq2 : q < 8) (K : J g M R Q k n (WM g adr μ) (pc + 1) l (.ref (adr (22 + 19 * q)) :: st)) : J g M R Q k n (WM g adr μ) pc l (.int (nI i) :: .ref (adr o) :: st) := by
  intro p ln e s m args below meth c C9 H locs ls hw hS hl
  have he := WM_get (g := g) (adr := adr) (μ := μ) ho (by omega)
  refine va_aldq (D := g.2.1) C9.1 C9.2.1 C9.2.2.2.2.2.2.2.2.2.2.1 hw.1 o 5 he rfl (vp_in_nI hi (by omega)) d ?_
  rw [nI_clamp (by omega), hq, nI_clamp (by omega)]
  exact K p ln e s m args below meth c C9 H locs ls hw hS hl
theorem kt_S {q : Nat} (h : q < 8) : kt (22 + 19 * q) = 5 := by
  match q, h with
  | 0, _ => rfl
  | 1, _ => rfl
  | 2, _ => rfl
  | 3, _ => rfl
  | 4, _ => rfl
  | 5, _ => rfl
  | 6, _ => rfl
  | 7, _ => rfl
theorem J.aastS {o i q : Nat} (d : decode M.2.1 pc = .ok (.aastore, 1)) (hi : i < 8) (ho : kt o = 7) (hq2 : q < 8) (K : J g M R Q k n (WM g adr (wr μ o i (nI q))) (pc + 1) l st) : J g M R Q k n (WM g adr μ) pc l (.ref (adr (22 + 19 * q)) :: .int (nI i) :: .ref (adr o) :: st) := by
  intro p ln e s m args below meth c C9 H locs ls hw hS hl
  have he := WM_get (g := g) (adr := adr) (μ := μ) ho (by omega)
  have hv := WM_get (g := g) (adr := adr) (μ := μ) (kt_S hq2) (by omega)
  refine va_astq (D := g.2.1) C9.1 C9.2.1 C9.2.2.2.2.2.2.2.2.2.2.1 hw.1 hw.2 hS o 5 (22 + 19 * q) 6 (r := (RX6, TX6, 6)) he rfl hv rfl (vp_in_nI hi (by omega)) d (fun H1 locs1 hP hD hS1 => ?_)
  have e9 : kdc g adr o (upd (μ o) i (nI q)) 7 = .inl (g.2.2 5, 8, .inr (.inr (.inr (.inr (va_up (fun j => some (adr (22 + 19 * (μ o j).toNatClampNeg))) i (some (adr (22 + 19 * q)))))))) := by
    show Sum.inl (g.2.2 5, 8, Sum.inr (Sum.inr (Sum.inr (Sum.inr (fun j => some (adr (22 + 19 * (upd (μ o) i (nI q) j).toNatClampNeg)))))) ) = _
    congr 7
    funext j
    unfold va_up upd
    by_cases h : j = i
    · rw [if_pos h, if_pos h, nI_clamp (by omega)]
    · rw [if_neg h, if_neg h]
  rw [nI_clamp (by omega), WM_set ho (by omega) e9, wr_eq] at hP hD
  exact K p ln e s m args below meth c C9 H1 locs1 ls ⟨hP, hD⟩ hS1 hl
theorem J.copy {idx o1 o2 N1 N2 sp dp z : Nat} (f : Cond.methodLink M.1 idx arraycopyName ∈ BIG) (f2 : Cond.native arraycopyName ∈ BIG) (f3 : Cond.static arraycopyName ∈ BIG) (f4 : Cond.initialized "java/lang/System" ∈ BIG)
    (h1 : kt o1 = 1000 + N1) (h2 : kt o2 = 1000 + N2) (h3 : sp + z ≤ N1) (h4 : dp + z ≤ N2) (h5 : N1 < 19000) (h6 : N2 < 19000) (h7 : 0 < N1) (h8 : 0 < N2) (hf : 1 ≤ R.frames) (hR : (st.map fun v => v.category).sum + (nativeFrameWords "java/lang/System" "arraycopy" 5 + 11) ≤ R.locals)
    (d : decode M.2.1 pc = .ok (.invokestatic idx, 3)) (K : J g M R Q k n (WM g adr (cpy μ o1 sp o2 dp z)) (pc + 3) l st) : J g M R Q k n (WM g adr μ) pc l (.int (nI z) :: .int (nI dp) :: .ref (adr o2) :: .int (nI sp) :: .ref (adr o1) :: st) := by
  intro p ln e s m args below meth c C9 H locs ls hw hS hl
  have hd : ∀ (o N : Nat) m, N < 19000 → 0 < N → kdc g adr o m (1000 + N) = .inl (g.2.2 0, N, .inl m) := by
    intro o N m q1 _
    exact kdc_i g adr o m q1
  have he1 : (WM g adr μ)[o1]? = some (adr o1, .inl (g.2.2 0, N1, .inl (μ o1))) := by rw [WM_get h1 (by omega), hd o1 N1 _ h5 h7]
  have he2 : (WM g adr μ)[o2]? = some (adr o2, .inl (g.2.2 0, N2, .inl (μ o2))) := by rw [WM_get h2 (by omega), hd o2 N2 _ h6 h8]
  have c1 : (nI sp).toNatClampNeg = sp := nI_clamp (by omega)
  have c2 : (nI dp).toNatClampNeg = dp := nI_clamp (by omega)
  have c3 : (nI z).toNatClampNeg = z := nI_clamp (by omega)
  refine va_copyi (D := g.2.1) C9.1 C9.2.1 (C9.2.2.1.trans hl.1.symm) (own := M.1) (index := idx) C9.2.2.2.2.1 (C9.2.2.2.2.2.1 _ f) (C9.2.2.2.2.2.1 _ f2) (C9.2.2.2.2.2.1 _ f3) (C9.2.2.2.2.2.1 _ f4) C9.2.2.2.2.2.2.2.2.2.2.1 hw.1 hw.2 hS o1 o2 0 0 (ty := .int) he1 he2 rfl rfl rfl
    (nI_pos (by omega)) (nI_pos (by omega)) (nI_pos (by omega)) (by rw [c1, c3]; exact h3) (by rw [c2, c3]; exact h4) (fun i _ => rfl) hf hR d (fun H1 locs1 hP hD hS1 => ?_)
  have e9 : (fun o' => if o' = o2 then va_cpy (μ o1) (μ o2) sp dp z else μ o') = cpy μ o1 sp o2 dp z := by
    funext o' k'
    unfold cpy
    by_cases h : o' = o2
    · rw [if_pos h, if_pos h]
    · rw [if_neg h, if_neg h]
  rw [c1, c2, c3, WM_set h2 (by omega) (hd o2 N2 _ h6 h8), e9] at hP hD
  exact K p ln e s m args below meth c C9 H1 locs1 ls ⟨hP, hD⟩ hS1 hl
end MM
