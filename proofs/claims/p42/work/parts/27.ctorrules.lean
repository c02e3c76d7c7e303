/-! ===== rules for constructors: worlds that grow ===== -/
theorem RA_uniq {U : State} {c1 c2 : ClassId} {ty : FieldType} (h1 : va_RA U c1 ty) (h2 : va_RA U c2 ty) : c1 = c2 := by
  cases ty with
  | object C =>
    obtain ⟨_, _, _, _, _, h1⟩ := h1
    obtain ⟨_, _, _, _, _, h2⟩ := h2
    exact Option.some.inj (h1.symm.trans h2)
  | _ => exact Option.some.inj (Eq.trans (Eq.symm h1) h2)
theorem ap_get {α : Type} {a r : List α} {i : Nat} {x : α} (h : r[i]? = some x) : (a ++ r)[a.length + i]? = some x := by
  rw [List.getElem?_append_right (by omega), Nat.add_sub_cancel_left]; exact h
theorem ap_set {α : Type} {r : List α} {i : Nat} {x : α} : ∀ {a : List α}, (a ++ r).set (a.length + i) x = a ++ r.set i x
  | [] => by rw [List.length_nil, Nat.zero_add]; rfl
  | y :: a => by
    rw [List.length_cons, show a.length + 1 + i = (a.length + i) + 1 by omega]
    show y :: (a ++ r).set (a.length + i) x = y :: (a ++ r.set i x)
    rw [ap_set (a := a)]
section CC
variable {g : GP} {M : MI} {R : Room} {Q : QT} {k n pc : Nat} {w w0 r : va_W} {l : List (Option Value)} {st : List Value}
theorem J.newX {C : String} {T : u_T} {N ci idx : Nat} {fs : List Value} (hin : ∀ z ∈ u_ws C T N, z ∈ BIG) (ty0 : Nat → FieldType) (hty : ∀ k, k < N → parseFieldDescriptor (T k).2.2.1 = some (ty0 k)) (hc : vwCl[ci]? = some (C, T, N))
    (f1 : Cond.classLink M.1 idx C ∈ BIG) (f2 : Cond.instantiable C N ∈ BIG) (f3 : Cond.initialized C ∈ BIG) (hfs : ∀ j, j < N → defaultValue (ty0 j) = vp_V fs j) (hcells : k + 1 ≤ R.cells) (hslots : n + N ≤ R.slots)
    (d : decode M.2.1 pc = .ok (.new idx, 3)) (K : ∀ q, J g M R Q (k + 1) (n + N) (w0 ++ (r ++ [(q, .inr (ci, fs))])) (pc + 3) l (.ref q :: st)) : J g M R Q k n (w0 ++ r) pc l st := by
  intro p ln e s m args below meth c C9 H locs ls hw hS hl
  have hamb := C9.2.2.2.2.2.2.2.2.2.2
  refine va_new (D := g.2.1) C9.1 C9.2.1 (own := M.1) C9.2.2.2.2.2.1 hin ty0 hty C9.2.2.2.2.1 (C9.2.2.2.2.2.1 _ f1) (C9.2.2.2.2.2.1 _ f2) (C9.2.2.2.2.2.1 _ f3) hamb.1 hw.1 hw.2 hS (fun q hq => Nat.le_trans hamb.2.2.2.2.1 hq) hc hfs hcells hslots d (fun q H1 hP1 hD1 hS1 => ?_)
  rw [List.append_assoc] at hP1 hD1
  exact K q p ln e s m args below meth c C9 H1 locs ls ⟨hP1, hD1⟩ hS1 hl
theorem J.newA {atype : ArrayType} {ty : FieldType} {t N : Nat} {cA : ClassId} {a0 : vp_A} (hty : newarray.typeOf atype = ty) (ht : (gtys g)[t]? = some (cA, ty)) (f : Cond.arrayClass ty ∈ BIG) (ha : ∀ c : ClassId, vp_cell c a0 = arrV c N (fun _ => defaultValue ty))
    (hN : N < 2147483648) (hbytes : N * componentBytes ty ≤ 536870912) (hcells : k + 1 ≤ R.cells) (hslots : n + N ≤ R.slots) (d : decode M.2.1 pc = .ok (.newarray atype, 2))
    (K : ∀ q, J g M R Q (k + 1) (n + N) (w0 ++ (r ++ [(q, .inl (cA, a0))])) (pc + 2) l (.ref q :: st)) : J g M R Q k n (w0 ++ r) pc l (.int (nI N) :: st) := by
  intro p ln e s m args below meth c C9 H locs ls hw hS hl
  have hamb := C9.2.2.2.2.2.2.2.2.2.2
  refine va_newa (D := g.2.1) C9.1 C9.2.1 (by rw [hty]; exact C9.2.2.2.2.2.1 _ f) hty hamb.1 hw.1 hw.2 hS (fun q hq => Nat.le_trans hamb.2.2.2.2.1 hq) ha (fun q => by
      have := (nI_ltI (a := N) (b := 0) (by omega) (by decide)).mp (by rw [nI_0]; exact q); omega) (nI_clamp (by omega)) hbytes hcells hslots d (fun q cA1 H1 hK1 hP1 hD1 hS1 => ?_)
  have e9 : cA1 = cA := RA_uniq (hK1.2 (gtys g).length (cA1, ty) (by rw [List.getElem?_append_right (Nat.le_refl _), Nat.sub_self]; rfl)).2 (hamb.1.2 t _ ht).2
  subst e9
  rw [List.append_assoc] at hP1 hD1
  exact K q p ln e s m args below meth c C9 H1 locs ls ⟨hP1, hD1⟩ hS1 hl
theorem J.newQ {C : String} {idx t N : Nat} {cA : ClassId} (ho : C ∈ aos) (ht : (gtys g)[t]? = some (cA, .object C)) (f : Cond.classLink M.1 idx C ∈ BIG)
    (hN : N < 100000) (hcells : k + 1 ≤ R.cells) (hslots : n + N ≤ R.slots) (d : decode M.2.1 pc = .ok (.anewarray idx, 3))
    (K : ∀ q, J g M R Q (k + 1) (n + N) (w0 ++ (r ++ [(q, .inl (cA, N, .inr (.inr (.inr (.inr (fun _ => none))))))])) (pc + 3) l (.ref q :: st)) : J g M R Q k n (w0 ++ r) pc l (.int (nI N) :: st) := by
  intro p ln e s m args below meth c C9 H locs ls hw hS hl
  have hamb := C9.2.2.2.2.2.2.2.2.2.2
  refine va_newq (D := g.2.1) C9.1 C9.2.1 (own := M.1) C9.2.2.2.2.1 (C9.2.2.2.2.2.1 _ f) (hamb.2.2.2.2.2.2.2.1 C ho) hamb.1 hw.1 hw.2 hS (fun q hq => Nat.le_trans hamb.2.2.2.2.1 hq) (fun q => by
      have := (nI_ltI (a := N) (b := 0) (by omega) (by decide)).mp (by rw [nI_0]; exact q); omega) (nI_clamp (by omega)) (by omega) hcells hslots d (fun q cA1 H1 hK1 hP1 hD1 hS1 => ?_)
  have e9 : cA1 = cA := RA_uniq (hK1.2 (gtys g).length (cA1, .object C) (by rw [List.getElem?_append_right (Nat.le_refl _), Nat.sub_self]; rfl)).2 (hamb.1.2 t _ ht).2
  subst e9
  rw [List.append_assoc] at hP1 hD1
  exact K q p ln e s m args below meth c C9 H1 locs ls ⟨hP1, hD1⟩ hS1 hl
theorem J.getX {C : String} {T : u_T} {N ci idx kf i a : Nat} {fs : List Value} {v : Value} (hin : ∀ z ∈ u_ws C T N, z ∈ BIG) (hc : vwCl[ci]? = some (C, T, N)) (hk : kf < N) (f : Cond.fieldLink M.1 idx (T kf).1 (T kf).2.1 (T kf).2.2.1 ∈ BIG)
    (he : r[i]? = some (a, .inr (ci, fs))) (hv : fs[kf]? = some v) (d : decode M.2.1 pc = .ok (.getfield idx, 3)) (K : J g M R Q k n (w0 ++ r) (pc + 3) l (v :: st)) : J g M R Q k n (w0 ++ r) pc l (.ref a :: st) :=
  J.getF hin hc hk f (ap_get he) hv d K
theorem J.putX {C : String} {T : u_T} {N ci idx kf i a : Nat} {fs : List Value} {v : Value} {ty : FieldType} (hin : ∀ z ∈ u_ws C T N, z ∈ BIG) (ty0 : Nat → FieldType) (hty : ∀ k, k < N → parseFieldDescriptor (T k).2.2.1 = some (ty0 k)) (hnm : ∀ a, a < N → ∀ b, b < N → a ≠ b → (T a).2.1 ≠ (T b).2.1) (hc : vwCl[ci]? = some (C, T, N)) (hk : kf < N) (f : Cond.fieldLink M.1 idx (T kf).1 (T kf).2.1 (T kf).2.2.1 ∈ BIG)
    (he : r[i]? = some (a, .inr (ci, fs))) (hfin : (T kf).2.2.2 = false) (hd : parseFieldDescriptor (T kf).2.2.1 = some ty) (hn : narrow ty v = v) (hfit : fits ty v = true) (hl9 : kf < fs.length) (d : decode M.2.1 pc = .ok (.putfield idx, 3)) (K : J g M R Q k n (w0 ++ r.set i (a, .inr (ci, fs.set kf v))) (pc + 3) l st) : J g M R Q k n (w0 ++ r) pc l (v :: .ref a :: st) :=
  J.putF hin ty0 hty hnm hc hk f (ap_get he) hfin hd hn hfit hl9 d (by rw [ap_set]; exact K)
theorem J.putXF {C : String} {T : u_T} {N ci idx kf i a : Nat} {fs : List Value} {v : Value} {ty : FieldType} (hin : ∀ z ∈ u_ws C T N, z ∈ BIG) (ty0 : Nat → FieldType) (hty : ∀ k, k < N → parseFieldDescriptor (T k).2.2.1 = some (ty0 k)) (hnm : ∀ a, a < N → ∀ b, b < N → a ≠ b → (T a).2.1 ≠ (T b).2.1) (hc : vwCl[ci]? = some (C, T, N)) (hk : kf < N) (f : Cond.fieldLink M.1 idx (T kf).1 (T kf).2.1 (T kf).2.2.1 ∈ BIG)
    (he : r[i]? = some (a, .inr (ci, fs))) (hfin : (T kf).2.2.2 = true) (hi0 : M.2.2.2.2.2 = true) (hdecl : (T kf).1 = M.1) (hd : parseFieldDescriptor (T kf).2.2.1 = some ty) (hn : narrow ty v = v) (hfit : fits ty v = true) (hl9 : kf < fs.length) (d : decode M.2.1 pc = .ok (.putfield idx, 3)) (K : J g M R Q k n (w0 ++ r.set i (a, .inr (ci, fs.set kf v))) (pc + 3) l st) : J g M R Q k n (w0 ++ r) pc l (v :: .ref a :: st) :=
  fun p ln e s m args below meth c C9 H locs ls hw hS hl => va_putF (D := g.2.1) C9.1 C9.2.1 (own := M.1) C9.2.2.2.2.2.1 hin ty0 hty hnm C9.2.2.2.2.1 C9.2.2.2.2.2.2.2.2.2.2.1 hw.1 hw.2 hS (w0.length + i) (ap_get he) hc kf hk (C9.2.2.2.2.2.1 _ f) (fun _ h => h) hfin (C9.2.2.2.2.2.2.2.2.2.1 hi0) hdecl hd hn hfit hl9 d (fun H1 locs1 hP hD hS1 => K p ln e s m args below meth c C9 H1 locs1 ls (by rw [ap_set] at hP hD; exact ⟨hP, hD⟩) hS1 hl)
theorem J.iastX {i a N j : Nat} {x : Int32} {f : Nat → Int32} (he : r[i]? = some (a, .inl (g.2.2 0, N, .inl f))) (hj : j < N) (hN : N < 2147483648) (d : decode M.2.1 pc = .ok (.iastore, 1)) (K : J g M R Q k n (w0 ++ r.set i (a, .inl (g.2.2 0, N, .inl (upd f j x)))) (pc + 1) l st) : J g M R Q k n (w0 ++ r) pc l (.int x :: .int (nI j) :: .ref a :: st) := by
  intro p ln e s m args below meth c C9 H locs ls hw hS hl
  refine va_iast (D := g.2.1) C9.1 C9.2.1 C9.2.2.2.2.2.2.2.2.2.2.1 hw.1 hw.2 hS (w0.length + i) 0 (ap_get he) rfl (vp_in_nI hj (by omega)) d (fun H1 locs1 hP hD hS1 => ?_)
  rw [nI_clamp (by omega), ap_set] at hP hD
  exact K p ln e s m args below meth c C9 H1 locs1 ls ⟨hP, hD⟩ hS1 hl
theorem J.qastX {i a N j t iv v ci : Nat} {cA : ClassId} {q : vw_C} {vs : List Value} {f : Nat → Option Nat} (he : r[i]? = some (a, .inl (cA, N, .inr (.inr (.inr (.inr f)))))) (ht : (gtys g)[t]? = some (cA, .object q.1)) (hv : r[iv]? = some (v, .inr (ci, vs))) (hc : vwCl[ci]? = some q) (hj : j < N) (hN : N < 2147483648) (d : decode M.2.1 pc = .ok (.aastore, 1))
    (K : J g M R Q k n (w0 ++ r.set i (a, .inl (cA, N, .inr (.inr (.inr (.inr (va_up f j (some v)))))))) (pc + 1) l st) : J g M R Q k n (w0 ++ r) pc l (.ref v :: .int (nI j) :: .ref a :: st) := by
  intro p ln e s m args below meth c C9 H locs ls hw hS hl
  refine va_astq (D := g.2.1) C9.1 C9.2.1 C9.2.2.2.2.2.2.2.2.2.2.1 hw.1 hw.2 hS (w0.length + i) t (w0.length + iv) ci (r := q) (ap_get he) ht (ap_get hv) hc (vp_in_nI hj (by omega)) d (fun H1 locs1 hP hD hS1 => ?_)
  rw [nI_clamp (by omega), ap_set] at hP hD
  exact K p ln e s m args below meth c C9 H1 locs1 ls ⟨hP, hD⟩ hS1 hl
end CC
