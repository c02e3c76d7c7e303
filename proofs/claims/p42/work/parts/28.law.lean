/-! ===== the law's own cells: rules (places of the list behind the system's cells) ===== -/
section LW
variable {g : GP} {M : MI} {R : Room} {Q : QT} {k n pc : Nat} {w e : va_W} {l : List (Option Value)} {st : List Value} {adr : Nat → Nat} {μ : Mem}
theorem J.ofx (K : J (gx g e) M R Q k n w pc l st) : J g M R Q k n w pc l st := K
theorem J.tox (K : J g M R Q k n w pc l st) : J (gx g e) M R Q k n w pc l st := K
theorem J.newAL {atype : ArrayType} {ty : FieldType} {t N : Nat} {cA : ClassId} {a0 : vp_A} (hty : newarray.typeOf atype = ty) (ht : (gtys g)[t]? = some (cA, ty)) (f : Cond.arrayClass ty ∈ BIG) (ha : ∀ c : ClassId, vp_cell c a0 = arrV c N (fun _ => defaultValue ty))
    (hN : N < 2147483648) (hbytes : N * componentBytes ty ≤ 536870912) (hcells : k + 1 ≤ R.cells) (hslots : n + N ≤ R.slots) (d : decode M.2.1 pc = .ok (.newarray atype, 2))
    (K : ∀ q, J (gx g (e ++ [(q, .inl (cA, a0))])) M R Q (k + 1) (n + N) (WM (gx g (e ++ [(q, .inl (cA, a0))])) adr μ) (pc + 2) l (.ref q :: st)) : J (gx g e) M R Q k n (WM (gx g e) adr μ) pc l (.int (nI N) :: st) :=
  J.newA (g := gx g e) (w0 := WB (gx g e) adr μ) (r := e) hty ht f ha hN hbytes hcells hslots d (fun q => K q)
theorem J.newOL {C : String} {T : u_T} {N ci idx : Nat} {fs : List Value} (hin : ∀ z ∈ u_ws C T N, z ∈ BIG) (ty0 : Nat → FieldType) (hty : ∀ k, k < N → parseFieldDescriptor (T k).2.2.1 = some (ty0 k)) (hc : vwCl[ci]? = some (C, T, N))
    (f1 : Cond.classLink M.1 idx C ∈ BIG) (f2 : Cond.instantiable C N ∈ BIG) (f3 : Cond.initialized C ∈ BIG) (hfs : ∀ j, j < N → defaultValue (ty0 j) = vp_V fs j) (hcells : k + 1 ≤ R.cells) (hslots : n + N ≤ R.slots)
    (d : decode M.2.1 pc = .ok (.new idx, 3)) (K : ∀ q, J (gx g (e ++ [(q, .inr (ci, fs))])) M R Q (k + 1) (n + N) (WM (gx g (e ++ [(q, .inr (ci, fs))])) adr μ) (pc + 3) l (.ref q :: st)) : J (gx g e) M R Q k n (WM (gx g e) adr μ) pc l st :=
  J.newX (g := gx g e) (w0 := WB (gx g e) adr μ) (r := e) hin ty0 hty hc f1 f2 f3 hfs hcells hslots d (fun q => K q)
theorem J.getL {C : String} {T : u_T} {N ci idx kf i a : Nat} {fs : List Value} {v : Value} (hin : ∀ z ∈ u_ws C T N, z ∈ BIG) (hc : vwCl[ci]? = some (C, T, N)) (hk : kf < N) (f : Cond.fieldLink M.1 idx (T kf).1 (T kf).2.1 (T kf).2.2.1 ∈ BIG)
    (he : e[i]? = some (a, .inr (ci, fs))) (hv : fs[kf]? = some v) (d : decode M.2.1 pc = .ok (.getfield idx, 3)) (K : J (gx g e) M R Q k n (WM (gx g e) adr μ) (pc + 3) l (v :: st)) : J (gx g e) M R Q k n (WM (gx g e) adr μ) pc l (.ref a :: st) :=
  J.getX (g := gx g e) (w0 := WB (gx g e) adr μ) (r := e) hin hc hk f he hv d K
theorem J.putL {C : String} {T : u_T} {N ci idx kf i a : Nat} {fs : List Value} {v : Value} {ty : FieldType} (hin : ∀ z ∈ u_ws C T N, z ∈ BIG) (ty0 : Nat → FieldType) (hty : ∀ k, k < N → parseFieldDescriptor (T k).2.2.1 = some (ty0 k)) (hnm : ∀ a, a < N → ∀ b, b < N → a ≠ b → (T a).2.1 ≠ (T b).2.1) (hc : vwCl[ci]? = some (C, T, N)) (hk : kf < N) (f : Cond.fieldLink M.1 idx (T kf).1 (T kf).2.1 (T kf).2.2.1 ∈ BIG)
    (he : e[i]? = some (a, .inr (ci, fs))) (hfin : (T kf).2.2.2 = false) (hd : parseFieldDescriptor (T kf).2.2.1 = some ty) (hn : narrow ty v = v) (hfit : fits ty v = true) (hl9 : kf < fs.length) (d : decode M.2.1 pc = .ok (.putfield idx, 3)) (K : J (gx g (e.set i (a, .inr (ci, fs.set kf v)))) M R Q k n (WM (gx g (e.set i (a, .inr (ci, fs.set kf v)))) adr μ) (pc + 3) l st) : J (gx g e) M R Q k n (WM (gx g e) adr μ) pc l (v :: .ref a :: st) :=
  J.putX (g := gx g e) (w0 := WB (gx g e) adr μ) (r := e) hin ty0 hty hnm hc hk f he hfin hd hn hfit hl9 d K
theorem J.putLF {C : String} {T : u_T} {N ci idx kf i a : Nat} {fs : List Value} {v : Value} {ty : FieldType} (hin : ∀ z ∈ u_ws C T N, z ∈ BIG) (ty0 : Nat → FieldType) (hty : ∀ k, k < N → parseFieldDescriptor (T k).2.2.1 = some (ty0 k)) (hnm : ∀ a, a < N → ∀ b, b < N → a ≠ b → (T a).2.1 ≠ (T b).2.1) (hc : vwCl[ci]? = some (C, T, N)) (hk : kf < N) (f : Cond.fieldLink M.1 idx (T kf).1 (T kf).2.1 (T kf).2.2.1 ∈ BIG)
    (he : e[i]? = some (a, .inr (ci, fs))) (hfin : (T kf).2.2.2 = true) (hi0 : M.2.2.2.2.2 = true) (hdecl : (T kf).1 = M.1) (hd : parseFieldDescriptor (T kf).2.2.1 = some ty) (hn : narrow ty v = v) (hfit : fits ty v = true) (hl9 : kf < fs.length) (d : decode M.2.1 pc = .ok (.putfield idx, 3)) (K : J (gx g (e.set i (a, .inr (ci, fs.set kf v)))) M R Q k n (WM (gx g (e.set i (a, .inr (ci, fs.set kf v)))) adr μ) (pc + 3) l st) : J (gx g e) M R Q k n (WM (gx g e) adr μ) pc l (v :: .ref a :: st) :=
  J.putXF (g := gx g e) (w0 := WB (gx g e) adr μ) (r := e) hin ty0 hty hnm hc hk f he hfin hi0 hdecl hd hn hfit hl9 d K
theorem J.iastL {i a N j : Nat} {x : Int32} {f : Nat → Int32} (he : e[i]? = some (a, .inl (g.2.2 0, N, .inl f))) (hj : j < N) (hN : N < 2147483648) (d : decode M.2.1 pc = .ok (.iastore, 1)) (K : J (gx g (e.set i (a, .inl (g.2.2 0, N, .inl (upd f j x))))) M R Q k n (WM (gx g (e.set i (a, .inl (g.2.2 0, N, .inl (upd f j x))))) adr μ) (pc + 1) l st) : J (gx g e) M R Q k n (WM (gx g e) adr μ) pc l (.int x :: .int (nI j) :: .ref a :: st) :=
  J.iastX (g := gx g e) (w0 := WB (gx g e) adr μ) (r := e) he hj hN d K
theorem J.ialdL {i a N j : Nat} {x : Int32} {f : Nat → Int32} (he : e[i]? = some (a, .inl (g.2.2 0, N, .inl f))) (hj : j < N) (hN : N < 2147483648) (hx : f j = x) (d : decode M.2.1 pc = .ok (.iaload, 1)) (K : J (gx g e) M R Q k n (WM (gx g e) adr μ) (pc + 1) l (.int x :: st)) : J (gx g e) M R Q k n (WM (gx g e) adr μ) pc l (.int (nI j) :: .ref a :: st) := by
  intro p ln e9 s m args below meth c C9 H locs ls hw hS hl
  refine va_iald (D := g.2.1) C9.1 C9.2.1 C9.2.2.2.2.2.2.2.2.2.2.1 hw.1 (NC + i) 0 (WX_get.trans he) rfl (vp_in_nI hj (by omega)) d ?_
  rw [nI_clamp (by omega), hx]
  exact K p ln e9 s m args below meth c C9 H locs ls hw hS hl
theorem J.zaldL {i a N j : Nat} {x : Int32} {f : Nat → Int32} (he : e[i]? = some (a, .inl (g.2.2 1, N, .inl f))) (hj : j < N) (hN : N < 2147483648) (hx : f j = x) (d : decode M.2.1 pc = .ok (.baload, 1)) (K : J (gx g e) M R Q k n (WM (gx g e) adr μ) (pc + 1) l (.int x :: st)) : J (gx g e) M R Q k n (WM (gx g e) adr μ) pc l (.int (nI j) :: .ref a :: st) := by
  intro p ln e9 s m args below meth c C9 H locs ls hw hS hl
  refine va_zald (D := g.2.1) C9.1 C9.2.1 C9.2.2.2.2.2.2.2.2.2.2.1 hw.1 (NC + i) 1 (WX_get.trans he) rfl (vp_in_nI hj (by omega)) d ?_
  rw [nI_clamp (by omega), hx]
  exact K p ln e9 s m args below meth c C9 H locs ls hw hS hl
theorem J.zastL {i a N j : Nat} {x : Int32} {f : Nat → Int32} (he : e[i]? = some (a, .inl (g.2.2 1, N, .inl f))) (hj : j < N) (hN : N < 2147483648) (hx : vp_nar .boolean x = x) (d : decode M.2.1 pc = .ok (.bastore, 1)) (K : J (gx g (e.set i (a, .inl (g.2.2 1, N, .inl (upd f j x))))) M R Q k n (WM (gx g (e.set i (a, .inl (g.2.2 1, N, .inl (upd f j x))))) adr μ) (pc + 1) l st) : J (gx g e) M R Q k n (WM (gx g e) adr μ) pc l (.int x :: .int (nI j) :: .ref a :: st) := by
  intro p ln e9 s m args below meth c C9 H locs ls hw hS hl
  refine va_zast (D := g.2.1) C9.1 C9.2.1 C9.2.2.2.2.2.2.2.2.2.2.1 hw.1 hw.2 hS (NC + i) 1 (WX_get.trans he) rfl (vp_in_nI hj (by omega)) d (fun H1 locs1 hP hD hS1 => ?_)
  rw [nI_clamp (by omega), hx, WX_set] at hP hD
  exact K p ln e9 s m args below meth c C9 H1 locs1 ls ⟨hP, hD⟩ hS1 hl
theorem J.baldL {i a N j : Nat} {x : Int32} {f : Nat → Int32} (he : e[i]? = some (a, .inl (g.2.2 6, N, .inl f))) (hj : j < N) (hN : N < 2147483648) (hx : f j = x) (d : decode M.2.1 pc = .ok (.baload, 1)) (K : J (gx g e) M R Q k n (WM (gx g e) adr μ) (pc + 1) l (.int x :: st)) : J (gx g e) M R Q k n (WM (gx g e) adr μ) pc l (.int (nI j) :: .ref a :: st) := by
  intro p ln e9 s m args below meth c C9 H locs ls hw hS hl
  refine va_bald (D := g.2.1) C9.1 C9.2.1 C9.2.2.2.2.2.2.2.2.2.2.1 hw.1 (NC + i) 6 (WX_get.trans he) rfl (vp_in_nI hj (by omega)) d ?_
  rw [nI_clamp (by omega), hx]
  exact K p ln e9 s m args below meth c C9 H locs ls hw hS hl
theorem J.bastL {i a N j : Nat} {x y : Int32} {f : Nat → Int32} (he : e[i]? = some (a, .inl (g.2.2 6, N, .inl f))) (hj : j < N) (hN : N < 2147483648) (hx : vp_nar .byte x = y) (d : decode M.2.1 pc = .ok (.bastore, 1)) (K : J (gx g (e.set i (a, .inl (g.2.2 6, N, .inl (upd f j y))))) M R Q k n (WM (gx g (e.set i (a, .inl (g.2.2 6, N, .inl (upd f j y))))) adr μ) (pc + 1) l st) : J (gx g e) M R Q k n (WM (gx g e) adr μ) pc l (.int x :: .int (nI j) :: .ref a :: st) := by
  intro p ln e9 s m args below meth c C9 H locs ls hw hS hl
  refine va_bast (D := g.2.1) C9.1 C9.2.1 C9.2.2.2.2.2.2.2.2.2.2.1 hw.1 hw.2 hS (NC + i) 6 (WX_get.trans he) rfl (vp_in_nI hj (by omega)) d (fun H1 locs1 hP hD hS1 => ?_)
  rw [nI_clamp (by omega), hx, WX_set] at hP hD
  exact K p ln e9 s m args below meth c C9 H1 locs1 ls ⟨hP, hD⟩ hS1 hl
theorem J.laldL {i a N j : Nat} {x : Int64} {f : Nat → Int64} (he : e[i]? = some (a, .inl (g.2.2 3, N, .inr (.inl f)))) (hj : j < N) (hN : N < 2147483648) (hx : f j = x) (d : decode M.2.1 pc = .ok (.laload, 1)) (K : J (gx g e) M R Q k n (WM (gx g e) adr μ) (pc + 1) l (.long x :: st)) : J (gx g e) M R Q k n (WM (gx g e) adr μ) pc l (.int (nI j) :: .ref a :: st) := by
  intro p ln e9 s m args below meth c C9 H locs ls hw hS hl
  refine va_lald (D := g.2.1) C9.1 C9.2.1 C9.2.2.2.2.2.2.2.2.2.2.1 hw.1 (NC + i) 3 (WX_get.trans he) rfl (vp_in_nI hj (by omega)) d ?_
  rw [nI_clamp (by omega), hx]
  exact K p ln e9 s m args below meth c C9 H locs ls hw hS hl
theorem J.lastL {i a N j : Nat} {x : Int64} {f : Nat → Int64} (he : e[i]? = some (a, .inl (g.2.2 3, N, .inr (.inl f)))) (hj : j < N) (hN : N < 2147483648) (d : decode M.2.1 pc = .ok (.lastore, 1)) (K : J (gx g (e.set i (a, .inl (g.2.2 3, N, .inr (.inl (vp_updL f j x)))))) M R Q k n (WM (gx g (e.set i (a, .inl (g.2.2 3, N, .inr (.inl (vp_updL f j x)))))) adr μ) (pc + 1) l st) : J (gx g e) M R Q k n (WM (gx g e) adr μ) pc l (.long x :: .int (nI j) :: .ref a :: st) := by
  intro p ln e9 s m args below meth c C9 H locs ls hw hS hl
  refine va_last (D := g.2.1) C9.1 C9.2.1 C9.2.2.2.2.2.2.2.2.2.2.1 hw.1 hw.2 hS (NC + i) 3 (WX_get.trans he) rfl (vp_in_nI hj (by omega)) d (fun H1 locs1 hP hD hS1 => ?_)
  rw [nI_clamp (by omega), WX_set] at hP hD
  exact K p ln e9 s m args below meth c C9 H1 locs1 ls ⟨hP, hD⟩ hS1 hl
theorem J.alenL {i a t : Nat} {cA : ClassId} {x : vp_A} {ty : FieldType} {v : Int32} (he : e[i]? = some (a, .inl (cA, x))) (ht : (gtys g)[t]? = some (cA, ty)) (hv : Int32.ofNat x.1 = v) (d : decode M.2.1 pc = .ok (.arraylength, 1)) (K : J (gx g e) M R Q k n (WM (gx g e) adr μ) (pc + 1) l (.int v :: st)) : J (gx g e) M R Q k n (WM (gx g e) adr μ) pc l (.ref a :: st) :=
  fun p ln e9 s m args below meth c C9 H locs ls hw hS hl => va_alen (D := g.2.1) C9.1 C9.2.1 C9.2.2.2.2.2.2.2.2.2.2.1 hw.1 (NC + i) t (WX_get.trans he) ht hv d (K p ln e9 s m args below meth c C9 H locs ls hw hS hl)
/-! what is only read -/
theorem ambX {g : GP} {U : State} (h : Amb g U) : AmbX g U := h.2.2.2.2.2.2.2.2
theorem J.sld {i : Nat} {x : Int32} (hi : i < gL g) (hL : gL g < 2147483648) (hx : gXs g i = x) (d : decode M.2.1 pc = .ok (.iaload, 1)) (K : J g M R Q k n w (pc + 1) l (.int x :: st)) : J g M R Q k n w pc l (.int (nI i) :: .ref (gB g) :: st) := by
  intro p ln e9 s m args below meth c C9 H locs ls hw hS hl
  obtain ⟨h1, h2, h3⟩ := (ambX C9.2.2.2.2.2.2.2.2.2.2).1
  refine va_sld (i := nI i) C9.1 C9.2.1 h3 h2 (show ¬ g.1.1 ≤ gB g from Nat.not_le.mpr h1) hS (vp_in_nI hi (by omega)) d ?_
  rw [nI_clamp (by omega), hx]
  exact K p ln e9 s m args below meth c C9 H locs ls hw hS hl
theorem J.slen (d : decode M.2.1 pc = .ok (.arraylength, 1)) (K : J g M R Q k n w (pc + 1) l (.int (nI (gL g)) :: st)) : J g M R Q k n w pc l (.ref (gB g) :: st) := by
  intro p ln e9 s m args below meth c C9 H locs ls hw hS hl
  obtain ⟨h1, h2, h3⟩ := (ambX C9.2.2.2.2.2.2.2.2.2.2).1
  exact va_slen C9.1 C9.2.1 h3 h2 (show ¬ g.1.1 ≤ gB g from Nat.not_le.mpr h1) hS d (K p ln e9 s m args below meth c C9 H locs ls hw hS hl)
theorem J.compact {idx : Nat} (f : Cond.fieldLink M.1 idx "java/lang/String" "COMPACT_STRINGS" "Z" ∈ BIG) (d : decode M.2.1 pc = .ok (.getstatic idx, 3)) (K : J g M R Q k n w (pc + 3) l (.int (nI 1) :: st)) : J g M R Q k n w pc l st :=
  fun p ln e9 s m args below meth c C9 H locs ls hw hS hl => va_gets C9.1 C9.2.1 (v := .int 1) (ambX C9.2.2.2.2.2.2.2.2.2.2).2.1 hS C9.2.2.2.2.1 (C9.2.2.2.2.2.1 _ f) (fun _ h => h) d (K p ln e9 s m args below meth c C9 H locs ls hw hS hl)
theorem J.ones {idx : Nat} (f : Cond.fieldLink M.1 idx "java/lang/Integer" "DigitOnes" "[B" ∈ BIG) (d : decode M.2.1 pc = .ok (.getstatic idx, 3)) (K : J g M R Q k n w (pc + 3) l (.ref (gT1 g) :: st)) : J g M R Q k n w pc l st :=
  fun p ln e9 s m args below meth c C9 H locs ls hw hS hl => va_gets C9.1 C9.2.1 (ambX C9.2.2.2.2.2.2.2.2.2.2).2.2.2.1.1 hS C9.2.2.2.2.1 (C9.2.2.2.2.2.1 _ f) (fun _ h => h) d (K p ln e9 s m args below meth c C9 H locs ls hw hS hl)
theorem J.tens {idx : Nat} (f : Cond.fieldLink M.1 idx "java/lang/Integer" "DigitTens" "[B" ∈ BIG) (d : decode M.2.1 pc = .ok (.getstatic idx, 3)) (K : J g M R Q k n w (pc + 3) l (.ref (gT0 g) :: st)) : J g M R Q k n w pc l st :=
  fun p ln e9 s m args below meth c C9 H locs ls hw hS hl => va_gets C9.1 C9.2.1 (ambX C9.2.2.2.2.2.2.2.2.2.2).2.2.2.2.1.1 hS C9.2.2.2.2.1 (C9.2.2.2.2.2.1 _ f) (fun _ h => h) d (K p ln e9 s m args below meth c C9 H locs ls hw hS hl)
theorem J.onesAt {j : Nat} (hj : j < 100) (d : decode M.2.1 pc = .ok (.baload, 1)) (K : J g M R Q k n w (pc + 1) l (.int (dg1 j) :: st)) : J g M R Q k n w pc l (.int (nI j) :: .ref (gT1 g) :: st) :=
  fun p ln e9 s m args below meth c C9 H locs ls hw hS hl => va_tb C9.1 C9.2.1 (ambX C9.2.2.2.2.2.2.2.2.2.2).2.2.2.1.2 hS (vp_in_nI hj (by omega)) (by rw [nI_clamp (by omega)]) d (K p ln e9 s m args below meth c C9 H locs ls hw hS hl)
theorem J.tensAt {j : Nat} (hj : j < 100) (d : decode M.2.1 pc = .ok (.baload, 1)) (K : J g M R Q k n w (pc + 1) l (.int (dg0 j) :: st)) : J g M R Q k n w pc l (.int (nI j) :: .ref (gT0 g) :: st) :=
  fun p ln e9 s m args below meth c C9 H locs ls hw hS hl => va_tb C9.1 C9.2.1 (ambX C9.2.2.2.2.2.2.2.2.2.2).2.2.2.2.1.2 hS (vp_in_nI hj (by omega)) (by rw [nI_clamp (by omega)]) d (K p ln e9 s m args below meth c C9 H locs ls hw hS hl)
theorem J.fmt {idx : Nat} (f : Cond.fieldLink M.1 idx "jdk/internal/util/Preconditions" "SIOOBE_FORMATTER" "Ljava/util/function/BiFunction;" ∈ BIG) (d : decode M.2.1 pc = .ok (.getstatic idx, 3)) (K : ∀ v, (v = .null ∨ ∃ a, v = .ref a) → J g M R Q k n w (pc + 3) l (v :: st)) : J g M R Q k n w pc l st := by
  intro p ln e9 s m args below meth c C9 H locs ls hw hS hl
  rcases (ambX C9.2.2.2.2.2.2.2.2.2.2).2.2.1 with h | ⟨t, h⟩
  · exact va_gets C9.1 C9.2.1 h hS C9.2.2.2.2.1 (C9.2.2.2.2.2.1 _ f) (fun _ h => h) d (K _ (Or.inl rfl) p ln e9 s m args below meth c C9 H locs ls hw hS hl)
  · exact va_gets C9.1 C9.2.1 h hS C9.2.2.2.2.1 (C9.2.2.2.2.2.1 _ f) (fun _ h => h) d (K _ (Or.inr ⟨t, rfl⟩) p ln e9 s m args below meth c C9 H locs ls hw hS hl)
/-! further instructions -/
theorem J.null (d : decode M.2.1 pc = .ok (.aconst_null, 1)) (K : J g M R Q k n w (pc + 1) l (.null :: st)) : J g M R Q k n w pc l st :=
  fun p ln e9 s m args below meth c C H locs ls hw hS hl => lv_null C.1 C.2.1 d (K p ln e9 s m args below meth c C H locs ls hw hS hl)
theorem J.ifnullR {a : Nat} {off : Int} (d : decode M.2.1 pc = .ok (.ifnull off, 3)) (K : J g M R Q k n w (pc + 3) l st) : J g M R Q k n w pc l (.ref a :: st) :=
  fun p ln e9 s m args below meth c C H locs ls hw hS hl => lv_ifnull C.1 C.2.1 d (K p ln e9 s m args below meth c C H locs ls hw hS hl)
theorem J.ifnullN {off : Int} {tgt : Nat} (d : decode M.2.1 pc = .ok (.ifnull off, 3)) (ht : (pc : Int) + off = (tgt : Int)) (K : J g M R Q k n w tgt l st) : J g M R Q k n w pc l (.null :: st) :=
  fun p ln e9 s m args below meth c C H locs ls hw hS hl => lv_ifnullN C.1 C.2.1 d ht (K p ln e9 s m args below meth c C H locs ls hw hS hl)
theorem J.ifnnR {a : Nat} {off : Int} {tgt : Nat} (d : decode M.2.1 pc = .ok (.ifnonnull off, 3)) (ht : (pc : Int) + off = (tgt : Int)) (K : J g M R Q k n w tgt l st) : J g M R Q k n w pc l (.ref a :: st) :=
  fun p ln e9 s m args below meth c C H locs ls hw hS hl => lv_ifnonnull C.1 C.2.1 d ht (K p ln e9 s m args below meth c C H locs ls hw hS hl)
theorem J.ifnnN {off : Int} (d : decode M.2.1 pc = .ok (.ifnonnull off, 3)) (K : J g M R Q k n w (pc + 3) l st) : J g M R Q k n w pc l (.null :: st) :=
  fun p ln e9 s m args below meth c C H locs ls hw hS hl => lv_ifnonnullN C.1 C.2.1 d (K p ln e9 s m args below meth c C H locs ls hw hS hl)
theorem J.ishl {x y z : Int32} (d : decode M.2.1 pc = .ok (.ishl, 1)) (h : x <<< (y &&& 31) = z) (K : J g M R Q k n w (pc + 1) l (.int z :: st)) : J g M R Q k n w pc l (.int y :: .int x :: st) := by
  subst h
  exact fun p ln e9 s m args below meth c C H locs ls hw hS hl => lv_ishl C.1 C.2.1 d (K p ln e9 s m args below meth c C H locs ls hw hS hl)
theorem J.ishr {x y z : Int32} (d : decode M.2.1 pc = .ok (.ishr, 1)) (h : x >>> (y &&& 31) = z) (K : J g M R Q k n w (pc + 1) l (.int z :: st)) : J g M R Q k n w pc l (.int y :: .int x :: st) := by
  subst h
  exact fun p ln e9 s m args below meth c C H locs ls hw hS hl => lv_ishr C.1 C.2.1 d (K p ln e9 s m args below meth c C H locs ls hw hS hl)
theorem J.iushr {x y z : Int32} (d : decode M.2.1 pc = .ok (.iushr, 1)) (h : (x.toUInt32 >>> (y.toUInt32 &&& Int32.toUInt32 31)).toInt32 = z) (K : J g M R Q k n w (pc + 1) l (.int z :: st)) : J g M R Q k n w pc l (.int y :: .int x :: st) :=
  fun p ln e9 s m args below meth c C H locs ls hw hS hl => lv_iushr C.1 C.2.1 d h (K p ln e9 s m args below meth c C H locs ls hw hS hl)
theorem J.ior {x y z : Int32} (d : decode M.2.1 pc = .ok (.ior, 1)) (h : x ||| y = z) (K : J g M R Q k n w (pc + 1) l (.int z :: st)) : J g M R Q k n w pc l (.int y :: .int x :: st) := by
  subst h
  exact fun p ln e9 s m args below meth c C H locs ls hw hS hl => lv_ior C.1 C.2.1 d (K p ln e9 s m args below meth c C H locs ls hw hS hl)
theorem J.iand {x y z : Int32} (d : decode M.2.1 pc = .ok (.iand, 1)) (h : x &&& y = z) (K : J g M R Q k n w (pc + 1) l (.int z :: st)) : J g M R Q k n w pc l (.int y :: .int x :: st) := by
  subst h
  exact fun p ln e9 s m args below meth c C H locs ls hw hS hl => lv_iand C.1 C.2.1 d (K p ln e9 s m args below meth c C H locs ls hw hS hl)
theorem J.i2b {x z : Int32} (d : decode M.2.1 pc = .ok (.i2b, 1)) (h : x.toInt8.toInt32 = z) (K : J g M R Q k n w (pc + 1) l (.int z :: st)) : J g M R Q k n w pc l (.int x :: st) :=
  fun p ln e9 s m args below meth c C H locs ls hw hS hl => lv_i2b C.1 C.2.1 d h (K p ln e9 s m args below meth c C H locs ls hw hS hl)
theorem J.ladd {x y z : Int64} (d : decode M.2.1 pc = .ok (.ladd, 1)) (h : x + y = z) (K : J g M R Q k n w (pc + 1) l (.long z :: st)) : J g M R Q k n w pc l (.long y :: .long x :: st) := by
  subst h
  exact fun p ln e9 s m args below meth c C H locs ls hw hS hl => lv_ladd C.1 C.2.1 d (K p ln e9 s m args below meth c C H locs ls hw hS hl)
theorem J.lmul {x y z : Int64} (d : decode M.2.1 pc = .ok (.lmul, 1)) (h : x * y = z) (K : J g M R Q k n w (pc + 1) l (.long z :: st)) : J g M R Q k n w pc l (.long y :: .long x :: st) := by
  subst h
  exact fun p ln e9 s m args below meth c C H locs ls hw hS hl => lv_lmul C.1 C.2.1 d (K p ln e9 s m args below meth c C H locs ls hw hS hl)
theorem J.lcmp {x y : Int64} (d : decode M.2.1 pc = .ok (.lcmp, 1)) (K : J g M R Q k n w (pc + 1) l (.int (lg_cmp x y) :: st)) : J g M R Q k n w pc l (.long y :: .long x :: st) :=
  fun p ln e9 s m args below meth c C H locs ls hw hS hl => W.lcmp C.1 C.2.1 d (K p ln e9 s m args below meth c C H locs ls hw hS hl)
theorem J.dup_x1 {u v : Value} (d : decode M.2.1 pc = .ok (.dup_x1, 1)) (h1 : u.category = 1) (h2 : v.category = 1) (K : J g M R Q k n w (pc + 1) l (u :: v :: u :: st)) : J g M R Q k n w pc l (u :: v :: st) :=
  fun p ln e9 s m args below meth c C H locs ls hw hS hl => lv_dup_x1 C.1 C.2.1 d h1 h2 (K p ln e9 s m args below meth c C H locs ls hw hS hl)
end LW
section LE
variable {g : GP} {M : MI} {R : Room} {P : PT} {k n pc : Nat} {w : va_W} {l : List (Option Value)}
theorem J.aretA {a : Nat} {ty : FieldType} (hr : M.2.2.2.1 = some (.array ty)) (hk : k ≤ R.cells) (hn : n ≤ R.slots) (d : decode M.2.1 pc = .ok (.areturn, 1)) (hp : P (.inl (some (.ref a))) w) : J g M R (MQx g R P) k n w pc l [.ref a] :=
  fun p ln e9 s m args below meth c C H locs ls hw hS hl => W.widen hk hn (vx_ret (W.aret C.1 C.2.1 (C.2.2.2.1.trans hr) (Or.inr ⟨_, rfl⟩) (Or.inr ⟨_, rfl⟩) (fun t ht hW => ⟨_, w, rfl, hp, by rw [ht]; exact hw, hS.F ht⟩) hS.2.2 d C.2.2.2.2.2.2.1))
theorem J.aretN {ty : FieldType} (hr : M.2.2.2.1 = some ty) (hrt : (∃ n, ty = .object n) ∨ ∃ t, ty = .array t) (hk : k ≤ R.cells) (hn : n ≤ R.slots) (d : decode M.2.1 pc = .ok (.areturn, 1)) (hp : P (.inl (some .null)) w) : J g M R (MQx g R P) k n w pc l [.null] :=
  fun p ln e9 s m args below meth c C H locs ls hw hS hl => W.widen hk hn (vx_ret (W.aret C.1 C.2.1 (C.2.2.2.1.trans hr) hrt (Or.inl rfl) (fun t ht hW => ⟨_, w, rfl, hp, by rw [ht]; exact hw, hS.F ht⟩) hS.2.2 d C.2.2.2.2.2.2.1))
theorem J.lret {v : Int64} (hr : M.2.2.2.1 = some .long) (hk : k ≤ R.cells) (hn : n ≤ R.slots) (d : decode M.2.1 pc = .ok (.lreturn, 1)) (hp : P (.inl (some (.long v))) w) : J g M R (MQx g R P) k n w pc l [.long v] :=
  fun p ln e9 s m args below meth c C H locs ls hw hS hl => W.widen hk hn (vx_ret (W.lret C.1 C.2.1 (C.2.2.2.1.trans hr) (fun t ht hW => ⟨_, w, rfl, hp, by rw [ht]; exact hw, hS.F ht⟩) hS.2.2 d C.2.2.2.2.2.2.1))
end LE
/-- one outcome of many, with the system's memory and the law's cells then -/
def PE (g : GP) (adr : Nat → Nat) (Φ : (Option Value ⊕ String) → Mem → va_W → Prop) : PT := fun o w' => ∃ μ' e', w' = WM (gx g e') adr μ' ∧ Φ o μ' e'
theorem PE.of {g : GP} {adr : Nat → Nat} {Φ : (Option Value ⊕ String) → Mem → va_W → Prop} {o : Option Value ⊕ String} {μ : Mem} {e : va_W} (h : Φ o μ e) : PE g adr Φ o (WM (gx g e) adr μ) := ⟨μ, e, rfl, h⟩
