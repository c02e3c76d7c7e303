/-! ===== the law's own cells: rules (places of the list behind the system's cells) ===== -/
section LW
variable {g : GP} {M : MI} {R : Room} {Q : QT} {k n pc : Nat} {w e : va_W} {l : List (Option Value)} {st : List Value} {adr : Nat → Nat} {μ : Mem}
theorem J.ofx (K : J (gx g e) M R Q k n w pc l st) : J g M R Q k n w pc l st := K
theorem J.tox (K : J g M R Q k n w pc l st) : J (gx g e) M R Q k n w pc l st := K
theorem J.newAL {atype : ArrayType} {ty : FieldType} {t N : Nat} {cA : ClassId} {a0 : vp_A} (hty : newarray.typeOf atype = ty) (ht : (gtys g)[t]? = some (cA, ty)) (f : Cond.arrayClass ty ∈ BIG) (ha : ∀ c : ClassId, vp_cell c a0 = arrV c N (fun _ => defaultValue ty))
    (hN : N < 2147483648) (hbytes : N * componentBytes ty ≤ 536870912) (hcells : k + 1 ≤ R.cells) (hslots : n + N ≤ R.slots) (d : decode M.2.1 pc = .ok (.newarray atype, 2))
    (K : ∀ q, J (gx g (e ++ [(q, .inl (cA, a0))])) M R Q (k + 1) (n + N) (WM (gx g (e ++ [(q, .inl (cA, a0))])) adr μ) (pc + 2) l (.ref q :: st)) : J (gx g e) M R Q k n (WM (gx g e) adr μ) pc l (.int (nI N) :: st) :=
  J.newA (g := gx g e) (w0 := WB (gx g e) adr μ) (r := e) hty ht f ha hN hbytes hcells hslots d (fun q => K q)
theorem J.newOL {C : String} {T : u_T} {N ci idx : Nat} {fs : List Value} (hin : ∀ z ∈ u_ws C T N, z ∈ BIG) (ty0 : Nat → FieldType) (hty : ∀ k, k < N → parseFieldDescriptor (T k).2.2.1 = some (ty0 k)) (hc : vwCl[ci]? = some (C, T, N))
    (f1 : Cond.classLink M.1 idx C ∈ BIG) (f2 : Cond.instantiable C N ∈ BIG) (f3 : Cond.initialized C ∈ BIG) (hfs : ∀ j, j < N → defaultValue (ty0 j) = vp_V fs j) (hcells : k + 1 ≤ R.cells) (hslots : n + N ≤ R.slots)
    (d : decode M.2.1 pc = .ok (.new idx, 3)) (K : ∀ q, J (gx g (e ++ [(q, .inr (ci, fs))])) M R Q (k + 1) (n + N) (WM (gx g (e ++ [(q, .inr (ci, fs))])) adr μ) (pc + 3) l (.ref q :: st)) : J (gx g e) M R Q k n (WM (gx g e) adr μ) pc l st :=
  J.newX (g := gx g e) (w0 := WB (gx g e) adr μ) (r := e) hin ty0 hty hc f1 f2 f3 hfs hcells hslots d (fun q => K q)
theorem J.getL {C : String} {T : u_T} {N ci idx kf i a : Nat} {fs : List Value} {v : Value} (hin : ∀ z ∈ u_ws C T N, z ∈ BIG) (hc : vwCl[ci]? = some (C, T, N)) (hk : kf < N) (f : Cond.fieldLink M.1 idx (T kf).1 (T kf).2.1 (T kf).2.2.1 ∈ BIG)
    (he : e[i]? = some (a, .inr (ci, fs))) (hv : fs[kf]? = some v) (d : decode M.2.1 pc = .ok (.getfield idx, 3)) (K : J (gx g e) M R Q k n (WM (gx g e) adr μ) (pc + 3) l (v :: st)) : J (gx g e) M R Q k n (WM (gx g e) adr μ) pc l (.ref a :: st) :=
  J.getX (g := gx g e) (w0 := WB (gx g e) adr μ) (r := e) hin hc hk f he hv d K
theorem J.putL {C : String} {T : u_T} {N ci idx kf i a : Nat} {fs : List Value} {v : Value} {ty : FieldType} (hin : ∀ z ∈ u_ws C T N, z ∈ BIG) (ty0 : Nat → FieldType) (hty : ∀ k, k < N → parseFieldDescriptor (T k).2.2.1 = some (ty0 k)) (hnm : ∀ a, a < N → ∀ b, b < N → a ≠ b → (T a).2.1 ≠ (T b).2.1) (hc : vwCl[ci]? = some (C, T, N)) (hk : kf < N) (f : Cond.fieldLink M.1 idx (T kf).1 (T kf).2.1 (T kf).2.2.1 ∈ BIG)
    (he : e[i]? = some (a, .inr (ci, fs))) (hfin : (T kf).2.2.2 = false) (hd : parseFieldDescriptor (T kf).2.2.1 = some ty) (hn : narrow ty v = v) (hfit : fits ty v = true) (hl9 : kf < fs.length) (d : decode M.2.1 pc = .ok (.putfield idx, 3)) (K : J (gx g (e.set i (a, .inr (ci, fs.set kf v)))) M R Q k n (WM (gx g (e.set i (a, .inr (ci, fs.set kf v)))) adr μ) (pc + 3) l st) : J (gx g e) M R Q k n (WM (gx g e) adr μ) pc l (v :: .ref a :: st) :=
  J.putX (g := gx g e) (w0 := WB (gx g e) adr μ) (r := e) hin ty0 hty hnm hc hk f he hfin hd hn hfit hl9 d K
theorem J.putLF {C : String} {T : u_T} {N ci idx kf i a : Nat} {fs : List Value} {v : Value} {ty : FieldType} (hin : ∀ z ∈ u_ws C T N, z ∈ BIG) (ty0 : Nat → FieldType) (hty : ∀ k, k < N → parseFieldDescriptor (T k).2.2.1 = some (ty0 k)) (hnm : ∀ a, a < N → ∀ b, b < N → a ≠ b → (T a).2.1 ≠ (T b).2.1) (hc : vwCl[ci]? = some (C, T, N)) (hk : kf < N) (f : Cond.fieldLink M.1 idx (T kf).1 (T kf).2.1 (T kf).2.2.1 ∈ BIG)
    (he : e[i]? = some (a, .inr (ci, fs))) (hfin : (T kf).2.2.2 = true) (hi0 : M.2.2.2.2.2 = true) (hdecl : (T kf).1 = M.1) (hd : parseFieldDescriptor (T kf).2.2.1 = some ty) (hn : narrow ty v = v) (hfit : fits ty v = true) (hl9 : kf < fs.length) (d : decode M.2.1 pc = .ok (.putfield idx, 3)) (K : J (gx g (e.set i (a, .inr (ci, fs.set kf v)))) M R Q k n (WM (gx g (e.set i (a, .inr (ci, fs.set kf v)))) adr μ) (pc + 3) l st) : J (gx g e) M R Q k n (WM (gx g e) adr μ) pc l (v :: .ref a :: st) :=
  J.putXF (g := gx g e) (w0 := WB (gx g e) adr μ) (r := e) hin ty0 hty hnm hc hk f he hfin hi0 hdecl hd hn hfit hl9 d K
theorem J.iastL {i a N j : Nat} {x : Int32} {f : Nat → Int32} (he : e[i]? = some (a, .inl (g.2.2 0, N, .inl f))) (hj : j < N) (hN : N < 2147483648) (d : decode M.2.1 pc = .ok (.iastore, 1)) (K : J (gx g (e.set i (a, .inl (g.2.2 0, N, .inl (upd f j x))))) M R Q k n (WM (gx g (e.set i (a, .inl (g.2.2 0, N, .inl (upd f j x))))) adr μ) (pc + 1) l st) : J (gx g e) M R Q k n (WM (gx g e) adr μ) pc l (.int x :: .int (nI j) :: .ref a :: st) :=
  J.iastX (g := gx g e) (w0 := WB (gx g e) adr μ) (r := e) he hj hN d K
theorem J.ialdL {i a N j : Nat} {x : Int32} {f : Nat → Int32} (he : e[i]? = some (a, .inl (g.2.2 0, N, .inl f))) (hj : j < N) (hN : N < 2147483648) (hx : f j = x) (d : decode M.2.1 pc = .ok (.iaload, 1)) (K : J (gx g e) M R Q k n (WM (gx g e) adr μ) (pc + 1) l (.int x :: st)) : J (gx g e) M R Q k n (WM (gx g e) adr μ) pc l (.int (nI j) :: .ref a :: st) := by
  intro p ln e9 s m args below meth c C9 H locs ls hw hS hl
  refine va_iald (D := g.2.1) C9.1 C9.2.1 C9.2.2.2.2.2.2.2.2.2.2.1 hw.1 (NC + i) 0 (WX_get.trans he) rfl (vp_in_nI hj (by omega)) d ?_
  rw [nI_clamp (by omega), hx]
  exact K p ln e9 s m args below meth c C9 H locs ls hw hS hl
theorem J.zaldL {i a N j : Nat} {x : Int32} {f : Nat → Int32} (he : e[i]? = some (a, .inl (g.2.2 1, N, .inl f))) (hj : j < N) (hN : N < 2147483648) (hx : f j = x) (d : decode M.2.1 pc = .ok (.baload, 1)) (K : J (gx g e) M R Q k n (WM (gx g e) adr μ) (pc + 1) l (.int x :: st)) : J (gx g e) M R Q k n (WM (gx g e) adr μ) pc l (.int (nI j) :: .ref a :: st) := by
  intro p ln e9 s m args below meth c C9 H locs ls hw hS hl
  refine va_zald (D := g.2.1) C9.1 C9.2.1 C9.2.2.2.2.2.2.2.2.2.2.1 hw.1 (NC + i) 1 (WX_get.trans he) rfl (vp_in_nI hj (by omega)) d ?_
  rw [nI_clamp (by omega), hx]
  exact K p ln e9 s m args below meth c C9 H locs ls hw hS hl
theorem J.zastL {i a N j : Nat} {x : Int32} {f : Nat → Int32} (he : e[i]? = some (a, .inl (g.2.2 1, N, .inl f))) (hj : j < N) (hN : N < 2147483648) (hx : vp_nar .boolean x = x) (d : decode M.2.1 pc = .ok (.bastore, 1)) (K : J (gx g (e.set i (a, .inl (g.2.2 1, N, .inl (upd f j x))))) M R Q k n (WM (gx g (e.set i (a, .inl (g.2.2 1, N, .inl (upd f j x))))) adr μ) (pc + 1) l st) : J (gx g e) M R Q k n (WM (gx g e) adr μ) pc l (.int x :: .int (nI j) :: .ref a :: st) := by
  intro p ln e9 s m args below meth c C9 H locs ls hw hS hl
  refine va_zast (D := g.2.1) C9.1 C9.2.1 C9.2.2.2.2.2.2.2.2.2.2.1 hw.1 hw.2 hS (NC + i) 1 (WX_get.trans he) rfl (vp_in_nI hj (by omega)) d (fun H1 locs1 hP hD hS1 => ?_)
  rw [nI_clamp (by omega), hx, WX_set] at hP hD
  exact K p ln e9 s m args below meth c C9 H1 locs1 ls ⟨hP, hD⟩ hS1 hl
theorem J.baldL {i a N j : Nat} {x : Int32} {f : Nat → Int32} (he : e[i]? = some (a, .inl (g.2.2 6, N, .inl f))) (hj : j < N) (hN : N < 2147483648) (hx : f j = x) (d : decode M.2.1 pc = .ok (.baload, 1)) (K : J (gx g e) M R Q k n (WM (gx g e) adr μ) (pc + 1) l (.int x :: st)) : J (gx g e) M R Q k n (WM (gx g e) adr μ) pc l (.int (nI j) :: .ref a :: st) := by
  intro p ln e9 s m args below meth c C9 H locs ls hw hS hl
  refine va_bald (D := g.2.1) C9.1 C9.2.1 C9.2.2.2.2.2.2.2.2.2.2.1 hw.1 (NC + i) 6 (WX_get.trans he) rfl (vp_in_nI hj (by omega)) d ?_
  rw [nI_clamp (by omega), hx]
  exact K p ln e9 s m args below meth c C9 H locs ls hw hS hl
theorem J.bastL {i a N j : Nat} {x y : Int32} {f : Nat → Int32} (he : e[i]? = some (a, .inl (g.2.2 6, N, .inl f))) (hj : j < N) (hN : N < 2147483648) (hx : vp_nar .byte x = y) (d : decode M.2.1 pc = .ok (.bastore, 1)) (K : J (gx g (e.set i (a, .inl (g.2.2 6, N, .inl (upd f j y))))) M R Q k n (WM (gx g (e.set i (a, .inl (g.2.2 6, N, .inl (upd f j y))))) adr μ) (pc + 1) l st) : J (gx g e) M R Q k n (WM (gx g e) adr μ) pc l (.int x :: .int (nI j) :: .ref a :: st) := by
  intro p ln e9 s m args below meth c C9 H locs ls hw hS hl
  refine va_bast (D := g.2.1) C9.1 C9.2.1 C9.2.2.2.2.2.2.2.2.2.2.1 hw.1 hw.2 hS (NC + i) 6 (WX_get.trans he) rfl (vp_in_nI hj (by omega)) d (fun H1 locs1 hP hD hS1 => ?_)
  rw [nI_clamp (by omega), hx, WX_set] at hP hD
  exact K p ln e9 s m args below meth c C9 H1 locs1 ls ⟨hP, hD⟩ hS1 hl
theorem J.laldL {i a N j : Nat} {x : Int64} {f : Nat → Int64} (he : e[i]? = some (a, .inl (g.2.2 3, N, .inr (.inl f)))) (hj : j < N) (hN : N < 2147483648) (hx : f j = x) (d : decode M.2.1 pc = .ok (.laload, 1)) (K : J (gx g e) M R Q k n (WM (gx g e) adr μ) (pc + 1) l (.long x :: st)) : J (gx g e) M R Q k n (WM (gx g e) adr μ) pc l (.int (nI j) :: .ref a :: st) := by
  intro p ln e9 s m args below meth c C9 H locs ls hw hS hl
  refine va_lald (D := g.2.1) C9.1 C9.2.1 C9.2.2.2.2.2.2.2.2.2.2.1 hw.1 (NC + i) 3 (WX_get.trans he) rfl (vp_in_nI hj (by omega)) d ?_
  rw [nI_clamp (by omega), hx]
  exact K p ln e9 s m args below meth c C9 H locs ls hw hS hl
theorem J.lastL {i a N j : Nat} {x : Int64} {f : Nat → Int64} (he : e[i]? = some (a, .inl (g.2.2 3, N, .inr (.inl f)))) (hj : j < N) (hN : N < 2147483648) (d : decode M.2.1 pc = .ok (.lastore, 1)) (K : J (gx g (e.set i (a, .inl (g.2.2 3, N, .inr (.inl (vp_updL f j x)))))) M R Q k n (WM (gx g (e.set i (a, .inl (g.2.2 3, N, .inr (.inl (vp_updL f j x)))))) adr μ) (pc + 1) l st) : J (gx g e) M R Q k n (WM (gx g e) adr μ) pc l (.long x :: .int (nI j) :: .ref a :: st) := by
  intro p ln e9 s m args below meth c C9 H locs ls hw hS hl
  refine va_last (D := g.2.1) C9.1 C9.2.1 C9.2.2.2.2.2.2.2.2.2.2.1 hw.1 hw.2 hS (NC + i) 3 (WX_get.trans he) rfl (vp_in_nI hj (by omega)) d (fun H1 locs1 hP hD hS1 => ?_)
  rw [nI_clamp (by omega), WX_set] at hP hD
  exact K p ln e9 s m args below meth c C9 H1 locs1 ls ⟨hP, hD⟩ hS1 hl
theorem J.alenL {i a t : Nat} {cA : ClassId} {x : vp_A} {ty : FieldType} {v : Int32} (he : e[i]? = some (a, .inl (cA, x))) (ht : (gtys g)[t]? = some (cA, ty)) (hv : Int32.ofNat x.1 = v) (d : decode M.2.1 pc = .ok (.arraylength, 1)) (K : J (gx g e) M R Q k n (WM (gx g e) adr μ) (pc + 1) l (.int v :: st)) : J (gx g e) M R Q k n (WM (gx g e) adr μ) pc l (.ref a :: st) :=
  fun p ln e9 s m args below meth c C9 H locs ls hw hS hl => va_alen (D := g.2.1) C9.1 C9.2.1 C9.2.2.2.2.2.2.2.2.2.2.1 hw.1 (NC + i) t (WX_get.trans he) ht hv d (K p ln e9 s m args below meth c C9 H locs ls hw hS hl)
/-! what is only read -/
theorem ambX {g : GP} {U : State} (h : Amb g U) : AmbX g U := h.2.2.2.2.2.2.2.2
theorem J.sld {i : Nat} {x : Int32} (hi : i < gL g) (hL : gL g < 2147483648) (hx : gXs g i = x) (d : decode M.2.1 pc = .ok (.iaload, 1)) (K : J g M R Q k n w (pc + 1) l (.int x :: st)) : J g M R Q k n w pc l (.int (nI i) :: .ref (gB g) :: st) := by
  intro p ln e9 s m args below meth c C9 H locs ls hw hS hl
  obtain ⟨h1, h2, h3⟩ := (ambX C9.2.2.2.2.2.2.2.2.2.2).1
  refine va_sld (i := nI i) C9.1 C9.2.1 h3 h2 (show ¬ g.1.1 ≤ gB g from Nat.not_le.mpr h1) hS (vp_in_nI hi (by omega)) d ?_
  rw [nI_clamp (by omega), hx]
  exact K p ln e9 s m args below meth c C9 H locs ls hw hS hl
theorem J.slen (d : decode M.2.1 pc = .ok (.arraylength, 1)) (K : J g M R Q k n w (pc + 1) l (.int (nI (gL g)) :: st)) : J g M R Q k n w pc l (.ref (gB g) :: st) := by
  intro p ln e9 s m args below meth c C9 H locs ls hw hS hl
  obtain ⟨h1, h2, h3⟩ := (ambX C9.2.2.2.2.2.2.2.2.2.2).1
  exact va_slen C9.1 C9.2.1 h3 h2 (show ¬ g.1.1 ≤ gB g from Nat.not_le.mpr h1) hS d (K p ln e9 s m args below meth c C9 H locs ls hw hS hl)
theorem J.compact {idx : Nat} (f : Cond.fieldLink M.1 idx "java/lang/String" "COMPACT_STRINGS" "Z" ∈ BIG) (d : decode M.2.1 pc = .ok (.getstatic idx, 3)) (K : J g M R Q k n w (pc + 3) l (.int (nI 1) :: st)) : J g M R Q k n w pc l st :=
  fun p ln e9 s m args below meth c C9 H locs ls hw hS hl => va_gets C9.1 C9.2.1 (v := .int 1) (ambX C9.2.2.2.2.2.2.2.2.2.2).2.1 hS C9.2.2.2.2.1 (C9.2.2.2.2.2.1 _ f) (fun _ h => h) d (K p ln e9 s m args below meth c C9 H locs ls hw hS hl)
theorem J.ones {idx : Nat} (f : Cond.fieldLink M.1 idx "java/lang/Integer" "DigitOnes" "[B" ∈ BIG) (d : decode M.2.1 pc = .ok (.getstatic idx, 3)) (K : J g M R Q k n w (pc + 3) l (.ref (gT1 g) :: st)) : J g M R Q k n w pc l st :=
  fun p ln e9 s m args below meth c C9 H locs ls hw hS hl => va_gets C9.1 C9.2.1 (ambX C9.2.2.2.2.2.2.2.2.2.2).2.2.2.1.1 hS C9.2.2.2.2.1 (C9.2.2.2.2.2.1 _ f) (fun _ h => h) d (K p ln e9 s m args below meth c C9 H locs ls hw hS hl)
theorem J.tens {idx : Nat} (f : Cond.fieldLink M.1 idx "java/lang/Integer" "DigitTens" "[B" ∈ BIG) (d : decode M.2.1 pc = .ok (.getstatic idx, 3)) (K : J g M R Q k n w (pc + 3) l (.ref (gT0 g) :: st)) : J g M R Q k n w pc l st :=
  fun p ln e9 s m args below meth c C9 H locs ls hw hS hl => va_gets C9.1 C9.2.1 (ambX C9.2.2.2.2.2.2.2.2.2.2).2.2.2.2.1.1 hS C9.2.2.2.2.1 (C9.2.2.2.2.2.1 _ f) (fun _ h => h) d (K p ln e9 s m args below meth c C9 H locs ls hw hS hl)
theorem J.onesAt {j : Nat} (hj : j < 100) (d : decode M.2.1 pc = .ok (.baload, 1)) (K : J g M R Q k n w (pc + 1) l (.int (dg1 j) :: st)) : J g M R Q k n w pc l (.int (nI j) :: .ref (gT1 g) :: st) :=
  fun p ln e9 s m args below meth c C9 H locs ls hw hS hl => va_tb C9.1 C9.2.1 (ambX C9.2.2.2.2.2.2.2.2.2.2).2.2.2.1.2 hS (vp_in_nI hj (by omega)) (by rw [nI_clamp (by omega)]) d (K p ln e9 s m args below meth c C9 H locs ls hw hS hl)
theorem J.tensAt {j : Nat} (hj : j < 100) (d : decode M.2.1 pc = .ok (.baload, 1)) (K : J g M R Q k n w (pc + 1) l (.int (dg0 j) :: st)) : J g M R Q k n w pc l (.int (nI j) :: .ref (gT0 g) :: st) :=
  fun p ln e9 s m args below meth c C9 H locs ls hw hS hl => va_tb C9.1 C9.2.1 (ambX C9.2.2.2.2.2.2.2.2.2.2).2.2.2.2.1.2 hS (vp_in_nI hj (by omega)) (by rw [nI_clamp (by omega)]) d (K p ln e9 s m args below meth c C9 H locs ls hw hS hl)
theorem J.fmt {idx : Nat} (f : Cond.fieldLink M.1 idx "jdk/internal/util/Preconditions" "SIOOBE_FORMATTER" "Ljava/util/function/BiFunction;" ∈ BIG) (d : decode M.2.1 pc = .ok (.getstatic idx, 3)) (K : ∀ v, (v = .null ∨ ∃ a, v = .ref a) → J g M R Q k n w (pc + 3) l (v :: st)) : J g M R Q k n w pc l st := by
  intro p ln e9 s m args below meth c C9 H locs ls hw hS hl
  rcases (ambX C9.2.2.2.2.2.2.2.2.2.2).2.2.1 with h | ⟨t, h⟩
  · exact va_gets C9.1 C9.2.1 h hS C9.2.2.2.2.1 (C9.2.2.2.2.2.1 _ f) (fun _ h => h) d (K _ (Or.inl rfl) p ln e9 s m args below meth c C9 H locs ls hw hS hl)
  · exact va_gets C9.1 C9.2.1 h hS C9.2.2.2.2.1 (C9.2.2.2.2.2.1 _ f) (fun _ h => h) d (K _ (Or.inr ⟨t, rfl⟩) p ln e9 s m args below meth c C9 H locs ls hw hS hl)
/-! further instructions -/
theorem J.null (d : decode M.2.1 pc = .ok (.aconst_null, 1)) (K : J g M R Q k n w (pc + 1) l (.null :: st)) : J g M R Q k n w pc l st :=
  fun p ln e9 s m args below meth c C H locs ls hw hS hl => lv_null C.1 C.2.1 d (K p ln e9 s m args below meth c C H locs ls hw hS hl)
theorem J.ifnullR {a : Nat} {off : Int} (d : decode M.2.1 pc = .ok (.ifnull off, 3)) (K : J g M R Q k n w (pc + 3) l st) : J g M R Q k n w pc l (.ref a :: st) :=
  fun p ln e9 s m args below meth c C H locs ls hw hS hl => lv_ifnull C.1 C.2.1 d (K p ln e9 s m args below meth c C H locs ls hw hS hl)
theorem J.ifnullN {off : Int} {tgt : Nat} (d : decode M.2.1 pc = .ok (.ifnull off, 3)) (ht : (pc : Int) + off = (tgt : Int)) (K : J g M R Q k n w tgt l st) : J g M R Q k n w pc l (.null :: st) :=
  fun p ln e9 s m args below meth c C H locs ls hw hS hl => lv_ifnullN C.1 C.2.1 d ht (K p ln e9 s m args below meth c C H locs ls hw hS hl)
theorem J.ifnnR {a : Nat} {off : Int} {tgt : Nat} (d : decode M.2.1 pc = .ok (.ifnonnull off, 3)) (ht : (pc : Int) + off = (tgt : Int)) (K : J g M R Q k n w tgt l st) : J g M R Q k n w pc l (.ref a :: st) :=
  fun p ln e9 s m args below meth c C H locs ls hw hS hl => lv_ifnonnull C.1 C.2.1 d ht (K p ln e9 s m args below meth c C H locs ls hw hS hl)
theorem J.ifnnN {off : Int} (d : decode M.2.1 pc = .ok (.ifnonnull off, 3)) (K : J g M R Q k n w (pc + 3) l st) : J g M R Q k n w pc l (.null :: st) :=
  fun p ln e9 s m args below meth c C H locs ls hw hS hl => lv_ifnonnullN C.1 C.2.1 d (K p ln e9 s m args below meth c C H locs ls hw hS hl)
theorem J.ishl {x y z : Int32} (d : decode M.2.1 pc = .ok (.ishl, 1)) (h : x <<< (y &&& 31) = z) (K : J g M R Q k n w (pc + 1) l (.int z :: st)) : J g M R Q k n w pc l (.int y :: .int x :: st) := by
  subst h
  exact fun p ln e9 s m args below meth c C H locs ls hw hS hl => lv_ishl C.1 C.2.1 d (K p ln e9 s m args below meth c C H locs ls hw hS hl)
theorem J.ishr {x y z : Int32} (d : decode M.2.1 pc = .ok (.ishr, 1)) (h : x >>> (y &&& 31) = z) (K : J g M R Q k n w (pc + 1) l (.int z :: st)) : J g M R Q k n w pc l (.int y :: .int x :: st) := by
  subst h
  exact fun p ln e9 s m args below meth c C H locs ls hw hS hl => lv_ishr C.1 C.2.1 d (K p ln e9 s m args below meth c C H locs ls hw hS hl)
theorem J.iushr {x y z : Int32} (d : decode M.2.1 pc = .ok (.iushr, 1)) (h : (x.toUInt32 >>> (y.toUInt32 &&& Int32.toUInt32 31)).toInt32 = z) (K : J g M R Q k n w (pc + 1) l (.int z :: st)) : J g M R Q k n w pc l (.int y :: .int x :: st) :=
  fun p ln e9 s m args below meth c C H locs ls hw hS hl => lv_iushr C.1 C.2.1 d h (K p ln e9 s m args below meth c C H locs ls hw hS hl)
theorem J.ior {x y z : Int32} (d : decode M.2.1 pc = .ok (.ior, 1)) (h : x ||| y = z) (K : J g M R Q k n w (pc + 1) l (.int z :: st)) : J g M R Q k n w pc l (.int y :: .int x :: st) := by
  subst h
  exact fun p ln e9 s m args below meth c C H locs ls hw hS hl => lv_ior C.1 C.2.1 d (K p ln e9 s m args below meth c C H locs ls hw hS hl)
theorem J.iand {x y z : Int32} (d : decode M.2.1 pc = .ok (.iand, 1)) (h : x &&& y = z) (K : J g M R Q k n w (pc + 1) l (.int z :: st)) : J g M R Q k n w pc l (.int y :: .int x :: st) := by
  subst h
  exact fun p ln e9 s m args below meth c C H locs ls hw hS hl => lv_iand C.1 C.2.1 d (K p ln e9 s m args below meth c C H locs ls hw hS hl)
theorem J.i2b {x z : Int32} (d : decode M.2.1 pc = .ok (.i2b, 1)) (h : x.toInt8.toInt32 = z) (K : J g M R Q k n w (pc + 1) l (.int z :: st)) : J g M R Q k n w pc l (.int x :: st) :=
  fun p ln e9 s m args below meth c C H locs ls hw hS hl => lv_i2b C.1 C.2.1 d h (K p ln e9 s m args below meth c C H locs ls hw hS hl)
theorem J.ladd {x y z : Int64} (d : decode M.2.1 pc = .ok (.ladd, 1)) (h : x + y = z) (K : J g M R Q k n w (pc + 1) l (.long z :: st)) : J g M R Q k n w pc l (.long y :: .long x :: st) := by
  subst h
  exact fun p ln e9 s m args below meth c C H locs ls hw hS hl => lv_ladd C.1 C.2.1 d (K p ln e9 s m args below meth c C H locs ls hw hS hl)
theorem J.lmul {x y z : Int64} (d : decode M.2.1 pc = .ok (.lmul, 1)) (h : x * y = z) (K : J g M R Q k n w (pc + 1) l (.long z :: st)) : J g M R Q k n w pc l (.long y :: .long x :: st) := by
  subst h
  exact fun p ln e9 s m args below meth c C H locs ls hw hS hl => lv_lmul C.1 C.2.1 d (K p ln e9 s m args below meth c C H locs ls hw hS hl)
theorem J.lcmp {x y : Int64} (d : decode M.2.1 pc = .ok (.lcmp, 1)) (K : J g M R Q k n w (pc + 1) l (.int (lg_cmp x y) :: st)) : J g M R Q k n w pc l (.long y :: .long x :: st) :=
  fun p ln e9 s m args below meth c C H locs ls hw hS hl => W.lcmp C.1 C.2.1 d (K p ln e9 s m args below meth c C H locs ls hw hS hl)
theorem J.dup_x1 {u v : Value} (d : decode M.2.1 pc = .ok (.dup_x1, 1)) (h1 : u.category = 1) (h2 : v.category = 1) (K : J g M R Q k n w (pc + 1) l (u :: v :: u :: st)) : J g M R Q k n w pc l (u :: v :: st) :=
  fun p ln e9 s m args below meth c C H locs ls hw hS hl => lv_dup_x1 C.1 C.2.1 d h1 h2 (K p ln e9 s m args below meth c C H locs ls hw hS hl)
end LW
section LE
variable {g : GP} {M : MI} {R : Room} {P : PT} {k n pc : Nat} {w : va_W} {l : List (Option Value)}
theorem J.aretA {a : Nat} {ty : FieldType} (hr : M.2.2.2.1 = some (.array ty)) (hk : k ≤ R.cells) (hn : n ≤ R.slots) (d : decode M.2.1 pc = .ok (.areturn, 1)) (hp : P (.inl (some (.ref a))) w) : J g M R (MQx g R P) k n w pc l [.ref a] :=
  fun p ln e9 s m args below meth c C H locs ls hw hS hl => W.widen hk hn (vx_ret (W.aret C.1 C.2.1 (C.2.2.2.1.trans hr) (Or.inr ⟨_, rfl⟩) (Or.inr ⟨_, rfl⟩) (fun t ht hW => ⟨_, w, rfl, hp, by rw [ht]; exact hw, hS.F ht⟩) hS.2.2 d C.2.2.2.2.2.2.1))
theorem J.aretN {ty : FieldType} (hr : M.2.2.2.1 = some ty) (hrt : (∃ n, ty = .object n) ∨ ∃ t, ty = .array t) (hk : k ≤ R.cells) (hn : n ≤ R.slots) (d : decode M.2.1 pc = .ok (.areturn, 1)) (hp : P (.inl (some .null)) w) : J g M R (MQx g R P) k n w pc l [.null] :=
  fun p ln e9 s m args below meth c C H locs ls hw hS hl => W.widen hk hn (vx_ret (W.aret C.1 C.2.1 (C.2.2.2.1.trans hr) hrt (Or.inl rfl) (fun t ht hW => ⟨_, w, rfl, hp, by rw [ht]; exact hw, hS.F ht⟩) hS.2.2 d C.2.2.2.2.2.2.1))
theorem J.lret {v : Int64} (hr : M.2.2.2.1 = some .long) (hk : k ≤ R.cells) (hn : n ≤ R.slots) (d : decode M.2.1 pc = .ok (.lreturn, 1)) (hp : P (.inl (some (.long v))) w) : J g M R (MQx g R P) k n w pc l [.long v] :=
  fun p ln e9 s m args below meth c C H locs ls hw hS hl => W.widen hk hn (vx_ret (W.lret C.1 C.2.1 (C.2.2.2.1.trans hr) (fun t ht hW => ⟨_, w, rfl, hp, by rw [ht]; exact hw, hS.F ht⟩) hS.2.2 d C.2.2.2.2.2.2.1))
end LE
/-- an answer, the system's memory and the law's cells then; it throws nothing -/
def PV (g : GP) (adr : Nat → Nat) (Ψ : Option Value → Mem → va_W → Prop) : PT := fun o w' => ∃ v μ' e', o = .inl v ∧ w' = WM (gx g e') adr μ' ∧ Ψ v μ' e'
theorem PV.of {g : GP} {adr : Nat → Nat} {Ψ : Option Value → Mem → va_W → Prop} {v : Option Value} {μ : Mem} {e : va_W} (h : Ψ v μ e) : PV g adr Ψ (.inl v) (WM (gx g e) adr μ) := ⟨v, μ, e, rfl, rfl, h⟩
/-- what a receiver's class is, wherever it lies -/
def RecvOK (g : GP) (w : va_W) (C : String) (b : Addr) : Prop := ∀ (s : State) (H : Heap) (locs : List Loc), Amb g s → Wd g w H → va_S (gA g) s.heap H locs → ∃ cell : Cell, H[b]? = some cell ∧ cell.vm.isStatics = false ∧ s.vm.findClass C = some cell.cls
theorem RecvOK.cell {g : GP} {w : va_W} {b q0 ci : Nat} {q : vw_C} {fs : List Value} (hq : vwCl[ci]? = some q) (he : w[q0]? = some (b, .inr (ci, fs))) : RecvOK g w q.1 b := fun _ _ _ ha hw _ => va_recv ha.1 hw.1 hq he
theorem RecvOK.law {g : GP} {e : va_W} {adr : Nat → Nat} {μ : Mem} {b j ci : Nat} {q : vw_C} {fs : List Value} (hq : vwCl[ci]? = some q) (he : e[j]? = some (b, .inr (ci, fs))) : RecvOK (gx g e) (WM (gx g e) adr μ) q.1 b := RecvOK.cell (q0 := NC + j) hq (WX_get.trans he)
theorem RecvOK.const {g : GP} {w : va_W} {i : Nat} (hi : i < 8) : RecvOK g w "java/lang/String" (gK g i) := fun _ _ _ ha _ hS => vk_recv (ambX ha).2.2.2.2.2.1 hi hS
/-- e' has e's cells but for those of S -/
def Kp (e e' : va_W) (S : Nat → Prop) : Prop := e.length ≤ e'.length ∧ ∀ j, j < e.length → ¬ S j → e'[j]? = e[j]?
theorem Kp.rf {e : va_W} {S : Nat → Prop} : Kp e e S := ⟨Nat.le_refl _, fun _ _ _ => rfl⟩
theorem Kp.trans {e1 e2 e3 : va_W} {S T : Nat → Prop} (h : Kp e1 e2 S) (h2 : Kp e2 e3 T) (hT : ∀ j, j < e1.length → T j → S j) : Kp e1 e3 S := ⟨Nat.le_trans h.1 h2.1, fun j h1 h3 => (h2.2 j (Nat.lt_of_lt_of_le h1 h.1) (fun q => h3 (hT j h1 q))).trans (h.2 j h1 h3)⟩
theorem Kp.mono {e1 e2 : va_W} {S T : Nat → Prop} (h : Kp e1 e2 S) (hT : ∀ j, j < e1.length → S j → T j) : Kp e1 e2 T := ⟨h.1, fun j h1 h3 => h.2 j h1 (fun q => h3 (hT j h1 q))⟩
theorem ix_lt {e : va_W} {i : Nat} {x : Nat × va_E} (h : e[i]? = some x) : i < e.length := (List.getElem?_eq_some_iff.mp h).1
theorem Kp.get {e e' : va_W} {S : Nat → Prop} {i : Nat} {x : Nat × va_E} (h : Kp e e' S) (hx : e[i]? = some x) (hn : ¬ S i) : e'[i]? = some x := (h.2 i (ix_lt hx) hn).trans hx
theorem Kp.set {e : va_W} {i : Nat} {x : Nat × va_E} : Kp e (e.set i x) (fun j => j = i) := ⟨by rw [List.length_set]; exact Nat.le_refl _, fun j _ h => List.getElem?_set_ne (fun q => h q.symm)⟩
theorem Kp.add {e t : va_W} : Kp e (e ++ t) (fun _ => False) := ⟨by rw [List.length_append]; omega, fun j h _ => List.getElem?_append_left h⟩
theorem set_at {e : va_W} {i : Nat} {x y : Nat × va_E} (h : e[i]? = some y) : (e.set i x)[i]? = some x := List.getElem?_set_self (ix_lt h)
theorem set_off {e : va_W} {i j : Nat} {x y : Nat × va_E} (h : e[j]? = some y) (hn : j ≠ i) : (e.set i x)[j]? = some y := (List.getElem?_set_ne (Ne.symm hn)).trans h
theorem add_at {e : va_W} {x : Nat × va_E} : (e ++ [x])[e.length]? = some x := by rw [List.getElem?_append_right (Nat.le_refl _), Nat.sub_self]; rfl
theorem add_off {e t : va_W} {j : Nat} {y : Nat × va_E} (h : e[j]? = some y) : (e ++ t)[j]? = some y := (List.getElem?_append_left (ix_lt h)).trans h
/-! ===== calls: of any class, inherited, overriding, of the superclass ===== -/
section CL
variable {g : GP} {M : MI} {R : Room} {Q : QT} {k n pc : Nat} {w : va_W} {l : List (Option Value)} {st : List Value}
theorem J.callO {y : MethodName} {My : MI} {Ry : Room} {idx na : Nat} {As : List Value} {P : PT} (hC : CT g y My Ry w As P)
    (f1 : Cond.methodLink M.1 idx y ∈ BIG) (f2 : Cond.static y ∈ BIG) (f4 : Cond.initialized y.cls ∈ BIG) (f5 : Cond.code y My.2.1 My.2.2.1 My.2.2.2.1 ∈ BIG)
    (hd : y.cls ≠ "java/lang/invoke/MethodHandle" ∧ y.cls ≠ "java/lang/invoke/VarHandle" ∧ (parseMethodDescriptor y.desc).map (fun d => d.parameters.length) = some na) (hna : As.length = na)
    (hR : Ry.frames + 1 ≤ R.frames ∧ 8 + (My.2.2.1 + 11) + Ry.locals ≤ R.locals)
    (hW : (st.map fun v => v.category).sum ≤ 8) (hdg : decode M.2.1 pc = .ok (.invokestatic idx, 3)) (hk : k + Ry.cells ≤ R.cells ∧ n + Ry.slots ≤ R.slots)
    (kk : ∀ v w', P (.inl v) w' → J g M R Q (k + Ry.cells) (n + Ry.slots) w' (pc + 3) l (v.toList ++ st)) (kx : ∀ E w', P (.inr E) w' → JX g M R Q (k + Ry.cells) (n + Ry.slots) w' pc l st E) : J g M R Q k n w pc l (As.reverse ++ st) := by
  refine J.callG (P := P) (mc := Ry.cells) (ms := Ry.slots) ?_ kk kx
  intro p ln e s m args below meth c C9 H locs ls hw hS hl
  obtain ⟨hx, hb, hml, hr, hown, hts, hlk, hst, htab, hini, hamb⟩ := C9
  exact vx_runS (As := As) (rest := st) (Ts := BIG) (own := M.1) ⟨hx, hb, hml, hown, hts⟩ (hC ln hst)
    (va_cwS (ws' := BIG) na hts (goodIn_big (fun z hz => by
      simp only [va_wsS, List.cons_append, List.nil_append, List.mem_cons] at hz
      rcases hz with rfl | rfl | rfl | rfl | hz
      · exact f1
      · exact f2
      · exact f4
      · exact f5
      · exact hz)) rfl rfl rfl hd hR)
    ⟨pc_blind, pc_pre hamb hS hw⟩ rfl hna hl.1 rfl (lv_room hW) hdg hk
/-- of a class above the receiver's, or overridden there -/
theorem J.callU {C owner : String} {x y : MethodName} {My : MI} {Ry : Room} {b idx na : Nat} {As : List Value} {P : PT} (hC : CT g y My Ry w (.ref b :: As) P)
    (f1 : Cond.methodLink M.1 idx x ∈ BIG) (f2 : Cond.sameMethod x.cls owner x.name x.desc ∈ BIG) (f3 : Cond.selects C x y ∈ BIG) (f4 : Cond.instanceMethod y ∈ BIG) (f6 : Cond.initialized y.cls ∈ BIG) (f5 : Cond.code y My.2.1 My.2.2.1 My.2.2.2.1 ∈ BIG)
    (hyx : y = ⟨owner, x.name, x.desc⟩) (hd : owner ≠ "java/lang/invoke/MethodHandle" ∧ owner ≠ "java/lang/invoke/VarHandle" ∧ (parseMethodDescriptor x.desc).map (fun d => d.parameters.length) = some na) (hna : As.length = na)
    (hR : Ry.frames + 1 ≤ R.frames ∧ 8 + (My.2.2.1 + 11) + Ry.locals ≤ R.locals) (hrec : RecvOK g w C b)
    (hW : (st.map fun v => v.category).sum ≤ 8) (hdg : decode M.2.1 pc = .ok (.invokevirtual idx, 3)) (hk : k + Ry.cells ≤ R.cells ∧ n + Ry.slots ≤ R.slots)
    (kk : ∀ v w', P (.inl v) w' → J g M R Q (k + Ry.cells) (n + Ry.slots) w' (pc + 3) l (v.toList ++ st)) (kx : ∀ E w', P (.inr E) w' → JX g M R Q (k + Ry.cells) (n + Ry.slots) w' pc l st E) : J g M R Q k n w pc l (As.reverse ++ .ref b :: st) := by
  refine J.callG (P := P) (mc := Ry.cells) (ms := Ry.slots) ?_ kk kx
  intro p ln e s m args below meth c C9 H locs ls hw hS hl
  obtain ⟨hx, hb, hml, hr, hown, hts, hlk, hst, htab, hini, hamb⟩ := C9
  exact vx_runU (As := As) (rest := st) (Ts := BIG) (own := M.1) ⟨hx, hb, hml, hown, hts⟩ (hC ln hst)
    (va_cwU (ws' := BIG) na hts (goodIn_big (fun z hz => by
      simp only [va_wsU, List.cons_append, List.nil_append, List.mem_cons] at hz
      rcases hz with rfl | rfl | rfl | rfl | rfl | rfl | hz
      · exact f1
      · exact f2
      · exact f3
      · exact f4
      · exact f6
      · exact f5
      · exact hz)) rfl rfl rfl hyx hd hR)
    ⟨pc_blind, hrec _ _ _ hamb hw hS, pc_pre hamb hS hw⟩ rfl hna hl.1 rfl (lv_room hW) hdg hk
theorem J.callOv {C owner : String} {x y : MethodName} {My : MI} {Ry : Room} {b idx na : Nat} {As : List Value} {P : PT} {b0 : ByteArray} {m0 : Nat} {r0 : Option FieldType} (hC : CT g y My Ry w (.ref b :: As) P)
    (f1 : Cond.methodLink M.1 idx x ∈ BIG) (f2 : Cond.sameMethod x.cls owner x.name x.desc ∈ BIG) (f7 : Cond.instanceMethod ⟨owner, x.name, x.desc⟩ ∈ BIG) (f3 : Cond.selects C x y ∈ BIG) (f4 : Cond.instanceMethod y ∈ BIG) (f6 : Cond.initialized y.cls ∈ BIG) (f5 : Cond.code y My.2.1 My.2.2.1 My.2.2.2.1 ∈ BIG)
    (h0 : Cond.code ⟨owner, x.name, x.desc⟩ b0 m0 r0 ∈ BIG) (hd : owner ≠ "java/lang/invoke/MethodHandle" ∧ owner ≠ "java/lang/invoke/VarHandle" ∧ (parseMethodDescriptor x.desc).map (fun d => d.parameters.length) = some na) (hna : As.length = na)
    (hR : Ry.frames + 1 ≤ R.frames ∧ 8 + (My.2.2.1 + 11) + Ry.locals ≤ R.locals) (hrec : RecvOK g w C b)
    (hW : (st.map fun v => v.category).sum ≤ 8) (hdg : decode M.2.1 pc = .ok (.invokevirtual idx, 3)) (hk : k + Ry.cells ≤ R.cells ∧ n + Ry.slots ≤ R.slots)
    (kk : ∀ v w', P (.inl v) w' → J g M R Q (k + Ry.cells) (n + Ry.slots) w' (pc + 3) l (v.toList ++ st)) (kx : ∀ E w', P (.inr E) w' → JX g M R Q (k + Ry.cells) (n + Ry.slots) w' pc l st E) : J g M R Q k n w pc l (As.reverse ++ .ref b :: st) := by
  refine J.callG (P := P) (mc := Ry.cells) (ms := Ry.slots) ?_ kk kx
  intro p ln e s m args below meth c C9 H locs ls hw hS hl
  obtain ⟨hx, hb, hml, hr, hown, hts, hlk, hst, htab, hini, hamb⟩ := C9
  exact vx_runU (As := As) (rest := st) (Ts := BIG) (own := M.1) ⟨hx, hb, hml, hown, hts⟩ (hC ln hst)
    (va_cwO (ws' := BIG) na hts (goodIn_big (fun z hz => by
      simp only [va_wsO, List.cons_append, List.nil_append, List.mem_cons] at hz
      rcases hz with rfl | rfl | rfl | rfl | rfl | rfl | rfl | hz
      · exact f1
      · exact f2
      · exact f7
      · exact f3
      · exact f4
      · exact f6
      · exact f5
      · exact hz)) rfl rfl rfl h0 hd hR)
    ⟨pc_blind, hrec _ _ _ hamb hw hS, pc_pre hamb hS hw⟩ rfl hna hl.1 rfl (lv_room hW) hdg hk
theorem J.callR {C : String} {y : MethodName} {My : MI} {Ry : Room} {b idx na : Nat} {As : List Value} {P : PT} (hC : CT g y My Ry w (.ref b :: As) P)
    (f1 : Cond.methodLink M.1 idx y ∈ BIG) (f2 : Cond.instanceMethod y ∈ BIG) (f3 : Cond.selects C y y ∈ BIG) (f4 : Cond.initialized C ∈ BIG) (f5 : Cond.code y My.2.1 My.2.2.1 My.2.2.2.1 ∈ BIG)
    (hd : y.cls = C ∧ y.cls ≠ "java/lang/invoke/MethodHandle" ∧ y.cls ≠ "java/lang/invoke/VarHandle" ∧ (parseMethodDescriptor y.desc).map (fun d => d.parameters.length) = some na) (hna : As.length = na)
    (hR : Ry.frames + 1 ≤ R.frames ∧ 8 + (My.2.2.1 + 11) + Ry.locals ≤ R.locals) (hrec : RecvOK g w C b)
    (hW : (st.map fun v => v.category).sum ≤ 8) (hdg : decode M.2.1 pc = .ok (.invokevirtual idx, 3)) (hk : k + Ry.cells ≤ R.cells ∧ n + Ry.slots ≤ R.slots)
    (kk : ∀ v w', P (.inl v) w' → J g M R Q (k + Ry.cells) (n + Ry.slots) w' (pc + 3) l (v.toList ++ st)) (kx : ∀ E w', P (.inr E) w' → JX g M R Q (k + Ry.cells) (n + Ry.slots) w' pc l st E) : J g M R Q k n w pc l (As.reverse ++ .ref b :: st) := by
  refine J.callG (P := P) (mc := Ry.cells) (ms := Ry.slots) ?_ kk kx
  intro p ln e s m args below meth c C9 H locs ls hw hS hl
  obtain ⟨hx, hb, hml, hr, hown, hts, hlk, hst, htab, hini, hamb⟩ := C9
  exact vx_runV (As := As) (rest := st) (Ts := BIG) (own := M.1) ⟨hx, hb, hml, hown, hts⟩ (hC ln hst)
    (cwV (ws' := BIG) na hts (goodIn_big (fun z hz => by
      simp only [wsV, List.cons_append, List.nil_append, List.mem_cons] at hz
      rcases hz with rfl | rfl | rfl | rfl | rfl | hz
      · exact f1
      · exact f2
      · exact f3
      · exact f4
      · exact f5
      · exact hz)) rfl rfl rfl hd hR)
    ⟨pc_blind, hrec _ _ _ hamb hw hS, pc_pre hamb hS hw⟩ rfl hna hl.1 rfl (lv_room hW) hdg hk
theorem J.callSU {y : MethodName} {My : MI} {Ry : Room} {b idx na ci : Nat} {q : vw_C} {As : List Value} {P : PT} (hC : CT g y My Ry w (.ref b :: As) P) (hq : vwCl[ci]? = some q) (hqC : q.1 = M.1)
    (f1 : Cond.methodLink M.1 idx y ∈ BIG) (f2 : Cond.sameMethod y.cls y.cls y.name y.desc ∈ BIG) (f3 : Cond.superclass M.1 y.cls ∈ BIG) (f4 : Cond.instanceMethod y ∈ BIG) (f6 : Cond.initialized y.cls ∈ BIG) (f5 : Cond.code y My.2.1 My.2.2.1 My.2.2.2.1 ∈ BIG)
    (hd : y.name ≠ "<init>" ∧ (parseMethodDescriptor y.desc).map (fun d => d.parameters.length) = some na) (hna : As.length = na)
    (hR : Ry.frames + 1 ≤ R.frames ∧ 8 + (My.2.2.1 + 11) + Ry.locals ≤ R.locals) (hrec : RecvOK g w q.1 b)
    (hW : (st.map fun v => v.category).sum ≤ 8) (hdg : decode M.2.1 pc = .ok (.invokespecial idx, 3)) (hk : k + Ry.cells ≤ R.cells ∧ n + Ry.slots ≤ R.slots)
    (kk : ∀ v w', P (.inl v) w' → J g M R Q (k + Ry.cells) (n + Ry.slots) w' (pc + 3) l (v.toList ++ st)) (kx : ∀ E w', P (.inr E) w' → JX g M R Q (k + Ry.cells) (n + Ry.slots) w' pc l st E) : J g M R Q k n w pc l (As.reverse ++ .ref b :: st) := by
  refine J.callG (P := P) (mc := Ry.cells) (ms := Ry.slots) ?_ kk kx
  intro p ln e s m args below meth c C9 H locs ls hw hS hl
  obtain ⟨hx, hb, hml, hr, hown, hts, hlk, hst, htab, hini, hamb⟩ := C9
  exact vx_runSU (hamb.1.1 ci q hq).2 (As := As) (rest := st) (Ts := BIG) (own := M.1) ⟨hx, hb, hml, hown, hts⟩ (hC ln hst)
    (va_cwSU (ws' := BIG) na hts (goodIn_big (fun z hz => by
      simp only [va_wsSU, List.cons_append, List.nil_append, List.mem_cons] at hz
      rcases hz with rfl | rfl | rfl | rfl | rfl | rfl | hz
      · exact f1
      · exact f2
      · exact f3
      · exact f4
      · exact f6
      · exact f5
      · exact hz)) rfl rfl rfl hd hR)
    ⟨pc_blind, hrec _ _ _ hamb hw hS, pc_pre hamb hS hw⟩ rfl hna hl.1 rfl (lv_room hW) hdg hk
end CL
