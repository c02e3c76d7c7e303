/-! ===== rules that the law's own body needs ===== -/
theorem lcmp_self (x : Int64) : lg_cmp x x = 0 := by
  have h : ¬ x < x := Int64.lt_irrefl
  simp [lg_cmp, h]
theorem d_eq : ∀ k, k < 65 → FP.dcmp (dM k) (dM k) = some .eq := by decide +kernel
theorem f_eq : ∀ k, k < 65 → FP.dcmp (FP.f2d (fM k)) (FP.f2d (fM k)) = some .eq := by decide +kernel
theorem and63 (x : Int32) : ∃ k, k < 64 ∧ x &&& 63 = nI k := by
  have hb : (x &&& 63).toBitVec.toNat < 64 := by
    rw [Int32.toBitVec_and, BitVec.toNat_and]
    exact Nat.lt_of_le_of_lt Nat.and_le_right (by decide)
  have ht : (x &&& 63).toInt = ((x &&& 63).toBitVec.toNat : Int) := by
    show (x &&& 63).toBitVec.toInt = _
    exact BitVec.toInt_eq_toNat_of_lt (by omega)
  refine ⟨(x &&& 63).toBitVec.toNat, hb, ?_⟩
  apply Int32.toInt_inj.mp
  rw [nI_toInt (by omega), ht]
theorem i2c_n (x : Int32) : ∃ c, c < 65536 ∧ (x.toUInt32 % 65536).toInt32 = nI c := by
  have hb : (x.toUInt32 % 65536).toNat < 65536 := by
    rw [UInt32.toNat_mod]
    exact Nat.mod_lt _ (by decide)
  refine ⟨(x.toUInt32 % 65536).toNat, hb, ?_⟩
  apply Int32.toInt_inj.mp
  rw [nI_toInt (by omega)]
  show (x.toUInt32 % 65536).toBitVec.toInt = _
  exact BitVec.toInt_eq_toNat_of_lt (by show 2 * (x.toUInt32 % 65536).toNat < _; omega)
/-- behind a store of two slots -/
theorem lvx_dset {ls : Array Slot} {nL : Nat} {l l' : List (Option Value)} {i : Nat} {x : UInt64} (h : lv_has ls nL ((i, Value.double x) :: (lvx 0 l).filter (fun q => !(q.1 == i) && (!(q.1 == i + 1) && !(q.1 + 1 == i && q.2.category == 2))))) (hc : i = 0 ∨ cat1 l[i - 1]? = true) (hl : (l.set i (some (.double x))).set (i + 1) none = l') : lv_has ls nL (lvx 0 l') := by
  refine ⟨h.1, h.2.1, fun q hq => h.2.2 q ?_⟩
  obtain ⟨j, w⟩ := q
  rw [← hl] at hq
  obtain ⟨t, h1, h2⟩ := (lvx_mem _ 0 j w).mp hq
  have h1 : t = j := by omega
  subst h1
  by_cases e0 : t = i + 1
  · subst e0
    have hlt : i + 1 < (l.set i (some (.double x))).length := by
      have := (List.getElem?_eq_some_iff.mp h2).1
      simpa using this
    rw [List.getElem?_set_self hlt] at h2
    cases h2
  · rw [List.getElem?_set_ne (Ne.symm e0)] at h2
    by_cases e : t = i
    · subst e
      have hlt : t < l.length := by
        have := (List.getElem?_eq_some_iff.mp h2).1
        simpa using this
      rw [List.getElem?_set_self hlt] at h2
      cases h2
      exact List.mem_cons_self
    · rw [List.getElem?_set_ne (Ne.symm e)] at h2
      refine List.mem_cons_of_mem _ (List.mem_filter.mpr ⟨(lvx_mem l 0 t w).mpr ⟨t, by omega, h2⟩, ?_⟩)
      have e1 : (t == i) = false := by simpa using e
      have e3 : (t == i + 1) = false := by simpa using e0
      simp only [e1, e3, Bool.not_false, Bool.true_and]
      by_cases e2 : t + 1 = i
      · rcases hc with hc | hc
        · omega
        · rw [show i - 1 = t by omega, h2] at hc
          have : w.category = 1 := by simpa [cat1] using hc
          simp [this]
      · simp [e2]
/-- the end, as long as the script lies at b -/
def QX (b L : Nat) (xs : Nat → Int32) (Q : QT) : QT := fun below args s t => va_X b L xs s s.heap ∧ b < s.heap.size → Q below args s t
section R2
variable {g : GP} {M : MI} {R : Room} {Q : QT} {k n pc : Nat} {w : va_W} {l : List (Option Value)} {st : List Value}
theorem J.iand {x y z : Int32} (d : decode M.2.1 pc = .ok (.iand, 1)) (h : x &&& y = z) (K : J g M R Q k n w (pc + 1) l (.int z :: st)) : J g M R Q k n w pc l (.int y :: .int x :: st) := by
  subst h
  exact fun p ln e s m args below meth c C H locs ls hw hS hl => lv_iand C.1 C.2.1 d (K p ln e s m args below meth c C H locs ls hw hS hl)
theorem J.lcmpE {x : Int64} (d : decode M.2.1 pc = .ok (.lcmp, 1)) (K : J g M R Q k n w (pc + 1) l (.int 0 :: st)) : J g M R Q k n w pc l (.long x :: .long x :: st) :=
  fun p ln e s m args below meth c C H locs ls hw hS hl => W.lcmp C.1 C.2.1 d (by rw [lcmp_self]; exact K p ln e s m args below meth c C H locs ls hw hS hl)
theorem J.dcmpE {x : UInt64} (h : FP.dcmp x x = some .eq) (d : decode M.2.1 pc = .ok (.dcmp .l, 1)) (K : J g M R Q k n w (pc + 1) l (.int 0 :: st)) : J g M R Q k n w pc l (.double x :: .double x :: st) :=
  fun p ln e s m args below meth c C H locs ls hw hS hl => lv_dcmp C.1 C.2.1 d (by rw [h]; exact K p ln e s m args below meth c C H locs ls hw hS hl)
theorem J.dstore {i : Nat} {x : UInt64} {l' : List (Option Value)} (d : decode M.2.1 pc = .ok (.dstore i, 2)) (hn : i + 1 < M.2.2.1) (hc : i = 0 ∨ cat1 l[i - 1]? = true) (hl' : (l.set i (some (.double x))).set (i + 1) none = l') (K : J g M R Q k n w (pc + 2) l' st) : J g M R Q k n w pc l (.double x :: st) :=
  fun p ln e s m args below meth c C H locs ls hw hS hl => lv_dstore C.1 C.2.1 d hl hn rfl (fun ls' h => K p ln e s m args below meth c C H locs ls' hw hS (lvx_dset h hc hl'))
theorem J.noX {b L : Nat} {xs : Nat → Int32} (K : ∀ (p : Program) (ln : Launch) (e : Env) (s : State) (m : MethodId) (args : Array Value) (below : List Frame) (meth : Method) (c : Code), Cx g M p ln s m args meth c →
    va_X b L xs s s.heap → b < s.heap.size → ∀ (H : Heap) (locs : List Loc) (ls : Array Slot), Wd g w H → va_S (gA g) s.heap H locs → lv_has ls M.2.2.1 (lvx 0 l) → W p ln e R s m args below meth c H locs k n (QX b L xs Q below args s) (F0 m pc ls st)) : J g M R (QX b L xs Q) k n w pc l st := by
  intro p ln e s m args below meth c C H locs ls hw hS hl
  by_cases hX : va_X b L xs s s.heap ∧ b < s.heap.size
  · exact K p ln e s m args below meth c C hX.1 hX.2 H locs ls hw hS hl
  · intro T hT X
    exact ⟨_, Steps.refl _, fun h => absurd h hX⟩
theorem J.sld {b L i : Nat} {xs : Nat → Int32} (hb : b < g.1) (hi : i < L) (hL : L < 2147483648) (d : decode M.2.1 pc = .ok (.iaload, 1)) (K : J g M R (QX b L xs Q) k n w (pc + 1) l (.int (xs i) :: st)) : J g M R (QX b L xs Q) k n w pc l (.int (nI i) :: .ref b :: st) :=
  J.noX fun p ln e s m args below meth c C hX hbs H locs ls hw hS hl => va_sld (i := nI i) C.1 C.2.1 hX hbs (show ¬ g.1 ≤ b by omega) hS (by
      unfold vp_in
      rw [nI_clamp (by omega)]
      intro q
      rcases q with q | q
      · exact absurd (nI_0 ▸ q) (fun z => by have := (nI_ltI (a := i) (b := 0) (by omega) (by decide)).mp (by rw [nI_0]; exact q); omega)
      · omega) d (by rw [nI_clamp (by omega)]; exact K p ln e s m args below meth c C H locs ls hw hS hl)
theorem J.slen {b L : Nat} {xs : Nat → Int32} (hb : b < g.1) (d : decode M.2.1 pc = .ok (.arraylength, 1)) (K : J g M R (QX b L xs Q) k n w (pc + 1) l (.int (nI L) :: st)) : J g M R (QX b L xs Q) k n w pc l (.ref b :: st) :=
  J.noX fun p ln e s m args below meth c C hX hbs H locs ls hw hS hl => va_slen C.1 C.2.1 hX hbs (show ¬ g.1 ≤ b by omega) hS d (K p ln e s m args below meth c C H locs ls hw hS hl)
end R2
