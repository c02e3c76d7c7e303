/-! ===== doubles, floats, longs ===== -/
theorem d_n64 : ∀ k, k < 65 → (FP.ddiv (FP.i2d (nI k)) 4629700416936869888) &&& 0x7fffffffffffffff ≤ 0x7ff0000000000000 := by decide +kernel
theorem f_n32 : ∀ k, k < 65 → (FP.fdiv (FP.i2f (nI k)) 1115684864) &&& 0x7fffffff ≤ 0x7f800000 := by decide +kernel
theorem f_n64 : ∀ k, k < 65 → (FP.f2d (FP.fdiv (FP.i2f (nI k)) 1115684864)) &&& 0x7fffffffffffffff ≤ 0x7ff0000000000000 := by decide +kernel
def dM (k : Nat) : UInt64 := FP.ddiv (FP.i2d (nI k)) 4629700416936869888
def fM (k : Nat) : UInt32 := FP.fdiv (FP.i2f (nI k)) 1115684864
section FL
variable {g : GP} {M : MI} {R : Room} {Q : QT} {k n pc : Nat} {w : va_W} {l : List (Option Value)} {st : List Value}
theorem J.i2d {x : Int32} (d : decode M.2.1 pc = .ok (.i2d, 1)) (K : J g M R Q k n w (pc + 1) l (.double (FP.i2d x) :: st)) : J g M R Q k n w pc l (.int x :: st) :=
  fun p ln e s m args below meth c C H locs ls hw hS hl => lv_i2d C.1 C.2.1 d (K p ln e s m args below meth c C H locs ls hw hS hl)
theorem J.i2f {x : Int32} (d : decode M.2.1 pc = .ok (.i2f, 1)) (K : J g M R Q k n w (pc + 1) l (.float (FP.i2f x) :: st)) : J g M R Q k n w pc l (.int x :: st) :=
  fun p ln e s m args below meth c C H locs ls hw hS hl => lv_i2f C.1 C.2.1 d (K p ln e s m args below meth c C H locs ls hw hS hl)
theorem J.ddiv {x y : UInt64} (d : decode M.2.1 pc = .ok (.ddiv, 1)) (h : vf_n64 (FP.ddiv x y)) (K : J g M R Q k n w (pc + 1) l (.double (FP.ddiv x y) :: st)) : J g M R Q k n w pc l (.double y :: .double x :: st) :=
  fun p ln e s m args below meth c C H locs ls hw hS hl => lv_ddiv C.1 C.2.1 d h (K p ln e s m args below meth c C H locs ls hw hS hl)
theorem J.fdiv {x y : UInt32} (d : decode M.2.1 pc = .ok (.fdiv, 1)) (h : vf_n32 (FP.fdiv x y)) (K : J g M R Q k n w (pc + 1) l (.float (FP.fdiv x y) :: st)) : J g M R Q k n w pc l (.float y :: .float x :: st) :=
  fun p ln e s m args below meth c C H locs ls hw hS hl => lv_fdiv C.1 C.2.1 d h (K p ln e s m args below meth c C H locs ls hw hS hl)
theorem J.f2d {x : UInt32} (d : decode M.2.1 pc = .ok (.f2d, 1)) (h : vf_n64 (FP.f2d x)) (K : J g M R Q k n w (pc + 1) l (.double (FP.f2d x) :: st)) : J g M R Q k n w pc l (.float x :: st) :=
  fun p ln e s m args below meth c C H locs ls hw hS hl => lv_f2d C.1 C.2.1 d h (K p ln e s m args below meth c C H locs ls hw hS hl)
theorem J.ldc2d {i : Nat} {v : UInt64} (d : decode M.2.1 pc = .ok (.ldc2_w i, 3)) (f : Cond.constantDouble M.1 i v ∈ BIG) (K : J g M R Q k n w (pc + 3) l (.double v :: st)) : J g M R Q k n w pc l st :=
  fun p ln e s m args below meth c C H locs ls hw hS hl => lv_ldc2d C.1 C.2.1 C.2.2.2.2.1 (C.2.2.2.2.2.1 _ f) d (K p ln e s m args below meth c C H locs ls hw hS hl)
theorem J.ldcF {i : Nat} {v : UInt32} (d : decode M.2.1 pc = .ok (.ldc i, 2)) (f : Cond.constantFloat M.1 i v ∈ BIG) (K : J g M R Q k n w (pc + 2) l (.float v :: st)) : J g M R Q k n w pc l st :=
  fun p ln e s m args below meth c C H locs ls hw hS hl => lv_ldcf C.1 C.2.1 C.2.2.2.2.1 (C.2.2.2.2.2.1 _ f) d (K p ln e s m args below meth c C H locs ls hw hS hl)
theorem J.ldcwF {i : Nat} {v : UInt32} (d : decode M.2.1 pc = .ok (.ldc_w i, 3)) (f : Cond.constantFloat M.1 i v ∈ BIG) (K : J g M R Q k n w (pc + 3) l (.float v :: st)) : J g M R Q k n w pc l st := by
  intro p ln e s m args below meth c C H locs ls hw hS hl T hT X
  obtain ⟨t, a, b⟩ := K p ln e s m args below meth c C H locs ls hw hS hl T hT X
  refine ⟨t, ?_, b⟩
  have hexec := C.1
  have hdg : decode c.code pc = .ok (.ldc_w i, 3) := by rw [C.2.1]; exact d
  obtain ⟨k0, cf, hk, hcf, hcp⟩ := Cond.constantFloat_spec C.2.2.2.2.1 (C.2.2.2.2.2.1 _ f)
  obtain ⟨k', hk', he⟩ := X.warmed.alike.2.2 _ _ hk
  jvm_step X.here [hexec, hdg, ldc_w.wp_float (s := T) (f := F0 m pc ls st) X.here.top hk' (by rw [he]; exact hcf) hcp]
  exact a
end FL
section FR
variable {g : GP} {M : MI} {R : Room} {P : PT} {k n pc : Nat} {w : va_W} {l : List (Option Value)}
theorem J.dret {v : UInt64} (hr : M.2.2.2.1 = some .double) (hk : k ≤ R.cells) (hn : n ≤ R.slots) (d : decode M.2.1 pc = .ok (.dreturn, 1)) (hp : P (.inl (some (.double v))) w) : J g M R (MQx g R P) k n w pc l [.double v] :=
  fun p ln e s m args below meth c C H locs ls hw hS hl => W.widen hk hn (vx_ret (W.dret C.1 C.2.1 (C.2.2.2.1.trans hr) (fun t ht hW => ⟨_, w, rfl, hp, by rw [ht]; exact hw, hS.F ht⟩) hS.2.2 d C.2.2.2.2.2.2.1))
theorem J.fret {v : UInt32} (hr : M.2.2.2.1 = some .float) (hk : k ≤ R.cells) (hn : n ≤ R.slots) (d : decode M.2.1 pc = .ok (.freturn, 1)) (hp : P (.inl (some (.float v))) w) : J g M R (MQx g R P) k n w pc l [.float v] :=
  fun p ln e s m args below meth c C H locs ls hw hS hl => W.widen hk hn (vx_ret (W.fret C.1 C.2.1 (C.2.2.2.1.trans hr) (fun t ht hW => ⟨_, w, rfl, hp, by rw [ht]; exact hw, hS.F ht⟩) hS.2.2 d C.2.2.2.2.2.2.1))
end FR
/-! lines written by the class -/
def tLn (h : Nat → Nat) : Nat → TX
  | 0 => t0
  | n + 1 => tN (h n) (tLn h n)
def tLog (h : Nat → Nat) : Nat → TX
  | 0 => t0
  | n + 1 => tN (h (n * 3 + 2)) (tN (h (n * 3 + 1)) (tP (if h (n * 3) = 0 then 114 else 99) (tLog h n)))
theorem tLn_len {h : Nat → Nat} : ∀ {n : Nat}, (∀ k, k < n → h k < 10) → (tLn h n).1 = n
  | 0, _ => rfl
  | n + 1, q => by
    show (tLn h n).1 + numW (h n) = n + 1
    rw [tLn_len (fun k hk => q k (by omega))]
    unfold numW; rw [if_pos (q n (by omega))]
theorem tLog_len {h : Nat → Nat} : ∀ {n : Nat}, (∀ k, k < n → h (k * 3 + 1) < 10 ∧ h (k * 3 + 2) < 10) → (tLog h n).1 = 3 * n
  | 0, _ => rfl
  | n + 1, q => by
    show (tLog h n).1 + 1 + numW (h (n * 3 + 1)) + numW (h (n * 3 + 2)) = 3 * (n + 1)
    rw [tLog_len (fun k hk => q k (by omega))]
    unfold numW; rw [if_pos (q n (by omega)).1, if_pos (q n (by omega)).2]; omega
theorem mv_digs {σ : AS} (h : VS σ) {p : Nat} (hp : p < aLn σ) : aLg σ (p * 3) < 2 ∧ aLg σ (p * 3 + 1) < 10 ∧ aLg σ (p * 3 + 2) < 10 := by
  have := h.2.2.2.1 p hp
  rw [show 3 * p = p * 3 by omega] at this
  unfold mvOK at this
  omega
theorem SgT.clr {μ : Mem} {q : Nat} {t : Nat → Nat} : SgT (wr μ q 1 (nI 0)) q 0 t := ⟨wr_s, fun k hk => absurd hk (Nat.not_lt_zero k)⟩
