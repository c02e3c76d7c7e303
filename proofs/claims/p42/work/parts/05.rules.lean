/-! ===== rules of J, an instruction each; what stands as nI stays as nI ===== -/
section RU
variable {g : GP} {M : MI} {R : Room} {Q : QT} {k n pc : Nat} {w : va_W} {l : List (Option Value)} {st : List Value}
theorem J.iconst {i : Int} {v : Int32} (d : decode M.2.1 pc = .ok (.iconst i, 1)) (hv : Int32.ofInt i = v) (K : J g M R Q k n w (pc + 1) l (.int v :: st)) : J g M R Q k n w pc l st :=
  fun p ln e s m args below meth c C H locs ls hw hS hl => lv_iconst C.1 C.2.1 d hv (K p ln e s m args below meth c C H locs ls hw hS hl)
theorem J.bipush {i : Int} {v : Int32} (d : decode M.2.1 pc = .ok (.bipush i, 2)) (hv : (Int8.ofInt i).toInt32 = v) (K : J g M R Q k n w (pc + 2) l (.int v :: st)) : J g M R Q k n w pc l st :=
  fun p ln e s m args below meth c C H locs ls hw hS hl => lv_bipush C.1 C.2.1 d hv (K p ln e s m args below meth c C H locs ls hw hS hl)
theorem J.sipush {i : Int} {v : Int32} (d : decode M.2.1 pc = .ok (.sipush i, 3)) (hv : (Int16.ofInt i).toInt32 = v) (K : J g M R Q k n w (pc + 3) l (.int v :: st)) : J g M R Q k n w pc l st :=
  fun p ln e s m args below meth c C H locs ls hw hS hl => lv_sipush C.1 C.2.1 d hv (K p ln e s m args below meth c C H locs ls hw hS hl)
theorem J.ldcI {i : Nat} {v v' : Int32} (d : decode M.2.1 pc = .ok (.ldc i, 2)) (f : Cond.constant M.1 i v ∈ BIG) (hv : v = v') (K : J g M R Q k n w (pc + 2) l (.int v' :: st)) : J g M R Q k n w pc l st := by
  subst hv
  exact fun p ln e s m args below meth c C H locs ls hw hS hl => lv_ldc C.1 C.2.1 C.2.2.2.2.1 (C.2.2.2.2.2.1 _ f) d (K p ln e s m args below meth c C H locs ls hw hS hl)
theorem J.lconst {i : Fin 2} {v : Int64} (d : decode M.2.1 pc = .ok (.lconst i, 1)) (hv : Int64.ofNat (i : Nat) = v) (K : J g M R Q k n w (pc + 1) l (.long v :: st)) : J g M R Q k n w pc l st :=
  fun p ln e s m args below meth c C H locs ls hw hS hl => lv_lconst C.1 C.2.1 d hv (K p ln e s m args below meth c C H locs ls hw hS hl)
theorem J.iload_n {i : Fin 4} {x : Int32} (d : decode M.2.1 pc = .ok (.iload_n i, 1)) (h : l[(i : Nat)]? = some (some (.int x))) (K : J g M R Q k n w (pc + 1) l (.int x :: st)) : J g M R Q k n w pc l st :=
  fun p ln e s m args below meth c C H locs ls hw hS hl => lv_iload_n C.1 C.2.1 d rfl (lvx_get hl h) (K p ln e s m args below meth c C H locs ls hw hS hl)
theorem J.iload {i : Nat} {x : Int32} (d : decode M.2.1 pc = .ok (.iload i, 2)) (h : l[i]? = some (some (.int x))) (K : J g M R Q k n w (pc + 2) l (.int x :: st)) : J g M R Q k n w pc l st :=
  fun p ln e s m args below meth c C H locs ls hw hS hl => lv_iload C.1 C.2.1 d (lvx_get hl h) (K p ln e s m args below meth c C H locs ls hw hS hl)
theorem J.aload_n {i : Fin 4} {x : Nat} (d : decode M.2.1 pc = .ok (.aload_n i, 1)) (h : l[(i : Nat)]? = some (some (.ref x))) (K : J g M R Q k n w (pc + 1) l (.ref x :: st)) : J g M R Q k n w pc l st :=
  fun p ln e s m args below meth c C H locs ls hw hS hl => lv_aload_n C.1 C.2.1 d rfl (lvx_get hl h) (K p ln e s m args below meth c C H locs ls hw hS hl)
theorem J.aload {i : Nat} {x : Nat} (d : decode M.2.1 pc = .ok (.aload i, 2)) (h : l[i]? = some (some (.ref x))) (K : J g M R Q k n w (pc + 2) l (.ref x :: st)) : J g M R Q k n w pc l st :=
  fun p ln e s m args below meth c C H locs ls hw hS hl => lv_aload C.1 C.2.1 d (lvx_get hl h) (K p ln e s m args below meth c C H locs ls hw hS hl)
theorem J.dload {i : Nat} {x : UInt64} (d : decode M.2.1 pc = .ok (.dload i, 2)) (h : l[i]? = some (some (.double x))) (K : J g M R Q k n w (pc + 2) l (.double x :: st)) : J g M R Q k n w pc l st :=
  fun p ln e s m args below meth c C H locs ls hw hS hl => lv_dload C.1 C.2.1 d (lvx_get hl h) (K p ln e s m args below meth c C H locs ls hw hS hl)
theorem J.istore_n {i : Fin 4} {x : Int32} {l' : List (Option Value)} (d : decode M.2.1 pc = .ok (.istore_n i, 1)) (hn : (i : Nat) < M.2.2.1) (hc : (i : Nat) = 0 ∨ cat1 l[(i : Nat) - 1]? = true) (hl' : l.set i (some (.int x)) = l') (K : J g M R Q k n w (pc + 1) l' st) : J g M R Q k n w pc l (.int x :: st) :=
  fun p ln e s m args below meth c C H locs ls hw hS hl => lv_istore_n C.1 C.2.1 d rfl hl hn rfl (fun ls' h => K p ln e s m args below meth c C H locs ls' hw hS (lvx_set h hc hl'))
theorem J.istore {i : Nat} {x : Int32} {l' : List (Option Value)} (d : decode M.2.1 pc = .ok (.istore i, 2)) (hn : i < M.2.2.1) (hc : i = 0 ∨ cat1 l[i - 1]? = true) (hl' : l.set i (some (.int x)) = l') (K : J g M R Q k n w (pc + 2) l' st) : J g M R Q k n w pc l (.int x :: st) :=
  fun p ln e s m args below meth c C H locs ls hw hS hl => lv_istore C.1 C.2.1 d hl hn rfl (fun ls' h => K p ln e s m args below meth c C H locs ls' hw hS (lvx_set h hc hl'))
theorem J.astore_n {i : Fin 4} {x : Nat} {l' : List (Option Value)} (d : decode M.2.1 pc = .ok (.astore_n i, 1)) (hn : (i : Nat) < M.2.2.1) (hc : (i : Nat) = 0 ∨ cat1 l[(i : Nat) - 1]? = true) (hl' : l.set i (some (.ref x)) = l') (K : J g M R Q k n w (pc + 1) l' st) : J g M R Q k n w pc l (.ref x :: st) :=
  fun p ln e s m args below meth c C H locs ls hw hS hl => lv_astore_n C.1 C.2.1 d rfl hl hn rfl (fun ls' h => K p ln e s m args below meth c C H locs ls' hw hS (lvx_set h hc hl'))
theorem J.astore {i : Nat} {x : Nat} {l' : List (Option Value)} (d : decode M.2.1 pc = .ok (.astore i, 2)) (hn : i < M.2.2.1) (hc : i = 0 ∨ cat1 l[i - 1]? = true) (hl' : l.set i (some (.ref x)) = l') (K : J g M R Q k n w (pc + 2) l' st) : J g M R Q k n w pc l (.ref x :: st) :=
  fun p ln e s m args below meth c C H locs ls hw hS hl => lv_astore C.1 C.2.1 d hl hn rfl (fun ls' h => K p ln e s m args below meth c C H locs ls' hw hS (lvx_set h hc hl'))
theorem J.iinc {i : Nat} {z : Int} {x v : Int32} {l' : List (Option Value)} (d : decode M.2.1 pc = .ok (.iinc i z, 3)) (h : l[i]? = some (some (.int x))) (hv : x + Int32.ofInt z = v) (hn : i < M.2.2.1) (hc : i = 0 ∨ cat1 l[i - 1]? = true) (hl' : l.set i (some (.int v)) = l') (K : J g M R Q k n w (pc + 3) l' st) : J g M R Q k n w pc l st := by
  intro p ln e s m args below meth c C H locs ls hw hS hl
  obtain ⟨t, ht⟩ := List.getElem?_of_mem ((lvx_mem l 0 i _).mpr ⟨i, by omega, h⟩)
  exact lv_iinc C.1 C.2.1 d hl ht hv hn rfl (fun ls' h => K p ln e s m args below meth c C H locs ls' hw hS (lvx_set h hc hl'))
theorem J.iadd {x y z : Int32} (d : decode M.2.1 pc = .ok (.iadd, 1)) (h : x + y = z) (K : J g M R Q k n w (pc + 1) l (.int z :: st)) : J g M R Q k n w pc l (.int y :: .int x :: st) := by
  subst h
  exact fun p ln e s m args below meth c C H locs ls hw hS hl => lv_iadd C.1 C.2.1 d (K p ln e s m args below meth c C H locs ls hw hS hl)
theorem J.isub {x y z : Int32} (d : decode M.2.1 pc = .ok (.isub, 1)) (h : x - y = z) (K : J g M R Q k n w (pc + 1) l (.int z :: st)) : J g M R Q k n w pc l (.int y :: .int x :: st) := by
  subst h
  exact fun p ln e s m args below meth c C H locs ls hw hS hl => lv_isub C.1 C.2.1 d (K p ln e s m args below meth c C H locs ls hw hS hl)
theorem J.imul {x y z : Int32} (d : decode M.2.1 pc = .ok (.imul, 1)) (h : x * y = z) (K : J g M R Q k n w (pc + 1) l (.int z :: st)) : J g M R Q k n w pc l (.int y :: .int x :: st) := by
  subst h
  exact fun p ln e s m args below meth c C H locs ls hw hS hl => lv_imul C.1 C.2.1 d (K p ln e s m args below meth c C H locs ls hw hS hl)
theorem J.idiv {a b : Nat} (d : decode M.2.1 pc = .ok (.idiv, 1)) (h1 : a < 2147483648) (h2 : 0 < b) (h3 : b < 2147483648) (K : J g M R Q k n w (pc + 1) l (.int (nI (a / b)) :: st)) : J g M R Q k n w pc l (.int (nI b) :: .int (nI a) :: st) := by
  rw [← pk_div h1 h2 h3] at K
  exact fun p ln e s m args below meth c C H locs ls hw hS hl => lv_idiv C.1 C.2.1 d (nI_ne0 h2 h3) (K p ln e s m args below meth c C H locs ls hw hS hl)
theorem J.irem {a b : Nat} (d : decode M.2.1 pc = .ok (.irem, 1)) (h1 : a < 2147483648) (h2 : 0 < b) (h3 : b < 2147483648) (K : J g M R Q k n w (pc + 1) l (.int (nI (a % b)) :: st)) : J g M R Q k n w pc l (.int (nI b) :: .int (nI a) :: st) := by
  rw [← pk_rem h1 h2 h3] at K
  exact fun p ln e s m args below meth c C H locs ls hw hS hl => lv_irem C.1 C.2.1 d (nI_ne0 h2 h3) (K p ln e s m args below meth c C H locs ls hw hS hl)
theorem J.iaddN {a b : Nat} (d : decode M.2.1 pc = .ok (.iadd, 1)) (K : J g M R Q k n w (pc + 1) l (.int (nI (a + b)) :: st)) : J g M R Q k n w pc l (.int (nI b) :: .int (nI a) :: st) := J.iadd d (nI_add a b) K
theorem J.isubN {a b : Nat} (d : decode M.2.1 pc = .ok (.isub, 1)) (h : b ≤ a) (K : J g M R Q k n w (pc + 1) l (.int (nI (a - b)) :: st)) : J g M R Q k n w pc l (.int (nI b) :: .int (nI a) :: st) := J.isub d (pk_sub h) K
theorem J.imulN {a b : Nat} (d : decode M.2.1 pc = .ok (.imul, 1)) (K : J g M R Q k n w (pc + 1) l (.int (nI (a * b)) :: st)) : J g M R Q k n w pc l (.int (nI b) :: .int (nI a) :: st) := J.imul d (pk_mul a b) K
theorem J.iincN {i z : Nat} {zi : Int} {a : Nat} {l' : List (Option Value)} (d : decode M.2.1 pc = .ok (.iinc i zi, 3)) (hz : Int32.ofInt zi = nI z) (h : l[i]? = some (some (.int (nI a)))) (hn : i < M.2.2.1) (hc : i = 0 ∨ cat1 l[i - 1]? = true) (hl' : l.set i (some (.int (nI (a + z)))) = l') (K : J g M R Q k n w (pc + 3) l' st) : J g M R Q k n w pc l st :=
  J.iinc d h (by rw [hz, nI_add]) hn hc hl' K
theorem J.ineg {x z : Int32} (d : decode M.2.1 pc = .ok (.ineg, 1)) (h : -x = z) (K : J g M R Q k n w (pc + 1) l (.int z :: st)) : J g M R Q k n w pc l (.int x :: st) := by
  subst h
  exact fun p ln e s m args below meth c C H locs ls hw hS hl => lv_ineg C.1 C.2.1 d (K p ln e s m args below meth c C H locs ls hw hS hl)
theorem J.i2c {x z : Int32} (d : decode M.2.1 pc = .ok (.i2c, 1)) (h : (x.toUInt32 % 65536).toInt32 = z) (K : J g M R Q k n w (pc + 1) l (.int z :: st)) : J g M R Q k n w pc l (.int x :: st) :=
  fun p ln e s m args below meth c C H locs ls hw hS hl => lv_i2c C.1 C.2.1 d h (K p ln e s m args below meth c C H locs ls hw hS hl)
theorem J.i2l {x : Int32} (d : decode M.2.1 pc = .ok (.i2l, 1)) (K : J g M R Q k n w (pc + 1) l (.long x.toInt64 :: st)) : J g M R Q k n w pc l (.int x :: st) :=
  fun p ln e s m args below meth c C H locs ls hw hS hl => lv_i2l C.1 C.2.1 d rfl (K p ln e s m args below meth c C H locs ls hw hS hl)
theorem J.dup {v : Value} (d : decode M.2.1 pc = .ok (.dup, 1)) (h : v.category = 1) (K : J g M R Q k n w (pc + 1) l (v :: v :: st)) : J g M R Q k n w pc l (v :: st) :=
  fun p ln e s m args below meth c C H locs ls hw hS hl => lv_dup C.1 C.2.1 d h (K p ln e s m args below meth c C H locs ls hw hS hl)
theorem J.pop {v : Value} (d : decode M.2.1 pc = .ok (.pop, 1)) (h : v.category = 1) (K : J g M R Q k n w (pc + 1) l st) : J g M R Q k n w pc l (v :: st) :=
  fun p ln e s m args below meth c C H locs ls hw hS hl => lv_pop C.1 C.2.1 d h (K p ln e s m args below meth c C H locs ls hw hS hl)
theorem J.goto {off : Int} {tgt : Nat} (d : decode M.2.1 pc = .ok (.goto off, 3)) (ht : (pc : Int) + off = (tgt : Int)) (K : J g M R Q k n w tgt l st) : J g M R Q k n w pc l st :=
  fun p ln e s m args below meth c C H locs ls hw hS hl => lv_goto C.1 C.2.1 d ht (K p ln e s m args below meth c C H locs ls hw hS hl)
theorem J.icmp_eq {x y : Int32} {off : Int} {tgt : Nat} (d : decode M.2.1 pc = .ok (.if_icmp .eq off, 3)) (ht : (pc : Int) + off = (tgt : Int)) (kt : x = y → J g M R Q k n w tgt l st) (kf : ¬ x = y → J g M R Q k n w (pc + 3) l st) : J g M R Q k n w pc l (.int y :: .int x :: st) :=
  fun p ln e s m args below meth c C H locs ls hw hS hl => lv_icmp_eq C.1 C.2.1 d ht (fun z => kt z p ln e s m args below meth c C H locs ls hw hS hl) (fun z => kf z p ln e s m args below meth c C H locs ls hw hS hl)
theorem J.icmp_eqN {a b : Nat} {off : Int} {tgt : Nat} (d : decode M.2.1 pc = .ok (.if_icmp .eq off, 3)) (ht : (pc : Int) + off = (tgt : Int)) (ha : a < 2147483648) (hb : b < 2147483648) (kt : a = b → J g M R Q k n w tgt l st) (kf : a ≠ b → J g M R Q k n w (pc + 3) l st) : J g M R Q k n w pc l (.int (nI b) :: .int (nI a) :: st) :=
  J.icmp_eq d ht (fun z => kt ((nI_eq ha hb).mp z)) (fun z => kf (fun q => z ((nI_eq ha hb).mpr q)))
theorem J.icmp_ne {x y : Int32} {off : Int} {tgt : Nat} (d : decode M.2.1 pc = .ok (.if_icmp .ne off, 3)) (ht : (pc : Int) + off = (tgt : Int)) (kt : ¬ x = y → J g M R Q k n w tgt l st) (kf : x = y → J g M R Q k n w (pc + 3) l st) : J g M R Q k n w pc l (.int y :: .int x :: st) :=
  fun p ln e s m args below meth c C H locs ls hw hS hl => lv_icmp_ne C.1 C.2.1 d ht (fun z => kt z p ln e s m args below meth c C H locs ls hw hS hl) (fun z => kf z p ln e s m args below meth c C H locs ls hw hS hl)
theorem J.icmp_neN {a b : Nat} {off : Int} {tgt : Nat} (d : decode M.2.1 pc = .ok (.if_icmp .ne off, 3)) (ht : (pc : Int) + off = (tgt : Int)) (ha : a < 2147483648) (hb : b < 2147483648) (kt : a ≠ b → J g M R Q k n w tgt l st) (kf : a = b → J g M R Q k n w (pc + 3) l st) : J g M R Q k n w pc l (.int (nI b) :: .int (nI a) :: st) :=
  J.icmp_ne d ht (fun z => kt (fun q => z ((nI_eq ha hb).mpr q))) (fun z => kf ((nI_eq ha hb).mp z))
theorem J.icmp_lt {x y : Int32} {off : Int} {tgt : Nat} (d : decode M.2.1 pc = .ok (.if_icmp .lt off, 3)) (ht : (pc : Int) + off = (tgt : Int)) (kt : x < y → J g M R Q k n w tgt l st) (kf : ¬ x < y → J g M R Q k n w (pc + 3) l st) : J g M R Q k n w pc l (.int y :: .int x :: st) :=
  fun p ln e s m args below meth c C H locs ls hw hS hl => lv_icmp_lt C.1 C.2.1 d ht (fun z => kt z p ln e s m args below meth c C H locs ls hw hS hl) (fun z => kf z p ln e s m args below meth c C H locs ls hw hS hl)
theorem J.icmp_ltN {a b : Nat} {off : Int} {tgt : Nat} (d : decode M.2.1 pc = .ok (.if_icmp .lt off, 3)) (ht : (pc : Int) + off = (tgt : Int)) (ha : a < 2147483648) (hb : b < 2147483648) (kt : a < b → J g M R Q k n w tgt l st) (kf : b ≤ a → J g M R Q k n w (pc + 3) l st) : J g M R Q k n w pc l (.int (nI b) :: .int (nI a) :: st) :=
  J.icmp_lt d ht (fun z => kt ((nI_ltI ha hb).mp z)) (fun z => kf (Nat.not_lt.mp (fun q => z ((nI_ltI ha hb).mpr q))))
theorem J.icmp_ge {x y : Int32} {off : Int} {tgt : Nat} (d : decode M.2.1 pc = .ok (.if_icmp .ge off, 3)) (ht : (pc : Int) + off = (tgt : Int)) (kt : y ≤ x → J g M R Q k n w tgt l st) (kf : ¬ y ≤ x → J g M R Q k n w (pc + 3) l st) : J g M R Q k n w pc l (.int y :: .int x :: st) :=
  fun p ln e s m args below meth c C H locs ls hw hS hl => lv_icmp_ge C.1 C.2.1 d ht (fun z => kt z p ln e s m args below meth c C H locs ls hw hS hl) (fun z => kf z p ln e s m args below meth c C H locs ls hw hS hl)
theorem J.icmp_geN {a b : Nat} {off : Int} {tgt : Nat} (d : decode M.2.1 pc = .ok (.if_icmp .ge off, 3)) (ht : (pc : Int) + off = (tgt : Int)) (ha : a < 2147483648) (hb : b < 2147483648) (kt : b ≤ a → J g M R Q k n w tgt l st) (kf : a < b → J g M R Q k n w (pc + 3) l st) : J g M R Q k n w pc l (.int (nI b) :: .int (nI a) :: st) :=
  J.icmp_ge d ht (fun z => kt ((nI_leI hb ha).mp z)) (fun z => kf (Nat.not_le.mp (fun q => z ((nI_leI hb ha).mpr q))))
theorem J.icmp_gt {x y : Int32} {off : Int} {tgt : Nat} (d : decode M.2.1 pc = .ok (.if_icmp .gt off, 3)) (ht : (pc : Int) + off = (tgt : Int)) (kt : y < x → J g M R Q k n w tgt l st) (kf : ¬ y < x → J g M R Q k n w (pc + 3) l st) : J g M R Q k n w pc l (.int y :: .int x :: st) :=
  fun p ln e s m args below meth c C H locs ls hw hS hl => lv_icmp_gt C.1 C.2.1 d ht (fun z => kt z p ln e s m args below meth c C H locs ls hw hS hl) (fun z => kf z p ln e s m args below meth c C H locs ls hw hS hl)
theorem J.icmp_gtN {a b : Nat} {off : Int} {tgt : Nat} (d : decode M.2.1 pc = .ok (.if_icmp .gt off, 3)) (ht : (pc : Int) + off = (tgt : Int)) (ha : a < 2147483648) (hb : b < 2147483648) (kt : b < a → J g M R Q k n w tgt l st) (kf : a ≤ b → J g M R Q k n w (pc + 3) l st) : J g M R Q k n w pc l (.int (nI b) :: .int (nI a) :: st) :=
  J.icmp_gt d ht (fun z => kt ((nI_ltI hb ha).mp z)) (fun z => kf (Nat.not_lt.mp (fun q => z ((nI_ltI hb ha).mpr q))))
theorem J.icmp_le {x y : Int32} {off : Int} {tgt : Nat} (d : decode M.2.1 pc = .ok (.if_icmp .le off, 3)) (ht : (pc : Int) + off = (tgt : Int)) (kt : x ≤ y → J g M R Q k n w tgt l st) (kf : ¬ x ≤ y → J g M R Q k n w (pc + 3) l st) : J g M R Q k n w pc l (.int y :: .int x :: st) :=
  fun p ln e s m args below meth c C H locs ls hw hS hl => lv_icmp_le C.1 C.2.1 d ht (fun z => kt z p ln e s m args below meth c C H locs ls hw hS hl) (fun z => kf z p ln e s m args below meth c C H locs ls hw hS hl)
theorem J.icmp_leN {a b : Nat} {off : Int} {tgt : Nat} (d : decode M.2.1 pc = .ok (.if_icmp .le off, 3)) (ht : (pc : Int) + off = (tgt : Int)) (ha : a < 2147483648) (hb : b < 2147483648) (kt : a ≤ b → J g M R Q k n w tgt l st) (kf : b < a → J g M R Q k n w (pc + 3) l st) : J g M R Q k n w pc l (.int (nI b) :: .int (nI a) :: st) :=
  J.icmp_le d ht (fun z => kt ((nI_leI ha hb).mp z)) (fun z => kf (Nat.not_le.mp (fun q => z ((nI_leI ha hb).mpr q))))
theorem J.if_eq {x : Int32} {off : Int} {tgt : Nat} (d : decode M.2.1 pc = .ok (.ifCond .eq off, 3)) (ht : (pc : Int) + off = (tgt : Int)) (kt : x = 0 → J g M R Q k n w tgt l st) (kf : ¬ x = 0 → J g M R Q k n w (pc + 3) l st) : J g M R Q k n w pc l (.int x :: st) :=
  fun p ln e s m args below meth c C H locs ls hw hS hl => lv_if_eq C.1 C.2.1 d ht (fun z => kt z p ln e s m args below meth c C H locs ls hw hS hl) (fun z => kf z p ln e s m args below meth c C H locs ls hw hS hl)
theorem J.if_eqN {a : Nat} {off : Int} {tgt : Nat} (d : decode M.2.1 pc = .ok (.ifCond .eq off, 3)) (ht : (pc : Int) + off = (tgt : Int)) (ha : a < 2147483648) (kt : a = 0 → J g M R Q k n w tgt l st) (kf : 0 < a → J g M R Q k n w (pc + 3) l st) : J g M R Q k n w pc l (.int (nI a) :: st) :=
  J.if_eq d ht (fun z => kt ((nI_eq ha (b := 0) (by decide)).mp (z.trans nI_0.symm))) (fun z => kf (Nat.pos_of_ne_zero (fun q => z (by rw [q]; exact nI_0))))
theorem J.if_ne {x : Int32} {off : Int} {tgt : Nat} (d : decode M.2.1 pc = .ok (.ifCond .ne off, 3)) (ht : (pc : Int) + off = (tgt : Int)) (kt : ¬ x = 0 → J g M R Q k n w tgt l st) (kf : x = 0 → J g M R Q k n w (pc + 3) l st) : J g M R Q k n w pc l (.int x :: st) :=
  fun p ln e s m args below meth c C H locs ls hw hS hl => lv_if_ne C.1 C.2.1 d ht (fun z => kt z p ln e s m args below meth c C H locs ls hw hS hl) (fun z => kf z p ln e s m args below meth c C H locs ls hw hS hl)
theorem J.if_neN {a : Nat} {off : Int} {tgt : Nat} (d : decode M.2.1 pc = .ok (.ifCond .ne off, 3)) (ht : (pc : Int) + off = (tgt : Int)) (ha : a < 2147483648) (kt : 0 < a → J g M R Q k n w tgt l st) (kf : a = 0 → J g M R Q k n w (pc + 3) l st) : J g M R Q k n w pc l (.int (nI a) :: st) :=
  J.if_ne d ht (fun z => kt (Nat.pos_of_ne_zero (fun q => z (by rw [q]; exact nI_0)))) (fun z => kf ((nI_eq ha (b := 0) (by decide)).mp (z.trans nI_0.symm)))
theorem J.if_lt {x : Int32} {off : Int} {tgt : Nat} (d : decode M.2.1 pc = .ok (.ifCond .lt off, 3)) (ht : (pc : Int) + off = (tgt : Int)) (kt : x < 0 → J g M R Q k n w tgt l st) (kf : ¬ x < 0 → J g M R Q k n w (pc + 3) l st) : J g M R Q k n w pc l (.int x :: st) :=
  fun p ln e s m args below meth c C H locs ls hw hS hl => lv_if_lt C.1 C.2.1 d ht (fun z => kt z p ln e s m args below meth c C H locs ls hw hS hl) (fun z => kf z p ln e s m args below meth c C H locs ls hw hS hl)
theorem J.if_ltN {a : Nat} {off : Int} {tgt : Nat} (d : decode M.2.1 pc = .ok (.ifCond .lt off, 3)) (ht : (pc : Int) + off = (tgt : Int)) (ha : a < 2147483648) (kt : False → J g M R Q k n w tgt l st) (kf : True → J g M R Q k n w (pc + 3) l st) : J g M R Q k n w pc l (.int (nI a) :: st) :=
  J.if_lt d ht (fun z => (nI_pos ha z).elim) (fun _ => kf trivial)
theorem J.if_ge {x : Int32} {off : Int} {tgt : Nat} (d : decode M.2.1 pc = .ok (.ifCond .ge off, 3)) (ht : (pc : Int) + off = (tgt : Int)) (kt : 0 ≤ x → J g M R Q k n w tgt l st) (kf : ¬ 0 ≤ x → J g M R Q k n w (pc + 3) l st) : J g M R Q k n w pc l (.int x :: st) :=
  fun p ln e s m args below meth c C H locs ls hw hS hl => lv_if_ge C.1 C.2.1 d ht (fun z => kt z p ln e s m args below meth c C H locs ls hw hS hl) (fun z => kf z p ln e s m args below meth c C H locs ls hw hS hl)
theorem J.if_geN {a : Nat} {off : Int} {tgt : Nat} (d : decode M.2.1 pc = .ok (.ifCond .ge off, 3)) (ht : (pc : Int) + off = (tgt : Int)) (ha : a < 2147483648) (kt : True → J g M R Q k n w tgt l st) (kf : False → J g M R Q k n w (pc + 3) l st) : J g M R Q k n w pc l (.int (nI a) :: st) :=
  J.if_ge d ht (fun _ => kt trivial) (fun z => (z (nI_pos' ha)).elim)
theorem J.if_gt {x : Int32} {off : Int} {tgt : Nat} (d : decode M.2.1 pc = .ok (.ifCond .gt off, 3)) (ht : (pc : Int) + off = (tgt : Int)) (kt : 0 < x → J g M R Q k n w tgt l st) (kf : ¬ 0 < x → J g M R Q k n w (pc + 3) l st) : J g M R Q k n w pc l (.int x :: st) :=
  fun p ln e s m args below meth c C H locs ls hw hS hl => lv_if_gt C.1 C.2.1 d ht (fun z => kt z p ln e s m args below meth c C H locs ls hw hS hl) (fun z => kf z p ln e s m args below meth c C H locs ls hw hS hl)
theorem J.if_gtN {a : Nat} {off : Int} {tgt : Nat} (d : decode M.2.1 pc = .ok (.ifCond .gt off, 3)) (ht : (pc : Int) + off = (tgt : Int)) (ha : a < 2147483648) (kt : 0 < a → J g M R Q k n w tgt l st) (kf : a = 0 → J g M R Q k n w (pc + 3) l st) : J g M R Q k n w pc l (.int (nI a) :: st) :=
  J.if_gt d ht (fun z => kt ((nI_ltI (a := 0) (by decide) ha).mp (nI_0 ▸ z))) (fun z => kf (Nat.eq_zero_of_not_pos (fun q => z (by have := nI_lt q ha; rw [nI_0] at this; exact this))))
theorem J.if_le {x : Int32} {off : Int} {tgt : Nat} (d : decode M.2.1 pc = .ok (.ifCond .le off, 3)) (ht : (pc : Int) + off = (tgt : Int)) (kt : x ≤ 0 → J g M R Q k n w tgt l st) (kf : ¬ x ≤ 0 → J g M R Q k n w (pc + 3) l st) : J g M R Q k n w pc l (.int x :: st) :=
  fun p ln e s m args below meth c C H locs ls hw hS hl => lv_if_le C.1 C.2.1 d ht (fun z => kt z p ln e s m args below meth c C H locs ls hw hS hl) (fun z => kf z p ln e s m args below meth c C H locs ls hw hS hl)
theorem J.if_leN {a : Nat} {off : Int} {tgt : Nat} (d : decode M.2.1 pc = .ok (.ifCond .le off, 3)) (ht : (pc : Int) + off = (tgt : Int)) (ha : a < 2147483648) (kt : a = 0 → J g M R Q k n w tgt l st) (kf : 0 < a → J g M R Q k n w (pc + 3) l st) : J g M R Q k n w pc l (.int (nI a) :: st) :=
  J.if_le d ht (fun z => kt (Nat.eq_zero_of_not_pos (fun q => nI_nle q ha z))) (fun z => kf (Nat.pos_of_ne_zero (fun q => z (by rw [q, nI_0]; exact Int32.le_refl _))))
theorem J.tableIn {dflt lo hi off : Int} {offs : Array Int} {len tgt : Nat} {x : Int32} (d : decode M.2.1 pc = .ok (.tableswitch dflt lo hi offs, len)) (h1 : ¬ x.toInt < lo) (h2 : ¬ hi < x.toInt) (ho : offs[(x.toInt - lo).toNat]? = some off) (ht : (pc : Int) + off = (tgt : Int)) (K : J g M R Q k n w tgt l st) : J g M R Q k n w pc l (.int x :: st) :=
  fun p ln e s m args below meth c C H locs ls hw hS hl => lv_tableIn C.1 C.2.1 d h1 h2 ho ht (K p ln e s m args below meth c C H locs ls hw hS hl)
theorem J.tableOut {dflt lo hi : Int} {offs : Array Int} {len tgt : Nat} {x : Int32} (d : decode M.2.1 pc = .ok (.tableswitch dflt lo hi offs, len)) (h : x.toInt < lo ∨ hi < x.toInt) (ht : (pc : Int) + dflt = (tgt : Int)) (K : J g M R Q k n w tgt l st) : J g M R Q k n w pc l (.int x :: st) :=
  fun p ln e s m args below meth c C H locs ls hw hS hl => lv_tableOut C.1 C.2.1 d h ht (K p ln e s m args below meth c C H locs ls hw hS hl)
theorem J.lookup {dflt off : Int} {ps : Array (Int × Int)} {len tgt : Nat} {x : Int32} (d : decode M.2.1 pc = .ok (.lookupswitch dflt ps, len)) (hp : (ps.toList.zip (ps.toList.drop 1)).all (fun (a, next) => a.1 < next.1) = true) (ho : Op.lookupswitch.offset ps.toList dflt x.toInt = off) (ht : (pc : Int) + off = (tgt : Int)) (K : J g M R Q k n w tgt l st) : J g M R Q k n w pc l (.int x :: st) :=
  fun p ln e s m args below meth c C H locs ls hw hS hl => lv_lookup C.1 C.2.1 d hp ho ht (K p ln e s m args below meth c C H locs ls hw hS hl)
theorem J.dup2 {a b : Value} (d : decode M.2.1 pc = .ok (.dup2, 1)) (h1 : a.category = 1) (h2 : b.category = 1) (K : J g M R Q k n w (pc + 1) l (a :: b :: a :: b :: st)) : J g M R Q k n w pc l (a :: b :: st) :=
  fun p ln e s m args below meth c C H locs ls hw hS hl => lv_dup2_11 C.1 C.2.1 d h1 h2 (K p ln e s m args below meth c C H locs ls hw hS hl)
end RU
section RE
variable {g : GP} {M : MI} {R : Room} {P : PT} {k n pc : Nat} {w : va_W} {l : List (Option Value)}
theorem J.iret {v : Int32} (hr : M.2.2.2.1 = some .int) (hk : k ≤ R.cells) (hn : n ≤ R.slots) (d : decode M.2.1 pc = .ok (.ireturn, 1)) (hp : P (.inl (some (.int v))) w) : J g M R (MQx g R P) k n w pc l [.int v] :=
  fun p ln e s m args below meth c C H locs ls hw hS hl => W.widen hk hn (vx_ret (W.iret C.1 C.2.1 (C.2.2.2.1.trans hr) (fun t ht hW => ⟨_, w, rfl, hp, by rw [ht]; exact hw, hS.F ht⟩) hS.2.2 d C.2.2.2.2.2.2.1))
theorem J.zret {v : Int32} {ty : FieldType} (hr : M.2.2.2.1 = some ty) (hv : narrow ty (.int v) = .int v) (hk : k ≤ R.cells) (hn : n ≤ R.slots) (d : decode M.2.1 pc = .ok (.ireturn, 1)) (hp : P (.inl (some (.int v))) w) : J g M R (MQx g R P) k n w pc l [.int v] :=
  fun p ln e s m args below meth c C H locs ls hw hS hl => W.widen hk hn (vx_ret (W.zret C.1 C.2.1 (C.2.2.2.1.trans hr) hv (fun t ht hW => ⟨_, w, rfl, hp, by rw [ht]; exact hw, hS.F ht⟩) hS.2.2 d C.2.2.2.2.2.2.1))
theorem J.vret (hr : M.2.2.2.1 = none) (hk : k ≤ R.cells) (hn : n ≤ R.slots) (d : decode M.2.1 pc = .ok (.return_, 1)) (hp : P (.inl none) w) : J g M R (MQx g R P) k n w pc l [] :=
  fun p ln e s m args below meth c C H locs ls hw hS hl => W.widen hk hn (vx_ret (W.vret C.1 C.2.1 (C.2.2.2.1.trans hr) (fun t ht hW => ⟨_, w, rfl, hp, by rw [ht]; exact hw, hS.F ht⟩) hS.2.2 d C.2.2.2.2.2.2.1))
theorem J.vretI (hr : M.2.2.2.1 = none) (hk : k ≤ R.cells) (hn : n ≤ R.slots) (d : decode M.2.1 pc = .ok (.return_, 1)) (hp : P (.inl none) w) : J g M R (MQi g R P) k n w pc l [] :=
  fun p ln e s m args below meth c C H locs ls hw hS hl => W.widen hk hn (W.vret C.1 C.2.1 (C.2.2.2.1.trans hr) (fun t ht hW => ⟨_, w, rfl, hp, by rw [ht]; exact hw, hS.F ht⟩) hS.2.2 d C.2.2.2.2.2.2.1)
theorem J.throwS {E tx : String} {ik is ic : Nat} {names : List String} {st : List Value} (hcls : Bundle.fit E = true) (hnames : ∀ z ∈ names, Bundle.fit z = true)
    (f1 : Cond.classLink M.1 ik E ∈ BIG) (f2 : Cond.initialized E ∈ BIG) (hown : M.1 = RX7) (hs : (is, tx) ∈ strs) (hat : ∀ (p : Program) (ln : Launch) (s : State) (m : MethodId) (args : Array Value) (meth : Method) (c : Code), Cx g M p ln s m args meth c → ∀ w ∈ vx_atS M.1 ic E names, w.before args s = true)
    (hgood : ∀ w ∈ Cond.classLink M.1 ik E :: Cond.initialized E :: vx_atS M.1 ic E names, vx_ot w = true)
    (d0 : decode M.2.1 pc = .ok (.new ik, 3)) (d3 : decode M.2.1 (pc + 3) = .ok (.dup, 1)) (d4 : decode M.2.1 (pc + 4) = .ok (.ldc is, 2)) (d6 : decode M.2.1 (pc + 6) = .ok (.invokespecial ic, 3)) (d9 : decode M.2.1 (pc + 9) = .ok (.athrow, 1))
    (hi9 : M.2.2.2.2.2 = false) (htab : M.2.2.2.2.1 = []) (hRf : names.length + 3 < R.frames) (hRl : (st.map fun v => v.category).sum + (13 * (names.length + 1) + 43) ≤ R.locals) (hk : k + 1 ≤ R.cells) (hn : n + 6 ≤ R.slots) (hp : P (.inr E) w) : J g M R (MQx g R P) k n w pc l st := by
  intro p ln e s m args below meth c C9 H locs ls hw hS hl
  have hat9 := hat p ln s m args meth c C9
  obtain ⟨hx, hb, hml, hr, hown9, hts, hlk, hst, htb, hini, hamb⟩ := C9
  obtain ⟨a, ha⟩ := hamb.2.2.2.1 _ hs
  have htb := htb hi9
  rw [htab] at htb
  rw [← hown] at ha
  exact vx_throwS hx hb hst (names := names) hown9 hcls hnames (hts _ f1) (hts _ f2) ha hat9 hgood hamb.2.1 hamb.2.2.1 hS (hl.1.trans hml.symm) d0 d3 d4 d6 d9 (fun x hx => by rw [htb] at hx; cases hx) hRf hRl hk hn hlk
    (fun t hv hz hk => ⟨w, hp, ⟨hw.1.kept (fun i q hq => hk q.1 (hw.1 i q hq).lt), hw.2⟩, ⟨Nat.le_trans hS.1 hz, fun q h1 h2 => (hk q (Nat.lt_of_lt_of_le h1 hS.1)).trans (hS.2.1 q h1 h2)⟩⟩) hS.2.2 hk hn
theorem J.throwSW {E tx : String} {ik is ic : Nat} {names : List String} {st : List Value} (hcls : Bundle.fit E = true) (hnames : ∀ z ∈ names, Bundle.fit z = true)
    (f1 : Cond.classLink M.1 ik E ∈ BIG) (f2 : Cond.initialized E ∈ BIG) (hown : M.1 = RX7) (hs : (is, tx) ∈ strs) (hat : ∀ (p : Program) (ln : Launch) (s : State) (m : MethodId) (args : Array Value) (meth : Method) (c : Code), Cx g M p ln s m args meth c → ∀ w ∈ vx_atS M.1 ic E names, w.before args s = true)
    (hgood : ∀ w ∈ Cond.classLink M.1 ik E :: Cond.initialized E :: vx_atS M.1 ic E names, vx_ot w = true)
    (d0 : decode M.2.1 pc = .ok (.new ik, 3)) (d3 : decode M.2.1 (pc + 3) = .ok (.dup, 1)) (d4 : decode M.2.1 (pc + 4) = .ok (.ldc_w is, 3)) (d6 : decode M.2.1 (pc + 7) = .ok (.invokespecial ic, 3)) (d9 : decode M.2.1 (pc + 10) = .ok (.athrow, 1))
    (hi9 : M.2.2.2.2.2 = false) (htab : M.2.2.2.2.1 = []) (hRf : names.length + 3 < R.frames) (hRl : (st.map fun v => v.category).sum + (13 * (names.length + 1) + 43) ≤ R.locals) (hk : k + 1 ≤ R.cells) (hn : n + 6 ≤ R.slots) (hp : P (.inr E) w) : J g M R (MQx g R P) k n w pc l st := by
  intro p ln e s m args below meth c C9 H locs ls hw hS hl
  have hat9 := hat p ln s m args meth c C9
  obtain ⟨hx, hb, hml, hr, hown9, hts, hlk, hst, htb, hini, hamb⟩ := C9
  obtain ⟨a, ha⟩ := hamb.2.2.2.1 _ hs
  have htb := htb hi9
  rw [htab] at htb
  rw [← hown] at ha
  exact vx_throwSW hx hb hst (names := names) hown9 hcls hnames (hts _ f1) (hts _ f2) ha hat9 hgood hamb.2.1 hamb.2.2.1 hS (hl.1.trans hml.symm) d0 d3 d4 d6 d9 (fun x hx => by rw [htb] at hx; cases hx) hRf hRl hk hn hlk
    (fun t hv hz hk => ⟨w, hp, ⟨hw.1.kept (fun i q hq => hk q.1 (hw.1 i q hq).lt), hw.2⟩, ⟨Nat.le_trans hS.1 hz, fun q h1 h2 => (hk q (Nat.lt_of_lt_of_le h1 hS.1)).trans (hS.2.1 q h1 h2)⟩⟩) hS.2.2 hk hn
end RE
