/-! ===== printed: constructors ===== -/
/-- a constructor over any world: its object lies last, its parts come behind -/
def CN (g : GP) (y : MethodName) (M : MI) (Ry : Room) (ci : Nat) (fs : List Value) (Pr : Nat → va_W → Prop) : Prop := ∀ (w0 : va_W) (b : Nat), CI g y M Ry (w0 ++ [(b, .inr (ci, fs))]) [.ref b] (fun o w' => o = .inl none ∧ ∃ blk, Pr b blk ∧ w' = w0 ++ blk)
section CN
variable {g : GP} {M : MI} {R : Room} {Q : QT} {k n pc : Nat} {w0 r A : va_W} {l : List (Option Value)} {st : List Value}
theorem J.ctor {y : MethodName} {My : MI} {Ry : Room} {ci idx q : Nat} {fs : List Value} {Pr : Nat → va_W → Prop} (hC : CN g y My Ry ci fs Pr) (hret : My.2.2.2.1 = none) (f1 : Cond.methodLink M.1 idx y ∈ BIG) (f2 : Cond.instanceMethod y ∈ BIG) (f4 : Cond.initialized y.cls ∈ BIG) (f5 : Cond.code y My.2.1 My.2.2.1 My.2.2.2.1 ∈ BIG) (hyn : y.name = "<init>")
    (hd : y.cls ≠ "java/lang/invoke/MethodHandle" ∧ y.cls ≠ "java/lang/invoke/VarHandle" ∧ (parseMethodDescriptor y.desc).map (fun d => d.parameters.length) = some 0) (hr : A ++ [(q, .inr (ci, fs))] = r) (hR : Ry.frames + 1 ≤ R.frames ∧ 8 + (My.2.2.1 + 11) + Ry.locals ≤ R.locals) (hW : Nat.ble ((st.map fun v => v.category).sum) 8 = true) (hdg : decode M.2.1 pc = .ok (.invokespecial idx, 3)) (hk : k + Ry.cells ≤ R.cells ∧ n + Ry.slots ≤ R.slots)
    (K : ∀ blk, Pr q blk → J g M R Q (k + Ry.cells) (n + Ry.slots) (w0 ++ (A ++ blk)) (pc + 3) l st) : J g M R Q k n (w0 ++ r) pc l (.ref q :: st) := by
  rw [← hr, ← List.append_assoc]
  refine J.callI (As := []) hret (hC (w0 ++ A) q) f1 f2 f4 f5 hyn hd rfl hR (Nat.le_of_ble_eq_true hW) hdg hk (fun v w' hp => ?_)
  obtain ⟨hv, blk, hb, rfl⟩ := hp
  cases hv
  rw [List.append_assoc]
  exact K blk hb
theorem J.ctorN {y : MethodName} {My : MI} {Ry : Room} {ci idx q : Nat} {host : String} {fs : List Value} {Pr : Nat → va_W → Prop} (hC : CN g y My Ry ci fs Pr) (hret : My.2.2.2.1 = none) (f1 : Cond.methodLinkNest M.1 idx y host ∈ NWL) (f2 : Cond.instanceMethod y ∈ BIG) (f4 : Cond.initialized y.cls ∈ BIG) (f5 : Cond.code y My.2.1 My.2.2.1 My.2.2.2.1 ∈ BIG) (hyn : y.name = "<init>")
    (hd : y.cls ≠ "java/lang/invoke/MethodHandle" ∧ y.cls ≠ "java/lang/invoke/VarHandle" ∧ (parseMethodDescriptor y.desc).map (fun d => d.parameters.length) = some 0) (hr : A ++ [(q, .inr (ci, fs))] = r) (hR : Ry.frames + 1 ≤ R.frames ∧ 8 + (My.2.2.1 + 11) + Ry.locals ≤ R.locals) (hW : Nat.ble ((st.map fun v => v.category).sum) 8 = true) (hdg : decode M.2.1 pc = .ok (.invokespecial idx, 3)) (hk : k + Ry.cells ≤ R.cells ∧ n + Ry.slots ≤ R.slots)
    (K : ∀ blk, Pr q blk → J g M R Q (k + Ry.cells) (n + Ry.slots) (w0 ++ (A ++ blk)) (pc + 3) l st) : J g M R Q k n (w0 ++ r) pc l (.ref q :: st) := by
  rw [← hr, ← List.append_assoc]
  refine J.callIN (As := []) hret (hC (w0 ++ A) q) f1 f2 f4 f5 hyn hd rfl hR (Nat.le_of_ble_eq_true hW) hdg hk (fun v w' hp => ?_)
  obtain ⟨hv, blk, hb, rfl⟩ := hp
  cases hv
  rw [List.append_assoc]
  exact K blk hb
end CN
/-- what every constructor begins with -/
theorem t_ob_i : Cond.instanceMethod Lib.objectInit ∈ BIG := big_t 38 (by decide +kernel) (by decide +kernel)
theorem t_ob_c : Cond.code Lib.objectInit ⟨#[0xb1]⟩ 1 none ∈ BIG := big_t 39 (by decide +kernel) (by decide +kernel)
theorem J.obj {g : GP} {M : MI} {R : Room} {Q : QT} {k n pc idx a : Nat} {w : va_W} {l : List (Option Value)} {st : List Value} (f1 : Cond.methodLink M.1 idx Lib.objectInit ∈ BIG) (hf : 1 ≤ R.frames) (hR : (st.map fun v => v.category).sum + 20 ≤ R.locals) (d : decode M.2.1 pc = .ok (.invokespecial idx, 3)) (K : J g M R Q k n w (pc + 3) l st) : J g M R Q k n w pc l (.ref a :: st) :=
  fun p ln e s m args below meth c C H locs ls hw hS hl => W.objInit C.1 C.2.1 C.2.2.2.2.1 (C.2.2.2.2.2.1 _ f1) (C.2.2.2.2.2.1 _ t_ob_i) (C.2.2.2.2.2.1 _ t_ob_c) (g := F0 m pc ls (.ref a :: st)) rfl (hl.1.trans C.2.2.1.symm) rfl d hf (by show 2 * 0 + _ + 12 ≤ _; omega) (K p ln e s m args below meth c C H locs ls hw hS hl)
theorem up_step {m F : Nat → Int32} {i : Nat} {v : Int32} (h : ∀ k, k < i → m k = F k) (hv : v = F i) : ∀ k, k < i + 1 → upd m i v k = F k := by
  intro k hk
  unfold upd
  by_cases e : k = i
  · rw [if_pos e, e, hv]
  · rw [if_neg e]; exact h k (by omega)
theorem five {P : Nat → Prop} (h0 : P 0) (h1 : P 1) (h2 : P 2) (h3 : P 3) (h4 : P 4) : ∀ j, j < 5 → P j
  | 0, _ => h0 | 1, _ => h1 | 2, _ => h2 | 3, _ => h3 | 4, _ => h4 | (j + 5), h => absurd h (by omega)
theorem eight {P : Nat → Prop} (h0 : P 0) (h1 : P 1) (h2 : P 2) (h3 : P 3) (h4 : P 4) (h5 : P 5) (h6 : P 6) (h7 : P 7) : ∀ j, j < 8 → P j
  | 0, _ => h0 | 1, _ => h1 | 2, _ => h2 | 3, _ => h3 | 4, _ => h4 | 5, _ => h5 | 6, _ => h6 | 7, _ => h7 | (j + 8), h => absurd h (by omega)
theorem to_82 : Cond.methodLink RX3 3 Lib.objectInit ∈ BIG := big_t 82 (by decide +kernel) (by decide +kernel)
theorem to_68 : Cond.methodLink RX1 3 Lib.objectInit ∈ BIG := big_t 68 (by decide +kernel) (by decide +kernel)
theorem to_138 : Cond.methodLink RX5 5 Lib.objectInit ∈ BIG := big_t 138 (by decide +kernel) (by decide +kernel)
theorem to_51 : Cond.methodLink RX0 3 Lib.objectInit ∈ BIG := big_t 51 (by decide +kernel) (by decide +kernel)
theorem to_45 : Cond.methodLink RX6 3 Lib.objectInit ∈ BIG := big_t 45 (by decide +kernel) (by decide +kernel)
theorem t_75 : Cond.arrayClass .boolean ∈ BIG := big_t 75 (by decide +kernel) (by decide +kernel)
theorem to_132 : Cond.methodLink RX4 3 Lib.objectInit ∈ BIG := big_t 132 (by decide +kernel) (by decide +kernel)
theorem to_116 : Cond.methodLink RX2 3 Lib.objectInit ∈ BIG := big_t 116 (by decide +kernel) (by decide +kernel)
theorem to_37 : Cond.methodLink RX7 1 Lib.objectInit ∈ BIG := big_t 37 (by decide +kernel) (by decide +kernel)
theorem nw_65 : Cond.methodLinkNest RX6 20 yX1_init RX7 ∈ NWL := nw_of 65 (by decide +kernel) rfl
theorem nw_135 : Cond.methodLinkNest RX4 11 yX5_init RX7 ∈ NWL := nw_of 135 (by decide +kernel) rfl
theorem nw_170 : Cond.methodLinkNest RX7 39 yX5_init RX7 ∈ NWL := nw_of 170 (by decide +kernel) rfl
theorem dfX0 : ∀ j, j < 3 → defaultValue (tyX0 j) = vp_V [.null, .null, .null] j
  | 0, _ => rfl
  | 1, _ => rfl
  | 2, _ => rfl
  | (j + 3), h => absurd h (by omega)
theorem dfX1 : ∀ j, j < 2 → defaultValue (tyX1 j) = vp_V [.null, .int 0] j
  | 0, _ => rfl
  | 1, _ => rfl
  | (j + 2), h => absurd h (by omega)
theorem dfX2 : ∀ j, j < 2 → defaultValue (tyX2 j) = vp_V [.null, .int 0] j
  | 0, _ => rfl
  | 1, _ => rfl
  | (j + 2), h => absurd h (by omega)
theorem dfX3 : ∀ j, j < 1 → defaultValue (tyX3 j) = vp_V [.null] j
  | 0, _ => rfl
  | (j + 1), h => absurd h (by omega)
theorem dfX4 : ∀ j, j < 6 → defaultValue (tyX4 j) = vp_V [.null, .int 0, .null, .null, .null, .null] j
  | 0, _ => rfl
  | 1, _ => rfl
  | 2, _ => rfl
  | 3, _ => rfl
  | 4, _ => rfl
  | 5, _ => rfl
  | (j + 6), h => absurd h (by omega)
theorem dfX5 : ∀ j, j < 2 → defaultValue (tyX5 j) = vp_V [.null, .int 0] j
  | 0, _ => rfl
  | 1, _ => rfl
  | (j + 2), h => absurd h (by omega)
theorem dfX6 : ∀ j, j < 6 → defaultValue (tyX6 j) = vp_V [.null, .null, .int 0, .int 0, .null, .null] j
  | 0, _ => rfl
  | 1, _ => rfl
  | 2, _ => rfl
  | 3, _ => rfl
  | 4, _ => rfl
  | 5, _ => rfl
  | (j + 6), h => absurd h (by omega)
theorem dfX7 : ∀ j, j < 11 → defaultValue (tyX7 j) = vp_V [.null, .null, .null, .int 0, .null, .null, .null, .null, .int 0, .int 0, .int 0] j
  | 0, _ => rfl
  | 1, _ => rfl
  | 2, _ => rfl
  | 3, _ => rfl
  | 4, _ => rfl
  | 5, _ => rfl
  | 6, _ => rfl
  | 7, _ => rfl
  | 8, _ => rfl
  | 9, _ => rfl
  | 10, _ => rfl
  | (j + 11), h => absurd h (by omega)
