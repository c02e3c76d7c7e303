/-! ===== printed: what the constructors lay is the memory's world ===== -/
def EE (e e' : va_E) : Prop := ∀ (D : va_G) (cl : List vw_C) (q : Nat) (H : Heap), va_at D cl (q, e) H → va_at D cl (q, e') H
theorem EE.of {e e' : va_E} (h : e = e') : EE e e' := by subst h; exact fun _ _ _ _ z => z
theorem EE.arr {cA : ClassId} {N : Nat} {f f' : Nat → Option Nat} (h : ∀ j, j < N → f j = f' j) : EE (.inl (cA, N, .inr (.inr (.inr (.inr f))))) (.inl (cA, N, .inr (.inr (.inr (.inr f'))))) := by
  intro D cl q H z
  have e : vp_cell cA (N, .inr (.inr (.inr (.inr f)))) = vp_cell cA (N, .inr (.inr (.inr (.inr f')))) := by
    show arrV cA N (fun j => va_rf (f j)) = arrV cA N (fun j => va_rf (f' j))
    unfold arrV
    congr 1
    refine congrArg Array.ofFn (funext fun j => ?_)
    show va_rf (f j) = va_rf (f' j)
    rw [h j j.2]
  show H[q]? = some (vp_cell cA (N, .inr (.inr (.inr (.inr f')))))
  rw [← e]; exact z
def cont (e : va_E) : Nat → Int32 := match e with
  | .inl (_, _, .inl m) => m
  | .inr (_, fs) => fun k => match fs.getD k .null with | .int x => x | _ => 0
  | _ => fun _ => 0
def adrW (W : va_W) (i : Nat) : Nat := match W[i]? with | some x => x.1 | none => 0
def memW (W : va_W) : Mem := fun o k => if o = 21 then nI k else match W[o]? with | some x => cont x.2 k | none => 0
theorem adr_of {W : va_W} {i x : Nat} {e : va_E} (h : W[i]? = some (x, e)) : adrW W i = x := by unfold adrW; rw [h]
theorem mem_of {W : va_W} {i x : Nat} {e : va_E} (h : W[i]? = some (x, e)) (hn : i ≠ 21) : memW W i = cont e := by
  funext k; unfold memW; rw [if_neg hn, h]
def CellOK (g : GP) (W : va_W) (i : Nat) : Prop := ∃ x e, W[i]? = some (x, e) ∧ EE e (kdc g (adrW W) i (memW W i) (kt i))
def AT (W : va_W) (o : Nat) (blk : va_W) : Prop := ∀ i, i < blk.length → W[o + i]? = blk[i]?
theorem AT.left {W a b : va_W} {o : Nat} (h : AT W o (a ++ b)) : AT W o a := fun i hi => by
  rw [h i (by rw [List.length_append]; omega), List.getElem?_append_left hi]
theorem AT.right {W a b : va_W} {o n : Nat} (h : AT W o (a ++ b)) (hn : a.length = n) : AT W (o + n) b := fun i hi => by
  rw [Nat.add_assoc, h (n + i) (by rw [List.length_append]; omega), List.getElem?_append_right (by omega), show n + i - a.length = i by omega]
theorem AT.tail {W b : va_W} {x : Nat × va_E} {o : Nat} (h : AT W o (x :: b)) : AT W (o + 1) b := fun i hi => by
  rw [Nat.add_assoc, h (1 + i) (by rw [List.length_cons]; omega), Nat.add_comm 1 i, List.getElem?_cons_succ]
/-- the start value -/
def σ0 : AS := (fun k => k, fun k => k / 8, (0, fun _ => 0), (0, 0), fun _ => false, fun _ _ => 0)
theorem pinv0 {k : Nat} (hk : k < 32) : pinv (fun k => k) k = k := Bij.id.inv2 hk
theorem vs0 : VS σ0 := ⟨Bij.id, fun k hk => by show k / 8 < 6; omega, Nat.zero_le _, fun p hp => absurd hp (Nat.not_lt_zero p), fun i _ h => by cases h⟩
theorem J.weq {g : GP} {M : MI} {R : Room} {Q : QT} {k n pc : Nat} {W : va_W} {l : List (Option Value)} {st : List Value} (h : ∀ i, i < 237 → CellOK g W i) (K : J g M R Q k n (WM (gx g []) (adrW W) (memW W)) pc l st) : J g M R Q k n W pc l st := by
  have key : ∀ (i : Nat) (q : Nat × va_E), (WM (gx g []) (adrW W) (memW W))[i]? = some q → i < 237 ∧ q = (adrW W i, kdc g (adrW W) i (memW W i) (kt i)) := fun i q hq => by
    have e9 : WM (gx g []) (adrW W) (memW W) = (List.range NC).map (fun i => (adrW W i, kdc g (adrW W) i (memW W i) (kt i))) := List.append_nil _
    rw [e9] at hq
    have hlt : i < 237 := by
      have := (List.getElem?_eq_some_iff.mp hq).1
      simpa [NC] using this
    refine ⟨hlt, ?_⟩
    have h2 : ((List.range NC).map (fun i => (adrW W i, kdc g (adrW W) i (memW W i) (kt i))))[i]? = some (adrW W i, kdc g (adrW W) i (memW W i) (kt i)) := rg_get (fun i => (adrW W i, kdc g (adrW W) i (memW W i) (kt i))) (show i < NC from hlt)
    exact (Option.some.inj (hq.symm.trans h2))
  intro p ln e s m args below meth c C9 H locs ls hw hS hl
  refine K p ln e s m args below meth c C9 H locs ls ⟨fun i q hq => ?_, fun i j p q hp hq he => ?_, fun i q hq => ?_⟩ hS hl
  · obtain ⟨hi, rfl⟩ := key i q hq
    obtain ⟨x, e, h1, h2⟩ := h i hi
    have h3 := hw.1 i (x, e) h1
    rw [adr_of h1]
    exact h2 _ _ _ _ h3
  · obtain ⟨hi, rfl⟩ := key i p hp
    obtain ⟨hj, rfl⟩ := key j q hq
    obtain ⟨x, e1, h1, _⟩ := h i hi
    obtain ⟨y, e2, h2, _⟩ := h j hj
    exact hw.2.1 i j (x, e1) (y, e2) h1 h2 (by have he' : adrW W i = adrW W j := he; rw [adr_of h1, adr_of h2] at he'; exact he')
  · obtain ⟨hi, rfl⟩ := key i q hq
    obtain ⟨x, e1, h1, _⟩ := h i hi
    have h3 := hw.2.2 i (x, e1) h1
    show gA g (adrW W i)
    rw [adr_of h1]; exact h3
