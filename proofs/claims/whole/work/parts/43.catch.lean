/-! ===== handlers ===== -/
section CA
variable {g : GP} {M : MI} {R : Room} {Q : QT} {k n pc : Nat} {w : va_W} {l : List (Option Value)} {st : List Value}
theorem JX.catch {E : String} {pre suf : List (Nat × Nat × Nat × Nat)} {lo hi h ct : Nat} (hi0 : M.2.2.2.2.2 = false) (ht : M.2.2.2.2.1 = pre ++ (lo, hi, h, ct) :: suf)
    (hpass : ∀ z ∈ pre, z.2.2.2 ≠ 0 ∧ ∃ nm, Cond.classLink M.1 z.2.2.2 nm ∈ BIG ∧ nm ∈ exs ∧ E ≠ nm) (hE : E ∈ exs) (hcov : lo ≤ pc ∧ pc < hi) (h0 : ct ≠ 0) (hl : Cond.classLink M.1 ct E ∈ BIG) (hc : Cond.castable E E ∈ NWL)
    (K : ∀ q : Addr, J g M R Q k n w h l [.ref q]) : JX g M R Q k n w pc l st E := by
  intro p ln e s m args below meth c C H locs ls q ce hw hS hlv hce hcv hcl
  have htab := C.2.2.2.2.2.2.2.2.1 hi0
  rw [ht] at htab
  have hamb := C.2.2.2.2.2.2.2.2.2.2
  have htab2 : c.exceptionTable.toList = tableOf pre ++ ⟨lo, hi, h, ct⟩ :: tableOf suf := by rw [htab]; simp [tableOf]
  refine vx_catch C.2.2.2.2.1 (tableOf pre) ⟨lo, hi, h, ct⟩ (tableOf suf) htab2 (fun z hz => ?_) ?_ h0 (C.2.2.2.2.2.1 _ hl) ((hamb.2.2.2.2.2.1 _ hc).use rfl) hce hcv hcl ?_
  · obtain ⟨z0, hz0, rfl⟩ := List.mem_map.mp hz
    obtain ⟨a1, nm, a2, a3, a4⟩ := hpass z0 hz0
    exact Or.inr ⟨a1, nm, C.2.2.2.2.2.1 _ a2, hamb.2.2.2.2.2.2.1 E hE nm a3 a4⟩
  · show (decide (lo ≤ pc) && decide (pc < hi)) = true
    rw [decide_eq_true hcov.1, decide_eq_true hcov.2]; rfl
  · exact K q p ln e s m args below meth c C H locs ls hw hS hlv
end CA
theorem nw_345 : Cond.castable "java/lang/IndexOutOfBoundsException" "java/lang/IndexOutOfBoundsException" ∈ NWL := nw_of 346 (by decide +kernel) rfl
theorem nw_418 : Cond.castable "java/lang/IllegalArgumentException" "java/lang/IllegalArgumentException" ∈ NWL := nw_of 419 (by decide +kernel) rfl
theorem nw_491 : Cond.castable "java/lang/UnsupportedOperationException" "java/lang/UnsupportedOperationException" ∈ NWL := nw_of 493 (by decide +kernel) rfl
theorem nw_756 : Cond.castable "java/util/NoSuchElementException" "java/util/NoSuchElementException" ∈ NWL := nw_of 758 (by decide +kernel) rfl
theorem nw_892 : Cond.castable "java/lang/IllegalStateException" "java/lang/IllegalStateException" ∈ NWL := nw_of 894 (by decide +kernel) rfl
