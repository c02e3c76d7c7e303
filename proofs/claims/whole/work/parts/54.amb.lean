/-! ===== what lies about the system at the law's entry ===== -/
theorem tb_mem {i : Nat} {w : Cond} (h : tables_1[i]? = some w) : w ∈ lw_tbl := List.mem_append_right _ (List.mem_of_getElem? h)
theorem arr_of {args : Array Value} {s : State} {ty : FieldType} (h : (Cond.arrayClass ty).before args s = true) : ∃ c : ClassId, ArrOfT s c ty ∧ s.vm.findClass ("[" ++ ty.toString) = some c := by
  obtain ⟨c, k, comp, h1, h2, h3⟩ := Cond.arrayClass_spec h
  exact ⟨c, fun n z => ⟨fun k h => (by cases h), k, h2, comp, h3⟩, h1⟩
theorem arq_of {args : Array Value} {s : State} {C : String} (h : (Cond.arrayOver (.object C)).before args s = true) : ∃ c : ClassId, ArrOfT s c (.object C) ∧ va_RA s c (.object C) := by
  obtain ⟨comp, c, k, h1, _, h2, h3, h4⟩ := Cond.arrayOver_spec h
  exact ⟨c, fun n z => ⟨fun k h => (by cases h), k, h2, comp, h3⟩, k, comp, h2, h3, h1, h4⟩
theorem str_of {args : Array Value} {s : State} {k : Nat} {tx : String} {c : ClassId} (hc : s.vm.findClass RX7 = some c) (h : (Cond.stringRef RX7 k tx).before args s = true) : ∃ a, vk_R RX7 k tx a s := by
  have h0 : (Cond.stringRef RX7 k tx).before #[] s = true := h
  obtain ⟨_, _, _, a, _, _, _, _, _, h6⟩ := Cond.stringRef_spec hc h0
  exact ⟨a, vk_R.of h0 h6⟩
set_option maxRecDepth 100000 in
set_option maxHeartbeats 4000000 in
theorem amb_start {s : State} {A : Array Value} (hts : ∀ w ∈ lw_tbl, w.before A s = true) (hgv : (Jvm.Cond.and given_1 narrow_1).before A s = true) : ∃ g : GP, g.1 = s.heap.size ∧ Amb g s := by
  have hB : ∀ w ∈ BIG, w.before A s = true := fun w hw => hts w (List.mem_filter.mp hw).1
  have hG := flat_of_before _ hgv
  obtain ⟨c0, i0, k0⟩ := u_known hB inB0 (hts (Cond.instantiable RX0 3) (tb_mem (i := 35) (by decide +kernel)))
  obtain ⟨c1, i1, k1⟩ := u_known hB inB1 (hts (Cond.instantiable RX1 2) (tb_mem (i := 52) (by decide +kernel)))
  obtain ⟨c2, i2, k2⟩ := u_known hB inB2 (hts (Cond.instantiable RX2 2) (tb_mem (i := 100) (by decide +kernel)))
  obtain ⟨c3, i3, k3⟩ := u_known hB inB3 (hts (Cond.instantiable RX3 1) (tb_mem (i := 66) (by decide +kernel)))
  obtain ⟨c4, i4, k4⟩ := u_known hB inB4 (hts (Cond.instantiable RX4 6) (tb_mem (i := 116) (by decide +kernel)))
  obtain ⟨c5, i5, k5⟩ := u_known hB inB5 (hts (Cond.instantiable RX5 2) (tb_mem (i := 122) (by decide +kernel)))
  obtain ⟨c6, i6, k6⟩ := u_known hB inB6 (hts (Cond.instantiable RX6 6) (tb_mem (i := 29) (by decide +kernel)))
  obtain ⟨c7, i7, k7⟩ := u_known hB inB7 (hts (Cond.instantiable RX7 11) (tb_mem (i := 21) (by decide +kernel)))
  obtain ⟨c8, i8, k8⟩ := u_known hB inB8 (hts (Cond.instantiable RX8 20) (tb_mem (i := 973) (by decide +kernel)))
  obtain ⟨f7, _, hf7, _⟩ := Cond.instantiable_spec (hts (Cond.instantiable RX7 11) (tb_mem (i := 21) (by decide +kernel)))
  obtain ⟨a0, r0, n0⟩ := arr_of (hts (Cond.arrayClass .int) (tb_mem (i := 50) (by decide +kernel)))
  obtain ⟨a1, r1, n1⟩ := arr_of (hts (Cond.arrayClass .boolean) (tb_mem (i := 75) (by decide +kernel)))
  obtain ⟨a2, r2, n2⟩ := arr_of (hts (Cond.arrayClass .char) (tb_mem (i := 134) (by decide +kernel)))
  obtain ⟨a3, r3, n3⟩ := arr_of (hts (Cond.arrayClass .long) (tb_mem (i := 1359) (by decide +kernel)))
  have o4 := hts (Cond.arrayOver (.object "TwistyBarrels$Permutation")) (tb_mem (i := 65) (by decide +kernel))
  have o5 := hts (Cond.arrayOver (.object "TwistyBarrels$State")) (tb_mem (i := 106) (by decide +kernel))
  obtain ⟨a4, r4, n4⟩ := arq_of o4
  obtain ⟨a5, r5, n5⟩ := arq_of o5
  have hthr := hts (Cond.initialized "java/lang/Throwable") (tb_mem (i := 10) (by decide +kernel))
  refine ⟨(s.heap.size, (fun c => [c0, c1, c2, c3, c4, c5, c6, c7, c8].getD c 0, fun c => [i0, i1, i2, i3, i4, i5, i6, i7, i8].getD c (fun _ => 0)), fun t => [a0, a1, a2, a3, a4, a5].getD t 0), rfl, ⟨fun c q hc => ?_, fun c q hc => ?_⟩, ?_, ?_, ?_, Nat.le_refl _, fun z hz => va_Nw.of (nw_ot (List.mem_filter.mp hz).2) (hts z (List.mem_filter.mp hz).1), ?_, ?_⟩
  · match c, hc with
    | 0, hc => cases hc; exact k0
    | 1, hc => cases hc; exact k1
    | 2, hc => cases hc; exact k2
    | 3, hc => cases hc; exact k3
    | 4, hc => cases hc; exact k4
    | 5, hc => cases hc; exact k5
    | 6, hc => cases hc; exact k6
    | 7, hc => cases hc; exact k7
    | 8, hc => cases hc; exact k8
    | (c + 9), hc => cases hc
  · match c, hc with
    | 0, hc => cases hc; exact ⟨r0, n0⟩
    | 1, hc => cases hc; exact ⟨r1, n1⟩
    | 2, hc => cases hc; exact ⟨r2, n2⟩
    | 3, hc => cases hc; exact ⟨r3, n3⟩
    | 4, hc => cases hc; exact ⟨r4, n4⟩
    | 5, hc => cases hc; exact ⟨r5, n5⟩
    | (c + 6), hc => cases hc
  · exact vx_Zqof (hts _ (tb_mem (i := 371) (by decide +kernel))) hthr (hG _ (by decide +kernel)) (fun a h1 h2 => absurd h2 (Nat.not_le.mpr h1))
  · exact vx_Zqof (hts _ (tb_mem (i := 373) (by decide +kernel))) hthr (hG _ (by decide +kernel)) (fun a h1 h2 => absurd h2 (Nat.not_le.mpr h1))
  · exact List.forall_mem_cons.mpr ⟨str_of hf7 (hts _ (tb_mem (i := 967) (by decide +kernel))), List.forall_mem_cons.mpr ⟨str_of hf7 (hts _ (tb_mem (i := 947) (by decide +kernel))), List.forall_mem_cons.mpr ⟨str_of hf7 (hts _ (tb_mem (i := 922) (by decide +kernel))), List.forall_mem_cons.mpr ⟨str_of hf7 (hts _ (tb_mem (i := 930) (by decide +kernel))),
      List.forall_mem_cons.mpr ⟨str_of hf7 (hts _ (tb_mem (i := 387) (by decide +kernel))), List.forall_mem_cons.mpr ⟨str_of hf7 (hts _ (tb_mem (i := 955) (by decide +kernel))), List.forall_mem_cons.mpr ⟨str_of hf7 (hts _ (tb_mem (i := 426) (by decide +kernel))), List.forall_mem_cons.mpr ⟨str_of hf7 (hts _ (tb_mem (i := 500) (by decide +kernel))),
      List.forall_mem_cons.mpr ⟨str_of hf7 (hts _ (tb_mem (i := 765) (by decide +kernel))), List.forall_mem_cons.mpr ⟨str_of hf7 (hts _ (tb_mem (i := 901) (by decide +kernel))), List.forall_mem_cons.mpr ⟨str_of hf7 (hts _ (tb_mem (i := 597) (by decide +kernel))), List.forall_mem_cons.mpr ⟨str_of hf7 (hts _ (tb_mem (i := 671) (by decide +kernel))), fun q h => absurd h List.not_mem_nil⟩⟩⟩⟩⟩⟩⟩⟩⟩⟩⟩⟩
  · intro x hx y hy hn
    simp only [exs, List.mem_cons, List.not_mem_nil, or_false] at hx hy
    rcases hx with rfl | rfl | rfl | rfl | rfl <;> rcases hy with rfl | rfl | rfl | rfl | rfl <;> first | exact absurd rfl hn | exact va_Nc.of (hG _ (by decide +kernel))
  · exact List.forall_mem_cons.mpr ⟨va_AO.of o4, List.forall_mem_cons.mpr ⟨va_AO.of o5, fun q h => absurd h List.not_mem_nil⟩⟩
