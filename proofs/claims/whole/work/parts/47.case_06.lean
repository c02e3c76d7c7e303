/-! ===== printed: the law, call by call ===== -/
section LL
variable {tb : List (Nat × Nat × Nat × Nat)} {g : GP} {adr : Nat → Nat} {b L i k n : Nat} {xs : Nat → Int32} {Q : QT} {μ : Mem} {α : A7}
set_option maxRecDepth 100000 in
set_option maxHeartbeats 4000000 in
theorem law_35 (hb : b < g.1) (hL : L ≤ 2048) (hi : i + 4 ≤ L) (hC : CR μ α) (hM : MR μ α) (hk : k + 1 ≤ 601024) (hn : n + 6 ≤ 7293034) (K : LK tb g adr b L xs Q i (k + 1) (n + 6)) : J g (mL_law tb) room_1 (QX b L xs Q) k n (WM g adr μ) 2247 [some (.ref b), some (.ref (adr 0)), some (.ref (adr 237)), some (.ref (adr 247)), some (.int (nI i)), none, none, none, none] [] := by
  refine J.al1 dL_law_2247 ?_
  refine cl_L_255 rfl (by decide) (k' := k + 1) (n' := n + 6) (c_seamShare μ hC) ⟨⟨by decide, by decide⟩, ⟨rfl, rfl⟩, hk, hn⟩ rfl dL_law_2248 (fun μ1 h1 => ?_)
  have hM1 : MR μ1 α := hM.fc (fun o ho _ => h1.2 o ho)
  have hle := sumU_le (n := 32) (c := 2) (f := seam1 (fun s => aCol (qS α) (aAt (qS α) s))) (fun k _ => seam1_le _ _)
  generalize hz : sumU (seam1 (fun s => aCol (qS α) (aAt (qS α) s))) 32 = z at hle
  refine J.f2d dL_law_2251 (f_n64 z (by omega)) ?_
  refine J.dstore dL_law_2252 (Nat.le_of_ble_eq_true rfl) (Or.inr rfl) rfl ?_
  refine J.al2 dL_law_2254 ?_
  have hm9 := c_m_seamShare (g := g) (adr := adr) μ1 hM1
  rw [hz] at hm9
  refine cl_L_259 rfl (by decide) (k' := k + 1) (n' := n + 6) hm9 ⟨⟨by decide, by decide⟩, ⟨rfl, rfl⟩, hk, hn⟩ rfl dL_law_2255 (fun μ2 h2 => ?_)
  obtain ⟨hM2, ht, hf⟩ := h2
  refine J.f2d dL_law_2258 (f_n64 z (by omega)) ?_
  refine J.dstore dL_law_2259 (Nat.le_of_ble_eq_true rfl) (Or.inr rfl) rfl ?_
  refine J.dload dL_law_2261 rfl ?_
  refine J.dload dL_law_2263 rfl ?_
  refine J.dcmpE (f_eq z (by omega)) dL_law_2265 ?_
  refine J.if_eq (tgt := 2287) dL_law_2266 (by decide) (fun _ => ?_) (fun q => absurd rfl q)
  refine J.goto (tgt := 2391) dL_law_2287 (by decide) ?_
  exact J.subR (K μ2 α (h1.1.fm hf) hM2) ⟨rfl, ⟨rfl, ⟨rfl, ⟨rfl, ⟨rfl, trivial⟩⟩⟩⟩⟩

set_option maxRecDepth 100000 in
set_option maxHeartbeats 4000000 in
theorem law_36 (hb : b < g.1) (hL : L ≤ 2048) (hi : i + 4 ≤ L) (hC : CR μ α) (hM : MR μ α) (hk : k + 1 ≤ 601024) (hn : n + 6 ≤ 7293034) (K : LK tb g adr b L xs Q i (k + 1) (n + 6)) : J g (mL_law tb) room_1 (QX b L xs Q) k n (WM g adr μ) 2290 [some (.ref b), some (.ref (adr 0)), some (.ref (adr 237)), some (.ref (adr 247)), some (.int (nI i)), none, none, none, none] [] := by
  obtain ⟨c, v, v2, α1, ψ, hc10, hv, hz, hψ, hw, hm⟩ := k_undo (g := g) (adr := adr)  hC hM
  refine J.al1 dL_law_2290 ?_
  refine J.al3 dL_law_2291 ?_
  refine cl_L_260 rfl (k' := k + 1) (n' := n + 6) hw ⟨⟨by decide, by decide⟩, ⟨rfl, rfl⟩, hk, hn⟩ rfl dL_law_2292 (fun μ1 h1 => ?_)
  obtain ⟨hC1, hM1, hout⟩ := hψ μ1 h1
  refine J.is5 dL_law_2295 (Nat.le_of_ble_eq_true rfl) rfl ?_
  refine J.al2 dL_law_2297 ?_
  refine cl_L_262 rfl (by decide) (k' := k + 1) (n' := n + 6) (hm μ1 hM1) ⟨⟨by decide, by decide⟩, ⟨rfl, rfl⟩, hk, hn⟩ rfl dL_law_2298 (fun μ2 h2 => ?_)
  obtain ⟨hM2, ht, hf⟩ := h2
  refine J.is6 dL_law_2301 (Nat.le_of_ble_eq_true rfl) rfl ?_
  refine J.al2 dL_law_2303 ?_
  refine cl_L_138 rfl (by decide) (k' := k + 1) (n' := n + 6) (c_m_thrown _ ht) ⟨⟨by decide, by decide⟩, ⟨rfl, rfl⟩, hk, hn⟩ rfl dL_law_2304 (fun μ3 h3 => ?_)
  rw [h3]; clear h3
  refine J.il5 dL_law_2307 ?_
  refine J.icmp_eqN (tgt := 2314) dL_law_2309 (by decide) (by omega) (by omega) (fun _ => ?_) (fun q => absurd rfl q)
  refine J.il5 dL_law_2314 ?_
  have fin : J g (mL_law tb) room_1 (QX b L xs Q) (k + 1) (n + 6) (WM g adr μ2) 2331 [some (.ref b), some (.ref (adr 0)), some (.ref (adr 237)), some (.ref (adr 247)), some (.int (nI i)), some (.int (nI c)), some (.int v2), none, none] [] := by
    refine J.goto (tgt := 2391) dL_law_2331 (by decide) ?_
    exact J.subR (K μ2 α1 (hC1.fm hf) hM2) ⟨rfl, ⟨rfl, ⟨rfl, ⟨rfl, ⟨rfl, trivial⟩⟩⟩⟩⟩
  refine J.if_neN (tgt := 2331) dL_law_2316 (by decide) (by omega) (fun _ => fin) (fun hc0 => ?_)
  have hvv := hv hc0
  subst hvv
  refine J.al3 dL_law_2319 ?_
  refine J.iconst dL_law_2320 kI_0 ?_
  refine J.lald (x := v2) (by decide) (by decide) ((congrFun (hf 247 (Or.inr rfl)) 0).trans (hout hc0)) dL_law_2321 ?_
  refine J.il6 dL_law_2322 ?_
  refine J.i2l dL_law_2324 ?_
  refine J.lcmpE dL_law_2325 ?_
  exact J.if_eq (tgt := 2331) dL_law_2326 (by decide) (fun _ => fin) (fun q => absurd rfl q)

set_option maxRecDepth 100000 in
set_option maxHeartbeats 4000000 in
theorem law_37 (hb : b < g.1) (hL : L ≤ 2048) (hi : i + 4 ≤ L) (hC : CR μ α) (hM : MR μ α) (hk : k + 1 ≤ 601024) (hn : n + 6 ≤ 7293034) (K : LK tb g adr b L xs Q i (k + 1) (n + 6)) : J g (mL_law tb) room_1 (QX b L xs Q) k n (WM g adr μ) 2334 [some (.ref b), some (.ref (adr 0)), some (.ref (adr 237)), some (.ref (adr 247)), some (.int (nI i)), none, none, none, none] [] := by
  refine J.al1 dL_law_2334 ?_
  refine cl_L_263 rfl (by decide) (k' := k + 1) (n' := n + 6) (c_save μ hC) ⟨⟨by decide, by decide⟩, ⟨rfl, rfl⟩, hk, hn⟩ rfl dL_law_2335 (fun μ1 h1 => ?_)
  have hM1 : MR μ1 α := hM.fc (fun o ho _ => h1.2 o ho)
  refine J.al2 dL_law_2338 ?_
  refine cl_L_266 rfl (by decide) (k' := k + 1) (n' := n + 6) (c_m_save μ1 hM1) ⟨⟨by decide, by decide⟩, ⟨rfl, rfl⟩, hk, hn⟩ rfl dL_law_2339 (fun μ2 h2 => ?_)
  obtain ⟨hM2, ht, hf⟩ := h2
  exact J.icmp_eq (tgt := 2391) dL_law_2342 (by decide) (fun _ => K μ2 _ (h1.1.fm hf) hM2) (fun q => absurd rfl q)

set_option maxRecDepth 100000 in
set_option maxHeartbeats 4000000 in
theorem law_38 (hb : b < g.1) (hL : L ≤ 2048) (hi : i + 4 ≤ L) (hC : CR μ α) (hM : MR μ α) (hk : k + 1 ≤ 601024) (hn : n + 6 ≤ 7293034) (K : LK tb g adr b L xs Q i (k + 1) (n + 6)) : J g (mL_law tb) room_1 (QX b L xs Q) k n (WM g adr μ) 2347 [some (.ref b), some (.ref (adr 0)), some (.ref (adr 237)), some (.ref (adr 247)), some (.int (nI i)), none, none, none, none] [] := by
  obtain ⟨c, v, v2, α1, ψ, hc10, hv, hz, hψ, hw, hm⟩ := k_restore (g := g) (adr := adr)  hC hM
  refine J.al1 dL_law_2347 ?_
  refine J.al3 dL_law_2348 ?_
  refine cl_L_267 rfl (k' := k + 1) (n' := n + 6) hw ⟨⟨by decide, by decide⟩, ⟨rfl, rfl⟩, hk, hn⟩ rfl dL_law_2349 (fun μ1 h1 => ?_)
  obtain ⟨hC1, hM1, hout⟩ := hψ μ1 h1
  refine J.is5 dL_law_2352 (Nat.le_of_ble_eq_true rfl) rfl ?_
  refine J.al2 dL_law_2354 ?_
  refine cl_L_269 rfl (by decide) (k' := k + 1) (n' := n + 6) (hm μ1 hM1) ⟨⟨by decide, by decide⟩, ⟨rfl, rfl⟩, hk, hn⟩ rfl dL_law_2355 (fun μ2 h2 => ?_)
  obtain ⟨hM2, ht, hf⟩ := h2
  refine J.is6 dL_law_2358 (Nat.le_of_ble_eq_true rfl) rfl ?_
  refine J.al2 dL_law_2360 ?_
  refine cl_L_138 rfl (by decide) (k' := k + 1) (n' := n + 6) (c_m_thrown _ ht) ⟨⟨by decide, by decide⟩, ⟨rfl, rfl⟩, hk, hn⟩ rfl dL_law_2361 (fun μ3 h3 => ?_)
  rw [h3]; clear h3
  refine J.il5 dL_law_2364 ?_
  refine J.icmp_eqN (tgt := 2371) dL_law_2366 (by decide) (by omega) (by omega) (fun _ => ?_) (fun q => absurd rfl q)
  refine J.il5 dL_law_2371 ?_
  have fin : J g (mL_law tb) room_1 (QX b L xs Q) (k + 1) (n + 6) (WM g adr μ2) 2388 [some (.ref b), some (.ref (adr 0)), some (.ref (adr 237)), some (.ref (adr 247)), some (.int (nI i)), some (.int (nI c)), some (.int v2), none, none] [] := by
    refine J.goto (tgt := 2391) dL_law_2388 (by decide) ?_
    exact J.subR (K μ2 α1 (hC1.fm hf) hM2) ⟨rfl, ⟨rfl, ⟨rfl, ⟨rfl, ⟨rfl, trivial⟩⟩⟩⟩⟩
  refine J.if_neN (tgt := 2388) dL_law_2373 (by decide) (by omega) (fun _ => fin) (fun hc0 => ?_)
  have hvv := hv hc0
  subst hvv
  refine J.al3 dL_law_2376 ?_
  refine J.iconst dL_law_2377 kI_0 ?_
  refine J.lald (x := v2) (by decide) (by decide) ((congrFun (hf 247 (Or.inr rfl)) 0).trans (hout hc0)) dL_law_2378 ?_
  refine J.il6 dL_law_2379 ?_
  refine J.i2l dL_law_2381 ?_
  refine J.lcmpE dL_law_2382 ?_
  exact J.if_eq (tgt := 2388) dL_law_2383 (by decide) (fun _ => fin) (fun q => absurd rfl q)
end LL
