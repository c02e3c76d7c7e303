/-! ===== printed: the law, call by call ===== -/
section LL
variable {tb : List (Nat × Nat × Nat × Nat)} {g : GP} {adr : Nat → Nat} {b L i k n : Nat} {xs : Nat → Int32} {Q : QT} {μ : Mem} {α : A7}
set_option maxRecDepth 100000 in
set_option maxHeartbeats 4000000 in
theorem law_28 (hb : b < g.1) (hL : L ≤ 2048) (hi : i + 4 ≤ L) (hC : CR μ α) (hM : MR μ α) (hk : k + 1 ≤ 601024) (hn : n + 6 ≤ 7293034) (K : LK tb g adr b L xs Q i (k + 1) (n + 6)) : J g (mL_law tb) room_1 (QX b L xs Q) k n (WM g adr μ) 1919 [some (.ref b), some (.ref (adr 0)), some (.ref (adr 237)), some (.ref (adr 247)), some (.int (nI i)), none, none, none, none] [] := by
  obtain ⟨cc, hcb, hcc⟩ := i2c_n (xs (i + 1))
  obtain ⟨c, v, v2, α1, ψ, hc10, hv, hz, hψ, hw, hm⟩ := k_append (g := g) (adr := adr) hcb hC hM
  refine J.al1 dL_law_1919 ?_
  refine J.al0 dL_law_1920 ?_
  refine J.il4 dL_law_1921 ?_
  refine J.iconst dL_law_1923 kI_1 ?_
  refine J.iaddN dL_law_1924 ?_
  refine J.sld hb (by omega) (by omega) dL_law_1925 ?_
  refine J.i2c dL_law_1926 hcc ?_
  refine J.al3 dL_law_1927 ?_
  refine cl_L_228 rfl (k' := k + 1) (n' := n + 6) hw ⟨⟨by decide, by decide⟩, ⟨rfl, rfl⟩, hk, hn⟩ rfl dL_law_1928 (fun μ1 h1 => ?_)
  obtain ⟨hC1, hM1, hout⟩ := hψ μ1 h1
  refine J.is5 dL_law_1931 (Nat.le_of_ble_eq_true rfl) rfl ?_
  refine J.al2 dL_law_1933 ?_
  refine J.al0 dL_law_1934 ?_
  refine J.il4 dL_law_1935 ?_
  refine J.iconst dL_law_1937 kI_1 ?_
  refine J.iaddN dL_law_1938 ?_
  refine J.sld hb (by omega) (by omega) dL_law_1939 ?_
  refine J.i2c dL_law_1940 hcc ?_
  refine cl_L_231 rfl (by decide) (k' := k + 1) (n' := n + 6) (hm μ1 hM1) ⟨⟨by decide, by decide⟩, ⟨rfl, rfl⟩, hk, hn⟩ rfl dL_law_1941 (fun μ2 h2 => ?_)
  obtain ⟨hM2, ht, hf⟩ := h2
  refine J.is6 dL_law_1944 (Nat.le_of_ble_eq_true rfl) rfl ?_
  refine J.al2 dL_law_1946 ?_
  refine cl_L_138 rfl (by decide) (k' := k + 1) (n' := n + 6) (c_m_thrown _ ht) ⟨⟨by decide, by decide⟩, ⟨rfl, rfl⟩, hk, hn⟩ rfl dL_law_1947 (fun μ3 h3 => ?_)
  rw [h3]; clear h3
  refine J.il5 dL_law_1950 ?_
  refine J.icmp_eqN (tgt := 1957) dL_law_1952 (by decide) (by omega) (by omega) (fun _ => ?_) (fun q => absurd rfl q)
  refine J.il5 dL_law_1957 ?_
  have fin : J g (mL_law tb) room_1 (QX b L xs Q) (k + 1) (n + 6) (WM g adr μ2) 1974 [some (.ref b), some (.ref (adr 0)), some (.ref (adr 237)), some (.ref (adr 247)), some (.int (nI i)), some (.int (nI c)), some (.int v2), none, none] [] := by
    refine J.goto (tgt := 2391) dL_law_1974 (by decide) ?_
    exact J.subR (K μ2 α1 (hC1.fm hf) hM2) ⟨rfl, ⟨rfl, ⟨rfl, ⟨rfl, ⟨rfl, trivial⟩⟩⟩⟩⟩
  refine J.if_neN (tgt := 1974) dL_law_1959 (by decide) (by omega) (fun _ => fin) (fun hc0 => ?_)
  have hvv := hv hc0
  subst hvv
  refine J.al3 dL_law_1962 ?_
  refine J.iconst dL_law_1963 kI_0 ?_
  refine J.lald (x := v2) (by decide) (by decide) ((congrFun (hf 247 (Or.inr rfl)) 0).trans (hout hc0)) dL_law_1964 ?_
  refine J.il6 dL_law_1965 ?_
  refine J.i2l dL_law_1967 ?_
  refine J.lcmpE dL_law_1968 ?_
  exact J.if_eq (tgt := 1974) dL_law_1969 (by decide) (fun _ => fin) (fun q => absurd rfl q)

set_option maxRecDepth 100000 in
set_option maxHeartbeats 4000000 in
theorem law_29 (hb : b < g.1) (hL : L ≤ 2048) (hi : i + 4 ≤ L) (hC : CR μ α) (hM : MR μ α) (hk : k + 1 ≤ 601024) (hn : n + 6 ≤ 7293034) (K : LK tb g adr b L xs Q i (k + 1) (n + 6)) : J g (mL_law tb) room_1 (QX b L xs Q) k n (WM g adr μ) 1977 [some (.ref b), some (.ref (adr 0)), some (.ref (adr 237)), some (.ref (adr 247)), some (.int (nI i)), none, none, none, none] [] := by
  obtain ⟨c, v, v2, α1, ψ, hc10, hv, hz, hψ, hw, hm⟩ := k_read (g := g) (adr := adr)  hC hM
  refine J.al1 dL_law_1977 ?_
  refine J.al3 dL_law_1978 ?_
  refine cl_L_232 rfl (k' := k + 1) (n' := n + 6) hw ⟨⟨by decide, by decide⟩, ⟨rfl, rfl⟩, hk, hn⟩ rfl dL_law_1979 (fun μ1 h1 => ?_)
  obtain ⟨hC1, hM1, hout⟩ := hψ μ1 h1
  refine J.is5 dL_law_1982 (Nat.le_of_ble_eq_true rfl) rfl ?_
  refine J.al2 dL_law_1984 ?_
  refine cl_L_234 rfl (by decide) (k' := k + 1) (n' := n + 6) (hm μ1 hM1) ⟨⟨by decide, by decide⟩, ⟨rfl, rfl⟩, hk, hn⟩ rfl dL_law_1985 (fun μ2 h2 => ?_)
  obtain ⟨hM2, ht, hf⟩ := h2
  refine J.is6 dL_law_1988 (Nat.le_of_ble_eq_true rfl) rfl ?_
  refine J.al2 dL_law_1990 ?_
  refine cl_L_138 rfl (by decide) (k' := k + 1) (n' := n + 6) (c_m_thrown _ ht) ⟨⟨by decide, by decide⟩, ⟨rfl, rfl⟩, hk, hn⟩ rfl dL_law_1991 (fun μ3 h3 => ?_)
  rw [h3]; clear h3
  refine J.il5 dL_law_1994 ?_
  refine J.icmp_eqN (tgt := 2001) dL_law_1996 (by decide) (by omega) (by omega) (fun _ => ?_) (fun q => absurd rfl q)
  refine J.il5 dL_law_2001 ?_
  have fin : J g (mL_law tb) room_1 (QX b L xs Q) (k + 1) (n + 6) (WM g adr μ2) 2018 [some (.ref b), some (.ref (adr 0)), some (.ref (adr 237)), some (.ref (adr 247)), some (.int (nI i)), some (.int (nI c)), some (.int v2), none, none] [] := by
    refine J.goto (tgt := 2391) dL_law_2018 (by decide) ?_
    exact J.subR (K μ2 α1 (hC1.fm hf) hM2) ⟨rfl, ⟨rfl, ⟨rfl, ⟨rfl, ⟨rfl, trivial⟩⟩⟩⟩⟩
  refine J.if_neN (tgt := 2018) dL_law_2003 (by decide) (by omega) (fun _ => fin) (fun hc0 => ?_)
  have hvv := hv hc0
  subst hvv
  refine J.al3 dL_law_2006 ?_
  refine J.iconst dL_law_2007 kI_0 ?_
  refine J.lald (x := v2) (by decide) (by decide) ((congrFun (hf 247 (Or.inr rfl)) 0).trans (hout hc0)) dL_law_2008 ?_
  refine J.il6 dL_law_2009 ?_
  refine J.i2l dL_law_2011 ?_
  refine J.lcmpE dL_law_2012 ?_
  exact J.if_eq (tgt := 2018) dL_law_2013 (by decide) (fun _ => fin) (fun q => absurd rfl q)

set_option maxRecDepth 100000 in
set_option maxHeartbeats 4000000 in
theorem law_30 (hb : b < g.1) (hL : L ≤ 2048) (hi : i + 4 ≤ L) (hC : CR μ α) (hM : MR μ α) (hk : k + 1 ≤ 601024) (hn : n + 6 ≤ 7293034) (K : LK tb g adr b L xs Q i (k + 1) (n + 6)) : J g (mL_law tb) room_1 (QX b L xs Q) k n (WM g adr μ) 2021 [some (.ref b), some (.ref (adr 0)), some (.ref (adr 237)), some (.ref (adr 247)), some (.int (nI i)), none, none, none, none] [] := by
  obtain ⟨c, v, v2, α1, ψ, hc10, hv, hz, hψ, hw, hm⟩ := k_errorPosition (g := g) (adr := adr)  hC hM
  refine J.al1 dL_law_2021 ?_
  refine J.al3 dL_law_2022 ?_
  refine cl_L_235 rfl (k' := k + 1) (n' := n + 6) hw ⟨⟨by decide, by decide⟩, ⟨rfl, rfl⟩, hk, hn⟩ rfl dL_law_2023 (fun μ1 h1 => ?_)
  obtain ⟨hC1, hM1, hout⟩ := hψ μ1 h1
  refine J.is5 dL_law_2026 (Nat.le_of_ble_eq_true rfl) rfl ?_
  refine J.al2 dL_law_2028 ?_
  refine cl_L_237 rfl (by decide) (k' := k + 1) (n' := n + 6) (hm μ1 hM1) ⟨⟨by decide, by decide⟩, ⟨rfl, rfl⟩, hk, hn⟩ rfl dL_law_2029 (fun μ2 h2 => ?_)
  obtain ⟨hM2, ht, hf⟩ := h2
  refine J.is6 dL_law_2032 (Nat.le_of_ble_eq_true rfl) rfl ?_
  refine J.al2 dL_law_2034 ?_
  refine cl_L_138 rfl (by decide) (k' := k + 1) (n' := n + 6) (c_m_thrown _ ht) ⟨⟨by decide, by decide⟩, ⟨rfl, rfl⟩, hk, hn⟩ rfl dL_law_2035 (fun μ3 h3 => ?_)
  rw [h3]; clear h3
  refine J.il5 dL_law_2038 ?_
  refine J.icmp_eqN (tgt := 2045) dL_law_2040 (by decide) (by omega) (by omega) (fun _ => ?_) (fun q => absurd rfl q)
  refine J.il5 dL_law_2045 ?_
  have fin : J g (mL_law tb) room_1 (QX b L xs Q) (k + 1) (n + 6) (WM g adr μ2) 2062 [some (.ref b), some (.ref (adr 0)), some (.ref (adr 237)), some (.ref (adr 247)), some (.int (nI i)), some (.int (nI c)), some (.int v2), none, none] [] := by
    refine J.goto (tgt := 2391) dL_law_2062 (by decide) ?_
    exact J.subR (K μ2 α1 (hC1.fm hf) hM2) ⟨rfl, ⟨rfl, ⟨rfl, ⟨rfl, ⟨rfl, trivial⟩⟩⟩⟩⟩
  refine J.if_neN (tgt := 2062) dL_law_2047 (by decide) (by omega) (fun _ => fin) (fun hc0 => ?_)
  have hvv := hv hc0
  subst hvv
  refine J.al3 dL_law_2050 ?_
  refine J.iconst dL_law_2051 kI_0 ?_
  refine J.lald (x := v2) (by decide) (by decide) ((congrFun (hf 247 (Or.inr rfl)) 0).trans (hout hc0)) dL_law_2052 ?_
  refine J.il6 dL_law_2053 ?_
  refine J.i2l dL_law_2055 ?_
  refine J.lcmpE dL_law_2056 ?_
  exact J.if_eq (tgt := 2062) dL_law_2057 (by decide) (fun _ => fin) (fun q => absurd rfl q)

set_option maxRecDepth 100000 in
set_option maxHeartbeats 4000000 in
theorem law_31 (hb : b < g.1) (hL : L ≤ 2048) (hi : i + 4 ≤ L) (hC : CR μ α) (hM : MR μ α) (hk : k + 1 ≤ 601024) (hn : n + 6 ≤ 7293034) (K : LK tb g adr b L xs Q i (k + 1) (n + 6)) : J g (mL_law tb) room_1 (QX b L xs Q) k n (WM g adr μ) 2065 [some (.ref b), some (.ref (adr 0)), some (.ref (adr 237)), some (.ref (adr 247)), some (.int (nI i)), none, none, none, none] [] := by
  by_cases hz0 : xs (i + 1) = 0
  · obtain ⟨c, v, v2, α1, ψ, hc10, hv, hz, hψ, hw, hm⟩ := k_refusal (g := g) (adr := adr) (j := 0) (by decide) hC hM
    refine J.al1 dL_law_2065 ?_
    refine J.al0 dL_law_2066 ?_
    refine J.il4 dL_law_2067 ?_
    refine J.iconst dL_law_2069 kI_1 ?_
    refine J.iaddN dL_law_2070 ?_
    refine J.sld hb (by omega) (by omega) dL_law_2071 ?_
    refine J.if_eq (tgt := 2079) dL_law_2072 (by decide) (fun _ => ?_) (fun q => absurd hz0 q)
    refine J.iconst dL_law_2079 kI_0 ?_
    refine J.al3 dL_law_2080 ?_
    refine cl_L_238 rfl (k' := k + 1) (n' := n + 6) hw ⟨⟨by decide, by decide⟩, ⟨rfl, rfl⟩, hk, hn⟩ rfl dL_law_2081 (fun μ1 h1 => ?_)
    obtain ⟨hC1, hM1, hout⟩ := hψ μ1 h1
    refine J.is5 dL_law_2084 (Nat.le_of_ble_eq_true rfl) rfl ?_
    refine J.al2 dL_law_2086 ?_
    refine J.al0 dL_law_2087 ?_
    refine J.il4 dL_law_2088 ?_
    refine J.iconst dL_law_2090 kI_1 ?_
    refine J.iaddN dL_law_2091 ?_
    refine J.sld hb (by omega) (by omega) dL_law_2092 ?_
    refine J.if_eq (tgt := 2100) dL_law_2093 (by decide) (fun _ => ?_) (fun q => absurd hz0 q)
    refine J.iconst dL_law_2100 kI_0 ?_
    refine cl_L_241 rfl (by decide) (k' := k + 1) (n' := n + 6) (hm μ1 hM1) ⟨⟨by decide, by decide⟩, ⟨rfl, rfl⟩, hk, hn⟩ rfl dL_law_2101 (fun μ2 h2 => ?_)
    obtain ⟨hM2, ht, hf⟩ := h2
    refine J.is6 dL_law_2104 (Nat.le_of_ble_eq_true rfl) rfl ?_
    refine J.al2 dL_law_2106 ?_
    refine cl_L_138 rfl (by decide) (k' := k + 1) (n' := n + 6) (c_m_thrown _ ht) ⟨⟨by decide, by decide⟩, ⟨rfl, rfl⟩, hk, hn⟩ rfl dL_law_2107 (fun μ3 h3 => ?_)
    rw [h3]; clear h3
    refine J.il5 dL_law_2110 ?_
    refine J.icmp_eqN (tgt := 2117) dL_law_2112 (by decide) (by omega) (by omega) (fun _ => ?_) (fun q => absurd rfl q)
    refine J.il5 dL_law_2117 ?_
    have fin : J g (mL_law tb) room_1 (QX b L xs Q) (k + 1) (n + 6) (WM g adr μ2) 2134 [some (.ref b), some (.ref (adr 0)), some (.ref (adr 237)), some (.ref (adr 247)), some (.int (nI i)), some (.int (nI c)), some (.int v2), none, none] [] := by
      refine J.goto (tgt := 2391) dL_law_2134 (by decide) ?_
      exact J.subR (K μ2 α1 (hC1.fm hf) hM2) ⟨rfl, ⟨rfl, ⟨rfl, ⟨rfl, ⟨rfl, trivial⟩⟩⟩⟩⟩
    refine J.if_neN (tgt := 2134) dL_law_2119 (by decide) (by omega) (fun _ => fin) (fun hc0 => ?_)
    have hvv := hv hc0
    subst hvv
    refine J.al3 dL_law_2122 ?_
    refine J.iconst dL_law_2123 kI_0 ?_
    refine J.lald (x := v2) (by decide) (by decide) ((congrFun (hf 247 (Or.inr rfl)) 0).trans (hout hc0)) dL_law_2124 ?_
    refine J.il6 dL_law_2125 ?_
    refine J.i2l dL_law_2127 ?_
    refine J.lcmpE dL_law_2128 ?_
    exact J.if_eq (tgt := 2134) dL_law_2129 (by decide) (fun _ => fin) (fun q => absurd rfl q)
  · obtain ⟨c, v, v2, α1, ψ, hc10, hv, hz, hψ, hw, hm⟩ := k_refusal (g := g) (adr := adr) (j := 1) (by decide) hC hM
    refine J.al1 dL_law_2065 ?_
    refine J.al0 dL_law_2066 ?_
    refine J.il4 dL_law_2067 ?_
    refine J.iconst dL_law_2069 kI_1 ?_
    refine J.iaddN dL_law_2070 ?_
    refine J.sld hb (by omega) (by omega) dL_law_2071 ?_
    refine J.if_eq (tgt := 2079) dL_law_2072 (by decide) (fun q => absurd q hz0) (fun _ => ?_)
    refine J.iconst dL_law_2075 kI_1 ?_
    refine J.goto (tgt := 2080) dL_law_2076 (by decide) ?_
    refine J.al3 dL_law_2080 ?_
    refine cl_L_238 rfl (k' := k + 1) (n' := n + 6) hw ⟨⟨by decide, by decide⟩, ⟨rfl, rfl⟩, hk, hn⟩ rfl dL_law_2081 (fun μ1 h1 => ?_)
    obtain ⟨hC1, hM1, hout⟩ := hψ μ1 h1
    refine J.is5 dL_law_2084 (Nat.le_of_ble_eq_true rfl) rfl ?_
    refine J.al2 dL_law_2086 ?_
    refine J.al0 dL_law_2087 ?_
    refine J.il4 dL_law_2088 ?_
    refine J.iconst dL_law_2090 kI_1 ?_
    refine J.iaddN dL_law_2091 ?_
    refine J.sld hb (by omega) (by omega) dL_law_2092 ?_
    refine J.if_eq (tgt := 2100) dL_law_2093 (by decide) (fun q => absurd q hz0) (fun _ => ?_)
    refine J.iconst dL_law_2096 kI_1 ?_
    refine J.goto (tgt := 2101) dL_law_2097 (by decide) ?_
    refine cl_L_241 rfl (by decide) (k' := k + 1) (n' := n + 6) (hm μ1 hM1) ⟨⟨by decide, by decide⟩, ⟨rfl, rfl⟩, hk, hn⟩ rfl dL_law_2101 (fun μ2 h2 => ?_)
    obtain ⟨hM2, ht, hf⟩ := h2
    refine J.is6 dL_law_2104 (Nat.le_of_ble_eq_true rfl) rfl ?_
    refine J.al2 dL_law_2106 ?_
    refine cl_L_138 rfl (by decide) (k' := k + 1) (n' := n + 6) (c_m_thrown _ ht) ⟨⟨by decide, by decide⟩, ⟨rfl, rfl⟩, hk, hn⟩ rfl dL_law_2107 (fun μ3 h3 => ?_)
    rw [h3]; clear h3
    refine J.il5 dL_law_2110 ?_
    refine J.icmp_eqN (tgt := 2117) dL_law_2112 (by decide) (by omega) (by omega) (fun _ => ?_) (fun q => absurd rfl q)
    refine J.il5 dL_law_2117 ?_
    have fin : J g (mL_law tb) room_1 (QX b L xs Q) (k + 1) (n + 6) (WM g adr μ2) 2134 [some (.ref b), some (.ref (adr 0)), some (.ref (adr 237)), some (.ref (adr 247)), some (.int (nI i)), some (.int (nI c)), some (.int v2), none, none] [] := by
      refine J.goto (tgt := 2391) dL_law_2134 (by decide) ?_
      exact J.subR (K μ2 α1 (hC1.fm hf) hM2) ⟨rfl, ⟨rfl, ⟨rfl, ⟨rfl, ⟨rfl, trivial⟩⟩⟩⟩⟩
    refine J.if_neN (tgt := 2134) dL_law_2119 (by decide) (by omega) (fun _ => fin) (fun hc0 => ?_)
    have hvv := hv hc0
    subst hvv
    refine J.al3 dL_law_2122 ?_
    refine J.iconst dL_law_2123 kI_0 ?_
    refine J.lald (x := v2) (by decide) (by decide) ((congrFun (hf 247 (Or.inr rfl)) 0).trans (hout hc0)) dL_law_2124 ?_
    refine J.il6 dL_law_2125 ?_
    refine J.i2l dL_law_2127 ?_
    refine J.lcmpE dL_law_2128 ?_
    exact J.if_eq (tgt := 2134) dL_law_2129 (by decide) (fun _ => fin) (fun q => absurd rfl q)

set_option maxRecDepth 100000 in
set_option maxHeartbeats 4000000 in
theorem law_32 (hb : b < g.1) (hL : L ≤ 2048) (hi : i + 4 ≤ L) (hC : CR μ α) (hM : MR μ α) (hk : k + 1 ≤ 601024) (hn : n + 6 ≤ 7293034) (K : LK tb g adr b L xs Q i (k + 1) (n + 6)) : J g (mL_law tb) room_1 (QX b L xs Q) k n (WM g adr μ) 2137 [some (.ref b), some (.ref (adr 0)), some (.ref (adr 237)), some (.ref (adr 247)), some (.int (nI i)), none, none, none, none] [] := by
  obtain ⟨c, v, v2, α1, ψ, hc10, hv, hz, hψ, hw, hm⟩ := k_account (g := g) (adr := adr) (xs (i + 1)) hC hM
  refine J.al1 dL_law_2137 ?_
  refine J.al0 dL_law_2138 ?_
  refine J.il4 dL_law_2139 ?_
  refine J.iconst dL_law_2141 kI_1 ?_
  refine J.iaddN dL_law_2142 ?_
  refine J.sld hb (by omega) (by omega) dL_law_2143 ?_
  refine J.al3 dL_law_2144 ?_
  refine cl_L_242 rfl (k' := k + 1) (n' := n + 6) hw ⟨⟨by decide, by decide⟩, ⟨rfl, rfl⟩, hk, hn⟩ rfl dL_law_2145 (fun μ1 h1 => ?_)
  obtain ⟨hC1, hM1, hout⟩ := hψ μ1 h1
  refine J.is5 dL_law_2148 (Nat.le_of_ble_eq_true rfl) rfl ?_
  refine J.al2 dL_law_2150 ?_
  refine J.al0 dL_law_2151 ?_
  refine J.il4 dL_law_2152 ?_
  refine J.iconst dL_law_2154 kI_1 ?_
  refine J.iaddN dL_law_2155 ?_
  refine J.sld hb (by omega) (by omega) dL_law_2156 ?_
  refine cl_L_244 rfl (by decide) (k' := k + 1) (n' := n + 6) (hm μ1 hM1) ⟨⟨by decide, by decide⟩, ⟨rfl, rfl⟩, hk, hn⟩ rfl dL_law_2157 (fun μ2 h2 => ?_)
  obtain ⟨hM2, ht, hf⟩ := h2
  refine J.is6 dL_law_2160 (Nat.le_of_ble_eq_true rfl) rfl ?_
  refine J.al2 dL_law_2162 ?_
  refine cl_L_138 rfl (by decide) (k' := k + 1) (n' := n + 6) (c_m_thrown _ ht) ⟨⟨by decide, by decide⟩, ⟨rfl, rfl⟩, hk, hn⟩ rfl dL_law_2163 (fun μ3 h3 => ?_)
  rw [h3]; clear h3
  refine J.il5 dL_law_2166 ?_
  refine J.icmp_eqN (tgt := 2173) dL_law_2168 (by decide) (by omega) (by omega) (fun _ => ?_) (fun q => absurd rfl q)
  refine J.il5 dL_law_2173 ?_
  have fin : J g (mL_law tb) room_1 (QX b L xs Q) (k + 1) (n + 6) (WM g adr μ2) 2190 [some (.ref b), some (.ref (adr 0)), some (.ref (adr 237)), some (.ref (adr 247)), some (.int (nI i)), some (.int (nI c)), some (.int v2), none, none] [] := by
    refine J.goto (tgt := 2391) dL_law_2190 (by decide) ?_
    exact J.subR (K μ2 α1 (hC1.fm hf) hM2) ⟨rfl, ⟨rfl, ⟨rfl, ⟨rfl, ⟨rfl, trivial⟩⟩⟩⟩⟩
  refine J.if_neN (tgt := 2190) dL_law_2175 (by decide) (by omega) (fun _ => fin) (fun hc0 => ?_)
  have hvv := hv hc0
  subst hvv
  refine J.al3 dL_law_2178 ?_
  refine J.iconst dL_law_2179 kI_0 ?_
  refine J.lald (x := v2) (by decide) (by decide) ((congrFun (hf 247 (Or.inr rfl)) 0).trans (hout hc0)) dL_law_2180 ?_
  refine J.il6 dL_law_2181 ?_
  refine J.i2l dL_law_2183 ?_
  refine J.lcmpE dL_law_2184 ?_
  exact J.if_eq (tgt := 2190) dL_law_2185 (by decide) (fun _ => fin) (fun q => absurd rfl q)

set_option maxRecDepth 100000 in
set_option maxHeartbeats 4000000 in
theorem law_33 (hb : b < g.1) (hL : L ≤ 2048) (hi : i + 4 ≤ L) (hC : CR μ α) (hM : MR μ α) (hk : k + 1 ≤ 601024) (hn : n + 6 ≤ 7293034) (K : LK tb g adr b L xs Q i (k + 1) (n + 6)) : J g (mL_law tb) room_1 (QX b L xs Q) k n (WM g adr μ) 2193 [some (.ref b), some (.ref (adr 0)), some (.ref (adr 237)), some (.ref (adr 247)), some (.int (nI i)), none, none, none, none] [] := by
  refine J.al1 dL_law_2193 ?_
  refine cl_L_245 rfl (by decide) (k' := k + 1) (n' := n + 6) (c_isWell μ hC) ⟨⟨by decide, by decide⟩, ⟨rfl, rfl⟩, hk, hn⟩ rfl dL_law_2194 (fun μ1 h1 => ?_)
  have hM1 : MR μ1 α := hM.fc (fun o ho _ => h1.2 o ho)
  refine J.al2 dL_law_2197 ?_
  refine cl_L_249 rfl (by decide) (k' := k + 1) (n' := n + 6) (c_m_isWell μ1 hM1) ⟨⟨by decide, by decide⟩, ⟨rfl, rfl⟩, hk, hn⟩ rfl dL_law_2198 (fun μ2 h2 => ?_)
  obtain ⟨hM2, ht, hf⟩ := h2
  exact J.icmp_eq (tgt := 2391) dL_law_2201 (by decide) (fun _ => K μ2 _ (h1.1.fm hf) hM2) (fun q => absurd rfl q)

set_option maxRecDepth 100000 in
set_option maxHeartbeats 4000000 in
theorem law_34 (hb : b < g.1) (hL : L ≤ 2048) (hi : i + 4 ≤ L) (hC : CR μ α) (hM : MR μ α) (hk : k + 1 ≤ 601024) (hn : n + 6 ≤ 7293034) (K : LK tb g adr b L xs Q i (k + 1) (n + 6)) : J g (mL_law tb) room_1 (QX b L xs Q) k n (WM g adr μ) 2206 [some (.ref b), some (.ref (adr 0)), some (.ref (adr 237)), some (.ref (adr 247)), some (.int (nI i)), none, none, none, none] [] := by
  refine J.al1 dL_law_2206 ?_
  refine cl_L_250 rfl (by decide) (k' := k + 1) (n' := n + 6) (c_meanAway μ hC) ⟨⟨by decide, by decide⟩, ⟨rfl, rfl⟩, hk, hn⟩ rfl dL_law_2207 (fun μ1 h1 => ?_)
  have hM1 : MR μ1 α := hM.fc (fun o ho _ => h1.2 o ho)
  have hs9 := apart_sum hC.1.vs.1
  have hle := sumU_le (n := 32) (c := 2) (f := fun k => apart k (aAt (qS α) k)) (fun k _ => apart_le _ _)
  rw [hs9]
  generalize hz : sumU (fun k => apart k (aAt (qS α) k)) 32 = z at hle
  refine J.dstore dL_law_2210 (Nat.le_of_ble_eq_true rfl) (Or.inr rfl) rfl ?_
  refine J.al2 dL_law_2212 ?_
  have hm9 := c_m_meanAway (g := g) (adr := adr) μ1 hM1
  rw [hz] at hm9
  refine cl_L_254 rfl (by decide) (k' := k + 1) (n' := n + 6) hm9 ⟨⟨by decide, by decide⟩, ⟨rfl, rfl⟩, hk, hn⟩ rfl dL_law_2213 (fun μ2 h2 => ?_)
  obtain ⟨hM2, ht, hf⟩ := h2
  refine J.dstore dL_law_2216 (Nat.le_of_ble_eq_true rfl) (Or.inr rfl) rfl ?_
  refine J.dload dL_law_2218 rfl ?_
  refine J.dload dL_law_2220 rfl ?_
  refine J.dcmpE (d_eq z (by omega)) dL_law_2222 ?_
  refine J.if_eq (tgt := 2244) dL_law_2223 (by decide) (fun _ => ?_) (fun q => absurd rfl q)
  refine J.goto (tgt := 2391) dL_law_2244 (by decide) ?_
  exact J.subR (K μ2 α (h1.1.fm hf) hM2) ⟨rfl, ⟨rfl, ⟨rfl, ⟨rfl, ⟨rfl, trivial⟩⟩⟩⟩⟩
end LL
