/-! ===== printed: the law, call by call ===== -/
section LL
variable {tb : List (Nat × Nat × Nat × Nat)} {g : GP} {adr : Nat → Nat} {b L i k n : Nat} {xs : Nat → Int32} {Q : QT} {μ : Mem} {α : A7}
set_option maxRecDepth 100000 in
set_option maxHeartbeats 4000000 in
theorem law_7 (hb : b < g.1) (hL : L ≤ 2048) (hi : i + 4 ≤ L) (hC : CR μ α) (hM : MR μ α) (hk : k + 1 ≤ 601024) (hn : n + 6 ≤ 7293034) (K : LK tb g adr b L xs Q i (k + 1) (n + 6)) : J g (mL_law tb) room_1 (QX b L xs Q) k n (WM g adr μ) 636 [some (.ref b), some (.ref (adr 0)), some (.ref (adr 237)), some (.ref (adr 247)), some (.int (nI i)), none, none, none, none] [] := by
  obtain ⟨c, v, v2, α1, ψ, hc10, hv, hz, hψ, hw, hm⟩ := k_paint (g := g) (adr := adr) (xs (i + 1)) (xs (i + 2)) hC hM
  refine J.al1 dL_law_636 ?_
  refine J.al0 dL_law_637 ?_
  refine J.il4 dL_law_638 ?_
  refine J.iconst dL_law_640 kI_1 ?_
  refine J.iaddN dL_law_641 ?_
  refine J.sld hb (by omega) (by omega) dL_law_642 ?_
  refine J.al0 dL_law_643 ?_
  refine J.il4 dL_law_644 ?_
  refine J.iconst dL_law_646 kI_2 ?_
  refine J.iaddN dL_law_647 ?_
  refine J.sld hb (by omega) (by omega) dL_law_648 ?_
  refine J.al3 dL_law_649 ?_
  refine cl_L_161 rfl (k' := k + 1) (n' := n + 6) hw ⟨⟨by decide, by decide⟩, ⟨rfl, rfl⟩, hk, hn⟩ rfl dL_law_650 (fun μ1 h1 => ?_)
  obtain ⟨hC1, hM1, hout⟩ := hψ μ1 h1
  refine J.is5 dL_law_653 (Nat.le_of_ble_eq_true rfl) rfl ?_
  refine J.al2 dL_law_655 ?_
  refine J.al0 dL_law_656 ?_
  refine J.il4 dL_law_657 ?_
  refine J.iconst dL_law_659 kI_1 ?_
  refine J.iaddN dL_law_660 ?_
  refine J.sld hb (by omega) (by omega) dL_law_661 ?_
  refine J.al0 dL_law_662 ?_
  refine J.il4 dL_law_663 ?_
  refine J.iconst dL_law_665 kI_2 ?_
  refine J.iaddN dL_law_666 ?_
  refine J.sld hb (by omega) (by omega) dL_law_667 ?_
  refine cl_L_163 rfl (by decide) (k' := k + 1) (n' := n + 6) (hm μ1 hM1) ⟨⟨by decide, by decide⟩, ⟨rfl, rfl⟩, hk, hn⟩ rfl dL_law_668 (fun μ2 h2 => ?_)
  obtain ⟨hM2, ht, hf⟩ := h2
  refine J.is6 dL_law_671 (Nat.le_of_ble_eq_true rfl) rfl ?_
  refine J.al2 dL_law_673 ?_
  refine cl_L_138 rfl (by decide) (k' := k + 1) (n' := n + 6) (c_m_thrown _ ht) ⟨⟨by decide, by decide⟩, ⟨rfl, rfl⟩, hk, hn⟩ rfl dL_law_674 (fun μ3 h3 => ?_)
  rw [h3]; clear h3
  refine J.il5 dL_law_677 ?_
  refine J.icmp_eqN (tgt := 684) dL_law_679 (by decide) (by omega) (by omega) (fun _ => ?_) (fun q => absurd rfl q)
  refine J.il5 dL_law_684 ?_
  have fin : J g (mL_law tb) room_1 (QX b L xs Q) (k + 1) (n + 6) (WM g adr μ2) 701 [some (.ref b), some (.ref (adr 0)), some (.ref (adr 237)), some (.ref (adr 247)), some (.int (nI i)), some (.int (nI c)), some (.int v2), none, none] [] := by
    refine J.goto (tgt := 2391) dL_law_701 (by decide) ?_
    exact J.subR (K μ2 α1 (hC1.fm hf) hM2) ⟨rfl, ⟨rfl, ⟨rfl, ⟨rfl, ⟨rfl, trivial⟩⟩⟩⟩⟩
  refine J.if_neN (tgt := 701) dL_law_686 (by decide) (by omega) (fun _ => fin) (fun hc0 => ?_)
  have hvv := hv hc0
  subst hvv
  refine J.al3 dL_law_689 ?_
  refine J.iconst dL_law_690 kI_0 ?_
  refine J.lald (x := v2) (by decide) (by decide) ((congrFun (hf 247 (Or.inr rfl)) 0).trans (hout hc0)) dL_law_691 ?_
  refine J.il6 dL_law_692 ?_
  refine J.i2l dL_law_694 ?_
  refine J.lcmpE dL_law_695 ?_
  exact J.if_eq (tgt := 701) dL_law_696 (by decide) (fun _ => fin) (fun q => absurd rfl q)

set_option maxRecDepth 100000 in
set_option maxHeartbeats 4000000 in
theorem law_8 (hb : b < g.1) (hL : L ≤ 2048) (hi : i + 4 ≤ L) (hC : CR μ α) (hM : MR μ α) (hk : k + 1 ≤ 601024) (hn : n + 6 ≤ 7293034) (K : LK tb g adr b L xs Q i (k + 1) (n + 6)) : J g (mL_law tb) room_1 (QX b L xs Q) k n (WM g adr μ) 704 [some (.ref b), some (.ref (adr 0)), some (.ref (adr 237)), some (.ref (adr 247)), some (.int (nI i)), none, none, none, none] [] := by
  obtain ⟨c, v, v2, α1, ψ, hc10, hv, hz, hψ, hw, hm⟩ := k_colour (g := g) (adr := adr) (xs (i + 1)) hC hM
  refine J.al1 dL_law_704 ?_
  refine J.al0 dL_law_705 ?_
  refine J.il4 dL_law_706 ?_
  refine J.iconst dL_law_708 kI_1 ?_
  refine J.iaddN dL_law_709 ?_
  refine J.sld hb (by omega) (by omega) dL_law_710 ?_
  refine J.al3 dL_law_711 ?_
  refine cl_L_164 rfl (k' := k + 1) (n' := n + 6) hw ⟨⟨by decide, by decide⟩, ⟨rfl, rfl⟩, hk, hn⟩ rfl dL_law_712 (fun μ1 h1 => ?_)
  obtain ⟨hC1, hM1, hout⟩ := hψ μ1 h1
  refine J.is5 dL_law_715 (Nat.le_of_ble_eq_true rfl) rfl ?_
  refine J.al2 dL_law_717 ?_
  refine J.al0 dL_law_718 ?_
  refine J.il4 dL_law_719 ?_
  refine J.iconst dL_law_721 kI_1 ?_
  refine J.iaddN dL_law_722 ?_
  refine J.sld hb (by omega) (by omega) dL_law_723 ?_
  refine cl_L_166 rfl (by decide) (k' := k + 1) (n' := n + 6) (hm μ1 hM1) ⟨⟨by decide, by decide⟩, ⟨rfl, rfl⟩, hk, hn⟩ rfl dL_law_724 (fun μ2 h2 => ?_)
  obtain ⟨hM2, ht, hf⟩ := h2
  refine J.is6 dL_law_727 (Nat.le_of_ble_eq_true rfl) rfl ?_
  refine J.al2 dL_law_729 ?_
  refine cl_L_138 rfl (by decide) (k' := k + 1) (n' := n + 6) (c_m_thrown _ ht) ⟨⟨by decide, by decide⟩, ⟨rfl, rfl⟩, hk, hn⟩ rfl dL_law_730 (fun μ3 h3 => ?_)
  rw [h3]; clear h3
  refine J.il5 dL_law_733 ?_
  refine J.icmp_eqN (tgt := 740) dL_law_735 (by decide) (by omega) (by omega) (fun _ => ?_) (fun q => absurd rfl q)
  refine J.il5 dL_law_740 ?_
  have fin : J g (mL_law tb) room_1 (QX b L xs Q) (k + 1) (n + 6) (WM g adr μ2) 757 [some (.ref b), some (.ref (adr 0)), some (.ref (adr 237)), some (.ref (adr 247)), some (.int (nI i)), some (.int (nI c)), some (.int v2), none, none] [] := by
    refine J.goto (tgt := 2391) dL_law_757 (by decide) ?_
    exact J.subR (K μ2 α1 (hC1.fm hf) hM2) ⟨rfl, ⟨rfl, ⟨rfl, ⟨rfl, ⟨rfl, trivial⟩⟩⟩⟩⟩
  refine J.if_neN (tgt := 757) dL_law_742 (by decide) (by omega) (fun _ => fin) (fun hc0 => ?_)
  have hvv := hv hc0
  subst hvv
  refine J.al3 dL_law_745 ?_
  refine J.iconst dL_law_746 kI_0 ?_
  refine J.lald (x := v2) (by decide) (by decide) ((congrFun (hf 247 (Or.inr rfl)) 0).trans (hout hc0)) dL_law_747 ?_
  refine J.il6 dL_law_748 ?_
  refine J.i2l dL_law_750 ?_
  refine J.lcmpE dL_law_751 ?_
  exact J.if_eq (tgt := 757) dL_law_752 (by decide) (fun _ => fin) (fun q => absurd rfl q)

set_option maxRecDepth 100000 in
set_option maxHeartbeats 4000000 in
theorem law_9 (hb : b < g.1) (hL : L ≤ 2048) (hi : i + 4 ≤ L) (hC : CR μ α) (hM : MR μ α) (hk : k + 1 ≤ 601024) (hn : n + 6 ≤ 7293034) (K : LK tb g adr b L xs Q i (k + 1) (n + 6)) : J g (mL_law tb) room_1 (QX b L xs Q) k n (WM g adr μ) 760 [some (.ref b), some (.ref (adr 0)), some (.ref (adr 237)), some (.ref (adr 247)), some (.int (nI i)), none, none, none, none] [] := by
  obtain ⟨c, v, v2, α1, ψ, hc10, hv, hz, hψ, hw, hm⟩ := k_isDone (g := g) (adr := adr) (xs (i + 1)) hC hM
  refine J.al1 dL_law_760 ?_
  refine J.al0 dL_law_761 ?_
  refine J.il4 dL_law_762 ?_
  refine J.iconst dL_law_764 kI_1 ?_
  refine J.iaddN dL_law_765 ?_
  refine J.sld hb (by omega) (by omega) dL_law_766 ?_
  refine J.al3 dL_law_767 ?_
  refine cl_L_167 rfl (k' := k + 1) (n' := n + 6) hw ⟨⟨by decide, by decide⟩, ⟨rfl, rfl⟩, hk, hn⟩ rfl dL_law_768 (fun μ1 h1 => ?_)
  obtain ⟨hC1, hM1, hout⟩ := hψ μ1 h1
  refine J.is5 dL_law_771 (Nat.le_of_ble_eq_true rfl) rfl ?_
  refine J.al2 dL_law_773 ?_
  refine J.al0 dL_law_774 ?_
  refine J.il4 dL_law_775 ?_
  refine J.iconst dL_law_777 kI_1 ?_
  refine J.iaddN dL_law_778 ?_
  refine J.sld hb (by omega) (by omega) dL_law_779 ?_
  refine cl_L_169 rfl (by decide) (k' := k + 1) (n' := n + 6) (hm μ1 hM1) ⟨⟨by decide, by decide⟩, ⟨rfl, rfl⟩, hk, hn⟩ rfl dL_law_780 (fun μ2 h2 => ?_)
  obtain ⟨hM2, ht, hf⟩ := h2
  refine J.is6 dL_law_783 (Nat.le_of_ble_eq_true rfl) rfl ?_
  refine J.al2 dL_law_785 ?_
  refine cl_L_138 rfl (by decide) (k' := k + 1) (n' := n + 6) (c_m_thrown _ ht) ⟨⟨by decide, by decide⟩, ⟨rfl, rfl⟩, hk, hn⟩ rfl dL_law_786 (fun μ3 h3 => ?_)
  rw [h3]; clear h3
  refine J.il5 dL_law_789 ?_
  refine J.icmp_eqN (tgt := 796) dL_law_791 (by decide) (by omega) (by omega) (fun _ => ?_) (fun q => absurd rfl q)
  refine J.il5 dL_law_796 ?_
  have fin : J g (mL_law tb) room_1 (QX b L xs Q) (k + 1) (n + 6) (WM g adr μ2) 820 [some (.ref b), some (.ref (adr 0)), some (.ref (adr 237)), some (.ref (adr 247)), some (.int (nI i)), some (.int (nI c)), some (.int v2), none, none] [] := by
    refine J.goto (tgt := 2391) dL_law_820 (by decide) ?_
    exact J.subR (K μ2 α1 (hC1.fm hf) hM2) ⟨rfl, ⟨rfl, ⟨rfl, ⟨rfl, ⟨rfl, trivial⟩⟩⟩⟩⟩
  refine J.if_neN (tgt := 820) dL_law_798 (by decide) (by omega) (fun _ => fin) (fun hc0 => ?_)
  have hvv := hv hc0
  subst hvv
  refine J.al3 dL_law_801 ?_
  refine J.iconst dL_law_802 kI_0 ?_
  refine J.lald (x := v2) (by decide) (by decide) ((congrFun (hf 247 (Or.inr rfl)) 0).trans (hout hc0)) dL_law_803 ?_
  refine J.il6 dL_law_804 ?_
  rcases hz rfl with e | e
  · subst e
    refine J.if_eq (tgt := 813) dL_law_806 (by decide) (fun _ => ?_) (fun q => absurd (by decide) q)
    refine J.lconst (i := 0) (v := (nI 0).toInt64) dL_law_813 (by decide) ?_
    refine J.lcmpE dL_law_814 ?_
    exact J.if_eq (tgt := 820) dL_law_815 (by decide) (fun _ => fin) (fun q => absurd rfl q)
  · subst e
    refine J.if_eq (tgt := 813) dL_law_806 (by decide) (fun q => absurd q (by decide)) (fun _ => ?_)
    refine J.lconst (i := 1) (v := (nI 1).toInt64) dL_law_809 (by decide) ?_
    refine J.goto (tgt := 814) dL_law_810 (by decide) ?_
    refine J.lcmpE dL_law_814 ?_
    exact J.if_eq (tgt := 820) dL_law_815 (by decide) (fun _ => fin) (fun q => absurd rfl q)

set_option maxRecDepth 100000 in
set_option maxHeartbeats 4000000 in
theorem law_10 (hb : b < g.1) (hL : L ≤ 2048) (hi : i + 4 ≤ L) (hC : CR μ α) (hM : MR μ α) (hk : k + 1 ≤ 601024) (hn : n + 6 ≤ 7293034) (K : LK tb g adr b L xs Q i (k + 1) (n + 6)) : J g (mL_law tb) room_1 (QX b L xs Q) k n (WM g adr μ) 823 [some (.ref b), some (.ref (adr 0)), some (.ref (adr 237)), some (.ref (adr 247)), some (.int (nI i)), none, none, none, none] [] := by
  refine J.al1 dL_law_823 ?_
  refine cl_L_170 rfl (by decide) (k' := k + 1) (n' := n + 6) (c_seams μ hC) ⟨⟨by decide, by decide⟩, ⟨rfl, rfl⟩, hk, hn⟩ rfl dL_law_824 (fun μ1 h1 => ?_)
  have hM1 : MR μ1 α := hM.fc (fun o ho _ => h1.2 o ho)
  refine J.al2 dL_law_827 ?_
  refine cl_L_173 rfl (by decide) (k' := k + 1) (n' := n + 6) (c_m_seams μ1 hM1) ⟨⟨by decide, by decide⟩, ⟨rfl, rfl⟩, hk, hn⟩ rfl dL_law_828 (fun μ2 h2 => ?_)
  obtain ⟨hM2, ht, hf⟩ := h2
  exact J.icmp_eq (tgt := 2391) dL_law_831 (by decide) (fun _ => K μ2 _ (h1.1.fm hf) hM2) (fun q => absurd rfl q)

set_option maxRecDepth 100000 in
set_option maxHeartbeats 4000000 in
theorem law_11 (hb : b < g.1) (hL : L ≤ 2048) (hi : i + 4 ≤ L) (hC : CR μ α) (hM : MR μ α) (hk : k + 1 ≤ 601024) (hn : n + 6 ≤ 7293034) (K : LK tb g adr b L xs Q i (k + 1) (n + 6)) : J g (mL_law tb) room_1 (QX b L xs Q) k n (WM g adr μ) 836 [some (.ref b), some (.ref (adr 0)), some (.ref (adr 237)), some (.ref (adr 247)), some (.int (nI i)), none, none, none, none] [] := by
  obtain ⟨c, v, v2, α1, ψ, hc10, hv, hz, hψ, hw, hm⟩ := k_fewest (g := g) (adr := adr) (xs (i + 1)) (xs (i + 2)) hC hM
  refine J.al1 dL_law_836 ?_
  refine J.al0 dL_law_837 ?_
  refine J.il4 dL_law_838 ?_
  refine J.iconst dL_law_840 kI_1 ?_
  refine J.iaddN dL_law_841 ?_
  refine J.sld hb (by omega) (by omega) dL_law_842 ?_
  refine J.al0 dL_law_843 ?_
  refine J.il4 dL_law_844 ?_
  refine J.iconst dL_law_846 kI_2 ?_
  refine J.iaddN dL_law_847 ?_
  refine J.sld hb (by omega) (by omega) dL_law_848 ?_
  refine J.al3 dL_law_849 ?_
  refine cl_L_174 rfl (k' := k + 1) (n' := n + 6) hw ⟨⟨by decide, by decide⟩, ⟨rfl, rfl⟩, hk, hn⟩ rfl dL_law_850 (fun μ1 h1 => ?_)
  obtain ⟨hC1, hM1, hout⟩ := hψ μ1 h1
  refine J.is5 dL_law_853 (Nat.le_of_ble_eq_true rfl) rfl ?_
  refine J.al2 dL_law_855 ?_
  refine J.al0 dL_law_856 ?_
  refine J.il4 dL_law_857 ?_
  refine J.iconst dL_law_859 kI_1 ?_
  refine J.iaddN dL_law_860 ?_
  refine J.sld hb (by omega) (by omega) dL_law_861 ?_
  refine J.al0 dL_law_862 ?_
  refine J.il4 dL_law_863 ?_
  refine J.iconst dL_law_865 kI_2 ?_
  refine J.iaddN dL_law_866 ?_
  refine J.sld hb (by omega) (by omega) dL_law_867 ?_
  refine cl_L_176 rfl (by decide) (k' := k + 1) (n' := n + 6) (hm μ1 hM1) ⟨⟨by decide, by decide⟩, ⟨rfl, rfl⟩, hk, hn⟩ rfl dL_law_868 (fun μ2 h2 => ?_)
  obtain ⟨hM2, ht, hf⟩ := h2
  refine J.is6 dL_law_871 (Nat.le_of_ble_eq_true rfl) rfl ?_
  refine J.al2 dL_law_873 ?_
  refine cl_L_138 rfl (by decide) (k' := k + 1) (n' := n + 6) (c_m_thrown _ ht) ⟨⟨by decide, by decide⟩, ⟨rfl, rfl⟩, hk, hn⟩ rfl dL_law_874 (fun μ3 h3 => ?_)
  rw [h3]; clear h3
  refine J.il5 dL_law_877 ?_
  refine J.icmp_eqN (tgt := 884) dL_law_879 (by decide) (by omega) (by omega) (fun _ => ?_) (fun q => absurd rfl q)
  refine J.il5 dL_law_884 ?_
  have fin : J g (mL_law tb) room_1 (QX b L xs Q) (k + 1) (n + 6) (WM g adr μ2) 901 [some (.ref b), some (.ref (adr 0)), some (.ref (adr 237)), some (.ref (adr 247)), some (.int (nI i)), some (.int (nI c)), some (.int v2), none, none] [] := by
    refine J.goto (tgt := 2391) dL_law_901 (by decide) ?_
    exact J.subR (K μ2 α1 (hC1.fm hf) hM2) ⟨rfl, ⟨rfl, ⟨rfl, ⟨rfl, ⟨rfl, trivial⟩⟩⟩⟩⟩
  refine J.if_neN (tgt := 901) dL_law_886 (by decide) (by omega) (fun _ => fin) (fun hc0 => ?_)
  have hvv := hv hc0
  subst hvv
  refine J.al3 dL_law_889 ?_
  refine J.iconst dL_law_890 kI_0 ?_
  refine J.lald (x := v2) (by decide) (by decide) ((congrFun (hf 247 (Or.inr rfl)) 0).trans (hout hc0)) dL_law_891 ?_
  refine J.il6 dL_law_892 ?_
  refine J.i2l dL_law_894 ?_
  refine J.lcmpE dL_law_895 ?_
  exact J.if_eq (tgt := 901) dL_law_896 (by decide) (fun _ => fin) (fun q => absurd rfl q)

set_option maxRecDepth 100000 in
set_option maxHeartbeats 4000000 in
theorem law_12 (hb : b < g.1) (hL : L ≤ 2048) (hi : i + 4 ≤ L) (hC : CR μ α) (hM : MR μ α) (hk : k + 1 ≤ 601024) (hn : n + 6 ≤ 7293034) (K : LK tb g adr b L xs Q i (k + 1) (n + 6)) : J g (mL_law tb) room_1 (QX b L xs Q) k n (WM g adr μ) 904 [some (.ref b), some (.ref (adr 0)), some (.ref (adr 237)), some (.ref (adr 247)), some (.int (nI i)), none, none, none, none] [] := by
  obtain ⟨c, v, v2, α1, ψ, hc10, hv, hz, hψ, hw, hm⟩ := k_learn (g := g) (adr := adr) (xs (i + 1)) hC hM
  refine J.al1 dL_law_904 ?_
  refine J.al0 dL_law_905 ?_
  refine J.il4 dL_law_906 ?_
  refine J.iconst dL_law_908 kI_1 ?_
  refine J.iaddN dL_law_909 ?_
  refine J.sld hb (by omega) (by omega) dL_law_910 ?_
  refine J.al3 dL_law_911 ?_
  refine cl_L_177 rfl (k' := k + 1) (n' := n + 6) hw ⟨⟨by decide, by decide⟩, ⟨rfl, rfl⟩, hk, hn⟩ rfl dL_law_912 (fun μ1 h1 => ?_)
  obtain ⟨hC1, hM1, hout⟩ := hψ μ1 h1
  refine J.is5 dL_law_915 (Nat.le_of_ble_eq_true rfl) rfl ?_
  refine J.al2 dL_law_917 ?_
  refine J.al0 dL_law_918 ?_
  refine J.il4 dL_law_919 ?_
  refine J.iconst dL_law_921 kI_1 ?_
  refine J.iaddN dL_law_922 ?_
  refine J.sld hb (by omega) (by omega) dL_law_923 ?_
  refine cl_L_179 rfl (by decide) (k' := k + 1) (n' := n + 6) (hm μ1 hM1) ⟨⟨by decide, by decide⟩, ⟨rfl, rfl⟩, hk, hn⟩ rfl dL_law_924 (fun μ2 h2 => ?_)
  obtain ⟨hM2, ht, hf⟩ := h2
  refine J.is6 dL_law_927 (Nat.le_of_ble_eq_true rfl) rfl ?_
  refine J.al2 dL_law_929 ?_
  refine cl_L_138 rfl (by decide) (k' := k + 1) (n' := n + 6) (c_m_thrown _ ht) ⟨⟨by decide, by decide⟩, ⟨rfl, rfl⟩, hk, hn⟩ rfl dL_law_930 (fun μ3 h3 => ?_)
  rw [h3]; clear h3
  refine J.il5 dL_law_933 ?_
  refine J.icmp_eqN (tgt := 940) dL_law_935 (by decide) (by omega) (by omega) (fun _ => ?_) (fun q => absurd rfl q)
  refine J.il5 dL_law_940 ?_
  have fin : J g (mL_law tb) room_1 (QX b L xs Q) (k + 1) (n + 6) (WM g adr μ2) 957 [some (.ref b), some (.ref (adr 0)), some (.ref (adr 237)), some (.ref (adr 247)), some (.int (nI i)), some (.int (nI c)), some (.int v2), none, none] [] := by
    refine J.goto (tgt := 2391) dL_law_957 (by decide) ?_
    exact J.subR (K μ2 α1 (hC1.fm hf) hM2) ⟨rfl, ⟨rfl, ⟨rfl, ⟨rfl, ⟨rfl, trivial⟩⟩⟩⟩⟩
  refine J.if_neN (tgt := 957) dL_law_942 (by decide) (by omega) (fun _ => fin) (fun hc0 => ?_)
  have hvv := hv hc0
  subst hvv
  refine J.al3 dL_law_945 ?_
  refine J.iconst dL_law_946 kI_0 ?_
  refine J.lald (x := v2) (by decide) (by decide) ((congrFun (hf 247 (Or.inr rfl)) 0).trans (hout hc0)) dL_law_947 ?_
  refine J.il6 dL_law_948 ?_
  refine J.i2l dL_law_950 ?_
  refine J.lcmpE dL_law_951 ?_
  exact J.if_eq (tgt := 957) dL_law_952 (by decide) (fun _ => fin) (fun q => absurd rfl q)

set_option maxRecDepth 100000 in
set_option maxHeartbeats 4000000 in
theorem law_13 (hb : b < g.1) (hL : L ≤ 2048) (hi : i + 4 ≤ L) (hC : CR μ α) (hM : MR μ α) (hk : k + 1 ≤ 601024) (hn : n + 6 ≤ 7293034) (K : LK tb g adr b L xs Q i (k + 1) (n + 6)) : J g (mL_law tb) room_1 (QX b L xs Q) k n (WM g adr μ) 960 [some (.ref b), some (.ref (adr 0)), some (.ref (adr 237)), some (.ref (adr 247)), some (.int (nI i)), none, none, none, none] [] := by
  obtain ⟨c, v, v2, α1, ψ, hc10, hv, hz, hψ, hw, hm⟩ := k_use (g := g) (adr := adr) (xs (i + 1)) (xs (i + 2)) hC hM
  refine J.al1 dL_law_960 ?_
  refine J.al0 dL_law_961 ?_
  refine J.il4 dL_law_962 ?_
  refine J.iconst dL_law_964 kI_1 ?_
  refine J.iaddN dL_law_965 ?_
  refine J.sld hb (by omega) (by omega) dL_law_966 ?_
  refine J.al0 dL_law_967 ?_
  refine J.il4 dL_law_968 ?_
  refine J.iconst dL_law_970 kI_2 ?_
  refine J.iaddN dL_law_971 ?_
  refine J.sld hb (by omega) (by omega) dL_law_972 ?_
  refine J.al3 dL_law_973 ?_
  refine cl_L_180 rfl (k' := k + 1) (n' := n + 6) hw ⟨⟨by decide, by decide⟩, ⟨rfl, rfl⟩, hk, hn⟩ rfl dL_law_974 (fun μ1 h1 => ?_)
  obtain ⟨hC1, hM1, hout⟩ := hψ μ1 h1
  refine J.is5 dL_law_977 (Nat.le_of_ble_eq_true rfl) rfl ?_
  refine J.al2 dL_law_979 ?_
  refine J.al0 dL_law_980 ?_
  refine J.il4 dL_law_981 ?_
  refine J.iconst dL_law_983 kI_1 ?_
  refine J.iaddN dL_law_984 ?_
  refine J.sld hb (by omega) (by omega) dL_law_985 ?_
  refine J.al0 dL_law_986 ?_
  refine J.il4 dL_law_987 ?_
  refine J.iconst dL_law_989 kI_2 ?_
  refine J.iaddN dL_law_990 ?_
  refine J.sld hb (by omega) (by omega) dL_law_991 ?_
  refine cl_L_182 rfl (by decide) (k' := k + 1) (n' := n + 6) (hm μ1 hM1) ⟨⟨by decide, by decide⟩, ⟨rfl, rfl⟩, hk, hn⟩ rfl dL_law_992 (fun μ2 h2 => ?_)
  obtain ⟨hM2, ht, hf⟩ := h2
  refine J.is6 dL_law_995 (Nat.le_of_ble_eq_true rfl) rfl ?_
  refine J.al2 dL_law_997 ?_
  refine cl_L_138 rfl (by decide) (k' := k + 1) (n' := n + 6) (c_m_thrown _ ht) ⟨⟨by decide, by decide⟩, ⟨rfl, rfl⟩, hk, hn⟩ rfl dL_law_998 (fun μ3 h3 => ?_)
  rw [h3]; clear h3
  refine J.il5 dL_law_1001 ?_
  refine J.icmp_eqN (tgt := 1008) dL_law_1003 (by decide) (by omega) (by omega) (fun _ => ?_) (fun q => absurd rfl q)
  refine J.il5 dL_law_1008 ?_
  have fin : J g (mL_law tb) room_1 (QX b L xs Q) (k + 1) (n + 6) (WM g adr μ2) 1025 [some (.ref b), some (.ref (adr 0)), some (.ref (adr 237)), some (.ref (adr 247)), some (.int (nI i)), some (.int (nI c)), some (.int v2), none, none] [] := by
    refine J.goto (tgt := 2391) dL_law_1025 (by decide) ?_
    exact J.subR (K μ2 α1 (hC1.fm hf) hM2) ⟨rfl, ⟨rfl, ⟨rfl, ⟨rfl, ⟨rfl, trivial⟩⟩⟩⟩⟩
  refine J.if_neN (tgt := 1025) dL_law_1010 (by decide) (by omega) (fun _ => fin) (fun hc0 => ?_)
  have hvv := hv hc0
  subst hvv
  refine J.al3 dL_law_1013 ?_
  refine J.iconst dL_law_1014 kI_0 ?_
  refine J.lald (x := v2) (by decide) (by decide) ((congrFun (hf 247 (Or.inr rfl)) 0).trans (hout hc0)) dL_law_1015 ?_
  refine J.il6 dL_law_1016 ?_
  refine J.i2l dL_law_1018 ?_
  refine J.lcmpE dL_law_1019 ?_
  exact J.if_eq (tgt := 1025) dL_law_1020 (by decide) (fun _ => fin) (fun q => absurd rfl q)
end LL
