/-! ===== printed: constructors ===== -/
def PX2 (g : GP) (b : Nat) (blk : va_W) : Prop := ∃ (ar : Nat) (f : Nat → Option Nat) (sb : Nat → Nat) (bl : Nat → va_W), (∀ j, j < 8 → PX6 g (sb j) (bl j)) ∧ (∀ j, j < 8 → f j = some (sb j)) ∧ blk = (b, .inr (2, [.ref ar, .int (nI 0)])) :: (ar, .inl (g.2.2 5, 8, .inr (.inr (.inr (.inr f))))) :: (((((((bl 0 ++ bl 1) ++ bl 2) ++ bl 3) ++ bl 4) ++ bl 5) ++ bl 6) ++ bl 7)
set_option maxRecDepth 100000 in
set_option maxHeartbeats 8000000 in
theorem cn_X2 {g : GP} : CN g yX2_init mX2_init (RM 3 153 3224) 2 [.null, .int 0] (PX2 g) := by
  intro w0 b
  show CI g yX2_init mX2_init _ _ _ _
  refine CI.of (y := yX2_init) (l0 := [some (.ref b), none]) (by decide +kernel) rfl rfl (Nat.le_of_ble_eq_true rfl) rfl ?_
  show J g mX2_init (RM 3 153 3224) _ 0 0 (w0 ++ ([(b, .inr (2, [.null, .int 0]))])) 0 [some (.ref b), none] []
  refine J.al0 dX2_init_0 ?_
  refine J.obj to_116 (by decide) (by decide) dX2_init_1 ?_
  show J g mX2_init (RM 3 153 3224) _ 0 0 (w0 ++ ([(b, .inr (2, [.null, .int 0]))])) 4 [some (.ref b), none] []
  refine J.al0 dX2_init_4 ?_
  refine J.bipush (v := nI 8) dX2_init_5 (by decide) ?_
  refine J.newQ (C := "TwistyBarrels$State") (t := 5) (by decide) rfl t_117 (by decide) (by decide) (by decide) dX2_init_7 (fun q1v => ?_)
  show J g mX2_init (RM 3 153 3224) _ 1 8 (w0 ++ ([(b, .inr (2, [.null, .int 0])), (q1v, .inl (g.2.2 5, 8, .inr (.inr (.inr (.inr (fun _ => none))))))])) 10 [some (.ref b), none] [.ref q1v, .ref b]
  refine J.putXF (C := RX2) (T := TX2) (N := 2) (ci := 2) (kf := 0) (i := 0) (v := .ref q1v) (ty := tyX2 0) inB2 tyX2 tyX2_ok nmX2 rfl (by decide) t_120 rfl rfl rfl rfl (tyX2_ok 0 (by decide)) rfl rfl (Nat.le_of_ble_eq_true rfl) dX2_init_10 ?_
  show J g mX2_init (RM 3 153 3224) _ 1 8 (w0 ++ ([(b, .inr (2, [.ref q1v, .int 0])), (q1v, .inl (g.2.2 5, 8, .inr (.inr (.inr (.inr (fun _ => none))))))])) 13 [some (.ref b), none] []
  refine J.al0 dX2_init_13 ?_
  refine J.iconst dX2_init_14 kI_0 ?_
  refine J.putX (C := RX2) (T := TX2) (N := 2) (ci := 2) (kf := 1) (i := 0) (v := .int (nI 0)) (ty := tyX2 1) inB2 tyX2 tyX2_ok nmX2 rfl (by decide) t_121 rfl rfl (tyX2_ok 1 (by decide)) (by decide) (by decide) (Nat.le_of_ble_eq_true rfl) dX2_init_15 ?_
  show J g mX2_init (RM 3 153 3224) _ 1 8 (w0 ++ ([(b, .inr (2, [.ref q1v, .int (nI 0)])), (q1v, .inl (g.2.2 5, 8, .inr (.inr (.inr (.inr (fun _ => none))))))])) 18 [some (.ref b), none] []
  refine J.iconst dX2_init_18 kI_0 ?_
  refine J.is1 dX2_init_19 (by decide) rfl ?_
  refine J.il1 dX2_init_20 ?_
  refine J.bipush (v := nI 8) dX2_init_21 (by decide) ?_
  refine J.icmp_geN (tgt := 45) dX2_init_23 (by decide) (by decide) (by decide) (fun q => absurd q (by decide)) (fun _ => ?_)
  refine J.al0 dX2_init_26 ?_
  refine J.getX (C := RX2) (T := TX2) (N := 2) (ci := 2) (kf := 0) (i := 0) (v := .ref q1v) inB2 rfl (by decide) t_120 rfl rfl dX2_init_27 ?_
  refine J.il1 dX2_init_30 ?_
  refine J.newX (C := RX6) (T := TX6) (N := 6) (ci := 6) (fs := [.null, .null, .int 0, .int 0, .null, .null]) inB6 tyX6 tyX6_ok rfl t_117 t_41 t_2 dfX6 (by decide) (by decide) dX2_init_31 (fun q2v => ?_)
  show J g mX2_init (RM 3 153 3224) _ 2 14 (w0 ++ ([(b, .inr (2, [.ref q1v, .int (nI 0)])), (q1v, .inl (g.2.2 5, 8, .inr (.inr (.inr (.inr (fun _ => none)))))), (q2v, .inr (6, [.null, .null, .int 0, .int 0, .null, .null]))])) 34 [some (.ref b), some (.int (nI 0))] [.ref q2v, .int (nI 0), .ref q1v]
  refine J.dup dX2_init_34 rfl ?_
  refine J.ctor (A := [(b, .inr (2, [.ref q1v, .int (nI 0)])), (q1v, .inl (g.2.2 5, 8, .inr (.inr (.inr (.inr (fun _ => none))))))]) cn_X6 rfl t_119 t_43 t_2 t_44 rfl ⟨by decide +kernel, by decide +kernel, by decide +kernel⟩ rfl ⟨by decide, by decide⟩ rfl dX2_init_35 ⟨by decide, by decide⟩ (fun bk3v hb4v => ?_)
  obtain ⟨_, hf5v⟩ := X6_first hb4v
  show J g mX2_init (RM 3 153 3224) _ 20 410 (w0 ++ ((b, .inr (2, [.ref q1v, .int (nI 0)])) :: (q1v, .inl (g.2.2 5, 8, .inr (.inr (.inr (.inr (fun _ => none)))))) :: bk3v)) 38 [some (.ref b), some (.int (nI 0))] [.ref q2v, .int (nI 0), .ref q1v]
  refine J.qastX (i := 1) (iv := ([(b, .inr (2, [.ref q1v, .int (nI 0)])), (q1v, .inl (g.2.2 5, 8, .inr (.inr (.inr (.inr (fun _ => none))))))] : va_W).length + 0) (ci := 6) (t := 5) (q := (RX6, TX6, 6)) rfl rfl (ap_get (a := ([(b, .inr (2, [.ref q1v, .int (nI 0)])), (q1v, .inl (g.2.2 5, 8, .inr (.inr (.inr (.inr (fun _ => none))))))] : va_W)) hf5v) rfl (by decide) (by decide) dX2_init_38 ?_
  show J g mX2_init (RM 3 153 3224) _ 20 410 (w0 ++ ((b, .inr (2, [.ref q1v, .int (nI 0)])) :: (q1v, .inl (g.2.2 5, 8, .inr (.inr (.inr (.inr (va_up (fun _ => none) 0 (some q2v))))))) :: bk3v)) 39 [some (.ref b), some (.int (nI 0))] []
  refine J.ii1 (z := 1) dX2_init_39 (by decide) (by decide) rfl ?_
  show J g mX2_init (RM 3 153 3224) _ 20 410 (w0 ++ ((b, .inr (2, [.ref q1v, .int (nI 0)])) :: (q1v, .inl (g.2.2 5, 8, .inr (.inr (.inr (.inr (va_up (fun _ => none) 0 (some q2v))))))) :: bk3v)) 42 [some (.ref b), some (.int (nI 1))] []
  refine J.goto (tgt := 20) dX2_init_42 (by decide) ?_
  refine J.il1 dX2_init_20 ?_
  refine J.bipush (v := nI 8) dX2_init_21 (by decide) ?_
  refine J.icmp_geN (tgt := 45) dX2_init_23 (by decide) (by decide) (by decide) (fun q => absurd q (by decide)) (fun _ => ?_)
  refine J.al0 dX2_init_26 ?_
  refine J.getX (C := RX2) (T := TX2) (N := 2) (ci := 2) (kf := 0) (i := 0) (v := .ref q1v) inB2 rfl (by decide) t_120 rfl rfl dX2_init_27 ?_
  refine J.il1 dX2_init_30 ?_
  refine J.newX (C := RX6) (T := TX6) (N := 6) (ci := 6) (fs := [.null, .null, .int 0, .int 0, .null, .null]) inB6 tyX6 tyX6_ok rfl t_117 t_41 t_2 dfX6 (by decide) (by decide) dX2_init_31 (fun q6v => ?_)
  show J g mX2_init (RM 3 153 3224) _ 21 416 (w0 ++ ((b, .inr (2, [.ref q1v, .int (nI 0)])) :: (q1v, .inl (g.2.2 5, 8, .inr (.inr (.inr (.inr (va_up (fun _ => none) 0 (some q2v))))))) :: (bk3v ++ [(q6v, .inr (6, [.null, .null, .int 0, .int 0, .null, .null]))]))) 34 [some (.ref b), some (.int (nI 1))] [.ref q6v, .int (nI 1), .ref q1v]
  refine J.dup dX2_init_34 rfl ?_
  refine J.ctor (A := (b, .inr (2, [.ref q1v, .int (nI 0)])) :: (q1v, .inl (g.2.2 5, 8, .inr (.inr (.inr (.inr (va_up (fun _ => none) 0 (some q2v))))))) :: bk3v) cn_X6 rfl t_119 t_43 t_2 t_44 rfl ⟨by decide +kernel, by decide +kernel, by decide +kernel⟩ rfl ⟨by decide, by decide⟩ rfl dX2_init_35 ⟨by decide, by decide⟩ (fun bk7v hb8v => ?_)
  obtain ⟨_, hf9v⟩ := X6_first hb8v
  show J g mX2_init (RM 3 153 3224) _ 39 812 (w0 ++ ((b, .inr (2, [.ref q1v, .int (nI 0)])) :: (q1v, .inl (g.2.2 5, 8, .inr (.inr (.inr (.inr (va_up (fun _ => none) 0 (some q2v))))))) :: (bk3v ++ bk7v))) 38 [some (.ref b), some (.int (nI 1))] [.ref q6v, .int (nI 1), .ref q1v]
  refine J.qastX (i := 1) (iv := ((b, .inr (2, [.ref q1v, .int (nI 0)])) :: (q1v, .inl (g.2.2 5, 8, .inr (.inr (.inr (.inr (va_up (fun _ => none) 0 (some q2v))))))) :: bk3v : va_W).length + 0) (ci := 6) (t := 5) (q := (RX6, TX6, 6)) rfl rfl (ap_get (a := ((b, .inr (2, [.ref q1v, .int (nI 0)])) :: (q1v, .inl (g.2.2 5, 8, .inr (.inr (.inr (.inr (va_up (fun _ => none) 0 (some q2v))))))) :: bk3v : va_W)) hf9v) rfl (by decide) (by decide) dX2_init_38 ?_
  show J g mX2_init (RM 3 153 3224) _ 39 812 (w0 ++ ((b, .inr (2, [.ref q1v, .int (nI 0)])) :: (q1v, .inl (g.2.2 5, 8, .inr (.inr (.inr (.inr (va_up (va_up (fun _ => none) 0 (some q2v)) 1 (some q6v))))))) :: (bk3v ++ bk7v))) 39 [some (.ref b), some (.int (nI 1))] []
  refine J.ii1 (z := 1) dX2_init_39 (by decide) (by decide) rfl ?_
  show J g mX2_init (RM 3 153 3224) _ 39 812 (w0 ++ ((b, .inr (2, [.ref q1v, .int (nI 0)])) :: (q1v, .inl (g.2.2 5, 8, .inr (.inr (.inr (.inr (va_up (va_up (fun _ => none) 0 (some q2v)) 1 (some q6v))))))) :: (bk3v ++ bk7v))) 42 [some (.ref b), some (.int (nI 2))] []
  refine J.goto (tgt := 20) dX2_init_42 (by decide) ?_
  refine J.il1 dX2_init_20 ?_
  refine J.bipush (v := nI 8) dX2_init_21 (by decide) ?_
  refine J.icmp_geN (tgt := 45) dX2_init_23 (by decide) (by decide) (by decide) (fun q => absurd q (by decide)) (fun _ => ?_)
  refine J.al0 dX2_init_26 ?_
  refine J.getX (C := RX2) (T := TX2) (N := 2) (ci := 2) (kf := 0) (i := 0) (v := .ref q1v) inB2 rfl (by decide) t_120 rfl rfl dX2_init_27 ?_
  refine J.il1 dX2_init_30 ?_
  refine J.newX (C := RX6) (T := TX6) (N := 6) (ci := 6) (fs := [.null, .null, .int 0, .int 0, .null, .null]) inB6 tyX6 tyX6_ok rfl t_117 t_41 t_2 dfX6 (by decide) (by decide) dX2_init_31 (fun q10v => ?_)
  show J g mX2_init (RM 3 153 3224) _ 40 818 (w0 ++ ((b, .inr (2, [.ref q1v, .int (nI 0)])) :: (q1v, .inl (g.2.2 5, 8, .inr (.inr (.inr (.inr (va_up (va_up (fun _ => none) 0 (some q2v)) 1 (some q6v))))))) :: ((bk3v ++ bk7v) ++ [(q10v, .inr (6, [.null, .null, .int 0, .int 0, .null, .null]))]))) 34 [some (.ref b), some (.int (nI 2))] [.ref q10v, .int (nI 2), .ref q1v]
  refine J.dup dX2_init_34 rfl ?_
  refine J.ctor (A := (b, .inr (2, [.ref q1v, .int (nI 0)])) :: (q1v, .inl (g.2.2 5, 8, .inr (.inr (.inr (.inr (va_up (va_up (fun _ => none) 0 (some q2v)) 1 (some q6v))))))) :: (bk3v ++ bk7v)) cn_X6 rfl t_119 t_43 t_2 t_44 rfl ⟨by decide +kernel, by decide +kernel, by decide +kernel⟩ rfl ⟨by decide, by decide⟩ rfl dX2_init_35 ⟨by decide, by decide⟩ (fun bk11v hb12v => ?_)
  obtain ⟨_, hf13v⟩ := X6_first hb12v
  show J g mX2_init (RM 3 153 3224) _ 58 1214 (w0 ++ ((b, .inr (2, [.ref q1v, .int (nI 0)])) :: (q1v, .inl (g.2.2 5, 8, .inr (.inr (.inr (.inr (va_up (va_up (fun _ => none) 0 (some q2v)) 1 (some q6v))))))) :: ((bk3v ++ bk7v) ++ bk11v))) 38 [some (.ref b), some (.int (nI 2))] [.ref q10v, .int (nI 2), .ref q1v]
  refine J.qastX (i := 1) (iv := ((b, .inr (2, [.ref q1v, .int (nI 0)])) :: (q1v, .inl (g.2.2 5, 8, .inr (.inr (.inr (.inr (va_up (va_up (fun _ => none) 0 (some q2v)) 1 (some q6v))))))) :: (bk3v ++ bk7v) : va_W).length + 0) (ci := 6) (t := 5) (q := (RX6, TX6, 6)) rfl rfl (ap_get (a := ((b, .inr (2, [.ref q1v, .int (nI 0)])) :: (q1v, .inl (g.2.2 5, 8, .inr (.inr (.inr (.inr (va_up (va_up (fun _ => none) 0 (some q2v)) 1 (some q6v))))))) :: (bk3v ++ bk7v) : va_W)) hf13v) rfl (by decide) (by decide) dX2_init_38 ?_
  show J g mX2_init (RM 3 153 3224) _ 58 1214 (w0 ++ ((b, .inr (2, [.ref q1v, .int (nI 0)])) :: (q1v, .inl (g.2.2 5, 8, .inr (.inr (.inr (.inr (va_up (va_up (va_up (fun _ => none) 0 (some q2v)) 1 (some q6v)) 2 (some q10v))))))) :: ((bk3v ++ bk7v) ++ bk11v))) 39 [some (.ref b), some (.int (nI 2))] []
  refine J.ii1 (z := 1) dX2_init_39 (by decide) (by decide) rfl ?_
  show J g mX2_init (RM 3 153 3224) _ 58 1214 (w0 ++ ((b, .inr (2, [.ref q1v, .int (nI 0)])) :: (q1v, .inl (g.2.2 5, 8, .inr (.inr (.inr (.inr (va_up (va_up (va_up (fun _ => none) 0 (some q2v)) 1 (some q6v)) 2 (some q10v))))))) :: ((bk3v ++ bk7v) ++ bk11v))) 42 [some (.ref b), some (.int (nI 3))] []
  refine J.goto (tgt := 20) dX2_init_42 (by decide) ?_
  refine J.il1 dX2_init_20 ?_
  refine J.bipush (v := nI 8) dX2_init_21 (by decide) ?_
  refine J.icmp_geN (tgt := 45) dX2_init_23 (by decide) (by decide) (by decide) (fun q => absurd q (by decide)) (fun _ => ?_)
  refine J.al0 dX2_init_26 ?_
  refine J.getX (C := RX2) (T := TX2) (N := 2) (ci := 2) (kf := 0) (i := 0) (v := .ref q1v) inB2 rfl (by decide) t_120 rfl rfl dX2_init_27 ?_
  refine J.il1 dX2_init_30 ?_
  refine J.newX (C := RX6) (T := TX6) (N := 6) (ci := 6) (fs := [.null, .null, .int 0, .int 0, .null, .null]) inB6 tyX6 tyX6_ok rfl t_117 t_41 t_2 dfX6 (by decide) (by decide) dX2_init_31 (fun q14v => ?_)
  show J g mX2_init (RM 3 153 3224) _ 59 1220 (w0 ++ ((b, .inr (2, [.ref q1v, .int (nI 0)])) :: (q1v, .inl (g.2.2 5, 8, .inr (.inr (.inr (.inr (va_up (va_up (va_up (fun _ => none) 0 (some q2v)) 1 (some q6v)) 2 (some q10v))))))) :: (((bk3v ++ bk7v) ++ bk11v) ++ [(q14v, .inr (6, [.null, .null, .int 0, .int 0, .null, .null]))]))) 34 [some (.ref b), some (.int (nI 3))] [.ref q14v, .int (nI 3), .ref q1v]
  refine J.dup dX2_init_34 rfl ?_
  refine J.ctor (A := (b, .inr (2, [.ref q1v, .int (nI 0)])) :: (q1v, .inl (g.2.2 5, 8, .inr (.inr (.inr (.inr (va_up (va_up (va_up (fun _ => none) 0 (some q2v)) 1 (some q6v)) 2 (some q10v))))))) :: ((bk3v ++ bk7v) ++ bk11v)) cn_X6 rfl t_119 t_43 t_2 t_44 rfl ⟨by decide +kernel, by decide +kernel, by decide +kernel⟩ rfl ⟨by decide, by decide⟩ rfl dX2_init_35 ⟨by decide, by decide⟩ (fun bk15v hb16v => ?_)
  obtain ⟨_, hf17v⟩ := X6_first hb16v
  show J g mX2_init (RM 3 153 3224) _ 77 1616 (w0 ++ ((b, .inr (2, [.ref q1v, .int (nI 0)])) :: (q1v, .inl (g.2.2 5, 8, .inr (.inr (.inr (.inr (va_up (va_up (va_up (fun _ => none) 0 (some q2v)) 1 (some q6v)) 2 (some q10v))))))) :: (((bk3v ++ bk7v) ++ bk11v) ++ bk15v))) 38 [some (.ref b), some (.int (nI 3))] [.ref q14v, .int (nI 3), .ref q1v]
  refine J.qastX (i := 1) (iv := ((b, .inr (2, [.ref q1v, .int (nI 0)])) :: (q1v, .inl (g.2.2 5, 8, .inr (.inr (.inr (.inr (va_up (va_up (va_up (fun _ => none) 0 (some q2v)) 1 (some q6v)) 2 (some q10v))))))) :: ((bk3v ++ bk7v) ++ bk11v) : va_W).length + 0) (ci := 6) (t := 5) (q := (RX6, TX6, 6)) rfl rfl (ap_get (a := ((b, .inr (2, [.ref q1v, .int (nI 0)])) :: (q1v, .inl (g.2.2 5, 8, .inr (.inr (.inr (.inr (va_up (va_up (va_up (fun _ => none) 0 (some q2v)) 1 (some q6v)) 2 (some q10v))))))) :: ((bk3v ++ bk7v) ++ bk11v) : va_W)) hf17v) rfl (by decide) (by decide) dX2_init_38 ?_
  show J g mX2_init (RM 3 153 3224) _ 77 1616 (w0 ++ ((b, .inr (2, [.ref q1v, .int (nI 0)])) :: (q1v, .inl (g.2.2 5, 8, .inr (.inr (.inr (.inr (va_up (va_up (va_up (va_up (fun _ => none) 0 (some q2v)) 1 (some q6v)) 2 (some q10v)) 3 (some q14v))))))) :: (((bk3v ++ bk7v) ++ bk11v) ++ bk15v))) 39 [some (.ref b), some (.int (nI 3))] []
  refine J.ii1 (z := 1) dX2_init_39 (by decide) (by decide) rfl ?_
  show J g mX2_init (RM 3 153 3224) _ 77 1616 (w0 ++ ((b, .inr (2, [.ref q1v, .int (nI 0)])) :: (q1v, .inl (g.2.2 5, 8, .inr (.inr (.inr (.inr (va_up (va_up (va_up (va_up (fun _ => none) 0 (some q2v)) 1 (some q6v)) 2 (some q10v)) 3 (some q14v))))))) :: (((bk3v ++ bk7v) ++ bk11v) ++ bk15v))) 42 [some (.ref b), some (.int (nI 4))] []
  refine J.goto (tgt := 20) dX2_init_42 (by decide) ?_
  refine J.il1 dX2_init_20 ?_
  refine J.bipush (v := nI 8) dX2_init_21 (by decide) ?_
  refine J.icmp_geN (tgt := 45) dX2_init_23 (by decide) (by decide) (by decide) (fun q => absurd q (by decide)) (fun _ => ?_)
  refine J.al0 dX2_init_26 ?_
  refine J.getX (C := RX2) (T := TX2) (N := 2) (ci := 2) (kf := 0) (i := 0) (v := .ref q1v) inB2 rfl (by decide) t_120 rfl rfl dX2_init_27 ?_
  refine J.il1 dX2_init_30 ?_
  refine J.newX (C := RX6) (T := TX6) (N := 6) (ci := 6) (fs := [.null, .null, .int 0, .int 0, .null, .null]) inB6 tyX6 tyX6_ok rfl t_117 t_41 t_2 dfX6 (by decide) (by decide) dX2_init_31 (fun q18v => ?_)
  show J g mX2_init (RM 3 153 3224) _ 78 1622 (w0 ++ ((b, .inr (2, [.ref q1v, .int (nI 0)])) :: (q1v, .inl (g.2.2 5, 8, .inr (.inr (.inr (.inr (va_up (va_up (va_up (va_up (fun _ => none) 0 (some q2v)) 1 (some q6v)) 2 (some q10v)) 3 (some q14v))))))) :: ((((bk3v ++ bk7v) ++ bk11v) ++ bk15v) ++ [(q18v, .inr (6, [.null, .null, .int 0, .int 0, .null, .null]))]))) 34 [some (.ref b), some (.int (nI 4))] [.ref q18v, .int (nI 4), .ref q1v]
  refine J.dup dX2_init_34 rfl ?_
  refine J.ctor (A := (b, .inr (2, [.ref q1v, .int (nI 0)])) :: (q1v, .inl (g.2.2 5, 8, .inr (.inr (.inr (.inr (va_up (va_up (va_up (va_up (fun _ => none) 0 (some q2v)) 1 (some q6v)) 2 (some q10v)) 3 (some q14v))))))) :: (((bk3v ++ bk7v) ++ bk11v) ++ bk15v)) cn_X6 rfl t_119 t_43 t_2 t_44 rfl ⟨by decide +kernel, by decide +kernel, by decide +kernel⟩ rfl ⟨by decide, by decide⟩ rfl dX2_init_35 ⟨by decide, by decide⟩ (fun bk19v hb20v => ?_)
  obtain ⟨_, hf21v⟩ := X6_first hb20v
  show J g mX2_init (RM 3 153 3224) _ 96 2018 (w0 ++ ((b, .inr (2, [.ref q1v, .int (nI 0)])) :: (q1v, .inl (g.2.2 5, 8, .inr (.inr (.inr (.inr (va_up (va_up (va_up (va_up (fun _ => none) 0 (some q2v)) 1 (some q6v)) 2 (some q10v)) 3 (some q14v))))))) :: ((((bk3v ++ bk7v) ++ bk11v) ++ bk15v) ++ bk19v))) 38 [some (.ref b), some (.int (nI 4))] [.ref q18v, .int (nI 4), .ref q1v]
  refine J.qastX (i := 1) (iv := ((b, .inr (2, [.ref q1v, .int (nI 0)])) :: (q1v, .inl (g.2.2 5, 8, .inr (.inr (.inr (.inr (va_up (va_up (va_up (va_up (fun _ => none) 0 (some q2v)) 1 (some q6v)) 2 (some q10v)) 3 (some q14v))))))) :: (((bk3v ++ bk7v) ++ bk11v) ++ bk15v) : va_W).length + 0) (ci := 6) (t := 5) (q := (RX6, TX6, 6)) rfl rfl (ap_get (a := ((b, .inr (2, [.ref q1v, .int (nI 0)])) :: (q1v, .inl (g.2.2 5, 8, .inr (.inr (.inr (.inr (va_up (va_up (va_up (va_up (fun _ => none) 0 (some q2v)) 1 (some q6v)) 2 (some q10v)) 3 (some q14v))))))) :: (((bk3v ++ bk7v) ++ bk11v) ++ bk15v) : va_W)) hf21v) rfl (by decide) (by decide) dX2_init_38 ?_
  show J g mX2_init (RM 3 153 3224) _ 96 2018 (w0 ++ ((b, .inr (2, [.ref q1v, .int (nI 0)])) :: (q1v, .inl (g.2.2 5, 8, .inr (.inr (.inr (.inr (va_up (va_up (va_up (va_up (va_up (fun _ => none) 0 (some q2v)) 1 (some q6v)) 2 (some q10v)) 3 (some q14v)) 4 (some q18v))))))) :: ((((bk3v ++ bk7v) ++ bk11v) ++ bk15v) ++ bk19v))) 39 [some (.ref b), some (.int (nI 4))] []
  refine J.ii1 (z := 1) dX2_init_39 (by decide) (by decide) rfl ?_
  show J g mX2_init (RM 3 153 3224) _ 96 2018 (w0 ++ ((b, .inr (2, [.ref q1v, .int (nI 0)])) :: (q1v, .inl (g.2.2 5, 8, .inr (.inr (.inr (.inr (va_up (va_up (va_up (va_up (va_up (fun _ => none) 0 (some q2v)) 1 (some q6v)) 2 (some q10v)) 3 (some q14v)) 4 (some q18v))))))) :: ((((bk3v ++ bk7v) ++ bk11v) ++ bk15v) ++ bk19v))) 42 [some (.ref b), some (.int (nI 5))] []
  refine J.goto (tgt := 20) dX2_init_42 (by decide) ?_
  refine J.il1 dX2_init_20 ?_
  refine J.bipush (v := nI 8) dX2_init_21 (by decide) ?_
  refine J.icmp_geN (tgt := 45) dX2_init_23 (by decide) (by decide) (by decide) (fun q => absurd q (by decide)) (fun _ => ?_)
  refine J.al0 dX2_init_26 ?_
  refine J.getX (C := RX2) (T := TX2) (N := 2) (ci := 2) (kf := 0) (i := 0) (v := .ref q1v) inB2 rfl (by decide) t_120 rfl rfl dX2_init_27 ?_
  refine J.il1 dX2_init_30 ?_
  refine J.newX (C := RX6) (T := TX6) (N := 6) (ci := 6) (fs := [.null, .null, .int 0, .int 0, .null, .null]) inB6 tyX6 tyX6_ok rfl t_117 t_41 t_2 dfX6 (by decide) (by decide) dX2_init_31 (fun q22v => ?_)
  show J g mX2_init (RM 3 153 3224) _ 97 2024 (w0 ++ ((b, .inr (2, [.ref q1v, .int (nI 0)])) :: (q1v, .inl (g.2.2 5, 8, .inr (.inr (.inr (.inr (va_up (va_up (va_up (va_up (va_up (fun _ => none) 0 (some q2v)) 1 (some q6v)) 2 (some q10v)) 3 (some q14v)) 4 (some q18v))))))) :: (((((bk3v ++ bk7v) ++ bk11v) ++ bk15v) ++ bk19v) ++ [(q22v, .inr (6, [.null, .null, .int 0, .int 0, .null, .null]))]))) 34 [some (.ref b), some (.int (nI 5))] [.ref q22v, .int (nI 5), .ref q1v]
  refine J.dup dX2_init_34 rfl ?_
  refine J.ctor (A := (b, .inr (2, [.ref q1v, .int (nI 0)])) :: (q1v, .inl (g.2.2 5, 8, .inr (.inr (.inr (.inr (va_up (va_up (va_up (va_up (va_up (fun _ => none) 0 (some q2v)) 1 (some q6v)) 2 (some q10v)) 3 (some q14v)) 4 (some q18v))))))) :: ((((bk3v ++ bk7v) ++ bk11v) ++ bk15v) ++ bk19v)) cn_X6 rfl t_119 t_43 t_2 t_44 rfl ⟨by decide +kernel, by decide +kernel, by decide +kernel⟩ rfl ⟨by decide, by decide⟩ rfl dX2_init_35 ⟨by decide, by decide⟩ (fun bk23v hb24v => ?_)
  obtain ⟨_, hf25v⟩ := X6_first hb24v
  show J g mX2_init (RM 3 153 3224) _ 115 2420 (w0 ++ ((b, .inr (2, [.ref q1v, .int (nI 0)])) :: (q1v, .inl (g.2.2 5, 8, .inr (.inr (.inr (.inr (va_up (va_up (va_up (va_up (va_up (fun _ => none) 0 (some q2v)) 1 (some q6v)) 2 (some q10v)) 3 (some q14v)) 4 (some q18v))))))) :: (((((bk3v ++ bk7v) ++ bk11v) ++ bk15v) ++ bk19v) ++ bk23v))) 38 [some (.ref b), some (.int (nI 5))] [.ref q22v, .int (nI 5), .ref q1v]
  refine J.qastX (i := 1) (iv := ((b, .inr (2, [.ref q1v, .int (nI 0)])) :: (q1v, .inl (g.2.2 5, 8, .inr (.inr (.inr (.inr (va_up (va_up (va_up (va_up (va_up (fun _ => none) 0 (some q2v)) 1 (some q6v)) 2 (some q10v)) 3 (some q14v)) 4 (some q18v))))))) :: ((((bk3v ++ bk7v) ++ bk11v) ++ bk15v) ++ bk19v) : va_W).length + 0) (ci := 6) (t := 5) (q := (RX6, TX6, 6)) rfl rfl (ap_get (a := ((b, .inr (2, [.ref q1v, .int (nI 0)])) :: (q1v, .inl (g.2.2 5, 8, .inr (.inr (.inr (.inr (va_up (va_up (va_up (va_up (va_up (fun _ => none) 0 (some q2v)) 1 (some q6v)) 2 (some q10v)) 3 (some q14v)) 4 (some q18v))))))) :: ((((bk3v ++ bk7v) ++ bk11v) ++ bk15v) ++ bk19v) : va_W)) hf25v) rfl (by decide) (by decide) dX2_init_38 ?_
  show J g mX2_init (RM 3 153 3224) _ 115 2420 (w0 ++ ((b, .inr (2, [.ref q1v, .int (nI 0)])) :: (q1v, .inl (g.2.2 5, 8, .inr (.inr (.inr (.inr (va_up (va_up (va_up (va_up (va_up (va_up (fun _ => none) 0 (some q2v)) 1 (some q6v)) 2 (some q10v)) 3 (some q14v)) 4 (some q18v)) 5 (some q22v))))))) :: (((((bk3v ++ bk7v) ++ bk11v) ++ bk15v) ++ bk19v) ++ bk23v))) 39 [some (.ref b), some (.int (nI 5))] []
  refine J.ii1 (z := 1) dX2_init_39 (by decide) (by decide) rfl ?_
  show J g mX2_init (RM 3 153 3224) _ 115 2420 (w0 ++ ((b, .inr (2, [.ref q1v, .int (nI 0)])) :: (q1v, .inl (g.2.2 5, 8, .inr (.inr (.inr (.inr (va_up (va_up (va_up (va_up (va_up (va_up (fun _ => none) 0 (some q2v)) 1 (some q6v)) 2 (some q10v)) 3 (some q14v)) 4 (some q18v)) 5 (some q22v))))))) :: (((((bk3v ++ bk7v) ++ bk11v) ++ bk15v) ++ bk19v) ++ bk23v))) 42 [some (.ref b), some (.int (nI 6))] []
  refine J.goto (tgt := 20) dX2_init_42 (by decide) ?_
  refine J.il1 dX2_init_20 ?_
  refine J.bipush (v := nI 8) dX2_init_21 (by decide) ?_
  refine J.icmp_geN (tgt := 45) dX2_init_23 (by decide) (by decide) (by decide) (fun q => absurd q (by decide)) (fun _ => ?_)
  refine J.al0 dX2_init_26 ?_
  refine J.getX (C := RX2) (T := TX2) (N := 2) (ci := 2) (kf := 0) (i := 0) (v := .ref q1v) inB2 rfl (by decide) t_120 rfl rfl dX2_init_27 ?_
  refine J.il1 dX2_init_30 ?_
  refine J.newX (C := RX6) (T := TX6) (N := 6) (ci := 6) (fs := [.null, .null, .int 0, .int 0, .null, .null]) inB6 tyX6 tyX6_ok rfl t_117 t_41 t_2 dfX6 (by decide) (by decide) dX2_init_31 (fun q26v => ?_)
  show J g mX2_init (RM 3 153 3224) _ 116 2426 (w0 ++ ((b, .inr (2, [.ref q1v, .int (nI 0)])) :: (q1v, .inl (g.2.2 5, 8, .inr (.inr (.inr (.inr (va_up (va_up (va_up (va_up (va_up (va_up (fun _ => none) 0 (some q2v)) 1 (some q6v)) 2 (some q10v)) 3 (some q14v)) 4 (some q18v)) 5 (some q22v))))))) :: ((((((bk3v ++ bk7v) ++ bk11v) ++ bk15v) ++ bk19v) ++ bk23v) ++ [(q26v, .inr (6, [.null, .null, .int 0, .int 0, .null, .null]))]))) 34 [some (.ref b), some (.int (nI 6))] [.ref q26v, .int (nI 6), .ref q1v]
  refine J.dup dX2_init_34 rfl ?_
  refine J.ctor (A := (b, .inr (2, [.ref q1v, .int (nI 0)])) :: (q1v, .inl (g.2.2 5, 8, .inr (.inr (.inr (.inr (va_up (va_up (va_up (va_up (va_up (va_up (fun _ => none) 0 (some q2v)) 1 (some q6v)) 2 (some q10v)) 3 (some q14v)) 4 (some q18v)) 5 (some q22v))))))) :: (((((bk3v ++ bk7v) ++ bk11v) ++ bk15v) ++ bk19v) ++ bk23v)) cn_X6 rfl t_119 t_43 t_2 t_44 rfl ⟨by decide +kernel, by decide +kernel, by decide +kernel⟩ rfl ⟨by decide, by decide⟩ rfl dX2_init_35 ⟨by decide, by decide⟩ (fun bk27v hb28v => ?_)
  obtain ⟨_, hf29v⟩ := X6_first hb28v
  show J g mX2_init (RM 3 153 3224) _ 134 2822 (w0 ++ ((b, .inr (2, [.ref q1v, .int (nI 0)])) :: (q1v, .inl (g.2.2 5, 8, .inr (.inr (.inr (.inr (va_up (va_up (va_up (va_up (va_up (va_up (fun _ => none) 0 (some q2v)) 1 (some q6v)) 2 (some q10v)) 3 (some q14v)) 4 (some q18v)) 5 (some q22v))))))) :: ((((((bk3v ++ bk7v) ++ bk11v) ++ bk15v) ++ bk19v) ++ bk23v) ++ bk27v))) 38 [some (.ref b), some (.int (nI 6))] [.ref q26v, .int (nI 6), .ref q1v]
  refine J.qastX (i := 1) (iv := ((b, .inr (2, [.ref q1v, .int (nI 0)])) :: (q1v, .inl (g.2.2 5, 8, .inr (.inr (.inr (.inr (va_up (va_up (va_up (va_up (va_up (va_up (fun _ => none) 0 (some q2v)) 1 (some q6v)) 2 (some q10v)) 3 (some q14v)) 4 (some q18v)) 5 (some q22v))))))) :: (((((bk3v ++ bk7v) ++ bk11v) ++ bk15v) ++ bk19v) ++ bk23v) : va_W).length + 0) (ci := 6) (t := 5) (q := (RX6, TX6, 6)) rfl rfl (ap_get (a := ((b, .inr (2, [.ref q1v, .int (nI 0)])) :: (q1v, .inl (g.2.2 5, 8, .inr (.inr (.inr (.inr (va_up (va_up (va_up (va_up (va_up (va_up (fun _ => none) 0 (some q2v)) 1 (some q6v)) 2 (some q10v)) 3 (some q14v)) 4 (some q18v)) 5 (some q22v))))))) :: (((((bk3v ++ bk7v) ++ bk11v) ++ bk15v) ++ bk19v) ++ bk23v) : va_W)) hf29v) rfl (by decide) (by decide) dX2_init_38 ?_
  show J g mX2_init (RM 3 153 3224) _ 134 2822 (w0 ++ ((b, .inr (2, [.ref q1v, .int (nI 0)])) :: (q1v, .inl (g.2.2 5, 8, .inr (.inr (.inr (.inr (va_up (va_up (va_up (va_up (va_up (va_up (va_up (fun _ => none) 0 (some q2v)) 1 (some q6v)) 2 (some q10v)) 3 (some q14v)) 4 (some q18v)) 5 (some q22v)) 6 (some q26v))))))) :: ((((((bk3v ++ bk7v) ++ bk11v) ++ bk15v) ++ bk19v) ++ bk23v) ++ bk27v))) 39 [some (.ref b), some (.int (nI 6))] []
  refine J.ii1 (z := 1) dX2_init_39 (by decide) (by decide) rfl ?_
  show J g mX2_init (RM 3 153 3224) _ 134 2822 (w0 ++ ((b, .inr (2, [.ref q1v, .int (nI 0)])) :: (q1v, .inl (g.2.2 5, 8, .inr (.inr (.inr (.inr (va_up (va_up (va_up (va_up (va_up (va_up (va_up (fun _ => none) 0 (some q2v)) 1 (some q6v)) 2 (some q10v)) 3 (some q14v)) 4 (some q18v)) 5 (some q22v)) 6 (some q26v))))))) :: ((((((bk3v ++ bk7v) ++ bk11v) ++ bk15v) ++ bk19v) ++ bk23v) ++ bk27v))) 42 [some (.ref b), some (.int (nI 7))] []
  refine J.goto (tgt := 20) dX2_init_42 (by decide) ?_
  refine J.il1 dX2_init_20 ?_
  refine J.bipush (v := nI 8) dX2_init_21 (by decide) ?_
  refine J.icmp_geN (tgt := 45) dX2_init_23 (by decide) (by decide) (by decide) (fun q => absurd q (by decide)) (fun _ => ?_)
  refine J.al0 dX2_init_26 ?_
  refine J.getX (C := RX2) (T := TX2) (N := 2) (ci := 2) (kf := 0) (i := 0) (v := .ref q1v) inB2 rfl (by decide) t_120 rfl rfl dX2_init_27 ?_
  refine J.il1 dX2_init_30 ?_
  refine J.newX (C := RX6) (T := TX6) (N := 6) (ci := 6) (fs := [.null, .null, .int 0, .int 0, .null, .null]) inB6 tyX6 tyX6_ok rfl t_117 t_41 t_2 dfX6 (by decide) (by decide) dX2_init_31 (fun q30v => ?_)
  show J g mX2_init (RM 3 153 3224) _ 135 2828 (w0 ++ ((b, .inr (2, [.ref q1v, .int (nI 0)])) :: (q1v, .inl (g.2.2 5, 8, .inr (.inr (.inr (.inr (va_up (va_up (va_up (va_up (va_up (va_up (va_up (fun _ => none) 0 (some q2v)) 1 (some q6v)) 2 (some q10v)) 3 (some q14v)) 4 (some q18v)) 5 (some q22v)) 6 (some q26v))))))) :: (((((((bk3v ++ bk7v) ++ bk11v) ++ bk15v) ++ bk19v) ++ bk23v) ++ bk27v) ++ [(q30v, .inr (6, [.null, .null, .int 0, .int 0, .null, .null]))]))) 34 [some (.ref b), some (.int (nI 7))] [.ref q30v, .int (nI 7), .ref q1v]
  refine J.dup dX2_init_34 rfl ?_
  refine J.ctor (A := (b, .inr (2, [.ref q1v, .int (nI 0)])) :: (q1v, .inl (g.2.2 5, 8, .inr (.inr (.inr (.inr (va_up (va_up (va_up (va_up (va_up (va_up (va_up (fun _ => none) 0 (some q2v)) 1 (some q6v)) 2 (some q10v)) 3 (some q14v)) 4 (some q18v)) 5 (some q22v)) 6 (some q26v))))))) :: ((((((bk3v ++ bk7v) ++ bk11v) ++ bk15v) ++ bk19v) ++ bk23v) ++ bk27v)) cn_X6 rfl t_119 t_43 t_2 t_44 rfl ⟨by decide +kernel, by decide +kernel, by decide +kernel⟩ rfl ⟨by decide, by decide⟩ rfl dX2_init_35 ⟨by decide, by decide⟩ (fun bk31v hb32v => ?_)
  obtain ⟨_, hf33v⟩ := X6_first hb32v
  show J g mX2_init (RM 3 153 3224) _ 153 3224 (w0 ++ ((b, .inr (2, [.ref q1v, .int (nI 0)])) :: (q1v, .inl (g.2.2 5, 8, .inr (.inr (.inr (.inr (va_up (va_up (va_up (va_up (va_up (va_up (va_up (fun _ => none) 0 (some q2v)) 1 (some q6v)) 2 (some q10v)) 3 (some q14v)) 4 (some q18v)) 5 (some q22v)) 6 (some q26v))))))) :: (((((((bk3v ++ bk7v) ++ bk11v) ++ bk15v) ++ bk19v) ++ bk23v) ++ bk27v) ++ bk31v))) 38 [some (.ref b), some (.int (nI 7))] [.ref q30v, .int (nI 7), .ref q1v]
  refine J.qastX (i := 1) (iv := ((b, .inr (2, [.ref q1v, .int (nI 0)])) :: (q1v, .inl (g.2.2 5, 8, .inr (.inr (.inr (.inr (va_up (va_up (va_up (va_up (va_up (va_up (va_up (fun _ => none) 0 (some q2v)) 1 (some q6v)) 2 (some q10v)) 3 (some q14v)) 4 (some q18v)) 5 (some q22v)) 6 (some q26v))))))) :: ((((((bk3v ++ bk7v) ++ bk11v) ++ bk15v) ++ bk19v) ++ bk23v) ++ bk27v) : va_W).length + 0) (ci := 6) (t := 5) (q := (RX6, TX6, 6)) rfl rfl (ap_get (a := ((b, .inr (2, [.ref q1v, .int (nI 0)])) :: (q1v, .inl (g.2.2 5, 8, .inr (.inr (.inr (.inr (va_up (va_up (va_up (va_up (va_up (va_up (va_up (fun _ => none) 0 (some q2v)) 1 (some q6v)) 2 (some q10v)) 3 (some q14v)) 4 (some q18v)) 5 (some q22v)) 6 (some q26v))))))) :: ((((((bk3v ++ bk7v) ++ bk11v) ++ bk15v) ++ bk19v) ++ bk23v) ++ bk27v) : va_W)) hf33v) rfl (by decide) (by decide) dX2_init_38 ?_
  show J g mX2_init (RM 3 153 3224) _ 153 3224 (w0 ++ ((b, .inr (2, [.ref q1v, .int (nI 0)])) :: (q1v, .inl (g.2.2 5, 8, .inr (.inr (.inr (.inr (va_up (va_up (va_up (va_up (va_up (va_up (va_up (va_up (fun _ => none) 0 (some q2v)) 1 (some q6v)) 2 (some q10v)) 3 (some q14v)) 4 (some q18v)) 5 (some q22v)) 6 (some q26v)) 7 (some q30v))))))) :: (((((((bk3v ++ bk7v) ++ bk11v) ++ bk15v) ++ bk19v) ++ bk23v) ++ bk27v) ++ bk31v))) 39 [some (.ref b), some (.int (nI 7))] []
  refine J.ii1 (z := 1) dX2_init_39 (by decide) (by decide) rfl ?_
  show J g mX2_init (RM 3 153 3224) _ 153 3224 (w0 ++ ((b, .inr (2, [.ref q1v, .int (nI 0)])) :: (q1v, .inl (g.2.2 5, 8, .inr (.inr (.inr (.inr (va_up (va_up (va_up (va_up (va_up (va_up (va_up (va_up (fun _ => none) 0 (some q2v)) 1 (some q6v)) 2 (some q10v)) 3 (some q14v)) 4 (some q18v)) 5 (some q22v)) 6 (some q26v)) 7 (some q30v))))))) :: (((((((bk3v ++ bk7v) ++ bk11v) ++ bk15v) ++ bk19v) ++ bk23v) ++ bk27v) ++ bk31v))) 42 [some (.ref b), some (.int (nI 8))] []
  refine J.goto (tgt := 20) dX2_init_42 (by decide) ?_
  refine J.il1 dX2_init_20 ?_
  refine J.bipush (v := nI 8) dX2_init_21 (by decide) ?_
  refine J.icmp_geN (tgt := 45) dX2_init_23 (by decide) (by decide) (by decide) (fun _ => ?_) (fun q => absurd q (by decide))
  exact J.vretI rfl (by decide) (by decide) dX2_init_45 ⟨rfl, _, ⟨_, _, (fun j => [q2v, q6v, q10v, q14v, q18v, q22v, q26v, q30v].getD j 0), (fun j => [bk3v, bk7v, bk11v, bk15v, bk19v, bk23v, bk27v, bk31v].getD j []), eight hb4v hb8v hb12v hb16v hb20v hb24v hb28v hb32v, eight rfl rfl rfl rfl rfl rfl rfl rfl, rfl⟩, rfl⟩
