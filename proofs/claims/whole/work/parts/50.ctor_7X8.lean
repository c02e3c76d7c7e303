/-! ===== printed: constructors ===== -/
def PX8 (g : GP) (b : Nat) (blk : va_W) : Prop := ∃ (a1 a2 a3 a4 a5 a6 a7 a8 a9 : Nat) (m : Nat → Int32), (∀ k, k < 352 → m k = s0 32 k) ∧ blk = [(b, .inr (8, [.ref a1, .ref a2, .ref a3, .int 0, .ref a4, .int 0, .int 0, .int 0, .int 0, .ref a5, .ref a6, .int 0, .ref a7, .ref a8, .int 0, .int 0, .int 0, .int (-1), .ref a9, .int 0])), (a1, .inl (g.2.2 0, 352, .inl m)), (a2, .inl (g.2.2 0, 352, .inl (fun _ => 0))), (a3, .inl (g.2.2 0, 352, .inl (fun _ => 0))), (a4, .inl (g.2.2 0, 2816, .inl (fun _ => 0))), (a5, .inl (g.2.2 0, 6400, .inl (fun _ => 0))), (a6, .inl (g.2.2 0, 200, .inl (fun _ => 0))), (a7, .inl (g.2.2 0, 32, .inl (fun _ => 0))), (a8, .inl (g.2.2 2, 60, .inl (fun _ => 0))), (a9, .inl (g.2.2 2, 200, .inl (fun _ => 0)))]
set_option maxRecDepth 100000 in
set_option maxHeartbeats 8000000 in
theorem cn_X8 {g : GP} : CN g yX8_init mX8_init (RM 1 9 10764) 8 [.null, .null, .null, .int 0, .null, .int 0, .int 0, .int 0, .int 0, .null, .null, .int 0, .null, .null, .int 0, .int 0, .int 0, .int 0, .null, .int 0] (PX8 g) := by
  intro w0 b
  show CI g yX8_init mX8_init _ _ _ _
  refine CI.of (y := yX8_init) (l0 := [some (.ref b), none]) (by decide +kernel) rfl rfl (Nat.le_of_ble_eq_true rfl) rfl ?_
  show J g mX8_init (RM 1 9 10764) _ 0 0 (w0 ++ ([(b, .inr (8, [.null, .null, .null, .int 0, .null, .int 0, .int 0, .int 0, .int 0, .null, .null, .int 0, .null, .null, .int 0, .int 0, .int 0, .int 0, .null, .int 0]))])) 0 [some (.ref b), none] []
  refine J.al0 dX8_init_0 ?_
  refine J.obj to_975 (by decide) (by decide) dX8_init_1 ?_
  show J g mX8_init (RM 1 9 10764) _ 0 0 (w0 ++ ([(b, .inr (8, [.null, .null, .null, .int 0, .null, .int 0, .int 0, .int 0, .int 0, .null, .null, .int 0, .null, .null, .int 0, .int 0, .int 0, .int 0, .null, .int 0]))])) 4 [some (.ref b), none] []
  refine J.al0 dX8_init_4 ?_
  refine J.sipush (v := nI 352) dX8_init_5 (by decide) ?_
  refine J.newA (ty := .int) (t := 0) (N := 352) (a0 := (352, .inl (fun _ => 0))) rfl rfl t_50 (fun _ => rfl) (by decide) (by decide) (by decide) (by decide) dX8_init_8 (fun q1v => ?_)
  show J g mX8_init (RM 1 9 10764) _ 1 352 (w0 ++ ([(b, .inr (8, [.null, .null, .null, .int 0, .null, .int 0, .int 0, .int 0, .int 0, .null, .null, .int 0, .null, .null, .int 0, .int 0, .int 0, .int 0, .null, .int 0])), (q1v, .inl (g.2.2 0, 352, .inl (fun _ => 0)))])) 10 [some (.ref b), none] [.ref q1v, .ref b]
  refine J.putXF (C := RX8) (T := TX8) (N := 20) (ci := 8) (kf := 0) (i := 0) (v := .ref q1v) (ty := tyX8 0) inB8 tyX8 tyX8_ok nmX8 rfl (by decide) t_978 rfl rfl rfl rfl (tyX8_ok 0 (by decide)) rfl rfl (Nat.le_of_ble_eq_true rfl) dX8_init_10 ?_
  show J g mX8_init (RM 1 9 10764) _ 1 352 (w0 ++ ([(b, .inr (8, [.ref q1v, .null, .null, .int 0, .null, .int 0, .int 0, .int 0, .int 0, .null, .null, .int 0, .null, .null, .int 0, .int 0, .int 0, .int 0, .null, .int 0])), (q1v, .inl (g.2.2 0, 352, .inl (fun _ => 0)))])) 13 [some (.ref b), none] []
  refine J.al0 dX8_init_13 ?_
  refine J.sipush (v := nI 352) dX8_init_14 (by decide) ?_
  refine J.newA (ty := .int) (t := 0) (N := 352) (a0 := (352, .inl (fun _ => 0))) rfl rfl t_50 (fun _ => rfl) (by decide) (by decide) (by decide) (by decide) dX8_init_17 (fun q2v => ?_)
  show J g mX8_init (RM 1 9 10764) _ 2 704 (w0 ++ ([(b, .inr (8, [.ref q1v, .null, .null, .int 0, .null, .int 0, .int 0, .int 0, .int 0, .null, .null, .int 0, .null, .null, .int 0, .int 0, .int 0, .int 0, .null, .int 0])), (q1v, .inl (g.2.2 0, 352, .inl (fun _ => 0))), (q2v, .inl (g.2.2 0, 352, .inl (fun _ => 0)))])) 19 [some (.ref b), none] [.ref q2v, .ref b]
  refine J.putXF (C := RX8) (T := TX8) (N := 20) (ci := 8) (kf := 1) (i := 0) (v := .ref q2v) (ty := tyX8 1) inB8 tyX8 tyX8_ok nmX8 rfl (by decide) t_979 rfl rfl rfl rfl (tyX8_ok 1 (by decide)) rfl rfl (Nat.le_of_ble_eq_true rfl) dX8_init_19 ?_
  show J g mX8_init (RM 1 9 10764) _ 2 704 (w0 ++ ([(b, .inr (8, [.ref q1v, .ref q2v, .null, .int 0, .null, .int 0, .int 0, .int 0, .int 0, .null, .null, .int 0, .null, .null, .int 0, .int 0, .int 0, .int 0, .null, .int 0])), (q1v, .inl (g.2.2 0, 352, .inl (fun _ => 0))), (q2v, .inl (g.2.2 0, 352, .inl (fun _ => 0)))])) 22 [some (.ref b), none] []
  refine J.al0 dX8_init_22 ?_
  refine J.sipush (v := nI 352) dX8_init_23 (by decide) ?_
  refine J.newA (ty := .int) (t := 0) (N := 352) (a0 := (352, .inl (fun _ => 0))) rfl rfl t_50 (fun _ => rfl) (by decide) (by decide) (by decide) (by decide) dX8_init_26 (fun q3v => ?_)
  show J g mX8_init (RM 1 9 10764) _ 3 1056 (w0 ++ ([(b, .inr (8, [.ref q1v, .ref q2v, .null, .int 0, .null, .int 0, .int 0, .int 0, .int 0, .null, .null, .int 0, .null, .null, .int 0, .int 0, .int 0, .int 0, .null, .int 0])), (q1v, .inl (g.2.2 0, 352, .inl (fun _ => 0))), (q2v, .inl (g.2.2 0, 352, .inl (fun _ => 0))), (q3v, .inl (g.2.2 0, 352, .inl (fun _ => 0)))])) 28 [some (.ref b), none] [.ref q3v, .ref b]
  refine J.putXF (C := RX8) (T := TX8) (N := 20) (ci := 8) (kf := 2) (i := 0) (v := .ref q3v) (ty := tyX8 2) inB8 tyX8 tyX8_ok nmX8 rfl (by decide) t_980 rfl rfl rfl rfl (tyX8_ok 2 (by decide)) rfl rfl (Nat.le_of_ble_eq_true rfl) dX8_init_28 ?_
  show J g mX8_init (RM 1 9 10764) _ 3 1056 (w0 ++ ([(b, .inr (8, [.ref q1v, .ref q2v, .ref q3v, .int 0, .null, .int 0, .int 0, .int 0, .int 0, .null, .null, .int 0, .null, .null, .int 0, .int 0, .int 0, .int 0, .null, .int 0])), (q1v, .inl (g.2.2 0, 352, .inl (fun _ => 0))), (q2v, .inl (g.2.2 0, 352, .inl (fun _ => 0))), (q3v, .inl (g.2.2 0, 352, .inl (fun _ => 0)))])) 31 [some (.ref b), none] []
  refine J.al0 dX8_init_31 ?_
  refine J.sipush (v := nI 2816) dX8_init_32 (by decide) ?_
  refine J.newA (ty := .int) (t := 0) (N := 2816) (a0 := (2816, .inl (fun _ => 0))) rfl rfl t_50 (fun _ => rfl) (by decide) (by decide) (by decide) (by decide) dX8_init_35 (fun q4v => ?_)
  show J g mX8_init (RM 1 9 10764) _ 4 3872 (w0 ++ ([(b, .inr (8, [.ref q1v, .ref q2v, .ref q3v, .int 0, .null, .int 0, .int 0, .int 0, .int 0, .null, .null, .int 0, .null, .null, .int 0, .int 0, .int 0, .int 0, .null, .int 0])), (q1v, .inl (g.2.2 0, 352, .inl (fun _ => 0))), (q2v, .inl (g.2.2 0, 352, .inl (fun _ => 0))), (q3v, .inl (g.2.2 0, 352, .inl (fun _ => 0))), (q4v, .inl (g.2.2 0, 2816, .inl (fun _ => 0)))])) 37 [some (.ref b), none] [.ref q4v, .ref b]
  refine J.putXF (C := RX8) (T := TX8) (N := 20) (ci := 8) (kf := 4) (i := 0) (v := .ref q4v) (ty := tyX8 4) inB8 tyX8 tyX8_ok nmX8 rfl (by decide) t_982 rfl rfl rfl rfl (tyX8_ok 4 (by decide)) rfl rfl (Nat.le_of_ble_eq_true rfl) dX8_init_37 ?_
  show J g mX8_init (RM 1 9 10764) _ 4 3872 (w0 ++ ([(b, .inr (8, [.ref q1v, .ref q2v, .ref q3v, .int 0, .ref q4v, .int 0, .int 0, .int 0, .int 0, .null, .null, .int 0, .null, .null, .int 0, .int 0, .int 0, .int 0, .null, .int 0])), (q1v, .inl (g.2.2 0, 352, .inl (fun _ => 0))), (q2v, .inl (g.2.2 0, 352, .inl (fun _ => 0))), (q3v, .inl (g.2.2 0, 352, .inl (fun _ => 0))), (q4v, .inl (g.2.2 0, 2816, .inl (fun _ => 0)))])) 40 [some (.ref b), none] []
  refine J.al0 dX8_init_40 ?_
  refine J.sipush (v := nI 6400) dX8_init_41 (by decide) ?_
  refine J.newA (ty := .int) (t := 0) (N := 6400) (a0 := (6400, .inl (fun _ => 0))) rfl rfl t_50 (fun _ => rfl) (by decide) (by decide) (by decide) (by decide) dX8_init_44 (fun q5v => ?_)
  show J g mX8_init (RM 1 9 10764) _ 5 10272 (w0 ++ ([(b, .inr (8, [.ref q1v, .ref q2v, .ref q3v, .int 0, .ref q4v, .int 0, .int 0, .int 0, .int 0, .null, .null, .int 0, .null, .null, .int 0, .int 0, .int 0, .int 0, .null, .int 0])), (q1v, .inl (g.2.2 0, 352, .inl (fun _ => 0))), (q2v, .inl (g.2.2 0, 352, .inl (fun _ => 0))), (q3v, .inl (g.2.2 0, 352, .inl (fun _ => 0))), (q4v, .inl (g.2.2 0, 2816, .inl (fun _ => 0))), (q5v, .inl (g.2.2 0, 6400, .inl (fun _ => 0)))])) 46 [some (.ref b), none] [.ref q5v, .ref b]
  refine J.putXF (C := RX8) (T := TX8) (N := 20) (ci := 8) (kf := 9) (i := 0) (v := .ref q5v) (ty := tyX8 9) inB8 tyX8 tyX8_ok nmX8 rfl (by decide) t_987 rfl rfl rfl rfl (tyX8_ok 9 (by decide)) rfl rfl (Nat.le_of_ble_eq_true rfl) dX8_init_46 ?_
  show J g mX8_init (RM 1 9 10764) _ 5 10272 (w0 ++ ([(b, .inr (8, [.ref q1v, .ref q2v, .ref q3v, .int 0, .ref q4v, .int 0, .int 0, .int 0, .int 0, .ref q5v, .null, .int 0, .null, .null, .int 0, .int 0, .int 0, .int 0, .null, .int 0])), (q1v, .inl (g.2.2 0, 352, .inl (fun _ => 0))), (q2v, .inl (g.2.2 0, 352, .inl (fun _ => 0))), (q3v, .inl (g.2.2 0, 352, .inl (fun _ => 0))), (q4v, .inl (g.2.2 0, 2816, .inl (fun _ => 0))), (q5v, .inl (g.2.2 0, 6400, .inl (fun _ => 0)))])) 49 [some (.ref b), none] []
  refine J.al0 dX8_init_49 ?_
  refine J.sipush (v := nI 200) dX8_init_50 (by decide) ?_
  refine J.newA (ty := .int) (t := 0) (N := 200) (a0 := (200, .inl (fun _ => 0))) rfl rfl t_50 (fun _ => rfl) (by decide) (by decide) (by decide) (by decide) dX8_init_53 (fun q6v => ?_)
  show J g mX8_init (RM 1 9 10764) _ 6 10472 (w0 ++ ([(b, .inr (8, [.ref q1v, .ref q2v, .ref q3v, .int 0, .ref q4v, .int 0, .int 0, .int 0, .int 0, .ref q5v, .null, .int 0, .null, .null, .int 0, .int 0, .int 0, .int 0, .null, .int 0])), (q1v, .inl (g.2.2 0, 352, .inl (fun _ => 0))), (q2v, .inl (g.2.2 0, 352, .inl (fun _ => 0))), (q3v, .inl (g.2.2 0, 352, .inl (fun _ => 0))), (q4v, .inl (g.2.2 0, 2816, .inl (fun _ => 0))), (q5v, .inl (g.2.2 0, 6400, .inl (fun _ => 0))), (q6v, .inl (g.2.2 0, 200, .inl (fun _ => 0)))])) 55 [some (.ref b), none] [.ref q6v, .ref b]
  refine J.putXF (C := RX8) (T := TX8) (N := 20) (ci := 8) (kf := 10) (i := 0) (v := .ref q6v) (ty := tyX8 10) inB8 tyX8 tyX8_ok nmX8 rfl (by decide) t_988 rfl rfl rfl rfl (tyX8_ok 10 (by decide)) rfl rfl (Nat.le_of_ble_eq_true rfl) dX8_init_55 ?_
  show J g mX8_init (RM 1 9 10764) _ 6 10472 (w0 ++ ([(b, .inr (8, [.ref q1v, .ref q2v, .ref q3v, .int 0, .ref q4v, .int 0, .int 0, .int 0, .int 0, .ref q5v, .ref q6v, .int 0, .null, .null, .int 0, .int 0, .int 0, .int 0, .null, .int 0])), (q1v, .inl (g.2.2 0, 352, .inl (fun _ => 0))), (q2v, .inl (g.2.2 0, 352, .inl (fun _ => 0))), (q3v, .inl (g.2.2 0, 352, .inl (fun _ => 0))), (q4v, .inl (g.2.2 0, 2816, .inl (fun _ => 0))), (q5v, .inl (g.2.2 0, 6400, .inl (fun _ => 0))), (q6v, .inl (g.2.2 0, 200, .inl (fun _ => 0)))])) 58 [some (.ref b), none] []
  refine J.al0 dX8_init_58 ?_
  refine J.bipush (v := nI 32) dX8_init_59 (by decide) ?_
  refine J.newA (ty := .int) (t := 0) (N := 32) (a0 := (32, .inl (fun _ => 0))) rfl rfl t_50 (fun _ => rfl) (by decide) (by decide) (by decide) (by decide) dX8_init_61 (fun q7v => ?_)
  show J g mX8_init (RM 1 9 10764) _ 7 10504 (w0 ++ ([(b, .inr (8, [.ref q1v, .ref q2v, .ref q3v, .int 0, .ref q4v, .int 0, .int 0, .int 0, .int 0, .ref q5v, .ref q6v, .int 0, .null, .null, .int 0, .int 0, .int 0, .int 0, .null, .int 0])), (q1v, .inl (g.2.2 0, 352, .inl (fun _ => 0))), (q2v, .inl (g.2.2 0, 352, .inl (fun _ => 0))), (q3v, .inl (g.2.2 0, 352, .inl (fun _ => 0))), (q4v, .inl (g.2.2 0, 2816, .inl (fun _ => 0))), (q5v, .inl (g.2.2 0, 6400, .inl (fun _ => 0))), (q6v, .inl (g.2.2 0, 200, .inl (fun _ => 0))), (q7v, .inl (g.2.2 0, 32, .inl (fun _ => 0)))])) 63 [some (.ref b), none] [.ref q7v, .ref b]
  refine J.putXF (C := RX8) (T := TX8) (N := 20) (ci := 8) (kf := 12) (i := 0) (v := .ref q7v) (ty := tyX8 12) inB8 tyX8 tyX8_ok nmX8 rfl (by decide) t_990 rfl rfl rfl rfl (tyX8_ok 12 (by decide)) rfl rfl (Nat.le_of_ble_eq_true rfl) dX8_init_63 ?_
  show J g mX8_init (RM 1 9 10764) _ 7 10504 (w0 ++ ([(b, .inr (8, [.ref q1v, .ref q2v, .ref q3v, .int 0, .ref q4v, .int 0, .int 0, .int 0, .int 0, .ref q5v, .ref q6v, .int 0, .ref q7v, .null, .int 0, .int 0, .int 0, .int 0, .null, .int 0])), (q1v, .inl (g.2.2 0, 352, .inl (fun _ => 0))), (q2v, .inl (g.2.2 0, 352, .inl (fun _ => 0))), (q3v, .inl (g.2.2 0, 352, .inl (fun _ => 0))), (q4v, .inl (g.2.2 0, 2816, .inl (fun _ => 0))), (q5v, .inl (g.2.2 0, 6400, .inl (fun _ => 0))), (q6v, .inl (g.2.2 0, 200, .inl (fun _ => 0))), (q7v, .inl (g.2.2 0, 32, .inl (fun _ => 0)))])) 66 [some (.ref b), none] []
  refine J.al0 dX8_init_66 ?_
  refine J.bipush (v := nI 60) dX8_init_67 (by decide) ?_
  refine J.newA (ty := .char) (t := 2) (N := 60) (a0 := (60, .inl (fun _ => 0))) rfl rfl t_134 (fun _ => rfl) (by decide) (by decide) (by decide) (by decide) dX8_init_69 (fun q8v => ?_)
  show J g mX8_init (RM 1 9 10764) _ 8 10564 (w0 ++ ([(b, .inr (8, [.ref q1v, .ref q2v, .ref q3v, .int 0, .ref q4v, .int 0, .int 0, .int 0, .int 0, .ref q5v, .ref q6v, .int 0, .ref q7v, .null, .int 0, .int 0, .int 0, .int 0, .null, .int 0])), (q1v, .inl (g.2.2 0, 352, .inl (fun _ => 0))), (q2v, .inl (g.2.2 0, 352, .inl (fun _ => 0))), (q3v, .inl (g.2.2 0, 352, .inl (fun _ => 0))), (q4v, .inl (g.2.2 0, 2816, .inl (fun _ => 0))), (q5v, .inl (g.2.2 0, 6400, .inl (fun _ => 0))), (q6v, .inl (g.2.2 0, 200, .inl (fun _ => 0))), (q7v, .inl (g.2.2 0, 32, .inl (fun _ => 0))), (q8v, .inl (g.2.2 2, 60, .inl (fun _ => 0)))])) 71 [some (.ref b), none] [.ref q8v, .ref b]
  refine J.putXF (C := RX8) (T := TX8) (N := 20) (ci := 8) (kf := 13) (i := 0) (v := .ref q8v) (ty := tyX8 13) inB8 tyX8 tyX8_ok nmX8 rfl (by decide) t_991 rfl rfl rfl rfl (tyX8_ok 13 (by decide)) rfl rfl (Nat.le_of_ble_eq_true rfl) dX8_init_71 ?_
  show J g mX8_init (RM 1 9 10764) _ 8 10564 (w0 ++ ([(b, .inr (8, [.ref q1v, .ref q2v, .ref q3v, .int 0, .ref q4v, .int 0, .int 0, .int 0, .int 0, .ref q5v, .ref q6v, .int 0, .ref q7v, .ref q8v, .int 0, .int 0, .int 0, .int 0, .null, .int 0])), (q1v, .inl (g.2.2 0, 352, .inl (fun _ => 0))), (q2v, .inl (g.2.2 0, 352, .inl (fun _ => 0))), (q3v, .inl (g.2.2 0, 352, .inl (fun _ => 0))), (q4v, .inl (g.2.2 0, 2816, .inl (fun _ => 0))), (q5v, .inl (g.2.2 0, 6400, .inl (fun _ => 0))), (q6v, .inl (g.2.2 0, 200, .inl (fun _ => 0))), (q7v, .inl (g.2.2 0, 32, .inl (fun _ => 0))), (q8v, .inl (g.2.2 2, 60, .inl (fun _ => 0)))])) 74 [some (.ref b), none] []
  refine J.al0 dX8_init_74 ?_
  refine J.iconst (v := -1) dX8_init_75 (by decide) ?_
  refine J.putX (C := RX8) (T := TX8) (N := 20) (ci := 8) (kf := 17) (i := 0) (v := .int (-1)) (ty := tyX8 17) inB8 tyX8 tyX8_ok nmX8 rfl (by decide) t_995 rfl rfl (tyX8_ok 17 (by decide)) (by decide) (by decide) (Nat.le_of_ble_eq_true rfl) dX8_init_76 ?_
  show J g mX8_init (RM 1 9 10764) _ 8 10564 (w0 ++ ([(b, .inr (8, [.ref q1v, .ref q2v, .ref q3v, .int 0, .ref q4v, .int 0, .int 0, .int 0, .int 0, .ref q5v, .ref q6v, .int 0, .ref q7v, .ref q8v, .int 0, .int 0, .int 0, .int (-1), .null, .int 0])), (q1v, .inl (g.2.2 0, 352, .inl (fun _ => 0))), (q2v, .inl (g.2.2 0, 352, .inl (fun _ => 0))), (q3v, .inl (g.2.2 0, 352, .inl (fun _ => 0))), (q4v, .inl (g.2.2 0, 2816, .inl (fun _ => 0))), (q5v, .inl (g.2.2 0, 6400, .inl (fun _ => 0))), (q6v, .inl (g.2.2 0, 200, .inl (fun _ => 0))), (q7v, .inl (g.2.2 0, 32, .inl (fun _ => 0))), (q8v, .inl (g.2.2 2, 60, .inl (fun _ => 0)))])) 79 [some (.ref b), none] []
  refine J.al0 dX8_init_79 ?_
  refine J.sipush (v := nI 200) dX8_init_80 (by decide) ?_
  refine J.newA (ty := .char) (t := 2) (N := 200) (a0 := (200, .inl (fun _ => 0))) rfl rfl t_134 (fun _ => rfl) (by decide) (by decide) (by decide) (by decide) dX8_init_83 (fun q9v => ?_)
  show J g mX8_init (RM 1 9 10764) _ 9 10764 (w0 ++ ([(b, .inr (8, [.ref q1v, .ref q2v, .ref q3v, .int 0, .ref q4v, .int 0, .int 0, .int 0, .int 0, .ref q5v, .ref q6v, .int 0, .ref q7v, .ref q8v, .int 0, .int 0, .int 0, .int (-1), .null, .int 0])), (q1v, .inl (g.2.2 0, 352, .inl (fun _ => 0))), (q2v, .inl (g.2.2 0, 352, .inl (fun _ => 0))), (q3v, .inl (g.2.2 0, 352, .inl (fun _ => 0))), (q4v, .inl (g.2.2 0, 2816, .inl (fun _ => 0))), (q5v, .inl (g.2.2 0, 6400, .inl (fun _ => 0))), (q6v, .inl (g.2.2 0, 200, .inl (fun _ => 0))), (q7v, .inl (g.2.2 0, 32, .inl (fun _ => 0))), (q8v, .inl (g.2.2 2, 60, .inl (fun _ => 0))), (q9v, .inl (g.2.2 2, 200, .inl (fun _ => 0)))])) 85 [some (.ref b), none] [.ref q9v, .ref b]
  refine J.putXF (C := RX8) (T := TX8) (N := 20) (ci := 8) (kf := 18) (i := 0) (v := .ref q9v) (ty := tyX8 18) inB8 tyX8 tyX8_ok nmX8 rfl (by decide) t_996 rfl rfl rfl rfl (tyX8_ok 18 (by decide)) rfl rfl (Nat.le_of_ble_eq_true rfl) dX8_init_85 ?_
  show J g mX8_init (RM 1 9 10764) _ 9 10764 (w0 ++ ([(b, .inr (8, [.ref q1v, .ref q2v, .ref q3v, .int 0, .ref q4v, .int 0, .int 0, .int 0, .int 0, .ref q5v, .ref q6v, .int 0, .ref q7v, .ref q8v, .int 0, .int 0, .int 0, .int (-1), .ref q9v, .int 0])), (q1v, .inl (g.2.2 0, 352, .inl (fun _ => 0))), (q2v, .inl (g.2.2 0, 352, .inl (fun _ => 0))), (q3v, .inl (g.2.2 0, 352, .inl (fun _ => 0))), (q4v, .inl (g.2.2 0, 2816, .inl (fun _ => 0))), (q5v, .inl (g.2.2 0, 6400, .inl (fun _ => 0))), (q6v, .inl (g.2.2 0, 200, .inl (fun _ => 0))), (q7v, .inl (g.2.2 0, 32, .inl (fun _ => 0))), (q8v, .inl (g.2.2 2, 60, .inl (fun _ => 0))), (q9v, .inl (g.2.2 2, 200, .inl (fun _ => 0)))])) 88 [some (.ref b), none] []
  refine J.iconst dX8_init_88 kI_0 ?_
  refine J.is1 dX8_init_89 (by decide) rfl ?_
  have lp : ∀ (fu i : Nat) (m1 : Nat → Int32), 32 < i + fu → i ≤ 32 → (∀ k, k < 352 → m1 k = s0 i k) → J g mX8_init (RM 1 9 10764) (MQi g (RM 1 9 10764) (fun o w' => o = .inl none ∧ ∃ blk, PX8 g b blk ∧ w' = w0 ++ blk)) 9 10764 (w0 ++ ([(b, .inr (8, [.ref q1v, .ref q2v, .ref q3v, .int 0, .ref q4v, .int 0, .int 0, .int 0, .int 0, .ref q5v, .ref q6v, .int 0, .ref q7v, .ref q8v, .int 0, .int 0, .int 0, .int (-1), .ref q9v, .int 0])), (q1v, .inl (g.2.2 0, 352, .inl m1)), (q2v, .inl (g.2.2 0, 352, .inl (fun _ => 0))), (q3v, .inl (g.2.2 0, 352, .inl (fun _ => 0))), (q4v, .inl (g.2.2 0, 2816, .inl (fun _ => 0))), (q5v, .inl (g.2.2 0, 6400, .inl (fun _ => 0))), (q6v, .inl (g.2.2 0, 200, .inl (fun _ => 0))), (q7v, .inl (g.2.2 0, 32, .inl (fun _ => 0))), (q8v, .inl (g.2.2 2, 60, .inl (fun _ => 0))), (q9v, .inl (g.2.2 2, 200, .inl (fun _ => 0)))])) 90 [some (.ref b), some (.int (nI i))] [] := by
    intro fu
    induction fu with
    | zero => intro i m1 h9 hi9 h1; exact absurd h9 (by omega)
    | succ fu ih =>
      intro i m1 h9 hi9 h1
      refine J.il1 dX8_init_90 ?_
      refine J.bipush (v := nI 32) dX8_init_91 (by decide) ?_
      refine J.icmp_geN (tgt := 125) dX8_init_93 (by decide) (by omega) (by decide) (fun q9 => ?_) (fun q9 => ?_)
      · obtain rfl : i = 32 := by omega
        exact J.vretI rfl (by decide) (by decide) dX8_init_125 ⟨rfl, _, ⟨_, _, _, _, _, _, _, _, _, _, (fun k hk => (h1 k hk)), rfl⟩, rfl⟩
      · refine J.al0 dX8_init_96 ?_
        refine J.getX (C := RX8) (T := TX8) (N := 20) (ci := 8) (kf := 0) (i := 0) (v := .ref q1v) inB8 rfl (by decide) t_978 rfl rfl dX8_init_97 ?_
        refine J.bipush (v := nI 8) dX8_init_100 (by decide) ?_
        refine J.il1 dX8_init_102 ?_
        refine J.iaddN dX8_init_103 ?_
        refine J.il1 dX8_init_104 ?_
        refine J.iastX (i := 1) rfl (by omega) (by decide) dX8_init_105 ?_
        show J g mX8_init (RM 1 9 10764) _ 9 10764 (w0 ++ ([(b, .inr (8, [.ref q1v, .ref q2v, .ref q3v, .int 0, .ref q4v, .int 0, .int 0, .int 0, .int 0, .ref q5v, .ref q6v, .int 0, .ref q7v, .ref q8v, .int 0, .int 0, .int 0, .int (-1), .ref q9v, .int 0])), (q1v, .inl (g.2.2 0, 352, .inl (upd m1 (8 + i) (nI i)))), (q2v, .inl (g.2.2 0, 352, .inl (fun _ => 0))), (q3v, .inl (g.2.2 0, 352, .inl (fun _ => 0))), (q4v, .inl (g.2.2 0, 2816, .inl (fun _ => 0))), (q5v, .inl (g.2.2 0, 6400, .inl (fun _ => 0))), (q6v, .inl (g.2.2 0, 200, .inl (fun _ => 0))), (q7v, .inl (g.2.2 0, 32, .inl (fun _ => 0))), (q8v, .inl (g.2.2 2, 60, .inl (fun _ => 0))), (q9v, .inl (g.2.2 2, 200, .inl (fun _ => 0)))])) 106 [some (.ref b), some (.int (nI i))] []
        refine J.al0 dX8_init_106 ?_
        refine J.getX (C := RX8) (T := TX8) (N := 20) (ci := 8) (kf := 0) (i := 0) (v := .ref q1v) inB8 rfl (by decide) t_978 rfl rfl dX8_init_107 ?_
        refine J.bipush (v := nI 40) dX8_init_110 (by decide) ?_
        refine J.il1 dX8_init_112 ?_
        refine J.iaddN dX8_init_113 ?_
        refine J.il1 dX8_init_114 ?_
        refine J.bipush (v := nI 8) dX8_init_115 (by decide) ?_
        refine J.idiv dX8_init_117 (by omega) (by omega) (by omega) ?_
        refine J.iastX (i := 1) rfl (by omega) (by decide) dX8_init_118 ?_
        show J g mX8_init (RM 1 9 10764) _ 9 10764 (w0 ++ ([(b, .inr (8, [.ref q1v, .ref q2v, .ref q3v, .int 0, .ref q4v, .int 0, .int 0, .int 0, .int 0, .ref q5v, .ref q6v, .int 0, .ref q7v, .ref q8v, .int 0, .int 0, .int 0, .int (-1), .ref q9v, .int 0])), (q1v, .inl (g.2.2 0, 352, .inl (upd (upd m1 (8 + i) (nI i)) (40 + i) (nI (i / 8))))), (q2v, .inl (g.2.2 0, 352, .inl (fun _ => 0))), (q3v, .inl (g.2.2 0, 352, .inl (fun _ => 0))), (q4v, .inl (g.2.2 0, 2816, .inl (fun _ => 0))), (q5v, .inl (g.2.2 0, 6400, .inl (fun _ => 0))), (q6v, .inl (g.2.2 0, 200, .inl (fun _ => 0))), (q7v, .inl (g.2.2 0, 32, .inl (fun _ => 0))), (q8v, .inl (g.2.2 2, 60, .inl (fun _ => 0))), (q9v, .inl (g.2.2 2, 200, .inl (fun _ => 0)))])) 119 [some (.ref b), some (.int (nI i))] []
        refine J.ii1 (z := 1) dX8_init_119 (by decide) (by decide) rfl ?_
        refine J.goto (tgt := 90) dX8_init_122 (by decide) ?_
        exact ih (i + 1) _ (by omega) (by omega) (s0_step (by omega) h1)
  exact lp 33 0 _ (by decide) (by decide) (fun k _ => s0_0 k)
