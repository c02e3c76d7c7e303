/-! ===== printed: constructors ===== -/
def PX5 (g : GP) (b : Nat) (blk : va_W) : Prop := ∃ (a : Nat), blk = [(b, .inr (5, [.ref a, .int (nI 0)])), (a, .inl (g.2.2 2, 120, .inl (fun _ => 0)))]
set_option maxRecDepth 100000 in
set_option maxHeartbeats 8000000 in
theorem cn_X5 {g : GP} : CN g yX5_init mX5_init (RM 1 1 120) 5 [.null, .int 0] (PX5 g) := by
  intro w0 b
  show CI g yX5_init mX5_init _ _ _ _
  refine CI.of (y := yX5_init) (l0 := [some (.ref b)]) (by decide +kernel) rfl rfl (Nat.le_of_ble_eq_true rfl) rfl ?_
  show J g mX5_init (RM 1 1 120) _ 0 0 (w0 ++ ([(b, .inr (5, [.null, .int 0]))])) 0 [some (.ref b)] []
  refine J.al0 dX5_init_0 ?_
  refine J.obj to_138 (by decide) (by decide) dX5_init_1 ?_
  show J g mX5_init (RM 1 1 120) _ 0 0 (w0 ++ ([(b, .inr (5, [.null, .int 0]))])) 4 [some (.ref b)] []
  refine J.al0 dX5_init_4 ?_
  refine J.bipush (v := nI 120) dX5_init_5 (by decide) ?_
  refine J.newA (ty := .char) (t := 2) (N := 120) (a0 := (120, .inl (fun _ => 0))) rfl rfl t_134 (fun _ => rfl) (by decide) (by decide) (by decide) (by decide) dX5_init_7 (fun q1v => ?_)
  show J g mX5_init (RM 1 1 120) _ 1 120 (w0 ++ ([(b, .inr (5, [.null, .int 0])), (q1v, .inl (g.2.2 2, 120, .inl (fun _ => 0)))])) 9 [some (.ref b)] [.ref q1v, .ref b]
  refine J.putXF (C := RX5) (T := TX5) (N := 2) (ci := 5) (kf := 0) (i := 0) (v := .ref q1v) (ty := tyX5 0) inB5 tyX5 tyX5_ok nmX5 rfl (by decide) t_139 rfl rfl rfl rfl (tyX5_ok 0 (by decide)) rfl rfl (Nat.le_of_ble_eq_true rfl) dX5_init_9 ?_
  show J g mX5_init (RM 1 1 120) _ 1 120 (w0 ++ ([(b, .inr (5, [.ref q1v, .int 0])), (q1v, .inl (g.2.2 2, 120, .inl (fun _ => 0)))])) 12 [some (.ref b)] []
  refine J.al0 dX5_init_12 ?_
  refine J.iconst dX5_init_13 kI_0 ?_
  refine J.putX (C := RX5) (T := TX5) (N := 2) (ci := 5) (kf := 1) (i := 0) (v := .int (nI 0)) (ty := tyX5 1) inB5 tyX5 tyX5_ok nmX5 rfl (by decide) t_140 rfl rfl (tyX5_ok 1 (by decide)) (by decide) (by decide) (Nat.le_of_ble_eq_true rfl) dX5_init_14 ?_
  show J g mX5_init (RM 1 1 120) _ 1 120 (w0 ++ ([(b, .inr (5, [.ref q1v, .int (nI 0)])), (q1v, .inl (g.2.2 2, 120, .inl (fun _ => 0)))])) 17 [some (.ref b)] []
  exact J.vretI rfl (by decide) (by decide) dX5_init_17 ⟨rfl, _, ⟨_, rfl⟩, rfl⟩
