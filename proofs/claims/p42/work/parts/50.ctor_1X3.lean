/-! ===== printed: constructors ===== -/
def PX3 (g : GP) (b : Nat) (blk : va_W) : Prop := ∃ (a : Nat) (m : Nat → Int32), (∀ k, k < 32 → m k = nI k) ∧ blk = [(b, .inr (3, [.ref a])), (a, .inl (g.2.2 0, 32, .inl m))]
set_option maxRecDepth 100000 in
set_option maxHeartbeats 8000000 in
theorem cn_X3 {g : GP} : CN g yX3_init mX3_init (RM 1 1 32) 3 [.null] (PX3 g) := by
  intro w0 b
  show CI g yX3_init mX3_init _ _ _ _
  refine CI.of (y := yX3_init) (l0 := [some (.ref b), none]) (by decide +kernel) rfl rfl (Nat.le_of_ble_eq_true rfl) rfl ?_
  show J g mX3_init (RM 1 1 32) _ 0 0 (w0 ++ ([(b, .inr (3, [.null]))])) 0 [some (.ref b), none] []
  refine J.al0 dX3_init_0 ?_
  refine J.obj to_82 (by decide) (by decide) dX3_init_1 ?_
  show J g mX3_init (RM 1 1 32) _ 0 0 (w0 ++ ([(b, .inr (3, [.null]))])) 4 [some (.ref b), none] []
  refine J.al0 dX3_init_4 ?_
  refine J.bipush (v := nI 32) dX3_init_5 (by decide) ?_
  refine J.newA (ty := .int) (t := 0) (N := 32) (a0 := (32, .inl (fun _ => 0))) rfl rfl t_50 (fun _ => rfl) (by decide) (by decide) (by decide) (by decide) dX3_init_7 (fun q1v => ?_)
  show J g mX3_init (RM 1 1 32) _ 1 32 (w0 ++ ([(b, .inr (3, [.null])), (q1v, .inl (g.2.2 0, 32, .inl (fun _ => 0)))])) 9 [some (.ref b), none] [.ref q1v, .ref b]
  refine J.putXF (C := RX3) (T := TX3) (N := 1) (ci := 3) (kf := 0) (i := 0) (v := .ref q1v) (ty := tyX3 0) inB3 tyX3 tyX3_ok nmX3 rfl (by decide) t_83 rfl rfl rfl rfl (tyX3_ok 0 (by decide)) rfl rfl (Nat.le_of_ble_eq_true rfl) dX3_init_9 ?_
  show J g mX3_init (RM 1 1 32) _ 1 32 (w0 ++ ([(b, .inr (3, [.ref q1v])), (q1v, .inl (g.2.2 0, 32, .inl (fun _ => 0)))])) 12 [some (.ref b), none] []
  refine J.iconst dX3_init_12 kI_0 ?_
  refine J.is1 dX3_init_13 (by decide) rfl ?_
  have lp : ∀ (fu i : Nat) (m1 : Nat → Int32), 32 < i + fu → i ≤ 32 → (∀ k, k < i → m1 k = nI k) → J g mX3_init (RM 1 1 32) (MQi g (RM 1 1 32) (fun o w' => o = .inl none ∧ ∃ blk, PX3 g b blk ∧ w' = w0 ++ blk)) 1 32 (w0 ++ ([(b, .inr (3, [.ref q1v])), (q1v, .inl (g.2.2 0, 32, .inl m1))])) 14 [some (.ref b), some (.int (nI i))] [] := by
    intro fu
    induction fu with
    | zero => intro i m1 h9 hi9 h1; exact absurd h9 (by omega)
    | succ fu ih =>
      intro i m1 h9 hi9 h1
      refine J.il1 dX3_init_14 ?_
      refine J.bipush (v := nI 32) dX3_init_15 (by decide) ?_
      refine J.icmp_geN (tgt := 33) dX3_init_17 (by decide) (by omega) (by decide) (fun q9 => ?_) (fun q9 => ?_)
      · obtain rfl : i = 32 := by omega
        exact J.vretI rfl (by decide) (by decide) dX3_init_33 ⟨rfl, _, ⟨_, _, h1, rfl⟩, rfl⟩
      · refine J.al0 dX3_init_20 ?_
        refine J.getX (C := RX3) (T := TX3) (N := 1) (ci := 3) (kf := 0) (i := 0) (v := .ref q1v) inB3 rfl (by decide) t_83 rfl rfl dX3_init_21 ?_
        refine J.il1 dX3_init_24 ?_
        refine J.il1 dX3_init_25 ?_
        refine J.iastX (i := 1) rfl (by omega) (by decide) dX3_init_26 ?_
        show J g mX3_init (RM 1 1 32) _ 1 32 (w0 ++ ([(b, .inr (3, [.ref q1v])), (q1v, .inl (g.2.2 0, 32, .inl (upd m1 i (nI i))))])) 27 [some (.ref b), some (.int (nI i))] []
        refine J.ii1 (z := 1) dX3_init_27 (by decide) (by decide) rfl ?_
        refine J.goto (tgt := 14) dX3_init_30 (by decide) ?_
        exact ih (i + 1) _ (by omega) (by omega) (up_step h1 rfl)
  exact lp 33 0 _ (by decide) (by decide) (fun k hk => absurd hk (Nat.not_lt_zero k))
