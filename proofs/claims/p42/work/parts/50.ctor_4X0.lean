/-! ===== printed: constructors ===== -/
def PX0 (g : GP) (b : Nat) (blk : va_W) : Prop := ∃ (a1 a2 a3 : Nat) (m1 m2 m3 : Nat → Int32), (∀ k, k < 32 → m1 k = nI k) ∧ (∀ k, k < 32 → m2 k = nI k) ∧ (∀ k, k < 32 → m3 k = nI (k / 8)) ∧ blk = [(b, .inr (0, [.ref a1, .ref a2, .ref a3])), (a1, .inl (g.2.2 0, 32, .inl m1)), (a2, .inl (g.2.2 0, 32, .inl m2)), (a3, .inl (g.2.2 0, 32, .inl m3))]
set_option maxRecDepth 100000 in
set_option maxHeartbeats 8000000 in
theorem cn_X0 {g : GP} : CN g yX0_init mX0_init (RM 1 3 96) 0 [.null, .null, .null] (PX0 g) := by
  intro w0 b
  show CI g yX0_init mX0_init _ _ _ _
  refine CI.of (y := yX0_init) (l0 := [some (.ref b), none]) (by decide +kernel) rfl rfl (Nat.le_of_ble_eq_true rfl) rfl ?_
  show J g mX0_init (RM 1 3 96) _ 0 0 (w0 ++ ([(b, .inr (0, [.null, .null, .null]))])) 0 [some (.ref b), none] []
  refine J.al0 dX0_init_0 ?_
  refine J.obj to_51 (by decide) (by decide) dX0_init_1 ?_
  show J g mX0_init (RM 1 3 96) _ 0 0 (w0 ++ ([(b, .inr (0, [.null, .null, .null]))])) 4 [some (.ref b), none] []
  refine J.al0 dX0_init_4 ?_
  refine J.bipush (v := nI 32) dX0_init_5 (by decide) ?_
  refine J.newA (ty := .int) (t := 0) (N := 32) (a0 := (32, .inl (fun _ => 0))) rfl rfl t_50 (fun _ => rfl) (by decide) (by decide) (by decide) (by decide) dX0_init_7 (fun q1v => ?_)
  show J g mX0_init (RM 1 3 96) _ 1 32 (w0 ++ ([(b, .inr (0, [.null, .null, .null])), (q1v, .inl (g.2.2 0, 32, .inl (fun _ => 0)))])) 9 [some (.ref b), none] [.ref q1v, .ref b]
  refine J.putXF (C := RX0) (T := TX0) (N := 3) (ci := 0) (kf := 0) (i := 0) (v := .ref q1v) (ty := tyX0 0) inB0 tyX0 tyX0_ok nmX0 rfl (by decide) t_52 rfl rfl rfl rfl (tyX0_ok 0 (by decide)) rfl rfl (Nat.le_of_ble_eq_true rfl) dX0_init_9 ?_
  show J g mX0_init (RM 1 3 96) _ 1 32 (w0 ++ ([(b, .inr (0, [.ref q1v, .null, .null])), (q1v, .inl (g.2.2 0, 32, .inl (fun _ => 0)))])) 12 [some (.ref b), none] []
  refine J.al0 dX0_init_12 ?_
  refine J.bipush (v := nI 32) dX0_init_13 (by decide) ?_
  refine J.newA (ty := .int) (t := 0) (N := 32) (a0 := (32, .inl (fun _ => 0))) rfl rfl t_50 (fun _ => rfl) (by decide) (by decide) (by decide) (by decide) dX0_init_15 (fun q2v => ?_)
  show J g mX0_init (RM 1 3 96) _ 2 64 (w0 ++ ([(b, .inr (0, [.ref q1v, .null, .null])), (q1v, .inl (g.2.2 0, 32, .inl (fun _ => 0))), (q2v, .inl (g.2.2 0, 32, .inl (fun _ => 0)))])) 17 [some (.ref b), none] [.ref q2v, .ref b]
  refine J.putXF (C := RX0) (T := TX0) (N := 3) (ci := 0) (kf := 1) (i := 0) (v := .ref q2v) (ty := tyX0 1) inB0 tyX0 tyX0_ok nmX0 rfl (by decide) t_53 rfl rfl rfl rfl (tyX0_ok 1 (by decide)) rfl rfl (Nat.le_of_ble_eq_true rfl) dX0_init_17 ?_
  show J g mX0_init (RM 1 3 96) _ 2 64 (w0 ++ ([(b, .inr (0, [.ref q1v, .ref q2v, .null])), (q1v, .inl (g.2.2 0, 32, .inl (fun _ => 0))), (q2v, .inl (g.2.2 0, 32, .inl (fun _ => 0)))])) 20 [some (.ref b), none] []
  refine J.al0 dX0_init_20 ?_
  refine J.bipush (v := nI 32) dX0_init_21 (by decide) ?_
  refine J.newA (ty := .int) (t := 0) (N := 32) (a0 := (32, .inl (fun _ => 0))) rfl rfl t_50 (fun _ => rfl) (by decide) (by decide) (by decide) (by decide) dX0_init_23 (fun q3v => ?_)
  show J g mX0_init (RM 1 3 96) _ 3 96 (w0 ++ ([(b, .inr (0, [.ref q1v, .ref q2v, .null])), (q1v, .inl (g.2.2 0, 32, .inl (fun _ => 0))), (q2v, .inl (g.2.2 0, 32, .inl (fun _ => 0))), (q3v, .inl (g.2.2 0, 32, .inl (fun _ => 0)))])) 25 [some (.ref b), none] [.ref q3v, .ref b]
  refine J.putXF (C := RX0) (T := TX0) (N := 3) (ci := 0) (kf := 2) (i := 0) (v := .ref q3v) (ty := tyX0 2) inB0 tyX0 tyX0_ok nmX0 rfl (by decide) t_54 rfl rfl rfl rfl (tyX0_ok 2 (by decide)) rfl rfl (Nat.le_of_ble_eq_true rfl) dX0_init_25 ?_
  show J g mX0_init (RM 1 3 96) _ 3 96 (w0 ++ ([(b, .inr (0, [.ref q1v, .ref q2v, .ref q3v])), (q1v, .inl (g.2.2 0, 32, .inl (fun _ => 0))), (q2v, .inl (g.2.2 0, 32, .inl (fun _ => 0))), (q3v, .inl (g.2.2 0, 32, .inl (fun _ => 0)))])) 28 [some (.ref b), none] []
  refine J.iconst dX0_init_28 kI_0 ?_
  refine J.is1 dX0_init_29 (by decide) rfl ?_
  have lp : ∀ (fu i : Nat) (m2 m4 m6 : Nat → Int32), 32 < i + fu → i ≤ 32 → (∀ k, k < i → m2 k = nI k) → (∀ k, k < i → m4 k = nI k) → (∀ k, k < i → m6 k = nI (k / 8)) → J g mX0_init (RM 1 3 96) (MQi g (RM 1 3 96) (fun o w' => o = .inl none ∧ ∃ blk, PX0 g b blk ∧ w' = w0 ++ blk)) 3 96 (w0 ++ ([(b, .inr (0, [.ref q1v, .ref q2v, .ref q3v])), (q1v, .inl (g.2.2 0, 32, .inl m2)), (q2v, .inl (g.2.2 0, 32, .inl m4)), (q3v, .inl (g.2.2 0, 32, .inl m6))])) 30 [some (.ref b), some (.int (nI i))] [] := by
    intro fu
    induction fu with
    | zero => intro i m2 m4 m6 h9 hi9 h1 h2 h3; exact absurd h9 (by omega)
    | succ fu ih =>
      intro i m2 m4 m6 h9 hi9 h1 h2 h3
      refine J.il1 dX0_init_30 ?_
      refine J.bipush (v := nI 32) dX0_init_31 (by decide) ?_
      refine J.icmp_geN (tgt := 66) dX0_init_33 (by decide) (by omega) (by decide) (fun q9 => ?_) (fun q9 => ?_)
      · obtain rfl : i = 32 := by omega
        exact J.vretI rfl (by decide) (by decide) dX0_init_66 ⟨rfl, _, ⟨_, _, _, _, _, _, h1, h2, h3, rfl⟩, rfl⟩
      · refine J.al0 dX0_init_36 ?_
        refine J.getX (C := RX0) (T := TX0) (N := 3) (ci := 0) (kf := 0) (i := 0) (v := .ref q1v) inB0 rfl (by decide) t_52 rfl rfl dX0_init_37 ?_
        refine J.il1 dX0_init_40 ?_
        refine J.il1 dX0_init_41 ?_
        refine J.iastX (i := 1) rfl (by omega) (by decide) dX0_init_42 ?_
        show J g mX0_init (RM 1 3 96) _ 3 96 (w0 ++ ([(b, .inr (0, [.ref q1v, .ref q2v, .ref q3v])), (q1v, .inl (g.2.2 0, 32, .inl (upd m2 i (nI i)))), (q2v, .inl (g.2.2 0, 32, .inl m4)), (q3v, .inl (g.2.2 0, 32, .inl m6))])) 43 [some (.ref b), some (.int (nI i))] []
        refine J.al0 dX0_init_43 ?_
        refine J.getX (C := RX0) (T := TX0) (N := 3) (ci := 0) (kf := 1) (i := 0) (v := .ref q2v) inB0 rfl (by decide) t_53 rfl rfl dX0_init_44 ?_
        refine J.il1 dX0_init_47 ?_
        refine J.il1 dX0_init_48 ?_
        refine J.iastX (i := 2) rfl (by omega) (by decide) dX0_init_49 ?_
        show J g mX0_init (RM 1 3 96) _ 3 96 (w0 ++ ([(b, .inr (0, [.ref q1v, .ref q2v, .ref q3v])), (q1v, .inl (g.2.2 0, 32, .inl (upd m2 i (nI i)))), (q2v, .inl (g.2.2 0, 32, .inl (upd m4 i (nI i)))), (q3v, .inl (g.2.2 0, 32, .inl m6))])) 50 [some (.ref b), some (.int (nI i))] []
        refine J.al0 dX0_init_50 ?_
        refine J.getX (C := RX0) (T := TX0) (N := 3) (ci := 0) (kf := 2) (i := 0) (v := .ref q3v) inB0 rfl (by decide) t_54 rfl rfl dX0_init_51 ?_
        refine J.il1 dX0_init_54 ?_
        refine J.il1 dX0_init_55 ?_
        refine J.bipush (v := nI 8) dX0_init_56 (by decide) ?_
        refine J.idiv dX0_init_58 (by omega) (by omega) (by omega) ?_
        refine J.iastX (i := 3) rfl (by omega) (by decide) dX0_init_59 ?_
        show J g mX0_init (RM 1 3 96) _ 3 96 (w0 ++ ([(b, .inr (0, [.ref q1v, .ref q2v, .ref q3v])), (q1v, .inl (g.2.2 0, 32, .inl (upd m2 i (nI i)))), (q2v, .inl (g.2.2 0, 32, .inl (upd m4 i (nI i)))), (q3v, .inl (g.2.2 0, 32, .inl (upd m6 i (nI (i / 8)))))])) 60 [some (.ref b), some (.int (nI i))] []
        refine J.ii1 (z := 1) dX0_init_60 (by decide) (by decide) rfl ?_
        refine J.goto (tgt := 30) dX0_init_63 (by decide) ?_
        exact ih (i + 1) _ _ _ (by omega) (by omega) (up_step h1 rfl) (up_step h2 rfl) (up_step (F := fun k => nI (k / 8)) h3 rfl)
  exact lp 33 0 _ _ _ (by decide) (by decide) (fun k hk => absurd hk (Nat.not_lt_zero k)) (fun k hk => absurd hk (Nat.not_lt_zero k)) (fun k hk => absurd hk (Nat.not_lt_zero k))
