/-! ===== printed: constructors ===== -/
def PX7 (g : GP) (b : Nat) (blk : va_W) : Prop := ∃ (b1 b2 b3 b4 b5 b6 b7 : Nat) (B1 B2 B3 B4 B5 B6 B7 : va_W), PX6 g b1 B1 ∧ PX2 g b2 B2 ∧ PX6 g b3 B3 ∧ PX4 g b4 B4 ∧ PX5 g b5 B5 ∧ PX3 g b6 B6 ∧ PX3 g b7 B7 ∧ blk = (b, .inr (7, [.ref b1, .ref b2, .ref b3, .int (nI 0), .ref b4, .ref b5, .ref b6, .ref b7, .int (-1), .int (-1), .int (nI 0)])) :: ((((((B1 ++ B2) ++ B3) ++ B4) ++ B5) ++ B6) ++ B7)
set_option maxRecDepth 100000 in
set_option maxHeartbeats 8000000 in
theorem cn_X7 {g : GP} : CN g yX7_init mX7_init (RM 4 236 4889) 7 [.null, .null, .null, .int 0, .null, .null, .null, .null, .int 0, .int 0, .int 0] (PX7 g) := by
  intro w0 b
  show CI g yX7_init mX7_init _ _ _ _
  refine CI.of (y := yX7_init) (l0 := [some (.ref b)]) (by decide +kernel) rfl rfl (Nat.le_of_ble_eq_true rfl) rfl ?_
  show J g mX7_init (RM 4 236 4889) _ 0 0 (w0 ++ ([(b, .inr (7, [.null, .null, .null, .int 0, .null, .null, .null, .null, .int 0, .int 0, .int 0]))])) 0 [some (.ref b)] []
  refine J.al0 dX7_init_0 ?_
  refine J.obj to_37 (by decide) (by decide) dX7_init_1 ?_
  show J g mX7_init (RM 4 236 4889) _ 0 0 (w0 ++ ([(b, .inr (7, [.null, .null, .null, .int 0, .null, .null, .null, .null, .int 0, .int 0, .int 0]))])) 4 [some (.ref b)] []
  refine J.al0 dX7_init_4 ?_
  refine J.newX (C := RX6) (T := TX6) (N := 6) (ci := 6) (fs := [.null, .null, .int 0, .int 0, .null, .null]) inB6 tyX6 tyX6_ok rfl t_40 t_41 t_2 dfX6 (by decide) (by decide) dX7_init_5 (fun q1v => ?_)
  show J g mX7_init (RM 4 236 4889) _ 1 6 (w0 ++ ([(b, .inr (7, [.null, .null, .null, .int 0, .null, .null, .null, .null, .int 0, .int 0, .int 0])), (q1v, .inr (6, [.null, .null, .int 0, .int 0, .null, .null]))])) 8 [some (.ref b)] [.ref q1v, .ref b]
  refine J.dup dX7_init_8 rfl ?_
  refine J.ctor (A := [(b, .inr (7, [.null, .null, .null, .int 0, .null, .null, .null, .null, .int 0, .int 0, .int 0]))]) cn_X6 rfl t_42 t_43 t_2 t_44 rfl ⟨by decide +kernel, by decide +kernel, by decide +kernel⟩ rfl ⟨by decide, by decide⟩ rfl dX7_init_9 ⟨by decide, by decide⟩ (fun bk2v hb3v => ?_)
  show J g mX7_init (RM 4 236 4889) _ 19 402 (w0 ++ ((b, .inr (7, [.null, .null, .null, .int 0, .null, .null, .null, .null, .int 0, .int 0, .int 0])) :: bk2v)) 12 [some (.ref b)] [.ref q1v, .ref b]
  refine J.putXF (C := RX7) (T := TX7) (N := 11) (ci := 7) (kf := 0) (i := 0) (v := .ref q1v) (ty := tyX7 0) inB7 tyX7 tyX7_ok nmX7 rfl (by decide) t_173 rfl rfl rfl rfl (tyX7_ok 0 (by decide)) rfl rfl (Nat.le_of_ble_eq_true rfl) dX7_init_12 ?_
  show J g mX7_init (RM 4 236 4889) _ 19 402 (w0 ++ ((b, .inr (7, [.ref q1v, .null, .null, .int 0, .null, .null, .null, .null, .int 0, .int 0, .int 0])) :: bk2v)) 15 [some (.ref b)] []
  refine J.al0 dX7_init_15 ?_
  refine J.newX (C := RX2) (T := TX2) (N := 2) (ci := 2) (fs := [.null, .int 0]) inB2 tyX2 tyX2_ok rfl t_111 t_112 t_6 dfX2 (by decide) (by decide) dX7_init_16 (fun q4v => ?_)
  show J g mX7_init (RM 4 236 4889) _ 20 404 (w0 ++ ((b, .inr (7, [.ref q1v, .null, .null, .int 0, .null, .null, .null, .null, .int 0, .int 0, .int 0])) :: (bk2v ++ [(q4v, .inr (2, [.null, .int 0]))]))) 19 [some (.ref b)] [.ref q4v, .ref b]
  refine J.dup dX7_init_19 rfl ?_
  refine J.ctor (A := (b, .inr (7, [.ref q1v, .null, .null, .int 0, .null, .null, .null, .null, .int 0, .int 0, .int 0])) :: bk2v) cn_X2 rfl t_113 t_114 t_6 t_115 rfl ⟨by decide +kernel, by decide +kernel, by decide +kernel⟩ rfl ⟨by decide, by decide⟩ rfl dX7_init_20 ⟨by decide, by decide⟩ (fun bk5v hb6v => ?_)
  show J g mX7_init (RM 4 236 4889) _ 173 3628 (w0 ++ ((b, .inr (7, [.ref q1v, .null, .null, .int 0, .null, .null, .null, .null, .int 0, .int 0, .int 0])) :: (bk2v ++ bk5v))) 23 [some (.ref b)] [.ref q4v, .ref b]
  refine J.putXF (C := RX7) (T := TX7) (N := 11) (ci := 7) (kf := 1) (i := 0) (v := .ref q4v) (ty := tyX7 1) inB7 tyX7 tyX7_ok nmX7 rfl (by decide) t_174 rfl rfl rfl rfl (tyX7_ok 1 (by decide)) rfl rfl (Nat.le_of_ble_eq_true rfl) dX7_init_23 ?_
  show J g mX7_init (RM 4 236 4889) _ 173 3628 (w0 ++ ((b, .inr (7, [.ref q1v, .ref q4v, .null, .int 0, .null, .null, .null, .null, .int 0, .int 0, .int 0])) :: (bk2v ++ bk5v))) 26 [some (.ref b)] []
  refine J.al0 dX7_init_26 ?_
  refine J.newX (C := RX6) (T := TX6) (N := 6) (ci := 6) (fs := [.null, .null, .int 0, .int 0, .null, .null]) inB6 tyX6 tyX6_ok rfl t_40 t_41 t_2 dfX6 (by decide) (by decide) dX7_init_27 (fun q7v => ?_)
  show J g mX7_init (RM 4 236 4889) _ 174 3634 (w0 ++ ((b, .inr (7, [.ref q1v, .ref q4v, .null, .int 0, .null, .null, .null, .null, .int 0, .int 0, .int 0])) :: ((bk2v ++ bk5v) ++ [(q7v, .inr (6, [.null, .null, .int 0, .int 0, .null, .null]))]))) 30 [some (.ref b)] [.ref q7v, .ref b]
  refine J.dup dX7_init_30 rfl ?_
  refine J.ctor (A := (b, .inr (7, [.ref q1v, .ref q4v, .null, .int 0, .null, .null, .null, .null, .int 0, .int 0, .int 0])) :: (bk2v ++ bk5v)) cn_X6 rfl t_42 t_43 t_2 t_44 rfl ⟨by decide +kernel, by decide +kernel, by decide +kernel⟩ rfl ⟨by decide, by decide⟩ rfl dX7_init_31 ⟨by decide, by decide⟩ (fun bk8v hb9v => ?_)
  show J g mX7_init (RM 4 236 4889) _ 192 4030 (w0 ++ ((b, .inr (7, [.ref q1v, .ref q4v, .null, .int 0, .null, .null, .null, .null, .int 0, .int 0, .int 0])) :: ((bk2v ++ bk5v) ++ bk8v))) 34 [some (.ref b)] [.ref q7v, .ref b]
  refine J.putXF (C := RX7) (T := TX7) (N := 11) (ci := 7) (kf := 2) (i := 0) (v := .ref q7v) (ty := tyX7 2) inB7 tyX7 tyX7_ok nmX7 rfl (by decide) t_175 rfl rfl rfl rfl (tyX7_ok 2 (by decide)) rfl rfl (Nat.le_of_ble_eq_true rfl) dX7_init_34 ?_
  show J g mX7_init (RM 4 236 4889) _ 192 4030 (w0 ++ ((b, .inr (7, [.ref q1v, .ref q4v, .ref q7v, .int 0, .null, .null, .null, .null, .int 0, .int 0, .int 0])) :: ((bk2v ++ bk5v) ++ bk8v))) 37 [some (.ref b)] []
  refine J.al0 dX7_init_37 ?_
  refine J.iconst dX7_init_38 kI_0 ?_
  refine J.putX (C := RX7) (T := TX7) (N := 11) (ci := 7) (kf := 3) (i := 0) (v := .int (nI 0)) (ty := tyX7 3) inB7 tyX7 tyX7_ok nmX7 rfl (by decide) t_176 rfl rfl (tyX7_ok 3 (by decide)) (by decide) (by decide) (Nat.le_of_ble_eq_true rfl) dX7_init_39 ?_
  show J g mX7_init (RM 4 236 4889) _ 192 4030 (w0 ++ ((b, .inr (7, [.ref q1v, .ref q4v, .ref q7v, .int (nI 0), .null, .null, .null, .null, .int 0, .int 0, .int 0])) :: ((bk2v ++ bk5v) ++ bk8v))) 42 [some (.ref b)] []
  refine J.al0 dX7_init_42 ?_
  refine J.newX (C := RX4) (T := TX4) (N := 6) (ci := 4) (fs := [.null, .int 0, .null, .null, .null, .null]) inB4 tyX4 tyX4_ok rfl t_127 t_128 t_7 dfX4 (by decide) (by decide) dX7_init_43 (fun q10v => ?_)
  show J g mX7_init (RM 4 236 4889) _ 193 4036 (w0 ++ ((b, .inr (7, [.ref q1v, .ref q4v, .ref q7v, .int (nI 0), .null, .null, .null, .null, .int 0, .int 0, .int 0])) :: (((bk2v ++ bk5v) ++ bk8v) ++ [(q10v, .inr (4, [.null, .int 0, .null, .null, .null, .null]))]))) 46 [some (.ref b)] [.ref q10v, .ref b]
  refine J.dup dX7_init_46 rfl ?_
  refine J.ctor (A := (b, .inr (7, [.ref q1v, .ref q4v, .ref q7v, .int (nI 0), .null, .null, .null, .null, .int 0, .int 0, .int 0])) :: ((bk2v ++ bk5v) ++ bk8v)) cn_X4 rfl t_129 t_130 t_7 t_131 rfl ⟨by decide +kernel, by decide +kernel, by decide +kernel⟩ rfl ⟨by decide, by decide⟩ rfl dX7_init_47 ⟨by decide, by decide⟩ (fun bk11v hb12v => ?_)
  show J g mX7_init (RM 4 236 4889) _ 230 4701 (w0 ++ ((b, .inr (7, [.ref q1v, .ref q4v, .ref q7v, .int (nI 0), .null, .null, .null, .null, .int 0, .int 0, .int 0])) :: (((bk2v ++ bk5v) ++ bk8v) ++ bk11v))) 50 [some (.ref b)] [.ref q10v, .ref b]
  refine J.putXF (C := RX7) (T := TX7) (N := 11) (ci := 7) (kf := 4) (i := 0) (v := .ref q10v) (ty := tyX7 4) inB7 tyX7 tyX7_ok nmX7 rfl (by decide) t_177 rfl rfl rfl rfl (tyX7_ok 4 (by decide)) rfl rfl (Nat.le_of_ble_eq_true rfl) dX7_init_50 ?_
  show J g mX7_init (RM 4 236 4889) _ 230 4701 (w0 ++ ((b, .inr (7, [.ref q1v, .ref q4v, .ref q7v, .int (nI 0), .ref q10v, .null, .null, .null, .int 0, .int 0, .int 0])) :: (((bk2v ++ bk5v) ++ bk8v) ++ bk11v))) 53 [some (.ref b)] []
  refine J.al0 dX7_init_53 ?_
  refine J.newX (C := RX5) (T := TX5) (N := 2) (ci := 5) (fs := [.null, .int 0]) inB5 tyX5 tyX5_ok rfl t_169 t_134 t_8 dfX5 (by decide) (by decide) dX7_init_54 (fun q13v => ?_)
  show J g mX7_init (RM 4 236 4889) _ 231 4703 (w0 ++ ((b, .inr (7, [.ref q1v, .ref q4v, .ref q7v, .int (nI 0), .ref q10v, .null, .null, .null, .int 0, .int 0, .int 0])) :: ((((bk2v ++ bk5v) ++ bk8v) ++ bk11v) ++ [(q13v, .inr (5, [.null, .int 0]))]))) 57 [some (.ref b)] [.ref q13v, .ref b]
  refine J.dup dX7_init_57 rfl ?_
  refine J.ctorN (A := (b, .inr (7, [.ref q1v, .ref q4v, .ref q7v, .int (nI 0), .ref q10v, .null, .null, .null, .int 0, .int 0, .int 0])) :: (((bk2v ++ bk5v) ++ bk8v) ++ bk11v)) cn_X5 rfl nw_170 t_136 t_8 t_137 rfl ⟨by decide +kernel, by decide +kernel, by decide +kernel⟩ rfl ⟨by decide, by decide⟩ rfl dX7_init_58 ⟨by decide, by decide⟩ (fun bk14v hb15v => ?_)
  show J g mX7_init (RM 4 236 4889) _ 232 4823 (w0 ++ ((b, .inr (7, [.ref q1v, .ref q4v, .ref q7v, .int (nI 0), .ref q10v, .null, .null, .null, .int 0, .int 0, .int 0])) :: ((((bk2v ++ bk5v) ++ bk8v) ++ bk11v) ++ bk14v))) 61 [some (.ref b)] [.ref q13v, .ref b]
  refine J.putXF (C := RX7) (T := TX7) (N := 11) (ci := 7) (kf := 5) (i := 0) (v := .ref q13v) (ty := tyX7 5) inB7 tyX7 tyX7_ok nmX7 rfl (by decide) t_178 rfl rfl rfl rfl (tyX7_ok 5 (by decide)) rfl rfl (Nat.le_of_ble_eq_true rfl) dX7_init_61 ?_
  show J g mX7_init (RM 4 236 4889) _ 232 4823 (w0 ++ ((b, .inr (7, [.ref q1v, .ref q4v, .ref q7v, .int (nI 0), .ref q10v, .ref q13v, .null, .null, .int 0, .int 0, .int 0])) :: ((((bk2v ++ bk5v) ++ bk8v) ++ bk11v) ++ bk14v))) 64 [some (.ref b)] []
  refine J.al0 dX7_init_64 ?_
  refine J.newX (C := RX3) (T := TX3) (N := 1) (ci := 3) (fs := [.null]) inB3 tyX3 tyX3_ok rfl t_171 t_78 t_5 dfX3 (by decide) (by decide) dX7_init_65 (fun q16v => ?_)
  show J g mX7_init (RM 4 236 4889) _ 233 4824 (w0 ++ ((b, .inr (7, [.ref q1v, .ref q4v, .ref q7v, .int (nI 0), .ref q10v, .ref q13v, .null, .null, .int 0, .int 0, .int 0])) :: (((((bk2v ++ bk5v) ++ bk8v) ++ bk11v) ++ bk14v) ++ [(q16v, .inr (3, [.null]))]))) 68 [some (.ref b)] [.ref q16v, .ref b]
  refine J.dup dX7_init_68 rfl ?_
  refine J.ctor (A := (b, .inr (7, [.ref q1v, .ref q4v, .ref q7v, .int (nI 0), .ref q10v, .ref q13v, .null, .null, .int 0, .int 0, .int 0])) :: ((((bk2v ++ bk5v) ++ bk8v) ++ bk11v) ++ bk14v)) cn_X3 rfl t_172 t_80 t_5 t_81 rfl ⟨by decide +kernel, by decide +kernel, by decide +kernel⟩ rfl ⟨by decide, by decide⟩ rfl dX7_init_69 ⟨by decide, by decide⟩ (fun bk17v hb18v => ?_)
  show J g mX7_init (RM 4 236 4889) _ 234 4856 (w0 ++ ((b, .inr (7, [.ref q1v, .ref q4v, .ref q7v, .int (nI 0), .ref q10v, .ref q13v, .null, .null, .int 0, .int 0, .int 0])) :: (((((bk2v ++ bk5v) ++ bk8v) ++ bk11v) ++ bk14v) ++ bk17v))) 72 [some (.ref b)] [.ref q16v, .ref b]
  refine J.putXF (C := RX7) (T := TX7) (N := 11) (ci := 7) (kf := 6) (i := 0) (v := .ref q16v) (ty := tyX7 6) inB7 tyX7 tyX7_ok nmX7 rfl (by decide) t_179 rfl rfl rfl rfl (tyX7_ok 6 (by decide)) rfl rfl (Nat.le_of_ble_eq_true rfl) dX7_init_72 ?_
  show J g mX7_init (RM 4 236 4889) _ 234 4856 (w0 ++ ((b, .inr (7, [.ref q1v, .ref q4v, .ref q7v, .int (nI 0), .ref q10v, .ref q13v, .ref q16v, .null, .int 0, .int 0, .int 0])) :: (((((bk2v ++ bk5v) ++ bk8v) ++ bk11v) ++ bk14v) ++ bk17v))) 75 [some (.ref b)] []
  refine J.al0 dX7_init_75 ?_
  refine J.newX (C := RX3) (T := TX3) (N := 1) (ci := 3) (fs := [.null]) inB3 tyX3 tyX3_ok rfl t_171 t_78 t_5 dfX3 (by decide) (by decide) dX7_init_76 (fun q19v => ?_)
  show J g mX7_init (RM 4 236 4889) _ 235 4857 (w0 ++ ((b, .inr (7, [.ref q1v, .ref q4v, .ref q7v, .int (nI 0), .ref q10v, .ref q13v, .ref q16v, .null, .int 0, .int 0, .int 0])) :: ((((((bk2v ++ bk5v) ++ bk8v) ++ bk11v) ++ bk14v) ++ bk17v) ++ [(q19v, .inr (3, [.null]))]))) 79 [some (.ref b)] [.ref q19v, .ref b]
  refine J.dup dX7_init_79 rfl ?_
  refine J.ctor (A := (b, .inr (7, [.ref q1v, .ref q4v, .ref q7v, .int (nI 0), .ref q10v, .ref q13v, .ref q16v, .null, .int 0, .int 0, .int 0])) :: (((((bk2v ++ bk5v) ++ bk8v) ++ bk11v) ++ bk14v) ++ bk17v)) cn_X3 rfl t_172 t_80 t_5 t_81 rfl ⟨by decide +kernel, by decide +kernel, by decide +kernel⟩ rfl ⟨by decide, by decide⟩ rfl dX7_init_80 ⟨by decide, by decide⟩ (fun bk20v hb21v => ?_)
  show J g mX7_init (RM 4 236 4889) _ 236 4889 (w0 ++ ((b, .inr (7, [.ref q1v, .ref q4v, .ref q7v, .int (nI 0), .ref q10v, .ref q13v, .ref q16v, .null, .int 0, .int 0, .int 0])) :: ((((((bk2v ++ bk5v) ++ bk8v) ++ bk11v) ++ bk14v) ++ bk17v) ++ bk20v))) 83 [some (.ref b)] [.ref q19v, .ref b]
  refine J.putXF (C := RX7) (T := TX7) (N := 11) (ci := 7) (kf := 7) (i := 0) (v := .ref q19v) (ty := tyX7 7) inB7 tyX7 tyX7_ok nmX7 rfl (by decide) t_180 rfl rfl rfl rfl (tyX7_ok 7 (by decide)) rfl rfl (Nat.le_of_ble_eq_true rfl) dX7_init_83 ?_
  show J g mX7_init (RM 4 236 4889) _ 236 4889 (w0 ++ ((b, .inr (7, [.ref q1v, .ref q4v, .ref q7v, .int (nI 0), .ref q10v, .ref q13v, .ref q16v, .ref q19v, .int 0, .int 0, .int 0])) :: ((((((bk2v ++ bk5v) ++ bk8v) ++ bk11v) ++ bk14v) ++ bk17v) ++ bk20v))) 86 [some (.ref b)] []
  refine J.al0 dX7_init_86 ?_
  refine J.iconst (v := -1) dX7_init_87 (by decide) ?_
  refine J.putX (C := RX7) (T := TX7) (N := 11) (ci := 7) (kf := 8) (i := 0) (v := .int (-1)) (ty := tyX7 8) inB7 tyX7 tyX7_ok nmX7 rfl (by decide) t_181 rfl rfl (tyX7_ok 8 (by decide)) (by decide) (by decide) (Nat.le_of_ble_eq_true rfl) dX7_init_88 ?_
  show J g mX7_init (RM 4 236 4889) _ 236 4889 (w0 ++ ((b, .inr (7, [.ref q1v, .ref q4v, .ref q7v, .int (nI 0), .ref q10v, .ref q13v, .ref q16v, .ref q19v, .int (-1), .int 0, .int 0])) :: ((((((bk2v ++ bk5v) ++ bk8v) ++ bk11v) ++ bk14v) ++ bk17v) ++ bk20v))) 91 [some (.ref b)] []
  refine J.al0 dX7_init_91 ?_
  refine J.iconst (v := -1) dX7_init_92 (by decide) ?_
  refine J.putX (C := RX7) (T := TX7) (N := 11) (ci := 7) (kf := 9) (i := 0) (v := .int (-1)) (ty := tyX7 9) inB7 tyX7 tyX7_ok nmX7 rfl (by decide) t_182 rfl rfl (tyX7_ok 9 (by decide)) (by decide) (by decide) (Nat.le_of_ble_eq_true rfl) dX7_init_93 ?_
  show J g mX7_init (RM 4 236 4889) _ 236 4889 (w0 ++ ((b, .inr (7, [.ref q1v, .ref q4v, .ref q7v, .int (nI 0), .ref q10v, .ref q13v, .ref q16v, .ref q19v, .int (-1), .int (-1), .int 0])) :: ((((((bk2v ++ bk5v) ++ bk8v) ++ bk11v) ++ bk14v) ++ bk17v) ++ bk20v))) 96 [some (.ref b)] []
  refine J.al0 dX7_init_96 ?_
  refine J.iconst dX7_init_97 kI_0 ?_
  refine J.putX (C := RX7) (T := TX7) (N := 11) (ci := 7) (kf := 10) (i := 0) (v := .int (nI 0)) (ty := tyX7 10) inB7 tyX7 tyX7_ok nmX7 rfl (by decide) t_183 rfl rfl (tyX7_ok 10 (by decide)) (by decide) (by decide) (Nat.le_of_ble_eq_true rfl) dX7_init_98 ?_
  show J g mX7_init (RM 4 236 4889) _ 236 4889 (w0 ++ ((b, .inr (7, [.ref q1v, .ref q4v, .ref q7v, .int (nI 0), .ref q10v, .ref q13v, .ref q16v, .ref q19v, .int (-1), .int (-1), .int (nI 0)])) :: ((((((bk2v ++ bk5v) ++ bk8v) ++ bk11v) ++ bk14v) ++ bk17v) ++ bk20v))) 101 [some (.ref b)] []
  exact J.vretI rfl (by decide) (by decide) dX7_init_101 ⟨rfl, _, ⟨_, _, _, _, _, _, _, _, _, _, _, _, _, _, hb3v, hb6v, hb9v, hb12v, hb15v, hb18v, hb21v, rfl⟩, rfl⟩
