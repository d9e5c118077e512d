/-! CONSTRUCTORS: what they make -/
def wsX6 (ck : Nat → ClassId) (h0 : Nat) (a : Nat → Nat) : va_W := (h0, .inr (6, [.ref (a 0), .ref (a 12), .ref (a 24), .ref (a 36), .ref (a 38), .ref (a 39), .ref (a 46), .ref (a 47), .ref (a 48), .ref (a 49)])) :: (((((((((([] ++ wsX1 ck (a 0) (fun k => a (1 + k))) ++ wsX1 ck (a 12) (fun k => a (13 + k))) ++ wsX1 ck (a 24) (fun k => a (25 + k))) ++ wsX2 ck (a 36) (fun k => a (37 + k))) ++ wsX5 ck (a 38) (fun k => a (39 + k))) ++ wsX0 ck (a 39) (fun k => a (40 + k))) ++ [(a 46, .inl (ck 0, 6, .inl (fun _ => 0)))]) ++ [(a 47, .inl (ck 0, 6, .inl (fun _ => 0)))]) ++ [(a 48, .inl (ck 0, 6, .inl (fun _ => 0)))]) ++ [(a 49, .inl (ck 0, 6, .inl (fun _ => 0)))])
set_option maxHeartbeats 4000000 in
set_option maxRecDepth 100000 in
theorem kc_X6 : KC mX6_init 6 [.null, .null, .null, .null, .null, .null, .null, .null, .null, .null] wsX6 50 817 := by
  refine KC.of (by decide) rfl rfl (by decide) ?_
  intro p l e s m args below meth c D ck h0 A X hn hr hk
  refine k_aload (pc := 0) (j := 0) X dX6_init_0 rfl rfl ?_
  refine k_obj (pc := 1) X dX6_init_1 ml_X6_1 (Nat.le_of_ble_eq_true rfl) (Nat.le_of_ble_eq_true rfl) ?_
  refine k_aload (pc := 4) (j := 0) X dX6_init_4 rfl rfl ?_
  refine k_new (pc := 5) (ci := 1) (fs := [.null, .null, .null, .int 0]) X dX6_init_5 rfl la_X1 tyX1_ok cl_X6_7 in_X1 ini_RX1 df_X1 (Nat.le_of_ble_eq_true rfl) (Nat.le_of_ble_eq_true rfl) (fun b0 => ?_)
  refine k_cells (ce := 1) (sl := 4) rfl rfl ?_
  refine k_dup (pc := 8) X dX6_init_8 rfl ?_
  refine k_init (pc := 9) X kc_X1 co_X1_init rfl ci_X1_init rfl (Nat.le_of_ble_eq_true rfl) (Nat.le_of_ble_eq_true rfl) ml_X6_9 rfl dX6_init_9 (Nat.le_of_ble_eq_true rfl) (Nat.le_of_ble_eq_true rfl) (Nat.le_of_ble_eq_true rfl) (fun a0 => ?_)
  refine k_cells (ce := 12) (sl := 188) rfl rfl ?_
  refine k_hd ?_
  refine k_putF (pc := 12) (ci := 6) (fs' := [.ref b0, .null, .null, .null, .null, .null, .null, .null, .null, .null]) 0 X hn dX6_init_12 rfl la_X6 tyX6_ok nmX6 (by decide) fl_X6_10 rfl rfl (tyX6_ok 0 (by decide)) rfl rfl (Nat.le_of_ble_eq_true rfl) rfl ?_
  refine k_aload (pc := 15) (j := 0) X dX6_init_15 rfl rfl ?_
  refine k_new (pc := 16) (ci := 1) (fs := [.null, .null, .null, .int 0]) X dX6_init_16 rfl la_X1 tyX1_ok cl_X6_7 in_X1 ini_RX1 df_X1 (Nat.le_of_ble_eq_true rfl) (Nat.le_of_ble_eq_true rfl) (fun b1 => ?_)
  refine k_cells (ce := 13) (sl := 192) rfl rfl ?_
  refine k_dup (pc := 19) X dX6_init_19 rfl ?_
  refine k_init (pc := 20) X kc_X1 co_X1_init rfl ci_X1_init rfl (Nat.le_of_ble_eq_true rfl) (Nat.le_of_ble_eq_true rfl) ml_X6_9 rfl dX6_init_20 (Nat.le_of_ble_eq_true rfl) (Nat.le_of_ble_eq_true rfl) (Nat.le_of_ble_eq_true rfl) (fun a1 => ?_)
  refine k_cells (ce := 24) (sl := 376) rfl rfl ?_
  refine k_hd ?_
  refine k_putF (pc := 23) (ci := 6) (fs' := [.ref b0, .ref b1, .null, .null, .null, .null, .null, .null, .null, .null]) 1 X hn dX6_init_23 rfl la_X6 tyX6_ok nmX6 (by decide) fl_X6_16 rfl rfl (tyX6_ok 1 (by decide)) rfl rfl (Nat.le_of_ble_eq_true rfl) rfl ?_
  refine k_aload (pc := 26) (j := 0) X dX6_init_26 rfl rfl ?_
  refine k_new (pc := 27) (ci := 1) (fs := [.null, .null, .null, .int 0]) X dX6_init_27 rfl la_X1 tyX1_ok cl_X6_7 in_X1 ini_RX1 df_X1 (Nat.le_of_ble_eq_true rfl) (Nat.le_of_ble_eq_true rfl) (fun b2 => ?_)
  refine k_cells (ce := 25) (sl := 380) rfl rfl ?_
  refine k_dup (pc := 30) X dX6_init_30 rfl ?_
  refine k_init (pc := 31) X kc_X1 co_X1_init rfl ci_X1_init rfl (Nat.le_of_ble_eq_true rfl) (Nat.le_of_ble_eq_true rfl) ml_X6_9 rfl dX6_init_31 (Nat.le_of_ble_eq_true rfl) (Nat.le_of_ble_eq_true rfl) (Nat.le_of_ble_eq_true rfl) (fun a2 => ?_)
  refine k_cells (ce := 36) (sl := 564) rfl rfl ?_
  refine k_hd ?_
  refine k_putF (pc := 34) (ci := 6) (fs' := [.ref b0, .ref b1, .ref b2, .null, .null, .null, .null, .null, .null, .null]) 2 X hn dX6_init_34 rfl la_X6 tyX6_ok nmX6 (by decide) fl_X6_19 rfl rfl (tyX6_ok 2 (by decide)) rfl rfl (Nat.le_of_ble_eq_true rfl) rfl ?_
  refine k_aload (pc := 37) (j := 0) X dX6_init_37 rfl rfl ?_
  refine k_new (pc := 38) (ci := 2) (fs := [.null, .int 0]) X dX6_init_38 rfl la_X2 tyX2_ok cl_X6_22 in_X2 ini_RX2 df_X2 (Nat.le_of_ble_eq_true rfl) (Nat.le_of_ble_eq_true rfl) (fun b3 => ?_)
  refine k_cells (ce := 37) (sl := 566) rfl rfl ?_
  refine k_dup (pc := 41) X dX6_init_41 rfl ?_
  refine k_init (pc := 42) X kc_X2 co_X2_init rfl ci_X2_init rfl (Nat.le_of_ble_eq_true rfl) (Nat.le_of_ble_eq_true rfl) ml_X6_24 rfl dX6_init_42 (Nat.le_of_ble_eq_true rfl) (Nat.le_of_ble_eq_true rfl) (Nat.le_of_ble_eq_true rfl) (fun a3 => ?_)
  refine k_cells (ce := 38) (sl := 626) rfl rfl ?_
  refine k_hd ?_
  refine k_putF (pc := 45) (ci := 6) (fs' := [.ref b0, .ref b1, .ref b2, .ref b3, .null, .null, .null, .null, .null, .null]) 3 X hn dX6_init_45 rfl la_X6 tyX6_ok nmX6 (by decide) fl_X6_25 rfl rfl (tyX6_ok 3 (by decide)) rfl rfl (Nat.le_of_ble_eq_true rfl) rfl ?_
  refine k_aload (pc := 48) (j := 0) X dX6_init_48 rfl rfl ?_
  refine k_new (pc := 49) (ci := 5) (fs := [.int 0, .int 0, .int 0, .int 0, .int 0]) X dX6_init_49 rfl la_X5 tyX5_ok cl_X6_29 in_X5 ini_RX5 df_X5 (Nat.le_of_ble_eq_true rfl) (Nat.le_of_ble_eq_true rfl) (fun b4 => ?_)
  refine k_cells (ce := 39) (sl := 631) rfl rfl ?_
  refine k_dup (pc := 52) X dX6_init_52 rfl ?_
  refine k_initN (pc := 53) X kc_X5 co_X5_init rfl ci_X5_init rfl (Nat.le_of_ble_eq_true rfl) (Nat.le_of_ble_eq_true rfl) (host := "SnoresGold") (by decide) rfl dX6_init_53 (Nat.le_of_ble_eq_true rfl) (Nat.le_of_ble_eq_true rfl) (Nat.le_of_ble_eq_true rfl) (fun a4 => ?_)
  refine k_cells (ce := 39) (sl := 631) rfl rfl ?_
  refine k_hd ?_
  refine k_putF (pc := 56) (ci := 6) (fs' := [.ref b0, .ref b1, .ref b2, .ref b3, .ref b4, .null, .null, .null, .null, .null]) 4 X hn dX6_init_56 rfl la_X6 tyX6_ok nmX6 (by decide) fl_X6_32 rfl rfl (tyX6_ok 4 (by decide)) rfl rfl (Nat.le_of_ble_eq_true rfl) rfl ?_
  refine k_aload (pc := 59) (j := 0) X dX6_init_59 rfl rfl ?_
  refine k_new (pc := 60) (ci := 0) (fs := [.null, .null, .null, .null, .null, .null, .int 0, .int 0, .int 0, .int 0]) X dX6_init_60 rfl la_X0 tyX0_ok cl_X6_36 in_X0 ini_RX0 df_X0 (Nat.le_of_ble_eq_true rfl) (Nat.le_of_ble_eq_true rfl) (fun b5 => ?_)
  refine k_cells (ce := 40) (sl := 641) rfl rfl ?_
  refine k_dup (pc := 63) X dX6_init_63 rfl ?_
  refine k_init (pc := 64) X kc_X0 co_X0_init rfl ci_X0_init rfl (Nat.le_of_ble_eq_true rfl) (Nat.le_of_ble_eq_true rfl) ml_X6_38 rfl dX6_init_64 (Nat.le_of_ble_eq_true rfl) (Nat.le_of_ble_eq_true rfl) (Nat.le_of_ble_eq_true rfl) (fun a5 => ?_)
  refine k_cells (ce := 46) (sl := 793) rfl rfl ?_
  refine k_hd ?_
  refine k_putF (pc := 67) (ci := 6) (fs' := [.ref b0, .ref b1, .ref b2, .ref b3, .ref b4, .ref b5, .null, .null, .null, .null]) 5 X hn dX6_init_67 rfl la_X6 tyX6_ok nmX6 (by decide) fl_X6_39 rfl rfl (tyX6_ok 5 (by decide)) rfl rfl (Nat.le_of_ble_eq_true rfl) rfl ?_
  refine k_aload (pc := 70) (j := 0) X dX6_init_70 rfl rfl ?_
  refine k_bipush (pc := 71) (6) X dX6_init_71 (by decide) ?_
  refine k_newI (pc := 73) 6 X dX6_init_73 (by decide) (by decide) (Nat.le_of_ble_eq_true rfl) (Nat.le_of_ble_eq_true rfl) (Nat.le_of_ble_eq_true rfl) (fun r46 => ?_)
  refine k_cells (ce := 47) (sl := 799) rfl rfl ?_
  refine k_hd ?_
  refine k_putF (pc := 75) (ci := 6) (fs' := [.ref b0, .ref b1, .ref b2, .ref b3, .ref b4, .ref b5, .ref r46, .null, .null, .null]) 6 X hn dX6_init_75 rfl la_X6 tyX6_ok nmX6 (by decide) fl_X6_43 rfl rfl (tyX6_ok 6 (by decide)) rfl rfl (Nat.le_of_ble_eq_true rfl) rfl ?_
  refine k_aload (pc := 78) (j := 0) X dX6_init_78 rfl rfl ?_
  refine k_bipush (pc := 79) (6) X dX6_init_79 (by decide) ?_
  refine k_newI (pc := 81) 6 X dX6_init_81 (by decide) (by decide) (Nat.le_of_ble_eq_true rfl) (Nat.le_of_ble_eq_true rfl) (Nat.le_of_ble_eq_true rfl) (fun r47 => ?_)
  refine k_cells (ce := 48) (sl := 805) rfl rfl ?_
  refine k_hd ?_
  refine k_putF (pc := 83) (ci := 6) (fs' := [.ref b0, .ref b1, .ref b2, .ref b3, .ref b4, .ref b5, .ref r46, .ref r47, .null, .null]) 7 X hn dX6_init_83 rfl la_X6 tyX6_ok nmX6 (by decide) fl_X6_47 rfl rfl (tyX6_ok 7 (by decide)) rfl rfl (Nat.le_of_ble_eq_true rfl) rfl ?_
  refine k_aload (pc := 86) (j := 0) X dX6_init_86 rfl rfl ?_
  refine k_bipush (pc := 87) (6) X dX6_init_87 (by decide) ?_
  refine k_newI (pc := 89) 6 X dX6_init_89 (by decide) (by decide) (Nat.le_of_ble_eq_true rfl) (Nat.le_of_ble_eq_true rfl) (Nat.le_of_ble_eq_true rfl) (fun r48 => ?_)
  refine k_cells (ce := 49) (sl := 811) rfl rfl ?_
  refine k_hd ?_
  refine k_putF (pc := 91) (ci := 6) (fs' := [.ref b0, .ref b1, .ref b2, .ref b3, .ref b4, .ref b5, .ref r46, .ref r47, .ref r48, .null]) 8 X hn dX6_init_91 rfl la_X6 tyX6_ok nmX6 (by decide) fl_X6_50 rfl rfl (tyX6_ok 8 (by decide)) rfl rfl (Nat.le_of_ble_eq_true rfl) rfl ?_
  refine k_aload (pc := 94) (j := 0) X dX6_init_94 rfl rfl ?_
  refine k_bipush (pc := 95) (6) X dX6_init_95 (by decide) ?_
  refine k_newI (pc := 97) 6 X dX6_init_97 (by decide) (by decide) (Nat.le_of_ble_eq_true rfl) (Nat.le_of_ble_eq_true rfl) (Nat.le_of_ble_eq_true rfl) (fun r49 => ?_)
  refine k_cells (ce := 50) (sl := 817) rfl rfl ?_
  refine k_hd ?_
  refine k_putF (pc := 99) (ci := 6) (fs' := [.ref b0, .ref b1, .ref b2, .ref b3, .ref b4, .ref b5, .ref r46, .ref r47, .ref r48, .ref r49]) 9 X hn dX6_init_99 rfl la_X6 tyX6_ok nmX6 (by decide) fl_X6_53 rfl rfl (tyX6_ok 9 (by decide)) rfl rfl (Nat.le_of_ble_eq_true rfl) rfl ?_
  exact k_vret (pc := 102) (Ws := fun a => wsX6 ck h0 a) X hr hk dX6_init_102 (fun k => ([b0, a0 0, a0 1, a0 2, a0 3, a0 4, a0 5, a0 6, a0 7, a0 8, a0 9, a0 10, b1, a1 0, a1 1, a1 2, a1 3, a1 4, a1 5, a1 6, a1 7, a1 8, a1 9, a1 10, b2, a2 0, a2 1, a2 2, a2 3, a2 4, a2 5, a2 6, a2 7, a2 8, a2 9, a2 10, b3, a3 0, b4, b5, a5 0, a5 1, a5 2, a5 3, a5 4, a5 5, r46, r47, r48, r49] : List Nat).getD k 0) rfl
