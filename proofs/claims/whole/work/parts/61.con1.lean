/-! CONSTRUCTORS: what they make -/
theorem df_X0 : ∀ j, j < 10 → defaultValue (tyX0 j) = vp_V [.null, .null, .null, .null, .null, .null, .int 0, .int 0, .int 0, .int 0] j := by decide +kernel
theorem df_X1 : ∀ j, j < 4 → defaultValue (tyX1 j) = vp_V [.null, .null, .null, .int 0] j := by decide +kernel
theorem df_X2 : ∀ j, j < 2 → defaultValue (tyX2 j) = vp_V [.null, .int 0] j := by decide +kernel
theorem df_X3 : ∀ j, j < 2 → defaultValue (tyX3 j) = vp_V [.long 0, .int 0] j := by decide +kernel
theorem df_X4 : ∀ j, j < 4 → defaultValue (tyX4 j) = vp_V [.null, .null, .int 0, .int 0] j := by decide +kernel
theorem df_X5 : ∀ j, j < 5 → defaultValue (tyX5 j) = vp_V [.int 0, .int 0, .int 0, .int 0, .int 0] j := by decide +kernel
theorem df_X6 : ∀ j, j < 10 → defaultValue (tyX6 j) = vp_V [.null, .null, .null, .null, .null, .null, .null, .null, .null, .null] j := by decide +kernel
theorem df_X7 : ∀ j, j < 37 → defaultValue (tyX7 j) = vp_V [.null, .null, .int 0, .null, .null, .null, .null, .null, .null, .null, .null, .int 0, .null, .null, .int 0, .null, .int 0, .null, .null, .null, .int 0, .int 0, .int 0, .int 0, .int 0, .null, .null, .int 0, .int 0, .null, .null, .null, .null, .null, .null, .int 0, .int 0] j := by decide +kernel
def wsX0 (ck : Nat → ClassId) (h0 : Nat) (a : Nat → Nat) : va_W := (h0, .inr (0, [.ref (a 0), .ref (a 1), .ref (a 2), .ref (a 3), .ref (a 4), .ref (a 5), .int 0, .int 0, .int 0, .int 0])) :: (((((([] ++ [(a 0, .inl (ck 0, 64, .inl (fun _ => 0)))]) ++ [(a 1, .inl (ck 0, 64, .inl (cpy (fun _ => -1) (fun _ => 0) 64)))]) ++ [(a 2, .inl (ck 0, 6, .inl (fun _ => 0)))]) ++ [(a 3, .inl (ck 0, 6, .inl (fun _ => 0)))]) ++ [(a 4, .inl (ck 1, 6, .inr (.inl (fun _ => 0))))]) ++ [(a 5, .inl (ck 0, 6, .inl (fun _ => 0)))])
theorem kl_X0 {p : Program} {l : Launch} {e : Env} {R : Room} {s : State} {m : MethodId} {args : Array Value} {below : List Frame} {meth : Method} {c : Code} {Q : State → Prop} {D : va_G} {ck : Nat → ClassId} {A : Nat → Prop} {ce sl h0 r : Nat} {fs : List Value} {w : (Nat → Int32) → va_W} (X : KX mX0_init p s m args c D ck A) (he0 : ∀ F, (w F)[0]? = some (h0, .inr (0, fs))) (hv : fs[1]? = some (.ref r)) (he : ∀ F, (w F)[2]? = some (r, .inl (ck 0, 64, .inl F))) (hs : ∀ F G, (w F).set 2 (r, .inl (ck 0, 64, .inl G)) = w G)
    (k : ∀ x, KW mX0_init p l e R s m args below meth c Q D A 41 [(1, .int x), (0, .ref h0)] [] (w (cpy (fun _ => -1) (fun _ => 0) 64)) ce sl) : KW mX0_init p l e R s m args below meth c Q D A 22 [(1, .int 0), (0, .ref h0)] [] (w (fun _ => 0)) ce sl := by
  have lp : ∀ n j, j + n = 64 → KW mX0_init p l e R s m args below meth c Q D A 22 [(1, .int (nI j)), (0, .ref h0)] [] (w (cpy (fun _ => -1) (fun _ => 0) j)) ce sl := by
    intro n
    induction n with
    | zero =>
      intro j hj
      have ej : j = 64 := by omega
      refine k_iload (pc := 22) (j := 0) X dX0_init_22 rfl rfl ?_
      refine k_bipush (pc := 23) 64 X dX0_init_23 (by decide) ?_
      refine k_icmp_ge (pc := 25) 41 X dX0_init_25 (by decide) (fun _ => ?_) (fun z => ?_)
      · rw [ej]; exact k _
      · exact absurd (show (64 : Int32) ≤ nI j by rw [ej]; decide) z
    | succ n ih =>
      intro j hj
      refine k_iload (pc := 22) (j := 0) X dX0_init_22 rfl rfl ?_
      refine k_bipush (pc := 23) 64 X dX0_init_23 (by decide) ?_
      refine k_icmp_ge (pc := 25) 41 X dX0_init_25 (by decide) (fun z => ?_) (fun _ => ?_)
      · exact absurd ((nI_leI (a := 64) (by decide) (by omega)).mp z) (by omega)
      · refine k_aload (pc := 28) (j := 1) X dX0_init_28 rfl rfl ?_
        refine k_get (pc := 29) 1 X dX0_init_29 (he0 _) rfl la_X0 (by decide) fl_X0_15 hv ?_
        refine k_iload (pc := 32) (j := 0) X dX0_init_32 rfl rfl ?_
        refine k_iconst (pc := 33) (-1) X dX0_init_33 (by decide) ?_
        refine k_iast (pc := 34) 2 X dX0_init_34 (he _) (show j < 64 by omega) (by decide) (hs _ _) ?_
        refine k_iinc (pc := 35) (j := 0) (v := nI (j + 1)) (L' := [(1, .int (nI (j + 1))), (0, .ref h0)]) X dX0_init_35 rfl (nI_1 j) (by decide) rfl ?_
        refine k_goto (pc := 38) 22 X dX0_init_38 (by decide) ?_
        rw [show upd (cpy (fun _ => (-1 : Int32)) (fun _ => 0) j) j (-1) = cpy (fun _ => -1) (fun _ => 0) (j + 1) from cpy_s (fun _ => -1) (fun _ => 0) j]
        exact ih (j + 1) (by omega)
  have h := lp 64 0 (by decide)
  rw [cpy_0, nI_0] at h
  exact h
set_option maxHeartbeats 4000000 in
set_option maxRecDepth 100000 in
theorem kc_X0 : KC mX0_init 0 [.null, .null, .null, .null, .null, .null, .int 0, .int 0, .int 0, .int 0] wsX0 6 152 := by
  refine KC.of (by decide) rfl rfl (by decide) ?_
  intro p l e s m args below meth c D ck h0 A X hn hr hk
  refine k_aload (pc := 0) (j := 0) X dX0_init_0 rfl rfl ?_
  refine k_obj (pc := 1) X dX0_init_1 ml_X0_3 (Nat.le_of_ble_eq_true rfl) (Nat.le_of_ble_eq_true rfl) ?_
  refine k_aload (pc := 4) (j := 0) X dX0_init_4 rfl rfl ?_
  refine k_bipush (pc := 5) (64) X dX0_init_5 (by decide) ?_
  refine k_newI (pc := 7) 64 X dX0_init_7 (by decide) (by decide) (Nat.le_of_ble_eq_true rfl) (Nat.le_of_ble_eq_true rfl) (Nat.le_of_ble_eq_true rfl) (fun r0 => ?_)
  refine k_cells (ce := 1) (sl := 64) rfl rfl ?_
  refine k_hd ?_
  refine k_putF (pc := 9) (ci := 0) (fs' := [.ref r0, .null, .null, .null, .null, .null, .int 0, .int 0, .int 0, .int 0]) 0 X hn dX0_init_9 rfl la_X0 tyX0_ok nmX0 (by decide) fl_X0_9 rfl rfl (tyX0_ok 0 (by decide)) rfl rfl (Nat.le_of_ble_eq_true rfl) rfl ?_
  refine k_aload (pc := 12) (j := 0) X dX0_init_12 rfl rfl ?_
  refine k_bipush (pc := 13) (64) X dX0_init_13 (by decide) ?_
  refine k_newI (pc := 15) 64 X dX0_init_15 (by decide) (by decide) (Nat.le_of_ble_eq_true rfl) (Nat.le_of_ble_eq_true rfl) (Nat.le_of_ble_eq_true rfl) (fun r1 => ?_)
  refine k_cells (ce := 2) (sl := 128) rfl rfl ?_
  refine k_hd ?_
  refine k_putF (pc := 17) (ci := 0) (fs' := [.ref r0, .ref r1, .null, .null, .null, .null, .int 0, .int 0, .int 0, .int 0]) 1 X hn dX0_init_17 rfl la_X0 tyX0_ok nmX0 (by decide) fl_X0_15 rfl rfl (tyX0_ok 1 (by decide)) rfl rfl (Nat.le_of_ble_eq_true rfl) rfl ?_
  refine k_iconst (pc := 20) (0) X dX0_init_20 (by decide) ?_
  refine k_istore (pc := 21) (L' := [(1, .int 0), (0, .ref h0)]) X dX0_init_21 rfl (by decide) rfl ?_
  refine kl_X0 (w := fun F => (h0, .inr (0, [.ref r0, .ref r1, .null, .null, .null, .null, .int 0, .int 0, .int 0, .int 0])) :: (([] ++ [(r0, .inl (ck 0, 64, .inl (fun _ => 0)))]) ++ [(r1, .inl (ck 0, 64, .inl F))])) (fs := [.ref r0, .ref r1, .null, .null, .null, .null, .int 0, .int 0, .int 0, .int 0]) (r := r1) X (fun _ => rfl) rfl (fun _ => rfl) (fun _ _ => rfl) (fun x => ?_)
  refine k_ws (ws' := (h0, .inr (0, [.ref r0, .ref r1, .null, .null, .null, .null, .int 0, .int 0, .int 0, .int 0])) :: (([] ++ [(r0, .inl (ck 0, 64, .inl (fun _ => 0)))]) ++ [(r1, .inl (ck 0, 64, .inl (cpy (fun _ => -1) (fun _ => 0) 64)))])) rfl ?_
  refine k_aload (pc := 41) (j := 1) X dX0_init_41 rfl rfl ?_
  refine k_bipush (pc := 42) (6) X dX0_init_42 (by decide) ?_
  refine k_newI (pc := 44) 6 X dX0_init_44 (by decide) (by decide) (Nat.le_of_ble_eq_true rfl) (Nat.le_of_ble_eq_true rfl) (Nat.le_of_ble_eq_true rfl) (fun r2 => ?_)
  refine k_cells (ce := 3) (sl := 134) rfl rfl ?_
  refine k_hd ?_
  refine k_putF (pc := 46) (ci := 0) (fs' := [.ref r0, .ref r1, .ref r2, .null, .null, .null, .int 0, .int 0, .int 0, .int 0]) 2 X hn dX0_init_46 rfl la_X0 tyX0_ok nmX0 (by decide) fl_X0_18 rfl rfl (tyX0_ok 2 (by decide)) rfl rfl (Nat.le_of_ble_eq_true rfl) rfl ?_
  refine k_aload (pc := 49) (j := 1) X dX0_init_49 rfl rfl ?_
  refine k_bipush (pc := 50) (6) X dX0_init_50 (by decide) ?_
  refine k_newI (pc := 52) 6 X dX0_init_52 (by decide) (by decide) (Nat.le_of_ble_eq_true rfl) (Nat.le_of_ble_eq_true rfl) (Nat.le_of_ble_eq_true rfl) (fun r3 => ?_)
  refine k_cells (ce := 4) (sl := 140) rfl rfl ?_
  refine k_hd ?_
  refine k_putF (pc := 54) (ci := 0) (fs' := [.ref r0, .ref r1, .ref r2, .ref r3, .null, .null, .int 0, .int 0, .int 0, .int 0]) 3 X hn dX0_init_54 rfl la_X0 tyX0_ok nmX0 (by decide) fl_X0_21 rfl rfl (tyX0_ok 3 (by decide)) rfl rfl (Nat.le_of_ble_eq_true rfl) rfl ?_
  refine k_aload (pc := 57) (j := 1) X dX0_init_57 rfl rfl ?_
  refine k_bipush (pc := 58) (6) X dX0_init_58 (by decide) ?_
  refine k_newL (pc := 60) 6 X dX0_init_60 (by decide) (by decide) (Nat.le_of_ble_eq_true rfl) (Nat.le_of_ble_eq_true rfl) (Nat.le_of_ble_eq_true rfl) (fun r4 => ?_)
  refine k_cells (ce := 5) (sl := 146) rfl rfl ?_
  refine k_hd ?_
  refine k_putF (pc := 62) (ci := 0) (fs' := [.ref r0, .ref r1, .ref r2, .ref r3, .ref r4, .null, .int 0, .int 0, .int 0, .int 0]) 4 X hn dX0_init_62 rfl la_X0 tyX0_ok nmX0 (by decide) fl_X0_24 rfl rfl (tyX0_ok 4 (by decide)) rfl rfl (Nat.le_of_ble_eq_true rfl) rfl ?_
  refine k_aload (pc := 65) (j := 1) X dX0_init_65 rfl rfl ?_
  refine k_bipush (pc := 66) (6) X dX0_init_66 (by decide) ?_
  refine k_newI (pc := 68) 6 X dX0_init_68 (by decide) (by decide) (Nat.le_of_ble_eq_true rfl) (Nat.le_of_ble_eq_true rfl) (Nat.le_of_ble_eq_true rfl) (fun r5 => ?_)
  refine k_cells (ce := 6) (sl := 152) rfl rfl ?_
  refine k_hd ?_
  refine k_putF (pc := 70) (ci := 0) (fs' := [.ref r0, .ref r1, .ref r2, .ref r3, .ref r4, .ref r5, .int 0, .int 0, .int 0, .int 0]) 5 X hn dX0_init_70 rfl la_X0 tyX0_ok nmX0 (by decide) fl_X0_28 rfl rfl (tyX0_ok 5 (by decide)) rfl rfl (Nat.le_of_ble_eq_true rfl) rfl ?_
  exact k_vret (pc := 73) (Ws := fun a => wsX0 ck h0 a) X hr hk dX0_init_73 (fun k => ([r0, r1, r2, r3, r4, r5] : List Nat).getD k 0) rfl
def wsX2 (ck : Nat → ClassId) (h0 : Nat) (a : Nat → Nat) : va_W := (h0, .inr (2, [.ref (a 0), .int 0])) :: ([] ++ [(a 0, .inl (ck 0, 60, .inl (fun _ => 0)))])
set_option maxHeartbeats 4000000 in
set_option maxRecDepth 100000 in
theorem kc_X2 : KC mX2_init 2 [.null, .int 0] wsX2 1 60 := by
  refine KC.of (by decide) rfl rfl (by decide) ?_
  intro p l e s m args below meth c D ck h0 A X hn hr hk
  refine k_aload (pc := 0) (j := 0) X dX2_init_0 rfl rfl ?_
  refine k_obj (pc := 1) X dX2_init_1 ml_X2_3 (Nat.le_of_ble_eq_true rfl) (Nat.le_of_ble_eq_true rfl) ?_
  refine k_aload (pc := 4) (j := 0) X dX2_init_4 rfl rfl ?_
  refine k_bipush (pc := 5) (60) X dX2_init_5 (by decide) ?_
  refine k_newI (pc := 7) 60 X dX2_init_7 (by decide) (by decide) (Nat.le_of_ble_eq_true rfl) (Nat.le_of_ble_eq_true rfl) (Nat.le_of_ble_eq_true rfl) (fun r0 => ?_)
  refine k_cells (ce := 1) (sl := 60) rfl rfl ?_
  refine k_hd ?_
  refine k_putF (pc := 9) (ci := 2) (fs' := [.ref r0, .int 0]) 0 X hn dX2_init_9 rfl la_X2 tyX2_ok nmX2 (by decide) fl_X2_9 rfl rfl (tyX2_ok 0 (by decide)) rfl rfl (Nat.le_of_ble_eq_true rfl) rfl ?_
  exact k_vret (pc := 12) (Ws := fun a => wsX2 ck h0 a) X hr hk dX2_init_12 (fun k => ([r0] : List Nat).getD k 0) rfl
def wsX3 (ck : Nat → ClassId) (h0 : Nat) (a : Nat → Nat) : va_W := (h0, .inr (3, [.long 70368744177663, .int 0])) :: []
set_option maxHeartbeats 4000000 in
set_option maxRecDepth 100000 in
theorem kc_X3 : KC mX3_init 3 [.long 0, .int 0] wsX3 0 0 := by
  refine KC.of (by decide) rfl rfl (by decide) ?_
  intro p l e s m args below meth c D ck h0 A X hn hr hk
  refine k_aload (pc := 0) (j := 0) X dX3_init_0 rfl rfl ?_
  refine k_obj (pc := 1) X dX3_init_1 ml_X3_5 (Nat.le_of_ble_eq_true rfl) (Nat.le_of_ble_eq_true rfl) ?_
  refine k_aload (pc := 4) (j := 0) X dX3_init_4 rfl rfl ?_
  refine k_ldc2 (pc := 5) X dX3_init_5 kl_X3_11 ?_
  refine k_putN (pc := 8) (ci := 3) (fs' := [.long 70368744177663, .int 0]) 0 X dX3_init_8 rfl la_X3 tyX3_ok nmX3 (by decide) fl_X3_13 rfl (tyX3_ok 0 (by decide)) rfl rfl (Nat.le_of_ble_eq_true rfl) rfl ?_
  exact k_vret (pc := 11) (Ws := fun a => wsX3 ck h0 a) X hr hk dX3_init_11 (fun k => ([] : List Nat).getD k 0) rfl
def wsX4 (ck : Nat → ClassId) (h0 : Nat) (a : Nat → Nat) : va_W := (h0, .inr (4, [.ref (a 0), .ref (a 1), .int 0, .int 0])) :: (([] ++ [(a 0, .inl (ck 0, 8, .inl (fun _ => 0)))]) ++ [(a 1, .inl (ck 0, 8, .inl (fun _ => 0)))])
set_option maxHeartbeats 4000000 in
set_option maxRecDepth 100000 in
theorem kc_X4 : KC mX4_init 4 [.null, .null, .int 0, .int 0] wsX4 2 16 := by
  refine KC.of (by decide) rfl rfl (by decide) ?_
  intro p l e s m args below meth c D ck h0 A X hn hr hk
  refine k_aload (pc := 0) (j := 0) X dX4_init_0 rfl rfl ?_
  refine k_obj (pc := 1) X dX4_init_1 ml_X4_3 (Nat.le_of_ble_eq_true rfl) (Nat.le_of_ble_eq_true rfl) ?_
  refine k_aload (pc := 4) (j := 0) X dX4_init_4 rfl rfl ?_
  refine k_bipush (pc := 5) (8) X dX4_init_5 (by decide) ?_
  refine k_newI (pc := 7) 8 X dX4_init_7 (by decide) (by decide) (Nat.le_of_ble_eq_true rfl) (Nat.le_of_ble_eq_true rfl) (Nat.le_of_ble_eq_true rfl) (fun r0 => ?_)
  refine k_cells (ce := 1) (sl := 8) rfl rfl ?_
  refine k_hd ?_
  refine k_putF (pc := 9) (ci := 4) (fs' := [.ref r0, .null, .int 0, .int 0]) 0 X hn dX4_init_9 rfl la_X4 tyX4_ok nmX4 (by decide) fl_X4_9 rfl rfl (tyX4_ok 0 (by decide)) rfl rfl (Nat.le_of_ble_eq_true rfl) rfl ?_
  refine k_aload (pc := 12) (j := 0) X dX4_init_12 rfl rfl ?_
  refine k_bipush (pc := 13) (8) X dX4_init_13 (by decide) ?_
  refine k_newI (pc := 15) 8 X dX4_init_15 (by decide) (by decide) (Nat.le_of_ble_eq_true rfl) (Nat.le_of_ble_eq_true rfl) (Nat.le_of_ble_eq_true rfl) (fun r1 => ?_)
  refine k_cells (ce := 2) (sl := 16) rfl rfl ?_
  refine k_hd ?_
  refine k_putF (pc := 17) (ci := 4) (fs' := [.ref r0, .ref r1, .int 0, .int 0]) 1 X hn dX4_init_17 rfl la_X4 tyX4_ok nmX4 (by decide) fl_X4_15 rfl rfl (tyX4_ok 1 (by decide)) rfl rfl (Nat.le_of_ble_eq_true rfl) rfl ?_
  exact k_vret (pc := 20) (Ws := fun a => wsX4 ck h0 a) X hr hk dX4_init_20 (fun k => ([r0, r1] : List Nat).getD k 0) rfl
def wsX5 (ck : Nat → ClassId) (h0 : Nat) (a : Nat → Nat) : va_W := (h0, .inr (5, [.int 0, .int 0, .int 0, .int 0, .int 0])) :: []
set_option maxHeartbeats 4000000 in
set_option maxRecDepth 100000 in
theorem kc_X5 : KC mX5_init 5 [.int 0, .int 0, .int 0, .int 0, .int 0] wsX5 0 0 := by
  refine KC.of (by decide) rfl rfl (by decide) ?_
  intro p l e s m args below meth c D ck h0 A X hn hr hk
  refine k_aload (pc := 0) (j := 0) X dX5_init_0 rfl rfl ?_
  refine k_obj (pc := 1) X dX5_init_1 ml_X5_3 (Nat.le_of_ble_eq_true rfl) (Nat.le_of_ble_eq_true rfl) ?_
  exact k_vret (pc := 4) (Ws := fun a => wsX5 ck h0 a) X hr hk dX5_init_4 (fun k => ([] : List Nat).getD k 0) rfl
def wsX1 (ck : Nat → ClassId) (h0 : Nat) (a : Nat → Nat) : va_W := (h0, .inr (1, [.ref (a 0), .ref (a 7), .ref (a 10), .int 0])) :: ((([] ++ wsX0 ck (a 0) (fun k => a (1 + k))) ++ wsX4 ck (a 7) (fun k => a (8 + k))) ++ wsX3 ck (a 10) (fun k => a (11 + k)))
set_option maxHeartbeats 4000000 in
set_option maxRecDepth 100000 in
theorem kc_X1 : KC mX1_init 1 [.null, .null, .null, .int 0] wsX1 11 184 := by
  refine KC.of (by decide) rfl rfl (by decide) ?_
  intro p l e s m args below meth c D ck h0 A X hn hr hk
  refine k_aload (pc := 0) (j := 0) X dX1_init_0 rfl rfl ?_
  refine k_obj (pc := 1) X dX1_init_1 ml_X1_1 (Nat.le_of_ble_eq_true rfl) (Nat.le_of_ble_eq_true rfl) ?_
  refine k_aload (pc := 4) (j := 0) X dX1_init_4 rfl rfl ?_
  refine k_new (pc := 5) (ci := 0) (fs := [.null, .null, .null, .null, .null, .null, .int 0, .int 0, .int 0, .int 0]) X dX1_init_5 rfl la_X0 tyX0_ok cl_X1_7 in_X0 ini_RX0 df_X0 (Nat.le_of_ble_eq_true rfl) (Nat.le_of_ble_eq_true rfl) (fun b0 => ?_)
  refine k_cells (ce := 1) (sl := 10) rfl rfl ?_
  refine k_dup (pc := 8) X dX1_init_8 rfl ?_
  refine k_init (pc := 9) X kc_X0 co_X0_init rfl ci_X0_init rfl (Nat.le_of_ble_eq_true rfl) (Nat.le_of_ble_eq_true rfl) ml_X1_9 rfl dX1_init_9 (Nat.le_of_ble_eq_true rfl) (Nat.le_of_ble_eq_true rfl) (Nat.le_of_ble_eq_true rfl) (fun a0 => ?_)
  refine k_cells (ce := 7) (sl := 162) rfl rfl ?_
  refine k_hd ?_
  refine k_putF (pc := 12) (ci := 1) (fs' := [.ref b0, .null, .null, .int 0]) 0 X hn dX1_init_12 rfl la_X1 tyX1_ok nmX1 (by decide) fl_X1_10 rfl rfl (tyX1_ok 0 (by decide)) rfl rfl (Nat.le_of_ble_eq_true rfl) rfl ?_
  refine k_aload (pc := 15) (j := 0) X dX1_init_15 rfl rfl ?_
  refine k_new (pc := 16) (ci := 4) (fs := [.null, .null, .int 0, .int 0]) X dX1_init_16 rfl la_X4 tyX4_ok cl_X1_16 in_X4 ini_RX4 df_X4 (Nat.le_of_ble_eq_true rfl) (Nat.le_of_ble_eq_true rfl) (fun b1 => ?_)
  refine k_cells (ce := 8) (sl := 166) rfl rfl ?_
  refine k_dup (pc := 19) X dX1_init_19 rfl ?_
  refine k_init (pc := 20) X kc_X4 co_X4_init rfl ci_X4_init rfl (Nat.le_of_ble_eq_true rfl) (Nat.le_of_ble_eq_true rfl) ml_X1_18 rfl dX1_init_20 (Nat.le_of_ble_eq_true rfl) (Nat.le_of_ble_eq_true rfl) (Nat.le_of_ble_eq_true rfl) (fun a1 => ?_)
  refine k_cells (ce := 10) (sl := 182) rfl rfl ?_
  refine k_hd ?_
  refine k_putF (pc := 23) (ci := 1) (fs' := [.ref b0, .ref b1, .null, .int 0]) 1 X hn dX1_init_23 rfl la_X1 tyX1_ok nmX1 (by decide) fl_X1_19 rfl rfl (tyX1_ok 1 (by decide)) rfl rfl (Nat.le_of_ble_eq_true rfl) rfl ?_
  refine k_aload (pc := 26) (j := 0) X dX1_init_26 rfl rfl ?_
  refine k_new (pc := 27) (ci := 3) (fs := [.long 0, .int 0]) X dX1_init_27 rfl la_X3 tyX3_ok cl_X1_23 in_X3 ini_RX3 df_X3 (Nat.le_of_ble_eq_true rfl) (Nat.le_of_ble_eq_true rfl) (fun b2 => ?_)
  refine k_cells (ce := 11) (sl := 184) rfl rfl ?_
  refine k_dup (pc := 30) X dX1_init_30 rfl ?_
  refine k_init (pc := 31) X kc_X3 co_X3_init rfl ci_X3_init rfl (Nat.le_of_ble_eq_true rfl) (Nat.le_of_ble_eq_true rfl) ml_X1_25 rfl dX1_init_31 (Nat.le_of_ble_eq_true rfl) (Nat.le_of_ble_eq_true rfl) (Nat.le_of_ble_eq_true rfl) (fun a2 => ?_)
  refine k_cells (ce := 11) (sl := 184) rfl rfl ?_
  refine k_hd ?_
  refine k_putF (pc := 34) (ci := 1) (fs' := [.ref b0, .ref b1, .ref b2, .int 0]) 2 X hn dX1_init_34 rfl la_X1 tyX1_ok nmX1 (by decide) fl_X1_26 rfl rfl (tyX1_ok 2 (by decide)) rfl rfl (Nat.le_of_ble_eq_true rfl) rfl ?_
  exact k_vret (pc := 37) (Ws := fun a => wsX1 ck h0 a) X hr hk dX1_init_37 (fun k => ([b0, a0 0, a0 1, a0 2, a0 3, a0 4, a0 5, b1, a1 0, a1 1, b2] : List Nat).getD k 0) rfl
