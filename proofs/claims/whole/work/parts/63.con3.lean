/-! CONSTRUCTORS: what they make -/
def wsX7 (ck : Nat → ClassId) (h0 : Nat) (a : Nat → Nat) : va_W := (h0, .inr (7, [.ref (a 0), .ref (a 1), .int 0, .ref (a 2), .ref (a 3), .ref (a 4), .ref (a 5), .ref (a 6), .ref (a 7), .ref (a 8), .ref (a 9), .int 0, .ref (a 10), .ref (a 11), .int 0, .ref (a 12), .int 0, .ref (a 13), .ref (a 14), .ref (a 15), .int 0, .int 0, .int 0, .int 0, .int 0, .ref (a 16), .ref (a 17), .int 0, .int 0, .ref (a 18), .ref (a 19), .ref (a 20), .ref (a 21), .ref (a 22), .ref (a 23), .int 0, .int 0])) :: [(a 0, .inl (ck 0, 64, .inl (fun _ => 0))), (a 1, .inl (ck 0, 64, .inl (cpy (fun _ => -6) (fun _ => 0) 64))), (a 2, .inl (ck 0, 6, .inl (fun _ => 0))), (a 3, .inl (ck 1, 6, .inr (.inl (fun _ => 0)))), (a 4, .inl (ck 0, 6, .inl (fun _ => 0))), (a 5, .inl (ck 0, 6, .inl (fun _ => 0))), (a 6, .inl (ck 0, 6, .inl (fun _ => 0))), (a 7, .inl (ck 0, 8, .inl (fun _ => 0))), (a 8, .inl (ck 0, 8, .inl (fun _ => 0))), (a 9, .inl (ck 0, 8, .inl (fun _ => 0))), (a 10, .inl (ck 0, 8, .inl (fun _ => 0))), (a 11, .inl (ck 0, 8, .inl (fun _ => 0))), (a 12, .inl (ck 0, 60, .inl (fun _ => 0))), (a 13, .inl (ck 0, 60, .inl (fun _ => 0))), (a 14, .inl (ck 0, 60, .inl (fun _ => 0))), (a 15, .inl (ck 0, 60, .inl (fun _ => 0))), (a 16, .inl (ck 0, 88, .inl (fun _ => 0))), (a 17, .inl (ck 1, 6, .inr (.inl (fun _ => 0)))), (a 18, .inl (ck 0, 6, .inl (fun _ => 0))), (a 19, .inl (ck 0, 6, .inl (fun _ => 0))), (a 20, .inl (ck 0, 49, .inl (fun _ => 0))), (a 21, .inl (ck 0, 460, .inl (fun _ => 0))), (a 22, .inl (ck 1, 12, .inr (.inl (fun _ => 0)))), (a 23, .inl (ck 2, 2, .inl (fun _ => 0)))]
theorem kl_X7 {p : Program} {l : Launch} {e : Env} {R : Room} {s : State} {m : MethodId} {args : Array Value} {below : List Frame} {meth : Method} {c : Code} {Q : State → Prop} {D : va_G} {ck : Nat → ClassId} {A : Nat → Prop} {ce sl h0 r : Nat} {fs : List Value} {w : (Nat → Int32) → va_W} (X : KX mX7_init p s m args c D ck A) (he0 : ∀ F, (w F)[0]? = some (h0, .inr (7, fs))) (hv : fs[1]? = some (.ref r)) (he : ∀ F, (w F)[2]? = some (r, .inl (ck 0, 64, .inl F))) (hs : ∀ F G, (w F).set 2 (r, .inl (ck 0, 64, .inl G)) = w G)
    (k : ∀ x, KW mX7_init p l e R s m args below meth c Q D A 218 [(1, .int x), (0, .ref h0)] [] (w (cpy (fun _ => -6) (fun _ => 0) 64)) ce sl) : KW mX7_init p l e R s m args below meth c Q D A 198 [(1, .int 0), (0, .ref h0)] [] (w (fun _ => 0)) ce sl := by
  have lp : ∀ n j, j + n = 64 → KW mX7_init p l e R s m args below meth c Q D A 198 [(1, .int (nI j)), (0, .ref h0)] [] (w (cpy (fun _ => -6) (fun _ => 0) j)) ce sl := by
    intro n
    induction n with
    | zero =>
      intro j hj
      have ej : j = 64 := by omega
      refine k_iload (pc := 198) (j := 0) X dX7_init_198 rfl rfl ?_
      refine k_bipush (pc := 199) 64 X dX7_init_199 (by decide) ?_
      refine k_icmp_ge (pc := 201) 218 X dX7_init_201 (by decide) (fun _ => ?_) (fun z => ?_)
      · rw [ej]; exact k _
      · exact absurd (show (64 : Int32) ≤ nI j by rw [ej]; decide) z
    | succ n ih =>
      intro j hj
      refine k_iload (pc := 198) (j := 0) X dX7_init_198 rfl rfl ?_
      refine k_bipush (pc := 199) 64 X dX7_init_199 (by decide) ?_
      refine k_icmp_ge (pc := 201) 218 X dX7_init_201 (by decide) (fun z => ?_) (fun _ => ?_)
      · exact absurd ((nI_leI (a := 64) (by decide) (by omega)).mp z) (by omega)
      · refine k_aload (pc := 204) (j := 1) X dX7_init_204 rfl rfl ?_
        refine k_get (pc := 205) 1 X dX7_init_205 (he0 _) rfl la_X7 (by decide) fl_X7_13 hv ?_
        refine k_iload (pc := 208) (j := 0) X dX7_init_208 rfl rfl ?_
        refine k_bipush (pc := 209) (-6) X dX7_init_209 (by decide) ?_
        refine k_iast (pc := 211) 2 X dX7_init_211 (he _) (show j < 64 by omega) (by decide) (hs _ _) ?_
        refine k_iinc (pc := 212) (j := 0) (v := nI (j + 1)) (L' := [(1, .int (nI (j + 1))), (0, .ref h0)]) X dX7_init_212 rfl (nI_1 j) (by decide) rfl ?_
        refine k_goto (pc := 215) 198 X dX7_init_215 (by decide) ?_
        rw [show upd (cpy (fun _ => (-6 : Int32)) (fun _ => 0) j) j (-6) = cpy (fun _ => -6) (fun _ => 0) (j + 1) from cpy_s (fun _ => -6) (fun _ => 0) j]
        exact ih (j + 1) (by omega)
  have h := lp 64 0 (by decide)
  rw [cpy_0, nI_0] at h
  exact h
set_option maxHeartbeats 4000000 in
set_option maxRecDepth 100000 in
theorem kc_X7_s0 {p : Program} {l : Launch} {e : Env} {R : Room} {s : State} {m : MethodId} {args : Array Value} {below : List Frame} {meth : Method} {c : Code} {Q : State → Prop} {D : va_G} {ck : Nat → ClassId} {A : Nat → Prop} {h0 : Nat} {ws : va_W} (X : KX mX7_init p s m args c D ck A) (hn : meth.name = "<init>") (hRc : R.cells = 24) (hRs : R.slots = 1067)
    (k : ∀ r0 r1 r2 r3 r4 r5 : Nat, KW mX7_init p l e R s m args below meth c Q D A 52 [(0, .ref h0)] [] ((h0, .inr (7, [.ref r0, .ref r1, .int 0, .ref r2, .ref r3, .ref r4, .ref r5, .null, .null, .null, .null, .int 0, .null, .null, .int 0, .null, .int 0, .null, .null, .null, .int 0, .int 0, .int 0, .int 0, .int 0, .null, .null, .int 0, .int 0, .null, .null, .null, .null, .null, .null, .int 0, .int 0])) :: ((((((ws ++ [(r0, .inl (ck 0, 64, .inl (fun _ => 0)))]) ++ [(r1, .inl (ck 0, 64, .inl (fun _ => 0)))]) ++ [(r2, .inl (ck 0, 6, .inl (fun _ => 0)))]) ++ [(r3, .inl (ck 1, 6, .inr (.inl (fun _ => 0))))]) ++ [(r4, .inl (ck 0, 6, .inl (fun _ => 0)))]) ++ [(r5, .inl (ck 0, 6, .inl (fun _ => 0)))])) 6 152) : KW mX7_init p l e R s m args below meth c Q D A 4 [(0, .ref h0)] [] ((h0, .inr (7, [.null, .null, .int 0, .null, .null, .null, .null, .null, .null, .null, .null, .int 0, .null, .null, .int 0, .null, .int 0, .null, .null, .null, .int 0, .int 0, .int 0, .int 0, .int 0, .null, .null, .int 0, .int 0, .null, .null, .null, .null, .null, .null, .int 0, .int 0])) :: ws) 0 0 := by
  refine k_aload (pc := 4) (j := 0) X dX7_init_4 rfl rfl ?_
  refine k_bipush (pc := 5) (64) X dX7_init_5 (by decide) ?_
  refine k_newI (pc := 7) 64 X dX7_init_7 (by decide) (by decide) (Nat.le_of_ble_eq_true rfl) (by rw [hRc]; exact Nat.le_of_ble_eq_true rfl) (by rw [hRs]; exact Nat.le_of_ble_eq_true rfl) (fun r0 => ?_)
  refine k_cells (ce := 1) (sl := 64) rfl rfl ?_
  refine k_hd ?_
  refine k_putF (pc := 9) (ci := 7) (fs' := [.ref r0, .null, .int 0, .null, .null, .null, .null, .null, .null, .null, .null, .int 0, .null, .null, .int 0, .null, .int 0, .null, .null, .null, .int 0, .int 0, .int 0, .int 0, .int 0, .null, .null, .int 0, .int 0, .null, .null, .null, .null, .null, .null, .int 0, .int 0]) 0 X hn dX7_init_9 rfl la_X7 tyX7_ok nmX7 (by decide) fl_X7_7 rfl rfl (tyX7_ok 0 (by decide)) rfl rfl (Nat.le_of_ble_eq_true rfl) rfl ?_
  refine k_aload (pc := 12) (j := 0) X dX7_init_12 rfl rfl ?_
  refine k_bipush (pc := 13) (64) X dX7_init_13 (by decide) ?_
  refine k_newI (pc := 15) 64 X dX7_init_15 (by decide) (by decide) (Nat.le_of_ble_eq_true rfl) (by rw [hRc]; exact Nat.le_of_ble_eq_true rfl) (by rw [hRs]; exact Nat.le_of_ble_eq_true rfl) (fun r1 => ?_)
  refine k_cells (ce := 2) (sl := 128) rfl rfl ?_
  refine k_hd ?_
  refine k_putF (pc := 17) (ci := 7) (fs' := [.ref r0, .ref r1, .int 0, .null, .null, .null, .null, .null, .null, .null, .null, .int 0, .null, .null, .int 0, .null, .int 0, .null, .null, .null, .int 0, .int 0, .int 0, .int 0, .int 0, .null, .null, .int 0, .int 0, .null, .null, .null, .null, .null, .null, .int 0, .int 0]) 1 X hn dX7_init_17 rfl la_X7 tyX7_ok nmX7 (by decide) fl_X7_13 rfl rfl (tyX7_ok 1 (by decide)) rfl rfl (Nat.le_of_ble_eq_true rfl) rfl ?_
  refine k_aload (pc := 20) (j := 0) X dX7_init_20 rfl rfl ?_
  refine k_bipush (pc := 21) (6) X dX7_init_21 (by decide) ?_
  refine k_newI (pc := 23) 6 X dX7_init_23 (by decide) (by decide) (Nat.le_of_ble_eq_true rfl) (by rw [hRc]; exact Nat.le_of_ble_eq_true rfl) (by rw [hRs]; exact Nat.le_of_ble_eq_true rfl) (fun r2 => ?_)
  refine k_cells (ce := 3) (sl := 134) rfl rfl ?_
  refine k_hd ?_
  refine k_putF (pc := 25) (ci := 7) (fs' := [.ref r0, .ref r1, .int 0, .ref r2, .null, .null, .null, .null, .null, .null, .null, .int 0, .null, .null, .int 0, .null, .int 0, .null, .null, .null, .int 0, .int 0, .int 0, .int 0, .int 0, .null, .null, .int 0, .int 0, .null, .null, .null, .null, .null, .null, .int 0, .int 0]) 3 X hn dX7_init_25 rfl la_X7 tyX7_ok nmX7 (by decide) fl_X7_16 rfl rfl (tyX7_ok 3 (by decide)) rfl rfl (Nat.le_of_ble_eq_true rfl) rfl ?_
  refine k_aload (pc := 28) (j := 0) X dX7_init_28 rfl rfl ?_
  refine k_bipush (pc := 29) (6) X dX7_init_29 (by decide) ?_
  refine k_newL (pc := 31) 6 X dX7_init_31 (by decide) (by decide) (Nat.le_of_ble_eq_true rfl) (by rw [hRc]; exact Nat.le_of_ble_eq_true rfl) (by rw [hRs]; exact Nat.le_of_ble_eq_true rfl) (fun r3 => ?_)
  refine k_cells (ce := 4) (sl := 140) rfl rfl ?_
  refine k_hd ?_
  refine k_putF (pc := 33) (ci := 7) (fs' := [.ref r0, .ref r1, .int 0, .ref r2, .ref r3, .null, .null, .null, .null, .null, .null, .int 0, .null, .null, .int 0, .null, .int 0, .null, .null, .null, .int 0, .int 0, .int 0, .int 0, .int 0, .null, .null, .int 0, .int 0, .null, .null, .null, .null, .null, .null, .int 0, .int 0]) 4 X hn dX7_init_33 rfl la_X7 tyX7_ok nmX7 (by decide) fl_X7_19 rfl rfl (tyX7_ok 4 (by decide)) rfl rfl (Nat.le_of_ble_eq_true rfl) rfl ?_
  refine k_aload (pc := 36) (j := 0) X dX7_init_36 rfl rfl ?_
  refine k_bipush (pc := 37) (6) X dX7_init_37 (by decide) ?_
  refine k_newI (pc := 39) 6 X dX7_init_39 (by decide) (by decide) (Nat.le_of_ble_eq_true rfl) (by rw [hRc]; exact Nat.le_of_ble_eq_true rfl) (by rw [hRs]; exact Nat.le_of_ble_eq_true rfl) (fun r4 => ?_)
  refine k_cells (ce := 5) (sl := 146) rfl rfl ?_
  refine k_hd ?_
  refine k_putF (pc := 41) (ci := 7) (fs' := [.ref r0, .ref r1, .int 0, .ref r2, .ref r3, .ref r4, .null, .null, .null, .null, .null, .int 0, .null, .null, .int 0, .null, .int 0, .null, .null, .null, .int 0, .int 0, .int 0, .int 0, .int 0, .null, .null, .int 0, .int 0, .null, .null, .null, .null, .null, .null, .int 0, .int 0]) 5 X hn dX7_init_41 rfl la_X7 tyX7_ok nmX7 (by decide) fl_X7_23 rfl rfl (tyX7_ok 5 (by decide)) rfl rfl (Nat.le_of_ble_eq_true rfl) rfl ?_
  refine k_aload (pc := 44) (j := 0) X dX7_init_44 rfl rfl ?_
  refine k_bipush (pc := 45) (6) X dX7_init_45 (by decide) ?_
  refine k_newI (pc := 47) 6 X dX7_init_47 (by decide) (by decide) (Nat.le_of_ble_eq_true rfl) (by rw [hRc]; exact Nat.le_of_ble_eq_true rfl) (by rw [hRs]; exact Nat.le_of_ble_eq_true rfl) (fun r5 => ?_)
  refine k_cells (ce := 6) (sl := 152) rfl rfl ?_
  refine k_hd ?_
  refine k_putF (pc := 49) (ci := 7) (fs' := [.ref r0, .ref r1, .int 0, .ref r2, .ref r3, .ref r4, .ref r5, .null, .null, .null, .null, .int 0, .null, .null, .int 0, .null, .int 0, .null, .null, .null, .int 0, .int 0, .int 0, .int 0, .int 0, .null, .null, .int 0, .int 0, .null, .null, .null, .null, .null, .null, .int 0, .int 0]) 6 X hn dX7_init_49 rfl la_X7 tyX7_ok nmX7 (by decide) fl_X7_26 rfl rfl (tyX7_ok 6 (by decide)) rfl rfl (Nat.le_of_ble_eq_true rfl) rfl ?_
  exact k r0 r1 r2 r3 r4 r5
set_option maxHeartbeats 4000000 in
set_option maxRecDepth 100000 in
theorem kc_X7_s1 {p : Program} {l : Launch} {e : Env} {R : Room} {s : State} {m : MethodId} {args : Array Value} {below : List Frame} {meth : Method} {c : Code} {Q : State → Prop} {D : va_G} {ck : Nat → ClassId} {A : Nat → Prop} {h0 : Nat} {ws : va_W} {r0 r1 r2 r3 r4 r5 : Nat} (X : KX mX7_init p s m args c D ck A) (hn : meth.name = "<init>") (hRc : R.cells = 24) (hRs : R.slots = 1067)
    (k : ∀ r6 r7 r8 r9 r10 r11 : Nat, KW mX7_init p l e R s m args below meth c Q D A 100 [(0, .ref h0)] [] ((h0, .inr (7, [.ref r0, .ref r1, .int 0, .ref r2, .ref r3, .ref r4, .ref r5, .ref r6, .ref r7, .ref r8, .ref r9, .int 0, .ref r10, .ref r11, .int 0, .null, .int 0, .null, .null, .null, .int 0, .int 0, .int 0, .int 0, .int 0, .null, .null, .int 0, .int 0, .null, .null, .null, .null, .null, .null, .int 0, .int 0])) :: ((((((ws ++ [(r6, .inl (ck 0, 6, .inl (fun _ => 0)))]) ++ [(r7, .inl (ck 0, 8, .inl (fun _ => 0)))]) ++ [(r8, .inl (ck 0, 8, .inl (fun _ => 0)))]) ++ [(r9, .inl (ck 0, 8, .inl (fun _ => 0)))]) ++ [(r10, .inl (ck 0, 8, .inl (fun _ => 0)))]) ++ [(r11, .inl (ck 0, 8, .inl (fun _ => 0)))])) 12 198) : KW mX7_init p l e R s m args below meth c Q D A 52 [(0, .ref h0)] [] ((h0, .inr (7, [.ref r0, .ref r1, .int 0, .ref r2, .ref r3, .ref r4, .ref r5, .null, .null, .null, .null, .int 0, .null, .null, .int 0, .null, .int 0, .null, .null, .null, .int 0, .int 0, .int 0, .int 0, .int 0, .null, .null, .int 0, .int 0, .null, .null, .null, .null, .null, .null, .int 0, .int 0])) :: ws) 6 152 := by
  refine k_aload (pc := 52) (j := 0) X dX7_init_52 rfl rfl ?_
  refine k_bipush (pc := 53) (6) X dX7_init_53 (by decide) ?_
  refine k_newI (pc := 55) 6 X dX7_init_55 (by decide) (by decide) (Nat.le_of_ble_eq_true rfl) (by rw [hRc]; exact Nat.le_of_ble_eq_true rfl) (by rw [hRs]; exact Nat.le_of_ble_eq_true rfl) (fun r6 => ?_)
  refine k_cells (ce := 7) (sl := 158) rfl rfl ?_
  refine k_hd ?_
  refine k_putF (pc := 57) (ci := 7) (fs' := [.ref r0, .ref r1, .int 0, .ref r2, .ref r3, .ref r4, .ref r5, .ref r6, .null, .null, .null, .int 0, .null, .null, .int 0, .null, .int 0, .null, .null, .null, .int 0, .int 0, .int 0, .int 0, .int 0, .null, .null, .int 0, .int 0, .null, .null, .null, .null, .null, .null, .int 0, .int 0]) 7 X hn dX7_init_57 rfl la_X7 tyX7_ok nmX7 (by decide) fl_X7_29 rfl rfl (tyX7_ok 7 (by decide)) rfl rfl (Nat.le_of_ble_eq_true rfl) rfl ?_
  refine k_aload (pc := 60) (j := 0) X dX7_init_60 rfl rfl ?_
  refine k_bipush (pc := 61) (8) X dX7_init_61 (by decide) ?_
  refine k_newI (pc := 63) 8 X dX7_init_63 (by decide) (by decide) (Nat.le_of_ble_eq_true rfl) (by rw [hRc]; exact Nat.le_of_ble_eq_true rfl) (by rw [hRs]; exact Nat.le_of_ble_eq_true rfl) (fun r7 => ?_)
  refine k_cells (ce := 8) (sl := 166) rfl rfl ?_
  refine k_hd ?_
  refine k_putF (pc := 65) (ci := 7) (fs' := [.ref r0, .ref r1, .int 0, .ref r2, .ref r3, .ref r4, .ref r5, .ref r6, .ref r7, .null, .null, .int 0, .null, .null, .int 0, .null, .int 0, .null, .null, .null, .int 0, .int 0, .int 0, .int 0, .int 0, .null, .null, .int 0, .int 0, .null, .null, .null, .null, .null, .null, .int 0, .int 0]) 8 X hn dX7_init_65 rfl la_X7 tyX7_ok nmX7 (by decide) fl_X7_32 rfl rfl (tyX7_ok 8 (by decide)) rfl rfl (Nat.le_of_ble_eq_true rfl) rfl ?_
  refine k_aload (pc := 68) (j := 0) X dX7_init_68 rfl rfl ?_
  refine k_bipush (pc := 69) (8) X dX7_init_69 (by decide) ?_
  refine k_newI (pc := 71) 8 X dX7_init_71 (by decide) (by decide) (Nat.le_of_ble_eq_true rfl) (by rw [hRc]; exact Nat.le_of_ble_eq_true rfl) (by rw [hRs]; exact Nat.le_of_ble_eq_true rfl) (fun r8 => ?_)
  refine k_cells (ce := 9) (sl := 174) rfl rfl ?_
  refine k_hd ?_
  refine k_putF (pc := 73) (ci := 7) (fs' := [.ref r0, .ref r1, .int 0, .ref r2, .ref r3, .ref r4, .ref r5, .ref r6, .ref r7, .ref r8, .null, .int 0, .null, .null, .int 0, .null, .int 0, .null, .null, .null, .int 0, .int 0, .int 0, .int 0, .int 0, .null, .null, .int 0, .int 0, .null, .null, .null, .null, .null, .null, .int 0, .int 0]) 9 X hn dX7_init_73 rfl la_X7 tyX7_ok nmX7 (by decide) fl_X7_35 rfl rfl (tyX7_ok 9 (by decide)) rfl rfl (Nat.le_of_ble_eq_true rfl) rfl ?_
  refine k_aload (pc := 76) (j := 0) X dX7_init_76 rfl rfl ?_
  refine k_bipush (pc := 77) (8) X dX7_init_77 (by decide) ?_
  refine k_newI (pc := 79) 8 X dX7_init_79 (by decide) (by decide) (Nat.le_of_ble_eq_true rfl) (by rw [hRc]; exact Nat.le_of_ble_eq_true rfl) (by rw [hRs]; exact Nat.le_of_ble_eq_true rfl) (fun r9 => ?_)
  refine k_cells (ce := 10) (sl := 182) rfl rfl ?_
  refine k_hd ?_
  refine k_putF (pc := 81) (ci := 7) (fs' := [.ref r0, .ref r1, .int 0, .ref r2, .ref r3, .ref r4, .ref r5, .ref r6, .ref r7, .ref r8, .ref r9, .int 0, .null, .null, .int 0, .null, .int 0, .null, .null, .null, .int 0, .int 0, .int 0, .int 0, .int 0, .null, .null, .int 0, .int 0, .null, .null, .null, .null, .null, .null, .int 0, .int 0]) 10 X hn dX7_init_81 rfl la_X7 tyX7_ok nmX7 (by decide) fl_X7_38 rfl rfl (tyX7_ok 10 (by decide)) rfl rfl (Nat.le_of_ble_eq_true rfl) rfl ?_
  refine k_aload (pc := 84) (j := 0) X dX7_init_84 rfl rfl ?_
  refine k_bipush (pc := 85) (8) X dX7_init_85 (by decide) ?_
  refine k_newI (pc := 87) 8 X dX7_init_87 (by decide) (by decide) (Nat.le_of_ble_eq_true rfl) (by rw [hRc]; exact Nat.le_of_ble_eq_true rfl) (by rw [hRs]; exact Nat.le_of_ble_eq_true rfl) (fun r10 => ?_)
  refine k_cells (ce := 11) (sl := 190) rfl rfl ?_
  refine k_hd ?_
  refine k_putF (pc := 89) (ci := 7) (fs' := [.ref r0, .ref r1, .int 0, .ref r2, .ref r3, .ref r4, .ref r5, .ref r6, .ref r7, .ref r8, .ref r9, .int 0, .ref r10, .null, .int 0, .null, .int 0, .null, .null, .null, .int 0, .int 0, .int 0, .int 0, .int 0, .null, .null, .int 0, .int 0, .null, .null, .null, .null, .null, .null, .int 0, .int 0]) 12 X hn dX7_init_89 rfl la_X7 tyX7_ok nmX7 (by decide) fl_X7_41 rfl rfl (tyX7_ok 12 (by decide)) rfl rfl (Nat.le_of_ble_eq_true rfl) rfl ?_
  refine k_aload (pc := 92) (j := 0) X dX7_init_92 rfl rfl ?_
  refine k_bipush (pc := 93) (8) X dX7_init_93 (by decide) ?_
  refine k_newI (pc := 95) 8 X dX7_init_95 (by decide) (by decide) (Nat.le_of_ble_eq_true rfl) (by rw [hRc]; exact Nat.le_of_ble_eq_true rfl) (by rw [hRs]; exact Nat.le_of_ble_eq_true rfl) (fun r11 => ?_)
  refine k_cells (ce := 12) (sl := 198) rfl rfl ?_
  refine k_hd ?_
  refine k_putF (pc := 97) (ci := 7) (fs' := [.ref r0, .ref r1, .int 0, .ref r2, .ref r3, .ref r4, .ref r5, .ref r6, .ref r7, .ref r8, .ref r9, .int 0, .ref r10, .ref r11, .int 0, .null, .int 0, .null, .null, .null, .int 0, .int 0, .int 0, .int 0, .int 0, .null, .null, .int 0, .int 0, .null, .null, .null, .null, .null, .null, .int 0, .int 0]) 13 X hn dX7_init_97 rfl la_X7 tyX7_ok nmX7 (by decide) fl_X7_44 rfl rfl (tyX7_ok 13 (by decide)) rfl rfl (Nat.le_of_ble_eq_true rfl) rfl ?_
  exact k r6 r7 r8 r9 r10 r11
set_option maxHeartbeats 4000000 in
set_option maxRecDepth 100000 in
theorem kc_X7_s2 {p : Program} {l : Launch} {e : Env} {R : Room} {s : State} {m : MethodId} {args : Array Value} {below : List Frame} {meth : Method} {c : Code} {Q : State → Prop} {D : va_G} {ck : Nat → ClassId} {A : Nat → Prop} {h0 : Nat} {ws : va_W} {r0 r1 r2 r3 r4 r5 r6 r7 r8 r9 r10 r11 : Nat} (X : KX mX7_init p s m args c D ck A) (hn : meth.name = "<init>") (hRc : R.cells = 24) (hRs : R.slots = 1067)
    (k : ∀ r12 r13 r14 r15 r16 r17 : Nat, KW mX7_init p l e R s m args below meth c Q D A 148 [(0, .ref h0)] [] ((h0, .inr (7, [.ref r0, .ref r1, .int 0, .ref r2, .ref r3, .ref r4, .ref r5, .ref r6, .ref r7, .ref r8, .ref r9, .int 0, .ref r10, .ref r11, .int 0, .ref r12, .int 0, .ref r13, .ref r14, .ref r15, .int 0, .int 0, .int 0, .int 0, .int 0, .ref r16, .ref r17, .int 0, .int 0, .null, .null, .null, .null, .null, .null, .int 0, .int 0])) :: ((((((ws ++ [(r12, .inl (ck 0, 60, .inl (fun _ => 0)))]) ++ [(r13, .inl (ck 0, 60, .inl (fun _ => 0)))]) ++ [(r14, .inl (ck 0, 60, .inl (fun _ => 0)))]) ++ [(r15, .inl (ck 0, 60, .inl (fun _ => 0)))]) ++ [(r16, .inl (ck 0, 88, .inl (fun _ => 0)))]) ++ [(r17, .inl (ck 1, 6, .inr (.inl (fun _ => 0))))])) 18 532) : KW mX7_init p l e R s m args below meth c Q D A 100 [(0, .ref h0)] [] ((h0, .inr (7, [.ref r0, .ref r1, .int 0, .ref r2, .ref r3, .ref r4, .ref r5, .ref r6, .ref r7, .ref r8, .ref r9, .int 0, .ref r10, .ref r11, .int 0, .null, .int 0, .null, .null, .null, .int 0, .int 0, .int 0, .int 0, .int 0, .null, .null, .int 0, .int 0, .null, .null, .null, .null, .null, .null, .int 0, .int 0])) :: ws) 12 198 := by
  refine k_aload (pc := 100) (j := 0) X dX7_init_100 rfl rfl ?_
  refine k_bipush (pc := 101) (60) X dX7_init_101 (by decide) ?_
  refine k_newI (pc := 103) 60 X dX7_init_103 (by decide) (by decide) (Nat.le_of_ble_eq_true rfl) (by rw [hRc]; exact Nat.le_of_ble_eq_true rfl) (by rw [hRs]; exact Nat.le_of_ble_eq_true rfl) (fun r12 => ?_)
  refine k_cells (ce := 13) (sl := 258) rfl rfl ?_
  refine k_hd ?_
  refine k_putF (pc := 105) (ci := 7) (fs' := [.ref r0, .ref r1, .int 0, .ref r2, .ref r3, .ref r4, .ref r5, .ref r6, .ref r7, .ref r8, .ref r9, .int 0, .ref r10, .ref r11, .int 0, .ref r12, .int 0, .null, .null, .null, .int 0, .int 0, .int 0, .int 0, .int 0, .null, .null, .int 0, .int 0, .null, .null, .null, .null, .null, .null, .int 0, .int 0]) 15 X hn dX7_init_105 rfl la_X7 tyX7_ok nmX7 (by decide) fl_X7_47 rfl rfl (tyX7_ok 15 (by decide)) rfl rfl (Nat.le_of_ble_eq_true rfl) rfl ?_
  refine k_aload (pc := 108) (j := 0) X dX7_init_108 rfl rfl ?_
  refine k_bipush (pc := 109) (60) X dX7_init_109 (by decide) ?_
  refine k_newI (pc := 111) 60 X dX7_init_111 (by decide) (by decide) (Nat.le_of_ble_eq_true rfl) (by rw [hRc]; exact Nat.le_of_ble_eq_true rfl) (by rw [hRs]; exact Nat.le_of_ble_eq_true rfl) (fun r13 => ?_)
  refine k_cells (ce := 14) (sl := 318) rfl rfl ?_
  refine k_hd ?_
  refine k_putF (pc := 113) (ci := 7) (fs' := [.ref r0, .ref r1, .int 0, .ref r2, .ref r3, .ref r4, .ref r5, .ref r6, .ref r7, .ref r8, .ref r9, .int 0, .ref r10, .ref r11, .int 0, .ref r12, .int 0, .ref r13, .null, .null, .int 0, .int 0, .int 0, .int 0, .int 0, .null, .null, .int 0, .int 0, .null, .null, .null, .null, .null, .null, .int 0, .int 0]) 17 X hn dX7_init_113 rfl la_X7 tyX7_ok nmX7 (by decide) fl_X7_50 rfl rfl (tyX7_ok 17 (by decide)) rfl rfl (Nat.le_of_ble_eq_true rfl) rfl ?_
  refine k_aload (pc := 116) (j := 0) X dX7_init_116 rfl rfl ?_
  refine k_bipush (pc := 117) (60) X dX7_init_117 (by decide) ?_
  refine k_newI (pc := 119) 60 X dX7_init_119 (by decide) (by decide) (Nat.le_of_ble_eq_true rfl) (by rw [hRc]; exact Nat.le_of_ble_eq_true rfl) (by rw [hRs]; exact Nat.le_of_ble_eq_true rfl) (fun r14 => ?_)
  refine k_cells (ce := 15) (sl := 378) rfl rfl ?_
  refine k_hd ?_
  refine k_putF (pc := 121) (ci := 7) (fs' := [.ref r0, .ref r1, .int 0, .ref r2, .ref r3, .ref r4, .ref r5, .ref r6, .ref r7, .ref r8, .ref r9, .int 0, .ref r10, .ref r11, .int 0, .ref r12, .int 0, .ref r13, .ref r14, .null, .int 0, .int 0, .int 0, .int 0, .int 0, .null, .null, .int 0, .int 0, .null, .null, .null, .null, .null, .null, .int 0, .int 0]) 18 X hn dX7_init_121 rfl la_X7 tyX7_ok nmX7 (by decide) fl_X7_53 rfl rfl (tyX7_ok 18 (by decide)) rfl rfl (Nat.le_of_ble_eq_true rfl) rfl ?_
  refine k_aload (pc := 124) (j := 0) X dX7_init_124 rfl rfl ?_
  refine k_bipush (pc := 125) (60) X dX7_init_125 (by decide) ?_
  refine k_newI (pc := 127) 60 X dX7_init_127 (by decide) (by decide) (Nat.le_of_ble_eq_true rfl) (by rw [hRc]; exact Nat.le_of_ble_eq_true rfl) (by rw [hRs]; exact Nat.le_of_ble_eq_true rfl) (fun r15 => ?_)
  refine k_cells (ce := 16) (sl := 438) rfl rfl ?_
  refine k_hd ?_
  refine k_putF (pc := 129) (ci := 7) (fs' := [.ref r0, .ref r1, .int 0, .ref r2, .ref r3, .ref r4, .ref r5, .ref r6, .ref r7, .ref r8, .ref r9, .int 0, .ref r10, .ref r11, .int 0, .ref r12, .int 0, .ref r13, .ref r14, .ref r15, .int 0, .int 0, .int 0, .int 0, .int 0, .null, .null, .int 0, .int 0, .null, .null, .null, .null, .null, .null, .int 0, .int 0]) 19 X hn dX7_init_129 rfl la_X7 tyX7_ok nmX7 (by decide) fl_X7_56 rfl rfl (tyX7_ok 19 (by decide)) rfl rfl (Nat.le_of_ble_eq_true rfl) rfl ?_
  refine k_aload (pc := 132) (j := 0) X dX7_init_132 rfl rfl ?_
  refine k_bipush (pc := 133) (88) X dX7_init_133 (by decide) ?_
  refine k_newI (pc := 135) 88 X dX7_init_135 (by decide) (by decide) (Nat.le_of_ble_eq_true rfl) (by rw [hRc]; exact Nat.le_of_ble_eq_true rfl) (by rw [hRs]; exact Nat.le_of_ble_eq_true rfl) (fun r16 => ?_)
  refine k_cells (ce := 17) (sl := 526) rfl rfl ?_
  refine k_hd ?_
  refine k_putF (pc := 137) (ci := 7) (fs' := [.ref r0, .ref r1, .int 0, .ref r2, .ref r3, .ref r4, .ref r5, .ref r6, .ref r7, .ref r8, .ref r9, .int 0, .ref r10, .ref r11, .int 0, .ref r12, .int 0, .ref r13, .ref r14, .ref r15, .int 0, .int 0, .int 0, .int 0, .int 0, .ref r16, .null, .int 0, .int 0, .null, .null, .null, .null, .null, .null, .int 0, .int 0]) 25 X hn dX7_init_137 rfl la_X7 tyX7_ok nmX7 (by decide) fl_X7_59 rfl rfl (tyX7_ok 25 (by decide)) rfl rfl (Nat.le_of_ble_eq_true rfl) rfl ?_
  refine k_aload (pc := 140) (j := 0) X dX7_init_140 rfl rfl ?_
  refine k_bipush (pc := 141) (6) X dX7_init_141 (by decide) ?_
  refine k_newL (pc := 143) 6 X dX7_init_143 (by decide) (by decide) (Nat.le_of_ble_eq_true rfl) (by rw [hRc]; exact Nat.le_of_ble_eq_true rfl) (by rw [hRs]; exact Nat.le_of_ble_eq_true rfl) (fun r17 => ?_)
  refine k_cells (ce := 18) (sl := 532) rfl rfl ?_
  refine k_hd ?_
  refine k_putF (pc := 145) (ci := 7) (fs' := [.ref r0, .ref r1, .int 0, .ref r2, .ref r3, .ref r4, .ref r5, .ref r6, .ref r7, .ref r8, .ref r9, .int 0, .ref r10, .ref r11, .int 0, .ref r12, .int 0, .ref r13, .ref r14, .ref r15, .int 0, .int 0, .int 0, .int 0, .int 0, .ref r16, .ref r17, .int 0, .int 0, .null, .null, .null, .null, .null, .null, .int 0, .int 0]) 26 X hn dX7_init_145 rfl la_X7 tyX7_ok nmX7 (by decide) fl_X7_62 rfl rfl (tyX7_ok 26 (by decide)) rfl rfl (Nat.le_of_ble_eq_true rfl) rfl ?_
  exact k r12 r13 r14 r15 r16 r17
set_option maxHeartbeats 4000000 in
set_option maxRecDepth 100000 in
theorem kc_X7_s3 {p : Program} {l : Launch} {e : Env} {R : Room} {s : State} {m : MethodId} {args : Array Value} {below : List Frame} {meth : Method} {c : Code} {Q : State → Prop} {D : va_G} {ck : Nat → ClassId} {A : Nat → Prop} {h0 : Nat} {ws : va_W} {r0 r1 r2 r3 r4 r5 r6 r7 r8 r9 r10 r11 r12 r13 r14 r15 r16 r17 : Nat} (X : KX mX7_init p s m args c D ck A) (hn : meth.name = "<init>") (hRc : R.cells = 24) (hRs : R.slots = 1067)
    (k : ∀ r18 r19 r20 r21 r22 r23 : Nat, KW mX7_init p l e R s m args below meth c Q D A 196 [(0, .ref h0)] [] ((h0, .inr (7, [.ref r0, .ref r1, .int 0, .ref r2, .ref r3, .ref r4, .ref r5, .ref r6, .ref r7, .ref r8, .ref r9, .int 0, .ref r10, .ref r11, .int 0, .ref r12, .int 0, .ref r13, .ref r14, .ref r15, .int 0, .int 0, .int 0, .int 0, .int 0, .ref r16, .ref r17, .int 0, .int 0, .ref r18, .ref r19, .ref r20, .ref r21, .ref r22, .ref r23, .int 0, .int 0])) :: ((((((ws ++ [(r18, .inl (ck 0, 6, .inl (fun _ => 0)))]) ++ [(r19, .inl (ck 0, 6, .inl (fun _ => 0)))]) ++ [(r20, .inl (ck 0, 49, .inl (fun _ => 0)))]) ++ [(r21, .inl (ck 0, 460, .inl (fun _ => 0)))]) ++ [(r22, .inl (ck 1, 12, .inr (.inl (fun _ => 0))))]) ++ [(r23, .inl (ck 2, 2, .inl (fun _ => 0)))])) 24 1067) : KW mX7_init p l e R s m args below meth c Q D A 148 [(0, .ref h0)] [] ((h0, .inr (7, [.ref r0, .ref r1, .int 0, .ref r2, .ref r3, .ref r4, .ref r5, .ref r6, .ref r7, .ref r8, .ref r9, .int 0, .ref r10, .ref r11, .int 0, .ref r12, .int 0, .ref r13, .ref r14, .ref r15, .int 0, .int 0, .int 0, .int 0, .int 0, .ref r16, .ref r17, .int 0, .int 0, .null, .null, .null, .null, .null, .null, .int 0, .int 0])) :: ws) 18 532 := by
  refine k_aload (pc := 148) (j := 0) X dX7_init_148 rfl rfl ?_
  refine k_bipush (pc := 149) (6) X dX7_init_149 (by decide) ?_
  refine k_newI (pc := 151) 6 X dX7_init_151 (by decide) (by decide) (Nat.le_of_ble_eq_true rfl) (by rw [hRc]; exact Nat.le_of_ble_eq_true rfl) (by rw [hRs]; exact Nat.le_of_ble_eq_true rfl) (fun r18 => ?_)
  refine k_cells (ce := 19) (sl := 538) rfl rfl ?_
  refine k_hd ?_
  refine k_putF (pc := 153) (ci := 7) (fs' := [.ref r0, .ref r1, .int 0, .ref r2, .ref r3, .ref r4, .ref r5, .ref r6, .ref r7, .ref r8, .ref r9, .int 0, .ref r10, .ref r11, .int 0, .ref r12, .int 0, .ref r13, .ref r14, .ref r15, .int 0, .int 0, .int 0, .int 0, .int 0, .ref r16, .ref r17, .int 0, .int 0, .ref r18, .null, .null, .null, .null, .null, .int 0, .int 0]) 29 X hn dX7_init_153 rfl la_X7 tyX7_ok nmX7 (by decide) fl_X7_65 rfl rfl (tyX7_ok 29 (by decide)) rfl rfl (Nat.le_of_ble_eq_true rfl) rfl ?_
  refine k_aload (pc := 156) (j := 0) X dX7_init_156 rfl rfl ?_
  refine k_bipush (pc := 157) (6) X dX7_init_157 (by decide) ?_
  refine k_newI (pc := 159) 6 X dX7_init_159 (by decide) (by decide) (Nat.le_of_ble_eq_true rfl) (by rw [hRc]; exact Nat.le_of_ble_eq_true rfl) (by rw [hRs]; exact Nat.le_of_ble_eq_true rfl) (fun r19 => ?_)
  refine k_cells (ce := 20) (sl := 544) rfl rfl ?_
  refine k_hd ?_
  refine k_putF (pc := 161) (ci := 7) (fs' := [.ref r0, .ref r1, .int 0, .ref r2, .ref r3, .ref r4, .ref r5, .ref r6, .ref r7, .ref r8, .ref r9, .int 0, .ref r10, .ref r11, .int 0, .ref r12, .int 0, .ref r13, .ref r14, .ref r15, .int 0, .int 0, .int 0, .int 0, .int 0, .ref r16, .ref r17, .int 0, .int 0, .ref r18, .ref r19, .null, .null, .null, .null, .int 0, .int 0]) 30 X hn dX7_init_161 rfl la_X7 tyX7_ok nmX7 (by decide) fl_X7_68 rfl rfl (tyX7_ok 30 (by decide)) rfl rfl (Nat.le_of_ble_eq_true rfl) rfl ?_
  refine k_aload (pc := 164) (j := 0) X dX7_init_164 rfl rfl ?_
  refine k_bipush (pc := 165) (49) X dX7_init_165 (by decide) ?_
  refine k_newI (pc := 167) 49 X dX7_init_167 (by decide) (by decide) (Nat.le_of_ble_eq_true rfl) (by rw [hRc]; exact Nat.le_of_ble_eq_true rfl) (by rw [hRs]; exact Nat.le_of_ble_eq_true rfl) (fun r20 => ?_)
  refine k_cells (ce := 21) (sl := 593) rfl rfl ?_
  refine k_hd ?_
  refine k_putF (pc := 169) (ci := 7) (fs' := [.ref r0, .ref r1, .int 0, .ref r2, .ref r3, .ref r4, .ref r5, .ref r6, .ref r7, .ref r8, .ref r9, .int 0, .ref r10, .ref r11, .int 0, .ref r12, .int 0, .ref r13, .ref r14, .ref r15, .int 0, .int 0, .int 0, .int 0, .int 0, .ref r16, .ref r17, .int 0, .int 0, .ref r18, .ref r19, .ref r20, .null, .null, .null, .int 0, .int 0]) 31 X hn dX7_init_169 rfl la_X7 tyX7_ok nmX7 (by decide) fl_X7_71 rfl rfl (tyX7_ok 31 (by decide)) rfl rfl (Nat.le_of_ble_eq_true rfl) rfl ?_
  refine k_aload (pc := 172) (j := 0) X dX7_init_172 rfl rfl ?_
  refine k_sipush (pc := 173) (460) X dX7_init_173 (by decide) ?_
  refine k_newI (pc := 176) 460 X dX7_init_176 (by decide) (by decide) (Nat.le_of_ble_eq_true rfl) (by rw [hRc]; exact Nat.le_of_ble_eq_true rfl) (by rw [hRs]; exact Nat.le_of_ble_eq_true rfl) (fun r21 => ?_)
  refine k_cells (ce := 22) (sl := 1053) rfl rfl ?_
  refine k_hd ?_
  refine k_putF (pc := 178) (ci := 7) (fs' := [.ref r0, .ref r1, .int 0, .ref r2, .ref r3, .ref r4, .ref r5, .ref r6, .ref r7, .ref r8, .ref r9, .int 0, .ref r10, .ref r11, .int 0, .ref r12, .int 0, .ref r13, .ref r14, .ref r15, .int 0, .int 0, .int 0, .int 0, .int 0, .ref r16, .ref r17, .int 0, .int 0, .ref r18, .ref r19, .ref r20, .ref r21, .null, .null, .int 0, .int 0]) 32 X hn dX7_init_178 rfl la_X7 tyX7_ok nmX7 (by decide) fl_X7_74 rfl rfl (tyX7_ok 32 (by decide)) rfl rfl (Nat.le_of_ble_eq_true rfl) rfl ?_
  refine k_aload (pc := 181) (j := 0) X dX7_init_181 rfl rfl ?_
  refine k_bipush (pc := 182) (12) X dX7_init_182 (by decide) ?_
  refine k_newL (pc := 184) 12 X dX7_init_184 (by decide) (by decide) (Nat.le_of_ble_eq_true rfl) (by rw [hRc]; exact Nat.le_of_ble_eq_true rfl) (by rw [hRs]; exact Nat.le_of_ble_eq_true rfl) (fun r22 => ?_)
  refine k_cells (ce := 23) (sl := 1065) rfl rfl ?_
  refine k_hd ?_
  refine k_putF (pc := 186) (ci := 7) (fs' := [.ref r0, .ref r1, .int 0, .ref r2, .ref r3, .ref r4, .ref r5, .ref r6, .ref r7, .ref r8, .ref r9, .int 0, .ref r10, .ref r11, .int 0, .ref r12, .int 0, .ref r13, .ref r14, .ref r15, .int 0, .int 0, .int 0, .int 0, .int 0, .ref r16, .ref r17, .int 0, .int 0, .ref r18, .ref r19, .ref r20, .ref r21, .ref r22, .null, .int 0, .int 0]) 33 X hn dX7_init_186 rfl la_X7 tyX7_ok nmX7 (by decide) fl_X7_77 rfl rfl (tyX7_ok 33 (by decide)) rfl rfl (Nat.le_of_ble_eq_true rfl) rfl ?_
  refine k_aload (pc := 189) (j := 0) X dX7_init_189 rfl rfl ?_
  refine k_iconst (pc := 190) (2) X dX7_init_190 (by decide) ?_
  refine k_newZ (pc := 191) 2 X dX7_init_191 (by decide) (by decide) (Nat.le_of_ble_eq_true rfl) (by rw [hRc]; exact Nat.le_of_ble_eq_true rfl) (by rw [hRs]; exact Nat.le_of_ble_eq_true rfl) (fun r23 => ?_)
  refine k_cells (ce := 24) (sl := 1067) rfl rfl ?_
  refine k_hd ?_
  refine k_putF (pc := 193) (ci := 7) (fs' := [.ref r0, .ref r1, .int 0, .ref r2, .ref r3, .ref r4, .ref r5, .ref r6, .ref r7, .ref r8, .ref r9, .int 0, .ref r10, .ref r11, .int 0, .ref r12, .int 0, .ref r13, .ref r14, .ref r15, .int 0, .int 0, .int 0, .int 0, .int 0, .ref r16, .ref r17, .int 0, .int 0, .ref r18, .ref r19, .ref r20, .ref r21, .ref r22, .ref r23, .int 0, .int 0]) 34 X hn dX7_init_193 rfl la_X7 tyX7_ok nmX7 (by decide) fl_X7_80 rfl rfl (tyX7_ok 34 (by decide)) rfl rfl (Nat.le_of_ble_eq_true rfl) rfl ?_
  exact k r18 r19 r20 r21 r22 r23
set_option maxHeartbeats 4000000 in
set_option maxRecDepth 100000 in
theorem kc_X7 : KC mX7_init 7 [.null, .null, .int 0, .null, .null, .null, .null, .null, .null, .null, .null, .int 0, .null, .null, .int 0, .null, .int 0, .null, .null, .null, .int 0, .int 0, .int 0, .int 0, .int 0, .null, .null, .int 0, .int 0, .null, .null, .null, .null, .null, .null, .int 0, .int 0] wsX7 24 1067 := by
  refine KC.of (by decide) rfl rfl (by decide) ?_
  intro p l e s m args below meth c D ck h0 A X hn hr hk
  refine k_aload (pc := 0) (j := 0) X dX7_init_0 rfl rfl ?_
  refine k_obj (pc := 1) X dX7_init_1 ml_X7_1 (Nat.le_of_ble_eq_true rfl) (Nat.le_of_ble_eq_true rfl) ?_
  refine kc_X7_s0 X hn rfl rfl (fun r0 r1 r2 r3 r4 r5 => ?_)
  refine kc_X7_s1 X hn rfl rfl (fun r6 r7 r8 r9 r10 r11 => ?_)
  refine kc_X7_s2 X hn rfl rfl (fun r12 r13 r14 r15 r16 r17 => ?_)
  refine kc_X7_s3 X hn rfl rfl (fun r18 r19 r20 r21 r22 r23 => ?_)
  refine k_iconst (pc := 196) (0) X dX7_init_196 (by decide) ?_
  refine k_istore (pc := 197) (L' := [(1, .int 0), (0, .ref h0)]) X dX7_init_197 rfl (by decide) rfl ?_
  refine k_ws (ws' := (h0, .inr (7, [.ref r0, .ref r1, .int 0, .ref r2, .ref r3, .ref r4, .ref r5, .ref r6, .ref r7, .ref r8, .ref r9, .int 0, .ref r10, .ref r11, .int 0, .ref r12, .int 0, .ref r13, .ref r14, .ref r15, .int 0, .int 0, .int 0, .int 0, .int 0, .ref r16, .ref r17, .int 0, .int 0, .ref r18, .ref r19, .ref r20, .ref r21, .ref r22, .ref r23, .int 0, .int 0])) :: [(r0, .inl (ck 0, 64, .inl (fun _ => 0))), (r1, .inl (ck 0, 64, .inl (fun _ => 0))), (r2, .inl (ck 0, 6, .inl (fun _ => 0))), (r3, .inl (ck 1, 6, .inr (.inl (fun _ => 0)))), (r4, .inl (ck 0, 6, .inl (fun _ => 0))), (r5, .inl (ck 0, 6, .inl (fun _ => 0))), (r6, .inl (ck 0, 6, .inl (fun _ => 0))), (r7, .inl (ck 0, 8, .inl (fun _ => 0))), (r8, .inl (ck 0, 8, .inl (fun _ => 0))), (r9, .inl (ck 0, 8, .inl (fun _ => 0))), (r10, .inl (ck 0, 8, .inl (fun _ => 0))), (r11, .inl (ck 0, 8, .inl (fun _ => 0))), (r12, .inl (ck 0, 60, .inl (fun _ => 0))), (r13, .inl (ck 0, 60, .inl (fun _ => 0))), (r14, .inl (ck 0, 60, .inl (fun _ => 0))), (r15, .inl (ck 0, 60, .inl (fun _ => 0))), (r16, .inl (ck 0, 88, .inl (fun _ => 0))), (r17, .inl (ck 1, 6, .inr (.inl (fun _ => 0)))), (r18, .inl (ck 0, 6, .inl (fun _ => 0))), (r19, .inl (ck 0, 6, .inl (fun _ => 0))), (r20, .inl (ck 0, 49, .inl (fun _ => 0))), (r21, .inl (ck 0, 460, .inl (fun _ => 0))), (r22, .inl (ck 1, 12, .inr (.inl (fun _ => 0)))), (r23, .inl (ck 2, 2, .inl (fun _ => 0)))]) (by simp only [List.nil_append, List.cons_append]) ?_
  refine kl_X7 (w := fun F => (h0, .inr (7, [.ref r0, .ref r1, .int 0, .ref r2, .ref r3, .ref r4, .ref r5, .ref r6, .ref r7, .ref r8, .ref r9, .int 0, .ref r10, .ref r11, .int 0, .ref r12, .int 0, .ref r13, .ref r14, .ref r15, .int 0, .int 0, .int 0, .int 0, .int 0, .ref r16, .ref r17, .int 0, .int 0, .ref r18, .ref r19, .ref r20, .ref r21, .ref r22, .ref r23, .int 0, .int 0])) :: [(r0, .inl (ck 0, 64, .inl (fun _ => 0))), (r1, .inl (ck 0, 64, .inl F)), (r2, .inl (ck 0, 6, .inl (fun _ => 0))), (r3, .inl (ck 1, 6, .inr (.inl (fun _ => 0)))), (r4, .inl (ck 0, 6, .inl (fun _ => 0))), (r5, .inl (ck 0, 6, .inl (fun _ => 0))), (r6, .inl (ck 0, 6, .inl (fun _ => 0))), (r7, .inl (ck 0, 8, .inl (fun _ => 0))), (r8, .inl (ck 0, 8, .inl (fun _ => 0))), (r9, .inl (ck 0, 8, .inl (fun _ => 0))), (r10, .inl (ck 0, 8, .inl (fun _ => 0))), (r11, .inl (ck 0, 8, .inl (fun _ => 0))), (r12, .inl (ck 0, 60, .inl (fun _ => 0))), (r13, .inl (ck 0, 60, .inl (fun _ => 0))), (r14, .inl (ck 0, 60, .inl (fun _ => 0))), (r15, .inl (ck 0, 60, .inl (fun _ => 0))), (r16, .inl (ck 0, 88, .inl (fun _ => 0))), (r17, .inl (ck 1, 6, .inr (.inl (fun _ => 0)))), (r18, .inl (ck 0, 6, .inl (fun _ => 0))), (r19, .inl (ck 0, 6, .inl (fun _ => 0))), (r20, .inl (ck 0, 49, .inl (fun _ => 0))), (r21, .inl (ck 0, 460, .inl (fun _ => 0))), (r22, .inl (ck 1, 12, .inr (.inl (fun _ => 0)))), (r23, .inl (ck 2, 2, .inl (fun _ => 0)))]) (fs := [.ref r0, .ref r1, .int 0, .ref r2, .ref r3, .ref r4, .ref r5, .ref r6, .ref r7, .ref r8, .ref r9, .int 0, .ref r10, .ref r11, .int 0, .ref r12, .int 0, .ref r13, .ref r14, .ref r15, .int 0, .int 0, .int 0, .int 0, .int 0, .ref r16, .ref r17, .int 0, .int 0, .ref r18, .ref r19, .ref r20, .ref r21, .ref r22, .ref r23, .int 0, .int 0]) (r := r1) X (fun _ => rfl) rfl (fun _ => rfl) (fun _ _ => rfl) (fun x => ?_)
  refine k_ws (ws' := (h0, .inr (7, [.ref r0, .ref r1, .int 0, .ref r2, .ref r3, .ref r4, .ref r5, .ref r6, .ref r7, .ref r8, .ref r9, .int 0, .ref r10, .ref r11, .int 0, .ref r12, .int 0, .ref r13, .ref r14, .ref r15, .int 0, .int 0, .int 0, .int 0, .int 0, .ref r16, .ref r17, .int 0, .int 0, .ref r18, .ref r19, .ref r20, .ref r21, .ref r22, .ref r23, .int 0, .int 0])) :: [(r0, .inl (ck 0, 64, .inl (fun _ => 0))), (r1, .inl (ck 0, 64, .inl (cpy (fun _ => -6) (fun _ => 0) 64))), (r2, .inl (ck 0, 6, .inl (fun _ => 0))), (r3, .inl (ck 1, 6, .inr (.inl (fun _ => 0)))), (r4, .inl (ck 0, 6, .inl (fun _ => 0))), (r5, .inl (ck 0, 6, .inl (fun _ => 0))), (r6, .inl (ck 0, 6, .inl (fun _ => 0))), (r7, .inl (ck 0, 8, .inl (fun _ => 0))), (r8, .inl (ck 0, 8, .inl (fun _ => 0))), (r9, .inl (ck 0, 8, .inl (fun _ => 0))), (r10, .inl (ck 0, 8, .inl (fun _ => 0))), (r11, .inl (ck 0, 8, .inl (fun _ => 0))), (r12, .inl (ck 0, 60, .inl (fun _ => 0))), (r13, .inl (ck 0, 60, .inl (fun _ => 0))), (r14, .inl (ck 0, 60, .inl (fun _ => 0))), (r15, .inl (ck 0, 60, .inl (fun _ => 0))), (r16, .inl (ck 0, 88, .inl (fun _ => 0))), (r17, .inl (ck 1, 6, .inr (.inl (fun _ => 0)))), (r18, .inl (ck 0, 6, .inl (fun _ => 0))), (r19, .inl (ck 0, 6, .inl (fun _ => 0))), (r20, .inl (ck 0, 49, .inl (fun _ => 0))), (r21, .inl (ck 0, 460, .inl (fun _ => 0))), (r22, .inl (ck 1, 12, .inr (.inl (fun _ => 0)))), (r23, .inl (ck 2, 2, .inl (fun _ => 0)))]) rfl ?_
  exact k_vret (pc := 218) (Ws := fun a => wsX7 ck h0 a) X hr hk dX7_init_218 (fun k => ([r0, r1, r2, r3, r4, r5, r6, r7, r8, r9, r10, r11, r12, r13, r14, r15, r16, r17, r18, r19, r20, r21, r22, r23] : List Nat).getD k 0) rfl
