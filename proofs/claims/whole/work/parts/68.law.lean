/-! THE LAW: its loop and its start -/
theorem tm1 {w : Cond} {i : Nat} (h : tables_1_1[i]? = some w) : w ∈ lw_tbl := List.mem_append_right _ (List.mem_append_left _ (List.mem_of_getElem? h))
theorem tm2 {w : Cond} {i : Nat} (h : tables_1_2[i]? = some w) : w ∈ lw_tbl := List.mem_append_right _ (List.mem_append_right _ (List.mem_append_left _ (List.mem_of_getElem? h)))
theorem tm3 {w : Cond} {i : Nat} (h : tables_1_3[i]? = some w) : w ∈ lw_tbl := List.mem_append_right _ (List.mem_append_right _ (List.mem_append_right _ (List.mem_append_left _ (List.mem_of_getElem? h))))
theorem ac_ok {s : State} {args : Array Value} {ty : FieldType} (hty : ty = .int ∨ ty = .long ∨ ty = .boolean) (h : (Cond.arrayClass ty).before args s = true) : ∃ cA : ClassId, ArrOfT s cA ty ∧ va_RA s cA ty := by
  obtain ⟨cA, kA, comp, h1, h2, h3⟩ := Cond.arrayClass_spec h
  exact ⟨cA, fun n z => ⟨fun k h => (by cases h), kA, h2, comp, h3⟩, by rcases hty with rfl | rfl | rfl <;> exact h1⟩
theorem nst_of {s : State} {args : Array Value} (hts : ∀ w ∈ lw_tbl, w.before args s = true) : NST s :=
  ⟨List.forall_mem_cons.mpr ⟨va_Nw.of rfl (hts _ (tm1 (i := 100) rfl)), List.forall_mem_cons.mpr ⟨va_Nw.of rfl (hts _ (tm1 (i := 102) rfl)), List.forall_mem_cons.mpr ⟨va_Nw.of rfl (hts _ (tm1 (i := 104) rfl)), List.forall_mem_cons.mpr ⟨va_Nw.of rfl (hts _ (tm2 (i := 84) rfl)), fun _ h => absurd h List.not_mem_nil⟩⟩⟩⟩,
  List.forall_mem_cons.mpr ⟨va_Nw.of rfl (hts _ (tm1 (i := 130) rfl)), List.forall_mem_cons.mpr ⟨va_Nw.of rfl (hts _ (tm1 (i := 197) rfl)), List.forall_mem_cons.mpr ⟨va_Nw.of rfl (hts _ (tm1 (i := 213) rfl)), List.forall_mem_cons.mpr ⟨va_Nw.of rfl (hts _ (tm1 (i := 236) rfl)), List.forall_mem_cons.mpr ⟨va_Nw.of rfl (hts _ (tm2 (i := 89) rfl)), List.forall_mem_cons.mpr ⟨va_Nw.of rfl (hts _ (tm2 (i := 128) rfl)), List.forall_mem_cons.mpr ⟨va_Nw.of rfl (hts _ (tm2 (i := 131) rfl)), List.forall_mem_cons.mpr ⟨va_Nw.of rfl (hts _ (tm2 (i := 219) rfl)), List.forall_mem_cons.mpr ⟨va_Nw.of rfl (hts _ (tm3 (i := 81) rfl)), List.forall_mem_cons.mpr ⟨va_Nw.of rfl (hts _ (tm3 (i := 119) rfl)), List.forall_mem_cons.mpr ⟨va_Nw.of rfl (hts _ (tm3 (i := 120) rfl)), fun _ h => absurd h List.not_mem_nil⟩⟩⟩⟩⟩⟩⟩⟩⟩⟩⟩⟩
theorem za_of {s : State} {args : Array Value} (hgv : (Jvm.Cond.and given_1 narrow_1).before args s = true) (hl : (Cond.laysStatic "SnoresGold" "DEED_SIGNS" "[C").before args s = true) (hini : (Cond.initialized "SnoresGold").before args s = true) : ∃ z : Nat, va_Z "SnoresGold" "DEED_SIGNS" "[C" (.ref z) (up s) s s.heap ∧ va_T .char z 9 (fun j => .int (dsg j)) (up s) s s.heap := by
  have hf := flat_of_before _ hgv
  have hA : ∀ a : Nat, a < s.heap.size → ¬ up s a := fun a h => Nat.not_le.mpr h
  obtain ⟨z, e1, e2⟩ := va_Tof (args := args) (s := s) (tm := .static "SnoresGold" "DEED_SIGNS" "[C") (ty := .char) (N := 9) (f := fun j => .int (dsg j)) (A := up s) (by decide) (hf _ (by decide +kernel)) (va_eqt (z := 9) (hf _ (by decide +kernel))) (fun j hj => by
    rcases (show j = 0 ∨ j = 1 ∨ j = 2 ∨ j = 3 ∨ j = 4 ∨ j = 5 ∨ j = 6 ∨ j = 7 ∨ j = 8 by omega) with rfl | rfl | rfl | rfl | rfl | rfl | rfl | rfl | rfl
    · exact va_eqt (t := .elem (.static "SnoresGold" "DEED_SIGNS" "[C") (.int 0)) (z := 110) (hf _ (by decide +kernel))
    · exact va_eqt (t := .elem (.static "SnoresGold" "DEED_SIGNS" "[C") (.int 1)) (z := 101) (hf _ (by decide +kernel))
    · exact va_eqt (t := .elem (.static "SnoresGold" "DEED_SIGNS" "[C") (.int 2)) (z := 115) (hf _ (by decide +kernel))
    · exact va_eqt (t := .elem (.static "SnoresGold" "DEED_SIGNS" "[C") (.int 3)) (z := 119) (hf _ (by decide +kernel))
    · exact va_eqt (t := .elem (.static "SnoresGold" "DEED_SIGNS" "[C") (.int 4)) (z := 100) (hf _ (by decide +kernel))
    · exact va_eqt (t := .elem (.static "SnoresGold" "DEED_SIGNS" "[C") (.int 5)) (z := 99) (hf _ (by decide +kernel))
    · exact va_eqt (t := .elem (.static "SnoresGold" "DEED_SIGNS" "[C") (.int 6)) (z := 46) (hf _ (by decide +kernel))
    · exact va_eqt (t := .elem (.static "SnoresGold" "DEED_SIGNS" "[C") (.int 7)) (z := 42) (hf _ (by decide +kernel))
    · exact va_eqt (t := .elem (.static "SnoresGold" "DEED_SIGNS" "[C") (.int 8)) (z := 126) (hf _ (by decide +kernel))) hA
  exact ⟨z, va_Zof hl hini e1 hA, e2⟩
theorem l_sw {p : Program} {l : Launch} {e : Env} {s : State} {m : MethodId} {below : List Frame} {meth : Method} {c : Code} {D : va_G} {ck : Nat → ClassId} {ad : Nat → Nat} {b L : Nat} {xs : Nat → Int32} {i : Nat} {S : SG} {M : Mod} (X : LX p s m c D ck ad b L xs) (hR : RR S M) (hi : i + 5 ≤ L) (k : ∀ S2 M2, RR S2 M2 → LW p l e s m below meth c D ck ad b i 1112 [] (W2 S2 M2)) : ∀ j, j < 32 → LW p l e s m below meth c D ck ad b i 32 [.int (nI j)] (W2 S M) := by
  intro j hj
  have sw : ∀ (tgt : Nat) (off : Int), (#[144, 177, 210, 233, 292, 325, 348, 361, 374, 397, 430, 453, 476, 499, 512, 535, 578, 621, 680, 693, 716, 739, 788, 801, 824, 858, 881, 914, 968, 1011, 1034, 1057] : Array Int)[((j : Int) - 0).toNat]? = some off → ((32 : Nat) : Int) + off = (tgt : Int) → LW p l e s m below meth c D ck ad b i tgt [] (W2 S M) → LW p l e s m below meth c D ck ad b i 32 [.int (nI j)] (W2 S M) := by
    intro tgt off ho ht kk H locs ls P Dd S1 B
    have ej : (nI j).toInt = (j : Int) := nI_toInt (by omega)
    exact lv_tableIn X.1.1 X.1.2.1 dL_law_32 (by rw [ej]; omega) (by rw [ej]; omega) (by rw [ej]; exact ho) ht (kk H locs ls P Dd S1 B)
  match j, hj, sw with
  | 0, _, sw => exact sw 176 144 rfl (by decide) (lc_gold X hR hi k)
  | 1, _, sw => exact sw 209 177 rfl (by decide) (lc_man X hR hi k)
  | 2, _, sw => exact sw 242 210 rfl (by decide) (lc_leave X hR hi k)
  | 3, _, sw => exact sw 265 233 rfl (by decide) (lc_know X hR hi k)
  | 4, _, sw => exact sw 324 292 rfl (by decide) (lc_claim X hR hi k)
  | 5, _, sw => exact sw 357 325 rfl (by decide) (lc_say X hR hi k)
  | 6, _, sw => exact sw 380 348 rfl (by decide) (lc_wipe X hR hi k)
  | 7, _, sw => exact sw 393 361 rfl (by decide) (lc_fault X hR hi k)
  | 8, _, sw => exact sw 406 374 rfl (by decide) (lc_judge X hR hi k)
  | 9, _, sw => exact sw 429 397 rfl (by decide) (lc_behind X hR hi k)
  | 10, _, sw => exact sw 462 430 rfl (by decide) (lc_heard X hR hi k)
  | 11, _, sw => exact sw 485 453 rfl (by decide) (lc_whose X hR hi k)
  | 12, _, sw => exact sw 508 476 rfl (by decide) (lc_nothing X hR hi k)
  | 13, _, sw => exact sw 531 499 rfl (by decide) (lc_done X hR hi k)
  | 14, _, sw => exact sw 544 512 rfl (by decide) (lc_loudest X hR hi k)
  | 15, _, sw => exact sw 567 535 rfl (by decide) (lc_sleep X hR hi k)
  | 16, _, sw => exact sw 610 578 rfl (by decide) (lc_hide X hR hi k)
  | 17, _, sw => exact sw 653 621 rfl (by decide) (lc_tale X hR hi k)
  | 18, _, sw => exact sw 712 680 rfl (by decide) (lc_hush X hR hi k)
  | 19, _, sw => exact sw 725 693 rfl (by decide) (lc_liars X hR hi k)
  | 20, _, sw => exact sw 748 716 rfl (by decide) (lc_leaves X hR hi k)
  | 21, _, sw => exact sw 771 739 rfl (by decide) (lc_seen X hR hi k)
  | 22, _, sw => exact sw 820 788 rfl (by decide) (lc_forget X hR hi k)
  | 23, _, sw => exact sw 833 801 rfl (by decide) (lc_lodes X hR hi k)
  | 24, _, sw => exact sw 856 824 rfl (by decide) (lc_odds X hR hi k)
  | 25, _, sw => exact sw 890 858 rfl (by decide) (lc_next X hR hi k)
  | 26, _, sw => exact sw 913 881 rfl (by decide) (lc_turns X hR hi k)
  | 27, _, sw => exact sw 946 914 rfl (by decide) (lc_colds X hR hi k)
  | 28, _, sw => exact sw 1000 968 rfl (by decide) (lc_year X hR hi k)
  | 29, _, sw => exact sw 1043 1011 rfl (by decide) (lc_image X hR hi k)
  | 30, _, sw => exact sw 1066 1034 rfl (by decide) (lc_restore X hR hi k)
  | 31, _, sw => exact sw 1089 1057 rfl (by decide) (lc_told X hR hi k)
  | j + 32, h, _ => omega
theorem l_loop {p : Program} {l : Launch} {e : Env} {s : State} {m : MethodId} {below : List Frame} {meth : Method} {c : Code} {D : va_G} {ck : Nat → ClassId} {ad : Nat → Nat} {b L : Nat} {xs : Nat → Int32} (X : LX p s m c D ck ad b L xs) (hr : meth.sig.returnType = ret) (hlocks : meth.locks = false) : ∀ (n i : Nat) (S : SG) (M : Mod), i ≤ L → L ≤ i + n → RR S M → LW p l e s m below meth c D ck ad b i 18 [] (W2 S M) := by
  have hL := X.2.2.2.2.2.2
  have go : ∀ (i : Nat) (S : SG) (M : Mod), i ≤ L → RR S M → (i + 5 ≤ L → LW p l e s m below meth c D ck ad b i 26 [] (W2 S M)) → LW p l e s m below meth c D ck ad b i 18 [] (W2 S M) := by
    intro i S M hiL hR k
    refine k_iload (pc := 18) (j := 0) X.1 dL_law_18 rfl rfl ?_
    refine k_aload (pc := 19) (j := 3) X.1 dL_law_19 rfl rfl ?_
    intro H locs ls P Dd S1 B
    refine va_slen X.1.1 X.1.2.1 X.2.1 X.2.2.1 (Nat.not_le.mpr X.2.2.1) S1 dL_law_20 ?_
    refine lv_iconst (v := 5) X.1.1 X.1.2.1 dL_law_21 (by decide) ?_
    refine lv_isub X.1.1 X.1.2.1 dL_law_22 ?_
    have eL : (Int32.ofNat L - 5).toInt = (L : Int) - 5 := pk_sub_toInt (a := L) (b := 5) (by omega) (by omega)
    have ei : (nI i).toInt = (i : Int) := nI_toInt (by omega)
    refine lv_icmp_gt (tgt := 1118) X.1.1 X.1.2.1 dL_law_23 (by decide) (fun _ => ?_) (fun z => ?_)
    · refine lv_iconst (v := 1) X.1.1 X.1.2.1 dL_law_1118 (by decide) ?_
      exact va_forget S1.2.2 (lw_ret X.1.1 X.1.2.1 hr hlocks dL_law_1119)
    · refine k ?_ H locs ls P Dd S1 B
      have z2 : ¬ (Int32.ofNat L - 5).toInt < (nI i).toInt := fun q => z (Int32.lt_iff_toInt_lt.mpr q)
      rw [eL, ei] at z2
      omega
  intro n
  induction n with
  | zero =>
    intro i S M h1 h2 hR
    exact go i S M h1 hR (fun z => absurd z (by omega))
  | succ n ih =>
    intro i S M h1 h2 hR
    refine go i S M h1 hR (fun z => ?_)
    refine k_aload (pc := 26) (j := 3) X.1 dL_law_26 rfl rfl ?_
    refine k_iload (pc := 27) (j := 0) X.1 dL_law_27 rfl rfl ?_
    refine l_sld (pc := 28) X (by omega) dL_law_28 ?_
    refine k_bipush (pc := 29) 31 X.1 dL_law_29 (by decide) ?_
    obtain ⟨j, hj, ej⟩ := pk_andE (xs i) (m := 31) 5 (by decide)
    have next : ∀ S2 M2, RR S2 M2 → LW p l e s m below meth c D ck ad b i 1112 [] (W2 S2 M2) := fun S2 M2 h3 => by
      refine k_iinc (pc := 1112) (j := 0) (v := nI (i + 5)) (L' := LL ad b (i + 5)) X.1 dL_law_1112 rfl (nI_add i 5) (by decide) rfl ?_
      refine k_goto (pc := 1115) 18 X.1 dL_law_1115 (by decide) ?_
      exact ih (i + 5) S2 M2 (by omega) (by omega) h3
    have sw := l_sw X hR z next j hj
    intro H locs ls P Dd S1 B
    refine lv_iand X.1.1 X.1.2.1 dL_law_31 ?_
    rw [ej]
    exact sw H locs ls P Dd S1 B
set_option maxRecDepth 100000 in
/-- YOUR PART: from the entry, for every script of at most 320 ints, the law comes to its end with true -/
theorem whole_start {p : Program} {e : Env} {s : State} {m : MethodId} {below : List Frame} {meth : Method} {c : Code} (l : Launch) (hflags : l.flags = flags0) {b L : Nat} {xs : Nat → Int32} (hL : L ≤ 320) (C0 : lw_At p s m meth c b L xs) : W p l e room_1 s m #[Value.ref b] below meth c s.heap [] 0 0 (lw_Z below #[Value.ref b] s) (entryFrame m ([Value.ref b] : List Value).toArray 4) := by
  obtain ⟨hx, hb, hr, hml, hown, hts, hX, hbl, hlocks, hgv⟩ := C0
  have hgt : ∀ w ∈ gt, w.before #[Value.ref b] s = true := fun w hw => hts w (gt_tbl hw)
  obtain ⟨z, hz1, hz2⟩ := za_of hgv (hts _ (tm2 (i := 85) rfl)) (hgt _ ini_RX6)
  obtain ⟨c0, i0, hk0⟩ := u_known (C := RX0) (T := TX0) (N := 10) (n := 10) hgt la_X0 (hgt _ in_X0)
  obtain ⟨c1, i1, hk1⟩ := u_known (C := RX1) (T := TX1) (N := 4) (n := 4) hgt la_X1 (hgt _ in_X1)
  obtain ⟨c2, i2, hk2⟩ := u_known (C := RX2) (T := TX2) (N := 2) (n := 2) hgt la_X2 (hgt _ in_X2)
  obtain ⟨c3, i3, hk3⟩ := u_known (C := RX3) (T := TX3) (N := 2) (n := 2) hgt la_X3 (hgt _ in_X3)
  obtain ⟨c4, i4, hk4⟩ := u_known (C := RX4) (T := TX4) (N := 4) (n := 4) hgt la_X4 (hgt _ in_X4)
  obtain ⟨c5, i5, hk5⟩ := u_known (C := RX5) (T := TX5) (N := 5) (n := 5) hgt la_X5 (hgt _ in_X5)
  obtain ⟨c6, i6, hk6⟩ := u_known (C := RX6) (T := TX6) (N := 10) (n := 10) hgt la_X6 (hgt _ in_X6)
  obtain ⟨c7, i7, hk7⟩ := u_known (C := RX7) (T := TX7) (N := 37) (n := 37) hgt la_X7 (hgt _ in_X7)
  obtain ⟨a0, ha0⟩ := ac_ok (ty := .int) (Or.inl rfl) (hgt _ ac_int)
  obtain ⟨a1, ha1⟩ := ac_ok (ty := .long) (Or.inr (Or.inl rfl)) (hgt _ ac_long)
  obtain ⟨a2, ha2⟩ := ac_ok (ty := .boolean) (Or.inr (Or.inr rfl)) (hgt _ ac_boolean)
  obtain ⟨D, hKc⟩ : ∃ D : va_G, ∀ (k : Nat) (q : vw_C), vwCl[k]? = some q → u_Kn s q.1 q.2.1 q.2.2 (D.1 k) (D.2 k) := by
    refine ⟨(fun k => [c0, c1, c2, c3, c4, c5, c6, c7].getD k c0, fun k => [i0, i1, i2, i3, i4, i5, i6, i7].getD k i0), ?_⟩
    intro k q hq
    match k, hq with
    | 0, hq => cases hq; exact hk0
    | 1, hq => cases hq; exact hk1
    | 2, hq => cases hq; exact hk2
    | 3, hq => cases hq; exact hk3
    | 4, hq => cases hq; exact hk4
    | 5, hq => cases hq; exact hk5
    | 6, hq => cases hq; exact hk6
    | 7, hq => cases hq; exact hk7
    | k + 8, hq => simp [vwCl] at hq
  obtain ⟨ck, e0, e1, e2⟩ : ∃ ck : Nat → ClassId, ck 0 = a0 ∧ ck 1 = a1 ∧ ck 2 = a2 := ⟨fun k => [a0, a1, a2].getD k a0, rfl, rfl, rfl⟩
  have hK : va_K D vwCl (tysOf ck) s := by
    refine ⟨hKc, fun k q hq => ?_⟩
    match k, hq with
    | 0, hq => cases hq; rw [e0]; exact ha0
    | 1, hq => cases hq; rw [e1]; exact ha1
    | 2, hq => cases hq; rw [e2]; exact ha2
    | k + 3, hq => simp at hq
  have X : KX mL p s m #[Value.ref b] c D ck (up s) := ⟨hx, hb, hml, hown, hgt, hK, nst_of hts, fun _ h => h⟩
  have hP : va_P D vwCl [] s.heap := fun k q h => by simp at h
  have hD : va_D (up s) [] := ⟨fun i j p q h => by simp at h, fun k q h => by simp at h⟩
  have main : KW mL p l e room_1 s m #[Value.ref b] below meth c (lw_Z below #[Value.ref b] s) D (up s) 0 [(0, .ref b)] [] [] 0 0 := by
    refine k_new (pc := 0) (ci := 6) (fs := [.null, .null, .null, .null, .null, .null, .null, .null, .null, .null]) X dL_law_0 rfl la_X6 tyX6_ok cl_L_7 in_X6 ini_RX6 df_X6 (Nat.le_of_ble_eq_true rfl) (Nat.le_of_ble_eq_true rfl) (fun q0 => ?_)
    refine k_cells (ce := 1) (sl := 10) rfl rfl ?_
    refine k_dup (pc := 3) X dL_law_3 rfl ?_
    refine k_init (pc := 4) X kc_X6 co_X6_init rfl ci_X6_init rfl (Nat.le_of_ble_eq_true rfl) (Nat.le_of_ble_eq_true rfl) ml_L_9 rfl dL_law_4 (Nat.le_of_ble_eq_true rfl) (Nat.le_of_ble_eq_true rfl) (Nat.le_of_ble_eq_true rfl) (fun f0 => ?_)
    refine k_cells (ce := 51) (sl := 827) rfl rfl ?_
    refine k_astore (pc := 7) (L' := [(1, .ref q0), (0, .ref b)]) X dL_law_7 rfl (by decide) rfl ?_
    refine k_new (pc := 8) (ci := 7) (fs := [.null, .null, .int 0, .null, .null, .null, .null, .null, .null, .null, .null, .int 0, .null, .null, .int 0, .null, .int 0, .null, .null, .null, .int 0, .int 0, .int 0, .int 0, .int 0, .null, .null, .int 0, .int 0, .null, .null, .null, .null, .null, .null, .int 0, .int 0]) X dL_law_8 rfl la_X7 tyX7_ok cl_L_10 in_X7 ini_RX7 df_X7 (Nat.le_of_ble_eq_true rfl) (Nat.le_of_ble_eq_true rfl) (fun q1 => ?_)
    refine k_cells (ce := 52) (sl := 864) rfl rfl ?_
    refine k_dup (pc := 11) X dL_law_11 rfl ?_
    refine k_init (pc := 12) X kc_X7 co_X7_init rfl ci_X7_init rfl (Nat.le_of_ble_eq_true rfl) (Nat.le_of_ble_eq_true rfl) ml_L_12 rfl dL_law_12 (Nat.le_of_ble_eq_true rfl) (Nat.le_of_ble_eq_true rfl) (Nat.le_of_ble_eq_true rfl) (fun f1 => ?_)
    refine k_cells (ce := 76) (sl := 1931) rfl rfl ?_
    refine k_astore (pc := 15) (L' := [(2, .ref q1), (1, .ref q0), (0, .ref b)]) X dL_law_15 rfl (by decide) rfl ?_
    refine k_iconst (pc := 16) 0 X dL_law_16 (by decide) ?_
    refine k_istore (pc := 17) (L' := [(3, .int 0), (2, .ref q1), (1, .ref q0), (0, .ref b)]) X dL_law_17 rfl (by decide) rfl ?_
    refine k_ws (flat76 ck q0 f0 q1 f1) ?_
    intro H locs ls P Dd S1 B
    have pl := place ck q0 f0 q1 f1 z
    have Y : LX p s m c D ck (adP q0 f0 q1 f1 z) b L xs := by
      refine ⟨X, hX, hbl, fun i j hi hj hij => ?_, fun q hq => ?_, ⟨hz1, hz2⟩, hL⟩
      · exact ixP_inj i hi j hj (Dd.1 (ixP i) (ixP j) _ _ (pl i hi) (pl j hj) hij)
      · obtain ⟨k, hk, rfl⟩ := hq
        exact Dd.2 (ixP k) _ (pl k hk)
    have P2 : va_P D vwCl (mkw (adP q0 f0 q1 f1 z) ck (W2 S0 M0)) H := fun k q hq => by
      obtain ⟨hk, rfl⟩ := mkw_of hq
      exact P (ixP k) _ (pl k hk)
    exact l_loop Y hr hlocks L 0 S0 M0 (Nat.zero_le L) (by omega) rr0 H locs ls P2 (mkw_up Y _) S1 B
  rw [lg_entry_eq]
  exact main s.heap [] _ hP hD va_S.rf (lv_entry [.ref b] (n := 4) (Nat.le_of_ble_eq_true rfl))
