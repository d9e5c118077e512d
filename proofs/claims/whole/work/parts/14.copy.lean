/-! copies of rows; the camp's copy -/
def cpy {α : Type} (f g : Nat → α) (n : Nat) : Nat → α := fun j => if j < n then f j else g j
theorem cpy_va {α : Type} (f g : Nat → α) (n : Nat) : va_cpy f g 0 0 n = cpy f g n := by
  funext j
  simp [va_cpy, cpy]
theorem r_acpI {q : MI} {pc idx n0 n1 a0 a : Nat} {L st : List Value} {h h' : Wd} {r : Option Value} {f g : Nat → Int32} {n : Int32} (N : Nat) (hd : decode (mb q) pc = .ok (.invokestatic idx, 3)) (hl : Cond.methodLink (my q).cls idx arraycopyName ∈ gt) (hf : 1 ≤ mf q) (hlo : osum st + (nativeFrameWords "java/lang/System" "arraycopy" 5 + 11) ≤ mo q) (ha0 : a0 < 76) (ha : a < 76) (h0 : h a0 = .inl (0, n0, .inl f)) (h1 : h a = .inl (0, n1, .inl g)) (hN : n.toNatClampNeg = N) (hn : ¬ n < 0) (hn0 : N ≤ n0) (hn1 : N ≤ n1) (k : WW q (pc + 3) L st (va_up h a (.inl (0, n1, .inl (cpy f g N)))) r h') : WW q pc L (.int n :: .int 0 :: .ref a :: .int 0 :: .ref a0 :: st) h r h' := by
  intro p l e s m args below meth c D ad ck H locs ls C P S A
  have hts : ∀ w ∈ gt, w.before args s = true := C.2.2.2.2.1
  subst hN
  refine va_copyi (D := D) C.1 C.2.1 (C.2.2.1.trans A.1.symm) C.2.2.2.1 (hts _ hl) (hts _ nat_ac) (hts _ sta_ac) (hts _ ini_RJ10) C.2.2.2.2.2.2.2.1 P (mkw_D C.2.2.2.2.2.2.2.2.2.2) S a0 a 0 0 (c0 := ck 0) (c1 := ck 0) (n0 := n0) (n1 := n1) (f := f) (g := g) (ty := .int) (by rw [mkw_get ha0, h0]; rfl) (by rw [mkw_get ha, h1]; rfl) rfl rfl rfl (by decide) (by decide) hn (by rw [show (0 : Int32).toNatClampNeg = 0 from rfl, Nat.zero_add]; exact hn0) (by rw [show (0 : Int32).toNatClampNeg = 0 from rfl, Nat.zero_add]; exact hn1) (fun i _ => rfl) hf (by rw [cat_sum]; exact hlo) hd (fun H1 locs1 P1 _ S1 => ?_)
  rw [show (0 : Int32).toNatClampNeg = 0 from rfl, cpy_va, show (Sum.inl (ck 0, n1, Sum.inl (cpy f g n.toNatClampNeg)) : va_E) = ce ad ck (.inl (0, n1, .inl (cpy f g n.toNatClampNeg))) from rfl, mkw_set _ ha] at P1
  exact k p l e s m args below meth c D ad ck H1 locs1 ls C P1 S1 A
theorem r_acpL {q : MI} {pc idx n0 n1 a0 a : Nat} {L st : List Value} {h h' : Wd} {r : Option Value} {f g : Nat → Int64} {n : Int32} (N : Nat) (hd : decode (mb q) pc = .ok (.invokestatic idx, 3)) (hl : Cond.methodLink (my q).cls idx arraycopyName ∈ gt) (hf : 1 ≤ mf q) (hlo : osum st + (nativeFrameWords "java/lang/System" "arraycopy" 5 + 11) ≤ mo q) (ha0 : a0 < 76) (ha : a < 76) (h0 : h a0 = .inl (1, n0, .inr (.inl f))) (h1 : h a = .inl (1, n1, .inr (.inl g))) (hN : n.toNatClampNeg = N) (hn : ¬ n < 0) (hn0 : N ≤ n0) (hn1 : N ≤ n1) (k : WW q (pc + 3) L st (va_up h a (.inl (1, n1, .inr (.inl (cpy f g N))))) r h') : WW q pc L (.int n :: .int 0 :: .ref a :: .int 0 :: .ref a0 :: st) h r h' := by
  intro p l e s m args below meth c D ad ck H locs ls C P S A
  have hts : ∀ w ∈ gt, w.before args s = true := C.2.2.2.2.1
  subst hN
  refine va_copyl (D := D) C.1 C.2.1 (C.2.2.1.trans A.1.symm) C.2.2.2.1 (hts _ hl) (hts _ nat_ac) (hts _ sta_ac) (hts _ ini_RJ10) C.2.2.2.2.2.2.2.1 P (mkw_D C.2.2.2.2.2.2.2.2.2.2) S a0 a 1 1 (c0 := ck 1) (c1 := ck 1) (n0 := n0) (n1 := n1) (f := f) (g := g) (ty := .long) (by rw [mkw_get ha0, h0]; rfl) (by rw [mkw_get ha, h1]; rfl) rfl rfl rfl (by decide) (by decide) hn (by rw [show (0 : Int32).toNatClampNeg = 0 from rfl, Nat.zero_add]; exact hn0) (by rw [show (0 : Int32).toNatClampNeg = 0 from rfl, Nat.zero_add]; exact hn1) (fun i _ => rfl) hf (by rw [cat_sum]; exact hlo) hd (fun H1 locs1 P1 _ S1 => ?_)
  rw [show (0 : Int32).toNatClampNeg = 0 from rfl, cpy_va, show (Sum.inl (ck 1, n1, Sum.inr (Sum.inl (cpy f g n.toNatClampNeg))) : va_E) = ce ad ck (.inl (1, n1, .inr (.inl (cpy f g n.toNatClampNeg)))) from rfl, mkw_set _ ha] at P1
  exact k p l e s m args below meth c D ad ck H1 locs1 ls C P1 S1 A
theorem wc_out {h : Wd} {k j : Nat} {c : Camp} (hj : j < k ∨ k + 6 < j) : wc h k c j = h j := by
  simp only [wc]
  rw [if_neg (by omega), if_neg (by omega), if_neg (by omega), if_neg (by omega), if_neg (by omega), if_neg (by omega), if_neg (by omega)]
def cpC (c c2 : Camp) : Camp := wc_s_womans (wc_s_whistling (wc_s_withCold (wc_s_men (wc_s_known (wc_s_salts (wc_s_tents (wc_s_claimers (wc_s_goldOn c (cpy (wc_goldOn c2) (wc_goldOn c) 64)) (cpy (wc_claimers c2) (wc_claimers c) 64)) (cpy (wc_tents c2) (wc_tents c) 6)) (cpy (wc_salts c2) (wc_salts c) 6)) (cpy (wc_known c2) (wc_known c) 6)) (wc_men c2)) (wc_withCold c2)) (wc_whistling c2)) 0
theorem ct_X0_copyFrom {h : Wd} {k k2 : Nat} {c c2 : Camp} (hk : k + 6 < 76) (hk2 : k2 + 6 < 76) (ha : k2 + 6 < k ∨ k + 6 < k2) : Ct mX0_copyFrom [.ref k, .ref k2] (wc (wc h k2 c2) k c) none (wc (wc h k2 c2) k (cpC c c2)) := by
  have oo : ∀ d : Camp, wc (wc h k2 c2) k d k2 = .inr (0, wc_obj k2 c2) := fun d => (wc_out (by omega)).trans (wc_o h k2 c2)
  have o1 : ∀ d : Camp, wc (wc h k2 c2) k d (k2 + 1) = .inl (0, 64, .inl (wc_goldOn c2)) := fun d => (wc_out (by omega)).trans (wc_a_goldOn h k2 c2)
  have o2 : ∀ d : Camp, wc (wc h k2 c2) k d (k2 + 2) = .inl (0, 64, .inl (wc_claimers c2)) := fun d => (wc_out (by omega)).trans (wc_a_claimers h k2 c2)
  have o3 : ∀ d : Camp, wc (wc h k2 c2) k d (k2 + 3) = .inl (0, 6, .inl (wc_tents c2)) := fun d => (wc_out (by omega)).trans (wc_a_tents h k2 c2)
  have o4 : ∀ d : Camp, wc (wc h k2 c2) k d (k2 + 4) = .inl (0, 6, .inl (wc_salts c2)) := fun d => (wc_out (by omega)).trans (wc_a_salts h k2 c2)
  have o5 : ∀ d : Camp, wc (wc h k2 c2) k d (k2 + 5) = .inl (1, 6, .inr (.inl (wc_known c2))) := fun d => (wc_out (by omega)).trans (wc_a_known h k2 c2)
  refine Ct.of (Z := List.replicate 0 .null) (by decide) (Nat.le_of_ble_eq_true rfl) (fun z hz => List.eq_of_mem_replicate hz) ?_
  show WW mX0_copyFrom 0 [.ref k, .ref k2] [] _ _ _
  refine r_aload_1 (pc := 0) dX0_copyFrom_0 ?_
  refine r_get (pc := 1) (k := 0) dX0_copyFrom_1 (ci := 0) rfl la_X0 fl_X0_9 (by decide) (by omega) (oo _) rfl ?_
  refine r_iconst (pc := 4) 0 dX0_copyFrom_4 (by decide) ?_
  refine r_aload_0 (pc := 5) dX0_copyFrom_5 ?_
  refine r_wc_get_goldOn (pc := 6) hk fl_X0_9 dX0_copyFrom_6 ?_
  refine r_iconst (pc := 9) 0 dX0_copyFrom_9 (by decide) ?_
  refine r_bipush (pc := 10) 64 dX0_copyFrom_10 (by decide) ?_
  refine r_acpI (pc := 12) 64 dX0_copyFrom_12 ml_X0_31 (by decide) (by decide) (by omega) (by omega) (o1 _) (wc_a_goldOn _ _ _) rfl (by decide) (by decide) (by decide) ?_
  rw [wc_u_goldOn]
  refine r_aload_1 (pc := 15) dX0_copyFrom_15 ?_
  refine r_get (pc := 16) (k := 1) dX0_copyFrom_16 (ci := 0) rfl la_X0 fl_X0_15 (by decide) (by omega) (oo _) rfl ?_
  refine r_iconst (pc := 19) 0 dX0_copyFrom_19 (by decide) ?_
  refine r_aload_0 (pc := 20) dX0_copyFrom_20 ?_
  refine r_wc_get_claimers (pc := 21) hk fl_X0_15 dX0_copyFrom_21 ?_
  refine r_iconst (pc := 24) 0 dX0_copyFrom_24 (by decide) ?_
  refine r_bipush (pc := 25) 64 dX0_copyFrom_25 (by decide) ?_
  refine r_acpI (pc := 27) 64 dX0_copyFrom_27 ml_X0_31 (by decide) (by decide) (by omega) (by omega) (o2 _) (wc_a_claimers _ _ _) rfl (by decide) (by decide) (by decide) ?_
  rw [wc_u_claimers]
  refine r_aload_1 (pc := 30) dX0_copyFrom_30 ?_
  refine r_get (pc := 31) (k := 2) dX0_copyFrom_31 (ci := 0) rfl la_X0 fl_X0_18 (by decide) (by omega) (oo _) rfl ?_
  refine r_iconst (pc := 34) 0 dX0_copyFrom_34 (by decide) ?_
  refine r_aload_0 (pc := 35) dX0_copyFrom_35 ?_
  refine r_wc_get_tents (pc := 36) hk fl_X0_18 dX0_copyFrom_36 ?_
  refine r_iconst (pc := 39) 0 dX0_copyFrom_39 (by decide) ?_
  refine r_bipush (pc := 40) 6 dX0_copyFrom_40 (by decide) ?_
  refine r_acpI (pc := 42) 6 dX0_copyFrom_42 ml_X0_31 (by decide) (by decide) (by omega) (by omega) (o3 _) (wc_a_tents _ _ _) rfl (by decide) (by decide) (by decide) ?_
  rw [wc_u_tents]
  refine r_aload_1 (pc := 45) dX0_copyFrom_45 ?_
  refine r_get (pc := 46) (k := 3) dX0_copyFrom_46 (ci := 0) rfl la_X0 fl_X0_21 (by decide) (by omega) (oo _) rfl ?_
  refine r_iconst (pc := 49) 0 dX0_copyFrom_49 (by decide) ?_
  refine r_aload_0 (pc := 50) dX0_copyFrom_50 ?_
  refine r_wc_get_salts (pc := 51) hk fl_X0_21 dX0_copyFrom_51 ?_
  refine r_iconst (pc := 54) 0 dX0_copyFrom_54 (by decide) ?_
  refine r_bipush (pc := 55) 6 dX0_copyFrom_55 (by decide) ?_
  refine r_acpI (pc := 57) 6 dX0_copyFrom_57 ml_X0_31 (by decide) (by decide) (by omega) (by omega) (o4 _) (wc_a_salts _ _ _) rfl (by decide) (by decide) (by decide) ?_
  rw [wc_u_salts]
  refine r_aload_1 (pc := 60) dX0_copyFrom_60 ?_
  refine r_get (pc := 61) (k := 4) dX0_copyFrom_61 (ci := 0) rfl la_X0 fl_X0_24 (by decide) (by omega) (oo _) rfl ?_
  refine r_iconst (pc := 64) 0 dX0_copyFrom_64 (by decide) ?_
  refine r_aload_0 (pc := 65) dX0_copyFrom_65 ?_
  refine r_wc_get_known (pc := 66) hk fl_X0_24 dX0_copyFrom_66 ?_
  refine r_iconst (pc := 69) 0 dX0_copyFrom_69 (by decide) ?_
  refine r_bipush (pc := 70) 6 dX0_copyFrom_70 (by decide) ?_
  refine r_acpL (pc := 72) 6 dX0_copyFrom_72 ml_X0_31 (by decide) (by decide) (by omega) (by omega) (o5 _) (wc_a_known _ _ _) rfl (by decide) (by decide) (by decide) ?_
  rw [wc_u_known]
  refine r_aload_0 (pc := 75) dX0_copyFrom_75 ?_
  refine r_aload_1 (pc := 76) dX0_copyFrom_76 ?_
  refine r_get (pc := 77) (k := 6) dX0_copyFrom_77 (ci := 0) rfl la_X0 fl_X0_37 (by decide) (by omega) (oo _) rfl ?_
  refine r_wc_put_men (pc := 80) hk fl_X0_37 dX0_copyFrom_80 ?_
  refine r_aload_0 (pc := 83) dX0_copyFrom_83 ?_
  refine r_aload_1 (pc := 84) dX0_copyFrom_84 ?_
  refine r_get (pc := 85) (k := 7) dX0_copyFrom_85 (ci := 0) rfl la_X0 fl_X0_41 (by decide) (by omega) (oo _) rfl ?_
  refine r_wc_put_withCold (pc := 88) hk fl_X0_41 dX0_copyFrom_88 ?_
  refine r_aload_0 (pc := 91) dX0_copyFrom_91 ?_
  refine r_aload_1 (pc := 92) dX0_copyFrom_92 ?_
  refine r_get (pc := 93) (k := 8) dX0_copyFrom_93 (ci := 0) rfl la_X0 fl_X0_44 (by decide) (by omega) (oo _) rfl ?_
  refine r_wc_put_whistling (pc := 96) hk fl_X0_44 dX0_copyFrom_96 ?_
  refine r_aload_0 (pc := 99) dX0_copyFrom_99 ?_
  refine r_iconst (pc := 100) 0 dX0_copyFrom_100 (by decide) ?_
  refine r_wc_put_womans (pc := 101) hk fl_X0_47 dX0_copyFrom_101 ?_
  refine r_vret (pc := 104) dX0_copyFrom_104 rfl rfl rfl
