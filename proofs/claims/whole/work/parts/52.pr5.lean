/-! THE PAIR: the refusal, and the calls behind weeks -/
theorem bk_fr {X M : Mod} (h15 : wm_had X = wm_had (kpM M)) (hk : wm_hadKnown X = wm_hadKnown (kpM M)) (h0 : X.1 0 = M.1 0) (h6 : ∀ i, 6 ≤ i → i < 12 → X.1 i = M.1 i) (h19 : X.1 19 = M.1 19) (h20 : X.1 20 = M.1 20) (hk2 : X.2.1 2 = M.2.1 2) (hv : ∀ v, v < 4 → X.2.2 v = M.2.2 v) : frM (bkM X) M := bk_frN rfl rfl rfl rfl h15 hk h0 h6 h19 h20 hk2 hv
theorem kpM_same (M : Mod) : (∀ i, i ≠ 15 → (kpM M).1 i = M.1 i) ∧ (∀ i, i ≠ 1 → (kpM M).2.1 i = M.2.1 i) ∧ (kpM M).2.2 = M.2.2 := by
  obtain ⟨a, b⟩ := kp2_same (kp1 M 6) 64
  obtain ⟨d, e, f⟩ := kp1_same M 6
  exact ⟨fun i hi => (a i hi).trans (d i hi), fun i hi => (congrFun (congrArg Prod.fst b) i).trans (e i hi), (congrArg Prod.snd b).trans f⟩
theorem rfA_same (M : Mod) (n : Nat) : (∀ i, i < 12 ∨ 15 < i → (rfA M n).1 i = M.1 i) ∧ wm_had (rfA M n) = wm_had (kpM M) ∧ wm_hadKnown (rfA M n) = wm_hadKnown (kpM M) ∧ (∀ i, i ≠ 1 → (rfA M n).2.1 i = M.2.1 i) ∧ ∀ i, i ≠ 4 → (rfA M n).2.2 i = M.2.2 i := by
  obtain ⟨a, b, d⟩ := rdM_same (wm_pad (kpM M)) (kpM M) (rdN (wm_pad (kpM M)) n n)
  obtain ⟨e, f, g⟩ := kpM_same M
  exact ⟨fun i hi => (a i (by omega)).trans (e i (by omega)), a 15 (by omega), congrFun b 1, fun i hi => (congrFun b i).trans (f i hi), fun i hi => (d i hi).trans (congrFun g i)⟩
theorem gws_same (n : Nat) : ∀ r c, (∀ i, i = 0 ∨ 6 ≤ i → (gws n r c).1 i = c.1 i) ∧ (∀ i, 1 ≤ i → (gws n r c).2.1 i = c.2.1 i) ∧ (∀ i, i < 5 ∨ 11 ≤ i → (gws n r c).2.2 i = c.2.2 i)
  | 0, c => ⟨fun _ _ => rfl, fun _ _ => rfl, fun _ _ => rfl⟩
  | r + 1, c => by
    rw [gws]
    by_cases z : wm_badAct c < 0
    · rw [if_pos z]
      obtain ⟨a, b, d⟩ := gws_same n r (gw1 c (n - (r + 1)))
      obtain ⟨e, f, g⟩ := gw1_same c (n - (r + 1))
      exact ⟨fun i hi => (a i hi).trans (e i hi), fun i hi => (b i hi).trans (f i hi), fun i hi => (d i hi).trans (g i hi)⟩
    · rw [if_neg z]
      exact ⟨fun _ _ => rfl, fun _ _ => rfl, fun _ _ => rfl⟩
theorem gwI_same (c : Mod) : (gwI c).1 = c.1 ∧ (gwI c).2.1 = c.2.1 ∧ (∀ i, i < 5 ∨ 11 ≤ i → (gwI c).2.2 i = c.2.2 i) := by
  refine ⟨rfl, rfl, fun i hi => ?_⟩
  show va_up (va_up (va_up (va_up (va_up c.2.2 9 _) 10 _) 5 _) 6 _) 7 _ i = _
  rw [va_up_ne _ _ (by omega), va_up_ne _ _ (by omega), va_up_ne _ _ (by omega), va_up_ne _ _ (by omega), va_up_ne _ _ (by omega)]
theorem rfG_same (M : Mod) (n : Nat) : (∀ i, i = 0 ∨ (6 ≤ i ∧ i < 12) ∨ 15 < i → (rfG M n).1 i = M.1 i) ∧ wm_had (rfG M n) = wm_had (kpM M) ∧ wm_hadKnown (rfG M n) = wm_hadKnown (kpM M) ∧ (rfG M n).2.1 2 = M.2.1 2 ∧ (∀ i, i < 4 ∨ 11 ≤ i → (rfG M n).2.2 i = M.2.2 i) ∧ wm_acts (rfG M n) = wm_acts (rfA M n) := by
  obtain ⟨a, b, d⟩ := gws_same (rfK M n) (rfK M n) (gwI (rfA M n))
  obtain ⟨e, f, g⟩ := gwI_same (rfA M n)
  obtain ⟨r1, r2, r3, r4, r5⟩ := rfA_same M n
  exact ⟨fun i hi => (a i (by omega)).trans ((congrFun e i).trans (r1 i (by omega))), (a 15 (by omega)).trans ((congrFun e 15).trans r2), (b 1 (by omega)).trans ((congrFun f 1).trans r3), (b 2 (by omega)).trans ((congrFun f 2).trans (r4 2 (by omega))), fun i hi => (d i (by omega)).trans ((g i (by omega)).trans (r5 i (by omega))), (d 4 (by omega)).trans (g 4 (by omega))⟩
theorem rfG_fr (M : Mod) (n : Nat) : frM (bkM (rfG M n)) M := by
  obtain ⟨r1, r2, r3, r4, r5, -⟩ := rfG_same M n
  exact bk_fr r2 r3 (r1 0 (by omega)) (fun i h h2 => r1 i (by omega)) (r1 19 (by omega)) (r1 20 (by omega)) r4 (fun v hv => r5 v (by omega))
theorem rfA_fr (M : Mod) (n : Nat) : frM (bkM (rfA M n)) M := by
  obtain ⟨r1, r2, r3, r4, r5⟩ := rfA_same M n
  exact bk_fr r2 r3 (r1 0 (by omega)) (fun i h h2 => r1 i (by omega)) (r1 19 (by omega)) (r1 20 (by omega)) (r4 2 (by omega)) (fun v hv => r5 v (by omega))
theorem rfS_fr (M : Mod) (n : Nat) : frM (bkM (rfS M n)) M := by
  rw [rfS]
  by_cases z : flt (wm_pad M) n < 0
  · rw [if_pos z]; exact rfG_fr M n
  · rw [if_neg z]; exact rfA_fr M n
theorem bkM_v (X : Mod) : (bkM X).2.2 = X.2.2 := (congrArg Prod.snd (bk2_same (bk1 X 6) 64).2).trans (bk1_same X 6).2.2
/-- another state of the class that holds the same -/
theorem RR.sS {S T : SG} {M : Mod} (e1 : T.mem = S.mem) (e2 : T.pad = S.pad) (h : RR S M) : RR T M := by
  obtain ⟨a, b, d, e⟩ := h
  refine ⟨by show RY (T.mem 1) M; rw [e1]; exact a, by rw [e2]; exact b, d.ke ⟨rfl, rfl, rfl⟩ (by rw [e1]), e.ke ⟨rfl, rfl, rfl⟩ (by rw [e1])⟩
def agC (c d : Camp) : Prop := (∀ j, j < 64 → wc_goldOn c j = wc_goldOn d j ∧ wc_claimers c j = wc_claimers d j) ∧ (∀ m, m < 6 → wc_tents c m = wc_tents d m ∧ wc_salts c m = wc_salts d m ∧ wc_known c m = wc_known d m) ∧ wc_men c = wc_men d ∧ wc_withCold c = wc_withCold d ∧ wc_whistling c = wc_whistling d
theorem RC.agC {c d : Camp} {M : Mod} (a : agC c d) (h : RC d M) : RC c M := by
  obtain ⟨a1, a2, a3, a4, a5⟩ := a
  obtain ⟨hg, ho, hm, hl, hp, hs, hT, hT2, hc, hw⟩ := h
  refine ⟨fun j hj => by rw [(a1 j hj).1]; exact hg j hj, fun j hj => by rw [(a1 j hj).2]; exact ho j hj, by rw [a3]; exact hm, hl, fun m hm6 hb => ?_, fun m hm6 hb => by rw [(a2 m hm6).2.1]; exact hs m hm6 hb, fun m hm6 => by rw [(a2 m hm6).1]; exact hT m hm6, hT2, hc, hw⟩
  rw [(a2 m hm6).1, (a2 m hm6).2.1, (a2 m hm6).2.2, a4, a5]
  exact hp m hm6 hb
theorem cpC_f (c d : Camp) : wc_goldOn (cpC c d) = cpy (wc_goldOn d) (wc_goldOn c) 64 ∧ wc_claimers (cpC c d) = cpy (wc_claimers d) (wc_claimers c) 64 ∧ wc_tents (cpC c d) = cpy (wc_tents d) (wc_tents c) 6 ∧ wc_salts (cpC c d) = cpy (wc_salts d) (wc_salts c) 6 ∧ wc_known (cpC c d) = cpy (wc_known d) (wc_known c) 6 ∧ wc_men (cpC c d) = wc_men d ∧ wc_withCold (cpC c d) = wc_withCold d ∧ wc_whistling (cpC c d) = wc_whistling d ∧ wc_womans (cpC c d) = 0 := ⟨rfl, rfl, rfl, rfl, rfl, rfl, rfl, rfl, rfl⟩
theorem cpC_ag (c d : Camp) : agC (cpC c d) d := by
  obtain ⟨e1, e2, e3, e4, e5, e6, e7, e8, -⟩ := cpC_f c d
  refine ⟨fun j hj => ?_, fun m hm => ?_, e6, e7, e8⟩
  · rw [e1, e2, cpy_lt hj, cpy_lt hj]; exact ⟨rfl, rfl⟩
  · rw [e3, e4, e5, cpy_lt hm, cpy_lt hm, cpy_lt hm]; exact ⟨rfl, rfl, rfl⟩
theorem plr_cong {p q : Nat → Int32} {n : Nat} (h : ∀ j, j < n → p j = q j) : ∀ r s, r ≤ n → plr p n r s = plr q n r s
  | 0, s, _ => by rw [plr, plr]
  | 1, s, hr => by rw [plr, plr, h (n - 1) (by omega)]
  | r + 2, s, hr => by
    rw [plr, plr, h (n - (r + 2)) (by omega), h (n - (r + 2) + 1) (by omega), plr_cong h (r + 1) _ (by omega), plr_cong h r _ (by omega)]
theorem gwI_v (c : Mod) : wm_badAct (gwI c) = -6 ∧ wm_badWhy (gwI c) = -6 ∧ wm_womans (gwI c) = 0 ∧ wm_firstNothing (gwI c) = -6 ∧ wm_nothingMany (gwI c) = 0 := ⟨rfl, rfl, rfl, rfl, rfl⟩
/-- weeks without a fault: both sides behind them -/
theorem wks {S : SG} {M : Mod} {n : Nat} (h : RR S M) (hn : n ≤ 60) (hp : ∀ j, j < n → wp_signs S.pad j = wm_pad M j) (hf : flt (wm_pad M) n = -6) : RW (pwR S n).1 (pwR S n).2 (rfG M n) (rfK M n) := by
  have hall : ∀ i, i < n → fitS (nmd (wm_pad M) i) (wm_pad M i) = true := fun i hi => ffd_all hn n 0 (by omega) hf i (by omega) hi
  have eA : rfA M n = rdM (wm_pad M) n (kpM M) := by rw [rfA, rdA, kpM_pad, rdN_all hall n (Nat.le_refl n)]
  obtain ⟨b1, b2, -⟩ := rdM_PA (kpM M) hn hall n (Nat.le_refl n)
  rw [← eA] at b1 b2
  have eK : rfK M n = cA (wm_pad M) n := by
    have := cA_bd (wm_pad M) n
    rw [rfK, b1]; exact nI_clamp (by omega)
  obtain ⟨r1, r2, r3, r4, r5⟩ := rfA_same M n
  obtain ⟨i1, i2, i3⟩ := gwI_same (rfA M n)
  obtain ⟨v1, v2, v3, v4, v5⟩ := gwI_v (rfA M n)
  have hRC : RC (pwC S) (gwI (rfA M n)) := by
    refine RC.of (B := M) ?_ ?_ ?_ ?_ ?_ ?_ ?_ ?_ (h.1.1.agC (cpC_ag S.ahead S.now.camp))
    · exact (congrFun i1 0).trans (r1 0 (by omega))
    · exact (congrFun i1 1).trans (r1 1 (by omega))
    · exact (i3 0 (by omega)).trans (r5 0 (by omega))
    · exact (congrFun i1 2).trans (r1 2 (by omega))
    · exact (congrFun i1 5).trans (r1 5 (by omega))
    · exact (congrFun i2 0).trans (r4 0 (by omega))
    · exact (congrFun i1 3).trans (r1 3 (by omega))
    · exact (congrFun i1 4).trans (r1 4 (by omega))
  have hW : RW (w0 S.week) (pwC S) (gwI (rfA M n)) (cA (wm_pad M) 0) :=
    ⟨⟨hRC, (cpC_f S.ahead S.now.camp).2.2.2.2.2.2.2.2.trans v3.symm⟩, v1.symm, v2.symm, v4.symm, v5.symm, Or.inl v1, Or.inl v4, fun _ => ⟨rfl, rfl⟩⟩
  have hPA : PA (wm_pad M) n (gwI (rfA M n)) := b2.of (congrFun i1 12) (congrFun i1 13) (congrFun i1 14)
  have g := sim hn n 0 (w0 S.week) (pwC S) _ (by omega) rfl hf hPA hW
  have e0 : cA (wm_pad M) n - cA (wm_pad M) 0 = cA (wm_pad M) n := Nat.sub_zero _
  rw [e0, ← eK] at g
  have e1 : pwR S n = plr (wm_pad M) n n (w0 S.week, pwC S) := plr_cong hp n _ (Nat.le_refl n)
  rw [e1]
  exact g
/-- what is needed of a pad -/
theorem RR.pd {S : SG} {M : Mod} (h : RR S M) : ∃ n, n ≤ 60 ∧ wp_count S.pad = nI n ∧ wm_padMany M = nI n ∧ (∀ j, j < n → wp_signs S.pad j = wm_pad M j) ∧ flt (wp_signs S.pad) n = flt (wm_pad M) n := by
  obtain ⟨n, hn, h1, h2, h3⟩ := h.2.1
  exact ⟨n, hn, h1, h2, h3, flt_cong h3⟩
theorem pw_bad {S : SG} {M : Mod} {n : Nat} (hn : n ≤ 60) (e : flt (wp_signs S.pad) n = flt (wm_pad M) n) (hf : ¬ flt (wm_pad M) n = -6) : pwV S n = -5 ∧ pwS S n = S ∧ rfV M n = -5 ∧ rfS M n = rfA M n := by
  have z : ¬ flt (wm_pad M) n < 0 := fun q => hf ((flt_neg hn).mp q)
  refine ⟨by rw [pwV, e, if_neg hf], by rw [pwS, e, if_neg hf], by rw [rfV, if_neg z], by rw [rfS, if_neg z]⟩
theorem pw_good {S : SG} {M : Mod} {n : Nat} (hn : n ≤ 60) (e : flt (wp_signs S.pad) n = flt (wm_pad M) n) (hf : flt (wm_pad M) n = -6) : pwV S n = (if wk_bad (pwR S n).1 = -6 then 0 else -3) ∧ pwS S n = pwG S n ∧ rfV M n = (if wm_badAct (rfG M n) < 0 then -6 else -3) ∧ rfS M n = rfG M n := by
  have z : flt (wm_pad M) n < 0 := (flt_neg hn).mpr hf
  refine ⟨by rw [pwV, e, if_pos hf], by rw [pwS, e, if_pos hf], by rw [rfV, if_pos z], by rw [rfS, if_pos z]⟩
theorem pwS_mem (S : SG) (n : Nat) : (pwS S n).mem = S.mem ∧ (pwS S n).pad = S.pad := by
  rw [pwS]
  by_cases z : flt (wp_signs S.pad) n = -6
  · rw [if_pos z, pwG]; exact ⟨rfl, rfl⟩
  · rw [if_neg z]; exact ⟨rfl, rfl⟩
theorem pwG_f (S : SG) (n : Nat) : (pwG S n).week = (pwR S n).1 ∧ (pwG S n).ahead = (pwR S n).2 := by
  rw [pwG]; exact ⟨rfl, rfl⟩
theorem rr_wk {S : SG} {M : Mod} (h : RR S M) (n : Nat) : RR (pwS S n) (bkM (rfS M n)) := (h.fr (rfS_fr M n)).sS (pwS_mem S n).1 (pwS_mem S n).2
/-- the three ways of a refusal -/
theorem wk_ways {S : SG} {M : Mod} {n : Nat} (h : RR S M) (hn : n ≤ 60) (hp : ∀ j, j < n → wp_signs S.pad j = wm_pad M j) (e : flt (wp_signs S.pad) n = flt (wm_pad M) n) :
    (pwV S n = -5 ∧ rfV M n = -5) ∨ (pwV S n = -3 ∧ rfV M n = -3 ∧ RW (pwS S n).week (pwS S n).ahead (rfS M n) (rfK M n)) ∨ (pwV S n = 0 ∧ rfV M n = -6 ∧ RW (pwS S n).week (pwS S n).ahead (rfS M n) (rfK M n) ∧ wm_badAct (rfS M n) = -6) := by
  by_cases hf : flt (wm_pad M) n = -6
  · obtain ⟨q1, q2, q3, q4⟩ := pw_good hn e hf
    have W := wks h hn hp hf
    obtain ⟨f1, f2⟩ := pwG_f S n
    rw [q1, q3, q2, q4, f1, f2]
    refine Or.inr ?_
    by_cases z : wm_badAct (rfG M n) = -6
    · exact Or.inr ⟨if_pos (W.2.1.trans z), if_pos (by rw [z]; decide), W, z⟩
    · exact Or.inl ⟨if_neg (fun y => z (W.2.1.symm.trans y)), if_neg (fun y => z (W.2.2.2.2.2.1.neg.mp y)), W⟩
  · obtain ⟨q1, -, q3, -⟩ := pw_bad hn e hf
    exact Or.inl ⟨q1, q3⟩
theorem lo2 {x : Int32} (h : inR x 0 2 = true) : x = 0 ∨ x = 1 ∨ x = 2 := by
  obtain ⟨n, -, h2, rfl⟩ := inR_t (lo := 0) (hi := 2) (by decide) (by decide) h
  rcases (show n = 0 ∨ n = 1 ∨ n = 2 by omega) with rfl | rfl | rfl
  · exact Or.inl rfl
  · exact Or.inr (Or.inl rfl)
  · exact Or.inr (Or.inr rfl)
theorem lo1 {x : Int32} (h : inR x 0 1 = true) : x = 0 ∨ x = 1 := by
  obtain ⟨n, -, h2, rfl⟩ := inR_t (lo := 0) (hi := 1) (by decide) (by decide) h
  rcases (show n = 0 ∨ n = 1 by omega) with rfl | rfl
  · exact Or.inl rfl
  · exact Or.inr rfl
theorem pr_judge {S : SG} {M : Mod} (h : RR S M) (x : Int32) : PR mX6_judge mX7_judge [.int x] S M := by
  by_cases hb : inR x 0 2 = true
  · obtain ⟨n, hn, h1, h2, h3, h4⟩ := h.pd
    refine PR.mk (rr_wk h n) (fun _ => ct_X6_judge hb h1 hn h.1.1.2.2.2.2.2.2.1) (fun _ => ct_X7_judge k51 hb h2 hn h.1.1.2.2.2.2.2.2.2.1) (eI ?_)
    have b9 : wm_badAct (bkM (rfS M n)) = wm_badAct (rfS M n) := congrFun (bkM_v _) 9
    have b10 : wm_badWhy (bkM (rfS M n)) = wm_badWhy (rfS M n) := congrFun (bkM_v _) 10
    have b5 : wm_womans (bkM (rfS M n)) = wm_womans (rfS M n) := congrFun (bkM_v _) 5
    rw [jdV, jgV, b9, b10, b5]
    rcases wk_ways h hn h3 h4 with ⟨a, b⟩ | ⟨a, b, W⟩ | ⟨a, b, W, -⟩
    · rw [a, b, if_pos (Or.inl rfl), if_pos (Or.inl rfl)]
    · rw [a, b, W.1.2, W.2.1, W.2.2.1]
      rcases lo2 hb with rfl | rfl | rfl
      · rw [if_neg (show ¬ ((-3 : Int32) = -5 ∨ ((-3 : Int32) = -3 ∧ (0 : Int32) = 2)) by decide), if_neg (show ¬ ((-3 : Int32) = -5 ∨ ((1 : Int32) < 0 ∧ (-3 : Int32) = -3)) by decide)]
      · rw [if_neg (show ¬ ((-3 : Int32) = -5 ∨ ((-3 : Int32) = -3 ∧ (1 : Int32) = 2)) by decide), if_neg (show ¬ ((-3 : Int32) = -5 ∨ ((1 : Int32) < 1 ∧ (-3 : Int32) = -3)) by decide)]
      · rw [if_pos (by decide), if_pos (by decide)]
    · rw [a, b, W.1.2, W.2.1, W.2.2.1]
      rcases lo2 hb with rfl | rfl | rfl
      · rw [if_neg (show ¬ ((0 : Int32) = -5 ∨ ((0 : Int32) = -3 ∧ (0 : Int32) = 2)) by decide), if_neg (show ¬ ((-6 : Int32) = -5 ∨ ((1 : Int32) < 0 ∧ (-6 : Int32) = -3)) by decide)]
      · rw [if_neg (show ¬ ((0 : Int32) = -5 ∨ ((0 : Int32) = -3 ∧ (1 : Int32) = 2)) by decide), if_neg (show ¬ ((-6 : Int32) = -5 ∨ ((1 : Int32) < 1 ∧ (-6 : Int32) = -3)) by decide)]
      · rw [if_neg (show ¬ ((0 : Int32) = -5 ∨ ((0 : Int32) = -3 ∧ (2 : Int32) = 2)) by decide), if_neg (show ¬ ((-6 : Int32) = -5 ∨ ((1 : Int32) < 2 ∧ (-6 : Int32) = -3)) by decide)]
  · exact PR.mk h (fun _ => ct_X6_judgeB (nff hb)) (fun _ => ct_X7_judgeB k51 (nff hb)) rfl
/-! what is heard -/
theorem RC.sn {c : Camp} {M : Mod} (h : RC c M) {m : Nat} (hm : m < 6) (hb : bt (wm_men M) m = true) : snC c m = snM M m := by
  obtain ⟨p1, p2, p3, p4, p5⟩ := h.2.2.2.2.1 m hm hb
  rw [snC, snM, coB, whB, p3, p4, p5, snv, snv]
  have e : gsum (wc_goldOn c) (wm_knows M m) 64 = gsum (wm_ore M) (wm_knows M m) 64 := by
    rw [gsum, gsum]
    exact isum_cong (fun j hj => by rw [h.1 j hj])
  rw [e]
theorem hrd_eq {c : Camp} {M : Mod} (h : RC c M) {u u' cell : Int32} (hu : ∀ m, m < 6 → (nI m = u ↔ nI m = u')) : hrd (wc_men c) (lsn c 6) (wc_tents c) u cell 6 = hrd (wm_men M) (snM M) (wm_tent M) u' cell 6 := by
  rw [hrd, hrd]
  refine isum_cong (fun m hm => ?_)
  rw [h.men]
  by_cases hb : bt (wm_men M) m = true
  · rw [lsn_at 6 hm, h.sn hm hb, (h.2.2.2.2.1 m hm hb).1]
    by_cases z : nI m = u
    · rw [if_neg (fun q => q.1 z), if_neg (fun q => q.1 ((hu m hm).mp z))]
    · rw [if_pos ⟨z, hb⟩, if_pos ⟨fun q => z ((hu m hm).mpr q), hb⟩]
  · rw [if_neg (fun q => hb q.2), if_neg (fun q => hb q.2)]
theorem un_no : ∀ m, m < 6 → (nI m = (-1 : Int32) ↔ nI m = (-6 : Int32)) := by decide
theorem rfS_men (M : Mod) (n : Nat) : wm_men (rfS M n) = wm_men M := by
  rw [rfS]
  by_cases z : flt (wm_pad M) n < 0
  · rw [if_pos z]; exact (rfG_same M n).2.2.2.2.1 0 (by omega)
  · rw [if_neg z]; exact (rfA_same M n).2.2.2.2 0 (by omega)
/-- tents and colds of the reference behind a refusal -/
theorem rfS_ok {S : SG} {M : Mod} {n : Nat} (h : RR S M) (hn : n ≤ 60) (hp : ∀ j, j < n → wp_signs S.pad j = wm_pad M j) (e : flt (wp_signs S.pad) n = flt (wm_pad M) n) : okT (wm_tent (rfS M n)) ∧ ok01 (wm_cold (rfS M n)) := by
  by_cases hf : flt (wm_pad M) n = -6
  · obtain ⟨-, -, -, q4⟩ := pw_good hn e hf
    have W := (wks h hn hp hf).1.1
    rw [q4]
    exact ⟨W.2.2.2.2.2.2.2.1, W.2.2.2.2.2.2.2.2.1⟩
  · obtain ⟨-, -, -, q4⟩ := pw_bad hn e hf
    rw [q4]
    have e2 : wm_tent (rfA M n) = wm_tent M := (rfA_same M n).1 2 (by omega)
    have e3 : wm_cold (rfA M n) = wm_cold M := (rfA_same M n).1 3 (by omega)
    rw [e2, e3]
    exact ⟨h.1.1.2.2.2.2.2.2.2.1, h.1.1.2.2.2.2.2.2.2.2.1⟩
theorem pr_behind {S : SG} {M : Mod} (h : RR S M) (x y : Int32) : PR mX6_behind mX7_behind [.int x, .int y] S M := by
  have R := h.1.1
  by_cases hb : hasB (wc_men S.now.camp) x = true
  · by_cases hy : inR y 0 3 = true
    · obtain ⟨n, hn, h1, h2, h3, h4⟩ := h.pd
      obtain ⟨m, hm, rfl, hbm⟩ := hasB_t hb
      refine PR.mk (rr_wk h n) (fun _ => ct_X6_behind hm hb hy h1 hn R.2.2.2.2.2.2.1) (fun _ => ct_X7_behind k51 hm (R.hasB _ ▸ hb) hy h2 hn R.2.2.2.2.2.2.2.1 (rfS_ok h hn h3 h4).2) (eI ?_)
      rw [bhV]
      rcases wk_ways h hn h3 h4 with ⟨a, b⟩ | ⟨a, b, W⟩ | ⟨a, b, W, -⟩
      · rw [a, b, if_neg (by decide), if_neg (by decide)]
      · rw [a, b, if_neg (by decide), if_neg (by decide)]
      · rw [a, b, if_pos rfl, if_pos rfl]
        have hb2 : bt (wm_men (rfS M n)) m = true := by rw [rfS_men, ← R.men]; exact hbm
        rw [(W.1.1.2.2.2.2.1 m hm hb2).1, (W.1.1.2.2.2.2.1 m hm hb2).2.1, W.1.1.sn hm hb2, W.1.1.cntM hm]
    · exact PR.mk h (fun _ => ct_X6_behindO hb (nff hy)) (fun _ => ct_X7_behindO k51 (R.hasB _ ▸ hb) (nff hy)) rfl
  · exact PR.mk h (fun _ => ct_X6_behindB (nff hb)) (fun _ => ct_X7_behindB k51 (R.hasB _ ▸ nff hb)) rfl
theorem hdS_mem (S : SG) (n : Nat) : (hdS S n).mem = S.mem ∧ (hdS S n).pad = S.pad := by
  rw [hdS]
  by_cases z : pwV S n = 0
  · rw [if_pos z]; exact pwS_mem S n
  · rw [if_neg z]; exact pwS_mem S n
theorem pr_heard {S : SG} {M : Mod} (h : RR S M) (x : Int32) : PR mX6_heard mX7_heard [.int x] S M := by
  have R := h.1.1
  by_cases hb : isC x = true
  · obtain ⟨n, hn, h1, h2, h3, h4⟩ := h.pd
    have ok := rfS_ok h hn h3 h4
    have hb0 := hb
    obtain ⟨j, hj, rfl⟩ := isC_t hb
    refine PR.mk ((h.fr (rfS_fr M n)).sS (hdS_mem S n).1 (hdS_mem S n).2) (fun _ => ct_X6_heard hb0 h1 hn R.2.2.2.2.2.2.1) (fun _ => ct_X7_heard k51 hj h2 hn R.2.2.2.2.2.2.2.1 ok.1 ok.2) (eI ?_)
    rw [hdV]
    rcases wk_ways h hn h3 h4 with ⟨a, b⟩ | ⟨a, b, W⟩ | ⟨a, b, W, -⟩
    · rw [a, b, if_neg (by decide), if_neg (by decide)]
    · rw [a, b, if_neg (by decide), if_neg (by decide)]
    · rw [a, b, if_pos rfl, if_pos rfl]
      exact hrd_eq W.1.1 un_no
  · exact PR.mk h (fun _ => ct_X6_heardB (nff hb)) (fun _ => ct_X7_heardB k51 (nff hb)) rfl
theorem RC.who {c : Camp} {M : Mod} (h : RC c M) {j : Nat} (hj : j < 64) : (if wc_claimers c j = -1 then -6 else wc_claimers c j) = wm_owner M j := by
  rcases h.2.1 j hj with ⟨e1, e2⟩ | ⟨m, hm, -, e1, e2⟩
  · rw [e1, e2, if_pos rfl]
  · rw [e1, e2, if_neg (n1_ne m hm).2.2.1]
theorem pr_whose {S : SG} {M : Mod} (h : RR S M) (x : Int32) : PR mX6_whose mX7_whose [.int x] S M := by
  have R := h.1.1
  by_cases hb : isC x = true
  · obtain ⟨n, hn, h1, h2, h3, h4⟩ := h.pd
    obtain ⟨j, hj, rfl⟩ := isC_t hb
    refine PR.mk (rr_wk h n) (fun _ => ct_X6_whose hj h1 hn R.2.2.2.2.2.2.1) (fun _ => ct_X7_whose k51 hj h2 hn R.2.2.2.2.2.2.2.1) (eI ?_)
    rw [whV]
    rcases wk_ways h hn h3 h4 with ⟨a, b⟩ | ⟨a, b, W⟩ | ⟨a, b, W, -⟩
    · rw [a, b, if_neg (by decide), if_neg (by decide)]
    · rw [a, b, if_neg (by decide), if_neg (by decide)]
    · rw [a, b, if_pos rfl, if_pos rfl]
      exact W.1.1.who hj
  · exact PR.mk h (fun _ => ct_X6_whoseB (nff hb)) (fun _ => ct_X7_whoseB k51 (nff hb)) rfl
theorem pr_nothing {S : SG} {M : Mod} (h : RR S M) (x : Int32) : PR mX6_nothing mX7_nothing [.int x] S M := by
  have R := h.1.1
  by_cases hb : inR x 0 1 = true
  · obtain ⟨n, hn, h1, h2, h3, h4⟩ := h.pd
    refine PR.mk (rr_wk h n) (fun _ => ct_X6_nothing hb h1 hn R.2.2.2.2.2.2.1) (fun _ => ct_X7_nothing k51 hb h2 hn R.2.2.2.2.2.2.2.1) (eI ?_)
    have b6 : wm_firstNothing (bkM (rfS M n)) = wm_firstNothing (rfS M n) := congrFun (bkM_v _) 6
    have b7 : wm_nothingMany (bkM (rfS M n)) = wm_nothingMany (rfS M n) := congrFun (bkM_v _) 7
    rw [ntV, b6, b7]
    rcases wk_ways h hn h3 h4 with ⟨a, b⟩ | ⟨a, b, W⟩ | ⟨a, b, W, -⟩
    · rw [a, b, if_neg (by decide), if_neg (by decide)]
    · rw [a, b, if_neg (by decide), if_neg (by decide)]
    · rw [a, b, if_pos rfl, if_pos rfl, W.2.2.2.1, W.2.2.2.2.1]
  · exact PR.mk h (fun _ => ct_X6_nothingB (nff hb)) (fun _ => ct_X7_nothingB k51 (nff hb)) rfl
