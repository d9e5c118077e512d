/-! THE PAIR: weeks done, years, where to sleep -/
theorem rfS_same (M : Mod) (n : Nat) : (∀ i, i = 0 ∨ (6 ≤ i ∧ i < 12) ∨ 15 < i → (rfS M n).1 i = M.1 i) ∧ (rfS M n).2.1 2 = M.2.1 2 ∧ (∀ i, i < 4 → (rfS M n).2.2 i = M.2.2 i) ∧ wm_acts (rfS M n) = wm_acts (rfA M n) := by
  rw [rfS]
  by_cases z : flt (wm_pad M) n < 0
  · rw [if_pos z]
    obtain ⟨r1, r2, r3, r4, r5, r6⟩ := rfG_same M n
    exact ⟨r1, r4, fun i hi => r5 i (by omega), r6⟩
  · rw [if_neg z]
    obtain ⟨r1, r2, r3, r4, r5⟩ := rfA_same M n
    exact ⟨fun i hi => r1 i (by omega), r4 2 (by omega), fun i hi => r5 i (by omega), rfl⟩
theorem pr_done {S : SG} {M : Mod} (h : RR S M) : PR mX6_done mX7_done [] S M := by
  have R := h.1.1
  obtain ⟨n, hn, h1, h2, h3, h4⟩ := h.pd
  obtain ⟨s1, s2, s3, s4⟩ := rfS_same M n
  have hT : RR (pwS S n) M := h.sS (pwS_mem S n).1 (pwS_mem S n).2
  have k6 := fun g => ct_X6_done (h := g) h1 hn R.2.2.2.2.2.2.1
  have k7 := fun g => ct_X7_done (h := g) k51 h2 hn R.2.2.2.2.2.2.2.1
  rcases wk_ways h hn h3 h4 with ⟨a, b⟩ | ⟨a, b, W⟩ | ⟨a, b, W, z⟩
  · refine PR.mk (S2 := doS S n) (M2 := dnM M n) ?_ k6 k7 (eI ?_)
    · rw [doS, dnM, a, b, if_neg (by decide), if_neg (by decide)]; exact rr_wk h n
    · rw [doV, a, b, if_neg (by decide), if_neg (by decide)]
  · refine PR.mk (S2 := doS S n) (M2 := dnM M n) ?_ k6 k7 (eI ?_)
    · rw [doS, dnM, a, b, if_neg (by decide), if_neg (by decide)]; exact rr_wk h n
    · rw [doV, a, b, if_neg (by decide), if_neg (by decide)]
  · refine PR.mk (S2 := doS S n) (M2 := dnM M n) ?_ k6 k7 (eI ?_)
    · rw [doS, dnM, a, b, if_pos rfl, if_pos rfl]
      have e6 : wm_taleMan (rfS M n) = wm_taleMan M := s1 6 (by omega)
      have e7 : wm_taleCell (rfS M n) = wm_taleCell M := s1 7 (by omega)
      have e8 : wm_taleGold (rfS M n) = wm_taleGold M := s1 8 (by omega)
      have e9 : wm_sightCell (rfS M n) = wm_sightCell M := s1 9 (by omega)
      have e10 : wm_sightIs (rfS M n) = wm_sightIs M := s1 10 (by omega)
      have t1 : wm_tales (rfS M n) = wm_tales M := s3 1 (by omega)
      have t2 : wm_sights (rfS M n) = wm_sights M := s3 2 (by omega)
      have hK : keK (rfS M n) M := ⟨s1 19 (by omega), s2, s1 20 (by omega)⟩
      have hC : RC (cpC (pwS S n).now.camp (pwS S n).ahead) (rfS M n) := W.1.1.agC (cpC_ag _ _)
      have hA : RR ((pwS S n).sc 1 (cpC (pwS S n).now.camp (pwS S n).ahead)) (rfS M n) := hT.camp hC (hT.1.2.1.of e6 e7 e8 t1) (hT.1.2.2.of e9 e10 t2) (s1 11 (by omega)) (s3 3 (by omega)) hK
      exact hA.pad' (p := wp_s_count (pwS S n).pad 0) (A := wm_s_padMany (rfS M n) 0) ⟨0, by omega, rfl, rfl, fun i hi => absurd hi (Nat.not_lt_zero i)⟩ ⟨hA.1.1.of rfl rfl rfl rfl rfl rfl rfl rfl, hA.1.2.1.of rfl rfl rfl rfl, hA.1.2.2.of rfl rfl rfl⟩ ⟨rfl, rfl, rfl⟩
    · rw [doV, a, b, if_pos rfl, if_pos rfl, (W.2.2.2.2.2.2.2 z).1, s4, (rfK_ok M n hn).2]
/-! years -/
theorem yrW_a {a d : Nat} (e : a / 6 % 8 = d) : yrW a = aWh d := by
  have hd : d < 8 := by omega
  rw [yrW, aWh, e]
  by_cases c0 : d < 4
  · rw [if_pos c0, if_pos c0]
  rw [if_neg c0, if_neg c0]
  by_cases c1 : d = 4
  · rw [if_pos c1, if_pos c1]
  rw [if_neg c1, if_neg c1]
  by_cases c2 : d = 5
  · rw [if_pos c2, if_pos c2]
  rw [if_neg c2, if_neg c2]
  by_cases c3 : d = 6
  · rw [if_pos c3, if_pos c3]
  rw [if_neg c3, if_neg c3, if_pos (show d = 7 by omega)]
theorem rsn_6 (c : Camp) (x : Int32) : rsn c x 6 = 0 := by rw [rsn, if_pos rfl]
theorem why_5 (c : Mod) (x wy : Int32) : whyF c 5 x wy = 0 := by rw [whyF, if_pos rfl]
theorem yr_st {c : Camp} {M : Mod} (h : RS c M) (a : Nat) : RS (ys1 c a) (yr1 M a) := by
  have hm : a % 6 < 6 := Nat.mod_lt _ (by decide)
  obtain ⟨d, ed⟩ : ∃ d, a / 6 % 8 = d := ⟨_, rfl⟩
  have hd : d < 8 := by omega
  rw [ys1, yr1, yrW_a ed, ed]
  by_cases h6 : d = 6
  · subst h6
    rw [if_pos (show rsn c (nI (a % 6)) (nI 6) = 0 from rsn_6 _ _), if_pos rfl, show aWh 6 = 5 from rfl, if_pos (why_5 _ _ _)]
    exact st_night h _ _
  · have hy : d < 4 → nI (d % 4) = nI d := fun z => by rw [Nat.mod_eq_of_lt z]
    have e := act_why h.1 hm (by omega) h6 hy
    by_cases z : rsn c (nI (a % 6)) (nI d) = 0
    · rw [if_pos z, if_neg h6, if_pos (by rw [← e]; exact z)]
      exact act_st h hm (by omega) h6 hy z
    · rw [if_neg z, if_neg (by rw [← e]; exact z)]
      exact h
theorem yr_all : ∀ (n a : Nat) {c : Camp} {M : Mod}, RS c M → RS (ysR c a n) (yrR M a n)
  | 0, _, _, _, h => h
  | n + 1, a, _, _, h => by
    rw [ysR, yrR]
    exact yr_all n (yrA a) (yr_st h (yrA a))
theorem yr1_same (c : Mod) (a : Nat) : (∀ i, i = 0 ∨ 6 ≤ i → (yr1 c a).1 i = c.1 i) ∧ (∀ i, 1 ≤ i → (yr1 c a).2.1 i = c.2.1 i) ∧ (∀ i, i < 5 ∨ 8 ≤ i → (yr1 c a).2.2 i = c.2.2 i) := by
  rw [yr1]
  by_cases z : whyF c (yrW a) (nI (a % 6)) (nI (a / 6 % 8 % 4)) = 0
  · rw [if_pos z]; exact hpn_same c _ _ _
  · rw [if_neg z]; exact ⟨fun _ _ => rfl, fun _ _ => rfl, fun _ _ => rfl⟩
theorem yrR_same : ∀ (n a : Nat) (c : Mod), (∀ i, i = 0 ∨ 6 ≤ i → (yrR c a n).1 i = c.1 i) ∧ (∀ i, 1 ≤ i → (yrR c a n).2.1 i = c.2.1 i) ∧ (∀ i, i < 5 ∨ 8 ≤ i → (yrR c a n).2.2 i = c.2.2 i)
  | 0, _, _ => ⟨fun _ _ => rfl, fun _ _ => rfl, fun _ _ => rfl⟩
  | n + 1, a, c => by
    obtain ⟨p, q, r⟩ := yrR_same n (yrA a) (yr1 c (yrA a))
    obtain ⟨s, t, u⟩ := yr1_same c (yrA a)
    rw [yrR]
    exact ⟨fun i hi => (p i hi).trans (s i hi), fun i hi => (q i hi).trans (t i hi), fun i hi => (r i hi).trans (u i hi)⟩
theorem wom_f (c : Mod) (v : Int32) : (wm_s_womans c v).1 = c.1 ∧ (wm_s_womans c v).2.1 = c.2.1 ∧ (∀ i, i ≠ 5 → (wm_s_womans c v).2.2 i = c.2.2 i) ∧ wm_womans (wm_s_womans c v) = v := ⟨rfl, rfl, fun i hi => va_up_ne _ _ hi, rfl⟩
theorem yrI_same (M : Mod) : (yrI M).1 = (kpM M).1 ∧ (yrI M).2.1 = (kpM M).2.1 ∧ (∀ i, i ≠ 5 → (yrI M).2.2 i = (kpM M).2.2 i) ∧ wm_womans (yrI M) = 0 := by
  rw [yrI]
  exact wom_f (kpM M) 0
theorem yr_fr (M : Mod) (a n : Nat) : frM (bkM (yrM M a n)) M := by
  rw [yrM]
  obtain ⟨p, q, r⟩ := yrR_same n a (yrI M)
  obtain ⟨s, t, u, -⟩ := yrI_same M
  obtain ⟨e, f, g⟩ := kpM_same M
  exact bk_fr ((p 15 (by omega)).trans (congrFun s 15)) ((q 1 (by omega)).trans (congrFun t 1)) ((p 0 (by omega)).trans ((congrFun s 0).trans (e 0 (by omega)))) (fun i h1 h2 => (p i (by omega)).trans ((congrFun s i).trans (e i (by omega)))) ((p 19 (by omega)).trans ((congrFun s 19).trans (e 19 (by omega)))) ((p 20 (by omega)).trans ((congrFun s 20).trans (e 20 (by omega)))) ((q 2 (by omega)).trans ((congrFun t 2).trans (f 2 (by omega)))) (fun v hv => (r v (by omega)).trans ((u v (by omega)).trans (congrFun g v)))
theorem salt_eq {c : Camp} {M : Mod} (h : RC c M) : isum (wc_salts c) 6 = slM M 6 := by
  rw [slM]
  refine isum_cong (fun m hm => ?_)
  rw [hasB_n hm]
  by_cases hb : bt (wm_men M) m = true
  · rw [if_pos hb, (h.2.2.2.2.1 m hm hb).2.1]
  · rw [if_neg hb, h.2.2.2.2.2.1 m hm (nff hb)]
theorem sa_mem (S : SG) (c : Camp) : (S.sa c).mem = S.mem ∧ (S.sa c).pad = S.pad := ⟨rfl, rfl⟩
theorem RC.ofR {c : Camp} {A B : Mod} (h1 : ∀ i, i < 6 → A.1 i = B.1 i) (h2 : A.2.1 0 = B.2.1 0) (h3 : A.2.2 0 = B.2.2 0) (h : RC c B) : RC c A :=
  RC.of (h1 0 (by omega)) (h1 1 (by omega)) h3 (h1 2 (by omega)) (h1 5 (by omega)) h2 (h1 3 (by omega)) (h1 4 (by omega)) h
theorem yr_I {S : SG} {M : Mod} (h : RC S.now.camp M) : RS (pwC S) (yrI M) := by
  obtain ⟨s, t, u, v⟩ := yrI_same M
  obtain ⟨e, f, g⟩ := kpM_same M
  exact ⟨RC.ofR (fun i hi => (congrFun s i).trans (e i (by omega))) ((congrFun t 0).trans (f 0 (by omega))) ((u 0 (by omega)).trans (congrFun g 0)) (h.agC (cpC_ag S.ahead S.now.camp)), (cpC_f S.ahead S.now.camp).2.2.2.2.2.2.2.2.trans v.symm⟩
theorem yr_v {c : Camp} {M : Mod} (h : RS c M) (w : Int32) : ysV c w = yrV M w := by
  rw [ysV, yrV, salt_eq h.1, h.1.cnt0, h.2]
theorem yr_val {S : SG} {M : Mod} (h : RC S.now.camp M) (a n : Nat) (w : Int32) : ysV (ysR (pwC S) a n) w = yrV (yrM M a n) w := by
  rw [yrM]
  exact yr_v (yr_all n a (yr_I h)) w
theorem pr_year {S : SG} {M : Mod} (h : RR S M) (x y w : Int32) : PR mX6_year mX7_year [.int x, .int y, .int w] S M := by
  have R := h.1.1
  by_cases hb : (inR x 0 9999 && (inR y 1 99 && inR w 0 2)) = true
  · obtain ⟨b1, b23⟩ := (Bool.and_eq_true _ _ ▸ hb)
    obtain ⟨b2, b3⟩ := (Bool.and_eq_true _ _ ▸ b23)
    obtain ⟨a, -, a2, ex⟩ := inR_t (lo := 0) (hi := 9999) (by decide) (by decide) b1
    obtain ⟨n, n1, n2, ey⟩ := inR_t (lo := 1) (hi := 99) (by decide) (by decide) b2
    rw [ex, ey]
    have m := sa_mem S (ysR (pwC S) a n)
    exact PR.mk ((h.fr (yr_fr M a n)).sS m.1 m.2) (fun _ => ct_X6_year a2 n1 n2 b3 R.2.2.2.2.2.2.1) (fun _ => ct_X7_year k51 a2 n1 n2 b3 R.2.2.2.2.2.2.2.1) (eI (yr_val R a n w))
  · exact PR.mk h (fun _ => ct_X6_yearB (nff hb)) (fun _ => ct_X7_yearB k51 (nff hb)) rfl
/-! where to sleep -/
theorem sno_ag (c : Camp) (f : Nat → Int32) : agC (wc_s_snores c f) c := ⟨fun _ _ => ⟨rfl, rfl⟩, fun _ _ => ⟨rfl, rfl, rfl⟩, rfl, rfl, rfl⟩
theorem lst_ag (c : Camp) : agC (lst c) c := by
  rw [lst]; exact sno_ag c _
theorem RR.lst {S : SG} {M : Mod} (h : RR S M) : RR (S.sc 1 (lst S.now.camp)) M := h.camp (h.1.1.agC (lst_ag _)) h.1.2.1 h.1.2.2 rfl rfl ⟨rfl, rfl, rfl⟩
theorem hr_eq {c : Camp} {M : Mod} (h : RC c M) : hrS c = hrF M := by
  funext t
  rw [hrS, hrF]
  exact hrd_eq h un_no
theorem pr_loudest {S : SG} {M : Mod} (h : RR S M) (x : Int32) : PR mX6_loudest mX7_loudest [.int x] S M := by
  have R := h.1.1
  by_cases hb : inR x 0 1 = true
  · exact PR.mk h.lst (fun _ => ct_X6_loudest hb) (fun _ => ct_X7_loudest k51 hb R.2.2.2.2.2.2.2.1 R.2.2.2.2.2.2.2.2.1) (eI (by rw [hr_eq R]))
  · exact PR.mk h (fun _ => ct_X6_loudestB (nff hb)) (fun _ => ct_X7_loudestB k51 (nff hb)) rfl
theorem hrb_eq {c : Camp} {M : Mod} (h : RC c M) {s u cell : Int32} : hrb (wc_men c) s (wc_tents c) u cell 6 = hrb (wm_men M) s (wm_tent M) u cell 6 := by
  rw [hrb, hrb]
  refine isum_cong (fun m hm => ?_)
  rw [h.men]
  by_cases hb : bt (wm_men M) m = true
  · rw [(h.2.2.2.2.1 m hm hb).1]
  · rw [if_neg (fun q => hb q.2), if_neg (fun q => hb q.2)]
theorem qt_eq {c : Camp} {M : Mod} (h : RC c M) {m : Nat} (hm : m < 6) (hb : bt (wm_men M) m = true) (hi : Bool) : (fun j => qtS c m j hi) = (fun j => qtA M m j hi) := by
  funext j
  cases hi with
  | true =>
    show hrb (wc_men c) (lsn c 6 m) (wc_tents c) (nI m) (nI j) 6 = hrb (wm_men M) (snM M m) (wm_tent M) (nI m) (nI j) 6
    rw [hrb_eq h, lsn_at 6 hm, h.sn hm hb]
  | false =>
    show hrd (wc_men c) (lsn c 6) (wc_tents c) (nI m) (nI j) 6 = hrd (wm_men M) (snM M) (wm_tent M) (nI m) (nI j) 6
    exact hrd_eq h (fun _ _ => Iff.rfl)
theorem pr_sleep {S : SG} {M : Mod} (h : RR S M) (x y z : Int32) : PR mX6_sleep mX7_sleep [.int x, .int y, .int z] S M := by
  have R := h.1.1
  by_cases hb : hasB (wc_men S.now.camp) x = true
  · by_cases ho : (inR y 0 14 && inR z 0 1) = true
    · obtain ⟨b1, b2⟩ := (Bool.and_eq_true _ _ ▸ ho)
      obtain ⟨m, hm, rfl, hbm⟩ := hasB_t hb
      have hbm2 : bt (wm_men M) m = true := by rw [← R.men]; exact hbm
      obtain ⟨t, ht, et⟩ := R.2.2.2.2.2.2.2.1 m hm
      exact PR.mk h.lst (fun _ => ct_X6_sleep hm hb b1 b2 ((R.2.2.2.2.1 m hm hbm2).1.trans et)) (fun _ => ct_X7_sleep k51 hm (R.hasB _ ▸ hb) b1 b2 ht et R.2.2.2.2.2.2.2.1 R.2.2.2.2.2.2.2.2.1) (eI (by rw [qt_eq R hm hbm2 false]))
    · exact PR.mk h (fun _ => ct_X6_sleepO hb (nff ho)) (fun _ => ct_X7_sleepO k51 (R.hasB _ ▸ hb) (nff ho)) rfl
  · exact PR.mk h (fun _ => ct_X6_sleepB (nff hb)) (fun _ => ct_X7_sleepB k51 (R.hasB _ ▸ nff hb)) rfl
theorem pr_hide {S : SG} {M : Mod} (h : RR S M) (x y z : Int32) : PR mX6_hide mX7_hide [.int x, .int y, .int z] S M := by
  have R := h.1.1
  by_cases hb : hasB (wc_men S.now.camp) x = true
  · by_cases ho : (inR y 0 14 && inR z 0 1) = true
    · obtain ⟨b1, b2⟩ := (Bool.and_eq_true _ _ ▸ ho)
      obtain ⟨m, hm, rfl, hbm⟩ := hasB_t hb
      have hbm2 : bt (wm_men M) m = true := by rw [← R.men]; exact hbm
      obtain ⟨t, ht, et⟩ := R.2.2.2.2.2.2.2.1 m hm
      exact PR.mk h.lst (fun _ => ct_X6_hide hm hb b1 b2 ((R.2.2.2.2.1 m hm hbm2).1.trans et)) (fun _ => ct_X7_hide k51 hm (R.hasB _ ▸ hb) b1 b2 ht et R.2.2.2.2.2.2.2.1 R.2.2.2.2.2.2.2.2.1) (eI (by rw [qt_eq R hm hbm2 true]))
    · exact PR.mk h (fun _ => ct_X6_hideO hb (nff ho)) (fun _ => ct_X7_hideO k51 (R.hasB _ ▸ hb) (nff ho)) rfl
  · exact PR.mk h (fun _ => ct_X6_hideB (nff hb)) (fun _ => ct_X7_hideB k51 (R.hasB _ ▸ nff hb)) rfl
