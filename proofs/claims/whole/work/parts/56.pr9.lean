/-! THE PAIR: images, told -/
theorem sc_mem (S : SG) (p : Nat) (c : Camp) : (S.sc p c).mem = va_up S.mem p (c, (S.mem p).2) ∧ (S.sc p c).pad = S.pad := ⟨rfl, rfl⟩
theorem st_mem (S : SG) (p : Nat) (c : Tales) : (S.st p c).mem = va_up S.mem p ((S.mem p).1, c, (S.mem p).2.2) ∧ (S.st p c).pad = S.pad := ⟨rfl, rfl⟩
theorem sg_mem (S : SG) (p : Nat) (c : Sights) : (S.sg p c).mem = va_up S.mem p ((S.mem p).1, (S.mem p).2.1, c, (S.mem p).2.2.2) ∧ (S.sg p c).pad = S.pad := ⟨rfl, rfl⟩
theorem sk_mem (S : SG) (p : Nat) (v : Int32) : (S.sk p v).mem = va_up S.mem p ((S.mem p).1, (S.mem p).2.1, (S.mem p).2.2.1, v) ∧ (S.sk p v).pad = S.pad := ⟨rfl, rfl⟩
theorem cmm_at (S : SG) {p p2 : Nat} (h : p2 ≠ p) : (cmm S p p2).mem p = (cpC (S.mem p).camp (S.mem p2).camp, cpT (S.mem p).tales (S.mem p2).tales, (S.mem p2).sights, (S.mem p).kept) := by
  have a1 : (cm1 S p p2).mem p = (cpC (S.mem p).camp (S.mem p2).camp, (S.mem p).2) := by rw [cm1, (sc_mem _ _ _).1, va_up_self]
  have a2 : (cm1 S p p2).mem p2 = S.mem p2 := by rw [cm1, (sc_mem _ _ _).1, va_up_ne _ _ h]
  have b1 : (cm2 (cm1 S p p2) p p2).mem p = (cpC (S.mem p).camp (S.mem p2).camp, cpT (S.mem p).tales (S.mem p2).tales, (S.mem p).2.2) := by rw [cm2, (st_mem _ _ _).1, va_up_self, a1, a2]; rfl
  have b2 : (cm2 (cm1 S p p2) p p2).mem p2 = S.mem p2 := by rw [cm2, (st_mem _ _ _).1, va_up_ne _ _ h, a2]
  rw [cmm, cm3, (sg_mem _ _ _).1, va_up_self, b1, b2]
  rfl
theorem cmm_ne (S : SG) {p p2 q : Nat} (h : q ≠ p) : (cmm S p p2).mem q = S.mem q := by
  rw [cmm, cm3, (sg_mem _ _ _).1, va_up_ne _ _ h, cm2, (st_mem _ _ _).1, va_up_ne _ _ h, cm1, (sc_mem _ _ _).1, va_up_ne _ _ h]
theorem cmm_pad (S : SG) (p p2 : Nat) : (cmm S p p2).pad = S.pad := by
  rw [cmm, cm3, (sg_mem _ _ _).2, cm2, (st_mem _ _ _).2, cm1, (sc_mem _ _ _).2]
theorem cpT_f (a b : Tales) : wt_tellers (cpT a b) = cpy (wt_tellers b) (wt_tellers a) 8 ∧ wt_cells (cpT a b) = cpy (wt_cells b) (wt_cells a) 8 ∧ wt_toldGolden (cpT a b) = wt_toldGolden b ∧ wt_count (cpT a b) = wt_count b := ⟨rfl, rfl, rfl, rfl⟩
theorem RT.cp {a b : Tales} {M : Mod} (h : RT b M) : RT (cpT a b) M := by
  obtain ⟨n, hn, h1, h2, h3, h4⟩ := h
  obtain ⟨e1, e2, e3, e4⟩ := cpT_f a b
  refine ⟨n, hn, by rw [e4]; exact h1, h2, fun i hi => ?_, fun i => by rw [e3]; exact h4 i⟩
  rw [e1, e2, e3, cpy_lt (show i < 8 by omega), cpy_lt (show i < 8 by omega)]
  exact h3 i hi
theorem RY.cp {m : Mem} {a b : Camp} {t u : Tales} {g : Sights} {k : Int32} {M : Mod} (e : m = (cpC a b, cpT t u, g, k)) {m2 : Mem} (e1 : m2.camp = b) (e2 : m2.tales = u) (e3 : m2.sights = g) (h : RY m2 M) : RY m M := by
  subst e; subst e1; subst e2; subst e3
  exact ⟨h.1.agC (cpC_ag a _), h.2.1.cp, h.2.2⟩
theorem pr_image {S : SG} {M : Mod} (h : RR S M) (x : Int32) : PR mX6_image mX7_image [.int x] S M := by
  by_cases hb : inR x 0 1 = true
  · obtain ⟨i, -, hi1, ex⟩ := inR_t (lo := 0) (hi := 1) (by decide) (by decide) hb
    have hi : i < 2 := by omega
    subst ex
    refine PR.mk (S2 := (cmm S (2 + i) 1).sk (2 + i) 1) (M2 := imM M i) ?_ (fun _ => ct_X6_image hi) (fun _ => ct_X7_image k51 hi) rfl
    obtain ⟨k1, k2⟩ := sk_mem (cmm S (2 + i) 1) (2 + i) 1
    have m1 : ((cmm S (2 + i) 1).sk (2 + i) 1).mem 1 = S.mem 1 := by rw [k1, va_up_ne _ _ (by omega), cmm_ne S (by omega)]
    have mi : ((cmm S (2 + i) 1).sk (2 + i) 1).mem (2 + i) = (cpC (S.mem (2 + i)).camp (S.mem 1).camp, cpT (S.mem (2 + i)).tales (S.mem 1).tales, (S.mem 1).sights, 1) := by rw [k1, va_up_self, cmm_at S (by omega)]
    have mo : ∀ j, j ≠ i → ((cmm S (2 + i) 1).sk (2 + i) 1).mem (2 + j) = S.mem (2 + j) := fun j hj => by rw [k1, va_up_ne _ _ (by omega), cmm_ne S (by omega)]
    have hI : ∀ j, j < 2 → RI S M j → RI ((cmm S (2 + i) 1).sk (2 + i) 1) (imM M i) j := fun j hj hR => by
      by_cases e : j = i
      · subst e
        refine ⟨true, by rw [mi]; rfl, fun z => Bool.noConfusion z, fun _ => ⟨?_, ?_⟩⟩
        · rw [imT_isKept, pk_us]; decide
        · exact (RY.cp mi rfl rfl rfl h.1).ag (imT_vw M j).sy
      · obtain ⟨b, q1, q2, q3⟩ := hR
        refine ⟨b, by rw [mo j e]; exact q1, fun z => ?_, fun z => ⟨?_, ?_⟩⟩
        · rw [imT_isKept, pk_un e]; exact q2 z
        · rw [imT_isKept, pk_un e]; exact (q3 z).1
        · rw [mo j e]; exact (q3 z).2.ag (imT_vwo M e).sy
    refine ⟨?_, ?_, hI 0 (by omega) h.2.2.1, hI 1 (by omega) h.2.2.2⟩
    · show RY (((cmm S (2 + i) 1).sk (2 + i) 1).mem 1) _
      rw [m1]
      exact h.1.ag (imT_rows M i).sy
    · rw [k2, cmm_pad]
      exact h.2.1.of (imT_pad M i) (imT_padMany M i)
  · exact PR.mk h (fun _ => ct_X6_imageB (nff hb)) (fun _ => ct_X7_imageB k51 (nff hb)) rfl
theorem RR.ri {S : SG} {M : Mod} (h : RR S M) {i : Nat} (hi : i < 2) : RI S M i := by
  rcases (show i = 0 ∨ i = 1 by omega) with rfl | rfl
  · exact h.2.2.1
  · exact h.2.2.2
theorem pr_restore {S : SG} {M : Mod} (h : RR S M) (x : Int32) : PR mX6_restore mX7_restore [.int x] S M := by
  by_cases hb : inR x 0 1 = true
  · obtain ⟨i, -, hi1, ex⟩ := inR_t (lo := 0) (hi := 1) (by decide) (by decide) hb
    have hi : i < 2 := by omega
    subst ex
    obtain ⟨b, q1, q2, q3⟩ := h.ri hi
    cases b with
    | false => exact PR.mk h (fun _ => ct_X6_restoreN hi q1) (fun _ => ct_X7_restoreN k51 hi (q2 rfl)) rfl
    | true =>
      obtain ⟨q4, q5⟩ := q3 rfl
      refine PR.mk (S2 := cmm S 1 (2 + i)) (M2 := imA M i false) ?_ (fun _ => ct_X6_restore hi q1) (fun _ => ct_X7_restore k51 hi q4) rfl
      have hk : keK M (imA M i false) := ⟨(imF_kept M i).symm, (imF_kk M i).symm, (imF_isKept M i).symm⟩
      refine ⟨?_, ?_, h.2.2.1.ke hk (cmm_ne S (by omega)).symm, h.2.2.2.ke hk (cmm_ne S (by omega)).symm⟩
      · exact (RY.cp (cmm_at S (show 2 + i ≠ 1 by omega)) rfl rfl rfl q5).ag (imF_agr M i).sy
      · rw [cmm_pad]
        exact h.2.1.of (imF_pad M i) (imF_padMany M i)
  · exact PR.mk h (fun _ => ct_X6_restoreB (nff hb)) (fun _ => ct_X7_restoreB k51 (nff hb)) rfl
/-! told -/
theorem inR_n {n lo hi : Nat} (hn : n < 2 ^ 31) (hl : lo < 2 ^ 31) (hh : hi < 2 ^ 31) : inR (nI n) (nI lo) (nI hi) = decide (lo ≤ n ∧ n ≤ hi) := by
  rw [inR]
  exact decide_eq_decide.mpr (and_congr (nI_leI hl hn) (nI_leI hn hh))
theorem inR_ng {x : Int32} {lo : Nat} {hi : Int32} (hx : x < 0) (hl : lo < 2 ^ 31) : inR x (nI lo) hi = false := by
  rw [inR]
  refine decide_eq_false (fun z => ?_)
  have h0 := nI_pos' (n := lo) hl
  exact Int32.lt_irrefl (Int32.lt_of_lt_of_le hx (Int32.le_trans h0 z.1))
theorem isM_no {n : Nat} (h : 6 ≤ n) (hn : n < 2 ^ 31) (s : Int32) : hasB s (nI n) = false := by
  rw [hasB, isM]
  have : ¬ (0 ≤ nI n ∧ nI n < 6) := fun z => by
    have := (nI_ltI (b := 6) hn (by decide)).mp z.2
    omega
  rw [decide_eq_false this, Bool.false_and]
theorem isC_no {n : Nat} (h : 64 ≤ n) (hn : n < 2 ^ 31) : isC (nI n) = false := by
  rw [isC]
  refine decide_eq_false (fun z => ?_)
  have := (nI_ltI (b := 64) hn (by decide)).mp z.2
  omega
theorem td_eq {c : Camp} {M : Mod} (h : RC c M) {m : Nat} {y : Int32} (hm : m < 6) (hb : bt (wm_men M) m = true) : tdM c m y = toO M m y := by
  obtain ⟨p1, p2, p3, p4, p5⟩ := h.2.2.2.2.1 m hm hb
  rw [tdM, toO, p1, p2, p3, p4, p5, h.sn hm hb, ← ok01_b h.2.2.2.2.2.2.2.2.1 hm, ← ok01_b h.2.2.2.2.2.2.2.2.2.1 hm]
theorem tc_eq {c : Camp} {M : Mod} (h : RC c M) {j : Nat} (hj : j < 64) : tdC c j = 10 * wm_ore M j + (if wm_owner M j < 0 then 9 else wm_owner M j) := by
  rw [tdC, h.1 j hj]
  rcases h.2.1 j hj with ⟨e1, e2⟩ | ⟨m, hm, -, e1, e2⟩
  · rw [e1, e2, if_pos rfl, if_pos (by decide)]
  · rw [e1, e2, if_neg (n1_ne m hm).2.2.1, if_neg (n1_ne m hm).2.2.2.2]
theorem sm4 : ∀ n, 10 ≤ n → n < 2 ^ 31 → ¬ nI n = (0 : Int32) ∧ ¬ nI n = (1 : Int32) ∧ ¬ nI n = (2 : Int32) ∧ ¬ nI n = (3 : Int32) := fun n h hn =>
  ⟨fun z => by have := (nI_eq (b := 0) hn (by decide)).mp z; omega, fun z => by have := (nI_eq (b := 1) hn (by decide)).mp z; omega, fun z => by have := (nI_eq (b := 2) hn (by decide)).mp z; omega, fun z => by have := (nI_eq (b := 3) hn (by decide)).mp z; omega⟩
theorem rest_2 {n : Nat} (h : 10 ≤ n) (hn : n < 2 ^ 31) (a b c d : Int32) : (if nI n = 0 then a else if nI n = 1 then b else if nI n = 2 then c else if nI n = 3 then d else -2) = -2 := by
  obtain ⟨z0, z1, z2, z3⟩ := sm4 n h hn
  rw [if_neg z0, if_neg z1, if_neg z2, if_neg z3]
theorem ct_toldR2 {h : Wd} {n : Nat} {M : Mod} (hn : n < 2 ^ 31) (r : (70 ≤ n ∧ n ≤ 99) ∨ (164 ≤ n ∧ n ≤ 199) ∨ 1400 ≤ n) : Ct mX7_told [.ref 51, .int (nI n)] (wm h 51 M) (some (.int (-2))) (wm h 51 M) := by
  have k := ct_X7_toldR (h := h) (k := 51) (c := M) (x := nI n) k51 (by
    refine (inR_n (lo := 200) (hi := 1399) hn (by decide) (by decide)).trans (decide_eq_false (by omega))) (by
    refine (inR_n (lo := 100) (hi := 163) hn (by decide) (by decide)).trans (decide_eq_false (by omega))) (by
    refine (inR_n (lo := 10) (hi := 69) hn (by decide) (by decide)).trans (decide_eq_false (by omega)))
  rw [rest_2 (by omega) hn] at k
  exact k
theorem pr_told {S : SG} {M : Mod} (h : RR S M) (x : Int32) : PR mX6_told mX7_told [.int x] S M := by
  have R := h.1.1
  have rest : inR x 10 99 = false → inR x 100 199 = false → x < 200 → inR x 200 1399 = false → inR x 100 163 = false → inR x 10 69 = false → PR mX6_told mX7_told [.int x] S M := fun a1 a2 a3 a4 a5 a6 => by
    refine PR.mk h (fun _ => ct_X6_toldR a1 a2 a3) (fun _ => ct_X7_toldR k51 a4 a5 a6) (eI ?_)
    obtain ⟨n, -, h1, h2, -⟩ := h.2.1
    obtain ⟨n2, -, h3, h4, -⟩ := h.1.2.1
    obtain ⟨n3, -, h5, h6, -⟩ := h.1.2.2
    rw [h1, h2, h3, h4, h5, h6, R.men]
  by_cases hx : x < 0
  · exact rest (inR_ng (lo := 10) hx (by decide)) (inR_ng (lo := 100) hx (by decide)) (Int32.lt_trans hx (by decide)) (inR_ng (lo := 200) hx (by decide)) (inR_ng (lo := 100) hx (by decide)) (inR_ng (lo := 10) hx (by decide))
  · obtain ⟨n, hn, ex⟩ := nI_of hx
    subst ex
    by_cases c1 : n < 10
    · exact rest ((inR_n (lo := 10) (hi := 99) hn (by decide) (by decide)).trans (decide_eq_false (by omega))) ((inR_n (lo := 100) (hi := 199) hn (by decide) (by decide)).trans (decide_eq_false (by omega))) ((nI_ltI (b := 200) hn (by decide)).mpr (by omega)) ((inR_n (lo := 200) (hi := 1399) hn (by decide) (by decide)).trans (decide_eq_false (by omega))) ((inR_n (lo := 100) (hi := 163) hn (by decide) (by decide)).trans (decide_eq_false (by omega))) ((inR_n (lo := 10) (hi := 69) hn (by decide) (by decide)).trans (decide_eq_false (by omega)))
    by_cases c2 : n ≤ 69
    · by_cases hb : hasB (wc_men S.now.camp) (nI (n / 10 - 1)) = true
      · have hm : n / 10 - 1 < 6 := by omega
        have hb2 : bt (wm_men M) (n / 10 - 1) = true := by rw [← R.men, ← hasB_n hm]; exact hb
        exact PR.mk h (fun _ => ct_X6_toldM (by omega) (by omega) (ct_X6_toldOfMan hm hb)) (fun _ => ct_X7_toldM k51 (by omega) c2 (ct_X7_toldOf k51 hm (R.hasB _ ▸ hb) R.2.2.2.2.2.2.2.2.1)) (eI (td_eq R hm hb2))
      · exact PR.mk h (fun _ => ct_X6_toldM (by omega) (by omega) (ct_X6_toldOfManB (nff hb))) (fun _ => ct_X7_toldM k51 (by omega) c2 (ct_X7_toldOfB k51 (R.hasB _ ▸ nff hb))) rfl
    by_cases c3 : n ≤ 99
    · exact PR.mk h (fun _ => ct_X6_toldM (by omega) c3 (ct_X6_toldOfManB (isM_no (by omega) (by omega) _))) (fun _ => ct_toldR2 hn (by omega)) rfl
    by_cases c4 : n ≤ 163
    · obtain ⟨t, et⟩ : ∃ t, n = 100 + t := ⟨n - 100, by omega⟩
      have e2 : n - 100 = t := by omega
      subst et
      exact PR.mk h (fun _ => ct_X6_toldC (by omega) (by omega) (e2.symm ▸ ct_X6_toldOfCell (show t < 64 by omega))) (fun _ => ct_X7_toldC k51 (show t < 64 by omega)) (eI (tc_eq R (by omega)))
    by_cases c5 : n ≤ 199
    · exact PR.mk h (fun _ => ct_X6_toldC (by omega) c5 (ct_X6_toldOfCellB (isC_no (by omega) (by omega)))) (fun _ => ct_toldR2 hn (by omega)) rfl
    by_cases c6 : n ≤ 1399
    · by_cases hb : hasB (wc_men S.now.camp) (nI (n / 200 - 1)) = true
      · by_cases hc : n % 200 < 64
        · have hm : n / 200 - 1 < 6 := by omega
          have hb2 : bt (wm_men M) (n / 200 - 1) = true := by rw [← R.men, ← hasB_n hm]; exact hb
          exact PR.mk h (fun _ => ct_X6_toldK (by omega) hn (ct_X6_toldOfKnown hm hb hc)) (fun _ => ct_X7_toldK k51 (by omega) c6 (R.hasB _ ▸ hb) hc) (eI (by rw [(R.2.2.2.2.1 _ hm hb2).2.2.1]))
        · have hcb := isC_no (n := n % 200) (by omega) (by omega)
          exact PR.mk h (fun _ => ct_X6_toldK (by omega) hn (ct_X6_toldOfKnownB (Or.inr hcb))) (fun _ => ct_X7_toldKO k51 (by omega) c6 (Or.inr hcb)) rfl
      · exact PR.mk h (fun _ => ct_X6_toldK (by omega) hn (ct_X6_toldOfKnownB (Or.inl (nff hb)))) (fun _ => ct_X7_toldKO k51 (by omega) c6 (Or.inl (R.hasB _ ▸ nff hb))) rfl
    · exact PR.mk h (fun _ => ct_X6_toldK (by omega) hn (ct_X6_toldOfKnownB (Or.inl (isM_no (by omega) (by omega) _)))) (fun _ => ct_toldR2 hn (by omega)) rfl
