/-! THE PAIR: the text read; what is kept and put back -/
theorem ffd_val (p : Nat → Int32) (n : Nat) : ∀ r, r ≤ n → ffd p n r = -6 ∨ ∃ j, j ≤ n ∧ ffd p n r = nI j
  | 0, _ => by
    rw [ffd]
    by_cases z : nmd p n = true
    · rw [if_pos z]; exact Or.inr ⟨n, Nat.le_refl n, rfl⟩
    · rw [if_neg z]; exact Or.inl rfl
  | r + 1, hr => by
    rw [ffd]
    by_cases z : fitS (nmd p (n - (r + 1))) (p (n - (r + 1))) = true
    · rw [if_pos z]; exact ffd_val p n r (by omega)
    · rw [if_neg z]; exact Or.inr ⟨n - (r + 1), by omega, rfl⟩
theorem flt_neg {p : Nat → Int32} {n : Nat} (hn : n ≤ 60) : flt p n < 0 ↔ flt p n = -6 := by
  rcases ffd_val p n n (Nat.le_refl n) with e | ⟨j, hj, e⟩
  · rw [flt, e]; exact ⟨fun _ => rfl, fun _ => by decide⟩
  · rw [flt, e]
    exact ⟨fun z => absurd z (nI_pos (by omega)), fun z => absurd z (nt_n6 j (by omega))⟩
theorem ffd_all {p : Nat → Int32} {n : Nat} (hn : n ≤ 60) : ∀ r j, j + r = n → ffd p n r = -6 → ∀ i, j ≤ i → i < n → fitS (nmd p i) (p i) = true
  | 0, j, hj, _, i, h1, h2 => by omega
  | r + 1, j, hj, h, i, h1, h2 => by
    rw [ffd, show n - (r + 1) = j by omega] at h
    by_cases z : fitS (nmd p j) (p j) = true
    · rw [if_pos z] at h
      by_cases e : i = j
      · rw [e]; exact z
      · exact ffd_all hn r (j + 1) (by omega) h i (by omega) h2
    · rw [if_neg z] at h
      exact absurd h (nt_n6 j (by omega))
theorem rdN_all {p : Nat → Int32} {n : Nat} (h : ∀ i, i < n → fitS (nmd p i) (p i) = true) : ∀ r, r ≤ n → rdN p n r = n
  | 0, _ => rfl
  | r + 1, hr => by rw [rdN, if_pos (h (n - (r + 1)) (by omega)), rdN_all h r (by omega)]
theorem clM_f (N : Mod) (w y : Int32) : wm_act (clM N w y) = upd (wm_act N) (wm_acts N).toNatClampNeg w ∧ wm_way (clM N w y) = upd (wm_way N) (wm_acts N).toNatClampNeg y ∧ wm_who (clM N w y) = wm_who N ∧ wm_acts (clM N w y) = wm_acts N + 1 := ⟨rfl, rfl, rfl, rfl⟩
theorem who_f (N : Mod) (f : Nat → Int32) : wm_act (wm_s_who N f) = wm_act N ∧ wm_way (wm_s_who N f) = wm_way N ∧ wm_who (wm_s_who N f) = f ∧ wm_acts (wm_s_who N f) = wm_acts N := ⟨rfl, rfl, rfl, rfl⟩
theorem rdM_PA {p : Nat → Int32} {n : Nat} (c : Mod) (hn : n ≤ 60) (hf : ∀ i, i < n → fitS (nmd p i) (p i) = true) : ∀ j, j ≤ n → wm_acts (rdM p j c) = nI (cA p j) ∧ PA p j (rdM p j c) ∧ (nmd p j = true → wm_who (rdM p j c) (cA p j) = p (j - 1) - 65)
  | 0, _ => ⟨by rw [rdM]; rfl, fun i hi => absurd hi (Nat.not_lt_zero i), fun z => by rw [nmd] at z; exact Bool.noConfusion z⟩
  | j + 1, hj => by
    obtain ⟨a1, a2, a3⟩ := rdM_PA c hn hf j (by omega)
    have hb := cA_bd p j
    have hcl : (wm_acts (rdM p j c)).toNatClampNeg = cA p j := by rw [a1]; exact nI_clamp (by omega)
    have hfit := hf j (by omega)
    have lt : ∀ i, i < j → (nmd p i = true ∨ p i = 46) → cA p i ≠ cA p j := fun i hi z => by
      have e : cA p (i + 1) = cA p i + 1 := by rw [cA, if_pos z]
      have := cA_mono (p := p) (show i + 1 ≤ j by omega)
      omega
    rw [rdM]
    by_cases hm : nmd p j = true
    · have hd : isDd (p j) = true := by rw [hm] at hfit; exact hfit
      have ec : cA p (j + 1) = cA p j + 1 := by rw [cA, if_pos (Or.inl hm)]
      have hm1 : nmd p (j + 1) = false := by rw [nmd, hm]; rfl
      rw [rd1, if_pos hm, if_pos hd]
      obtain ⟨f1, f2, f3, f4⟩ := clM_f (rdM p j c) (dA (p j)) (dW (p j))
      rw [hcl] at f1 f2
      refine ⟨by rw [f4, a1, ec, nI_1], fun i hi => ?_, fun z => by rw [hm1] at z; exact Bool.noConfusion z⟩
      rw [f1, f2, f3]
      by_cases e : i = j
      · subst e
        exact ⟨fun _ => ⟨pk_us, pk_us, a3 hm⟩, fun z => by rw [hm] at z; exact Bool.noConfusion z⟩
      · obtain ⟨b1, b2⟩ := a2 i (by omega)
        refine ⟨fun z => ?_, fun z1 z2 => ?_⟩
        · have ne := lt i (by omega) (Or.inl z)
          rw [pk_un ne, pk_un ne]; exact b1 z
        · have ne := lt i (by omega) (Or.inr z2)
          rw [pk_un ne]; exact b2 z1 z2
    · have hm' : nmd p j = false := nff hm
      rw [hm'] at hfit
      rw [rd1, if_neg hm]
      by_cases hL : isL (p j) = true
      · have h46 : ¬ p j = 46 := fun z => by rw [z] at hL; exact absurd hL (by decide +kernel)
        have ec : cA p (j + 1) = cA p j := by rw [cA, if_neg (fun z => z.elim hm h46)]; rfl
        rw [if_pos hL, hcl]
        obtain ⟨f1, f2, f3, f4⟩ := who_f (rdM p j c) (upd (wm_who (rdM p j c)) (cA p j) (p j - 65))
        refine ⟨by rw [f4, a1, ec], fun i hi => ?_, fun _ => by rw [f3, ec, pk_us, Nat.add_sub_cancel]⟩
        rw [f1, f2, f3]
        by_cases e : i = j
        · subst e
          exact ⟨fun z => absurd z hm, fun _ z => absurd z h46⟩
        · obtain ⟨b1, b2⟩ := a2 i (by omega)
          refine ⟨fun z => ?_, fun z1 z2 => b2 z1 z2⟩
          have ne := lt i (by omega) (Or.inl z)
          rw [pk_un ne]; exact b1 z
      · have h46 : p j = 46 := by
          by_cases z : p j = 46
          · exact z
          · rw [isL_M] at hL
            have : (decide (p j = 46) || isM (p j - 65)) = true := hfit
            rw [decide_eq_false z, Bool.false_or] at this
            exact absurd this hL
        have ec : cA p (j + 1) = cA p j + 1 := by rw [cA, if_pos (Or.inr h46)]
        have hm1 : nmd p (j + 1) = false := by rw [nmd, decide_eq_true h46]; cases nmd p j <;> rfl
        rw [if_neg hL, if_pos h46, hcl]
        obtain ⟨g1, g2, g3, g4⟩ := who_f (rdM p j c) (upd (wm_who (rdM p j c)) (cA p j) 0)
        obtain ⟨f1, f2, f3, f4⟩ := clM_f (wm_s_who (rdM p j c) (upd (wm_who (rdM p j c)) (cA p j) 0)) 5 0
        rw [g4, hcl] at f1 f2
        rw [g1] at f1
        rw [g2] at f2
        rw [g3] at f3
        rw [g4] at f4
        refine ⟨by rw [f4, a1, ec, nI_1], fun i hi => ?_, fun z => by rw [hm1] at z; exact Bool.noConfusion z⟩
        rw [f1, f2, f3]
        by_cases e : i = j
        · subst e
          exact ⟨fun z => absurd z hm, fun _ _ => pk_us⟩
        · obtain ⟨b1, b2⟩ := a2 i (by omega)
          refine ⟨fun z => ?_, fun z1 z2 => ?_⟩
          · have ne := lt i (by omega) (Or.inl z)
            rw [pk_un ne, pk_un ne, pk_un ne]; exact b1 z
          · have ne := lt i (by omega) (Or.inr z2)
            rw [pk_un ne]; exact b2 z1 z2
/-! what is kept -/
theorem kp1_at (c : Mod) : ∀ n, n ≤ 6 → ∀ m, m < n → wm_had (kp1 c n) m = wm_tent c m ∧ wm_had (kp1 c n) (6 + m) = wm_cold c m ∧ wm_had (kp1 c n) (12 + m) = wm_whistles c m ∧ wm_had (kp1 c n) (18 + m) = wm_salt c m ∧ wm_hadKnown (kp1 c n) m = wm_knows c m
  | 0, _, m, h => absurd h (Nat.not_lt_zero m)
  | n + 1, hn, m, hm => by
    obtain ⟨s1, s2, s3⟩ := kp1_same c n
    have t1 : wm_tent (kp1 c n) = wm_tent c := s1 2 (by decide)
    have t2 : wm_cold (kp1 c n) = wm_cold c := s1 3 (by decide)
    have t3 : wm_whistles (kp1 c n) = wm_whistles c := s1 4 (by decide)
    have t4 : wm_salt (kp1 c n) = wm_salt c := s1 5 (by decide)
    have t5 : wm_knows (kp1 c n) = wm_knows c := s2 0 (by decide)
    have e1 : wm_had (kp1 c (n + 1)) = upd (upd (upd (upd (wm_had (kp1 c n)) n (wm_tent (kp1 c n) n)) (6 + n) (wm_cold (kp1 c n) n)) (12 + n) (wm_whistles (kp1 c n) n)) (18 + n) (wm_salt (kp1 c n) n) := by rw [kp1]; rfl
    have e2 : wm_hadKnown (kp1 c (n + 1)) = vp_updL (wm_hadKnown (kp1 c n)) n (wm_knows (kp1 c n) n) := by rw [kp1]; rfl
    rw [e1, e2, t1, t2, t3, t4, t5]
    by_cases e : m = n
    · subst e
      refine ⟨?_, ?_, ?_, pk_us, pk_uLs⟩
      · rw [pk_un (by omega), pk_un (by omega), pk_un (by omega), pk_us]
      · rw [pk_un (by omega), pk_un (by omega), pk_us]
      · rw [pk_un (by omega), pk_us]
    · obtain ⟨b1, b2, b3, b4, b5⟩ := kp1_at c n (by omega) m (by omega)
      refine ⟨?_, ?_, ?_, ?_, ?_⟩
      · rw [pk_un (by omega), pk_un (by omega), pk_un (by omega), pk_un (by omega)]; exact b1
      · rw [pk_un (by omega), pk_un (by omega), pk_un (by omega), pk_un (by omega)]; exact b2
      · rw [pk_un (by omega), pk_un (by omega), pk_un (by omega), pk_un (by omega)]; exact b3
      · rw [pk_un (by omega), pk_un (by omega), pk_un (by omega), pk_un (by omega)]; exact b4
      · rw [pk_uLn e]; exact b5
theorem kp2_at (c : Mod) : ∀ n, (∀ j, j < n → wm_had (kp2 c n) (24 + j) = wm_owner c j) ∧ ∀ i, i < 24 → wm_had (kp2 c n) i = wm_had c i
  | 0 => ⟨fun j h => absurd h (Nat.not_lt_zero j), fun _ _ => rfl⟩
  | n + 1 => by
    obtain ⟨a, b⟩ := kp2_at c n
    have t : wm_owner (kp2 c n) = wm_owner c := (kp2_same c n).1 1 (by decide)
    have e : wm_had (kp2 c (n + 1)) = upd (wm_had (kp2 c n)) (24 + n) (wm_owner (kp2 c n) n) := by rw [kp2]; rfl
    rw [e, t]
    refine ⟨fun j hj => ?_, fun i hi => ?_⟩
    · by_cases z : j = n
      · subst z; exact pk_us
      · rw [pk_un (by omega)]; exact a j (by omega)
    · rw [pk_un (by omega)]; exact b i hi
theorem bk1_same (c : Mod) : ∀ n, (∀ i, i < 2 ∨ 5 < i → (bk1 c n).1 i = c.1 i) ∧ (∀ i, i ≠ 0 → (bk1 c n).2.1 i = c.2.1 i) ∧ (bk1 c n).2.2 = c.2.2
  | 0 => ⟨fun _ _ => rfl, fun _ _ => rfl, rfl⟩
  | n + 1 => by
    obtain ⟨a, b, d⟩ := bk1_same c n
    rw [bk1]
    refine ⟨fun i hi => ?_, fun i hi => ?_, d⟩
    · refine Eq.trans ?_ (a i hi)
      show va_up (va_up (va_up (va_up (bk1 c n).1 2 _) 3 _) 4 _) 5 _ i = _
      rw [va_up_ne _ _ (by omega), va_up_ne _ _ (by omega), va_up_ne _ _ (by omega), va_up_ne _ _ (by omega)]
    · refine Eq.trans ?_ (b i hi)
      show va_up (bk1 c n).2.1 0 _ i = _
      rw [va_up_ne _ _ hi]
theorem bk2_same (c : Mod) : ∀ n, (∀ i, i ≠ 1 → (bk2 c n).1 i = c.1 i) ∧ (bk2 c n).2 = c.2
  | 0 => ⟨fun _ _ => rfl, rfl⟩
  | n + 1 => by
    obtain ⟨a, b⟩ := bk2_same c n
    rw [bk2]
    refine ⟨fun i hi => ?_, b⟩
    refine Eq.trans ?_ (a i hi)
    show va_up (bk2 c n).1 1 _ i = _
    rw [va_up_ne _ _ hi]
theorem bk1_at (c : Mod) : ∀ n m, m < n → wm_tent (bk1 c n) m = wm_had c m ∧ wm_cold (bk1 c n) m = wm_had c (6 + m) ∧ wm_whistles (bk1 c n) m = wm_had c (12 + m) ∧ wm_salt (bk1 c n) m = wm_had c (18 + m) ∧ wm_knows (bk1 c n) m = wm_hadKnown c m
  | 0, m, h => absurd h (Nat.not_lt_zero m)
  | n + 1, m, hm => by
    obtain ⟨s1, s2, s3⟩ := bk1_same c n
    have t1 : wm_had (bk1 c n) = wm_had c := s1 15 (by omega)
    have t2 : wm_hadKnown (bk1 c n) = wm_hadKnown c := s2 1 (by decide)
    have e1 : wm_tent (bk1 c (n + 1)) = upd (wm_tent (bk1 c n)) n (wm_had (bk1 c n) n) := by rw [bk1]; rfl
    have e2 : wm_cold (bk1 c (n + 1)) = upd (wm_cold (bk1 c n)) n (wm_had (bk1 c n) (6 + n)) := by rw [bk1]; rfl
    have e3 : wm_whistles (bk1 c (n + 1)) = upd (wm_whistles (bk1 c n)) n (wm_had (bk1 c n) (12 + n)) := by rw [bk1]; rfl
    have e4 : wm_salt (bk1 c (n + 1)) = upd (wm_salt (bk1 c n)) n (wm_had (bk1 c n) (18 + n)) := by rw [bk1]; rfl
    have e5 : wm_knows (bk1 c (n + 1)) = vp_updL (wm_knows (bk1 c n)) n (wm_hadKnown (bk1 c n) n) := by rw [bk1]; rfl
    rw [e1, e2, e3, e4, e5, t1, t2]
    by_cases e : m = n
    · subst e; exact ⟨pk_us, pk_us, pk_us, pk_us, pk_uLs⟩
    · rw [pk_un e, pk_un e, pk_un e, pk_un e, pk_uLn e]
      exact bk1_at c n m (by omega)
theorem bk2_at (c : Mod) : ∀ n j, j < n → wm_owner (bk2 c n) j = wm_had c (24 + j)
  | 0, j, h => absurd h (Nat.not_lt_zero j)
  | n + 1, j, hj => by
    have t : wm_had (bk2 c n) = wm_had c := (bk2_same c n).1 15 (by decide)
    have e : wm_owner (bk2 c (n + 1)) = upd (wm_owner (bk2 c n)) n (wm_had (bk2 c n) (24 + n)) := by rw [bk2]; rfl
    rw [e, t]
    by_cases z : j = n
    · subst z; exact pk_us
    · rw [pk_un z]; exact bk2_at c n j (by omega)
theorem bk_frN {X M : Mod} {a b a2 b2 : Nat} (ha : a = 6) (hb : b = 64) (ha2 : a2 = 6) (hb2 : b2 = 64) (h15 : wm_had X = wm_had (kp2 (kp1 M a2) b2)) (hk : wm_hadKnown X = wm_hadKnown (kp2 (kp1 M a2) b2)) (h0 : X.1 0 = M.1 0) (h6 : ∀ i, 6 ≤ i → i < 12 → X.1 i = M.1 i) (h19 : X.1 19 = M.1 19) (h20 : X.1 20 = M.1 20) (hk2 : X.2.1 2 = M.2.1 2) (hv : ∀ v, v < 4 → X.2.2 v = M.2.2 v) : frM (bk2 (bk1 X a) b) M := by
  obtain ⟨p1, p2⟩ := bk2_same (bk1 X a) b
  obtain ⟨q1, q2, q3⟩ := bk1_same X a
  have row : ∀ i, i = 0 ∨ 5 < i → (bk2 (bk1 X a) b).1 i = X.1 i := fun i hi => (p1 i (by omega)).trans (q1 i (by omega))
  have lng : (bk2 (bk1 X a) b).2.1 = (bk1 X a).2.1 := congrArg Prod.fst p2
  have val : (bk2 (bk1 X a) b).2.2 = X.2.2 := (congrArg Prod.snd p2).trans q3
  obtain ⟨r1, r2⟩ := kp2_at (kp1 M a2) b2
  have hk' : wm_hadKnown (kp2 (kp1 M a2) b2) = wm_hadKnown (kp1 M a2) := congrFun (congrArg Prod.fst (kp2_same (kp1 M a2) b2).2) 1
  have own : wm_owner (kp1 M a2) = wm_owner M := (kp1_same M a2).1 1 (by decide)
  have had : wm_had (bk1 X a) = wm_had X := q1 15 (by omega)
  have men : ∀ m, m < 6 → wm_tent (bk1 X a) m = wm_tent M m ∧ wm_cold (bk1 X a) m = wm_cold M m ∧ wm_whistles (bk1 X a) m = wm_whistles M m ∧ wm_salt (bk1 X a) m = wm_salt M m ∧ wm_knows (bk1 X a) m = wm_knows M m := fun m hm => by
    obtain ⟨u1, u2, u3, u4, u5⟩ := bk1_at X a m (by omega)
    obtain ⟨v1, v2, v3, v4, v5⟩ := kp1_at M a2 (by omega) m (by omega)
    rw [u1, u2, u3, u4, u5, h15, hk, r2 _ (by omega), r2 _ (by omega), r2 _ (by omega), r2 _ (by omega), hk']
    exact ⟨v1, v2, v3, v4, v5⟩
  refine ⟨⟨fun r j hr hj => ?_, fun m hm => ?_, fun v hv' => ?_⟩, (row 11 (by omega)).trans (h6 11 (by omega) (by omega)), ?_, (row 19 (by omega)).trans h19, ?_, (row 20 (by omega)).trans h20⟩
  · by_cases c0 : r = 0
    · subst c0; rw [row 0 (by omega), h0]
    by_cases c1 : r = 1
    · subst c1
      have hj' : j < 64 := hj
      have e := bk2_at (bk1 X a) b j (by omega)
      rw [had, h15, r1 j (by omega), own] at e
      exact e
    by_cases c2 : r = 2
    · subst c2
      have hj' : j < 6 := hj
      rw [p1 2 (by omega)]; exact (men j hj').1
    by_cases c3 : r = 3
    · subst c3
      have hj' : j < 6 := hj
      rw [p1 3 (by omega)]; exact (men j hj').2.1
    by_cases c4 : r = 4
    · subst c4
      have hj' : j < 6 := hj
      rw [p1 4 (by omega)]; exact (men j hj').2.2.1
    by_cases c5 : r = 5
    · subst c5
      have hj' : j < 6 := hj
      rw [p1 5 (by omega)]; exact (men j hj').2.2.2.1
    rw [row r (by omega), h6 r (by omega) (by omega)]
  · show (bk2 (bk1 X a) b).2.1 0 m = _
    rw [lng]; exact (men m hm).2.2.2.2
  · rw [val]; exact hv v (by omega)
  · show (bk2 (bk1 X a) b).2.2 3 = M.2.2 3
    rw [val]; exact hv 3 (by omega)
  · show (bk2 (bk1 X a) b).2.1 2 = M.2.1 2
    rw [lng, q2 2 (by decide)]; exact hk2
