/-! THE PAIR: colds -/
def nsum (f : Nat → Nat) : Nat → Nat
  | 0 => 0
  | n + 1 => nsum f n + f n
theorem nsum_cong {f g : Nat → Nat} : ∀ {n : Nat}, (∀ j, j < n → f j = g j) → nsum f n = nsum g n
  | 0, _ => rfl
  | n + 1, h => by rw [nsum, nsum, nsum_cong (n := n) (fun j hj => h j (by omega)), h n (by omega)]
theorem nsum_add (f : Nat → Nat) (a : Nat) : ∀ b, nsum f (a + b) = nsum f a + nsum (fun i => f (a + i)) b
  | 0 => rfl
  | b + 1 => by rw [show a + (b + 1) = (a + b) + 1 by omega, nsum, nsum_add f a b, nsum, Nat.add_assoc]
theorem nsum_mul (f : Nat → Nat) (c : Nat) : ∀ n, nsum (fun i => f i * c) n = nsum f n * c
  | 0 => by rw [nsum, nsum, Nat.zero_mul]
  | n + 1 => by rw [nsum, nsum, nsum_mul f c n, Nat.add_mul]
theorem nsum_le {f : Nat → Nat} {B : Nat} : ∀ {n : Nat}, (∀ j, j < n → f j ≤ B) → nsum f n ≤ n * B
  | 0, _ => Nat.zero_le _
  | n + 1, h => by
    have := nsum_le (n := n) (fun j hj => h j (by omega))
    have := h n (by omega)
    rw [nsum, Nat.succ_mul]
    omega
theorem lsum_n {f : Nat → Int64} {g : Nat → Nat} : ∀ {n : Nat}, (∀ j, j < n → f j = lN (g j)) → lsum f n = lN (nsum g n)
  | 0, _ => rfl
  | n + 1, h => by rw [lsum, nsum, lsum_n (n := n) (fun j hj => h j (by omega)), h n (by omega), lN_ad]
theorem isum_n {f : Nat → Int32} {g : Nat → Nat} : ∀ {n : Nat}, (∀ j, j < n → f j = nI (g j)) → isum f n = nI (nsum g n)
  | 0, _ => rfl
  | n + 1, h => by rw [isum, nsum, isum_n (n := n) (fun j hj => h j (by omega)), h n (by omega), nI_add]
/-- the weight of a set s of colds among the men l, n of them looked at; 0 when one of s is not there -/
def pwN (l t s : Nat) : Nat → Nat
  | 0 => 1
  | n + 1 => pwN l t s n * (if l.testBit n then (if s.testBit n then t else 10 - t) else (if s.testBit n then 0 else 1))
def wqN (l t s : Nat) : Nat → Nat
  | 0 => 1
  | n + 1 => wqN l t s n * (if l.testBit n then (if s.testBit n then t else 10 - t) else 1)
def sbB (l s : Nat) : Nat → Bool
  | 0 => true
  | n + 1 => sbB l s n && (!s.testBit n || l.testBit n)
theorem pwN_w (l t s : Nat) : ∀ n, pwN l t s n = if sbB l s n then wqN l t s n else 0
  | 0 => rfl
  | n + 1 => by
    rw [pwN, pwN_w l t s n, sbB, wqN]
    by_cases a : sbB l s n = true
    · rw [if_pos a, a, Bool.true_and]
      cases hl : l.testBit n <;> cases hs : s.testBit n <;> simp
    · rw [if_neg a, nff a, Bool.false_and, Nat.zero_mul]
      rfl
theorem pwN_cong {l t s s' : Nat} : ∀ {n : Nat}, (∀ m, m < n → s.testBit m = s'.testBit m) → pwN l t s n = pwN l t s' n
  | 0, _ => rfl
  | n + 1, h => by rw [pwN, pwN, pwN_cong (n := n) (fun m hm => h m (by omega)), h n (by omega)]
theorem pw_all (l : Nat) {t : Nat} (ht : t ≤ 10) : ∀ n, nsum (fun s => pwN l t s n) (2 ^ n) = 10 ^ cnt (fun m => l.testBit m) n
  | 0 => rfl
  | n + 1 => by
    have e1 : nsum (fun s => pwN l t s (n + 1)) (2 ^ n) = nsum (fun s => pwN l t s n * (if l.testBit n then 10 - t else 1)) (2 ^ n) := nsum_cong (fun s hs => by
      rw [pwN, Nat.testBit_lt_two_pow hs]; rfl)
    have e2 : nsum (fun i => pwN l t (2 ^ n + i) (n + 1)) (2 ^ n) = nsum (fun s => pwN l t s n * (if l.testBit n then t else 0)) (2 ^ n) := nsum_cong (fun s hs => by
      rw [pwN, Nat.testBit_two_pow_add_eq, Nat.testBit_lt_two_pow hs, pwN_cong (s' := s) (fun m hm => Nat.testBit_two_pow_add_gt hm s)]; rfl)
    rw [Nat.pow_succ, Nat.mul_two, nsum_add, e1, e2, nsum_mul, nsum_mul, pw_all l ht n, cnt]
    by_cases z : l.testBit n = true
    · rw [if_pos z, if_pos z, if_pos z, ← Nat.mul_add, Nat.pow_succ]
      congr 1
      omega
    · rw [if_neg z, if_neg z, if_neg z, Nat.mul_one, Nat.mul_zero]
      rfl
theorem wq_le (l : Nat) {t : Nat} (ht : t ≤ 10) (s : Nat) : ∀ n, wqN l t s n ≤ 10 ^ n
  | 0 => Nat.le_refl _
  | n + 1 => by
    rw [wqN, Nat.pow_succ]
    refine Nat.mul_le_mul (wq_le l ht s n) ?_
    cases l.testBit n <;> cases s.testBit n <;> simp <;> omega
theorem wq_cnt (l t s : Nat) : ∀ n, wqN l t s n = t ^ cnt (fun m => l.testBit m && s.testBit m) n * (10 - t) ^ cnt (fun m => l.testBit m && !s.testBit m) n
  | 0 => rfl
  | n + 1 => by
    rw [wqN, wq_cnt l t s n, cnt, cnt]
    cases l.testBit n <;> cases s.testBit n
    · simp
    · simp
    · simp [Nat.pow_succ, Nat.mul_assoc]
    · simp [Nat.pow_succ, Nat.mul_assoc, Nat.mul_comm, Nat.mul_left_comm]
theorem sbB_at {l s : Nat} : ∀ {n : Nat}, sbB l s n = true → ∀ m, m < n → s.testBit m = true → l.testBit m = true
  | 0, _, m, h, _ => absurd h (Nat.not_lt_zero m)
  | n + 1, h, m, hm, hs => by
    rw [sbB, Bool.and_eq_true] at h
    by_cases e : m = n
    · subst e
      have := h.2
      rw [hs] at this
      simpa using this
    · exact sbB_at h.1 m (by omega) hs
theorem sb_of {l s : Nat} : ∀ {n : Nat}, (∀ m, m < n → s.testBit m = true → l.testBit m = true) → sbB l s n = true
  | 0, _ => rfl
  | n + 1, h => by
    rw [sbB, sb_of (n := n) (fun m hm => h m (by omega)), Bool.true_and]
    cases hs : s.testBit n
    · rfl
    · rw [h n (by omega) hs]; rfl
theorem bt_hi {l : Nat} (hl : l < 64) {i : Nat} (h6 : 6 ≤ i) (hi : i < 32) : bt (nI l) i = false := by
  rw [bt_nI hi]
  exact Nat.testBit_lt_two_pow (Nat.lt_of_lt_of_le hl (Nat.pow_le_pow_right (n := 2) (by decide) h6))
theorem sub_iff {l s : Nat} (hl : l < 64) (hs : s < 64) : (∀ i, i < 32 → bt (nI s) i = true → bt (nI l) i = true) ↔ sbB l s 6 = true := by
  constructor
  · intro h
    refine sb_of (fun m hm hb => ?_)
    have := h m (by omega) (by rw [bt_nI (by omega)]; exact hb)
    rwa [bt_nI (by omega)] at this
  · intro h i hi hb
    by_cases h6 : 6 ≤ i
    · rw [bt_hi hs h6 hi] at hb; exact Bool.noConfusion hb
    · rw [bt_nI hi] at hb ⊢
      exact sbB_at h i (by omega) hb
theorem sub_a {l s : Nat} (hl : l < 64) (hs : s < 64) : nI s &&& nI l = nI s ↔ sbB l s 6 = true := by
  rw [← sub_iff hl hs]
  constructor
  · intro h i hi hb
    rw [← h, bt_and, Bool.and_eq_true] at hb
    exact hb.2
  · intro h
    refine b_ext (fun i hi => ?_)
    rw [bt_and]
    cases hb : bt (nI s) i
    · rfl
    · rw [h i hi hb]; rfl
theorem sub_b {l s : Nat} (hl : l < 64) (hs : s < 64) : nI s &&& (nI l ^^^ (-1)) = 0 ↔ sbB l s 6 = true := by
  rw [← sub_iff hl hs]
  constructor
  · intro h i hi hb
    have e : bt (nI s &&& (nI l ^^^ (-1))) i = false := by rw [h]; exact b_0 i
    rw [bt_and, bt_xor, bt_m1 i hi, hb, Bool.true_and, Bool.xor_true] at e
    simpa using e
  · intro h
    refine b_ext (fun i hi => ?_)
    rw [bt_and, bt_xor, bt_m1 i hi, Bool.xor_true, b_0]
    cases hb : bt (nI s) i
    · rfl
    · rw [h i hi hb]; rfl
theorem cnt_6 {P : Nat → Bool} (h : ∀ i, 6 ≤ i → i < 32 → P i = false) : ∀ k, 6 + k ≤ 32 → cnt P (6 + k) = cnt P 6
  | 0, _ => rfl
  | k + 1, hk => by rw [show 6 + (k + 1) = (6 + k) + 1 by omega, cnt, cnt_6 h k (by omega), h (6 + k) (by omega) (by omega)]; rfl
theorem cnt_men {l : Nat} (hl : l < 64) : cnt (bt (nI l)) 32 = cnt (fun m => l.testBit m) 6 := by
  have := cnt_6 (P := bt (nI l)) (fun i h6 hi => bt_hi hl h6 hi) 26 (by omega)
  rw [show (32 : Nat) = 6 + 26 from rfl, this]
  exact cnt_cong (fun j hj => bt_nI (by omega))
theorem cw_eq {l s t : Nat} (hl : l < 64) (hs : s < 64) (h : sbB l s 6 = true) : cwN (nI l) t s = wqN l t s 6 := by
  rw [cwN, wq_cnt, cnt_men hs]
  have e1 : cnt (fun m => s.testBit m) 6 = cnt (fun m => l.testBit m && s.testBit m) 6 := cnt_cong (fun m hm => by
    cases hb : s.testBit m
    · rw [Bool.and_false]
    · rw [sbB_at h m hm hb]; rfl)
  have e2 : cnt (bt (nI l &&& (nI s ^^^ (-1)))) 32 = cnt (fun m => l.testBit m && !s.testBit m) 6 := by
    have := cnt_6 (P := bt (nI l &&& (nI s ^^^ (-1)))) (fun i h6 hi => by rw [bt_and, bt_hi hl h6 hi, Bool.false_and]) 26 (by omega)
    rw [show (32 : Nat) = 6 + 26 from rfl, this]
    exact cnt_cong (fun m hm => by rw [bt_and, bt_xor, bt_m1 m (by omega), bt_nI (by omega), bt_nI (by omega), Bool.xor_true])
  rw [e1, e2]
theorem wtL_n {l s t : Nat} (hl : l < 64) (hs : s < 64) (ht : t ≤ 10) : ∀ n, n ≤ 6 → wtL (nI l) (nI t) s n = if sbB l s 6 then lN (wqN l t s n) else 0
  | 0, _ => by
    rw [wtL]
    by_cases z : sbB l s 6 = true
    · rw [if_pos ((sub_b hl hs).mpr z), if_pos z]; rfl
    · rw [if_neg (fun q => z ((sub_b hl hs).mp q)), if_neg z]
  | n + 1, hn => by
    rw [wtL, wtL_n hl hs ht n (by omega), bt_nI (by omega), bt_nI (by omega), nI_10 ht]
    by_cases z : sbB l s 6 = true
    · rw [if_pos z, if_pos z, wqN, ← lN_ml]
      congr 1
      cases l.testBit n <;> cases s.testBit n
      · rfl
      · rfl
      · exact nI_l (by omega)
      · exact nI_l (by omega)
    · rw [if_neg z, if_neg z]
      exact Int64.zero_mul
theorem coA_n {M : Mod} {l t : Nat} (el : wm_men M = nI l) (hl : l < 64) (ht : t ≤ 10) : coA M (nI t) 64 = lN (10 ^ cnt (bt (nI l)) 32) := by
  rw [cnt_men hl, ← pw_all l ht 6, coA]
  refine lsum_n (fun s hs => ?_)
  rw [el, wtL_n hl hs ht 6 (Nat.le_refl 6), pwN_w]
  by_cases z : sbB l s 6 = true
  · rw [if_pos z, if_pos z]
  · rw [if_neg z, if_neg z]; rfl
/-! what is heard is not much -/
theorem gs_n {g : Nat → Int32} (h : okG g) (x : Int64) : ∃ v, v ≤ 576 ∧ gsum g x 64 = nI v := by
  have : ∀ n, n ≤ 64 → ∃ v, v ≤ 9 * n ∧ isum (fun j => if kb x j then g j else 0) n = nI v := by
    intro n
    induction n with
    | zero => exact fun _ => ⟨0, by omega, rfl⟩
    | succ n ih =>
      intro hn
      obtain ⟨v, hv, e⟩ := ih (by omega)
      obtain ⟨q, hq, eq⟩ := h n (by omega)
      rw [isum, e]
      cases kb x n
      · exact ⟨v, by omega, by rw [if_neg (by decide), Int32.add_zero]⟩
      · exact ⟨v + q, by omega, by rw [if_pos rfl, eq, nI_add]⟩
  obtain ⟨v, hv, e⟩ := this 64 (by omega)
  exact ⟨v, by omega, e⟩
theorem snv_n {g : Nat → Int32} (h : okG g) (x : Int64) (a b : Bool) : ∃ v, v ≤ 99 ∧ snv g x a b = nI v := by
  obtain ⟨v, hv, e⟩ := gs_n h x
  have e1 : ∃ w, w ≤ 579 ∧ gsum g x 64 + (if a then 3 else 0) = nI w := by
    rw [e]
    cases a
    · exact ⟨v, by omega, by rw [if_neg (by decide), Int32.add_zero]⟩
    · exact ⟨v + 3, by omega, by rw [if_pos rfl, show (3 : Int32) = nI 3 from rfl, nI_add]⟩
  obtain ⟨w, hw, ew⟩ := e1
  have e2 : ∃ u, u ≤ 579 ∧ (if b then (gsum g x 64 + (if a then 3 else 0)) / 2 else gsum g x 64 + (if a then 3 else 0)) = nI u := by
    rw [ew]
    cases b
    · exact ⟨w, hw, if_neg (by decide)⟩
    · exact ⟨w / 2, by omega, by rw [if_pos rfl]; exact pk_div (d := 2) (by omega) (by decide) (by decide)⟩
  obtain ⟨u, hu, eu⟩ := e2
  rw [snv, eu]
  by_cases z : (99 : Int32) < nI u
  · rw [if_pos z]; exact ⟨99, by omega, rfl⟩
  · rw [if_neg z]
    refine ⟨u, ?_, rfl⟩
    rcases Nat.lt_or_ge 99 u with q | q
    · exact absurd ((nI_ltI (a := 99) (by decide) (by omega)).mpr q) z
    · exact q
theorem dist_b : ∀ a, a < 64 → ∀ b, b < 64 → (dist (nI a) (nI b)).toNatClampNeg ≤ 14 ∧ dist (nI a) (nI b) = nI (dist (nI a) (nI b)).toNatClampNeg := by decide +kernel
theorem mx0_n {v d : Nat} (hv : v < 1000) (hd : d < 1000) : mx0 (nI v - nI d) = nI (v - d) := by
  rw [mx0]
  rcases Nat.lt_or_ge d v with q | q
  · rw [pk_sub (by omega), if_pos (show (0 : Int32) < nI (v - d) from (nI_ltI (a := 0) (b := v - d) (by decide) (by omega)).mpr (by omega))]
  · rw [show v - d = 0 by omega, if_neg (fun z => ?_)]
    · rfl
    · have h1 := pk_sub_toInt (a := v) (b := d) (by omega) (by omega)
      have h2 := Int32.lt_iff_toInt_lt.mp z
      rw [h1] at h2
      have : (0 : Int32).toInt = 0 := by decide
      omega
theorem hb_n {M : Mod} (hG : okG (wm_ore M)) (hT : okT (wm_tent M)) {t : Nat} (ht : t < 64) (s : Nat) : ∃ H, H ≤ 594 ∧ hbM M t s 6 = nI H := by
  have : ∀ n, n ≤ 6 → ∃ H, H ≤ 99 * n ∧ hbM M t s n = nI H := by
    intro n
    induction n with
    | zero => exact fun _ => ⟨0, by omega, rfl⟩
    | succ n ih =>
      intro hn
      obtain ⟨H, hH, e⟩ := ih (by omega)
      rw [hbM] at e ⊢
      rw [isum, e]
      by_cases z : bt (wm_men M) n = true
      · rw [if_pos z]
        obtain ⟨v, hv, ev⟩ := snv_n hG (wm_knows M n) (bt (nI s) n) (whB M n)
        obtain ⟨tt, htt, ett⟩ := hT n (by omega)
        obtain ⟨d1, d2⟩ := dist_b tt htt t ht
        rw [ev, ett, d2, mx0_n (by omega) (by omega), nI_add]
        exact ⟨_, by omega, rfl⟩
      · rw [if_neg z]
        exact ⟨H, by omega, Int32.add_zero _⟩
  obtain ⟨H, hH, e⟩ := this 6 (by omega)
  exact ⟨H, by omega, e⟩
theorem hs_eq {S : SG} {M : Mod} (h : RC S.now.camp M) (t s : Nat) : hsV (hcS S (nI t) 6).calm (hcS S (nI t) 6).cold (wc_men S.now.camp) (nI s) 6 = hbM M t s 6 := by
  have e1 : (hcS S (nI t) 6).calm = cpy (hcV S.now.camp (nI t) false) S.calm 6 := rfl
  have e2 : (hcS S (nI t) 6).cold = cpy (hcV S.now.camp (nI t) true) S.cold 6 := rfl
  rw [hsV, hbM, e1, e2, h.men]
  refine isum_cong (fun m hm => ?_)
  by_cases hb : bt (wm_men M) m = true
  · rw [if_pos hb, if_pos hb, cpy_lt hm, cpy_lt hm]
    obtain ⟨p1, p2, p3, p4, p5⟩ := h.2.2.2.2.1 m hm hb
    have g : ∀ x a b, snv (wc_goldOn S.now.camp) x a b = snv (wm_ore M) x a b := fun x a b => by
      have e : gsum (wc_goldOn S.now.camp) x 64 = gsum (wm_ore M) x 64 := isum_cong (fun j hj => by rw [h.1 j hj])
      rw [snv, snv, e]
    have k : ∀ b, hcV S.now.camp (nI t) b m = mx0 (snv (wm_ore M) (wm_knows M m) b (whB M m) - dist (wm_tent M m) (nI t)) := fun b => by
      rw [hcV, g, p1, p3, p5, whB]
    rw [k, k]
    cases bt (nI s) m <;> rfl
  · rw [if_neg hb, if_neg hb]
/-- a set's share of the sum -/
def shN (M : Mod) (l t c : Nat) (v : Int32) (s : Nat) : Nat := if sbB l s 6 then (if v < 0 then wqN l t s 6 * (hbM M c s 6).toNatClampNeg else if v ≤ hbM M c s 6 then wqN l t s 6 else 0) else 0
theorem H_l {x : Int32} (h : ∃ H, H ≤ 594 ∧ x = nI H) : x.toInt64 = lN x.toNatClampNeg ∧ x.toNatClampNeg ≤ 594 := by
  obtain ⟨H, hH, e⟩ := h
  rw [e, nI_clamp (by omega)]
  exact ⟨nI_l (by omega), hH⟩
theorem coS_n {M : Mod} {l t c : Nat} (el : wm_men M = nI l) (hl : l < 64) (ht : t ≤ 10) (hG : okG (wm_ore M)) (hT : okT (wm_tent M)) (hc : c < 64) (v : Int32) : coS M c (nI t) v 64 = lN (nsum (shN M l t c v) 64) := by
  rw [coS]
  refine lsum_n (fun s hs => ?_)
  obtain ⟨h1, h2⟩ := H_l (hb_n hG hT hc s)
  rw [el, wtL_n hl hs ht 6 (Nat.le_refl 6), shN, h1]
  by_cases z : sbB l s 6 = true
  · rw [if_pos z, if_pos z]
    by_cases y : v < 0
    · rw [if_pos y, if_pos y, lN_ml]
    · rw [if_neg y, if_neg y]
      by_cases w : v ≤ hbM M c s 6
      · rw [if_pos w, if_pos w]
      · rw [if_neg w, if_neg w]; rfl
  · rw [if_neg z, if_neg z]
    by_cases y : v < 0
    · rw [if_pos y]; exact Int64.zero_mul
    · rw [if_neg y]
      by_cases w : v ≤ hbM M c s 6
      · rw [if_pos w]; rfl
      · rw [if_neg w]; rfl
theorem cuV_n {S : SG} {M : Mod} {l t c : Nat} {v : Int32} (R : RC S.now.camp M) (el : wm_men M = nI l) (hl : l < 64) (hG : okG (wm_ore M)) (hT : okT (wm_tent M)) (hc : c < 64) (hv : v = -1 ↔ v < 0) : cuV (hcS S (nI c) 6).calm (hcS S (nI c) 6).cold (wc_men S.now.camp) t v 64 = lN (nsum (shN M l t c v) 64) := by
  rw [cuV]
  refine lsum_n (fun s hs => ?_)
  obtain ⟨h1, h2⟩ := H_l (hb_n hG hT hc s)
  rw [hs_eq R, R.men, el, shN, h1]
  by_cases z : sbB l s 6 = true
  · rw [if_pos ((sub_a hl hs).mpr z), if_pos z, cw_eq hl hs z]
    by_cases y : v < 0
    · rw [if_pos (hv.mpr y), if_pos y, lN_ml]
    · rw [if_neg (fun q => y (hv.mp q)), if_neg y]
      by_cases w : v ≤ hbM M c s 6
      · rw [if_pos w, if_pos w]
      · rw [if_neg w, if_neg w]; rfl
  · rw [if_neg (fun q => z ((sub_a hl hs).mp q)), if_neg z]; rfl
theorem sh_le {M : Mod} {l t c : Nat} (ht : t ≤ 10) (hG : okG (wm_ore M)) (hT : okT (wm_tent M)) (hc : c < 64) (v : Int32) : nsum (shN M l t c v) 64 < 2 ^ 62 := by
  have hB : ∀ s, s < 64 → shN M l t c v s ≤ 1000000 * 594 := fun s hs => by
    obtain ⟨-, h2⟩ := H_l (hb_n hG hT hc s)
    have h3 : wqN l t s 6 ≤ 1000000 := wq_le l ht s 6
    rw [shN]
    by_cases z : sbB l s 6 = true
    · rw [if_pos z]
      by_cases y : v < 0
      · rw [if_pos y]; exact Nat.mul_le_mul h3 h2
      · rw [if_neg y]
        by_cases w : v ≤ hbM M c s 6
        · rw [if_pos w]; omega
        · rw [if_neg w]; omega
    · rw [if_neg z]; omega
  have := nsum_le hB
  omega
theorem pr_colds {S : SG} {M : Mod} (h : RR S M) (x y v p : Int32) : PRL mX6_colds mX7_colds [.int x, .int y, .int v, .int p] S M := by
  have R := h.1.1
  by_cases hb : (isC x && (inR y 0 10 && (inR v (-1) 999 && inR p 0 1))) = true
  · obtain ⟨b1, b2'⟩ := (Bool.and_eq_true _ _ ▸ hb)
    obtain ⟨b2, b3'⟩ := (Bool.and_eq_true _ _ ▸ b2')
    obtain ⟨b3, b4⟩ := (Bool.and_eq_true _ _ ▸ b3')
    obtain ⟨c, hc, ex⟩ := isC_t b1
    obtain ⟨t, -, ht, ey⟩ := inR_t (lo := 0) (hi := 10) (by decide) (by decide) b2
    subst ex; subst ey
    obtain ⟨l, hl, el⟩ := R.2.2.2.1
    have hT := R.2.2.2.2.2.2.2.1
    have hG := R.2.2.2.2.2.2.2.2.2.2
    have hv : v = -1 ↔ v < 0 := by
      have b3' := of_decide_eq_true b3
      constructor
      · intro z; rw [z]; decide
      · intro z
        have q1 := Int32.le_iff_toInt_le.mp b3'.1
        have q2 := Int32.lt_iff_toInt_lt.mp z
        have m1 : (-1 : Int32).toInt = -1 := by decide
        have m0 : (0 : Int32).toInt = 0 := by decide
        exact Int32.toInt_inj.mp (by omega)
    have hk : cnt (bt (nI l)) 32 ≤ 6 := by rw [cnt_men hl]; exact cnt_le _ 6
    have hp : 10 ^ cnt (bt (nI l)) 32 ≤ 10 ^ 6 := Nat.pow_le_pow_right (by decide) hk
    have h0 : 0 < 10 ^ cnt (bt (nI l)) 32 := Nat.pow_pos (by decide)
    have em : wc_men S.now.camp = nI l := R.men.trans el
    refine PRL.mk (S2 := hcS S (nI c) 6) (M2 := M) (h.sS rfl rfl) (fun _ => ct_X6_colds hc ht b3 b4 (cuV_n R el hl hG hT hc hv) (sh_le ht hG hT hc v) (by rw [em]; omega)) (fun _ => ct_X7_colds k51 hc b2 b3 b4 hT (coS_n el hl ht hG hT hc v) (coA_n el hl ht) (sh_le ht hG hT hc v) (by omega) h0) (eL ?_)
    rw [em, pfV, if_neg (by omega)]
  · exact PRL.mk h (fun _ => ct_X6_coldsB (nff hb)) (fun _ => ct_X7_coldsB k51 (nff hb)) rfl
