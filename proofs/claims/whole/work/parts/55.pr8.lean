/-! THE PAIR: sights, lodes -/
theorem RR.sgt' {S : SG} {A B : Mod} {t : Sights} (h : RR S B) (hC : RC S.now.camp A) (hT : RT S.now.tales A) (hG : RG t A) (e1 : wm_pad A = wm_pad B) (e2 : wm_padMany A = wm_padMany B) (k : keK A B) : RR (S.sg 1 t) A :=
  ⟨⟨hC, hT, hG⟩, h.2.1.of e1 e2, h.2.2.1.ke k.sy rfl, h.2.2.2.ke k.sy rfl⟩
theorem kb_m1 (i : Nat) (hi : i < 64) : kb (-1) i = true := (by decide +kernel : ∀ i, i < 64 → kb (-1) i = true) i hi
theorem kb_not (x : Int64) {i : Nat} (hi : i < 64) : kb (x ^^^ (-1)) i = !kb x i := by
  have : kb (x ^^^ (-1)) i = (kb x i ^^ kb (-1) i) := by unfold kb; rw [Int64.toBitVec_xor, BitVec.getLsbD_xor]
  rw [this, kb_m1 i hi, Bool.xor_true]
theorem siM_f (M : Mod) (n : Nat) (x : Int32) (b : Bool) : wm_sightCell (siM M n x b) = upd (wm_sightCell M) n x ∧ wm_sightIs (siM M n x b) = upd (wm_sightIs M) n (bI b) ∧ wm_sights (siM M n x b) = nI (n + 1) := ⟨rfl, rfl, rfl⟩
theorem rg_seen {g : Sights} {M : Mod} {n t : Nat} {b : Bool} (ht : t < 64) (hn : n < 8) (h1 : okSi M n) (h2 : ∀ l, l < 64 → kb (wg_fitting g) l = (decide (l < 46) && ftB M n l)) : RG (sgt g t b n) (siM M n (nI t) b) := by
  obtain ⟨e1, e2, e3⟩ := siM_f M n (nI t) b
  have same : ∀ i, i < n → wm_sightCell (siM M n (nI t) b) i = wm_sightCell M i ∧ wm_sightIs (siM M n (nI t) b) i = wm_sightIs M i := fun i hi => by
    rw [e1, e2, pk_un (show i ≠ n by omega), pk_un (show i ≠ n by omega)]; exact ⟨rfl, rfl⟩
  have last : wm_sightCell (siM M n (nI t) b) n = nI t ∧ wm_sightIs (siM M n (nI t) b) n = bI b := by rw [e1, e2, pk_us, pk_us]; exact ⟨rfl, rfl⟩
  refine ⟨n + 1, by omega, rfl, e3, fun i hi => ?_, fun l hl => ?_⟩
  · by_cases e : i = n
    · subst e
      rw [last.1, last.2]
      exact ⟨⟨t, ht, rfl⟩, (bI_dec b).2⟩
    · rw [(same i (by omega)).1, (same i (by omega)).2]; exact h1 i (by omega)
  · have hf : ftB (siM M n (nI t) b) (n + 1) l = (ftB M n l && (kb (lthN t) l == b)) := by
      show (ftB (siM M n (nI t) b) n l && ft1 (siM M n (nI t) b) l n) = _
      rw [ftB_cong same l, ft1, last.1, last.2, ci ht (by decide), (bI_dec b).1]
    rw [hf]
    cases b with
    | true =>
      show kb (wg_fitting g &&& lthN t) l = _
      rw [kb_and, h2 l hl, (show ∀ z : Bool, (z == true) = z by decide), Bool.and_assoc]
    | false =>
      show kb (wg_fitting g &&& (lthN t ^^^ (-1))) l = _
      rw [kb_and, kb_not _ hl, h2 l hl, (show ∀ z : Bool, (z == false) = !z by decide), Bool.and_assoc]
theorem pr_seen {S : SG} {M : Mod} (h : RR S M) (x y : Int32) : PR mX6_seen mX7_seen [.int x, .int y] S M := by
  by_cases hc : isC x = true
  · obtain ⟨n, hn, h1, h2, h3, h4⟩ := h.1.2.2
    by_cases e : n = 8
    · subst e
      exact PR.mk h (fun _ => ct_X6_seenF hc h1) (fun _ => ct_X7_seenF k51 hc h2) rfl
    · obtain ⟨t, ht, ex⟩ := isC_t hc
      obtain ⟨b, eb⟩ : ∃ b, (!decide (y = 0)) = b := ⟨_, rfl⟩
      subst ex
      have k6 := fun g => ct_X6_seen (h := g) ht h1 (show n < 8 by omega) (y := y)
      have k7 := fun g => ct_X7_seen (h := g) k51 hc h2 (show n < 8 by omega) (y := y)
      rw [eb] at k6 k7
      exact PR.mk (h.sgt' (A := siM M n (nI t) b) (h.1.1.of rfl rfl rfl rfl rfl rfl rfl rfl) (h.1.2.1.of rfl rfl rfl rfl) (rg_seen (b := b) ht (by omega) h3 h4) rfl rfl ⟨rfl, rfl, rfl⟩) k6 k7 rfl
  · exact PR.mk h (fun _ => ct_X6_seenB (nff hc)) (fun _ => ct_X7_seenB k51 (nff hc)) rfl
theorem all_kb : ∀ l, l < 64 → kb 70368744177663 l = (decide (l < 46) && true) := by decide +kernel
theorem pr_forget {S : SG} {M : Mod} (h : RR S M) : PR mX6_forget mX7_forget [] S M := by
  obtain ⟨n, hn, h1, h2, h3, h4⟩ := h.1.2.2
  have hG : RG (70368744177663, 0) (wm_s_sights M 0) := ⟨0, by omega, rfl, rfl, fun i hi => absurd hi (Nat.not_lt_zero i), fun l hl => all_kb l hl⟩
  exact PR.mk (h.sgt' (A := wm_s_sights M 0) (h.1.1.of rfl rfl rfl rfl rfl rfl rfl rfl) (h.1.2.1.of rfl rfl rfl rfl) hG rfl rfl ⟨rfl, rfl, rfl⟩) (fun _ => ct_X6_forget) (fun _ => ct_X7_forget k51) (eI (h1.trans h2.symm))
theorem cnt_cut (P : Nat → Bool) : ∀ k, cnt (fun l => decide (l < 46) && P l) (46 + k) = cnt P 46
  | 0 => cnt_cong (fun j hj => by rw [decide_eq_true hj, Bool.true_and])
  | k + 1 => by
    rw [show 46 + (k + 1) = (46 + k) + 1 by omega, cnt, cnt_cut P k, decide_eq_false (show ¬ 46 + k < 46 by omega), Bool.false_and]
    rfl
theorem fi_eq {g : Sights} {M : Mod} {n : Nat} (h : ∀ l, l < 64 → kb (wg_fitting g) l = (decide (l < 46) && ftB M n l)) : fiN g = alN M n := by
  rw [fiN, alN, ← cnt_cut (ftB M n) 18]
  exact cnt_cong (fun j hj => h j hj)
theorem th_eq {g : Sights} {M : Mod} {n : Nat} (h : ∀ l, l < 64 → kb (wg_fitting g) l = (decide (l < 46) && ftB M n l)) (t : Nat) : thN g t = onN M n t 46 := by
  rw [thN, onN, ← cnt_cut (fun l => kb (lthN t) l && ftB M n l) 18]
  exact cnt_cong (fun j hj => by rw [kb_and, h j hj, Bool.and_assoc, Bool.and_comm (ftB M n j)])
theorem kth_eq {f : Int64} {P : Nat → Bool} {i : Int32} (hi : ¬ i = -1) (h : ∀ l, l < 46 → kb f l = P l) : ∀ r c, kth f i c r = ktM P i c r
  | 0, c => by rw [kth, ktM, if_neg hi]
  | r + 1, c => by rw [kth, ktM, h (46 - (r + 1)) (by omega), kth_eq hi h r, kth_eq hi h r]
theorem pr_lodes {S : SG} {M : Mod} (h : RR S M) (x : Int32) : PR mX6_lodes mX7_lodes [.int x] S M := by
  obtain ⟨n, hn, h1, h2, h3, h4⟩ := h.1.2.2
  refine PR.mk h (fun _ => ct_X6_lodes) (fun _ => ct_X7_lodes k51 h2 hn h3) (eI ?_)
  by_cases e : x = -1
  · rw [if_pos e, e, ktM_all, fi_eq h4, alN]
  · rw [if_neg e]
    exact kth_eq e (fun l hl => by rw [h4 l (by omega), decide_eq_true hl, Bool.true_and]) 46 0
theorem pr_odds {S : SG} {M : Mod} (h : RR S M) (x y : Int32) : PRL mX6_odds mX7_odds [.int x, .int y] S M := by
  by_cases hb : (isC x && inR y 0 1) = true
  · obtain ⟨b1, b2⟩ := (Bool.and_eq_true _ _ ▸ hb)
    obtain ⟨t, ht, ex⟩ := isC_t b1
    subst ex
    obtain ⟨n, hn, h1, h2, h3, h4⟩ := h.1.2.2
    refine PRL.mk h (fun _ => ct_X6_odds ht b2) (fun _ => ct_X7_odds k51 ht b2 h2 hn h3) (eL ?_)
    rw [pfV, odV, fi_eq h4, th_eq h4]
    by_cases z : alN M n = 0
    · rw [if_pos z, if_pos z]
      rcases lo1 b2 with rfl | rfl
      · decide
      · decide
    · rw [if_neg z, if_neg z]
  · exact PRL.mk h (fun _ => ct_X6_oddsB (nff hb)) (fun _ => ct_X7_oddsB k51 (nff hb)) rfl
theorem mst_eq (a y : Nat) : mstX a y = mstN a y := by
  rw [mstX, mstN, mxG2]
  by_cases p : nI y < nI a - nI y
  · rw [if_pos p, if_neg (fun q => Int32.lt_irrefl (Int32.lt_trans p q))]
  · rw [if_neg p]
    by_cases q : nI a - nI y < nI y
    · rw [if_pos q]
    · rw [if_neg q]
      exact Int32.le_antisymm (i_nlt q) (i_nlt p)
theorem nx_first (f : Nat → Int32) (z : Int32) (r : Nat) : nxR f (-6, z) (r + 1) = nxR f (nI (64 - (r + 1)), f (64 - (r + 1))) r := by rw [nxR, if_pos (Or.inl (show (-6 : Int32) < 0 by decide))]
theorem nx_pos {f : Nat → Int32} : ∀ (r : Nat) (s : Int32 × Int32), r ≤ 64 → ¬ s.1 < 0 → ¬ (nxR f s r).1 < 0
  | 0, _, _, h => h
  | r + 1, s, hr, h => by
    rw [nxR]
    by_cases z : s.1 < 0 ∨ f (64 - (r + 1)) < s.2
    · rw [if_pos z]; exact nx_pos r _ (by omega) (nI_pos (by omega))
    · rw [if_neg z]; exact nx_pos r _ (by omega) h
theorem pr_next {S : SG} {M : Mod} (h : RR S M) (x : Int32) : PR mX6_next mX7_next [.int x] S M := by
  by_cases hb : inR x 0 1 = true
  · obtain ⟨n, hn, h1, h2, h3, h4⟩ := h.1.2.2
    have ef := fi_eq h4
    by_cases z : alN M n = 0
    · exact PR.mk h (fun _ => ct_X6_next0 hb (ef.trans z)) (fun _ => ct_X7_next0 k51 hb h2 hn h3 z) rfl
    · refine PR.mk h (fun _ => ct_X6_next hb (by omega)) (fun _ => ct_X7_next k51 hb h2 hn h3 (by omega)) (eI ?_)
      have ff : (fun t => mstX (fiN S.now.sights) (thN S.now.sights t)) = (fun t => mstN (alN M n) (onN M n t 46)) := by
        funext t
        rw [mst_eq, ef, th_eq h4]
      rw [ff]
      obtain ⟨F, eF⟩ : ∃ F, (fun t => mstN (alN M n) (onN M n t 46)) = F := ⟨_, rfl⟩
      rw [eF]
      have e1 : nxR F (-6, nI (fiN S.now.sights)) 64 = nxR F (nI (64 - (63 + 1)), F (64 - (63 + 1))) 63 := nx_first F _ 63
      have e2 : nxR F (-6, 0) 64 = nxR F (nI (64 - (63 + 1)), F (64 - (63 + 1))) 63 := nx_first F _ 63
      have e3 := nx_pos (f := F) 63 (nI (64 - (63 + 1)), F (64 - (63 + 1))) (by omega) (nI_pos (by omega))
      rw [e1, e2, nxV]
      by_cases y : x = 0
      · rw [if_pos y, if_pos (Or.inr y)]
      · rw [if_neg y, if_neg (fun q => q.elim e3 y)]
  · exact PR.mk h (fun _ => ct_X6_nextB (nff hb)) (fun _ => ct_X7_nextB k51 (nff hb)) rfl
/-! turns -/
def tV (d : Nat → Int32) : Nat → Nat → Int32
  | 0, _ => 0
  | k + 1, j => mxG (d j - tV d k (j + 1)) (d (j + k) - tV d k j)
theorem tV_1 (d : Nat → Int32) (j : Nat) : tV d 1 j = d j := by
  show mxG (d j - 0) (d (j + 0) - 0) = d j
  rw [Int32.sub_zero, Nat.add_zero, Int32.sub_zero, mxG, if_neg (Int32.lt_irrefl)]
theorem mx_eq (a b : Int32) : mxG2 a b = mxG a b := rfl
theorem fl1_at {d g : Nat → Int32} {m : Nat} (hm : m < 6) (hg : 0 < m → ∀ i, i + m ≤ 6 → g i = tV d m i) : ∀ i, i ≤ 6 - m → (∀ q, q < i → fl1 d g m i q = tV d (m + 1) q) ∧ ∀ q, i ≤ q → fl1 d g m i q = g q
  | 0, _ => ⟨fun q h => absurd h (Nat.not_lt_zero q), fun _ _ => rfl⟩
  | i + 1, hi => by
    obtain ⟨a, b⟩ := fl1_at hm hg i (by omega)
    have e : (if m = 0 then d i else mxG2 (d i - fl1 d g m i (i + 1)) (d (i + m) - fl1 d g m i i)) = tV d (m + 1) i := by
      by_cases z : m = 0
      · rw [if_pos z, z, tV_1]
      · rw [if_neg z, b (i + 1) (by omega), b i (by omega), hg (by omega) (i + 1) (by omega), hg (by omega) i (by omega), mx_eq, tV]
    rw [fl1, e]
    refine ⟨fun q hq => ?_, fun q hq => ?_⟩
    · by_cases y : q = i
      · subst y; exact pk_us
      · rw [pk_un y]; exact a q (by omega)
    · rw [pk_un (by omega)]; exact b q (by omega)
theorem fL_at (d g : Nat → Int32) : ∀ m, m ≤ 6 → 0 < m → ∀ i, i + m ≤ 6 → fL d g m i = tV d m i
  | 0, _, h, _, _ => absurd h (Nat.lt_irrefl 0)
  | m + 1, hm, _, i, hi => by
    rw [fL]
    exact (fl1_at (by omega) (fun h i hi => fL_at d g m (by omega) h i hi) (6 - m) (Nat.le_refl _)).1 i (by omega)
theorem mw_at {d g : Nat → Int32} {m : Nat} (hm : m < 6) (hg : ∀ i, i + m ≤ 6 → g (7 * m + i) = tV d m i) : ∀ j, j ≤ 6 - m → (∀ q, q < j → mw d g m j (7 * (m + 1) + q) = tV d (m + 1) q) ∧ ∀ z, z < 7 * (m + 1) → mw d g m j z = g z
  | 0, _ => ⟨fun q h => absurd h (Nat.not_lt_zero q), fun _ _ => rfl⟩
  | j + 1, hj => by
    obtain ⟨a, b⟩ := mw_at hm hg j (by omega)
    have e : mxG (d j - mw d g m j (7 * m + j + 1)) (d (j + m) - mw d g m j (7 * m + j)) = tV d (m + 1) j := by
      rw [b (7 * m + j + 1) (by omega), b (7 * m + j) (by omega), show 7 * m + j + 1 = 7 * m + (j + 1) by omega, hg (j + 1) (by omega), hg j (by omega), tV]
    rw [mw, e]
    refine ⟨fun q hq => ?_, fun z hz => ?_⟩
    · by_cases y : q = j
      · subst y; exact pk_us
      · rw [pk_un (by omega)]; exact a q (by omega)
    · rw [pk_un (by omega)]; exact b z hz
theorem mM_at {d g : Nat → Int32} (h0 : ∀ i, i ≤ 6 → g i = 0) : ∀ m, m ≤ 6 → ∀ k, k ≤ m → ∀ i, i + k ≤ 6 → mM d g m (7 * k + i) = tV d k i
  | 0, _, k, hk, i, hi => by
    have : k = 0 := by omega
    subst this
    rw [mM, show 7 * 0 + i = i by omega, h0 i (by omega), tV]
  | m + 1, hm, k, hk, i, hi => by
    obtain ⟨a, b⟩ := mw_at (d := d) (g := mM d g m) (m := m) (by omega) (fun i hi => mM_at h0 m (by omega) m (Nat.le_refl m) i hi) (6 - m) (Nat.le_refl _)
    rw [mM]
    by_cases y : k = m + 1
    · subst y; exact a i (by omega)
    · rw [b (7 * k + i) (by omega)]; exact mM_at h0 m (by omega) k (by omega) i hi
theorem mz_at (f : Nat → Int32) : ∀ n j, j < n → mz f n j = 0
  | 0, j, h => absurd h (Nat.not_lt_zero j)
  | n + 1, j, h => by
    rw [mz]
    by_cases y : j = n
    · subst y; exact pk_us
    · rw [pk_un y]; exact mz_at f n j (by omega)
theorem tV_cong {d d' : Nat → Int32} (h : ∀ j, j < 6 → d j = d' j) : ∀ k j, j + k ≤ 6 → tV d k j = tV d' k j
  | 0, _, _ => rfl
  | k + 1, j, hj => by rw [tV, tV, h j (by omega), h (j + k) (by omega), tV_cong h k (j + 1) (by omega), tV_cong h k j (by omega)]
theorem fr_row (M : Mod) (i : Nat) (f : Nat → Int32) (h : 12 ≤ i) (h1 : i ≠ 19) (h2 : i ≠ 20) : frM (va_up M.1 i f, M.2) M :=
  ⟨⟨fun r j hr _ => congrFun (va_up_ne M.1 f (show r ≠ i by omega)) j, fun _ _ => rfl, fun _ _ => rfl⟩, va_up_ne M.1 f (show 11 ≠ i by omega), rfl, va_up_ne M.1 f (show 19 ≠ i by omega), rfl, va_up_ne M.1 f (show 20 ≠ i by omega)⟩
theorem fr_tu (M : Mod) (f g : Nat → Int32) {S : SG} (h : RR S M) : RR S (wm_s_more (wm_s_digit M f) g) :=
  (h.fr (fr_row M 17 f (by omega) (by omega) (by omega))).fr (fr_row (wm_s_digit M f) 18 g (by omega) (by omega) (by omega))
theorem tu_eq {S : SG} {M : Mod} {x y : Int32} (hy : inR y 0 1 = true) : tsV S x y = tuV M x y := by
  have ed : ∀ j, j < 6 → tsD S x j = tuD M x j := fun j hj => by rw [tsD, tuD, wth_eq _ x hj, wth_eq _ x hj]
  have eL : ∀ i, i ≤ 1 → tsL S x i = tV (tuD M x) 5 i := fun i hi => by
    rw [tsL, fL_at _ _ 5 (by omega) (by omega) i (by omega), tV_cong ed 5 i (by omega)]
  have eG : ∀ k, k ≤ 6 → ∀ i, i + k ≤ 6 → tuG M x (7 * k + i) = tV (tuD M x) k i := fun k hk i hi => by
    rw [tuG]
    exact mM_at (fun i hi => mz_at _ 7 i (by omega)) 6 (by omega) k hk i hi
  have g42 : tuG M x 42 = tV (tuD M x) 6 0 := eG 6 (by omega) 0 (by omega)
  have g36 : tuG M x 36 = tV (tuD M x) 5 1 := eG 5 (by omega) 1 (by omega)
  have g35 : tuG M x 35 = tV (tuD M x) 5 0 := eG 5 (by omega) 0 (by omega)
  have e6 : tV (tuD M x) 6 0 = mxG (tuD M x 0 - tV (tuD M x) 5 1) (tuD M x 5 - tV (tuD M x) 5 0) := rfl
  rw [tsV, tuV, g42, g36, g35, eL 0 (by omega), eL 1 (by omega), ed 0 (by omega), ed 5 (by omega), e6, mx_eq]
  rcases lo1 hy with rfl | rfl
  · rw [if_neg (show ¬ (0 : Int32) = 1 by decide), if_pos rfl, Int32.add_comm]
  · rw [if_pos rfl, if_neg (show ¬ (1 : Int32) = 0 by decide)]
theorem pr_turns {S : SG} {M : Mod} (h : RR S M) (x y : Int32) : PR mX6_turns mX7_turns [.int x, .int y] S M := by
  by_cases hb : (inR x 0 999999 && inR y 0 1) = true
  · obtain ⟨b1, b2⟩ := (Bool.and_eq_true _ _ ▸ hb)
    exact PR.mk (S2 := (S.sd (tsD S x)).sl (tsL S x)) (M2 := tuM M x) (fr_tu M (tuD M x) (tuG M x) (h.sS rfl rfl)) (fun _ => ct_X6_turns b1 b2) (fun _ => ct_X7_turns k51 b1 b2) (eI (tu_eq b2))
  · exact PR.mk h (fun _ => ct_X6_turnsB (nff hb)) (fun _ => ct_X7_turnsB k51 (nff hb)) rfl
