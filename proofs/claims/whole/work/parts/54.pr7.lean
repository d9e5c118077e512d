/-! THE PAIR: tales, twos -/
theorem RR.tls {S : SG} {A B : Mod} {t : Tales} (h : RR S B) (hC : RC S.now.camp A) (hT : RT t A) (hG : RG S.now.sights A) (e1 : wm_pad A = wm_pad B) (e2 : wm_padMany A = wm_padMany B) (k : keK A B) : RR (S.st 1 t) A :=
  ⟨⟨hC, hT, hG⟩, h.2.1.of e1 e2, h.2.2.1.ke k.sy rfl, h.2.2.2.ke k.sy rfl⟩
theorem tlA_f (t : Tales) (n : Nat) (x y : Int32) (b : Bool) : wt_tellers (tlA t n x y b) = upd (wt_tellers t) n x ∧ wt_cells (tlA t n x y b) = upd (wt_cells t) n y ∧ wt_toldGolden (tlA t n x y b) = (if b then wt_toldGolden t ||| bW n else wt_toldGolden t) ∧ wt_count (tlA t n x y b) = nI (n + 1) := ⟨rfl, rfl, rfl, rfl⟩
theorem tlM_f (M : Mod) (n : Nat) (x y : Int32) (b : Bool) : wm_taleMan (tlM M n x y b) = upd (wm_taleMan M) n x ∧ wm_taleCell (tlM M n x y b) = upd (wm_taleCell M) n y ∧ wm_taleGold (tlM M n x y b) = upd (wm_taleGold M) n (bI b) ∧ wm_tales (tlM M n x y b) = nI (n + 1) := ⟨rfl, rfl, rfl, rfl⟩
theorem bI_dec (b : Bool) : decide (bI b = 1) = b ∧ (bI b = 0 ∨ bI b = 1) := by cases b <;> decide
theorem pr_tale {S : SG} {M : Mod} (h : RR S M) (x y z : Int32) : PR mX6_tale mX7_tale [.int x, .int y, .int z] S M := by
  have R := h.1.1
  by_cases hb : hasB (wc_men S.now.camp) x = true
  · by_cases hc : isC y = true
    · obtain ⟨n, hn, h1, h2, h3, h4⟩ := h.1.2.1
      by_cases e : n = 8
      · subst e
        exact PR.mk h (fun _ => ct_X6_taleF hb hc h1) (fun _ => ct_X7_taleF k51 (R.hasB _ ▸ hb) hc h2) rfl
      · obtain ⟨m, hm, ex, -⟩ := hasB_t hb
        obtain ⟨b, eb⟩ : ∃ b, (!decide (z = 0)) = b := ⟨_, rfl⟩
        obtain ⟨a1, a2, a3, a4⟩ := tlA_f S.now.tales n x y b
        obtain ⟨m1, m2, m3, m4⟩ := tlM_f M n x y b
        have hT : RT (tlA S.now.tales n x y b) (tlM M n x y b) := by
          refine ⟨n + 1, by omega, a4, m4, fun i hi => ?_, fun i hi hi2 => ?_⟩
          · rw [a1, a2, a3, m1, m2, m3]
            by_cases e2 : i = n
            · subst e2
              rw [pk_us, pk_us, pk_us, pk_us, pk_us]
              refine ⟨⟨m, hm, ex, ex⟩, rfl, (bI_dec b).2, ?_⟩
              rw [(bI_dec b).1]
              cases b with
              | false => exact h4 i (Nat.le_refl i) (by omega)
              | true =>
                show bt (wt_toldGolden S.now.tales ||| bW i) i = true
                rw [bt_set (by omega) (by omega), decide_eq_true rfl, Bool.or_true]
            · rw [pk_un e2, pk_un e2, pk_un e2, pk_un e2, pk_un e2]
              obtain ⟨q1, q2, q3, q4⟩ := h3 i (by omega)
              refine ⟨q1, q2, q3, ?_⟩
              cases b with
              | false => exact q4
              | true =>
                show bt (wt_toldGolden S.now.tales ||| bW n) i = _
                rw [bt_set (by omega) (by omega), decide_eq_false e2, Bool.or_false]
                exact q4
          · rw [a3]
            have g := h4 i (by omega) hi2
            cases b with
            | false => exact g
            | true =>
              show bt (wt_toldGolden S.now.tales ||| bW n) i = false
              rw [bt_set (by omega) (by omega), g, decide_eq_false (by omega)]
              rfl
        have k6 := fun g => ct_X6_tale (h := g) hb hc h1 (show n < 8 by omega) (z := z)
        have k7 := fun g => ct_X7_tale (h := g) k51 (R.hasB _ ▸ hb) hc h2 (show n < 8 by omega) (z := z)
        rw [eb] at k6 k7
        exact PR.mk (h.tls (A := tlM M n x y b) (R.of rfl rfl rfl rfl rfl rfl rfl rfl) hT (h.1.2.2.of rfl rfl rfl) rfl rfl ⟨rfl, rfl, rfl⟩) k6 k7 rfl
    · exact PR.mk h (fun _ => ct_X6_taleO hb (nff hc)) (fun _ => ct_X7_taleO k51 (R.hasB _ ▸ hb) (nff hc)) rfl
  · exact PR.mk h (fun _ => ct_X6_taleB (nff hb)) (fun _ => ct_X7_taleB k51 (R.hasB _ ▸ nff hb)) rfl
theorem bt_0 (i : Nat) : bt 0 i = false := b_0 i
theorem pr_hush {S : SG} {M : Mod} (h : RR S M) : PR mX6_hush mX7_hush [] S M := by
  obtain ⟨n, hn, h1, h2, h3, h4⟩ := h.1.2.1
  have hT : RT (wt_s_toldGolden (wt_s_count S.now.tales 0) 0) (wm_s_tales M 0) := ⟨0, by omega, rfl, rfl, fun i hi => absurd hi (Nat.not_lt_zero i), fun i _ _ => bt_0 i⟩
  exact PR.mk (h.tls (A := wm_s_tales M 0) (h.1.1.of rfl rfl rfl rfl rfl rfl rfl rfl) hT (h.1.2.2.of rfl rfl rfl) rfl rfl ⟨rfl, rfl, rfl⟩) (fun _ => ct_X6_hush) (fun _ => ct_X7_hush k51) (eI (h1.trans h2.symm))
theorem agJ_eq {t : Tales} {M : Mod} {n : Nat} {L : Int32} (hc : ∀ i, i < n → wt_cells t i = wm_taleCell M i) (hg : ∀ i, i < n → gby t i L = mnB M i L) {i : Nat} (hi : i < n) : ∀ k, k ≤ i → agJ t L i k = aJ (wm_taleCell M) (fun i => mnB M i L) i k
  | 0, _ => rfl
  | k + 1, hk => by rw [agJ, aJ, agr, aR, hc i hi, hc (i - (k + 1)) (by omega), hg i hi, hg (i - (k + 1)) (by omega), agJ_eq hc hg hi k (by omega)]
theorem agI_eq {t : Tales} {M : Mod} {n : Nat} {L : Int32} (hc : ∀ i, i < n → wt_cells t i = wm_taleCell M i) (hg : ∀ i, i < n → gby t i L = mnB M i L) : ∀ k, k ≤ n → agI t L n k = aI (wm_taleCell M) (fun i => mnB M i L) n k
  | 0, _ => rfl
  | k + 1, hk => by rw [agI, aI, agJ_eq hc hg (show n - (k + 1) < n by omega) _ (Nat.le_refl _), agI_eq hc hg k (by omega)]
theorem pr_liars {S : SG} {M : Mod} (h : RR S M) (x : Int32) : PR mX6_liars mX7_liars [.int x] S M := by
  by_cases hb : inR x 0 1 = true
  · obtain ⟨n, hn, h1, h2, h3, h4⟩ := h.1.2.1
    have ho : okTl M n := fun i hi => by
      obtain ⟨⟨m, hm, -, e⟩, -, g, -⟩ := h3 i hi
      exact ⟨⟨m, hm, e⟩, g⟩
    refine PR.mk h (fun _ => ct_X6_liars hb h1 hn) (fun _ => ct_X7_liars k51 hb h2 hn ho) (eI ?_)
    have e : (fun q => agI S.now.tales (nI q) n n) = (fun q => aI (wm_taleCell M) (fun i => mnB M i (nI q)) n n) := by
      funext q
      refine agI_eq (fun i hi => (h3 i hi).2.1) (fun i hi => ?_) n (Nat.le_refl n)
      obtain ⟨⟨m, hm, e1, e2⟩, -, -, g⟩ := h3 i hi
      rw [gby, mnB, g, e1, e2]
    rw [e]
  · exact PR.mk h (fun _ => ct_X6_liarsB (nff hb)) (fun _ => ct_X7_liarsB k51 (nff hb)) rfl
/-! partners -/
theorem d2B_t {w : Nat → Int32} {men : Int32} : ∀ r m, (∀ i, m ≤ i → i < m + r → isM (w i) = true) → d2B w men m r = g2B w men m r
  | 0, _, _ => rfl
  | r + 1, m, h => by rw [d2B, g2B, h m (Nat.le_refl m) (by omega), Bool.true_and, d2B_t r (m + 1) (fun i h1 h2 => h i (by omega) (by omega))]
theorem d2B_m {w : Nat → Int32} {men : Int32} : ∀ r m, d2B w men m r = true → ∀ i, m ≤ i → i < m + r → isM (w i) = true
  | 0, m, _, i, h1, h2 => by omega
  | r + 1, m, h, i, h1, h2 => by
    rw [d2B] at h
    simp only [Bool.and_eq_true] at h
    by_cases e : i = m
    · rw [e]; exact h.1.1.1
    · exact d2B_m r (m + 1) h.2 i (by omega) (by omega)
theorem g2B_cong {w w' : Nat → Int32} {men : Int32} (he : ∀ m, m < 6 → w m = w' m) (hd : ∀ m, m < 6 → ∃ d, d < 6 ∧ w' m = nI d) : ∀ r m, m + r ≤ 6 → g2B w men m r = g2B w' men m r
  | 0, _, _ => rfl
  | r + 1, m, h => by
    obtain ⟨d, hd6, ed⟩ := hd m (by omega)
    rw [g2B, g2B, he m (by omega), ed, ci hd6 (by decide), he d hd6, g2B_cong he hd r (m + 1) (by omega)]
theorem g1B_in {x : Int32} : ∀ n, g1B x n = true → inR x 0 999999 = true
  | 0, h => h
  | n + 1, h => by
    rw [g1B, Bool.and_eq_true] at h
    exact g1B_in n h.1
theorem g1B_of {x : Int32} (h : inR x 0 999999 = true) : ∀ n, (∀ i, i < n → isM (dgD x i) = true) → g1B x n = true
  | 0, _ => h
  | n + 1, hi => by rw [g1B, g1B_of h n (fun i h2 => hi i (by omega)), hi n (by omega)]; rfl
theorem wth_eq (f : Nat → Int32) (x : Int32) {m : Nat} (hm : m < 6) : wth f x 6 m = dgD x (5 - m) := wth_at hm 6 (by omega) (by omega)
theorem tw_eq {x men : Int32} {f g : Nat → Int32} (hx : inR x 0 999999 = true) : d2B (wth f x 6) men 0 6 = g3B x men g := by
  by_cases ha : g1B x 6 = true
  · have hm := g1B_m 6 ha
    rw [g3B, ha, Bool.true_and, d2B_t 6 0 (fun i _ h2 => by rw [wth_eq f x (by omega)]; exact hm (5 - i) (by omega))]
    exact g2B_cong (fun m h2 => by rw [wth_eq f x h2, wth_eq g x h2]) (fun m h2 => wth_dig ha h2) 6 0 (by omega)
  · rw [g3B, nff ha, Bool.false_and]
    refine nff (fun z => ha (g1B_of hx 6 (fun i hi => ?_)))
    have := d2B_m 6 0 z (5 - i) (by omega) (by omega)
    rw [wth_eq f x (by omega), show 5 - (5 - i) = i by omega] at this
    exact this
theorem g2B_at {w : Nat → Int32} {men : Int32} : ∀ r m, g2B w men m r = true → ∀ i, m ≤ i → i < m + r → w (w i).toNatClampNeg = nI i ∧ (bt men i = true ∨ w i = nI i)
  | 0, m, _, i, h1, h2 => by omega
  | r + 1, m, h, i, h1, h2 => by
    rw [g2B] at h
    simp only [Bool.and_eq_true, Bool.or_eq_true, decide_eq_true_eq] at h
    by_cases e : i = m
    · rw [e]; exact h.1
    · exact g2B_at r (m + 1) h.2 i (by omega) (by omega)
theorem tws_eq {c : Camp} {M : Mod} (h : RC c M) {a b : Nat} (ha : a < 6) (hb : b < 6) (ta : bt (wm_men M) a = true) (tb : bt (wm_men M) b = true) : twS (wc_goldOn c) (wc_known c) a b = twS (wm_ore M) (wm_knows M) a b := by
  have g : ∀ x, gsum (wc_goldOn c) x 64 = gsum (wm_ore M) x 64 := fun x => isum_cong (fun j hj => by rw [h.1 j hj])
  rw [twS, twS, g, g, (h.2.2.2.2.1 a ha ta).2.2.1, (h.2.2.2.2.1 b hb tb).2.2.1]
theorem wdl_eq {c : Camp} {M : Mod} (h : RC c M) {w w' : Nat → Int32} (he : ∀ m, m < 6 → w m = w' m) (hd : ∀ m, m < 6 → ∃ d, d < 6 ∧ w' m = nI d ∧ w' d = nI m ∧ (bt (wm_men M) m = true ∨ w' m = nI m)) {a b : Nat} (ha : a < 6) (hb : b < 6) : wdL (wc_goldOn c) (wc_known c) (wc_men c) w a b = wdL (wm_ore M) (wm_knows M) (wm_men M) w' a b := by
  rw [wdL, wdL, h.men, he a ha, he b hb]
  by_cases ta : bt (wm_men M) a = true
  · by_cases tb : bt (wm_men M) b = true
    · have mate : ∀ m, m < 6 → bt (wm_men M) m = true → ∃ d, d < 6 ∧ w' m = nI d ∧ bt (wm_men M) d = true := fun m hm tm => by
        obtain ⟨d, hd6, e1, e2, -⟩ := hd m hm
        refine ⟨d, hd6, e1, ?_⟩
        obtain ⟨d2, -, -, -, q⟩ := hd d hd6
        rcases q with q | q
        · exact q
        · have : m = d := (nI_eq (by omega) (by omega)).mp (e2.symm.trans q)
          rw [← this]; exact tm
      obtain ⟨da, da6, ea, tda⟩ := mate a ha ta
      obtain ⟨db, db6, eb, tdb⟩ := mate b hb tb
      rw [ea, eb, ci da6 (by decide), ci db6 (by decide), tws_eq h ha hb ta tb, tws_eq h ha da6 ta tda, tws_eq h hb db6 tb tdb]
    · rw [nff tb]; simp
  · rw [nff ta]; simp
theorem lv2_cong {P Q : Nat → Nat → Bool} (h : ∀ a b, a < 6 → b < 6 → P a b = Q a b) {a : Nat} (ha : a < 6) : ∀ r, lv2 P a r = lv2 Q a r
  | 0 => rfl
  | r + 1 => by rw [lv2, lv2, h a (6 - (r + 1)) ha (by omega), lv2_cong h ha r]
theorem lv1_cong {P Q : Nat → Nat → Bool} (h : ∀ a b, a < 6 → b < 6 → P a b = Q a b) : ∀ r, lv1 P r = lv1 Q r
  | 0 => rfl
  | r + 1 => by rw [lv1, lv1, lv2_cong h (show 6 - (r + 1) < 6 by omega) (r + 1), lv1_cong h r]
theorem with_fr (M : Mod) (f : Nat → Int32) : frM (wm_s_with M f) M :=
  ⟨⟨fun r j hr _ => congrFun (va_up_ne (k := 16) M.1 f (show r ≠ 16 by omega)) j, fun _ _ => rfl, fun _ _ => rfl⟩, rfl, rfl, rfl, rfl, rfl⟩
theorem pr_leaves {S : SG} {M : Mod} (h : RR S M) (x : Int32) : PR mX6_leaves mX7_leaves [.int x] S M := by
  have R := h.1.1
  by_cases hx : inR x 0 999999 = true
  · have e := tw_eq (x := x) (men := wc_men S.now.camp) (f := S.dig) (g := wm_with M) hx
    have hR : RR (S.sd (wth S.dig x 6)) (wm_s_with M (wth (wm_with M) x 6)) := (h.fr (with_fr M _)).sS rfl rfl
    by_cases hd : d2B (wth S.dig x 6) (wc_men S.now.camp) 0 6 = true
    · have hg : g3B x (wm_men M) (wm_with M) = true := by rw [← R.men, ← e]; exact hd
      have hg2 : g1B x 6 = true ∧ g2B (wth (wm_with M) x 6) (wm_men M) 0 6 = true := by rw [g3B, Bool.and_eq_true] at hg; exact hg
      have same : ∀ m, m < 6 → wth S.dig x 6 m = wth (wm_with M) x 6 m := fun m hm => by rw [wth_eq _ x hm, wth_eq _ x hm]
      refine PR.mk hR (fun _ => ct_X6_leaves hx hd (fun m hm => wth_dig hg2.1 hm)) (fun _ => ct_X7_leaves k51 hg) (eI (lv1_cong (fun a b ha hb => wdl_eq R same (fun m hm => ?_) ha hb) 6))
      obtain ⟨d, hd6, ed⟩ := wth_dig (f := wm_with M) hg2.1 hm
      obtain ⟨q1, q2⟩ := g2B_at 6 0 hg2.2 m (by omega) (by omega)
      rw [ed, ci hd6 (by decide)] at q1
      exact ⟨d, hd6, ed, q1, q2⟩
    · have hg : g3B x (wm_men M) (wm_with M) = false := by rw [← R.men, ← e]; exact nff hd
      exact PR.mk hR (fun _ => ct_X6_leavesB hx (nff hd)) (fun _ => ct_X7_leavesB k51 hg) rfl
  · have hg : g3B x (wm_men M) (wm_with M) = false := by
      rw [g3B]
      have : ¬ g1B x 6 = true := fun z => hx (g1B_in 6 z)
      rw [nff this, Bool.false_and]
    exact PR.mk (h.fr (with_fr M _)) (fun _ => ct_X6_leavesR (nff hx)) (fun _ => ct_X7_leavesB k51 hg) rfl
