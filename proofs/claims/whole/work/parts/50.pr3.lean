/-! THE PAIR: weeks -/
def aWh (d : Nat) : Int32 := if d < 4 then 0 else if d = 4 then 1 else if d = 5 then 2 else if d = 6 then 5 else if d = 7 then 3 else 4
theorem d_cases {d : Nat} (hd : d < 9) (h6 : d ≠ 6) : d < 4 ∨ d = 4 ∨ d = 5 ∨ d = 7 ∨ d = 8 := by omega
theorem act_why {c : Camp} {M : Mod} (h : RC c M) {m d : Nat} {wy : Int32} (hm : m < 6) (hd : d < 9) (h6 : d ≠ 6) (hy : d < 4 → wy = nI d) : rsn c (nI m) (nI d) = whyF M (aWh d) (nI m) wy := by
  rcases d_cases hd h6 with z | rfl | rfl | rfl | rfl
  · rw [hy z, aWh, if_pos z]; exact wy_go h hm z
  · exact wy_dig h hm
  · exact wy_cl h hm
  · exact wy_ot h hm (Or.inl rfl) (Or.inl rfl)
  · exact wy_ot h hm (Or.inr rfl) (Or.inr rfl)
theorem act_st {c : Camp} {M : Mod} (h : RS c M) {m d : Nat} {wy : Int32} (hm : m < 6) (hd : d < 9) (h6 : d ≠ 6) (hy : d < 4 → wy = nI d) (hr : rsn c (nI m) (nI d) = 0) : RS (pfm c m (nI d)) (hpn M (aWh d) (nI m) wy) := by
  rcases d_cases hd h6 with z | rfl | rfl | rfl | rfl
  · rw [hy z, aWh, if_pos z]; exact st_go h hm z hr
  · exact st_dig h hm hr
  · exact st_cl h hm hr
  · exact st_cold h hm
  · exact st_whis h hm
theorem hpn_v {c : Mod} {what x wy : Int32} (h2 : ¬ what = 2) : ∀ i, 6 ≤ i → (hpn c what x wy).2.2 i = c.2.2 i := by
  intro i hi
  rw [hpn]
  by_cases a : what = 0
  · rw [if_pos a]; rfl
  rw [if_neg a]
  by_cases a : what = 1
  · rw [if_pos a]; rfl
  rw [if_neg a, if_neg h2]
  by_cases a : what = 3
  · rw [if_pos a]; rfl
  rw [if_neg a]
  by_cases a : what = 4
  · rw [if_pos a]; rfl
  rw [if_neg a]
  exact (ngM_same c 6).2.2 i (by omega)
def okN (x : Int32) : Prop := x = -6 ∨ ∃ a, a < 64 ∧ x = nI a
theorem okN.neg {x : Int32} (h : okN x) : x < 0 ↔ x = -6 := by
  rcases h with rfl | ⟨a, ha, rfl⟩
  · exact ⟨fun _ => rfl, fun _ => by decide⟩
  · exact ⟨fun z => absurd z (nI_pos (by omega)), fun z => absurd z (nt_n6 a ha)⟩
def RW (w : Week) (c : Camp) (M : Mod) (k : Nat) : Prop :=
  RS c M ∧ wk_bad w = wm_badAct M ∧ wk_reason w = wm_badWhy M ∧ wk_firstEmpty w = wm_firstNothing M ∧ wk_empty w = wm_nothingMany M ∧ okN (wm_badAct M) ∧ okN (wm_firstNothing M) ∧ (wm_badAct M = -6 → wk_acts w = nI k ∧ wk_reason w = -6)
theorem rs_gwB {c : Camp} {M : Mod} (h : RS c M) (k : Nat) (a w : Int32) : RS c (gwB M k a w) := ⟨h.1.of rfl rfl rfl rfl rfl rfl rfl rfl, h.2⟩
theorem wkC_f (w : Week) : wkC w false = w := rfl
theorem wkC_t (w : Week) : wkC w true = wk_s_empty (if wk_firstEmpty w = -6 then wk_s_firstEmpty w (wk_acts w) else w) (wk_empty w + 1) := rfl
theorem wkC_bad (w : Week) (b : Bool) : wk_bad (wkC w b) = wk_bad w ∧ wk_reason (wkC w b) = wk_reason w := by
  cases b with
  | false => exact ⟨rfl, rfl⟩
  | true =>
    rw [wkC_t]
    by_cases z : wk_firstEmpty w = -6
    · rw [if_pos z]; exact ⟨rfl, rfl⟩
    · rw [if_neg z]; exact ⟨rfl, rfl⟩
theorem wkC_fe (w : Week) : wk_firstEmpty (wkC w true) = (if wk_firstEmpty w = -6 then wk_acts w else wk_firstEmpty w) ∧ wk_empty (wkC w true) = wk_empty w + 1 := by
  rw [wkC_t]
  by_cases z : wk_firstEmpty w = -6
  · rw [if_pos z, if_pos z]; exact ⟨rfl, rfl⟩
  · rw [if_neg z, if_neg z]; exact ⟨rfl, rfl⟩
theorem actS_bad {w : Week} {c : Camp} {x d : Int32} (h : ¬ rsn c x d = 0) : actS (w, c) x d = (wk_s_reason (wk_s_bad w (wk_acts w)) (rsn c x d), c) := by rw [actS, if_neg h]
theorem actS_ok {w : Week} {c : Camp} {x d : Int32} (h : rsn c x d = 0) (h6 : ¬ d = 6) : actS (w, c) x d = (wk_s_acts (wkC w (decide (d = 5) && decide (wc_goldOn c (wc_tents c x.toNatClampNeg).toNatClampNeg = 0))) (wk_acts w + 1), pfm c x.toNatClampNeg d) := by rw [actS, if_pos h, if_neg h6]
theorem actS_n {w : Week} {c : Camp} {x : Int32} : actS (w, c) x 6 = (wk_s_acts w (wk_acts w + 1), ngt c 6) := by rw [actS, if_pos (by rw [rsn, if_pos rfl]), if_pos rfl]
theorem gwB_v (M : Mod) (k : Nat) (a w : Int32) : wm_badAct (gwB M k a w) = a ∧ wm_badWhy (gwB M k a w) = w ∧ wm_firstNothing (gwB M k a w) = wm_firstNothing M ∧ wm_nothingMany (gwB M k a w) = wm_nothingMany M ∧ wm_actNow (gwB M k a w) = nI k ∧ wm_tent (gwB M k a w) = wm_tent M ∧ wm_ore (gwB M k a w) = wm_ore M := ⟨rfl, rfl, rfl, rfl, rfl, rfl, rfl⟩
theorem wk_man {w : Week} {c : Camp} {M : Mod} {k m d : Nat} (h : RW w c M k) (hk : k < 60) (hbad : wm_badAct M = -6) (hm : m < 6) (hd : d < 9) (h6 : d ≠ 6) (ea : wm_act M k = aWh d) (ew : wm_who M k = nI m) (ey : d < 4 → wm_way M k = nI d) : RW (actS (w, c) (nI m) (nI d)).1 (actS (w, c) (nI m) (nI d)).2 (gw1 M k) (k + 1) := by
  obtain ⟨hS, e1, e2, e3, e4, o1, o2, hl⟩ := h
  obtain ⟨l1, l2⟩ := hl hbad
  have hwhy := act_why hS.1 hm hd h6 ey
  rw [gw1, ea, ew]
  by_cases z : rsn c (nI m) (nI d) = 0
  · have hd6 : ¬ nI d = (6 : Int32) := fun q => h6 ((nI_eq (b := 6) (by omega) (by omega)).mp q)
    rw [if_pos (by rw [← hwhy]; exact z), actS_ok z hd6, ci hm (by decide)]
    have S2 := act_st (rs_gwB hS k (-6) (-6)) hm hd h6 (wy := wm_way M k) ey z
    obtain ⟨g1, g2, g3, g4, g5, g6, g7⟩ := gwB_v M k (-6) (-6)
    obtain ⟨s1, s2, s3⟩ := hpn_same (gwB M k (-6) (-6)) (aWh d) (nI m) (wm_way M k)
    have v9 : wm_badAct (hpn (gwB M k (-6) (-6)) (aWh d) (nI m) (wm_way M k)) = -6 := (s3 9 (by omega)).trans g1
    have v10 : wm_badWhy (hpn (gwB M k (-6) (-6)) (aWh d) (nI m) (wm_way M k)) = -6 := (s3 10 (by omega)).trans g2
    have hb2 : ∀ b, wk_bad (wk_s_acts (wkC w b) (wk_acts w + 1)) = -6 ∧ wk_reason (wk_s_acts (wkC w b) (wk_acts w + 1)) = -6 ∧ wk_acts (wk_s_acts (wkC w b) (wk_acts w + 1)) = nI (k + 1) ∧ wk_firstEmpty (wk_s_acts (wkC w b) (wk_acts w + 1)) = wk_firstEmpty (wkC w b) ∧ wk_empty (wk_s_acts (wkC w b) (wk_acts w + 1)) = wk_empty (wkC w b) := fun b =>
      ⟨(wkC_bad w b).1.trans (e1.trans hbad), (wkC_bad w b).2.trans l2, by show wk_acts w + 1 = nI (k + 1); rw [l1, nI_1], rfl, rfl⟩
    by_cases h5 : d = 5
    · subst h5
      have hh := hpn_2 (gwB M k (-6) (-6)) m hm (wm_way M k)
      have ea5 : aWh 5 = 2 := rfl
      rw [ea5] at S2 v9 v10 ⊢
      have hbm : bt (wm_men M) m = true := by rw [← hS.1.men]; exact rsn_0n hm (by decide) z
      obtain ⟨t, ht, et⟩ := hS.1.2.2.2.2.2.2.2.1 m hm
      have ec : wc_tents c m = nI t := ((hS.1.2.2.2.2.1 m hm hbm).1).trans et
      rw [ec, ci ht (by decide), decide_eq_true (show nI 5 = (5 : Int32) from rfl), Bool.true_and, hS.1.1 t ht]
      obtain ⟨b1, b2, b3, b4, b5⟩ := hb2 (decide (wm_ore M t = 0))
      have e67 : wm_firstNothing (hpn (gwB M k (-6) (-6)) 2 (nI m) (wm_way M k)) = (if wm_ore M t = 0 then (if 0 ≤ wm_firstNothing M then wm_firstNothing M else nI k) else wm_firstNothing M) ∧ wm_nothingMany (hpn (gwB M k (-6) (-6)) 2 (nI m) (wm_way M k)) = (if wm_ore M t = 0 then wm_nothingMany M + 1 else wm_nothingMany M) := by
        rw [hh, g6, et, ci ht (by decide), clH, g7]
        by_cases q : wm_ore M t = 0
        · rw [if_pos q, if_pos q, if_pos q, g3, g4, g5]; exact ⟨rfl, rfl⟩
        · rw [if_neg q, if_neg q, if_neg q]; exact ⟨rfl, rfl⟩
      refine ⟨S2, by rw [b1, v9], by rw [b2, v10], ?_, ?_, by rw [v9]; exact Or.inl rfl, ?_, fun _ => ⟨b3, b2⟩⟩
      · show wk_firstEmpty (wk_s_acts (wkC w (decide (wm_ore M t = 0))) (wk_acts w + 1)) = _
        rw [b4, e67.1]
        by_cases q : wm_ore M t = 0
        · rw [if_pos q, decide_eq_true q, (wkC_fe w).1, e3, l1]
          by_cases y : wm_firstNothing M = -6
          · rw [if_pos y, y, if_neg (by decide)]
          · rw [if_neg y, if_pos (by
              rcases o2 with u | ⟨a, ha, u⟩
              · exact absurd u y
              · rw [u]; exact nI_pos' (by omega))]
        · rw [if_neg q, decide_eq_false q, wkC_f, e3]
      · show wk_empty (wk_s_acts (wkC w (decide (wm_ore M t = 0))) (wk_acts w + 1)) = _
        rw [b5, e67.2]
        by_cases q : wm_ore M t = 0
        · rw [if_pos q, decide_eq_true q, (wkC_fe w).2, e4]
        · rw [if_neg q, decide_eq_false q, wkC_f, e4]
      · rw [e67.1]
        by_cases q : wm_ore M t = 0
        · rw [if_pos q]
          by_cases y : 0 ≤ wm_firstNothing M
          · rw [if_pos y]; exact o2
          · rw [if_neg y]; exact Or.inr ⟨k, by omega, rfl⟩
        · rw [if_neg q]; exact o2
    · have n5 : ¬ nI d = (5 : Int32) := fun q => h5 ((nI_eq (b := 5) (by omega) (by omega)).mp q)
      have n2 : ¬ aWh d = 2 := by
        rcases d_cases hd h6 with z | rfl | rfl | rfl | rfl
        · rw [aWh, if_pos z]; decide
        · decide
        · exact absurd rfl h5
        · decide
        · decide
      rw [decide_eq_false n5, Bool.false_and]
      obtain ⟨b1, b2, b3, b4, b5⟩ := hb2 false
      have v6 : wm_firstNothing (hpn (gwB M k (-6) (-6)) (aWh d) (nI m) (wm_way M k)) = wm_firstNothing M := (hpn_v n2 6 (by omega)).trans g3
      have v7 : wm_nothingMany (hpn (gwB M k (-6) (-6)) (aWh d) (nI m) (wm_way M k)) = wm_nothingMany M := (hpn_v n2 7 (by omega)).trans g4
      exact ⟨S2, by rw [b1, v9], by rw [b2, v10], by rw [b4, wkC_f, v6, e3], by rw [b5, wkC_f, v7, e4], by rw [v9]; exact Or.inl rfl, by rw [v6]; exact o2, fun _ => ⟨b3, b2⟩⟩
  · rw [if_neg (by rw [← hwhy]; exact z), actS_bad z]
    refine ⟨rs_gwB hS k _ _, ?_, ?_, e3, e4, Or.inr ⟨k, by omega, rfl⟩, o2, fun q => absurd q (nt_n6 k (by omega))⟩
    · show wk_acts w = nI k
      exact l1
    · show rsn c (nI m) (nI d) = whyF M (aWh d) (nI m) (wm_way M k)
      exact hwhy
theorem hpn_vs {X : Mod} {what x wy : Int32} (h2 : ¬ what = 2) : wm_badAct (hpn X what x wy) = wm_badAct X ∧ wm_badWhy (hpn X what x wy) = wm_badWhy X ∧ wm_firstNothing (hpn X what x wy) = wm_firstNothing X ∧ wm_nothingMany (hpn X what x wy) = wm_nothingMany X :=
  ⟨hpn_v h2 9 (by omega), hpn_v h2 10 (by omega), hpn_v h2 6 (by omega), hpn_v h2 7 (by omega)⟩
theorem wk_nightF {w : Week} {c C : Camp} {M N : Mod} {k : Nat} (h : RW w c M k) (hbad : wm_badAct M = -6) (S2 : RS C N) (v9 : wm_badAct N = -6) (v10 : wm_badWhy N = -6) (v6 : wm_firstNothing N = wm_firstNothing M) (v7 : wm_nothingMany N = wm_nothingMany M) : RW (wk_s_acts w (wk_acts w + 1)) C N (k + 1) := by
  obtain ⟨hS, e1, e2, e3, e4, o1, o2, hl⟩ := h
  obtain ⟨l1, l2⟩ := hl hbad
  refine ⟨S2, ?_, ?_, ?_, ?_, by rw [v9]; exact Or.inl rfl, by rw [v6]; exact o2, fun _ => ⟨?_, ?_⟩⟩
  · rw [v9]; exact e1.trans hbad
  · rw [v10]; exact l2
  · rw [v6]; exact e3
  · rw [v7]; exact e4
  · show wk_acts w + 1 = nI (k + 1)
    rw [l1, nI_1]
  · exact l2
theorem wk_night {w : Week} {c : Camp} {M : Mod} {k : Nat} (x : Int32) (h : RW w c M k) (hbad : wm_badAct M = -6) (ea : wm_act M k = 5) : RW (actS (w, c) x 6).1 (actS (w, c) x 6).2 (gw1 M k) (k + 1) := by
  rw [gw1, ea, if_pos (by rw [whyF, if_pos rfl]), actS_n]
  have S2 := st_night (rs_gwB h.1 k (-6) (-6)) (wm_who M k) (wm_way M k)
  obtain ⟨g1, g2, g3, g4, -, -, -⟩ := gwB_v M k (-6) (-6)
  obtain ⟨v1, v2, v3, v4⟩ := hpn_vs (X := gwB M k (-6) (-6)) (what := 5) (x := wm_who M k) (wy := wm_way M k) (by decide)
  exact wk_nightF h hbad S2 (v1.trans g1) (v2.trans g2) (v3.trans g3) (v4.trans g4)
/-! the acts of the text -/
def cA (p : Nat → Int32) : Nat → Nat
  | 0 => 0
  | j + 1 => cA p j + (if nmd p j = true ∨ p j = 46 then 1 else 0)
theorem cA_le (p : Nat → Int32) : ∀ d j, cA p j ≤ cA p (j + d)
  | 0, j => Nat.le_refl _
  | d + 1, j => by
    have := cA_le p d j
    rw [show j + (d + 1) = (j + d) + 1 by omega, cA]
    omega
theorem cA_mono {p : Nat → Int32} {i j : Nat} (h : i ≤ j) : cA p i ≤ cA p j := by
  have := cA_le p (j - i) i
  rwa [show i + (j - i) = j by omega] at this
theorem cA_bd (p : Nat → Int32) : ∀ j, cA p j ≤ j
  | 0 => Nat.le_refl _
  | j + 1 => by
    have := cA_bd p j
    rw [cA]
    by_cases z : nmd p j = true ∨ p j = 46
    · rw [if_pos z]; omega
    · rw [if_neg z]; omega
def PA (p : Nat → Int32) (n : Nat) (A : Mod) : Prop := ∀ j, j < n → (nmd p j = true → wm_act A (cA p j) = dA (p j) ∧ wm_way A (cA p j) = dW (p j) ∧ wm_who A (cA p j) = p (j - 1) - 65) ∧ (nmd p j = false → p j = 46 → wm_act A (cA p j) = 5)
theorem PA.of {p : Nat → Int32} {n : Nat} {A B : Mod} (e1 : wm_act A = wm_act B) (e2 : wm_who A = wm_who B) (e3 : wm_way A = wm_way B) (h : PA p n B) : PA p n A := by
  intro j hj
  rw [e1, e2, e3]
  exact h j hj
theorem dd_of {x : Int32} (h : isDd x = true) : ∃ d, d < 9 ∧ d ≠ 6 ∧ ddB x = nI d ∧ dA x = aWh d ∧ (d < 4 → dW x = nI d) := by
  by_cases h1 : x = 42
  · subst h1; exact ⟨7, by decide, by decide, by decide +kernel, by decide +kernel, by decide⟩
  by_cases h2 : x = 99
  · subst h2; exact ⟨5, by decide, by decide, by decide +kernel, by decide +kernel, by decide⟩
  by_cases h3 : x = 100
  · subst h3; exact ⟨4, by decide, by decide, by decide +kernel, by decide +kernel, by decide⟩
  by_cases h4 : x = 101
  · subst h4; exact ⟨1, by decide, by decide, by decide +kernel, by decide +kernel, fun _ => by decide +kernel⟩
  by_cases h5 : x = 110
  · subst h5; exact ⟨0, by decide, by decide, by decide +kernel, by decide +kernel, fun _ => by decide +kernel⟩
  by_cases h6 : x = 115
  · subst h6; exact ⟨2, by decide, by decide, by decide +kernel, by decide +kernel, fun _ => by decide +kernel⟩
  by_cases h7 : x = 119
  · subst h7; exact ⟨3, by decide, by decide, by decide +kernel, by decide +kernel, fun _ => by decide +kernel⟩
  by_cases h8 : x = 126
  · subst h8; exact ⟨8, by decide, by decide, by decide +kernel, by decide +kernel, by decide⟩
  rw [isDd_f h1 h2 h3 h4 h5 h6 h7 h8] at h
  exact Bool.noConfusion h
theorem plr_n {p : Nat → Int32} {n r j : Nat} {s : Week × Camp} (hj : j + (r + 1) = n) (e : p j = 46) (hb : wk_bad s.1 = -6) : plr p n (r + 1) s = plr p n r (actS s (-1) 6) := by
  cases r with
  | zero =>
    show (if wk_bad s.1 = -6 then (if p (n - 1) = 46 then actS s (-1) 6 else s) else s) = actS s (-1) 6
    rw [if_pos hb, show n - 1 = j by omega, if_pos e]
  | succ r => rw [plr, if_pos hb, show n - (r + 2) = j by omega, if_pos e]
theorem plr_m {p : Nat → Int32} {n r j : Nat} {s : Week × Camp} (hj : j + (r + 2) = n) (e : ¬ p j = 46) (hb : wk_bad s.1 = -6) : plr p n (r + 2) s = plr p n r (actS s (p j - 65) (ddB (p (j + 1)))) := by
  rw [plr, if_pos hb, show n - (r + 2) = j by omega, if_neg e]
theorem plr_b {p : Nat → Int32} {n : Nat} {s : Week × Camp} (hb : ¬ wk_bad s.1 = -6) : ∀ r, plr p n r s = s
  | 0 => by rw [plr]
  | 1 => by rw [plr, if_neg hb]
  | r + 2 => by rw [plr, if_neg hb]
theorem gws_b {M : Mod} (h : ¬ wm_badAct M < 0) (K : Nat) : ∀ r, gws K r M = M
  | 0 => rfl
  | r + 1 => by rw [gws, if_neg h]
theorem gws_s {M : Mod} {K k : Nat} (hk : k < K) (h : wm_badAct M < 0) : gws K (K - k) M = gws K (K - (k + 1)) (gw1 M k) := by
  obtain ⟨r, hr⟩ : ∃ r, K - k = r + 1 := ⟨K - k - 1, by omega⟩
  rw [hr, gws, if_pos h, show K - (r + 1) = k by omega, show K - (k + 1) = r by omega]
theorem sim {p : Nat → Int32} {n : Nat} (hn : n ≤ 60) : ∀ (r j : Nat) (w : Week) (c : Camp) (M : Mod), j + r = n → nmd p j = false → ffd p n r = -6 → PA p n M → RW w c M (cA p j) → RW (plr p n r (w, c)).1 (plr p n r (w, c)).2 (gws (cA p n) (cA p n - cA p j) M) (cA p n)
  | 0, j, w, c, M, hj, hm, hf, hA, h => by
    have e : j = n := by omega
    subst e
    rw [plr, Nat.sub_self, gws]
    exact h
  | r + 1, j, w, c, M, hj, hm, hf, hA, h => by
    by_cases hb : wm_badAct M = -6
    · have hb' : wk_bad (w, c).1 = -6 := h.2.1.trans hb
      have hlt : wm_badAct M < 0 := by rw [hb]; decide
      by_cases e : p j = 46
      · obtain ⟨f1, f2⟩ := ffd_night hj hf hm (by omega) e
        have ec : cA p (j + 1) = cA p j + 1 := by rw [cA, if_pos (Or.inr e)]
        have hle := cA_mono (p := p) (show j + 1 ≤ n by omega)
        have A2 : PA p n (gw1 M (cA p j)) := hA.of ((gw1_same M _).1 12 (by omega)) ((gw1_same M _).1 13 (by omega)) ((gw1_same M _).1 14 (by omega))
        have h2 := wk_night (-1) h hb ((hA j (by omega)).2 hm e)
        rw [← ec] at h2
        rw [plr_n hj e hb', gws_s (by omega) hlt, ← ec]
        exact sim hn r (j + 1) _ _ _ (by omega) f2 f1 A2 h2
      · obtain ⟨f1, r2, hr2, f2, f3, f4⟩ := ffd_man hj hf hm (by omega) e
        subst hr2
        have hm1 : nmd p (j + 1) = true := by rw [nmd, hm, decide_eq_false e]; rfl
        have ec0 : cA p (j + 1) = cA p j := by rw [cA, if_neg (fun z => z.elim (fun q => by rw [hm] at q; exact Bool.noConfusion q) e)]; rfl
        have ec : cA p (j + 1 + 1) = cA p j + 1 := by rw [cA, if_pos (Or.inl hm1), ec0]
        have hle := cA_mono (p := p) (show j + 1 + 1 ≤ n by omega)
        have A2 : PA p n (gw1 M (cA p j)) := hA.of ((gw1_same M _).1 12 (by omega)) ((gw1_same M _).1 13 (by omega)) ((gw1_same M _).1 14 (by omega))
        obtain ⟨q1, q2, q3⟩ := (hA (j + 1) (by omega)).1 hm1
        rw [ec0] at q1 q2 q3
        obtain ⟨m, hm6, em⟩ := isM_t f1
        obtain ⟨d, d1, d2, d3, d4, d5⟩ := dd_of f2
        have hk : cA p j < 60 := by
          have := cA_bd p j
          omega
        have h2 := wk_man h hk hb hm6 d1 d2 (q1.trans d4) (by rw [q3, Nat.add_sub_cancel, em]) (fun z => by rw [q2]; exact d5 z)
        rw [← ec] at h2
        rw [plr_m hj e hb', em, d3, gws_s (by omega) hlt, ← ec]
        exact sim hn r2 (j + 1 + 1) _ _ _ (by omega) f4 f3 A2 h2
    · have hb' : ¬ wk_bad (w, c).1 = -6 := fun z => hb (h.2.1.symm.trans z)
      rw [plr_b hb', gws_b (fun z => hb (h.2.2.2.2.2.1.neg.mp z))]
      obtain ⟨a1, a2, a3, a4, a5, a6, a7, -⟩ := h
      exact ⟨a1, a2, a3, a4, a5, a6, a7, fun z => absurd z hb⟩
