/-! THE PAIR: acts -/
theorem RC.of {c : Camp} {A B : Mod} (e0 : wm_ore A = wm_ore B) (e1 : wm_owner A = wm_owner B) (e2 : wm_men A = wm_men B) (e3 : wm_tent A = wm_tent B) (e4 : wm_salt A = wm_salt B) (e5 : wm_knows A = wm_knows B) (e6 : wm_cold A = wm_cold B) (e7 : wm_whistles A = wm_whistles B) (h : RC c B) : RC c A := by
  obtain ⟨hg, ho, hm, hl, hp, hs, hT, hT2, hc, hw⟩ := h
  refine ⟨by rw [e0]; exact hg, by rw [e1, e2]; exact ho, by rw [e2]; exact hm, by rw [e2]; exact hl, by rw [e2, e3, e4, e5, e6, e7]; exact hp, by rw [e2]; exact hs, hT, by rw [e3]; exact hT2, by rw [e6]; exact hc, by rw [e7]; exact hw.1, by rw [e0]; exact hw.2⟩
def RS (c : Camp) (M : Mod) : Prop := RC c M ∧ wc_womans c = wm_womans M
theorem rsn_n {c : Camp} {m : Nat} {d : Int32} (hm : m < 6) (h6 : ¬ d = 6) : rsn c (nI m) d = if bt (wc_men c) m = true then (if stF (wc_tents c m) d = -6 then 2 else if d = 4 ∧ kb (wc_known c m) (wc_tents c m).toNatClampNeg = true then 3 else if d = 5 ∧ ¬ wc_claimers c (wc_tents c m).toNatClampNeg = -1 then 4 else 0) else 1 := by
  rw [rsn, if_neg h6, hasB_n hm, ci hm (by decide)]
theorem whyF_n {c : Mod} {m : Nat} {w wy : Int32} (hm : m < 6) (h5 : ¬ w = 5) : whyF c w (nI m) wy = if bt (wm_men c) m = true then (if w = 0 then (if canG (wm_tent c m) wy then 0 else 2) else if w = 1 then (if kb (wm_knows c m) (wm_tent c m).toNatClampNeg then 3 else 0) else if w = 2 then (if wm_owner c (wm_tent c m).toNatClampNeg < 0 then 0 else 4) else 0) else 1 := by
  rw [whyF, if_neg h5, hasB_n hm, ci hm (by decide)]
theorem go_all : ∀ q, q < 4 → ∀ t, t < 64 → (stF (nI t) (nI q) = -6 ↔ canG (nI t) (nI q) = false) ∧ (canG (nI t) (nI q) = true → stF (nI t) (nI q) = nI t + (8 * noB (nI q) + eaB (nI q))) := by decide +kernel
theorem d4_ne : ∀ q, q < 4 → ¬ nI q = (6 : Int32) ∧ ¬ nI q = (4 : Int32) ∧ ¬ nI q = (5 : Int32) ∧ ¬ nI q = (7 : Int32) ∧ ¬ nI q = (8 : Int32) := by decide
theorem stF_id {x d : Int32} (h0 : ¬ d = 0) (h1 : ¬ d = 1) (h2 : ¬ d = 2) (h3 : ¬ d = 3) : stF x d = x := by rw [stF, if_neg h0, if_neg h1, if_neg h2, if_neg h3]
theorem nt_n6 : ∀ t, t < 64 → ¬ nI t = (-6 : Int32) := by decide
theorem wy_go {c : Camp} {M : Mod} (h : RC c M) {m q : Nat} (hm : m < 6) (hq : q < 4) : rsn c (nI m) (nI q) = whyF M 0 (nI m) (nI q) := by
  obtain ⟨n6, n4, n5, -, -⟩ := d4_ne q hq
  rw [rsn_n hm n6, whyF_n hm (by decide), h.men, if_pos rfl]
  by_cases hb : bt (wm_men M) m = true
  · rw [if_pos hb, if_pos hb]
    obtain ⟨p1, -, -, -, -⟩ := h.2.2.2.2.1 m hm hb
    obtain ⟨t, ht, et⟩ := h.2.2.2.2.2.2.2.1 m hm
    rw [p1, et, if_neg (show ¬ (nI q = 4 ∧ _) from fun z => n4 z.1), if_neg (show ¬ (nI q = 5 ∧ _) from fun z => n5 z.1)]
    have g := (go_all q hq t ht).1
    by_cases z : canG (nI t) (nI q) = true
    · rw [if_pos z, if_neg (fun y => by rw [g.mp y] at z; exact Bool.noConfusion z)]
    · rw [if_neg z, if_pos (g.mpr (nff z))]
  · rw [if_neg hb, if_neg hb]
theorem wy_dig {c : Camp} {M : Mod} (h : RC c M) {m : Nat} {wy : Int32} (hm : m < 6) : rsn c (nI m) 4 = whyF M 1 (nI m) wy := by
  rw [rsn_n hm (by decide), whyF_n hm (by decide), h.men, if_neg (show ¬ (1 : Int32) = 0 by decide), if_pos rfl]
  by_cases hb : bt (wm_men M) m = true
  · rw [if_pos hb, if_pos hb]
    obtain ⟨p1, -, p3, -, -⟩ := h.2.2.2.2.1 m hm hb
    obtain ⟨t, ht, et⟩ := h.2.2.2.2.2.2.2.1 m hm
    rw [p1, p3, et, stF_id (by decide) (by decide) (by decide) (by decide), if_neg (nt_n6 t ht), if_neg (show ¬ ((4 : Int32) = 5 ∧ _) from fun z => absurd z.1 (by decide))]
    by_cases z : kb (wm_knows M m) (nI t).toNatClampNeg = true
    · rw [if_pos ⟨rfl, z⟩, if_pos z]
    · rw [if_neg (fun y => z y.2), if_neg z]
  · rw [if_neg hb, if_neg hb]
theorem wy_cl {c : Camp} {M : Mod} (h : RC c M) {m : Nat} {wy : Int32} (hm : m < 6) : rsn c (nI m) 5 = whyF M 2 (nI m) wy := by
  rw [rsn_n hm (by decide), whyF_n hm (by decide), h.men, if_neg (show ¬ (2 : Int32) = 0 by decide), if_neg (show ¬ (2 : Int32) = 1 by decide), if_pos rfl]
  by_cases hb : bt (wm_men M) m = true
  · rw [if_pos hb, if_pos hb]
    obtain ⟨p1, -, p3, -, -⟩ := h.2.2.2.2.1 m hm hb
    obtain ⟨t, ht, et⟩ := h.2.2.2.2.2.2.2.1 m hm
    rw [p1, et, stF_id (by decide) (by decide) (by decide) (by decide), if_neg (nt_n6 t ht), if_neg (show ¬ ((5 : Int32) = 4 ∧ _) from fun z => absurd z.1 (by decide)), ci ht (by decide)]
    rcases h.2.1 t ht with ⟨e1, e2⟩ | ⟨q, hq, -, e1, e2⟩
    · rw [e1, e2, if_neg (fun z => z.2 rfl), if_pos (by decide)]
    · rw [e1, e2, if_pos ⟨rfl, (n1_ne q hq).2.2.1⟩, if_neg (n1_ne q hq).2.2.2.2]
  · rw [if_neg hb, if_neg hb]
theorem wy_ot {c : Camp} {M : Mod} (h : RC c M) {m : Nat} {d w wy : Int32} (hm : m < 6) (hd : d = 7 ∨ d = 8) (hw : w = 3 ∨ w = 4) : rsn c (nI m) d = whyF M w (nI m) wy := by
  have h0 : ¬ d = 6 ∧ ¬ d = 4 ∧ ¬ d = 5 ∧ ¬ d = 0 ∧ ¬ d = 1 ∧ ¬ d = 2 ∧ ¬ d = 3 := by rcases hd with rfl | rfl <;> decide
  have h1 : ¬ w = 5 ∧ ¬ w = 0 ∧ ¬ w = 1 ∧ ¬ w = 2 := by rcases hw with rfl | rfl <;> decide
  rw [rsn_n hm h0.1, whyF_n hm h1.1, h.men, if_neg h1.2.1, if_neg h1.2.2.1, if_neg h1.2.2.2]
  by_cases hb : bt (wm_men M) m = true
  · rw [if_pos hb, if_pos hb]
    obtain ⟨p1, -, p3, -, -⟩ := h.2.2.2.2.1 m hm hb
    obtain ⟨t, ht, et⟩ := h.2.2.2.2.2.2.2.1 m hm
    rw [p1, et, stF_id h0.2.2.2.1 h0.2.2.2.2.1 h0.2.2.2.2.2.1 h0.2.2.2.2.2.2, if_neg (nt_n6 t ht), if_neg (fun z => h0.2.1 z.1), if_neg (fun z => h0.2.2.1 z.1)]
  · rw [if_neg hb, if_neg hb]
theorem rsn_0n {c : Camp} {m : Nat} {d : Int32} (hm : m < 6) (h6 : ¬ d = 6) (h : rsn c (nI m) d = 0) : bt (wc_men c) m = true := by
  rw [rsn_n hm h6] at h
  by_cases hb : bt (wc_men c) m = true
  · exact hb
  · rw [if_neg hb] at h; exact absurd h (by decide)
/-! what comes of each act -/
theorem hpn_0 (c : Mod) (m : Nat) (hm : m < 6) (wy : Int32) : hpn c 0 (nI m) wy = wm_s_tent c (upd (wm_tent c) m (wm_tent c m + (8 * noB wy + eaB wy))) := by rw [hpn, if_pos rfl, ci hm (by decide)]
theorem hpn_1 (c : Mod) (m : Nat) (hm : m < 6) (wy : Int32) : hpn c 1 (nI m) wy = wm_s_knows c (vp_updL (wm_knows c) m (wm_knows c m ||| bL (wm_tent c m).toNatClampNeg)) := by rw [hpn, if_neg (by decide), if_pos rfl, ci hm (by decide)]
theorem hpn_2 (c : Mod) (m : Nat) (hm : m < 6) (wy : Int32) : hpn c 2 (nI m) wy = clH c m (wm_tent c m).toNatClampNeg := by rw [hpn, if_neg (by decide), if_neg (by decide), if_pos rfl, ci hm (by decide)]
theorem hpn_3 (c : Mod) (m : Nat) (hm : m < 6) (wy : Int32) : hpn c 3 (nI m) wy = wm_s_cold c (upd (wm_cold c) m (1 - wm_cold c m)) := by rw [hpn, if_neg (by decide), if_neg (by decide), if_neg (by decide), if_pos rfl, ci hm (by decide)]
theorem hpn_4 (c : Mod) (m : Nat) (hm : m < 6) (wy : Int32) : hpn c 4 (nI m) wy = wm_s_whistles c (upd (wm_whistles c) m (1 - wm_whistles c m)) := by rw [hpn, if_neg (by decide), if_neg (by decide), if_neg (by decide), if_neg (by decide), if_pos rfl, ci hm (by decide)]
theorem hpn_5 (c : Mod) (x wy : Int32) : hpn c 5 x wy = ngM c 6 := by rw [hpn, if_neg (by decide), if_neg (by decide), if_neg (by decide), if_neg (by decide), if_neg (by decide)]
theorem pfm_m {c : Camp} {m : Nat} {d : Int32} (h4 : ¬ d = 4) (h5 : ¬ d = 5) (h7 : ¬ d = 7) (h8 : ¬ d = 8) : pfm c m d = mvT c m d := by rw [pfm, if_neg h4, if_neg h5, if_neg h7, if_neg h8]
theorem pfm_4 (c : Camp) (m : Nat) : pfm c m 4 = stK (mvT c m 4) m (wc_tents c m).toNatClampNeg true := by rw [pfm, if_pos rfl]
theorem pfm_5 (c : Camp) (m : Nat) : pfm c m 5 = wc_s_claimers (mvT c m 5) (upd (wc_claimers c) (wc_tents c m).toNatClampNeg (nI m)) := by rw [pfm, if_neg (by decide), if_pos rfl]
theorem pfm_7 (c : Camp) (m : Nat) : pfm c m 7 = wc_s_withCold (mvT c m 7) (wc_withCold c ^^^ bW m) := by rw [pfm, if_neg (by decide), if_neg (by decide), if_pos rfl]
theorem pfm_8 (c : Camp) (m : Nat) : pfm c m 8 = wc_s_whistling (mvT c m 8) (wc_whistling c ^^^ bW m) := by rw [pfm, if_neg (by decide), if_neg (by decide), if_neg (by decide), if_pos rfl]
theorem mvT_id {c : Camp} {m : Nat} {d : Int32} (h0 : ¬ d = 0) (h1 : ¬ d = 1) (h2 : ¬ d = 2) (h3 : ¬ d = 3) : mvT c m d = c := by
  rw [mvT, stF_id h0 h1 h2 h3, upd_id]
  rfl
theorem st_go {c : Camp} {M : Mod} (h : RS c M) {m q : Nat} (hm : m < 6) (hq : q < 4) (hr : rsn c (nI m) (nI q) = 0) : RS (pfm c m (nI q)) (hpn M 0 (nI m) (nI q)) := by
  obtain ⟨n6, n4, n5, n7, n8⟩ := d4_ne q hq
  have hbm := rsn_0n hm n6 hr
  obtain ⟨h, hwo⟩ := h
  have hbm2 : bt (wm_men M) m = true := by rw [← h.men]; exact hbm
  have hr2 := hr
  rw [wy_go h hm hq, whyF_n hm (by decide), if_pos hbm2, if_pos rfl] at hr2
  obtain ⟨t, ht, et⟩ := h.2.2.2.2.2.2.2.1 m hm
  rw [et] at hr2
  have hc : canG (nI t) (nI q) = true := by
    by_cases z : canG (nI t) (nI q) = true
    · exact z
    · rw [if_neg z] at hr2; exact absurd hr2 (by decide)
  have hst := (go_all q hq t ht).2 hc
  obtain ⟨t2, ht2, et2⟩ := canG_ok ht hc
  rw [pfm_m n4 n5 n7 n8, hpn_0 M m hm, mvT, (h.2.2.2.2.1 m hm hbm2).1, et, hst, et2]
  obtain ⟨hg, ho, hmm, hl, hp, hs, hT, hT2, hco, hw⟩ := h
  refine ⟨⟨hg, ho, hmm, hl, fun i hi hbi => ?_, hs, fun i hi => ?_, fun i hi => ?_, hco, hw⟩, hwo⟩
  · obtain ⟨p1, p2, p3, p4, p5⟩ := hp i hi hbi
    refine ⟨?_, p2, p3, p4, p5⟩
    show upd (wc_tents c) m (nI t2) i = upd (wm_tent M) m (nI t2) i
    by_cases e : i = m
    · subst e; rw [pk_us, pk_us]
    · rw [pk_un e, pk_un e]; exact p1
  · show ∃ t, t < 64 ∧ upd (wc_tents c) m (nI t2) i = nI t
    by_cases e : i = m
    · subst e; exact ⟨t2, ht2, pk_us⟩
    · rw [pk_un e]; exact hT i hi
  · show ∃ t, t < 64 ∧ upd (wm_tent M) m (nI t2) i = nI t
    by_cases e : i = m
    · subst e; exact ⟨t2, ht2, pk_us⟩
    · rw [pk_un e]; exact hT2 i hi
theorem st_dig {c : Camp} {M : Mod} (h : RS c M) {m : Nat} {wy : Int32} (hm : m < 6) (hr : rsn c (nI m) 4 = 0) : RS (pfm c m 4) (hpn M 1 (nI m) wy) := by
  have hbm := rsn_0n hm (by decide) hr
  obtain ⟨h, hwo⟩ := h
  have hbm2 : bt (wm_men M) m = true := by rw [← h.men]; exact hbm
  rw [pfm_4, mvT_id (by decide) (by decide) (by decide) (by decide), hpn_1 M m hm, (h.2.2.2.2.1 m hm hbm2).1]
  exact ⟨rc_know h hm hbm2 true, hwo⟩
theorem st_cl {c : Camp} {M : Mod} (h : RS c M) {m : Nat} {wy : Int32} (hm : m < 6) (hr : rsn c (nI m) 5 = 0) : RS (pfm c m 5) (hpn M 2 (nI m) wy) := by
  have hbm := rsn_0n hm (by decide) hr
  obtain ⟨h, hwo⟩ := h
  have hbm2 : bt (wm_men M) m = true := by rw [← h.men]; exact hbm
  rw [pfm_5, mvT_id (by decide) (by decide) (by decide) (by decide), hpn_2 M m hm, (h.2.2.2.2.1 m hm hbm2).1]
  have R := rc_claim (j := (wm_tent M m).toNatClampNeg) (y := nI m) h (Or.inr (by rw [hasB_n hm]; exact hbm2))
  rw [if_neg (n1_ne m hm).2.2.1] at R
  rw [clH]
  by_cases z : wm_ore M (wm_tent M m).toNatClampNeg = 0
  · rw [if_pos z]
    exact ⟨R.of rfl rfl rfl rfl rfl rfl rfl rfl, hwo⟩
  · rw [if_neg z]
    exact ⟨R, hwo⟩
theorem dec1m {x : Int32} (h : x = 0 ∨ x = 1) : decide (1 - x = 1) = !decide (x = 1) ∧ (1 - x = 0 ∨ 1 - x = 1) := by rcases h with rfl | rfl <;> decide
theorem st_cold {c : Camp} {M : Mod} (h : RS c M) {m : Nat} {wy : Int32} (hm : m < 6) : RS (pfm c m 7) (hpn M 3 (nI m) wy) := by
  obtain ⟨h, hwo⟩ := h
  rw [pfm_7, mvT_id (by decide) (by decide) (by decide) (by decide), hpn_3 M m hm]
  obtain ⟨hg, ho, hmm, hl, hp, hs, hT, hT2, hco, hw⟩ := h
  have d := dec1m (hco m hm)
  refine ⟨⟨hg, ho, hmm, hl, fun i hi hbi => ?_, hs, hT, hT2, fun i hi => ?_, hw⟩, hwo⟩
  · obtain ⟨p1, p2, p3, p4, p5⟩ := hp i hi hbi
    refine ⟨p1, p2, p3, ?_, p5⟩
    show bt (wc_withCold c ^^^ bW m) i = decide (upd (wm_cold M) m (1 - wm_cold M m) i = 1)
    rw [bt_tog (show m < 32 by omega) (show i < 32 by omega), p4]
    by_cases e : i = m
    · subst e; rw [pk_us, d.1, decide_eq_true rfl]; cases decide (wm_cold M i = 1) <;> rfl
    · rw [pk_un e, decide_eq_false e]; cases decide (wm_cold M i = 1) <;> rfl
  · show upd (wm_cold M) m (1 - wm_cold M m) i = 0 ∨ upd (wm_cold M) m (1 - wm_cold M m) i = 1
    by_cases e : i = m
    · subst e; rw [pk_us]; exact d.2
    · rw [pk_un e]; exact hco i hi
theorem st_whis {c : Camp} {M : Mod} (h : RS c M) {m : Nat} {wy : Int32} (hm : m < 6) : RS (pfm c m 8) (hpn M 4 (nI m) wy) := by
  obtain ⟨h, hwo⟩ := h
  rw [pfm_8, mvT_id (by decide) (by decide) (by decide) (by decide), hpn_4 M m hm]
  obtain ⟨hg, ho, hmm, hl, hp, hs, hT, hT2, hco, hw⟩ := h
  have d := dec1m (hw.1 m hm)
  refine ⟨⟨hg, ho, hmm, hl, fun i hi hbi => ?_, hs, hT, hT2, hco, fun i hi => ?_, hw.2⟩, hwo⟩
  · obtain ⟨p1, p2, p3, p4, p5⟩ := hp i hi hbi
    refine ⟨p1, p2, p3, p4, ?_⟩
    show bt (wc_whistling c ^^^ bW m) i = decide (upd (wm_whistles M) m (1 - wm_whistles M m) i = 1)
    rw [bt_tog (show m < 32 by omega) (show i < 32 by omega), p5]
    by_cases e : i = m
    · subst e; rw [pk_us, d.1, decide_eq_true rfl]; cases decide (wm_whistles M i = 1) <;> rfl
    · rw [pk_un e, decide_eq_false e]; cases decide (wm_whistles M i = 1) <;> rfl
  · show upd (wm_whistles M) m (1 - wm_whistles M m) i = 0 ∨ upd (wm_whistles M) m (1 - wm_whistles M m) i = 1
    by_cases e : i = m
    · subst e; rw [pk_us]; exact d.2
    · rw [pk_un e]; exact hw.1 i hi
/-! a night -/
theorem kb_and (x y : Int64) (i : Nat) : kb (x &&& y) i = (kb x i && kb y i) := by simp [kb]
theorem gn_eq {c : Camp} {M : Mod} (h : RC c M) {m : Nat} (hm : m < 6) : gnC c m = gnF M m 64 := by
  rw [gnC, gnF, gsum]
  refine isum_cong (fun j hj => ?_)
  rw [kb_and, clB_kb hj 64 (Nat.le_refl 64), hasB_n hm, decide_eq_true hj, Bool.true_and]
  rcases h.2.1 j hj with ⟨e1, e2⟩ | ⟨q, hq, b, e1, e2⟩
  · rw [e1, e2, if_neg (by rw [decide_eq_false (n1_ne m hm).1]; simp), if_neg (fun z => (n1_ne m hm).2.1 z.2.1)]
  · rw [e1, e2]
    by_cases e : q = m
    · subst e
      rw [(h.2.2.2.2.1 q hm b).2.2.1, h.1 j hj, b]
      by_cases z : kb (wm_knows M q) j = true
      · rw [if_pos (by rw [z]; simp), if_pos ⟨rfl, rfl, z⟩]
      · rw [if_neg (fun y => z (by simpa using y)), if_neg (fun y => z y.2.2)]
    · have e' : ¬ nI q = nI m := fun z => e ((nI_eq (by omega) (by omega)).mp z)
      rw [if_neg (by rw [decide_eq_false e']; simp), if_neg (fun z => e' z.2.1)]
theorem gn_no {c : Camp} {M : Mod} (h : RC c M) {m : Nat} (hm : m < 6) (hb : ¬ bt (wm_men M) m = true) : gnC c m = 0 := by
  rw [gn_eq h hm, gnF]
  have : ∀ n, isum (fun j => if hasB (wm_men M) (nI m) = true ∧ wm_owner M j = nI m ∧ kb (wm_knows M m) j = true then wm_ore M j else 0) n = 0 := by
    intro n
    induction n with
    | zero => rfl
    | succ n ih => rw [isum, ih, if_neg (fun z => hb (by rw [← hasB_n hm]; exact z.1))]; rfl
  exact this 64
theorem cap_eq (x : Int32) : (if x < 999 then x else 999) = (if x ≤ 999 then x else 999) := by
  by_cases a : x < 999
  · rw [if_pos a, if_pos (Int32.le_of_lt a)]
  · rw [if_neg a]
    by_cases b : x ≤ 999
    · rw [if_pos b]; exact (Int32.le_antisymm b (i_nlt a)).symm
    · rw [if_neg b]
def nSal (s : Nat → Int32) (g : Nat → Int32) : Nat → Nat → Int32
  | 0 => s
  | n + 1 => upd (nSal s g n) n (if nSal s g n n + g n - g n / 10 < 999 then nSal s g n n + g n - g n / 10 else 999)
theorem nSal_at (s g : Nat → Int32) : ∀ n m, nSal s g n m = if m < n then (if s m + g m - g m / 10 < 999 then s m + g m - g m / 10 else 999) else s m
  | 0, m => by rw [nSal, if_neg (by omega)]
  | n + 1, m => by
    have e : nSal s g n n = s n := by rw [nSal_at s g n n, if_neg (by omega)]
    rw [nSal, e]
    by_cases h : m = n
    · subst h; rw [pk_us, if_pos (show m < m + 1 by omega)]
    · rw [pk_un h, nSal_at s g n m]
      by_cases z : m < n
      · rw [if_pos z, if_pos (show m < n + 1 by omega)]
      · rw [if_neg z, if_neg (show ¬ m < n + 1 by omega)]
theorem ngt_salts (c : Camp) : ∀ n, wc_salts (ngt c n) = nSal (wc_salts c) (gnC c) n
  | 0 => rfl
  | n + 1 => by
    have e : wc_salts (ngt c (n + 1)) = upd (wc_salts (ngt c n)) n (if wc_salts (ngt c n) n + gnC c n - gnC c n / 10 < 999 then wc_salts (ngt c n) n + gnC c n - gnC c n / 10 else 999) := by rw [ngt]; rfl
    rw [e, ngt_salts c n, nSal]
theorem ngM_salt (c : Mod) : ∀ n, wm_salt (ngM c n) = nSal (wm_salt c) (fun m => gnF c m 64) n
  | 0 => rfl
  | n + 1 => by
    have e : wm_salt (ngM c (n + 1)) = upd (wm_salt (ngM c n)) n (if wm_salt (ngM c n) n + gnF c n 64 - gnF c n 64 / 10 ≤ 999 then wm_salt (ngM c n) n + gnF c n 64 - gnF c n 64 / 10 else 999) := by rw [ngM]; rfl
    rw [e, ← cap_eq, ngM_salt c n, nSal]
theorem ngt_wom (c : Camp) : ∀ n, wc_womans (ngt c n) = wc_womans c + isum (fun m => gnC c m / 10) n
  | 0 => by rw [isum, Int32.add_zero]; rfl
  | n + 1 => by
    have e : wc_womans (ngt c (n + 1)) = wc_womans (ngt c n) + gnC c n / 10 := by rw [ngt]; rfl
    rw [e, ngt_wom c n, isum, Int32.add_assoc]
theorem ngM_wom (c : Mod) : ∀ n, wm_womans (ngM c n) = wm_womans c + isum (fun m => gnF c m 64 / 10) n
  | 0 => by rw [isum, Int32.add_zero]; rfl
  | n + 1 => by
    have e : wm_womans (ngM c (n + 1)) = wm_womans (ngM c n) + gnF c n 64 / 10 := by rw [ngM]; rfl
    rw [e, ngM_wom c n, isum, Int32.add_assoc]
theorem ngt_sm2 (c : Camp) : ∀ n, wc_men (ngt c n) = wc_men c ∧ wc_withCold (ngt c n) = wc_withCold c ∧ wc_whistling (ngt c n) = wc_whistling c
  | 0 => ⟨rfl, rfl, rfl⟩
  | n + 1 => by
    obtain ⟨a, b, d⟩ := ngt_sm2 c n
    have e1 : wc_men (ngt c (n + 1)) = wc_men (ngt c n) := by rw [ngt]; rfl
    have e2 : wc_withCold (ngt c (n + 1)) = wc_withCold (ngt c n) := by rw [ngt]; rfl
    have e3 : wc_whistling (ngt c (n + 1)) = wc_whistling (ngt c n) := by rw [ngt]; rfl
    exact ⟨e1.trans a, e2.trans b, e3.trans d⟩
theorem st_nightN {c : Camp} {M : Mod} (h : RS c M) {n : Nat} (hn : n = 6) : RS (ngt c n) (ngM M n) := by
  obtain ⟨h, hwo⟩ := h
  obtain ⟨a1, a2, a3, a4⟩ := ngt_same c n
  obtain ⟨a5, a6, a7⟩ := ngt_sm2 c n
  obtain ⟨b1, b2, b3⟩ := ngM_same M n
  have e0 : wm_ore (ngM M n) = wm_ore M := b1 0 (by decide)
  have e1 : wm_owner (ngM M n) = wm_owner M := b1 1 (by decide)
  have e2 : wm_tent (ngM M n) = wm_tent M := b1 2 (by decide)
  have e3 : wm_cold (ngM M n) = wm_cold M := b1 3 (by decide)
  have e4 : wm_whistles (ngM M n) = wm_whistles M := b1 4 (by decide)
  have e5 : wm_knows (ngM M n) = wm_knows M := congrFun b2 0
  have e6 : wm_men (ngM M n) = wm_men M := b3 0 (by decide)
  have g := fun m (hm : m < 6) => gn_eq h hm
  have gn := fun m (hm : m < 6) => gn_no h hm
  obtain ⟨hg, ho, hmm, hl, hp, hs, hT, hT2, hco, hw⟩ := h
  refine ⟨⟨by rw [a1, e0]; exact hg, by rw [a2, e1, e6]; exact ho, by rw [a5, e6]; exact hmm, by rw [e6]; exact hl, fun i hi hbi => ?_, fun i hi hbi => ?_, by rw [a4]; exact hT, by rw [e2]; exact hT2, by rw [e3]; exact hco, by rw [e4]; exact hw.1, by rw [e0]; exact hw.2⟩, ?_⟩
  · rw [e6] at hbi
    obtain ⟨p1, p2, p3, p4, p5⟩ := hp i hi hbi
    rw [a4, a3, a6, a7, e2, e3, e4, e5]
    refine ⟨p1, ?_, p3, p4, p5⟩
    rw [ngt_salts, ngM_salt, nSal_at, nSal_at, if_pos (show i < n by omega), if_pos (show i < n by omega), p2, g i hi]
  · rw [e6] at hbi
    rw [ngt_salts, nSal_at, if_pos (show i < n by omega), hs i hi hbi, gn i hi (by rw [hbi]; decide)]
    decide
  · rw [ngt_wom, ngM_wom, hwo]
    exact congrArg (fun z => wm_womans M + z) (isum_cong (fun m hm => by rw [g m (by omega)]))
theorem st_night {c : Camp} {M : Mod} (h : RS c M) (x wy : Int32) : RS (ngt c 6) (hpn M 5 x wy) := by
  rw [hpn_5]
  exact st_nightN h rfl
