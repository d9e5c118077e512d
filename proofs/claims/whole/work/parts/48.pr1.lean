/-! THE PAIR: ground, men, pad -/
theorem RT.of {t : Tales} {A B : Mod} (e1 : wm_taleMan A = wm_taleMan B) (e2 : wm_taleCell A = wm_taleCell B) (e3 : wm_taleGold A = wm_taleGold B) (e4 : wm_tales A = wm_tales B) (h : RT t B) : RT t A := by
  obtain ⟨n, hn, h1, h2, h3, h4⟩ := h
  exact ⟨n, hn, h1, by rw [e4]; exact h2, by rw [e1, e2, e3]; exact h3, h4⟩
theorem RG.of {g : Sights} {A B : Mod} (e1 : wm_sightCell A = wm_sightCell B) (e2 : wm_sightIs A = wm_sightIs B) (e3 : wm_sights A = wm_sights B) (h : RG g B) : RG g A := by
  obtain ⟨n, hn, h1, h2, h3, h4⟩ := h
  refine ⟨n, hn, h1, by rw [e3]; exact h2, fun i hi => ?_, fun l hl => ?_⟩
  · rw [e1, e2]; exact h3 i hi
  · rw [h4 l hl, ftB_cong (A := B) (B := A) (fun i _ => by rw [e1, e2]; exact ⟨rfl, rfl⟩)]
theorem RR.pad' {S : SG} {A B : Mod} {p : Pad} (h : RR S B) (hP : RP p A) (hM : RY S.now A) (k : keK A B) : RR (S.sp p) A :=
  ⟨hM, hP, h.2.2.1.ke k.sy rfl, h.2.2.2.ke k.sy rfl⟩
theorem RC.men {c : Camp} {M : Mod} (h : RC c M) : wc_men c = wm_men M := h.2.2.1
theorem RC.hasB {c : Camp} {M : Mod} (h : RC c M) (x : Int32) : hasB (wc_men c) x = hasB (wm_men M) x := by rw [h.men]
theorem n1_ne : ∀ m, m < 6 → ¬ (-1 : Int32) = nI m ∧ ¬ (-6 : Int32) = nI m ∧ ¬ nI m = (-1 : Int32) ∧ ¬ nI m = (-6 : Int32) ∧ ¬ nI m < 0 := by decide
theorem RC.cnt0 {c : Camp} {M : Mod} (h : RC c M) : cntC (wc_claimers c) (-1) = cntC (wm_owner M) (-6) := by
  refine cnt_cong (fun j hj => ?_)
  rcases h.2.1 j hj with ⟨e1, e2⟩ | ⟨m, hm, -, e1, e2⟩
  · rw [e1, e2]; rfl
  · rw [e1, e2, decide_eq_false (n1_ne m hm).2.2.1, decide_eq_false (n1_ne m hm).2.2.2.1]
theorem RC.cntM {c : Camp} {M : Mod} (h : RC c M) {m : Nat} (hm : m < 6) : cntC (wc_claimers c) (nI m) = cntC (wm_owner M) (nI m) := by
  refine cnt_cong (fun j hj => ?_)
  rcases h.2.1 j hj with ⟨e1, e2⟩ | ⟨m, -, -, e1, e2⟩
  · rw [e1, e2, decide_eq_false (n1_ne m hm).1, decide_eq_false (n1_ne m hm).2.1]
  · rw [e1, e2]
theorem pr_gold {S : SG} {M : Mod} (h : RR S M) (x v : Int32) : PR mX6_gold mX7_gold [.int x, .int v] S M := by
  by_cases hb : (isC x && inR v 0 9) = true
  · obtain ⟨h1, h2⟩ := (Bool.and_eq_true _ _ ▸ hb)
    obtain ⟨j, hj, rfl⟩ := isC_t h1
    obtain ⟨hg, ho, hm, hl, hp, hs, hT, hT2, hc, hw⟩ := h.1.1
    refine PR.mk (h.camp (c := wc_s_goldOn S.now.camp (upd (wc_goldOn S.now.camp) j v)) (A := wm_s_ore M (upd (wm_ore M) j v)) ⟨fun i hi => ?_, ho, hm, hl, hp, hs, hT, hT2, hc, hw.1, fun i hi => ?_⟩ (h.1.2.1.of rfl rfl rfl rfl) (h.1.2.2.of rfl rfl rfl) rfl rfl ⟨rfl, rfl, rfl⟩) (fun _ => ct_X6_gold hj h2) (fun _ => ct_X7_gold k51 hj h2) (eI (hg j hj))
    · show upd (wc_goldOn S.now.camp) j v i = upd (wm_ore M) j v i
      by_cases e : i = j
      · subst e; rw [pk_us, pk_us]
      · rw [pk_un e, pk_un e]; exact hg i hi
    · show ∃ g, g ≤ 9 ∧ upd (wm_ore M) j v i = nI g
      by_cases e : i = j
      · subst e
        obtain ⟨g, -, g2, eg⟩ := inR_t (lo := 0) (hi := 9) (by decide) (by decide) h2
        exact ⟨g, g2, by rw [pk_us]; exact eg⟩
      · rw [pk_un e]; exact hw.2 i hi
  · exact PR.mk h (fun _ => ct_X6_goldB (nff hb)) (fun _ => ct_X7_goldB k51 (nff hb)) rfl
theorem rc_man {c : Camp} {M : Mod} (h : RC c M) {m j : Nat} (hm6 : m < 6) (hj : j < 64) : RC (wlc c m (nI j)) (mnM M m (nI j)) := by
  obtain ⟨hg, ho, hm, ⟨l, hl, el⟩, hp, hs, hT, hT2, hc, hw⟩ := h
  have eM : wm_men (mnM M m (nI j)) = wm_men M ||| bW m := rfl
  have hb : ∀ i, i < 6 → bt (wm_men (mnM M m (nI j))) i = (bt (wm_men M) i || decide (i = m)) := fun i hi => by rw [eM]; exact bt_set (by omega) (by omega)
  refine ⟨hg, fun i hi => ?_, ?_, ?_, fun i hi hbi => ?_, fun i hi hbi => ?_, fun i hi => ?_, fun i hi => ?_, fun i hi => ?_, fun i hi => ?_, hw.2⟩
  · rcases ho i hi with e | ⟨q, hq, b, e1, e2⟩
    · exact Or.inl e
    · exact Or.inr ⟨q, hq, by rw [hb q hq, b]; rfl, e1, e2⟩
  · show wc_men c ||| bW m = wm_men M ||| bW m
    rw [hm]
  · have e := men_or l hl m hm6
    rw [← el] at e
    exact ⟨_, e.2, e.1⟩
  · show upd (upd (wc_tents c) m 0) m (nI j) i = upd (wm_tent M) m (nI j) i ∧ upd (wc_salts c) m 0 i = upd (wm_salt M) m 0 i ∧ vp_updL (wc_known c) m 0 i = vp_updL (wm_knows M) m 0 i ∧ bt (wc_withCold c &&& (bW m ^^^ (-1))) i = decide (upd (wm_cold M) m 0 i = 1) ∧ bt (wc_whistling c &&& (bW m ^^^ (-1))) i = decide (upd (wm_whistles M) m 0 i = 1)
    rw [bt_clr (show m < 32 by omega) (show i < 32 by omega), bt_clr (show m < 32 by omega) (show i < 32 by omega)]
    by_cases e : i = m
    · subst e
      rw [pk_us, pk_us, pk_us, pk_us, pk_us, pk_us, pk_uLs, pk_uLs]
      simp
    · rw [pk_un e, pk_un e, pk_un e, pk_un e, pk_un e, pk_un e, pk_un e, pk_uLn e, pk_uLn e]
      have hbi2 : bt (wm_men M) i = true := by
        have := hb i hi
        rw [hbi, decide_eq_false e, Bool.or_false] at this
        exact this.symm
      obtain ⟨p1, p2, p3, p4, p5⟩ := hp i hi hbi2
      rw [p4, p5, decide_eq_false e]
      exact ⟨p1, p2, p3, by simp, by simp⟩
  · show upd (wc_salts c) m 0 i = 0
    by_cases e : i = m
    · subst e; exact pk_us
    · rw [pk_un e]
      refine hs i hi ?_
      have := hb i hi
      rw [hbi, decide_eq_false e, Bool.or_false] at this
      exact this.symm
  · show ∃ t, t < 64 ∧ upd (upd (wc_tents c) m 0) m (nI j) i = nI t
    by_cases e : i = m
    · subst e; exact ⟨j, hj, pk_us⟩
    · rw [pk_un e, pk_un e]; exact hT i hi
  · show ∃ t, t < 64 ∧ upd (wm_tent M) m (nI j) i = nI t
    by_cases e : i = m
    · subst e; exact ⟨j, hj, pk_us⟩
    · rw [pk_un e]; exact hT2 i hi
  · show upd (wm_cold M) m 0 i = 0 ∨ upd (wm_cold M) m 0 i = 1
    by_cases e : i = m
    · subst e; exact Or.inl pk_us
    · rw [pk_un e]; exact hc i hi
  · show upd (wm_whistles M) m 0 i = 0 ∨ upd (wm_whistles M) m 0 i = 1
    by_cases e : i = m
    · subst e; exact Or.inl pk_us
    · rw [pk_un e]; exact hw.1 i hi
theorem pr_man {S : SG} {M : Mod} (h : RR S M) (x y : Int32) : PR mX6_man mX7_man [.int x, .int y] S M := by
  by_cases h1 : isM x = true
  · obtain ⟨m, hm, rfl⟩ := isM_t h1
    by_cases h2 : isC y = true
    · obtain ⟨j, hj, rfl⟩ := isC_t h2
      have R := h.1.1
      obtain ⟨l, hl, el⟩ := R.2.2.2.1
      have e := men_or l hl m hm
      rw [← el] at e
      refine PR.mk (h.camp (A := mnM M m (nI j)) (rc_man R hm hj) (h.1.2.1.of rfl rfl rfl rfl) (h.1.2.2.of rfl rfl rfl) rfl rfl ⟨rfl, rfl, rfl⟩) (fun _ => ct_X6_man hm hj) (fun _ => ct_X7_man k51 hm hj ⟨_, e.2, e.1⟩) (eI ?_)
      rw [R.men]
    · exact PR.mk h (fun _ => ct_X6_manO h1 (nff h2)) (fun _ => ct_X7_manO k51 hm (nff h2)) rfl
  · exact PR.mk h (fun _ => ct_X6_manB (nff h1)) (fun _ => ct_X7_manB k51 (nff h1)) rfl
theorem frl_at (f : Nat → Int32) (m : Int32) : ∀ n j, frl f m n j = if j < n ∧ f j = m then -1 else f j
  | 0, j => by rw [frl, if_neg (by omega)]
  | n + 1, j => by
    have e : frl f m n n = f n := by rw [frl_at f m n n, if_neg (by omega)]
    rw [frl, e]
    by_cases h : f n = m
    · rw [if_pos h]
      by_cases hj : j = n
      · subst hj; rw [pk_us, if_pos ⟨by omega, h⟩]
      · rw [pk_un hj, frl_at f m n j]
        have : (j < n + 1 ∧ f j = m) ↔ (j < n ∧ f j = m) := ⟨fun q => ⟨by omega, q.2⟩, fun q => ⟨by omega, q.2⟩⟩
        simp only [this]
    · rw [if_neg h, frl_at f m n j]
      have : (j < n + 1 ∧ f j = m) ↔ (j < n ∧ f j = m) := ⟨fun q => ⟨by
        rcases Nat.lt_or_ge j n with z | z
        · exact z
        · have : j = n := by omega
          subst this; exact absurd q.2 h, q.2⟩, fun q => ⟨by omega, q.2⟩⟩
      simp only [this]
theorem lvF_at (f : Nat → Int32) (m : Int32) : ∀ n j, lvF f m n j = if j < n ∧ f j = m then -6 else f j
  | 0, j => by rw [lvF, if_neg (by omega)]
  | n + 1, j => by
    have e : lvF f m n n = f n := by rw [lvF_at f m n n, if_neg (by omega)]
    rw [lvF, e]
    by_cases hj : j = n
    · subst hj
      rw [pk_us]
      have : (j < j + 1 ∧ f j = m) ↔ f j = m := ⟨fun q => q.2, fun q => ⟨by omega, q⟩⟩
      simp only [this]
    · rw [pk_un hj, lvF_at f m n j]
      have : (j < n + 1 ∧ f j = m) ↔ (j < n ∧ f j = m) := ⟨fun q => ⟨by omega, q.2⟩, fun q => ⟨by omega, q.2⟩⟩
      simp only [this]
theorem rc_leaveF {c : Camp} {M : Mod} (h : RC c M) {m : Nat} (hm6 : m < 6) {F G : Nat → Int32} (hF : ∀ i, i < 64 → F i = if wc_claimers c i = nI m then -1 else wc_claimers c i) (hG : ∀ i, i < 64 → G i = if wm_owner M i = nI m then -6 else wm_owner M i) : RC (wc_s_claimers (wc_s_men (fgt c m) (wc_men c &&& (bW m ^^^ (-1)))) F) (wm_s_owner (wm_s_men M (wm_men M &&& (bW m ^^^ (-1)))) G) := by
  obtain ⟨hg, ho, hm, ⟨l, hl, el⟩, hp, hs, hT, hT2, hc, hw⟩ := h
  have eM : wm_men (wm_s_owner (wm_s_men M (wm_men M &&& (bW m ^^^ (-1)))) G) = wm_men M &&& (bW m ^^^ (-1)) := rfl
  have hb : ∀ i, i < 6 → bt (wm_men (wm_s_owner (wm_s_men M (wm_men M &&& (bW m ^^^ (-1)))) G)) i = (bt (wm_men M) i && !decide (i = m)) := fun i hi => by rw [eM]; exact bt_clr (by omega) (by omega)
  refine ⟨hg, fun i hi => ?_, ?_, ?_, fun i hi hbi => ?_, fun i hi hbi => ?_, fun i hi => ?_, hT2, hc, hw⟩
  · show (F i = -1 ∧ G i = -6) ∨ ∃ q, q < 6 ∧ bt (wm_men (wm_s_owner (wm_s_men M (wm_men M &&& (bW m ^^^ (-1)))) G)) q = true ∧ F i = nI q ∧ G i = nI q
    rw [hF i hi, hG i hi]
    rcases ho i hi with ⟨e1, e2⟩ | ⟨q, hq, b, e1, e2⟩
    · refine Or.inl ?_
      rw [e1, e2, if_neg (fun z => (n1_ne m hm6).1 z), if_neg (fun z => (n1_ne m hm6).2.1 z)]
      exact ⟨rfl, rfl⟩
    · rw [e1, e2]
      by_cases e : q = m
      · subst e
        exact Or.inl ⟨if_pos rfl, if_pos rfl⟩
      · have e' : ¬ nI q = nI m := fun z => e ((nI_eq (by omega) (by omega)).mp z)
        refine Or.inr ⟨q, hq, by rw [hb q hq, b, decide_eq_false e]; rfl, if_neg e', if_neg e'⟩
  · show wc_men c &&& (bW m ^^^ (-1)) = wm_men M &&& (bW m ^^^ (-1))
    rw [hm]
  · have e := men_an l hl m hm6
    rw [← el] at e
    exact ⟨_, e.2, e.1⟩
  · have hbi2 := hb i hi
    rw [hbi] at hbi2
    have e : ¬ i = m := by
      intro z
      rw [decide_eq_true z] at hbi2
      simp at hbi2
    have hbi3 : bt (wm_men M) i = true := by
      rw [decide_eq_false e] at hbi2
      simpa using hbi2.symm
    show upd (wc_tents c) m 0 i = wm_tent M i ∧ upd (wc_salts c) m 0 i = wm_salt M i ∧ vp_updL (wc_known c) m 0 i = wm_knows M i ∧ bt (wc_withCold c &&& (bW m ^^^ (-1))) i = decide (wm_cold M i = 1) ∧ bt (wc_whistling c &&& (bW m ^^^ (-1))) i = decide (wm_whistles M i = 1)
    rw [bt_clr (show m < 32 by omega) (show i < 32 by omega), bt_clr (show m < 32 by omega) (show i < 32 by omega), pk_un e, pk_un e, pk_uLn e]
    obtain ⟨p1, p2, p3, p4, p5⟩ := hp i hi hbi3
    rw [p4, p5, decide_eq_false e]
    exact ⟨p1, p2, p3, by simp, by simp⟩
  · show upd (wc_salts c) m 0 i = 0
    by_cases e : i = m
    · subst e; exact pk_us
    · rw [pk_un e]
      refine hs i hi ?_
      have := hb i hi
      rw [hbi, decide_eq_false e] at this
      simpa using this.symm
  · show ∃ t, t < 64 ∧ upd (wc_tents c) m 0 i = nI t
    by_cases e : i = m
    · subst e; exact ⟨0, by omega, by rw [pk_us]; rfl⟩
    · rw [pk_un e]; exact hT i hi
theorem rc_leave {c : Camp} {M : Mod} (h : RC c M) {m : Nat} (hm6 : m < 6) : RC (frw c m) (lvM M m) := by
  rw [frw, lvM]
  exact rc_leaveF h hm6 (fun i hi => by rw [frl_at]; simp only [hi, true_and]) (fun i hi => by rw [lvF_at]; simp only [hi, true_and])
theorem rr_own {S : SG} {M : Mod} (h : RR S M) {c : Camp} (v : Int32) (G : Nat → Int32) (hR : RC c (wm_s_owner (wm_s_men M v) G)) : RR (S.sc 1 c) (wm_s_owner (wm_s_men M v) G) :=
  h.camp hR (h.1.2.1.of rfl rfl rfl rfl) (h.1.2.2.of rfl rfl rfl) rfl rfl ⟨rfl, rfl, rfl⟩
theorem rr_leave {S : SG} {M : Mod} (h : RR S M) {m : Nat} (hm : m < 6) : RR (S.sc 1 (frw S.now.camp m)) (lvM M m) := by
  have R := rc_leave h.1.1 hm
  rw [lvM] at R ⊢
  exact rr_own h _ _ R
theorem pr_leave {S : SG} {M : Mod} (h : RR S M) (x : Int32) : PR mX6_leave mX7_leave [.int x] S M := by
  have R := h.1.1
  by_cases hb : hasB (wc_men S.now.camp) x = true
  · obtain ⟨m, hm, rfl, -⟩ := hasB_t hb
    obtain ⟨l, hl, el⟩ := R.2.2.2.1
    have e := men_an l hl m hm
    rw [← el] at e
    refine PR.mk (rr_leave h hm) (fun _ => ct_X6_leave hm hb) (fun _ => ct_X7_leave k51 (R.hasB _ ▸ hb) ⟨_, e.2, e.1⟩) (eI ?_)
    rw [R.men]
  · exact PR.mk h (fun _ => ct_X6_leaveB (nff hb)) (fun _ => ct_X7_leaveB k51 (R.hasB _ ▸ nff hb)) rfl
theorem rc_know {c : Camp} {M : Mod} (h : RC c M) {m j : Nat} (hm6 : m < 6) (hbm : bt (wm_men M) m = true) (b : Bool) : RC (stK c m j b) (knM M m j b) := by
  obtain ⟨hg, ho, hm, hl, hp, hs, hT, hT2, hc, hw⟩ := h
  refine ⟨hg, ho, hm, hl, fun i hi hbi => ?_, hs, hT, hT2, hc, hw⟩
  obtain ⟨p1, p2, p3, p4, p5⟩ := hp i hi hbi
  refine ⟨p1, p2, ?_, p4, p5⟩
  show vp_updL (wc_known c) m (if b then wc_known c m ||| bL j else wc_known c m &&& (bL j ^^^ (-1))) i = vp_updL (wm_knows M) m (if b then wm_knows M m ||| bL j else wm_knows M m &&& (bL j ^^^ (-1))) i
  by_cases e : i = m
  · subst e
    rw [pk_uLs, pk_uLs, p3]
  · rw [pk_uLn e, pk_uLn e, p3]
theorem pr_know {S : SG} {M : Mod} (h : RR S M) (x y b : Int32) : PR mX6_know mX7_know [.int x, .int y, .int b] S M := by
  have R := h.1.1
  by_cases hb : hasB (wc_men S.now.camp) x = true
  · by_cases h2 : isC y = true
    · obtain ⟨m, hm, rfl, hbm⟩ := hasB_t hb
      obtain ⟨j, hj, rfl⟩ := isC_t h2
      have hbm2 : bt (wm_men M) m = true := by rw [← R.men]; exact hbm
      have R2 := rc_know (j := j) R hm hbm2 (!decide (b = 0))
      refine PR.mk (h.camp (A := knM M m j (!decide (b = 0))) R2 (h.1.2.1.of rfl rfl rfl rfl) (h.1.2.2.of rfl rfl rfl) rfl rfl ⟨rfl, rfl, rfl⟩) (fun _ => ct_X6_know hm hb hj) (fun _ => ct_X7_know k51 hm (R.hasB _ ▸ hb) hj) (eI ?_)
      rw [(R2.2.2.2.2.1 m hm hbm2).2.2.1]
    · exact PR.mk h (fun _ => ct_X6_knowO hb (nff h2)) (fun _ => ct_X7_knowO k51 (R.hasB _ ▸ hb) (nff h2)) rfl
  · exact PR.mk h (fun _ => ct_X6_knowB (nff hb)) (fun _ => ct_X7_knowB k51 (R.hasB _ ▸ nff hb)) rfl
theorem rc_claim {c : Camp} {M : Mod} (h : RC c M) {j : Nat} {y : Int32} (h1 : y = -1 ∨ hasB (wm_men M) y = true) : RC (wc_s_claimers c (upd (wc_claimers c) j y)) (wm_s_owner M (upd (wm_owner M) j (if y = -1 then -6 else y))) := by
  obtain ⟨hg, ho, hm, hl, hp, hs, hT, hT2, hc, hw⟩ := h
  refine ⟨hg, fun i hi => ?_, hm, hl, hp, hs, hT, hT2, hc, hw⟩
  show (upd (wc_claimers c) j y i = -1 ∧ upd (wm_owner M) j (if y = -1 then -6 else y) i = -6) ∨ ∃ q, q < 6 ∧ bt (wm_men M) q = true ∧ upd (wc_claimers c) j y i = nI q ∧ upd (wm_owner M) j (if y = -1 then -6 else y) i = nI q
  by_cases e : i = j
  · subst e
    rw [pk_us, pk_us]
    rcases h1 with rfl | h1
    · exact Or.inl ⟨rfl, if_pos rfl⟩
    · obtain ⟨q, hq, rfl, b⟩ := hasB_t h1
      exact Or.inr ⟨q, hq, b, rfl, if_neg (n1_ne q hq).2.2.1⟩
  · rw [pk_un e, pk_un e]; exact ho i hi
theorem pr_claim {S : SG} {M : Mod} (h : RR S M) (x y : Int32) : PR mX6_claim mX7_claim [.int x, .int y] S M := by
  have R := h.1.1
  by_cases h1 : y = -1 ∨ hasB (wc_men S.now.camp) y = true
  · have h1' : y = -1 ∨ hasB (wm_men M) y = true := by rw [← R.hasB]; exact h1
    by_cases h2 : isC x = true
    · obtain ⟨j, hj, rfl⟩ := isC_t h2
      have R2 := rc_claim (j := j) R h1'
      refine PR.mk (h.camp (A := wm_s_owner M (upd (wm_owner M) j (if y = -1 then -6 else y))) R2 (h.1.2.1.of rfl rfl rfl rfl) (h.1.2.2.of rfl rfl rfl) rfl rfl ⟨rfl, rfl, rfl⟩) (fun _ => ct_X6_claim h1 hj) (fun _ => ct_X7_claim k51 h1' hj) (eI ?_)
      have e := R2.cnt0
      show 64 - nI (cntC (upd (wc_claimers S.now.camp) j y) (-1)) = 64 - nI (cntC (upd (wm_owner M) j (if y = -1 then -6 else y)) (-6))
      rw [show cntC (upd (wc_claimers S.now.camp) j y) (-1) = cntC (upd (wm_owner M) j (if y = -1 then -6 else y)) (-6) from e]
    · exact PR.mk h (fun _ => ct_X6_claimO h1 (nff h2)) (fun _ => ct_X7_claimO k51 h1' (nff h2)) rfl
  · have h3 : ¬ y = -1 := fun z => h1 (Or.inl z)
    have h4 : hasB (wc_men S.now.camp) y = false := nff (fun z => h1 (Or.inr z))
    exact PR.mk h (fun _ => ct_X6_claimB h3 h4) (fun _ => ct_X7_claimB k51 h3 (R.hasB _ ▸ h4)) rfl
theorem pr_say {S : SG} {M : Mod} (h : RR S M) (x : Int32) : PR mX6_say mX7_say [.int x] S M := by
  by_cases hb : inR x 33 126 = true
  · obtain ⟨n, hn, h1, h2, h3⟩ := h.2.1
    by_cases e : n = 60
    · subst e
      exact PR.mk h (fun _ => ct_X6_sayF hb h1) (fun _ => ct_X7_sayF k51 hb h2) rfl
    · refine PR.mk (h.pad' (A := wm_s_padMany (wm_s_pad M (upd (wm_pad M) n x)) (nI (n + 1))) ⟨n + 1, by omega, rfl, rfl, fun i hi => ?_⟩ ⟨h.1.1, h.1.2.1.of rfl rfl rfl rfl, h.1.2.2.of rfl rfl rfl⟩ ⟨rfl, rfl, rfl⟩) (fun _ => ct_X6_say hb h1 (by omega)) (fun _ => ct_X7_say k51 hb h2 (by omega)) rfl
      show upd (wp_signs S.pad) n x i = upd (wm_pad M) n x i
      by_cases e2 : i = n
      · subst e2; rw [pk_us, pk_us]
      · rw [pk_un e2, pk_un e2]; exact h3 i (by omega)
  · exact PR.mk h (fun _ => ct_X6_sayB (nff hb)) (fun _ => ct_X7_sayB k51 (nff hb)) rfl
theorem pr_wipe {S : SG} {M : Mod} (h : RR S M) : PR mX6_wipe mX7_wipe [] S M := by
  obtain ⟨n, hn, h1, h2, h3⟩ := h.2.1
  exact PR.mk (h.pad' (A := wm_s_padMany M 0) ⟨0, by omega, rfl, rfl, fun i hi => absurd hi (Nat.not_lt_zero i)⟩ ⟨h.1.1, h.1.2.1.of rfl rfl rfl rfl, h.1.2.2.of rfl rfl rfl⟩ ⟨rfl, rfl, rfl⟩) (fun _ => ct_X6_wipe) (fun _ => ct_X7_wipe k51) (eI (by rw [h1, h2]))
theorem nmd_cong {p q : Nat → Int32} : ∀ {n : Nat}, (∀ j, j < n → p j = q j) → nmd p n = nmd q n
  | 0, _ => rfl
  | n + 1, h => by rw [nmd, nmd, nmd_cong (n := n) (fun j hj => h j (by omega)), h n (by omega)]
theorem ffd_cong {p q : Nat → Int32} {n : Nat} (h : ∀ j, j < n → p j = q j) : ∀ {r : Nat}, r ≤ n → ffd p n r = ffd q n r
  | 0, _ => by rw [ffd, ffd, nmd_cong h]
  | r + 1, hr => by rw [ffd, ffd, nmd_cong (n := n - (r + 1)) (fun j hj => h j (by omega)), h (n - (r + 1)) (by omega), ffd_cong h (r := r) (by omega)]
theorem flt_cong {p q : Nat → Int32} {n : Nat} (h : ∀ j, j < n → p j = q j) : flt p n = flt q n := ffd_cong h (Nat.le_refl n)
theorem rdA_fr (M : Mod) (n : Nat) : frM (rdA M n) M := by
  obtain ⟨a, b, d⟩ := rdM_same (wm_pad M) M (rdN (wm_pad M) n n)
  exact ⟨⟨fun r j hr _ => congrFun (a r (by omega)) j, fun m _ => congrFun (congrFun b 0) m, fun v hv => d v (by omega)⟩, a 11 (by omega), d 3 (by omega), a 19 (by omega), congrFun b 2, a 20 (by omega)⟩
theorem pr_fault {S : SG} {M : Mod} (h : RR S M) : PR mX6_fault mX7_fault [] S M := by
  obtain ⟨n, hn, h1, h2, h3⟩ := h.2.1
  exact PR.mk (h.fr (rdA_fr M n)) (fun _ => ct_X6_fault h1 hn) (fun _ => ct_X7_fault k51 h2 hn) (eI (flt_cong h3))
