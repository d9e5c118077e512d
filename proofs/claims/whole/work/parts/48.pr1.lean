/-! THE PAIR: ground, men, pad -/
theorem pr_gold {S : SG} {M : Mod} (h : RR S M) (x v : Int32) : PR mX6_gold mX7_gold [.int x, .int v] S M := by
  by_cases hb : (isC x && inR v 0 9) = true
  · obtain ⟨h1, h2⟩ := (Bool.and_eq_true _ _ ▸ hb)
    obtain ⟨j, hj, rfl⟩ := isC_t h1
    obtain ⟨hg, ho, hm, hl, hp, hs, hT, hT2, hc, hw⟩ := h.1.1
    refine PR.mk (h.camp (A := wm_s_ore M (upd (wm_ore M) j v)) ⟨fun i hi => ?_, ho, hm, hl, hp, hs, hT, hT2, hc, hw⟩ h.1.2.1 h.1.2.2 rfl rfl ⟨rfl, rfl, rfl⟩) (fun _ => ct_X6_gold hj h2) (fun _ => ct_X7_gold k51 hj h2) (eI (hg j hj))
    show upd (wc_goldOn S.now.camp) j v i = upd (wm_ore M) j v i
    by_cases e : i = j
    · subst e; rw [pk_us, pk_us]
    · rw [pk_un e, pk_un e]; exact hg i hi
