/-! THE REFERENCE: the refusal -/
/-- the refusal, and the state behind it -/
def rfA (c : Mod) (n : Nat) : Mod := rdA (kpM c) n
def rfK (c : Mod) (n : Nat) : Nat := (wm_acts (rfA c n)).toNatClampNeg
def rfG (c : Mod) (n : Nat) : Mod := gws (rfK c n) (rfK c n) (gwI (rfA c n))
def rfS (c : Mod) (n : Nat) : Mod := if flt (wm_pad c) n < 0 then rfG c n else rfA c n
def rfV (c : Mod) (n : Nat) : Int32 := if flt (wm_pad c) n < 0 then (if wm_badAct (rfG c n) < 0 then -6 else -3) else -5
theorem rdA_tent (c : Mod) (n : Nat) : wm_tent (rdA c n) = wm_tent c := (rdM_same _ _ _).1 2 (by omega)
theorem rfK_ok (c : Mod) (n : Nat) (hn : n ≤ 60) : rfK c n ≤ n ∧ wm_acts (rfA c n) = nI (rfK c n) := by
  obtain ⟨a, ha, ea⟩ := rdM_acts (wm_pad (kpM c)) (kpM c) (rdN (wm_pad (kpM c)) n n)
  have h1 := rdN_le (wm_pad (kpM c)) n n (Nat.le_refl _)
  have e1 : wm_acts (rfA c n) = nI a := ea
  have e2 : rfK c n = a := by unfold rfK; rw [e1]; exact nI_clamp (by omega)
  rw [e2]
  exact ⟨by omega, e1⟩
theorem rfA_tent (c : Mod) (n : Nat) : wm_tent (rfA c n) = wm_tent c := (rdA_tent (kpM c) n).trans (kpM_tent c)
theorem ct_X7_refusal {h : Wd} {k n : Nat} {c : Mod} (hk : k + 24 < 76) (hc : wm_padMany c = nI n) (hn : n ≤ 60) (hT : okT (wm_tent c)) : Ct mX7_refusal [.ref k] (wm h k c) (some (.int (rfV c n))) (wm h k (rfS c n)) := by
  have ep : wm_pad (kpM c) = wm_pad c := kpM_pad c
  have ec : wm_padMany (kpM c) = nI n := (kpM_padM c).trans hc
  have hT2 : okT (wm_tent (rfA c n)) := by rw [rfA_tent]; exact hT
  obtain ⟨hK, eK⟩ := rfK_ok c n hn
  refine Ct.of (Z := List.replicate 0 .null) (by decide) (Nat.le_of_ble_eq_true rfl) (fun z hz => List.eq_of_mem_replicate hz) ?_
  show WW mX7_refusal 0 [.ref k] [] _ _ _
  refine r_aload_0 (pc := 0) dX7_refusal_0 ?_
  refine r_cV0_0 (pc := 1) (ct_X7_keepNow hk) cv_X7_keepNow ⟨Nat.le_of_ble_eq_true rfl, Nat.le_of_ble_eq_true rfl⟩ ml_X7_193 dX7_refusal_1 (by omega) (wm_o _ _ _) rfl rfl (Nat.le_of_ble_eq_true rfl) ?_
  refine r_aload_0 (pc := 4) dX7_refusal_4 ?_
  refine r_cV1_0 (pc := 5) (ct_X7_fault hk ec hn) cv_X7_fault ⟨Nat.le_of_ble_eq_true rfl, Nat.le_of_ble_eq_true rfl⟩ ml_X7_196 dX7_refusal_5 (by omega) (wm_o _ _ _) rfl rfl (Nat.le_of_ble_eq_true rfl) ?_
  rw [ep]
  refine r_if_lt (pc := 8) 14 dX7_refusal_8 (by decide) (fun c8 => ?_) (fun c8 => ?_)
  · refine r_aload_0 (pc := 14) dX7_refusal_14 ?_
    refine r_cV0_0 (pc := 15) (ct_X7_goWeeks (c := rfA c n) hk (by omega) eK hT2) cv_X7_goWeeks ⟨Nat.le_of_ble_eq_true rfl, Nat.le_of_ble_eq_true rfl⟩ ml_X7_199 dX7_refusal_15 (by omega) (wm_o _ _ _) rfl rfl (Nat.le_of_ble_eq_true rfl) ?_
    refine r_aload_0 (pc := 18) dX7_refusal_18 ?_
    refine r_wm_get_badAct (pc := 19) hk fl_X7_179 dX7_refusal_19 ?_
    refine r_if_lt (pc := 22) 30 dX7_refusal_22 (by decide) (fun c22 => ?_) (fun c22 => ?_)
    · refine r_bipush (pc := 30) (-6) dX7_refusal_30 (by decide) ?_
      refine r_iret (pc := 32) dX7_refusal_32 rfl (by rw [rfV, if_pos c8, if_pos (show wm_badAct (rfG c n) < 0 from c22)]) (by rw [rfS, if_pos c8]; rfl)
    · refine r_bipush (pc := 25) (-3) dX7_refusal_25 (by decide) ?_
      refine r_goto (pc := 27) 32 dX7_refusal_27 (by decide) ?_
      refine r_iret (pc := 32) dX7_refusal_32 rfl (by rw [rfV, if_pos c8, if_neg (show ¬ wm_badAct (rfG c n) < 0 from c22)]) (by rw [rfS, if_pos c8]; rfl)
  · refine r_bipush (pc := 11) (-5) dX7_refusal_11 (by decide) ?_
    refine r_iret (pc := 13) dX7_refusal_13 rfl (by rw [rfV, if_neg c8]) (by rw [rfS, if_neg c8]; rfl)
