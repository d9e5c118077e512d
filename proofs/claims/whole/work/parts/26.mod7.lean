/-! THE REFERENCE: part 3 -/
theorem lp_X7_givenAway {h : Wd} {k t : Nat} {c : Mod} {un sn : Int32} (hk : k + 24 < 76) (ht : t < 64) (hT : okT (wm_tent c)) : ∀ n j, j + n = 6 → WW mX7_givenAway 12 [.ref k, .int un, .int (nI t), .int sn, .int (hrb (wm_men c) sn (wm_tent c) un (nI t) j), .int (nI j)] [] (wm h k c) (some (.int (hrb (wm_men c) sn (wm_tent c) un (nI t) 6))) (wm h k c) := by
  intro n
  induction n with
  | zero =>
    intro j hj
    obtain rfl : j = 6 := by omega
    refine r_iload_5 (pc := 12) dX7_givenAway_12 ?_
    refine r_bipush (pc := 14) 6 dX7_givenAway_14 (by decide) ?_
    refine r_icmp_ge (pc := 16) 65 dX7_givenAway_16 (by decide) (fun _ => ?_) (fun c16 => absurd (nI_le (a := 6) (b := 6) (by omega) (by omega)) (c16))
    refine r_iload_4 (pc := 65) dX7_givenAway_65 ?_
    refine r_iret (pc := 67) dX7_givenAway_67 rfl (by first | rfl | simp_all [bI]) rfl
  | succ n ih =>
    intro j hj
    obtain ⟨t2, ht2, et2⟩ := hT j (by omega)
    refine r_iload_5 (pc := 12) dX7_givenAway_12 ?_
    refine r_bipush (pc := 14) 6 dX7_givenAway_14 (by decide) ?_
    refine r_icmp_ge (pc := 16) 65 dX7_givenAway_16 (by decide) (fun c16 => absurd c16 (nI_ge (a := j) (b := 6) (by omega) (by decide))) (fun _ => ?_)
    refine r_iload_4 (pc := 19) dX7_givenAway_19 ?_
    refine r_aload_0 (pc := 21) dX7_givenAway_21 ?_
    refine r_iload_5 (pc := 22) dX7_givenAway_22 ?_
    refine r_cV1_1 (pc := 24) (ct_X7_isMan hk) cv_X7_isMan ⟨Nat.le_of_ble_eq_true rfl, Nat.le_of_ble_eq_true rfl⟩ ml_X7_106 dX7_givenAway_24 (by omega) (wm_o _ _ _) rfl rfl (Nat.le_of_ble_eq_true rfl) ?_
    refine r_if_eq (pc := 27) 55 dX7_givenAway_27 (by decide) (fun c27 => ?_) (fun c27 => ?_)
    · rw [hasB_n (by omega), bI_0] at c27
      refine r_iconst (pc := 55) 0 dX7_givenAway_55 (by decide) ?_
      refine r_iadd (pc := 56) dX7_givenAway_56 ?_
      refine r_istore_4 (pc := 57) dX7_givenAway_57 rfl (by decide) ?_
      refine r_inc_5 (pc := 59) dX7_givenAway_59 rfl (by decide) ?_
      refine r_goto (pc := 62) 12 dX7_givenAway_62 (by decide) ?_
      exact (ih (j + 1) (by omega)).L (by rw [hrb, isum, if_neg (fun z => by rw [c27] at z; cases z.2), Int32.add_zero] <;> rfl)
    · rw [hasB_n (by omega), bI_n0] at c27
      refine r_iload_5 (pc := 30) dX7_givenAway_30 ?_
      refine r_iload_1 (pc := 32) dX7_givenAway_32 ?_
      refine r_icmp_eq (pc := 33) 55 dX7_givenAway_33 (by decide) (fun c33 => ?_) (fun c33 => ?_)
      · refine r_iconst (pc := 55) 0 dX7_givenAway_55 (by decide) ?_
        refine r_iadd (pc := 56) dX7_givenAway_56 ?_
        refine r_istore_4 (pc := 57) dX7_givenAway_57 rfl (by decide) ?_
        refine r_inc_5 (pc := 59) dX7_givenAway_59 rfl (by decide) ?_
        refine r_goto (pc := 62) 12 dX7_givenAway_62 (by decide) ?_
        exact (ih (j + 1) (by omega)).L (by rw [hrb, isum, if_neg (fun z => z.1 c33), Int32.add_zero] <;> rfl)
      · refine r_iload_3 (pc := 36) dX7_givenAway_36 ?_
        refine r_iload_2 (pc := 37) dX7_givenAway_37 ?_
        refine r_aload_0 (pc := 38) dX7_givenAway_38 ?_
        refine r_wm_get_tent (pc := 39) hk fl_X7_16 dX7_givenAway_39 ?_
        refine r_iload_5 (pc := 42) dX7_givenAway_42 ?_
        refine r_wm_ld_tent (pc := 44) hk (by omega) dX7_givenAway_44 ?_
        rw [et2]
        refine r_cS1_2 (pc := 45) (ct_X7_apartN ht ht2) cs_X7_apart ⟨Nat.le_of_ble_eq_true rfl, Nat.le_of_ble_eq_true rfl⟩ ml_X7_216 dX7_givenAway_45 rfl (Nat.le_of_ble_eq_true rfl) ?_
        refine r_isub (pc := 48) dX7_givenAway_48 ?_
        refine r_cS1_1 (pc := 49) (ct_X7_over) cs_X7_over ⟨Nat.le_of_ble_eq_true rfl, Nat.le_of_ble_eq_true rfl⟩ ml_X7_219 dX7_givenAway_49 rfl (Nat.le_of_ble_eq_true rfl) ?_
        rw [ovr_mx]
        refine r_goto (pc := 52) 56 dX7_givenAway_52 (by decide) ?_
        refine r_iadd (pc := 56) dX7_givenAway_56 ?_
        refine r_istore_4 (pc := 57) dX7_givenAway_57 rfl (by decide) ?_
        refine r_inc_5 (pc := 59) dX7_givenAway_59 rfl (by decide) ?_
        refine r_goto (pc := 62) 12 dX7_givenAway_62 (by decide) ?_
        exact (ih (j + 1) (by omega)).L (by rw [hrb, isum, if_pos (And.intro c33 c27), et2, (dist_n t ht t2 ht2).2] <;> rfl)
theorem ct_X7_givenAway {h : Wd} {k t m : Nat} {c : Mod} (hk : k + 24 < 76) (hm : m < 6) (ht : t < 64) (hT : okT (wm_tent c)) (ho : ok01 (wm_cold c)) : Ct mX7_givenAway [.ref k, .int (nI m), .int (nI t)] (wm h k c) (some (.int (hrb (wm_men c) (snM c m) (wm_tent c) (nI m) (nI t) 6))) (wm h k c) := by
  refine Ct.of (Z := List.replicate 3 .null) (by decide) (Nat.le_of_ble_eq_true rfl) (fun z hz => List.eq_of_mem_replicate hz) ?_
  show WW mX7_givenAway 0 [.ref k, .int (nI m), .int (nI t), .null, .null, .null] [] _ _ _
  refine r_aload_0 (pc := 0) dX7_givenAway_0 ?_
  refine r_iload_1 (pc := 1) dX7_givenAway_1 ?_
  refine r_cV1_1 (pc := 2) (ct_X7_snore hk hm ho) cv_X7_snore ⟨Nat.le_of_ble_eq_true rfl, Nat.le_of_ble_eq_true rfl⟩ ml_X7_213 dX7_givenAway_2 (by omega) (wm_o _ _ _) rfl rfl (Nat.le_of_ble_eq_true rfl) ?_
  refine r_istore_3 (pc := 5) dX7_givenAway_5 rfl (by decide) ?_
  refine r_iconst (pc := 6) 0 dX7_givenAway_6 (by decide) ?_
  refine r_istore_4 (pc := 7) dX7_givenAway_7 rfl (by decide) ?_
  refine r_iconst (pc := 9) 0 dX7_givenAway_9 (by decide) ?_
  refine r_istore_5 (pc := 10) dX7_givenAway_10 rfl (by decide) ?_
  exact lp_X7_givenAway hk ht hT 6 0 rfl
def qtA (c : Mod) (m t : Nat) (hi : Bool) : Int32 := if hi then hrb (wm_men c) (snM c m) (wm_tent c) (nI m) (nI t) 6 else hrd (wm_men c) (snM c) (wm_tent c) (nI m) (nI t) 6
theorem ct_X7_quietAt {h : Wd} {k t m : Nat} {c : Mod} {hi : Bool} (hk : k + 24 < 76) (hm : m < 6) (ht : t < 64) (hT : okT (wm_tent c)) (ho : ok01 (wm_cold c)) : Ct mX7_quietAt [.ref k, .int (nI m), .int (nI t), .int (bI hi)] (wm h k c) (some (.int (qtA c m t hi))) (wm h k c) := by
  refine Ct.of (Z := List.replicate 0 .null) (by decide) (Nat.le_of_ble_eq_true rfl) (fun z hz => List.eq_of_mem_replicate hz) ?_
  show WW mX7_quietAt 0 [.ref k, .int (nI m), .int (nI t), .int (bI hi)] [] _ _ _
  refine r_iload_3 (pc := 0) dX7_quietAt_0 ?_
  refine r_if_eq (pc := 1) 13 dX7_quietAt_1 (by decide) (fun c1 => ?_) (fun c1 => ?_)
  · rw [bI_0] at c1
    refine r_aload_0 (pc := 13) dX7_quietAt_13 ?_
    refine r_iload_2 (pc := 14) dX7_quietAt_14 ?_
    refine r_iload_1 (pc := 15) dX7_quietAt_15 ?_
    refine r_cV1_2 (pc := 16) (ct_X7_heardAt hk ht hT ho) cv_X7_heardAt ⟨Nat.le_of_ble_eq_true rfl, Nat.le_of_ble_eq_true rfl⟩ ml_X7_227 dX7_quietAt_16 (by omega) (wm_o _ _ _) rfl rfl (Nat.le_of_ble_eq_true rfl) ?_
    refine r_iret (pc := 19) dX7_quietAt_19 rfl (by simp only [qtA, c1]; rfl) rfl
  · rw [bI_n0] at c1
    refine r_aload_0 (pc := 4) dX7_quietAt_4 ?_
    refine r_iload_1 (pc := 5) dX7_quietAt_5 ?_
    refine r_iload_2 (pc := 6) dX7_quietAt_6 ?_
    refine r_cV1_2 (pc := 7) (ct_X7_givenAway hk hm ht hT ho) cv_X7_givenAway ⟨Nat.le_of_ble_eq_true rfl, Nat.le_of_ble_eq_true rfl⟩ ml_X7_230 dX7_quietAt_7 (by omega) (wm_o _ _ _) rfl rfl (Nat.le_of_ble_eq_true rfl) ?_
    refine r_goto (pc := 10) 19 dX7_quietAt_10 (by decide) ?_
    refine r_iret (pc := 19) dX7_quietAt_19 rfl (by simp only [qtA, c1]; rfl) rfl
/-- the least by f among the cells within kk of tent te, r of 64 being left: best, least -/
def qst (P : Nat → Bool) (f : Nat → Int32) : Int32 × Int32 → Nat → Int32 × Int32
  | s, 0 => s
  | s, r + 1 => qst P f (if P (64 - (r + 1)) = true ∧ (s.1 < 0 ∨ f (64 - (r + 1)) < s.2) then (nI (64 - (r + 1)), f (64 - (r + 1))) else s) r
theorem lp_X7_quietest {h : Wd} {k m tt : Nat} {c : Mod} {kk what : Int32} {hi : Bool} (hk : k + 24 < 76) (hm : m < 6) (htt : tt < 64) (ett : wm_tent c m = nI tt) (hT : okT (wm_tent c)) (ho : ok01 (wm_cold c)) (R : Int32) : ∀ r t s, t + r = 64 → R = (if what = 0 then (qst (fun j => decide (dist (nI tt) (nI j) ≤ kk)) (fun j => qtA c m j hi) s r).1 else (qst (fun j => decide (dist (nI tt) (nI j) ≤ kk)) (fun j => qtA c m j hi) s r).2) → ∀ z : Value, WW mX7_quietest 10 [.ref k, .int (nI m), .int kk, .int what, .int (bI hi), .int s.1, .int s.2, .int (nI t), z] [] (wm h k c) (some (.int R)) (wm h k c) := by
  intro r
  induction r with
  | zero =>
    intro t s hj e z
    obtain rfl : t = 64 := by omega
    refine r_iload_7 (pc := 10) dX7_quietest_10 ?_
    refine r_bipush (pc := 12) 64 dX7_quietest_12 (by decide) ?_
    refine r_icmp_ge (pc := 14) 88 dX7_quietest_14 (by decide) (fun _ => ?_) (fun c14 => absurd (nI_le (a := 64) (b := 64) (by omega) (by omega)) (c14))
    refine r_iload_3 (pc := 88) dX7_quietest_88 ?_
    refine r_if_ne (pc := 89) 97 dX7_quietest_89 (by decide) (fun c89 => ?_) (fun c89 => ?_)
    · refine r_iload_6 (pc := 97) dX7_quietest_97 ?_
      refine r_iret (pc := 99) dX7_quietest_99 rfl (by rw [e, if_neg c89]; rfl) rfl
    · refine r_iload_5 (pc := 92) dX7_quietest_92 ?_
      refine r_goto (pc := 94) 99 dX7_quietest_94 (by decide) ?_
      refine r_iret (pc := 99) dX7_quietest_99 rfl (by rw [e, if_pos c89]; rfl) rfl
  | succ r ih =>
    intro t s hj e z
    have et : 64 - (r + 1) = t := by omega
    have go : ∀ s2 : Int32 × Int32, s2 = (if decide (dist (nI tt) (nI t) ≤ kk) = true ∧ (s.1 < 0 ∨ qtA c m t hi < s.2) then (nI t, qtA c m t hi) else s) → ∀ z1, WW mX7_quietest 10 [.ref k, .int (nI m), .int kk, .int what, .int (bI hi), .int s2.1, .int s2.2, .int (nI (t + 1)), z1] [] (wm h k c) (some (.int R)) (wm h k c) := fun s2 e2 z1 => ih (t + 1) s2 (by omega) (by rw [e, qst, et, e2]) z1
    clear ih
    refine r_iload_7 (pc := 10) dX7_quietest_10 ?_
    refine r_bipush (pc := 12) 64 dX7_quietest_12 (by decide) ?_
    refine r_icmp_ge (pc := 14) 88 dX7_quietest_14 (by decide) (fun c14 => absurd c14 (nI_ge (a := t) (b := 64) (by omega) (by decide))) (fun _ => ?_)
    refine r_iload_7 (pc := 17) dX7_quietest_17 ?_
    refine r_aload_0 (pc := 19) dX7_quietest_19 ?_
    refine r_wm_get_tent (pc := 20) hk fl_X7_16 dX7_quietest_20 ?_
    refine r_iload_1 (pc := 23) dX7_quietest_23 ?_
    refine r_wm_ld_tent (pc := 24) hk (by omega) dX7_quietest_24 ?_
    rw [ett]
    refine r_cS1_2 (pc := 25) (ct_X7_apartN (by omega) htt) cs_X7_apart ⟨Nat.le_of_ble_eq_true rfl, Nat.le_of_ble_eq_true rfl⟩ ml_X7_216 dX7_quietest_25 rfl (Nat.le_of_ble_eq_true rfl) ?_
    refine r_iload_2 (pc := 28) dX7_quietest_28 ?_
    refine r_icmp_gt (pc := 29) 44 dX7_quietest_29 (by decide) (fun c29 => ?_) (fun c29 => ?_)
    · refine r_iconst (pc := 44) 0 dX7_quietest_44 (by decide) ?_
      refine r_istore_8 (pc := 45) dX7_quietest_45 rfl (by decide) ?_
      refine r_iload_7 (pc := 47) dX7_quietest_47 ?_
      refine r_aload_0 (pc := 49) dX7_quietest_49 ?_
      refine r_wm_get_tent (pc := 50) hk fl_X7_16 dX7_quietest_50 ?_
      refine r_iload_1 (pc := 53) dX7_quietest_53 ?_
      refine r_wm_ld_tent (pc := 54) hk (by omega) dX7_quietest_54 ?_
      rw [ett]
      refine r_cS1_2 (pc := 55) (ct_X7_apartN (by omega) htt) cs_X7_apart ⟨Nat.le_of_ble_eq_true rfl, Nat.le_of_ble_eq_true rfl⟩ ml_X7_216 dX7_quietest_55 rfl (Nat.le_of_ble_eq_true rfl) ?_
      refine r_iload_2 (pc := 58) dX7_quietest_58 ?_
      refine r_icmp_gt (pc := 59) 82 dX7_quietest_59 (by decide) (fun _ => ?_) (fun c59 => absurd (c29) (c59))
      refine r_inc_7 (pc := 82) dX7_quietest_82 rfl (by decide) ?_
      refine r_goto (pc := 85) 10 dX7_quietest_85 (by decide) ?_
      exact go s (by rw [if_neg (fun z => absurd (of_decide_eq_true z.1) (Int32.not_le.mpr c29))]) _
    · refine r_aload_0 (pc := 32) dX7_quietest_32 ?_
      refine r_iload_1 (pc := 33) dX7_quietest_33 ?_
      refine r_iload_7 (pc := 34) dX7_quietest_34 ?_
      refine r_iload_4 (pc := 36) dX7_quietest_36 ?_
      refine r_cV1_3 (pc := 38) (ct_X7_quietAt hk hm (by omega) hT ho) cv_X7_quietAt ⟨Nat.le_of_ble_eq_true rfl, Nat.le_of_ble_eq_true rfl⟩ ml_X7_233 dX7_quietest_38 (by omega) (wm_o _ _ _) rfl rfl (Nat.le_of_ble_eq_true rfl) ?_
      refine r_goto (pc := 41) 45 dX7_quietest_41 (by decide) ?_
      refine r_istore_8 (pc := 45) dX7_quietest_45 rfl (by decide) ?_
      refine r_iload_7 (pc := 47) dX7_quietest_47 ?_
      refine r_aload_0 (pc := 49) dX7_quietest_49 ?_
      refine r_wm_get_tent (pc := 50) hk fl_X7_16 dX7_quietest_50 ?_
      refine r_iload_1 (pc := 53) dX7_quietest_53 ?_
      refine r_wm_ld_tent (pc := 54) hk (by omega) dX7_quietest_54 ?_
      rw [ett]
      refine r_cS1_2 (pc := 55) (ct_X7_apartN (by omega) htt) cs_X7_apart ⟨Nat.le_of_ble_eq_true rfl, Nat.le_of_ble_eq_true rfl⟩ ml_X7_216 dX7_quietest_55 rfl (Nat.le_of_ble_eq_true rfl) ?_
      refine r_iload_2 (pc := 58) dX7_quietest_58 ?_
      refine r_icmp_gt (pc := 59) 82 dX7_quietest_59 (by decide) (fun c59 => absurd c59 (c29)) (fun _ => ?_)
      refine r_iload_5 (pc := 62) dX7_quietest_62 ?_
      refine r_if_lt (pc := 64) 74 dX7_quietest_64 (by decide) (fun c64 => ?_) (fun c64 => ?_)
      · refine r_iload_7 (pc := 74) dX7_quietest_74 ?_
        refine r_istore_5 (pc := 76) dX7_quietest_76 rfl (by decide) ?_
        refine r_iload_8 (pc := 78) dX7_quietest_78 ?_
        refine r_istore_6 (pc := 80) dX7_quietest_80 rfl (by decide) ?_
        refine r_inc_7 (pc := 82) dX7_quietest_82 rfl (by decide) ?_
        refine r_goto (pc := 85) 10 dX7_quietest_85 (by decide) ?_
        exact go (nI t, qtA c m t hi) (by rw [if_pos ⟨decide_eq_true (Int32.not_lt.mp c29), Or.inl c64⟩]) _
      · refine r_iload_8 (pc := 67) dX7_quietest_67 ?_
        refine r_iload_6 (pc := 69) dX7_quietest_69 ?_
        refine r_icmp_ge (pc := 71) 82 dX7_quietest_71 (by decide) (fun c71 => ?_) (fun c71 => ?_)
        · refine r_inc_7 (pc := 82) dX7_quietest_82 rfl (by decide) ?_
          refine r_goto (pc := 85) 10 dX7_quietest_85 (by decide) ?_
          exact go s (by rw [if_neg (fun z => z.2.elim c64 (fun q => absurd q (Int32.not_lt.mpr c71)))]) _
        · refine r_iload_7 (pc := 74) dX7_quietest_74 ?_
          refine r_istore_5 (pc := 76) dX7_quietest_76 rfl (by decide) ?_
          refine r_iload_8 (pc := 78) dX7_quietest_78 ?_
          refine r_istore_6 (pc := 80) dX7_quietest_80 rfl (by decide) ?_
          refine r_inc_7 (pc := 82) dX7_quietest_82 rfl (by decide) ?_
          refine r_goto (pc := 85) 10 dX7_quietest_85 (by decide) ?_
          exact go (nI t, qtA c m t hi) (by rw [if_pos ⟨decide_eq_true (Int32.not_lt.mp c29), Or.inr (i_nle c71)⟩]) _
def qsV (P : Nat → Bool) (f : Nat → Int32) (what : Int32) : Int32 := if what = 0 then (qst P f (-6, 0) 64).1 else (qst P f (-6, 0) 64).2
theorem ct_X7_quietest {h : Wd} {k m tt : Nat} {c : Mod} {kk what : Int32} {hi : Bool} (hk : k + 24 < 76) (hm : m < 6) (htt : tt < 64) (ett : wm_tent c m = nI tt) (hT : okT (wm_tent c)) (ho : ok01 (wm_cold c)) : Ct mX7_quietest [.ref k, .int (nI m), .int kk, .int what, .int (bI hi)] (wm h k c) (some (.int (qsV (fun j => decide (dist (nI tt) (nI j) ≤ kk)) (fun j => qtA c m j hi) what))) (wm h k c) := by
  refine Ct.of (Z := List.replicate 4 .null) (by decide) (Nat.le_of_ble_eq_true rfl) (fun z hz => List.eq_of_mem_replicate hz) ?_
  show WW mX7_quietest 0 [.ref k, .int (nI m), .int kk, .int what, .int (bI hi), .null, .null, .null, .null] [] _ _ _
  refine r_bipush (pc := 0) (-6) dX7_quietest_0 (by decide) ?_
  refine r_istore_5 (pc := 2) dX7_quietest_2 rfl (by decide) ?_
  refine r_iconst (pc := 4) 0 dX7_quietest_4 (by decide) ?_
  refine r_istore_6 (pc := 5) dX7_quietest_5 rfl (by decide) ?_
  refine r_iconst (pc := 7) 0 dX7_quietest_7 (by decide) ?_
  refine r_istore_7 (pc := 8) dX7_quietest_8 rfl (by decide) ?_
  exact lp_X7_quietest hk hm htt ett hT ho _ 64 0 (-6, 0) rfl rfl _
theorem ct_X7_sleepB {h : Wd} {k : Nat} {c : Mod} {x y z : Int32} (hk : k + 24 < 76) (hb : hasB (wm_men c) x = false) : Ct mX7_sleep [.ref k, .int x, .int y, .int z] (wm h k c) (some (.int (-1))) (wm h k c) := by
  refine Ct.of (Z := List.replicate 0 .null) (by decide) (Nat.le_of_ble_eq_true rfl) (fun z hz => List.eq_of_mem_replicate hz) ?_
  show WW mX7_sleep 0 [.ref k, .int x, .int y, .int z] [] _ _ _
  refine r_aload_0 (pc := 0) dX7_sleep_0 ?_
  refine r_iload_1 (pc := 1) dX7_sleep_1 ?_
  refine r_cV1_1 (pc := 2) (ct_X7_isMan hk) cv_X7_isMan ⟨Nat.le_of_ble_eq_true rfl, Nat.le_of_ble_eq_true rfl⟩ ml_X7_106 dX7_sleep_2 (by omega) (wm_o _ _ _) rfl rfl (Nat.le_of_ble_eq_true rfl) ?_
  refine r_if_ne (pc := 5) 10 dX7_sleep_5 (by decide) (fun c5 => absurd (by rw [hb]; rfl) c5) (fun _ => ?_)
  refine r_iconst (pc := 8) (-1) dX7_sleep_8 (by decide) ?_
  refine r_iret (pc := 9) dX7_sleep_9 rfl (by first | rfl | simp_all [bI]) rfl
theorem ct_X7_sleepO {h : Wd} {k : Nat} {c : Mod} {x y z : Int32} (hk : k + 24 < 76) (hb : hasB (wm_men c) x = true) (ho : (inR y 0 14 && inR z 0 1) = false) : Ct mX7_sleep [.ref k, .int x, .int y, .int z] (wm h k c) (some (.int (-2))) (wm h k c) := by
  refine Ct.of (Z := List.replicate 0 .null) (by decide) (Nat.le_of_ble_eq_true rfl) (fun z hz => List.eq_of_mem_replicate hz) ?_
  show WW mX7_sleep 0 [.ref k, .int x, .int y, .int z] [] _ _ _
  refine r_aload_0 (pc := 0) dX7_sleep_0 ?_
  refine r_iload_1 (pc := 1) dX7_sleep_1 ?_
  refine r_cV1_1 (pc := 2) (ct_X7_isMan hk) cv_X7_isMan ⟨Nat.le_of_ble_eq_true rfl, Nat.le_of_ble_eq_true rfl⟩ ml_X7_106 dX7_sleep_2 (by omega) (wm_o _ _ _) rfl rfl (Nat.le_of_ble_eq_true rfl) ?_
  refine r_if_ne (pc := 5) 10 dX7_sleep_5 (by decide) (fun _ => ?_) (fun c5 => absurd c5 (by rw [hb]; decide))
  refine r_iload_2 (pc := 10) dX7_sleep_10 ?_
  refine r_i2l (pc := 11) dX7_sleep_11 ?_
  refine r_lconst (pc := 12) 0 dX7_sleep_12 (by decide) ?_
  refine r_ldc2 (pc := 13) dX7_sleep_13 kl_X7_237 ?_
  refine r_cS1_3 (pc := 16) (ct_X7_inI (lo := 0) (hi := 14) (by decide) (by decide)) cs_X7_in ⟨Nat.le_of_ble_eq_true rfl, Nat.le_of_ble_eq_true rfl⟩ ml_X7_86 dX7_sleep_16 rfl (Nat.le_of_ble_eq_true rfl) ?_
  refine r_if_eq (pc := 19) 43 dX7_sleep_19 (by decide) (fun c19 => ?_) (fun c19 => ?_)
  · refine r_bipush (pc := 43) (-2) dX7_sleep_43 (by decide) ?_
    refine r_iret (pc := 45) dX7_sleep_45 rfl (by first | rfl | simp_all [bI]) rfl
  · refine r_iload_3 (pc := 22) dX7_sleep_22 ?_
    refine r_i2l (pc := 23) dX7_sleep_23 ?_
    refine r_lconst (pc := 24) 0 dX7_sleep_24 (by decide) ?_
    refine r_lconst (pc := 25) 1 dX7_sleep_25 (by decide) ?_
    refine r_cS1_3 (pc := 26) (ct_X7_inI (lo := 0) (hi := 1) (by decide) (by decide)) cs_X7_in ⟨Nat.le_of_ble_eq_true rfl, Nat.le_of_ble_eq_true rfl⟩ ml_X7_86 dX7_sleep_26 rfl (Nat.le_of_ble_eq_true rfl) ?_
    refine r_if_eq (pc := 29) 43 dX7_sleep_29 (by decide) (fun c29 => ?_) (fun c29 => ?_)
    · refine r_bipush (pc := 43) (-2) dX7_sleep_43 (by decide) ?_
      refine r_iret (pc := 45) dX7_sleep_45 rfl (by first | rfl | simp_all [bI]) rfl
    · exact absurd ho (by rw [bI_n0] at c19 c29; rw [c19, c29]; decide)
theorem ct_X7_sleep {h : Wd} {k m tt : Nat} {c : Mod} {y z : Int32} (hk : k + 24 < 76) (hm : m < 6) (hb : hasB (wm_men c) (nI m) = true) (hy : inR y 0 14 = true) (hz : inR z 0 1 = true) (htt : tt < 64) (ett : wm_tent c m = nI tt) (hT : okT (wm_tent c)) (ho : ok01 (wm_cold c)) : Ct mX7_sleep [.ref k, .int (nI m), .int y, .int z] (wm h k c) (some (.int (qsV (fun j => decide (dist (nI tt) (nI j) ≤ y)) (fun j => qtA c m j false) z))) (wm h k c) := by
  refine Ct.of (Z := List.replicate 0 .null) (by decide) (Nat.le_of_ble_eq_true rfl) (fun z hz => List.eq_of_mem_replicate hz) ?_
  show WW mX7_sleep 0 [.ref k, .int (nI m), .int y, .int z] [] _ _ _
  refine r_aload_0 (pc := 0) dX7_sleep_0 ?_
  refine r_iload_1 (pc := 1) dX7_sleep_1 ?_
  refine r_cV1_1 (pc := 2) (ct_X7_isMan hk) cv_X7_isMan ⟨Nat.le_of_ble_eq_true rfl, Nat.le_of_ble_eq_true rfl⟩ ml_X7_106 dX7_sleep_2 (by omega) (wm_o _ _ _) rfl rfl (Nat.le_of_ble_eq_true rfl) ?_
  refine r_if_ne (pc := 5) 10 dX7_sleep_5 (by decide) (fun _ => ?_) (fun c5 => absurd c5 (by rw [hb]; decide))
  refine r_iload_2 (pc := 10) dX7_sleep_10 ?_
  refine r_i2l (pc := 11) dX7_sleep_11 ?_
  refine r_lconst (pc := 12) 0 dX7_sleep_12 (by decide) ?_
  refine r_ldc2 (pc := 13) dX7_sleep_13 kl_X7_237 ?_
  refine r_cS1_3 (pc := 16) (ct_X7_inI (lo := 0) (hi := 14) (by decide) (by decide)) cs_X7_in ⟨Nat.le_of_ble_eq_true rfl, Nat.le_of_ble_eq_true rfl⟩ ml_X7_86 dX7_sleep_16 rfl (Nat.le_of_ble_eq_true rfl) ?_
  refine r_if_eq (pc := 19) 43 dX7_sleep_19 (by decide) (fun c19 => absurd c19 (by rw [hy]; decide)) (fun _ => ?_)
  refine r_iload_3 (pc := 22) dX7_sleep_22 ?_
  refine r_i2l (pc := 23) dX7_sleep_23 ?_
  refine r_lconst (pc := 24) 0 dX7_sleep_24 (by decide) ?_
  refine r_lconst (pc := 25) 1 dX7_sleep_25 (by decide) ?_
  refine r_cS1_3 (pc := 26) (ct_X7_inI (lo := 0) (hi := 1) (by decide) (by decide)) cs_X7_in ⟨Nat.le_of_ble_eq_true rfl, Nat.le_of_ble_eq_true rfl⟩ ml_X7_86 dX7_sleep_26 rfl (Nat.le_of_ble_eq_true rfl) ?_
  refine r_if_eq (pc := 29) 43 dX7_sleep_29 (by decide) (fun c29 => absurd c29 (by rw [hz]; decide)) (fun _ => ?_)
  refine r_aload_0 (pc := 32) dX7_sleep_32 ?_
  refine r_iload_1 (pc := 33) dX7_sleep_33 ?_
  refine r_iload_2 (pc := 34) dX7_sleep_34 ?_
  refine r_iload_3 (pc := 35) dX7_sleep_35 ?_
  refine r_iconst (pc := 36) 0 dX7_sleep_36 (by decide) ?_
  refine r_cV1_4 (pc := 37) (ct_X7_quietest (hi := false) hk hm htt ett hT ho) cv_X7_quietest ⟨Nat.le_of_ble_eq_true rfl, Nat.le_of_ble_eq_true rfl⟩ ml_X7_239 dX7_sleep_37 (by omega) (wm_o _ _ _) rfl rfl (Nat.le_of_ble_eq_true rfl) ?_
  refine r_goto (pc := 40) 45 dX7_sleep_40 (by decide) ?_
  refine r_iret (pc := 45) dX7_sleep_45 rfl (by first | rfl | simp_all [bI]) rfl
theorem ct_X7_hideB {h : Wd} {k : Nat} {c : Mod} {x y z : Int32} (hk : k + 24 < 76) (hb : hasB (wm_men c) x = false) : Ct mX7_hide [.ref k, .int x, .int y, .int z] (wm h k c) (some (.int (-1))) (wm h k c) := by
  refine Ct.of (Z := List.replicate 0 .null) (by decide) (Nat.le_of_ble_eq_true rfl) (fun z hz => List.eq_of_mem_replicate hz) ?_
  show WW mX7_hide 0 [.ref k, .int x, .int y, .int z] [] _ _ _
  refine r_aload_0 (pc := 0) dX7_hide_0 ?_
  refine r_iload_1 (pc := 1) dX7_hide_1 ?_
  refine r_cV1_1 (pc := 2) (ct_X7_isMan hk) cv_X7_isMan ⟨Nat.le_of_ble_eq_true rfl, Nat.le_of_ble_eq_true rfl⟩ ml_X7_106 dX7_hide_2 (by omega) (wm_o _ _ _) rfl rfl (Nat.le_of_ble_eq_true rfl) ?_
  refine r_if_ne (pc := 5) 10 dX7_hide_5 (by decide) (fun c5 => absurd (by rw [hb]; rfl) c5) (fun _ => ?_)
  refine r_iconst (pc := 8) (-1) dX7_hide_8 (by decide) ?_
  refine r_iret (pc := 9) dX7_hide_9 rfl (by first | rfl | simp_all [bI]) rfl
theorem ct_X7_hideO {h : Wd} {k : Nat} {c : Mod} {x y z : Int32} (hk : k + 24 < 76) (hb : hasB (wm_men c) x = true) (ho : (inR y 0 14 && inR z 0 1) = false) : Ct mX7_hide [.ref k, .int x, .int y, .int z] (wm h k c) (some (.int (-2))) (wm h k c) := by
  refine Ct.of (Z := List.replicate 0 .null) (by decide) (Nat.le_of_ble_eq_true rfl) (fun z hz => List.eq_of_mem_replicate hz) ?_
  show WW mX7_hide 0 [.ref k, .int x, .int y, .int z] [] _ _ _
  refine r_aload_0 (pc := 0) dX7_hide_0 ?_
  refine r_iload_1 (pc := 1) dX7_hide_1 ?_
  refine r_cV1_1 (pc := 2) (ct_X7_isMan hk) cv_X7_isMan ⟨Nat.le_of_ble_eq_true rfl, Nat.le_of_ble_eq_true rfl⟩ ml_X7_106 dX7_hide_2 (by omega) (wm_o _ _ _) rfl rfl (Nat.le_of_ble_eq_true rfl) ?_
  refine r_if_ne (pc := 5) 10 dX7_hide_5 (by decide) (fun _ => ?_) (fun c5 => absurd c5 (by rw [hb]; decide))
  refine r_iload_2 (pc := 10) dX7_hide_10 ?_
  refine r_i2l (pc := 11) dX7_hide_11 ?_
  refine r_lconst (pc := 12) 0 dX7_hide_12 (by decide) ?_
  refine r_ldc2 (pc := 13) dX7_hide_13 kl_X7_237 ?_
  refine r_cS1_3 (pc := 16) (ct_X7_inI (lo := 0) (hi := 14) (by decide) (by decide)) cs_X7_in ⟨Nat.le_of_ble_eq_true rfl, Nat.le_of_ble_eq_true rfl⟩ ml_X7_86 dX7_hide_16 rfl (Nat.le_of_ble_eq_true rfl) ?_
  refine r_if_eq (pc := 19) 43 dX7_hide_19 (by decide) (fun c19 => ?_) (fun c19 => ?_)
  · refine r_bipush (pc := 43) (-2) dX7_hide_43 (by decide) ?_
    refine r_iret (pc := 45) dX7_hide_45 rfl (by first | rfl | simp_all [bI]) rfl
  · refine r_iload_3 (pc := 22) dX7_hide_22 ?_
    refine r_i2l (pc := 23) dX7_hide_23 ?_
    refine r_lconst (pc := 24) 0 dX7_hide_24 (by decide) ?_
    refine r_lconst (pc := 25) 1 dX7_hide_25 (by decide) ?_
    refine r_cS1_3 (pc := 26) (ct_X7_inI (lo := 0) (hi := 1) (by decide) (by decide)) cs_X7_in ⟨Nat.le_of_ble_eq_true rfl, Nat.le_of_ble_eq_true rfl⟩ ml_X7_86 dX7_hide_26 rfl (Nat.le_of_ble_eq_true rfl) ?_
    refine r_if_eq (pc := 29) 43 dX7_hide_29 (by decide) (fun c29 => ?_) (fun c29 => ?_)
    · refine r_bipush (pc := 43) (-2) dX7_hide_43 (by decide) ?_
      refine r_iret (pc := 45) dX7_hide_45 rfl (by first | rfl | simp_all [bI]) rfl
    · exact absurd ho (by rw [bI_n0] at c19 c29; rw [c19, c29]; decide)
theorem ct_X7_hide {h : Wd} {k m tt : Nat} {c : Mod} {y z : Int32} (hk : k + 24 < 76) (hm : m < 6) (hb : hasB (wm_men c) (nI m) = true) (hy : inR y 0 14 = true) (hz : inR z 0 1 = true) (htt : tt < 64) (ett : wm_tent c m = nI tt) (hT : okT (wm_tent c)) (ho : ok01 (wm_cold c)) : Ct mX7_hide [.ref k, .int (nI m), .int y, .int z] (wm h k c) (some (.int (qsV (fun j => decide (dist (nI tt) (nI j) ≤ y)) (fun j => qtA c m j true) z))) (wm h k c) := by
  refine Ct.of (Z := List.replicate 0 .null) (by decide) (Nat.le_of_ble_eq_true rfl) (fun z hz => List.eq_of_mem_replicate hz) ?_
  show WW mX7_hide 0 [.ref k, .int (nI m), .int y, .int z] [] _ _ _
  refine r_aload_0 (pc := 0) dX7_hide_0 ?_
  refine r_iload_1 (pc := 1) dX7_hide_1 ?_
  refine r_cV1_1 (pc := 2) (ct_X7_isMan hk) cv_X7_isMan ⟨Nat.le_of_ble_eq_true rfl, Nat.le_of_ble_eq_true rfl⟩ ml_X7_106 dX7_hide_2 (by omega) (wm_o _ _ _) rfl rfl (Nat.le_of_ble_eq_true rfl) ?_
  refine r_if_ne (pc := 5) 10 dX7_hide_5 (by decide) (fun _ => ?_) (fun c5 => absurd c5 (by rw [hb]; decide))
  refine r_iload_2 (pc := 10) dX7_hide_10 ?_
  refine r_i2l (pc := 11) dX7_hide_11 ?_
  refine r_lconst (pc := 12) 0 dX7_hide_12 (by decide) ?_
  refine r_ldc2 (pc := 13) dX7_hide_13 kl_X7_237 ?_
  refine r_cS1_3 (pc := 16) (ct_X7_inI (lo := 0) (hi := 14) (by decide) (by decide)) cs_X7_in ⟨Nat.le_of_ble_eq_true rfl, Nat.le_of_ble_eq_true rfl⟩ ml_X7_86 dX7_hide_16 rfl (Nat.le_of_ble_eq_true rfl) ?_
  refine r_if_eq (pc := 19) 43 dX7_hide_19 (by decide) (fun c19 => absurd c19 (by rw [hy]; decide)) (fun _ => ?_)
  refine r_iload_3 (pc := 22) dX7_hide_22 ?_
  refine r_i2l (pc := 23) dX7_hide_23 ?_
  refine r_lconst (pc := 24) 0 dX7_hide_24 (by decide) ?_
  refine r_lconst (pc := 25) 1 dX7_hide_25 (by decide) ?_
  refine r_cS1_3 (pc := 26) (ct_X7_inI (lo := 0) (hi := 1) (by decide) (by decide)) cs_X7_in ⟨Nat.le_of_ble_eq_true rfl, Nat.le_of_ble_eq_true rfl⟩ ml_X7_86 dX7_hide_26 rfl (Nat.le_of_ble_eq_true rfl) ?_
  refine r_if_eq (pc := 29) 43 dX7_hide_29 (by decide) (fun c29 => absurd c29 (by rw [hz]; decide)) (fun _ => ?_)
  refine r_aload_0 (pc := 32) dX7_hide_32 ?_
  refine r_iload_1 (pc := 33) dX7_hide_33 ?_
  refine r_iload_2 (pc := 34) dX7_hide_34 ?_
  refine r_iload_3 (pc := 35) dX7_hide_35 ?_
  refine r_iconst (pc := 36) 1 dX7_hide_36 (by decide) ?_
  refine r_cV1_4 (pc := 37) (ct_X7_quietest (hi := true) hk hm htt ett hT ho) cv_X7_quietest ⟨Nat.le_of_ble_eq_true rfl, Nat.le_of_ble_eq_true rfl⟩ ml_X7_239 dX7_hide_37 (by omega) (wm_o _ _ _) rfl rfl (Nat.le_of_ble_eq_true rfl) ?_
  refine r_goto (pc := 40) 45 dX7_hide_40 (by decide) ?_
  refine r_iret (pc := 45) dX7_hide_45 rfl (by first | rfl | simp_all [bI]) rfl
