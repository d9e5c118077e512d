/-! THE CAMP: snores, what is heard, acts, nights -/
def gsum (g : Nat → Int32) (x : Int64) : Nat → Int32 := isum (fun j => if kb x j then g j else 0)
theorem lp_X0_goldIn {h : Wd} {k : Nat} {c : Camp} {x : Int64} (hk : k + 6 < 76) : ∀ n j, j + n = 64 → WW mX0_goldIn 5 [.ref k, .long x, .null, .int (gsum (wc_goldOn c) x j), .int (nI j)] [] (wc h k c) (some (.int (gsum (wc_goldOn c) x 64))) (wc h k c) := by
  intro n
  induction n with
  | zero =>
    intro j hj
    obtain rfl : j = 64 := by omega
    refine r_iload_4 (pc := 5) dX0_goldIn_5 ?_
    refine r_bipush (pc := 7) 64 dX0_goldIn_7 (by decide) ?_
    refine r_icmp_ge (pc := 9) 39 dX0_goldIn_9 (by decide) (fun _ => ?_) (fun c9 => absurd (nI_le (a := 64) (b := 64) (by omega) (by omega)) (c9))
    refine r_iload_3 (pc := 39) dX0_goldIn_39 ?_
    refine r_iret (pc := 40) dX0_goldIn_40 rfl (by first | rfl | simp_all [bI]) rfl
  | succ n ih =>
    intro j hj
    refine r_iload_4 (pc := 5) dX0_goldIn_5 ?_
    refine r_bipush (pc := 7) 64 dX0_goldIn_7 (by decide) ?_
    refine r_icmp_ge (pc := 9) 39 dX0_goldIn_9 (by decide) (fun c9 => absurd c9 (nI_ge (a := j) (b := 64) (by omega) (by decide))) (fun _ => ?_)
    refine r_lload_1 (pc := 12) dX0_goldIn_12 ?_
    refine r_iload_4 (pc := 13) dX0_goldIn_13 ?_
    refine r_lushr (pc := 15) dX0_goldIn_15 ?_
    refine r_lconst (pc := 16) 1 dX0_goldIn_16 (by decide) ?_
    refine r_land (pc := 17) dX0_goldIn_17 ?_
    refine r_lconst (pc := 18) 1 dX0_goldIn_18 (by decide) ?_
    refine r_lcmp_ne (pc := 19) 33 dX0_goldIn_19 dX0_goldIn_20 (by decide) (fun c19 => ?_) (fun c19 => ?_)
    · refine r_inc_4 (pc := 33) dX0_goldIn_33 rfl (by decide) ?_
      refine r_goto (pc := 36) 5 dX0_goldIn_36 (by decide) ?_
      exact (ih (j + 1) (by omega)).L (by rw [gsum, isum, if_neg (fun z => c19 ((kb_u x (by omega)).mpr z)), Int32.add_zero] <;> rfl)
    · refine r_iload_3 (pc := 23) dX0_goldIn_23 ?_
      refine r_aload_0 (pc := 24) dX0_goldIn_24 ?_
      refine r_wc_get_goldOn (pc := 25) hk fl_X0_9 dX0_goldIn_25 ?_
      refine r_iload_4 (pc := 28) dX0_goldIn_28 ?_
      refine r_wc_ld_goldOn (pc := 30) hk (by omega) dX0_goldIn_30 ?_
      refine r_iadd (pc := 31) dX0_goldIn_31 ?_
      refine r_istore_3 (pc := 32) dX0_goldIn_32 rfl (by decide) ?_
      refine r_inc_4 (pc := 33) dX0_goldIn_33 rfl (by decide) ?_
      refine r_goto (pc := 36) 5 dX0_goldIn_36 (by decide) ?_
      exact (ih (j + 1) (by omega)).L (by rw [gsum, isum, if_pos ((kb_u x (by omega)).mp c19)] <;> rfl)
theorem ct_X0_goldIn {h : Wd} {k : Nat} {c : Camp} {x : Int64} (hk : k + 6 < 76) : Ct mX0_goldIn [.ref k, .long x] (wc h k c) (some (.int (gsum (wc_goldOn c) x 64))) (wc h k c) := by
  refine Ct.of (Z := List.replicate 2 .null) (by decide) (Nat.le_of_ble_eq_true rfl) (fun z hz => List.eq_of_mem_replicate hz) ?_
  show WW mX0_goldIn 0 [.ref k, .long x, .null, .null, .null] [] _ _ _
  refine r_iconst (pc := 0) 0 dX0_goldIn_0 (by decide) ?_
  refine r_istore_3 (pc := 1) dX0_goldIn_1 rfl (by decide) ?_
  refine r_iconst (pc := 2) 0 dX0_goldIn_2 (by decide) ?_
  refine r_istore_4 (pc := 3) dX0_goldIn_3 rfl (by decide) ?_
  exact lp_X0_goldIn hk 64 0 rfl
/-- a snore: the gold together, three more with a cold, the half with whistling, 99 at most -/
def snv (g : Nat → Int32) (x : Int64) (cold wh : Bool) : Int32 :=
  if 99 < (if wh then (gsum g x 64 + (if cold then 3 else 0)) / 2 else gsum g x 64 + (if cold then 3 else 0)) then 99 else (if wh then (gsum g x 64 + (if cold then 3 else 0)) / 2 else gsum g x 64 + (if cold then 3 else 0))
theorem ct_X0_snoreIf {h : Wd} {k m : Nat} {c : Camp} {cold : Bool} (hk : k + 6 < 76) (hm : m < 6) : Ct mX0_snoreIf [.ref k, .int (nI m), .int (bI cold)] (wc h k c) (some (.int (snv (wc_goldOn c) (wc_known c m) cold (bt (wc_whistling c) m)))) (wc h k c) := by
  refine Ct.of (Z := List.replicate 1 .null) (by decide) (Nat.le_of_ble_eq_true rfl) (fun z hz => List.eq_of_mem_replicate hz) ?_
  show WW mX0_snoreIf 0 [.ref k, .int (nI m), .int (bI cold), .null] [] _ _ _
  refine r_aload_0 (pc := 0) dX0_snoreIf_0 ?_
  refine r_aload_0 (pc := 1) dX0_snoreIf_1 ?_
  refine r_iload_1 (pc := 2) dX0_snoreIf_2 ?_
  refine r_cV1_1 (pc := 3) (ct_X0_knownTo hk hm) cv_X0_knownTo ⟨Nat.le_of_ble_eq_true rfl, Nat.le_of_ble_eq_true rfl⟩ ml_X0_92 dX0_snoreIf_3 (by omega) (wc_o _ _ _) rfl rfl (Nat.le_of_ble_eq_true rfl) ?_
  refine r_cV1_1 (pc := 6) (ct_X0_goldIn hk) cv_X0_goldIn ⟨Nat.le_of_ble_eq_true rfl, Nat.le_of_ble_eq_true rfl⟩ ml_X0_95 dX0_snoreIf_6 (by omega) (wc_o _ _ _) rfl rfl (Nat.le_of_ble_eq_true rfl) ?_
  refine r_istore_3 (pc := 9) dX0_snoreIf_9 rfl (by decide) ?_
  refine r_iload_2 (pc := 10) dX0_snoreIf_10 ?_
  refine r_if_eq (pc := 11) 17 dX0_snoreIf_11 (by decide) (fun c11 => ?_) (fun c11 => ?_)
  · refine r_aload_0 (pc := 17) dX0_snoreIf_17 ?_
    refine r_iload_1 (pc := 18) dX0_snoreIf_18 ?_
    refine r_cV1_1 (pc := 19) (ct_X0_isWhistling hk) cv_X0_isWhistling ⟨Nat.le_of_ble_eq_true rfl, Nat.le_of_ble_eq_true rfl⟩ ml_X0_98 dX0_snoreIf_19 (by omega) (wc_o _ _ _) rfl rfl (Nat.le_of_ble_eq_true rfl) ?_
    refine r_if_eq (pc := 22) 29 dX0_snoreIf_22 (by decide) (fun c22 => ?_) (fun c22 => ?_)
    · rw [hasB_n hm] at c22
      refine r_iload_3 (pc := 29) dX0_snoreIf_29 ?_
      refine r_bipush (pc := 30) 99 dX0_snoreIf_30 (by decide) ?_
      refine r_min (pc := 32) dX0_snoreIf_32 ml_X0_101 (by decide) (Nat.le_of_ble_eq_true rfl) ?_
      refine r_iret (pc := 35) dX0_snoreIf_35 rfl (by simp_all [snv, bI_0, bI_n0]) rfl
    · rw [hasB_n hm] at c22
      refine r_iload_3 (pc := 25) dX0_snoreIf_25 ?_
      refine r_iconst (pc := 26) 2 dX0_snoreIf_26 (by decide) ?_
      refine r_idiv (pc := 27) dX0_snoreIf_27 (by decide) ?_
      refine r_istore_3 (pc := 28) dX0_snoreIf_28 rfl (by decide) ?_
      refine r_iload_3 (pc := 29) dX0_snoreIf_29 ?_
      refine r_bipush (pc := 30) 99 dX0_snoreIf_30 (by decide) ?_
      refine r_min (pc := 32) dX0_snoreIf_32 ml_X0_101 (by decide) (Nat.le_of_ble_eq_true rfl) ?_
      refine r_iret (pc := 35) dX0_snoreIf_35 rfl (by simp_all [snv, bI_0, bI_n0]) rfl
  · refine r_iinc_3 (pc := 14) 3 dX0_snoreIf_14 (by decide) rfl (by decide) ?_
    refine r_aload_0 (pc := 17) dX0_snoreIf_17 ?_
    refine r_iload_1 (pc := 18) dX0_snoreIf_18 ?_
    refine r_cV1_1 (pc := 19) (ct_X0_isWhistling hk) cv_X0_isWhistling ⟨Nat.le_of_ble_eq_true rfl, Nat.le_of_ble_eq_true rfl⟩ ml_X0_98 dX0_snoreIf_19 (by omega) (wc_o _ _ _) rfl rfl (Nat.le_of_ble_eq_true rfl) ?_
    refine r_if_eq (pc := 22) 29 dX0_snoreIf_22 (by decide) (fun c22 => ?_) (fun c22 => ?_)
    · rw [hasB_n hm] at c22
      refine r_iload_3 (pc := 29) dX0_snoreIf_29 ?_
      refine r_bipush (pc := 30) 99 dX0_snoreIf_30 (by decide) ?_
      refine r_min (pc := 32) dX0_snoreIf_32 ml_X0_101 (by decide) (Nat.le_of_ble_eq_true rfl) ?_
      refine r_iret (pc := 35) dX0_snoreIf_35 rfl (by simp_all [snv, bI_0, bI_n0]) rfl
    · rw [hasB_n hm] at c22
      refine r_iload_3 (pc := 25) dX0_snoreIf_25 ?_
      refine r_iconst (pc := 26) 2 dX0_snoreIf_26 (by decide) ?_
      refine r_idiv (pc := 27) dX0_snoreIf_27 (by decide) ?_
      refine r_istore_3 (pc := 28) dX0_snoreIf_28 rfl (by decide) ?_
      refine r_iload_3 (pc := 29) dX0_snoreIf_29 ?_
      refine r_bipush (pc := 30) 99 dX0_snoreIf_30 (by decide) ?_
      refine r_min (pc := 32) dX0_snoreIf_32 ml_X0_101 (by decide) (Nat.le_of_ble_eq_true rfl) ?_
      refine r_iret (pc := 35) dX0_snoreIf_35 rfl (by simp_all [snv, bI_0, bI_n0]) rfl
def snC (c : Camp) (m : Nat) : Int32 := snv (wc_goldOn c) (wc_known c m) (bt (wc_withCold c) m) (bt (wc_whistling c) m)
theorem ct_X0_snoreOf {h : Wd} {k m : Nat} {c : Camp} (hk : k + 6 < 76) (hm : m < 6) : Ct mX0_snoreOf [.ref k, .int (nI m)] (wc h k c) (some (.int (snC c m))) (wc h k c) := by
  refine Ct.of (Z := List.replicate 0 .null) (by decide) (Nat.le_of_ble_eq_true rfl) (fun z hz => List.eq_of_mem_replicate hz) ?_
  show WW mX0_snoreOf 0 [.ref k, .int (nI m)] [] _ _ _
  refine r_aload_0 (pc := 0) dX0_snoreOf_0 ?_
  refine r_iload_1 (pc := 1) dX0_snoreOf_1 ?_
  refine r_aload_0 (pc := 2) dX0_snoreOf_2 ?_
  refine r_iload_1 (pc := 3) dX0_snoreOf_3 ?_
  refine r_cV1_1 (pc := 4) (ct_X0_hasCold hk) cv_X0_hasCold ⟨Nat.le_of_ble_eq_true rfl, Nat.le_of_ble_eq_true rfl⟩ ml_X0_85 dX0_snoreOf_4 (by omega) (wc_o _ _ _) rfl rfl (Nat.le_of_ble_eq_true rfl) ?_
  refine r_cV1_2 (pc := 7) (ct_X0_snoreIf hk hm) cv_X0_snoreIf ⟨Nat.le_of_ble_eq_true rfl, Nat.le_of_ble_eq_true rfl⟩ ml_X0_88 dX0_snoreOf_7 (by omega) (wc_o _ _ _) rfl rfl (Nat.le_of_ble_eq_true rfl) ?_
  refine r_iret (pc := 10) dX0_snoreOf_10 rfl (by rw [hasB_n hm] <;> rfl) rfl
def lsn (c : Camp) : Nat → Nat → Int32
  | 0 => wc_snores c
  | n + 1 => upd (lsn c n) n (snC c n)
theorem lsn_at {c : Camp} {m : Nat} : ∀ n, m < n → lsn c n m = snC c m
  | n + 1, hn => by
    rw [lsn]
    by_cases e : m = n
    · subst e; exact pk_us
    · rw [pk_un e]; exact lsn_at n (by omega)
def lst (c : Camp) : Camp := wc_s_snores c (lsn c 6)
theorem lp_X0_listen {h : Wd} {k : Nat} {c : Camp} (hk : k + 6 < 76) : ∀ n j, j + n = 6 → WW mX0_listen 2 [.ref k, .int (nI j)] [] (wc h k (wc_s_snores c (lsn c j))) none (wc h k (lst c)) := by
  intro n
  induction n with
  | zero =>
    intro j hj
    obtain rfl : j = 6 := by omega
    refine r_iload_1 (pc := 2) dX0_listen_2 ?_
    refine r_bipush (pc := 3) 6 dX0_listen_3 (by decide) ?_
    refine r_icmp_ge (pc := 5) 25 dX0_listen_5 (by decide) (fun _ => ?_) (fun c5 => absurd (nI_le (a := 6) (b := 6) (by omega) (by omega)) (c5))
    refine r_vret (pc := 25) dX0_listen_25 rfl rfl rfl
  | succ n ih =>
    intro j hj
    refine r_iload_1 (pc := 2) dX0_listen_2 ?_
    refine r_bipush (pc := 3) 6 dX0_listen_3 (by decide) ?_
    refine r_icmp_ge (pc := 5) 25 dX0_listen_5 (by decide) (fun c5 => absurd c5 (nI_ge (a := j) (b := 6) (by omega) (by decide))) (fun _ => ?_)
    refine r_aload_0 (pc := 8) dX0_listen_8 ?_
    refine r_wc_get_snores (pc := 9) hk fl_X0_28 dX0_listen_9 ?_
    refine r_iload_1 (pc := 12) dX0_listen_12 ?_
    refine r_aload_0 (pc := 13) dX0_listen_13 ?_
    refine r_iload_1 (pc := 14) dX0_listen_14 ?_
    refine r_cV1_1 (pc := 15) (ct_X0_snoreOf hk (by omega)) cv_X0_snoreOf ⟨Nat.le_of_ble_eq_true rfl, Nat.le_of_ble_eq_true rfl⟩ ml_X0_107 dX0_listen_15 (by omega) (wc_o _ _ _) rfl rfl (Nat.le_of_ble_eq_true rfl) ?_
    refine r_wc_st_snores (pc := 18) hk (by omega) dX0_listen_18 ?_
    refine r_inc_1 (pc := 19) dX0_listen_19 rfl (by decide) ?_
    refine r_goto (pc := 22) 2 dX0_listen_22 (by decide) ?_
    exact ih (j + 1) (by omega)
theorem ct_X0_listen {h : Wd} {k : Nat} {c : Camp} (hk : k + 6 < 76) : Ct mX0_listen [.ref k] (wc h k c) none (wc h k (lst c)) := by
  refine Ct.of (Z := List.replicate 1 .null) (by decide) (Nat.le_of_ble_eq_true rfl) (fun z hz => List.eq_of_mem_replicate hz) ?_
  show WW mX0_listen 0 [.ref k, .null] [] _ _ _
  refine r_iconst (pc := 0) 0 dX0_listen_0 (by decide) ?_
  refine r_istore_1 (pc := 1) dX0_listen_1 rfl (by decide) ?_
  exact lp_X0_listen (c := c) hk 6 0 rfl
def mx0 (v : Int32) : Int32 := if 0 < v then v else 0
/-- what is heard at a cell of those whose bits are in men, but one -/
def hrd (men : Int32) (sn te : Nat → Int32) (un cell : Int32) : Nat → Int32 := isum (fun m => if ¬ nI m = un ∧ bt men m = true then mx0 (sn m - dist (te m) cell) else 0)
theorem lp_X0_heardWithout {h : Wd} {k : Nat} {c : Camp} {un cell : Int32} (hk : k + 6 < 76) : ∀ n j, j + n = 6 → WW mX0_heardWithout 5 [.ref k, .int un, .int cell, .int (hrd (wc_men c) (wc_snores c) (wc_tents c) un cell j), .int (nI j)] [] (wc h k c) (some (.int (hrd (wc_men c) (wc_snores c) (wc_tents c) un cell 6))) (wc h k c) := by
  intro n
  induction n with
  | zero =>
    intro j hj
    obtain rfl : j = 6 := by omega
    refine r_iload_4 (pc := 5) dX0_heardWithout_5 ?_
    refine r_bipush (pc := 7) 6 dX0_heardWithout_7 (by decide) ?_
    refine r_icmp_ge (pc := 9) 59 dX0_heardWithout_9 (by decide) (fun _ => ?_) (fun c9 => absurd (nI_le (a := 6) (b := 6) (by omega) (by omega)) (c9))
    refine r_iload_3 (pc := 59) dX0_heardWithout_59 ?_
    refine r_iret (pc := 60) dX0_heardWithout_60 rfl (by first | rfl | simp_all [bI]) rfl
  | succ n ih =>
    intro j hj
    refine r_iload_4 (pc := 5) dX0_heardWithout_5 ?_
    refine r_bipush (pc := 7) 6 dX0_heardWithout_7 (by decide) ?_
    refine r_icmp_ge (pc := 9) 59 dX0_heardWithout_9 (by decide) (fun c9 => absurd c9 (nI_ge (a := j) (b := 6) (by omega) (by decide))) (fun _ => ?_)
    refine r_iload_4 (pc := 12) dX0_heardWithout_12 ?_
    refine r_iload_1 (pc := 14) dX0_heardWithout_14 ?_
    refine r_icmp_eq (pc := 15) 53 dX0_heardWithout_15 (by decide) (fun c15 => ?_) (fun c15 => ?_)
    · refine r_inc_4 (pc := 53) dX0_heardWithout_53 rfl (by decide) ?_
      refine r_goto (pc := 56) 5 dX0_heardWithout_56 (by decide) ?_
      exact (ih (j + 1) (by omega)).L (by rw [hrd, isum, if_neg (fun z => z.1 c15), Int32.add_zero] <;> rfl)
    · refine r_aload_0 (pc := 18) dX0_heardWithout_18 ?_
      refine r_iload_4 (pc := 19) dX0_heardWithout_19 ?_
      refine r_cV1_1 (pc := 21) (ct_X0_isThere hk) cv_X0_isThere ⟨Nat.le_of_ble_eq_true rfl, Nat.le_of_ble_eq_true rfl⟩ ml_X0_113 dX0_heardWithout_21 (by omega) (wc_o _ _ _) rfl rfl (Nat.le_of_ble_eq_true rfl) ?_
      refine r_if_eq (pc := 24) 53 dX0_heardWithout_24 (by decide) (fun c24 => ?_) (fun c24 => ?_)
      · rw [hasB_n (by omega), bI_0] at c24
        refine r_inc_4 (pc := 53) dX0_heardWithout_53 rfl (by decide) ?_
        refine r_goto (pc := 56) 5 dX0_heardWithout_56 (by decide) ?_
        exact (ih (j + 1) (by omega)).L (by rw [hrd, isum, if_neg (fun z => by rw [c24] at z; cases z.2), Int32.add_zero] <;> rfl)
      · rw [hasB_n (by omega), bI_n0] at c24
        refine r_iload_3 (pc := 27) dX0_heardWithout_27 ?_
        refine r_iconst (pc := 28) 0 dX0_heardWithout_28 (by decide) ?_
        refine r_aload_0 (pc := 29) dX0_heardWithout_29 ?_
        refine r_wc_get_snores (pc := 30) hk fl_X0_28 dX0_heardWithout_30 ?_
        refine r_iload_4 (pc := 33) dX0_heardWithout_33 ?_
        refine r_wc_ld_snores (pc := 35) hk (by omega) dX0_heardWithout_35 ?_
        refine r_aload_0 (pc := 36) dX0_heardWithout_36 ?_
        refine r_wc_get_tents (pc := 37) hk fl_X0_18 dX0_heardWithout_37 ?_
        refine r_iload_4 (pc := 40) dX0_heardWithout_40 ?_
        refine r_wc_ld_tents (pc := 42) hk (by omega) dX0_heardWithout_42 ?_
        refine r_iload_2 (pc := 43) dX0_heardWithout_43 ?_
        refine r_cSN1_2 (pc := 44) (ct_X6_distance) cs_X6_distance ⟨Nat.le_of_ble_eq_true rfl, Nat.le_of_ble_eq_true rfl⟩ (List.mem_of_getElem? (i := 7) rfl) dX0_heardWithout_44 rfl (Nat.le_of_ble_eq_true rfl) ?_
        refine r_isub (pc := 47) dX0_heardWithout_47 ?_
        refine r_max (pc := 48) dX0_heardWithout_48 ml_X0_119 (by decide) (Nat.le_of_ble_eq_true rfl) ?_
        refine r_iadd (pc := 51) dX0_heardWithout_51 ?_
        refine r_istore_3 (pc := 52) dX0_heardWithout_52 rfl (by decide) ?_
        refine r_inc_4 (pc := 53) dX0_heardWithout_53 rfl (by decide) ?_
        refine r_goto (pc := 56) 5 dX0_heardWithout_56 (by decide) ?_
        exact (ih (j + 1) (by omega)).L (by rw [hrd, isum, if_pos (And.intro c15 c24)] <;> rfl)
theorem ct_X0_heardWithout {h : Wd} {k : Nat} {c : Camp} {un cell : Int32} (hk : k + 6 < 76) : Ct mX0_heardWithout [.ref k, .int un, .int cell] (wc h k c) (some (.int (hrd (wc_men c) (wc_snores c) (wc_tents c) un cell 6))) (wc h k c) := by
  refine Ct.of (Z := List.replicate 2 .null) (by decide) (Nat.le_of_ble_eq_true rfl) (fun z hz => List.eq_of_mem_replicate hz) ?_
  show WW mX0_heardWithout 0 [.ref k, .int un, .int cell, .null, .null] [] _ _ _
  refine r_iconst (pc := 0) 0 dX0_heardWithout_0 (by decide) ?_
  refine r_istore_3 (pc := 1) dX0_heardWithout_1 rfl (by decide) ?_
  refine r_iconst (pc := 2) 0 dX0_heardWithout_2 (by decide) ?_
  refine r_istore_4 (pc := 3) dX0_heardWithout_3 rfl (by decide) ?_
  exact lp_X0_heardWithout hk 6 0 rfl
theorem ct_X0_heardAt {h : Wd} {k : Nat} {c : Camp} {cell : Int32} (hk : k + 6 < 76) : Ct mX0_heardAt [.ref k, .int cell] (wc h k c) (some (.int (hrd (wc_men c) (wc_snores c) (wc_tents c) (-1) cell 6))) (wc h k c) := by
  refine Ct.of (Z := List.replicate 0 .null) (by decide) (Nat.le_of_ble_eq_true rfl) (fun z hz => List.eq_of_mem_replicate hz) ?_
  show WW mX0_heardAt 0 [.ref k, .int cell] [] _ _ _
  refine r_aload_0 (pc := 0) dX0_heardAt_0 ?_
  refine r_iconst (pc := 1) (-1) dX0_heardAt_1 (by decide) ?_
  refine r_iload_1 (pc := 2) dX0_heardAt_2 ?_
  refine r_cV1_2 (pc := 3) (ct_X0_heardWithout hk) cv_X0_heardWithout ⟨Nat.le_of_ble_eq_true rfl, Nat.le_of_ble_eq_true rfl⟩ ml_X0_110 dX0_heardAt_3 (by omega) (wc_o _ _ _) rfl rfl (Nat.le_of_ble_eq_true rfl) ?_
  refine r_iret (pc := 6) dX0_heardAt_6 rfl (by first | rfl | simp_all [bI]) rfl
/-- what the others hear of one, at a cell -/
def hrb (men : Int32) (sn : Int32) (te : Nat → Int32) (un cell : Int32) : Nat → Int32 := isum (fun m => if ¬ nI m = un ∧ bt men m = true then mx0 (sn - dist cell (te m)) else 0)
theorem lp_X0_heardByOthers {h : Wd} {k : Nat} {c : Camp} {un cell sn : Int32} (hk : k + 6 < 76) : ∀ n j, j + n = 6 → WW mX0_heardByOthers 24 [.ref k, .int un, .int cell, .int sn, .int (hrb (wc_men c) sn (wc_tents c) un cell j), .int (nI j)] [] (wc h k c) (some (.int (hrb (wc_men c) sn (wc_tents c) un cell 6))) (wc h k c) := by
  intro n
  induction n with
  | zero =>
    intro j hj
    obtain rfl : j = 6 := by omega
    refine r_iload_5 (pc := 24) dX0_heardByOthers_24 ?_
    refine r_bipush (pc := 26) 6 dX0_heardByOthers_26 (by decide) ?_
    refine r_icmp_ge (pc := 28) 74 dX0_heardByOthers_28 (by decide) (fun _ => ?_) (fun c28 => absurd (nI_le (a := 6) (b := 6) (by omega) (by omega)) (c28))
    refine r_iload_4 (pc := 74) dX0_heardByOthers_74 ?_
    refine r_iret (pc := 76) dX0_heardByOthers_76 rfl (by first | rfl | simp_all [bI]) rfl
  | succ n ih =>
    intro j hj
    refine r_iload_5 (pc := 24) dX0_heardByOthers_24 ?_
    refine r_bipush (pc := 26) 6 dX0_heardByOthers_26 (by decide) ?_
    refine r_icmp_ge (pc := 28) 74 dX0_heardByOthers_28 (by decide) (fun c28 => absurd c28 (nI_ge (a := j) (b := 6) (by omega) (by decide))) (fun _ => ?_)
    refine r_iload_5 (pc := 31) dX0_heardByOthers_31 ?_
    refine r_iload_1 (pc := 33) dX0_heardByOthers_33 ?_
    refine r_icmp_eq (pc := 34) 68 dX0_heardByOthers_34 (by decide) (fun c34 => ?_) (fun c34 => ?_)
    · refine r_inc_5 (pc := 68) dX0_heardByOthers_68 rfl (by decide) ?_
      refine r_goto (pc := 71) 24 dX0_heardByOthers_71 (by decide) ?_
      exact (ih (j + 1) (by omega)).L (by rw [hrb, isum, if_neg (fun z => z.1 c34), Int32.add_zero] <;> rfl)
    · refine r_aload_0 (pc := 37) dX0_heardByOthers_37 ?_
      refine r_iload_5 (pc := 38) dX0_heardByOthers_38 ?_
      refine r_cV1_1 (pc := 40) (ct_X0_isThere hk) cv_X0_isThere ⟨Nat.le_of_ble_eq_true rfl, Nat.le_of_ble_eq_true rfl⟩ ml_X0_113 dX0_heardByOthers_40 (by omega) (wc_o _ _ _) rfl rfl (Nat.le_of_ble_eq_true rfl) ?_
      refine r_if_eq (pc := 43) 68 dX0_heardByOthers_43 (by decide) (fun c43 => ?_) (fun c43 => ?_)
      · rw [hasB_n (by omega), bI_0] at c43
        refine r_inc_5 (pc := 68) dX0_heardByOthers_68 rfl (by decide) ?_
        refine r_goto (pc := 71) 24 dX0_heardByOthers_71 (by decide) ?_
        exact (ih (j + 1) (by omega)).L (by rw [hrb, isum, if_neg (fun z => by rw [c43] at z; cases z.2), Int32.add_zero] <;> rfl)
      · rw [hasB_n (by omega), bI_n0] at c43
        refine r_iload_4 (pc := 46) dX0_heardByOthers_46 ?_
        refine r_iconst (pc := 48) 0 dX0_heardByOthers_48 (by decide) ?_
        refine r_iload_3 (pc := 49) dX0_heardByOthers_49 ?_
        refine r_iload_2 (pc := 50) dX0_heardByOthers_50 ?_
        refine r_aload_0 (pc := 51) dX0_heardByOthers_51 ?_
        refine r_wc_get_tents (pc := 52) hk fl_X0_18 dX0_heardByOthers_52 ?_
        refine r_iload_5 (pc := 55) dX0_heardByOthers_55 ?_
        refine r_wc_ld_tents (pc := 57) hk (by omega) dX0_heardByOthers_57 ?_
        refine r_cSN1_2 (pc := 58) (ct_X6_distance) cs_X6_distance ⟨Nat.le_of_ble_eq_true rfl, Nat.le_of_ble_eq_true rfl⟩ (List.mem_of_getElem? (i := 7) rfl) dX0_heardByOthers_58 rfl (Nat.le_of_ble_eq_true rfl) ?_
        refine r_isub (pc := 61) dX0_heardByOthers_61 ?_
        refine r_max (pc := 62) dX0_heardByOthers_62 ml_X0_119 (by decide) (Nat.le_of_ble_eq_true rfl) ?_
        refine r_iadd (pc := 65) dX0_heardByOthers_65 ?_
        refine r_istore_4 (pc := 66) dX0_heardByOthers_66 rfl (by decide) ?_
        refine r_inc_5 (pc := 68) dX0_heardByOthers_68 rfl (by decide) ?_
        refine r_goto (pc := 71) 24 dX0_heardByOthers_71 (by decide) ?_
        exact (ih (j + 1) (by omega)).L (by rw [hrb, isum, if_pos (And.intro c34 c43)] <;> rfl)
theorem ct_X0_heardByOthers {h : Wd} {k m : Nat} {c : Camp} {cell : Int32} (hk : k + 6 < 76) (hm : m < 6) : Ct mX0_heardByOthers [.ref k, .int (nI m), .int cell] (wc h k c) (some (.int (hrb (wc_men c) (wc_snores c m) (wc_tents c) (nI m) cell 6))) (wc h k c) := by
  refine Ct.of (Z := List.replicate 3 .null) (by decide) (Nat.le_of_ble_eq_true rfl) (fun z hz => List.eq_of_mem_replicate hz) ?_
  show WW mX0_heardByOthers 0 [.ref k, .int (nI m), .int cell, .null, .null, .null] [] _ _ _
  refine r_iload_1 (pc := 0) dX0_heardByOthers_0 ?_
  refine r_cSN1_1 (pc := 1) (ct_X6_isManNumber) cs_X6_isManNumber ⟨Nat.le_of_ble_eq_true rfl, Nat.le_of_ble_eq_true rfl⟩ (List.mem_of_getElem? (i := 2) rfl) dX0_heardByOthers_1 rfl (Nat.le_of_ble_eq_true rfl) ?_
  refine r_if_eq (pc := 4) 16 dX0_heardByOthers_4 (by decide) (fun c4 => absurd c4 (by rw [isM_n hm]; decide)) (fun _ => ?_)
  refine r_aload_0 (pc := 7) dX0_heardByOthers_7 ?_
  refine r_wc_get_snores (pc := 8) hk fl_X0_28 dX0_heardByOthers_8 ?_
  refine r_iload_1 (pc := 11) dX0_heardByOthers_11 ?_
  refine r_wc_ld_snores (pc := 12) hk (by omega) dX0_heardByOthers_12 ?_
  refine r_goto (pc := 13) 17 dX0_heardByOthers_13 (by decide) ?_
  refine r_istore_3 (pc := 17) dX0_heardByOthers_17 rfl (by decide) ?_
  refine r_iconst (pc := 18) 0 dX0_heardByOthers_18 (by decide) ?_
  refine r_istore_4 (pc := 19) dX0_heardByOthers_19 rfl (by decide) ?_
  refine r_iconst (pc := 21) 0 dX0_heardByOthers_21 (by decide) ?_
  refine r_istore_5 (pc := 22) dX0_heardByOthers_22 rfl (by decide) ?_
  exact lp_X0_heardByOthers hk 6 0 rfl
/-- twice the share of two, or of one alone -/
def twS (g : Nat → Int32) (kn : Nat → Int64) (a b : Nat) : Int32 := if a = b then 2 * gsum g (kn a) 64 else gsum g (kn a ||| kn b) 64
theorem ct_X0_twiceShare {h : Wd} {k a b : Nat} {c : Camp} (hk : k + 6 < 76) (ha : a < 6) (hb : b < 6) : Ct mX0_twiceShare [.ref k, .int (nI a), .int (nI b)] (wc h k c) (some (.int (twS (wc_goldOn c) (wc_known c) a b))) (wc h k c) := by
  refine Ct.of (Z := List.replicate 0 .null) (by decide) (Nat.le_of_ble_eq_true rfl) (fun z hz => List.eq_of_mem_replicate hz) ?_
  show WW mX0_twiceShare 0 [.ref k, .int (nI a), .int (nI b)] [] _ _ _
  refine r_iload_1 (pc := 0) dX0_twiceShare_0 ?_
  refine r_iload_2 (pc := 1) dX0_twiceShare_1 ?_
  refine r_icmp_ne (pc := 2) 17 dX0_twiceShare_2 (by decide) (fun c2 => ?_) (fun c2 => ?_)
  · refine r_aload_0 (pc := 17) dX0_twiceShare_17 ?_
    refine r_aload_0 (pc := 18) dX0_twiceShare_18 ?_
    refine r_iload_1 (pc := 19) dX0_twiceShare_19 ?_
    refine r_cV1_1 (pc := 20) (ct_X0_knownTo hk ha) cv_X0_knownTo ⟨Nat.le_of_ble_eq_true rfl, Nat.le_of_ble_eq_true rfl⟩ ml_X0_92 dX0_twiceShare_20 (by omega) (wc_o _ _ _) rfl rfl (Nat.le_of_ble_eq_true rfl) ?_
    refine r_aload_0 (pc := 23) dX0_twiceShare_23 ?_
    refine r_iload_2 (pc := 24) dX0_twiceShare_24 ?_
    refine r_cV1_1 (pc := 25) (ct_X0_knownTo hk hb) cv_X0_knownTo ⟨Nat.le_of_ble_eq_true rfl, Nat.le_of_ble_eq_true rfl⟩ ml_X0_92 dX0_twiceShare_25 (by omega) (wc_o _ _ _) rfl rfl (Nat.le_of_ble_eq_true rfl) ?_
    refine r_lor (pc := 28) dX0_twiceShare_28 ?_
    refine r_cV1_1 (pc := 29) (ct_X0_goldIn hk) cv_X0_goldIn ⟨Nat.le_of_ble_eq_true rfl, Nat.le_of_ble_eq_true rfl⟩ ml_X0_95 dX0_twiceShare_29 (by omega) (wc_o _ _ _) rfl rfl (Nat.le_of_ble_eq_true rfl) ?_
    refine r_iret (pc := 32) dX0_twiceShare_32 rfl (by rw [twS, if_neg (fun z => c2 ((nI_eq (by omega) (by omega)).mpr z))]) rfl
  · refine r_iconst (pc := 5) 2 dX0_twiceShare_5 (by decide) ?_
    refine r_aload_0 (pc := 6) dX0_twiceShare_6 ?_
    refine r_aload_0 (pc := 7) dX0_twiceShare_7 ?_
    refine r_iload_1 (pc := 8) dX0_twiceShare_8 ?_
    refine r_cV1_1 (pc := 9) (ct_X0_knownTo hk ha) cv_X0_knownTo ⟨Nat.le_of_ble_eq_true rfl, Nat.le_of_ble_eq_true rfl⟩ ml_X0_92 dX0_twiceShare_9 (by omega) (wc_o _ _ _) rfl rfl (Nat.le_of_ble_eq_true rfl) ?_
    refine r_cV1_1 (pc := 12) (ct_X0_goldIn hk) cv_X0_goldIn ⟨Nat.le_of_ble_eq_true rfl, Nat.le_of_ble_eq_true rfl⟩ ml_X0_95 dX0_twiceShare_12 (by omega) (wc_o _ _ _) rfl rfl (Nat.le_of_ble_eq_true rfl) ?_
    refine r_imul (pc := 15) dX0_twiceShare_15 ?_
    refine r_iret (pc := 16) dX0_twiceShare_16 rfl (by rw [twS, if_pos ((nI_eq (by omega) (by omega)).mp c2)]) rfl
/-- the cell to which a deed leads -/
def stF (x deed : Int32) : Int32 := if deed = 0 then (if 7 ≤ x / 8 then -6 else x + 8) else if deed = 1 then (if 7 ≤ x - x / 8 * 8 then -6 else x + 1) else if deed = 2 then (if x / 8 ≤ 0 then -6 else x - 8) else if deed = 3 then (if x - x / 8 * 8 ≤ 0 then -6 else x - 1) else x
theorem ct_X0_stepFrom {h : Wd} {x deed : Int32} : Ct mX0_stepFrom [.int x, .int deed] h (some (.int (stF x deed))) h := by
  refine Ct.of (Z := List.replicate 0 .null) (by decide) (Nat.le_of_ble_eq_true rfl) (fun z hz => List.eq_of_mem_replicate hz) ?_
  show WW mX0_stepFrom 0 [.int x, .int deed] [] _ _ _
  refine r_iload_1 (pc := 0) dX0_stepFrom_0 ?_
  by_cases e1_0 : deed = 0
  · refine r_tabIn (pc := 1) (off := 31) 0 32 dX0_stepFrom_1 (by rw [e1_0]; decide) (by decide) (by decide) rfl (by decide) ?_
    refine r_iload_0 (pc := 32) dX0_stepFrom_32 ?_
    refine r_cSN1_1 (pc := 33) (ct_X6_rowOf) cs_X6_rowOf ⟨Nat.le_of_ble_eq_true rfl, Nat.le_of_ble_eq_true rfl⟩ (List.mem_of_getElem? (i := 5) rfl) dX0_stepFrom_33 rfl (Nat.le_of_ble_eq_true rfl) ?_
    refine r_bipush (pc := 36) 7 dX0_stepFrom_36 (by decide) ?_
    refine r_icmp_ge (pc := 38) 48 dX0_stepFrom_38 (by decide) (fun c38 => ?_) (fun c38 => ?_)
    · refine r_bipush (pc := 48) (-6) dX0_stepFrom_48 (by decide) ?_
      refine r_iret (pc := 50) dX0_stepFrom_50 rfl (by simp [stF, *]) rfl
    · refine r_iload_0 (pc := 41) dX0_stepFrom_41 ?_
      refine r_bipush (pc := 42) 8 dX0_stepFrom_42 (by decide) ?_
      refine r_iadd (pc := 44) dX0_stepFrom_44 ?_
      refine r_goto (pc := 45) 50 dX0_stepFrom_45 (by decide) ?_
      refine r_iret (pc := 50) dX0_stepFrom_50 rfl (by simp [stF, *]) rfl
  by_cases e1_1 : deed = 1
  · refine r_tabIn (pc := 1) (off := 50) 1 51 dX0_stepFrom_1 (by rw [e1_1]; decide) (by decide) (by decide) rfl (by decide) ?_
    refine r_iload_0 (pc := 51) dX0_stepFrom_51 ?_
    refine r_cSN1_1 (pc := 52) (ct_X6_columnOf) cs_X6_columnOf ⟨Nat.le_of_ble_eq_true rfl, Nat.le_of_ble_eq_true rfl⟩ (List.mem_of_getElem? (i := 6) rfl) dX0_stepFrom_52 rfl (Nat.le_of_ble_eq_true rfl) ?_
    refine r_bipush (pc := 55) 7 dX0_stepFrom_55 (by decide) ?_
    refine r_icmp_ge (pc := 57) 66 dX0_stepFrom_57 (by decide) (fun c57 => ?_) (fun c57 => ?_)
    · refine r_bipush (pc := 66) (-6) dX0_stepFrom_66 (by decide) ?_
      refine r_iret (pc := 68) dX0_stepFrom_68 rfl (by simp [stF, *]) rfl
    · refine r_iload_0 (pc := 60) dX0_stepFrom_60 ?_
      refine r_iconst (pc := 61) 1 dX0_stepFrom_61 (by decide) ?_
      refine r_iadd (pc := 62) dX0_stepFrom_62 ?_
      refine r_goto (pc := 63) 68 dX0_stepFrom_63 (by decide) ?_
      refine r_iret (pc := 68) dX0_stepFrom_68 rfl (by simp [stF, *]) rfl
  by_cases e1_2 : deed = 2
  · refine r_tabIn (pc := 1) (off := 68) 2 69 dX0_stepFrom_1 (by rw [e1_2]; decide) (by decide) (by decide) rfl (by decide) ?_
    refine r_iload_0 (pc := 69) dX0_stepFrom_69 ?_
    refine r_cSN1_1 (pc := 70) (ct_X6_rowOf) cs_X6_rowOf ⟨Nat.le_of_ble_eq_true rfl, Nat.le_of_ble_eq_true rfl⟩ (List.mem_of_getElem? (i := 5) rfl) dX0_stepFrom_70 rfl (Nat.le_of_ble_eq_true rfl) ?_
    refine r_if_le (pc := 73) 83 dX0_stepFrom_73 (by decide) (fun c73 => ?_) (fun c73 => ?_)
    · refine r_bipush (pc := 83) (-6) dX0_stepFrom_83 (by decide) ?_
      refine r_iret (pc := 85) dX0_stepFrom_85 rfl (by simp [stF, *]) rfl
    · refine r_iload_0 (pc := 76) dX0_stepFrom_76 ?_
      refine r_bipush (pc := 77) 8 dX0_stepFrom_77 (by decide) ?_
      refine r_isub (pc := 79) dX0_stepFrom_79 ?_
      refine r_goto (pc := 80) 85 dX0_stepFrom_80 (by decide) ?_
      refine r_iret (pc := 85) dX0_stepFrom_85 rfl (by simp [stF, *]) rfl
  by_cases e1_3 : deed = 3
  · refine r_tabIn (pc := 1) (off := 85) 3 86 dX0_stepFrom_1 (by rw [e1_3]; decide) (by decide) (by decide) rfl (by decide) ?_
    refine r_iload_0 (pc := 86) dX0_stepFrom_86 ?_
    refine r_cSN1_1 (pc := 87) (ct_X6_columnOf) cs_X6_columnOf ⟨Nat.le_of_ble_eq_true rfl, Nat.le_of_ble_eq_true rfl⟩ (List.mem_of_getElem? (i := 6) rfl) dX0_stepFrom_87 rfl (Nat.le_of_ble_eq_true rfl) ?_
    refine r_if_le (pc := 90) 99 dX0_stepFrom_90 (by decide) (fun c90 => ?_) (fun c90 => ?_)
    · refine r_bipush (pc := 99) (-6) dX0_stepFrom_99 (by decide) ?_
      refine r_iret (pc := 101) dX0_stepFrom_101 rfl (by simp [stF, *]) rfl
    · refine r_iload_0 (pc := 93) dX0_stepFrom_93 ?_
      refine r_iconst (pc := 94) 1 dX0_stepFrom_94 (by decide) ?_
      refine r_isub (pc := 95) dX0_stepFrom_95 ?_
      refine r_goto (pc := 96) 101 dX0_stepFrom_96 (by decide) ?_
      refine r_iret (pc := 101) dX0_stepFrom_101 rfl (by simp [stF, *]) rfl
  refine r_tabOut (pc := 1) 102 dX0_stepFrom_1 (by have z0 := lv_neT (a := 0) e1_0 (by decide); have z1 := lv_neT (a := 1) e1_1 (by decide); have z2 := lv_neT (a := 2) e1_2 (by decide); have z3 := lv_neT (a := 3) e1_3 (by decide); omega) (by decide) ?_
  refine r_iload_0 (pc := 102) dX0_stepFrom_102 ?_
  refine r_iret (pc := 103) dX0_stepFrom_103 rfl (by simp [stF, *]) rfl
/-- the least reason why an act can not be -/
def rsn (c : Camp) (x deed : Int32) : Int32 := if deed = 6 then 0 else if hasB (wc_men c) x = true then (if stF (wc_tents c x.toNatClampNeg) deed = -6 then 2 else if deed = 4 ∧ kb (wc_known c x.toNatClampNeg) (wc_tents c x.toNatClampNeg).toNatClampNeg = true then 3 else if deed = 5 ∧ ¬ wc_claimers c (wc_tents c x.toNatClampNeg).toNatClampNeg = -1 then 4 else 0) else 1
def okT (te : Nat → Int32) : Prop := ∀ m, m < 6 → ∃ t, t < 64 ∧ te m = nI t
theorem ct_X0_reasonAgainst {h : Wd} {k : Nat} {c : Camp} {x deed : Int32} (hk : k + 6 < 76) (hT : okT (wc_tents c)) : Ct mX0_reasonAgainst [.ref k, .int x, .int deed] (wc h k c) (some (.int (rsn c x deed))) (wc h k c) := by
  refine Ct.of (Z := List.replicate 1 .null) (by decide) (Nat.le_of_ble_eq_true rfl) (fun z hz => List.eq_of_mem_replicate hz) ?_
  show WW mX0_reasonAgainst 0 [.ref k, .int x, .int deed, .null] [] _ _ _
  refine r_iload_2 (pc := 0) dX0_reasonAgainst_0 ?_
  refine r_bipush (pc := 1) 6 dX0_reasonAgainst_1 (by decide) ?_
  refine r_icmp_ne (pc := 3) 8 dX0_reasonAgainst_3 (by decide) (fun c3 => ?_) (fun c3 => ?_)
  · refine r_aload_0 (pc := 8) dX0_reasonAgainst_8 ?_
    refine r_iload_1 (pc := 9) dX0_reasonAgainst_9 ?_
    refine r_cV1_1 (pc := 10) (ct_X0_isThere hk) cv_X0_isThere ⟨Nat.le_of_ble_eq_true rfl, Nat.le_of_ble_eq_true rfl⟩ ml_X0_113 dX0_reasonAgainst_10 (by omega) (wc_o _ _ _) rfl rfl (Nat.le_of_ble_eq_true rfl) ?_
    refine r_if_ne (pc := 13) 18 dX0_reasonAgainst_13 (by decide) (fun c13 => ?_) (fun c13 => ?_)
    · rw [bI_n0] at c13
      have c13b := c13
      obtain ⟨m, hm, rfl, hb⟩ := hasB_t c13
      obtain ⟨t, ht, et⟩ := hT m hm
      have em : (nI m).toNatClampNeg = m := ci hm (by decide)
      have en : (nI t).toNatClampNeg = t := ci ht (by decide)
      refine r_aload_0 (pc := 18) dX0_reasonAgainst_18 ?_
      refine r_iload_1 (pc := 19) dX0_reasonAgainst_19 ?_
      refine r_cV1_1 (pc := 20) (ct_X0_tentOf hk hm) cv_X0_tentOf ⟨Nat.le_of_ble_eq_true rfl, Nat.le_of_ble_eq_true rfl⟩ ml_X0_122 dX0_reasonAgainst_20 (by omega) (wc_o _ _ _) rfl rfl (Nat.le_of_ble_eq_true rfl) ?_
      refine r_istore_3 (pc := 23) dX0_reasonAgainst_23 rfl (by decide) ?_
      rw [et]
      refine r_iload_3 (pc := 24) dX0_reasonAgainst_24 ?_
      refine r_iload_2 (pc := 25) dX0_reasonAgainst_25 ?_
      refine r_cS1_2 (pc := 26) (ct_X0_stepFrom) cs_X0_stepFrom ⟨Nat.le_of_ble_eq_true rfl, Nat.le_of_ble_eq_true rfl⟩ ml_X0_125 dX0_reasonAgainst_26 rfl (Nat.le_of_ble_eq_true rfl) ?_
      refine r_bipush (pc := 29) (-6) dX0_reasonAgainst_29 (by decide) ?_
      refine r_icmp_ne (pc := 31) 36 dX0_reasonAgainst_31 (by decide) (fun c31 => ?_) (fun c31 => ?_)
      · refine r_iload_2 (pc := 36) dX0_reasonAgainst_36 ?_
        refine r_iconst (pc := 37) 4 dX0_reasonAgainst_37 (by decide) ?_
        refine r_icmp_ne (pc := 38) 52 dX0_reasonAgainst_38 (by decide) (fun c38 => ?_) (fun c38 => ?_)
        · refine r_iload_2 (pc := 52) dX0_reasonAgainst_52 ?_
          refine r_iconst (pc := 53) 5 dX0_reasonAgainst_53 (by decide) ?_
          refine r_icmp_ne (pc := 54) 68 dX0_reasonAgainst_54 (by decide) (fun c54 => ?_) (fun c54 => ?_)
          · refine r_iconst (pc := 68) 0 dX0_reasonAgainst_68 (by decide) ?_
            refine r_iret (pc := 69) dX0_reasonAgainst_69 rfl (by simp_all [rsn, bI_0, bI_n0]) rfl
          · refine r_aload_0 (pc := 57) dX0_reasonAgainst_57 ?_
            refine r_iload_3 (pc := 58) dX0_reasonAgainst_58 ?_
            refine r_cV1_1 (pc := 59) (ct_X0_claimerOf hk ht) cv_X0_claimerOf ⟨Nat.le_of_ble_eq_true rfl, Nat.le_of_ble_eq_true rfl⟩ ml_X0_131 dX0_reasonAgainst_59 (by omega) (wc_o _ _ _) rfl rfl (Nat.le_of_ble_eq_true rfl) ?_
            refine r_iconst (pc := 62) (-1) dX0_reasonAgainst_62 (by decide) ?_
            refine r_icmp_eq (pc := 63) 68 dX0_reasonAgainst_63 (by decide) (fun c63 => ?_) (fun c63 => ?_)
            · refine r_iconst (pc := 68) 0 dX0_reasonAgainst_68 (by decide) ?_
              refine r_iret (pc := 69) dX0_reasonAgainst_69 rfl (by simp_all [rsn, bI_0, bI_n0]) rfl
            · refine r_iconst (pc := 66) 4 dX0_reasonAgainst_66 (by decide) ?_
              refine r_iret (pc := 67) dX0_reasonAgainst_67 rfl (by simp_all [rsn, bI_0, bI_n0]) rfl
        · refine r_aload_0 (pc := 41) dX0_reasonAgainst_41 ?_
          refine r_iload_1 (pc := 42) dX0_reasonAgainst_42 ?_
          refine r_iload_3 (pc := 43) dX0_reasonAgainst_43 ?_
          refine r_cV1_2 (pc := 44) (ct_X0_isKnownTo hk hm ht) cv_X0_isKnownTo ⟨Nat.le_of_ble_eq_true rfl, Nat.le_of_ble_eq_true rfl⟩ ml_X0_128 dX0_reasonAgainst_44 (by omega) (wc_o _ _ _) rfl rfl (Nat.le_of_ble_eq_true rfl) ?_
          refine r_if_eq (pc := 47) 52 dX0_reasonAgainst_47 (by decide) (fun c47 => ?_) (fun c47 => ?_)
          · refine r_iload_2 (pc := 52) dX0_reasonAgainst_52 ?_
            refine r_iconst (pc := 53) 5 dX0_reasonAgainst_53 (by decide) ?_
            refine r_icmp_ne (pc := 54) 68 dX0_reasonAgainst_54 (by decide) (fun c54 => ?_) (fun c54 => ?_)
            · refine r_iconst (pc := 68) 0 dX0_reasonAgainst_68 (by decide) ?_
              refine r_iret (pc := 69) dX0_reasonAgainst_69 rfl (by simp_all [rsn, bI_0, bI_n0]) rfl
            · refine r_aload_0 (pc := 57) dX0_reasonAgainst_57 ?_
              refine r_iload_3 (pc := 58) dX0_reasonAgainst_58 ?_
              refine r_cV1_1 (pc := 59) (ct_X0_claimerOf hk ht) cv_X0_claimerOf ⟨Nat.le_of_ble_eq_true rfl, Nat.le_of_ble_eq_true rfl⟩ ml_X0_131 dX0_reasonAgainst_59 (by omega) (wc_o _ _ _) rfl rfl (Nat.le_of_ble_eq_true rfl) ?_
              refine r_iconst (pc := 62) (-1) dX0_reasonAgainst_62 (by decide) ?_
              refine r_icmp_eq (pc := 63) 68 dX0_reasonAgainst_63 (by decide) (fun c63 => ?_) (fun c63 => ?_)
              · refine r_iconst (pc := 68) 0 dX0_reasonAgainst_68 (by decide) ?_
                refine r_iret (pc := 69) dX0_reasonAgainst_69 rfl (by simp_all [rsn, bI_0, bI_n0]) rfl
              · refine r_iconst (pc := 66) 4 dX0_reasonAgainst_66 (by decide) ?_
                refine r_iret (pc := 67) dX0_reasonAgainst_67 rfl (by simp_all [rsn, bI_0, bI_n0]) rfl
          · refine r_iconst (pc := 50) 3 dX0_reasonAgainst_50 (by decide) ?_
            refine r_iret (pc := 51) dX0_reasonAgainst_51 rfl (by simp_all [rsn, bI_0, bI_n0]) rfl
      · refine r_iconst (pc := 34) 2 dX0_reasonAgainst_34 (by decide) ?_
        refine r_iret (pc := 35) dX0_reasonAgainst_35 rfl (by simp_all [rsn, bI_0, bI_n0]) rfl
    · rw [bI_0] at c13
      refine r_iconst (pc := 16) 1 dX0_reasonAgainst_16 (by decide) ?_
      refine r_iret (pc := 17) dX0_reasonAgainst_17 rfl (by simp_all [rsn, bI_0, bI_n0]) rfl
  · refine r_iconst (pc := 6) 0 dX0_reasonAgainst_6 (by decide) ?_
    refine r_iret (pc := 7) dX0_reasonAgainst_7 rfl (by simp_all [rsn, bI_0, bI_n0]) rfl
