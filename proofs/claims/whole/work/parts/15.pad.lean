/-! THE PAD -/
theorem ct_X2_size {h : Wd} {k : Nat} {c : Pad} (hk : k + 1 < 76) : Ct mX2_size [.ref k] (wp h k c) (some (.int (wp_count c))) (wp h k c) := by
  refine Ct.of (Z := List.replicate 0 .null) (by decide) (Nat.le_of_ble_eq_true rfl) (fun z hz => List.eq_of_mem_replicate hz) ?_
  show WW mX2_size 0 [.ref k] [] _ _ _
  refine r_aload_0 (pc := 0) dX2_size_0 ?_
  refine r_wp_get_count (pc := 1) hk fl_X2_15 dX2_size_1 ?_
  refine r_iret (pc := 4) dX2_size_4 rfl (by first | rfl | simp_all [bI]) rfl
theorem ct_X2_clear {h : Wd} {k : Nat} {c : Pad} (hk : k + 1 < 76) : Ct mX2_clear [.ref k] (wp h k c) none (wp h k (wp_s_count c 0)) := by
  refine Ct.of (Z := List.replicate 0 .null) (by decide) (Nat.le_of_ble_eq_true rfl) (fun z hz => List.eq_of_mem_replicate hz) ?_
  show WW mX2_clear 0 [.ref k] [] _ _ _
  refine r_aload_0 (pc := 0) dX2_clear_0 ?_
  refine r_iconst (pc := 1) 0 dX2_clear_1 (by decide) ?_
  refine r_wp_put_count (pc := 2) hk fl_X2_15 dX2_clear_2 ?_
  refine r_vret (pc := 5) dX2_clear_5 rfl rfl rfl
theorem ct_X2_isNight {x : Int32} {h : Wd} : Ct mX2_isNight [.int x] h (some (.int (bI (decide (x = 46))))) h := by
  refine Ct.of (Z := List.replicate 0 .null) (by decide) (Nat.le_of_ble_eq_true rfl) (fun z hz => List.eq_of_mem_replicate hz) ?_
  show WW mX2_isNight 0 [.int x] [] _ _ _
  refine r_iload_0 (pc := 0) dX2_isNight_0 ?_
  refine r_bipush (pc := 1) 46 dX2_isNight_1 (by decide) ?_
  refine r_icmp_ne (pc := 3) 10 dX2_isNight_3 (by decide) (fun c3 => ?_) (fun c3 => ?_)
  · refine r_iconst (pc := 10) 0 dX2_isNight_10 (by decide) ?_
    refine r_zret (pc := 11) dX2_isNight_11 rfl (by first | rfl | exact bI_nar _) (by simp_all [bI]) rfl
  · refine r_iconst (pc := 6) 1 dX2_isNight_6 (by decide) ?_
    refine r_goto (pc := 7) 11 dX2_isNight_7 (by decide) ?_
    refine r_zret (pc := 11) dX2_isNight_11 rfl (by first | rfl | exact bI_nar _) (by simp_all [bI]) rfl
theorem ct_X2_manBy {x : Int32} {h : Wd} : Ct mX2_manBy [.int x] h (some (.int (x - 65))) h := by
  refine Ct.of (Z := List.replicate 0 .null) (by decide) (Nat.le_of_ble_eq_true rfl) (fun z hz => List.eq_of_mem_replicate hz) ?_
  show WW mX2_manBy 0 [.int x] [] _ _ _
  refine r_iload_0 (pc := 0) dX2_manBy_0 ?_
  refine r_bipush (pc := 1) 65 dX2_manBy_1 (by decide) ?_
  refine r_isub (pc := 3) dX2_manBy_3 ?_
  refine r_iret (pc := 4) dX2_manBy_4 rfl (by first | rfl | simp_all [bI]) rfl
/-- the deed of a sign, or -6 -/
def ddr (x : Int32) : Nat → Int32
  | 0 => -6
  | n + 1 => if dsg (8 - n) = x then nI (8 - n) else ddr x n
def ddB (x : Int32) : Int32 := ddr x 9
theorem lp_X2_deedBy {x : Int32} {h : Wd} : ∀ n j, j + n = 9 → WW mX2_deedBy 2 [.int x, .int (nI j)] [] h (some (.int (ddr x n))) h := by
  intro n
  induction n with
  | zero =>
    intro j hj
    obtain rfl : j = 9 := by omega
    refine r_iload_1 (pc := 2) dX2_deedBy_2 ?_
    refine r_gets (pc := 3) dX2_deedBy_3 (List.mem_of_getElem? (i := 3) rfl) ?_
    refine r_slen (pc := 6) dX2_deedBy_6 ?_
    refine r_icmp_ge (pc := 7) 27 dX2_deedBy_7 (by decide) (fun _ => ?_) (fun c7 => absurd (nI_le (a := 9) (b := 9) (by omega) (by omega)) (c7))
    refine r_bipush (pc := 27) (-6) dX2_deedBy_27 (by decide) ?_
    refine r_iret (pc := 29) dX2_deedBy_29 rfl (by first | rfl | simp_all [bI]) rfl
  | succ n ih =>
    intro j hj
    have ej : 8 - n = j := by omega
    refine r_iload_1 (pc := 2) dX2_deedBy_2 ?_
    refine r_gets (pc := 3) dX2_deedBy_3 (List.mem_of_getElem? (i := 3) rfl) ?_
    refine r_slen (pc := 6) dX2_deedBy_6 ?_
    refine r_icmp_ge (pc := 7) 27 dX2_deedBy_7 (by decide) (fun c7 => absurd c7 (nI_ge (a := j) (b := 9) (by omega) (by decide))) (fun _ => ?_)
    refine r_gets (pc := 10) dX2_deedBy_10 (List.mem_of_getElem? (i := 3) rfl) ?_
    refine r_iload_1 (pc := 13) dX2_deedBy_13 ?_
    refine r_scald (pc := 14) dX2_deedBy_14 (vi (by omega) (by decide)) ?_
    rw [ci (by omega : j < 9) (by decide)]
    refine r_iload_0 (pc := 15) dX2_deedBy_15 ?_
    refine r_icmp_ne (pc := 16) 21 dX2_deedBy_16 (by decide) (fun c16 => ?_) (fun c16 => ?_)
    · refine r_inc_1 (pc := 21) dX2_deedBy_21 rfl (by decide) ?_
      refine r_goto (pc := 24) 2 dX2_deedBy_24 (by decide) ?_
      exact (ih (j + 1) (by omega)).r (by rw [ddr, ej, if_neg c16])
    · refine r_iload_1 (pc := 19) dX2_deedBy_19 ?_
      refine r_iret (pc := 20) dX2_deedBy_20 rfl (by rw [ddr, ej, if_pos c16]) rfl
theorem ct_X2_deedBy {x : Int32} {h : Wd} : Ct mX2_deedBy [.int x] h (some (.int (ddB x))) h := by
  refine Ct.of (Z := List.replicate 1 .null) (by decide) (Nat.le_of_ble_eq_true rfl) (fun z hz => List.eq_of_mem_replicate hz) ?_
  show WW mX2_deedBy 0 [.int x, .null] [] _ _ _
  refine r_iconst (pc := 0) 0 dX2_deedBy_0 (by decide) ?_
  refine r_istore_1 (pc := 1) dX2_deedBy_1 rfl (by decide) ?_
  exact lp_X2_deedBy 9 0 rfl
def isDd (x : Int32) : Bool := !decide (x = 46) && !decide (ddB x = -6)
theorem ct_X2_isDeedOfMan {x : Int32} {h : Wd} : Ct mX2_isDeedOfMan [.int x] h (some (.int (bI (isDd x)))) h := by
  refine Ct.of (Z := List.replicate 0 .null) (by decide) (Nat.le_of_ble_eq_true rfl) (fun z hz => List.eq_of_mem_replicate hz) ?_
  show WW mX2_isDeedOfMan 0 [.int x] [] _ _ _
  refine r_iload_0 (pc := 0) dX2_isDeedOfMan_0 ?_
  refine r_cS1_1 (pc := 1) (ct_X2_isNight) cs_X2_isNight ⟨Nat.le_of_ble_eq_true rfl, Nat.le_of_ble_eq_true rfl⟩ ml_X2_27 dX2_isDeedOfMan_1 rfl (Nat.le_of_ble_eq_true rfl) ?_
  refine r_if_ne (pc := 4) 20 dX2_isDeedOfMan_4 (by decide) (fun c4 => ?_) (fun c4 => ?_)
  · refine r_iconst (pc := 20) 0 dX2_isDeedOfMan_20 (by decide) ?_
    refine r_zret (pc := 21) dX2_isDeedOfMan_21 rfl (by first | rfl | exact bI_nar _) (by simp_all [bI, isDd]) rfl
  · refine r_iload_0 (pc := 7) dX2_isDeedOfMan_7 ?_
    refine r_cS1_1 (pc := 8) (ct_X2_deedBy) cs_X2_deedBy ⟨Nat.le_of_ble_eq_true rfl, Nat.le_of_ble_eq_true rfl⟩ ml_X2_40 dX2_isDeedOfMan_8 rfl (Nat.le_of_ble_eq_true rfl) ?_
    refine r_bipush (pc := 11) (-6) dX2_isDeedOfMan_11 (by decide) ?_
    refine r_icmp_eq (pc := 13) 20 dX2_isDeedOfMan_13 (by decide) (fun c13 => ?_) (fun c13 => ?_)
    · refine r_iconst (pc := 20) 0 dX2_isDeedOfMan_20 (by decide) ?_
      refine r_zret (pc := 21) dX2_isDeedOfMan_21 rfl (by first | rfl | exact bI_nar _) (by simp_all [bI, isDd]) rfl
    · refine r_iconst (pc := 16) 1 dX2_isDeedOfMan_16 (by decide) ?_
      refine r_goto (pc := 17) 21 dX2_isDeedOfMan_17 (by decide) ?_
      refine r_zret (pc := 21) dX2_isDeedOfMan_21 rfl (by first | rfl | exact bI_nar _) (by simp_all [bI, isDd]) rfl
theorem ct_X2_add {h : Wd} {k n : Nat} {c : Pad} {x : Int32} (hk : k + 1 < 76) (hc : wp_count c = nI n) (hn : n < 60) : Ct mX2_add [.ref k, .int x] (wp h k c) (some (.int 1)) (wp h k (wp_s_count (wp_s_signs c (upd (wp_signs c) n x)) (nI (n + 1)))) := by
  refine Ct.of (Z := List.replicate 0 .null) (by decide) (Nat.le_of_ble_eq_true rfl) (fun z hz => List.eq_of_mem_replicate hz) ?_
  show WW mX2_add 0 [.ref k, .int x] [] _ _ _
  refine r_aload_0 (pc := 0) dX2_add_0 ?_
  refine r_wp_get_count (pc := 1) hk fl_X2_15 dX2_add_1 ?_
  rw [hc]
  refine r_if_lt (pc := 4) 19 dX2_add_4 (by decide) (fun c4 => absurd c4 (nI_pos (by omega))) (fun _ => ?_)
  refine r_aload_0 (pc := 7) dX2_add_7 ?_
  refine r_wp_get_count (pc := 8) hk fl_X2_15 dX2_add_8 ?_
  rw [hc]
  refine r_aload_0 (pc := 11) dX2_add_11 ?_
  refine r_wp_get_signs (pc := 12) hk fl_X2_9 dX2_add_12 ?_
  refine r_wp_len_signs (pc := 15) hk dX2_add_15 ?_
  refine r_icmp_lt (pc := 16) 21 dX2_add_16 (by decide) (fun _ => ?_) (fun c16 => absurd (nI_lt (b := 60) (by omega) (by decide)) (c16))
  refine r_aload_0 (pc := 21) dX2_add_21 ?_
  refine r_wp_get_signs (pc := 22) hk fl_X2_9 dX2_add_22 ?_
  refine r_aload_0 (pc := 25) dX2_add_25 ?_
  refine r_wp_get_count (pc := 26) hk fl_X2_15 dX2_add_26 ?_
  rw [hc]
  refine r_iload_1 (pc := 29) dX2_add_29 ?_
  refine r_wp_st_signs (pc := 30) hk (by omega) dX2_add_30 ?_
  refine r_aload_0 (pc := 31) dX2_add_31 ?_
  refine r_dup (pc := 32) dX2_add_32 rfl ?_
  refine r_wp_get_count (pc := 33) hk fl_X2_15 dX2_add_33 ?_
  rw [show wp_count (wp_s_signs c (upd (wp_signs c) n x)) = nI n from hc]
  refine r_iconst (pc := 36) 1 dX2_add_36 (by decide) ?_
  refine r_iadd (pc := 37) dX2_add_37 ?_
  rw [← nI_succ]
  refine r_wp_put_count (pc := 38) hk fl_X2_15 dX2_add_38 ?_
  refine r_iconst (pc := 41) 1 dX2_add_41 (by decide) ?_
  refine r_zret (pc := 42) dX2_add_42 rfl (by first | rfl | exact bI_nar _) (by first | rfl | simp_all [bI]) rfl
theorem ct_X2_addF {h : Wd} {k n : Nat} {c : Pad} {x : Int32} (hk : k + 1 < 76) (hc : wp_count c = 60) : Ct mX2_add [.ref k, .int x] (wp h k c) (some (.int 0)) (wp h k c) := by
  refine Ct.of (Z := List.replicate 0 .null) (by decide) (Nat.le_of_ble_eq_true rfl) (fun z hz => List.eq_of_mem_replicate hz) ?_
  show WW mX2_add 0 [.ref k, .int x] [] _ _ _
  refine r_aload_0 (pc := 0) dX2_add_0 ?_
  refine r_wp_get_count (pc := 1) hk fl_X2_15 dX2_add_1 ?_
  rw [hc]
  refine r_if_lt (pc := 4) 19 dX2_add_4 (by decide) (fun c4 => absurd c4 (by decide)) (fun _ => ?_)
  refine r_aload_0 (pc := 7) dX2_add_7 ?_
  refine r_wp_get_count (pc := 8) hk fl_X2_15 dX2_add_8 ?_
  rw [hc]
  refine r_aload_0 (pc := 11) dX2_add_11 ?_
  refine r_wp_get_signs (pc := 12) hk fl_X2_9 dX2_add_12 ?_
  refine r_wp_len_signs (pc := 15) hk dX2_add_15 ?_
  refine r_icmp_lt (pc := 16) 21 dX2_add_16 (by decide) (fun c16 => absurd c16 (by decide)) (fun _ => ?_)
  refine r_iconst (pc := 19) 0 dX2_add_19 (by decide) ?_
  refine r_zret (pc := 20) dX2_add_20 rfl (by first | rfl | exact bI_nar _) (by first | rfl | simp_all [bI]) rfl
theorem ct_X2_signAt {h : Wd} {k n j : Nat} {c : Pad} (hk : k + 1 < 76) (hc : wp_count c = nI n) (hn : n ≤ 60) (hj : j < n) : Ct mX2_signAt [.ref k, .int (nI j)] (wp h k c) (some (.int (wp_signs c j))) (wp h k c) := by
  refine Ct.of (Z := List.replicate 0 .null) (by decide) (Nat.le_of_ble_eq_true rfl) (fun z hz => List.eq_of_mem_replicate hz) ?_
  show WW mX2_signAt 0 [.ref k, .int (nI j)] [] _ _ _
  refine r_iload_1 (pc := 0) dX2_signAt_0 ?_
  refine r_if_lt (pc := 1) 30 dX2_signAt_1 (by decide) (fun c1 => absurd c1 (nI_pos (by omega))) (fun _ => ?_)
  refine r_iload_1 (pc := 4) dX2_signAt_4 ?_
  refine r_aload_0 (pc := 5) dX2_signAt_5 ?_
  refine r_wp_get_count (pc := 6) hk fl_X2_15 dX2_signAt_6 ?_
  rw [hc]
  refine r_icmp_ge (pc := 9) 30 dX2_signAt_9 (by decide) (fun c9 => absurd c9 (nI_ge (by omega) (by omega))) (fun _ => ?_)
  refine r_iload_1 (pc := 12) dX2_signAt_12 ?_
  refine r_aload_0 (pc := 13) dX2_signAt_13 ?_
  refine r_wp_get_signs (pc := 14) hk fl_X2_9 dX2_signAt_14 ?_
  refine r_wp_len_signs (pc := 17) hk dX2_signAt_17 ?_
  refine r_icmp_ge (pc := 18) 30 dX2_signAt_18 (by decide) (fun c18 => absurd c18 (nI_ge (a := j) (b := 60) (by omega) (by omega))) (fun _ => ?_)
  refine r_aload_0 (pc := 21) dX2_signAt_21 ?_
  refine r_wp_get_signs (pc := 22) hk fl_X2_9 dX2_signAt_22 ?_
  refine r_iload_1 (pc := 25) dX2_signAt_25 ?_
  refine r_wp_ld_signs (pc := 26) hk (by omega) dX2_signAt_26 ?_
  refine r_goto (pc := 27) 31 dX2_signAt_27 (by decide) ?_
  refine r_iret (pc := 31) dX2_signAt_31 rfl (by first | rfl | simp_all [bI]) rfl
/-- whether a man is named when j signs, all of which could stand, are read -/
def nmd (p : Nat → Int32) : Nat → Bool
  | 0 => false
  | n + 1 => !(nmd p n) && !decide (p n = 46)
def fitS (b : Bool) (x : Int32) : Bool := if b then isDd x else (decide (x = 46) || isM (x - 65))
/-- the fault, when r of n signs are left -/
def ffd (p : Nat → Int32) (n : Nat) : Nat → Int32
  | 0 => if nmd p n then nI n else -6
  | r + 1 => if fitS (nmd p (n - (r + 1))) (p (n - (r + 1))) then ffd p n r else nI (n - (r + 1))
theorem lp_X2_firstFault {h : Wd} {k n : Nat} {c : Pad} (hk : k + 1 < 76) (hc : wp_count c = nI n) (hn : n ≤ 60) : ∀ r j, j + r = n → ∀ z1 z2 : Value, WW mX2_firstFault 4 [.ref k, .int (bI (nmd (wp_signs c) j)), .int (nI j), z1, z2] [] (wp h k c) (some (.int (ffd (wp_signs c) n r))) (wp h k c) := by
  intro r
  induction r with
  | zero =>
    intro j hj z1 z2
    obtain rfl : j = n := by omega
    refine r_iload_2 (pc := 4) dX2_firstFault_4 ?_
    refine r_aload_0 (pc := 5) dX2_firstFault_5 ?_
    refine r_wp_get_count (pc := 6) hk fl_X2_15 dX2_firstFault_6 ?_
    rw [hc]
    refine r_icmp_ge (pc := 9) 83 dX2_firstFault_9 (by decide) (fun _ => ?_) (fun c9 => absurd (nI_le (by omega) (by omega)) (c9))
    refine r_iload_1 (pc := 83) dX2_firstFault_83 ?_
    refine r_if_eq (pc := 84) 94 dX2_firstFault_84 (by decide) (fun c84 => ?_) (fun c84 => ?_)
    · refine r_bipush (pc := 94) (-6) dX2_firstFault_94 (by decide) ?_
      refine r_iret (pc := 96) dX2_firstFault_96 rfl (by rw [bI_0] at c84; rw [ffd, c84]; rfl) rfl
    · refine r_aload_0 (pc := 87) dX2_firstFault_87 ?_
      refine r_wp_get_count (pc := 88) hk fl_X2_15 dX2_firstFault_88 ?_
      refine r_goto (pc := 91) 96 dX2_firstFault_91 (by decide) ?_
      refine r_iret (pc := 96) dX2_firstFault_96 rfl (by rw [bI_n0] at c84; rw [ffd, c84, hc]; rfl) rfl
  | succ r ih =>
    intro j hj z1 z2
    have ej : n - (r + 1) = j := by omega
    have key : fitS (nmd (wp_signs c) j) (wp_signs c j) = true → ∀ (b : Int32) (y1 y2 : Value), b = bI (nmd (wp_signs c) (j + 1)) → WW mX2_firstFault 4 [.ref k, .int b, .int (nI (j + 1)), y1, y2] [] (wp h k c) (some (.int (ffd (wp_signs c) n (r + 1)))) (wp h k c) := by
      intro hf b y1 y2 eb
      rw [eb]
      exact (ih (j + 1) (by omega) y1 y2).r (by rw [ffd, ej, hf]; rfl)
    have bad : fitS (nmd (wp_signs c) j) (wp_signs c j) = false → some (Value.int (nI j)) = some (.int (ffd (wp_signs c) n (r + 1))) := by
      intro hf
      rw [ffd, ej, hf]
      rfl
    clear ih
    refine r_iload_2 (pc := 4) dX2_firstFault_4 ?_
    refine r_aload_0 (pc := 5) dX2_firstFault_5 ?_
    refine r_wp_get_count (pc := 6) hk fl_X2_15 dX2_firstFault_6 ?_
    rw [hc]
    refine r_icmp_ge (pc := 9) 83 dX2_firstFault_9 (by decide) (fun c9 => absurd c9 (nI_ge (by omega) (by omega))) (fun _ => ?_)
    refine r_aload_0 (pc := 12) dX2_firstFault_12 ?_
    refine r_iload_2 (pc := 13) dX2_firstFault_13 ?_
    refine r_cV1_1 (pc := 14) (ct_X2_signAt hk hc hn (by omega)) cv_X2_signAt ⟨Nat.le_of_ble_eq_true rfl, Nat.le_of_ble_eq_true rfl⟩ ml_X2_19 dX2_firstFault_14 (by omega) (wp_o _ _ _) rfl rfl (Nat.le_of_ble_eq_true rfl) ?_
    refine r_istore_3 (pc := 17) dX2_firstFault_17 rfl (by decide) ?_
    refine r_iload_1 (pc := 18) dX2_firstFault_18 ?_
    refine r_if_eq (pc := 19) 29 dX2_firstFault_19 (by decide) (fun c19 => ?_) (fun c19 => ?_)
    · rw [bI_0] at c19
      refine r_iload_3 (pc := 29) dX2_firstFault_29 ?_
      refine r_cS1_1 (pc := 30) (ct_X2_isNight) cs_X2_isNight ⟨Nat.le_of_ble_eq_true rfl, Nat.le_of_ble_eq_true rfl⟩ ml_X2_27 dX2_firstFault_30 rfl (Nat.le_of_ble_eq_true rfl) ?_
      refine r_if_ne (pc := 33) 46 dX2_firstFault_33 (by decide) (fun c33 => ?_) (fun c33 => ?_)
      · rw [bI_n0, decide_eq_true_eq] at c33
        refine r_iconst (pc := 46) 1 dX2_firstFault_46 (by decide) ?_
        refine r_goto (pc := 47) 51 dX2_firstFault_47 (by decide) ?_
        refine r_istore_4 (pc := 51) dX2_firstFault_51 rfl (by decide) ?_
        refine r_iload_4 (pc := 53) dX2_firstFault_53 ?_
        refine r_if_ne (pc := 55) 60 dX2_firstFault_55 (by decide) (fun _ => ?_) (fun c55 => absurd c55 (by decide))
        refine r_iload_1 (pc := 60) dX2_firstFault_60 ?_
        refine r_if_ne (pc := 61) 75 dX2_firstFault_61 (by decide) (fun c61 => absurd (by rw [c19]; rfl) c61) (fun _ => ?_)
        refine r_iload_3 (pc := 64) dX2_firstFault_64 ?_
        refine r_cS1_1 (pc := 65) (ct_X2_isNight) cs_X2_isNight ⟨Nat.le_of_ble_eq_true rfl, Nat.le_of_ble_eq_true rfl⟩ ml_X2_27 dX2_firstFault_65 rfl (Nat.le_of_ble_eq_true rfl) ?_
        refine r_if_ne (pc := 68) 75 dX2_firstFault_68 (by decide) (fun c68 => ?_) (fun c68 => ?_)
        · rw [bI_n0, decide_eq_true_eq] at c68
          refine r_iconst (pc := 75) 0 dX2_firstFault_75 (by decide) ?_
          refine r_istore_1 (pc := 76) dX2_firstFault_76 rfl (by decide) ?_
          refine r_inc_2 (pc := 77) dX2_firstFault_77 rfl (by decide) ?_
          refine r_goto (pc := 80) 4 dX2_firstFault_80 (by decide) ?_
          exact key (by simp only [fitS, c19, c68]; rfl) _ _ _ (by simp only [nmd, c19, c68]; rfl)
        · exact absurd c33 (decide_eq_false_iff_not.mp (bI_0.mp c68))
      · rw [bI_0, decide_eq_false_iff_not] at c33
        refine r_iload_3 (pc := 36) dX2_firstFault_36 ?_
        refine r_cS1_1 (pc := 37) (ct_X2_manBy) cs_X2_manBy ⟨Nat.le_of_ble_eq_true rfl, Nat.le_of_ble_eq_true rfl⟩ ml_X2_30 dX2_firstFault_37 rfl (Nat.le_of_ble_eq_true rfl) ?_
        refine r_cSN1_1 (pc := 40) (ct_X6_isManNumber) cs_X6_isManNumber ⟨Nat.le_of_ble_eq_true rfl, Nat.le_of_ble_eq_true rfl⟩ (List.mem_of_getElem? (i := 4) rfl) dX2_firstFault_40 rfl (Nat.le_of_ble_eq_true rfl) ?_
        refine r_if_eq (pc := 43) 50 dX2_firstFault_43 (by decide) (fun c43 => ?_) (fun c43 => ?_)
        · rw [bI_0] at c43
          refine r_iconst (pc := 50) 0 dX2_firstFault_50 (by decide) ?_
          refine r_istore_4 (pc := 51) dX2_firstFault_51 rfl (by decide) ?_
          refine r_iload_4 (pc := 53) dX2_firstFault_53 ?_
          refine r_if_ne (pc := 55) 60 dX2_firstFault_55 (by decide) (fun c55 => absurd (rfl) c55) (fun _ => ?_)
          refine r_iload_2 (pc := 58) dX2_firstFault_58 ?_
          refine r_iret (pc := 59) dX2_firstFault_59 rfl (bad (by simp only [fitS, c19, c33, c43]; rfl)) rfl
        · rw [bI_n0] at c43
          refine r_iconst (pc := 46) 1 dX2_firstFault_46 (by decide) ?_
          refine r_goto (pc := 47) 51 dX2_firstFault_47 (by decide) ?_
          refine r_istore_4 (pc := 51) dX2_firstFault_51 rfl (by decide) ?_
          refine r_iload_4 (pc := 53) dX2_firstFault_53 ?_
          refine r_if_ne (pc := 55) 60 dX2_firstFault_55 (by decide) (fun _ => ?_) (fun c55 => absurd c55 (by decide))
          refine r_iload_1 (pc := 60) dX2_firstFault_60 ?_
          refine r_if_ne (pc := 61) 75 dX2_firstFault_61 (by decide) (fun c61 => absurd (by rw [c19]; rfl) c61) (fun _ => ?_)
          refine r_iload_3 (pc := 64) dX2_firstFault_64 ?_
          refine r_cS1_1 (pc := 65) (ct_X2_isNight) cs_X2_isNight ⟨Nat.le_of_ble_eq_true rfl, Nat.le_of_ble_eq_true rfl⟩ ml_X2_27 dX2_firstFault_65 rfl (Nat.le_of_ble_eq_true rfl) ?_
          refine r_if_ne (pc := 68) 75 dX2_firstFault_68 (by decide) (fun c68 => ?_) (fun c68 => ?_)
          · exact absurd ((decide_eq_true_eq (p := wp_signs c j = 46)).mp (bI_n0.mp c68)) c33
          · rw [bI_0, decide_eq_false_iff_not] at c68
            refine r_iconst (pc := 71) 1 dX2_firstFault_71 (by decide) ?_
            refine r_goto (pc := 72) 76 dX2_firstFault_72 (by decide) ?_
            refine r_istore_1 (pc := 76) dX2_firstFault_76 rfl (by decide) ?_
            refine r_inc_2 (pc := 77) dX2_firstFault_77 rfl (by decide) ?_
            refine r_goto (pc := 80) 4 dX2_firstFault_80 (by decide) ?_
            exact key (by simp [fitS, c19, c68, c43]) _ _ _ (by simp [nmd, c19, c68, bI])
    · rw [bI_n0] at c19
      refine r_iload_3 (pc := 22) dX2_firstFault_22 ?_
      refine r_cS1_1 (pc := 23) (ct_X2_isDeedOfMan) cs_X2_isDeedOfMan ⟨Nat.le_of_ble_eq_true rfl, Nat.le_of_ble_eq_true rfl⟩ ml_X2_23 dX2_firstFault_23 rfl (Nat.le_of_ble_eq_true rfl) ?_
      refine r_goto (pc := 26) 51 dX2_firstFault_26 (by decide) ?_
      refine r_istore_4 (pc := 51) dX2_firstFault_51 rfl (by decide) ?_
      refine r_iload_4 (pc := 53) dX2_firstFault_53 ?_
      refine r_if_ne (pc := 55) 60 dX2_firstFault_55 (by decide) (fun c55 => ?_) (fun c55 => ?_)
      · refine r_iload_1 (pc := 60) dX2_firstFault_60 ?_
        refine r_if_ne (pc := 61) 75 dX2_firstFault_61 (by decide) (fun _ => ?_) (fun c61 => absurd c61 (by rw [c19]; decide))
        refine r_iconst (pc := 75) 0 dX2_firstFault_75 (by decide) ?_
        refine r_istore_1 (pc := 76) dX2_firstFault_76 rfl (by decide) ?_
        refine r_inc_2 (pc := 77) dX2_firstFault_77 rfl (by decide) ?_
        refine r_goto (pc := 80) 4 dX2_firstFault_80 (by decide) ?_
        rw [bI_n0] at c55
        exact key (by simp only [fitS, c19, c55]; rfl) _ _ _ (by simp only [nmd, c19]; rfl)
      · refine r_iload_2 (pc := 58) dX2_firstFault_58 ?_
        refine r_iret (pc := 59) dX2_firstFault_59 rfl (bad (by rw [bI_0] at c55; simp only [fitS, c19, c55]; rfl)) rfl
def flt (p : Nat → Int32) (n : Nat) : Int32 := ffd p n n
theorem ct_X2_firstFault {h : Wd} {k n : Nat} {c : Pad} (hk : k + 1 < 76) (hc : wp_count c = nI n) (hn : n ≤ 60) : Ct mX2_firstFault [.ref k] (wp h k c) (some (.int (flt (wp_signs c) n))) (wp h k c) := by
  refine Ct.of (Z := List.replicate 4 .null) (by decide) (Nat.le_of_ble_eq_true rfl) (fun z hz => List.eq_of_mem_replicate hz) ?_
  show WW mX2_firstFault 0 [.ref k, .null, .null, .null, .null] [] _ _ _
  refine r_iconst (pc := 0) 0 dX2_firstFault_0 (by decide) ?_
  refine r_istore_1 (pc := 1) dX2_firstFault_1 rfl (by decide) ?_
  refine r_iconst (pc := 2) 0 dX2_firstFault_2 (by decide) ?_
  refine r_istore_2 (pc := 3) dX2_firstFault_3 rfl (by decide) ?_
  exact lp_X2_firstFault hk hc hn n 0 (by omega) _ _
