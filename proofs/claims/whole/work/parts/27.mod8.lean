/-! THE REFERENCE: tales -/
theorem and1v (y : Int32) : y &&& 1 = bI (y.toBitVec.getLsbD 0) := by
  rw [← Int32.toBitVec_inj, Int32.toBitVec_and]
  show y.toBitVec &&& 1#32 = _
  rw [BitVec.and_one_eq_setWidth_ofBool_getLsbD]
  cases y.toBitVec.getLsbD 0 <;> rfl
theorem shr1v (x : Int32) {m : Nat} (hm : m < 32) : x >>> (nI m &&& 31) &&& 1 = bI (bt x m) := by
  rw [and1v]
  have := b_sshr m hm x (i := 0) (by decide)
  unfold bt at this ⊢
  rw [this, Nat.add_zero, if_pos hm]
theorem bI_xor (a b : Bool) : bI a ^^^ bI b = bI (a ^^ b) := by cases a <;> cases b <;> rfl
theorem ct_X7_taleB {h : Wd} {k : Nat} {c : Mod} {x y z : Int32} (hk : k + 24 < 76) (hb : hasB (wm_men c) x = false) : Ct mX7_tale [.ref k, .int x, .int y, .int z] (wm h k c) (some (.int (-1))) (wm h k c) := by
  refine Ct.of (Z := List.replicate 0 .null) (by decide) (Nat.le_of_ble_eq_true rfl) (fun z hz => List.eq_of_mem_replicate hz) ?_
  show WW mX7_tale 0 [.ref k, .int x, .int y, .int z] [] _ _ _
  refine r_aload_0 (pc := 0) dX7_tale_0 ?_
  refine r_iload_1 (pc := 1) dX7_tale_1 ?_
  refine r_cV1_1 (pc := 2) (ct_X7_isMan hk) cv_X7_isMan ⟨Nat.le_of_ble_eq_true rfl, Nat.le_of_ble_eq_true rfl⟩ ml_X7_106 dX7_tale_2 (by omega) (wm_o _ _ _) rfl rfl (Nat.le_of_ble_eq_true rfl) ?_
  refine r_if_ne (pc := 5) 10 dX7_tale_5 (by decide) (fun c5 => absurd (by rw [hb]; rfl) c5) (fun _ => ?_)
  refine r_iconst (pc := 8) (-1) dX7_tale_8 (by decide) ?_
  refine r_iret (pc := 9) dX7_tale_9 rfl (by first | rfl | simp_all [bI]) rfl
theorem ct_X7_taleO {h : Wd} {k : Nat} {c : Mod} {x y z : Int32} (hk : k + 24 < 76) (hb : hasB (wm_men c) x = true) (hc : isC y = false) : Ct mX7_tale [.ref k, .int x, .int y, .int z] (wm h k c) (some (.int (-2))) (wm h k c) := by
  refine Ct.of (Z := List.replicate 0 .null) (by decide) (Nat.le_of_ble_eq_true rfl) (fun z hz => List.eq_of_mem_replicate hz) ?_
  show WW mX7_tale 0 [.ref k, .int x, .int y, .int z] [] _ _ _
  refine r_aload_0 (pc := 0) dX7_tale_0 ?_
  refine r_iload_1 (pc := 1) dX7_tale_1 ?_
  refine r_cV1_1 (pc := 2) (ct_X7_isMan hk) cv_X7_isMan ⟨Nat.le_of_ble_eq_true rfl, Nat.le_of_ble_eq_true rfl⟩ ml_X7_106 dX7_tale_2 (by omega) (wm_o _ _ _) rfl rfl (Nat.le_of_ble_eq_true rfl) ?_
  refine r_if_ne (pc := 5) 10 dX7_tale_5 (by decide) (fun _ => ?_) (fun c5 => absurd c5 (by rw [hb]; decide))
  refine r_iload_2 (pc := 10) dX7_tale_10 ?_
  refine r_cS1_1 (pc := 11) (ct_X7_isCell) cs_X7_isCell ⟨Nat.le_of_ble_eq_true rfl, Nat.le_of_ble_eq_true rfl⟩ ml_X7_96 dX7_tale_11 rfl (Nat.le_of_ble_eq_true rfl) ?_
  refine r_if_ne (pc := 14) 20 dX7_tale_14 (by decide) (fun c14 => absurd (by rw [hc]; rfl) c14) (fun _ => ?_)
  refine r_bipush (pc := 17) (-2) dX7_tale_17 (by decide) ?_
  refine r_iret (pc := 19) dX7_tale_19 rfl (by first | rfl | simp_all [bI]) rfl
theorem ct_X7_taleF {h : Wd} {k : Nat} {c : Mod} {x y z : Int32} (hk : k + 24 < 76) (hb : hasB (wm_men c) x = true) (hc : isC y = true) (ht : wm_tales c = 8) : Ct mX7_tale [.ref k, .int x, .int y, .int z] (wm h k c) (some (.int (-4))) (wm h k c) := by
  refine Ct.of (Z := List.replicate 0 .null) (by decide) (Nat.le_of_ble_eq_true rfl) (fun z hz => List.eq_of_mem_replicate hz) ?_
  show WW mX7_tale 0 [.ref k, .int x, .int y, .int z] [] _ _ _
  refine r_aload_0 (pc := 0) dX7_tale_0 ?_
  refine r_iload_1 (pc := 1) dX7_tale_1 ?_
  refine r_cV1_1 (pc := 2) (ct_X7_isMan hk) cv_X7_isMan ⟨Nat.le_of_ble_eq_true rfl, Nat.le_of_ble_eq_true rfl⟩ ml_X7_106 dX7_tale_2 (by omega) (wm_o _ _ _) rfl rfl (Nat.le_of_ble_eq_true rfl) ?_
  refine r_if_ne (pc := 5) 10 dX7_tale_5 (by decide) (fun _ => ?_) (fun c5 => absurd c5 (by rw [hb]; decide))
  refine r_iload_2 (pc := 10) dX7_tale_10 ?_
  refine r_cS1_1 (pc := 11) (ct_X7_isCell) cs_X7_isCell ⟨Nat.le_of_ble_eq_true rfl, Nat.le_of_ble_eq_true rfl⟩ ml_X7_96 dX7_tale_11 rfl (Nat.le_of_ble_eq_true rfl) ?_
  refine r_if_ne (pc := 14) 20 dX7_tale_14 (by decide) (fun _ => ?_) (fun c14 => absurd c14 (by rw [hc]; decide))
  refine r_aload_0 (pc := 20) dX7_tale_20 ?_
  refine r_wm_get_tales (pc := 21) hk fl_X7_243 dX7_tale_21 ?_
  refine r_bipush (pc := 24) 8 dX7_tale_24 (by decide) ?_
  refine r_icmp_ne (pc := 26) 32 dX7_tale_26 (by decide) (fun c26 => absurd (ht) c26) (fun _ => ?_)
  refine r_bipush (pc := 29) (-4) dX7_tale_29 (by decide) ?_
  refine r_iret (pc := 31) dX7_tale_31 rfl (by first | rfl | simp_all [bI]) rfl
def tlM (c : Mod) (n : Nat) (x y : Int32) (b : Bool) : Mod := wm_s_tales (wm_s_taleGold (wm_s_taleCell (wm_s_taleMan c (upd (wm_taleMan c) n x)) (upd (wm_taleCell c) n y)) (upd (wm_taleGold c) n (bI b))) (nI (n + 1))
theorem ct_X7_tale {h : Wd} {k n : Nat} {c : Mod} {x y z : Int32} (hk : k + 24 < 76) (hb : hasB (wm_men c) x = true) (hc : isC y = true) (ht : wm_tales c = nI n) (hn : n < 8) : Ct mX7_tale [.ref k, .int x, .int y, .int z] (wm h k c) (some (.int (nI (n + 1)))) (wm h k (tlM c n x y (!decide (z = 0)))) := by
  refine Ct.of (Z := List.replicate 0 .null) (by decide) (Nat.le_of_ble_eq_true rfl) (fun z hz => List.eq_of_mem_replicate hz) ?_
  show WW mX7_tale 0 [.ref k, .int x, .int y, .int z] [] _ _ _
  refine r_aload_0 (pc := 0) dX7_tale_0 ?_
  refine r_iload_1 (pc := 1) dX7_tale_1 ?_
  refine r_cV1_1 (pc := 2) (ct_X7_isMan hk) cv_X7_isMan ⟨Nat.le_of_ble_eq_true rfl, Nat.le_of_ble_eq_true rfl⟩ ml_X7_106 dX7_tale_2 (by omega) (wm_o _ _ _) rfl rfl (Nat.le_of_ble_eq_true rfl) ?_
  refine r_if_ne (pc := 5) 10 dX7_tale_5 (by decide) (fun _ => ?_) (fun c5 => absurd c5 (by rw [hb]; decide))
  refine r_iload_2 (pc := 10) dX7_tale_10 ?_
  refine r_cS1_1 (pc := 11) (ct_X7_isCell) cs_X7_isCell ⟨Nat.le_of_ble_eq_true rfl, Nat.le_of_ble_eq_true rfl⟩ ml_X7_96 dX7_tale_11 rfl (Nat.le_of_ble_eq_true rfl) ?_
  refine r_if_ne (pc := 14) 20 dX7_tale_14 (by decide) (fun _ => ?_) (fun c14 => absurd c14 (by rw [hc]; decide))
  refine r_aload_0 (pc := 20) dX7_tale_20 ?_
  refine r_wm_get_tales (pc := 21) hk fl_X7_243 dX7_tale_21 ?_
  refine r_bipush (pc := 24) 8 dX7_tale_24 (by decide) ?_
  rw [ht]
  refine r_icmp_ne (pc := 26) 32 dX7_tale_26 (by decide) (fun _ => ?_) (fun c26 => absurd c26 (fun z => by have := (nI_eq (a := n) (b := 8) (by omega) (by decide)).mp z; omega))
  refine r_aload_0 (pc := 32) dX7_tale_32 ?_
  refine r_wm_get_taleMan (pc := 33) hk fl_X7_32 dX7_tale_33 ?_
  refine r_aload_0 (pc := 36) dX7_tale_36 ?_
  refine r_wm_get_tales (pc := 37) hk fl_X7_243 dX7_tale_37 ?_
  rw [ht]
  refine r_iload_1 (pc := 40) dX7_tale_40 ?_
  refine r_wm_st_taleMan (pc := 41) hk (by omega) dX7_tale_41 ?_
  refine r_aload_0 (pc := 42) dX7_tale_42 ?_
  refine r_wm_get_taleCell (pc := 43) hk fl_X7_35 dX7_tale_43 ?_
  refine r_aload_0 (pc := 46) dX7_tale_46 ?_
  refine r_wm_get_tales (pc := 47) hk fl_X7_243 dX7_tale_47 ?_
  rw [show ∀ v, wm_tales (wm_s_taleMan c v) = nI n from fun _ => ht]
  refine r_iload_2 (pc := 50) dX7_tale_50 ?_
  refine r_wm_st_taleCell (pc := 51) hk (by omega) dX7_tale_51 ?_
  refine r_aload_0 (pc := 52) dX7_tale_52 ?_
  refine r_wm_get_taleGold (pc := 53) hk fl_X7_38 dX7_tale_53 ?_
  refine r_aload_0 (pc := 56) dX7_tale_56 ?_
  refine r_wm_get_tales (pc := 57) hk fl_X7_243 dX7_tale_57 ?_
  rw [show ∀ v w, wm_tales (wm_s_taleCell (wm_s_taleMan c v) w) = nI n from fun _ _ => ht]
  refine r_iload_3 (pc := 60) dX7_tale_60 ?_
  refine r_if_eq (pc := 61) 68 dX7_tale_61 (by decide) (fun c61 => ?_) (fun c61 => ?_)
  · refine r_iconst (pc := 68) 0 dX7_tale_68 (by decide) ?_
    refine r_wm_st_taleGold (pc := 69) hk (by omega) dX7_tale_69 ?_
    refine r_aload_0 (pc := 70) dX7_tale_70 ?_
    refine r_dup (pc := 71) dX7_tale_71 rfl ?_
    refine r_wm_get_tales (pc := 72) hk fl_X7_243 dX7_tale_72 ?_
    rw [show ∀ v w z, wm_tales (wm_s_taleGold (wm_s_taleCell (wm_s_taleMan c v) w) z) = nI n from fun _ _ _ => ht]
    refine r_iconst (pc := 75) 1 dX7_tale_75 (by decide) ?_
    refine r_iadd (pc := 76) dX7_tale_76 ?_
    rw [← nI_succ]
    refine r_wm_put_tales (pc := 77) hk fl_X7_243 dX7_tale_77 ?_
    refine r_aload_0 (pc := 80) dX7_tale_80 ?_
    refine r_wm_get_tales (pc := 81) hk fl_X7_243 dX7_tale_81 ?_
    refine r_iret (pc := 84) dX7_tale_84 rfl (by first | rfl | simp_all [bI]) (by simp only [tlM, c61]; rfl)
  · refine r_iconst (pc := 64) 1 dX7_tale_64 (by decide) ?_
    refine r_goto (pc := 65) 69 dX7_tale_65 (by decide) ?_
    refine r_wm_st_taleGold (pc := 69) hk (by omega) dX7_tale_69 ?_
    refine r_aload_0 (pc := 70) dX7_tale_70 ?_
    refine r_dup (pc := 71) dX7_tale_71 rfl ?_
    refine r_wm_get_tales (pc := 72) hk fl_X7_243 dX7_tale_72 ?_
    rw [show ∀ v w z, wm_tales (wm_s_taleGold (wm_s_taleCell (wm_s_taleMan c v) w) z) = nI n from fun _ _ _ => ht]
    refine r_iconst (pc := 75) 1 dX7_tale_75 (by decide) ?_
    refine r_iadd (pc := 76) dX7_tale_76 ?_
    rw [← nI_succ]
    refine r_wm_put_tales (pc := 77) hk fl_X7_243 dX7_tale_77 ?_
    refine r_aload_0 (pc := 80) dX7_tale_80 ?_
    refine r_wm_get_tales (pc := 81) hk fl_X7_243 dX7_tale_81 ?_
    refine r_iret (pc := 84) dX7_tale_84 rfl (by first | rfl | simp_all [bI]) (by simp only [tlM, c61]; rfl)
theorem ct_X7_hush {h : Wd} {k : Nat} {c : Mod} (hk : k + 24 < 76) : Ct mX7_hush [.ref k] (wm h k c) (some (.int (wm_tales c))) (wm h k (wm_s_tales c 0)) := by
  refine Ct.of (Z := List.replicate 1 .null) (by decide) (Nat.le_of_ble_eq_true rfl) (fun z hz => List.eq_of_mem_replicate hz) ?_
  show WW mX7_hush 0 [.ref k, .null] [] _ _ _
  refine r_aload_0 (pc := 0) dX7_hush_0 ?_
  refine r_wm_get_tales (pc := 1) hk fl_X7_243 dX7_hush_1 ?_
  refine r_istore_1 (pc := 4) dX7_hush_4 rfl (by decide) ?_
  refine r_aload_0 (pc := 5) dX7_hush_5 ?_
  refine r_iconst (pc := 6) 0 dX7_hush_6 (by decide) ?_
  refine r_wm_put_tales (pc := 7) hk fl_X7_243 dX7_hush_7 ?_
  refine r_iload_1 (pc := 10) dX7_hush_10 ?_
  refine r_iret (pc := 11) dX7_hush_11 rfl (by first | rfl | simp_all [bI]) rfl
/-- the tales, as they can be: each of a man's number, gold told as 0 or 1 -/
def okTl (c : Mod) (n : Nat) : Prop := ∀ i, i < n → (∃ m, m < 6 ∧ wm_taleMan c i = nI m) ∧ (wm_taleGold c i = 0 ∨ wm_taleGold c i = 1)
def mnB (c : Mod) (i : Nat) (liars : Int32) : Bool := decide (wm_taleGold c i = 1) ^^ hasB liars (wm_taleMan c i)
theorem ct_X7_meant {h : Wd} {k n i : Nat} {c : Mod} {liars : Int32} (hk : k + 24 < 76) (hi : i < n) (hn : n ≤ 8) (ho : okTl c n) : Ct mX7_meant [.ref k, .int (nI i), .int liars] (wm h k c) (some (.int (bI (mnB c i liars)))) (wm h k c) := by
  obtain ⟨⟨m, hm, em⟩, hg⟩ := ho i hi
  have eg : wm_taleGold c i = bI (decide (wm_taleGold c i = 1)) := by rcases hg with e | e <;> rw [e] <;> rfl
  refine Ct.of (Z := List.replicate 0 .null) (by decide) (Nat.le_of_ble_eq_true rfl) (fun z hz => List.eq_of_mem_replicate hz) ?_
  show WW mX7_meant 0 [.ref k, .int (nI i), .int liars] [] _ _ _
  refine r_aload_0 (pc := 0) dX7_meant_0 ?_
  refine r_wm_get_taleGold (pc := 1) hk fl_X7_38 dX7_meant_1 ?_
  refine r_iload_1 (pc := 4) dX7_meant_4 ?_
  refine r_wm_ld_taleGold (pc := 5) hk (by omega) dX7_meant_5 ?_
  refine r_iload_2 (pc := 6) dX7_meant_6 ?_
  refine r_aload_0 (pc := 7) dX7_meant_7 ?_
  refine r_wm_get_taleMan (pc := 8) hk fl_X7_32 dX7_meant_8 ?_
  refine r_iload_1 (pc := 11) dX7_meant_11 ?_
  refine r_wm_ld_taleMan (pc := 12) hk (by omega) dX7_meant_12 ?_
  rw [em]
  refine r_ishr (pc := 13) dX7_meant_13 ?_
  refine r_iconst (pc := 14) 1 dX7_meant_14 (by decide) ?_
  refine r_iand (pc := 15) dX7_meant_15 ?_
  refine r_ixor (pc := 16) dX7_meant_16 ?_
  refine r_iret (pc := 17) dX7_meant_17 rfl (by rw [shr1v liars (by omega), eg, bI_xor, mnB, em, hasB_n hm]) rfl
def aR (ce : Nat → Int32) (g : Nat → Bool) (i j : Nat) : Bool := !(decide (ce i = ce j)) || (g i == g j)
def aJ (ce : Nat → Int32) (g : Nat → Bool) (i : Nat) : Nat → Bool
  | 0 => true
  | n + 1 => aR ce g i (i - (n + 1)) && aJ ce g i n
def aI (ce : Nat → Int32) (g : Nat → Bool) (m : Nat) : Nat → Bool
  | 0 => true
  | n + 1 => aJ ce g (m - (n + 1)) (m - (n + 1)) && aI ce g m n
theorem lp_X7_can2 {h : Wd} {k n i : Nat} {c : Mod} {liars : Int32} {r : Option Value} {h' : Wd} (hk : k + 24 < 76) (hi : i < n) (hn : n ≤ 8) (ho : okTl c n) : ∀ q j, j + q = i → ∀ a, WW mX7_canBe 69 [.ref k, .int liars, .int (bI (a && aJ (wm_taleCell c) (fun i => mnB c i liars) i q)), .int (nI i), .int (nI i)] [] (wm h k c) r h' → WW mX7_canBe 15 [.ref k, .int liars, .int (bI a), .int (nI i), .int (nI j)] [] (wm h k c) r h' := by
  intro q
  induction q with
  | zero =>
    intro j hj a k1
    obtain rfl : j = i := by omega
    refine r_iload_4 (pc := 15) dX7_canBe_15 ?_
    refine r_iload_3 (pc := 17) dX7_canBe_17 ?_
    refine r_icmp_ge (pc := 18) 69 dX7_canBe_18 (by decide) (fun _ => ?_) (fun c18 => absurd (nI_le (by omega) (by omega)) (c18))
    exact k1.L (by rw [aJ, Bool.and_true])
  | succ q ih =>
    intro j hj a k1
    have ej : i - (q + 1) = j := by omega
    have go : ∀ a2, a2 = (a && aR (wm_taleCell c) (fun i => mnB c i liars) i j) → WW mX7_canBe 15 [.ref k, .int liars, .int (bI a2), .int (nI i), .int (nI (j + 1))] [] (wm h k c) r h' := fun a2 e => ih (j + 1) (by omega) a2 (k1.L (by rw [e, aJ, ej, Bool.and_assoc]))
    clear ih
    refine r_iload_4 (pc := 15) dX7_canBe_15 ?_
    refine r_iload_3 (pc := 17) dX7_canBe_17 ?_
    refine r_icmp_ge (pc := 18) 69 dX7_canBe_18 (by decide) (fun c18 => absurd c18 (nI_ge (by omega) (by omega))) (fun _ => ?_)
    refine r_iload_2 (pc := 21) dX7_canBe_21 ?_
    refine r_if_eq (pc := 22) 61 dX7_canBe_22 (by decide) (fun c22 => ?_) (fun c22 => ?_)
    · rw [bI_0] at c22
      refine r_iconst (pc := 61) 0 dX7_canBe_61 (by decide) ?_
      refine r_istore_2 (pc := 62) dX7_canBe_62 rfl (by decide) ?_
      refine r_inc_4 (pc := 63) dX7_canBe_63 rfl (by decide) ?_
      refine r_goto (pc := 66) 15 dX7_canBe_66 (by decide) ?_
      exact go false (by rw [c22]; rfl)
    · rw [bI_n0] at c22
      refine r_aload_0 (pc := 25) dX7_canBe_25 ?_
      refine r_wm_get_taleCell (pc := 26) hk fl_X7_35 dX7_canBe_26 ?_
      refine r_iload_3 (pc := 29) dX7_canBe_29 ?_
      refine r_wm_ld_taleCell (pc := 30) hk (by omega) dX7_canBe_30 ?_
      refine r_aload_0 (pc := 31) dX7_canBe_31 ?_
      refine r_wm_get_taleCell (pc := 32) hk fl_X7_35 dX7_canBe_32 ?_
      refine r_iload_4 (pc := 35) dX7_canBe_35 ?_
      refine r_wm_ld_taleCell (pc := 37) hk (by omega) dX7_canBe_37 ?_
      refine r_icmp_ne (pc := 38) 57 dX7_canBe_38 (by decide) (fun c38 => ?_) (fun c38 => ?_)
      · refine r_iconst (pc := 57) 1 dX7_canBe_57 (by decide) ?_
        refine r_goto (pc := 58) 62 dX7_canBe_58 (by decide) ?_
        refine r_istore_2 (pc := 62) dX7_canBe_62 rfl (by decide) ?_
        refine r_inc_4 (pc := 63) dX7_canBe_63 rfl (by decide) ?_
        refine r_goto (pc := 66) 15 dX7_canBe_66 (by decide) ?_
        exact go true (by rw [c22]; simp [aR, c38])
      · refine r_aload_0 (pc := 41) dX7_canBe_41 ?_
        refine r_iload_3 (pc := 42) dX7_canBe_42 ?_
        refine r_iload_1 (pc := 43) dX7_canBe_43 ?_
        refine r_cV1_2 (pc := 44) (ct_X7_meant hk hi hn ho) cv_X7_meant ⟨Nat.le_of_ble_eq_true rfl, Nat.le_of_ble_eq_true rfl⟩ ml_X7_246 dX7_canBe_44 (by omega) (wm_o _ _ _) rfl rfl (Nat.le_of_ble_eq_true rfl) ?_
        refine r_aload_0 (pc := 47) dX7_canBe_47 ?_
        refine r_iload_4 (pc := 48) dX7_canBe_48 ?_
        refine r_iload_1 (pc := 50) dX7_canBe_50 ?_
        refine r_cV1_2 (pc := 51) (ct_X7_meant hk (by omega : j < n) hn ho) cv_X7_meant ⟨Nat.le_of_ble_eq_true rfl, Nat.le_of_ble_eq_true rfl⟩ ml_X7_246 dX7_canBe_51 (by omega) (wm_o _ _ _) rfl rfl (Nat.le_of_ble_eq_true rfl) ?_
        refine r_icmp_ne (pc := 54) 61 dX7_canBe_54 (by decide) (fun c54 => ?_) (fun c54 => ?_)
        · refine r_iconst (pc := 61) 0 dX7_canBe_61 (by decide) ?_
          refine r_istore_2 (pc := 62) dX7_canBe_62 rfl (by decide) ?_
          refine r_inc_4 (pc := 63) dX7_canBe_63 rfl (by decide) ?_
          refine r_goto (pc := 66) 15 dX7_canBe_66 (by decide) ?_
          exact go false (by rw [c22]; simp [aR, c38, bI_ninj c54])
        · refine r_iconst (pc := 57) 1 dX7_canBe_57 (by decide) ?_
          refine r_goto (pc := 58) 62 dX7_canBe_58 (by decide) ?_
          refine r_istore_2 (pc := 62) dX7_canBe_62 rfl (by decide) ?_
          refine r_inc_4 (pc := 63) dX7_canBe_63 rfl (by decide) ?_
          refine r_goto (pc := 66) 15 dX7_canBe_66 (by decide) ?_
          exact go true (by rw [c22]; simp [aR, bI_inj c54])
theorem lp_X7_can1 {h : Wd} {k n : Nat} {c : Mod} {liars : Int32} (hk : k + 24 < 76) (hc : wm_tales c = nI n) (hn : n ≤ 8) (ho : okTl c n) (R : Bool) : ∀ q i, i + q = n → ∀ a, R = (a && aI (wm_taleCell c) (fun i => mnB c i liars) n q) → ∀ z, WW mX7_canBe 4 [.ref k, .int liars, .int (bI a), .int (nI i), z] [] (wm h k c) (some (.int (bI R))) (wm h k c) := by
  intro q
  induction q with
  | zero =>
    intro i hi a e z
    obtain rfl : i = n := by omega
    refine r_iload_3 (pc := 4) dX7_canBe_4 ?_
    refine r_aload_0 (pc := 5) dX7_canBe_5 ?_
    refine r_wm_get_tales (pc := 6) hk fl_X7_243 dX7_canBe_6 ?_
    rw [hc]
    refine r_icmp_ge (pc := 9) 75 dX7_canBe_9 (by decide) (fun _ => ?_) (fun c9 => absurd (nI_le (by omega) (by omega)) (c9))
    refine r_iload_2 (pc := 75) dX7_canBe_75 ?_
    refine r_zret (pc := 76) dX7_canBe_76 rfl (by first | rfl | exact bI_nar _) (by rw [e, aI, Bool.and_true]) rfl
  | succ q ih =>
    intro i hi a e z
    have ei : n - (q + 1) = i := by omega
    refine r_iload_3 (pc := 4) dX7_canBe_4 ?_
    refine r_aload_0 (pc := 5) dX7_canBe_5 ?_
    refine r_wm_get_tales (pc := 6) hk fl_X7_243 dX7_canBe_6 ?_
    rw [hc]
    refine r_icmp_ge (pc := 9) 75 dX7_canBe_9 (by decide) (fun c9 => absurd c9 (nI_ge (by omega) (by omega))) (fun _ => ?_)
    refine r_iconst (pc := 12) 0 dX7_canBe_12 (by decide) ?_
    refine r_istore_4 (pc := 13) dX7_canBe_13 rfl (by decide) ?_
    refine lp_X7_can2 hk (by omega) hn ho i 0 (by omega) a ?_
    refine r_inc_3 (pc := 69) dX7_canBe_69 rfl (by decide) ?_
    refine r_goto (pc := 72) 4 dX7_canBe_72 (by decide) ?_
    exact ih (i + 1) (by omega) _ (by rw [e, aI, ei, Bool.and_assoc]) _
theorem ct_X7_canBe {h : Wd} {k n : Nat} {c : Mod} {liars : Int32} (hk : k + 24 < 76) (hc : wm_tales c = nI n) (hn : n ≤ 8) (ho : okTl c n) : Ct mX7_canBe [.ref k, .int liars] (wm h k c) (some (.int (bI (aI (wm_taleCell c) (fun i => mnB c i liars) n n)))) (wm h k c) := by
  refine Ct.of (Z := List.replicate 3 .null) (by decide) (Nat.le_of_ble_eq_true rfl) (fun z hz => List.eq_of_mem_replicate hz) ?_
  show WW mX7_canBe 0 [.ref k, .int liars, .null, .null, .null] [] _ _ _
  refine r_iconst (pc := 0) 1 dX7_canBe_0 (by decide) ?_
  refine r_istore_2 (pc := 1) dX7_canBe_1 rfl (by decide) ?_
  refine r_iconst (pc := 2) 0 dX7_canBe_2 (by decide) ?_
  refine r_istore_3 (pc := 3) dX7_canBe_3 rfl (by decide) ?_
  exact lp_X7_can1 hk hc hn ho _ n 0 (by omega) true (by rw [Bool.true_and]) _
theorem ct_X7_liarsB {h : Wd} {k : Nat} {c : Mod} {x : Int32} (hk : k + 24 < 76) (hb : inR x 0 1 = false) : Ct mX7_liars [.ref k, .int x] (wm h k c) (some (.int (-2))) (wm h k c) := by
  refine Ct.of (Z := List.replicate 3 .null) (by decide) (Nat.le_of_ble_eq_true rfl) (fun z hz => List.eq_of_mem_replicate hz) ?_
  show WW mX7_liars 0 [.ref k, .int x, .null, .null, .null] [] _ _ _
  refine r_iload_1 (pc := 0) dX7_liars_0 ?_
  refine r_i2l (pc := 1) dX7_liars_1 ?_
  refine r_lconst (pc := 2) 0 dX7_liars_2 (by decide) ?_
  refine r_lconst (pc := 3) 1 dX7_liars_3 (by decide) ?_
  refine r_cS1_3 (pc := 4) (ct_X7_inI (lo := 0) (hi := 1) (by decide) (by decide)) cs_X7_in ⟨Nat.le_of_ble_eq_true rfl, Nat.le_of_ble_eq_true rfl⟩ ml_X7_86 dX7_liars_4 rfl (Nat.le_of_ble_eq_true rfl) ?_
  refine r_if_ne (pc := 7) 13 dX7_liars_7 (by decide) (fun c7 => absurd (by rw [hb]; rfl) c7) (fun _ => ?_)
  refine r_bipush (pc := 10) (-2) dX7_liars_10 (by decide) ?_
  refine r_iret (pc := 12) dX7_liars_12 rfl (by first | rfl | simp_all [bI]) rfl
def ok6 (b : Int32) : Prop := b = -6 ∨ ∃ l, l < 64 ∧ b = nI l
theorem ok6_neg {b : Int32} (h : ok6 b) : b < 0 ↔ b = -6 := by
  rcases h with e | ⟨l, hl, e⟩
  · rw [e]; decide
  · rw [e]
    exact ⟨fun z => absurd z (nI_pos (by omega)), fun z => by have := nI_pos (n := l) (by omega); rw [z] at this; exact absurd (by decide) this⟩
theorem ok6_fw {P : Nat → Bool} {b : Int32} {s : Nat} (hs : s < 64) (h : ok6 b) : ok6 (fwS P b s) := by
  unfold fwS
  split
  · exact Or.inr ⟨s, hs, rfl⟩
  · exact h
theorem ok6_fwR {P : Nat → Bool} : ∀ r b, r ≤ 64 → ok6 b → ok6 (fwR P b r)
  | 0, _, _, h => h
  | r + 1, b, hr, h => ok6_fwR r _ (by omega) (ok6_fw (by omega) h)
def liV (b x : Int32) : Int32 := if b < 0 ∨ x = 1 then b else nI (cnt (bt b) 32)
theorem lp_X7_liars {h : Wd} {k n : Nat} {c : Mod} {x : Int32} (hk : k + 24 < 76) (hc : wm_tales c = nI n) (hn : n ≤ 8) (ho : okTl c n) (R : Int32) : ∀ r s b, s + r = 64 → ok6 b → R = liV (fwR (fun q => aI (wm_taleCell c) (fun i => mnB c i (nI q)) n n) b r) x → ∀ z, WW mX7_liars 18 [.ref k, .int x, .int b, .int (nI s), z] [] (wm h k c) (some (.int R)) (wm h k c) := by
  intro r
  induction r with
  | zero =>
    intro s b hs h6 e z
    obtain rfl : s = 64 := by omega
    have hB : ¬ b < 0 → ∃ l, l < 64 ∧ b = nI l := fun q => h6.resolve_left (fun w => q ((ok6_neg h6).mpr w))
    refine r_iload_3 (pc := 18) dX7_liars_18 ?_
    refine r_bipush (pc := 19) 64 dX7_liars_19 (by decide) ?_
    refine r_icmp_ge (pc := 21) 71 dX7_liars_21 (by decide) (fun _ => ?_) (fun c21 => absurd (nI_le (a := 64) (b := 64) (by omega) (by omega)) (c21))
    refine r_iload_2 (pc := 71) dX7_liars_71 ?_
    refine r_if_lt (pc := 72) 80 dX7_liars_72 (by decide) (fun c72 => ?_) (fun c72 => ?_)
    · refine r_iload_2 (pc := 80) dX7_liars_80 ?_
      refine r_goto (pc := 81) 88 dX7_liars_81 (by decide) ?_
      refine r_iret (pc := 88) dX7_liars_88 rfl (by rw [e, fwR, liV, if_pos (Or.inl c72)]) rfl
    · refine r_iload_1 (pc := 75) dX7_liars_75 ?_
      refine r_iconst (pc := 76) 1 dX7_liars_76 (by decide) ?_
      refine r_icmp_ne (pc := 77) 84 dX7_liars_77 (by decide) (fun c77 => ?_) (fun c77 => ?_)
      · refine r_iload_2 (pc := 84) dX7_liars_84 ?_
        refine r_cS1_1 (pc := 85) (ct_X7_ones (hB c72)) cs_X7_ones ⟨Nat.le_of_ble_eq_true rfl, Nat.le_of_ble_eq_true rfl⟩ ml_X7_102 dX7_liars_85 rfl (Nat.le_of_ble_eq_true rfl) ?_
        refine r_iret (pc := 88) dX7_liars_88 rfl (by rw [e, fwR, liV, if_neg (fun q => q.elim c72 c77)]) rfl
      · refine r_iload_2 (pc := 80) dX7_liars_80 ?_
        refine r_goto (pc := 81) 88 dX7_liars_81 (by decide) ?_
        refine r_iret (pc := 88) dX7_liars_88 rfl (by rw [e, fwR, liV, if_pos (Or.inr c77)]) rfl
  | succ r ih =>
    intro s b hs h6 e z
    have es : 64 - (r + 1) = s := by omega
    have hB : ¬ b < 0 → ∃ l, l < 64 ∧ b = nI l := fun q => h6.resolve_left (fun w => q ((ok6_neg h6).mpr w))
    have go : ∀ d, d = fwS (fun q => aI (wm_taleCell c) (fun i => mnB c i (nI q)) n n) b s → ∀ z1, WW mX7_liars 18 [.ref k, .int x, .int d, .int (nI (s + 1)), z1] [] (wm h k c) (some (.int R)) (wm h k c) := fun d ed z1 => by
      rw [ed]
      exact ih (s + 1) _ (by omega) (ok6_fw (by omega) h6) (by rw [e, fwR, es]) z1
    clear ih
    have n1 : cnt (bt (nI s)) 32 < 2 ^ 31 := Nat.lt_of_le_of_lt (cnt_le _ _) (by decide)
    have n2 : cnt (bt b) 32 < 2 ^ 31 := Nat.lt_of_le_of_lt (cnt_le _ _) (by decide)
    refine r_iload_3 (pc := 18) dX7_liars_18 ?_
    refine r_bipush (pc := 19) 64 dX7_liars_19 (by decide) ?_
    refine r_icmp_ge (pc := 21) 71 dX7_liars_21 (by decide) (fun c21 => absurd c21 (nI_ge (a := s) (b := 64) (by omega) (by decide))) (fun _ => ?_)
    refine r_iload_2 (pc := 24) dX7_liars_24 ?_
    refine r_if_lt (pc := 25) 39 dX7_liars_25 (by decide) (fun c25 => ?_) (fun c25 => ?_)
    · rw [ok6_neg h6] at c25
      refine r_iconst (pc := 39) 1 dX7_liars_39 (by decide) ?_
      refine r_goto (pc := 40) 44 dX7_liars_40 (by decide) ?_
      refine r_istore_4 (pc := 44) dX7_liars_44 rfl (by decide) ?_
      refine r_iload_4 (pc := 46) dX7_liars_46 ?_
      refine r_if_eq (pc := 48) 63 dX7_liars_48 (by decide) (fun c48 => absurd c48 (by decide)) (fun _ => ?_)
      refine r_aload_0 (pc := 51) dX7_liars_51 ?_
      refine r_iload_3 (pc := 52) dX7_liars_52 ?_
      refine r_cV1_1 (pc := 53) (ct_X7_canBe hk hc hn ho) cv_X7_canBe ⟨Nat.le_of_ble_eq_true rfl, Nat.le_of_ble_eq_true rfl⟩ ml_X7_249 dX7_liars_53 (by omega) (wm_o _ _ _) rfl rfl (Nat.le_of_ble_eq_true rfl) ?_
      refine r_if_eq (pc := 56) 63 dX7_liars_56 (by decide) (fun c56 => ?_) (fun c56 => ?_)
      · rw [bI_0] at c56
        refine r_iload_2 (pc := 63) dX7_liars_63 ?_
        refine r_istore_2 (pc := 64) dX7_liars_64 rfl (by decide) ?_
        refine r_inc_3 (pc := 65) dX7_liars_65 rfl (by decide) ?_
        refine r_goto (pc := 68) 18 dX7_liars_68 (by decide) ?_
        exact go _ (by rw [fwS, if_neg]; rintro ⟨-, z⟩; rw [c56] at z; cases z) _
      · rw [bI_n0] at c56
        refine r_iload_3 (pc := 59) dX7_liars_59 ?_
        refine r_goto (pc := 60) 64 dX7_liars_60 (by decide) ?_
        refine r_istore_2 (pc := 64) dX7_liars_64 rfl (by decide) ?_
        refine r_inc_3 (pc := 65) dX7_liars_65 rfl (by decide) ?_
        refine r_goto (pc := 68) 18 dX7_liars_68 (by decide) ?_
        exact go _ (by rw [fwS, if_pos]; exact ⟨by first | exact Or.inl c25 | exact Or.inr (by omega), c56⟩) _
    · have c25b := fun q => c25 ((ok6_neg h6).mpr q)
      refine r_iload_3 (pc := 28) dX7_liars_28 ?_
      refine r_cS1_1 (pc := 29) (ct_X7_ones ⟨s, by omega, rfl⟩) cs_X7_ones ⟨Nat.le_of_ble_eq_true rfl, Nat.le_of_ble_eq_true rfl⟩ ml_X7_102 dX7_liars_29 rfl (Nat.le_of_ble_eq_true rfl) ?_
      refine r_iload_2 (pc := 32) dX7_liars_32 ?_
      refine r_cS1_1 (pc := 33) (ct_X7_ones (hB c25)) cs_X7_ones ⟨Nat.le_of_ble_eq_true rfl, Nat.le_of_ble_eq_true rfl⟩ ml_X7_102 dX7_liars_33 rfl (Nat.le_of_ble_eq_true rfl) ?_
      refine r_icmp_ge (pc := 36) 43 dX7_liars_36 (by decide) (fun c36 => ?_) (fun c36 => ?_)
      · rw [nI_leI n2 n1] at c36
        refine r_iconst (pc := 43) 0 dX7_liars_43 (by decide) ?_
        refine r_istore_4 (pc := 44) dX7_liars_44 rfl (by decide) ?_
        refine r_iload_4 (pc := 46) dX7_liars_46 ?_
        refine r_if_eq (pc := 48) 63 dX7_liars_48 (by decide) (fun _ => ?_) (fun c48 => absurd (rfl) (c48))
        refine r_iload_2 (pc := 63) dX7_liars_63 ?_
        refine r_istore_2 (pc := 64) dX7_liars_64 rfl (by decide) ?_
        refine r_inc_3 (pc := 65) dX7_liars_65 rfl (by decide) ?_
        refine r_goto (pc := 68) 18 dX7_liars_68 (by decide) ?_
        exact go _ (by rw [fwS, if_neg]; rintro ⟨z | z, -⟩; exact c25b z; omega) _
      · rw [nI_leI n2 n1] at c36
        refine r_iconst (pc := 39) 1 dX7_liars_39 (by decide) ?_
        refine r_goto (pc := 40) 44 dX7_liars_40 (by decide) ?_
        refine r_istore_4 (pc := 44) dX7_liars_44 rfl (by decide) ?_
        refine r_iload_4 (pc := 46) dX7_liars_46 ?_
        refine r_if_eq (pc := 48) 63 dX7_liars_48 (by decide) (fun c48 => absurd c48 (by decide)) (fun _ => ?_)
        refine r_aload_0 (pc := 51) dX7_liars_51 ?_
        refine r_iload_3 (pc := 52) dX7_liars_52 ?_
        refine r_cV1_1 (pc := 53) (ct_X7_canBe hk hc hn ho) cv_X7_canBe ⟨Nat.le_of_ble_eq_true rfl, Nat.le_of_ble_eq_true rfl⟩ ml_X7_249 dX7_liars_53 (by omega) (wm_o _ _ _) rfl rfl (Nat.le_of_ble_eq_true rfl) ?_
        refine r_if_eq (pc := 56) 63 dX7_liars_56 (by decide) (fun c56 => ?_) (fun c56 => ?_)
        · rw [bI_0] at c56
          refine r_iload_2 (pc := 63) dX7_liars_63 ?_
          refine r_istore_2 (pc := 64) dX7_liars_64 rfl (by decide) ?_
          refine r_inc_3 (pc := 65) dX7_liars_65 rfl (by decide) ?_
          refine r_goto (pc := 68) 18 dX7_liars_68 (by decide) ?_
          exact go _ (by rw [fwS, if_neg]; rintro ⟨-, z⟩; rw [c56] at z; cases z) _
        · rw [bI_n0] at c56
          refine r_iload_3 (pc := 59) dX7_liars_59 ?_
          refine r_goto (pc := 60) 64 dX7_liars_60 (by decide) ?_
          refine r_istore_2 (pc := 64) dX7_liars_64 rfl (by decide) ?_
          refine r_inc_3 (pc := 65) dX7_liars_65 rfl (by decide) ?_
          refine r_goto (pc := 68) 18 dX7_liars_68 (by decide) ?_
          exact go _ (by rw [fwS, if_pos]; exact ⟨by first | exact Or.inl c25 | exact Or.inr (by omega), c56⟩) _
theorem ct_X7_liars {h : Wd} {k n : Nat} {c : Mod} {x : Int32} (hk : k + 24 < 76) (hb : inR x 0 1 = true) (hc : wm_tales c = nI n) (hn : n ≤ 8) (ho : okTl c n) : Ct mX7_liars [.ref k, .int x] (wm h k c) (some (.int (liV (fwR (fun q => aI (wm_taleCell c) (fun i => mnB c i (nI q)) n n) (-6) 64) x))) (wm h k c) := by
  refine Ct.of (Z := List.replicate 3 .null) (by decide) (Nat.le_of_ble_eq_true rfl) (fun z hz => List.eq_of_mem_replicate hz) ?_
  show WW mX7_liars 0 [.ref k, .int x, .null, .null, .null] [] _ _ _
  refine r_iload_1 (pc := 0) dX7_liars_0 ?_
  refine r_i2l (pc := 1) dX7_liars_1 ?_
  refine r_lconst (pc := 2) 0 dX7_liars_2 (by decide) ?_
  refine r_lconst (pc := 3) 1 dX7_liars_3 (by decide) ?_
  refine r_cS1_3 (pc := 4) (ct_X7_inI (lo := 0) (hi := 1) (by decide) (by decide)) cs_X7_in ⟨Nat.le_of_ble_eq_true rfl, Nat.le_of_ble_eq_true rfl⟩ ml_X7_86 dX7_liars_4 rfl (Nat.le_of_ble_eq_true rfl) ?_
  refine r_if_ne (pc := 7) 13 dX7_liars_7 (by decide) (fun _ => ?_) (fun c7 => absurd c7 (by rw [hb]; decide))
  refine r_bipush (pc := 13) (-6) dX7_liars_13 (by decide) ?_
  refine r_istore_2 (pc := 15) dX7_liars_15 rfl (by decide) ?_
  refine r_iconst (pc := 16) 0 dX7_liars_16 (by decide) ?_
  refine r_istore_3 (pc := 17) dX7_liars_17 rfl (by decide) ?_
  exact lp_X7_liars hk hc hn ho _ 64 0 (-6) rfl (Or.inl rfl) rfl _
