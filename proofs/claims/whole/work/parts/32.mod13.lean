/-! THE REFERENCE: colds -/
def hbM (c : Mod) (t set : Nat) : Nat → Int32 := isum (fun m => if bt (wm_men c) m = true then mx0 (snv (wm_ore c) (wm_knows c m) (bt (nI set) m) (whB c m) - dist (wm_tent c m) (nI t)) else 0)
theorem lp_X7_heardBy {h : Wd} {k t set : Nat} {c : Mod} (hk : k + 24 < 76) (ht : t < 64) (hT : okT (wm_tent c)) : ∀ n j, j + n = 6 → WW mX7_heardBy 5 [.ref k, .int (nI t), .int (nI set), .int (hbM c t set j), .int (nI j)] [] (wm h k c) (some (.int (hbM c t set 6))) (wm h k c) := by
  intro n
  induction n with
  | zero =>
    intro j hj
    obtain rfl : j = 6 := by omega
    refine r_iload_4 (pc := 5) dX7_heardBy_5 ?_
    refine r_bipush (pc := 7) 6 dX7_heardBy_7 (by decide) ?_
    refine r_icmp_ge (pc := 9) 61 dX7_heardBy_9 (by decide) (fun _ => ?_) (fun c9 => absurd (nI_le (a := 6) (b := 6) (by omega) (by omega)) (c9))
    refine r_iload_3 (pc := 61) dX7_heardBy_61 ?_
    refine r_iret (pc := 62) dX7_heardBy_62 rfl (by first | rfl | simp_all [bI]) rfl
  | succ n ih =>
    intro j hj
    obtain ⟨t2, ht2, et2⟩ := hT j (by omega)
    refine r_iload_4 (pc := 5) dX7_heardBy_5 ?_
    refine r_bipush (pc := 7) 6 dX7_heardBy_7 (by decide) ?_
    refine r_icmp_ge (pc := 9) 61 dX7_heardBy_9 (by decide) (fun c9 => absurd c9 (nI_ge (a := j) (b := 6) (by omega) (by decide))) (fun _ => ?_)
    refine r_iload_3 (pc := 12) dX7_heardBy_12 ?_
    refine r_aload_0 (pc := 13) dX7_heardBy_13 ?_
    refine r_iload_4 (pc := 14) dX7_heardBy_14 ?_
    refine r_cV1_1 (pc := 16) (ct_X7_isMan hk) cv_X7_isMan ⟨Nat.le_of_ble_eq_true rfl, Nat.le_of_ble_eq_true rfl⟩ ml_X7_106 dX7_heardBy_16 (by omega) (wm_o _ _ _) rfl rfl (Nat.le_of_ble_eq_true rfl) ?_
    refine r_if_eq (pc := 19) 52 dX7_heardBy_19 (by decide) (fun c19 => ?_) (fun c19 => ?_)
    · rw [hasB_n (by omega), bI_0] at c19
      refine r_iconst (pc := 52) 0 dX7_heardBy_52 (by decide) ?_
      refine r_iadd (pc := 53) dX7_heardBy_53 ?_
      refine r_istore_3 (pc := 54) dX7_heardBy_54 rfl (by decide) ?_
      refine r_inc_4 (pc := 55) dX7_heardBy_55 rfl (by decide) ?_
      refine r_goto (pc := 58) 5 dX7_heardBy_58 (by decide) ?_
      exact (ih (j + 1) (by omega)).L (by rw [hbM, isum, if_neg (by rw [c19]; decide), Int32.add_zero] <;> rfl)
    · rw [hasB_n (by omega), bI_n0] at c19
      refine r_aload_0 (pc := 22) dX7_heardBy_22 ?_
      refine r_iload_4 (pc := 23) dX7_heardBy_23 ?_
      refine r_iload_2 (pc := 25) dX7_heardBy_25 ?_
      refine r_iload_4 (pc := 26) dX7_heardBy_26 ?_
      refine r_ishr (pc := 28) dX7_heardBy_28 ?_
      refine r_iconst (pc := 29) 1 dX7_heardBy_29 (by decide) ?_
      refine r_iand (pc := 30) dX7_heardBy_30 ?_
      rw [shr1v (nI set) (by omega)]
      refine r_cV1_2 (pc := 31) (ct_X7_snoreBy hk (by omega)) cv_X7_snoreBy ⟨Nat.le_of_ble_eq_true rfl, Nat.le_of_ble_eq_true rfl⟩ ml_X7_210 dX7_heardBy_31 (by omega) (wm_o _ _ _) rfl rfl (Nat.le_of_ble_eq_true rfl) ?_
      refine r_iload_1 (pc := 34) dX7_heardBy_34 ?_
      refine r_aload_0 (pc := 35) dX7_heardBy_35 ?_
      refine r_wm_get_tent (pc := 36) hk fl_X7_16 dX7_heardBy_36 ?_
      refine r_iload_4 (pc := 39) dX7_heardBy_39 ?_
      refine r_wm_ld_tent (pc := 41) hk (by omega) dX7_heardBy_41 ?_
      rw [et2]
      refine r_cS1_2 (pc := 42) (ct_X7_apartN ht ht2) cs_X7_apart ⟨Nat.le_of_ble_eq_true rfl, Nat.le_of_ble_eq_true rfl⟩ ml_X7_216 dX7_heardBy_42 rfl (Nat.le_of_ble_eq_true rfl) ?_
      refine r_isub (pc := 45) dX7_heardBy_45 ?_
      refine r_cS1_1 (pc := 46) (ct_X7_over) cs_X7_over ⟨Nat.le_of_ble_eq_true rfl, Nat.le_of_ble_eq_true rfl⟩ ml_X7_219 dX7_heardBy_46 rfl (Nat.le_of_ble_eq_true rfl) ?_
      rw [ovr_mx]
      refine r_goto (pc := 49) 53 dX7_heardBy_49 (by decide) ?_
      refine r_iadd (pc := 53) dX7_heardBy_53 ?_
      refine r_istore_3 (pc := 54) dX7_heardBy_54 rfl (by decide) ?_
      refine r_inc_4 (pc := 55) dX7_heardBy_55 rfl (by decide) ?_
      refine r_goto (pc := 58) 5 dX7_heardBy_58 (by decide) ?_
      exact (ih (j + 1) (by omega)).L (by rw [hbM, isum, if_pos c19, et2] <;> rfl)
theorem ct_X7_heardBy {h : Wd} {k t set : Nat} {c : Mod} (hk : k + 24 < 76) (ht : t < 64) (hT : okT (wm_tent c)) : Ct mX7_heardBy [.ref k, .int (nI t), .int (nI set)] (wm h k c) (some (.int (hbM c t set 6))) (wm h k c) := by
  refine Ct.of (Z := List.replicate 2 .null) (by decide) (Nat.le_of_ble_eq_true rfl) (fun z hz => List.eq_of_mem_replicate hz) ?_
  show WW mX7_heardBy 0 [.ref k, .int (nI t), .int (nI set), .null, .null] [] _ _ _
  refine r_iconst (pc := 0) 0 dX7_heardBy_0 (by decide) ?_
  refine r_istore_3 (pc := 1) dX7_heardBy_1 rfl (by decide) ?_
  refine r_iconst (pc := 2) 0 dX7_heardBy_2 (by decide) ?_
  refine r_istore_4 (pc := 3) dX7_heardBy_3 rfl (by decide) ?_
  exact lp_X7_heardBy hk ht hT 6 0 rfl
/-- the weight of a set of colds -/
def wtL (men : Int32) (x : Int32) (set : Nat) : Nat → Int64
  | 0 => if nI set &&& (men ^^^ (-1)) = 0 then 1 else 0
  | m + 1 => wtL men x set m * (if bt men m then (if bt (nI set) m then x else 10 - x).toInt64 else 1)
theorem lp_X7_wt {h h' : Wd} {k set : Nat} {c : Mod} {cell x v p : Int32} {a b : Int64} {r0 : Option Value} (hk : k + 24 < 76) (hs : set < 64) (k1 : WW mX7_colds 138 [.ref k, .int cell, .int x, .int v, .int p, .long a, .null, .long b, .null, .int (nI set), .long (wtL (wm_men c) x set 6), .null, .int (nI 6)] [] (wm h k c) r0 h') : ∀ n j, j + n = 6 → WW mX7_colds 86 [.ref k, .int cell, .int x, .int v, .int p, .long a, .null, .long b, .null, .int (nI set), .long (wtL (wm_men c) x set j), .null, .int (nI j)] [] (wm h k c) r0 h' := by
  intro n
  induction n with
  | zero =>
    intro j hj
    obtain rfl : j = 6 := by omega
    refine r_iload_12 (pc := 86) dX7_colds_86 ?_
    refine r_bipush (pc := 88) 6 dX7_colds_88 (by decide) ?_
    refine r_icmp_ge (pc := 90) 138 dX7_colds_90 (by decide) (fun _ => ?_) (fun c90 => absurd (nI_le (a := 6) (b := 6) (by omega) (by omega)) (c90))
    exact k1
  | succ n ih =>
    intro j hj
    refine r_iload_12 (pc := 86) dX7_colds_86 ?_
    refine r_bipush (pc := 88) 6 dX7_colds_88 (by decide) ?_
    refine r_icmp_ge (pc := 90) 138 dX7_colds_90 (by decide) (fun c90 => absurd c90 (nI_ge (a := j) (b := 6) (by omega) (by decide))) (fun _ => ?_)
    refine r_lload_10 (pc := 93) dX7_colds_93 ?_
    refine r_aload_0 (pc := 95) dX7_colds_95 ?_
    refine r_iload_12 (pc := 96) dX7_colds_96 ?_
    refine r_cV1_1 (pc := 98) (ct_X7_isMan hk) cv_X7_isMan ⟨Nat.le_of_ble_eq_true rfl, Nat.le_of_ble_eq_true rfl⟩ ml_X7_106 dX7_colds_98 (by omega) (wm_o _ _ _) rfl rfl (Nat.le_of_ble_eq_true rfl) ?_
    refine r_if_ne (pc := 101) 108 dX7_colds_101 (by decide) (fun c101 => ?_) (fun c101 => ?_)
    · rw [hasB_n (by omega), bI_n0] at c101
      refine r_iload_9 (pc := 108) dX7_colds_108 ?_
      refine r_iload_12 (pc := 110) dX7_colds_110 ?_
      refine r_ishr (pc := 112) dX7_colds_112 ?_
      refine r_iconst (pc := 113) 1 dX7_colds_113 (by decide) ?_
      refine r_iand (pc := 114) dX7_colds_114 ?_
      refine r_iconst (pc := 115) 1 dX7_colds_115 (by decide) ?_
      refine r_icmp_ne (pc := 116) 124 dX7_colds_116 (by decide) (fun c116 => ?_) (fun c116 => ?_)
      · rw [ib_s _ (by omega), Bool.not_eq_true] at c116
        refine r_bipush (pc := 124) 10 dX7_colds_124 (by decide) ?_
        refine r_iload_2 (pc := 126) dX7_colds_126 ?_
        refine r_isub (pc := 127) dX7_colds_127 ?_
        refine r_i2l (pc := 128) dX7_colds_128 ?_
        refine r_lmul (pc := 129) dX7_colds_129 ?_
        refine r_lstore_10 (pc := 130) dX7_colds_130 rfl (by decide) ?_
        refine r_inc_12 (pc := 132) dX7_colds_132 rfl (by decide) ?_
        refine r_goto (pc := 135) 86 dX7_colds_135 (by decide) ?_
        exact (ih (j + 1) (by omega)).L (by rw [wtL, c101, c116]; rfl)
      · rw [ib_s _ (by omega)] at c116
        refine r_iload_2 (pc := 119) dX7_colds_119 ?_
        refine r_i2l (pc := 120) dX7_colds_120 ?_
        refine r_goto (pc := 121) 129 dX7_colds_121 (by decide) ?_
        refine r_lmul (pc := 129) dX7_colds_129 ?_
        refine r_lstore_10 (pc := 130) dX7_colds_130 rfl (by decide) ?_
        refine r_inc_12 (pc := 132) dX7_colds_132 rfl (by decide) ?_
        refine r_goto (pc := 135) 86 dX7_colds_135 (by decide) ?_
        exact (ih (j + 1) (by omega)).L (by rw [wtL, c101, c116]; rfl)
    · rw [hasB_n (by omega), bI_0] at c101
      refine r_lconst (pc := 104) 1 dX7_colds_104 (by decide) ?_
      refine r_goto (pc := 105) 129 dX7_colds_105 (by decide) ?_
      refine r_lmul (pc := 129) dX7_colds_129 ?_
      refine r_lstore_10 (pc := 130) dX7_colds_130 rfl (by decide) ?_
      refine r_inc_12 (pc := 132) dX7_colds_132 rfl (by decide) ?_
      refine r_goto (pc := 135) 86 dX7_colds_135 (by decide) ?_
      exact (ih (j + 1) (by omega)).L (by rw [wtL, c101]; rfl)
def coA (c : Mod) (x : Int32) : Nat → Int64 := lsum (fun set => wtL (wm_men c) x set 6)
def coS (c : Mod) (t : Nat) (x v : Int32) : Nat → Int64 := lsum (fun set => if v < 0 then wtL (wm_men c) x set 6 * (hbM c t set 6).toInt64 else if v ≤ hbM c t set 6 then wtL (wm_men c) x set 6 else 0)
theorem lp_X7_colds {h : Wd} {k t u w : Nat} {c : Mod} {x v p : Int32} (hk : k + 24 < 76) (ht : t < 64) (hT : okT (wm_tent c)) (eu : coS c t x v 64 = lN u) (ew : coA c x 64 = lN w) (hu : u < 2 ^ 62) (hw : w < 2 ^ 62) (h0 : 0 < w) : ∀ n j, j + n = 64 → ∀ z1 z2 z3, WW mX7_colds 57 [.ref k, .int (nI t), .int x, .int v, .int p, .long (coA c x j), .null, .long (coS c t x v j), .null, .int (nI j), z1, z2, z3] [] (wm h k c) (some (.long (lwV u w p))) (wm h k c) := by
  intro n
  induction n with
  | zero =>
    intro j hj z1 z2 z3
    obtain rfl : j = 64 := by omega
    refine r_iload_9 (pc := 57) dX7_colds_57 ?_
    refine r_bipush (pc := 59) 64 dX7_colds_59 (by decide) ?_
    refine r_icmp_ge (pc := 61) 190 dX7_colds_61 (by decide) (fun _ => ?_) (fun c61 => absurd (nI_le (a := 64) (b := 64) (by omega) (by omega)) (c61))
    refine r_lload_7 (pc := 190) dX7_colds_190 ?_
    refine r_lload_5 (pc := 192) dX7_colds_192 ?_
    refine r_iload_4 (pc := 194) dX7_colds_194 ?_
    rw [eu, ew]
    refine r_cS1_3 (pc := 196) (ct_X7_lowest hu hw h0) cs_X7_lowest ⟨Nat.le_of_ble_eq_true rfl, Nat.le_of_ble_eq_true rfl⟩ ml_X7_284 dX7_colds_196 rfl (Nat.le_of_ble_eq_true rfl) ?_
    refine r_lret (pc := 199) dX7_colds_199 rfl (by first | rfl | simp_all [bI]) rfl
  | succ n ih =>
    intro j hj z1 z2 z3
    have go : ∀ (a b : Int64) (y1 y2 y3 : Value), a = coA c x (j + 1) → b = coS c t x v (j + 1) → WW mX7_colds 57 [.ref k, .int (nI t), .int x, .int v, .int p, .long a, .null, .long b, .null, .int (nI (j + 1)), y1, y2, y3] [] (wm h k c) (some (.long (lwV u w p))) (wm h k c) := fun a b y1 y2 y3 ea eb => (ih (j + 1) (by omega) y1 y2 y3).L (by rw [ea, eb])
    clear ih
    refine r_iload_9 (pc := 57) dX7_colds_57 ?_
    refine r_bipush (pc := 59) 64 dX7_colds_59 (by decide) ?_
    refine r_icmp_ge (pc := 61) 190 dX7_colds_61 (by decide) (fun c61 => absurd c61 (nI_ge (a := j) (b := 64) (by omega) (by decide))) (fun _ => ?_)
    refine r_iload_9 (pc := 64) dX7_colds_64 ?_
    refine r_aload_0 (pc := 66) dX7_colds_66 ?_
    refine r_wm_get_men (pc := 67) hk fl_X7_92 dX7_colds_67 ?_
    refine r_iconst (pc := 70) (-1) dX7_colds_70 (by decide) ?_
    refine r_ixor (pc := 71) dX7_colds_71 ?_
    refine r_iand (pc := 72) dX7_colds_72 ?_
    refine r_if_ne (pc := 73) 80 dX7_colds_73 (by decide) (fun c73 => ?_) (fun c73 => ?_)
    · refine r_lconst (pc := 80) 0 dX7_colds_80 (by decide) ?_
      refine WW.st (st' := [.long (wtL (wm_men c) x j 0)]) ?_ (by first | (rw [wtL, if_neg c73]) | (rw [wtL, if_pos c73]))
      refine r_lstore_10 (pc := 81) dX7_colds_81 rfl (by decide) ?_
      refine r_iconst (pc := 83) 0 dX7_colds_83 (by decide) ?_
      refine r_istore_12 (pc := 84) dX7_colds_84 rfl (by decide) ?_
      refine lp_X7_wt hk (by omega) ?_ 6 0 rfl
      refine r_aload_0 (pc := 138) dX7_colds_138 ?_
      refine r_iload_1 (pc := 139) dX7_colds_139 ?_
      refine r_iload_9 (pc := 140) dX7_colds_140 ?_
      refine r_cV1_2 (pc := 142) (ct_X7_heardBy hk ht hT) cv_X7_heardBy ⟨Nat.le_of_ble_eq_true rfl, Nat.le_of_ble_eq_true rfl⟩ ml_X7_298 dX7_colds_142 (by omega) (wm_o _ _ _) rfl rfl (Nat.le_of_ble_eq_true rfl) ?_
      refine r_istore_12 (pc := 145) dX7_colds_145 rfl (by decide) ?_
      refine r_lload_5 (pc := 147) dX7_colds_147 ?_
      refine r_lload_10 (pc := 149) dX7_colds_149 ?_
      refine r_ladd (pc := 151) dX7_colds_151 ?_
      refine r_lstore_5 (pc := 152) dX7_colds_152 rfl (by decide) ?_
      refine r_lload_7 (pc := 154) dX7_colds_154 ?_
      refine r_iload_3 (pc := 156) dX7_colds_156 ?_
      refine r_if_ge (pc := 157) 169 dX7_colds_157 (by decide) (fun c157 => ?_) (fun c157 => ?_)
      · refine r_iload_12 (pc := 169) dX7_colds_169 ?_
        refine r_iload_3 (pc := 171) dX7_colds_171 ?_
        refine r_icmp_lt (pc := 172) 180 dX7_colds_172 (by decide) (fun c172 => ?_) (fun c172 => ?_)
        · refine r_lconst (pc := 180) 0 dX7_colds_180 (by decide) ?_
          refine r_ladd (pc := 181) dX7_colds_181 ?_
          refine r_lstore_7 (pc := 182) dX7_colds_182 rfl (by decide) ?_
          refine r_inc_9 (pc := 184) dX7_colds_184 rfl (by decide) ?_
          refine r_goto (pc := 187) 57 dX7_colds_187 (by decide) ?_
          exact go _ _ _ _ _ rfl (by rw [coS, lsum, if_neg (Int32.not_lt.mpr c157), if_neg (Int32.not_le.mpr c172)])
        · refine r_lload_10 (pc := 175) dX7_colds_175 ?_
          refine r_goto (pc := 177) 181 dX7_colds_177 (by decide) ?_
          refine r_ladd (pc := 181) dX7_colds_181 ?_
          refine r_lstore_7 (pc := 182) dX7_colds_182 rfl (by decide) ?_
          refine r_inc_9 (pc := 184) dX7_colds_184 rfl (by decide) ?_
          refine r_goto (pc := 187) 57 dX7_colds_187 (by decide) ?_
          exact go _ _ _ _ _ rfl (by rw [coS, lsum, if_neg (Int32.not_lt.mpr c157), if_pos (Int32.not_lt.mp c172)])
      · refine r_lload_10 (pc := 160) dX7_colds_160 ?_
        refine r_iload_12 (pc := 162) dX7_colds_162 ?_
        refine r_i2l (pc := 164) dX7_colds_164 ?_
        refine r_lmul (pc := 165) dX7_colds_165 ?_
        refine r_goto (pc := 166) 181 dX7_colds_166 (by decide) ?_
        refine r_ladd (pc := 181) dX7_colds_181 ?_
        refine r_lstore_7 (pc := 182) dX7_colds_182 rfl (by decide) ?_
        refine r_inc_9 (pc := 184) dX7_colds_184 rfl (by decide) ?_
        refine r_goto (pc := 187) 57 dX7_colds_187 (by decide) ?_
        exact go _ _ _ _ _ rfl (by rw [coS, lsum, if_pos (i_nle c157)])
    · refine r_lconst (pc := 76) 1 dX7_colds_76 (by decide) ?_
      refine r_goto (pc := 77) 81 dX7_colds_77 (by decide) ?_
      refine WW.st (st' := [.long (wtL (wm_men c) x j 0)]) ?_ (by first | (rw [wtL, if_neg c73]) | (rw [wtL, if_pos c73]))
      refine r_lstore_10 (pc := 81) dX7_colds_81 rfl (by decide) ?_
      refine r_iconst (pc := 83) 0 dX7_colds_83 (by decide) ?_
      refine r_istore_12 (pc := 84) dX7_colds_84 rfl (by decide) ?_
      refine lp_X7_wt hk (by omega) ?_ 6 0 rfl
      refine r_aload_0 (pc := 138) dX7_colds_138 ?_
      refine r_iload_1 (pc := 139) dX7_colds_139 ?_
      refine r_iload_9 (pc := 140) dX7_colds_140 ?_
      refine r_cV1_2 (pc := 142) (ct_X7_heardBy hk ht hT) cv_X7_heardBy ⟨Nat.le_of_ble_eq_true rfl, Nat.le_of_ble_eq_true rfl⟩ ml_X7_298 dX7_colds_142 (by omega) (wm_o _ _ _) rfl rfl (Nat.le_of_ble_eq_true rfl) ?_
      refine r_istore_12 (pc := 145) dX7_colds_145 rfl (by decide) ?_
      refine r_lload_5 (pc := 147) dX7_colds_147 ?_
      refine r_lload_10 (pc := 149) dX7_colds_149 ?_
      refine r_ladd (pc := 151) dX7_colds_151 ?_
      refine r_lstore_5 (pc := 152) dX7_colds_152 rfl (by decide) ?_
      refine r_lload_7 (pc := 154) dX7_colds_154 ?_
      refine r_iload_3 (pc := 156) dX7_colds_156 ?_
      refine r_if_ge (pc := 157) 169 dX7_colds_157 (by decide) (fun c157 => ?_) (fun c157 => ?_)
      · refine r_iload_12 (pc := 169) dX7_colds_169 ?_
        refine r_iload_3 (pc := 171) dX7_colds_171 ?_
        refine r_icmp_lt (pc := 172) 180 dX7_colds_172 (by decide) (fun c172 => ?_) (fun c172 => ?_)
        · refine r_lconst (pc := 180) 0 dX7_colds_180 (by decide) ?_
          refine r_ladd (pc := 181) dX7_colds_181 ?_
          refine r_lstore_7 (pc := 182) dX7_colds_182 rfl (by decide) ?_
          refine r_inc_9 (pc := 184) dX7_colds_184 rfl (by decide) ?_
          refine r_goto (pc := 187) 57 dX7_colds_187 (by decide) ?_
          exact go _ _ _ _ _ rfl (by rw [coS, lsum, if_neg (Int32.not_lt.mpr c157), if_neg (Int32.not_le.mpr c172)])
        · refine r_lload_10 (pc := 175) dX7_colds_175 ?_
          refine r_goto (pc := 177) 181 dX7_colds_177 (by decide) ?_
          refine r_ladd (pc := 181) dX7_colds_181 ?_
          refine r_lstore_7 (pc := 182) dX7_colds_182 rfl (by decide) ?_
          refine r_inc_9 (pc := 184) dX7_colds_184 rfl (by decide) ?_
          refine r_goto (pc := 187) 57 dX7_colds_187 (by decide) ?_
          exact go _ _ _ _ _ rfl (by rw [coS, lsum, if_neg (Int32.not_lt.mpr c157), if_pos (Int32.not_lt.mp c172)])
      · refine r_lload_10 (pc := 160) dX7_colds_160 ?_
        refine r_iload_12 (pc := 162) dX7_colds_162 ?_
        refine r_i2l (pc := 164) dX7_colds_164 ?_
        refine r_lmul (pc := 165) dX7_colds_165 ?_
        refine r_goto (pc := 166) 181 dX7_colds_166 (by decide) ?_
        refine r_ladd (pc := 181) dX7_colds_181 ?_
        refine r_lstore_7 (pc := 182) dX7_colds_182 rfl (by decide) ?_
        refine r_inc_9 (pc := 184) dX7_colds_184 rfl (by decide) ?_
        refine r_goto (pc := 187) 57 dX7_colds_187 (by decide) ?_
        exact go _ _ _ _ _ rfl (by rw [coS, lsum, if_pos (i_nle c157)])
theorem ct_X7_colds {h : Wd} {k t u w : Nat} {c : Mod} {x v p : Int32} (hk : k + 24 < 76) (ht : t < 64) (hx : inR x 0 10 = true) (hv : inR v (-1) 999 = true) (hp : inR p 0 1 = true) (hT : okT (wm_tent c)) (eu : coS c t x v 64 = lN u) (ew : coA c x 64 = lN w) (hu : u < 2 ^ 62) (hw : w < 2 ^ 62) (h0 : 0 < w) : Ct mX7_colds [.ref k, .int (nI t), .int x, .int v, .int p] (wm h k c) (some (.long (lwV u w p))) (wm h k c) := by
  refine Ct.of (Z := List.replicate 8 .null) (by decide) (Nat.le_of_ble_eq_true rfl) (fun z hz => List.eq_of_mem_replicate hz) ?_
  show WW mX7_colds 0 [.ref k, .int (nI t), .int x, .int v, .int p, .null, .null, .null, .null, .null, .null, .null, .null] [] _ _ _
  refine r_iload_1 (pc := 0) dX7_colds_0 ?_
  refine r_cS1_1 (pc := 1) (ct_X7_isCell) cs_X7_isCell ⟨Nat.le_of_ble_eq_true rfl, Nat.le_of_ble_eq_true rfl⟩ ml_X7_96 dX7_colds_1 rfl (Nat.le_of_ble_eq_true rfl) ?_
  refine r_if_eq (pc := 4) 44 dX7_colds_4 (by decide) (fun c4 => absurd c4 (by rw [isC_n ht]; decide)) (fun _ => ?_)
  refine r_iload_2 (pc := 7) dX7_colds_7 ?_
  refine r_i2l (pc := 8) dX7_colds_8 ?_
  refine r_lconst (pc := 9) 0 dX7_colds_9 (by decide) ?_
  refine r_ldc2 (pc := 10) dX7_colds_10 kl_X7_294 ?_
  refine r_cS1_3 (pc := 13) (ct_X7_inI (lo := 0) (hi := 10) (by decide) (by decide)) cs_X7_in ⟨Nat.le_of_ble_eq_true rfl, Nat.le_of_ble_eq_true rfl⟩ ml_X7_86 dX7_colds_13 rfl (Nat.le_of_ble_eq_true rfl) ?_
  refine r_if_eq (pc := 16) 44 dX7_colds_16 (by decide) (fun c16 => absurd c16 (by rw [hx]; decide)) (fun _ => ?_)
  refine r_iload_3 (pc := 19) dX7_colds_19 ?_
  refine r_i2l (pc := 20) dX7_colds_20 ?_
  refine r_ldc2 (pc := 21) dX7_colds_21 kl_X7_109 ?_
  refine r_ldc2 (pc := 24) dX7_colds_24 kl_X7_296 ?_
  refine r_cS1_3 (pc := 27) (ct_X7_inI (lo := -1) (hi := 999) (by decide) (by decide)) cs_X7_in ⟨Nat.le_of_ble_eq_true rfl, Nat.le_of_ble_eq_true rfl⟩ ml_X7_86 dX7_colds_27 rfl (Nat.le_of_ble_eq_true rfl) ?_
  refine r_if_eq (pc := 30) 44 dX7_colds_30 (by decide) (fun c30 => absurd c30 (by rw [hv]; decide)) (fun _ => ?_)
  refine r_iload_4 (pc := 33) dX7_colds_33 ?_
  refine r_i2l (pc := 35) dX7_colds_35 ?_
  refine r_lconst (pc := 36) 0 dX7_colds_36 (by decide) ?_
  refine r_lconst (pc := 37) 1 dX7_colds_37 (by decide) ?_
  refine r_cS1_3 (pc := 38) (ct_X7_inI (lo := 0) (hi := 1) (by decide) (by decide)) cs_X7_in ⟨Nat.le_of_ble_eq_true rfl, Nat.le_of_ble_eq_true rfl⟩ ml_X7_86 dX7_colds_38 rfl (Nat.le_of_ble_eq_true rfl) ?_
  refine r_if_ne (pc := 41) 48 dX7_colds_41 (by decide) (fun _ => ?_) (fun c41 => absurd c41 (by rw [hp]; decide))
  refine r_lconst (pc := 48) 0 dX7_colds_48 (by decide) ?_
  refine r_lstore_5 (pc := 49) dX7_colds_49 rfl (by decide) ?_
  refine r_lconst (pc := 51) 0 dX7_colds_51 (by decide) ?_
  refine r_lstore_7 (pc := 52) dX7_colds_52 rfl (by decide) ?_
  refine r_iconst (pc := 54) 0 dX7_colds_54 (by decide) ?_
  refine r_istore_9 (pc := 55) dX7_colds_55 rfl (by decide) ?_
  exact lp_X7_colds hk ht hT eu ew hu hw h0 64 0 rfl _ _ _
theorem ct_X7_coldsB {h : Wd} {k : Nat} {c : Mod} {cell x v p : Int32} (hk : k + 24 < 76) (hb : (isC cell && (inR x 0 10 && (inR v (-1) 999 && inR p 0 1))) = false) : Ct mX7_colds [.ref k, .int cell, .int x, .int v, .int p] (wm h k c) (some (.long (-1000000000000000002))) (wm h k c) := by
  refine Ct.of (Z := List.replicate 8 .null) (by decide) (Nat.le_of_ble_eq_true rfl) (fun z hz => List.eq_of_mem_replicate hz) ?_
  show WW mX7_colds 0 [.ref k, .int cell, .int x, .int v, .int p, .null, .null, .null, .null, .null, .null, .null, .null] [] _ _ _
  refine r_iload_1 (pc := 0) dX7_colds_0 ?_
  refine r_cS1_1 (pc := 1) (ct_X7_isCell) cs_X7_isCell ⟨Nat.le_of_ble_eq_true rfl, Nat.le_of_ble_eq_true rfl⟩ ml_X7_96 dX7_colds_1 rfl (Nat.le_of_ble_eq_true rfl) ?_
  refine r_if_eq (pc := 4) 44 dX7_colds_4 (by decide) (fun c4 => ?_) (fun c4 => ?_)
  · refine r_ldc2 (pc := 44) dX7_colds_44 kl_X7_276 ?_
    refine r_lret (pc := 47) dX7_colds_47 rfl (by first | rfl | simp_all [bI]) rfl
  · refine r_iload_2 (pc := 7) dX7_colds_7 ?_
    refine r_i2l (pc := 8) dX7_colds_8 ?_
    refine r_lconst (pc := 9) 0 dX7_colds_9 (by decide) ?_
    refine r_ldc2 (pc := 10) dX7_colds_10 kl_X7_294 ?_
    refine r_cS1_3 (pc := 13) (ct_X7_inI (lo := 0) (hi := 10) (by decide) (by decide)) cs_X7_in ⟨Nat.le_of_ble_eq_true rfl, Nat.le_of_ble_eq_true rfl⟩ ml_X7_86 dX7_colds_13 rfl (Nat.le_of_ble_eq_true rfl) ?_
    refine r_if_eq (pc := 16) 44 dX7_colds_16 (by decide) (fun c16 => ?_) (fun c16 => ?_)
    · refine r_ldc2 (pc := 44) dX7_colds_44 kl_X7_276 ?_
      refine r_lret (pc := 47) dX7_colds_47 rfl (by first | rfl | simp_all [bI]) rfl
    · refine r_iload_3 (pc := 19) dX7_colds_19 ?_
      refine r_i2l (pc := 20) dX7_colds_20 ?_
      refine r_ldc2 (pc := 21) dX7_colds_21 kl_X7_109 ?_
      refine r_ldc2 (pc := 24) dX7_colds_24 kl_X7_296 ?_
      refine r_cS1_3 (pc := 27) (ct_X7_inI (lo := -1) (hi := 999) (by decide) (by decide)) cs_X7_in ⟨Nat.le_of_ble_eq_true rfl, Nat.le_of_ble_eq_true rfl⟩ ml_X7_86 dX7_colds_27 rfl (Nat.le_of_ble_eq_true rfl) ?_
      refine r_if_eq (pc := 30) 44 dX7_colds_30 (by decide) (fun c30 => ?_) (fun c30 => ?_)
      · refine r_ldc2 (pc := 44) dX7_colds_44 kl_X7_276 ?_
        refine r_lret (pc := 47) dX7_colds_47 rfl (by first | rfl | simp_all [bI]) rfl
      · refine r_iload_4 (pc := 33) dX7_colds_33 ?_
        refine r_i2l (pc := 35) dX7_colds_35 ?_
        refine r_lconst (pc := 36) 0 dX7_colds_36 (by decide) ?_
        refine r_lconst (pc := 37) 1 dX7_colds_37 (by decide) ?_
        refine r_cS1_3 (pc := 38) (ct_X7_inI (lo := 0) (hi := 1) (by decide) (by decide)) cs_X7_in ⟨Nat.le_of_ble_eq_true rfl, Nat.le_of_ble_eq_true rfl⟩ ml_X7_86 dX7_colds_38 rfl (Nat.le_of_ble_eq_true rfl) ?_
        refine r_if_ne (pc := 41) 48 dX7_colds_41 (by decide) (fun c41 => ?_) (fun c41 => ?_)
        · exact absurd hb (by rw [bI_n0] at c4 c16 c30 c41; rw [c4, c16, c30, c41]; decide)
        · refine r_ldc2 (pc := 44) dX7_colds_44 kl_X7_276 ?_
          refine r_lret (pc := 47) dX7_colds_47 rfl (by first | rfl | simp_all [bI]) rfl
