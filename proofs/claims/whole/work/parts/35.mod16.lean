/-! THE REFERENCE: years -/
def yrA (a : Nat) : Nat := (75 * a + 74) % 65537
def yrW (a : Nat) : Int32 := if a / 6 % 8 < 4 then 0 else if a / 6 % 8 = 4 then 1 else if a / 6 % 8 = 5 then 2 else if a / 6 % 8 = 6 then 5 else 3
def yr1 (c : Mod) (a : Nat) : Mod := if whyF c (yrW a) (nI (a % 6)) (nI (a / 6 % 8 % 4)) = 0 then hpn c (yrW a) (nI (a % 6)) (nI (a / 6 % 8 % 4)) else c
def yrR (c : Mod) (a : Nat) : Nat → Mod
  | 0 => c
  | r + 1 => yrR (yr1 c (yrA a)) (yrA a) r
theorem okT_yr1 {c : Mod} {a : Nat} (h : okT (wm_tent c)) : okT (wm_tent (yr1 c a)) := by
  unfold yr1
  split
  · rename_i e
    exact okT_hpn h e
  · exact h
theorem lp_X7_year {h h' : Wd} {k n : Nat} {x v : Int32} {r0 : Option Value} (hk : k + 24 < 76) (hn : n < 2 ^ 31) (K : Mod → Prop) (k1 : ∀ cc, K cc → ∀ z0 z1 z2, WW mX7_year 171 [.ref k, .int x, .int (nI n), .int v, .int z0, .int (nI n), z1, z2] [] (wm h k cc) r0 h') : ∀ r i a c, i + r = n → a < 65537 → okT (wm_tent c) → K (yrR c a r) → ∀ z1 z2, WW mX7_year 54 [.ref k, .int x, .int (nI n), .int v, .int (nI a), .int (nI i), z1, z2] [] (wm h k c) r0 h' := by
  intro r
  induction r with
  | zero =>
    intro i a c hi ha hT hK z1 z2
    obtain rfl : i = n := by omega
    refine r_iload_5 (pc := 54) dX7_year_54 ?_
    refine r_iload_2 (pc := 56) dX7_year_56 ?_
    refine r_icmp_ge (pc := 57) 171 dX7_year_57 (by decide) (fun _ => ?_) (fun c57 => absurd (Int32.le_refl _) (c57))
    exact k1 c hK _ _ _
  | succ r ih =>
    intro i a c hi ha hT hK z1 z2
    have la : yrA a < 65537 := Nat.mod_lt _ (by decide)
    have e1 : (75 : Int64) * (nI a).toInt64 + 74 = lN (75 * a + 74) := by
      rw [nI_l (by omega)]
      exact ((congrArg (· + (74 : Int64)) (Int64.ofNat_mul 75 a).symm).trans (Int64.ofNat_add (75 * a) 74).symm)
    have e2 : lN (75 * a + 74) - lN (75 * a + 74) / 65537 * 65537 = lN (yrA a) := pk_lRem (b := 65537) (by omega) (by decide) (by decide)
    have e3 : (lN (yrA a)).toInt32 = nI (yrA a) := by
      rw [← nI_l (by omega), Int32.toInt32_toInt64]
    have e4 : nI (yrA a) / 6 = nI (yrA a / 6) := pk_div (d := 6) (by omega) (by decide) (by decide)
    have e5 : nI (yrA a / 6) - nI (yrA a / 6) / 8 * 8 = nI (yrA a / 6 % 8) := pk_rem (d := 8) (by omega) (by decide) (by decide)
    have e6 : nI (yrA a) - nI (yrA a) / 6 * 6 = nI (yrA a % 6) := pk_rem (d := 6) (by omega) (by decide) (by decide)
    have e7 : nI (yrA a / 6 % 8) - nI (yrA a / 6 % 8) / 4 * 4 = nI (yrA a / 6 % 8 % 4) := pk_rem (d := 4) (by omega) (by decide) (by decide)
    have l8 : yrA a / 6 % 8 < 8 := Nat.mod_lt _ (by decide)
    have go : ∀ w z1 z2, w = yrW (yrA a) → z1 = Value.int (nI (yrA a / 6 % 8)) → WW mX7_year 130 [.ref k, .int x, .int (nI n), .int v, .int (nI (yrA a)), .int (nI i), z1, z2] [.int w] (wm h k c) r0 h' := by
      intro w z1 z2 ew ez
      subst ez
      subst ew
      have cW := ct_X7_whyNot (h := h) (k := k) (c := c) (what := yrW (yrA a)) (x := nI (yrA a % 6)) (wy := nI (yrA a / 6 % 8 % 4)) hk hT
      have cH : whyF c (yrW (yrA a)) (nI (yrA a % 6)) (nI (yrA a / 6 % 8 % 4)) = 0 → Ct mX7_happen [.ref k, .int (yrW (yrA a)), .int (nI (yrA a % 6)), .int (nI (yrA a / 6 % 8 % 4))] (wm h k c) none (wm h k (hpn c (yrW (yrA a)) (nI (yrA a % 6)) (nI (yrA a / 6 % 8 % 4)))) := fun _ => ct_X7_happen hk (Nat.mod_lt _ (by decide)) hT
      have st : ∀ z1 z2, WW mX7_year 54 [.ref k, .int x, .int (nI n), .int v, .int (nI (yrA a)), .int (nI (i + 1)), z1, z2] [] (wm h k (yr1 c (yrA a))) r0 h' := fun z1 z2 => ih (i + 1) (yrA a) (yr1 c (yrA a)) (by omega) la (okT_yr1 hT) hK z1 z2
      refine r_istore_7 (pc := 130) dX7_year_130 rfl (by decide) ?_
      refine r_aload_0 (pc := 132) dX7_year_132 ?_
      refine r_iload_7 (pc := 133) dX7_year_133 ?_
      refine r_iload_4 (pc := 135) dX7_year_135 ?_
      refine r_bipush (pc := 137) 6 dX7_year_137 (by decide) ?_
      refine r_irem (pc := 139) dX7_year_139 (by decide) ?_
      refine r_iload_6 (pc := 140) dX7_year_140 ?_
      refine r_iconst (pc := 142) 4 dX7_year_142 (by decide) ?_
      refine r_irem (pc := 143) dX7_year_143 (by decide) ?_
      rw [e6, e7]
      refine r_cV1_3 (pc := 144) (cW) cv_X7_whyNot ⟨Nat.le_of_ble_eq_true rfl, Nat.le_of_ble_eq_true rfl⟩ ml_X7_185 dX7_year_144 (by omega) (wm_o _ _ _) rfl rfl (Nat.le_of_ble_eq_true rfl) ?_
      refine r_if_ne (pc := 147) 165 dX7_year_147 (by decide) (fun c147 => ?_) (fun c147 => ?_)
      · refine r_inc_5 (pc := 165) dX7_year_165 rfl (by decide) ?_
        refine r_goto (pc := 168) 54 dX7_year_168 (by decide) ?_
        exact (st _ _).w (by rw [yr1, if_neg c147])
      · refine r_aload_0 (pc := 150) dX7_year_150 ?_
        refine r_iload_7 (pc := 151) dX7_year_151 ?_
        refine r_iload_4 (pc := 153) dX7_year_153 ?_
        refine r_bipush (pc := 155) 6 dX7_year_155 (by decide) ?_
        refine r_irem (pc := 157) dX7_year_157 (by decide) ?_
        refine r_iload_6 (pc := 158) dX7_year_158 ?_
        refine r_iconst (pc := 160) 4 dX7_year_160 (by decide) ?_
        refine r_irem (pc := 161) dX7_year_161 (by decide) ?_
        rw [e6, e7]
        refine r_cV0_3 (pc := 162) (cH (by first | exact Decidable.not_not.mp c147 | exact c147)) cv_X7_happen ⟨Nat.le_of_ble_eq_true rfl, Nat.le_of_ble_eq_true rfl⟩ ml_X7_189 dX7_year_162 (by omega) (wm_o _ _ _) rfl rfl (Nat.le_of_ble_eq_true rfl) ?_
        refine r_inc_5 (pc := 165) dX7_year_165 rfl (by decide) ?_
        refine r_goto (pc := 168) 54 dX7_year_168 (by decide) ?_
        exact (st _ _).w (by rw [yr1, if_pos c147])
    have q4 : nI (yrA a / 6 % 8) < 4 ↔ yrA a / 6 % 8 < 4 := nI_ltI (b := 4) (by omega) (by decide)
    have q5 : nI (yrA a / 6 % 8) = 4 ↔ yrA a / 6 % 8 = 4 := nI_eq (b := 4) (by omega) (by decide)
    have q6 : nI (yrA a / 6 % 8) = 5 ↔ yrA a / 6 % 8 = 5 := nI_eq (b := 5) (by omega) (by decide)
    have q7 : nI (yrA a / 6 % 8) = 6 ↔ yrA a / 6 % 8 = 6 := nI_eq (b := 6) (by omega) (by decide)
    refine r_iload_5 (pc := 54) dX7_year_54 ?_
    refine r_iload_2 (pc := 56) dX7_year_56 ?_
    refine r_icmp_ge (pc := 57) 171 dX7_year_57 (by decide) (fun c57 => absurd c57 (Int32.not_le.mpr ((nI_ltI (by omega) (by omega)).mpr (by omega)))) (fun _ => ?_)
    refine r_ldc2 (pc := 60) dX7_year_60 kl_X7_305 ?_
    refine r_iload_4 (pc := 63) dX7_year_63 ?_
    refine r_i2l (pc := 65) dX7_year_65 ?_
    refine r_lmul (pc := 66) dX7_year_66 ?_
    refine r_ldc2 (pc := 67) dX7_year_67 kl_X7_307 ?_
    refine r_ladd (pc := 70) dX7_year_70 ?_
    refine r_ldc2 (pc := 71) dX7_year_71 kl_X7_309 ?_
    rw [e1]
    refine r_lrem (pc := 74) dX7_year_74 (by decide) ?_
    rw [e2]
    refine r_l2i (pc := 75) dX7_year_75 ?_
    rw [e3]
    refine r_istore_4 (pc := 76) dX7_year_76 rfl (by decide) ?_
    refine r_iload_4 (pc := 78) dX7_year_78 ?_
    refine r_bipush (pc := 80) 6 dX7_year_80 (by decide) ?_
    refine r_idiv (pc := 82) dX7_year_82 (by decide) ?_
    rw [e4]
    refine r_bipush (pc := 83) 8 dX7_year_83 (by decide) ?_
    refine r_irem (pc := 85) dX7_year_85 (by decide) ?_
    rw [e5]
    refine r_istore_6 (pc := 86) dX7_year_86 rfl (by decide) ?_
    refine r_iload_6 (pc := 88) dX7_year_88 ?_
    refine r_iconst (pc := 90) 4 dX7_year_90 (by decide) ?_
    refine r_icmp_ge (pc := 91) 98 dX7_year_91 (by decide) (fun c91 => ?_) (fun c91 => ?_)
    · refine r_iload_6 (pc := 98) dX7_year_98 ?_
      refine r_iconst (pc := 100) 4 dX7_year_100 (by decide) ?_
      refine r_icmp_ne (pc := 101) 108 dX7_year_101 (by decide) (fun c101 => ?_) (fun c101 => ?_)
      · refine r_iload_6 (pc := 108) dX7_year_108 ?_
        refine r_iconst (pc := 110) 5 dX7_year_110 (by decide) ?_
        refine r_icmp_ne (pc := 111) 118 dX7_year_111 (by decide) (fun c111 => ?_) (fun c111 => ?_)
        · refine r_iload_6 (pc := 118) dX7_year_118 ?_
          refine r_bipush (pc := 120) 6 dX7_year_120 (by decide) ?_
          refine r_icmp_ne (pc := 122) 129 dX7_year_122 (by decide) (fun c122 => ?_) (fun c122 => ?_)
          · refine r_iconst (pc := 129) 3 dX7_year_129 (by decide) ?_
            exact go _ _ _ (by rw [yrW, if_neg (fun z => absurd (q4.mpr z) (Int32.not_lt.mpr c91)), if_neg (fun z => c101 (q5.mpr z)), if_neg (fun z => c111 (q6.mpr z)), if_neg (fun z => c122 (q7.mpr z))]) rfl
          · refine r_iconst (pc := 125) 5 dX7_year_125 (by decide) ?_
            refine r_goto (pc := 126) 130 dX7_year_126 (by decide) ?_
            exact go _ _ _ (by rw [yrW, if_neg (fun z => absurd (q4.mpr z) (Int32.not_lt.mpr c91)), if_neg (fun z => c101 (q5.mpr z)), if_neg (fun z => c111 (q6.mpr z)), if_pos (q7.mp c122)]) rfl
        · refine r_iconst (pc := 114) 2 dX7_year_114 (by decide) ?_
          refine r_goto (pc := 115) 130 dX7_year_115 (by decide) ?_
          exact go _ _ _ (by rw [yrW, if_neg (fun z => absurd (q4.mpr z) (Int32.not_lt.mpr c91)), if_neg (fun z => c101 (q5.mpr z)), if_pos (q6.mp c111)]) rfl
      · refine r_iconst (pc := 104) 1 dX7_year_104 (by decide) ?_
        refine r_goto (pc := 105) 130 dX7_year_105 (by decide) ?_
        exact go _ _ _ (by rw [yrW, if_neg (fun z => absurd (q4.mpr z) (Int32.not_lt.mpr c91)), if_pos (q5.mp c101)]) rfl
    · refine r_iconst (pc := 94) 0 dX7_year_94 (by decide) ?_
      refine r_goto (pc := 95) 130 dX7_year_95 (by decide) ?_
      exact go _ _ _ (by rw [yrW, if_pos (q4.mp (i_nle c91))]) rfl
def slM (c : Mod) : Nat → Int32 := isum (fun m => if hasB (wm_men c) (nI m) = true then wm_salt c m else 0)
theorem lp_X7_salts {h h' : Wd} {k : Nat} {c : Mod} {x y v z0 : Int32} {r0 : Option Value} (hk : k + 24 < 76) (k1 : ∀ z1 z2, WW mX7_year 215 [.ref k, .int x, .int y, .int v, .int z0, .int (slM c 6), z1, z2] [] (wm h k c) r0 h') : ∀ r m, m + r = 6 → ∀ z2, WW mX7_year 177 [.ref k, .int x, .int y, .int v, .int z0, .int (slM c m), .int (nI m), z2] [] (wm h k c) r0 h' := by
  intro r
  induction r with
  | zero =>
    intro m hm z2
    obtain rfl : m = 6 := by omega
    refine r_iload_6 (pc := 177) dX7_year_177 ?_
    refine r_bipush (pc := 179) 6 dX7_year_179 (by decide) ?_
    refine r_icmp_ge (pc := 181) 215 dX7_year_181 (by decide) (fun _ => ?_) (fun c181 => absurd (by decide) (c181))
    exact k1 _ _
  | succ r ih =>
    intro m hm z2
    refine r_iload_6 (pc := 177) dX7_year_177 ?_
    refine r_bipush (pc := 179) 6 dX7_year_179 (by decide) ?_
    refine r_icmp_ge (pc := 181) 215 dX7_year_181 (by decide) (fun c181 => absurd c181 (nI_ge (a := m) (b := 6) (by omega) (by decide))) (fun _ => ?_)
    refine r_iload_5 (pc := 184) dX7_year_184 ?_
    refine r_aload_0 (pc := 186) dX7_year_186 ?_
    refine r_iload_6 (pc := 187) dX7_year_187 ?_
    refine r_cV1_1 (pc := 189) (ct_X7_isMan hk) cv_X7_isMan ⟨Nat.le_of_ble_eq_true rfl, Nat.le_of_ble_eq_true rfl⟩ ml_X7_106 dX7_year_189 (by omega) (wm_o _ _ _) rfl rfl (Nat.le_of_ble_eq_true rfl) ?_
    refine r_if_eq (pc := 192) 205 dX7_year_192 (by decide) (fun c192 => ?_) (fun c192 => ?_)
    · rw [bI_0] at c192
      refine r_iconst (pc := 205) 0 dX7_year_205 (by decide) ?_
      refine r_iadd (pc := 206) dX7_year_206 ?_
      refine r_istore_5 (pc := 207) dX7_year_207 rfl (by decide) ?_
      refine r_inc_6 (pc := 209) dX7_year_209 rfl (by decide) ?_
      refine r_goto (pc := 212) 177 dX7_year_212 (by decide) ?_
      exact (ih (m + 1) (by omega) _).L (by rw [slM, isum, if_neg (by rw [c192]; decide)] <;> rfl)
    · rw [bI_n0] at c192
      refine r_aload_0 (pc := 195) dX7_year_195 ?_
      refine r_wm_get_salt (pc := 196) hk fl_X7_29 dX7_year_196 ?_
      refine r_iload_6 (pc := 199) dX7_year_199 ?_
      refine r_wm_ld_salt (pc := 201) hk (by omega) dX7_year_201 ?_
      refine r_goto (pc := 202) 206 dX7_year_202 (by decide) ?_
      refine r_iadd (pc := 206) dX7_year_206 ?_
      refine r_istore_5 (pc := 207) dX7_year_207 rfl (by decide) ?_
      refine r_inc_6 (pc := 209) dX7_year_209 rfl (by decide) ?_
      refine r_goto (pc := 212) 177 dX7_year_212 (by decide) ?_
      exact (ih (m + 1) (by omega) _).L (by rw [slM, isum, if_pos c192] <;> rfl)
theorem wom_tent (c : Mod) (v : Int32) : wm_tent (wm_s_womans c v) = wm_tent c := rfl
def yrI (c : Mod) : Mod := wm_s_womans (kpM c) 0
def yrM (c : Mod) (a n : Nat) : Mod := yrR (yrI c) a n
def yrV (c : Mod) (w : Int32) : Int32 := if w = 0 then slM c 6 else if w = 1 then 64 - nI (cntC (wm_owner c) (-6)) else wm_womans c
theorem ct_X7_yearB {h : Wd} {k : Nat} {c : Mod} {x y w : Int32} (hk : k + 24 < 76) (hb : (inR x 0 9999 && (inR y 1 99 && inR w 0 2)) = false) : Ct mX7_year [.ref k, .int x, .int y, .int w] (wm h k c) (some (.int (-2))) (wm h k c) := by
  refine Ct.of (Z := List.replicate 4 .null) (by decide) (Nat.le_of_ble_eq_true rfl) (fun z hz => List.eq_of_mem_replicate hz) ?_
  show WW mX7_year 0 [.ref k, .int x, .int y, .int w, .null, .null, .null, .null] [] _ _ _
  refine r_iload_1 (pc := 0) dX7_year_0 ?_
  refine r_i2l (pc := 1) dX7_year_1 ?_
  refine r_lconst (pc := 2) 0 dX7_year_2 (by decide) ?_
  refine r_ldc2 (pc := 3) dX7_year_3 kl_X7_301 ?_
  refine r_cS1_3 (pc := 6) (ct_X7_inI (lo := 0) (hi := 9999) (by decide) (by decide)) cs_X7_in ⟨Nat.le_of_ble_eq_true rfl, Nat.le_of_ble_eq_true rfl⟩ ml_X7_86 dX7_year_6 rfl (Nat.le_of_ble_eq_true rfl) ?_
  refine r_if_eq (pc := 9) 36 dX7_year_9 (by decide) (fun c9 => ?_) (fun c9 => ?_)
  · refine r_bipush (pc := 36) (-2) dX7_year_36 (by decide) ?_
    refine r_iret (pc := 38) dX7_year_38 rfl (by first | rfl | simp_all [bI]) rfl
  · refine r_iload_2 (pc := 12) dX7_year_12 ?_
    refine r_i2l (pc := 13) dX7_year_13 ?_
    refine r_lconst (pc := 14) 1 dX7_year_14 (by decide) ?_
    refine r_ldc2 (pc := 15) dX7_year_15 kl_X7_303 ?_
    refine r_cS1_3 (pc := 18) (ct_X7_inI (lo := 1) (hi := 99) (by decide) (by decide)) cs_X7_in ⟨Nat.le_of_ble_eq_true rfl, Nat.le_of_ble_eq_true rfl⟩ ml_X7_86 dX7_year_18 rfl (Nat.le_of_ble_eq_true rfl) ?_
    refine r_if_eq (pc := 21) 36 dX7_year_21 (by decide) (fun c21 => ?_) (fun c21 => ?_)
    · refine r_bipush (pc := 36) (-2) dX7_year_36 (by decide) ?_
      refine r_iret (pc := 38) dX7_year_38 rfl (by first | rfl | simp_all [bI]) rfl
    · refine r_iload_3 (pc := 24) dX7_year_24 ?_
      refine r_i2l (pc := 25) dX7_year_25 ?_
      refine r_lconst (pc := 26) 0 dX7_year_26 (by decide) ?_
      refine r_ldc2 (pc := 27) dX7_year_27 kl_X7_202 ?_
      refine r_cS1_3 (pc := 30) (ct_X7_inI (lo := 0) (hi := 2) (by decide) (by decide)) cs_X7_in ⟨Nat.le_of_ble_eq_true rfl, Nat.le_of_ble_eq_true rfl⟩ ml_X7_86 dX7_year_30 rfl (Nat.le_of_ble_eq_true rfl) ?_
      refine r_if_ne (pc := 33) 39 dX7_year_33 (by decide) (fun c33 => ?_) (fun c33 => ?_)
      · exact absurd hb (by rw [bI_n0] at c9 c21 c33; rw [c9, c21, c33]; decide)
      · refine r_bipush (pc := 36) (-2) dX7_year_36 (by decide) ?_
        refine r_iret (pc := 38) dX7_year_38 rfl (by first | rfl | simp_all [bI]) rfl
theorem ct_X7_year {h : Wd} {k a n : Nat} {c : Mod} {w : Int32} (hk : k + 24 < 76) (ha : a ≤ 9999) (h1 : 1 ≤ n) (h2 : n ≤ 99) (hw : inR w 0 2 = true) (hT : okT (wm_tent c)) : Ct mX7_year [.ref k, .int (nI a), .int (nI n), .int w] (wm h k c) (some (.int (yrV (yrM c a n) w))) (wm h k (bkM (yrM c a n))) := by
  have r1 : inR (nI a) 0 9999 = true := decide_eq_true ⟨(nI_lI (a := 0) (by decide) (by omega)).mpr (by omega), (nI_lI (b := 9999) (by omega) (by decide)).mpr ha⟩
  have r2 : inR (nI n) 1 99 = true := decide_eq_true ⟨(nI_lI (a := 1) (by decide) (by omega)).mpr h1, (nI_lI (b := 99) (by omega) (by decide)).mpr h2⟩
  have t0 : okT (wm_tent (yrI c)) := by
    rw [yrI, wom_tent, kpM_tent]
    exact hT
  refine Ct.of (Z := List.replicate 4 .null) (by decide) (Nat.le_of_ble_eq_true rfl) (fun z hz => List.eq_of_mem_replicate hz) ?_
  show WW mX7_year 0 [.ref k, .int (nI a), .int (nI n), .int w, .null, .null, .null, .null] [] _ _ _
  refine r_iload_1 (pc := 0) dX7_year_0 ?_
  refine r_i2l (pc := 1) dX7_year_1 ?_
  refine r_lconst (pc := 2) 0 dX7_year_2 (by decide) ?_
  refine r_ldc2 (pc := 3) dX7_year_3 kl_X7_301 ?_
  refine r_cS1_3 (pc := 6) (ct_X7_inI (lo := 0) (hi := 9999) (by decide) (by decide)) cs_X7_in ⟨Nat.le_of_ble_eq_true rfl, Nat.le_of_ble_eq_true rfl⟩ ml_X7_86 dX7_year_6 rfl (Nat.le_of_ble_eq_true rfl) ?_
  refine r_if_eq (pc := 9) 36 dX7_year_9 (by decide) (fun c9 => absurd c9 (by rw [r1]; decide)) (fun _ => ?_)
  refine r_iload_2 (pc := 12) dX7_year_12 ?_
  refine r_i2l (pc := 13) dX7_year_13 ?_
  refine r_lconst (pc := 14) 1 dX7_year_14 (by decide) ?_
  refine r_ldc2 (pc := 15) dX7_year_15 kl_X7_303 ?_
  refine r_cS1_3 (pc := 18) (ct_X7_inI (lo := 1) (hi := 99) (by decide) (by decide)) cs_X7_in ⟨Nat.le_of_ble_eq_true rfl, Nat.le_of_ble_eq_true rfl⟩ ml_X7_86 dX7_year_18 rfl (Nat.le_of_ble_eq_true rfl) ?_
  refine r_if_eq (pc := 21) 36 dX7_year_21 (by decide) (fun c21 => absurd c21 (by rw [r2]; decide)) (fun _ => ?_)
  refine r_iload_3 (pc := 24) dX7_year_24 ?_
  refine r_i2l (pc := 25) dX7_year_25 ?_
  refine r_lconst (pc := 26) 0 dX7_year_26 (by decide) ?_
  refine r_ldc2 (pc := 27) dX7_year_27 kl_X7_202 ?_
  refine r_cS1_3 (pc := 30) (ct_X7_inI (lo := 0) (hi := 2) (by decide) (by decide)) cs_X7_in ⟨Nat.le_of_ble_eq_true rfl, Nat.le_of_ble_eq_true rfl⟩ ml_X7_86 dX7_year_30 rfl (Nat.le_of_ble_eq_true rfl) ?_
  refine r_if_ne (pc := 33) 39 dX7_year_33 (by decide) (fun _ => ?_) (fun c33 => absurd c33 (by rw [hw]; decide))
  refine r_aload_0 (pc := 39) dX7_year_39 ?_
  refine r_cV0_0 (pc := 40) (ct_X7_keepNow hk) cv_X7_keepNow ⟨Nat.le_of_ble_eq_true rfl, Nat.le_of_ble_eq_true rfl⟩ ml_X7_193 dX7_year_40 (by omega) (wm_o _ _ _) rfl rfl (Nat.le_of_ble_eq_true rfl) ?_
  refine r_aload_0 (pc := 43) dX7_year_43 ?_
  refine r_iconst (pc := 44) 0 dX7_year_44 (by decide) ?_
  refine r_wm_put_womans (pc := 45) hk fl_X7_169 dX7_year_45 ?_
  refine r_iload_1 (pc := 48) dX7_year_48 ?_
  refine r_istore_4 (pc := 49) dX7_year_49 rfl (by decide) ?_
  refine r_iconst (pc := 51) 0 dX7_year_51 (by decide) ?_
  refine r_istore_5 (pc := 52) dX7_year_52 rfl (by decide) ?_
  refine lp_X7_year hk (by omega) (fun cc => cc = yrM c a n) (fun cc ec z0 z1 z2 => ?_) n 0 a (yrI c) (by omega) (by omega) t0 rfl _ _
  subst ec
  refine r_iconst (pc := 171) 0 dX7_year_171 (by decide) ?_
  refine r_istore_5 (pc := 172) dX7_year_172 rfl (by decide) ?_
  refine r_iconst (pc := 174) 0 dX7_year_174 (by decide) ?_
  refine r_istore_6 (pc := 175) dX7_year_175 rfl (by decide) ?_
  refine lp_X7_salts hk (fun z1 z2 => ?_) 6 0 rfl _
  refine r_aload_0 (pc := 215) dX7_year_215 ?_
  refine r_cV1_0 (pc := 216) (ct_X7_claimedCells hk) cv_X7_claimedCells ⟨Nat.le_of_ble_eq_true rfl, Nat.le_of_ble_eq_true rfl⟩ ml_X7_121 dX7_year_216 (by omega) (wm_o _ _ _) rfl rfl (Nat.le_of_ble_eq_true rfl) ?_
  refine r_istore_6 (pc := 219) dX7_year_219 rfl (by decide) ?_
  refine r_aload_0 (pc := 221) dX7_year_221 ?_
  refine r_iload_3 (pc := 222) dX7_year_222 ?_
  refine r_if_ne (pc := 223) 231 dX7_year_223 (by decide) (fun c223 => ?_) (fun c223 => ?_)
  · refine r_iload_3 (pc := 231) dX7_year_231 ?_
    refine r_iconst (pc := 232) 1 dX7_year_232 (by decide) ?_
    refine r_icmp_ne (pc := 233) 241 dX7_year_233 (by decide) (fun c233 => ?_) (fun c233 => ?_)
    · refine r_aload_0 (pc := 241) dX7_year_241 ?_
      refine r_wm_get_womans (pc := 242) hk fl_X7_169 dX7_year_242 ?_
      refine r_cV1_1 (pc := 245) (ct_X7_back hk) cv_X7_back ⟨Nat.le_of_ble_eq_true rfl, Nat.le_of_ble_eq_true rfl⟩ ml_X7_207 dX7_year_245 (by omega) (wm_o _ _ _) rfl rfl (Nat.le_of_ble_eq_true rfl) ?_
      refine r_iret (pc := 248) dX7_year_248 rfl (by rw [yrV, if_neg c223, if_neg c233]) rfl
    · refine r_iload_6 (pc := 236) dX7_year_236 ?_
      refine r_goto (pc := 238) 245 dX7_year_238 (by decide) ?_
      refine r_cV1_1 (pc := 245) (ct_X7_back hk) cv_X7_back ⟨Nat.le_of_ble_eq_true rfl, Nat.le_of_ble_eq_true rfl⟩ ml_X7_207 dX7_year_245 (by omega) (wm_o _ _ _) rfl rfl (Nat.le_of_ble_eq_true rfl) ?_
      refine r_iret (pc := 248) dX7_year_248 rfl (by rw [yrV, if_neg c223, if_pos c233]) rfl
  · refine r_iload_5 (pc := 226) dX7_year_226 ?_
    refine r_goto (pc := 228) 245 dX7_year_228 (by decide) ?_
    refine r_cV1_1 (pc := 245) (ct_X7_back hk) cv_X7_back ⟨Nat.le_of_ble_eq_true rfl, Nat.le_of_ble_eq_true rfl⟩ ml_X7_207 dX7_year_245 (by omega) (wm_o _ _ _) rfl rfl (Nat.le_of_ble_eq_true rfl) ?_
    refine r_iret (pc := 248) dX7_year_248 rfl (by rw [yrV, if_pos c223]) rfl
