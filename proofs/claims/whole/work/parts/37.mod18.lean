/-! THE REFERENCE: images, all -/
def pq (b : Bool) (i : Nat) (c : Mod) (a n : Nat) : Mod := if b then piM i c a n else prM i c a n
theorem pq_w (b : Bool) (i : Nat) (c : Mod) (a n : Nat) : wm_isWriting (pq b i c a n) = wm_isWriting c := by
  cases b <;> rfl
theorem pq_at (b : Bool) (i : Nat) (c : Mod) (a n : Nat) : wm_keptAt (pq b i c a n) = nI (a + n) := by
  cases b <;> rfl
theorem ct_X7_passQ {h : Wd} {k i p N a : Nat} {b : Bool} {c : Mod} (hk : k + 24 < 76) (hp : p < 25) (hi : i ≠ 19) (hA : ∀ d : Mod, wm h k d (k + p) = .inl (0, N, .inl (d.1 i))) (hU : ∀ (d : Mod) v, va_up (wm h k d) (k + p) (.inl (0, N, .inl v)) = wm h k (rs i d v)) (hw : wm_isWriting c = bI b) (ha : wm_keptAt c = nI a) (hN : N ≤ 64) (h4 : a + N ≤ 460) : Ct mX7_passRow [.ref k, .ref (k + p), .int (nI N)] (wm h k c) none (wm h k (pq b i c a N)) := by
  cases b with
  | true => exact ct_X7_passI hk hp hi hA hU hw ha hN h4
  | false => exact ct_X7_passR hk hp hi hA hU hw ha hN h4
def ps0 (b : Bool) (c : Mod) (a : Nat) : Mod := wm_s_men (psM c a (psI c b a (wm_men c))) (psI c b a (wm_men c))
def ps1 (b : Bool) (c : Mod) (a : Nat) : Mod := wm_s_tales (psM c a (psI c b a (wm_tales c))) (psI c b a (wm_tales c))
def ps2 (b : Bool) (c : Mod) (a : Nat) : Mod := wm_s_sights (psM c a (psI c b a (wm_sights c))) (psI c b a (wm_sights c))
theorem kk_id (c : Mod) : wm_s_keptKnown c (wm_keptKnown c) = c := Prod.ext rfl (Prod.ext (va_up_id _ 2) rfl)
theorem kn_id (c : Mod) : wm_s_knows c (wm_knows c) = c := Prod.ext rfl (Prod.ext (va_up_id _ 0) rfl)
def kq (b : Bool) (c : Mod) (a n : Nat) : Mod := if b then kiM c a n else krM c a n
theorem lp_X7_knowQ {h : Wd} {k i : Nat} {b : Bool} {c : Mod} (hk : k + 24 < 76) (hi : i < 2) (hw : wm_isWriting c = bI b) : ∀ z, WW mX7_passAll 148 [.ref k, .int (nI i), .int 0, z, .null] [] (wm h k c) none (wm h k (kq b c (6 * i) 6)) := by
  cases b with
  | true => exact fun z => (lp_X7_knowI hk hi hw 6 0 rfl z).w (by rw [kiM, ovr_0, kk_id])
  | false => exact fun z => (lp_X7_knowR hk hi hw 6 0 rfl z).w (by rw [krM, cpy_0, kn_id])
def pa1 (b : Bool) (c : Mod) (a : Nat) : Mod := ps0 b c a
def pa2 (b : Bool) (c : Mod) (a : Nat) : Mod := ps1 b (pa1 b c a) (a + 1)
def pa3 (b : Bool) (c : Mod) (a : Nat) : Mod := ps2 b (pa2 b c a) (a + 2)
def pa4 (b : Bool) (c : Mod) (a : Nat) : Mod := pq b 0 (pa3 b c a) (a + 3) 64
def pa5 (b : Bool) (c : Mod) (a : Nat) : Mod := pq b 1 (pa4 b c a) (a + 67) 64
def pa6 (b : Bool) (c : Mod) (a : Nat) : Mod := pq b 2 (pa5 b c a) (a + 131) 6
def pa7 (b : Bool) (c : Mod) (a : Nat) : Mod := pq b 3 (pa6 b c a) (a + 137) 6
def pa8 (b : Bool) (c : Mod) (a : Nat) : Mod := pq b 4 (pa7 b c a) (a + 143) 6
def pa9 (b : Bool) (c : Mod) (a : Nat) : Mod := pq b 5 (pa8 b c a) (a + 149) 6
def pa10 (b : Bool) (c : Mod) (a : Nat) : Mod := pq b 6 (pa9 b c a) (a + 155) 8
def pa11 (b : Bool) (c : Mod) (a : Nat) : Mod := pq b 7 (pa10 b c a) (a + 163) 8
def pa12 (b : Bool) (c : Mod) (a : Nat) : Mod := pq b 8 (pa11 b c a) (a + 171) 8
def pa13 (b : Bool) (c : Mod) (a : Nat) : Mod := pq b 9 (pa12 b c a) (a + 179) 8
def pa14 (b : Bool) (c : Mod) (a : Nat) : Mod := pq b 10 (pa13 b c a) (a + 187) 8
theorem ps_w (c : Mod) (a : Nat) (b : Bool) (x : Int32) : wm_isWriting (psM c a x) = wm_isWriting c := rfl
theorem ct_X7_passAll {h : Wd} {k a i : Nat} {b : Bool} {c : Mod} (hk : k + 24 < 76) (hi : i < 2) (hw : wm_isWriting c = bI b) (ha : wm_keptAt c = nI a) (h4 : a + 195 ≤ 460) : Ct mX7_passAll [.ref k, .int (nI i)] (wm h k c) none (wm h k (kq b (pa14 b c a) (6 * i) 6)) := by
  have w1 : wm_isWriting (pa1 b c a) = bI b := hw
  have w2 : wm_isWriting (pa2 b c a) = bI b := w1
  have w3 : wm_isWriting (pa3 b c a) = bI b := w2
  have c0 := ct_X7_pass (h := h) (k := k) (a := a) (c := c) (x := wm_men c) (b := b) hk hw ha (by omega)
  have c1 := ct_X7_pass (h := h) (k := k) (a := a + 1) (c := pa1 b c a) (x := wm_tales (pa1 b c a)) (b := b) hk w1 rfl (by omega)
  have c2 := ct_X7_pass (h := h) (k := k) (a := a + 2) (c := pa2 b c a) (x := wm_sights (pa2 b c a)) (b := b) hk w2 rfl (by omega)
  have t3 : wm_keptAt (pa3 b c a) = nI (a + 3) := rfl
  have w4 : wm_isWriting (pa4 b c a) = bI b := (pq_w b 0 _ _ _).trans w3
  have t4 : wm_keptAt (pa4 b c a) = nI (a + 67) := pq_at b 0 _ _ _
  have r0 := ct_X7_passQ (h := h) (k := k) (i := 0) (p := 1) (N := 64) (a := a + 3) (b := b) (c := pa3 b c a) hk (by decide) (by decide) (wm_a_ore h k) (wm_u_ore h k) w3 t3 (by decide) (by omega)
  have w5 : wm_isWriting (pa5 b c a) = bI b := (pq_w b 1 _ _ _).trans w4
  have t5 : wm_keptAt (pa5 b c a) = nI (a + 131) := pq_at b 1 _ _ _
  have r1 := ct_X7_passQ (h := h) (k := k) (i := 1) (p := 2) (N := 64) (a := a + 67) (b := b) (c := pa4 b c a) hk (by decide) (by decide) (wm_a_owner h k) (wm_u_owner h k) w4 t4 (by decide) (by omega)
  have w6 : wm_isWriting (pa6 b c a) = bI b := (pq_w b 2 _ _ _).trans w5
  have t6 : wm_keptAt (pa6 b c a) = nI (a + 137) := pq_at b 2 _ _ _
  have r2 := ct_X7_passQ (h := h) (k := k) (i := 2) (p := 3) (N := 6) (a := a + 131) (b := b) (c := pa5 b c a) hk (by decide) (by decide) (wm_a_tent h k) (wm_u_tent h k) w5 t5 (by decide) (by omega)
  have w7 : wm_isWriting (pa7 b c a) = bI b := (pq_w b 3 _ _ _).trans w6
  have t7 : wm_keptAt (pa7 b c a) = nI (a + 143) := pq_at b 3 _ _ _
  have r3 := ct_X7_passQ (h := h) (k := k) (i := 3) (p := 5) (N := 6) (a := a + 137) (b := b) (c := pa6 b c a) hk (by decide) (by decide) (wm_a_cold h k) (wm_u_cold h k) w6 t6 (by decide) (by omega)
  have w8 : wm_isWriting (pa8 b c a) = bI b := (pq_w b 4 _ _ _).trans w7
  have t8 : wm_keptAt (pa8 b c a) = nI (a + 149) := pq_at b 4 _ _ _
  have r4 := ct_X7_passQ (h := h) (k := k) (i := 4) (p := 6) (N := 6) (a := a + 143) (b := b) (c := pa7 b c a) hk (by decide) (by decide) (wm_a_whistles h k) (wm_u_whistles h k) w7 t7 (by decide) (by omega)
  have w9 : wm_isWriting (pa9 b c a) = bI b := (pq_w b 5 _ _ _).trans w8
  have t9 : wm_keptAt (pa9 b c a) = nI (a + 155) := pq_at b 5 _ _ _
  have r5 := ct_X7_passQ (h := h) (k := k) (i := 5) (p := 7) (N := 6) (a := a + 149) (b := b) (c := pa8 b c a) hk (by decide) (by decide) (wm_a_salt h k) (wm_u_salt h k) w8 t8 (by decide) (by omega)
  have w10 : wm_isWriting (pa10 b c a) = bI b := (pq_w b 6 _ _ _).trans w9
  have t10 : wm_keptAt (pa10 b c a) = nI (a + 163) := pq_at b 6 _ _ _
  have r6 := ct_X7_passQ (h := h) (k := k) (i := 6) (p := 8) (N := 8) (a := a + 155) (b := b) (c := pa9 b c a) hk (by decide) (by decide) (wm_a_taleMan h k) (wm_u_taleMan h k) w9 t9 (by decide) (by omega)
  have w11 : wm_isWriting (pa11 b c a) = bI b := (pq_w b 7 _ _ _).trans w10
  have t11 : wm_keptAt (pa11 b c a) = nI (a + 171) := pq_at b 7 _ _ _
  have r7 := ct_X7_passQ (h := h) (k := k) (i := 7) (p := 9) (N := 8) (a := a + 163) (b := b) (c := pa10 b c a) hk (by decide) (by decide) (wm_a_taleCell h k) (wm_u_taleCell h k) w10 t10 (by decide) (by omega)
  have w12 : wm_isWriting (pa12 b c a) = bI b := (pq_w b 8 _ _ _).trans w11
  have t12 : wm_keptAt (pa12 b c a) = nI (a + 179) := pq_at b 8 _ _ _
  have r8 := ct_X7_passQ (h := h) (k := k) (i := 8) (p := 10) (N := 8) (a := a + 171) (b := b) (c := pa11 b c a) hk (by decide) (by decide) (wm_a_taleGold h k) (wm_u_taleGold h k) w11 t11 (by decide) (by omega)
  have w13 : wm_isWriting (pa13 b c a) = bI b := (pq_w b 9 _ _ _).trans w12
  have t13 : wm_keptAt (pa13 b c a) = nI (a + 187) := pq_at b 9 _ _ _
  have r9 := ct_X7_passQ (h := h) (k := k) (i := 9) (p := 11) (N := 8) (a := a + 179) (b := b) (c := pa12 b c a) hk (by decide) (by decide) (wm_a_sightCell h k) (wm_u_sightCell h k) w12 t12 (by decide) (by omega)
  have w14 : wm_isWriting (pa14 b c a) = bI b := (pq_w b 10 _ _ _).trans w13
  have t14 : wm_keptAt (pa14 b c a) = nI (a + 195) := pq_at b 10 _ _ _
  have r10 := ct_X7_passQ (h := h) (k := k) (i := 10) (p := 12) (N := 8) (a := a + 187) (b := b) (c := pa13 b c a) hk (by decide) (by decide) (wm_a_sightIs h k) (wm_u_sightIs h k) w13 t13 (by decide) (by omega)
  refine Ct.of (Z := List.replicate 3 .null) (by decide) (Nat.le_of_ble_eq_true rfl) (fun z hz => List.eq_of_mem_replicate hz) ?_
  show WW mX7_passAll 0 [.ref k, .int (nI i), .null, .null, .null] [] _ _ _
  refine r_aload_0 (pc := 0) dX7_passAll_0 ?_
  refine r_aload_0 (pc := 1) dX7_passAll_1 ?_
  refine r_aload_0 (pc := 2) dX7_passAll_2 ?_
  refine r_wm_get_men (pc := 3) hk fl_X7_92 dX7_passAll_3 ?_
  refine r_cV1_1 (pc := 6) (c0) cv_X7_pass ⟨Nat.le_of_ble_eq_true rfl, Nat.le_of_ble_eq_true rfl⟩ ml_X7_318 dX7_passAll_6 (by omega) (wm_o _ _ _) rfl rfl (Nat.le_of_ble_eq_true rfl) ?_
  refine r_wm_put_men (pc := 9) hk fl_X7_92 dX7_passAll_9 ?_
  refine r_aload_0 (pc := 12) dX7_passAll_12 ?_
  refine r_aload_0 (pc := 13) dX7_passAll_13 ?_
  refine r_aload_0 (pc := 14) dX7_passAll_14 ?_
  refine r_wm_get_tales (pc := 15) hk fl_X7_243 dX7_passAll_15 ?_
  refine r_cV1_1 (pc := 18) (c1) cv_X7_pass ⟨Nat.le_of_ble_eq_true rfl, Nat.le_of_ble_eq_true rfl⟩ ml_X7_318 dX7_passAll_18 (by omega) (wm_o _ _ _) rfl rfl (Nat.le_of_ble_eq_true rfl) ?_
  refine r_wm_put_tales (pc := 21) hk fl_X7_243 dX7_passAll_21 ?_
  refine r_aload_0 (pc := 24) dX7_passAll_24 ?_
  refine r_aload_0 (pc := 25) dX7_passAll_25 ?_
  refine r_aload_0 (pc := 26) dX7_passAll_26 ?_
  refine r_wm_get_sights (pc := 27) hk fl_X7_267 dX7_passAll_27 ?_
  refine r_cV1_1 (pc := 30) (c2) cv_X7_pass ⟨Nat.le_of_ble_eq_true rfl, Nat.le_of_ble_eq_true rfl⟩ ml_X7_318 dX7_passAll_30 (by omega) (wm_o _ _ _) rfl rfl (Nat.le_of_ble_eq_true rfl) ?_
  refine r_wm_put_sights (pc := 33) hk fl_X7_267 dX7_passAll_33 ?_
  refine r_aload_0 (pc := 36) dX7_passAll_36 ?_
  refine r_aload_0 (pc := 37) dX7_passAll_37 ?_
  refine r_wm_get_ore (pc := 38) hk fl_X7_7 dX7_passAll_38 ?_
  refine r_bipush (pc := 41) 64 dX7_passAll_41 (by decide) ?_
  refine r_cV0_2 (pc := 43) (r0) cv_X7_passRow ⟨Nat.le_of_ble_eq_true rfl, Nat.le_of_ble_eq_true rfl⟩ ml_X7_321 dX7_passAll_43 (by omega) (wm_o _ _ _) rfl rfl (Nat.le_of_ble_eq_true rfl) ?_
  refine r_aload_0 (pc := 46) dX7_passAll_46 ?_
  refine r_aload_0 (pc := 47) dX7_passAll_47 ?_
  refine r_wm_get_owner (pc := 48) hk fl_X7_13 dX7_passAll_48 ?_
  refine r_bipush (pc := 51) 64 dX7_passAll_51 (by decide) ?_
  refine r_cV0_2 (pc := 53) (r1) cv_X7_passRow ⟨Nat.le_of_ble_eq_true rfl, Nat.le_of_ble_eq_true rfl⟩ ml_X7_321 dX7_passAll_53 (by omega) (wm_o _ _ _) rfl rfl (Nat.le_of_ble_eq_true rfl) ?_
  refine r_aload_0 (pc := 56) dX7_passAll_56 ?_
  refine r_aload_0 (pc := 57) dX7_passAll_57 ?_
  refine r_wm_get_tent (pc := 58) hk fl_X7_16 dX7_passAll_58 ?_
  refine r_bipush (pc := 61) 6 dX7_passAll_61 (by decide) ?_
  refine r_cV0_2 (pc := 63) (r2) cv_X7_passRow ⟨Nat.le_of_ble_eq_true rfl, Nat.le_of_ble_eq_true rfl⟩ ml_X7_321 dX7_passAll_63 (by omega) (wm_o _ _ _) rfl rfl (Nat.le_of_ble_eq_true rfl) ?_
  refine r_aload_0 (pc := 66) dX7_passAll_66 ?_
  refine r_aload_0 (pc := 67) dX7_passAll_67 ?_
  refine r_wm_get_cold (pc := 68) hk fl_X7_23 dX7_passAll_68 ?_
  refine r_bipush (pc := 71) 6 dX7_passAll_71 (by decide) ?_
  refine r_cV0_2 (pc := 73) (r3) cv_X7_passRow ⟨Nat.le_of_ble_eq_true rfl, Nat.le_of_ble_eq_true rfl⟩ ml_X7_321 dX7_passAll_73 (by omega) (wm_o _ _ _) rfl rfl (Nat.le_of_ble_eq_true rfl) ?_
  refine r_aload_0 (pc := 76) dX7_passAll_76 ?_
  refine r_aload_0 (pc := 77) dX7_passAll_77 ?_
  refine r_wm_get_whistles (pc := 78) hk fl_X7_26 dX7_passAll_78 ?_
  refine r_bipush (pc := 81) 6 dX7_passAll_81 (by decide) ?_
  refine r_cV0_2 (pc := 83) (r4) cv_X7_passRow ⟨Nat.le_of_ble_eq_true rfl, Nat.le_of_ble_eq_true rfl⟩ ml_X7_321 dX7_passAll_83 (by omega) (wm_o _ _ _) rfl rfl (Nat.le_of_ble_eq_true rfl) ?_
  refine r_aload_0 (pc := 86) dX7_passAll_86 ?_
  refine r_aload_0 (pc := 87) dX7_passAll_87 ?_
  refine r_wm_get_salt (pc := 88) hk fl_X7_29 dX7_passAll_88 ?_
  refine r_bipush (pc := 91) 6 dX7_passAll_91 (by decide) ?_
  refine r_cV0_2 (pc := 93) (r5) cv_X7_passRow ⟨Nat.le_of_ble_eq_true rfl, Nat.le_of_ble_eq_true rfl⟩ ml_X7_321 dX7_passAll_93 (by omega) (wm_o _ _ _) rfl rfl (Nat.le_of_ble_eq_true rfl) ?_
  refine r_aload_0 (pc := 96) dX7_passAll_96 ?_
  refine r_aload_0 (pc := 97) dX7_passAll_97 ?_
  refine r_wm_get_taleMan (pc := 98) hk fl_X7_32 dX7_passAll_98 ?_
  refine r_bipush (pc := 101) 8 dX7_passAll_101 (by decide) ?_
  refine r_cV0_2 (pc := 103) (r6) cv_X7_passRow ⟨Nat.le_of_ble_eq_true rfl, Nat.le_of_ble_eq_true rfl⟩ ml_X7_321 dX7_passAll_103 (by omega) (wm_o _ _ _) rfl rfl (Nat.le_of_ble_eq_true rfl) ?_
  refine r_aload_0 (pc := 106) dX7_passAll_106 ?_
  refine r_aload_0 (pc := 107) dX7_passAll_107 ?_
  refine r_wm_get_taleCell (pc := 108) hk fl_X7_35 dX7_passAll_108 ?_
  refine r_bipush (pc := 111) 8 dX7_passAll_111 (by decide) ?_
  refine r_cV0_2 (pc := 113) (r7) cv_X7_passRow ⟨Nat.le_of_ble_eq_true rfl, Nat.le_of_ble_eq_true rfl⟩ ml_X7_321 dX7_passAll_113 (by omega) (wm_o _ _ _) rfl rfl (Nat.le_of_ble_eq_true rfl) ?_
  refine r_aload_0 (pc := 116) dX7_passAll_116 ?_
  refine r_aload_0 (pc := 117) dX7_passAll_117 ?_
  refine r_wm_get_taleGold (pc := 118) hk fl_X7_38 dX7_passAll_118 ?_
  refine r_bipush (pc := 121) 8 dX7_passAll_121 (by decide) ?_
  refine r_cV0_2 (pc := 123) (r8) cv_X7_passRow ⟨Nat.le_of_ble_eq_true rfl, Nat.le_of_ble_eq_true rfl⟩ ml_X7_321 dX7_passAll_123 (by omega) (wm_o _ _ _) rfl rfl (Nat.le_of_ble_eq_true rfl) ?_
  refine r_aload_0 (pc := 126) dX7_passAll_126 ?_
  refine r_aload_0 (pc := 127) dX7_passAll_127 ?_
  refine r_wm_get_sightCell (pc := 128) hk fl_X7_41 dX7_passAll_128 ?_
  refine r_bipush (pc := 131) 8 dX7_passAll_131 (by decide) ?_
  refine r_cV0_2 (pc := 133) (r9) cv_X7_passRow ⟨Nat.le_of_ble_eq_true rfl, Nat.le_of_ble_eq_true rfl⟩ ml_X7_321 dX7_passAll_133 (by omega) (wm_o _ _ _) rfl rfl (Nat.le_of_ble_eq_true rfl) ?_
  refine r_aload_0 (pc := 136) dX7_passAll_136 ?_
  refine r_aload_0 (pc := 137) dX7_passAll_137 ?_
  refine r_wm_get_sightIs (pc := 138) hk fl_X7_44 dX7_passAll_138 ?_
  refine r_bipush (pc := 141) 8 dX7_passAll_141 (by decide) ?_
  refine r_cV0_2 (pc := 143) (r10) cv_X7_passRow ⟨Nat.le_of_ble_eq_true rfl, Nat.le_of_ble_eq_true rfl⟩ ml_X7_321 dX7_passAll_143 (by omega) (wm_o _ _ _) rfl rfl (Nat.le_of_ble_eq_true rfl) ?_
  refine r_iconst (pc := 146) 0 dX7_passAll_146 (by decide) ?_
  refine r_istore_2 (pc := 147) dX7_passAll_147 rfl (by decide) ?_
  exact lp_X7_knowQ hk hi w14 _
def im0 (c : Mod) (i : Nat) (b : Bool) : Mod := wm_s_isWriting (wm_s_keptAt c (nI (230 * i))) (bI b)
def imA (c : Mod) (i : Nat) (b : Bool) : Mod := kq b (pa14 b (im0 c i b) (230 * i)) (6 * i) 6
def imM (c : Mod) (i : Nat) : Mod := wm_s_isKept (imA c i true) (upd (wm_isKept (imA c i true)) i 1)
theorem ct_X7_imageB {h : Wd} {k : Nat} {c : Mod} {x : Int32} (hk : k + 24 < 76) (hb : inR x 0 1 = false) : Ct mX7_image [.ref k, .int x] (wm h k c) (some (.int (-2))) (wm h k c) := by
  refine Ct.of (Z := List.replicate 0 .null) (by decide) (Nat.le_of_ble_eq_true rfl) (fun z hz => List.eq_of_mem_replicate hz) ?_
  show WW mX7_image 0 [.ref k, .int x] [] _ _ _
  refine r_iload_1 (pc := 0) dX7_image_0 ?_
  refine r_i2l (pc := 1) dX7_image_1 ?_
  refine r_lconst (pc := 2) 0 dX7_image_2 (by decide) ?_
  refine r_lconst (pc := 3) 1 dX7_image_3 (by decide) ?_
  refine r_cS1_3 (pc := 4) (ct_X7_inI (lo := 0) (hi := 1) (by decide) (by decide)) cs_X7_in ⟨Nat.le_of_ble_eq_true rfl, Nat.le_of_ble_eq_true rfl⟩ ml_X7_86 dX7_image_4 rfl (Nat.le_of_ble_eq_true rfl) ?_
  refine r_if_ne (pc := 7) 13 dX7_image_7 (by decide) (fun c7 => absurd (by rw [hb]; rfl) c7) (fun _ => ?_)
  refine r_bipush (pc := 10) (-2) dX7_image_10 (by decide) ?_
  refine r_iret (pc := 12) dX7_image_12 rfl (by first | rfl | simp_all [bI]) rfl
theorem ct_X7_image {h : Wd} {k i : Nat} {c : Mod} (hk : k + 24 < 76) (hi : i < 2) : Ct mX7_image [.ref k, .int (nI i)] (wm h k c) (some (.int 1)) (wm h k (imM c i)) := by
  have hb : inR (nI i) 0 1 = true := decide_eq_true ⟨(nI_lI (a := 0) (by decide) (by omega)).mpr (by omega), (nI_lI (b := 1) (by omega) (by decide)).mpr (by omega)⟩
  have cA := ct_X7_passAll (h := h) (k := k) (a := 230 * i) (i := i) (b := true) (c := im0 c i true) hk hi rfl rfl (by omega)
  refine Ct.of (Z := List.replicate 0 .null) (by decide) (Nat.le_of_ble_eq_true rfl) (fun z hz => List.eq_of_mem_replicate hz) ?_
  show WW mX7_image 0 [.ref k, .int (nI i)] [] _ _ _
  refine r_iload_1 (pc := 0) dX7_image_0 ?_
  refine r_i2l (pc := 1) dX7_image_1 ?_
  refine r_lconst (pc := 2) 0 dX7_image_2 (by decide) ?_
  refine r_lconst (pc := 3) 1 dX7_image_3 (by decide) ?_
  refine r_cS1_3 (pc := 4) (ct_X7_inI (lo := 0) (hi := 1) (by decide) (by decide)) cs_X7_in ⟨Nat.le_of_ble_eq_true rfl, Nat.le_of_ble_eq_true rfl⟩ ml_X7_86 dX7_image_4 rfl (Nat.le_of_ble_eq_true rfl) ?_
  refine r_if_ne (pc := 7) 13 dX7_image_7 (by decide) (fun _ => ?_) (fun c7 => absurd c7 (by rw [hb]; decide))
  refine r_aload_0 (pc := 13) dX7_image_13 ?_
  refine r_sipush (pc := 14) 230 dX7_image_14 (by decide) ?_
  refine r_iload_1 (pc := 17) dX7_image_17 ?_
  refine r_imul (pc := 18) dX7_image_18 ?_
  rw [show (230 : Int32) * nI i = nI (230 * i) from pk_mul 230 i]
  refine r_wm_put_keptAt (pc := 19) hk fl_X7_315 dX7_image_19 ?_
  refine r_aload_0 (pc := 22) dX7_image_22 ?_
  refine r_iconst (pc := 23) 1 dX7_image_23 (by decide) ?_
  refine r_wm_put_isWriting (pc := 24) hk fl_X7_311 dX7_image_24 rfl rfl ?_
  refine r_aload_0 (pc := 27) dX7_image_27 ?_
  refine r_iload_1 (pc := 28) dX7_image_28 ?_
  refine r_cV0_1 (pc := 29) (cA) cv_X7_passAll ⟨Nat.le_of_ble_eq_true rfl, Nat.le_of_ble_eq_true rfl⟩ ml_X7_325 dX7_image_29 (by omega) (wm_o _ _ _) rfl rfl (Nat.le_of_ble_eq_true rfl) ?_
  refine r_aload_0 (pc := 32) dX7_image_32 ?_
  refine r_wm_get_isKept (pc := 33) hk fl_X7_80 dX7_image_33 ?_
  refine r_iload_1 (pc := 36) dX7_image_36 ?_
  refine r_iconst (pc := 37) 1 dX7_image_37 (by decide) ?_
  refine r_wm_st_isKept (pc := 38) hk (by omega) dX7_image_38 ?_
  refine r_iconst (pc := 39) 1 dX7_image_39 (by decide) ?_
  refine r_iret (pc := 40) dX7_image_40 rfl (by first | rfl | simp_all [bI]) rfl
theorem ct_X7_restoreB {h : Wd} {k : Nat} {c : Mod} {x : Int32} (hk : k + 24 < 76) (hb : inR x 0 1 = false) : Ct mX7_restore [.ref k, .int x] (wm h k c) (some (.int (-2))) (wm h k c) := by
  refine Ct.of (Z := List.replicate 0 .null) (by decide) (Nat.le_of_ble_eq_true rfl) (fun z hz => List.eq_of_mem_replicate hz) ?_
  show WW mX7_restore 0 [.ref k, .int x] [] _ _ _
  refine r_iload_1 (pc := 0) dX7_restore_0 ?_
  refine r_i2l (pc := 1) dX7_restore_1 ?_
  refine r_lconst (pc := 2) 0 dX7_restore_2 (by decide) ?_
  refine r_lconst (pc := 3) 1 dX7_restore_3 (by decide) ?_
  refine r_cS1_3 (pc := 4) (ct_X7_inI (lo := 0) (hi := 1) (by decide) (by decide)) cs_X7_in ⟨Nat.le_of_ble_eq_true rfl, Nat.le_of_ble_eq_true rfl⟩ ml_X7_86 dX7_restore_4 rfl (Nat.le_of_ble_eq_true rfl) ?_
  refine r_if_ne (pc := 7) 13 dX7_restore_7 (by decide) (fun c7 => absurd (by rw [hb]; rfl) c7) (fun _ => ?_)
  refine r_bipush (pc := 10) (-2) dX7_restore_10 (by decide) ?_
  refine r_iret (pc := 12) dX7_restore_12 rfl (by first | rfl | simp_all [bI]) rfl
theorem ct_X7_restoreN {h : Wd} {k i : Nat} {c : Mod} (hk : k + 24 < 76) (hi : i < 2) (hz : wm_isKept c i = 0) : Ct mX7_restore [.ref k, .int (nI i)] (wm h k c) (some (.int (-3))) (wm h k c) := by
  have hb : inR (nI i) 0 1 = true := decide_eq_true ⟨(nI_lI (a := 0) (by decide) (by omega)).mpr (by omega), (nI_lI (b := 1) (by omega) (by decide)).mpr (by omega)⟩
  refine Ct.of (Z := List.replicate 0 .null) (by decide) (Nat.le_of_ble_eq_true rfl) (fun z hz => List.eq_of_mem_replicate hz) ?_
  show WW mX7_restore 0 [.ref k, .int (nI i)] [] _ _ _
  refine r_iload_1 (pc := 0) dX7_restore_0 ?_
  refine r_i2l (pc := 1) dX7_restore_1 ?_
  refine r_lconst (pc := 2) 0 dX7_restore_2 (by decide) ?_
  refine r_lconst (pc := 3) 1 dX7_restore_3 (by decide) ?_
  refine r_cS1_3 (pc := 4) (ct_X7_inI (lo := 0) (hi := 1) (by decide) (by decide)) cs_X7_in ⟨Nat.le_of_ble_eq_true rfl, Nat.le_of_ble_eq_true rfl⟩ ml_X7_86 dX7_restore_4 rfl (Nat.le_of_ble_eq_true rfl) ?_
  refine r_if_ne (pc := 7) 13 dX7_restore_7 (by decide) (fun _ => ?_) (fun c7 => absurd c7 (by rw [hb]; decide))
  refine r_aload_0 (pc := 13) dX7_restore_13 ?_
  refine r_wm_get_isKept (pc := 14) hk fl_X7_80 dX7_restore_14 ?_
  refine r_iload_1 (pc := 17) dX7_restore_17 ?_
  refine r_wm_ld_isKept (pc := 18) hk (by omega) dX7_restore_18 ?_
  refine r_if_ne (pc := 19) 25 dX7_restore_19 (by decide) (fun c19 => absurd (hz) c19) (fun _ => ?_)
  refine r_bipush (pc := 22) (-3) dX7_restore_22 (by decide) ?_
  refine r_iret (pc := 24) dX7_restore_24 rfl (by first | rfl | simp_all [bI]) rfl
theorem ct_X7_restore {h : Wd} {k i : Nat} {c : Mod} (hk : k + 24 < 76) (hi : i < 2) (hz : ¬ wm_isKept c i = 0) : Ct mX7_restore [.ref k, .int (nI i)] (wm h k c) (some (.int 1)) (wm h k (imA c i false)) := by
  have hb : inR (nI i) 0 1 = true := decide_eq_true ⟨(nI_lI (a := 0) (by decide) (by omega)).mpr (by omega), (nI_lI (b := 1) (by omega) (by decide)).mpr (by omega)⟩
  have cA := ct_X7_passAll (h := h) (k := k) (a := 230 * i) (i := i) (b := false) (c := im0 c i false) hk hi rfl rfl (by omega)
  refine Ct.of (Z := List.replicate 0 .null) (by decide) (Nat.le_of_ble_eq_true rfl) (fun z hz => List.eq_of_mem_replicate hz) ?_
  show WW mX7_restore 0 [.ref k, .int (nI i)] [] _ _ _
  refine r_iload_1 (pc := 0) dX7_restore_0 ?_
  refine r_i2l (pc := 1) dX7_restore_1 ?_
  refine r_lconst (pc := 2) 0 dX7_restore_2 (by decide) ?_
  refine r_lconst (pc := 3) 1 dX7_restore_3 (by decide) ?_
  refine r_cS1_3 (pc := 4) (ct_X7_inI (lo := 0) (hi := 1) (by decide) (by decide)) cs_X7_in ⟨Nat.le_of_ble_eq_true rfl, Nat.le_of_ble_eq_true rfl⟩ ml_X7_86 dX7_restore_4 rfl (Nat.le_of_ble_eq_true rfl) ?_
  refine r_if_ne (pc := 7) 13 dX7_restore_7 (by decide) (fun _ => ?_) (fun c7 => absurd c7 (by rw [hb]; decide))
  refine r_aload_0 (pc := 13) dX7_restore_13 ?_
  refine r_wm_get_isKept (pc := 14) hk fl_X7_80 dX7_restore_14 ?_
  refine r_iload_1 (pc := 17) dX7_restore_17 ?_
  refine r_wm_ld_isKept (pc := 18) hk (by omega) dX7_restore_18 ?_
  refine r_if_ne (pc := 19) 25 dX7_restore_19 (by decide) (fun _ => ?_) (fun c19 => absurd c19 (hz))
  refine r_aload_0 (pc := 25) dX7_restore_25 ?_
  refine r_sipush (pc := 26) 230 dX7_restore_26 (by decide) ?_
  refine r_iload_1 (pc := 29) dX7_restore_29 ?_
  refine r_imul (pc := 30) dX7_restore_30 ?_
  rw [show (230 : Int32) * nI i = nI (230 * i) from pk_mul 230 i]
  refine r_wm_put_keptAt (pc := 31) hk fl_X7_315 dX7_restore_31 ?_
  refine r_aload_0 (pc := 34) dX7_restore_34 ?_
  refine r_iconst (pc := 35) 0 dX7_restore_35 (by decide) ?_
  refine r_wm_put_isWriting (pc := 36) hk fl_X7_311 dX7_restore_36 rfl rfl ?_
  refine r_aload_0 (pc := 39) dX7_restore_39 ?_
  refine r_iload_1 (pc := 40) dX7_restore_40 ?_
  refine r_cV0_1 (pc := 41) (cA) cv_X7_passAll ⟨Nat.le_of_ble_eq_true rfl, Nat.le_of_ble_eq_true rfl⟩ ml_X7_325 dX7_restore_41 (by omega) (wm_o _ _ _) rfl rfl (Nat.le_of_ble_eq_true rfl) ?_
  refine r_iconst (pc := 44) 1 dX7_restore_44 (by decide) ?_
  refine r_iret (pc := 45) dX7_restore_45 rfl (by first | rfl | simp_all [bI]) rfl
