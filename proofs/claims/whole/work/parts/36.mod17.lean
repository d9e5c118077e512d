/-! THE REFERENCE: images -/
def psI (c : Mod) (b : Bool) (a : Nat) (x : Int32) : Int32 := if b then x else wm_kept c a
def psM (c : Mod) (a : Nat) (v : Int32) : Mod := wm_s_keptAt (wm_s_kept c (upd (wm_kept c) a v)) (nI (a + 1))
theorem ct_X7_pass {h : Wd} {k a : Nat} {c : Mod} {x : Int32} {b : Bool} (hk : k + 24 < 76) (hw : wm_isWriting c = bI b) (ha : wm_keptAt c = nI a) (h4 : a < 460) : Ct mX7_pass [.ref k, .int x] (wm h k c) (some (.int (psI c b a x))) (wm h k (psM c a (psI c b a x))) := by
  refine Ct.of (Z := List.replicate 1 .null) (by decide) (Nat.le_of_ble_eq_true rfl) (fun z hz => List.eq_of_mem_replicate hz) ?_
  show WW mX7_pass 0 [.ref k, .int x, .null] [] _ _ _
  refine r_aload_0 (pc := 0) dX7_pass_0 ?_
  refine r_wm_get_isWriting (pc := 1) hk fl_X7_311 dX7_pass_1 ?_
  rw [hw]
  refine r_if_eq (pc := 4) 11 dX7_pass_4 (by decide) (fun c4 => ?_) (fun c4 => ?_)
  · rw [bI_0] at c4
    refine r_aload_0 (pc := 11) dX7_pass_11 ?_
    refine r_wm_get_kept (pc := 12) hk fl_X7_74 dX7_pass_12 ?_
    refine r_aload_0 (pc := 15) dX7_pass_15 ?_
    refine r_wm_get_keptAt (pc := 16) hk fl_X7_315 dX7_pass_16 ?_
    rw [ha]
    refine r_wm_ld_kept (pc := 19) hk (by omega) dX7_pass_19 ?_
    refine r_istore_2 (pc := 20) dX7_pass_20 rfl (by decide) ?_
    refine r_aload_0 (pc := 21) dX7_pass_21 ?_
    refine r_wm_get_kept (pc := 22) hk fl_X7_74 dX7_pass_22 ?_
    refine r_aload_0 (pc := 25) dX7_pass_25 ?_
    refine r_wm_get_keptAt (pc := 26) hk fl_X7_315 dX7_pass_26 ?_
    refine r_iload_2 (pc := 29) dX7_pass_29 ?_
    rw [show wm_kept c a = psI c b a x by rw [c4]; rfl, ha]
    refine r_wm_st_kept (pc := 30) hk (by omega) dX7_pass_30 ?_
    refine r_aload_0 (pc := 31) dX7_pass_31 ?_
    refine r_dup (pc := 32) dX7_pass_32 rfl ?_
    refine r_wm_get_keptAt (pc := 33) hk fl_X7_315 dX7_pass_33 ?_
    refine r_iconst (pc := 36) 1 dX7_pass_36 (by decide) ?_
    rw [show wm_keptAt (wm_s_kept c (upd (wm_kept c) a (psI c b a x))) = nI a from ha]
    refine r_iadd (pc := 37) dX7_pass_37 ?_
    rw [← nI_succ]
    refine r_wm_put_keptAt (pc := 38) hk fl_X7_315 dX7_pass_38 ?_
    refine r_iload_2 (pc := 41) dX7_pass_41 ?_
    refine r_iret (pc := 42) dX7_pass_42 rfl (by first | rfl | simp_all [bI]) rfl
  · rw [bI_n0] at c4
    refine r_iload_1 (pc := 7) dX7_pass_7 ?_
    refine r_goto (pc := 8) 20 dX7_pass_8 (by decide) ?_
    refine r_istore_2 (pc := 20) dX7_pass_20 rfl (by decide) ?_
    refine r_aload_0 (pc := 21) dX7_pass_21 ?_
    refine r_wm_get_kept (pc := 22) hk fl_X7_74 dX7_pass_22 ?_
    refine r_aload_0 (pc := 25) dX7_pass_25 ?_
    refine r_wm_get_keptAt (pc := 26) hk fl_X7_315 dX7_pass_26 ?_
    refine r_iload_2 (pc := 29) dX7_pass_29 ?_
    rw [ha]
    refine WW.st (st' := [.int (psI c b a x), .int (nI a), .ref (k + 22)]) ?_ (by rw [c4]; rfl)
    refine r_wm_st_kept (pc := 30) hk (by omega) dX7_pass_30 ?_
    refine r_aload_0 (pc := 31) dX7_pass_31 ?_
    refine r_dup (pc := 32) dX7_pass_32 rfl ?_
    refine r_wm_get_keptAt (pc := 33) hk fl_X7_315 dX7_pass_33 ?_
    refine r_iconst (pc := 36) 1 dX7_pass_36 (by decide) ?_
    rw [show wm_keptAt (wm_s_kept c (upd (wm_kept c) a (psI c b a x))) = nI a from ha]
    refine r_iadd (pc := 37) dX7_pass_37 ?_
    rw [← nI_succ]
    refine r_wm_put_keptAt (pc := 38) hk fl_X7_315 dX7_pass_38 ?_
    refine r_iload_2 (pc := 41) dX7_pass_41 ?_
    refine r_iret (pc := 42) dX7_pass_42 rfl (by rw [c4]; rfl) rfl
def rs (i : Nat) (c : Mod) (f : Nat → Int32) : Mod := (va_up c.1 i f, c.2)
/-- f with g from a on, n of them -/
def ovr {α : Type} (f : Nat → α) (a : Nat) (g : Nat → α) (n : Nat) : Nat → α := fun j => if a ≤ j ∧ j < a + n then g (j - a) else f j
theorem ovr_0 {α : Type} (f : Nat → α) (a : Nat) (g : Nat → α) : ovr f a g 0 = f := by
  funext j
  unfold ovr
  rw [if_neg (by omega)]
theorem ovr_s (f : Nat → Int32) (a : Nat) (g : Nat → Int32) (n : Nat) : upd (ovr f a g n) (a + n) (g n) = ovr f a g (n + 1) := by
  funext j
  unfold ovr upd
  by_cases e : j = a + n
  · subst e
    rw [if_pos rfl, if_pos (by omega), show a + n - a = n by omega]
  · rw [if_neg e]
    dsimp only
    by_cases e2 : a ≤ j ∧ j < a + n
    · rw [if_pos e2, if_pos (by omega)]
    · rw [if_neg e2, if_neg (by omega)]
theorem cpy_0 {α : Type} (f g : Nat → α) : cpy f g 0 = g := by
  funext j
  unfold cpy
  rw [if_neg (by omega)]
theorem cpy_s (f g : Nat → Int32) (n : Nat) : upd (cpy f g n) n (f n) = cpy f g (n + 1) := by
  funext j
  unfold cpy upd
  by_cases e : j = n
  · subst e
    rw [if_pos rfl, if_pos (by omega)]
  · rw [if_neg e]
    dsimp only
    by_cases e2 : j < n
    · rw [if_pos e2, if_pos (by omega)]
    · rw [if_neg e2, if_neg (by omega)]
theorem upd_id (f : Nat → Int32) (j : Nat) : upd f j (f j) = f := by
  funext i
  unfold upd
  by_cases e : i = j
  · rw [if_pos e, e]
  · rw [if_neg e]
/-- a row written into the images -/
def piM (i : Nat) (c : Mod) (a n : Nat) : Mod := wm_s_keptAt (wm_s_kept c (ovr (wm_kept c) a (c.1 i) n)) (nI (a + n))
/-- a row read from the images -/
def prM (i : Nat) (c : Mod) (a n : Nat) : Mod := wm_s_keptAt (rs i c (cpy (fun j => wm_kept c (a + j)) (c.1 i) n)) (nI (a + n))
theorem piM_s {i : Nat} (c : Mod) (a n : Nat) (hi : i ≠ 19) : rs i (psM (piM i c a n) (a + n) (c.1 i n)) (upd (c.1 i) n (c.1 i n)) = piM i c a (n + 1) := by
  have e1 : wm_kept (piM i c a n) = ovr (wm_kept c) a (c.1 i) n := by
    show va_up c.1 19 _ 19 = _
    exact va_up_self _ _ _
  unfold psM
  rw [e1, ovr_s, upd_id]
  refine Prod.ext ?_ (Prod.ext rfl ?_)
  · show va_up (va_up (va_up c.1 19 _) 19 _) i (c.1 i) = va_up c.1 19 _
    rw [bx_uu]
    have q : c.1 i = va_up c.1 19 (ovr (wm_kept c) a (c.1 i) (n + 1)) i := (va_up_ne _ _ hi).symm
    exact (congrArg (va_up _ i) q).trans (va_up_id _ i)
  · show va_up (va_up c.2.2 11 _) 11 _ = va_up c.2.2 11 _
    rw [bx_uu]
    rfl
theorem prM_s {i : Nat} (c : Mod) (a n : Nat) (hi : i ≠ 19) : rs i (psM (prM i c a n) (a + n) (wm_kept c (a + n))) (upd ((prM i c a n).1 i) n (wm_kept c (a + n))) = prM i c a (n + 1) := by
  have e1 : wm_kept (prM i c a n) = wm_kept c := by
    show va_up c.1 i _ 19 = _
    exact va_up_ne _ _ (Ne.symm hi)
  have e2 : (prM i c a n).1 i = cpy (fun j => wm_kept c (a + j)) (c.1 i) n := by
    show va_up c.1 i _ i = _
    exact va_up_self _ _ _
  unfold psM
  rw [e1, e2, upd_id, cpy_s (fun j => wm_kept c (a + j)) (c.1 i) n]
  refine Prod.ext ?_ (Prod.ext rfl ?_)
  · show va_up (va_up (va_up c.1 i _) 19 (wm_kept c)) i _ = va_up c.1 i _
    have q : va_up (va_up c.1 i (cpy (fun j => wm_kept c (a + j)) (c.1 i) n)) 19 (wm_kept c) = va_up c.1 i (cpy (fun j => wm_kept c (a + j)) (c.1 i) n) := (congrArg (va_up _ 19) e1.symm).trans (va_up_id _ 19)
    rw [q, bx_uu]
  · show va_up (va_up c.2.2 11 _) 11 _ = va_up c.2.2 11 _
    rw [bx_uu]
    rfl
theorem lp_X7_passI {h : Wd} {k i p N a : Nat} {c : Mod} (hk : k + 24 < 76) (hp : p < 25) (hi : i ≠ 19) (hA : ∀ d : Mod, wm h k d (k + p) = .inl (0, N, .inl (d.1 i))) (hU : ∀ (d : Mod) v, va_up (wm h k d) (k + p) (.inl (0, N, .inl v)) = wm h k (rs i d v)) (hw : wm_isWriting c = bI true) (hN : N ≤ 64) (h4 : a + N ≤ 460) : ∀ r j, j + r = N → WW mX7_passRow 2 [.ref k, .ref (k + p), .int (nI N), .int (nI j)] [] (wm h k (piM i c a j)) none (wm h k (piM i c a N)) := by
  intro r
  induction r with
  | zero =>
    intro j hj
    obtain rfl : j = N := by omega
    refine r_iload_3 (pc := 2) dX7_passRow_2 ?_
    refine r_iload_2 (pc := 3) dX7_passRow_3 ?_
    refine r_icmp_ge (pc := 4) 23 dX7_passRow_4 (by decide) (fun _ => ?_) (fun c4 => absurd (Int32.le_refl _) (c4))
    refine r_vret (pc := 23) dX7_passRow_23 rfl rfl rfl
  | succ r ih =>
    intro j hj
    have e1 : (piM i c a j).1 i = c.1 i := by
      show va_up c.1 19 _ i = _
      exact va_up_ne _ _ hi
    have cP := ct_X7_pass (h := h) (k := k) (a := a + j) (c := piM i c a j) (x := c.1 i j) (b := true) hk hw rfl (by omega)
    have vj : vp_in (nI j) N := vi (by omega) (by omega)
    have cj : (nI j).toNatClampNeg = j := nI_clamp (by omega)
    refine r_iload_3 (pc := 2) dX7_passRow_2 ?_
    refine r_iload_2 (pc := 3) dX7_passRow_3 ?_
    refine r_icmp_ge (pc := 4) 23 dX7_passRow_4 (by decide) (fun c4 => absurd c4 (Int32.not_le.mpr ((nI_ltI (by omega) (by omega)).mpr (by omega)))) (fun _ => ?_)
    refine r_aload_1 (pc := 7) dX7_passRow_7 ?_
    refine r_iload_3 (pc := 8) dX7_passRow_8 ?_
    refine r_aload_0 (pc := 9) dX7_passRow_9 ?_
    refine r_aload_1 (pc := 10) dX7_passRow_10 ?_
    refine r_iload_3 (pc := 11) dX7_passRow_11 ?_
    refine r_iald (pc := 12) dX7_passRow_12 (by omega) (hA _) vj ?_
    rw [cj, e1]
    refine r_cV1_1 (pc := 13) (cP) cv_X7_pass ⟨Nat.le_of_ble_eq_true rfl, Nat.le_of_ble_eq_true rfl⟩ ml_X7_318 dX7_passRow_13 (by omega) (wm_o _ _ _) rfl rfl (Nat.le_of_ble_eq_true rfl) ?_
    refine r_iast (pc := 16) dX7_passRow_16 (by omega) (hA _) vj ?_
    rw [cj, hU, show (psM (piM i c a j) (a + j) (psI (piM i c a j) true (a + j) (c.1 i j))).1 i = c.1 i from (va_up_ne _ _ hi).trans e1, show psI (piM i c a j) true (a + j) (c.1 i j) = c.1 i j from rfl, piM_s c a j hi]
    refine r_inc_3 (pc := 17) dX7_passRow_17 rfl (by decide) ?_
    refine r_goto (pc := 20) 2 dX7_passRow_20 (by decide) ?_
    exact ih (j + 1) (by omega)
theorem lp_X7_passR {h : Wd} {k i p N a : Nat} {c : Mod} (hk : k + 24 < 76) (hp : p < 25) (hi : i ≠ 19) (hA : ∀ d : Mod, wm h k d (k + p) = .inl (0, N, .inl (d.1 i))) (hU : ∀ (d : Mod) v, va_up (wm h k d) (k + p) (.inl (0, N, .inl v)) = wm h k (rs i d v)) (hw : wm_isWriting c = bI false) (hN : N ≤ 64) (h4 : a + N ≤ 460) : ∀ r j, j + r = N → WW mX7_passRow 2 [.ref k, .ref (k + p), .int (nI N), .int (nI j)] [] (wm h k (prM i c a j)) none (wm h k (prM i c a N)) := by
  intro r
  induction r with
  | zero =>
    intro j hj
    obtain rfl : j = N := by omega
    refine r_iload_3 (pc := 2) dX7_passRow_2 ?_
    refine r_iload_2 (pc := 3) dX7_passRow_3 ?_
    refine r_icmp_ge (pc := 4) 23 dX7_passRow_4 (by decide) (fun _ => ?_) (fun c4 => absurd (Int32.le_refl _) (c4))
    refine r_vret (pc := 23) dX7_passRow_23 rfl rfl rfl
  | succ r ih =>
    intro j hj
    have e1 : wm_kept (prM i c a j) = wm_kept c := by
      show va_up c.1 i _ 19 = _
      exact va_up_ne _ _ (Ne.symm hi)
    have cP := fun x => ct_X7_pass (h := h) (k := k) (a := a + j) (c := prM i c a j) (x := x) (b := false) hk hw rfl (by omega)
    have vj : vp_in (nI j) N := vi (by omega) (by omega)
    have cj : (nI j).toNatClampNeg = j := nI_clamp (by omega)
    refine r_iload_3 (pc := 2) dX7_passRow_2 ?_
    refine r_iload_2 (pc := 3) dX7_passRow_3 ?_
    refine r_icmp_ge (pc := 4) 23 dX7_passRow_4 (by decide) (fun c4 => absurd c4 (Int32.not_le.mpr ((nI_ltI (by omega) (by omega)).mpr (by omega)))) (fun _ => ?_)
    refine r_aload_1 (pc := 7) dX7_passRow_7 ?_
    refine r_iload_3 (pc := 8) dX7_passRow_8 ?_
    refine r_aload_0 (pc := 9) dX7_passRow_9 ?_
    refine r_aload_1 (pc := 10) dX7_passRow_10 ?_
    refine r_iload_3 (pc := 11) dX7_passRow_11 ?_
    refine r_iald (pc := 12) dX7_passRow_12 (by omega) (hA _) vj ?_
    rw [cj]
    refine r_cV1_1 (pc := 13) (cP _) cv_X7_pass ⟨Nat.le_of_ble_eq_true rfl, Nat.le_of_ble_eq_true rfl⟩ ml_X7_318 dX7_passRow_13 (by omega) (wm_o _ _ _) rfl rfl (Nat.le_of_ble_eq_true rfl) ?_
    refine r_iast (pc := 16) dX7_passRow_16 (by omega) (hA _) vj ?_
    rw [cj, hU, show ∀ x, psI (prM i c a j) false (a + j) x = wm_kept c (a + j) from fun _ => congrFun e1 (a + j), show (psM (prM i c a j) (a + j) (wm_kept c (a + j))).1 i = (prM i c a j).1 i from va_up_ne _ _ hi, prM_s c a j hi]
    refine r_inc_3 (pc := 17) dX7_passRow_17 rfl (by decide) ?_
    refine r_goto (pc := 20) 2 dX7_passRow_20 (by decide) ?_
    exact ih (j + 1) (by omega)

theorem ct_X7_passI {h : Wd} {k i p N a : Nat} {c : Mod} (hk : k + 24 < 76) (hp : p < 25) (hi : i ≠ 19) (hA : ∀ d : Mod, wm h k d (k + p) = .inl (0, N, .inl (d.1 i))) (hU : ∀ (d : Mod) v, va_up (wm h k d) (k + p) (.inl (0, N, .inl v)) = wm h k (rs i d v)) (hw : wm_isWriting c = bI true) (ha : wm_keptAt c = nI a) (hN : N ≤ 64) (h4 : a + N ≤ 460) : Ct mX7_passRow [.ref k, .ref (k + p), .int (nI N)] (wm h k c) none (wm h k (piM i c a N)) := by
  have e0 : piM i c a 0 = c := by
    unfold piM
    rw [ovr_0]
    refine Prod.ext (va_up_id _ 19) (Prod.ext rfl ?_)
    show va_up c.2.2 11 (nI a) = c.2.2
    rw [← ha]
    exact va_up_id _ 11
  refine Ct.of (Z := List.replicate 1 .null) (by decide) (Nat.le_of_ble_eq_true rfl) (fun z hz => List.eq_of_mem_replicate hz) ?_
  show WW mX7_passRow 0 [.ref k, .ref (k + p), .int (nI N), .null] [] _ _ _
  refine r_iconst (pc := 0) 0 dX7_passRow_0 (by decide) ?_
  refine r_istore_3 (pc := 1) dX7_passRow_1 rfl (by decide) ?_
  exact (lp_X7_passI hk hp hi hA hU hw hN h4 N 0 (by omega)).w (by rw [e0])
theorem ct_X7_passR {h : Wd} {k i p N a : Nat} {c : Mod} (hk : k + 24 < 76) (hp : p < 25) (hi : i ≠ 19) (hA : ∀ d : Mod, wm h k d (k + p) = .inl (0, N, .inl (d.1 i))) (hU : ∀ (d : Mod) v, va_up (wm h k d) (k + p) (.inl (0, N, .inl v)) = wm h k (rs i d v)) (hw : wm_isWriting c = bI false) (ha : wm_keptAt c = nI a) (hN : N ≤ 64) (h4 : a + N ≤ 460) : Ct mX7_passRow [.ref k, .ref (k + p), .int (nI N)] (wm h k c) none (wm h k (prM i c a N)) := by
  have e0 : prM i c a 0 = c := by
    unfold prM
    rw [cpy_0]
    refine Prod.ext (va_up_id _ i) (Prod.ext rfl ?_)
    show va_up c.2.2 11 (nI a) = c.2.2
    rw [← ha]
    exact va_up_id _ 11
  refine Ct.of (Z := List.replicate 1 .null) (by decide) (Nat.le_of_ble_eq_true rfl) (fun z hz => List.eq_of_mem_replicate hz) ?_
  show WW mX7_passRow 0 [.ref k, .ref (k + p), .int (nI N), .null] [] _ _ _
  refine r_iconst (pc := 0) 0 dX7_passRow_0 (by decide) ?_
  refine r_istore_3 (pc := 1) dX7_passRow_1 rfl (by decide) ?_
  exact (lp_X7_passR hk hp hi hA hU hw hN h4 N 0 (by omega)).w (by rw [e0])
/-- the men's known cells in the images -/
theorem ovrL_s (f : Nat → Int64) (a : Nat) (g : Nat → Int64) (n : Nat) : vp_updL (ovr f a g n) (a + n) (g n) = ovr f a g (n + 1) := by
  funext j
  unfold ovr vp_updL
  by_cases e : j = a + n
  · subst e
    rw [if_pos rfl, if_pos (by omega), show a + n - a = n by omega]
  · rw [if_neg e]
    dsimp only
    by_cases e2 : a ≤ j ∧ j < a + n
    · rw [if_pos e2, if_pos (by omega)]
    · rw [if_neg e2, if_neg (by omega)]
theorem cpyL_s (f g : Nat → Int64) (n : Nat) : vp_updL (cpy f g n) n (f n) = cpy f g (n + 1) := by
  funext j
  unfold cpy vp_updL
  by_cases e : j = n
  · subst e
    rw [if_pos rfl, if_pos (by omega)]
  · rw [if_neg e]
    dsimp only
    by_cases e2 : j < n
    · rw [if_pos e2, if_pos (by omega)]
    · rw [if_neg e2, if_neg (by omega)]
theorem updL_id (f : Nat → Int64) (j : Nat) : vp_updL f j (f j) = f := by
  funext i
  unfold vp_updL
  by_cases e : i = j
  · rw [if_pos e, e]
  · rw [if_neg e]
def kiM (c : Mod) (a n : Nat) : Mod := wm_s_keptKnown c (ovr (wm_keptKnown c) a (wm_knows c) n)
def krM (c : Mod) (a n : Nat) : Mod := wm_s_knows c (cpy (fun j => wm_keptKnown c (a + j)) (wm_knows c) n)
theorem kk_kn (c : Mod) (X : Nat → Int64) : wm_knows (wm_s_keptKnown c X) = wm_knows c := by
  show va_up c.2.1 2 X 0 = c.2.1 0
  exact va_up_ne _ _ (by decide)
theorem kk_kk (c : Mod) (X : Nat → Int64) : wm_keptKnown (wm_s_keptKnown c X) = X := by
  show va_up c.2.1 2 X 2 = X
  exact va_up_self _ _ _
theorem kn_kk (c : Mod) (X : Nat → Int64) : wm_keptKnown (wm_s_knows c X) = wm_keptKnown c := by
  show va_up c.2.1 0 X 2 = c.2.1 2
  exact va_up_ne _ _ (by decide)
theorem kn_kn (c : Mod) (X : Nat → Int64) : wm_knows (wm_s_knows c X) = X := by
  show va_up c.2.1 0 X 0 = X
  exact va_up_self _ _ _
theorem kiM_s (c : Mod) (a n : Nat) : wm_s_knows (wm_s_keptKnown (kiM c a n) (vp_updL (wm_keptKnown (kiM c a n)) (a + n) (wm_knows (kiM c a n) n))) (vp_updL (wm_knows (wm_s_keptKnown (kiM c a n) (vp_updL (wm_keptKnown (kiM c a n)) (a + n) (wm_knows (kiM c a n) n)))) n (wm_knows (kiM c a n) n)) = kiM c a (n + 1) := by
  have e1 : wm_knows (kiM c a n) = wm_knows c := kk_kn _ _
  have e2 : wm_keptKnown (kiM c a n) = ovr (wm_keptKnown c) a (wm_knows c) n := kk_kk _ _
  have e3 : ∀ X, wm_knows (wm_s_keptKnown (kiM c a n) X) = wm_knows c := fun X => (kk_kn _ X).trans e1
  rw [e3, e1, e2, ovrL_s, updL_id]
  refine Prod.ext rfl (Prod.ext ?_ rfl)
  show va_up (va_up (va_up c.2.1 2 _) 2 _) 0 (c.2.1 0) = va_up c.2.1 2 _
  rw [bx_uu]
  have q : c.2.1 0 = va_up c.2.1 2 (ovr (wm_keptKnown c) a (wm_knows c) (n + 1)) 0 := (va_up_ne _ _ (by decide)).symm
  exact (congrArg (va_up _ 0) q).trans (va_up_id _ 0)
theorem krM_s (c : Mod) (a n : Nat) : wm_s_knows (wm_s_keptKnown (krM c a n) (vp_updL (wm_keptKnown (krM c a n)) (a + n) (wm_keptKnown (krM c a n) (a + n)))) (vp_updL (wm_knows (wm_s_keptKnown (krM c a n) (vp_updL (wm_keptKnown (krM c a n)) (a + n) (wm_keptKnown (krM c a n) (a + n))))) n (wm_keptKnown (krM c a n) (a + n))) = krM c a (n + 1) := by
  have e1 : wm_keptKnown (krM c a n) = wm_keptKnown c := kn_kk _ _
  have e2 : wm_knows (krM c a n) = cpy (fun j => wm_keptKnown c (a + j)) (wm_knows c) n := kn_kn _ _
  have e3 : ∀ X, wm_knows (wm_s_keptKnown (krM c a n) X) = cpy (fun j => wm_keptKnown c (a + j)) (wm_knows c) n := fun X => (kk_kn _ X).trans e2
  rw [e3, e1, updL_id, cpyL_s (fun j => wm_keptKnown c (a + j)) (wm_knows c) n]
  refine Prod.ext rfl (Prod.ext ?_ rfl)
  show va_up (va_up (va_up c.2.1 0 _) 2 (wm_keptKnown c)) 0 _ = va_up c.2.1 0 _
  have q : va_up (va_up c.2.1 0 (cpy (fun j => wm_keptKnown c (a + j)) (wm_knows c) n)) 2 (wm_keptKnown c) = va_up c.2.1 0 (cpy (fun j => wm_keptKnown c (a + j)) (wm_knows c) n) := (congrArg (va_up _ 2) e1.symm).trans (va_up_id _ 2)
  rw [q, bx_uu]
theorem lp_X7_knowI {h : Wd} {k i : Nat} {c : Mod} (hk : k + 24 < 76) (hi : i < 2) (hw : wm_isWriting c = bI true) : ∀ r j, j + r = 6 → ∀ z, WW mX7_passAll 148 [.ref k, .int (nI i), .int (nI j), z, .null] [] (wm h k (kiM c (6 * i) j)) none (wm h k (kiM c (6 * i) 6)) := by
  intro r
  induction r with
  | zero =>
    intro j hj z
    obtain rfl : j = 6 := by omega
    refine r_iload_2 (pc := 148) dX7_passAll_148 ?_
    refine r_bipush (pc := 149) 6 dX7_passAll_149 (by decide) ?_
    refine r_icmp_ge (pc := 151) 207 dX7_passAll_151 (by decide) (fun _ => ?_) (fun c151 => absurd (by decide) (c151))
    refine r_vret (pc := 207) dX7_passAll_207 rfl rfl rfl
  | succ r ih =>
    intro j hj z
    have e6 : (6 : Int32) * nI i = nI (6 * i) := pk_mul 6 i
    have w : wm_isWriting (kiM c (6 * i) j) = bI true := hw
    have go : ∀ z, WW mX7_passAll 148 [.ref k, .int (nI i), .int (nI (j + 1)), z, .null] [] (wm h k (kiM c (6 * i) (j + 1))) none (wm h k (kiM c (6 * i) 6)) := ih (j + 1) (by omega)
    rw [← kiM_s] at go
    refine r_iload_2 (pc := 148) dX7_passAll_148 ?_
    refine r_bipush (pc := 149) 6 dX7_passAll_149 (by decide) ?_
    refine r_icmp_ge (pc := 151) 207 dX7_passAll_151 (by decide) (fun c151 => absurd c151 (nI_ge (a := j) (b := 6) (by omega) (by decide))) (fun _ => ?_)
    refine r_aload_0 (pc := 154) dX7_passAll_154 ?_
    refine r_wm_get_isWriting (pc := 155) hk fl_X7_311 dX7_passAll_155 ?_
    refine r_if_eq (pc := 158) 170 dX7_passAll_158 (by decide) (fun c158 => absurd c158 (by rw [w]; decide)) (fun _ => ?_)
    refine r_aload_0 (pc := 161) dX7_passAll_161 ?_
    refine r_wm_get_knows (pc := 162) hk fl_X7_19 dX7_passAll_162 ?_
    refine r_iload_2 (pc := 165) dX7_passAll_165 ?_
    refine r_wm_ld_knows (pc := 166) hk (by omega) dX7_passAll_166 ?_
    refine r_goto (pc := 167) 181 dX7_passAll_167 (by decide) ?_
    refine r_lstore_3 (pc := 181) dX7_passAll_181 rfl (by decide) ?_
    refine r_aload_0 (pc := 182) dX7_passAll_182 ?_
    refine r_wm_get_keptKnown (pc := 183) hk fl_X7_77 dX7_passAll_183 ?_
    refine r_bipush (pc := 186) 6 dX7_passAll_186 (by decide) ?_
    refine r_iload_1 (pc := 188) dX7_passAll_188 ?_
    refine r_imul (pc := 189) dX7_passAll_189 ?_
    refine r_iload_2 (pc := 190) dX7_passAll_190 ?_
    refine r_iadd (pc := 191) dX7_passAll_191 ?_
    refine r_lload_3 (pc := 192) dX7_passAll_192 ?_
    rw [e6, nI_add]
    refine r_wm_st_keptKnown (pc := 193) hk (by omega) dX7_passAll_193 ?_
    refine r_aload_0 (pc := 194) dX7_passAll_194 ?_
    refine r_wm_get_knows (pc := 195) hk fl_X7_19 dX7_passAll_195 ?_
    refine r_iload_2 (pc := 198) dX7_passAll_198 ?_
    refine r_lload_3 (pc := 199) dX7_passAll_199 ?_
    refine r_wm_st_knows (pc := 200) hk (by omega) dX7_passAll_200 ?_
    refine r_inc_2 (pc := 201) dX7_passAll_201 rfl (by decide) ?_
    refine r_goto (pc := 204) 148 dX7_passAll_204 (by decide) ?_
    exact go _
theorem lp_X7_knowR {h : Wd} {k i : Nat} {c : Mod} (hk : k + 24 < 76) (hi : i < 2) (hw : wm_isWriting c = bI false) : ∀ r j, j + r = 6 → ∀ z, WW mX7_passAll 148 [.ref k, .int (nI i), .int (nI j), z, .null] [] (wm h k (krM c (6 * i) j)) none (wm h k (krM c (6 * i) 6)) := by
  intro r
  induction r with
  | zero =>
    intro j hj z
    obtain rfl : j = 6 := by omega
    refine r_iload_2 (pc := 148) dX7_passAll_148 ?_
    refine r_bipush (pc := 149) 6 dX7_passAll_149 (by decide) ?_
    refine r_icmp_ge (pc := 151) 207 dX7_passAll_151 (by decide) (fun _ => ?_) (fun c151 => absurd (by decide) (c151))
    refine r_vret (pc := 207) dX7_passAll_207 rfl rfl rfl
  | succ r ih =>
    intro j hj z
    have e6 : (6 : Int32) * nI i = nI (6 * i) := pk_mul 6 i
    have w : wm_isWriting (krM c (6 * i) j) = bI false := hw
    have go : ∀ z, WW mX7_passAll 148 [.ref k, .int (nI i), .int (nI (j + 1)), z, .null] [] (wm h k (krM c (6 * i) (j + 1))) none (wm h k (krM c (6 * i) 6)) := ih (j + 1) (by omega)
    rw [← krM_s] at go
    refine r_iload_2 (pc := 148) dX7_passAll_148 ?_
    refine r_bipush (pc := 149) 6 dX7_passAll_149 (by decide) ?_
    refine r_icmp_ge (pc := 151) 207 dX7_passAll_151 (by decide) (fun c151 => absurd c151 (nI_ge (a := j) (b := 6) (by omega) (by decide))) (fun _ => ?_)
    refine r_aload_0 (pc := 154) dX7_passAll_154 ?_
    refine r_wm_get_isWriting (pc := 155) hk fl_X7_311 dX7_passAll_155 ?_
    refine r_if_eq (pc := 158) 170 dX7_passAll_158 (by decide) (fun _ => ?_) (fun c158 => absurd (by rw [w]; decide) (c158))
    refine r_aload_0 (pc := 170) dX7_passAll_170 ?_
    refine r_wm_get_keptKnown (pc := 171) hk fl_X7_77 dX7_passAll_171 ?_
    refine r_bipush (pc := 174) 6 dX7_passAll_174 (by decide) ?_
    refine r_iload_1 (pc := 176) dX7_passAll_176 ?_
    refine r_imul (pc := 177) dX7_passAll_177 ?_
    refine r_iload_2 (pc := 178) dX7_passAll_178 ?_
    refine r_iadd (pc := 179) dX7_passAll_179 ?_
    rw [e6, nI_add]
    refine r_wm_ld_keptKnown (pc := 180) hk (by omega) dX7_passAll_180 ?_
    refine r_lstore_3 (pc := 181) dX7_passAll_181 rfl (by decide) ?_
    refine r_aload_0 (pc := 182) dX7_passAll_182 ?_
    refine r_wm_get_keptKnown (pc := 183) hk fl_X7_77 dX7_passAll_183 ?_
    refine r_bipush (pc := 186) 6 dX7_passAll_186 (by decide) ?_
    refine r_iload_1 (pc := 188) dX7_passAll_188 ?_
    refine r_imul (pc := 189) dX7_passAll_189 ?_
    refine r_iload_2 (pc := 190) dX7_passAll_190 ?_
    refine r_iadd (pc := 191) dX7_passAll_191 ?_
    refine r_lload_3 (pc := 192) dX7_passAll_192 ?_
    rw [e6, nI_add]
    refine r_wm_st_keptKnown (pc := 193) hk (by omega) dX7_passAll_193 ?_
    refine r_aload_0 (pc := 194) dX7_passAll_194 ?_
    refine r_wm_get_knows (pc := 195) hk fl_X7_19 dX7_passAll_195 ?_
    refine r_iload_2 (pc := 198) dX7_passAll_198 ?_
    refine r_lload_3 (pc := 199) dX7_passAll_199 ?_
    refine r_wm_st_knows (pc := 200) hk (by omega) dX7_passAll_200 ?_
    refine r_inc_2 (pc := 201) dX7_passAll_201 rfl (by decide) ?_
    refine r_goto (pc := 204) 148 dX7_passAll_204 (by decide) ?_
    exact go _
