/-! THE PAIR: what both sides' states have in common -/
def okG (f : Nat → Int32) : Prop := ∀ j, j < 64 → ∃ g, g ≤ 9 ∧ f j = nI g
def okW (M : Mod) : Prop := ok01 (wm_whistles M) ∧ okG (wm_ore M)
def RC (c : Camp) (M : Mod) : Prop :=
  (∀ j, j < 64 → wc_goldOn c j = wm_ore M j) ∧
  (∀ j, j < 64 → (wc_claimers c j = -1 ∧ wm_owner M j = -6) ∨ ∃ m, m < 6 ∧ bt (wm_men M) m = true ∧ wc_claimers c j = nI m ∧ wm_owner M j = nI m) ∧
  wc_men c = wm_men M ∧ (∃ l, l < 64 ∧ wm_men M = nI l) ∧
  (∀ m, m < 6 → bt (wm_men M) m = true → wc_tents c m = wm_tent M m ∧ wc_salts c m = wm_salt M m ∧ wc_known c m = wm_knows M m ∧ bt (wc_withCold c) m = decide (wm_cold M m = 1) ∧ bt (wc_whistling c) m = decide (wm_whistles M m = 1)) ∧
  (∀ m, m < 6 → bt (wm_men M) m = false → wc_salts c m = 0) ∧
  okT (wc_tents c) ∧ okT (wm_tent M) ∧ ok01 (wm_cold M) ∧ okW M
def RT (t : Tales) (M : Mod) : Prop := ∃ n, n ≤ 8 ∧ wt_count t = nI n ∧ wm_tales M = nI n ∧ (∀ i, i < n → (∃ m, m < 6 ∧ wt_tellers t i = nI m ∧ wm_taleMan M i = nI m) ∧ wt_cells t i = wm_taleCell M i ∧ (wm_taleGold M i = 0 ∨ wm_taleGold M i = 1) ∧ bt (wt_toldGolden t) i = decide (wm_taleGold M i = 1)) ∧ ∀ i, n ≤ i → i < 32 → bt (wt_toldGolden t) i = false
def RG (g : Sights) (M : Mod) : Prop := ∃ n, n ≤ 8 ∧ wg_count g = nI n ∧ wm_sights M = nI n ∧ okSi M n ∧ ∀ l, l < 64 → kb (wg_fitting g) l = (decide (l < 46) && ftB M n l)
def RY (m : Mem) (M : Mod) : Prop := RC m.camp M ∧ RT m.tales M ∧ RG m.sights M
def RI (S : SG) (M : Mod) (i : Nat) : Prop := ∃ b, (S.mem (2 + i)).kept = bI b ∧ (b = false → wm_isKept M i = 0) ∧ (b = true → ¬ wm_isKept M i = 0 ∧ RY (S.mem (2 + i)) (vwM M i))
def RP (p : Pad) (M : Mod) : Prop := ∃ n, n ≤ 60 ∧ wp_count p = nI n ∧ wm_padMany M = nI n ∧ ∀ j, j < n → wp_signs p j = wm_pad M j
def RR (S : SG) (M : Mod) : Prop := RY S.now M ∧ RP S.pad M ∧ RI S M 0 ∧ RI S M 1
theorem allB_rd {P : Nat → Bool} : ∀ {n}, allB P n = true → ∀ j, j < n → P j = true
  | n + 1, h, j, hj => by
    rw [allB, Bool.and_eq_true] at h
    by_cases e : j = n
    · rw [e]; exact h.2
    · exact allB_rd h.1 j (by omega)
theorem agM.ore {A B : Mod} (h : agM A B) {j : Nat} (hj : j < 64) : wm_ore A j = wm_ore B j := h.1 0 j (by decide) hj
theorem agM.owner {A B : Mod} (h : agM A B) {j : Nat} (hj : j < 64) : wm_owner A j = wm_owner B j := h.1 1 j (by decide) hj
theorem agM.tent {A B : Mod} (h : agM A B) {j : Nat} (hj : j < 6) : wm_tent A j = wm_tent B j := h.1 2 j (by decide) hj
theorem agM.cold {A B : Mod} (h : agM A B) {j : Nat} (hj : j < 6) : wm_cold A j = wm_cold B j := h.1 3 j (by decide) hj
theorem agM.wh {A B : Mod} (h : agM A B) {j : Nat} (hj : j < 6) : wm_whistles A j = wm_whistles B j := h.1 4 j (by decide) hj
theorem agM.salt {A B : Mod} (h : agM A B) {j : Nat} (hj : j < 6) : wm_salt A j = wm_salt B j := h.1 5 j (by decide) hj
theorem agM.tM {A B : Mod} (h : agM A B) {j : Nat} (hj : j < 8) : wm_taleMan A j = wm_taleMan B j := h.1 6 j (by decide) hj
theorem agM.tC {A B : Mod} (h : agM A B) {j : Nat} (hj : j < 8) : wm_taleCell A j = wm_taleCell B j := h.1 7 j (by decide) hj
theorem agM.tG {A B : Mod} (h : agM A B) {j : Nat} (hj : j < 8) : wm_taleGold A j = wm_taleGold B j := h.1 8 j (by decide) hj
theorem agM.sC {A B : Mod} (h : agM A B) {j : Nat} (hj : j < 8) : wm_sightCell A j = wm_sightCell B j := h.1 9 j (by decide) hj
theorem agM.sI {A B : Mod} (h : agM A B) {j : Nat} (hj : j < 8) : wm_sightIs A j = wm_sightIs B j := h.1 10 j (by decide) hj
theorem agM.men {A B : Mod} (h : agM A B) : wm_men A = wm_men B := h.2.2 0 (by decide)
theorem agM.tales {A B : Mod} (h : agM A B) : wm_tales A = wm_tales B := h.2.2 1 (by decide)
theorem agM.sights {A B : Mod} (h : agM A B) : wm_sights A = wm_sights B := h.2.2 2 (by decide)
theorem RC.ag {c : Camp} {A B : Mod} (a : agM A B) (h : RC c A) : RC c B := by
  obtain ⟨hg, ho, hm, hl, hp, hs, hT, hT2, hc, hw⟩ := h
  rw [a.men] at ho hm hl hp hs
  refine ⟨fun j hj => by rw [← a.ore hj]; exact hg j hj, fun j hj => by rw [← a.owner hj]; exact ho j hj, hm, hl, fun m hm6 hb => ?_, hs, hT, fun m hm6 => by rw [← a.tent hm6]; exact hT2 m hm6, fun m hm6 => by rw [← a.cold hm6]; exact hc m hm6, fun m hm6 => by rw [← a.wh hm6]; exact hw.1 m hm6, fun j hj => by rw [← a.ore hj]; exact hw.2 j hj⟩
  rw [← a.tent hm6, ← a.salt hm6, ← a.2.1 m hm6, ← a.cold hm6, ← a.wh hm6]
  exact hp m hm6 hb
theorem RT.ag {t : Tales} {A B : Mod} (a : agM A B) (h : RT t A) : RT t B := by
  obtain ⟨n, hn, h1, h2, h3, h4⟩ := h
  refine ⟨n, hn, h1, by rw [← a.tales]; exact h2, fun i hi => ?_, h4⟩
  rw [← a.tM (by omega), ← a.tC (by omega), ← a.tG (by omega)]
  exact h3 i hi
theorem ftB_cong {A B : Mod} {n : Nat} (h : ∀ i, i < n → wm_sightCell A i = wm_sightCell B i ∧ wm_sightIs A i = wm_sightIs B i) (l : Nat) : ftB A n l = ftB B n l := by
  unfold ftB
  exact allB_cong (fun i hi => by rw [ft1, ft1, (h i hi).1, (h i hi).2])
theorem RG.ag {g : Sights} {A B : Mod} (a : agM A B) (h : RG g A) : RG g B := by
  obtain ⟨n, hn, h1, h2, h3, h4⟩ := h
  refine ⟨n, hn, h1, by rw [← a.sights]; exact h2, fun i hi => ?_, fun l hl => ?_⟩
  · rw [← a.sC (by omega), ← a.sI (by omega)]
    exact h3 i hi
  · rw [h4 l hl, ftB_cong (A := A) (B := B) (fun i hi => ⟨a.sC (by omega), a.sI (by omega)⟩)]
theorem RY.ag {m : Mem} {A B : Mod} (a : agM A B) (h : RY m A) : RY m B := ⟨h.1.ag a, h.2.1.ag a, h.2.2.ag a⟩
/-- the images stand as they stood -/
def keK (A B : Mod) : Prop := wm_kept A = wm_kept B ∧ wm_keptKnown A = wm_keptKnown B ∧ wm_isKept A = wm_isKept B
theorem keK.sy {A B : Mod} (h : keK A B) : keK B A := ⟨h.1.symm, h.2.1.symm, h.2.2.symm⟩
theorem keK.vw {A B : Mod} (h : keK A B) (i : Nat) : vwM A i = vwM B i := by
  rw [vwM, vwM, h.1, h.2.1]
theorem RI.ke {S T : SG} {A B : Mod} {i : Nat} (k : keK A B) (e : S.mem (2 + i) = T.mem (2 + i)) (h : RI S A i) : RI T B i := by
  obtain ⟨b, h1, h2, h3⟩ := h
  refine ⟨b, by rw [← e]; exact h1, fun z => by rw [← k.2.2]; exact h2 z, fun z => ?_⟩
  rw [← k.2.2, ← e, ← k.vw]
  exact h3 z
/-- of the reference nothing has changed that shows -/
def frM (A B : Mod) : Prop := agM A B ∧ wm_pad A = wm_pad B ∧ wm_padMany A = wm_padMany B ∧ keK A B
theorem RP.of {p : Pad} {A B : Mod} (e1 : wm_pad A = wm_pad B) (e2 : wm_padMany A = wm_padMany B) (h : RP p B) : RP p A := by
  obtain ⟨n, h1, h2, h3, h4⟩ := h
  exact ⟨n, h1, h2, by rw [e2]; exact h3, by rw [e1]; exact h4⟩
theorem RR.fr {S : SG} {A B : Mod} (f : frM A B) (h : RR S B) : RR S A :=
  ⟨h.1.ag f.1.sy, h.2.1.of f.2.1 f.2.2.1, h.2.2.1.ke f.2.2.2.sy rfl, h.2.2.2.ke f.2.2.2.sy rfl⟩
theorem frM.rfl' (A : Mod) : frM A A := ⟨agM.rfl' A, rfl, rfl, rfl, rfl, rfl⟩
/-- a call behind which the camp is another -/
theorem RR.camp {S : SG} {A B : Mod} {c : Camp} (h : RR S B) (hC : RC c A) (hT : RT S.now.tales A) (hG : RG S.now.sights A) (e1 : wm_pad A = wm_pad B) (e2 : wm_padMany A = wm_padMany B) (k : keK A B) : RR (S.sc 1 c) A :=
  ⟨⟨hC, hT, hG⟩, h.2.1.of e1 e2, h.2.2.1.ke k.sy rfl, h.2.2.2.ke k.sy rfl⟩
theorem RR.sameS {S : SG} {A B : Mod} (h : RR S B) (hM : RY S.now A) (e1 : wm_pad A = wm_pad B) (e2 : wm_padMany A = wm_padMany B) (k : keK A B) : RR S A :=
  ⟨hM, h.2.1.of e1 e2, h.2.2.1.ke k.sy rfl, h.2.2.2.ke k.sy rfl⟩
/-! the world of both -/
def wz : Wd := fun _ => .inl (0, 0, .inl (fun _ => 0))
def W2 (S : SG) (M : Mod) : Wd := wx (wm wz 51 M) S
theorem wm_lt {h : Wd} {M : Mod} {j : Nat} (hj : j < 51) : wm h 51 M j = h j := by
  have e : ∀ k, 51 ≤ k → ¬ j = k := fun k hk => by omega
  simp only [wm]
  rw [if_neg (e 51 (by decide)), if_neg (e 52 (by decide)), if_neg (e 53 (by decide)), if_neg (e 54 (by decide)), if_neg (e 55 (by decide)), if_neg (e 56 (by decide)), if_neg (e 57 (by decide)), if_neg (e 58 (by decide)), if_neg (e 59 (by decide)), if_neg (e 60 (by decide)), if_neg (e 61 (by decide)), if_neg (e 62 (by decide)), if_neg (e 63 (by decide)), if_neg (e 64 (by decide)), if_neg (e 65 (by decide)), if_neg (e 66 (by decide)), if_neg (e 67 (by decide)), if_neg (e 68 (by decide)), if_neg (e 69 (by decide)), if_neg (e 70 (by decide)), if_neg (e 71 (by decide)), if_neg (e 72 (by decide)), if_neg (e 73 (by decide)), if_neg (e 74 (by decide)), if_neg (e 75 (by decide))]
theorem W2_m (S : SG) (M : Mod) : W2 S M = wm (wx wz S) 51 M := by
  funext j
  by_cases hj : j < 51
  · rw [wm_lt hj]
    exact lt51 (P := fun j => W2 S M j = wx wz S j) rfl rfl rfl rfl rfl rfl rfl rfl rfl rfl rfl rfl rfl rfl rfl rfl rfl rfl rfl rfl rfl rfl rfl rfl rfl rfl rfl rfl rfl rfl rfl rfl rfl rfl rfl rfl rfl rfl rfl rfl rfl rfl rfl rfl rfl rfl rfl rfl rfl rfl rfl j hj
  · rw [W2, wx_out (by omega)]
    simp only [wm, wx_out (show 51 ≤ j by omega)]
def PR (q6 q7 : MI) (as : List Value) (S : SG) (M : Mod) : Prop := ∃ (x : Int32) (S2 : SG) (M2 : Mod), RR S2 M2 ∧ Ct q6 (.ref 0 :: as) (W2 S M) (some (.int x)) (W2 S2 M) ∧ Ct q7 (.ref 51 :: as) (W2 S2 M) (some (.int x)) (W2 S2 M2)
def PRL (q6 q7 : MI) (as : List Value) (S : SG) (M : Mod) : Prop := ∃ (x : Int64) (S2 : SG) (M2 : Mod), RR S2 M2 ∧ Ct q6 (.ref 0 :: as) (W2 S M) (some (.long x)) (W2 S2 M) ∧ Ct q7 (.ref 51 :: as) (W2 S2 M) (some (.long x)) (W2 S2 M2)
theorem PR.mk {q6 q7 : MI} {as : List Value} {S S2 : SG} {M M2 : Mod} {v w : Int32} (hR : RR S2 M2) (h6 : ∀ h, Ct q6 (.ref 0 :: as) (wx h S) (some (.int v)) (wx h S2)) (h7 : ∀ h, Ct q7 (.ref 51 :: as) (wm h 51 M) (some (.int w)) (wm h 51 M2)) (e : Value.int v = Value.int w) : PR q6 q7 as S M := by
  cases e
  exact ⟨v, S2, M2, hR, h6 _, (h7 (wx wz S2)).at (W2_m S2 M).symm (W2_m S2 M2).symm⟩
theorem PRL.mk {q6 q7 : MI} {as : List Value} {S S2 : SG} {M M2 : Mod} {v w : Int64} (hR : RR S2 M2) (h6 : ∀ h, Ct q6 (.ref 0 :: as) (wx h S) (some (.long v)) (wx h S2)) (h7 : ∀ h, Ct q7 (.ref 51 :: as) (wm h 51 M) (some (.long w)) (wm h 51 M2)) (e : Value.long v = Value.long w) : PRL q6 q7 as S M := by
  cases e
  exact ⟨v, S2, M2, hR, h6 _, (h7 (wx wz S2)).at (W2_m S2 M).symm (W2_m S2 M2).symm⟩
theorem k51 : 51 + 24 < 76 := by decide
theorem eI {a b : Int32} (h : a = b) : Value.int a = Value.int b := by rw [h]
theorem eL {a b : Int64} (h : a = b) : Value.long a = Value.long b := by rw [h]
theorem and_ff {a b : Bool} (h : ¬ (a && b) = true) : (a && b) = false := Bool.eq_false_iff.mpr h
theorem nff {a : Bool} (h : ¬ a = true) : a = false := Bool.eq_false_iff.mpr h
/-! ground, men -/
theorem bt_and (x y : Int32) (i : Nat) : bt (x &&& y) i = (bt x i && bt y i) := by simp [bt]
theorem bt_or (x y : Int32) (i : Nat) : bt (x ||| y) i = (bt x i || bt y i) := by simp [bt]
theorem bt_xor (x y : Int32) (i : Nat) : bt (x ^^^ y) i = (bt x i ^^ bt y i) := by simp [bt]
theorem bt_bW : ∀ m, m < 32 → ∀ i, i < 32 → bt (bW m) i = decide (i = m) := by decide +kernel
theorem bt_m1 : ∀ i, i < 32 → bt (-1) i = true := by decide +kernel
theorem bt_set {x : Int32} {m i : Nat} (hm : m < 32) (hi : i < 32) : bt (x ||| bW m) i = (bt x i || decide (i = m)) := by rw [bt_or, bt_bW m hm i hi]
theorem bt_clr {x : Int32} {m i : Nat} (hm : m < 32) (hi : i < 32) : bt (x &&& (bW m ^^^ (-1))) i = (bt x i && !decide (i = m)) := by
  rw [bt_and, bt_xor, bt_bW m hm i hi, bt_m1 i hi]
  cases decide (i = m) <;> rfl
theorem bt_tog {x : Int32} {m i : Nat} (hm : m < 32) (hi : i < 32) : bt (x ^^^ bW m) i = (bt x i ^^ decide (i = m)) := by rw [bt_xor, bt_bW m hm i hi]
theorem men_or : ∀ l, l < 64 → ∀ m, m < 6 → nI l ||| bW m = nI (l ||| 2 ^ m) ∧ l ||| 2 ^ m < 64 := by decide +kernel
theorem men_an : ∀ l, l < 64 → ∀ m, m < 6 → nI l &&& (bW m ^^^ (-1)) = nI (l &&& (63 - 2 ^ m)) ∧ l &&& (63 - 2 ^ m) < 64 := by decide +kernel
