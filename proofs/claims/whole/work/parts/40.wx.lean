/-! THE WORLD OF SnoresGold: objects and rows at places 0 .. 50 -/
abbrev Mem : Type := Camp × Tales × Sights × Int32
def Mem.camp (m : Mem) : Camp := m.1
def Mem.tales (m : Mem) : Tales := m.2.1
def Mem.sights (m : Mem) : Sights := m.2.2.1
def Mem.kept (m : Mem) : Int32 := m.2.2.2
abbrev SG : Type := (Nat → Mem) × Pad × Week × Camp × (Nat → Int32) × (Nat → Int32) × (Nat → Int32) × (Nat → Int32)
def SG.mem (S : SG) : Nat → Mem := S.1
def SG.pad (S : SG) : Pad := S.2.1
def SG.week (S : SG) : Week := S.2.2.1
def SG.ahead (S : SG) : Camp := S.2.2.2.1
def SG.dig (S : SG) : Nat → Int32 := S.2.2.2.2.1
def SG.lead (S : SG) : Nat → Int32 := S.2.2.2.2.2.1
def SG.calm (S : SG) : Nat → Int32 := S.2.2.2.2.2.2.1
def SG.cold (S : SG) : Nat → Int32 := S.2.2.2.2.2.2.2
abbrev SG.now (S : SG) : Mem := S.mem 1
def SG.sm (S : SG) (f : Nat → Mem) : SG := (f, S.2)
def SG.sc (S : SG) (p : Nat) (c : Camp) : SG := S.sm (va_up S.mem p (c, (S.mem p).2))
def SG.st (S : SG) (p : Nat) (c : Tales) : SG := S.sm (va_up S.mem p ((S.mem p).1, c, (S.mem p).2.2))
def SG.sg (S : SG) (p : Nat) (c : Sights) : SG := S.sm (va_up S.mem p ((S.mem p).1, (S.mem p).2.1, c, (S.mem p).2.2.2))
def SG.sk (S : SG) (p : Nat) (v : Int32) : SG := S.sm (va_up S.mem p ((S.mem p).1, (S.mem p).2.1, (S.mem p).2.2.1, v))
def SG.sp (S : SG) (c : Pad) : SG := (S.1, c, S.2.2)
def SG.sw (S : SG) (c : Week) : SG := (S.1, S.2.1, c, S.2.2.2)
def SG.sa (S : SG) (c : Camp) : SG := (S.1, S.2.1, S.2.2.1, c, S.2.2.2.2)
def SG.sd (S : SG) (f : Nat → Int32) : SG := (S.1, S.2.1, S.2.2.1, S.2.2.2.1, f, S.2.2.2.2.2)
def SG.sl (S : SG) (f : Nat → Int32) : SG := (S.1, S.2.1, S.2.2.1, S.2.2.2.1, S.2.2.2.2.1, f, S.2.2.2.2.2.2)
def SG.s1 (S : SG) (f : Nat → Int32) : SG := (S.1, S.2.1, S.2.2.1, S.2.2.2.1, S.2.2.2.2.1, S.2.2.2.2.2.1, f, S.2.2.2.2.2.2.2)
def SG.s2 (S : SG) (f : Nat → Int32) : SG := (S.1, S.2.1, S.2.2.1, S.2.2.2.1, S.2.2.2.2.1, S.2.2.2.2.2.1, S.2.2.2.2.2.2.1, f)
def wxO : List Value := [.ref 1, .ref 2, .ref 3, .ref 4, .ref 6, .ref 11, .ref 7, .ref 8, .ref 9, .ref 10]
def wxM (p : Nat) (v : Int32) : List Value := [.ref (7 + 11 * p), .ref (14 + 11 * p), .ref (17 + 11 * p), .int v]
def wq (h : Wd) (S : SG) : Wd := fun j =>
  if j = 0 then .inr (6, wxO) else if j = 1 then .inr (1, wxM 1 (S.mem 1).kept) else if j = 2 then .inr (1, wxM 2 (S.mem 2).kept) else if j = 3 then .inr (1, wxM 3 (S.mem 3).kept)
  else if j = 7 then .inl (0, 6, .inl S.dig) else if j = 8 then .inl (0, 6, .inl S.lead) else if j = 9 then .inl (0, 6, .inl S.calm) else if j = 10 then .inl (0, 6, .inl S.cold) else h j
def wx (h : Wd) (S : SG) : Wd := wq (wc (wt (wg (wc (wt (wg (wc (wt (wg (wc (wp (wk h 6 S.week) 4 S.pad) 11 S.ahead) 28 (S.mem 1).sights) 25 (S.mem 1).tales) 18 (S.mem 1).camp) 39 (S.mem 2).sights) 36 (S.mem 2).tales) 29 (S.mem 2).camp) 50 (S.mem 3).sights) 47 (S.mem 3).tales) 40 (S.mem 3).camp) S
theorem lt51 {P : Nat → Prop} (h0 : P 0) (h1 : P 1) (h2 : P 2) (h3 : P 3) (h4 : P 4) (h5 : P 5) (h6 : P 6) (h7 : P 7) (h8 : P 8) (h9 : P 9) (h10 : P 10) (h11 : P 11) (h12 : P 12) (h13 : P 13) (h14 : P 14) (h15 : P 15) (h16 : P 16) (h17 : P 17) (h18 : P 18) (h19 : P 19) (h20 : P 20) (h21 : P 21) (h22 : P 22) (h23 : P 23) (h24 : P 24) (h25 : P 25) (h26 : P 26) (h27 : P 27) (h28 : P 28) (h29 : P 29) (h30 : P 30) (h31 : P 31) (h32 : P 32) (h33 : P 33) (h34 : P 34) (h35 : P 35) (h36 : P 36) (h37 : P 37) (h38 : P 38) (h39 : P 39) (h40 : P 40) (h41 : P 41) (h42 : P 42) (h43 : P 43) (h44 : P 44) (h45 : P 45) (h46 : P 46) (h47 : P 47) (h48 : P 48) (h49 : P 49) (h50 : P 50) : ∀ j, j < 51 → P j := fun j hj =>
  match j, hj with
  | 0, _ => h0
  | 1, _ => h1
  | 2, _ => h2
  | 3, _ => h3
  | 4, _ => h4
  | 5, _ => h5
  | 6, _ => h6
  | 7, _ => h7
  | 8, _ => h8
  | 9, _ => h9
  | 10, _ => h10
  | 11, _ => h11
  | 12, _ => h12
  | 13, _ => h13
  | 14, _ => h14
  | 15, _ => h15
  | 16, _ => h16
  | 17, _ => h17
  | 18, _ => h18
  | 19, _ => h19
  | 20, _ => h20
  | 21, _ => h21
  | 22, _ => h22
  | 23, _ => h23
  | 24, _ => h24
  | 25, _ => h25
  | 26, _ => h26
  | 27, _ => h27
  | 28, _ => h28
  | 29, _ => h29
  | 30, _ => h30
  | 31, _ => h31
  | 32, _ => h32
  | 33, _ => h33
  | 34, _ => h34
  | 35, _ => h35
  | 36, _ => h36
  | 37, _ => h37
  | 38, _ => h38
  | 39, _ => h39
  | 40, _ => h40
  | 41, _ => h41
  | 42, _ => h42
  | 43, _ => h43
  | 44, _ => h44
  | 45, _ => h45
  | 46, _ => h46
  | 47, _ => h47
  | 48, _ => h48
  | 49, _ => h49
  | 50, _ => h50
  | n + 51, h => absurd h (by omega)
theorem wx_out {h : Wd} {S : SG} {j : Nat} (hj : 51 ≤ j) : wx h S j = h j := by
  have e : ∀ k, k < 51 → ¬ j = k := fun k hk => by omega
  rw [wx, wq, if_neg (e 0 (by decide)), if_neg (e 1 (by decide)), if_neg (e 2 (by decide)), if_neg (e 3 (by decide)), if_neg (e 7 (by decide)), if_neg (e 8 (by decide)), if_neg (e 9 (by decide)), if_neg (e 10 (by decide))]
  rw [wc_out (by omega), wt_out (by omega), wg_out (e _ (by decide)), wc_out (by omega), wt_out (by omega), wg_out (e _ (by decide)), wc_out (by omega), wt_out (by omega), wg_out (e _ (by decide)), wc_out (by omega), wp_out (by omega), wk_ne (e _ (by decide))]
theorem sXc1 {h : Wd} {S : SG}  : wc (wx h S) 18 (S.mem 1).camp = wx h S := by
  funext j
  by_cases hj : j < 51
  · exact lt51 (P := fun j => wc (wx h S) 18 (S.mem 1).camp j = wx h S j) rfl rfl rfl rfl rfl rfl rfl rfl rfl rfl rfl rfl rfl rfl rfl rfl rfl rfl rfl rfl rfl rfl rfl rfl rfl rfl rfl rfl rfl rfl rfl rfl rfl rfl rfl rfl rfl rfl rfl rfl rfl rfl rfl rfl rfl rfl rfl rfl rfl rfl rfl j hj
  · rw [wc_out (by omega)]
theorem uXc1 {h : Wd} {S : SG} {c : Camp} : wc (wx h S) 18 c = wx h (S.sc 1 c) := by
  funext j
  by_cases hj : j < 51
  · exact lt51 (P := fun j => wc (wx h S) 18 c j = wx h (S.sc 1 c) j) rfl rfl rfl rfl rfl rfl rfl rfl rfl rfl rfl rfl rfl rfl rfl rfl rfl rfl rfl rfl rfl rfl rfl rfl rfl rfl rfl rfl rfl rfl rfl rfl rfl rfl rfl rfl rfl rfl rfl rfl rfl rfl rfl rfl rfl rfl rfl rfl rfl rfl rfl j hj
  · rw [wc_out (by omega), wx_out (by omega), wx_out (by omega)]
theorem sXt1 {h : Wd} {S : SG}  : wt (wx h S) 25 (S.mem 1).tales = wx h S := by
  funext j
  by_cases hj : j < 51
  · exact lt51 (P := fun j => wt (wx h S) 25 (S.mem 1).tales j = wx h S j) rfl rfl rfl rfl rfl rfl rfl rfl rfl rfl rfl rfl rfl rfl rfl rfl rfl rfl rfl rfl rfl rfl rfl rfl rfl rfl rfl rfl rfl rfl rfl rfl rfl rfl rfl rfl rfl rfl rfl rfl rfl rfl rfl rfl rfl rfl rfl rfl rfl rfl rfl j hj
  · rw [wt_out (by omega)]
theorem uXt1 {h : Wd} {S : SG} {c : Tales} : wt (wx h S) 25 c = wx h (S.st 1 c) := by
  funext j
  by_cases hj : j < 51
  · exact lt51 (P := fun j => wt (wx h S) 25 c j = wx h (S.st 1 c) j) rfl rfl rfl rfl rfl rfl rfl rfl rfl rfl rfl rfl rfl rfl rfl rfl rfl rfl rfl rfl rfl rfl rfl rfl rfl rfl rfl rfl rfl rfl rfl rfl rfl rfl rfl rfl rfl rfl rfl rfl rfl rfl rfl rfl rfl rfl rfl rfl rfl rfl rfl j hj
  · rw [wt_out (by omega), wx_out (by omega), wx_out (by omega)]
theorem sXg1 {h : Wd} {S : SG}  : wg (wx h S) 28 (S.mem 1).sights = wx h S := by
  funext j
  by_cases hj : j < 51
  · exact lt51 (P := fun j => wg (wx h S) 28 (S.mem 1).sights j = wx h S j) rfl rfl rfl rfl rfl rfl rfl rfl rfl rfl rfl rfl rfl rfl rfl rfl rfl rfl rfl rfl rfl rfl rfl rfl rfl rfl rfl rfl rfl rfl rfl rfl rfl rfl rfl rfl rfl rfl rfl rfl rfl rfl rfl rfl rfl rfl rfl rfl rfl rfl rfl j hj
  · rw [wg_out (by omega)]
theorem uXg1 {h : Wd} {S : SG} {c : Sights} : wg (wx h S) 28 c = wx h (S.sg 1 c) := by
  funext j
  by_cases hj : j < 51
  · exact lt51 (P := fun j => wg (wx h S) 28 c j = wx h (S.sg 1 c) j) rfl rfl rfl rfl rfl rfl rfl rfl rfl rfl rfl rfl rfl rfl rfl rfl rfl rfl rfl rfl rfl rfl rfl rfl rfl rfl rfl rfl rfl rfl rfl rfl rfl rfl rfl rfl rfl rfl rfl rfl rfl rfl rfl rfl rfl rfl rfl rfl rfl rfl rfl j hj
  · rw [wg_out (by omega), wx_out (by omega), wx_out (by omega)]
theorem uXk1 {h : Wd} {S : SG} {v : Int32} : va_up (wx h S) 1 (.inr (1, (wxM 1 (S.mem 1).kept).set 3 (.int v))) = wx h (S.sk 1 v) := by
  funext j
  by_cases hj : j < 51
  · exact lt51 (P := fun j => va_up (wx h S) 1 (.inr (1, (wxM 1 (S.mem 1).kept).set 3 (.int v))) j = wx h (S.sk 1 v) j) rfl rfl rfl rfl rfl rfl rfl rfl rfl rfl rfl rfl rfl rfl rfl rfl rfl rfl rfl rfl rfl rfl rfl rfl rfl rfl rfl rfl rfl rfl rfl rfl rfl rfl rfl rfl rfl rfl rfl rfl rfl rfl rfl rfl rfl rfl rfl rfl rfl rfl rfl j hj
  · rw [va_up_ne _ _ (by omega), wx_out (by omega), wx_out (by omega)]
theorem sXc2 {h : Wd} {S : SG}  : wc (wx h S) 29 (S.mem 2).camp = wx h S := by
  funext j
  by_cases hj : j < 51
  · exact lt51 (P := fun j => wc (wx h S) 29 (S.mem 2).camp j = wx h S j) rfl rfl rfl rfl rfl rfl rfl rfl rfl rfl rfl rfl rfl rfl rfl rfl rfl rfl rfl rfl rfl rfl rfl rfl rfl rfl rfl rfl rfl rfl rfl rfl rfl rfl rfl rfl rfl rfl rfl rfl rfl rfl rfl rfl rfl rfl rfl rfl rfl rfl rfl j hj
  · rw [wc_out (by omega)]
theorem uXc2 {h : Wd} {S : SG} {c : Camp} : wc (wx h S) 29 c = wx h (S.sc 2 c) := by
  funext j
  by_cases hj : j < 51
  · exact lt51 (P := fun j => wc (wx h S) 29 c j = wx h (S.sc 2 c) j) rfl rfl rfl rfl rfl rfl rfl rfl rfl rfl rfl rfl rfl rfl rfl rfl rfl rfl rfl rfl rfl rfl rfl rfl rfl rfl rfl rfl rfl rfl rfl rfl rfl rfl rfl rfl rfl rfl rfl rfl rfl rfl rfl rfl rfl rfl rfl rfl rfl rfl rfl j hj
  · rw [wc_out (by omega), wx_out (by omega), wx_out (by omega)]
theorem sXt2 {h : Wd} {S : SG}  : wt (wx h S) 36 (S.mem 2).tales = wx h S := by
  funext j
  by_cases hj : j < 51
  · exact lt51 (P := fun j => wt (wx h S) 36 (S.mem 2).tales j = wx h S j) rfl rfl rfl rfl rfl rfl rfl rfl rfl rfl rfl rfl rfl rfl rfl rfl rfl rfl rfl rfl rfl rfl rfl rfl rfl rfl rfl rfl rfl rfl rfl rfl rfl rfl rfl rfl rfl rfl rfl rfl rfl rfl rfl rfl rfl rfl rfl rfl rfl rfl rfl j hj
  · rw [wt_out (by omega)]
theorem uXt2 {h : Wd} {S : SG} {c : Tales} : wt (wx h S) 36 c = wx h (S.st 2 c) := by
  funext j
  by_cases hj : j < 51
  · exact lt51 (P := fun j => wt (wx h S) 36 c j = wx h (S.st 2 c) j) rfl rfl rfl rfl rfl rfl rfl rfl rfl rfl rfl rfl rfl rfl rfl rfl rfl rfl rfl rfl rfl rfl rfl rfl rfl rfl rfl rfl rfl rfl rfl rfl rfl rfl rfl rfl rfl rfl rfl rfl rfl rfl rfl rfl rfl rfl rfl rfl rfl rfl rfl j hj
  · rw [wt_out (by omega), wx_out (by omega), wx_out (by omega)]
theorem sXg2 {h : Wd} {S : SG}  : wg (wx h S) 39 (S.mem 2).sights = wx h S := by
  funext j
  by_cases hj : j < 51
  · exact lt51 (P := fun j => wg (wx h S) 39 (S.mem 2).sights j = wx h S j) rfl rfl rfl rfl rfl rfl rfl rfl rfl rfl rfl rfl rfl rfl rfl rfl rfl rfl rfl rfl rfl rfl rfl rfl rfl rfl rfl rfl rfl rfl rfl rfl rfl rfl rfl rfl rfl rfl rfl rfl rfl rfl rfl rfl rfl rfl rfl rfl rfl rfl rfl j hj
  · rw [wg_out (by omega)]
theorem uXg2 {h : Wd} {S : SG} {c : Sights} : wg (wx h S) 39 c = wx h (S.sg 2 c) := by
  funext j
  by_cases hj : j < 51
  · exact lt51 (P := fun j => wg (wx h S) 39 c j = wx h (S.sg 2 c) j) rfl rfl rfl rfl rfl rfl rfl rfl rfl rfl rfl rfl rfl rfl rfl rfl rfl rfl rfl rfl rfl rfl rfl rfl rfl rfl rfl rfl rfl rfl rfl rfl rfl rfl rfl rfl rfl rfl rfl rfl rfl rfl rfl rfl rfl rfl rfl rfl rfl rfl rfl j hj
  · rw [wg_out (by omega), wx_out (by omega), wx_out (by omega)]
theorem uXk2 {h : Wd} {S : SG} {v : Int32} : va_up (wx h S) 2 (.inr (1, (wxM 2 (S.mem 2).kept).set 3 (.int v))) = wx h (S.sk 2 v) := by
  funext j
  by_cases hj : j < 51
  · exact lt51 (P := fun j => va_up (wx h S) 2 (.inr (1, (wxM 2 (S.mem 2).kept).set 3 (.int v))) j = wx h (S.sk 2 v) j) rfl rfl rfl rfl rfl rfl rfl rfl rfl rfl rfl rfl rfl rfl rfl rfl rfl rfl rfl rfl rfl rfl rfl rfl rfl rfl rfl rfl rfl rfl rfl rfl rfl rfl rfl rfl rfl rfl rfl rfl rfl rfl rfl rfl rfl rfl rfl rfl rfl rfl rfl j hj
  · rw [va_up_ne _ _ (by omega), wx_out (by omega), wx_out (by omega)]
theorem sXc3 {h : Wd} {S : SG}  : wc (wx h S) 40 (S.mem 3).camp = wx h S := by
  funext j
  by_cases hj : j < 51
  · exact lt51 (P := fun j => wc (wx h S) 40 (S.mem 3).camp j = wx h S j) rfl rfl rfl rfl rfl rfl rfl rfl rfl rfl rfl rfl rfl rfl rfl rfl rfl rfl rfl rfl rfl rfl rfl rfl rfl rfl rfl rfl rfl rfl rfl rfl rfl rfl rfl rfl rfl rfl rfl rfl rfl rfl rfl rfl rfl rfl rfl rfl rfl rfl rfl j hj
  · rw [wc_out (by omega)]
theorem uXc3 {h : Wd} {S : SG} {c : Camp} : wc (wx h S) 40 c = wx h (S.sc 3 c) := by
  funext j
  by_cases hj : j < 51
  · exact lt51 (P := fun j => wc (wx h S) 40 c j = wx h (S.sc 3 c) j) rfl rfl rfl rfl rfl rfl rfl rfl rfl rfl rfl rfl rfl rfl rfl rfl rfl rfl rfl rfl rfl rfl rfl rfl rfl rfl rfl rfl rfl rfl rfl rfl rfl rfl rfl rfl rfl rfl rfl rfl rfl rfl rfl rfl rfl rfl rfl rfl rfl rfl rfl j hj
  · rw [wc_out (by omega), wx_out (by omega), wx_out (by omega)]
theorem sXt3 {h : Wd} {S : SG}  : wt (wx h S) 47 (S.mem 3).tales = wx h S := by
  funext j
  by_cases hj : j < 51
  · exact lt51 (P := fun j => wt (wx h S) 47 (S.mem 3).tales j = wx h S j) rfl rfl rfl rfl rfl rfl rfl rfl rfl rfl rfl rfl rfl rfl rfl rfl rfl rfl rfl rfl rfl rfl rfl rfl rfl rfl rfl rfl rfl rfl rfl rfl rfl rfl rfl rfl rfl rfl rfl rfl rfl rfl rfl rfl rfl rfl rfl rfl rfl rfl rfl j hj
  · rw [wt_out (by omega)]
theorem uXt3 {h : Wd} {S : SG} {c : Tales} : wt (wx h S) 47 c = wx h (S.st 3 c) := by
  funext j
  by_cases hj : j < 51
  · exact lt51 (P := fun j => wt (wx h S) 47 c j = wx h (S.st 3 c) j) rfl rfl rfl rfl rfl rfl rfl rfl rfl rfl rfl rfl rfl rfl rfl rfl rfl rfl rfl rfl rfl rfl rfl rfl rfl rfl rfl rfl rfl rfl rfl rfl rfl rfl rfl rfl rfl rfl rfl rfl rfl rfl rfl rfl rfl rfl rfl rfl rfl rfl rfl j hj
  · rw [wt_out (by omega), wx_out (by omega), wx_out (by omega)]
theorem sXg3 {h : Wd} {S : SG}  : wg (wx h S) 50 (S.mem 3).sights = wx h S := by
  funext j
  by_cases hj : j < 51
  · exact lt51 (P := fun j => wg (wx h S) 50 (S.mem 3).sights j = wx h S j) rfl rfl rfl rfl rfl rfl rfl rfl rfl rfl rfl rfl rfl rfl rfl rfl rfl rfl rfl rfl rfl rfl rfl rfl rfl rfl rfl rfl rfl rfl rfl rfl rfl rfl rfl rfl rfl rfl rfl rfl rfl rfl rfl rfl rfl rfl rfl rfl rfl rfl rfl j hj
  · rw [wg_out (by omega)]
theorem uXg3 {h : Wd} {S : SG} {c : Sights} : wg (wx h S) 50 c = wx h (S.sg 3 c) := by
  funext j
  by_cases hj : j < 51
  · exact lt51 (P := fun j => wg (wx h S) 50 c j = wx h (S.sg 3 c) j) rfl rfl rfl rfl rfl rfl rfl rfl rfl rfl rfl rfl rfl rfl rfl rfl rfl rfl rfl rfl rfl rfl rfl rfl rfl rfl rfl rfl rfl rfl rfl rfl rfl rfl rfl rfl rfl rfl rfl rfl rfl rfl rfl rfl rfl rfl rfl rfl rfl rfl rfl j hj
  · rw [wg_out (by omega), wx_out (by omega), wx_out (by omega)]
theorem uXk3 {h : Wd} {S : SG} {v : Int32} : va_up (wx h S) 3 (.inr (1, (wxM 3 (S.mem 3).kept).set 3 (.int v))) = wx h (S.sk 3 v) := by
  funext j
  by_cases hj : j < 51
  · exact lt51 (P := fun j => va_up (wx h S) 3 (.inr (1, (wxM 3 (S.mem 3).kept).set 3 (.int v))) j = wx h (S.sk 3 v) j) rfl rfl rfl rfl rfl rfl rfl rfl rfl rfl rfl rfl rfl rfl rfl rfl rfl rfl rfl rfl rfl rfl rfl rfl rfl rfl rfl rfl rfl rfl rfl rfl rfl rfl rfl rfl rfl rfl rfl rfl rfl rfl rfl rfl rfl rfl rfl rfl rfl rfl rfl j hj
  · rw [va_up_ne _ _ (by omega), wx_out (by omega), wx_out (by omega)]
theorem sXa {h : Wd} {S : SG}  : wc (wx h S) 11 S.ahead = wx h S := by
  funext j
  by_cases hj : j < 51
  · exact lt51 (P := fun j => wc (wx h S) 11 S.ahead j = wx h S j) rfl rfl rfl rfl rfl rfl rfl rfl rfl rfl rfl rfl rfl rfl rfl rfl rfl rfl rfl rfl rfl rfl rfl rfl rfl rfl rfl rfl rfl rfl rfl rfl rfl rfl rfl rfl rfl rfl rfl rfl rfl rfl rfl rfl rfl rfl rfl rfl rfl rfl rfl j hj
  · rw [wc_out (by omega)]
theorem uXa {h : Wd} {S : SG} {c : Camp} : wc (wx h S) 11 c = wx h (S.sa c) := by
  funext j
  by_cases hj : j < 51
  · exact lt51 (P := fun j => wc (wx h S) 11 c j = wx h (S.sa c) j) rfl rfl rfl rfl rfl rfl rfl rfl rfl rfl rfl rfl rfl rfl rfl rfl rfl rfl rfl rfl rfl rfl rfl rfl rfl rfl rfl rfl rfl rfl rfl rfl rfl rfl rfl rfl rfl rfl rfl rfl rfl rfl rfl rfl rfl rfl rfl rfl rfl rfl rfl j hj
  · rw [wc_out (by omega), wx_out (by omega), wx_out (by omega)]
theorem sXp {h : Wd} {S : SG}  : wp (wx h S) 4 S.pad = wx h S := by
  funext j
  by_cases hj : j < 51
  · exact lt51 (P := fun j => wp (wx h S) 4 S.pad j = wx h S j) rfl rfl rfl rfl rfl rfl rfl rfl rfl rfl rfl rfl rfl rfl rfl rfl rfl rfl rfl rfl rfl rfl rfl rfl rfl rfl rfl rfl rfl rfl rfl rfl rfl rfl rfl rfl rfl rfl rfl rfl rfl rfl rfl rfl rfl rfl rfl rfl rfl rfl rfl j hj
  · rw [wp_out (by omega)]
theorem uXp {h : Wd} {S : SG} {c : Pad} : wp (wx h S) 4 c = wx h (S.sp c) := by
  funext j
  by_cases hj : j < 51
  · exact lt51 (P := fun j => wp (wx h S) 4 c j = wx h (S.sp c) j) rfl rfl rfl rfl rfl rfl rfl rfl rfl rfl rfl rfl rfl rfl rfl rfl rfl rfl rfl rfl rfl rfl rfl rfl rfl rfl rfl rfl rfl rfl rfl rfl rfl rfl rfl rfl rfl rfl rfl rfl rfl rfl rfl rfl rfl rfl rfl rfl rfl rfl rfl j hj
  · rw [wp_out (by omega), wx_out (by omega), wx_out (by omega)]
theorem sXw {h : Wd} {S : SG}  : wk (wx h S) 6 S.week = wx h S := by
  funext j
  by_cases hj : j < 51
  · exact lt51 (P := fun j => wk (wx h S) 6 S.week j = wx h S j) rfl rfl rfl rfl rfl rfl rfl rfl rfl rfl rfl rfl rfl rfl rfl rfl rfl rfl rfl rfl rfl rfl rfl rfl rfl rfl rfl rfl rfl rfl rfl rfl rfl rfl rfl rfl rfl rfl rfl rfl rfl rfl rfl rfl rfl rfl rfl rfl rfl rfl rfl j hj
  · rw [wk_ne (by omega)]
theorem uXw {h : Wd} {S : SG} {c : Week} : wk (wx h S) 6 c = wx h (S.sw c) := by
  funext j
  by_cases hj : j < 51
  · exact lt51 (P := fun j => wk (wx h S) 6 c j = wx h (S.sw c) j) rfl rfl rfl rfl rfl rfl rfl rfl rfl rfl rfl rfl rfl rfl rfl rfl rfl rfl rfl rfl rfl rfl rfl rfl rfl rfl rfl rfl rfl rfl rfl rfl rfl rfl rfl rfl rfl rfl rfl rfl rfl rfl rfl rfl rfl rfl rfl rfl rfl rfl rfl j hj
  · rw [wk_ne (by omega), wx_out (by omega), wx_out (by omega)]
theorem uXd {h : Wd} {S : SG} {f : Nat → Int32} : va_up (wx h S) 7 (.inl (0, 6, .inl f)) = wx h (S.sd f) := by
  funext j
  by_cases hj : j < 51
  · exact lt51 (P := fun j => va_up (wx h S) 7 (.inl (0, 6, .inl f)) j = wx h (S.sd f) j) rfl rfl rfl rfl rfl rfl rfl rfl rfl rfl rfl rfl rfl rfl rfl rfl rfl rfl rfl rfl rfl rfl rfl rfl rfl rfl rfl rfl rfl rfl rfl rfl rfl rfl rfl rfl rfl rfl rfl rfl rfl rfl rfl rfl rfl rfl rfl rfl rfl rfl rfl j hj
  · rw [va_up_ne _ _ (by omega), wx_out (by omega), wx_out (by omega)]
theorem uXl {h : Wd} {S : SG} {f : Nat → Int32} : va_up (wx h S) 8 (.inl (0, 6, .inl f)) = wx h (S.sl f) := by
  funext j
  by_cases hj : j < 51
  · exact lt51 (P := fun j => va_up (wx h S) 8 (.inl (0, 6, .inl f)) j = wx h (S.sl f) j) rfl rfl rfl rfl rfl rfl rfl rfl rfl rfl rfl rfl rfl rfl rfl rfl rfl rfl rfl rfl rfl rfl rfl rfl rfl rfl rfl rfl rfl rfl rfl rfl rfl rfl rfl rfl rfl rfl rfl rfl rfl rfl rfl rfl rfl rfl rfl rfl rfl rfl rfl j hj
  · rw [va_up_ne _ _ (by omega), wx_out (by omega), wx_out (by omega)]
theorem uX1 {h : Wd} {S : SG} {f : Nat → Int32} : va_up (wx h S) 9 (.inl (0, 6, .inl f)) = wx h (S.s1 f) := by
  funext j
  by_cases hj : j < 51
  · exact lt51 (P := fun j => va_up (wx h S) 9 (.inl (0, 6, .inl f)) j = wx h (S.s1 f) j) rfl rfl rfl rfl rfl rfl rfl rfl rfl rfl rfl rfl rfl rfl rfl rfl rfl rfl rfl rfl rfl rfl rfl rfl rfl rfl rfl rfl rfl rfl rfl rfl rfl rfl rfl rfl rfl rfl rfl rfl rfl rfl rfl rfl rfl rfl rfl rfl rfl rfl rfl j hj
  · rw [va_up_ne _ _ (by omega), wx_out (by omega), wx_out (by omega)]
theorem uX2 {h : Wd} {S : SG} {f : Nat → Int32} : va_up (wx h S) 10 (.inl (0, 6, .inl f)) = wx h (S.s2 f) := by
  funext j
  by_cases hj : j < 51
  · exact lt51 (P := fun j => va_up (wx h S) 10 (.inl (0, 6, .inl f)) j = wx h (S.s2 f) j) rfl rfl rfl rfl rfl rfl rfl rfl rfl rfl rfl rfl rfl rfl rfl rfl rfl rfl rfl rfl rfl rfl rfl rfl rfl rfl rfl rfl rfl rfl rfl rfl rfl rfl rfl rfl rfl rfl rfl rfl rfl rfl rfl rfl rfl rfl rfl rfl rfl rfl rfl j hj
  · rw [va_up_ne _ _ (by omega), wx_out (by omega), wx_out (by omega)]
theorem r_f_X6_now {q : MI} {pc : Nat} {L st : List Value} {h h' : Wd} {r : Option Value} {S : SG} {idx : Nat} (hl : Cond.fieldLink (my q).cls idx "SnoresGold" "now" "LSnoresGold$Memory;" ∈ gt) (hd : decode (mb q) pc = .ok (.getfield idx, 3)) (kk : WW q (pc + 3) L (.ref 1 :: st) (wx h S) r h') : WW q pc L (.ref 0 :: st) (wx h S) r h' := r_get (k := 0) (fs := wxO) hd (ci := 6) rfl la_X6 hl (by decide) (by decide) rfl rfl kk
theorem r_f_X6_imageZero {q : MI} {pc : Nat} {L st : List Value} {h h' : Wd} {r : Option Value} {S : SG} {idx : Nat} (hl : Cond.fieldLink (my q).cls idx "SnoresGold" "imageZero" "LSnoresGold$Memory;" ∈ gt) (hd : decode (mb q) pc = .ok (.getfield idx, 3)) (kk : WW q (pc + 3) L (.ref 2 :: st) (wx h S) r h') : WW q pc L (.ref 0 :: st) (wx h S) r h' := r_get (k := 1) (fs := wxO) hd (ci := 6) rfl la_X6 hl (by decide) (by decide) rfl rfl kk
theorem r_f_X6_imageOne {q : MI} {pc : Nat} {L st : List Value} {h h' : Wd} {r : Option Value} {S : SG} {idx : Nat} (hl : Cond.fieldLink (my q).cls idx "SnoresGold" "imageOne" "LSnoresGold$Memory;" ∈ gt) (hd : decode (mb q) pc = .ok (.getfield idx, 3)) (kk : WW q (pc + 3) L (.ref 3 :: st) (wx h S) r h') : WW q pc L (.ref 0 :: st) (wx h S) r h' := r_get (k := 2) (fs := wxO) hd (ci := 6) rfl la_X6 hl (by decide) (by decide) rfl rfl kk
theorem r_f_X6_pad {q : MI} {pc : Nat} {L st : List Value} {h h' : Wd} {r : Option Value} {S : SG} {idx : Nat} (hl : Cond.fieldLink (my q).cls idx "SnoresGold" "pad" "LSnoresGold$Pad;" ∈ gt) (hd : decode (mb q) pc = .ok (.getfield idx, 3)) (kk : WW q (pc + 3) L (.ref 4 :: st) (wx h S) r h') : WW q pc L (.ref 0 :: st) (wx h S) r h' := r_get (k := 3) (fs := wxO) hd (ci := 6) rfl la_X6 hl (by decide) (by decide) rfl rfl kk
theorem r_f_X6_week {q : MI} {pc : Nat} {L st : List Value} {h h' : Wd} {r : Option Value} {S : SG} {idx : Nat} (hl : Cond.fieldLink (my q).cls idx "SnoresGold" "week" "LSnoresGold$Week;" ∈ gt) (hd : decode (mb q) pc = .ok (.getfield idx, 3)) (kk : WW q (pc + 3) L (.ref 6 :: st) (wx h S) r h') : WW q pc L (.ref 0 :: st) (wx h S) r h' := r_get (k := 4) (fs := wxO) hd (ci := 6) rfl la_X6 hl (by decide) (by decide) rfl rfl kk
theorem r_f_X6_ahead {q : MI} {pc : Nat} {L st : List Value} {h h' : Wd} {r : Option Value} {S : SG} {idx : Nat} (hl : Cond.fieldLink (my q).cls idx "SnoresGold" "ahead" "LSnoresGold$Camp;" ∈ gt) (hd : decode (mb q) pc = .ok (.getfield idx, 3)) (kk : WW q (pc + 3) L (.ref 11 :: st) (wx h S) r h') : WW q pc L (.ref 0 :: st) (wx h S) r h' := r_get (k := 5) (fs := wxO) hd (ci := 6) rfl la_X6 hl (by decide) (by decide) rfl rfl kk
theorem r_f_X6_digits {q : MI} {pc : Nat} {L st : List Value} {h h' : Wd} {r : Option Value} {S : SG} {idx : Nat} (hl : Cond.fieldLink (my q).cls idx "SnoresGold" "digits" "[I" ∈ gt) (hd : decode (mb q) pc = .ok (.getfield idx, 3)) (kk : WW q (pc + 3) L (.ref 7 :: st) (wx h S) r h') : WW q pc L (.ref 0 :: st) (wx h S) r h' := r_get (k := 6) (fs := wxO) hd (ci := 6) rfl la_X6 hl (by decide) (by decide) rfl rfl kk
theorem r_f_X6_leads {q : MI} {pc : Nat} {L st : List Value} {h h' : Wd} {r : Option Value} {S : SG} {idx : Nat} (hl : Cond.fieldLink (my q).cls idx "SnoresGold" "leads" "[I" ∈ gt) (hd : decode (mb q) pc = .ok (.getfield idx, 3)) (kk : WW q (pc + 3) L (.ref 8 :: st) (wx h S) r h') : WW q pc L (.ref 0 :: st) (wx h S) r h' := r_get (k := 7) (fs := wxO) hd (ci := 6) rfl la_X6 hl (by decide) (by decide) rfl rfl kk
theorem r_f_X6_heardCalm {q : MI} {pc : Nat} {L st : List Value} {h h' : Wd} {r : Option Value} {S : SG} {idx : Nat} (hl : Cond.fieldLink (my q).cls idx "SnoresGold" "heardCalm" "[I" ∈ gt) (hd : decode (mb q) pc = .ok (.getfield idx, 3)) (kk : WW q (pc + 3) L (.ref 9 :: st) (wx h S) r h') : WW q pc L (.ref 0 :: st) (wx h S) r h' := r_get (k := 8) (fs := wxO) hd (ci := 6) rfl la_X6 hl (by decide) (by decide) rfl rfl kk
theorem r_f_X6_heardCold {q : MI} {pc : Nat} {L st : List Value} {h h' : Wd} {r : Option Value} {S : SG} {idx : Nat} (hl : Cond.fieldLink (my q).cls idx "SnoresGold" "heardCold" "[I" ∈ gt) (hd : decode (mb q) pc = .ok (.getfield idx, 3)) (kk : WW q (pc + 3) L (.ref 10 :: st) (wx h S) r h') : WW q pc L (.ref 0 :: st) (wx h S) r h' := r_get (k := 9) (fs := wxO) hd (ci := 6) rfl la_X6 hl (by decide) (by decide) rfl rfl kk
theorem r_g_X1_camp {q : MI} {pc : Nat} {L st : List Value} {h h' : Wd} {r : Option Value} {S : SG} {idx : Nat} {host : String} (hl : ((my q).cls, idx, "SnoresGold$Memory", "camp", "LSnoresGold$Camp;", host) ∈ nestF) (hd : decode (mb q) pc = .ok (.getfield idx, 3)) (kk : WW q (pc + 3) L (.ref 18 :: st) (wx h S) r h') : WW q pc L (.ref 1 :: st) (wx h S) r h' := r_getN (k := 0) (fs := wxM 1 (S.mem 1).kept) hd (ci := 1) rfl la_X1 hl (by decide) (by decide) rfl rfl kk
theorem r_f_X1_camp {q : MI} {pc : Nat} {L st : List Value} {h h' : Wd} {r : Option Value} {S : SG} {idx p : Nat} (hp : p = 1 ∨ p = 2 ∨ p = 3) (hl : Cond.fieldLink (my q).cls idx "SnoresGold$Memory" "camp" "LSnoresGold$Camp;" ∈ gt) (hd : decode (mb q) pc = .ok (.getfield idx, 3)) (kk : WW q (pc + 3) L (.ref (7 + 11 * p) :: st) (wx h S) r h') : WW q pc L (.ref p :: st) (wx h S) r h' := by
  refine r_get (k := 0) (fs := wxM p (S.mem p).kept) hd (ci := 1) rfl la_X1 hl (by decide) (by omega) ?_ rfl kk
  rcases hp with rfl | rfl | rfl <;> rfl
theorem r_g_X1_tales {q : MI} {pc : Nat} {L st : List Value} {h h' : Wd} {r : Option Value} {S : SG} {idx : Nat} {host : String} (hl : ((my q).cls, idx, "SnoresGold$Memory", "tales", "LSnoresGold$Tales;", host) ∈ nestF) (hd : decode (mb q) pc = .ok (.getfield idx, 3)) (kk : WW q (pc + 3) L (.ref 25 :: st) (wx h S) r h') : WW q pc L (.ref 1 :: st) (wx h S) r h' := r_getN (k := 1) (fs := wxM 1 (S.mem 1).kept) hd (ci := 1) rfl la_X1 hl (by decide) (by decide) rfl rfl kk
theorem r_f_X1_tales {q : MI} {pc : Nat} {L st : List Value} {h h' : Wd} {r : Option Value} {S : SG} {idx p : Nat} (hp : p = 1 ∨ p = 2 ∨ p = 3) (hl : Cond.fieldLink (my q).cls idx "SnoresGold$Memory" "tales" "LSnoresGold$Tales;" ∈ gt) (hd : decode (mb q) pc = .ok (.getfield idx, 3)) (kk : WW q (pc + 3) L (.ref (14 + 11 * p) :: st) (wx h S) r h') : WW q pc L (.ref p :: st) (wx h S) r h' := by
  refine r_get (k := 1) (fs := wxM p (S.mem p).kept) hd (ci := 1) rfl la_X1 hl (by decide) (by omega) ?_ rfl kk
  rcases hp with rfl | rfl | rfl <;> rfl
theorem r_g_X1_sights {q : MI} {pc : Nat} {L st : List Value} {h h' : Wd} {r : Option Value} {S : SG} {idx : Nat} {host : String} (hl : ((my q).cls, idx, "SnoresGold$Memory", "sights", "LSnoresGold$Sights;", host) ∈ nestF) (hd : decode (mb q) pc = .ok (.getfield idx, 3)) (kk : WW q (pc + 3) L (.ref 28 :: st) (wx h S) r h') : WW q pc L (.ref 1 :: st) (wx h S) r h' := r_getN (k := 2) (fs := wxM 1 (S.mem 1).kept) hd (ci := 1) rfl la_X1 hl (by decide) (by decide) rfl rfl kk
theorem r_f_X1_sights {q : MI} {pc : Nat} {L st : List Value} {h h' : Wd} {r : Option Value} {S : SG} {idx p : Nat} (hp : p = 1 ∨ p = 2 ∨ p = 3) (hl : Cond.fieldLink (my q).cls idx "SnoresGold$Memory" "sights" "LSnoresGold$Sights;" ∈ gt) (hd : decode (mb q) pc = .ok (.getfield idx, 3)) (kk : WW q (pc + 3) L (.ref (17 + 11 * p) :: st) (wx h S) r h') : WW q pc L (.ref p :: st) (wx h S) r h' := by
  refine r_get (k := 2) (fs := wxM p (S.mem p).kept) hd (ci := 1) rfl la_X1 hl (by decide) (by omega) ?_ rfl kk
  rcases hp with rfl | rfl | rfl <;> rfl
theorem r_get_X1_kept {q : MI} {pc : Nat} {L st : List Value} {h h' : Wd} {r : Option Value} {S : SG} {idx p : Nat} (hp : p = 1 ∨ p = 2 ∨ p = 3) (hl : Cond.fieldLink (my q).cls idx "SnoresGold$Memory" "kept" "Z" ∈ gt) (hd : decode (mb q) pc = .ok (.getfield idx, 3)) (kk : WW q (pc + 3) L (.int (S.mem p).kept :: st) (wx h S) r h') : WW q pc L (.ref p :: st) (wx h S) r h' := by
  refine r_get (k := 3) (fs := wxM p (S.mem p).kept) hd (ci := 1) rfl la_X1 hl (by decide) (by omega) ?_ rfl kk
  rcases hp with rfl | rfl | rfl <;> rfl
theorem r_put_X1_kept {q : MI} {pc : Nat} {L st : List Value} {h h' : Wd} {r : Option Value} {S : SG} {idx p : Nat} {v : Int32} (hp : p = 1 ∨ p = 2 ∨ p = 3) (hl : Cond.fieldLink (my q).cls idx "SnoresGold$Memory" "kept" "Z" ∈ gt) (hd : decode (mb q) pc = .ok (.putfield idx, 3)) (hz : narrow .boolean (.int v) = .int v) (hz2 : fits .boolean (.int v) = true) (kk : WW q (pc + 3) L st (wx h (S.sk p v)) r h') : WW q pc L (.int v :: .ref p :: st) (wx h S) r h' := by
  refine r_put (k := 3) (ty := .boolean) (fs := wxM p (S.mem p).kept) hd (ci := 1) rfl la_X1 tyX1_ok nmX1 hl (by decide) rfl (by decide +kernel) hz hz2 (by omega) ?_ (show 3 < 4 by decide) ?_
  · rcases hp with rfl | rfl | rfl <;> rfl
  · rcases hp with rfl | rfl | rfl
    · rw [uXk1]; exact kk
    · rw [uXk2]; exact kk
    · rw [uXk3]; exact kk
theorem r_w6_ld_digits {q : MI} {pc : Nat} {L st : List Value} {h h' : Wd} {r : Option Value} {S : SG} {j : Nat} (hj : j < 6) (hd : decode (mb q) pc = .ok (.iaload, 1)) (kk : WW q (pc + 1) L (.int (S.dig j) :: st) (wx h S) r h') : WW q pc L (.int (nI j) :: .ref 7 :: st) (wx h S) r h' := r_iald (n := 6) (f := S.dig) hd (by decide) rfl (vi hj (by decide)) (by rw [ci hj (by decide)]; exact kk)
theorem r_w6_st_digits {q : MI} {pc : Nat} {L st : List Value} {h h' : Wd} {r : Option Value} {S : SG} {j : Nat} {x : Int32} (hj : j < 6) (hd : decode (mb q) pc = .ok (.iastore, 1)) (kk : WW q (pc + 1) L st (wx h (S.sd (upd S.dig j x))) r h') : WW q pc L (.int x :: .int (nI j) :: .ref 7 :: st) (wx h S) r h' := r_iast (n := 6) (f := S.dig) hd (by decide) rfl (vi hj (by decide)) (by rw [ci hj (by decide), uXd]; exact kk)
theorem r_w6_len_digits {q : MI} {pc : Nat} {L st : List Value} {h h' : Wd} {r : Option Value} {S : SG} (hd : decode (mb q) pc = .ok (.arraylength, 1)) (kk : WW q (pc + 1) L (.int 6 :: st) (wx h S) r h') : WW q pc L (.ref 7 :: st) (wx h S) r h' := r_ialen (n := 6) (f := S.dig) hd (by decide) rfl kk
theorem r_w6_ld_leads {q : MI} {pc : Nat} {L st : List Value} {h h' : Wd} {r : Option Value} {S : SG} {j : Nat} (hj : j < 6) (hd : decode (mb q) pc = .ok (.iaload, 1)) (kk : WW q (pc + 1) L (.int (S.lead j) :: st) (wx h S) r h') : WW q pc L (.int (nI j) :: .ref 8 :: st) (wx h S) r h' := r_iald (n := 6) (f := S.lead) hd (by decide) rfl (vi hj (by decide)) (by rw [ci hj (by decide)]; exact kk)
theorem r_w6_st_leads {q : MI} {pc : Nat} {L st : List Value} {h h' : Wd} {r : Option Value} {S : SG} {j : Nat} {x : Int32} (hj : j < 6) (hd : decode (mb q) pc = .ok (.iastore, 1)) (kk : WW q (pc + 1) L st (wx h (S.sl (upd S.lead j x))) r h') : WW q pc L (.int x :: .int (nI j) :: .ref 8 :: st) (wx h S) r h' := r_iast (n := 6) (f := S.lead) hd (by decide) rfl (vi hj (by decide)) (by rw [ci hj (by decide), uXl]; exact kk)
theorem r_w6_len_leads {q : MI} {pc : Nat} {L st : List Value} {h h' : Wd} {r : Option Value} {S : SG} (hd : decode (mb q) pc = .ok (.arraylength, 1)) (kk : WW q (pc + 1) L (.int 6 :: st) (wx h S) r h') : WW q pc L (.ref 8 :: st) (wx h S) r h' := r_ialen (n := 6) (f := S.lead) hd (by decide) rfl kk
theorem r_w6_ld_heardCalm {q : MI} {pc : Nat} {L st : List Value} {h h' : Wd} {r : Option Value} {S : SG} {j : Nat} (hj : j < 6) (hd : decode (mb q) pc = .ok (.iaload, 1)) (kk : WW q (pc + 1) L (.int (S.calm j) :: st) (wx h S) r h') : WW q pc L (.int (nI j) :: .ref 9 :: st) (wx h S) r h' := r_iald (n := 6) (f := S.calm) hd (by decide) rfl (vi hj (by decide)) (by rw [ci hj (by decide)]; exact kk)
theorem r_w6_st_heardCalm {q : MI} {pc : Nat} {L st : List Value} {h h' : Wd} {r : Option Value} {S : SG} {j : Nat} {x : Int32} (hj : j < 6) (hd : decode (mb q) pc = .ok (.iastore, 1)) (kk : WW q (pc + 1) L st (wx h (S.s1 (upd S.calm j x))) r h') : WW q pc L (.int x :: .int (nI j) :: .ref 9 :: st) (wx h S) r h' := r_iast (n := 6) (f := S.calm) hd (by decide) rfl (vi hj (by decide)) (by rw [ci hj (by decide), uX1]; exact kk)
theorem r_w6_len_heardCalm {q : MI} {pc : Nat} {L st : List Value} {h h' : Wd} {r : Option Value} {S : SG} (hd : decode (mb q) pc = .ok (.arraylength, 1)) (kk : WW q (pc + 1) L (.int 6 :: st) (wx h S) r h') : WW q pc L (.ref 9 :: st) (wx h S) r h' := r_ialen (n := 6) (f := S.calm) hd (by decide) rfl kk
theorem r_w6_ld_heardCold {q : MI} {pc : Nat} {L st : List Value} {h h' : Wd} {r : Option Value} {S : SG} {j : Nat} (hj : j < 6) (hd : decode (mb q) pc = .ok (.iaload, 1)) (kk : WW q (pc + 1) L (.int (S.cold j) :: st) (wx h S) r h') : WW q pc L (.int (nI j) :: .ref 10 :: st) (wx h S) r h' := r_iald (n := 6) (f := S.cold) hd (by decide) rfl (vi hj (by decide)) (by rw [ci hj (by decide)]; exact kk)
theorem r_w6_st_heardCold {q : MI} {pc : Nat} {L st : List Value} {h h' : Wd} {r : Option Value} {S : SG} {j : Nat} {x : Int32} (hj : j < 6) (hd : decode (mb q) pc = .ok (.iastore, 1)) (kk : WW q (pc + 1) L st (wx h (S.s2 (upd S.cold j x))) r h') : WW q pc L (.int x :: .int (nI j) :: .ref 10 :: st) (wx h S) r h' := r_iast (n := 6) (f := S.cold) hd (by decide) rfl (vi hj (by decide)) (by rw [ci hj (by decide), uX2]; exact kk)
theorem r_w6_len_heardCold {q : MI} {pc : Nat} {L st : List Value} {h h' : Wd} {r : Option Value} {S : SG} (hd : decode (mb q) pc = .ok (.arraylength, 1)) (kk : WW q (pc + 1) L (.int 6 :: st) (wx h S) r h') : WW q pc L (.ref 10 :: st) (wx h S) r h' := r_ialen (n := 6) (f := S.cold) hd (by decide) rfl kk
