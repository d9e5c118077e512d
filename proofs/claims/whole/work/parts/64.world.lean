/-! THE WORLD at the start: both objects made -/
set_option maxRecDepth 100000 in
theorem flat6 (ck : Nat → ClassId) (h0 : Nat) (a : Nat → Nat) : wsX6 ck h0 a = [(h0, .inr (6, [.ref (a 0), .ref (a 12), .ref (a 24), .ref (a 36), .ref (a 38), .ref (a 39), .ref (a 46), .ref (a 47), .ref (a 48), .ref (a 49)])), (a 0, .inr (1, [.ref (a 1), .ref (a 8), .ref (a 11), .int 0])), (a 1, .inr (0, [.ref (a 2), .ref (a 3), .ref (a 4), .ref (a 5), .ref (a 6), .ref (a 7), .int 0, .int 0, .int 0, .int 0])), (a 2, .inl (ck 0, 64, .inl (fun _ => 0))), (a 3, .inl (ck 0, 64, .inl (cpy (fun _ => -1) (fun _ => 0) 64))), (a 4, .inl (ck 0, 6, .inl (fun _ => 0))), (a 5, .inl (ck 0, 6, .inl (fun _ => 0))), (a 6, .inl (ck 1, 6, .inr (.inl (fun _ => 0)))), (a 7, .inl (ck 0, 6, .inl (fun _ => 0))), (a 8, .inr (4, [.ref (a 9), .ref (a 10), .int 0, .int 0])), (a 9, .inl (ck 0, 8, .inl (fun _ => 0))), (a 10, .inl (ck 0, 8, .inl (fun _ => 0))), (a 11, .inr (3, [.long 70368744177663, .int 0])), (a 12, .inr (1, [.ref (a 13), .ref (a 20), .ref (a 23), .int 0])), (a 13, .inr (0, [.ref (a 14), .ref (a 15), .ref (a 16), .ref (a 17), .ref (a 18), .ref (a 19), .int 0, .int 0, .int 0, .int 0])), (a 14, .inl (ck 0, 64, .inl (fun _ => 0))), (a 15, .inl (ck 0, 64, .inl (cpy (fun _ => -1) (fun _ => 0) 64))), (a 16, .inl (ck 0, 6, .inl (fun _ => 0))), (a 17, .inl (ck 0, 6, .inl (fun _ => 0))), (a 18, .inl (ck 1, 6, .inr (.inl (fun _ => 0)))), (a 19, .inl (ck 0, 6, .inl (fun _ => 0))), (a 20, .inr (4, [.ref (a 21), .ref (a 22), .int 0, .int 0])), (a 21, .inl (ck 0, 8, .inl (fun _ => 0))), (a 22, .inl (ck 0, 8, .inl (fun _ => 0))), (a 23, .inr (3, [.long 70368744177663, .int 0])), (a 24, .inr (1, [.ref (a 25), .ref (a 32), .ref (a 35), .int 0])), (a 25, .inr (0, [.ref (a 26), .ref (a 27), .ref (a 28), .ref (a 29), .ref (a 30), .ref (a 31), .int 0, .int 0, .int 0, .int 0])), (a 26, .inl (ck 0, 64, .inl (fun _ => 0))), (a 27, .inl (ck 0, 64, .inl (cpy (fun _ => -1) (fun _ => 0) 64))), (a 28, .inl (ck 0, 6, .inl (fun _ => 0))), (a 29, .inl (ck 0, 6, .inl (fun _ => 0))), (a 30, .inl (ck 1, 6, .inr (.inl (fun _ => 0)))), (a 31, .inl (ck 0, 6, .inl (fun _ => 0))), (a 32, .inr (4, [.ref (a 33), .ref (a 34), .int 0, .int 0])), (a 33, .inl (ck 0, 8, .inl (fun _ => 0))), (a 34, .inl (ck 0, 8, .inl (fun _ => 0))), (a 35, .inr (3, [.long 70368744177663, .int 0])), (a 36, .inr (2, [.ref (a 37), .int 0])), (a 37, .inl (ck 0, 60, .inl (fun _ => 0))), (a 38, .inr (5, [.int 0, .int 0, .int 0, .int 0, .int 0])), (a 39, .inr (0, [.ref (a 40), .ref (a 41), .ref (a 42), .ref (a 43), .ref (a 44), .ref (a 45), .int 0, .int 0, .int 0, .int 0])), (a 40, .inl (ck 0, 64, .inl (fun _ => 0))), (a 41, .inl (ck 0, 64, .inl (cpy (fun _ => -1) (fun _ => 0) 64))), (a 42, .inl (ck 0, 6, .inl (fun _ => 0))), (a 43, .inl (ck 0, 6, .inl (fun _ => 0))), (a 44, .inl (ck 1, 6, .inr (.inl (fun _ => 0)))), (a 45, .inl (ck 0, 6, .inl (fun _ => 0))), (a 46, .inl (ck 0, 6, .inl (fun _ => 0))), (a 47, .inl (ck 0, 6, .inl (fun _ => 0))), (a 48, .inl (ck 0, 6, .inl (fun _ => 0))), (a 49, .inl (ck 0, 6, .inl (fun _ => 0)))] := by
  simp only [wsX6, wsX1, wsX2, wsX5, wsX0, wsX4, wsX3, List.nil_append, List.cons_append, Nat.reduceAdd]
def L76 (ck : Nat → ClassId) (h0 : Nat) (a : Nat → Nat) (h1 : Nat) (b : Nat → Nat) : va_W := [(h0, .inr (6, [.ref (a 0), .ref (a 12), .ref (a 24), .ref (a 36), .ref (a 38), .ref (a 39), .ref (a 46), .ref (a 47), .ref (a 48), .ref (a 49)])), (a 0, .inr (1, [.ref (a 1), .ref (a 8), .ref (a 11), .int 0])), (a 1, .inr (0, [.ref (a 2), .ref (a 3), .ref (a 4), .ref (a 5), .ref (a 6), .ref (a 7), .int 0, .int 0, .int 0, .int 0])), (a 2, .inl (ck 0, 64, .inl (fun _ => 0))), (a 3, .inl (ck 0, 64, .inl (cpy (fun _ => -1) (fun _ => 0) 64))), (a 4, .inl (ck 0, 6, .inl (fun _ => 0))), (a 5, .inl (ck 0, 6, .inl (fun _ => 0))), (a 6, .inl (ck 1, 6, .inr (.inl (fun _ => 0)))), (a 7, .inl (ck 0, 6, .inl (fun _ => 0))), (a 8, .inr (4, [.ref (a 9), .ref (a 10), .int 0, .int 0])), (a 9, .inl (ck 0, 8, .inl (fun _ => 0))), (a 10, .inl (ck 0, 8, .inl (fun _ => 0))), (a 11, .inr (3, [.long 70368744177663, .int 0])), (a 12, .inr (1, [.ref (a 13), .ref (a 20), .ref (a 23), .int 0])), (a 13, .inr (0, [.ref (a 14), .ref (a 15), .ref (a 16), .ref (a 17), .ref (a 18), .ref (a 19), .int 0, .int 0, .int 0, .int 0])), (a 14, .inl (ck 0, 64, .inl (fun _ => 0))), (a 15, .inl (ck 0, 64, .inl (cpy (fun _ => -1) (fun _ => 0) 64))), (a 16, .inl (ck 0, 6, .inl (fun _ => 0))), (a 17, .inl (ck 0, 6, .inl (fun _ => 0))), (a 18, .inl (ck 1, 6, .inr (.inl (fun _ => 0)))), (a 19, .inl (ck 0, 6, .inl (fun _ => 0))), (a 20, .inr (4, [.ref (a 21), .ref (a 22), .int 0, .int 0])), (a 21, .inl (ck 0, 8, .inl (fun _ => 0))), (a 22, .inl (ck 0, 8, .inl (fun _ => 0))), (a 23, .inr (3, [.long 70368744177663, .int 0])), (a 24, .inr (1, [.ref (a 25), .ref (a 32), .ref (a 35), .int 0])), (a 25, .inr (0, [.ref (a 26), .ref (a 27), .ref (a 28), .ref (a 29), .ref (a 30), .ref (a 31), .int 0, .int 0, .int 0, .int 0])), (a 26, .inl (ck 0, 64, .inl (fun _ => 0))), (a 27, .inl (ck 0, 64, .inl (cpy (fun _ => -1) (fun _ => 0) 64))), (a 28, .inl (ck 0, 6, .inl (fun _ => 0))), (a 29, .inl (ck 0, 6, .inl (fun _ => 0))), (a 30, .inl (ck 1, 6, .inr (.inl (fun _ => 0)))), (a 31, .inl (ck 0, 6, .inl (fun _ => 0))), (a 32, .inr (4, [.ref (a 33), .ref (a 34), .int 0, .int 0])), (a 33, .inl (ck 0, 8, .inl (fun _ => 0))), (a 34, .inl (ck 0, 8, .inl (fun _ => 0))), (a 35, .inr (3, [.long 70368744177663, .int 0])), (a 36, .inr (2, [.ref (a 37), .int 0])), (a 37, .inl (ck 0, 60, .inl (fun _ => 0))), (a 38, .inr (5, [.int 0, .int 0, .int 0, .int 0, .int 0])), (a 39, .inr (0, [.ref (a 40), .ref (a 41), .ref (a 42), .ref (a 43), .ref (a 44), .ref (a 45), .int 0, .int 0, .int 0, .int 0])), (a 40, .inl (ck 0, 64, .inl (fun _ => 0))), (a 41, .inl (ck 0, 64, .inl (cpy (fun _ => -1) (fun _ => 0) 64))), (a 42, .inl (ck 0, 6, .inl (fun _ => 0))), (a 43, .inl (ck 0, 6, .inl (fun _ => 0))), (a 44, .inl (ck 1, 6, .inr (.inl (fun _ => 0)))), (a 45, .inl (ck 0, 6, .inl (fun _ => 0))), (a 46, .inl (ck 0, 6, .inl (fun _ => 0))), (a 47, .inl (ck 0, 6, .inl (fun _ => 0))), (a 48, .inl (ck 0, 6, .inl (fun _ => 0))), (a 49, .inl (ck 0, 6, .inl (fun _ => 0))), (h1, .inr (7, [.ref (b 0), .ref (b 1), .int 0, .ref (b 2), .ref (b 3), .ref (b 4), .ref (b 5), .ref (b 6), .ref (b 7), .ref (b 8), .ref (b 9), .int 0, .ref (b 10), .ref (b 11), .int 0, .ref (b 12), .int 0, .ref (b 13), .ref (b 14), .ref (b 15), .int 0, .int 0, .int 0, .int 0, .int 0, .ref (b 16), .ref (b 17), .int 0, .int 0, .ref (b 18), .ref (b 19), .ref (b 20), .ref (b 21), .ref (b 22), .ref (b 23), .int 0, .int 0])), (b 0, .inl (ck 0, 64, .inl (fun _ => 0))), (b 1, .inl (ck 0, 64, .inl (cpy (fun _ => -6) (fun _ => 0) 64))), (b 2, .inl (ck 0, 6, .inl (fun _ => 0))), (b 3, .inl (ck 1, 6, .inr (.inl (fun _ => 0)))), (b 4, .inl (ck 0, 6, .inl (fun _ => 0))), (b 5, .inl (ck 0, 6, .inl (fun _ => 0))), (b 6, .inl (ck 0, 6, .inl (fun _ => 0))), (b 7, .inl (ck 0, 8, .inl (fun _ => 0))), (b 8, .inl (ck 0, 8, .inl (fun _ => 0))), (b 9, .inl (ck 0, 8, .inl (fun _ => 0))), (b 10, .inl (ck 0, 8, .inl (fun _ => 0))), (b 11, .inl (ck 0, 8, .inl (fun _ => 0))), (b 12, .inl (ck 0, 60, .inl (fun _ => 0))), (b 13, .inl (ck 0, 60, .inl (fun _ => 0))), (b 14, .inl (ck 0, 60, .inl (fun _ => 0))), (b 15, .inl (ck 0, 60, .inl (fun _ => 0))), (b 16, .inl (ck 0, 88, .inl (fun _ => 0))), (b 17, .inl (ck 1, 6, .inr (.inl (fun _ => 0)))), (b 18, .inl (ck 0, 6, .inl (fun _ => 0))), (b 19, .inl (ck 0, 6, .inl (fun _ => 0))), (b 20, .inl (ck 0, 49, .inl (fun _ => 0))), (b 21, .inl (ck 0, 460, .inl (fun _ => 0))), (b 22, .inl (ck 1, 12, .inr (.inl (fun _ => 0)))), (b 23, .inl (ck 2, 2, .inl (fun _ => 0)))]
set_option maxRecDepth 100000 in
theorem flat76 (ck : Nat → ClassId) (h0 : Nat) (a : Nat → Nat) (h1 : Nat) (b : Nat → Nat) : [] ++ wsX6 ck h0 a ++ wsX7 ck h1 b = L76 ck h0 a h1 b := by
  rw [flat6, L76, wsX7]
  simp only [List.nil_append, List.cons_append]
def ixP (k : Nat) : Nat := ([0, 1, 13, 25, 37, 38, 39, 47, 48, 49, 50, 40, 41, 42, 43, 44, 45, 46, 2, 3, 4, 5, 6, 7, 8, 9, 10, 11, 12, 14, 15, 16, 17, 18, 19, 20, 21, 22, 23, 24, 26, 27, 28, 29, 30, 31, 32, 33, 34, 35, 36, 51, 52, 53, 54, 55, 56, 57, 58, 59, 60, 61, 62, 63, 64, 65, 66, 67, 68, 69, 70, 71, 72, 73, 74, 75] : List Nat).getD k 0
theorem ixP_inj : ∀ i, i < 76 → ∀ j, j < 76 → ixP i = ixP j → i = j := by decide +kernel
def adP (h0 : Nat) (a : Nat → Nat) (h1 : Nat) (b : Nat → Nat) (z k : Nat) : Nat := ([h0, a 0, a 12, a 24, a 36, a 37, a 38, a 46, a 47, a 48, a 49, a 39, a 40, a 41, a 42, a 43, a 44, a 45, a 1, a 2, a 3, a 4, a 5, a 6, a 7, a 8, a 9, a 10, a 11, a 13, a 14, a 15, a 16, a 17, a 18, a 19, a 20, a 21, a 22, a 23, a 25, a 26, a 27, a 28, a 29, a 30, a 31, a 32, a 33, a 34, a 35, h1, b 0, b 1, b 2, b 3, b 4, b 5, b 6, b 7, b 8, b 9, b 10, b 11, b 12, b 13, b 14, b 15, b 16, b 17, b 18, b 19, b 20, b 21, b 22, b 23] : List Nat).getD k z
def camp0 : Camp := (fun _ => 0, cpy (fun _ => -1) (fun _ => 0) 64, fun _ => 0, fun _ => 0, fun _ => 0, fun _ => 0, 0, 0, 0, 0)
def mem0 : Mem := (camp0, (fun _ => 0, fun _ => 0, 0, 0), (70368744177663, 0), 0)
def S0 : SG := (fun _ => mem0, (fun _ => 0, 0), (0, 0, 0, 0, 0), camp0, fun _ => 0, fun _ => 0, fun _ => 0, fun _ => 0)
def M0 : Mod := (fun i => if i = 1 then cpy (fun _ => -6) (fun _ => 0) 64 else fun _ => 0, fun _ _ => 0, fun _ => 0)
theorem own0 : wm_owner M0 = cpy (fun _ => -6) (fun _ => 0) 64 := rfl
theorem ry0 {M : Mod} (h1 : ∀ j, wm_ore M j = 0) (h2 : ∀ j, j < 64 → wm_owner M j = -6) (h3 : wm_men M = 0) (h4 : wm_tales M = 0) (h5 : wm_sights M = 0) (h6 : ∀ j, wm_tent M j = 0) (h7 : ∀ j, wm_cold M j = 0) (h8 : ∀ j, wm_whistles M j = 0) : RY mem0 M := by
  have b : ∀ m, bt (wm_men M) m = false := fun m => by rw [h3]; exact b_0 m
  refine ⟨⟨fun j _ => (h1 j).symm, fun j hj => Or.inl ⟨show cpy (fun _ => (-1 : Int32)) (fun _ => 0) 64 j = -1 from cpy_lt hj, h2 j hj⟩, h3.symm, ⟨0, by decide, h3⟩, fun m _ hb => ?_, fun _ _ _ => rfl, fun _ _ => ⟨0, by decide, rfl⟩, fun m _ => ⟨0, by decide, h6 m⟩, fun m _ => Or.inl (h7 m), fun m _ => Or.inl (h8 m), fun j _ => ⟨0, by decide, h1 j⟩⟩, ⟨0, by decide, rfl, h4, fun i hi => absurd hi (Nat.not_lt_zero i), fun i _ _ => b_0 i⟩, ⟨0, by decide, rfl, h5, fun i hi => absurd hi (Nat.not_lt_zero i), fun l hl => all_kb l hl⟩⟩
  rw [b m] at hb
  exact Bool.noConfusion hb
theorem rr0 : RR S0 M0 := by
  have k : ∀ i, RI S0 M0 i := fun i => ⟨false, rfl, fun _ => rfl, fun z => Bool.noConfusion z⟩
  refine ⟨ry0 (fun _ => rfl) (fun j hj => ?_) rfl rfl rfl (fun _ => rfl) (fun _ => rfl) (fun _ => rfl), ⟨0, by decide, rfl, rfl, fun i hi => absurd hi (Nat.not_lt_zero i)⟩, k 0, k 1⟩
  rw [own0, cpy_lt hj]
theorem lt25 {P : Nat → Prop} (h0 : P 0) (h1 : P 1) (h2 : P 2) (h3 : P 3) (h4 : P 4) (h5 : P 5) (h6 : P 6) (h7 : P 7) (h8 : P 8) (h9 : P 9) (h10 : P 10) (h11 : P 11) (h12 : P 12) (h13 : P 13) (h14 : P 14) (h15 : P 15) (h16 : P 16) (h17 : P 17) (h18 : P 18) (h19 : P 19) (h20 : P 20) (h21 : P 21) (h22 : P 22) (h23 : P 23) (h24 : P 24) : ∀ j, j < 25 → P j := fun j hj =>
  match j, hj with
  | 0, _ => h0
  | 1, _ => h1
  | 2, _ => h2
  | 3, _ => h3
  | 4, _ => h4
  | 5, _ => h5
  | 6, _ => h6
  | 7, _ => h7
  | 8, _ => h8
  | 9, _ => h9
  | 10, _ => h10
  | 11, _ => h11
  | 12, _ => h12
  | 13, _ => h13
  | 14, _ => h14
  | 15, _ => h15
  | 16, _ => h16
  | 17, _ => h17
  | 18, _ => h18
  | 19, _ => h19
  | 20, _ => h20
  | 21, _ => h21
  | 22, _ => h22
  | 23, _ => h23
  | 24, _ => h24
  | j + 25, h => absurd h (by omega)
set_option maxRecDepth 100000 in
theorem pl_0 (ck : Nat → ClassId) (h0 : Nat) (a : Nat → Nat) (h1 : Nat) (b : Nat → Nat) (z : Nat) : (L76 ck h0 a h1 b)[ixP 0]? = some (adP h0 a h1 b z 0, ce (adP h0 a h1 b z) ck (W2 S0 M0 0)) := rfl
set_option maxRecDepth 100000 in
theorem pl_1 (ck : Nat → ClassId) (h0 : Nat) (a : Nat → Nat) (h1 : Nat) (b : Nat → Nat) (z : Nat) : (L76 ck h0 a h1 b)[ixP 1]? = some (adP h0 a h1 b z 1, ce (adP h0 a h1 b z) ck (W2 S0 M0 1)) := rfl
set_option maxRecDepth 100000 in
theorem pl_2 (ck : Nat → ClassId) (h0 : Nat) (a : Nat → Nat) (h1 : Nat) (b : Nat → Nat) (z : Nat) : (L76 ck h0 a h1 b)[ixP 2]? = some (adP h0 a h1 b z 2, ce (adP h0 a h1 b z) ck (W2 S0 M0 2)) := rfl
set_option maxRecDepth 100000 in
theorem pl_3 (ck : Nat → ClassId) (h0 : Nat) (a : Nat → Nat) (h1 : Nat) (b : Nat → Nat) (z : Nat) : (L76 ck h0 a h1 b)[ixP 3]? = some (adP h0 a h1 b z 3, ce (adP h0 a h1 b z) ck (W2 S0 M0 3)) := rfl
set_option maxRecDepth 100000 in
theorem pl_4 (ck : Nat → ClassId) (h0 : Nat) (a : Nat → Nat) (h1 : Nat) (b : Nat → Nat) (z : Nat) : (L76 ck h0 a h1 b)[ixP 4]? = some (adP h0 a h1 b z 4, ce (adP h0 a h1 b z) ck (W2 S0 M0 4)) := rfl
set_option maxRecDepth 100000 in
theorem pl_5 (ck : Nat → ClassId) (h0 : Nat) (a : Nat → Nat) (h1 : Nat) (b : Nat → Nat) (z : Nat) : (L76 ck h0 a h1 b)[ixP 5]? = some (adP h0 a h1 b z 5, ce (adP h0 a h1 b z) ck (W2 S0 M0 5)) := rfl
set_option maxRecDepth 100000 in
theorem pl_6 (ck : Nat → ClassId) (h0 : Nat) (a : Nat → Nat) (h1 : Nat) (b : Nat → Nat) (z : Nat) : (L76 ck h0 a h1 b)[ixP 6]? = some (adP h0 a h1 b z 6, ce (adP h0 a h1 b z) ck (W2 S0 M0 6)) := rfl
set_option maxRecDepth 100000 in
theorem pl_7 (ck : Nat → ClassId) (h0 : Nat) (a : Nat → Nat) (h1 : Nat) (b : Nat → Nat) (z : Nat) : (L76 ck h0 a h1 b)[ixP 7]? = some (adP h0 a h1 b z 7, ce (adP h0 a h1 b z) ck (W2 S0 M0 7)) := rfl
set_option maxRecDepth 100000 in
theorem pl_8 (ck : Nat → ClassId) (h0 : Nat) (a : Nat → Nat) (h1 : Nat) (b : Nat → Nat) (z : Nat) : (L76 ck h0 a h1 b)[ixP 8]? = some (adP h0 a h1 b z 8, ce (adP h0 a h1 b z) ck (W2 S0 M0 8)) := rfl
set_option maxRecDepth 100000 in
theorem pl_9 (ck : Nat → ClassId) (h0 : Nat) (a : Nat → Nat) (h1 : Nat) (b : Nat → Nat) (z : Nat) : (L76 ck h0 a h1 b)[ixP 9]? = some (adP h0 a h1 b z 9, ce (adP h0 a h1 b z) ck (W2 S0 M0 9)) := rfl
set_option maxRecDepth 100000 in
theorem pl_10 (ck : Nat → ClassId) (h0 : Nat) (a : Nat → Nat) (h1 : Nat) (b : Nat → Nat) (z : Nat) : (L76 ck h0 a h1 b)[ixP 10]? = some (adP h0 a h1 b z 10, ce (adP h0 a h1 b z) ck (W2 S0 M0 10)) := rfl
set_option maxRecDepth 100000 in
theorem pl_11 (ck : Nat → ClassId) (h0 : Nat) (a : Nat → Nat) (h1 : Nat) (b : Nat → Nat) (z : Nat) : (L76 ck h0 a h1 b)[ixP 11]? = some (adP h0 a h1 b z 11, ce (adP h0 a h1 b z) ck (W2 S0 M0 11)) := rfl
set_option maxRecDepth 100000 in
theorem pl_12 (ck : Nat → ClassId) (h0 : Nat) (a : Nat → Nat) (h1 : Nat) (b : Nat → Nat) (z : Nat) : (L76 ck h0 a h1 b)[ixP 12]? = some (adP h0 a h1 b z 12, ce (adP h0 a h1 b z) ck (W2 S0 M0 12)) := rfl
set_option maxRecDepth 100000 in
theorem pl_13 (ck : Nat → ClassId) (h0 : Nat) (a : Nat → Nat) (h1 : Nat) (b : Nat → Nat) (z : Nat) : (L76 ck h0 a h1 b)[ixP 13]? = some (adP h0 a h1 b z 13, ce (adP h0 a h1 b z) ck (W2 S0 M0 13)) := rfl
set_option maxRecDepth 100000 in
theorem pl_14 (ck : Nat → ClassId) (h0 : Nat) (a : Nat → Nat) (h1 : Nat) (b : Nat → Nat) (z : Nat) : (L76 ck h0 a h1 b)[ixP 14]? = some (adP h0 a h1 b z 14, ce (adP h0 a h1 b z) ck (W2 S0 M0 14)) := rfl
set_option maxRecDepth 100000 in
theorem pl_15 (ck : Nat → ClassId) (h0 : Nat) (a : Nat → Nat) (h1 : Nat) (b : Nat → Nat) (z : Nat) : (L76 ck h0 a h1 b)[ixP 15]? = some (adP h0 a h1 b z 15, ce (adP h0 a h1 b z) ck (W2 S0 M0 15)) := rfl
set_option maxRecDepth 100000 in
theorem pl_16 (ck : Nat → ClassId) (h0 : Nat) (a : Nat → Nat) (h1 : Nat) (b : Nat → Nat) (z : Nat) : (L76 ck h0 a h1 b)[ixP 16]? = some (adP h0 a h1 b z 16, ce (adP h0 a h1 b z) ck (W2 S0 M0 16)) := rfl
set_option maxRecDepth 100000 in
theorem pl_17 (ck : Nat → ClassId) (h0 : Nat) (a : Nat → Nat) (h1 : Nat) (b : Nat → Nat) (z : Nat) : (L76 ck h0 a h1 b)[ixP 17]? = some (adP h0 a h1 b z 17, ce (adP h0 a h1 b z) ck (W2 S0 M0 17)) := rfl
set_option maxRecDepth 100000 in
theorem pl_18 (ck : Nat → ClassId) (h0 : Nat) (a : Nat → Nat) (h1 : Nat) (b : Nat → Nat) (z : Nat) : (L76 ck h0 a h1 b)[ixP 18]? = some (adP h0 a h1 b z 18, ce (adP h0 a h1 b z) ck (W2 S0 M0 18)) := rfl
set_option maxRecDepth 100000 in
theorem pl_19 (ck : Nat → ClassId) (h0 : Nat) (a : Nat → Nat) (h1 : Nat) (b : Nat → Nat) (z : Nat) : (L76 ck h0 a h1 b)[ixP 19]? = some (adP h0 a h1 b z 19, ce (adP h0 a h1 b z) ck (W2 S0 M0 19)) := rfl
set_option maxRecDepth 100000 in
theorem pl_20 (ck : Nat → ClassId) (h0 : Nat) (a : Nat → Nat) (h1 : Nat) (b : Nat → Nat) (z : Nat) : (L76 ck h0 a h1 b)[ixP 20]? = some (adP h0 a h1 b z 20, ce (adP h0 a h1 b z) ck (W2 S0 M0 20)) := rfl
set_option maxRecDepth 100000 in
theorem pl_21 (ck : Nat → ClassId) (h0 : Nat) (a : Nat → Nat) (h1 : Nat) (b : Nat → Nat) (z : Nat) : (L76 ck h0 a h1 b)[ixP 21]? = some (adP h0 a h1 b z 21, ce (adP h0 a h1 b z) ck (W2 S0 M0 21)) := rfl
set_option maxRecDepth 100000 in
theorem pl_22 (ck : Nat → ClassId) (h0 : Nat) (a : Nat → Nat) (h1 : Nat) (b : Nat → Nat) (z : Nat) : (L76 ck h0 a h1 b)[ixP 22]? = some (adP h0 a h1 b z 22, ce (adP h0 a h1 b z) ck (W2 S0 M0 22)) := rfl
set_option maxRecDepth 100000 in
theorem pl_23 (ck : Nat → ClassId) (h0 : Nat) (a : Nat → Nat) (h1 : Nat) (b : Nat → Nat) (z : Nat) : (L76 ck h0 a h1 b)[ixP 23]? = some (adP h0 a h1 b z 23, ce (adP h0 a h1 b z) ck (W2 S0 M0 23)) := rfl
set_option maxRecDepth 100000 in
theorem pl_24 (ck : Nat → ClassId) (h0 : Nat) (a : Nat → Nat) (h1 : Nat) (b : Nat → Nat) (z : Nat) : (L76 ck h0 a h1 b)[ixP 24]? = some (adP h0 a h1 b z 24, ce (adP h0 a h1 b z) ck (W2 S0 M0 24)) := rfl
set_option maxRecDepth 100000 in
theorem pl_25 (ck : Nat → ClassId) (h0 : Nat) (a : Nat → Nat) (h1 : Nat) (b : Nat → Nat) (z : Nat) : (L76 ck h0 a h1 b)[ixP 25]? = some (adP h0 a h1 b z 25, ce (adP h0 a h1 b z) ck (W2 S0 M0 25)) := rfl
set_option maxRecDepth 100000 in
theorem pl_26 (ck : Nat → ClassId) (h0 : Nat) (a : Nat → Nat) (h1 : Nat) (b : Nat → Nat) (z : Nat) : (L76 ck h0 a h1 b)[ixP 26]? = some (adP h0 a h1 b z 26, ce (adP h0 a h1 b z) ck (W2 S0 M0 26)) := rfl
set_option maxRecDepth 100000 in
theorem pl_27 (ck : Nat → ClassId) (h0 : Nat) (a : Nat → Nat) (h1 : Nat) (b : Nat → Nat) (z : Nat) : (L76 ck h0 a h1 b)[ixP 27]? = some (adP h0 a h1 b z 27, ce (adP h0 a h1 b z) ck (W2 S0 M0 27)) := rfl
set_option maxRecDepth 100000 in
theorem pl_28 (ck : Nat → ClassId) (h0 : Nat) (a : Nat → Nat) (h1 : Nat) (b : Nat → Nat) (z : Nat) : (L76 ck h0 a h1 b)[ixP 28]? = some (adP h0 a h1 b z 28, ce (adP h0 a h1 b z) ck (W2 S0 M0 28)) := rfl
set_option maxRecDepth 100000 in
theorem pl_29 (ck : Nat → ClassId) (h0 : Nat) (a : Nat → Nat) (h1 : Nat) (b : Nat → Nat) (z : Nat) : (L76 ck h0 a h1 b)[ixP 29]? = some (adP h0 a h1 b z 29, ce (adP h0 a h1 b z) ck (W2 S0 M0 29)) := rfl
set_option maxRecDepth 100000 in
theorem pl_30 (ck : Nat → ClassId) (h0 : Nat) (a : Nat → Nat) (h1 : Nat) (b : Nat → Nat) (z : Nat) : (L76 ck h0 a h1 b)[ixP 30]? = some (adP h0 a h1 b z 30, ce (adP h0 a h1 b z) ck (W2 S0 M0 30)) := rfl
set_option maxRecDepth 100000 in
theorem pl_31 (ck : Nat → ClassId) (h0 : Nat) (a : Nat → Nat) (h1 : Nat) (b : Nat → Nat) (z : Nat) : (L76 ck h0 a h1 b)[ixP 31]? = some (adP h0 a h1 b z 31, ce (adP h0 a h1 b z) ck (W2 S0 M0 31)) := rfl
set_option maxRecDepth 100000 in
theorem pl_32 (ck : Nat → ClassId) (h0 : Nat) (a : Nat → Nat) (h1 : Nat) (b : Nat → Nat) (z : Nat) : (L76 ck h0 a h1 b)[ixP 32]? = some (adP h0 a h1 b z 32, ce (adP h0 a h1 b z) ck (W2 S0 M0 32)) := rfl
set_option maxRecDepth 100000 in
theorem pl_33 (ck : Nat → ClassId) (h0 : Nat) (a : Nat → Nat) (h1 : Nat) (b : Nat → Nat) (z : Nat) : (L76 ck h0 a h1 b)[ixP 33]? = some (adP h0 a h1 b z 33, ce (adP h0 a h1 b z) ck (W2 S0 M0 33)) := rfl
set_option maxRecDepth 100000 in
theorem pl_34 (ck : Nat → ClassId) (h0 : Nat) (a : Nat → Nat) (h1 : Nat) (b : Nat → Nat) (z : Nat) : (L76 ck h0 a h1 b)[ixP 34]? = some (adP h0 a h1 b z 34, ce (adP h0 a h1 b z) ck (W2 S0 M0 34)) := rfl
set_option maxRecDepth 100000 in
theorem pl_35 (ck : Nat → ClassId) (h0 : Nat) (a : Nat → Nat) (h1 : Nat) (b : Nat → Nat) (z : Nat) : (L76 ck h0 a h1 b)[ixP 35]? = some (adP h0 a h1 b z 35, ce (adP h0 a h1 b z) ck (W2 S0 M0 35)) := rfl
set_option maxRecDepth 100000 in
theorem pl_36 (ck : Nat → ClassId) (h0 : Nat) (a : Nat → Nat) (h1 : Nat) (b : Nat → Nat) (z : Nat) : (L76 ck h0 a h1 b)[ixP 36]? = some (adP h0 a h1 b z 36, ce (adP h0 a h1 b z) ck (W2 S0 M0 36)) := rfl
set_option maxRecDepth 100000 in
theorem pl_37 (ck : Nat → ClassId) (h0 : Nat) (a : Nat → Nat) (h1 : Nat) (b : Nat → Nat) (z : Nat) : (L76 ck h0 a h1 b)[ixP 37]? = some (adP h0 a h1 b z 37, ce (adP h0 a h1 b z) ck (W2 S0 M0 37)) := rfl
set_option maxRecDepth 100000 in
theorem pl_38 (ck : Nat → ClassId) (h0 : Nat) (a : Nat → Nat) (h1 : Nat) (b : Nat → Nat) (z : Nat) : (L76 ck h0 a h1 b)[ixP 38]? = some (adP h0 a h1 b z 38, ce (adP h0 a h1 b z) ck (W2 S0 M0 38)) := rfl
set_option maxRecDepth 100000 in
theorem pl_39 (ck : Nat → ClassId) (h0 : Nat) (a : Nat → Nat) (h1 : Nat) (b : Nat → Nat) (z : Nat) : (L76 ck h0 a h1 b)[ixP 39]? = some (adP h0 a h1 b z 39, ce (adP h0 a h1 b z) ck (W2 S0 M0 39)) := rfl
set_option maxRecDepth 100000 in
theorem pl_40 (ck : Nat → ClassId) (h0 : Nat) (a : Nat → Nat) (h1 : Nat) (b : Nat → Nat) (z : Nat) : (L76 ck h0 a h1 b)[ixP 40]? = some (adP h0 a h1 b z 40, ce (adP h0 a h1 b z) ck (W2 S0 M0 40)) := rfl
set_option maxRecDepth 100000 in
theorem pl_41 (ck : Nat → ClassId) (h0 : Nat) (a : Nat → Nat) (h1 : Nat) (b : Nat → Nat) (z : Nat) : (L76 ck h0 a h1 b)[ixP 41]? = some (adP h0 a h1 b z 41, ce (adP h0 a h1 b z) ck (W2 S0 M0 41)) := rfl
set_option maxRecDepth 100000 in
theorem pl_42 (ck : Nat → ClassId) (h0 : Nat) (a : Nat → Nat) (h1 : Nat) (b : Nat → Nat) (z : Nat) : (L76 ck h0 a h1 b)[ixP 42]? = some (adP h0 a h1 b z 42, ce (adP h0 a h1 b z) ck (W2 S0 M0 42)) := rfl
set_option maxRecDepth 100000 in
theorem pl_43 (ck : Nat → ClassId) (h0 : Nat) (a : Nat → Nat) (h1 : Nat) (b : Nat → Nat) (z : Nat) : (L76 ck h0 a h1 b)[ixP 43]? = some (adP h0 a h1 b z 43, ce (adP h0 a h1 b z) ck (W2 S0 M0 43)) := rfl
set_option maxRecDepth 100000 in
theorem pl_44 (ck : Nat → ClassId) (h0 : Nat) (a : Nat → Nat) (h1 : Nat) (b : Nat → Nat) (z : Nat) : (L76 ck h0 a h1 b)[ixP 44]? = some (adP h0 a h1 b z 44, ce (adP h0 a h1 b z) ck (W2 S0 M0 44)) := rfl
set_option maxRecDepth 100000 in
theorem pl_45 (ck : Nat → ClassId) (h0 : Nat) (a : Nat → Nat) (h1 : Nat) (b : Nat → Nat) (z : Nat) : (L76 ck h0 a h1 b)[ixP 45]? = some (adP h0 a h1 b z 45, ce (adP h0 a h1 b z) ck (W2 S0 M0 45)) := rfl
set_option maxRecDepth 100000 in
theorem pl_46 (ck : Nat → ClassId) (h0 : Nat) (a : Nat → Nat) (h1 : Nat) (b : Nat → Nat) (z : Nat) : (L76 ck h0 a h1 b)[ixP 46]? = some (adP h0 a h1 b z 46, ce (adP h0 a h1 b z) ck (W2 S0 M0 46)) := rfl
set_option maxRecDepth 100000 in
theorem pl_47 (ck : Nat → ClassId) (h0 : Nat) (a : Nat → Nat) (h1 : Nat) (b : Nat → Nat) (z : Nat) : (L76 ck h0 a h1 b)[ixP 47]? = some (adP h0 a h1 b z 47, ce (adP h0 a h1 b z) ck (W2 S0 M0 47)) := rfl
set_option maxRecDepth 100000 in
theorem pl_48 (ck : Nat → ClassId) (h0 : Nat) (a : Nat → Nat) (h1 : Nat) (b : Nat → Nat) (z : Nat) : (L76 ck h0 a h1 b)[ixP 48]? = some (adP h0 a h1 b z 48, ce (adP h0 a h1 b z) ck (W2 S0 M0 48)) := rfl
set_option maxRecDepth 100000 in
theorem pl_49 (ck : Nat → ClassId) (h0 : Nat) (a : Nat → Nat) (h1 : Nat) (b : Nat → Nat) (z : Nat) : (L76 ck h0 a h1 b)[ixP 49]? = some (adP h0 a h1 b z 49, ce (adP h0 a h1 b z) ck (W2 S0 M0 49)) := rfl
set_option maxRecDepth 100000 in
theorem pl_50 (ck : Nat → ClassId) (h0 : Nat) (a : Nat → Nat) (h1 : Nat) (b : Nat → Nat) (z : Nat) : (L76 ck h0 a h1 b)[ixP 50]? = some (adP h0 a h1 b z 50, ce (adP h0 a h1 b z) ck (W2 S0 M0 50)) := rfl
set_option maxRecDepth 100000 in
theorem pl_51 (ck : Nat → ClassId) (h0 : Nat) (a : Nat → Nat) (h1 : Nat) (b : Nat → Nat) (z : Nat) : (L76 ck h0 a h1 b)[ixP 51]? = some (adP h0 a h1 b z 51, ce (adP h0 a h1 b z) ck (W2 S0 M0 51)) := rfl
set_option maxRecDepth 100000 in
theorem pl_52 (ck : Nat → ClassId) (h0 : Nat) (a : Nat → Nat) (h1 : Nat) (b : Nat → Nat) (z : Nat) : (L76 ck h0 a h1 b)[ixP 52]? = some (adP h0 a h1 b z 52, ce (adP h0 a h1 b z) ck (W2 S0 M0 52)) := rfl
set_option maxRecDepth 100000 in
theorem pl_53 (ck : Nat → ClassId) (h0 : Nat) (a : Nat → Nat) (h1 : Nat) (b : Nat → Nat) (z : Nat) : (L76 ck h0 a h1 b)[ixP 53]? = some (adP h0 a h1 b z 53, ce (adP h0 a h1 b z) ck (W2 S0 M0 53)) := rfl
set_option maxRecDepth 100000 in
theorem pl_54 (ck : Nat → ClassId) (h0 : Nat) (a : Nat → Nat) (h1 : Nat) (b : Nat → Nat) (z : Nat) : (L76 ck h0 a h1 b)[ixP 54]? = some (adP h0 a h1 b z 54, ce (adP h0 a h1 b z) ck (W2 S0 M0 54)) := rfl
set_option maxRecDepth 100000 in
theorem pl_55 (ck : Nat → ClassId) (h0 : Nat) (a : Nat → Nat) (h1 : Nat) (b : Nat → Nat) (z : Nat) : (L76 ck h0 a h1 b)[ixP 55]? = some (adP h0 a h1 b z 55, ce (adP h0 a h1 b z) ck (W2 S0 M0 55)) := rfl
set_option maxRecDepth 100000 in
theorem pl_56 (ck : Nat → ClassId) (h0 : Nat) (a : Nat → Nat) (h1 : Nat) (b : Nat → Nat) (z : Nat) : (L76 ck h0 a h1 b)[ixP 56]? = some (adP h0 a h1 b z 56, ce (adP h0 a h1 b z) ck (W2 S0 M0 56)) := rfl
set_option maxRecDepth 100000 in
theorem pl_57 (ck : Nat → ClassId) (h0 : Nat) (a : Nat → Nat) (h1 : Nat) (b : Nat → Nat) (z : Nat) : (L76 ck h0 a h1 b)[ixP 57]? = some (adP h0 a h1 b z 57, ce (adP h0 a h1 b z) ck (W2 S0 M0 57)) := rfl
set_option maxRecDepth 100000 in
theorem pl_58 (ck : Nat → ClassId) (h0 : Nat) (a : Nat → Nat) (h1 : Nat) (b : Nat → Nat) (z : Nat) : (L76 ck h0 a h1 b)[ixP 58]? = some (adP h0 a h1 b z 58, ce (adP h0 a h1 b z) ck (W2 S0 M0 58)) := rfl
set_option maxRecDepth 100000 in
theorem pl_59 (ck : Nat → ClassId) (h0 : Nat) (a : Nat → Nat) (h1 : Nat) (b : Nat → Nat) (z : Nat) : (L76 ck h0 a h1 b)[ixP 59]? = some (adP h0 a h1 b z 59, ce (adP h0 a h1 b z) ck (W2 S0 M0 59)) := rfl
set_option maxRecDepth 100000 in
theorem pl_60 (ck : Nat → ClassId) (h0 : Nat) (a : Nat → Nat) (h1 : Nat) (b : Nat → Nat) (z : Nat) : (L76 ck h0 a h1 b)[ixP 60]? = some (adP h0 a h1 b z 60, ce (adP h0 a h1 b z) ck (W2 S0 M0 60)) := rfl
set_option maxRecDepth 100000 in
theorem pl_61 (ck : Nat → ClassId) (h0 : Nat) (a : Nat → Nat) (h1 : Nat) (b : Nat → Nat) (z : Nat) : (L76 ck h0 a h1 b)[ixP 61]? = some (adP h0 a h1 b z 61, ce (adP h0 a h1 b z) ck (W2 S0 M0 61)) := rfl
set_option maxRecDepth 100000 in
theorem pl_62 (ck : Nat → ClassId) (h0 : Nat) (a : Nat → Nat) (h1 : Nat) (b : Nat → Nat) (z : Nat) : (L76 ck h0 a h1 b)[ixP 62]? = some (adP h0 a h1 b z 62, ce (adP h0 a h1 b z) ck (W2 S0 M0 62)) := rfl
set_option maxRecDepth 100000 in
theorem pl_63 (ck : Nat → ClassId) (h0 : Nat) (a : Nat → Nat) (h1 : Nat) (b : Nat → Nat) (z : Nat) : (L76 ck h0 a h1 b)[ixP 63]? = some (adP h0 a h1 b z 63, ce (adP h0 a h1 b z) ck (W2 S0 M0 63)) := rfl
set_option maxRecDepth 100000 in
theorem pl_64 (ck : Nat → ClassId) (h0 : Nat) (a : Nat → Nat) (h1 : Nat) (b : Nat → Nat) (z : Nat) : (L76 ck h0 a h1 b)[ixP 64]? = some (adP h0 a h1 b z 64, ce (adP h0 a h1 b z) ck (W2 S0 M0 64)) := rfl
set_option maxRecDepth 100000 in
theorem pl_65 (ck : Nat → ClassId) (h0 : Nat) (a : Nat → Nat) (h1 : Nat) (b : Nat → Nat) (z : Nat) : (L76 ck h0 a h1 b)[ixP 65]? = some (adP h0 a h1 b z 65, ce (adP h0 a h1 b z) ck (W2 S0 M0 65)) := rfl
set_option maxRecDepth 100000 in
theorem pl_66 (ck : Nat → ClassId) (h0 : Nat) (a : Nat → Nat) (h1 : Nat) (b : Nat → Nat) (z : Nat) : (L76 ck h0 a h1 b)[ixP 66]? = some (adP h0 a h1 b z 66, ce (adP h0 a h1 b z) ck (W2 S0 M0 66)) := rfl
set_option maxRecDepth 100000 in
theorem pl_67 (ck : Nat → ClassId) (h0 : Nat) (a : Nat → Nat) (h1 : Nat) (b : Nat → Nat) (z : Nat) : (L76 ck h0 a h1 b)[ixP 67]? = some (adP h0 a h1 b z 67, ce (adP h0 a h1 b z) ck (W2 S0 M0 67)) := rfl
set_option maxRecDepth 100000 in
theorem pl_68 (ck : Nat → ClassId) (h0 : Nat) (a : Nat → Nat) (h1 : Nat) (b : Nat → Nat) (z : Nat) : (L76 ck h0 a h1 b)[ixP 68]? = some (adP h0 a h1 b z 68, ce (adP h0 a h1 b z) ck (W2 S0 M0 68)) := rfl
set_option maxRecDepth 100000 in
theorem pl_69 (ck : Nat → ClassId) (h0 : Nat) (a : Nat → Nat) (h1 : Nat) (b : Nat → Nat) (z : Nat) : (L76 ck h0 a h1 b)[ixP 69]? = some (adP h0 a h1 b z 69, ce (adP h0 a h1 b z) ck (W2 S0 M0 69)) := rfl
set_option maxRecDepth 100000 in
theorem pl_70 (ck : Nat → ClassId) (h0 : Nat) (a : Nat → Nat) (h1 : Nat) (b : Nat → Nat) (z : Nat) : (L76 ck h0 a h1 b)[ixP 70]? = some (adP h0 a h1 b z 70, ce (adP h0 a h1 b z) ck (W2 S0 M0 70)) := rfl
set_option maxRecDepth 100000 in
theorem pl_71 (ck : Nat → ClassId) (h0 : Nat) (a : Nat → Nat) (h1 : Nat) (b : Nat → Nat) (z : Nat) : (L76 ck h0 a h1 b)[ixP 71]? = some (adP h0 a h1 b z 71, ce (adP h0 a h1 b z) ck (W2 S0 M0 71)) := rfl
set_option maxRecDepth 100000 in
theorem pl_72 (ck : Nat → ClassId) (h0 : Nat) (a : Nat → Nat) (h1 : Nat) (b : Nat → Nat) (z : Nat) : (L76 ck h0 a h1 b)[ixP 72]? = some (adP h0 a h1 b z 72, ce (adP h0 a h1 b z) ck (W2 S0 M0 72)) := rfl
set_option maxRecDepth 100000 in
theorem pl_73 (ck : Nat → ClassId) (h0 : Nat) (a : Nat → Nat) (h1 : Nat) (b : Nat → Nat) (z : Nat) : (L76 ck h0 a h1 b)[ixP 73]? = some (adP h0 a h1 b z 73, ce (adP h0 a h1 b z) ck (W2 S0 M0 73)) := rfl
set_option maxRecDepth 100000 in
theorem pl_74 (ck : Nat → ClassId) (h0 : Nat) (a : Nat → Nat) (h1 : Nat) (b : Nat → Nat) (z : Nat) : (L76 ck h0 a h1 b)[ixP 74]? = some (adP h0 a h1 b z 74, ce (adP h0 a h1 b z) ck (W2 S0 M0 74)) := rfl
set_option maxRecDepth 100000 in
theorem pl_75 (ck : Nat → ClassId) (h0 : Nat) (a : Nat → Nat) (h1 : Nat) (b : Nat → Nat) (z : Nat) : (L76 ck h0 a h1 b)[ixP 75]? = some (adP h0 a h1 b z 75, ce (adP h0 a h1 b z) ck (W2 S0 M0 75)) := rfl
theorem place (ck : Nat → ClassId) (h0 : Nat) (a : Nat → Nat) (h1 : Nat) (b : Nat → Nat) (z : Nat) : ∀ k, k < 76 → (L76 ck h0 a h1 b)[ixP k]? = some (adP h0 a h1 b z k, ce (adP h0 a h1 b z) ck (W2 S0 M0 k)) := by
  intro k hk
  by_cases h : k < 51
  · exact lt51 (P := fun k => (L76 ck h0 a h1 b)[ixP k]? = some (adP h0 a h1 b z k, ce (adP h0 a h1 b z) ck (W2 S0 M0 k))) (pl_0 ck h0 a h1 b z) (pl_1 ck h0 a h1 b z) (pl_2 ck h0 a h1 b z) (pl_3 ck h0 a h1 b z) (pl_4 ck h0 a h1 b z) (pl_5 ck h0 a h1 b z) (pl_6 ck h0 a h1 b z) (pl_7 ck h0 a h1 b z) (pl_8 ck h0 a h1 b z) (pl_9 ck h0 a h1 b z) (pl_10 ck h0 a h1 b z) (pl_11 ck h0 a h1 b z) (pl_12 ck h0 a h1 b z) (pl_13 ck h0 a h1 b z) (pl_14 ck h0 a h1 b z) (pl_15 ck h0 a h1 b z) (pl_16 ck h0 a h1 b z) (pl_17 ck h0 a h1 b z) (pl_18 ck h0 a h1 b z) (pl_19 ck h0 a h1 b z) (pl_20 ck h0 a h1 b z) (pl_21 ck h0 a h1 b z) (pl_22 ck h0 a h1 b z) (pl_23 ck h0 a h1 b z) (pl_24 ck h0 a h1 b z) (pl_25 ck h0 a h1 b z) (pl_26 ck h0 a h1 b z) (pl_27 ck h0 a h1 b z) (pl_28 ck h0 a h1 b z) (pl_29 ck h0 a h1 b z) (pl_30 ck h0 a h1 b z) (pl_31 ck h0 a h1 b z) (pl_32 ck h0 a h1 b z) (pl_33 ck h0 a h1 b z) (pl_34 ck h0 a h1 b z) (pl_35 ck h0 a h1 b z) (pl_36 ck h0 a h1 b z) (pl_37 ck h0 a h1 b z) (pl_38 ck h0 a h1 b z) (pl_39 ck h0 a h1 b z) (pl_40 ck h0 a h1 b z) (pl_41 ck h0 a h1 b z) (pl_42 ck h0 a h1 b z) (pl_43 ck h0 a h1 b z) (pl_44 ck h0 a h1 b z) (pl_45 ck h0 a h1 b z) (pl_46 ck h0 a h1 b z) (pl_47 ck h0 a h1 b z) (pl_48 ck h0 a h1 b z) (pl_49 ck h0 a h1 b z) (pl_50 ck h0 a h1 b z) k h
  · obtain ⟨j, rfl⟩ : ∃ j, k = 51 + j := ⟨k - 51, by omega⟩
    exact lt25 (P := fun j => (L76 ck h0 a h1 b)[ixP (51 + j)]? = some (adP h0 a h1 b z (51 + j), ce (adP h0 a h1 b z) ck (W2 S0 M0 (51 + j)))) (pl_51 ck h0 a h1 b z) (pl_52 ck h0 a h1 b z) (pl_53 ck h0 a h1 b z) (pl_54 ck h0 a h1 b z) (pl_55 ck h0 a h1 b z) (pl_56 ck h0 a h1 b z) (pl_57 ck h0 a h1 b z) (pl_58 ck h0 a h1 b z) (pl_59 ck h0 a h1 b z) (pl_60 ck h0 a h1 b z) (pl_61 ck h0 a h1 b z) (pl_62 ck h0 a h1 b z) (pl_63 ck h0 a h1 b z) (pl_64 ck h0 a h1 b z) (pl_65 ck h0 a h1 b z) (pl_66 ck h0 a h1 b z) (pl_67 ck h0 a h1 b z) (pl_68 ck h0 a h1 b z) (pl_69 ck h0 a h1 b z) (pl_70 ck h0 a h1 b z) (pl_71 ck h0 a h1 b z) (pl_72 ck h0 a h1 b z) (pl_73 ck h0 a h1 b z) (pl_74 ck h0 a h1 b z) (pl_75 ck h0 a h1 b z) j (by omega)
