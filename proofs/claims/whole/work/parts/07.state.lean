/-! THE STATES: what the objects hold, and the worlds that hold them -/
abbrev upI (f : Nat → Int32) (k : Nat) (x : Int32) : Nat → Int32 := upd f k x
theorem vi {j n : Nat} (h : j < n) (hn : n < 2 ^ 31) : vp_in (nI j) n := vp_in_nI h hn
theorem ci {j n : Nat} (h : j < n) (hn : n < 2 ^ 31) : (nI j).toNatClampNeg = j := nI_clamp (by omega)
def bI (b : Bool) : Int32 := if b then 1 else 0
theorem bI_0 {b : Bool} : bI b = 0 ↔ b = false := by cases b <;> simp [bI]
theorem bI_n0 {b : Bool} : ¬ bI b = 0 ↔ b = true := by cases b <;> simp [bI]
theorem bI_nar (b : Bool) : narrow .boolean (.int (bI b)) = .int (bI b) := by cases b <;> rfl
theorem Ct.at {q : MI} {as : List Value} {h0 h1 g0 g1 : Wd} {r : Option Value} (c : Ct q as h0 r h1) (e0 : h0 = g0) (e1 : h1 = g1) : Ct q as g0 r g1 := by subst e0; subst e1; exact c
theorem r_cV1_0 {q q2 : MI} {pc idx ci n b : Nat} {L st : List Value} {v : Value} {h h1 h' : Wd} {r : Option Value} {fs : List Value} {T : u_T} (hc : Ct q2 (.ref b :: []) h (some v) h1) (hv : CV q2) (hR : RM q q2) (hl : Cond.methodLink (my q).cls idx (my q2) ∈ gt) (hd : decode (mb q) pc = .ok (.invokevirtual idx, 3)) (hb : b < 76) (hh : h b = .inr (ci, fs)) (hcl : vwCl[ci]? = some ((my q2).cls, T, n)) (hn : 0 = mp q2) (hw : osum st ≤ 8) (k : WW q (pc + 3) L (v :: st) h1 r h') : WW q pc L (.ref b :: st) h r h' := r_callV hc hv hR hl hd hb hh hcl hn rfl hw k
theorem r_cV0_0 {q q2 : MI} {pc idx ci n b : Nat} {L st : List Value} {h h1 h' : Wd} {r : Option Value} {fs : List Value} {T : u_T} (hc : Ct q2 (.ref b :: []) h none h1) (hv : CV q2) (hR : RM q q2) (hl : Cond.methodLink (my q).cls idx (my q2) ∈ gt) (hd : decode (mb q) pc = .ok (.invokevirtual idx, 3)) (hb : b < 76) (hh : h b = .inr (ci, fs)) (hcl : vwCl[ci]? = some ((my q2).cls, T, n)) (hn : 0 = mp q2) (hw : osum st ≤ 8) (k : WW q (pc + 3) L st h1 r h') : WW q pc L (.ref b :: st) h r h' := r_callV hc hv hR hl hd hb hh hcl hn rfl hw k
theorem r_cS1_0 {q q2 : MI} {pc idx : Nat} {L st : List Value} {v : Value} {h h1 h' : Wd} {r : Option Value} (hc : Ct q2 [] h (some v) h1) (hv : CS q2) (hR : RM q q2) (hl : Cond.methodLink (my q).cls idx (my q2) ∈ gt) (hd : decode (mb q) pc = .ok (.invokestatic idx, 3)) (hn : 0 = mp q2) (hw : osum st ≤ 8) (k : WW q (pc + 3) L (v :: st) h1 r h') : WW q pc L (st) h r h' := r_callS hc hv hR hl hd hn rfl hw k
theorem r_cS0_0 {q q2 : MI} {pc idx : Nat} {L st : List Value} {h h1 h' : Wd} {r : Option Value} (hc : Ct q2 [] h none h1) (hv : CS q2) (hR : RM q q2) (hl : Cond.methodLink (my q).cls idx (my q2) ∈ gt) (hd : decode (mb q) pc = .ok (.invokestatic idx, 3)) (hn : 0 = mp q2) (hw : osum st ≤ 8) (k : WW q (pc + 3) L st h1 r h') : WW q pc L (st) h r h' := r_callS hc hv hR hl hd hn rfl hw k
theorem r_cSN1_0 {q q2 : MI} {pc idx : Nat} {host : String} {L st : List Value} {v : Value} {h h1 h' : Wd} {r : Option Value} (hc : Ct q2 [] h (some v) h1) (hv : CS q2) (hR : RM q q2) (hl : ((my q).cls, idx, my q2, host) ∈ nestM) (hd : decode (mb q) pc = .ok (.invokestatic idx, 3)) (hn : 0 = mp q2) (hw : osum st ≤ 8) (k : WW q (pc + 3) L (v :: st) h1 r h') : WW q pc L (st) h r h' := r_callSN hc hv hR hl hd hn rfl hw k
theorem r_cSN0_0 {q q2 : MI} {pc idx : Nat} {host : String} {L st : List Value} {h h1 h' : Wd} {r : Option Value} (hc : Ct q2 [] h none h1) (hv : CS q2) (hR : RM q q2) (hl : ((my q).cls, idx, my q2, host) ∈ nestM) (hd : decode (mb q) pc = .ok (.invokestatic idx, 3)) (hn : 0 = mp q2) (hw : osum st ≤ 8) (k : WW q (pc + 3) L st h1 r h') : WW q pc L (st) h r h' := r_callSN hc hv hR hl hd hn rfl hw k
theorem r_cV1_1 {q q2 : MI} {pc idx ci n b : Nat} {L st : List Value} {x0 : Value} {v : Value} {h h1 h' : Wd} {r : Option Value} {fs : List Value} {T : u_T} (hc : Ct q2 (.ref b :: [x0]) h (some v) h1) (hv : CV q2) (hR : RM q q2) (hl : Cond.methodLink (my q).cls idx (my q2) ∈ gt) (hd : decode (mb q) pc = .ok (.invokevirtual idx, 3)) (hb : b < 76) (hh : h b = .inr (ci, fs)) (hcl : vwCl[ci]? = some ((my q2).cls, T, n)) (hn : 1 = mp q2) (hw : osum st ≤ 8) (k : WW q (pc + 3) L (v :: st) h1 r h') : WW q pc L (x0 :: .ref b :: st) h r h' := r_callV hc hv hR hl hd hb hh hcl hn rfl hw k
theorem r_cV0_1 {q q2 : MI} {pc idx ci n b : Nat} {L st : List Value} {x0 : Value} {h h1 h' : Wd} {r : Option Value} {fs : List Value} {T : u_T} (hc : Ct q2 (.ref b :: [x0]) h none h1) (hv : CV q2) (hR : RM q q2) (hl : Cond.methodLink (my q).cls idx (my q2) ∈ gt) (hd : decode (mb q) pc = .ok (.invokevirtual idx, 3)) (hb : b < 76) (hh : h b = .inr (ci, fs)) (hcl : vwCl[ci]? = some ((my q2).cls, T, n)) (hn : 1 = mp q2) (hw : osum st ≤ 8) (k : WW q (pc + 3) L st h1 r h') : WW q pc L (x0 :: .ref b :: st) h r h' := r_callV hc hv hR hl hd hb hh hcl hn rfl hw k
theorem r_cS1_1 {q q2 : MI} {pc idx : Nat} {L st : List Value} {x0 : Value} {v : Value} {h h1 h' : Wd} {r : Option Value} (hc : Ct q2 [x0] h (some v) h1) (hv : CS q2) (hR : RM q q2) (hl : Cond.methodLink (my q).cls idx (my q2) ∈ gt) (hd : decode (mb q) pc = .ok (.invokestatic idx, 3)) (hn : 1 = mp q2) (hw : osum st ≤ 8) (k : WW q (pc + 3) L (v :: st) h1 r h') : WW q pc L (x0 :: st) h r h' := r_callS hc hv hR hl hd hn rfl hw k
theorem r_cS0_1 {q q2 : MI} {pc idx : Nat} {L st : List Value} {x0 : Value} {h h1 h' : Wd} {r : Option Value} (hc : Ct q2 [x0] h none h1) (hv : CS q2) (hR : RM q q2) (hl : Cond.methodLink (my q).cls idx (my q2) ∈ gt) (hd : decode (mb q) pc = .ok (.invokestatic idx, 3)) (hn : 1 = mp q2) (hw : osum st ≤ 8) (k : WW q (pc + 3) L st h1 r h') : WW q pc L (x0 :: st) h r h' := r_callS hc hv hR hl hd hn rfl hw k
theorem r_cSN1_1 {q q2 : MI} {pc idx : Nat} {host : String} {L st : List Value} {x0 : Value} {v : Value} {h h1 h' : Wd} {r : Option Value} (hc : Ct q2 [x0] h (some v) h1) (hv : CS q2) (hR : RM q q2) (hl : ((my q).cls, idx, my q2, host) ∈ nestM) (hd : decode (mb q) pc = .ok (.invokestatic idx, 3)) (hn : 1 = mp q2) (hw : osum st ≤ 8) (k : WW q (pc + 3) L (v :: st) h1 r h') : WW q pc L (x0 :: st) h r h' := r_callSN hc hv hR hl hd hn rfl hw k
theorem r_cSN0_1 {q q2 : MI} {pc idx : Nat} {host : String} {L st : List Value} {x0 : Value} {h h1 h' : Wd} {r : Option Value} (hc : Ct q2 [x0] h none h1) (hv : CS q2) (hR : RM q q2) (hl : ((my q).cls, idx, my q2, host) ∈ nestM) (hd : decode (mb q) pc = .ok (.invokestatic idx, 3)) (hn : 1 = mp q2) (hw : osum st ≤ 8) (k : WW q (pc + 3) L st h1 r h') : WW q pc L (x0 :: st) h r h' := r_callSN hc hv hR hl hd hn rfl hw k
theorem r_cV1_2 {q q2 : MI} {pc idx ci n b : Nat} {L st : List Value} {x0 x1 : Value} {v : Value} {h h1 h' : Wd} {r : Option Value} {fs : List Value} {T : u_T} (hc : Ct q2 (.ref b :: [x0, x1]) h (some v) h1) (hv : CV q2) (hR : RM q q2) (hl : Cond.methodLink (my q).cls idx (my q2) ∈ gt) (hd : decode (mb q) pc = .ok (.invokevirtual idx, 3)) (hb : b < 76) (hh : h b = .inr (ci, fs)) (hcl : vwCl[ci]? = some ((my q2).cls, T, n)) (hn : 2 = mp q2) (hw : osum st ≤ 8) (k : WW q (pc + 3) L (v :: st) h1 r h') : WW q pc L (x1 :: x0 :: .ref b :: st) h r h' := r_callV hc hv hR hl hd hb hh hcl hn rfl hw k
theorem r_cV0_2 {q q2 : MI} {pc idx ci n b : Nat} {L st : List Value} {x0 x1 : Value} {h h1 h' : Wd} {r : Option Value} {fs : List Value} {T : u_T} (hc : Ct q2 (.ref b :: [x0, x1]) h none h1) (hv : CV q2) (hR : RM q q2) (hl : Cond.methodLink (my q).cls idx (my q2) ∈ gt) (hd : decode (mb q) pc = .ok (.invokevirtual idx, 3)) (hb : b < 76) (hh : h b = .inr (ci, fs)) (hcl : vwCl[ci]? = some ((my q2).cls, T, n)) (hn : 2 = mp q2) (hw : osum st ≤ 8) (k : WW q (pc + 3) L st h1 r h') : WW q pc L (x1 :: x0 :: .ref b :: st) h r h' := r_callV hc hv hR hl hd hb hh hcl hn rfl hw k
theorem r_cS1_2 {q q2 : MI} {pc idx : Nat} {L st : List Value} {x0 x1 : Value} {v : Value} {h h1 h' : Wd} {r : Option Value} (hc : Ct q2 [x0, x1] h (some v) h1) (hv : CS q2) (hR : RM q q2) (hl : Cond.methodLink (my q).cls idx (my q2) ∈ gt) (hd : decode (mb q) pc = .ok (.invokestatic idx, 3)) (hn : 2 = mp q2) (hw : osum st ≤ 8) (k : WW q (pc + 3) L (v :: st) h1 r h') : WW q pc L (x1 :: x0 :: st) h r h' := r_callS hc hv hR hl hd hn rfl hw k
theorem r_cS0_2 {q q2 : MI} {pc idx : Nat} {L st : List Value} {x0 x1 : Value} {h h1 h' : Wd} {r : Option Value} (hc : Ct q2 [x0, x1] h none h1) (hv : CS q2) (hR : RM q q2) (hl : Cond.methodLink (my q).cls idx (my q2) ∈ gt) (hd : decode (mb q) pc = .ok (.invokestatic idx, 3)) (hn : 2 = mp q2) (hw : osum st ≤ 8) (k : WW q (pc + 3) L st h1 r h') : WW q pc L (x1 :: x0 :: st) h r h' := r_callS hc hv hR hl hd hn rfl hw k
theorem r_cSN1_2 {q q2 : MI} {pc idx : Nat} {host : String} {L st : List Value} {x0 x1 : Value} {v : Value} {h h1 h' : Wd} {r : Option Value} (hc : Ct q2 [x0, x1] h (some v) h1) (hv : CS q2) (hR : RM q q2) (hl : ((my q).cls, idx, my q2, host) ∈ nestM) (hd : decode (mb q) pc = .ok (.invokestatic idx, 3)) (hn : 2 = mp q2) (hw : osum st ≤ 8) (k : WW q (pc + 3) L (v :: st) h1 r h') : WW q pc L (x1 :: x0 :: st) h r h' := r_callSN hc hv hR hl hd hn rfl hw k
theorem r_cSN0_2 {q q2 : MI} {pc idx : Nat} {host : String} {L st : List Value} {x0 x1 : Value} {h h1 h' : Wd} {r : Option Value} (hc : Ct q2 [x0, x1] h none h1) (hv : CS q2) (hR : RM q q2) (hl : ((my q).cls, idx, my q2, host) ∈ nestM) (hd : decode (mb q) pc = .ok (.invokestatic idx, 3)) (hn : 2 = mp q2) (hw : osum st ≤ 8) (k : WW q (pc + 3) L st h1 r h') : WW q pc L (x1 :: x0 :: st) h r h' := r_callSN hc hv hR hl hd hn rfl hw k
theorem r_cV1_3 {q q2 : MI} {pc idx ci n b : Nat} {L st : List Value} {x0 x1 x2 : Value} {v : Value} {h h1 h' : Wd} {r : Option Value} {fs : List Value} {T : u_T} (hc : Ct q2 (.ref b :: [x0, x1, x2]) h (some v) h1) (hv : CV q2) (hR : RM q q2) (hl : Cond.methodLink (my q).cls idx (my q2) ∈ gt) (hd : decode (mb q) pc = .ok (.invokevirtual idx, 3)) (hb : b < 76) (hh : h b = .inr (ci, fs)) (hcl : vwCl[ci]? = some ((my q2).cls, T, n)) (hn : 3 = mp q2) (hw : osum st ≤ 8) (k : WW q (pc + 3) L (v :: st) h1 r h') : WW q pc L (x2 :: x1 :: x0 :: .ref b :: st) h r h' := r_callV hc hv hR hl hd hb hh hcl hn rfl hw k
theorem r_cV0_3 {q q2 : MI} {pc idx ci n b : Nat} {L st : List Value} {x0 x1 x2 : Value} {h h1 h' : Wd} {r : Option Value} {fs : List Value} {T : u_T} (hc : Ct q2 (.ref b :: [x0, x1, x2]) h none h1) (hv : CV q2) (hR : RM q q2) (hl : Cond.methodLink (my q).cls idx (my q2) ∈ gt) (hd : decode (mb q) pc = .ok (.invokevirtual idx, 3)) (hb : b < 76) (hh : h b = .inr (ci, fs)) (hcl : vwCl[ci]? = some ((my q2).cls, T, n)) (hn : 3 = mp q2) (hw : osum st ≤ 8) (k : WW q (pc + 3) L st h1 r h') : WW q pc L (x2 :: x1 :: x0 :: .ref b :: st) h r h' := r_callV hc hv hR hl hd hb hh hcl hn rfl hw k
theorem r_cS1_3 {q q2 : MI} {pc idx : Nat} {L st : List Value} {x0 x1 x2 : Value} {v : Value} {h h1 h' : Wd} {r : Option Value} (hc : Ct q2 [x0, x1, x2] h (some v) h1) (hv : CS q2) (hR : RM q q2) (hl : Cond.methodLink (my q).cls idx (my q2) ∈ gt) (hd : decode (mb q) pc = .ok (.invokestatic idx, 3)) (hn : 3 = mp q2) (hw : osum st ≤ 8) (k : WW q (pc + 3) L (v :: st) h1 r h') : WW q pc L (x2 :: x1 :: x0 :: st) h r h' := r_callS hc hv hR hl hd hn rfl hw k
theorem r_cS0_3 {q q2 : MI} {pc idx : Nat} {L st : List Value} {x0 x1 x2 : Value} {h h1 h' : Wd} {r : Option Value} (hc : Ct q2 [x0, x1, x2] h none h1) (hv : CS q2) (hR : RM q q2) (hl : Cond.methodLink (my q).cls idx (my q2) ∈ gt) (hd : decode (mb q) pc = .ok (.invokestatic idx, 3)) (hn : 3 = mp q2) (hw : osum st ≤ 8) (k : WW q (pc + 3) L st h1 r h') : WW q pc L (x2 :: x1 :: x0 :: st) h r h' := r_callS hc hv hR hl hd hn rfl hw k
theorem r_cSN1_3 {q q2 : MI} {pc idx : Nat} {host : String} {L st : List Value} {x0 x1 x2 : Value} {v : Value} {h h1 h' : Wd} {r : Option Value} (hc : Ct q2 [x0, x1, x2] h (some v) h1) (hv : CS q2) (hR : RM q q2) (hl : ((my q).cls, idx, my q2, host) ∈ nestM) (hd : decode (mb q) pc = .ok (.invokestatic idx, 3)) (hn : 3 = mp q2) (hw : osum st ≤ 8) (k : WW q (pc + 3) L (v :: st) h1 r h') : WW q pc L (x2 :: x1 :: x0 :: st) h r h' := r_callSN hc hv hR hl hd hn rfl hw k
theorem r_cSN0_3 {q q2 : MI} {pc idx : Nat} {host : String} {L st : List Value} {x0 x1 x2 : Value} {h h1 h' : Wd} {r : Option Value} (hc : Ct q2 [x0, x1, x2] h none h1) (hv : CS q2) (hR : RM q q2) (hl : ((my q).cls, idx, my q2, host) ∈ nestM) (hd : decode (mb q) pc = .ok (.invokestatic idx, 3)) (hn : 3 = mp q2) (hw : osum st ≤ 8) (k : WW q (pc + 3) L st h1 r h') : WW q pc L (x2 :: x1 :: x0 :: st) h r h' := r_callSN hc hv hR hl hd hn rfl hw k
theorem r_cV1_4 {q q2 : MI} {pc idx ci n b : Nat} {L st : List Value} {x0 x1 x2 x3 : Value} {v : Value} {h h1 h' : Wd} {r : Option Value} {fs : List Value} {T : u_T} (hc : Ct q2 (.ref b :: [x0, x1, x2, x3]) h (some v) h1) (hv : CV q2) (hR : RM q q2) (hl : Cond.methodLink (my q).cls idx (my q2) ∈ gt) (hd : decode (mb q) pc = .ok (.invokevirtual idx, 3)) (hb : b < 76) (hh : h b = .inr (ci, fs)) (hcl : vwCl[ci]? = some ((my q2).cls, T, n)) (hn : 4 = mp q2) (hw : osum st ≤ 8) (k : WW q (pc + 3) L (v :: st) h1 r h') : WW q pc L (x3 :: x2 :: x1 :: x0 :: .ref b :: st) h r h' := r_callV hc hv hR hl hd hb hh hcl hn rfl hw k
theorem r_cV0_4 {q q2 : MI} {pc idx ci n b : Nat} {L st : List Value} {x0 x1 x2 x3 : Value} {h h1 h' : Wd} {r : Option Value} {fs : List Value} {T : u_T} (hc : Ct q2 (.ref b :: [x0, x1, x2, x3]) h none h1) (hv : CV q2) (hR : RM q q2) (hl : Cond.methodLink (my q).cls idx (my q2) ∈ gt) (hd : decode (mb q) pc = .ok (.invokevirtual idx, 3)) (hb : b < 76) (hh : h b = .inr (ci, fs)) (hcl : vwCl[ci]? = some ((my q2).cls, T, n)) (hn : 4 = mp q2) (hw : osum st ≤ 8) (k : WW q (pc + 3) L st h1 r h') : WW q pc L (x3 :: x2 :: x1 :: x0 :: .ref b :: st) h r h' := r_callV hc hv hR hl hd hb hh hcl hn rfl hw k
theorem r_cS1_4 {q q2 : MI} {pc idx : Nat} {L st : List Value} {x0 x1 x2 x3 : Value} {v : Value} {h h1 h' : Wd} {r : Option Value} (hc : Ct q2 [x0, x1, x2, x3] h (some v) h1) (hv : CS q2) (hR : RM q q2) (hl : Cond.methodLink (my q).cls idx (my q2) ∈ gt) (hd : decode (mb q) pc = .ok (.invokestatic idx, 3)) (hn : 4 = mp q2) (hw : osum st ≤ 8) (k : WW q (pc + 3) L (v :: st) h1 r h') : WW q pc L (x3 :: x2 :: x1 :: x0 :: st) h r h' := r_callS hc hv hR hl hd hn rfl hw k
theorem r_cS0_4 {q q2 : MI} {pc idx : Nat} {L st : List Value} {x0 x1 x2 x3 : Value} {h h1 h' : Wd} {r : Option Value} (hc : Ct q2 [x0, x1, x2, x3] h none h1) (hv : CS q2) (hR : RM q q2) (hl : Cond.methodLink (my q).cls idx (my q2) ∈ gt) (hd : decode (mb q) pc = .ok (.invokestatic idx, 3)) (hn : 4 = mp q2) (hw : osum st ≤ 8) (k : WW q (pc + 3) L st h1 r h') : WW q pc L (x3 :: x2 :: x1 :: x0 :: st) h r h' := r_callS hc hv hR hl hd hn rfl hw k
theorem r_cSN1_4 {q q2 : MI} {pc idx : Nat} {host : String} {L st : List Value} {x0 x1 x2 x3 : Value} {v : Value} {h h1 h' : Wd} {r : Option Value} (hc : Ct q2 [x0, x1, x2, x3] h (some v) h1) (hv : CS q2) (hR : RM q q2) (hl : ((my q).cls, idx, my q2, host) ∈ nestM) (hd : decode (mb q) pc = .ok (.invokestatic idx, 3)) (hn : 4 = mp q2) (hw : osum st ≤ 8) (k : WW q (pc + 3) L (v :: st) h1 r h') : WW q pc L (x3 :: x2 :: x1 :: x0 :: st) h r h' := r_callSN hc hv hR hl hd hn rfl hw k
theorem r_cSN0_4 {q q2 : MI} {pc idx : Nat} {host : String} {L st : List Value} {x0 x1 x2 x3 : Value} {h h1 h' : Wd} {r : Option Value} (hc : Ct q2 [x0, x1, x2, x3] h none h1) (hv : CS q2) (hR : RM q q2) (hl : ((my q).cls, idx, my q2, host) ∈ nestM) (hd : decode (mb q) pc = .ok (.invokestatic idx, 3)) (hn : 4 = mp q2) (hw : osum st ≤ 8) (k : WW q (pc + 3) L st h1 r h') : WW q pc L (x3 :: x2 :: x1 :: x0 :: st) h r h' := r_callSN hc hv hR hl hd hn rfl hw k
theorem r_inc_0 {q : MI} {pc : Nat} {st : List Value} {h h' : Wd} {r : Option Value} {t : List Value} {j : Nat} (hd : decode (mb q) pc = .ok (.iinc 0 1, 3)) (hn : 0 < mn q) (k : WW q (pc + 3) (.int (nI (j + 1)) :: t) st h r h') : WW q pc (.int (nI j) :: t) st h r h' := r_iinc_0 1 hd (by decide) hn (by rw [← nI_succ]; exact k)
theorem r_inc_1 {q : MI} {pc : Nat} {st : List Value} {h h' : Wd} {r : Option Value} {a0 : Value} {t : List Value} {j : Nat} (hd : decode (mb q) pc = .ok (.iinc 1 1, 3)) (hc : a0.category = 1) (hn : 1 < mn q) (k : WW q (pc + 3) (a0 :: .int (nI (j + 1)) :: t) st h r h') : WW q pc (a0 :: .int (nI j) :: t) st h r h' := r_iinc_1 1 hd (by decide) hc hn (by rw [← nI_succ]; exact k)
theorem r_inc_2 {q : MI} {pc : Nat} {st : List Value} {h h' : Wd} {r : Option Value} {a0 a1 : Value} {t : List Value} {j : Nat} (hd : decode (mb q) pc = .ok (.iinc 2 1, 3)) (hc : a1.category = 1) (hn : 2 < mn q) (k : WW q (pc + 3) (a0 :: a1 :: .int (nI (j + 1)) :: t) st h r h') : WW q pc (a0 :: a1 :: .int (nI j) :: t) st h r h' := r_iinc_2 1 hd (by decide) hc hn (by rw [← nI_succ]; exact k)
theorem r_inc_3 {q : MI} {pc : Nat} {st : List Value} {h h' : Wd} {r : Option Value} {a0 a1 a2 : Value} {t : List Value} {j : Nat} (hd : decode (mb q) pc = .ok (.iinc 3 1, 3)) (hc : a2.category = 1) (hn : 3 < mn q) (k : WW q (pc + 3) (a0 :: a1 :: a2 :: .int (nI (j + 1)) :: t) st h r h') : WW q pc (a0 :: a1 :: a2 :: .int (nI j) :: t) st h r h' := r_iinc_3 1 hd (by decide) hc hn (by rw [← nI_succ]; exact k)
theorem r_inc_4 {q : MI} {pc : Nat} {st : List Value} {h h' : Wd} {r : Option Value} {a0 a1 a2 a3 : Value} {t : List Value} {j : Nat} (hd : decode (mb q) pc = .ok (.iinc 4 1, 3)) (hc : a3.category = 1) (hn : 4 < mn q) (k : WW q (pc + 3) (a0 :: a1 :: a2 :: a3 :: .int (nI (j + 1)) :: t) st h r h') : WW q pc (a0 :: a1 :: a2 :: a3 :: .int (nI j) :: t) st h r h' := r_iinc_4 1 hd (by decide) hc hn (by rw [← nI_succ]; exact k)
theorem r_inc_5 {q : MI} {pc : Nat} {st : List Value} {h h' : Wd} {r : Option Value} {a0 a1 a2 a3 a4 : Value} {t : List Value} {j : Nat} (hd : decode (mb q) pc = .ok (.iinc 5 1, 3)) (hc : a4.category = 1) (hn : 5 < mn q) (k : WW q (pc + 3) (a0 :: a1 :: a2 :: a3 :: a4 :: .int (nI (j + 1)) :: t) st h r h') : WW q pc (a0 :: a1 :: a2 :: a3 :: a4 :: .int (nI j) :: t) st h r h' := r_iinc_5 1 hd (by decide) hc hn (by rw [← nI_succ]; exact k)
theorem r_inc_6 {q : MI} {pc : Nat} {st : List Value} {h h' : Wd} {r : Option Value} {a0 a1 a2 a3 a4 a5 : Value} {t : List Value} {j : Nat} (hd : decode (mb q) pc = .ok (.iinc 6 1, 3)) (hc : a5.category = 1) (hn : 6 < mn q) (k : WW q (pc + 3) (a0 :: a1 :: a2 :: a3 :: a4 :: a5 :: .int (nI (j + 1)) :: t) st h r h') : WW q pc (a0 :: a1 :: a2 :: a3 :: a4 :: a5 :: .int (nI j) :: t) st h r h' := r_iinc_6 1 hd (by decide) hc hn (by rw [← nI_succ]; exact k)
theorem r_inc_7 {q : MI} {pc : Nat} {st : List Value} {h h' : Wd} {r : Option Value} {a0 a1 a2 a3 a4 a5 a6 : Value} {t : List Value} {j : Nat} (hd : decode (mb q) pc = .ok (.iinc 7 1, 3)) (hc : a6.category = 1) (hn : 7 < mn q) (k : WW q (pc + 3) (a0 :: a1 :: a2 :: a3 :: a4 :: a5 :: a6 :: .int (nI (j + 1)) :: t) st h r h') : WW q pc (a0 :: a1 :: a2 :: a3 :: a4 :: a5 :: a6 :: .int (nI j) :: t) st h r h' := r_iinc_7 1 hd (by decide) hc hn (by rw [← nI_succ]; exact k)
theorem r_inc_8 {q : MI} {pc : Nat} {st : List Value} {h h' : Wd} {r : Option Value} {a0 a1 a2 a3 a4 a5 a6 a7 : Value} {t : List Value} {j : Nat} (hd : decode (mb q) pc = .ok (.iinc 8 1, 3)) (hc : a7.category = 1) (hn : 8 < mn q) (k : WW q (pc + 3) (a0 :: a1 :: a2 :: a3 :: a4 :: a5 :: a6 :: a7 :: .int (nI (j + 1)) :: t) st h r h') : WW q pc (a0 :: a1 :: a2 :: a3 :: a4 :: a5 :: a6 :: a7 :: .int (nI j) :: t) st h r h' := r_iinc_8 1 hd (by decide) hc hn (by rw [← nI_succ]; exact k)
theorem r_inc_9 {q : MI} {pc : Nat} {st : List Value} {h h' : Wd} {r : Option Value} {a0 a1 a2 a3 a4 a5 a6 a7 a8 : Value} {t : List Value} {j : Nat} (hd : decode (mb q) pc = .ok (.iinc 9 1, 3)) (hc : a8.category = 1) (hn : 9 < mn q) (k : WW q (pc + 3) (a0 :: a1 :: a2 :: a3 :: a4 :: a5 :: a6 :: a7 :: a8 :: .int (nI (j + 1)) :: t) st h r h') : WW q pc (a0 :: a1 :: a2 :: a3 :: a4 :: a5 :: a6 :: a7 :: a8 :: .int (nI j) :: t) st h r h' := r_iinc_9 1 hd (by decide) hc hn (by rw [← nI_succ]; exact k)
theorem r_inc_10 {q : MI} {pc : Nat} {st : List Value} {h h' : Wd} {r : Option Value} {a0 a1 a2 a3 a4 a5 a6 a7 a8 a9 : Value} {t : List Value} {j : Nat} (hd : decode (mb q) pc = .ok (.iinc 10 1, 3)) (hc : a9.category = 1) (hn : 10 < mn q) (k : WW q (pc + 3) (a0 :: a1 :: a2 :: a3 :: a4 :: a5 :: a6 :: a7 :: a8 :: a9 :: .int (nI (j + 1)) :: t) st h r h') : WW q pc (a0 :: a1 :: a2 :: a3 :: a4 :: a5 :: a6 :: a7 :: a8 :: a9 :: .int (nI j) :: t) st h r h' := r_iinc_10 1 hd (by decide) hc hn (by rw [← nI_succ]; exact k)
theorem r_inc_11 {q : MI} {pc : Nat} {st : List Value} {h h' : Wd} {r : Option Value} {a0 a1 a2 a3 a4 a5 a6 a7 a8 a9 a10 : Value} {t : List Value} {j : Nat} (hd : decode (mb q) pc = .ok (.iinc 11 1, 3)) (hc : a10.category = 1) (hn : 11 < mn q) (k : WW q (pc + 3) (a0 :: a1 :: a2 :: a3 :: a4 :: a5 :: a6 :: a7 :: a8 :: a9 :: a10 :: .int (nI (j + 1)) :: t) st h r h') : WW q pc (a0 :: a1 :: a2 :: a3 :: a4 :: a5 :: a6 :: a7 :: a8 :: a9 :: a10 :: .int (nI j) :: t) st h r h' := r_iinc_11 1 hd (by decide) hc hn (by rw [← nI_succ]; exact k)
theorem r_inc_12 {q : MI} {pc : Nat} {st : List Value} {h h' : Wd} {r : Option Value} {a0 a1 a2 a3 a4 a5 a6 a7 a8 a9 a10 a11 : Value} {t : List Value} {j : Nat} (hd : decode (mb q) pc = .ok (.iinc 12 1, 3)) (hc : a11.category = 1) (hn : 12 < mn q) (k : WW q (pc + 3) (a0 :: a1 :: a2 :: a3 :: a4 :: a5 :: a6 :: a7 :: a8 :: a9 :: a10 :: a11 :: .int (nI (j + 1)) :: t) st h r h') : WW q pc (a0 :: a1 :: a2 :: a3 :: a4 :: a5 :: a6 :: a7 :: a8 :: a9 :: a10 :: a11 :: .int (nI j) :: t) st h r h' := r_iinc_12 1 hd (by decide) hc hn (by rw [← nI_succ]; exact k)
theorem r_inc_13 {q : MI} {pc : Nat} {st : List Value} {h h' : Wd} {r : Option Value} {a0 a1 a2 a3 a4 a5 a6 a7 a8 a9 a10 a11 a12 : Value} {t : List Value} {j : Nat} (hd : decode (mb q) pc = .ok (.iinc 13 1, 3)) (hc : a12.category = 1) (hn : 13 < mn q) (k : WW q (pc + 3) (a0 :: a1 :: a2 :: a3 :: a4 :: a5 :: a6 :: a7 :: a8 :: a9 :: a10 :: a11 :: a12 :: .int (nI (j + 1)) :: t) st h r h') : WW q pc (a0 :: a1 :: a2 :: a3 :: a4 :: a5 :: a6 :: a7 :: a8 :: a9 :: a10 :: a11 :: a12 :: .int (nI j) :: t) st h r h' := r_iinc_13 1 hd (by decide) hc hn (by rw [← nI_succ]; exact k)
abbrev Camp : Type := (Nat → Int32) × (Nat → Int32) × (Nat → Int32) × (Nat → Int32) × (Nat → Int64) × (Nat → Int32) × Int32 × Int32 × Int32 × Int32
def wc_goldOn (c : Camp) : Nat → Int32 := c.1
def wc_s_goldOn (c : Camp) (v : Nat → Int32) : Camp := (v, c.2.1, c.2.2.1, c.2.2.2.1, c.2.2.2.2.1, c.2.2.2.2.2.1, c.2.2.2.2.2.2.1, c.2.2.2.2.2.2.2.1, c.2.2.2.2.2.2.2.2.1, c.2.2.2.2.2.2.2.2.2)
def wc_claimers (c : Camp) : Nat → Int32 := c.2.1
def wc_s_claimers (c : Camp) (v : Nat → Int32) : Camp := (c.1, v, c.2.2.1, c.2.2.2.1, c.2.2.2.2.1, c.2.2.2.2.2.1, c.2.2.2.2.2.2.1, c.2.2.2.2.2.2.2.1, c.2.2.2.2.2.2.2.2.1, c.2.2.2.2.2.2.2.2.2)
def wc_tents (c : Camp) : Nat → Int32 := c.2.2.1
def wc_s_tents (c : Camp) (v : Nat → Int32) : Camp := (c.1, c.2.1, v, c.2.2.2.1, c.2.2.2.2.1, c.2.2.2.2.2.1, c.2.2.2.2.2.2.1, c.2.2.2.2.2.2.2.1, c.2.2.2.2.2.2.2.2.1, c.2.2.2.2.2.2.2.2.2)
def wc_salts (c : Camp) : Nat → Int32 := c.2.2.2.1
def wc_s_salts (c : Camp) (v : Nat → Int32) : Camp := (c.1, c.2.1, c.2.2.1, v, c.2.2.2.2.1, c.2.2.2.2.2.1, c.2.2.2.2.2.2.1, c.2.2.2.2.2.2.2.1, c.2.2.2.2.2.2.2.2.1, c.2.2.2.2.2.2.2.2.2)
def wc_known (c : Camp) : Nat → Int64 := c.2.2.2.2.1
def wc_s_known (c : Camp) (v : Nat → Int64) : Camp := (c.1, c.2.1, c.2.2.1, c.2.2.2.1, v, c.2.2.2.2.2.1, c.2.2.2.2.2.2.1, c.2.2.2.2.2.2.2.1, c.2.2.2.2.2.2.2.2.1, c.2.2.2.2.2.2.2.2.2)
def wc_snores (c : Camp) : Nat → Int32 := c.2.2.2.2.2.1
def wc_s_snores (c : Camp) (v : Nat → Int32) : Camp := (c.1, c.2.1, c.2.2.1, c.2.2.2.1, c.2.2.2.2.1, v, c.2.2.2.2.2.2.1, c.2.2.2.2.2.2.2.1, c.2.2.2.2.2.2.2.2.1, c.2.2.2.2.2.2.2.2.2)
def wc_men (c : Camp) : Int32 := c.2.2.2.2.2.2.1
def wc_s_men (c : Camp) (v : Int32) : Camp := (c.1, c.2.1, c.2.2.1, c.2.2.2.1, c.2.2.2.2.1, c.2.2.2.2.2.1, v, c.2.2.2.2.2.2.2.1, c.2.2.2.2.2.2.2.2.1, c.2.2.2.2.2.2.2.2.2)
def wc_withCold (c : Camp) : Int32 := c.2.2.2.2.2.2.2.1
def wc_s_withCold (c : Camp) (v : Int32) : Camp := (c.1, c.2.1, c.2.2.1, c.2.2.2.1, c.2.2.2.2.1, c.2.2.2.2.2.1, c.2.2.2.2.2.2.1, v, c.2.2.2.2.2.2.2.2.1, c.2.2.2.2.2.2.2.2.2)
def wc_whistling (c : Camp) : Int32 := c.2.2.2.2.2.2.2.2.1
def wc_s_whistling (c : Camp) (v : Int32) : Camp := (c.1, c.2.1, c.2.2.1, c.2.2.2.1, c.2.2.2.2.1, c.2.2.2.2.2.1, c.2.2.2.2.2.2.1, c.2.2.2.2.2.2.2.1, v, c.2.2.2.2.2.2.2.2.2)
def wc_womans (c : Camp) : Int32 := c.2.2.2.2.2.2.2.2.2
def wc_s_womans (c : Camp) (v : Int32) : Camp := (c.1, c.2.1, c.2.2.1, c.2.2.2.1, c.2.2.2.2.1, c.2.2.2.2.2.1, c.2.2.2.2.2.2.1, c.2.2.2.2.2.2.2.1, c.2.2.2.2.2.2.2.2.1, v)
def wc_obj (k : Nat) (c : Camp) : List Value := [.ref (k + 1), .ref (k + 2), .ref (k + 3), .ref (k + 4), .ref (k + 5), .ref (k + 6), .int (wc_men c), .int (wc_withCold c), .int (wc_whistling c), .int (wc_womans c)]
def wc (h : Wd) (k : Nat) (c : Camp) : Wd := fun j => if j = k then .inr (0, wc_obj k c) else if j = k + 1 then .inl (0, 64, .inl (wc_goldOn c)) else if j = k + 2 then .inl (0, 64, .inl (wc_claimers c)) else if j = k + 3 then .inl (0, 6, .inl (wc_tents c)) else if j = k + 4 then .inl (0, 6, .inl (wc_salts c)) else if j = k + 5 then .inl (1, 6, .inr (.inl (wc_known c))) else if j = k + 6 then .inl (0, 6, .inl (wc_snores c)) else h j
theorem wc_o (h : Wd) (k : Nat) (c : Camp) : wc h k c k = .inr (0, wc_obj k c) := by simp [wc]
theorem wc_a_goldOn (h : Wd) (k : Nat) (c : Camp) : wc h k c (k + 1) = .inl (0, 64, .inl (wc_goldOn c)) := by simp [wc]
theorem wc_a_claimers (h : Wd) (k : Nat) (c : Camp) : wc h k c (k + 2) = .inl (0, 64, .inl (wc_claimers c)) := by simp [wc]
theorem wc_a_tents (h : Wd) (k : Nat) (c : Camp) : wc h k c (k + 3) = .inl (0, 6, .inl (wc_tents c)) := by simp [wc]
theorem wc_a_salts (h : Wd) (k : Nat) (c : Camp) : wc h k c (k + 4) = .inl (0, 6, .inl (wc_salts c)) := by simp [wc]
theorem wc_a_known (h : Wd) (k : Nat) (c : Camp) : wc h k c (k + 5) = .inl (1, 6, .inr (.inl (wc_known c))) := by simp [wc]
theorem wc_a_snores (h : Wd) (k : Nat) (c : Camp) : wc h k c (k + 6) = .inl (0, 6, .inl (wc_snores c)) := by simp [wc]
theorem wc_wc (h : Wd) (k : Nat) (c c2 : Camp) : wc (wc h k c) k c2 = wc h k c2 := by
  funext j
  simp only [wc]
  by_cases e0 : j = k
  · simp only [if_pos e0]
  by_cases e1 : j = k + 1
  · simp only [if_neg e0, if_pos e1]
  by_cases e2 : j = k + 2
  · simp only [if_neg e0, if_neg e1, if_pos e2]
  by_cases e3 : j = k + 3
  · simp only [if_neg e0, if_neg e1, if_neg e2, if_pos e3]
  by_cases e4 : j = k + 4
  · simp only [if_neg e0, if_neg e1, if_neg e2, if_neg e3, if_pos e4]
  by_cases e5 : j = k + 5
  · simp only [if_neg e0, if_neg e1, if_neg e2, if_neg e3, if_neg e4, if_pos e5]
  by_cases e6 : j = k + 6
  · simp only [if_neg e0, if_neg e1, if_neg e2, if_neg e3, if_neg e4, if_neg e5, if_pos e6]
  simp only [if_neg e0, if_neg e1, if_neg e2, if_neg e3, if_neg e4, if_neg e5, if_neg e6]
theorem wc_u_goldOn (h : Wd) (k : Nat) (c : Camp) (v : Nat → Int32) : va_up (wc h k c) (k + 1) (.inl (0, 64, .inl v)) = wc h k (wc_s_goldOn c v) := by
  funext j
  by_cases hj : j = k + 1
  · subst hj
    rw [va_up_self, wc_a_goldOn]
    rfl
  · rw [va_up_ne _ _ hj]
    simp only [wc, if_neg hj]
    all_goals rfl
theorem wc_u_claimers (h : Wd) (k : Nat) (c : Camp) (v : Nat → Int32) : va_up (wc h k c) (k + 2) (.inl (0, 64, .inl v)) = wc h k (wc_s_claimers c v) := by
  funext j
  by_cases hj : j = k + 2
  · subst hj
    rw [va_up_self, wc_a_claimers]
    rfl
  · rw [va_up_ne _ _ hj]
    simp only [wc, if_neg hj]
    all_goals rfl
theorem wc_u_tents (h : Wd) (k : Nat) (c : Camp) (v : Nat → Int32) : va_up (wc h k c) (k + 3) (.inl (0, 6, .inl v)) = wc h k (wc_s_tents c v) := by
  funext j
  by_cases hj : j = k + 3
  · subst hj
    rw [va_up_self, wc_a_tents]
    rfl
  · rw [va_up_ne _ _ hj]
    simp only [wc, if_neg hj]
    all_goals rfl
theorem wc_u_salts (h : Wd) (k : Nat) (c : Camp) (v : Nat → Int32) : va_up (wc h k c) (k + 4) (.inl (0, 6, .inl v)) = wc h k (wc_s_salts c v) := by
  funext j
  by_cases hj : j = k + 4
  · subst hj
    rw [va_up_self, wc_a_salts]
    rfl
  · rw [va_up_ne _ _ hj]
    simp only [wc, if_neg hj]
    all_goals rfl
theorem wc_u_known (h : Wd) (k : Nat) (c : Camp) (v : Nat → Int64) : va_up (wc h k c) (k + 5) (.inl (1, 6, .inr (.inl v))) = wc h k (wc_s_known c v) := by
  funext j
  by_cases hj : j = k + 5
  · subst hj
    rw [va_up_self, wc_a_known]
    rfl
  · rw [va_up_ne _ _ hj]
    simp only [wc, if_neg hj]
    all_goals rfl
theorem wc_u_snores (h : Wd) (k : Nat) (c : Camp) (v : Nat → Int32) : va_up (wc h k c) (k + 6) (.inl (0, 6, .inl v)) = wc h k (wc_s_snores c v) := by
  funext j
  by_cases hj : j = k + 6
  · subst hj
    rw [va_up_self, wc_a_snores]
    rfl
  · rw [va_up_ne _ _ hj]
    simp only [wc, if_neg hj]
    all_goals rfl
theorem wc_u_men (h : Wd) (k : Nat) (c : Camp) (v : Int32) : va_up (wc h k c) k (.inr (0, (wc_obj k c).set 6 (.int v))) = wc h k (wc_s_men c v) := by
  funext j
  by_cases hj : j = k
  · subst hj
    rw [va_up_self, wc_o]
    rfl
  · rw [va_up_ne _ _ hj]
    simp only [wc, if_neg hj]
    all_goals rfl
theorem wc_u_withCold (h : Wd) (k : Nat) (c : Camp) (v : Int32) : va_up (wc h k c) k (.inr (0, (wc_obj k c).set 7 (.int v))) = wc h k (wc_s_withCold c v) := by
  funext j
  by_cases hj : j = k
  · subst hj
    rw [va_up_self, wc_o]
    rfl
  · rw [va_up_ne _ _ hj]
    simp only [wc, if_neg hj]
    all_goals rfl
theorem wc_u_whistling (h : Wd) (k : Nat) (c : Camp) (v : Int32) : va_up (wc h k c) k (.inr (0, (wc_obj k c).set 8 (.int v))) = wc h k (wc_s_whistling c v) := by
  funext j
  by_cases hj : j = k
  · subst hj
    rw [va_up_self, wc_o]
    rfl
  · rw [va_up_ne _ _ hj]
    simp only [wc, if_neg hj]
    all_goals rfl
theorem wc_u_womans (h : Wd) (k : Nat) (c : Camp) (v : Int32) : va_up (wc h k c) k (.inr (0, (wc_obj k c).set 9 (.int v))) = wc h k (wc_s_womans c v) := by
  funext j
  by_cases hj : j = k
  · subst hj
    rw [va_up_self, wc_o]
    rfl
  · rw [va_up_ne _ _ hj]
    simp only [wc, if_neg hj]
    all_goals rfl
theorem r_wc_get_goldOn {q : MI} {pc : Nat} {L st : List Value} {h h' : Wd} {r : Option Value} {k : Nat} {c : Camp} {idx : Nat} (hk : k + 6 < 76) (hl : Cond.fieldLink (my q).cls idx "SnoresGold$Camp" "goldOn" "[I" ∈ gt) (hd : decode (mb q) pc = .ok (.getfield idx, 3)) (kk : WW q (pc + 3) L (.ref (k + 1) :: st) (wc h k c) r h') : WW q pc L (.ref k :: st) (wc h k c) r h' := r_get (k := 0) hd (ci := 0) rfl la_X0 hl (by decide) (by omega) (wc_o h k c) rfl kk
theorem r_wc_get_claimers {q : MI} {pc : Nat} {L st : List Value} {h h' : Wd} {r : Option Value} {k : Nat} {c : Camp} {idx : Nat} (hk : k + 6 < 76) (hl : Cond.fieldLink (my q).cls idx "SnoresGold$Camp" "claimers" "[I" ∈ gt) (hd : decode (mb q) pc = .ok (.getfield idx, 3)) (kk : WW q (pc + 3) L (.ref (k + 2) :: st) (wc h k c) r h') : WW q pc L (.ref k :: st) (wc h k c) r h' := r_get (k := 1) hd (ci := 0) rfl la_X0 hl (by decide) (by omega) (wc_o h k c) rfl kk
theorem r_wc_get_tents {q : MI} {pc : Nat} {L st : List Value} {h h' : Wd} {r : Option Value} {k : Nat} {c : Camp} {idx : Nat} (hk : k + 6 < 76) (hl : Cond.fieldLink (my q).cls idx "SnoresGold$Camp" "tents" "[I" ∈ gt) (hd : decode (mb q) pc = .ok (.getfield idx, 3)) (kk : WW q (pc + 3) L (.ref (k + 3) :: st) (wc h k c) r h') : WW q pc L (.ref k :: st) (wc h k c) r h' := r_get (k := 2) hd (ci := 0) rfl la_X0 hl (by decide) (by omega) (wc_o h k c) rfl kk
theorem r_wc_get_salts {q : MI} {pc : Nat} {L st : List Value} {h h' : Wd} {r : Option Value} {k : Nat} {c : Camp} {idx : Nat} (hk : k + 6 < 76) (hl : Cond.fieldLink (my q).cls idx "SnoresGold$Camp" "salts" "[I" ∈ gt) (hd : decode (mb q) pc = .ok (.getfield idx, 3)) (kk : WW q (pc + 3) L (.ref (k + 4) :: st) (wc h k c) r h') : WW q pc L (.ref k :: st) (wc h k c) r h' := r_get (k := 3) hd (ci := 0) rfl la_X0 hl (by decide) (by omega) (wc_o h k c) rfl kk
theorem r_wc_get_known {q : MI} {pc : Nat} {L st : List Value} {h h' : Wd} {r : Option Value} {k : Nat} {c : Camp} {idx : Nat} (hk : k + 6 < 76) (hl : Cond.fieldLink (my q).cls idx "SnoresGold$Camp" "known" "[J" ∈ gt) (hd : decode (mb q) pc = .ok (.getfield idx, 3)) (kk : WW q (pc + 3) L (.ref (k + 5) :: st) (wc h k c) r h') : WW q pc L (.ref k :: st) (wc h k c) r h' := r_get (k := 4) hd (ci := 0) rfl la_X0 hl (by decide) (by omega) (wc_o h k c) rfl kk
theorem r_wc_get_snores {q : MI} {pc : Nat} {L st : List Value} {h h' : Wd} {r : Option Value} {k : Nat} {c : Camp} {idx : Nat} (hk : k + 6 < 76) (hl : Cond.fieldLink (my q).cls idx "SnoresGold$Camp" "snores" "[I" ∈ gt) (hd : decode (mb q) pc = .ok (.getfield idx, 3)) (kk : WW q (pc + 3) L (.ref (k + 6) :: st) (wc h k c) r h') : WW q pc L (.ref k :: st) (wc h k c) r h' := r_get (k := 5) hd (ci := 0) rfl la_X0 hl (by decide) (by omega) (wc_o h k c) rfl kk
theorem r_wc_get_men {q : MI} {pc : Nat} {L st : List Value} {h h' : Wd} {r : Option Value} {k : Nat} {c : Camp} {idx : Nat} (hk : k + 6 < 76) (hl : Cond.fieldLink (my q).cls idx "SnoresGold$Camp" "men" "I" ∈ gt) (hd : decode (mb q) pc = .ok (.getfield idx, 3)) (kk : WW q (pc + 3) L (.int (wc_men c) :: st) (wc h k c) r h') : WW q pc L (.ref k :: st) (wc h k c) r h' := r_get (k := 6) hd (ci := 0) rfl la_X0 hl (by decide) (by omega) (wc_o h k c) rfl kk
theorem r_wc_put_men {q : MI} {pc : Nat} {L st : List Value} {h h' : Wd} {r : Option Value} {k : Nat} {c : Camp} {idx : Nat} {v : Int32} (hk : k + 6 < 76) (hl : Cond.fieldLink (my q).cls idx "SnoresGold$Camp" "men" "I" ∈ gt) (hd : decode (mb q) pc = .ok (.putfield idx, 3)) (kk : WW q (pc + 3) L st (wc h k (wc_s_men c v)) r h') : WW q pc L (.int v :: .ref k :: st) (wc h k c) r h' := r_put (k := 6) (ty := .int) hd (ci := 0) rfl la_X0 tyX0_ok nmX0 hl (by decide) rfl (by decide +kernel) rfl rfl (by omega) (wc_o h k c) (show 6 < 10 by decide) (by rw [wc_u_men]; exact kk)
theorem r_wc_get_withCold {q : MI} {pc : Nat} {L st : List Value} {h h' : Wd} {r : Option Value} {k : Nat} {c : Camp} {idx : Nat} (hk : k + 6 < 76) (hl : Cond.fieldLink (my q).cls idx "SnoresGold$Camp" "withCold" "I" ∈ gt) (hd : decode (mb q) pc = .ok (.getfield idx, 3)) (kk : WW q (pc + 3) L (.int (wc_withCold c) :: st) (wc h k c) r h') : WW q pc L (.ref k :: st) (wc h k c) r h' := r_get (k := 7) hd (ci := 0) rfl la_X0 hl (by decide) (by omega) (wc_o h k c) rfl kk
theorem r_wc_put_withCold {q : MI} {pc : Nat} {L st : List Value} {h h' : Wd} {r : Option Value} {k : Nat} {c : Camp} {idx : Nat} {v : Int32} (hk : k + 6 < 76) (hl : Cond.fieldLink (my q).cls idx "SnoresGold$Camp" "withCold" "I" ∈ gt) (hd : decode (mb q) pc = .ok (.putfield idx, 3)) (kk : WW q (pc + 3) L st (wc h k (wc_s_withCold c v)) r h') : WW q pc L (.int v :: .ref k :: st) (wc h k c) r h' := r_put (k := 7) (ty := .int) hd (ci := 0) rfl la_X0 tyX0_ok nmX0 hl (by decide) rfl (by decide +kernel) rfl rfl (by omega) (wc_o h k c) (show 7 < 10 by decide) (by rw [wc_u_withCold]; exact kk)
theorem r_wc_get_whistling {q : MI} {pc : Nat} {L st : List Value} {h h' : Wd} {r : Option Value} {k : Nat} {c : Camp} {idx : Nat} (hk : k + 6 < 76) (hl : Cond.fieldLink (my q).cls idx "SnoresGold$Camp" "whistling" "I" ∈ gt) (hd : decode (mb q) pc = .ok (.getfield idx, 3)) (kk : WW q (pc + 3) L (.int (wc_whistling c) :: st) (wc h k c) r h') : WW q pc L (.ref k :: st) (wc h k c) r h' := r_get (k := 8) hd (ci := 0) rfl la_X0 hl (by decide) (by omega) (wc_o h k c) rfl kk
theorem r_wc_put_whistling {q : MI} {pc : Nat} {L st : List Value} {h h' : Wd} {r : Option Value} {k : Nat} {c : Camp} {idx : Nat} {v : Int32} (hk : k + 6 < 76) (hl : Cond.fieldLink (my q).cls idx "SnoresGold$Camp" "whistling" "I" ∈ gt) (hd : decode (mb q) pc = .ok (.putfield idx, 3)) (kk : WW q (pc + 3) L st (wc h k (wc_s_whistling c v)) r h') : WW q pc L (.int v :: .ref k :: st) (wc h k c) r h' := r_put (k := 8) (ty := .int) hd (ci := 0) rfl la_X0 tyX0_ok nmX0 hl (by decide) rfl (by decide +kernel) rfl rfl (by omega) (wc_o h k c) (show 8 < 10 by decide) (by rw [wc_u_whistling]; exact kk)
theorem r_wc_get_womans {q : MI} {pc : Nat} {L st : List Value} {h h' : Wd} {r : Option Value} {k : Nat} {c : Camp} {idx : Nat} (hk : k + 6 < 76) (hl : Cond.fieldLink (my q).cls idx "SnoresGold$Camp" "womans" "I" ∈ gt) (hd : decode (mb q) pc = .ok (.getfield idx, 3)) (kk : WW q (pc + 3) L (.int (wc_womans c) :: st) (wc h k c) r h') : WW q pc L (.ref k :: st) (wc h k c) r h' := r_get (k := 9) hd (ci := 0) rfl la_X0 hl (by decide) (by omega) (wc_o h k c) rfl kk
theorem r_wc_put_womans {q : MI} {pc : Nat} {L st : List Value} {h h' : Wd} {r : Option Value} {k : Nat} {c : Camp} {idx : Nat} {v : Int32} (hk : k + 6 < 76) (hl : Cond.fieldLink (my q).cls idx "SnoresGold$Camp" "womans" "I" ∈ gt) (hd : decode (mb q) pc = .ok (.putfield idx, 3)) (kk : WW q (pc + 3) L st (wc h k (wc_s_womans c v)) r h') : WW q pc L (.int v :: .ref k :: st) (wc h k c) r h' := r_put (k := 9) (ty := .int) hd (ci := 0) rfl la_X0 tyX0_ok nmX0 hl (by decide) rfl (by decide +kernel) rfl rfl (by omega) (wc_o h k c) (show 9 < 10 by decide) (by rw [wc_u_womans]; exact kk)
theorem r_wc_ld_goldOn {q : MI} {pc : Nat} {L st : List Value} {h h' : Wd} {r : Option Value} {k : Nat} {c : Camp} {j : Nat} (hk : k + 6 < 76) (hj : j < 64) (hd : decode (mb q) pc = .ok (.iaload, 1)) (kk : WW q (pc + 1) L (.int (wc_goldOn c j) :: st) (wc h k c) r h') : WW q pc L (.int (nI j) :: .ref (k + 1) :: st) (wc h k c) r h' := r_iald hd (by omega) (wc_a_goldOn h k c) (vi hj (by decide)) (by rw [ci hj (by decide)]; exact kk)
theorem r_wc_st_goldOn {q : MI} {pc : Nat} {L st : List Value} {h h' : Wd} {r : Option Value} {k : Nat} {c : Camp} {j : Nat} {x : Int32} (hk : k + 6 < 76) (hj : j < 64) (hd : decode (mb q) pc = .ok (.iastore, 1)) (kk : WW q (pc + 1) L st (wc h k (wc_s_goldOn c (upd (wc_goldOn c) j (x)))) r h') : WW q pc L (.int x :: .int (nI j) :: .ref (k + 1) :: st) (wc h k c) r h' := r_iast hd (by omega) (wc_a_goldOn h k c) (vi hj (by decide)) (by rw [ci hj (by decide), wc_u_goldOn]; exact kk)
theorem r_wc_len_goldOn {q : MI} {pc : Nat} {L st : List Value} {h h' : Wd} {r : Option Value} {k : Nat} {c : Camp} (hk : k + 6 < 76) (hd : decode (mb q) pc = .ok (.arraylength, 1)) (kk : WW q (pc + 1) L (.int 64 :: st) (wc h k c) r h') : WW q pc L (.ref (k + 1) :: st) (wc h k c) r h' := r_ialen hd (by omega) (wc_a_goldOn h k c) kk
theorem r_wc_ld_claimers {q : MI} {pc : Nat} {L st : List Value} {h h' : Wd} {r : Option Value} {k : Nat} {c : Camp} {j : Nat} (hk : k + 6 < 76) (hj : j < 64) (hd : decode (mb q) pc = .ok (.iaload, 1)) (kk : WW q (pc + 1) L (.int (wc_claimers c j) :: st) (wc h k c) r h') : WW q pc L (.int (nI j) :: .ref (k + 2) :: st) (wc h k c) r h' := r_iald hd (by omega) (wc_a_claimers h k c) (vi hj (by decide)) (by rw [ci hj (by decide)]; exact kk)
theorem r_wc_st_claimers {q : MI} {pc : Nat} {L st : List Value} {h h' : Wd} {r : Option Value} {k : Nat} {c : Camp} {j : Nat} {x : Int32} (hk : k + 6 < 76) (hj : j < 64) (hd : decode (mb q) pc = .ok (.iastore, 1)) (kk : WW q (pc + 1) L st (wc h k (wc_s_claimers c (upd (wc_claimers c) j (x)))) r h') : WW q pc L (.int x :: .int (nI j) :: .ref (k + 2) :: st) (wc h k c) r h' := r_iast hd (by omega) (wc_a_claimers h k c) (vi hj (by decide)) (by rw [ci hj (by decide), wc_u_claimers]; exact kk)
theorem r_wc_len_claimers {q : MI} {pc : Nat} {L st : List Value} {h h' : Wd} {r : Option Value} {k : Nat} {c : Camp} (hk : k + 6 < 76) (hd : decode (mb q) pc = .ok (.arraylength, 1)) (kk : WW q (pc + 1) L (.int 64 :: st) (wc h k c) r h') : WW q pc L (.ref (k + 2) :: st) (wc h k c) r h' := r_ialen hd (by omega) (wc_a_claimers h k c) kk
theorem r_wc_ld_tents {q : MI} {pc : Nat} {L st : List Value} {h h' : Wd} {r : Option Value} {k : Nat} {c : Camp} {j : Nat} (hk : k + 6 < 76) (hj : j < 6) (hd : decode (mb q) pc = .ok (.iaload, 1)) (kk : WW q (pc + 1) L (.int (wc_tents c j) :: st) (wc h k c) r h') : WW q pc L (.int (nI j) :: .ref (k + 3) :: st) (wc h k c) r h' := r_iald hd (by omega) (wc_a_tents h k c) (vi hj (by decide)) (by rw [ci hj (by decide)]; exact kk)
theorem r_wc_st_tents {q : MI} {pc : Nat} {L st : List Value} {h h' : Wd} {r : Option Value} {k : Nat} {c : Camp} {j : Nat} {x : Int32} (hk : k + 6 < 76) (hj : j < 6) (hd : decode (mb q) pc = .ok (.iastore, 1)) (kk : WW q (pc + 1) L st (wc h k (wc_s_tents c (upd (wc_tents c) j (x)))) r h') : WW q pc L (.int x :: .int (nI j) :: .ref (k + 3) :: st) (wc h k c) r h' := r_iast hd (by omega) (wc_a_tents h k c) (vi hj (by decide)) (by rw [ci hj (by decide), wc_u_tents]; exact kk)
theorem r_wc_len_tents {q : MI} {pc : Nat} {L st : List Value} {h h' : Wd} {r : Option Value} {k : Nat} {c : Camp} (hk : k + 6 < 76) (hd : decode (mb q) pc = .ok (.arraylength, 1)) (kk : WW q (pc + 1) L (.int 6 :: st) (wc h k c) r h') : WW q pc L (.ref (k + 3) :: st) (wc h k c) r h' := r_ialen hd (by omega) (wc_a_tents h k c) kk
theorem r_wc_ld_salts {q : MI} {pc : Nat} {L st : List Value} {h h' : Wd} {r : Option Value} {k : Nat} {c : Camp} {j : Nat} (hk : k + 6 < 76) (hj : j < 6) (hd : decode (mb q) pc = .ok (.iaload, 1)) (kk : WW q (pc + 1) L (.int (wc_salts c j) :: st) (wc h k c) r h') : WW q pc L (.int (nI j) :: .ref (k + 4) :: st) (wc h k c) r h' := r_iald hd (by omega) (wc_a_salts h k c) (vi hj (by decide)) (by rw [ci hj (by decide)]; exact kk)
theorem r_wc_st_salts {q : MI} {pc : Nat} {L st : List Value} {h h' : Wd} {r : Option Value} {k : Nat} {c : Camp} {j : Nat} {x : Int32} (hk : k + 6 < 76) (hj : j < 6) (hd : decode (mb q) pc = .ok (.iastore, 1)) (kk : WW q (pc + 1) L st (wc h k (wc_s_salts c (upd (wc_salts c) j (x)))) r h') : WW q pc L (.int x :: .int (nI j) :: .ref (k + 4) :: st) (wc h k c) r h' := r_iast hd (by omega) (wc_a_salts h k c) (vi hj (by decide)) (by rw [ci hj (by decide), wc_u_salts]; exact kk)
theorem r_wc_len_salts {q : MI} {pc : Nat} {L st : List Value} {h h' : Wd} {r : Option Value} {k : Nat} {c : Camp} (hk : k + 6 < 76) (hd : decode (mb q) pc = .ok (.arraylength, 1)) (kk : WW q (pc + 1) L (.int 6 :: st) (wc h k c) r h') : WW q pc L (.ref (k + 4) :: st) (wc h k c) r h' := r_ialen hd (by omega) (wc_a_salts h k c) kk
theorem r_wc_ld_known {q : MI} {pc : Nat} {L st : List Value} {h h' : Wd} {r : Option Value} {k : Nat} {c : Camp} {j : Nat} (hk : k + 6 < 76) (hj : j < 6) (hd : decode (mb q) pc = .ok (.laload, 1)) (kk : WW q (pc + 1) L (.long (wc_known c j) :: st) (wc h k c) r h') : WW q pc L (.int (nI j) :: .ref (k + 5) :: st) (wc h k c) r h' := r_lald hd (by omega) (wc_a_known h k c) (vi hj (by decide)) (by rw [ci hj (by decide)]; exact kk)
theorem r_wc_st_known {q : MI} {pc : Nat} {L st : List Value} {h h' : Wd} {r : Option Value} {k : Nat} {c : Camp} {j : Nat} {x : Int64} (hk : k + 6 < 76) (hj : j < 6) (hd : decode (mb q) pc = .ok (.lastore, 1)) (kk : WW q (pc + 1) L st (wc h k (wc_s_known c (vp_updL (wc_known c) j (x)))) r h') : WW q pc L (.long x :: .int (nI j) :: .ref (k + 5) :: st) (wc h k c) r h' := r_last hd (by omega) (wc_a_known h k c) (vi hj (by decide)) (by rw [ci hj (by decide), wc_u_known]; exact kk)
theorem r_wc_ld_snores {q : MI} {pc : Nat} {L st : List Value} {h h' : Wd} {r : Option Value} {k : Nat} {c : Camp} {j : Nat} (hk : k + 6 < 76) (hj : j < 6) (hd : decode (mb q) pc = .ok (.iaload, 1)) (kk : WW q (pc + 1) L (.int (wc_snores c j) :: st) (wc h k c) r h') : WW q pc L (.int (nI j) :: .ref (k + 6) :: st) (wc h k c) r h' := r_iald hd (by omega) (wc_a_snores h k c) (vi hj (by decide)) (by rw [ci hj (by decide)]; exact kk)
theorem r_wc_st_snores {q : MI} {pc : Nat} {L st : List Value} {h h' : Wd} {r : Option Value} {k : Nat} {c : Camp} {j : Nat} {x : Int32} (hk : k + 6 < 76) (hj : j < 6) (hd : decode (mb q) pc = .ok (.iastore, 1)) (kk : WW q (pc + 1) L st (wc h k (wc_s_snores c (upd (wc_snores c) j (x)))) r h') : WW q pc L (.int x :: .int (nI j) :: .ref (k + 6) :: st) (wc h k c) r h' := r_iast hd (by omega) (wc_a_snores h k c) (vi hj (by decide)) (by rw [ci hj (by decide), wc_u_snores]; exact kk)
theorem r_wc_len_snores {q : MI} {pc : Nat} {L st : List Value} {h h' : Wd} {r : Option Value} {k : Nat} {c : Camp} (hk : k + 6 < 76) (hd : decode (mb q) pc = .ok (.arraylength, 1)) (kk : WW q (pc + 1) L (.int 6 :: st) (wc h k c) r h') : WW q pc L (.ref (k + 6) :: st) (wc h k c) r h' := r_ialen hd (by omega) (wc_a_snores h k c) kk
abbrev Pad : Type := (Nat → Int32) × Int32
def wp_signs (c : Pad) : Nat → Int32 := c.1
def wp_s_signs (c : Pad) (v : Nat → Int32) : Pad := (v, c.2)
def wp_count (c : Pad) : Int32 := c.2
def wp_s_count (c : Pad) (v : Int32) : Pad := (c.1, v)
def wp_obj (k : Nat) (c : Pad) : List Value := [.ref (k + 1), .int (wp_count c)]
def wp (h : Wd) (k : Nat) (c : Pad) : Wd := fun j => if j = k then .inr (2, wp_obj k c) else if j = k + 1 then .inl (0, 60, .inl (wp_signs c)) else h j
theorem wp_o (h : Wd) (k : Nat) (c : Pad) : wp h k c k = .inr (2, wp_obj k c) := by simp [wp]
theorem wp_a_signs (h : Wd) (k : Nat) (c : Pad) : wp h k c (k + 1) = .inl (0, 60, .inl (wp_signs c)) := by simp [wp]
theorem wp_wp (h : Wd) (k : Nat) (c c2 : Pad) : wp (wp h k c) k c2 = wp h k c2 := by
  funext j
  simp only [wp]
  by_cases e0 : j = k
  · simp only [if_pos e0]
  by_cases e1 : j = k + 1
  · simp only [if_neg e0, if_pos e1]
  simp only [if_neg e0, if_neg e1]
theorem wp_u_signs (h : Wd) (k : Nat) (c : Pad) (v : Nat → Int32) : va_up (wp h k c) (k + 1) (.inl (0, 60, .inl v)) = wp h k (wp_s_signs c v) := by
  funext j
  by_cases hj : j = k + 1
  · subst hj
    rw [va_up_self, wp_a_signs]
    rfl
  · rw [va_up_ne _ _ hj]
    simp only [wp, if_neg hj]
    all_goals rfl
theorem wp_u_count (h : Wd) (k : Nat) (c : Pad) (v : Int32) : va_up (wp h k c) k (.inr (2, (wp_obj k c).set 1 (.int v))) = wp h k (wp_s_count c v) := by
  funext j
  by_cases hj : j = k
  · subst hj
    rw [va_up_self, wp_o]
    rfl
  · rw [va_up_ne _ _ hj]
    simp only [wp, if_neg hj]
    all_goals rfl
theorem r_wp_get_signs {q : MI} {pc : Nat} {L st : List Value} {h h' : Wd} {r : Option Value} {k : Nat} {c : Pad} {idx : Nat} (hk : k + 1 < 76) (hl : Cond.fieldLink (my q).cls idx "SnoresGold$Pad" "signs" "[I" ∈ gt) (hd : decode (mb q) pc = .ok (.getfield idx, 3)) (kk : WW q (pc + 3) L (.ref (k + 1) :: st) (wp h k c) r h') : WW q pc L (.ref k :: st) (wp h k c) r h' := r_get (k := 0) hd (ci := 2) rfl la_X2 hl (by decide) (by omega) (wp_o h k c) rfl kk
theorem r_wp_get_count {q : MI} {pc : Nat} {L st : List Value} {h h' : Wd} {r : Option Value} {k : Nat} {c : Pad} {idx : Nat} (hk : k + 1 < 76) (hl : Cond.fieldLink (my q).cls idx "SnoresGold$Pad" "count" "I" ∈ gt) (hd : decode (mb q) pc = .ok (.getfield idx, 3)) (kk : WW q (pc + 3) L (.int (wp_count c) :: st) (wp h k c) r h') : WW q pc L (.ref k :: st) (wp h k c) r h' := r_get (k := 1) hd (ci := 2) rfl la_X2 hl (by decide) (by omega) (wp_o h k c) rfl kk
theorem r_wp_put_count {q : MI} {pc : Nat} {L st : List Value} {h h' : Wd} {r : Option Value} {k : Nat} {c : Pad} {idx : Nat} {v : Int32} (hk : k + 1 < 76) (hl : Cond.fieldLink (my q).cls idx "SnoresGold$Pad" "count" "I" ∈ gt) (hd : decode (mb q) pc = .ok (.putfield idx, 3)) (kk : WW q (pc + 3) L st (wp h k (wp_s_count c v)) r h') : WW q pc L (.int v :: .ref k :: st) (wp h k c) r h' := r_put (k := 1) (ty := .int) hd (ci := 2) rfl la_X2 tyX2_ok nmX2 hl (by decide) rfl (by decide +kernel) rfl rfl (by omega) (wp_o h k c) (show 1 < 2 by decide) (by rw [wp_u_count]; exact kk)
theorem r_wp_ld_signs {q : MI} {pc : Nat} {L st : List Value} {h h' : Wd} {r : Option Value} {k : Nat} {c : Pad} {j : Nat} (hk : k + 1 < 76) (hj : j < 60) (hd : decode (mb q) pc = .ok (.iaload, 1)) (kk : WW q (pc + 1) L (.int (wp_signs c j) :: st) (wp h k c) r h') : WW q pc L (.int (nI j) :: .ref (k + 1) :: st) (wp h k c) r h' := r_iald hd (by omega) (wp_a_signs h k c) (vi hj (by decide)) (by rw [ci hj (by decide)]; exact kk)
theorem r_wp_st_signs {q : MI} {pc : Nat} {L st : List Value} {h h' : Wd} {r : Option Value} {k : Nat} {c : Pad} {j : Nat} {x : Int32} (hk : k + 1 < 76) (hj : j < 60) (hd : decode (mb q) pc = .ok (.iastore, 1)) (kk : WW q (pc + 1) L st (wp h k (wp_s_signs c (upd (wp_signs c) j (x)))) r h') : WW q pc L (.int x :: .int (nI j) :: .ref (k + 1) :: st) (wp h k c) r h' := r_iast hd (by omega) (wp_a_signs h k c) (vi hj (by decide)) (by rw [ci hj (by decide), wp_u_signs]; exact kk)
theorem r_wp_len_signs {q : MI} {pc : Nat} {L st : List Value} {h h' : Wd} {r : Option Value} {k : Nat} {c : Pad} (hk : k + 1 < 76) (hd : decode (mb q) pc = .ok (.arraylength, 1)) (kk : WW q (pc + 1) L (.int 60 :: st) (wp h k c) r h') : WW q pc L (.ref (k + 1) :: st) (wp h k c) r h' := r_ialen hd (by omega) (wp_a_signs h k c) kk
abbrev Sights : Type := Int64 × Int32
def wg_fitting (c : Sights) : Int64 := c.1
def wg_s_fitting (c : Sights) (v : Int64) : Sights := (v, c.2)
def wg_count (c : Sights) : Int32 := c.2
def wg_s_count (c : Sights) (v : Int32) : Sights := (c.1, v)
def wg_obj (k : Nat) (c : Sights) : List Value := [.long (wg_fitting c), .int (wg_count c)]
def wg (h : Wd) (k : Nat) (c : Sights) : Wd := fun j => if j = k then .inr (3, wg_obj k c) else h j
theorem wg_o (h : Wd) (k : Nat) (c : Sights) : wg h k c k = .inr (3, wg_obj k c) := by simp [wg]
theorem wg_wg (h : Wd) (k : Nat) (c c2 : Sights) : wg (wg h k c) k c2 = wg h k c2 := by
  funext j
  simp only [wg]
  by_cases e0 : j = k
  · simp only [if_pos e0]
  simp only [if_neg e0]
theorem wg_u_fitting (h : Wd) (k : Nat) (c : Sights) (v : Int64) : va_up (wg h k c) k (.inr (3, (wg_obj k c).set 0 (.long v))) = wg h k (wg_s_fitting c v) := by
  funext j
  by_cases hj : j = k
  · subst hj
    rw [va_up_self, wg_o]
    rfl
  · rw [va_up_ne _ _ hj]
    simp only [wg, if_neg hj]
    all_goals rfl
theorem wg_u_count (h : Wd) (k : Nat) (c : Sights) (v : Int32) : va_up (wg h k c) k (.inr (3, (wg_obj k c).set 1 (.int v))) = wg h k (wg_s_count c v) := by
  funext j
  by_cases hj : j = k
  · subst hj
    rw [va_up_self, wg_o]
    rfl
  · rw [va_up_ne _ _ hj]
    simp only [wg, if_neg hj]
    all_goals rfl
theorem r_wg_get_fitting {q : MI} {pc : Nat} {L st : List Value} {h h' : Wd} {r : Option Value} {k : Nat} {c : Sights} {idx : Nat} (hk : k + 0 < 76) (hl : Cond.fieldLink (my q).cls idx "SnoresGold$Sights" "fitting" "J" ∈ gt) (hd : decode (mb q) pc = .ok (.getfield idx, 3)) (kk : WW q (pc + 3) L (.long (wg_fitting c) :: st) (wg h k c) r h') : WW q pc L (.ref k :: st) (wg h k c) r h' := r_get (k := 0) hd (ci := 3) rfl la_X3 hl (by decide) (by omega) (wg_o h k c) rfl kk
theorem r_wg_put_fitting {q : MI} {pc : Nat} {L st : List Value} {h h' : Wd} {r : Option Value} {k : Nat} {c : Sights} {idx : Nat} {v : Int64} (hk : k + 0 < 76) (hl : Cond.fieldLink (my q).cls idx "SnoresGold$Sights" "fitting" "J" ∈ gt) (hd : decode (mb q) pc = .ok (.putfield idx, 3)) (kk : WW q (pc + 3) L st (wg h k (wg_s_fitting c v)) r h') : WW q pc L (.long v :: .ref k :: st) (wg h k c) r h' := r_put (k := 0) (ty := .long) hd (ci := 3) rfl la_X3 tyX3_ok nmX3 hl (by decide) rfl (by decide +kernel) rfl rfl (by omega) (wg_o h k c) (show 0 < 2 by decide) (by rw [wg_u_fitting]; exact kk)
theorem r_wg_get_count {q : MI} {pc : Nat} {L st : List Value} {h h' : Wd} {r : Option Value} {k : Nat} {c : Sights} {idx : Nat} (hk : k + 0 < 76) (hl : Cond.fieldLink (my q).cls idx "SnoresGold$Sights" "count" "I" ∈ gt) (hd : decode (mb q) pc = .ok (.getfield idx, 3)) (kk : WW q (pc + 3) L (.int (wg_count c) :: st) (wg h k c) r h') : WW q pc L (.ref k :: st) (wg h k c) r h' := r_get (k := 1) hd (ci := 3) rfl la_X3 hl (by decide) (by omega) (wg_o h k c) rfl kk
theorem r_wg_put_count {q : MI} {pc : Nat} {L st : List Value} {h h' : Wd} {r : Option Value} {k : Nat} {c : Sights} {idx : Nat} {v : Int32} (hk : k + 0 < 76) (hl : Cond.fieldLink (my q).cls idx "SnoresGold$Sights" "count" "I" ∈ gt) (hd : decode (mb q) pc = .ok (.putfield idx, 3)) (kk : WW q (pc + 3) L st (wg h k (wg_s_count c v)) r h') : WW q pc L (.int v :: .ref k :: st) (wg h k c) r h' := r_put (k := 1) (ty := .int) hd (ci := 3) rfl la_X3 tyX3_ok nmX3 hl (by decide) rfl (by decide +kernel) rfl rfl (by omega) (wg_o h k c) (show 1 < 2 by decide) (by rw [wg_u_count]; exact kk)
abbrev Tales : Type := (Nat → Int32) × (Nat → Int32) × Int32 × Int32
def wt_tellers (c : Tales) : Nat → Int32 := c.1
def wt_s_tellers (c : Tales) (v : Nat → Int32) : Tales := (v, c.2.1, c.2.2.1, c.2.2.2)
def wt_cells (c : Tales) : Nat → Int32 := c.2.1
def wt_s_cells (c : Tales) (v : Nat → Int32) : Tales := (c.1, v, c.2.2.1, c.2.2.2)
def wt_toldGolden (c : Tales) : Int32 := c.2.2.1
def wt_s_toldGolden (c : Tales) (v : Int32) : Tales := (c.1, c.2.1, v, c.2.2.2)
def wt_count (c : Tales) : Int32 := c.2.2.2
def wt_s_count (c : Tales) (v : Int32) : Tales := (c.1, c.2.1, c.2.2.1, v)
def wt_obj (k : Nat) (c : Tales) : List Value := [.ref (k + 1), .ref (k + 2), .int (wt_toldGolden c), .int (wt_count c)]
def wt (h : Wd) (k : Nat) (c : Tales) : Wd := fun j => if j = k then .inr (4, wt_obj k c) else if j = k + 1 then .inl (0, 8, .inl (wt_tellers c)) else if j = k + 2 then .inl (0, 8, .inl (wt_cells c)) else h j
theorem wt_o (h : Wd) (k : Nat) (c : Tales) : wt h k c k = .inr (4, wt_obj k c) := by simp [wt]
theorem wt_a_tellers (h : Wd) (k : Nat) (c : Tales) : wt h k c (k + 1) = .inl (0, 8, .inl (wt_tellers c)) := by simp [wt]
theorem wt_a_cells (h : Wd) (k : Nat) (c : Tales) : wt h k c (k + 2) = .inl (0, 8, .inl (wt_cells c)) := by simp [wt]
theorem wt_wt (h : Wd) (k : Nat) (c c2 : Tales) : wt (wt h k c) k c2 = wt h k c2 := by
  funext j
  simp only [wt]
  by_cases e0 : j = k
  · simp only [if_pos e0]
  by_cases e1 : j = k + 1
  · simp only [if_neg e0, if_pos e1]
  by_cases e2 : j = k + 2
  · simp only [if_neg e0, if_neg e1, if_pos e2]
  simp only [if_neg e0, if_neg e1, if_neg e2]
theorem wt_u_tellers (h : Wd) (k : Nat) (c : Tales) (v : Nat → Int32) : va_up (wt h k c) (k + 1) (.inl (0, 8, .inl v)) = wt h k (wt_s_tellers c v) := by
  funext j
  by_cases hj : j = k + 1
  · subst hj
    rw [va_up_self, wt_a_tellers]
    rfl
  · rw [va_up_ne _ _ hj]
    simp only [wt, if_neg hj]
    all_goals rfl
theorem wt_u_cells (h : Wd) (k : Nat) (c : Tales) (v : Nat → Int32) : va_up (wt h k c) (k + 2) (.inl (0, 8, .inl v)) = wt h k (wt_s_cells c v) := by
  funext j
  by_cases hj : j = k + 2
  · subst hj
    rw [va_up_self, wt_a_cells]
    rfl
  · rw [va_up_ne _ _ hj]
    simp only [wt, if_neg hj]
    all_goals rfl
theorem wt_u_toldGolden (h : Wd) (k : Nat) (c : Tales) (v : Int32) : va_up (wt h k c) k (.inr (4, (wt_obj k c).set 2 (.int v))) = wt h k (wt_s_toldGolden c v) := by
  funext j
  by_cases hj : j = k
  · subst hj
    rw [va_up_self, wt_o]
    rfl
  · rw [va_up_ne _ _ hj]
    simp only [wt, if_neg hj]
    all_goals rfl
theorem wt_u_count (h : Wd) (k : Nat) (c : Tales) (v : Int32) : va_up (wt h k c) k (.inr (4, (wt_obj k c).set 3 (.int v))) = wt h k (wt_s_count c v) := by
  funext j
  by_cases hj : j = k
  · subst hj
    rw [va_up_self, wt_o]
    rfl
  · rw [va_up_ne _ _ hj]
    simp only [wt, if_neg hj]
    all_goals rfl
theorem r_wt_get_tellers {q : MI} {pc : Nat} {L st : List Value} {h h' : Wd} {r : Option Value} {k : Nat} {c : Tales} {idx : Nat} (hk : k + 2 < 76) (hl : Cond.fieldLink (my q).cls idx "SnoresGold$Tales" "tellers" "[I" ∈ gt) (hd : decode (mb q) pc = .ok (.getfield idx, 3)) (kk : WW q (pc + 3) L (.ref (k + 1) :: st) (wt h k c) r h') : WW q pc L (.ref k :: st) (wt h k c) r h' := r_get (k := 0) hd (ci := 4) rfl la_X4 hl (by decide) (by omega) (wt_o h k c) rfl kk
theorem r_wt_get_cells {q : MI} {pc : Nat} {L st : List Value} {h h' : Wd} {r : Option Value} {k : Nat} {c : Tales} {idx : Nat} (hk : k + 2 < 76) (hl : Cond.fieldLink (my q).cls idx "SnoresGold$Tales" "cells" "[I" ∈ gt) (hd : decode (mb q) pc = .ok (.getfield idx, 3)) (kk : WW q (pc + 3) L (.ref (k + 2) :: st) (wt h k c) r h') : WW q pc L (.ref k :: st) (wt h k c) r h' := r_get (k := 1) hd (ci := 4) rfl la_X4 hl (by decide) (by omega) (wt_o h k c) rfl kk
theorem r_wt_get_toldGolden {q : MI} {pc : Nat} {L st : List Value} {h h' : Wd} {r : Option Value} {k : Nat} {c : Tales} {idx : Nat} (hk : k + 2 < 76) (hl : Cond.fieldLink (my q).cls idx "SnoresGold$Tales" "toldGolden" "I" ∈ gt) (hd : decode (mb q) pc = .ok (.getfield idx, 3)) (kk : WW q (pc + 3) L (.int (wt_toldGolden c) :: st) (wt h k c) r h') : WW q pc L (.ref k :: st) (wt h k c) r h' := r_get (k := 2) hd (ci := 4) rfl la_X4 hl (by decide) (by omega) (wt_o h k c) rfl kk
theorem r_wt_put_toldGolden {q : MI} {pc : Nat} {L st : List Value} {h h' : Wd} {r : Option Value} {k : Nat} {c : Tales} {idx : Nat} {v : Int32} (hk : k + 2 < 76) (hl : Cond.fieldLink (my q).cls idx "SnoresGold$Tales" "toldGolden" "I" ∈ gt) (hd : decode (mb q) pc = .ok (.putfield idx, 3)) (kk : WW q (pc + 3) L st (wt h k (wt_s_toldGolden c v)) r h') : WW q pc L (.int v :: .ref k :: st) (wt h k c) r h' := r_put (k := 2) (ty := .int) hd (ci := 4) rfl la_X4 tyX4_ok nmX4 hl (by decide) rfl (by decide +kernel) rfl rfl (by omega) (wt_o h k c) (show 2 < 4 by decide) (by rw [wt_u_toldGolden]; exact kk)
theorem r_wt_get_count {q : MI} {pc : Nat} {L st : List Value} {h h' : Wd} {r : Option Value} {k : Nat} {c : Tales} {idx : Nat} (hk : k + 2 < 76) (hl : Cond.fieldLink (my q).cls idx "SnoresGold$Tales" "count" "I" ∈ gt) (hd : decode (mb q) pc = .ok (.getfield idx, 3)) (kk : WW q (pc + 3) L (.int (wt_count c) :: st) (wt h k c) r h') : WW q pc L (.ref k :: st) (wt h k c) r h' := r_get (k := 3) hd (ci := 4) rfl la_X4 hl (by decide) (by omega) (wt_o h k c) rfl kk
theorem r_wt_put_count {q : MI} {pc : Nat} {L st : List Value} {h h' : Wd} {r : Option Value} {k : Nat} {c : Tales} {idx : Nat} {v : Int32} (hk : k + 2 < 76) (hl : Cond.fieldLink (my q).cls idx "SnoresGold$Tales" "count" "I" ∈ gt) (hd : decode (mb q) pc = .ok (.putfield idx, 3)) (kk : WW q (pc + 3) L st (wt h k (wt_s_count c v)) r h') : WW q pc L (.int v :: .ref k :: st) (wt h k c) r h' := r_put (k := 3) (ty := .int) hd (ci := 4) rfl la_X4 tyX4_ok nmX4 hl (by decide) rfl (by decide +kernel) rfl rfl (by omega) (wt_o h k c) (show 3 < 4 by decide) (by rw [wt_u_count]; exact kk)
theorem r_wt_ld_tellers {q : MI} {pc : Nat} {L st : List Value} {h h' : Wd} {r : Option Value} {k : Nat} {c : Tales} {j : Nat} (hk : k + 2 < 76) (hj : j < 8) (hd : decode (mb q) pc = .ok (.iaload, 1)) (kk : WW q (pc + 1) L (.int (wt_tellers c j) :: st) (wt h k c) r h') : WW q pc L (.int (nI j) :: .ref (k + 1) :: st) (wt h k c) r h' := r_iald hd (by omega) (wt_a_tellers h k c) (vi hj (by decide)) (by rw [ci hj (by decide)]; exact kk)
theorem r_wt_st_tellers {q : MI} {pc : Nat} {L st : List Value} {h h' : Wd} {r : Option Value} {k : Nat} {c : Tales} {j : Nat} {x : Int32} (hk : k + 2 < 76) (hj : j < 8) (hd : decode (mb q) pc = .ok (.iastore, 1)) (kk : WW q (pc + 1) L st (wt h k (wt_s_tellers c (upd (wt_tellers c) j (x)))) r h') : WW q pc L (.int x :: .int (nI j) :: .ref (k + 1) :: st) (wt h k c) r h' := r_iast hd (by omega) (wt_a_tellers h k c) (vi hj (by decide)) (by rw [ci hj (by decide), wt_u_tellers]; exact kk)
theorem r_wt_len_tellers {q : MI} {pc : Nat} {L st : List Value} {h h' : Wd} {r : Option Value} {k : Nat} {c : Tales} (hk : k + 2 < 76) (hd : decode (mb q) pc = .ok (.arraylength, 1)) (kk : WW q (pc + 1) L (.int 8 :: st) (wt h k c) r h') : WW q pc L (.ref (k + 1) :: st) (wt h k c) r h' := r_ialen hd (by omega) (wt_a_tellers h k c) kk
theorem r_wt_ld_cells {q : MI} {pc : Nat} {L st : List Value} {h h' : Wd} {r : Option Value} {k : Nat} {c : Tales} {j : Nat} (hk : k + 2 < 76) (hj : j < 8) (hd : decode (mb q) pc = .ok (.iaload, 1)) (kk : WW q (pc + 1) L (.int (wt_cells c j) :: st) (wt h k c) r h') : WW q pc L (.int (nI j) :: .ref (k + 2) :: st) (wt h k c) r h' := r_iald hd (by omega) (wt_a_cells h k c) (vi hj (by decide)) (by rw [ci hj (by decide)]; exact kk)
theorem r_wt_st_cells {q : MI} {pc : Nat} {L st : List Value} {h h' : Wd} {r : Option Value} {k : Nat} {c : Tales} {j : Nat} {x : Int32} (hk : k + 2 < 76) (hj : j < 8) (hd : decode (mb q) pc = .ok (.iastore, 1)) (kk : WW q (pc + 1) L st (wt h k (wt_s_cells c (upd (wt_cells c) j (x)))) r h') : WW q pc L (.int x :: .int (nI j) :: .ref (k + 2) :: st) (wt h k c) r h' := r_iast hd (by omega) (wt_a_cells h k c) (vi hj (by decide)) (by rw [ci hj (by decide), wt_u_cells]; exact kk)
theorem r_wt_len_cells {q : MI} {pc : Nat} {L st : List Value} {h h' : Wd} {r : Option Value} {k : Nat} {c : Tales} (hk : k + 2 < 76) (hd : decode (mb q) pc = .ok (.arraylength, 1)) (kk : WW q (pc + 1) L (.int 8 :: st) (wt h k c) r h') : WW q pc L (.ref (k + 2) :: st) (wt h k c) r h' := r_ialen hd (by omega) (wt_a_cells h k c) kk
abbrev Week : Type := Int32 × Int32 × Int32 × Int32 × Int32
def wk_acts (c : Week) : Int32 := c.1
def wk_s_acts (c : Week) (v : Int32) : Week := (v, c.2.1, c.2.2.1, c.2.2.2.1, c.2.2.2.2)
def wk_bad (c : Week) : Int32 := c.2.1
def wk_s_bad (c : Week) (v : Int32) : Week := (c.1, v, c.2.2.1, c.2.2.2.1, c.2.2.2.2)
def wk_reason (c : Week) : Int32 := c.2.2.1
def wk_s_reason (c : Week) (v : Int32) : Week := (c.1, c.2.1, v, c.2.2.2.1, c.2.2.2.2)
def wk_firstEmpty (c : Week) : Int32 := c.2.2.2.1
def wk_s_firstEmpty (c : Week) (v : Int32) : Week := (c.1, c.2.1, c.2.2.1, v, c.2.2.2.2)
def wk_empty (c : Week) : Int32 := c.2.2.2.2
def wk_s_empty (c : Week) (v : Int32) : Week := (c.1, c.2.1, c.2.2.1, c.2.2.2.1, v)
def wk_obj (k : Nat) (c : Week) : List Value := [.int (wk_acts c), .int (wk_bad c), .int (wk_reason c), .int (wk_firstEmpty c), .int (wk_empty c)]
def wk (h : Wd) (k : Nat) (c : Week) : Wd := fun j => if j = k then .inr (5, wk_obj k c) else h j
theorem wk_o (h : Wd) (k : Nat) (c : Week) : wk h k c k = .inr (5, wk_obj k c) := by simp [wk]
theorem wk_wk (h : Wd) (k : Nat) (c c2 : Week) : wk (wk h k c) k c2 = wk h k c2 := by
  funext j
  simp only [wk]
  by_cases e0 : j = k
  · simp only [if_pos e0]
  simp only [if_neg e0]
theorem wk_u_acts (h : Wd) (k : Nat) (c : Week) (v : Int32) : va_up (wk h k c) k (.inr (5, (wk_obj k c).set 0 (.int v))) = wk h k (wk_s_acts c v) := by
  funext j
  by_cases hj : j = k
  · subst hj
    rw [va_up_self, wk_o]
    rfl
  · rw [va_up_ne _ _ hj]
    simp only [wk, if_neg hj]
    all_goals rfl
theorem wk_u_bad (h : Wd) (k : Nat) (c : Week) (v : Int32) : va_up (wk h k c) k (.inr (5, (wk_obj k c).set 1 (.int v))) = wk h k (wk_s_bad c v) := by
  funext j
  by_cases hj : j = k
  · subst hj
    rw [va_up_self, wk_o]
    rfl
  · rw [va_up_ne _ _ hj]
    simp only [wk, if_neg hj]
    all_goals rfl
theorem wk_u_reason (h : Wd) (k : Nat) (c : Week) (v : Int32) : va_up (wk h k c) k (.inr (5, (wk_obj k c).set 2 (.int v))) = wk h k (wk_s_reason c v) := by
  funext j
  by_cases hj : j = k
  · subst hj
    rw [va_up_self, wk_o]
    rfl
  · rw [va_up_ne _ _ hj]
    simp only [wk, if_neg hj]
    all_goals rfl
theorem wk_u_firstEmpty (h : Wd) (k : Nat) (c : Week) (v : Int32) : va_up (wk h k c) k (.inr (5, (wk_obj k c).set 3 (.int v))) = wk h k (wk_s_firstEmpty c v) := by
  funext j
  by_cases hj : j = k
  · subst hj
    rw [va_up_self, wk_o]
    rfl
  · rw [va_up_ne _ _ hj]
    simp only [wk, if_neg hj]
    all_goals rfl
theorem wk_u_empty (h : Wd) (k : Nat) (c : Week) (v : Int32) : va_up (wk h k c) k (.inr (5, (wk_obj k c).set 4 (.int v))) = wk h k (wk_s_empty c v) := by
  funext j
  by_cases hj : j = k
  · subst hj
    rw [va_up_self, wk_o]
    rfl
  · rw [va_up_ne _ _ hj]
    simp only [wk, if_neg hj]
    all_goals rfl
theorem r_wk_get_acts {q : MI} {pc : Nat} {L st : List Value} {h h' : Wd} {r : Option Value} {k : Nat} {c : Week} {idx : Nat} (hk : k + 0 < 76) (hl : Cond.fieldLink (my q).cls idx "SnoresGold$Week" "acts" "I" ∈ gt) (hd : decode (mb q) pc = .ok (.getfield idx, 3)) (kk : WW q (pc + 3) L (.int (wk_acts c) :: st) (wk h k c) r h') : WW q pc L (.ref k :: st) (wk h k c) r h' := r_get (k := 0) hd (ci := 5) rfl la_X5 hl (by decide) (by omega) (wk_o h k c) rfl kk
theorem r_wk_put_acts {q : MI} {pc : Nat} {L st : List Value} {h h' : Wd} {r : Option Value} {k : Nat} {c : Week} {idx : Nat} {v : Int32} (hk : k + 0 < 76) (hl : Cond.fieldLink (my q).cls idx "SnoresGold$Week" "acts" "I" ∈ gt) (hd : decode (mb q) pc = .ok (.putfield idx, 3)) (kk : WW q (pc + 3) L st (wk h k (wk_s_acts c v)) r h') : WW q pc L (.int v :: .ref k :: st) (wk h k c) r h' := r_put (k := 0) (ty := .int) hd (ci := 5) rfl la_X5 tyX5_ok nmX5 hl (by decide) rfl (by decide +kernel) rfl rfl (by omega) (wk_o h k c) (show 0 < 5 by decide) (by rw [wk_u_acts]; exact kk)
theorem r_wk_get_bad {q : MI} {pc : Nat} {L st : List Value} {h h' : Wd} {r : Option Value} {k : Nat} {c : Week} {idx : Nat} (hk : k + 0 < 76) (hl : Cond.fieldLink (my q).cls idx "SnoresGold$Week" "bad" "I" ∈ gt) (hd : decode (mb q) pc = .ok (.getfield idx, 3)) (kk : WW q (pc + 3) L (.int (wk_bad c) :: st) (wk h k c) r h') : WW q pc L (.ref k :: st) (wk h k c) r h' := r_get (k := 1) hd (ci := 5) rfl la_X5 hl (by decide) (by omega) (wk_o h k c) rfl kk
theorem r_wk_put_bad {q : MI} {pc : Nat} {L st : List Value} {h h' : Wd} {r : Option Value} {k : Nat} {c : Week} {idx : Nat} {v : Int32} (hk : k + 0 < 76) (hl : Cond.fieldLink (my q).cls idx "SnoresGold$Week" "bad" "I" ∈ gt) (hd : decode (mb q) pc = .ok (.putfield idx, 3)) (kk : WW q (pc + 3) L st (wk h k (wk_s_bad c v)) r h') : WW q pc L (.int v :: .ref k :: st) (wk h k c) r h' := r_put (k := 1) (ty := .int) hd (ci := 5) rfl la_X5 tyX5_ok nmX5 hl (by decide) rfl (by decide +kernel) rfl rfl (by omega) (wk_o h k c) (show 1 < 5 by decide) (by rw [wk_u_bad]; exact kk)
theorem r_wk_get_reason {q : MI} {pc : Nat} {L st : List Value} {h h' : Wd} {r : Option Value} {k : Nat} {c : Week} {idx : Nat} (hk : k + 0 < 76) (hl : Cond.fieldLink (my q).cls idx "SnoresGold$Week" "reason" "I" ∈ gt) (hd : decode (mb q) pc = .ok (.getfield idx, 3)) (kk : WW q (pc + 3) L (.int (wk_reason c) :: st) (wk h k c) r h') : WW q pc L (.ref k :: st) (wk h k c) r h' := r_get (k := 2) hd (ci := 5) rfl la_X5 hl (by decide) (by omega) (wk_o h k c) rfl kk
theorem r_wk_put_reason {q : MI} {pc : Nat} {L st : List Value} {h h' : Wd} {r : Option Value} {k : Nat} {c : Week} {idx : Nat} {v : Int32} (hk : k + 0 < 76) (hl : Cond.fieldLink (my q).cls idx "SnoresGold$Week" "reason" "I" ∈ gt) (hd : decode (mb q) pc = .ok (.putfield idx, 3)) (kk : WW q (pc + 3) L st (wk h k (wk_s_reason c v)) r h') : WW q pc L (.int v :: .ref k :: st) (wk h k c) r h' := r_put (k := 2) (ty := .int) hd (ci := 5) rfl la_X5 tyX5_ok nmX5 hl (by decide) rfl (by decide +kernel) rfl rfl (by omega) (wk_o h k c) (show 2 < 5 by decide) (by rw [wk_u_reason]; exact kk)
theorem r_wk_get_firstEmpty {q : MI} {pc : Nat} {L st : List Value} {h h' : Wd} {r : Option Value} {k : Nat} {c : Week} {idx : Nat} (hk : k + 0 < 76) (hl : Cond.fieldLink (my q).cls idx "SnoresGold$Week" "firstEmpty" "I" ∈ gt) (hd : decode (mb q) pc = .ok (.getfield idx, 3)) (kk : WW q (pc + 3) L (.int (wk_firstEmpty c) :: st) (wk h k c) r h') : WW q pc L (.ref k :: st) (wk h k c) r h' := r_get (k := 3) hd (ci := 5) rfl la_X5 hl (by decide) (by omega) (wk_o h k c) rfl kk
theorem r_wk_put_firstEmpty {q : MI} {pc : Nat} {L st : List Value} {h h' : Wd} {r : Option Value} {k : Nat} {c : Week} {idx : Nat} {v : Int32} (hk : k + 0 < 76) (hl : Cond.fieldLink (my q).cls idx "SnoresGold$Week" "firstEmpty" "I" ∈ gt) (hd : decode (mb q) pc = .ok (.putfield idx, 3)) (kk : WW q (pc + 3) L st (wk h k (wk_s_firstEmpty c v)) r h') : WW q pc L (.int v :: .ref k :: st) (wk h k c) r h' := r_put (k := 3) (ty := .int) hd (ci := 5) rfl la_X5 tyX5_ok nmX5 hl (by decide) rfl (by decide +kernel) rfl rfl (by omega) (wk_o h k c) (show 3 < 5 by decide) (by rw [wk_u_firstEmpty]; exact kk)
theorem r_wk_get_empty {q : MI} {pc : Nat} {L st : List Value} {h h' : Wd} {r : Option Value} {k : Nat} {c : Week} {idx : Nat} (hk : k + 0 < 76) (hl : Cond.fieldLink (my q).cls idx "SnoresGold$Week" "empty" "I" ∈ gt) (hd : decode (mb q) pc = .ok (.getfield idx, 3)) (kk : WW q (pc + 3) L (.int (wk_empty c) :: st) (wk h k c) r h') : WW q pc L (.ref k :: st) (wk h k c) r h' := r_get (k := 4) hd (ci := 5) rfl la_X5 hl (by decide) (by omega) (wk_o h k c) rfl kk
theorem r_wk_put_empty {q : MI} {pc : Nat} {L st : List Value} {h h' : Wd} {r : Option Value} {k : Nat} {c : Week} {idx : Nat} {v : Int32} (hk : k + 0 < 76) (hl : Cond.fieldLink (my q).cls idx "SnoresGold$Week" "empty" "I" ∈ gt) (hd : decode (mb q) pc = .ok (.putfield idx, 3)) (kk : WW q (pc + 3) L st (wk h k (wk_s_empty c v)) r h') : WW q pc L (.int v :: .ref k :: st) (wk h k c) r h' := r_put (k := 4) (ty := .int) hd (ci := 5) rfl la_X5 tyX5_ok nmX5 hl (by decide) rfl (by decide +kernel) rfl rfl (by omega) (wk_o h k c) (show 4 < 5 by decide) (by rw [wk_u_empty]; exact kk)
abbrev Mod : Type := (Nat → Nat → Int32) × (Nat → Nat → Int64) × (Nat → Int32)
def wm_ore (c : Mod) : Nat → Int32 := c.1 0
def wm_s_ore (c : Mod) (v : Nat → Int32) : Mod := (va_up c.1 0 v, c.2)
def wm_owner (c : Mod) : Nat → Int32 := c.1 1
def wm_s_owner (c : Mod) (v : Nat → Int32) : Mod := (va_up c.1 1 v, c.2)
def wm_men (c : Mod) : Int32 := c.2.2 0
def wm_s_men (c : Mod) (v : Int32) : Mod := (c.1, c.2.1, va_up c.2.2 0 v)
def wm_tent (c : Mod) : Nat → Int32 := c.1 2
def wm_s_tent (c : Mod) (v : Nat → Int32) : Mod := (va_up c.1 2 v, c.2)
def wm_knows (c : Mod) : Nat → Int64 := c.2.1 0
def wm_s_knows (c : Mod) (v : Nat → Int64) : Mod := (c.1, va_up c.2.1 0 v, c.2.2)
def wm_cold (c : Mod) : Nat → Int32 := c.1 3
def wm_s_cold (c : Mod) (v : Nat → Int32) : Mod := (va_up c.1 3 v, c.2)
def wm_whistles (c : Mod) : Nat → Int32 := c.1 4
def wm_s_whistles (c : Mod) (v : Nat → Int32) : Mod := (va_up c.1 4 v, c.2)
def wm_salt (c : Mod) : Nat → Int32 := c.1 5
def wm_s_salt (c : Mod) (v : Nat → Int32) : Mod := (va_up c.1 5 v, c.2)
def wm_taleMan (c : Mod) : Nat → Int32 := c.1 6
def wm_s_taleMan (c : Mod) (v : Nat → Int32) : Mod := (va_up c.1 6 v, c.2)
def wm_taleCell (c : Mod) : Nat → Int32 := c.1 7
def wm_s_taleCell (c : Mod) (v : Nat → Int32) : Mod := (va_up c.1 7 v, c.2)
def wm_taleGold (c : Mod) : Nat → Int32 := c.1 8
def wm_s_taleGold (c : Mod) (v : Nat → Int32) : Mod := (va_up c.1 8 v, c.2)
def wm_tales (c : Mod) : Int32 := c.2.2 1
def wm_s_tales (c : Mod) (v : Int32) : Mod := (c.1, c.2.1, va_up c.2.2 1 v)
def wm_sightCell (c : Mod) : Nat → Int32 := c.1 9
def wm_s_sightCell (c : Mod) (v : Nat → Int32) : Mod := (va_up c.1 9 v, c.2)
def wm_sightIs (c : Mod) : Nat → Int32 := c.1 10
def wm_s_sightIs (c : Mod) (v : Nat → Int32) : Mod := (va_up c.1 10 v, c.2)
def wm_sights (c : Mod) : Int32 := c.2.2 2
def wm_s_sights (c : Mod) (v : Int32) : Mod := (c.1, c.2.1, va_up c.2.2 2 v)
def wm_pad (c : Mod) : Nat → Int32 := c.1 11
def wm_s_pad (c : Mod) (v : Nat → Int32) : Mod := (va_up c.1 11 v, c.2)
def wm_padMany (c : Mod) : Int32 := c.2.2 3
def wm_s_padMany (c : Mod) (v : Int32) : Mod := (c.1, c.2.1, va_up c.2.2 3 v)
def wm_act (c : Mod) : Nat → Int32 := c.1 12
def wm_s_act (c : Mod) (v : Nat → Int32) : Mod := (va_up c.1 12 v, c.2)
def wm_who (c : Mod) : Nat → Int32 := c.1 13
def wm_s_who (c : Mod) (v : Nat → Int32) : Mod := (va_up c.1 13 v, c.2)
def wm_way (c : Mod) : Nat → Int32 := c.1 14
def wm_s_way (c : Mod) (v : Nat → Int32) : Mod := (va_up c.1 14 v, c.2)
def wm_acts (c : Mod) : Int32 := c.2.2 4
def wm_s_acts (c : Mod) (v : Int32) : Mod := (c.1, c.2.1, va_up c.2.2 4 v)
def wm_womans (c : Mod) : Int32 := c.2.2 5
def wm_s_womans (c : Mod) (v : Int32) : Mod := (c.1, c.2.1, va_up c.2.2 5 v)
def wm_firstNothing (c : Mod) : Int32 := c.2.2 6
def wm_s_firstNothing (c : Mod) (v : Int32) : Mod := (c.1, c.2.1, va_up c.2.2 6 v)
def wm_nothingMany (c : Mod) : Int32 := c.2.2 7
def wm_s_nothingMany (c : Mod) (v : Int32) : Mod := (c.1, c.2.1, va_up c.2.2 7 v)
def wm_actNow (c : Mod) : Int32 := c.2.2 8
def wm_s_actNow (c : Mod) (v : Int32) : Mod := (c.1, c.2.1, va_up c.2.2 8 v)
def wm_had (c : Mod) : Nat → Int32 := c.1 15
def wm_s_had (c : Mod) (v : Nat → Int32) : Mod := (va_up c.1 15 v, c.2)
def wm_hadKnown (c : Mod) : Nat → Int64 := c.2.1 1
def wm_s_hadKnown (c : Mod) (v : Nat → Int64) : Mod := (c.1, va_up c.2.1 1 v, c.2.2)
def wm_badAct (c : Mod) : Int32 := c.2.2 9
def wm_s_badAct (c : Mod) (v : Int32) : Mod := (c.1, c.2.1, va_up c.2.2 9 v)
def wm_badWhy (c : Mod) : Int32 := c.2.2 10
def wm_s_badWhy (c : Mod) (v : Int32) : Mod := (c.1, c.2.1, va_up c.2.2 10 v)
def wm_with (c : Mod) : Nat → Int32 := c.1 16
def wm_s_with (c : Mod) (v : Nat → Int32) : Mod := (va_up c.1 16 v, c.2)
def wm_digit (c : Mod) : Nat → Int32 := c.1 17
def wm_s_digit (c : Mod) (v : Nat → Int32) : Mod := (va_up c.1 17 v, c.2)
def wm_more (c : Mod) : Nat → Int32 := c.1 18
def wm_s_more (c : Mod) (v : Nat → Int32) : Mod := (va_up c.1 18 v, c.2)
def wm_kept (c : Mod) : Nat → Int32 := c.1 19
def wm_s_kept (c : Mod) (v : Nat → Int32) : Mod := (va_up c.1 19 v, c.2)
def wm_keptKnown (c : Mod) : Nat → Int64 := c.2.1 2
def wm_s_keptKnown (c : Mod) (v : Nat → Int64) : Mod := (c.1, va_up c.2.1 2 v, c.2.2)
def wm_isKept (c : Mod) : Nat → Int32 := c.1 20
def wm_s_isKept (c : Mod) (v : Nat → Int32) : Mod := (va_up c.1 20 v, c.2)
def wm_keptAt (c : Mod) : Int32 := c.2.2 11
def wm_s_keptAt (c : Mod) (v : Int32) : Mod := (c.1, c.2.1, va_up c.2.2 11 v)
def wm_isWriting (c : Mod) : Int32 := c.2.2 12
def wm_s_isWriting (c : Mod) (v : Int32) : Mod := (c.1, c.2.1, va_up c.2.2 12 v)
def wm_obj (k : Nat) (c : Mod) : List Value := [.ref (k + 1), .ref (k + 2), .int (wm_men c), .ref (k + 3), .ref (k + 4), .ref (k + 5), .ref (k + 6), .ref (k + 7), .ref (k + 8), .ref (k + 9), .ref (k + 10), .int (wm_tales c), .ref (k + 11), .ref (k + 12), .int (wm_sights c), .ref (k + 13), .int (wm_padMany c), .ref (k + 14), .ref (k + 15), .ref (k + 16), .int (wm_acts c), .int (wm_womans c), .int (wm_firstNothing c), .int (wm_nothingMany c), .int (wm_actNow c), .ref (k + 17), .ref (k + 18), .int (wm_badAct c), .int (wm_badWhy c), .ref (k + 19), .ref (k + 20), .ref (k + 21), .ref (k + 22), .ref (k + 23), .ref (k + 24), .int (wm_keptAt c), .int (wm_isWriting c)]
def wm (h : Wd) (k : Nat) (c : Mod) : Wd := fun j => if j = k then .inr (7, wm_obj k c) else if j = k + 1 then .inl (0, 64, .inl (wm_ore c)) else if j = k + 2 then .inl (0, 64, .inl (wm_owner c)) else if j = k + 3 then .inl (0, 6, .inl (wm_tent c)) else if j = k + 4 then .inl (1, 6, .inr (.inl (wm_knows c))) else if j = k + 5 then .inl (0, 6, .inl (wm_cold c)) else if j = k + 6 then .inl (0, 6, .inl (wm_whistles c)) else if j = k + 7 then .inl (0, 6, .inl (wm_salt c)) else if j = k + 8 then .inl (0, 8, .inl (wm_taleMan c)) else if j = k + 9 then .inl (0, 8, .inl (wm_taleCell c)) else if j = k + 10 then .inl (0, 8, .inl (wm_taleGold c)) else if j = k + 11 then .inl (0, 8, .inl (wm_sightCell c)) else if j = k + 12 then .inl (0, 8, .inl (wm_sightIs c)) else if j = k + 13 then .inl (0, 60, .inl (wm_pad c)) else if j = k + 14 then .inl (0, 60, .inl (wm_act c)) else if j = k + 15 then .inl (0, 60, .inl (wm_who c)) else if j = k + 16 then .inl (0, 60, .inl (wm_way c)) else if j = k + 17 then .inl (0, 88, .inl (wm_had c)) else if j = k + 18 then .inl (1, 6, .inr (.inl (wm_hadKnown c))) else if j = k + 19 then .inl (0, 6, .inl (wm_with c)) else if j = k + 20 then .inl (0, 6, .inl (wm_digit c)) else if j = k + 21 then .inl (0, 49, .inl (wm_more c)) else if j = k + 22 then .inl (0, 460, .inl (wm_kept c)) else if j = k + 23 then .inl (1, 12, .inr (.inl (wm_keptKnown c))) else if j = k + 24 then .inl (2, 2, .inl (wm_isKept c)) else h j
theorem wm_o (h : Wd) (k : Nat) (c : Mod) : wm h k c k = .inr (7, wm_obj k c) := by simp [wm]
theorem wm_a_ore (h : Wd) (k : Nat) (c : Mod) : wm h k c (k + 1) = .inl (0, 64, .inl (wm_ore c)) := by simp [wm]
theorem wm_a_owner (h : Wd) (k : Nat) (c : Mod) : wm h k c (k + 2) = .inl (0, 64, .inl (wm_owner c)) := by simp [wm]
theorem wm_a_tent (h : Wd) (k : Nat) (c : Mod) : wm h k c (k + 3) = .inl (0, 6, .inl (wm_tent c)) := by simp [wm]
theorem wm_a_knows (h : Wd) (k : Nat) (c : Mod) : wm h k c (k + 4) = .inl (1, 6, .inr (.inl (wm_knows c))) := by simp [wm]
theorem wm_a_cold (h : Wd) (k : Nat) (c : Mod) : wm h k c (k + 5) = .inl (0, 6, .inl (wm_cold c)) := by simp [wm]
theorem wm_a_whistles (h : Wd) (k : Nat) (c : Mod) : wm h k c (k + 6) = .inl (0, 6, .inl (wm_whistles c)) := by simp [wm]
theorem wm_a_salt (h : Wd) (k : Nat) (c : Mod) : wm h k c (k + 7) = .inl (0, 6, .inl (wm_salt c)) := by simp [wm]
theorem wm_a_taleMan (h : Wd) (k : Nat) (c : Mod) : wm h k c (k + 8) = .inl (0, 8, .inl (wm_taleMan c)) := by simp [wm]
theorem wm_a_taleCell (h : Wd) (k : Nat) (c : Mod) : wm h k c (k + 9) = .inl (0, 8, .inl (wm_taleCell c)) := by simp [wm]
theorem wm_a_taleGold (h : Wd) (k : Nat) (c : Mod) : wm h k c (k + 10) = .inl (0, 8, .inl (wm_taleGold c)) := by simp [wm]
theorem wm_a_sightCell (h : Wd) (k : Nat) (c : Mod) : wm h k c (k + 11) = .inl (0, 8, .inl (wm_sightCell c)) := by simp [wm]
theorem wm_a_sightIs (h : Wd) (k : Nat) (c : Mod) : wm h k c (k + 12) = .inl (0, 8, .inl (wm_sightIs c)) := by simp [wm]
theorem wm_a_pad (h : Wd) (k : Nat) (c : Mod) : wm h k c (k + 13) = .inl (0, 60, .inl (wm_pad c)) := by simp [wm]
theorem wm_a_act (h : Wd) (k : Nat) (c : Mod) : wm h k c (k + 14) = .inl (0, 60, .inl (wm_act c)) := by simp [wm]
theorem wm_a_who (h : Wd) (k : Nat) (c : Mod) : wm h k c (k + 15) = .inl (0, 60, .inl (wm_who c)) := by simp [wm]
theorem wm_a_way (h : Wd) (k : Nat) (c : Mod) : wm h k c (k + 16) = .inl (0, 60, .inl (wm_way c)) := by simp [wm]
theorem wm_a_had (h : Wd) (k : Nat) (c : Mod) : wm h k c (k + 17) = .inl (0, 88, .inl (wm_had c)) := by simp [wm]
theorem wm_a_hadKnown (h : Wd) (k : Nat) (c : Mod) : wm h k c (k + 18) = .inl (1, 6, .inr (.inl (wm_hadKnown c))) := by simp [wm]
theorem wm_a_with (h : Wd) (k : Nat) (c : Mod) : wm h k c (k + 19) = .inl (0, 6, .inl (wm_with c)) := by simp [wm]
theorem wm_a_digit (h : Wd) (k : Nat) (c : Mod) : wm h k c (k + 20) = .inl (0, 6, .inl (wm_digit c)) := by simp [wm]
theorem wm_a_more (h : Wd) (k : Nat) (c : Mod) : wm h k c (k + 21) = .inl (0, 49, .inl (wm_more c)) := by simp [wm]
theorem wm_a_kept (h : Wd) (k : Nat) (c : Mod) : wm h k c (k + 22) = .inl (0, 460, .inl (wm_kept c)) := by simp [wm]
theorem wm_a_keptKnown (h : Wd) (k : Nat) (c : Mod) : wm h k c (k + 23) = .inl (1, 12, .inr (.inl (wm_keptKnown c))) := by simp [wm]
theorem wm_a_isKept (h : Wd) (k : Nat) (c : Mod) : wm h k c (k + 24) = .inl (2, 2, .inl (wm_isKept c)) := by simp [wm]
theorem wm_wm (h : Wd) (k : Nat) (c c2 : Mod) : wm (wm h k c) k c2 = wm h k c2 := by
  funext j
  simp only [wm]
  by_cases e0 : j = k
  · simp only [if_pos e0]
  by_cases e1 : j = k + 1
  · simp only [if_neg e0, if_pos e1]
  by_cases e2 : j = k + 2
  · simp only [if_neg e0, if_neg e1, if_pos e2]
  by_cases e3 : j = k + 3
  · simp only [if_neg e0, if_neg e1, if_neg e2, if_pos e3]
  by_cases e4 : j = k + 4
  · simp only [if_neg e0, if_neg e1, if_neg e2, if_neg e3, if_pos e4]
  by_cases e5 : j = k + 5
  · simp only [if_neg e0, if_neg e1, if_neg e2, if_neg e3, if_neg e4, if_pos e5]
  by_cases e6 : j = k + 6
  · simp only [if_neg e0, if_neg e1, if_neg e2, if_neg e3, if_neg e4, if_neg e5, if_pos e6]
  by_cases e7 : j = k + 7
  · simp only [if_neg e0, if_neg e1, if_neg e2, if_neg e3, if_neg e4, if_neg e5, if_neg e6, if_pos e7]
  by_cases e8 : j = k + 8
  · simp only [if_neg e0, if_neg e1, if_neg e2, if_neg e3, if_neg e4, if_neg e5, if_neg e6, if_neg e7, if_pos e8]
  by_cases e9 : j = k + 9
  · simp only [if_neg e0, if_neg e1, if_neg e2, if_neg e3, if_neg e4, if_neg e5, if_neg e6, if_neg e7, if_neg e8, if_pos e9]
  by_cases e10 : j = k + 10
  · simp only [if_neg e0, if_neg e1, if_neg e2, if_neg e3, if_neg e4, if_neg e5, if_neg e6, if_neg e7, if_neg e8, if_neg e9, if_pos e10]
  by_cases e11 : j = k + 11
  · simp only [if_neg e0, if_neg e1, if_neg e2, if_neg e3, if_neg e4, if_neg e5, if_neg e6, if_neg e7, if_neg e8, if_neg e9, if_neg e10, if_pos e11]
  by_cases e12 : j = k + 12
  · simp only [if_neg e0, if_neg e1, if_neg e2, if_neg e3, if_neg e4, if_neg e5, if_neg e6, if_neg e7, if_neg e8, if_neg e9, if_neg e10, if_neg e11, if_pos e12]
  by_cases e13 : j = k + 13
  · simp only [if_neg e0, if_neg e1, if_neg e2, if_neg e3, if_neg e4, if_neg e5, if_neg e6, if_neg e7, if_neg e8, if_neg e9, if_neg e10, if_neg e11, if_neg e12, if_pos e13]
  by_cases e14 : j = k + 14
  · simp only [if_neg e0, if_neg e1, if_neg e2, if_neg e3, if_neg e4, if_neg e5, if_neg e6, if_neg e7, if_neg e8, if_neg e9, if_neg e10, if_neg e11, if_neg e12, if_neg e13, if_pos e14]
  by_cases e15 : j = k + 15
  · simp only [if_neg e0, if_neg e1, if_neg e2, if_neg e3, if_neg e4, if_neg e5, if_neg e6, if_neg e7, if_neg e8, if_neg e9, if_neg e10, if_neg e11, if_neg e12, if_neg e13, if_neg e14, if_pos e15]
  by_cases e16 : j = k + 16
  · simp only [if_neg e0, if_neg e1, if_neg e2, if_neg e3, if_neg e4, if_neg e5, if_neg e6, if_neg e7, if_neg e8, if_neg e9, if_neg e10, if_neg e11, if_neg e12, if_neg e13, if_neg e14, if_neg e15, if_pos e16]
  by_cases e17 : j = k + 17
  · simp only [if_neg e0, if_neg e1, if_neg e2, if_neg e3, if_neg e4, if_neg e5, if_neg e6, if_neg e7, if_neg e8, if_neg e9, if_neg e10, if_neg e11, if_neg e12, if_neg e13, if_neg e14, if_neg e15, if_neg e16, if_pos e17]
  by_cases e18 : j = k + 18
  · simp only [if_neg e0, if_neg e1, if_neg e2, if_neg e3, if_neg e4, if_neg e5, if_neg e6, if_neg e7, if_neg e8, if_neg e9, if_neg e10, if_neg e11, if_neg e12, if_neg e13, if_neg e14, if_neg e15, if_neg e16, if_neg e17, if_pos e18]
  by_cases e19 : j = k + 19
  · simp only [if_neg e0, if_neg e1, if_neg e2, if_neg e3, if_neg e4, if_neg e5, if_neg e6, if_neg e7, if_neg e8, if_neg e9, if_neg e10, if_neg e11, if_neg e12, if_neg e13, if_neg e14, if_neg e15, if_neg e16, if_neg e17, if_neg e18, if_pos e19]
  by_cases e20 : j = k + 20
  · simp only [if_neg e0, if_neg e1, if_neg e2, if_neg e3, if_neg e4, if_neg e5, if_neg e6, if_neg e7, if_neg e8, if_neg e9, if_neg e10, if_neg e11, if_neg e12, if_neg e13, if_neg e14, if_neg e15, if_neg e16, if_neg e17, if_neg e18, if_neg e19, if_pos e20]
  by_cases e21 : j = k + 21
  · simp only [if_neg e0, if_neg e1, if_neg e2, if_neg e3, if_neg e4, if_neg e5, if_neg e6, if_neg e7, if_neg e8, if_neg e9, if_neg e10, if_neg e11, if_neg e12, if_neg e13, if_neg e14, if_neg e15, if_neg e16, if_neg e17, if_neg e18, if_neg e19, if_neg e20, if_pos e21]
  by_cases e22 : j = k + 22
  · simp only [if_neg e0, if_neg e1, if_neg e2, if_neg e3, if_neg e4, if_neg e5, if_neg e6, if_neg e7, if_neg e8, if_neg e9, if_neg e10, if_neg e11, if_neg e12, if_neg e13, if_neg e14, if_neg e15, if_neg e16, if_neg e17, if_neg e18, if_neg e19, if_neg e20, if_neg e21, if_pos e22]
  by_cases e23 : j = k + 23
  · simp only [if_neg e0, if_neg e1, if_neg e2, if_neg e3, if_neg e4, if_neg e5, if_neg e6, if_neg e7, if_neg e8, if_neg e9, if_neg e10, if_neg e11, if_neg e12, if_neg e13, if_neg e14, if_neg e15, if_neg e16, if_neg e17, if_neg e18, if_neg e19, if_neg e20, if_neg e21, if_neg e22, if_pos e23]
  by_cases e24 : j = k + 24
  · simp only [if_neg e0, if_neg e1, if_neg e2, if_neg e3, if_neg e4, if_neg e5, if_neg e6, if_neg e7, if_neg e8, if_neg e9, if_neg e10, if_neg e11, if_neg e12, if_neg e13, if_neg e14, if_neg e15, if_neg e16, if_neg e17, if_neg e18, if_neg e19, if_neg e20, if_neg e21, if_neg e22, if_neg e23, if_pos e24]
  simp only [if_neg e0, if_neg e1, if_neg e2, if_neg e3, if_neg e4, if_neg e5, if_neg e6, if_neg e7, if_neg e8, if_neg e9, if_neg e10, if_neg e11, if_neg e12, if_neg e13, if_neg e14, if_neg e15, if_neg e16, if_neg e17, if_neg e18, if_neg e19, if_neg e20, if_neg e21, if_neg e22, if_neg e23, if_neg e24]
theorem wm_u_ore (h : Wd) (k : Nat) (c : Mod) (v : Nat → Int32) : va_up (wm h k c) (k + 1) (.inl (0, 64, .inl v)) = wm h k (wm_s_ore c v) := by
  funext j
  by_cases hj : j = k + 1
  · subst hj
    rw [va_up_self, wm_a_ore]
    rfl
  · rw [va_up_ne _ _ hj]
    simp only [wm, if_neg hj]
    all_goals rfl
theorem wm_u_owner (h : Wd) (k : Nat) (c : Mod) (v : Nat → Int32) : va_up (wm h k c) (k + 2) (.inl (0, 64, .inl v)) = wm h k (wm_s_owner c v) := by
  funext j
  by_cases hj : j = k + 2
  · subst hj
    rw [va_up_self, wm_a_owner]
    rfl
  · rw [va_up_ne _ _ hj]
    simp only [wm, if_neg hj]
    all_goals rfl
theorem wm_u_tent (h : Wd) (k : Nat) (c : Mod) (v : Nat → Int32) : va_up (wm h k c) (k + 3) (.inl (0, 6, .inl v)) = wm h k (wm_s_tent c v) := by
  funext j
  by_cases hj : j = k + 3
  · subst hj
    rw [va_up_self, wm_a_tent]
    rfl
  · rw [va_up_ne _ _ hj]
    simp only [wm, if_neg hj]
    all_goals rfl
theorem wm_u_knows (h : Wd) (k : Nat) (c : Mod) (v : Nat → Int64) : va_up (wm h k c) (k + 4) (.inl (1, 6, .inr (.inl v))) = wm h k (wm_s_knows c v) := by
  funext j
  by_cases hj : j = k + 4
  · subst hj
    rw [va_up_self, wm_a_knows]
    rfl
  · rw [va_up_ne _ _ hj]
    simp only [wm, if_neg hj]
    all_goals rfl
theorem wm_u_cold (h : Wd) (k : Nat) (c : Mod) (v : Nat → Int32) : va_up (wm h k c) (k + 5) (.inl (0, 6, .inl v)) = wm h k (wm_s_cold c v) := by
  funext j
  by_cases hj : j = k + 5
  · subst hj
    rw [va_up_self, wm_a_cold]
    rfl
  · rw [va_up_ne _ _ hj]
    simp only [wm, if_neg hj]
    all_goals rfl
theorem wm_u_whistles (h : Wd) (k : Nat) (c : Mod) (v : Nat → Int32) : va_up (wm h k c) (k + 6) (.inl (0, 6, .inl v)) = wm h k (wm_s_whistles c v) := by
  funext j
  by_cases hj : j = k + 6
  · subst hj
    rw [va_up_self, wm_a_whistles]
    rfl
  · rw [va_up_ne _ _ hj]
    simp only [wm, if_neg hj]
    all_goals rfl
theorem wm_u_salt (h : Wd) (k : Nat) (c : Mod) (v : Nat → Int32) : va_up (wm h k c) (k + 7) (.inl (0, 6, .inl v)) = wm h k (wm_s_salt c v) := by
  funext j
  by_cases hj : j = k + 7
  · subst hj
    rw [va_up_self, wm_a_salt]
    rfl
  · rw [va_up_ne _ _ hj]
    simp only [wm, if_neg hj]
    all_goals rfl
theorem wm_u_taleMan (h : Wd) (k : Nat) (c : Mod) (v : Nat → Int32) : va_up (wm h k c) (k + 8) (.inl (0, 8, .inl v)) = wm h k (wm_s_taleMan c v) := by
  funext j
  by_cases hj : j = k + 8
  · subst hj
    rw [va_up_self, wm_a_taleMan]
    rfl
  · rw [va_up_ne _ _ hj]
    simp only [wm, if_neg hj]
    all_goals rfl
theorem wm_u_taleCell (h : Wd) (k : Nat) (c : Mod) (v : Nat → Int32) : va_up (wm h k c) (k + 9) (.inl (0, 8, .inl v)) = wm h k (wm_s_taleCell c v) := by
  funext j
  by_cases hj : j = k + 9
  · subst hj
    rw [va_up_self, wm_a_taleCell]
    rfl
  · rw [va_up_ne _ _ hj]
    simp only [wm, if_neg hj]
    all_goals rfl
theorem wm_u_taleGold (h : Wd) (k : Nat) (c : Mod) (v : Nat → Int32) : va_up (wm h k c) (k + 10) (.inl (0, 8, .inl v)) = wm h k (wm_s_taleGold c v) := by
  funext j
  by_cases hj : j = k + 10
  · subst hj
    rw [va_up_self, wm_a_taleGold]
    rfl
  · rw [va_up_ne _ _ hj]
    simp only [wm, if_neg hj]
    all_goals rfl
theorem wm_u_sightCell (h : Wd) (k : Nat) (c : Mod) (v : Nat → Int32) : va_up (wm h k c) (k + 11) (.inl (0, 8, .inl v)) = wm h k (wm_s_sightCell c v) := by
  funext j
  by_cases hj : j = k + 11
  · subst hj
    rw [va_up_self, wm_a_sightCell]
    rfl
  · rw [va_up_ne _ _ hj]
    simp only [wm, if_neg hj]
    all_goals rfl
theorem wm_u_sightIs (h : Wd) (k : Nat) (c : Mod) (v : Nat → Int32) : va_up (wm h k c) (k + 12) (.inl (0, 8, .inl v)) = wm h k (wm_s_sightIs c v) := by
  funext j
  by_cases hj : j = k + 12
  · subst hj
    rw [va_up_self, wm_a_sightIs]
    rfl
  · rw [va_up_ne _ _ hj]
    simp only [wm, if_neg hj]
    all_goals rfl
theorem wm_u_pad (h : Wd) (k : Nat) (c : Mod) (v : Nat → Int32) : va_up (wm h k c) (k + 13) (.inl (0, 60, .inl v)) = wm h k (wm_s_pad c v) := by
  funext j
  by_cases hj : j = k + 13
  · subst hj
    rw [va_up_self, wm_a_pad]
    rfl
  · rw [va_up_ne _ _ hj]
    simp only [wm, if_neg hj]
    all_goals rfl
theorem wm_u_act (h : Wd) (k : Nat) (c : Mod) (v : Nat → Int32) : va_up (wm h k c) (k + 14) (.inl (0, 60, .inl v)) = wm h k (wm_s_act c v) := by
  funext j
  by_cases hj : j = k + 14
  · subst hj
    rw [va_up_self, wm_a_act]
    rfl
  · rw [va_up_ne _ _ hj]
    simp only [wm, if_neg hj]
    all_goals rfl
theorem wm_u_who (h : Wd) (k : Nat) (c : Mod) (v : Nat → Int32) : va_up (wm h k c) (k + 15) (.inl (0, 60, .inl v)) = wm h k (wm_s_who c v) := by
  funext j
  by_cases hj : j = k + 15
  · subst hj
    rw [va_up_self, wm_a_who]
    rfl
  · rw [va_up_ne _ _ hj]
    simp only [wm, if_neg hj]
    all_goals rfl
theorem wm_u_way (h : Wd) (k : Nat) (c : Mod) (v : Nat → Int32) : va_up (wm h k c) (k + 16) (.inl (0, 60, .inl v)) = wm h k (wm_s_way c v) := by
  funext j
  by_cases hj : j = k + 16
  · subst hj
    rw [va_up_self, wm_a_way]
    rfl
  · rw [va_up_ne _ _ hj]
    simp only [wm, if_neg hj]
    all_goals rfl
theorem wm_u_had (h : Wd) (k : Nat) (c : Mod) (v : Nat → Int32) : va_up (wm h k c) (k + 17) (.inl (0, 88, .inl v)) = wm h k (wm_s_had c v) := by
  funext j
  by_cases hj : j = k + 17
  · subst hj
    rw [va_up_self, wm_a_had]
    rfl
  · rw [va_up_ne _ _ hj]
    simp only [wm, if_neg hj]
    all_goals rfl
theorem wm_u_hadKnown (h : Wd) (k : Nat) (c : Mod) (v : Nat → Int64) : va_up (wm h k c) (k + 18) (.inl (1, 6, .inr (.inl v))) = wm h k (wm_s_hadKnown c v) := by
  funext j
  by_cases hj : j = k + 18
  · subst hj
    rw [va_up_self, wm_a_hadKnown]
    rfl
  · rw [va_up_ne _ _ hj]
    simp only [wm, if_neg hj]
    all_goals rfl
theorem wm_u_with (h : Wd) (k : Nat) (c : Mod) (v : Nat → Int32) : va_up (wm h k c) (k + 19) (.inl (0, 6, .inl v)) = wm h k (wm_s_with c v) := by
  funext j
  by_cases hj : j = k + 19
  · subst hj
    rw [va_up_self, wm_a_with]
    rfl
  · rw [va_up_ne _ _ hj]
    simp only [wm, if_neg hj]
    all_goals rfl
theorem wm_u_digit (h : Wd) (k : Nat) (c : Mod) (v : Nat → Int32) : va_up (wm h k c) (k + 20) (.inl (0, 6, .inl v)) = wm h k (wm_s_digit c v) := by
  funext j
  by_cases hj : j = k + 20
  · subst hj
    rw [va_up_self, wm_a_digit]
    rfl
  · rw [va_up_ne _ _ hj]
    simp only [wm, if_neg hj]
    all_goals rfl
theorem wm_u_more (h : Wd) (k : Nat) (c : Mod) (v : Nat → Int32) : va_up (wm h k c) (k + 21) (.inl (0, 49, .inl v)) = wm h k (wm_s_more c v) := by
  funext j
  by_cases hj : j = k + 21
  · subst hj
    rw [va_up_self, wm_a_more]
    rfl
  · rw [va_up_ne _ _ hj]
    simp only [wm, if_neg hj]
    all_goals rfl
theorem wm_u_kept (h : Wd) (k : Nat) (c : Mod) (v : Nat → Int32) : va_up (wm h k c) (k + 22) (.inl (0, 460, .inl v)) = wm h k (wm_s_kept c v) := by
  funext j
  by_cases hj : j = k + 22
  · subst hj
    rw [va_up_self, wm_a_kept]
    rfl
  · rw [va_up_ne _ _ hj]
    simp only [wm, if_neg hj]
    all_goals rfl
theorem wm_u_keptKnown (h : Wd) (k : Nat) (c : Mod) (v : Nat → Int64) : va_up (wm h k c) (k + 23) (.inl (1, 12, .inr (.inl v))) = wm h k (wm_s_keptKnown c v) := by
  funext j
  by_cases hj : j = k + 23
  · subst hj
    rw [va_up_self, wm_a_keptKnown]
    rfl
  · rw [va_up_ne _ _ hj]
    simp only [wm, if_neg hj]
    all_goals rfl
theorem wm_u_isKept (h : Wd) (k : Nat) (c : Mod) (v : Nat → Int32) : va_up (wm h k c) (k + 24) (.inl (2, 2, .inl v)) = wm h k (wm_s_isKept c v) := by
  funext j
  by_cases hj : j = k + 24
  · subst hj
    rw [va_up_self, wm_a_isKept]
    rfl
  · rw [va_up_ne _ _ hj]
    simp only [wm, if_neg hj]
    all_goals rfl
theorem wm_u_men (h : Wd) (k : Nat) (c : Mod) (v : Int32) : va_up (wm h k c) k (.inr (7, (wm_obj k c).set 2 (.int v))) = wm h k (wm_s_men c v) := by
  funext j
  by_cases hj : j = k
  · subst hj
    rw [va_up_self, wm_o]
    rfl
  · rw [va_up_ne _ _ hj]
    simp only [wm, if_neg hj]
    all_goals rfl
theorem wm_u_tales (h : Wd) (k : Nat) (c : Mod) (v : Int32) : va_up (wm h k c) k (.inr (7, (wm_obj k c).set 11 (.int v))) = wm h k (wm_s_tales c v) := by
  funext j
  by_cases hj : j = k
  · subst hj
    rw [va_up_self, wm_o]
    rfl
  · rw [va_up_ne _ _ hj]
    simp only [wm, if_neg hj]
    all_goals rfl
theorem wm_u_sights (h : Wd) (k : Nat) (c : Mod) (v : Int32) : va_up (wm h k c) k (.inr (7, (wm_obj k c).set 14 (.int v))) = wm h k (wm_s_sights c v) := by
  funext j
  by_cases hj : j = k
  · subst hj
    rw [va_up_self, wm_o]
    rfl
  · rw [va_up_ne _ _ hj]
    simp only [wm, if_neg hj]
    all_goals rfl
theorem wm_u_padMany (h : Wd) (k : Nat) (c : Mod) (v : Int32) : va_up (wm h k c) k (.inr (7, (wm_obj k c).set 16 (.int v))) = wm h k (wm_s_padMany c v) := by
  funext j
  by_cases hj : j = k
  · subst hj
    rw [va_up_self, wm_o]
    rfl
  · rw [va_up_ne _ _ hj]
    simp only [wm, if_neg hj]
    all_goals rfl
theorem wm_u_acts (h : Wd) (k : Nat) (c : Mod) (v : Int32) : va_up (wm h k c) k (.inr (7, (wm_obj k c).set 20 (.int v))) = wm h k (wm_s_acts c v) := by
  funext j
  by_cases hj : j = k
  · subst hj
    rw [va_up_self, wm_o]
    rfl
  · rw [va_up_ne _ _ hj]
    simp only [wm, if_neg hj]
    all_goals rfl
theorem wm_u_womans (h : Wd) (k : Nat) (c : Mod) (v : Int32) : va_up (wm h k c) k (.inr (7, (wm_obj k c).set 21 (.int v))) = wm h k (wm_s_womans c v) := by
  funext j
  by_cases hj : j = k
  · subst hj
    rw [va_up_self, wm_o]
    rfl
  · rw [va_up_ne _ _ hj]
    simp only [wm, if_neg hj]
    all_goals rfl
theorem wm_u_firstNothing (h : Wd) (k : Nat) (c : Mod) (v : Int32) : va_up (wm h k c) k (.inr (7, (wm_obj k c).set 22 (.int v))) = wm h k (wm_s_firstNothing c v) := by
  funext j
  by_cases hj : j = k
  · subst hj
    rw [va_up_self, wm_o]
    rfl
  · rw [va_up_ne _ _ hj]
    simp only [wm, if_neg hj]
    all_goals rfl
theorem wm_u_nothingMany (h : Wd) (k : Nat) (c : Mod) (v : Int32) : va_up (wm h k c) k (.inr (7, (wm_obj k c).set 23 (.int v))) = wm h k (wm_s_nothingMany c v) := by
  funext j
  by_cases hj : j = k
  · subst hj
    rw [va_up_self, wm_o]
    rfl
  · rw [va_up_ne _ _ hj]
    simp only [wm, if_neg hj]
    all_goals rfl
theorem wm_u_actNow (h : Wd) (k : Nat) (c : Mod) (v : Int32) : va_up (wm h k c) k (.inr (7, (wm_obj k c).set 24 (.int v))) = wm h k (wm_s_actNow c v) := by
  funext j
  by_cases hj : j = k
  · subst hj
    rw [va_up_self, wm_o]
    rfl
  · rw [va_up_ne _ _ hj]
    simp only [wm, if_neg hj]
    all_goals rfl
theorem wm_u_badAct (h : Wd) (k : Nat) (c : Mod) (v : Int32) : va_up (wm h k c) k (.inr (7, (wm_obj k c).set 27 (.int v))) = wm h k (wm_s_badAct c v) := by
  funext j
  by_cases hj : j = k
  · subst hj
    rw [va_up_self, wm_o]
    rfl
  · rw [va_up_ne _ _ hj]
    simp only [wm, if_neg hj]
    all_goals rfl
theorem wm_u_badWhy (h : Wd) (k : Nat) (c : Mod) (v : Int32) : va_up (wm h k c) k (.inr (7, (wm_obj k c).set 28 (.int v))) = wm h k (wm_s_badWhy c v) := by
  funext j
  by_cases hj : j = k
  · subst hj
    rw [va_up_self, wm_o]
    rfl
  · rw [va_up_ne _ _ hj]
    simp only [wm, if_neg hj]
    all_goals rfl
theorem wm_u_keptAt (h : Wd) (k : Nat) (c : Mod) (v : Int32) : va_up (wm h k c) k (.inr (7, (wm_obj k c).set 35 (.int v))) = wm h k (wm_s_keptAt c v) := by
  funext j
  by_cases hj : j = k
  · subst hj
    rw [va_up_self, wm_o]
    rfl
  · rw [va_up_ne _ _ hj]
    simp only [wm, if_neg hj]
    all_goals rfl
theorem wm_u_isWriting (h : Wd) (k : Nat) (c : Mod) (v : Int32) : va_up (wm h k c) k (.inr (7, (wm_obj k c).set 36 (.int v))) = wm h k (wm_s_isWriting c v) := by
  funext j
  by_cases hj : j = k
  · subst hj
    rw [va_up_self, wm_o]
    rfl
  · rw [va_up_ne _ _ hj]
    simp only [wm, if_neg hj]
    all_goals rfl
theorem r_wm_get_ore {q : MI} {pc : Nat} {L st : List Value} {h h' : Wd} {r : Option Value} {k : Nat} {c : Mod} {idx : Nat} (hk : k + 24 < 76) (hl : Cond.fieldLink (my q).cls idx "SnoresGoldModel" "ore" "[I" ∈ gt) (hd : decode (mb q) pc = .ok (.getfield idx, 3)) (kk : WW q (pc + 3) L (.ref (k + 1) :: st) (wm h k c) r h') : WW q pc L (.ref k :: st) (wm h k c) r h' := r_get (k := 0) hd (ci := 7) rfl la_X7 hl (by decide) (by omega) (wm_o h k c) rfl kk
theorem r_wm_get_owner {q : MI} {pc : Nat} {L st : List Value} {h h' : Wd} {r : Option Value} {k : Nat} {c : Mod} {idx : Nat} (hk : k + 24 < 76) (hl : Cond.fieldLink (my q).cls idx "SnoresGoldModel" "owner" "[I" ∈ gt) (hd : decode (mb q) pc = .ok (.getfield idx, 3)) (kk : WW q (pc + 3) L (.ref (k + 2) :: st) (wm h k c) r h') : WW q pc L (.ref k :: st) (wm h k c) r h' := r_get (k := 1) hd (ci := 7) rfl la_X7 hl (by decide) (by omega) (wm_o h k c) rfl kk
theorem r_wm_get_men {q : MI} {pc : Nat} {L st : List Value} {h h' : Wd} {r : Option Value} {k : Nat} {c : Mod} {idx : Nat} (hk : k + 24 < 76) (hl : Cond.fieldLink (my q).cls idx "SnoresGoldModel" "men" "I" ∈ gt) (hd : decode (mb q) pc = .ok (.getfield idx, 3)) (kk : WW q (pc + 3) L (.int (wm_men c) :: st) (wm h k c) r h') : WW q pc L (.ref k :: st) (wm h k c) r h' := r_get (k := 2) hd (ci := 7) rfl la_X7 hl (by decide) (by omega) (wm_o h k c) rfl kk
theorem r_wm_put_men {q : MI} {pc : Nat} {L st : List Value} {h h' : Wd} {r : Option Value} {k : Nat} {c : Mod} {idx : Nat} {v : Int32} (hk : k + 24 < 76) (hl : Cond.fieldLink (my q).cls idx "SnoresGoldModel" "men" "I" ∈ gt) (hd : decode (mb q) pc = .ok (.putfield idx, 3)) (kk : WW q (pc + 3) L st (wm h k (wm_s_men c v)) r h') : WW q pc L (.int v :: .ref k :: st) (wm h k c) r h' := r_put (k := 2) (ty := .int) hd (ci := 7) rfl la_X7 tyX7_ok nmX7 hl (by decide) rfl (by decide +kernel) rfl rfl (by omega) (wm_o h k c) (show 2 < 37 by decide) (by rw [wm_u_men]; exact kk)
theorem r_wm_get_tent {q : MI} {pc : Nat} {L st : List Value} {h h' : Wd} {r : Option Value} {k : Nat} {c : Mod} {idx : Nat} (hk : k + 24 < 76) (hl : Cond.fieldLink (my q).cls idx "SnoresGoldModel" "tent" "[I" ∈ gt) (hd : decode (mb q) pc = .ok (.getfield idx, 3)) (kk : WW q (pc + 3) L (.ref (k + 3) :: st) (wm h k c) r h') : WW q pc L (.ref k :: st) (wm h k c) r h' := r_get (k := 3) hd (ci := 7) rfl la_X7 hl (by decide) (by omega) (wm_o h k c) rfl kk
theorem r_wm_get_knows {q : MI} {pc : Nat} {L st : List Value} {h h' : Wd} {r : Option Value} {k : Nat} {c : Mod} {idx : Nat} (hk : k + 24 < 76) (hl : Cond.fieldLink (my q).cls idx "SnoresGoldModel" "knows" "[J" ∈ gt) (hd : decode (mb q) pc = .ok (.getfield idx, 3)) (kk : WW q (pc + 3) L (.ref (k + 4) :: st) (wm h k c) r h') : WW q pc L (.ref k :: st) (wm h k c) r h' := r_get (k := 4) hd (ci := 7) rfl la_X7 hl (by decide) (by omega) (wm_o h k c) rfl kk
theorem r_wm_get_cold {q : MI} {pc : Nat} {L st : List Value} {h h' : Wd} {r : Option Value} {k : Nat} {c : Mod} {idx : Nat} (hk : k + 24 < 76) (hl : Cond.fieldLink (my q).cls idx "SnoresGoldModel" "cold" "[I" ∈ gt) (hd : decode (mb q) pc = .ok (.getfield idx, 3)) (kk : WW q (pc + 3) L (.ref (k + 5) :: st) (wm h k c) r h') : WW q pc L (.ref k :: st) (wm h k c) r h' := r_get (k := 5) hd (ci := 7) rfl la_X7 hl (by decide) (by omega) (wm_o h k c) rfl kk
theorem r_wm_get_whistles {q : MI} {pc : Nat} {L st : List Value} {h h' : Wd} {r : Option Value} {k : Nat} {c : Mod} {idx : Nat} (hk : k + 24 < 76) (hl : Cond.fieldLink (my q).cls idx "SnoresGoldModel" "whistles" "[I" ∈ gt) (hd : decode (mb q) pc = .ok (.getfield idx, 3)) (kk : WW q (pc + 3) L (.ref (k + 6) :: st) (wm h k c) r h') : WW q pc L (.ref k :: st) (wm h k c) r h' := r_get (k := 6) hd (ci := 7) rfl la_X7 hl (by decide) (by omega) (wm_o h k c) rfl kk
theorem r_wm_get_salt {q : MI} {pc : Nat} {L st : List Value} {h h' : Wd} {r : Option Value} {k : Nat} {c : Mod} {idx : Nat} (hk : k + 24 < 76) (hl : Cond.fieldLink (my q).cls idx "SnoresGoldModel" "salt" "[I" ∈ gt) (hd : decode (mb q) pc = .ok (.getfield idx, 3)) (kk : WW q (pc + 3) L (.ref (k + 7) :: st) (wm h k c) r h') : WW q pc L (.ref k :: st) (wm h k c) r h' := r_get (k := 7) hd (ci := 7) rfl la_X7 hl (by decide) (by omega) (wm_o h k c) rfl kk
theorem r_wm_get_taleMan {q : MI} {pc : Nat} {L st : List Value} {h h' : Wd} {r : Option Value} {k : Nat} {c : Mod} {idx : Nat} (hk : k + 24 < 76) (hl : Cond.fieldLink (my q).cls idx "SnoresGoldModel" "taleMan" "[I" ∈ gt) (hd : decode (mb q) pc = .ok (.getfield idx, 3)) (kk : WW q (pc + 3) L (.ref (k + 8) :: st) (wm h k c) r h') : WW q pc L (.ref k :: st) (wm h k c) r h' := r_get (k := 8) hd (ci := 7) rfl la_X7 hl (by decide) (by omega) (wm_o h k c) rfl kk
theorem r_wm_get_taleCell {q : MI} {pc : Nat} {L st : List Value} {h h' : Wd} {r : Option Value} {k : Nat} {c : Mod} {idx : Nat} (hk : k + 24 < 76) (hl : Cond.fieldLink (my q).cls idx "SnoresGoldModel" "taleCell" "[I" ∈ gt) (hd : decode (mb q) pc = .ok (.getfield idx, 3)) (kk : WW q (pc + 3) L (.ref (k + 9) :: st) (wm h k c) r h') : WW q pc L (.ref k :: st) (wm h k c) r h' := r_get (k := 9) hd (ci := 7) rfl la_X7 hl (by decide) (by omega) (wm_o h k c) rfl kk
theorem r_wm_get_taleGold {q : MI} {pc : Nat} {L st : List Value} {h h' : Wd} {r : Option Value} {k : Nat} {c : Mod} {idx : Nat} (hk : k + 24 < 76) (hl : Cond.fieldLink (my q).cls idx "SnoresGoldModel" "taleGold" "[I" ∈ gt) (hd : decode (mb q) pc = .ok (.getfield idx, 3)) (kk : WW q (pc + 3) L (.ref (k + 10) :: st) (wm h k c) r h') : WW q pc L (.ref k :: st) (wm h k c) r h' := r_get (k := 10) hd (ci := 7) rfl la_X7 hl (by decide) (by omega) (wm_o h k c) rfl kk
theorem r_wm_get_tales {q : MI} {pc : Nat} {L st : List Value} {h h' : Wd} {r : Option Value} {k : Nat} {c : Mod} {idx : Nat} (hk : k + 24 < 76) (hl : Cond.fieldLink (my q).cls idx "SnoresGoldModel" "tales" "I" ∈ gt) (hd : decode (mb q) pc = .ok (.getfield idx, 3)) (kk : WW q (pc + 3) L (.int (wm_tales c) :: st) (wm h k c) r h') : WW q pc L (.ref k :: st) (wm h k c) r h' := r_get (k := 11) hd (ci := 7) rfl la_X7 hl (by decide) (by omega) (wm_o h k c) rfl kk
theorem r_wm_put_tales {q : MI} {pc : Nat} {L st : List Value} {h h' : Wd} {r : Option Value} {k : Nat} {c : Mod} {idx : Nat} {v : Int32} (hk : k + 24 < 76) (hl : Cond.fieldLink (my q).cls idx "SnoresGoldModel" "tales" "I" ∈ gt) (hd : decode (mb q) pc = .ok (.putfield idx, 3)) (kk : WW q (pc + 3) L st (wm h k (wm_s_tales c v)) r h') : WW q pc L (.int v :: .ref k :: st) (wm h k c) r h' := r_put (k := 11) (ty := .int) hd (ci := 7) rfl la_X7 tyX7_ok nmX7 hl (by decide) rfl (by decide +kernel) rfl rfl (by omega) (wm_o h k c) (show 11 < 37 by decide) (by rw [wm_u_tales]; exact kk)
theorem r_wm_get_sightCell {q : MI} {pc : Nat} {L st : List Value} {h h' : Wd} {r : Option Value} {k : Nat} {c : Mod} {idx : Nat} (hk : k + 24 < 76) (hl : Cond.fieldLink (my q).cls idx "SnoresGoldModel" "sightCell" "[I" ∈ gt) (hd : decode (mb q) pc = .ok (.getfield idx, 3)) (kk : WW q (pc + 3) L (.ref (k + 11) :: st) (wm h k c) r h') : WW q pc L (.ref k :: st) (wm h k c) r h' := r_get (k := 12) hd (ci := 7) rfl la_X7 hl (by decide) (by omega) (wm_o h k c) rfl kk
theorem r_wm_get_sightIs {q : MI} {pc : Nat} {L st : List Value} {h h' : Wd} {r : Option Value} {k : Nat} {c : Mod} {idx : Nat} (hk : k + 24 < 76) (hl : Cond.fieldLink (my q).cls idx "SnoresGoldModel" "sightIs" "[I" ∈ gt) (hd : decode (mb q) pc = .ok (.getfield idx, 3)) (kk : WW q (pc + 3) L (.ref (k + 12) :: st) (wm h k c) r h') : WW q pc L (.ref k :: st) (wm h k c) r h' := r_get (k := 13) hd (ci := 7) rfl la_X7 hl (by decide) (by omega) (wm_o h k c) rfl kk
theorem r_wm_get_sights {q : MI} {pc : Nat} {L st : List Value} {h h' : Wd} {r : Option Value} {k : Nat} {c : Mod} {idx : Nat} (hk : k + 24 < 76) (hl : Cond.fieldLink (my q).cls idx "SnoresGoldModel" "sights" "I" ∈ gt) (hd : decode (mb q) pc = .ok (.getfield idx, 3)) (kk : WW q (pc + 3) L (.int (wm_sights c) :: st) (wm h k c) r h') : WW q pc L (.ref k :: st) (wm h k c) r h' := r_get (k := 14) hd (ci := 7) rfl la_X7 hl (by decide) (by omega) (wm_o h k c) rfl kk
theorem r_wm_put_sights {q : MI} {pc : Nat} {L st : List Value} {h h' : Wd} {r : Option Value} {k : Nat} {c : Mod} {idx : Nat} {v : Int32} (hk : k + 24 < 76) (hl : Cond.fieldLink (my q).cls idx "SnoresGoldModel" "sights" "I" ∈ gt) (hd : decode (mb q) pc = .ok (.putfield idx, 3)) (kk : WW q (pc + 3) L st (wm h k (wm_s_sights c v)) r h') : WW q pc L (.int v :: .ref k :: st) (wm h k c) r h' := r_put (k := 14) (ty := .int) hd (ci := 7) rfl la_X7 tyX7_ok nmX7 hl (by decide) rfl (by decide +kernel) rfl rfl (by omega) (wm_o h k c) (show 14 < 37 by decide) (by rw [wm_u_sights]; exact kk)
theorem r_wm_get_pad {q : MI} {pc : Nat} {L st : List Value} {h h' : Wd} {r : Option Value} {k : Nat} {c : Mod} {idx : Nat} (hk : k + 24 < 76) (hl : Cond.fieldLink (my q).cls idx "SnoresGoldModel" "pad" "[I" ∈ gt) (hd : decode (mb q) pc = .ok (.getfield idx, 3)) (kk : WW q (pc + 3) L (.ref (k + 13) :: st) (wm h k c) r h') : WW q pc L (.ref k :: st) (wm h k c) r h' := r_get (k := 15) hd (ci := 7) rfl la_X7 hl (by decide) (by omega) (wm_o h k c) rfl kk
theorem r_wm_get_padMany {q : MI} {pc : Nat} {L st : List Value} {h h' : Wd} {r : Option Value} {k : Nat} {c : Mod} {idx : Nat} (hk : k + 24 < 76) (hl : Cond.fieldLink (my q).cls idx "SnoresGoldModel" "padMany" "I" ∈ gt) (hd : decode (mb q) pc = .ok (.getfield idx, 3)) (kk : WW q (pc + 3) L (.int (wm_padMany c) :: st) (wm h k c) r h') : WW q pc L (.ref k :: st) (wm h k c) r h' := r_get (k := 16) hd (ci := 7) rfl la_X7 hl (by decide) (by omega) (wm_o h k c) rfl kk
theorem r_wm_put_padMany {q : MI} {pc : Nat} {L st : List Value} {h h' : Wd} {r : Option Value} {k : Nat} {c : Mod} {idx : Nat} {v : Int32} (hk : k + 24 < 76) (hl : Cond.fieldLink (my q).cls idx "SnoresGoldModel" "padMany" "I" ∈ gt) (hd : decode (mb q) pc = .ok (.putfield idx, 3)) (kk : WW q (pc + 3) L st (wm h k (wm_s_padMany c v)) r h') : WW q pc L (.int v :: .ref k :: st) (wm h k c) r h' := r_put (k := 16) (ty := .int) hd (ci := 7) rfl la_X7 tyX7_ok nmX7 hl (by decide) rfl (by decide +kernel) rfl rfl (by omega) (wm_o h k c) (show 16 < 37 by decide) (by rw [wm_u_padMany]; exact kk)
theorem r_wm_get_act {q : MI} {pc : Nat} {L st : List Value} {h h' : Wd} {r : Option Value} {k : Nat} {c : Mod} {idx : Nat} (hk : k + 24 < 76) (hl : Cond.fieldLink (my q).cls idx "SnoresGoldModel" "act" "[I" ∈ gt) (hd : decode (mb q) pc = .ok (.getfield idx, 3)) (kk : WW q (pc + 3) L (.ref (k + 14) :: st) (wm h k c) r h') : WW q pc L (.ref k :: st) (wm h k c) r h' := r_get (k := 17) hd (ci := 7) rfl la_X7 hl (by decide) (by omega) (wm_o h k c) rfl kk
theorem r_wm_get_who {q : MI} {pc : Nat} {L st : List Value} {h h' : Wd} {r : Option Value} {k : Nat} {c : Mod} {idx : Nat} (hk : k + 24 < 76) (hl : Cond.fieldLink (my q).cls idx "SnoresGoldModel" "who" "[I" ∈ gt) (hd : decode (mb q) pc = .ok (.getfield idx, 3)) (kk : WW q (pc + 3) L (.ref (k + 15) :: st) (wm h k c) r h') : WW q pc L (.ref k :: st) (wm h k c) r h' := r_get (k := 18) hd (ci := 7) rfl la_X7 hl (by decide) (by omega) (wm_o h k c) rfl kk
theorem r_wm_get_way {q : MI} {pc : Nat} {L st : List Value} {h h' : Wd} {r : Option Value} {k : Nat} {c : Mod} {idx : Nat} (hk : k + 24 < 76) (hl : Cond.fieldLink (my q).cls idx "SnoresGoldModel" "way" "[I" ∈ gt) (hd : decode (mb q) pc = .ok (.getfield idx, 3)) (kk : WW q (pc + 3) L (.ref (k + 16) :: st) (wm h k c) r h') : WW q pc L (.ref k :: st) (wm h k c) r h' := r_get (k := 19) hd (ci := 7) rfl la_X7 hl (by decide) (by omega) (wm_o h k c) rfl kk
theorem r_wm_get_acts {q : MI} {pc : Nat} {L st : List Value} {h h' : Wd} {r : Option Value} {k : Nat} {c : Mod} {idx : Nat} (hk : k + 24 < 76) (hl : Cond.fieldLink (my q).cls idx "SnoresGoldModel" "acts" "I" ∈ gt) (hd : decode (mb q) pc = .ok (.getfield idx, 3)) (kk : WW q (pc + 3) L (.int (wm_acts c) :: st) (wm h k c) r h') : WW q pc L (.ref k :: st) (wm h k c) r h' := r_get (k := 20) hd (ci := 7) rfl la_X7 hl (by decide) (by omega) (wm_o h k c) rfl kk
theorem r_wm_put_acts {q : MI} {pc : Nat} {L st : List Value} {h h' : Wd} {r : Option Value} {k : Nat} {c : Mod} {idx : Nat} {v : Int32} (hk : k + 24 < 76) (hl : Cond.fieldLink (my q).cls idx "SnoresGoldModel" "acts" "I" ∈ gt) (hd : decode (mb q) pc = .ok (.putfield idx, 3)) (kk : WW q (pc + 3) L st (wm h k (wm_s_acts c v)) r h') : WW q pc L (.int v :: .ref k :: st) (wm h k c) r h' := r_put (k := 20) (ty := .int) hd (ci := 7) rfl la_X7 tyX7_ok nmX7 hl (by decide) rfl (by decide +kernel) rfl rfl (by omega) (wm_o h k c) (show 20 < 37 by decide) (by rw [wm_u_acts]; exact kk)
theorem r_wm_get_womans {q : MI} {pc : Nat} {L st : List Value} {h h' : Wd} {r : Option Value} {k : Nat} {c : Mod} {idx : Nat} (hk : k + 24 < 76) (hl : Cond.fieldLink (my q).cls idx "SnoresGoldModel" "womans" "I" ∈ gt) (hd : decode (mb q) pc = .ok (.getfield idx, 3)) (kk : WW q (pc + 3) L (.int (wm_womans c) :: st) (wm h k c) r h') : WW q pc L (.ref k :: st) (wm h k c) r h' := r_get (k := 21) hd (ci := 7) rfl la_X7 hl (by decide) (by omega) (wm_o h k c) rfl kk
theorem r_wm_put_womans {q : MI} {pc : Nat} {L st : List Value} {h h' : Wd} {r : Option Value} {k : Nat} {c : Mod} {idx : Nat} {v : Int32} (hk : k + 24 < 76) (hl : Cond.fieldLink (my q).cls idx "SnoresGoldModel" "womans" "I" ∈ gt) (hd : decode (mb q) pc = .ok (.putfield idx, 3)) (kk : WW q (pc + 3) L st (wm h k (wm_s_womans c v)) r h') : WW q pc L (.int v :: .ref k :: st) (wm h k c) r h' := r_put (k := 21) (ty := .int) hd (ci := 7) rfl la_X7 tyX7_ok nmX7 hl (by decide) rfl (by decide +kernel) rfl rfl (by omega) (wm_o h k c) (show 21 < 37 by decide) (by rw [wm_u_womans]; exact kk)
theorem r_wm_get_firstNothing {q : MI} {pc : Nat} {L st : List Value} {h h' : Wd} {r : Option Value} {k : Nat} {c : Mod} {idx : Nat} (hk : k + 24 < 76) (hl : Cond.fieldLink (my q).cls idx "SnoresGoldModel" "firstNothing" "I" ∈ gt) (hd : decode (mb q) pc = .ok (.getfield idx, 3)) (kk : WW q (pc + 3) L (.int (wm_firstNothing c) :: st) (wm h k c) r h') : WW q pc L (.ref k :: st) (wm h k c) r h' := r_get (k := 22) hd (ci := 7) rfl la_X7 hl (by decide) (by omega) (wm_o h k c) rfl kk
theorem r_wm_put_firstNothing {q : MI} {pc : Nat} {L st : List Value} {h h' : Wd} {r : Option Value} {k : Nat} {c : Mod} {idx : Nat} {v : Int32} (hk : k + 24 < 76) (hl : Cond.fieldLink (my q).cls idx "SnoresGoldModel" "firstNothing" "I" ∈ gt) (hd : decode (mb q) pc = .ok (.putfield idx, 3)) (kk : WW q (pc + 3) L st (wm h k (wm_s_firstNothing c v)) r h') : WW q pc L (.int v :: .ref k :: st) (wm h k c) r h' := r_put (k := 22) (ty := .int) hd (ci := 7) rfl la_X7 tyX7_ok nmX7 hl (by decide) rfl (by decide +kernel) rfl rfl (by omega) (wm_o h k c) (show 22 < 37 by decide) (by rw [wm_u_firstNothing]; exact kk)
theorem r_wm_get_nothingMany {q : MI} {pc : Nat} {L st : List Value} {h h' : Wd} {r : Option Value} {k : Nat} {c : Mod} {idx : Nat} (hk : k + 24 < 76) (hl : Cond.fieldLink (my q).cls idx "SnoresGoldModel" "nothingMany" "I" ∈ gt) (hd : decode (mb q) pc = .ok (.getfield idx, 3)) (kk : WW q (pc + 3) L (.int (wm_nothingMany c) :: st) (wm h k c) r h') : WW q pc L (.ref k :: st) (wm h k c) r h' := r_get (k := 23) hd (ci := 7) rfl la_X7 hl (by decide) (by omega) (wm_o h k c) rfl kk
theorem r_wm_put_nothingMany {q : MI} {pc : Nat} {L st : List Value} {h h' : Wd} {r : Option Value} {k : Nat} {c : Mod} {idx : Nat} {v : Int32} (hk : k + 24 < 76) (hl : Cond.fieldLink (my q).cls idx "SnoresGoldModel" "nothingMany" "I" ∈ gt) (hd : decode (mb q) pc = .ok (.putfield idx, 3)) (kk : WW q (pc + 3) L st (wm h k (wm_s_nothingMany c v)) r h') : WW q pc L (.int v :: .ref k :: st) (wm h k c) r h' := r_put (k := 23) (ty := .int) hd (ci := 7) rfl la_X7 tyX7_ok nmX7 hl (by decide) rfl (by decide +kernel) rfl rfl (by omega) (wm_o h k c) (show 23 < 37 by decide) (by rw [wm_u_nothingMany]; exact kk)
theorem r_wm_get_actNow {q : MI} {pc : Nat} {L st : List Value} {h h' : Wd} {r : Option Value} {k : Nat} {c : Mod} {idx : Nat} (hk : k + 24 < 76) (hl : Cond.fieldLink (my q).cls idx "SnoresGoldModel" "actNow" "I" ∈ gt) (hd : decode (mb q) pc = .ok (.getfield idx, 3)) (kk : WW q (pc + 3) L (.int (wm_actNow c) :: st) (wm h k c) r h') : WW q pc L (.ref k :: st) (wm h k c) r h' := r_get (k := 24) hd (ci := 7) rfl la_X7 hl (by decide) (by omega) (wm_o h k c) rfl kk
theorem r_wm_put_actNow {q : MI} {pc : Nat} {L st : List Value} {h h' : Wd} {r : Option Value} {k : Nat} {c : Mod} {idx : Nat} {v : Int32} (hk : k + 24 < 76) (hl : Cond.fieldLink (my q).cls idx "SnoresGoldModel" "actNow" "I" ∈ gt) (hd : decode (mb q) pc = .ok (.putfield idx, 3)) (kk : WW q (pc + 3) L st (wm h k (wm_s_actNow c v)) r h') : WW q pc L (.int v :: .ref k :: st) (wm h k c) r h' := r_put (k := 24) (ty := .int) hd (ci := 7) rfl la_X7 tyX7_ok nmX7 hl (by decide) rfl (by decide +kernel) rfl rfl (by omega) (wm_o h k c) (show 24 < 37 by decide) (by rw [wm_u_actNow]; exact kk)
theorem r_wm_get_had {q : MI} {pc : Nat} {L st : List Value} {h h' : Wd} {r : Option Value} {k : Nat} {c : Mod} {idx : Nat} (hk : k + 24 < 76) (hl : Cond.fieldLink (my q).cls idx "SnoresGoldModel" "had" "[I" ∈ gt) (hd : decode (mb q) pc = .ok (.getfield idx, 3)) (kk : WW q (pc + 3) L (.ref (k + 17) :: st) (wm h k c) r h') : WW q pc L (.ref k :: st) (wm h k c) r h' := r_get (k := 25) hd (ci := 7) rfl la_X7 hl (by decide) (by omega) (wm_o h k c) rfl kk
theorem r_wm_get_hadKnown {q : MI} {pc : Nat} {L st : List Value} {h h' : Wd} {r : Option Value} {k : Nat} {c : Mod} {idx : Nat} (hk : k + 24 < 76) (hl : Cond.fieldLink (my q).cls idx "SnoresGoldModel" "hadKnown" "[J" ∈ gt) (hd : decode (mb q) pc = .ok (.getfield idx, 3)) (kk : WW q (pc + 3) L (.ref (k + 18) :: st) (wm h k c) r h') : WW q pc L (.ref k :: st) (wm h k c) r h' := r_get (k := 26) hd (ci := 7) rfl la_X7 hl (by decide) (by omega) (wm_o h k c) rfl kk
theorem r_wm_get_badAct {q : MI} {pc : Nat} {L st : List Value} {h h' : Wd} {r : Option Value} {k : Nat} {c : Mod} {idx : Nat} (hk : k + 24 < 76) (hl : Cond.fieldLink (my q).cls idx "SnoresGoldModel" "badAct" "I" ∈ gt) (hd : decode (mb q) pc = .ok (.getfield idx, 3)) (kk : WW q (pc + 3) L (.int (wm_badAct c) :: st) (wm h k c) r h') : WW q pc L (.ref k :: st) (wm h k c) r h' := r_get (k := 27) hd (ci := 7) rfl la_X7 hl (by decide) (by omega) (wm_o h k c) rfl kk
theorem r_wm_put_badAct {q : MI} {pc : Nat} {L st : List Value} {h h' : Wd} {r : Option Value} {k : Nat} {c : Mod} {idx : Nat} {v : Int32} (hk : k + 24 < 76) (hl : Cond.fieldLink (my q).cls idx "SnoresGoldModel" "badAct" "I" ∈ gt) (hd : decode (mb q) pc = .ok (.putfield idx, 3)) (kk : WW q (pc + 3) L st (wm h k (wm_s_badAct c v)) r h') : WW q pc L (.int v :: .ref k :: st) (wm h k c) r h' := r_put (k := 27) (ty := .int) hd (ci := 7) rfl la_X7 tyX7_ok nmX7 hl (by decide) rfl (by decide +kernel) rfl rfl (by omega) (wm_o h k c) (show 27 < 37 by decide) (by rw [wm_u_badAct]; exact kk)
theorem r_wm_get_badWhy {q : MI} {pc : Nat} {L st : List Value} {h h' : Wd} {r : Option Value} {k : Nat} {c : Mod} {idx : Nat} (hk : k + 24 < 76) (hl : Cond.fieldLink (my q).cls idx "SnoresGoldModel" "badWhy" "I" ∈ gt) (hd : decode (mb q) pc = .ok (.getfield idx, 3)) (kk : WW q (pc + 3) L (.int (wm_badWhy c) :: st) (wm h k c) r h') : WW q pc L (.ref k :: st) (wm h k c) r h' := r_get (k := 28) hd (ci := 7) rfl la_X7 hl (by decide) (by omega) (wm_o h k c) rfl kk
theorem r_wm_put_badWhy {q : MI} {pc : Nat} {L st : List Value} {h h' : Wd} {r : Option Value} {k : Nat} {c : Mod} {idx : Nat} {v : Int32} (hk : k + 24 < 76) (hl : Cond.fieldLink (my q).cls idx "SnoresGoldModel" "badWhy" "I" ∈ gt) (hd : decode (mb q) pc = .ok (.putfield idx, 3)) (kk : WW q (pc + 3) L st (wm h k (wm_s_badWhy c v)) r h') : WW q pc L (.int v :: .ref k :: st) (wm h k c) r h' := r_put (k := 28) (ty := .int) hd (ci := 7) rfl la_X7 tyX7_ok nmX7 hl (by decide) rfl (by decide +kernel) rfl rfl (by omega) (wm_o h k c) (show 28 < 37 by decide) (by rw [wm_u_badWhy]; exact kk)
theorem r_wm_get_with {q : MI} {pc : Nat} {L st : List Value} {h h' : Wd} {r : Option Value} {k : Nat} {c : Mod} {idx : Nat} (hk : k + 24 < 76) (hl : Cond.fieldLink (my q).cls idx "SnoresGoldModel" "with" "[I" ∈ gt) (hd : decode (mb q) pc = .ok (.getfield idx, 3)) (kk : WW q (pc + 3) L (.ref (k + 19) :: st) (wm h k c) r h') : WW q pc L (.ref k :: st) (wm h k c) r h' := r_get (k := 29) hd (ci := 7) rfl la_X7 hl (by decide) (by omega) (wm_o h k c) rfl kk
theorem r_wm_get_digit {q : MI} {pc : Nat} {L st : List Value} {h h' : Wd} {r : Option Value} {k : Nat} {c : Mod} {idx : Nat} (hk : k + 24 < 76) (hl : Cond.fieldLink (my q).cls idx "SnoresGoldModel" "digit" "[I" ∈ gt) (hd : decode (mb q) pc = .ok (.getfield idx, 3)) (kk : WW q (pc + 3) L (.ref (k + 20) :: st) (wm h k c) r h') : WW q pc L (.ref k :: st) (wm h k c) r h' := r_get (k := 30) hd (ci := 7) rfl la_X7 hl (by decide) (by omega) (wm_o h k c) rfl kk
theorem r_wm_get_more {q : MI} {pc : Nat} {L st : List Value} {h h' : Wd} {r : Option Value} {k : Nat} {c : Mod} {idx : Nat} (hk : k + 24 < 76) (hl : Cond.fieldLink (my q).cls idx "SnoresGoldModel" "more" "[I" ∈ gt) (hd : decode (mb q) pc = .ok (.getfield idx, 3)) (kk : WW q (pc + 3) L (.ref (k + 21) :: st) (wm h k c) r h') : WW q pc L (.ref k :: st) (wm h k c) r h' := r_get (k := 31) hd (ci := 7) rfl la_X7 hl (by decide) (by omega) (wm_o h k c) rfl kk
theorem r_wm_get_kept {q : MI} {pc : Nat} {L st : List Value} {h h' : Wd} {r : Option Value} {k : Nat} {c : Mod} {idx : Nat} (hk : k + 24 < 76) (hl : Cond.fieldLink (my q).cls idx "SnoresGoldModel" "kept" "[I" ∈ gt) (hd : decode (mb q) pc = .ok (.getfield idx, 3)) (kk : WW q (pc + 3) L (.ref (k + 22) :: st) (wm h k c) r h') : WW q pc L (.ref k :: st) (wm h k c) r h' := r_get (k := 32) hd (ci := 7) rfl la_X7 hl (by decide) (by omega) (wm_o h k c) rfl kk
theorem r_wm_get_keptKnown {q : MI} {pc : Nat} {L st : List Value} {h h' : Wd} {r : Option Value} {k : Nat} {c : Mod} {idx : Nat} (hk : k + 24 < 76) (hl : Cond.fieldLink (my q).cls idx "SnoresGoldModel" "keptKnown" "[J" ∈ gt) (hd : decode (mb q) pc = .ok (.getfield idx, 3)) (kk : WW q (pc + 3) L (.ref (k + 23) :: st) (wm h k c) r h') : WW q pc L (.ref k :: st) (wm h k c) r h' := r_get (k := 33) hd (ci := 7) rfl la_X7 hl (by decide) (by omega) (wm_o h k c) rfl kk
theorem r_wm_get_isKept {q : MI} {pc : Nat} {L st : List Value} {h h' : Wd} {r : Option Value} {k : Nat} {c : Mod} {idx : Nat} (hk : k + 24 < 76) (hl : Cond.fieldLink (my q).cls idx "SnoresGoldModel" "isKept" "[Z" ∈ gt) (hd : decode (mb q) pc = .ok (.getfield idx, 3)) (kk : WW q (pc + 3) L (.ref (k + 24) :: st) (wm h k c) r h') : WW q pc L (.ref k :: st) (wm h k c) r h' := r_get (k := 34) hd (ci := 7) rfl la_X7 hl (by decide) (by omega) (wm_o h k c) rfl kk
theorem r_wm_get_keptAt {q : MI} {pc : Nat} {L st : List Value} {h h' : Wd} {r : Option Value} {k : Nat} {c : Mod} {idx : Nat} (hk : k + 24 < 76) (hl : Cond.fieldLink (my q).cls idx "SnoresGoldModel" "keptAt" "I" ∈ gt) (hd : decode (mb q) pc = .ok (.getfield idx, 3)) (kk : WW q (pc + 3) L (.int (wm_keptAt c) :: st) (wm h k c) r h') : WW q pc L (.ref k :: st) (wm h k c) r h' := r_get (k := 35) hd (ci := 7) rfl la_X7 hl (by decide) (by omega) (wm_o h k c) rfl kk
theorem r_wm_put_keptAt {q : MI} {pc : Nat} {L st : List Value} {h h' : Wd} {r : Option Value} {k : Nat} {c : Mod} {idx : Nat} {v : Int32} (hk : k + 24 < 76) (hl : Cond.fieldLink (my q).cls idx "SnoresGoldModel" "keptAt" "I" ∈ gt) (hd : decode (mb q) pc = .ok (.putfield idx, 3)) (kk : WW q (pc + 3) L st (wm h k (wm_s_keptAt c v)) r h') : WW q pc L (.int v :: .ref k :: st) (wm h k c) r h' := r_put (k := 35) (ty := .int) hd (ci := 7) rfl la_X7 tyX7_ok nmX7 hl (by decide) rfl (by decide +kernel) rfl rfl (by omega) (wm_o h k c) (show 35 < 37 by decide) (by rw [wm_u_keptAt]; exact kk)
theorem r_wm_get_isWriting {q : MI} {pc : Nat} {L st : List Value} {h h' : Wd} {r : Option Value} {k : Nat} {c : Mod} {idx : Nat} (hk : k + 24 < 76) (hl : Cond.fieldLink (my q).cls idx "SnoresGoldModel" "isWriting" "Z" ∈ gt) (hd : decode (mb q) pc = .ok (.getfield idx, 3)) (kk : WW q (pc + 3) L (.int (wm_isWriting c) :: st) (wm h k c) r h') : WW q pc L (.ref k :: st) (wm h k c) r h' := r_get (k := 36) hd (ci := 7) rfl la_X7 hl (by decide) (by omega) (wm_o h k c) rfl kk
theorem r_wm_put_isWriting {q : MI} {pc : Nat} {L st : List Value} {h h' : Wd} {r : Option Value} {k : Nat} {c : Mod} {idx : Nat} {v : Int32} (hk : k + 24 < 76) (hl : Cond.fieldLink (my q).cls idx "SnoresGoldModel" "isWriting" "Z" ∈ gt) (hd : decode (mb q) pc = .ok (.putfield idx, 3)) (hz : narrow .boolean (.int v) = .int v) (hz2 : fits .boolean (.int v) = true) (kk : WW q (pc + 3) L st (wm h k (wm_s_isWriting c v)) r h') : WW q pc L (.int v :: .ref k :: st) (wm h k c) r h' := r_put (k := 36) (ty := .boolean) hd (ci := 7) rfl la_X7 tyX7_ok nmX7 hl (by decide) rfl (by decide +kernel) hz hz2 (by omega) (wm_o h k c) (show 36 < 37 by decide) (by rw [wm_u_isWriting]; exact kk)
theorem r_wm_ld_ore {q : MI} {pc : Nat} {L st : List Value} {h h' : Wd} {r : Option Value} {k : Nat} {c : Mod} {j : Nat} (hk : k + 24 < 76) (hj : j < 64) (hd : decode (mb q) pc = .ok (.iaload, 1)) (kk : WW q (pc + 1) L (.int (wm_ore c j) :: st) (wm h k c) r h') : WW q pc L (.int (nI j) :: .ref (k + 1) :: st) (wm h k c) r h' := r_iald hd (by omega) (wm_a_ore h k c) (vi hj (by decide)) (by rw [ci hj (by decide)]; exact kk)
theorem r_wm_st_ore {q : MI} {pc : Nat} {L st : List Value} {h h' : Wd} {r : Option Value} {k : Nat} {c : Mod} {j : Nat} {x : Int32} (hk : k + 24 < 76) (hj : j < 64) (hd : decode (mb q) pc = .ok (.iastore, 1)) (kk : WW q (pc + 1) L st (wm h k (wm_s_ore c (upd (wm_ore c) j (x)))) r h') : WW q pc L (.int x :: .int (nI j) :: .ref (k + 1) :: st) (wm h k c) r h' := r_iast hd (by omega) (wm_a_ore h k c) (vi hj (by decide)) (by rw [ci hj (by decide), wm_u_ore]; exact kk)
theorem r_wm_len_ore {q : MI} {pc : Nat} {L st : List Value} {h h' : Wd} {r : Option Value} {k : Nat} {c : Mod} (hk : k + 24 < 76) (hd : decode (mb q) pc = .ok (.arraylength, 1)) (kk : WW q (pc + 1) L (.int 64 :: st) (wm h k c) r h') : WW q pc L (.ref (k + 1) :: st) (wm h k c) r h' := r_ialen hd (by omega) (wm_a_ore h k c) kk
theorem r_wm_ld_owner {q : MI} {pc : Nat} {L st : List Value} {h h' : Wd} {r : Option Value} {k : Nat} {c : Mod} {j : Nat} (hk : k + 24 < 76) (hj : j < 64) (hd : decode (mb q) pc = .ok (.iaload, 1)) (kk : WW q (pc + 1) L (.int (wm_owner c j) :: st) (wm h k c) r h') : WW q pc L (.int (nI j) :: .ref (k + 2) :: st) (wm h k c) r h' := r_iald hd (by omega) (wm_a_owner h k c) (vi hj (by decide)) (by rw [ci hj (by decide)]; exact kk)
theorem r_wm_st_owner {q : MI} {pc : Nat} {L st : List Value} {h h' : Wd} {r : Option Value} {k : Nat} {c : Mod} {j : Nat} {x : Int32} (hk : k + 24 < 76) (hj : j < 64) (hd : decode (mb q) pc = .ok (.iastore, 1)) (kk : WW q (pc + 1) L st (wm h k (wm_s_owner c (upd (wm_owner c) j (x)))) r h') : WW q pc L (.int x :: .int (nI j) :: .ref (k + 2) :: st) (wm h k c) r h' := r_iast hd (by omega) (wm_a_owner h k c) (vi hj (by decide)) (by rw [ci hj (by decide), wm_u_owner]; exact kk)
theorem r_wm_len_owner {q : MI} {pc : Nat} {L st : List Value} {h h' : Wd} {r : Option Value} {k : Nat} {c : Mod} (hk : k + 24 < 76) (hd : decode (mb q) pc = .ok (.arraylength, 1)) (kk : WW q (pc + 1) L (.int 64 :: st) (wm h k c) r h') : WW q pc L (.ref (k + 2) :: st) (wm h k c) r h' := r_ialen hd (by omega) (wm_a_owner h k c) kk
theorem r_wm_ld_tent {q : MI} {pc : Nat} {L st : List Value} {h h' : Wd} {r : Option Value} {k : Nat} {c : Mod} {j : Nat} (hk : k + 24 < 76) (hj : j < 6) (hd : decode (mb q) pc = .ok (.iaload, 1)) (kk : WW q (pc + 1) L (.int (wm_tent c j) :: st) (wm h k c) r h') : WW q pc L (.int (nI j) :: .ref (k + 3) :: st) (wm h k c) r h' := r_iald hd (by omega) (wm_a_tent h k c) (vi hj (by decide)) (by rw [ci hj (by decide)]; exact kk)
theorem r_wm_st_tent {q : MI} {pc : Nat} {L st : List Value} {h h' : Wd} {r : Option Value} {k : Nat} {c : Mod} {j : Nat} {x : Int32} (hk : k + 24 < 76) (hj : j < 6) (hd : decode (mb q) pc = .ok (.iastore, 1)) (kk : WW q (pc + 1) L st (wm h k (wm_s_tent c (upd (wm_tent c) j (x)))) r h') : WW q pc L (.int x :: .int (nI j) :: .ref (k + 3) :: st) (wm h k c) r h' := r_iast hd (by omega) (wm_a_tent h k c) (vi hj (by decide)) (by rw [ci hj (by decide), wm_u_tent]; exact kk)
theorem r_wm_len_tent {q : MI} {pc : Nat} {L st : List Value} {h h' : Wd} {r : Option Value} {k : Nat} {c : Mod} (hk : k + 24 < 76) (hd : decode (mb q) pc = .ok (.arraylength, 1)) (kk : WW q (pc + 1) L (.int 6 :: st) (wm h k c) r h') : WW q pc L (.ref (k + 3) :: st) (wm h k c) r h' := r_ialen hd (by omega) (wm_a_tent h k c) kk
theorem r_wm_ld_knows {q : MI} {pc : Nat} {L st : List Value} {h h' : Wd} {r : Option Value} {k : Nat} {c : Mod} {j : Nat} (hk : k + 24 < 76) (hj : j < 6) (hd : decode (mb q) pc = .ok (.laload, 1)) (kk : WW q (pc + 1) L (.long (wm_knows c j) :: st) (wm h k c) r h') : WW q pc L (.int (nI j) :: .ref (k + 4) :: st) (wm h k c) r h' := r_lald hd (by omega) (wm_a_knows h k c) (vi hj (by decide)) (by rw [ci hj (by decide)]; exact kk)
theorem r_wm_st_knows {q : MI} {pc : Nat} {L st : List Value} {h h' : Wd} {r : Option Value} {k : Nat} {c : Mod} {j : Nat} {x : Int64} (hk : k + 24 < 76) (hj : j < 6) (hd : decode (mb q) pc = .ok (.lastore, 1)) (kk : WW q (pc + 1) L st (wm h k (wm_s_knows c (vp_updL (wm_knows c) j (x)))) r h') : WW q pc L (.long x :: .int (nI j) :: .ref (k + 4) :: st) (wm h k c) r h' := r_last hd (by omega) (wm_a_knows h k c) (vi hj (by decide)) (by rw [ci hj (by decide), wm_u_knows]; exact kk)
theorem r_wm_ld_cold {q : MI} {pc : Nat} {L st : List Value} {h h' : Wd} {r : Option Value} {k : Nat} {c : Mod} {j : Nat} (hk : k + 24 < 76) (hj : j < 6) (hd : decode (mb q) pc = .ok (.iaload, 1)) (kk : WW q (pc + 1) L (.int (wm_cold c j) :: st) (wm h k c) r h') : WW q pc L (.int (nI j) :: .ref (k + 5) :: st) (wm h k c) r h' := r_iald hd (by omega) (wm_a_cold h k c) (vi hj (by decide)) (by rw [ci hj (by decide)]; exact kk)
theorem r_wm_st_cold {q : MI} {pc : Nat} {L st : List Value} {h h' : Wd} {r : Option Value} {k : Nat} {c : Mod} {j : Nat} {x : Int32} (hk : k + 24 < 76) (hj : j < 6) (hd : decode (mb q) pc = .ok (.iastore, 1)) (kk : WW q (pc + 1) L st (wm h k (wm_s_cold c (upd (wm_cold c) j (x)))) r h') : WW q pc L (.int x :: .int (nI j) :: .ref (k + 5) :: st) (wm h k c) r h' := r_iast hd (by omega) (wm_a_cold h k c) (vi hj (by decide)) (by rw [ci hj (by decide), wm_u_cold]; exact kk)
theorem r_wm_len_cold {q : MI} {pc : Nat} {L st : List Value} {h h' : Wd} {r : Option Value} {k : Nat} {c : Mod} (hk : k + 24 < 76) (hd : decode (mb q) pc = .ok (.arraylength, 1)) (kk : WW q (pc + 1) L (.int 6 :: st) (wm h k c) r h') : WW q pc L (.ref (k + 5) :: st) (wm h k c) r h' := r_ialen hd (by omega) (wm_a_cold h k c) kk
theorem r_wm_ld_whistles {q : MI} {pc : Nat} {L st : List Value} {h h' : Wd} {r : Option Value} {k : Nat} {c : Mod} {j : Nat} (hk : k + 24 < 76) (hj : j < 6) (hd : decode (mb q) pc = .ok (.iaload, 1)) (kk : WW q (pc + 1) L (.int (wm_whistles c j) :: st) (wm h k c) r h') : WW q pc L (.int (nI j) :: .ref (k + 6) :: st) (wm h k c) r h' := r_iald hd (by omega) (wm_a_whistles h k c) (vi hj (by decide)) (by rw [ci hj (by decide)]; exact kk)
theorem r_wm_st_whistles {q : MI} {pc : Nat} {L st : List Value} {h h' : Wd} {r : Option Value} {k : Nat} {c : Mod} {j : Nat} {x : Int32} (hk : k + 24 < 76) (hj : j < 6) (hd : decode (mb q) pc = .ok (.iastore, 1)) (kk : WW q (pc + 1) L st (wm h k (wm_s_whistles c (upd (wm_whistles c) j (x)))) r h') : WW q pc L (.int x :: .int (nI j) :: .ref (k + 6) :: st) (wm h k c) r h' := r_iast hd (by omega) (wm_a_whistles h k c) (vi hj (by decide)) (by rw [ci hj (by decide), wm_u_whistles]; exact kk)
theorem r_wm_len_whistles {q : MI} {pc : Nat} {L st : List Value} {h h' : Wd} {r : Option Value} {k : Nat} {c : Mod} (hk : k + 24 < 76) (hd : decode (mb q) pc = .ok (.arraylength, 1)) (kk : WW q (pc + 1) L (.int 6 :: st) (wm h k c) r h') : WW q pc L (.ref (k + 6) :: st) (wm h k c) r h' := r_ialen hd (by omega) (wm_a_whistles h k c) kk
theorem r_wm_ld_salt {q : MI} {pc : Nat} {L st : List Value} {h h' : Wd} {r : Option Value} {k : Nat} {c : Mod} {j : Nat} (hk : k + 24 < 76) (hj : j < 6) (hd : decode (mb q) pc = .ok (.iaload, 1)) (kk : WW q (pc + 1) L (.int (wm_salt c j) :: st) (wm h k c) r h') : WW q pc L (.int (nI j) :: .ref (k + 7) :: st) (wm h k c) r h' := r_iald hd (by omega) (wm_a_salt h k c) (vi hj (by decide)) (by rw [ci hj (by decide)]; exact kk)
theorem r_wm_st_salt {q : MI} {pc : Nat} {L st : List Value} {h h' : Wd} {r : Option Value} {k : Nat} {c : Mod} {j : Nat} {x : Int32} (hk : k + 24 < 76) (hj : j < 6) (hd : decode (mb q) pc = .ok (.iastore, 1)) (kk : WW q (pc + 1) L st (wm h k (wm_s_salt c (upd (wm_salt c) j (x)))) r h') : WW q pc L (.int x :: .int (nI j) :: .ref (k + 7) :: st) (wm h k c) r h' := r_iast hd (by omega) (wm_a_salt h k c) (vi hj (by decide)) (by rw [ci hj (by decide), wm_u_salt]; exact kk)
theorem r_wm_len_salt {q : MI} {pc : Nat} {L st : List Value} {h h' : Wd} {r : Option Value} {k : Nat} {c : Mod} (hk : k + 24 < 76) (hd : decode (mb q) pc = .ok (.arraylength, 1)) (kk : WW q (pc + 1) L (.int 6 :: st) (wm h k c) r h') : WW q pc L (.ref (k + 7) :: st) (wm h k c) r h' := r_ialen hd (by omega) (wm_a_salt h k c) kk
theorem r_wm_ld_taleMan {q : MI} {pc : Nat} {L st : List Value} {h h' : Wd} {r : Option Value} {k : Nat} {c : Mod} {j : Nat} (hk : k + 24 < 76) (hj : j < 8) (hd : decode (mb q) pc = .ok (.iaload, 1)) (kk : WW q (pc + 1) L (.int (wm_taleMan c j) :: st) (wm h k c) r h') : WW q pc L (.int (nI j) :: .ref (k + 8) :: st) (wm h k c) r h' := r_iald hd (by omega) (wm_a_taleMan h k c) (vi hj (by decide)) (by rw [ci hj (by decide)]; exact kk)
theorem r_wm_st_taleMan {q : MI} {pc : Nat} {L st : List Value} {h h' : Wd} {r : Option Value} {k : Nat} {c : Mod} {j : Nat} {x : Int32} (hk : k + 24 < 76) (hj : j < 8) (hd : decode (mb q) pc = .ok (.iastore, 1)) (kk : WW q (pc + 1) L st (wm h k (wm_s_taleMan c (upd (wm_taleMan c) j (x)))) r h') : WW q pc L (.int x :: .int (nI j) :: .ref (k + 8) :: st) (wm h k c) r h' := r_iast hd (by omega) (wm_a_taleMan h k c) (vi hj (by decide)) (by rw [ci hj (by decide), wm_u_taleMan]; exact kk)
theorem r_wm_len_taleMan {q : MI} {pc : Nat} {L st : List Value} {h h' : Wd} {r : Option Value} {k : Nat} {c : Mod} (hk : k + 24 < 76) (hd : decode (mb q) pc = .ok (.arraylength, 1)) (kk : WW q (pc + 1) L (.int 8 :: st) (wm h k c) r h') : WW q pc L (.ref (k + 8) :: st) (wm h k c) r h' := r_ialen hd (by omega) (wm_a_taleMan h k c) kk
theorem r_wm_ld_taleCell {q : MI} {pc : Nat} {L st : List Value} {h h' : Wd} {r : Option Value} {k : Nat} {c : Mod} {j : Nat} (hk : k + 24 < 76) (hj : j < 8) (hd : decode (mb q) pc = .ok (.iaload, 1)) (kk : WW q (pc + 1) L (.int (wm_taleCell c j) :: st) (wm h k c) r h') : WW q pc L (.int (nI j) :: .ref (k + 9) :: st) (wm h k c) r h' := r_iald hd (by omega) (wm_a_taleCell h k c) (vi hj (by decide)) (by rw [ci hj (by decide)]; exact kk)
theorem r_wm_st_taleCell {q : MI} {pc : Nat} {L st : List Value} {h h' : Wd} {r : Option Value} {k : Nat} {c : Mod} {j : Nat} {x : Int32} (hk : k + 24 < 76) (hj : j < 8) (hd : decode (mb q) pc = .ok (.iastore, 1)) (kk : WW q (pc + 1) L st (wm h k (wm_s_taleCell c (upd (wm_taleCell c) j (x)))) r h') : WW q pc L (.int x :: .int (nI j) :: .ref (k + 9) :: st) (wm h k c) r h' := r_iast hd (by omega) (wm_a_taleCell h k c) (vi hj (by decide)) (by rw [ci hj (by decide), wm_u_taleCell]; exact kk)
theorem r_wm_len_taleCell {q : MI} {pc : Nat} {L st : List Value} {h h' : Wd} {r : Option Value} {k : Nat} {c : Mod} (hk : k + 24 < 76) (hd : decode (mb q) pc = .ok (.arraylength, 1)) (kk : WW q (pc + 1) L (.int 8 :: st) (wm h k c) r h') : WW q pc L (.ref (k + 9) :: st) (wm h k c) r h' := r_ialen hd (by omega) (wm_a_taleCell h k c) kk
theorem r_wm_ld_taleGold {q : MI} {pc : Nat} {L st : List Value} {h h' : Wd} {r : Option Value} {k : Nat} {c : Mod} {j : Nat} (hk : k + 24 < 76) (hj : j < 8) (hd : decode (mb q) pc = .ok (.iaload, 1)) (kk : WW q (pc + 1) L (.int (wm_taleGold c j) :: st) (wm h k c) r h') : WW q pc L (.int (nI j) :: .ref (k + 10) :: st) (wm h k c) r h' := r_iald hd (by omega) (wm_a_taleGold h k c) (vi hj (by decide)) (by rw [ci hj (by decide)]; exact kk)
theorem r_wm_st_taleGold {q : MI} {pc : Nat} {L st : List Value} {h h' : Wd} {r : Option Value} {k : Nat} {c : Mod} {j : Nat} {x : Int32} (hk : k + 24 < 76) (hj : j < 8) (hd : decode (mb q) pc = .ok (.iastore, 1)) (kk : WW q (pc + 1) L st (wm h k (wm_s_taleGold c (upd (wm_taleGold c) j (x)))) r h') : WW q pc L (.int x :: .int (nI j) :: .ref (k + 10) :: st) (wm h k c) r h' := r_iast hd (by omega) (wm_a_taleGold h k c) (vi hj (by decide)) (by rw [ci hj (by decide), wm_u_taleGold]; exact kk)
theorem r_wm_len_taleGold {q : MI} {pc : Nat} {L st : List Value} {h h' : Wd} {r : Option Value} {k : Nat} {c : Mod} (hk : k + 24 < 76) (hd : decode (mb q) pc = .ok (.arraylength, 1)) (kk : WW q (pc + 1) L (.int 8 :: st) (wm h k c) r h') : WW q pc L (.ref (k + 10) :: st) (wm h k c) r h' := r_ialen hd (by omega) (wm_a_taleGold h k c) kk
theorem r_wm_ld_sightCell {q : MI} {pc : Nat} {L st : List Value} {h h' : Wd} {r : Option Value} {k : Nat} {c : Mod} {j : Nat} (hk : k + 24 < 76) (hj : j < 8) (hd : decode (mb q) pc = .ok (.iaload, 1)) (kk : WW q (pc + 1) L (.int (wm_sightCell c j) :: st) (wm h k c) r h') : WW q pc L (.int (nI j) :: .ref (k + 11) :: st) (wm h k c) r h' := r_iald hd (by omega) (wm_a_sightCell h k c) (vi hj (by decide)) (by rw [ci hj (by decide)]; exact kk)
theorem r_wm_st_sightCell {q : MI} {pc : Nat} {L st : List Value} {h h' : Wd} {r : Option Value} {k : Nat} {c : Mod} {j : Nat} {x : Int32} (hk : k + 24 < 76) (hj : j < 8) (hd : decode (mb q) pc = .ok (.iastore, 1)) (kk : WW q (pc + 1) L st (wm h k (wm_s_sightCell c (upd (wm_sightCell c) j (x)))) r h') : WW q pc L (.int x :: .int (nI j) :: .ref (k + 11) :: st) (wm h k c) r h' := r_iast hd (by omega) (wm_a_sightCell h k c) (vi hj (by decide)) (by rw [ci hj (by decide), wm_u_sightCell]; exact kk)
theorem r_wm_len_sightCell {q : MI} {pc : Nat} {L st : List Value} {h h' : Wd} {r : Option Value} {k : Nat} {c : Mod} (hk : k + 24 < 76) (hd : decode (mb q) pc = .ok (.arraylength, 1)) (kk : WW q (pc + 1) L (.int 8 :: st) (wm h k c) r h') : WW q pc L (.ref (k + 11) :: st) (wm h k c) r h' := r_ialen hd (by omega) (wm_a_sightCell h k c) kk
theorem r_wm_ld_sightIs {q : MI} {pc : Nat} {L st : List Value} {h h' : Wd} {r : Option Value} {k : Nat} {c : Mod} {j : Nat} (hk : k + 24 < 76) (hj : j < 8) (hd : decode (mb q) pc = .ok (.iaload, 1)) (kk : WW q (pc + 1) L (.int (wm_sightIs c j) :: st) (wm h k c) r h') : WW q pc L (.int (nI j) :: .ref (k + 12) :: st) (wm h k c) r h' := r_iald hd (by omega) (wm_a_sightIs h k c) (vi hj (by decide)) (by rw [ci hj (by decide)]; exact kk)
theorem r_wm_st_sightIs {q : MI} {pc : Nat} {L st : List Value} {h h' : Wd} {r : Option Value} {k : Nat} {c : Mod} {j : Nat} {x : Int32} (hk : k + 24 < 76) (hj : j < 8) (hd : decode (mb q) pc = .ok (.iastore, 1)) (kk : WW q (pc + 1) L st (wm h k (wm_s_sightIs c (upd (wm_sightIs c) j (x)))) r h') : WW q pc L (.int x :: .int (nI j) :: .ref (k + 12) :: st) (wm h k c) r h' := r_iast hd (by omega) (wm_a_sightIs h k c) (vi hj (by decide)) (by rw [ci hj (by decide), wm_u_sightIs]; exact kk)
theorem r_wm_len_sightIs {q : MI} {pc : Nat} {L st : List Value} {h h' : Wd} {r : Option Value} {k : Nat} {c : Mod} (hk : k + 24 < 76) (hd : decode (mb q) pc = .ok (.arraylength, 1)) (kk : WW q (pc + 1) L (.int 8 :: st) (wm h k c) r h') : WW q pc L (.ref (k + 12) :: st) (wm h k c) r h' := r_ialen hd (by omega) (wm_a_sightIs h k c) kk
theorem r_wm_ld_pad {q : MI} {pc : Nat} {L st : List Value} {h h' : Wd} {r : Option Value} {k : Nat} {c : Mod} {j : Nat} (hk : k + 24 < 76) (hj : j < 60) (hd : decode (mb q) pc = .ok (.iaload, 1)) (kk : WW q (pc + 1) L (.int (wm_pad c j) :: st) (wm h k c) r h') : WW q pc L (.int (nI j) :: .ref (k + 13) :: st) (wm h k c) r h' := r_iald hd (by omega) (wm_a_pad h k c) (vi hj (by decide)) (by rw [ci hj (by decide)]; exact kk)
theorem r_wm_st_pad {q : MI} {pc : Nat} {L st : List Value} {h h' : Wd} {r : Option Value} {k : Nat} {c : Mod} {j : Nat} {x : Int32} (hk : k + 24 < 76) (hj : j < 60) (hd : decode (mb q) pc = .ok (.iastore, 1)) (kk : WW q (pc + 1) L st (wm h k (wm_s_pad c (upd (wm_pad c) j (x)))) r h') : WW q pc L (.int x :: .int (nI j) :: .ref (k + 13) :: st) (wm h k c) r h' := r_iast hd (by omega) (wm_a_pad h k c) (vi hj (by decide)) (by rw [ci hj (by decide), wm_u_pad]; exact kk)
theorem r_wm_len_pad {q : MI} {pc : Nat} {L st : List Value} {h h' : Wd} {r : Option Value} {k : Nat} {c : Mod} (hk : k + 24 < 76) (hd : decode (mb q) pc = .ok (.arraylength, 1)) (kk : WW q (pc + 1) L (.int 60 :: st) (wm h k c) r h') : WW q pc L (.ref (k + 13) :: st) (wm h k c) r h' := r_ialen hd (by omega) (wm_a_pad h k c) kk
theorem r_wm_ld_act {q : MI} {pc : Nat} {L st : List Value} {h h' : Wd} {r : Option Value} {k : Nat} {c : Mod} {j : Nat} (hk : k + 24 < 76) (hj : j < 60) (hd : decode (mb q) pc = .ok (.iaload, 1)) (kk : WW q (pc + 1) L (.int (wm_act c j) :: st) (wm h k c) r h') : WW q pc L (.int (nI j) :: .ref (k + 14) :: st) (wm h k c) r h' := r_iald hd (by omega) (wm_a_act h k c) (vi hj (by decide)) (by rw [ci hj (by decide)]; exact kk)
theorem r_wm_st_act {q : MI} {pc : Nat} {L st : List Value} {h h' : Wd} {r : Option Value} {k : Nat} {c : Mod} {j : Nat} {x : Int32} (hk : k + 24 < 76) (hj : j < 60) (hd : decode (mb q) pc = .ok (.iastore, 1)) (kk : WW q (pc + 1) L st (wm h k (wm_s_act c (upd (wm_act c) j (x)))) r h') : WW q pc L (.int x :: .int (nI j) :: .ref (k + 14) :: st) (wm h k c) r h' := r_iast hd (by omega) (wm_a_act h k c) (vi hj (by decide)) (by rw [ci hj (by decide), wm_u_act]; exact kk)
theorem r_wm_len_act {q : MI} {pc : Nat} {L st : List Value} {h h' : Wd} {r : Option Value} {k : Nat} {c : Mod} (hk : k + 24 < 76) (hd : decode (mb q) pc = .ok (.arraylength, 1)) (kk : WW q (pc + 1) L (.int 60 :: st) (wm h k c) r h') : WW q pc L (.ref (k + 14) :: st) (wm h k c) r h' := r_ialen hd (by omega) (wm_a_act h k c) kk
theorem r_wm_ld_who {q : MI} {pc : Nat} {L st : List Value} {h h' : Wd} {r : Option Value} {k : Nat} {c : Mod} {j : Nat} (hk : k + 24 < 76) (hj : j < 60) (hd : decode (mb q) pc = .ok (.iaload, 1)) (kk : WW q (pc + 1) L (.int (wm_who c j) :: st) (wm h k c) r h') : WW q pc L (.int (nI j) :: .ref (k + 15) :: st) (wm h k c) r h' := r_iald hd (by omega) (wm_a_who h k c) (vi hj (by decide)) (by rw [ci hj (by decide)]; exact kk)
theorem r_wm_st_who {q : MI} {pc : Nat} {L st : List Value} {h h' : Wd} {r : Option Value} {k : Nat} {c : Mod} {j : Nat} {x : Int32} (hk : k + 24 < 76) (hj : j < 60) (hd : decode (mb q) pc = .ok (.iastore, 1)) (kk : WW q (pc + 1) L st (wm h k (wm_s_who c (upd (wm_who c) j (x)))) r h') : WW q pc L (.int x :: .int (nI j) :: .ref (k + 15) :: st) (wm h k c) r h' := r_iast hd (by omega) (wm_a_who h k c) (vi hj (by decide)) (by rw [ci hj (by decide), wm_u_who]; exact kk)
theorem r_wm_len_who {q : MI} {pc : Nat} {L st : List Value} {h h' : Wd} {r : Option Value} {k : Nat} {c : Mod} (hk : k + 24 < 76) (hd : decode (mb q) pc = .ok (.arraylength, 1)) (kk : WW q (pc + 1) L (.int 60 :: st) (wm h k c) r h') : WW q pc L (.ref (k + 15) :: st) (wm h k c) r h' := r_ialen hd (by omega) (wm_a_who h k c) kk
theorem r_wm_ld_way {q : MI} {pc : Nat} {L st : List Value} {h h' : Wd} {r : Option Value} {k : Nat} {c : Mod} {j : Nat} (hk : k + 24 < 76) (hj : j < 60) (hd : decode (mb q) pc = .ok (.iaload, 1)) (kk : WW q (pc + 1) L (.int (wm_way c j) :: st) (wm h k c) r h') : WW q pc L (.int (nI j) :: .ref (k + 16) :: st) (wm h k c) r h' := r_iald hd (by omega) (wm_a_way h k c) (vi hj (by decide)) (by rw [ci hj (by decide)]; exact kk)
theorem r_wm_st_way {q : MI} {pc : Nat} {L st : List Value} {h h' : Wd} {r : Option Value} {k : Nat} {c : Mod} {j : Nat} {x : Int32} (hk : k + 24 < 76) (hj : j < 60) (hd : decode (mb q) pc = .ok (.iastore, 1)) (kk : WW q (pc + 1) L st (wm h k (wm_s_way c (upd (wm_way c) j (x)))) r h') : WW q pc L (.int x :: .int (nI j) :: .ref (k + 16) :: st) (wm h k c) r h' := r_iast hd (by omega) (wm_a_way h k c) (vi hj (by decide)) (by rw [ci hj (by decide), wm_u_way]; exact kk)
theorem r_wm_len_way {q : MI} {pc : Nat} {L st : List Value} {h h' : Wd} {r : Option Value} {k : Nat} {c : Mod} (hk : k + 24 < 76) (hd : decode (mb q) pc = .ok (.arraylength, 1)) (kk : WW q (pc + 1) L (.int 60 :: st) (wm h k c) r h') : WW q pc L (.ref (k + 16) :: st) (wm h k c) r h' := r_ialen hd (by omega) (wm_a_way h k c) kk
theorem r_wm_ld_had {q : MI} {pc : Nat} {L st : List Value} {h h' : Wd} {r : Option Value} {k : Nat} {c : Mod} {j : Nat} (hk : k + 24 < 76) (hj : j < 88) (hd : decode (mb q) pc = .ok (.iaload, 1)) (kk : WW q (pc + 1) L (.int (wm_had c j) :: st) (wm h k c) r h') : WW q pc L (.int (nI j) :: .ref (k + 17) :: st) (wm h k c) r h' := r_iald hd (by omega) (wm_a_had h k c) (vi hj (by decide)) (by rw [ci hj (by decide)]; exact kk)
theorem r_wm_st_had {q : MI} {pc : Nat} {L st : List Value} {h h' : Wd} {r : Option Value} {k : Nat} {c : Mod} {j : Nat} {x : Int32} (hk : k + 24 < 76) (hj : j < 88) (hd : decode (mb q) pc = .ok (.iastore, 1)) (kk : WW q (pc + 1) L st (wm h k (wm_s_had c (upd (wm_had c) j (x)))) r h') : WW q pc L (.int x :: .int (nI j) :: .ref (k + 17) :: st) (wm h k c) r h' := r_iast hd (by omega) (wm_a_had h k c) (vi hj (by decide)) (by rw [ci hj (by decide), wm_u_had]; exact kk)
theorem r_wm_len_had {q : MI} {pc : Nat} {L st : List Value} {h h' : Wd} {r : Option Value} {k : Nat} {c : Mod} (hk : k + 24 < 76) (hd : decode (mb q) pc = .ok (.arraylength, 1)) (kk : WW q (pc + 1) L (.int 88 :: st) (wm h k c) r h') : WW q pc L (.ref (k + 17) :: st) (wm h k c) r h' := r_ialen hd (by omega) (wm_a_had h k c) kk
theorem r_wm_ld_hadKnown {q : MI} {pc : Nat} {L st : List Value} {h h' : Wd} {r : Option Value} {k : Nat} {c : Mod} {j : Nat} (hk : k + 24 < 76) (hj : j < 6) (hd : decode (mb q) pc = .ok (.laload, 1)) (kk : WW q (pc + 1) L (.long (wm_hadKnown c j) :: st) (wm h k c) r h') : WW q pc L (.int (nI j) :: .ref (k + 18) :: st) (wm h k c) r h' := r_lald hd (by omega) (wm_a_hadKnown h k c) (vi hj (by decide)) (by rw [ci hj (by decide)]; exact kk)
theorem r_wm_st_hadKnown {q : MI} {pc : Nat} {L st : List Value} {h h' : Wd} {r : Option Value} {k : Nat} {c : Mod} {j : Nat} {x : Int64} (hk : k + 24 < 76) (hj : j < 6) (hd : decode (mb q) pc = .ok (.lastore, 1)) (kk : WW q (pc + 1) L st (wm h k (wm_s_hadKnown c (vp_updL (wm_hadKnown c) j (x)))) r h') : WW q pc L (.long x :: .int (nI j) :: .ref (k + 18) :: st) (wm h k c) r h' := r_last hd (by omega) (wm_a_hadKnown h k c) (vi hj (by decide)) (by rw [ci hj (by decide), wm_u_hadKnown]; exact kk)
theorem r_wm_ld_with {q : MI} {pc : Nat} {L st : List Value} {h h' : Wd} {r : Option Value} {k : Nat} {c : Mod} {j : Nat} (hk : k + 24 < 76) (hj : j < 6) (hd : decode (mb q) pc = .ok (.iaload, 1)) (kk : WW q (pc + 1) L (.int (wm_with c j) :: st) (wm h k c) r h') : WW q pc L (.int (nI j) :: .ref (k + 19) :: st) (wm h k c) r h' := r_iald hd (by omega) (wm_a_with h k c) (vi hj (by decide)) (by rw [ci hj (by decide)]; exact kk)
theorem r_wm_st_with {q : MI} {pc : Nat} {L st : List Value} {h h' : Wd} {r : Option Value} {k : Nat} {c : Mod} {j : Nat} {x : Int32} (hk : k + 24 < 76) (hj : j < 6) (hd : decode (mb q) pc = .ok (.iastore, 1)) (kk : WW q (pc + 1) L st (wm h k (wm_s_with c (upd (wm_with c) j (x)))) r h') : WW q pc L (.int x :: .int (nI j) :: .ref (k + 19) :: st) (wm h k c) r h' := r_iast hd (by omega) (wm_a_with h k c) (vi hj (by decide)) (by rw [ci hj (by decide), wm_u_with]; exact kk)
theorem r_wm_len_with {q : MI} {pc : Nat} {L st : List Value} {h h' : Wd} {r : Option Value} {k : Nat} {c : Mod} (hk : k + 24 < 76) (hd : decode (mb q) pc = .ok (.arraylength, 1)) (kk : WW q (pc + 1) L (.int 6 :: st) (wm h k c) r h') : WW q pc L (.ref (k + 19) :: st) (wm h k c) r h' := r_ialen hd (by omega) (wm_a_with h k c) kk
theorem r_wm_ld_digit {q : MI} {pc : Nat} {L st : List Value} {h h' : Wd} {r : Option Value} {k : Nat} {c : Mod} {j : Nat} (hk : k + 24 < 76) (hj : j < 6) (hd : decode (mb q) pc = .ok (.iaload, 1)) (kk : WW q (pc + 1) L (.int (wm_digit c j) :: st) (wm h k c) r h') : WW q pc L (.int (nI j) :: .ref (k + 20) :: st) (wm h k c) r h' := r_iald hd (by omega) (wm_a_digit h k c) (vi hj (by decide)) (by rw [ci hj (by decide)]; exact kk)
theorem r_wm_st_digit {q : MI} {pc : Nat} {L st : List Value} {h h' : Wd} {r : Option Value} {k : Nat} {c : Mod} {j : Nat} {x : Int32} (hk : k + 24 < 76) (hj : j < 6) (hd : decode (mb q) pc = .ok (.iastore, 1)) (kk : WW q (pc + 1) L st (wm h k (wm_s_digit c (upd (wm_digit c) j (x)))) r h') : WW q pc L (.int x :: .int (nI j) :: .ref (k + 20) :: st) (wm h k c) r h' := r_iast hd (by omega) (wm_a_digit h k c) (vi hj (by decide)) (by rw [ci hj (by decide), wm_u_digit]; exact kk)
theorem r_wm_len_digit {q : MI} {pc : Nat} {L st : List Value} {h h' : Wd} {r : Option Value} {k : Nat} {c : Mod} (hk : k + 24 < 76) (hd : decode (mb q) pc = .ok (.arraylength, 1)) (kk : WW q (pc + 1) L (.int 6 :: st) (wm h k c) r h') : WW q pc L (.ref (k + 20) :: st) (wm h k c) r h' := r_ialen hd (by omega) (wm_a_digit h k c) kk
theorem r_wm_ld_more {q : MI} {pc : Nat} {L st : List Value} {h h' : Wd} {r : Option Value} {k : Nat} {c : Mod} {j : Nat} (hk : k + 24 < 76) (hj : j < 49) (hd : decode (mb q) pc = .ok (.iaload, 1)) (kk : WW q (pc + 1) L (.int (wm_more c j) :: st) (wm h k c) r h') : WW q pc L (.int (nI j) :: .ref (k + 21) :: st) (wm h k c) r h' := r_iald hd (by omega) (wm_a_more h k c) (vi hj (by decide)) (by rw [ci hj (by decide)]; exact kk)
theorem r_wm_st_more {q : MI} {pc : Nat} {L st : List Value} {h h' : Wd} {r : Option Value} {k : Nat} {c : Mod} {j : Nat} {x : Int32} (hk : k + 24 < 76) (hj : j < 49) (hd : decode (mb q) pc = .ok (.iastore, 1)) (kk : WW q (pc + 1) L st (wm h k (wm_s_more c (upd (wm_more c) j (x)))) r h') : WW q pc L (.int x :: .int (nI j) :: .ref (k + 21) :: st) (wm h k c) r h' := r_iast hd (by omega) (wm_a_more h k c) (vi hj (by decide)) (by rw [ci hj (by decide), wm_u_more]; exact kk)
theorem r_wm_len_more {q : MI} {pc : Nat} {L st : List Value} {h h' : Wd} {r : Option Value} {k : Nat} {c : Mod} (hk : k + 24 < 76) (hd : decode (mb q) pc = .ok (.arraylength, 1)) (kk : WW q (pc + 1) L (.int 49 :: st) (wm h k c) r h') : WW q pc L (.ref (k + 21) :: st) (wm h k c) r h' := r_ialen hd (by omega) (wm_a_more h k c) kk
theorem r_wm_ld_kept {q : MI} {pc : Nat} {L st : List Value} {h h' : Wd} {r : Option Value} {k : Nat} {c : Mod} {j : Nat} (hk : k + 24 < 76) (hj : j < 460) (hd : decode (mb q) pc = .ok (.iaload, 1)) (kk : WW q (pc + 1) L (.int (wm_kept c j) :: st) (wm h k c) r h') : WW q pc L (.int (nI j) :: .ref (k + 22) :: st) (wm h k c) r h' := r_iald hd (by omega) (wm_a_kept h k c) (vi hj (by decide)) (by rw [ci hj (by decide)]; exact kk)
theorem r_wm_st_kept {q : MI} {pc : Nat} {L st : List Value} {h h' : Wd} {r : Option Value} {k : Nat} {c : Mod} {j : Nat} {x : Int32} (hk : k + 24 < 76) (hj : j < 460) (hd : decode (mb q) pc = .ok (.iastore, 1)) (kk : WW q (pc + 1) L st (wm h k (wm_s_kept c (upd (wm_kept c) j (x)))) r h') : WW q pc L (.int x :: .int (nI j) :: .ref (k + 22) :: st) (wm h k c) r h' := r_iast hd (by omega) (wm_a_kept h k c) (vi hj (by decide)) (by rw [ci hj (by decide), wm_u_kept]; exact kk)
theorem r_wm_len_kept {q : MI} {pc : Nat} {L st : List Value} {h h' : Wd} {r : Option Value} {k : Nat} {c : Mod} (hk : k + 24 < 76) (hd : decode (mb q) pc = .ok (.arraylength, 1)) (kk : WW q (pc + 1) L (.int 460 :: st) (wm h k c) r h') : WW q pc L (.ref (k + 22) :: st) (wm h k c) r h' := r_ialen hd (by omega) (wm_a_kept h k c) kk
theorem r_wm_ld_keptKnown {q : MI} {pc : Nat} {L st : List Value} {h h' : Wd} {r : Option Value} {k : Nat} {c : Mod} {j : Nat} (hk : k + 24 < 76) (hj : j < 12) (hd : decode (mb q) pc = .ok (.laload, 1)) (kk : WW q (pc + 1) L (.long (wm_keptKnown c j) :: st) (wm h k c) r h') : WW q pc L (.int (nI j) :: .ref (k + 23) :: st) (wm h k c) r h' := r_lald hd (by omega) (wm_a_keptKnown h k c) (vi hj (by decide)) (by rw [ci hj (by decide)]; exact kk)
theorem r_wm_st_keptKnown {q : MI} {pc : Nat} {L st : List Value} {h h' : Wd} {r : Option Value} {k : Nat} {c : Mod} {j : Nat} {x : Int64} (hk : k + 24 < 76) (hj : j < 12) (hd : decode (mb q) pc = .ok (.lastore, 1)) (kk : WW q (pc + 1) L st (wm h k (wm_s_keptKnown c (vp_updL (wm_keptKnown c) j (x)))) r h') : WW q pc L (.long x :: .int (nI j) :: .ref (k + 23) :: st) (wm h k c) r h' := r_last hd (by omega) (wm_a_keptKnown h k c) (vi hj (by decide)) (by rw [ci hj (by decide), wm_u_keptKnown]; exact kk)
theorem r_wm_ld_isKept {q : MI} {pc : Nat} {L st : List Value} {h h' : Wd} {r : Option Value} {k : Nat} {c : Mod} {j : Nat} (hk : k + 24 < 76) (hj : j < 2) (hd : decode (mb q) pc = .ok (.baload, 1)) (kk : WW q (pc + 1) L (.int (wm_isKept c j) :: st) (wm h k c) r h') : WW q pc L (.int (nI j) :: .ref (k + 24) :: st) (wm h k c) r h' := r_zald hd (by omega) (wm_a_isKept h k c) (vi hj (by decide)) (by rw [ci hj (by decide)]; exact kk)
theorem r_wm_st_isKept {q : MI} {pc : Nat} {L st : List Value} {h h' : Wd} {r : Option Value} {k : Nat} {c : Mod} {j : Nat} {x : Int32} (hk : k + 24 < 76) (hj : j < 2) (hd : decode (mb q) pc = .ok (.bastore, 1)) (kk : WW q (pc + 1) L st (wm h k (wm_s_isKept c (upd (wm_isKept c) j (vp_nar .boolean x)))) r h') : WW q pc L (.int x :: .int (nI j) :: .ref (k + 24) :: st) (wm h k c) r h' := r_zast hd (by omega) (wm_a_isKept h k c) (vi hj (by decide)) (by rw [ci hj (by decide), wm_u_isKept]; exact kk)
