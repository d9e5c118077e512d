/-! THE IMAGES of the reference: what stands behind a pass -/
theorem upd_self' (f : Nat → Int32) (k : Nat) : upd f k (f k) = f := by
  funext j
  by_cases h : j = k
  · subst h; exact pk_us
  · exact pk_un h
def ofR (r : Nat) : Nat := if r = 0 then 3 else if r = 1 then 67 else if r = 2 then 131 else if r = 3 then 137 else if r = 4 then 143 else if r = 5 then 149 else if r = 6 then 155 else if r = 7 then 163 else if r = 8 then 171 else if r = 9 then 179 else 187
def szR (r : Nat) : Nat := if r < 2 then 64 else if r < 6 then 6 else 8
/-- what an image holds, as a state of the reference -/
def vwM (M : Mod) (i : Nat) : Mod := (fun r j => wm_kept M (230 * i + ofR r + j), fun _ m => wm_keptKnown M (6 * i + m), fun v => wm_kept M (230 * i + v))
/-- two states of the reference that hold the same of what an image keeps -/
def agM (A B : Mod) : Prop := (∀ r j, r < 11 → j < szR r → A.1 r j = B.1 r j) ∧ (∀ m, m < 6 → wm_knows A m = wm_knows B m) ∧ ∀ v, v < 3 → A.2.2 v = B.2.2 v
theorem agM.rfl' (A : Mod) : agM A A := ⟨fun _ _ _ _ => rfl, fun _ _ => rfl, fun _ _ => rfl⟩
theorem agM.tr {A B C : Mod} (h : agM A B) (k : agM B C) : agM A C := ⟨fun r j hr hj => (h.1 r j hr hj).trans (k.1 r j hr hj), fun m hm => (h.2.1 m hm).trans (k.2.1 m hm), fun v hv => (h.2.2 v hv).trans (k.2.2 v hv)⟩
theorem agM.sy {A B : Mod} (h : agM A B) : agM B A := ⟨fun r j hr hj => (h.1 r j hr hj).symm, fun m hm => (h.2.1 m hm).symm, fun v hv => (h.2.2 v hv).symm⟩
theorem lt11 {P : Nat → Prop} (h0 : P 0) (h1 : P 1) (h2 : P 2) (h3 : P 3) (h4 : P 4) (h5 : P 5) (h6 : P 6) (h7 : P 7) (h8 : P 8) (h9 : P 9) (h10 : P 10) : ∀ r, r < 11 → P r := fun r hr =>
  match r, hr with
  | 0, _ => h0
  | 1, _ => h1
  | 2, _ => h2
  | 3, _ => h3
  | 4, _ => h4
  | 5, _ => h5
  | 6, _ => h6
  | 7, _ => h7
  | 8, _ => h8
  | 9, _ => h9
  | 10, _ => h10
  | n + 11, h => absurd h (by omega)
theorem pa3f_kept (c : Mod) (a : Nat) : wm_kept (pa3 false c a) = wm_kept c := by
  show upd (upd (upd (wm_kept c) a (wm_kept c a)) (a + 1) (upd (wm_kept c) a (wm_kept c a) (a + 1))) (a + 2) (upd (upd (wm_kept c) a (wm_kept c a)) (a + 1) (upd (wm_kept c) a (wm_kept c a) (a + 1)) (a + 2)) = wm_kept c
  rw [upd_self', upd_self', upd_self']
theorem pa3f_v0 (c : Mod) (a : Nat) : (pa3 false c a).2.2 0 = wm_kept c a := rfl
theorem pa3f_v1 (c : Mod) (a : Nat) : (pa3 false c a).2.2 1 = wm_kept c (a + 1) := by
  show upd (wm_kept c) a (wm_kept c a) (a + 1) = _
  rw [upd_self']
theorem pa3f_v2 (c : Mod) (a : Nat) : (pa3 false c a).2.2 2 = wm_kept c (a + 2) := by
  show upd (upd (wm_kept c) a (wm_kept c a)) (a + 1) (upd (wm_kept c) a (wm_kept c a) (a + 1)) (a + 2) = _
  rw [upd_self', upd_self']
theorem pqF_ne {i r : Nat} (c : Mod) (a n : Nat) (h : r ≠ i) : (pq false i c a n).1 r = c.1 r := va_up_ne _ _ h
theorem pqF_eq (i : Nat) (c : Mod) (a n : Nat) : (pq false i c a n).1 i = cpy (fun j => wm_kept c (a + j)) (c.1 i) n := va_up_self _ _ _
theorem pqF_l (i : Nat) (c : Mod) (a n : Nat) : (pq false i c a n).2.1 = c.2.1 := rfl
theorem pqF_v {v : Nat} (i : Nat) (c : Mod) (a n : Nat) (h : v ≠ 11) : (pq false i c a n).2.2 v = c.2.2 v := va_up_ne _ _ h
theorem pqT_ne {r : Nat} (i : Nat) (c : Mod) (a n : Nat) (h : r ≠ 19) : (pq true i c a n).1 r = c.1 r := va_up_ne _ _ h
theorem pqT_k (i : Nat) (c : Mod) (a n : Nat) : wm_kept (pq true i c a n) = ovr (wm_kept c) a (c.1 i) n := by
  show va_up c.1 19 (ovr (wm_kept c) a (c.1 i) n) 19 = _
  exact va_up_self _ _ _
theorem pqT_l (i : Nat) (c : Mod) (a n : Nat) : (pq true i c a n).2.1 = c.2.1 := rfl
theorem pqT_v {v : Nat} (i : Nat) (c : Mod) (a n : Nat) (h : v ≠ 11) : (pq true i c a n).2.2 v = c.2.2 v := va_up_ne _ _ h
theorem pa4_eq (b : Bool) (c : Mod) (a : Nat) : pa4 b c a = pq b 0 (pa3 b c a) (a + 3) 64 := rfl
theorem pa5_eq (b : Bool) (c : Mod) (a : Nat) : pa5 b c a = pq b 1 (pa4 b c a) (a + 67) 64 := rfl
theorem pa6_eq (b : Bool) (c : Mod) (a : Nat) : pa6 b c a = pq b 2 (pa5 b c a) (a + 131) 6 := rfl
theorem pa7_eq (b : Bool) (c : Mod) (a : Nat) : pa7 b c a = pq b 3 (pa6 b c a) (a + 137) 6 := rfl
theorem pa8_eq (b : Bool) (c : Mod) (a : Nat) : pa8 b c a = pq b 4 (pa7 b c a) (a + 143) 6 := rfl
theorem pa9_eq (b : Bool) (c : Mod) (a : Nat) : pa9 b c a = pq b 5 (pa8 b c a) (a + 149) 6 := rfl
theorem pa10_eq (b : Bool) (c : Mod) (a : Nat) : pa10 b c a = pq b 6 (pa9 b c a) (a + 155) 8 := rfl
theorem pa11_eq (b : Bool) (c : Mod) (a : Nat) : pa11 b c a = pq b 7 (pa10 b c a) (a + 163) 8 := rfl
theorem pa12_eq (b : Bool) (c : Mod) (a : Nat) : pa12 b c a = pq b 8 (pa11 b c a) (a + 171) 8 := rfl
theorem pa13_eq (b : Bool) (c : Mod) (a : Nat) : pa13 b c a = pq b 9 (pa12 b c a) (a + 179) 8 := rfl
theorem pa14_eq (b : Bool) (c : Mod) (a : Nat) : pa14 b c a = pq b 10 (pa13 b c a) (a + 187) 8 := rfl
theorem kF_3 (c : Mod) (a : Nat) : wm_kept (pa3 false c a) = wm_kept c := pa3f_kept c a
theorem kF_4 (c : Mod) (a : Nat) : wm_kept (pa4 false c a) = wm_kept c := by rw [pa4_eq]; exact (pqF_ne (i := 0) (r := 19) (pa3 false c a) _ _ (by decide)).trans (kF_3 c a)
theorem kF_5 (c : Mod) (a : Nat) : wm_kept (pa5 false c a) = wm_kept c := by rw [pa5_eq]; exact (pqF_ne (i := 1) (r := 19) (pa4 false c a) _ _ (by decide)).trans (kF_4 c a)
theorem kF_6 (c : Mod) (a : Nat) : wm_kept (pa6 false c a) = wm_kept c := by rw [pa6_eq]; exact (pqF_ne (i := 2) (r := 19) (pa5 false c a) _ _ (by decide)).trans (kF_5 c a)
theorem kF_7 (c : Mod) (a : Nat) : wm_kept (pa7 false c a) = wm_kept c := by rw [pa7_eq]; exact (pqF_ne (i := 3) (r := 19) (pa6 false c a) _ _ (by decide)).trans (kF_6 c a)
theorem kF_8 (c : Mod) (a : Nat) : wm_kept (pa8 false c a) = wm_kept c := by rw [pa8_eq]; exact (pqF_ne (i := 4) (r := 19) (pa7 false c a) _ _ (by decide)).trans (kF_7 c a)
theorem kF_9 (c : Mod) (a : Nat) : wm_kept (pa9 false c a) = wm_kept c := by rw [pa9_eq]; exact (pqF_ne (i := 5) (r := 19) (pa8 false c a) _ _ (by decide)).trans (kF_8 c a)
theorem kF_10 (c : Mod) (a : Nat) : wm_kept (pa10 false c a) = wm_kept c := by rw [pa10_eq]; exact (pqF_ne (i := 6) (r := 19) (pa9 false c a) _ _ (by decide)).trans (kF_9 c a)
theorem kF_11 (c : Mod) (a : Nat) : wm_kept (pa11 false c a) = wm_kept c := by rw [pa11_eq]; exact (pqF_ne (i := 7) (r := 19) (pa10 false c a) _ _ (by decide)).trans (kF_10 c a)
theorem kF_12 (c : Mod) (a : Nat) : wm_kept (pa12 false c a) = wm_kept c := by rw [pa12_eq]; exact (pqF_ne (i := 8) (r := 19) (pa11 false c a) _ _ (by decide)).trans (kF_11 c a)
theorem kF_13 (c : Mod) (a : Nat) : wm_kept (pa13 false c a) = wm_kept c := by rw [pa13_eq]; exact (pqF_ne (i := 9) (r := 19) (pa12 false c a) _ _ (by decide)).trans (kF_12 c a)
theorem kF_14 (c : Mod) (a : Nat) : wm_kept (pa14 false c a) = wm_kept c := by rw [pa14_eq]; exact (pqF_ne (i := 10) (r := 19) (pa13 false c a) _ _ (by decide)).trans (kF_13 c a)
theorem paF_kept (c : Mod) (a : Nat) : wm_kept (pa14 false c a) = wm_kept c := kF_14 c a
theorem paF_0 (c : Mod) (a : Nat) : ∃ g, (pa14 false c a).1 0 = cpy (fun j => wm_kept c (a + 3 + j)) g 64 := by
  refine ⟨(pa3 false c a).1 0, ?_⟩
  rw [pa14_eq, pqF_ne (i := 10) (r := 0) _ _ _ (by decide)]
  rw [pa13_eq, pqF_ne (i := 9) (r := 0) _ _ _ (by decide)]
  rw [pa12_eq, pqF_ne (i := 8) (r := 0) _ _ _ (by decide)]
  rw [pa11_eq, pqF_ne (i := 7) (r := 0) _ _ _ (by decide)]
  rw [pa10_eq, pqF_ne (i := 6) (r := 0) _ _ _ (by decide)]
  rw [pa9_eq, pqF_ne (i := 5) (r := 0) _ _ _ (by decide)]
  rw [pa8_eq, pqF_ne (i := 4) (r := 0) _ _ _ (by decide)]
  rw [pa7_eq, pqF_ne (i := 3) (r := 0) _ _ _ (by decide)]
  rw [pa6_eq, pqF_ne (i := 2) (r := 0) _ _ _ (by decide)]
  rw [pa5_eq, pqF_ne (i := 1) (r := 0) _ _ _ (by decide)]
  rw [pa4_eq, pqF_eq, kF_3]
theorem paF_1 (c : Mod) (a : Nat) : ∃ g, (pa14 false c a).1 1 = cpy (fun j => wm_kept c (a + 67 + j)) g 64 := by
  refine ⟨(pa4 false c a).1 1, ?_⟩
  rw [pa14_eq, pqF_ne (i := 10) (r := 1) _ _ _ (by decide)]
  rw [pa13_eq, pqF_ne (i := 9) (r := 1) _ _ _ (by decide)]
  rw [pa12_eq, pqF_ne (i := 8) (r := 1) _ _ _ (by decide)]
  rw [pa11_eq, pqF_ne (i := 7) (r := 1) _ _ _ (by decide)]
  rw [pa10_eq, pqF_ne (i := 6) (r := 1) _ _ _ (by decide)]
  rw [pa9_eq, pqF_ne (i := 5) (r := 1) _ _ _ (by decide)]
  rw [pa8_eq, pqF_ne (i := 4) (r := 1) _ _ _ (by decide)]
  rw [pa7_eq, pqF_ne (i := 3) (r := 1) _ _ _ (by decide)]
  rw [pa6_eq, pqF_ne (i := 2) (r := 1) _ _ _ (by decide)]
  rw [pa5_eq, pqF_eq, kF_4]
theorem paF_2 (c : Mod) (a : Nat) : ∃ g, (pa14 false c a).1 2 = cpy (fun j => wm_kept c (a + 131 + j)) g 6 := by
  refine ⟨(pa5 false c a).1 2, ?_⟩
  rw [pa14_eq, pqF_ne (i := 10) (r := 2) _ _ _ (by decide)]
  rw [pa13_eq, pqF_ne (i := 9) (r := 2) _ _ _ (by decide)]
  rw [pa12_eq, pqF_ne (i := 8) (r := 2) _ _ _ (by decide)]
  rw [pa11_eq, pqF_ne (i := 7) (r := 2) _ _ _ (by decide)]
  rw [pa10_eq, pqF_ne (i := 6) (r := 2) _ _ _ (by decide)]
  rw [pa9_eq, pqF_ne (i := 5) (r := 2) _ _ _ (by decide)]
  rw [pa8_eq, pqF_ne (i := 4) (r := 2) _ _ _ (by decide)]
  rw [pa7_eq, pqF_ne (i := 3) (r := 2) _ _ _ (by decide)]
  rw [pa6_eq, pqF_eq, kF_5]
theorem paF_3 (c : Mod) (a : Nat) : ∃ g, (pa14 false c a).1 3 = cpy (fun j => wm_kept c (a + 137 + j)) g 6 := by
  refine ⟨(pa6 false c a).1 3, ?_⟩
  rw [pa14_eq, pqF_ne (i := 10) (r := 3) _ _ _ (by decide)]
  rw [pa13_eq, pqF_ne (i := 9) (r := 3) _ _ _ (by decide)]
  rw [pa12_eq, pqF_ne (i := 8) (r := 3) _ _ _ (by decide)]
  rw [pa11_eq, pqF_ne (i := 7) (r := 3) _ _ _ (by decide)]
  rw [pa10_eq, pqF_ne (i := 6) (r := 3) _ _ _ (by decide)]
  rw [pa9_eq, pqF_ne (i := 5) (r := 3) _ _ _ (by decide)]
  rw [pa8_eq, pqF_ne (i := 4) (r := 3) _ _ _ (by decide)]
  rw [pa7_eq, pqF_eq, kF_6]
theorem paF_4 (c : Mod) (a : Nat) : ∃ g, (pa14 false c a).1 4 = cpy (fun j => wm_kept c (a + 143 + j)) g 6 := by
  refine ⟨(pa7 false c a).1 4, ?_⟩
  rw [pa14_eq, pqF_ne (i := 10) (r := 4) _ _ _ (by decide)]
  rw [pa13_eq, pqF_ne (i := 9) (r := 4) _ _ _ (by decide)]
  rw [pa12_eq, pqF_ne (i := 8) (r := 4) _ _ _ (by decide)]
  rw [pa11_eq, pqF_ne (i := 7) (r := 4) _ _ _ (by decide)]
  rw [pa10_eq, pqF_ne (i := 6) (r := 4) _ _ _ (by decide)]
  rw [pa9_eq, pqF_ne (i := 5) (r := 4) _ _ _ (by decide)]
  rw [pa8_eq, pqF_eq, kF_7]
theorem paF_5 (c : Mod) (a : Nat) : ∃ g, (pa14 false c a).1 5 = cpy (fun j => wm_kept c (a + 149 + j)) g 6 := by
  refine ⟨(pa8 false c a).1 5, ?_⟩
  rw [pa14_eq, pqF_ne (i := 10) (r := 5) _ _ _ (by decide)]
  rw [pa13_eq, pqF_ne (i := 9) (r := 5) _ _ _ (by decide)]
  rw [pa12_eq, pqF_ne (i := 8) (r := 5) _ _ _ (by decide)]
  rw [pa11_eq, pqF_ne (i := 7) (r := 5) _ _ _ (by decide)]
  rw [pa10_eq, pqF_ne (i := 6) (r := 5) _ _ _ (by decide)]
  rw [pa9_eq, pqF_eq, kF_8]
theorem paF_6 (c : Mod) (a : Nat) : ∃ g, (pa14 false c a).1 6 = cpy (fun j => wm_kept c (a + 155 + j)) g 8 := by
  refine ⟨(pa9 false c a).1 6, ?_⟩
  rw [pa14_eq, pqF_ne (i := 10) (r := 6) _ _ _ (by decide)]
  rw [pa13_eq, pqF_ne (i := 9) (r := 6) _ _ _ (by decide)]
  rw [pa12_eq, pqF_ne (i := 8) (r := 6) _ _ _ (by decide)]
  rw [pa11_eq, pqF_ne (i := 7) (r := 6) _ _ _ (by decide)]
  rw [pa10_eq, pqF_eq, kF_9]
theorem paF_7 (c : Mod) (a : Nat) : ∃ g, (pa14 false c a).1 7 = cpy (fun j => wm_kept c (a + 163 + j)) g 8 := by
  refine ⟨(pa10 false c a).1 7, ?_⟩
  rw [pa14_eq, pqF_ne (i := 10) (r := 7) _ _ _ (by decide)]
  rw [pa13_eq, pqF_ne (i := 9) (r := 7) _ _ _ (by decide)]
  rw [pa12_eq, pqF_ne (i := 8) (r := 7) _ _ _ (by decide)]
  rw [pa11_eq, pqF_eq, kF_10]
theorem paF_8 (c : Mod) (a : Nat) : ∃ g, (pa14 false c a).1 8 = cpy (fun j => wm_kept c (a + 171 + j)) g 8 := by
  refine ⟨(pa11 false c a).1 8, ?_⟩
  rw [pa14_eq, pqF_ne (i := 10) (r := 8) _ _ _ (by decide)]
  rw [pa13_eq, pqF_ne (i := 9) (r := 8) _ _ _ (by decide)]
  rw [pa12_eq, pqF_eq, kF_11]
theorem paF_9 (c : Mod) (a : Nat) : ∃ g, (pa14 false c a).1 9 = cpy (fun j => wm_kept c (a + 179 + j)) g 8 := by
  refine ⟨(pa12 false c a).1 9, ?_⟩
  rw [pa14_eq, pqF_ne (i := 10) (r := 9) _ _ _ (by decide)]
  rw [pa13_eq, pqF_eq, kF_12]
theorem paF_10 (c : Mod) (a : Nat) : ∃ g, (pa14 false c a).1 10 = cpy (fun j => wm_kept c (a + 187 + j)) g 8 := by
  refine ⟨(pa13 false c a).1 10, ?_⟩
  rw [pa14_eq, pqF_eq, kF_13]
theorem paF_l (c : Mod) (a : Nat) : (pa14 false c a).2.1 = c.2.1 := by
  rw [pa14_eq, pqF_l]
  rw [pa13_eq, pqF_l]
  rw [pa12_eq, pqF_l]
  rw [pa11_eq, pqF_l]
  rw [pa10_eq, pqF_l]
  rw [pa9_eq, pqF_l]
  rw [pa8_eq, pqF_l]
  rw [pa7_eq, pqF_l]
  rw [pa6_eq, pqF_l]
  rw [pa5_eq, pqF_l]
  rw [pa4_eq, pqF_l]
  rfl
theorem pa3_l (b : Bool) (c : Mod) (a : Nat) : (pa3 b c a).2.1 = c.2.1 := rfl
theorem paF_v0 (c : Mod) (a : Nat) : (pa14 false c a).2.2 0 = wm_kept c (a + 0) := by
  rw [pa14_eq, pqF_v (v := 0) 10 _ _ _ (by decide)]
  rw [pa13_eq, pqF_v (v := 0) 9 _ _ _ (by decide)]
  rw [pa12_eq, pqF_v (v := 0) 8 _ _ _ (by decide)]
  rw [pa11_eq, pqF_v (v := 0) 7 _ _ _ (by decide)]
  rw [pa10_eq, pqF_v (v := 0) 6 _ _ _ (by decide)]
  rw [pa9_eq, pqF_v (v := 0) 5 _ _ _ (by decide)]
  rw [pa8_eq, pqF_v (v := 0) 4 _ _ _ (by decide)]
  rw [pa7_eq, pqF_v (v := 0) 3 _ _ _ (by decide)]
  rw [pa6_eq, pqF_v (v := 0) 2 _ _ _ (by decide)]
  rw [pa5_eq, pqF_v (v := 0) 1 _ _ _ (by decide)]
  rw [pa4_eq, pqF_v (v := 0) 0 _ _ _ (by decide)]
  exact pa3f_v0 c a
theorem paF_v1 (c : Mod) (a : Nat) : (pa14 false c a).2.2 1 = wm_kept c (a + 1) := by
  rw [pa14_eq, pqF_v (v := 1) 10 _ _ _ (by decide)]
  rw [pa13_eq, pqF_v (v := 1) 9 _ _ _ (by decide)]
  rw [pa12_eq, pqF_v (v := 1) 8 _ _ _ (by decide)]
  rw [pa11_eq, pqF_v (v := 1) 7 _ _ _ (by decide)]
  rw [pa10_eq, pqF_v (v := 1) 6 _ _ _ (by decide)]
  rw [pa9_eq, pqF_v (v := 1) 5 _ _ _ (by decide)]
  rw [pa8_eq, pqF_v (v := 1) 4 _ _ _ (by decide)]
  rw [pa7_eq, pqF_v (v := 1) 3 _ _ _ (by decide)]
  rw [pa6_eq, pqF_v (v := 1) 2 _ _ _ (by decide)]
  rw [pa5_eq, pqF_v (v := 1) 1 _ _ _ (by decide)]
  rw [pa4_eq, pqF_v (v := 1) 0 _ _ _ (by decide)]
  exact pa3f_v1 c a
theorem paF_v2 (c : Mod) (a : Nat) : (pa14 false c a).2.2 2 = wm_kept c (a + 2) := by
  rw [pa14_eq, pqF_v (v := 2) 10 _ _ _ (by decide)]
  rw [pa13_eq, pqF_v (v := 2) 9 _ _ _ (by decide)]
  rw [pa12_eq, pqF_v (v := 2) 8 _ _ _ (by decide)]
  rw [pa11_eq, pqF_v (v := 2) 7 _ _ _ (by decide)]
  rw [pa10_eq, pqF_v (v := 2) 6 _ _ _ (by decide)]
  rw [pa9_eq, pqF_v (v := 2) 5 _ _ _ (by decide)]
  rw [pa8_eq, pqF_v (v := 2) 4 _ _ _ (by decide)]
  rw [pa7_eq, pqF_v (v := 2) 3 _ _ _ (by decide)]
  rw [pa6_eq, pqF_v (v := 2) 2 _ _ _ (by decide)]
  rw [pa5_eq, pqF_v (v := 2) 1 _ _ _ (by decide)]
  rw [pa4_eq, pqF_v (v := 2) 0 _ _ _ (by decide)]
  exact pa3f_v2 c a
theorem cpy_lt {α : Type} {f g : Nat → α} {n j : Nat} (h : j < n) : cpy f g n j = f j := if_pos h
theorem kept_def (c : Mod) : wm_kept c = c.1 19 := rfl
theorem pad_def (c : Mod) : wm_pad c = c.1 11 := rfl
theorem isKept_def (c : Mod) : wm_isKept c = c.1 20 := rfl
theorem padMany_def (c : Mod) : wm_padMany c = c.2.2 3 := rfl
theorem kk_def (c : Mod) : wm_keptKnown c = c.2.1 2 := rfl
theorem kn_def (c : Mod) : wm_knows c = c.2.1 0 := rfl
theorem krM_row (c : Mod) (a n r : Nat) : (kq false c a n).1 r = c.1 r := rfl
theorem krM_kn (c : Mod) (a n : Nat) : wm_knows (kq false c a n) = cpy (fun j => wm_keptKnown c (a + j)) (wm_knows c) n := rfl
theorem krM_kk (c : Mod) (a n : Nat) : wm_keptKnown (kq false c a n) = wm_keptKnown c := rfl
theorem krM_v (c : Mod) (a n : Nat) : (kq false c a n).2.2 = c.2.2 := rfl
theorem kiM_row (c : Mod) (a n r : Nat) : (kq true c a n).1 r = c.1 r := rfl
theorem kiM_l (c : Mod) (a n : Nat) : (kq true c a n).2.1 = va_up c.2.1 2 (ovr (wm_keptKnown c) a (wm_knows c) n) := rfl
theorem kiM_v (c : Mod) (a n : Nat) : (kq true c a n).2.2 = c.2.2 := rfl
theorem sIK_row (c : Mod) (f : Nat → Int32) {r : Nat} (h : r ≠ 20) : (wm_s_isKept c f).1 r = c.1 r := va_up_ne _ _ h
theorem sIK_self (c : Mod) (f : Nat → Int32) : (wm_s_isKept c f).1 20 = f := by show va_up c.1 20 f 20 = f; exact va_up_self _ _ _
theorem sIK_l (c : Mod) (f : Nat → Int32) : (wm_s_isKept c f).2.1 = c.2.1 := rfl
theorem sIK_v (c : Mod) (f : Nat → Int32) : (wm_s_isKept c f).2.2 = c.2.2 := rfl
def paZ (c : Mod) (i : Nat) (b : Bool) : Mod := pa14 b (im0 c i b) (230 * i)
theorem imA_eq (c : Mod) (i : Nat) (b : Bool) : imA c i b = kq b (paZ c i b) (6 * i) 6 := rfl
theorem imM_eq (c : Mod) (i : Nat) : imM c i = wm_s_isKept (imA c i true) (upd (wm_isKept (imA c i true)) i 1) := rfl
theorem paZ_eq (c : Mod) (i : Nat) (b : Bool) : paZ c i b = pa14 b (im0 c i b) (230 * i) := rfl
theorem imF_agr (c : Mod) (i : Nat) : agM (imA c i false) (vwM c i) := by
  refine ⟨fun r j hr hj => ?_, fun m hm => ?_, fun v hv => ?_⟩
  · rw [imA_eq, krM_row, paZ_eq]
    revert j
    refine lt11 (P := fun r => ∀ j, j < szR r → (pa14 false (im0 c i false) (230 * i)).1 r j = (vwM c i).1 r j) ?_ ?_ ?_ ?_ ?_ ?_ ?_ ?_ ?_ ?_ ?_ r hr
    · intro j hj
      obtain ⟨g, eg⟩ := paF_0 (im0 c i false) (230 * i)
      rw [eg, cpy_lt (show j < 64 from hj)]
      rfl
    · intro j hj
      obtain ⟨g, eg⟩ := paF_1 (im0 c i false) (230 * i)
      rw [eg, cpy_lt (show j < 64 from hj)]
      rfl
    · intro j hj
      obtain ⟨g, eg⟩ := paF_2 (im0 c i false) (230 * i)
      rw [eg, cpy_lt (show j < 6 from hj)]
      rfl
    · intro j hj
      obtain ⟨g, eg⟩ := paF_3 (im0 c i false) (230 * i)
      rw [eg, cpy_lt (show j < 6 from hj)]
      rfl
    · intro j hj
      obtain ⟨g, eg⟩ := paF_4 (im0 c i false) (230 * i)
      rw [eg, cpy_lt (show j < 6 from hj)]
      rfl
    · intro j hj
      obtain ⟨g, eg⟩ := paF_5 (im0 c i false) (230 * i)
      rw [eg, cpy_lt (show j < 6 from hj)]
      rfl
    · intro j hj
      obtain ⟨g, eg⟩ := paF_6 (im0 c i false) (230 * i)
      rw [eg, cpy_lt (show j < 8 from hj)]
      rfl
    · intro j hj
      obtain ⟨g, eg⟩ := paF_7 (im0 c i false) (230 * i)
      rw [eg, cpy_lt (show j < 8 from hj)]
      rfl
    · intro j hj
      obtain ⟨g, eg⟩ := paF_8 (im0 c i false) (230 * i)
      rw [eg, cpy_lt (show j < 8 from hj)]
      rfl
    · intro j hj
      obtain ⟨g, eg⟩ := paF_9 (im0 c i false) (230 * i)
      rw [eg, cpy_lt (show j < 8 from hj)]
      rfl
    · intro j hj
      obtain ⟨g, eg⟩ := paF_10 (im0 c i false) (230 * i)
      rw [eg, cpy_lt (show j < 8 from hj)]
      rfl
  · rw [imA_eq, krM_kn, cpy_lt hm]
    show (paZ c i false).2.1 2 (6 * i + m) = _
    rw [paZ_eq, paF_l]
    rfl
  · rw [imA_eq, krM_v, paZ_eq]
    have : v = 0 ∨ v = 1 ∨ v = 2 := by omega
    rcases this with rfl | rfl | rfl
    · exact (paF_v0 _ _).trans rfl
    · exact (paF_v1 _ _).trans rfl
    · exact (paF_v2 _ _).trans rfl
theorem imF_kept (c : Mod) (i : Nat) : wm_kept (imA c i false) = wm_kept c := by
  show (imA c i false).1 19 = _
  rw [imA_eq, krM_row, paZ_eq]
  exact paF_kept _ _
theorem imF_kk (c : Mod) (i : Nat) : wm_keptKnown (imA c i false) = wm_keptKnown c := by
  rw [imA_eq, krM_kk]
  show (paZ c i false).2.1 2 = _
  rw [paZ_eq, paF_l]
  rfl
theorem imF_isKept (c : Mod) (i : Nat) : wm_isKept (imA c i false) = wm_isKept c := by
  show (imA c i false).1 20 = _
  rw [imA_eq, krM_row, paZ_eq]
  rw [pa14_eq, pqF_ne (i := 10) (r := 20) _ _ _ (by decide)]
  rw [pa13_eq, pqF_ne (i := 9) (r := 20) _ _ _ (by decide)]
  rw [pa12_eq, pqF_ne (i := 8) (r := 20) _ _ _ (by decide)]
  rw [pa11_eq, pqF_ne (i := 7) (r := 20) _ _ _ (by decide)]
  rw [pa10_eq, pqF_ne (i := 6) (r := 20) _ _ _ (by decide)]
  rw [pa9_eq, pqF_ne (i := 5) (r := 20) _ _ _ (by decide)]
  rw [pa8_eq, pqF_ne (i := 4) (r := 20) _ _ _ (by decide)]
  rw [pa7_eq, pqF_ne (i := 3) (r := 20) _ _ _ (by decide)]
  rw [pa6_eq, pqF_ne (i := 2) (r := 20) _ _ _ (by decide)]
  rw [pa5_eq, pqF_ne (i := 1) (r := 20) _ _ _ (by decide)]
  rw [pa4_eq, pqF_ne (i := 0) (r := 20) _ _ _ (by decide)]
  rfl
theorem imF_pad (c : Mod) (i : Nat) : wm_pad (imA c i false) = wm_pad c := by
  show (imA c i false).1 11 = _
  rw [imA_eq, krM_row, paZ_eq]
  rw [pa14_eq, pqF_ne (i := 10) (r := 11) _ _ _ (by decide)]
  rw [pa13_eq, pqF_ne (i := 9) (r := 11) _ _ _ (by decide)]
  rw [pa12_eq, pqF_ne (i := 8) (r := 11) _ _ _ (by decide)]
  rw [pa11_eq, pqF_ne (i := 7) (r := 11) _ _ _ (by decide)]
  rw [pa10_eq, pqF_ne (i := 6) (r := 11) _ _ _ (by decide)]
  rw [pa9_eq, pqF_ne (i := 5) (r := 11) _ _ _ (by decide)]
  rw [pa8_eq, pqF_ne (i := 4) (r := 11) _ _ _ (by decide)]
  rw [pa7_eq, pqF_ne (i := 3) (r := 11) _ _ _ (by decide)]
  rw [pa6_eq, pqF_ne (i := 2) (r := 11) _ _ _ (by decide)]
  rw [pa5_eq, pqF_ne (i := 1) (r := 11) _ _ _ (by decide)]
  rw [pa4_eq, pqF_ne (i := 0) (r := 11) _ _ _ (by decide)]
  rfl
theorem imF_padMany (c : Mod) (i : Nat) : wm_padMany (imA c i false) = wm_padMany c := by
  show (imA c i false).2.2 3 = _
  rw [imA_eq, krM_v, paZ_eq]
  rw [pa14_eq, pqF_v (v := 3) 10 _ _ _ (by decide)]
  rw [pa13_eq, pqF_v (v := 3) 9 _ _ _ (by decide)]
  rw [pa12_eq, pqF_v (v := 3) 8 _ _ _ (by decide)]
  rw [pa11_eq, pqF_v (v := 3) 7 _ _ _ (by decide)]
  rw [pa10_eq, pqF_v (v := 3) 6 _ _ _ (by decide)]
  rw [pa9_eq, pqF_v (v := 3) 5 _ _ _ (by decide)]
  rw [pa8_eq, pqF_v (v := 3) 4 _ _ _ (by decide)]
  rw [pa7_eq, pqF_v (v := 3) 3 _ _ _ (by decide)]
  rw [pa6_eq, pqF_v (v := 3) 2 _ _ _ (by decide)]
  rw [pa5_eq, pqF_v (v := 3) 1 _ _ _ (by decide)]
  rw [pa4_eq, pqF_v (v := 3) 0 _ _ _ (by decide)]
  rfl
theorem rT_0_3 (c : Mod) (a : Nat) : (pa3 true c a).1 0 = c.1 0 := rfl
theorem rT_0_4 (c : Mod) (a : Nat) : (pa4 true c a).1 0 = c.1 0 := by rw [pa4_eq, pqT_ne (r := 0) 0 _ _ _ (by decide)]; exact rT_0_3 c a
theorem rT_0_5 (c : Mod) (a : Nat) : (pa5 true c a).1 0 = c.1 0 := by rw [pa5_eq, pqT_ne (r := 0) 1 _ _ _ (by decide)]; exact rT_0_4 c a
theorem rT_0_6 (c : Mod) (a : Nat) : (pa6 true c a).1 0 = c.1 0 := by rw [pa6_eq, pqT_ne (r := 0) 2 _ _ _ (by decide)]; exact rT_0_5 c a
theorem rT_0_7 (c : Mod) (a : Nat) : (pa7 true c a).1 0 = c.1 0 := by rw [pa7_eq, pqT_ne (r := 0) 3 _ _ _ (by decide)]; exact rT_0_6 c a
theorem rT_0_8 (c : Mod) (a : Nat) : (pa8 true c a).1 0 = c.1 0 := by rw [pa8_eq, pqT_ne (r := 0) 4 _ _ _ (by decide)]; exact rT_0_7 c a
theorem rT_0_9 (c : Mod) (a : Nat) : (pa9 true c a).1 0 = c.1 0 := by rw [pa9_eq, pqT_ne (r := 0) 5 _ _ _ (by decide)]; exact rT_0_8 c a
theorem rT_0_10 (c : Mod) (a : Nat) : (pa10 true c a).1 0 = c.1 0 := by rw [pa10_eq, pqT_ne (r := 0) 6 _ _ _ (by decide)]; exact rT_0_9 c a
theorem rT_0_11 (c : Mod) (a : Nat) : (pa11 true c a).1 0 = c.1 0 := by rw [pa11_eq, pqT_ne (r := 0) 7 _ _ _ (by decide)]; exact rT_0_10 c a
theorem rT_0_12 (c : Mod) (a : Nat) : (pa12 true c a).1 0 = c.1 0 := by rw [pa12_eq, pqT_ne (r := 0) 8 _ _ _ (by decide)]; exact rT_0_11 c a
theorem rT_0_13 (c : Mod) (a : Nat) : (pa13 true c a).1 0 = c.1 0 := by rw [pa13_eq, pqT_ne (r := 0) 9 _ _ _ (by decide)]; exact rT_0_12 c a
theorem rT_0_14 (c : Mod) (a : Nat) : (pa14 true c a).1 0 = c.1 0 := by rw [pa14_eq, pqT_ne (r := 0) 10 _ _ _ (by decide)]; exact rT_0_13 c a
theorem rT_1_3 (c : Mod) (a : Nat) : (pa3 true c a).1 1 = c.1 1 := rfl
theorem rT_1_4 (c : Mod) (a : Nat) : (pa4 true c a).1 1 = c.1 1 := by rw [pa4_eq, pqT_ne (r := 1) 0 _ _ _ (by decide)]; exact rT_1_3 c a
theorem rT_1_5 (c : Mod) (a : Nat) : (pa5 true c a).1 1 = c.1 1 := by rw [pa5_eq, pqT_ne (r := 1) 1 _ _ _ (by decide)]; exact rT_1_4 c a
theorem rT_1_6 (c : Mod) (a : Nat) : (pa6 true c a).1 1 = c.1 1 := by rw [pa6_eq, pqT_ne (r := 1) 2 _ _ _ (by decide)]; exact rT_1_5 c a
theorem rT_1_7 (c : Mod) (a : Nat) : (pa7 true c a).1 1 = c.1 1 := by rw [pa7_eq, pqT_ne (r := 1) 3 _ _ _ (by decide)]; exact rT_1_6 c a
theorem rT_1_8 (c : Mod) (a : Nat) : (pa8 true c a).1 1 = c.1 1 := by rw [pa8_eq, pqT_ne (r := 1) 4 _ _ _ (by decide)]; exact rT_1_7 c a
theorem rT_1_9 (c : Mod) (a : Nat) : (pa9 true c a).1 1 = c.1 1 := by rw [pa9_eq, pqT_ne (r := 1) 5 _ _ _ (by decide)]; exact rT_1_8 c a
theorem rT_1_10 (c : Mod) (a : Nat) : (pa10 true c a).1 1 = c.1 1 := by rw [pa10_eq, pqT_ne (r := 1) 6 _ _ _ (by decide)]; exact rT_1_9 c a
theorem rT_1_11 (c : Mod) (a : Nat) : (pa11 true c a).1 1 = c.1 1 := by rw [pa11_eq, pqT_ne (r := 1) 7 _ _ _ (by decide)]; exact rT_1_10 c a
theorem rT_1_12 (c : Mod) (a : Nat) : (pa12 true c a).1 1 = c.1 1 := by rw [pa12_eq, pqT_ne (r := 1) 8 _ _ _ (by decide)]; exact rT_1_11 c a
theorem rT_1_13 (c : Mod) (a : Nat) : (pa13 true c a).1 1 = c.1 1 := by rw [pa13_eq, pqT_ne (r := 1) 9 _ _ _ (by decide)]; exact rT_1_12 c a
theorem rT_1_14 (c : Mod) (a : Nat) : (pa14 true c a).1 1 = c.1 1 := by rw [pa14_eq, pqT_ne (r := 1) 10 _ _ _ (by decide)]; exact rT_1_13 c a
theorem rT_2_3 (c : Mod) (a : Nat) : (pa3 true c a).1 2 = c.1 2 := rfl
theorem rT_2_4 (c : Mod) (a : Nat) : (pa4 true c a).1 2 = c.1 2 := by rw [pa4_eq, pqT_ne (r := 2) 0 _ _ _ (by decide)]; exact rT_2_3 c a
theorem rT_2_5 (c : Mod) (a : Nat) : (pa5 true c a).1 2 = c.1 2 := by rw [pa5_eq, pqT_ne (r := 2) 1 _ _ _ (by decide)]; exact rT_2_4 c a
theorem rT_2_6 (c : Mod) (a : Nat) : (pa6 true c a).1 2 = c.1 2 := by rw [pa6_eq, pqT_ne (r := 2) 2 _ _ _ (by decide)]; exact rT_2_5 c a
theorem rT_2_7 (c : Mod) (a : Nat) : (pa7 true c a).1 2 = c.1 2 := by rw [pa7_eq, pqT_ne (r := 2) 3 _ _ _ (by decide)]; exact rT_2_6 c a
theorem rT_2_8 (c : Mod) (a : Nat) : (pa8 true c a).1 2 = c.1 2 := by rw [pa8_eq, pqT_ne (r := 2) 4 _ _ _ (by decide)]; exact rT_2_7 c a
theorem rT_2_9 (c : Mod) (a : Nat) : (pa9 true c a).1 2 = c.1 2 := by rw [pa9_eq, pqT_ne (r := 2) 5 _ _ _ (by decide)]; exact rT_2_8 c a
theorem rT_2_10 (c : Mod) (a : Nat) : (pa10 true c a).1 2 = c.1 2 := by rw [pa10_eq, pqT_ne (r := 2) 6 _ _ _ (by decide)]; exact rT_2_9 c a
theorem rT_2_11 (c : Mod) (a : Nat) : (pa11 true c a).1 2 = c.1 2 := by rw [pa11_eq, pqT_ne (r := 2) 7 _ _ _ (by decide)]; exact rT_2_10 c a
theorem rT_2_12 (c : Mod) (a : Nat) : (pa12 true c a).1 2 = c.1 2 := by rw [pa12_eq, pqT_ne (r := 2) 8 _ _ _ (by decide)]; exact rT_2_11 c a
theorem rT_2_13 (c : Mod) (a : Nat) : (pa13 true c a).1 2 = c.1 2 := by rw [pa13_eq, pqT_ne (r := 2) 9 _ _ _ (by decide)]; exact rT_2_12 c a
theorem rT_2_14 (c : Mod) (a : Nat) : (pa14 true c a).1 2 = c.1 2 := by rw [pa14_eq, pqT_ne (r := 2) 10 _ _ _ (by decide)]; exact rT_2_13 c a
theorem rT_3_3 (c : Mod) (a : Nat) : (pa3 true c a).1 3 = c.1 3 := rfl
theorem rT_3_4 (c : Mod) (a : Nat) : (pa4 true c a).1 3 = c.1 3 := by rw [pa4_eq, pqT_ne (r := 3) 0 _ _ _ (by decide)]; exact rT_3_3 c a
theorem rT_3_5 (c : Mod) (a : Nat) : (pa5 true c a).1 3 = c.1 3 := by rw [pa5_eq, pqT_ne (r := 3) 1 _ _ _ (by decide)]; exact rT_3_4 c a
theorem rT_3_6 (c : Mod) (a : Nat) : (pa6 true c a).1 3 = c.1 3 := by rw [pa6_eq, pqT_ne (r := 3) 2 _ _ _ (by decide)]; exact rT_3_5 c a
theorem rT_3_7 (c : Mod) (a : Nat) : (pa7 true c a).1 3 = c.1 3 := by rw [pa7_eq, pqT_ne (r := 3) 3 _ _ _ (by decide)]; exact rT_3_6 c a
theorem rT_3_8 (c : Mod) (a : Nat) : (pa8 true c a).1 3 = c.1 3 := by rw [pa8_eq, pqT_ne (r := 3) 4 _ _ _ (by decide)]; exact rT_3_7 c a
theorem rT_3_9 (c : Mod) (a : Nat) : (pa9 true c a).1 3 = c.1 3 := by rw [pa9_eq, pqT_ne (r := 3) 5 _ _ _ (by decide)]; exact rT_3_8 c a
theorem rT_3_10 (c : Mod) (a : Nat) : (pa10 true c a).1 3 = c.1 3 := by rw [pa10_eq, pqT_ne (r := 3) 6 _ _ _ (by decide)]; exact rT_3_9 c a
theorem rT_3_11 (c : Mod) (a : Nat) : (pa11 true c a).1 3 = c.1 3 := by rw [pa11_eq, pqT_ne (r := 3) 7 _ _ _ (by decide)]; exact rT_3_10 c a
theorem rT_3_12 (c : Mod) (a : Nat) : (pa12 true c a).1 3 = c.1 3 := by rw [pa12_eq, pqT_ne (r := 3) 8 _ _ _ (by decide)]; exact rT_3_11 c a
theorem rT_3_13 (c : Mod) (a : Nat) : (pa13 true c a).1 3 = c.1 3 := by rw [pa13_eq, pqT_ne (r := 3) 9 _ _ _ (by decide)]; exact rT_3_12 c a
theorem rT_3_14 (c : Mod) (a : Nat) : (pa14 true c a).1 3 = c.1 3 := by rw [pa14_eq, pqT_ne (r := 3) 10 _ _ _ (by decide)]; exact rT_3_13 c a
theorem rT_4_3 (c : Mod) (a : Nat) : (pa3 true c a).1 4 = c.1 4 := rfl
theorem rT_4_4 (c : Mod) (a : Nat) : (pa4 true c a).1 4 = c.1 4 := by rw [pa4_eq, pqT_ne (r := 4) 0 _ _ _ (by decide)]; exact rT_4_3 c a
theorem rT_4_5 (c : Mod) (a : Nat) : (pa5 true c a).1 4 = c.1 4 := by rw [pa5_eq, pqT_ne (r := 4) 1 _ _ _ (by decide)]; exact rT_4_4 c a
theorem rT_4_6 (c : Mod) (a : Nat) : (pa6 true c a).1 4 = c.1 4 := by rw [pa6_eq, pqT_ne (r := 4) 2 _ _ _ (by decide)]; exact rT_4_5 c a
theorem rT_4_7 (c : Mod) (a : Nat) : (pa7 true c a).1 4 = c.1 4 := by rw [pa7_eq, pqT_ne (r := 4) 3 _ _ _ (by decide)]; exact rT_4_6 c a
theorem rT_4_8 (c : Mod) (a : Nat) : (pa8 true c a).1 4 = c.1 4 := by rw [pa8_eq, pqT_ne (r := 4) 4 _ _ _ (by decide)]; exact rT_4_7 c a
theorem rT_4_9 (c : Mod) (a : Nat) : (pa9 true c a).1 4 = c.1 4 := by rw [pa9_eq, pqT_ne (r := 4) 5 _ _ _ (by decide)]; exact rT_4_8 c a
theorem rT_4_10 (c : Mod) (a : Nat) : (pa10 true c a).1 4 = c.1 4 := by rw [pa10_eq, pqT_ne (r := 4) 6 _ _ _ (by decide)]; exact rT_4_9 c a
theorem rT_4_11 (c : Mod) (a : Nat) : (pa11 true c a).1 4 = c.1 4 := by rw [pa11_eq, pqT_ne (r := 4) 7 _ _ _ (by decide)]; exact rT_4_10 c a
theorem rT_4_12 (c : Mod) (a : Nat) : (pa12 true c a).1 4 = c.1 4 := by rw [pa12_eq, pqT_ne (r := 4) 8 _ _ _ (by decide)]; exact rT_4_11 c a
theorem rT_4_13 (c : Mod) (a : Nat) : (pa13 true c a).1 4 = c.1 4 := by rw [pa13_eq, pqT_ne (r := 4) 9 _ _ _ (by decide)]; exact rT_4_12 c a
theorem rT_4_14 (c : Mod) (a : Nat) : (pa14 true c a).1 4 = c.1 4 := by rw [pa14_eq, pqT_ne (r := 4) 10 _ _ _ (by decide)]; exact rT_4_13 c a
theorem rT_5_3 (c : Mod) (a : Nat) : (pa3 true c a).1 5 = c.1 5 := rfl
theorem rT_5_4 (c : Mod) (a : Nat) : (pa4 true c a).1 5 = c.1 5 := by rw [pa4_eq, pqT_ne (r := 5) 0 _ _ _ (by decide)]; exact rT_5_3 c a
theorem rT_5_5 (c : Mod) (a : Nat) : (pa5 true c a).1 5 = c.1 5 := by rw [pa5_eq, pqT_ne (r := 5) 1 _ _ _ (by decide)]; exact rT_5_4 c a
theorem rT_5_6 (c : Mod) (a : Nat) : (pa6 true c a).1 5 = c.1 5 := by rw [pa6_eq, pqT_ne (r := 5) 2 _ _ _ (by decide)]; exact rT_5_5 c a
theorem rT_5_7 (c : Mod) (a : Nat) : (pa7 true c a).1 5 = c.1 5 := by rw [pa7_eq, pqT_ne (r := 5) 3 _ _ _ (by decide)]; exact rT_5_6 c a
theorem rT_5_8 (c : Mod) (a : Nat) : (pa8 true c a).1 5 = c.1 5 := by rw [pa8_eq, pqT_ne (r := 5) 4 _ _ _ (by decide)]; exact rT_5_7 c a
theorem rT_5_9 (c : Mod) (a : Nat) : (pa9 true c a).1 5 = c.1 5 := by rw [pa9_eq, pqT_ne (r := 5) 5 _ _ _ (by decide)]; exact rT_5_8 c a
theorem rT_5_10 (c : Mod) (a : Nat) : (pa10 true c a).1 5 = c.1 5 := by rw [pa10_eq, pqT_ne (r := 5) 6 _ _ _ (by decide)]; exact rT_5_9 c a
theorem rT_5_11 (c : Mod) (a : Nat) : (pa11 true c a).1 5 = c.1 5 := by rw [pa11_eq, pqT_ne (r := 5) 7 _ _ _ (by decide)]; exact rT_5_10 c a
theorem rT_5_12 (c : Mod) (a : Nat) : (pa12 true c a).1 5 = c.1 5 := by rw [pa12_eq, pqT_ne (r := 5) 8 _ _ _ (by decide)]; exact rT_5_11 c a
theorem rT_5_13 (c : Mod) (a : Nat) : (pa13 true c a).1 5 = c.1 5 := by rw [pa13_eq, pqT_ne (r := 5) 9 _ _ _ (by decide)]; exact rT_5_12 c a
theorem rT_5_14 (c : Mod) (a : Nat) : (pa14 true c a).1 5 = c.1 5 := by rw [pa14_eq, pqT_ne (r := 5) 10 _ _ _ (by decide)]; exact rT_5_13 c a
theorem rT_6_3 (c : Mod) (a : Nat) : (pa3 true c a).1 6 = c.1 6 := rfl
theorem rT_6_4 (c : Mod) (a : Nat) : (pa4 true c a).1 6 = c.1 6 := by rw [pa4_eq, pqT_ne (r := 6) 0 _ _ _ (by decide)]; exact rT_6_3 c a
theorem rT_6_5 (c : Mod) (a : Nat) : (pa5 true c a).1 6 = c.1 6 := by rw [pa5_eq, pqT_ne (r := 6) 1 _ _ _ (by decide)]; exact rT_6_4 c a
theorem rT_6_6 (c : Mod) (a : Nat) : (pa6 true c a).1 6 = c.1 6 := by rw [pa6_eq, pqT_ne (r := 6) 2 _ _ _ (by decide)]; exact rT_6_5 c a
theorem rT_6_7 (c : Mod) (a : Nat) : (pa7 true c a).1 6 = c.1 6 := by rw [pa7_eq, pqT_ne (r := 6) 3 _ _ _ (by decide)]; exact rT_6_6 c a
theorem rT_6_8 (c : Mod) (a : Nat) : (pa8 true c a).1 6 = c.1 6 := by rw [pa8_eq, pqT_ne (r := 6) 4 _ _ _ (by decide)]; exact rT_6_7 c a
theorem rT_6_9 (c : Mod) (a : Nat) : (pa9 true c a).1 6 = c.1 6 := by rw [pa9_eq, pqT_ne (r := 6) 5 _ _ _ (by decide)]; exact rT_6_8 c a
theorem rT_6_10 (c : Mod) (a : Nat) : (pa10 true c a).1 6 = c.1 6 := by rw [pa10_eq, pqT_ne (r := 6) 6 _ _ _ (by decide)]; exact rT_6_9 c a
theorem rT_6_11 (c : Mod) (a : Nat) : (pa11 true c a).1 6 = c.1 6 := by rw [pa11_eq, pqT_ne (r := 6) 7 _ _ _ (by decide)]; exact rT_6_10 c a
theorem rT_6_12 (c : Mod) (a : Nat) : (pa12 true c a).1 6 = c.1 6 := by rw [pa12_eq, pqT_ne (r := 6) 8 _ _ _ (by decide)]; exact rT_6_11 c a
theorem rT_6_13 (c : Mod) (a : Nat) : (pa13 true c a).1 6 = c.1 6 := by rw [pa13_eq, pqT_ne (r := 6) 9 _ _ _ (by decide)]; exact rT_6_12 c a
theorem rT_6_14 (c : Mod) (a : Nat) : (pa14 true c a).1 6 = c.1 6 := by rw [pa14_eq, pqT_ne (r := 6) 10 _ _ _ (by decide)]; exact rT_6_13 c a
theorem rT_7_3 (c : Mod) (a : Nat) : (pa3 true c a).1 7 = c.1 7 := rfl
theorem rT_7_4 (c : Mod) (a : Nat) : (pa4 true c a).1 7 = c.1 7 := by rw [pa4_eq, pqT_ne (r := 7) 0 _ _ _ (by decide)]; exact rT_7_3 c a
theorem rT_7_5 (c : Mod) (a : Nat) : (pa5 true c a).1 7 = c.1 7 := by rw [pa5_eq, pqT_ne (r := 7) 1 _ _ _ (by decide)]; exact rT_7_4 c a
theorem rT_7_6 (c : Mod) (a : Nat) : (pa6 true c a).1 7 = c.1 7 := by rw [pa6_eq, pqT_ne (r := 7) 2 _ _ _ (by decide)]; exact rT_7_5 c a
theorem rT_7_7 (c : Mod) (a : Nat) : (pa7 true c a).1 7 = c.1 7 := by rw [pa7_eq, pqT_ne (r := 7) 3 _ _ _ (by decide)]; exact rT_7_6 c a
theorem rT_7_8 (c : Mod) (a : Nat) : (pa8 true c a).1 7 = c.1 7 := by rw [pa8_eq, pqT_ne (r := 7) 4 _ _ _ (by decide)]; exact rT_7_7 c a
theorem rT_7_9 (c : Mod) (a : Nat) : (pa9 true c a).1 7 = c.1 7 := by rw [pa9_eq, pqT_ne (r := 7) 5 _ _ _ (by decide)]; exact rT_7_8 c a
theorem rT_7_10 (c : Mod) (a : Nat) : (pa10 true c a).1 7 = c.1 7 := by rw [pa10_eq, pqT_ne (r := 7) 6 _ _ _ (by decide)]; exact rT_7_9 c a
theorem rT_7_11 (c : Mod) (a : Nat) : (pa11 true c a).1 7 = c.1 7 := by rw [pa11_eq, pqT_ne (r := 7) 7 _ _ _ (by decide)]; exact rT_7_10 c a
theorem rT_7_12 (c : Mod) (a : Nat) : (pa12 true c a).1 7 = c.1 7 := by rw [pa12_eq, pqT_ne (r := 7) 8 _ _ _ (by decide)]; exact rT_7_11 c a
theorem rT_7_13 (c : Mod) (a : Nat) : (pa13 true c a).1 7 = c.1 7 := by rw [pa13_eq, pqT_ne (r := 7) 9 _ _ _ (by decide)]; exact rT_7_12 c a
theorem rT_7_14 (c : Mod) (a : Nat) : (pa14 true c a).1 7 = c.1 7 := by rw [pa14_eq, pqT_ne (r := 7) 10 _ _ _ (by decide)]; exact rT_7_13 c a
theorem rT_8_3 (c : Mod) (a : Nat) : (pa3 true c a).1 8 = c.1 8 := rfl
theorem rT_8_4 (c : Mod) (a : Nat) : (pa4 true c a).1 8 = c.1 8 := by rw [pa4_eq, pqT_ne (r := 8) 0 _ _ _ (by decide)]; exact rT_8_3 c a
theorem rT_8_5 (c : Mod) (a : Nat) : (pa5 true c a).1 8 = c.1 8 := by rw [pa5_eq, pqT_ne (r := 8) 1 _ _ _ (by decide)]; exact rT_8_4 c a
theorem rT_8_6 (c : Mod) (a : Nat) : (pa6 true c a).1 8 = c.1 8 := by rw [pa6_eq, pqT_ne (r := 8) 2 _ _ _ (by decide)]; exact rT_8_5 c a
theorem rT_8_7 (c : Mod) (a : Nat) : (pa7 true c a).1 8 = c.1 8 := by rw [pa7_eq, pqT_ne (r := 8) 3 _ _ _ (by decide)]; exact rT_8_6 c a
theorem rT_8_8 (c : Mod) (a : Nat) : (pa8 true c a).1 8 = c.1 8 := by rw [pa8_eq, pqT_ne (r := 8) 4 _ _ _ (by decide)]; exact rT_8_7 c a
theorem rT_8_9 (c : Mod) (a : Nat) : (pa9 true c a).1 8 = c.1 8 := by rw [pa9_eq, pqT_ne (r := 8) 5 _ _ _ (by decide)]; exact rT_8_8 c a
theorem rT_8_10 (c : Mod) (a : Nat) : (pa10 true c a).1 8 = c.1 8 := by rw [pa10_eq, pqT_ne (r := 8) 6 _ _ _ (by decide)]; exact rT_8_9 c a
theorem rT_8_11 (c : Mod) (a : Nat) : (pa11 true c a).1 8 = c.1 8 := by rw [pa11_eq, pqT_ne (r := 8) 7 _ _ _ (by decide)]; exact rT_8_10 c a
theorem rT_8_12 (c : Mod) (a : Nat) : (pa12 true c a).1 8 = c.1 8 := by rw [pa12_eq, pqT_ne (r := 8) 8 _ _ _ (by decide)]; exact rT_8_11 c a
theorem rT_8_13 (c : Mod) (a : Nat) : (pa13 true c a).1 8 = c.1 8 := by rw [pa13_eq, pqT_ne (r := 8) 9 _ _ _ (by decide)]; exact rT_8_12 c a
theorem rT_8_14 (c : Mod) (a : Nat) : (pa14 true c a).1 8 = c.1 8 := by rw [pa14_eq, pqT_ne (r := 8) 10 _ _ _ (by decide)]; exact rT_8_13 c a
theorem rT_9_3 (c : Mod) (a : Nat) : (pa3 true c a).1 9 = c.1 9 := rfl
theorem rT_9_4 (c : Mod) (a : Nat) : (pa4 true c a).1 9 = c.1 9 := by rw [pa4_eq, pqT_ne (r := 9) 0 _ _ _ (by decide)]; exact rT_9_3 c a
theorem rT_9_5 (c : Mod) (a : Nat) : (pa5 true c a).1 9 = c.1 9 := by rw [pa5_eq, pqT_ne (r := 9) 1 _ _ _ (by decide)]; exact rT_9_4 c a
theorem rT_9_6 (c : Mod) (a : Nat) : (pa6 true c a).1 9 = c.1 9 := by rw [pa6_eq, pqT_ne (r := 9) 2 _ _ _ (by decide)]; exact rT_9_5 c a
theorem rT_9_7 (c : Mod) (a : Nat) : (pa7 true c a).1 9 = c.1 9 := by rw [pa7_eq, pqT_ne (r := 9) 3 _ _ _ (by decide)]; exact rT_9_6 c a
theorem rT_9_8 (c : Mod) (a : Nat) : (pa8 true c a).1 9 = c.1 9 := by rw [pa8_eq, pqT_ne (r := 9) 4 _ _ _ (by decide)]; exact rT_9_7 c a
theorem rT_9_9 (c : Mod) (a : Nat) : (pa9 true c a).1 9 = c.1 9 := by rw [pa9_eq, pqT_ne (r := 9) 5 _ _ _ (by decide)]; exact rT_9_8 c a
theorem rT_9_10 (c : Mod) (a : Nat) : (pa10 true c a).1 9 = c.1 9 := by rw [pa10_eq, pqT_ne (r := 9) 6 _ _ _ (by decide)]; exact rT_9_9 c a
theorem rT_9_11 (c : Mod) (a : Nat) : (pa11 true c a).1 9 = c.1 9 := by rw [pa11_eq, pqT_ne (r := 9) 7 _ _ _ (by decide)]; exact rT_9_10 c a
theorem rT_9_12 (c : Mod) (a : Nat) : (pa12 true c a).1 9 = c.1 9 := by rw [pa12_eq, pqT_ne (r := 9) 8 _ _ _ (by decide)]; exact rT_9_11 c a
theorem rT_9_13 (c : Mod) (a : Nat) : (pa13 true c a).1 9 = c.1 9 := by rw [pa13_eq, pqT_ne (r := 9) 9 _ _ _ (by decide)]; exact rT_9_12 c a
theorem rT_9_14 (c : Mod) (a : Nat) : (pa14 true c a).1 9 = c.1 9 := by rw [pa14_eq, pqT_ne (r := 9) 10 _ _ _ (by decide)]; exact rT_9_13 c a
theorem rT_10_3 (c : Mod) (a : Nat) : (pa3 true c a).1 10 = c.1 10 := rfl
theorem rT_10_4 (c : Mod) (a : Nat) : (pa4 true c a).1 10 = c.1 10 := by rw [pa4_eq, pqT_ne (r := 10) 0 _ _ _ (by decide)]; exact rT_10_3 c a
theorem rT_10_5 (c : Mod) (a : Nat) : (pa5 true c a).1 10 = c.1 10 := by rw [pa5_eq, pqT_ne (r := 10) 1 _ _ _ (by decide)]; exact rT_10_4 c a
theorem rT_10_6 (c : Mod) (a : Nat) : (pa6 true c a).1 10 = c.1 10 := by rw [pa6_eq, pqT_ne (r := 10) 2 _ _ _ (by decide)]; exact rT_10_5 c a
theorem rT_10_7 (c : Mod) (a : Nat) : (pa7 true c a).1 10 = c.1 10 := by rw [pa7_eq, pqT_ne (r := 10) 3 _ _ _ (by decide)]; exact rT_10_6 c a
theorem rT_10_8 (c : Mod) (a : Nat) : (pa8 true c a).1 10 = c.1 10 := by rw [pa8_eq, pqT_ne (r := 10) 4 _ _ _ (by decide)]; exact rT_10_7 c a
theorem rT_10_9 (c : Mod) (a : Nat) : (pa9 true c a).1 10 = c.1 10 := by rw [pa9_eq, pqT_ne (r := 10) 5 _ _ _ (by decide)]; exact rT_10_8 c a
theorem rT_10_10 (c : Mod) (a : Nat) : (pa10 true c a).1 10 = c.1 10 := by rw [pa10_eq, pqT_ne (r := 10) 6 _ _ _ (by decide)]; exact rT_10_9 c a
theorem rT_10_11 (c : Mod) (a : Nat) : (pa11 true c a).1 10 = c.1 10 := by rw [pa11_eq, pqT_ne (r := 10) 7 _ _ _ (by decide)]; exact rT_10_10 c a
theorem rT_10_12 (c : Mod) (a : Nat) : (pa12 true c a).1 10 = c.1 10 := by rw [pa12_eq, pqT_ne (r := 10) 8 _ _ _ (by decide)]; exact rT_10_11 c a
theorem rT_10_13 (c : Mod) (a : Nat) : (pa13 true c a).1 10 = c.1 10 := by rw [pa13_eq, pqT_ne (r := 10) 9 _ _ _ (by decide)]; exact rT_10_12 c a
theorem rT_10_14 (c : Mod) (a : Nat) : (pa14 true c a).1 10 = c.1 10 := by rw [pa14_eq, pqT_ne (r := 10) 10 _ _ _ (by decide)]; exact rT_10_13 c a
theorem rT_11_3 (c : Mod) (a : Nat) : (pa3 true c a).1 11 = c.1 11 := rfl
theorem rT_11_4 (c : Mod) (a : Nat) : (pa4 true c a).1 11 = c.1 11 := by rw [pa4_eq, pqT_ne (r := 11) 0 _ _ _ (by decide)]; exact rT_11_3 c a
theorem rT_11_5 (c : Mod) (a : Nat) : (pa5 true c a).1 11 = c.1 11 := by rw [pa5_eq, pqT_ne (r := 11) 1 _ _ _ (by decide)]; exact rT_11_4 c a
theorem rT_11_6 (c : Mod) (a : Nat) : (pa6 true c a).1 11 = c.1 11 := by rw [pa6_eq, pqT_ne (r := 11) 2 _ _ _ (by decide)]; exact rT_11_5 c a
theorem rT_11_7 (c : Mod) (a : Nat) : (pa7 true c a).1 11 = c.1 11 := by rw [pa7_eq, pqT_ne (r := 11) 3 _ _ _ (by decide)]; exact rT_11_6 c a
theorem rT_11_8 (c : Mod) (a : Nat) : (pa8 true c a).1 11 = c.1 11 := by rw [pa8_eq, pqT_ne (r := 11) 4 _ _ _ (by decide)]; exact rT_11_7 c a
theorem rT_11_9 (c : Mod) (a : Nat) : (pa9 true c a).1 11 = c.1 11 := by rw [pa9_eq, pqT_ne (r := 11) 5 _ _ _ (by decide)]; exact rT_11_8 c a
theorem rT_11_10 (c : Mod) (a : Nat) : (pa10 true c a).1 11 = c.1 11 := by rw [pa10_eq, pqT_ne (r := 11) 6 _ _ _ (by decide)]; exact rT_11_9 c a
theorem rT_11_11 (c : Mod) (a : Nat) : (pa11 true c a).1 11 = c.1 11 := by rw [pa11_eq, pqT_ne (r := 11) 7 _ _ _ (by decide)]; exact rT_11_10 c a
theorem rT_11_12 (c : Mod) (a : Nat) : (pa12 true c a).1 11 = c.1 11 := by rw [pa12_eq, pqT_ne (r := 11) 8 _ _ _ (by decide)]; exact rT_11_11 c a
theorem rT_11_13 (c : Mod) (a : Nat) : (pa13 true c a).1 11 = c.1 11 := by rw [pa13_eq, pqT_ne (r := 11) 9 _ _ _ (by decide)]; exact rT_11_12 c a
theorem rT_11_14 (c : Mod) (a : Nat) : (pa14 true c a).1 11 = c.1 11 := by rw [pa14_eq, pqT_ne (r := 11) 10 _ _ _ (by decide)]; exact rT_11_13 c a
theorem rT_20_3 (c : Mod) (a : Nat) : (pa3 true c a).1 20 = c.1 20 := rfl
theorem rT_20_4 (c : Mod) (a : Nat) : (pa4 true c a).1 20 = c.1 20 := by rw [pa4_eq, pqT_ne (r := 20) 0 _ _ _ (by decide)]; exact rT_20_3 c a
theorem rT_20_5 (c : Mod) (a : Nat) : (pa5 true c a).1 20 = c.1 20 := by rw [pa5_eq, pqT_ne (r := 20) 1 _ _ _ (by decide)]; exact rT_20_4 c a
theorem rT_20_6 (c : Mod) (a : Nat) : (pa6 true c a).1 20 = c.1 20 := by rw [pa6_eq, pqT_ne (r := 20) 2 _ _ _ (by decide)]; exact rT_20_5 c a
theorem rT_20_7 (c : Mod) (a : Nat) : (pa7 true c a).1 20 = c.1 20 := by rw [pa7_eq, pqT_ne (r := 20) 3 _ _ _ (by decide)]; exact rT_20_6 c a
theorem rT_20_8 (c : Mod) (a : Nat) : (pa8 true c a).1 20 = c.1 20 := by rw [pa8_eq, pqT_ne (r := 20) 4 _ _ _ (by decide)]; exact rT_20_7 c a
theorem rT_20_9 (c : Mod) (a : Nat) : (pa9 true c a).1 20 = c.1 20 := by rw [pa9_eq, pqT_ne (r := 20) 5 _ _ _ (by decide)]; exact rT_20_8 c a
theorem rT_20_10 (c : Mod) (a : Nat) : (pa10 true c a).1 20 = c.1 20 := by rw [pa10_eq, pqT_ne (r := 20) 6 _ _ _ (by decide)]; exact rT_20_9 c a
theorem rT_20_11 (c : Mod) (a : Nat) : (pa11 true c a).1 20 = c.1 20 := by rw [pa11_eq, pqT_ne (r := 20) 7 _ _ _ (by decide)]; exact rT_20_10 c a
theorem rT_20_12 (c : Mod) (a : Nat) : (pa12 true c a).1 20 = c.1 20 := by rw [pa12_eq, pqT_ne (r := 20) 8 _ _ _ (by decide)]; exact rT_20_11 c a
theorem rT_20_13 (c : Mod) (a : Nat) : (pa13 true c a).1 20 = c.1 20 := by rw [pa13_eq, pqT_ne (r := 20) 9 _ _ _ (by decide)]; exact rT_20_12 c a
theorem rT_20_14 (c : Mod) (a : Nat) : (pa14 true c a).1 20 = c.1 20 := by rw [pa14_eq, pqT_ne (r := 20) 10 _ _ _ (by decide)]; exact rT_20_13 c a
theorem kT_4 (c : Mod) (a : Nat) : wm_kept (pa4 true c a) = (ovr (wm_kept (pa3 true c a)) (a + 3) (c.1 0) 64) := by rw [pa4_eq, pqT_k, rT_0_3]
theorem kT_5 (c : Mod) (a : Nat) : wm_kept (pa5 true c a) = (ovr (ovr (wm_kept (pa3 true c a)) (a + 3) (c.1 0) 64) (a + 67) (c.1 1) 64) := by rw [pa5_eq, pqT_k, kT_4, rT_1_4]
theorem kT_6 (c : Mod) (a : Nat) : wm_kept (pa6 true c a) = (ovr (ovr (ovr (wm_kept (pa3 true c a)) (a + 3) (c.1 0) 64) (a + 67) (c.1 1) 64) (a + 131) (c.1 2) 6) := by rw [pa6_eq, pqT_k, kT_5, rT_2_5]
theorem kT_7 (c : Mod) (a : Nat) : wm_kept (pa7 true c a) = (ovr (ovr (ovr (ovr (wm_kept (pa3 true c a)) (a + 3) (c.1 0) 64) (a + 67) (c.1 1) 64) (a + 131) (c.1 2) 6) (a + 137) (c.1 3) 6) := by rw [pa7_eq, pqT_k, kT_6, rT_3_6]
theorem kT_8 (c : Mod) (a : Nat) : wm_kept (pa8 true c a) = (ovr (ovr (ovr (ovr (ovr (wm_kept (pa3 true c a)) (a + 3) (c.1 0) 64) (a + 67) (c.1 1) 64) (a + 131) (c.1 2) 6) (a + 137) (c.1 3) 6) (a + 143) (c.1 4) 6) := by rw [pa8_eq, pqT_k, kT_7, rT_4_7]
theorem kT_9 (c : Mod) (a : Nat) : wm_kept (pa9 true c a) = (ovr (ovr (ovr (ovr (ovr (ovr (wm_kept (pa3 true c a)) (a + 3) (c.1 0) 64) (a + 67) (c.1 1) 64) (a + 131) (c.1 2) 6) (a + 137) (c.1 3) 6) (a + 143) (c.1 4) 6) (a + 149) (c.1 5) 6) := by rw [pa9_eq, pqT_k, kT_8, rT_5_8]
theorem kT_10 (c : Mod) (a : Nat) : wm_kept (pa10 true c a) = (ovr (ovr (ovr (ovr (ovr (ovr (ovr (wm_kept (pa3 true c a)) (a + 3) (c.1 0) 64) (a + 67) (c.1 1) 64) (a + 131) (c.1 2) 6) (a + 137) (c.1 3) 6) (a + 143) (c.1 4) 6) (a + 149) (c.1 5) 6) (a + 155) (c.1 6) 8) := by rw [pa10_eq, pqT_k, kT_9, rT_6_9]
theorem kT_11 (c : Mod) (a : Nat) : wm_kept (pa11 true c a) = (ovr (ovr (ovr (ovr (ovr (ovr (ovr (ovr (wm_kept (pa3 true c a)) (a + 3) (c.1 0) 64) (a + 67) (c.1 1) 64) (a + 131) (c.1 2) 6) (a + 137) (c.1 3) 6) (a + 143) (c.1 4) 6) (a + 149) (c.1 5) 6) (a + 155) (c.1 6) 8) (a + 163) (c.1 7) 8) := by rw [pa11_eq, pqT_k, kT_10, rT_7_10]
theorem kT_12 (c : Mod) (a : Nat) : wm_kept (pa12 true c a) = (ovr (ovr (ovr (ovr (ovr (ovr (ovr (ovr (ovr (wm_kept (pa3 true c a)) (a + 3) (c.1 0) 64) (a + 67) (c.1 1) 64) (a + 131) (c.1 2) 6) (a + 137) (c.1 3) 6) (a + 143) (c.1 4) 6) (a + 149) (c.1 5) 6) (a + 155) (c.1 6) 8) (a + 163) (c.1 7) 8) (a + 171) (c.1 8) 8) := by rw [pa12_eq, pqT_k, kT_11, rT_8_11]
theorem kT_13 (c : Mod) (a : Nat) : wm_kept (pa13 true c a) = (ovr (ovr (ovr (ovr (ovr (ovr (ovr (ovr (ovr (ovr (wm_kept (pa3 true c a)) (a + 3) (c.1 0) 64) (a + 67) (c.1 1) 64) (a + 131) (c.1 2) 6) (a + 137) (c.1 3) 6) (a + 143) (c.1 4) 6) (a + 149) (c.1 5) 6) (a + 155) (c.1 6) 8) (a + 163) (c.1 7) 8) (a + 171) (c.1 8) 8) (a + 179) (c.1 9) 8) := by rw [pa13_eq, pqT_k, kT_12, rT_9_12]
theorem kT_14 (c : Mod) (a : Nat) : wm_kept (pa14 true c a) = (ovr (ovr (ovr (ovr (ovr (ovr (ovr (ovr (ovr (ovr (ovr (wm_kept (pa3 true c a)) (a + 3) (c.1 0) 64) (a + 67) (c.1 1) 64) (a + 131) (c.1 2) 6) (a + 137) (c.1 3) 6) (a + 143) (c.1 4) 6) (a + 149) (c.1 5) 6) (a + 155) (c.1 6) 8) (a + 163) (c.1 7) 8) (a + 171) (c.1 8) 8) (a + 179) (c.1 9) 8) (a + 187) (c.1 10) 8) := by rw [pa14_eq, pqT_k, kT_13, rT_10_13]
theorem paT_kept (c : Mod) (a : Nat) : wm_kept (pa14 true c a) = (ovr (ovr (ovr (ovr (ovr (ovr (ovr (ovr (ovr (ovr (ovr (wm_kept (pa3 true c a)) (a + 3) (c.1 0) 64) (a + 67) (c.1 1) 64) (a + 131) (c.1 2) 6) (a + 137) (c.1 3) 6) (a + 143) (c.1 4) 6) (a + 149) (c.1 5) 6) (a + 155) (c.1 6) 8) (a + 163) (c.1 7) 8) (a + 171) (c.1 8) 8) (a + 179) (c.1 9) 8) (a + 187) (c.1 10) 8) := kT_14 c a
theorem paT_l (c : Mod) (a : Nat) : (pa14 true c a).2.1 = c.2.1 := by
  rw [pa14_eq, pqT_l]
  rw [pa13_eq, pqT_l]
  rw [pa12_eq, pqT_l]
  rw [pa11_eq, pqT_l]
  rw [pa10_eq, pqT_l]
  rw [pa9_eq, pqT_l]
  rw [pa8_eq, pqT_l]
  rw [pa7_eq, pqT_l]
  rw [pa6_eq, pqT_l]
  rw [pa5_eq, pqT_l]
  rw [pa4_eq, pqT_l]
  rfl
theorem paT_v0 (c : Mod) (a : Nat) : (pa14 true c a).2.2 0 = c.2.2 0 := by
  rw [pa14_eq, pqT_v (v := 0) 10 _ _ _ (by decide)]
  rw [pa13_eq, pqT_v (v := 0) 9 _ _ _ (by decide)]
  rw [pa12_eq, pqT_v (v := 0) 8 _ _ _ (by decide)]
  rw [pa11_eq, pqT_v (v := 0) 7 _ _ _ (by decide)]
  rw [pa10_eq, pqT_v (v := 0) 6 _ _ _ (by decide)]
  rw [pa9_eq, pqT_v (v := 0) 5 _ _ _ (by decide)]
  rw [pa8_eq, pqT_v (v := 0) 4 _ _ _ (by decide)]
  rw [pa7_eq, pqT_v (v := 0) 3 _ _ _ (by decide)]
  rw [pa6_eq, pqT_v (v := 0) 2 _ _ _ (by decide)]
  rw [pa5_eq, pqT_v (v := 0) 1 _ _ _ (by decide)]
  rw [pa4_eq, pqT_v (v := 0) 0 _ _ _ (by decide)]
  rfl
theorem paT_v1 (c : Mod) (a : Nat) : (pa14 true c a).2.2 1 = c.2.2 1 := by
  rw [pa14_eq, pqT_v (v := 1) 10 _ _ _ (by decide)]
  rw [pa13_eq, pqT_v (v := 1) 9 _ _ _ (by decide)]
  rw [pa12_eq, pqT_v (v := 1) 8 _ _ _ (by decide)]
  rw [pa11_eq, pqT_v (v := 1) 7 _ _ _ (by decide)]
  rw [pa10_eq, pqT_v (v := 1) 6 _ _ _ (by decide)]
  rw [pa9_eq, pqT_v (v := 1) 5 _ _ _ (by decide)]
  rw [pa8_eq, pqT_v (v := 1) 4 _ _ _ (by decide)]
  rw [pa7_eq, pqT_v (v := 1) 3 _ _ _ (by decide)]
  rw [pa6_eq, pqT_v (v := 1) 2 _ _ _ (by decide)]
  rw [pa5_eq, pqT_v (v := 1) 1 _ _ _ (by decide)]
  rw [pa4_eq, pqT_v (v := 1) 0 _ _ _ (by decide)]
  rfl
theorem paT_v2 (c : Mod) (a : Nat) : (pa14 true c a).2.2 2 = c.2.2 2 := by
  rw [pa14_eq, pqT_v (v := 2) 10 _ _ _ (by decide)]
  rw [pa13_eq, pqT_v (v := 2) 9 _ _ _ (by decide)]
  rw [pa12_eq, pqT_v (v := 2) 8 _ _ _ (by decide)]
  rw [pa11_eq, pqT_v (v := 2) 7 _ _ _ (by decide)]
  rw [pa10_eq, pqT_v (v := 2) 6 _ _ _ (by decide)]
  rw [pa9_eq, pqT_v (v := 2) 5 _ _ _ (by decide)]
  rw [pa8_eq, pqT_v (v := 2) 4 _ _ _ (by decide)]
  rw [pa7_eq, pqT_v (v := 2) 3 _ _ _ (by decide)]
  rw [pa6_eq, pqT_v (v := 2) 2 _ _ _ (by decide)]
  rw [pa5_eq, pqT_v (v := 2) 1 _ _ _ (by decide)]
  rw [pa4_eq, pqT_v (v := 2) 0 _ _ _ (by decide)]
  rfl
theorem paT_v3 (c : Mod) (a : Nat) : (pa14 true c a).2.2 3 = c.2.2 3 := by
  rw [pa14_eq, pqT_v (v := 3) 10 _ _ _ (by decide)]
  rw [pa13_eq, pqT_v (v := 3) 9 _ _ _ (by decide)]
  rw [pa12_eq, pqT_v (v := 3) 8 _ _ _ (by decide)]
  rw [pa11_eq, pqT_v (v := 3) 7 _ _ _ (by decide)]
  rw [pa10_eq, pqT_v (v := 3) 6 _ _ _ (by decide)]
  rw [pa9_eq, pqT_v (v := 3) 5 _ _ _ (by decide)]
  rw [pa8_eq, pqT_v (v := 3) 4 _ _ _ (by decide)]
  rw [pa7_eq, pqT_v (v := 3) 3 _ _ _ (by decide)]
  rw [pa6_eq, pqT_v (v := 3) 2 _ _ _ (by decide)]
  rw [pa5_eq, pqT_v (v := 3) 1 _ _ _ (by decide)]
  rw [pa4_eq, pqT_v (v := 3) 0 _ _ _ (by decide)]
  rfl
theorem pa3t_kept (c : Mod) (a : Nat) : wm_kept (pa3 true c a) = upd (upd (upd (wm_kept c) a (wm_men c)) (a + 1) (wm_tales c)) (a + 2) (wm_sights c) := rfl
theorem ovr_in {α : Type} {f g : Nat → α} {a n j : Nat} (h : j < n) : ovr f a g n (a + j) = g j := by
  rw [ovr, if_pos ⟨by omega, by omega⟩, Nat.add_sub_cancel_left]
theorem ovr_out {α : Type} {f g : Nat → α} {a n j : Nat} (h : j < a ∨ a + n ≤ j) : ovr f a g n j = f j := by
  rw [ovr, if_neg (by omega)]
theorem paT_at (c : Mod) (a : Nat) : ∀ r, r < 11 → ∀ j, j < szR r → wm_kept (pa14 true c a) (a + ofR r + j) = c.1 r j := by
  rw [paT_kept]
  refine lt11 ?_ ?_ ?_ ?_ ?_ ?_ ?_ ?_ ?_ ?_ ?_
  · intro j hj
    have hj2 : j < 64 := hj
    rw [show ofR 0 = 3 from rfl]
    rw [ovr_out (by omega), ovr_out (by omega), ovr_out (by omega), ovr_out (by omega), ovr_out (by omega), ovr_out (by omega), ovr_out (by omega), ovr_out (by omega), ovr_out (by omega), ovr_out (by omega), ovr_in hj2]
  · intro j hj
    have hj2 : j < 64 := hj
    rw [show ofR 1 = 67 from rfl]
    rw [ovr_out (by omega), ovr_out (by omega), ovr_out (by omega), ovr_out (by omega), ovr_out (by omega), ovr_out (by omega), ovr_out (by omega), ovr_out (by omega), ovr_out (by omega), ovr_in hj2]
  · intro j hj
    have hj2 : j < 6 := hj
    rw [show ofR 2 = 131 from rfl]
    rw [ovr_out (by omega), ovr_out (by omega), ovr_out (by omega), ovr_out (by omega), ovr_out (by omega), ovr_out (by omega), ovr_out (by omega), ovr_out (by omega), ovr_in hj2]
  · intro j hj
    have hj2 : j < 6 := hj
    rw [show ofR 3 = 137 from rfl]
    rw [ovr_out (by omega), ovr_out (by omega), ovr_out (by omega), ovr_out (by omega), ovr_out (by omega), ovr_out (by omega), ovr_out (by omega), ovr_in hj2]
  · intro j hj
    have hj2 : j < 6 := hj
    rw [show ofR 4 = 143 from rfl]
    rw [ovr_out (by omega), ovr_out (by omega), ovr_out (by omega), ovr_out (by omega), ovr_out (by omega), ovr_out (by omega), ovr_in hj2]
  · intro j hj
    have hj2 : j < 6 := hj
    rw [show ofR 5 = 149 from rfl]
    rw [ovr_out (by omega), ovr_out (by omega), ovr_out (by omega), ovr_out (by omega), ovr_out (by omega), ovr_in hj2]
  · intro j hj
    have hj2 : j < 8 := hj
    rw [show ofR 6 = 155 from rfl]
    rw [ovr_out (by omega), ovr_out (by omega), ovr_out (by omega), ovr_out (by omega), ovr_in hj2]
  · intro j hj
    have hj2 : j < 8 := hj
    rw [show ofR 7 = 163 from rfl]
    rw [ovr_out (by omega), ovr_out (by omega), ovr_out (by omega), ovr_in hj2]
  · intro j hj
    have hj2 : j < 8 := hj
    rw [show ofR 8 = 171 from rfl]
    rw [ovr_out (by omega), ovr_out (by omega), ovr_in hj2]
  · intro j hj
    have hj2 : j < 8 := hj
    rw [show ofR 9 = 179 from rfl]
    rw [ovr_out (by omega), ovr_in hj2]
  · intro j hj
    have hj2 : j < 8 := hj
    rw [show ofR 10 = 187 from rfl]
    rw [ovr_in hj2]
theorem paT_v (c : Mod) (a : Nat) : ∀ v, v < 3 → wm_kept (pa14 true c a) (a + v) = c.2.2 v := by
  intro v hv
  rw [paT_kept, pa3t_kept]
  rw [ovr_out (by omega), ovr_out (by omega), ovr_out (by omega), ovr_out (by omega), ovr_out (by omega), ovr_out (by omega), ovr_out (by omega), ovr_out (by omega), ovr_out (by omega), ovr_out (by omega), ovr_out (by omega)]
  have : v = 0 ∨ v = 1 ∨ v = 2 := by omega
  rcases this with rfl | rfl | rfl
  · rw [pk_un (by omega), pk_un (by omega)]; exact pk_us
  · rw [pk_un (by omega)]; exact pk_us
  · exact pk_us
theorem paT_out (c : Mod) (a : Nat) {q : Nat} (hq : q < a ∨ a + 195 ≤ q) : wm_kept (pa14 true c a) q = wm_kept c q := by
  rw [paT_kept, pa3t_kept]
  rw [ovr_out (by omega), ovr_out (by omega), ovr_out (by omega), ovr_out (by omega), ovr_out (by omega), ovr_out (by omega), ovr_out (by omega), ovr_out (by omega), ovr_out (by omega), ovr_out (by omega), ovr_out (by omega)]
  rw [pk_un (by omega), pk_un (by omega), pk_un (by omega)]
theorem imM_row (c : Mod) (i r : Nat) (h : r ≠ 20) : (imM c i).1 r = (pa14 true (im0 c i true) (230 * i)).1 r := by
  rw [imM_eq, sIK_row _ _ h, imA_eq, kiM_row, paZ_eq]
theorem imT_kept (c : Mod) (i : Nat) : wm_kept (imM c i) = wm_kept (pa14 true (im0 c i true) (230 * i)) := by rw [kept_def, kept_def, imM_row c i 19 (by decide)]
theorem imM_l (c : Mod) (i : Nat) : (imM c i).2.1 = va_up c.2.1 2 (ovr (wm_keptKnown c) (6 * i) (wm_knows c) 6) := by
  rw [imM_eq, sIK_l, imA_eq, kiM_l]
  have e : (paZ c i true).2.1 = c.2.1 := by rw [paZ_eq, paT_l]; rfl
  rw [e, show wm_keptKnown (paZ c i true) = wm_keptKnown c from congrFun e 2, show wm_knows (paZ c i true) = wm_knows c from congrFun e 0]
theorem imM_v (c : Mod) (i : Nat) : (imM c i).2.2 = (pa14 true (im0 c i true) (230 * i)).2.2 := by
  rw [imM_eq, sIK_v, imA_eq, kiM_v, paZ_eq]
theorem imT_kk (c : Mod) (i : Nat) : wm_keptKnown (imM c i) = ovr (wm_keptKnown c) (6 * i) (wm_knows c) 6 := by
  rw [kk_def, imM_l, va_up_self]
theorem imT_isKept (c : Mod) (i : Nat) : wm_isKept (imM c i) = upd (wm_isKept c) i 1 := by
  have e : wm_isKept (imA c i true) = wm_isKept c := by
    rw [isKept_def, imA_eq, kiM_row, paZ_eq, rT_20_14]
    rfl
  rw [imM_eq, e, isKept_def]
  exact sIK_self _ _
theorem imT_pad (c : Mod) (i : Nat) : wm_pad (imM c i) = wm_pad c := by rw [pad_def, imM_row c i 11 (by decide), rT_11_14]; rfl
theorem imT_padMany (c : Mod) (i : Nat) : wm_padMany (imM c i) = wm_padMany c := by rw [padMany_def, imM_v, paT_v3]; rfl
theorem imT_rows (c : Mod) (i : Nat) : agM (imM c i) c := by
  refine ⟨fun r j hr _ => ?_, fun m hm => ?_, fun v hv => ?_⟩
  · refine (congrFun (imM_row c i r (by omega)) j).trans ?_
    exact congrFun (lt11 (P := fun r => (pa14 true (im0 c i true) (230 * i)).1 r = c.1 r) (rT_0_14 _ _) (rT_1_14 _ _) (rT_2_14 _ _) (rT_3_14 _ _) (rT_4_14 _ _) (rT_5_14 _ _) (rT_6_14 _ _) (rT_7_14 _ _) (rT_8_14 _ _) (rT_9_14 _ _) (rT_10_14 _ _) r hr) j
  · rw [kn_def, imM_l, va_up_ne _ _ (by decide)]
    rfl
  · rw [imM_v]
    have : v = 0 ∨ v = 1 ∨ v = 2 := by omega
    rcases this with rfl | rfl | rfl
    · exact paT_v0 _ _
    · exact paT_v1 _ _
    · exact paT_v2 _ _
theorem szR_of : ∀ r, r < 11 → ofR r + szR r ≤ 195 := by decide
theorem imT_vw (c : Mod) (i : Nat) : agM (vwM (imM c i) i) c := by
  refine ⟨fun r j hr hj => ?_, fun m hm => ?_, fun v hv => ?_⟩
  · show wm_kept (imM c i) (230 * i + ofR r + j) = c.1 r j
    rw [imT_kept, paT_at _ _ r hr j hj]
    exact congrFun (lt11 (P := fun r => (im0 c i true).1 r = c.1 r) rfl rfl rfl rfl rfl rfl rfl rfl rfl rfl rfl r hr) j
  · show wm_keptKnown (imM c i) (6 * i + m) = wm_knows c m
    rw [imT_kk, ovr_in hm]
  · show wm_kept (imM c i) (230 * i + v) = c.2.2 v
    rw [imT_kept, paT_v _ _ v hv]
    have : v = 0 ∨ v = 1 ∨ v = 2 := by omega
    rcases this with rfl | rfl | rfl <;> rfl
theorem imT_vwo (c : Mod) {i i2 : Nat} (h : i2 ≠ i) : agM (vwM (imM c i) i2) (vwM c i2) := by
  refine ⟨fun r j hr hj => ?_, fun m hm => ?_, fun v hv => ?_⟩
  · have hs := szR_of r hr
    show wm_kept (imM c i) (230 * i2 + ofR r + j) = wm_kept c (230 * i2 + ofR r + j)
    rw [imT_kept, paT_out _ _ (by omega)]
    rfl
  · show wm_keptKnown (imM c i) (6 * i2 + m) = wm_keptKnown c (6 * i2 + m)
    rw [imT_kk, ovr_out (by omega)]
  · show wm_kept (imM c i) (230 * i2 + v) = wm_kept c (230 * i2 + v)
    rw [imT_kept, paT_out _ _ (by omega)]
    rfl
