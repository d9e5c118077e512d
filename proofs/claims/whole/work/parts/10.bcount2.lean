/-! COUNT OF BITS OF A LONG -/
theorem p_8b (N : Nat) : pA 6148914691236517205 3689348814741910323 1085102592571150095 N = pop8 (N % 256) + 256 * (pop8 (N / 256 % 256) + 256 * (pop8 (N / 256 / 256 % 256) + 256 * (pop8 (N / 256 / 256 / 256 % 256) + 256 * (pop8 (N / 256 / 256 / 256 / 256 % 256) + 256 * (pop8 (N / 256 / 256 / 256 / 256 / 256 % 256) + 256 * (pop8 (N / 256 / 256 / 256 / 256 / 256 / 256 % 256) + 256 * (pop8 (N / 256 / 256 / 256 / 256 / 256 / 256 / 256 % 256) + 256 * pA 0 0 0 (N / 256 / 256 / 256 / 256 / 256 / 256 / 256 / 256)))))))) := by
  rw [← p_s 0 0 0 _ (by decide), ← p_s _ _ _ _ (by decide), ← p_s _ _ _ _ (by decide), ← p_s _ _ _ _ (by decide), ← p_s _ _ _ _ (by decide), ← p_s _ _ _ _ (by decide), ← p_s _ _ _ _ (by decide), ← p_s _ _ _ _ (by decide)]
theorem kb_lN {N j : Nat} (hj : j < 64) : kb (lN N) j = N.testBit j := by
  unfold kb
  show (BitVec.ofNat 64 N).getLsbD j = _
  rw [BitVec.getLsbD_ofNat, decide_eq_true hj, Bool.true_and]
theorem lN_ad (a b : Nat) : lN a + lN b = lN (a + b) := (Int64.ofNat_add a b).symm
theorem lN_sb {a b : Nat} (h : b ≤ a) : lN a - lN b = lN (a - b) := by
  have e : lN a = lN (a - b) + lN b := by rw [lN_ad, Nat.sub_add_cancel h]
  rw [e, Int64.add_sub_cancel]
theorem dv_b (a b W : Nat) (h : a < b) : (a + b * W) / b = W := by
  rw [Nat.add_mul_div_left _ _ (by omega), Nat.div_eq_of_lt h, Nat.zero_add]
theorem v_b (p0 p1 p2 V W1 W2 W3 : Nat) (e2 : W2 = p2 + 256 * W3) (e1 : W1 = p1 + 256 * W2) (eV : V = p0 + 256 * W1) : V + W1 = p0 + p1 + 256 * (p1 + p2) + 65536 * (W2 + W3) := by omega
theorem v_c (p0 p1 p2 p3 p4 p5 p6 p7 V W1 W2 W3 W4 W5 W6 : Nat) (e6 : W6 = p6 + 256 * p7) (e5 : W5 = p5 + 256 * W6) (e4 : W4 = p4 + 256 * W5) (e3 : W3 = p3 + 256 * W4) (e2 : W2 = p2 + 256 * W3) (e1 : W1 = p1 + 256 * W2) (eV : V = p0 + 256 * W1) : V + W1 + (W2 + W3) = (p0 + p1 + p2 + p3 + 256 * (p1 + p2 + p3 + p4) + 65536 * (p2 + p3 + p4 + p5) + 16777216 * (p3 + p4 + p5 + p6)) + 4294967296 * (W4 + W5 + W6 + p7) := by
  subst eV e1 e2 e3 e4 e5 e6
  omega
theorem v_t (p0 p1 p2 p3 p4 p5 p6 p7 V W1 W2 W3 W4 W5 W6 : Nat) (e6 : W6 = p6 + 256 * p7) (e5 : W5 = p5 + 256 * W6) (e4 : W4 = p4 + 256 * W5) (e3 : W3 = p3 + 256 * W4) (e2 : W2 = p2 + 256 * W3) (e1 : W1 = p1 + 256 * W2) (eV : V = p0 + 256 * W1) : V + W1 + (W2 + W3) + (W4 + W5 + W6 + p7) = (p0 + (p1 + (p2 + (p3 + (p4 + (p5 + (p6 + p7))))))) + 128 * (2 * (W1 + W2 + W3 + W4 + W5 + W6 + p7)) := by omega
theorem v_l1 (p0 p1 p2 : Nat) (a0 : p0 ≤ 8) (a1 : p1 ≤ 8) (a2 : p2 ≤ 8) : p0 + p1 + 256 * (p1 + p2) < 65536 := by omega
theorem v_l2 (p0 p1 p2 p3 p4 p5 p6 : Nat) (a0 : p0 ≤ 8) (a1 : p1 ≤ 8) (a2 : p2 ≤ 8) (a3 : p3 ≤ 8) (a4 : p4 ≤ 8) (a5 : p5 ≤ 8) (a6 : p6 ≤ 8) : p0 + p1 + p2 + p3 + 256 * (p1 + p2 + p3 + p4) + 65536 * (p2 + p3 + p4 + p5) + 16777216 * (p3 + p4 + p5 + p6) < 4294967296 := by omega
theorem v_8 (p0 p1 p2 p3 p4 p5 p6 p7 : Nat) (a0 : p0 ≤ 8) (a1 : p1 ≤ 8) (a2 : p2 ≤ 8) (a3 : p3 ≤ 8) (a4 : p4 ≤ 8) (a5 : p5 ≤ 8) (a6 : p6 ≤ 8) (V y z W1 W2 W3 W4 W5 W6 : Nat) (e6 : W6 = p6 + 256 * p7) (e5 : W5 = p5 + 256 * W6) (e4 : W4 = p4 + 256 * W5) (e3 : W3 = p3 + 256 * W4) (e2 : W2 = p2 + 256 * W3) (e1 : W1 = p1 + 256 * W2) (eV : V = p0 + 256 * W1) (ey : y = V + V / 256) (ez : z = y + y / 65536) : (z + z / 4294967296) % 128 = (p0 + (p1 + (p2 + (p3 + (p4 + (p5 + (p6 + p7))))))) % 128 := by
  have l0 : p0 < 256 := Nat.lt_of_le_of_lt a0 (by decide)
  have l1 : p0 + p1 + 256 * (p1 + p2) < 65536 := v_l1 _ _ _ a0 a1 a2
  have l2 : p0 + p1 + p2 + p3 + 256 * (p1 + p2 + p3 + p4) + 65536 * (p2 + p3 + p4 + p5) + 16777216 * (p3 + p4 + p5 + p6) < 4294967296 := v_l2 _ _ _ _ _ _ _ a0 a1 a2 a3 a4 a5 a6
  have d1 : V / 256 = W1 := by rw [eV]; exact dv_b _ _ _ l0
  rw [d1] at ey
  have d2 : y / 65536 = W2 + W3 := by rw [ey, v_b p0 p1 p2 V W1 W2 W3 e2 e1 eV]; exact dv_b _ _ _ l1
  rw [d2, ey] at ez
  have d3 : z / 4294967296 = W4 + W5 + W6 + p7 := by rw [ez, v_c p0 p1 p2 p3 p4 p5 p6 p7 V W1 W2 W3 W4 W5 W6 e6 e5 e4 e3 e2 e1 eV]; exact dv_b _ _ _ l2
  rw [d3, ez, v_t p0 p1 p2 p3 p4 p5 p6 p7 V W1 W2 W3 W4 W5 W6 e6 e5 e4 e3 e2 e1 eV, Nat.add_mul_mod_self_left]
theorem bc_64 (N : Nat) (V y z : Nat) (eV : V = pA 6148914691236517205 3689348814741910323 1085102592571150095 N) (ey : y = V + V / 256) (ez : z = y + y / 65536) : (z + z / 4294967296) % 128 = cnt (kb (lN N)) 64 := by
  have e : cnt (kb (lN N)) 64 = cnt (fun i => N.testBit i) (8 + (8 + (8 + (8 + (8 + (8 + (8 + (8 + 0)))))))) := cnt_cong (fun j hj => kb_lN hj)
  rw [e, cnt_by, cnt_by, cnt_by, cnt_by, cnt_by, cnt_by, cnt_by, cnt_by]
  rw [p_8b, pA_0] at eV
  have q : ∀ n, pop8 (n % 256) ≤ 8 := fun n => (q_3 _ (Nat.mod_lt _ (by decide))).2.2.2
  refine (v_8 _ _ _ _ _ _ _ _ (q _) (q _) (q _) (q _) (q _) (q _) (q _) V y z _ _ _ _ _ _ rfl rfl rfl rfl rfl rfl eV ey ez).trans (Nat.mod_eq_of_lt ?_)
  have b0 := q N
  have b1 := q (N / 256)
  have b2 := q (N / 256 / 256)
  have b3 := q (N / 256 / 256 / 256)
  have b4 := q (N / 256 / 256 / 256 / 256)
  have b5 := q (N / 256 / 256 / 256 / 256 / 256)
  have b6 := q (N / 256 / 256 / 256 / 256 / 256 / 256)
  have b7 := q (N / 256 / 256 / 256 / 256 / 256 / 256 / 256)
  clear eV ey ez e
  exact Nat.lt_of_le_of_lt (Nat.add_le_add b0 (Nat.add_le_add b1 (Nat.add_le_add b2 (Nat.add_le_add b3 (Nat.add_le_add b4 (Nat.add_le_add b5 (Nat.add_le_add b6 b7))))))) (by decide)
