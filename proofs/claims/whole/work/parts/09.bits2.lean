/-! bits of a long and of an int by their places; sums and counts -/
def kb (x : Int64) (j : Nat) : Bool := x.toBitVec.getLsbD j
theorem and1L (y : Int64) : (y &&& 1 = 1) ↔ y.toBitVec.getLsbD 0 = true := by
  rw [← Int64.toBitVec_inj, Int64.toBitVec_and]
  show y.toBitVec &&& 1#64 = 1#64 ↔ _
  rw [BitVec.and_one_eq_setWidth_ofBool_getLsbD]
  cases y.toBitVec.getLsbD 0 <;> decide
theorem and1I (y : Int32) : (y &&& 1 = 1) ↔ y.toBitVec.getLsbD 0 = true := by
  rw [← Int32.toBitVec_inj, Int32.toBitVec_and]
  show y.toBitVec &&& 1#32 = 1#32 ↔ _
  rw [BitVec.and_one_eq_setWidth_ofBool_getLsbD]
  cases y.toBitVec.getLsbD 0 <;> decide
theorem kb_u (x : Int64) {j : Nat} (hj : j < 64) : ((x.toUInt64 >>> ((nI j).toInt64.toUInt64 &&& Int64.toUInt64 63)).toInt64 &&& 1 = 1) ↔ kb x j = true := by
  rw [and1L, wb_cu j hj]
  have e : (x.toUInt64 >>> UInt64.ofNat j).toInt64.toBitVec = x.toBitVec >>> j := by
    apply BitVec.eq_of_toNat_eq
    show (x.toUInt64 >>> UInt64.ofNat j).toNat = _
    rw [UInt64.toNat_shiftRight, u_tn (by omega), Nat.mod_eq_of_lt hj, BitVec.toNat_ushiftRight]
    rfl
  rw [e, BitVec.getLsbD_ushiftRight, Nat.add_zero]
  rfl
theorem kb_s (x : Int64) {j : Nat} (hj : j < 64) : (x >>> ((nI j).toInt64 &&& 63) &&& 1 = 1) ↔ kb x j = true := by
  rw [and1L, wb_c j hj, Int64.toBitVec_shiftRight]
  show (x.toBitVec.sshiftRight ((lN j).toBitVec.smod 64).toNat).getLsbD 0 = true ↔ _
  rw [wb_tb, wb_sm j hj, BitVec.getLsbD_sshiftRight, BitVec.toNat_ofNat, Nat.mod_eq_of_lt (by omega)]
  simp [hj, kb]
theorem ib_s (x : Int32) {j : Nat} (hj : j < 32) : (x >>> (nI j &&& 31) &&& 1 = 1) ↔ bt x j = true := by
  rw [and1I]
  have := b_sshr j hj x (i := 0) (by decide)
  unfold bt at this ⊢
  rw [this, Nat.add_zero, if_pos hj]
theorem sh_bv : ∀ j, j < 64 → ((1 : Int64) <<< ((nI j).toInt64 &&& 63)).toBitVec = BitVec.twoPow 64 j := by decide +kernel
def bL (j : Nat) : Int64 := (1 : Int64) <<< ((nI j).toInt64 &&& 63)
def bW (j : Nat) : Int32 := (1 : Int32) <<< (nI j &&& 31)
theorem kb_or (x : Int64) {i j : Nat} (hj : j < 64) (hi : i < 64) : kb (x ||| bL j) i = (kb x i || decide (i = j)) := by
  unfold kb bL
  rw [Int64.toBitVec_or, sh_bv j hj, BitVec.getLsbD_or, BitVec.getLsbD_twoPow]
  simp [hj, eq_comm]
theorem kb_clr (x : Int64) {i j : Nat} (hj : j < 64) (hi : i < 64) : kb (x &&& (bL j ^^^ (-1))) i = (kb x i && !decide (i = j)) := by
  unfold kb bL
  rw [Int64.toBitVec_and, Int64.toBitVec_xor, sh_bv j hj, BitVec.getLsbD_and, BitVec.getLsbD_xor, BitVec.getLsbD_twoPow]
  have : (Int64.toBitVec (-1)).getLsbD i = true := by
    show (BitVec.allOnes 64).getLsbD i = true
    rw [BitVec.getLsbD_allOnes]
    simp [hi]
  rw [this]
  simp [hj, eq_comm]
theorem ib_or (x : Int32) {i j : Nat} (hj : j < 32) : bt (x ||| bW j) i = (bt x i || decide (i = j)) := by
  unfold bt bW
  rw [Int32.toBitVec_or, nf_sh j hj, BitVec.getLsbD_or, BitVec.getLsbD_twoPow]
  simp [hj, eq_comm]
theorem ib_xor (x : Int32) {i j : Nat} (hj : j < 32) : bt (x ^^^ bW j) i = (bt x i ^^ decide (i = j)) := by
  unfold bt bW
  rw [Int32.toBitVec_xor, nf_sh j hj, BitVec.getLsbD_xor, BitVec.getLsbD_twoPow]
  simp [hj, eq_comm]
theorem ib_clr (x : Int32) {i j : Nat} (hj : j < 32) (hi : i < 32) : bt (x &&& (bW j ^^^ (-1))) i = (bt x i && !decide (i = j)) := by
  unfold bW
  rw [b_and, b_xor]
  unfold bt
  rw [nf_sh j hj, BitVec.getLsbD_twoPow]
  have : (Int32.toBitVec (-1)).getLsbD i = true := b_m1 i hi
  rw [this]
  simp [hj, eq_comm]
theorem kb_ext {x y : Int64} (h : ∀ i, i < 64 → kb x i = kb y i) : x = y := wb_inj (BitVec.eq_of_getLsbD_eq (fun i hi => h i hi))
theorem kb_0 (i : Nat) : kb 0 i = false := by simp [kb]
def isum (f : Nat → Int32) : Nat → Int32
  | 0 => 0
  | n + 1 => isum f n + f n
theorem isum_cong {f g : Nat → Int32} : ∀ {n : Nat}, (∀ j, j < n → f j = g j) → isum f n = isum g n
  | 0, _ => rfl
  | n + 1, h => by rw [isum, isum, isum_cong (fun j hj => h j (by omega)), h n (by omega)]
def lsum (f : Nat → Int64) : Nat → Int64
  | 0 => 0
  | n + 1 => lsum f n + f n
theorem lsum_cong {f g : Nat → Int64} : ∀ {n : Nat}, (∀ j, j < n → f j = g j) → lsum f n = lsum g n
  | 0, _ => rfl
  | n + 1, h => by rw [lsum, lsum, lsum_cong (fun j hj => h j (by omega)), h n (by omega)]
def cnt (p : Nat → Bool) : Nat → Nat
  | 0 => 0
  | n + 1 => cnt p n + (if p n then 1 else 0)
theorem cnt_cong {p q : Nat → Bool} : ∀ {n : Nat}, (∀ j, j < n → p j = q j) → cnt p n = cnt q n
  | 0, _ => rfl
  | n + 1, h => by rw [cnt, cnt, cnt_cong (fun j hj => h j (by omega)), h n (by omega)]
theorem cnt_le (p : Nat → Bool) : ∀ n, cnt p n ≤ n
  | 0 => Nat.le_refl _
  | n + 1 => by
    have := cnt_le p n
    rw [cnt]
    split <;> omega
theorem WW.L {q : MI} {pc : Nat} {L L' st : List Value} {h h' : Wd} {r : Option Value} (k : WW q pc L' st h r h') (e : L = L') : WW q pc L st h r h' := e ▸ k
theorem WW.st {q : MI} {pc : Nat} {L st st' : List Value} {h h' : Wd} {r : Option Value} (k : WW q pc L st' h r h') (e : st = st') : WW q pc L st h r h' := e ▸ k
theorem WW.w {q : MI} {pc : Nat} {L st : List Value} {h g h' : Wd} {r : Option Value} (k : WW q pc L st g r h') (e : h = g) : WW q pc L st h r h' := e ▸ k
theorem WW.r {q : MI} {pc : Nat} {L st : List Value} {h h' : Wd} {r r' : Option Value} (k : WW q pc L st h r' h') (e : r = r') : WW q pc L st h r h' := e ▸ k
