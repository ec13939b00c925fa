/-! ===== Int32 by its bits: bt x i ===== -/
def bt (x : Int32) (i : Nat) : Bool := x.toBitVec.getLsbD i
theorem b_ext {x y : Int32} (h : ∀ i, i < 32 → bt x i = bt y i) : x = y := Int32.toBitVec_inj.mp (BitVec.eq_of_getLsbD_eq (fun i hi => h i hi))
theorem b_or (x y : Int32) (i : Nat) : bt (x ||| y) i = (bt x i || bt y i) := by unfold bt; rw [Int32.toBitVec_or, BitVec.getLsbD_or]
theorem b_and (x y : Int32) (i : Nat) : bt (x &&& y) i = (bt x i && bt y i) := by unfold bt; rw [Int32.toBitVec_and, BitVec.getLsbD_and]
theorem b_xor (x y : Int32) (i : Nat) : bt (x ^^^ y) i = (bt x i ^^ bt y i) := by unfold bt; rw [Int32.toBitVec_xor, BitVec.getLsbD_xor]
theorem b_big {x : Int32} {i : Nat} (h : 32 ≤ i) : bt x i = false := BitVec.getLsbD_of_ge _ _ h
theorem b_m1 : ∀ i, i < 32 → bt (-1) i = true := by decide +kernel
theorem b_0 (i : Nat) : bt 0 i = false := BitVec.getLsbD_zero
theorem s_l : ∀ n, n < 32 → ((nI n &&& 31).toBitVec.smod 32).toNat = n := by decide +kernel
theorem s_u : ∀ n, n < 32 → (((nI n).toUInt32 &&& Int32.toUInt32 31).toBitVec % 32).toNat = n := by decide +kernel
theorem b_shl (n : Nat) (hn : n < 32) (x : Int32) {i : Nat} (hi : i < 32) : bt (x <<< (nI n &&& 31)) i = (decide (n ≤ i) && bt x (i - n)) := by
  unfold bt
  rw [Int32.toBitVec_shiftLeft]
  show (x.toBitVec <<< ((nI n &&& 31).toBitVec.smod 32).toNat).getLsbD i = _
  rw [s_l n hn, BitVec.getLsbD_shiftLeft]
  rcases Nat.lt_or_ge i n with h | h
  · simp [h, Nat.not_le.mpr h]
  · simp [hi, h, Nat.not_lt.mpr h]
theorem b_ushr (n : Nat) (hn : n < 32) (x : Int32) (i : Nat) : bt ((x.toUInt32 >>> ((nI n).toUInt32 &&& Int32.toUInt32 31)).toInt32) i = bt x (n + i) := by
  show (x.toUInt32 >>> ((nI n).toUInt32 &&& Int32.toUInt32 31)).toBitVec.getLsbD i = x.toUInt32.toBitVec.getLsbD (n + i)
  rw [UInt32.toBitVec_shiftRight]
  show (x.toUInt32.toBitVec >>> (((nI n).toUInt32 &&& Int32.toUInt32 31).toBitVec % 32).toNat).getLsbD i = _
  rw [s_u n hn, BitVec.getLsbD_ushiftRight]
theorem b_sshr (n : Nat) (hn : n < 32) (x : Int32) {i : Nat} (hi : i < 32) : bt (x >>> (nI n &&& 31)) i = if n + i < 32 then bt x (n + i) else bt x 31 := by
  unfold bt
  rw [Int32.toBitVec_shiftRight]
  show (x.toBitVec.sshiftRight ((nI n &&& 31).toBitVec.smod 32).toNat).getLsbD i = _
  rw [s_l n hn, BitVec.getLsbD_sshiftRight, BitVec.msb_eq_getLsbD_last]
  simp [hi]
theorem b_1 : ∀ i, i < 32 → bt 1 i = decide (i = 0) := by decide +kernel
theorem b_bI (b : Bool) {j : Nat} (hj : j < 32) : bt (bI b) j = (b && decide (j = 0)) := by
  cases b
  · simp [bI, b_0]
  · simp [bI, b_1 j hj]
theorem m_ushr (x : Int32) {i : Nat} (hi : i < 32) : ((x.toUInt32 >>> ((nI i).toUInt32 &&& Int32.toUInt32 31)).toInt32 &&& 1) = bI (bt x i) := by
  apply b_ext
  intro j hj
  rw [b_and, b_ushr i hi, b_1 j hj, b_bI _ hj]
  by_cases h : j = 0
  · subst h
    rfl
  · simp [h]
theorem m_sshr (x : Int32) {i : Nat} (hi : i < 32) : ((x >>> (nI i &&& 31)) &&& 1) = bI (bt x i) := by
  apply b_ext
  intro j hj
  rw [b_and, b_sshr i hi x hj, b_1 j hj, b_bI _ hj]
  by_cases h : j = 0
  · subst h
    simp [hi]
  · simp [h]
/-- a number between two bounds -/
def pIn (x l g : Int32) : Bool := decide (l ≤ x) && decide (x ≤ g)
/-! docks, as pure values -/
def dHas (co x : Int32) : Bool := decide (0 ≤ x) && decide (x < co) && decide (x < 16)
def dRoom (co : Int32) : Bool := decide (0 ≤ co) && decide (co < 16)
def bit (x : Int32) : Int32 := (1 : Int32) <<< (x &&& 31)
def dLow (co : Int32) (Hp : Nat → Int32) (x : Int32) : Bool := dHas co x && decide (¬ Hp x.toNatClampNeg ≤ (-50 : Int32))
def dState (sg cr : Int32) (i : Nat) : Int32 := if bt sg i = true then 0 else if bt cr i = true then 2 else 1
theorem x_nat {x : Int32} (h : 0 ≤ x) : x = nI x.toNatClampNeg := by
  have h2 : ¬ x < 0 := by
    rw [Int32.lt_iff_toInt_lt]
    rw [Int32.le_iff_toInt_le] at h
    omega
  obtain ⟨j, hj, rfl⟩ := nI_of h2
  rw [nI_clamp hj]
theorem x_lt {x : Int32} {n : Nat} (h : 0 ≤ x) (hn : n < 2 ^ 31) (h2 : x < nI n) : x.toNatClampNeg < n := by
  have h3 : ¬ x < 0 := by
    rw [Int32.lt_iff_toInt_lt]
    rw [Int32.le_iff_toInt_le] at h
    omega
  obtain ⟨j, hj, rfl⟩ := nI_of h3
  rw [nI_clamp hj]
  exact (nI_ltI hj hn).mp h2
theorem dHas_i {co x : Int32} (h : dHas co x = true) : x = nI x.toNatClampNeg ∧ x.toNatClampNeg < 16 := by
  simp only [dHas, Bool.and_eq_true, decide_eq_true_eq] at h
  exact ⟨x_nat h.1.1, x_lt (n := 16) h.1.1 (by decide) h.2⟩
theorem dRoom_i {co : Int32} (h : dRoom co = true) : co = nI co.toNatClampNeg ∧ co.toNatClampNeg < 16 := by
  simp only [dRoom, Bool.and_eq_true, decide_eq_true_eq] at h
  exact ⟨x_nat h.1, x_lt (n := 16) h.1 (by decide) h.2⟩
theorem dRoom_of {co : Int32} (h1 : 0 ≤ co) (h2 : co < 16) : dRoom co = true := by simp [dRoom, h1, h2]
theorem dRoom_T {co : Int32} (h : dRoom co = true) : (0 ≤ co) ∧ co < 16 := by simpa [dRoom] using h

