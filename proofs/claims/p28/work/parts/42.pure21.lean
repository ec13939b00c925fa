/-- the class's world, in the words of a page: a dock, its balance, a trial, the history and its docks, the text and its reader -/
def kW (D : KD) (x a b a2 b2 g tt rr : Nat → Nat) (k0 : Nat) (oa0 : Nat → Nat → Nat) (m : Nat → Int32) (n : Nat) (sv : Nat → Int32) (s : Nat) (tx : Nat → Int32) (t : Nat) (w1 : va_W) : Prop :=
  ∃ (we ce co sg cr : Int32) (Pp Kp Hp Lp Sp : Nat → Int32) (cu : Nat → Int64) (we2 ce2 co2 sg2 cr2 : Int32) (Pp2 Kp2 Hp2 Lp2 Sp2 : Nat → Int32) (sd2 rd2 be2 ov2 : Int32) (qa2 qb2 qd2 : Int64) (lo2 : Nat → Int32) (cu2 : Nat → Int64) (po er : Int32) (nw k : Nat) (oa : Nat → Nat → Nat) (f : Nat → Dk), KR we ce co sg cr Pp Kp Hp Lp Sp m n ∧ HR nw s k f sv ∧ t ≤ 160 ∧ k0 ≤ k ∧ (∀ j, j < k0 → oa j = oa0 j) ∧ w1 = ((wKb D x (a 0) (b 0) (a2 0) (b2 0) (g 0) (tt 0) (rr 0) ++ (wDo D a we ce co sg cr Pp Kp Hp Lp Sp ++ (wBa D b (bI (mR m n).1) (nI (mR m n).2.1) (mBe m n) (mOv m n) ((mR m n).2.2.2.1) ((mR m n).2.2.2.2.1) ((mR m n).2.2.2.2.2) (mLo m n) cu ++ (wDo D a2 we2 ce2 co2 sg2 cr2 Pp2 Kp2 Hp2 Lp2 Sp2 ++ (wBa D b2 sd2 rd2 be2 ov2 qa2 qb2 qd2 lo2 cu2 ++ (wHi D g (nI s) (nI nw) (slF oa k) ++ (wTx D tt (nI t) tx ++ (wRd D rr (tt 0) po er)))))))) ++ (wPl D oa f k))

theorem KR_at {we ce co sg cr : Int32} {P K H L S m : Nat → Int32} {n : Nat} (h : KR we ce co sg cr P K H L S m n) (i : Nat) (hi : i < n) : P i = mP m i ∧ K i = mK m i ∧ H i = mH m i ∧ L i = mL m i ∧ S i = mS m i := h.2.2.2.2.2.2.2.2 i hi
theorem KR_stt {we ce co sg cr : Int32} {P K H L S m : Nat → Int32} {n : Nat} (h : KR we ce co sg cr P K H L S m n) (i : Nat) (hi : i < n) : dState sg cr i = mT m i := by
  unfold dState
  rw [KR_sg h i hi, KR_cr h i hi]
  rcases ((KR_V h).2.2 i hi).2.2.2.2 with e | e | e <;> rw [e] <;> decide
/-- the answers of the present balance, in the reference's words -/
theorem be_bt {m : Nat → Int32} {n i : Nat} : bt (mBe m n) i = ((mR m n).1 && bt (mR m n).2.2.1 i) := by
  unfold mBe
  cases (mR m n).1 with
  | true => rfl
  | false => exact b_0 i
theorem ov_bt {m : Nat → Int32} {n i : Nat} (hn : n ≤ 16) (hi : i < n) : bt (mOv m n) i = ((mR m n).1 && decide (mL m i < mLo m n i)) := by
  rw [Bool.eq_iff_iff]
  exact ovb_bt n (by omega) i hi
theorem be_cnt {m : Nat → Int32} {n : Nat} : cntI (mBe m n) 16 = if (mR m n).1 = true then cntI (mR m n).2.2.1 16 else 0 := by
  unfold mBe
  split
  · rfl
  · decide
/-- numbers of few bits -/
theorem sb_nat {x : Int32} (h : sbH 16 x) : ∃ v, v < 65536 ∧ x = nI v := by
  have h31 : bt x 31 = false := h 31 (by omega) (by omega)
  refine ⟨x.toBitVec.toNat, ?_, ?_⟩
  · have e : x.toBitVec.toNat = x.toBitVec.toNat % 2 ^ 16 := by
      apply Nat.eq_of_testBit_eq
      intro i
      rw [Nat.testBit_mod_two_pow]
      by_cases hi : i < 16
      · simp [hi]
      · simp only [hi, decide_false, Bool.false_and]
        by_cases hi2 : i < 32
        · exact h i (by omega) hi2
        · exact b_big (x := x) (by omega)
    have := Nat.mod_lt x.toBitVec.toNat (show 0 < 2 ^ 16 by decide)
    omega
  · apply Int32.toBitVec_inj.mp
    show x.toBitVec = BitVec.ofNat 32 x.toBitVec.toNat
    rw [BitVec.ofNat_toNat, BitVec.setWidth_eq]
theorem sb_be {m : Nat → Int32} {n : Nat} (hn : n ≤ 16) : sbH 16 (mBe m n) := by
  intro j h1 h2
  rw [be_bt]
  cases hR : (mR m n).1 with
  | true => rw [mR_hi hn hR j (by omega) h2]; rfl
  | false => rfl
theorem sb_ov {m : Nat → Int32} {n : Nat} (hn : n ≤ 16) : sbH 16 (mOv m n) := fun j h1 h2 => ovb_hi n (by omega) j (by omega) h2
theorem sb_st {we ce co sg cr : Int32} {P K H L S m : Nat → Int32} {n : Nat} (h : KR we ce co sg cr P K H L S m n) : sbH 16 sg := by
  obtain ⟨h1, h2, h3, h4, h5, h6, h7, h8, h9⟩ := h
  intro j a b
  rw [h6]
  exact stb_hi n (by omega) j (by omega) b
/-- the count of a set with a part of it out -/
theorem cnt_sub {x y : Int32} : ∀ k, k ≤ 32 → (∀ i, i < k → bt y i = true → bt x i = true) → cntI x k = cntI (x &&& (y ^^^ (-1))) k + cntI y k
  | 0, _, _ => by
    show (0 : Int32) = 0 + 0
    decide
  | k + 1, hk, h => by
    have ih := cnt_sub (x := x) (y := y) k (by omega) (fun i hi => h i (by omega))
    have e : bI (bt x k) = bI (bt (x &&& (y ^^^ (-1))) k) + bI (bt y k) := by
      rw [b_and, b_not _ (by omega)]
      have hk' := h k (by omega)
      revert hk'
      cases bt x k <;> cases bt y k <;> intro hk' <;> first | decide | exact absurd (hk' rfl) (by decide)
    rw [cntI, cntI, cntI, ih, e]
    rw [Int32.add_assoc, Int32.add_assoc]
    congr 1
    rw [← Int32.add_assoc, Int32.add_comm (cntI y k), Int32.add_assoc]
theorem stb_crk {m : Nat → Int32} {x : Int32} {n : Nat} (hn : n ≤ 16) (hx : ∀ j, n ≤ j → j < 32 → bt x j = false) : stb (mT (crk m x n)) 0 n = stb (mT m) 0 n &&& (x ^^^ (-1)) := by
  symm
  refine stb_x (by omega) (fun j hj => ?_)
  rw [b_and, b_not _ hj, stb_at (by omega) j hj, crk_T]
  by_cases e : j < n
  · by_cases hb : bt x j = true
    · rw [if_pos ⟨e, hb⟩, hb]
      simp
    · rw [if_neg (fun z => hb z.2)]
      simp [show bt x j = false by simpa using hb]
  · rw [decide_eq_false e]
    simp
theorem fal_val {n : Nat} : ∀ (f : Nat) (m : Nat → Int32) (s c : Int32), mVal m n → mVal (fal n f m s c).1 n
  | 0, _, _, _, h => h
  | f + 1, m, s, c, h => by
    by_cases h0 : mOv m n = 0
    · rw [fal_0 h0]; exact h
    · rw [fal_s h0]
      exact fal_val f _ _ _ (crk_val h _ _)
theorem fal_cnt {n : Nat} (hn : n ≤ 16) : ∀ (f : Nat) (m : Nat → Int32) (s c : Int32), mVal m n → cntI (stb (mT m) 0 n) 16 + c = cntI (stb (mT (fal n f m s c).1) 0 n) 16 + (fal n f m s c).2.2
  | 0, _, _, _, _ => rfl
  | f + 1, m, s, c, hV => by
    by_cases h0 : mOv m n = 0
    · rw [fal_0 h0]
    · rw [fal_s h0, ← fal_cnt hn f _ _ _ (crk_val hV _ _), stb_crk (m := m) (x := mOv m n) hn (ovb_hi n (by omega))]
      rw [cnt_sub (x := stb (mT m) 0 n) (y := mOv m n) 16 (by omega) (fun i hi hb => ?_)]
      · rw [Int32.add_assoc, Int32.add_comm (cntI (mOv m n) 16)]
      · have hin : i < n := Nat.lt_of_not_le fun z => by
          rw [show bt (mOv m n) i = false from ovb_hi n (by omega) i z (by omega)] at hb
          cases hb
        rw [stb_at (by omega) i (by omega), decide_eq_true hin, (ov_st hn hV hin hb).2.2.1]
        rfl
theorem fal_crush {n : Nat} (hn : n ≤ 16) (m : Nat → Int32) (hV : mVal m n) : cntI (stb (mT m) 0 n) 16 - cntI (stb (mT (fal n 16 m 0 0).1) 0 n) 16 = (fal n 16 m 0 0).2.2 := by
  have h := fal_cnt hn 16 m 0 0 hV
  rw [Int32.add_zero] at h
  rw [h, Int32.add_comm, Int32.add_sub_cancel]
theorem KR_T {we ce co sg cr : Int32} {P K H L S m : Nat → Int32} {n : Nat} (h : KR we ce co sg cr P K H L S m n) : sg = stb (mT m) 0 n := h.2.2.2.2.2.1
theorem dn1000 : ∀ k, k < 100 → nI (1000 * (k + 1)) + (-1000 : Int32) = nI (1000 * k) := by decide +kernel
theorem kPut_app : ∀ (B P Q B' : va_W) (is : List Nat) (cs : va_W), B'.length = B.length → kPut (P ++ (B ++ Q)) (rng P.length B.length ++ is) (B' ++ cs) = kPut (P ++ (B' ++ Q)) is cs
  | [], P, Q, B', is, cs, h => by
    obtain rfl : B' = [] := List.length_eq_zero_iff.mp h
    rfl
  | c :: B, P, Q, B', is, cs, h => by
    cases B' with
    | nil => simp at h
    | cons c1 B1 =>
      show kPut (P ++ (c :: B ++ Q)) (rng P.length (B.length + 1) ++ is) (c1 :: (B1 ++ cs)) = _
      rw [rng_s]
      show kPut (P ++ (c :: B ++ Q)) (P.length :: (rng (P.length + 1) B.length ++ is)) (c1 :: (B1 ++ cs)) = _
      rw [kPut]
      have h1 : (P ++ (c :: B ++ Q)).set P.length c1 = (P ++ [c1]) ++ (B ++ Q) := by
        rw [List.set_append_right _ _ (Nat.le_refl _), Nat.sub_self]
        simp
      rw [h1]
      have h2 := kPut_app B (P ++ [c1]) Q B1 is cs (by simpa using h)
      rw [List.length_append] at h2
      exact h2.trans (by simp)
theorem kPut_blk {W W' P B B' Q : va_W} {is js : List Nat} {cs : va_W} {p q : Nat} (hW : W = P ++ (B ++ Q)) (hW' : P ++ (B' ++ Q) = W') (hp : P.length = p) (hq : B.length = q) (hl : B'.length = B.length) (hi : js = rng p q ++ is) : kPut W js (B' ++ cs) = kPut W' is cs := by
  subst hp hq hi hW hW'
  exact kPut_app B P Q B' is cs hl
theorem j_ldcw {D : KD} {X : KX} {cc : ByteArray} {own : String} {Ts : List Cond} {fr lo mc ms nL : Nat} {w : va_W} {k n pc : Nat} {lv : List (Nat × Value)} {st : List Value} (C : Cx D X cc own Ts fr lo mc ms nL) {idx : Nat} {v : Int32} (hm : Cond.constant own idx v ∈ Ts) (hd : decode cc pc = .ok (.ldc_w idx, 3)) (kk : J D X w k n (pc + 3) lv (.int v :: st)) : J D X w k n pc lv st := fun H locs ls hP hD hS hl => lv_ldcw C.hx C.hb C.hown (C.hts _ hm) hd (kk H locs ls hP hD hS hl)
/-! the JDK's count of bits -/
def bc1 (x : Int32) : Int32 := x - ((x.toUInt32 >>> ((1 : Int32).toUInt32 &&& Int32.toUInt32 31)).toInt32 &&& 1431655765)
def bc2 (x : Int32) : Int32 := (x &&& 858993459) + ((x.toUInt32 >>> ((2 : Int32).toUInt32 &&& Int32.toUInt32 31)).toInt32 &&& 858993459)
def bc3 (x : Int32) : Int32 := (x + (x.toUInt32 >>> ((4 : Int32).toUInt32 &&& Int32.toUInt32 31)).toInt32) &&& 252645135
def bc4 (x : Int32) : Int32 := x + (x.toUInt32 >>> ((8 : Int32).toUInt32 &&& Int32.toUInt32 31)).toInt32
def bc5 (x : Int32) : Int32 := x + (x.toUInt32 >>> ((16 : Int32).toUInt32 &&& Int32.toUInt32 31)).toInt32
def bn1 (x : Nat) : Nat := x - ((x / 2 ^ 1) &&& 1431655765)
def bn2 (x : Nat) : Nat := (x &&& 858993459) + ((x / 2 ^ 2) &&& 858993459)
def bn3 (x : Nat) : Nat := (x + x / 2 ^ 4) &&& 252645135
def bn4 (x : Nat) : Nat := x + x / 2 ^ 8
def bn5 (x : Nat) : Nat := x + x / 2 ^ 16
def cN (v : Nat) : Nat → Nat
  | 0 => 0
  | i + 1 => cN v i + v / 2 ^ i % 2
theorem and_sp {a b c d : Nat} (hb : b < 256) (hd : d < 256) : (256 * a + b) &&& (256 * c + d) = 256 * (a &&& c) + (b &&& d) := by
  have h1 : ((256 * a + b) &&& (256 * c + d)) / 2 ^ 8 = (256 * a + b) / 2 ^ 8 &&& (256 * c + d) / 2 ^ 8 := Nat.and_div_two_pow
  have h2 : ((256 * a + b) &&& (256 * c + d)) % 2 ^ 8 = ((256 * a + b) % 2 ^ 8) &&& ((256 * c + d) % 2 ^ 8) := Nat.and_mod_two_pow
  rw [show (256 * a + b) / 2 ^ 8 = a by omega, show (256 * c + d) / 2 ^ 8 = c by omega] at h1
  rw [show (256 * a + b) % 2 ^ 8 = b by omega, show (256 * c + d) % 2 ^ 8 = d by omega] at h2
  rw [← h1, ← h2]
  omega
theorem m1a : ∀ q, q < 128 → q &&& 5592405 = q &&& 1431655765 := by decide +kernel
theorem m1b : ∀ e, e < 2 → ∀ q, q < 128 → (128 * e + q) &&& 85 = q &&& 1431655765 := by decide +kernel
theorem m2a : ∀ q, q < 256 → q &&& 3355443 = q &&& 858993459 := by decide +kernel
theorem m2b : ∀ q, q < 256 → q &&& 51 = q &&& 858993459 := by decide +kernel
theorem m2c : ∀ e, e < 4 → ∀ q, q < 64 → (64 * e + q) &&& 51 = q &&& 858993459 := by decide +kernel
theorem m3a : ∀ q, q < 256 → q &&& 986895 = q &&& 252645135 := by decide +kernel
theorem m3b : ∀ e, e < 5 → ∀ q, q < 100 → (q + 16 * e) &&& 15 = q &&& 252645135 := by decide +kernel
theorem sp1 {a b : Nat} (ha : a < 256) (hb : b < 256) : bn1 (256 * a + b) = 256 * bn1 a + bn1 b := by
  have e : (256 * a + b) / 2 ^ 1 = 256 * (a / 2 ^ 1) + (128 * (a % 2) + b / 2 ^ 1) := by omega
  have h : (256 * (a / 2 ^ 1) + (128 * (a % 2) + b / 2 ^ 1)) &&& 1431655765 = 256 * ((a / 2 ^ 1) &&& 5592405) + ((128 * (a % 2) + b / 2 ^ 1) &&& 85) := and_sp (c := 5592405) (d := 85) (by omega) (by decide)
  unfold bn1
  rw [e, h, m1a _ (by omega), m1b _ (by omega) _ (by omega)]
  have l1 : (a / 2 ^ 1 &&& 1431655765) ≤ a / 2 ^ 1 := Nat.and_le_left
  have l2 : (b / 2 ^ 1 &&& 1431655765) ≤ b / 2 ^ 1 := Nat.and_le_left
  omega
theorem sp2 {a b : Nat} (ha : a < 256) (hb : b < 256) : bn2 (256 * a + b) = 256 * bn2 a + bn2 b := by
  have e : (256 * a + b) / 2 ^ 2 = 256 * (a / 2 ^ 2) + (64 * (a % 4) + b / 2 ^ 2) := by omega
  have h : (256 * (a / 2 ^ 2) + (64 * (a % 4) + b / 2 ^ 2)) &&& 858993459 = 256 * ((a / 2 ^ 2) &&& 3355443) + ((64 * (a % 4) + b / 2 ^ 2) &&& 51) := and_sp (c := 3355443) (d := 51) (by omega) (by decide)
  have h2 : (256 * a + b) &&& 858993459 = 256 * (a &&& 3355443) + (b &&& 51) := and_sp (c := 3355443) (d := 51) hb (by decide)
  unfold bn2
  rw [e, h, h2, m2a _ (by omega), m2a _ (by omega), m2b _ (by omega), m2c _ (by omega) _ (by omega)]
  omega
theorem sp3 {a b : Nat} (ha : a ≤ 68 ∧ a % 16 ≤ 4) (hb : b ≤ 68) : bn3 (256 * a + b) = 256 * bn3 a + bn3 b := by
  have e : (256 * a + b) + (256 * a + b) / 2 ^ 4 = 256 * (a + a / 2 ^ 4) + ((b + b / 2 ^ 4) + 16 * (a % 16)) := by omega
  have h : (256 * (a + a / 2 ^ 4) + ((b + b / 2 ^ 4) + 16 * (a % 16))) &&& 252645135 = 256 * ((a + a / 2 ^ 4) &&& 986895) + (((b + b / 2 ^ 4) + 16 * (a % 16)) &&& 15) := and_sp (c := 986895) (d := 15) (by omega) (by decide)
  unfold bn3
  rw [e, h, m3a _ (by omega), m3b _ (by omega) _ (by omega)]
theorem by_n : ∀ b, b < 256 → bn1 b < 256 ∧ (bn2 (bn1 b) ≤ 68 ∧ bn2 (bn1 b) % 16 ≤ 4) ∧ bn3 (bn2 (bn1 b)) = cN b 8 ∧ cN b 8 ≤ 8 := by decide +kernel
theorem cN_16 (v : Nat) : cN v 16 = 0 + v / 2 ^ 0 % 2 + v / 2 ^ 1 % 2 + v / 2 ^ 2 % 2 + v / 2 ^ 3 % 2 + v / 2 ^ 4 % 2 + v / 2 ^ 5 % 2 + v / 2 ^ 6 % 2 + v / 2 ^ 7 % 2 + v / 2 ^ 8 % 2 + v / 2 ^ 9 % 2 + v / 2 ^ 10 % 2 + v / 2 ^ 11 % 2 + v / 2 ^ 12 % 2 + v / 2 ^ 13 % 2 + v / 2 ^ 14 % 2 + v / 2 ^ 15 % 2 := rfl
theorem cN_8 (v : Nat) : cN v 8 = 0 + v / 2 ^ 0 % 2 + v / 2 ^ 1 % 2 + v / 2 ^ 2 % 2 + v / 2 ^ 3 % 2 + v / 2 ^ 4 % 2 + v / 2 ^ 5 % 2 + v / 2 ^ 6 % 2 + v / 2 ^ 7 % 2 := rfl
theorem cN_sp {a b : Nat} (hb : b < 256) : cN (256 * a + b) 16 = cN a 8 + cN b 8 := by
  rw [cN_16, cN_8, cN_8]
  rw [show (256 * a + b) / 2 ^ 0 % 2 = b / 2 ^ 0 % 2 by omega, show (256 * a + b) / 2 ^ 1 % 2 = b / 2 ^ 1 % 2 by omega, show (256 * a + b) / 2 ^ 2 % 2 = b / 2 ^ 2 % 2 by omega, show (256 * a + b) / 2 ^ 3 % 2 = b / 2 ^ 3 % 2 by omega, show (256 * a + b) / 2 ^ 4 % 2 = b / 2 ^ 4 % 2 by omega, show (256 * a + b) / 2 ^ 5 % 2 = b / 2 ^ 5 % 2 by omega, show (256 * a + b) / 2 ^ 6 % 2 = b / 2 ^ 6 % 2 by omega, show (256 * a + b) / 2 ^ 7 % 2 = b / 2 ^ 7 % 2 by omega, show (256 * a + b) / 2 ^ 8 % 2 = a / 2 ^ 0 % 2 by omega, show (256 * a + b) / 2 ^ 9 % 2 = a / 2 ^ 1 % 2 by omega, show (256 * a + b) / 2 ^ 10 % 2 = a / 2 ^ 2 % 2 by omega, show (256 * a + b) / 2 ^ 11 % 2 = a / 2 ^ 3 % 2 by omega, show (256 * a + b) / 2 ^ 12 % 2 = a / 2 ^ 4 % 2 by omega, show (256 * a + b) / 2 ^ 13 % 2 = a / 2 ^ 5 % 2 by omega, show (256 * a + b) / 2 ^ 14 % 2 = a / 2 ^ 6 % 2 by omega, show (256 * a + b) / 2 ^ 15 % 2 = a / 2 ^ 7 % 2 by omega]
  omega
theorem bn_all (a : Nat) (ha : a < 256) (b : Nat) (hb : b < 256) : (bn5 (bn4 (bn3 (bn2 (bn1 (256 * a + b)))))) &&& 63 = cN (256 * a + b) 16 := by
  obtain ⟨a1, a2, a3, a4⟩ := by_n a ha
  obtain ⟨b1, b2, b3, b4⟩ := by_n b hb
  rw [sp1 ha hb, sp2 a1 b1, sp3 a2 b2.1, a3, b3, cN_sp hb]
  generalize cN a 8 = A at a4
  generalize cN b 8 = B at b4
  have e4 : bn4 (256 * A + B) = 256 * A + B + A := by unfold bn4; omega
  have e5 : bn5 (256 * A + B + A) = 256 * A + B + A := by unfold bn5; omega
  rw [e4, e5]
  have e6 : (256 * A + B + A) &&& 63 = (256 * A + B + A) % 2 ^ 6 := Nat.and_two_pow_sub_one_eq_mod _ 6
  rw [e6]
  omega
theorem nI_and (a b : Nat) : nI a &&& nI b = nI (a &&& b) := by
  apply Int32.toBitVec_inj.mp
  show BitVec.ofNat 32 a &&& BitVec.ofNat 32 b = BitVec.ofNat 32 (a &&& b)
  apply BitVec.eq_of_getLsbD_eq
  intro i hi
  simp [BitVec.getLsbD_and, BitVec.getLsbD_ofNat, Nat.testBit_and, hi]
theorem nI_sub' {a b : Nat} (h : b ≤ a) : nI a - nI b = nI (a - b) := by
  have e : nI a = nI (a - b) + nI b := by rw [nI_add, Nat.sub_add_cancel h]
  rw [e, Int32.add_sub_cancel]
theorem bn1_le (v : Nat) : bn1 v ≤ v := Nat.sub_le _ _
theorem bn2_le (v : Nat) : bn2 v ≤ 858993459 + 858993459 := Nat.add_le_add Nat.and_le_right Nat.and_le_right
theorem bn3_le (v : Nat) : bn3 v ≤ 252645135 := Nat.and_le_right
theorem bc_n {v : Nat} (h : v < 65536) : bc5 (bc4 (bc3 (bc2 (bc1 (nI v))))) &&& 63 = nI ((bn5 (bn4 (bn3 (bn2 (bn1 v))))) &&& 63) := by
  have e1 : bc1 (nI v) = nI (bn1 v) := by
    unfold bc1 bn1
    rw [pk_ushrN (by omega) 1 1 (by decide +kernel), show (1431655765 : Int32) = nI 1431655765 from rfl, nI_and, nI_sub' (Nat.le_trans Nat.and_le_left (Nat.div_le_self _ _))]
  have l1 := bn1_le v
  generalize bn1 v = v1 at e1 l1
  have e2 : bc2 (nI v1) = nI (bn2 v1) := by
    unfold bc2 bn2
    rw [pk_ushrN (by omega) 2 2 (by decide +kernel), show (858993459 : Int32) = nI 858993459 from rfl, nI_and, nI_and, nI_add]
  have l2 := bn2_le v1
  generalize bn2 v1 = v2 at e2 l2
  have e3 : bc3 (nI v2) = nI (bn3 v2) := by
    unfold bc3 bn3
    rw [pk_ushrN (by omega) 4 4 (by decide +kernel), show (252645135 : Int32) = nI 252645135 from rfl, nI_add, nI_and]
  have l3 := bn3_le v2
  generalize bn3 v2 = v3 at e3 l3
  have e4 : bc4 (nI v3) = nI (bn4 v3) := by
    unfold bc4 bn4
    rw [pk_ushrN (by omega) 8 8 (by decide +kernel), nI_add]
  have l4 : bn4 v3 ≤ v3 + v3 := Nat.add_le_add_left (Nat.div_le_self _ _) _
  generalize bn4 v3 = v4 at e4 l4
  have e5 : bc5 (nI v4) = nI (bn5 v4) := by
    unfold bc5 bn5
    rw [pk_ushrN (by omega) 16 16 (by decide +kernel), nI_add]
  rw [e1, e2, e3, e4, e5, show (63 : Int32) = nI 63 from rfl, nI_and]
theorem cN_I {v : Nat} (h : v < 65536) : ∀ k, k ≤ 32 → cntI (nI v) k = nI (cN v k)
  | 0, _ => nI_0.symm
  | k + 1, hk => by
    rw [cntI, cN, cN_I h k (by omega), ← nI_add]
    congr 1
    have e : bt (nI v) k = v.testBit k := by
      show (BitVec.ofNat 32 v).getLsbD k = _
      rw [BitVec.getLsbD_ofNat, decide_eq_true (show k < 32 by omega), Bool.true_and]
    rw [e, Nat.testBit_eq_decide_div_mod_eq]
    have h2 := Nat.mod_two_eq_zero_or_one (v / 2 ^ k)
    rcases h2 with h2 | h2 <;> rw [h2] <;> decide
theorem bcl {x : Int32} (h : sbH 16 x) : bc5 (bc4 (bc3 (bc2 (bc1 x)))) &&& 63 = cntI x 16 := by
  obtain ⟨v, hv, rfl⟩ := sb_nat h
  have e := bn_all (v / 256) (by omega) (v % 256) (by omega)
  rw [show 256 * (v / 256) + v % 256 = v by omega] at e
  rw [bc_n hv, e, cN_I hv 16 (by omega)]
theorem pl_min {m : Nat → Int32} {n i : Nat} (h : i < n) : pln m n (min (i + 1) n) = pln m n (min i n) + bI (decide (mT m i = 0) && cpl m n i) := by
  rw [show min (i + 1) n = i + 1 by omega, show min i n = i by omega]
  rfl
theorem pl_out {m : Nat → Int32} {n i : Nat} (h : n ≤ i) : pln m n (min (i + 1) n) = pln m n (min i n) := by
  rw [show min (i + 1) n = n by omega, show min i n = n by omega]

