/-! the law: its script, its rows -/
def kScr (X : KX) (b L : Nat) (z : Nat → Int32) : Prop := va_X b L z (xs X) (xs X).heap ∧ b < (xs X).heap.size ∧ ¬ (xA X) b ∧ L ≤ 2560
section JLAW
variable {D : KD} {X : KX} {cc : ByteArray} {own : String} {Ts : List Cond} {fr lo mc ms nL : Nat} {w : va_W} {k n pc : Nat} {lv : List (Nat × Value)} {st rest : List Value}
theorem j_sld (C : Cx D X cc own Ts fr lo mc ms nL) {b L : Nat} {z : Nat → Int32} (S : kScr X b L z) {i : Nat} {v : Int32} (hi : i < L) (he : z i = v) (hd : decode cc pc = .ok (.iaload, 1)) (kk : J D X w k n (pc + 1) lv (.int v :: st)) : J D X w k n pc lv (.int (nI i) :: .ref b :: st) := by
  have hL := S.2.2.2
  intro H locs ls hP hD hS hl
  refine va_sld C.hx C.hb S.1 S.2.1 S.2.2.1 hS (nI_in hi (by omega)) hd ?_
  rw [nI_clamp (by omega), he]
  exact kk H locs ls hP hD hS hl
theorem j_slen (C : Cx D X cc own Ts fr lo mc ms nL) {b L : Nat} {z : Nat → Int32} (S : kScr X b L z) (hd : decode cc pc = .ok (.arraylength, 1)) (kk : J D X w k n (pc + 1) lv (.int (nI L) :: st)) : J D X w k n pc lv (.ref b :: st) := by
  intro H locs ls hP hD hS hl
  exact va_slen C.hx C.hb S.1 S.2.1 S.2.2.1 hS hd (kk H locs ls hP hD hS hl)
theorem opc_v (x : Int32) : ∃ v, v < 32 ∧ x &&& 31 = nI v := by
  have h : sbH 5 (x &&& 31) := by
    intro j h1 h2
    rw [b_and, show bt 31 j = false from (by decide +kernel : ∀ j, j < 32 → 5 ≤ j → bt 31 j = false) j h2 h1, Bool.and_false]
  obtain ⟨v, hv, e⟩ := sb_nat (x := x &&& 31) (fun j h1 h2 => h j (by omega) h2)
  refine ⟨v, ?_, e⟩
  apply Nat.lt_of_not_le
  intro hle
  have h3 : ∀ j, 5 ≤ j → j < 32 → v.testBit j = false := fun j h1 h2 => by
    have := h j h1 h2
    rw [e] at this
    have e2 : bt (nI v) j = v.testBit j := by
      show (BitVec.ofNat 32 v).getLsbD j = _
      rw [BitVec.getLsbD_ofNat, decide_eq_true (show j < 32 by omega), Bool.true_and]
    rw [← e2]
    exact this
  obtain ⟨j, hj, hb⟩ := Nat.exists_ge_and_testBit_of_ge_two_pow (n := 5) (x := v) hle
  by_cases hj32 : j < 32
  · rw [h3 j hj hj32] at hb
    cases hb
  · have : v < 2 ^ j := Nat.lt_of_lt_of_le hv (Nat.le_trans (by decide : 65536 ≤ 2 ^ 32) (Nat.pow_le_pow_right (by decide) (by omega)))
    rw [Nat.testBit_lt_two_pow this] at hb
    cases hb
end JLAW
theorem Ba_ag {D : KD} {b : Nat → Nat} {cu : Nat → Int64} {n : Nat} {m m1 : Nat → Int32} (hn : n ≤ 16) (h : mAg n m m1) : wBa D b (bI (mR m n).1) (nI (mR m n).2.1) (mBe m n) (mOv m n) ((mR m n).2.2.2.1) ((mR m n).2.2.2.2.1) ((mR m n).2.2.2.2.2) (mLo m n) cu = wBa D b (bI (mR m1 n).1) (nI (mR m1 n).2.1) (mBe m1 n) (mOv m1 n) ((mR m1 n).2.2.2.1) ((mR m1 n).2.2.2.2.1) ((mR m1 n).2.2.2.2.2) (mLo m1 n) cu := by
  have e2 : mBe m1 n = mBe m n := by
    unfold mBe
    rw [mAg_mR h]
  rw [mAg_mR h, e2, mAg_mOv hn h, mAg_mLo hn h]
/-- the law goes on: whatever the class and the reference hold now, if they say the same -/
def kNext (D : KD) (X : KX) (x a b a2 b2 g tt rr h q : Nat → Nat) (b0 jx kk nn : Nat) : Prop := ∀ (we ce co sg cr : Int32) (Pp Kp Hp Lp Sp : Nat → Int32) (cu : Nat → Int64) (we2 ce2 co2 sg2 cr2 : Int32) (Pp2 Kp2 Hp2 Lp2 Sp2 : Nat → Int32) (sd2 rd2 be2 ov2 : Int32) (qa2 qb2 qd2 : Int64) (lo2 : Nat → Int32) (cu2 : Nat → Int64) (po er : Int32) (m sv tx : Nat → Int32) (n s t nw k : Nat) (oa : Nat → Nat → Nat) (f : Nat → Dk) (sp : Nat → Int32) (cd se ro st : Int32) (qa qb qd : Int64) (lo : Nat → Int32) (re : Nat → Int64) (crm ap nu : Int32) (ha : Int64) (oz : Nat → Int64) (kk' nn' : Nat), KR we ce co sg cr Pp Kp Hp Lp Sp m n → HR nw s k f sv → t ≤ 160 → kk' ≤ kk + 6 → nn' ≤ nn + 90 → J D X ((wKb D x (a 0) (b 0) (a2 0) (b2 0) (g 0) (tt 0) (rr 0) ++ (wDo D a we ce co sg cr Pp Kp Hp Lp Sp ++ (wBa D b (bI (mR m n).1) (nI (mR m n).2.1) (mBe m n) (mOv m n) ((mR m n).2.2.2.1) ((mR m n).2.2.2.2.1) ((mR m n).2.2.2.2.2) (mLo m n) cu ++ (wDo D a2 we2 ce2 co2 sg2 cr2 Pp2 Kp2 Hp2 Lp2 Sp2 ++ (wBa D b2 sd2 rd2 be2 ov2 qa2 qb2 qd2 lo2 cu2 ++ (wHi D g (nI s) (nI nw) (slF oa k) ++ (wTx D tt (nI t) tx ++ (wRd D rr (tt 0) po er ++ (wMo D h m sp sv (nI s) tx (nI t) cd se ro st qa qb qd lo re crm ap nu ha ++ (wOu D q oz)))))))))) ++ (wPl D oa f k)) kk' nn' 1148 [(4, .int (nI (5 * jx))), (3, .ref (q 0)), (2, .ref (h 0)), (1, .ref (x 0)), (0, .ref b0)] []
