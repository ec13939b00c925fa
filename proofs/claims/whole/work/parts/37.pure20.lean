/-! the class's text and reader -/
theorem nar_b : ∀ v, v < 128 → vp_nar .byte ((nI v).toInt8.toInt32) = nI v := by decide +kernel
theorem nar_of {x : Int32} (h : pIn x 0 127 = true) : vp_nar .byte (x.toInt8.toInt32) = x := by
  obtain ⟨a, b⟩ := pIn_i h
  have e := x_nat a
  rw [e]
  refine nar_b _ ?_
  rw [Int32.le_iff_toInt_le, show (127 : Int32).toInt = 127 by decide] at b
  rw [Int32.le_iff_toInt_le, i32_0] at a
  unfold Int32.toNatClampNeg
  omega
/-- where the class says that the error is: none, or its place -/
def rdE (q : Bool × Nat) : Int32 := if q.1 = true then -1 else nI q.2
theorem rdE_t {q : Bool × Nat} (h : q.1 = true) : rdE q = -1 := by rw [rdE, if_pos h]
theorem rdE_f {q : Bool × Nat} (h : q.1 = false) : rdE q = nI q.2 := by rw [rdE, if_neg (by rw [h]; decide)]
/-- one item, in the class's words: is it right, where does it end -/
def itO (tx : Nat → Int32) (t p n : Nat) : Bool := if rh tx t p = 115 then rSo tx t p else if n = 16 then false else rBo tx t p
def itP (tx : Nat → Int32) (t p n : Nat) : Nat := if rh tx t p = 115 then rSp tx t p else if n = 16 then p else rBp tx t p
def itM (tx : Nat → Int32) (t p n : Nat) (m : Nat → Int32) : Nat → Int32 := if rh tx t p = 115 then rSm tx t p m else rBm tx t p m n
def itN (tx : Nat → Int32) (t p n : Nat) : Nat := if rh tx t p = 115 then n else n + 1
section ITEMS
variable {tx : Nat → Int32} {t p n : Nat}
theorem it_s (h : rh tx t p = 115) : itO tx t p n = rSo tx t p ∧ itP tx t p n = rSp tx t p ∧ (∀ m, itM tx t p n m = rSm tx t p m) ∧ itN tx t p n = n := by
  unfold itO itP itM itN
  rw [if_pos h, if_pos h, if_pos h]
  exact ⟨rfl, rfl, fun m => if_pos h, rfl⟩
theorem it_b (h : rh tx t p = 98) (hn : n < 16) : itO tx t p n = rBo tx t p ∧ itP tx t p n = rBp tx t p ∧ (∀ m, itM tx t p n m = rBm tx t p m n) ∧ itN tx t p n = n + 1 := by
  have h' : ¬ rh tx t p = 115 := by rw [h]; decide
  unfold itO itP itM itN
  rw [if_neg h', if_neg h', if_neg h', if_neg (by omega), if_neg (by omega)]
  exact ⟨rfl, rfl, fun m => if_neg h', rfl⟩
theorem it_x (h : ¬ rh tx t p = 115) (h2 : rh tx t p = 98 → n = 16) : itO tx t p n = false ∧ itP tx t p n = p := by
  unfold itO itP
  rw [if_neg h, if_neg h]
  by_cases hn : n = 16
  · rw [if_pos hn, if_pos hn]
    exact ⟨rfl, rfl⟩
  · rw [if_neg hn, if_neg hn]
    exact rB_0 (fun z => hn (h2 z))
theorem it_le (hp : p ≤ t) : itP tx t p n ≤ t := by
  unfold itP
  split
  · exact rSp_le hp
  · split
    · exact hp
    · exact rBp_le hp
theorem it_gt (h : itO tx t p n = true) : p < itP tx t p n := by
  unfold itO at h
  unfold itP
  split
  · rename_i h1
    rw [if_pos h1] at h
    exact rSp_gt h
  · rename_i h1
    rw [if_neg h1] at h
    split
    · rename_i h2
      rw [if_pos h2] at h
      cases h
    · rename_i h2
      rw [if_neg h2] at h
      exact rBp_gt h
theorem rdA_t {f : Nat} {m : Nat → Int32} (hp : p < t) (hn : n ≤ 16) (h : itO tx t p n = true) : rdA tx t (f + 1) p n m = rdA tx t f (itP tx t p n) (itN tx t p n) (itM tx t p n m) := by
  by_cases h1 : rh tx t p = 115
  · obtain ⟨a, b, c, d⟩ := it_s (n := n) h1
    rw [a] at h
    rw [b, c, d, rdA_st hp h1 h]
  · have hn' : ¬ n = 16 := fun z => by
      unfold itO at h
      rw [if_neg h1, if_pos z] at h
      cases h
    have h98 : rh tx t p = 98 := Classical.byContradiction fun z => by
      rw [(it_x (n := n) h1 (fun z2 => absurd z2 z)).1] at h
      cases h
    obtain ⟨a, b, c, d⟩ := it_b (n := n) h98 (by omega)
    rw [a] at h
    rw [b, c, d, rdA_bt hp h1 (by omega) h]
theorem rdA_x {f : Nat} {m : Nat → Int32} (hp : p < t) (hn : n ≤ 16) (h : itO tx t p n = false) : rdA tx t (f + 1) p n m = (false, itP tx t p n, n, m) := by
  by_cases h1 : rh tx t p = 115
  · obtain ⟨a, b, c, d⟩ := it_s (n := n) h1
    rw [a] at h
    rw [b, rdA_sf hp h1 h]
  · by_cases hn' : n = 16
    · subst hn'
      rw [rdA_16 hp h1]
      unfold itP
      rw [if_neg h1, if_pos rfl]
    · unfold itO at h
      rw [if_neg h1, if_neg hn'] at h
      rw [rdA_bf hp h1 (by omega) h]
      unfold itP
      rw [if_neg h1, if_neg hn']
theorem itN_le (hn : n ≤ 16) (h : itO tx t p n = true) : itN tx t p n ≤ 16 := by
  unfold itO at h
  unfold itN
  split
  · exact hn
  · rename_i h1
    rw [if_neg h1] at h
    by_cases h2 : n = 16
    · rw [if_pos h2] at h; cases h
    · omega
end ITEMS
theorem KR_ship {we ce co sg cr : Int32} {P K H L S m : Nat → Int32} {n : Nat} {tx : Nat → Int32} {t p : Nat} (h : KR we ce co sg cr P K H L S m n) (hs : rSo tx t p = true) : KR (rS1 tx t p).2.1 (rS2 tx t p).2.1 co sg cr P K H L S (rSm tx t p m) n := by
  obtain ⟨a, b, c⟩ := rSo_i hs
  exact KR_ce (KR_we h _ (rN_in b)) _ (rN_in c)
theorem KR_blk {we ce co sg cr : Int32} {P K H L S m : Nat → Int32} {n : Nat} {tx : Nat → Int32} {t p : Nat} (h : KR we ce co sg cr P K H L S m n) (hn : n < 16) (hs : rBo tx t p = true) : KR we ce (co + 1) (sg ||| bit co) cr (upd P co.toNatClampNeg (rA1 tx t p).2.1) (upd K co.toNatClampNeg (rA2 tx t p).2.1) (upd H co.toNatClampNeg (rA3 tx t p).2.1) (upd L co.toNatClampNeg (rA4 tx t p).2.1) (upd S co.toNatClampNeg 0) (rBm tx t p m n) (n + 1) := by
  obtain ⟨a, b, c, d, e⟩ := rBo_i hs
  exact KR_add h hn _ _ _ _ (rN_in b) (rN_in c) (rN_in d) (rN_in e)
theorem inX3_add_3 : ∀ w ∈ u_ws RX3 TX3 2, w ∈ wsX3_add := by decide +kernel
theorem fgX3_add_9 : FG wsX3_add RX3 9 3 0 := ⟨RX3, TX3, 2, rfl, inX3_add_3, by decide, by decide +kernel⟩
theorem fgX3_add_15 : FG wsX3_add RX3 15 3 1 := ⟨RX3, TX3, 2, rfl, inX3_add_3, by decide, by decide +kernel⟩
theorem foX3_add_9 : FO wsX3_add RX3 9 3 0 .int := ⟨RX3, TX3, 2, tyX3, rfl, inX3_add_3, by decide, by decide +kernel, tyX3_ok, nmX3, by decide +kernel, by decide +kernel⟩
theorem inX3_byteAt_3 : ∀ w ∈ u_ws RX3 TX3 2, w ∈ wsX3_byteAt := by decide +kernel
theorem fgX3_byteAt_9 : FG wsX3_byteAt RX3 9 3 0 := ⟨RX3, TX3, 2, rfl, inX3_byteAt_3, by decide, by decide +kernel⟩
theorem fgX3_byteAt_15 : FG wsX3_byteAt RX3 15 3 1 := ⟨RX3, TX3, 2, rfl, inX3_byteAt_3, by decide, by decide +kernel⟩
theorem inX2_readNumber_2 : ∀ w ∈ u_ws RX2 TX2 3, w ∈ wsX2_readNumber := by decide +kernel
theorem fgX2_readNumber_15 : FG wsX2_readNumber RX2 15 2 2 := ⟨RX2, TX2, 3, rfl, inX2_readNumber_2, by decide, by decide +kernel⟩
theorem fgX2_readNumber_9 : FG wsX2_readNumber RX2 9 2 1 := ⟨RX2, TX2, 3, rfl, inX2_readNumber_2, by decide, by decide +kernel⟩
theorem fgX2_readNumber_18 : FG wsX2_readNumber RX2 18 2 0 := ⟨RX2, TX2, 3, rfl, inX2_readNumber_2, by decide, by decide +kernel⟩
theorem mfX3_byteAt : MF yX3_byteAt wsX3_byteAt cX3_byteAt 2 (some .int) 1 := ⟨⟨_, rfl⟩, by decide +kernel, by decide +kernel, by decide +kernel⟩
theorem foX2_readNumber_15 : FO wsX2_readNumber RX2 15 2 2 .int := ⟨RX2, TX2, 3, tyX2, rfl, inX2_readNumber_2, by decide, by decide +kernel, tyX2_ok, nmX2, by decide +kernel, by decide +kernel⟩
theorem mfX2_isDigit : MF yX2_isDigit wsX2_isDigit cX2_isDigit 1 (some .boolean) 1 := ⟨⟨_, rfl⟩, by decide +kernel, by decide +kernel, by decide +kernel⟩
theorem mfX5_isIn : MF yX5_isIn wsX5_isIn cX5_isIn 3 (some .boolean) 3 := ⟨⟨_, rfl⟩, by decide +kernel, by decide +kernel, by decide +kernel⟩
theorem mX2_readNumber_static_yX5_isIn : (Cond.static yX5_isIn : Cond) ∈ wsX2_readNumber := by decide +kernel
theorem mX2_readNumber_initialized_RX5 : (Cond.initialized RX5 : Cond) ∈ wsX2_readNumber := by decide +kernel
theorem foX2_readNumber_9 : FO wsX2_readNumber RX2 9 2 1 .int := ⟨RX2, TX2, 3, tyX2, rfl, inX2_readNumber_2, by decide, by decide +kernel, tyX2_ok, nmX2, by decide +kernel, by decide +kernel⟩
