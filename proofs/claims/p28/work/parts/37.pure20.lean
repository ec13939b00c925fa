/-! the class's text and reader -/
theorem nar_b : ∀ v, v < 128 → vp_nar .byte ((nI v).toInt8.toInt32) = nI v := by decide +kernel
theorem nar_of {x : Int32} (h : pIn x 0 127 = true) : vp_nar .byte (x.toInt8.toInt32) = x := by
  obtain ⟨a, b⟩ := pIn_i h
  have e := x_nat a
  rw [e]
  refine nar_b _ ?_
  rw [Int32.le_iff_toInt_le, show (127 : Int32).toInt = 127 by decide] at b
  rw [Int32.le_iff_toInt_le, i32_0] at a
  unfold Int32.toNatClampNeg
  omega
/-- where the class says that the error is: none, or its place -/
def rdE (q : Bool × Nat) : Int32 := if q.1 = true then -1 else nI q.2
theorem rdE_t {q : Bool × Nat} (h : q.1 = true) : rdE q = -1 := by rw [rdE, if_pos h]
theorem rdE_f {q : Bool × Nat} (h : q.1 = false) : rdE q = nI q.2 := by rw [rdE, if_neg (by rw [h]; decide)]
section ITEMS
variable {tx : Nat → Int32} {t p n : Nat}
end ITEMS
theorem inX3_add_3 : ∀ w ∈ u_ws RX3 TX3 2, w ∈ wsX3_add := by decide +kernel
theorem fgX3_add_9 : FG wsX3_add RX3 9 3 0 := ⟨RX3, TX3, 2, rfl, inX3_add_3, by decide, by decide +kernel⟩
theorem fgX3_add_15 : FG wsX3_add RX3 15 3 1 := ⟨RX3, TX3, 2, rfl, inX3_add_3, by decide, by decide +kernel⟩
theorem foX3_add_9 : FO wsX3_add RX3 9 3 0 .int := ⟨RX3, TX3, 2, tyX3, rfl, inX3_add_3, by decide, by decide +kernel, tyX3_ok, nmX3, by decide +kernel, by decide +kernel⟩
theorem mfX5_isIn : MF yX5_isIn wsX5_isIn cX5_isIn 3 (some .boolean) 3 := ⟨⟨_, rfl⟩, by decide +kernel, by decide +kernel, by decide +kernel⟩
theorem mfX1_add : MF yX1_add wsX1_add cX1_add 6 (some .int) 4 := ⟨⟨_, rfl⟩, by decide +kernel, by decide +kernel, by decide +kernel⟩
theorem mfX1_hasRoom : MF yX1_hasRoom wsX1_hasRoom cX1_hasRoom 1 (some .boolean) 0 := ⟨⟨_, rfl⟩, by decide +kernel, by decide +kernel, by decide +kernel⟩
