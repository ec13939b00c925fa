section RBL
variable {tx : Nat → Int32} {t p : Nat}
theorem rB_0 (h : ¬ rh tx t p = 98) : rBo tx t p = false ∧ rBp tx t p = p := by
  refine ⟨?_, ?_⟩
  · unfold rBo; rw [decide_eq_false h]; rfl
  · unfold rBp; rw [if_pos h]
theorem rB_1 (h : rh tx t p = 98) (h1 : (rA1 tx t p).1 = false) : rBo tx t p = false ∧ rBp tx t p = (rA1 tx t p).2.2 := by
  refine ⟨?_, ?_⟩
  · unfold rBo; rw [h1]; simp
  · unfold rBp; rw [if_neg (fun z => z h), if_pos h1]
theorem rB_2 (h : rh tx t p = 98) (h1 : (rA1 tx t p).1 = true) (h2 : (rA2 tx t p).1 = false) : rBo tx t p = false ∧ rBp tx t p = (rA2 tx t p).2.2 := by
  refine ⟨?_, ?_⟩
  · unfold rBo; rw [h2]; simp
  · unfold rBp; rw [if_neg (fun z => z h), if_neg (by rw [h1]; decide), if_pos h2]
theorem rB_3 (h : rh tx t p = 98) (h1 : (rA1 tx t p).1 = true) (h2 : (rA2 tx t p).1 = true) (h3 : (rA3 tx t p).1 = false) : rBo tx t p = false ∧ rBp tx t p = (rA3 tx t p).2.2 := by
  refine ⟨?_, ?_⟩
  · unfold rBo; rw [h3]; simp
  · unfold rBp; rw [if_neg (fun z => z h), if_neg (by rw [h1]; decide), if_neg (by rw [h2]; decide), if_pos h3]
theorem rB_p (h : rh tx t p = 98) (h1 : (rA1 tx t p).1 = true) (h2 : (rA2 tx t p).1 = true) (h3 : (rA3 tx t p).1 = true) : rBo tx t p = (rA4 tx t p).1 ∧ rBp tx t p = (rA4 tx t p).2.2 := by
  refine ⟨?_, ?_⟩
  · unfold rBo; rw [h1, h2, h3, decide_eq_true h]; rfl
  · unfold rBp; rw [if_neg (fun z => z h), if_neg (by rw [h1]; decide), if_neg (by rw [h2]; decide), if_neg (by rw [h3]; decide)]
theorem rB_4 (h : rh tx t p = 98) (h1 : (rA1 tx t p).1 = true) (h2 : (rA2 tx t p).1 = true) (h3 : (rA3 tx t p).1 = true) (h4 : (rA4 tx t p).1 = false) : rBo tx t p = false ∧ rBp tx t p = (rA4 tx t p).2.2 := ⟨(rB_p h h1 h2 h3).1.trans h4, (rB_p h h1 h2 h3).2⟩
theorem rB_5 (h : rh tx t p = 98) (h1 : (rA1 tx t p).1 = true) (h2 : (rA2 tx t p).1 = true) (h3 : (rA3 tx t p).1 = true) (h4 : (rA4 tx t p).1 = true) : rBo tx t p = true ∧ rBp tx t p = (rA4 tx t p).2.2 := ⟨(rB_p h h1 h2 h3).1.trans h4, (rB_p h h1 h2 h3).2⟩
theorem rS_0 (h : ¬ rh tx t p = 115) : rSo tx t p = false ∧ rSp tx t p = p := by
  refine ⟨?_, ?_⟩
  · unfold rSo; rw [decide_eq_false h]; rfl
  · unfold rSp; rw [if_pos h]
theorem rS_1 (h : rh tx t p = 115) (h1 : (rS1 tx t p).1 = false) : rSo tx t p = false ∧ rSp tx t p = (rS1 tx t p).2.2 := by
  refine ⟨?_, ?_⟩
  · unfold rSo; rw [h1]; simp
  · unfold rSp; rw [if_neg (fun z => z h), if_pos h1]
theorem rS_p (h : rh tx t p = 115) (h1 : (rS1 tx t p).1 = true) : rSo tx t p = (rS2 tx t p).1 ∧ rSp tx t p = (rS2 tx t p).2.2 := by
  refine ⟨?_, ?_⟩
  · unfold rSo; rw [h1, decide_eq_true h]; rfl
  · unfold rSp; rw [if_neg (fun z => z h), if_neg (by rw [h1]; decide)]
theorem rS_2 (h : rh tx t p = 115) (h1 : (rS1 tx t p).1 = true) (h2 : (rS2 tx t p).1 = false) : rSo tx t p = false ∧ rSp tx t p = (rS2 tx t p).2.2 := ⟨(rS_p h h1).1.trans h2, (rS_p h h1).2⟩
theorem rS_3 (h : rh tx t p = 115) (h1 : (rS1 tx t p).1 = true) (h2 : (rS2 tx t p).1 = true) : rSo tx t p = true ∧ rSp tx t p = (rS2 tx t p).2.2 := ⟨(rS_p h h1).1.trans h2, (rS_p h h1).2⟩
end RBL
theorem inX6_readBlock_6 : ∀ w ∈ u_ws RX6 TX6 19, w ∈ wsX6_readBlock := by decide +kernel
theorem fgX6_readBlock_7 : FG wsX6_readBlock RX6 7 6 0 := ⟨RX6, TX6, 19, rfl, inX6_readBlock_6, by decide, by decide +kernel⟩
theorem mfX6_readNumber : MF yX6_readNumber wsX6_readNumber cX6_readNumber 7 (some .boolean) 4 := ⟨⟨_, rfl⟩, by decide +kernel, by decide +kernel, by decide +kernel⟩
theorem fgX6_readBlock_187 : FG wsX6_readBlock RX6 187 6 17 := ⟨RX6, TX6, 19, rfl, inX6_readBlock_6, by decide, by decide +kernel⟩
theorem kX6_readBlock_106 : Cond.constant RX6 106 (99999) ∈ wsX6_readBlock := by decide +kernel
theorem kX6_readShip_129 : Cond.constant RX6 129 (100000) ∈ wsX6_readShip := by decide +kernel
theorem inX6_readShip_6 : ∀ w ∈ u_ws RX6 TX6 19, w ∈ wsX6_readShip := by decide +kernel
theorem fgX6_readShip_187 : FG wsX6_readShip RX6 187 6 17 := ⟨RX6, TX6, 19, rfl, inX6_readShip_6, by decide, by decide +kernel⟩
theorem fgX6_readShip_7 : FG wsX6_readShip RX6 7 6 0 := ⟨RX6, TX6, 19, rfl, inX6_readShip_6, by decide, by decide +kernel⟩
theorem inX6_readAll_6 : ∀ w ∈ u_ws RX6 TX6 19, w ∈ wsX6_readAll := by decide +kernel
theorem foX6_readAll_178 : FO wsX6_readAll RX6 178 6 16 .int := ⟨RX6, TX6, 19, tyX6, rfl, inX6_readAll_6, by decide, by decide +kernel, tyX6_ok, nmX6, by decide +kernel, by decide +kernel⟩
theorem fgX6_readAll_7 : FG wsX6_readAll RX6 7 6 0 := ⟨RX6, TX6, 19, rfl, inX6_readAll_6, by decide, by decide +kernel⟩
theorem fgX6_readAll_178 : FG wsX6_readAll RX6 178 6 16 := ⟨RX6, TX6, 19, rfl, inX6_readAll_6, by decide, by decide +kernel⟩
theorem fgX6_readAll_175 : FG wsX6_readAll RX6 175 6 5 := ⟨RX6, TX6, 19, rfl, inX6_readAll_6, by decide, by decide +kernel⟩
theorem mfX6_readBlock : MF yX6_readBlock wsX6_readBlock cX6_readBlock 4 (some .boolean) 0 := ⟨⟨_, rfl⟩, by decide +kernel, by decide +kernel, by decide +kernel⟩
theorem mfX6_readShip : MF yX6_readShip wsX6_readShip cX6_readShip 2 (some .boolean) 0 := ⟨⟨_, rfl⟩, by decide +kernel, by decide +kernel, by decide +kernel⟩
theorem inX6_parse_6 : ∀ w ∈ u_ws RX6 TX6 19, w ∈ wsX6_parse := by decide +kernel
theorem foX6_parse_29 : FO wsX6_parse RX6 29 6 6 .int := ⟨RX6, TX6, 19, tyX6, rfl, inX6_parse_6, by decide, by decide +kernel, tyX6_ok, nmX6, by decide +kernel, by decide +kernel⟩
theorem fgX6_parse_7 : FG wsX6_parse RX6 7 6 0 := ⟨RX6, TX6, 19, rfl, inX6_parse_6, by decide, by decide +kernel⟩
theorem fgX6_parse_13 : FG wsX6_parse RX6 13 6 1 := ⟨RX6, TX6, 19, rfl, inX6_parse_6, by decide, by decide +kernel⟩
theorem mfX6_readAll : MF yX6_readAll wsX6_readAll cX6_readAll 2 (some .boolean) 0 := ⟨⟨_, rfl⟩, by decide +kernel, by decide +kernel, by decide +kernel⟩
theorem fgX6_parse_178 : FG wsX6_parse RX6 178 6 16 := ⟨RX6, TX6, 19, rfl, inX6_parse_6, by decide, by decide +kernel⟩
