theorem kJ6_bitCount_0f7a4_265 : Cond.constant RJ6 265 (1431655765) ∈ wsJ6_bitCount_0f7a4 := by decide +kernel
theorem kJ6_bitCount_0f7a4_266 : Cond.constant RJ6 266 (858993459) ∈ wsJ6_bitCount_0f7a4 := by decide +kernel
theorem kJ6_bitCount_0f7a4_267 : Cond.constant RJ6 267 (252645135) ∈ wsJ6_bitCount_0f7a4 := by decide +kernel
theorem inX5_canPull_5 : ∀ w ∈ u_ws RX5 TX5 7, w ∈ wsX5_canPull := by decide +kernel
theorem fgX5_canPull_10 : FG wsX5_canPull RX5 10 5 0 := ⟨RX5, TX5, 7, rfl, inX5_canPull_5, by decide, by decide +kernel⟩
theorem inX5_canPull_1 : ∀ w ∈ u_ws RX1 TX1 10, w ∈ wsX5_canPull := by decide +kernel
theorem fgX5_canPull_122 : FG wsX5_canPull RX5 122 1 3 := ⟨RX1, TX1, 10, rfl, inX5_canPull_1, by decide, by decide +kernel⟩
theorem mfX5_startTrial : MF yX5_startTrial wsX5_startTrial cX5_startTrial 1 none 0 := ⟨⟨_, rfl⟩, by decide +kernel, by decide +kernel, by decide +kernel⟩
theorem fgX5_canPull_23 : FG wsX5_canPull RX5 23 5 2 := ⟨RX5, TX5, 7, rfl, inX5_canPull_5, by decide, by decide +kernel⟩
theorem mfX1_pullOut : MF yX1_pullOut wsX1_pullOut cX1_pullOut 2 none 1 := ⟨⟨_, rfl⟩, by decide +kernel, by decide +kernel, by decide +kernel⟩
theorem fgX5_canPull_26 : FG wsX5_canPull RX5 26 5 3 := ⟨RX5, TX5, 7, rfl, inX5_canPull_5, by decide, by decide +kernel⟩
theorem mfX0_isSafe : MF yX0_isSafe wsX0_isSafe cX0_isSafe 1 (some .boolean) 0 := ⟨⟨_, rfl⟩, by decide +kernel, by decide +kernel, by decide +kernel⟩
theorem inX5_tryCascade_5 : ∀ w ∈ u_ws RX5 TX5 7, w ∈ wsX5_tryCascade := by decide +kernel
theorem fgX5_tryCascade_26 : FG wsX5_tryCascade RX5 26 5 3 := ⟨RX5, TX5, 7, rfl, inX5_tryCascade_5, by decide, by decide +kernel⟩
theorem fgX5_tryCascade_23 : FG wsX5_tryCascade RX5 23 5 2 := ⟨RX5, TX5, 7, rfl, inX5_tryCascade_5, by decide, by decide +kernel⟩
theorem inX5_tryCascade_0 : ∀ w ∈ u_ws RX0 TX0 9, w ∈ wsX5_tryCascade := by decide +kernel
theorem fgX5_tryCascade_166 : FG wsX5_tryCascade RX5 166 0 3 := ⟨RX0, TX0, 9, rfl, inX5_tryCascade_0, by decide, by decide +kernel⟩
theorem mfX1_crush : MF yX1_crush wsX1_crush cX1_crush 2 none 1 := ⟨⟨_, rfl⟩, by decide +kernel, by decide +kernel, by decide +kernel⟩
theorem inX5_tryShaving_5 : ∀ w ∈ u_ws RX5 TX5 7, w ∈ wsX5_tryShaving := by decide +kernel
theorem fgX5_tryShaving_26 : FG wsX5_tryShaving RX5 26 5 3 := ⟨RX5, TX5, 7, rfl, inX5_tryShaving_5, by decide, by decide +kernel⟩
theorem fgX5_tryShaving_23 : FG wsX5_tryShaving RX5 23 5 2 := ⟨RX5, TX5, 7, rfl, inX5_tryShaving_5, by decide, by decide +kernel⟩
theorem mfX0_mostOverloaded : MF yX0_mostOverloaded wsX0_mostOverloaded cX0_mostOverloaded 6 (some .int) 1 := ⟨⟨_, rfl⟩, by decide +kernel, by decide +kernel, by decide +kernel⟩
theorem mfX1_lowerCap : MF yX1_lowerCap wsX1_lowerCap cX1_lowerCap 2 (some .boolean) 1 := ⟨⟨_, rfl⟩, by decide +kernel, by decide +kernel, by decide +kernel⟩
set_option maxRecDepth 100000 in
set_option maxHeartbeats 4000000 in
theorem ctJ6_bitCount_0f7a4 (l : Launch) (D : KD) (x : Int32) (hx : sbH 16 x) : MI l D yJ6_bitCount_0f7a4 wsJ6_bitCount_0f7a4 0 0 0 0 [.int x] [] (fun r w1 => r = cntI x 16 ∧ w1 = []) := by
  refine MI.ofF (cc := cJ6_bitCount_0f7a4) (nL := 1) (lv0 := [(0, .int x)]) (by decide +kernel) rfl (Nat.le_of_ble_eq_true rfl) rfl ?_
  intro X hXl hin C ret
  subst hXl
  refine j_iload_n C 0 dJ6_bitCount_0f7a4_0 rfl rfl ?_
  refine j_iload_n C 0 dJ6_bitCount_0f7a4_1 rfl rfl ?_
  refine j_iconst C (v := (1 : Int32)) dJ6_bitCount_0f7a4_2 rfl ?_
  refine j_iushr C dJ6_bitCount_0f7a4_3 ?_
  refine j_ldcw C kJ6_bitCount_0f7a4_265 dJ6_bitCount_0f7a4_4 ?_
  refine j_iand C dJ6_bitCount_0f7a4_7 ?_
  refine j_isub C dJ6_bitCount_0f7a4_8 ?_
  refine j_eqi (y := bc1 x) rfl ?_
  refine j_istore_n C dJ6_bitCount_0f7a4_9 rfl (by decide) (lv' := [(0, .int (bc1 x))]) rfl ?_
  refine j_iload_n C 0 dJ6_bitCount_0f7a4_10 rfl rfl ?_
  refine j_ldcw C kJ6_bitCount_0f7a4_266 dJ6_bitCount_0f7a4_11 ?_
  refine j_iand C dJ6_bitCount_0f7a4_14 ?_
  refine j_iload_n C 0 dJ6_bitCount_0f7a4_15 rfl rfl ?_
  refine j_iconst C (v := (2 : Int32)) dJ6_bitCount_0f7a4_16 rfl ?_
  refine j_iushr C dJ6_bitCount_0f7a4_17 ?_
  refine j_ldcw C kJ6_bitCount_0f7a4_266 dJ6_bitCount_0f7a4_18 ?_
  refine j_iand C dJ6_bitCount_0f7a4_21 ?_
  refine j_iadd C dJ6_bitCount_0f7a4_22 ?_
  refine j_eqi (y := bc2 (bc1 x)) rfl ?_
  refine j_istore_n C dJ6_bitCount_0f7a4_23 rfl (by decide) (lv' := [(0, .int (bc2 (bc1 x)))]) rfl ?_
  refine j_iload_n C 0 dJ6_bitCount_0f7a4_24 rfl rfl ?_
  refine j_iload_n C 0 dJ6_bitCount_0f7a4_25 rfl rfl ?_
  refine j_iconst C (v := (4 : Int32)) dJ6_bitCount_0f7a4_26 rfl ?_
  refine j_iushr C dJ6_bitCount_0f7a4_27 ?_
  refine j_iadd C dJ6_bitCount_0f7a4_28 ?_
  refine j_ldcw C kJ6_bitCount_0f7a4_267 dJ6_bitCount_0f7a4_29 ?_
  refine j_iand C dJ6_bitCount_0f7a4_32 ?_
  refine j_eqi (y := bc3 (bc2 (bc1 x))) rfl ?_
  refine j_istore_n C dJ6_bitCount_0f7a4_33 rfl (by decide) (lv' := [(0, .int (bc3 (bc2 (bc1 x))))]) rfl ?_
  refine j_iload_n C 0 dJ6_bitCount_0f7a4_34 rfl rfl ?_
  refine j_iload_n C 0 dJ6_bitCount_0f7a4_35 rfl rfl ?_
  refine j_bipush C (v := (8 : Int32)) dJ6_bitCount_0f7a4_36 rfl ?_
  refine j_iushr C dJ6_bitCount_0f7a4_38 ?_
  refine j_iadd C dJ6_bitCount_0f7a4_39 ?_
  refine j_eqi (y := bc4 (bc3 (bc2 (bc1 x)))) rfl ?_
  refine j_istore_n C dJ6_bitCount_0f7a4_40 rfl (by decide) (lv' := [(0, .int (bc4 (bc3 (bc2 (bc1 x)))))]) rfl ?_
  refine j_iload_n C 0 dJ6_bitCount_0f7a4_41 rfl rfl ?_
  refine j_iload_n C 0 dJ6_bitCount_0f7a4_42 rfl rfl ?_
  refine j_bipush C (v := (16 : Int32)) dJ6_bitCount_0f7a4_43 rfl ?_
  refine j_iushr C dJ6_bitCount_0f7a4_45 ?_
  refine j_iadd C dJ6_bitCount_0f7a4_46 ?_
  refine j_eqi (y := bc5 (bc4 (bc3 (bc2 (bc1 x))))) rfl ?_
  refine j_istore_n C dJ6_bitCount_0f7a4_47 rfl (by decide) (lv' := [(0, .int (bc5 (bc4 (bc3 (bc2 (bc1 x))))))]) rfl ?_
  refine j_iload_n C 0 dJ6_bitCount_0f7a4_48 rfl rfl ?_
  refine j_bipush C (v := (63 : Int32)) dJ6_bitCount_0f7a4_49 rfl ?_
  refine j_iand C dJ6_bitCount_0f7a4_51 ?_
  exact ret dJ6_bitCount_0f7a4_52 (⟨bcl hx, rfl⟩)

theorem ctX0_findK0 (l : Launch) (D : KD) (b a : Nat → Nat) (sd rd be ov : Int32) (qa qb qd : Int64) (lo : Nat → Int32) (cu : Nat → Int64) (we ce co sg cr : Int32) (Pp Kp Hp Lp Sp : Nat → Int32) (m : Nat → Int32) (n : Nat) (cr0 : Int32) (hK : KR we ce co sg cr0 Pp Kp Hp Lp Sp m n) : MV l D yX0_find wsX0_find 3 82 0 0 [.ref (b 0), .ref (a 0)] (wBa D b sd rd be ov qa qb qd lo cu ++ (wDo D a we ce co sg cr Pp Kp Hp Lp Sp)) (fun w1 => ∃ cx : Nat → Int64, w1 = wBa D b (bI (mR m n).1) (nI (mR m n).2.1) (mBe m n) (mOv m n) ((mR m n).2.2.2.1) ((mR m n).2.2.2.2.1) ((mR m n).2.2.2.2.2) (mLo m n) cx ++ wDo D a we ce co sg cr Pp Kp Hp Lp Sp) := by
  refine MV.imp (ctX0_find l D b a sd rd be ov qa qb qd lo cu we ce co sg cr Pp Kp Hp Lp Sp) ?_
  rintro w1 rfl
  have e1 : fBe (we, ce, co, sg, cr, Pp, Kp, Hp, Lp, Sp) = mBe m n := (show fBe (we, ce, co, sg, cr, Pp, Kp, Hp, Lp, Sp) = fBe (we, ce, co, sg, cr0, Pp, Kp, Hp, Lp, Sp) from rfl).trans (fBe_KR hK)
  have e2 : fOv (we, ce, co, sg, cr, Pp, Kp, Hp, Lp, Sp) = mOv m n := (show fOv (we, ce, co, sg, cr, Pp, Kp, Hp, Lp, Sp) = fOv (we, ce, co, sg, cr0, Pp, Kp, Hp, Lp, Sp) from rfl).trans (fOv_KR hK)
  have e3 : fLo (we, ce, co, sg, cr, Pp, Kp, Hp, Lp, Sp) = mLo m n := (show fLo (we, ce, co, sg, cr, Pp, Kp, Hp, Lp, Sp) = fLo (we, ce, co, sg, cr0, Pp, Kp, Hp, Lp, Sp) from rfl).trans (fLo_KR hK)
  have e4 : fnd (we, ce, co, sg, cr, Pp, Kp, Hp, Lp, Sp) = mR m n := (show fnd (we, ce, co, sg, cr, Pp, Kp, Hp, Lp, Sp) = fnd (we, ce, co, sg, cr0, Pp, Kp, Hp, Lp, Sp) from rfl).trans (fnd_KR hK)
  exact ⟨fCu (we, ce, co, sg, cr, Pp, Kp, Hp, Lp, Sp) cu, by rw [e1, e2, e3, e4]⟩

set_option maxRecDepth 100000 in
set_option maxHeartbeats 4000000 in
theorem ctX5_canPullN (l : Launch) (D : KD) (x a a2 b2 : Nat → Nat) (k2 k5 k6 k7 : Nat) (we ce co sg cr : Int32) (Pp Kp Hp Lp Sp : Nat → Int32) (we2 ce2 co2 sg2 cr2 : Int32) (Pp2 Kp2 Hp2 Lp2 Sp2 : Nat → Int32) (sd2 rd2 be2 ov2 : Int32) (qa2 qb2 qd2 : Int64) (lo2 : Nat → Int32) (cu2 : Nat → Int64) (m : Nat → Int32) (n : Nat) (hK : KR we ce co sg cr Pp Kp Hp Lp Sp m n) (i : Nat) (hi : i < 16) (h0 : bt sg i = false) : MI l D yX5_canPull wsX5_canPull 1 21 0 0 [.ref (x 0), .int (nI i)] (wKb D x (a 0) k2 (a2 0) (b2 0) k5 k6 k7 ++ (wDo D a we ce co sg cr Pp Kp Hp Lp Sp ++ (wDo D a2 we2 ce2 co2 sg2 cr2 Pp2 Kp2 Hp2 Lp2 Sp2 ++ (wBa D b2 sd2 rd2 be2 ov2 qa2 qb2 qd2 lo2 cu2)))) (fun r w1 => r = bI false ∧ w1 = (wKb D x (a 0) k2 (a2 0) (b2 0) k5 k6 k7 ++ (wDo D a we ce co sg cr Pp Kp Hp Lp Sp ++ (wDo D a2 we2 ce2 co2 sg2 cr2 Pp2 Kp2 Hp2 Lp2 Sp2 ++ (wBa D b2 sd2 rd2 be2 ov2 qa2 qb2 qd2 lo2 cu2))))) := by
  refine MI.ofz (cc := cX5_canPull) (nL := 2) (lv0 := [(0, .ref (x 0)), (1, .int (nI i))]) (by decide +kernel) rfl (Nat.le_of_ble_eq_true rfl) rfl ?_
  intro X hXl hin C ret
  subst hXl
  have hn := KR_n hK
  have hc := KR_c hK
  have hV := KR_V hK
  have hco := KR_co hK
  refine j_aload_n C 0 dX5_canPull_0 rfl rfl ?_
  refine j_get C 0 fgX5_canPull_10 rfl rfl dX5_canPull_1 ?_
  refine j_get C 1 fgX5_canPull_122 rfl rfl dX5_canPull_4 ?_
  refine j_iload_n C 1 dX5_canPull_7 rfl rfl ?_
  refine j_cs_i C (As := [.int sg, .int (nI i)]) (rest := []) (ctX5_isMember (xl X) D sg i (by omega)) mfX5_isMember gX5_canPull_X5_isMember rfl (Nat.le_of_ble_eq_true rfl) (Nat.le_of_ble_eq_true rfl) (Nat.le_of_ble_eq_true rfl) (Nat.le_of_ble_eq_true rfl) [] rfl rfl rfl (Nat.le_of_ble_eq_true rfl) dX5_canPull_8 ?_
  rintro _ _ ⟨rfl, rfl⟩
  refine ⟨Eq.trans (b := []) rfl rfl, ?_⟩
  refine j_w (w' := (wKb D x (a 0) k2 (a2 0) (b2 0) k5 k6 k7 ++ (wDo D a we ce co sg cr Pp Kp Hp Lp Sp ++ (wDo D a2 we2 ce2 co2 sg2 cr2 Pp2 Kp2 Hp2 Lp2 Sp2 ++ (wBa D b2 sd2 rd2 be2 ov2 qa2 qb2 qd2 lo2 cu2))))) rfl ?_
  refine j_bif_ne C dX5_canPull_11 (tgt := 16) (by decide) (fun h => (by rw [h0] at h; cases h)) (fun _ => ?_)
  refine j_iconst C (v := (0 : Int32)) dX5_canPull_14 rfl ?_
  exact ret dX5_canPull_15 (Or.inl rfl) (⟨rfl, rfl⟩)

set_option maxRecDepth 100000 in
set_option maxHeartbeats 4000000 in
theorem ctX5_canPull (l : Launch) (D : KD) (x a a2 b2 : Nat → Nat) (k2 k5 k6 k7 : Nat) (we ce co sg cr : Int32) (Pp Kp Hp Lp Sp : Nat → Int32) (we2 ce2 co2 sg2 cr2 : Int32) (Pp2 Kp2 Hp2 Lp2 Sp2 : Nat → Int32) (sd2 rd2 be2 ov2 : Int32) (qa2 qb2 qd2 : Int64) (lo2 : Nat → Int32) (cu2 : Nat → Int64) (m : Nat → Int32) (n : Nat) (hK : KR we ce co sg cr Pp Kp Hp Lp Sp m n) (i : Nat) (hi : i < n) (hz : mT m i = 0) : MI l D yX5_canPull wsX5_canPull 4 104 0 0 [.ref (x 0), .int (nI i)] (wKb D x (a 0) k2 (a2 0) (b2 0) k5 k6 k7 ++ (wDo D a we ce co sg cr Pp Kp Hp Lp Sp ++ (wDo D a2 we2 ce2 co2 sg2 cr2 Pp2 Kp2 Hp2 Lp2 Sp2 ++ (wBa D b2 sd2 rd2 be2 ov2 qa2 qb2 qd2 lo2 cu2)))) (fun r w1 => ∃ cx : Nat → Int64, r = bI (cpl m n i) ∧ w1 = (wKb D x (a 0) k2 (a2 0) (b2 0) k5 k6 k7 ++ (wDo D a we ce co sg cr Pp Kp Hp Lp Sp ++ (wDo D a2 we ce co (sg &&& (bit (nI i) ^^^ (-1))) cr Pp Kp Hp Lp Sp ++ (wBa D b2 (bI (mR (mSt m i 1) n).1) (nI (mR (mSt m i 1) n).2.1) (mBe (mSt m i 1) n) (mOv (mSt m i 1) n) ((mR (mSt m i 1) n).2.2.2.1) ((mR (mSt m i 1) n).2.2.2.2.1) ((mR (mSt m i 1) n).2.2.2.2.2) (mLo (mSt m i 1) n) cx))))) := by
  refine MI.ofz (cc := cX5_canPull) (nL := 2) (lv0 := [(0, .ref (x 0)), (1, .int (nI i))]) (by decide +kernel) rfl (Nat.le_of_ble_eq_true rfl) rfl ?_
  intro X hXl hin C ret
  subst hXl
  have hn := KR_n hK
  have hc := KR_c hK
  have hV := KR_V hK
  have hco := KR_co hK
  have hb : bt sg i = true := by rw [KR_sg hK i hi, hz]; rfl
  refine j_aload_n C 0 dX5_canPull_0 rfl rfl ?_
  refine j_get C 0 fgX5_canPull_10 rfl rfl dX5_canPull_1 ?_
  refine j_get C 1 fgX5_canPull_122 rfl rfl dX5_canPull_4 ?_
  refine j_iload_n C 1 dX5_canPull_7 rfl rfl ?_
  refine j_cs_i C (As := [.int sg, .int (nI i)]) (rest := []) (ctX5_isMember (xl X) D sg i (by omega)) mfX5_isMember gX5_canPull_X5_isMember rfl (Nat.le_of_ble_eq_true rfl) (Nat.le_of_ble_eq_true rfl) (Nat.le_of_ble_eq_true rfl) (Nat.le_of_ble_eq_true rfl) [] rfl rfl rfl (Nat.le_of_ble_eq_true rfl) dX5_canPull_8 ?_
  rintro _ _ ⟨rfl, rfl⟩
  refine ⟨Eq.trans (b := []) rfl rfl, ?_⟩
  refine j_w (w' := (wKb D x (a 0) k2 (a2 0) (b2 0) k5 k6 k7 ++ (wDo D a we ce co sg cr Pp Kp Hp Lp Sp ++ (wDo D a2 we2 ce2 co2 sg2 cr2 Pp2 Kp2 Hp2 Lp2 Sp2 ++ (wBa D b2 sd2 rd2 be2 ov2 qa2 qb2 qd2 lo2 cu2))))) rfl ?_
  refine j_bif_ne C dX5_canPull_11 (tgt := 16) (by decide) (fun _ => ?_) (fun h => (by rw [hb] at h; cases h))
  refine j_aload_n C 0 dX5_canPull_16 rfl rfl ?_
  refine j_cv_v C (As := []) (rest := []) (ctX5_startTrial (xl X) D x a a2 k2 (b2 0) k5 k6 k7 we ce co sg cr Pp Kp Hp Lp Sp we2 ce2 co2 sg2 cr2 Pp2 Kp2 Hp2 Lp2 Sp2) mfX5_startTrial gX5_canPull_X5_startTrial rfl (Nat.le_of_ble_eq_true rfl) (Nat.le_of_ble_eq_true rfl) (Nat.le_of_ble_eq_true rfl) (Nat.le_of_ble_eq_true rfl) [0, 1, 2, 3, 4, 5, 6, 7, 8, 9, 10, 11, 12] rfl rfl 0 rfl rfl rfl rfl (Nat.le_of_ble_eq_true rfl) dX5_canPull_17 ?_
  rintro _ rfl
  refine ⟨Eq.trans (b := [x 0, a 0, a 1, a 2, a 3, a 4, a 5, a2 0, a2 1, a2 2, a2 3, a2 4, a2 5]) rfl rfl, ?_⟩
  refine j_w (w' := (wKb D x (a 0) k2 (a2 0) (b2 0) k5 k6 k7 ++ (wDo D a we ce co sg cr Pp Kp Hp Lp Sp ++ (wDo D a2 we ce co sg cr Pp Kp Hp Lp Sp ++ (wBa D b2 sd2 rd2 be2 ov2 qa2 qb2 qd2 lo2 cu2))))) rfl ?_
  refine j_aload_n C 0 dX5_canPull_20 rfl rfl ?_
  refine j_get C 0 fgX5_canPull_23 rfl rfl dX5_canPull_21 ?_
  refine j_iload_n C 1 dX5_canPull_24 rfl rfl ?_
  refine j_cv_v C (As := [.int (nI i)]) (rest := []) (ctX1_pullOut (xl X) D a2 we ce co sg cr Pp Kp Hp Lp Sp (nI i)) mfX1_pullOut gX5_canPull_X1_pullOut rfl (Nat.le_of_ble_eq_true rfl) (Nat.le_of_ble_eq_true rfl) (Nat.le_of_ble_eq_true rfl) (Nat.le_of_ble_eq_true rfl) [7, 8, 9, 10, 11, 12] rfl rfl 0 rfl rfl rfl rfl (Nat.le_of_ble_eq_true rfl) dX5_canPull_25 ?_
  rintro _ rfl
  refine ⟨Eq.trans (b := [a2 0, a2 1, a2 2, a2 3, a2 4, a2 5]) rfl rfl, ?_⟩
  refine j_w (w' := (wKb D x (a 0) k2 (a2 0) (b2 0) k5 k6 k7 ++ (wDo D a we ce co sg cr Pp Kp Hp Lp Sp ++ (wDo D a2 we ce co (sg &&& (bit (nI i) ^^^ (-1))) cr Pp Kp Hp Lp Sp ++ (wBa D b2 sd2 rd2 be2 ov2 qa2 qb2 qd2 lo2 cu2))))) rfl ?_
  refine j_aload_n C 0 dX5_canPull_28 rfl rfl ?_
  refine j_get C 0 fgX5_canPull_26 rfl rfl dX5_canPull_29 ?_
  refine j_aload_n C 0 dX5_canPull_32 rfl rfl ?_
  refine j_get C 0 fgX5_canPull_23 rfl rfl dX5_canPull_33 ?_
  refine j_cv_v C (As := [.ref (a2 0)]) (rest := []) (ctX0_findK (xl X) D b2 a2 sd2 rd2 be2 ov2 qa2 qb2 qd2 lo2 cu2 we ce co (sg &&& (bit (nI i) ^^^ (-1))) cr Pp Kp Hp Lp Sp (mSt m i 1) n (KR_pull hK i hi hz)) mfX0_find gX5_canPull_X0_find rfl (Nat.le_of_ble_eq_true rfl) (Nat.le_of_ble_eq_true rfl) (Nat.le_of_ble_eq_true rfl) (Nat.le_of_ble_eq_true rfl) [13, 14, 15, 7, 8, 9, 10, 11, 12] rfl rfl 0 rfl rfl rfl rfl (Nat.le_of_ble_eq_true rfl) dX5_canPull_36 ?_
  rintro _ ⟨cx_36, rfl⟩
  refine ⟨Eq.trans (b := [b2 0, b2 1, b2 2, a2 0, a2 1, a2 2, a2 3, a2 4, a2 5]) rfl rfl, ?_⟩
  refine j_w (w' := (wKb D x (a 0) k2 (a2 0) (b2 0) k5 k6 k7 ++ (wDo D a we ce co sg cr Pp Kp Hp Lp Sp ++ (wDo D a2 we ce co (sg &&& (bit (nI i) ^^^ (-1))) cr Pp Kp Hp Lp Sp ++ (wBa D b2 (bI (mR (mSt m i 1) n).1) (nI (mR (mSt m i 1) n).2.1) (mBe (mSt m i 1) n) (mOv (mSt m i 1) n) ((mR (mSt m i 1) n).2.2.2.1) ((mR (mSt m i 1) n).2.2.2.2.1) ((mR (mSt m i 1) n).2.2.2.2.2) (mLo (mSt m i 1) n) cx_36))))) rfl ?_
  refine j_aload_n C 0 dX5_canPull_39 rfl rfl ?_
  refine j_get C 0 fgX5_canPull_26 rfl rfl dX5_canPull_40 ?_
  refine j_cv_i C (As := []) (rest := []) (ctX0_isSafe (xl X) D b2 ((mR (mSt m i 1) n).1) (nI (mR (mSt m i 1) n).2.1) (mBe (mSt m i 1) n) (mOv (mSt m i 1) n) ((mR (mSt m i 1) n).2.2.2.1) ((mR (mSt m i 1) n).2.2.2.2.1) ((mR (mSt m i 1) n).2.2.2.2.2) (mLo (mSt m i 1) n) cx_36) mfX0_isSafe gX5_canPull_X0_isSafe rfl (Nat.le_of_ble_eq_true rfl) (Nat.le_of_ble_eq_true rfl) (Nat.le_of_ble_eq_true rfl) (Nat.le_of_ble_eq_true rfl) [13, 14, 15] rfl rfl 0 rfl rfl rfl rfl (Nat.le_of_ble_eq_true rfl) dX5_canPull_43 ?_
  rintro _ _ ⟨rfl, rfl⟩
  refine ⟨Eq.trans (b := [b2 0, b2 1, b2 2]) rfl rfl, ?_⟩
  refine j_w (w' := (wKb D x (a 0) k2 (a2 0) (b2 0) k5 k6 k7 ++ (wDo D a we ce co sg cr Pp Kp Hp Lp Sp ++ (wDo D a2 we ce co (sg &&& (bit (nI i) ^^^ (-1))) cr Pp Kp Hp Lp Sp ++ (wBa D b2 (bI (mR (mSt m i 1) n).1) (nI (mR (mSt m i 1) n).2.1) (mBe (mSt m i 1) n) (mOv (mSt m i 1) n) ((mR (mSt m i 1) n).2.2.2.1) ((mR (mSt m i 1) n).2.2.2.2.1) ((mR (mSt m i 1) n).2.2.2.2.2) (mLo (mSt m i 1) n) cx_36))))) rfl ?_
  exact ret dX5_canPull_46 (bI_01 _) (⟨_, rfl, rfl⟩)

set_option maxRecDepth 100000 in
set_option maxHeartbeats 4000000 in
theorem ctX5_tryCascade (l : Launch) (D : KD) (x a a2 b2 : Nat → Nat) (k2 k5 k6 k7 : Nat) (we ce co sg cr : Int32) (Pp Kp Hp Lp Sp : Nat → Int32) (we2 ce2 co2 sg2 cr2 : Int32) (Pp2 Kp2 Hp2 Lp2 Sp2 : Nat → Int32) (sd2 rd2 be2 ov2 : Int32) (qa2 qb2 qd2 : Int64) (lo2 : Nat → Int32) (cu2 : Nat → Int64) (m : Nat → Int32) (n : Nat) (hK : KR we ce co sg cr Pp Kp Hp Lp Sp m n) : MI l D yX5_tryCascade wsX5_tryCascade 4 104 0 0 [.ref (x 0)] (wKb D x (a 0) k2 (a2 0) (b2 0) k5 k6 k7 ++ (wDo D a we ce co sg cr Pp Kp Hp Lp Sp ++ (wDo D a2 we2 ce2 co2 sg2 cr2 Pp2 Kp2 Hp2 Lp2 Sp2 ++ (wBa D b2 sd2 rd2 be2 ov2 qa2 qb2 qd2 lo2 cu2)))) (fun r w1 => ∃ (we1 ce1 co1 sg1 cr1 : Int32) (Pp1 Kp1 Hp1 Lp1 Sp1 : Nat → Int32) (cx : Nat → Int64), KR we1 ce1 co1 sg1 cr1 Pp1 Kp1 Hp1 Lp1 Sp1 (fal n 16 m 0 0).1 n ∧ r = (fal n 16 m 0 0).2.1 ∧ w1 = (wKb D x (a 0) k2 (a2 0) (b2 0) k5 k6 k7 ++ (wDo D a we ce co sg cr Pp Kp Hp Lp Sp ++ (wDo D a2 we1 ce1 co1 sg1 cr1 Pp1 Kp1 Hp1 Lp1 Sp1 ++ (wBa D b2 (bI (mR ((fal n 16 m 0 0).1) n).1) (nI (mR ((fal n 16 m 0 0).1) n).2.1) (mBe ((fal n 16 m 0 0).1) n) (mOv ((fal n 16 m 0 0).1) n) ((mR ((fal n 16 m 0 0).1) n).2.2.2.1) ((mR ((fal n 16 m 0 0).1) n).2.2.2.2.1) ((mR ((fal n 16 m 0 0).1) n).2.2.2.2.2) (mLo ((fal n 16 m 0 0).1) n) cx))))) := by
  refine MI.of (cc := cX5_tryCascade) (nL := 2) (lv0 := [(0, .ref (x 0))]) (by decide +kernel) rfl (Nat.le_of_ble_eq_true rfl) rfl ?_
  intro X hXl hin C ret
  subst hXl
  have hn := KR_n hK
  have hc := KR_c hK
  have hV := KR_V hK
  have hco := KR_co hK
  refine j_aload_n C 0 dX5_tryCascade_0 rfl rfl ?_
  refine j_cv_v C (As := []) (rest := []) (ctX5_startTrial (xl X) D x a a2 k2 (b2 0) k5 k6 k7 we ce co sg cr Pp Kp Hp Lp Sp we2 ce2 co2 sg2 cr2 Pp2 Kp2 Hp2 Lp2 Sp2) mfX5_startTrial gX5_tryCascade_X5_startTrial rfl (Nat.le_of_ble_eq_true rfl) (Nat.le_of_ble_eq_true rfl) (Nat.le_of_ble_eq_true rfl) (Nat.le_of_ble_eq_true rfl) [0, 1, 2, 3, 4, 5, 6, 7, 8, 9, 10, 11, 12] rfl rfl 0 rfl rfl rfl rfl (Nat.le_of_ble_eq_true rfl) dX5_tryCascade_1 ?_
  rintro _ rfl
  refine ⟨Eq.trans (b := [x 0, a 0, a 1, a 2, a 3, a 4, a 5, a2 0, a2 1, a2 2, a2 3, a2 4, a2 5]) rfl rfl, ?_⟩
  refine j_w (w' := (wKb D x (a 0) k2 (a2 0) (b2 0) k5 k6 k7 ++ (wDo D a we ce co sg cr Pp Kp Hp Lp Sp ++ (wDo D a2 we ce co sg cr Pp Kp Hp Lp Sp ++ (wBa D b2 sd2 rd2 be2 ov2 qa2 qb2 qd2 lo2 cu2))))) rfl ?_
  refine j_aload_n C 0 dX5_tryCascade_4 rfl rfl ?_
  refine j_get C 0 fgX5_tryCascade_26 rfl rfl dX5_tryCascade_5 ?_
  refine j_aload_n C 0 dX5_tryCascade_8 rfl rfl ?_
  refine j_get C 0 fgX5_tryCascade_23 rfl rfl dX5_tryCascade_9 ?_
  refine j_cv_v C (As := [.ref (a2 0)]) (rest := []) (ctX0_findK (xl X) D b2 a2 sd2 rd2 be2 ov2 qa2 qb2 qd2 lo2 cu2 we ce co sg cr Pp Kp Hp Lp Sp m n hK) mfX0_find gX5_tryCascade_X0_find rfl (Nat.le_of_ble_eq_true rfl) (Nat.le_of_ble_eq_true rfl) (Nat.le_of_ble_eq_true rfl) (Nat.le_of_ble_eq_true rfl) [13, 14, 15, 7, 8, 9, 10, 11, 12] rfl rfl 0 rfl rfl rfl rfl (Nat.le_of_ble_eq_true rfl) dX5_tryCascade_12 ?_
  rintro _ ⟨cx_12, rfl⟩
  refine ⟨Eq.trans (b := [b2 0, b2 1, b2 2, a2 0, a2 1, a2 2, a2 3, a2 4, a2 5]) rfl rfl, ?_⟩
  refine j_w (w' := (wKb D x (a 0) k2 (a2 0) (b2 0) k5 k6 k7 ++ (wDo D a we ce co sg cr Pp Kp Hp Lp Sp ++ (wDo D a2 we ce co sg cr Pp Kp Hp Lp Sp ++ (wBa D b2 (bI (mR m n).1) (nI (mR m n).2.1) (mBe m n) (mOv m n) ((mR m n).2.2.2.1) ((mR m n).2.2.2.2.1) ((mR m n).2.2.2.2.2) (mLo m n) cx_12))))) rfl ?_
  refine j_iconst C (v := (0 : Int32)) dX5_tryCascade_15 rfl ?_
  refine j_istore_n C dX5_tryCascade_16 rfl (by decide) (lv' := [(1, .int (0 : Int32)), (0, .ref (x 0))]) rfl ?_
  obtain ⟨R, hRf⟩ : ∃ R, fal n 16 m 0 0 = R := ⟨_, rfl⟩
  have key : ∀ (f1 : Nat) (m1 : Nat → Int32) (s1 c1 : Int32) (we1 ce1 co1 sg1 cr1 : Int32) (Pp1 Kp1 Hp1 Lp1 Sp1 : Nat → Int32) (cx1 : Nat → Int64), KR we1 ce1 co1 sg1 cr1 Pp1 Kp1 Hp1 Lp1 Sp1 m1 n → f1 ≤ 16 → s1 = nI (16 - f1) → fal n f1 m1 s1 c1 = R → J D X (wKb D x (a 0) k2 (a2 0) (b2 0) k5 k6 k7 ++ (wDo D a we ce co sg cr Pp Kp Hp Lp Sp ++ (wDo D a2 we1 ce1 co1 sg1 cr1 Pp1 Kp1 Hp1 Lp1 Sp1 ++ (wBa D b2 (bI (mR m1 n).1) (nI (mR m1 n).2.1) (mBe m1 n) (mOv m1 n) ((mR m1 n).2.2.2.1) ((mR m1 n).2.2.2.2.1) ((mR m1 n).2.2.2.2.2) (mLo m1 n) cx1)))) 0 0 17 [(1, .int s1), (0, .ref (x 0))] [] := by
    intro f1
    induction f1 with
    | zero =>
      intro m1 s1 c1 we1 ce1 co1 sg1 cr1 Pp1 Kp1 Hp1 Lp1 Sp1 cx1 hK1 hf hs1 hres
      have hs16 : s1 = 16 := hs1
      refine j_iload_n C 0 dX5_tryCascade_17 rfl rfl ?_
      refine j_bipush C (v := (16 : Int32)) dX5_tryCascade_18 rfl ?_
      refine j_icmp_ge C dX5_tryCascade_20 (tgt := 64) (by decide) (fun _ => ?_) (fun h => absurd (by rw [hs16]; decide) h)
      refine j_iload_n C 0 dX5_tryCascade_64 rfl rfl ?_
      exact ret dX5_tryCascade_65 (⟨_, _, _, _, _, _, _, _, _, _, _, by rw [hRf, ← hres]; exact hK1, by rw [hRf, ← hres]; rfl, by rw [hRf, ← hres]; rfl⟩)
    | succ f1 ih =>
      intro m1 s1 c1 we1 ce1 co1 sg1 cr1 Pp1 Kp1 Hp1 Lp1 Sp1 cx1 hK1 hf hs1 hres
      refine j_iload_n C 0 dX5_tryCascade_17 rfl rfl ?_
      refine j_bipush C (v := (16 : Int32)) dX5_tryCascade_18 rfl ?_
      refine j_icmp_ge C dX5_tryCascade_20 (tgt := 64) (by decide) (fun h => absurd h (by rw [hs1]; exact nI_ge (b := 16) (by omega) (by decide))) (fun _ => ?_)
      refine j_aload_n C 1 dX5_tryCascade_23 rfl rfl ?_
      refine j_get C 0 fgX5_tryCascade_26 rfl rfl dX5_tryCascade_24 ?_
      refine j_get C 13 fgX5_tryCascade_166 rfl rfl dX5_tryCascade_27 ?_
      refine j_if_eq C dX5_tryCascade_30 (tgt := 64) (by decide) (fun h30 => ?_) (fun h30 => ?_)
      · refine j_iload_n C 0 dX5_tryCascade_64 rfl rfl ?_
        exact ret dX5_tryCascade_65 (⟨_, _, _, _, _, _, _, _, _, _, _, by rw [hRf, ← hres, fal_0 h30]; exact hK1, by rw [hRf, ← hres, fal_0 h30], by rw [hRf, ← hres, fal_0 h30]⟩)
      · refine j_aload_n C 1 dX5_tryCascade_33 rfl rfl ?_
        refine j_get C 0 fgX5_tryCascade_23 rfl rfl dX5_tryCascade_34 ?_
        refine j_aload_n C 1 dX5_tryCascade_37 rfl rfl ?_
        refine j_get C 0 fgX5_tryCascade_26 rfl rfl dX5_tryCascade_38 ?_
        refine j_get C 13 fgX5_tryCascade_166 rfl rfl dX5_tryCascade_41 ?_
        refine j_cv_v C (As := [.int (mOv m1 n)]) (rest := []) (ctX1_crush (xl X) D a2 we1 ce1 co1 sg1 cr1 Pp1 Kp1 Hp1 Lp1 Sp1 (mOv m1 n)) mfX1_crush gX5_tryCascade_X1_crush rfl (Nat.le_of_ble_eq_true rfl) (Nat.le_of_ble_eq_true rfl) (Nat.le_of_ble_eq_true rfl) (Nat.le_of_ble_eq_true rfl) [7, 8, 9, 10, 11, 12] rfl rfl 0 rfl rfl rfl rfl (Nat.le_of_ble_eq_true rfl) dX5_tryCascade_44 ?_
        rintro _ rfl
        refine ⟨Eq.trans (b := [a2 0, a2 1, a2 2, a2 3, a2 4, a2 5]) rfl rfl, ?_⟩
        refine j_w (w' := (wKb D x (a 0) k2 (a2 0) (b2 0) k5 k6 k7 ++ (wDo D a we ce co sg cr Pp Kp Hp Lp Sp ++ (wDo D a2 we1 ce1 co1 (sg1 &&& ((mOv m1 n) ^^^ (-1))) (cr1 ||| (mOv m1 n)) Pp1 Kp1 Hp1 Lp1 Sp1 ++ (wBa D b2 (bI (mR m1 n).1) (nI (mR m1 n).2.1) (mBe m1 n) (mOv m1 n) ((mR m1 n).2.2.2.1) ((mR m1 n).2.2.2.2.1) ((mR m1 n).2.2.2.2.2) (mLo m1 n) cx1))))) rfl ?_
        refine j_aload_n C 1 dX5_tryCascade_47 rfl rfl ?_
        refine j_get C 0 fgX5_tryCascade_26 rfl rfl dX5_tryCascade_48 ?_
        refine j_aload_n C 1 dX5_tryCascade_51 rfl rfl ?_
        refine j_get C 0 fgX5_tryCascade_23 rfl rfl dX5_tryCascade_52 ?_
        refine j_cv_v C (As := [.ref (a2 0)]) (rest := []) (ctX0_findK (xl X) D b2 a2 (bI (mR m1 n).1) (nI (mR m1 n).2.1) (mBe m1 n) (mOv m1 n) ((mR m1 n).2.2.2.1) ((mR m1 n).2.2.2.2.1) ((mR m1 n).2.2.2.2.2) (mLo m1 n) cx1 we1 ce1 co1 (sg1 &&& ((mOv m1 n) ^^^ (-1))) (cr1 ||| (mOv m1 n)) Pp1 Kp1 Hp1 Lp1 Sp1 (crk m1 (mOv m1 n) n) n (KR_crush hK1 _ (ovb_hi n (by omega)))) mfX0_find gX5_tryCascade_X0_find rfl (Nat.le_of_ble_eq_true rfl) (Nat.le_of_ble_eq_true rfl) (Nat.le_of_ble_eq_true rfl) (Nat.le_of_ble_eq_true rfl) [13, 14, 15, 7, 8, 9, 10, 11, 12] rfl rfl 0 rfl rfl rfl rfl (Nat.le_of_ble_eq_true rfl) dX5_tryCascade_55 ?_
        rintro _ ⟨cx_55, rfl⟩
        refine ⟨Eq.trans (b := [b2 0, b2 1, b2 2, a2 0, a2 1, a2 2, a2 3, a2 4, a2 5]) rfl rfl, ?_⟩
        refine j_w (w' := (wKb D x (a 0) k2 (a2 0) (b2 0) k5 k6 k7 ++ (wDo D a we ce co sg cr Pp Kp Hp Lp Sp ++ (wDo D a2 we1 ce1 co1 (sg1 &&& ((mOv m1 n) ^^^ (-1))) (cr1 ||| (mOv m1 n)) Pp1 Kp1 Hp1 Lp1 Sp1 ++ (wBa D b2 (bI (mR (crk m1 (mOv m1 n) n) n).1) (nI (mR (crk m1 (mOv m1 n) n) n).2.1) (mBe (crk m1 (mOv m1 n) n) n) (mOv (crk m1 (mOv m1 n) n) n) ((mR (crk m1 (mOv m1 n) n) n).2.2.2.1) ((mR (crk m1 (mOv m1 n) n) n).2.2.2.2.1) ((mR (crk m1 (mOv m1 n) n) n).2.2.2.2.2) (mLo (crk m1 (mOv m1 n) n) n) cx_55))))) rfl ?_
        refine j_iinc C 0 dX5_tryCascade_58 rfl (v := s1 + (1 : Int32)) rfl (by decide) (lv' := [(1, .int (s1 + (1 : Int32))), (0, .ref (x 0))]) rfl ?_
        refine j_goto C dX5_tryCascade_61 (tgt := 17) (by decide) ?_
        refine j_sub [0, 1] (lv' := [(1, .int (s1 + (1 : Int32))), (0, .ref (x 0))]) rfl ?_
        exact ih (crk m1 (mOv m1 n) n) (s1 + 1) (c1 + cntI (mOv m1 n) 16) _ _ _ _ _ _ _ _ _ _ _ (KR_crush hK1 _ (ovb_hi n (by omega))) (by omega) (by rw [hs1, nI_1]; congr 1; omega) (by rw [← hres, fal_s h30])
  refine j_sub [0, 1] (lv' := [(1, .int (0 : Int32)), (0, .ref (x 0))]) rfl ?_
  exact key 16 m 0 0 _ _ _ _ _ _ _ _ _ _ _ hK (by omega) rfl hRf

set_option maxRecDepth 100000 in
set_option maxHeartbeats 4000000 in
theorem ctX5_tryShaving (l : Launch) (D : KD) (x a a2 b2 : Nat → Nat) (k2 k5 k6 k7 : Nat) (we ce co sg cr : Int32) (Pp Kp Hp Lp Sp : Nat → Int32) (we2 ce2 co2 sg2 cr2 : Int32) (Pp2 Kp2 Hp2 Lp2 Sp2 : Nat → Int32) (sd2 rd2 be2 ov2 : Int32) (qa2 qb2 qd2 : Int64) (lo2 : Nat → Int32) (cu2 : Nat → Int64) (m : Nat → Int32) (n : Nat) (hK : KR we ce co sg cr Pp Kp Hp Lp Sp m n) : MI l D yX5_tryShaving wsX5_tryShaving 4 104 0 0 [.ref (x 0)] (wKb D x (a 0) k2 (a2 0) (b2 0) k5 k6 k7 ++ (wDo D a we ce co sg cr Pp Kp Hp Lp Sp ++ (wDo D a2 we2 ce2 co2 sg2 cr2 Pp2 Kp2 Hp2 Lp2 Sp2 ++ (wBa D b2 sd2 rd2 be2 ov2 qa2 qb2 qd2 lo2 cu2)))) (fun r w1 => ∃ (we1 ce1 co1 sg1 cr1 : Int32) (Pp1 Kp1 Hp1 Lp1 Sp1 : Nat → Int32) (cx : Nat → Int64), KR we1 ce1 co1 sg1 cr1 Pp1 Kp1 Hp1 Lp1 Sp1 (shv n 100 m 0).1 n ∧ r = (shv n 100 m 0).2 ∧ w1 = (wKb D x (a 0) k2 (a2 0) (b2 0) k5 k6 k7 ++ (wDo D a we ce co sg cr Pp Kp Hp Lp Sp ++ (wDo D a2 we1 ce1 co1 sg1 cr1 Pp1 Kp1 Hp1 Lp1 Sp1 ++ (wBa D b2 (bI (mR ((shv n 100 m 0).1) n).1) (nI (mR ((shv n 100 m 0).1) n).2.1) (mBe ((shv n 100 m 0).1) n) (mOv ((shv n 100 m 0).1) n) ((mR ((shv n 100 m 0).1) n).2.2.2.1) ((mR ((shv n 100 m 0).1) n).2.2.2.2.1) ((mR ((shv n 100 m 0).1) n).2.2.2.2.2) (mLo ((shv n 100 m 0).1) n) cx))))) := by
  refine MI.of (cc := cX5_tryShaving) (nL := 2) (lv0 := [(0, .ref (x 0))]) (by decide +kernel) rfl (Nat.le_of_ble_eq_true rfl) rfl ?_
  intro X hXl hin C ret
  subst hXl
  have hn := KR_n hK
  have hc := KR_c hK
  have hV := KR_V hK
  have hco := KR_co hK
  refine j_aload_n C 0 dX5_tryShaving_0 rfl rfl ?_
  refine j_cv_v C (As := []) (rest := []) (ctX5_startTrial (xl X) D x a a2 k2 (b2 0) k5 k6 k7 we ce co sg cr Pp Kp Hp Lp Sp we2 ce2 co2 sg2 cr2 Pp2 Kp2 Hp2 Lp2 Sp2) mfX5_startTrial gX5_tryShaving_X5_startTrial rfl (Nat.le_of_ble_eq_true rfl) (Nat.le_of_ble_eq_true rfl) (Nat.le_of_ble_eq_true rfl) (Nat.le_of_ble_eq_true rfl) [0, 1, 2, 3, 4, 5, 6, 7, 8, 9, 10, 11, 12] rfl rfl 0 rfl rfl rfl rfl (Nat.le_of_ble_eq_true rfl) dX5_tryShaving_1 ?_
  rintro _ rfl
  refine ⟨Eq.trans (b := [x 0, a 0, a 1, a 2, a 3, a 4, a 5, a2 0, a2 1, a2 2, a2 3, a2 4, a2 5]) rfl rfl, ?_⟩
  refine j_w (w' := (wKb D x (a 0) k2 (a2 0) (b2 0) k5 k6 k7 ++ (wDo D a we ce co sg cr Pp Kp Hp Lp Sp ++ (wDo D a2 we ce co sg cr Pp Kp Hp Lp Sp ++ (wBa D b2 sd2 rd2 be2 ov2 qa2 qb2 qd2 lo2 cu2))))) rfl ?_
  refine j_aload_n C 0 dX5_tryShaving_4 rfl rfl ?_
  refine j_get C 0 fgX5_tryShaving_26 rfl rfl dX5_tryShaving_5 ?_
  refine j_aload_n C 0 dX5_tryShaving_8 rfl rfl ?_
  refine j_get C 0 fgX5_tryShaving_23 rfl rfl dX5_tryShaving_9 ?_
  refine j_cv_v C (As := [.ref (a2 0)]) (rest := []) (ctX0_findK (xl X) D b2 a2 sd2 rd2 be2 ov2 qa2 qb2 qd2 lo2 cu2 we ce co sg cr Pp Kp Hp Lp Sp m n hK) mfX0_find gX5_tryShaving_X0_find rfl (Nat.le_of_ble_eq_true rfl) (Nat.le_of_ble_eq_true rfl) (Nat.le_of_ble_eq_true rfl) (Nat.le_of_ble_eq_true rfl) [13, 14, 15, 7, 8, 9, 10, 11, 12] rfl rfl 0 rfl rfl rfl rfl (Nat.le_of_ble_eq_true rfl) dX5_tryShaving_12 ?_
  rintro _ ⟨cx_12, rfl⟩
  refine ⟨Eq.trans (b := [b2 0, b2 1, b2 2, a2 0, a2 1, a2 2, a2 3, a2 4, a2 5]) rfl rfl, ?_⟩
  refine j_w (w' := (wKb D x (a 0) k2 (a2 0) (b2 0) k5 k6 k7 ++ (wDo D a we ce co sg cr Pp Kp Hp Lp Sp ++ (wDo D a2 we ce co sg cr Pp Kp Hp Lp Sp ++ (wBa D b2 (bI (mR m n).1) (nI (mR m n).2.1) (mBe m n) (mOv m n) ((mR m n).2.2.2.1) ((mR m n).2.2.2.2.1) ((mR m n).2.2.2.2.2) (mLo m n) cx_12))))) rfl ?_
  refine j_iconst C (v := (0 : Int32)) dX5_tryShaving_15 rfl ?_
  refine j_istore_n C dX5_tryShaving_16 rfl (by decide) (lv' := [(1, .int (0 : Int32)), (0, .ref (x 0))]) rfl ?_
  obtain ⟨R, hRf⟩ : ∃ R, shv n 100 m 0 = R := ⟨_, rfl⟩
  have key : ∀ (f1 : Nat) (m1 : Nat → Int32) (s1 : Int32) (we1 ce1 co1 sg1 cr1 : Int32) (Pp1 Kp1 Hp1 Lp1 Sp1 : Nat → Int32) (cx1 : Nat → Int64), KR we1 ce1 co1 sg1 cr1 Pp1 Kp1 Hp1 Lp1 Sp1 m1 n → f1 ≤ 100 → s1 = nI (100 - f1) → shv n f1 m1 s1 = R → J D X (wKb D x (a 0) k2 (a2 0) (b2 0) k5 k6 k7 ++ (wDo D a we ce co sg cr Pp Kp Hp Lp Sp ++ (wDo D a2 we1 ce1 co1 sg1 cr1 Pp1 Kp1 Hp1 Lp1 Sp1 ++ (wBa D b2 (bI (mR m1 n).1) (nI (mR m1 n).2.1) (mBe m1 n) (mOv m1 n) ((mR m1 n).2.2.2.1) ((mR m1 n).2.2.2.2.1) ((mR m1 n).2.2.2.2.2) (mLo m1 n) cx1)))) 0 0 17 [(1, .int s1), (0, .ref (x 0))] [] := by
    intro f1
    induction f1 with
    | zero =>
      intro m1 s1 we1 ce1 co1 sg1 cr1 Pp1 Kp1 Hp1 Lp1 Sp1 cx1 hK1 hf hs1 hres
      have hs100 : s1 = 100 := hs1
      refine j_iload_n C 0 dX5_tryShaving_17 rfl rfl ?_
      refine j_bipush C (v := (100 : Int32)) dX5_tryShaving_18 rfl ?_
      refine j_icmp_ge C dX5_tryShaving_20 (tgt := 61) (by decide) (fun _ => ?_) (fun h => absurd (by rw [hs100]; decide) h)
      refine j_iload_n C 0 dX5_tryShaving_61 rfl rfl ?_
      exact ret dX5_tryShaving_62 (⟨_, _, _, _, _, _, _, _, _, _, _, by rw [hRf, ← hres]; exact hK1, by rw [hRf, ← hres]; rfl, by rw [hRf, ← hres]; rfl⟩)
    | succ f1 ih =>
      intro m1 s1 we1 ce1 co1 sg1 cr1 Pp1 Kp1 Hp1 Lp1 Sp1 cx1 hK1 hf hs1 hres
      refine j_iload_n C 0 dX5_tryShaving_17 rfl rfl ?_
      refine j_bipush C (v := (100 : Int32)) dX5_tryShaving_18 rfl ?_
      refine j_icmp_ge C dX5_tryShaving_20 (tgt := 61) (by decide) (fun h => absurd h (by rw [hs1]; exact nI_ge (b := 100) (by omega) (by decide))) (fun _ => ?_)
      refine j_aload_n C 1 dX5_tryShaving_23 rfl rfl ?_
      refine j_get C 0 fgX5_tryShaving_23 rfl rfl dX5_tryShaving_24 ?_
      refine j_aload_n C 1 dX5_tryShaving_27 rfl rfl ?_
      refine j_get C 0 fgX5_tryShaving_26 rfl rfl dX5_tryShaving_28 ?_
      refine j_aload_n C 1 dX5_tryShaving_31 rfl rfl ?_
      refine j_get C 0 fgX5_tryShaving_23 rfl rfl dX5_tryShaving_32 ?_
      refine j_cv_i C (As := [.ref (a2 0)]) (rest := [.ref (a2 0)]) (ctX0_mostOverloaded (xl X) D b2 a2 (bI (mR m1 n).1) (nI (mR m1 n).2.1) (mBe m1 n) (mOv m1 n) ((mR m1 n).2.2.2.1) ((mR m1 n).2.2.2.2.1) ((mR m1 n).2.2.2.2.2) (mLo m1 n) cx1 we1 ce1 co1 sg1 cr1 Pp1 Kp1 Hp1 Lp1 Sp1) mfX0_mostOverloaded gX5_tryShaving_X0_mostOverloaded rfl (Nat.le_of_ble_eq_true rfl) (Nat.le_of_ble_eq_true rfl) (Nat.le_of_ble_eq_true rfl) (Nat.le_of_ble_eq_true rfl) [13, 14, 15, 7, 8, 9, 10, 11, 12] rfl rfl 0 rfl rfl rfl rfl (Nat.le_of_ble_eq_true rfl) dX5_tryShaving_35 ?_
      rintro _ _ ⟨rfl, rfl⟩
      refine ⟨Eq.trans (b := [b2 0, b2 1, b2 2, a2 0, a2 1, a2 2, a2 3, a2 4, a2 5]) rfl rfl, ?_⟩
      refine j_w (w' := (wKb D x (a 0) k2 (a2 0) (b2 0) k5 k6 k7 ++ (wDo D a we ce co sg cr Pp Kp Hp Lp Sp ++ (wDo D a2 we1 ce1 co1 sg1 cr1 Pp1 Kp1 Hp1 Lp1 Sp1 ++ (wBa D b2 (bI (mR m1 n).1) (nI (mR m1 n).2.1) (mBe m1 n) (mOv m1 n) ((mR m1 n).2.2.2.1) ((mR m1 n).2.2.2.2.1) ((mR m1 n).2.2.2.2.2) (mLo m1 n) cx1))))) rfl ?_
      rw [moI_KR hK1]
      have hn1 := KR_n hK1
      by_cases hst : mNs m1 n = -1 ∨ mH m1 (mNs m1 n).toNatClampNeg ≤ -50
      · have hlw : dLow co1 Hp1 (mNs m1 n) = false := by
          rcases hst with e | e
          · rw [e]; unfold dLow; rw [show dHas co1 (-1) = false from by simp [dHas]]; rfl
          · rcases nsI_ix (sb := (mR m1 n).1) (lo := mLo m1 n) (L := mL m1) n hn1 with e0 | ⟨k1, hk1, e0⟩
            · unfold dLow; rw [show mNs m1 n = -1 from e0, show dHas co1 (-1) = false from by simp [dHas]]; rfl
            · have e0 : mNs m1 n = nI k1 := e0
              rw [e0, nI_clamp (by omega)] at e
              unfold dLow
              rw [e0, nI_clamp (by omega), (KR_at hK1 k1 hk1).2.2.1]
              simp [e]
        refine j_cv_i C (As := [.int (mNs m1 n)]) (rest := []) (ctX1_lowerCapF (xl X) D a2 we1 ce1 co1 sg1 cr1 Pp1 Kp1 Hp1 Lp1 Sp1 (mNs m1 n) hlw) mfX1_lowerCap gX5_tryShaving_X1_lowerCap rfl (Nat.le_of_ble_eq_true rfl) (Nat.le_of_ble_eq_true rfl) (Nat.le_of_ble_eq_true rfl) (Nat.le_of_ble_eq_true rfl) [7, 8, 9, 10, 11, 12] rfl rfl 0 rfl rfl rfl rfl (Nat.le_of_ble_eq_true rfl) dX5_tryShaving_38 ?_
        rintro _ _ ⟨rfl, rfl⟩
        refine ⟨Eq.trans (b := [a2 0, a2 1, a2 2, a2 3, a2 4, a2 5]) rfl rfl, ?_⟩
        refine j_w (w' := (wKb D x (a 0) k2 (a2 0) (b2 0) k5 k6 k7 ++ (wDo D a we ce co sg cr Pp Kp Hp Lp Sp ++ (wDo D a2 we1 ce1 co1 sg1 cr1 Pp1 Kp1 Hp1 Lp1 Sp1 ++ (wBa D b2 (bI (mR m1 n).1) (nI (mR m1 n).2.1) (mBe m1 n) (mOv m1 n) ((mR m1 n).2.2.2.1) ((mR m1 n).2.2.2.2.1) ((mR m1 n).2.2.2.2.2) (mLo m1 n) cx1))))) rfl ?_
        refine j_if_eq C dX5_tryShaving_41 (tgt := 61) (by decide) (fun _ => ?_) (fun h => absurd (by decide) h)
        refine j_iload_n C 0 dX5_tryShaving_61 rfl rfl ?_
        exact ret dX5_tryShaving_62 (⟨_, _, _, _, _, _, _, _, _, _, _, by rw [hRf, ← hres, shv_0 hst]; exact hK1, by rw [hRf, ← hres, shv_0 hst], by rw [hRf, ← hres, shv_0 hst]⟩)
      · have hgo := hst
        have hne : ¬ mNs m1 n = -1 := fun z => hst (Or.inl z)
        obtain ⟨k1, hk1, hkk⟩ := (nsI_ix (sb := (mR m1 n).1) (lo := mLo m1 n) (L := mL m1) n hn1).resolve_left hne
        have hkk : mNs m1 n = nI k1 := hkk
        have hH : ¬ mH m1 k1 ≤ -50 := fun z => hst (Or.inr (by rw [hkk, nI_clamp (by omega)]; exact z))
        rw [hkk]
        have hlw : dLow co1 Hp1 (nI k1) = true := by
          unfold dLow
          rw [KR_has hK1, pIn_blk (KR_c hK1) hn1 hk1, nI_clamp (by omega), (KR_at hK1 k1 hk1).2.2.1]
          simpa using hH
        refine j_cv_i C (As := [.int (nI k1)]) (rest := []) (ctX1_lowerCap (xl X) D a2 we1 ce1 co1 sg1 cr1 Pp1 Kp1 Hp1 Lp1 Sp1 (nI k1) hlw) mfX1_lowerCap gX5_tryShaving_X1_lowerCap rfl (Nat.le_of_ble_eq_true rfl) (Nat.le_of_ble_eq_true rfl) (Nat.le_of_ble_eq_true rfl) (Nat.le_of_ble_eq_true rfl) [7, 8, 9, 10, 11, 12] rfl rfl 0 rfl rfl rfl rfl (Nat.le_of_ble_eq_true rfl) dX5_tryShaving_38 ?_
        rintro _ _ ⟨rfl, rfl⟩
        refine ⟨Eq.trans (b := [a2 0, a2 1, a2 2, a2 3, a2 4, a2 5]) rfl rfl, ?_⟩
        refine j_w (w' := (wKb D x (a 0) k2 (a2 0) (b2 0) k5 k6 k7 ++ (wDo D a we ce co sg cr Pp Kp Hp Lp Sp ++ (wDo D a2 we1 ce1 co1 sg1 cr1 Pp1 Kp1 (upd Hp1 ((nI k1).toNatClampNeg) (Hp1 ((nI k1).toNatClampNeg) - 1)) Lp1 (upd Sp1 ((nI k1).toNatClampNeg) (Sp1 ((nI k1).toNatClampNeg) + 1)) ++ (wBa D b2 (bI (mR m1 n).1) (nI (mR m1 n).2.1) (mBe m1 n) (mOv m1 n) ((mR m1 n).2.2.2.1) ((mR m1 n).2.2.2.2.1) ((mR m1 n).2.2.2.2.2) (mLo m1 n) cx1))))) rfl ?_
        rw [nI_clamp (show k1 < 2 ^ 31 by omega)]
        refine j_if_eq C dX5_tryShaving_41 (tgt := 61) (by decide) (fun h => absurd h (by decide)) (fun _ => ?_)
        refine j_aload_n C 1 dX5_tryShaving_44 rfl rfl ?_
        refine j_get C 0 fgX5_tryShaving_26 rfl rfl dX5_tryShaving_45 ?_
        refine j_aload_n C 1 dX5_tryShaving_48 rfl rfl ?_
        refine j_get C 0 fgX5_tryShaving_23 rfl rfl dX5_tryShaving_49 ?_
        refine j_cv_v C (As := [.ref (a2 0)]) (rest := []) (ctX0_findK (xl X) D b2 a2 (bI (mR m1 n).1) (nI (mR m1 n).2.1) (mBe m1 n) (mOv m1 n) ((mR m1 n).2.2.2.1) ((mR m1 n).2.2.2.2.1) ((mR m1 n).2.2.2.2.2) (mLo m1 n) cx1 we1 ce1 co1 sg1 cr1 Pp1 Kp1 (upd Hp1 k1 (Hp1 k1 - 1)) Lp1 (upd Sp1 k1 (Sp1 k1 + 1)) (shp m1 k1) n (KR_low hK1 k1 hk1 hH)) mfX0_find gX5_tryShaving_X0_find rfl (Nat.le_of_ble_eq_true rfl) (Nat.le_of_ble_eq_true rfl) (Nat.le_of_ble_eq_true rfl) (Nat.le_of_ble_eq_true rfl) [13, 14, 15, 7, 8, 9, 10, 11, 12] rfl rfl 0 rfl rfl rfl rfl (Nat.le_of_ble_eq_true rfl) dX5_tryShaving_52 ?_
        rintro _ ⟨cx_52, rfl⟩
        refine ⟨Eq.trans (b := [b2 0, b2 1, b2 2, a2 0, a2 1, a2 2, a2 3, a2 4, a2 5]) rfl rfl, ?_⟩
        refine j_w (w' := (wKb D x (a 0) k2 (a2 0) (b2 0) k5 k6 k7 ++ (wDo D a we ce co sg cr Pp Kp Hp Lp Sp ++ (wDo D a2 we1 ce1 co1 sg1 cr1 Pp1 Kp1 (upd Hp1 k1 (Hp1 k1 - 1)) Lp1 (upd Sp1 k1 (Sp1 k1 + 1)) ++ (wBa D b2 (bI (mR (shp m1 k1) n).1) (nI (mR (shp m1 k1) n).2.1) (mBe (shp m1 k1) n) (mOv (shp m1 k1) n) ((mR (shp m1 k1) n).2.2.2.1) ((mR (shp m1 k1) n).2.2.2.2.1) ((mR (shp m1 k1) n).2.2.2.2.2) (mLo (shp m1 k1) n) cx_52))))) rfl ?_
        refine j_iinc C 0 dX5_tryShaving_55 rfl (v := s1 + (1 : Int32)) rfl (by decide) (lv' := [(1, .int (s1 + (1 : Int32))), (0, .ref (x 0))]) rfl ?_
        refine j_goto C dX5_tryShaving_58 (tgt := 17) (by decide) ?_
        refine j_sub [0, 1] (lv' := [(1, .int (s1 + (1 : Int32))), (0, .ref (x 0))]) rfl ?_
        exact ih (shp m1 k1) (s1 + 1) _ _ _ _ _ _ _ _ _ _ _ (KR_low hK1 k1 hk1 hH) (by omega) (by rw [hs1, nI_1]; congr 1; omega) (by rw [← hres, shv_s hgo, hkk, nI_clamp (by omega)])
  refine j_sub [0, 1] (lv' := [(1, .int (0 : Int32)), (0, .ref (x 0))]) rfl ?_
  exact key 100 m 0 _ _ _ _ _ _ _ _ _ _ _ hK (by omega) rfl hRf

