theorem mfX5_addBlock : MF yX5_addBlock wsX5_addBlock cX5_addBlock 6 (some .int) 4 := ⟨⟨_, rfl⟩, by decide +kernel, by decide +kernel, by decide +kernel⟩
theorem m_addBlock_Cond_classLink_RL_15_xIA : (Cond.classLink RL 15 xIA : Cond) ∈ wsL_addBlock := by decide +kernel
theorem k_addBlock_17 : Cond.constant RL 17 (-9010000) ∈ wsL_addBlock := by decide +kernel
theorem m_addBlock_Cond_classLink_RL_18_xIS : (Cond.classLink RL 18 xIS : Cond) ∈ wsL_addBlock := by decide +kernel
theorem k_addBlock_20 : Cond.constant RL 20 (-9020000) ∈ wsL_addBlock := by decide +kernel
theorem mfX5_setCap : MF yX5_setCap wsX5_setCap cX5_setCap 4 (some .int) 2 := ⟨⟨_, rfl⟩, by decide +kernel, by decide +kernel, by decide +kernel⟩
theorem m_setCap_Cond_classLink_RL_25_xIO : (Cond.classLink RL 25 xIO : Cond) ∈ wsL_setCap := by decide +kernel
theorem k_setCap_27 : Cond.constant RL 27 (-9030000) ∈ wsL_setCap := by decide +kernel
theorem mfX5_setLimit : MF yX5_setLimit wsX5_setLimit cX5_setLimit 4 (some .int) 2 := ⟨⟨_, rfl⟩, by decide +kernel, by decide +kernel, by decide +kernel⟩
theorem m_setLimit_Cond_classLink_RL_25_xIO : (Cond.classLink RL 25 xIO : Cond) ∈ wsL_setLimit := by decide +kernel
theorem k_setLimit_27 : Cond.constant RL 27 (-9030000) ∈ wsL_setLimit := by decide +kernel
theorem mfX5_setShip : MF yX5_setShip wsX5_setShip cX5_setShip 4 (some .int) 2 := ⟨⟨_, rfl⟩, by decide +kernel, by decide +kernel, by decide +kernel⟩
theorem m_setShip_Cond_classLink_RL_15_xIA : (Cond.classLink RL 15 xIA : Cond) ∈ wsL_setShip := by decide +kernel
theorem k_setShip_17 : Cond.constant RL 17 (-9010000) ∈ wsL_setShip := by decide +kernel
theorem mfX5_pull : MF yX5_pull wsX5_pull cX5_pull 2 (some .int) 1 := ⟨⟨_, rfl⟩, by decide +kernel, by decide +kernel, by decide +kernel⟩
theorem m_pull_Cond_classLink_RL_25_xIO : (Cond.classLink RL 25 xIO : Cond) ∈ wsL_pull := by decide +kernel
theorem k_pull_27 : Cond.constant RL 27 (-9030000) ∈ wsL_pull := by decide +kernel
theorem m_pull_Cond_classLink_RL_18_xIS : (Cond.classLink RL 18 xIS : Cond) ∈ wsL_pull := by decide +kernel
theorem k_pull_20 : Cond.constant RL 20 (-9020000) ∈ wsL_pull := by decide +kernel
theorem mfX5_put : MF yX5_put wsX5_put cX5_put 2 (some .int) 1 := ⟨⟨_, rfl⟩, by decide +kernel, by decide +kernel, by decide +kernel⟩
theorem m_put_Cond_classLink_RL_25_xIO : (Cond.classLink RL 25 xIO : Cond) ∈ wsL_put := by decide +kernel
theorem k_put_27 : Cond.constant RL 27 (-9030000) ∈ wsL_put := by decide +kernel
theorem m_put_Cond_classLink_RL_18_xIS : (Cond.classLink RL 18 xIS : Cond) ∈ wsL_put := by decide +kernel
theorem k_put_20 : Cond.constant RL 20 (-9020000) ∈ wsL_put := by decide +kernel
theorem m_block_Cond_classLink_RL_25_xIO : (Cond.classLink RL 25 xIO : Cond) ∈ wsL_block := by decide +kernel
theorem k_block_27 : Cond.constant RL 27 (-9030000) ∈ wsL_block := by decide +kernel
theorem m_value_Cond_classLink_RL_15_xIA : (Cond.classLink RL 15 xIA : Cond) ∈ wsL_value := by decide +kernel
theorem k_value_17 : Cond.constant RL 17 (-9010000) ∈ wsL_value := by decide +kernel
theorem m_balance_Cond_classLink_RL_15_xIA : (Cond.classLink RL 15 xIA : Cond) ∈ wsL_balance := by decide +kernel
theorem k_balance_51 : Cond.constantLong RL 51 (-9010000) ∈ wsL_balance := by decide +kernel
theorem mfX5_loadWithout : MF yX5_loadWithout wsX5_loadWithout cX5_loadWithout 3 (some .int) 2 := ⟨⟨_, rfl⟩, by decide +kernel, by decide +kernel, by decide +kernel⟩
theorem m_loadWithout_Cond_classLink_RL_25_xIO : (Cond.classLink RL 25 xIO : Cond) ∈ wsL_loadWithout := by decide +kernel
theorem k_loadWithout_27 : Cond.constant RL 27 (-9030000) ∈ wsL_loadWithout := by decide +kernel
theorem mfX5_bestPlace : MF yX5_bestPlace wsX5_bestPlace cX5_bestPlace 5 (some .int) 1 := ⟨⟨_, rfl⟩, by decide +kernel, by decide +kernel, by decide +kernel⟩
theorem m_bestPlace_Cond_classLink_RL_15_xIA : (Cond.classLink RL 15 xIA : Cond) ∈ wsL_bestPlace := by decide +kernel
theorem k_bestPlace_17 : Cond.constant RL 17 (-9010000) ∈ wsL_bestPlace := by decide +kernel
theorem mfX5_append : MF yX5_append wsX5_append cX5_append 2 (some .int) 1 := ⟨⟨_, rfl⟩, by decide +kernel, by decide +kernel, by decide +kernel⟩
theorem m_append_Cond_classLink_RL_15_xIA : (Cond.classLink RL 15 xIA : Cond) ∈ wsL_append := by decide +kernel
theorem k_append_17 : Cond.constant RL 17 (-9010000) ∈ wsL_append := by decide +kernel
theorem mfX5_undo : MF yX5_undo wsX5_undo cX5_undo 2 (some .int) 0 := ⟨⟨_, rfl⟩, by decide +kernel, by decide +kernel, by decide +kernel⟩
theorem m_undo_Cond_classLink_RL_18_xIS : (Cond.classLink RL 18 xIS : Cond) ∈ wsL_undo := by decide +kernel
theorem k_undo_20 : Cond.constant RL 20 (-9020000) ∈ wsL_undo := by decide +kernel
theorem mw_addBlock : ∃ ws', wsL_addBlock = Cond.codeWith yL_addBlock cL_addBlock 6 (some .int) [(0, 9, 10, 15), (0, 9, 15, 18)] :: ws' := ⟨_, rfl⟩
theorem my_addBlock : yL_addBlock.cls ≠ "java/lang/invoke/MethodHandle" ∧ yL_addBlock.cls ≠ "java/lang/invoke/VarHandle" ∧ (parseMethodDescriptor yL_addBlock.desc).map (fun d => d.parameters.length) = some 5 := ⟨by decide +kernel, by decide +kernel, by decide +kernel⟩
theorem mw_append : ∃ ws', wsL_append = Cond.codeWith yL_append cL_append 3 (some .int) [(0, 5, 6, 15), (0, 5, 10, 18)] :: ws' := ⟨_, rfl⟩
theorem my_append : yL_append.cls ≠ "java/lang/invoke/MethodHandle" ∧ yL_append.cls ≠ "java/lang/invoke/VarHandle" ∧ (parseMethodDescriptor yL_append.desc).map (fun d => d.parameters.length) = some 2 := ⟨by decide +kernel, by decide +kernel, by decide +kernel⟩
theorem mw_balance : ∃ ws', wsL_balance = Cond.codeWith yL_balance cL_balance 3 (some .long) [(0, 5, 6, 15)] :: ws' := ⟨_, rfl⟩
theorem my_balance : yL_balance.cls ≠ "java/lang/invoke/MethodHandle" ∧ yL_balance.cls ≠ "java/lang/invoke/VarHandle" ∧ (parseMethodDescriptor yL_balance.desc).map (fun d => d.parameters.length) = some 2 := ⟨by decide +kernel, by decide +kernel, by decide +kernel⟩
theorem mw_bestPlace : ∃ ws', wsL_bestPlace = Cond.codeWith yL_bestPlace cL_bestPlace 3 (some .int) [(0, 5, 6, 15)] :: ws' := ⟨_, rfl⟩
theorem my_bestPlace : yL_bestPlace.cls ≠ "java/lang/invoke/MethodHandle" ∧ yL_bestPlace.cls ≠ "java/lang/invoke/VarHandle" ∧ (parseMethodDescriptor yL_bestPlace.desc).map (fun d => d.parameters.length) = some 2 := ⟨by decide +kernel, by decide +kernel, by decide +kernel⟩
theorem mw_block : ∃ ws', wsL_block = Cond.codeWith yL_block cL_block 4 (some .int) [(0, 6, 7, 25), (0, 6, 11, 15)] :: ws' := ⟨_, rfl⟩
theorem my_block : yL_block.cls ≠ "java/lang/invoke/MethodHandle" ∧ yL_block.cls ≠ "java/lang/invoke/VarHandle" ∧ (parseMethodDescriptor yL_block.desc).map (fun d => d.parameters.length) = some 3 := ⟨by decide +kernel, by decide +kernel, by decide +kernel⟩
theorem mw_loadWithout : ∃ ws', wsL_loadWithout = Cond.codeWith yL_loadWithout cL_loadWithout 4 (some .int) [(0, 6, 7, 25)] :: ws' := ⟨_, rfl⟩
theorem my_loadWithout : yL_loadWithout.cls ≠ "java/lang/invoke/MethodHandle" ∧ yL_loadWithout.cls ≠ "java/lang/invoke/VarHandle" ∧ (parseMethodDescriptor yL_loadWithout.desc).map (fun d => d.parameters.length) = some 3 := ⟨by decide +kernel, by decide +kernel, by decide +kernel⟩
theorem mw_pull : ∃ ws', wsL_pull = Cond.codeWith yL_pull cL_pull 3 (some .int) [(0, 5, 6, 25), (0, 5, 10, 18)] :: ws' := ⟨_, rfl⟩
theorem my_pull : yL_pull.cls ≠ "java/lang/invoke/MethodHandle" ∧ yL_pull.cls ≠ "java/lang/invoke/VarHandle" ∧ (parseMethodDescriptor yL_pull.desc).map (fun d => d.parameters.length) = some 2 := ⟨by decide +kernel, by decide +kernel, by decide +kernel⟩
theorem mw_put : ∃ ws', wsL_put = Cond.codeWith yL_put cL_put 3 (some .int) [(0, 5, 6, 25), (0, 5, 10, 18)] :: ws' := ⟨_, rfl⟩
theorem my_put : yL_put.cls ≠ "java/lang/invoke/MethodHandle" ∧ yL_put.cls ≠ "java/lang/invoke/VarHandle" ∧ (parseMethodDescriptor yL_put.desc).map (fun d => d.parameters.length) = some 2 := ⟨by decide +kernel, by decide +kernel, by decide +kernel⟩
theorem mw_setCap : ∃ ws', wsL_setCap = Cond.codeWith yL_setCap cL_setCap 4 (some .int) [(0, 6, 7, 25), (0, 6, 11, 15)] :: ws' := ⟨_, rfl⟩
theorem my_setCap : yL_setCap.cls ≠ "java/lang/invoke/MethodHandle" ∧ yL_setCap.cls ≠ "java/lang/invoke/VarHandle" ∧ (parseMethodDescriptor yL_setCap.desc).map (fun d => d.parameters.length) = some 3 := ⟨by decide +kernel, by decide +kernel, by decide +kernel⟩
theorem mw_setLimit : ∃ ws', wsL_setLimit = Cond.codeWith yL_setLimit cL_setLimit 4 (some .int) [(0, 6, 7, 25), (0, 6, 11, 15)] :: ws' := ⟨_, rfl⟩
theorem my_setLimit : yL_setLimit.cls ≠ "java/lang/invoke/MethodHandle" ∧ yL_setLimit.cls ≠ "java/lang/invoke/VarHandle" ∧ (parseMethodDescriptor yL_setLimit.desc).map (fun d => d.parameters.length) = some 3 := ⟨by decide +kernel, by decide +kernel, by decide +kernel⟩
theorem mw_setShip : ∃ ws', wsL_setShip = Cond.codeWith yL_setShip cL_setShip 4 (some .int) [(0, 6, 7, 15)] :: ws' := ⟨_, rfl⟩
theorem my_setShip : yL_setShip.cls ≠ "java/lang/invoke/MethodHandle" ∧ yL_setShip.cls ≠ "java/lang/invoke/VarHandle" ∧ (parseMethodDescriptor yL_setShip.desc).map (fun d => d.parameters.length) = some 3 := ⟨by decide +kernel, by decide +kernel, by decide +kernel⟩
theorem mw_undo : ∃ ws', wsL_undo = Cond.codeWith yL_undo cL_undo 2 (some .int) [(0, 4, 5, 18)] :: ws' := ⟨_, rfl⟩
theorem my_undo : yL_undo.cls ≠ "java/lang/invoke/MethodHandle" ∧ yL_undo.cls ≠ "java/lang/invoke/VarHandle" ∧ (parseMethodDescriptor yL_undo.desc).map (fun d => d.parameters.length) = some 1 := ⟨by decide +kernel, by decide +kernel, by decide +kernel⟩
theorem mw_value : ∃ ws', wsL_value = Cond.codeWith yL_value cL_value 3 (some .int) [(0, 5, 6, 15)] :: ws' := ⟨_, rfl⟩
theorem my_value : yL_value.cls ≠ "java/lang/invoke/MethodHandle" ∧ yL_value.cls ≠ "java/lang/invoke/VarHandle" ∧ (parseMethodDescriptor yL_value.desc).map (fun d => d.parameters.length) = some 2 := ⟨by decide +kernel, by decide +kernel, by decide +kernel⟩
theorem k_low_8 : Cond.constant RL 8 (2147483647) ∈ wsL_low := by decide +kernel
theorem k_lot_7 : Cond.constant RL 7 (2043661235) ∈ wsL_lot := by decide +kernel
theorem mfL_low : MF yL_low wsL_low cL_low 2 (some .int) 2 := ⟨⟨_, rfl⟩, by decide +kernel, by decide +kernel, by decide +kernel⟩
theorem mfL_lot : MF yL_lot wsL_lot cL_lot 2 (some .int) 2 := ⟨⟨_, rfl⟩, by decide +kernel, by decide +kernel, by decide +kernel⟩
set_option maxRecDepth 100000 in
theorem lb_addBlock (l : Launch) (hst : l.stackTraces = false) (D : KD) {x : Nat} {m : Pg} {n : Nat} {h : Hs} {w : va_W} (H : LW D x m n h w) (p0 s0 c0 l0 : Int32) (hy : (pIn p0 0 400 && (pIn s0 1 100 && (pIn c0 (-50) 50 && pIn l0 1 99999))) = true) (hn16 : n < 16) : MIX l D yL_addBlock wsL_addBlock 6 149 6 90 [.ref x, .int p0, .int s0, .int c0, .int l0] w (fun r w1 => r = nI n ∧ LW D x (mBu m n p0 s0 c0 l0) (n + 1) (pu h m n) w1 ∧ wpre w w1) := by
  refine MIX.of (cc := cL_addBlock) (nL := 6) (lv0 := [(0, .ref x), (1, .int p0), (2, .int s0), (3, .int c0), (4, .int l0)]) (by decide +kernel) rfl (Nat.le_of_ble_eq_true rfl) rfl ?_
  intro X hXl hin C KT ret
  subst hXl
  refine j_aload_n C 0 dL_addBlock_0 rfl rfl ?_
  refine j_iload_n C 1 dL_addBlock_1 rfl rfl ?_
  refine j_iload_n C 2 dL_addBlock_2 rfl rfl ?_
  refine j_iload_n C 3 dL_addBlock_3 rfl rfl ?_
  refine j_iload C 4 dL_addBlock_4 rfl ?_
  refine jw_cv_i C (As := [.int p0, .int s0, .int c0, .int l0]) (rest := []) (lc_addBlock (xl X) D H p0 s0 c0 l0 hy hn16) mfX5_addBlock gL_addBlock_X5_addBlock rfl (Nat.le_of_ble_eq_true rfl) (Nat.le_of_ble_eq_true rfl) (Nat.le_of_ble_eq_true rfl) (Nat.le_of_ble_eq_true rfl) H.at0 rfl rfl (Nat.le_of_ble_eq_true rfl) dL_addBlock_6 (fun _ _ h => h.2.2) (fun r w1 h => ?_)
  exact ret dL_addBlock_9 h
set_option maxRecDepth 100000 in
theorem lb_addBlockX (l : Launch) (hst : l.stackTraces = false) (D : KD) {x : Nat} {m : Pg} {n : Nat} {h : Hs} {w : va_W} (H : LW D x m n h w) (p0 s0 c0 l0 : Int32) (hy : (pIn p0 0 400 && (pIn s0 1 100 && (pIn c0 (-50) 50 && pIn l0 1 99999))) = false) : MIX l D yL_addBlock wsL_addBlock 7 107 1 6 [.ref x, .int p0, .int s0, .int c0, .int l0] w (fun r w1 => r = (-9010000 : Int32) ∧ LW D x m n h w1 ∧ wpre w w1) := by
  refine MIX.of (cc := cL_addBlock) (nL := 6) (lv0 := [(0, .ref x), (1, .int p0), (2, .int s0), (3, .int c0), (4, .int l0)]) (by decide +kernel) rfl (Nat.le_of_ble_eq_true rfl) rfl ?_
  intro X hXl hin C KT ret
  subst hXl
  refine j_aload_n C 0 dL_addBlock_0 rfl rfl ?_
  refine j_iload_n C 1 dL_addBlock_1 rfl rfl ?_
  refine j_iload_n C 2 dL_addBlock_2 rfl rfl ?_
  refine j_iload_n C 3 dL_addBlock_3 rfl rfl ?_
  refine j_iload C 4 dL_addBlock_4 rfl ?_
  refine jw_cx C KT (As := [.int p0, .int s0, .int c0, .int l0]) (rest := []) (lc_addBlockX (xl X) hst D H p0 s0 c0 l0 hy) mfX5_addBlock gL_addBlock_X5_addBlock rfl (Nat.le_of_ble_eq_true rfl) (Nat.le_of_ble_eq_true rfl) (Nat.le_of_ble_eq_true rfl) (Nat.le_of_ble_eq_true rfl) H.at0 rfl rfl (Nat.le_of_ble_eq_true rfl) dL_addBlock_6 [] ⟨0, 9, 10, 15⟩ [⟨0, 9, 15, 18⟩] rfl (fun z hz => absurd hz List.not_mem_nil) (by decide) (by decide) m_addBlock_Cond_classLink_RL_15_xIA (by decide +kernel) (tgt := 10) rfl (fun _ h => h.2) (fun q9 w1 h => ?_)
  refine j_astore C dL_addBlock_10 (by decide) (lv' := [(5, .ref q9), (0, .ref x), (1, .int p0), (2, .int s0), (3, .int c0), (4, .int l0)]) rfl ?_
  refine j_ldc C k_addBlock_17 dL_addBlock_12 ?_
  exact ret dL_addBlock_14 ⟨rfl, h⟩
set_option maxRecDepth 100000 in
theorem lb_addBlockF (l : Launch) (hst : l.stackTraces = false) (D : KD) {x : Nat} {m : Pg} {n : Nat} {h : Hs} {w : va_W} (H : LW D x m n h w) (p0 s0 c0 l0 : Int32) (hy : (pIn p0 0 400 && (pIn s0 1 100 && (pIn c0 (-50) 50 && pIn l0 1 99999))) = true) (hn16 : ¬ n < 16) : MIX l D yL_addBlock wsL_addBlock 7 107 1 6 [.ref x, .int p0, .int s0, .int c0, .int l0] w (fun r w1 => r = (-9020000 : Int32) ∧ LW D x m n h w1 ∧ wpre w w1) := by
  refine MIX.of (cc := cL_addBlock) (nL := 6) (lv0 := [(0, .ref x), (1, .int p0), (2, .int s0), (3, .int c0), (4, .int l0)]) (by decide +kernel) rfl (Nat.le_of_ble_eq_true rfl) rfl ?_
  intro X hXl hin C KT ret
  subst hXl
  refine j_aload_n C 0 dL_addBlock_0 rfl rfl ?_
  refine j_iload_n C 1 dL_addBlock_1 rfl rfl ?_
  refine j_iload_n C 2 dL_addBlock_2 rfl rfl ?_
  refine j_iload_n C 3 dL_addBlock_3 rfl rfl ?_
  refine j_iload C 4 dL_addBlock_4 rfl ?_
  refine jw_cx C KT (As := [.int p0, .int s0, .int c0, .int l0]) (rest := []) (lc_addBlockF (xl X) hst D H p0 s0 c0 l0 hy hn16) mfX5_addBlock gL_addBlock_X5_addBlock rfl (Nat.le_of_ble_eq_true rfl) (Nat.le_of_ble_eq_true rfl) (Nat.le_of_ble_eq_true rfl) (Nat.le_of_ble_eq_true rfl) H.at0 rfl rfl (Nat.le_of_ble_eq_true rfl) dL_addBlock_6 [⟨0, 9, 10, 15⟩] ⟨0, 9, 15, 18⟩ [] rfl (fun z hz => by rw [List.mem_singleton.mp hz]; exact Or.inr ⟨by decide, _, m_addBlock_Cond_classLink_RL_15_xIA, KT.1.2.2.2.1⟩) (by decide) (by decide) m_addBlock_Cond_classLink_RL_18_xIS (by decide +kernel) (tgt := 15) rfl (fun _ h => h.2) (fun q9 w1 h => ?_)
  refine j_astore C dL_addBlock_15 (by decide) (lv' := [(5, .ref q9), (0, .ref x), (1, .int p0), (2, .int s0), (3, .int c0), (4, .int l0)]) rfl ?_
  refine j_ldc C k_addBlock_20 dL_addBlock_17 ?_
  exact ret dL_addBlock_19 ⟨rfl, h⟩
set_option maxRecDepth 100000 in
theorem lb_setCap (l : Launch) (hst : l.stackTraces = false) (D : KD) {x : Nat} {m : Pg} {n : Nat} {h : Hs} {w : va_W} (H : LW D x m n h w) (i : Nat) (hi : i < n) (y : Int32) (hy : pIn y (-50) 50 = true) : MIX l D yL_setCap wsL_setCap 6 147 6 90 [.ref x, .int (nI i), .int y] w (fun r w1 => r = m (3 + 6 * i + 2) ∧ LW D x (upd m (3 + 6 * i + 2) y) n (pu h m n) w1 ∧ wpre w w1) := by
  refine MIX.of (cc := cL_setCap) (nL := 4) (lv0 := [(0, .ref x), (1, .int (nI i)), (2, .int y)]) (by decide +kernel) rfl (Nat.le_of_ble_eq_true rfl) rfl ?_
  intro X hXl hin C KT ret
  subst hXl
  refine j_aload_n C 0 dL_setCap_0 rfl rfl ?_
  refine j_iload_n C 1 dL_setCap_1 rfl rfl ?_
  refine j_iload_n C 2 dL_setCap_2 rfl rfl ?_
  refine jw_cv_i C (As := [.int (nI i), .int y]) (rest := []) (lc_setCap (xl X) D H i hi y hy) mfX5_setCap gL_setCap_X5_setCap rfl (Nat.le_of_ble_eq_true rfl) (Nat.le_of_ble_eq_true rfl) (Nat.le_of_ble_eq_true rfl) (Nat.le_of_ble_eq_true rfl) H.at0 rfl rfl (Nat.le_of_ble_eq_true rfl) dL_setCap_3 (fun _ _ h => h.2.2) (fun r w1 h => ?_)
  exact ret dL_setCap_6 h
set_option maxRecDepth 100000 in
theorem lb_setCapX (l : Launch) (hst : l.stackTraces = false) (D : KD) {x : Nat} {m : Pg} {n : Nat} {h : Hs} {w : va_W} (H : LW D x m n h w) (v : Int32) (hx : pIn v 0 (m 2 - 1) = false) (y : Int32) : MIX l D yL_setCap wsL_setCap 7 105 1 6 [.ref x, .int v, .int y] w (fun r w1 => r = (-9030000 : Int32) ∧ LW D x m n h w1 ∧ wpre w w1) := by
  refine MIX.of (cc := cL_setCap) (nL := 4) (lv0 := [(0, .ref x), (1, .int v), (2, .int y)]) (by decide +kernel) rfl (Nat.le_of_ble_eq_true rfl) rfl ?_
  intro X hXl hin C KT ret
  subst hXl
  refine j_aload_n C 0 dL_setCap_0 rfl rfl ?_
  refine j_iload_n C 1 dL_setCap_1 rfl rfl ?_
  refine j_iload_n C 2 dL_setCap_2 rfl rfl ?_
  refine jw_cx C KT (As := [.int v, .int y]) (rest := []) (lc_setCapX (xl X) hst D H v hx y) mfX5_setCap gL_setCap_X5_setCap rfl (Nat.le_of_ble_eq_true rfl) (Nat.le_of_ble_eq_true rfl) (Nat.le_of_ble_eq_true rfl) (Nat.le_of_ble_eq_true rfl) H.at0 rfl rfl (Nat.le_of_ble_eq_true rfl) dL_setCap_3 [] ⟨0, 6, 7, 25⟩ [⟨0, 6, 11, 15⟩] rfl (fun z hz => absurd hz List.not_mem_nil) (by decide) (by decide) m_setCap_Cond_classLink_RL_25_xIO (by decide +kernel) (tgt := 7) rfl (fun _ h => h.2) (fun q9 w1 h => ?_)
  refine j_astore_n C dL_setCap_7 rfl (by decide) (lv' := [(3, .ref q9), (0, .ref x), (1, .int v), (2, .int y)]) rfl ?_
  refine j_ldc C k_setCap_27 dL_setCap_8 ?_
  exact ret dL_setCap_10 ⟨rfl, h⟩
set_option maxRecDepth 100000 in
theorem lb_setLimit (l : Launch) (hst : l.stackTraces = false) (D : KD) {x : Nat} {m : Pg} {n : Nat} {h : Hs} {w : va_W} (H : LW D x m n h w) (i : Nat) (hi : i < n) (y : Int32) (hy : pIn y 1 99999 = true) : MIX l D yL_setLimit wsL_setLimit 6 147 6 90 [.ref x, .int (nI i), .int y] w (fun r w1 => r = m (3 + 6 * i + 3) ∧ LW D x (upd m (3 + 6 * i + 3) y) n (pu h m n) w1 ∧ wpre w w1) := by
  refine MIX.of (cc := cL_setLimit) (nL := 4) (lv0 := [(0, .ref x), (1, .int (nI i)), (2, .int y)]) (by decide +kernel) rfl (Nat.le_of_ble_eq_true rfl) rfl ?_
  intro X hXl hin C KT ret
  subst hXl
  refine j_aload_n C 0 dL_setLimit_0 rfl rfl ?_
  refine j_iload_n C 1 dL_setLimit_1 rfl rfl ?_
  refine j_iload_n C 2 dL_setLimit_2 rfl rfl ?_
  refine jw_cv_i C (As := [.int (nI i), .int y]) (rest := []) (lc_setLimit (xl X) D H i hi y hy) mfX5_setLimit gL_setLimit_X5_setLimit rfl (Nat.le_of_ble_eq_true rfl) (Nat.le_of_ble_eq_true rfl) (Nat.le_of_ble_eq_true rfl) (Nat.le_of_ble_eq_true rfl) H.at0 rfl rfl (Nat.le_of_ble_eq_true rfl) dL_setLimit_3 (fun _ _ h => h.2.2) (fun r w1 h => ?_)
  exact ret dL_setLimit_6 h
set_option maxRecDepth 100000 in
theorem lb_setLimitX (l : Launch) (hst : l.stackTraces = false) (D : KD) {x : Nat} {m : Pg} {n : Nat} {h : Hs} {w : va_W} (H : LW D x m n h w) (v : Int32) (hx : pIn v 0 (m 2 - 1) = false) (y : Int32) : MIX l D yL_setLimit wsL_setLimit 7 105 1 6 [.ref x, .int v, .int y] w (fun r w1 => r = (-9030000 : Int32) ∧ LW D x m n h w1 ∧ wpre w w1) := by
  refine MIX.of (cc := cL_setLimit) (nL := 4) (lv0 := [(0, .ref x), (1, .int v), (2, .int y)]) (by decide +kernel) rfl (Nat.le_of_ble_eq_true rfl) rfl ?_
  intro X hXl hin C KT ret
  subst hXl
  refine j_aload_n C 0 dL_setLimit_0 rfl rfl ?_
  refine j_iload_n C 1 dL_setLimit_1 rfl rfl ?_
  refine j_iload_n C 2 dL_setLimit_2 rfl rfl ?_
  refine jw_cx C KT (As := [.int v, .int y]) (rest := []) (lc_setLimitX (xl X) hst D H v hx y) mfX5_setLimit gL_setLimit_X5_setLimit rfl (Nat.le_of_ble_eq_true rfl) (Nat.le_of_ble_eq_true rfl) (Nat.le_of_ble_eq_true rfl) (Nat.le_of_ble_eq_true rfl) H.at0 rfl rfl (Nat.le_of_ble_eq_true rfl) dL_setLimit_3 [] ⟨0, 6, 7, 25⟩ [⟨0, 6, 11, 15⟩] rfl (fun z hz => absurd hz List.not_mem_nil) (by decide) (by decide) m_setLimit_Cond_classLink_RL_25_xIO (by decide +kernel) (tgt := 7) rfl (fun _ h => h.2) (fun q9 w1 h => ?_)
  refine j_astore_n C dL_setLimit_7 rfl (by decide) (lv' := [(3, .ref q9), (0, .ref x), (1, .int v), (2, .int y)]) rfl ?_
  refine j_ldc C k_setLimit_27 dL_setLimit_8 ?_
  exact ret dL_setLimit_10 ⟨rfl, h⟩
set_option maxRecDepth 100000 in
theorem lb_setShip (l : Launch) (hst : l.stackTraces = false) (D : KD) {x : Nat} {m : Pg} {n : Nat} {h : Hs} {w : va_W} (H : LW D x m n h w) (w0 c0 : Int32) (hy : (pIn w0 1 100000 && pIn c0 0 400) = true) : MIX l D yL_setShip wsL_setShip 6 147 6 90 [.ref x, .int w0, .int c0] w (fun r w1 => r = m 0 ∧ LW D x (upd (upd m 0 w0) 1 c0) n (pu h m n) w1 ∧ wpre w w1) := by
  refine MIX.of (cc := cL_setShip) (nL := 4) (lv0 := [(0, .ref x), (1, .int w0), (2, .int c0)]) (by decide +kernel) rfl (Nat.le_of_ble_eq_true rfl) rfl ?_
  intro X hXl hin C KT ret
  subst hXl
  refine j_aload_n C 0 dL_setShip_0 rfl rfl ?_
  refine j_iload_n C 1 dL_setShip_1 rfl rfl ?_
  refine j_iload_n C 2 dL_setShip_2 rfl rfl ?_
  refine jw_cv_i C (As := [.int w0, .int c0]) (rest := []) (lc_setShip (xl X) D H w0 c0 hy) mfX5_setShip gL_setShip_X5_setShip rfl (Nat.le_of_ble_eq_true rfl) (Nat.le_of_ble_eq_true rfl) (Nat.le_of_ble_eq_true rfl) (Nat.le_of_ble_eq_true rfl) H.at0 rfl rfl (Nat.le_of_ble_eq_true rfl) dL_setShip_3 (fun _ _ h => h.2.2) (fun r w1 h => ?_)
  exact ret dL_setShip_6 h
set_option maxRecDepth 100000 in
theorem lb_setShipX (l : Launch) (hst : l.stackTraces = false) (D : KD) {x : Nat} {m : Pg} {n : Nat} {h : Hs} {w : va_W} (H : LW D x m n h w) (w0 c0 : Int32) (hy : (pIn w0 1 100000 && pIn c0 0 400) = false) : MIX l D yL_setShip wsL_setShip 7 105 1 6 [.ref x, .int w0, .int c0] w (fun r w1 => r = (-9010000 : Int32) ∧ LW D x m n h w1 ∧ wpre w w1) := by
  refine MIX.of (cc := cL_setShip) (nL := 4) (lv0 := [(0, .ref x), (1, .int w0), (2, .int c0)]) (by decide +kernel) rfl (Nat.le_of_ble_eq_true rfl) rfl ?_
  intro X hXl hin C KT ret
  subst hXl
  refine j_aload_n C 0 dL_setShip_0 rfl rfl ?_
  refine j_iload_n C 1 dL_setShip_1 rfl rfl ?_
  refine j_iload_n C 2 dL_setShip_2 rfl rfl ?_
  refine jw_cx C KT (As := [.int w0, .int c0]) (rest := []) (lc_setShipX (xl X) hst D H w0 c0 hy) mfX5_setShip gL_setShip_X5_setShip rfl (Nat.le_of_ble_eq_true rfl) (Nat.le_of_ble_eq_true rfl) (Nat.le_of_ble_eq_true rfl) (Nat.le_of_ble_eq_true rfl) H.at0 rfl rfl (Nat.le_of_ble_eq_true rfl) dL_setShip_3 [] ⟨0, 6, 7, 15⟩ [] rfl (fun z hz => absurd hz List.not_mem_nil) (by decide) (by decide) m_setShip_Cond_classLink_RL_15_xIA (by decide +kernel) (tgt := 7) rfl (fun _ h => h.2) (fun q9 w1 h => ?_)
  refine j_astore_n C dL_setShip_7 rfl (by decide) (lv' := [(3, .ref q9), (0, .ref x), (1, .int w0), (2, .int c0)]) rfl ?_
  refine j_ldc C k_setShip_17 dL_setShip_8 ?_
  exact ret dL_setShip_10 ⟨rfl, h⟩
set_option maxRecDepth 100000 in
theorem lb_pull (l : Launch) (hst : l.stackTraces = false) (D : KD) {x : Nat} {m : Pg} {n : Nat} {h : Hs} {w : va_W} (H : LW D x m n h w) (i : Nat) (hi : i < n) (hz : mT m i = 0) (hcp : cpl m n i = true) : MIX l D yL_pull wsL_pull 6 146 6 90 [.ref x, .int (nI i)] w (fun r w1 => r = mGr (mSt m i 1) n ∧ LW D x (mSt m i 1) n (pu h m n) w1 ∧ wpre w w1) := by
  refine MIX.of (cc := cL_pull) (nL := 3) (lv0 := [(0, .ref x), (1, .int (nI i))]) (by decide +kernel) rfl (Nat.le_of_ble_eq_true rfl) rfl ?_
  intro X hXl hin C KT ret
  subst hXl
  refine j_aload_n C 0 dL_pull_0 rfl rfl ?_
  refine j_iload_n C 1 dL_pull_1 rfl rfl ?_
  refine jw_cv_i C (As := [.int (nI i)]) (rest := []) (lc_pull (xl X) D H i hi hz hcp) mfX5_pull gL_pull_X5_pull rfl (Nat.le_of_ble_eq_true rfl) (Nat.le_of_ble_eq_true rfl) (Nat.le_of_ble_eq_true rfl) (Nat.le_of_ble_eq_true rfl) H.at0 rfl rfl (Nat.le_of_ble_eq_true rfl) dL_pull_2 (fun _ _ h => h.2.2) (fun r w1 h => ?_)
  exact ret dL_pull_5 h
set_option maxRecDepth 100000 in
theorem lb_pullX (l : Launch) (hst : l.stackTraces = false) (D : KD) {x : Nat} {m : Pg} {n : Nat} {h : Hs} {w : va_W} (H : LW D x m n h w) (v : Int32) (hx : pIn v 0 (m 2 - 1) = false) : MIX l D yL_pull wsL_pull 7 103 1 6 [.ref x, .int v] w (fun r w1 => r = (-9030000 : Int32) ∧ LW D x m n h w1 ∧ wpre w w1) := by
  refine MIX.of (cc := cL_pull) (nL := 3) (lv0 := [(0, .ref x), (1, .int v)]) (by decide +kernel) rfl (Nat.le_of_ble_eq_true rfl) rfl ?_
  intro X hXl hin C KT ret
  subst hXl
  refine j_aload_n C 0 dL_pull_0 rfl rfl ?_
  refine j_iload_n C 1 dL_pull_1 rfl rfl ?_
  refine jw_cx C KT (As := [.int v]) (rest := []) (lc_pullX (xl X) hst D H v hx) mfX5_pull gL_pull_X5_pull rfl (Nat.le_of_ble_eq_true rfl) (Nat.le_of_ble_eq_true rfl) (Nat.le_of_ble_eq_true rfl) (Nat.le_of_ble_eq_true rfl) H.at0 rfl rfl (Nat.le_of_ble_eq_true rfl) dL_pull_2 [] ⟨0, 5, 6, 25⟩ [⟨0, 5, 10, 18⟩] rfl (fun z hz => absurd hz List.not_mem_nil) (by decide) (by decide) m_pull_Cond_classLink_RL_25_xIO (by decide +kernel) (tgt := 6) rfl (fun _ h => h.2) (fun q9 w1 h => ?_)
  refine j_astore_n C dL_pull_6 rfl (by decide) (lv' := [(2, .ref q9), (0, .ref x), (1, .int v)]) rfl ?_
  refine j_ldc C k_pull_27 dL_pull_7 ?_
  exact ret dL_pull_9 ⟨rfl, h⟩
set_option maxRecDepth 100000 in
theorem lb_pullN (l : Launch) (hst : l.stackTraces = false) (D : KD) {x : Nat} {m : Pg} {n : Nat} {h : Hs} {w : va_W} (H : LW D x m n h w) (i : Nat) (hi : i < n) (hz : ¬ mT m i = 0) : MIX l D yL_pull wsL_pull 7 103 1 6 [.ref x, .int (nI i)] w (fun r w1 => r = (-9020000 : Int32) ∧ LW D x m n h w1 ∧ wpre w w1) := by
  refine MIX.of (cc := cL_pull) (nL := 3) (lv0 := [(0, .ref x), (1, .int (nI i))]) (by decide +kernel) rfl (Nat.le_of_ble_eq_true rfl) rfl ?_
  intro X hXl hin C KT ret
  subst hXl
  refine j_aload_n C 0 dL_pull_0 rfl rfl ?_
  refine j_iload_n C 1 dL_pull_1 rfl rfl ?_
  refine jw_cx C KT (As := [.int (nI i)]) (rest := []) (lc_pullN (xl X) hst D H i hi hz) mfX5_pull gL_pull_X5_pull rfl (Nat.le_of_ble_eq_true rfl) (Nat.le_of_ble_eq_true rfl) (Nat.le_of_ble_eq_true rfl) (Nat.le_of_ble_eq_true rfl) H.at0 rfl rfl (Nat.le_of_ble_eq_true rfl) dL_pull_2 [⟨0, 5, 6, 25⟩] ⟨0, 5, 10, 18⟩ [] rfl (fun z hz => by rw [List.mem_singleton.mp hz]; exact Or.inr ⟨by decide, _, m_pull_Cond_classLink_RL_25_xIO, KT.1.2.2.2.2.2⟩) (by decide) (by decide) m_pull_Cond_classLink_RL_18_xIS (by decide +kernel) (tgt := 10) rfl (fun _ h => h.2) (fun q9 w1 h => ?_)
  refine j_astore_n C dL_pull_10 rfl (by decide) (lv' := [(2, .ref q9), (0, .ref x), (1, .int (nI i))]) rfl ?_
  refine j_ldc C k_pull_20 dL_pull_11 ?_
  exact ret dL_pull_13 ⟨rfl, h⟩
set_option maxRecDepth 100000 in
theorem lb_pullF (l : Launch) (hst : l.stackTraces = false) (D : KD) {x : Nat} {m : Pg} {n : Nat} {h : Hs} {w : va_W} (H : LW D x m n h w) (i : Nat) (hi : i < n) (hz : mT m i = 0) (hcp : cpl m n i = false) : MIX l D yL_pull wsL_pull 7 146 1 6 [.ref x, .int (nI i)] w (fun r w1 => r = (-9020000 : Int32) ∧ LW D x m n h w1 ∧ wpre w w1) := by
  refine MIX.of (cc := cL_pull) (nL := 3) (lv0 := [(0, .ref x), (1, .int (nI i))]) (by decide +kernel) rfl (Nat.le_of_ble_eq_true rfl) rfl ?_
  intro X hXl hin C KT ret
  subst hXl
  refine j_aload_n C 0 dL_pull_0 rfl rfl ?_
  refine j_iload_n C 1 dL_pull_1 rfl rfl ?_
  refine jw_cx C KT (As := [.int (nI i)]) (rest := []) (lc_pullF (xl X) hst D H i hi hz hcp) mfX5_pull gL_pull_X5_pull rfl (Nat.le_of_ble_eq_true rfl) (Nat.le_of_ble_eq_true rfl) (Nat.le_of_ble_eq_true rfl) (Nat.le_of_ble_eq_true rfl) H.at0 rfl rfl (Nat.le_of_ble_eq_true rfl) dL_pull_2 [⟨0, 5, 6, 25⟩] ⟨0, 5, 10, 18⟩ [] rfl (fun z hz => by rw [List.mem_singleton.mp hz]; exact Or.inr ⟨by decide, _, m_pull_Cond_classLink_RL_25_xIO, KT.1.2.2.2.2.2⟩) (by decide) (by decide) m_pull_Cond_classLink_RL_18_xIS (by decide +kernel) (tgt := 10) rfl (fun _ h => h.2) (fun q9 w1 h => ?_)
  refine j_astore_n C dL_pull_10 rfl (by decide) (lv' := [(2, .ref q9), (0, .ref x), (1, .int (nI i))]) rfl ?_
  refine j_ldc C k_pull_20 dL_pull_11 ?_
  exact ret dL_pull_13 ⟨rfl, h⟩
set_option maxRecDepth 100000 in
theorem lb_put (l : Launch) (hst : l.stackTraces = false) (D : KD) {x : Nat} {m : Pg} {n : Nat} {h : Hs} {w : va_W} (H : LW D x m n h w) (i : Nat) (hi : i < n) (hz : ¬ mT m i = 0) : MIX l D yL_put wsL_put 6 145 6 90 [.ref x, .int (nI i)] w (fun r w1 => r = mLd (mSt m i 0) n i ∧ LW D x (mSt m i 0) n (pu h m n) w1 ∧ wpre w w1) := by
  refine MIX.of (cc := cL_put) (nL := 3) (lv0 := [(0, .ref x), (1, .int (nI i))]) (by decide +kernel) rfl (Nat.le_of_ble_eq_true rfl) rfl ?_
  intro X hXl hin C KT ret
  subst hXl
  refine j_aload_n C 0 dL_put_0 rfl rfl ?_
  refine j_iload_n C 1 dL_put_1 rfl rfl ?_
  refine jw_cv_i C (As := [.int (nI i)]) (rest := []) (lc_put (xl X) D H i hi hz) mfX5_put gL_put_X5_put rfl (Nat.le_of_ble_eq_true rfl) (Nat.le_of_ble_eq_true rfl) (Nat.le_of_ble_eq_true rfl) (Nat.le_of_ble_eq_true rfl) H.at0 rfl rfl (Nat.le_of_ble_eq_true rfl) dL_put_2 (fun _ _ h => h.2.2) (fun r w1 h => ?_)
  exact ret dL_put_5 h
set_option maxRecDepth 100000 in
theorem lb_putX (l : Launch) (hst : l.stackTraces = false) (D : KD) {x : Nat} {m : Pg} {n : Nat} {h : Hs} {w : va_W} (H : LW D x m n h w) (v : Int32) (hx : pIn v 0 (m 2 - 1) = false) : MIX l D yL_put wsL_put 7 103 1 6 [.ref x, .int v] w (fun r w1 => r = (-9030000 : Int32) ∧ LW D x m n h w1 ∧ wpre w w1) := by
  refine MIX.of (cc := cL_put) (nL := 3) (lv0 := [(0, .ref x), (1, .int v)]) (by decide +kernel) rfl (Nat.le_of_ble_eq_true rfl) rfl ?_
  intro X hXl hin C KT ret
  subst hXl
  refine j_aload_n C 0 dL_put_0 rfl rfl ?_
  refine j_iload_n C 1 dL_put_1 rfl rfl ?_
  refine jw_cx C KT (As := [.int v]) (rest := []) (lc_putX (xl X) hst D H v hx) mfX5_put gL_put_X5_put rfl (Nat.le_of_ble_eq_true rfl) (Nat.le_of_ble_eq_true rfl) (Nat.le_of_ble_eq_true rfl) (Nat.le_of_ble_eq_true rfl) H.at0 rfl rfl (Nat.le_of_ble_eq_true rfl) dL_put_2 [] ⟨0, 5, 6, 25⟩ [⟨0, 5, 10, 18⟩] rfl (fun z hz => absurd hz List.not_mem_nil) (by decide) (by decide) m_put_Cond_classLink_RL_25_xIO (by decide +kernel) (tgt := 6) rfl (fun _ h => h.2) (fun q9 w1 h => ?_)
  refine j_astore_n C dL_put_6 rfl (by decide) (lv' := [(2, .ref q9), (0, .ref x), (1, .int v)]) rfl ?_
  refine j_ldc C k_put_27 dL_put_7 ?_
  exact ret dL_put_9 ⟨rfl, h⟩
set_option maxRecDepth 100000 in
theorem lb_putN (l : Launch) (hst : l.stackTraces = false) (D : KD) {x : Nat} {m : Pg} {n : Nat} {h : Hs} {w : va_W} (H : LW D x m n h w) (i : Nat) (hi : i < n) (hz : mT m i = 0) : MIX l D yL_put wsL_put 7 103 1 6 [.ref x, .int (nI i)] w (fun r w1 => r = (-9020000 : Int32) ∧ LW D x m n h w1 ∧ wpre w w1) := by
  refine MIX.of (cc := cL_put) (nL := 3) (lv0 := [(0, .ref x), (1, .int (nI i))]) (by decide +kernel) rfl (Nat.le_of_ble_eq_true rfl) rfl ?_
  intro X hXl hin C KT ret
  subst hXl
  refine j_aload_n C 0 dL_put_0 rfl rfl ?_
  refine j_iload_n C 1 dL_put_1 rfl rfl ?_
  refine jw_cx C KT (As := [.int (nI i)]) (rest := []) (lc_putN (xl X) hst D H i hi hz) mfX5_put gL_put_X5_put rfl (Nat.le_of_ble_eq_true rfl) (Nat.le_of_ble_eq_true rfl) (Nat.le_of_ble_eq_true rfl) (Nat.le_of_ble_eq_true rfl) H.at0 rfl rfl (Nat.le_of_ble_eq_true rfl) dL_put_2 [⟨0, 5, 6, 25⟩] ⟨0, 5, 10, 18⟩ [] rfl (fun z hz => by rw [List.mem_singleton.mp hz]; exact Or.inr ⟨by decide, _, m_put_Cond_classLink_RL_25_xIO, KT.1.2.2.2.2.2⟩) (by decide) (by decide) m_put_Cond_classLink_RL_18_xIS (by decide +kernel) (tgt := 10) rfl (fun _ h => h.2) (fun q9 w1 h => ?_)
  refine j_astore_n C dL_put_10 rfl (by decide) (lv' := [(2, .ref q9), (0, .ref x), (1, .int (nI i))]) rfl ?_
  refine j_ldc C k_put_20 dL_put_11 ?_
  exact ret dL_put_13 ⟨rfl, h⟩
set_option maxRecDepth 100000 in
theorem lb_block (l : Launch) (hst : l.stackTraces = false) (D : KD) {x : Nat} {m : Pg} {n : Nat} {h : Hs} {w : va_W} (H : LW D x m n h w) (i : Nat) (hi : i < n) (v : Nat) (hv : v < 9) : MIX l D yL_block wsL_block 3 64 0 0 [.ref x, .int (nI i), .int (nI v)] w (fun r w1 => r = mBl m n i v ∧ LW D x m n h w1 ∧ wpre w w1) := by
  refine MIX.of (cc := cL_block) (nL := 4) (lv0 := [(0, .ref x), (1, .int (nI i)), (2, .int (nI v))]) (by decide +kernel) rfl (Nat.le_of_ble_eq_true rfl) rfl ?_
  intro X hXl hin C KT ret
  subst hXl
  refine j_aload_n C 0 dL_block_0 rfl rfl ?_
  refine j_iload_n C 1 dL_block_1 rfl rfl ?_
  refine j_iload_n C 2 dL_block_2 rfl rfl ?_
  refine jw_cv_i C (As := [.int (nI i), .int (nI v)]) (rest := []) (lc_block (xl X) D H i hi v hv) mfX5_block gL_block_X5_block rfl (Nat.le_of_ble_eq_true rfl) (Nat.le_of_ble_eq_true rfl) (Nat.le_of_ble_eq_true rfl) (Nat.le_of_ble_eq_true rfl) H.at0 rfl rfl (Nat.le_of_ble_eq_true rfl) dL_block_3 (fun _ _ h => h.2.2) (fun r w1 h => ?_)
  exact ret dL_block_6 h
set_option maxRecDepth 100000 in
theorem lb_blockX (l : Launch) (hst : l.stackTraces = false) (D : KD) {x : Nat} {m : Pg} {n : Nat} {h : Hs} {w : va_W} (H : LW D x m n h w) (v : Int32) (hx : pIn v 0 (m 2 - 1) = false) (y : Int32) : MIX l D yL_block wsL_block 7 104 1 6 [.ref x, .int v, .int y] w (fun r w1 => r = (-9030000 : Int32) ∧ LW D x m n h w1 ∧ wpre w w1) := by
  refine MIX.of (cc := cL_block) (nL := 4) (lv0 := [(0, .ref x), (1, .int v), (2, .int y)]) (by decide +kernel) rfl (Nat.le_of_ble_eq_true rfl) rfl ?_
  intro X hXl hin C KT ret
  subst hXl
  refine j_aload_n C 0 dL_block_0 rfl rfl ?_
  refine j_iload_n C 1 dL_block_1 rfl rfl ?_
  refine j_iload_n C 2 dL_block_2 rfl rfl ?_
  refine jw_cx C KT (As := [.int v, .int y]) (rest := []) (lc_blockX (xl X) hst D H v hx y) mfX5_block gL_block_X5_block rfl (Nat.le_of_ble_eq_true rfl) (Nat.le_of_ble_eq_true rfl) (Nat.le_of_ble_eq_true rfl) (Nat.le_of_ble_eq_true rfl) H.at0 rfl rfl (Nat.le_of_ble_eq_true rfl) dL_block_3 [] ⟨0, 6, 7, 25⟩ [⟨0, 6, 11, 15⟩] rfl (fun z hz => absurd hz List.not_mem_nil) (by decide) (by decide) m_block_Cond_classLink_RL_25_xIO (by decide +kernel) (tgt := 7) rfl (fun _ h => h.2) (fun q9 w1 h => ?_)
  refine j_astore_n C dL_block_7 rfl (by decide) (lv' := [(3, .ref q9), (0, .ref x), (1, .int v), (2, .int y)]) rfl ?_
  refine j_ldc C k_block_27 dL_block_8 ?_
  exact ret dL_block_10 ⟨rfl, h⟩
set_option maxRecDepth 100000 in
theorem lb_value (l : Launch) (hst : l.stackTraces = false) (D : KD) {x : Nat} {m : Pg} {n : Nat} {h : Hs} {w : va_W} (H : LW D x m n h w) (v : Nat) (hv : v < 10) : MIX l D yL_value wsL_value 3 64 0 0 [.ref x, .int (nI v)] w (fun r w1 => r = mVl m n v ∧ LW D x m n h w1 ∧ wpre w w1) := by
  refine MIX.of (cc := cL_value) (nL := 3) (lv0 := [(0, .ref x), (1, .int (nI v))]) (by decide +kernel) rfl (Nat.le_of_ble_eq_true rfl) rfl ?_
  intro X hXl hin C KT ret
  subst hXl
  refine j_aload_n C 0 dL_value_0 rfl rfl ?_
  refine j_iload_n C 1 dL_value_1 rfl rfl ?_
  refine jw_cv_i C (As := [.int (nI v)]) (rest := []) (lc_value (xl X) D H v hv) mfX5_value gL_value_X5_value rfl (Nat.le_of_ble_eq_true rfl) (Nat.le_of_ble_eq_true rfl) (Nat.le_of_ble_eq_true rfl) (Nat.le_of_ble_eq_true rfl) H.at0 rfl rfl (Nat.le_of_ble_eq_true rfl) dL_value_2 (fun _ _ h => h.2.2) (fun r w1 h => ?_)
  exact ret dL_value_5 h
set_option maxRecDepth 100000 in
theorem lb_valueX (l : Launch) (hst : l.stackTraces = false) (D : KD) {x : Nat} {m : Pg} {n : Nat} {h : Hs} {w : va_W} (H : LW D x m n h w) (y : Int32) (hy : pIn y 0 9 = false) : MIX l D yL_value wsL_value 7 103 1 6 [.ref x, .int y] w (fun r w1 => r = (-9010000 : Int32) ∧ LW D x m n h w1 ∧ wpre w w1) := by
  refine MIX.of (cc := cL_value) (nL := 3) (lv0 := [(0, .ref x), (1, .int y)]) (by decide +kernel) rfl (Nat.le_of_ble_eq_true rfl) rfl ?_
  intro X hXl hin C KT ret
  subst hXl
  refine j_aload_n C 0 dL_value_0 rfl rfl ?_
  refine j_iload_n C 1 dL_value_1 rfl rfl ?_
  refine jw_cx C KT (As := [.int y]) (rest := []) (lc_valueX (xl X) hst D H y hy) mfX5_value gL_value_X5_value rfl (Nat.le_of_ble_eq_true rfl) (Nat.le_of_ble_eq_true rfl) (Nat.le_of_ble_eq_true rfl) (Nat.le_of_ble_eq_true rfl) H.at0 rfl rfl (Nat.le_of_ble_eq_true rfl) dL_value_2 [] ⟨0, 5, 6, 15⟩ [] rfl (fun z hz => absurd hz List.not_mem_nil) (by decide) (by decide) m_value_Cond_classLink_RL_15_xIA (by decide +kernel) (tgt := 6) rfl (fun _ h => h.2) (fun q9 w1 h => ?_)
  refine j_astore_n C dL_value_6 rfl (by decide) (lv' := [(2, .ref q9), (0, .ref x), (1, .int y)]) rfl ?_
  refine j_ldc C k_value_17 dL_value_7 ?_
  exact ret dL_value_9 ⟨rfl, h⟩
set_option maxRecDepth 100000 in
theorem lb_balance (l : Launch) (hst : l.stackTraces = false) (D : KD) {x : Nat} {m : Pg} {n : Nat} {h : Hs} {w : va_W} (H : LW D x m n h w) (v : Nat) (hv : v < 3) : MLX l D yL_balance wsL_balance 2 43 0 0 [.ref x, .int (nI v)] w (fun r w1 => r = mBa m n v ∧ LW D x m n h w1 ∧ wpre w w1) := by
  refine MLX.of (cc := cL_balance) (nL := 3) (lv0 := [(0, .ref x), (1, .int (nI v))]) (by decide +kernel) rfl (Nat.le_of_ble_eq_true rfl) rfl ?_
  intro X hXl hin C KT ret
  subst hXl
  refine j_aload_n C 0 dL_balance_0 rfl rfl ?_
  refine j_iload_n C 1 dL_balance_1 rfl rfl ?_
  refine jw_cv_l C (As := [.int (nI v)]) (rest := []) (lc_balance (xl X) D H v hv) mfX5_balance gL_balance_X5_balance rfl (Nat.le_of_ble_eq_true rfl) (Nat.le_of_ble_eq_true rfl) (Nat.le_of_ble_eq_true rfl) (Nat.le_of_ble_eq_true rfl) H.at0 rfl rfl (Nat.le_of_ble_eq_true rfl) dL_balance_2 (fun _ _ h => h.2.2) (fun r w1 h => ?_)
  exact ret dL_balance_5 h
set_option maxRecDepth 100000 in
theorem lb_balanceX (l : Launch) (hst : l.stackTraces = false) (D : KD) {x : Nat} {m : Pg} {n : Nat} {h : Hs} {w : va_W} (H : LW D x m n h w) (y : Int32) (hy : pIn y 0 2 = false) : MLX l D yL_balance wsL_balance 7 103 1 6 [.ref x, .int y] w (fun r w1 => r = (-9010000 : Int64) ∧ LW D x m n h w1 ∧ wpre w w1) := by
  refine MLX.of (cc := cL_balance) (nL := 3) (lv0 := [(0, .ref x), (1, .int y)]) (by decide +kernel) rfl (Nat.le_of_ble_eq_true rfl) rfl ?_
  intro X hXl hin C KT ret
  subst hXl
  refine j_aload_n C 0 dL_balance_0 rfl rfl ?_
  refine j_iload_n C 1 dL_balance_1 rfl rfl ?_
  refine jw_cx C KT (As := [.int y]) (rest := []) (lc_balanceX (xl X) hst D H y hy) mfX5_balance gL_balance_X5_balance rfl (Nat.le_of_ble_eq_true rfl) (Nat.le_of_ble_eq_true rfl) (Nat.le_of_ble_eq_true rfl) (Nat.le_of_ble_eq_true rfl) H.at0 rfl rfl (Nat.le_of_ble_eq_true rfl) dL_balance_2 [] ⟨0, 5, 6, 15⟩ [] rfl (fun z hz => absurd hz List.not_mem_nil) (by decide) (by decide) m_balance_Cond_classLink_RL_15_xIA (by decide +kernel) (tgt := 6) rfl (fun _ h => h.2) (fun q9 w1 h => ?_)
  refine j_astore_n C dL_balance_6 rfl (by decide) (lv' := [(2, .ref q9), (0, .ref x), (1, .int y)]) rfl ?_
  refine j_ldc2 C k_balance_51 dL_balance_7 ?_
  exact ret dL_balance_10 ⟨rfl, h⟩
set_option maxRecDepth 100000 in
theorem lb_loadWithout (l : Launch) (hst : l.stackTraces = false) (D : KD) {x : Nat} {m : Pg} {n : Nat} {h : Hs} {w : va_W} (H : LW D x m n h w) (i : Nat) (hi : i < n) (j : Nat) (hj : j < n) : MIX l D yL_loadWithout wsL_loadWithout 5 126 0 0 [.ref x, .int (nI i), .int (nI j)] w (fun r w1 => r = mLd (mSt m j 1) n i ∧ LW D x m n h w1 ∧ wpre w w1) := by
  refine MIX.of (cc := cL_loadWithout) (nL := 4) (lv0 := [(0, .ref x), (1, .int (nI i)), (2, .int (nI j))]) (by decide +kernel) rfl (Nat.le_of_ble_eq_true rfl) rfl ?_
  intro X hXl hin C KT ret
  subst hXl
  refine j_aload_n C 0 dL_loadWithout_0 rfl rfl ?_
  refine j_iload_n C 1 dL_loadWithout_1 rfl rfl ?_
  refine j_iload_n C 2 dL_loadWithout_2 rfl rfl ?_
  refine jw_cv_i C (As := [.int (nI i), .int (nI j)]) (rest := []) (lc_loadWithout (xl X) D H i hi j hj) mfX5_loadWithout gL_loadWithout_X5_loadWithout rfl (Nat.le_of_ble_eq_true rfl) (Nat.le_of_ble_eq_true rfl) (Nat.le_of_ble_eq_true rfl) (Nat.le_of_ble_eq_true rfl) H.at0 rfl rfl (Nat.le_of_ble_eq_true rfl) dL_loadWithout_3 (fun _ _ h => h.2.2) (fun r w1 h => ?_)
  exact ret dL_loadWithout_6 h
set_option maxRecDepth 100000 in
theorem lb_loadWithoutX (l : Launch) (hst : l.stackTraces = false) (D : KD) {x : Nat} {m : Pg} {n : Nat} {h : Hs} {w : va_W} (H : LW D x m n h w) (v : Int32) (hx : pIn v 0 (m 2 - 1) = false) (y : Int32) : MIX l D yL_loadWithout wsL_loadWithout 7 104 1 6 [.ref x, .int v, .int y] w (fun r w1 => r = (-9030000 : Int32) ∧ LW D x m n h w1 ∧ wpre w w1) := by
  refine MIX.of (cc := cL_loadWithout) (nL := 4) (lv0 := [(0, .ref x), (1, .int v), (2, .int y)]) (by decide +kernel) rfl (Nat.le_of_ble_eq_true rfl) rfl ?_
  intro X hXl hin C KT ret
  subst hXl
  refine j_aload_n C 0 dL_loadWithout_0 rfl rfl ?_
  refine j_iload_n C 1 dL_loadWithout_1 rfl rfl ?_
  refine j_iload_n C 2 dL_loadWithout_2 rfl rfl ?_
  refine jw_cx C KT (As := [.int v, .int y]) (rest := []) (lc_loadWithoutX (xl X) hst D H v hx y) mfX5_loadWithout gL_loadWithout_X5_loadWithout rfl (Nat.le_of_ble_eq_true rfl) (Nat.le_of_ble_eq_true rfl) (Nat.le_of_ble_eq_true rfl) (Nat.le_of_ble_eq_true rfl) H.at0 rfl rfl (Nat.le_of_ble_eq_true rfl) dL_loadWithout_3 [] ⟨0, 6, 7, 25⟩ [] rfl (fun z hz => absurd hz List.not_mem_nil) (by decide) (by decide) m_loadWithout_Cond_classLink_RL_25_xIO (by decide +kernel) (tgt := 7) rfl (fun _ h => h.2) (fun q9 w1 h => ?_)
  refine j_astore_n C dL_loadWithout_7 rfl (by decide) (lv' := [(3, .ref q9), (0, .ref x), (1, .int v), (2, .int y)]) rfl ?_
  refine j_ldc C k_loadWithout_27 dL_loadWithout_8 ?_
  exact ret dL_loadWithout_10 ⟨rfl, h⟩
set_option maxRecDepth 100000 in
theorem lb_loadWithoutY (l : Launch) (hst : l.stackTraces = false) (D : KD) {x : Nat} {m : Pg} {n : Nat} {h : Hs} {w : va_W} (H : LW D x m n h w) (i : Nat) (hi : i < n) (v : Int32) (hx : pIn v 0 (m 2 - 1) = false) : MIX l D yL_loadWithout wsL_loadWithout 7 104 1 6 [.ref x, .int (nI i), .int v] w (fun r w1 => r = (-9030000 : Int32) ∧ LW D x m n h w1 ∧ wpre w w1) := by
  refine MIX.of (cc := cL_loadWithout) (nL := 4) (lv0 := [(0, .ref x), (1, .int (nI i)), (2, .int v)]) (by decide +kernel) rfl (Nat.le_of_ble_eq_true rfl) rfl ?_
  intro X hXl hin C KT ret
  subst hXl
  refine j_aload_n C 0 dL_loadWithout_0 rfl rfl ?_
  refine j_iload_n C 1 dL_loadWithout_1 rfl rfl ?_
  refine j_iload_n C 2 dL_loadWithout_2 rfl rfl ?_
  refine jw_cx C KT (As := [.int (nI i), .int v]) (rest := []) (lc_loadWithoutY (xl X) hst D H i hi v hx) mfX5_loadWithout gL_loadWithout_X5_loadWithout rfl (Nat.le_of_ble_eq_true rfl) (Nat.le_of_ble_eq_true rfl) (Nat.le_of_ble_eq_true rfl) (Nat.le_of_ble_eq_true rfl) H.at0 rfl rfl (Nat.le_of_ble_eq_true rfl) dL_loadWithout_3 [] ⟨0, 6, 7, 25⟩ [] rfl (fun z hz => absurd hz List.not_mem_nil) (by decide) (by decide) m_loadWithout_Cond_classLink_RL_25_xIO (by decide +kernel) (tgt := 7) rfl (fun _ h => h.2) (fun q9 w1 h => ?_)
  refine j_astore_n C dL_loadWithout_7 rfl (by decide) (lv' := [(3, .ref q9), (0, .ref x), (1, .int (nI i)), (2, .int v)]) rfl ?_
  refine j_ldc C k_loadWithout_27 dL_loadWithout_8 ?_
  exact ret dL_loadWithout_10 ⟨rfl, h⟩
set_option maxRecDepth 100000 in
theorem lb_bestPlace (l : Launch) (hst : l.stackTraces = false) (D : KD) {x : Nat} {m : Pg} {n : Nat} {h : Hs} {w : va_W} (H : LW D x m n h w) (hn16 : n < 16) (s0 : Int32) (hy : pIn s0 1 100 = true) : MIX l D yL_bestPlace wsL_bestPlace 5 128 0 0 [.ref x, .int s0] w (fun r w1 => r = (bpI m n s0 41).1 ∧ LW D x m n h w1 ∧ wpre w w1) := by
  refine MIX.of (cc := cL_bestPlace) (nL := 3) (lv0 := [(0, .ref x), (1, .int s0)]) (by decide +kernel) rfl (Nat.le_of_ble_eq_true rfl) rfl ?_
  intro X hXl hin C KT ret
  subst hXl
  refine j_aload_n C 0 dL_bestPlace_0 rfl rfl ?_
  refine j_iload_n C 1 dL_bestPlace_1 rfl rfl ?_
  refine jw_cv_i C (As := [.int s0]) (rest := []) (lc_bestPlace (xl X) D H hn16 s0 hy) mfX5_bestPlace gL_bestPlace_X5_bestPlace rfl (Nat.le_of_ble_eq_true rfl) (Nat.le_of_ble_eq_true rfl) (Nat.le_of_ble_eq_true rfl) (Nat.le_of_ble_eq_true rfl) H.at0 rfl rfl (Nat.le_of_ble_eq_true rfl) dL_bestPlace_2 (fun _ _ h => h.2.2) (fun r w1 h => ?_)
  exact ret dL_bestPlace_5 h
set_option maxRecDepth 100000 in
theorem lb_bestPlaceF (l : Launch) (hst : l.stackTraces = false) (D : KD) {x : Nat} {m : Pg} {n : Nat} {h : Hs} {w : va_W} (H : LW D x m n h w) (hn16 : ¬ n < 16) (s0 : Int32) (hy : pIn s0 1 100 = true) : MIX l D yL_bestPlace wsL_bestPlace 2 46 0 0 [.ref x, .int s0] w (fun r w1 => r = -1 ∧ LW D x m n h w1 ∧ wpre w w1) := by
  refine MIX.of (cc := cL_bestPlace) (nL := 3) (lv0 := [(0, .ref x), (1, .int s0)]) (by decide +kernel) rfl (Nat.le_of_ble_eq_true rfl) rfl ?_
  intro X hXl hin C KT ret
  subst hXl
  refine j_aload_n C 0 dL_bestPlace_0 rfl rfl ?_
  refine j_iload_n C 1 dL_bestPlace_1 rfl rfl ?_
  refine jw_cv_i C (As := [.int s0]) (rest := []) (lc_bestPlaceF (xl X) D H hn16 s0 hy) mfX5_bestPlace gL_bestPlace_X5_bestPlace rfl (Nat.le_of_ble_eq_true rfl) (Nat.le_of_ble_eq_true rfl) (Nat.le_of_ble_eq_true rfl) (Nat.le_of_ble_eq_true rfl) H.at0 rfl rfl (Nat.le_of_ble_eq_true rfl) dL_bestPlace_2 (fun _ _ h => h.2.2) (fun r w1 h => ?_)
  exact ret dL_bestPlace_5 h
set_option maxRecDepth 100000 in
theorem lb_bestPlaceX (l : Launch) (hst : l.stackTraces = false) (D : KD) {x : Nat} {m : Pg} {n : Nat} {h : Hs} {w : va_W} (H : LW D x m n h w) (s0 : Int32) (hy : pIn s0 1 100 = false) : MIX l D yL_bestPlace wsL_bestPlace 7 106 1 6 [.ref x, .int s0] w (fun r w1 => r = (-9010000 : Int32) ∧ LW D x m n h w1 ∧ wpre w w1) := by
  refine MIX.of (cc := cL_bestPlace) (nL := 3) (lv0 := [(0, .ref x), (1, .int s0)]) (by decide +kernel) rfl (Nat.le_of_ble_eq_true rfl) rfl ?_
  intro X hXl hin C KT ret
  subst hXl
  refine j_aload_n C 0 dL_bestPlace_0 rfl rfl ?_
  refine j_iload_n C 1 dL_bestPlace_1 rfl rfl ?_
  refine jw_cx C KT (As := [.int s0]) (rest := []) (lc_bestPlaceX (xl X) hst D H s0 hy) mfX5_bestPlace gL_bestPlace_X5_bestPlace rfl (Nat.le_of_ble_eq_true rfl) (Nat.le_of_ble_eq_true rfl) (Nat.le_of_ble_eq_true rfl) (Nat.le_of_ble_eq_true rfl) H.at0 rfl rfl (Nat.le_of_ble_eq_true rfl) dL_bestPlace_2 [] ⟨0, 5, 6, 15⟩ [] rfl (fun z hz => absurd hz List.not_mem_nil) (by decide) (by decide) m_bestPlace_Cond_classLink_RL_15_xIA (by decide +kernel) (tgt := 6) rfl (fun _ h => h.2) (fun q9 w1 h => ?_)
  refine j_astore_n C dL_bestPlace_6 rfl (by decide) (lv' := [(2, .ref q9), (0, .ref x), (1, .int s0)]) rfl ?_
  refine j_ldc C k_bestPlace_17 dL_bestPlace_7 ?_
  exact ret dL_bestPlace_9 ⟨rfl, h⟩
set_option maxRecDepth 100000 in
theorem lb_appendX (l : Launch) (hst : l.stackTraces = false) (D : KD) {x : Nat} {m : Pg} {n : Nat} {h : Hs} {w : va_W} (H : LW D x m n h w) (v : Int32) (hy : pIn v 0 127 = false) : MIX l D yL_append wsL_append 7 103 1 6 [.ref x, .int v] w (fun r w1 => r = (-9010000 : Int32) ∧ LW D x m n h w1 ∧ wpre w w1) := by
  refine MIX.of (cc := cL_append) (nL := 3) (lv0 := [(0, .ref x), (1, .int v)]) (by decide +kernel) rfl (Nat.le_of_ble_eq_true rfl) rfl ?_
  intro X hXl hin C KT ret
  subst hXl
  refine j_aload_n C 0 dL_append_0 rfl rfl ?_
  refine j_iload_n C 1 dL_append_1 rfl rfl ?_
  refine jw_cx C KT (As := [.int v]) (rest := []) (lc_appendX (xl X) hst D H v hy) mfX5_append gL_append_X5_append rfl (Nat.le_of_ble_eq_true rfl) (Nat.le_of_ble_eq_true rfl) (Nat.le_of_ble_eq_true rfl) (Nat.le_of_ble_eq_true rfl) H.at0 rfl rfl (Nat.le_of_ble_eq_true rfl) dL_append_2 [] ⟨0, 5, 6, 15⟩ [⟨0, 5, 10, 18⟩] rfl (fun z hz => absurd hz List.not_mem_nil) (by decide) (by decide) m_append_Cond_classLink_RL_15_xIA (by decide +kernel) (tgt := 6) rfl (fun _ h => h.2) (fun q9 w1 h => ?_)
  refine j_astore_n C dL_append_6 rfl (by decide) (lv' := [(2, .ref q9), (0, .ref x), (1, .int v)]) rfl ?_
  refine j_ldc C k_append_17 dL_append_7 ?_
  exact ret dL_append_9 ⟨rfl, h⟩
set_option maxRecDepth 100000 in
theorem lb_undo (l : Launch) (hst : l.stackTraces = false) (D : KD) {x : Nat} {m m0 : Pg} {n n0 : Nat} {h : Hs} {w : va_W} (H : LW D x m n ((m0, n0) :: h) w)  : MIX l D yL_undo wsL_undo 5 125 0 0 [.ref x] w (fun r w1 => r = nI h.length ∧ LW D x m0 n0 h w1 ∧ wpre w w1) := by
  refine MIX.of (cc := cL_undo) (nL := 2) (lv0 := [(0, .ref x)]) (by decide +kernel) rfl (Nat.le_of_ble_eq_true rfl) rfl ?_
  intro X hXl hin C KT ret
  subst hXl
  refine j_aload_n C 0 dL_undo_0 rfl rfl ?_
  refine jw_cv_i C (As := []) (rest := []) (lc_undo (xl X) D H) mfX5_undo gL_undo_X5_undo rfl (Nat.le_of_ble_eq_true rfl) (Nat.le_of_ble_eq_true rfl) (Nat.le_of_ble_eq_true rfl) (Nat.le_of_ble_eq_true rfl) H.at0 rfl rfl (Nat.le_of_ble_eq_true rfl) dL_undo_1 (fun _ _ h => h.2.2) (fun r w1 h => ?_)
  exact ret dL_undo_4 h
set_option maxRecDepth 100000 in
theorem lb_undoX (l : Launch) (hst : l.stackTraces = false) (D : KD) {x : Nat} {m : Pg} {n : Nat} {w : va_W} (H : LW D x m n [] w)  : MIX l D yL_undo wsL_undo 7 103 1 6 [.ref x] w (fun r w1 => r = (-9020000 : Int32) ∧ LW D x m n [] w1 ∧ wpre w w1) := by
  refine MIX.of (cc := cL_undo) (nL := 2) (lv0 := [(0, .ref x)]) (by decide +kernel) rfl (Nat.le_of_ble_eq_true rfl) rfl ?_
  intro X hXl hin C KT ret
  subst hXl
  refine j_aload_n C 0 dL_undo_0 rfl rfl ?_
  refine jw_cx C KT (As := []) (rest := []) (lc_undoX (xl X) hst D H) mfX5_undo gL_undo_X5_undo rfl (Nat.le_of_ble_eq_true rfl) (Nat.le_of_ble_eq_true rfl) (Nat.le_of_ble_eq_true rfl) (Nat.le_of_ble_eq_true rfl) H.at0 rfl rfl (Nat.le_of_ble_eq_true rfl) dL_undo_1 [] ⟨0, 4, 5, 18⟩ [] rfl (fun z hz => absurd hz List.not_mem_nil) (by decide) (by decide) m_undo_Cond_classLink_RL_18_xIS (by decide +kernel) (tgt := 5) rfl (fun _ h => h.2) (fun q9 w1 h => ?_)
  refine j_astore_n C dL_undo_5 rfl (by decide) (lv' := [(1, .ref q9), (0, .ref x)]) rfl ?_
  refine j_ldc C k_undo_20 dL_undo_6 ?_
  exact ret dL_undo_8 ⟨rfl, h⟩
set_option maxRecDepth 100000 in
theorem lb_low (l : Launch) (D : KD) (v : Int32) (N : Nat) (h0 : 0 < N) (hN : N < 2 ^ 31) : MI l D yL_low wsL_low 0 0 0 0 [.int v, .int (nI N)] [] (fun r w1 => (∃ j, j < N ∧ r = nI j) ∧ w1 = []) := by
  refine MI.of (cc := cL_low) (nL := 2) (lv0 := [(0, .int v), (1, .int (nI N))]) (by decide +kernel) rfl (Nat.le_of_ble_eq_true rfl) rfl ?_
  intro X hXl hin C ret
  subst hXl
  refine j_iload_n C 0 dL_low_0 rfl rfl ?_
  refine j_ldc C k_low_8 dL_low_1 ?_
  refine j_iand C dL_low_3 ?_
  refine j_iload_n C 1 dL_low_4 rfl rfl ?_
  refine j_irem C dL_low_5 (nI_ne0 h0 hN) ?_
  exact ret dL_low_6 ⟨lw_low v h0 hN, rfl⟩
set_option maxRecDepth 100000 in
theorem lb_lot (l : Launch) (D : KD) (b L : Nat) (z : Nat → Int32) (v : Int32) (hv : ¬ v < 0) : MS l D yL_lot wsL_lot 0 0 [.ref b, .int v] b L z := by
  refine MS.of (cc := cL_lot) (nL := 2) (lv0 := [(0, .ref b), (1, .int v)]) (by decide +kernel) rfl (Nat.le_of_ble_eq_true rfl) rfl ?_
  intro X hXl C S ret
  subst hXl
  have hL := S.2.2.2
  obtain ⟨j, hj, rfl⟩ := nI_of hv
  refine j_iload_n C 1 dL_lot_0 rfl rfl ?_
  refine j_aload_n C 0 dL_lot_1 rfl rfl ?_
  refine j_slen C S dL_lot_2 ?_
  refine j_icmp_ge C dL_lot_3 (tgt := 12) (by decide) (fun h3 => ?_) (fun h3 => ?_)
  · refine j_ldc C k_lot_7 dL_lot_12 ?_
    refine j_iload_n C 1 dL_lot_14 rfl rfl ?_
    refine j_sipush C (v := (2029 : Int32)) dL_lot_15 rfl ?_
    refine j_iadd C dL_lot_18 ?_
    refine j_imul C dL_lot_19 ?_
    refine j_sipush C (v := (1847 : Int32)) dL_lot_20 rfl ?_
    refine j_iadd C dL_lot_23 ?_
    exact ret dL_lot_24
  · refine j_aload_n C 0 dL_lot_6 rfl rfl ?_
    refine j_iload_n C 1 dL_lot_7 rfl rfl ?_
    refine j_sld C S (x := nI j) (vp_in_nI (Nat.lt_of_not_le fun z => h3 (nI_le z hj)) (by omega)) rfl dL_lot_8 ?_
    refine j_goto C dL_lot_9 (tgt := 24) (by decide) ?_
    exact ret dL_lot_24
