set_option maxRecDepth 100000 in
set_option maxHeartbeats 4000000 in
theorem lw_bests (l : Launch) (hst : l.stackTraces = false) (D : KD) {x : Nat} {m : Pg} {n : Nat} {h : Hs} {w0 : va_W} (H : LW D x m n h w0) (v0 : Int32) : MIX l D yL_bests wsL_bests 7 174 24 360 [.ref x, .int v0] w0 (fun r w1 => r = 1 ∧ (∃ h' : Hs, LW D x m n h' w1) ∧ wpre w0 w1) := by
  refine MIX.ofz (cc := cL_bests) (nL := 12) (lv0 := [(0, .ref x), (1, .int v0)]) (by decide +kernel) rfl (Nat.le_of_ble_eq_true rfl) rfl ?_
  intro X hXl hin C KT ret
  subst hXl
  have P := wp_rfl w0
  obtain ⟨hn, hc, hV, hl4⟩ := H.fc
  have hV0 : pIn (m 0) 1 100000 = true := by simp only [pIn, Bool.and_eq_true, decide_eq_true_eq]; exact hV.1
  have hV1 : pIn (m 1) 0 400 = true := by simp only [pIn, Bool.and_eq_true, decide_eq_true_eq]; exact hV.2.1
  refine j_aload_n C 0 dL_bests_0 rfl rfl ?_
  refine jw_cv_l C (As := []) (rest := []) (lc_digest (xl X) D H) mfX5_digest gL_bests_X5_digest rfl (Nat.le_of_ble_eq_true rfl) (Nat.le_of_ble_eq_true rfl) (Nat.le_of_ble_eq_true rfl) (Nat.le_of_ble_eq_true rfl) (H).at0 rfl rfl (Nat.le_of_ble_eq_true rfl) dL_bests_1 (fun _ _ h => h.2.2) ?_
  rintro _ w1 ⟨rfl, H1, p1⟩
  have P1 := wp_tr P p1
  refine j_lstore_n C dL_bests_4 rfl (by decide) (lv' := [(2, .long (mDg m n (nI 0) (nI h.length))), (0, .ref x), (1, .int v0)]) rfl ?_
  refine j_aload_n C 1 dL_bests_5 rfl rfl ?_
  refine jw_cv_i C (As := []) (rest := []) (lc_greatestWeight (xl X) D H1) mfX5_greatestWeight gL_bests_X5_greatestWeight rfl (Nat.le_of_ble_eq_true rfl) (Nat.le_of_ble_eq_true rfl) (Nat.le_of_ble_eq_true rfl) (Nat.le_of_ble_eq_true rfl) (H1).at0 rfl rfl (Nat.le_of_ble_eq_true rfl) dL_bests_6 (fun _ _ h => h.2.2) ?_
  rintro _ w2 ⟨rfl, H2, p2⟩
  have P2 := wp_tr P1 p2
  refine j_topi (fun r4 er4 => ?_)
  have hr4 := gw_x m n 100
  rw [← er4] at hr4
  refine j_istore C dL_bests_9 (by decide) (lv' := [(4, .int r4), (2, .long (mDg m n (nI 0) (nI h.length))), (0, .ref x), (1, .int v0)]) rfl ?_
  refine j_aload_n C 2 dL_bests_11 rfl rfl ?_
  refine jw_cv_i C (As := []) (rest := []) (lc_bestCenter (xl X) D H2) mfX5_bestCenter gL_bests_X5_bestCenter rfl (Nat.le_of_ble_eq_true rfl) (Nat.le_of_ble_eq_true rfl) (Nat.le_of_ble_eq_true rfl) (Nat.le_of_ble_eq_true rfl) (H2).at0 rfl rfl (Nat.le_of_ble_eq_true rfl) dL_bests_12 (fun _ _ h => h.2.2) ?_
  rintro _ w3 ⟨rfl, H3, p3⟩
  have P3 := wp_tr P2 p3
  refine j_topi (fun r5 er5 => ?_)
  have hr5 : r5 = -1 ∨ ∃ j, j < 81 ∧ r5 = nI (5 * j) ∧ (mR (mUp m 1 (nI (5 * j))) n).1 = true ∧ ∀ i, i < 81 → (mR (mUp m 1 (nI (5 * i))) n).1 = true → ¬ mGr (mUp m 1 (nI (5 * i))) n < mGr (mUp m 1 (nI (5 * j))) n ∧ (mGr (mUp m 1 (nI (5 * i))) n = mGr (mUp m 1 (nI (5 * j))) n → j ≤ i) := by
    rcases bc_x m n 81 (Nat.le_refl _) with ⟨z, -⟩ | ⟨j, z1, z2, z3, z4⟩
    · exact Or.inl (er5.trans z)
    · exact Or.inr ⟨j, z1, er5.trans (by rw [z2]), z3, z4⟩
  refine j_istore C dL_bests_15 (by decide) (lv' := [(5, .int r5), (4, .int r4), (2, .long (mDg m n (nI 0) (nI h.length))), (0, .ref x), (1, .int v0)]) rfl ?_
  refine j_iconst C (v := (1 : Int32)) dL_bests_17 rfl ?_
  refine j_iload_n C 4 dL_bests_18 rfl rfl ?_
  refine j_bipush C (v := (100 : Int32)) dL_bests_19 rfl ?_
  refine jw_0 C (As := [.int v0, .int (100 : Int32)]) (rest := [.int (1 : Int32)]) (lb_low (xl X) D v0 100 (by decide) (by decide)) mfL_low gL_bests_L_low rfl (Nat.le_of_ble_eq_true rfl) (Nat.le_of_ble_eq_true rfl) (Nat.le_of_ble_eq_true rfl) (Nat.le_of_ble_eq_true rfl) rfl (Nat.le_of_ble_eq_true rfl) dL_bests_21 (fun _ _ h => h.2) ?_
  rintro _ ⟨⟨j21, hj21, rfl⟩, -⟩
  refine j_iadd C dL_bests_24 ?_
  refine j_eqi (y := nI (1 + j21)) (nI_add 1 j21) ?_
  refine j_istore C dL_bests_25 (by decide) (lv' := [(6, .int (nI (1 + j21))), (5, .int r5), (4, .int r4), (2, .long (mDg m n (nI 0) (nI h.length))), (0, .ref x), (1, .int v0)]) rfl ?_
  have hJ33 : ∀ (r7 : Int32) (hr7 : r7 = -1 ∨ (n < 16 ∧ ∃ j, j < 41 ∧ r7 = nI (10 * j) ∧ (mR (mBu m n (nI (10 * j)) (nI (1 + j21)) 0 99999) (n + 1)).1 = true)) (w5j : va_W), LW D x m n h w5j → wpre w0 w5j → J D X w5j 0 0 33 [(6, .int (nI (1 + j21))), (5, .int r5), (4, .int r4), (2, .long (mDg m n (nI 0) (nI h.length))), (0, .ref x), (1, .int v0)] [.int r7] := by
    intro r7 hr7  w5j H5j P5j
    refine j_istore C dL_bests_33 (by decide) (lv' := [(7, .int r7), (6, .int (nI (1 + j21))), (5, .int r5), (4, .int r4), (2, .long (mDg m n (nI 0) (nI h.length))), (0, .ref x), (1, .int v0)]) rfl ?_
    refine j_aload_n C 5 dL_bests_35 rfl rfl ?_
    refine jw_cv_l C (As := []) (rest := []) (lc_digest (xl X) D H5j) mfX5_digest gL_bests_X5_digest rfl (Nat.le_of_ble_eq_true rfl) (Nat.le_of_ble_eq_true rfl) (Nat.le_of_ble_eq_true rfl) (Nat.le_of_ble_eq_true rfl) (H5j).at0 rfl rfl (Nat.le_of_ble_eq_true rfl) dL_bests_36 (fun _ _ h => h.2.2) ?_
    rintro _ w6 ⟨rfl, H6, p6⟩
    have P6 := wp_tr P5j p6
    refine j_lload_n C 4 dL_bests_39 rfl rfl ?_
    refine j_lcmp C dL_bests_40 ?_
    refine j_lif_ne C dL_bests_41 (tgt := 117) (by decide) (fun h => absurd rfl h) (fun _ => ?_)
    refine j_iload C 3 dL_bests_44 rfl ?_
    refine j_iconst C (v := (-1 : Int32)) dL_bests_46 rfl ?_
    have hJ74 : ∀ (w7j : va_W), LW D x m n h w7j → wpre w0 w7j → J D X w7j 0 0 74 [(7, .int r7), (6, .int (nI (1 + j21))), (5, .int r5), (4, .int r4), (0, .ref x), (1, .int v0)] [] := by
      intro  w7j H7j P7j
      refine j_iload C 2 dL_bests_74 rfl ?_
      refine j_iconst C (v := (-1 : Int32)) dL_bests_76 rfl ?_
      have hJ95 : ∀ (w8j : va_W), LW D x m n h w8j → wpre w0 w8j → J D X w8j 0 0 95 [(7, .int r7), (6, .int (nI (1 + j21))), (5, .int r5), (4, .int r4), (0, .ref x), (1, .int v0)] [] := by
        intro  w8j H8j P8j
        refine j_iload C 0 dL_bests_95 rfl ?_
        refine j_iconst C (v := (-1 : Int32)) dL_bests_97 rfl ?_
        have hJ119 : ∀ (w9j : va_W), LW D x m n h w9j → wpre w0 w9j → J D X w9j 0 0 119 [(7, .int r7), (6, .int (nI (1 + j21))), (5, .int r5), (4, .int r4), (0, .ref x), (1, .int v0)] [] := by
          intro  w9j H9j P9j
          refine j_aload_n C 4 dL_bests_119 rfl rfl ?_
          refine j_iconst C (v := (0 : Int32)) dL_bests_120 rfl ?_
          refine jw_i C KT (As := [.ref x, .int (0 : Int32)]) (rest := []) (lb_value (xl X) hst D H9j 0 (by decide)) mw_value my_value gL_bests_L_value rfl (Nat.le_of_ble_eq_true rfl) (Nat.le_of_ble_eq_true rfl) (Nat.le_of_ble_eq_true rfl) (Nat.le_of_ble_eq_true rfl) rfl (Nat.le_of_ble_eq_true rfl) dL_bests_121 (fun _ _ h => h.2.2) ?_
          rintro _ w10 ⟨rfl, H10, p10⟩
          have P10 := wp_tr P9j p10
          refine j_eqi (y := m 0) (vl_0 m n) ?_
          refine j_istore C dL_bests_124 (by decide) (lv' := [(8, .int (m 0)), (7, .int r7), (6, .int (nI (1 + j21))), (5, .int r5), (4, .int r4), (0, .ref x), (1, .int v0)]) rfl ?_
          refine j_aload_n C 5 dL_bests_126 rfl rfl ?_
          refine j_iconst C (v := (1 : Int32)) dL_bests_127 rfl ?_
          refine jw_i C KT (As := [.ref x, .int (1 : Int32)]) (rest := []) (lb_value (xl X) hst D H10 1 (by decide)) mw_value my_value gL_bests_L_value rfl (Nat.le_of_ble_eq_true rfl) (Nat.le_of_ble_eq_true rfl) (Nat.le_of_ble_eq_true rfl) (Nat.le_of_ble_eq_true rfl) rfl (Nat.le_of_ble_eq_true rfl) dL_bests_128 (fun _ _ h => h.2.2) ?_
          rintro _ w11 ⟨rfl, H11, p11⟩
          have P11 := wp_tr P10 p11
          refine j_eqi (y := m 1) (vl_1 m n) ?_
          refine j_istore C dL_bests_131 (by decide) (lv' := [(9, .int (m 1)), (8, .int (m 0)), (7, .int r7), (6, .int (nI (1 + j21))), (5, .int r5), (4, .int r4), (0, .ref x), (1, .int v0)]) rfl ?_
          refine j_iload C 5 dL_bests_133 rfl ?_
          refine j_iconst C (v := (-1 : Int32)) dL_bests_135 rfl ?_
          have hJ179 : ∀ (g12j : Hs) (w12j : va_W), LW D x m n g12j w12j → wpre w0 w12j → J D X w12j 6 90 179 [(9, .int (m 1)), (8, .int (m 0)), (7, .int r7), (6, .int (nI (1 + j21))), (5, .int r5), (0, .ref x), (1, .int v0)] [] := by
            intro g12j w12j H12j P12j
            refine j_iload C 4 dL_bests_179 rfl ?_
            refine j_iconst C (v := (-1 : Int32)) dL_bests_181 rfl ?_
            have hJ299 : ∀ (g13j : Hs) (w13j : va_W), LW D x m n g13j w13j → wpre w0 w13j → J D X w13j 18 270 299 [(9, .int (m 1)), (8, .int (m 0)), (7, .int r7), (6, .int (nI (1 + j21))), (0, .ref x)] [] := by
              intro g13j w13j H13j P13j
              refine j_iload C 2 dL_bests_299 rfl ?_
              refine j_iconst C (v := (-1 : Int32)) dL_bests_301 rfl ?_
              have hJ345 : ∀ (g14j : Hs) (w14j : va_W), LW D x m n g14j w14j → wpre w0 w14j → J D X w14j 24 360 345 [(9, .int (m 1)), (8, .int (m 0)), (0, .ref x)] [] := by
                intro g14j w14j H14j P14j
                refine j_aload_n C 2 dL_bests_345 rfl rfl ?_
                refine j_iconst C (v := (0 : Int32)) dL_bests_346 rfl ?_
                refine jw_i C KT (As := [.ref x, .int (0 : Int32)]) (rest := []) (lb_value (xl X) hst D H14j 0 (by decide)) mw_value my_value gL_bests_L_value rfl (Nat.le_of_ble_eq_true rfl) (Nat.le_of_ble_eq_true rfl) (Nat.le_of_ble_eq_true rfl) (Nat.le_of_ble_eq_true rfl) rfl (Nat.le_of_ble_eq_true rfl) dL_bests_347 (fun _ _ h => h.2.2) ?_
                rintro _ w15 ⟨rfl, H15, p15⟩
                have P15 := wp_tr P14j p15
                refine j_eqi (y := m 0) (vl_0 m n) ?_
                refine j_iload C 1 dL_bests_350 rfl ?_
                refine j_icmp_ne C dL_bests_352 (tgt := 369) (by decide) (fun h => absurd rfl h) (fun _ => ?_)
                refine j_aload_n C 2 dL_bests_355 rfl rfl ?_
                refine j_iconst C (v := (1 : Int32)) dL_bests_356 rfl ?_
                refine jw_i C KT (As := [.ref x, .int (1 : Int32)]) (rest := []) (lb_value (xl X) hst D H15 1 (by decide)) mw_value my_value gL_bests_L_value rfl (Nat.le_of_ble_eq_true rfl) (Nat.le_of_ble_eq_true rfl) (Nat.le_of_ble_eq_true rfl) (Nat.le_of_ble_eq_true rfl) rfl (Nat.le_of_ble_eq_true rfl) dL_bests_357 (fun _ _ h => h.2.2) ?_
                rintro _ w16 ⟨rfl, H16, p16⟩
                have P16 := wp_tr P15 p16
                refine j_eqi (y := m 1) (vl_1 m n) ?_
                refine j_iload C 0 dL_bests_360 rfl ?_
                refine j_icmp_ne C dL_bests_362 (tgt := 369) (by decide) (fun h => absurd rfl h) (fun _ => ?_)
                refine j_iconst C (v := (1 : Int32)) dL_bests_365 rfl ?_
                refine j_goto C dL_bests_366 (tgt := 370) (by decide) ?_
                refine j_widen (k' := 24) (n' := 360) (Nat.le_of_ble_eq_true rfl) (Nat.le_of_ble_eq_true rfl) ?_
                exact ret dL_bests_370 (Or.inr rfl) (⟨rfl, ⟨_, H16⟩, P16⟩)
              refine j_icmp_eq C dL_bests_302 (tgt := 345) (by decide) (fun h302 => ?_) (fun h302 => ?_)
              · refine j_sub [0, 1, 4] (lv' := [(9, .int (m 1)), (8, .int (m 0)), (0, .ref x)]) rfl ?_
                refine j_widen (k' := 24) (n' := 360) (Nat.le_of_ble_eq_true rfl) (Nat.le_of_ble_eq_true rfl) ?_
                exact hJ345 _ w13j H13j P13j
              · obtain ⟨hn7, q7, hq7, rfl, hR7⟩ := hr7.resolve_left h302
                refine j_aload_n C 4 dL_bests_305 rfl rfl ?_
                refine j_iload C 2 dL_bests_306 rfl ?_
                refine j_iload C 3 dL_bests_308 rfl ?_
                refine j_iconst C (v := (0 : Int32)) dL_bests_310 rfl ?_
                refine j_ldc C k_bests_125 dL_bests_311 ?_
                refine jw_i C KT (As := [.ref x, .int (nI (10 * q7)), .int (nI (1 + j21)), .int (0 : Int32), .int (99999 : Int32)]) (rest := []) (lb_addBlock (xl X) hst D H13j (nI (10 * q7)) (nI (1 + j21)) 0 99999 (by rw [(ck_p q7 hq7).2.2.2, show pIn (nI (1 + j21)) 1 100 = true from pIn_nI (a := 1) (b := 100) (by omega) (by omega) (by decide)]; decide) hn7) mw_addBlock my_addBlock gL_bests_L_addBlock rfl (Nat.le_of_ble_eq_true rfl) (Nat.le_of_ble_eq_true rfl) (Nat.le_of_ble_eq_true rfl) (Nat.le_of_ble_eq_true rfl) rfl (Nat.le_of_ble_eq_true rfl) dL_bests_313 (fun _ _ h => h.2.2) ?_
                rintro _ w17 ⟨rfl, H17, p17⟩
                have P17 := wp_tr P13j p17
                refine j_aload_n C 4 dL_bests_316 rfl rfl ?_
                refine j_iconst C (v := (2 : Int32)) dL_bests_317 rfl ?_
                refine jw_i C KT (As := [.ref x, .int (2 : Int32)]) (rest := [.int (nI n)]) (lb_value (xl X) hst D H17 2 (by decide)) mw_value my_value gL_bests_L_value rfl (Nat.le_of_ble_eq_true rfl) (Nat.le_of_ble_eq_true rfl) (Nat.le_of_ble_eq_true rfl) (Nat.le_of_ble_eq_true rfl) rfl (Nat.le_of_ble_eq_true rfl) dL_bests_318 (fun _ _ h => h.2.2) ?_
                rintro _ w18 ⟨rfl, H18, p18⟩
                have P18 := wp_tr P17 p18
                refine j_eqi (y := nI (n + 1)) H18.fc.2.1 ?_
                refine j_iconst C (v := (1 : Int32)) dL_bests_321 rfl ?_
                refine j_isub C dL_bests_322 ?_
                refine j_icmp_ne C dL_bests_323 (tgt := 343) (by decide) (fun h => absurd ((nI_pred n).symm) h) (fun _ => ?_)
                refine j_aload_n C 4 dL_bests_326 rfl rfl ?_
                refine j_bipush C (v := (6 : Int32)) dL_bests_327 rfl ?_
                refine jw_i C KT (As := [.ref x, .int (6 : Int32)]) (rest := []) (lb_value (xl X) hst D H18 6 (by decide)) mw_value my_value gL_bests_L_value rfl (Nat.le_of_ble_eq_true rfl) (Nat.le_of_ble_eq_true rfl) (Nat.le_of_ble_eq_true rfl) (Nat.le_of_ble_eq_true rfl) rfl (Nat.le_of_ble_eq_true rfl) dL_bests_329 (fun _ _ h => h.2.2) ?_
                rintro _ w19 ⟨rfl, H19, p19⟩
                have P19 := wp_tr P18 p19
                refine j_eqi (y := bI (mR (mBu m n (nI (10 * q7)) (nI (1 + j21)) 0 99999) (n + 1)).1) (vl_6 (mBu m n (nI (10 * q7)) (nI (1 + j21)) 0 99999) (n + 1)) ?_
                refine j_iconst C (v := (1 : Int32)) dL_bests_332 rfl ?_
                refine j_icmp_ne C dL_bests_333 (tgt := 343) (by decide) (fun h => absurd (by rw [hR7]; rfl) h) (fun _ => ?_)
                refine j_aload_n C 4 dL_bests_336 rfl rfl ?_
                refine jw_i C KT (As := [.ref x]) (rest := []) (lb_undo (xl X) hst D H19) mw_undo my_undo gL_bests_L_undo rfl (Nat.le_of_ble_eq_true rfl) (Nat.le_of_ble_eq_true rfl) (Nat.le_of_ble_eq_true rfl) (Nat.le_of_ble_eq_true rfl) rfl (Nat.le_of_ble_eq_true rfl) dL_bests_337 (fun _ _ h => h.2.2) ?_
                rintro _ w20 ⟨rfl, H20, p20⟩
                have P20 := wp_tr P19 p20
                refine j_if_ge C dL_bests_340 (tgt := 345) (by decide) (fun _ => ?_) (fun h => absurd (nI_pos' (by have := H20.fc.2.2.2; omega)) h)
                refine j_sub [0, 1, 4] (lv' := [(9, .int (m 1)), (8, .int (m 0)), (0, .ref x)]) rfl ?_
                exact hJ345 _ w20 H20 P20
            refine j_icmp_eq C dL_bests_182 (tgt := 299) (by decide) (fun h182 => ?_) (fun h182 => ?_)
            · refine j_sub [0, 1, 2, 3, 5] (lv' := [(9, .int (m 1)), (8, .int (m 0)), (7, .int r7), (6, .int (nI (1 + j21))), (0, .ref x)]) rfl ?_
              refine j_widen (k' := 18) (n' := 270) (Nat.le_of_ble_eq_true rfl) (Nat.le_of_ble_eq_true rfl) ?_
              exact hJ299 _ w12j H12j P12j
            · obtain ⟨q5, hq5, rfl, hR5, hd5⟩ := hr5.resolve_left h182
              refine j_iconst C (v := (5 : Int32)) dL_bests_185 rfl ?_
              refine j_iload_n C 6 dL_bests_186 rfl rfl ?_
              refine j_bipush C (v := (7 : Int32)) dL_bests_187 rfl ?_
              refine j_ishr C dL_bests_189 ?_
              refine j_bipush C (v := (81 : Int32)) dL_bests_190 rfl ?_
              refine jw_0 C (As := [.int (v0 >>> ((7 : Int32) &&& 31)), .int (81 : Int32)]) (rest := [.int (5 : Int32)]) (lb_low (xl X) D (v0 >>> ((7 : Int32) &&& 31)) 81 (by decide) (by decide)) mfL_low gL_bests_L_low rfl (Nat.le_of_ble_eq_true rfl) (Nat.le_of_ble_eq_true rfl) (Nat.le_of_ble_eq_true rfl) (Nat.le_of_ble_eq_true rfl) rfl (Nat.le_of_ble_eq_true rfl) dL_bests_192 (fun _ _ h => h.2) ?_
              rintro _ ⟨⟨j192, hj192, rfl⟩, -⟩
              refine j_imul C dL_bests_195 ?_
              refine j_eqi (y := nI (5 * j192)) (pk_mul 5 j192) ?_
              refine j_istore C dL_bests_196 (by decide) (lv' := [(10, .int (nI (5 * j192))), (9, .int (m 1)), (8, .int (m 0)), (7, .int r7), (6, .int (nI (1 + j21))), (5, .int (nI (5 * q5))), (0, .ref x), (1, .int v0)]) rfl ?_
              refine j_aload_n C 6 dL_bests_198 rfl rfl ?_
              refine j_iload C 2 dL_bests_199 rfl ?_
              refine j_iload C 5 dL_bests_201 rfl ?_
              refine jw_i C KT (As := [.ref x, .int (m 0), .int (nI (5 * q5))]) (rest := []) (lb_setShip (xl X) hst D H12j (m 0) (nI (5 * q5)) (by rw [hV0, (ck_c q5 hq5).2.2.2]; rfl)) mw_setShip my_setShip gL_bests_L_setShip rfl (Nat.le_of_ble_eq_true rfl) (Nat.le_of_ble_eq_true rfl) (Nat.le_of_ble_eq_true rfl) (Nat.le_of_ble_eq_true rfl) rfl (Nat.le_of_ble_eq_true rfl) dL_bests_203 (fun _ _ h => h.2.2) ?_
              rintro _ w22 ⟨rfl, H22, p22⟩
              have P22 := wp_tr P12j p22
              rw [sc_up] at H22
              refine j_iload C 2 dL_bests_206 rfl ?_
              refine j_icmp_ne C dL_bests_208 (tgt := 221) (by decide) (fun h => absurd rfl h) (fun _ => ?_)
              refine j_aload_n C 6 dL_bests_211 rfl rfl ?_
              refine j_bipush C (v := (6 : Int32)) dL_bests_212 rfl ?_
              refine jw_i C KT (As := [.ref x, .int (6 : Int32)]) (rest := []) (lb_value (xl X) hst D H22 6 (by decide)) mw_value my_value gL_bests_L_value rfl (Nat.le_of_ble_eq_true rfl) (Nat.le_of_ble_eq_true rfl) (Nat.le_of_ble_eq_true rfl) (Nat.le_of_ble_eq_true rfl) rfl (Nat.le_of_ble_eq_true rfl) dL_bests_214 (fun _ _ h => h.2.2) ?_
              rintro _ w23 ⟨rfl, H23, p23⟩
              have P23 := wp_tr P22 p23
              refine j_eqi (y := bI (mR (mUp m 1 (nI (5 * q5))) n).1) (vl_6 (mUp m 1 (nI (5 * q5))) n) ?_
              refine j_iconst C (v := (1 : Int32)) dL_bests_217 rfl ?_
              refine j_icmp_eq C dL_bests_218 (tgt := 223) (by decide) (fun _ => ?_) (fun h => absurd (by rw [hR5]; rfl) h)
              refine j_aload_n C 6 dL_bests_223 rfl rfl ?_
              refine j_bipush C (v := (8 : Int32)) dL_bests_224 rfl ?_
              refine jw_i C KT (As := [.ref x, .int (8 : Int32)]) (rest := []) (lb_value (xl X) hst D H23 8 (by decide)) mw_value my_value gL_bests_L_value rfl (Nat.le_of_ble_eq_true rfl) (Nat.le_of_ble_eq_true rfl) (Nat.le_of_ble_eq_true rfl) (Nat.le_of_ble_eq_true rfl) rfl (Nat.le_of_ble_eq_true rfl) dL_bests_226 (fun _ _ h => h.2.2) ?_
              rintro _ w24 ⟨rfl, H24, p24⟩
              have P24 := wp_tr P23 p24
              refine j_eqi (y := mGr (mUp m 1 (nI (5 * q5))) n) (vl_8 (mUp m 1 (nI (5 * q5))) n) ?_
              refine j_istore C dL_bests_229 (by decide) (lv' := [(11, .int (mGr (mUp m 1 (nI (5 * q5))) n)), (10, .int (nI (5 * j192))), (9, .int (m 1)), (8, .int (m 0)), (7, .int r7), (6, .int (nI (1 + j21))), (5, .int (nI (5 * q5))), (0, .ref x), (1, .int v0)]) rfl ?_
              refine j_aload_n C 7 dL_bests_231 rfl rfl ?_
              refine j_iload C 3 dL_bests_232 rfl ?_
              refine j_iload C 1 dL_bests_234 rfl ?_
              refine jw_i C KT (As := [.ref x, .int (m 0), .int (nI (5 * j192))]) (rest := []) (lb_setShip (xl X) hst D H24 (m 0) (nI (5 * j192)) (by rw [hV0, (ck_c j192 hj192).2.2.2]; rfl)) mw_setShip my_setShip gL_bests_L_setShip rfl (Nat.le_of_ble_eq_true rfl) (Nat.le_of_ble_eq_true rfl) (Nat.le_of_ble_eq_true rfl) (Nat.le_of_ble_eq_true rfl) rfl (Nat.le_of_ble_eq_true rfl) dL_bests_236 (fun _ _ h => h.2.2) ?_
              rintro _ w25 ⟨rfl, H25, p25⟩
              have P25 := wp_tr P24 p25
              rw [sc_up2] at H25
              refine j_iload C 3 dL_bests_239 rfl ?_
              refine j_icmp_ne C dL_bests_241 (tgt := 297) (by decide) (fun h => absurd (up_0 m _) h) (fun _ => ?_)
              refine j_aload_n C 7 dL_bests_244 rfl rfl ?_
              refine j_bipush C (v := (6 : Int32)) dL_bests_245 rfl ?_
              refine jw_i C KT (As := [.ref x, .int (6 : Int32)]) (rest := []) (lb_value (xl X) hst D H25 6 (by decide)) mw_value my_value gL_bests_L_value rfl (Nat.le_of_ble_eq_true rfl) (Nat.le_of_ble_eq_true rfl) (Nat.le_of_ble_eq_true rfl) (Nat.le_of_ble_eq_true rfl) rfl (Nat.le_of_ble_eq_true rfl) dL_bests_247 (fun _ _ h => h.2.2) ?_
              rintro _ w26 ⟨rfl, H26, p26⟩
              have P26 := wp_tr P25 p26
              refine j_eqi (y := bI (mR (mUp m 1 (nI (5 * j192))) n).1) (vl_6 (mUp m 1 (nI (5 * j192))) n) ?_
              refine j_iconst C (v := (1 : Int32)) dL_bests_250 rfl ?_
              have hJ283 : ∀ (w27j : va_W), LW D x (mUp m 1 (nI (5 * j192))) n (pu (pu g12j m n) (mUp m 1 (nI (5 * q5))) n) w27j → wpre w0 w27j → J D X w27j 18 270 283 [(9, .int (m 1)), (8, .int (m 0)), (7, .int r7), (6, .int (nI (1 + j21))), (0, .ref x)] [] := by
                intro  w27j H27j P27j
                refine j_aload_n C 4 dL_bests_283 rfl rfl ?_
                refine jw_i C KT (As := [.ref x]) (rest := []) (lb_undo (xl X) hst D H27j) mw_undo my_undo gL_bests_L_undo rfl (Nat.le_of_ble_eq_true rfl) (Nat.le_of_ble_eq_true rfl) (Nat.le_of_ble_eq_true rfl) (Nat.le_of_ble_eq_true rfl) rfl (Nat.le_of_ble_eq_true rfl) dL_bests_284 (fun _ _ h => h.2.2) ?_
                rintro _ w28 ⟨rfl, H28, p28⟩
                have P28 := wp_tr P27j p28
                refine j_if_lt C dL_bests_287 (tgt := 297) (by decide) (fun h => absurd h (nI_pos (by have := H28.fc.2.2.2; omega))) (fun _ => ?_)
                refine j_aload_n C 4 dL_bests_290 rfl rfl ?_
                refine jw_i C KT (As := [.ref x]) (rest := []) (lb_undo (xl X) hst D H28) mw_undo my_undo gL_bests_L_undo rfl (Nat.le_of_ble_eq_true rfl) (Nat.le_of_ble_eq_true rfl) (Nat.le_of_ble_eq_true rfl) (Nat.le_of_ble_eq_true rfl) rfl (Nat.le_of_ble_eq_true rfl) dL_bests_291 (fun _ _ h => h.2.2) ?_
                rintro _ w29 ⟨rfl, H29, p29⟩
                have P29 := wp_tr P28 p29
                refine j_if_ge C dL_bests_294 (tgt := 299) (by decide) (fun _ => ?_) (fun h => absurd (nI_pos' (by have := H29.fc.2.2.2; omega)) h)
                refine j_sub [0, 1, 2, 3, 4] (lv' := [(9, .int (m 1)), (8, .int (m 0)), (7, .int r7), (6, .int (nI (1 + j21))), (0, .ref x)]) rfl ?_
                exact hJ299 _ w29 H29 P29
              refine j_icmp_ne C dL_bests_251 (tgt := 283) (by decide) (fun h251 => ?_) (fun h251 => ?_)
              · refine j_sub [2, 3, 4, 5, 7] (lv' := [(9, .int (m 1)), (8, .int (m 0)), (7, .int r7), (6, .int (nI (1 + j21))), (0, .ref x)]) rfl ?_
                exact hJ283 w26 H26 P26
              · refine j_aload_n C 7 dL_bests_254 rfl rfl ?_
                refine j_bipush C (v := (8 : Int32)) dL_bests_255 rfl ?_
                refine jw_i C KT (As := [.ref x, .int (8 : Int32)]) (rest := []) (lb_value (xl X) hst D H26 8 (by decide)) mw_value my_value gL_bests_L_value rfl (Nat.le_of_ble_eq_true rfl) (Nat.le_of_ble_eq_true rfl) (Nat.le_of_ble_eq_true rfl) (Nat.le_of_ble_eq_true rfl) rfl (Nat.le_of_ble_eq_true rfl) dL_bests_257 (fun _ _ h => h.2.2) ?_
                rintro _ w30 ⟨rfl, H30, p30⟩
                have P30 := wp_tr P26 p30
                refine j_eqi (y := mGr (mUp m 1 (nI (5 * j192))) n) (vl_8 (mUp m 1 (nI (5 * j192))) n) ?_
                refine j_iload C 0 dL_bests_260 rfl ?_
                refine j_icmp_lt C dL_bests_262 (tgt := 297) (by decide) (fun h => absurd h ((hd5 j192 hj192 ((bI_eq1 _).mp h251)).1)) (fun _ => ?_)
                refine j_aload_n C 7 dL_bests_265 rfl rfl ?_
                refine j_bipush C (v := (8 : Int32)) dL_bests_266 rfl ?_
                refine jw_i C KT (As := [.ref x, .int (8 : Int32)]) (rest := []) (lb_value (xl X) hst D H30 8 (by decide)) mw_value my_value gL_bests_L_value rfl (Nat.le_of_ble_eq_true rfl) (Nat.le_of_ble_eq_true rfl) (Nat.le_of_ble_eq_true rfl) (Nat.le_of_ble_eq_true rfl) rfl (Nat.le_of_ble_eq_true rfl) dL_bests_268 (fun _ _ h => h.2.2) ?_
                rintro _ w31 ⟨rfl, H31, p31⟩
                have P31 := wp_tr P30 p31
                refine j_eqi (y := mGr (mUp m 1 (nI (5 * j192))) n) (vl_8 (mUp m 1 (nI (5 * j192))) n) ?_
                refine j_iload C 0 dL_bests_271 rfl ?_
                refine j_icmp_ne C dL_bests_273 (tgt := 283) (by decide) (fun h273 => ?_) (fun h273 => ?_)
                · refine j_sub [2, 3, 4, 5, 7] (lv' := [(9, .int (m 1)), (8, .int (m 0)), (7, .int r7), (6, .int (nI (1 + j21))), (0, .ref x)]) rfl ?_
                  exact hJ283 w31 H31 P31
                · refine j_iload C 1 dL_bests_276 rfl ?_
                  refine j_iload C 6 dL_bests_278 rfl ?_
                  refine j_icmp_lt C dL_bests_280 (tgt := 297) (by decide) (fun h => absurd h (nI_nlt (by have := (hd5 j192 hj192 ((bI_eq1 _).mp h251)).2 h273; omega) (by omega))) (fun _ => ?_)
                  refine j_sub [2, 3, 4, 5, 7] (lv' := [(9, .int (m 1)), (8, .int (m 0)), (7, .int r7), (6, .int (nI (1 + j21))), (0, .ref x)]) rfl ?_
                  exact hJ283 w31 H31 P31
          refine j_icmp_eq C dL_bests_136 (tgt := 179) (by decide) (fun h136 => ?_) (fun h136 => ?_)
          · refine j_sub [0, 1, 2, 3, 4, 6, 7] (lv' := [(9, .int (m 1)), (8, .int (m 0)), (7, .int r7), (6, .int (nI (1 + j21))), (5, .int r5), (0, .ref x), (1, .int v0)]) rfl ?_
            refine j_widen (k' := 6) (n' := 90) (Nat.le_of_ble_eq_true rfl) (Nat.le_of_ble_eq_true rfl) ?_
            exact hJ179 _ w11 H11 P11
          · obtain ⟨q4, hq4, rfl, hf4⟩ := hr4.resolve_left h136
            refine j_aload_n C 6 dL_bests_139 rfl rfl ?_
            refine j_iload C 5 dL_bests_140 rfl ?_
            refine j_iload C 0 dL_bests_142 rfl ?_
            refine jw_i C KT (As := [.ref x, .int (nI (1000 * (q4 + 1))), .int (m 1)]) (rest := []) (lb_setShip (xl X) hst D H11 (nI (1000 * (q4 + 1))) (m 1) (by rw [(ck_w q4 hq4).2.2.2.2, hV1]; rfl)) mw_setShip my_setShip gL_bests_L_setShip rfl (Nat.le_of_ble_eq_true rfl) (Nat.le_of_ble_eq_true rfl) (Nat.le_of_ble_eq_true rfl) (Nat.le_of_ble_eq_true rfl) rfl (Nat.le_of_ble_eq_true rfl) dL_bests_144 (fun _ _ h => h.2.2) ?_
            rintro _ w32 ⟨rfl, H32, p32⟩
            have P32 := wp_tr P11 p32
            rw [sw_up] at H32
            refine j_iload C 1 dL_bests_147 rfl ?_
            refine j_icmp_ne C dL_bests_149 (tgt := 177) (by decide) (fun h => absurd rfl h) (fun _ => ?_)
            refine j_aload_n C 6 dL_bests_152 rfl rfl ?_
            refine j_bipush C (v := (6 : Int32)) dL_bests_153 rfl ?_
            refine jw_i C KT (As := [.ref x, .int (6 : Int32)]) (rest := []) (lb_value (xl X) hst D H32 6 (by decide)) mw_value my_value gL_bests_L_value rfl (Nat.le_of_ble_eq_true rfl) (Nat.le_of_ble_eq_true rfl) (Nat.le_of_ble_eq_true rfl) (Nat.le_of_ble_eq_true rfl) rfl (Nat.le_of_ble_eq_true rfl) dL_bests_155 (fun _ _ h => h.2.2) ?_
            rintro _ w33 ⟨rfl, H33, p33⟩
            have P33 := wp_tr P32 p33
            refine j_eqi (y := bI (mR (mUp m 0 (nI (1000 * (q4 + 1)))) n).1) (vl_6 (mUp m 0 (nI (1000 * (q4 + 1)))) n) ?_
            refine j_iconst C (v := (1 : Int32)) dL_bests_158 rfl ?_
            refine j_icmp_ne C dL_bests_159 (tgt := 177) (by decide) (fun h => absurd (by rw [(sf_x hf4).1]; rfl) h) (fun _ => ?_)
            refine j_aload_n C 6 dL_bests_162 rfl rfl ?_
            refine j_iconst C (v := (5 : Int32)) dL_bests_163 rfl ?_
            refine jw_i C KT (As := [.ref x, .int (5 : Int32)]) (rest := []) (lb_value (xl X) hst D H33 5 (by decide)) mw_value my_value gL_bests_L_value rfl (Nat.le_of_ble_eq_true rfl) (Nat.le_of_ble_eq_true rfl) (Nat.le_of_ble_eq_true rfl) (Nat.le_of_ble_eq_true rfl) rfl (Nat.le_of_ble_eq_true rfl) dL_bests_164 (fun _ _ h => h.2.2) ?_
            rintro _ w34 ⟨rfl, H34, p34⟩
            have P34 := wp_tr P33 p34
            refine j_eqi (y := cntI (mOv (mUp m 0 (nI (1000 * (q4 + 1)))) n) 16) (vl_5 (mUp m 0 (nI (1000 * (q4 + 1)))) n) ?_
            refine j_if_ne C dL_bests_167 (tgt := 177) (by decide) (fun h => absurd (by rw [(sf_x hf4).2]; decide) h) (fun _ => ?_)
            refine j_aload_n C 6 dL_bests_170 rfl rfl ?_
            refine jw_i C KT (As := [.ref x]) (rest := []) (lb_undo (xl X) hst D H34) mw_undo my_undo gL_bests_L_undo rfl (Nat.le_of_ble_eq_true rfl) (Nat.le_of_ble_eq_true rfl) (Nat.le_of_ble_eq_true rfl) (Nat.le_of_ble_eq_true rfl) rfl (Nat.le_of_ble_eq_true rfl) dL_bests_171 (fun _ _ h => h.2.2) ?_
            rintro _ w35 ⟨rfl, H35, p35⟩
            have P35 := wp_tr P34 p35
            refine j_if_ge C dL_bests_174 (tgt := 179) (by decide) (fun _ => ?_) (fun h => absurd (nI_pos' (by have := H35.fc.2.2.2; omega)) h)
            refine j_sub [0, 1, 2, 3, 4, 6, 7] (lv' := [(9, .int (m 1)), (8, .int (m 0)), (7, .int r7), (6, .int (nI (1 + j21))), (5, .int r5), (0, .ref x), (1, .int v0)]) rfl ?_
            exact hJ179 _ w35 H35 P35
        refine j_icmp_eq C dL_bests_98 (tgt := 119) (by decide) (fun h98 => ?_) (fun h98 => ?_)
        · refine j_sub [0, 1, 2, 3, 4, 5] (lv' := [(7, .int r7), (6, .int (nI (1 + j21))), (5, .int r5), (4, .int r4), (0, .ref x), (1, .int v0)]) rfl ?_
          exact hJ119 w8j H8j P8j
        · obtain ⟨hn7, q7, hq7, rfl, hR7⟩ := hr7.resolve_left h98
          refine j_iload C 0 dL_bests_101 rfl ?_
          refine j_bipush C (v := (10 : Int32)) dL_bests_103 rfl ?_
          refine j_irem C dL_bests_105 (by decide) ?_
          refine j_if_ne C dL_bests_106 (tgt := 117) (by decide) (fun h => absurd ((ck_p q7 hq7).1) h) (fun _ => ?_)
          refine j_iload C 0 dL_bests_109 rfl ?_
          refine j_sipush C (v := (400 : Int32)) dL_bests_111 rfl ?_
          refine j_icmp_le C dL_bests_114 (tgt := 119) (by decide) (fun _ => ?_) (fun h => absurd ((ck_p q7 hq7).2.1) h)
          refine j_sub [0, 1, 2, 3, 4, 5] (lv' := [(7, .int (nI (10 * q7))), (6, .int (nI (1 + j21))), (5, .int r5), (4, .int r4), (0, .ref x), (1, .int v0)]) rfl ?_
          exact hJ119 w8j H8j P8j
      refine j_icmp_eq C dL_bests_77 (tgt := 95) (by decide) (fun h77 => ?_) (fun h77 => ?_)
      · refine j_sub [0, 1, 2, 3, 4, 5] (lv' := [(7, .int r7), (6, .int (nI (1 + j21))), (5, .int r5), (4, .int r4), (0, .ref x), (1, .int v0)]) rfl ?_
        exact hJ95 w7j H7j P7j
      · obtain ⟨q5, hq5, rfl, hR5, hd5⟩ := hr5.resolve_left h77
        refine j_iload C 2 dL_bests_80 rfl ?_
        refine j_iconst C (v := (5 : Int32)) dL_bests_82 rfl ?_
        refine j_irem C dL_bests_83 (by decide) ?_
        refine j_if_ne C dL_bests_84 (tgt := 117) (by decide) (fun h => absurd ((ck_c q5 hq5).1) h) (fun _ => ?_)
        refine j_iload C 2 dL_bests_87 rfl ?_
        refine j_sipush C (v := (400 : Int32)) dL_bests_89 rfl ?_
        refine j_icmp_gt C dL_bests_92 (tgt := 117) (by decide) (fun h => absurd h ((ck_c q5 hq5).2.1)) (fun _ => ?_)
        refine j_sub [0, 1, 2, 3, 4, 5] (lv' := [(7, .int r7), (6, .int (nI (1 + j21))), (5, .int (nI (5 * q5))), (4, .int r4), (0, .ref x), (1, .int v0)]) rfl ?_
        exact hJ95 w7j H7j P7j
    refine j_icmp_eq C dL_bests_47 (tgt := 74) (by decide) (fun h47 => ?_) (fun h47 => ?_)
    · refine j_sub [0, 1, 2, 3, 5, 6] (lv' := [(7, .int r7), (6, .int (nI (1 + j21))), (5, .int r5), (4, .int r4), (0, .ref x), (1, .int v0)]) rfl ?_
      exact hJ74 w6 H6 P6
    · obtain ⟨q4, hq4, rfl, hf4⟩ := hr4.resolve_left h47
      refine j_iload C 3 dL_bests_50 rfl ?_
      refine j_sipush C (v := (1000 : Int32)) dL_bests_52 rfl ?_
      refine j_irem C dL_bests_55 (by decide) ?_
      refine j_if_ne C dL_bests_56 (tgt := 117) (by decide) (fun h => absurd ((ck_w q4 hq4).1) h) (fun _ => ?_)
      refine j_iload C 3 dL_bests_59 rfl ?_
      refine j_sipush C (v := (1000 : Int32)) dL_bests_61 rfl ?_
      refine j_icmp_lt C dL_bests_64 (tgt := 117) (by decide) (fun h => absurd h ((ck_w q4 hq4).2.1)) (fun _ => ?_)
      refine j_iload C 3 dL_bests_67 rfl ?_
      refine j_ldc C k_bests_122 dL_bests_69 ?_
      refine j_icmp_gt C dL_bests_71 (tgt := 117) (by decide) (fun h => absurd h ((ck_w q4 hq4).2.2.1)) (fun _ => ?_)
      refine j_sub [0, 1, 2, 3, 5, 6] (lv' := [(7, .int r7), (6, .int (nI (1 + j21))), (5, .int r5), (4, .int (nI (1000 * (q4 + 1)))), (0, .ref x), (1, .int v0)]) rfl ?_
      exact hJ74 w6 H6 P6
  by_cases hn16 : n < 16
  · refine j_aload_n C 4 dL_bests_27 rfl rfl ?_
    refine j_iload C 0 dL_bests_28 rfl ?_
    refine jw_i C KT (As := [.ref x, .int (nI (1 + j21))]) (rest := []) (lb_bestPlace (xl X) hst D H3 hn16 (nI (1 + j21)) (pIn_nI (a := 1) (b := 100) (by omega) (by omega) (by decide))) mw_bestPlace my_bestPlace gL_bests_L_bestPlace rfl (Nat.le_of_ble_eq_true rfl) (Nat.le_of_ble_eq_true rfl) (Nat.le_of_ble_eq_true rfl) (Nat.le_of_ble_eq_true rfl) rfl (Nat.le_of_ble_eq_true rfl) dL_bests_30 (fun _ _ h => h.2.2) ?_
    rintro _ w36 ⟨rfl, H36, p36⟩
    have P36 := wp_tr P3 p36
    refine j_sub [0, 1, 2, 3, 4, 5] (lv' := [(6, .int (nI (1 + j21))), (5, .int r5), (4, .int r4), (2, .long (mDg m n (nI 0) (nI h.length))), (0, .ref x), (1, .int v0)]) rfl ?_
    exact hJ33 _ ((bp_x m n (nI (1 + j21)) 41).imp id (fun z => ⟨hn16, z⟩)) w36 H36 P36
  · refine j_aload_n C 4 dL_bests_27 rfl rfl ?_
    refine j_iload C 0 dL_bests_28 rfl ?_
    refine jw_i C KT (As := [.ref x, .int (nI (1 + j21))]) (rest := []) (lb_bestPlaceF (xl X) hst D H3 hn16 (nI (1 + j21)) (pIn_nI (a := 1) (b := 100) (by omega) (by omega) (by decide))) mw_bestPlace my_bestPlace gL_bests_L_bestPlace rfl (Nat.le_of_ble_eq_true rfl) (Nat.le_of_ble_eq_true rfl) (Nat.le_of_ble_eq_true rfl) (Nat.le_of_ble_eq_true rfl) rfl (Nat.le_of_ble_eq_true rfl) dL_bests_30 (fun _ _ h => h.2.2) ?_
    rintro _ w37 ⟨rfl, H37, p37⟩
    have P37 := wp_tr P3 p37
    refine j_sub [0, 1, 2, 3, 4, 5] (lv' := [(6, .int (nI (1 + j21))), (5, .int r5), (4, .int r4), (2, .long (mDg m n (nI 0) (nI h.length))), (0, .ref x), (1, .int v0)]) rfl ?_
    exact hJ33 _ (Or.inl rfl) w37 H37 P37
