set_option maxRecDepth 100000 in
set_option maxHeartbeats 4000000 in
theorem lw_sound (l : Launch) (hst : l.stackTraces = false) (D : KD) {x : Nat} {m : Pg} {n : Nat} {h : Hs} {w0 : va_W} (H : LW D x m n h w0) : MIX l D yL_sound wsL_sound 4 87 0 0 [.ref x] w0 (fun r w1 => r = 1 ∧ LW D x m n h w1 ∧ wpre w0 w1) := by
  refine MIX.ofz (cc := cL_sound) (nL := 26) (lv0 := [(0, .ref x)]) (by decide +kernel) rfl (Nat.le_of_ble_eq_true rfl) rfl ?_
  intro X hXl hin C KT ret
  subst hXl
  have P := wp_rfl w0
  obtain ⟨hn, hc, hV, hl4⟩ := H.fc
  refine j_aload_n C 0 dL_sound_0 rfl rfl ?_
  refine j_iconst C (v := (2 : Int32)) dL_sound_1 rfl ?_
  refine jw_i C KT (As := [.ref x, .int (2 : Int32)]) (rest := []) (lb_value (xl X) hst D H 2 (by decide)) mw_value my_value gL_sound_L_value rfl (Nat.le_of_ble_eq_true rfl) (Nat.le_of_ble_eq_true rfl) (Nat.le_of_ble_eq_true rfl) (Nat.le_of_ble_eq_true rfl) rfl (Nat.le_of_ble_eq_true rfl) dL_sound_2 (fun _ _ h => h.2.2) ?_
  rintro _ w1 ⟨rfl, H1, p1⟩
  have P1 := wp_tr P p1
  refine j_eqi (y := nI n) H1.fc.2.1 ?_
  refine j_istore_n C dL_sound_5 rfl (by decide) (lv' := [(1, .int (nI n)), (0, .ref x)]) rfl ?_
  refine j_aload_n C 1 dL_sound_6 rfl rfl ?_
  refine j_bipush C (v := (6 : Int32)) dL_sound_7 rfl ?_
  refine jw_i C KT (As := [.ref x, .int (6 : Int32)]) (rest := []) (lb_value (xl X) hst D H1 6 (by decide)) mw_value my_value gL_sound_L_value rfl (Nat.le_of_ble_eq_true rfl) (Nat.le_of_ble_eq_true rfl) (Nat.le_of_ble_eq_true rfl) (Nat.le_of_ble_eq_true rfl) rfl (Nat.le_of_ble_eq_true rfl) dL_sound_9 (fun _ _ h => h.2.2) ?_
  rintro _ w2 ⟨rfl, H2, p2⟩
  have P2 := wp_tr P1 p2
  refine j_eqi (y := bI (mR m n).1) (vl_6 m n) ?_
  refine j_iconst C (v := (1 : Int32)) dL_sound_12 rfl ?_
  have hJ21 : ∀ (w3j : va_W), LW D x m n h w3j → wpre w0 w3j → J D X w3j 0 0 21 [(1, .int (nI n)), (0, .ref x)] [.int (bI (mR m n).1)] := by
    intro  w3j H3j P3j
    refine j_istore_n C dL_sound_21 rfl (by decide) (lv' := [(2, .int (bI (mR m n).1)), (1, .int (nI n)), (0, .ref x)]) rfl ?_
    refine j_aload_n C 2 dL_sound_22 rfl rfl ?_
    refine j_iconst C (v := (0 : Int32)) dL_sound_23 rfl ?_
    refine jw_l C KT (As := [.ref x, .int (0 : Int32)]) (rest := []) (lb_balance (xl X) hst D H3j 0 (by decide)) mw_balance my_balance gL_sound_L_balance rfl (Nat.le_of_ble_eq_true rfl) (Nat.le_of_ble_eq_true rfl) (Nat.le_of_ble_eq_true rfl) (Nat.le_of_ble_eq_true rfl) rfl (Nat.le_of_ble_eq_true rfl) dL_sound_24 (fun _ _ h => h.2.2) ?_
    rintro _ w4 ⟨rfl, H4, p4⟩
    have P4 := wp_tr P3j p4
    refine j_lstore_n C dL_sound_27 rfl (by decide) (lv' := [(3, .long (mBa m n 0)), (2, .int (bI (mR m n).1)), (1, .int (nI n)), (0, .ref x)]) rfl ?_
    refine j_aload_n C 3 dL_sound_28 rfl rfl ?_
    refine j_iconst C (v := (1 : Int32)) dL_sound_29 rfl ?_
    refine jw_l C KT (As := [.ref x, .int (1 : Int32)]) (rest := []) (lb_balance (xl X) hst D H4 1 (by decide)) mw_balance my_balance gL_sound_L_balance rfl (Nat.le_of_ble_eq_true rfl) (Nat.le_of_ble_eq_true rfl) (Nat.le_of_ble_eq_true rfl) (Nat.le_of_ble_eq_true rfl) rfl (Nat.le_of_ble_eq_true rfl) dL_sound_30 (fun _ _ h => h.2.2) ?_
    rintro _ w5 ⟨rfl, H5, p5⟩
    have P5 := wp_tr P4 p5
    refine j_lstore C dL_sound_33 (by decide) (lv' := [(5, .long (mBa m n 1)), (3, .long (mBa m n 0)), (2, .int (bI (mR m n).1)), (1, .int (nI n)), (0, .ref x)]) rfl ?_
    refine j_aload_n C 4 dL_sound_35 rfl rfl ?_
    refine j_iconst C (v := (2 : Int32)) dL_sound_36 rfl ?_
    refine jw_l C KT (As := [.ref x, .int (2 : Int32)]) (rest := []) (lb_balance (xl X) hst D H5 2 (by decide)) mw_balance my_balance gL_sound_L_balance rfl (Nat.le_of_ble_eq_true rfl) (Nat.le_of_ble_eq_true rfl) (Nat.le_of_ble_eq_true rfl) (Nat.le_of_ble_eq_true rfl) rfl (Nat.le_of_ble_eq_true rfl) dL_sound_37 (fun _ _ h => h.2.2) ?_
    rintro _ w6 ⟨rfl, H6, p6⟩
    have P6 := wp_tr P5 p6
    refine j_lstore C dL_sound_40 (by decide) (lv' := [(7, .long (mBa m n 2)), (5, .long (mBa m n 1)), (3, .long (mBa m n 0)), (2, .int (bI (mR m n).1)), (1, .int (nI n)), (0, .ref x)]) rfl ?_
    refine j_iconst C (v := (0 : Int32)) dL_sound_42 rfl ?_
    refine j_istore C dL_sound_43 (by decide) (lv' := [(9, .int (0 : Int32)), (7, .long (mBa m n 2)), (5, .long (mBa m n 1)), (3, .long (mBa m n 0)), (2, .int (bI (mR m n).1)), (1, .int (nI n)), (0, .ref x)]) rfl ?_
    refine j_iconst C (v := (0 : Int32)) dL_sound_45 rfl ?_
    refine j_istore C dL_sound_46 (by decide) (lv' := [(10, .int (0 : Int32)), (9, .int (0 : Int32)), (7, .long (mBa m n 2)), (5, .long (mBa m n 1)), (3, .long (mBa m n 0)), (2, .int (bI (mR m n).1)), (1, .int (nI n)), (0, .ref x)]) rfl ?_
    refine j_iconst C (v := (0 : Int32)) dL_sound_48 rfl ?_
    refine j_istore C dL_sound_49 (by decide) (lv' := [(11, .int (0 : Int32)), (10, .int (0 : Int32)), (9, .int (0 : Int32)), (7, .long (mBa m n 2)), (5, .long (mBa m n 1)), (3, .long (mBa m n 0)), (2, .int (bI (mR m n).1)), (1, .int (nI n)), (0, .ref x)]) rfl ?_
    refine j_iconst C (v := (0 : Int32)) dL_sound_51 rfl ?_
    refine j_istore C dL_sound_52 (by decide) (lv' := [(12, .int (0 : Int32)), (11, .int (0 : Int32)), (10, .int (0 : Int32)), (9, .int (0 : Int32)), (7, .long (mBa m n 2)), (5, .long (mBa m n 1)), (3, .long (mBa m n 0)), (2, .int (bI (mR m n).1)), (1, .int (nI n)), (0, .ref x)]) rfl ?_
    refine j_iconst C (v := (0 : Int32)) dL_sound_54 rfl ?_
    refine j_eqi (y := gre (mR m n).1 (mLo m n) 0) (gre_0 _ _) ?_
    refine j_istore C dL_sound_55 (by decide) (lv' := [(13, .int (gre (mR m n).1 (mLo m n) 0)), (12, .int (0 : Int32)), (11, .int (0 : Int32)), (10, .int (0 : Int32)), (9, .int (0 : Int32)), (7, .long (mBa m n 2)), (5, .long (mBa m n 1)), (3, .long (mBa m n 0)), (2, .int (bI (mR m n).1)), (1, .int (nI n)), (0, .ref x)]) rfl ?_
    refine j_iconst C (v := (-1 : Int32)) dL_sound_57 rfl ?_
    refine j_eqi (y := hvy (mR m n).1 (mLo m n) 0) (top_0 _ _) ?_
    refine j_istore C dL_sound_58 (by decide) (lv' := [(14, .int (hvy (mR m n).1 (mLo m n) 0)), (13, .int (gre (mR m n).1 (mLo m n) 0)), (12, .int (0 : Int32)), (11, .int (0 : Int32)), (10, .int (0 : Int32)), (9, .int (0 : Int32)), (7, .long (mBa m n 2)), (5, .long (mBa m n 1)), (3, .long (mBa m n 0)), (2, .int (bI (mR m n).1)), (1, .int (nI n)), (0, .ref x)]) rfl ?_
    refine j_lconst C (v := (0 : Int64)) dL_sound_60 rfl ?_
    refine j_lstore C dL_sound_61 (by decide) (lv' := [(15, .long (0 : Int64)), (14, .int (hvy (mR m n).1 (mLo m n) 0)), (13, .int (gre (mR m n).1 (mLo m n) 0)), (12, .int (0 : Int32)), (11, .int (0 : Int32)), (10, .int (0 : Int32)), (9, .int (0 : Int32)), (7, .long (mBa m n 2)), (5, .long (mBa m n 1)), (3, .long (mBa m n 0)), (2, .int (bI (mR m n).1)), (1, .int (nI n)), (0, .ref x)]) rfl ?_
    refine j_lconst C (v := (0 : Int64)) dL_sound_63 rfl ?_
    refine j_lstore C dL_sound_64 (by decide) (lv' := [(17, .long (0 : Int64)), (15, .long (0 : Int64)), (14, .int (hvy (mR m n).1 (mLo m n) 0)), (13, .int (gre (mR m n).1 (mLo m n) 0)), (12, .int (0 : Int32)), (11, .int (0 : Int32)), (10, .int (0 : Int32)), (9, .int (0 : Int32)), (7, .long (mBa m n 2)), (5, .long (mBa m n 1)), (3, .long (mBa m n 0)), (2, .int (bI (mR m n).1)), (1, .int (nI n)), (0, .ref x)]) rfl ?_
    refine j_iconst C (v := (0 : Int32)) dL_sound_66 rfl ?_
    refine j_eqi (y := nI 0) rfl ?_
    refine j_istore C dL_sound_67 (by decide) (lv' := [(19, .int (nI 0)), (17, .long (0 : Int64)), (15, .long (0 : Int64)), (14, .int (hvy (mR m n).1 (mLo m n) 0)), (13, .int (gre (mR m n).1 (mLo m n) 0)), (12, .int (0 : Int32)), (11, .int (0 : Int32)), (10, .int (0 : Int32)), (9, .int (0 : Int32)), (7, .long (mBa m n 2)), (5, .long (mBa m n 1)), (3, .long (mBa m n 0)), (2, .int (bI (mR m n).1)), (1, .int (nI n)), (0, .ref x)]) rfl ?_
    have hl69 : ∀ i69, i69 ≤ n → ∀ (w7l : va_W), LW D x m n h w7l → wpre w0 w7l → J D X w7l 0 0 69 [(19, .int (nI i69)), (17, .long (gSm m n i69)), (15, .long (fSm m n i69)), (14, .int (hvy (mR m n).1 (mLo m n) i69)), (13, .int (gre (mR m n).1 (mLo m n) i69)), (12, .int (smL (mLo m n) i69)), (11, .int (cntI (mOv m n) i69)), (10, .int (cntI (mBe m n) i69)), (9, .int (cntI (stb (mT m) 0 n) i69)), (7, .long (mBa m n 2)), (5, .long (mBa m n 1)), (3, .long (mBa m n 0)), (2, .int (bI (mR m n).1)), (1, .int (nI n)), (0, .ref x)] [] := by
      refine for_up n ?_ ?_
      · intro w7l H7l P7l
        refine j_iload C 0 dL_sound_69 rfl ?_
        refine j_iload_n C 13 dL_sound_71 rfl rfl ?_
        refine j_icmp_ge C dL_sound_72 (tgt := 434) (by decide) (fun _ => ?_) (fun h => absurd (nI_le (Nat.le_refl _) (by omega)) h)
        refine j_iload_n C 12 dL_sound_434 rfl rfl ?_
        refine j_bif_ne C dL_sound_435 (tgt := 543) (by decide) (fun h435 => ?_) (fun h435 => ?_)
        · refine j_lload C 10 dL_sound_543 rfl ?_
          refine j_l2d C dL_sound_545 ?_
          refine j_lload C 9 dL_sound_546 rfl ?_
          refine j_l2d C dL_sound_548 ?_
          refine j_ddiv C dL_sound_549 (fp_div (so_tn hn hV h435)) ?_
          refine j_dstore C dL_sound_550 (by decide) (lv' := [(19, .double (FP.ddiv (FP.l2d (mBa m n 1)) (FP.l2d (mBa m n 2)))), (17, .long (gSm m n n)), (15, .long (fSm m n n)), (14, .int (hvy (mR m n).1 (mLo m n) n)), (13, .int (gre (mR m n).1 (mLo m n) n)), (12, .int (smL (mLo m n) n)), (11, .int (cntI (mOv m n) n)), (10, .int (cntI (mBe m n) n)), (9, .int (cntI (stb (mT m) 0 n) n)), (7, .long (mBa m n 2)), (5, .long (mBa m n 1)), (3, .long (mBa m n 0)), (2, .int (bI (mR m n).1)), (1, .int (nI n)), (0, .ref x)]) rfl ?_
          refine j_lload C 9 dL_sound_552 rfl ?_
          refine j_lconst C (v := (0 : Int64)) dL_sound_554 rfl ?_
          refine j_lcmp C dL_sound_555 ?_
          refine j_lif_le C dL_sound_556 (tgt := 698) (by decide) (fun h => absurd h (so_d hn hV h435)) (fun _ => ?_)
          refine j_lload C 2 dL_sound_559 rfl ?_
          refine j_lload C 9 dL_sound_561 rfl ?_
          refine j_aload_n C 14 dL_sound_563 rfl rfl ?_
          refine j_iconst C (v := (0 : Int32)) dL_sound_564 rfl ?_
          refine jw_i C KT (As := [.ref x, .int (0 : Int32)]) (rest := [.long (mBa m n 2), .long (fSm m n n)]) (lb_value (xl X) hst D H7l 0 (by decide)) mw_value my_value gL_sound_L_value rfl (Nat.le_of_ble_eq_true rfl) (Nat.le_of_ble_eq_true rfl) (Nat.le_of_ble_eq_true rfl) (Nat.le_of_ble_eq_true rfl) rfl (Nat.le_of_ble_eq_true rfl) dL_sound_565 (fun _ _ h => h.2.2) ?_
          rintro _ w8 ⟨rfl, H8, p8⟩
          have P8 := wp_tr P7l p8
          refine j_eqi (y := m 0) (vl_0 m n) ?_
          refine j_i2l C dL_sound_568 ?_
          refine j_lmul C dL_sound_569 ?_
          refine j_lcmp C dL_sound_570 ?_
          refine j_lif_ne C dL_sound_571 (tgt := 698) (by decide) (fun h => absurd ((so_F hn hV h435).1) h) (fun _ => ?_)
          refine j_lload C 1 dL_sound_574 rfl ?_
          refine j_lload C 9 dL_sound_576 rfl ?_
          refine j_aload_n C 14 dL_sound_578 rfl rfl ?_
          refine j_iconst C (v := (0 : Int32)) dL_sound_579 rfl ?_
          refine jw_i C KT (As := [.ref x, .int (0 : Int32)]) (rest := [.long (mBa m n 2), .long (gSm m n n)]) (lb_value (xl X) hst D H8 0 (by decide)) mw_value my_value gL_sound_L_value rfl (Nat.le_of_ble_eq_true rfl) (Nat.le_of_ble_eq_true rfl) (Nat.le_of_ble_eq_true rfl) (Nat.le_of_ble_eq_true rfl) rfl (Nat.le_of_ble_eq_true rfl) dL_sound_580 (fun _ _ h => h.2.2) ?_
          rintro _ w9 ⟨rfl, H9, p9⟩
          have P9 := wp_tr P8 p9
          refine j_eqi (y := m 0) (vl_0 m n) ?_
          refine j_i2l C dL_sound_583 ?_
          refine j_lmul C dL_sound_584 ?_
          refine j_aload_n C 14 dL_sound_585 rfl rfl ?_
          refine j_iconst C (v := (1 : Int32)) dL_sound_586 rfl ?_
          refine jw_i C KT (As := [.ref x, .int (1 : Int32)]) (rest := [.long ((mBa m n 2) * ((m 0).toInt64)), .long (gSm m n n)]) (lb_value (xl X) hst D H9 1 (by decide)) mw_value my_value gL_sound_L_value rfl (Nat.le_of_ble_eq_true rfl) (Nat.le_of_ble_eq_true rfl) (Nat.le_of_ble_eq_true rfl) (Nat.le_of_ble_eq_true rfl) rfl (Nat.le_of_ble_eq_true rfl) dL_sound_587 (fun _ _ h => h.2.2) ?_
          rintro _ w10 ⟨rfl, H10, p10⟩
          have P10 := wp_tr P9 p10
          refine j_eqi (y := m 1) (vl_1 m n) ?_
          refine j_i2l C dL_sound_590 ?_
          refine j_lmul C dL_sound_591 ?_
          refine j_lcmp C dL_sound_592 ?_
          refine j_lif_ne C dL_sound_593 (tgt := 698) (by decide) (fun h => absurd ((so_F hn hV h435).2) h) (fun _ => ?_)
          refine j_iload C 5 dL_sound_596 rfl ?_
          refine j_aload_n C 14 dL_sound_598 rfl rfl ?_
          refine j_iconst C (v := (0 : Int32)) dL_sound_599 rfl ?_
          refine jw_i C KT (As := [.ref x, .int (0 : Int32)]) (rest := [.int (smL (mLo m n) n)]) (lb_value (xl X) hst D H10 0 (by decide)) mw_value my_value gL_sound_L_value rfl (Nat.le_of_ble_eq_true rfl) (Nat.le_of_ble_eq_true rfl) (Nat.le_of_ble_eq_true rfl) (Nat.le_of_ble_eq_true rfl) rfl (Nat.le_of_ble_eq_true rfl) dL_sound_600 (fun _ _ h => h.2.2) ?_
          rintro _ w11 ⟨rfl, H11, p11⟩
          have P11 := wp_tr P10 p11
          refine j_eqi (y := m 0) (vl_0 m n) ?_
          refine j_icmp_ne C dL_sound_603 (tgt := 698) (by decide) (fun h => absurd (so_sum hn hV h435) h) (fun _ => ?_)
          refine j_aload_n C 14 dL_sound_606 rfl rfl ?_
          refine j_iconst C (v := (3 : Int32)) dL_sound_607 rfl ?_
          refine jw_i C KT (As := [.ref x, .int (3 : Int32)]) (rest := []) (lb_value (xl X) hst D H11 3 (by decide)) mw_value my_value gL_sound_L_value rfl (Nat.le_of_ble_eq_true rfl) (Nat.le_of_ble_eq_true rfl) (Nat.le_of_ble_eq_true rfl) (Nat.le_of_ble_eq_true rfl) rfl (Nat.le_of_ble_eq_true rfl) dL_sound_608 (fun _ _ h => h.2.2) ?_
          rintro _ w12 ⟨rfl, H12, p12⟩
          have P12 := wp_tr P11 p12
          refine j_eqi (y := cntI (stb (mT m) 0 n) 16) (vl_3 m n) ?_
          refine j_iload C 8 dL_sound_611 rfl ?_
          refine j_icmp_ne C dL_sound_613 (tgt := 698) (by decide) (fun h => absurd (ct_st hn) h) (fun _ => ?_)
          refine j_aload_n C 14 dL_sound_616 rfl rfl ?_
          refine j_iconst C (v := (4 : Int32)) dL_sound_617 rfl ?_
          refine jw_i C KT (As := [.ref x, .int (4 : Int32)]) (rest := []) (lb_value (xl X) hst D H12 4 (by decide)) mw_value my_value gL_sound_L_value rfl (Nat.le_of_ble_eq_true rfl) (Nat.le_of_ble_eq_true rfl) (Nat.le_of_ble_eq_true rfl) (Nat.le_of_ble_eq_true rfl) rfl (Nat.le_of_ble_eq_true rfl) dL_sound_618 (fun _ _ h => h.2.2) ?_
          rintro _ w13 ⟨rfl, H13, p13⟩
          have P13 := wp_tr P12 p13
          refine j_eqi (y := cntI (mBe m n) 16) (vl_4 m n) ?_
          refine j_iload C 7 dL_sound_621 rfl ?_
          refine j_icmp_ne C dL_sound_623 (tgt := 698) (by decide) (fun h => absurd (ct_be hn) h) (fun _ => ?_)
          refine j_aload_n C 14 dL_sound_626 rfl rfl ?_
          refine j_iconst C (v := (5 : Int32)) dL_sound_627 rfl ?_
          refine jw_i C KT (As := [.ref x, .int (5 : Int32)]) (rest := []) (lb_value (xl X) hst D H13 5 (by decide)) mw_value my_value gL_sound_L_value rfl (Nat.le_of_ble_eq_true rfl) (Nat.le_of_ble_eq_true rfl) (Nat.le_of_ble_eq_true rfl) (Nat.le_of_ble_eq_true rfl) rfl (Nat.le_of_ble_eq_true rfl) dL_sound_628 (fun _ _ h => h.2.2) ?_
          rintro _ w14 ⟨rfl, H14, p14⟩
          have P14 := wp_tr P13 p14
          refine j_eqi (y := cntI (mOv m n) 16) (vl_5 m n) ?_
          refine j_iload C 6 dL_sound_631 rfl ?_
          refine j_icmp_ne C dL_sound_633 (tgt := 698) (by decide) (fun h => absurd (ct_ov hn) h) (fun _ => ?_)
          refine j_aload_n C 14 dL_sound_636 rfl rfl ?_
          refine j_bipush C (v := (8 : Int32)) dL_sound_637 rfl ?_
          refine jw_i C KT (As := [.ref x, .int (8 : Int32)]) (rest := []) (lb_value (xl X) hst D H14 8 (by decide)) mw_value my_value gL_sound_L_value rfl (Nat.le_of_ble_eq_true rfl) (Nat.le_of_ble_eq_true rfl) (Nat.le_of_ble_eq_true rfl) (Nat.le_of_ble_eq_true rfl) rfl (Nat.le_of_ble_eq_true rfl) dL_sound_639 (fun _ _ h => h.2.2) ?_
          rintro _ w15 ⟨rfl, H15, p15⟩
          have P15 := wp_tr P14 p15
          refine j_eqi (y := mGr m n) (vl_8 m n) ?_
          refine j_iload C 4 dL_sound_642 rfl ?_
          refine j_icmp_ne C dL_sound_644 (tgt := 698) (by decide) (fun h => absurd rfl h) (fun _ => ?_)
          refine j_aload_n C 14 dL_sound_647 rfl rfl ?_
          refine j_bipush C (v := (9 : Int32)) dL_sound_648 rfl ?_
          refine jw_i C KT (As := [.ref x, .int (9 : Int32)]) (rest := []) (lb_value (xl X) hst D H15 9 (by decide)) mw_value my_value gL_sound_L_value rfl (Nat.le_of_ble_eq_true rfl) (Nat.le_of_ble_eq_true rfl) (Nat.le_of_ble_eq_true rfl) (Nat.le_of_ble_eq_true rfl) rfl (Nat.le_of_ble_eq_true rfl) dL_sound_650 (fun _ _ h => h.2.2) ?_
          rintro _ w16 ⟨rfl, H16, p16⟩
          have P16 := wp_tr P15 p16
          refine j_eqi (y := hvy (mR m n).1 (mLo m n) n) (vl_9 m n) ?_
          refine j_iload C 3 dL_sound_653 rfl ?_
          refine j_icmp_ne C dL_sound_655 (tgt := 698) (by decide) (fun h => absurd rfl h) (fun _ => ?_)
          refine j_iload C 7 dL_sound_658 rfl ?_
          refine j_iconst C (v := (1 : Int32)) dL_sound_660 rfl ?_
          refine j_icmp_le C dL_sound_661 (tgt := 698) (by decide) (fun h => absurd h (so_two hn hV h435)) (fun _ => ?_)
          refine j_aload_n C 14 dL_sound_664 rfl rfl ?_
          refine j_bipush C (v := (7 : Int32)) dL_sound_665 rfl ?_
          refine jw_i C KT (As := [.ref x, .int (7 : Int32)]) (rest := []) (lb_value (xl X) hst D H16 7 (by decide)) mw_value my_value gL_sound_L_value rfl (Nat.le_of_ble_eq_true rfl) (Nat.le_of_ble_eq_true rfl) (Nat.le_of_ble_eq_true rfl) (Nat.le_of_ble_eq_true rfl) rfl (Nat.le_of_ble_eq_true rfl) dL_sound_667 (fun _ _ h => h.2.2) ?_
          rintro _ w17 ⟨rfl, H17, p17⟩
          have P17 := wp_tr P16 p17
          refine j_eqi (y := nI (mR m n).2.1) (vl_7 m n) ?_
          refine j_if_le C dL_sound_670 (tgt := 698) (by decide) (fun h => absurd h (so_rd1 m n)) (fun _ => ?_)
          refine j_aload_n C 14 dL_sound_673 rfl rfl ?_
          refine j_bipush C (v := (7 : Int32)) dL_sound_674 rfl ?_
          refine jw_i C KT (As := [.ref x, .int (7 : Int32)]) (rest := []) (lb_value (xl X) hst D H17 7 (by decide)) mw_value my_value gL_sound_L_value rfl (Nat.le_of_ble_eq_true rfl) (Nat.le_of_ble_eq_true rfl) (Nat.le_of_ble_eq_true rfl) (Nat.le_of_ble_eq_true rfl) rfl (Nat.le_of_ble_eq_true rfl) dL_sound_676 (fun _ _ h => h.2.2) ?_
          rintro _ w18 ⟨rfl, H18, p18⟩
          have P18 := wp_tr P17 p18
          refine j_eqi (y := nI (mR m n).2.1) (vl_7 m n) ?_
          refine j_bipush C (v := (31 : Int32)) dL_sound_679 rfl ?_
          refine j_icmp_ge C dL_sound_681 (tgt := 698) (by decide) (fun h => absurd h (so_rd2 m n)) (fun _ => ?_)
          refine j_aload_n C 14 dL_sound_684 rfl rfl ?_
          refine jw_cv_d C (As := []) (rest := []) (lc_tilt (xl X) D H18) mfX5_tilt gL_sound_X5_tilt rfl (Nat.le_of_ble_eq_true rfl) (Nat.le_of_ble_eq_true rfl) (Nat.le_of_ble_eq_true rfl) (Nat.le_of_ble_eq_true rfl) (H18).at0 rfl rfl (Nat.le_of_ble_eq_true rfl) dL_sound_685 (fun _ _ h => h.2.2) ?_
          rintro _ w19 ⟨rfl, H19, p19⟩
          have P19 := wp_tr P18 p19
          refine j_dload C 0 dL_sound_688 rfl ?_
          refine j_dcmp C dL_sound_690 ?_
          refine j_if_ne C dL_sound_691 (tgt := 698) (by decide) (fun h => absurd (by rw [so_ti h435]; rfl) h) (fun _ => ?_)
          refine j_iconst C (v := (1 : Int32)) dL_sound_694 rfl ?_
          refine j_goto C dL_sound_695 (tgt := 699) (by decide) ?_
          refine j_widen (k' := 0) (n' := 0) (Nat.le_of_ble_eq_true rfl) (Nat.le_of_ble_eq_true rfl) ?_
          exact ret dL_sound_699 (Or.inr rfl) (⟨rfl, H19, P19⟩)
        · refine j_lload_n C 11 dL_sound_438 rfl rfl ?_
          refine j_lconst C (v := (0 : Int64)) dL_sound_439 rfl ?_
          refine j_lcmp C dL_sound_440 ?_
          refine j_lif_ne C dL_sound_441 (tgt := 541) (by decide) (fun h => absurd (mBa_n h435 0) h) (fun _ => ?_)
          refine j_lload C 10 dL_sound_444 rfl ?_
          refine j_lconst C (v := (0 : Int64)) dL_sound_446 rfl ?_
          refine j_lcmp C dL_sound_447 ?_
          refine j_lif_ne C dL_sound_448 (tgt := 541) (by decide) (fun h => absurd (mBa_n h435 1) h) (fun _ => ?_)
          refine j_lload C 9 dL_sound_451 rfl ?_
          refine j_lconst C (v := (0 : Int64)) dL_sound_453 rfl ?_
          refine j_lcmp C dL_sound_454 ?_
          refine j_lif_ne C dL_sound_455 (tgt := 541) (by decide) (fun h => absurd (mBa_n h435 2) h) (fun _ => ?_)
          refine j_aload_n C 14 dL_sound_458 rfl rfl ?_
          refine j_bipush C (v := (8 : Int32)) dL_sound_459 rfl ?_
          refine jw_i C KT (As := [.ref x, .int (8 : Int32)]) (rest := []) (lb_value (xl X) hst D H7l 8 (by decide)) mw_value my_value gL_sound_L_value rfl (Nat.le_of_ble_eq_true rfl) (Nat.le_of_ble_eq_true rfl) (Nat.le_of_ble_eq_true rfl) (Nat.le_of_ble_eq_true rfl) rfl (Nat.le_of_ble_eq_true rfl) dL_sound_461 (fun _ _ h => h.2.2) ?_
          rintro _ w20 ⟨rfl, H20, p20⟩
          have P20 := wp_tr P7l p20
          refine j_eqi (y := mGr m n) (vl_8 m n) ?_
          refine j_if_ne C dL_sound_464 (tgt := 541) (by decide) (fun h => absurd (gr_n h435) h) (fun _ => ?_)
          refine j_aload_n C 14 dL_sound_467 rfl rfl ?_
          refine j_bipush C (v := (9 : Int32)) dL_sound_468 rfl ?_
          refine jw_i C KT (As := [.ref x, .int (9 : Int32)]) (rest := []) (lb_value (xl X) hst D H20 9 (by decide)) mw_value my_value gL_sound_L_value rfl (Nat.le_of_ble_eq_true rfl) (Nat.le_of_ble_eq_true rfl) (Nat.le_of_ble_eq_true rfl) (Nat.le_of_ble_eq_true rfl) rfl (Nat.le_of_ble_eq_true rfl) dL_sound_470 (fun _ _ h => h.2.2) ?_
          rintro _ w21 ⟨rfl, H21, p21⟩
          have P21 := wp_tr P20 p21
          refine j_eqi (y := hvy (mR m n).1 (mLo m n) n) (vl_9 m n) ?_
          refine j_iconst C (v := (-1 : Int32)) dL_sound_473 rfl ?_
          refine j_icmp_ne C dL_sound_474 (tgt := 541) (by decide) (fun h => absurd (hv_n h435) h) (fun _ => ?_)
          refine j_aload_n C 14 dL_sound_477 rfl rfl ?_
          refine j_iconst C (v := (4 : Int32)) dL_sound_478 rfl ?_
          refine jw_i C KT (As := [.ref x, .int (4 : Int32)]) (rest := []) (lb_value (xl X) hst D H21 4 (by decide)) mw_value my_value gL_sound_L_value rfl (Nat.le_of_ble_eq_true rfl) (Nat.le_of_ble_eq_true rfl) (Nat.le_of_ble_eq_true rfl) (Nat.le_of_ble_eq_true rfl) rfl (Nat.le_of_ble_eq_true rfl) dL_sound_479 (fun _ _ h => h.2.2) ?_
          rintro _ w22 ⟨rfl, H22, p22⟩
          have P22 := wp_tr P21 p22
          refine j_eqi (y := cntI (mBe m n) 16) (vl_4 m n) ?_
          refine j_if_ne C dL_sound_482 (tgt := 541) (by decide) (fun h => absurd (be_n h435) h) (fun _ => ?_)
          refine j_aload_n C 14 dL_sound_485 rfl rfl ?_
          refine j_iconst C (v := (5 : Int32)) dL_sound_486 rfl ?_
          refine jw_i C KT (As := [.ref x, .int (5 : Int32)]) (rest := []) (lb_value (xl X) hst D H22 5 (by decide)) mw_value my_value gL_sound_L_value rfl (Nat.le_of_ble_eq_true rfl) (Nat.le_of_ble_eq_true rfl) (Nat.le_of_ble_eq_true rfl) (Nat.le_of_ble_eq_true rfl) rfl (Nat.le_of_ble_eq_true rfl) dL_sound_487 (fun _ _ h => h.2.2) ?_
          rintro _ w23 ⟨rfl, H23, p23⟩
          have P23 := wp_tr P22 p23
          refine j_eqi (y := cntI (mOv m n) 16) (vl_5 m n) ?_
          refine j_if_ne C dL_sound_490 (tgt := 541) (by decide) (fun h => absurd (ov_n hn h435) h) (fun _ => ?_)
          refine j_iload C 5 dL_sound_493 rfl ?_
          refine j_if_ne C dL_sound_495 (tgt := 541) (by decide) (fun h => absurd (so_sum0 hn hV h435) h) (fun _ => ?_)
          refine j_aload_n C 14 dL_sound_498 rfl rfl ?_
          refine j_iconst C (v := (3 : Int32)) dL_sound_499 rfl ?_
          refine jw_i C KT (As := [.ref x, .int (3 : Int32)]) (rest := []) (lb_value (xl X) hst D H23 3 (by decide)) mw_value my_value gL_sound_L_value rfl (Nat.le_of_ble_eq_true rfl) (Nat.le_of_ble_eq_true rfl) (Nat.le_of_ble_eq_true rfl) (Nat.le_of_ble_eq_true rfl) rfl (Nat.le_of_ble_eq_true rfl) dL_sound_500 (fun _ _ h => h.2.2) ?_
          rintro _ w24 ⟨rfl, H24, p24⟩
          have P24 := wp_tr P23 p24
          refine j_eqi (y := cntI (stb (mT m) 0 n) 16) (vl_3 m n) ?_
          refine j_iload C 8 dL_sound_503 rfl ?_
          refine j_icmp_ne C dL_sound_505 (tgt := 541) (by decide) (fun h => absurd (ct_st hn) h) (fun _ => ?_)
          refine j_aload_n C 14 dL_sound_508 rfl rfl ?_
          refine jw_cv_d C (As := []) (rest := []) (lc_tilt (xl X) D H24) mfX5_tilt gL_sound_X5_tilt rfl (Nat.le_of_ble_eq_true rfl) (Nat.le_of_ble_eq_true rfl) (Nat.le_of_ble_eq_true rfl) (Nat.le_of_ble_eq_true rfl) (H24).at0 rfl rfl (Nat.le_of_ble_eq_true rfl) dL_sound_509 (fun _ _ h => h.2.2) ?_
          rintro _ w25 ⟨rfl, H25, p25⟩
          have P25 := wp_tr P24 p25
          refine j_dconst0 C dL_sound_512 ?_
          refine j_dcmp C dL_sound_513 ?_
          refine j_if_ne C dL_sound_514 (tgt := 541) (by decide) (fun h => absurd (by rw [so_t0 h435]; rfl) h) (fun _ => ?_)
          refine j_aload_n C 14 dL_sound_517 rfl rfl ?_
          refine j_bipush C (v := (7 : Int32)) dL_sound_518 rfl ?_
          refine jw_i C KT (As := [.ref x, .int (7 : Int32)]) (rest := []) (lb_value (xl X) hst D H25 7 (by decide)) mw_value my_value gL_sound_L_value rfl (Nat.le_of_ble_eq_true rfl) (Nat.le_of_ble_eq_true rfl) (Nat.le_of_ble_eq_true rfl) (Nat.le_of_ble_eq_true rfl) rfl (Nat.le_of_ble_eq_true rfl) dL_sound_520 (fun _ _ h => h.2.2) ?_
          rintro _ w26 ⟨rfl, H26, p26⟩
          have P26 := wp_tr P25 p26
          refine j_eqi (y := nI (mR m n).2.1) (vl_7 m n) ?_
          refine j_if_le C dL_sound_523 (tgt := 541) (by decide) (fun h => absurd h (so_rd1 m n)) (fun _ => ?_)
          refine j_aload_n C 14 dL_sound_526 rfl rfl ?_
          refine j_bipush C (v := (7 : Int32)) dL_sound_527 rfl ?_
          refine jw_i C KT (As := [.ref x, .int (7 : Int32)]) (rest := []) (lb_value (xl X) hst D H26 7 (by decide)) mw_value my_value gL_sound_L_value rfl (Nat.le_of_ble_eq_true rfl) (Nat.le_of_ble_eq_true rfl) (Nat.le_of_ble_eq_true rfl) (Nat.le_of_ble_eq_true rfl) rfl (Nat.le_of_ble_eq_true rfl) dL_sound_529 (fun _ _ h => h.2.2) ?_
          rintro _ w27 ⟨rfl, H27, p27⟩
          have P27 := wp_tr P26 p27
          refine j_eqi (y := nI (mR m n).2.1) (vl_7 m n) ?_
          refine j_bipush C (v := (31 : Int32)) dL_sound_532 rfl ?_
          refine j_icmp_ge C dL_sound_534 (tgt := 541) (by decide) (fun h => absurd h (so_rd2 m n)) (fun _ => ?_)
          refine j_iconst C (v := (1 : Int32)) dL_sound_537 rfl ?_
          refine j_goto C dL_sound_538 (tgt := 542) (by decide) ?_
          refine j_widen (k' := 0) (n' := 0) (Nat.le_of_ble_eq_true rfl) (Nat.le_of_ble_eq_true rfl) ?_
          exact ret dL_sound_542 (Or.inr rfl) (⟨rfl, H27, P27⟩)
      · intro i69 hi69 ih69 w7l H7l P7l
        refine j_iload C 0 dL_sound_69 rfl ?_
        refine j_iload_n C 13 dL_sound_71 rfl rfl ?_
        refine j_icmp_ge C dL_sound_72 (tgt := 434) (by decide) (fun h => absurd h (nI_ge hi69 (by omega))) (fun _ => ?_)
        refine j_aload_n C 14 dL_sound_75 rfl rfl ?_
        refine j_iload C 0 dL_sound_76 rfl ?_
        refine j_iconst C (v := (5 : Int32)) dL_sound_78 rfl ?_
        refine jw_i C KT (As := [.ref x, .int (nI i69), .int (5 : Int32)]) (rest := []) (lb_block (xl X) hst D H7l i69 (by assumption) 5 (by decide)) mw_block my_block gL_sound_L_block rfl (Nat.le_of_ble_eq_true rfl) (Nat.le_of_ble_eq_true rfl) (Nat.le_of_ble_eq_true rfl) (Nat.le_of_ble_eq_true rfl) rfl (Nat.le_of_ble_eq_true rfl) dL_sound_79 (fun _ _ h => h.2.2) ?_
        rintro _ w28 ⟨rfl, H28, p28⟩
        have P28 := wp_tr P7l p28
        refine j_eqi (y := mLo m n i69) (bl_5 m n i69) ?_
        refine j_istore C dL_sound_82 (by decide) (lv' := [(20, .int (mLo m n i69)), (19, .int (nI i69)), (17, .long (gSm m n i69)), (15, .long (fSm m n i69)), (14, .int (hvy (mR m n).1 (mLo m n) i69)), (13, .int (gre (mR m n).1 (mLo m n) i69)), (12, .int (smL (mLo m n) i69)), (11, .int (cntI (mOv m n) i69)), (10, .int (cntI (mBe m n) i69)), (9, .int (cntI (stb (mT m) 0 n) i69)), (7, .long (mBa m n 2)), (5, .long (mBa m n 1)), (3, .long (mBa m n 0)), (2, .int (bI (mR m n).1)), (1, .int (nI n)), (0, .ref x)]) rfl ?_
        refine j_aload_n C 15 dL_sound_84 rfl rfl ?_
        refine j_iload C 1 dL_sound_85 rfl ?_
        refine j_bipush C (v := (6 : Int32)) dL_sound_87 rfl ?_
        refine jw_i C KT (As := [.ref x, .int (nI i69), .int (6 : Int32)]) (rest := []) (lb_block (xl X) hst D H28 i69 (by assumption) 6 (by decide)) mw_block my_block gL_sound_L_block rfl (Nat.le_of_ble_eq_true rfl) (Nat.le_of_ble_eq_true rfl) (Nat.le_of_ble_eq_true rfl) (Nat.le_of_ble_eq_true rfl) rfl (Nat.le_of_ble_eq_true rfl) dL_sound_89 (fun _ _ h => h.2.2) ?_
        rintro _ w29 ⟨rfl, H29, p29⟩
        have P29 := wp_tr P28 p29
        refine j_eqi (y := bI (bea m n i69)) (bl_6 m n i69) ?_
        refine j_iconst C (v := (1 : Int32)) dL_sound_92 rfl ?_
        have hJ101 : ∀ (w30j : va_W), LW D x m n h w30j → wpre w0 w30j → J D X w30j 0 0 101 [(20, .int (mLo m n i69)), (19, .int (nI i69)), (17, .long (gSm m n i69)), (15, .long (fSm m n i69)), (14, .int (hvy (mR m n).1 (mLo m n) i69)), (13, .int (gre (mR m n).1 (mLo m n) i69)), (12, .int (smL (mLo m n) i69)), (11, .int (cntI (mOv m n) i69)), (10, .int (cntI (mBe m n) i69)), (9, .int (cntI (stb (mT m) 0 n) i69)), (7, .long (mBa m n 2)), (5, .long (mBa m n 1)), (3, .long (mBa m n 0)), (2, .int (bI (mR m n).1)), (1, .int (nI n)), (0, .ref x)] [.int (bI (bea m n i69))] := by
          intro  w30j H30j P30j
          refine j_istore C dL_sound_101 (by decide) (lv' := [(21, .int (bI (bea m n i69))), (20, .int (mLo m n i69)), (19, .int (nI i69)), (17, .long (gSm m n i69)), (15, .long (fSm m n i69)), (14, .int (hvy (mR m n).1 (mLo m n) i69)), (13, .int (gre (mR m n).1 (mLo m n) i69)), (12, .int (smL (mLo m n) i69)), (11, .int (cntI (mOv m n) i69)), (10, .int (cntI (mBe m n) i69)), (9, .int (cntI (stb (mT m) 0 n) i69)), (7, .long (mBa m n 2)), (5, .long (mBa m n 1)), (3, .long (mBa m n 0)), (2, .int (bI (mR m n).1)), (1, .int (nI n)), (0, .ref x)]) rfl ?_
          refine j_lload_n C 13 dL_sound_103 rfl rfl ?_
          refine j_lload C 12 dL_sound_104 rfl ?_
          refine j_aload_n C 16 dL_sound_106 rfl rfl ?_
          refine j_iload C 2 dL_sound_107 rfl ?_
          refine j_iconst C (v := (0 : Int32)) dL_sound_109 rfl ?_
          refine jw_i C KT (As := [.ref x, .int (nI i69), .int (0 : Int32)]) (rest := [.long (mBa m n 1), .long (mBa m n 0)]) (lb_block (xl X) hst D H30j i69 (by assumption) 0 (by decide)) mw_block my_block gL_sound_L_block rfl (Nat.le_of_ble_eq_true rfl) (Nat.le_of_ble_eq_true rfl) (Nat.le_of_ble_eq_true rfl) (Nat.le_of_ble_eq_true rfl) rfl (Nat.le_of_ble_eq_true rfl) dL_sound_110 (fun _ _ h => h.2.2) ?_
          rintro _ w31 ⟨rfl, H31, p31⟩
          have P31 := wp_tr P30j p31
          refine j_eqi (y := mP m i69) (bl_0 m n i69) ?_
          refine j_i2l C dL_sound_113 ?_
          refine j_lmul C dL_sound_114 ?_
          refine j_ladd C dL_sound_115 ?_
          refine j_lload C 11 dL_sound_116 rfl ?_
          refine j_aload_n C 16 dL_sound_118 rfl rfl ?_
          refine j_iload C 2 dL_sound_119 rfl ?_
          refine j_iconst C (v := (2 : Int32)) dL_sound_121 rfl ?_
          refine jw_i C KT (As := [.ref x, .int (nI i69), .int (2 : Int32)]) (rest := [.long (mBa m n 2), .long ((mBa m n 0) + ((mBa m n 1) * ((mP m i69).toInt64)))]) (lb_block (xl X) hst D H31 i69 (by assumption) 2 (by decide)) mw_block my_block gL_sound_L_block rfl (Nat.le_of_ble_eq_true rfl) (Nat.le_of_ble_eq_true rfl) (Nat.le_of_ble_eq_true rfl) (Nat.le_of_ble_eq_true rfl) rfl (Nat.le_of_ble_eq_true rfl) dL_sound_122 (fun _ _ h => h.2.2) ?_
          rintro _ w32 ⟨rfl, H32, p32⟩
          have P32 := wp_tr P31 p32
          refine j_eqi (y := mH m i69) (bl_2 m n i69) ?_
          refine j_i2l C dL_sound_125 ?_
          refine j_lmul C dL_sound_126 ?_
          refine j_ladd C dL_sound_127 ?_
          refine j_eql (y := prs m n i69) rfl ?_
          refine j_lstore C dL_sound_128 (by decide) (lv' := [(22, .long (prs m n i69)), (21, .int (bI (bea m n i69))), (20, .int (mLo m n i69)), (19, .int (nI i69)), (17, .long (gSm m n i69)), (15, .long (fSm m n i69)), (14, .int (hvy (mR m n).1 (mLo m n) i69)), (13, .int (gre (mR m n).1 (mLo m n) i69)), (12, .int (smL (mLo m n) i69)), (11, .int (cntI (mOv m n) i69)), (10, .int (cntI (mBe m n) i69)), (9, .int (cntI (stb (mT m) 0 n) i69)), (7, .long (mBa m n 2)), (5, .long (mBa m n 1)), (3, .long (mBa m n 0)), (2, .int (bI (mR m n).1)), (1, .int (nI n)), (0, .ref x)]) rfl ?_
          refine j_lload C 0 dL_sound_130 rfl ?_
          refine j_aload_n C 17 dL_sound_132 rfl rfl ?_
          refine j_iload C 3 dL_sound_133 rfl ?_
          refine j_iconst C (v := (1 : Int32)) dL_sound_135 rfl ?_
          refine jw_i C KT (As := [.ref x, .int (nI i69), .int (1 : Int32)]) (rest := [.long (prs m n i69)]) (lb_block (xl X) hst D H32 i69 (by assumption) 1 (by decide)) mw_block my_block gL_sound_L_block rfl (Nat.le_of_ble_eq_true rfl) (Nat.le_of_ble_eq_true rfl) (Nat.le_of_ble_eq_true rfl) (Nat.le_of_ble_eq_true rfl) rfl (Nat.le_of_ble_eq_true rfl) dL_sound_136 (fun _ _ h => h.2.2) ?_
          rintro _ w33 ⟨rfl, H33, p33⟩
          have P33 := wp_tr P32 p33
          refine j_eqi (y := mK m i69) (bl_1 m n i69) ?_
          refine j_i2l C dL_sound_139 ?_
          refine j_lmul C dL_sound_140 ?_
          refine j_eql (y := frc m n i69) rfl ?_
          refine j_lstore C dL_sound_141 (by decide) (lv' := [(24, .long (frc m n i69)), (22, .long (prs m n i69)), (21, .int (bI (bea m n i69))), (20, .int (mLo m n i69)), (19, .int (nI i69)), (17, .long (gSm m n i69)), (15, .long (fSm m n i69)), (14, .int (hvy (mR m n).1 (mLo m n) i69)), (13, .int (gre (mR m n).1 (mLo m n) i69)), (12, .int (smL (mLo m n) i69)), (11, .int (cntI (mOv m n) i69)), (10, .int (cntI (mBe m n) i69)), (9, .int (cntI (stb (mT m) 0 n) i69)), (7, .long (mBa m n 2)), (5, .long (mBa m n 1)), (3, .long (mBa m n 0)), (2, .int (bI (mR m n).1)), (1, .int (nI n)), (0, .ref x)]) rfl ?_
          refine j_iload C 12 dL_sound_143 rfl ?_
          refine j_aload_n C 18 dL_sound_145 rfl rfl ?_
          refine j_iload C 4 dL_sound_146 rfl ?_
          refine j_iconst C (v := (4 : Int32)) dL_sound_148 rfl ?_
          refine jw_i C KT (As := [.ref x, .int (nI i69), .int (4 : Int32)]) (rest := [.int (cntI (stb (mT m) 0 n) i69)]) (lb_block (xl X) hst D H33 i69 (by assumption) 4 (by decide)) mw_block my_block gL_sound_L_block rfl (Nat.le_of_ble_eq_true rfl) (Nat.le_of_ble_eq_true rfl) (Nat.le_of_ble_eq_true rfl) (Nat.le_of_ble_eq_true rfl) rfl (Nat.le_of_ble_eq_true rfl) dL_sound_149 (fun _ _ h => h.2.2) ?_
          rintro _ w34 ⟨rfl, H34, p34⟩
          have P34 := wp_tr P33 p34
          refine j_eqi (y := mT m i69) (bl_4 m n i69) ?_
          have hJ160 : ∀ (w35j : va_W), LW D x m n h w35j → wpre w0 w35j → J D X w35j 0 0 160 [(24, .long (frc m n i69)), (22, .long (prs m n i69)), (21, .int (bI (bea m n i69))), (20, .int (mLo m n i69)), (19, .int (nI i69)), (17, .long (gSm m n i69)), (15, .long (fSm m n i69)), (14, .int (hvy (mR m n).1 (mLo m n) i69)), (13, .int (gre (mR m n).1 (mLo m n) i69)), (12, .int (smL (mLo m n) i69)), (11, .int (cntI (mOv m n) i69)), (10, .int (cntI (mBe m n) i69)), (9, .int (cntI (stb (mT m) 0 n) i69)), (7, .long (mBa m n 2)), (5, .long (mBa m n 1)), (3, .long (mBa m n 0)), (2, .int (bI (mR m n).1)), (1, .int (nI n)), (0, .ref x)] [.int (bI (bt (stb (mT m) 0 n) i69)), .int (cntI (stb (mT m) 0 n) i69)] := by
            intro  w35j H35j P35j
            refine j_iadd C dL_sound_160 ?_
            refine j_eqi (y := cntI (stb (mT m) 0 n) (i69 + 1)) rfl ?_
            refine j_istore C dL_sound_161 (by decide) (lv' := [(9, .int (cntI (stb (mT m) 0 n) (i69 + 1))), (24, .long (frc m n i69)), (22, .long (prs m n i69)), (21, .int (bI (bea m n i69))), (20, .int (mLo m n i69)), (19, .int (nI i69)), (17, .long (gSm m n i69)), (15, .long (fSm m n i69)), (14, .int (hvy (mR m n).1 (mLo m n) i69)), (13, .int (gre (mR m n).1 (mLo m n) i69)), (12, .int (smL (mLo m n) i69)), (11, .int (cntI (mOv m n) i69)), (10, .int (cntI (mBe m n) i69)), (7, .long (mBa m n 2)), (5, .long (mBa m n 1)), (3, .long (mBa m n 0)), (2, .int (bI (mR m n).1)), (1, .int (nI n)), (0, .ref x)]) rfl ?_
            refine j_iload C 12 dL_sound_163 rfl ?_
            refine j_iload C 3 dL_sound_165 rfl ?_
            have hJ175 : ∀ (w36j : va_W), LW D x m n h w36j → wpre w0 w36j → J D X w36j 0 0 175 [(9, .int (cntI (stb (mT m) 0 n) (i69 + 1))), (24, .long (frc m n i69)), (22, .long (prs m n i69)), (21, .int (bI (bea m n i69))), (20, .int (mLo m n i69)), (19, .int (nI i69)), (17, .long (gSm m n i69)), (15, .long (fSm m n i69)), (14, .int (hvy (mR m n).1 (mLo m n) i69)), (13, .int (gre (mR m n).1 (mLo m n) i69)), (12, .int (smL (mLo m n) i69)), (11, .int (cntI (mOv m n) i69)), (10, .int (cntI (mBe m n) i69)), (7, .long (mBa m n 2)), (5, .long (mBa m n 1)), (3, .long (mBa m n 0)), (2, .int (bI (mR m n).1)), (1, .int (nI n)), (0, .ref x)] [.int (bI (bea m n i69)), .int (cntI (mBe m n) i69)] := by
              intro  w36j H36j P36j
              refine j_iadd C dL_sound_175 ?_
              refine j_eqi (y := cntI (mBe m n) (i69 + 1)) (be_s _ _ _) ?_
              refine j_istore C dL_sound_176 (by decide) (lv' := [(10, .int (cntI (mBe m n) (i69 + 1))), (9, .int (cntI (stb (mT m) 0 n) (i69 + 1))), (24, .long (frc m n i69)), (22, .long (prs m n i69)), (21, .int (bI (bea m n i69))), (20, .int (mLo m n i69)), (19, .int (nI i69)), (17, .long (gSm m n i69)), (15, .long (fSm m n i69)), (14, .int (hvy (mR m n).1 (mLo m n) i69)), (13, .int (gre (mR m n).1 (mLo m n) i69)), (12, .int (smL (mLo m n) i69)), (11, .int (cntI (mOv m n) i69)), (7, .long (mBa m n 2)), (5, .long (mBa m n 1)), (3, .long (mBa m n 0)), (2, .int (bI (mR m n).1)), (1, .int (nI n)), (0, .ref x)]) rfl ?_
              refine j_iload C 12 dL_sound_178 rfl ?_
              refine j_aload_n C 18 dL_sound_180 rfl rfl ?_
              refine j_iload C 6 dL_sound_181 rfl ?_
              refine j_bipush C (v := (7 : Int32)) dL_sound_183 rfl ?_
              refine jw_i C KT (As := [.ref x, .int (nI i69), .int (7 : Int32)]) (rest := [.int (cntI (mOv m n) i69)]) (lb_block (xl X) hst D H36j i69 (by assumption) 7 (by decide)) mw_block my_block gL_sound_L_block rfl (Nat.le_of_ble_eq_true rfl) (Nat.le_of_ble_eq_true rfl) (Nat.le_of_ble_eq_true rfl) (Nat.le_of_ble_eq_true rfl) rfl (Nat.le_of_ble_eq_true rfl) dL_sound_185 (fun _ _ h => h.2.2) ?_
              rintro _ w37 ⟨rfl, H37, p37⟩
              have P37 := wp_tr P36j p37
              refine j_eqi (y := bI (ovd m n i69)) (bl_7 m n i69) ?_
              refine j_iadd C dL_sound_188 ?_
              refine j_eqi (y := cntI (mOv m n) (i69 + 1)) (ov_s hn hi69) ?_
              refine j_istore C dL_sound_189 (by decide) (lv' := [(11, .int (cntI (mOv m n) (i69 + 1))), (10, .int (cntI (mBe m n) (i69 + 1))), (9, .int (cntI (stb (mT m) 0 n) (i69 + 1))), (24, .long (frc m n i69)), (22, .long (prs m n i69)), (21, .int (bI (bea m n i69))), (20, .int (mLo m n i69)), (19, .int (nI i69)), (17, .long (gSm m n i69)), (15, .long (fSm m n i69)), (14, .int (hvy (mR m n).1 (mLo m n) i69)), (13, .int (gre (mR m n).1 (mLo m n) i69)), (12, .int (smL (mLo m n) i69)), (7, .long (mBa m n 2)), (5, .long (mBa m n 1)), (3, .long (mBa m n 0)), (2, .int (bI (mR m n).1)), (1, .int (nI n)), (0, .ref x)]) rfl ?_
              refine j_iload C 12 dL_sound_191 rfl ?_
              refine j_iload C 6 dL_sound_193 rfl ?_
              refine j_iadd C dL_sound_195 ?_
              refine j_eqi (y := smL (mLo m n) (i69 + 1)) rfl ?_
              refine j_istore C dL_sound_196 (by decide) (lv' := [(12, .int (smL (mLo m n) (i69 + 1))), (11, .int (cntI (mOv m n) (i69 + 1))), (10, .int (cntI (mBe m n) (i69 + 1))), (9, .int (cntI (stb (mT m) 0 n) (i69 + 1))), (24, .long (frc m n i69)), (22, .long (prs m n i69)), (21, .int (bI (bea m n i69))), (20, .int (mLo m n i69)), (19, .int (nI i69)), (17, .long (gSm m n i69)), (15, .long (fSm m n i69)), (14, .int (hvy (mR m n).1 (mLo m n) i69)), (13, .int (gre (mR m n).1 (mLo m n) i69)), (7, .long (mBa m n 2)), (5, .long (mBa m n 1)), (3, .long (mBa m n 0)), (2, .int (bI (mR m n).1)), (1, .int (nI n)), (0, .ref x)]) rfl ?_
              refine j_iload_n C 16 dL_sound_198 rfl rfl ?_
              have hJ221 : ∀ (w38j : va_W), LW D x m n h w38j → wpre w0 w38j → J D X w38j 0 0 221 [(12, .int (smL (mLo m n) (i69 + 1))), (11, .int (cntI (mOv m n) (i69 + 1))), (10, .int (cntI (mBe m n) (i69 + 1))), (9, .int (cntI (stb (mT m) 0 n) (i69 + 1))), (24, .long (frc m n i69)), (22, .long (prs m n i69)), (21, .int (bI (bea m n i69))), (20, .int (mLo m n i69)), (19, .int (nI i69)), (17, .long (gSm m n i69)), (15, .long (fSm m n i69)), (14, .int (hvy (mR m n).1 (mLo m n) i69)), (13, .int (gre (mR m n).1 (mLo m n) i69)), (7, .long (mBa m n 2)), (5, .long (mBa m n 1)), (3, .long (mBa m n 0)), (2, .int (bI (mR m n).1)), (1, .int (nI n)), (0, .ref x)] [.int (hvy (mR m n).1 (mLo m n) (i69 + 1))] := by
                intro  w38j H38j P38j
                refine j_istore C dL_sound_221 (by decide) (lv' := [(14, .int (hvy (mR m n).1 (mLo m n) (i69 + 1))), (12, .int (smL (mLo m n) (i69 + 1))), (11, .int (cntI (mOv m n) (i69 + 1))), (10, .int (cntI (mBe m n) (i69 + 1))), (9, .int (cntI (stb (mT m) 0 n) (i69 + 1))), (24, .long (frc m n i69)), (22, .long (prs m n i69)), (21, .int (bI (bea m n i69))), (20, .int (mLo m n i69)), (19, .int (nI i69)), (17, .long (gSm m n i69)), (15, .long (fSm m n i69)), (13, .int (gre (mR m n).1 (mLo m n) i69)), (7, .long (mBa m n 2)), (5, .long (mBa m n 1)), (3, .long (mBa m n 0)), (2, .int (bI (mR m n).1)), (1, .int (nI n)), (0, .ref x)]) rfl ?_
                refine j_iload_n C 16 dL_sound_223 rfl rfl ?_
                have hJ241 : ∀ (w39j : va_W), LW D x m n h w39j → wpre w0 w39j → J D X w39j 0 0 241 [(14, .int (hvy (mR m n).1 (mLo m n) (i69 + 1))), (12, .int (smL (mLo m n) (i69 + 1))), (11, .int (cntI (mOv m n) (i69 + 1))), (10, .int (cntI (mBe m n) (i69 + 1))), (9, .int (cntI (stb (mT m) 0 n) (i69 + 1))), (24, .long (frc m n i69)), (22, .long (prs m n i69)), (21, .int (bI (bea m n i69))), (20, .int (mLo m n i69)), (19, .int (nI i69)), (17, .long (gSm m n i69)), (15, .long (fSm m n i69)), (13, .int (gre (mR m n).1 (mLo m n) i69)), (7, .long (mBa m n 2)), (5, .long (mBa m n 1)), (3, .long (mBa m n 0)), (2, .int (bI (mR m n).1)), (1, .int (nI n)), (0, .ref x)] [.int (gre (mR m n).1 (mLo m n) (i69 + 1))] := by
                  intro  w39j H39j P39j
                  refine j_istore C dL_sound_241 (by decide) (lv' := [(13, .int (gre (mR m n).1 (mLo m n) (i69 + 1))), (14, .int (hvy (mR m n).1 (mLo m n) (i69 + 1))), (12, .int (smL (mLo m n) (i69 + 1))), (11, .int (cntI (mOv m n) (i69 + 1))), (10, .int (cntI (mBe m n) (i69 + 1))), (9, .int (cntI (stb (mT m) 0 n) (i69 + 1))), (24, .long (frc m n i69)), (22, .long (prs m n i69)), (21, .int (bI (bea m n i69))), (20, .int (mLo m n i69)), (19, .int (nI i69)), (17, .long (gSm m n i69)), (15, .long (fSm m n i69)), (7, .long (mBa m n 2)), (5, .long (mBa m n 1)), (3, .long (mBa m n 0)), (2, .int (bI (mR m n).1)), (1, .int (nI n)), (0, .ref x)]) rfl ?_
                  refine j_lload C 12 dL_sound_243 rfl ?_
                  refine j_iload C 8 dL_sound_245 rfl ?_
                  have hJ256 : ∀ (w40j : va_W), LW D x m n h w40j → wpre w0 w40j → J D X w40j 0 0 256 [(13, .int (gre (mR m n).1 (mLo m n) (i69 + 1))), (14, .int (hvy (mR m n).1 (mLo m n) (i69 + 1))), (12, .int (smL (mLo m n) (i69 + 1))), (11, .int (cntI (mOv m n) (i69 + 1))), (10, .int (cntI (mBe m n) (i69 + 1))), (9, .int (cntI (stb (mT m) 0 n) (i69 + 1))), (24, .long (frc m n i69)), (22, .long (prs m n i69)), (21, .int (bI (bea m n i69))), (20, .int (mLo m n i69)), (19, .int (nI i69)), (17, .long (gSm m n i69)), (15, .long (fSm m n i69)), (7, .long (mBa m n 2)), (5, .long (mBa m n 1)), (3, .long (mBa m n 0)), (2, .int (bI (mR m n).1)), (1, .int (nI n)), (0, .ref x)] [.long (if bea m n i69 = true then frc m n i69 else 0), .long (fSm m n i69)] := by
                    intro  w40j H40j P40j
                    refine j_ladd C dL_sound_256 ?_
                    refine j_eql (y := fSm m n (i69 + 1)) rfl ?_
                    refine j_lstore C dL_sound_257 (by decide) (lv' := [(15, .long (fSm m n (i69 + 1))), (13, .int (gre (mR m n).1 (mLo m n) (i69 + 1))), (14, .int (hvy (mR m n).1 (mLo m n) (i69 + 1))), (12, .int (smL (mLo m n) (i69 + 1))), (11, .int (cntI (mOv m n) (i69 + 1))), (10, .int (cntI (mBe m n) (i69 + 1))), (9, .int (cntI (stb (mT m) 0 n) (i69 + 1))), (24, .long (frc m n i69)), (22, .long (prs m n i69)), (21, .int (bI (bea m n i69))), (20, .int (mLo m n i69)), (19, .int (nI i69)), (17, .long (gSm m n i69)), (7, .long (mBa m n 2)), (5, .long (mBa m n 1)), (3, .long (mBa m n 0)), (2, .int (bI (mR m n).1)), (1, .int (nI n)), (0, .ref x)]) rfl ?_
                    refine j_lload C 12 dL_sound_259 rfl ?_
                    refine j_iload C 9 dL_sound_261 rfl ?_
                    have hJ281 : ∀ (w41j : va_W), LW D x m n h w41j → wpre w0 w41j → J D X w41j 0 0 281 [(15, .long (fSm m n (i69 + 1))), (13, .int (gre (mR m n).1 (mLo m n) (i69 + 1))), (14, .int (hvy (mR m n).1 (mLo m n) (i69 + 1))), (12, .int (smL (mLo m n) (i69 + 1))), (11, .int (cntI (mOv m n) (i69 + 1))), (10, .int (cntI (mBe m n) (i69 + 1))), (9, .int (cntI (stb (mT m) 0 n) (i69 + 1))), (24, .long (frc m n i69)), (22, .long (prs m n i69)), (21, .int (bI (bea m n i69))), (20, .int (mLo m n i69)), (19, .int (nI i69)), (17, .long (gSm m n i69)), (7, .long (mBa m n 2)), (5, .long (mBa m n 1)), (3, .long (mBa m n 0)), (2, .int (bI (mR m n).1)), (1, .int (nI n)), (0, .ref x)] [.long (if bea m n i69 = true then frc m n i69 * (mP m i69).toInt64 else 0), .long (gSm m n i69)] := by
                      intro  w41j H41j P41j
                      refine j_ladd C dL_sound_281 ?_
                      refine j_eql (y := gSm m n (i69 + 1)) rfl ?_
                      refine j_lstore C dL_sound_282 (by decide) (lv' := [(17, .long (gSm m n (i69 + 1))), (15, .long (fSm m n (i69 + 1))), (13, .int (gre (mR m n).1 (mLo m n) (i69 + 1))), (14, .int (hvy (mR m n).1 (mLo m n) (i69 + 1))), (12, .int (smL (mLo m n) (i69 + 1))), (11, .int (cntI (mOv m n) (i69 + 1))), (10, .int (cntI (mBe m n) (i69 + 1))), (9, .int (cntI (stb (mT m) 0 n) (i69 + 1))), (24, .long (frc m n i69)), (22, .long (prs m n i69)), (21, .int (bI (bea m n i69))), (20, .int (mLo m n i69)), (19, .int (nI i69)), (7, .long (mBa m n 2)), (5, .long (mBa m n 1)), (3, .long (mBa m n 0)), (2, .int (bI (mR m n).1)), (1, .int (nI n)), (0, .ref x)]) rfl ?_
                      refine j_iload C 11 dL_sound_284 rfl ?_
                      refine j_if_lt C dL_sound_286 (tgt := 426) (by decide) (fun h => absurd h (so_nn hn hV hi69)) (fun _ => ?_)
                      refine j_iload C 10 dL_sound_289 rfl ?_
                      have hJ299 : ∀ (w42j : va_W), LW D x m n h w42j → wpre w0 w42j → J D X w42j 0 0 299 [(17, .long (gSm m n (i69 + 1))), (15, .long (fSm m n (i69 + 1))), (13, .int (gre (mR m n).1 (mLo m n) (i69 + 1))), (14, .int (hvy (mR m n).1 (mLo m n) (i69 + 1))), (12, .int (smL (mLo m n) (i69 + 1))), (11, .int (cntI (mOv m n) (i69 + 1))), (10, .int (cntI (mBe m n) (i69 + 1))), (9, .int (cntI (stb (mT m) 0 n) (i69 + 1))), (24, .long (frc m n i69)), (22, .long (prs m n i69)), (21, .int (bI (bea m n i69))), (20, .int (mLo m n i69)), (19, .int (nI i69)), (7, .long (mBa m n 2)), (5, .long (mBa m n 1)), (3, .long (mBa m n 0)), (2, .int (bI (mR m n).1)), (1, .int (nI n)), (0, .ref x)] [] := by
                        intro  w42j H42j P42j
                        refine j_iload C 10 dL_sound_299 rfl ?_
                        have hJ351 : ∀ (w43j : va_W), LW D x m n h w43j → wpre w0 w43j → J D X w43j 0 0 351 [(17, .long (gSm m n (i69 + 1))), (15, .long (fSm m n (i69 + 1))), (13, .int (gre (mR m n).1 (mLo m n) (i69 + 1))), (14, .int (hvy (mR m n).1 (mLo m n) (i69 + 1))), (12, .int (smL (mLo m n) (i69 + 1))), (11, .int (cntI (mOv m n) (i69 + 1))), (10, .int (cntI (mBe m n) (i69 + 1))), (9, .int (cntI (stb (mT m) 0 n) (i69 + 1))), (24, .long (frc m n i69)), (22, .long (prs m n i69)), (21, .int (bI (bea m n i69))), (20, .int (mLo m n i69)), (19, .int (nI i69)), (7, .long (mBa m n 2)), (5, .long (mBa m n 1)), (3, .long (mBa m n 0)), (2, .int (bI (mR m n).1)), (1, .int (nI n)), (0, .ref x)] [] := by
                          intro  w43j H43j P43j
                          refine j_iload C 10 dL_sound_351 rfl ?_
                          have hJ377 : ∀ (w44j : va_W), LW D x m n h w44j → wpre w0 w44j → J D X w44j 0 0 377 [(17, .long (gSm m n (i69 + 1))), (15, .long (fSm m n (i69 + 1))), (13, .int (gre (mR m n).1 (mLo m n) (i69 + 1))), (14, .int (hvy (mR m n).1 (mLo m n) (i69 + 1))), (12, .int (smL (mLo m n) (i69 + 1))), (11, .int (cntI (mOv m n) (i69 + 1))), (10, .int (cntI (mBe m n) (i69 + 1))), (9, .int (cntI (stb (mT m) 0 n) (i69 + 1))), (24, .long (frc m n i69)), (22, .long (prs m n i69)), (21, .int (bI (bea m n i69))), (20, .int (mLo m n i69)), (19, .int (nI i69)), (7, .long (mBa m n 2)), (5, .long (mBa m n 1)), (3, .long (mBa m n 0)), (2, .int (bI (mR m n).1)), (1, .int (nI n)), (0, .ref x)] [] := by
                            intro  w44j H44j P44j
                            refine j_aload_n C 18 dL_sound_377 rfl rfl ?_
                            refine j_iload C 12 dL_sound_378 rfl ?_
                            refine j_bipush C (v := (7 : Int32)) dL_sound_380 rfl ?_
                            refine jw_i C KT (As := [.ref x, .int (nI i69), .int (7 : Int32)]) (rest := []) (lb_block (xl X) hst D H44j i69 (by assumption) 7 (by decide)) mw_block my_block gL_sound_L_block rfl (Nat.le_of_ble_eq_true rfl) (Nat.le_of_ble_eq_true rfl) (Nat.le_of_ble_eq_true rfl) (Nat.le_of_ble_eq_true rfl) rfl (Nat.le_of_ble_eq_true rfl) dL_sound_382 (fun _ _ h => h.2.2) ?_
                            rintro _ w45 ⟨rfl, H45, p45⟩
                            have P45 := wp_tr P44j p45
                            refine j_eqi (y := bI (ovd m n i69)) (bl_7 m n i69) ?_
                            refine j_iload C 11 dL_sound_385 rfl ?_
                            refine j_aload_n C 18 dL_sound_387 rfl rfl ?_
                            refine j_iload C 12 dL_sound_388 rfl ?_
                            refine j_iconst C (v := (3 : Int32)) dL_sound_390 rfl ?_
                            refine jw_i C KT (As := [.ref x, .int (nI i69), .int (3 : Int32)]) (rest := [.int (mLo m n i69), .int (bI (ovd m n i69))]) (lb_block (xl X) hst D H45 i69 (by assumption) 3 (by decide)) mw_block my_block gL_sound_L_block rfl (Nat.le_of_ble_eq_true rfl) (Nat.le_of_ble_eq_true rfl) (Nat.le_of_ble_eq_true rfl) (Nat.le_of_ble_eq_true rfl) rfl (Nat.le_of_ble_eq_true rfl) dL_sound_391 (fun _ _ h => h.2.2) ?_
                            rintro _ w46 ⟨rfl, H46, p46⟩
                            have P46 := wp_tr P45 p46
                            refine j_eqi (y := mL m i69) (bl_3 m n i69) ?_
                            have hJ402 : ∀ (w47j : va_W), LW D x m n h w47j → wpre w0 w47j → J D X w47j 0 0 402 [(17, .long (gSm m n (i69 + 1))), (15, .long (fSm m n (i69 + 1))), (13, .int (gre (mR m n).1 (mLo m n) (i69 + 1))), (14, .int (hvy (mR m n).1 (mLo m n) (i69 + 1))), (12, .int (smL (mLo m n) (i69 + 1))), (11, .int (cntI (mOv m n) (i69 + 1))), (10, .int (cntI (mBe m n) (i69 + 1))), (9, .int (cntI (stb (mT m) 0 n) (i69 + 1))), (24, .long (frc m n i69)), (22, .long (prs m n i69)), (21, .int (bI (bea m n i69))), (20, .int (mLo m n i69)), (19, .int (nI i69)), (7, .long (mBa m n 2)), (5, .long (mBa m n 1)), (3, .long (mBa m n 0)), (2, .int (bI (mR m n).1)), (1, .int (nI n)), (0, .ref x)] [.int (bI (ovd m n i69)), .int (bI (ovd m n i69))] := by
                              intro  w47j H47j P47j
                              refine j_icmp_ne C dL_sound_402 (tgt := 426) (by decide) (fun h => absurd rfl h) (fun _ => ?_)
                              refine j_aload_n C 18 dL_sound_405 rfl rfl ?_
                              refine j_iload C 12 dL_sound_406 rfl ?_
                              refine j_iconst C (v := (4 : Int32)) dL_sound_408 rfl ?_
                              refine jw_i C KT (As := [.ref x, .int (nI i69), .int (4 : Int32)]) (rest := []) (lb_block (xl X) hst D H47j i69 (by assumption) 4 (by decide)) mw_block my_block gL_sound_L_block rfl (Nat.le_of_ble_eq_true rfl) (Nat.le_of_ble_eq_true rfl) (Nat.le_of_ble_eq_true rfl) (Nat.le_of_ble_eq_true rfl) rfl (Nat.le_of_ble_eq_true rfl) dL_sound_409 (fun _ _ h => h.2.2) ?_
                              rintro _ w48 ⟨rfl, H48, p48⟩
                              have P48 := wp_tr P47j p48
                              refine j_eqi (y := mT m i69) (bl_4 m n i69) ?_
                              refine j_if_lt C dL_sound_412 (tgt := 426) (by decide) (fun h => absurd h (so_T0 hV hi69)) (fun _ => ?_)
                              refine j_aload_n C 18 dL_sound_415 rfl rfl ?_
                              refine j_iload C 12 dL_sound_416 rfl ?_
                              refine j_iconst C (v := (4 : Int32)) dL_sound_418 rfl ?_
                              refine jw_i C KT (As := [.ref x, .int (nI i69), .int (4 : Int32)]) (rest := []) (lb_block (xl X) hst D H48 i69 (by assumption) 4 (by decide)) mw_block my_block gL_sound_L_block rfl (Nat.le_of_ble_eq_true rfl) (Nat.le_of_ble_eq_true rfl) (Nat.le_of_ble_eq_true rfl) (Nat.le_of_ble_eq_true rfl) rfl (Nat.le_of_ble_eq_true rfl) dL_sound_419 (fun _ _ h => h.2.2) ?_
                              rintro _ w49 ⟨rfl, H49, p49⟩
                              have P49 := wp_tr P48 p49
                              refine j_eqi (y := mT m i69) (bl_4 m n i69) ?_
                              refine j_iconst C (v := (2 : Int32)) dL_sound_422 rfl ?_
                              refine j_icmp_le C dL_sound_423 (tgt := 428) (by decide) (fun _ => ?_) (fun h => absurd (so_T2 hV hi69) h)
                              refine j_iinc C 12 dL_sound_428 rfl (v := nI (i69 + 1)) (nI_1 _) (by decide) (lv' := [(19, .int (nI (i69 + 1))), (17, .long (gSm m n (i69 + 1))), (15, .long (fSm m n (i69 + 1))), (13, .int (gre (mR m n).1 (mLo m n) (i69 + 1))), (14, .int (hvy (mR m n).1 (mLo m n) (i69 + 1))), (12, .int (smL (mLo m n) (i69 + 1))), (11, .int (cntI (mOv m n) (i69 + 1))), (10, .int (cntI (mBe m n) (i69 + 1))), (9, .int (cntI (stb (mT m) 0 n) (i69 + 1))), (24, .long (frc m n i69)), (22, .long (prs m n i69)), (21, .int (bI (bea m n i69))), (20, .int (mLo m n i69)), (7, .long (mBa m n 2)), (5, .long (mBa m n 1)), (3, .long (mBa m n 0)), (2, .int (bI (mR m n).1)), (1, .int (nI n)), (0, .ref x)]) rfl ?_
                              refine j_goto C dL_sound_431 (tgt := 69) (by decide) ?_
                              refine j_sub [0, 1, 2, 4, 3, 5, 6, 7, 8, 13, 14, 15, 16, 17, 18] (lv' := [(19, .int (nI (i69 + 1))), (17, .long (gSm m n (i69 + 1))), (15, .long (fSm m n (i69 + 1))), (14, .int (hvy (mR m n).1 (mLo m n) (i69 + 1))), (13, .int (gre (mR m n).1 (mLo m n) (i69 + 1))), (12, .int (smL (mLo m n) (i69 + 1))), (11, .int (cntI (mOv m n) (i69 + 1))), (10, .int (cntI (mBe m n) (i69 + 1))), (9, .int (cntI (stb (mT m) 0 n) (i69 + 1))), (7, .long (mBa m n 2)), (5, .long (mBa m n 1)), (3, .long (mBa m n 0)), (2, .int (bI (mR m n).1)), (1, .int (nI n)), (0, .ref x)]) rfl ?_
                              exact ih69 w49 H49 P49
                            refine j_icmp_le C dL_sound_394 (tgt := 401) (by decide) (fun h394 => ?_) (fun h394 => ?_)
                            · have h394' := Int32.not_lt.mpr h394
                              refine j_iconst C (v := (0 : Int32)) dL_sound_401 rfl ?_
                              refine j_eqi (y := bI (ovd m n i69)) (by rw [so_ov hn hV hi69, decide_eq_false h394']; rfl) ?_
                              refine j_sub [0, 1, 2, 3, 4, 5, 6, 7, 8, 9, 10, 11, 12, 13, 14, 15, 16, 17, 18] (lv' := [(17, .long (gSm m n (i69 + 1))), (15, .long (fSm m n (i69 + 1))), (13, .int (gre (mR m n).1 (mLo m n) (i69 + 1))), (14, .int (hvy (mR m n).1 (mLo m n) (i69 + 1))), (12, .int (smL (mLo m n) (i69 + 1))), (11, .int (cntI (mOv m n) (i69 + 1))), (10, .int (cntI (mBe m n) (i69 + 1))), (9, .int (cntI (stb (mT m) 0 n) (i69 + 1))), (24, .long (frc m n i69)), (22, .long (prs m n i69)), (21, .int (bI (bea m n i69))), (20, .int (mLo m n i69)), (19, .int (nI i69)), (7, .long (mBa m n 2)), (5, .long (mBa m n 1)), (3, .long (mBa m n 0)), (2, .int (bI (mR m n).1)), (1, .int (nI n)), (0, .ref x)]) rfl ?_
                              exact hJ402 w46 H46 P46
                            · have h394' := Int32.not_le.mp h394
                              refine j_iconst C (v := (1 : Int32)) dL_sound_397 rfl ?_
                              refine j_goto C dL_sound_398 (tgt := 402) (by decide) ?_
                              refine j_eqi (y := bI (ovd m n i69)) (by rw [so_ov hn hV hi69, decide_eq_true h394']; rfl) ?_
                              refine j_sub [0, 1, 2, 3, 4, 5, 6, 7, 8, 9, 10, 11, 12, 13, 14, 15, 16, 17, 18] (lv' := [(17, .long (gSm m n (i69 + 1))), (15, .long (fSm m n (i69 + 1))), (13, .int (gre (mR m n).1 (mLo m n) (i69 + 1))), (14, .int (hvy (mR m n).1 (mLo m n) (i69 + 1))), (12, .int (smL (mLo m n) (i69 + 1))), (11, .int (cntI (mOv m n) (i69 + 1))), (10, .int (cntI (mBe m n) (i69 + 1))), (9, .int (cntI (stb (mT m) 0 n) (i69 + 1))), (24, .long (frc m n i69)), (22, .long (prs m n i69)), (21, .int (bI (bea m n i69))), (20, .int (mLo m n i69)), (19, .int (nI i69)), (7, .long (mBa m n 2)), (5, .long (mBa m n 1)), (3, .long (mBa m n 0)), (2, .int (bI (mR m n).1)), (1, .int (nI n)), (0, .ref x)]) rfl ?_
                              exact hJ402 w46 H46 P46
                          refine j_bif_ne C dL_sound_353 (tgt := 377) (by decide) (fun h353 => ?_) (fun h353 => ?_)
                          · refine j_sub [0, 1, 2, 3, 4, 5, 6, 7, 8, 9, 10, 11, 12, 13, 14, 15, 16, 17, 18] (lv' := [(17, .long (gSm m n (i69 + 1))), (15, .long (fSm m n (i69 + 1))), (13, .int (gre (mR m n).1 (mLo m n) (i69 + 1))), (14, .int (hvy (mR m n).1 (mLo m n) (i69 + 1))), (12, .int (smL (mLo m n) (i69 + 1))), (11, .int (cntI (mOv m n) (i69 + 1))), (10, .int (cntI (mBe m n) (i69 + 1))), (9, .int (cntI (stb (mT m) 0 n) (i69 + 1))), (24, .long (frc m n i69)), (22, .long (prs m n i69)), (21, .int (bI (bea m n i69))), (20, .int (mLo m n i69)), (19, .int (nI i69)), (7, .long (mBa m n 2)), (5, .long (mBa m n 1)), (3, .long (mBa m n 0)), (2, .int (bI (mR m n).1)), (1, .int (nI n)), (0, .ref x)]) rfl ?_
                            exact hJ377 w43j H43j P43j
                          · refine j_iload_n C 16 dL_sound_356 rfl rfl ?_
                            refine j_bif_eq C dL_sound_357 (tgt := 377) (by decide) (fun h357 => ?_) (fun h357 => ?_)
                            · refine j_sub [0, 1, 2, 3, 4, 5, 6, 7, 8, 9, 10, 11, 12, 13, 14, 15, 16, 17, 18] (lv' := [(17, .long (gSm m n (i69 + 1))), (15, .long (fSm m n (i69 + 1))), (13, .int (gre (mR m n).1 (mLo m n) (i69 + 1))), (14, .int (hvy (mR m n).1 (mLo m n) (i69 + 1))), (12, .int (smL (mLo m n) (i69 + 1))), (11, .int (cntI (mOv m n) (i69 + 1))), (10, .int (cntI (mBe m n) (i69 + 1))), (9, .int (cntI (stb (mT m) 0 n) (i69 + 1))), (24, .long (frc m n i69)), (22, .long (prs m n i69)), (21, .int (bI (bea m n i69))), (20, .int (mLo m n i69)), (19, .int (nI i69)), (7, .long (mBa m n 2)), (5, .long (mBa m n 1)), (3, .long (mBa m n 0)), (2, .int (bI (mR m n).1)), (1, .int (nI n)), (0, .ref x)]) rfl ?_
                              exact hJ377 w43j H43j P43j
                            · refine j_aload_n C 18 dL_sound_360 rfl rfl ?_
                              refine j_iload C 12 dL_sound_361 rfl ?_
                              refine j_iconst C (v := (4 : Int32)) dL_sound_363 rfl ?_
                              refine jw_i C KT (As := [.ref x, .int (nI i69), .int (4 : Int32)]) (rest := []) (lb_block (xl X) hst D H43j i69 (by assumption) 4 (by decide)) mw_block my_block gL_sound_L_block rfl (Nat.le_of_ble_eq_true rfl) (Nat.le_of_ble_eq_true rfl) (Nat.le_of_ble_eq_true rfl) (Nat.le_of_ble_eq_true rfl) rfl (Nat.le_of_ble_eq_true rfl) dL_sound_364 (fun _ _ h => h.2.2) ?_
                              rintro _ w50 ⟨rfl, H50, p50⟩
                              have P50 := wp_tr P43j p50
                              refine j_eqi (y := mT m i69) (bl_4 m n i69) ?_
                              refine j_if_ne C dL_sound_367 (tgt := 377) (by decide) (fun h367 => ?_) (fun h367 => ?_)
                              · refine j_sub [0, 1, 2, 3, 4, 5, 6, 7, 8, 9, 10, 11, 12, 13, 14, 15, 16, 17, 18] (lv' := [(17, .long (gSm m n (i69 + 1))), (15, .long (fSm m n (i69 + 1))), (13, .int (gre (mR m n).1 (mLo m n) (i69 + 1))), (14, .int (hvy (mR m n).1 (mLo m n) (i69 + 1))), (12, .int (smL (mLo m n) (i69 + 1))), (11, .int (cntI (mOv m n) (i69 + 1))), (10, .int (cntI (mBe m n) (i69 + 1))), (9, .int (cntI (stb (mT m) 0 n) (i69 + 1))), (24, .long (frc m n i69)), (22, .long (prs m n i69)), (21, .int (bI (bea m n i69))), (20, .int (mLo m n i69)), (19, .int (nI i69)), (7, .long (mBa m n 2)), (5, .long (mBa m n 1)), (3, .long (mBa m n 0)), (2, .int (bI (mR m n).1)), (1, .int (nI n)), (0, .ref x)]) rfl ?_
                                exact hJ377 w50 H50 P50
                              · refine j_lload C 9 dL_sound_370 rfl ?_
                                refine j_lconst C (v := (0 : Int64)) dL_sound_372 rfl ?_
                                refine j_lcmp C dL_sound_373 ?_
                                refine j_lif_gt C dL_sound_374 (tgt := 426) (by decide) (fun h => absurd h (so_np hn hi69 h353 h357 h367)) (fun _ => ?_)
                                refine j_sub [0, 1, 2, 3, 4, 5, 6, 7, 8, 9, 10, 11, 12, 13, 14, 15, 16, 17, 18] (lv' := [(17, .long (gSm m n (i69 + 1))), (15, .long (fSm m n (i69 + 1))), (13, .int (gre (mR m n).1 (mLo m n) (i69 + 1))), (14, .int (hvy (mR m n).1 (mLo m n) (i69 + 1))), (12, .int (smL (mLo m n) (i69 + 1))), (11, .int (cntI (mOv m n) (i69 + 1))), (10, .int (cntI (mBe m n) (i69 + 1))), (9, .int (cntI (stb (mT m) 0 n) (i69 + 1))), (24, .long (frc m n i69)), (22, .long (prs m n i69)), (21, .int (bI (bea m n i69))), (20, .int (mLo m n i69)), (19, .int (nI i69)), (7, .long (mBa m n 2)), (5, .long (mBa m n 1)), (3, .long (mBa m n 0)), (2, .int (bI (mR m n).1)), (1, .int (nI n)), (0, .ref x)]) rfl ?_
                                exact hJ377 w50 H50 P50
                        refine j_bif_eq C dL_sound_301 (tgt := 351) (by decide) (fun h301 => ?_) (fun h301 => ?_)
                        · refine j_sub [0, 1, 2, 3, 4, 5, 6, 7, 8, 9, 10, 11, 12, 13, 14, 15, 16, 17, 18] (lv' := [(17, .long (gSm m n (i69 + 1))), (15, .long (fSm m n (i69 + 1))), (13, .int (gre (mR m n).1 (mLo m n) (i69 + 1))), (14, .int (hvy (mR m n).1 (mLo m n) (i69 + 1))), (12, .int (smL (mLo m n) (i69 + 1))), (11, .int (cntI (mOv m n) (i69 + 1))), (10, .int (cntI (mBe m n) (i69 + 1))), (9, .int (cntI (stb (mT m) 0 n) (i69 + 1))), (24, .long (frc m n i69)), (22, .long (prs m n i69)), (21, .int (bI (bea m n i69))), (20, .int (mLo m n i69)), (19, .int (nI i69)), (7, .long (mBa m n 2)), (5, .long (mBa m n 1)), (3, .long (mBa m n 0)), (2, .int (bI (mR m n).1)), (1, .int (nI n)), (0, .ref x)]) rfl ?_
                          exact hJ351 w42j H42j P42j
                        · refine j_aload_n C 18 dL_sound_304 rfl rfl ?_
                          refine j_iload C 12 dL_sound_305 rfl ?_
                          refine j_iconst C (v := (4 : Int32)) dL_sound_307 rfl ?_
                          refine jw_i C KT (As := [.ref x, .int (nI i69), .int (4 : Int32)]) (rest := []) (lb_block (xl X) hst D H42j i69 (by assumption) 4 (by decide)) mw_block my_block gL_sound_L_block rfl (Nat.le_of_ble_eq_true rfl) (Nat.le_of_ble_eq_true rfl) (Nat.le_of_ble_eq_true rfl) (Nat.le_of_ble_eq_true rfl) rfl (Nat.le_of_ble_eq_true rfl) dL_sound_308 (fun _ _ h => h.2.2) ?_
                          rintro _ w51 ⟨rfl, H51, p51⟩
                          have P51 := wp_tr P42j p51
                          refine j_eqi (y := mT m i69) (bl_4 m n i69) ?_
                          refine j_if_ne C dL_sound_311 (tgt := 426) (by decide) (fun h => absurd (so_bT hn hi69 h301) h) (fun _ => ?_)
                          refine j_lload C 9 dL_sound_314 rfl ?_
                          refine j_lconst C (v := (0 : Int64)) dL_sound_316 rfl ?_
                          refine j_lcmp C dL_sound_317 ?_
                          refine j_lif_le C dL_sound_318 (tgt := 426) (by decide) (fun h => absurd h (Int64.not_le.mpr (so_pr hn hV hi69 h301))) (fun _ => ?_)
                          refine j_iload C 11 dL_sound_321 rfl ?_
                          refine j_i2l C dL_sound_323 ?_
                          refine j_lload C 13 dL_sound_324 rfl ?_
                          refine j_lmul C dL_sound_326 ?_
                          refine j_lload C 8 dL_sound_327 rfl ?_
                          refine j_lsub C dL_sound_329 ?_
                          refine j_lload C 13 dL_sound_330 rfl ?_
                          refine j_lcmp C dL_sound_332 ?_
                          refine j_lif_ge C dL_sound_333 (tgt := 426) (by decide) (fun h => absurd h (Int64.not_le.mpr (so_l hn hV hi69 h301).1)) (fun _ => ?_)
                          refine j_lload C 8 dL_sound_336 rfl ?_
                          refine j_iload C 11 dL_sound_338 rfl ?_
                          refine j_i2l C dL_sound_340 ?_
                          refine j_lload C 13 dL_sound_341 rfl ?_
                          refine j_lmul C dL_sound_343 ?_
                          refine j_lsub C dL_sound_344 ?_
                          refine j_lload C 13 dL_sound_345 rfl ?_
                          refine j_lcmp C dL_sound_347 ?_
                          refine j_lif_ge C dL_sound_348 (tgt := 426) (by decide) (fun h => absurd h (Int64.not_le.mpr (so_l hn hV hi69 h301).2)) (fun _ => ?_)
                          refine j_sub [0, 1, 2, 3, 4, 5, 6, 7, 8, 9, 10, 11, 12, 13, 14, 15, 16, 17, 18] (lv' := [(17, .long (gSm m n (i69 + 1))), (15, .long (fSm m n (i69 + 1))), (13, .int (gre (mR m n).1 (mLo m n) (i69 + 1))), (14, .int (hvy (mR m n).1 (mLo m n) (i69 + 1))), (12, .int (smL (mLo m n) (i69 + 1))), (11, .int (cntI (mOv m n) (i69 + 1))), (10, .int (cntI (mBe m n) (i69 + 1))), (9, .int (cntI (stb (mT m) 0 n) (i69 + 1))), (24, .long (frc m n i69)), (22, .long (prs m n i69)), (21, .int (bI (bea m n i69))), (20, .int (mLo m n i69)), (19, .int (nI i69)), (7, .long (mBa m n 2)), (5, .long (mBa m n 1)), (3, .long (mBa m n 0)), (2, .int (bI (mR m n).1)), (1, .int (nI n)), (0, .ref x)]) rfl ?_
                          exact hJ351 w51 H51 P51
                      refine j_bif_ne C dL_sound_291 (tgt := 299) (by decide) (fun h291 => ?_) (fun h291 => ?_)
                      · refine j_sub [0, 1, 2, 3, 4, 5, 6, 7, 8, 9, 10, 11, 12, 13, 14, 15, 16, 17, 18] (lv' := [(17, .long (gSm m n (i69 + 1))), (15, .long (fSm m n (i69 + 1))), (13, .int (gre (mR m n).1 (mLo m n) (i69 + 1))), (14, .int (hvy (mR m n).1 (mLo m n) (i69 + 1))), (12, .int (smL (mLo m n) (i69 + 1))), (11, .int (cntI (mOv m n) (i69 + 1))), (10, .int (cntI (mBe m n) (i69 + 1))), (9, .int (cntI (stb (mT m) 0 n) (i69 + 1))), (24, .long (frc m n i69)), (22, .long (prs m n i69)), (21, .int (bI (bea m n i69))), (20, .int (mLo m n i69)), (19, .int (nI i69)), (7, .long (mBa m n 2)), (5, .long (mBa m n 1)), (3, .long (mBa m n 0)), (2, .int (bI (mR m n).1)), (1, .int (nI n)), (0, .ref x)]) rfl ?_
                        exact hJ299 w41j H41j P41j
                      · refine j_iload C 11 dL_sound_294 rfl ?_
                        refine j_if_ne C dL_sound_296 (tgt := 426) (by decide) (fun h => absurd (so_nb hn hV hi69 h291) h) (fun _ => ?_)
                        refine j_sub [0, 1, 2, 3, 4, 5, 6, 7, 8, 9, 10, 11, 12, 13, 14, 15, 16, 17, 18] (lv' := [(17, .long (gSm m n (i69 + 1))), (15, .long (fSm m n (i69 + 1))), (13, .int (gre (mR m n).1 (mLo m n) (i69 + 1))), (14, .int (hvy (mR m n).1 (mLo m n) (i69 + 1))), (12, .int (smL (mLo m n) (i69 + 1))), (11, .int (cntI (mOv m n) (i69 + 1))), (10, .int (cntI (mBe m n) (i69 + 1))), (9, .int (cntI (stb (mT m) 0 n) (i69 + 1))), (24, .long (frc m n i69)), (22, .long (prs m n i69)), (21, .int (bI (bea m n i69))), (20, .int (mLo m n i69)), (19, .int (nI i69)), (7, .long (mBa m n 2)), (5, .long (mBa m n 1)), (3, .long (mBa m n 0)), (2, .int (bI (mR m n).1)), (1, .int (nI n)), (0, .ref x)]) rfl ?_
                        exact hJ299 w41j H41j P41j
                    refine j_bif_eq C dL_sound_263 (tgt := 280) (by decide) (fun h263 => ?_) (fun h263 => ?_)
                    · refine j_lconst C (v := (0 : Int64)) dL_sound_280 rfl ?_
                      refine j_eql (y := if bea m n i69 = true then frc m n i69 * (mP m i69).toInt64 else 0) (by rw [if_neg (by rw [h263]; decide)]) ?_
                      refine j_sub [0, 1, 2, 3, 4, 5, 6, 7, 8, 9, 10, 11, 12, 13, 14, 15, 16, 17, 18] (lv' := [(15, .long (fSm m n (i69 + 1))), (13, .int (gre (mR m n).1 (mLo m n) (i69 + 1))), (14, .int (hvy (mR m n).1 (mLo m n) (i69 + 1))), (12, .int (smL (mLo m n) (i69 + 1))), (11, .int (cntI (mOv m n) (i69 + 1))), (10, .int (cntI (mBe m n) (i69 + 1))), (9, .int (cntI (stb (mT m) 0 n) (i69 + 1))), (24, .long (frc m n i69)), (22, .long (prs m n i69)), (21, .int (bI (bea m n i69))), (20, .int (mLo m n i69)), (19, .int (nI i69)), (17, .long (gSm m n i69)), (7, .long (mBa m n 2)), (5, .long (mBa m n 1)), (3, .long (mBa m n 0)), (2, .int (bI (mR m n).1)), (1, .int (nI n)), (0, .ref x)]) rfl ?_
                      exact hJ281 w40j H40j P40j
                    · refine j_lload C 7 dL_sound_266 rfl ?_
                      refine j_aload_n C 18 dL_sound_268 rfl rfl ?_
                      refine j_iload C 11 dL_sound_269 rfl ?_
                      refine j_iconst C (v := (0 : Int32)) dL_sound_271 rfl ?_
                      refine jw_i C KT (As := [.ref x, .int (nI i69), .int (0 : Int32)]) (rest := [.long (frc m n i69), .long (gSm m n i69)]) (lb_block (xl X) hst D H40j i69 (by assumption) 0 (by decide)) mw_block my_block gL_sound_L_block rfl (Nat.le_of_ble_eq_true rfl) (Nat.le_of_ble_eq_true rfl) (Nat.le_of_ble_eq_true rfl) (Nat.le_of_ble_eq_true rfl) rfl (Nat.le_of_ble_eq_true rfl) dL_sound_272 (fun _ _ h => h.2.2) ?_
                      rintro _ w52 ⟨rfl, H52, p52⟩
                      have P52 := wp_tr P40j p52
                      refine j_eqi (y := mP m i69) (bl_0 m n i69) ?_
                      refine j_i2l C dL_sound_275 ?_
                      refine j_lmul C dL_sound_276 ?_
                      refine j_goto C dL_sound_277 (tgt := 281) (by decide) ?_
                      refine j_eql (y := if bea m n i69 = true then frc m n i69 * (mP m i69).toInt64 else 0) (by rw [if_pos h263]) ?_
                      refine j_sub [0, 1, 2, 3, 4, 5, 6, 7, 8, 9, 10, 11, 12, 13, 14, 15, 16, 17, 18] (lv' := [(15, .long (fSm m n (i69 + 1))), (13, .int (gre (mR m n).1 (mLo m n) (i69 + 1))), (14, .int (hvy (mR m n).1 (mLo m n) (i69 + 1))), (12, .int (smL (mLo m n) (i69 + 1))), (11, .int (cntI (mOv m n) (i69 + 1))), (10, .int (cntI (mBe m n) (i69 + 1))), (9, .int (cntI (stb (mT m) 0 n) (i69 + 1))), (24, .long (frc m n i69)), (22, .long (prs m n i69)), (21, .int (bI (bea m n i69))), (20, .int (mLo m n i69)), (19, .int (nI i69)), (17, .long (gSm m n i69)), (7, .long (mBa m n 2)), (5, .long (mBa m n 1)), (3, .long (mBa m n 0)), (2, .int (bI (mR m n).1)), (1, .int (nI n)), (0, .ref x)]) rfl ?_
                      exact hJ281 w52 H52 P52
                  refine j_bif_eq C dL_sound_247 (tgt := 255) (by decide) (fun h247 => ?_) (fun h247 => ?_)
                  · refine j_lconst C (v := (0 : Int64)) dL_sound_255 rfl ?_
                    refine j_eql (y := if bea m n i69 = true then frc m n i69 else 0) (by rw [if_neg (by rw [h247]; decide)]) ?_
                    refine j_sub [0, 1, 2, 3, 4, 5, 6, 7, 8, 9, 10, 11, 12, 13, 14, 15, 16, 17, 18] (lv' := [(13, .int (gre (mR m n).1 (mLo m n) (i69 + 1))), (14, .int (hvy (mR m n).1 (mLo m n) (i69 + 1))), (12, .int (smL (mLo m n) (i69 + 1))), (11, .int (cntI (mOv m n) (i69 + 1))), (10, .int (cntI (mBe m n) (i69 + 1))), (9, .int (cntI (stb (mT m) 0 n) (i69 + 1))), (24, .long (frc m n i69)), (22, .long (prs m n i69)), (21, .int (bI (bea m n i69))), (20, .int (mLo m n i69)), (19, .int (nI i69)), (17, .long (gSm m n i69)), (15, .long (fSm m n i69)), (7, .long (mBa m n 2)), (5, .long (mBa m n 1)), (3, .long (mBa m n 0)), (2, .int (bI (mR m n).1)), (1, .int (nI n)), (0, .ref x)]) rfl ?_
                    exact hJ256 w39j H39j P39j
                  · refine j_lload C 6 dL_sound_250 rfl ?_
                    refine j_goto C dL_sound_252 (tgt := 256) (by decide) ?_
                    refine j_eql (y := if bea m n i69 = true then frc m n i69 else 0) (by rw [if_pos h247]) ?_
                    refine j_sub [0, 1, 2, 3, 4, 5, 6, 7, 8, 9, 10, 11, 12, 13, 14, 15, 16, 17, 18] (lv' := [(13, .int (gre (mR m n).1 (mLo m n) (i69 + 1))), (14, .int (hvy (mR m n).1 (mLo m n) (i69 + 1))), (12, .int (smL (mLo m n) (i69 + 1))), (11, .int (cntI (mOv m n) (i69 + 1))), (10, .int (cntI (mBe m n) (i69 + 1))), (9, .int (cntI (stb (mT m) 0 n) (i69 + 1))), (24, .long (frc m n i69)), (22, .long (prs m n i69)), (21, .int (bI (bea m n i69))), (20, .int (mLo m n i69)), (19, .int (nI i69)), (17, .long (gSm m n i69)), (15, .long (fSm m n i69)), (7, .long (mBa m n 2)), (5, .long (mBa m n 1)), (3, .long (mBa m n 0)), (2, .int (bI (mR m n).1)), (1, .int (nI n)), (0, .ref x)]) rfl ?_
                    exact hJ256 w39j H39j P39j
                refine j_bif_eq C dL_sound_224 (tgt := 239) (by decide) (fun h224 => ?_) (fun h224 => ?_)
                · refine j_iload C 12 dL_sound_239 rfl ?_
                  refine j_eqi (y := gre (mR m n).1 (mLo m n) (i69 + 1)) (by rw [mos_s (mR m n).1 (by omega), if_neg (by rintro ⟨z, -⟩; rw [h224] at z; cases z)]) ?_
                  refine j_sub [0, 1, 2, 3, 4, 5, 6, 7, 8, 9, 10, 11, 12, 13, 14, 15, 16, 17, 18] (lv' := [(14, .int (hvy (mR m n).1 (mLo m n) (i69 + 1))), (12, .int (smL (mLo m n) (i69 + 1))), (11, .int (cntI (mOv m n) (i69 + 1))), (10, .int (cntI (mBe m n) (i69 + 1))), (9, .int (cntI (stb (mT m) 0 n) (i69 + 1))), (24, .long (frc m n i69)), (22, .long (prs m n i69)), (21, .int (bI (bea m n i69))), (20, .int (mLo m n i69)), (19, .int (nI i69)), (17, .long (gSm m n i69)), (15, .long (fSm m n i69)), (13, .int (gre (mR m n).1 (mLo m n) i69)), (7, .long (mBa m n 2)), (5, .long (mBa m n 1)), (3, .long (mBa m n 0)), (2, .int (bI (mR m n).1)), (1, .int (nI n)), (0, .ref x)]) rfl ?_
                  exact hJ241 w38j H38j P38j
                · refine j_iload C 0 dL_sound_227 rfl ?_
                  refine j_iload C 9 dL_sound_229 rfl ?_
                  refine j_icmp_ne C dL_sound_231 (tgt := 239) (by decide) (fun h231 => ?_) (fun h231 => ?_)
                  · refine j_iload C 12 dL_sound_239 rfl ?_
                    refine j_eqi (y := gre (mR m n).1 (mLo m n) (i69 + 1)) (by rw [mos_s (mR m n).1 (by omega), if_neg (fun z => h231 z.2)]) ?_
                    refine j_sub [0, 1, 2, 3, 4, 5, 6, 7, 8, 9, 10, 11, 12, 13, 14, 15, 16, 17, 18] (lv' := [(14, .int (hvy (mR m n).1 (mLo m n) (i69 + 1))), (12, .int (smL (mLo m n) (i69 + 1))), (11, .int (cntI (mOv m n) (i69 + 1))), (10, .int (cntI (mBe m n) (i69 + 1))), (9, .int (cntI (stb (mT m) 0 n) (i69 + 1))), (24, .long (frc m n i69)), (22, .long (prs m n i69)), (21, .int (bI (bea m n i69))), (20, .int (mLo m n i69)), (19, .int (nI i69)), (17, .long (gSm m n i69)), (15, .long (fSm m n i69)), (13, .int (gre (mR m n).1 (mLo m n) i69)), (7, .long (mBa m n 2)), (5, .long (mBa m n 1)), (3, .long (mBa m n 0)), (2, .int (bI (mR m n).1)), (1, .int (nI n)), (0, .ref x)]) rfl ?_
                    exact hJ241 w38j H38j P38j
                  · refine j_iload C 8 dL_sound_234 rfl ?_
                    refine j_goto C dL_sound_236 (tgt := 241) (by decide) ?_
                    refine j_eqi (y := gre (mR m n).1 (mLo m n) (i69 + 1)) (by rw [mos_s (mR m n).1 (by omega), if_pos ⟨h224, h231⟩]) ?_
                    refine j_sub [0, 1, 2, 3, 4, 5, 6, 7, 8, 9, 10, 11, 12, 13, 14, 15, 16, 17, 18] (lv' := [(14, .int (hvy (mR m n).1 (mLo m n) (i69 + 1))), (12, .int (smL (mLo m n) (i69 + 1))), (11, .int (cntI (mOv m n) (i69 + 1))), (10, .int (cntI (mBe m n) (i69 + 1))), (9, .int (cntI (stb (mT m) 0 n) (i69 + 1))), (24, .long (frc m n i69)), (22, .long (prs m n i69)), (21, .int (bI (bea m n i69))), (20, .int (mLo m n i69)), (19, .int (nI i69)), (17, .long (gSm m n i69)), (15, .long (fSm m n i69)), (13, .int (gre (mR m n).1 (mLo m n) i69)), (7, .long (mBa m n 2)), (5, .long (mBa m n 1)), (3, .long (mBa m n 0)), (2, .int (bI (mR m n).1)), (1, .int (nI n)), (0, .ref x)]) rfl ?_
                    exact hJ241 w38j H38j P38j
              refine j_bif_eq C dL_sound_199 (tgt := 219) (by decide) (fun h199 => ?_) (fun h199 => ?_)
              · refine j_iload C 11 dL_sound_219 rfl ?_
                refine j_eqi (y := hvy (mR m n).1 (mLo m n) (i69 + 1)) (by rw [top_s (mR m n).1 (by omega), if_neg (by rintro ⟨z, -⟩; rw [h199] at z; cases z)]) ?_
                refine j_sub [0, 1, 2, 3, 4, 5, 6, 7, 8, 9, 10, 11, 12, 13, 14, 15, 16, 17, 18] (lv' := [(12, .int (smL (mLo m n) (i69 + 1))), (11, .int (cntI (mOv m n) (i69 + 1))), (10, .int (cntI (mBe m n) (i69 + 1))), (9, .int (cntI (stb (mT m) 0 n) (i69 + 1))), (24, .long (frc m n i69)), (22, .long (prs m n i69)), (21, .int (bI (bea m n i69))), (20, .int (mLo m n i69)), (19, .int (nI i69)), (17, .long (gSm m n i69)), (15, .long (fSm m n i69)), (14, .int (hvy (mR m n).1 (mLo m n) i69)), (13, .int (gre (mR m n).1 (mLo m n) i69)), (7, .long (mBa m n 2)), (5, .long (mBa m n 1)), (3, .long (mBa m n 0)), (2, .int (bI (mR m n).1)), (1, .int (nI n)), (0, .ref x)]) rfl ?_
                exact hJ221 w37 H37 P37
              · refine j_iload C 11 dL_sound_202 rfl ?_
                refine j_if_lt C dL_sound_204 (tgt := 214) (by decide) (fun h204 => ?_) (fun h204 => ?_)
                · have h204' := Int32.not_le.mpr h204
                  refine j_iload C 8 dL_sound_214 rfl ?_
                  refine j_goto C dL_sound_216 (tgt := 221) (by decide) ?_
                  refine j_eqi (y := hvy (mR m n).1 (mLo m n) (i69 + 1)) (by rw [top_s (mR m n).1 (by omega), if_pos ⟨h199, Or.inl h204⟩]) ?_
                  refine j_sub [0, 1, 2, 3, 4, 5, 6, 7, 8, 9, 10, 11, 12, 13, 14, 15, 16, 17, 18] (lv' := [(12, .int (smL (mLo m n) (i69 + 1))), (11, .int (cntI (mOv m n) (i69 + 1))), (10, .int (cntI (mBe m n) (i69 + 1))), (9, .int (cntI (stb (mT m) 0 n) (i69 + 1))), (24, .long (frc m n i69)), (22, .long (prs m n i69)), (21, .int (bI (bea m n i69))), (20, .int (mLo m n i69)), (19, .int (nI i69)), (17, .long (gSm m n i69)), (15, .long (fSm m n i69)), (14, .int (hvy (mR m n).1 (mLo m n) i69)), (13, .int (gre (mR m n).1 (mLo m n) i69)), (7, .long (mBa m n 2)), (5, .long (mBa m n 1)), (3, .long (mBa m n 0)), (2, .int (bI (mR m n).1)), (1, .int (nI n)), (0, .ref x)]) rfl ?_
                  exact hJ221 w37 H37 P37
                · have h204' := Int32.not_lt.mp h204
                  refine j_iload C 7 dL_sound_207 rfl ?_
                  refine j_iload C 12 dL_sound_209 rfl ?_
                  refine j_icmp_le C dL_sound_211 (tgt := 219) (by decide) (fun h211 => ?_) (fun h211 => ?_)
                  · have h211' := Int32.not_lt.mpr h211
                    refine j_iload C 11 dL_sound_219 rfl ?_
                    refine j_eqi (y := hvy (mR m n).1 (mLo m n) (i69 + 1)) (by rw [top_s (mR m n).1 (by omega), if_neg (by rintro ⟨-, z | z⟩; exact h204 z; exact h211' z)]) ?_
                    refine j_sub [0, 1, 2, 3, 4, 5, 6, 7, 8, 9, 10, 11, 12, 13, 14, 15, 16, 17, 18] (lv' := [(12, .int (smL (mLo m n) (i69 + 1))), (11, .int (cntI (mOv m n) (i69 + 1))), (10, .int (cntI (mBe m n) (i69 + 1))), (9, .int (cntI (stb (mT m) 0 n) (i69 + 1))), (24, .long (frc m n i69)), (22, .long (prs m n i69)), (21, .int (bI (bea m n i69))), (20, .int (mLo m n i69)), (19, .int (nI i69)), (17, .long (gSm m n i69)), (15, .long (fSm m n i69)), (14, .int (hvy (mR m n).1 (mLo m n) i69)), (13, .int (gre (mR m n).1 (mLo m n) i69)), (7, .long (mBa m n 2)), (5, .long (mBa m n 1)), (3, .long (mBa m n 0)), (2, .int (bI (mR m n).1)), (1, .int (nI n)), (0, .ref x)]) rfl ?_
                    exact hJ221 w37 H37 P37
                  · have h211' := Int32.not_le.mp h211
                    refine j_iload C 8 dL_sound_214 rfl ?_
                    refine j_goto C dL_sound_216 (tgt := 221) (by decide) ?_
                    refine j_eqi (y := hvy (mR m n).1 (mLo m n) (i69 + 1)) (by rw [top_s (mR m n).1 (by omega), if_pos ⟨h199, Or.inr h211'⟩]) ?_
                    refine j_sub [0, 1, 2, 3, 4, 5, 6, 7, 8, 9, 10, 11, 12, 13, 14, 15, 16, 17, 18] (lv' := [(12, .int (smL (mLo m n) (i69 + 1))), (11, .int (cntI (mOv m n) (i69 + 1))), (10, .int (cntI (mBe m n) (i69 + 1))), (9, .int (cntI (stb (mT m) 0 n) (i69 + 1))), (24, .long (frc m n i69)), (22, .long (prs m n i69)), (21, .int (bI (bea m n i69))), (20, .int (mLo m n i69)), (19, .int (nI i69)), (17, .long (gSm m n i69)), (15, .long (fSm m n i69)), (14, .int (hvy (mR m n).1 (mLo m n) i69)), (13, .int (gre (mR m n).1 (mLo m n) i69)), (7, .long (mBa m n 2)), (5, .long (mBa m n 1)), (3, .long (mBa m n 0)), (2, .int (bI (mR m n).1)), (1, .int (nI n)), (0, .ref x)]) rfl ?_
                    exact hJ221 w37 H37 P37
            refine j_bif_eq C dL_sound_167 (tgt := 174) (by decide) (fun h167 => ?_) (fun h167 => ?_)
            · refine j_iconst C (v := (0 : Int32)) dL_sound_174 rfl ?_
              refine j_eqi (y := bI (bea m n i69)) (by rw [h167]; rfl) ?_
              refine j_sub [0, 1, 2, 3, 4, 5, 6, 7, 8, 9, 10, 11, 12, 13, 14, 15, 16, 17, 18] (lv' := [(9, .int (cntI (stb (mT m) 0 n) (i69 + 1))), (24, .long (frc m n i69)), (22, .long (prs m n i69)), (21, .int (bI (bea m n i69))), (20, .int (mLo m n i69)), (19, .int (nI i69)), (17, .long (gSm m n i69)), (15, .long (fSm m n i69)), (14, .int (hvy (mR m n).1 (mLo m n) i69)), (13, .int (gre (mR m n).1 (mLo m n) i69)), (12, .int (smL (mLo m n) i69)), (11, .int (cntI (mOv m n) i69)), (10, .int (cntI (mBe m n) i69)), (7, .long (mBa m n 2)), (5, .long (mBa m n 1)), (3, .long (mBa m n 0)), (2, .int (bI (mR m n).1)), (1, .int (nI n)), (0, .ref x)]) rfl ?_
              exact hJ175 w35j H35j P35j
            · refine j_iconst C (v := (1 : Int32)) dL_sound_170 rfl ?_
              refine j_goto C dL_sound_171 (tgt := 175) (by decide) ?_
              refine j_eqi (y := bI (bea m n i69)) (by rw [h167]; rfl) ?_
              refine j_sub [0, 1, 2, 3, 4, 5, 6, 7, 8, 9, 10, 11, 12, 13, 14, 15, 16, 17, 18] (lv' := [(9, .int (cntI (stb (mT m) 0 n) (i69 + 1))), (24, .long (frc m n i69)), (22, .long (prs m n i69)), (21, .int (bI (bea m n i69))), (20, .int (mLo m n i69)), (19, .int (nI i69)), (17, .long (gSm m n i69)), (15, .long (fSm m n i69)), (14, .int (hvy (mR m n).1 (mLo m n) i69)), (13, .int (gre (mR m n).1 (mLo m n) i69)), (12, .int (smL (mLo m n) i69)), (11, .int (cntI (mOv m n) i69)), (10, .int (cntI (mBe m n) i69)), (7, .long (mBa m n 2)), (5, .long (mBa m n 1)), (3, .long (mBa m n 0)), (2, .int (bI (mR m n).1)), (1, .int (nI n)), (0, .ref x)]) rfl ?_
              exact hJ175 w35j H35j P35j
          refine j_if_ne C dL_sound_152 (tgt := 159) (by decide) (fun h152 => ?_) (fun h152 => ?_)
          · refine j_iconst C (v := (0 : Int32)) dL_sound_159 rfl ?_
            refine j_eqi (y := bI (bt (stb (mT m) 0 n) i69)) (st_f hn hi69 h152) ?_
            refine j_sub [0, 1, 2, 3, 4, 5, 6, 7, 8, 9, 10, 11, 12, 13, 14, 15, 16, 17, 18] (lv' := [(24, .long (frc m n i69)), (22, .long (prs m n i69)), (21, .int (bI (bea m n i69))), (20, .int (mLo m n i69)), (19, .int (nI i69)), (17, .long (gSm m n i69)), (15, .long (fSm m n i69)), (14, .int (hvy (mR m n).1 (mLo m n) i69)), (13, .int (gre (mR m n).1 (mLo m n) i69)), (12, .int (smL (mLo m n) i69)), (11, .int (cntI (mOv m n) i69)), (10, .int (cntI (mBe m n) i69)), (9, .int (cntI (stb (mT m) 0 n) i69)), (7, .long (mBa m n 2)), (5, .long (mBa m n 1)), (3, .long (mBa m n 0)), (2, .int (bI (mR m n).1)), (1, .int (nI n)), (0, .ref x)]) rfl ?_
            exact hJ160 w34 H34 P34
          · refine j_iconst C (v := (1 : Int32)) dL_sound_155 rfl ?_
            refine j_goto C dL_sound_156 (tgt := 160) (by decide) ?_
            refine j_eqi (y := bI (bt (stb (mT m) 0 n) i69)) (st_t hn hi69 h152) ?_
            refine j_sub [0, 1, 2, 3, 4, 5, 6, 7, 8, 9, 10, 11, 12, 13, 14, 15, 16, 17, 18] (lv' := [(24, .long (frc m n i69)), (22, .long (prs m n i69)), (21, .int (bI (bea m n i69))), (20, .int (mLo m n i69)), (19, .int (nI i69)), (17, .long (gSm m n i69)), (15, .long (fSm m n i69)), (14, .int (hvy (mR m n).1 (mLo m n) i69)), (13, .int (gre (mR m n).1 (mLo m n) i69)), (12, .int (smL (mLo m n) i69)), (11, .int (cntI (mOv m n) i69)), (10, .int (cntI (mBe m n) i69)), (9, .int (cntI (stb (mT m) 0 n) i69)), (7, .long (mBa m n 2)), (5, .long (mBa m n 1)), (3, .long (mBa m n 0)), (2, .int (bI (mR m n).1)), (1, .int (nI n)), (0, .ref x)]) rfl ?_
            exact hJ160 w34 H34 P34
        refine j_icmp_ne C dL_sound_93 (tgt := 100) (by decide) (fun h93 => ?_) (fun h93 => ?_)
        · refine j_iconst C (v := (0 : Int32)) dL_sound_100 rfl ?_
          refine j_eqi (y := bI (bea m n i69)) (bI_n1 h93) ?_
          refine j_sub [0, 1, 2, 3, 4, 5, 6, 7, 8, 9, 10, 11, 12, 13, 14, 15] (lv' := [(20, .int (mLo m n i69)), (19, .int (nI i69)), (17, .long (gSm m n i69)), (15, .long (fSm m n i69)), (14, .int (hvy (mR m n).1 (mLo m n) i69)), (13, .int (gre (mR m n).1 (mLo m n) i69)), (12, .int (smL (mLo m n) i69)), (11, .int (cntI (mOv m n) i69)), (10, .int (cntI (mBe m n) i69)), (9, .int (cntI (stb (mT m) 0 n) i69)), (7, .long (mBa m n 2)), (5, .long (mBa m n 1)), (3, .long (mBa m n 0)), (2, .int (bI (mR m n).1)), (1, .int (nI n)), (0, .ref x)]) rfl ?_
          exact hJ101 w29 H29 P29
        · refine j_iconst C (v := (1 : Int32)) dL_sound_96 rfl ?_
          refine j_goto C dL_sound_97 (tgt := 101) (by decide) ?_
          refine j_eqi (y := bI (bea m n i69)) h93.symm ?_
          refine j_sub [0, 1, 2, 3, 4, 5, 6, 7, 8, 9, 10, 11, 12, 13, 14, 15] (lv' := [(20, .int (mLo m n i69)), (19, .int (nI i69)), (17, .long (gSm m n i69)), (15, .long (fSm m n i69)), (14, .int (hvy (mR m n).1 (mLo m n) i69)), (13, .int (gre (mR m n).1 (mLo m n) i69)), (12, .int (smL (mLo m n) i69)), (11, .int (cntI (mOv m n) i69)), (10, .int (cntI (mBe m n) i69)), (9, .int (cntI (stb (mT m) 0 n) i69)), (7, .long (mBa m n 2)), (5, .long (mBa m n 1)), (3, .long (mBa m n 0)), (2, .int (bI (mR m n).1)), (1, .int (nI n)), (0, .ref x)]) rfl ?_
          exact hJ101 w29 H29 P29
    refine j_sub [0, 1, 2, 3, 4, 5, 6, 7, 8, 9, 10, 11, 12, 13, 14] (lv' := [(19, .int (nI 0)), (17, .long (0 : Int64)), (15, .long (0 : Int64)), (14, .int (hvy (mR m n).1 (mLo m n) 0)), (13, .int (gre (mR m n).1 (mLo m n) 0)), (12, .int (0 : Int32)), (11, .int (0 : Int32)), (10, .int (0 : Int32)), (9, .int (0 : Int32)), (7, .long (mBa m n 2)), (5, .long (mBa m n 1)), (3, .long (mBa m n 0)), (2, .int (bI (mR m n).1)), (1, .int (nI n)), (0, .ref x)]) rfl ?_
    exact hl69 0 (Nat.zero_le _) w6 H6 P6
  refine j_icmp_ne C dL_sound_13 (tgt := 20) (by decide) (fun h13 => ?_) (fun h13 => ?_)
  · refine j_iconst C (v := (0 : Int32)) dL_sound_20 rfl ?_
    refine j_eqi (y := bI (mR m n).1) (bI_n1 h13) ?_
    refine j_sub [0, 1] (lv' := [(1, .int (nI n)), (0, .ref x)]) rfl ?_
    exact hJ21 w2 H2 P2
  · refine j_iconst C (v := (1 : Int32)) dL_sound_16 rfl ?_
    refine j_goto C dL_sound_17 (tgt := 21) (by decide) ?_
    refine j_eqi (y := bI (mR m n).1) h13.symm ?_
    refine j_sub [0, 1] (lv' := [(1, .int (nI n)), (0, .ref x)]) rfl ?_
    exact hJ21 w2 H2 P2
