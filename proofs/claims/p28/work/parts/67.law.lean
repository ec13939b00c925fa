theorem inL_law_5 : ∀ w ∈ u_ws RX5 TX5 7, w ∈ wsL_law := by decide +kernel
theorem fnL_law_10 : FN wsL_law RL 10 5 7 [.null, .null, .null, .null, .null, .null, .null] := ⟨RX5, TX5, tyX5, rfl, inL_law_5, tyX5_ok, by decide +kernel, by decide +kernel, by decide +kernel, by decide +kernel⟩
theorem mfX5_init : MF yX5_init wsX5_init cX5_init 1 none 0 := ⟨⟨_, rfl⟩, by decide +kernel, by decide +kernel, by decide +kernel⟩
theorem m_law_ml_init : (Cond.methodLink RL 137 yX5_init : Cond) ∈ wsL_law := by decide +kernel
theorem m_law_im_init : (Cond.instanceMethod yX5_init : Cond) ∈ wsL_law := by decide +kernel
theorem m_law_in_5 : (Cond.initialized RX5 : Cond) ∈ wsL_law := by decide +kernel
set_option maxRecDepth 100000 in
set_option maxHeartbeats 8000000 in
theorem law_begin {D : KD} {X : KX} (C : Cx D X cL_law RL wsL_law 11 430 600104 7301314 13) (hst : (xl X).stackTraces = false) (KT : kXs (xA X) (xs X)) {b0 L0 : Nat} {z : Nat → Int32} (SC : kScr X b0 L0 z) (hexit : ∀ (w : va_W) (lv : List (Nat × Value)) (kk nn : Nat), kk ≤ 600104 → nn ≤ 7301314 → J D X w kk nn 739 lv [.int 1]) : J D X [] 0 0 0 [(0, .ref b0)] [] := by
  refine j_new C fnL_law_10 (Nat.le_of_ble_eq_true rfl) (Nat.le_of_ble_eq_true rfl) dL_law_0 (fun x => ?_)
  refine j_w (w' := [(x, .inr (5, [.null, .null, .null, .null, .null, .null, .null]))]) rfl ?_
  refine j_dup C dL_law_3 rfl ?_
  refine j_ci_v C (As := []) (rest := [.ref x]) (lc_init (xl X) D x) mfX5_init gL_law_X5_init rfl rfl m_law_ml_init m_law_im_init m_law_in_5 (Nat.le_of_ble_eq_true rfl) (Nat.le_of_ble_eq_true rfl) (Nat.le_of_ble_eq_true rfl) (Nat.le_of_ble_eq_true rfl) [0] rfl rfl rfl (Nat.le_of_ble_eq_true rfl) dL_law_4 ?_
  rintro _ ⟨H, fs, w2, rfl⟩
  refine ⟨rfl, ?_⟩
  refine j_w (w' := (x, .inr (5, fs)) :: w2) (by first | rfl | (simp only [kPut, List.set, List.cons_append, List.nil_append])) ?_
  refine j_astore_n C dL_law_7 rfl (by decide) (lv' := [(1, .ref x), (0, .ref b0)]) rfl ?_
  refine j_aload_n C 0 dL_law_8 rfl rfl ?_
  refine jw_p C KT (As := [.ref x]) (rest := []) (lw_refuses (xl X) hst D H) mfL_refuses gL_law_L_refuses rfl (Nat.le_of_ble_eq_true rfl) (Nat.le_of_ble_eq_true rfl) (by omega) (by omega) rfl (Nat.le_of_ble_eq_true rfl) dL_law_9 (fun _ _ h => h.2.2) ?_
  rintro _ w1 ⟨rfl, H1, p1⟩
  refine j_if_eq C dL_law_12 (tgt := 53) (by decide) (fun h => absurd h (by decide)) (fun _ => ?_)
  refine j_aload_n C 0 dL_law_15 rfl rfl ?_
  refine jw_i C KT (As := [.ref x]) (rest := []) (lb_undoX (xl X) hst D H1) mw_undo my_undo gL_law_L_undo rfl (Nat.le_of_ble_eq_true rfl) (Nat.le_of_ble_eq_true rfl) (by omega) (by omega) rfl (Nat.le_of_ble_eq_true rfl) dL_law_16 (fun _ _ h => h.2.2) ?_
  rintro _ w2 ⟨rfl, H2, p2⟩
  refine j_ldc C k_law_20 dL_law_19 ?_
  refine j_icmp_ne C dL_law_21 (tgt := 53) (by decide) (fun h => absurd rfl h) (fun _ => ?_)
  refine j_aload_n C 0 dL_law_24 rfl rfl ?_
  refine jw_p C KT (As := [.ref x]) (rest := []) (lw_sound (xl X) hst D H2) mfL_sound gL_law_L_sound rfl (Nat.le_of_ble_eq_true rfl) (Nat.le_of_ble_eq_true rfl) (by omega) (by omega) rfl (Nat.le_of_ble_eq_true rfl) dL_law_25 (fun _ _ h => h.2.2) ?_
  rintro _ w3 ⟨rfl, H3, p3⟩
  refine j_if_eq C dL_law_28 (tgt := 53) (by decide) (fun h => absurd h (by decide)) (fun _ => ?_)
  refine j_aload_n C 0 dL_law_31 rfl rfl ?_
  refine j_iconst C (v := (0 : Int32)) dL_law_32 rfl ?_
  refine jw_i C KT (As := [.ref x, .int (0 : Int32)]) (rest := []) (lb_value (xl X) hst D H3 0 (by decide)) mw_value my_value gL_law_L_value rfl (Nat.le_of_ble_eq_true rfl) (Nat.le_of_ble_eq_true rfl) (by omega) (by omega) rfl (Nat.le_of_ble_eq_true rfl) dL_law_33 (fun _ _ h => h.2.2) ?_
  rintro _ w4 ⟨rfl, H4, p4⟩
  refine j_eqi (y := mIn 0) (vl_0 mIn 0) ?_
  refine j_sipush C (v := (1000 : Int32)) dL_law_36 rfl ?_
  refine j_icmp_ne C dL_law_39 (tgt := 53) (by decide) (fun h => absurd rfl h) (fun _ => ?_)
  refine j_aload_n C 0 dL_law_42 rfl rfl ?_
  refine j_iconst C (v := (1 : Int32)) dL_law_43 rfl ?_
  refine jw_i C KT (As := [.ref x, .int (1 : Int32)]) (rest := []) (lb_value (xl X) hst D H4 1 (by decide)) mw_value my_value gL_law_L_value rfl (Nat.le_of_ble_eq_true rfl) (Nat.le_of_ble_eq_true rfl) (by omega) (by omega) rfl (Nat.le_of_ble_eq_true rfl) dL_law_44 (fun _ _ h => h.2.2) ?_
  rintro _ w5 ⟨rfl, H5, p5⟩
  refine j_eqi (y := mIn 1) (vl_1 mIn 0) ?_
  refine j_sipush C (v := (200 : Int32)) dL_law_47 rfl ?_
  refine j_icmp_eq C dL_law_50 (tgt := 55) (by decide) (fun _ => ?_) (fun h => absurd rfl h)
  refine j_iconst C (v := (0 : Int32)) dL_law_55 rfl ?_
  refine j_istore_n C dL_law_56 rfl (by decide) (lv' := [(2, .int (0 : Int32)), (1, .ref x), (0, .ref b0)]) rfl ?_
  have hl57 : ∀ i57, i57 ≤ 36 → ∀ (m : Pg) (n : Nat) (h : Hs) (w : va_W), LW D x m n h w → min i57 5 ≤ n → J D X w (60 + 60 * i57 + 0) (700 + 900 * i57 + 0) 57 [(2, .int (nI i57)), (1, .ref x), (0, .ref b0)] [] := by
    refine for_up 36 ?_ ?_
    · intro m n h w H hmin
      obtain ⟨hn, hc, hV, hl4⟩ := H.fc
      refine j_iload_n C 0 dL_law_57 rfl rfl ?_
      refine j_bipush C (v := (36 : Int32)) dL_law_58 rfl ?_
      refine j_icmp_ge C dL_law_60 (tgt := 700) (by decide) (fun _ => ?_) (fun h => absurd (by decide) h)
      refine j_aload_n C 1 dL_law_700 rfl rfl ?_
      refine jw_p C KT (As := [.ref x]) (rest := []) (lw_refuses (xl X) hst D H) mfL_refuses gL_law_L_refuses rfl (Nat.le_of_ble_eq_true rfl) (Nat.le_of_ble_eq_true rfl) (by omega) (by omega) rfl (Nat.le_of_ble_eq_true rfl) dL_law_701 (fun _ _ h => h.2.2) ?_
      rintro _ w6 ⟨rfl, H6, p6⟩
      refine j_if_eq C dL_law_704 (tgt := 738) (by decide) (fun h => absurd h (by decide)) (fun _ => ?_)
      refine j_aload_n C 1 dL_law_707 rfl rfl ?_
      refine jw_p C KT (As := [.ref x]) (rest := []) (lw_cascades (xl X) hst D H6) mfL_cascades gL_law_L_cascades rfl (Nat.le_of_ble_eq_true rfl) (Nat.le_of_ble_eq_true rfl) (by omega) (by omega) rfl (Nat.le_of_ble_eq_true rfl) dL_law_708 (fun _ _ h => h.2.2) ?_
      rintro _ w7 ⟨rfl, ⟨h7, H7⟩, p7⟩
      refine j_if_eq C dL_law_711 (tgt := 738) (by decide) (fun h => absurd h (by decide)) (fun _ => ?_)
      refine j_aload_n C 1 dL_law_714 rfl rfl ?_
      refine j_aload_n C 2 dL_law_715 rfl rfl ?_
      refine j_bipush C (v := (99 : Int32)) dL_law_716 rfl ?_
      refine jw_s C SC (As := [.ref b0, .int (99 : Int32)]) (rest := [.ref x]) (lb_lot (xl X) D b0 L0 z (99 : Int32) (by decide)) mfL_lot gL_law_L_lot rfl (Nat.le_of_ble_eq_true rfl) (Nat.le_of_ble_eq_true rfl) (by omega) (by omega) rfl (Nat.le_of_ble_eq_true rfl) dL_law_718 (fun v718 => ?_)
      refine jw_p C KT (As := [.ref x, .int v718]) (rest := []) (lw_bests (xl X) hst D H7 v718) mfL_bests gL_law_L_bests rfl (Nat.le_of_ble_eq_true rfl) (Nat.le_of_ble_eq_true rfl) (by omega) (by omega) rfl (Nat.le_of_ble_eq_true rfl) dL_law_721 (fun _ _ h => h.2.2) ?_
      rintro _ w9 ⟨rfl, ⟨h9, H9⟩, p9⟩
      refine j_if_eq C dL_law_724 (tgt := 738) (by decide) (fun h => absurd h (by decide)) (fun _ => ?_)
      refine j_aload_n C 1 dL_law_727 rfl rfl ?_
      refine jw_p C KT (As := [.ref x]) (rest := []) (lw_shaving (xl X) hst D H9) mfL_shaving gL_law_L_shaving rfl (Nat.le_of_ble_eq_true rfl) (Nat.le_of_ble_eq_true rfl) (by omega) (by omega) rfl (Nat.le_of_ble_eq_true rfl) dL_law_728 (fun _ _ h => h.2.2) ?_
      rintro _ w10 ⟨rfl, ⟨m10, h10, H10⟩, p10⟩
      refine j_if_eq C dL_law_731 (tgt := 738) (by decide) (fun h => absurd h (by decide)) (fun _ => ?_)
      refine j_iconst C (v := (1 : Int32)) dL_law_734 rfl ?_
      refine j_goto C dL_law_735 (tgt := 739) (by decide) ?_
      exact hexit _ _ _ _ (by omega) (by omega)
    · intro i57 hi57 ih57 m n h w H hmin
      obtain ⟨hn, hc, hV, hl4⟩ := H.fc
      refine j_iload_n C 0 dL_law_57 rfl rfl ?_
      refine j_bipush C (v := (36 : Int32)) dL_law_58 rfl ?_
      refine j_icmp_ge C dL_law_60 (tgt := 700) (by decide) (fun h => absurd h (nI_ge (b := 36) hi57 (by decide))) (fun _ => ?_)
      refine j_aload_n C 2 dL_law_63 rfl rfl ?_
      refine j_iconst C (v := (2 : Int32)) dL_law_64 rfl ?_
      refine j_iload_n C 0 dL_law_65 rfl rfl ?_
      refine j_imul C dL_law_66 ?_
      refine j_eqi (y := nI (2 * i57)) (pk_mul 2 i57) ?_
      refine jw_s C SC (As := [.ref b0, .int (nI (2 * i57))]) (rest := []) (lb_lot (xl X) D b0 L0 z (nI (2 * i57)) (nI_pos (by omega))) mfL_lot gL_law_L_lot rfl (Nat.le_of_ble_eq_true rfl) (Nat.le_of_ble_eq_true rfl) (by omega) (by omega) rfl (Nat.le_of_ble_eq_true rfl) dL_law_67 (fun v67 => ?_)
      refine j_istore_n C dL_law_70 rfl (by decide) (lv' := [(3, .int v67), (2, .int (nI i57)), (1, .ref x), (0, .ref b0)]) rfl ?_
      refine j_aload_n C 3 dL_law_71 rfl rfl ?_
      refine j_iconst C (v := (2 : Int32)) dL_law_72 rfl ?_
      refine j_iload_n C 1 dL_law_73 rfl rfl ?_
      refine j_imul C dL_law_74 ?_
      refine j_eqi (y := nI (2 * i57)) (pk_mul 2 i57) ?_
      refine j_iconst C (v := (1 : Int32)) dL_law_75 rfl ?_
      refine j_iadd C dL_law_76 ?_
      refine j_eqi (y := nI ((2 * i57) + 1)) (nI_add (2 * i57) 1) ?_
      refine jw_s C SC (As := [.ref b0, .int (nI ((2 * i57) + 1))]) (rest := []) (lb_lot (xl X) D b0 L0 z (nI ((2 * i57) + 1)) (nI_pos (by omega))) mfL_lot gL_law_L_lot rfl (Nat.le_of_ble_eq_true rfl) (Nat.le_of_ble_eq_true rfl) (by omega) (by omega) rfl (Nat.le_of_ble_eq_true rfl) dL_law_77 (fun v77 => ?_)
      refine j_istore C dL_law_80 (by decide) (lv' := [(4, .int v77), (3, .int v67), (2, .int (nI i57)), (1, .ref x), (0, .ref b0)]) rfl ?_
      refine j_aload_n C 3 dL_law_82 rfl rfl ?_
      refine j_iconst C (v := (2 : Int32)) dL_law_83 rfl ?_
      refine jw_i C KT (As := [.ref x, .int (2 : Int32)]) (rest := []) (lb_value (xl X) hst D H 2 (by decide)) mw_value my_value gL_law_L_value rfl (Nat.le_of_ble_eq_true rfl) (Nat.le_of_ble_eq_true rfl) (by omega) (by omega) rfl (Nat.le_of_ble_eq_true rfl) dL_law_84 (fun _ _ h => h.2.2) ?_
      rintro _ w13 ⟨rfl, H13, p13⟩
      refine j_eqi (y := nI n) H13.fc.2.1 ?_
      refine j_istore C dL_law_87 (by decide) (lv' := [(5, .int (nI n)), (4, .int v77), (3, .int v67), (2, .int (nI i57)), (1, .ref x), (0, .ref b0)]) rfl ?_
      refine j_iload_n C 3 dL_law_89 rfl rfl ?_
      refine j_iconst C (v := (5 : Int32)) dL_law_90 rfl ?_
      have hJ104 : ∀ (hw : Nat) (hhw : hw < 14) (hh0 : i57 < 5 → hw = 0) (w14j : va_W), LW D x m n h w14j → J D X w14j (60 + 60 * i57 + 0) (700 + 900 * i57 + 0) 104 [(5, .int (nI n)), (4, .int v77), (3, .int v67), (2, .int (nI i57)), (1, .ref x), (0, .ref b0)] [.int (nI hw)] := by
        intro hw hhw hh0  w14j H14j
        refine j_istore C dL_law_104 (by decide) (lv' := [(6, .int (nI hw)), (5, .int (nI n)), (4, .int v77), (3, .int v67), (2, .int (nI i57)), (1, .ref x), (0, .ref b0)]) rfl ?_
        refine j_iload C 1 dL_law_106 rfl ?_
        have hJ123 : ∀ (kk : Nat) (hkk : 0 < n → kk < n) (w15j : va_W), LW D x m n h w15j → J D X w15j (60 + 60 * i57 + 0) (700 + 900 * i57 + 0) 123 [(6, .int (nI hw)), (5, .int (nI n)), (4, .int v77), (3, .int v67), (2, .int (nI i57)), (1, .ref x), (0, .ref b0)] [.int (nI kk)] := by
          intro kk hkk  w15j H15j
          refine j_istore C dL_law_123 (by decide) (lv' := [(7, .int (nI kk)), (6, .int (nI hw)), (5, .int (nI n)), (4, .int v77), (3, .int v67), (2, .int (nI i57)), (1, .ref x), (0, .ref b0)]) rfl ?_
          refine j_iload C 1 dL_law_125 rfl ?_
          refine j_iconst C (v := (2 : Int32)) dL_law_127 rfl ?_
          have hJ685 : ∀ (m1 : Pg) (n1 : Nat) (hn1 : min (i57 + 1) 5 ≤ n1) (g16j : Hs) (w16j : va_W), LW D x m1 n1 g16j w16j → J D X w16j (60 + 60 * i57 + 40) (700 + 900 * i57 + 600) 685 [(2, .int (nI i57)), (1, .ref x), (0, .ref b0)] [] := by
            intro m1 n1 hn1 g16j w16j H16j
            refine j_aload_n C 1 dL_law_685 rfl rfl ?_
            refine jw_p C KT (As := [.ref x]) (rest := []) (lw_sound (xl X) hst D H16j) mfL_sound gL_law_L_sound rfl (Nat.le_of_ble_eq_true rfl) (Nat.le_of_ble_eq_true rfl) (by omega) (by omega) rfl (Nat.le_of_ble_eq_true rfl) dL_law_686 (fun _ _ h => h.2.2) ?_
            rintro _ w17 ⟨rfl, H17, p17⟩
            refine j_if_ne C dL_law_689 (tgt := 694) (by decide) (fun _ => ?_) (fun h => absurd h (by decide))
            refine j_iinc C 0 dL_law_694 rfl (v := nI (i57 + 1)) (nI_1 _) (by decide) (lv' := [(2, .int (nI (i57 + 1))), (1, .ref x), (0, .ref b0)]) rfl ?_
            refine j_goto C dL_law_697 (tgt := 57) (by decide) ?_
            refine j_sub [0, 1, 2] (lv' := [(2, .int (nI (i57 + 1))), (1, .ref x), (0, .ref b0)]) rfl ?_
            refine j_widen (k' := (60 + 60 * (i57 + 1) + 0)) (n' := (700 + 900 * (i57 + 1) + 0)) (by omega) (by omega) ?_
            exact ih57 _ _ _ _ H17 (by omega)
          refine j_icmp_ge C dL_law_128 (tgt := 312) (by decide) (fun h128 => ?_) (fun h128 => ?_)
          · have h128' := Int32.not_lt.mpr h128
            have hi5 : 5 ≤ i57 := Nat.le_of_not_lt (fun z => absurd h128 (by rw [hh0 z]; decide))
            have hn5 : 5 ≤ n := by omega
            have hk : kk < n := hkk (by omega)
            refine j_iload C 1 dL_law_312 rfl ?_
            refine j_iconst C (v := (4 : Int32)) dL_law_314 rfl ?_
            refine j_icmp_ge C dL_law_315 (tgt := 407) (by decide) (fun h315 => ?_) (fun h315 => ?_)
            · have h315' := Int32.not_lt.mpr h315
              refine j_iload C 1 dL_law_407 rfl ?_
              refine j_bipush C (v := (6 : Int32)) dL_law_409 rfl ?_
              refine j_icmp_ge C dL_law_411 (tgt := 514) (by decide) (fun h411 => ?_) (fun h411 => ?_)
              · have h411' := Int32.not_lt.mpr h411
                refine j_iload C 1 dL_law_514 rfl ?_
                refine j_bipush C (v := (9 : Int32)) dL_law_516 rfl ?_
                refine j_icmp_ge C dL_law_518 (tgt := 539) (by decide) (fun h518 => ?_) (fun h518 => ?_)
                · have h518' := Int32.not_lt.mpr h518
                  refine j_iload C 1 dL_law_539 rfl ?_
                  refine j_bipush C (v := (9 : Int32)) dL_law_541 rfl ?_
                  refine j_icmp_ne C dL_law_543 (tgt := 619) (by decide) (fun h543 => ?_) (fun h543 => ?_)
                  · refine j_iload C 1 dL_law_619 rfl ?_
                    refine j_bipush C (v := (10 : Int32)) dL_law_621 rfl ?_
                    refine j_icmp_ne C dL_law_623 (tgt := 651) (by decide) (fun h623 => ?_) (fun h623 => ?_)
                    · refine j_iload C 1 dL_law_651 rfl ?_
                      refine j_bipush C (v := (11 : Int32)) dL_law_653 rfl ?_
                      refine j_icmp_ne C dL_law_655 (tgt := 667) (by decide) (fun h655 => ?_) (fun h655 => ?_)
                      · refine j_iload C 1 dL_law_667 rfl ?_
                        refine j_bipush C (v := (12 : Int32)) dL_law_669 rfl ?_
                        refine j_icmp_ne C dL_law_671 (tgt := 685) (by decide) (fun h671 => ?_) (fun h671 => ?_)
                        · refine j_sub [5, 6, 7] (lv' := [(2, .int (nI i57)), (1, .ref x), (0, .ref b0)]) rfl ?_
                          refine j_widen (k' := (60 + 60 * i57 + 40)) (n' := (700 + 900 * i57 + 600)) (by omega) (by omega) ?_
                          exact hJ685 _ _ (by omega) _ w15j H15j
                        · refine j_aload_n C 6 dL_law_674 rfl rfl ?_
                          refine j_iload C 3 dL_law_675 rfl ?_
                          refine jw_p C KT (As := [.ref x, .int v77]) (rest := []) (lw_bests (xl X) hst D H15j v77) mfL_bests gL_law_L_bests rfl (Nat.le_of_ble_eq_true rfl) (Nat.le_of_ble_eq_true rfl) (by omega) (by omega) rfl (Nat.le_of_ble_eq_true rfl) dL_law_677 (fun _ _ h => h.2.2) ?_
                          rintro _ w18 ⟨rfl, ⟨h18, H18⟩, p18⟩
                          refine j_if_ne C dL_law_680 (tgt := 685) (by decide) (fun _ => ?_) (fun h => absurd h (by decide))
                          refine j_sub [5, 6, 7] (lv' := [(2, .int (nI i57)), (1, .ref x), (0, .ref b0)]) rfl ?_
                          refine j_widen (k' := (60 + 60 * i57 + 40)) (n' := (700 + 900 * i57 + 600)) (by omega) (by omega) ?_
                          exact hJ685 _ _ (by omega) _ w18 H18
                      · refine j_aload_n C 6 dL_law_658 rfl rfl ?_
                        refine jw_p C KT (As := [.ref x]) (rest := []) (lw_shaving (xl X) hst D H15j) mfL_shaving gL_law_L_shaving rfl (Nat.le_of_ble_eq_true rfl) (Nat.le_of_ble_eq_true rfl) (by omega) (by omega) rfl (Nat.le_of_ble_eq_true rfl) dL_law_659 (fun _ _ h => h.2.2) ?_
                        rintro _ w19 ⟨rfl, ⟨m19, h19, H19⟩, p19⟩
                        refine j_if_ne C dL_law_662 (tgt := 685) (by decide) (fun _ => ?_) (fun h => absurd h (by decide))
                        refine j_sub [5, 6, 7] (lv' := [(2, .int (nI i57)), (1, .ref x), (0, .ref b0)]) rfl ?_
                        refine j_widen (k' := (60 + 60 * i57 + 40)) (n' := (700 + 900 * i57 + 600)) (by omega) (by omega) ?_
                        exact hJ685 _ _ (by omega) _ w19 H19
                    · refine j_aload_n C 6 dL_law_626 rfl rfl ?_
                      refine jw_p C KT (As := [.ref x]) (rest := []) (lw_cascades (xl X) hst D H15j) mfL_cascades gL_law_L_cascades rfl (Nat.le_of_ble_eq_true rfl) (Nat.le_of_ble_eq_true rfl) (by omega) (by omega) rfl (Nat.le_of_ble_eq_true rfl) dL_law_627 (fun _ _ h => h.2.2) ?_
                      rintro _ w20 ⟨rfl, ⟨h20, H20⟩, p20⟩
                      refine j_if_eq C dL_law_630 (tgt := 649) (by decide) (fun h => absurd h (by decide)) (fun _ => ?_)
                      refine j_iload C 3 dL_law_633 rfl ?_
                      refine j_iconst C (v := (2 : Int32)) dL_law_635 rfl ?_
                      refine jw_0 C (As := [.int v77, .int (2 : Int32)]) (rest := []) (lb_low (xl X) D v77 2 (by decide) (by decide)) mfL_low gL_law_L_low rfl (Nat.le_of_ble_eq_true rfl) (Nat.le_of_ble_eq_true rfl) (by omega) (by omega) rfl (Nat.le_of_ble_eq_true rfl) dL_law_636 (fun _ _ h => h.2) ?_
                      rintro _ ⟨⟨j636, hj636, rfl⟩, -⟩
                      refine j_if_ne C dL_law_639 (tgt := 685) (by decide) (fun h639 => ?_) (fun h639 => ?_)
                      · refine j_sub [5, 6, 7] (lv' := [(2, .int (nI i57)), (1, .ref x), (0, .ref b0)]) rfl ?_
                        refine j_widen (k' := (60 + 60 * i57 + 40)) (n' := (700 + 900 * i57 + 600)) (by omega) (by omega) ?_
                        exact hJ685 _ _ (by omega) _ w20 H20
                      · refine j_aload_n C 6 dL_law_642 rfl rfl ?_
                        refine jw_cv_i C (As := []) (rest := []) (lc_cascade (xl X) D H20) mfX5_cascade gL_law_X5_cascade rfl (Nat.le_of_ble_eq_true rfl) (Nat.le_of_ble_eq_true rfl) (by omega) (by omega) (H20).at0 rfl rfl (Nat.le_of_ble_eq_true rfl) dL_law_643 (fun _ _ h => h.2.2) ?_
                        rintro _ w22 ⟨rfl, H22, p22⟩
                        refine j_if_ge C dL_law_646 (tgt := 685) (by decide) (fun _ => ?_) (fun h => absurd (Int32.not_lt.mp (ca_told hn hV)) h)
                        refine j_sub [5, 6, 7] (lv' := [(2, .int (nI i57)), (1, .ref x), (0, .ref b0)]) rfl ?_
                        refine j_widen (k' := (60 + 60 * i57 + 40)) (n' := (700 + 900 * i57 + 600)) (by omega) (by omega) ?_
                        exact hJ685 _ _ (by omega) _ w22 H22
                  · refine j_aload_n C 6 dL_law_546 rfl rfl ?_
                    refine j_iload C 0 dL_law_547 rfl ?_
                    refine j_iconst C (v := (4 : Int32)) dL_law_549 rfl ?_
                    refine jw_i C KT (As := [.ref x, .int (nI kk), .int (4 : Int32)]) (rest := []) (lb_block (xl X) hst D H15j kk (by assumption) 4 (by decide)) mw_block my_block gL_law_L_block rfl (Nat.le_of_ble_eq_true rfl) (Nat.le_of_ble_eq_true rfl) (by omega) (by omega) rfl (Nat.le_of_ble_eq_true rfl) dL_law_550 (fun _ _ h => h.2.2) ?_
                    rintro _ w23 ⟨rfl, H23, p23⟩
                    refine j_eqi (y := mT m kk) (bl_4 m n kk) ?_
                    refine j_istore C dL_law_553 (by decide) (lv' := [(8, .int (mT m kk)), (7, .int (nI kk)), (6, .int (nI hw)), (5, .int (nI n)), (4, .int v77), (3, .int v67), (2, .int (nI i57)), (1, .ref x), (0, .ref b0)]) rfl ?_
                    by_cases hz : mT m kk = 0
                    · refine j_aload_n C 7 dL_law_555 rfl rfl ?_
                      refine j_iload C 1 dL_law_556 rfl ?_
                      refine jw_i C KT (As := [.ref x, .int (nI kk)]) (rest := []) (lb_putN (xl X) hst D H23 kk hk hz) mw_put my_put gL_law_L_put rfl (Nat.le_of_ble_eq_true rfl) (Nat.le_of_ble_eq_true rfl) (by omega) (by omega) rfl (Nat.le_of_ble_eq_true rfl) dL_law_558 (fun _ _ h => h.2.2) ?_
                      rintro _ w24 ⟨rfl, H24, p24⟩
                      refine j_istore C dL_law_561 (by decide) (lv' := [(9, .int (-9020000 : Int32)), (8, .int (mT m kk)), (7, .int (nI kk)), (6, .int (nI hw)), (5, .int (nI n)), (4, .int v77), (3, .int v67), (2, .int (nI i57)), (1, .ref x), (0, .ref b0)]) rfl ?_
                      refine j_iload C 1 dL_law_563 rfl ?_
                      refine j_if_ne C dL_law_565 (tgt := 578) (by decide) (fun h => absurd hz h) (fun _ => ?_)
                      refine j_iload C 0 dL_law_568 rfl ?_
                      refine j_ldc C k_law_20 dL_law_570 ?_
                      refine j_icmp_eq C dL_law_572 (tgt := 616) (by decide) (fun _ => ?_) (fun h => absurd (by decide) h)
                      refine j_goto C dL_law_616 (tgt := 685) (by decide) ?_
                      refine j_sub [7, 8, 9] (lv' := [(2, .int (nI i57)), (1, .ref x), (0, .ref b0)]) rfl ?_
                      refine j_widen (k' := (60 + 60 * i57 + 40)) (n' := (700 + 900 * i57 + 600)) (by omega) (by omega) ?_
                      exact hJ685 _ _ (by omega) _ w24 H24
                    · refine j_aload_n C 7 dL_law_555 rfl rfl ?_
                      refine j_iload C 1 dL_law_556 rfl ?_
                      refine jw_i C KT (As := [.ref x, .int (nI kk)]) (rest := []) (lb_put (xl X) hst D H23 kk hk hz) mw_put my_put gL_law_L_put rfl (Nat.le_of_ble_eq_true rfl) (Nat.le_of_ble_eq_true rfl) (by omega) (by omega) rfl (Nat.le_of_ble_eq_true rfl) dL_law_558 (fun _ _ h => h.2.2) ?_
                      rintro _ w25 ⟨rfl, H25, p25⟩
                      refine j_istore C dL_law_561 (by decide) (lv' := [(9, .int (mLd (mSt m kk 0) n kk)), (8, .int (mT m kk)), (7, .int (nI kk)), (6, .int (nI hw)), (5, .int (nI n)), (4, .int v77), (3, .int v67), (2, .int (nI i57)), (1, .ref x), (0, .ref b0)]) rfl ?_
                      refine j_iload C 1 dL_law_563 rfl ?_
                      refine j_if_ne C dL_law_565 (tgt := 578) (by decide) (fun _ => ?_) (fun h => absurd h hz)
                      refine j_aload_n C 8 dL_law_578 rfl rfl ?_
                      refine j_iload C 2 dL_law_579 rfl ?_
                      refine j_iconst C (v := (4 : Int32)) dL_law_581 rfl ?_
                      refine jw_i C KT (As := [.ref x, .int (nI kk), .int (4 : Int32)]) (rest := []) (lb_block (xl X) hst D H25 kk (by assumption) 4 (by decide)) mw_block my_block gL_law_L_block rfl (Nat.le_of_ble_eq_true rfl) (Nat.le_of_ble_eq_true rfl) (by omega) (by omega) rfl (Nat.le_of_ble_eq_true rfl) dL_law_582 (fun _ _ h => h.2.2) ?_
                      rintro _ w26 ⟨rfl, H26, p26⟩
                      refine j_eqi (y := mT (mSt m kk 0) kk) (bl_4 (mSt m kk 0) n kk) ?_
                      refine j_if_ne C dL_law_585 (tgt := 614) (by decide) (fun h => absurd ((mSt_T m kk kk 0).trans (if_pos rfl)) h) (fun _ => ?_)
                      refine j_iload C 0 dL_law_588 rfl ?_
                      refine j_aload_n C 8 dL_law_590 rfl rfl ?_
                      refine j_bipush C (v := (6 : Int32)) dL_law_591 rfl ?_
                      refine jw_i C KT (As := [.ref x, .int (6 : Int32)]) (rest := [.int (mLd (mSt m kk 0) n kk)]) (lb_value (xl X) hst D H26 6 (by decide)) mw_value my_value gL_law_L_value rfl (Nat.le_of_ble_eq_true rfl) (Nat.le_of_ble_eq_true rfl) (by omega) (by omega) rfl (Nat.le_of_ble_eq_true rfl) dL_law_593 (fun _ _ h => h.2.2) ?_
                      rintro _ w27 ⟨rfl, H27, p27⟩
                      refine j_eqi (y := bI (mR (mSt m kk 0) n).1) (vl_6 (mSt m kk 0) n) ?_
                      refine j_iconst C (v := (1 : Int32)) dL_law_596 rfl ?_
                      have hJ611 : ∀ (w28j : va_W), LW D x (mSt m kk 0) n (pu h m n) w28j → J D X w28j (60 + 60 * i57 + 6) (700 + 900 * i57 + 90) 611 [(9, .int (mLd (mSt m kk 0) n kk)), (8, .int (mT m kk)), (7, .int (nI kk)), (6, .int (nI hw)), (5, .int (nI n)), (4, .int v77), (3, .int v67), (2, .int (nI i57)), (1, .ref x), (0, .ref b0)] [.int (mLd (mSt m kk 0) n kk), .int (mLd (mSt m kk 0) n kk)] := by
                        intro  w28j H28j
                        refine j_icmp_eq C dL_law_611 (tgt := 616) (by decide) (fun _ => ?_) (fun h => absurd rfl h)
                        refine j_goto C dL_law_616 (tgt := 685) (by decide) ?_
                        refine j_sub [7, 8, 9] (lv' := [(2, .int (nI i57)), (1, .ref x), (0, .ref b0)]) rfl ?_
                        refine j_widen (k' := (60 + 60 * i57 + 40)) (n' := (700 + 900 * i57 + 600)) (by omega) (by omega) ?_
                        exact hJ685 _ _ (by omega) _ w28j H28j
                      refine j_icmp_ne C dL_law_597 (tgt := 610) (by decide) (fun h597 => ?_) (fun h597 => ?_)
                      · refine j_iconst C (v := (-1 : Int32)) dL_law_610 rfl ?_
                        refine j_eqi (y := mLd (mSt m kk 0) n kk) (by unfold mLd; rw [if_neg (fun z => h597 (by rw [z]; rfl))]) ?_
                        refine j_sub [0, 1, 2, 3, 4, 5, 6, 7, 8, 9] (lv' := [(9, .int (mLd (mSt m kk 0) n kk)), (8, .int (mT m kk)), (7, .int (nI kk)), (6, .int (nI hw)), (5, .int (nI n)), (4, .int v77), (3, .int v67), (2, .int (nI i57)), (1, .ref x), (0, .ref b0)]) rfl ?_
                        exact hJ611 w27 H27
                      · refine j_aload_n C 8 dL_law_600 rfl rfl ?_
                        refine j_iload C 2 dL_law_601 rfl ?_
                        refine j_iconst C (v := (5 : Int32)) dL_law_603 rfl ?_
                        refine jw_i C KT (As := [.ref x, .int (nI kk), .int (5 : Int32)]) (rest := [.int (mLd (mSt m kk 0) n kk)]) (lb_block (xl X) hst D H27 kk (by assumption) 5 (by decide)) mw_block my_block gL_law_L_block rfl (Nat.le_of_ble_eq_true rfl) (Nat.le_of_ble_eq_true rfl) (by omega) (by omega) rfl (Nat.le_of_ble_eq_true rfl) dL_law_604 (fun _ _ h => h.2.2) ?_
                        rintro _ w29 ⟨rfl, H29, p29⟩
                        refine j_eqi (y := mLo (mSt m kk 0) n kk) (bl_5 (mSt m kk 0) n kk) ?_
                        refine j_goto C dL_law_607 (tgt := 611) (by decide) ?_
                        refine j_eqi (y := mLd (mSt m kk 0) n kk) (by unfold mLd; rw [if_pos ((bI_eq1 _).mp h597)]) ?_
                        refine j_sub [0, 1, 2, 3, 4, 5, 6, 7, 8, 9] (lv' := [(9, .int (mLd (mSt m kk 0) n kk)), (8, .int (mT m kk)), (7, .int (nI kk)), (6, .int (nI hw)), (5, .int (nI n)), (4, .int v77), (3, .int v67), (2, .int (nI i57)), (1, .ref x), (0, .ref b0)]) rfl ?_
                        exact hJ611 w29 H29
                · have h518' := Int32.not_le.mp h518
                  refine j_aload_n C 6 dL_law_521 rfl rfl ?_
                  refine j_iload C 0 dL_law_522 rfl ?_
                  refine j_iload C 3 dL_law_524 rfl ?_
                  refine j_iload C 2 dL_law_526 rfl ?_
                  refine jw_0 C (As := [.int v77, .int (nI n)]) (rest := [.int (nI kk), .ref x]) (lb_low (xl X) D v77 n (by omega) (by omega)) mfL_low gL_law_L_low rfl (Nat.le_of_ble_eq_true rfl) (Nat.le_of_ble_eq_true rfl) (by omega) (by omega) rfl (Nat.le_of_ble_eq_true rfl) dL_law_528 (fun _ _ h => h.2) ?_
                  rintro _ ⟨⟨j528, hj528, rfl⟩, -⟩
                  refine jw_p C KT (As := [.ref x, .int (nI kk), .int (nI j528)]) (rest := []) (lw_pulls (xl X) hst D H15j kk hk j528 hj528) mfL_pulls gL_law_L_pulls rfl (Nat.le_of_ble_eq_true rfl) (Nat.le_of_ble_eq_true rfl) (by omega) (by omega) rfl (Nat.le_of_ble_eq_true rfl) dL_law_531 (fun _ _ h => h.2.2) ?_
                  rintro _ w31 ⟨rfl, ⟨m31, h31, H31⟩, p31⟩
                  refine j_if_ne C dL_law_534 (tgt := 685) (by decide) (fun _ => ?_) (fun h => absurd h (by decide))
                  refine j_sub [5, 6, 7] (lv' := [(2, .int (nI i57)), (1, .ref x), (0, .ref b0)]) rfl ?_
                  refine j_widen (k' := (60 + 60 * i57 + 40)) (n' := (700 + 900 * i57 + 600)) (by omega) (by omega) ?_
                  exact hJ685 _ _ (by omega) _ w31 H31
              · have h411' := Int32.not_le.mp h411
                refine j_aload_n C 6 dL_law_414 rfl rfl ?_
                refine j_iload C 0 dL_law_415 rfl ?_
                refine j_iconst C (v := (2 : Int32)) dL_law_417 rfl ?_
                refine jw_i C KT (As := [.ref x, .int (nI kk), .int (2 : Int32)]) (rest := []) (lb_block (xl X) hst D H15j kk (by assumption) 2 (by decide)) mw_block my_block gL_law_L_block rfl (Nat.le_of_ble_eq_true rfl) (Nat.le_of_ble_eq_true rfl) (by omega) (by omega) rfl (Nat.le_of_ble_eq_true rfl) dL_law_418 (fun _ _ h => h.2.2) ?_
                rintro _ w32 ⟨rfl, H32, p32⟩
                refine j_eqi (y := mH m kk) (bl_2 m n kk) ?_
                refine j_istore C dL_law_421 (by decide) (lv' := [(8, .int (mH m kk)), (7, .int (nI kk)), (6, .int (nI hw)), (5, .int (nI n)), (4, .int v77), (3, .int v67), (2, .int (nI i57)), (1, .ref x), (0, .ref b0)]) rfl ?_
                refine j_aload_n C 7 dL_law_423 rfl rfl ?_
                refine j_iload C 1 dL_law_424 rfl ?_
                refine j_iconst C (v := (3 : Int32)) dL_law_426 rfl ?_
                refine jw_i C KT (As := [.ref x, .int (nI kk), .int (3 : Int32)]) (rest := []) (lb_block (xl X) hst D H32 kk (by assumption) 3 (by decide)) mw_block my_block gL_law_L_block rfl (Nat.le_of_ble_eq_true rfl) (Nat.le_of_ble_eq_true rfl) (by omega) (by omega) rfl (Nat.le_of_ble_eq_true rfl) dL_law_427 (fun _ _ h => h.2.2) ?_
                rintro _ w33 ⟨rfl, H33, p33⟩
                refine j_eqi (y := mL m kk) (bl_3 m n kk) ?_
                refine j_istore C dL_law_430 (by decide) (lv' := [(9, .int (mL m kk)), (8, .int (mH m kk)), (7, .int (nI kk)), (6, .int (nI hw)), (5, .int (nI n)), (4, .int v77), (3, .int v67), (2, .int (nI i57)), (1, .ref x), (0, .ref b0)]) rfl ?_
                refine j_iload C 5 dL_law_432 rfl ?_
                refine j_bipush C (v := (31 : Int32)) dL_law_434 rfl ?_
                refine jw_0 C (As := [.int v77, .int (31 : Int32)]) (rest := []) (lb_low (xl X) D v77 31 (by decide) (by decide)) mfL_low gL_law_L_low rfl (Nat.le_of_ble_eq_true rfl) (Nat.le_of_ble_eq_true rfl) (by omega) (by omega) rfl (Nat.le_of_ble_eq_true rfl) dL_law_436 (fun _ _ h => h.2) ?_
                rintro _ ⟨⟨j436, hj436, rfl⟩, -⟩
                refine j_bipush C (v := (15 : Int32)) dL_law_439 rfl ?_
                refine j_isub C dL_law_441 ?_
                refine j_istore C dL_law_442 (by decide) (lv' := [(10, .int ((nI j436) - (15 : Int32))), (9, .int (mL m kk)), (8, .int (mH m kk)), (7, .int (nI kk)), (6, .int (nI hw)), (5, .int (nI n)), (4, .int v77), (3, .int v67), (2, .int (nI i57)), (1, .ref x), (0, .ref b0)]) rfl ?_
                refine j_iconst C (v := (1 : Int32)) dL_law_444 rfl ?_
                refine j_iload C 6 dL_law_445 rfl ?_
                refine j_bipush C (v := (6 : Int32)) dL_law_447 rfl ?_
                refine j_ishr C dL_law_449 ?_
                refine j_sipush C (v := (1200 : Int32)) dL_law_450 rfl ?_
                refine jw_0 C (As := [.int (v77 >>> ((6 : Int32) &&& 31)), .int (1200 : Int32)]) (rest := [.int (1 : Int32)]) (lb_low (xl X) D (v77 >>> ((6 : Int32) &&& 31)) 1200 (by decide) (by decide)) mfL_low gL_law_L_low rfl (Nat.le_of_ble_eq_true rfl) (Nat.le_of_ble_eq_true rfl) (by omega) (by omega) rfl (Nat.le_of_ble_eq_true rfl) dL_law_453 (fun _ _ h => h.2) ?_
                rintro _ ⟨⟨j453, hj453, rfl⟩, -⟩
                refine j_iadd C dL_law_456 ?_
                refine j_eqi (y := nI (1 + j453)) (nI_add 1 j453) ?_
                refine j_istore C dL_law_457 (by decide) (lv' := [(11, .int (nI (1 + j453))), (10, .int ((nI j436) - (15 : Int32))), (9, .int (mL m kk)), (8, .int (mH m kk)), (7, .int (nI kk)), (6, .int (nI hw)), (5, .int (nI n)), (4, .int v77), (3, .int v67), (2, .int (nI i57)), (1, .ref x), (0, .ref b0)]) rfl ?_
                refine j_aload_n C 10 dL_law_459 rfl rfl ?_
                refine j_iload C 4 dL_law_460 rfl ?_
                refine j_iload C 1 dL_law_462 rfl ?_
                refine jw_i C KT (As := [.ref x, .int (nI kk), .int ((nI j436) - (15 : Int32))]) (rest := []) (lb_setCap (xl X) hst D H33 kk hk (nI j436 - 15) (ck_cap2 j436 hj436)) mw_setCap my_setCap gL_law_L_setCap rfl (Nat.le_of_ble_eq_true rfl) (Nat.le_of_ble_eq_true rfl) (by omega) (by omega) rfl (Nat.le_of_ble_eq_true rfl) dL_law_464 (fun _ _ h => h.2.2) ?_
                rintro _ w36 ⟨rfl, H36, p36⟩
                refine j_iload C 3 dL_law_467 rfl ?_
                refine j_icmp_ne C dL_law_469 (tgt := 509) (by decide) (fun h => absurd rfl h) (fun _ => ?_)
                refine j_aload_n C 10 dL_law_472 rfl rfl ?_
                refine j_iload C 4 dL_law_473 rfl ?_
                refine j_iconst C (v := (2 : Int32)) dL_law_475 rfl ?_
                refine jw_i C KT (As := [.ref x, .int (nI kk), .int (2 : Int32)]) (rest := []) (lb_block (xl X) hst D H36 kk (by assumption) 2 (by decide)) mw_block my_block gL_law_L_block rfl (Nat.le_of_ble_eq_true rfl) (Nat.le_of_ble_eq_true rfl) (by omega) (by omega) rfl (Nat.le_of_ble_eq_true rfl) dL_law_476 (fun _ _ h => h.2.2) ?_
                rintro _ w37 ⟨rfl, H37, p37⟩
                refine j_eqi (y := mH (upd m (3 + 6 * kk + 2) (nI j436 - 15)) kk) (bl_2 (upd m (3 + 6 * kk + 2) (nI j436 - 15)) n kk) ?_
                refine j_iload C 1 dL_law_479 rfl ?_
                refine j_icmp_ne C dL_law_481 (tgt := 509) (by decide) (fun h => absurd pk_us h) (fun _ => ?_)
                refine j_aload_n C 10 dL_law_484 rfl rfl ?_
                refine j_iload C 4 dL_law_485 rfl ?_
                refine j_iload C 0 dL_law_487 rfl ?_
                refine jw_i C KT (As := [.ref x, .int (nI kk), .int (nI (1 + j453))]) (rest := []) (lb_setLimit (xl X) hst D H37 kk hk (nI (1 + j453)) (pIn_nI (a := 1) (b := 99999) (by omega) (by omega) (by decide))) mw_setLimit my_setLimit gL_law_L_setLimit rfl (Nat.le_of_ble_eq_true rfl) (Nat.le_of_ble_eq_true rfl) (by omega) (by omega) rfl (Nat.le_of_ble_eq_true rfl) dL_law_489 (fun _ _ h => h.2.2) ?_
                rintro _ w38 ⟨rfl, H38, p38⟩
                refine j_iload C 2 dL_law_492 rfl ?_
                refine j_icmp_ne C dL_law_494 (tgt := 509) (by decide) (fun h => absurd (pk_un (by omega)) h) (fun _ => ?_)
                refine j_aload_n C 10 dL_law_497 rfl rfl ?_
                refine j_iload C 4 dL_law_498 rfl ?_
                refine j_iconst C (v := (3 : Int32)) dL_law_500 rfl ?_
                refine jw_i C KT (As := [.ref x, .int (nI kk), .int (3 : Int32)]) (rest := []) (lb_block (xl X) hst D H38 kk (by assumption) 3 (by decide)) mw_block my_block gL_law_L_block rfl (Nat.le_of_ble_eq_true rfl) (Nat.le_of_ble_eq_true rfl) (by omega) (by omega) rfl (Nat.le_of_ble_eq_true rfl) dL_law_501 (fun _ _ h => h.2.2) ?_
                rintro _ w39 ⟨rfl, H39, p39⟩
                refine j_eqi (y := mL (upd (upd m (3 + 6 * kk + 2) (nI j436 - 15)) (3 + 6 * kk + 3) (nI (1 + j453))) kk) (bl_3 (upd (upd m (3 + 6 * kk + 2) (nI j436 - 15)) (3 + 6 * kk + 3) (nI (1 + j453))) n kk) ?_
                refine j_iload C 0 dL_law_504 rfl ?_
                refine j_icmp_eq C dL_law_506 (tgt := 511) (by decide) (fun _ => ?_) (fun h => absurd pk_us h)
                refine j_goto C dL_law_511 (tgt := 685) (by decide) ?_
                refine j_sub [9, 10, 11] (lv' := [(2, .int (nI i57)), (1, .ref x), (0, .ref b0)]) rfl ?_
                refine j_widen (k' := (60 + 60 * i57 + 40)) (n' := (700 + 900 * i57 + 600)) (by omega) (by omega) ?_
                exact hJ685 _ _ (by omega) _ w39 H39
            · have h315' := Int32.not_le.mp h315
              refine j_aload_n C 6 dL_law_318 rfl rfl ?_
              refine j_iconst C (v := (0 : Int32)) dL_law_319 rfl ?_
              refine jw_i C KT (As := [.ref x, .int (0 : Int32)]) (rest := []) (lb_value (xl X) hst D H15j 0 (by decide)) mw_value my_value gL_law_L_value rfl (Nat.le_of_ble_eq_true rfl) (Nat.le_of_ble_eq_true rfl) (by omega) (by omega) rfl (Nat.le_of_ble_eq_true rfl) dL_law_320 (fun _ _ h => h.2.2) ?_
              rintro _ w40 ⟨rfl, H40, p40⟩
              refine j_eqi (y := m 0) (vl_0 m n) ?_
              refine j_istore C dL_law_323 (by decide) (lv' := [(8, .int (m 0)), (7, .int (nI kk)), (6, .int (nI hw)), (5, .int (nI n)), (4, .int v77), (3, .int v67), (2, .int (nI i57)), (1, .ref x), (0, .ref b0)]) rfl ?_
              refine j_iconst C (v := (1 : Int32)) dL_law_325 rfl ?_
              refine j_iload C 4 dL_law_326 rfl ?_
              refine j_iload C 4 dL_law_328 rfl ?_
              refine j_bipush C (v := (20 : Int32)) dL_law_330 rfl ?_
              refine j_ishr C dL_law_332 ?_
              refine j_iconst C (v := (4 : Int32)) dL_law_333 rfl ?_
              refine jw_0 C (As := [.int (v77 >>> ((20 : Int32) &&& 31)), .int (4 : Int32)]) (rest := [.int v77, .int (1 : Int32)]) (lb_low (xl X) D (v77 >>> ((20 : Int32) &&& 31)) 4 (by decide) (by decide)) mfL_low gL_law_L_low rfl (Nat.le_of_ble_eq_true rfl) (Nat.le_of_ble_eq_true rfl) (by omega) (by omega) rfl (Nat.le_of_ble_eq_true rfl) dL_law_334 (fun _ _ h => h.2) ?_
              rintro _ ⟨⟨j334, hj334, rfl⟩, -⟩
              have hJ348 : ∀ (N : Nat) (hN0 : 0 < N) (hN : N ≤ 100000) (w42j : va_W), LW D x m n h w42j → J D X w42j (60 + 60 * i57 + 0) (700 + 900 * i57 + 0) 348 [(8, .int (m 0)), (7, .int (nI kk)), (6, .int (nI hw)), (5, .int (nI n)), (4, .int v77), (3, .int v67), (2, .int (nI i57)), (1, .ref x), (0, .ref b0)] [.int (nI N), .int v77, .int (1 : Int32)] := by
                intro N hN0 hN  w42j H42j
                refine jw_0 C (As := [.int v77, .int (nI N)]) (rest := [.int (1 : Int32)]) (lb_low (xl X) D v77 N hN0 (by omega)) mfL_low gL_law_L_low rfl (Nat.le_of_ble_eq_true rfl) (Nat.le_of_ble_eq_true rfl) (by omega) (by omega) rfl (Nat.le_of_ble_eq_true rfl) dL_law_348 (fun _ _ h => h.2) ?_
                rintro _ ⟨⟨j348, hj348, rfl⟩, -⟩
                refine j_iadd C dL_law_351 ?_
                refine j_eqi (y := nI (1 + j348)) (nI_add 1 j348) ?_
                refine j_istore C dL_law_352 (by decide) (lv' := [(9, .int (nI (1 + j348))), (8, .int (m 0)), (7, .int (nI kk)), (6, .int (nI hw)), (5, .int (nI n)), (4, .int v77), (3, .int v67), (2, .int (nI i57)), (1, .ref x), (0, .ref b0)]) rfl ?_
                refine j_bipush C (v := (80 : Int32)) dL_law_354 rfl ?_
                refine j_iload C 5 dL_law_356 rfl ?_
                refine j_iconst C (v := (5 : Int32)) dL_law_358 rfl ?_
                refine j_ishr C dL_law_359 ?_
                refine j_sipush C (v := (240 : Int32)) dL_law_360 rfl ?_
                refine jw_0 C (As := [.int (v77 >>> ((5 : Int32) &&& 31)), .int (240 : Int32)]) (rest := [.int (80 : Int32)]) (lb_low (xl X) D (v77 >>> ((5 : Int32) &&& 31)) 240 (by decide) (by decide)) mfL_low gL_law_L_low rfl (Nat.le_of_ble_eq_true rfl) (Nat.le_of_ble_eq_true rfl) (by omega) (by omega) rfl (Nat.le_of_ble_eq_true rfl) dL_law_363 (fun _ _ h => h.2) ?_
                rintro _ ⟨⟨j363, hj363, rfl⟩, -⟩
                refine j_iadd C dL_law_366 ?_
                refine j_eqi (y := nI (80 + j363)) (nI_add 80 j363) ?_
                refine j_istore C dL_law_367 (by decide) (lv' := [(10, .int (nI (80 + j363))), (9, .int (nI (1 + j348))), (8, .int (m 0)), (7, .int (nI kk)), (6, .int (nI hw)), (5, .int (nI n)), (4, .int v77), (3, .int v67), (2, .int (nI i57)), (1, .ref x), (0, .ref b0)]) rfl ?_
                refine j_aload_n C 9 dL_law_369 rfl rfl ?_
                refine j_iload C 1 dL_law_370 rfl ?_
                refine j_iload C 0 dL_law_372 rfl ?_
                refine jw_i C KT (As := [.ref x, .int (nI (1 + j348)), .int (nI (80 + j363))]) (rest := []) (lb_setShip (xl X) hst D H42j (nI (1 + j348)) (nI (80 + j363)) (by rw [show pIn (nI (1 + j348)) 1 100000 = true from pIn_nI (a := 1) (b := 100000) (by omega) (by omega) (by decide), show pIn (nI (80 + j363)) 0 400 = true from pIn_nI (a := 0) (b := 400) (by omega) (by omega) (by decide)]; rfl)) mw_setShip my_setShip gL_law_L_setShip rfl (Nat.le_of_ble_eq_true rfl) (Nat.le_of_ble_eq_true rfl) (by omega) (by omega) rfl (Nat.le_of_ble_eq_true rfl) dL_law_374 (fun _ _ h => h.2.2) ?_
                rintro _ w45 ⟨rfl, H45, p45⟩
                refine j_iload C 2 dL_law_377 rfl ?_
                refine j_icmp_ne C dL_law_379 (tgt := 402) (by decide) (fun h => absurd rfl h) (fun _ => ?_)
                refine j_aload_n C 9 dL_law_382 rfl rfl ?_
                refine j_iconst C (v := (0 : Int32)) dL_law_383 rfl ?_
                refine jw_i C KT (As := [.ref x, .int (0 : Int32)]) (rest := []) (lb_value (xl X) hst D H45 0 (by decide)) mw_value my_value gL_law_L_value rfl (Nat.le_of_ble_eq_true rfl) (Nat.le_of_ble_eq_true rfl) (by omega) (by omega) rfl (Nat.le_of_ble_eq_true rfl) dL_law_384 (fun _ _ h => h.2.2) ?_
                rintro _ w46 ⟨rfl, H46, p46⟩
                refine j_eqi (y := (upd (upd m 0 (nI (1 + j348))) 1 (nI (80 + j363))) 0) (vl_0 (upd (upd m 0 (nI (1 + j348))) 1 (nI (80 + j363))) n) ?_
                refine j_iload C 1 dL_law_387 rfl ?_
                refine j_icmp_ne C dL_law_389 (tgt := 402) (by decide) (fun h => absurd ((pk_un (by decide)).trans pk_us) h) (fun _ => ?_)
                refine j_aload_n C 9 dL_law_392 rfl rfl ?_
                refine j_iconst C (v := (1 : Int32)) dL_law_393 rfl ?_
                refine jw_i C KT (As := [.ref x, .int (1 : Int32)]) (rest := []) (lb_value (xl X) hst D H46 1 (by decide)) mw_value my_value gL_law_L_value rfl (Nat.le_of_ble_eq_true rfl) (Nat.le_of_ble_eq_true rfl) (by omega) (by omega) rfl (Nat.le_of_ble_eq_true rfl) dL_law_394 (fun _ _ h => h.2.2) ?_
                rintro _ w47 ⟨rfl, H47, p47⟩
                refine j_eqi (y := (upd (upd m 0 (nI (1 + j348))) 1 (nI (80 + j363))) 1) (vl_1 (upd (upd m 0 (nI (1 + j348))) 1 (nI (80 + j363))) n) ?_
                refine j_iload C 0 dL_law_397 rfl ?_
                refine j_icmp_eq C dL_law_399 (tgt := 404) (by decide) (fun _ => ?_) (fun h => absurd pk_us h)
                refine j_goto C dL_law_404 (tgt := 685) (by decide) ?_
                refine j_sub [8, 9, 10] (lv' := [(2, .int (nI i57)), (1, .ref x), (0, .ref b0)]) rfl ?_
                refine j_widen (k' := (60 + 60 * i57 + 40)) (n' := (700 + 900 * i57 + 600)) (by omega) (by omega) ?_
                exact hJ685 _ _ (by omega) _ w47 H47
              refine j_if_ne C dL_law_337 (tgt := 345) (by decide) (fun h337 => ?_) (fun h337 => ?_)
              · refine j_sipush C (v := (2500 : Int32)) dL_law_345 rfl ?_
                refine j_sub [0, 1, 2, 3, 4, 5, 6, 7, 8] (lv' := [(8, .int (m 0)), (7, .int (nI kk)), (6, .int (nI hw)), (5, .int (nI n)), (4, .int v77), (3, .int v67), (2, .int (nI i57)), (1, .ref x), (0, .ref b0)]) rfl ?_
                exact hJ348 2500 (by decide) (by decide) w40 H40
              · refine j_ldc C k_law_122 dL_law_340 ?_
                refine j_goto C dL_law_342 (tgt := 348) (by decide) ?_
                refine j_sub [0, 1, 2, 3, 4, 5, 6, 7, 8] (lv' := [(8, .int (m 0)), (7, .int (nI kk)), (6, .int (nI hw)), (5, .int (nI n)), (4, .int v77), (3, .int v67), (2, .int (nI i57)), (1, .ref x), (0, .ref b0)]) rfl ?_
                exact hJ348 100000 (by decide) (by decide) w40 H40
          · have h128' := Int32.not_le.mp h128
            refine j_iload C 3 dL_law_131 rfl ?_
            refine j_sipush C (v := (401 : Int32)) dL_law_133 rfl ?_
            refine jw_0 C (As := [.int v77, .int (401 : Int32)]) (rest := []) (lb_low (xl X) D v77 401 (by decide) (by decide)) mfL_low gL_law_L_low rfl (Nat.le_of_ble_eq_true rfl) (Nat.le_of_ble_eq_true rfl) (by omega) (by omega) rfl (Nat.le_of_ble_eq_true rfl) dL_law_136 (fun _ _ h => h.2) ?_
            rintro _ ⟨⟨j136, hj136, rfl⟩, -⟩
            refine j_istore C dL_law_139 (by decide) (lv' := [(8, .int (nI j136)), (7, .int (nI kk)), (6, .int (nI hw)), (5, .int (nI n)), (4, .int v77), (3, .int v67), (2, .int (nI i57)), (1, .ref x), (0, .ref b0)]) rfl ?_
            refine j_iconst C (v := (1 : Int32)) dL_law_141 rfl ?_
            refine j_iload C 4 dL_law_142 rfl ?_
            refine j_iconst C (v := (4 : Int32)) dL_law_144 rfl ?_
            refine j_ishr C dL_law_145 ?_
            refine j_bipush C (v := (100 : Int32)) dL_law_146 rfl ?_
            refine jw_0 C (As := [.int (v77 >>> ((4 : Int32) &&& 31)), .int (100 : Int32)]) (rest := [.int (1 : Int32)]) (lb_low (xl X) D (v77 >>> ((4 : Int32) &&& 31)) 100 (by decide) (by decide)) mfL_low gL_law_L_low rfl (Nat.le_of_ble_eq_true rfl) (Nat.le_of_ble_eq_true rfl) (by omega) (by omega) rfl (Nat.le_of_ble_eq_true rfl) dL_law_148 (fun _ _ h => h.2) ?_
            rintro _ ⟨⟨j148, hj148, rfl⟩, -⟩
            refine j_iadd C dL_law_151 ?_
            refine j_eqi (y := nI (1 + j148)) (nI_add 1 j148) ?_
            refine j_istore C dL_law_152 (by decide) (lv' := [(9, .int (nI (1 + j148))), (8, .int (nI j136)), (7, .int (nI kk)), (6, .int (nI hw)), (5, .int (nI n)), (4, .int v77), (3, .int v67), (2, .int (nI i57)), (1, .ref x), (0, .ref b0)]) rfl ?_
            refine j_iload C 5 dL_law_154 rfl ?_
            refine j_bipush C (v := (8 : Int32)) dL_law_156 rfl ?_
            refine j_ishr C dL_law_158 ?_
            refine j_bipush C (v := (9 : Int32)) dL_law_159 rfl ?_
            refine jw_0 C (As := [.int (v77 >>> ((8 : Int32) &&& 31)), .int (9 : Int32)]) (rest := []) (lb_low (xl X) D (v77 >>> ((8 : Int32) &&& 31)) 9 (by decide) (by decide)) mfL_low gL_law_L_low rfl (Nat.le_of_ble_eq_true rfl) (Nat.le_of_ble_eq_true rfl) (by omega) (by omega) rfl (Nat.le_of_ble_eq_true rfl) dL_law_161 (fun _ _ h => h.2) ?_
            rintro _ ⟨⟨j161, hj161, rfl⟩, -⟩
            refine j_iconst C (v := (4 : Int32)) dL_law_164 rfl ?_
            refine j_isub C dL_law_165 ?_
            refine j_istore C dL_law_166 (by decide) (lv' := [(10, .int ((nI j161) - (4 : Int32))), (9, .int (nI (1 + j148))), (8, .int (nI j136)), (7, .int (nI kk)), (6, .int (nI hw)), (5, .int (nI n)), (4, .int v77), (3, .int v67), (2, .int (nI i57)), (1, .ref x), (0, .ref b0)]) rfl ?_
            refine j_iconst C (v := (1 : Int32)) dL_law_168 rfl ?_
            refine j_iload C 6 dL_law_169 rfl ?_
            refine j_bipush C (v := (11 : Int32)) dL_law_171 rfl ?_
            refine j_ishr C dL_law_173 ?_
            refine j_iload C 6 dL_law_174 rfl ?_
            refine j_bipush C (v := (20 : Int32)) dL_law_176 rfl ?_
            refine j_ishr C dL_law_178 ?_
            refine j_iconst C (v := (3 : Int32)) dL_law_179 rfl ?_
            refine jw_0 C (As := [.int (v77 >>> ((20 : Int32) &&& 31)), .int (3 : Int32)]) (rest := [.int (v77 >>> ((11 : Int32) &&& 31)), .int (1 : Int32)]) (lb_low (xl X) D (v77 >>> ((20 : Int32) &&& 31)) 3 (by decide) (by decide)) mfL_low gL_law_L_low rfl (Nat.le_of_ble_eq_true rfl) (Nat.le_of_ble_eq_true rfl) (by omega) (by omega) rfl (Nat.le_of_ble_eq_true rfl) dL_law_180 (fun _ _ h => h.2) ?_
            rintro _ ⟨⟨j180, hj180, rfl⟩, -⟩
            have hJ194 : ∀ (N : Nat) (hN0 : 0 < N) (hN : N ≤ 99999) (w52j : va_W), LW D x m n h w52j → J D X w52j (60 + 60 * i57 + 0) (700 + 900 * i57 + 0) 194 [(10, .int ((nI j161) - (4 : Int32))), (9, .int (nI (1 + j148))), (8, .int (nI j136)), (7, .int (nI kk)), (6, .int (nI hw)), (5, .int (nI n)), (4, .int v77), (3, .int v67), (2, .int (nI i57)), (1, .ref x), (0, .ref b0)] [.int (nI N), .int (v77 >>> ((11 : Int32) &&& 31)), .int (1 : Int32)] := by
              intro N hN0 hN  w52j H52j
              refine jw_0 C (As := [.int (v77 >>> ((11 : Int32) &&& 31)), .int (nI N)]) (rest := [.int (1 : Int32)]) (lb_low (xl X) D (v77 >>> ((11 : Int32) &&& 31)) N hN0 (by omega)) mfL_low gL_law_L_low rfl (Nat.le_of_ble_eq_true rfl) (Nat.le_of_ble_eq_true rfl) (by omega) (by omega) rfl (Nat.le_of_ble_eq_true rfl) dL_law_194 (fun _ _ h => h.2) ?_
              rintro _ ⟨⟨j194, hj194, rfl⟩, -⟩
              refine j_iadd C dL_law_197 ?_
              refine j_eqi (y := nI (1 + j194)) (nI_add 1 j194) ?_
              refine j_istore C dL_law_198 (by decide) (lv' := [(11, .int (nI (1 + j194))), (10, .int ((nI j161) - (4 : Int32))), (9, .int (nI (1 + j148))), (8, .int (nI j136)), (7, .int (nI kk)), (6, .int (nI hw)), (5, .int (nI n)), (4, .int v77), (3, .int v67), (2, .int (nI i57)), (1, .ref x), (0, .ref b0)]) rfl ?_
              by_cases hn16 : n < 16
              · refine j_aload_n C 10 dL_law_200 rfl rfl ?_
                refine j_iload C 3 dL_law_201 rfl ?_
                refine j_iload C 2 dL_law_203 rfl ?_
                refine j_iload C 1 dL_law_205 rfl ?_
                refine j_iload C 0 dL_law_207 rfl ?_
                refine jw_i C KT (As := [.ref x, .int (nI j136), .int (nI (1 + j148)), .int ((nI j161) - (4 : Int32)), .int (nI (1 + j194))]) (rest := []) (lb_addBlock (xl X) hst D H52j (nI j136) (nI (1 + j148)) (nI j161 - 4) (nI (1 + j194)) (by rw [show pIn (nI j136) 0 400 = true from pIn_nI (a := 0) (b := 400) (by omega) (by omega) (by decide), show pIn (nI (1 + j148)) 1 100 = true from pIn_nI (a := 1) (b := 100) (by omega) (by omega) (by decide), ck_cap j161 hj161, show pIn (nI (1 + j194)) 1 99999 = true from pIn_nI (a := 1) (b := 99999) (by omega) (by omega) (by decide)]; rfl) hn16) mw_addBlock my_addBlock gL_law_L_addBlock rfl (Nat.le_of_ble_eq_true rfl) (Nat.le_of_ble_eq_true rfl) (by omega) (by omega) rfl (Nat.le_of_ble_eq_true rfl) dL_law_209 (fun _ _ h => h.2.2) ?_
                rintro _ w54 ⟨rfl, H54, p54⟩
                refine j_istore C dL_law_212 (by decide) (lv' := [(12, .int (nI n)), (11, .int (nI (1 + j194))), (10, .int ((nI j161) - (4 : Int32))), (9, .int (nI (1 + j148))), (8, .int (nI j136)), (7, .int (nI kk)), (6, .int (nI hw)), (5, .int (nI n)), (4, .int v77), (3, .int v67), (2, .int (nI i57)), (1, .ref x), (0, .ref b0)]) rfl ?_
                refine j_iload C 0 dL_law_214 rfl ?_
                refine j_iload C 7 dL_law_216 rfl ?_
                refine j_bipush C (v := (16 : Int32)) dL_law_218 rfl ?_
                refine j_icmp_ne C dL_law_220 (tgt := 228) (by decide) (fun _ => ?_) (fun h => absurd h (fun z => absurd ((nI_eq (b := 16) (by omega) (by decide)).mp z) (by omega)))
                refine j_iload C 7 dL_law_228 rfl ?_
                refine j_icmp_ne C dL_law_230 (tgt := 307) (by decide) (fun h => absurd rfl h) (fun _ => ?_)
                refine j_iload C 0 dL_law_233 rfl ?_
                refine j_if_lt C dL_law_235 (tgt := 309) (by decide) (fun h => absurd h (nI_pos (by omega))) (fun _ => ?_)
                refine j_aload_n C 11 dL_law_238 rfl rfl ?_
                refine j_iload C 0 dL_law_239 rfl ?_
                refine j_iconst C (v := (0 : Int32)) dL_law_241 rfl ?_
                refine jw_i C KT (As := [.ref x, .int (nI n), .int (0 : Int32)]) (rest := []) (lb_block (xl X) hst D H54 n (by omega) 0 (by decide)) mw_block my_block gL_law_L_block rfl (Nat.le_of_ble_eq_true rfl) (Nat.le_of_ble_eq_true rfl) (by omega) (by omega) rfl (Nat.le_of_ble_eq_true rfl) dL_law_242 (fun _ _ h => h.2.2) ?_
                rintro _ w55 ⟨rfl, H55, p55⟩
                refine j_eqi (y := mP (mBu m n (nI j136) (nI (1 + j148)) (nI j161 - 4) (nI (1 + j194))) n) (bl_0 (mBu m n (nI j136) (nI (1 + j148)) (nI j161 - 4) (nI (1 + j194))) (n + 1) n) ?_
                refine j_iload C 4 dL_law_245 rfl ?_
                refine j_icmp_ne C dL_law_247 (tgt := 307) (by decide) (fun h => absurd ((mBu_at n m _ _ _ _).1) h) (fun _ => ?_)
                refine j_aload_n C 11 dL_law_250 rfl rfl ?_
                refine j_iload C 0 dL_law_251 rfl ?_
                refine j_iconst C (v := (1 : Int32)) dL_law_253 rfl ?_
                refine jw_i C KT (As := [.ref x, .int (nI n), .int (1 : Int32)]) (rest := []) (lb_block (xl X) hst D H55 n (by omega) 1 (by decide)) mw_block my_block gL_law_L_block rfl (Nat.le_of_ble_eq_true rfl) (Nat.le_of_ble_eq_true rfl) (by omega) (by omega) rfl (Nat.le_of_ble_eq_true rfl) dL_law_254 (fun _ _ h => h.2.2) ?_
                rintro _ w56 ⟨rfl, H56, p56⟩
                refine j_eqi (y := mK (mBu m n (nI j136) (nI (1 + j148)) (nI j161 - 4) (nI (1 + j194))) n) (bl_1 (mBu m n (nI j136) (nI (1 + j148)) (nI j161 - 4) (nI (1 + j194))) (n + 1) n) ?_
                refine j_iload C 3 dL_law_257 rfl ?_
                refine j_icmp_ne C dL_law_259 (tgt := 307) (by decide) (fun h => absurd ((mBu_at n m _ _ _ _).2.1) h) (fun _ => ?_)
                refine j_aload_n C 11 dL_law_262 rfl rfl ?_
                refine j_iload C 0 dL_law_263 rfl ?_
                refine j_iconst C (v := (2 : Int32)) dL_law_265 rfl ?_
                refine jw_i C KT (As := [.ref x, .int (nI n), .int (2 : Int32)]) (rest := []) (lb_block (xl X) hst D H56 n (by omega) 2 (by decide)) mw_block my_block gL_law_L_block rfl (Nat.le_of_ble_eq_true rfl) (Nat.le_of_ble_eq_true rfl) (by omega) (by omega) rfl (Nat.le_of_ble_eq_true rfl) dL_law_266 (fun _ _ h => h.2.2) ?_
                rintro _ w57 ⟨rfl, H57, p57⟩
                refine j_eqi (y := mH (mBu m n (nI j136) (nI (1 + j148)) (nI j161 - 4) (nI (1 + j194))) n) (bl_2 (mBu m n (nI j136) (nI (1 + j148)) (nI j161 - 4) (nI (1 + j194))) (n + 1) n) ?_
                refine j_iload C 2 dL_law_269 rfl ?_
                refine j_icmp_ne C dL_law_271 (tgt := 307) (by decide) (fun h => absurd ((mBu_at n m _ _ _ _).2.2.1) h) (fun _ => ?_)
                refine j_aload_n C 11 dL_law_274 rfl rfl ?_
                refine j_iload C 0 dL_law_275 rfl ?_
                refine j_iconst C (v := (3 : Int32)) dL_law_277 rfl ?_
                refine jw_i C KT (As := [.ref x, .int (nI n), .int (3 : Int32)]) (rest := []) (lb_block (xl X) hst D H57 n (by omega) 3 (by decide)) mw_block my_block gL_law_L_block rfl (Nat.le_of_ble_eq_true rfl) (Nat.le_of_ble_eq_true rfl) (by omega) (by omega) rfl (Nat.le_of_ble_eq_true rfl) dL_law_278 (fun _ _ h => h.2.2) ?_
                rintro _ w58 ⟨rfl, H58, p58⟩
                refine j_eqi (y := mL (mBu m n (nI j136) (nI (1 + j148)) (nI j161 - 4) (nI (1 + j194))) n) (bl_3 (mBu m n (nI j136) (nI (1 + j148)) (nI j161 - 4) (nI (1 + j194))) (n + 1) n) ?_
                refine j_iload C 1 dL_law_281 rfl ?_
                refine j_icmp_ne C dL_law_283 (tgt := 307) (by decide) (fun h => absurd ((mBu_at n m _ _ _ _).2.2.2.1) h) (fun _ => ?_)
                refine j_aload_n C 11 dL_law_286 rfl rfl ?_
                refine j_iload C 0 dL_law_287 rfl ?_
                refine j_iconst C (v := (4 : Int32)) dL_law_289 rfl ?_
                refine jw_i C KT (As := [.ref x, .int (nI n), .int (4 : Int32)]) (rest := []) (lb_block (xl X) hst D H58 n (by omega) 4 (by decide)) mw_block my_block gL_law_L_block rfl (Nat.le_of_ble_eq_true rfl) (Nat.le_of_ble_eq_true rfl) (by omega) (by omega) rfl (Nat.le_of_ble_eq_true rfl) dL_law_290 (fun _ _ h => h.2.2) ?_
                rintro _ w59 ⟨rfl, H59, p59⟩
                refine j_eqi (y := mT (mBu m n (nI j136) (nI (1 + j148)) (nI j161 - 4) (nI (1 + j194))) n) (bl_4 (mBu m n (nI j136) (nI (1 + j148)) (nI j161 - 4) (nI (1 + j194))) (n + 1) n) ?_
                refine j_if_ne C dL_law_293 (tgt := 307) (by decide) (fun h => absurd ((mBu_at n m _ _ _ _).2.2.2.2.1) h) (fun _ => ?_)
                refine j_aload_n C 11 dL_law_296 rfl rfl ?_
                refine j_iload C 0 dL_law_297 rfl ?_
                refine j_bipush C (v := (8 : Int32)) dL_law_299 rfl ?_
                refine jw_i C KT (As := [.ref x, .int (nI n), .int (8 : Int32)]) (rest := []) (lb_block (xl X) hst D H59 n (by omega) 8 (by decide)) mw_block my_block gL_law_L_block rfl (Nat.le_of_ble_eq_true rfl) (Nat.le_of_ble_eq_true rfl) (by omega) (by omega) rfl (Nat.le_of_ble_eq_true rfl) dL_law_301 (fun _ _ h => h.2.2) ?_
                rintro _ w60 ⟨rfl, H60, p60⟩
                refine j_eqi (y := mS (mBu m n (nI j136) (nI (1 + j148)) (nI j161 - 4) (nI (1 + j194))) n) (bl_8 (mBu m n (nI j136) (nI (1 + j148)) (nI j161 - 4) (nI (1 + j194))) (n + 1) n) ?_
                refine j_if_eq C dL_law_304 (tgt := 309) (by decide) (fun _ => ?_) (fun h => absurd ((mBu_at n m _ _ _ _).2.2.2.2.2) h)
                refine j_goto C dL_law_309 (tgt := 685) (by decide) ?_
                refine j_sub [10, 11, 12] (lv' := [(2, .int (nI i57)), (1, .ref x), (0, .ref b0)]) rfl ?_
                refine j_widen (k' := (60 + 60 * i57 + 40)) (n' := (700 + 900 * i57 + 600)) (by omega) (by omega) ?_
                exact hJ685 _ _ (by omega) _ w60 H60
              · refine j_aload_n C 10 dL_law_200 rfl rfl ?_
                refine j_iload C 3 dL_law_201 rfl ?_
                refine j_iload C 2 dL_law_203 rfl ?_
                refine j_iload C 1 dL_law_205 rfl ?_
                refine j_iload C 0 dL_law_207 rfl ?_
                refine jw_i C KT (As := [.ref x, .int (nI j136), .int (nI (1 + j148)), .int ((nI j161) - (4 : Int32)), .int (nI (1 + j194))]) (rest := []) (lb_addBlockF (xl X) hst D H52j (nI j136) (nI (1 + j148)) (nI j161 - 4) (nI (1 + j194)) (by rw [show pIn (nI j136) 0 400 = true from pIn_nI (a := 0) (b := 400) (by omega) (by omega) (by decide), show pIn (nI (1 + j148)) 1 100 = true from pIn_nI (a := 1) (b := 100) (by omega) (by omega) (by decide), ck_cap j161 hj161, show pIn (nI (1 + j194)) 1 99999 = true from pIn_nI (a := 1) (b := 99999) (by omega) (by omega) (by decide)]; rfl) hn16) mw_addBlock my_addBlock gL_law_L_addBlock rfl (Nat.le_of_ble_eq_true rfl) (Nat.le_of_ble_eq_true rfl) (by omega) (by omega) rfl (Nat.le_of_ble_eq_true rfl) dL_law_209 (fun _ _ h => h.2.2) ?_
                rintro _ w61 ⟨rfl, H61, p61⟩
                refine j_istore C dL_law_212 (by decide) (lv' := [(12, .int (-9020000 : Int32)), (11, .int (nI (1 + j194))), (10, .int ((nI j161) - (4 : Int32))), (9, .int (nI (1 + j148))), (8, .int (nI j136)), (7, .int (nI kk)), (6, .int (nI hw)), (5, .int (nI n)), (4, .int v77), (3, .int v67), (2, .int (nI i57)), (1, .ref x), (0, .ref b0)]) rfl ?_
                refine j_iload C 0 dL_law_214 rfl ?_
                refine j_iload C 7 dL_law_216 rfl ?_
                refine j_bipush C (v := (16 : Int32)) dL_law_218 rfl ?_
                refine j_icmp_ne C dL_law_220 (tgt := 228) (by decide) (fun h => absurd (by rw [show n = 16 by omega]; rfl) h) (fun _ => ?_)
                refine j_ldc C k_law_20 dL_law_223 ?_
                refine j_goto C dL_law_225 (tgt := 230) (by decide) ?_
                refine j_icmp_ne C dL_law_230 (tgt := 307) (by decide) (fun h => absurd (by decide) h) (fun _ => ?_)
                refine j_iload C 0 dL_law_233 rfl ?_
                refine j_if_lt C dL_law_235 (tgt := 309) (by decide) (fun _ => ?_) (fun h => absurd (by decide) h)
                refine j_goto C dL_law_309 (tgt := 685) (by decide) ?_
                refine j_sub [10, 11, 12] (lv' := [(2, .int (nI i57)), (1, .ref x), (0, .ref b0)]) rfl ?_
                refine j_widen (k' := (60 + 60 * i57 + 40)) (n' := (700 + 900 * i57 + 600)) (by omega) (by omega) ?_
                exact hJ685 _ _ (by omega) _ w61 H61
            refine j_if_ne C dL_law_183 (tgt := 191) (by decide) (fun h183 => ?_) (fun h183 => ?_)
            · refine j_sipush C (v := (900 : Int32)) dL_law_191 rfl ?_
              refine j_sub [0, 1, 2, 3, 4, 5, 6, 7, 8, 9, 10] (lv' := [(10, .int ((nI j161) - (4 : Int32))), (9, .int (nI (1 + j148))), (8, .int (nI j136)), (7, .int (nI kk)), (6, .int (nI hw)), (5, .int (nI n)), (4, .int v77), (3, .int v67), (2, .int (nI i57)), (1, .ref x), (0, .ref b0)]) rfl ?_
              exact hJ194 900 (by decide) (by decide) w15j H15j
            · refine j_ldc C k_law_125 dL_law_186 ?_
              refine j_goto C dL_law_188 (tgt := 194) (by decide) ?_
              refine j_sub [0, 1, 2, 3, 4, 5, 6, 7, 8, 9, 10] (lv' := [(10, .int ((nI j161) - (4 : Int32))), (9, .int (nI (1 + j148))), (8, .int (nI j136)), (7, .int (nI kk)), (6, .int (nI hw)), (5, .int (nI n)), (4, .int v77), (3, .int v67), (2, .int (nI i57)), (1, .ref x), (0, .ref b0)]) rfl ?_
              exact hJ194 99999 (by decide) (by decide) w15j H15j
        refine j_if_ne C dL_law_108 (tgt := 115) (by decide) (fun h108 => ?_) (fun h108 => ?_)
        · refine j_iload_n C 3 dL_law_115 rfl rfl ?_
          refine j_iconst C (v := (5 : Int32)) dL_law_116 rfl ?_
          refine j_ishr C dL_law_117 ?_
          refine j_iload C 1 dL_law_118 rfl ?_
          refine jw_0 C (As := [.int (v67 >>> ((5 : Int32) &&& 31)), .int (nI n)]) (rest := []) (lb_low (xl X) D (v67 >>> ((5 : Int32) &&& 31)) n (Nat.pos_of_ne_zero (fun z => h108 (by rw [z]; rfl))) (by omega)) mfL_low gL_law_L_low rfl (Nat.le_of_ble_eq_true rfl) (Nat.le_of_ble_eq_true rfl) (by omega) (by omega) rfl (Nat.le_of_ble_eq_true rfl) dL_law_120 (fun _ _ h => h.2) ?_
          rintro _ ⟨⟨j120, hj120, rfl⟩, -⟩
          refine j_sub [0, 1, 2, 3, 4, 5, 6] (lv' := [(6, .int (nI hw)), (5, .int (nI n)), (4, .int v77), (3, .int v67), (2, .int (nI i57)), (1, .ref x), (0, .ref b0)]) rfl ?_
          exact hJ123 j120 (fun _ => hj120) w14j H14j
        · refine j_iconst C (v := (0 : Int32)) dL_law_111 rfl ?_
          refine j_goto C dL_law_112 (tgt := 123) (by decide) ?_
          refine j_sub [0, 1, 2, 3, 4, 5, 6] (lv' := [(6, .int (nI hw)), (5, .int (nI n)), (4, .int v77), (3, .int v67), (2, .int (nI i57)), (1, .ref x), (0, .ref b0)]) rfl ?_
          exact hJ123 0 (fun z => absurd h108 (nI_ne0 z (by omega))) w14j H14j
      refine j_icmp_ge C dL_law_91 (tgt := 98) (by decide) (fun h91 => ?_) (fun h91 => ?_)
      · have h91' := Int32.not_lt.mpr h91
        refine j_iload_n C 2 dL_law_98 rfl rfl ?_
        refine j_bipush C (v := (14 : Int32)) dL_law_99 rfl ?_
        refine jw_0 C (As := [.int v67, .int (14 : Int32)]) (rest := []) (lb_low (xl X) D v67 14 (by decide) (by decide)) mfL_low gL_law_L_low rfl (Nat.le_of_ble_eq_true rfl) (Nat.le_of_ble_eq_true rfl) (by omega) (by omega) rfl (Nat.le_of_ble_eq_true rfl) dL_law_101 (fun _ _ h => h.2) ?_
        rintro _ ⟨⟨j101, hj101, rfl⟩, -⟩
        refine j_sub [0, 1, 2, 3, 4, 5] (lv' := [(5, .int (nI n)), (4, .int v77), (3, .int v67), (2, .int (nI i57)), (1, .ref x), (0, .ref b0)]) rfl ?_
        exact hJ104 j101 hj101 (fun z => absurd h91 (nI_ge z (by decide))) w13 H13
      · have h91' := Int32.not_le.mp h91
        refine j_iconst C (v := (0 : Int32)) dL_law_94 rfl ?_
        refine j_goto C dL_law_95 (tgt := 104) (by decide) ?_
        refine j_sub [0, 1, 2, 3, 4, 5] (lv' := [(5, .int (nI n)), (4, .int v77), (3, .int v67), (2, .int (nI i57)), (1, .ref x), (0, .ref b0)]) rfl ?_
        exact hJ104 0 (by decide) (fun _ => rfl) w13 H13
  refine j_sub [0, 1, 2] (lv' := [(2, .int (nI 0)), (1, .ref x), (0, .ref b0)]) rfl ?_
  refine j_widen (k' := (60 + 60 * 0 + 0)) (n' := (700 + 900 * 0 + 0)) (by omega) (by omega) ?_
  exact hl57 0 (Nat.zero_le _) _ _ _ _ H5 (Nat.zero_le _)
