set_option maxRecDepth 100000 in
set_option maxHeartbeats 4000000 in
theorem lw_cascades (l : Launch) (hst : l.stackTraces = false) (D : KD) {x : Nat} {m : Pg} {n : Nat} {h : Hs} {w0 : va_W} (H : LW D x m n h w0) : MIX l D yL_cascades wsL_cascades 6 146 6 90 [.ref x] w0 (fun r w1 => r = 1 ∧ (∃ h' : Hs, LW D x m n h' w1) ∧ wpre w0 w1) := by
  refine MIX.ofz (cc := cL_cascades) (nL := 6) (lv0 := [(0, .ref x)]) (by decide +kernel) rfl (Nat.le_of_ble_eq_true rfl) rfl ?_
  intro X hXl hin C KT ret
  subst hXl
  have P := wp_rfl w0
  obtain ⟨hn, hc, hV, hl4⟩ := H.fc
  refine j_aload_n C 0 dL_cascades_0 rfl rfl ?_
  refine jw_cv_i C (As := []) (rest := []) (lc_cascadeSteps (xl X) D H) mfX5_cascadeSteps gL_cascades_X5_cascadeSteps rfl (Nat.le_of_ble_eq_true rfl) (Nat.le_of_ble_eq_true rfl) (Nat.le_of_ble_eq_true rfl) (Nat.le_of_ble_eq_true rfl) (H).at0 rfl rfl (Nat.le_of_ble_eq_true rfl) dL_cascades_1 (fun _ _ h => h.2.2) ?_
  rintro _ w1 ⟨rfl, H1, p1⟩
  have P1 := wp_tr P p1
  refine j_istore_n C dL_cascades_4 rfl (by decide) (lv' := [(1, .int ((fal n 16 m 0 0).2.1)), (0, .ref x)]) rfl ?_
  refine j_aload_n C 1 dL_cascades_5 rfl rfl ?_
  refine jw_cv_i C (As := []) (rest := []) (lc_survives (xl X) D H1) mfX5_survives gL_cascades_X5_survives rfl (Nat.le_of_ble_eq_true rfl) (Nat.le_of_ble_eq_true rfl) (Nat.le_of_ble_eq_true rfl) (Nat.le_of_ble_eq_true rfl) (H1).at0 rfl rfl (Nat.le_of_ble_eq_true rfl) dL_cascades_6 (fun _ _ h => h.2.2) ?_
  rintro _ w2 ⟨rfl, H2, p2⟩
  have P2 := wp_tr P1 p2
  refine j_istore_n C dL_cascades_9 rfl (by decide) (lv' := [(2, .int (bI (mR (fal n 16 m 0 0).1 n).1)), (1, .int ((fal n 16 m 0 0).2.1)), (0, .ref x)]) rfl ?_
  refine j_aload_n C 2 dL_cascades_10 rfl rfl ?_
  refine j_iconst C (v := (5 : Int32)) dL_cascades_11 rfl ?_
  refine jw_i C KT (As := [.ref x, .int (5 : Int32)]) (rest := []) (lb_value (xl X) hst D H2 5 (by decide)) mw_value my_value gL_cascades_L_value rfl (Nat.le_of_ble_eq_true rfl) (Nat.le_of_ble_eq_true rfl) (Nat.le_of_ble_eq_true rfl) (Nat.le_of_ble_eq_true rfl) rfl (Nat.le_of_ble_eq_true rfl) dL_cascades_12 (fun _ _ h => h.2.2) ?_
  rintro _ w3 ⟨rfl, H3, p3⟩
  have P3 := wp_tr P2 p3
  refine j_eqi (y := cntI (mOv m n) 16) (vl_5 m n) ?_
  refine j_istore_n C dL_cascades_15 rfl (by decide) (lv' := [(3, .int (cntI (mOv m n) 16)), (2, .int (bI (mR (fal n 16 m 0 0).1 n).1)), (1, .int ((fal n 16 m 0 0).2.1)), (0, .ref x)]) rfl ?_
  refine j_aload_n C 3 dL_cascades_16 rfl rfl ?_
  refine j_iconst C (v := (3 : Int32)) dL_cascades_17 rfl ?_
  refine jw_i C KT (As := [.ref x, .int (3 : Int32)]) (rest := []) (lb_value (xl X) hst D H3 3 (by decide)) mw_value my_value gL_cascades_L_value rfl (Nat.le_of_ble_eq_true rfl) (Nat.le_of_ble_eq_true rfl) (Nat.le_of_ble_eq_true rfl) (Nat.le_of_ble_eq_true rfl) rfl (Nat.le_of_ble_eq_true rfl) dL_cascades_18 (fun _ _ h => h.2.2) ?_
  rintro _ w4 ⟨rfl, H4, p4⟩
  have P4 := wp_tr P3 p4
  refine j_eqi (y := cntI (stb (mT m) 0 n) 16) (vl_3 m n) ?_
  refine j_istore C dL_cascades_21 (by decide) (lv' := [(4, .int (cntI (stb (mT m) 0 n) 16)), (3, .int (cntI (mOv m n) 16)), (2, .int (bI (mR (fal n 16 m 0 0).1 n).1)), (1, .int ((fal n 16 m 0 0).2.1)), (0, .ref x)]) rfl ?_
  refine j_aload_n C 4 dL_cascades_23 rfl rfl ?_
  refine jw_cv_i C (As := []) (rest := []) (lc_cascade (xl X) D H4) mfX5_cascade gL_cascades_X5_cascade rfl (Nat.le_of_ble_eq_true rfl) (Nat.le_of_ble_eq_true rfl) (Nat.le_of_ble_eq_true rfl) (Nat.le_of_ble_eq_true rfl) (H4).at0 rfl rfl (Nat.le_of_ble_eq_true rfl) dL_cascades_24 (fun _ _ h => h.2.2) ?_
  rintro _ w5 ⟨rfl, H5, p5⟩
  have P5 := wp_tr P4 p5
  refine j_istore C dL_cascades_27 (by decide) (lv' := [(5, .int ((fal n 16 m 0 0).2.2)), (4, .int (cntI (stb (mT m) 0 n) 16)), (3, .int (cntI (mOv m n) 16)), (2, .int (bI (mR (fal n 16 m 0 0).1 n).1)), (1, .int ((fal n 16 m 0 0).2.1)), (0, .ref x)]) rfl ?_
  by_cases h0 : cntI (mOv m n) 16 = 0
  · refine j_iload_n C 4 dL_cascades_29 rfl rfl ?_
    refine j_if_ne C dL_cascades_30 (tgt := 37) (by decide) (fun h => absurd ((ca_x hn hV).1.mpr h0) h) (fun _ => ?_)
    refine j_iconst C (v := (1 : Int32)) dL_cascades_33 rfl ?_
    refine j_goto C dL_cascades_34 (tgt := 38) (by decide) ?_
    refine j_iload_n C 2 dL_cascades_38 rfl rfl ?_
    refine j_if_ne C dL_cascades_39 (tgt := 46) (by decide) (fun h => absurd h0 h) (fun _ => ?_)
    refine j_iconst C (v := (1 : Int32)) dL_cascades_42 rfl ?_
    refine j_goto C dL_cascades_43 (tgt := 47) (by decide) ?_
    refine j_icmp_ne C dL_cascades_47 (tgt := 147) (by decide) (fun h => absurd (by decide) h) (fun _ => ?_)
    refine j_iload C 0 dL_cascades_50 rfl ?_
    refine j_iload_n C 2 dL_cascades_52 rfl rfl ?_
    refine j_icmp_lt C dL_cascades_53 (tgt := 147) (by decide) (fun h => absurd h ((ca_x hn hV).2.1)) (fun _ => ?_)
    refine j_iload C 0 dL_cascades_56 rfl ?_
    refine j_iload_n C 4 dL_cascades_58 rfl rfl ?_
    refine j_icmp_lt C dL_cascades_59 (tgt := 147) (by decide) (fun h => absurd h ((ca_x hn hV).2.2.1)) (fun _ => ?_)
    refine j_aload_n C 5 dL_cascades_62 rfl rfl ?_
    refine j_iconst C (v := (3 : Int32)) dL_cascades_63 rfl ?_
    refine jw_i C KT (As := [.ref x, .int (3 : Int32)]) (rest := []) (lb_value (xl X) hst D H5 3 (by decide)) mw_value my_value gL_cascades_L_value rfl (Nat.le_of_ble_eq_true rfl) (Nat.le_of_ble_eq_true rfl) (Nat.le_of_ble_eq_true rfl) (Nat.le_of_ble_eq_true rfl) rfl (Nat.le_of_ble_eq_true rfl) dL_cascades_64 (fun _ _ h => h.2.2) ?_
    rintro _ w6 ⟨rfl, H6, p6⟩
    have P6 := wp_tr P5 p6
    refine j_eqi (y := cntI (stb (mT ((fal n 16 m 0 0).1)) 0 n) 16) (vl_3 ((fal n 16 m 0 0).1) n) ?_
    refine j_iload C 1 dL_cascades_67 rfl ?_
    refine j_iload C 0 dL_cascades_69 rfl ?_
    refine j_isub C dL_cascades_71 ?_
    refine j_icmp_ne C dL_cascades_72 (tgt := 147) (by decide) (fun h => absurd ((ca_x hn hV).2.2.2.2) h) (fun _ => ?_)
    refine j_aload_n C 5 dL_cascades_75 rfl rfl ?_
    refine j_iconst C (v := (5 : Int32)) dL_cascades_76 rfl ?_
    refine jw_i C KT (As := [.ref x, .int (5 : Int32)]) (rest := []) (lb_value (xl X) hst D H6 5 (by decide)) mw_value my_value gL_cascades_L_value rfl (Nat.le_of_ble_eq_true rfl) (Nat.le_of_ble_eq_true rfl) (Nat.le_of_ble_eq_true rfl) (Nat.le_of_ble_eq_true rfl) rfl (Nat.le_of_ble_eq_true rfl) dL_cascades_77 (fun _ _ h => h.2.2) ?_
    rintro _ w7 ⟨rfl, H7, p7⟩
    have P7 := wp_tr P6 p7
    refine j_eqi (y := cntI (mOv ((fal n 16 m 0 0).1) n) 16) (vl_5 ((fal n 16 m 0 0).1) n) ?_
    refine j_if_ne C dL_cascades_80 (tgt := 147) (by decide) (fun h => absurd (ca_over0 hn hV) h) (fun _ => ?_)
    refine j_aload_n C 5 dL_cascades_83 rfl rfl ?_
    refine j_bipush C (v := (6 : Int32)) dL_cascades_84 rfl ?_
    refine jw_i C KT (As := [.ref x, .int (6 : Int32)]) (rest := []) (lb_value (xl X) hst D H7 6 (by decide)) mw_value my_value gL_cascades_L_value rfl (Nat.le_of_ble_eq_true rfl) (Nat.le_of_ble_eq_true rfl) (Nat.le_of_ble_eq_true rfl) (Nat.le_of_ble_eq_true rfl) rfl (Nat.le_of_ble_eq_true rfl) dL_cascades_86 (fun _ _ h => h.2.2) ?_
    rintro _ w8 ⟨rfl, H8, p8⟩
    have P8 := wp_tr P7 p8
    refine j_eqi (y := bI (mR ((fal n 16 m 0 0).1) n).1) (vl_6 ((fal n 16 m 0 0).1) n) ?_
    refine j_iconst C (v := (1 : Int32)) dL_cascades_89 rfl ?_
    have hJ98 : ∀ (w9j : va_W), LW D x ((fal n 16 m 0 0).1) n (pu h m n) w9j → wpre w0 w9j → J D X w9j 6 90 98 [(5, .int ((fal n 16 m 0 0).2.2)), (4, .int (cntI (stb (mT m) 0 n) 16)), (3, .int (cntI (mOv m n) 16)), (2, .int (bI (mR (fal n 16 m 0 0).1 n).1)), (1, .int ((fal n 16 m 0 0).2.1)), (0, .ref x)] [.int (bI (mR (fal n 16 m 0 0).1 n).1)] := by
      intro  w9j H9j P9j
      refine j_iload_n C 3 dL_cascades_98 rfl rfl ?_
      refine j_icmp_ne C dL_cascades_99 (tgt := 147) (by decide) (fun h => absurd rfl h) (fun _ => ?_)
      refine j_aload_n C 5 dL_cascades_102 rfl rfl ?_
      refine jw_cv_i C (As := []) (rest := []) (lc_cascadeSteps (xl X) D H9j) mfX5_cascadeSteps gL_cascades_X5_cascadeSteps rfl (Nat.le_of_ble_eq_true rfl) (Nat.le_of_ble_eq_true rfl) (Nat.le_of_ble_eq_true rfl) (Nat.le_of_ble_eq_true rfl) (H9j).at0 rfl rfl (Nat.le_of_ble_eq_true rfl) dL_cascades_103 (fun _ _ h => h.2.2) ?_
      rintro _ w10 ⟨rfl, H10, p10⟩
      have P10 := wp_tr P9j p10
      refine j_if_ne C dL_cascades_106 (tgt := 147) (by decide) (fun h => absurd (ca_steps0 hn hV) h) (fun _ => ?_)
      refine j_aload_n C 5 dL_cascades_109 rfl rfl ?_
      refine jw_i C KT (As := [.ref x]) (rest := []) (lb_undo (xl X) hst D H10) mw_undo my_undo gL_cascades_L_undo rfl (Nat.le_of_ble_eq_true rfl) (Nat.le_of_ble_eq_true rfl) (Nat.le_of_ble_eq_true rfl) (Nat.le_of_ble_eq_true rfl) rfl (Nat.le_of_ble_eq_true rfl) dL_cascades_110 (fun _ _ h => h.2.2) ?_
      rintro _ w11 ⟨rfl, H11, p11⟩
      have P11 := wp_tr P10 p11
      refine j_if_lt C dL_cascades_113 (tgt := 147) (by decide) (fun h => absurd h (nI_pos (by have := H11.fc.2.2.2; omega))) (fun _ => ?_)
      refine j_aload_n C 5 dL_cascades_116 rfl rfl ?_
      refine j_iconst C (v := (3 : Int32)) dL_cascades_117 rfl ?_
      refine jw_i C KT (As := [.ref x, .int (3 : Int32)]) (rest := []) (lb_value (xl X) hst D H11 3 (by decide)) mw_value my_value gL_cascades_L_value rfl (Nat.le_of_ble_eq_true rfl) (Nat.le_of_ble_eq_true rfl) (Nat.le_of_ble_eq_true rfl) (Nat.le_of_ble_eq_true rfl) rfl (Nat.le_of_ble_eq_true rfl) dL_cascades_118 (fun _ _ h => h.2.2) ?_
      rintro _ w12 ⟨rfl, H12, p12⟩
      have P12 := wp_tr P11 p12
      refine j_eqi (y := cntI (stb (mT m) 0 n) 16) (vl_3 m n) ?_
      refine j_iload C 1 dL_cascades_121 rfl ?_
      refine j_icmp_ne C dL_cascades_123 (tgt := 147) (by decide) (fun h => absurd rfl h) (fun _ => ?_)
      refine j_aload_n C 5 dL_cascades_126 rfl rfl ?_
      refine j_iconst C (v := (5 : Int32)) dL_cascades_127 rfl ?_
      refine jw_i C KT (As := [.ref x, .int (5 : Int32)]) (rest := []) (lb_value (xl X) hst D H12 5 (by decide)) mw_value my_value gL_cascades_L_value rfl (Nat.le_of_ble_eq_true rfl) (Nat.le_of_ble_eq_true rfl) (Nat.le_of_ble_eq_true rfl) (Nat.le_of_ble_eq_true rfl) rfl (Nat.le_of_ble_eq_true rfl) dL_cascades_128 (fun _ _ h => h.2.2) ?_
      rintro _ w13 ⟨rfl, H13, p13⟩
      have P13 := wp_tr P12 p13
      refine j_eqi (y := cntI (mOv m n) 16) (vl_5 m n) ?_
      refine j_iload_n C 2 dL_cascades_131 rfl rfl ?_
      refine j_icmp_ne C dL_cascades_132 (tgt := 147) (by decide) (fun h => absurd rfl h) (fun _ => ?_)
      refine j_aload_n C 5 dL_cascades_135 rfl rfl ?_
      refine jw_cv_i C (As := []) (rest := []) (lc_cascadeSteps (xl X) D H13) mfX5_cascadeSteps gL_cascades_X5_cascadeSteps rfl (Nat.le_of_ble_eq_true rfl) (Nat.le_of_ble_eq_true rfl) (Nat.le_of_ble_eq_true rfl) (Nat.le_of_ble_eq_true rfl) (H13).at0 rfl rfl (Nat.le_of_ble_eq_true rfl) dL_cascades_136 (fun _ _ h => h.2.2) ?_
      rintro _ w14 ⟨rfl, H14, p14⟩
      have P14 := wp_tr P13 p14
      refine j_iload_n C 4 dL_cascades_139 rfl rfl ?_
      refine j_icmp_ne C dL_cascades_140 (tgt := 147) (by decide) (fun h => absurd rfl h) (fun _ => ?_)
      refine j_iconst C (v := (1 : Int32)) dL_cascades_143 rfl ?_
      refine j_goto C dL_cascades_144 (tgt := 148) (by decide) ?_
      refine j_widen (k' := 6) (n' := 90) (Nat.le_of_ble_eq_true rfl) (Nat.le_of_ble_eq_true rfl) ?_
      exact ret dL_cascades_148 (Or.inr rfl) (⟨rfl, ⟨_, H14⟩, P14⟩)
    refine j_icmp_ne C dL_cascades_90 (tgt := 97) (by decide) (fun h90 => ?_) (fun h90 => ?_)
    · refine j_iconst C (v := (0 : Int32)) dL_cascades_97 rfl ?_
      refine j_eqi (y := bI (mR (fal n 16 m 0 0).1 n).1) (bI_n1 h90) ?_
      refine j_sub [0, 1, 2, 3, 4, 5] (lv' := [(5, .int ((fal n 16 m 0 0).2.2)), (4, .int (cntI (stb (mT m) 0 n) 16)), (3, .int (cntI (mOv m n) 16)), (2, .int (bI (mR (fal n 16 m 0 0).1 n).1)), (1, .int ((fal n 16 m 0 0).2.1)), (0, .ref x)]) rfl ?_
      exact hJ98 w8 H8 P8
    · refine j_iconst C (v := (1 : Int32)) dL_cascades_93 rfl ?_
      refine j_goto C dL_cascades_94 (tgt := 98) (by decide) ?_
      refine j_eqi (y := bI (mR (fal n 16 m 0 0).1 n).1) h90.symm ?_
      refine j_sub [0, 1, 2, 3, 4, 5] (lv' := [(5, .int ((fal n 16 m 0 0).2.2)), (4, .int (cntI (stb (mT m) 0 n) 16)), (3, .int (cntI (mOv m n) 16)), (2, .int (bI (mR (fal n 16 m 0 0).1 n).1)), (1, .int ((fal n 16 m 0 0).2.1)), (0, .ref x)]) rfl ?_
      exact hJ98 w8 H8 P8
  · refine j_iload_n C 4 dL_cascades_29 rfl rfl ?_
    refine j_if_ne C dL_cascades_30 (tgt := 37) (by decide) (fun _ => ?_) (fun h => absurd h (fun z => h0 ((ca_x hn hV).1.mp z)))
    refine j_iconst C (v := (0 : Int32)) dL_cascades_37 rfl ?_
    refine j_iload_n C 2 dL_cascades_38 rfl rfl ?_
    refine j_if_ne C dL_cascades_39 (tgt := 46) (by decide) (fun _ => ?_) (fun h => absurd h h0)
    refine j_iconst C (v := (0 : Int32)) dL_cascades_46 rfl ?_
    refine j_icmp_ne C dL_cascades_47 (tgt := 147) (by decide) (fun h => absurd (by decide) h) (fun _ => ?_)
    refine j_iload C 0 dL_cascades_50 rfl ?_
    refine j_iload_n C 2 dL_cascades_52 rfl rfl ?_
    refine j_icmp_lt C dL_cascades_53 (tgt := 147) (by decide) (fun h => absurd h ((ca_x hn hV).2.1)) (fun _ => ?_)
    refine j_iload C 0 dL_cascades_56 rfl ?_
    refine j_iload_n C 4 dL_cascades_58 rfl rfl ?_
    refine j_icmp_lt C dL_cascades_59 (tgt := 147) (by decide) (fun h => absurd h ((ca_x hn hV).2.2.1)) (fun _ => ?_)
    refine j_aload_n C 5 dL_cascades_62 rfl rfl ?_
    refine j_iconst C (v := (3 : Int32)) dL_cascades_63 rfl ?_
    refine jw_i C KT (As := [.ref x, .int (3 : Int32)]) (rest := []) (lb_value (xl X) hst D H5 3 (by decide)) mw_value my_value gL_cascades_L_value rfl (Nat.le_of_ble_eq_true rfl) (Nat.le_of_ble_eq_true rfl) (Nat.le_of_ble_eq_true rfl) (Nat.le_of_ble_eq_true rfl) rfl (Nat.le_of_ble_eq_true rfl) dL_cascades_64 (fun _ _ h => h.2.2) ?_
    rintro _ w15 ⟨rfl, H15, p15⟩
    have P15 := wp_tr P5 p15
    refine j_eqi (y := cntI (stb (mT ((fal n 16 m 0 0).1)) 0 n) 16) (vl_3 ((fal n 16 m 0 0).1) n) ?_
    refine j_iload C 1 dL_cascades_67 rfl ?_
    refine j_iload C 0 dL_cascades_69 rfl ?_
    refine j_isub C dL_cascades_71 ?_
    refine j_icmp_ne C dL_cascades_72 (tgt := 147) (by decide) (fun h => absurd ((ca_x hn hV).2.2.2.2) h) (fun _ => ?_)
    refine j_aload_n C 5 dL_cascades_75 rfl rfl ?_
    refine j_iconst C (v := (5 : Int32)) dL_cascades_76 rfl ?_
    refine jw_i C KT (As := [.ref x, .int (5 : Int32)]) (rest := []) (lb_value (xl X) hst D H15 5 (by decide)) mw_value my_value gL_cascades_L_value rfl (Nat.le_of_ble_eq_true rfl) (Nat.le_of_ble_eq_true rfl) (Nat.le_of_ble_eq_true rfl) (Nat.le_of_ble_eq_true rfl) rfl (Nat.le_of_ble_eq_true rfl) dL_cascades_77 (fun _ _ h => h.2.2) ?_
    rintro _ w16 ⟨rfl, H16, p16⟩
    have P16 := wp_tr P15 p16
    refine j_eqi (y := cntI (mOv ((fal n 16 m 0 0).1) n) 16) (vl_5 ((fal n 16 m 0 0).1) n) ?_
    refine j_if_ne C dL_cascades_80 (tgt := 147) (by decide) (fun h => absurd (ca_over0 hn hV) h) (fun _ => ?_)
    refine j_aload_n C 5 dL_cascades_83 rfl rfl ?_
    refine j_bipush C (v := (6 : Int32)) dL_cascades_84 rfl ?_
    refine jw_i C KT (As := [.ref x, .int (6 : Int32)]) (rest := []) (lb_value (xl X) hst D H16 6 (by decide)) mw_value my_value gL_cascades_L_value rfl (Nat.le_of_ble_eq_true rfl) (Nat.le_of_ble_eq_true rfl) (Nat.le_of_ble_eq_true rfl) (Nat.le_of_ble_eq_true rfl) rfl (Nat.le_of_ble_eq_true rfl) dL_cascades_86 (fun _ _ h => h.2.2) ?_
    rintro _ w17 ⟨rfl, H17, p17⟩
    have P17 := wp_tr P16 p17
    refine j_eqi (y := bI (mR ((fal n 16 m 0 0).1) n).1) (vl_6 ((fal n 16 m 0 0).1) n) ?_
    refine j_iconst C (v := (1 : Int32)) dL_cascades_89 rfl ?_
    have hJ98 : ∀ (w18j : va_W), LW D x ((fal n 16 m 0 0).1) n (pu h m n) w18j → wpre w0 w18j → J D X w18j 6 90 98 [(5, .int ((fal n 16 m 0 0).2.2)), (4, .int (cntI (stb (mT m) 0 n) 16)), (3, .int (cntI (mOv m n) 16)), (2, .int (bI (mR (fal n 16 m 0 0).1 n).1)), (1, .int ((fal n 16 m 0 0).2.1)), (0, .ref x)] [.int (bI (mR (fal n 16 m 0 0).1 n).1)] := by
      intro  w18j H18j P18j
      refine j_iload_n C 3 dL_cascades_98 rfl rfl ?_
      refine j_icmp_ne C dL_cascades_99 (tgt := 147) (by decide) (fun h => absurd rfl h) (fun _ => ?_)
      refine j_aload_n C 5 dL_cascades_102 rfl rfl ?_
      refine jw_cv_i C (As := []) (rest := []) (lc_cascadeSteps (xl X) D H18j) mfX5_cascadeSteps gL_cascades_X5_cascadeSteps rfl (Nat.le_of_ble_eq_true rfl) (Nat.le_of_ble_eq_true rfl) (Nat.le_of_ble_eq_true rfl) (Nat.le_of_ble_eq_true rfl) (H18j).at0 rfl rfl (Nat.le_of_ble_eq_true rfl) dL_cascades_103 (fun _ _ h => h.2.2) ?_
      rintro _ w19 ⟨rfl, H19, p19⟩
      have P19 := wp_tr P18j p19
      refine j_if_ne C dL_cascades_106 (tgt := 147) (by decide) (fun h => absurd (ca_steps0 hn hV) h) (fun _ => ?_)
      refine j_aload_n C 5 dL_cascades_109 rfl rfl ?_
      refine jw_i C KT (As := [.ref x]) (rest := []) (lb_undo (xl X) hst D H19) mw_undo my_undo gL_cascades_L_undo rfl (Nat.le_of_ble_eq_true rfl) (Nat.le_of_ble_eq_true rfl) (Nat.le_of_ble_eq_true rfl) (Nat.le_of_ble_eq_true rfl) rfl (Nat.le_of_ble_eq_true rfl) dL_cascades_110 (fun _ _ h => h.2.2) ?_
      rintro _ w20 ⟨rfl, H20, p20⟩
      have P20 := wp_tr P19 p20
      refine j_if_lt C dL_cascades_113 (tgt := 147) (by decide) (fun h => absurd h (nI_pos (by have := H20.fc.2.2.2; omega))) (fun _ => ?_)
      refine j_aload_n C 5 dL_cascades_116 rfl rfl ?_
      refine j_iconst C (v := (3 : Int32)) dL_cascades_117 rfl ?_
      refine jw_i C KT (As := [.ref x, .int (3 : Int32)]) (rest := []) (lb_value (xl X) hst D H20 3 (by decide)) mw_value my_value gL_cascades_L_value rfl (Nat.le_of_ble_eq_true rfl) (Nat.le_of_ble_eq_true rfl) (Nat.le_of_ble_eq_true rfl) (Nat.le_of_ble_eq_true rfl) rfl (Nat.le_of_ble_eq_true rfl) dL_cascades_118 (fun _ _ h => h.2.2) ?_
      rintro _ w21 ⟨rfl, H21, p21⟩
      have P21 := wp_tr P20 p21
      refine j_eqi (y := cntI (stb (mT m) 0 n) 16) (vl_3 m n) ?_
      refine j_iload C 1 dL_cascades_121 rfl ?_
      refine j_icmp_ne C dL_cascades_123 (tgt := 147) (by decide) (fun h => absurd rfl h) (fun _ => ?_)
      refine j_aload_n C 5 dL_cascades_126 rfl rfl ?_
      refine j_iconst C (v := (5 : Int32)) dL_cascades_127 rfl ?_
      refine jw_i C KT (As := [.ref x, .int (5 : Int32)]) (rest := []) (lb_value (xl X) hst D H21 5 (by decide)) mw_value my_value gL_cascades_L_value rfl (Nat.le_of_ble_eq_true rfl) (Nat.le_of_ble_eq_true rfl) (Nat.le_of_ble_eq_true rfl) (Nat.le_of_ble_eq_true rfl) rfl (Nat.le_of_ble_eq_true rfl) dL_cascades_128 (fun _ _ h => h.2.2) ?_
      rintro _ w22 ⟨rfl, H22, p22⟩
      have P22 := wp_tr P21 p22
      refine j_eqi (y := cntI (mOv m n) 16) (vl_5 m n) ?_
      refine j_iload_n C 2 dL_cascades_131 rfl rfl ?_
      refine j_icmp_ne C dL_cascades_132 (tgt := 147) (by decide) (fun h => absurd rfl h) (fun _ => ?_)
      refine j_aload_n C 5 dL_cascades_135 rfl rfl ?_
      refine jw_cv_i C (As := []) (rest := []) (lc_cascadeSteps (xl X) D H22) mfX5_cascadeSteps gL_cascades_X5_cascadeSteps rfl (Nat.le_of_ble_eq_true rfl) (Nat.le_of_ble_eq_true rfl) (Nat.le_of_ble_eq_true rfl) (Nat.le_of_ble_eq_true rfl) (H22).at0 rfl rfl (Nat.le_of_ble_eq_true rfl) dL_cascades_136 (fun _ _ h => h.2.2) ?_
      rintro _ w23 ⟨rfl, H23, p23⟩
      have P23 := wp_tr P22 p23
      refine j_iload_n C 4 dL_cascades_139 rfl rfl ?_
      refine j_icmp_ne C dL_cascades_140 (tgt := 147) (by decide) (fun h => absurd rfl h) (fun _ => ?_)
      refine j_iconst C (v := (1 : Int32)) dL_cascades_143 rfl ?_
      refine j_goto C dL_cascades_144 (tgt := 148) (by decide) ?_
      refine j_widen (k' := 6) (n' := 90) (Nat.le_of_ble_eq_true rfl) (Nat.le_of_ble_eq_true rfl) ?_
      exact ret dL_cascades_148 (Or.inr rfl) (⟨rfl, ⟨_, H23⟩, P23⟩)
    refine j_icmp_ne C dL_cascades_90 (tgt := 97) (by decide) (fun h90 => ?_) (fun h90 => ?_)
    · refine j_iconst C (v := (0 : Int32)) dL_cascades_97 rfl ?_
      refine j_eqi (y := bI (mR (fal n 16 m 0 0).1 n).1) (bI_n1 h90) ?_
      refine j_sub [0, 1, 2, 3, 4, 5] (lv' := [(5, .int ((fal n 16 m 0 0).2.2)), (4, .int (cntI (stb (mT m) 0 n) 16)), (3, .int (cntI (mOv m n) 16)), (2, .int (bI (mR (fal n 16 m 0 0).1 n).1)), (1, .int ((fal n 16 m 0 0).2.1)), (0, .ref x)]) rfl ?_
      exact hJ98 w17 H17 P17
    · refine j_iconst C (v := (1 : Int32)) dL_cascades_93 rfl ?_
      refine j_goto C dL_cascades_94 (tgt := 98) (by decide) ?_
      refine j_eqi (y := bI (mR (fal n 16 m 0 0).1 n).1) h90.symm ?_
      refine j_sub [0, 1, 2, 3, 4, 5] (lv' := [(5, .int ((fal n 16 m 0 0).2.2)), (4, .int (cntI (stb (mT m) 0 n) 16)), (3, .int (cntI (mOv m n) 16)), (2, .int (bI (mR (fal n 16 m 0 0).1 n).1)), (1, .int ((fal n 16 m 0 0).2.1)), (0, .ref x)]) rfl ?_
      exact hJ98 w17 H17 P17
