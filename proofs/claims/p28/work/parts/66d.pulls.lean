set_option maxRecDepth 100000 in
set_option maxHeartbeats 4000000 in
theorem lw_pulls (l : Launch) (hst : l.stackTraces = false) (D : KD) {x : Nat} {m : Pg} {n : Nat} {h : Hs} {w0 : va_W} (H : LW D x m n h w0) (k0 : Nat) (hk0 : k0 < n) (j0 : Nat) (hj0 : j0 < n) : MIX l D yL_pulls wsL_pulls 8 168 13 186 [.ref x, .int (nI k0), .int (nI j0)] w0 (fun r w1 => r = 1 ∧ (∃ (m' : Pg) (h' : Hs), LW D x m' n h' w1) ∧ wpre w0 w1) := by
  refine MIX.ofz (cc := cL_pulls) (nL := 8) (lv0 := [(0, .ref x), (1, .int (nI k0)), (2, .int (nI j0))]) (by decide +kernel) rfl (Nat.le_of_ble_eq_true rfl) rfl ?_
  intro X hXl hin C KT ret
  subst hXl
  have P := wp_rfl w0
  obtain ⟨hn, hc, hV, hl4⟩ := H.fc
  refine j_aload_n C 0 dL_pulls_0 rfl rfl ?_
  refine j_iload_n C 1 dL_pulls_1 rfl rfl ?_
  refine j_iconst C (v := (4 : Int32)) dL_pulls_2 rfl ?_
  refine jw_i C KT (As := [.ref x, .int (nI k0), .int (4 : Int32)]) (rest := []) (lb_block (xl X) hst D H k0 (by assumption) 4 (by decide)) mw_block my_block gL_pulls_L_block rfl (Nat.le_of_ble_eq_true rfl) (Nat.le_of_ble_eq_true rfl) (Nat.le_of_ble_eq_true rfl) (Nat.le_of_ble_eq_true rfl) rfl (Nat.le_of_ble_eq_true rfl) dL_pulls_3 (fun _ _ h => h.2.2) ?_
  rintro _ w1 ⟨rfl, H1, p1⟩
  have P1 := wp_tr P p1
  refine j_eqi (y := mT m k0) (bl_4 m n k0) ?_
  refine j_istore_n C dL_pulls_6 rfl (by decide) (lv' := [(3, .int (mT m k0)), (0, .ref x), (1, .int (nI k0)), (2, .int (nI j0))]) rfl ?_
  refine j_aload_n C 1 dL_pulls_7 rfl rfl ?_
  refine j_iconst C (v := (3 : Int32)) dL_pulls_8 rfl ?_
  refine jw_i C KT (As := [.ref x, .int (3 : Int32)]) (rest := []) (lb_value (xl X) hst D H1 3 (by decide)) mw_value my_value gL_pulls_L_value rfl (Nat.le_of_ble_eq_true rfl) (Nat.le_of_ble_eq_true rfl) (Nat.le_of_ble_eq_true rfl) (Nat.le_of_ble_eq_true rfl) rfl (Nat.le_of_ble_eq_true rfl) dL_pulls_9 (fun _ _ h => h.2.2) ?_
  rintro _ w2 ⟨rfl, H2, p2⟩
  have P2 := wp_tr P1 p2
  refine j_eqi (y := cntI (stb (mT m) 0 n) 16) (vl_3 m n) ?_
  refine j_istore C dL_pulls_12 (by decide) (lv' := [(4, .int (cntI (stb (mT m) 0 n) 16)), (3, .int (mT m k0)), (0, .ref x), (1, .int (nI k0)), (2, .int (nI j0))]) rfl ?_
  refine j_aload_n C 2 dL_pulls_14 rfl rfl ?_
  refine jw_cv_i C (As := []) (rest := []) (lc_pullable (xl X) D H2) mfX5_pullable gL_pulls_X5_pullable rfl (Nat.le_of_ble_eq_true rfl) (Nat.le_of_ble_eq_true rfl) (Nat.le_of_ble_eq_true rfl) (Nat.le_of_ble_eq_true rfl) (H2).at0 rfl rfl (Nat.le_of_ble_eq_true rfl) dL_pulls_15 (fun _ _ h => h.2.2) ?_
  rintro _ w3 ⟨rfl, H3, p3⟩
  have P3 := wp_tr P2 p3
  refine j_istore C dL_pulls_18 (by decide) (lv' := [(5, .int (pln m n n)), (4, .int (cntI (stb (mT m) 0 n) 16)), (3, .int (mT m k0)), (0, .ref x), (1, .int (nI k0)), (2, .int (nI j0))]) rfl ?_
  refine j_aload_n C 3 dL_pulls_20 rfl rfl ?_
  refine j_iload_n C 5 dL_pulls_21 rfl rfl ?_
  refine j_iload_n C 4 dL_pulls_22 rfl rfl ?_
  refine jw_i C KT (As := [.ref x, .int (nI j0), .int (nI k0)]) (rest := []) (lb_loadWithout (xl X) hst D H3 j0 hj0 k0 hk0) mw_loadWithout my_loadWithout gL_pulls_L_loadWithout rfl (Nat.le_of_ble_eq_true rfl) (Nat.le_of_ble_eq_true rfl) (Nat.le_of_ble_eq_true rfl) (Nat.le_of_ble_eq_true rfl) rfl (Nat.le_of_ble_eq_true rfl) dL_pulls_23 (fun _ _ h => h.2.2) ?_
  rintro _ w4 ⟨rfl, H4, p4⟩
  have P4 := wp_tr P3 p4
  refine j_istore C dL_pulls_26 (by decide) (lv' := [(6, .int (mLd (mSt m k0 1) n j0)), (5, .int (pln m n n)), (4, .int (cntI (stb (mT m) 0 n) 16)), (3, .int (mT m k0)), (0, .ref x), (1, .int (nI k0)), (2, .int (nI j0))]) rfl ?_
  by_cases hz : mT m k0 = 0
  · by_cases hcp : cpl m n k0 = true
    · refine j_aload_n C 4 dL_pulls_28 rfl rfl ?_
      refine j_iload_n C 5 dL_pulls_29 rfl rfl ?_
      refine jw_i C KT (As := [.ref x, .int (nI k0)]) (rest := []) (lb_pull (xl X) hst D H4 k0 hk0 hz hcp) mw_pull my_pull gL_pulls_L_pull rfl (Nat.le_of_ble_eq_true rfl) (Nat.le_of_ble_eq_true rfl) (Nat.le_of_ble_eq_true rfl) (Nat.le_of_ble_eq_true rfl) rfl (Nat.le_of_ble_eq_true rfl) dL_pulls_30 (fun _ _ h => h.2.2) ?_
      rintro _ w5 ⟨rfl, H5, p5⟩
      have P5 := wp_tr P4 p5
      refine j_istore C dL_pulls_33 (by decide) (lv' := [(7, .int (mGr (mSt m k0 1) n)), (6, .int (mLd (mSt m k0 1) n j0)), (5, .int (pln m n n)), (4, .int (cntI (stb (mT m) 0 n) 16)), (3, .int (mT m k0)), (0, .ref x), (1, .int (nI k0)), (2, .int (nI j0))]) rfl ?_
      refine j_iload C 0 dL_pulls_35 rfl ?_
      refine j_ldc C k_pulls_20 dL_pulls_37 ?_
      refine j_icmp_ne C dL_pulls_39 (tgt := 67) (by decide) (fun _ => ?_) (fun h => absurd h (mGr_ne hn (mSt_val hV (Or.inr (Or.inl rfl)))))
      refine j_iload_n C 4 dL_pulls_67 rfl rfl ?_
      refine j_if_ne C dL_pulls_68 (tgt := 178) (by decide) (fun h => absurd hz h) (fun _ => ?_)
      refine j_iload C 2 dL_pulls_71 rfl ?_
      refine j_if_le C dL_pulls_73 (tgt := 178) (by decide) (fun h => absurd h (pl_pos hn hk0 hz hcp)) (fun _ => ?_)
      refine j_aload_n C 5 dL_pulls_76 rfl rfl ?_
      refine j_iconst C (v := (3 : Int32)) dL_pulls_77 rfl ?_
      refine jw_i C KT (As := [.ref x, .int (3 : Int32)]) (rest := []) (lb_value (xl X) hst D H5 3 (by decide)) mw_value my_value gL_pulls_L_value rfl (Nat.le_of_ble_eq_true rfl) (Nat.le_of_ble_eq_true rfl) (Nat.le_of_ble_eq_true rfl) (Nat.le_of_ble_eq_true rfl) rfl (Nat.le_of_ble_eq_true rfl) dL_pulls_78 (fun _ _ h => h.2.2) ?_
      rintro _ w6 ⟨rfl, H6, p6⟩
      have P6 := wp_tr P5 p6
      refine j_eqi (y := cntI (stb (mT (mSt m k0 1)) 0 n) 16) (vl_3 (mSt m k0 1) n) ?_
      refine j_iload C 3 dL_pulls_81 rfl ?_
      refine j_iconst C (v := (1 : Int32)) dL_pulls_83 rfl ?_
      refine j_isub C dL_pulls_84 ?_
      refine j_icmp_ne C dL_pulls_85 (tgt := 178) (by decide) (fun h => absurd (pl_cnt hn hk0 hz) h) (fun _ => ?_)
      refine j_aload_n C 5 dL_pulls_88 rfl rfl ?_
      refine j_iconst C (v := (5 : Int32)) dL_pulls_89 rfl ?_
      refine jw_i C KT (As := [.ref x, .int (5 : Int32)]) (rest := []) (lb_value (xl X) hst D H6 5 (by decide)) mw_value my_value gL_pulls_L_value rfl (Nat.le_of_ble_eq_true rfl) (Nat.le_of_ble_eq_true rfl) (Nat.le_of_ble_eq_true rfl) (Nat.le_of_ble_eq_true rfl) rfl (Nat.le_of_ble_eq_true rfl) dL_pulls_90 (fun _ _ h => h.2.2) ?_
      rintro _ w7 ⟨rfl, H7, p7⟩
      have P7 := wp_tr P6 p7
      refine j_eqi (y := cntI (mOv (mSt m k0 1) n) 16) (vl_5 (mSt m k0 1) n) ?_
      refine j_if_ne C dL_pulls_93 (tgt := 178) (by decide) (fun h => absurd (by rw [(pl_ov hcp).2]; decide) h) (fun _ => ?_)
      refine j_aload_n C 5 dL_pulls_96 rfl rfl ?_
      refine j_bipush C (v := (6 : Int32)) dL_pulls_97 rfl ?_
      refine jw_i C KT (As := [.ref x, .int (6 : Int32)]) (rest := []) (lb_value (xl X) hst D H7 6 (by decide)) mw_value my_value gL_pulls_L_value rfl (Nat.le_of_ble_eq_true rfl) (Nat.le_of_ble_eq_true rfl) (Nat.le_of_ble_eq_true rfl) (Nat.le_of_ble_eq_true rfl) rfl (Nat.le_of_ble_eq_true rfl) dL_pulls_99 (fun _ _ h => h.2.2) ?_
      rintro _ w8 ⟨rfl, H8, p8⟩
      have P8 := wp_tr P7 p8
      refine j_eqi (y := bI (mR (mSt m k0 1) n).1) (vl_6 (mSt m k0 1) n) ?_
      refine j_iconst C (v := (1 : Int32)) dL_pulls_102 rfl ?_
      refine j_icmp_ne C dL_pulls_103 (tgt := 178) (by decide) (fun h => absurd (by rw [(pl_ov hcp).1]; rfl) h) (fun _ => ?_)
      refine j_iload C 0 dL_pulls_106 rfl ?_
      refine j_aload_n C 5 dL_pulls_108 rfl rfl ?_
      refine j_bipush C (v := (8 : Int32)) dL_pulls_109 rfl ?_
      refine jw_i C KT (As := [.ref x, .int (8 : Int32)]) (rest := [.int (mGr (mSt m k0 1) n)]) (lb_value (xl X) hst D H8 8 (by decide)) mw_value my_value gL_pulls_L_value rfl (Nat.le_of_ble_eq_true rfl) (Nat.le_of_ble_eq_true rfl) (Nat.le_of_ble_eq_true rfl) (Nat.le_of_ble_eq_true rfl) rfl (Nat.le_of_ble_eq_true rfl) dL_pulls_111 (fun _ _ h => h.2.2) ?_
      rintro _ w9 ⟨rfl, H9, p9⟩
      have P9 := wp_tr P8 p9
      refine j_eqi (y := mGr (mSt m k0 1) n) (vl_8 (mSt m k0 1) n) ?_
      refine j_icmp_ne C dL_pulls_114 (tgt := 178) (by decide) (fun h => absurd rfl h) (fun _ => ?_)
      refine j_aload_n C 5 dL_pulls_117 rfl rfl ?_
      refine j_iload_n C 7 dL_pulls_118 rfl rfl ?_
      refine j_iconst C (v := (5 : Int32)) dL_pulls_119 rfl ?_
      refine jw_i C KT (As := [.ref x, .int (nI j0), .int (5 : Int32)]) (rest := []) (lb_block (xl X) hst D H9 j0 (by assumption) 5 (by decide)) mw_block my_block gL_pulls_L_block rfl (Nat.le_of_ble_eq_true rfl) (Nat.le_of_ble_eq_true rfl) (Nat.le_of_ble_eq_true rfl) (Nat.le_of_ble_eq_true rfl) rfl (Nat.le_of_ble_eq_true rfl) dL_pulls_120 (fun _ _ h => h.2.2) ?_
      rintro _ w10 ⟨rfl, H10, p10⟩
      have P10 := wp_tr P9 p10
      refine j_eqi (y := mLo (mSt m k0 1) n j0) (bl_5 (mSt m k0 1) n j0) ?_
      refine j_iload C 1 dL_pulls_123 rfl ?_
      refine j_icmp_ne C dL_pulls_125 (tgt := 178) (by decide) (fun h => absurd (by unfold mLd; rw [if_pos (pl_ov hcp).1]) h) (fun _ => ?_)
      refine j_aload_n C 5 dL_pulls_128 rfl rfl ?_
      refine j_iload_n C 6 dL_pulls_129 rfl rfl ?_
      refine j_iconst C (v := (4 : Int32)) dL_pulls_130 rfl ?_
      refine jw_i C KT (As := [.ref x, .int (nI k0), .int (4 : Int32)]) (rest := []) (lb_block (xl X) hst D H10 k0 (by assumption) 4 (by decide)) mw_block my_block gL_pulls_L_block rfl (Nat.le_of_ble_eq_true rfl) (Nat.le_of_ble_eq_true rfl) (Nat.le_of_ble_eq_true rfl) (Nat.le_of_ble_eq_true rfl) rfl (Nat.le_of_ble_eq_true rfl) dL_pulls_131 (fun _ _ h => h.2.2) ?_
      rintro _ w11 ⟨rfl, H11, p11⟩
      have P11 := wp_tr P10 p11
      refine j_eqi (y := mT (mSt m k0 1) k0) (bl_4 (mSt m k0 1) n k0) ?_
      refine j_iconst C (v := (1 : Int32)) dL_pulls_134 rfl ?_
      refine j_icmp_ne C dL_pulls_135 (tgt := 178) (by decide) (fun h => absurd ((mSt_T m k0 k0 1).trans (if_pos rfl)) h) (fun _ => ?_)
      refine j_aload_n C 5 dL_pulls_138 rfl rfl ?_
      refine j_iload_n C 6 dL_pulls_139 rfl rfl ?_
      refine jw_i C KT (As := [.ref x, .int (nI k0)]) (rest := []) (lb_pullN (xl X) hst D H11 k0 hk0 (by rw [mSt_T, if_pos rfl]; decide)) mw_pull my_pull gL_pulls_L_pull rfl (Nat.le_of_ble_eq_true rfl) (Nat.le_of_ble_eq_true rfl) (Nat.le_of_ble_eq_true rfl) (Nat.le_of_ble_eq_true rfl) rfl (Nat.le_of_ble_eq_true rfl) dL_pulls_140 (fun _ _ h => h.2.2) ?_
      rintro _ w12 ⟨rfl, H12, p12⟩
      have P12 := wp_tr P11 p12
      refine j_ldc C k_pulls_20 dL_pulls_143 ?_
      refine j_icmp_ne C dL_pulls_145 (tgt := 178) (by decide) (fun h => absurd rfl h) (fun _ => ?_)
      refine j_aload_n C 5 dL_pulls_148 rfl rfl ?_
      refine jw_i C KT (As := [.ref x]) (rest := []) (lb_undo (xl X) hst D H12) mw_undo my_undo gL_pulls_L_undo rfl (Nat.le_of_ble_eq_true rfl) (Nat.le_of_ble_eq_true rfl) (Nat.le_of_ble_eq_true rfl) (Nat.le_of_ble_eq_true rfl) rfl (Nat.le_of_ble_eq_true rfl) dL_pulls_149 (fun _ _ h => h.2.2) ?_
      rintro _ w13 ⟨rfl, H13, p13⟩
      have P13 := wp_tr P12 p13
      refine j_if_lt C dL_pulls_152 (tgt := 178) (by decide) (fun h => absurd h (nI_pos (by have := H13.fc.2.2.2; omega))) (fun _ => ?_)
      refine j_aload_n C 5 dL_pulls_155 rfl rfl ?_
      refine j_iload_n C 6 dL_pulls_156 rfl rfl ?_
      refine j_iconst C (v := (4 : Int32)) dL_pulls_157 rfl ?_
      refine jw_i C KT (As := [.ref x, .int (nI k0), .int (4 : Int32)]) (rest := []) (lb_block (xl X) hst D H13 k0 (by assumption) 4 (by decide)) mw_block my_block gL_pulls_L_block rfl (Nat.le_of_ble_eq_true rfl) (Nat.le_of_ble_eq_true rfl) (Nat.le_of_ble_eq_true rfl) (Nat.le_of_ble_eq_true rfl) rfl (Nat.le_of_ble_eq_true rfl) dL_pulls_158 (fun _ _ h => h.2.2) ?_
      rintro _ w14 ⟨rfl, H14, p14⟩
      have P14 := wp_tr P13 p14
      refine j_eqi (y := mT m k0) (bl_4 m n k0) ?_
      refine j_if_ne C dL_pulls_161 (tgt := 178) (by decide) (fun h => absurd hz h) (fun _ => ?_)
      refine j_aload_n C 5 dL_pulls_164 rfl rfl ?_
      refine j_iload_n C 6 dL_pulls_165 rfl rfl ?_
      refine jw_i C KT (As := [.ref x, .int (nI k0)]) (rest := []) (lb_pull (xl X) hst D H14 k0 hk0 hz hcp) mw_pull my_pull gL_pulls_L_pull rfl (Nat.le_of_ble_eq_true rfl) (Nat.le_of_ble_eq_true rfl) (Nat.le_of_ble_eq_true rfl) (Nat.le_of_ble_eq_true rfl) rfl (Nat.le_of_ble_eq_true rfl) dL_pulls_166 (fun _ _ h => h.2.2) ?_
      rintro _ w15 ⟨rfl, H15, p15⟩
      have P15 := wp_tr P14 p15
      refine j_iload C 0 dL_pulls_169 rfl ?_
      refine j_icmp_ne C dL_pulls_171 (tgt := 178) (by decide) (fun h => absurd rfl h) (fun _ => ?_)
      refine j_iconst C (v := (1 : Int32)) dL_pulls_174 rfl ?_
      refine j_goto C dL_pulls_175 (tgt := 179) (by decide) ?_
      refine j_widen (k' := 13) (n' := 186) (Nat.le_of_ble_eq_true rfl) (Nat.le_of_ble_eq_true rfl) ?_
      exact ret dL_pulls_179 (Or.inr rfl) (⟨rfl, ⟨_, _, H15⟩, P15⟩)
    · refine j_aload_n C 4 dL_pulls_28 rfl rfl ?_
      refine j_iload_n C 5 dL_pulls_29 rfl rfl ?_
      refine jw_i C KT (As := [.ref x, .int (nI k0)]) (rest := []) (lb_pullF (xl X) hst D H4 k0 hk0 hz (by simpa using hcp)) mw_pull my_pull gL_pulls_L_pull rfl (Nat.le_of_ble_eq_true rfl) (Nat.le_of_ble_eq_true rfl) (Nat.le_of_ble_eq_true rfl) (Nat.le_of_ble_eq_true rfl) rfl (Nat.le_of_ble_eq_true rfl) dL_pulls_30 (fun _ _ h => h.2.2) ?_
      rintro _ w16 ⟨rfl, H16, p16⟩
      have P16 := wp_tr P4 p16
      refine j_istore C dL_pulls_33 (by decide) (lv' := [(7, .int (-9020000 : Int32)), (6, .int (mLd (mSt m k0 1) n j0)), (5, .int (pln m n n)), (4, .int (cntI (stb (mT m) 0 n) 16)), (3, .int (mT m k0)), (0, .ref x), (1, .int (nI k0)), (2, .int (nI j0))]) rfl ?_
      refine j_iload C 0 dL_pulls_35 rfl ?_
      refine j_ldc C k_pulls_20 dL_pulls_37 ?_
      refine j_icmp_ne C dL_pulls_39 (tgt := 67) (by decide) (fun h => absurd rfl h) (fun _ => ?_)
      refine j_aload_n C 5 dL_pulls_42 rfl rfl ?_
      refine j_iconst C (v := (3 : Int32)) dL_pulls_43 rfl ?_
      refine jw_i C KT (As := [.ref x, .int (3 : Int32)]) (rest := []) (lb_value (xl X) hst D H16 3 (by decide)) mw_value my_value gL_pulls_L_value rfl (Nat.le_of_ble_eq_true rfl) (Nat.le_of_ble_eq_true rfl) (Nat.le_of_ble_eq_true rfl) (Nat.le_of_ble_eq_true rfl) rfl (Nat.le_of_ble_eq_true rfl) dL_pulls_44 (fun _ _ h => h.2.2) ?_
      rintro _ w17 ⟨rfl, H17, p17⟩
      have P17 := wp_tr P16 p17
      refine j_eqi (y := cntI (stb (mT m) 0 n) 16) (vl_3 m n) ?_
      refine j_iload C 3 dL_pulls_47 rfl ?_
      refine j_icmp_ne C dL_pulls_49 (tgt := 65) (by decide) (fun h => absurd rfl h) (fun _ => ?_)
      refine j_aload_n C 5 dL_pulls_52 rfl rfl ?_
      refine jw_cv_i C (As := []) (rest := []) (lc_pullable (xl X) D H17) mfX5_pullable gL_pulls_X5_pullable rfl (Nat.le_of_ble_eq_true rfl) (Nat.le_of_ble_eq_true rfl) (Nat.le_of_ble_eq_true rfl) (Nat.le_of_ble_eq_true rfl) (H17).at0 rfl rfl (Nat.le_of_ble_eq_true rfl) dL_pulls_53 (fun _ _ h => h.2.2) ?_
      rintro _ w18 ⟨rfl, H18, p18⟩
      have P18 := wp_tr P17 p18
      refine j_iload C 2 dL_pulls_56 rfl ?_
      refine j_icmp_ne C dL_pulls_58 (tgt := 65) (by decide) (fun h => absurd rfl h) (fun _ => ?_)
      refine j_iconst C (v := (1 : Int32)) dL_pulls_61 rfl ?_
      refine j_goto C dL_pulls_62 (tgt := 66) (by decide) ?_
      refine j_widen (k' := 13) (n' := 186) (Nat.le_of_ble_eq_true rfl) (Nat.le_of_ble_eq_true rfl) ?_
      exact ret dL_pulls_66 (Or.inr rfl) (⟨rfl, ⟨_, _, H18⟩, P18⟩)
  · refine j_aload_n C 4 dL_pulls_28 rfl rfl ?_
    refine j_iload_n C 5 dL_pulls_29 rfl rfl ?_
    refine jw_i C KT (As := [.ref x, .int (nI k0)]) (rest := []) (lb_pullN (xl X) hst D H4 k0 hk0 hz) mw_pull my_pull gL_pulls_L_pull rfl (Nat.le_of_ble_eq_true rfl) (Nat.le_of_ble_eq_true rfl) (Nat.le_of_ble_eq_true rfl) (Nat.le_of_ble_eq_true rfl) rfl (Nat.le_of_ble_eq_true rfl) dL_pulls_30 (fun _ _ h => h.2.2) ?_
    rintro _ w19 ⟨rfl, H19, p19⟩
    have P19 := wp_tr P4 p19
    refine j_istore C dL_pulls_33 (by decide) (lv' := [(7, .int (-9020000 : Int32)), (6, .int (mLd (mSt m k0 1) n j0)), (5, .int (pln m n n)), (4, .int (cntI (stb (mT m) 0 n) 16)), (3, .int (mT m k0)), (0, .ref x), (1, .int (nI k0)), (2, .int (nI j0))]) rfl ?_
    refine j_iload C 0 dL_pulls_35 rfl ?_
    refine j_ldc C k_pulls_20 dL_pulls_37 ?_
    refine j_icmp_ne C dL_pulls_39 (tgt := 67) (by decide) (fun h => absurd rfl h) (fun _ => ?_)
    refine j_aload_n C 5 dL_pulls_42 rfl rfl ?_
    refine j_iconst C (v := (3 : Int32)) dL_pulls_43 rfl ?_
    refine jw_i C KT (As := [.ref x, .int (3 : Int32)]) (rest := []) (lb_value (xl X) hst D H19 3 (by decide)) mw_value my_value gL_pulls_L_value rfl (Nat.le_of_ble_eq_true rfl) (Nat.le_of_ble_eq_true rfl) (Nat.le_of_ble_eq_true rfl) (Nat.le_of_ble_eq_true rfl) rfl (Nat.le_of_ble_eq_true rfl) dL_pulls_44 (fun _ _ h => h.2.2) ?_
    rintro _ w20 ⟨rfl, H20, p20⟩
    have P20 := wp_tr P19 p20
    refine j_eqi (y := cntI (stb (mT m) 0 n) 16) (vl_3 m n) ?_
    refine j_iload C 3 dL_pulls_47 rfl ?_
    refine j_icmp_ne C dL_pulls_49 (tgt := 65) (by decide) (fun h => absurd rfl h) (fun _ => ?_)
    refine j_aload_n C 5 dL_pulls_52 rfl rfl ?_
    refine jw_cv_i C (As := []) (rest := []) (lc_pullable (xl X) D H20) mfX5_pullable gL_pulls_X5_pullable rfl (Nat.le_of_ble_eq_true rfl) (Nat.le_of_ble_eq_true rfl) (Nat.le_of_ble_eq_true rfl) (Nat.le_of_ble_eq_true rfl) (H20).at0 rfl rfl (Nat.le_of_ble_eq_true rfl) dL_pulls_53 (fun _ _ h => h.2.2) ?_
    rintro _ w21 ⟨rfl, H21, p21⟩
    have P21 := wp_tr P20 p21
    refine j_iload C 2 dL_pulls_56 rfl ?_
    refine j_icmp_ne C dL_pulls_58 (tgt := 65) (by decide) (fun h => absurd rfl h) (fun _ => ?_)
    refine j_iconst C (v := (1 : Int32)) dL_pulls_61 rfl ?_
    refine j_goto C dL_pulls_62 (tgt := 66) (by decide) ?_
    refine j_widen (k' := 13) (n' := 186) (Nat.le_of_ble_eq_true rfl) (Nat.le_of_ble_eq_true rfl) ?_
    exact ret dL_pulls_66 (Or.inr rfl) (⟨rfl, ⟨_, _, H21⟩, P21⟩)
