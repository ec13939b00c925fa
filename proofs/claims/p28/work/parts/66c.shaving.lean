set_option maxRecDepth 100000 in
set_option maxHeartbeats 4000000 in
theorem lw_shaving (l : Launch) (hst : l.stackTraces = false) (D : KD) {x : Nat} {m : Pg} {n : Nat} {h : Hs} {w0 : va_W} (H : LW D x m n h w0) : MIX l D yL_shaving wsL_shaving 6 146 6 90 [.ref x] w0 (fun r w1 => r = 1 ∧ (∃ (m' : Pg) (h' : Hs), LW D x m' n h' w1) ∧ wpre w0 w1) := by
  refine MIX.ofz (cc := cL_shaving) (nL := 7) (lv0 := [(0, .ref x)]) (by decide +kernel) rfl (Nat.le_of_ble_eq_true rfl) rfl ?_
  intro X hXl hin C KT ret
  subst hXl
  have P := wp_rfl w0
  obtain ⟨hn, hc, hV, hl4⟩ := H.fc
  refine j_aload_n C 0 dL_shaving_0 rfl rfl ?_
  refine jw_cv_i C (As := []) (rest := []) (lc_shavingSteps (xl X) D H) mfX5_shavingSteps gL_shaving_X5_shavingSteps rfl (Nat.le_of_ble_eq_true rfl) (Nat.le_of_ble_eq_true rfl) (Nat.le_of_ble_eq_true rfl) (Nat.le_of_ble_eq_true rfl) (H).at0 rfl rfl (Nat.le_of_ble_eq_true rfl) dL_shaving_1 (fun _ _ h => h.2.2) ?_
  rintro _ w1 ⟨rfl, H1, p1⟩
  have P1 := wp_tr P p1
  refine j_istore_n C dL_shaving_4 rfl (by decide) (lv' := [(1, .int (mSs m n)), (0, .ref x)]) rfl ?_
  refine j_iconst C (v := (0 : Int32)) dL_shaving_5 rfl ?_
  refine j_istore_n C dL_shaving_6 rfl (by decide) (lv' := [(2, .int (0 : Int32)), (1, .int (mSs m n)), (0, .ref x)]) rfl ?_
  refine j_iconst C (v := (0 : Int32)) dL_shaving_7 rfl ?_
  refine j_istore_n C dL_shaving_8 rfl (by decide) (lv' := [(3, .int (0 : Int32)), (2, .int (0 : Int32)), (1, .int (mSs m n)), (0, .ref x)]) rfl ?_
  refine j_aload_n C 3 dL_shaving_9 rfl rfl ?_
  refine j_iconst C (v := (2 : Int32)) dL_shaving_10 rfl ?_
  refine jw_i C KT (As := [.ref x, .int (2 : Int32)]) (rest := []) (lb_value (xl X) hst D H1 2 (by decide)) mw_value my_value gL_shaving_L_value rfl (Nat.le_of_ble_eq_true rfl) (Nat.le_of_ble_eq_true rfl) (Nat.le_of_ble_eq_true rfl) (Nat.le_of_ble_eq_true rfl) rfl (Nat.le_of_ble_eq_true rfl) dL_shaving_11 (fun _ _ h => h.2.2) ?_
  rintro _ w2 ⟨rfl, H2, p2⟩
  have P2 := wp_tr P1 p2
  refine j_eqi (y := nI n) H2.fc.2.1 ?_
  refine j_istore C dL_shaving_14 (by decide) (lv' := [(4, .int (nI n)), (3, .int (0 : Int32)), (2, .int (0 : Int32)), (1, .int (mSs m n)), (0, .ref x)]) rfl ?_
  refine j_iconst C (v := (0 : Int32)) dL_shaving_16 rfl ?_
  refine j_eqi (y := nI 0) rfl ?_
  refine j_istore C dL_shaving_17 (by decide) (lv' := [(5, .int (nI 0)), (4, .int (nI n)), (3, .int (0 : Int32)), (2, .int (0 : Int32)), (1, .int (mSs m n)), (0, .ref x)]) rfl ?_
  have hl19 : ∀ i19, i19 ≤ n → ∀ (w3l : va_W), LW D x m n h w3l → wpre w0 w3l → J D X w3l 0 0 19 [(5, .int (nI i19)), (2, .int (smL (mH m) i19)), (3, .int (smL (mS m) i19)), (4, .int (nI n)), (1, .int (mSs m n)), (0, .ref x)] [] := by
    refine for_up n ?_ ?_
    · intro w3l H3l P3l
      refine j_iload C 0 dL_shaving_19 rfl ?_
      refine j_iload C 3 dL_shaving_21 rfl ?_
      refine j_icmp_ge C dL_shaving_23 (tgt := 53) (by decide) (fun _ => ?_) (fun h => absurd (nI_le (Nat.le_refl _) (by omega)) h)
      refine j_aload_n C 5 dL_shaving_53 rfl rfl ?_
      refine jw_cv_i C (As := []) (rest := []) (lc_shave (xl X) D H3l) mfX5_shave gL_shaving_X5_shave rfl (Nat.le_of_ble_eq_true rfl) (Nat.le_of_ble_eq_true rfl) (Nat.le_of_ble_eq_true rfl) (Nat.le_of_ble_eq_true rfl) (H3l).at0 rfl rfl (Nat.le_of_ble_eq_true rfl) dL_shaving_54 (fun _ _ h => h.2.2) ?_
      rintro _ w4 ⟨rfl, H4, p4⟩
      have P4 := wp_tr P3l p4
      refine j_istore C dL_shaving_57 (by decide) (lv' := [(5, .int ((shv n 100 m 0).2)), (2, .int (smL (mH m) n)), (3, .int (smL (mS m) n)), (4, .int (nI n)), (1, .int (mSs m n)), (0, .ref x)]) rfl ?_
      refine j_iconst C (v := (0 : Int32)) dL_shaving_59 rfl ?_
      refine j_istore C dL_shaving_60 (by decide) (lv' := [(6, .int (0 : Int32)), (5, .int ((shv n 100 m 0).2)), (2, .int (smL (mH m) n)), (3, .int (smL (mS m) n)), (4, .int (nI n)), (1, .int (mSs m n)), (0, .ref x)]) rfl ?_
      have hl62 : ∀ i62, i62 ≤ n → ∀ (w5l : va_W), LW D x ((shv n 100 m 0).1) n (pu h m n) w5l → wpre w0 w5l → J D X w5l 6 90 62 [(6, .int (nI i62)), (2, .int (smL (mH m) n - smL (mH (shv n 100 m 0).1) i62)), (3, .int (smL (mS m) n - smL (mS (shv n 100 m 0).1) i62)), (4, .int (nI n)), (5, .int ((shv n 100 m 0).2)), (1, .int (mSs m n)), (0, .ref x)] [] := by
        refine for_up n ?_ ?_
        · intro w5l H5l P5l
          refine j_iload C 0 dL_shaving_62 rfl ?_
          refine j_iload C 3 dL_shaving_64 rfl ?_
          refine j_icmp_ge C dL_shaving_66 (tgt := 96) (by decide) (fun _ => ?_) (fun h => absurd (nI_le (Nat.le_refl _) (by omega)) h)
          refine j_aload_n C 6 dL_shaving_96 rfl rfl ?_
          refine j_bipush C (v := (6 : Int32)) dL_shaving_97 rfl ?_
          refine jw_i C KT (As := [.ref x, .int (6 : Int32)]) (rest := []) (lb_value (xl X) hst D H5l 6 (by decide)) mw_value my_value gL_shaving_L_value rfl (Nat.le_of_ble_eq_true rfl) (Nat.le_of_ble_eq_true rfl) (Nat.le_of_ble_eq_true rfl) (Nat.le_of_ble_eq_true rfl) rfl (Nat.le_of_ble_eq_true rfl) dL_shaving_99 (fun _ _ h => h.2.2) ?_
          rintro _ w6 ⟨rfl, H6, p6⟩
          have P6 := wp_tr P5l p6
          refine j_eqi (y := bI (mR ((shv n 100 m 0).1) n).1) (vl_6 ((shv n 100 m 0).1) n) ?_
          refine j_iconst C (v := (1 : Int32)) dL_shaving_102 rfl ?_
          have hJ119 : ∀ (w7j : va_W), LW D x ((shv n 100 m 0).1) n (pu h m n) w7j → wpre w0 w7j → J D X w7j 6 90 119 [(6, .int (nI n)), (2, .int (smL (mH m) n - smL (mH (shv n 100 m 0).1) n)), (3, .int (smL (mS m) n - smL (mS (shv n 100 m 0).1) n)), (4, .int (nI n)), (5, .int ((shv n 100 m 0).2)), (1, .int (mSs m n)), (0, .ref x)] [.int (bI (mSf (shv n 100 m 0).1 n))] := by
            intro  w7j H7j P7j
            refine j_istore C dL_shaving_119 (by decide) (lv' := [(6, .int (bI (mSf (shv n 100 m 0).1 n))), (2, .int (smL (mH m) n - smL (mH (shv n 100 m 0).1) n)), (3, .int (smL (mS m) n - smL (mS (shv n 100 m 0).1) n)), (4, .int (nI n)), (5, .int ((shv n 100 m 0).2)), (1, .int (mSs m n)), (0, .ref x)]) rfl ?_
            refine j_iload C 4 dL_shaving_121 rfl ?_
            refine j_if_lt C dL_shaving_123 (tgt := 170) (by decide) (fun h => absurd h ((sh_x m hn).1)) (fun _ => ?_)
            refine j_iload C 4 dL_shaving_126 rfl ?_
            refine j_bipush C (v := (101 : Int32)) dL_shaving_128 rfl ?_
            refine j_icmp_ge C dL_shaving_130 (tgt := 170) (by decide) (fun h => absurd h ((sh_x m hn).2.1)) (fun _ => ?_)
            refine j_iload_n C 5 dL_shaving_133 rfl rfl ?_
            refine j_iload C 0 dL_shaving_134 rfl ?_
            have hJ150 : ∀ (w8j : va_W), LW D x ((shv n 100 m 0).1) n (pu h m n) w8j → wpre w0 w8j → J D X w8j 6 90 150 [(6, .int (bI (mSf (shv n 100 m 0).1 n))), (2, .int (smL (mH m) n - smL (mH (shv n 100 m 0).1) n)), (3, .int (smL (mS m) n - smL (mS (shv n 100 m 0).1) n)), (4, .int (nI n)), (5, .int ((shv n 100 m 0).2)), (1, .int (mSs m n)), (0, .ref x)] [.int (mSs m n), .int (mSs m n)] := by
              intro  w8j H8j P8j
              refine j_icmp_ne C dL_shaving_150 (tgt := 170) (by decide) (fun h => absurd rfl h) (fun _ => ?_)
              refine j_iload_n C 1 dL_shaving_153 rfl rfl ?_
              refine j_iload C 4 dL_shaving_154 rfl ?_
              refine j_icmp_ne C dL_shaving_156 (tgt := 170) (by decide) (fun h => absurd ((sh_x m hn).2.2.1) h) (fun _ => ?_)
              refine j_iload_n C 2 dL_shaving_159 rfl rfl ?_
              refine j_iload C 4 dL_shaving_160 rfl ?_
              refine j_ineg C dL_shaving_162 ?_
              refine j_icmp_ne C dL_shaving_163 (tgt := 170) (by decide) (fun h => absurd ((sh_x m hn).2.2.2) h) (fun _ => ?_)
              refine j_iconst C (v := (1 : Int32)) dL_shaving_166 rfl ?_
              refine j_goto C dL_shaving_167 (tgt := 171) (by decide) ?_
              refine j_widen (k' := 6) (n' := 90) (Nat.le_of_ble_eq_true rfl) (Nat.le_of_ble_eq_true rfl) ?_
              exact ret dL_shaving_171 (Or.inr rfl) (⟨rfl, ⟨_, _, H8j⟩, P8j⟩)
            refine j_bif_eq C dL_shaving_136 (tgt := 144) (by decide) (fun h136 => ?_) (fun h136 => ?_)
            · refine j_sipush C (v := (-1000 : Int32)) dL_shaving_144 rfl ?_
              refine j_iload C 4 dL_shaving_147 rfl ?_
              refine j_isub C dL_shaving_149 ?_
              refine j_eqi (y := mSs m n) ((mSs_f h136).symm) ?_
              refine j_sub [0, 1, 2, 3, 4, 5, 6] (lv' := [(6, .int (bI (mSf (shv n 100 m 0).1 n))), (2, .int (smL (mH m) n - smL (mH (shv n 100 m 0).1) n)), (3, .int (smL (mS m) n - smL (mS (shv n 100 m 0).1) n)), (4, .int (nI n)), (5, .int ((shv n 100 m 0).2)), (1, .int (mSs m n)), (0, .ref x)]) rfl ?_
              exact hJ150 w7j H7j P7j
            · refine j_iload C 4 dL_shaving_139 rfl ?_
              refine j_goto C dL_shaving_141 (tgt := 150) (by decide) ?_
              refine j_eqi (y := mSs m n) ((mSs_t h136).symm) ?_
              refine j_sub [0, 1, 2, 3, 4, 5, 6] (lv' := [(6, .int (bI (mSf (shv n 100 m 0).1 n))), (2, .int (smL (mH m) n - smL (mH (shv n 100 m 0).1) n)), (3, .int (smL (mS m) n - smL (mS (shv n 100 m 0).1) n)), (4, .int (nI n)), (5, .int ((shv n 100 m 0).2)), (1, .int (mSs m n)), (0, .ref x)]) rfl ?_
              exact hJ150 w7j H7j P7j
          refine j_icmp_ne C dL_shaving_103 (tgt := 118) (by decide) (fun h103 => ?_) (fun h103 => ?_)
          · refine j_iconst C (v := (0 : Int32)) dL_shaving_118 rfl ?_
            refine j_eqi (y := bI (mSf (shv n 100 m 0).1 n)) (by rw [mSf_f1 (bI_no h103)]; rfl) ?_
            refine j_sub [0, 1, 2, 3, 4, 5, 6] (lv' := [(6, .int (nI n)), (2, .int (smL (mH m) n - smL (mH (shv n 100 m 0).1) n)), (3, .int (smL (mS m) n - smL (mS (shv n 100 m 0).1) n)), (4, .int (nI n)), (5, .int ((shv n 100 m 0).2)), (1, .int (mSs m n)), (0, .ref x)]) rfl ?_
            exact hJ119 w6 H6 P6
          · have h103b : (mR (shv n 100 m 0).1 n).1 = true := (bI_eq1 _).mp h103
            refine j_aload_n C 6 dL_shaving_106 rfl rfl ?_
            refine j_iconst C (v := (5 : Int32)) dL_shaving_107 rfl ?_
            refine jw_i C KT (As := [.ref x, .int (5 : Int32)]) (rest := []) (lb_value (xl X) hst D H6 5 (by decide)) mw_value my_value gL_shaving_L_value rfl (Nat.le_of_ble_eq_true rfl) (Nat.le_of_ble_eq_true rfl) (Nat.le_of_ble_eq_true rfl) (Nat.le_of_ble_eq_true rfl) rfl (Nat.le_of_ble_eq_true rfl) dL_shaving_108 (fun _ _ h => h.2.2) ?_
            rintro _ w9 ⟨rfl, H9, p9⟩
            have P9 := wp_tr P6 p9
            refine j_eqi (y := cntI (mOv ((shv n 100 m 0).1) n) 16) (vl_5 ((shv n 100 m 0).1) n) ?_
            refine j_if_ne C dL_shaving_111 (tgt := 118) (by decide) (fun h111 => ?_) (fun h111 => ?_)
            · refine j_iconst C (v := (0 : Int32)) dL_shaving_118 rfl ?_
              refine j_eqi (y := bI (mSf (shv n 100 m 0).1 n)) (by rw [mSf_f2 (fun z => h111 ((ov_0 hn).mpr z))]; rfl) ?_
              refine j_sub [0, 1, 2, 3, 4, 5, 6] (lv' := [(6, .int (nI n)), (2, .int (smL (mH m) n - smL (mH (shv n 100 m 0).1) n)), (3, .int (smL (mS m) n - smL (mS (shv n 100 m 0).1) n)), (4, .int (nI n)), (5, .int ((shv n 100 m 0).2)), (1, .int (mSs m n)), (0, .ref x)]) rfl ?_
              exact hJ119 w9 H9 P9
            · refine j_iconst C (v := (1 : Int32)) dL_shaving_114 rfl ?_
              refine j_goto C dL_shaving_115 (tgt := 119) (by decide) ?_
              refine j_eqi (y := bI (mSf (shv n 100 m 0).1 n)) (by rw [mSf_t h103b ((ov_0 hn).mp h111)]; rfl) ?_
              refine j_sub [0, 1, 2, 3, 4, 5, 6] (lv' := [(6, .int (nI n)), (2, .int (smL (mH m) n - smL (mH (shv n 100 m 0).1) n)), (3, .int (smL (mS m) n - smL (mS (shv n 100 m 0).1) n)), (4, .int (nI n)), (5, .int ((shv n 100 m 0).2)), (1, .int (mSs m n)), (0, .ref x)]) rfl ?_
              exact hJ119 w9 H9 P9
        · intro i62 hi62 ih62 w5l H5l P5l
          refine j_iload C 0 dL_shaving_62 rfl ?_
          refine j_iload C 3 dL_shaving_64 rfl ?_
          refine j_icmp_ge C dL_shaving_66 (tgt := 96) (by decide) (fun h => absurd h (nI_ge hi62 (by omega))) (fun _ => ?_)
          refine j_iload_n C 1 dL_shaving_69 rfl rfl ?_
          refine j_aload_n C 6 dL_shaving_70 rfl rfl ?_
          refine j_iload C 0 dL_shaving_71 rfl ?_
          refine j_iconst C (v := (2 : Int32)) dL_shaving_73 rfl ?_
          refine jw_i C KT (As := [.ref x, .int (nI i62), .int (2 : Int32)]) (rest := [.int (smL (mH m) n - smL (mH (shv n 100 m 0).1) i62)]) (lb_block (xl X) hst D H5l i62 (by assumption) 2 (by decide)) mw_block my_block gL_shaving_L_block rfl (Nat.le_of_ble_eq_true rfl) (Nat.le_of_ble_eq_true rfl) (Nat.le_of_ble_eq_true rfl) (Nat.le_of_ble_eq_true rfl) rfl (Nat.le_of_ble_eq_true rfl) dL_shaving_74 (fun _ _ h => h.2.2) ?_
          rintro _ w10 ⟨rfl, H10, p10⟩
          have P10 := wp_tr P5l p10
          refine j_eqi (y := mH ((shv n 100 m 0).1) i62) (bl_2 ((shv n 100 m 0).1) n i62) ?_
          refine j_isub C dL_shaving_77 ?_
          refine j_eqi (y := smL (mH m) n - smL (mH (shv n 100 m 0).1) (i62 + 1)) (sub_s _ _ _) ?_
          refine j_istore_n C dL_shaving_78 rfl (by decide) (lv' := [(2, .int (smL (mH m) n - smL (mH (shv n 100 m 0).1) (i62 + 1))), (6, .int (nI i62)), (3, .int (smL (mS m) n - smL (mS (shv n 100 m 0).1) i62)), (4, .int (nI n)), (5, .int ((shv n 100 m 0).2)), (1, .int (mSs m n)), (0, .ref x)]) rfl ?_
          refine j_iload_n C 2 dL_shaving_79 rfl rfl ?_
          refine j_aload_n C 6 dL_shaving_80 rfl rfl ?_
          refine j_iload C 1 dL_shaving_81 rfl ?_
          refine j_bipush C (v := (8 : Int32)) dL_shaving_83 rfl ?_
          refine jw_i C KT (As := [.ref x, .int (nI i62), .int (8 : Int32)]) (rest := [.int (smL (mS m) n - smL (mS (shv n 100 m 0).1) i62)]) (lb_block (xl X) hst D H10 i62 (by assumption) 8 (by decide)) mw_block my_block gL_shaving_L_block rfl (Nat.le_of_ble_eq_true rfl) (Nat.le_of_ble_eq_true rfl) (Nat.le_of_ble_eq_true rfl) (Nat.le_of_ble_eq_true rfl) rfl (Nat.le_of_ble_eq_true rfl) dL_shaving_85 (fun _ _ h => h.2.2) ?_
          rintro _ w11 ⟨rfl, H11, p11⟩
          have P11 := wp_tr P10 p11
          refine j_eqi (y := mS ((shv n 100 m 0).1) i62) (bl_8 ((shv n 100 m 0).1) n i62) ?_
          refine j_isub C dL_shaving_88 ?_
          refine j_eqi (y := smL (mS m) n - smL (mS (shv n 100 m 0).1) (i62 + 1)) (sub_s _ _ _) ?_
          refine j_istore_n C dL_shaving_89 rfl (by decide) (lv' := [(3, .int (smL (mS m) n - smL (mS (shv n 100 m 0).1) (i62 + 1))), (2, .int (smL (mH m) n - smL (mH (shv n 100 m 0).1) (i62 + 1))), (6, .int (nI i62)), (4, .int (nI n)), (5, .int ((shv n 100 m 0).2)), (1, .int (mSs m n)), (0, .ref x)]) rfl ?_
          refine j_iinc C 2 dL_shaving_90 rfl (v := nI (i62 + 1)) (nI_1 _) (by decide) (lv' := [(6, .int (nI (i62 + 1))), (3, .int (smL (mS m) n - smL (mS (shv n 100 m 0).1) (i62 + 1))), (2, .int (smL (mH m) n - smL (mH (shv n 100 m 0).1) (i62 + 1))), (4, .int (nI n)), (5, .int ((shv n 100 m 0).2)), (1, .int (mSs m n)), (0, .ref x)]) rfl ?_
          refine j_goto C dL_shaving_93 (tgt := 62) (by decide) ?_
          refine j_sub [0, 2, 1, 3, 4, 5, 6] (lv' := [(6, .int (nI (i62 + 1))), (2, .int (smL (mH m) n - smL (mH (shv n 100 m 0).1) (i62 + 1))), (3, .int (smL (mS m) n - smL (mS (shv n 100 m 0).1) (i62 + 1))), (4, .int (nI n)), (5, .int ((shv n 100 m 0).2)), (1, .int (mSs m n)), (0, .ref x)]) rfl ?_
          exact ih62 w11 H11 P11
      refine j_sub [0, 2, 3, 4, 1, 5, 6] (lv' := [(6, .int (0 : Int32)), (2, .int (smL (mH m) n)), (3, .int (smL (mS m) n)), (4, .int (nI n)), (5, .int ((shv n 100 m 0).2)), (1, .int (mSs m n)), (0, .ref x)]) rfl ?_
      rw [show smL (mH m) n = smL (mH m) n - smL (mH (shv n 100 m 0).1) 0 from (Int32.sub_zero _).symm, show smL (mS m) n = smL (mS m) n - smL (mS (shv n 100 m 0).1) 0 from (Int32.sub_zero _).symm]
      exact hl62 0 (Nat.zero_le _) w4 H4 P4
    · intro i19 hi19 ih19 w3l H3l P3l
      refine j_iload C 0 dL_shaving_19 rfl ?_
      refine j_iload C 3 dL_shaving_21 rfl ?_
      refine j_icmp_ge C dL_shaving_23 (tgt := 53) (by decide) (fun h => absurd h (nI_ge hi19 (by omega))) (fun _ => ?_)
      refine j_iload_n C 1 dL_shaving_26 rfl rfl ?_
      refine j_aload_n C 5 dL_shaving_27 rfl rfl ?_
      refine j_iload C 0 dL_shaving_28 rfl ?_
      refine j_iconst C (v := (2 : Int32)) dL_shaving_30 rfl ?_
      refine jw_i C KT (As := [.ref x, .int (nI i19), .int (2 : Int32)]) (rest := [.int (smL (mH m) i19)]) (lb_block (xl X) hst D H3l i19 (by assumption) 2 (by decide)) mw_block my_block gL_shaving_L_block rfl (Nat.le_of_ble_eq_true rfl) (Nat.le_of_ble_eq_true rfl) (Nat.le_of_ble_eq_true rfl) (Nat.le_of_ble_eq_true rfl) rfl (Nat.le_of_ble_eq_true rfl) dL_shaving_31 (fun _ _ h => h.2.2) ?_
      rintro _ w12 ⟨rfl, H12, p12⟩
      have P12 := wp_tr P3l p12
      refine j_eqi (y := mH m i19) (bl_2 m n i19) ?_
      refine j_iadd C dL_shaving_34 ?_
      refine j_eqi (y := smL (mH m) (i19 + 1)) rfl ?_
      refine j_istore_n C dL_shaving_35 rfl (by decide) (lv' := [(2, .int (smL (mH m) (i19 + 1))), (5, .int (nI i19)), (3, .int (smL (mS m) i19)), (4, .int (nI n)), (1, .int (mSs m n)), (0, .ref x)]) rfl ?_
      refine j_iload_n C 2 dL_shaving_36 rfl rfl ?_
      refine j_aload_n C 5 dL_shaving_37 rfl rfl ?_
      refine j_iload C 1 dL_shaving_38 rfl ?_
      refine j_bipush C (v := (8 : Int32)) dL_shaving_40 rfl ?_
      refine jw_i C KT (As := [.ref x, .int (nI i19), .int (8 : Int32)]) (rest := [.int (smL (mS m) i19)]) (lb_block (xl X) hst D H12 i19 (by assumption) 8 (by decide)) mw_block my_block gL_shaving_L_block rfl (Nat.le_of_ble_eq_true rfl) (Nat.le_of_ble_eq_true rfl) (Nat.le_of_ble_eq_true rfl) (Nat.le_of_ble_eq_true rfl) rfl (Nat.le_of_ble_eq_true rfl) dL_shaving_42 (fun _ _ h => h.2.2) ?_
      rintro _ w13 ⟨rfl, H13, p13⟩
      have P13 := wp_tr P12 p13
      refine j_eqi (y := mS m i19) (bl_8 m n i19) ?_
      refine j_iadd C dL_shaving_45 ?_
      refine j_eqi (y := smL (mS m) (i19 + 1)) rfl ?_
      refine j_istore_n C dL_shaving_46 rfl (by decide) (lv' := [(3, .int (smL (mS m) (i19 + 1))), (2, .int (smL (mH m) (i19 + 1))), (5, .int (nI i19)), (4, .int (nI n)), (1, .int (mSs m n)), (0, .ref x)]) rfl ?_
      refine j_iinc C 2 dL_shaving_47 rfl (v := nI (i19 + 1)) (nI_1 _) (by decide) (lv' := [(5, .int (nI (i19 + 1))), (3, .int (smL (mS m) (i19 + 1))), (2, .int (smL (mH m) (i19 + 1))), (4, .int (nI n)), (1, .int (mSs m n)), (0, .ref x)]) rfl ?_
      refine j_goto C dL_shaving_50 (tgt := 19) (by decide) ?_
      refine j_sub [0, 2, 1, 3, 4, 5] (lv' := [(5, .int (nI (i19 + 1))), (2, .int (smL (mH m) (i19 + 1))), (3, .int (smL (mS m) (i19 + 1))), (4, .int (nI n)), (1, .int (mSs m n)), (0, .ref x)]) rfl ?_
      exact ih19 w13 H13 P13
  refine j_sub [0, 3, 2, 1, 4, 5] (lv' := [(5, .int (nI 0)), (2, .int (0 : Int32)), (3, .int (0 : Int32)), (4, .int (nI n)), (1, .int (mSs m n)), (0, .ref x)]) rfl ?_
  exact hl19 0 (Nat.zero_le _) w2 H2 P2
