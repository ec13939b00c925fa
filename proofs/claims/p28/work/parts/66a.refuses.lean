set_option maxRecDepth 100000 in
set_option maxHeartbeats 4000000 in
theorem lw_refuses (l : Launch) (hst : l.stackTraces = false) (D : KD) {x : Nat} {m : Pg} {n : Nat} {h : Hs} {w0 : va_W} (H : LW D x m n h w0) : MIX l D yL_refuses wsL_refuses 8 132 18 108 [.ref x] w0 (fun r w1 => r = 1 ∧ LW D x m n h w1 ∧ wpre w0 w1) := by
  refine MIX.ofz (cc := cL_refuses) (nL := 5) (lv0 := [(0, .ref x)]) (by decide +kernel) rfl (Nat.le_of_ble_eq_true rfl) rfl ?_
  intro X hXl hin C KT ret
  subst hXl
  have P := wp_rfl w0
  obtain ⟨hn, hc, hV, hl4⟩ := H.fc
  refine j_aload_n C 0 dL_refuses_0 rfl rfl ?_
  refine jw_cv_l C (As := []) (rest := []) (lc_digest (xl X) D H) mfX5_digest gL_refuses_X5_digest rfl (Nat.le_of_ble_eq_true rfl) (Nat.le_of_ble_eq_true rfl) (Nat.le_of_ble_eq_true rfl) (Nat.le_of_ble_eq_true rfl) (H).at0 rfl rfl (Nat.le_of_ble_eq_true rfl) dL_refuses_1 (fun _ _ h => h.2.2) ?_
  rintro _ w1 ⟨rfl, H1, p1⟩
  have P1 := wp_tr P p1
  refine j_lstore_n C dL_refuses_4 rfl (by decide) (lv' := [(1, .long (mDg m n (nI 0) (nI h.length))), (0, .ref x)]) rfl ?_
  refine j_aload_n C 1 dL_refuses_5 rfl rfl ?_
  refine j_iconst C (v := (2 : Int32)) dL_refuses_6 rfl ?_
  refine jw_i C KT (As := [.ref x, .int (2 : Int32)]) (rest := []) (lb_value (xl X) hst D H1 2 (by decide)) mw_value my_value gL_refuses_L_value rfl (Nat.le_of_ble_eq_true rfl) (Nat.le_of_ble_eq_true rfl) (Nat.le_of_ble_eq_true rfl) (Nat.le_of_ble_eq_true rfl) rfl (Nat.le_of_ble_eq_true rfl) dL_refuses_7 (fun _ _ h => h.2.2) ?_
  rintro _ w2 ⟨rfl, H2, p2⟩
  have P2 := wp_tr P1 p2
  refine j_eqi (y := nI n) H2.fc.2.1 ?_
  refine j_istore_n C dL_refuses_10 rfl (by decide) (lv' := [(3, .int (nI n)), (1, .long (mDg m n (nI 0) (nI h.length))), (0, .ref x)]) rfl ?_
  refine j_aload_n C 2 dL_refuses_11 rfl rfl ?_
  refine j_iconst C (v := (-1 : Int32)) dL_refuses_12 rfl ?_
  refine j_iconst C (v := (1 : Int32)) dL_refuses_13 rfl ?_
  refine j_iconst C (v := (0 : Int32)) dL_refuses_14 rfl ?_
  refine j_iconst C (v := (1 : Int32)) dL_refuses_15 rfl ?_
  refine jw_i C KT (As := [.ref x, .int (-1 : Int32), .int (1 : Int32), .int (0 : Int32), .int (1 : Int32)]) (rest := []) (lb_addBlockX (xl X) hst D H2 (-1) 1 0 1 (by decide)) mw_addBlock my_addBlock gL_refuses_L_addBlock rfl (Nat.le_of_ble_eq_true rfl) (Nat.le_of_ble_eq_true rfl) (Nat.le_of_ble_eq_true rfl) (Nat.le_of_ble_eq_true rfl) rfl (Nat.le_of_ble_eq_true rfl) dL_refuses_16 (fun _ _ h => h.2.2) ?_
  rintro _ w3 ⟨rfl, H3, p3⟩
  have P3 := wp_tr P2 p3
  refine j_ldc C k_refuses_17 dL_refuses_19 ?_
  refine j_icmp_ne C dL_refuses_21 (tgt := 223) (by decide) (fun h => absurd (by decide) h) (fun _ => ?_)
  refine j_aload_n C 2 dL_refuses_24 rfl rfl ?_
  refine j_iconst C (v := (0 : Int32)) dL_refuses_25 rfl ?_
  refine j_iconst C (v := (0 : Int32)) dL_refuses_26 rfl ?_
  refine j_iconst C (v := (0 : Int32)) dL_refuses_27 rfl ?_
  refine j_iconst C (v := (1 : Int32)) dL_refuses_28 rfl ?_
  refine jw_i C KT (As := [.ref x, .int (0 : Int32), .int (0 : Int32), .int (0 : Int32), .int (1 : Int32)]) (rest := []) (lb_addBlockX (xl X) hst D H3 0 0 0 1 (by decide)) mw_addBlock my_addBlock gL_refuses_L_addBlock rfl (Nat.le_of_ble_eq_true rfl) (Nat.le_of_ble_eq_true rfl) (Nat.le_of_ble_eq_true rfl) (Nat.le_of_ble_eq_true rfl) rfl (Nat.le_of_ble_eq_true rfl) dL_refuses_29 (fun _ _ h => h.2.2) ?_
  rintro _ w4 ⟨rfl, H4, p4⟩
  have P4 := wp_tr P3 p4
  refine j_ldc C k_refuses_17 dL_refuses_32 ?_
  refine j_icmp_ne C dL_refuses_34 (tgt := 223) (by decide) (fun h => absurd (by decide) h) (fun _ => ?_)
  refine j_aload_n C 2 dL_refuses_37 rfl rfl ?_
  refine j_iconst C (v := (0 : Int32)) dL_refuses_38 rfl ?_
  refine j_iconst C (v := (1 : Int32)) dL_refuses_39 rfl ?_
  refine j_bipush C (v := (-51 : Int32)) dL_refuses_40 rfl ?_
  refine j_iconst C (v := (1 : Int32)) dL_refuses_42 rfl ?_
  refine jw_i C KT (As := [.ref x, .int (0 : Int32), .int (1 : Int32), .int (-51 : Int32), .int (1 : Int32)]) (rest := []) (lb_addBlockX (xl X) hst D H4 0 1 (-51) 1 (by decide)) mw_addBlock my_addBlock gL_refuses_L_addBlock rfl (Nat.le_of_ble_eq_true rfl) (Nat.le_of_ble_eq_true rfl) (Nat.le_of_ble_eq_true rfl) (Nat.le_of_ble_eq_true rfl) rfl (Nat.le_of_ble_eq_true rfl) dL_refuses_43 (fun _ _ h => h.2.2) ?_
  rintro _ w5 ⟨rfl, H5, p5⟩
  have P5 := wp_tr P4 p5
  refine j_ldc C k_refuses_17 dL_refuses_46 ?_
  refine j_icmp_ne C dL_refuses_48 (tgt := 223) (by decide) (fun h => absurd (by decide) h) (fun _ => ?_)
  refine j_aload_n C 2 dL_refuses_51 rfl rfl ?_
  refine j_iconst C (v := (0 : Int32)) dL_refuses_52 rfl ?_
  refine j_iconst C (v := (1 : Int32)) dL_refuses_53 rfl ?_
  refine j_iconst C (v := (0 : Int32)) dL_refuses_54 rfl ?_
  refine j_ldc C k_refuses_122 dL_refuses_55 ?_
  refine jw_i C KT (As := [.ref x, .int (0 : Int32), .int (1 : Int32), .int (0 : Int32), .int (100000 : Int32)]) (rest := []) (lb_addBlockX (xl X) hst D H5 0 1 0 100000 (by decide)) mw_addBlock my_addBlock gL_refuses_L_addBlock rfl (Nat.le_of_ble_eq_true rfl) (Nat.le_of_ble_eq_true rfl) (Nat.le_of_ble_eq_true rfl) (Nat.le_of_ble_eq_true rfl) rfl (Nat.le_of_ble_eq_true rfl) dL_refuses_57 (fun _ _ h => h.2.2) ?_
  rintro _ w6 ⟨rfl, H6, p6⟩
  have P6 := wp_tr P5 p6
  refine j_ldc C k_refuses_17 dL_refuses_60 ?_
  refine j_icmp_ne C dL_refuses_62 (tgt := 223) (by decide) (fun h => absurd (by decide) h) (fun _ => ?_)
  refine j_aload_n C 2 dL_refuses_65 rfl rfl ?_
  refine j_iload_n C 0 dL_refuses_66 rfl rfl ?_
  refine j_bipush C (v := (99 : Int32)) dL_refuses_67 rfl ?_
  refine jw_i C KT (As := [.ref x, .int (nI n), .int (99 : Int32)]) (rest := []) (lb_setCapX (xl X) hst D H6 (nI n) (m2_out hc hn).1 99) mw_setCap my_setCap gL_refuses_L_setCap rfl (Nat.le_of_ble_eq_true rfl) (Nat.le_of_ble_eq_true rfl) (Nat.le_of_ble_eq_true rfl) (Nat.le_of_ble_eq_true rfl) rfl (Nat.le_of_ble_eq_true rfl) dL_refuses_69 (fun _ _ h => h.2.2) ?_
  rintro _ w7 ⟨rfl, H7, p7⟩
  have P7 := wp_tr P6 p7
  refine j_ldc C k_refuses_27 dL_refuses_72 ?_
  refine j_icmp_ne C dL_refuses_74 (tgt := 223) (by decide) (fun h => absurd (by decide) h) (fun _ => ?_)
  refine j_aload_n C 2 dL_refuses_77 rfl rfl ?_
  refine j_iconst C (v := (-1 : Int32)) dL_refuses_78 rfl ?_
  refine j_iconst C (v := (0 : Int32)) dL_refuses_79 rfl ?_
  refine jw_i C KT (As := [.ref x, .int (-1 : Int32), .int (0 : Int32)]) (rest := []) (lb_setCapX (xl X) hst D H7 (-1) (m2_out hc hn).2 0) mw_setCap my_setCap gL_refuses_L_setCap rfl (Nat.le_of_ble_eq_true rfl) (Nat.le_of_ble_eq_true rfl) (Nat.le_of_ble_eq_true rfl) (Nat.le_of_ble_eq_true rfl) rfl (Nat.le_of_ble_eq_true rfl) dL_refuses_80 (fun _ _ h => h.2.2) ?_
  rintro _ w8 ⟨rfl, H8, p8⟩
  have P8 := wp_tr P7 p8
  refine j_ldc C k_refuses_27 dL_refuses_83 ?_
  refine j_icmp_ne C dL_refuses_85 (tgt := 223) (by decide) (fun h => absurd (by decide) h) (fun _ => ?_)
  refine j_aload_n C 2 dL_refuses_88 rfl rfl ?_
  refine j_iload_n C 0 dL_refuses_89 rfl rfl ?_
  refine j_iconst C (v := (0 : Int32)) dL_refuses_90 rfl ?_
  refine jw_i C KT (As := [.ref x, .int (nI n), .int (0 : Int32)]) (rest := []) (lb_setLimitX (xl X) hst D H8 (nI n) (m2_out hc hn).1 0) mw_setLimit my_setLimit gL_refuses_L_setLimit rfl (Nat.le_of_ble_eq_true rfl) (Nat.le_of_ble_eq_true rfl) (Nat.le_of_ble_eq_true rfl) (Nat.le_of_ble_eq_true rfl) rfl (Nat.le_of_ble_eq_true rfl) dL_refuses_91 (fun _ _ h => h.2.2) ?_
  rintro _ w9 ⟨rfl, H9, p9⟩
  have P9 := wp_tr P8 p9
  refine j_ldc C k_refuses_27 dL_refuses_94 ?_
  refine j_icmp_ne C dL_refuses_96 (tgt := 223) (by decide) (fun h => absurd (by decide) h) (fun _ => ?_)
  refine j_aload_n C 2 dL_refuses_99 rfl rfl ?_
  refine j_iconst C (v := (0 : Int32)) dL_refuses_100 rfl ?_
  refine j_iconst C (v := (0 : Int32)) dL_refuses_101 rfl ?_
  refine jw_i C KT (As := [.ref x, .int (0 : Int32), .int (0 : Int32)]) (rest := []) (lb_setShipX (xl X) hst D H9 0 0 (by decide)) mw_setShip my_setShip gL_refuses_L_setShip rfl (Nat.le_of_ble_eq_true rfl) (Nat.le_of_ble_eq_true rfl) (Nat.le_of_ble_eq_true rfl) (Nat.le_of_ble_eq_true rfl) rfl (Nat.le_of_ble_eq_true rfl) dL_refuses_102 (fun _ _ h => h.2.2) ?_
  rintro _ w10 ⟨rfl, H10, p10⟩
  have P10 := wp_tr P9 p10
  refine j_ldc C k_refuses_17 dL_refuses_105 ?_
  refine j_icmp_ne C dL_refuses_107 (tgt := 223) (by decide) (fun h => absurd (by decide) h) (fun _ => ?_)
  refine j_aload_n C 2 dL_refuses_110 rfl rfl ?_
  refine j_iconst C (v := (1 : Int32)) dL_refuses_111 rfl ?_
  refine j_iconst C (v := (-1 : Int32)) dL_refuses_112 rfl ?_
  refine jw_i C KT (As := [.ref x, .int (1 : Int32), .int (-1 : Int32)]) (rest := []) (lb_setShipX (xl X) hst D H10 1 (-1) (by decide)) mw_setShip my_setShip gL_refuses_L_setShip rfl (Nat.le_of_ble_eq_true rfl) (Nat.le_of_ble_eq_true rfl) (Nat.le_of_ble_eq_true rfl) (Nat.le_of_ble_eq_true rfl) rfl (Nat.le_of_ble_eq_true rfl) dL_refuses_113 (fun _ _ h => h.2.2) ?_
  rintro _ w11 ⟨rfl, H11, p11⟩
  have P11 := wp_tr P10 p11
  refine j_ldc C k_refuses_17 dL_refuses_116 ?_
  refine j_icmp_ne C dL_refuses_118 (tgt := 223) (by decide) (fun h => absurd (by decide) h) (fun _ => ?_)
  refine j_aload_n C 2 dL_refuses_121 rfl rfl ?_
  refine j_iload_n C 0 dL_refuses_122 rfl rfl ?_
  refine jw_i C KT (As := [.ref x, .int (nI n)]) (rest := []) (lb_pullX (xl X) hst D H11 (nI n) (m2_out hc hn).1) mw_pull my_pull gL_refuses_L_pull rfl (Nat.le_of_ble_eq_true rfl) (Nat.le_of_ble_eq_true rfl) (Nat.le_of_ble_eq_true rfl) (Nat.le_of_ble_eq_true rfl) rfl (Nat.le_of_ble_eq_true rfl) dL_refuses_123 (fun _ _ h => h.2.2) ?_
  rintro _ w12 ⟨rfl, H12, p12⟩
  have P12 := wp_tr P11 p12
  refine j_ldc C k_refuses_27 dL_refuses_126 ?_
  refine j_icmp_ne C dL_refuses_128 (tgt := 223) (by decide) (fun h => absurd (by decide) h) (fun _ => ?_)
  refine j_aload_n C 2 dL_refuses_131 rfl rfl ?_
  refine j_iconst C (v := (-1 : Int32)) dL_refuses_132 rfl ?_
  refine jw_i C KT (As := [.ref x, .int (-1 : Int32)]) (rest := []) (lb_putX (xl X) hst D H12 (-1) (m2_out hc hn).2) mw_put my_put gL_refuses_L_put rfl (Nat.le_of_ble_eq_true rfl) (Nat.le_of_ble_eq_true rfl) (Nat.le_of_ble_eq_true rfl) (Nat.le_of_ble_eq_true rfl) rfl (Nat.le_of_ble_eq_true rfl) dL_refuses_133 (fun _ _ h => h.2.2) ?_
  rintro _ w13 ⟨rfl, H13, p13⟩
  have P13 := wp_tr P12 p13
  refine j_ldc C k_refuses_27 dL_refuses_136 ?_
  refine j_icmp_ne C dL_refuses_138 (tgt := 223) (by decide) (fun h => absurd (by decide) h) (fun _ => ?_)
  refine j_aload_n C 2 dL_refuses_141 rfl rfl ?_
  refine j_iload_n C 0 dL_refuses_142 rfl rfl ?_
  refine j_bipush C (v := (99 : Int32)) dL_refuses_143 rfl ?_
  refine jw_i C KT (As := [.ref x, .int (nI n), .int (99 : Int32)]) (rest := []) (lb_blockX (xl X) hst D H13 (nI n) (m2_out hc hn).1 99) mw_block my_block gL_refuses_L_block rfl (Nat.le_of_ble_eq_true rfl) (Nat.le_of_ble_eq_true rfl) (Nat.le_of_ble_eq_true rfl) (Nat.le_of_ble_eq_true rfl) rfl (Nat.le_of_ble_eq_true rfl) dL_refuses_145 (fun _ _ h => h.2.2) ?_
  rintro _ w14 ⟨rfl, H14, p14⟩
  have P14 := wp_tr P13 p14
  refine j_ldc C k_refuses_27 dL_refuses_148 ?_
  refine j_icmp_ne C dL_refuses_150 (tgt := 223) (by decide) (fun h => absurd (by decide) h) (fun _ => ?_)
  refine j_aload_n C 2 dL_refuses_153 rfl rfl ?_
  refine j_iconst C (v := (-1 : Int32)) dL_refuses_154 rfl ?_
  refine jw_i C KT (As := [.ref x, .int (-1 : Int32)]) (rest := []) (lb_valueX (xl X) hst D H14 (-1) (by decide)) mw_value my_value gL_refuses_L_value rfl (Nat.le_of_ble_eq_true rfl) (Nat.le_of_ble_eq_true rfl) (Nat.le_of_ble_eq_true rfl) (Nat.le_of_ble_eq_true rfl) rfl (Nat.le_of_ble_eq_true rfl) dL_refuses_155 (fun _ _ h => h.2.2) ?_
  rintro _ w15 ⟨rfl, H15, p15⟩
  have P15 := wp_tr P14 p15
  refine j_ldc C k_refuses_17 dL_refuses_158 ?_
  refine j_icmp_ne C dL_refuses_160 (tgt := 223) (by decide) (fun h => absurd (by decide) h) (fun _ => ?_)
  refine j_aload_n C 2 dL_refuses_163 rfl rfl ?_
  refine j_iconst C (v := (3 : Int32)) dL_refuses_164 rfl ?_
  refine jw_l C KT (As := [.ref x, .int (3 : Int32)]) (rest := []) (lb_balanceX (xl X) hst D H15 3 (by decide)) mw_balance my_balance gL_refuses_L_balance rfl (Nat.le_of_ble_eq_true rfl) (Nat.le_of_ble_eq_true rfl) (Nat.le_of_ble_eq_true rfl) (Nat.le_of_ble_eq_true rfl) rfl (Nat.le_of_ble_eq_true rfl) dL_refuses_165 (fun _ _ h => h.2.2) ?_
  rintro _ w16 ⟨rfl, H16, p16⟩
  have P16 := wp_tr P15 p16
  refine j_ldc2 C k_refuses_51 dL_refuses_168 ?_
  refine j_lcmp C dL_refuses_171 ?_
  refine j_lif_ne C dL_refuses_172 (tgt := 223) (by decide) (fun h => absurd rfl h) (fun _ => ?_)
  refine j_aload_n C 2 dL_refuses_175 rfl rfl ?_
  refine j_iload_n C 0 dL_refuses_176 rfl rfl ?_
  refine j_iconst C (v := (0 : Int32)) dL_refuses_177 rfl ?_
  refine jw_i C KT (As := [.ref x, .int (nI n), .int (0 : Int32)]) (rest := []) (lb_loadWithoutX (xl X) hst D H16 (nI n) (m2_out hc hn).1 0) mw_loadWithout my_loadWithout gL_refuses_L_loadWithout rfl (Nat.le_of_ble_eq_true rfl) (Nat.le_of_ble_eq_true rfl) (Nat.le_of_ble_eq_true rfl) (Nat.le_of_ble_eq_true rfl) rfl (Nat.le_of_ble_eq_true rfl) dL_refuses_178 (fun _ _ h => h.2.2) ?_
  rintro _ w17 ⟨rfl, H17, p17⟩
  have P17 := wp_tr P16 p17
  refine j_ldc C k_refuses_27 dL_refuses_181 ?_
  refine j_icmp_ne C dL_refuses_183 (tgt := 223) (by decide) (fun h => absurd (by decide) h) (fun _ => ?_)
  rcases Nat.eq_zero_or_pos n with e0 | e0
  · refine j_aload_n C 2 dL_refuses_186 rfl rfl ?_
    refine j_iconst C (v := (0 : Int32)) dL_refuses_187 rfl ?_
    refine j_iconst C (v := (-1 : Int32)) dL_refuses_188 rfl ?_
    refine jw_i C KT (As := [.ref x, .int (0 : Int32), .int (-1 : Int32)]) (rest := []) (lb_loadWithoutX (xl X) hst D H17 0 (m2_out0 (by rw [hc, e0])) (-1)) mw_loadWithout my_loadWithout gL_refuses_L_loadWithout rfl (Nat.le_of_ble_eq_true rfl) (Nat.le_of_ble_eq_true rfl) (Nat.le_of_ble_eq_true rfl) (Nat.le_of_ble_eq_true rfl) rfl (Nat.le_of_ble_eq_true rfl) dL_refuses_189 (fun _ _ h => h.2.2) ?_
    rintro _ w18 ⟨rfl, H18, p18⟩
    have P18 := wp_tr P17 p18
    refine j_ldc C k_refuses_27 dL_refuses_192 ?_
    refine j_icmp_ne C dL_refuses_194 (tgt := 223) (by decide) (fun h => absurd (by decide) h) (fun _ => ?_)
    refine j_aload_n C 2 dL_refuses_197 rfl rfl ?_
    refine j_iconst C (v := (0 : Int32)) dL_refuses_198 rfl ?_
    refine jw_i C KT (As := [.ref x, .int (0 : Int32)]) (rest := []) (lb_bestPlaceX (xl X) hst D H18 0 (by decide)) mw_bestPlace my_bestPlace gL_refuses_L_bestPlace rfl (Nat.le_of_ble_eq_true rfl) (Nat.le_of_ble_eq_true rfl) (Nat.le_of_ble_eq_true rfl) (Nat.le_of_ble_eq_true rfl) rfl (Nat.le_of_ble_eq_true rfl) dL_refuses_199 (fun _ _ h => h.2.2) ?_
    rintro _ w19 ⟨rfl, H19, p19⟩
    have P19 := wp_tr P18 p19
    refine j_ldc C k_refuses_17 dL_refuses_202 ?_
    refine j_icmp_ne C dL_refuses_204 (tgt := 223) (by decide) (fun h => absurd (by decide) h) (fun _ => ?_)
    refine j_aload_n C 2 dL_refuses_207 rfl rfl ?_
    refine j_sipush C (v := (128 : Int32)) dL_refuses_208 rfl ?_
    refine jw_i C KT (As := [.ref x, .int (128 : Int32)]) (rest := []) (lb_appendX (xl X) hst D H19 128 (by decide)) mw_append my_append gL_refuses_L_append rfl (Nat.le_of_ble_eq_true rfl) (Nat.le_of_ble_eq_true rfl) (Nat.le_of_ble_eq_true rfl) (Nat.le_of_ble_eq_true rfl) rfl (Nat.le_of_ble_eq_true rfl) dL_refuses_211 (fun _ _ h => h.2.2) ?_
    rintro _ w20 ⟨rfl, H20, p20⟩
    have P20 := wp_tr P19 p20
    refine j_ldc C k_refuses_17 dL_refuses_214 ?_
    refine j_icmp_ne C dL_refuses_216 (tgt := 223) (by decide) (fun h => absurd (by decide) h) (fun _ => ?_)
    refine j_iconst C (v := (1 : Int32)) dL_refuses_219 rfl ?_
    refine j_goto C dL_refuses_220 (tgt := 224) (by decide) ?_
    refine j_istore C dL_refuses_224 (by decide) (lv' := [(4, .int (1 : Int32)), (3, .int (nI n)), (1, .long (mDg m n (nI 0) (nI h.length))), (0, .ref x)]) rfl ?_
    refine j_iload C 0 dL_refuses_226 rfl ?_
    refine j_if_eq C dL_refuses_228 (tgt := 244) (by decide) (fun h => absurd h (by decide)) (fun _ => ?_)
    refine j_aload_n C 3 dL_refuses_231 rfl rfl ?_
    refine jw_cv_l C (As := []) (rest := []) (lc_digest (xl X) D H20) mfX5_digest gL_refuses_X5_digest rfl (Nat.le_of_ble_eq_true rfl) (Nat.le_of_ble_eq_true rfl) (Nat.le_of_ble_eq_true rfl) (Nat.le_of_ble_eq_true rfl) (H20).at0 rfl rfl (Nat.le_of_ble_eq_true rfl) dL_refuses_232 (fun _ _ h => h.2.2) ?_
    rintro _ w21 ⟨rfl, H21, p21⟩
    have P21 := wp_tr P20 p21
    refine j_lload_n C 2 dL_refuses_235 rfl rfl ?_
    refine j_lcmp C dL_refuses_236 ?_
    refine j_lif_ne C dL_refuses_237 (tgt := 244) (by decide) (fun h => absurd rfl h) (fun _ => ?_)
    refine j_iconst C (v := (1 : Int32)) dL_refuses_240 rfl ?_
    refine j_goto C dL_refuses_241 (tgt := 245) (by decide) ?_
    refine j_widen (k' := 18) (n' := 108) (Nat.le_of_ble_eq_true rfl) (Nat.le_of_ble_eq_true rfl) ?_
    exact ret dL_refuses_245 (Or.inr rfl) (⟨rfl, H21, P21⟩)
  · refine j_aload_n C 2 dL_refuses_186 rfl rfl ?_
    refine j_iconst C (v := (0 : Int32)) dL_refuses_187 rfl ?_
    refine j_iconst C (v := (-1 : Int32)) dL_refuses_188 rfl ?_
    refine jw_i C KT (As := [.ref x, .int (0 : Int32), .int (-1 : Int32)]) (rest := []) (lb_loadWithoutY (xl X) hst D H17 0 e0 (-1) (m2_out hc hn).2) mw_loadWithout my_loadWithout gL_refuses_L_loadWithout rfl (Nat.le_of_ble_eq_true rfl) (Nat.le_of_ble_eq_true rfl) (Nat.le_of_ble_eq_true rfl) (Nat.le_of_ble_eq_true rfl) rfl (Nat.le_of_ble_eq_true rfl) dL_refuses_189 (fun _ _ h => h.2.2) ?_
    rintro _ w22 ⟨rfl, H22, p22⟩
    have P22 := wp_tr P17 p22
    refine j_ldc C k_refuses_27 dL_refuses_192 ?_
    refine j_icmp_ne C dL_refuses_194 (tgt := 223) (by decide) (fun h => absurd (by decide) h) (fun _ => ?_)
    refine j_aload_n C 2 dL_refuses_197 rfl rfl ?_
    refine j_iconst C (v := (0 : Int32)) dL_refuses_198 rfl ?_
    refine jw_i C KT (As := [.ref x, .int (0 : Int32)]) (rest := []) (lb_bestPlaceX (xl X) hst D H22 0 (by decide)) mw_bestPlace my_bestPlace gL_refuses_L_bestPlace rfl (Nat.le_of_ble_eq_true rfl) (Nat.le_of_ble_eq_true rfl) (Nat.le_of_ble_eq_true rfl) (Nat.le_of_ble_eq_true rfl) rfl (Nat.le_of_ble_eq_true rfl) dL_refuses_199 (fun _ _ h => h.2.2) ?_
    rintro _ w23 ⟨rfl, H23, p23⟩
    have P23 := wp_tr P22 p23
    refine j_ldc C k_refuses_17 dL_refuses_202 ?_
    refine j_icmp_ne C dL_refuses_204 (tgt := 223) (by decide) (fun h => absurd (by decide) h) (fun _ => ?_)
    refine j_aload_n C 2 dL_refuses_207 rfl rfl ?_
    refine j_sipush C (v := (128 : Int32)) dL_refuses_208 rfl ?_
    refine jw_i C KT (As := [.ref x, .int (128 : Int32)]) (rest := []) (lb_appendX (xl X) hst D H23 128 (by decide)) mw_append my_append gL_refuses_L_append rfl (Nat.le_of_ble_eq_true rfl) (Nat.le_of_ble_eq_true rfl) (Nat.le_of_ble_eq_true rfl) (Nat.le_of_ble_eq_true rfl) rfl (Nat.le_of_ble_eq_true rfl) dL_refuses_211 (fun _ _ h => h.2.2) ?_
    rintro _ w24 ⟨rfl, H24, p24⟩
    have P24 := wp_tr P23 p24
    refine j_ldc C k_refuses_17 dL_refuses_214 ?_
    refine j_icmp_ne C dL_refuses_216 (tgt := 223) (by decide) (fun h => absurd (by decide) h) (fun _ => ?_)
    refine j_iconst C (v := (1 : Int32)) dL_refuses_219 rfl ?_
    refine j_goto C dL_refuses_220 (tgt := 224) (by decide) ?_
    refine j_istore C dL_refuses_224 (by decide) (lv' := [(4, .int (1 : Int32)), (3, .int (nI n)), (1, .long (mDg m n (nI 0) (nI h.length))), (0, .ref x)]) rfl ?_
    refine j_iload C 0 dL_refuses_226 rfl ?_
    refine j_if_eq C dL_refuses_228 (tgt := 244) (by decide) (fun h => absurd h (by decide)) (fun _ => ?_)
    refine j_aload_n C 3 dL_refuses_231 rfl rfl ?_
    refine jw_cv_l C (As := []) (rest := []) (lc_digest (xl X) D H24) mfX5_digest gL_refuses_X5_digest rfl (Nat.le_of_ble_eq_true rfl) (Nat.le_of_ble_eq_true rfl) (Nat.le_of_ble_eq_true rfl) (Nat.le_of_ble_eq_true rfl) (H24).at0 rfl rfl (Nat.le_of_ble_eq_true rfl) dL_refuses_232 (fun _ _ h => h.2.2) ?_
    rintro _ w25 ⟨rfl, H25, p25⟩
    have P25 := wp_tr P24 p25
    refine j_lload_n C 2 dL_refuses_235 rfl rfl ?_
    refine j_lcmp C dL_refuses_236 ?_
    refine j_lif_ne C dL_refuses_237 (tgt := 244) (by decide) (fun h => absurd rfl h) (fun _ => ?_)
    refine j_iconst C (v := (1 : Int32)) dL_refuses_240 rfl ?_
    refine j_goto C dL_refuses_241 (tgt := 245) (by decide) ?_
    refine j_widen (k' := 18) (n' := 108) (Nat.le_of_ble_eq_true rfl) (Nat.le_of_ble_eq_true rfl) ?_
    exact ret dL_refuses_245 (Or.inr rfl) (⟨rfl, H25, P25⟩)
