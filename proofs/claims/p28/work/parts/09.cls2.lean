set_option maxRecDepth 100000 in
set_option maxHeartbeats 4000000 in
theorem ctX0_pressTimesD (l : Launch) (D : KD) (b : Nat → Nat) (sd rd be ov : Int32) (qa qb qd : Int64) (lo : Nat → Int32) (cu : Nat → Int64) (p0 c0 : Int64) : ML l D yX0_pressTimesD wsX0_pressTimesD 0 0 0 0 [.ref (b 0), .long p0, .long c0] (wBa D b sd rd be ov qa qb qd lo cu) (fun r w1 => r = qa + qb * p0 + qd * c0 ∧ w1 = wBa D b sd rd be ov qa qb qd lo cu) := by
  refine ML.of (cc := cX0_pressTimesD) (nL := 5) (lv0 := [(0, .ref (b 0)), (1, .long p0), (3, .long c0)]) (by decide +kernel) rfl (Nat.le_of_ble_eq_true rfl) rfl ?_
  intro X hXl hin C ret
  subst hXl
  refine j_aload_n C 0 dX0_pressTimesD_0 rfl rfl ?_
  refine j_get C 0 fgX0_pressTimesD_79 rfl rfl dX0_pressTimesD_1 ?_
  refine j_aload_n C 0 dX0_pressTimesD_4 rfl rfl ?_
  refine j_get C 0 fgX0_pressTimesD_82 rfl rfl dX0_pressTimesD_5 ?_
  refine j_lload_n C 1 dX0_pressTimesD_8 rfl rfl ?_
  refine j_lmul C dX0_pressTimesD_9 ?_
  refine j_ladd C dX0_pressTimesD_10 ?_
  refine j_aload_n C 0 dX0_pressTimesD_11 rfl rfl ?_
  refine j_get C 0 fgX0_pressTimesD_52 rfl rfl dX0_pressTimesD_12 ?_
  refine j_lload_n C 2 dX0_pressTimesD_15 rfl rfl ?_
  refine j_lmul C dX0_pressTimesD_16 ?_
  refine j_ladd C dX0_pressTimesD_17 ?_
  exact ret dX0_pressTimesD_18 (⟨rfl, rfl⟩)

set_option maxRecDepth 100000 in
set_option maxHeartbeats 4000000 in
theorem ctX0_solve (l : Launch) (D : KD) (b a : Nat → Nat) (sd rd be ov : Int32) (qa qb qd : Int64) (lo : Nat → Int32) (cu : Nat → Int64) (we ce co sg cr : Int32) (Pp Kp Hp Lp Sp : Nat → Int32) (x : Int32) : MV l D yX0_solve wsX0_solve 1 21 0 0 [.ref (b 0), .ref (a 0), .int x] (wBa D b sd rd be ov qa qb qd lo cu ++ (wDo D a we ce co sg cr Pp Kp Hp Lp Sp)) (fun w1 => w1 = wBa D b sd rd be ov ((sol Pp Kp Hp we ce 16 x).1) ((sol Pp Kp Hp we ce 16 x).2.1) ((sol Pp Kp Hp we ce 16 x).2.2) lo cu ++ wDo D a we ce co sg cr Pp Kp Hp Lp Sp) := by
  refine MV.of (cc := cX0_solve) (nL := 18) (lv0 := [(0, .ref (b 0)), (1, .ref (a 0)), (2, .int x)]) (by decide +kernel) rfl (Nat.le_of_ble_eq_true rfl) rfl ?_
  intro X hXl hin C ret
  subst hXl
  refine j_lconst C (v := (0 : Int64)) dX0_solve_0 rfl ?_
  refine j_lstore_n C dX0_solve_1 rfl (by decide) (lv' := [(3, .long (0 : Int64)), (0, .ref (b 0)), (1, .ref (a 0)), (2, .int x)]) rfl ?_
  refine j_lconst C (v := (0 : Int64)) dX0_solve_2 rfl ?_
  refine j_lstore C dX0_solve_3 (by decide) (lv' := [(5, .long (0 : Int64)), (3, .long (0 : Int64)), (0, .ref (b 0)), (1, .ref (a 0)), (2, .int x)]) rfl ?_
  refine j_lconst C (v := (0 : Int64)) dX0_solve_5 rfl ?_
  refine j_lstore C dX0_solve_6 (by decide) (lv' := [(7, .long (0 : Int64)), (5, .long (0 : Int64)), (3, .long (0 : Int64)), (0, .ref (b 0)), (1, .ref (a 0)), (2, .int x)]) rfl ?_
  refine j_aload_n C 4 dX0_solve_8 rfl rfl ?_
  refine j_get C 3 fgX0_solve_60 rfl rfl dX0_solve_9 ?_
  refine j_i2l C dX0_solve_12 ?_
  refine j_lstore C dX0_solve_13 (by decide) (lv' := [(9, .long we.toInt64), (7, .long (0 : Int64)), (5, .long (0 : Int64)), (3, .long (0 : Int64)), (0, .ref (b 0)), (1, .ref (a 0)), (2, .int x)]) rfl ?_
  refine j_aload_n C 5 dX0_solve_15 rfl rfl ?_
  refine j_get C 3 fgX0_solve_60 rfl rfl dX0_solve_16 ?_
  refine j_i2l C dX0_solve_19 ?_
  refine j_aload_n C 5 dX0_solve_20 rfl rfl ?_
  refine j_get C 3 fgX0_solve_63 rfl rfl dX0_solve_21 ?_
  refine j_i2l C dX0_solve_24 ?_
  refine j_lmul C dX0_solve_25 ?_
  refine j_lstore C dX0_solve_26 (by decide) (lv' := [(11, .long (we.toInt64 * ce.toInt64)), (9, .long we.toInt64), (7, .long (0 : Int64)), (5, .long (0 : Int64)), (3, .long (0 : Int64)), (0, .ref (b 0)), (1, .ref (a 0)), (2, .int x)]) rfl ?_
  refine j_iconst C (v := (0 : Int32)) dX0_solve_28 rfl ?_
  refine j_istore C dX0_solve_29 (by decide) (lv' := [(13, .int (0 : Int32)), (11, .long (we.toInt64 * ce.toInt64)), (9, .long we.toInt64), (7, .long (0 : Int64)), (5, .long (0 : Int64)), (3, .long (0 : Int64)), (0, .ref (b 0)), (1, .ref (a 0)), (2, .int x)]) rfl ?_
  have hl31 : ∀ i31, i31 ≤ 16 → ∀ (t31 : Int64 × Int64 × Int64 × Int64 × Int64), t31 = sm Pp Kp Hp x we ce i31 → J D X (wBa D b sd rd be ov qa qb qd lo cu ++ (wDo D a we ce co sg cr Pp Kp Hp Lp Sp)) 0 0 31 [(13, .int (nI i31)), (0, .ref (b 0)), (1, .ref (a 0)), (2, .int x), (3, .long t31.1), (5, .long t31.2.1), (7, .long t31.2.2.1), (9, .long t31.2.2.2.1), (11, .long t31.2.2.2.2)] [] := by
    refine for_up (16) ?_ ?_
    · intro t31 ht31
      refine j_iload C 0 dX0_solve_31 rfl ?_
      refine j_bipush C (v := (16 : Int32)) dX0_solve_33 rfl ?_
      refine j_icmp_ge C dX0_solve_35 (tgt := 136) (by decide) (fun _ => ?_) (fun h => absurd (nI_le (Nat.le_refl 16) (by decide)) h)
      refine j_aload_n C 1 dX0_solve_136 rfl rfl ?_
      refine j_lload_n C 4 dX0_solve_137 rfl rfl ?_
      refine j_lload C 6 dX0_solve_138 rfl ?_
      refine j_lmul C dX0_solve_140 ?_
      refine j_lload C 5 dX0_solve_141 rfl ?_
      refine j_lload C 5 dX0_solve_143 rfl ?_
      refine j_lmul C dX0_solve_145 ?_
      refine j_lsub C dX0_solve_146 ?_
      refine j_put C 0 foX0_solve_52 rfl (w' := (wBa D b sd rd be ov qa qb ((t31.1 * t31.2.2.1) - (t31.2.1 * t31.2.1)) lo cu ++ (wDo D a we ce co sg cr Pp Kp Hp Lp Sp))) rfl rfl rfl (Nat.le_of_ble_eq_true rfl) dX0_solve_147 ?_
      refine j_aload_n C 1 dX0_solve_150 rfl rfl ?_
      refine j_lload C 7 dX0_solve_151 rfl ?_
      refine j_lload C 6 dX0_solve_153 rfl ?_
      refine j_lmul C dX0_solve_155 ?_
      refine j_lload C 8 dX0_solve_156 rfl ?_
      refine j_lload C 5 dX0_solve_158 rfl ?_
      refine j_lmul C dX0_solve_160 ?_
      refine j_lsub C dX0_solve_161 ?_
      refine j_put C 0 foX0_solve_79 rfl (w' := (wBa D b sd rd be ov ((t31.2.2.2.1 * t31.2.2.1) - (t31.2.2.2.2 * t31.2.1)) qb ((t31.1 * t31.2.2.1) - (t31.2.1 * t31.2.1)) lo cu ++ (wDo D a we ce co sg cr Pp Kp Hp Lp Sp))) rfl rfl rfl (Nat.le_of_ble_eq_true rfl) dX0_solve_162 ?_
      refine j_aload_n C 1 dX0_solve_165 rfl rfl ?_
      refine j_lload C 8 dX0_solve_166 rfl ?_
      refine j_lload_n C 4 dX0_solve_168 rfl rfl ?_
      refine j_lmul C dX0_solve_169 ?_
      refine j_lload C 7 dX0_solve_170 rfl ?_
      refine j_lload C 5 dX0_solve_172 rfl ?_
      refine j_lmul C dX0_solve_174 ?_
      refine j_lsub C dX0_solve_175 ?_
      refine j_put C 0 foX0_solve_82 rfl (w' := (wBa D b sd rd be ov ((t31.2.2.2.1 * t31.2.2.1) - (t31.2.2.2.2 * t31.2.1)) ((t31.2.2.2.2 * t31.1) - (t31.2.2.2.1 * t31.2.1)) ((t31.1 * t31.2.2.1) - (t31.2.1 * t31.2.1)) lo cu ++ (wDo D a we ce co sg cr Pp Kp Hp Lp Sp))) rfl rfl rfl (Nat.le_of_ble_eq_true rfl) dX0_solve_176 ?_
      exact ret dX0_solve_179 (by subst ht31; rfl)
    · intro i31 hi31 ih31 t31 ht31
      refine j_iload C 0 dX0_solve_31 rfl ?_
      refine j_bipush C (v := (16 : Int32)) dX0_solve_33 rfl ?_
      refine j_icmp_ge C dX0_solve_35 (tgt := 136) (by decide) (fun h => absurd h (nI_ge hi31 (by decide))) (fun _ => ?_)
      refine j_iload_n C 3 dX0_solve_38 rfl rfl ?_
      refine j_iload C 0 dX0_solve_39 rfl ?_
      refine j_csN_i C (As := [.int x, .int (nI i31)]) (rest := []) (ctX5_isMember (xl X) D x i31 (by first | assumption | omega | decide)) mfX5_isMember gX0_solve_X5_isMember_n66 rfl (C.hN.2.2.2.2.1) mX0_solve_static_yX5_isMember mX0_solve_initialized_RX5 (Nat.le_of_ble_eq_true rfl) (Nat.le_of_ble_eq_true rfl) (Nat.le_of_ble_eq_true rfl) (Nat.le_of_ble_eq_true rfl) [] rfl rfl rfl (Nat.le_of_ble_eq_true rfl) dX0_solve_41 ?_
      rintro _ _ ⟨rfl, rfl⟩
      refine ⟨rfl, ?_⟩
      refine j_w (w' := (wBa D b sd rd be ov qa qb qd lo cu ++ (wDo D a we ce co sg cr Pp Kp Hp Lp Sp))) rfl ?_
      refine j_bif_eq C dX0_solve_44 (tgt := 130) (by decide) (fun h44 => ?_) (fun h44 => ?_)
      · refine j_iinc C 0 dX0_solve_130 rfl (v := nI (i31 + 1)) (nI_1 _) (by decide) (lv' := [(13, .int (nI (i31 + 1))), (0, .ref (b 0)), (1, .ref (a 0)), (2, .int x), (3, .long t31.1), (5, .long t31.2.1), (7, .long t31.2.2.1), (9, .long t31.2.2.2.1), (11, .long t31.2.2.2.2)]) rfl ?_
        refine j_goto C dX0_solve_133 (tgt := 31) (by decide) ?_
        refine j_sub [0, 1, 2, 3, 4, 5, 6, 7, 8] (lv' := [(13, .int (nI (i31 + 1))), (0, .ref (b 0)), (1, .ref (a 0)), (2, .int x), (3, .long t31.1), (5, .long t31.2.1), (7, .long t31.2.2.1), (9, .long t31.2.2.2.1), (11, .long t31.2.2.2.2)]) rfl ?_
        exact ih31 (t31.1, t31.2.1, t31.2.2.1, t31.2.2.2.1, t31.2.2.2.2) (by rw [sm_f h44]; try rw [← ht31]; try rfl)
      · refine j_aload_n C 2 dX0_solve_47 rfl rfl ?_
        refine j_get C 3 fgX0_solve_70 rfl rfl dX0_solve_48 ?_
        refine j_iload C 0 dX0_solve_51 rfl ?_
        refine j_iald C 5 rfl (i := i31) rfl (by omega) (by decide) dX0_solve_53 ?_
        refine j_i2l C dX0_solve_54 ?_
        refine j_lstore C dX0_solve_55 (by decide) (lv' := [(14, .long ((Kp i31).toInt64)), (13, .int (nI i31)), (0, .ref (b 0)), (1, .ref (a 0)), (2, .int x), (3, .long t31.1), (5, .long t31.2.1), (7, .long t31.2.2.1), (9, .long t31.2.2.2.1), (11, .long t31.2.2.2.2)]) rfl ?_
        refine j_aload_n C 3 dX0_solve_57 rfl rfl ?_
        refine j_get C 3 fgX0_solve_73 rfl rfl dX0_solve_58 ?_
        refine j_iload C 1 dX0_solve_61 rfl ?_
        refine j_iald C 4 rfl (i := i31) rfl (by omega) (by decide) dX0_solve_63 ?_
        refine j_i2l C dX0_solve_64 ?_
        refine j_lstore C dX0_solve_65 (by decide) (lv' := [(16, .long ((Pp i31).toInt64)), (14, .long ((Kp i31).toInt64)), (13, .int (nI i31)), (0, .ref (b 0)), (1, .ref (a 0)), (2, .int x), (3, .long t31.1), (5, .long t31.2.1), (7, .long t31.2.2.1), (9, .long t31.2.2.2.1), (11, .long t31.2.2.2.2)]) rfl ?_
        refine j_lload_n C 6 dX0_solve_67 rfl rfl ?_
        refine j_lload C 1 dX0_solve_68 rfl ?_
        refine j_ladd C dX0_solve_70 ?_
        refine j_lstore_n C dX0_solve_71 rfl (by decide) (lv' := [(3, .long (t31.1 + ((Kp i31).toInt64))), (16, .long ((Pp i31).toInt64)), (14, .long ((Kp i31).toInt64)), (13, .int (nI i31)), (0, .ref (b 0)), (1, .ref (a 0)), (2, .int x), (5, .long t31.2.1), (7, .long t31.2.2.1), (9, .long t31.2.2.2.1), (11, .long t31.2.2.2.2)]) rfl ?_
        refine j_lload C 7 dX0_solve_72 rfl ?_
        refine j_lload C 2 dX0_solve_74 rfl ?_
        refine j_lload C 1 dX0_solve_76 rfl ?_
        refine j_lmul C dX0_solve_78 ?_
        refine j_ladd C dX0_solve_79 ?_
        refine j_lstore C dX0_solve_80 (by decide) (lv' := [(5, .long (t31.2.1 + (((Kp i31).toInt64) * ((Pp i31).toInt64)))), (3, .long (t31.1 + ((Kp i31).toInt64))), (16, .long ((Pp i31).toInt64)), (14, .long ((Kp i31).toInt64)), (13, .int (nI i31)), (0, .ref (b 0)), (1, .ref (a 0)), (2, .int x), (7, .long t31.2.2.1), (9, .long t31.2.2.2.1), (11, .long t31.2.2.2.2)]) rfl ?_
        refine j_lload C 8 dX0_solve_82 rfl ?_
        refine j_lload C 3 dX0_solve_84 rfl ?_
        refine j_lload C 2 dX0_solve_86 rfl ?_
        refine j_lmul C dX0_solve_88 ?_
        refine j_lload C 2 dX0_solve_89 rfl ?_
        refine j_lmul C dX0_solve_91 ?_
        refine j_ladd C dX0_solve_92 ?_
        refine j_lstore C dX0_solve_93 (by decide) (lv' := [(7, .long (t31.2.2.1 + ((((Kp i31).toInt64) * ((Pp i31).toInt64)) * ((Pp i31).toInt64)))), (5, .long (t31.2.1 + (((Kp i31).toInt64) * ((Pp i31).toInt64)))), (3, .long (t31.1 + ((Kp i31).toInt64))), (16, .long ((Pp i31).toInt64)), (14, .long ((Kp i31).toInt64)), (13, .int (nI i31)), (0, .ref (b 0)), (1, .ref (a 0)), (2, .int x), (9, .long t31.2.2.2.1), (11, .long t31.2.2.2.2)]) rfl ?_
        refine j_lload C 9 dX0_solve_95 rfl ?_
        refine j_lload C 4 dX0_solve_97 rfl ?_
        refine j_aload_n C 7 dX0_solve_99 rfl rfl ?_
        refine j_get C 3 fgX0_solve_76 rfl rfl dX0_solve_100 ?_
        refine j_iload C 5 dX0_solve_103 rfl ?_
        refine j_iald C 6 rfl (i := i31) rfl (by omega) (by decide) dX0_solve_105 ?_
        refine j_i2l C dX0_solve_106 ?_
        refine j_lmul C dX0_solve_107 ?_
        refine j_lsub C dX0_solve_108 ?_
        refine j_lstore C dX0_solve_109 (by decide) (lv' := [(9, .long (t31.2.2.2.1 - (((Kp i31).toInt64) * ((Hp i31).toInt64)))), (7, .long (t31.2.2.1 + ((((Kp i31).toInt64) * ((Pp i31).toInt64)) * ((Pp i31).toInt64)))), (5, .long (t31.2.1 + (((Kp i31).toInt64) * ((Pp i31).toInt64)))), (3, .long (t31.1 + ((Kp i31).toInt64))), (16, .long ((Pp i31).toInt64)), (14, .long ((Kp i31).toInt64)), (13, .int (nI i31)), (0, .ref (b 0)), (1, .ref (a 0)), (2, .int x), (11, .long t31.2.2.2.2)]) rfl ?_
        refine j_lload C 10 dX0_solve_111 rfl ?_
        refine j_lload C 5 dX0_solve_113 rfl ?_
        refine j_aload_n C 8 dX0_solve_115 rfl rfl ?_
        refine j_get C 3 fgX0_solve_76 rfl rfl dX0_solve_116 ?_
        refine j_iload C 6 dX0_solve_119 rfl ?_
        refine j_iald C 6 rfl (i := i31) rfl (by omega) (by decide) dX0_solve_121 ?_
        refine j_i2l C dX0_solve_122 ?_
        refine j_lmul C dX0_solve_123 ?_
        refine j_lload C 4 dX0_solve_124 rfl ?_
        refine j_lmul C dX0_solve_126 ?_
        refine j_lsub C dX0_solve_127 ?_
        refine j_lstore C dX0_solve_128 (by decide) (lv' := [(11, .long (t31.2.2.2.2 - ((((Kp i31).toInt64) * ((Hp i31).toInt64)) * ((Pp i31).toInt64)))), (9, .long (t31.2.2.2.1 - (((Kp i31).toInt64) * ((Hp i31).toInt64)))), (7, .long (t31.2.2.1 + ((((Kp i31).toInt64) * ((Pp i31).toInt64)) * ((Pp i31).toInt64)))), (5, .long (t31.2.1 + (((Kp i31).toInt64) * ((Pp i31).toInt64)))), (3, .long (t31.1 + ((Kp i31).toInt64))), (16, .long ((Pp i31).toInt64)), (14, .long ((Kp i31).toInt64)), (13, .int (nI i31)), (0, .ref (b 0)), (1, .ref (a 0)), (2, .int x)]) rfl ?_
        refine j_iinc C 7 dX0_solve_130 rfl (v := nI (i31 + 1)) (nI_1 _) (by decide) (lv' := [(13, .int (nI (i31 + 1))), (11, .long (t31.2.2.2.2 - ((((Kp i31).toInt64) * ((Hp i31).toInt64)) * ((Pp i31).toInt64)))), (9, .long (t31.2.2.2.1 - (((Kp i31).toInt64) * ((Hp i31).toInt64)))), (7, .long (t31.2.2.1 + ((((Kp i31).toInt64) * ((Pp i31).toInt64)) * ((Pp i31).toInt64)))), (5, .long (t31.2.1 + (((Kp i31).toInt64) * ((Pp i31).toInt64)))), (3, .long (t31.1 + ((Kp i31).toInt64))), (16, .long ((Pp i31).toInt64)), (14, .long ((Kp i31).toInt64)), (0, .ref (b 0)), (1, .ref (a 0)), (2, .int x)]) rfl ?_
        refine j_goto C dX0_solve_133 (tgt := 31) (by decide) ?_
        refine j_sub [0, 8, 9, 10, 5, 4, 3, 2, 1] (lv' := [(13, .int (nI (i31 + 1))), (0, .ref (b 0)), (1, .ref (a 0)), (2, .int x), (3, .long (t31.1 + ((Kp i31).toInt64))), (5, .long (t31.2.1 + (((Kp i31).toInt64) * ((Pp i31).toInt64)))), (7, .long (t31.2.2.1 + ((((Kp i31).toInt64) * ((Pp i31).toInt64)) * ((Pp i31).toInt64)))), (9, .long (t31.2.2.2.1 - (((Kp i31).toInt64) * ((Hp i31).toInt64)))), (11, .long (t31.2.2.2.2 - ((((Kp i31).toInt64) * ((Hp i31).toInt64)) * ((Pp i31).toInt64))))]) rfl ?_
        exact ih31 (t31.1 + ((Kp i31).toInt64), t31.2.1 + (((Kp i31).toInt64) * ((Pp i31).toInt64)), t31.2.2.1 + ((((Kp i31).toInt64) * ((Pp i31).toInt64)) * ((Pp i31).toInt64)), t31.2.2.2.1 - (((Kp i31).toInt64) * ((Hp i31).toInt64)), t31.2.2.2.2 - ((((Kp i31).toInt64) * ((Hp i31).toInt64)) * ((Pp i31).toInt64))) (by rw [sm_t h44]; try rw [← ht31]; try rfl)
  refine j_sub [0, 6, 7, 8, 5, 4, 3, 2, 1] (lv' := [(13, .int (0 : Int32)), (0, .ref (b 0)), (1, .ref (a 0)), (2, .int x), (3, .long (0 : Int64)), (5, .long (0 : Int64)), (7, .long (0 : Int64)), (9, .long we.toInt64), (11, .long (we.toInt64 * ce.toInt64))]) rfl ?_
  exact hl31 0 (Nat.zero_le _) ((0 : Int64), (0 : Int64), (0 : Int64), we.toInt64, we.toInt64 * ce.toInt64) rfl

set_option maxRecDepth 100000 in
set_option maxHeartbeats 4000000 in
theorem ctX0_pressed (l : Launch) (D : KD) (b a : Nat → Nat) (sd rd be ov : Int32) (qa qb qd : Int64) (lo : Nat → Int32) (cu : Nat → Int64) (we ce co sg cr : Int32) (Pp Kp Hp Lp Sp : Nat → Int32) : MI l D yX0_pressed wsX0_pressed 1 24 0 0 [.ref (b 0), .ref (a 0)] (wBa D b sd rd be ov qa qb qd lo cu ++ (wDo D a we ce co sg cr Pp Kp Hp Lp Sp)) (fun r w1 => r = nx Pp Hp sg (qa, qb, qd) 16 ∧ w1 = wBa D b sd rd be ov qa qb qd lo cu ++ wDo D a we ce co sg cr Pp Kp Hp Lp Sp) := by
  refine MI.of (cc := cX0_pressed) (nL := 4) (lv0 := [(0, .ref (b 0)), (1, .ref (a 0))]) (by decide +kernel) rfl (Nat.le_of_ble_eq_true rfl) rfl ?_
  intro X hXl hin C ret
  subst hXl
  refine j_iconst C (v := (0 : Int32)) dX0_pressed_0 rfl ?_
  refine j_istore_n C dX0_pressed_1 rfl (by decide) (lv' := [(2, .int (0 : Int32)), (0, .ref (b 0)), (1, .ref (a 0))]) rfl ?_
  refine j_iconst C (v := (0 : Int32)) dX0_pressed_2 rfl ?_
  refine j_istore_n C dX0_pressed_3 rfl (by decide) (lv' := [(3, .int (0 : Int32)), (2, .int (0 : Int32)), (0, .ref (b 0)), (1, .ref (a 0))]) rfl ?_
  have hl4 : ∀ i4, i4 ≤ 16 → ∀ (t4 : Int32), t4 = nx Pp Hp sg (qa, qb, qd) i4 → J D X (wBa D b sd rd be ov qa qb qd lo cu ++ (wDo D a we ce co sg cr Pp Kp Hp Lp Sp)) 0 0 4 [(3, .int (nI i4)), (2, .int t4), (0, .ref (b 0)), (1, .ref (a 0))] [] := by
    refine for_up (16) ?_ ?_
    · intro t4 ht4
      refine j_iload_n C 0 dX0_pressed_4 rfl rfl ?_
      refine j_bipush C (v := (16 : Int32)) dX0_pressed_5 rfl ?_
      refine j_icmp_ge C dX0_pressed_7 (tgt := 56) (by decide) (fun _ => ?_) (fun h => absurd (nI_le (Nat.le_refl 16) (by decide)) h)
      refine j_iload_n C 1 dX0_pressed_56 rfl rfl ?_
      exact ret dX0_pressed_57 (⟨ht4, rfl⟩)
    · intro i4 hi4 ih4 t4 ht4
      refine j_iload_n C 0 dX0_pressed_4 rfl rfl ?_
      refine j_bipush C (v := (16 : Int32)) dX0_pressed_5 rfl ?_
      refine j_icmp_ge C dX0_pressed_7 (tgt := 56) (by decide) (fun h => absurd h (nI_ge hi4 (by decide))) (fun _ => ?_)
      refine j_aload_n C 3 dX0_pressed_10 rfl rfl ?_
      refine j_get C 3 fgX0_pressed_40 rfl rfl dX0_pressed_11 ?_
      refine j_iload_n C 0 dX0_pressed_14 rfl rfl ?_
      refine j_csN_i C (As := [.int sg, .int (nI i4)]) (rest := []) (ctX5_isMember (xl X) D sg i4 (by first | assumption | omega | decide)) mfX5_isMember gX0_pressed_X5_isMember_n66 rfl (C.hN.2.2.2.2.1) mX0_pressed_static_yX5_isMember mX0_pressed_initialized_RX5 (Nat.le_of_ble_eq_true rfl) (Nat.le_of_ble_eq_true rfl) (Nat.le_of_ble_eq_true rfl) (Nat.le_of_ble_eq_true rfl) [] rfl rfl rfl (Nat.le_of_ble_eq_true rfl) dX0_pressed_15 ?_
      rintro _ _ ⟨rfl, rfl⟩
      refine ⟨rfl, ?_⟩
      refine j_w (w' := (wBa D b sd rd be ov qa qb qd lo cu ++ (wDo D a we ce co sg cr Pp Kp Hp Lp Sp))) rfl ?_
      refine j_bif_eq C dX0_pressed_18 (tgt := 50) (by decide) (fun h18 => ?_) (fun h18 => ?_)
      · refine j_iinc C 0 dX0_pressed_50 rfl (v := nI (i4 + 1)) (nI_1 _) (by decide) (lv' := [(3, .int (nI (i4 + 1))), (2, .int t4), (0, .ref (b 0)), (1, .ref (a 0))]) rfl ?_
        refine j_goto C dX0_pressed_53 (tgt := 4) (by decide) ?_
        refine j_sub [0, 1, 2, 3] (lv' := [(3, .int (nI (i4 + 1))), (2, .int t4), (0, .ref (b 0)), (1, .ref (a 0))]) rfl ?_
        exact ih4 t4 (by rw [nx_f h18]; try rw [← ht4]; try rfl)
      · refine j_aload_n C 2 dX0_pressed_21 rfl rfl ?_
        refine j_aload_n C 3 dX0_pressed_22 rfl rfl ?_
        refine j_get C 3 fgX0_pressed_73 rfl rfl dX0_pressed_23 ?_
        refine j_iload_n C 0 dX0_pressed_26 rfl rfl ?_
        refine j_iald C 4 rfl (i := i4) rfl (by omega) (by decide) dX0_pressed_27 ?_
        refine j_i2l C dX0_pressed_28 ?_
        refine j_aload_n C 3 dX0_pressed_29 rfl rfl ?_
        refine j_get C 3 fgX0_pressed_76 rfl rfl dX0_pressed_30 ?_
        refine j_iload_n C 0 dX0_pressed_33 rfl rfl ?_
        refine j_iald C 6 rfl (i := i4) rfl (by omega) (by decide) dX0_pressed_34 ?_
        refine j_i2l C dX0_pressed_35 ?_
        refine j_cv_l C (As := [.long ((Pp i4).toInt64), .long ((Hp i4).toInt64)]) (rest := []) (ctX0_pressTimesD (xl X) D b sd rd be ov qa qb qd lo cu ((Pp i4).toInt64) ((Hp i4).toInt64)) mfX0_pressTimesD gX0_pressed_X0_pressTimesD rfl (Nat.le_of_ble_eq_true rfl) (Nat.le_of_ble_eq_true rfl) (Nat.le_of_ble_eq_true rfl) (Nat.le_of_ble_eq_true rfl) [0, 1, 2] rfl rfl 0 rfl rfl rfl rfl (Nat.le_of_ble_eq_true rfl) dX0_pressed_36 ?_
        rintro _ _ ⟨rfl, rfl⟩
        refine ⟨rfl, ?_⟩
        refine j_w (w' := (wBa D b sd rd be ov qa qb qd lo cu ++ (wDo D a we ce co sg cr Pp Kp Hp Lp Sp))) rfl ?_
        refine j_lconst C (v := (0 : Int64)) dX0_pressed_39 rfl ?_
        refine j_lcmp C dX0_pressed_40 ?_
        refine j_lif_le C dX0_pressed_41 (tgt := 50) (by decide) (fun h41 => ?_) (fun h41 => ?_)
        · have h41' := Int64.not_lt.mpr h41
          refine j_iinc C 0 dX0_pressed_50 rfl (v := nI (i4 + 1)) (nI_1 _) (by decide) (lv' := [(3, .int (nI (i4 + 1))), (2, .int t4), (0, .ref (b 0)), (1, .ref (a 0))]) rfl ?_
          refine j_goto C dX0_pressed_53 (tgt := 4) (by decide) ?_
          refine j_sub [0, 1, 2, 3] (lv' := [(3, .int (nI (i4 + 1))), (2, .int t4), (0, .ref (b 0)), (1, .ref (a 0))]) rfl ?_
          exact ih4 t4 (by rw [nx_g (q := (qa, qb, qd)) h41']; try rw [← ht4]; try rfl)
        · have h41' := Int64.not_le.mp h41
          refine j_iload_n C 1 dX0_pressed_44 rfl rfl ?_
          refine j_iconst C (v := (1 : Int32)) dX0_pressed_45 rfl ?_
          refine j_iload_n C 0 dX0_pressed_46 rfl rfl ?_
          refine j_ishl C dX0_pressed_47 ?_
          refine j_ior C dX0_pressed_48 ?_
          refine j_istore_n C dX0_pressed_49 rfl (by decide) (lv' := [(2, .int (t4 ||| ((1 : Int32) <<< ((nI i4) &&& 31)))), (3, .int (nI i4)), (0, .ref (b 0)), (1, .ref (a 0))]) rfl ?_
          refine j_iinc C 1 dX0_pressed_50 rfl (v := nI (i4 + 1)) (nI_1 _) (by decide) (lv' := [(3, .int (nI (i4 + 1))), (2, .int (t4 ||| ((1 : Int32) <<< ((nI i4) &&& 31)))), (0, .ref (b 0)), (1, .ref (a 0))]) rfl ?_
          refine j_goto C dX0_pressed_53 (tgt := 4) (by decide) ?_
          refine j_sub [0, 1, 2, 3] (lv' := [(3, .int (nI (i4 + 1))), (2, .int (t4 ||| ((1 : Int32) <<< ((nI i4) &&& 31)))), (0, .ref (b 0)), (1, .ref (a 0))]) rfl ?_
          exact ih4 (t4 ||| ((1 : Int32) <<< ((nI i4) &&& 31))) (by rw [nx_t (q := (qa, qb, qd)) h18 h41']; try rw [← ht4]; try rfl)
  refine j_sub [0, 1, 2, 3] (lv' := [(3, .int (0 : Int32)), (2, .int (0 : Int32)), (0, .ref (b 0)), (1, .ref (a 0))]) rfl ?_
  exact hl4 0 (Nat.zero_le _) (0 : Int32) rfl

set_option maxRecDepth 100000 in
set_option maxHeartbeats 4000000 in
theorem ctX0_findBearing (l : Launch) (D : KD) (b a : Nat → Nat) (sd rd be ov : Int32) (qa qb qd : Int64) (lo : Nat → Int32) (cu : Nat → Int64) (we ce co sg cr : Int32) (Pp Kp Hp Lp Sp : Nat → Int32) : MV l D yX0_findBearing wsX0_findBearing 2 58 0 0 [.ref (b 0), .ref (a 0)] (wBa D b sd rd be ov qa qb qd lo cu ++ (wDo D a we ce co sg cr Pp Kp Hp Lp Sp)) (fun w1 => w1 = wBa D b (if (fnd (we, ce, co, sg, cr, Pp, Kp, Hp, Lp, Sp)).1 = true then 1 else sd) (nI (fnd (we, ce, co, sg, cr, Pp, Kp, Hp, Lp, Sp)).2.1) (if (fnd (we, ce, co, sg, cr, Pp, Kp, Hp, Lp, Sp)).1 = true then (fnd (we, ce, co, sg, cr, Pp, Kp, Hp, Lp, Sp)).2.2.1 else be) ov ((fnd (we, ce, co, sg, cr, Pp, Kp, Hp, Lp, Sp)).2.2.2.1) ((fnd (we, ce, co, sg, cr, Pp, Kp, Hp, Lp, Sp)).2.2.2.2.1) ((fnd (we, ce, co, sg, cr, Pp, Kp, Hp, Lp, Sp)).2.2.2.2.2) lo cu ++ wDo D a we ce co sg cr Pp Kp Hp Lp Sp) := by
  refine MV.of (cc := cX0_findBearing) (nL := 5) (lv0 := [(0, .ref (b 0)), (1, .ref (a 0))]) (by decide +kernel) rfl (Nat.le_of_ble_eq_true rfl) rfl ?_
  intro X hXl hin C ret
  subst hXl
  refine j_aload_n C 1 dX0_findBearing_0 rfl rfl ?_
  refine j_get C 3 fgX0_findBearing_40 rfl rfl dX0_findBearing_1 ?_
  refine j_istore_n C dX0_findBearing_4 rfl (by decide) (lv' := [(2, .int sg), (0, .ref (b 0)), (1, .ref (a 0))]) rfl ?_
  refine j_iconst C (v := (1 : Int32)) dX0_findBearing_5 rfl ?_
  refine j_istore_n C dX0_findBearing_6 rfl (by decide) (lv' := [(3, .int (1 : Int32)), (2, .int sg), (0, .ref (b 0)), (1, .ref (a 0))]) rfl ?_
  have key : ∀ (n0 r0 : Nat) (x0 : Int32) (q0 : Int64 × Int64 × Int64) (rr : Int32), n0 + r0 = 30 → (r0 = 0 ∨ rr = nI r0) → fb (sol Pp Kp Hp we ce 16) (fun q => nx Pp Hp sg q 16) n0 r0 x0 q0 = fnd (we, ce, co, sg, cr, Pp, Kp, Hp, Lp, Sp) → J D X (wBa D b sd rr be ov q0.1 q0.2.1 q0.2.2 lo cu ++ (wDo D a we ce co sg cr Pp Kp Hp Lp Sp)) 0 0 7 [(3, .int (nI (r0 + 1))), (2, .int x0), (0, .ref (b 0)), (1, .ref (a 0))] [] := by
    intro n0
    induction n0 with
    | zero =>
      intro r0 x0 q0 rr hm hr hres
      obtain rfl : r0 = 30 := by omega
      have hr : rr = nI 30 := hr.resolve_left (by decide)
      subst hr
      refine j_iload_n C 0 dX0_findBearing_7 rfl rfl ?_
      refine j_bipush C (v := (30 : Int32)) dX0_findBearing_8 rfl ?_
      refine j_icmp_gt C dX0_findBearing_10 (tgt := 67) (by decide) (fun _ => ?_) (fun h => absurd (by decide) h)
      exact ret dX0_findBearing_67 ((by rw [← hres]; rfl))
    | succ n0 ih =>
      intro r0 x0 q0 rr hm hr hres
      obtain ⟨fx, hfx⟩ : ∃ q, sol Pp Kp Hp we ce 16 x0 = q := ⟨_, rfl⟩
      refine j_iload_n C 0 dX0_findBearing_7 rfl rfl ?_
      refine j_bipush C (v := (30 : Int32)) dX0_findBearing_8 rfl ?_
      refine j_icmp_gt C dX0_findBearing_10 (tgt := 67) (by decide) (fun h => absurd h (nI_nlt (a := 30) (b := r0 + 1) (by omega) (by omega))) (fun _ => ?_)
      refine j_aload_n C 2 dX0_findBearing_13 rfl rfl ?_
      refine j_iload_n C 0 dX0_findBearing_14 rfl rfl ?_
      refine j_put C 0 foX0_findBearing_45 rfl (w' := (wBa D b sd (nI (r0 + 1)) be ov q0.1 q0.2.1 q0.2.2 lo cu ++ (wDo D a we ce co sg cr Pp Kp Hp Lp Sp))) rfl rfl rfl (Nat.le_of_ble_eq_true rfl) dX0_findBearing_15 ?_
      refine j_aload_n C 2 dX0_findBearing_18 rfl rfl ?_
      refine j_aload_n C 3 dX0_findBearing_19 rfl rfl ?_
      refine j_iload_n C 1 dX0_findBearing_20 rfl rfl ?_
      refine j_cv_v C (As := [.ref (a 0), .int x0]) (rest := []) (ctX0_solve (xl X) D b a sd (nI (r0 + 1)) be ov q0.1 q0.2.1 q0.2.2 lo cu we ce co sg cr Pp Kp Hp Lp Sp x0) mfX0_solve gX0_findBearing_X0_solve rfl (Nat.le_of_ble_eq_true rfl) (Nat.le_of_ble_eq_true rfl) (Nat.le_of_ble_eq_true rfl) (Nat.le_of_ble_eq_true rfl) [0, 1, 2, 3, 4, 5, 6, 7, 8] rfl rfl 0 rfl rfl rfl rfl (Nat.le_of_ble_eq_true rfl) dX0_findBearing_21 ?_
      rintro _ rfl
      refine ⟨rfl, ?_⟩
      refine j_w (w' := (wBa D b sd (nI (r0 + 1)) be ov ((sol Pp Kp Hp we ce 16 x0).1) ((sol Pp Kp Hp we ce 16 x0).2.1) ((sol Pp Kp Hp we ce 16 x0).2.2) lo cu ++ (wDo D a we ce co sg cr Pp Kp Hp Lp Sp))) rfl ?_
      rw [hfx]
      refine j_aload_n C 2 dX0_findBearing_24 rfl rfl ?_
      refine j_get C 0 fgX0_findBearing_52 rfl rfl dX0_findBearing_25 ?_
      refine j_lconst C (v := (0 : Int64)) dX0_findBearing_28 rfl ?_
      refine j_lcmp C dX0_findBearing_29 ?_
      refine j_lif_gt C dX0_findBearing_30 (tgt := 34) (by decide) (fun h30 => ?_) (fun h30 => ?_)
      · have h30' := Int64.not_le.mpr h30
        have h30'' := Int64.not_le.mpr h30
        refine j_aload_n C 2 dX0_findBearing_34 rfl rfl ?_
        refine j_aload_n C 3 dX0_findBearing_35 rfl rfl ?_
        refine j_cv_i C (As := [.ref (a 0)]) (rest := []) (ctX0_pressed (xl X) D b a sd (nI (r0 + 1)) be ov fx.1 fx.2.1 fx.2.2 lo cu we ce co sg cr Pp Kp Hp Lp Sp) mfX0_pressed gX0_findBearing_X0_pressed rfl (Nat.le_of_ble_eq_true rfl) (Nat.le_of_ble_eq_true rfl) (Nat.le_of_ble_eq_true rfl) (Nat.le_of_ble_eq_true rfl) [0, 1, 2, 3, 4, 5, 6, 7, 8] rfl rfl 0 rfl rfl rfl rfl (Nat.le_of_ble_eq_true rfl) dX0_findBearing_36 ?_
        rintro _ _ ⟨rfl, rfl⟩
        refine ⟨rfl, ?_⟩
        refine j_w (w' := (wBa D b sd (nI (r0 + 1)) be ov fx.1 fx.2.1 fx.2.2 lo cu ++ (wDo D a we ce co sg cr Pp Kp Hp Lp Sp))) rfl ?_
        refine j_istore C dX0_findBearing_39 (by decide) (lv' := [(4, .int (nx Pp Hp sg (fx.1, fx.2.1, fx.2.2) 16)), (3, .int (nI (r0 + 1))), (2, .int x0), (0, .ref (b 0)), (1, .ref (a 0))]) rfl ?_
        refine j_iload C 0 dX0_findBearing_41 rfl ?_
        refine j_iload_n C 2 dX0_findBearing_43 rfl rfl ?_
        refine j_icmp_ne C dX0_findBearing_44 (tgt := 58) (by decide) (fun h44 => ?_) (fun h44 => ?_)
        · refine j_iload C 0 dX0_findBearing_58 rfl ?_
          refine j_istore_n C dX0_findBearing_60 rfl (by decide) (lv' := [(2, .int (nx Pp Hp sg (fx.1, fx.2.1, fx.2.2) 16)), (4, .int (nx Pp Hp sg (fx.1, fx.2.1, fx.2.2) 16)), (3, .int (nI (r0 + 1))), (0, .ref (b 0)), (1, .ref (a 0))]) rfl ?_
          refine j_iinc C 2 dX0_findBearing_61 rfl (v := nI (r0 + 1 + 1)) (nI_1 _) (by decide) (lv' := [(3, .int (nI (r0 + 1 + 1))), (2, .int (nx Pp Hp sg (fx.1, fx.2.1, fx.2.2) 16)), (4, .int (nx Pp Hp sg (fx.1, fx.2.1, fx.2.2) 16)), (0, .ref (b 0)), (1, .ref (a 0))]) rfl ?_
          refine j_goto C dX0_findBearing_64 (tgt := 7) (by decide) ?_
          refine j_sub [0, 1, 3, 4] (lv' := [(3, .int (nI (r0 + 1 + 1))), (2, .int (nx Pp Hp sg (fx.1, fx.2.1, fx.2.2) 16)), (0, .ref (b 0)), (1, .ref (a 0))]) rfl ?_
          exact ih (r0 + 1) _ fx _ (by omega) (Or.inr rfl) (by rw [← hres, fb_ne (f := (sol Pp Kp Hp we ce 16)) (g := (fun q => nx Pp Hp sg q 16)) (n := n0) (r := r0) (x := x0) (q := q0) (by rw [hfx]; exact h30'') (by rw [hfx]; exact h44), hfx]; try rfl)
        · refine j_aload_n C 3 dX0_findBearing_47 rfl rfl ?_
          refine j_iconst C (v := (1 : Int32)) dX0_findBearing_48 rfl ?_
          refine j_put C 0 foX0_findBearing_19 rfl (w' := (wBa D b (1 : Int32) (nI (r0 + 1)) be ov fx.1 fx.2.1 fx.2.2 lo cu ++ (wDo D a we ce co sg cr Pp Kp Hp Lp Sp))) rfl rfl rfl (Nat.le_of_ble_eq_true rfl) dX0_findBearing_49 ?_
          refine j_aload_n C 3 dX0_findBearing_52 rfl rfl ?_
          refine j_iload_n C 2 dX0_findBearing_53 rfl rfl ?_
          refine j_put C 0 foX0_findBearing_23 rfl (w' := (wBa D b (1 : Int32) (nI (r0 + 1)) x0 ov fx.1 fx.2.1 fx.2.2 lo cu ++ (wDo D a we ce co sg cr Pp Kp Hp Lp Sp))) rfl rfl rfl (Nat.le_of_ble_eq_true rfl) dX0_findBearing_54 ?_
          exact ret dX0_findBearing_57 ((by rw [← hres, fb_eq (f := (sol Pp Kp Hp we ce 16)) (g := (fun q => nx Pp Hp sg q 16)) (n := n0) (r := r0) (x := x0) (q := q0) (by rw [hfx]; exact h30'') (by rw [hfx]; exact h44), hfx]; rfl))
      · have h30' := Int64.not_lt.mp h30
        exact ret dX0_findBearing_33 ((by rw [← hres, fb_le (f := (sol Pp Kp Hp we ce 16)) (g := (fun q => nx Pp Hp sg q 16)) (n := n0) (r := r0) (x := x0) (q := q0) (by rw [hfx]; exact h30'), hfx]; rfl))
  refine j_sub [0, 1, 2, 3] (lv' := [(3, .int (1 : Int32)), (2, .int sg), (0, .ref (b 0)), (1, .ref (a 0))]) rfl ?_
  exact key 30 0 sg (qa, qb, qd) rd rfl (Or.inl rfl) rfl

set_option maxRecDepth 100000 in
set_option maxHeartbeats 4000000 in
theorem ctX0_giveOneMore (l : Launch) (D : KD) (b : Nat → Nat) (sd rd be ov : Int32) (qa qb qd : Int64) (lo : Nat → Int32) (cu : Nat → Int64) : MV l D yX0_giveOneMore wsX0_giveOneMore 0 0 0 0 [.ref (b 0)] (wBa D b sd rd be ov qa qb qd lo cu) (fun w1 => w1 = wBa D b sd rd be ov qa qb qd ((gv (lo, cu)).1) ((gv (lo, cu)).2)) := by
  refine MV.of (cc := cX0_giveOneMore) (nL := 3) (lv0 := [(0, .ref (b 0))]) (by decide +kernel) rfl (Nat.le_of_ble_eq_true rfl) rfl ?_
  intro X hXl hin C ret
  subst hXl
  refine j_iconst C (v := (0 : Int32)) dX0_giveOneMore_0 rfl ?_
  refine j_istore_n C dX0_giveOneMore_1 rfl (by decide) (lv' := [(1, .int (0 : Int32)), (0, .ref (b 0))]) rfl ?_
  refine j_iconst C (v := (1 : Int32)) dX0_giveOneMore_2 rfl ?_
  refine j_istore_n C dX0_giveOneMore_3 rfl (by decide) (lv' := [(2, .int (1 : Int32)), (1, .int (0 : Int32)), (0, .ref (b 0))]) rfl ?_
  have hl4 : ∀ i4, i4 ≤ 16 → ∀ (t4 : Nat), t4 = am cu i4 → J D X (wBa D b sd rd be ov qa qb qd lo cu) 0 0 4 [(2, .int (nI i4)), (1, .int (nI t4)), (0, .ref (b 0))] [] := by
    refine for_up (16) ?_ ?_
    · intro t4 ht4
      refine j_iload_n C 0 dX0_giveOneMore_4 rfl rfl ?_
      refine j_bipush C (v := (16 : Int32)) dX0_giveOneMore_5 rfl ?_
      refine j_icmp_ge C dX0_giveOneMore_7 (tgt := 34) (by decide) (fun _ => ?_) (fun h => absurd (nI_le (Nat.le_refl 16) (by decide)) h)
      refine j_aload_n C 2 dX0_giveOneMore_34 rfl rfl ?_
      refine j_get C 0 fgX0_giveOneMore_9 rfl rfl dX0_giveOneMore_35 ?_
      refine j_iload_n C 1 dX0_giveOneMore_38 rfl rfl ?_
      refine j_dup2 C dX0_giveOneMore_39 rfl rfl ?_
      refine j_iald C 1 rfl (i := t4) rfl (by rw [ht4]; exact am_16 _ _ (by omega)) (by decide) dX0_giveOneMore_40 ?_
      refine j_iconst C (v := (1 : Int32)) dX0_giveOneMore_41 rfl ?_
      refine j_iadd C dX0_giveOneMore_42 ?_
      refine j_iast C 1 rfl (i := t4) rfl (by rw [ht4]; exact am_16 _ _ (by omega)) (by decide) (w' := (wBa D b sd rd be ov qa qb qd (upd lo t4 ((lo t4) + (1 : Int32))) cu)) rfl dX0_giveOneMore_43 ?_
      refine j_aload_n C 2 dX0_giveOneMore_44 rfl rfl ?_
      refine j_get C 0 fgX0_giveOneMore_15 rfl rfl dX0_giveOneMore_45 ?_
      refine j_iload_n C 1 dX0_giveOneMore_48 rfl rfl ?_
      refine j_ldc2 C kX0_giveOneMore_89 dX0_giveOneMore_49 ?_
      refine j_last C 2 rfl (i := t4) rfl (by rw [ht4]; exact am_16 _ _ (by omega)) (by decide) (w' := (wBa D b sd rd be ov qa qb qd (upd lo t4 ((lo t4) + (1 : Int32))) (vp_updL cu t4 (-1 : Int64)))) rfl dX0_giveOneMore_52 ?_
      exact ret dX0_giveOneMore_53 (by subst ht4; rfl)
    · intro i4 hi4 ih4 t4 ht4
      refine j_iload_n C 0 dX0_giveOneMore_4 rfl rfl ?_
      refine j_bipush C (v := (16 : Int32)) dX0_giveOneMore_5 rfl ?_
      refine j_icmp_ge C dX0_giveOneMore_7 (tgt := 34) (by decide) (fun h => absurd h (nI_ge hi4 (by decide))) (fun _ => ?_)
      refine j_aload_n C 2 dX0_giveOneMore_10 rfl rfl ?_
      refine j_get C 0 fgX0_giveOneMore_15 rfl rfl dX0_giveOneMore_11 ?_
      refine j_iload_n C 0 dX0_giveOneMore_14 rfl rfl ?_
      refine j_lald C 2 rfl (i := i4) rfl (by omega) (by decide) dX0_giveOneMore_15 ?_
      refine j_aload_n C 2 dX0_giveOneMore_16 rfl rfl ?_
      refine j_get C 0 fgX0_giveOneMore_15 rfl rfl dX0_giveOneMore_17 ?_
      refine j_iload_n C 1 dX0_giveOneMore_20 rfl rfl ?_
      refine j_lald C 2 rfl (i := t4) rfl (by rw [ht4]; exact am_16 _ _ (by omega)) (by decide) dX0_giveOneMore_21 ?_
      refine j_lcmp C dX0_giveOneMore_22 ?_
      refine j_lif_le C dX0_giveOneMore_23 (tgt := 28) (by decide) (fun h23 => ?_) (fun h23 => ?_)
      · have h23' := Int64.not_lt.mpr h23
        refine j_iinc C 0 dX0_giveOneMore_28 rfl (v := nI (i4 + 1)) (nI_1 _) (by decide) (lv' := [(2, .int (nI (i4 + 1))), (1, .int (nI t4)), (0, .ref (b 0))]) rfl ?_
        refine j_goto C dX0_giveOneMore_31 (tgt := 4) (by decide) ?_
        refine j_sub [0, 1, 2] (lv' := [(2, .int (nI (i4 + 1))), (1, .int (nI t4)), (0, .ref (b 0))]) rfl ?_
        exact ih4 t4 (by rw [am_f (by rw [← ht4]; exact h23')]; try rw [← ht4]; try rfl)
      · have h23' := Int64.not_le.mp h23
        refine j_iload_n C 0 dX0_giveOneMore_26 rfl rfl ?_
        refine j_istore_n C dX0_giveOneMore_27 rfl (by decide) (lv' := [(1, .int (nI i4)), (2, .int (nI i4)), (0, .ref (b 0))]) rfl ?_
        refine j_iinc C 1 dX0_giveOneMore_28 rfl (v := nI (i4 + 1)) (nI_1 _) (by decide) (lv' := [(2, .int (nI (i4 + 1))), (1, .int (nI i4)), (0, .ref (b 0))]) rfl ?_
        refine j_goto C dX0_giveOneMore_31 (tgt := 4) (by decide) ?_
        refine j_sub [0, 1, 2] (lv' := [(2, .int (nI (i4 + 1))), (1, .int (nI i4)), (0, .ref (b 0))]) rfl ?_
        exact ih4 i4 (by rw [am_t (by rw [← ht4]; exact h23')]; try rw [← ht4]; try rfl)
  refine j_sub [0, 1, 2] (lv' := [(2, .int (1 : Int32)), (1, .int (0 : Int32)), (0, .ref (b 0))]) rfl ?_
  exact hl4 1 (by omega) 0 (am_1 _).symm

set_option maxRecDepth 100000 in
set_option maxHeartbeats 4000000 in
theorem ctX0_roundLoads (l : Launch) (D : KD) (b a : Nat → Nat) (sd rd be ov : Int32) (qa qb qd : Int64) (lo : Nat → Int32) (cu : Nat → Int64) (we ce co sg cr : Int32) (Pp Kp Hp Lp Sp : Nat → Int32) (hd : 0 < qd) : MV l D yX0_roundLoads wsX0_roundLoads 1 24 0 0 [.ref (b 0), .ref (a 0)] (wBa D b sd rd be ov qa qb qd lo cu ++ (wDo D a we ce co sg cr Pp Kp Hp Lp Sp)) (fun w1 => w1 = wBa D b sd rd be ov qa qb qd ((ldS Pp Kp Hp be we (qa, qb, qd) lo).1) ((ldS Pp Kp Hp be we (qa, qb, qd) lo).2) ++ wDo D a we ce co sg cr Pp Kp Hp Lp Sp) := by
  refine MV.of (cc := cX0_roundLoads) (nL := 6) (lv0 := [(0, .ref (b 0)), (1, .ref (a 0))]) (by decide +kernel) rfl (Nat.le_of_ble_eq_true rfl) rfl ?_
  intro X hXl hin C ret
  subst hXl
  refine j_aload_n C 0 dX0_roundLoads_0 rfl rfl ?_
  refine j_get C 0 fgX0_roundLoads_52 rfl rfl dX0_roundLoads_1 ?_
  refine j_lconst C (v := (0 : Int64)) dX0_roundLoads_4 rfl ?_
  refine j_lcmp C dX0_roundLoads_5 ?_
  refine j_lif_gt C dX0_roundLoads_6 (tgt := 10) (by decide) (fun _ => ?_) (fun h => absurd hd h)
  refine j_aload_n C 1 dX0_roundLoads_10 rfl rfl ?_
  refine j_get C 3 fgX0_roundLoads_60 rfl rfl dX0_roundLoads_11 ?_
  refine j_istore_n C dX0_roundLoads_14 rfl (by decide) (lv' := [(2, .int we), (0, .ref (b 0)), (1, .ref (a 0))]) rfl ?_
  refine j_iconst C (v := (0 : Int32)) dX0_roundLoads_15 rfl ?_
  refine j_istore_n C dX0_roundLoads_16 rfl (by decide) (lv' := [(3, .int (0 : Int32)), (2, .int we), (0, .ref (b 0)), (1, .ref (a 0))]) rfl ?_
  have hl17 : ∀ i17, i17 ≤ 16 → ∀ (t17 : Int32 × (Nat → Int32) × (Nat → Int64)), t17 = rl Pp Kp Hp be we (qa, qb, qd) lo cu i17 → J D X (wBa D b sd rd be ov qa qb qd t17.2.1 t17.2.2 ++ (wDo D a we ce co sg cr Pp Kp Hp Lp Sp)) 0 0 17 [(3, .int (nI i17)), (2, .int t17.1), (0, .ref (b 0)), (1, .ref (a 0))] [] := by
    refine for_up (16) ?_ ?_
    · intro t17 ht17
      refine j_iload_n C 0 dX0_roundLoads_17 rfl rfl ?_
      refine j_bipush C (v := (16 : Int32)) dX0_roundLoads_18 rfl ?_
      refine j_icmp_ge C dX0_roundLoads_20 (tgt := 113) (by decide) (fun _ => ?_) (fun h => absurd (nI_le (Nat.le_refl 16) (by decide)) h)
      obtain ⟨u, hu⟩ : ∃ u, u = rl Pp Kp Hp be we (qa, qb, qd) lo (fun _ => 0) 16 := ⟨_, rfl⟩
      have hu1 : t17.1 = u.1 := by rw [ht17, hu]; exact (rl_cu _ _ 16).1
      have hu2 : t17.2.1 = u.2.1 := by rw [ht17, hu]; exact (rl_cu _ _ 16).2.1
      have hu3 : ∀ j, j < 16 → t17.2.2 j = u.2.2 j := by rw [ht17, hu]; exact (rl_cu _ _ 16).2.2
      refine j_asl 2 u.2.2 rfl hu3 (w' := (wBa D b sd rd be ov qa qb qd t17.2.1 u.2.2 ++ (wDo D a we ce co sg cr Pp Kp Hp Lp Sp))) rfl ?_
      rw [hu1, hu2]
      refine j_iconst C (v := (0 : Int32)) dX0_roundLoads_113 rfl ?_
      refine j_istore_n C dX0_roundLoads_114 rfl (by decide) (lv' := [(3, .int (0 : Int32)), (2, .int u.1), (0, .ref (b 0)), (1, .ref (a 0))]) rfl ?_
      have hl115 : ∀ i115, i115 ≤ (giv u.1) → ∀ (t115 : (Nat → Int32) × (Nat → Int64)), t115 = gvn u.2 i115 → J D X (wBa D b sd rd be ov qa qb qd t115.1 t115.2 ++ (wDo D a we ce co sg cr Pp Kp Hp Lp Sp)) 0 0 115 [(3, .int (nI i115)), (2, .int u.1), (0, .ref (b 0)), (1, .ref (a 0))] [] := by
        refine for_up ((giv u.1)) ?_ ?_
        · intro t115 ht115
          refine j_iload_n C 0 dX0_roundLoads_115 rfl rfl ?_
          refine j_iload_n C 1 dX0_roundLoads_116 rfl rfl ?_
          refine j_icmp_ge C dX0_roundLoads_117 (tgt := 136) (by decide) (fun h117 => ?_) (fun h117 => ?_)
          · have h117' := Int32.not_lt.mpr h117
            exact ret dX0_roundLoads_136 (by subst ht115; subst hu; rfl)
          · have h117' := Int32.not_le.mp h117
            refine j_iload_n C 0 dX0_roundLoads_120 rfl rfl ?_
            refine j_bipush C (v := (16 : Int32)) dX0_roundLoads_121 rfl ?_
            refine j_icmp_ge C dX0_roundLoads_123 (tgt := 136) (by decide) (fun _ => ?_) (fun h => absurd (giv_16 h117) h)
            exact ret dX0_roundLoads_136 (by subst ht115; subst hu; rfl)
        · intro i115 hi115 ih115 t115 ht115
          refine j_iload_n C 0 dX0_roundLoads_115 rfl rfl ?_
          refine j_iload_n C 1 dX0_roundLoads_116 rfl rfl ?_
          refine j_icmp_ge C dX0_roundLoads_117 (tgt := 136) (by decide) (fun h => absurd h (giv_lt hi115)) (fun _ => ?_)
          refine j_iload_n C 0 dX0_roundLoads_120 rfl rfl ?_
          refine j_bipush C (v := (16 : Int32)) dX0_roundLoads_121 rfl ?_
          refine j_icmp_ge C dX0_roundLoads_123 (tgt := 136) (by decide) (fun h => absurd h (nI_ge (b := 16) (Nat.lt_of_lt_of_le hi115 (Nat.min_le_right _ _)) (by decide))) (fun _ => ?_)
          refine j_aload_n C 2 dX0_roundLoads_126 rfl rfl ?_
          refine j_cv_v C (As := []) (rest := []) (ctX0_giveOneMore (xl X) D b sd rd be ov qa qb qd t115.1 t115.2) mfX0_giveOneMore gX0_roundLoads_X0_giveOneMore rfl (Nat.le_of_ble_eq_true rfl) (Nat.le_of_ble_eq_true rfl) (Nat.le_of_ble_eq_true rfl) (Nat.le_of_ble_eq_true rfl) [0, 1, 2] rfl rfl 0 rfl rfl rfl rfl (Nat.le_of_ble_eq_true rfl) dX0_roundLoads_127 ?_
          rintro _ rfl
          refine ⟨rfl, ?_⟩
          refine j_w (w' := (wBa D b sd rd be ov qa qb qd ((gv (t115.1, t115.2)).1) ((gv (t115.1, t115.2)).2) ++ (wDo D a we ce co sg cr Pp Kp Hp Lp Sp))) rfl ?_
          refine j_iinc C 0 dX0_roundLoads_130 rfl (v := nI (i115 + 1)) (nI_1 _) (by decide) (lv' := [(3, .int (nI (i115 + 1))), (2, .int u.1), (0, .ref (b 0)), (1, .ref (a 0))]) rfl ?_
          refine j_goto C dX0_roundLoads_133 (tgt := 115) (by decide) ?_
          refine j_sub [0, 1, 2, 3] (lv' := [(3, .int (nI (i115 + 1))), (2, .int u.1), (0, .ref (b 0)), (1, .ref (a 0))]) rfl ?_
          exact ih115 ((gv (t115.1, t115.2)).1, (gv (t115.1, t115.2)).2) (by rw [gvn]; try rw [← ht115]; try rfl)
      refine j_sub [0, 1, 2, 3] (lv' := [(3, .int (0 : Int32)), (2, .int u.1), (0, .ref (b 0)), (1, .ref (a 0))]) rfl ?_
      exact hl115 0 (Nat.zero_le _) u.2 rfl
    · intro i17 hi17 ih17 t17 ht17
      refine j_iload_n C 0 dX0_roundLoads_17 rfl rfl ?_
      refine j_bipush C (v := (16 : Int32)) dX0_roundLoads_18 rfl ?_
      refine j_icmp_ge C dX0_roundLoads_20 (tgt := 113) (by decide) (fun h => absurd h (nI_ge hi17 (by decide))) (fun _ => ?_)
      refine j_aload_n C 2 dX0_roundLoads_23 rfl rfl ?_
      refine j_get C 0 fgX0_roundLoads_15 rfl rfl dX0_roundLoads_24 ?_
      refine j_iload_n C 0 dX0_roundLoads_27 rfl rfl ?_
      refine j_ldc2 C kX0_roundLoads_89 dX0_roundLoads_28 ?_
      refine j_last C 2 rfl (i := i17) rfl (by omega) (by decide) (w' := (wBa D b sd rd be ov qa qb qd t17.2.1 (vp_updL t17.2.2 i17 (-1 : Int64)) ++ (wDo D a we ce co sg cr Pp Kp Hp Lp Sp))) rfl dX0_roundLoads_31 ?_
      refine j_aload_n C 2 dX0_roundLoads_32 rfl rfl ?_
      refine j_get C 0 fgX0_roundLoads_23 rfl rfl dX0_roundLoads_33 ?_
      refine j_iload_n C 0 dX0_roundLoads_36 rfl rfl ?_
      refine j_csN_i C (As := [.int be, .int (nI i17)]) (rest := []) (ctX5_isMember (xl X) D be i17 (by first | assumption | omega | decide)) mfX5_isMember gX0_roundLoads_X5_isMember_n66 rfl (C.hN.2.2.2.2.1) mX0_roundLoads_static_yX5_isMember mX0_roundLoads_initialized_RX5 (Nat.le_of_ble_eq_true rfl) (Nat.le_of_ble_eq_true rfl) (Nat.le_of_ble_eq_true rfl) (Nat.le_of_ble_eq_true rfl) [] rfl rfl rfl (Nat.le_of_ble_eq_true rfl) dX0_roundLoads_37 ?_
      rintro _ _ ⟨rfl, rfl⟩
      refine ⟨rfl, ?_⟩
      refine j_w (w' := (wBa D b sd rd be ov qa qb qd t17.2.1 (vp_updL t17.2.2 i17 (-1 : Int64)) ++ (wDo D a we ce co sg cr Pp Kp Hp Lp Sp))) rfl ?_
      refine j_bif_eq C dX0_roundLoads_40 (tgt := 107) (by decide) (fun h40 => ?_) (fun h40 => ?_)
      · refine j_iinc C 0 dX0_roundLoads_107 rfl (v := nI (i17 + 1)) (nI_1 _) (by decide) (lv' := [(3, .int (nI (i17 + 1))), (2, .int t17.1), (0, .ref (b 0)), (1, .ref (a 0))]) rfl ?_
        refine j_goto C dX0_roundLoads_110 (tgt := 17) (by decide) ?_
        refine j_sub [0, 1, 2, 3] (lv' := [(3, .int (nI (i17 + 1))), (2, .int t17.1), (0, .ref (b 0)), (1, .ref (a 0))]) rfl ?_
        exact ih17 (t17.1, t17.2.1, vp_updL t17.2.2 i17 (-1 : Int64)) (by rw [rl_f h40]; try rw [← ht17]; try rfl)
      · refine j_aload_n C 3 dX0_roundLoads_43 rfl rfl ?_
        refine j_get C 3 fgX0_roundLoads_70 rfl rfl dX0_roundLoads_44 ?_
        refine j_iload_n C 0 dX0_roundLoads_47 rfl rfl ?_
        refine j_iald C 5 rfl (i := i17) rfl (by omega) (by decide) dX0_roundLoads_48 ?_
        refine j_i2l C dX0_roundLoads_49 ?_
        refine j_aload_n C 2 dX0_roundLoads_50 rfl rfl ?_
        refine j_aload_n C 3 dX0_roundLoads_51 rfl rfl ?_
        refine j_get C 3 fgX0_roundLoads_73 rfl rfl dX0_roundLoads_52 ?_
        refine j_iload_n C 0 dX0_roundLoads_55 rfl rfl ?_
        refine j_iald C 4 rfl (i := i17) rfl (by omega) (by decide) dX0_roundLoads_56 ?_
        refine j_i2l C dX0_roundLoads_57 ?_
        refine j_aload_n C 3 dX0_roundLoads_58 rfl rfl ?_
        refine j_get C 3 fgX0_roundLoads_76 rfl rfl dX0_roundLoads_59 ?_
        refine j_iload_n C 0 dX0_roundLoads_62 rfl rfl ?_
        refine j_iald C 6 rfl (i := i17) rfl (by omega) (by decide) dX0_roundLoads_63 ?_
        refine j_i2l C dX0_roundLoads_64 ?_
        refine j_cv_l C (As := [.long ((Pp i17).toInt64), .long ((Hp i17).toInt64)]) (rest := [.long ((Kp i17).toInt64)]) (ctX0_pressTimesD (xl X) D b sd rd be ov qa qb qd t17.2.1 (vp_updL t17.2.2 i17 (-1 : Int64)) ((Pp i17).toInt64) ((Hp i17).toInt64)) mfX0_pressTimesD gX0_roundLoads_X0_pressTimesD rfl (Nat.le_of_ble_eq_true rfl) (Nat.le_of_ble_eq_true rfl) (Nat.le_of_ble_eq_true rfl) (Nat.le_of_ble_eq_true rfl) [0, 1, 2] rfl rfl 0 rfl rfl rfl rfl (Nat.le_of_ble_eq_true rfl) dX0_roundLoads_65 ?_
        rintro _ _ ⟨rfl, rfl⟩
        refine ⟨rfl, ?_⟩
        refine j_w (w' := (wBa D b sd rd be ov qa qb qd t17.2.1 (vp_updL t17.2.2 i17 (-1 : Int64)) ++ (wDo D a we ce co sg cr Pp Kp Hp Lp Sp))) rfl ?_
        refine j_lmul C dX0_roundLoads_68 ?_
        refine j_lstore C dX0_roundLoads_69 (by decide) (lv' := [(4, .long (((Kp i17).toInt64) * (qa + qb * ((Pp i17).toInt64) + qd * ((Hp i17).toInt64)))), (3, .int (nI i17)), (2, .int t17.1), (0, .ref (b 0)), (1, .ref (a 0))]) rfl ?_
        refine j_aload_n C 3 dX0_roundLoads_71 rfl rfl ?_
        refine j_get C 0 fgX0_roundLoads_9 rfl rfl dX0_roundLoads_72 ?_
        refine j_iload_n C 1 dX0_roundLoads_75 rfl rfl ?_
        refine j_lload C 0 dX0_roundLoads_76 rfl ?_
        refine j_aload_n C 3 dX0_roundLoads_78 rfl rfl ?_
        refine j_get C 0 fgX0_roundLoads_52 rfl rfl dX0_roundLoads_79 ?_
        refine j_ldiv C dX0_roundLoads_82 (ne_of_pos hd) ?_
        refine j_l2i C dX0_roundLoads_83 ?_
        refine j_iast C 1 rfl (i := i17) rfl (by omega) (by decide) (w' := (wBa D b sd rd be ov qa qb qd (upd t17.2.1 i17 (((((Kp i17).toInt64) * (qa + qb * ((Pp i17).toInt64) + qd * ((Hp i17).toInt64))) / qd).toInt32)) (vp_updL t17.2.2 i17 (-1 : Int64)) ++ (wDo D a we ce co sg cr Pp Kp Hp Lp Sp))) rfl dX0_roundLoads_84 ?_
        refine j_aload_n C 3 dX0_roundLoads_85 rfl rfl ?_
        refine j_get C 0 fgX0_roundLoads_15 rfl rfl dX0_roundLoads_86 ?_
        refine j_iload_n C 1 dX0_roundLoads_89 rfl rfl ?_
        refine j_lload C 0 dX0_roundLoads_90 rfl ?_
        refine j_aload_n C 3 dX0_roundLoads_92 rfl rfl ?_
        refine j_get C 0 fgX0_roundLoads_52 rfl rfl dX0_roundLoads_93 ?_
        refine j_lrem C dX0_roundLoads_96 (ne_of_pos hd) ?_
        refine j_last C 2 rfl (i := i17) rfl (by omega) (by decide) (w' := (wBa D b sd rd be ov qa qb qd (upd t17.2.1 i17 (((((Kp i17).toInt64) * (qa + qb * ((Pp i17).toInt64) + qd * ((Hp i17).toInt64))) / qd).toInt32)) (vp_updL (vp_updL t17.2.2 i17 (-1 : Int64)) i17 ((((Kp i17).toInt64) * (qa + qb * ((Pp i17).toInt64) + qd * ((Hp i17).toInt64))) - (((Kp i17).toInt64) * (qa + qb * ((Pp i17).toInt64) + qd * ((Hp i17).toInt64))) / qd * qd)) ++ (wDo D a we ce co sg cr Pp Kp Hp Lp Sp))) rfl dX0_roundLoads_97 ?_
        refine j_iload_n C 2 dX0_roundLoads_98 rfl rfl ?_
        refine j_aload_n C 3 dX0_roundLoads_99 rfl rfl ?_
        refine j_get C 0 fgX0_roundLoads_9 rfl rfl dX0_roundLoads_100 ?_
        refine j_iload_n C 1 dX0_roundLoads_103 rfl rfl ?_
        refine j_iald C 1 rfl (i := i17) rfl (by omega) (by decide) dX0_roundLoads_104 ?_
        refine j_eqi (y := ((Kp i17).toInt64 * (qa + qb * (Pp i17).toInt64 + qd * (Hp i17).toInt64) / qd).toInt32) pk_us ?_
        refine j_isub C dX0_roundLoads_105 ?_
        refine j_istore_n C dX0_roundLoads_106 rfl (by decide) (lv' := [(2, .int (t17.1 - (((Kp i17).toInt64 * (qa + qb * (Pp i17).toInt64 + qd * (Hp i17).toInt64) / qd).toInt32))), (4, .long (((Kp i17).toInt64) * (qa + qb * ((Pp i17).toInt64) + qd * ((Hp i17).toInt64)))), (3, .int (nI i17)), (0, .ref (b 0)), (1, .ref (a 0))]) rfl ?_
        refine j_iinc C 2 dX0_roundLoads_107 rfl (v := nI (i17 + 1)) (nI_1 _) (by decide) (lv' := [(3, .int (nI (i17 + 1))), (2, .int (t17.1 - (((Kp i17).toInt64 * (qa + qb * (Pp i17).toInt64 + qd * (Hp i17).toInt64) / qd).toInt32))), (4, .long (((Kp i17).toInt64) * (qa + qb * ((Pp i17).toInt64) + qd * ((Hp i17).toInt64)))), (0, .ref (b 0)), (1, .ref (a 0))]) rfl ?_
        refine j_goto C dX0_roundLoads_110 (tgt := 17) (by decide) ?_
        refine j_sub [0, 1, 3, 4] (lv' := [(3, .int (nI (i17 + 1))), (2, .int (t17.1 - (((Kp i17).toInt64 * (qa + qb * (Pp i17).toInt64 + qd * (Hp i17).toInt64) / qd).toInt32))), (0, .ref (b 0)), (1, .ref (a 0))]) rfl ?_
        exact ih17 (t17.1 - (((Kp i17).toInt64 * (qa + qb * (Pp i17).toInt64 + qd * (Hp i17).toInt64) / qd).toInt32), upd t17.2.1 i17 (((((Kp i17).toInt64) * (qa + qb * ((Pp i17).toInt64) + qd * ((Hp i17).toInt64))) / qd).toInt32), vp_updL (vp_updL t17.2.2 i17 (-1 : Int64)) i17 ((((Kp i17).toInt64) * (qa + qb * ((Pp i17).toInt64) + qd * ((Hp i17).toInt64))) - (((Kp i17).toInt64) * (qa + qb * ((Pp i17).toInt64) + qd * ((Hp i17).toInt64))) / qd * qd)) (by rw [rl_t h40]; try rw [← ht17]; try rfl)
  refine j_sub [0, 1, 2, 3] (lv' := [(3, .int (0 : Int32)), (2, .int we), (0, .ref (b 0)), (1, .ref (a 0))]) rfl ?_
  exact hl17 0 (Nat.zero_le _) (we, lo, cu) rfl

set_option maxRecDepth 100000 in
set_option maxHeartbeats 4000000 in
theorem ctX0_findOverloaded (l : Launch) (D : KD) (b a : Nat → Nat) (sd rd be ov : Int32) (qa qb qd : Int64) (lo : Nat → Int32) (cu : Nat → Int64) (we ce co sg cr : Int32) (Pp Kp Hp Lp Sp : Nat → Int32) : MV l D yX0_findOverloaded wsX0_findOverloaded 1 21 0 0 [.ref (b 0), .ref (a 0)] (wBa D b sd rd be ov qa qb qd lo cu ++ (wDo D a we ce co sg cr Pp Kp Hp Lp Sp)) (fun w1 => w1 = wBa D b sd rd be (ovr be lo Lp ov 16) qa qb qd lo cu ++ wDo D a we ce co sg cr Pp Kp Hp Lp Sp) := by
  refine MV.of (cc := cX0_findOverloaded) (nL := 3) (lv0 := [(0, .ref (b 0)), (1, .ref (a 0))]) (by decide +kernel) rfl (Nat.le_of_ble_eq_true rfl) rfl ?_
  intro X hXl hin C ret
  subst hXl
  refine j_iconst C (v := (0 : Int32)) dX0_findOverloaded_0 rfl ?_
  refine j_istore_n C dX0_findOverloaded_1 rfl (by decide) (lv' := [(2, .int (0 : Int32)), (0, .ref (b 0)), (1, .ref (a 0))]) rfl ?_
  have hl2 : ∀ i2, i2 ≤ 16 → ∀ (t2 : Int32), t2 = ovr be lo Lp ov i2 → J D X (wBa D b sd rd be t2 qa qb qd lo cu ++ (wDo D a we ce co sg cr Pp Kp Hp Lp Sp)) 0 0 2 [(2, .int (nI i2)), (0, .ref (b 0)), (1, .ref (a 0))] [] := by
    refine for_up (16) ?_ ?_
    · intro t2 ht2
      refine j_iload_n C 0 dX0_findOverloaded_2 rfl rfl ?_
      refine j_bipush C (v := (16 : Int32)) dX0_findOverloaded_3 rfl ?_
      refine j_icmp_ge C dX0_findOverloaded_5 (tgt := 52) (by decide) (fun _ => ?_) (fun h => absurd (nI_le (Nat.le_refl 16) (by decide)) h)
      exact ret dX0_findOverloaded_52 (by subst ht2; rfl)
    · intro i2 hi2 ih2 t2 ht2
      refine j_iload_n C 0 dX0_findOverloaded_2 rfl rfl ?_
      refine j_bipush C (v := (16 : Int32)) dX0_findOverloaded_3 rfl ?_
      refine j_icmp_ge C dX0_findOverloaded_5 (tgt := 52) (by decide) (fun h => absurd h (nI_ge hi2 (by decide))) (fun _ => ?_)
      refine j_aload_n C 1 dX0_findOverloaded_8 rfl rfl ?_
      refine j_get C 0 fgX0_findOverloaded_23 rfl rfl dX0_findOverloaded_9 ?_
      refine j_iload_n C 0 dX0_findOverloaded_12 rfl rfl ?_
      refine j_csN_i C (As := [.int be, .int (nI i2)]) (rest := []) (ctX5_isMember (xl X) D be i2 (by first | assumption | omega | decide)) mfX5_isMember gX0_findOverloaded_X5_isMember_n66 rfl (C.hN.2.2.2.2.1) mX0_findOverloaded_static_yX5_isMember mX0_findOverloaded_initialized_RX5 (Nat.le_of_ble_eq_true rfl) (Nat.le_of_ble_eq_true rfl) (Nat.le_of_ble_eq_true rfl) (Nat.le_of_ble_eq_true rfl) [] rfl rfl rfl (Nat.le_of_ble_eq_true rfl) dX0_findOverloaded_13 ?_
      rintro _ _ ⟨rfl, rfl⟩
      refine ⟨rfl, ?_⟩
      refine j_w (w' := (wBa D b sd rd be t2 qa qb qd lo cu ++ (wDo D a we ce co sg cr Pp Kp Hp Lp Sp))) rfl ?_
      refine j_bif_eq C dX0_findOverloaded_16 (tgt := 46) (by decide) (fun h16 => ?_) (fun h16 => ?_)
      · refine j_iinc C 0 dX0_findOverloaded_46 rfl (v := nI (i2 + 1)) (nI_1 _) (by decide) (lv' := [(2, .int (nI (i2 + 1))), (0, .ref (b 0)), (1, .ref (a 0))]) rfl ?_
        refine j_goto C dX0_findOverloaded_49 (tgt := 2) (by decide) ?_
        refine j_sub [0, 1, 2] (lv' := [(2, .int (nI (i2 + 1))), (0, .ref (b 0)), (1, .ref (a 0))]) rfl ?_
        exact ih2 t2 (by rw [ovr_f h16]; try rw [← ht2]; try rfl)
      · refine j_aload_n C 1 dX0_findOverloaded_19 rfl rfl ?_
        refine j_get C 0 fgX0_findOverloaded_9 rfl rfl dX0_findOverloaded_20 ?_
        refine j_iload_n C 0 dX0_findOverloaded_23 rfl rfl ?_
        refine j_iald C 1 rfl (i := i2) rfl (by omega) (by decide) dX0_findOverloaded_24 ?_
        refine j_aload_n C 2 dX0_findOverloaded_25 rfl rfl ?_
        refine j_get C 3 fgX0_findOverloaded_94 rfl rfl dX0_findOverloaded_26 ?_
        refine j_iload_n C 0 dX0_findOverloaded_29 rfl rfl ?_
        refine j_iald C 7 rfl (i := i2) rfl (by omega) (by decide) dX0_findOverloaded_30 ?_
        refine j_icmp_le C dX0_findOverloaded_31 (tgt := 46) (by decide) (fun h31 => ?_) (fun h31 => ?_)
        · have h31' := Int32.not_lt.mpr h31
          refine j_iinc C 0 dX0_findOverloaded_46 rfl (v := nI (i2 + 1)) (nI_1 _) (by decide) (lv' := [(2, .int (nI (i2 + 1))), (0, .ref (b 0)), (1, .ref (a 0))]) rfl ?_
          refine j_goto C dX0_findOverloaded_49 (tgt := 2) (by decide) ?_
          refine j_sub [0, 1, 2] (lv' := [(2, .int (nI (i2 + 1))), (0, .ref (b 0)), (1, .ref (a 0))]) rfl ?_
          exact ih2 t2 (by rw [ovr_g h31']; try rw [← ht2]; try rfl)
        · have h31' := Int32.not_le.mp h31
          refine j_aload_n C 1 dX0_findOverloaded_34 rfl rfl ?_
          refine j_dup C dX0_findOverloaded_35 rfl ?_
          refine j_get C 0 fgX0_findOverloaded_27 rfl rfl dX0_findOverloaded_36 ?_
          refine j_iconst C (v := (1 : Int32)) dX0_findOverloaded_39 rfl ?_
          refine j_iload_n C 0 dX0_findOverloaded_40 rfl rfl ?_
          refine j_ishl C dX0_findOverloaded_41 ?_
          refine j_ior C dX0_findOverloaded_42 ?_
          refine j_put C 0 foX0_findOverloaded_27 rfl (w' := (wBa D b sd rd be (t2 ||| ((1 : Int32) <<< ((nI i2) &&& 31))) qa qb qd lo cu ++ (wDo D a we ce co sg cr Pp Kp Hp Lp Sp))) rfl rfl rfl (Nat.le_of_ble_eq_true rfl) dX0_findOverloaded_43 ?_
          refine j_iinc C 0 dX0_findOverloaded_46 rfl (v := nI (i2 + 1)) (nI_1 _) (by decide) (lv' := [(2, .int (nI (i2 + 1))), (0, .ref (b 0)), (1, .ref (a 0))]) rfl ?_
          refine j_goto C dX0_findOverloaded_49 (tgt := 2) (by decide) ?_
          refine j_sub [0, 1, 2] (lv' := [(2, .int (nI (i2 + 1))), (0, .ref (b 0)), (1, .ref (a 0))]) rfl ?_
          exact ih2 (t2 ||| ((1 : Int32) <<< ((nI i2) &&& 31))) (by rw [ovr_t h16 h31']; try rw [← ht2]; try rfl)
  refine j_sub [0, 1, 2] (lv' := [(2, .int (0 : Int32)), (0, .ref (b 0)), (1, .ref (a 0))]) rfl ?_
  exact hl2 0 (Nat.zero_le _) ov rfl

set_option maxRecDepth 100000 in
set_option maxHeartbeats 4000000 in
theorem ctX0_find (l : Launch) (D : KD) (b a : Nat → Nat) (sd rd be ov : Int32) (qa qb qd : Int64) (lo : Nat → Int32) (cu : Nat → Int64) (we ce co sg cr : Int32) (Pp Kp Hp Lp Sp : Nat → Int32) : MV l D yX0_find wsX0_find 3 82 0 0 [.ref (b 0), .ref (a 0)] (wBa D b sd rd be ov qa qb qd lo cu ++ (wDo D a we ce co sg cr Pp Kp Hp Lp Sp)) (fun w1 => w1 = wBa D b (bI (fnd (we, ce, co, sg, cr, Pp, Kp, Hp, Lp, Sp)).1) (nI (fnd (we, ce, co, sg, cr, Pp, Kp, Hp, Lp, Sp)).2.1) (fBe (we, ce, co, sg, cr, Pp, Kp, Hp, Lp, Sp)) (fOv (we, ce, co, sg, cr, Pp, Kp, Hp, Lp, Sp)) ((fnd (we, ce, co, sg, cr, Pp, Kp, Hp, Lp, Sp)).2.2.2.1) ((fnd (we, ce, co, sg, cr, Pp, Kp, Hp, Lp, Sp)).2.2.2.2.1) ((fnd (we, ce, co, sg, cr, Pp, Kp, Hp, Lp, Sp)).2.2.2.2.2) (fLo (we, ce, co, sg, cr, Pp, Kp, Hp, Lp, Sp)) (fCu (we, ce, co, sg, cr, Pp, Kp, Hp, Lp, Sp) cu) ++ wDo D a we ce co sg cr Pp Kp Hp Lp Sp) := by
  refine MV.of (cc := cX0_find) (nL := 3) (lv0 := [(0, .ref (b 0)), (1, .ref (a 0))]) (by decide +kernel) rfl (Nat.le_of_ble_eq_true rfl) rfl ?_
  intro X hXl hin C ret
  subst hXl
  refine j_aload_n C 0 dX0_find_0 rfl rfl ?_
  refine j_iconst C (v := (0 : Int32)) dX0_find_1 rfl ?_
  refine j_put C 0 foX0_find_19 rfl (w' := (wBa D b (0 : Int32) rd be ov qa qb qd lo cu ++ (wDo D a we ce co sg cr Pp Kp Hp Lp Sp))) rfl rfl rfl (Nat.le_of_ble_eq_true rfl) dX0_find_2 ?_
  refine j_aload_n C 0 dX0_find_5 rfl rfl ?_
  refine j_iconst C (v := (0 : Int32)) dX0_find_6 rfl ?_
  refine j_put C 0 foX0_find_23 rfl (w' := (wBa D b (0 : Int32) rd (0 : Int32) ov qa qb qd lo cu ++ (wDo D a we ce co sg cr Pp Kp Hp Lp Sp))) rfl rfl rfl (Nat.le_of_ble_eq_true rfl) dX0_find_7 ?_
  refine j_aload_n C 0 dX0_find_10 rfl rfl ?_
  refine j_iconst C (v := (0 : Int32)) dX0_find_11 rfl ?_
  refine j_put C 0 foX0_find_27 rfl (w' := (wBa D b (0 : Int32) rd (0 : Int32) (0 : Int32) qa qb qd lo cu ++ (wDo D a we ce co sg cr Pp Kp Hp Lp Sp))) rfl rfl rfl (Nat.le_of_ble_eq_true rfl) dX0_find_12 ?_
  refine j_iconst C (v := (0 : Int32)) dX0_find_15 rfl ?_
  refine j_istore_n C dX0_find_16 rfl (by decide) (lv' := [(2, .int (0 : Int32)), (0, .ref (b 0)), (1, .ref (a 0))]) rfl ?_
  have hl17 : ∀ i17, i17 ≤ 16 → ∀ (t17 : Nat → Int32), t17 = zf lo i17 → J D X (wBa D b (0 : Int32) rd (0 : Int32) (0 : Int32) qa qb qd t17 cu ++ (wDo D a we ce co sg cr Pp Kp Hp Lp Sp)) 0 0 17 [(2, .int (nI i17)), (0, .ref (b 0)), (1, .ref (a 0))] [] := by
    refine for_up (16) ?_ ?_
    · intro t17 ht17
      refine j_iload_n C 0 dX0_find_17 rfl rfl ?_
      refine j_bipush C (v := (16 : Int32)) dX0_find_18 rfl ?_
      refine j_icmp_ge C dX0_find_20 (tgt := 36) (by decide) (fun _ => ?_) (fun h => absurd (nI_le (Nat.le_refl 16) (by decide)) h)
      refine j_asi 1 (fun _ => 0) rfl (fun j hj => by rw [ht17]; simp [zf, hj]) (w' := (wBa D b (0 : Int32) rd (0 : Int32) (0 : Int32) qa qb qd (fun _ => 0) cu ++ (wDo D a we ce co sg cr Pp Kp Hp Lp Sp))) rfl ?_
      obtain ⟨R, hRf⟩ : ∃ R, fnd (we, ce, co, sg, cr, Pp, Kp, Hp, Lp, Sp) = R := ⟨_, rfl⟩
      refine j_aload_n C 1 dX0_find_36 rfl rfl ?_
      refine j_aload_n C 2 dX0_find_37 rfl rfl ?_
      refine j_cv_v C (As := [.ref (a 0)]) (rest := []) (ctX0_findBearing (xl X) D b a (0 : Int32) rd (0 : Int32) (0 : Int32) qa qb qd (fun _ => 0) cu we ce co sg cr Pp Kp Hp Lp Sp) mfX0_findBearing gX0_find_X0_findBearing rfl (Nat.le_of_ble_eq_true rfl) (Nat.le_of_ble_eq_true rfl) (Nat.le_of_ble_eq_true rfl) (Nat.le_of_ble_eq_true rfl) [0, 1, 2, 3, 4, 5, 6, 7, 8] rfl rfl 0 rfl rfl rfl rfl (Nat.le_of_ble_eq_true rfl) dX0_find_38 ?_
      rintro _ rfl
      refine ⟨rfl, ?_⟩
      refine j_w (w' := (wBa D b (if (fnd (we, ce, co, sg, cr, Pp, Kp, Hp, Lp, Sp)).1 = true then 1 else (0 : Int32)) (nI (fnd (we, ce, co, sg, cr, Pp, Kp, Hp, Lp, Sp)).2.1) (if (fnd (we, ce, co, sg, cr, Pp, Kp, Hp, Lp, Sp)).1 = true then (fnd (we, ce, co, sg, cr, Pp, Kp, Hp, Lp, Sp)).2.2.1 else (0 : Int32)) (0 : Int32) ((fnd (we, ce, co, sg, cr, Pp, Kp, Hp, Lp, Sp)).2.2.2.1) ((fnd (we, ce, co, sg, cr, Pp, Kp, Hp, Lp, Sp)).2.2.2.2.1) ((fnd (we, ce, co, sg, cr, Pp, Kp, Hp, Lp, Sp)).2.2.2.2.2) (fun _ => 0) cu ++ (wDo D a we ce co sg cr Pp Kp Hp Lp Sp))) rfl ?_
      rw [hRf]
      refine j_aload_n C 1 dX0_find_41 rfl rfl ?_
      refine j_get C 0 fgX0_find_19 rfl rfl dX0_find_42 ?_
      refine j_if_eq C dX0_find_45 (tgt := 58) (by decide) (fun h45 => ?_) (fun h45 => ?_)
      · have hR : R.1 = false := by cases hR : R.1 <;> simp [hR] at h45 ⊢
        exact ret dX0_find_58 ((by simp only [fBe, fOv, fLo, fCu, hRf, hR, bI, if_true, if_false]; simp))
      · have hR : R.1 = true := by cases hR : R.1 <;> simp [hR] at h45 ⊢
        refine j_aload_n C 1 dX0_find_48 rfl rfl ?_
        refine j_aload_n C 2 dX0_find_49 rfl rfl ?_
        refine j_cv_v C (As := [.ref (a 0)]) (rest := []) (ctX0_roundLoads (xl X) D b a (if R.1 = true then 1 else (0 : Int32)) (nI R.2.1) (if R.1 = true then R.2.2.1 else (0 : Int32)) (0 : Int32) R.2.2.2.1 R.2.2.2.2.1 R.2.2.2.2.2 (fun _ => 0) cu we ce co sg cr Pp Kp Hp Lp Sp (by have h := (fb_pos _ _ _ _ (show (fnd (we, ce, co, sg, cr, Pp, Kp, Hp, Lp, Sp)).1 = true by rw [hRf]; exact hR)).1; rw [← hRf]; exact h)) mfX0_roundLoads gX0_find_X0_roundLoads rfl (Nat.le_of_ble_eq_true rfl) (Nat.le_of_ble_eq_true rfl) (Nat.le_of_ble_eq_true rfl) (Nat.le_of_ble_eq_true rfl) [0, 1, 2, 3, 4, 5, 6, 7, 8] rfl rfl 0 rfl rfl rfl rfl (Nat.le_of_ble_eq_true rfl) dX0_find_50 ?_
        rintro _ rfl
        refine ⟨rfl, ?_⟩
        refine j_w (w' := (wBa D b (if R.1 = true then 1 else (0 : Int32)) (nI R.2.1) (if R.1 = true then R.2.2.1 else (0 : Int32)) (0 : Int32) R.2.2.2.1 R.2.2.2.2.1 R.2.2.2.2.2 ((ldS Pp Kp Hp (if R.1 = true then R.2.2.1 else (0 : Int32)) we (R.2.2.2.1, R.2.2.2.2.1, R.2.2.2.2.2) (fun _ => 0)).1) ((ldS Pp Kp Hp (if R.1 = true then R.2.2.1 else (0 : Int32)) we (R.2.2.2.1, R.2.2.2.2.1, R.2.2.2.2.2) (fun _ => 0)).2) ++ (wDo D a we ce co sg cr Pp Kp Hp Lp Sp))) rfl ?_
        refine j_aload_n C 1 dX0_find_53 rfl rfl ?_
        refine j_aload_n C 2 dX0_find_54 rfl rfl ?_
        refine j_cv_v C (As := [.ref (a 0)]) (rest := []) (ctX0_findOverloaded (xl X) D b a (if R.1 = true then 1 else (0 : Int32)) (nI R.2.1) (if R.1 = true then R.2.2.1 else (0 : Int32)) (0 : Int32) R.2.2.2.1 R.2.2.2.2.1 R.2.2.2.2.2 ((ldS Pp Kp Hp (if R.1 = true then R.2.2.1 else (0 : Int32)) we (R.2.2.2.1, R.2.2.2.2.1, R.2.2.2.2.2) (fun _ => 0)).1) ((ldS Pp Kp Hp (if R.1 = true then R.2.2.1 else (0 : Int32)) we (R.2.2.2.1, R.2.2.2.2.1, R.2.2.2.2.2) (fun _ => 0)).2) we ce co sg cr Pp Kp Hp Lp Sp) mfX0_findOverloaded gX0_find_X0_findOverloaded rfl (Nat.le_of_ble_eq_true rfl) (Nat.le_of_ble_eq_true rfl) (Nat.le_of_ble_eq_true rfl) (Nat.le_of_ble_eq_true rfl) [0, 1, 2, 3, 4, 5, 6, 7, 8] rfl rfl 0 rfl rfl rfl rfl (Nat.le_of_ble_eq_true rfl) dX0_find_55 ?_
        rintro _ rfl
        refine ⟨rfl, ?_⟩
        refine j_w (w' := (wBa D b (if R.1 = true then 1 else (0 : Int32)) (nI R.2.1) (if R.1 = true then R.2.2.1 else (0 : Int32)) (ovr (if R.1 = true then R.2.2.1 else (0 : Int32)) ((ldS Pp Kp Hp (if R.1 = true then R.2.2.1 else (0 : Int32)) we (R.2.2.2.1, R.2.2.2.2.1, R.2.2.2.2.2) (fun _ => 0)).1) Lp (0 : Int32) 16) R.2.2.2.1 R.2.2.2.2.1 R.2.2.2.2.2 ((ldS Pp Kp Hp (if R.1 = true then R.2.2.1 else (0 : Int32)) we (R.2.2.2.1, R.2.2.2.2.1, R.2.2.2.2.2) (fun _ => 0)).1) ((ldS Pp Kp Hp (if R.1 = true then R.2.2.1 else (0 : Int32)) we (R.2.2.2.1, R.2.2.2.2.1, R.2.2.2.2.2) (fun _ => 0)).2) ++ (wDo D a we ce co sg cr Pp Kp Hp Lp Sp))) rfl ?_
        exact ret dX0_find_58 ((by simp only [fBe, fOv, fLo, fCu, hRf, hR, bI, if_true]))
    · intro i17 hi17 ih17 t17 ht17
      refine j_iload_n C 0 dX0_find_17 rfl rfl ?_
      refine j_bipush C (v := (16 : Int32)) dX0_find_18 rfl ?_
      refine j_icmp_ge C dX0_find_20 (tgt := 36) (by decide) (fun h => absurd h (nI_ge hi17 (by decide))) (fun _ => ?_)
      refine j_aload_n C 1 dX0_find_23 rfl rfl ?_
      refine j_get C 0 fgX0_find_9 rfl rfl dX0_find_24 ?_
      refine j_iload_n C 0 dX0_find_27 rfl rfl ?_
      refine j_iconst C (v := (0 : Int32)) dX0_find_28 rfl ?_
      refine j_iast C 1 rfl (i := i17) rfl (by omega) (by decide) (w' := (wBa D b (0 : Int32) rd (0 : Int32) (0 : Int32) qa qb qd (upd t17 i17 (0 : Int32)) cu ++ (wDo D a we ce co sg cr Pp Kp Hp Lp Sp))) rfl dX0_find_29 ?_
      refine j_iinc C 0 dX0_find_30 rfl (v := nI (i17 + 1)) (nI_1 _) (by decide) (lv' := [(2, .int (nI (i17 + 1))), (0, .ref (b 0)), (1, .ref (a 0))]) rfl ?_
      refine j_goto C dX0_find_33 (tgt := 17) (by decide) ?_
      refine j_sub [0, 1, 2] (lv' := [(2, .int (nI (i17 + 1))), (0, .ref (b 0)), (1, .ref (a 0))]) rfl ?_
      exact ih17 (upd t17 i17 (0 : Int32)) (by rw [← zf_s]; try rw [← ht17]; try rfl)
  refine j_sub [0, 1, 2] (lv' := [(2, .int (0 : Int32)), (0, .ref (b 0)), (1, .ref (a 0))]) rfl ?_
  exact hl17 0 (Nat.zero_le _) lo (zf_0 _).symm

