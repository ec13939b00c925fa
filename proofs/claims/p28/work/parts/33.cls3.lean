set_option maxRecDepth 100000 in
set_option maxHeartbeats 4000000 in
theorem ctX1_init (l : Launch) (D : KD) (x : Nat) : MV l D yX1_init wsX1_init 1 12 5 80 [.ref x] [(x, .inr (1, [.int 0, .int 0, .int 0, .int 0, .int 0, .null, .null, .null, .null, .null]))] (fun w1 => ∃ u : Nat → Nat, u 0 = x ∧ w1 = wDo D u 1000 200 0 0 0 (fun _ => 0) (fun _ => 0) (fun _ => 0) (fun _ => 0) (fun _ => 0)) := by
  refine MV.of (cc := cX1_init) (nL := 1) (lv0 := [(0, .ref x)]) (by decide +kernel) rfl (Nat.le_of_ble_eq_true rfl) rfl ?_
  intro X hXl hin C ret
  subst hXl
  refine j_aload_n C 0 dX1_init_0 rfl rfl ?_
  refine j_obj C mX1_init_methodLink_RX1_3_objectInit mX1_init_instanceMethod_objectInit mX1_init_code_objectInit_0xb1_1_none (by decide) (by decide) dX1_init_1 ?_
  refine j_aload_n C 0 dX1_init_4 rfl rfl ?_
  refine j_sipush C (v := (1000 : Int32)) dX1_init_5 rfl ?_
  refine j_put C 0 foX1_init_9 rfl (w' := [(x, .inr (1, [.int (1000 : Int32), .int 0, .int 0, .int 0, .int 0, .null, .null, .null, .null, .null]))]) rfl rfl rfl (Nat.le_of_ble_eq_true rfl) dX1_init_8 ?_
  refine j_aload_n C 0 dX1_init_11 rfl rfl ?_
  refine j_sipush C (v := (200 : Int32)) dX1_init_12 rfl ?_
  refine j_put C 0 foX1_init_15 rfl (w' := [(x, .inr (1, [.int (1000 : Int32), .int (200 : Int32), .int 0, .int 0, .int 0, .null, .null, .null, .null, .null]))]) rfl rfl rfl (Nat.le_of_ble_eq_true rfl) dX1_init_15 ?_
  refine j_aload_n C 0 dX1_init_18 rfl rfl ?_
  refine j_iconst C (v := (0 : Int32)) dX1_init_19 rfl ?_
  refine j_put C 0 foX1_init_18 rfl (w' := [(x, .inr (1, [.int (1000 : Int32), .int (200 : Int32), .int (0 : Int32), .int 0, .int 0, .null, .null, .null, .null, .null]))]) rfl rfl rfl (Nat.le_of_ble_eq_true rfl) dX1_init_20 ?_
  refine j_aload_n C 0 dX1_init_23 rfl rfl ?_
  refine j_iconst C (v := (0 : Int32)) dX1_init_24 rfl ?_
  refine j_put C 0 foX1_init_21 rfl (w' := [(x, .inr (1, [.int (1000 : Int32), .int (200 : Int32), .int (0 : Int32), .int (0 : Int32), .int 0, .null, .null, .null, .null, .null]))]) rfl rfl rfl (Nat.le_of_ble_eq_true rfl) dX1_init_25 ?_
  refine j_aload_n C 0 dX1_init_28 rfl rfl ?_
  refine j_iconst C (v := (0 : Int32)) dX1_init_29 rfl ?_
  refine j_put C 0 foX1_init_24 rfl (w' := [(x, .inr (1, [.int (1000 : Int32), .int (200 : Int32), .int (0 : Int32), .int (0 : Int32), .int (0 : Int32), .null, .null, .null, .null, .null]))]) rfl rfl rfl (Nat.le_of_ble_eq_true rfl) dX1_init_30 ?_
  refine j_aload_n C 0 dX1_init_33 rfl rfl ?_
  refine j_bipush C (v := (16 : Int32)) dX1_init_34 rfl ?_
  refine j_newi C (N := 16) mX1_init_arrayClass_int rfl (by decide) (Nat.le_of_ble_eq_true rfl) (Nat.le_of_ble_eq_true rfl) dX1_init_36 (fun q36 => ?_)
  refine j_w (w' := [(x, .inr (1, [.int (1000 : Int32), .int (200 : Int32), .int (0 : Int32), .int (0 : Int32), .int (0 : Int32), .null, .null, .null, .null, .null]))] ++ ([(q36, .inl (D.2.1, 16, .inl (fun _ => 0)))])) rfl ?_
  refine j_putF C 0 hin foX1_init_27 rfl (w' := [(x, .inr (1, [.int (1000 : Int32), .int (200 : Int32), .int (0 : Int32), .int (0 : Int32), .int (0 : Int32), .ref q36, .null, .null, .null, .null]))] ++ ([(q36, .inl (D.2.1, 16, .inl (fun _ => 0)))])) rfl rfl rfl (Nat.le_of_ble_eq_true rfl) dX1_init_38 ?_
  refine j_aload_n C 0 dX1_init_41 rfl rfl ?_
  refine j_bipush C (v := (16 : Int32)) dX1_init_42 rfl ?_
  refine j_newi C (N := 16) mX1_init_arrayClass_int rfl (by decide) (Nat.le_of_ble_eq_true rfl) (Nat.le_of_ble_eq_true rfl) dX1_init_44 (fun q44 => ?_)
  refine j_w (w' := [(x, .inr (1, [.int (1000 : Int32), .int (200 : Int32), .int (0 : Int32), .int (0 : Int32), .int (0 : Int32), .ref q36, .null, .null, .null, .null]))] ++ ([(q36, .inl (D.2.1, 16, .inl (fun _ => 0)))] ++ ([(q44, .inl (D.2.1, 16, .inl (fun _ => 0)))]))) rfl ?_
  refine j_putF C 0 hin foX1_init_31 rfl (w' := [(x, .inr (1, [.int (1000 : Int32), .int (200 : Int32), .int (0 : Int32), .int (0 : Int32), .int (0 : Int32), .ref q36, .ref q44, .null, .null, .null]))] ++ ([(q36, .inl (D.2.1, 16, .inl (fun _ => 0)))] ++ ([(q44, .inl (D.2.1, 16, .inl (fun _ => 0)))]))) rfl rfl rfl (Nat.le_of_ble_eq_true rfl) dX1_init_46 ?_
  refine j_aload_n C 0 dX1_init_49 rfl rfl ?_
  refine j_bipush C (v := (16 : Int32)) dX1_init_50 rfl ?_
  refine j_newi C (N := 16) mX1_init_arrayClass_int rfl (by decide) (Nat.le_of_ble_eq_true rfl) (Nat.le_of_ble_eq_true rfl) dX1_init_52 (fun q52 => ?_)
  refine j_w (w' := [(x, .inr (1, [.int (1000 : Int32), .int (200 : Int32), .int (0 : Int32), .int (0 : Int32), .int (0 : Int32), .ref q36, .ref q44, .null, .null, .null]))] ++ ([(q36, .inl (D.2.1, 16, .inl (fun _ => 0)))] ++ ([(q44, .inl (D.2.1, 16, .inl (fun _ => 0)))] ++ ([(q52, .inl (D.2.1, 16, .inl (fun _ => 0)))])))) rfl ?_
  refine j_putF C 0 hin foX1_init_34 rfl (w' := [(x, .inr (1, [.int (1000 : Int32), .int (200 : Int32), .int (0 : Int32), .int (0 : Int32), .int (0 : Int32), .ref q36, .ref q44, .ref q52, .null, .null]))] ++ ([(q36, .inl (D.2.1, 16, .inl (fun _ => 0)))] ++ ([(q44, .inl (D.2.1, 16, .inl (fun _ => 0)))] ++ ([(q52, .inl (D.2.1, 16, .inl (fun _ => 0)))])))) rfl rfl rfl (Nat.le_of_ble_eq_true rfl) dX1_init_54 ?_
  refine j_aload_n C 0 dX1_init_57 rfl rfl ?_
  refine j_bipush C (v := (16 : Int32)) dX1_init_58 rfl ?_
  refine j_newi C (N := 16) mX1_init_arrayClass_int rfl (by decide) (Nat.le_of_ble_eq_true rfl) (Nat.le_of_ble_eq_true rfl) dX1_init_60 (fun q60 => ?_)
  refine j_w (w' := [(x, .inr (1, [.int (1000 : Int32), .int (200 : Int32), .int (0 : Int32), .int (0 : Int32), .int (0 : Int32), .ref q36, .ref q44, .ref q52, .null, .null]))] ++ ([(q36, .inl (D.2.1, 16, .inl (fun _ => 0)))] ++ ([(q44, .inl (D.2.1, 16, .inl (fun _ => 0)))] ++ ([(q52, .inl (D.2.1, 16, .inl (fun _ => 0)))] ++ ([(q60, .inl (D.2.1, 16, .inl (fun _ => 0)))]))))) rfl ?_
  refine j_putF C 0 hin foX1_init_37 rfl (w' := [(x, .inr (1, [.int (1000 : Int32), .int (200 : Int32), .int (0 : Int32), .int (0 : Int32), .int (0 : Int32), .ref q36, .ref q44, .ref q52, .ref q60, .null]))] ++ ([(q36, .inl (D.2.1, 16, .inl (fun _ => 0)))] ++ ([(q44, .inl (D.2.1, 16, .inl (fun _ => 0)))] ++ ([(q52, .inl (D.2.1, 16, .inl (fun _ => 0)))] ++ ([(q60, .inl (D.2.1, 16, .inl (fun _ => 0)))]))))) rfl rfl rfl (Nat.le_of_ble_eq_true rfl) dX1_init_62 ?_
  refine j_aload_n C 0 dX1_init_65 rfl rfl ?_
  refine j_bipush C (v := (16 : Int32)) dX1_init_66 rfl ?_
  refine j_newi C (N := 16) mX1_init_arrayClass_int rfl (by decide) (Nat.le_of_ble_eq_true rfl) (Nat.le_of_ble_eq_true rfl) dX1_init_68 (fun q68 => ?_)
  refine j_w (w' := [(x, .inr (1, [.int (1000 : Int32), .int (200 : Int32), .int (0 : Int32), .int (0 : Int32), .int (0 : Int32), .ref q36, .ref q44, .ref q52, .ref q60, .null]))] ++ ([(q36, .inl (D.2.1, 16, .inl (fun _ => 0)))] ++ ([(q44, .inl (D.2.1, 16, .inl (fun _ => 0)))] ++ ([(q52, .inl (D.2.1, 16, .inl (fun _ => 0)))] ++ ([(q60, .inl (D.2.1, 16, .inl (fun _ => 0)))] ++ ([(q68, .inl (D.2.1, 16, .inl (fun _ => 0)))])))))) rfl ?_
  refine j_putF C 0 hin foX1_init_40 rfl (w' := [(x, .inr (1, [.int (1000 : Int32), .int (200 : Int32), .int (0 : Int32), .int (0 : Int32), .int (0 : Int32), .ref q36, .ref q44, .ref q52, .ref q60, .ref q68]))] ++ ([(q36, .inl (D.2.1, 16, .inl (fun _ => 0)))] ++ ([(q44, .inl (D.2.1, 16, .inl (fun _ => 0)))] ++ ([(q52, .inl (D.2.1, 16, .inl (fun _ => 0)))] ++ ([(q60, .inl (D.2.1, 16, .inl (fun _ => 0)))] ++ ([(q68, .inl (D.2.1, 16, .inl (fun _ => 0)))])))))) rfl rfl rfl (Nat.le_of_ble_eq_true rfl) dX1_init_70 ?_
  exact ret dX1_init_73 (⟨fun i => [x, q36, q44, q52, q60, q68].getD i 0, rfl, rfl⟩)

set_option maxRecDepth 100000 in
set_option maxHeartbeats 4000000 in
theorem ctX0_init (l : Launch) (D : KD) (x : Nat) : MV l D yX0_init wsX0_init 1 12 2 32 [.ref x] [(x, .inr (0, [.int 0, .int 0, .int 0, .int 0, .long 0, .long 0, .long 0, .null, .null]))] (fun w1 => ∃ u : Nat → Nat, u 0 = x ∧ w1 = wBa D u 0 0 0 0 0 0 0 (fun _ => 0) (fun _ => 0)) := by
  refine MV.of (cc := cX0_init) (nL := 1) (lv0 := [(0, .ref x)]) (by decide +kernel) rfl (Nat.le_of_ble_eq_true rfl) rfl ?_
  intro X hXl hin C ret
  subst hXl
  refine j_aload_n C 0 dX0_init_0 rfl rfl ?_
  refine j_obj C mX0_init_methodLink_RX0_3_objectInit mX0_init_instanceMethod_objectInit mX0_init_code_objectInit_0xb1_1_none (by decide) (by decide) dX0_init_1 ?_
  refine j_aload_n C 0 dX0_init_4 rfl rfl ?_
  refine j_bipush C (v := (16 : Int32)) dX0_init_5 rfl ?_
  refine j_newi C (N := 16) mX0_init_arrayClass_int rfl (by decide) (Nat.le_of_ble_eq_true rfl) (Nat.le_of_ble_eq_true rfl) dX0_init_7 (fun q7 => ?_)
  refine j_w (w' := [(x, .inr (0, [.int 0, .int 0, .int 0, .int 0, .long 0, .long 0, .long 0, .null, .null]))] ++ ([(q7, .inl (D.2.1, 16, .inl (fun _ => 0)))])) rfl ?_
  refine j_putF C 0 hin foX0_init_9 rfl (w' := [(x, .inr (0, [.int 0, .int 0, .int 0, .int 0, .long 0, .long 0, .long 0, .ref q7, .null]))] ++ ([(q7, .inl (D.2.1, 16, .inl (fun _ => 0)))])) rfl rfl rfl (Nat.le_of_ble_eq_true rfl) dX0_init_9 ?_
  refine j_aload_n C 0 dX0_init_12 rfl rfl ?_
  refine j_bipush C (v := (16 : Int32)) dX0_init_13 rfl ?_
  refine j_newl C (N := 16) mX0_init_arrayClass_long rfl (by decide) (Nat.le_of_ble_eq_true rfl) (Nat.le_of_ble_eq_true rfl) dX0_init_15 (fun q15 => ?_)
  refine j_w (w' := [(x, .inr (0, [.int 0, .int 0, .int 0, .int 0, .long 0, .long 0, .long 0, .ref q7, .null]))] ++ ([(q7, .inl (D.2.1, 16, .inl (fun _ => 0)))] ++ ([(q15, .inl (D.2.2.1, 16, .inr (.inl (fun _ => 0))))]))) rfl ?_
  refine j_putF C 0 hin foX0_init_15 rfl (w' := [(x, .inr (0, [.int 0, .int 0, .int 0, .int 0, .long 0, .long 0, .long 0, .ref q7, .ref q15]))] ++ ([(q7, .inl (D.2.1, 16, .inl (fun _ => 0)))] ++ ([(q15, .inl (D.2.2.1, 16, .inr (.inl (fun _ => 0))))]))) rfl rfl rfl (Nat.le_of_ble_eq_true rfl) dX0_init_17 ?_
  exact ret dX0_init_20 (⟨fun i => [x, q7, q15].getD i 0, rfl, rfl⟩)

set_option maxRecDepth 100000 in
set_option maxHeartbeats 4000000 in
theorem ctX3_init (l : Launch) (D : KD) (x : Nat) : MV l D yX3_init wsX3_init 1 12 1 160 [.ref x] [(x, .inr (3, [.int 0, .null]))] (fun w1 => ∃ u : Nat → Nat, u 0 = x ∧ w1 = wTx D u 0 (fun _ => 0)) := by
  refine MV.of (cc := cX3_init) (nL := 1) (lv0 := [(0, .ref x)]) (by decide +kernel) rfl (Nat.le_of_ble_eq_true rfl) rfl ?_
  intro X hXl hin C ret
  subst hXl
  refine j_aload_n C 0 dX3_init_0 rfl rfl ?_
  refine j_obj C mX3_init_methodLink_RX3_3_objectInit mX3_init_instanceMethod_objectInit mX3_init_code_objectInit_0xb1_1_none (by decide) (by decide) dX3_init_1 ?_
  refine j_aload_n C 0 dX3_init_4 rfl rfl ?_
  refine j_iconst C (v := (0 : Int32)) dX3_init_5 rfl ?_
  refine j_put C 0 foX3_init_9 rfl (w' := [(x, .inr (3, [.int (0 : Int32), .null]))]) rfl rfl rfl (Nat.le_of_ble_eq_true rfl) dX3_init_6 ?_
  refine j_aload_n C 0 dX3_init_9 rfl rfl ?_
  refine j_sipush C (v := (160 : Int32)) dX3_init_10 rfl ?_
  refine j_newb C (N := 160) mX3_init_arrayClass_byte rfl (by decide) (Nat.le_of_ble_eq_true rfl) (Nat.le_of_ble_eq_true rfl) dX3_init_13 (fun q13 => ?_)
  refine j_w (w' := [(x, .inr (3, [.int (0 : Int32), .null]))] ++ ([(q13, .inl (D.2.2.2.1, 160, .inl (fun _ => 0)))])) rfl ?_
  refine j_putF C 0 hin foX3_init_15 rfl (w' := [(x, .inr (3, [.int (0 : Int32), .ref q13]))] ++ ([(q13, .inl (D.2.2.2.1, 160, .inl (fun _ => 0)))])) rfl rfl rfl (Nat.le_of_ble_eq_true rfl) dX3_init_15 ?_
  exact ret dX3_init_18 (⟨fun i => [x, q13].getD i 0, rfl, rfl⟩)

set_option maxRecDepth 100000 in
set_option maxHeartbeats 4000000 in
theorem ctX4_init (l : Launch) (D : KD) (x : Nat) : MV l D yX4_init wsX4_init 1 12 1 4 [.ref x] [(x, .inr (4, [.int 0, .int 0, .null]))] (fun w1 => ∃ u : Nat → Nat, u 0 = x ∧ w1 = wHi D u 0 0 (fun _ => none)) := by
  refine MV.of (cc := cX4_init) (nL := 1) (lv0 := [(0, .ref x)]) (by decide +kernel) rfl (Nat.le_of_ble_eq_true rfl) rfl ?_
  intro X hXl hin C ret
  subst hXl
  refine j_aload_n C 0 dX4_init_0 rfl rfl ?_
  refine j_obj C mX4_init_methodLink_RX4_3_objectInit mX4_init_instanceMethod_objectInit mX4_init_code_objectInit_0xb1_1_none (by decide) (by decide) dX4_init_1 ?_
  refine j_aload_n C 0 dX4_init_4 rfl rfl ?_
  refine j_iconst C (v := (0 : Int32)) dX4_init_5 rfl ?_
  refine j_put C 0 foX4_init_9 rfl (w' := [(x, .inr (4, [.int (0 : Int32), .int 0, .null]))]) rfl rfl rfl (Nat.le_of_ble_eq_true rfl) dX4_init_6 ?_
  refine j_aload_n C 0 dX4_init_9 rfl rfl ?_
  refine j_iconst C (v := (0 : Int32)) dX4_init_10 rfl ?_
  refine j_put C 0 foX4_init_15 rfl (w' := [(x, .inr (4, [.int (0 : Int32), .int (0 : Int32), .null]))]) rfl rfl rfl (Nat.le_of_ble_eq_true rfl) dX4_init_11 ?_
  refine j_aload_n C 0 dX4_init_14 rfl rfl ?_
  refine j_iconst C (v := (4 : Int32)) dX4_init_15 rfl ?_
  refine j_newq C (N := 4) mX4_init_classLink_RX4_18_KeelBlocks_Dock rfl (by decide) (Nat.le_of_ble_eq_true rfl) (Nat.le_of_ble_eq_true rfl) dX4_init_16 (fun q16 => ?_)
  refine j_w (w' := [(x, .inr (4, [.int (0 : Int32), .int (0 : Int32), .null]))] ++ ([(q16, .inl (D.2.2.2.2, 4, .inr (.inr (.inr (.inr (fun _ => none))))))])) rfl ?_
  refine j_putF C 0 hin foX4_init_20 rfl (w' := [(x, .inr (4, [.int (0 : Int32), .int (0 : Int32), .ref q16]))] ++ ([(q16, .inl (D.2.2.2.2, 4, .inr (.inr (.inr (.inr (fun _ => none))))))])) rfl rfl rfl (Nat.le_of_ble_eq_true rfl) dX4_init_19 ?_
  exact ret dX4_init_22 (⟨fun i => [x, q16].getD i 0, rfl, rfl⟩)

set_option maxRecDepth 100000 in
set_option maxHeartbeats 4000000 in
theorem ctX2_init (l : Launch) (D : KD) (x : Nat) (ta : Nat) : MV l D yX2_init wsX2_init 1 12 0 0 [.ref x, .ref ta] [(x, .inr (2, [.null, .int 0, .int 0]))] (fun w1 => ∃ u : Nat → Nat, u 0 = x ∧ w1 = wRd D u ta 0 (-1)) := by
  refine MV.of (cc := cX2_init) (nL := 2) (lv0 := [(0, .ref x), (1, .ref ta)]) (by decide +kernel) rfl (Nat.le_of_ble_eq_true rfl) rfl ?_
  intro X hXl hin C ret
  subst hXl
  refine j_aload_n C 0 dX2_init_0 rfl rfl ?_
  refine j_obj C mX2_init_methodLink_RX2_3_objectInit mX2_init_instanceMethod_objectInit mX2_init_code_objectInit_0xb1_1_none (by decide) (by decide) dX2_init_1 ?_
  refine j_aload_n C 0 dX2_init_4 rfl rfl ?_
  refine j_iconst C (v := (0 : Int32)) dX2_init_5 rfl ?_
  refine j_put C 0 foX2_init_9 rfl (w' := [(x, .inr (2, [.null, .int (0 : Int32), .int 0]))]) rfl rfl rfl (Nat.le_of_ble_eq_true rfl) dX2_init_6 ?_
  refine j_aload_n C 0 dX2_init_9 rfl rfl ?_
  refine j_iconst C (v := (-1 : Int32)) dX2_init_10 rfl ?_
  refine j_put C 0 foX2_init_15 rfl (w' := [(x, .inr (2, [.null, .int (0 : Int32), .int (-1 : Int32)]))]) rfl rfl rfl (Nat.le_of_ble_eq_true rfl) dX2_init_11 ?_
  refine j_aload_n C 0 dX2_init_14 rfl rfl ?_
  refine j_aload_n C 1 dX2_init_15 rfl rfl ?_
  refine j_putF C 0 hin foX2_init_18 rfl (w' := [(x, .inr (2, [.ref ta, .int (0 : Int32), .int (-1 : Int32)]))]) rfl rfl rfl (Nat.le_of_ble_eq_true rfl) dX2_init_16 ?_
  exact ret dX2_init_19 (⟨fun i => [x].getD i 0, rfl, rfl⟩)

set_option maxRecDepth 100000 in
set_option maxHeartbeats 4000000 in
theorem ctX1_copyFrom (l : Launch) (D : KD) (a o : Nat → Nat) (we ce co sg cr : Int32) (Pp Kp Hp Lp Sp : Nat → Int32) (we1 ce1 co1 sg1 cr1 : Int32) (Pp1 Kp1 Hp1 Lp1 Sp1 : Nat → Int32) : MV l D yX1_copyFrom wsX1_copyFrom 0 0 0 0 [.ref (a 0), .ref (o 0)] (wDo D a we ce co sg cr Pp Kp Hp Lp Sp ++ (wDo D o we1 ce1 co1 sg1 cr1 Pp1 Kp1 Hp1 Lp1 Sp1)) (fun w1 => w1 = wDo D a we1 ce1 co1 sg1 cr1 Pp1 Kp1 Hp1 Lp1 Sp1 ++ wDo D o we1 ce1 co1 sg1 cr1 Pp1 Kp1 Hp1 Lp1 Sp1) := by
  refine MV.of (cc := cX1_copyFrom) (nL := 3) (lv0 := [(0, .ref (a 0)), (1, .ref (o 0))]) (by decide +kernel) rfl (Nat.le_of_ble_eq_true rfl) rfl ?_
  intro X hXl hin C ret
  subst hXl
  refine j_aload_n C 0 dX1_copyFrom_0 rfl rfl ?_
  refine j_aload_n C 1 dX1_copyFrom_1 rfl rfl ?_
  refine j_get C 6 fgX1_copyFrom_9 rfl rfl dX1_copyFrom_2 ?_
  refine j_put C 0 foX1_copyFrom_9 rfl (w' := (wDo D a we1 ce co sg cr Pp Kp Hp Lp Sp ++ (wDo D o we1 ce1 co1 sg1 cr1 Pp1 Kp1 Hp1 Lp1 Sp1))) rfl rfl rfl (Nat.le_of_ble_eq_true rfl) dX1_copyFrom_5 ?_
  refine j_aload_n C 0 dX1_copyFrom_8 rfl rfl ?_
  refine j_aload_n C 1 dX1_copyFrom_9 rfl rfl ?_
  refine j_get C 6 fgX1_copyFrom_15 rfl rfl dX1_copyFrom_10 ?_
  refine j_put C 0 foX1_copyFrom_15 rfl (w' := (wDo D a we1 ce1 co sg cr Pp Kp Hp Lp Sp ++ (wDo D o we1 ce1 co1 sg1 cr1 Pp1 Kp1 Hp1 Lp1 Sp1))) rfl rfl rfl (Nat.le_of_ble_eq_true rfl) dX1_copyFrom_13 ?_
  refine j_aload_n C 0 dX1_copyFrom_16 rfl rfl ?_
  refine j_aload_n C 1 dX1_copyFrom_17 rfl rfl ?_
  refine j_get C 6 fgX1_copyFrom_18 rfl rfl dX1_copyFrom_18 ?_
  refine j_put C 0 foX1_copyFrom_18 rfl (w' := (wDo D a we1 ce1 co1 sg cr Pp Kp Hp Lp Sp ++ (wDo D o we1 ce1 co1 sg1 cr1 Pp1 Kp1 Hp1 Lp1 Sp1))) rfl rfl rfl (Nat.le_of_ble_eq_true rfl) dX1_copyFrom_21 ?_
  refine j_aload_n C 0 dX1_copyFrom_24 rfl rfl ?_
  refine j_aload_n C 1 dX1_copyFrom_25 rfl rfl ?_
  refine j_get C 6 fgX1_copyFrom_21 rfl rfl dX1_copyFrom_26 ?_
  refine j_put C 0 foX1_copyFrom_21 rfl (w' := (wDo D a we1 ce1 co1 sg1 cr Pp Kp Hp Lp Sp ++ (wDo D o we1 ce1 co1 sg1 cr1 Pp1 Kp1 Hp1 Lp1 Sp1))) rfl rfl rfl (Nat.le_of_ble_eq_true rfl) dX1_copyFrom_29 ?_
  refine j_aload_n C 0 dX1_copyFrom_32 rfl rfl ?_
  refine j_aload_n C 1 dX1_copyFrom_33 rfl rfl ?_
  refine j_get C 6 fgX1_copyFrom_24 rfl rfl dX1_copyFrom_34 ?_
  refine j_put C 0 foX1_copyFrom_24 rfl (w' := (wDo D a we1 ce1 co1 sg1 cr1 Pp Kp Hp Lp Sp ++ (wDo D o we1 ce1 co1 sg1 cr1 Pp1 Kp1 Hp1 Lp1 Sp1))) rfl rfl rfl (Nat.le_of_ble_eq_true rfl) dX1_copyFrom_37 ?_
  refine j_iconst C (v := (0 : Int32)) dX1_copyFrom_40 rfl ?_
  refine j_istore_n C dX1_copyFrom_41 rfl (by decide) (lv' := [(2, .int (0 : Int32)), (0, .ref (a 0)), (1, .ref (o 0))]) rfl ?_
  have hl42 : ∀ i42, i42 ≤ 16 → J D X (wDo D a we1 ce1 co1 sg1 cr1 (cp0 Pp1 Pp i42) (cp0 Kp1 Kp i42) (cp0 Hp1 Hp i42) (cp0 Lp1 Lp i42) (cp0 Sp1 Sp i42) ++ (wDo D o we1 ce1 co1 sg1 cr1 Pp1 Kp1 Hp1 Lp1 Sp1)) 0 0 42 [(2, .int (nI i42)), (0, .ref (a 0)), (1, .ref (o 0))] [] := by
    refine for_up (16) ?_ ?_
    · refine j_iload_n C 0 dX1_copyFrom_42 rfl rfl ?_
      refine j_bipush C (v := (16 : Int32)) dX1_copyFrom_43 rfl ?_
      refine j_icmp_ge C dX1_copyFrom_45 (tgt := 114) (by decide) (fun _ => ?_) (fun h => absurd (nI_le (Nat.le_refl 16) (by decide)) h)
      refine j_asi 1 Pp1 rfl (cp0_16 _ _) (w' := (wDo D a we1 ce1 co1 sg1 cr1 Pp1 (cp0 Kp1 Kp 16) (cp0 Hp1 Hp 16) (cp0 Lp1 Lp 16) (cp0 Sp1 Sp 16) ++ (wDo D o we1 ce1 co1 sg1 cr1 Pp1 Kp1 Hp1 Lp1 Sp1))) rfl ?_
      refine j_asi 2 Kp1 rfl (cp0_16 _ _) (w' := (wDo D a we1 ce1 co1 sg1 cr1 Pp1 Kp1 (cp0 Hp1 Hp 16) (cp0 Lp1 Lp 16) (cp0 Sp1 Sp 16) ++ (wDo D o we1 ce1 co1 sg1 cr1 Pp1 Kp1 Hp1 Lp1 Sp1))) rfl ?_
      refine j_asi 3 Hp1 rfl (cp0_16 _ _) (w' := (wDo D a we1 ce1 co1 sg1 cr1 Pp1 Kp1 Hp1 (cp0 Lp1 Lp 16) (cp0 Sp1 Sp 16) ++ (wDo D o we1 ce1 co1 sg1 cr1 Pp1 Kp1 Hp1 Lp1 Sp1))) rfl ?_
      refine j_asi 4 Lp1 rfl (cp0_16 _ _) (w' := (wDo D a we1 ce1 co1 sg1 cr1 Pp1 Kp1 Hp1 Lp1 (cp0 Sp1 Sp 16) ++ (wDo D o we1 ce1 co1 sg1 cr1 Pp1 Kp1 Hp1 Lp1 Sp1))) rfl ?_
      refine j_asi 5 Sp1 rfl (cp0_16 _ _) (w' := (wDo D a we1 ce1 co1 sg1 cr1 Pp1 Kp1 Hp1 Lp1 Sp1 ++ (wDo D o we1 ce1 co1 sg1 cr1 Pp1 Kp1 Hp1 Lp1 Sp1))) rfl ?_
      exact ret dX1_copyFrom_114 (rfl)
    · intro i42 hi42 ih42
      refine j_iload_n C 0 dX1_copyFrom_42 rfl rfl ?_
      refine j_bipush C (v := (16 : Int32)) dX1_copyFrom_43 rfl ?_
      refine j_icmp_ge C dX1_copyFrom_45 (tgt := 114) (by decide) (fun h => absurd h (nI_ge hi42 (by decide))) (fun _ => ?_)
      refine j_aload_n C 1 dX1_copyFrom_48 rfl rfl ?_
      refine j_get C 0 fgX1_copyFrom_27 rfl rfl dX1_copyFrom_49 ?_
      refine j_iload_n C 0 dX1_copyFrom_52 rfl rfl ?_
      refine j_aload_n C 2 dX1_copyFrom_53 rfl rfl ?_
      refine j_get C 6 fgX1_copyFrom_27 rfl rfl dX1_copyFrom_54 ?_
      refine j_iload_n C 0 dX1_copyFrom_57 rfl rfl ?_
      refine j_iald C 7 rfl (i := i42) rfl (by omega) (by decide) dX1_copyFrom_58 ?_
      refine j_iast C 1 rfl (i := i42) rfl (by omega) (by decide) (w' := (wDo D a we1 ce1 co1 sg1 cr1 (upd (cp0 Pp1 Pp i42) i42 (Pp1 i42)) (cp0 Kp1 Kp i42) (cp0 Hp1 Hp i42) (cp0 Lp1 Lp i42) (cp0 Sp1 Sp i42) ++ (wDo D o we1 ce1 co1 sg1 cr1 Pp1 Kp1 Hp1 Lp1 Sp1))) rfl dX1_copyFrom_59 ?_
      refine j_aload_n C 1 dX1_copyFrom_60 rfl rfl ?_
      refine j_get C 0 fgX1_copyFrom_31 rfl rfl dX1_copyFrom_61 ?_
      refine j_iload_n C 0 dX1_copyFrom_64 rfl rfl ?_
      refine j_aload_n C 2 dX1_copyFrom_65 rfl rfl ?_
      refine j_get C 6 fgX1_copyFrom_31 rfl rfl dX1_copyFrom_66 ?_
      refine j_iload_n C 0 dX1_copyFrom_69 rfl rfl ?_
      refine j_iald C 8 rfl (i := i42) rfl (by omega) (by decide) dX1_copyFrom_70 ?_
      refine j_iast C 2 rfl (i := i42) rfl (by omega) (by decide) (w' := (wDo D a we1 ce1 co1 sg1 cr1 (upd (cp0 Pp1 Pp i42) i42 (Pp1 i42)) (upd (cp0 Kp1 Kp i42) i42 (Kp1 i42)) (cp0 Hp1 Hp i42) (cp0 Lp1 Lp i42) (cp0 Sp1 Sp i42) ++ (wDo D o we1 ce1 co1 sg1 cr1 Pp1 Kp1 Hp1 Lp1 Sp1))) rfl dX1_copyFrom_71 ?_
      refine j_aload_n C 1 dX1_copyFrom_72 rfl rfl ?_
      refine j_get C 0 fgX1_copyFrom_34 rfl rfl dX1_copyFrom_73 ?_
      refine j_iload_n C 0 dX1_copyFrom_76 rfl rfl ?_
      refine j_aload_n C 2 dX1_copyFrom_77 rfl rfl ?_
      refine j_get C 6 fgX1_copyFrom_34 rfl rfl dX1_copyFrom_78 ?_
      refine j_iload_n C 0 dX1_copyFrom_81 rfl rfl ?_
      refine j_iald C 9 rfl (i := i42) rfl (by omega) (by decide) dX1_copyFrom_82 ?_
      refine j_iast C 3 rfl (i := i42) rfl (by omega) (by decide) (w' := (wDo D a we1 ce1 co1 sg1 cr1 (upd (cp0 Pp1 Pp i42) i42 (Pp1 i42)) (upd (cp0 Kp1 Kp i42) i42 (Kp1 i42)) (upd (cp0 Hp1 Hp i42) i42 (Hp1 i42)) (cp0 Lp1 Lp i42) (cp0 Sp1 Sp i42) ++ (wDo D o we1 ce1 co1 sg1 cr1 Pp1 Kp1 Hp1 Lp1 Sp1))) rfl dX1_copyFrom_83 ?_
      refine j_aload_n C 1 dX1_copyFrom_84 rfl rfl ?_
      refine j_get C 0 fgX1_copyFrom_37 rfl rfl dX1_copyFrom_85 ?_
      refine j_iload_n C 0 dX1_copyFrom_88 rfl rfl ?_
      refine j_aload_n C 2 dX1_copyFrom_89 rfl rfl ?_
      refine j_get C 6 fgX1_copyFrom_37 rfl rfl dX1_copyFrom_90 ?_
      refine j_iload_n C 0 dX1_copyFrom_93 rfl rfl ?_
      refine j_iald C 10 rfl (i := i42) rfl (by omega) (by decide) dX1_copyFrom_94 ?_
      refine j_iast C 4 rfl (i := i42) rfl (by omega) (by decide) (w' := (wDo D a we1 ce1 co1 sg1 cr1 (upd (cp0 Pp1 Pp i42) i42 (Pp1 i42)) (upd (cp0 Kp1 Kp i42) i42 (Kp1 i42)) (upd (cp0 Hp1 Hp i42) i42 (Hp1 i42)) (upd (cp0 Lp1 Lp i42) i42 (Lp1 i42)) (cp0 Sp1 Sp i42) ++ (wDo D o we1 ce1 co1 sg1 cr1 Pp1 Kp1 Hp1 Lp1 Sp1))) rfl dX1_copyFrom_95 ?_
      refine j_aload_n C 1 dX1_copyFrom_96 rfl rfl ?_
      refine j_get C 0 fgX1_copyFrom_40 rfl rfl dX1_copyFrom_97 ?_
      refine j_iload_n C 0 dX1_copyFrom_100 rfl rfl ?_
      refine j_aload_n C 2 dX1_copyFrom_101 rfl rfl ?_
      refine j_get C 6 fgX1_copyFrom_40 rfl rfl dX1_copyFrom_102 ?_
      refine j_iload_n C 0 dX1_copyFrom_105 rfl rfl ?_
      refine j_iald C 11 rfl (i := i42) rfl (by omega) (by decide) dX1_copyFrom_106 ?_
      refine j_iast C 5 rfl (i := i42) rfl (by omega) (by decide) (w' := (wDo D a we1 ce1 co1 sg1 cr1 (upd (cp0 Pp1 Pp i42) i42 (Pp1 i42)) (upd (cp0 Kp1 Kp i42) i42 (Kp1 i42)) (upd (cp0 Hp1 Hp i42) i42 (Hp1 i42)) (upd (cp0 Lp1 Lp i42) i42 (Lp1 i42)) (upd (cp0 Sp1 Sp i42) i42 (Sp1 i42)) ++ (wDo D o we1 ce1 co1 sg1 cr1 Pp1 Kp1 Hp1 Lp1 Sp1))) rfl dX1_copyFrom_107 ?_
      refine j_iinc C 0 dX1_copyFrom_108 rfl (v := nI (i42 + 1)) (nI_1 _) (by decide) (lv' := [(2, .int (nI (i42 + 1))), (0, .ref (a 0)), (1, .ref (o 0))]) rfl ?_
      refine j_goto C dX1_copyFrom_111 (tgt := 42) (by decide) ?_
      simp only [cp0_s]
      refine j_sub [0, 1, 2] (lv' := [(2, .int (nI (i42 + 1))), (0, .ref (a 0)), (1, .ref (o 0))]) rfl ?_
      exact ih42
  refine j_sub [0, 1, 2] (lv' := [(2, .int (0 : Int32)), (0, .ref (a 0)), (1, .ref (o 0))]) rfl ?_
  refine j_w (w' := wDo D a we1 ce1 co1 sg1 cr1 (cp0 Pp1 Pp 0) (cp0 Kp1 Kp 0) (cp0 Hp1 Hp 0) (cp0 Lp1 Lp 0) (cp0 Sp1 Sp 0) ++ wDo D o we1 ce1 co1 sg1 cr1 Pp1 Kp1 Hp1 Lp1 Sp1) (by simp only [cp0_0]) ?_
  exact hl42 0 (Nat.zero_le _)

set_option maxRecDepth 100000 in
set_option maxHeartbeats 4000000 in
theorem ctJ9_floorMod_7cf53 (l : Launch) (D : KD) (v : Nat) (hv : v < 9) : MI l D yJ9_floorMod_7cf53 wsJ9_floorMod_7cf53 0 0 0 0 [.int (nI v), .int 4] [] (fun r w1 => r = nI (v % 4) ∧ w1 = []) := by
  refine MI.ofF (cc := cJ9_floorMod_7cf53) (nL := 3) (lv0 := [(0, .int (nI v)), (1, .int 4)]) (by decide +kernel) rfl (Nat.le_of_ble_eq_true rfl) rfl ?_
  intro X hXl hin C ret
  subst hXl
  refine j_iload_n C 0 dJ9_floorMod_7cf53_0 rfl rfl ?_
  refine j_iload_n C 1 dJ9_floorMod_7cf53_1 rfl rfl ?_
  refine j_irem C dJ9_floorMod_7cf53_2 (by decide) ?_
  refine j_eqi (y := nI (v % 4)) (flm4 v hv) ?_
  refine j_istore_n C dJ9_floorMod_7cf53_3 rfl (by decide) (lv' := [(2, .int (nI (v % 4))), (0, .int (nI v)), (1, .int 4)]) rfl ?_
  refine j_iload_n C 1 dJ9_floorMod_7cf53_4 rfl rfl ?_
  refine j_iload_n C 2 dJ9_floorMod_7cf53_5 rfl rfl ?_
  refine j_ixor C dJ9_floorMod_7cf53_6 ?_
  refine j_if_ge C dJ9_floorMod_7cf53_7 (tgt := 18) (by decide) (fun _ => ?_) (fun h => absurd (flm4x v hv) h)
  refine j_iload_n C 0 dJ9_floorMod_7cf53_18 rfl rfl ?_
  exact ret dJ9_floorMod_7cf53_19 (⟨rfl, rfl⟩)

set_option maxRecDepth 100000 in
set_option maxHeartbeats 4000000 in
theorem ctJ9_floorModM (l : Launch) (D : KD)  : MI l D yJ9_floorMod_7cf53 wsJ9_floorMod_7cf53 0 0 0 0 [.int (-1), .int 4] [] (fun r w1 => r = nI 3 ∧ w1 = []) := by
  refine MI.ofF (cc := cJ9_floorMod_7cf53) (nL := 3) (lv0 := [(0, .int (-1)), (1, .int 4)]) (by decide +kernel) rfl (Nat.le_of_ble_eq_true rfl) rfl ?_
  intro X hXl hin C ret
  subst hXl
  refine j_iload_n C 0 dJ9_floorMod_7cf53_0 rfl rfl ?_
  refine j_iload_n C 1 dJ9_floorMod_7cf53_1 rfl rfl ?_
  refine j_irem C dJ9_floorMod_7cf53_2 (by decide) ?_
  refine j_istore_n C dJ9_floorMod_7cf53_3 rfl (by decide) (lv' := [(2, .int ((-1) - (-1) / 4 * 4)), (0, .int (-1)), (1, .int 4)]) rfl ?_
  refine j_iload_n C 1 dJ9_floorMod_7cf53_4 rfl rfl ?_
  refine j_iload_n C 2 dJ9_floorMod_7cf53_5 rfl rfl ?_
  refine j_ixor C dJ9_floorMod_7cf53_6 ?_
  refine j_if_ge C dJ9_floorMod_7cf53_7 (tgt := 18) (by decide) (fun h => absurd h (by decide)) (fun _ => ?_)
  refine j_iload_n C 0 dJ9_floorMod_7cf53_10 rfl rfl ?_
  refine j_if_eq C dJ9_floorMod_7cf53_11 (tgt := 18) (by decide) (fun h => absurd h (by decide)) (fun _ => ?_)
  refine j_iload_n C 0 dJ9_floorMod_7cf53_14 rfl rfl ?_
  refine j_iload_n C 2 dJ9_floorMod_7cf53_15 rfl rfl ?_
  refine j_iadd C dJ9_floorMod_7cf53_16 ?_
  exact ret dJ9_floorMod_7cf53_17 (⟨rfl, rfl⟩)

