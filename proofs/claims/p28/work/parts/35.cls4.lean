set_option maxRecDepth 100000 in
set_option maxHeartbeats 4000000 in
theorem ctX0_isSafe (l : Launch) (D : KD) (b : Nat → Nat) (sb : Bool) (rd be ov : Int32) (qa qb qd : Int64) (lo : Nat → Int32) (cu : Nat → Int64) : MI l D yX0_isSafe wsX0_isSafe 0 0 0 0 [.ref (b 0)] (wBa D b (bI sb) rd be ov qa qb qd lo cu) (fun r w1 => r = bI (sb && decide (ov = 0)) ∧ w1 = wBa D b (bI sb) rd be ov qa qb qd lo cu) := by
  refine MI.ofz (cc := cX0_isSafe) (nL := 1) (lv0 := [(0, .ref (b 0))]) (by decide +kernel) rfl (Nat.le_of_ble_eq_true rfl) rfl ?_
  intro X hXl hin C ret
  subst hXl
  refine j_aload_n C 0 dX0_isSafe_0 rfl rfl ?_
  refine j_get C 0 fgX0_isSafe_19 rfl rfl dX0_isSafe_1 ?_
  refine j_bif_eq C dX0_isSafe_4 (tgt := 18) (by decide) (fun h4 => ?_) (fun h4 => ?_)
  · refine j_iconst C (v := (0 : Int32)) dX0_isSafe_18 rfl ?_
    exact ret dX0_isSafe_19 (Or.inl rfl) (⟨by simp [bI, h4], rfl⟩)
  · refine j_aload_n C 0 dX0_isSafe_7 rfl rfl ?_
    refine j_get C 0 fgX0_isSafe_27 rfl rfl dX0_isSafe_8 ?_
    refine j_if_ne C dX0_isSafe_11 (tgt := 18) (by decide) (fun h11 => ?_) (fun h11 => ?_)
    · refine j_iconst C (v := (0 : Int32)) dX0_isSafe_18 rfl ?_
      exact ret dX0_isSafe_19 (Or.inl rfl) (⟨by simp [bI, h4, h11], rfl⟩)
    · refine j_iconst C (v := (1 : Int32)) dX0_isSafe_14 rfl ?_
      refine j_goto C dX0_isSafe_15 (tgt := 19) (by decide) ?_
      exact ret dX0_isSafe_19 (Or.inr rfl) (⟨by simp [bI, h4, h11], rfl⟩)

set_option maxRecDepth 100000 in
set_option maxHeartbeats 4000000 in
theorem ctX0_mostLoaded (l : Launch) (D : KD) (b : Nat → Nat) (sb : Bool) (rd be ov : Int32) (qa qb qd : Int64) (lo : Nat → Int32) (cu : Nat → Int64) : MI l D yX0_mostLoaded wsX0_mostLoaded 0 0 0 0 [.ref (b 0)] (wBa D b (bI sb) rd be ov qa qb qd lo cu) (fun r w1 => r = (if sb = true then nI (amI lo 16) else -1) ∧ w1 = wBa D b (bI sb) rd be ov qa qb qd lo cu) := by
  refine MI.of (cc := cX0_mostLoaded) (nL := 3) (lv0 := [(0, .ref (b 0))]) (by decide +kernel) rfl (Nat.le_of_ble_eq_true rfl) rfl ?_
  intro X hXl hin C ret
  subst hXl
  refine j_aload_n C 0 dX0_mostLoaded_0 rfl rfl ?_
  refine j_get C 0 fgX0_mostLoaded_19 rfl rfl dX0_mostLoaded_1 ?_
  refine j_bif_ne C dX0_mostLoaded_4 (tgt := 9) (by decide) (fun h4 => ?_) (fun h4 => ?_)
  · refine j_iconst C (v := (0 : Int32)) dX0_mostLoaded_9 rfl ?_
    refine j_istore_n C dX0_mostLoaded_10 rfl (by decide) (lv' := [(1, .int (0 : Int32)), (0, .ref (b 0))]) rfl ?_
    refine j_iconst C (v := (1 : Int32)) dX0_mostLoaded_11 rfl ?_
    refine j_istore_n C dX0_mostLoaded_12 rfl (by decide) (lv' := [(2, .int (1 : Int32)), (1, .int (0 : Int32)), (0, .ref (b 0))]) rfl ?_
    have hl13 : ∀ i13, i13 ≤ 16 → ∀ (t13 : Nat), t13 = amI lo i13 → J D X (wBa D b (bI sb) rd be ov qa qb qd lo cu) 0 0 13 [(2, .int (nI i13)), (1, .int (nI t13)), (0, .ref (b 0))] [] := by
      refine for_up (16) ?_ ?_
      · intro t13 ht13
        refine j_iload_n C 0 dX0_mostLoaded_13 rfl rfl ?_
        refine j_bipush C (v := (16 : Int32)) dX0_mostLoaded_14 rfl ?_
        refine j_icmp_ge C dX0_mostLoaded_16 (tgt := 42) (by decide) (fun _ => ?_) (fun h => absurd (nI_le (Nat.le_refl 16) (by decide)) h)
        refine j_iload_n C 1 dX0_mostLoaded_42 rfl rfl ?_
        exact ret dX0_mostLoaded_43 (⟨by rw [if_pos h4, ht13], rfl⟩)
      · intro i13 hi13 ih13 t13 ht13
        refine j_iload_n C 0 dX0_mostLoaded_13 rfl rfl ?_
        refine j_bipush C (v := (16 : Int32)) dX0_mostLoaded_14 rfl ?_
        refine j_icmp_ge C dX0_mostLoaded_16 (tgt := 42) (by decide) (fun h => absurd h (nI_ge hi13 (by decide))) (fun _ => ?_)
        refine j_aload_n C 2 dX0_mostLoaded_19 rfl rfl ?_
        refine j_get C 0 fgX0_mostLoaded_9 rfl rfl dX0_mostLoaded_20 ?_
        refine j_iload_n C 0 dX0_mostLoaded_23 rfl rfl ?_
        refine j_iald C 1 rfl (i := i13) rfl (by omega) (by decide) dX0_mostLoaded_24 ?_
        refine j_aload_n C 2 dX0_mostLoaded_25 rfl rfl ?_
        refine j_get C 0 fgX0_mostLoaded_9 rfl rfl dX0_mostLoaded_26 ?_
        refine j_iload_n C 1 dX0_mostLoaded_29 rfl rfl ?_
        refine j_iald C 1 rfl (i := t13) rfl (by have := amI_lt lo i13; omega) (by decide) dX0_mostLoaded_30 ?_
        refine j_icmp_le C dX0_mostLoaded_31 (tgt := 36) (by decide) (fun h31 => ?_) (fun h31 => ?_)
        · have h31' := Int32.not_lt.mpr h31
          refine j_iinc C 0 dX0_mostLoaded_36 rfl (v := nI (i13 + 1)) (nI_1 _) (by decide) (lv' := [(2, .int (nI (i13 + 1))), (1, .int (nI t13)), (0, .ref (b 0))]) rfl ?_
          refine j_goto C dX0_mostLoaded_39 (tgt := 13) (by decide) ?_
          refine j_sub [0, 1, 2] (lv' := [(2, .int (nI (i13 + 1))), (1, .int (nI t13)), (0, .ref (b 0))]) rfl ?_
          exact ih13 t13 (by rw [amI_f (by rw [← ht13]; exact h31')]; try rw [← ht13]; try rfl)
        · have h31' := Int32.not_le.mp h31
          refine j_iload_n C 0 dX0_mostLoaded_34 rfl rfl ?_
          refine j_istore_n C dX0_mostLoaded_35 rfl (by decide) (lv' := [(1, .int (nI i13)), (2, .int (nI i13)), (0, .ref (b 0))]) rfl ?_
          refine j_iinc C 1 dX0_mostLoaded_36 rfl (v := nI (i13 + 1)) (nI_1 _) (by decide) (lv' := [(2, .int (nI (i13 + 1))), (1, .int (nI i13)), (0, .ref (b 0))]) rfl ?_
          refine j_goto C dX0_mostLoaded_39 (tgt := 13) (by decide) ?_
          refine j_sub [0, 1, 2] (lv' := [(2, .int (nI (i13 + 1))), (1, .int (nI i13)), (0, .ref (b 0))]) rfl ?_
          exact ih13 i13 (by rw [amI_t (by rw [← ht13]; exact h31')]; try rw [← ht13]; try rfl)
    refine j_sub [0, 1, 2] (lv' := [(2, .int (1 : Int32)), (1, .int (0 : Int32)), (0, .ref (b 0))]) rfl ?_
    exact hl13 1 (by omega) 0 (amI_1 _).symm
  · refine j_iconst C (v := (-1 : Int32)) dX0_mostLoaded_7 rfl ?_
    exact ret dX0_mostLoaded_8 (⟨by rw [if_neg (by rw [h4]; decide)], rfl⟩)

set_option maxRecDepth 100000 in
set_option maxHeartbeats 4000000 in
theorem ctX0_greatestLoad (l : Launch) (D : KD) (b : Nat → Nat) (sd rd be ov : Int32) (qa qb qd : Int64) (lo : Nat → Int32) (cu : Nat → Int64) : MI l D yX0_greatestLoad wsX0_greatestLoad 1 21 0 0 [.ref (b 0)] (wBa D b sd rd be ov qa qb qd lo cu) (fun r w1 => r = gmx lo 16 ∧ w1 = wBa D b sd rd be ov qa qb qd lo cu) := by
  refine MI.of (cc := cX0_greatestLoad) (nL := 3) (lv0 := [(0, .ref (b 0))]) (by decide +kernel) rfl (Nat.le_of_ble_eq_true rfl) rfl ?_
  intro X hXl hin C ret
  subst hXl
  refine j_iconst C (v := (0 : Int32)) dX0_greatestLoad_0 rfl ?_
  refine j_istore_n C dX0_greatestLoad_1 rfl (by decide) (lv' := [(1, .int (0 : Int32)), (0, .ref (b 0))]) rfl ?_
  refine j_iconst C (v := (0 : Int32)) dX0_greatestLoad_2 rfl ?_
  refine j_istore_n C dX0_greatestLoad_3 rfl (by decide) (lv' := [(2, .int (0 : Int32)), (1, .int (0 : Int32)), (0, .ref (b 0))]) rfl ?_
  have hl4 : ∀ i4, i4 ≤ 16 → ∀ (t4 : Int32), t4 = gmx lo i4 → J D X (wBa D b sd rd be ov qa qb qd lo cu) 0 0 4 [(2, .int (nI i4)), (1, .int t4), (0, .ref (b 0))] [] := by
    refine for_up (16) ?_ ?_
    · intro t4 ht4
      refine j_iload_n C 0 dX0_greatestLoad_4 rfl rfl ?_
      refine j_bipush C (v := (16 : Int32)) dX0_greatestLoad_5 rfl ?_
      refine j_icmp_ge C dX0_greatestLoad_7 (tgt := 27) (by decide) (fun _ => ?_) (fun h => absurd (nI_le (Nat.le_refl 16) (by decide)) h)
      refine j_iload_n C 1 dX0_greatestLoad_27 rfl rfl ?_
      exact ret dX0_greatestLoad_28 (⟨ht4, rfl⟩)
    · intro i4 hi4 ih4 t4 ht4
      refine j_iload_n C 0 dX0_greatestLoad_4 rfl rfl ?_
      refine j_bipush C (v := (16 : Int32)) dX0_greatestLoad_5 rfl ?_
      refine j_icmp_ge C dX0_greatestLoad_7 (tgt := 27) (by decide) (fun h => absurd h (nI_ge hi4 (by decide))) (fun _ => ?_)
      refine j_iload_n C 1 dX0_greatestLoad_10 rfl rfl ?_
      refine j_aload_n C 2 dX0_greatestLoad_11 rfl rfl ?_
      refine j_get C 0 fgX0_greatestLoad_9 rfl rfl dX0_greatestLoad_12 ?_
      refine j_iload_n C 0 dX0_greatestLoad_15 rfl rfl ?_
      refine j_iald C 1 rfl (i := i4) rfl (by omega) (by decide) dX0_greatestLoad_16 ?_
      refine j_max C mX0_greatestLoad_methodLink_RX0_97_Lib_Math_max_name mX0_greatestLoad_static_Lib_Math_max_name mX0_greatestLoad_initialized_java_lang_Math mX0_greatestLoad_code_Lib_Math_max_name_Lib_Math_max_code_2_some_int (Nat.le_of_ble_eq_true rfl) (Nat.le_of_ble_eq_true rfl) (Nat.le_of_ble_eq_true rfl) (Nat.le_of_ble_eq_true rfl) dX0_greatestLoad_17 ?_
      refine j_istore_n C dX0_greatestLoad_20 rfl (by decide) (lv' := [(1, .int (if t4 < (lo i4) then (lo i4) else t4)), (2, .int (nI i4)), (0, .ref (b 0))]) rfl ?_
      refine j_iinc C 1 dX0_greatestLoad_21 rfl (v := nI (i4 + 1)) (nI_1 _) (by decide) (lv' := [(2, .int (nI (i4 + 1))), (1, .int (if t4 < (lo i4) then (lo i4) else t4)), (0, .ref (b 0))]) rfl ?_
      refine j_goto C dX0_greatestLoad_24 (tgt := 4) (by decide) ?_
      refine j_sub [0, 1, 2] (lv' := [(2, .int (nI (i4 + 1))), (1, .int (if t4 < (lo i4) then (lo i4) else t4)), (0, .ref (b 0))]) rfl ?_
      exact ih4 (if t4 < (lo i4) then (lo i4) else t4) (by rw [gmx_s]; try rw [← ht4]; try rfl)
  refine j_sub [0, 1, 2] (lv' := [(2, .int (0 : Int32)), (1, .int (0 : Int32)), (0, .ref (b 0))]) rfl ?_
  exact hl4 0 (Nat.zero_le _) (0 : Int32) rfl

set_option maxRecDepth 100000 in
set_option maxHeartbeats 4000000 in
theorem ctX0_mostOverloaded (l : Launch) (D : KD) (b a : Nat → Nat) (sd rd be ov : Int32) (qa qb qd : Int64) (lo : Nat → Int32) (cu : Nat → Int64) (we ce co sg cr : Int32) (Pp Kp Hp Lp Sp : Nat → Int32) : MI l D yX0_mostOverloaded wsX0_mostOverloaded 1 21 0 0 [.ref (b 0), .ref (a 0)] (wBa D b sd rd be ov qa qb qd lo cu ++ (wDo D a we ce co sg cr Pp Kp Hp Lp Sp)) (fun r w1 => r = (moI ov lo Lp 16).1 ∧ w1 = wBa D b sd rd be ov qa qb qd lo cu ++ wDo D a we ce co sg cr Pp Kp Hp Lp Sp) := by
  refine MI.of (cc := cX0_mostOverloaded) (nL := 6) (lv0 := [(0, .ref (b 0)), (1, .ref (a 0))]) (by decide +kernel) rfl (Nat.le_of_ble_eq_true rfl) rfl ?_
  intro X hXl hin C ret
  subst hXl
  refine j_iconst C (v := (-1 : Int32)) dX0_mostOverloaded_0 rfl ?_
  refine j_istore_n C dX0_mostOverloaded_1 rfl (by decide) (lv' := [(2, .int (-1 : Int32)), (0, .ref (b 0)), (1, .ref (a 0))]) rfl ?_
  refine j_iconst C (v := (0 : Int32)) dX0_mostOverloaded_2 rfl ?_
  refine j_istore_n C dX0_mostOverloaded_3 rfl (by decide) (lv' := [(3, .int (0 : Int32)), (2, .int (-1 : Int32)), (0, .ref (b 0)), (1, .ref (a 0))]) rfl ?_
  refine j_iconst C (v := (0 : Int32)) dX0_mostOverloaded_4 rfl ?_
  refine j_istore C dX0_mostOverloaded_5 (by decide) (lv' := [(4, .int (0 : Int32)), (3, .int (0 : Int32)), (2, .int (-1 : Int32)), (0, .ref (b 0)), (1, .ref (a 0))]) rfl ?_
  have hl7 : ∀ i7, i7 ≤ 16 → ∀ (t7 : Int32 × Int32), t7 = moI ov lo Lp i7 → J D X (wBa D b sd rd be ov qa qb qd lo cu ++ (wDo D a we ce co sg cr Pp Kp Hp Lp Sp)) 0 0 7 [(4, .int (nI i7)), (2, .int t7.1), (3, .int t7.2), (0, .ref (b 0)), (1, .ref (a 0))] [] := by
    refine for_up (16) ?_ ?_
    · intro t7 ht7
      refine j_iload C 0 dX0_mostOverloaded_7 rfl ?_
      refine j_bipush C (v := (16 : Int32)) dX0_mostOverloaded_9 rfl ?_
      refine j_icmp_ge C dX0_mostOverloaded_11 (tgt := 61) (by decide) (fun _ => ?_) (fun h => absurd (nI_le (Nat.le_refl 16) (by decide)) h)
      refine j_iload_n C 1 dX0_mostOverloaded_61 rfl rfl ?_
      exact ret dX0_mostOverloaded_62 (⟨by rw [← ht7], rfl⟩)
    · intro i7 hi7 ih7 t7 ht7
      refine j_iload C 0 dX0_mostOverloaded_7 rfl ?_
      refine j_bipush C (v := (16 : Int32)) dX0_mostOverloaded_9 rfl ?_
      refine j_icmp_ge C dX0_mostOverloaded_11 (tgt := 61) (by decide) (fun h => absurd h (nI_ge hi7 (by decide))) (fun _ => ?_)
      refine j_aload_n C 3 dX0_mostOverloaded_14 rfl rfl ?_
      refine j_get C 0 fgX0_mostOverloaded_9 rfl rfl dX0_mostOverloaded_15 ?_
      refine j_iload C 0 dX0_mostOverloaded_18 rfl ?_
      refine j_iald C 1 rfl (i := i7) rfl (by omega) (by decide) dX0_mostOverloaded_20 ?_
      refine j_aload_n C 4 dX0_mostOverloaded_21 rfl rfl ?_
      refine j_get C 3 fgX0_mostOverloaded_94 rfl rfl dX0_mostOverloaded_22 ?_
      refine j_iload C 0 dX0_mostOverloaded_25 rfl ?_
      refine j_iald C 7 rfl (i := i7) rfl (by omega) (by decide) dX0_mostOverloaded_27 ?_
      refine j_isub C dX0_mostOverloaded_28 ?_
      refine j_istore C dX0_mostOverloaded_29 (by decide) (lv' := [(5, .int ((lo i7) - (Lp i7))), (4, .int (nI i7)), (2, .int t7.1), (3, .int t7.2), (0, .ref (b 0)), (1, .ref (a 0))]) rfl ?_
      refine j_aload_n C 4 dX0_mostOverloaded_31 rfl rfl ?_
      refine j_get C 0 fgX0_mostOverloaded_27 rfl rfl dX0_mostOverloaded_32 ?_
      refine j_iload C 1 dX0_mostOverloaded_35 rfl ?_
      refine j_csN_i C (As := [.int ov, .int (nI i7)]) (rest := []) (ctX5_isMember (xl X) D ov i7 (by first | assumption | omega | decide)) mfX5_isMember gX0_mostOverloaded_X5_isMember_n66 rfl (C.hN.2.2.2.2.1) mX0_mostOverloaded_static_yX5_isMember mX0_mostOverloaded_initialized_RX5 (Nat.le_of_ble_eq_true rfl) (Nat.le_of_ble_eq_true rfl) (Nat.le_of_ble_eq_true rfl) (Nat.le_of_ble_eq_true rfl) [] rfl rfl rfl (Nat.le_of_ble_eq_true rfl) dX0_mostOverloaded_37 ?_
      rintro _ _ ⟨rfl, rfl⟩
      refine ⟨Eq.trans (b := []) rfl rfl, ?_⟩
      refine j_w (w' := (wBa D b sd rd be ov qa qb qd lo cu ++ (wDo D a we ce co sg cr Pp Kp Hp Lp Sp))) rfl ?_
      refine j_bif_eq C dX0_mostOverloaded_40 (tgt := 55) (by decide) (fun h40 => ?_) (fun h40 => ?_)
      · refine j_iinc C 1 dX0_mostOverloaded_55 rfl (v := nI (i7 + 1)) (nI_1 _) (by decide) (lv' := [(4, .int (nI (i7 + 1))), (5, .int ((lo i7) - (Lp i7))), (2, .int t7.1), (3, .int t7.2), (0, .ref (b 0)), (1, .ref (a 0))]) rfl ?_
        refine j_goto C dX0_mostOverloaded_58 (tgt := 7) (by decide) ?_
        refine j_sub [0, 2, 3, 4, 5] (lv' := [(4, .int (nI (i7 + 1))), (2, .int t7.1), (3, .int t7.2), (0, .ref (b 0)), (1, .ref (a 0))]) rfl ?_
        exact ih7 (t7.1, t7.2) (by rw [moI_f h40]; try rw [← ht7]; try rfl)
      · refine j_iload C 0 dX0_mostOverloaded_43 rfl ?_
        refine j_iload_n C 3 dX0_mostOverloaded_45 rfl rfl ?_
        refine j_icmp_le C dX0_mostOverloaded_46 (tgt := 55) (by decide) (fun h46 => ?_) (fun h46 => ?_)
        · have h46' := Int32.not_lt.mpr h46
          refine j_iinc C 1 dX0_mostOverloaded_55 rfl (v := nI (i7 + 1)) (nI_1 _) (by decide) (lv' := [(4, .int (nI (i7 + 1))), (5, .int ((lo i7) - (Lp i7))), (2, .int t7.1), (3, .int t7.2), (0, .ref (b 0)), (1, .ref (a 0))]) rfl ?_
          refine j_goto C dX0_mostOverloaded_58 (tgt := 7) (by decide) ?_
          refine j_sub [0, 2, 3, 4, 5] (lv' := [(4, .int (nI (i7 + 1))), (2, .int t7.1), (3, .int t7.2), (0, .ref (b 0)), (1, .ref (a 0))]) rfl ?_
          exact ih7 (t7.1, t7.2) (by rw [moI_g (by rw [← ht7]; exact h46')]; try rw [← ht7]; try rfl)
        · have h46' := Int32.not_le.mp h46
          refine j_iload C 1 dX0_mostOverloaded_49 rfl ?_
          refine j_istore_n C dX0_mostOverloaded_51 rfl (by decide) (lv' := [(2, .int (nI i7)), (5, .int ((lo i7) - (Lp i7))), (4, .int (nI i7)), (3, .int t7.2), (0, .ref (b 0)), (1, .ref (a 0))]) rfl ?_
          refine j_iload C 1 dX0_mostOverloaded_52 rfl ?_
          refine j_istore_n C dX0_mostOverloaded_54 rfl (by decide) (lv' := [(3, .int ((lo i7) - (Lp i7))), (2, .int (nI i7)), (5, .int ((lo i7) - (Lp i7))), (4, .int (nI i7)), (0, .ref (b 0)), (1, .ref (a 0))]) rfl ?_
          refine j_iinc C 3 dX0_mostOverloaded_55 rfl (v := nI (i7 + 1)) (nI_1 _) (by decide) (lv' := [(4, .int (nI (i7 + 1))), (3, .int ((lo i7) - (Lp i7))), (2, .int (nI i7)), (5, .int ((lo i7) - (Lp i7))), (0, .ref (b 0)), (1, .ref (a 0))]) rfl ?_
          refine j_goto C dX0_mostOverloaded_58 (tgt := 7) (by decide) ?_
          refine j_sub [0, 2, 1, 4, 5] (lv' := [(4, .int (nI (i7 + 1))), (2, .int (nI i7)), (3, .int ((lo i7) - (Lp i7))), (0, .ref (b 0)), (1, .ref (a 0))]) rfl ?_
          exact ih7 (nI i7, (lo i7) - (Lp i7)) (by rw [moI_t h40 (by rw [← ht7]; exact h46')]; try rw [← ht7]; try rfl)
  refine j_sub [0, 2, 1, 3, 4] (lv' := [(4, .int (0 : Int32)), (2, .int (-1 : Int32)), (3, .int (0 : Int32)), (0, .ref (b 0)), (1, .ref (a 0))]) rfl ?_
  exact hl7 0 (Nat.zero_le _) ((-1 : Int32), (0 : Int32)) rfl

theorem ctX0_findK (l : Launch) (D : KD) (b a : Nat → Nat) (sd rd be ov : Int32) (qa qb qd : Int64) (lo : Nat → Int32) (cu : Nat → Int64) (we ce co sg cr : Int32) (Pp Kp Hp Lp Sp : Nat → Int32) (m : Nat → Int32) (n : Nat) (hK : KR we ce co sg cr Pp Kp Hp Lp Sp m n) : MV l D yX0_find wsX0_find 3 82 0 0 [.ref (b 0), .ref (a 0)] (wBa D b sd rd be ov qa qb qd lo cu ++ (wDo D a we ce co sg cr Pp Kp Hp Lp Sp)) (fun w1 => ∃ cx : Nat → Int64, w1 = wBa D b (bI (mR m n).1) (nI (mR m n).2.1) (mBe m n) (mOv m n) ((mR m n).2.2.2.1) ((mR m n).2.2.2.2.1) ((mR m n).2.2.2.2.2) (mLo m n) cx ++ wDo D a we ce co sg cr Pp Kp Hp Lp Sp) := by
  refine MV.imp (ctX0_find l D b a sd rd be ov qa qb qd lo cu we ce co sg cr Pp Kp Hp Lp Sp) ?_
  rintro w1 rfl
  exact ⟨fCu (we, ce, co, sg, cr, Pp, Kp, Hp, Lp, Sp) cu, by rw [fBe_KR hK, fOv_KR hK, fLo_KR hK, fnd_KR hK]⟩

