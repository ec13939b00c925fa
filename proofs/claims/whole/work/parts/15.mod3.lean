set_option maxRecDepth 100000 in
set_option maxHeartbeats 4000000 in
theorem ctX6_canPull (l : Launch) (D : KD) (h : Nat → Nat) (m sp sv : Nat → Int32) (sc : Int32) (tx : Nat → Int32) (tl cd se ro st : Int32) (qa qb qd : Int64) (lo : Nat → Int32) (re : Nat → Int64) (cr ap nu : Int32) (ha : Int64) (n : Nat) (hn : n ≤ 16) (hc : m 2 = nI n) (i : Nat) (hi : i < n) (hV1 : mVal (mSt m i 1) n) (hc0 : m (3 + 6 * i + 4) = 0) : MI l D yX6_canPull wsX6_canPull 4 91 0 0 [.ref (h 0), .int (nI i)] (wMo D h m sp sv sc tx tl cd se ro st qa qb qd lo re cr ap nu ha) (fun r w1 => ∃ (se1 : Int32) (re1 : Nat → Int64), r = bI (cpl m n i) ∧ w1 = wMo D h m sp sv sc tx tl cd se1 (nI (mR (mSt m i 1) n).2.1) (bI (mR (mSt m i 1) n).1) ((mR (mSt m i 1) n).2.2.2.1) ((mR (mSt m i 1) n).2.2.2.2.1) ((mR (mSt m i 1) n).2.2.2.2.2) (mLo (mSt m i 1) n) re1 cr ap nu ha) := by
  refine MI.ofz (cc := cX6_canPull) (nL := 2) (lv0 := [(0, .ref (h 0)), (1, .int (nI i))]) (by decide +kernel) rfl (Nat.le_of_ble_eq_true rfl) rfl ?_
  intro X hXl hin C ret
  subst hXl
  refine j_aload_n C 0 dX6_canPull_0 rfl rfl ?_
  refine j_iload_n C 1 dX6_canPull_1 rfl rfl ?_
  refine j_iconst C (v := (4 : Int32)) dX6_canPull_2 rfl ?_
  refine j_cv_i C (As := [.int (nI i), .int (4 : Int32)]) (rest := []) (ctX6_of (xl X) D h m sp sv sc tx tl cd se ro st qa qb qd lo re cr ap nu ha i 4 (by first | assumption | omega | decide)) mfX6_of gX6_canPull_X6_of rfl (Nat.le_of_ble_eq_true rfl) (Nat.le_of_ble_eq_true rfl) (Nat.le_of_ble_eq_true rfl) (Nat.le_of_ble_eq_true rfl) [0, 1, 2, 3, 4, 5, 6] rfl rfl 0 rfl rfl rfl rfl (Nat.le_of_ble_eq_true rfl) dX6_canPull_3 ?_
  rintro _ _ ⟨rfl, rfl⟩
  refine ⟨rfl, ?_⟩
  refine j_w (w' := (wMo D h m sp sv sc tx tl cd se ro st qa qb qd lo re cr ap nu ha)) rfl ?_
  refine j_if_eq C dX6_canPull_6 (tgt := 11) (by decide) (fun _ => ?_) (fun h => absurd hc0 h)
  refine j_aload_n C 0 dX6_canPull_11 rfl rfl ?_
  refine j_iload_n C 1 dX6_canPull_12 rfl rfl ?_
  refine j_iconst C (v := (4 : Int32)) dX6_canPull_13 rfl ?_
  refine j_iconst C (v := (1 : Int32)) dX6_canPull_14 rfl ?_
  refine j_cv_v C (As := [.int (nI i), .int (4 : Int32), .int (1 : Int32)]) (rest := []) (ctX6_lay (xl X) D h m sp sv sc tx tl cd se ro st qa qb qd lo re cr ap nu ha i 4 (1 : Int32) (by first | assumption | omega | decide)) mfX6_lay gX6_canPull_X6_lay rfl (Nat.le_of_ble_eq_true rfl) (Nat.le_of_ble_eq_true rfl) (Nat.le_of_ble_eq_true rfl) (Nat.le_of_ble_eq_true rfl) [0, 1, 2, 3, 4, 5, 6] rfl rfl 0 rfl rfl rfl rfl (Nat.le_of_ble_eq_true rfl) dX6_canPull_15 ?_
  rintro _ rfl
  refine ⟨rfl, ?_⟩
  refine j_w (w' := (wMo D h (upd m (3 + 6 * i + 4) (1 : Int32)) sp sv sc tx tl cd se ro st qa qb qd lo re cr ap nu ha)) rfl ?_
  show J D X (wMo D h (mSt m i 1) sp sv sc tx tl cd se ro st qa qb qd lo re cr ap nu ha) 0 0 _ _ _
  refine j_aload_n C 0 dX6_canPull_18 rfl rfl ?_
  refine j_cv_v C (As := []) (rest := []) (ctX6_settle (xl X) D h (mSt m i 1) sp sv sc tx tl cd se ro st qa qb qd lo re cr ap nu ha n (by first | assumption | omega | decide) ((mSt_2 m i 1).trans hc) hV1) mfX6_settle gX6_canPull_X6_settle rfl (Nat.le_of_ble_eq_true rfl) (Nat.le_of_ble_eq_true rfl) (Nat.le_of_ble_eq_true rfl) (Nat.le_of_ble_eq_true rfl) [0, 1, 2, 3, 4, 5, 6] rfl rfl 0 rfl rfl rfl rfl (Nat.le_of_ble_eq_true rfl) dX6_canPull_19 ?_
  rintro _ ⟨sx_19, rx_19, hsx_19, rfl⟩
  refine ⟨rfl, ?_⟩
  refine j_w (w' := (wMo D h (mSt m i 1) sp sv sc tx tl cd sx_19 (nI (mR (mSt m i 1) n).2.1) (bI (mR (mSt m i 1) n).1) ((mR (mSt m i 1) n).2.2.2.1) ((mR (mSt m i 1) n).2.2.2.2.1) ((mR (mSt m i 1) n).2.2.2.2.2) (mLo (mSt m i 1) n) rx_19 cr ap nu ha)) rfl ?_
  refine j_aload_n C 0 dX6_canPull_22 rfl rfl ?_
  refine j_iload_n C 1 dX6_canPull_23 rfl rfl ?_
  refine j_iconst C (v := (4 : Int32)) dX6_canPull_24 rfl ?_
  refine j_iconst C (v := (0 : Int32)) dX6_canPull_25 rfl ?_
  refine j_cv_v C (As := [.int (nI i), .int (4 : Int32), .int (0 : Int32)]) (rest := []) (ctX6_lay (xl X) D h (mSt m i 1) sp sv sc tx tl cd sx_19 (nI (mR (mSt m i 1) n).2.1) (bI (mR (mSt m i 1) n).1) ((mR (mSt m i 1) n).2.2.2.1) ((mR (mSt m i 1) n).2.2.2.2.1) ((mR (mSt m i 1) n).2.2.2.2.2) (mLo (mSt m i 1) n) rx_19 cr ap nu ha i 4 (0 : Int32) (by first | assumption | omega | decide)) mfX6_lay gX6_canPull_X6_lay rfl (Nat.le_of_ble_eq_true rfl) (Nat.le_of_ble_eq_true rfl) (Nat.le_of_ble_eq_true rfl) (Nat.le_of_ble_eq_true rfl) [0, 1, 2, 3, 4, 5, 6] rfl rfl 0 rfl rfl rfl rfl (Nat.le_of_ble_eq_true rfl) dX6_canPull_26 ?_
  rintro _ rfl
  refine ⟨rfl, ?_⟩
  refine j_w (w' := (wMo D h (upd (mSt m i 1) (3 + 6 * i + 4) (0 : Int32)) sp sv sc tx tl cd sx_19 (nI (mR (mSt m i 1) n).2.1) (bI (mR (mSt m i 1) n).1) ((mR (mSt m i 1) n).2.2.2.1) ((mR (mSt m i 1) n).2.2.2.2.1) ((mR (mSt m i 1) n).2.2.2.2.2) (mLo (mSt m i 1) n) rx_19 cr ap nu ha)) rfl ?_
  rw [show upd (mSt m i 1) (3 + 6 * i + 4) (0 : Int32) = m from upd_back hc0]
  refine j_aload_n C 0 dX6_canPull_29 rfl rfl ?_
  refine j_get C 0 fgX6_canPull_78 rfl rfl dX6_canPull_30 ?_
  refine j_bif_eq C dX6_canPull_33 (tgt := 47) (by decide) (fun h33 => ?_) (fun h33 => ?_)
  · refine j_iconst C (v := (0 : Int32)) dX6_canPull_47 rfl ?_
    exact ret dX6_canPull_48 (Or.inl rfl) (⟨_, _, by simp [bI, cpl, h33], rfl⟩)
  · refine j_aload_n C 0 dX6_canPull_36 rfl rfl ?_
    refine j_cv_i C (As := []) (rest := []) (ctX6_overloaded (xl X) D h m sp sv sc tx tl cd sx_19 (nI (mR (mSt m i 1) n).2.1) ((mR (mSt m i 1) n).2.2.2.1) ((mR (mSt m i 1) n).2.2.2.2.1) ((mR (mSt m i 1) n).2.2.2.2.2) (mLo (mSt m i 1) n) rx_19 cr ap nu ha ((mR (mSt m i 1) n).1) n (by first | assumption | omega | decide) (by first | assumption | omega | decide)) mfX6_overloaded gX6_canPull_X6_overloaded rfl (Nat.le_of_ble_eq_true rfl) (Nat.le_of_ble_eq_true rfl) (Nat.le_of_ble_eq_true rfl) (Nat.le_of_ble_eq_true rfl) [0, 1, 2, 3, 4, 5, 6] rfl rfl 0 rfl rfl rfl rfl (Nat.le_of_ble_eq_true rfl) dX6_canPull_37 ?_
    rintro _ _ ⟨rfl, rfl⟩
    refine ⟨rfl, ?_⟩
    refine j_w (w' := (wMo D h m sp sv sc tx tl cd sx_19 (nI (mR (mSt m i 1) n).2.1) (bI (mR (mSt m i 1) n).1) ((mR (mSt m i 1) n).2.2.2.1) ((mR (mSt m i 1) n).2.2.2.2.1) ((mR (mSt m i 1) n).2.2.2.2.2) (mLo (mSt m i 1) n) rx_19 cr ap nu ha)) rfl ?_
    refine j_if_ne C dX6_canPull_40 (tgt := 47) (by decide) (fun h40 => ?_) (fun h40 => ?_)
    · refine j_iconst C (v := (0 : Int32)) dX6_canPull_47 rfl ?_
      exact ret dX6_canPull_48 (Or.inl rfl) (⟨_, _, by rw [h33] at h40; simp [bI, cpl, mOv, h33, mSt_L, h40], rfl⟩)
    · refine j_iconst C (v := (1 : Int32)) dX6_canPull_43 rfl ?_
      refine j_goto C dX6_canPull_44 (tgt := 48) (by decide) ?_
      exact ret dX6_canPull_48 (Or.inr rfl) (⟨_, _, by rw [h33] at h40; simp [bI, cpl, mOv, h33, mSt_L, h40], rfl⟩)

set_option maxRecDepth 100000 in
set_option maxHeartbeats 4000000 in
theorem ctX6_nextShaved (l : Launch) (D : KD) (h : Nat → Nat) (m sp sv : Nat → Int32) (sc : Int32) (tx : Nat → Int32) (tl cd se ro : Int32) (qa qb qd : Int64) (lo : Nat → Int32) (re : Nat → Int64) (cr ap nu : Int32) (ha : Int64) (sb : Bool) (n : Nat) (hn : n ≤ 16) (hc : m 2 = nI n) : MI l D yX6_nextShaved wsX6_nextShaved 2 43 0 0 [.ref (h 0)] (wMo D h m sp sv sc tx tl cd se ro (bI sb) qa qb qd lo re cr ap nu ha) (fun r w1 => r = nsI sb lo (mL m) n ∧ w1 = wMo D h m sp sv sc tx tl cd se ro (bI sb) qa qb qd lo re cr ap nu ha) := by
  refine MI.of (cc := cX6_nextShaved) (nL := 4) (lv0 := [(0, .ref (h 0))]) (by decide +kernel) rfl (Nat.le_of_ble_eq_true rfl) rfl ?_
  intro X hXl hin C ret
  subst hXl
  refine j_iconst C (v := (-1 : Int32)) dX6_nextShaved_0 rfl ?_
  refine j_istore_n C dX6_nextShaved_1 rfl (by decide) (lv' := [(1, .int (-1 : Int32)), (0, .ref (h 0))]) rfl ?_
  refine j_iconst C (v := (0 : Int32)) dX6_nextShaved_2 rfl ?_
  refine j_istore_n C dX6_nextShaved_3 rfl (by decide) (lv' := [(2, .int (0 : Int32)), (1, .int (-1 : Int32)), (0, .ref (h 0))]) rfl ?_
  have hl4 : ∀ i4, i4 ≤ n → ∀ (t4 : Int32), t4 = nsI sb lo (mL m) i4 → J D X (wMo D h m sp sv sc tx tl cd se ro (bI sb) qa qb qd lo re cr ap nu ha) 0 0 4 [(2, .int (nI i4)), (1, .int t4), (0, .ref (h 0))] [] := by
    refine for_up (n) ?_ ?_
    · intro t4 ht4
      refine j_iload_n C 0 dX6_nextShaved_4 rfl rfl ?_
      refine j_aload_n C 2 dX6_nextShaved_5 rfl rfl ?_
      refine j_get C 0 fgX6_nextShaved_7 rfl rfl dX6_nextShaved_6 ?_
      refine j_iconst C (v := (2 : Int32)) dX6_nextShaved_9 rfl ?_
      refine j_iald C 1 rfl (i := 2) rfl (by decide) (by decide) dX6_nextShaved_10 ?_
      refine j_eqi (y := nI n) hc ?_
      refine j_icmp_ge C dX6_nextShaved_11 (tgt := 78) (by decide) (fun _ => ?_) (fun h => absurd (Int32.le_refl _) h)
      refine j_iload_n C 1 dX6_nextShaved_78 rfl rfl ?_
      exact ret dX6_nextShaved_79 (⟨ht4, rfl⟩)
    · intro i4 hi4 ih4 t4 ht4
      refine j_iload_n C 0 dX6_nextShaved_4 rfl rfl ?_
      refine j_aload_n C 2 dX6_nextShaved_5 rfl rfl ?_
      refine j_get C 0 fgX6_nextShaved_7 rfl rfl dX6_nextShaved_6 ?_
      refine j_iconst C (v := (2 : Int32)) dX6_nextShaved_9 rfl ?_
      refine j_iald C 1 rfl (i := 2) rfl (by decide) (by decide) dX6_nextShaved_10 ?_
      refine j_eqi (y := nI n) hc ?_
      refine j_icmp_ge C dX6_nextShaved_11 (tgt := 78) (by decide) (fun h => absurd h (nI_ge hi4 (by omega))) (fun _ => ?_)
      refine j_aload_n C 2 dX6_nextShaved_14 rfl rfl ?_
      refine j_iload_n C 0 dX6_nextShaved_15 rfl rfl ?_
      refine j_cv_i C (As := [.int (nI i4)]) (rest := []) (ctX6_isOver (xl X) D h m sp sv sc tx tl cd se ro qa qb qd lo re cr ap nu ha sb i4 (by first | assumption | omega | decide)) mfX6_isOver gX6_nextShaved_X6_isOver rfl (Nat.le_of_ble_eq_true rfl) (Nat.le_of_ble_eq_true rfl) (Nat.le_of_ble_eq_true rfl) (Nat.le_of_ble_eq_true rfl) [0, 1, 2, 3, 4, 5, 6] rfl rfl 0 rfl rfl rfl rfl (Nat.le_of_ble_eq_true rfl) dX6_nextShaved_16 ?_
      rintro _ _ ⟨rfl, rfl⟩
      refine ⟨rfl, ?_⟩
      refine j_w (w' := (wMo D h m sp sv sc tx tl cd se ro (bI sb) qa qb qd lo re cr ap nu ha)) rfl ?_
      refine j_bif_eq C dX6_nextShaved_19 (tgt := 60) (by decide) (fun h19 => ?_) (fun h19 => ?_)
      · refine j_iconst C (v := (0 : Int32)) dX6_nextShaved_60 rfl ?_
        refine j_istore_n C dX6_nextShaved_61 rfl (by decide) (lv' := [(3, .int (0 : Int32)), (2, .int (nI i4)), (1, .int t4), (0, .ref (h 0))]) rfl ?_
        refine j_iload_n C 0 dX6_nextShaved_62 rfl rfl ?_
        refine j_if_eq C dX6_nextShaved_63 (tgt := 70) (by decide) (fun _ => ?_) (fun h => absurd (by decide) h)
        refine j_iload_n C 2 dX6_nextShaved_70 rfl rfl ?_
        refine j_istore_n C dX6_nextShaved_71 rfl (by decide) (lv' := [(1, .int t4), (3, .int (0 : Int32)), (2, .int (nI i4)), (0, .ref (h 0))]) rfl ?_
        refine j_iinc C 2 dX6_nextShaved_72 rfl (v := nI (i4 + 1)) (nI_1 _) (by decide) (lv' := [(2, .int (nI (i4 + 1))), (1, .int t4), (3, .int (0 : Int32)), (0, .ref (h 0))]) rfl ?_
        refine j_goto C dX6_nextShaved_75 (tgt := 4) (by decide) ?_
        refine j_sub [0, 1, 3] (lv' := [(2, .int (nI (i4 + 1))), (1, .int t4), (0, .ref (h 0))]) rfl ?_
        exact ih4 t4 (by rw [nsI_n h19]; try rw [← ht4]; try rfl)
      · refine j_iload_n C 1 dX6_nextShaved_22 rfl rfl ?_
        refine j_iconst C (v := (-1 : Int32)) dX6_nextShaved_23 rfl ?_
        refine j_icmp_eq C dX6_nextShaved_24 (tgt := 56) (by decide) (fun h24 => ?_) (fun h24 => ?_)
        · refine j_iconst C (v := (1 : Int32)) dX6_nextShaved_56 rfl ?_
          refine j_goto C dX6_nextShaved_57 (tgt := 61) (by decide) ?_
          refine j_istore_n C dX6_nextShaved_61 rfl (by decide) (lv' := [(3, .int (1 : Int32)), (2, .int (nI i4)), (1, .int t4), (0, .ref (h 0))]) rfl ?_
          refine j_iload_n C 0 dX6_nextShaved_62 rfl rfl ?_
          refine j_if_eq C dX6_nextShaved_63 (tgt := 70) (by decide) (fun h => absurd h (by decide)) (fun _ => ?_)
          refine j_iload_n C 1 dX6_nextShaved_66 rfl rfl ?_
          refine j_goto C dX6_nextShaved_67 (tgt := 71) (by decide) ?_
          refine j_istore_n C dX6_nextShaved_71 rfl (by decide) (lv' := [(1, .int (nI i4)), (3, .int (1 : Int32)), (2, .int (nI i4)), (0, .ref (h 0))]) rfl ?_
          refine j_iinc C 2 dX6_nextShaved_72 rfl (v := nI (i4 + 1)) (nI_1 _) (by decide) (lv' := [(2, .int (nI (i4 + 1))), (1, .int (nI i4)), (3, .int (1 : Int32)), (0, .ref (h 0))]) rfl ?_
          refine j_goto C dX6_nextShaved_75 (tgt := 4) (by decide) ?_
          refine j_sub [0, 1, 3] (lv' := [(2, .int (nI (i4 + 1))), (1, .int (nI i4)), (0, .ref (h 0))]) rfl ?_
          exact ih4 (nI i4) (by rw [nsI_0 h19 (ht4.symm.trans h24)])
        · obtain ⟨j4, hj4, hjt⟩ := (nsI_ix (sb := sb) (lo := lo) (L := mL m) i4 (by omega)).resolve_left (fun z => h24 (ht4.trans z))
          obtain rfl : t4 = nI j4 := ht4.trans hjt
          refine j_aload_n C 2 dX6_nextShaved_27 rfl rfl ?_
          refine j_get C 0 fgX6_nextShaved_22 rfl rfl dX6_nextShaved_28 ?_
          refine j_iload_n C 0 dX6_nextShaved_31 rfl rfl ?_
          refine j_iald C 5 rfl (i := i4) rfl (by omega) (by decide) dX6_nextShaved_32 ?_
          refine j_aload_n C 2 dX6_nextShaved_33 rfl rfl ?_
          refine j_iload_n C 0 dX6_nextShaved_34 rfl rfl ?_
          refine j_iconst C (v := (3 : Int32)) dX6_nextShaved_35 rfl ?_
          refine j_cv_i C (As := [.int (nI i4), .int (3 : Int32)]) (rest := [.int (lo i4)]) (ctX6_of (xl X) D h m sp sv sc tx tl cd se ro (bI sb) qa qb qd lo re cr ap nu ha i4 3 (by first | assumption | omega | decide)) mfX6_of gX6_nextShaved_X6_of rfl (Nat.le_of_ble_eq_true rfl) (Nat.le_of_ble_eq_true rfl) (Nat.le_of_ble_eq_true rfl) (Nat.le_of_ble_eq_true rfl) [0, 1, 2, 3, 4, 5, 6] rfl rfl 0 rfl rfl rfl rfl (Nat.le_of_ble_eq_true rfl) dX6_nextShaved_36 ?_
          rintro _ _ ⟨rfl, rfl⟩
          refine ⟨rfl, ?_⟩
          refine j_w (w' := (wMo D h m sp sv sc tx tl cd se ro (bI sb) qa qb qd lo re cr ap nu ha)) rfl ?_
          refine j_eqi (y := mL m i4) rfl ?_
          refine j_isub C dX6_nextShaved_39 ?_
          refine j_aload_n C 2 dX6_nextShaved_40 rfl rfl ?_
          refine j_get C 0 fgX6_nextShaved_22 rfl rfl dX6_nextShaved_41 ?_
          refine j_iload_n C 1 dX6_nextShaved_44 rfl rfl ?_
          refine j_iald C 5 rfl (i := j4) rfl (by omega) (by decide) dX6_nextShaved_45 ?_
          refine j_aload_n C 2 dX6_nextShaved_46 rfl rfl ?_
          refine j_iload_n C 1 dX6_nextShaved_47 rfl rfl ?_
          refine j_iconst C (v := (3 : Int32)) dX6_nextShaved_48 rfl ?_
          refine j_cv_i C (As := [.int (nI j4), .int (3 : Int32)]) (rest := [.int (lo j4), .int ((lo i4) - (mL m i4))]) (ctX6_of (xl X) D h m sp sv sc tx tl cd se ro (bI sb) qa qb qd lo re cr ap nu ha j4 3 (by first | assumption | omega | decide)) mfX6_of gX6_nextShaved_X6_of rfl (Nat.le_of_ble_eq_true rfl) (Nat.le_of_ble_eq_true rfl) (Nat.le_of_ble_eq_true rfl) (Nat.le_of_ble_eq_true rfl) [0, 1, 2, 3, 4, 5, 6] rfl rfl 0 rfl rfl rfl rfl (Nat.le_of_ble_eq_true rfl) dX6_nextShaved_49 ?_
          rintro _ _ ⟨rfl, rfl⟩
          refine ⟨rfl, ?_⟩
          refine j_w (w' := (wMo D h m sp sv sc tx tl cd se ro (bI sb) qa qb qd lo re cr ap nu ha)) rfl ?_
          refine j_eqi (y := mL m j4) rfl ?_
          refine j_isub C dX6_nextShaved_52 ?_
          refine j_icmp_le C dX6_nextShaved_53 (tgt := 60) (by decide) (fun h53 => ?_) (fun h53 => ?_)
          · have h53' := Int32.not_lt.mpr h53
            refine j_iconst C (v := (0 : Int32)) dX6_nextShaved_60 rfl ?_
            refine j_istore_n C dX6_nextShaved_61 rfl (by decide) (lv' := [(3, .int (0 : Int32)), (2, .int (nI i4)), (1, .int (nI j4)), (0, .ref (h 0))]) rfl ?_
            refine j_iload_n C 0 dX6_nextShaved_62 rfl rfl ?_
            refine j_if_eq C dX6_nextShaved_63 (tgt := 70) (by decide) (fun _ => ?_) (fun h => absurd (by decide) h)
            refine j_iload_n C 2 dX6_nextShaved_70 rfl rfl ?_
            refine j_istore_n C dX6_nextShaved_71 rfl (by decide) (lv' := [(1, .int (nI j4)), (3, .int (0 : Int32)), (2, .int (nI i4)), (0, .ref (h 0))]) rfl ?_
            refine j_iinc C 2 dX6_nextShaved_72 rfl (v := nI (i4 + 1)) (nI_1 _) (by decide) (lv' := [(2, .int (nI (i4 + 1))), (1, .int (nI j4)), (3, .int (0 : Int32)), (0, .ref (h 0))]) rfl ?_
            refine j_goto C dX6_nextShaved_75 (tgt := 4) (by decide) ?_
            refine j_sub [0, 1, 3] (lv' := [(2, .int (nI (i4 + 1))), (1, .int (nI j4)), (0, .ref (h 0))]) rfl ?_
            exact ih4 (nI j4) (by rw [nsI_l (by omega) hjt h53'])
          · have h53' := Int32.not_le.mp h53
            refine j_iconst C (v := (1 : Int32)) dX6_nextShaved_56 rfl ?_
            refine j_goto C dX6_nextShaved_57 (tgt := 61) (by decide) ?_
            refine j_istore_n C dX6_nextShaved_61 rfl (by decide) (lv' := [(3, .int (1 : Int32)), (2, .int (nI i4)), (1, .int (nI j4)), (0, .ref (h 0))]) rfl ?_
            refine j_iload_n C 0 dX6_nextShaved_62 rfl rfl ?_
            refine j_if_eq C dX6_nextShaved_63 (tgt := 70) (by decide) (fun h => absurd h (by decide)) (fun _ => ?_)
            refine j_iload_n C 1 dX6_nextShaved_66 rfl rfl ?_
            refine j_goto C dX6_nextShaved_67 (tgt := 71) (by decide) ?_
            refine j_istore_n C dX6_nextShaved_71 rfl (by decide) (lv' := [(1, .int (nI i4)), (3, .int (1 : Int32)), (2, .int (nI i4)), (0, .ref (h 0))]) rfl ?_
            refine j_iinc C 2 dX6_nextShaved_72 rfl (v := nI (i4 + 1)) (nI_1 _) (by decide) (lv' := [(2, .int (nI (i4 + 1))), (1, .int (nI i4)), (3, .int (1 : Int32)), (0, .ref (h 0))]) rfl ?_
            refine j_goto C dX6_nextShaved_75 (tgt := 4) (by decide) ?_
            refine j_sub [0, 1, 3] (lv' := [(2, .int (nI (i4 + 1))), (1, .int (nI i4)), (0, .ref (h 0))]) rfl ?_
            exact ih4 (nI i4) (by rw [nsI_g h19 (by omega) hjt h53'])
  refine j_sub [0, 1, 2] (lv' := [(2, .int (0 : Int32)), (1, .int (-1 : Int32)), (0, .ref (h 0))]) rfl ?_
  exact hl4 0 (Nat.zero_le _) (-1 : Int32) rfl

set_option maxRecDepth 100000 in
set_option maxHeartbeats 4000000 in
theorem ctX6_shaves (l : Launch) (D : KD) (h : Nat → Nat) (m sp sv : Nat → Int32) (sc : Int32) (tx : Nat → Int32) (tl cd se ro st : Int32) (qa qb qd : Int64) (lo : Nat → Int32) (re : Nat → Int64) (cr ap nu : Int32) (ha : Int64) (n : Nat) (hn : n ≤ 16) (hc : m 2 = nI n) (hV : mVal m n) : MI l D yX6_shaves wsX6_shaves 4 91 0 0 [.ref (h 0)] (wMo D h m sp sv sc tx tl cd se ro st qa qb qd lo re cr ap nu ha) (fun r w1 => ∃ (se1 : Int32) (re1 : Nat → Int64), r = (shv n 100 m 0).2 ∧ w1 = wMo D h ((shv n 100 m 0).1) sp sv sc tx tl cd se1 (nI (mR ((shv n 100 m 0).1) n).2.1) (bI (mR ((shv n 100 m 0).1) n).1) ((mR ((shv n 100 m 0).1) n).2.2.2.1) ((mR ((shv n 100 m 0).1) n).2.2.2.2.1) ((mR ((shv n 100 m 0).1) n).2.2.2.2.2) (mLo ((shv n 100 m 0).1) n) re1 cr ap nu ha) := by
  refine MI.of (cc := cX6_shaves) (nL := 3) (lv0 := [(0, .ref (h 0))]) (by decide +kernel) rfl (Nat.le_of_ble_eq_true rfl) rfl ?_
  intro X hXl hin C ret
  subst hXl
  refine j_iconst C (v := (0 : Int32)) dX6_shaves_0 rfl ?_
  refine j_istore_n C dX6_shaves_1 rfl (by decide) (lv' := [(1, .int (0 : Int32)), (0, .ref (h 0))]) rfl ?_
  refine j_aload_n C 1 dX6_shaves_2 rfl rfl ?_
  refine j_cv_v C (As := []) (rest := []) (ctX6_settle (xl X) D h m sp sv sc tx tl cd se ro st qa qb qd lo re cr ap nu ha n (by first | assumption | omega | decide) (by first | assumption | omega | decide) (by first | assumption | omega | decide)) mfX6_settle gX6_shaves_X6_settle rfl (Nat.le_of_ble_eq_true rfl) (Nat.le_of_ble_eq_true rfl) (Nat.le_of_ble_eq_true rfl) (Nat.le_of_ble_eq_true rfl) [0, 1, 2, 3, 4, 5, 6] rfl rfl 0 rfl rfl rfl rfl (Nat.le_of_ble_eq_true rfl) dX6_shaves_3 ?_
  rintro _ ⟨sx_3, rx_3, hsx_3, rfl⟩
  refine ⟨rfl, ?_⟩
  refine j_w (w' := (wMo D h m sp sv sc tx tl cd sx_3 (nI (mR m n).2.1) (bI (mR m n).1) ((mR m n).2.2.2.1) ((mR m n).2.2.2.2.1) ((mR m n).2.2.2.2.2) (mLo m n) rx_3 cr ap nu ha)) rfl ?_
  refine j_aload_n C 1 dX6_shaves_6 rfl rfl ?_
  refine j_cv_i C (As := []) (rest := []) (ctX6_nextShaved (xl X) D h m sp sv sc tx tl cd sx_3 (nI (mR m n).2.1) ((mR m n).2.2.2.1) ((mR m n).2.2.2.2.1) ((mR m n).2.2.2.2.2) (mLo m n) rx_3 cr ap nu ha ((mR m n).1) n (by first | assumption | omega | decide) (by first | assumption | omega | decide)) mfX6_nextShaved gX6_shaves_X6_nextShaved rfl (Nat.le_of_ble_eq_true rfl) (Nat.le_of_ble_eq_true rfl) (Nat.le_of_ble_eq_true rfl) (Nat.le_of_ble_eq_true rfl) [0, 1, 2, 3, 4, 5, 6] rfl rfl 0 rfl rfl rfl rfl (Nat.le_of_ble_eq_true rfl) dX6_shaves_7 ?_
  rintro _ _ ⟨rfl, rfl⟩
  refine ⟨rfl, ?_⟩
  refine j_w (w' := (wMo D h m sp sv sc tx tl cd sx_3 (nI (mR m n).2.1) (bI (mR m n).1) ((mR m n).2.2.2.1) ((mR m n).2.2.2.2.1) ((mR m n).2.2.2.2.2) (mLo m n) rx_3 cr ap nu ha)) rfl ?_
  refine j_istore_n C dX6_shaves_10 rfl (by decide) (lv' := [(2, .int (mNs m n)), (1, .int (0 : Int32)), (0, .ref (h 0))]) rfl ?_
  obtain ⟨R, hRf⟩ : ∃ R, shv n 100 m 0 = R := ⟨_, rfl⟩
  have key : ∀ (f : Nat) (m1 : Nat → Int32) (s1 : Int32) (se0 : Int32) (re0 : Nat → Int64), mVal m1 n → m1 2 = nI n → f ≤ 100 → s1 = nI (100 - f) → shv n f m1 s1 = R → J D X (wMo D h m1 sp sv sc tx tl cd se0 (nI (mR m1 n).2.1) (bI (mR m1 n).1) ((mR m1 n).2.2.2.1) ((mR m1 n).2.2.2.2.1) ((mR m1 n).2.2.2.2.2) (mLo m1 n) re0 cr ap nu ha) 0 0 11 [(2, .int (mNs m1 n)), (1, .int s1), (0, .ref (h 0))] [] := by
    intro f
    induction f with
    | zero =>
      intro m1 s1 se0 re0 hV1 hc1 hf hs hres
      have hs : s1 = 100 := hs
      refine j_iload_n C 0 dX6_shaves_11 rfl rfl ?_
      refine j_iconst C (v := (-1 : Int32)) dX6_shaves_12 rfl ?_
      refine j_icmp_eq C dX6_shaves_13 (tgt := 76) (by decide) (fun h13 => ?_) (fun h13 => ?_)
      · refine j_iload_n C 1 dX6_shaves_76 rfl rfl ?_
        exact ret dX6_shaves_77 (⟨se0, re0, by rw [hRf, ← hres]; rfl, by rw [hRf, ← hres]; rfl⟩)
      · obtain ⟨k1, hk1, hkk⟩ := (nsI_ix (sb := (mR m1 n).1) (lo := mLo m1 n) (L := mL m1) n hn).resolve_left h13
        have hkk : mNs m1 n = nI k1 := hkk
        rw [hkk]
        refine j_iload_n C 1 dX6_shaves_16 rfl rfl ?_
        refine j_bipush C (v := (100 : Int32)) dX6_shaves_17 rfl ?_
        refine j_icmp_ge C dX6_shaves_19 (tgt := 76) (by decide) (fun _ => ?_) (fun h => absurd (by rw [hs]; decide) h)
        refine j_iload_n C 1 dX6_shaves_76 rfl rfl ?_
        exact ret dX6_shaves_77 (⟨se0, re0, by rw [hRf, ← hres]; rfl, by rw [hRf, ← hres]; rfl⟩)
    | succ f ih =>
      intro m1 s1 se0 re0 hV1 hc1 hf hs hres
      have hs1 : f + 1 ≤ 100 → s1 + 1 = nI (100 - f) := fun _ => by rw [hs, nI_1]; congr 1; omega
      refine j_iload_n C 0 dX6_shaves_11 rfl rfl ?_
      refine j_iconst C (v := (-1 : Int32)) dX6_shaves_12 rfl ?_
      refine j_icmp_eq C dX6_shaves_13 (tgt := 76) (by decide) (fun h13 => ?_) (fun h13 => ?_)
      · refine j_iload_n C 1 dX6_shaves_76 rfl rfl ?_
        exact ret dX6_shaves_77 (⟨se0, re0, by rw [hRf, ← hres, shv_0 (Or.inl h13)], by rw [hRf, ← hres, shv_0 (Or.inl h13)]⟩)
      · obtain ⟨k1, hk1, hkk⟩ := (nsI_ix (sb := (mR m1 n).1) (lo := mLo m1 n) (L := mL m1) n hn).resolve_left h13
        have hkk : mNs m1 n = nI k1 := hkk
        rw [hkk]
        refine j_iload_n C 1 dX6_shaves_16 rfl rfl ?_
        refine j_bipush C (v := (100 : Int32)) dX6_shaves_17 rfl ?_
        refine j_icmp_ge C dX6_shaves_19 (tgt := 76) (by decide) (fun h => absurd h (by rw [hs]; exact nI_ge (b := 100) (by omega) (by decide))) (fun _ => ?_)
        refine j_aload_n C 2 dX6_shaves_22 rfl rfl ?_
        refine j_iload_n C 0 dX6_shaves_23 rfl rfl ?_
        refine j_iconst C (v := (2 : Int32)) dX6_shaves_24 rfl ?_
        refine j_cv_i C (As := [.int (nI k1), .int (2 : Int32)]) (rest := []) (ctX6_of (xl X) D h m1 sp sv sc tx tl cd se0 (nI (mR m1 n).2.1) (bI (mR m1 n).1) ((mR m1 n).2.2.2.1) ((mR m1 n).2.2.2.2.1) ((mR m1 n).2.2.2.2.2) (mLo m1 n) re0 cr ap nu ha k1 2 (by first | assumption | omega | decide)) mfX6_of gX6_shaves_X6_of rfl (Nat.le_of_ble_eq_true rfl) (Nat.le_of_ble_eq_true rfl) (Nat.le_of_ble_eq_true rfl) (Nat.le_of_ble_eq_true rfl) [0, 1, 2, 3, 4, 5, 6] rfl rfl 0 rfl rfl rfl rfl (Nat.le_of_ble_eq_true rfl) dX6_shaves_25 ?_
        rintro _ _ ⟨rfl, rfl⟩
        refine ⟨rfl, ?_⟩
        refine j_w (w' := (wMo D h m1 sp sv sc tx tl cd se0 (nI (mR m1 n).2.1) (bI (mR m1 n).1) ((mR m1 n).2.2.2.1) ((mR m1 n).2.2.2.2.1) ((mR m1 n).2.2.2.2.2) (mLo m1 n) re0 cr ap nu ha)) rfl ?_
        refine j_bipush C (v := (-50 : Int32)) dX6_shaves_28 rfl ?_
        refine j_icmp_le C dX6_shaves_30 (tgt := 76) (by decide) (fun h30 => ?_) (fun h30 => ?_)
        · have h30' := Int32.not_lt.mpr h30
          have hle : mH m1 (mNs m1 n).toNatClampNeg ≤ -50 := by rw [hkk, nI_clamp (by omega)]; exact h30
          refine j_iload_n C 1 dX6_shaves_76 rfl rfl ?_
          exact ret dX6_shaves_77 (⟨se0, re0, by rw [hRf, ← hres, shv_0 (Or.inr hle)], by rw [hRf, ← hres, shv_0 (Or.inr hle)]⟩)
        · have h30' := Int32.not_le.mp h30
          have h30n : ¬ mH m1 k1 ≤ -50 := h30
          have hgo : ¬ (mNs m1 n = -1 ∨ mH m1 (mNs m1 n).toNatClampNeg ≤ -50) := by rw [hkk, nI_clamp (by omega)]; exact fun z => z.elim (nI_m1 (by omega)) h30n
          refine j_aload_n C 2 dX6_shaves_33 rfl rfl ?_
          refine j_iload_n C 0 dX6_shaves_34 rfl rfl ?_
          refine j_iconst C (v := (2 : Int32)) dX6_shaves_35 rfl ?_
          refine j_aload_n C 2 dX6_shaves_36 rfl rfl ?_
          refine j_iload_n C 0 dX6_shaves_37 rfl rfl ?_
          refine j_iconst C (v := (2 : Int32)) dX6_shaves_38 rfl ?_
          refine j_cv_i C (As := [.int (nI k1), .int (2 : Int32)]) (rest := [.int (2 : Int32), .int (nI k1), .ref (h 0)]) (ctX6_of (xl X) D h m1 sp sv sc tx tl cd se0 (nI (mR m1 n).2.1) (bI (mR m1 n).1) ((mR m1 n).2.2.2.1) ((mR m1 n).2.2.2.2.1) ((mR m1 n).2.2.2.2.2) (mLo m1 n) re0 cr ap nu ha k1 2 (by first | assumption | omega | decide)) mfX6_of gX6_shaves_X6_of rfl (Nat.le_of_ble_eq_true rfl) (Nat.le_of_ble_eq_true rfl) (Nat.le_of_ble_eq_true rfl) (Nat.le_of_ble_eq_true rfl) [0, 1, 2, 3, 4, 5, 6] rfl rfl 0 rfl rfl rfl rfl (Nat.le_of_ble_eq_true rfl) dX6_shaves_39 ?_
          rintro _ _ ⟨rfl, rfl⟩
          refine ⟨rfl, ?_⟩
          refine j_w (w' := (wMo D h m1 sp sv sc tx tl cd se0 (nI (mR m1 n).2.1) (bI (mR m1 n).1) ((mR m1 n).2.2.2.1) ((mR m1 n).2.2.2.2.1) ((mR m1 n).2.2.2.2.2) (mLo m1 n) re0 cr ap nu ha)) rfl ?_
          refine j_iconst C (v := (1 : Int32)) dX6_shaves_42 rfl ?_
          refine j_isub C dX6_shaves_43 ?_
          refine j_cv_v C (As := [.int (nI k1), .int (2 : Int32), .int ((m1 (3 + 6 * k1 + 2)) - (1 : Int32))]) (rest := []) (ctX6_lay (xl X) D h m1 sp sv sc tx tl cd se0 (nI (mR m1 n).2.1) (bI (mR m1 n).1) ((mR m1 n).2.2.2.1) ((mR m1 n).2.2.2.2.1) ((mR m1 n).2.2.2.2.2) (mLo m1 n) re0 cr ap nu ha k1 2 ((m1 (3 + 6 * k1 + 2)) - (1 : Int32)) (by first | assumption | omega | decide)) mfX6_lay gX6_shaves_X6_lay rfl (Nat.le_of_ble_eq_true rfl) (Nat.le_of_ble_eq_true rfl) (Nat.le_of_ble_eq_true rfl) (Nat.le_of_ble_eq_true rfl) [0, 1, 2, 3, 4, 5, 6] rfl rfl 0 rfl rfl rfl rfl (Nat.le_of_ble_eq_true rfl) dX6_shaves_44 ?_
          rintro _ rfl
          refine ⟨rfl, ?_⟩
          refine j_w (w' := (wMo D h (upd m1 (3 + 6 * k1 + 2) ((m1 (3 + 6 * k1 + 2)) - (1 : Int32))) sp sv sc tx tl cd se0 (nI (mR m1 n).2.1) (bI (mR m1 n).1) ((mR m1 n).2.2.2.1) ((mR m1 n).2.2.2.2.1) ((mR m1 n).2.2.2.2.2) (mLo m1 n) re0 cr ap nu ha)) rfl ?_
          refine j_aload_n C 2 dX6_shaves_47 rfl rfl ?_
          refine j_iload_n C 0 dX6_shaves_48 rfl rfl ?_
          refine j_iconst C (v := (5 : Int32)) dX6_shaves_49 rfl ?_
          refine j_aload_n C 2 dX6_shaves_50 rfl rfl ?_
          refine j_iload_n C 0 dX6_shaves_51 rfl rfl ?_
          refine j_iconst C (v := (5 : Int32)) dX6_shaves_52 rfl ?_
          refine j_cv_i C (As := [.int (nI k1), .int (5 : Int32)]) (rest := [.int (5 : Int32), .int (nI k1), .ref (h 0)]) (ctX6_of (xl X) D h (upd m1 (3 + 6 * k1 + 2) ((m1 (3 + 6 * k1 + 2)) - (1 : Int32))) sp sv sc tx tl cd se0 (nI (mR m1 n).2.1) (bI (mR m1 n).1) ((mR m1 n).2.2.2.1) ((mR m1 n).2.2.2.2.1) ((mR m1 n).2.2.2.2.2) (mLo m1 n) re0 cr ap nu ha k1 5 (by first | assumption | omega | decide)) mfX6_of gX6_shaves_X6_of rfl (Nat.le_of_ble_eq_true rfl) (Nat.le_of_ble_eq_true rfl) (Nat.le_of_ble_eq_true rfl) (Nat.le_of_ble_eq_true rfl) [0, 1, 2, 3, 4, 5, 6] rfl rfl 0 rfl rfl rfl rfl (Nat.le_of_ble_eq_true rfl) dX6_shaves_53 ?_
          rintro _ _ ⟨rfl, rfl⟩
          refine ⟨rfl, ?_⟩
          refine j_w (w' := (wMo D h (upd m1 (3 + 6 * k1 + 2) ((m1 (3 + 6 * k1 + 2)) - (1 : Int32))) sp sv sc tx tl cd se0 (nI (mR m1 n).2.1) (bI (mR m1 n).1) ((mR m1 n).2.2.2.1) ((mR m1 n).2.2.2.2.1) ((mR m1 n).2.2.2.2.2) (mLo m1 n) re0 cr ap nu ha)) rfl ?_
          rw [upd_ne m1 (k := 3 + 6 * k1 + 2) (j := 3 + 6 * k1 + 5) _ (by omega)]
          refine j_iconst C (v := (1 : Int32)) dX6_shaves_56 rfl ?_
          refine j_iadd C dX6_shaves_57 ?_
          refine j_cv_v C (As := [.int (nI k1), .int (5 : Int32), .int ((m1 (3 + 6 * k1 + 5)) + (1 : Int32))]) (rest := []) (ctX6_lay (xl X) D h (upd m1 (3 + 6 * k1 + 2) ((m1 (3 + 6 * k1 + 2)) - (1 : Int32))) sp sv sc tx tl cd se0 (nI (mR m1 n).2.1) (bI (mR m1 n).1) ((mR m1 n).2.2.2.1) ((mR m1 n).2.2.2.2.1) ((mR m1 n).2.2.2.2.2) (mLo m1 n) re0 cr ap nu ha k1 5 ((m1 (3 + 6 * k1 + 5)) + (1 : Int32)) (by first | assumption | omega | decide)) mfX6_lay gX6_shaves_X6_lay rfl (Nat.le_of_ble_eq_true rfl) (Nat.le_of_ble_eq_true rfl) (Nat.le_of_ble_eq_true rfl) (Nat.le_of_ble_eq_true rfl) [0, 1, 2, 3, 4, 5, 6] rfl rfl 0 rfl rfl rfl rfl (Nat.le_of_ble_eq_true rfl) dX6_shaves_58 ?_
          rintro _ rfl
          refine ⟨rfl, ?_⟩
          refine j_w (w' := (wMo D h (upd (upd m1 (3 + 6 * k1 + 2) ((m1 (3 + 6 * k1 + 2)) - (1 : Int32))) (3 + 6 * k1 + 5) ((m1 (3 + 6 * k1 + 5)) + (1 : Int32))) sp sv sc tx tl cd se0 (nI (mR m1 n).2.1) (bI (mR m1 n).1) ((mR m1 n).2.2.2.1) ((mR m1 n).2.2.2.2.1) ((mR m1 n).2.2.2.2.2) (mLo m1 n) re0 cr ap nu ha)) rfl ?_
          show J D X (wMo D h (shp m1 k1) sp sv sc tx tl cd se0 (nI (mR m1 n).2.1) (bI (mR m1 n).1) ((mR m1 n).2.2.2.1) ((mR m1 n).2.2.2.2.1) ((mR m1 n).2.2.2.2.2) (mLo m1 n) re0 cr ap nu ha) 0 0 _ _ _
          refine j_iinc C 1 dX6_shaves_61 rfl (v := s1 + (1 : Int32)) rfl (by decide) (lv' := [(1, .int (s1 + (1 : Int32))), (2, .int (nI k1)), (0, .ref (h 0))]) rfl ?_
          refine j_aload_n C 2 dX6_shaves_64 rfl rfl ?_
          refine j_cv_v C (As := []) (rest := []) (ctX6_settle (xl X) D h (shp m1 k1) sp sv sc tx tl cd se0 (nI (mR m1 n).2.1) (bI (mR m1 n).1) ((mR m1 n).2.2.2.1) ((mR m1 n).2.2.2.2.1) ((mR m1 n).2.2.2.2.2) (mLo m1 n) re0 cr ap nu ha n (by first | assumption | omega | decide) ((shp_2 m1 k1).trans hc1) (shp_val hV1 hk1 h30n)) mfX6_settle gX6_shaves_X6_settle rfl (Nat.le_of_ble_eq_true rfl) (Nat.le_of_ble_eq_true rfl) (Nat.le_of_ble_eq_true rfl) (Nat.le_of_ble_eq_true rfl) [0, 1, 2, 3, 4, 5, 6] rfl rfl 0 rfl rfl rfl rfl (Nat.le_of_ble_eq_true rfl) dX6_shaves_65 ?_
          rintro _ ⟨sx_65, rx_65, hsx_65, rfl⟩
          refine ⟨rfl, ?_⟩
          refine j_w (w' := (wMo D h (shp m1 k1) sp sv sc tx tl cd sx_65 (nI (mR (shp m1 k1) n).2.1) (bI (mR (shp m1 k1) n).1) ((mR (shp m1 k1) n).2.2.2.1) ((mR (shp m1 k1) n).2.2.2.2.1) ((mR (shp m1 k1) n).2.2.2.2.2) (mLo (shp m1 k1) n) rx_65 cr ap nu ha)) rfl ?_
          refine j_aload_n C 2 dX6_shaves_68 rfl rfl ?_
          refine j_cv_i C (As := []) (rest := []) (ctX6_nextShaved (xl X) D h (shp m1 k1) sp sv sc tx tl cd sx_65 (nI (mR (shp m1 k1) n).2.1) ((mR (shp m1 k1) n).2.2.2.1) ((mR (shp m1 k1) n).2.2.2.2.1) ((mR (shp m1 k1) n).2.2.2.2.2) (mLo (shp m1 k1) n) rx_65 cr ap nu ha ((mR (shp m1 k1) n).1) n (by first | assumption | omega | decide) ((shp_2 m1 k1).trans hc1)) mfX6_nextShaved gX6_shaves_X6_nextShaved rfl (Nat.le_of_ble_eq_true rfl) (Nat.le_of_ble_eq_true rfl) (Nat.le_of_ble_eq_true rfl) (Nat.le_of_ble_eq_true rfl) [0, 1, 2, 3, 4, 5, 6] rfl rfl 0 rfl rfl rfl rfl (Nat.le_of_ble_eq_true rfl) dX6_shaves_69 ?_
          rintro _ _ ⟨rfl, rfl⟩
          refine ⟨rfl, ?_⟩
          refine j_w (w' := (wMo D h (shp m1 k1) sp sv sc tx tl cd sx_65 (nI (mR (shp m1 k1) n).2.1) (bI (mR (shp m1 k1) n).1) ((mR (shp m1 k1) n).2.2.2.1) ((mR (shp m1 k1) n).2.2.2.2.1) ((mR (shp m1 k1) n).2.2.2.2.2) (mLo (shp m1 k1) n) rx_65 cr ap nu ha)) rfl ?_
          refine j_istore_n C dX6_shaves_72 rfl (by decide) (lv' := [(2, .int (mNs (shp m1 k1) n)), (1, .int (s1 + (1 : Int32))), (0, .ref (h 0))]) rfl ?_
          refine j_goto C dX6_shaves_73 (tgt := 11) (by decide) ?_
          refine j_sub [0, 1, 2] (lv' := [(2, .int (mNs (shp m1 k1) n)), (1, .int (s1 + (1 : Int32))), (0, .ref (h 0))]) rfl ?_
          exact ih (shp m1 k1) (s1 + 1) _ _ (shp_val hV1 hk1 h30n) ((shp_2 m1 k1).trans hc1) (by omega) (hs1 (by omega)) (by rw [← hres, shv_s hgo, hkk, nI_clamp (by omega)])
  refine j_sub [0, 1, 2] (lv' := [(2, .int (mNs m n)), (1, .int (0 : Int32)), (0, .ref (h 0))]) rfl ?_
  exact key 100 m 0 _ _ hV hc (by omega) rfl hRf
