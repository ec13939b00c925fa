set_option maxRecDepth 100000 in
set_option maxHeartbeats 4000000 in
theorem ctX6_canPull (l : Launch) (D : KD) (h : Nat → Nat) (m sp sv : Nat → Int32) (sc : Int32) (tx : Nat → Int32) (tl cd se ro st : Int32) (qa qb qd : Int64) (lo : Nat → Int32) (re : Nat → Int64) (cr ap nu : Int32) (ha : Int64) (n : Nat) (hn : n ≤ 16) (hc : m 2 = nI n) (i : Nat) (hi : i < n) (hV1 : mVal (mSt m i 1) n) (hc0 : m (3 + 6 * i + 4) = 0) : MI l D yX6_canPull wsX6_canPull 4 91 0 0 [.ref (h 0), .int (nI i)] (wMo D h m sp sv sc tx tl cd se ro st qa qb qd lo re cr ap nu ha) (fun r w1 => ∃ (se1 : Int32) (re1 : Nat → Int64), r = bI (cpl m n i) ∧ w1 = wMo D h m sp sv sc tx tl cd se1 (nI (mR (mSt m i 1) n).2.1) (bI (mR (mSt m i 1) n).1) ((mR (mSt m i 1) n).2.2.2.1) ((mR (mSt m i 1) n).2.2.2.2.1) ((mR (mSt m i 1) n).2.2.2.2.2) (mLo (mSt m i 1) n) re1 cr ap nu ha) := by
  refine MI.ofz (cc := cX6_canPull) (nL := 2) (lv0 := [(0, .ref (h 0)), (1, .int (nI i))]) (by decide +kernel) rfl (Nat.le_of_ble_eq_true rfl) rfl ?_
  intro X hXl hin C ret
  subst hXl
  refine j_aload_n C 0 dX6_canPull_0 rfl rfl ?_
  refine j_iload_n C 1 dX6_canPull_1 rfl rfl ?_
  refine j_iconst C (v := (4 : Int32)) dX6_canPull_2 rfl ?_
  refine j_cv_i C (As := [.int (nI i), .int (4 : Int32)]) (rest := []) (ctX6_of (xl X) D h m sp sv sc tx tl cd se ro st qa qb qd lo re cr ap nu ha i 4 (by first | assumption | omega | decide)) mfX6_of gX6_canPull_X6_of rfl (Nat.le_of_ble_eq_true rfl) (Nat.le_of_ble_eq_true rfl) (Nat.le_of_ble_eq_true rfl) (Nat.le_of_ble_eq_true rfl) [0, 1, 2, 3, 4, 5, 6] rfl rfl 0 rfl rfl rfl rfl (Nat.le_of_ble_eq_true rfl) dX6_canPull_3 ?_
  rintro _ _ ⟨rfl, rfl⟩
  refine ⟨rfl, ?_⟩
  refine j_w (w' := (wMo D h m sp sv sc tx tl cd se ro st qa qb qd lo re cr ap nu ha)) rfl ?_
  refine j_if_eq C dX6_canPull_6 (tgt := 11) (by decide) (fun _ => ?_) (fun h => absurd hc0 h)
  refine j_aload_n C 0 dX6_canPull_11 rfl rfl ?_
  refine j_iload_n C 1 dX6_canPull_12 rfl rfl ?_
  refine j_iconst C (v := (4 : Int32)) dX6_canPull_13 rfl ?_
  refine j_iconst C (v := (1 : Int32)) dX6_canPull_14 rfl ?_
  refine j_cv_v C (As := [.int (nI i), .int (4 : Int32), .int (1 : Int32)]) (rest := []) (ctX6_lay (xl X) D h m sp sv sc tx tl cd se ro st qa qb qd lo re cr ap nu ha i 4 (1 : Int32) (by first | assumption | omega | decide)) mfX6_lay gX6_canPull_X6_lay rfl (Nat.le_of_ble_eq_true rfl) (Nat.le_of_ble_eq_true rfl) (Nat.le_of_ble_eq_true rfl) (Nat.le_of_ble_eq_true rfl) [0, 1, 2, 3, 4, 5, 6] rfl rfl 0 rfl rfl rfl rfl (Nat.le_of_ble_eq_true rfl) dX6_canPull_15 ?_
  rintro _ rfl
  refine ⟨rfl, ?_⟩
  refine j_w (w' := (wMo D h (upd m (3 + 6 * i + 4) (1 : Int32)) sp sv sc tx tl cd se ro st qa qb qd lo re cr ap nu ha)) rfl ?_
  show J D X (wMo D h (mSt m i 1) sp sv sc tx tl cd se ro st qa qb qd lo re cr ap nu ha) 0 0 _ _ _
  refine j_aload_n C 0 dX6_canPull_18 rfl rfl ?_
  refine j_cv_v C (As := []) (rest := []) (ctX6_settle (xl X) D h (mSt m i 1) sp sv sc tx tl cd se ro st qa qb qd lo re cr ap nu ha n (by first | assumption | omega | decide) ((mSt_2 m i 1).trans hc) hV1) mfX6_settle gX6_canPull_X6_settle rfl (Nat.le_of_ble_eq_true rfl) (Nat.le_of_ble_eq_true rfl) (Nat.le_of_ble_eq_true rfl) (Nat.le_of_ble_eq_true rfl) [0, 1, 2, 3, 4, 5, 6] rfl rfl 0 rfl rfl rfl rfl (Nat.le_of_ble_eq_true rfl) dX6_canPull_19 ?_
  rintro _ ⟨sx_19, rx_19, hsx_19, rfl⟩
  refine ⟨rfl, ?_⟩
  refine j_w (w' := (wMo D h (mSt m i 1) sp sv sc tx tl cd sx_19 (nI (mR (mSt m i 1) n).2.1) (bI (mR (mSt m i 1) n).1) ((mR (mSt m i 1) n).2.2.2.1) ((mR (mSt m i 1) n).2.2.2.2.1) ((mR (mSt m i 1) n).2.2.2.2.2) (mLo (mSt m i 1) n) rx_19 cr ap nu ha)) rfl ?_
  refine j_aload_n C 0 dX6_canPull_22 rfl rfl ?_
  refine j_iload_n C 1 dX6_canPull_23 rfl rfl ?_
  refine j_iconst C (v := (4 : Int32)) dX6_canPull_24 rfl ?_
  refine j_iconst C (v := (0 : Int32)) dX6_canPull_25 rfl ?_
  refine j_cv_v C (As := [.int (nI i), .int (4 : Int32), .int (0 : Int32)]) (rest := []) (ctX6_lay (xl X) D h (mSt m i 1) sp sv sc tx tl cd sx_19 (nI (mR (mSt m i 1) n).2.1) (bI (mR (mSt m i 1) n).1) ((mR (mSt m i 1) n).2.2.2.1) ((mR (mSt m i 1) n).2.2.2.2.1) ((mR (mSt m i 1) n).2.2.2.2.2) (mLo (mSt m i 1) n) rx_19 cr ap nu ha i 4 (0 : Int32) (by first | assumption | omega | decide)) mfX6_lay gX6_canPull_X6_lay rfl (Nat.le_of_ble_eq_true rfl) (Nat.le_of_ble_eq_true rfl) (Nat.le_of_ble_eq_true rfl) (Nat.le_of_ble_eq_true rfl) [0, 1, 2, 3, 4, 5, 6] rfl rfl 0 rfl rfl rfl rfl (Nat.le_of_ble_eq_true rfl) dX6_canPull_26 ?_
  rintro _ rfl
  refine ⟨rfl, ?_⟩
  refine j_w (w' := (wMo D h (upd (mSt m i 1) (3 + 6 * i + 4) (0 : Int32)) sp sv sc tx tl cd sx_19 (nI (mR (mSt m i 1) n).2.1) (bI (mR (mSt m i 1) n).1) ((mR (mSt m i 1) n).2.2.2.1) ((mR (mSt m i 1) n).2.2.2.2.1) ((mR (mSt m i 1) n).2.2.2.2.2) (mLo (mSt m i 1) n) rx_19 cr ap nu ha)) rfl ?_
  rw [show upd (mSt m i 1) (3 + 6 * i + 4) (0 : Int32) = m from upd_back hc0]
  refine j_aload_n C 0 dX6_canPull_29 rfl rfl ?_
  refine j_get C 0 fgX6_canPull_78 rfl rfl dX6_canPull_30 ?_
  refine j_bif_eq C dX6_canPull_33 (tgt := 47) (by decide) (fun h33 => ?_) (fun h33 => ?_)
  · refine j_iconst C (v := (0 : Int32)) dX6_canPull_47 rfl ?_
    exact ret dX6_canPull_48 (Or.inl rfl) (⟨_, _, by simp [bI, cpl, h33], rfl⟩)
  · refine j_aload_n C 0 dX6_canPull_36 rfl rfl ?_
    refine j_cv_i C (As := []) (rest := []) (ctX6_overloaded (xl X) D h m sp sv sc tx tl cd sx_19 (nI (mR (mSt m i 1) n).2.1) ((mR (mSt m i 1) n).2.2.2.1) ((mR (mSt m i 1) n).2.2.2.2.1) ((mR (mSt m i 1) n).2.2.2.2.2) (mLo (mSt m i 1) n) rx_19 cr ap nu ha ((mR (mSt m i 1) n).1) n (by first | assumption | omega | decide) (by first | assumption | omega | decide)) mfX6_overloaded gX6_canPull_X6_overloaded rfl (Nat.le_of_ble_eq_true rfl) (Nat.le_of_ble_eq_true rfl) (Nat.le_of_ble_eq_true rfl) (Nat.le_of_ble_eq_true rfl) [0, 1, 2, 3, 4, 5, 6] rfl rfl 0 rfl rfl rfl rfl (Nat.le_of_ble_eq_true rfl) dX6_canPull_37 ?_
    rintro _ _ ⟨rfl, rfl⟩
    refine ⟨rfl, ?_⟩
    refine j_w (w' := (wMo D h m sp sv sc tx tl cd sx_19 (nI (mR (mSt m i 1) n).2.1) (bI (mR (mSt m i 1) n).1) ((mR (mSt m i 1) n).2.2.2.1) ((mR (mSt m i 1) n).2.2.2.2.1) ((mR (mSt m i 1) n).2.2.2.2.2) (mLo (mSt m i 1) n) rx_19 cr ap nu ha)) rfl ?_
    refine j_if_ne C dX6_canPull_40 (tgt := 47) (by decide) (fun h40 => ?_) (fun h40 => ?_)
    · refine j_iconst C (v := (0 : Int32)) dX6_canPull_47 rfl ?_
      exact ret dX6_canPull_48 (Or.inl rfl) (⟨_, _, by rw [h33] at h40; simp [bI, cpl, mOv, h33, mSt_L, h40], rfl⟩)
    · refine j_iconst C (v := (1 : Int32)) dX6_canPull_43 rfl ?_
      refine j_goto C dX6_canPull_44 (tgt := 48) (by decide) ?_
      exact ret dX6_canPull_48 (Or.inr rfl) (⟨_, _, by rw [h33] at h40; simp [bI, cpl, mOv, h33, mSt_L, h40], rfl⟩)
