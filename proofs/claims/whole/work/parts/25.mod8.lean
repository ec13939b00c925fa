set_option maxRecDepth 100000 in
set_option maxHeartbeats 4000000 in
theorem ctX6_tilt (l : Launch) (D : KD) (h : Nat → Nat) (m sp sv : Nat → Int32) (tx : Nat → Int32) (tl cd se ro st : Int32) (qa qb qd : Int64) (lo : Nat → Int32) (re : Nat → Int64) (cr ap nu : Int32) (ha : Int64) (s : Nat) (hs : s ≤ 4) (n : Nat) (hn : n ≤ 16) (hc : m 2 = nI n) (hV : mVal m n) : MD l D yX6_tilt wsX6_tilt 4 91 0 0 [.ref (h 0)] (wMo D h m sp sv (nI s) tx tl cd se ro st qa qb qd lo re cr ap nu ha) (fun r w1 => r = mTi m n ∧ mW D h m sv (nI s) tx tl 0 w1) := by
  refine MD.of (cc := cX6_tilt) (nL := 1) (lv0 := [(0, .ref (h 0))]) (by decide +kernel) rfl (Nat.le_of_ble_eq_true rfl) rfl ?_
  intro X hXl hin C ret
  subst hXl
  refine j_aload_n C 0 dX6_tilt_0 rfl rfl ?_
  refine j_iconst C (v := (0 : Int32)) dX6_tilt_1 rfl ?_
  refine j_put C 0 foX6_tilt_29 rfl (w' := (wMo D h m sp sv (nI s) tx tl (0 : Int32) se ro st qa qb qd lo re cr ap nu ha)) rfl rfl rfl (Nat.le_of_ble_eq_true rfl) dX6_tilt_2 ?_
  refine j_aload_n C 0 dX6_tilt_5 rfl rfl ?_
  refine j_cv_v C (As := []) (rest := []) (ctX6_settle (xl X) D h m sp sv (nI s) tx tl (0 : Int32) se ro st qa qb qd lo re cr ap nu ha n (by first | assumption | omega | decide) (by first | assumption | omega | decide) (by first | assumption | omega | decide)) mfX6_settle gX6_tilt_X6_settle rfl (Nat.le_of_ble_eq_true rfl) (Nat.le_of_ble_eq_true rfl) (Nat.le_of_ble_eq_true rfl) (Nat.le_of_ble_eq_true rfl) [0, 1, 2, 3, 4, 5, 6] rfl rfl 0 rfl rfl rfl rfl (Nat.le_of_ble_eq_true rfl) dX6_tilt_6 ?_
  rintro _ ⟨sx_6, rx_6, hsx_6, rfl⟩
  refine ⟨rfl, ?_⟩
  refine j_w (w' := (wMo D h m sp sv (nI s) tx tl (0 : Int32) sx_6 (nI (mR m n).2.1) (bI (mR m n).1) ((mR m n).2.2.2.1) ((mR m n).2.2.2.2.1) ((mR m n).2.2.2.2.2) (mLo m n) rx_6 cr ap nu ha)) rfl ?_
  refine j_aload_n C 0 dX6_tilt_9 rfl rfl ?_
  refine j_get C 0 fgX6_tilt_78 rfl rfl dX6_tilt_10 ?_
  refine j_bif_eq C dX6_tilt_13 (tgt := 30) (by decide) (fun h13 => ?_) (fun h13 => ?_)
  · refine j_dconst0 C dX6_tilt_30 ?_
    exact ret dX6_tilt_31 (⟨by simp [mTi, h13], ⟨_, _, _, _, _, _, _, _, _, _, _, _, _, rfl⟩⟩)
  · refine j_aload_n C 0 dX6_tilt_16 rfl rfl ?_
    refine j_get C 0 fgX6_tilt_62 rfl rfl dX6_tilt_17 ?_
    refine j_l2d C dX6_tilt_20 ?_
    refine j_aload_n C 0 dX6_tilt_21 rfl rfl ?_
    refine j_get C 0 fgX6_tilt_55 rfl rfl dX6_tilt_22 ?_
    refine j_l2d C dX6_tilt_25 ?_
    refine j_ddiv C dX6_tilt_26 (fp_div (mTi_d (by assumption))) ?_
    refine j_goto C dX6_tilt_27 (tgt := 31) (by decide) ?_
    exact ret dX6_tilt_31 (⟨by simp [mTi, h13], ⟨_, _, _, _, _, _, _, _, _, _, _, _, _, rfl⟩⟩)
