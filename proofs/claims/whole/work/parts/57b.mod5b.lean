
set_option maxRecDepth 100000 in
set_option maxHeartbeats 4000000 in
theorem ctX6_pullX (l : Launch) (D : KD) (h : Nat → Nat) (m sp sv : Nat → Int32) (tx : Nat → Int32) (tl cd se ro st : Int32) (qa qb qd : Int64) (lo : Nat → Int32) (re : Nat → Int64) (cr ap nu : Int32) (ha : Int64) (s : Nat) (hs : s ≤ 4) (x : Int32) (hx : pIn x 0 (m 2 - 1) = false) : MI l D yX6_pull wsX6_pull 2 43 0 0 [.ref (h 0), .int x] (wMo D h m sp sv (nI s) tx tl cd se ro st qa qb qd lo re cr ap nu ha) (fun r w1 => r = 0 ∧ mW D h m sv (nI s) tx tl 1 w1) := by
  refine MI.of (cc := cX6_pull) (nL := 3) (lv0 := [(0, .ref (h 0)), (1, .int x)]) (by decide +kernel) rfl (Nat.le_of_ble_eq_true rfl) rfl ?_
  intro X hXl hin C ret
  subst hXl
  refine j_aload_n C 0 dX6_pull_0 rfl rfl ?_
  refine j_aload_n C 0 dX6_pull_1 rfl rfl ?_
  refine j_iload_n C 1 dX6_pull_2 rfl rfl ?_
  refine j_cv_i C (As := [.int x]) (rest := [.ref (h 0)]) (ctX6_isBlock (xl X) D h m sp sv (nI s) tx tl cd se ro st qa qb qd lo re cr ap nu ha x) mfX6_isBlock gX6_pull_X6_isBlock rfl (Nat.le_of_ble_eq_true rfl) (Nat.le_of_ble_eq_true rfl) (Nat.le_of_ble_eq_true rfl) (Nat.le_of_ble_eq_true rfl) [0, 1, 2, 3, 4, 5, 6] rfl rfl 0 rfl rfl rfl rfl (Nat.le_of_ble_eq_true rfl) dX6_pull_3 ?_
  rintro _ _ ⟨rfl, rfl⟩
  refine ⟨rfl, ?_⟩
  refine j_w (w' := (wMo D h m sp sv (nI s) tx tl cd se ro st qa qb qd lo re cr ap nu ha)) rfl ?_
  refine j_bif_ne C dX6_pull_6 (tgt := 13) (by decide) (fun h => (by rw [hx] at h; cases h)) (fun _ => ?_)
  refine j_iconst C (v := (1 : Int32)) dX6_pull_9 rfl ?_
  refine j_goto C dX6_pull_10 (tgt := 26) (by decide) ?_
  refine j_put C 0 foX6_pull_29 rfl (w' := (wMo D h m sp sv (nI s) tx tl (1 : Int32) se ro st qa qb qd lo re cr ap nu ha)) rfl rfl rfl (Nat.le_of_ble_eq_true rfl) dX6_pull_26 ?_
  refine j_aload_n C 0 dX6_pull_29 rfl rfl ?_
  refine j_get C 0 fgX6_pull_29 rfl rfl dX6_pull_30 ?_
  refine j_if_eq C dX6_pull_33 (tgt := 38) (by decide) (fun h => absurd h (by decide)) (fun _ => ?_)
  refine j_iconst C (v := (0 : Int32)) dX6_pull_36 rfl ?_
  exact ret dX6_pull_37 (⟨rfl, ⟨_, _, _, _, _, _, _, _, _, _, _, _, _, rfl⟩⟩)

set_option maxRecDepth 100000 in
set_option maxHeartbeats 4000000 in
theorem ctX6_pullN (l : Launch) (D : KD) (h : Nat → Nat) (m sp sv : Nat → Int32) (tx : Nat → Int32) (tl cd se ro st : Int32) (qa qb qd : Int64) (lo : Nat → Int32) (re : Nat → Int64) (cr ap nu : Int32) (ha : Int64) (s : Nat) (hs : s ≤ 4) (n : Nat) (hn : n ≤ 16) (hc : m 2 = nI n) (hV : mVal m n) (i : Nat) (hi : i < n) (hc0 : ¬ m (3 + 6 * i + 4) = 0) : MI l D yX6_pull wsX6_pull 2 43 0 0 [.ref (h 0), .int (nI i)] (wMo D h m sp sv (nI s) tx tl cd se ro st qa qb qd lo re cr ap nu ha) (fun r w1 => r = 0 ∧ mW D h m sv (nI s) tx tl 2 w1) := by
  refine MI.of (cc := cX6_pull) (nL := 3) (lv0 := [(0, .ref (h 0)), (1, .int (nI i))]) (by decide +kernel) rfl (Nat.le_of_ble_eq_true rfl) rfl ?_
  intro X hXl hin C ret
  subst hXl
  have hx : pIn (nI i) 0 (m 2 - 1) = true := pIn_blk hc hn hi
  refine j_aload_n C 0 dX6_pull_0 rfl rfl ?_
  refine j_aload_n C 0 dX6_pull_1 rfl rfl ?_
  refine j_iload_n C 1 dX6_pull_2 rfl rfl ?_
  refine j_cv_i C (As := [.int (nI i)]) (rest := [.ref (h 0)]) (ctX6_isBlock (xl X) D h m sp sv (nI s) tx tl cd se ro st qa qb qd lo re cr ap nu ha (nI i)) mfX6_isBlock gX6_pull_X6_isBlock rfl (Nat.le_of_ble_eq_true rfl) (Nat.le_of_ble_eq_true rfl) (Nat.le_of_ble_eq_true rfl) (Nat.le_of_ble_eq_true rfl) [0, 1, 2, 3, 4, 5, 6] rfl rfl 0 rfl rfl rfl rfl (Nat.le_of_ble_eq_true rfl) dX6_pull_3 ?_
  rintro _ _ ⟨rfl, rfl⟩
  refine ⟨rfl, ?_⟩
  refine j_w (w' := (wMo D h m sp sv (nI s) tx tl cd se ro st qa qb qd lo re cr ap nu ha)) rfl ?_
  refine j_bif_ne C dX6_pull_6 (tgt := 13) (by decide) (fun _ => ?_) (fun h => (by rw [hx] at h; cases h))
  refine j_aload_n C 0 dX6_pull_13 rfl rfl ?_
  refine j_iload_n C 1 dX6_pull_14 rfl rfl ?_
  refine j_cv_i C (As := [.int (nI i)]) (rest := [.ref (h 0)]) (ctX6_canPullN (xl X) D h m sp sv (nI s) tx tl cd se ro st qa qb qd lo re cr ap nu ha i (by first | assumption | omega | decide) (by first | assumption | omega | decide)) mfX6_canPull gX6_pull_X6_canPull rfl (Nat.le_of_ble_eq_true rfl) (Nat.le_of_ble_eq_true rfl) (Nat.le_of_ble_eq_true rfl) (Nat.le_of_ble_eq_true rfl) [0, 1, 2, 3, 4, 5, 6] rfl rfl 0 rfl rfl rfl rfl (Nat.le_of_ble_eq_true rfl) dX6_pull_15 ?_
  rintro _ _ ⟨rfl, rfl⟩
  refine ⟨rfl, ?_⟩
  refine j_w (w' := (wMo D h m sp sv (nI s) tx tl cd se ro st qa qb qd lo re cr ap nu ha)) rfl ?_
  refine j_bif_eq C dX6_pull_18 (tgt := 25) (by decide) (fun _ => ?_) (fun h => (by simp at h))
  refine j_iconst C (v := (2 : Int32)) dX6_pull_25 rfl ?_
  refine j_put C 0 foX6_pull_29 rfl (w' := (wMo D h m sp sv (nI s) tx tl (2 : Int32) se ro st qa qb qd lo re cr ap nu ha)) rfl rfl rfl (Nat.le_of_ble_eq_true rfl) dX6_pull_26 ?_
  refine j_aload_n C 0 dX6_pull_29 rfl rfl ?_
  refine j_get C 0 fgX6_pull_29 rfl rfl dX6_pull_30 ?_
  refine j_if_eq C dX6_pull_33 (tgt := 38) (by decide) (fun h => absurd h (by decide)) (fun _ => ?_)
  refine j_iconst C (v := (0 : Int32)) dX6_pull_36 rfl ?_
  exact ret dX6_pull_37 (⟨rfl, ⟨_, _, _, _, _, _, _, _, _, _, _, _, _, rfl⟩⟩)

set_option maxRecDepth 100000 in
set_option maxHeartbeats 4000000 in
theorem ctX6_pullF (l : Launch) (D : KD) (h : Nat → Nat) (m sp sv : Nat → Int32) (tx : Nat → Int32) (tl cd se ro st : Int32) (qa qb qd : Int64) (lo : Nat → Int32) (re : Nat → Int64) (cr ap nu : Int32) (ha : Int64) (s : Nat) (hs : s ≤ 4) (n : Nat) (hn : n ≤ 16) (hc : m 2 = nI n) (hV : mVal m n) (i : Nat) (hi : i < n) (hc0 : m (3 + 6 * i + 4) = 0) (hp : cpl m n i = false) : MI l D yX6_pull wsX6_pull 5 112 0 0 [.ref (h 0), .int (nI i)] (wMo D h m sp sv (nI s) tx tl cd se ro st qa qb qd lo re cr ap nu ha) (fun r w1 => r = 0 ∧ mW D h m sv (nI s) tx tl 2 w1) := by
  refine MI.of (cc := cX6_pull) (nL := 3) (lv0 := [(0, .ref (h 0)), (1, .int (nI i))]) (by decide +kernel) rfl (Nat.le_of_ble_eq_true rfl) rfl ?_
  intro X hXl hin C ret
  subst hXl
  have hx : pIn (nI i) 0 (m 2 - 1) = true := pIn_blk hc hn hi
  refine j_aload_n C 0 dX6_pull_0 rfl rfl ?_
  refine j_aload_n C 0 dX6_pull_1 rfl rfl ?_
  refine j_iload_n C 1 dX6_pull_2 rfl rfl ?_
  refine j_cv_i C (As := [.int (nI i)]) (rest := [.ref (h 0)]) (ctX6_isBlock (xl X) D h m sp sv (nI s) tx tl cd se ro st qa qb qd lo re cr ap nu ha (nI i)) mfX6_isBlock gX6_pull_X6_isBlock rfl (Nat.le_of_ble_eq_true rfl) (Nat.le_of_ble_eq_true rfl) (Nat.le_of_ble_eq_true rfl) (Nat.le_of_ble_eq_true rfl) [0, 1, 2, 3, 4, 5, 6] rfl rfl 0 rfl rfl rfl rfl (Nat.le_of_ble_eq_true rfl) dX6_pull_3 ?_
  rintro _ _ ⟨rfl, rfl⟩
  refine ⟨rfl, ?_⟩
  refine j_w (w' := (wMo D h m sp sv (nI s) tx tl cd se ro st qa qb qd lo re cr ap nu ha)) rfl ?_
  refine j_bif_ne C dX6_pull_6 (tgt := 13) (by decide) (fun _ => ?_) (fun h => (by rw [hx] at h; cases h))
  refine j_aload_n C 0 dX6_pull_13 rfl rfl ?_
  refine j_iload_n C 1 dX6_pull_14 rfl rfl ?_
  refine j_cv_i C (As := [.int (nI i)]) (rest := [.ref (h 0)]) (ctX6_canPull (xl X) D h m sp sv (nI s) tx tl cd se ro st qa qb qd lo re cr ap nu ha n (by first | assumption | omega | decide) (by first | assumption | omega | decide) i (by first | assumption | omega | decide) (mSt_val hV (Or.inr (Or.inl rfl))) (by first | assumption | omega | decide)) mfX6_canPull gX6_pull_X6_canPull rfl (Nat.le_of_ble_eq_true rfl) (Nat.le_of_ble_eq_true rfl) (Nat.le_of_ble_eq_true rfl) (Nat.le_of_ble_eq_true rfl) [0, 1, 2, 3, 4, 5, 6] rfl rfl 0 rfl rfl rfl rfl (Nat.le_of_ble_eq_true rfl) dX6_pull_15 ?_
  rintro r_15 _ ⟨sx_15, rx_15, rfl, rfl⟩
  refine ⟨rfl, ?_⟩
  refine j_w (w' := (wMo D h m sp sv (nI s) tx tl cd sx_15 (nI (mR (mSt m i 1) n).2.1) (bI (mR (mSt m i 1) n).1) ((mR (mSt m i 1) n).2.2.2.1) ((mR (mSt m i 1) n).2.2.2.2.1) ((mR (mSt m i 1) n).2.2.2.2.2) (mLo (mSt m i 1) n) rx_15 cr ap nu ha)) rfl ?_
  refine j_bif_eq C dX6_pull_18 (tgt := 25) (by decide) (fun _ => ?_) (fun h => (by rw [hp] at h; cases h))
  refine j_iconst C (v := (2 : Int32)) dX6_pull_25 rfl ?_
  refine j_put C 0 foX6_pull_29 rfl (w' := (wMo D h m sp sv (nI s) tx tl (2 : Int32) sx_15 (nI (mR (mSt m i 1) n).2.1) (bI (mR (mSt m i 1) n).1) ((mR (mSt m i 1) n).2.2.2.1) ((mR (mSt m i 1) n).2.2.2.2.1) ((mR (mSt m i 1) n).2.2.2.2.2) (mLo (mSt m i 1) n) rx_15 cr ap nu ha)) rfl rfl rfl (Nat.le_of_ble_eq_true rfl) dX6_pull_26 ?_
  refine j_aload_n C 0 dX6_pull_29 rfl rfl ?_
  refine j_get C 0 fgX6_pull_29 rfl rfl dX6_pull_30 ?_
  refine j_if_eq C dX6_pull_33 (tgt := 38) (by decide) (fun h => absurd h (by decide)) (fun _ => ?_)
  refine j_iconst C (v := (0 : Int32)) dX6_pull_36 rfl ?_
  exact ret dX6_pull_37 (⟨rfl, ⟨_, _, _, _, _, _, _, _, _, _, _, _, _, rfl⟩⟩)

set_option maxRecDepth 100000 in
set_option maxHeartbeats 4000000 in
theorem ctX6_pull (l : Launch) (D : KD) (h : Nat → Nat) (m sp sv : Nat → Int32) (tx : Nat → Int32) (tl cd se ro st : Int32) (qa qb qd : Int64) (lo : Nat → Int32) (re : Nat → Int64) (cr ap nu : Int32) (ha : Int64) (s : Nat) (hs : s ≤ 4) (n : Nat) (hn : n ≤ 16) (hc : m 2 = nI n) (hV : mVal m n) (i : Nat) (hi : i < n) (hc0 : m (3 + 6 * i + 4) = 0) (hp : cpl m n i = true) : MI l D yX6_pull wsX6_pull 5 112 0 0 [.ref (h 0), .int (nI i)] (wMo D h m sp sv (nI s) tx tl cd se ro st qa qb qd lo re cr ap nu ha) (fun r w1 => r = mGr (mSt m i 1) n ∧ mW D h (mSt m i 1) (kSv sv s m) (nI (min (s + 1) 4)) tx tl 0 w1) := by
  refine MI.of (cc := cX6_pull) (nL := 3) (lv0 := [(0, .ref (h 0)), (1, .int (nI i))]) (by decide +kernel) rfl (Nat.le_of_ble_eq_true rfl) rfl ?_
  intro X hXl hin C ret
  subst hXl
  have hx : pIn (nI i) 0 (m 2 - 1) = true := pIn_blk hc hn hi
  refine j_aload_n C 0 dX6_pull_0 rfl rfl ?_
  refine j_aload_n C 0 dX6_pull_1 rfl rfl ?_
  refine j_iload_n C 1 dX6_pull_2 rfl rfl ?_
  refine j_cv_i C (As := [.int (nI i)]) (rest := [.ref (h 0)]) (ctX6_isBlock (xl X) D h m sp sv (nI s) tx tl cd se ro st qa qb qd lo re cr ap nu ha (nI i)) mfX6_isBlock gX6_pull_X6_isBlock rfl (Nat.le_of_ble_eq_true rfl) (Nat.le_of_ble_eq_true rfl) (Nat.le_of_ble_eq_true rfl) (Nat.le_of_ble_eq_true rfl) [0, 1, 2, 3, 4, 5, 6] rfl rfl 0 rfl rfl rfl rfl (Nat.le_of_ble_eq_true rfl) dX6_pull_3 ?_
  rintro _ _ ⟨rfl, rfl⟩
  refine ⟨rfl, ?_⟩
  refine j_w (w' := (wMo D h m sp sv (nI s) tx tl cd se ro st qa qb qd lo re cr ap nu ha)) rfl ?_
  refine j_bif_ne C dX6_pull_6 (tgt := 13) (by decide) (fun _ => ?_) (fun h => (by rw [hx] at h; cases h))
  refine j_aload_n C 0 dX6_pull_13 rfl rfl ?_
  refine j_iload_n C 1 dX6_pull_14 rfl rfl ?_
  refine j_cv_i C (As := [.int (nI i)]) (rest := [.ref (h 0)]) (ctX6_canPull (xl X) D h m sp sv (nI s) tx tl cd se ro st qa qb qd lo re cr ap nu ha n (by first | assumption | omega | decide) (by first | assumption | omega | decide) i (by first | assumption | omega | decide) (mSt_val hV (Or.inr (Or.inl rfl))) (by first | assumption | omega | decide)) mfX6_canPull gX6_pull_X6_canPull rfl (Nat.le_of_ble_eq_true rfl) (Nat.le_of_ble_eq_true rfl) (Nat.le_of_ble_eq_true rfl) (Nat.le_of_ble_eq_true rfl) [0, 1, 2, 3, 4, 5, 6] rfl rfl 0 rfl rfl rfl rfl (Nat.le_of_ble_eq_true rfl) dX6_pull_15 ?_
  rintro r_15 _ ⟨sx_15, rx_15, rfl, rfl⟩
  refine ⟨rfl, ?_⟩
  refine j_w (w' := (wMo D h m sp sv (nI s) tx tl cd sx_15 (nI (mR (mSt m i 1) n).2.1) (bI (mR (mSt m i 1) n).1) ((mR (mSt m i 1) n).2.2.2.1) ((mR (mSt m i 1) n).2.2.2.2.1) ((mR (mSt m i 1) n).2.2.2.2.2) (mLo (mSt m i 1) n) rx_15 cr ap nu ha)) rfl ?_
  refine j_bif_eq C dX6_pull_18 (tgt := 25) (by decide) (fun h => (by rw [hp] at h; cases h)) (fun _ => ?_)
  refine j_iconst C (v := (0 : Int32)) dX6_pull_21 rfl ?_
  refine j_goto C dX6_pull_22 (tgt := 26) (by decide) ?_
  refine j_put C 0 foX6_pull_29 rfl (w' := (wMo D h m sp sv (nI s) tx tl (0 : Int32) sx_15 (nI (mR (mSt m i 1) n).2.1) (bI (mR (mSt m i 1) n).1) ((mR (mSt m i 1) n).2.2.2.1) ((mR (mSt m i 1) n).2.2.2.2.1) ((mR (mSt m i 1) n).2.2.2.2.2) (mLo (mSt m i 1) n) rx_15 cr ap nu ha)) rfl rfl rfl (Nat.le_of_ble_eq_true rfl) dX6_pull_26 ?_
  refine j_aload_n C 0 dX6_pull_29 rfl rfl ?_
  refine j_get C 0 fgX6_pull_29 rfl rfl dX6_pull_30 ?_
  refine j_if_eq C dX6_pull_33 (tgt := 38) (by decide) (fun _ => ?_) (fun h => absurd (by decide) h)
  refine j_aload_n C 0 dX6_pull_38 rfl rfl ?_
  refine j_iload_n C 1 dX6_pull_39 rfl rfl ?_
  refine j_iconst C (v := (4 : Int32)) dX6_pull_40 rfl ?_
  refine j_iconst C (v := (1 : Int32)) dX6_pull_41 rfl ?_
  refine j_cv_i C (As := [.int (nI i), .int (4 : Int32), .int (1 : Int32)]) (rest := []) (ctX6_change (xl X) D h m sp sv tx tl (0 : Int32) sx_15 (nI (mR (mSt m i 1) n).2.1) (bI (mR (mSt m i 1) n).1) ((mR (mSt m i 1) n).2.2.2.1) ((mR (mSt m i 1) n).2.2.2.2.1) ((mR (mSt m i 1) n).2.2.2.2.2) (mLo (mSt m i 1) n) rx_15 cr ap nu ha s (by first | assumption | omega | decide) i 4 (1 : Int32) (by first | assumption | omega | decide)) mfX6_change gX6_pull_X6_change rfl (Nat.le_of_ble_eq_true rfl) (Nat.le_of_ble_eq_true rfl) (Nat.le_of_ble_eq_true rfl) (Nat.le_of_ble_eq_true rfl) [0, 1, 2, 3, 4, 5, 6] rfl rfl 0 rfl rfl rfl rfl (Nat.le_of_ble_eq_true rfl) dX6_pull_42 ?_
  rintro _ _ ⟨rfl, rfl⟩
  refine ⟨rfl, ?_⟩
  refine j_w (w' := (wMo D h (upd m (3 + 6 * i + 4) (1 : Int32)) sp (kSv sv s m) (nI (min (s + 1) 4)) tx tl (0 : Int32) sx_15 (nI (mR (mSt m i 1) n).2.1) (bI (mR (mSt m i 1) n).1) ((mR (mSt m i 1) n).2.2.2.1) ((mR (mSt m i 1) n).2.2.2.2.1) ((mR (mSt m i 1) n).2.2.2.2.2) (mLo (mSt m i 1) n) rx_15 cr ap nu ha)) rfl ?_
  refine j_istore_n C dX6_pull_45 rfl (by decide) (lv' := [(2, .int (m (3 + 6 * i + 4))), (0, .ref (h 0)), (1, .int (nI i))]) rfl ?_
  show J D X (wMo D h (mSt m i 1) sp (kSv sv s m) (nI (min (s + 1) 4)) tx tl (0 : Int32) sx_15 (nI (mR (mSt m i 1) n).2.1) (bI (mR (mSt m i 1) n).1) ((mR (mSt m i 1) n).2.2.2.1) ((mR (mSt m i 1) n).2.2.2.2.1) ((mR (mSt m i 1) n).2.2.2.2.2) (mLo (mSt m i 1) n) rx_15 cr ap nu ha) 0 0 _ _ _
  refine j_aload_n C 1 dX6_pull_46 rfl rfl ?_
  refine j_cv_i C (As := []) (rest := []) (ctX6_greatestB (xl X) D h (mSt m i 1) sp (kSv sv s m) (nI (min (s + 1) 4)) tx tl (0 : Int32) sx_15 (nI (mR (mSt m i 1) n).2.1) ((mR (mSt m i 1) n).2.2.2.1) ((mR (mSt m i 1) n).2.2.2.2.1) ((mR (mSt m i 1) n).2.2.2.2.2) (mLo (mSt m i 1) n) rx_15 cr ap nu ha ((mR (mSt m i 1) n).1) n (by first | assumption | omega | decide) ((mSt_2 m i 1).trans hc)) mfX6_greatest gX6_pull_X6_greatest rfl (Nat.le_of_ble_eq_true rfl) (Nat.le_of_ble_eq_true rfl) (Nat.le_of_ble_eq_true rfl) (Nat.le_of_ble_eq_true rfl) [0, 1, 2, 3, 4, 5, 6] rfl rfl 0 rfl rfl rfl rfl (Nat.le_of_ble_eq_true rfl) dX6_pull_47 ?_
  rintro _ _ ⟨rfl, rfl⟩
  refine ⟨rfl, ?_⟩
  refine j_w (w' := (wMo D h (mSt m i 1) sp (kSv sv s m) (nI (min (s + 1) 4)) tx tl (0 : Int32) sx_15 (nI (mR (mSt m i 1) n).2.1) (bI (mR (mSt m i 1) n).1) ((mR (mSt m i 1) n).2.2.2.1) ((mR (mSt m i 1) n).2.2.2.2.1) ((mR (mSt m i 1) n).2.2.2.2.2) (mLo (mSt m i 1) n) rx_15 cr ap nu ha)) rfl ?_
  exact ret dX6_pull_50 (⟨rfl, ⟨_, _, _, _, _, _, _, _, _, _, _, _, _, rfl⟩⟩)

set_option maxRecDepth 100000 in
set_option maxHeartbeats 4000000 in
theorem ctX6_putX (l : Launch) (D : KD) (h : Nat → Nat) (m sp sv : Nat → Int32) (tx : Nat → Int32) (tl cd se ro st : Int32) (qa qb qd : Int64) (lo : Nat → Int32) (re : Nat → Int64) (cr ap nu : Int32) (ha : Int64) (s : Nat) (hs : s ≤ 4) (x : Int32) (hx : pIn x 0 (m 2 - 1) = false) : MI l D yX6_put wsX6_put 2 43 0 0 [.ref (h 0), .int x] (wMo D h m sp sv (nI s) tx tl cd se ro st qa qb qd lo re cr ap nu ha) (fun r w1 => r = 0 ∧ mW D h m sv (nI s) tx tl 1 w1) := by
  refine MI.of (cc := cX6_put) (nL := 3) (lv0 := [(0, .ref (h 0)), (1, .int x)]) (by decide +kernel) rfl (Nat.le_of_ble_eq_true rfl) rfl ?_
  intro X hXl hin C ret
  subst hXl
  refine j_aload_n C 0 dX6_put_0 rfl rfl ?_
  refine j_aload_n C 0 dX6_put_1 rfl rfl ?_
  refine j_iload_n C 1 dX6_put_2 rfl rfl ?_
  refine j_cv_i C (As := [.int x]) (rest := [.ref (h 0)]) (ctX6_isBlock (xl X) D h m sp sv (nI s) tx tl cd se ro st qa qb qd lo re cr ap nu ha x) mfX6_isBlock gX6_put_X6_isBlock rfl (Nat.le_of_ble_eq_true rfl) (Nat.le_of_ble_eq_true rfl) (Nat.le_of_ble_eq_true rfl) (Nat.le_of_ble_eq_true rfl) [0, 1, 2, 3, 4, 5, 6] rfl rfl 0 rfl rfl rfl rfl (Nat.le_of_ble_eq_true rfl) dX6_put_3 ?_
  rintro _ _ ⟨rfl, rfl⟩
  refine ⟨rfl, ?_⟩
  refine j_w (w' := (wMo D h m sp sv (nI s) tx tl cd se ro st qa qb qd lo re cr ap nu ha)) rfl ?_
  refine j_bif_ne C dX6_put_6 (tgt := 13) (by decide) (fun h => (by rw [hx] at h; cases h)) (fun _ => ?_)
  refine j_iconst C (v := (1 : Int32)) dX6_put_9 rfl ?_
  refine j_goto C dX6_put_10 (tgt := 27) (by decide) ?_
  refine j_put C 0 foX6_put_29 rfl (w' := (wMo D h m sp sv (nI s) tx tl (1 : Int32) se ro st qa qb qd lo re cr ap nu ha)) rfl rfl rfl (Nat.le_of_ble_eq_true rfl) dX6_put_27 ?_
  refine j_aload_n C 0 dX6_put_30 rfl rfl ?_
  refine j_get C 0 fgX6_put_29 rfl rfl dX6_put_31 ?_
  refine j_if_eq C dX6_put_34 (tgt := 39) (by decide) (fun h => absurd h (by decide)) (fun _ => ?_)
  refine j_iconst C (v := (0 : Int32)) dX6_put_37 rfl ?_
  exact ret dX6_put_38 (⟨rfl, ⟨_, _, _, _, _, _, _, _, _, _, _, _, _, rfl⟩⟩)

set_option maxRecDepth 100000 in
set_option maxHeartbeats 4000000 in
theorem ctX6_putN (l : Launch) (D : KD) (h : Nat → Nat) (m sp sv : Nat → Int32) (tx : Nat → Int32) (tl cd se ro st : Int32) (qa qb qd : Int64) (lo : Nat → Int32) (re : Nat → Int64) (cr ap nu : Int32) (ha : Int64) (s : Nat) (hs : s ≤ 4) (n : Nat) (hn : n ≤ 16) (hc : m 2 = nI n) (hV : mVal m n) (i : Nat) (hi : i < n) (hc0 : m (3 + 6 * i + 4) = 0) : MI l D yX6_put wsX6_put 2 43 0 0 [.ref (h 0), .int (nI i)] (wMo D h m sp sv (nI s) tx tl cd se ro st qa qb qd lo re cr ap nu ha) (fun r w1 => r = 0 ∧ mW D h m sv (nI s) tx tl 2 w1) := by
  refine MI.of (cc := cX6_put) (nL := 3) (lv0 := [(0, .ref (h 0)), (1, .int (nI i))]) (by decide +kernel) rfl (Nat.le_of_ble_eq_true rfl) rfl ?_
  intro X hXl hin C ret
  subst hXl
  have hx : pIn (nI i) 0 (m 2 - 1) = true := pIn_blk hc hn hi
  refine j_aload_n C 0 dX6_put_0 rfl rfl ?_
  refine j_aload_n C 0 dX6_put_1 rfl rfl ?_
  refine j_iload_n C 1 dX6_put_2 rfl rfl ?_
  refine j_cv_i C (As := [.int (nI i)]) (rest := [.ref (h 0)]) (ctX6_isBlock (xl X) D h m sp sv (nI s) tx tl cd se ro st qa qb qd lo re cr ap nu ha (nI i)) mfX6_isBlock gX6_put_X6_isBlock rfl (Nat.le_of_ble_eq_true rfl) (Nat.le_of_ble_eq_true rfl) (Nat.le_of_ble_eq_true rfl) (Nat.le_of_ble_eq_true rfl) [0, 1, 2, 3, 4, 5, 6] rfl rfl 0 rfl rfl rfl rfl (Nat.le_of_ble_eq_true rfl) dX6_put_3 ?_
  rintro _ _ ⟨rfl, rfl⟩
  refine ⟨rfl, ?_⟩
  refine j_w (w' := (wMo D h m sp sv (nI s) tx tl cd se ro st qa qb qd lo re cr ap nu ha)) rfl ?_
  refine j_bif_ne C dX6_put_6 (tgt := 13) (by decide) (fun _ => ?_) (fun h => (by rw [hx] at h; cases h))
  refine j_aload_n C 0 dX6_put_13 rfl rfl ?_
  refine j_iload_n C 1 dX6_put_14 rfl rfl ?_
  refine j_iconst C (v := (4 : Int32)) dX6_put_15 rfl ?_
  refine j_cv_i C (As := [.int (nI i), .int (4 : Int32)]) (rest := [.ref (h 0)]) (ctX6_of (xl X) D h m sp sv (nI s) tx tl cd se ro st qa qb qd lo re cr ap nu ha i 4 (by first | assumption | omega | decide)) mfX6_of gX6_put_X6_of rfl (Nat.le_of_ble_eq_true rfl) (Nat.le_of_ble_eq_true rfl) (Nat.le_of_ble_eq_true rfl) (Nat.le_of_ble_eq_true rfl) [0, 1, 2, 3, 4, 5, 6] rfl rfl 0 rfl rfl rfl rfl (Nat.le_of_ble_eq_true rfl) dX6_put_16 ?_
  rintro _ _ ⟨rfl, rfl⟩
  refine ⟨rfl, ?_⟩
  refine j_w (w' := (wMo D h m sp sv (nI s) tx tl cd se ro st qa qb qd lo re cr ap nu ha)) rfl ?_
  refine j_if_ne C dX6_put_19 (tgt := 26) (by decide) (fun h => absurd hc0 h) (fun _ => ?_)
  refine j_iconst C (v := (2 : Int32)) dX6_put_22 rfl ?_
  refine j_goto C dX6_put_23 (tgt := 27) (by decide) ?_
  refine j_put C 0 foX6_put_29 rfl (w' := (wMo D h m sp sv (nI s) tx tl (2 : Int32) se ro st qa qb qd lo re cr ap nu ha)) rfl rfl rfl (Nat.le_of_ble_eq_true rfl) dX6_put_27 ?_
  refine j_aload_n C 0 dX6_put_30 rfl rfl ?_
  refine j_get C 0 fgX6_put_29 rfl rfl dX6_put_31 ?_
  refine j_if_eq C dX6_put_34 (tgt := 39) (by decide) (fun h => absurd h (by decide)) (fun _ => ?_)
  refine j_iconst C (v := (0 : Int32)) dX6_put_37 rfl ?_
  exact ret dX6_put_38 (⟨rfl, ⟨_, _, _, _, _, _, _, _, _, _, _, _, _, rfl⟩⟩)

set_option maxRecDepth 100000 in
set_option maxHeartbeats 4000000 in
theorem ctX6_put (l : Launch) (D : KD) (h : Nat → Nat) (m sp sv : Nat → Int32) (tx : Nat → Int32) (tl cd se ro st : Int32) (qa qb qd : Int64) (lo : Nat → Int32) (re : Nat → Int64) (cr ap nu : Int32) (ha : Int64) (s : Nat) (hs : s ≤ 4) (n : Nat) (hn : n ≤ 16) (hc : m 2 = nI n) (hV : mVal m n) (i : Nat) (hi : i < n) (hc0 : ¬ m (3 + 6 * i + 4) = 0) : MI l D yX6_put wsX6_put 4 91 0 0 [.ref (h 0), .int (nI i)] (wMo D h m sp sv (nI s) tx tl cd se ro st qa qb qd lo re cr ap nu ha) (fun r w1 => r = mLd (mSt m i 0) n i ∧ mW D h (mSt m i 0) (kSv sv s m) (nI (min (s + 1) 4)) tx tl 0 w1) := by
  refine MI.of (cc := cX6_put) (nL := 3) (lv0 := [(0, .ref (h 0)), (1, .int (nI i))]) (by decide +kernel) rfl (Nat.le_of_ble_eq_true rfl) rfl ?_
  intro X hXl hin C ret
  subst hXl
  have hx : pIn (nI i) 0 (m 2 - 1) = true := pIn_blk hc hn hi
  refine j_aload_n C 0 dX6_put_0 rfl rfl ?_
  refine j_aload_n C 0 dX6_put_1 rfl rfl ?_
  refine j_iload_n C 1 dX6_put_2 rfl rfl ?_
  refine j_cv_i C (As := [.int (nI i)]) (rest := [.ref (h 0)]) (ctX6_isBlock (xl X) D h m sp sv (nI s) tx tl cd se ro st qa qb qd lo re cr ap nu ha (nI i)) mfX6_isBlock gX6_put_X6_isBlock rfl (Nat.le_of_ble_eq_true rfl) (Nat.le_of_ble_eq_true rfl) (Nat.le_of_ble_eq_true rfl) (Nat.le_of_ble_eq_true rfl) [0, 1, 2, 3, 4, 5, 6] rfl rfl 0 rfl rfl rfl rfl (Nat.le_of_ble_eq_true rfl) dX6_put_3 ?_
  rintro _ _ ⟨rfl, rfl⟩
  refine ⟨rfl, ?_⟩
  refine j_w (w' := (wMo D h m sp sv (nI s) tx tl cd se ro st qa qb qd lo re cr ap nu ha)) rfl ?_
  refine j_bif_ne C dX6_put_6 (tgt := 13) (by decide) (fun _ => ?_) (fun h => (by rw [hx] at h; cases h))
  refine j_aload_n C 0 dX6_put_13 rfl rfl ?_
  refine j_iload_n C 1 dX6_put_14 rfl rfl ?_
  refine j_iconst C (v := (4 : Int32)) dX6_put_15 rfl ?_
  refine j_cv_i C (As := [.int (nI i), .int (4 : Int32)]) (rest := [.ref (h 0)]) (ctX6_of (xl X) D h m sp sv (nI s) tx tl cd se ro st qa qb qd lo re cr ap nu ha i 4 (by first | assumption | omega | decide)) mfX6_of gX6_put_X6_of rfl (Nat.le_of_ble_eq_true rfl) (Nat.le_of_ble_eq_true rfl) (Nat.le_of_ble_eq_true rfl) (Nat.le_of_ble_eq_true rfl) [0, 1, 2, 3, 4, 5, 6] rfl rfl 0 rfl rfl rfl rfl (Nat.le_of_ble_eq_true rfl) dX6_put_16 ?_
  rintro _ _ ⟨rfl, rfl⟩
  refine ⟨rfl, ?_⟩
  refine j_w (w' := (wMo D h m sp sv (nI s) tx tl cd se ro st qa qb qd lo re cr ap nu ha)) rfl ?_
  refine j_if_ne C dX6_put_19 (tgt := 26) (by decide) (fun _ => ?_) (fun h => absurd h hc0)
  refine j_iconst C (v := (0 : Int32)) dX6_put_26 rfl ?_
  refine j_put C 0 foX6_put_29 rfl (w' := (wMo D h m sp sv (nI s) tx tl (0 : Int32) se ro st qa qb qd lo re cr ap nu ha)) rfl rfl rfl (Nat.le_of_ble_eq_true rfl) dX6_put_27 ?_
  refine j_aload_n C 0 dX6_put_30 rfl rfl ?_
  refine j_get C 0 fgX6_put_29 rfl rfl dX6_put_31 ?_
  refine j_if_eq C dX6_put_34 (tgt := 39) (by decide) (fun _ => ?_) (fun h => absurd (by decide) h)
  refine j_aload_n C 0 dX6_put_39 rfl rfl ?_
  refine j_iload_n C 1 dX6_put_40 rfl rfl ?_
  refine j_iconst C (v := (4 : Int32)) dX6_put_41 rfl ?_
  refine j_iconst C (v := (0 : Int32)) dX6_put_42 rfl ?_
  refine j_cv_i C (As := [.int (nI i), .int (4 : Int32), .int (0 : Int32)]) (rest := []) (ctX6_change (xl X) D h m sp sv tx tl (0 : Int32) se ro st qa qb qd lo re cr ap nu ha s (by first | assumption | omega | decide) i 4 (0 : Int32) (by first | assumption | omega | decide)) mfX6_change gX6_put_X6_change rfl (Nat.le_of_ble_eq_true rfl) (Nat.le_of_ble_eq_true rfl) (Nat.le_of_ble_eq_true rfl) (Nat.le_of_ble_eq_true rfl) [0, 1, 2, 3, 4, 5, 6] rfl rfl 0 rfl rfl rfl rfl (Nat.le_of_ble_eq_true rfl) dX6_put_43 ?_
  rintro _ _ ⟨rfl, rfl⟩
  refine ⟨rfl, ?_⟩
  refine j_w (w' := (wMo D h (upd m (3 + 6 * i + 4) (0 : Int32)) sp (kSv sv s m) (nI (min (s + 1) 4)) tx tl (0 : Int32) se ro st qa qb qd lo re cr ap nu ha)) rfl ?_
  refine j_istore_n C dX6_put_46 rfl (by decide) (lv' := [(2, .int (m (3 + 6 * i + 4))), (0, .ref (h 0)), (1, .int (nI i))]) rfl ?_
  show J D X (wMo D h (mSt m i 0) sp (kSv sv s m) (nI (min (s + 1) 4)) tx tl (0 : Int32) se ro st qa qb qd lo re cr ap nu ha) 0 0 _ _ _
  refine j_aload_n C 1 dX6_put_47 rfl rfl ?_
  refine j_cv_v C (As := []) (rest := []) (ctX6_settle (xl X) D h (mSt m i 0) sp (kSv sv s m) (nI (min (s + 1) 4)) tx tl (0 : Int32) se ro st qa qb qd lo re cr ap nu ha n (by first | assumption | omega | decide) ((mSt_2 m i 0).trans hc) (mSt_val hV (Or.inl rfl))) mfX6_settle gX6_put_X6_settle rfl (Nat.le_of_ble_eq_true rfl) (Nat.le_of_ble_eq_true rfl) (Nat.le_of_ble_eq_true rfl) (Nat.le_of_ble_eq_true rfl) [0, 1, 2, 3, 4, 5, 6] rfl rfl 0 rfl rfl rfl rfl (Nat.le_of_ble_eq_true rfl) dX6_put_48 ?_
  rintro _ ⟨sx_48, rx_48, hsx_48, rfl⟩
  refine ⟨rfl, ?_⟩
  refine j_w (w' := (wMo D h (mSt m i 0) sp (kSv sv s m) (nI (min (s + 1) 4)) tx tl (0 : Int32) sx_48 (nI (mR (mSt m i 0) n).2.1) (bI (mR (mSt m i 0) n).1) ((mR (mSt m i 0) n).2.2.2.1) ((mR (mSt m i 0) n).2.2.2.2.1) ((mR (mSt m i 0) n).2.2.2.2.2) (mLo (mSt m i 0) n) rx_48 cr ap nu ha)) rfl ?_
  refine j_aload_n C 1 dX6_put_51 rfl rfl ?_
  refine j_get C 0 fgX6_put_78 rfl rfl dX6_put_52 ?_
  refine j_bif_eq C dX6_put_55 (tgt := 67) (by decide) (fun h55 => ?_) (fun h55 => ?_)
  · refine j_iconst C (v := (-1 : Int32)) dX6_put_67 rfl ?_
    exact ret dX6_put_68 (⟨by simp [mLd, h55], ⟨_, _, _, _, _, _, _, _, _, _, _, _, _, rfl⟩⟩)
  · refine j_aload_n C 1 dX6_put_58 rfl rfl ?_
    refine j_get C 0 fgX6_put_22 rfl rfl dX6_put_59 ?_
    refine j_iload_n C 2 dX6_put_62 rfl rfl ?_
    refine j_iald C 5 rfl (i := i) rfl (by omega) (by decide) dX6_put_63 ?_
    refine j_goto C dX6_put_64 (tgt := 68) (by decide) ?_
    exact ret dX6_put_68 (⟨by simp [mLd, h55], ⟨_, _, _, _, _, _, _, _, _, _, _, _, _, rfl⟩⟩)

set_option maxRecDepth 100000 in
set_option maxHeartbeats 4000000 in
theorem ctX6_cascade (l : Launch) (D : KD) (h : Nat → Nat) (m sp sv : Nat → Int32) (tx : Nat → Int32) (tl cd se ro st : Int32) (qa qb qd : Int64) (lo : Nat → Int32) (re : Nat → Int64) (cr ap nu : Int32) (ha : Int64) (s : Nat) (hs : s ≤ 4) (n : Nat) (hn : n ≤ 16) (hc : m 2 = nI n) (hV : mVal m n) : MI l D yX6_cascade wsX6_cascade 5 114 0 0 [.ref (h 0)] (wMo D h m sp sv (nI s) tx tl cd se ro st qa qb qd lo re cr ap nu ha) (fun r w1 => r = (fal n 16 m 0 0).2.2 ∧ mW D h ((fal n 16 m 0 0).1) (kSv sv s m) (nI (min (s + 1) 4)) tx tl 0 w1) := by
  refine MI.of (cc := cX6_cascade) (nL := 2) (lv0 := [(0, .ref (h 0))]) (by decide +kernel) rfl (Nat.le_of_ble_eq_true rfl) rfl ?_
  intro X hXl hin C ret
  subst hXl
  refine j_aload_n C 0 dX6_cascade_0 rfl rfl ?_
  refine j_iconst C (v := (0 : Int32)) dX6_cascade_1 rfl ?_
  refine j_put C 0 foX6_cascade_29 rfl (w' := (wMo D h m sp sv (nI s) tx tl (0 : Int32) se ro st qa qb qd lo re cr ap nu ha)) rfl rfl rfl (Nat.le_of_ble_eq_true rfl) dX6_cascade_2 ?_
  refine j_aload_n C 0 dX6_cascade_5 rfl rfl ?_
  refine j_cv_v C (As := []) (rest := []) (ctX6_keep (xl X) D h m sp sv tx tl (0 : Int32) se ro st qa qb qd lo re cr ap nu ha s (by first | assumption | omega | decide)) mfX6_keep gX6_cascade_X6_keep rfl (Nat.le_of_ble_eq_true rfl) (Nat.le_of_ble_eq_true rfl) (Nat.le_of_ble_eq_true rfl) (Nat.le_of_ble_eq_true rfl) [0, 1, 2, 3, 4, 5, 6] rfl rfl 0 rfl rfl rfl rfl (Nat.le_of_ble_eq_true rfl) dX6_cascade_6 ?_
  rintro _ rfl
  refine ⟨rfl, ?_⟩
  refine j_w (w' := (wMo D h m sp (kSv sv s m) (nI (min (s + 1) 4)) tx tl (0 : Int32) se ro st qa qb qd lo re cr ap nu ha)) rfl ?_
  refine j_aload_n C 0 dX6_cascade_9 rfl rfl ?_
  refine j_cv_i C (As := []) (rest := []) (ctX6_fall (xl X) D h m sp (kSv sv s m) (nI (min (s + 1) 4)) tx tl (0 : Int32) se ro st qa qb qd lo re cr ap nu ha n (by first | assumption | omega | decide) (by first | assumption | omega | decide) (by first | assumption | omega | decide)) mfX6_fall gX6_cascade_X6_fall rfl (Nat.le_of_ble_eq_true rfl) (Nat.le_of_ble_eq_true rfl) (Nat.le_of_ble_eq_true rfl) (Nat.le_of_ble_eq_true rfl) [0, 1, 2, 3, 4, 5, 6] rfl rfl 0 rfl rfl rfl rfl (Nat.le_of_ble_eq_true rfl) dX6_cascade_10 ?_
  rintro r_10 _ ⟨sx_10, rx_10, rfl, rfl⟩
  refine ⟨rfl, ?_⟩
  refine j_w (w' := (wMo D h ((fal n 16 m 0 0).1) sp (kSv sv s m) (nI (min (s + 1) 4)) tx tl (0 : Int32) sx_10 (nI (mR ((fal n 16 m 0 0).1) n).2.1) (bI (mR ((fal n 16 m 0 0).1) n).1) ((mR ((fal n 16 m 0 0).1) n).2.2.2.1) ((mR ((fal n 16 m 0 0).1) n).2.2.2.2.1) ((mR ((fal n 16 m 0 0).1) n).2.2.2.2.2) (mLo ((fal n 16 m 0 0).1) n) rx_10 ((fal n 16 m 0 0).2.2) ap nu ha)) rfl ?_
  refine j_istore_n C dX6_cascade_13 rfl (by decide) (lv' := [(1, .int ((fal n 16 m 0 0).2.1)), (0, .ref (h 0))]) rfl ?_
  refine j_aload_n C 1 dX6_cascade_14 rfl rfl ?_
  refine j_get C 0 fgX6_cascade_145 rfl rfl dX6_cascade_15 ?_
  exact ret dX6_cascade_18 (⟨rfl, ⟨_, _, _, _, _, _, _, _, _, _, _, _, _, rfl⟩⟩)

set_option maxRecDepth 100000 in
set_option maxHeartbeats 4000000 in
theorem ctX6_shave (l : Launch) (D : KD) (h : Nat → Nat) (m sp sv : Nat → Int32) (tx : Nat → Int32) (tl cd se ro st : Int32) (qa qb qd : Int64) (lo : Nat → Int32) (re : Nat → Int64) (cr ap nu : Int32) (ha : Int64) (s : Nat) (hs : s ≤ 4) (n : Nat) (hn : n ≤ 16) (hc : m 2 = nI n) (hV : mVal m n) : MI l D yX6_shave wsX6_shave 5 113 0 0 [.ref (h 0)] (wMo D h m sp sv (nI s) tx tl cd se ro st qa qb qd lo re cr ap nu ha) (fun r w1 => r = (shv n 100 m 0).2 ∧ mW D h ((shv n 100 m 0).1) (kSv sv s m) (nI (min (s + 1) 4)) tx tl 0 w1) := by
  refine MI.of (cc := cX6_shave) (nL := 1) (lv0 := [(0, .ref (h 0))]) (by decide +kernel) rfl (Nat.le_of_ble_eq_true rfl) rfl ?_
  intro X hXl hin C ret
  subst hXl
  refine j_aload_n C 0 dX6_shave_0 rfl rfl ?_
  refine j_iconst C (v := (0 : Int32)) dX6_shave_1 rfl ?_
  refine j_put C 0 foX6_shave_29 rfl (w' := (wMo D h m sp sv (nI s) tx tl (0 : Int32) se ro st qa qb qd lo re cr ap nu ha)) rfl rfl rfl (Nat.le_of_ble_eq_true rfl) dX6_shave_2 ?_
  refine j_aload_n C 0 dX6_shave_5 rfl rfl ?_
  refine j_cv_v C (As := []) (rest := []) (ctX6_keep (xl X) D h m sp sv tx tl (0 : Int32) se ro st qa qb qd lo re cr ap nu ha s (by first | assumption | omega | decide)) mfX6_keep gX6_shave_X6_keep rfl (Nat.le_of_ble_eq_true rfl) (Nat.le_of_ble_eq_true rfl) (Nat.le_of_ble_eq_true rfl) (Nat.le_of_ble_eq_true rfl) [0, 1, 2, 3, 4, 5, 6] rfl rfl 0 rfl rfl rfl rfl (Nat.le_of_ble_eq_true rfl) dX6_shave_6 ?_
  rintro _ rfl
  refine ⟨rfl, ?_⟩
  refine j_w (w' := (wMo D h m sp (kSv sv s m) (nI (min (s + 1) 4)) tx tl (0 : Int32) se ro st qa qb qd lo re cr ap nu ha)) rfl ?_
  refine j_aload_n C 0 dX6_shave_9 rfl rfl ?_
  refine j_cv_i C (As := []) (rest := []) (ctX6_shaves (xl X) D h m sp (kSv sv s m) (nI (min (s + 1) 4)) tx tl (0 : Int32) se ro st qa qb qd lo re cr ap nu ha n (by first | assumption | omega | decide) (by first | assumption | omega | decide) (by first | assumption | omega | decide)) mfX6_shaves gX6_shave_X6_shaves rfl (Nat.le_of_ble_eq_true rfl) (Nat.le_of_ble_eq_true rfl) (Nat.le_of_ble_eq_true rfl) (Nat.le_of_ble_eq_true rfl) [0, 1, 2, 3, 4, 5, 6] rfl rfl 0 rfl rfl rfl rfl (Nat.le_of_ble_eq_true rfl) dX6_shave_10 ?_
  rintro r_10 _ ⟨sx_10, rx_10, rfl, rfl⟩
  refine ⟨rfl, ?_⟩
  refine j_w (w' := (wMo D h ((shv n 100 m 0).1) sp (kSv sv s m) (nI (min (s + 1) 4)) tx tl (0 : Int32) sx_10 (nI (mR ((shv n 100 m 0).1) n).2.1) (bI (mR ((shv n 100 m 0).1) n).1) ((mR ((shv n 100 m 0).1) n).2.2.2.1) ((mR ((shv n 100 m 0).1) n).2.2.2.2.1) ((mR ((shv n 100 m 0).1) n).2.2.2.2.2) (mLo ((shv n 100 m 0).1) n) rx_10 cr ap nu ha)) rfl ?_
  exact ret dX6_shave_13 (⟨rfl, ⟨_, _, _, _, _, _, _, _, _, _, _, _, _, rfl⟩⟩)

set_option maxRecDepth 100000 in
set_option maxHeartbeats 4000000 in
theorem ctX6_blockX (l : Launch) (D : KD) (h : Nat → Nat) (m sp sv : Nat → Int32) (tx : Nat → Int32) (tl cd se ro st : Int32) (qa qb qd : Int64) (lo : Nat → Int32) (re : Nat → Int64) (cr ap nu : Int32) (ha : Int64) (s : Nat) (hs : s ≤ 4) (x : Int32) (hx : pIn x 0 (m 2 - 1) = false) (y : Int32) : MI l D yX6_block wsX6_block 2 43 0 0 [.ref (h 0), .int x, .int y] (wMo D h m sp sv (nI s) tx tl cd se ro st qa qb qd lo re cr ap nu ha) (fun r w1 => r = 0 ∧ mW D h m sv (nI s) tx tl 1 w1) := by
  refine MI.of (cc := cX6_block) (nL := 3) (lv0 := [(0, .ref (h 0)), (1, .int x), (2, .int y)]) (by decide +kernel) rfl (Nat.le_of_ble_eq_true rfl) rfl ?_
  intro X hXl hin C ret
  subst hXl
  refine j_aload_n C 0 dX6_block_0 rfl rfl ?_
  refine j_aload_n C 0 dX6_block_1 rfl rfl ?_
  refine j_iload_n C 1 dX6_block_2 rfl rfl ?_
  refine j_cv_i C (As := [.int x]) (rest := [.ref (h 0)]) (ctX6_isBlock (xl X) D h m sp sv (nI s) tx tl cd se ro st qa qb qd lo re cr ap nu ha x) mfX6_isBlock gX6_block_X6_isBlock rfl (Nat.le_of_ble_eq_true rfl) (Nat.le_of_ble_eq_true rfl) (Nat.le_of_ble_eq_true rfl) (Nat.le_of_ble_eq_true rfl) [0, 1, 2, 3, 4, 5, 6] rfl rfl 0 rfl rfl rfl rfl (Nat.le_of_ble_eq_true rfl) dX6_block_3 ?_
  rintro _ _ ⟨rfl, rfl⟩
  refine ⟨rfl, ?_⟩
  refine j_w (w' := (wMo D h m sp sv (nI s) tx tl cd se ro st qa qb qd lo re cr ap nu ha)) rfl ?_
  refine j_bif_ne C dX6_block_6 (tgt := 13) (by decide) (fun h => (by rw [hx] at h; cases h)) (fun _ => ?_)
  refine j_iconst C (v := (1 : Int32)) dX6_block_9 rfl ?_
  refine j_goto C dX6_block_10 (tgt := 28) (by decide) ?_
  refine j_put C 0 foX6_block_29 rfl (w' := (wMo D h m sp sv (nI s) tx tl (1 : Int32) se ro st qa qb qd lo re cr ap nu ha)) rfl rfl rfl (Nat.le_of_ble_eq_true rfl) dX6_block_28 ?_
  refine j_aload_n C 0 dX6_block_31 rfl rfl ?_
  refine j_get C 0 fgX6_block_29 rfl rfl dX6_block_32 ?_
  refine j_if_eq C dX6_block_35 (tgt := 40) (by decide) (fun h => absurd h (by decide)) (fun _ => ?_)
  refine j_iconst C (v := (0 : Int32)) dX6_block_38 rfl ?_
  exact ret dX6_block_39 (⟨rfl, ⟨_, _, _, _, _, _, _, _, _, _, _, _, _, rfl⟩⟩)

set_option maxRecDepth 100000 in
set_option maxHeartbeats 4000000 in
theorem ctX6_blockY (l : Launch) (D : KD) (h : Nat → Nat) (m sp sv : Nat → Int32) (tx : Nat → Int32) (tl cd se ro st : Int32) (qa qb qd : Int64) (lo : Nat → Int32) (re : Nat → Int64) (cr ap nu : Int32) (ha : Int64) (s : Nat) (hs : s ≤ 4) (n : Nat) (hn : n ≤ 16) (hc : m 2 = nI n) (hV : mVal m n) (i : Nat) (hi : i < n) (y : Int32) (hy : pIn y 0 8 = false) : MI l D yX6_block wsX6_block 2 43 0 0 [.ref (h 0), .int (nI i), .int y] (wMo D h m sp sv (nI s) tx tl cd se ro st qa qb qd lo re cr ap nu ha) (fun r w1 => r = 0 ∧ mW D h m sv (nI s) tx tl 2 w1) := by
  refine MI.of (cc := cX6_block) (nL := 3) (lv0 := [(0, .ref (h 0)), (1, .int (nI i)), (2, .int y)]) (by decide +kernel) rfl (Nat.le_of_ble_eq_true rfl) rfl ?_
  intro X hXl hin C ret
  subst hXl
  have hx : pIn (nI i) 0 (m 2 - 1) = true := pIn_blk hc hn hi
  refine j_aload_n C 0 dX6_block_0 rfl rfl ?_
  refine j_aload_n C 0 dX6_block_1 rfl rfl ?_
  refine j_iload_n C 1 dX6_block_2 rfl rfl ?_
  refine j_cv_i C (As := [.int (nI i)]) (rest := [.ref (h 0)]) (ctX6_isBlock (xl X) D h m sp sv (nI s) tx tl cd se ro st qa qb qd lo re cr ap nu ha (nI i)) mfX6_isBlock gX6_block_X6_isBlock rfl (Nat.le_of_ble_eq_true rfl) (Nat.le_of_ble_eq_true rfl) (Nat.le_of_ble_eq_true rfl) (Nat.le_of_ble_eq_true rfl) [0, 1, 2, 3, 4, 5, 6] rfl rfl 0 rfl rfl rfl rfl (Nat.le_of_ble_eq_true rfl) dX6_block_3 ?_
  rintro _ _ ⟨rfl, rfl⟩
  refine ⟨rfl, ?_⟩
  refine j_w (w' := (wMo D h m sp sv (nI s) tx tl cd se ro st qa qb qd lo re cr ap nu ha)) rfl ?_
  refine j_bif_ne C dX6_block_6 (tgt := 13) (by decide) (fun _ => ?_) (fun h => (by rw [hx] at h; cases h))
  refine j_iload_n C 2 dX6_block_13 rfl rfl ?_
  refine j_iconst C (v := (0 : Int32)) dX6_block_14 rfl ?_
  refine j_bipush C (v := (8 : Int32)) dX6_block_15 rfl ?_
  refine j_cs_i C (As := [.int y, .int (0 : Int32), .int (8 : Int32)]) (rest := [.ref (h 0)]) (ctX6_in (xl X) D y (0 : Int32) (8 : Int32)) mfX6_in gX6_block_X6_in rfl (Nat.le_of_ble_eq_true rfl) (Nat.le_of_ble_eq_true rfl) (Nat.le_of_ble_eq_true rfl) (Nat.le_of_ble_eq_true rfl) [] rfl rfl rfl (Nat.le_of_ble_eq_true rfl) dX6_block_17 ?_
  rintro _ _ ⟨rfl, rfl⟩
  refine ⟨rfl, ?_⟩
  refine j_w (w' := (wMo D h m sp sv (nI s) tx tl cd se ro st qa qb qd lo re cr ap nu ha)) rfl ?_
  refine j_bif_eq C dX6_block_20 (tgt := 27) (by decide) (fun _ => ?_) (fun h => (by rw [hy] at h; cases h))
  refine j_iconst C (v := (2 : Int32)) dX6_block_27 rfl ?_
  refine j_put C 0 foX6_block_29 rfl (w' := (wMo D h m sp sv (nI s) tx tl (2 : Int32) se ro st qa qb qd lo re cr ap nu ha)) rfl rfl rfl (Nat.le_of_ble_eq_true rfl) dX6_block_28 ?_
  refine j_aload_n C 0 dX6_block_31 rfl rfl ?_
  refine j_get C 0 fgX6_block_29 rfl rfl dX6_block_32 ?_
  refine j_if_eq C dX6_block_35 (tgt := 40) (by decide) (fun h => absurd h (by decide)) (fun _ => ?_)
  refine j_iconst C (v := (0 : Int32)) dX6_block_38 rfl ?_
  exact ret dX6_block_39 (⟨rfl, ⟨_, _, _, _, _, _, _, _, _, _, _, _, _, rfl⟩⟩)

set_option maxRecDepth 100000 in
set_option maxHeartbeats 4000000 in
theorem ctX6_block (l : Launch) (D : KD) (h : Nat → Nat) (m sp sv : Nat → Int32) (tx : Nat → Int32) (tl cd se ro st : Int32) (qa qb qd : Int64) (lo : Nat → Int32) (re : Nat → Int64) (cr ap nu : Int32) (ha : Int64) (s : Nat) (hs : s ≤ 4) (n : Nat) (hn : n ≤ 16) (hc : m 2 = nI n) (hV : mVal m n) (i : Nat) (hi : i < n) (v : Nat) (hv : v < 9) : MI l D yX6_block wsX6_block 4 91 0 0 [.ref (h 0), .int (nI i), .int (nI v)] (wMo D h m sp sv (nI s) tx tl cd se ro st qa qb qd lo re cr ap nu ha) (fun r w1 => r = mBl m n i v ∧ mW D h m sv (nI s) tx tl 0 w1) := by
  refine MI.of (cc := cX6_block) (nL := 3) (lv0 := [(0, .ref (h 0)), (1, .int (nI i)), (2, .int (nI v))]) (by decide +kernel) rfl (Nat.le_of_ble_eq_true rfl) rfl ?_
  intro X hXl hin C ret
  subst hXl
  have hx : pIn (nI i) 0 (m 2 - 1) = true := pIn_blk hc hn hi
  have hy : pIn (nI v) 0 8 = true := pIn_n (k := 8) (by omega) (by omega)
  refine j_aload_n C 0 dX6_block_0 rfl rfl ?_
  refine j_aload_n C 0 dX6_block_1 rfl rfl ?_
  refine j_iload_n C 1 dX6_block_2 rfl rfl ?_
  refine j_cv_i C (As := [.int (nI i)]) (rest := [.ref (h 0)]) (ctX6_isBlock (xl X) D h m sp sv (nI s) tx tl cd se ro st qa qb qd lo re cr ap nu ha (nI i)) mfX6_isBlock gX6_block_X6_isBlock rfl (Nat.le_of_ble_eq_true rfl) (Nat.le_of_ble_eq_true rfl) (Nat.le_of_ble_eq_true rfl) (Nat.le_of_ble_eq_true rfl) [0, 1, 2, 3, 4, 5, 6] rfl rfl 0 rfl rfl rfl rfl (Nat.le_of_ble_eq_true rfl) dX6_block_3 ?_
  rintro _ _ ⟨rfl, rfl⟩
  refine ⟨rfl, ?_⟩
  refine j_w (w' := (wMo D h m sp sv (nI s) tx tl cd se ro st qa qb qd lo re cr ap nu ha)) rfl ?_
  refine j_bif_ne C dX6_block_6 (tgt := 13) (by decide) (fun _ => ?_) (fun h => (by rw [hx] at h; cases h))
  refine j_iload_n C 2 dX6_block_13 rfl rfl ?_
  refine j_iconst C (v := (0 : Int32)) dX6_block_14 rfl ?_
  refine j_bipush C (v := (8 : Int32)) dX6_block_15 rfl ?_
  refine j_cs_i C (As := [.int (nI v), .int (0 : Int32), .int (8 : Int32)]) (rest := [.ref (h 0)]) (ctX6_in (xl X) D (nI v) (0 : Int32) (8 : Int32)) mfX6_in gX6_block_X6_in rfl (Nat.le_of_ble_eq_true rfl) (Nat.le_of_ble_eq_true rfl) (Nat.le_of_ble_eq_true rfl) (Nat.le_of_ble_eq_true rfl) [] rfl rfl rfl (Nat.le_of_ble_eq_true rfl) dX6_block_17 ?_
  rintro _ _ ⟨rfl, rfl⟩
  refine ⟨rfl, ?_⟩
  refine j_w (w' := (wMo D h m sp sv (nI s) tx tl cd se ro st qa qb qd lo re cr ap nu ha)) rfl ?_
  refine j_bif_eq C dX6_block_20 (tgt := 27) (by decide) (fun h => (by rw [hy] at h; cases h)) (fun _ => ?_)
  refine j_iconst C (v := (0 : Int32)) dX6_block_23 rfl ?_
  refine j_goto C dX6_block_24 (tgt := 28) (by decide) ?_
  refine j_put C 0 foX6_block_29 rfl (w' := (wMo D h m sp sv (nI s) tx tl (0 : Int32) se ro st qa qb qd lo re cr ap nu ha)) rfl rfl rfl (Nat.le_of_ble_eq_true rfl) dX6_block_28 ?_
  refine j_aload_n C 0 dX6_block_31 rfl rfl ?_
  refine j_get C 0 fgX6_block_29 rfl rfl dX6_block_32 ?_
  refine j_if_eq C dX6_block_35 (tgt := 40) (by decide) (fun _ => ?_) (fun h => absurd (by decide) h)
  refine j_aload_n C 0 dX6_block_40 rfl rfl ?_
  refine j_cv_v C (As := []) (rest := []) (ctX6_settle (xl X) D h m sp sv (nI s) tx tl (0 : Int32) se ro st qa qb qd lo re cr ap nu ha n (by first | assumption | omega | decide) (by first | assumption | omega | decide) (by first | assumption | omega | decide)) mfX6_settle gX6_block_X6_settle rfl (Nat.le_of_ble_eq_true rfl) (Nat.le_of_ble_eq_true rfl) (Nat.le_of_ble_eq_true rfl) (Nat.le_of_ble_eq_true rfl) [0, 1, 2, 3, 4, 5, 6] rfl rfl 0 rfl rfl rfl rfl (Nat.le_of_ble_eq_true rfl) dX6_block_41 ?_
  rintro _ ⟨sx_41, rx_41, hsx_41, rfl⟩
  refine ⟨rfl, ?_⟩
  refine j_w (w' := (wMo D h m sp sv (nI s) tx tl (0 : Int32) sx_41 (nI (mR m n).2.1) (bI (mR m n).1) ((mR m n).2.2.2.1) ((mR m n).2.2.2.2.1) ((mR m n).2.2.2.2.2) (mLo m n) rx_41 cr ap nu ha)) rfl ?_
  refine j_aload_n C 0 dX6_block_44 rfl rfl ?_
  refine j_iload_n C 1 dX6_block_45 rfl rfl ?_
  refine j_iload_n C 2 dX6_block_46 rfl rfl ?_
  refine j_cv_i C (As := [.int (nI i), .int (nI v)]) (rest := []) (ctX6_blockOf (xl X) D h m sp sv (nI s) tx tl (0 : Int32) sx_41 (nI (mR m n).2.1) ((mR m n).2.2.2.1) ((mR m n).2.2.2.2.1) ((mR m n).2.2.2.2.2) (mLo m n) rx_41 cr ap nu ha ((mR m n).1) i v (by first | assumption | omega | decide) (by first | assumption | omega | decide)) mfX6_blockOf gX6_block_X6_blockOf rfl (Nat.le_of_ble_eq_true rfl) (Nat.le_of_ble_eq_true rfl) (Nat.le_of_ble_eq_true rfl) (Nat.le_of_ble_eq_true rfl) [0, 1, 2, 3, 4, 5, 6] rfl rfl 0 rfl rfl rfl rfl (Nat.le_of_ble_eq_true rfl) dX6_block_47 ?_
  rintro _ _ ⟨rfl, rfl⟩
  refine ⟨rfl, ?_⟩
  refine j_w (w' := (wMo D h m sp sv (nI s) tx tl (0 : Int32) sx_41 (nI (mR m n).2.1) (bI (mR m n).1) ((mR m n).2.2.2.1) ((mR m n).2.2.2.2.1) ((mR m n).2.2.2.2.2) (mLo m n) rx_41 cr ap nu ha)) rfl ?_
  exact ret dX6_block_50 (⟨blS_se hsx_41, ⟨_, _, _, _, _, _, _, _, _, _, _, _, _, rfl⟩⟩)

set_option maxRecDepth 100000 in
set_option maxHeartbeats 4000000 in
theorem ctX6_valueX (l : Launch) (D : KD) (h : Nat → Nat) (m sp sv : Nat → Int32) (tx : Nat → Int32) (tl cd se ro st : Int32) (qa qb qd : Int64) (lo : Nat → Int32) (re : Nat → Int64) (cr ap nu : Int32) (ha : Int64) (s : Nat) (hs : s ≤ 4) (y : Int32) (hy : pIn y 0 9 = false) : MI l D yX6_value wsX6_value 1 22 0 0 [.ref (h 0), .int y] (wMo D h m sp sv (nI s) tx tl cd se ro st qa qb qd lo re cr ap nu ha) (fun r w1 => r = 0 ∧ mW D h m sv (nI s) tx tl 1 w1) := by
  refine MI.of (cc := cX6_value) (nL := 2) (lv0 := [(0, .ref (h 0)), (1, .int y)]) (by decide +kernel) rfl (Nat.le_of_ble_eq_true rfl) rfl ?_
  intro X hXl hin C ret
  subst hXl
  refine j_aload_n C 0 dX6_value_0 rfl rfl ?_
  refine j_iload_n C 1 dX6_value_1 rfl rfl ?_
  refine j_iconst C (v := (0 : Int32)) dX6_value_2 rfl ?_
  refine j_bipush C (v := (9 : Int32)) dX6_value_3 rfl ?_
  refine j_cs_i C (As := [.int y, .int (0 : Int32), .int (9 : Int32)]) (rest := [.ref (h 0)]) (ctX6_in (xl X) D y (0 : Int32) (9 : Int32)) mfX6_in gX6_value_X6_in rfl (Nat.le_of_ble_eq_true rfl) (Nat.le_of_ble_eq_true rfl) (Nat.le_of_ble_eq_true rfl) (Nat.le_of_ble_eq_true rfl) [] rfl rfl rfl (Nat.le_of_ble_eq_true rfl) dX6_value_5 ?_
  rintro _ _ ⟨rfl, rfl⟩
  refine ⟨rfl, ?_⟩
  refine j_w (w' := (wMo D h m sp sv (nI s) tx tl cd se ro st qa qb qd lo re cr ap nu ha)) rfl ?_
  refine j_bif_eq C dX6_value_8 (tgt := 15) (by decide) (fun _ => ?_) (fun h => (by rw [hy] at h; cases h))
  refine j_iconst C (v := (1 : Int32)) dX6_value_15 rfl ?_
  refine j_put C 0 foX6_value_29 rfl (w' := (wMo D h m sp sv (nI s) tx tl (1 : Int32) se ro st qa qb qd lo re cr ap nu ha)) rfl rfl rfl (Nat.le_of_ble_eq_true rfl) dX6_value_16 ?_
  refine j_aload_n C 0 dX6_value_19 rfl rfl ?_
  refine j_get C 0 fgX6_value_29 rfl rfl dX6_value_20 ?_
  refine j_if_eq C dX6_value_23 (tgt := 28) (by decide) (fun h => absurd h (by decide)) (fun _ => ?_)
  refine j_iconst C (v := (0 : Int32)) dX6_value_26 rfl ?_
  exact ret dX6_value_27 (⟨rfl, ⟨_, _, _, _, _, _, _, _, _, _, _, _, _, rfl⟩⟩)

set_option maxRecDepth 100000 in
set_option maxHeartbeats 4000000 in
theorem ctX6_value (l : Launch) (D : KD) (h : Nat → Nat) (m sp sv : Nat → Int32) (tx : Nat → Int32) (tl cd se ro st : Int32) (qa qb qd : Int64) (lo : Nat → Int32) (re : Nat → Int64) (cr ap nu : Int32) (ha : Int64) (s : Nat) (hs : s ≤ 4) (n : Nat) (hn : n ≤ 16) (hc : m 2 = nI n) (hV : mVal m n) (v : Nat) (hv : v < 10) : MI l D yX6_value wsX6_value 4 91 0 0 [.ref (h 0), .int (nI v)] (wMo D h m sp sv (nI s) tx tl cd se ro st qa qb qd lo re cr ap nu ha) (fun r w1 => r = mVl m n v ∧ mW D h m sv (nI s) tx tl 0 w1) := by
  refine MI.of (cc := cX6_value) (nL := 2) (lv0 := [(0, .ref (h 0)), (1, .int (nI v))]) (by decide +kernel) rfl (Nat.le_of_ble_eq_true rfl) rfl ?_
  intro X hXl hin C ret
  subst hXl
  have hy : pIn (nI v) 0 9 = true := pIn_n (k := 9) (by omega) (by omega)
  refine j_aload_n C 0 dX6_value_0 rfl rfl ?_
  refine j_iload_n C 1 dX6_value_1 rfl rfl ?_
  refine j_iconst C (v := (0 : Int32)) dX6_value_2 rfl ?_
  refine j_bipush C (v := (9 : Int32)) dX6_value_3 rfl ?_
  refine j_cs_i C (As := [.int (nI v), .int (0 : Int32), .int (9 : Int32)]) (rest := [.ref (h 0)]) (ctX6_in (xl X) D (nI v) (0 : Int32) (9 : Int32)) mfX6_in gX6_value_X6_in rfl (Nat.le_of_ble_eq_true rfl) (Nat.le_of_ble_eq_true rfl) (Nat.le_of_ble_eq_true rfl) (Nat.le_of_ble_eq_true rfl) [] rfl rfl rfl (Nat.le_of_ble_eq_true rfl) dX6_value_5 ?_
  rintro _ _ ⟨rfl, rfl⟩
  refine ⟨rfl, ?_⟩
  refine j_w (w' := (wMo D h m sp sv (nI s) tx tl cd se ro st qa qb qd lo re cr ap nu ha)) rfl ?_
  refine j_bif_eq C dX6_value_8 (tgt := 15) (by decide) (fun h => (by rw [hy] at h; cases h)) (fun _ => ?_)
  refine j_iconst C (v := (0 : Int32)) dX6_value_11 rfl ?_
  refine j_goto C dX6_value_12 (tgt := 16) (by decide) ?_
  refine j_put C 0 foX6_value_29 rfl (w' := (wMo D h m sp sv (nI s) tx tl (0 : Int32) se ro st qa qb qd lo re cr ap nu ha)) rfl rfl rfl (Nat.le_of_ble_eq_true rfl) dX6_value_16 ?_
  refine j_aload_n C 0 dX6_value_19 rfl rfl ?_
  refine j_get C 0 fgX6_value_29 rfl rfl dX6_value_20 ?_
  refine j_if_eq C dX6_value_23 (tgt := 28) (by decide) (fun _ => ?_) (fun h => absurd (by decide) h)
  refine j_aload_n C 0 dX6_value_28 rfl rfl ?_
  refine j_cv_v C (As := []) (rest := []) (ctX6_settle (xl X) D h m sp sv (nI s) tx tl (0 : Int32) se ro st qa qb qd lo re cr ap nu ha n (by first | assumption | omega | decide) (by first | assumption | omega | decide) (by first | assumption | omega | decide)) mfX6_settle gX6_value_X6_settle rfl (Nat.le_of_ble_eq_true rfl) (Nat.le_of_ble_eq_true rfl) (Nat.le_of_ble_eq_true rfl) (Nat.le_of_ble_eq_true rfl) [0, 1, 2, 3, 4, 5, 6] rfl rfl 0 rfl rfl rfl rfl (Nat.le_of_ble_eq_true rfl) dX6_value_29 ?_
  rintro _ ⟨sx_29, rx_29, hsx_29, rfl⟩
  refine ⟨rfl, ?_⟩
  refine j_w (w' := (wMo D h m sp sv (nI s) tx tl (0 : Int32) sx_29 (nI (mR m n).2.1) (bI (mR m n).1) ((mR m n).2.2.2.1) ((mR m n).2.2.2.2.1) ((mR m n).2.2.2.2.2) (mLo m n) rx_29 cr ap nu ha)) rfl ?_
  refine j_aload_n C 0 dX6_value_32 rfl rfl ?_
  refine j_iload_n C 1 dX6_value_33 rfl rfl ?_
  refine j_cv_i C (As := [.int (nI v)]) (rest := []) (ctX6_valueOf (xl X) D h m sp sv (nI s) tx tl (0 : Int32) sx_29 (nI (mR m n).2.1) ((mR m n).2.2.2.1) ((mR m n).2.2.2.2.1) ((mR m n).2.2.2.2.2) (mLo m n) rx_29 cr ap nu ha ((mR m n).1) n (by first | assumption | omega | decide) (by first | assumption | omega | decide) v (by first | assumption | omega | decide)) mfX6_valueOf gX6_value_X6_valueOf rfl (Nat.le_of_ble_eq_true rfl) (Nat.le_of_ble_eq_true rfl) (Nat.le_of_ble_eq_true rfl) (Nat.le_of_ble_eq_true rfl) [0, 1, 2, 3, 4, 5, 6] rfl rfl 0 rfl rfl rfl rfl (Nat.le_of_ble_eq_true rfl) dX6_value_34 ?_
  rintro _ _ ⟨rfl, rfl⟩
  refine ⟨rfl, ?_⟩
  refine j_w (w' := (wMo D h m sp sv (nI s) tx tl (0 : Int32) sx_29 (nI (mR m n).2.1) (bI (mR m n).1) ((mR m n).2.2.2.1) ((mR m n).2.2.2.2.1) ((mR m n).2.2.2.2.2) (mLo m n) rx_29 cr ap nu ha)) rfl ?_
  exact ret dX6_value_37 (⟨vlS_se hsx_29, ⟨_, _, _, _, _, _, _, _, _, _, _, _, _, rfl⟩⟩)

set_option maxRecDepth 100000 in
set_option maxHeartbeats 4000000 in
theorem ctX6_balanceX (l : Launch) (D : KD) (h : Nat → Nat) (m sp sv : Nat → Int32) (tx : Nat → Int32) (tl cd se ro st : Int32) (qa qb qd : Int64) (lo : Nat → Int32) (re : Nat → Int64) (cr ap nu : Int32) (ha : Int64) (s : Nat) (hs : s ≤ 4) (y : Int32) (hy : pIn y 0 2 = false) : ML l D yX6_balance wsX6_balance 1 22 0 0 [.ref (h 0), .int y] (wMo D h m sp sv (nI s) tx tl cd se ro st qa qb qd lo re cr ap nu ha) (fun r w1 => r = 0 ∧ mW D h m sv (nI s) tx tl 1 w1) := by
  refine ML.of (cc := cX6_balance) (nL := 2) (lv0 := [(0, .ref (h 0)), (1, .int y)]) (by decide +kernel) rfl (Nat.le_of_ble_eq_true rfl) rfl ?_
  intro X hXl hin C ret
  subst hXl
  refine j_aload_n C 0 dX6_balance_0 rfl rfl ?_
  refine j_iload_n C 1 dX6_balance_1 rfl rfl ?_
  refine j_iconst C (v := (0 : Int32)) dX6_balance_2 rfl ?_
  refine j_iconst C (v := (2 : Int32)) dX6_balance_3 rfl ?_
  refine j_cs_i C (As := [.int y, .int (0 : Int32), .int (2 : Int32)]) (rest := [.ref (h 0)]) (ctX6_in (xl X) D y (0 : Int32) (2 : Int32)) mfX6_in gX6_balance_X6_in rfl (Nat.le_of_ble_eq_true rfl) (Nat.le_of_ble_eq_true rfl) (Nat.le_of_ble_eq_true rfl) (Nat.le_of_ble_eq_true rfl) [] rfl rfl rfl (Nat.le_of_ble_eq_true rfl) dX6_balance_4 ?_
  rintro _ _ ⟨rfl, rfl⟩
  refine ⟨rfl, ?_⟩
  refine j_w (w' := (wMo D h m sp sv (nI s) tx tl cd se ro st qa qb qd lo re cr ap nu ha)) rfl ?_
  refine j_bif_eq C dX6_balance_7 (tgt := 14) (by decide) (fun _ => ?_) (fun h => (by rw [hy] at h; cases h))
  refine j_iconst C (v := (1 : Int32)) dX6_balance_14 rfl ?_
  refine j_put C 0 foX6_balance_29 rfl (w' := (wMo D h m sp sv (nI s) tx tl (1 : Int32) se ro st qa qb qd lo re cr ap nu ha)) rfl rfl rfl (Nat.le_of_ble_eq_true rfl) dX6_balance_15 ?_
  refine j_aload_n C 0 dX6_balance_18 rfl rfl ?_
  refine j_get C 0 fgX6_balance_29 rfl rfl dX6_balance_19 ?_
  refine j_if_eq C dX6_balance_22 (tgt := 27) (by decide) (fun h => absurd h (by decide)) (fun _ => ?_)
  refine j_lconst C (v := (0 : Int64)) dX6_balance_25 rfl ?_
  exact ret dX6_balance_26 (⟨rfl, ⟨_, _, _, _, _, _, _, _, _, _, _, _, _, rfl⟩⟩)

set_option maxRecDepth 100000 in
set_option maxHeartbeats 4000000 in
theorem ctX6_balance (l : Launch) (D : KD) (h : Nat → Nat) (m sp sv : Nat → Int32) (tx : Nat → Int32) (tl cd se ro st : Int32) (qa qb qd : Int64) (lo : Nat → Int32) (re : Nat → Int64) (cr ap nu : Int32) (ha : Int64) (s : Nat) (hs : s ≤ 4) (n : Nat) (hn : n ≤ 16) (hc : m 2 = nI n) (hV : mVal m n) (v : Nat) (hv : v < 3) : ML l D yX6_balance wsX6_balance 4 91 0 0 [.ref (h 0), .int (nI v)] (wMo D h m sp sv (nI s) tx tl cd se ro st qa qb qd lo re cr ap nu ha) (fun r w1 => r = mBa m n v ∧ mW D h m sv (nI s) tx tl 0 w1) := by
  refine ML.of (cc := cX6_balance) (nL := 2) (lv0 := [(0, .ref (h 0)), (1, .int (nI v))]) (by decide +kernel) rfl (Nat.le_of_ble_eq_true rfl) rfl ?_
  intro X hXl hin C ret
  subst hXl
  have hy : pIn (nI v) 0 2 = true := pIn_n (k := 2) (by omega) (by omega)
  refine j_aload_n C 0 dX6_balance_0 rfl rfl ?_
  refine j_iload_n C 1 dX6_balance_1 rfl rfl ?_
  refine j_iconst C (v := (0 : Int32)) dX6_balance_2 rfl ?_
  refine j_iconst C (v := (2 : Int32)) dX6_balance_3 rfl ?_
  refine j_cs_i C (As := [.int (nI v), .int (0 : Int32), .int (2 : Int32)]) (rest := [.ref (h 0)]) (ctX6_in (xl X) D (nI v) (0 : Int32) (2 : Int32)) mfX6_in gX6_balance_X6_in rfl (Nat.le_of_ble_eq_true rfl) (Nat.le_of_ble_eq_true rfl) (Nat.le_of_ble_eq_true rfl) (Nat.le_of_ble_eq_true rfl) [] rfl rfl rfl (Nat.le_of_ble_eq_true rfl) dX6_balance_4 ?_
  rintro _ _ ⟨rfl, rfl⟩
  refine ⟨rfl, ?_⟩
  refine j_w (w' := (wMo D h m sp sv (nI s) tx tl cd se ro st qa qb qd lo re cr ap nu ha)) rfl ?_
  refine j_bif_eq C dX6_balance_7 (tgt := 14) (by decide) (fun h => (by rw [hy] at h; cases h)) (fun _ => ?_)
  refine j_iconst C (v := (0 : Int32)) dX6_balance_10 rfl ?_
  refine j_goto C dX6_balance_11 (tgt := 15) (by decide) ?_
  refine j_put C 0 foX6_balance_29 rfl (w' := (wMo D h m sp sv (nI s) tx tl (0 : Int32) se ro st qa qb qd lo re cr ap nu ha)) rfl rfl rfl (Nat.le_of_ble_eq_true rfl) dX6_balance_15 ?_
  refine j_aload_n C 0 dX6_balance_18 rfl rfl ?_
  refine j_get C 0 fgX6_balance_29 rfl rfl dX6_balance_19 ?_
  refine j_if_eq C dX6_balance_22 (tgt := 27) (by decide) (fun _ => ?_) (fun h => absurd (by decide) h)
  refine j_aload_n C 0 dX6_balance_27 rfl rfl ?_
  refine j_cv_v C (As := []) (rest := []) (ctX6_settle (xl X) D h m sp sv (nI s) tx tl (0 : Int32) se ro st qa qb qd lo re cr ap nu ha n (by first | assumption | omega | decide) (by first | assumption | omega | decide) (by first | assumption | omega | decide)) mfX6_settle gX6_balance_X6_settle rfl (Nat.le_of_ble_eq_true rfl) (Nat.le_of_ble_eq_true rfl) (Nat.le_of_ble_eq_true rfl) (Nat.le_of_ble_eq_true rfl) [0, 1, 2, 3, 4, 5, 6] rfl rfl 0 rfl rfl rfl rfl (Nat.le_of_ble_eq_true rfl) dX6_balance_28 ?_
  rintro _ ⟨sx_28, rx_28, hsx_28, rfl⟩
  refine ⟨rfl, ?_⟩
  refine j_w (w' := (wMo D h m sp sv (nI s) tx tl (0 : Int32) sx_28 (nI (mR m n).2.1) (bI (mR m n).1) ((mR m n).2.2.2.1) ((mR m n).2.2.2.2.1) ((mR m n).2.2.2.2.2) (mLo m n) rx_28 cr ap nu ha)) rfl ?_
  refine j_aload_n C 0 dX6_balance_31 rfl rfl ?_
  refine j_iload_n C 1 dX6_balance_32 rfl rfl ?_
  refine j_cv_l C (As := [.int (nI v)]) (rest := []) (ctX6_balanceOf (xl X) D h m sp sv (nI s) tx tl (0 : Int32) sx_28 (nI (mR m n).2.1) ((mR m n).2.2.2.1) ((mR m n).2.2.2.2.1) ((mR m n).2.2.2.2.2) (mLo m n) rx_28 cr ap nu ha ((mR m n).1) v (by first | assumption | omega | decide)) mfX6_balanceOf gX6_balance_X6_balanceOf rfl (Nat.le_of_ble_eq_true rfl) (Nat.le_of_ble_eq_true rfl) (Nat.le_of_ble_eq_true rfl) (Nat.le_of_ble_eq_true rfl) [0, 1, 2, 3, 4, 5, 6] rfl rfl 0 rfl rfl rfl rfl (Nat.le_of_ble_eq_true rfl) dX6_balance_33 ?_
  rintro _ _ ⟨rfl, rfl⟩
  refine ⟨rfl, ?_⟩
  refine j_w (w' := (wMo D h m sp sv (nI s) tx tl (0 : Int32) sx_28 (nI (mR m n).2.1) (bI (mR m n).1) ((mR m n).2.2.2.1) ((mR m n).2.2.2.2.1) ((mR m n).2.2.2.2.2) (mLo m n) rx_28 cr ap nu ha)) rfl ?_
  exact ret dX6_balance_36 (⟨rfl, ⟨_, _, _, _, _, _, _, _, _, _, _, _, _, rfl⟩⟩)

set_option maxRecDepth 100000 in
set_option maxHeartbeats 4000000 in
theorem ctX6_loadWithoutX (l : Launch) (D : KD) (h : Nat → Nat) (m sp sv : Nat → Int32) (tx : Nat → Int32) (tl cd se ro st : Int32) (qa qb qd : Int64) (lo : Nat → Int32) (re : Nat → Int64) (cr ap nu : Int32) (ha : Int64) (s : Nat) (hs : s ≤ 4) (x : Int32) (hx : pIn x 0 (m 2 - 1) = false) (y : Int32) : MI l D yX6_loadWithout wsX6_loadWithout 2 43 0 0 [.ref (h 0), .int x, .int y] (wMo D h m sp sv (nI s) tx tl cd se ro st qa qb qd lo re cr ap nu ha) (fun r w1 => r = 0 ∧ mW D h m sv (nI s) tx tl 1 w1) := by
  refine MI.of (cc := cX6_loadWithout) (nL := 4) (lv0 := [(0, .ref (h 0)), (1, .int x), (2, .int y)]) (by decide +kernel) rfl (Nat.le_of_ble_eq_true rfl) rfl ?_
  intro X hXl hin C ret
  subst hXl
  refine j_aload_n C 0 dX6_loadWithout_0 rfl rfl ?_
  refine j_aload_n C 0 dX6_loadWithout_1 rfl rfl ?_
  refine j_iload_n C 1 dX6_loadWithout_2 rfl rfl ?_
  refine j_cv_i C (As := [.int x]) (rest := [.ref (h 0)]) (ctX6_isBlock (xl X) D h m sp sv (nI s) tx tl cd se ro st qa qb qd lo re cr ap nu ha x) mfX6_isBlock gX6_loadWithout_X6_isBlock rfl (Nat.le_of_ble_eq_true rfl) (Nat.le_of_ble_eq_true rfl) (Nat.le_of_ble_eq_true rfl) (Nat.le_of_ble_eq_true rfl) [0, 1, 2, 3, 4, 5, 6] rfl rfl 0 rfl rfl rfl rfl (Nat.le_of_ble_eq_true rfl) dX6_loadWithout_3 ?_
  rintro _ _ ⟨rfl, rfl⟩
  refine ⟨rfl, ?_⟩
  refine j_w (w' := (wMo D h m sp sv (nI s) tx tl cd se ro st qa qb qd lo re cr ap nu ha)) rfl ?_
  refine j_bif_eq C dX6_loadWithout_6 (tgt := 21) (by decide) (fun _ => ?_) (fun h => (by rw [hx] at h; cases h))
  refine j_iconst C (v := (1 : Int32)) dX6_loadWithout_21 rfl ?_
  refine j_put C 0 foX6_loadWithout_29 rfl (w' := (wMo D h m sp sv (nI s) tx tl (1 : Int32) se ro st qa qb qd lo re cr ap nu ha)) rfl rfl rfl (Nat.le_of_ble_eq_true rfl) dX6_loadWithout_22 ?_
  refine j_aload_n C 0 dX6_loadWithout_25 rfl rfl ?_
  refine j_get C 0 fgX6_loadWithout_29 rfl rfl dX6_loadWithout_26 ?_
  refine j_if_eq C dX6_loadWithout_29 (tgt := 34) (by decide) (fun h => absurd h (by decide)) (fun _ => ?_)
  refine j_iconst C (v := (0 : Int32)) dX6_loadWithout_32 rfl ?_
  exact ret dX6_loadWithout_33 (⟨rfl, ⟨_, _, _, _, _, _, _, _, _, _, _, _, _, rfl⟩⟩)

set_option maxRecDepth 100000 in
set_option maxHeartbeats 4000000 in
theorem ctX6_loadWithoutY (l : Launch) (D : KD) (h : Nat → Nat) (m sp sv : Nat → Int32) (tx : Nat → Int32) (tl cd se ro st : Int32) (qa qb qd : Int64) (lo : Nat → Int32) (re : Nat → Int64) (cr ap nu : Int32) (ha : Int64) (s : Nat) (hs : s ≤ 4) (n : Nat) (hn : n ≤ 16) (hc : m 2 = nI n) (hV : mVal m n) (i : Nat) (hi : i < n) (y : Int32) (hy : pIn y 0 (m 2 - 1) = false) : MI l D yX6_loadWithout wsX6_loadWithout 2 43 0 0 [.ref (h 0), .int (nI i), .int y] (wMo D h m sp sv (nI s) tx tl cd se ro st qa qb qd lo re cr ap nu ha) (fun r w1 => r = 0 ∧ mW D h m sv (nI s) tx tl 1 w1) := by
  refine MI.of (cc := cX6_loadWithout) (nL := 4) (lv0 := [(0, .ref (h 0)), (1, .int (nI i)), (2, .int y)]) (by decide +kernel) rfl (Nat.le_of_ble_eq_true rfl) rfl ?_
  intro X hXl hin C ret
  subst hXl
  have hx : pIn (nI i) 0 (m 2 - 1) = true := pIn_blk hc hn hi
  refine j_aload_n C 0 dX6_loadWithout_0 rfl rfl ?_
  refine j_aload_n C 0 dX6_loadWithout_1 rfl rfl ?_
  refine j_iload_n C 1 dX6_loadWithout_2 rfl rfl ?_
  refine j_cv_i C (As := [.int (nI i)]) (rest := [.ref (h 0)]) (ctX6_isBlock (xl X) D h m sp sv (nI s) tx tl cd se ro st qa qb qd lo re cr ap nu ha (nI i)) mfX6_isBlock gX6_loadWithout_X6_isBlock rfl (Nat.le_of_ble_eq_true rfl) (Nat.le_of_ble_eq_true rfl) (Nat.le_of_ble_eq_true rfl) (Nat.le_of_ble_eq_true rfl) [0, 1, 2, 3, 4, 5, 6] rfl rfl 0 rfl rfl rfl rfl (Nat.le_of_ble_eq_true rfl) dX6_loadWithout_3 ?_
  rintro _ _ ⟨rfl, rfl⟩
  refine ⟨rfl, ?_⟩
  refine j_w (w' := (wMo D h m sp sv (nI s) tx tl cd se ro st qa qb qd lo re cr ap nu ha)) rfl ?_
  refine j_bif_eq C dX6_loadWithout_6 (tgt := 21) (by decide) (fun h => (by rw [hx] at h; cases h)) (fun _ => ?_)
  refine j_aload_n C 0 dX6_loadWithout_9 rfl rfl ?_
  refine j_iload_n C 2 dX6_loadWithout_10 rfl rfl ?_
  refine j_cv_i C (As := [.int y]) (rest := [.ref (h 0)]) (ctX6_isBlock (xl X) D h m sp sv (nI s) tx tl cd se ro st qa qb qd lo re cr ap nu ha y) mfX6_isBlock gX6_loadWithout_X6_isBlock rfl (Nat.le_of_ble_eq_true rfl) (Nat.le_of_ble_eq_true rfl) (Nat.le_of_ble_eq_true rfl) (Nat.le_of_ble_eq_true rfl) [0, 1, 2, 3, 4, 5, 6] rfl rfl 0 rfl rfl rfl rfl (Nat.le_of_ble_eq_true rfl) dX6_loadWithout_11 ?_
  rintro _ _ ⟨rfl, rfl⟩
  refine ⟨rfl, ?_⟩
  refine j_w (w' := (wMo D h m sp sv (nI s) tx tl cd se ro st qa qb qd lo re cr ap nu ha)) rfl ?_
  refine j_bif_eq C dX6_loadWithout_14 (tgt := 21) (by decide) (fun _ => ?_) (fun h => (by rw [hy] at h; cases h))
  refine j_iconst C (v := (1 : Int32)) dX6_loadWithout_21 rfl ?_
  refine j_put C 0 foX6_loadWithout_29 rfl (w' := (wMo D h m sp sv (nI s) tx tl (1 : Int32) se ro st qa qb qd lo re cr ap nu ha)) rfl rfl rfl (Nat.le_of_ble_eq_true rfl) dX6_loadWithout_22 ?_
  refine j_aload_n C 0 dX6_loadWithout_25 rfl rfl ?_
  refine j_get C 0 fgX6_loadWithout_29 rfl rfl dX6_loadWithout_26 ?_
  refine j_if_eq C dX6_loadWithout_29 (tgt := 34) (by decide) (fun h => absurd h (by decide)) (fun _ => ?_)
  refine j_iconst C (v := (0 : Int32)) dX6_loadWithout_32 rfl ?_
  exact ret dX6_loadWithout_33 (⟨rfl, ⟨_, _, _, _, _, _, _, _, _, _, _, _, _, rfl⟩⟩)

set_option maxRecDepth 100000 in
set_option maxHeartbeats 4000000 in
theorem ctX6_loadWithout (l : Launch) (D : KD) (h : Nat → Nat) (m sp sv : Nat → Int32) (tx : Nat → Int32) (tl cd se ro st : Int32) (qa qb qd : Int64) (lo : Nat → Int32) (re : Nat → Int64) (cr ap nu : Int32) (ha : Int64) (s : Nat) (hs : s ≤ 4) (n : Nat) (hn : n ≤ 16) (hc : m 2 = nI n) (hV : mVal m n) (i : Nat) (hi : i < n) (j : Nat) (hj : j < n) : MI l D yX6_loadWithout wsX6_loadWithout 4 91 0 0 [.ref (h 0), .int (nI i), .int (nI j)] (wMo D h m sp sv (nI s) tx tl cd se ro st qa qb qd lo re cr ap nu ha) (fun r w1 => r = mLd (mSt m j 1) n i ∧ mW D h m sv (nI s) tx tl 0 w1) := by
  refine MI.of (cc := cX6_loadWithout) (nL := 4) (lv0 := [(0, .ref (h 0)), (1, .int (nI i)), (2, .int (nI j))]) (by decide +kernel) rfl (Nat.le_of_ble_eq_true rfl) rfl ?_
  intro X hXl hin C ret
  subst hXl
  have hx : pIn (nI i) 0 (m 2 - 1) = true := pIn_blk hc hn hi
  have hy : pIn (nI j) 0 (m 2 - 1) = true := pIn_blk hc hn hj
  refine j_aload_n C 0 dX6_loadWithout_0 rfl rfl ?_
  refine j_aload_n C 0 dX6_loadWithout_1 rfl rfl ?_
  refine j_iload_n C 1 dX6_loadWithout_2 rfl rfl ?_
  refine j_cv_i C (As := [.int (nI i)]) (rest := [.ref (h 0)]) (ctX6_isBlock (xl X) D h m sp sv (nI s) tx tl cd se ro st qa qb qd lo re cr ap nu ha (nI i)) mfX6_isBlock gX6_loadWithout_X6_isBlock rfl (Nat.le_of_ble_eq_true rfl) (Nat.le_of_ble_eq_true rfl) (Nat.le_of_ble_eq_true rfl) (Nat.le_of_ble_eq_true rfl) [0, 1, 2, 3, 4, 5, 6] rfl rfl 0 rfl rfl rfl rfl (Nat.le_of_ble_eq_true rfl) dX6_loadWithout_3 ?_
  rintro _ _ ⟨rfl, rfl⟩
  refine ⟨rfl, ?_⟩
  refine j_w (w' := (wMo D h m sp sv (nI s) tx tl cd se ro st qa qb qd lo re cr ap nu ha)) rfl ?_
  refine j_bif_eq C dX6_loadWithout_6 (tgt := 21) (by decide) (fun h => (by rw [hx] at h; cases h)) (fun _ => ?_)
  refine j_aload_n C 0 dX6_loadWithout_9 rfl rfl ?_
  refine j_iload_n C 2 dX6_loadWithout_10 rfl rfl ?_
  refine j_cv_i C (As := [.int (nI j)]) (rest := [.ref (h 0)]) (ctX6_isBlock (xl X) D h m sp sv (nI s) tx tl cd se ro st qa qb qd lo re cr ap nu ha (nI j)) mfX6_isBlock gX6_loadWithout_X6_isBlock rfl (Nat.le_of_ble_eq_true rfl) (Nat.le_of_ble_eq_true rfl) (Nat.le_of_ble_eq_true rfl) (Nat.le_of_ble_eq_true rfl) [0, 1, 2, 3, 4, 5, 6] rfl rfl 0 rfl rfl rfl rfl (Nat.le_of_ble_eq_true rfl) dX6_loadWithout_11 ?_
  rintro _ _ ⟨rfl, rfl⟩
  refine ⟨rfl, ?_⟩
  refine j_w (w' := (wMo D h m sp sv (nI s) tx tl cd se ro st qa qb qd lo re cr ap nu ha)) rfl ?_
  refine j_bif_eq C dX6_loadWithout_14 (tgt := 21) (by decide) (fun h => (by rw [hy] at h; cases h)) (fun _ => ?_)
  refine j_iconst C (v := (0 : Int32)) dX6_loadWithout_17 rfl ?_
  refine j_goto C dX6_loadWithout_18 (tgt := 22) (by decide) ?_
  refine j_put C 0 foX6_loadWithout_29 rfl (w' := (wMo D h m sp sv (nI s) tx tl (0 : Int32) se ro st qa qb qd lo re cr ap nu ha)) rfl rfl rfl (Nat.le_of_ble_eq_true rfl) dX6_loadWithout_22 ?_
  refine j_aload_n C 0 dX6_loadWithout_25 rfl rfl ?_
  refine j_get C 0 fgX6_loadWithout_29 rfl rfl dX6_loadWithout_26 ?_
  refine j_if_eq C dX6_loadWithout_29 (tgt := 34) (by decide) (fun _ => ?_) (fun h => absurd (by decide) h)
  refine j_aload_n C 0 dX6_loadWithout_34 rfl rfl ?_
  refine j_iload_n C 2 dX6_loadWithout_35 rfl rfl ?_
  refine j_iconst C (v := (4 : Int32)) dX6_loadWithout_36 rfl ?_
  refine j_cv_i C (As := [.int (nI j), .int (4 : Int32)]) (rest := []) (ctX6_of (xl X) D h m sp sv (nI s) tx tl (0 : Int32) se ro st qa qb qd lo re cr ap nu ha j 4 (by omega)) mfX6_of gX6_loadWithout_X6_of rfl (Nat.le_of_ble_eq_true rfl) (Nat.le_of_ble_eq_true rfl) (Nat.le_of_ble_eq_true rfl) (Nat.le_of_ble_eq_true rfl) [0, 1, 2, 3, 4, 5, 6] rfl rfl 0 rfl rfl rfl rfl (Nat.le_of_ble_eq_true rfl) dX6_loadWithout_37 ?_
  rintro _ _ ⟨rfl, rfl⟩
  refine ⟨rfl, ?_⟩
  refine j_w (w' := (wMo D h m sp sv (nI s) tx tl (0 : Int32) se ro st qa qb qd lo re cr ap nu ha)) rfl ?_
  refine j_istore_n C dX6_loadWithout_40 rfl (by decide) (lv' := [(3, .int (m (3 + 6 * j + 4))), (0, .ref (h 0)), (1, .int (nI i)), (2, .int (nI j))]) rfl ?_
  refine j_aload_n C 1 dX6_loadWithout_41 rfl rfl ?_
  refine j_iload_n C 3 dX6_loadWithout_42 rfl rfl ?_
  refine j_iconst C (v := (4 : Int32)) dX6_loadWithout_43 rfl ?_
  refine j_iconst C (v := (1 : Int32)) dX6_loadWithout_44 rfl ?_
  refine j_cv_v C (As := [.int (nI j), .int (4 : Int32), .int (1 : Int32)]) (rest := []) (ctX6_lay (xl X) D h m sp sv (nI s) tx tl (0 : Int32) se ro st qa qb qd lo re cr ap nu ha j 4 (1 : Int32) (by omega)) mfX6_lay gX6_loadWithout_X6_lay rfl (Nat.le_of_ble_eq_true rfl) (Nat.le_of_ble_eq_true rfl) (Nat.le_of_ble_eq_true rfl) (Nat.le_of_ble_eq_true rfl) [0, 1, 2, 3, 4, 5, 6] rfl rfl 0 rfl rfl rfl rfl (Nat.le_of_ble_eq_true rfl) dX6_loadWithout_45 ?_
  rintro _ rfl
  refine ⟨rfl, ?_⟩
  refine j_w (w' := (wMo D h (upd m (3 + 6 * j + 4) (1 : Int32)) sp sv (nI s) tx tl (0 : Int32) se ro st qa qb qd lo re cr ap nu ha)) rfl ?_
  show J D X (wMo D h (mSt m j 1) sp sv (nI s) tx tl (0 : Int32) se ro st qa qb qd lo re cr ap nu ha) 0 0 _ _ _
  refine j_aload_n C 1 dX6_loadWithout_48 rfl rfl ?_
  refine j_cv_v C (As := []) (rest := []) (ctX6_settle (xl X) D h (mSt m j 1) sp sv (nI s) tx tl (0 : Int32) se ro st qa qb qd lo re cr ap nu ha n (by first | assumption | omega | decide) ((mSt_2 m j 1).trans hc) (mSt_val hV (Or.inr (Or.inl rfl)))) mfX6_settle gX6_loadWithout_X6_settle rfl (Nat.le_of_ble_eq_true rfl) (Nat.le_of_ble_eq_true rfl) (Nat.le_of_ble_eq_true rfl) (Nat.le_of_ble_eq_true rfl) [0, 1, 2, 3, 4, 5, 6] rfl rfl 0 rfl rfl rfl rfl (Nat.le_of_ble_eq_true rfl) dX6_loadWithout_49 ?_
  rintro _ ⟨sx_49, rx_49, hsx_49, rfl⟩
  refine ⟨rfl, ?_⟩
  refine j_w (w' := (wMo D h (mSt m j 1) sp sv (nI s) tx tl (0 : Int32) sx_49 (nI (mR (mSt m j 1) n).2.1) (bI (mR (mSt m j 1) n).1) ((mR (mSt m j 1) n).2.2.2.1) ((mR (mSt m j 1) n).2.2.2.2.1) ((mR (mSt m j 1) n).2.2.2.2.2) (mLo (mSt m j 1) n) rx_49 cr ap nu ha)) rfl ?_
  refine j_aload_n C 1 dX6_loadWithout_52 rfl rfl ?_
  refine j_iload_n C 3 dX6_loadWithout_53 rfl rfl ?_
  refine j_iconst C (v := (4 : Int32)) dX6_loadWithout_54 rfl ?_
  refine j_iload_n C 0 dX6_loadWithout_55 rfl rfl ?_
  refine j_cv_v C (As := [.int (nI j), .int (4 : Int32), .int (m (3 + 6 * j + 4))]) (rest := []) (ctX6_lay (xl X) D h (mSt m j 1) sp sv (nI s) tx tl (0 : Int32) sx_49 (nI (mR (mSt m j 1) n).2.1) (bI (mR (mSt m j 1) n).1) ((mR (mSt m j 1) n).2.2.2.1) ((mR (mSt m j 1) n).2.2.2.2.1) ((mR (mSt m j 1) n).2.2.2.2.2) (mLo (mSt m j 1) n) rx_49 cr ap nu ha j 4 (m (3 + 6 * j + 4)) (by omega)) mfX6_lay gX6_loadWithout_X6_lay rfl (Nat.le_of_ble_eq_true rfl) (Nat.le_of_ble_eq_true rfl) (Nat.le_of_ble_eq_true rfl) (Nat.le_of_ble_eq_true rfl) [0, 1, 2, 3, 4, 5, 6] rfl rfl 0 rfl rfl rfl rfl (Nat.le_of_ble_eq_true rfl) dX6_loadWithout_56 ?_
  rintro _ rfl
  refine ⟨rfl, ?_⟩
  refine j_w (w' := (wMo D h (upd (mSt m j 1) (3 + 6 * j + 4) (m (3 + 6 * j + 4))) sp sv (nI s) tx tl (0 : Int32) sx_49 (nI (mR (mSt m j 1) n).2.1) (bI (mR (mSt m j 1) n).1) ((mR (mSt m j 1) n).2.2.2.1) ((mR (mSt m j 1) n).2.2.2.2.1) ((mR (mSt m j 1) n).2.2.2.2.2) (mLo (mSt m j 1) n) rx_49 cr ap nu ha)) rfl ?_
  rw [show upd (mSt m j 1) (3 + 6 * j + 4) (m (3 + 6 * j + 4)) = m from upd_back rfl]
  refine j_aload_n C 1 dX6_loadWithout_59 rfl rfl ?_
  refine j_get C 0 fgX6_loadWithout_78 rfl rfl dX6_loadWithout_60 ?_
  refine j_bif_eq C dX6_loadWithout_63 (tgt := 75) (by decide) (fun h63 => ?_) (fun h63 => ?_)
  · refine j_iconst C (v := (-1 : Int32)) dX6_loadWithout_75 rfl ?_
    exact ret dX6_loadWithout_76 (⟨by simp [mLd, h63], ⟨_, _, _, _, _, _, _, _, _, _, _, _, _, rfl⟩⟩)
  · refine j_aload_n C 1 dX6_loadWithout_66 rfl rfl ?_
    refine j_get C 0 fgX6_loadWithout_22 rfl rfl dX6_loadWithout_67 ?_
    refine j_iload_n C 2 dX6_loadWithout_70 rfl rfl ?_
    refine j_iald C 5 rfl (i := i) rfl (by omega) (by decide) dX6_loadWithout_71 ?_
    refine j_goto C dX6_loadWithout_72 (tgt := 76) (by decide) ?_
    exact ret dX6_loadWithout_76 (⟨by simp [mLd, h63], ⟨_, _, _, _, _, _, _, _, _, _, _, _, _, rfl⟩⟩)
