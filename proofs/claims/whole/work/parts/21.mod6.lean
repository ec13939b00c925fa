set_option maxRecDepth 100000 in
set_option maxHeartbeats 4000000 in
theorem ctX6_pullable (l : Launch) (D : KD) (h : Nat → Nat) (m sp sv : Nat → Int32) (tx : Nat → Int32) (tl cd se ro st : Int32) (qa qb qd : Int64) (lo : Nat → Int32) (re : Nat → Int64) (cr ap nu : Int32) (ha : Int64) (s : Nat) (hs : s ≤ 4) (n : Nat) (hn : n ≤ 16) (hc : m 2 = nI n) (hV : mVal m n) : MI l D yX6_pullable wsX6_pullable 5 112 0 0 [.ref (h 0)] (wMo D h m sp sv (nI s) tx tl cd se ro st qa qb qd lo re cr ap nu ha) (fun r w1 => r = pln m n n ∧ mW D h m sv (nI s) tx tl 0 w1) := by
  refine MI.of (cc := cX6_pullable) (nL := 3) (lv0 := [(0, .ref (h 0))]) (by decide +kernel) rfl (Nat.le_of_ble_eq_true rfl) rfl ?_
  intro X hXl hin C ret
  subst hXl
  refine j_aload_n C 0 dX6_pullable_0 rfl rfl ?_
  refine j_iconst C (v := (0 : Int32)) dX6_pullable_1 rfl ?_
  refine j_put C 0 foX6_pullable_29 rfl (w' := (wMo D h m sp sv (nI s) tx tl (0 : Int32) se ro st qa qb qd lo re cr ap nu ha)) rfl rfl rfl (Nat.le_of_ble_eq_true rfl) dX6_pullable_2 ?_
  refine j_iconst C (v := (0 : Int32)) dX6_pullable_5 rfl ?_
  refine j_istore_n C dX6_pullable_6 rfl (by decide) (lv' := [(1, .int (0 : Int32)), (0, .ref (h 0))]) rfl ?_
  refine j_iconst C (v := (0 : Int32)) dX6_pullable_7 rfl ?_
  refine j_istore_n C dX6_pullable_8 rfl (by decide) (lv' := [(2, .int (0 : Int32)), (1, .int (0 : Int32)), (0, .ref (h 0))]) rfl ?_
  have hl9 : ∀ i9, i9 ≤ n → ∀ (t9 : Int32), t9 = pln m n i9 → ∀ (se0 ro0 st0 : Int32) (qa0 qb0 qd0 : Int64) (lo0 : Nat → Int32) (re0 : Nat → Int64), J D X (wMo D h m sp sv (nI s) tx tl (0 : Int32) se0 ro0 st0 qa0 qb0 qd0 lo0 re0 cr ap nu ha) 0 0 9 [(2, .int (nI i9)), (1, .int t9), (0, .ref (h 0))] [] := by
    refine for_up (n) ?_ ?_
    · intro t9 ht9 se0 ro0 st0 qa0 qb0 qd0 lo0 re0
      refine j_iload_n C 0 dX6_pullable_9 rfl rfl ?_
      refine j_aload_n C 2 dX6_pullable_10 rfl rfl ?_
      refine j_get C 0 fgX6_pullable_7 rfl rfl dX6_pullable_11 ?_
      refine j_iconst C (v := (2 : Int32)) dX6_pullable_14 rfl ?_
      refine j_iald C 1 rfl (i := 2) rfl (by decide) (by decide) dX6_pullable_15 ?_
      refine j_eqi (y := nI n) hc ?_
      refine j_icmp_ge C dX6_pullable_16 (tgt := 41) (by decide) (fun _ => ?_) (fun h => absurd (Int32.le_refl _) h)
      refine j_iload_n C 1 dX6_pullable_41 rfl rfl ?_
      exact ret dX6_pullable_42 (⟨ht9, ⟨_, _, _, _, _, _, _, _, _, _, _, _, _, rfl⟩⟩)
    · intro i9 hi9 ih9 t9 ht9 se0 ro0 st0 qa0 qb0 qd0 lo0 re0
      refine j_iload_n C 0 dX6_pullable_9 rfl rfl ?_
      refine j_aload_n C 2 dX6_pullable_10 rfl rfl ?_
      refine j_get C 0 fgX6_pullable_7 rfl rfl dX6_pullable_11 ?_
      refine j_iconst C (v := (2 : Int32)) dX6_pullable_14 rfl ?_
      refine j_iald C 1 rfl (i := 2) rfl (by decide) (by decide) dX6_pullable_15 ?_
      refine j_eqi (y := nI n) hc ?_
      refine j_icmp_ge C dX6_pullable_16 (tgt := 41) (by decide) (fun h => absurd h (nI_ge hi9 (by omega))) (fun _ => ?_)
      refine j_iload_n C 1 dX6_pullable_19 rfl rfl ?_
      refine j_aload_n C 2 dX6_pullable_20 rfl rfl ?_
      refine j_iload_n C 0 dX6_pullable_21 rfl rfl ?_
      by_cases hc0 : m (3 + 6 * i9 + 4) = 0
      · refine j_cv_i C (As := [.int (nI i9)]) (rest := [.int t9]) (ctX6_canPull (xl X) D h m sp sv (nI s) tx tl (0 : Int32) se0 ro0 st0 qa0 qb0 qd0 lo0 re0 cr ap nu ha n (by first | assumption | omega | decide) (by first | assumption | omega | decide) i9 (by first | assumption | omega | decide) (mSt_val hV (Or.inr (Or.inl rfl))) (by first | assumption | omega | decide)) mfX6_canPull gX6_pullable_X6_canPull rfl (Nat.le_of_ble_eq_true rfl) (Nat.le_of_ble_eq_true rfl) (Nat.le_of_ble_eq_true rfl) (Nat.le_of_ble_eq_true rfl) [0, 1, 2, 3, 4, 5, 6] rfl rfl 0 rfl rfl rfl rfl (Nat.le_of_ble_eq_true rfl) dX6_pullable_22 ?_
        rintro r_22 _ ⟨sx_22, rx_22, rfl, rfl⟩
        refine ⟨rfl, ?_⟩
        refine j_w (w' := (wMo D h m sp sv (nI s) tx tl (0 : Int32) sx_22 (nI (mR (mSt m i9 1) n).2.1) (bI (mR (mSt m i9 1) n).1) ((mR (mSt m i9 1) n).2.2.2.1) ((mR (mSt m i9 1) n).2.2.2.2.1) ((mR (mSt m i9 1) n).2.2.2.2.2) (mLo (mSt m i9 1) n) rx_22 cr ap nu ha)) rfl ?_
        refine j_bif_eq C dX6_pullable_25 (tgt := 32) (by decide) (fun h25 => ?_) (fun h25 => ?_)
        · refine j_iconst C (v := (0 : Int32)) dX6_pullable_32 rfl ?_
          refine j_iadd C dX6_pullable_33 ?_
          refine j_istore_n C dX6_pullable_34 rfl (by decide) (lv' := [(1, .int (t9 + (0 : Int32))), (2, .int (nI i9)), (0, .ref (h 0))]) rfl ?_
          refine j_iinc C 1 dX6_pullable_35 rfl (v := nI (i9 + 1)) (nI_1 _) (by decide) (lv' := [(2, .int (nI (i9 + 1))), (1, .int (t9 + (0 : Int32))), (0, .ref (h 0))]) rfl ?_
          refine j_goto C dX6_pullable_38 (tgt := 9) (by decide) ?_
          refine j_sub [0, 1, 2] (lv' := [(2, .int (nI (i9 + 1))), (1, .int (t9 + (0 : Int32))), (0, .ref (h 0))]) rfl ?_
          exact ih9 (t9 + (0 : Int32)) (by rw [pln, ← ht9, h25, show decide (mT m i9 = 0) = true from decide_eq_true hc0]; rfl) _ _ _ _ _ _ _ _
        · refine j_iconst C (v := (1 : Int32)) dX6_pullable_28 rfl ?_
          refine j_goto C dX6_pullable_29 (tgt := 33) (by decide) ?_
          refine j_iadd C dX6_pullable_33 ?_
          refine j_istore_n C dX6_pullable_34 rfl (by decide) (lv' := [(1, .int (t9 + (1 : Int32))), (2, .int (nI i9)), (0, .ref (h 0))]) rfl ?_
          refine j_iinc C 1 dX6_pullable_35 rfl (v := nI (i9 + 1)) (nI_1 _) (by decide) (lv' := [(2, .int (nI (i9 + 1))), (1, .int (t9 + (1 : Int32))), (0, .ref (h 0))]) rfl ?_
          refine j_goto C dX6_pullable_38 (tgt := 9) (by decide) ?_
          refine j_sub [0, 1, 2] (lv' := [(2, .int (nI (i9 + 1))), (1, .int (t9 + (1 : Int32))), (0, .ref (h 0))]) rfl ?_
          exact ih9 (t9 + (1 : Int32)) (by rw [pln, ← ht9, h25, show decide (mT m i9 = 0) = true from decide_eq_true hc0]; rfl) _ _ _ _ _ _ _ _
      · refine j_cv_i C (As := [.int (nI i9)]) (rest := [.int t9]) (ctX6_canPullN (xl X) D h m sp sv (nI s) tx tl (0 : Int32) se0 ro0 st0 qa0 qb0 qd0 lo0 re0 cr ap nu ha i9 (by first | assumption | omega | decide) (by first | assumption | omega | decide)) mfX6_canPull gX6_pullable_X6_canPull rfl (Nat.le_of_ble_eq_true rfl) (Nat.le_of_ble_eq_true rfl) (Nat.le_of_ble_eq_true rfl) (Nat.le_of_ble_eq_true rfl) [0, 1, 2, 3, 4, 5, 6] rfl rfl 0 rfl rfl rfl rfl (Nat.le_of_ble_eq_true rfl) dX6_pullable_22 ?_
        rintro _ _ ⟨rfl, rfl⟩
        refine ⟨rfl, ?_⟩
        refine j_w (w' := (wMo D h m sp sv (nI s) tx tl (0 : Int32) se0 ro0 st0 qa0 qb0 qd0 lo0 re0 cr ap nu ha)) rfl ?_
        refine j_bif_eq C dX6_pullable_25 (tgt := 32) (by decide) (fun _ => ?_) (fun h => (by simp at h))
        refine j_iconst C (v := (0 : Int32)) dX6_pullable_32 rfl ?_
        refine j_iadd C dX6_pullable_33 ?_
        refine j_istore_n C dX6_pullable_34 rfl (by decide) (lv' := [(1, .int (t9 + (0 : Int32))), (2, .int (nI i9)), (0, .ref (h 0))]) rfl ?_
        refine j_iinc C 1 dX6_pullable_35 rfl (v := nI (i9 + 1)) (nI_1 _) (by decide) (lv' := [(2, .int (nI (i9 + 1))), (1, .int (t9 + (0 : Int32))), (0, .ref (h 0))]) rfl ?_
        refine j_goto C dX6_pullable_38 (tgt := 9) (by decide) ?_
        refine j_sub [0, 1, 2] (lv' := [(2, .int (nI (i9 + 1))), (1, .int (t9 + (0 : Int32))), (0, .ref (h 0))]) rfl ?_
        exact ih9 (t9 + (0 : Int32)) (by rw [pln, ← ht9, show (decide (mT m i9 = 0) && cpl m n i9) = false from by simp [show ¬ mT m i9 = 0 from hc0]]; rfl) _ _ _ _ _ _ _ _
  refine j_sub [0, 1, 2] (lv' := [(2, .int (0 : Int32)), (1, .int (0 : Int32)), (0, .ref (h 0))]) rfl ?_
  exact hl9 0 (Nat.zero_le _) (0 : Int32) rfl _ _ _ _ _ _ _ _

set_option maxRecDepth 100000 in
set_option maxHeartbeats 4000000 in
theorem ctX6_fallSteps (l : Launch) (D : KD) (h : Nat → Nat) (m sp sv : Nat → Int32) (sc : Int32) (tx : Nat → Int32) (tl cd se ro st : Int32) (qa qb qd : Int64) (lo : Nat → Int32) (re : Nat → Int64) (cr ap nu : Int32) (ha : Int64) (n : Nat) (hn : n ≤ 16) (hc : m 2 = nI n) (hV : mVal m n) : MI l D yX6_fallSteps wsX6_fallSteps 5 114 0 0 [.ref (h 0)] (wMo D h m sp sv sc tx tl cd se ro st qa qb qd lo re cr ap nu ha) (fun r w1 => ∃ (sp1 : Nat → Int32) (se1 : Int32) (re1 : Nat → Int64), r = (fal n 16 m 0 0).2.1 ∧ w1 = wMo D h m sp1 sv sc tx tl cd se1 (nI (mR ((fal n 16 m 0 0).1) n).2.1) (bI (mR ((fal n 16 m 0 0).1) n).1) ((mR ((fal n 16 m 0 0).1) n).2.2.2.1) ((mR ((fal n 16 m 0 0).1) n).2.2.2.2.1) ((mR ((fal n 16 m 0 0).1) n).2.2.2.2.2) (mLo ((fal n 16 m 0 0).1) n) re1 ((fal n 16 m 0 0).2.2) ap nu ha) := by
  refine MI.of (cc := cX6_fallSteps) (nL := 2) (lv0 := [(0, .ref (h 0))]) (by decide +kernel) rfl (Nat.le_of_ble_eq_true rfl) rfl ?_
  intro X hXl hin C ret
  subst hXl
  refine j_aload_n C 0 dX6_fallSteps_0 rfl rfl ?_
  refine j_get C 0 fgX6_fallSteps_7 rfl rfl dX6_fallSteps_1 ?_
  refine j_iconst C (v := (0 : Int32)) dX6_fallSteps_4 rfl ?_
  refine j_aload_n C 0 dX6_fallSteps_5 rfl rfl ?_
  refine j_get C 0 fgX6_fallSteps_13 rfl rfl dX6_fallSteps_6 ?_
  refine j_iconst C (v := (0 : Int32)) dX6_fallSteps_9 rfl ?_
  refine j_cs_v C (As := [.ref (h 1), .int (0 : Int32), .ref (h 2), .int (0 : Int32)]) (rest := []) (ctX6_bring (xl X) D (h 1) (h 2) 99 99 0 0 m sp (by first | assumption | omega | decide) (by first | assumption | omega | decide) (by first | assumption | omega | decide) (by first | assumption | omega | decide)) mfX6_bring gX6_fallSteps_X6_bring rfl (Nat.le_of_ble_eq_true rfl) (Nat.le_of_ble_eq_true rfl) (Nat.le_of_ble_eq_true rfl) (Nat.le_of_ble_eq_true rfl) [1, 2] rfl rfl rfl (Nat.le_of_ble_eq_true rfl) dX6_fallSteps_10 ?_
  rintro _ rfl
  refine ⟨rfl, ?_⟩
  refine j_w (w' := (wMo D h m (va_cpy m sp 0 0 99) sv sc tx tl cd se ro st qa qb qd lo re cr ap nu ha)) rfl ?_
  refine j_aload_n C 0 dX6_fallSteps_13 rfl rfl ?_
  refine j_cv_i C (As := []) (rest := []) (ctX6_fall (xl X) D h m (va_cpy m sp 0 0 99) sv sc tx tl cd se ro st qa qb qd lo re cr ap nu ha n (by first | assumption | omega | decide) (by first | assumption | omega | decide) (by first | assumption | omega | decide)) mfX6_fall gX6_fallSteps_X6_fall rfl (Nat.le_of_ble_eq_true rfl) (Nat.le_of_ble_eq_true rfl) (Nat.le_of_ble_eq_true rfl) (Nat.le_of_ble_eq_true rfl) [0, 1, 2, 3, 4, 5, 6] rfl rfl 0 rfl rfl rfl rfl (Nat.le_of_ble_eq_true rfl) dX6_fallSteps_14 ?_
  rintro r_14 _ ⟨sx_14, rx_14, rfl, rfl⟩
  refine ⟨rfl, ?_⟩
  refine j_w (w' := (wMo D h ((fal n 16 m 0 0).1) (va_cpy m sp 0 0 99) sv sc tx tl cd sx_14 (nI (mR ((fal n 16 m 0 0).1) n).2.1) (bI (mR ((fal n 16 m 0 0).1) n).1) ((mR ((fal n 16 m 0 0).1) n).2.2.2.1) ((mR ((fal n 16 m 0 0).1) n).2.2.2.2.1) ((mR ((fal n 16 m 0 0).1) n).2.2.2.2.2) (mLo ((fal n 16 m 0 0).1) n) rx_14 ((fal n 16 m 0 0).2.2) ap nu ha)) rfl ?_
  refine j_istore_n C dX6_fallSteps_17 rfl (by decide) (lv' := [(1, .int ((fal n 16 m 0 0).2.1)), (0, .ref (h 0))]) rfl ?_
  refine j_aload_n C 1 dX6_fallSteps_18 rfl rfl ?_
  refine j_get C 0 fgX6_fallSteps_13 rfl rfl dX6_fallSteps_19 ?_
  refine j_iconst C (v := (0 : Int32)) dX6_fallSteps_22 rfl ?_
  refine j_aload_n C 1 dX6_fallSteps_23 rfl rfl ?_
  refine j_get C 0 fgX6_fallSteps_7 rfl rfl dX6_fallSteps_24 ?_
  refine j_iconst C (v := (0 : Int32)) dX6_fallSteps_27 rfl ?_
  refine j_cs_v C (As := [.ref (h 2), .int (0 : Int32), .ref (h 1), .int (0 : Int32)]) (rest := []) (ctX6_bring (xl X) D (h 2) (h 1) 99 99 0 0 (va_cpy m sp 0 0 99) ((fal n 16 m 0 0).1) (by first | assumption | omega | decide) (by first | assumption | omega | decide) (by first | assumption | omega | decide) (by first | assumption | omega | decide)) mfX6_bring gX6_fallSteps_X6_bring rfl (Nat.le_of_ble_eq_true rfl) (Nat.le_of_ble_eq_true rfl) (Nat.le_of_ble_eq_true rfl) (Nat.le_of_ble_eq_true rfl) [2, 1] rfl rfl rfl (Nat.le_of_ble_eq_true rfl) dX6_fallSteps_28 ?_
  rintro _ rfl
  refine ⟨rfl, ?_⟩
  refine j_w (w' := (wMo D h (va_cpy (va_cpy m sp 0 0 99) ((fal n 16 m 0 0).1) 0 0 99) (va_cpy m sp 0 0 99) sv sc tx tl cd sx_14 (nI (mR ((fal n 16 m 0 0).1) n).2.1) (bI (mR ((fal n 16 m 0 0).1) n).1) ((mR ((fal n 16 m 0 0).1) n).2.2.2.1) ((mR ((fal n 16 m 0 0).1) n).2.2.2.2.1) ((mR ((fal n 16 m 0 0).1) n).2.2.2.2.2) (mLo ((fal n 16 m 0 0).1) n) rx_14 ((fal n 16 m 0 0).2.2) ap nu ha)) rfl ?_
  refine j_asi 1 m rfl (fun j hj => (cpy_at _ _ j hj).trans (cpy_at _ _ j hj)) (w' := (wMo D h m (va_cpy m sp 0 0 99) sv sc tx tl cd sx_14 (nI (mR ((fal n 16 m 0 0).1) n).2.1) (bI (mR ((fal n 16 m 0 0).1) n).1) ((mR ((fal n 16 m 0 0).1) n).2.2.2.1) ((mR ((fal n 16 m 0 0).1) n).2.2.2.2.1) ((mR ((fal n 16 m 0 0).1) n).2.2.2.2.2) (mLo ((fal n 16 m 0 0).1) n) rx_14 ((fal n 16 m 0 0).2.2) ap nu ha)) rfl ?_
  refine j_iload_n C 0 dX6_fallSteps_31 rfl rfl ?_
  exact ret dX6_fallSteps_32 (⟨_, _, _, rfl, rfl⟩)

set_option maxRecDepth 100000 in
set_option maxHeartbeats 4000000 in
theorem ctX6_cascadeSteps (l : Launch) (D : KD) (h : Nat → Nat) (m sp sv : Nat → Int32) (tx : Nat → Int32) (tl cd se ro st : Int32) (qa qb qd : Int64) (lo : Nat → Int32) (re : Nat → Int64) (cr ap nu : Int32) (ha : Int64) (s : Nat) (hs : s ≤ 4) (n : Nat) (hn : n ≤ 16) (hc : m 2 = nI n) (hV : mVal m n) : MI l D yX6_cascadeSteps wsX6_cascadeSteps 6 135 0 0 [.ref (h 0)] (wMo D h m sp sv (nI s) tx tl cd se ro st qa qb qd lo re cr ap nu ha) (fun r w1 => r = (fal n 16 m 0 0).2.1 ∧ mW D h m sv (nI s) tx tl 0 w1) := by
  refine MI.of (cc := cX6_cascadeSteps) (nL := 1) (lv0 := [(0, .ref (h 0))]) (by decide +kernel) rfl (Nat.le_of_ble_eq_true rfl) rfl ?_
  intro X hXl hin C ret
  subst hXl
  refine j_aload_n C 0 dX6_cascadeSteps_0 rfl rfl ?_
  refine j_iconst C (v := (0 : Int32)) dX6_cascadeSteps_1 rfl ?_
  refine j_put C 0 foX6_cascadeSteps_29 rfl (w' := (wMo D h m sp sv (nI s) tx tl (0 : Int32) se ro st qa qb qd lo re cr ap nu ha)) rfl rfl rfl (Nat.le_of_ble_eq_true rfl) dX6_cascadeSteps_2 ?_
  refine j_aload_n C 0 dX6_cascadeSteps_5 rfl rfl ?_
  refine j_cv_i C (As := []) (rest := []) (ctX6_fallSteps (xl X) D h m sp sv (nI s) tx tl (0 : Int32) se ro st qa qb qd lo re cr ap nu ha n (by first | assumption | omega | decide) (by first | assumption | omega | decide) (by first | assumption | omega | decide)) mfX6_fallSteps gX6_cascadeSteps_X6_fallSteps rfl (Nat.le_of_ble_eq_true rfl) (Nat.le_of_ble_eq_true rfl) (Nat.le_of_ble_eq_true rfl) (Nat.le_of_ble_eq_true rfl) [0, 1, 2, 3, 4, 5, 6] rfl rfl 0 rfl rfl rfl rfl (Nat.le_of_ble_eq_true rfl) dX6_cascadeSteps_6 ?_
  rintro r_6 _ ⟨px_6, sx_6, rx_6, rfl, rfl⟩
  refine ⟨rfl, ?_⟩
  refine j_w (w' := (wMo D h m px_6 sv (nI s) tx tl (0 : Int32) sx_6 (nI (mR ((fal n 16 m 0 0).1) n).2.1) (bI (mR ((fal n 16 m 0 0).1) n).1) ((mR ((fal n 16 m 0 0).1) n).2.2.2.1) ((mR ((fal n 16 m 0 0).1) n).2.2.2.2.1) ((mR ((fal n 16 m 0 0).1) n).2.2.2.2.2) (mLo ((fal n 16 m 0 0).1) n) rx_6 ((fal n 16 m 0 0).2.2) ap nu ha)) rfl ?_
  exact ret dX6_cascadeSteps_9 (⟨rfl, ⟨_, _, _, _, _, _, _, _, _, _, _, _, _, rfl⟩⟩)

set_option maxRecDepth 100000 in
set_option maxHeartbeats 4000000 in
theorem ctX6_survives (l : Launch) (D : KD) (h : Nat → Nat) (m sp sv : Nat → Int32) (tx : Nat → Int32) (tl cd se ro st : Int32) (qa qb qd : Int64) (lo : Nat → Int32) (re : Nat → Int64) (cr ap nu : Int32) (ha : Int64) (s : Nat) (hs : s ≤ 4) (n : Nat) (hn : n ≤ 16) (hc : m 2 = nI n) (hV : mVal m n) : MI l D yX6_survives wsX6_survives 6 135 0 0 [.ref (h 0)] (wMo D h m sp sv (nI s) tx tl cd se ro st qa qb qd lo re cr ap nu ha) (fun r w1 => r = bI (mR (fal n 16 m 0 0).1 n).1 ∧ mW D h m sv (nI s) tx tl 0 w1) := by
  refine MI.ofz (cc := cX6_survives) (nL := 2) (lv0 := [(0, .ref (h 0))]) (by decide +kernel) rfl (Nat.le_of_ble_eq_true rfl) rfl ?_
  intro X hXl hin C ret
  subst hXl
  refine j_aload_n C 0 dX6_survives_0 rfl rfl ?_
  refine j_iconst C (v := (0 : Int32)) dX6_survives_1 rfl ?_
  refine j_put C 0 foX6_survives_29 rfl (w' := (wMo D h m sp sv (nI s) tx tl (0 : Int32) se ro st qa qb qd lo re cr ap nu ha)) rfl rfl rfl (Nat.le_of_ble_eq_true rfl) dX6_survives_2 ?_
  refine j_aload_n C 0 dX6_survives_5 rfl rfl ?_
  refine j_cv_i C (As := []) (rest := []) (ctX6_fallSteps (xl X) D h m sp sv (nI s) tx tl (0 : Int32) se ro st qa qb qd lo re cr ap nu ha n (by first | assumption | omega | decide) (by first | assumption | omega | decide) (by first | assumption | omega | decide)) mfX6_fallSteps gX6_survives_X6_fallSteps rfl (Nat.le_of_ble_eq_true rfl) (Nat.le_of_ble_eq_true rfl) (Nat.le_of_ble_eq_true rfl) (Nat.le_of_ble_eq_true rfl) [0, 1, 2, 3, 4, 5, 6] rfl rfl 0 rfl rfl rfl rfl (Nat.le_of_ble_eq_true rfl) dX6_survives_6 ?_
  rintro r_6 _ ⟨px_6, sx_6, rx_6, rfl, rfl⟩
  refine ⟨rfl, ?_⟩
  refine j_w (w' := (wMo D h m px_6 sv (nI s) tx tl (0 : Int32) sx_6 (nI (mR ((fal n 16 m 0 0).1) n).2.1) (bI (mR ((fal n 16 m 0 0).1) n).1) ((mR ((fal n 16 m 0 0).1) n).2.2.2.1) ((mR ((fal n 16 m 0 0).1) n).2.2.2.2.1) ((mR ((fal n 16 m 0 0).1) n).2.2.2.2.2) (mLo ((fal n 16 m 0 0).1) n) rx_6 ((fal n 16 m 0 0).2.2) ap nu ha)) rfl ?_
  refine j_istore_n C dX6_survives_9 rfl (by decide) (lv' := [(1, .int ((fal n 16 m 0 0).2.1)), (0, .ref (h 0))]) rfl ?_
  refine j_aload_n C 1 dX6_survives_10 rfl rfl ?_
  refine j_get C 0 fgX6_survives_78 rfl rfl dX6_survives_11 ?_
  exact ret dX6_survives_14 (bI_01 _) (⟨rfl, ⟨_, _, _, _, _, _, _, _, _, _, _, _, _, rfl⟩⟩)

set_option maxRecDepth 100000 in
set_option maxHeartbeats 4000000 in
theorem ctX6_shavingSteps (l : Launch) (D : KD) (h : Nat → Nat) (m sp sv : Nat → Int32) (tx : Nat → Int32) (tl cd se ro st : Int32) (qa qb qd : Int64) (lo : Nat → Int32) (re : Nat → Int64) (cr ap nu : Int32) (ha : Int64) (s : Nat) (hs : s ≤ 4) (n : Nat) (hn : n ≤ 16) (hc : m 2 = nI n) (hV : mVal m n) : MI l D yX6_shavingSteps wsX6_shavingSteps 5 113 0 0 [.ref (h 0)] (wMo D h m sp sv (nI s) tx tl cd se ro st qa qb qd lo re cr ap nu ha) (fun r w1 => r = mSs m n ∧ mW D h m sv (nI s) tx tl 0 w1) := by
  refine MI.of (cc := cX6_shavingSteps) (nL := 3) (lv0 := [(0, .ref (h 0))]) (by decide +kernel) rfl (Nat.le_of_ble_eq_true rfl) rfl ?_
  intro X hXl hin C ret
  subst hXl
  refine j_aload_n C 0 dX6_shavingSteps_0 rfl rfl ?_
  refine j_iconst C (v := (0 : Int32)) dX6_shavingSteps_1 rfl ?_
  refine j_put C 0 foX6_shavingSteps_29 rfl (w' := (wMo D h m sp sv (nI s) tx tl (0 : Int32) se ro st qa qb qd lo re cr ap nu ha)) rfl rfl rfl (Nat.le_of_ble_eq_true rfl) dX6_shavingSteps_2 ?_
  refine j_aload_n C 0 dX6_shavingSteps_5 rfl rfl ?_
  refine j_get C 0 fgX6_shavingSteps_7 rfl rfl dX6_shavingSteps_6 ?_
  refine j_iconst C (v := (0 : Int32)) dX6_shavingSteps_9 rfl ?_
  refine j_aload_n C 0 dX6_shavingSteps_10 rfl rfl ?_
  refine j_get C 0 fgX6_shavingSteps_13 rfl rfl dX6_shavingSteps_11 ?_
  refine j_iconst C (v := (0 : Int32)) dX6_shavingSteps_14 rfl ?_
  refine j_cs_v C (As := [.ref (h 1), .int (0 : Int32), .ref (h 2), .int (0 : Int32)]) (rest := []) (ctX6_bring (xl X) D (h 1) (h 2) 99 99 0 0 m sp (by first | assumption | omega | decide) (by first | assumption | omega | decide) (by first | assumption | omega | decide) (by first | assumption | omega | decide)) mfX6_bring gX6_shavingSteps_X6_bring rfl (Nat.le_of_ble_eq_true rfl) (Nat.le_of_ble_eq_true rfl) (Nat.le_of_ble_eq_true rfl) (Nat.le_of_ble_eq_true rfl) [1, 2] rfl rfl rfl (Nat.le_of_ble_eq_true rfl) dX6_shavingSteps_15 ?_
  rintro _ rfl
  refine ⟨rfl, ?_⟩
  refine j_w (w' := (wMo D h m (va_cpy m sp 0 0 99) sv (nI s) tx tl (0 : Int32) se ro st qa qb qd lo re cr ap nu ha)) rfl ?_
  refine j_aload_n C 0 dX6_shavingSteps_18 rfl rfl ?_
  refine j_cv_i C (As := []) (rest := []) (ctX6_shaves (xl X) D h m (va_cpy m sp 0 0 99) sv (nI s) tx tl (0 : Int32) se ro st qa qb qd lo re cr ap nu ha n (by first | assumption | omega | decide) (by first | assumption | omega | decide) (by first | assumption | omega | decide)) mfX6_shaves gX6_shavingSteps_X6_shaves rfl (Nat.le_of_ble_eq_true rfl) (Nat.le_of_ble_eq_true rfl) (Nat.le_of_ble_eq_true rfl) (Nat.le_of_ble_eq_true rfl) [0, 1, 2, 3, 4, 5, 6] rfl rfl 0 rfl rfl rfl rfl (Nat.le_of_ble_eq_true rfl) dX6_shavingSteps_19 ?_
  rintro r_19 _ ⟨sx_19, rx_19, rfl, rfl⟩
  refine ⟨rfl, ?_⟩
  refine j_w (w' := (wMo D h ((shv n 100 m 0).1) (va_cpy m sp 0 0 99) sv (nI s) tx tl (0 : Int32) sx_19 (nI (mR ((shv n 100 m 0).1) n).2.1) (bI (mR ((shv n 100 m 0).1) n).1) ((mR ((shv n 100 m 0).1) n).2.2.2.1) ((mR ((shv n 100 m 0).1) n).2.2.2.2.1) ((mR ((shv n 100 m 0).1) n).2.2.2.2.2) (mLo ((shv n 100 m 0).1) n) rx_19 cr ap nu ha)) rfl ?_
  refine j_istore_n C dX6_shavingSteps_22 rfl (by decide) (lv' := [(1, .int ((shv n 100 m 0).2)), (0, .ref (h 0))]) rfl ?_
  refine j_aload_n C 1 dX6_shavingSteps_23 rfl rfl ?_
  refine j_get C 0 fgX6_shavingSteps_78 rfl rfl dX6_shavingSteps_24 ?_
  refine j_bif_eq C dX6_shavingSteps_27 (tgt := 41) (by decide) (fun h27 => ?_) (fun h27 => ?_)
  · refine j_iconst C (v := (0 : Int32)) dX6_shavingSteps_41 rfl ?_
    refine j_istore_n C dX6_shavingSteps_42 rfl (by decide) (lv' := [(2, .int (0 : Int32)), (1, .int ((shv n 100 m 0).2)), (0, .ref (h 0))]) rfl ?_
    refine j_aload_n C 2 dX6_shavingSteps_43 rfl rfl ?_
    refine j_get C 0 fgX6_shavingSteps_13 rfl rfl dX6_shavingSteps_44 ?_
    refine j_iconst C (v := (0 : Int32)) dX6_shavingSteps_47 rfl ?_
    refine j_aload_n C 2 dX6_shavingSteps_48 rfl rfl ?_
    refine j_get C 0 fgX6_shavingSteps_7 rfl rfl dX6_shavingSteps_49 ?_
    refine j_iconst C (v := (0 : Int32)) dX6_shavingSteps_52 rfl ?_
    refine j_cs_v C (As := [.ref (h 2), .int (0 : Int32), .ref (h 1), .int (0 : Int32)]) (rest := []) (ctX6_bring (xl X) D (h 2) (h 1) 99 99 0 0 (va_cpy m sp 0 0 99) ((shv n 100 m 0).1) (by first | assumption | omega | decide) (by first | assumption | omega | decide) (by first | assumption | omega | decide) (by first | assumption | omega | decide)) mfX6_bring gX6_shavingSteps_X6_bring rfl (Nat.le_of_ble_eq_true rfl) (Nat.le_of_ble_eq_true rfl) (Nat.le_of_ble_eq_true rfl) (Nat.le_of_ble_eq_true rfl) [2, 1] rfl rfl rfl (Nat.le_of_ble_eq_true rfl) dX6_shavingSteps_53 ?_
    rintro _ rfl
    refine ⟨rfl, ?_⟩
    refine j_w (w' := (wMo D h (va_cpy (va_cpy m sp 0 0 99) ((shv n 100 m 0).1) 0 0 99) (va_cpy m sp 0 0 99) sv (nI s) tx tl (0 : Int32) sx_19 (nI (mR ((shv n 100 m 0).1) n).2.1) (bI (mR ((shv n 100 m 0).1) n).1) ((mR ((shv n 100 m 0).1) n).2.2.2.1) ((mR ((shv n 100 m 0).1) n).2.2.2.2.1) ((mR ((shv n 100 m 0).1) n).2.2.2.2.2) (mLo ((shv n 100 m 0).1) n) rx_19 cr ap nu ha)) rfl ?_
    refine j_asi 1 m rfl (fun j hj => (cpy_at _ _ j hj).trans (cpy_at _ _ j hj)) (w' := (wMo D h m (va_cpy m sp 0 0 99) sv (nI s) tx tl (0 : Int32) sx_19 (nI (mR ((shv n 100 m 0).1) n).2.1) (bI (mR ((shv n 100 m 0).1) n).1) ((mR ((shv n 100 m 0).1) n).2.2.2.1) ((mR ((shv n 100 m 0).1) n).2.2.2.2.1) ((mR ((shv n 100 m 0).1) n).2.2.2.2.2) (mLo ((shv n 100 m 0).1) n) rx_19 cr ap nu ha)) rfl ?_
    refine j_iload_n C 0 dX6_shavingSteps_56 rfl rfl ?_
    refine j_if_eq C dX6_shavingSteps_57 (tgt := 64) (by decide) (fun _ => ?_) (fun h => absurd (by decide) h)
    refine j_sipush C (v := (-1000 : Int32)) dX6_shavingSteps_64 rfl ?_
    refine j_iload_n C 1 dX6_shavingSteps_67 rfl rfl ?_
    refine j_isub C dX6_shavingSteps_68 ?_
    exact ret dX6_shavingSteps_69 (⟨by rw [mSs, if_neg (by rw [mSf_f1 h27]; decide)], ⟨_, _, _, _, _, _, _, _, _, _, _, _, _, rfl⟩⟩)
  · refine j_aload_n C 1 dX6_shavingSteps_30 rfl rfl ?_
    refine j_cv_i C (As := []) (rest := []) (ctX6_overloaded (xl X) D h ((shv n 100 m 0).1) (va_cpy m sp 0 0 99) sv (nI s) tx tl (0 : Int32) sx_19 (nI (mR ((shv n 100 m 0).1) n).2.1) ((mR ((shv n 100 m 0).1) n).2.2.2.1) ((mR ((shv n 100 m 0).1) n).2.2.2.2.1) ((mR ((shv n 100 m 0).1) n).2.2.2.2.2) (mLo ((shv n 100 m 0).1) n) rx_19 cr ap nu ha ((mR ((shv n 100 m 0).1) n).1) n (by first | assumption | omega | decide) ((shv_2 n 100 m 0).trans hc)) mfX6_overloaded gX6_shavingSteps_X6_overloaded rfl (Nat.le_of_ble_eq_true rfl) (Nat.le_of_ble_eq_true rfl) (Nat.le_of_ble_eq_true rfl) (Nat.le_of_ble_eq_true rfl) [0, 1, 2, 3, 4, 5, 6] rfl rfl 0 rfl rfl rfl rfl (Nat.le_of_ble_eq_true rfl) dX6_shavingSteps_31 ?_
    rintro _ _ ⟨rfl, rfl⟩
    refine ⟨rfl, ?_⟩
    refine j_w (w' := (wMo D h ((shv n 100 m 0).1) (va_cpy m sp 0 0 99) sv (nI s) tx tl (0 : Int32) sx_19 (nI (mR ((shv n 100 m 0).1) n).2.1) (bI (mR ((shv n 100 m 0).1) n).1) ((mR ((shv n 100 m 0).1) n).2.2.2.1) ((mR ((shv n 100 m 0).1) n).2.2.2.2.1) ((mR ((shv n 100 m 0).1) n).2.2.2.2.2) (mLo ((shv n 100 m 0).1) n) rx_19 cr ap nu ha)) rfl ?_
    refine j_if_ne C dX6_shavingSteps_34 (tgt := 41) (by decide) (fun h34 => ?_) (fun h34 => ?_)
    · refine j_iconst C (v := (0 : Int32)) dX6_shavingSteps_41 rfl ?_
      refine j_istore_n C dX6_shavingSteps_42 rfl (by decide) (lv' := [(2, .int (0 : Int32)), (1, .int ((shv n 100 m 0).2)), (0, .ref (h 0))]) rfl ?_
      refine j_aload_n C 2 dX6_shavingSteps_43 rfl rfl ?_
      refine j_get C 0 fgX6_shavingSteps_13 rfl rfl dX6_shavingSteps_44 ?_
      refine j_iconst C (v := (0 : Int32)) dX6_shavingSteps_47 rfl ?_
      refine j_aload_n C 2 dX6_shavingSteps_48 rfl rfl ?_
      refine j_get C 0 fgX6_shavingSteps_7 rfl rfl dX6_shavingSteps_49 ?_
      refine j_iconst C (v := (0 : Int32)) dX6_shavingSteps_52 rfl ?_
      refine j_cs_v C (As := [.ref (h 2), .int (0 : Int32), .ref (h 1), .int (0 : Int32)]) (rest := []) (ctX6_bring (xl X) D (h 2) (h 1) 99 99 0 0 (va_cpy m sp 0 0 99) ((shv n 100 m 0).1) (by first | assumption | omega | decide) (by first | assumption | omega | decide) (by first | assumption | omega | decide) (by first | assumption | omega | decide)) mfX6_bring gX6_shavingSteps_X6_bring rfl (Nat.le_of_ble_eq_true rfl) (Nat.le_of_ble_eq_true rfl) (Nat.le_of_ble_eq_true rfl) (Nat.le_of_ble_eq_true rfl) [2, 1] rfl rfl rfl (Nat.le_of_ble_eq_true rfl) dX6_shavingSteps_53 ?_
      rintro _ rfl
      refine ⟨rfl, ?_⟩
      refine j_w (w' := (wMo D h (va_cpy (va_cpy m sp 0 0 99) ((shv n 100 m 0).1) 0 0 99) (va_cpy m sp 0 0 99) sv (nI s) tx tl (0 : Int32) sx_19 (nI (mR ((shv n 100 m 0).1) n).2.1) (bI (mR ((shv n 100 m 0).1) n).1) ((mR ((shv n 100 m 0).1) n).2.2.2.1) ((mR ((shv n 100 m 0).1) n).2.2.2.2.1) ((mR ((shv n 100 m 0).1) n).2.2.2.2.2) (mLo ((shv n 100 m 0).1) n) rx_19 cr ap nu ha)) rfl ?_
      refine j_asi 1 m rfl (fun j hj => (cpy_at _ _ j hj).trans (cpy_at _ _ j hj)) (w' := (wMo D h m (va_cpy m sp 0 0 99) sv (nI s) tx tl (0 : Int32) sx_19 (nI (mR ((shv n 100 m 0).1) n).2.1) (bI (mR ((shv n 100 m 0).1) n).1) ((mR ((shv n 100 m 0).1) n).2.2.2.1) ((mR ((shv n 100 m 0).1) n).2.2.2.2.1) ((mR ((shv n 100 m 0).1) n).2.2.2.2.2) (mLo ((shv n 100 m 0).1) n) rx_19 cr ap nu ha)) rfl ?_
      refine j_iload_n C 0 dX6_shavingSteps_56 rfl rfl ?_
      refine j_if_eq C dX6_shavingSteps_57 (tgt := 64) (by decide) (fun _ => ?_) (fun h => absurd (by decide) h)
      refine j_sipush C (v := (-1000 : Int32)) dX6_shavingSteps_64 rfl ?_
      refine j_iload_n C 1 dX6_shavingSteps_67 rfl rfl ?_
      refine j_isub C dX6_shavingSteps_68 ?_
      exact ret dX6_shavingSteps_69 (⟨by rw [mSs, if_neg (by rw [mSf_f2 h34]; decide)], ⟨_, _, _, _, _, _, _, _, _, _, _, _, _, rfl⟩⟩)
    · refine j_iconst C (v := (1 : Int32)) dX6_shavingSteps_37 rfl ?_
      refine j_goto C dX6_shavingSteps_38 (tgt := 42) (by decide) ?_
      refine j_istore_n C dX6_shavingSteps_42 rfl (by decide) (lv' := [(2, .int (1 : Int32)), (1, .int ((shv n 100 m 0).2)), (0, .ref (h 0))]) rfl ?_
      refine j_aload_n C 2 dX6_shavingSteps_43 rfl rfl ?_
      refine j_get C 0 fgX6_shavingSteps_13 rfl rfl dX6_shavingSteps_44 ?_
      refine j_iconst C (v := (0 : Int32)) dX6_shavingSteps_47 rfl ?_
      refine j_aload_n C 2 dX6_shavingSteps_48 rfl rfl ?_
      refine j_get C 0 fgX6_shavingSteps_7 rfl rfl dX6_shavingSteps_49 ?_
      refine j_iconst C (v := (0 : Int32)) dX6_shavingSteps_52 rfl ?_
      refine j_cs_v C (As := [.ref (h 2), .int (0 : Int32), .ref (h 1), .int (0 : Int32)]) (rest := []) (ctX6_bring (xl X) D (h 2) (h 1) 99 99 0 0 (va_cpy m sp 0 0 99) ((shv n 100 m 0).1) (by first | assumption | omega | decide) (by first | assumption | omega | decide) (by first | assumption | omega | decide) (by first | assumption | omega | decide)) mfX6_bring gX6_shavingSteps_X6_bring rfl (Nat.le_of_ble_eq_true rfl) (Nat.le_of_ble_eq_true rfl) (Nat.le_of_ble_eq_true rfl) (Nat.le_of_ble_eq_true rfl) [2, 1] rfl rfl rfl (Nat.le_of_ble_eq_true rfl) dX6_shavingSteps_53 ?_
      rintro _ rfl
      refine ⟨rfl, ?_⟩
      refine j_w (w' := (wMo D h (va_cpy (va_cpy m sp 0 0 99) ((shv n 100 m 0).1) 0 0 99) (va_cpy m sp 0 0 99) sv (nI s) tx tl (0 : Int32) sx_19 (nI (mR ((shv n 100 m 0).1) n).2.1) (bI (mR ((shv n 100 m 0).1) n).1) ((mR ((shv n 100 m 0).1) n).2.2.2.1) ((mR ((shv n 100 m 0).1) n).2.2.2.2.1) ((mR ((shv n 100 m 0).1) n).2.2.2.2.2) (mLo ((shv n 100 m 0).1) n) rx_19 cr ap nu ha)) rfl ?_
      refine j_asi 1 m rfl (fun j hj => (cpy_at _ _ j hj).trans (cpy_at _ _ j hj)) (w' := (wMo D h m (va_cpy m sp 0 0 99) sv (nI s) tx tl (0 : Int32) sx_19 (nI (mR ((shv n 100 m 0).1) n).2.1) (bI (mR ((shv n 100 m 0).1) n).1) ((mR ((shv n 100 m 0).1) n).2.2.2.1) ((mR ((shv n 100 m 0).1) n).2.2.2.2.1) ((mR ((shv n 100 m 0).1) n).2.2.2.2.2) (mLo ((shv n 100 m 0).1) n) rx_19 cr ap nu ha)) rfl ?_
      refine j_iload_n C 0 dX6_shavingSteps_56 rfl rfl ?_
      refine j_if_eq C dX6_shavingSteps_57 (tgt := 64) (by decide) (fun h => absurd h (by decide)) (fun _ => ?_)
      refine j_iload_n C 1 dX6_shavingSteps_60 rfl rfl ?_
      refine j_goto C dX6_shavingSteps_61 (tgt := 69) (by decide) ?_
      exact ret dX6_shavingSteps_69 (⟨by rw [mSs, if_pos (mSf_t h27 h34)], ⟨_, _, _, _, _, _, _, _, _, _, _, _, _, rfl⟩⟩)

set_option maxRecDepth 100000 in
set_option maxHeartbeats 4000000 in
theorem ctX6_greatestWeight (l : Launch) (D : KD) (h : Nat → Nat) (m sp sv : Nat → Int32) (tx : Nat → Int32) (tl cd se ro st : Int32) (qa qb qd : Int64) (lo : Nat → Int32) (re : Nat → Int64) (cr ap nu : Int32) (ha : Int64) (s : Nat) (hs : s ≤ 4) (n : Nat) (hn : n ≤ 16) (hc : m 2 = nI n) (hV : mVal m n) : MI l D yX6_greatestWeight wsX6_greatestWeight 4 91 0 0 [.ref (h 0)] (wMo D h m sp sv (nI s) tx tl cd se ro st qa qb qd lo re cr ap nu ha) (fun r w1 => r = gwI m n 100 ∧ mW D h m sv (nI s) tx tl 0 w1) := by
  refine MI.of (cc := cX6_greatestWeight) (nL := 4) (lv0 := [(0, .ref (h 0))]) (by decide +kernel) rfl (Nat.le_of_ble_eq_true rfl) rfl ?_
  intro X hXl hin C ret
  subst hXl
  refine j_aload_n C 0 dX6_greatestWeight_0 rfl rfl ?_
  refine j_iconst C (v := (0 : Int32)) dX6_greatestWeight_1 rfl ?_
  refine j_put C 0 foX6_greatestWeight_29 rfl (w' := (wMo D h m sp sv (nI s) tx tl (0 : Int32) se ro st qa qb qd lo re cr ap nu ha)) rfl rfl rfl (Nat.le_of_ble_eq_true rfl) dX6_greatestWeight_2 ?_
  refine j_aload_n C 0 dX6_greatestWeight_5 rfl rfl ?_
  refine j_get C 0 fgX6_greatestWeight_7 rfl rfl dX6_greatestWeight_6 ?_
  refine j_iconst C (v := (0 : Int32)) dX6_greatestWeight_9 rfl ?_
  refine j_iald C 1 rfl (i := 0) rfl (by decide) (by decide) dX6_greatestWeight_10 ?_
  refine j_istore_n C dX6_greatestWeight_11 rfl (by decide) (lv' := [(1, .int (m 0)), (0, .ref (h 0))]) rfl ?_
  refine j_iconst C (v := (-1 : Int32)) dX6_greatestWeight_12 rfl ?_
  refine j_istore_n C dX6_greatestWeight_13 rfl (by decide) (lv' := [(2, .int (-1 : Int32)), (1, .int (m 0)), (0, .ref (h 0))]) rfl ?_
  refine j_sipush C (v := (1000 : Int32)) dX6_greatestWeight_14 rfl ?_
  refine j_istore_n C dX6_greatestWeight_17 rfl (by decide) (lv' := [(3, .int (1000 : Int32)), (2, .int (-1 : Int32)), (1, .int (m 0)), (0, .ref (h 0))]) rfl ?_
  have hl18 : ∀ i18, i18 ≤ 100 → ∀ (t18 : Int32), t18 = gwI m n i18 → ∀ (xm : Int32) (se0 ro0 st0 : Int32) (qa0 qb0 qd0 : Int64) (lo0 : Nat → Int32) (re0 : Nat → Int64), J D X (wMo D h (mUp m 0 xm) sp sv (nI s) tx tl (0 : Int32) se0 ro0 st0 qa0 qb0 qd0 lo0 re0 cr ap nu ha) 0 0 18 [(3, .int (nI (1000 * (i18 + 1)))), (2, .int t18), (1, .int (m 0)), (0, .ref (h 0))] [] := by
    refine for_up (100) ?_ ?_
    · intro t18 ht18 xm se0 ro0 st0 qa0 qb0 qd0 lo0 re0
      refine j_iload_n C 0 dX6_greatestWeight_18 rfl rfl ?_
      refine j_ldc C kX6_greatestWeight_129 dX6_greatestWeight_19 ?_
      refine j_icmp_gt C dX6_greatestWeight_21 (tgt := 64) (by decide) (fun _ => ?_) (fun h => absurd (by decide) h)
      refine j_aload_n C 3 dX6_greatestWeight_64 rfl rfl ?_
      refine j_get C 0 fgX6_greatestWeight_7 rfl rfl dX6_greatestWeight_65 ?_
      refine j_iconst C (v := (0 : Int32)) dX6_greatestWeight_68 rfl ?_
      refine j_iload_n C 2 dX6_greatestWeight_69 rfl rfl ?_
      refine j_iast C 1 rfl (i := 0) rfl (by decide) (by decide) (w' := (wMo D h (upd (mUp m 0 xm) 0 (m 0)) sp sv (nI s) tx tl (0 : Int32) se0 ro0 st0 qa0 qb0 qd0 lo0 re0 cr ap nu ha)) rfl dX6_greatestWeight_70 ?_
      rw [mUp_up, mUp_self]
      refine j_iload_n C 1 dX6_greatestWeight_71 rfl rfl ?_
      exact ret dX6_greatestWeight_72 (⟨ht18, ⟨_, _, _, _, _, _, _, _, _, _, _, _, _, rfl⟩⟩)
    · intro i18 hi18 ih18 t18 ht18 xm se0 ro0 st0 qa0 qb0 qd0 lo0 re0
      refine j_iload_n C 0 dX6_greatestWeight_18 rfl rfl ?_
      refine j_ldc C kX6_greatestWeight_129 dX6_greatestWeight_19 ?_
      refine j_icmp_gt C dX6_greatestWeight_21 (tgt := 64) (by decide) (fun h => absurd h (Int32.not_lt.mpr (rg1000 i18 hi18).2)) (fun _ => ?_)
      refine j_aload_n C 3 dX6_greatestWeight_24 rfl rfl ?_
      refine j_get C 0 fgX6_greatestWeight_7 rfl rfl dX6_greatestWeight_25 ?_
      refine j_iconst C (v := (0 : Int32)) dX6_greatestWeight_28 rfl ?_
      refine j_iload_n C 0 dX6_greatestWeight_29 rfl rfl ?_
      refine j_iast C 1 rfl (i := 0) rfl (by decide) (by decide) (w' := (wMo D h (upd (mUp m 0 xm) 0 (nI (1000 * (i18 + 1)))) sp sv (nI s) tx tl (0 : Int32) se0 ro0 st0 qa0 qb0 qd0 lo0 re0 cr ap nu ha)) rfl dX6_greatestWeight_30 ?_
      rw [mUp_up]
      refine j_aload_n C 3 dX6_greatestWeight_31 rfl rfl ?_
      refine j_cv_v C (As := []) (rest := []) (ctX6_settle (xl X) D h (mUp m 0 (nI (1000 * (i18 + 1)))) sp sv (nI s) tx tl (0 : Int32) se0 ro0 st0 qa0 qb0 qd0 lo0 re0 cr ap nu ha n (by first | assumption | omega | decide) ((mUp_20 _ _).trans hc) (mUp_w hV (rg1000 i18 hi18))) mfX6_settle gX6_greatestWeight_X6_settle rfl (Nat.le_of_ble_eq_true rfl) (Nat.le_of_ble_eq_true rfl) (Nat.le_of_ble_eq_true rfl) (Nat.le_of_ble_eq_true rfl) [0, 1, 2, 3, 4, 5, 6] rfl rfl 0 rfl rfl rfl rfl (Nat.le_of_ble_eq_true rfl) dX6_greatestWeight_32 ?_
      rintro _ ⟨sx_32, rx_32, hsx_32, rfl⟩
      refine ⟨rfl, ?_⟩
      refine j_w (w' := (wMo D h (mUp m 0 (nI (1000 * (i18 + 1)))) sp sv (nI s) tx tl (0 : Int32) sx_32 (nI (mR (mUp m 0 (nI (1000 * (i18 + 1)))) n).2.1) (bI (mR (mUp m 0 (nI (1000 * (i18 + 1)))) n).1) ((mR (mUp m 0 (nI (1000 * (i18 + 1)))) n).2.2.2.1) ((mR (mUp m 0 (nI (1000 * (i18 + 1)))) n).2.2.2.2.1) ((mR (mUp m 0 (nI (1000 * (i18 + 1)))) n).2.2.2.2.2) (mLo (mUp m 0 (nI (1000 * (i18 + 1)))) n) rx_32 cr ap nu ha)) rfl ?_
      refine j_aload_n C 3 dX6_greatestWeight_35 rfl rfl ?_
      refine j_get C 0 fgX6_greatestWeight_78 rfl rfl dX6_greatestWeight_36 ?_
      refine j_bif_eq C dX6_greatestWeight_39 (tgt := 53) (by decide) (fun h39 => ?_) (fun h39 => ?_)
      · refine j_iload_n C 1 dX6_greatestWeight_53 rfl rfl ?_
        refine j_istore_n C dX6_greatestWeight_54 rfl (by decide) (lv' := [(2, .int t18), (3, .int (nI (1000 * (i18 + 1)))), (1, .int (m 0)), (0, .ref (h 0))]) rfl ?_
        refine j_iincW C 1 dX6_greatestWeight_55 rfl (v := nI (1000 * (i18 + 1) + 1000)) (nI_add _ 1000) (by decide) (lv' := [(3, .int (nI (1000 * (i18 + 1) + 1000))), (2, .int t18), (1, .int (m 0)), (0, .ref (h 0))]) rfl ?_
        refine j_goto C dX6_greatestWeight_61 (tgt := 18) (by decide) ?_
        refine j_sub [0, 1, 2, 3] (lv' := [(3, .int (nI (1000 * (i18 + 1) + 1000))), (2, .int t18), (1, .int (m 0)), (0, .ref (h 0))]) rfl ?_
        exact ih18 t18 (by rw [gwI, if_neg (by rw [mSf_f1 h39]; decide)]; exact ht18) _ _ _ _ _ _ _ _ _
      · refine j_aload_n C 3 dX6_greatestWeight_42 rfl rfl ?_
        refine j_cv_i C (As := []) (rest := []) (ctX6_overloaded (xl X) D h (mUp m 0 (nI (1000 * (i18 + 1)))) sp sv (nI s) tx tl (0 : Int32) sx_32 (nI (mR (mUp m 0 (nI (1000 * (i18 + 1)))) n).2.1) ((mR (mUp m 0 (nI (1000 * (i18 + 1)))) n).2.2.2.1) ((mR (mUp m 0 (nI (1000 * (i18 + 1)))) n).2.2.2.2.1) ((mR (mUp m 0 (nI (1000 * (i18 + 1)))) n).2.2.2.2.2) (mLo (mUp m 0 (nI (1000 * (i18 + 1)))) n) rx_32 cr ap nu ha ((mR (mUp m 0 (nI (1000 * (i18 + 1)))) n).1) n (by first | assumption | omega | decide) ((mUp_20 _ _).trans hc)) mfX6_overloaded gX6_greatestWeight_X6_overloaded rfl (Nat.le_of_ble_eq_true rfl) (Nat.le_of_ble_eq_true rfl) (Nat.le_of_ble_eq_true rfl) (Nat.le_of_ble_eq_true rfl) [0, 1, 2, 3, 4, 5, 6] rfl rfl 0 rfl rfl rfl rfl (Nat.le_of_ble_eq_true rfl) dX6_greatestWeight_43 ?_
        rintro _ _ ⟨rfl, rfl⟩
        refine ⟨rfl, ?_⟩
        refine j_w (w' := (wMo D h (mUp m 0 (nI (1000 * (i18 + 1)))) sp sv (nI s) tx tl (0 : Int32) sx_32 (nI (mR (mUp m 0 (nI (1000 * (i18 + 1)))) n).2.1) (bI (mR (mUp m 0 (nI (1000 * (i18 + 1)))) n).1) ((mR (mUp m 0 (nI (1000 * (i18 + 1)))) n).2.2.2.1) ((mR (mUp m 0 (nI (1000 * (i18 + 1)))) n).2.2.2.2.1) ((mR (mUp m 0 (nI (1000 * (i18 + 1)))) n).2.2.2.2.2) (mLo (mUp m 0 (nI (1000 * (i18 + 1)))) n) rx_32 cr ap nu ha)) rfl ?_
        refine j_if_ne C dX6_greatestWeight_46 (tgt := 53) (by decide) (fun h46 => ?_) (fun h46 => ?_)
        · refine j_iload_n C 1 dX6_greatestWeight_53 rfl rfl ?_
          refine j_istore_n C dX6_greatestWeight_54 rfl (by decide) (lv' := [(2, .int t18), (3, .int (nI (1000 * (i18 + 1)))), (1, .int (m 0)), (0, .ref (h 0))]) rfl ?_
          refine j_iincW C 1 dX6_greatestWeight_55 rfl (v := nI (1000 * (i18 + 1) + 1000)) (nI_add _ 1000) (by decide) (lv' := [(3, .int (nI (1000 * (i18 + 1) + 1000))), (2, .int t18), (1, .int (m 0)), (0, .ref (h 0))]) rfl ?_
          refine j_goto C dX6_greatestWeight_61 (tgt := 18) (by decide) ?_
          refine j_sub [0, 1, 2, 3] (lv' := [(3, .int (nI (1000 * (i18 + 1) + 1000))), (2, .int t18), (1, .int (m 0)), (0, .ref (h 0))]) rfl ?_
          exact ih18 t18 (by rw [gwI, if_neg (by rw [mSf_f2 h46]; decide)]; exact ht18) _ _ _ _ _ _ _ _ _
        · refine j_iload_n C 0 dX6_greatestWeight_49 rfl rfl ?_
          refine j_goto C dX6_greatestWeight_50 (tgt := 54) (by decide) ?_
          refine j_istore_n C dX6_greatestWeight_54 rfl (by decide) (lv' := [(2, .int (nI (1000 * (i18 + 1)))), (3, .int (nI (1000 * (i18 + 1)))), (1, .int (m 0)), (0, .ref (h 0))]) rfl ?_
          refine j_iincW C 1 dX6_greatestWeight_55 rfl (v := nI (1000 * (i18 + 1) + 1000)) (nI_add _ 1000) (by decide) (lv' := [(3, .int (nI (1000 * (i18 + 1) + 1000))), (2, .int (nI (1000 * (i18 + 1)))), (1, .int (m 0)), (0, .ref (h 0))]) rfl ?_
          refine j_goto C dX6_greatestWeight_61 (tgt := 18) (by decide) ?_
          refine j_sub [0, 1, 2, 3] (lv' := [(3, .int (nI (1000 * (i18 + 1) + 1000))), (2, .int (nI (1000 * (i18 + 1)))), (1, .int (m 0)), (0, .ref (h 0))]) rfl ?_
          exact ih18 (nI (1000 * (i18 + 1))) (by rw [gwI, if_pos (mSf_t h39 h46)]) _ _ _ _ _ _ _ _ _
  refine j_sub [0, 1, 2, 3] (lv' := [(3, .int (1000 : Int32)), (2, .int (-1 : Int32)), (1, .int (m 0)), (0, .ref (h 0))]) rfl ?_
  refine j_asi 1 (mUp m 0 (m 0)) rfl (fun j _ => congrFun (mUp_self m 0).symm j) rfl ?_
  exact hl18 0 (Nat.zero_le _) (-1 : Int32) rfl (m 0) _ _ _ _ _ _ _ _

set_option maxRecDepth 100000 in
set_option maxHeartbeats 4000000 in
theorem ctX6_bestCenter (l : Launch) (D : KD) (h : Nat → Nat) (m sp sv : Nat → Int32) (tx : Nat → Int32) (tl cd se ro st : Int32) (qa qb qd : Int64) (lo : Nat → Int32) (re : Nat → Int64) (cr ap nu : Int32) (ha : Int64) (s : Nat) (hs : s ≤ 4) (n : Nat) (hn : n ≤ 16) (hc : m 2 = nI n) (hV : mVal m n) : MI l D yX6_bestCenter wsX6_bestCenter 4 91 0 0 [.ref (h 0)] (wMo D h m sp sv (nI s) tx tl cd se ro st qa qb qd lo re cr ap nu ha) (fun r w1 => r = (bcI m n 81).1 ∧ mW D h m sv (nI s) tx tl 0 w1) := by
  refine MI.of (cc := cX6_bestCenter) (nL := 6) (lv0 := [(0, .ref (h 0))]) (by decide +kernel) rfl (Nat.le_of_ble_eq_true rfl) rfl ?_
  intro X hXl hin C ret
  subst hXl
  refine j_aload_n C 0 dX6_bestCenter_0 rfl rfl ?_
  refine j_iconst C (v := (0 : Int32)) dX6_bestCenter_1 rfl ?_
  refine j_put C 0 foX6_bestCenter_29 rfl (w' := (wMo D h m sp sv (nI s) tx tl (0 : Int32) se ro st qa qb qd lo re cr ap nu ha)) rfl rfl rfl (Nat.le_of_ble_eq_true rfl) dX6_bestCenter_2 ?_
  refine j_aload_n C 0 dX6_bestCenter_5 rfl rfl ?_
  refine j_get C 0 fgX6_bestCenter_7 rfl rfl dX6_bestCenter_6 ?_
  refine j_iconst C (v := (1 : Int32)) dX6_bestCenter_9 rfl ?_
  refine j_iald C 1 rfl (i := 1) rfl (by decide) (by decide) dX6_bestCenter_10 ?_
  refine j_istore_n C dX6_bestCenter_11 rfl (by decide) (lv' := [(1, .int (m 1)), (0, .ref (h 0))]) rfl ?_
  refine j_iconst C (v := (-1 : Int32)) dX6_bestCenter_12 rfl ?_
  refine j_istore_n C dX6_bestCenter_13 rfl (by decide) (lv' := [(2, .int (-1 : Int32)), (1, .int (m 1)), (0, .ref (h 0))]) rfl ?_
  refine j_iconst C (v := (0 : Int32)) dX6_bestCenter_14 rfl ?_
  refine j_istore_n C dX6_bestCenter_15 rfl (by decide) (lv' := [(3, .int (0 : Int32)), (2, .int (-1 : Int32)), (1, .int (m 1)), (0, .ref (h 0))]) rfl ?_
  refine j_iconst C (v := (0 : Int32)) dX6_bestCenter_16 rfl ?_
  refine j_istore C dX6_bestCenter_17 (by decide) (lv' := [(4, .int (0 : Int32)), (3, .int (0 : Int32)), (2, .int (-1 : Int32)), (1, .int (m 1)), (0, .ref (h 0))]) rfl ?_
  have hl19 : ∀ i19, i19 ≤ 81 → ∀ (t19 : Int32 × Int32), t19 = bcI m n i19 → ∀ (xm : Int32) (se0 ro0 st0 : Int32) (qa0 qb0 qd0 : Int64) (lo0 : Nat → Int32) (re0 : Nat → Int64), J D X (wMo D h (mUp m 1 xm) sp sv (nI s) tx tl (0 : Int32) se0 ro0 st0 qa0 qb0 qd0 lo0 re0 cr ap nu ha) 0 0 19 [(4, .int (nI (5 * i19))), (2, .int t19.1), (3, .int t19.2), (1, .int (m 1)), (0, .ref (h 0))] [] := by
    refine for_up (81) ?_ ?_
    · intro t19 ht19 xm se0 ro0 st0 qa0 qb0 qd0 lo0 re0
      refine j_iload C 0 dX6_bestCenter_19 rfl ?_
      refine j_sipush C (v := (400 : Int32)) dX6_bestCenter_21 rfl ?_
      refine j_icmp_gt C dX6_bestCenter_24 (tgt := 98) (by decide) (fun _ => ?_) (fun h => absurd (by decide) h)
      refine j_aload_n C 4 dX6_bestCenter_98 rfl rfl ?_
      refine j_get C 0 fgX6_bestCenter_7 rfl rfl dX6_bestCenter_99 ?_
      refine j_iconst C (v := (1 : Int32)) dX6_bestCenter_102 rfl ?_
      refine j_iload_n C 3 dX6_bestCenter_103 rfl rfl ?_
      refine j_iast C 1 rfl (i := 1) rfl (by decide) (by decide) (w' := (wMo D h (upd (mUp m 1 xm) 1 (m 1)) sp sv (nI s) tx tl (0 : Int32) se0 ro0 st0 qa0 qb0 qd0 lo0 re0 cr ap nu ha)) rfl dX6_bestCenter_104 ?_
      rw [mUp_up, mUp_self]
      refine j_iload_n C 1 dX6_bestCenter_105 rfl rfl ?_
      exact ret dX6_bestCenter_106 (⟨by rw [← ht19], ⟨_, _, _, _, _, _, _, _, _, _, _, _, _, rfl⟩⟩)
    · intro i19 hi19 ih19 t19 ht19 xm se0 ro0 st0 qa0 qb0 qd0 lo0 re0
      refine j_iload C 0 dX6_bestCenter_19 rfl ?_
      refine j_sipush C (v := (400 : Int32)) dX6_bestCenter_21 rfl ?_
      refine j_icmp_gt C dX6_bestCenter_24 (tgt := 98) (by decide) (fun h => absurd h (Int32.not_lt.mpr (rg5 i19 hi19).2)) (fun _ => ?_)
      refine j_aload_n C 4 dX6_bestCenter_27 rfl rfl ?_
      refine j_get C 0 fgX6_bestCenter_7 rfl rfl dX6_bestCenter_28 ?_
      refine j_iconst C (v := (1 : Int32)) dX6_bestCenter_31 rfl ?_
      refine j_iload C 0 dX6_bestCenter_32 rfl ?_
      refine j_iast C 1 rfl (i := 1) rfl (by decide) (by decide) (w' := (wMo D h (upd (mUp m 1 xm) 1 (nI (5 * i19))) sp sv (nI s) tx tl (0 : Int32) se0 ro0 st0 qa0 qb0 qd0 lo0 re0 cr ap nu ha)) rfl dX6_bestCenter_34 ?_
      rw [mUp_up]
      refine j_aload_n C 4 dX6_bestCenter_35 rfl rfl ?_
      refine j_cv_v C (As := []) (rest := []) (ctX6_settle (xl X) D h (mUp m 1 (nI (5 * i19))) sp sv (nI s) tx tl (0 : Int32) se0 ro0 st0 qa0 qb0 qd0 lo0 re0 cr ap nu ha n (by first | assumption | omega | decide) ((mUp_21 _ _).trans hc) (mUp_c hV (rg5 i19 hi19))) mfX6_settle gX6_bestCenter_X6_settle rfl (Nat.le_of_ble_eq_true rfl) (Nat.le_of_ble_eq_true rfl) (Nat.le_of_ble_eq_true rfl) (Nat.le_of_ble_eq_true rfl) [0, 1, 2, 3, 4, 5, 6] rfl rfl 0 rfl rfl rfl rfl (Nat.le_of_ble_eq_true rfl) dX6_bestCenter_36 ?_
      rintro _ ⟨sx_36, rx_36, hsx_36, rfl⟩
      refine ⟨rfl, ?_⟩
      refine j_w (w' := (wMo D h (mUp m 1 (nI (5 * i19))) sp sv (nI s) tx tl (0 : Int32) sx_36 (nI (mR (mUp m 1 (nI (5 * i19))) n).2.1) (bI (mR (mUp m 1 (nI (5 * i19))) n).1) ((mR (mUp m 1 (nI (5 * i19))) n).2.2.2.1) ((mR (mUp m 1 (nI (5 * i19))) n).2.2.2.2.1) ((mR (mUp m 1 (nI (5 * i19))) n).2.2.2.2.2) (mLo (mUp m 1 (nI (5 * i19))) n) rx_36 cr ap nu ha)) rfl ?_
      refine j_aload_n C 4 dX6_bestCenter_39 rfl rfl ?_
      refine j_get C 0 fgX6_bestCenter_78 rfl rfl dX6_bestCenter_40 ?_
      refine j_bif_eq C dX6_bestCenter_43 (tgt := 63) (by decide) (fun h43 => ?_) (fun h43 => ?_)
      · refine j_iconst C (v := (0 : Int32)) dX6_bestCenter_63 rfl ?_
        refine j_istore C dX6_bestCenter_64 (by decide) (lv' := [(5, .int (0 : Int32)), (4, .int (nI (5 * i19))), (2, .int t19.1), (3, .int t19.2), (1, .int (m 1)), (0, .ref (h 0))]) rfl ?_
        refine j_iload C 0 dX6_bestCenter_66 rfl ?_
        refine j_if_eq C dX6_bestCenter_68 (tgt := 76) (by decide) (fun _ => ?_) (fun h => absurd (by decide) h)
        refine j_iload_n C 2 dX6_bestCenter_76 rfl rfl ?_
        refine j_istore_n C dX6_bestCenter_77 rfl (by decide) (lv' := [(2, .int t19.1), (5, .int (0 : Int32)), (4, .int (nI (5 * i19))), (3, .int t19.2), (1, .int (m 1)), (0, .ref (h 0))]) rfl ?_
        refine j_iload C 1 dX6_bestCenter_78 rfl ?_
        refine j_if_eq C dX6_bestCenter_80 (tgt := 90) (by decide) (fun _ => ?_) (fun h => absurd (by decide) h)
        refine j_iload_n C 3 dX6_bestCenter_90 rfl rfl ?_
        refine j_istore_n C dX6_bestCenter_91 rfl (by decide) (lv' := [(3, .int t19.2), (2, .int t19.1), (5, .int (0 : Int32)), (4, .int (nI (5 * i19))), (1, .int (m 1)), (0, .ref (h 0))]) rfl ?_
        refine j_iinc C 3 dX6_bestCenter_92 rfl (v := nI (5 * i19 + 5)) (nI_add _ 5) (by decide) (lv' := [(4, .int (nI (5 * i19 + 5))), (3, .int t19.2), (2, .int t19.1), (5, .int (0 : Int32)), (1, .int (m 1)), (0, .ref (h 0))]) rfl ?_
        refine j_goto C dX6_bestCenter_95 (tgt := 19) (by decide) ?_
        refine j_sub [0, 2, 1, 4, 5] (lv' := [(4, .int (nI (5 * i19 + 5))), (2, .int t19.1), (3, .int t19.2), (1, .int (m 1)), (0, .ref (h 0))]) rfl ?_
        exact ih19 (t19.1, t19.2) (by rw [bcI, ← ht19]; exact (bst_f h43).symm) _ _ _ _ _ _ _ _ _
      · refine j_iload_n C 1 dX6_bestCenter_46 rfl rfl ?_
        refine j_iconst C (v := (-1 : Int32)) dX6_bestCenter_47 rfl ?_
        refine j_icmp_eq C dX6_bestCenter_48 (tgt := 59) (by decide) (fun h48 => ?_) (fun h48 => ?_)
        · refine j_iconst C (v := (1 : Int32)) dX6_bestCenter_59 rfl ?_
          refine j_goto C dX6_bestCenter_60 (tgt := 64) (by decide) ?_
          refine j_istore C dX6_bestCenter_64 (by decide) (lv' := [(5, .int (1 : Int32)), (4, .int (nI (5 * i19))), (2, .int t19.1), (3, .int t19.2), (1, .int (m 1)), (0, .ref (h 0))]) rfl ?_
          refine j_iload C 0 dX6_bestCenter_66 rfl ?_
          refine j_if_eq C dX6_bestCenter_68 (tgt := 76) (by decide) (fun h => absurd h (by decide)) (fun _ => ?_)
          refine j_iload C 1 dX6_bestCenter_71 rfl ?_
          refine j_goto C dX6_bestCenter_73 (tgt := 77) (by decide) ?_
          refine j_istore_n C dX6_bestCenter_77 rfl (by decide) (lv' := [(2, .int (nI (5 * i19))), (5, .int (1 : Int32)), (4, .int (nI (5 * i19))), (3, .int t19.2), (1, .int (m 1)), (0, .ref (h 0))]) rfl ?_
          refine j_iload C 1 dX6_bestCenter_78 rfl ?_
          refine j_if_eq C dX6_bestCenter_80 (tgt := 90) (by decide) (fun h => absurd h (by decide)) (fun _ => ?_)
          refine j_aload_n C 5 dX6_bestCenter_83 rfl rfl ?_
          refine j_cv_i C (As := []) (rest := []) (ctX6_greatestB (xl X) D h (mUp m 1 (nI (5 * i19))) sp sv (nI s) tx tl (0 : Int32) sx_36 (nI (mR (mUp m 1 (nI (5 * i19))) n).2.1) ((mR (mUp m 1 (nI (5 * i19))) n).2.2.2.1) ((mR (mUp m 1 (nI (5 * i19))) n).2.2.2.2.1) ((mR (mUp m 1 (nI (5 * i19))) n).2.2.2.2.2) (mLo (mUp m 1 (nI (5 * i19))) n) rx_36 cr ap nu ha ((mR (mUp m 1 (nI (5 * i19))) n).1) n (by first | assumption | omega | decide) ((mUp_21 _ _).trans hc)) mfX6_greatest gX6_bestCenter_X6_greatest rfl (Nat.le_of_ble_eq_true rfl) (Nat.le_of_ble_eq_true rfl) (Nat.le_of_ble_eq_true rfl) (Nat.le_of_ble_eq_true rfl) [0, 1, 2, 3, 4, 5, 6] rfl rfl 0 rfl rfl rfl rfl (Nat.le_of_ble_eq_true rfl) dX6_bestCenter_84 ?_
          rintro _ _ ⟨rfl, rfl⟩
          refine ⟨rfl, ?_⟩
          refine j_w (w' := (wMo D h (mUp m 1 (nI (5 * i19))) sp sv (nI s) tx tl (0 : Int32) sx_36 (nI (mR (mUp m 1 (nI (5 * i19))) n).2.1) (bI (mR (mUp m 1 (nI (5 * i19))) n).1) ((mR (mUp m 1 (nI (5 * i19))) n).2.2.2.1) ((mR (mUp m 1 (nI (5 * i19))) n).2.2.2.2.1) ((mR (mUp m 1 (nI (5 * i19))) n).2.2.2.2.2) (mLo (mUp m 1 (nI (5 * i19))) n) rx_36 cr ap nu ha)) rfl ?_
          refine j_goto C dX6_bestCenter_87 (tgt := 91) (by decide) ?_
          refine j_istore_n C dX6_bestCenter_91 rfl (by decide) (lv' := [(3, .int (gre ((mR (mUp m 1 (nI (5 * i19))) n).1) (mLo (mUp m 1 (nI (5 * i19))) n) n)), (2, .int (nI (5 * i19))), (5, .int (1 : Int32)), (4, .int (nI (5 * i19))), (1, .int (m 1)), (0, .ref (h 0))]) rfl ?_
          refine j_iinc C 3 dX6_bestCenter_92 rfl (v := nI (5 * i19 + 5)) (nI_add _ 5) (by decide) (lv' := [(4, .int (nI (5 * i19 + 5))), (3, .int (gre ((mR (mUp m 1 (nI (5 * i19))) n).1) (mLo (mUp m 1 (nI (5 * i19))) n) n)), (2, .int (nI (5 * i19))), (5, .int (1 : Int32)), (1, .int (m 1)), (0, .ref (h 0))]) rfl ?_
          refine j_goto C dX6_bestCenter_95 (tgt := 19) (by decide) ?_
          refine j_sub [0, 2, 1, 4, 5] (lv' := [(4, .int (nI (5 * i19 + 5))), (2, .int (nI (5 * i19))), (3, .int (gre ((mR (mUp m 1 (nI (5 * i19))) n).1) (mLo (mUp m 1 (nI (5 * i19))) n) n)), (1, .int (m 1)), (0, .ref (h 0))]) rfl ?_
          exact ih19 (nI (5 * i19), gre ((mR (mUp m 1 (nI (5 * i19))) n).1) (mLo (mUp m 1 (nI (5 * i19))) n) n) (by rw [bcI, ← ht19]; exact (bst_t h43 (Or.inl h48)).symm) _ _ _ _ _ _ _ _ _
        · refine j_aload_n C 4 dX6_bestCenter_51 rfl rfl ?_
          refine j_cv_i C (As := []) (rest := []) (ctX6_greatestB (xl X) D h (mUp m 1 (nI (5 * i19))) sp sv (nI s) tx tl (0 : Int32) sx_36 (nI (mR (mUp m 1 (nI (5 * i19))) n).2.1) ((mR (mUp m 1 (nI (5 * i19))) n).2.2.2.1) ((mR (mUp m 1 (nI (5 * i19))) n).2.2.2.2.1) ((mR (mUp m 1 (nI (5 * i19))) n).2.2.2.2.2) (mLo (mUp m 1 (nI (5 * i19))) n) rx_36 cr ap nu ha ((mR (mUp m 1 (nI (5 * i19))) n).1) n (by first | assumption | omega | decide) ((mUp_21 _ _).trans hc)) mfX6_greatest gX6_bestCenter_X6_greatest rfl (Nat.le_of_ble_eq_true rfl) (Nat.le_of_ble_eq_true rfl) (Nat.le_of_ble_eq_true rfl) (Nat.le_of_ble_eq_true rfl) [0, 1, 2, 3, 4, 5, 6] rfl rfl 0 rfl rfl rfl rfl (Nat.le_of_ble_eq_true rfl) dX6_bestCenter_52 ?_
          rintro _ _ ⟨rfl, rfl⟩
          refine ⟨rfl, ?_⟩
          refine j_w (w' := (wMo D h (mUp m 1 (nI (5 * i19))) sp sv (nI s) tx tl (0 : Int32) sx_36 (nI (mR (mUp m 1 (nI (5 * i19))) n).2.1) (bI (mR (mUp m 1 (nI (5 * i19))) n).1) ((mR (mUp m 1 (nI (5 * i19))) n).2.2.2.1) ((mR (mUp m 1 (nI (5 * i19))) n).2.2.2.2.1) ((mR (mUp m 1 (nI (5 * i19))) n).2.2.2.2.2) (mLo (mUp m 1 (nI (5 * i19))) n) rx_36 cr ap nu ha)) rfl ?_
          refine j_iload_n C 2 dX6_bestCenter_55 rfl rfl ?_
          refine j_icmp_ge C dX6_bestCenter_56 (tgt := 63) (by decide) (fun h56 => ?_) (fun h56 => ?_)
          · have h56' := Int32.not_lt.mpr h56
            refine j_iconst C (v := (0 : Int32)) dX6_bestCenter_63 rfl ?_
            refine j_istore C dX6_bestCenter_64 (by decide) (lv' := [(5, .int (0 : Int32)), (4, .int (nI (5 * i19))), (2, .int t19.1), (3, .int t19.2), (1, .int (m 1)), (0, .ref (h 0))]) rfl ?_
            refine j_iload C 0 dX6_bestCenter_66 rfl ?_
            refine j_if_eq C dX6_bestCenter_68 (tgt := 76) (by decide) (fun _ => ?_) (fun h => absurd (by decide) h)
            refine j_iload_n C 2 dX6_bestCenter_76 rfl rfl ?_
            refine j_istore_n C dX6_bestCenter_77 rfl (by decide) (lv' := [(2, .int t19.1), (5, .int (0 : Int32)), (4, .int (nI (5 * i19))), (3, .int t19.2), (1, .int (m 1)), (0, .ref (h 0))]) rfl ?_
            refine j_iload C 1 dX6_bestCenter_78 rfl ?_
            refine j_if_eq C dX6_bestCenter_80 (tgt := 90) (by decide) (fun _ => ?_) (fun h => absurd (by decide) h)
            refine j_iload_n C 3 dX6_bestCenter_90 rfl rfl ?_
            refine j_istore_n C dX6_bestCenter_91 rfl (by decide) (lv' := [(3, .int t19.2), (2, .int t19.1), (5, .int (0 : Int32)), (4, .int (nI (5 * i19))), (1, .int (m 1)), (0, .ref (h 0))]) rfl ?_
            refine j_iinc C 3 dX6_bestCenter_92 rfl (v := nI (5 * i19 + 5)) (nI_add _ 5) (by decide) (lv' := [(4, .int (nI (5 * i19 + 5))), (3, .int t19.2), (2, .int t19.1), (5, .int (0 : Int32)), (1, .int (m 1)), (0, .ref (h 0))]) rfl ?_
            refine j_goto C dX6_bestCenter_95 (tgt := 19) (by decide) ?_
            refine j_sub [0, 2, 1, 4, 5] (lv' := [(4, .int (nI (5 * i19 + 5))), (2, .int t19.1), (3, .int t19.2), (1, .int (m 1)), (0, .ref (h 0))]) rfl ?_
            exact ih19 (t19.1, t19.2) (by rw [bcI, ← ht19]; exact (bst_g h48 h56').symm) _ _ _ _ _ _ _ _ _
          · have h56' := Int32.not_le.mp h56
            refine j_iconst C (v := (1 : Int32)) dX6_bestCenter_59 rfl ?_
            refine j_goto C dX6_bestCenter_60 (tgt := 64) (by decide) ?_
            refine j_istore C dX6_bestCenter_64 (by decide) (lv' := [(5, .int (1 : Int32)), (4, .int (nI (5 * i19))), (2, .int t19.1), (3, .int t19.2), (1, .int (m 1)), (0, .ref (h 0))]) rfl ?_
            refine j_iload C 0 dX6_bestCenter_66 rfl ?_
            refine j_if_eq C dX6_bestCenter_68 (tgt := 76) (by decide) (fun h => absurd h (by decide)) (fun _ => ?_)
            refine j_iload C 1 dX6_bestCenter_71 rfl ?_
            refine j_goto C dX6_bestCenter_73 (tgt := 77) (by decide) ?_
            refine j_istore_n C dX6_bestCenter_77 rfl (by decide) (lv' := [(2, .int (nI (5 * i19))), (5, .int (1 : Int32)), (4, .int (nI (5 * i19))), (3, .int t19.2), (1, .int (m 1)), (0, .ref (h 0))]) rfl ?_
            refine j_iload C 1 dX6_bestCenter_78 rfl ?_
            refine j_if_eq C dX6_bestCenter_80 (tgt := 90) (by decide) (fun h => absurd h (by decide)) (fun _ => ?_)
            refine j_aload_n C 5 dX6_bestCenter_83 rfl rfl ?_
            refine j_cv_i C (As := []) (rest := []) (ctX6_greatestB (xl X) D h (mUp m 1 (nI (5 * i19))) sp sv (nI s) tx tl (0 : Int32) sx_36 (nI (mR (mUp m 1 (nI (5 * i19))) n).2.1) ((mR (mUp m 1 (nI (5 * i19))) n).2.2.2.1) ((mR (mUp m 1 (nI (5 * i19))) n).2.2.2.2.1) ((mR (mUp m 1 (nI (5 * i19))) n).2.2.2.2.2) (mLo (mUp m 1 (nI (5 * i19))) n) rx_36 cr ap nu ha ((mR (mUp m 1 (nI (5 * i19))) n).1) n (by first | assumption | omega | decide) ((mUp_21 _ _).trans hc)) mfX6_greatest gX6_bestCenter_X6_greatest rfl (Nat.le_of_ble_eq_true rfl) (Nat.le_of_ble_eq_true rfl) (Nat.le_of_ble_eq_true rfl) (Nat.le_of_ble_eq_true rfl) [0, 1, 2, 3, 4, 5, 6] rfl rfl 0 rfl rfl rfl rfl (Nat.le_of_ble_eq_true rfl) dX6_bestCenter_84 ?_
            rintro _ _ ⟨rfl, rfl⟩
            refine ⟨rfl, ?_⟩
            refine j_w (w' := (wMo D h (mUp m 1 (nI (5 * i19))) sp sv (nI s) tx tl (0 : Int32) sx_36 (nI (mR (mUp m 1 (nI (5 * i19))) n).2.1) (bI (mR (mUp m 1 (nI (5 * i19))) n).1) ((mR (mUp m 1 (nI (5 * i19))) n).2.2.2.1) ((mR (mUp m 1 (nI (5 * i19))) n).2.2.2.2.1) ((mR (mUp m 1 (nI (5 * i19))) n).2.2.2.2.2) (mLo (mUp m 1 (nI (5 * i19))) n) rx_36 cr ap nu ha)) rfl ?_
            refine j_goto C dX6_bestCenter_87 (tgt := 91) (by decide) ?_
            refine j_istore_n C dX6_bestCenter_91 rfl (by decide) (lv' := [(3, .int (gre ((mR (mUp m 1 (nI (5 * i19))) n).1) (mLo (mUp m 1 (nI (5 * i19))) n) n)), (2, .int (nI (5 * i19))), (5, .int (1 : Int32)), (4, .int (nI (5 * i19))), (1, .int (m 1)), (0, .ref (h 0))]) rfl ?_
            refine j_iinc C 3 dX6_bestCenter_92 rfl (v := nI (5 * i19 + 5)) (nI_add _ 5) (by decide) (lv' := [(4, .int (nI (5 * i19 + 5))), (3, .int (gre ((mR (mUp m 1 (nI (5 * i19))) n).1) (mLo (mUp m 1 (nI (5 * i19))) n) n)), (2, .int (nI (5 * i19))), (5, .int (1 : Int32)), (1, .int (m 1)), (0, .ref (h 0))]) rfl ?_
            refine j_goto C dX6_bestCenter_95 (tgt := 19) (by decide) ?_
            refine j_sub [0, 2, 1, 4, 5] (lv' := [(4, .int (nI (5 * i19 + 5))), (2, .int (nI (5 * i19))), (3, .int (gre ((mR (mUp m 1 (nI (5 * i19))) n).1) (mLo (mUp m 1 (nI (5 * i19))) n) n)), (1, .int (m 1)), (0, .ref (h 0))]) rfl ?_
            exact ih19 (nI (5 * i19), gre ((mR (mUp m 1 (nI (5 * i19))) n).1) (mLo (mUp m 1 (nI (5 * i19))) n) n) (by rw [bcI, ← ht19]; exact (bst_t h43 (Or.inr h56')).symm) _ _ _ _ _ _ _ _ _
  refine j_sub [0, 2, 1, 3, 4] (lv' := [(4, .int (0 : Int32)), (2, .int (-1 : Int32)), (3, .int (0 : Int32)), (1, .int (m 1)), (0, .ref (h 0))]) rfl ?_
  refine j_asi 1 (mUp m 1 (m 1)) rfl (fun j _ => congrFun (mUp_self m 1).symm j) rfl ?_
  exact hl19 0 (Nat.zero_le _) ((-1 : Int32), (0 : Int32)) rfl (m 1) _ _ _ _ _ _ _ _

set_option maxRecDepth 100000 in
set_option maxHeartbeats 4000000 in
theorem ctX6_appendX (l : Launch) (D : KD) (h : Nat → Nat) (m sp sv : Nat → Int32) (tx : Nat → Int32) (cd se ro st : Int32) (qa qb qd : Int64) (lo : Nat → Int32) (re : Nat → Int64) (cr ap nu : Int32) (ha : Int64) (s : Nat) (hs : s ≤ 4) (t : Nat) (ht : t ≤ 160) (x : Int32) (hx : pIn x (0 : Int32) (127 : Int32) = false) : MI l D yX6_append wsX6_append 1 22 0 0 [.ref (h 0), .int x] (wMo D h m sp sv (nI s) tx (nI t) cd se ro st qa qb qd lo re cr ap nu ha) (fun r w1 => r = 0 ∧ mW D h m sv (nI s) tx (nI t) 1 w1) := by
  refine MI.of (cc := cX6_append) (nL := 2) (lv0 := [(0, .ref (h 0)), (1, .int x)]) (by decide +kernel) rfl (Nat.le_of_ble_eq_true rfl) rfl ?_
  intro X hXl hin C ret
  subst hXl
  refine j_aload_n C 0 dX6_append_0 rfl rfl ?_
  refine j_iload_n C 1 dX6_append_1 rfl rfl ?_
  refine j_iconst C (v := (0 : Int32)) dX6_append_2 rfl ?_
  refine j_bipush C (v := (127 : Int32)) dX6_append_3 rfl ?_
  refine j_cs_i C (As := [.int x, .int (0 : Int32), .int (127 : Int32)]) (rest := [.ref (h 0)]) (ctX6_in (xl X) D x (0 : Int32) (127 : Int32)) mfX6_in gX6_append_X6_in rfl (Nat.le_of_ble_eq_true rfl) (Nat.le_of_ble_eq_true rfl) (Nat.le_of_ble_eq_true rfl) (Nat.le_of_ble_eq_true rfl) [] rfl rfl rfl (Nat.le_of_ble_eq_true rfl) dX6_append_5 ?_
  rintro _ _ ⟨rfl, rfl⟩
  refine ⟨rfl, ?_⟩
  refine j_w (w' := (wMo D h m sp sv (nI s) tx (nI t) cd se ro st qa qb qd lo re cr ap nu ha)) rfl ?_
  refine j_bif_ne C dX6_append_8 (tgt := 15) (by decide) (fun h => (by rw [hx] at h; cases h)) (fun _ => ?_)
  refine j_iconst C (v := (1 : Int32)) dX6_append_11 rfl ?_
  refine j_goto C dX6_append_12 (tgt := 30) (by decide) ?_
  refine j_put C 0 foX6_append_29 rfl (w' := (wMo D h m sp sv (nI s) tx (nI t) (1 : Int32) se ro st qa qb qd lo re cr ap nu ha)) rfl rfl rfl (Nat.le_of_ble_eq_true rfl) dX6_append_30 ?_
  refine j_aload_n C 0 dX6_append_33 rfl rfl ?_
  refine j_get C 0 fgX6_append_29 rfl rfl dX6_append_34 ?_
  refine j_if_eq C dX6_append_37 (tgt := 42) (by decide) (fun h => absurd h (by decide)) (fun _ => ?_)
  refine j_iconst C (v := (0 : Int32)) dX6_append_40 rfl ?_
  exact ret dX6_append_41 (⟨rfl, ⟨_, _, _, _, _, _, _, _, _, _, _, _, _, rfl⟩⟩)

set_option maxRecDepth 100000 in
set_option maxHeartbeats 4000000 in
theorem ctX6_appendF (l : Launch) (D : KD) (h : Nat → Nat) (m sp sv : Nat → Int32) (tx : Nat → Int32) (cd se ro st : Int32) (qa qb qd : Int64) (lo : Nat → Int32) (re : Nat → Int64) (cr ap nu : Int32) (ha : Int64) (s : Nat) (hs : s ≤ 4) (t : Nat) (ht : t ≤ 160) (x : Int32) (hx : pIn x (0 : Int32) (127 : Int32) = true) (h160 : t = 160) : MI l D yX6_append wsX6_append 1 22 0 0 [.ref (h 0), .int x] (wMo D h m sp sv (nI s) tx (nI t) cd se ro st qa qb qd lo re cr ap nu ha) (fun r w1 => r = 0 ∧ mW D h m sv (nI s) tx (nI t) 2 w1) := by
  refine MI.of (cc := cX6_append) (nL := 2) (lv0 := [(0, .ref (h 0)), (1, .int x)]) (by decide +kernel) rfl (Nat.le_of_ble_eq_true rfl) rfl ?_
  intro X hXl hin C ret
  subst hXl
  refine j_aload_n C 0 dX6_append_0 rfl rfl ?_
  refine j_iload_n C 1 dX6_append_1 rfl rfl ?_
  refine j_iconst C (v := (0 : Int32)) dX6_append_2 rfl ?_
  refine j_bipush C (v := (127 : Int32)) dX6_append_3 rfl ?_
  refine j_cs_i C (As := [.int x, .int (0 : Int32), .int (127 : Int32)]) (rest := [.ref (h 0)]) (ctX6_in (xl X) D x (0 : Int32) (127 : Int32)) mfX6_in gX6_append_X6_in rfl (Nat.le_of_ble_eq_true rfl) (Nat.le_of_ble_eq_true rfl) (Nat.le_of_ble_eq_true rfl) (Nat.le_of_ble_eq_true rfl) [] rfl rfl rfl (Nat.le_of_ble_eq_true rfl) dX6_append_5 ?_
  rintro _ _ ⟨rfl, rfl⟩
  refine ⟨rfl, ?_⟩
  refine j_w (w' := (wMo D h m sp sv (nI s) tx (nI t) cd se ro st qa qb qd lo re cr ap nu ha)) rfl ?_
  refine j_bif_ne C dX6_append_8 (tgt := 15) (by decide) (fun _ => ?_) (fun h => (by rw [hx] at h; cases h))
  refine j_aload_n C 0 dX6_append_15 rfl rfl ?_
  refine j_get C 0 fgX6_append_175 rfl rfl dX6_append_16 ?_
  refine j_sipush C (v := (160 : Int32)) dX6_append_19 rfl ?_
  refine j_icmp_ne C dX6_append_22 (tgt := 29) (by decide) (fun h => absurd (by rw [h160]; rfl) h) (fun _ => ?_)
  refine j_iconst C (v := (2 : Int32)) dX6_append_25 rfl ?_
  refine j_goto C dX6_append_26 (tgt := 30) (by decide) ?_
  refine j_put C 0 foX6_append_29 rfl (w' := (wMo D h m sp sv (nI s) tx (nI t) (2 : Int32) se ro st qa qb qd lo re cr ap nu ha)) rfl rfl rfl (Nat.le_of_ble_eq_true rfl) dX6_append_30 ?_
  refine j_aload_n C 0 dX6_append_33 rfl rfl ?_
  refine j_get C 0 fgX6_append_29 rfl rfl dX6_append_34 ?_
  refine j_if_eq C dX6_append_37 (tgt := 42) (by decide) (fun h => absurd h (by decide)) (fun _ => ?_)
  refine j_iconst C (v := (0 : Int32)) dX6_append_40 rfl ?_
  exact ret dX6_append_41 (⟨rfl, ⟨_, _, _, _, _, _, _, _, _, _, _, _, _, rfl⟩⟩)

set_option maxRecDepth 100000 in
set_option maxHeartbeats 4000000 in
theorem ctX6_append (l : Launch) (D : KD) (h : Nat → Nat) (m sp sv : Nat → Int32) (tx : Nat → Int32) (cd se ro st : Int32) (qa qb qd : Int64) (lo : Nat → Int32) (re : Nat → Int64) (cr ap nu : Int32) (ha : Int64) (s : Nat) (hs : s ≤ 4) (t : Nat) (ht : t ≤ 160) (x : Int32) (hx : pIn x (0 : Int32) (127 : Int32) = true) (h160 : t < 160) : MI l D yX6_append wsX6_append 1 22 0 0 [.ref (h 0), .int x] (wMo D h m sp sv (nI s) tx (nI t) cd se ro st qa qb qd lo re cr ap nu ha) (fun r w1 => r = nI (t + 1) ∧ mW D h m sv (nI s) (upd tx t x) (nI (t + 1)) 0 w1) := by
  refine MI.of (cc := cX6_append) (nL := 2) (lv0 := [(0, .ref (h 0)), (1, .int x)]) (by decide +kernel) rfl (Nat.le_of_ble_eq_true rfl) rfl ?_
  intro X hXl hin C ret
  subst hXl
  refine j_aload_n C 0 dX6_append_0 rfl rfl ?_
  refine j_iload_n C 1 dX6_append_1 rfl rfl ?_
  refine j_iconst C (v := (0 : Int32)) dX6_append_2 rfl ?_
  refine j_bipush C (v := (127 : Int32)) dX6_append_3 rfl ?_
  refine j_cs_i C (As := [.int x, .int (0 : Int32), .int (127 : Int32)]) (rest := [.ref (h 0)]) (ctX6_in (xl X) D x (0 : Int32) (127 : Int32)) mfX6_in gX6_append_X6_in rfl (Nat.le_of_ble_eq_true rfl) (Nat.le_of_ble_eq_true rfl) (Nat.le_of_ble_eq_true rfl) (Nat.le_of_ble_eq_true rfl) [] rfl rfl rfl (Nat.le_of_ble_eq_true rfl) dX6_append_5 ?_
  rintro _ _ ⟨rfl, rfl⟩
  refine ⟨rfl, ?_⟩
  refine j_w (w' := (wMo D h m sp sv (nI s) tx (nI t) cd se ro st qa qb qd lo re cr ap nu ha)) rfl ?_
  refine j_bif_ne C dX6_append_8 (tgt := 15) (by decide) (fun _ => ?_) (fun h => (by rw [hx] at h; cases h))
  refine j_aload_n C 0 dX6_append_15 rfl rfl ?_
  refine j_get C 0 fgX6_append_175 rfl rfl dX6_append_16 ?_
  refine j_sipush C (v := (160 : Int32)) dX6_append_19 rfl ?_
  refine j_icmp_ne C dX6_append_22 (tgt := 29) (by decide) (fun _ => ?_) (fun h => absurd h (fun z => by have := (nI_eq (a := t) (b := 160) (by omega) (by decide)).mp z; omega))
  refine j_iconst C (v := (0 : Int32)) dX6_append_29 rfl ?_
  refine j_put C 0 foX6_append_29 rfl (w' := (wMo D h m sp sv (nI s) tx (nI t) (0 : Int32) se ro st qa qb qd lo re cr ap nu ha)) rfl rfl rfl (Nat.le_of_ble_eq_true rfl) dX6_append_30 ?_
  refine j_aload_n C 0 dX6_append_33 rfl rfl ?_
  refine j_get C 0 fgX6_append_29 rfl rfl dX6_append_34 ?_
  refine j_if_eq C dX6_append_37 (tgt := 42) (by decide) (fun _ => ?_) (fun h => absurd (by decide) h)
  refine j_aload_n C 0 dX6_append_42 rfl rfl ?_
  refine j_get C 0 fgX6_append_19 rfl rfl dX6_append_43 ?_
  refine j_aload_n C 0 dX6_append_46 rfl rfl ?_
  refine j_get C 0 fgX6_append_175 rfl rfl dX6_append_47 ?_
  refine j_iload_n C 1 dX6_append_50 rfl rfl ?_
  refine j_iast C 4 rfl (i := t) rfl (by omega) (by decide) (w' := (wMo D h m sp sv (nI s) (upd tx t x) (nI t) (0 : Int32) se ro st qa qb qd lo re cr ap nu ha)) rfl dX6_append_51 ?_
  refine j_aload_n C 0 dX6_append_52 rfl rfl ?_
  refine j_dup C dX6_append_53 rfl ?_
  refine j_get C 0 fgX6_append_175 rfl rfl dX6_append_54 ?_
  refine j_iconst C (v := (1 : Int32)) dX6_append_57 rfl ?_
  refine j_iadd C dX6_append_58 ?_
  refine j_eqi (y := nI (t + 1)) (nI_add t 1) ?_
  refine j_put C 0 foX6_append_175 rfl (w' := (wMo D h m sp sv (nI s) (upd tx t x) (nI (t + 1)) (0 : Int32) se ro st qa qb qd lo re cr ap nu ha)) rfl rfl rfl (Nat.le_of_ble_eq_true rfl) dX6_append_59 ?_
  refine j_aload_n C 0 dX6_append_62 rfl rfl ?_
  refine j_get C 0 fgX6_append_175 rfl rfl dX6_append_63 ?_
  exact ret dX6_append_66 (⟨rfl, ⟨_, _, _, _, _, _, _, _, _, _, _, _, _, rfl⟩⟩)

set_option maxRecDepth 100000 in
set_option maxHeartbeats 4000000 in
theorem ctX6_clearText (l : Launch) (D : KD) (h : Nat → Nat) (m sp sv : Nat → Int32) (tx : Nat → Int32) (cd se ro st : Int32) (qa qb qd : Int64) (lo : Nat → Int32) (re : Nat → Int64) (cr ap nu : Int32) (ha : Int64) (s : Nat) (hs : s ≤ 4) (t : Nat) (ht : t ≤ 160) : MI l D yX6_clearText wsX6_clearText 0 0 0 0 [.ref (h 0)] (wMo D h m sp sv (nI s) tx (nI t) cd se ro st qa qb qd lo re cr ap nu ha) (fun r w1 => r = nI t ∧ mW D h m sv (nI s) tx 0 0 w1) := by
  refine MI.of (cc := cX6_clearText) (nL := 2) (lv0 := [(0, .ref (h 0))]) (by decide +kernel) rfl (Nat.le_of_ble_eq_true rfl) rfl ?_
  intro X hXl hin C ret
  subst hXl
  refine j_aload_n C 0 dX6_clearText_0 rfl rfl ?_
  refine j_iconst C (v := (0 : Int32)) dX6_clearText_1 rfl ?_
  refine j_put C 0 foX6_clearText_29 rfl (w' := (wMo D h m sp sv (nI s) tx (nI t) (0 : Int32) se ro st qa qb qd lo re cr ap nu ha)) rfl rfl rfl (Nat.le_of_ble_eq_true rfl) dX6_clearText_2 ?_
  refine j_aload_n C 0 dX6_clearText_5 rfl rfl ?_
  refine j_get C 0 fgX6_clearText_175 rfl rfl dX6_clearText_6 ?_
  refine j_istore_n C dX6_clearText_9 rfl (by decide) (lv' := [(1, .int (nI t)), (0, .ref (h 0))]) rfl ?_
  refine j_aload_n C 1 dX6_clearText_10 rfl rfl ?_
  refine j_iconst C (v := (0 : Int32)) dX6_clearText_11 rfl ?_
  refine j_put C 0 foX6_clearText_175 rfl (w' := (wMo D h m sp sv (nI s) tx (0 : Int32) (0 : Int32) se ro st qa qb qd lo re cr ap nu ha)) rfl rfl rfl (Nat.le_of_ble_eq_true rfl) dX6_clearText_12 ?_
  refine j_iload_n C 0 dX6_clearText_15 rfl rfl ?_
  exact ret dX6_clearText_16 (⟨rfl, ⟨_, _, _, _, _, _, _, _, _, _, _, _, _, rfl⟩⟩)

set_option maxRecDepth 100000 in
set_option maxHeartbeats 4000000 in
theorem ctX6_undoX (l : Launch) (D : KD) (h : Nat → Nat) (m sp sv : Nat → Int32) (tx : Nat → Int32) (tl cd se ro st : Int32) (qa qb qd : Int64) (lo : Nat → Int32) (re : Nat → Int64) (cr ap nu : Int32) (ha : Int64) : MI l D yX6_undo wsX6_undo 0 0 0 0 [.ref (h 0)] (wMo D h m sp sv 0 tx tl cd se ro st qa qb qd lo re cr ap nu ha) (fun r w1 => r = 0 ∧ mW D h m sv 0 tx tl 1 w1) := by
  refine MI.of (cc := cX6_undo) (nL := 1) (lv0 := [(0, .ref (h 0))]) (by decide +kernel) rfl (Nat.le_of_ble_eq_true rfl) rfl ?_
  intro X hXl hin C ret
  subst hXl
  refine j_aload_n C 0 dX6_undo_0 rfl rfl ?_
  refine j_aload_n C 0 dX6_undo_1 rfl rfl ?_
  refine j_get C 0 fgX6_undo_33 rfl rfl dX6_undo_2 ?_
  refine j_if_ne C dX6_undo_5 (tgt := 12) (by decide) (fun h => absurd (by decide) h) (fun _ => ?_)
  refine j_iconst C (v := (1 : Int32)) dX6_undo_8 rfl ?_
  refine j_goto C dX6_undo_9 (tgt := 13) (by decide) ?_
  refine j_put C 0 foX6_undo_29 rfl (w' := (wMo D h m sp sv 0 tx tl (1 : Int32) se ro st qa qb qd lo re cr ap nu ha)) rfl rfl rfl (Nat.le_of_ble_eq_true rfl) dX6_undo_13 ?_
  refine j_aload_n C 0 dX6_undo_16 rfl rfl ?_
  refine j_get C 0 fgX6_undo_29 rfl rfl dX6_undo_17 ?_
  refine j_if_eq C dX6_undo_20 (tgt := 25) (by decide) (fun h => absurd h (by decide)) (fun _ => ?_)
  refine j_iconst C (v := (0 : Int32)) dX6_undo_23 rfl ?_
  exact ret dX6_undo_24 (⟨rfl, ⟨_, _, _, _, _, _, _, _, _, _, _, _, _, rfl⟩⟩)

set_option maxRecDepth 100000 in
set_option maxHeartbeats 4000000 in
theorem ctX6_undo (l : Launch) (D : KD) (h : Nat → Nat) (m sp sv : Nat → Int32) (tx : Nat → Int32) (tl cd se ro st : Int32) (qa qb qd : Int64) (lo : Nat → Int32) (re : Nat → Int64) (cr ap nu : Int32) (ha : Int64) (s : Nat) (hs : s < 4) : MI l D yX6_undo wsX6_undo 1 24 0 0 [.ref (h 0)] (wMo D h m sp sv (nI (s + 1)) tx tl cd se ro st qa qb qd lo re cr ap nu ha) (fun r w1 => r = nI s ∧ mW D h (svP sv s) sv (nI s) tx tl 0 w1) := by
  refine MI.of (cc := cX6_undo) (nL := 1) (lv0 := [(0, .ref (h 0))]) (by decide +kernel) rfl (Nat.le_of_ble_eq_true rfl) rfl ?_
  intro X hXl hin C ret
  subst hXl
  refine j_aload_n C 0 dX6_undo_0 rfl rfl ?_
  refine j_aload_n C 0 dX6_undo_1 rfl rfl ?_
  refine j_get C 0 fgX6_undo_33 rfl rfl dX6_undo_2 ?_
  refine j_if_ne C dX6_undo_5 (tgt := 12) (by decide) (fun _ => ?_) (fun h => absurd h (fun z => by have := (nI_eq (a := s + 1) (b := 0) (by omega) (by decide)).mp z; omega))
  refine j_iconst C (v := (0 : Int32)) dX6_undo_12 rfl ?_
  refine j_put C 0 foX6_undo_29 rfl (w' := (wMo D h m sp sv (nI (s + 1)) tx tl (0 : Int32) se ro st qa qb qd lo re cr ap nu ha)) rfl rfl rfl (Nat.le_of_ble_eq_true rfl) dX6_undo_13 ?_
  refine j_aload_n C 0 dX6_undo_16 rfl rfl ?_
  refine j_get C 0 fgX6_undo_29 rfl rfl dX6_undo_17 ?_
  refine j_if_eq C dX6_undo_20 (tgt := 25) (by decide) (fun _ => ?_) (fun h => absurd (by decide) h)
  refine j_aload_n C 0 dX6_undo_25 rfl rfl ?_
  refine j_dup C dX6_undo_26 rfl ?_
  refine j_get C 0 fgX6_undo_33 rfl rfl dX6_undo_27 ?_
  refine j_iconst C (v := (1 : Int32)) dX6_undo_30 rfl ?_
  refine j_isub C dX6_undo_31 ?_
  refine j_eqi (y := nI s) (nI_pred _) ?_
  refine j_put C 0 foX6_undo_33 rfl (w' := (wMo D h m sp sv (nI s) tx tl (0 : Int32) se ro st qa qb qd lo re cr ap nu ha)) rfl rfl rfl (Nat.le_of_ble_eq_true rfl) dX6_undo_32 ?_
  refine j_aload_n C 0 dX6_undo_35 rfl rfl ?_
  refine j_get C 0 fgX6_undo_16 rfl rfl dX6_undo_36 ?_
  refine j_bipush C (v := (99 : Int32)) dX6_undo_39 rfl ?_
  refine j_aload_n C 0 dX6_undo_41 rfl rfl ?_
  refine j_get C 0 fgX6_undo_33 rfl rfl dX6_undo_42 ?_
  refine j_imul C dX6_undo_45 ?_
  refine j_eqi (y := nI (99 * s)) (pk_mul 99 s) ?_
  refine j_aload_n C 0 dX6_undo_46 rfl rfl ?_
  refine j_get C 0 fgX6_undo_7 rfl rfl dX6_undo_47 ?_
  refine j_iconst C (v := (0 : Int32)) dX6_undo_50 rfl ?_
  refine j_cs_v C (As := [.ref (h 3), .int (nI (99 * s)), .ref (h 1), .int (0 : Int32)]) (rest := []) (ctX6_bring (xl X) D (h 3) (h 1) 396 99 (99 * s) 0 sv m (by first | assumption | omega | decide) (by first | assumption | omega | decide) (by first | assumption | omega | decide) (by first | assumption | omega | decide)) mfX6_bring gX6_undo_X6_bring rfl (Nat.le_of_ble_eq_true rfl) (Nat.le_of_ble_eq_true rfl) (Nat.le_of_ble_eq_true rfl) (Nat.le_of_ble_eq_true rfl) [3, 1] rfl rfl rfl (Nat.le_of_ble_eq_true rfl) dX6_undo_51 ?_
  rintro _ rfl
  refine ⟨rfl, ?_⟩
  refine j_w (w' := (wMo D h (va_cpy sv m (99 * s) 0 99) sp sv (nI s) tx tl (0 : Int32) se ro st qa qb qd lo re cr ap nu ha)) rfl ?_
  refine j_asi 1 (svP sv s) rfl (fun j hj => by simp [va_cpy, svP, hj]) (w' := (wMo D h (svP sv s) sp sv (nI s) tx tl (0 : Int32) se ro st qa qb qd lo re cr ap nu ha)) rfl ?_
  refine j_aload_n C 0 dX6_undo_54 rfl rfl ?_
  refine j_get C 0 fgX6_undo_33 rfl rfl dX6_undo_55 ?_
  exact ret dX6_undo_58 (⟨rfl, ⟨_, _, _, _, _, _, _, _, _, _, _, _, _, rfl⟩⟩)

set_option maxRecDepth 100000 in
set_option maxHeartbeats 4000000 in
theorem ctX6_mix (l : Launch) (D : KD) (h : Nat → Nat) (m sp sv : Nat → Int32) (sc : Int32) (tx : Nat → Int32) (tl cd se ro st : Int32) (qa qb qd : Int64) (lo : Nat → Int32) (re : Nat → Int64) (cr ap nu : Int32) (ha : Int64) (v : Int64) : MV l D yX6_mix wsX6_mix 0 0 0 0 [.ref (h 0), .long v] (wMo D h m sp sv sc tx tl cd se ro st qa qb qd lo re cr ap nu ha) (fun w1 => w1 = wMo D h m sp sv sc tx tl cd se ro st qa qb qd lo re cr ap nu (31 * ha + v)) := by
  refine MV.of (cc := cX6_mix) (nL := 3) (lv0 := [(0, .ref (h 0)), (1, .long v)]) (by decide +kernel) rfl (Nat.le_of_ble_eq_true rfl) rfl ?_
  intro X hXl hin C ret
  subst hXl
  refine j_aload_n C 0 dX6_mix_0 rfl rfl ?_
  refine j_ldc2 C kX6_mix_202 dX6_mix_1 ?_
  refine j_aload_n C 0 dX6_mix_4 rfl rfl ?_
  refine j_get C 0 fgX6_mix_204 rfl rfl dX6_mix_5 ?_
  refine j_lmul C dX6_mix_8 ?_
  refine j_lload_n C 1 dX6_mix_9 rfl rfl ?_
  refine j_ladd C dX6_mix_10 ?_
  refine j_put C 0 foX6_mix_204 rfl (w' := (wMo D h m sp sv sc tx tl cd se ro st qa qb qd lo re cr ap nu (((31 : Int64) * ha) + v))) rfl rfl rfl (Nat.le_of_ble_eq_true rfl) dX6_mix_11 ?_
  exact ret dX6_mix_14 (rfl)

set_option maxRecDepth 100000 in
set_option maxHeartbeats 4000000 in
theorem ctX6_digest (l : Launch) (D : KD) (h : Nat → Nat) (m sp sv : Nat → Int32) (tx : Nat → Int32) (tl cd se ro st : Int32) (qa qb qd : Int64) (lo : Nat → Int32) (re : Nat → Int64) (cr ap nu : Int32) (ha : Int64) (s : Nat) (hs : s ≤ 4) (n : Nat) (hn : n ≤ 16) (hc : m 2 = nI n) (hV : mVal m n) : ML l D yX6_digest wsX6_digest 4 91 0 0 [.ref (h 0)] (wMo D h m sp sv (nI s) tx tl cd se ro st qa qb qd lo re cr ap nu ha) (fun r w1 => r = mDg m n tl (nI s) ∧ mW D h m sv (nI s) tx tl 0 w1) := by
  refine ML.of (cc := cX6_digest) (nL := 2) (lv0 := [(0, .ref (h 0))]) (by decide +kernel) rfl (Nat.le_of_ble_eq_true rfl) rfl ?_
  intro X hXl hin C ret
  subst hXl
  refine j_aload_n C 0 dX6_digest_0 rfl rfl ?_
  refine j_iconst C (v := (0 : Int32)) dX6_digest_1 rfl ?_
  refine j_put C 0 foX6_digest_29 rfl (w' := (wMo D h m sp sv (nI s) tx tl (0 : Int32) se ro st qa qb qd lo re cr ap nu ha)) rfl rfl rfl (Nat.le_of_ble_eq_true rfl) dX6_digest_2 ?_
  refine j_aload_n C 0 dX6_digest_5 rfl rfl ?_
  refine j_cv_v C (As := []) (rest := []) (ctX6_settle (xl X) D h m sp sv (nI s) tx tl (0 : Int32) se ro st qa qb qd lo re cr ap nu ha n (by first | assumption | omega | decide) (by first | assumption | omega | decide) (by first | assumption | omega | decide)) mfX6_settle gX6_digest_X6_settle rfl (Nat.le_of_ble_eq_true rfl) (Nat.le_of_ble_eq_true rfl) (Nat.le_of_ble_eq_true rfl) (Nat.le_of_ble_eq_true rfl) [0, 1, 2, 3, 4, 5, 6] rfl rfl 0 rfl rfl rfl rfl (Nat.le_of_ble_eq_true rfl) dX6_digest_6 ?_
  rintro _ ⟨sx_6, rx_6, hsx_6, rfl⟩
  refine ⟨rfl, ?_⟩
  refine j_w (w' := (wMo D h m sp sv (nI s) tx tl (0 : Int32) sx_6 (nI (mR m n).2.1) (bI (mR m n).1) ((mR m n).2.2.2.1) ((mR m n).2.2.2.2.1) ((mR m n).2.2.2.2.2) (mLo m n) rx_6 cr ap nu ha)) rfl ?_
  refine j_aload_n C 0 dX6_digest_9 rfl rfl ?_
  refine j_ldc2 C kX6_digest_207 dX6_digest_10 ?_
  refine j_put C 0 foX6_digest_204 rfl (w' := (wMo D h m sp sv (nI s) tx tl (0 : Int32) sx_6 (nI (mR m n).2.1) (bI (mR m n).1) ((mR m n).2.2.2.1) ((mR m n).2.2.2.2.1) ((mR m n).2.2.2.2.2) (mLo m n) rx_6 cr ap nu (3433 : Int64))) rfl rfl rfl (Nat.le_of_ble_eq_true rfl) dX6_digest_13 ?_
  refine j_aload_n C 0 dX6_digest_16 rfl rfl ?_
  refine j_aload_n C 0 dX6_digest_17 rfl rfl ?_
  refine j_get C 0 fgX6_digest_175 rfl rfl dX6_digest_18 ?_
  refine j_i2l C dX6_digest_21 ?_
  refine j_cv_v C (As := [.long tl.toInt64]) (rest := []) (ctX6_mix (xl X) D h m sp sv (nI s) tx tl (0 : Int32) sx_6 (nI (mR m n).2.1) (bI (mR m n).1) ((mR m n).2.2.2.1) ((mR m n).2.2.2.2.1) ((mR m n).2.2.2.2.2) (mLo m n) rx_6 cr ap nu (3433 : Int64) tl.toInt64) mfX6_mix gX6_digest_X6_mix rfl (Nat.le_of_ble_eq_true rfl) (Nat.le_of_ble_eq_true rfl) (Nat.le_of_ble_eq_true rfl) (Nat.le_of_ble_eq_true rfl) [0, 1, 2, 3, 4, 5, 6] rfl rfl 0 rfl rfl rfl rfl (Nat.le_of_ble_eq_true rfl) dX6_digest_22 ?_
  rintro _ rfl
  refine ⟨rfl, ?_⟩
  refine j_w (w' := (wMo D h m sp sv (nI s) tx tl (0 : Int32) sx_6 (nI (mR m n).2.1) (bI (mR m n).1) ((mR m n).2.2.2.1) ((mR m n).2.2.2.2.1) ((mR m n).2.2.2.2.2) (mLo m n) rx_6 cr ap nu (31 * (3433 : Int64) + tl.toInt64))) rfl ?_
  refine j_iconst C (v := (0 : Int32)) dX6_digest_25 rfl ?_
  refine j_istore_n C dX6_digest_26 rfl (by decide) (lv' := [(1, .int (0 : Int32)), (0, .ref (h 0))]) rfl ?_
  have hl27 : ∀ i27, i27 ≤ 10 → ∀ (t27 : Int64), t27 = dgI (fun k => (mVl m n k).toInt64) (31 * 3433 + tl.toInt64) i27 → J D X (wMo D h m sp sv (nI s) tx tl (0 : Int32) sx_6 (nI (mR m n).2.1) (bI (mR m n).1) ((mR m n).2.2.2.1) ((mR m n).2.2.2.2.1) ((mR m n).2.2.2.2.2) (mLo m n) rx_6 cr ap nu t27) 0 0 27 [(1, .int (nI i27)), (0, .ref (h 0))] [] := by
    refine for_up (10) ?_ ?_
    · intro t27 ht27
      refine j_iload_n C 0 dX6_digest_27 rfl rfl ?_
      refine j_bipush C (v := (10 : Int32)) dX6_digest_28 rfl ?_
      refine j_icmp_ge C dX6_digest_30 (tgt := 49) (by decide) (fun _ => ?_) (fun h => absurd (nI_le (Nat.le_refl 10) (by decide)) h)
      refine j_iconst C (v := (0 : Int32)) dX6_digest_49 rfl ?_
      refine j_istore_n C dX6_digest_50 rfl (by decide) (lv' := [(1, .int (0 : Int32)), (0, .ref (h 0))]) rfl ?_
      have hl51 : ∀ i51, i51 ≤ 3 → ∀ (t51 : Int64), t51 = dgI (fun k => mBa m n k) (dgI (fun k => (mVl m n k).toInt64) (31 * 3433 + tl.toInt64) 10) i51 → J D X (wMo D h m sp sv (nI s) tx tl (0 : Int32) sx_6 (nI (mR m n).2.1) (bI (mR m n).1) ((mR m n).2.2.2.1) ((mR m n).2.2.2.2.1) ((mR m n).2.2.2.2.2) (mLo m n) rx_6 cr ap nu t51) 0 0 51 [(1, .int (nI i51)), (0, .ref (h 0))] [] := by
        refine for_up (3) ?_ ?_
        · intro t51 ht51
          refine j_iload_n C 0 dX6_digest_51 rfl rfl ?_
          refine j_iconst C (v := (3 : Int32)) dX6_digest_52 rfl ?_
          refine j_icmp_ge C dX6_digest_53 (tgt := 71) (by decide) (fun _ => ?_) (fun h => absurd (nI_le (Nat.le_refl 3) (by decide)) h)
          refine j_iconst C (v := (0 : Int32)) dX6_digest_71 rfl ?_
          refine j_istore_n C dX6_digest_72 rfl (by decide) (lv' := [(1, .int (0 : Int32)), (0, .ref (h 0))]) rfl ?_
          have hl73 : ∀ i73, i73 ≤ 9 * n → ∀ (t73 : Int64), t73 = dgI (fun k => (mBl m n (k / 9) (k % 9)).toInt64) (dgI (fun k => mBa m n k) (dgI (fun k => (mVl m n k).toInt64) (31 * 3433 + tl.toInt64) 10) 3) i73 → J D X (wMo D h m sp sv (nI s) tx tl (0 : Int32) sx_6 (nI (mR m n).2.1) (bI (mR m n).1) ((mR m n).2.2.2.1) ((mR m n).2.2.2.2.1) ((mR m n).2.2.2.2.2) (mLo m n) rx_6 cr ap nu t73) 0 0 73 [(1, .int (nI i73)), (0, .ref (h 0))] [] := by
            refine for_up (9 * n) ?_ ?_
            · intro t73 ht73
              refine j_iload_n C 0 dX6_digest_73 rfl rfl ?_
              refine j_bipush C (v := (9 : Int32)) dX6_digest_74 rfl ?_
              refine j_aload_n C 1 dX6_digest_76 rfl rfl ?_
              refine j_get C 0 fgX6_digest_7 rfl rfl dX6_digest_77 ?_
              refine j_iconst C (v := (2 : Int32)) dX6_digest_80 rfl ?_
              refine j_iald C 1 rfl (i := 2) rfl (by decide) (by decide) dX6_digest_81 ?_
              refine j_eqi (y := nI n) hc ?_
              refine j_imul C dX6_digest_82 ?_
              refine j_eqi (y := nI (9 * n)) (pk_mul 9 n) ?_
              refine j_icmp_ge C dX6_digest_83 (tgt := 109) (by decide) (fun _ => ?_) (fun h => absurd (Int32.le_refl _) h)
              refine j_aload_n C 1 dX6_digest_109 rfl rfl ?_
              refine j_aload_n C 1 dX6_digest_110 rfl rfl ?_
              refine j_get C 0 fgX6_digest_33 rfl rfl dX6_digest_111 ?_
              refine j_i2l C dX6_digest_114 ?_
              refine j_cv_v C (As := [.long ((nI s).toInt64)]) (rest := []) (ctX6_mix (xl X) D h m sp sv (nI s) tx tl (0 : Int32) sx_6 (nI (mR m n).2.1) (bI (mR m n).1) ((mR m n).2.2.2.1) ((mR m n).2.2.2.2.1) ((mR m n).2.2.2.2.2) (mLo m n) rx_6 cr ap nu t73 ((nI s).toInt64)) mfX6_mix gX6_digest_X6_mix rfl (Nat.le_of_ble_eq_true rfl) (Nat.le_of_ble_eq_true rfl) (Nat.le_of_ble_eq_true rfl) (Nat.le_of_ble_eq_true rfl) [0, 1, 2, 3, 4, 5, 6] rfl rfl 0 rfl rfl rfl rfl (Nat.le_of_ble_eq_true rfl) dX6_digest_115 ?_
              rintro _ rfl
              refine ⟨rfl, ?_⟩
              refine j_w (w' := (wMo D h m sp sv (nI s) tx tl (0 : Int32) sx_6 (nI (mR m n).2.1) (bI (mR m n).1) ((mR m n).2.2.2.1) ((mR m n).2.2.2.2.1) ((mR m n).2.2.2.2.2) (mLo m n) rx_6 cr ap nu (31 * t73 + ((nI s).toInt64)))) rfl ?_
              refine j_aload_n C 1 dX6_digest_118 rfl rfl ?_
              refine j_get C 0 fgX6_digest_204 rfl rfl dX6_digest_119 ?_
              exact ret dX6_digest_122 (⟨by rw [mDg, ← ht73], ⟨_, _, _, _, _, _, _, _, _, _, _, _, _, rfl⟩⟩)
            · intro i73 hi73 ih73 t73 ht73
              refine j_iload_n C 0 dX6_digest_73 rfl rfl ?_
              refine j_bipush C (v := (9 : Int32)) dX6_digest_74 rfl ?_
              refine j_aload_n C 1 dX6_digest_76 rfl rfl ?_
              refine j_get C 0 fgX6_digest_7 rfl rfl dX6_digest_77 ?_
              refine j_iconst C (v := (2 : Int32)) dX6_digest_80 rfl ?_
              refine j_iald C 1 rfl (i := 2) rfl (by decide) (by decide) dX6_digest_81 ?_
              refine j_eqi (y := nI n) hc ?_
              refine j_imul C dX6_digest_82 ?_
              refine j_eqi (y := nI (9 * n)) (pk_mul 9 n) ?_
              refine j_icmp_ge C dX6_digest_83 (tgt := 109) (by decide) (fun h => absurd h (nI_ge hi73 (by omega))) (fun _ => ?_)
              refine j_aload_n C 1 dX6_digest_86 rfl rfl ?_
              refine j_aload_n C 1 dX6_digest_87 rfl rfl ?_
              refine j_iload_n C 0 dX6_digest_88 rfl rfl ?_
              refine j_bipush C (v := (9 : Int32)) dX6_digest_89 rfl ?_
              refine j_idiv C dX6_digest_91 (by decide) ?_
              refine j_eqi (y := nI (i73 / 9)) (dv9 _ (by omega)) ?_
              refine j_iload_n C 0 dX6_digest_92 rfl rfl ?_
              refine j_bipush C (v := (9 : Int32)) dX6_digest_93 rfl ?_
              refine j_irem C dX6_digest_95 (by decide) ?_
              refine j_eqi (y := nI (i73 % 9)) (rm9 _ (by omega)) ?_
              refine j_cv_i C (As := [.int (nI (i73 / 9)), .int (nI (i73 % 9))]) (rest := [.ref (h 0)]) (ctX6_blockOf (xl X) D h m sp sv (nI s) tx tl (0 : Int32) sx_6 (nI (mR m n).2.1) ((mR m n).2.2.2.1) ((mR m n).2.2.2.2.1) ((mR m n).2.2.2.2.2) (mLo m n) rx_6 cr ap nu t73 ((mR m n).1) (i73 / 9) (i73 % 9) (by first | assumption | omega | decide) (by first | assumption | omega | decide)) mfX6_blockOf gX6_digest_X6_blockOf rfl (Nat.le_of_ble_eq_true rfl) (Nat.le_of_ble_eq_true rfl) (Nat.le_of_ble_eq_true rfl) (Nat.le_of_ble_eq_true rfl) [0, 1, 2, 3, 4, 5, 6] rfl rfl 0 rfl rfl rfl rfl (Nat.le_of_ble_eq_true rfl) dX6_digest_96 ?_
              rintro _ _ ⟨rfl, rfl⟩
              refine ⟨rfl, ?_⟩
              refine j_w (w' := (wMo D h m sp sv (nI s) tx tl (0 : Int32) sx_6 (nI (mR m n).2.1) (bI (mR m n).1) ((mR m n).2.2.2.1) ((mR m n).2.2.2.2.1) ((mR m n).2.2.2.2.2) (mLo m n) rx_6 cr ap nu t73)) rfl ?_
              refine j_eqi (y := mBl m n (i73 / 9) (i73 % 9)) (blS_se hsx_6) ?_
              refine j_i2l C dX6_digest_99 ?_
              refine j_cv_v C (As := [.long ((mBl m n (i73 / 9) (i73 % 9)).toInt64)]) (rest := []) (ctX6_mix (xl X) D h m sp sv (nI s) tx tl (0 : Int32) sx_6 (nI (mR m n).2.1) (bI (mR m n).1) ((mR m n).2.2.2.1) ((mR m n).2.2.2.2.1) ((mR m n).2.2.2.2.2) (mLo m n) rx_6 cr ap nu t73 ((mBl m n (i73 / 9) (i73 % 9)).toInt64)) mfX6_mix gX6_digest_X6_mix rfl (Nat.le_of_ble_eq_true rfl) (Nat.le_of_ble_eq_true rfl) (Nat.le_of_ble_eq_true rfl) (Nat.le_of_ble_eq_true rfl) [0, 1, 2, 3, 4, 5, 6] rfl rfl 0 rfl rfl rfl rfl (Nat.le_of_ble_eq_true rfl) dX6_digest_100 ?_
              rintro _ rfl
              refine ⟨rfl, ?_⟩
              refine j_w (w' := (wMo D h m sp sv (nI s) tx tl (0 : Int32) sx_6 (nI (mR m n).2.1) (bI (mR m n).1) ((mR m n).2.2.2.1) ((mR m n).2.2.2.2.1) ((mR m n).2.2.2.2.2) (mLo m n) rx_6 cr ap nu (31 * t73 + ((mBl m n (i73 / 9) (i73 % 9)).toInt64)))) rfl ?_
              refine j_iinc C 0 dX6_digest_103 rfl (v := nI (i73 + 1)) (nI_1 _) (by decide) (lv' := [(1, .int (nI (i73 + 1))), (0, .ref (h 0))]) rfl ?_
              refine j_goto C dX6_digest_106 (tgt := 73) (by decide) ?_
              refine j_sub [0, 1] (lv' := [(1, .int (nI (i73 + 1))), (0, .ref (h 0))]) rfl ?_
              exact ih73 (31 * t73 + ((mBl m n (i73 / 9) (i73 % 9)).toInt64)) (by rw [dgI]; try rw [← ht73]; try rfl)
          refine j_sub [0, 1] (lv' := [(1, .int (0 : Int32)), (0, .ref (h 0))]) rfl ?_
          exact hl73 0 (Nat.zero_le _) t51 ht51
        · intro i51 hi51 ih51 t51 ht51
          refine j_iload_n C 0 dX6_digest_51 rfl rfl ?_
          refine j_iconst C (v := (3 : Int32)) dX6_digest_52 rfl ?_
          refine j_icmp_ge C dX6_digest_53 (tgt := 71) (by decide) (fun h => absurd h (nI_ge hi51 (by decide))) (fun _ => ?_)
          refine j_aload_n C 1 dX6_digest_56 rfl rfl ?_
          refine j_aload_n C 1 dX6_digest_57 rfl rfl ?_
          refine j_iload_n C 0 dX6_digest_58 rfl rfl ?_
          refine j_cv_l C (As := [.int (nI i51)]) (rest := [.ref (h 0)]) (ctX6_balanceOf (xl X) D h m sp sv (nI s) tx tl (0 : Int32) sx_6 (nI (mR m n).2.1) ((mR m n).2.2.2.1) ((mR m n).2.2.2.2.1) ((mR m n).2.2.2.2.2) (mLo m n) rx_6 cr ap nu t51 ((mR m n).1) i51 (by first | assumption | omega | decide)) mfX6_balanceOf gX6_digest_X6_balanceOf rfl (Nat.le_of_ble_eq_true rfl) (Nat.le_of_ble_eq_true rfl) (Nat.le_of_ble_eq_true rfl) (Nat.le_of_ble_eq_true rfl) [0, 1, 2, 3, 4, 5, 6] rfl rfl 0 rfl rfl rfl rfl (Nat.le_of_ble_eq_true rfl) dX6_digest_59 ?_
          rintro _ _ ⟨rfl, rfl⟩
          refine ⟨rfl, ?_⟩
          refine j_w (w' := (wMo D h m sp sv (nI s) tx tl (0 : Int32) sx_6 (nI (mR m n).2.1) (bI (mR m n).1) ((mR m n).2.2.2.1) ((mR m n).2.2.2.2.1) ((mR m n).2.2.2.2.2) (mLo m n) rx_6 cr ap nu t51)) rfl ?_
          refine j_eql (y := mBa m n i51) rfl ?_
          refine j_cv_v C (As := [.long (mBa m n i51)]) (rest := []) (ctX6_mix (xl X) D h m sp sv (nI s) tx tl (0 : Int32) sx_6 (nI (mR m n).2.1) (bI (mR m n).1) ((mR m n).2.2.2.1) ((mR m n).2.2.2.2.1) ((mR m n).2.2.2.2.2) (mLo m n) rx_6 cr ap nu t51 (mBa m n i51)) mfX6_mix gX6_digest_X6_mix rfl (Nat.le_of_ble_eq_true rfl) (Nat.le_of_ble_eq_true rfl) (Nat.le_of_ble_eq_true rfl) (Nat.le_of_ble_eq_true rfl) [0, 1, 2, 3, 4, 5, 6] rfl rfl 0 rfl rfl rfl rfl (Nat.le_of_ble_eq_true rfl) dX6_digest_62 ?_
          rintro _ rfl
          refine ⟨rfl, ?_⟩
          refine j_w (w' := (wMo D h m sp sv (nI s) tx tl (0 : Int32) sx_6 (nI (mR m n).2.1) (bI (mR m n).1) ((mR m n).2.2.2.1) ((mR m n).2.2.2.2.1) ((mR m n).2.2.2.2.2) (mLo m n) rx_6 cr ap nu (31 * t51 + (mBa m n i51)))) rfl ?_
          refine j_iinc C 0 dX6_digest_65 rfl (v := nI (i51 + 1)) (nI_1 _) (by decide) (lv' := [(1, .int (nI (i51 + 1))), (0, .ref (h 0))]) rfl ?_
          refine j_goto C dX6_digest_68 (tgt := 51) (by decide) ?_
          refine j_sub [0, 1] (lv' := [(1, .int (nI (i51 + 1))), (0, .ref (h 0))]) rfl ?_
          exact ih51 (31 * t51 + (mBa m n i51)) (by rw [dgI]; try rw [← ht51]; try rfl)
      refine j_sub [0, 1] (lv' := [(1, .int (0 : Int32)), (0, .ref (h 0))]) rfl ?_
      exact hl51 0 (Nat.zero_le _) t27 ht27
    · intro i27 hi27 ih27 t27 ht27
      refine j_iload_n C 0 dX6_digest_27 rfl rfl ?_
      refine j_bipush C (v := (10 : Int32)) dX6_digest_28 rfl ?_
      refine j_icmp_ge C dX6_digest_30 (tgt := 49) (by decide) (fun h => absurd h (nI_ge hi27 (by decide))) (fun _ => ?_)
      refine j_aload_n C 1 dX6_digest_33 rfl rfl ?_
      refine j_aload_n C 1 dX6_digest_34 rfl rfl ?_
      refine j_iload_n C 0 dX6_digest_35 rfl rfl ?_
      refine j_cv_i C (As := [.int (nI i27)]) (rest := [.ref (h 0)]) (ctX6_valueOf (xl X) D h m sp sv (nI s) tx tl (0 : Int32) sx_6 (nI (mR m n).2.1) ((mR m n).2.2.2.1) ((mR m n).2.2.2.2.1) ((mR m n).2.2.2.2.2) (mLo m n) rx_6 cr ap nu t27 ((mR m n).1) n (by first | assumption | omega | decide) (by first | assumption | omega | decide) i27 (by first | assumption | omega | decide)) mfX6_valueOf gX6_digest_X6_valueOf rfl (Nat.le_of_ble_eq_true rfl) (Nat.le_of_ble_eq_true rfl) (Nat.le_of_ble_eq_true rfl) (Nat.le_of_ble_eq_true rfl) [0, 1, 2, 3, 4, 5, 6] rfl rfl 0 rfl rfl rfl rfl (Nat.le_of_ble_eq_true rfl) dX6_digest_36 ?_
      rintro _ _ ⟨rfl, rfl⟩
      refine ⟨rfl, ?_⟩
      refine j_w (w' := (wMo D h m sp sv (nI s) tx tl (0 : Int32) sx_6 (nI (mR m n).2.1) (bI (mR m n).1) ((mR m n).2.2.2.1) ((mR m n).2.2.2.2.1) ((mR m n).2.2.2.2.2) (mLo m n) rx_6 cr ap nu t27)) rfl ?_
      refine j_eqi (y := mVl m n i27) (vlS_se hsx_6) ?_
      refine j_i2l C dX6_digest_39 ?_
      refine j_cv_v C (As := [.long ((mVl m n i27).toInt64)]) (rest := []) (ctX6_mix (xl X) D h m sp sv (nI s) tx tl (0 : Int32) sx_6 (nI (mR m n).2.1) (bI (mR m n).1) ((mR m n).2.2.2.1) ((mR m n).2.2.2.2.1) ((mR m n).2.2.2.2.2) (mLo m n) rx_6 cr ap nu t27 ((mVl m n i27).toInt64)) mfX6_mix gX6_digest_X6_mix rfl (Nat.le_of_ble_eq_true rfl) (Nat.le_of_ble_eq_true rfl) (Nat.le_of_ble_eq_true rfl) (Nat.le_of_ble_eq_true rfl) [0, 1, 2, 3, 4, 5, 6] rfl rfl 0 rfl rfl rfl rfl (Nat.le_of_ble_eq_true rfl) dX6_digest_40 ?_
      rintro _ rfl
      refine ⟨rfl, ?_⟩
      refine j_w (w' := (wMo D h m sp sv (nI s) tx tl (0 : Int32) sx_6 (nI (mR m n).2.1) (bI (mR m n).1) ((mR m n).2.2.2.1) ((mR m n).2.2.2.2.1) ((mR m n).2.2.2.2.2) (mLo m n) rx_6 cr ap nu (31 * t27 + ((mVl m n i27).toInt64)))) rfl ?_
      refine j_iinc C 0 dX6_digest_43 rfl (v := nI (i27 + 1)) (nI_1 _) (by decide) (lv' := [(1, .int (nI (i27 + 1))), (0, .ref (h 0))]) rfl ?_
      refine j_goto C dX6_digest_46 (tgt := 27) (by decide) ?_
      refine j_sub [0, 1] (lv' := [(1, .int (nI (i27 + 1))), (0, .ref (h 0))]) rfl ?_
      exact ih27 (31 * t27 + ((mVl m n i27).toInt64)) (by rw [dgI]; try rw [← ht27]; try rfl)
  refine j_sub [0, 1] (lv' := [(1, .int (0 : Int32)), (0, .ref (h 0))]) rfl ?_
  exact hl27 0 (Nat.zero_le _) (31 * (3433 : Int64) + tl.toInt64) rfl
