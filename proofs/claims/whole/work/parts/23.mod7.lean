set_option maxRecDepth 100000 in
set_option maxHeartbeats 4000000 in
theorem ctX6_bestPlaceX (l : Launch) (D : KD) (h : Nat → Nat) (m sp sv : Nat → Int32) (tx : Nat → Int32) (tl cd se ro st : Int32) (qa qb qd : Int64) (lo : Nat → Int32) (re : Nat → Int64) (cr ap nu : Int32) (ha : Int64) (s : Nat) (hs : s ≤ 4) (s0 : Int32) (hy : pIn s0 (1 : Int32) (100 : Int32) = false) : MI l D yX6_bestPlace wsX6_bestPlace 1 22 0 0 [.ref (h 0), .int s0] (wMo D h m sp sv (nI s) tx tl cd se ro st qa qb qd lo re cr ap nu ha) (fun r w1 => r = 0 ∧ mW D h m sv (nI s) tx tl 1 w1) := by
  refine MI.of (cc := cX6_bestPlace) (nL := 6) (lv0 := [(0, .ref (h 0)), (1, .int s0)]) (by decide +kernel) rfl (Nat.le_of_ble_eq_true rfl) rfl ?_
  intro X hXl hin C ret
  subst hXl
  refine j_aload_n C 0 dX6_bestPlace_0 rfl rfl ?_
  refine j_iload_n C 1 dX6_bestPlace_1 rfl rfl ?_
  refine j_iconst C (v := (1 : Int32)) dX6_bestPlace_2 rfl ?_
  refine j_bipush C (v := (100 : Int32)) dX6_bestPlace_3 rfl ?_
  refine j_cs_i C (As := [.int s0, .int (1 : Int32), .int (100 : Int32)]) (rest := [.ref (h 0)]) (ctX6_in (xl X) D s0 (1 : Int32) (100 : Int32)) mfX6_in gX6_bestPlace_X6_in rfl (Nat.le_of_ble_eq_true rfl) (Nat.le_of_ble_eq_true rfl) (Nat.le_of_ble_eq_true rfl) (Nat.le_of_ble_eq_true rfl) [] rfl rfl rfl (Nat.le_of_ble_eq_true rfl) dX6_bestPlace_5 ?_
  rintro _ _ ⟨rfl, rfl⟩
  refine ⟨rfl, ?_⟩
  refine j_w (w' := (wMo D h m sp sv (nI s) tx tl cd se ro st qa qb qd lo re cr ap nu ha)) rfl ?_
  refine j_bif_eq C dX6_bestPlace_8 (tgt := 15) (by decide) (fun _ => ?_) (fun h => (by rw [hy] at h; cases h))
  refine j_iconst C (v := (1 : Int32)) dX6_bestPlace_15 rfl ?_
  refine j_put C 0 foX6_bestPlace_29 rfl (w' := (wMo D h m sp sv (nI s) tx tl (1 : Int32) se ro st qa qb qd lo re cr ap nu ha)) rfl rfl rfl (Nat.le_of_ble_eq_true rfl) dX6_bestPlace_16 ?_
  refine j_aload_n C 0 dX6_bestPlace_19 rfl rfl ?_
  refine j_get C 0 fgX6_bestPlace_29 rfl rfl dX6_bestPlace_20 ?_
  refine j_if_eq C dX6_bestPlace_23 (tgt := 28) (by decide) (fun h => absurd h (by decide)) (fun _ => ?_)
  refine j_iconst C (v := (0 : Int32)) dX6_bestPlace_26 rfl ?_
  exact ret dX6_bestPlace_27 (⟨rfl, ⟨_, _, _, _, _, _, _, _, _, _, _, _, _, rfl⟩⟩)

set_option maxRecDepth 100000 in
set_option maxHeartbeats 4000000 in
theorem ctX6_bestPlaceF (l : Launch) (D : KD) (h : Nat → Nat) (m sp sv : Nat → Int32) (tx : Nat → Int32) (tl cd se ro st : Int32) (qa qb qd : Int64) (lo : Nat → Int32) (re : Nat → Int64) (cr ap nu : Int32) (ha : Int64) (s : Nat) (hs : s ≤ 4) (h16 : m 2 = 16) (s0 : Int32) (hy : pIn s0 (1 : Int32) (100 : Int32) = true) : MI l D yX6_bestPlace wsX6_bestPlace 1 22 0 0 [.ref (h 0), .int s0] (wMo D h m sp sv (nI s) tx tl cd se ro st qa qb qd lo re cr ap nu ha) (fun r w1 => r = -1 ∧ mW D h m sv (nI s) tx tl 0 w1) := by
  refine MI.of (cc := cX6_bestPlace) (nL := 6) (lv0 := [(0, .ref (h 0)), (1, .int s0)]) (by decide +kernel) rfl (Nat.le_of_ble_eq_true rfl) rfl ?_
  intro X hXl hin C ret
  subst hXl
  refine j_aload_n C 0 dX6_bestPlace_0 rfl rfl ?_
  refine j_iload_n C 1 dX6_bestPlace_1 rfl rfl ?_
  refine j_iconst C (v := (1 : Int32)) dX6_bestPlace_2 rfl ?_
  refine j_bipush C (v := (100 : Int32)) dX6_bestPlace_3 rfl ?_
  refine j_cs_i C (As := [.int s0, .int (1 : Int32), .int (100 : Int32)]) (rest := [.ref (h 0)]) (ctX6_in (xl X) D s0 (1 : Int32) (100 : Int32)) mfX6_in gX6_bestPlace_X6_in rfl (Nat.le_of_ble_eq_true rfl) (Nat.le_of_ble_eq_true rfl) (Nat.le_of_ble_eq_true rfl) (Nat.le_of_ble_eq_true rfl) [] rfl rfl rfl (Nat.le_of_ble_eq_true rfl) dX6_bestPlace_5 ?_
  rintro _ _ ⟨rfl, rfl⟩
  refine ⟨rfl, ?_⟩
  refine j_w (w' := (wMo D h m sp sv (nI s) tx tl cd se ro st qa qb qd lo re cr ap nu ha)) rfl ?_
  refine j_bif_eq C dX6_bestPlace_8 (tgt := 15) (by decide) (fun h => (by rw [hy] at h; cases h)) (fun _ => ?_)
  refine j_iconst C (v := (0 : Int32)) dX6_bestPlace_11 rfl ?_
  refine j_goto C dX6_bestPlace_12 (tgt := 16) (by decide) ?_
  refine j_put C 0 foX6_bestPlace_29 rfl (w' := (wMo D h m sp sv (nI s) tx tl (0 : Int32) se ro st qa qb qd lo re cr ap nu ha)) rfl rfl rfl (Nat.le_of_ble_eq_true rfl) dX6_bestPlace_16 ?_
  refine j_aload_n C 0 dX6_bestPlace_19 rfl rfl ?_
  refine j_get C 0 fgX6_bestPlace_29 rfl rfl dX6_bestPlace_20 ?_
  refine j_if_eq C dX6_bestPlace_23 (tgt := 28) (by decide) (fun _ => ?_) (fun h => absurd (by decide) h)
  refine j_iconst C (v := (-1 : Int32)) dX6_bestPlace_28 rfl ?_
  refine j_istore_n C dX6_bestPlace_29 rfl (by decide) (lv' := [(2, .int (-1 : Int32)), (0, .ref (h 0)), (1, .int s0)]) rfl ?_
  refine j_iconst C (v := (0 : Int32)) dX6_bestPlace_30 rfl ?_
  refine j_istore_n C dX6_bestPlace_31 rfl (by decide) (lv' := [(3, .int (0 : Int32)), (2, .int (-1 : Int32)), (0, .ref (h 0)), (1, .int s0)]) rfl ?_
  refine j_iconst C (v := (0 : Int32)) dX6_bestPlace_32 rfl ?_
  refine j_istore C dX6_bestPlace_33 (by decide) (lv' := [(4, .int (0 : Int32)), (3, .int (0 : Int32)), (2, .int (-1 : Int32)), (0, .ref (h 0)), (1, .int s0)]) rfl ?_
  refine j_iload C 0 dX6_bestPlace_35 rfl ?_
  refine j_sipush C (v := (400 : Int32)) dX6_bestPlace_37 rfl ?_
  refine j_icmp_gt C dX6_bestPlace_40 (tgt := 137) (by decide) (fun h => absurd h (by decide)) (fun _ => ?_)
  refine j_aload_n C 3 dX6_bestPlace_43 rfl rfl ?_
  refine j_get C 0 fgX6_bestPlace_7 rfl rfl dX6_bestPlace_44 ?_
  refine j_iconst C (v := (2 : Int32)) dX6_bestPlace_47 rfl ?_
  refine j_iald C 1 rfl (i := 2) rfl (by decide) (by decide) dX6_bestPlace_48 ?_
  refine j_eqi (y := (16 : Int32)) h16 ?_
  refine j_bipush C (v := (16 : Int32)) dX6_bestPlace_49 rfl ?_
  refine j_icmp_ge C dX6_bestPlace_51 (tgt := 137) (by decide) (fun _ => ?_) (fun h => absurd (by decide) h)
  refine j_iload_n C 2 dX6_bestPlace_137 rfl rfl ?_
  exact ret dX6_bestPlace_138 (⟨rfl, ⟨_, _, _, _, _, _, _, _, _, _, _, _, _, rfl⟩⟩)

set_option maxRecDepth 100000 in
set_option maxHeartbeats 4000000 in
theorem ctX6_bestPlace (l : Launch) (D : KD) (h : Nat → Nat) (m sp sv : Nat → Int32) (tx : Nat → Int32) (tl cd se ro st : Int32) (qa qb qd : Int64) (lo : Nat → Int32) (re : Nat → Int64) (cr ap nu : Int32) (ha : Int64) (s : Nat) (hs : s ≤ 4) (n : Nat) (hn : n < 16) (hc : m 2 = nI n) (hV : mVal m n) (s0 : Int32) (hy : pIn s0 (1 : Int32) (100 : Int32) = true) : MI l D yX6_bestPlace wsX6_bestPlace 4 91 0 0 [.ref (h 0), .int s0] (wMo D h m sp sv (nI s) tx tl cd se ro st qa qb qd lo re cr ap nu ha) (fun r w1 => ∃ m1, mAg n m m1 ∧ r = (bpI m n s0 41).1 ∧ mW D h m1 sv (nI s) tx tl 0 w1) := by
  refine MI.of (cc := cX6_bestPlace) (nL := 6) (lv0 := [(0, .ref (h 0)), (1, .int s0)]) (by decide +kernel) rfl (Nat.le_of_ble_eq_true rfl) rfl ?_
  intro X hXl hin C ret
  subst hXl
  refine j_aload_n C 0 dX6_bestPlace_0 rfl rfl ?_
  refine j_iload_n C 1 dX6_bestPlace_1 rfl rfl ?_
  refine j_iconst C (v := (1 : Int32)) dX6_bestPlace_2 rfl ?_
  refine j_bipush C (v := (100 : Int32)) dX6_bestPlace_3 rfl ?_
  refine j_cs_i C (As := [.int s0, .int (1 : Int32), .int (100 : Int32)]) (rest := [.ref (h 0)]) (ctX6_in (xl X) D s0 (1 : Int32) (100 : Int32)) mfX6_in gX6_bestPlace_X6_in rfl (Nat.le_of_ble_eq_true rfl) (Nat.le_of_ble_eq_true rfl) (Nat.le_of_ble_eq_true rfl) (Nat.le_of_ble_eq_true rfl) [] rfl rfl rfl (Nat.le_of_ble_eq_true rfl) dX6_bestPlace_5 ?_
  rintro _ _ ⟨rfl, rfl⟩
  refine ⟨rfl, ?_⟩
  refine j_w (w' := (wMo D h m sp sv (nI s) tx tl cd se ro st qa qb qd lo re cr ap nu ha)) rfl ?_
  refine j_bif_eq C dX6_bestPlace_8 (tgt := 15) (by decide) (fun h => (by rw [hy] at h; cases h)) (fun _ => ?_)
  refine j_iconst C (v := (0 : Int32)) dX6_bestPlace_11 rfl ?_
  refine j_goto C dX6_bestPlace_12 (tgt := 16) (by decide) ?_
  refine j_put C 0 foX6_bestPlace_29 rfl (w' := (wMo D h m sp sv (nI s) tx tl (0 : Int32) se ro st qa qb qd lo re cr ap nu ha)) rfl rfl rfl (Nat.le_of_ble_eq_true rfl) dX6_bestPlace_16 ?_
  refine j_aload_n C 0 dX6_bestPlace_19 rfl rfl ?_
  refine j_get C 0 fgX6_bestPlace_29 rfl rfl dX6_bestPlace_20 ?_
  refine j_if_eq C dX6_bestPlace_23 (tgt := 28) (by decide) (fun _ => ?_) (fun h => absurd (by decide) h)
  refine j_iconst C (v := (-1 : Int32)) dX6_bestPlace_28 rfl ?_
  refine j_istore_n C dX6_bestPlace_29 rfl (by decide) (lv' := [(2, .int (-1 : Int32)), (0, .ref (h 0)), (1, .int s0)]) rfl ?_
  refine j_iconst C (v := (0 : Int32)) dX6_bestPlace_30 rfl ?_
  refine j_istore_n C dX6_bestPlace_31 rfl (by decide) (lv' := [(3, .int (0 : Int32)), (2, .int (-1 : Int32)), (0, .ref (h 0)), (1, .int s0)]) rfl ?_
  refine j_iconst C (v := (0 : Int32)) dX6_bestPlace_32 rfl ?_
  refine j_istore C dX6_bestPlace_33 (by decide) (lv' := [(4, .int (0 : Int32)), (3, .int (0 : Int32)), (2, .int (-1 : Int32)), (0, .ref (h 0)), (1, .int s0)]) rfl ?_
  have hl35 : ∀ i35, i35 ≤ 41 → ∀ (t35 : Int32 × Int32), t35 = bpI m n s0 i35 → ∀ (m1 : Nat → Int32) (hm1 : mAg n m m1) (se0 ro0 st0 : Int32) (qa0 qb0 qd0 : Int64) (lo0 : Nat → Int32) (re0 : Nat → Int64), J D X (wMo D h m1 sp sv (nI s) tx tl (0 : Int32) se0 ro0 st0 qa0 qb0 qd0 lo0 re0 cr ap nu ha) 0 0 35 [(4, .int (nI (10 * i35))), (2, .int t35.1), (3, .int t35.2), (1, .int s0), (0, .ref (h 0))] [] := by
    refine for_up (41) ?_ ?_
    · intro t35 ht35 m1 hm1 se0 ro0 st0 qa0 qb0 qd0 lo0 re0
      refine j_iload C 0 dX6_bestPlace_35 rfl ?_
      refine j_sipush C (v := (400 : Int32)) dX6_bestPlace_37 rfl ?_
      refine j_icmp_gt C dX6_bestPlace_40 (tgt := 137) (by decide) (fun _ => ?_) (fun h => absurd (by decide) h)
      refine j_iload_n C 1 dX6_bestPlace_137 rfl rfl ?_
      exact ret dX6_bestPlace_138 (⟨m1, hm1, by rw [← ht35], ⟨_, _, _, _, _, _, _, _, _, _, _, _, _, rfl⟩⟩)
    · intro i35 hi35 ih35 t35 ht35 m1 hm1 se0 ro0 st0 qa0 qb0 qd0 lo0 re0
      refine j_iload C 0 dX6_bestPlace_35 rfl ?_
      refine j_sipush C (v := (400 : Int32)) dX6_bestPlace_37 rfl ?_
      refine j_icmp_gt C dX6_bestPlace_40 (tgt := 137) (by decide) (fun h => absurd h (Int32.not_lt.mpr (rg10 i35 hi35).2)) (fun _ => ?_)
      refine j_aload_n C 4 dX6_bestPlace_43 rfl rfl ?_
      refine j_get C 0 fgX6_bestPlace_7 rfl rfl dX6_bestPlace_44 ?_
      refine j_iconst C (v := (2 : Int32)) dX6_bestPlace_47 rfl ?_
      refine j_iald C 1 rfl (i := 2) rfl (by decide) (by decide) dX6_bestPlace_48 ?_
      refine j_bipush C (v := (16 : Int32)) dX6_bestPlace_49 rfl ?_
      refine j_icmp_ge C dX6_bestPlace_51 (tgt := 137) (by decide) (fun h => absurd h (fun z => by have h2 := hc; rw [show _ = m 2 from hm1 2 (by omega), hc] at z; have := (nI_leI (a := 16) (by decide) (by omega)).mp z; omega)) (fun _ => ?_)
      refine j_aload_n C 4 dX6_bestPlace_54 rfl rfl ?_
      refine j_iload C 0 dX6_bestPlace_55 rfl ?_
      refine j_iload_n C 3 dX6_bestPlace_57 rfl rfl ?_
      refine j_iconst C (v := (0 : Int32)) dX6_bestPlace_58 rfl ?_
      refine j_ldc C kX6_bestPlace_106 dX6_bestPlace_59 ?_
      refine j_cv_v C (As := [.int (nI (10 * i35)), .int s0, .int (0 : Int32), .int (99999 : Int32)]) (rest := []) (ctX6_build (xl X) D h m1 sp sv (nI s) tx tl (0 : Int32) se0 ro0 st0 qa0 qb0 qd0 lo0 re0 cr ap nu ha n (by first | assumption | omega | decide) ((hm1 2 (by omega)).trans hc) (nI (10 * i35)) s0 (0 : Int32) (99999 : Int32)) mfX6_build gX6_bestPlace_X6_build rfl (Nat.le_of_ble_eq_true rfl) (Nat.le_of_ble_eq_true rfl) (Nat.le_of_ble_eq_true rfl) (Nat.le_of_ble_eq_true rfl) [0, 1, 2, 3, 4, 5, 6] rfl rfl 0 rfl rfl rfl rfl (Nat.le_of_ble_eq_true rfl) dX6_bestPlace_61 ?_
      rintro _ rfl
      refine ⟨rfl, ?_⟩
      refine j_w (w' := (wMo D h (mBu m1 n (nI (10 * i35)) s0 (0 : Int32) (99999 : Int32)) sp sv (nI s) tx tl (0 : Int32) se0 ro0 st0 qa0 qb0 qd0 lo0 re0 cr ap nu ha)) rfl ?_
      refine j_aload_n C 4 dX6_bestPlace_64 rfl rfl ?_
      refine j_cv_v C (As := []) (rest := []) (ctX6_settle (xl X) D h (mBu m1 n (nI (10 * i35)) s0 (0 : Int32) (99999 : Int32)) sp sv (nI s) tx tl (0 : Int32) se0 ro0 st0 qa0 qb0 qd0 lo0 re0 cr ap nu ha (n + 1) (by omega) ((mBu_2 _ _ _ _ _ _).trans (by rw [show m1 2 = nI n from (hm1 2 (by omega)).trans hc, nI_1])) (mBu_val (mAg_val hm1 hV) (rg10 i35 hi35) (pIn_i hy) (by decide) (by decide))) mfX6_settle gX6_bestPlace_X6_settle rfl (Nat.le_of_ble_eq_true rfl) (Nat.le_of_ble_eq_true rfl) (Nat.le_of_ble_eq_true rfl) (Nat.le_of_ble_eq_true rfl) [0, 1, 2, 3, 4, 5, 6] rfl rfl 0 rfl rfl rfl rfl (Nat.le_of_ble_eq_true rfl) dX6_bestPlace_65 ?_
      rintro _ ⟨sx_65, rx_65, hsx_65, rfl⟩
      refine ⟨rfl, ?_⟩
      refine j_w (w' := (wMo D h (mBu m1 n (nI (10 * i35)) s0 (0 : Int32) (99999 : Int32)) sp sv (nI s) tx tl (0 : Int32) sx_65 (nI (mR (mBu m1 n (nI (10 * i35)) s0 (0 : Int32) (99999 : Int32)) (n + 1)).2.1) (bI (mR (mBu m1 n (nI (10 * i35)) s0 (0 : Int32) (99999 : Int32)) (n + 1)).1) ((mR (mBu m1 n (nI (10 * i35)) s0 (0 : Int32) (99999 : Int32)) (n + 1)).2.2.2.1) ((mR (mBu m1 n (nI (10 * i35)) s0 (0 : Int32) (99999 : Int32)) (n + 1)).2.2.2.2.1) ((mR (mBu m1 n (nI (10 * i35)) s0 (0 : Int32) (99999 : Int32)) (n + 1)).2.2.2.2.2) (mLo (mBu m1 n (nI (10 * i35)) s0 (0 : Int32) (99999 : Int32)) (n + 1)) rx_65 cr ap nu ha)) rfl ?_
      refine j_aload_n C 4 dX6_bestPlace_68 rfl rfl ?_
      refine j_get C 0 fgX6_bestPlace_78 rfl rfl dX6_bestPlace_69 ?_
      refine j_bif_eq C dX6_bestPlace_72 (tgt := 92) (by decide) (fun h72 => ?_) (fun h72 => ?_)
      · refine j_iconst C (v := (0 : Int32)) dX6_bestPlace_92 rfl ?_
        refine j_istore C dX6_bestPlace_93 (by decide) (lv' := [(5, .int (0 : Int32)), (4, .int (nI (10 * i35))), (2, .int t35.1), (3, .int t35.2), (1, .int s0), (0, .ref (h 0))]) rfl ?_
        refine j_iload C 0 dX6_bestPlace_95 rfl ?_
        refine j_if_eq C dX6_bestPlace_97 (tgt := 105) (by decide) (fun _ => ?_) (fun h => absurd (by decide) h)
        refine j_iload_n C 2 dX6_bestPlace_105 rfl rfl ?_
        refine j_istore_n C dX6_bestPlace_106 rfl (by decide) (lv' := [(2, .int t35.1), (5, .int (0 : Int32)), (4, .int (nI (10 * i35))), (3, .int t35.2), (1, .int s0), (0, .ref (h 0))]) rfl ?_
        refine j_iload C 1 dX6_bestPlace_107 rfl ?_
        refine j_if_eq C dX6_bestPlace_109 (tgt := 119) (by decide) (fun _ => ?_) (fun h => absurd (by decide) h)
        refine j_iload_n C 3 dX6_bestPlace_119 rfl rfl ?_
        refine j_istore_n C dX6_bestPlace_120 rfl (by decide) (lv' := [(3, .int t35.2), (2, .int t35.1), (5, .int (0 : Int32)), (4, .int (nI (10 * i35))), (1, .int s0), (0, .ref (h 0))]) rfl ?_
        refine j_aload_n C 5 dX6_bestPlace_121 rfl rfl ?_
        refine j_get C 0 fgX6_bestPlace_7 rfl rfl dX6_bestPlace_122 ?_
        refine j_iconst C (v := (2 : Int32)) dX6_bestPlace_125 rfl ?_
        refine j_dup2 C dX6_bestPlace_126 rfl rfl ?_
        refine j_iald C 1 rfl (i := 2) rfl (by decide) (by decide) dX6_bestPlace_127 ?_
        refine j_iconst C (v := (1 : Int32)) dX6_bestPlace_128 rfl ?_
        refine j_isub C dX6_bestPlace_129 ?_
        refine j_iast C 1 rfl (i := 2) rfl (by decide) (by decide) (w' := (wMo D h (upd (mBu m1 n (nI (10 * i35)) s0 (0 : Int32) (99999 : Int32)) 2 (((mBu m1 n (nI (10 * i35)) s0 (0 : Int32) (99999 : Int32)) 2) - (1 : Int32))) sp sv (nI s) tx tl (0 : Int32) sx_65 (nI (mR (mBu m1 n (nI (10 * i35)) s0 (0 : Int32) (99999 : Int32)) (n + 1)).2.1) (bI (mR (mBu m1 n (nI (10 * i35)) s0 (0 : Int32) (99999 : Int32)) (n + 1)).1) ((mR (mBu m1 n (nI (10 * i35)) s0 (0 : Int32) (99999 : Int32)) (n + 1)).2.2.2.1) ((mR (mBu m1 n (nI (10 * i35)) s0 (0 : Int32) (99999 : Int32)) (n + 1)).2.2.2.2.1) ((mR (mBu m1 n (nI (10 * i35)) s0 (0 : Int32) (99999 : Int32)) (n + 1)).2.2.2.2.2) (mLo (mBu m1 n (nI (10 * i35)) s0 (0 : Int32) (99999 : Int32)) (n + 1)) rx_65 cr ap nu ha)) rfl dX6_bestPlace_130 ?_
        rw [show mBu m1 n (nI (10 * i35)) s0 0 99999 2 - 1 = nI n from mBu_r ((hm1 2 (by omega)).trans hc)]
        refine j_iinc C 3 dX6_bestPlace_131 rfl (v := nI (10 * i35 + 10)) (nI_add _ 10) (by decide) (lv' := [(4, .int (nI (10 * i35 + 10))), (3, .int t35.2), (2, .int t35.1), (5, .int (0 : Int32)), (1, .int s0), (0, .ref (h 0))]) rfl ?_
        refine j_goto C dX6_bestPlace_134 (tgt := 35) (by decide) ?_
        refine j_sub [0, 2, 1, 4, 5] (lv' := [(4, .int (nI (10 * i35 + 10))), (2, .int t35.1), (3, .int t35.2), (1, .int s0), (0, .ref (h 0))]) rfl ?_
        exact ih35 (t35.1, t35.2) (by have hag := mBu_ag hm1 (nI (10 * i35)) s0 0 99999; rw [bpI, ← ht35, ← mAg_mR hag, ← mAg_mGr (by omega) hag]; exact (bst_f h72).symm) _ (mBu_back hm1 hc _ _ _ _) _ _ _ _ _ _ _ _
      · refine j_iload_n C 1 dX6_bestPlace_75 rfl rfl ?_
        refine j_iconst C (v := (-1 : Int32)) dX6_bestPlace_76 rfl ?_
        refine j_icmp_eq C dX6_bestPlace_77 (tgt := 88) (by decide) (fun h77 => ?_) (fun h77 => ?_)
        · refine j_iconst C (v := (1 : Int32)) dX6_bestPlace_88 rfl ?_
          refine j_goto C dX6_bestPlace_89 (tgt := 93) (by decide) ?_
          refine j_istore C dX6_bestPlace_93 (by decide) (lv' := [(5, .int (1 : Int32)), (4, .int (nI (10 * i35))), (2, .int t35.1), (3, .int t35.2), (1, .int s0), (0, .ref (h 0))]) rfl ?_
          refine j_iload C 0 dX6_bestPlace_95 rfl ?_
          refine j_if_eq C dX6_bestPlace_97 (tgt := 105) (by decide) (fun h => absurd h (by decide)) (fun _ => ?_)
          refine j_iload C 1 dX6_bestPlace_100 rfl ?_
          refine j_goto C dX6_bestPlace_102 (tgt := 106) (by decide) ?_
          refine j_istore_n C dX6_bestPlace_106 rfl (by decide) (lv' := [(2, .int (nI (10 * i35))), (5, .int (1 : Int32)), (4, .int (nI (10 * i35))), (3, .int t35.2), (1, .int s0), (0, .ref (h 0))]) rfl ?_
          refine j_iload C 1 dX6_bestPlace_107 rfl ?_
          refine j_if_eq C dX6_bestPlace_109 (tgt := 119) (by decide) (fun h => absurd h (by decide)) (fun _ => ?_)
          refine j_aload_n C 5 dX6_bestPlace_112 rfl rfl ?_
          refine j_cv_i C (As := []) (rest := []) (ctX6_greatestB (xl X) D h (mBu m1 n (nI (10 * i35)) s0 (0 : Int32) (99999 : Int32)) sp sv (nI s) tx tl (0 : Int32) sx_65 (nI (mR (mBu m1 n (nI (10 * i35)) s0 (0 : Int32) (99999 : Int32)) (n + 1)).2.1) ((mR (mBu m1 n (nI (10 * i35)) s0 (0 : Int32) (99999 : Int32)) (n + 1)).2.2.2.1) ((mR (mBu m1 n (nI (10 * i35)) s0 (0 : Int32) (99999 : Int32)) (n + 1)).2.2.2.2.1) ((mR (mBu m1 n (nI (10 * i35)) s0 (0 : Int32) (99999 : Int32)) (n + 1)).2.2.2.2.2) (mLo (mBu m1 n (nI (10 * i35)) s0 (0 : Int32) (99999 : Int32)) (n + 1)) rx_65 cr ap nu ha ((mR (mBu m1 n (nI (10 * i35)) s0 (0 : Int32) (99999 : Int32)) (n + 1)).1) (n + 1) (by omega) ((mBu_2 _ _ _ _ _ _).trans (by rw [show m1 2 = nI n from (hm1 2 (by omega)).trans hc, nI_1]))) mfX6_greatest gX6_bestPlace_X6_greatest rfl (Nat.le_of_ble_eq_true rfl) (Nat.le_of_ble_eq_true rfl) (Nat.le_of_ble_eq_true rfl) (Nat.le_of_ble_eq_true rfl) [0, 1, 2, 3, 4, 5, 6] rfl rfl 0 rfl rfl rfl rfl (Nat.le_of_ble_eq_true rfl) dX6_bestPlace_113 ?_
          rintro _ _ ⟨rfl, rfl⟩
          refine ⟨rfl, ?_⟩
          refine j_w (w' := (wMo D h (mBu m1 n (nI (10 * i35)) s0 (0 : Int32) (99999 : Int32)) sp sv (nI s) tx tl (0 : Int32) sx_65 (nI (mR (mBu m1 n (nI (10 * i35)) s0 (0 : Int32) (99999 : Int32)) (n + 1)).2.1) (bI (mR (mBu m1 n (nI (10 * i35)) s0 (0 : Int32) (99999 : Int32)) (n + 1)).1) ((mR (mBu m1 n (nI (10 * i35)) s0 (0 : Int32) (99999 : Int32)) (n + 1)).2.2.2.1) ((mR (mBu m1 n (nI (10 * i35)) s0 (0 : Int32) (99999 : Int32)) (n + 1)).2.2.2.2.1) ((mR (mBu m1 n (nI (10 * i35)) s0 (0 : Int32) (99999 : Int32)) (n + 1)).2.2.2.2.2) (mLo (mBu m1 n (nI (10 * i35)) s0 (0 : Int32) (99999 : Int32)) (n + 1)) rx_65 cr ap nu ha)) rfl ?_
          refine j_goto C dX6_bestPlace_116 (tgt := 120) (by decide) ?_
          refine j_istore_n C dX6_bestPlace_120 rfl (by decide) (lv' := [(3, .int (gre ((mR (mBu m1 n (nI (10 * i35)) s0 (0 : Int32) (99999 : Int32)) (n + 1)).1) (mLo (mBu m1 n (nI (10 * i35)) s0 (0 : Int32) (99999 : Int32)) (n + 1)) (n + 1))), (2, .int (nI (10 * i35))), (5, .int (1 : Int32)), (4, .int (nI (10 * i35))), (1, .int s0), (0, .ref (h 0))]) rfl ?_
          refine j_aload_n C 5 dX6_bestPlace_121 rfl rfl ?_
          refine j_get C 0 fgX6_bestPlace_7 rfl rfl dX6_bestPlace_122 ?_
          refine j_iconst C (v := (2 : Int32)) dX6_bestPlace_125 rfl ?_
          refine j_dup2 C dX6_bestPlace_126 rfl rfl ?_
          refine j_iald C 1 rfl (i := 2) rfl (by decide) (by decide) dX6_bestPlace_127 ?_
          refine j_iconst C (v := (1 : Int32)) dX6_bestPlace_128 rfl ?_
          refine j_isub C dX6_bestPlace_129 ?_
          refine j_iast C 1 rfl (i := 2) rfl (by decide) (by decide) (w' := (wMo D h (upd (mBu m1 n (nI (10 * i35)) s0 (0 : Int32) (99999 : Int32)) 2 (((mBu m1 n (nI (10 * i35)) s0 (0 : Int32) (99999 : Int32)) 2) - (1 : Int32))) sp sv (nI s) tx tl (0 : Int32) sx_65 (nI (mR (mBu m1 n (nI (10 * i35)) s0 (0 : Int32) (99999 : Int32)) (n + 1)).2.1) (bI (mR (mBu m1 n (nI (10 * i35)) s0 (0 : Int32) (99999 : Int32)) (n + 1)).1) ((mR (mBu m1 n (nI (10 * i35)) s0 (0 : Int32) (99999 : Int32)) (n + 1)).2.2.2.1) ((mR (mBu m1 n (nI (10 * i35)) s0 (0 : Int32) (99999 : Int32)) (n + 1)).2.2.2.2.1) ((mR (mBu m1 n (nI (10 * i35)) s0 (0 : Int32) (99999 : Int32)) (n + 1)).2.2.2.2.2) (mLo (mBu m1 n (nI (10 * i35)) s0 (0 : Int32) (99999 : Int32)) (n + 1)) rx_65 cr ap nu ha)) rfl dX6_bestPlace_130 ?_
          rw [show mBu m1 n (nI (10 * i35)) s0 0 99999 2 - 1 = nI n from mBu_r ((hm1 2 (by omega)).trans hc)]
          refine j_iinc C 3 dX6_bestPlace_131 rfl (v := nI (10 * i35 + 10)) (nI_add _ 10) (by decide) (lv' := [(4, .int (nI (10 * i35 + 10))), (3, .int (gre ((mR (mBu m1 n (nI (10 * i35)) s0 (0 : Int32) (99999 : Int32)) (n + 1)).1) (mLo (mBu m1 n (nI (10 * i35)) s0 (0 : Int32) (99999 : Int32)) (n + 1)) (n + 1))), (2, .int (nI (10 * i35))), (5, .int (1 : Int32)), (1, .int s0), (0, .ref (h 0))]) rfl ?_
          refine j_goto C dX6_bestPlace_134 (tgt := 35) (by decide) ?_
          refine j_sub [0, 2, 1, 4, 5] (lv' := [(4, .int (nI (10 * i35 + 10))), (2, .int (nI (10 * i35))), (3, .int (gre ((mR (mBu m1 n (nI (10 * i35)) s0 (0 : Int32) (99999 : Int32)) (n + 1)).1) (mLo (mBu m1 n (nI (10 * i35)) s0 (0 : Int32) (99999 : Int32)) (n + 1)) (n + 1))), (1, .int s0), (0, .ref (h 0))]) rfl ?_
          exact ih35 (nI (10 * i35), gre ((mR (mBu m1 n (nI (10 * i35)) s0 (0 : Int32) (99999 : Int32)) (n + 1)).1) (mLo (mBu m1 n (nI (10 * i35)) s0 (0 : Int32) (99999 : Int32)) (n + 1)) (n + 1)) (by have hag := mBu_ag hm1 (nI (10 * i35)) s0 0 99999; rw [bpI, ← ht35, ← mAg_mR hag, ← mAg_mGr (by omega) hag]; exact (bst_t h72 (Or.inl h77)).symm) _ (mBu_back hm1 hc _ _ _ _) _ _ _ _ _ _ _ _
        · refine j_aload_n C 4 dX6_bestPlace_80 rfl rfl ?_
          refine j_cv_i C (As := []) (rest := []) (ctX6_greatestB (xl X) D h (mBu m1 n (nI (10 * i35)) s0 (0 : Int32) (99999 : Int32)) sp sv (nI s) tx tl (0 : Int32) sx_65 (nI (mR (mBu m1 n (nI (10 * i35)) s0 (0 : Int32) (99999 : Int32)) (n + 1)).2.1) ((mR (mBu m1 n (nI (10 * i35)) s0 (0 : Int32) (99999 : Int32)) (n + 1)).2.2.2.1) ((mR (mBu m1 n (nI (10 * i35)) s0 (0 : Int32) (99999 : Int32)) (n + 1)).2.2.2.2.1) ((mR (mBu m1 n (nI (10 * i35)) s0 (0 : Int32) (99999 : Int32)) (n + 1)).2.2.2.2.2) (mLo (mBu m1 n (nI (10 * i35)) s0 (0 : Int32) (99999 : Int32)) (n + 1)) rx_65 cr ap nu ha ((mR (mBu m1 n (nI (10 * i35)) s0 (0 : Int32) (99999 : Int32)) (n + 1)).1) (n + 1) (by omega) ((mBu_2 _ _ _ _ _ _).trans (by rw [show m1 2 = nI n from (hm1 2 (by omega)).trans hc, nI_1]))) mfX6_greatest gX6_bestPlace_X6_greatest rfl (Nat.le_of_ble_eq_true rfl) (Nat.le_of_ble_eq_true rfl) (Nat.le_of_ble_eq_true rfl) (Nat.le_of_ble_eq_true rfl) [0, 1, 2, 3, 4, 5, 6] rfl rfl 0 rfl rfl rfl rfl (Nat.le_of_ble_eq_true rfl) dX6_bestPlace_81 ?_
          rintro _ _ ⟨rfl, rfl⟩
          refine ⟨rfl, ?_⟩
          refine j_w (w' := (wMo D h (mBu m1 n (nI (10 * i35)) s0 (0 : Int32) (99999 : Int32)) sp sv (nI s) tx tl (0 : Int32) sx_65 (nI (mR (mBu m1 n (nI (10 * i35)) s0 (0 : Int32) (99999 : Int32)) (n + 1)).2.1) (bI (mR (mBu m1 n (nI (10 * i35)) s0 (0 : Int32) (99999 : Int32)) (n + 1)).1) ((mR (mBu m1 n (nI (10 * i35)) s0 (0 : Int32) (99999 : Int32)) (n + 1)).2.2.2.1) ((mR (mBu m1 n (nI (10 * i35)) s0 (0 : Int32) (99999 : Int32)) (n + 1)).2.2.2.2.1) ((mR (mBu m1 n (nI (10 * i35)) s0 (0 : Int32) (99999 : Int32)) (n + 1)).2.2.2.2.2) (mLo (mBu m1 n (nI (10 * i35)) s0 (0 : Int32) (99999 : Int32)) (n + 1)) rx_65 cr ap nu ha)) rfl ?_
          refine j_iload_n C 2 dX6_bestPlace_84 rfl rfl ?_
          refine j_icmp_ge C dX6_bestPlace_85 (tgt := 92) (by decide) (fun h85 => ?_) (fun h85 => ?_)
          · have h85' := Int32.not_lt.mpr h85
            refine j_iconst C (v := (0 : Int32)) dX6_bestPlace_92 rfl ?_
            refine j_istore C dX6_bestPlace_93 (by decide) (lv' := [(5, .int (0 : Int32)), (4, .int (nI (10 * i35))), (2, .int t35.1), (3, .int t35.2), (1, .int s0), (0, .ref (h 0))]) rfl ?_
            refine j_iload C 0 dX6_bestPlace_95 rfl ?_
            refine j_if_eq C dX6_bestPlace_97 (tgt := 105) (by decide) (fun _ => ?_) (fun h => absurd (by decide) h)
            refine j_iload_n C 2 dX6_bestPlace_105 rfl rfl ?_
            refine j_istore_n C dX6_bestPlace_106 rfl (by decide) (lv' := [(2, .int t35.1), (5, .int (0 : Int32)), (4, .int (nI (10 * i35))), (3, .int t35.2), (1, .int s0), (0, .ref (h 0))]) rfl ?_
            refine j_iload C 1 dX6_bestPlace_107 rfl ?_
            refine j_if_eq C dX6_bestPlace_109 (tgt := 119) (by decide) (fun _ => ?_) (fun h => absurd (by decide) h)
            refine j_iload_n C 3 dX6_bestPlace_119 rfl rfl ?_
            refine j_istore_n C dX6_bestPlace_120 rfl (by decide) (lv' := [(3, .int t35.2), (2, .int t35.1), (5, .int (0 : Int32)), (4, .int (nI (10 * i35))), (1, .int s0), (0, .ref (h 0))]) rfl ?_
            refine j_aload_n C 5 dX6_bestPlace_121 rfl rfl ?_
            refine j_get C 0 fgX6_bestPlace_7 rfl rfl dX6_bestPlace_122 ?_
            refine j_iconst C (v := (2 : Int32)) dX6_bestPlace_125 rfl ?_
            refine j_dup2 C dX6_bestPlace_126 rfl rfl ?_
            refine j_iald C 1 rfl (i := 2) rfl (by decide) (by decide) dX6_bestPlace_127 ?_
            refine j_iconst C (v := (1 : Int32)) dX6_bestPlace_128 rfl ?_
            refine j_isub C dX6_bestPlace_129 ?_
            refine j_iast C 1 rfl (i := 2) rfl (by decide) (by decide) (w' := (wMo D h (upd (mBu m1 n (nI (10 * i35)) s0 (0 : Int32) (99999 : Int32)) 2 (((mBu m1 n (nI (10 * i35)) s0 (0 : Int32) (99999 : Int32)) 2) - (1 : Int32))) sp sv (nI s) tx tl (0 : Int32) sx_65 (nI (mR (mBu m1 n (nI (10 * i35)) s0 (0 : Int32) (99999 : Int32)) (n + 1)).2.1) (bI (mR (mBu m1 n (nI (10 * i35)) s0 (0 : Int32) (99999 : Int32)) (n + 1)).1) ((mR (mBu m1 n (nI (10 * i35)) s0 (0 : Int32) (99999 : Int32)) (n + 1)).2.2.2.1) ((mR (mBu m1 n (nI (10 * i35)) s0 (0 : Int32) (99999 : Int32)) (n + 1)).2.2.2.2.1) ((mR (mBu m1 n (nI (10 * i35)) s0 (0 : Int32) (99999 : Int32)) (n + 1)).2.2.2.2.2) (mLo (mBu m1 n (nI (10 * i35)) s0 (0 : Int32) (99999 : Int32)) (n + 1)) rx_65 cr ap nu ha)) rfl dX6_bestPlace_130 ?_
            rw [show mBu m1 n (nI (10 * i35)) s0 0 99999 2 - 1 = nI n from mBu_r ((hm1 2 (by omega)).trans hc)]
            refine j_iinc C 3 dX6_bestPlace_131 rfl (v := nI (10 * i35 + 10)) (nI_add _ 10) (by decide) (lv' := [(4, .int (nI (10 * i35 + 10))), (3, .int t35.2), (2, .int t35.1), (5, .int (0 : Int32)), (1, .int s0), (0, .ref (h 0))]) rfl ?_
            refine j_goto C dX6_bestPlace_134 (tgt := 35) (by decide) ?_
            refine j_sub [0, 2, 1, 4, 5] (lv' := [(4, .int (nI (10 * i35 + 10))), (2, .int t35.1), (3, .int t35.2), (1, .int s0), (0, .ref (h 0))]) rfl ?_
            exact ih35 (t35.1, t35.2) (by have hag := mBu_ag hm1 (nI (10 * i35)) s0 0 99999; rw [bpI, ← ht35, ← mAg_mR hag, ← mAg_mGr (by omega) hag]; exact (bst_g h77 h85').symm) _ (mBu_back hm1 hc _ _ _ _) _ _ _ _ _ _ _ _
          · have h85' := Int32.not_le.mp h85
            refine j_iconst C (v := (1 : Int32)) dX6_bestPlace_88 rfl ?_
            refine j_goto C dX6_bestPlace_89 (tgt := 93) (by decide) ?_
            refine j_istore C dX6_bestPlace_93 (by decide) (lv' := [(5, .int (1 : Int32)), (4, .int (nI (10 * i35))), (2, .int t35.1), (3, .int t35.2), (1, .int s0), (0, .ref (h 0))]) rfl ?_
            refine j_iload C 0 dX6_bestPlace_95 rfl ?_
            refine j_if_eq C dX6_bestPlace_97 (tgt := 105) (by decide) (fun h => absurd h (by decide)) (fun _ => ?_)
            refine j_iload C 1 dX6_bestPlace_100 rfl ?_
            refine j_goto C dX6_bestPlace_102 (tgt := 106) (by decide) ?_
            refine j_istore_n C dX6_bestPlace_106 rfl (by decide) (lv' := [(2, .int (nI (10 * i35))), (5, .int (1 : Int32)), (4, .int (nI (10 * i35))), (3, .int t35.2), (1, .int s0), (0, .ref (h 0))]) rfl ?_
            refine j_iload C 1 dX6_bestPlace_107 rfl ?_
            refine j_if_eq C dX6_bestPlace_109 (tgt := 119) (by decide) (fun h => absurd h (by decide)) (fun _ => ?_)
            refine j_aload_n C 5 dX6_bestPlace_112 rfl rfl ?_
            refine j_cv_i C (As := []) (rest := []) (ctX6_greatestB (xl X) D h (mBu m1 n (nI (10 * i35)) s0 (0 : Int32) (99999 : Int32)) sp sv (nI s) tx tl (0 : Int32) sx_65 (nI (mR (mBu m1 n (nI (10 * i35)) s0 (0 : Int32) (99999 : Int32)) (n + 1)).2.1) ((mR (mBu m1 n (nI (10 * i35)) s0 (0 : Int32) (99999 : Int32)) (n + 1)).2.2.2.1) ((mR (mBu m1 n (nI (10 * i35)) s0 (0 : Int32) (99999 : Int32)) (n + 1)).2.2.2.2.1) ((mR (mBu m1 n (nI (10 * i35)) s0 (0 : Int32) (99999 : Int32)) (n + 1)).2.2.2.2.2) (mLo (mBu m1 n (nI (10 * i35)) s0 (0 : Int32) (99999 : Int32)) (n + 1)) rx_65 cr ap nu ha ((mR (mBu m1 n (nI (10 * i35)) s0 (0 : Int32) (99999 : Int32)) (n + 1)).1) (n + 1) (by omega) ((mBu_2 _ _ _ _ _ _).trans (by rw [show m1 2 = nI n from (hm1 2 (by omega)).trans hc, nI_1]))) mfX6_greatest gX6_bestPlace_X6_greatest rfl (Nat.le_of_ble_eq_true rfl) (Nat.le_of_ble_eq_true rfl) (Nat.le_of_ble_eq_true rfl) (Nat.le_of_ble_eq_true rfl) [0, 1, 2, 3, 4, 5, 6] rfl rfl 0 rfl rfl rfl rfl (Nat.le_of_ble_eq_true rfl) dX6_bestPlace_113 ?_
            rintro _ _ ⟨rfl, rfl⟩
            refine ⟨rfl, ?_⟩
            refine j_w (w' := (wMo D h (mBu m1 n (nI (10 * i35)) s0 (0 : Int32) (99999 : Int32)) sp sv (nI s) tx tl (0 : Int32) sx_65 (nI (mR (mBu m1 n (nI (10 * i35)) s0 (0 : Int32) (99999 : Int32)) (n + 1)).2.1) (bI (mR (mBu m1 n (nI (10 * i35)) s0 (0 : Int32) (99999 : Int32)) (n + 1)).1) ((mR (mBu m1 n (nI (10 * i35)) s0 (0 : Int32) (99999 : Int32)) (n + 1)).2.2.2.1) ((mR (mBu m1 n (nI (10 * i35)) s0 (0 : Int32) (99999 : Int32)) (n + 1)).2.2.2.2.1) ((mR (mBu m1 n (nI (10 * i35)) s0 (0 : Int32) (99999 : Int32)) (n + 1)).2.2.2.2.2) (mLo (mBu m1 n (nI (10 * i35)) s0 (0 : Int32) (99999 : Int32)) (n + 1)) rx_65 cr ap nu ha)) rfl ?_
            refine j_goto C dX6_bestPlace_116 (tgt := 120) (by decide) ?_
            refine j_istore_n C dX6_bestPlace_120 rfl (by decide) (lv' := [(3, .int (gre ((mR (mBu m1 n (nI (10 * i35)) s0 (0 : Int32) (99999 : Int32)) (n + 1)).1) (mLo (mBu m1 n (nI (10 * i35)) s0 (0 : Int32) (99999 : Int32)) (n + 1)) (n + 1))), (2, .int (nI (10 * i35))), (5, .int (1 : Int32)), (4, .int (nI (10 * i35))), (1, .int s0), (0, .ref (h 0))]) rfl ?_
            refine j_aload_n C 5 dX6_bestPlace_121 rfl rfl ?_
            refine j_get C 0 fgX6_bestPlace_7 rfl rfl dX6_bestPlace_122 ?_
            refine j_iconst C (v := (2 : Int32)) dX6_bestPlace_125 rfl ?_
            refine j_dup2 C dX6_bestPlace_126 rfl rfl ?_
            refine j_iald C 1 rfl (i := 2) rfl (by decide) (by decide) dX6_bestPlace_127 ?_
            refine j_iconst C (v := (1 : Int32)) dX6_bestPlace_128 rfl ?_
            refine j_isub C dX6_bestPlace_129 ?_
            refine j_iast C 1 rfl (i := 2) rfl (by decide) (by decide) (w' := (wMo D h (upd (mBu m1 n (nI (10 * i35)) s0 (0 : Int32) (99999 : Int32)) 2 (((mBu m1 n (nI (10 * i35)) s0 (0 : Int32) (99999 : Int32)) 2) - (1 : Int32))) sp sv (nI s) tx tl (0 : Int32) sx_65 (nI (mR (mBu m1 n (nI (10 * i35)) s0 (0 : Int32) (99999 : Int32)) (n + 1)).2.1) (bI (mR (mBu m1 n (nI (10 * i35)) s0 (0 : Int32) (99999 : Int32)) (n + 1)).1) ((mR (mBu m1 n (nI (10 * i35)) s0 (0 : Int32) (99999 : Int32)) (n + 1)).2.2.2.1) ((mR (mBu m1 n (nI (10 * i35)) s0 (0 : Int32) (99999 : Int32)) (n + 1)).2.2.2.2.1) ((mR (mBu m1 n (nI (10 * i35)) s0 (0 : Int32) (99999 : Int32)) (n + 1)).2.2.2.2.2) (mLo (mBu m1 n (nI (10 * i35)) s0 (0 : Int32) (99999 : Int32)) (n + 1)) rx_65 cr ap nu ha)) rfl dX6_bestPlace_130 ?_
            rw [show mBu m1 n (nI (10 * i35)) s0 0 99999 2 - 1 = nI n from mBu_r ((hm1 2 (by omega)).trans hc)]
            refine j_iinc C 3 dX6_bestPlace_131 rfl (v := nI (10 * i35 + 10)) (nI_add _ 10) (by decide) (lv' := [(4, .int (nI (10 * i35 + 10))), (3, .int (gre ((mR (mBu m1 n (nI (10 * i35)) s0 (0 : Int32) (99999 : Int32)) (n + 1)).1) (mLo (mBu m1 n (nI (10 * i35)) s0 (0 : Int32) (99999 : Int32)) (n + 1)) (n + 1))), (2, .int (nI (10 * i35))), (5, .int (1 : Int32)), (1, .int s0), (0, .ref (h 0))]) rfl ?_
            refine j_goto C dX6_bestPlace_134 (tgt := 35) (by decide) ?_
            refine j_sub [0, 2, 1, 4, 5] (lv' := [(4, .int (nI (10 * i35 + 10))), (2, .int (nI (10 * i35))), (3, .int (gre ((mR (mBu m1 n (nI (10 * i35)) s0 (0 : Int32) (99999 : Int32)) (n + 1)).1) (mLo (mBu m1 n (nI (10 * i35)) s0 (0 : Int32) (99999 : Int32)) (n + 1)) (n + 1))), (1, .int s0), (0, .ref (h 0))]) rfl ?_
            exact ih35 (nI (10 * i35), gre ((mR (mBu m1 n (nI (10 * i35)) s0 (0 : Int32) (99999 : Int32)) (n + 1)).1) (mLo (mBu m1 n (nI (10 * i35)) s0 (0 : Int32) (99999 : Int32)) (n + 1)) (n + 1)) (by have hag := mBu_ag hm1 (nI (10 * i35)) s0 0 99999; rw [bpI, ← ht35, ← mAg_mR hag, ← mAg_mGr (by omega) hag]; exact (bst_t h72 (Or.inr h85')).symm) _ (mBu_back hm1 hc _ _ _ _) _ _ _ _ _ _ _ _
  refine j_sub [0, 2, 1, 4, 3] (lv' := [(4, .int (0 : Int32)), (2, .int (-1 : Int32)), (3, .int (0 : Int32)), (1, .int s0), (0, .ref (h 0))]) rfl ?_
  exact hl35 0 (Nat.zero_le _) ((-1 : Int32), (0 : Int32)) rfl m (mAg_rfl n m) _ _ _ _ _ _ _ _
