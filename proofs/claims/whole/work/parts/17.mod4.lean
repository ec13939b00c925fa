set_option maxRecDepth 100000 in
set_option maxHeartbeats 4000000 in
theorem ctX6_fall (l : Launch) (D : KD) (h : Nat → Nat) (m sp sv : Nat → Int32) (sc : Int32) (tx : Nat → Int32) (tl cd se ro st : Int32) (qa qb qd : Int64) (lo : Nat → Int32) (re : Nat → Int64) (cr ap nu : Int32) (ha : Int64) (n : Nat) (hn : n ≤ 16) (hc : m 2 = nI n) (hV : mVal m n) : MI l D yX6_fall wsX6_fall 4 91 0 0 [.ref (h 0)] (wMo D h m sp sv sc tx tl cd se ro st qa qb qd lo re cr ap nu ha) (fun r w1 => ∃ (se1 : Int32) (re1 : Nat → Int64), r = (fal n 16 m 0 0).2.1 ∧ w1 = wMo D h ((fal n 16 m 0 0).1) sp sv sc tx tl cd se1 (nI (mR ((fal n 16 m 0 0).1) n).2.1) (bI (mR ((fal n 16 m 0 0).1) n).1) ((mR ((fal n 16 m 0 0).1) n).2.2.2.1) ((mR ((fal n 16 m 0 0).1) n).2.2.2.2.1) ((mR ((fal n 16 m 0 0).1) n).2.2.2.2.2) (mLo ((fal n 16 m 0 0).1) n) re1 ((fal n 16 m 0 0).2.2) ap nu ha) := by
  refine MI.of (cc := cX6_fall) (nL := 4) (lv0 := [(0, .ref (h 0))]) (by decide +kernel) rfl (Nat.le_of_ble_eq_true rfl) rfl ?_
  intro X hXl hin C ret
  subst hXl
  refine j_iconst C (v := (0 : Int32)) dX6_fall_0 rfl ?_
  refine j_istore_n C dX6_fall_1 rfl (by decide) (lv' := [(1, .int (0 : Int32)), (0, .ref (h 0))]) rfl ?_
  refine j_aload_n C 1 dX6_fall_2 rfl rfl ?_
  refine j_iconst C (v := (0 : Int32)) dX6_fall_3 rfl ?_
  refine j_put C 0 foX6_fall_145 rfl (w' := (wMo D h m sp sv sc tx tl cd se ro st qa qb qd lo re (0 : Int32) ap nu ha)) rfl rfl rfl (Nat.le_of_ble_eq_true rfl) dX6_fall_4 ?_
  refine j_aload_n C 1 dX6_fall_7 rfl rfl ?_
  refine j_cv_v C (As := []) (rest := []) (ctX6_settle (xl X) D h m sp sv sc tx tl cd se ro st qa qb qd lo re (0 : Int32) ap nu ha n (by first | assumption | omega | decide) (by first | assumption | omega | decide) (by first | assumption | omega | decide)) mfX6_settle gX6_fall_X6_settle rfl (Nat.le_of_ble_eq_true rfl) (Nat.le_of_ble_eq_true rfl) (Nat.le_of_ble_eq_true rfl) (Nat.le_of_ble_eq_true rfl) [0, 1, 2, 3, 4, 5, 6] rfl rfl 0 rfl rfl rfl rfl (Nat.le_of_ble_eq_true rfl) dX6_fall_8 ?_
  rintro _ ⟨sx_8, rx_8, hsx_8, rfl⟩
  refine ⟨rfl, ?_⟩
  refine j_w (w' := (wMo D h m sp sv sc tx tl cd sx_8 (nI (mR m n).2.1) (bI (mR m n).1) ((mR m n).2.2.2.1) ((mR m n).2.2.2.2.1) ((mR m n).2.2.2.2.2) (mLo m n) rx_8 (0 : Int32) ap nu ha)) rfl ?_
  refine j_aload_n C 1 dX6_fall_11 rfl rfl ?_
  refine j_cv_i C (As := []) (rest := []) (ctX6_overloaded (xl X) D h m sp sv sc tx tl cd sx_8 (nI (mR m n).2.1) ((mR m n).2.2.2.1) ((mR m n).2.2.2.2.1) ((mR m n).2.2.2.2.2) (mLo m n) rx_8 (0 : Int32) ap nu ha ((mR m n).1) n (by first | assumption | omega | decide) (by first | assumption | omega | decide)) mfX6_overloaded gX6_fall_X6_overloaded rfl (Nat.le_of_ble_eq_true rfl) (Nat.le_of_ble_eq_true rfl) (Nat.le_of_ble_eq_true rfl) (Nat.le_of_ble_eq_true rfl) [0, 1, 2, 3, 4, 5, 6] rfl rfl 0 rfl rfl rfl rfl (Nat.le_of_ble_eq_true rfl) dX6_fall_12 ?_
  rintro _ _ ⟨rfl, rfl⟩
  refine ⟨rfl, ?_⟩
  refine j_w (w' := (wMo D h m sp sv sc tx tl cd sx_8 (nI (mR m n).2.1) (bI (mR m n).1) ((mR m n).2.2.2.1) ((mR m n).2.2.2.2.1) ((mR m n).2.2.2.2.2) (mLo m n) rx_8 (0 : Int32) ap nu ha)) rfl ?_
  refine j_istore_n C dX6_fall_15 rfl (by decide) (lv' := [(2, .int (mOv m n)), (1, .int (0 : Int32)), (0, .ref (h 0))]) rfl ?_
  obtain ⟨R, hRf⟩ : ∃ R, fal n 16 m 0 0 = R := ⟨_, rfl⟩
  have key : ∀ (f : Nat) (m1 : Nat → Int32) (s1 c1 : Int32) (se0 : Int32) (re0 : Nat → Int64), mVal m1 n → m1 2 = nI n → cst m1 n ≤ f → fal n f m1 s1 c1 = R → J D X (wMo D h m1 sp sv sc tx tl cd se0 (nI (mR m1 n).2.1) (bI (mR m1 n).1) ((mR m1 n).2.2.2.1) ((mR m1 n).2.2.2.2.1) ((mR m1 n).2.2.2.2.2) (mLo m1 n) re0 c1 ap nu ha) 0 0 16 [(2, .int (mOv m1 n)), (1, .int s1), (0, .ref (h 0))] [] := by
    intro f
    induction f with
    | zero =>
      intro m1 s1 c1 se0 re0 hV1 hc1 hf hres
      have h17 : mOv m1 n = 0 := Classical.byContradiction fun z => by have := cst_fall hn hV1 z; omega
      refine j_iload_n C 0 dX6_fall_16 rfl rfl ?_
      refine j_if_eq C dX6_fall_17 (tgt := 90) (by decide) (fun _ => ?_) (fun h => absurd h17 h)
      refine j_iload_n C 1 dX6_fall_90 rfl rfl ?_
      exact ret dX6_fall_91 (⟨se0, re0, by rw [hRf, ← hres]; rfl, by rw [hRf, ← hres]; rfl⟩)
    | succ f ih =>
      intro m1 s1 c1 se0 re0 hV1 hc1 hf hres
      refine j_iload_n C 0 dX6_fall_16 rfl rfl ?_
      refine j_if_eq C dX6_fall_17 (tgt := 90) (by decide) (fun h17 => ?_) (fun h17 => ?_)
      · refine j_iload_n C 1 dX6_fall_90 rfl rfl ?_
        exact ret dX6_fall_91 (⟨se0, re0, by rw [hRf, ← hres, fal_0 h17], by rw [hRf, ← hres, fal_0 h17]⟩)
      · refine j_iconst C (v := (0 : Int32)) dX6_fall_20 rfl ?_
        refine j_istore_n C dX6_fall_21 rfl (by decide) (lv' := [(3, .int (0 : Int32)), (2, .int (mOv m1 n)), (1, .int s1), (0, .ref (h 0))]) rfl ?_
        have hl22 : ∀ i22, i22 ≤ n → ∀ (t22 : Nat → Int32), t22 = crk m1 (mOv m1 n) i22 → J D X (wMo D h t22 sp sv sc tx tl cd se0 (nI (mR m1 n).2.1) (bI (mR m1 n).1) ((mR m1 n).2.2.2.1) ((mR m1 n).2.2.2.2.1) ((mR m1 n).2.2.2.2.2) (mLo m1 n) re0 c1 ap nu ha) 0 0 22 [(3, .int (nI i22)), (2, .int (mOv m1 n)), (1, .int s1), (0, .ref (h 0))] [] := by
          refine for_up (n) ?_ ?_
          · intro t22 ht22
            refine j_iload_n C 0 dX6_fall_22 rfl rfl ?_
            refine j_aload_n C 3 dX6_fall_23 rfl rfl ?_
            refine j_get C 0 fgX6_fall_7 rfl rfl dX6_fall_24 ?_
            refine j_iconst C (v := (2 : Int32)) dX6_fall_27 rfl ?_
            refine j_iald C 1 rfl (i := 2) rfl (by decide) (by decide) dX6_fall_28 ?_
            refine j_eqi (y := nI n) (by rw [ht22, crk_2]; exact hc1) ?_
            refine j_icmp_ge C dX6_fall_29 (tgt := 62) (by decide) (fun _ => ?_) (fun h => absurd (Int32.le_refl _) h)
            have hVt : mVal t22 n := by rw [ht22]; exact crk_val hV1 _ _
            have hct : t22 2 = nI n := by rw [ht22, crk_2]; exact hc1
            refine j_aload_n C 3 dX6_fall_62 rfl rfl ?_
            refine j_dup C dX6_fall_63 rfl ?_
            refine j_get C 0 fgX6_fall_145 rfl rfl dX6_fall_64 ?_
            refine j_iload_n C 1 dX6_fall_67 rfl rfl ?_
            refine j_cs_i C (As := [.int (mOv m1 n)]) (rest := [.int c1, .ref (h 0)]) (ctX6_many (xl X) D (mOv m1 n)) mfX6_many gX6_fall_X6_many rfl (Nat.le_of_ble_eq_true rfl) (Nat.le_of_ble_eq_true rfl) (Nat.le_of_ble_eq_true rfl) (Nat.le_of_ble_eq_true rfl) [] rfl rfl rfl (Nat.le_of_ble_eq_true rfl) dX6_fall_68 ?_
            rintro _ _ ⟨rfl, rfl⟩
            refine ⟨rfl, ?_⟩
            refine j_w (w' := (wMo D h t22 sp sv sc tx tl cd se0 (nI (mR m1 n).2.1) (bI (mR m1 n).1) ((mR m1 n).2.2.2.1) ((mR m1 n).2.2.2.2.1) ((mR m1 n).2.2.2.2.2) (mLo m1 n) re0 c1 ap nu ha)) rfl ?_
            refine j_iadd C dX6_fall_71 ?_
            refine j_put C 0 foX6_fall_145 rfl (w' := (wMo D h t22 sp sv sc tx tl cd se0 (nI (mR m1 n).2.1) (bI (mR m1 n).1) ((mR m1 n).2.2.2.1) ((mR m1 n).2.2.2.2.1) ((mR m1 n).2.2.2.2.2) (mLo m1 n) re0 (c1 + (cntI (mOv m1 n) 16)) ap nu ha)) rfl rfl rfl (Nat.le_of_ble_eq_true rfl) dX6_fall_72 ?_
            refine j_iinc C 2 dX6_fall_75 rfl (v := s1 + (1 : Int32)) rfl (by decide) (lv' := [(1, .int (s1 + (1 : Int32))), (3, .int (nI n)), (2, .int (mOv m1 n)), (0, .ref (h 0))]) rfl ?_
            refine j_aload_n C 3 dX6_fall_78 rfl rfl ?_
            refine j_cv_v C (As := []) (rest := []) (ctX6_settle (xl X) D h t22 sp sv sc tx tl cd se0 (nI (mR m1 n).2.1) (bI (mR m1 n).1) ((mR m1 n).2.2.2.1) ((mR m1 n).2.2.2.2.1) ((mR m1 n).2.2.2.2.2) (mLo m1 n) re0 (c1 + (cntI (mOv m1 n) 16)) ap nu ha n (by first | assumption | omega | decide) hct hVt) mfX6_settle gX6_fall_X6_settle rfl (Nat.le_of_ble_eq_true rfl) (Nat.le_of_ble_eq_true rfl) (Nat.le_of_ble_eq_true rfl) (Nat.le_of_ble_eq_true rfl) [0, 1, 2, 3, 4, 5, 6] rfl rfl 0 rfl rfl rfl rfl (Nat.le_of_ble_eq_true rfl) dX6_fall_79 ?_
            rintro _ ⟨sx_79, rx_79, hsx_79, rfl⟩
            refine ⟨rfl, ?_⟩
            refine j_w (w' := (wMo D h t22 sp sv sc tx tl cd sx_79 (nI (mR t22 n).2.1) (bI (mR t22 n).1) ((mR t22 n).2.2.2.1) ((mR t22 n).2.2.2.2.1) ((mR t22 n).2.2.2.2.2) (mLo t22 n) rx_79 (c1 + (cntI (mOv m1 n) 16)) ap nu ha)) rfl ?_
            refine j_aload_n C 3 dX6_fall_82 rfl rfl ?_
            refine j_cv_i C (As := []) (rest := []) (ctX6_overloaded (xl X) D h t22 sp sv sc tx tl cd sx_79 (nI (mR t22 n).2.1) ((mR t22 n).2.2.2.1) ((mR t22 n).2.2.2.2.1) ((mR t22 n).2.2.2.2.2) (mLo t22 n) rx_79 (c1 + (cntI (mOv m1 n) 16)) ap nu ha ((mR t22 n).1) n (by first | assumption | omega | decide) hct) mfX6_overloaded gX6_fall_X6_overloaded rfl (Nat.le_of_ble_eq_true rfl) (Nat.le_of_ble_eq_true rfl) (Nat.le_of_ble_eq_true rfl) (Nat.le_of_ble_eq_true rfl) [0, 1, 2, 3, 4, 5, 6] rfl rfl 0 rfl rfl rfl rfl (Nat.le_of_ble_eq_true rfl) dX6_fall_83 ?_
            rintro _ _ ⟨rfl, rfl⟩
            refine ⟨rfl, ?_⟩
            refine j_w (w' := (wMo D h t22 sp sv sc tx tl cd sx_79 (nI (mR t22 n).2.1) (bI (mR t22 n).1) ((mR t22 n).2.2.2.1) ((mR t22 n).2.2.2.2.1) ((mR t22 n).2.2.2.2.2) (mLo t22 n) rx_79 (c1 + (cntI (mOv m1 n) 16)) ap nu ha)) rfl ?_
            refine j_istore_n C dX6_fall_86 rfl (by decide) (lv' := [(2, .int (mOv t22 n)), (1, .int (s1 + (1 : Int32))), (3, .int (nI n)), (0, .ref (h 0))]) rfl ?_
            refine j_goto C dX6_fall_87 (tgt := 16) (by decide) ?_
            refine j_sub [0, 1, 3] (lv' := [(2, .int (mOv t22 n)), (1, .int (s1 + (1 : Int32))), (0, .ref (h 0))]) rfl ?_
            exact ih t22 (s1 + 1) (c1 + cntI (mOv m1 n) 16) _ _ hVt hct (by have := cst_fall hn hV1 h17; rw [ht22]; omega) (by rw [← hres, fal_s h17, ht22])
          · intro i22 hi22 ih22 t22 ht22
            refine j_iload_n C 0 dX6_fall_22 rfl rfl ?_
            refine j_aload_n C 3 dX6_fall_23 rfl rfl ?_
            refine j_get C 0 fgX6_fall_7 rfl rfl dX6_fall_24 ?_
            refine j_iconst C (v := (2 : Int32)) dX6_fall_27 rfl ?_
            refine j_iald C 1 rfl (i := 2) rfl (by decide) (by decide) dX6_fall_28 ?_
            refine j_eqi (y := nI n) (by rw [ht22, crk_2]; exact hc1) ?_
            refine j_icmp_ge C dX6_fall_29 (tgt := 62) (by decide) (fun h => absurd h (nI_ge hi22 (by omega))) (fun _ => ?_)
            refine j_aload_n C 3 dX6_fall_32 rfl rfl ?_
            refine j_iload_n C 0 dX6_fall_33 rfl rfl ?_
            refine j_iconst C (v := (4 : Int32)) dX6_fall_34 rfl ?_
            refine j_iload_n C 1 dX6_fall_35 rfl rfl ?_
            refine j_iload_n C 0 dX6_fall_36 rfl rfl ?_
            refine j_cs_i C (As := [.int (mOv m1 n), .int (nI i22)]) (rest := [.int (4 : Int32), .int (nI i22), .ref (h 0)]) (ctX6_has (xl X) D (mOv m1 n) i22 (by first | assumption | omega | decide)) mfX6_has gX6_fall_X6_has rfl (Nat.le_of_ble_eq_true rfl) (Nat.le_of_ble_eq_true rfl) (Nat.le_of_ble_eq_true rfl) (Nat.le_of_ble_eq_true rfl) [] rfl rfl rfl (Nat.le_of_ble_eq_true rfl) dX6_fall_37 ?_
            rintro _ _ ⟨rfl, rfl⟩
            refine ⟨rfl, ?_⟩
            refine j_w (w' := (wMo D h t22 sp sv sc tx tl cd se0 (nI (mR m1 n).2.1) (bI (mR m1 n).1) ((mR m1 n).2.2.2.1) ((mR m1 n).2.2.2.2.1) ((mR m1 n).2.2.2.2.2) (mLo m1 n) re0 c1 ap nu ha)) rfl ?_
            refine j_bif_eq C dX6_fall_40 (tgt := 47) (by decide) (fun h40 => ?_) (fun h40 => ?_)
            · refine j_aload_n C 3 dX6_fall_47 rfl rfl ?_
              refine j_iload_n C 0 dX6_fall_48 rfl rfl ?_
              refine j_iconst C (v := (4 : Int32)) dX6_fall_49 rfl ?_
              refine j_cv_i C (As := [.int (nI i22), .int (4 : Int32)]) (rest := [.int (4 : Int32), .int (nI i22), .ref (h 0)]) (ctX6_of (xl X) D h t22 sp sv sc tx tl cd se0 (nI (mR m1 n).2.1) (bI (mR m1 n).1) ((mR m1 n).2.2.2.1) ((mR m1 n).2.2.2.2.1) ((mR m1 n).2.2.2.2.2) (mLo m1 n) re0 c1 ap nu ha i22 4 (by first | assumption | omega | decide)) mfX6_of gX6_fall_X6_of rfl (Nat.le_of_ble_eq_true rfl) (Nat.le_of_ble_eq_true rfl) (Nat.le_of_ble_eq_true rfl) (Nat.le_of_ble_eq_true rfl) [0, 1, 2, 3, 4, 5, 6] rfl rfl 0 rfl rfl rfl rfl (Nat.le_of_ble_eq_true rfl) dX6_fall_50 ?_
              rintro _ _ ⟨rfl, rfl⟩
              refine ⟨rfl, ?_⟩
              refine j_w (w' := (wMo D h t22 sp sv sc tx tl cd se0 (nI (mR m1 n).2.1) (bI (mR m1 n).1) ((mR m1 n).2.2.2.1) ((mR m1 n).2.2.2.2.1) ((mR m1 n).2.2.2.2.2) (mLo m1 n) re0 c1 ap nu ha)) rfl ?_
              refine j_cv_v C (As := [.int (nI i22), .int (4 : Int32), .int (t22 (3 + 6 * i22 + 4))]) (rest := []) (ctX6_lay (xl X) D h t22 sp sv sc tx tl cd se0 (nI (mR m1 n).2.1) (bI (mR m1 n).1) ((mR m1 n).2.2.2.1) ((mR m1 n).2.2.2.2.1) ((mR m1 n).2.2.2.2.2) (mLo m1 n) re0 c1 ap nu ha i22 4 (t22 (3 + 6 * i22 + 4)) (by first | assumption | omega | decide)) mfX6_lay gX6_fall_X6_lay rfl (Nat.le_of_ble_eq_true rfl) (Nat.le_of_ble_eq_true rfl) (Nat.le_of_ble_eq_true rfl) (Nat.le_of_ble_eq_true rfl) [0, 1, 2, 3, 4, 5, 6] rfl rfl 0 rfl rfl rfl rfl (Nat.le_of_ble_eq_true rfl) dX6_fall_53 ?_
              rintro _ rfl
              refine ⟨rfl, ?_⟩
              refine j_w (w' := (wMo D h (upd t22 (3 + 6 * i22 + 4) (t22 (3 + 6 * i22 + 4))) sp sv sc tx tl cd se0 (nI (mR m1 n).2.1) (bI (mR m1 n).1) ((mR m1 n).2.2.2.1) ((mR m1 n).2.2.2.2.1) ((mR m1 n).2.2.2.2.2) (mLo m1 n) re0 c1 ap nu ha)) rfl ?_
              refine j_iinc C 0 dX6_fall_56 rfl (v := nI (i22 + 1)) (nI_1 _) (by decide) (lv' := [(3, .int (nI (i22 + 1))), (2, .int (mOv m1 n)), (1, .int s1), (0, .ref (h 0))]) rfl ?_
              refine j_goto C dX6_fall_59 (tgt := 22) (by decide) ?_
              refine j_sub [0, 1, 2, 3] (lv' := [(3, .int (nI (i22 + 1))), (2, .int (mOv m1 n)), (1, .int s1), (0, .ref (h 0))]) rfl ?_
              exact ih22 (upd t22 (3 + 6 * i22 + 4) (t22 (3 + 6 * i22 + 4))) (by rw [crk, if_neg (by rw [h40]; decide)]; try rw [← ht22]; try rfl)
            · refine j_iconst C (v := (2 : Int32)) dX6_fall_43 rfl ?_
              refine j_goto C dX6_fall_44 (tgt := 53) (by decide) ?_
              refine j_cv_v C (As := [.int (nI i22), .int (4 : Int32), .int (2 : Int32)]) (rest := []) (ctX6_lay (xl X) D h t22 sp sv sc tx tl cd se0 (nI (mR m1 n).2.1) (bI (mR m1 n).1) ((mR m1 n).2.2.2.1) ((mR m1 n).2.2.2.2.1) ((mR m1 n).2.2.2.2.2) (mLo m1 n) re0 c1 ap nu ha i22 4 (2 : Int32) (by first | assumption | omega | decide)) mfX6_lay gX6_fall_X6_lay rfl (Nat.le_of_ble_eq_true rfl) (Nat.le_of_ble_eq_true rfl) (Nat.le_of_ble_eq_true rfl) (Nat.le_of_ble_eq_true rfl) [0, 1, 2, 3, 4, 5, 6] rfl rfl 0 rfl rfl rfl rfl (Nat.le_of_ble_eq_true rfl) dX6_fall_53 ?_
              rintro _ rfl
              refine ⟨rfl, ?_⟩
              refine j_w (w' := (wMo D h (upd t22 (3 + 6 * i22 + 4) (2 : Int32)) sp sv sc tx tl cd se0 (nI (mR m1 n).2.1) (bI (mR m1 n).1) ((mR m1 n).2.2.2.1) ((mR m1 n).2.2.2.2.1) ((mR m1 n).2.2.2.2.2) (mLo m1 n) re0 c1 ap nu ha)) rfl ?_
              refine j_iinc C 0 dX6_fall_56 rfl (v := nI (i22 + 1)) (nI_1 _) (by decide) (lv' := [(3, .int (nI (i22 + 1))), (2, .int (mOv m1 n)), (1, .int s1), (0, .ref (h 0))]) rfl ?_
              refine j_goto C dX6_fall_59 (tgt := 22) (by decide) ?_
              refine j_sub [0, 1, 2, 3] (lv' := [(3, .int (nI (i22 + 1))), (2, .int (mOv m1 n)), (1, .int s1), (0, .ref (h 0))]) rfl ?_
              exact ih22 (upd t22 (3 + 6 * i22 + 4) (2 : Int32)) (by rw [crk, if_pos h40]; try rw [← ht22]; try rfl)
        refine j_sub [0, 1, 2, 3] (lv' := [(3, .int (0 : Int32)), (2, .int (mOv m1 n)), (1, .int s1), (0, .ref (h 0))]) rfl ?_
        exact hl22 0 (Nat.zero_le _) m1 rfl
  refine j_sub [0, 1, 2] (lv' := [(2, .int (mOv m n)), (1, .int (0 : Int32)), (0, .ref (h 0))]) rfl ?_
  exact key 16 m 0 0 _ _ hV hc (Nat.le_trans (cst_le m n) hn) hRf

set_option maxRecDepth 100000 in
set_option maxHeartbeats 4000000 in
theorem ctX6_setCapX (l : Launch) (D : KD) (h : Nat → Nat) (m sp sv : Nat → Int32) (tx : Nat → Int32) (tl cd se ro st : Int32) (qa qb qd : Int64) (lo : Nat → Int32) (re : Nat → Int64) (cr ap nu : Int32) (ha : Int64) (s : Nat) (hs : s ≤ 4) (x : Int32) (hx : pIn x 0 (m 2 - 1) = false) (y : Int32) : MI l D yX6_setCap wsX6_setCap 2 43 0 0 [.ref (h 0), .int x, .int y] (wMo D h m sp sv (nI s) tx tl cd se ro st qa qb qd lo re cr ap nu ha) (fun r w1 => r = 0 ∧ mW D h m sv (nI s) tx tl 1 w1) := by
  refine MI.of (cc := cX6_setCap) (nL := 3) (lv0 := [(0, .ref (h 0)), (1, .int x), (2, .int y)]) (by decide +kernel) rfl (Nat.le_of_ble_eq_true rfl) rfl ?_
  intro X hXl hin C ret
  subst hXl
  refine j_aload_n C 0 dX6_setCap_0 rfl rfl ?_
  refine j_aload_n C 0 dX6_setCap_1 rfl rfl ?_
  refine j_iload_n C 1 dX6_setCap_2 rfl rfl ?_
  refine j_cv_i C (As := [.int x]) (rest := [.ref (h 0)]) (ctX6_isBlock (xl X) D h m sp sv (nI s) tx tl cd se ro st qa qb qd lo re cr ap nu ha x) mfX6_isBlock gX6_setCap_X6_isBlock rfl (Nat.le_of_ble_eq_true rfl) (Nat.le_of_ble_eq_true rfl) (Nat.le_of_ble_eq_true rfl) (Nat.le_of_ble_eq_true rfl) [0, 1, 2, 3, 4, 5, 6] rfl rfl 0 rfl rfl rfl rfl (Nat.le_of_ble_eq_true rfl) dX6_setCap_3 ?_
  rintro _ _ ⟨rfl, rfl⟩
  refine ⟨rfl, ?_⟩
  refine j_w (w' := (wMo D h m sp sv (nI s) tx tl cd se ro st qa qb qd lo re cr ap nu ha)) rfl ?_
  refine j_bif_ne C dX6_setCap_6 (tgt := 13) (by decide) (fun h => (by rw [hx] at h; cases h)) (fun _ => ?_)
  refine j_iconst C (v := (1 : Int32)) dX6_setCap_9 rfl ?_
  refine j_goto C dX6_setCap_10 (tgt := 25) (by decide) ?_
  refine j_put C 0 foX6_setCap_29 rfl (w' := (wMo D h m sp sv (nI s) tx tl (1 : Int32) se ro st qa qb qd lo re cr ap nu ha)) rfl rfl rfl (Nat.le_of_ble_eq_true rfl) dX6_setCap_25 ?_
  refine j_aload_n C 0 dX6_setCap_28 rfl rfl ?_
  refine j_get C 0 fgX6_setCap_29 rfl rfl dX6_setCap_29 ?_
  refine j_if_eq C dX6_setCap_32 (tgt := 39) (by decide) (fun h => absurd h (by decide)) (fun _ => ?_)
  refine j_iconst C (v := (0 : Int32)) dX6_setCap_35 rfl ?_
  refine j_goto C dX6_setCap_36 (tgt := 46) (by decide) ?_
  exact ret dX6_setCap_46 (⟨rfl, ⟨_, _, _, _, _, _, _, _, _, _, _, _, _, rfl⟩⟩)

set_option maxRecDepth 100000 in
set_option maxHeartbeats 4000000 in
theorem ctX6_setCapY (l : Launch) (D : KD) (h : Nat → Nat) (m sp sv : Nat → Int32) (tx : Nat → Int32) (tl cd se ro st : Int32) (qa qb qd : Int64) (lo : Nat → Int32) (re : Nat → Int64) (cr ap nu : Int32) (ha : Int64) (s : Nat) (hs : s ≤ 4) (n : Nat) (hn : n ≤ 16) (hc : m 2 = nI n) (hV : mVal m n) (i : Nat) (hi : i < n) (y : Int32) (hy : pIn y (-50) 50 = false) : MI l D yX6_setCap wsX6_setCap 2 43 0 0 [.ref (h 0), .int (nI i), .int y] (wMo D h m sp sv (nI s) tx tl cd se ro st qa qb qd lo re cr ap nu ha) (fun r w1 => r = 0 ∧ mW D h m sv (nI s) tx tl 2 w1) := by
  refine MI.of (cc := cX6_setCap) (nL := 3) (lv0 := [(0, .ref (h 0)), (1, .int (nI i)), (2, .int y)]) (by decide +kernel) rfl (Nat.le_of_ble_eq_true rfl) rfl ?_
  intro X hXl hin C ret
  subst hXl
  have hx : pIn (nI i) 0 (m 2 - 1) = true := pIn_blk hc hn hi
  refine j_aload_n C 0 dX6_setCap_0 rfl rfl ?_
  refine j_aload_n C 0 dX6_setCap_1 rfl rfl ?_
  refine j_iload_n C 1 dX6_setCap_2 rfl rfl ?_
  refine j_cv_i C (As := [.int (nI i)]) (rest := [.ref (h 0)]) (ctX6_isBlock (xl X) D h m sp sv (nI s) tx tl cd se ro st qa qb qd lo re cr ap nu ha (nI i)) mfX6_isBlock gX6_setCap_X6_isBlock rfl (Nat.le_of_ble_eq_true rfl) (Nat.le_of_ble_eq_true rfl) (Nat.le_of_ble_eq_true rfl) (Nat.le_of_ble_eq_true rfl) [0, 1, 2, 3, 4, 5, 6] rfl rfl 0 rfl rfl rfl rfl (Nat.le_of_ble_eq_true rfl) dX6_setCap_3 ?_
  rintro _ _ ⟨rfl, rfl⟩
  refine ⟨rfl, ?_⟩
  refine j_w (w' := (wMo D h m sp sv (nI s) tx tl cd se ro st qa qb qd lo re cr ap nu ha)) rfl ?_
  refine j_bif_ne C dX6_setCap_6 (tgt := 13) (by decide) (fun _ => ?_) (fun h => (by rw [hx] at h; cases h))
  refine j_iload_n C 2 dX6_setCap_13 rfl rfl ?_
  refine j_cs_i C (As := [.int y]) (rest := [.ref (h 0)]) (ctX6_isCap (xl X) D y) mfX6_isCap gX6_setCap_X6_isCap rfl (Nat.le_of_ble_eq_true rfl) (Nat.le_of_ble_eq_true rfl) (Nat.le_of_ble_eq_true rfl) (Nat.le_of_ble_eq_true rfl) [] rfl rfl rfl (Nat.le_of_ble_eq_true rfl) dX6_setCap_14 ?_
  rintro _ _ ⟨rfl, rfl⟩
  refine ⟨rfl, ?_⟩
  refine j_w (w' := (wMo D h m sp sv (nI s) tx tl cd se ro st qa qb qd lo re cr ap nu ha)) rfl ?_
  refine j_bif_eq C dX6_setCap_17 (tgt := 24) (by decide) (fun _ => ?_) (fun h => (by rw [hy] at h; cases h))
  refine j_iconst C (v := (2 : Int32)) dX6_setCap_24 rfl ?_
  refine j_put C 0 foX6_setCap_29 rfl (w' := (wMo D h m sp sv (nI s) tx tl (2 : Int32) se ro st qa qb qd lo re cr ap nu ha)) rfl rfl rfl (Nat.le_of_ble_eq_true rfl) dX6_setCap_25 ?_
  refine j_aload_n C 0 dX6_setCap_28 rfl rfl ?_
  refine j_get C 0 fgX6_setCap_29 rfl rfl dX6_setCap_29 ?_
  refine j_if_eq C dX6_setCap_32 (tgt := 39) (by decide) (fun h => absurd h (by decide)) (fun _ => ?_)
  refine j_iconst C (v := (0 : Int32)) dX6_setCap_35 rfl ?_
  refine j_goto C dX6_setCap_36 (tgt := 46) (by decide) ?_
  exact ret dX6_setCap_46 (⟨rfl, ⟨_, _, _, _, _, _, _, _, _, _, _, _, _, rfl⟩⟩)

set_option maxRecDepth 100000 in
set_option maxHeartbeats 4000000 in
theorem ctX6_setCap (l : Launch) (D : KD) (h : Nat → Nat) (m sp sv : Nat → Int32) (tx : Nat → Int32) (tl cd se ro st : Int32) (qa qb qd : Int64) (lo : Nat → Int32) (re : Nat → Int64) (cr ap nu : Int32) (ha : Int64) (s : Nat) (hs : s ≤ 4) (n : Nat) (hn : n ≤ 16) (hc : m 2 = nI n) (hV : mVal m n) (i : Nat) (hi : i < n) (y : Int32) (hy : pIn y (-50) 50 = true) : MI l D yX6_setCap wsX6_setCap 3 69 0 0 [.ref (h 0), .int (nI i), .int y] (wMo D h m sp sv (nI s) tx tl cd se ro st qa qb qd lo re cr ap nu ha) (fun r w1 => r = m (3 + 6 * i + 2) ∧ mW D h (upd m (3 + 6 * i + 2) y) (kSv sv s m) (nI (min (s + 1) 4)) tx tl 0 w1) := by
  refine MI.of (cc := cX6_setCap) (nL := 3) (lv0 := [(0, .ref (h 0)), (1, .int (nI i)), (2, .int y)]) (by decide +kernel) rfl (Nat.le_of_ble_eq_true rfl) rfl ?_
  intro X hXl hin C ret
  subst hXl
  have hx : pIn (nI i) 0 (m 2 - 1) = true := pIn_blk hc hn hi
  refine j_aload_n C 0 dX6_setCap_0 rfl rfl ?_
  refine j_aload_n C 0 dX6_setCap_1 rfl rfl ?_
  refine j_iload_n C 1 dX6_setCap_2 rfl rfl ?_
  refine j_cv_i C (As := [.int (nI i)]) (rest := [.ref (h 0)]) (ctX6_isBlock (xl X) D h m sp sv (nI s) tx tl cd se ro st qa qb qd lo re cr ap nu ha (nI i)) mfX6_isBlock gX6_setCap_X6_isBlock rfl (Nat.le_of_ble_eq_true rfl) (Nat.le_of_ble_eq_true rfl) (Nat.le_of_ble_eq_true rfl) (Nat.le_of_ble_eq_true rfl) [0, 1, 2, 3, 4, 5, 6] rfl rfl 0 rfl rfl rfl rfl (Nat.le_of_ble_eq_true rfl) dX6_setCap_3 ?_
  rintro _ _ ⟨rfl, rfl⟩
  refine ⟨rfl, ?_⟩
  refine j_w (w' := (wMo D h m sp sv (nI s) tx tl cd se ro st qa qb qd lo re cr ap nu ha)) rfl ?_
  refine j_bif_ne C dX6_setCap_6 (tgt := 13) (by decide) (fun _ => ?_) (fun h => (by rw [hx] at h; cases h))
  refine j_iload_n C 2 dX6_setCap_13 rfl rfl ?_
  refine j_cs_i C (As := [.int y]) (rest := [.ref (h 0)]) (ctX6_isCap (xl X) D y) mfX6_isCap gX6_setCap_X6_isCap rfl (Nat.le_of_ble_eq_true rfl) (Nat.le_of_ble_eq_true rfl) (Nat.le_of_ble_eq_true rfl) (Nat.le_of_ble_eq_true rfl) [] rfl rfl rfl (Nat.le_of_ble_eq_true rfl) dX6_setCap_14 ?_
  rintro _ _ ⟨rfl, rfl⟩
  refine ⟨rfl, ?_⟩
  refine j_w (w' := (wMo D h m sp sv (nI s) tx tl cd se ro st qa qb qd lo re cr ap nu ha)) rfl ?_
  refine j_bif_eq C dX6_setCap_17 (tgt := 24) (by decide) (fun h => (by rw [hy] at h; cases h)) (fun _ => ?_)
  refine j_iconst C (v := (0 : Int32)) dX6_setCap_20 rfl ?_
  refine j_goto C dX6_setCap_21 (tgt := 25) (by decide) ?_
  refine j_put C 0 foX6_setCap_29 rfl (w' := (wMo D h m sp sv (nI s) tx tl (0 : Int32) se ro st qa qb qd lo re cr ap nu ha)) rfl rfl rfl (Nat.le_of_ble_eq_true rfl) dX6_setCap_25 ?_
  refine j_aload_n C 0 dX6_setCap_28 rfl rfl ?_
  refine j_get C 0 fgX6_setCap_29 rfl rfl dX6_setCap_29 ?_
  refine j_if_eq C dX6_setCap_32 (tgt := 39) (by decide) (fun _ => ?_) (fun h => absurd (by decide) h)
  refine j_aload_n C 0 dX6_setCap_39 rfl rfl ?_
  refine j_iload_n C 1 dX6_setCap_40 rfl rfl ?_
  refine j_iconst C (v := (2 : Int32)) dX6_setCap_41 rfl ?_
  refine j_iload_n C 2 dX6_setCap_42 rfl rfl ?_
  refine j_cv_i C (As := [.int (nI i), .int (2 : Int32), .int y]) (rest := []) (ctX6_change (xl X) D h m sp sv tx tl (0 : Int32) se ro st qa qb qd lo re cr ap nu ha s (by first | assumption | omega | decide) i 2 y (by first | assumption | omega | decide)) mfX6_change gX6_setCap_X6_change rfl (Nat.le_of_ble_eq_true rfl) (Nat.le_of_ble_eq_true rfl) (Nat.le_of_ble_eq_true rfl) (Nat.le_of_ble_eq_true rfl) [0, 1, 2, 3, 4, 5, 6] rfl rfl 0 rfl rfl rfl rfl (Nat.le_of_ble_eq_true rfl) dX6_setCap_43 ?_
  rintro _ _ ⟨rfl, rfl⟩
  refine ⟨rfl, ?_⟩
  refine j_w (w' := (wMo D h (upd m (3 + 6 * i + 2) y) sp (kSv sv s m) (nI (min (s + 1) 4)) tx tl (0 : Int32) se ro st qa qb qd lo re cr ap nu ha)) rfl ?_
  exact ret dX6_setCap_46 (⟨rfl, ⟨_, _, _, _, _, _, _, _, _, _, _, _, _, rfl⟩⟩)

set_option maxRecDepth 100000 in
set_option maxHeartbeats 4000000 in
theorem ctX6_setLimitX (l : Launch) (D : KD) (h : Nat → Nat) (m sp sv : Nat → Int32) (tx : Nat → Int32) (tl cd se ro st : Int32) (qa qb qd : Int64) (lo : Nat → Int32) (re : Nat → Int64) (cr ap nu : Int32) (ha : Int64) (s : Nat) (hs : s ≤ 4) (x : Int32) (hx : pIn x 0 (m 2 - 1) = false) (y : Int32) : MI l D yX6_setLimit wsX6_setLimit 2 43 0 0 [.ref (h 0), .int x, .int y] (wMo D h m sp sv (nI s) tx tl cd se ro st qa qb qd lo re cr ap nu ha) (fun r w1 => r = 0 ∧ mW D h m sv (nI s) tx tl 1 w1) := by
  refine MI.of (cc := cX6_setLimit) (nL := 3) (lv0 := [(0, .ref (h 0)), (1, .int x), (2, .int y)]) (by decide +kernel) rfl (Nat.le_of_ble_eq_true rfl) rfl ?_
  intro X hXl hin C ret
  subst hXl
  refine j_aload_n C 0 dX6_setLimit_0 rfl rfl ?_
  refine j_aload_n C 0 dX6_setLimit_1 rfl rfl ?_
  refine j_iload_n C 1 dX6_setLimit_2 rfl rfl ?_
  refine j_cv_i C (As := [.int x]) (rest := [.ref (h 0)]) (ctX6_isBlock (xl X) D h m sp sv (nI s) tx tl cd se ro st qa qb qd lo re cr ap nu ha x) mfX6_isBlock gX6_setLimit_X6_isBlock rfl (Nat.le_of_ble_eq_true rfl) (Nat.le_of_ble_eq_true rfl) (Nat.le_of_ble_eq_true rfl) (Nat.le_of_ble_eq_true rfl) [0, 1, 2, 3, 4, 5, 6] rfl rfl 0 rfl rfl rfl rfl (Nat.le_of_ble_eq_true rfl) dX6_setLimit_3 ?_
  rintro _ _ ⟨rfl, rfl⟩
  refine ⟨rfl, ?_⟩
  refine j_w (w' := (wMo D h m sp sv (nI s) tx tl cd se ro st qa qb qd lo re cr ap nu ha)) rfl ?_
  refine j_bif_ne C dX6_setLimit_6 (tgt := 13) (by decide) (fun h => (by rw [hx] at h; cases h)) (fun _ => ?_)
  refine j_iconst C (v := (1 : Int32)) dX6_setLimit_9 rfl ?_
  refine j_goto C dX6_setLimit_10 (tgt := 25) (by decide) ?_
  refine j_put C 0 foX6_setLimit_29 rfl (w' := (wMo D h m sp sv (nI s) tx tl (1 : Int32) se ro st qa qb qd lo re cr ap nu ha)) rfl rfl rfl (Nat.le_of_ble_eq_true rfl) dX6_setLimit_25 ?_
  refine j_aload_n C 0 dX6_setLimit_28 rfl rfl ?_
  refine j_get C 0 fgX6_setLimit_29 rfl rfl dX6_setLimit_29 ?_
  refine j_if_eq C dX6_setLimit_32 (tgt := 39) (by decide) (fun h => absurd h (by decide)) (fun _ => ?_)
  refine j_iconst C (v := (0 : Int32)) dX6_setLimit_35 rfl ?_
  refine j_goto C dX6_setLimit_36 (tgt := 46) (by decide) ?_
  exact ret dX6_setLimit_46 (⟨rfl, ⟨_, _, _, _, _, _, _, _, _, _, _, _, _, rfl⟩⟩)

set_option maxRecDepth 100000 in
set_option maxHeartbeats 4000000 in
theorem ctX6_setLimitY (l : Launch) (D : KD) (h : Nat → Nat) (m sp sv : Nat → Int32) (tx : Nat → Int32) (tl cd se ro st : Int32) (qa qb qd : Int64) (lo : Nat → Int32) (re : Nat → Int64) (cr ap nu : Int32) (ha : Int64) (s : Nat) (hs : s ≤ 4) (n : Nat) (hn : n ≤ 16) (hc : m 2 = nI n) (hV : mVal m n) (i : Nat) (hi : i < n) (y : Int32) (hy : pIn y 1 99999 = false) : MI l D yX6_setLimit wsX6_setLimit 2 43 0 0 [.ref (h 0), .int (nI i), .int y] (wMo D h m sp sv (nI s) tx tl cd se ro st qa qb qd lo re cr ap nu ha) (fun r w1 => r = 0 ∧ mW D h m sv (nI s) tx tl 2 w1) := by
  refine MI.of (cc := cX6_setLimit) (nL := 3) (lv0 := [(0, .ref (h 0)), (1, .int (nI i)), (2, .int y)]) (by decide +kernel) rfl (Nat.le_of_ble_eq_true rfl) rfl ?_
  intro X hXl hin C ret
  subst hXl
  have hx : pIn (nI i) 0 (m 2 - 1) = true := pIn_blk hc hn hi
  refine j_aload_n C 0 dX6_setLimit_0 rfl rfl ?_
  refine j_aload_n C 0 dX6_setLimit_1 rfl rfl ?_
  refine j_iload_n C 1 dX6_setLimit_2 rfl rfl ?_
  refine j_cv_i C (As := [.int (nI i)]) (rest := [.ref (h 0)]) (ctX6_isBlock (xl X) D h m sp sv (nI s) tx tl cd se ro st qa qb qd lo re cr ap nu ha (nI i)) mfX6_isBlock gX6_setLimit_X6_isBlock rfl (Nat.le_of_ble_eq_true rfl) (Nat.le_of_ble_eq_true rfl) (Nat.le_of_ble_eq_true rfl) (Nat.le_of_ble_eq_true rfl) [0, 1, 2, 3, 4, 5, 6] rfl rfl 0 rfl rfl rfl rfl (Nat.le_of_ble_eq_true rfl) dX6_setLimit_3 ?_
  rintro _ _ ⟨rfl, rfl⟩
  refine ⟨rfl, ?_⟩
  refine j_w (w' := (wMo D h m sp sv (nI s) tx tl cd se ro st qa qb qd lo re cr ap nu ha)) rfl ?_
  refine j_bif_ne C dX6_setLimit_6 (tgt := 13) (by decide) (fun _ => ?_) (fun h => (by rw [hx] at h; cases h))
  refine j_iload_n C 2 dX6_setLimit_13 rfl rfl ?_
  refine j_cs_i C (As := [.int y]) (rest := [.ref (h 0)]) (ctX6_isLimit (xl X) D y) mfX6_isLimit gX6_setLimit_X6_isLimit rfl (Nat.le_of_ble_eq_true rfl) (Nat.le_of_ble_eq_true rfl) (Nat.le_of_ble_eq_true rfl) (Nat.le_of_ble_eq_true rfl) [] rfl rfl rfl (Nat.le_of_ble_eq_true rfl) dX6_setLimit_14 ?_
  rintro _ _ ⟨rfl, rfl⟩
  refine ⟨rfl, ?_⟩
  refine j_w (w' := (wMo D h m sp sv (nI s) tx tl cd se ro st qa qb qd lo re cr ap nu ha)) rfl ?_
  refine j_bif_eq C dX6_setLimit_17 (tgt := 24) (by decide) (fun _ => ?_) (fun h => (by rw [hy] at h; cases h))
  refine j_iconst C (v := (2 : Int32)) dX6_setLimit_24 rfl ?_
  refine j_put C 0 foX6_setLimit_29 rfl (w' := (wMo D h m sp sv (nI s) tx tl (2 : Int32) se ro st qa qb qd lo re cr ap nu ha)) rfl rfl rfl (Nat.le_of_ble_eq_true rfl) dX6_setLimit_25 ?_
  refine j_aload_n C 0 dX6_setLimit_28 rfl rfl ?_
  refine j_get C 0 fgX6_setLimit_29 rfl rfl dX6_setLimit_29 ?_
  refine j_if_eq C dX6_setLimit_32 (tgt := 39) (by decide) (fun h => absurd h (by decide)) (fun _ => ?_)
  refine j_iconst C (v := (0 : Int32)) dX6_setLimit_35 rfl ?_
  refine j_goto C dX6_setLimit_36 (tgt := 46) (by decide) ?_
  exact ret dX6_setLimit_46 (⟨rfl, ⟨_, _, _, _, _, _, _, _, _, _, _, _, _, rfl⟩⟩)

set_option maxRecDepth 100000 in
set_option maxHeartbeats 4000000 in
theorem ctX6_setLimit (l : Launch) (D : KD) (h : Nat → Nat) (m sp sv : Nat → Int32) (tx : Nat → Int32) (tl cd se ro st : Int32) (qa qb qd : Int64) (lo : Nat → Int32) (re : Nat → Int64) (cr ap nu : Int32) (ha : Int64) (s : Nat) (hs : s ≤ 4) (n : Nat) (hn : n ≤ 16) (hc : m 2 = nI n) (hV : mVal m n) (i : Nat) (hi : i < n) (y : Int32) (hy : pIn y 1 99999 = true) : MI l D yX6_setLimit wsX6_setLimit 3 69 0 0 [.ref (h 0), .int (nI i), .int y] (wMo D h m sp sv (nI s) tx tl cd se ro st qa qb qd lo re cr ap nu ha) (fun r w1 => r = m (3 + 6 * i + 3) ∧ mW D h (upd m (3 + 6 * i + 3) y) (kSv sv s m) (nI (min (s + 1) 4)) tx tl 0 w1) := by
  refine MI.of (cc := cX6_setLimit) (nL := 3) (lv0 := [(0, .ref (h 0)), (1, .int (nI i)), (2, .int y)]) (by decide +kernel) rfl (Nat.le_of_ble_eq_true rfl) rfl ?_
  intro X hXl hin C ret
  subst hXl
  have hx : pIn (nI i) 0 (m 2 - 1) = true := pIn_blk hc hn hi
  refine j_aload_n C 0 dX6_setLimit_0 rfl rfl ?_
  refine j_aload_n C 0 dX6_setLimit_1 rfl rfl ?_
  refine j_iload_n C 1 dX6_setLimit_2 rfl rfl ?_
  refine j_cv_i C (As := [.int (nI i)]) (rest := [.ref (h 0)]) (ctX6_isBlock (xl X) D h m sp sv (nI s) tx tl cd se ro st qa qb qd lo re cr ap nu ha (nI i)) mfX6_isBlock gX6_setLimit_X6_isBlock rfl (Nat.le_of_ble_eq_true rfl) (Nat.le_of_ble_eq_true rfl) (Nat.le_of_ble_eq_true rfl) (Nat.le_of_ble_eq_true rfl) [0, 1, 2, 3, 4, 5, 6] rfl rfl 0 rfl rfl rfl rfl (Nat.le_of_ble_eq_true rfl) dX6_setLimit_3 ?_
  rintro _ _ ⟨rfl, rfl⟩
  refine ⟨rfl, ?_⟩
  refine j_w (w' := (wMo D h m sp sv (nI s) tx tl cd se ro st qa qb qd lo re cr ap nu ha)) rfl ?_
  refine j_bif_ne C dX6_setLimit_6 (tgt := 13) (by decide) (fun _ => ?_) (fun h => (by rw [hx] at h; cases h))
  refine j_iload_n C 2 dX6_setLimit_13 rfl rfl ?_
  refine j_cs_i C (As := [.int y]) (rest := [.ref (h 0)]) (ctX6_isLimit (xl X) D y) mfX6_isLimit gX6_setLimit_X6_isLimit rfl (Nat.le_of_ble_eq_true rfl) (Nat.le_of_ble_eq_true rfl) (Nat.le_of_ble_eq_true rfl) (Nat.le_of_ble_eq_true rfl) [] rfl rfl rfl (Nat.le_of_ble_eq_true rfl) dX6_setLimit_14 ?_
  rintro _ _ ⟨rfl, rfl⟩
  refine ⟨rfl, ?_⟩
  refine j_w (w' := (wMo D h m sp sv (nI s) tx tl cd se ro st qa qb qd lo re cr ap nu ha)) rfl ?_
  refine j_bif_eq C dX6_setLimit_17 (tgt := 24) (by decide) (fun h => (by rw [hy] at h; cases h)) (fun _ => ?_)
  refine j_iconst C (v := (0 : Int32)) dX6_setLimit_20 rfl ?_
  refine j_goto C dX6_setLimit_21 (tgt := 25) (by decide) ?_
  refine j_put C 0 foX6_setLimit_29 rfl (w' := (wMo D h m sp sv (nI s) tx tl (0 : Int32) se ro st qa qb qd lo re cr ap nu ha)) rfl rfl rfl (Nat.le_of_ble_eq_true rfl) dX6_setLimit_25 ?_
  refine j_aload_n C 0 dX6_setLimit_28 rfl rfl ?_
  refine j_get C 0 fgX6_setLimit_29 rfl rfl dX6_setLimit_29 ?_
  refine j_if_eq C dX6_setLimit_32 (tgt := 39) (by decide) (fun _ => ?_) (fun h => absurd (by decide) h)
  refine j_aload_n C 0 dX6_setLimit_39 rfl rfl ?_
  refine j_iload_n C 1 dX6_setLimit_40 rfl rfl ?_
  refine j_iconst C (v := (3 : Int32)) dX6_setLimit_41 rfl ?_
  refine j_iload_n C 2 dX6_setLimit_42 rfl rfl ?_
  refine j_cv_i C (As := [.int (nI i), .int (3 : Int32), .int y]) (rest := []) (ctX6_change (xl X) D h m sp sv tx tl (0 : Int32) se ro st qa qb qd lo re cr ap nu ha s (by first | assumption | omega | decide) i 3 y (by first | assumption | omega | decide)) mfX6_change gX6_setLimit_X6_change rfl (Nat.le_of_ble_eq_true rfl) (Nat.le_of_ble_eq_true rfl) (Nat.le_of_ble_eq_true rfl) (Nat.le_of_ble_eq_true rfl) [0, 1, 2, 3, 4, 5, 6] rfl rfl 0 rfl rfl rfl rfl (Nat.le_of_ble_eq_true rfl) dX6_setLimit_43 ?_
  rintro _ _ ⟨rfl, rfl⟩
  refine ⟨rfl, ?_⟩
  refine j_w (w' := (wMo D h (upd m (3 + 6 * i + 3) y) sp (kSv sv s m) (nI (min (s + 1) 4)) tx tl (0 : Int32) se ro st qa qb qd lo re cr ap nu ha)) rfl ?_
  exact ret dX6_setLimit_46 (⟨rfl, ⟨_, _, _, _, _, _, _, _, _, _, _, _, _, rfl⟩⟩)

set_option maxRecDepth 100000 in
set_option maxHeartbeats 4000000 in
theorem ctX6_setShipX (l : Launch) (D : KD) (h : Nat → Nat) (m sp sv : Nat → Int32) (tx : Nat → Int32) (tl cd se ro st : Int32) (qa qb qd : Int64) (lo : Nat → Int32) (re : Nat → Int64) (cr ap nu : Int32) (ha : Int64) (s : Nat) (hs : s ≤ 4) (w0 c0 : Int32) (hy : (pIn w0 1 100000 && pIn c0 0 400) = false) : MI l D yX6_setShip wsX6_setShip 2 43 0 0 [.ref (h 0), .int w0, .int c0] (wMo D h m sp sv (nI s) tx tl cd se ro st qa qb qd lo re cr ap nu ha) (fun r w1 => r = 0 ∧ mW D h m sv (nI s) tx tl 1 w1) := by
  refine MI.of (cc := cX6_setShip) (nL := 4) (lv0 := [(0, .ref (h 0)), (1, .int w0), (2, .int c0)]) (by decide +kernel) rfl (Nat.le_of_ble_eq_true rfl) rfl ?_
  intro X hXl hin C ret
  subst hXl
  refine j_aload_n C 0 dX6_setShip_0 rfl rfl ?_
  refine j_iload_n C 1 dX6_setShip_1 rfl rfl ?_
  refine j_iload_n C 2 dX6_setShip_2 rfl rfl ?_
  refine j_cs_i C (As := [.int w0, .int c0]) (rest := [.ref (h 0)]) (ctX6_isShip (xl X) D w0 c0) mfX6_isShip gX6_setShip_X6_isShip rfl (Nat.le_of_ble_eq_true rfl) (Nat.le_of_ble_eq_true rfl) (Nat.le_of_ble_eq_true rfl) (Nat.le_of_ble_eq_true rfl) [] rfl rfl rfl (Nat.le_of_ble_eq_true rfl) dX6_setShip_3 ?_
  rintro _ _ ⟨rfl, rfl⟩
  refine ⟨rfl, ?_⟩
  refine j_w (w' := (wMo D h m sp sv (nI s) tx tl cd se ro st qa qb qd lo re cr ap nu ha)) rfl ?_
  refine j_bif_eq C dX6_setShip_6 (tgt := 13) (by decide) (fun _ => ?_) (fun h => (by rw [hy] at h; cases h))
  refine j_iconst C (v := (1 : Int32)) dX6_setShip_13 rfl ?_
  refine j_put C 0 foX6_setShip_29 rfl (w' := (wMo D h m sp sv (nI s) tx tl (1 : Int32) se ro st qa qb qd lo re cr ap nu ha)) rfl rfl rfl (Nat.le_of_ble_eq_true rfl) dX6_setShip_14 ?_
  refine j_aload_n C 0 dX6_setShip_17 rfl rfl ?_
  refine j_get C 0 fgX6_setShip_29 rfl rfl dX6_setShip_18 ?_
  refine j_if_eq C dX6_setShip_21 (tgt := 26) (by decide) (fun h => absurd h (by decide)) (fun _ => ?_)
  refine j_iconst C (v := (0 : Int32)) dX6_setShip_24 rfl ?_
  exact ret dX6_setShip_25 (⟨rfl, ⟨_, _, _, _, _, _, _, _, _, _, _, _, _, rfl⟩⟩)

set_option maxRecDepth 100000 in
set_option maxHeartbeats 4000000 in
theorem ctX6_setShip (l : Launch) (D : KD) (h : Nat → Nat) (m sp sv : Nat → Int32) (tx : Nat → Int32) (tl cd se ro st : Int32) (qa qb qd : Int64) (lo : Nat → Int32) (re : Nat → Int64) (cr ap nu : Int32) (ha : Int64) (s : Nat) (hs : s ≤ 4) (n : Nat) (hn : n ≤ 16) (hc : m 2 = nI n) (hV : mVal m n) (w0 c0 : Int32) (hy : (pIn w0 1 100000 && pIn c0 0 400) = true) : MI l D yX6_setShip wsX6_setShip 2 45 0 0 [.ref (h 0), .int w0, .int c0] (wMo D h m sp sv (nI s) tx tl cd se ro st qa qb qd lo re cr ap nu ha) (fun r w1 => r = m 0 ∧ mW D h (upd (upd m 0 w0) 1 c0) (kSv sv s m) (nI (min (s + 1) 4)) tx tl 0 w1) := by
  refine MI.of (cc := cX6_setShip) (nL := 4) (lv0 := [(0, .ref (h 0)), (1, .int w0), (2, .int c0)]) (by decide +kernel) rfl (Nat.le_of_ble_eq_true rfl) rfl ?_
  intro X hXl hin C ret
  subst hXl
  refine j_aload_n C 0 dX6_setShip_0 rfl rfl ?_
  refine j_iload_n C 1 dX6_setShip_1 rfl rfl ?_
  refine j_iload_n C 2 dX6_setShip_2 rfl rfl ?_
  refine j_cs_i C (As := [.int w0, .int c0]) (rest := [.ref (h 0)]) (ctX6_isShip (xl X) D w0 c0) mfX6_isShip gX6_setShip_X6_isShip rfl (Nat.le_of_ble_eq_true rfl) (Nat.le_of_ble_eq_true rfl) (Nat.le_of_ble_eq_true rfl) (Nat.le_of_ble_eq_true rfl) [] rfl rfl rfl (Nat.le_of_ble_eq_true rfl) dX6_setShip_3 ?_
  rintro _ _ ⟨rfl, rfl⟩
  refine ⟨rfl, ?_⟩
  refine j_w (w' := (wMo D h m sp sv (nI s) tx tl cd se ro st qa qb qd lo re cr ap nu ha)) rfl ?_
  refine j_bif_eq C dX6_setShip_6 (tgt := 13) (by decide) (fun h => (by rw [hy] at h; cases h)) (fun _ => ?_)
  refine j_iconst C (v := (0 : Int32)) dX6_setShip_9 rfl ?_
  refine j_goto C dX6_setShip_10 (tgt := 14) (by decide) ?_
  refine j_put C 0 foX6_setShip_29 rfl (w' := (wMo D h m sp sv (nI s) tx tl (0 : Int32) se ro st qa qb qd lo re cr ap nu ha)) rfl rfl rfl (Nat.le_of_ble_eq_true rfl) dX6_setShip_14 ?_
  refine j_aload_n C 0 dX6_setShip_17 rfl rfl ?_
  refine j_get C 0 fgX6_setShip_29 rfl rfl dX6_setShip_18 ?_
  refine j_if_eq C dX6_setShip_21 (tgt := 26) (by decide) (fun _ => ?_) (fun h => absurd (by decide) h)
  refine j_aload_n C 0 dX6_setShip_26 rfl rfl ?_
  refine j_cv_v C (As := []) (rest := []) (ctX6_keep (xl X) D h m sp sv tx tl (0 : Int32) se ro st qa qb qd lo re cr ap nu ha s (by first | assumption | omega | decide)) mfX6_keep gX6_setShip_X6_keep rfl (Nat.le_of_ble_eq_true rfl) (Nat.le_of_ble_eq_true rfl) (Nat.le_of_ble_eq_true rfl) (Nat.le_of_ble_eq_true rfl) [0, 1, 2, 3, 4, 5, 6] rfl rfl 0 rfl rfl rfl rfl (Nat.le_of_ble_eq_true rfl) dX6_setShip_27 ?_
  rintro _ rfl
  refine ⟨rfl, ?_⟩
  refine j_w (w' := (wMo D h m sp (kSv sv s m) (nI (min (s + 1) 4)) tx tl (0 : Int32) se ro st qa qb qd lo re cr ap nu ha)) rfl ?_
  refine j_aload_n C 0 dX6_setShip_30 rfl rfl ?_
  refine j_get C 0 fgX6_setShip_7 rfl rfl dX6_setShip_31 ?_
  refine j_iconst C (v := (0 : Int32)) dX6_setShip_34 rfl ?_
  refine j_iald C 1 rfl (i := 0) rfl (by decide) (by decide) dX6_setShip_35 ?_
  refine j_istore_n C dX6_setShip_36 rfl (by decide) (lv' := [(3, .int (m 0)), (0, .ref (h 0)), (1, .int w0), (2, .int c0)]) rfl ?_
  refine j_aload_n C 1 dX6_setShip_37 rfl rfl ?_
  refine j_get C 0 fgX6_setShip_7 rfl rfl dX6_setShip_38 ?_
  refine j_iconst C (v := (0 : Int32)) dX6_setShip_41 rfl ?_
  refine j_iload_n C 2 dX6_setShip_42 rfl rfl ?_
  refine j_iast C 1 rfl (i := 0) rfl (by decide) (by decide) (w' := (wMo D h (upd m 0 w0) sp (kSv sv s m) (nI (min (s + 1) 4)) tx tl (0 : Int32) se ro st qa qb qd lo re cr ap nu ha)) rfl dX6_setShip_43 ?_
  refine j_aload_n C 1 dX6_setShip_44 rfl rfl ?_
  refine j_get C 0 fgX6_setShip_7 rfl rfl dX6_setShip_45 ?_
  refine j_iconst C (v := (1 : Int32)) dX6_setShip_48 rfl ?_
  refine j_iload_n C 3 dX6_setShip_49 rfl rfl ?_
  refine j_iast C 1 rfl (i := 1) rfl (by decide) (by decide) (w' := (wMo D h (upd (upd m 0 w0) 1 c0) sp (kSv sv s m) (nI (min (s + 1) 4)) tx tl (0 : Int32) se ro st qa qb qd lo re cr ap nu ha)) rfl dX6_setShip_50 ?_
  refine j_iload_n C 0 dX6_setShip_51 rfl rfl ?_
  exact ret dX6_setShip_52 (⟨rfl, ⟨_, _, _, _, _, _, _, _, _, _, _, _, _, rfl⟩⟩)

set_option maxRecDepth 100000 in
set_option maxHeartbeats 4000000 in
theorem ctX6_addBlockX (l : Launch) (D : KD) (h : Nat → Nat) (m sp sv : Nat → Int32) (tx : Nat → Int32) (tl cd se ro st : Int32) (qa qb qd : Int64) (lo : Nat → Int32) (re : Nat → Int64) (cr ap nu : Int32) (ha : Int64) (s : Nat) (hs : s ≤ 4) (p0 s0 c0 l0 : Int32) (hy : (pIn p0 0 400 && (pIn s0 1 100 && (pIn c0 (-50) 50 && pIn l0 1 99999))) = false) : MI l D yX6_addBlock wsX6_addBlock 3 65 0 0 [.ref (h 0), .int p0, .int s0, .int c0, .int l0] (wMo D h m sp sv (nI s) tx tl cd se ro st qa qb qd lo re cr ap nu ha) (fun r w1 => r = 0 ∧ mW D h m sv (nI s) tx tl 1 w1) := by
  refine MI.of (cc := cX6_addBlock) (nL := 5) (lv0 := [(0, .ref (h 0)), (1, .int p0), (2, .int s0), (3, .int c0), (4, .int l0)]) (by decide +kernel) rfl (Nat.le_of_ble_eq_true rfl) rfl ?_
  intro X hXl hin C ret
  subst hXl
  refine j_aload_n C 0 dX6_addBlock_0 rfl rfl ?_
  refine j_iload_n C 1 dX6_addBlock_1 rfl rfl ?_
  refine j_iload_n C 2 dX6_addBlock_2 rfl rfl ?_
  refine j_iload_n C 3 dX6_addBlock_3 rfl rfl ?_
  refine j_iload C 4 dX6_addBlock_4 rfl ?_
  refine j_cs_i C (As := [.int p0, .int s0, .int c0, .int l0]) (rest := [.ref (h 0)]) (ctX6_isBuilt (xl X) D p0 s0 c0 l0) mfX6_isBuilt gX6_addBlock_X6_isBuilt rfl (Nat.le_of_ble_eq_true rfl) (Nat.le_of_ble_eq_true rfl) (Nat.le_of_ble_eq_true rfl) (Nat.le_of_ble_eq_true rfl) [] rfl rfl rfl (Nat.le_of_ble_eq_true rfl) dX6_addBlock_6 ?_
  rintro _ _ ⟨rfl, rfl⟩
  refine ⟨rfl, ?_⟩
  refine j_w (w' := (wMo D h m sp sv (nI s) tx tl cd se ro st qa qb qd lo re cr ap nu ha)) rfl ?_
  refine j_bif_ne C dX6_addBlock_9 (tgt := 16) (by decide) (fun h => (by rw [hy] at h; cases h)) (fun _ => ?_)
  refine j_iconst C (v := (1 : Int32)) dX6_addBlock_12 rfl ?_
  refine j_goto C dX6_addBlock_13 (tgt := 32) (by decide) ?_
  refine j_put C 0 foX6_addBlock_29 rfl (w' := (wMo D h m sp sv (nI s) tx tl (1 : Int32) se ro st qa qb qd lo re cr ap nu ha)) rfl rfl rfl (Nat.le_of_ble_eq_true rfl) dX6_addBlock_32 ?_
  refine j_aload_n C 0 dX6_addBlock_35 rfl rfl ?_
  refine j_get C 0 fgX6_addBlock_29 rfl rfl dX6_addBlock_36 ?_
  refine j_if_eq C dX6_addBlock_39 (tgt := 44) (by decide) (fun h => absurd h (by decide)) (fun _ => ?_)
  refine j_iconst C (v := (0 : Int32)) dX6_addBlock_42 rfl ?_
  exact ret dX6_addBlock_43 (⟨rfl, ⟨_, _, _, _, _, _, _, _, _, _, _, _, _, rfl⟩⟩)

set_option maxRecDepth 100000 in
set_option maxHeartbeats 4000000 in
theorem ctX6_addBlockF (l : Launch) (D : KD) (h : Nat → Nat) (m sp sv : Nat → Int32) (tx : Nat → Int32) (tl cd se ro st : Int32) (qa qb qd : Int64) (lo : Nat → Int32) (re : Nat → Int64) (cr ap nu : Int32) (ha : Int64) (s : Nat) (hs : s ≤ 4) (p0 s0 c0 l0 : Int32) (hy : (pIn p0 0 400 && (pIn s0 1 100 && (pIn c0 (-50) 50 && pIn l0 1 99999))) = true) (h16 : m 2 = 16) : MI l D yX6_addBlock wsX6_addBlock 3 65 0 0 [.ref (h 0), .int p0, .int s0, .int c0, .int l0] (wMo D h m sp sv (nI s) tx tl cd se ro st qa qb qd lo re cr ap nu ha) (fun r w1 => r = 0 ∧ mW D h m sv (nI s) tx tl 2 w1) := by
  refine MI.of (cc := cX6_addBlock) (nL := 5) (lv0 := [(0, .ref (h 0)), (1, .int p0), (2, .int s0), (3, .int c0), (4, .int l0)]) (by decide +kernel) rfl (Nat.le_of_ble_eq_true rfl) rfl ?_
  intro X hXl hin C ret
  subst hXl
  refine j_aload_n C 0 dX6_addBlock_0 rfl rfl ?_
  refine j_iload_n C 1 dX6_addBlock_1 rfl rfl ?_
  refine j_iload_n C 2 dX6_addBlock_2 rfl rfl ?_
  refine j_iload_n C 3 dX6_addBlock_3 rfl rfl ?_
  refine j_iload C 4 dX6_addBlock_4 rfl ?_
  refine j_cs_i C (As := [.int p0, .int s0, .int c0, .int l0]) (rest := [.ref (h 0)]) (ctX6_isBuilt (xl X) D p0 s0 c0 l0) mfX6_isBuilt gX6_addBlock_X6_isBuilt rfl (Nat.le_of_ble_eq_true rfl) (Nat.le_of_ble_eq_true rfl) (Nat.le_of_ble_eq_true rfl) (Nat.le_of_ble_eq_true rfl) [] rfl rfl rfl (Nat.le_of_ble_eq_true rfl) dX6_addBlock_6 ?_
  rintro _ _ ⟨rfl, rfl⟩
  refine ⟨rfl, ?_⟩
  refine j_w (w' := (wMo D h m sp sv (nI s) tx tl cd se ro st qa qb qd lo re cr ap nu ha)) rfl ?_
  refine j_bif_ne C dX6_addBlock_9 (tgt := 16) (by decide) (fun _ => ?_) (fun h => (by rw [hy] at h; cases h))
  refine j_aload_n C 0 dX6_addBlock_16 rfl rfl ?_
  refine j_get C 0 fgX6_addBlock_7 rfl rfl dX6_addBlock_17 ?_
  refine j_iconst C (v := (2 : Int32)) dX6_addBlock_20 rfl ?_
  refine j_iald C 1 rfl (i := 2) rfl (by decide) (by decide) dX6_addBlock_21 ?_
  refine j_eqi (y := (16 : Int32)) h16 ?_
  refine j_bipush C (v := (16 : Int32)) dX6_addBlock_22 rfl ?_
  refine j_icmp_ne C dX6_addBlock_24 (tgt := 31) (by decide) (fun h => absurd (by decide) h) (fun _ => ?_)
  refine j_iconst C (v := (2 : Int32)) dX6_addBlock_27 rfl ?_
  refine j_goto C dX6_addBlock_28 (tgt := 32) (by decide) ?_
  refine j_put C 0 foX6_addBlock_29 rfl (w' := (wMo D h m sp sv (nI s) tx tl (2 : Int32) se ro st qa qb qd lo re cr ap nu ha)) rfl rfl rfl (Nat.le_of_ble_eq_true rfl) dX6_addBlock_32 ?_
  refine j_aload_n C 0 dX6_addBlock_35 rfl rfl ?_
  refine j_get C 0 fgX6_addBlock_29 rfl rfl dX6_addBlock_36 ?_
  refine j_if_eq C dX6_addBlock_39 (tgt := 44) (by decide) (fun h => absurd h (by decide)) (fun _ => ?_)
  refine j_iconst C (v := (0 : Int32)) dX6_addBlock_42 rfl ?_
  exact ret dX6_addBlock_43 (⟨rfl, ⟨_, _, _, _, _, _, _, _, _, _, _, _, _, rfl⟩⟩)

set_option maxRecDepth 100000 in
set_option maxHeartbeats 4000000 in
theorem ctX6_addBlock (l : Launch) (D : KD) (h : Nat → Nat) (m sp sv : Nat → Int32) (tx : Nat → Int32) (tl cd se ro st : Int32) (qa qb qd : Int64) (lo : Nat → Int32) (re : Nat → Int64) (cr ap nu : Int32) (ha : Int64) (s : Nat) (hs : s ≤ 4) (n : Nat) (hn : n < 16) (hc : m 2 = nI n) (p0 s0 c0 l0 : Int32) (hy : (pIn p0 0 400 && (pIn s0 1 100 && (pIn c0 (-50) 50 && pIn l0 1 99999))) = true) : MI l D yX6_addBlock wsX6_addBlock 3 65 0 0 [.ref (h 0), .int p0, .int s0, .int c0, .int l0] (wMo D h m sp sv (nI s) tx tl cd se ro st qa qb qd lo re cr ap nu ha) (fun r w1 => r = nI n ∧ mW D h (mBu m n p0 s0 c0 l0) (kSv sv s m) (nI (min (s + 1) 4)) tx tl 0 w1) := by
  refine MI.of (cc := cX6_addBlock) (nL := 5) (lv0 := [(0, .ref (h 0)), (1, .int p0), (2, .int s0), (3, .int c0), (4, .int l0)]) (by decide +kernel) rfl (Nat.le_of_ble_eq_true rfl) rfl ?_
  intro X hXl hin C ret
  subst hXl
  refine j_aload_n C 0 dX6_addBlock_0 rfl rfl ?_
  refine j_iload_n C 1 dX6_addBlock_1 rfl rfl ?_
  refine j_iload_n C 2 dX6_addBlock_2 rfl rfl ?_
  refine j_iload_n C 3 dX6_addBlock_3 rfl rfl ?_
  refine j_iload C 4 dX6_addBlock_4 rfl ?_
  refine j_cs_i C (As := [.int p0, .int s0, .int c0, .int l0]) (rest := [.ref (h 0)]) (ctX6_isBuilt (xl X) D p0 s0 c0 l0) mfX6_isBuilt gX6_addBlock_X6_isBuilt rfl (Nat.le_of_ble_eq_true rfl) (Nat.le_of_ble_eq_true rfl) (Nat.le_of_ble_eq_true rfl) (Nat.le_of_ble_eq_true rfl) [] rfl rfl rfl (Nat.le_of_ble_eq_true rfl) dX6_addBlock_6 ?_
  rintro _ _ ⟨rfl, rfl⟩
  refine ⟨rfl, ?_⟩
  refine j_w (w' := (wMo D h m sp sv (nI s) tx tl cd se ro st qa qb qd lo re cr ap nu ha)) rfl ?_
  refine j_bif_ne C dX6_addBlock_9 (tgt := 16) (by decide) (fun _ => ?_) (fun h => (by rw [hy] at h; cases h))
  refine j_aload_n C 0 dX6_addBlock_16 rfl rfl ?_
  refine j_get C 0 fgX6_addBlock_7 rfl rfl dX6_addBlock_17 ?_
  refine j_iconst C (v := (2 : Int32)) dX6_addBlock_20 rfl ?_
  refine j_iald C 1 rfl (i := 2) rfl (by decide) (by decide) dX6_addBlock_21 ?_
  refine j_bipush C (v := (16 : Int32)) dX6_addBlock_22 rfl ?_
  refine j_icmp_ne C dX6_addBlock_24 (tgt := 31) (by decide) (fun _ => ?_) (fun h => absurd h (fun z => by have := (nI_eq (a := n) (b := 16) (by omega) (by decide)).mp (hc.symm.trans z); omega))
  refine j_iconst C (v := (0 : Int32)) dX6_addBlock_31 rfl ?_
  refine j_put C 0 foX6_addBlock_29 rfl (w' := (wMo D h m sp sv (nI s) tx tl (0 : Int32) se ro st qa qb qd lo re cr ap nu ha)) rfl rfl rfl (Nat.le_of_ble_eq_true rfl) dX6_addBlock_32 ?_
  refine j_aload_n C 0 dX6_addBlock_35 rfl rfl ?_
  refine j_get C 0 fgX6_addBlock_29 rfl rfl dX6_addBlock_36 ?_
  refine j_if_eq C dX6_addBlock_39 (tgt := 44) (by decide) (fun _ => ?_) (fun h => absurd (by decide) h)
  refine j_aload_n C 0 dX6_addBlock_44 rfl rfl ?_
  refine j_cv_v C (As := []) (rest := []) (ctX6_keep (xl X) D h m sp sv tx tl (0 : Int32) se ro st qa qb qd lo re cr ap nu ha s (by first | assumption | omega | decide)) mfX6_keep gX6_addBlock_X6_keep rfl (Nat.le_of_ble_eq_true rfl) (Nat.le_of_ble_eq_true rfl) (Nat.le_of_ble_eq_true rfl) (Nat.le_of_ble_eq_true rfl) [0, 1, 2, 3, 4, 5, 6] rfl rfl 0 rfl rfl rfl rfl (Nat.le_of_ble_eq_true rfl) dX6_addBlock_45 ?_
  rintro _ rfl
  refine ⟨rfl, ?_⟩
  refine j_w (w' := (wMo D h m sp (kSv sv s m) (nI (min (s + 1) 4)) tx tl (0 : Int32) se ro st qa qb qd lo re cr ap nu ha)) rfl ?_
  refine j_aload_n C 0 dX6_addBlock_48 rfl rfl ?_
  refine j_iload_n C 1 dX6_addBlock_49 rfl rfl ?_
  refine j_iload_n C 2 dX6_addBlock_50 rfl rfl ?_
  refine j_iload_n C 3 dX6_addBlock_51 rfl rfl ?_
  refine j_iload C 4 dX6_addBlock_52 rfl ?_
  refine j_cv_v C (As := [.int p0, .int s0, .int c0, .int l0]) (rest := []) (ctX6_build (xl X) D h m sp (kSv sv s m) (nI (min (s + 1) 4)) tx tl (0 : Int32) se ro st qa qb qd lo re cr ap nu ha n (by first | assumption | omega | decide) (by first | assumption | omega | decide) p0 s0 c0 l0) mfX6_build gX6_addBlock_X6_build rfl (Nat.le_of_ble_eq_true rfl) (Nat.le_of_ble_eq_true rfl) (Nat.le_of_ble_eq_true rfl) (Nat.le_of_ble_eq_true rfl) [0, 1, 2, 3, 4, 5, 6] rfl rfl 0 rfl rfl rfl rfl (Nat.le_of_ble_eq_true rfl) dX6_addBlock_54 ?_
  rintro _ rfl
  refine ⟨rfl, ?_⟩
  refine j_w (w' := (wMo D h (mBu m n p0 s0 c0 l0) sp (kSv sv s m) (nI (min (s + 1) 4)) tx tl (0 : Int32) se ro st qa qb qd lo re cr ap nu ha)) rfl ?_
  refine j_aload_n C 0 dX6_addBlock_57 rfl rfl ?_
  refine j_get C 0 fgX6_addBlock_7 rfl rfl dX6_addBlock_58 ?_
  refine j_iconst C (v := (2 : Int32)) dX6_addBlock_61 rfl ?_
  refine j_iald C 1 rfl (i := 2) rfl (by decide) (by decide) dX6_addBlock_62 ?_
  refine j_iconst C (v := (1 : Int32)) dX6_addBlock_63 rfl ?_
  refine j_isub C dX6_addBlock_64 ?_
  exact ret dX6_addBlock_65 (⟨mBu_r hc, ⟨_, _, _, _, _, _, _, _, _, _, _, _, _, rfl⟩⟩)
