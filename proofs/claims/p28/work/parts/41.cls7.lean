set_option maxRecDepth 100000 in
set_option maxHeartbeats 4000000 in
theorem ctX4_saveN (l : Launch) (D : KD) (g a : Nat → Nat) (s nw : Nat) (hs : s ≤ 4) (hnw : nw < 4) (sl : Nat → Option Nat) (we ce co sg cr : Int32) (Pp Kp Hp Lp Sp : Nat → Int32) (hsl : sl ((nw + 1) % 4) = none) : MV l D yX4_save wsX4_save 2 32 6 90 [.ref (g 0), .ref (a 0)] (wHi D g (nI s) (nI nw) sl ++ (wDo D a we ce co sg cr Pp Kp Hp Lp Sp)) (fun w1 => ∃ u : Nat → Nat, w1 = wHi D g (nI (min (s + 1) 4)) (nI ((nw + 1) % 4)) (va_up sl ((nw + 1) % 4) (some (u 0))) ++ (wDo D a we ce co sg cr Pp Kp Hp Lp Sp ++ wDo D u we ce co sg cr Pp Kp Hp Lp Sp)) := by
  refine MV.of (cc := cX4_save) (nL := 3) (lv0 := [(0, .ref (g 0)), (1, .ref (a 0))]) (by decide +kernel) rfl (Nat.le_of_ble_eq_true rfl) rfl ?_
  intro X hXl hin C ret
  subst hXl
  refine j_aload_n C 0 dX4_save_0 rfl rfl ?_
  refine j_aload_n C 0 dX4_save_1 rfl rfl ?_
  refine j_get C 0 fgX4_save_15 rfl rfl dX4_save_2 ?_
  refine j_iconst C (v := (1 : Int32)) dX4_save_5 rfl ?_
  refine j_iadd C dX4_save_6 ?_
  refine j_eqi (y := nI (nw + 1)) (nI_add nw 1) ?_
  refine j_iconst C (v := (4 : Int32)) dX4_save_7 rfl ?_
  refine j_cs_i C (As := [.int (nI (nw + 1)), .int (4 : Int32)]) (rest := [.ref (g 0)]) (ctJ9_floorMod_7cf53 (xl X) D (nw + 1) (by omega)) mfJ9_floorMod_7cf53 gX4_save_J9_floorMod_7cf53 rfl (Nat.le_of_ble_eq_true rfl) (Nat.le_of_ble_eq_true rfl) (Nat.le_of_ble_eq_true rfl) (Nat.le_of_ble_eq_true rfl) [] rfl rfl rfl (Nat.le_of_ble_eq_true rfl) dX4_save_8 ?_
  rintro _ _ ⟨rfl, rfl⟩
  refine ⟨Eq.trans (b := []) rfl rfl, ?_⟩
  refine j_w (w' := (wHi D g (nI s) (nI nw) sl ++ (wDo D a we ce co sg cr Pp Kp Hp Lp Sp))) rfl ?_
  refine j_put C 0 foX4_save_15 rfl (w' := (wHi D g (nI s) (nI ((nw + 1) % 4)) sl ++ (wDo D a we ce co sg cr Pp Kp Hp Lp Sp))) rfl rfl rfl (Nat.le_of_ble_eq_true rfl) dX4_save_11 ?_
  refine j_aload_n C 0 dX4_save_14 rfl rfl ?_
  refine j_get C 0 fgX4_save_20 rfl rfl dX4_save_15 ?_
  refine j_aload_n C 0 dX4_save_18 rfl rfl ?_
  refine j_get C 0 fgX4_save_15 rfl rfl dX4_save_19 ?_
  refine j_aald C 1 rfl (i := (nw + 1) % 4) rfl (by omega) (by decide) dX4_save_22 ?_
  refine j_st (st' := [.null]) (by rw [hsl]; rfl) ?_
  refine j_astore_nN C dX4_save_23 rfl (by decide) (lv' := [(2, .null), (0, .ref (g 0)), (1, .ref (a 0))]) rfl ?_
  refine j_aload_nN C 0 dX4_save_24 rfl rfl ?_
  refine j_ifnonnullN C dX4_save_25 ?_
  refine j_new C fnX4_save_18 (Nat.le_of_ble_eq_true rfl) (Nat.le_of_ble_eq_true rfl) dX4_save_28 (fun q28 => ?_)
  refine j_w (w' := (wHi D g (nI s) (nI ((nw + 1) % 4)) sl ++ (wDo D a we ce co sg cr Pp Kp Hp Lp Sp ++ ([(q28, .inr (1, [.int 0, .int 0, .int 0, .int 0, .int 0, .null, .null, .null, .null, .null]))])))) rfl ?_
  refine j_dup C dX4_save_31 rfl ?_
  refine j_ciN_v C (As := []) (rest := [.ref q28]) (ctX1_init (xl X) D q28) mfX1_init gX4_save_X1_init_n30 rfl rfl (C.hN.2.2.2.2.2.1) mX4_save_instanceMethod_yX1_init mX4_save_initialized_RX1 (Nat.le_of_ble_eq_true rfl) (Nat.le_of_ble_eq_true rfl) (Nat.le_of_ble_eq_true rfl) (Nat.le_of_ble_eq_true rfl) [8] rfl rfl rfl (Nat.le_of_ble_eq_true rfl) dX4_save_32 ?_
  rintro _ ⟨u_32, rfl, rfl⟩
  refine ⟨Eq.trans (b := [u_32 0]) rfl rfl, ?_⟩
  refine j_w (w' := (wHi D g (nI s) (nI ((nw + 1) % 4)) sl ++ (wDo D a we ce co sg cr Pp Kp Hp Lp Sp ++ (wDo D u_32 1000 200 0 0 0 (fun _ => 0) (fun _ => 0) (fun _ => 0) (fun _ => 0) (fun _ => 0))))) rfl ?_
  refine j_astore_n C dX4_save_35 rfl (by decide) (lv' := [(2, .ref (u_32 0)), (0, .ref (g 0)), (1, .ref (a 0))]) rfl ?_
  refine j_aload_n C 1 dX4_save_36 rfl rfl ?_
  refine j_get C 0 fgX4_save_20 rfl rfl dX4_save_37 ?_
  refine j_aload_n C 1 dX4_save_40 rfl rfl ?_
  refine j_get C 0 fgX4_save_15 rfl rfl dX4_save_41 ?_
  refine j_aload_n C 0 dX4_save_44 rfl rfl ?_
  refine j_aast C 1 8 rfl rfl rfl rfl (i := (nw + 1) % 4) rfl (by omega) (by decide) (w' := (wHi D g (nI s) (nI ((nw + 1) % 4)) (va_up sl ((nw + 1) % 4) (some (u_32 0))) ++ (wDo D a we ce co sg cr Pp Kp Hp Lp Sp ++ (wDo D u_32 1000 200 0 0 0 (fun _ => 0) (fun _ => 0) (fun _ => 0) (fun _ => 0) (fun _ => 0))))) rfl dX4_save_45 ?_
  refine j_aload_n C 0 dX4_save_46 rfl rfl ?_
  refine j_aload_n C 2 dX4_save_47 rfl rfl ?_
  refine j_cv_v C (As := [.ref (a 0)]) (rest := []) (ctX1_copyFrom (xl X) D u_32 a 1000 200 0 0 0 (fun _ => 0) (fun _ => 0) (fun _ => 0) (fun _ => 0) (fun _ => 0) we ce co sg cr Pp Kp Hp Lp Sp) mfX1_copyFrom gX4_save_X1_copyFrom rfl (Nat.le_of_ble_eq_true rfl) (Nat.le_of_ble_eq_true rfl) (Nat.le_of_ble_eq_true rfl) (Nat.le_of_ble_eq_true rfl) [8, 9, 10, 11, 12, 13, 2, 3, 4, 5, 6, 7] rfl rfl 0 rfl rfl rfl rfl (Nat.le_of_ble_eq_true rfl) dX4_save_48 ?_
  rintro _ rfl
  refine ⟨Eq.trans (b := [u_32 0, u_32 1, u_32 2, u_32 3, u_32 4, u_32 5, a 0, a 1, a 2, a 3, a 4, a 5]) rfl rfl, ?_⟩
  refine j_w (w' := (wHi D g (nI s) (nI ((nw + 1) % 4)) (va_up sl ((nw + 1) % 4) (some (u_32 0))) ++ (wDo D a we ce co sg cr Pp Kp Hp Lp Sp ++ (wDo D u_32 we ce co sg cr Pp Kp Hp Lp Sp)))) rfl ?_
  refine j_aload_n C 1 dX4_save_51 rfl rfl ?_
  refine j_aload_n C 1 dX4_save_52 rfl rfl ?_
  refine j_get C 0 fgX4_save_9 rfl rfl dX4_save_53 ?_
  refine j_iconst C (v := (1 : Int32)) dX4_save_56 rfl ?_
  refine j_iadd C dX4_save_57 ?_
  refine j_eqi (y := nI (s + 1)) (nI_add s 1) ?_
  refine j_iconst C (v := (4 : Int32)) dX4_save_58 rfl ?_
  refine j_min C mX4_save_methodLink_RX4_35_Lib_Math_min_name mX4_save_static_Lib_Math_min_name mX4_save_initialized_java_lang_Math mX4_save_code_Lib_Math_min_name_Lib_Math_min_code_2_some_int (Nat.le_of_ble_eq_true rfl) (Nat.le_of_ble_eq_true rfl) (Nat.le_of_ble_eq_true rfl) (Nat.le_of_ble_eq_true rfl) dX4_save_59 ?_
  refine j_eqi (y := nI (min (s + 1) 4)) (hmin s (by omega)) ?_
  refine j_put C 0 foX4_save_9 rfl (w' := (wHi D g (nI (min (s + 1) 4)) (nI ((nw + 1) % 4)) (va_up sl ((nw + 1) % 4) (some (u_32 0))) ++ (wDo D a we ce co sg cr Pp Kp Hp Lp Sp ++ (wDo D u_32 we ce co sg cr Pp Kp Hp Lp Sp)))) rfl rfl rfl (Nat.le_of_ble_eq_true rfl) dX4_save_62 ?_
  exact ret dX4_save_65 (⟨_, rfl⟩)

set_option maxRecDepth 100000 in
set_option maxHeartbeats 4000000 in
theorem ctX4_saveO (l : Launch) (D : KD) (g a o : Nat → Nat) (s nw : Nat) (hs : s ≤ 4) (hnw : nw < 4) (sl : Nat → Option Nat) (we ce co sg cr : Int32) (Pp Kp Hp Lp Sp : Nat → Int32) (we2 ce2 co2 sg2 cr2 : Int32) (Pp2 Kp2 Hp2 Lp2 Sp2 : Nat → Int32) (hsl : sl ((nw + 1) % 4) = some (o 0)) : MV l D yX4_save wsX4_save 2 32 6 90 [.ref (g 0), .ref (a 0)] (wHi D g (nI s) (nI nw) sl ++ (wDo D a we ce co sg cr Pp Kp Hp Lp Sp ++ (wDo D o we2 ce2 co2 sg2 cr2 Pp2 Kp2 Hp2 Lp2 Sp2))) (fun w1 => w1 = wHi D g (nI (min (s + 1) 4)) (nI ((nw + 1) % 4)) sl ++ (wDo D a we ce co sg cr Pp Kp Hp Lp Sp ++ wDo D o we ce co sg cr Pp Kp Hp Lp Sp)) := by
  refine MV.of (cc := cX4_save) (nL := 3) (lv0 := [(0, .ref (g 0)), (1, .ref (a 0))]) (by decide +kernel) rfl (Nat.le_of_ble_eq_true rfl) rfl ?_
  intro X hXl hin C ret
  subst hXl
  refine j_aload_n C 0 dX4_save_0 rfl rfl ?_
  refine j_aload_n C 0 dX4_save_1 rfl rfl ?_
  refine j_get C 0 fgX4_save_15 rfl rfl dX4_save_2 ?_
  refine j_iconst C (v := (1 : Int32)) dX4_save_5 rfl ?_
  refine j_iadd C dX4_save_6 ?_
  refine j_eqi (y := nI (nw + 1)) (nI_add nw 1) ?_
  refine j_iconst C (v := (4 : Int32)) dX4_save_7 rfl ?_
  refine j_cs_i C (As := [.int (nI (nw + 1)), .int (4 : Int32)]) (rest := [.ref (g 0)]) (ctJ9_floorMod_7cf53 (xl X) D (nw + 1) (by omega)) mfJ9_floorMod_7cf53 gX4_save_J9_floorMod_7cf53 rfl (Nat.le_of_ble_eq_true rfl) (Nat.le_of_ble_eq_true rfl) (Nat.le_of_ble_eq_true rfl) (Nat.le_of_ble_eq_true rfl) [] rfl rfl rfl (Nat.le_of_ble_eq_true rfl) dX4_save_8 ?_
  rintro _ _ ⟨rfl, rfl⟩
  refine ⟨Eq.trans (b := []) rfl rfl, ?_⟩
  refine j_w (w' := (wHi D g (nI s) (nI nw) sl ++ (wDo D a we ce co sg cr Pp Kp Hp Lp Sp ++ (wDo D o we2 ce2 co2 sg2 cr2 Pp2 Kp2 Hp2 Lp2 Sp2)))) rfl ?_
  refine j_put C 0 foX4_save_15 rfl (w' := (wHi D g (nI s) (nI ((nw + 1) % 4)) sl ++ (wDo D a we ce co sg cr Pp Kp Hp Lp Sp ++ (wDo D o we2 ce2 co2 sg2 cr2 Pp2 Kp2 Hp2 Lp2 Sp2)))) rfl rfl rfl (Nat.le_of_ble_eq_true rfl) dX4_save_11 ?_
  refine j_aload_n C 0 dX4_save_14 rfl rfl ?_
  refine j_get C 0 fgX4_save_20 rfl rfl dX4_save_15 ?_
  refine j_aload_n C 0 dX4_save_18 rfl rfl ?_
  refine j_get C 0 fgX4_save_15 rfl rfl dX4_save_19 ?_
  refine j_aald C 1 rfl (i := (nw + 1) % 4) rfl (by omega) (by decide) dX4_save_22 ?_
  refine j_st (st' := [.ref (o 0)]) (by rw [hsl]; rfl) ?_
  refine j_astore_n C dX4_save_23 rfl (by decide) (lv' := [(2, .ref (o 0)), (0, .ref (g 0)), (1, .ref (a 0))]) rfl ?_
  refine j_aload_n C 0 dX4_save_24 rfl rfl ?_
  refine j_ifnonnull C dX4_save_25 (tgt := 46) (by decide) ?_
  refine j_aload_n C 0 dX4_save_46 rfl rfl ?_
  refine j_aload_n C 2 dX4_save_47 rfl rfl ?_
  refine j_cv_v C (As := [.ref (a 0)]) (rest := []) (ctX1_copyFrom (xl X) D o a we2 ce2 co2 sg2 cr2 Pp2 Kp2 Hp2 Lp2 Sp2 we ce co sg cr Pp Kp Hp Lp Sp) mfX1_copyFrom gX4_save_X1_copyFrom rfl (Nat.le_of_ble_eq_true rfl) (Nat.le_of_ble_eq_true rfl) (Nat.le_of_ble_eq_true rfl) (Nat.le_of_ble_eq_true rfl) [8, 9, 10, 11, 12, 13, 2, 3, 4, 5, 6, 7] rfl rfl 0 rfl rfl rfl rfl (Nat.le_of_ble_eq_true rfl) dX4_save_48 ?_
  rintro _ rfl
  refine ⟨Eq.trans (b := [o 0, o 1, o 2, o 3, o 4, o 5, a 0, a 1, a 2, a 3, a 4, a 5]) rfl rfl, ?_⟩
  refine j_w (w' := (wHi D g (nI s) (nI ((nw + 1) % 4)) sl ++ (wDo D a we ce co sg cr Pp Kp Hp Lp Sp ++ (wDo D o we ce co sg cr Pp Kp Hp Lp Sp)))) rfl ?_
  refine j_aload_n C 1 dX4_save_51 rfl rfl ?_
  refine j_aload_n C 1 dX4_save_52 rfl rfl ?_
  refine j_get C 0 fgX4_save_9 rfl rfl dX4_save_53 ?_
  refine j_iconst C (v := (1 : Int32)) dX4_save_56 rfl ?_
  refine j_iadd C dX4_save_57 ?_
  refine j_eqi (y := nI (s + 1)) (nI_add s 1) ?_
  refine j_iconst C (v := (4 : Int32)) dX4_save_58 rfl ?_
  refine j_min C mX4_save_methodLink_RX4_35_Lib_Math_min_name mX4_save_static_Lib_Math_min_name mX4_save_initialized_java_lang_Math mX4_save_code_Lib_Math_min_name_Lib_Math_min_code_2_some_int (Nat.le_of_ble_eq_true rfl) (Nat.le_of_ble_eq_true rfl) (Nat.le_of_ble_eq_true rfl) (Nat.le_of_ble_eq_true rfl) dX4_save_59 ?_
  refine j_eqi (y := nI (min (s + 1) 4)) (hmin s (by omega)) ?_
  refine j_put C 0 foX4_save_9 rfl (w' := (wHi D g (nI (min (s + 1) 4)) (nI ((nw + 1) % 4)) sl ++ (wDo D a we ce co sg cr Pp Kp Hp Lp Sp ++ (wDo D o we ce co sg cr Pp Kp Hp Lp Sp)))) rfl rfl rfl (Nat.le_of_ble_eq_true rfl) dX4_save_62 ?_
  refine j_widen (k' := 6) (n' := 90) (Nat.le_of_ble_eq_true rfl) (Nat.le_of_ble_eq_true rfl) ?_
  exact ret dX4_save_65 (rfl)

theorem ctX4_save (l : Launch) (D : KD) (g a : Nat → Nat) (s nw : Nat) (hs : s ≤ 4) (hnw : nw < 4) (we ce co sg cr : Int32) (Pp Kp Hp Lp Sp : Nat → Int32) (k : Nat) (oa : Nat → Nat → Nat) (f : Nat → Dk) (hnk : nw ≤ k) : MV l D yX4_save wsX4_save 2 32 6 90 [.ref (g 0), .ref (a 0)] ((wHi D g (nI s) (nI nw) (slF oa k) ++ (wDo D a we ce co sg cr Pp Kp Hp Lp Sp)) ++ (wPl D oa f k)) (fun w1 => ∃ oa1 : Nat → Nat → Nat, (∀ j, j < k → oa1 j = oa j) ∧ w1 = (wHi D g (nI (min (s + 1) 4)) (nI ((nw + 1) % 4)) (slF oa1 (max k (nw + 1))) ++ wDo D a we ce co sg cr Pp Kp Hp Lp Sp) ++ (wPl D oa1 (va_up f nw (we, ce, co, sg, cr, Pp, Kp, Hp, Lp, Sp)) (max k (nw + 1)))) := by
  by_cases h : nw < k
  · obtain ⟨⟨we2, ce2, co2, sg2, cr2, Pp2, Kp2, Hp2, Lp2, Sp2⟩, hσ⟩ : ∃ σ, f nw = σ := ⟨_, rfl⟩
    have h0 := ctX4_saveO l D g a (oa nw) s nw hs hnw (slF oa k) we ce co sg cr Pp Kp Hp Lp Sp we2 ce2 co2 sg2 cr2 Pp2 Kp2 Hp2 Lp2 Sp2 (slF_at hnw h)
    have h1 := h0.tail (wPx D oa f nw k) (fun w1 e => ⟨w1, [], by simp, by rw [e]; rfl⟩)
    refine h1.perm ?_ ?_
    · have e := wPl_perm (D := D) (oa := oa) (f := f) k h
      rw [hσ] at e
      refine List.Perm.trans (List.Perm.append_left _ e.symm) ?_
      rw [← List.append_assoc, ← List.append_assoc]
      exact List.Perm.refl _
    · rintro w1 ⟨K1, nwl, e1, -, rfl⟩
      have e2 := wPl_up (D := D) (oa := oa) (f := f) h (we, ce, co, sg, cr, Pp, Kp, Hp, Lp, Sp)
      rw [show max k (nw + 1) = k by omega]
      refine ⟨_, ?_, oa, fun _ _ => rfl, rfl⟩
      refine List.Perm.trans ?_ (List.Perm.append_left _ e2)
      refine List.Perm.trans (List.Perm.append_left _ List.perm_append_comm) ?_
      rw [← List.append_assoc, e1, ← List.append_assoc, List.append_assoc, ← List.append_assoc]
      exact List.Perm.refl _
  · obtain rfl : k = nw := by omega
    have h0 := ctX4_saveN l D g a s k hs hnw (slF oa k) we ce co sg cr Pp Kp Hp Lp Sp (slF_no hnw)
    have h1 := h0.tail (wPl D oa f k) (fun w1 ⟨u, e⟩ => ⟨wHi D g (nI (min (s + 1) 4)) (nI ((k + 1) % 4)) (va_up (slF oa k) ((k + 1) % 4) (some (u 0))) ++ wDo D a we ce co sg cr Pp Kp Hp Lp Sp, wDo D u we ce co sg cr Pp Kp Hp Lp Sp, by rw [e, List.append_assoc], rfl⟩)
    refine h1.imp ?_
    rintro w1 ⟨K1, nwl, ⟨u, e1⟩, e2, rfl⟩
    have e3 : K1 = wHi D g (nI (min (s + 1) 4)) (nI ((k + 1) % 4)) (va_up (slF oa k) ((k + 1) % 4) (some (u 0))) ++ wDo D a we ce co sg cr Pp Kp Hp Lp Sp ∧ nwl = wDo D u we ce co sg cr Pp Kp Hp Lp Sp := List.append_inj (e1.trans (List.append_assoc _ _ _).symm) (by have h := congrArg List.length e2; rw [List.length_map, List.length_map] at h; exact h.trans rfl)
    rw [e3.1, e3.2, slF_up hnw, show max k (k + 1) = k + 1 by omega]
    refine ⟨va_up oa k u, fun j hj => if_neg (by omega), ?_⟩
    rw [wPl, wPl_cg (oa := va_up oa k u) (oa' := oa) (f := va_up f k (we, ce, co, sg, cr, Pp, Kp, Hp, Lp, Sp)) (f' := f) k (fun j hj => ⟨if_neg (by omega), if_neg (by omega)⟩), show va_up oa k u k = u from if_pos rfl, show va_up f k (we, ce, co, sg, cr, Pp, Kp, Hp, Lp, Sp) k = (we, ce, co, sg, cr, Pp, Kp, Hp, Lp, Sp) from if_pos rfl]
    rfl

set_option maxRecDepth 100000 in
set_option maxHeartbeats 4000000 in
theorem ctX4_takeNewest0 (l : Launch) (D : KD) (g : Nat → Nat) (nw : Nat) (sl : Nat → Option Nat) : MO l D yX4_takeNewest wsX4_takeNewest 0 0 0 0 [.ref (g 0)] (wHi D g 0 (nI nw) sl) (fun r w1 => r = none ∧ w1 = wHi D g 0 (nI nw) sl) := by
  refine MO.of (cc := cX4_takeNewest) (nL := 2) (lv0 := [(0, .ref (g 0))]) (by decide +kernel) rfl (Nat.le_of_ble_eq_true rfl) rfl ?_
  intro X hXl hin C ret
  subst hXl
  refine j_aload_n C 0 dX4_takeNewest_0 rfl rfl ?_
  refine j_get C 0 fgX4_takeNewest_9 rfl rfl dX4_takeNewest_1 ?_
  refine j_if_gt C dX4_takeNewest_4 (tgt := 9) (by decide) (fun h => absurd h (by decide)) (fun _ => ?_)
  refine j_null C dX4_takeNewest_7 ?_
  exact ret dX4_takeNewest_8 (⟨rfl, rfl⟩)

set_option maxRecDepth 100000 in
set_option maxHeartbeats 4000000 in
theorem ctX4_takeNewestZ (l : Launch) (D : KD) (g o : Nat → Nat) (s : Nat) (hs : s < 4) (sl : Nat → Option Nat) (hsl : sl 0 = some (o 0)) : MO l D yX4_takeNewest wsX4_takeNewest 1 22 0 0 [.ref (g 0)] (wHi D g (nI (s + 1)) 0 sl) (fun r w1 => r = some (o 0) ∧ w1 = wHi D g (nI s) (nI 3) sl) := by
  refine MO.of (cc := cX4_takeNewest) (nL := 2) (lv0 := [(0, .ref (g 0))]) (by decide +kernel) rfl (Nat.le_of_ble_eq_true rfl) rfl ?_
  intro X hXl hin C ret
  subst hXl
  refine j_aload_n C 0 dX4_takeNewest_0 rfl rfl ?_
  refine j_get C 0 fgX4_takeNewest_9 rfl rfl dX4_takeNewest_1 ?_
  refine j_if_gt C dX4_takeNewest_4 (tgt := 9) (by decide) (fun _ => ?_) (fun h => absurd (nI_0lt (by omega) (by omega)) h)
  refine j_aload_n C 0 dX4_takeNewest_9 rfl rfl ?_
  refine j_get C 0 fgX4_takeNewest_20 rfl rfl dX4_takeNewest_10 ?_
  refine j_aload_n C 0 dX4_takeNewest_13 rfl rfl ?_
  refine j_get C 0 fgX4_takeNewest_15 rfl rfl dX4_takeNewest_14 ?_
  refine j_iconst C (v := (4 : Int32)) dX4_takeNewest_17 rfl ?_
  refine j_cs_i C (As := [.int (0 : Int32), .int (4 : Int32)]) (rest := [.ref (g 1)]) (ctJ9_floorMod_7cf53 (xl X) D 0 (by omega)) mfJ9_floorMod_7cf53 gX4_takeNewest_J9_floorMod_7cf53 rfl (Nat.le_of_ble_eq_true rfl) (Nat.le_of_ble_eq_true rfl) (Nat.le_of_ble_eq_true rfl) (Nat.le_of_ble_eq_true rfl) [] rfl rfl rfl (Nat.le_of_ble_eq_true rfl) dX4_takeNewest_18 ?_
  rintro _ _ ⟨rfl, rfl⟩
  refine ⟨Eq.trans (b := []) rfl rfl, ?_⟩
  refine j_w (w' := (wHi D g (nI (s + 1)) 0 sl)) rfl ?_
  refine j_aald C 1 rfl (i := 0 % 4) rfl (by omega) (by decide) dX4_takeNewest_21 ?_
  refine j_st (st' := [.ref (o 0)]) (by rw [hsl]; rfl) ?_
  refine j_astore_n C dX4_takeNewest_22 rfl (by decide) (lv' := [(1, .ref (o 0)), (0, .ref (g 0))]) rfl ?_
  refine j_aload_n C 1 dX4_takeNewest_23 rfl rfl ?_
  refine j_aload_n C 1 dX4_takeNewest_24 rfl rfl ?_
  refine j_get C 0 fgX4_takeNewest_15 rfl rfl dX4_takeNewest_25 ?_
  refine j_iconst C (v := (1 : Int32)) dX4_takeNewest_28 rfl ?_
  refine j_isub C dX4_takeNewest_29 ?_
  refine j_iconst C (v := (4 : Int32)) dX4_takeNewest_30 rfl ?_
  refine j_cs_i C (As := [.int ((0 : Int32) - (1 : Int32)), .int (4 : Int32)]) (rest := [.ref (g 0)]) (ctJ9_floorModM (xl X) D) mfJ9_floorMod_7cf53 gX4_takeNewest_J9_floorMod_7cf53 rfl (Nat.le_of_ble_eq_true rfl) (Nat.le_of_ble_eq_true rfl) (Nat.le_of_ble_eq_true rfl) (Nat.le_of_ble_eq_true rfl) [] rfl rfl rfl (Nat.le_of_ble_eq_true rfl) dX4_takeNewest_31 ?_
  rintro _ _ ⟨rfl, rfl⟩
  refine ⟨Eq.trans (b := []) rfl rfl, ?_⟩
  refine j_w (w' := (wHi D g (nI (s + 1)) 0 sl)) rfl ?_
  refine j_put C 0 foX4_takeNewest_15 rfl (w' := (wHi D g (nI (s + 1)) (nI 3) sl)) rfl rfl rfl (Nat.le_of_ble_eq_true rfl) dX4_takeNewest_34 ?_
  refine j_aload_n C 1 dX4_takeNewest_37 rfl rfl ?_
  refine j_dup C dX4_takeNewest_38 rfl ?_
  refine j_get C 0 fgX4_takeNewest_9 rfl rfl dX4_takeNewest_39 ?_
  refine j_iconst C (v := (1 : Int32)) dX4_takeNewest_42 rfl ?_
  refine j_isub C dX4_takeNewest_43 ?_
  refine j_eqi (y := nI s) (nI_pred _) ?_
  refine j_put C 0 foX4_takeNewest_9 rfl (w' := (wHi D g (nI s) (nI 3) sl)) rfl rfl rfl (Nat.le_of_ble_eq_true rfl) dX4_takeNewest_44 ?_
  refine j_aload_n C 0 dX4_takeNewest_47 rfl rfl ?_
  exact ret dX4_takeNewest_48 (⟨rfl, rfl⟩)

set_option maxRecDepth 100000 in
set_option maxHeartbeats 4000000 in
theorem ctX4_takeNewestP (l : Launch) (D : KD) (g o : Nat → Nat) (s nw : Nat) (hs : s < 4) (hnw : nw < 3) (sl : Nat → Option Nat) (hsl : sl (nw + 1) = some (o 0)) : MO l D yX4_takeNewest wsX4_takeNewest 1 22 0 0 [.ref (g 0)] (wHi D g (nI (s + 1)) (nI (nw + 1)) sl) (fun r w1 => r = some (o 0) ∧ w1 = wHi D g (nI s) (nI nw) sl) := by
  refine MO.of (cc := cX4_takeNewest) (nL := 2) (lv0 := [(0, .ref (g 0))]) (by decide +kernel) rfl (Nat.le_of_ble_eq_true rfl) rfl ?_
  intro X hXl hin C ret
  subst hXl
  refine j_aload_n C 0 dX4_takeNewest_0 rfl rfl ?_
  refine j_get C 0 fgX4_takeNewest_9 rfl rfl dX4_takeNewest_1 ?_
  refine j_if_gt C dX4_takeNewest_4 (tgt := 9) (by decide) (fun _ => ?_) (fun h => absurd (nI_0lt (by omega) (by omega)) h)
  refine j_aload_n C 0 dX4_takeNewest_9 rfl rfl ?_
  refine j_get C 0 fgX4_takeNewest_20 rfl rfl dX4_takeNewest_10 ?_
  refine j_aload_n C 0 dX4_takeNewest_13 rfl rfl ?_
  refine j_get C 0 fgX4_takeNewest_15 rfl rfl dX4_takeNewest_14 ?_
  refine j_iconst C (v := (4 : Int32)) dX4_takeNewest_17 rfl ?_
  refine j_cs_i C (As := [.int (nI (nw + 1)), .int (4 : Int32)]) (rest := [.ref (g 1)]) (ctJ9_floorMod_7cf53 (xl X) D (nw + 1) (by omega)) mfJ9_floorMod_7cf53 gX4_takeNewest_J9_floorMod_7cf53 rfl (Nat.le_of_ble_eq_true rfl) (Nat.le_of_ble_eq_true rfl) (Nat.le_of_ble_eq_true rfl) (Nat.le_of_ble_eq_true rfl) [] rfl rfl rfl (Nat.le_of_ble_eq_true rfl) dX4_takeNewest_18 ?_
  rintro _ _ ⟨rfl, rfl⟩
  refine ⟨Eq.trans (b := []) rfl rfl, ?_⟩
  refine j_w (w' := (wHi D g (nI (s + 1)) (nI (nw + 1)) sl)) rfl ?_
  refine j_aald C 1 rfl (i := (nw + 1) % 4) rfl (by omega) (by decide) dX4_takeNewest_21 ?_
  refine j_st (st' := [.ref (o 0)]) (by rw [Nat.mod_eq_of_lt (by omega), hsl]; rfl) ?_
  refine j_astore_n C dX4_takeNewest_22 rfl (by decide) (lv' := [(1, .ref (o 0)), (0, .ref (g 0))]) rfl ?_
  refine j_aload_n C 1 dX4_takeNewest_23 rfl rfl ?_
  refine j_aload_n C 1 dX4_takeNewest_24 rfl rfl ?_
  refine j_get C 0 fgX4_takeNewest_15 rfl rfl dX4_takeNewest_25 ?_
  refine j_iconst C (v := (1 : Int32)) dX4_takeNewest_28 rfl ?_
  refine j_isub C dX4_takeNewest_29 ?_
  refine j_eqi (y := nI nw) (nI_pred _) ?_
  refine j_iconst C (v := (4 : Int32)) dX4_takeNewest_30 rfl ?_
  refine j_cs_i C (As := [.int (nI nw), .int (4 : Int32)]) (rest := [.ref (g 0)]) (ctJ9_floorMod_7cf53 (xl X) D nw (by omega)) mfJ9_floorMod_7cf53 gX4_takeNewest_J9_floorMod_7cf53 rfl (Nat.le_of_ble_eq_true rfl) (Nat.le_of_ble_eq_true rfl) (Nat.le_of_ble_eq_true rfl) (Nat.le_of_ble_eq_true rfl) [] rfl rfl rfl (Nat.le_of_ble_eq_true rfl) dX4_takeNewest_31 ?_
  rintro _ _ ⟨rfl, rfl⟩
  refine ⟨Eq.trans (b := []) rfl rfl, ?_⟩
  refine j_w (w' := (wHi D g (nI (s + 1)) (nI (nw + 1)) sl)) rfl ?_
  refine j_eqi (y := nI nw) (by rw [Nat.mod_eq_of_lt (by omega)]) ?_
  refine j_put C 0 foX4_takeNewest_15 rfl (w' := (wHi D g (nI (s + 1)) (nI nw) sl)) rfl rfl rfl (Nat.le_of_ble_eq_true rfl) dX4_takeNewest_34 ?_
  refine j_aload_n C 1 dX4_takeNewest_37 rfl rfl ?_
  refine j_dup C dX4_takeNewest_38 rfl ?_
  refine j_get C 0 fgX4_takeNewest_9 rfl rfl dX4_takeNewest_39 ?_
  refine j_iconst C (v := (1 : Int32)) dX4_takeNewest_42 rfl ?_
  refine j_isub C dX4_takeNewest_43 ?_
  refine j_eqi (y := nI s) (nI_pred _) ?_
  refine j_put C 0 foX4_takeNewest_9 rfl (w' := (wHi D g (nI s) (nI nw) sl)) rfl rfl rfl (Nat.le_of_ble_eq_true rfl) dX4_takeNewest_44 ?_
  refine j_aload_n C 0 dX4_takeNewest_47 rfl rfl ?_
  exact ret dX4_takeNewest_48 (⟨rfl, rfl⟩)

set_option maxRecDepth 100000 in
set_option maxHeartbeats 4000000 in
theorem ctX5_startTrial (l : Launch) (D : KD) (x a a2 : Nat → Nat) (k2 k4 k5 k6 k7 : Nat) (we ce co sg cr : Int32) (Pp Kp Hp Lp Sp : Nat → Int32) (we2 ce2 co2 sg2 cr2 : Int32) (Pp2 Kp2 Hp2 Lp2 Sp2 : Nat → Int32) : MV l D yX5_startTrial wsX5_startTrial 1 22 0 0 [.ref (x 0)] (wKb D x (a 0) k2 (a2 0) k4 k5 k6 k7 ++ (wDo D a we ce co sg cr Pp Kp Hp Lp Sp ++ (wDo D a2 we2 ce2 co2 sg2 cr2 Pp2 Kp2 Hp2 Lp2 Sp2))) (fun w1 => w1 = (wKb D x (a 0) k2 (a2 0) k4 k5 k6 k7 ++ (wDo D a we ce co sg cr Pp Kp Hp Lp Sp ++ (wDo D a2 we ce co sg cr Pp Kp Hp Lp Sp)))) := by
  refine MV.of (cc := cX5_startTrial) (nL := 1) (lv0 := [(0, .ref (x 0))]) (by decide +kernel) rfl (Nat.le_of_ble_eq_true rfl) rfl ?_
  intro X hXl hin C ret
  subst hXl
  refine j_aload_n C 0 dX5_startTrial_0 rfl rfl ?_
  refine j_get C 0 fgX5_startTrial_23 rfl rfl dX5_startTrial_1 ?_
  refine j_aload_n C 0 dX5_startTrial_4 rfl rfl ?_
  refine j_get C 0 fgX5_startTrial_10 rfl rfl dX5_startTrial_5 ?_
  refine j_cv_v C (As := [.ref (a 0)]) (rest := []) (ctX1_copyFrom (xl X) D a2 a we2 ce2 co2 sg2 cr2 Pp2 Kp2 Hp2 Lp2 Sp2 we ce co sg cr Pp Kp Hp Lp Sp) mfX1_copyFrom gX5_startTrial_X1_copyFrom rfl (Nat.le_of_ble_eq_true rfl) (Nat.le_of_ble_eq_true rfl) (Nat.le_of_ble_eq_true rfl) (Nat.le_of_ble_eq_true rfl) [7, 8, 9, 10, 11, 12, 1, 2, 3, 4, 5, 6] rfl rfl 0 rfl rfl rfl rfl (Nat.le_of_ble_eq_true rfl) dX5_startTrial_8 ?_
  rintro _ rfl
  refine ⟨Eq.trans (b := [a2 0, a2 1, a2 2, a2 3, a2 4, a2 5, a 0, a 1, a 2, a 3, a 4, a 5]) rfl rfl, ?_⟩
  refine j_w (w' := (wKb D x (a 0) k2 (a2 0) k4 k5 k6 k7 ++ (wDo D a we ce co sg cr Pp Kp Hp Lp Sp ++ (wDo D a2 we ce co sg cr Pp Kp Hp Lp Sp)))) rfl ?_
  exact ret dX5_startTrial_11 (rfl)

set_option maxRecDepth 100000 in
set_option maxHeartbeats 4000000 in
theorem ctX5_keepTrial (l : Launch) (D : KD) (x a b a2 g : Nat → Nat) (k4 k6 k7 : Nat) (we ce co sg cr : Int32) (Pp Kp Hp Lp Sp : Nat → Int32) (sd rd be ov : Int32) (qa qb qd : Int64) (lo : Nat → Int32) (cu : Nat → Int64) (we2 ce2 co2 sg2 cr2 : Int32) (Pp2 Kp2 Hp2 Lp2 Sp2 : Nat → Int32) (m : Nat → Int32) (n : Nat) (hK2 : KR we2 ce2 co2 sg2 cr2 Pp2 Kp2 Hp2 Lp2 Sp2 m n) (s nw : Nat) (hs : s ≤ 4) (hnw : nw < 4) (k : Nat) (oa : Nat → Nat → Nat) (f : Nat → Dk) (hnk : nw ≤ k) : MV l D yX5_keepTrial wsX5_keepTrial 4 104 6 90 [.ref (x 0)] ((wKb D x (a 0) (b 0) (a2 0) k4 (g 0) k6 k7 ++ (wDo D a we ce co sg cr Pp Kp Hp Lp Sp ++ (wBa D b sd rd be ov qa qb qd lo cu ++ (wDo D a2 we2 ce2 co2 sg2 cr2 Pp2 Kp2 Hp2 Lp2 Sp2 ++ (wHi D g (nI s) (nI nw) (slF oa k)))))) ++ (wPl D oa f k)) (fun w1 => ∃ (cx : Nat → Int64) (oa1 : Nat → Nat → Nat), (∀ j, j < k → oa1 j = oa j) ∧ w1 = ((wKb D x (a 0) (b 0) (a2 0) k4 (g 0) k6 k7 ++ (wDo D a we2 ce2 co2 sg2 cr2 Pp2 Kp2 Hp2 Lp2 Sp2 ++ (wBa D b (bI (mR m n).1) (nI (mR m n).2.1) (mBe m n) (mOv m n) ((mR m n).2.2.2.1) ((mR m n).2.2.2.2.1) ((mR m n).2.2.2.2.2) (mLo m n) cx ++ (wDo D a2 we2 ce2 co2 sg2 cr2 Pp2 Kp2 Hp2 Lp2 Sp2 ++ (wHi D g (nI (min (s + 1) 4)) (nI ((nw + 1) % 4)) (slF oa1 (max k (nw + 1)))))))) ++ (wPl D oa1 (va_up f nw (we, ce, co, sg, cr, Pp, Kp, Hp, Lp, Sp)) (max k (nw + 1))))) := by
  refine MV.of (cc := cX5_keepTrial) (nL := 1) (lv0 := [(0, .ref (x 0))]) (by decide +kernel) rfl (Nat.le_of_ble_eq_true rfl) rfl ?_
  intro X hXl hin C ret
  subst hXl
  refine j_aload_n C 0 dX5_keepTrial_0 rfl rfl ?_
  refine j_get C 0 fgX5_keepTrial_32 rfl rfl dX5_keepTrial_1 ?_
  refine j_aload_n C 0 dX5_keepTrial_4 rfl rfl ?_
  refine j_get C 0 fgX5_keepTrial_10 rfl rfl dX5_keepTrial_5 ?_
  refine j_cv_v C (As := [.ref (a 0)]) (rest := []) (ctX4_save (xl X) D g a s nw (by first | assumption | omega | decide) (by first | assumption | omega | decide) we ce co sg cr Pp Kp Hp Lp Sp k oa f (by first | assumption | omega | decide)) mfX4_save gX5_keepTrial_X4_save rfl (Nat.le_of_ble_eq_true rfl) (Nat.le_of_ble_eq_true rfl) (Nat.le_of_ble_eq_true rfl) (Nat.le_of_ble_eq_true rfl) ([16, 17, 1, 2, 3, 4, 5, 6] ++ rng 18 ((wPl D oa f k)).length) (tl_hC (K := (wKb D x (a 0) (b 0) (a2 0) k4 (g 0) k6 k7 ++ (wDo D a we ce co sg cr Pp Kp Hp Lp Sp ++ (wBa D b sd rd be ov qa qb qd lo cu ++ (wDo D a2 we2 ce2 co2 sg2 cr2 Pp2 Kp2 Hp2 Lp2 Sp2 ++ (wHi D g (nI s) (nI nw) (slF oa k))))))) (wPl D oa f k) (is := [16, 17, 1, 2, 3, 4, 5, 6]) (Kc := (wHi D g (nI s) (nI nw) (slF oa k) ++ (wDo D a we ce co sg cr Pp Kp Hp Lp Sp))) rfl) (tl_nd (K := (wKb D x (a 0) (b 0) (a2 0) k4 (g 0) k6 k7 ++ (wDo D a we ce co sg cr Pp Kp Hp Lp Sp ++ (wBa D b sd rd be ov qa qb qd lo cu ++ (wDo D a2 we2 ce2 co2 sg2 cr2 Pp2 Kp2 Hp2 Lp2 Sp2 ++ (wHi D g (nI s) (nI nw) (slF oa k))))))) (is := [16, 17, 1, 2, 3, 4, 5, 6]) (Kc := (wHi D g (nI s) (nI nw) (slF oa k) ++ (wDo D a we ce co sg cr Pp Kp Hp Lp Sp))) _ rfl rfl) 0 rfl rfl rfl rfl (Nat.le_of_ble_eq_true rfl) dX5_keepTrial_8 ?_
  rintro _ ⟨oa_8, ho_8, rfl⟩
  refine ⟨tl_fst (Kc := (wHi D g (nI s) (nI nw) (slF oa k) ++ (wDo D a we ce co sg cr Pp Kp Hp Lp Sp))) (Kc' := (wHi D g (nI (min (s + 1) 4)) (nI ((nw + 1) % 4)) (slF oa_8 (max k (nw + 1))) ++ (wDo D a we ce co sg cr Pp Kp Hp Lp Sp))) (Eq.trans (b := [g 0, g 1, a 0, a 1, a 2, a 3, a 4, a 5]) rfl rfl) (wPl_tl (Nat.le_max_left _ _) ho_8), ?_⟩
  refine j_w (w' := ((wKb D x (a 0) (b 0) (a2 0) k4 (g 0) k6 k7 ++ (wDo D a we ce co sg cr Pp Kp Hp Lp Sp ++ (wBa D b sd rd be ov qa qb qd lo cu ++ (wDo D a2 we2 ce2 co2 sg2 cr2 Pp2 Kp2 Hp2 Lp2 Sp2 ++ (wHi D g (nI (min (s + 1) 4)) (nI ((nw + 1) % 4)) (slF oa_8 (max k (nw + 1)))))))) ++ (wPl D oa_8 (va_up f nw (we, ce, co, sg, cr, Pp, Kp, Hp, Lp, Sp)) (max k (nw + 1))))) ((tl_put (tl := (wPl D oa f k)) (tl' := (wPl D oa_8 (va_up f nw (we, ce, co, sg, cr, Pp, Kp, Hp, Lp, Sp)) (max k (nw + 1)))) (tl_le (wPl_tl (Nat.le_max_left _ _) ho_8)) [16, 17, 1, 2, 3, 4, 5, 6] (wKb D x (a 0) (b 0) (a2 0) k4 (g 0) k6 k7 ++ (wDo D a we ce co sg cr Pp Kp Hp Lp Sp ++ (wBa D b sd rd be ov qa qb qd lo cu ++ (wDo D a2 we2 ce2 co2 sg2 cr2 Pp2 Kp2 Hp2 Lp2 Sp2 ++ (wHi D g (nI s) (nI nw) (slF oa k)))))) (wHi D g (nI (min (s + 1) 4)) (nI ((nw + 1) % 4)) (slF oa_8 (max k (nw + 1))) ++ (wDo D a we ce co sg cr Pp Kp Hp Lp Sp)) rfl (is_lt (Kc := (wHi D g (nI s) (nI nw) (slF oa k) ++ (wDo D a we ce co sg cr Pp Kp Hp Lp Sp))) rfl)).trans (congrArg (fun z => z ++ (wPl D oa_8 (va_up f nw (we, ce, co, sg, cr, Pp, Kp, Hp, Lp, Sp)) (max k (nw + 1)))) (show kPut (wKb D x (a 0) (b 0) (a2 0) k4 (g 0) k6 k7 ++ (wDo D a we ce co sg cr Pp Kp Hp Lp Sp ++ (wBa D b sd rd be ov qa qb qd lo cu ++ (wDo D a2 we2 ce2 co2 sg2 cr2 Pp2 Kp2 Hp2 Lp2 Sp2 ++ (wHi D g (nI s) (nI nw) (slF oa k)))))) [16, 17, 1, 2, 3, 4, 5, 6] (wHi D g (nI (min (s + 1) 4)) (nI ((nw + 1) % 4)) (slF oa_8 (max k (nw + 1))) ++ (wDo D a we ce co sg cr Pp Kp Hp Lp Sp)) = (wKb D x (a 0) (b 0) (a2 0) k4 (g 0) k6 k7 ++ (wDo D a we ce co sg cr Pp Kp Hp Lp Sp ++ (wBa D b sd rd be ov qa qb qd lo cu ++ (wDo D a2 we2 ce2 co2 sg2 cr2 Pp2 Kp2 Hp2 Lp2 Sp2 ++ (wHi D g (nI (min (s + 1) 4)) (nI ((nw + 1) % 4)) (slF oa_8 (max k (nw + 1)))))))) from rfl))) ?_
  refine j_aload_n C 0 dX5_keepTrial_11 rfl rfl ?_
  refine j_get C 0 fgX5_keepTrial_10 rfl rfl dX5_keepTrial_12 ?_
  refine j_aload_n C 0 dX5_keepTrial_15 rfl rfl ?_
  refine j_get C 0 fgX5_keepTrial_23 rfl rfl dX5_keepTrial_16 ?_
  refine j_cv_v C (As := [.ref (a2 0)]) (rest := []) (ctX1_copyFrom (xl X) D a a2 we ce co sg cr Pp Kp Hp Lp Sp we2 ce2 co2 sg2 cr2 Pp2 Kp2 Hp2 Lp2 Sp2) mfX1_copyFrom gX5_keepTrial_X1_copyFrom rfl (Nat.le_of_ble_eq_true rfl) (Nat.le_of_ble_eq_true rfl) (Nat.le_of_ble_eq_true rfl) (Nat.le_of_ble_eq_true rfl) [1, 2, 3, 4, 5, 6, 10, 11, 12, 13, 14, 15] (tl_hC0 (K := (wKb D x (a 0) (b 0) (a2 0) k4 (g 0) k6 k7 ++ (wDo D a we ce co sg cr Pp Kp Hp Lp Sp ++ (wBa D b sd rd be ov qa qb qd lo cu ++ (wDo D a2 we2 ce2 co2 sg2 cr2 Pp2 Kp2 Hp2 Lp2 Sp2 ++ (wHi D g (nI (min (s + 1) 4)) (nI ((nw + 1) % 4)) (slF oa_8 (max k (nw + 1))))))))) (wPl D oa_8 (va_up f nw (we, ce, co, sg, cr, Pp, Kp, Hp, Lp, Sp)) (max k (nw + 1))) (is := [1, 2, 3, 4, 5, 6, 10, 11, 12, 13, 14, 15]) (Kc := (wDo D a we ce co sg cr Pp Kp Hp Lp Sp ++ (wDo D a2 we2 ce2 co2 sg2 cr2 Pp2 Kp2 Hp2 Lp2 Sp2))) rfl) rfl 0 rfl rfl rfl rfl (Nat.le_of_ble_eq_true rfl) dX5_keepTrial_19 ?_
  rintro _ rfl
  refine ⟨Eq.trans (b := [a 0, a 1, a 2, a 3, a 4, a 5, a2 0, a2 1, a2 2, a2 3, a2 4, a2 5]) rfl rfl, ?_⟩
  refine j_w (w' := ((wKb D x (a 0) (b 0) (a2 0) k4 (g 0) k6 k7 ++ (wDo D a we2 ce2 co2 sg2 cr2 Pp2 Kp2 Hp2 Lp2 Sp2 ++ (wBa D b sd rd be ov qa qb qd lo cu ++ (wDo D a2 we2 ce2 co2 sg2 cr2 Pp2 Kp2 Hp2 Lp2 Sp2 ++ (wHi D g (nI (min (s + 1) 4)) (nI ((nw + 1) % 4)) (slF oa_8 (max k (nw + 1)))))))) ++ (wPl D oa_8 (va_up f nw (we, ce, co, sg, cr, Pp, Kp, Hp, Lp, Sp)) (max k (nw + 1))))) ((tl_put0 (tl := (wPl D oa_8 (va_up f nw (we, ce, co, sg, cr, Pp, Kp, Hp, Lp, Sp)) (max k (nw + 1)))) [1, 2, 3, 4, 5, 6, 10, 11, 12, 13, 14, 15] (wKb D x (a 0) (b 0) (a2 0) k4 (g 0) k6 k7 ++ (wDo D a we ce co sg cr Pp Kp Hp Lp Sp ++ (wBa D b sd rd be ov qa qb qd lo cu ++ (wDo D a2 we2 ce2 co2 sg2 cr2 Pp2 Kp2 Hp2 Lp2 Sp2 ++ (wHi D g (nI (min (s + 1) 4)) (nI ((nw + 1) % 4)) (slF oa_8 (max k (nw + 1)))))))) (wDo D a we2 ce2 co2 sg2 cr2 Pp2 Kp2 Hp2 Lp2 Sp2 ++ (wDo D a2 we2 ce2 co2 sg2 cr2 Pp2 Kp2 Hp2 Lp2 Sp2)) rfl (is_lt (Kc := (wDo D a we ce co sg cr Pp Kp Hp Lp Sp ++ (wDo D a2 we2 ce2 co2 sg2 cr2 Pp2 Kp2 Hp2 Lp2 Sp2))) rfl)).trans (congrArg (fun z => z ++ (wPl D oa_8 (va_up f nw (we, ce, co, sg, cr, Pp, Kp, Hp, Lp, Sp)) (max k (nw + 1)))) (show kPut (wKb D x (a 0) (b 0) (a2 0) k4 (g 0) k6 k7 ++ (wDo D a we ce co sg cr Pp Kp Hp Lp Sp ++ (wBa D b sd rd be ov qa qb qd lo cu ++ (wDo D a2 we2 ce2 co2 sg2 cr2 Pp2 Kp2 Hp2 Lp2 Sp2 ++ (wHi D g (nI (min (s + 1) 4)) (nI ((nw + 1) % 4)) (slF oa_8 (max k (nw + 1)))))))) [1, 2, 3, 4, 5, 6, 10, 11, 12, 13, 14, 15] (wDo D a we2 ce2 co2 sg2 cr2 Pp2 Kp2 Hp2 Lp2 Sp2 ++ (wDo D a2 we2 ce2 co2 sg2 cr2 Pp2 Kp2 Hp2 Lp2 Sp2)) = (wKb D x (a 0) (b 0) (a2 0) k4 (g 0) k6 k7 ++ (wDo D a we2 ce2 co2 sg2 cr2 Pp2 Kp2 Hp2 Lp2 Sp2 ++ (wBa D b sd rd be ov qa qb qd lo cu ++ (wDo D a2 we2 ce2 co2 sg2 cr2 Pp2 Kp2 Hp2 Lp2 Sp2 ++ (wHi D g (nI (min (s + 1) 4)) (nI ((nw + 1) % 4)) (slF oa_8 (max k (nw + 1)))))))) from rfl))) ?_
  refine j_aload_n C 0 dX5_keepTrial_22 rfl rfl ?_
  refine j_get C 0 fgX5_keepTrial_19 rfl rfl dX5_keepTrial_23 ?_
  refine j_aload_n C 0 dX5_keepTrial_26 rfl rfl ?_
  refine j_get C 0 fgX5_keepTrial_10 rfl rfl dX5_keepTrial_27 ?_
  refine j_cv_v C (As := [.ref (a 0)]) (rest := []) (ctX0_findK (xl X) D b a sd rd be ov qa qb qd lo cu we2 ce2 co2 sg2 cr2 Pp2 Kp2 Hp2 Lp2 Sp2 m n hK2) mfX0_find gX5_keepTrial_X0_find rfl (Nat.le_of_ble_eq_true rfl) (Nat.le_of_ble_eq_true rfl) (Nat.le_of_ble_eq_true rfl) (Nat.le_of_ble_eq_true rfl) [7, 8, 9, 1, 2, 3, 4, 5, 6] (tl_hC0 (K := (wKb D x (a 0) (b 0) (a2 0) k4 (g 0) k6 k7 ++ (wDo D a we2 ce2 co2 sg2 cr2 Pp2 Kp2 Hp2 Lp2 Sp2 ++ (wBa D b sd rd be ov qa qb qd lo cu ++ (wDo D a2 we2 ce2 co2 sg2 cr2 Pp2 Kp2 Hp2 Lp2 Sp2 ++ (wHi D g (nI (min (s + 1) 4)) (nI ((nw + 1) % 4)) (slF oa_8 (max k (nw + 1))))))))) (wPl D oa_8 (va_up f nw (we, ce, co, sg, cr, Pp, Kp, Hp, Lp, Sp)) (max k (nw + 1))) (is := [7, 8, 9, 1, 2, 3, 4, 5, 6]) (Kc := (wBa D b sd rd be ov qa qb qd lo cu ++ (wDo D a we2 ce2 co2 sg2 cr2 Pp2 Kp2 Hp2 Lp2 Sp2))) rfl) rfl 0 rfl rfl rfl rfl (Nat.le_of_ble_eq_true rfl) dX5_keepTrial_30 ?_
  rintro _ ⟨cx_30, rfl⟩
  refine ⟨Eq.trans (b := [b 0, b 1, b 2, a 0, a 1, a 2, a 3, a 4, a 5]) rfl rfl, ?_⟩
  refine j_w (w' := ((wKb D x (a 0) (b 0) (a2 0) k4 (g 0) k6 k7 ++ (wDo D a we2 ce2 co2 sg2 cr2 Pp2 Kp2 Hp2 Lp2 Sp2 ++ (wBa D b (bI (mR m n).1) (nI (mR m n).2.1) (mBe m n) (mOv m n) ((mR m n).2.2.2.1) ((mR m n).2.2.2.2.1) ((mR m n).2.2.2.2.2) (mLo m n) cx_30 ++ (wDo D a2 we2 ce2 co2 sg2 cr2 Pp2 Kp2 Hp2 Lp2 Sp2 ++ (wHi D g (nI (min (s + 1) 4)) (nI ((nw + 1) % 4)) (slF oa_8 (max k (nw + 1)))))))) ++ (wPl D oa_8 (va_up f nw (we, ce, co, sg, cr, Pp, Kp, Hp, Lp, Sp)) (max k (nw + 1))))) ((tl_put0 (tl := (wPl D oa_8 (va_up f nw (we, ce, co, sg, cr, Pp, Kp, Hp, Lp, Sp)) (max k (nw + 1)))) [7, 8, 9, 1, 2, 3, 4, 5, 6] (wKb D x (a 0) (b 0) (a2 0) k4 (g 0) k6 k7 ++ (wDo D a we2 ce2 co2 sg2 cr2 Pp2 Kp2 Hp2 Lp2 Sp2 ++ (wBa D b sd rd be ov qa qb qd lo cu ++ (wDo D a2 we2 ce2 co2 sg2 cr2 Pp2 Kp2 Hp2 Lp2 Sp2 ++ (wHi D g (nI (min (s + 1) 4)) (nI ((nw + 1) % 4)) (slF oa_8 (max k (nw + 1)))))))) (wBa D b (bI (mR m n).1) (nI (mR m n).2.1) (mBe m n) (mOv m n) ((mR m n).2.2.2.1) ((mR m n).2.2.2.2.1) ((mR m n).2.2.2.2.2) (mLo m n) cx_30 ++ (wDo D a we2 ce2 co2 sg2 cr2 Pp2 Kp2 Hp2 Lp2 Sp2)) rfl (is_lt (Kc := (wBa D b sd rd be ov qa qb qd lo cu ++ (wDo D a we2 ce2 co2 sg2 cr2 Pp2 Kp2 Hp2 Lp2 Sp2))) rfl)).trans (congrArg (fun z => z ++ (wPl D oa_8 (va_up f nw (we, ce, co, sg, cr, Pp, Kp, Hp, Lp, Sp)) (max k (nw + 1)))) (show kPut (wKb D x (a 0) (b 0) (a2 0) k4 (g 0) k6 k7 ++ (wDo D a we2 ce2 co2 sg2 cr2 Pp2 Kp2 Hp2 Lp2 Sp2 ++ (wBa D b sd rd be ov qa qb qd lo cu ++ (wDo D a2 we2 ce2 co2 sg2 cr2 Pp2 Kp2 Hp2 Lp2 Sp2 ++ (wHi D g (nI (min (s + 1) 4)) (nI ((nw + 1) % 4)) (slF oa_8 (max k (nw + 1)))))))) [7, 8, 9, 1, 2, 3, 4, 5, 6] (wBa D b (bI (mR m n).1) (nI (mR m n).2.1) (mBe m n) (mOv m n) ((mR m n).2.2.2.1) ((mR m n).2.2.2.2.1) ((mR m n).2.2.2.2.2) (mLo m n) cx_30 ++ (wDo D a we2 ce2 co2 sg2 cr2 Pp2 Kp2 Hp2 Lp2 Sp2)) = (wKb D x (a 0) (b 0) (a2 0) k4 (g 0) k6 k7 ++ (wDo D a we2 ce2 co2 sg2 cr2 Pp2 Kp2 Hp2 Lp2 Sp2 ++ (wBa D b (bI (mR m n).1) (nI (mR m n).2.1) (mBe m n) (mOv m n) ((mR m n).2.2.2.1) ((mR m n).2.2.2.2.1) ((mR m n).2.2.2.2.2) (mLo m n) cx_30 ++ (wDo D a2 we2 ce2 co2 sg2 cr2 Pp2 Kp2 Hp2 Lp2 Sp2 ++ (wHi D g (nI (min (s + 1) 4)) (nI ((nw + 1) % 4)) (slF oa_8 (max k (nw + 1)))))))) from rfl))) ?_
  exact ret dX5_keepTrial_33 (⟨_, _, ho_8, rfl⟩)

