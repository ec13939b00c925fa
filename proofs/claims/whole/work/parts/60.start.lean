theorem inL_law_5 : ∀ w ∈ u_ws RX5 TX5 7, w ∈ wsL_law := by decide +kernel
theorem fnL_law_8 : FN wsL_law RL 8 5 7 [.null, .null, .null, .null, .null, .null, .null] := ⟨RX5, TX5, tyX5, rfl, inL_law_5, tyX5_ok, by decide +kernel, by decide +kernel, by decide +kernel, by decide +kernel⟩
theorem inL_law_6 : ∀ w ∈ u_ws RX6 TX6 19, w ∈ wsL_law := by decide +kernel
theorem fnL_law_60 : FN wsL_law RL 60 6 19 [.null, .null, .null, .int 0, .null, .int 0, .int 0, .int 0, .int 0, .int 0, .long 0, .long 0, .long 0, .null, .null, .int 0, .int 0, .int 0, .long 0] := ⟨RX6, TX6, tyX6, rfl, inL_law_6, tyX6_ok, by decide +kernel, by decide +kernel, by decide +kernel, by decide +kernel⟩
theorem mfX5_init : MF yX5_init wsX5_init cX5_init 1 none 0 := ⟨⟨_, rfl⟩, by decide +kernel, by decide +kernel, by decide +kernel⟩
theorem mL_law_methodLink_RL_59_yX5_init : (Cond.methodLink RL 59 yX5_init : Cond) ∈ wsL_law := by decide +kernel
theorem mL_law_instanceMethod_yX5_init : (Cond.instanceMethod yX5_init : Cond) ∈ wsL_law := by decide +kernel
theorem mL_law_initialized_RX5 : (Cond.initialized RX5 : Cond) ∈ wsL_law := by decide +kernel
theorem mfX6_init : MF yX6_init wsX6_init cX6_init 1 none 0 := ⟨⟨_, rfl⟩, by decide +kernel, by decide +kernel, by decide +kernel⟩
theorem mL_law_methodLink_RL_62_yX6_init : (Cond.methodLink RL 62 yX6_init : Cond) ∈ wsL_law := by decide +kernel
theorem mL_law_instanceMethod_yX6_init : (Cond.instanceMethod yX6_init : Cond) ∈ wsL_law := by decide +kernel
theorem mL_law_initialized_RX6 : (Cond.initialized RX6 : Cond) ∈ wsL_law := by decide +kernel
theorem mL_law_arrayClass_long : (Cond.arrayClass .long : Cond) ∈ wsL_law := by decide +kernel

theorem pm_begin {x : Nat × va_E} {K P M1 N : va_W} {c : Nat × va_E} {M : va_W} (hM : M1 = c :: M) : (kPut ([x] ++ (K ++ P)) [0] M1 ++ N).Perm ((K ++ (M1 ++ N)) ++ P) := by
  subst hM
  have h0 : kPut ([x] ++ (K ++ P)) [0] (c :: M) = (c :: (K ++ P)) ++ M := by
    unfold kPut
    unfold kPut
    rfl
  rw [h0]
  have h1 : (K ++ P) ++ (M ++ N) = K ++ (P ++ (M ++ N)) := List.append_assoc _ _ _
  have h2 : ((K ++ P) ++ (M ++ N)).Perm ((K ++ (M ++ N)) ++ P) := by
    rw [h1, List.append_assoc]
    exact List.Perm.append_left _ List.perm_append_comm
  have h3 : ((c :: (K ++ P)) ++ M ++ N) = c :: ((K ++ P) ++ (M ++ N)) := by
    rw [List.append_assoc, List.cons_append]
  have h4 : (K ++ ((c :: M) ++ N)) ++ P = K ++ (c :: ((M ++ N) ++ P)) := by
    rw [List.append_assoc, List.cons_append, List.cons_append]
  rw [h3, h4]
  refine (h2.cons c).trans ?_
  rw [List.append_assoc]
  exact List.perm_middle.symm

set_option maxRecDepth 100000 in
set_option maxHeartbeats 4000000 in
theorem law_begin {D : KD} {X : KX} (C : Cx D X cL_law RL wsL_law 10 352 601024 7293034 9) (hst : (xl X).stackTraces = false) (KX0 : kXs (xA X) (xs X)) {b0 L : Nat} {z : Nat → Int32} (S : kScr X b0 L z) (hexit : ∀ (w : va_W) (lv : List (Nat × Value)) (kk nn : Nat), kk ≤ 601024 → nn ≤ 7293034 → J D X w kk nn 1154 lv []) : J D X [] 0 0 0 [(0, .ref b0)] [] := by
  have hL : L ≤ 2560 := S.2.2.2
  refine j_new C fnL_law_8 (Nat.le_of_ble_eq_true rfl) (Nat.le_of_ble_eq_true rfl) dL_law_0 (fun q0 => ?_)
  refine j_w (w' := [(q0, .inr (5, [.null, .null, .null, .null, .null, .null, .null]))]) rfl ?_
  refine j_dup C dL_law_3 rfl ?_
  refine j_ci_v C (As := []) (rest := [.ref q0]) (ctX5_init (xl X) D q0) mfX5_init gL_law_X5_init rfl rfl mL_law_methodLink_RL_59_yX5_init mL_law_instanceMethod_yX5_init mL_law_initialized_RX5 (Nat.le_of_ble_eq_true rfl) (Nat.le_of_ble_eq_true rfl) (Nat.le_of_ble_eq_true rfl) (Nat.le_of_ble_eq_true rfl) [0] rfl rfl rfl (Nat.le_of_ble_eq_true rfl) dL_law_4 ?_
  rintro _ ⟨a, b, a2, b2, g, tt, rr, we, ce, co, sg, cr, Pp, Kp, Hp, Lp, Sp, cu, we2, ce2, co2, sg2, cr2, Pp2, Kp2, Hp2, Lp2, Sp2, sd2, rd2, be2, ov2, qa2, qb2, qd2, lo2, cu2, po, er, nw, k, oa, f, hK, hH, ht, hk, ho, rfl⟩
  refine ⟨Eq.trans (b := [q0]) rfl rfl, ?_⟩
  refine j_w (w' := ((wKb D (fun _ => q0) (a 0) (b 0) (a2 0) (b2 0) (g 0) (tt 0) (rr 0) ++ (wDo D a we ce co sg cr Pp Kp Hp Lp Sp ++ (wBa D b (bI (mR mIn 0).1) (nI (mR mIn 0).2.1) (mBe mIn 0) (mOv mIn 0) ((mR mIn 0).2.2.2.1) ((mR mIn 0).2.2.2.2.1) ((mR mIn 0).2.2.2.2.2) (mLo mIn 0) cu ++ (wDo D a2 we2 ce2 co2 sg2 cr2 Pp2 Kp2 Hp2 Lp2 Sp2 ++ (wBa D b2 sd2 rd2 be2 ov2 qa2 qb2 qd2 lo2 cu2 ++ (wHi D g (nI 0) (nI nw) (slF oa k) ++ (wTx D tt (nI 0) (fun _ => 0) ++ (wRd D rr (tt 0) po er)))))))) ++ (wPl D oa f k))) rfl ?_
  refine j_astore_n C dL_law_7 rfl (by decide) (lv' := [(1, .ref q0), (0, .ref b0)]) rfl ?_
  refine j_new C fnL_law_60 (Nat.le_of_ble_eq_true rfl) (Nat.le_of_ble_eq_true rfl) dL_law_8 (fun q8 => ?_)
  refine j_perm (w' := [(q8, .inr (6, [.null, .null, .null, .int 0, .null, .int 0, .int 0, .int 0, .int 0, .int 0, .long 0, .long 0, .long 0, .null, .null, .int 0, .int 0, .int 0, .long 0]))] ++ ((wKb D (fun _ => q0) (a 0) (b 0) (a2 0) (b2 0) (g 0) (tt 0) (rr 0) ++ (wDo D a we ce co sg cr Pp Kp Hp Lp Sp ++ (wBa D b (bI (mR mIn 0).1) (nI (mR mIn 0).2.1) (mBe mIn 0) (mOv mIn 0) ((mR mIn 0).2.2.2.1) ((mR mIn 0).2.2.2.2.1) ((mR mIn 0).2.2.2.2.2) (mLo mIn 0) cu ++ (wDo D a2 we2 ce2 co2 sg2 cr2 Pp2 Kp2 Hp2 Lp2 Sp2 ++ (wBa D b2 sd2 rd2 be2 ov2 qa2 qb2 qd2 lo2 cu2 ++ (wHi D g (nI 0) (nI nw) (slF oa k) ++ (wTx D tt (nI 0) (fun _ => 0) ++ (wRd D rr (tt 0) po er)))))))) ++ (wPl D oa f k))) List.perm_append_comm ?_
  refine j_dup C dL_law_11 rfl ?_
  refine j_ci_v C (As := []) (rest := [.ref q8]) (ctX6_init (xl X) D q8) mfX6_init gL_law_X6_init rfl rfl mL_law_methodLink_RL_62_yX6_init mL_law_instanceMethod_yX6_init mL_law_initialized_RX6 (Nat.le_of_ble_eq_true rfl) (Nat.le_of_ble_eq_true rfl) (Nat.le_of_ble_eq_true rfl) (Nat.le_of_ble_eq_true rfl) [0] rfl rfl rfl (Nat.le_of_ble_eq_true rfl) dL_law_12 ?_
  rintro _ ⟨h, hh0, sp, se, ro, st, qa, qb, qd, lo, re, crm, ap, nu, ha, rfl⟩
  subst hh0
  refine ⟨Eq.trans (b := [h 0]) rfl rfl, ?_⟩
  refine j_astore_n C dL_law_15 rfl (by decide) (lv' := [(2, .ref (h 0)), (1, .ref q0), (0, .ref b0)]) rfl ?_
  refine j_iconst C (v := (1 : Int32)) dL_law_16 rfl ?_
  refine j_newl C (N := 1) mL_law_arrayClass_long rfl (by decide) (Nat.le_of_ble_eq_true rfl) (Nat.le_of_ble_eq_true rfl) dL_law_17 (fun q17 => ?_)
  refine j_perm (w' := ((wKb D (fun _ => q0) (a 0) (b 0) (a2 0) (b2 0) (g 0) (tt 0) (rr 0) ++ (wDo D a we ce co sg cr Pp Kp Hp Lp Sp ++ (wBa D b (bI (mR mIn 0).1) (nI (mR mIn 0).2.1) (mBe mIn 0) (mOv mIn 0) ((mR mIn 0).2.2.2.1) ((mR mIn 0).2.2.2.2.1) ((mR mIn 0).2.2.2.2.2) (mLo mIn 0) cu ++ (wDo D a2 we2 ce2 co2 sg2 cr2 Pp2 Kp2 Hp2 Lp2 Sp2 ++ (wBa D b2 sd2 rd2 be2 ov2 qa2 qb2 qd2 lo2 cu2 ++ (wHi D g (nI 0) (nI nw) (slF oa k) ++ (wTx D tt (nI 0) (fun _ => 0) ++ (wRd D rr (tt 0) po er)))))))) ++ (wMo D h mIn sp (fun _ => 0) 0 (fun _ => 0) 0 0 se ro st qa qb qd lo re crm ap nu ha ++ wOu D (fun _ => q17) (fun _ => 0))) ++ (wPl D oa f k)) (pm_begin rfl) ?_
  refine j_astore_n C dL_law_19 rfl (by decide) (lv' := [(3, .ref q17), (2, .ref (h 0)), (1, .ref q0), (0, .ref b0)]) rfl ?_
  refine j_iconst C (v := (0 : Int32)) dL_law_20 rfl ?_
  refine j_istore C dL_law_21 (by decide) (lv' := [(4, .int (0 : Int32)), (3, .ref q17), (2, .ref (h 0)), (1, .ref q0), (0, .ref b0)]) rfl ?_
  refine j_w (w' := ((wKb D (fun _ => q0) (a 0) (b 0) (a2 0) (b2 0) (g 0) (tt 0) (rr 0) ++ (wDo D a we ce co sg cr Pp Kp Hp Lp Sp ++ (wBa D b (bI (mR mIn 0).1) (nI (mR mIn 0).2.1) (mBe mIn 0) (mOv mIn 0) ((mR mIn 0).2.2.2.1) ((mR mIn 0).2.2.2.2.1) ((mR mIn 0).2.2.2.2.2) (mLo mIn 0) cu ++ (wDo D a2 we2 ce2 co2 sg2 cr2 Pp2 Kp2 Hp2 Lp2 Sp2 ++ (wBa D b2 sd2 rd2 be2 ov2 qa2 qb2 qd2 lo2 cu2 ++ (wHi D g (nI 0) (nI nw) (slF oa k) ++ (wTx D tt (nI 0) (fun _ => 0) ++ (wRd D rr (tt 0) po er ++ (wMo D h mIn sp (fun _ => 0) (nI 0) (fun _ => 0) (nI 0) 0 se ro st qa qb qd lo re crm ap nu ha ++ (wOu D (fun _ => q17) (fun _ => 0))))))))))) ++ (wPl D oa f k))) (by simp only [List.append_assoc]; rfl) ?_
  refine j_lvq (lv' := [(4, .int (nI (5 * 0))), (3, .ref ((fun _ => q17) 0)), (2, .ref (h 0)), (1, .ref ((fun _ => q0) 0)), (0, .ref b0)]) rfl ?_
  exact law_loop C hst KX0 S 32 1247 (by decide) (by decide) (fun _ _ _ _ _ _ _ _ _ _ _ _ _ _ _ _ _ _ _ _ _ _ _ _ _ _ _ _ _ _ _ _ _ _ _ _ _ _ _ _ _ _ _ _ _ _ _ _ _ _ _ _ _ _ _ _ _ kk nn i h1 h2 => hexit _ _ kk nn h1 h2) (L + 1) 0 _ _ _ _ _ _ _ _ _ _ _ _ _ _ _ _ _ _ _ _ _ _ _ _ _ _ _ _ _ _ _ _ mIn (fun _ => 0) (fun _ => 0) 0 0 0 _ _ _ _ _ 0 _ _ _ _ _ _ _ _ _ _ _ _ (fun _ => 0) _ _ (by omega) (by omega) (by decide) (by decide) hK hH ht
