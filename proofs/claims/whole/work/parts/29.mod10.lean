set_option maxRecDepth 100000 in
set_option maxHeartbeats 4000000 in
theorem ctX6_readBlockF (l : Launch) (D : KD) (h : Nat → Nat) (m sp sv : Nat → Int32) (sc : Int32) (tx : Nat → Int32) (cd se ro st : Int32) (qa qb qd : Int64) (lo : Nat → Int32) (re : Nat → Int64) (cr nu : Int32) (ha : Int64) (t : Nat) (ht : t ≤ 160) (p : Nat) (hp : p ≤ t) (h16 : m 2 = 16) : MI l D yX6_readBlock wsX6_readBlock 0 0 0 0 [.ref (h 0)] (wMo D h m sp sv sc tx (nI t) cd se ro st qa qb qd lo re cr (nI p) nu ha) (fun r w1 => r = bI false ∧ w1 = wMo D h m sp sv sc tx (nI t) cd se ro st qa qb qd lo re cr (nI p) nu ha) := by
  refine MI.ofz (cc := cX6_readBlock) (nL := 4) (lv0 := [(0, .ref (h 0))]) (by decide +kernel) rfl (Nat.le_of_ble_eq_true rfl) rfl ?_
  intro X hXl hin C ret
  subst hXl
  refine j_aload_n C 0 dX6_readBlock_0 rfl rfl ?_
  refine j_get C 0 fgX6_readBlock_7 rfl rfl dX6_readBlock_1 ?_
  refine j_iconst C (v := (2 : Int32)) dX6_readBlock_4 rfl ?_
  refine j_iald C 1 rfl (i := 2) rfl (by decide) (by decide) dX6_readBlock_5 ?_
  refine j_eqi (y := (16 : Int32)) h16 ?_
  refine j_bipush C (v := (16 : Int32)) dX6_readBlock_6 rfl ?_
  refine j_icmp_eq C dX6_readBlock_8 (tgt := 34) (by decide) (fun _ => ?_) (fun h => absurd (by decide) h)
  refine j_iconst C (v := (0 : Int32)) dX6_readBlock_34 rfl ?_
  exact ret dX6_readBlock_35 (Or.inl rfl) (⟨rfl, rfl⟩)

set_option maxRecDepth 100000 in
set_option maxHeartbeats 4000000 in
theorem ctX6_readBlock (l : Launch) (D : KD) (h : Nat → Nat) (m sp sv : Nat → Int32) (sc : Int32) (tx : Nat → Int32) (cd se ro st : Int32) (qa qb qd : Int64) (lo : Nat → Int32) (re : Nat → Int64) (cr nu : Int32) (ha : Int64) (t : Nat) (ht : t ≤ 160) (p : Nat) (hp : p ≤ t) (n : Nat) (hn : n < 16) (hc : m 2 = nI n) : MI l D yX6_readBlock wsX6_readBlock 3 68 0 0 [.ref (h 0)] (wMo D h m sp sv sc tx (nI t) cd se ro st qa qb qd lo re cr (nI p) nu ha) (fun r w1 => ∃ nu1 : Int32, r = bI (rBo tx t p) ∧ w1 = wMo D h (if rBo tx t p = true then rBm tx t p m n else m) sp sv sc tx (nI t) cd se ro st qa qb qd lo re cr (nI (rBp tx t p)) nu1 ha) := by
  refine MI.ofz (cc := cX6_readBlock) (nL := 4) (lv0 := [(0, .ref (h 0))]) (by decide +kernel) rfl (Nat.le_of_ble_eq_true rfl) rfl ?_
  intro X hXl hin C ret
  subst hXl
  refine j_aload_n C 0 dX6_readBlock_0 rfl rfl ?_
  refine j_get C 0 fgX6_readBlock_7 rfl rfl dX6_readBlock_1 ?_
  refine j_iconst C (v := (2 : Int32)) dX6_readBlock_4 rfl ?_
  refine j_iald C 1 rfl (i := 2) rfl (by decide) (by decide) dX6_readBlock_5 ?_
  refine j_bipush C (v := (16 : Int32)) dX6_readBlock_6 rfl ?_
  refine j_icmp_eq C dX6_readBlock_8 (tgt := 34) (by decide) (fun h => absurd h (fun z => by rw [hc] at z; have := (nI_eq (b := 16) (by omega) (by decide)).mp z; omega)) (fun _ => ?_)
  refine j_aload_n C 0 dX6_readBlock_11 rfl rfl ?_
  refine j_bipush C (v := (98 : Int32)) dX6_readBlock_12 rfl ?_
  refine j_cv_i C (As := [.int (98 : Int32)]) (rest := []) (ctX6_takes (xl X) D h m sp sv sc tx cd se ro st qa qb qd lo re cr nu ha t (by first | assumption | omega | decide) p (by first | assumption | omega | decide) (98 : Int32)) mfX6_takes gX6_readBlock_X6_takes rfl (Nat.le_of_ble_eq_true rfl) (Nat.le_of_ble_eq_true rfl) (Nat.le_of_ble_eq_true rfl) (Nat.le_of_ble_eq_true rfl) [0, 1, 2, 3, 4, 5, 6] rfl rfl 0 rfl rfl rfl rfl (Nat.le_of_ble_eq_true rfl) dX6_readBlock_14 ?_
  rintro _ _ ⟨rfl, rfl⟩
  refine ⟨Eq.trans (b := [h 0, h 1, h 2, h 3, h 4, h 5, h 6]) rfl rfl, ?_⟩
  refine j_w (w' := (wMo D h m sp sv sc tx (nI t) cd se ro st qa qb qd lo re cr (nI (if rh tx t p = (98 : Int32) then p + 1 else p)) nu ha)) rfl ?_
  refine j_bif_eq C dX6_readBlock_17 (tgt := 34) (by decide) (fun h17 => ?_) (fun h17 => ?_)
  · have hk := of_decide_eq_false h17
    rw [if_neg hk]
    refine j_iconst C (v := (0 : Int32)) dX6_readBlock_34 rfl ?_
    exact ret dX6_readBlock_35 (Or.inl rfl) (⟨_, by rw [(rB_0 hk).1]; rfl, by rw [(rB_0 hk).1, (rB_0 hk).2, if_neg (by decide)]⟩)
  · have hk := of_decide_eq_true h17
    have hpt : p < t := rh_lt hk (by decide)
    rw [if_pos hk]
    refine j_aload_n C 0 dX6_readBlock_20 rfl rfl ?_
    refine j_iconst C (v := (3 : Int32)) dX6_readBlock_21 rfl ?_
    refine j_iconst C (v := (0 : Int32)) dX6_readBlock_22 rfl ?_
    refine j_sipush C (v := (400 : Int32)) dX6_readBlock_23 rfl ?_
    refine j_bipush C (v := (44 : Int32)) dX6_readBlock_26 rfl ?_
    refine j_cv_i C (As := [.int (3 : Int32), .int (0 : Int32), .int (400 : Int32), .int (44 : Int32)]) (rest := []) (ctX6_readNumber (xl X) D h m sp sv sc tx cd se ro st qa qb qd lo re cr nu ha t (by first | assumption | omega | decide) (p + 1) (by omega) 3 (by first | assumption | omega | decide) (0 : Int32) (400 : Int32) (44 : Int32)) mfX6_readNumber gX6_readBlock_X6_readNumber rfl (Nat.le_of_ble_eq_true rfl) (Nat.le_of_ble_eq_true rfl) (Nat.le_of_ble_eq_true rfl) (Nat.le_of_ble_eq_true rfl) [0, 1, 2, 3, 4, 5, 6] rfl rfl 0 rfl rfl rfl rfl (Nat.le_of_ble_eq_true rfl) dX6_readBlock_28 ?_
    rintro _ _ ⟨rfl, rfl⟩
    refine ⟨Eq.trans (b := [h 0, h 1, h 2, h 3, h 4, h 5, h 6]) rfl rfl, ?_⟩
    refine j_w (w' := (wMo D h m sp sv sc tx (nI t) cd se ro st qa qb qd lo re cr (nI (rN tx t (p + 1) 3 (0 : Int32) (400 : Int32) (44 : Int32)).2.2) ((rN tx t (p + 1) 3 (0 : Int32) (400 : Int32) (44 : Int32)).2.1) ha)) rfl ?_
    show J D X (wMo D h m sp sv sc tx (nI t) cd se ro st qa qb qd lo re cr (nI (rA1 tx t p).2.2) ((rA1 tx t p).2.1) ha) 0 0 31 [(0, .ref (h 0))] [.int (bI (rA1 tx t p).1)]
    refine j_bif_ne C dX6_readBlock_31 (tgt := 36) (by decide) (fun h31 => ?_) (fun h31 => ?_)
    · refine j_aload_n C 0 dX6_readBlock_36 rfl rfl ?_
      refine j_get C 0 fgX6_readBlock_187 rfl rfl dX6_readBlock_37 ?_
      refine j_istore_n C dX6_readBlock_40 rfl (by decide) (lv' := [(1, .int ((rA1 tx t p).2.1)), (0, .ref (h 0))]) rfl ?_
      refine j_aload_n C 1 dX6_readBlock_41 rfl rfl ?_
      refine j_iconst C (v := (3 : Int32)) dX6_readBlock_42 rfl ?_
      refine j_iconst C (v := (1 : Int32)) dX6_readBlock_43 rfl ?_
      refine j_bipush C (v := (100 : Int32)) dX6_readBlock_44 rfl ?_
      refine j_bipush C (v := (44 : Int32)) dX6_readBlock_46 rfl ?_
      refine j_cv_i C (As := [.int (3 : Int32), .int (1 : Int32), .int (100 : Int32), .int (44 : Int32)]) (rest := []) (ctX6_readNumber (xl X) D h m sp sv sc tx cd se ro st qa qb qd lo re cr ((rA1 tx t p).2.1) ha t (by first | assumption | omega | decide) ((rA1 tx t p).2.2) (rA_le hpt).1 3 (by first | assumption | omega | decide) (1 : Int32) (100 : Int32) (44 : Int32)) mfX6_readNumber gX6_readBlock_X6_readNumber rfl (Nat.le_of_ble_eq_true rfl) (Nat.le_of_ble_eq_true rfl) (Nat.le_of_ble_eq_true rfl) (Nat.le_of_ble_eq_true rfl) [0, 1, 2, 3, 4, 5, 6] rfl rfl 0 rfl rfl rfl rfl (Nat.le_of_ble_eq_true rfl) dX6_readBlock_48 ?_
      rintro _ _ ⟨rfl, rfl⟩
      refine ⟨Eq.trans (b := [h 0, h 1, h 2, h 3, h 4, h 5, h 6]) rfl rfl, ?_⟩
      refine j_w (w' := (wMo D h m sp sv sc tx (nI t) cd se ro st qa qb qd lo re cr (nI (rN tx t ((rA1 tx t p).2.2) 3 (1 : Int32) (100 : Int32) (44 : Int32)).2.2) ((rN tx t ((rA1 tx t p).2.2) 3 (1 : Int32) (100 : Int32) (44 : Int32)).2.1) ha)) rfl ?_
      show J D X (wMo D h m sp sv sc tx (nI t) cd se ro st qa qb qd lo re cr (nI (rA2 tx t p).2.2) ((rA2 tx t p).2.1) ha) 0 0 51 [(1, .int ((rA1 tx t p).2.1)), (0, .ref (h 0))] [.int (bI (rA2 tx t p).1)]
      refine j_bif_ne C dX6_readBlock_51 (tgt := 56) (by decide) (fun h51 => ?_) (fun h51 => ?_)
      · refine j_aload_n C 1 dX6_readBlock_56 rfl rfl ?_
        refine j_get C 0 fgX6_readBlock_187 rfl rfl dX6_readBlock_57 ?_
        refine j_istore_n C dX6_readBlock_60 rfl (by decide) (lv' := [(2, .int ((rA2 tx t p).2.1)), (1, .int ((rA1 tx t p).2.1)), (0, .ref (h 0))]) rfl ?_
        refine j_aload_n C 2 dX6_readBlock_61 rfl rfl ?_
        refine j_iconst C (v := (2 : Int32)) dX6_readBlock_62 rfl ?_
        refine j_bipush C (v := (-50 : Int32)) dX6_readBlock_63 rfl ?_
        refine j_bipush C (v := (50 : Int32)) dX6_readBlock_65 rfl ?_
        refine j_bipush C (v := (44 : Int32)) dX6_readBlock_67 rfl ?_
        refine j_cv_i C (As := [.int (2 : Int32), .int (-50 : Int32), .int (50 : Int32), .int (44 : Int32)]) (rest := []) (ctX6_readNumber (xl X) D h m sp sv sc tx cd se ro st qa qb qd lo re cr ((rA2 tx t p).2.1) ha t (by first | assumption | omega | decide) ((rA2 tx t p).2.2) (rA_le hpt).2.1 2 (by first | assumption | omega | decide) (-50 : Int32) (50 : Int32) (44 : Int32)) mfX6_readNumber gX6_readBlock_X6_readNumber rfl (Nat.le_of_ble_eq_true rfl) (Nat.le_of_ble_eq_true rfl) (Nat.le_of_ble_eq_true rfl) (Nat.le_of_ble_eq_true rfl) [0, 1, 2, 3, 4, 5, 6] rfl rfl 0 rfl rfl rfl rfl (Nat.le_of_ble_eq_true rfl) dX6_readBlock_69 ?_
        rintro _ _ ⟨rfl, rfl⟩
        refine ⟨Eq.trans (b := [h 0, h 1, h 2, h 3, h 4, h 5, h 6]) rfl rfl, ?_⟩
        refine j_w (w' := (wMo D h m sp sv sc tx (nI t) cd se ro st qa qb qd lo re cr (nI (rN tx t ((rA2 tx t p).2.2) 2 (-50 : Int32) (50 : Int32) (44 : Int32)).2.2) ((rN tx t ((rA2 tx t p).2.2) 2 (-50 : Int32) (50 : Int32) (44 : Int32)).2.1) ha)) rfl ?_
        show J D X (wMo D h m sp sv sc tx (nI t) cd se ro st qa qb qd lo re cr (nI (rA3 tx t p).2.2) ((rA3 tx t p).2.1) ha) 0 0 72 [(2, .int ((rA2 tx t p).2.1)), (1, .int ((rA1 tx t p).2.1)), (0, .ref (h 0))] [.int (bI (rA3 tx t p).1)]
        refine j_bif_ne C dX6_readBlock_72 (tgt := 77) (by decide) (fun h72 => ?_) (fun h72 => ?_)
        · refine j_aload_n C 2 dX6_readBlock_77 rfl rfl ?_
          refine j_get C 0 fgX6_readBlock_187 rfl rfl dX6_readBlock_78 ?_
          refine j_istore_n C dX6_readBlock_81 rfl (by decide) (lv' := [(3, .int ((rA3 tx t p).2.1)), (2, .int ((rA2 tx t p).2.1)), (1, .int ((rA1 tx t p).2.1)), (0, .ref (h 0))]) rfl ?_
          refine j_aload_n C 3 dX6_readBlock_82 rfl rfl ?_
          refine j_iconst C (v := (5 : Int32)) dX6_readBlock_83 rfl ?_
          refine j_iconst C (v := (1 : Int32)) dX6_readBlock_84 rfl ?_
          refine j_ldc C kX6_readBlock_106 dX6_readBlock_85 ?_
          refine j_bipush C (v := (59 : Int32)) dX6_readBlock_87 rfl ?_
          refine j_cv_i C (As := [.int (5 : Int32), .int (1 : Int32), .int (99999 : Int32), .int (59 : Int32)]) (rest := []) (ctX6_readNumber (xl X) D h m sp sv sc tx cd se ro st qa qb qd lo re cr ((rA3 tx t p).2.1) ha t (by first | assumption | omega | decide) ((rA3 tx t p).2.2) (rA_le hpt).2.2.1 5 (by first | assumption | omega | decide) (1 : Int32) (99999 : Int32) (59 : Int32)) mfX6_readNumber gX6_readBlock_X6_readNumber rfl (Nat.le_of_ble_eq_true rfl) (Nat.le_of_ble_eq_true rfl) (Nat.le_of_ble_eq_true rfl) (Nat.le_of_ble_eq_true rfl) [0, 1, 2, 3, 4, 5, 6] rfl rfl 0 rfl rfl rfl rfl (Nat.le_of_ble_eq_true rfl) dX6_readBlock_89 ?_
          rintro _ _ ⟨rfl, rfl⟩
          refine ⟨Eq.trans (b := [h 0, h 1, h 2, h 3, h 4, h 5, h 6]) rfl rfl, ?_⟩
          refine j_w (w' := (wMo D h m sp sv sc tx (nI t) cd se ro st qa qb qd lo re cr (nI (rN tx t ((rA3 tx t p).2.2) 5 (1 : Int32) (99999 : Int32) (59 : Int32)).2.2) ((rN tx t ((rA3 tx t p).2.2) 5 (1 : Int32) (99999 : Int32) (59 : Int32)).2.1) ha)) rfl ?_
          show J D X (wMo D h m sp sv sc tx (nI t) cd se ro st qa qb qd lo re cr (nI (rA4 tx t p).2.2) ((rA4 tx t p).2.1) ha) 0 0 92 [(3, .int ((rA3 tx t p).2.1)), (2, .int ((rA2 tx t p).2.1)), (1, .int ((rA1 tx t p).2.1)), (0, .ref (h 0))] [.int (bI (rA4 tx t p).1)]
          refine j_bif_ne C dX6_readBlock_92 (tgt := 97) (by decide) (fun h92 => ?_) (fun h92 => ?_)
          · refine j_aload_n C 3 dX6_readBlock_97 rfl rfl ?_
            refine j_iload_n C 2 dX6_readBlock_98 rfl rfl ?_
            refine j_iload_n C 1 dX6_readBlock_99 rfl rfl ?_
            refine j_iload_n C 0 dX6_readBlock_100 rfl rfl ?_
            refine j_aload_n C 3 dX6_readBlock_101 rfl rfl ?_
            refine j_get C 0 fgX6_readBlock_187 rfl rfl dX6_readBlock_102 ?_
            refine j_cv_v C (As := [.int ((rA1 tx t p).2.1), .int ((rA2 tx t p).2.1), .int ((rA3 tx t p).2.1), .int ((rA4 tx t p).2.1)]) (rest := []) (ctX6_build (xl X) D h m sp sv sc tx (nI t) cd se ro st qa qb qd lo re cr (nI (rA4 tx t p).2.2) ((rA4 tx t p).2.1) ha n (by first | assumption | omega | decide) (by first | assumption | omega | decide) ((rA1 tx t p).2.1) ((rA2 tx t p).2.1) ((rA3 tx t p).2.1) ((rA4 tx t p).2.1)) mfX6_build gX6_readBlock_X6_build rfl (Nat.le_of_ble_eq_true rfl) (Nat.le_of_ble_eq_true rfl) (Nat.le_of_ble_eq_true rfl) (Nat.le_of_ble_eq_true rfl) [0, 1, 2, 3, 4, 5, 6] rfl rfl 0 rfl rfl rfl rfl (Nat.le_of_ble_eq_true rfl) dX6_readBlock_105 ?_
            rintro _ rfl
            refine ⟨Eq.trans (b := [h 0, h 1, h 2, h 3, h 4, h 5, h 6]) rfl rfl, ?_⟩
            refine j_w (w' := (wMo D h (mBu m n ((rA1 tx t p).2.1) ((rA2 tx t p).2.1) ((rA3 tx t p).2.1) ((rA4 tx t p).2.1)) sp sv sc tx (nI t) cd se ro st qa qb qd lo re cr (nI (rA4 tx t p).2.2) ((rA4 tx t p).2.1) ha)) rfl ?_
            refine j_iconst C (v := (1 : Int32)) dX6_readBlock_108 rfl ?_
            exact ret dX6_readBlock_109 (Or.inr rfl) (⟨_, by rw [(rB_5 hk h31 h51 h72 h92).1]; rfl, by rw [(rB_5 hk h31 h51 h72 h92).1, (rB_5 hk h31 h51 h72 h92).2, if_pos rfl]; rfl⟩)
          · refine j_iconst C (v := (0 : Int32)) dX6_readBlock_95 rfl ?_
            exact ret dX6_readBlock_96 (Or.inl rfl) (⟨_, by rw [(rB_4 hk h31 h51 h72 h92).1]; rfl, by rw [(rB_4 hk h31 h51 h72 h92).1, (rB_4 hk h31 h51 h72 h92).2, if_neg (by decide)]⟩)
        · refine j_iconst C (v := (0 : Int32)) dX6_readBlock_75 rfl ?_
          exact ret dX6_readBlock_76 (Or.inl rfl) (⟨_, by rw [(rB_3 hk h31 h51 h72).1]; rfl, by rw [(rB_3 hk h31 h51 h72).1, (rB_3 hk h31 h51 h72).2, if_neg (by decide)]⟩)
      · refine j_iconst C (v := (0 : Int32)) dX6_readBlock_54 rfl ?_
        exact ret dX6_readBlock_55 (Or.inl rfl) (⟨_, by rw [(rB_2 hk h31 h51).1]; rfl, by rw [(rB_2 hk h31 h51).1, (rB_2 hk h31 h51).2, if_neg (by decide)]⟩)
    · refine j_iconst C (v := (0 : Int32)) dX6_readBlock_34 rfl ?_
      exact ret dX6_readBlock_35 (Or.inl rfl) (⟨_, by rw [(rB_1 hk h31).1]; rfl, by rw [(rB_1 hk h31).1, (rB_1 hk h31).2, if_neg (by decide)]⟩)

set_option maxRecDepth 100000 in
set_option maxHeartbeats 4000000 in
theorem ctX6_readShip (l : Launch) (D : KD) (h : Nat → Nat) (m sp sv : Nat → Int32) (sc : Int32) (tx : Nat → Int32) (cd se ro st : Int32) (qa qb qd : Int64) (lo : Nat → Int32) (re : Nat → Int64) (cr nu : Int32) (ha : Int64) (t : Nat) (ht : t ≤ 160) (p : Nat) (hp : p ≤ t) : MI l D yX6_readShip wsX6_readShip 3 68 0 0 [.ref (h 0)] (wMo D h m sp sv sc tx (nI t) cd se ro st qa qb qd lo re cr (nI p) nu ha) (fun r w1 => ∃ nu1 : Int32, r = bI (rSo tx t p) ∧ w1 = wMo D h (if rSo tx t p = true then rSm tx t p m else m) sp sv sc tx (nI t) cd se ro st qa qb qd lo re cr (nI (rSp tx t p)) nu1 ha) := by
  refine MI.ofz (cc := cX6_readShip) (nL := 2) (lv0 := [(0, .ref (h 0))]) (by decide +kernel) rfl (Nat.le_of_ble_eq_true rfl) rfl ?_
  intro X hXl hin C ret
  subst hXl
  refine j_aload_n C 0 dX6_readShip_0 rfl rfl ?_
  refine j_bipush C (v := (115 : Int32)) dX6_readShip_1 rfl ?_
  refine j_cv_i C (As := [.int (115 : Int32)]) (rest := []) (ctX6_takes (xl X) D h m sp sv sc tx cd se ro st qa qb qd lo re cr nu ha t (by first | assumption | omega | decide) p (by first | assumption | omega | decide) (115 : Int32)) mfX6_takes gX6_readShip_X6_takes rfl (Nat.le_of_ble_eq_true rfl) (Nat.le_of_ble_eq_true rfl) (Nat.le_of_ble_eq_true rfl) (Nat.le_of_ble_eq_true rfl) [0, 1, 2, 3, 4, 5, 6] rfl rfl 0 rfl rfl rfl rfl (Nat.le_of_ble_eq_true rfl) dX6_readShip_3 ?_
  rintro _ _ ⟨rfl, rfl⟩
  refine ⟨Eq.trans (b := [h 0, h 1, h 2, h 3, h 4, h 5, h 6]) rfl rfl, ?_⟩
  refine j_w (w' := (wMo D h m sp sv sc tx (nI t) cd se ro st qa qb qd lo re cr (nI (if rh tx t p = (115 : Int32) then p + 1 else p)) nu ha)) rfl ?_
  refine j_bif_eq C dX6_readShip_6 (tgt := 23) (by decide) (fun h6 => ?_) (fun h6 => ?_)
  · have hk := of_decide_eq_false h6
    rw [if_neg hk]
    refine j_iconst C (v := (0 : Int32)) dX6_readShip_23 rfl ?_
    exact ret dX6_readShip_24 (Or.inl rfl) (⟨_, by rw [(rS_0 hk).1]; rfl, by rw [(rS_0 hk).1, (rS_0 hk).2, if_neg (by decide)]⟩)
  · have hk := of_decide_eq_true h6
    have hpt : p < t := rh_lt hk (by decide)
    rw [if_pos hk]
    refine j_aload_n C 0 dX6_readShip_9 rfl rfl ?_
    refine j_bipush C (v := (6 : Int32)) dX6_readShip_10 rfl ?_
    refine j_iconst C (v := (1 : Int32)) dX6_readShip_12 rfl ?_
    refine j_ldc C kX6_readShip_129 dX6_readShip_13 ?_
    refine j_bipush C (v := (44 : Int32)) dX6_readShip_15 rfl ?_
    refine j_cv_i C (As := [.int (6 : Int32), .int (1 : Int32), .int (100000 : Int32), .int (44 : Int32)]) (rest := []) (ctX6_readNumber (xl X) D h m sp sv sc tx cd se ro st qa qb qd lo re cr nu ha t (by first | assumption | omega | decide) (p + 1) (by omega) 6 (by first | assumption | omega | decide) (1 : Int32) (100000 : Int32) (44 : Int32)) mfX6_readNumber gX6_readShip_X6_readNumber rfl (Nat.le_of_ble_eq_true rfl) (Nat.le_of_ble_eq_true rfl) (Nat.le_of_ble_eq_true rfl) (Nat.le_of_ble_eq_true rfl) [0, 1, 2, 3, 4, 5, 6] rfl rfl 0 rfl rfl rfl rfl (Nat.le_of_ble_eq_true rfl) dX6_readShip_17 ?_
    rintro _ _ ⟨rfl, rfl⟩
    refine ⟨Eq.trans (b := [h 0, h 1, h 2, h 3, h 4, h 5, h 6]) rfl rfl, ?_⟩
    refine j_w (w' := (wMo D h m sp sv sc tx (nI t) cd se ro st qa qb qd lo re cr (nI (rN tx t (p + 1) 6 (1 : Int32) (100000 : Int32) (44 : Int32)).2.2) ((rN tx t (p + 1) 6 (1 : Int32) (100000 : Int32) (44 : Int32)).2.1) ha)) rfl ?_
    show J D X (wMo D h m sp sv sc tx (nI t) cd se ro st qa qb qd lo re cr (nI (rS1 tx t p).2.2) ((rS1 tx t p).2.1) ha) 0 0 20 [(0, .ref (h 0))] [.int (bI (rS1 tx t p).1)]
    refine j_bif_ne C dX6_readShip_20 (tgt := 25) (by decide) (fun h20 => ?_) (fun h20 => ?_)
    · refine j_aload_n C 0 dX6_readShip_25 rfl rfl ?_
      refine j_get C 0 fgX6_readShip_187 rfl rfl dX6_readShip_26 ?_
      refine j_istore_n C dX6_readShip_29 rfl (by decide) (lv' := [(1, .int ((rS1 tx t p).2.1)), (0, .ref (h 0))]) rfl ?_
      refine j_aload_n C 1 dX6_readShip_30 rfl rfl ?_
      refine j_iconst C (v := (3 : Int32)) dX6_readShip_31 rfl ?_
      refine j_iconst C (v := (0 : Int32)) dX6_readShip_32 rfl ?_
      refine j_sipush C (v := (400 : Int32)) dX6_readShip_33 rfl ?_
      refine j_bipush C (v := (59 : Int32)) dX6_readShip_36 rfl ?_
      refine j_cv_i C (As := [.int (3 : Int32), .int (0 : Int32), .int (400 : Int32), .int (59 : Int32)]) (rest := []) (ctX6_readNumber (xl X) D h m sp sv sc tx cd se ro st qa qb qd lo re cr ((rS1 tx t p).2.1) ha t (by first | assumption | omega | decide) ((rS1 tx t p).2.2) (rS_le hpt).1 3 (by first | assumption | omega | decide) (0 : Int32) (400 : Int32) (59 : Int32)) mfX6_readNumber gX6_readShip_X6_readNumber rfl (Nat.le_of_ble_eq_true rfl) (Nat.le_of_ble_eq_true rfl) (Nat.le_of_ble_eq_true rfl) (Nat.le_of_ble_eq_true rfl) [0, 1, 2, 3, 4, 5, 6] rfl rfl 0 rfl rfl rfl rfl (Nat.le_of_ble_eq_true rfl) dX6_readShip_38 ?_
      rintro _ _ ⟨rfl, rfl⟩
      refine ⟨Eq.trans (b := [h 0, h 1, h 2, h 3, h 4, h 5, h 6]) rfl rfl, ?_⟩
      refine j_w (w' := (wMo D h m sp sv sc tx (nI t) cd se ro st qa qb qd lo re cr (nI (rN tx t ((rS1 tx t p).2.2) 3 (0 : Int32) (400 : Int32) (59 : Int32)).2.2) ((rN tx t ((rS1 tx t p).2.2) 3 (0 : Int32) (400 : Int32) (59 : Int32)).2.1) ha)) rfl ?_
      show J D X (wMo D h m sp sv sc tx (nI t) cd se ro st qa qb qd lo re cr (nI (rS2 tx t p).2.2) ((rS2 tx t p).2.1) ha) 0 0 41 [(1, .int ((rS1 tx t p).2.1)), (0, .ref (h 0))] [.int (bI (rS2 tx t p).1)]
      refine j_bif_ne C dX6_readShip_41 (tgt := 46) (by decide) (fun h41 => ?_) (fun h41 => ?_)
      · refine j_aload_n C 1 dX6_readShip_46 rfl rfl ?_
        refine j_get C 0 fgX6_readShip_7 rfl rfl dX6_readShip_47 ?_
        refine j_iconst C (v := (0 : Int32)) dX6_readShip_50 rfl ?_
        refine j_iload_n C 0 dX6_readShip_51 rfl rfl ?_
        refine j_iast C 1 rfl (i := 0) rfl (by decide) (by decide) (w' := (wMo D h (upd m 0 ((rS1 tx t p).2.1)) sp sv sc tx (nI t) cd se ro st qa qb qd lo re cr (nI (rS2 tx t p).2.2) ((rS2 tx t p).2.1) ha)) rfl dX6_readShip_52 ?_
        refine j_aload_n C 1 dX6_readShip_53 rfl rfl ?_
        refine j_get C 0 fgX6_readShip_7 rfl rfl dX6_readShip_54 ?_
        refine j_iconst C (v := (1 : Int32)) dX6_readShip_57 rfl ?_
        refine j_aload_n C 1 dX6_readShip_58 rfl rfl ?_
        refine j_get C 0 fgX6_readShip_187 rfl rfl dX6_readShip_59 ?_
        refine j_iast C 1 rfl (i := 1) rfl (by decide) (by decide) (w' := (wMo D h (upd (upd m 0 ((rS1 tx t p).2.1)) 1 ((rS2 tx t p).2.1)) sp sv sc tx (nI t) cd se ro st qa qb qd lo re cr (nI (rS2 tx t p).2.2) ((rS2 tx t p).2.1) ha)) rfl dX6_readShip_62 ?_
        refine j_iconst C (v := (1 : Int32)) dX6_readShip_63 rfl ?_
        exact ret dX6_readShip_64 (Or.inr rfl) (⟨_, by rw [(rS_3 hk h20 h41).1]; rfl, by rw [(rS_3 hk h20 h41).1, (rS_3 hk h20 h41).2, if_pos rfl]; rfl⟩)
      · refine j_iconst C (v := (0 : Int32)) dX6_readShip_44 rfl ?_
        exact ret dX6_readShip_45 (Or.inl rfl) (⟨_, by rw [(rS_2 hk h20 h41).1]; rfl, by rw [(rS_2 hk h20 h41).1, (rS_2 hk h20 h41).2, if_neg (by decide)]⟩)
    · refine j_iconst C (v := (0 : Int32)) dX6_readShip_23 rfl ?_
      exact ret dX6_readShip_24 (Or.inl rfl) (⟨_, by rw [(rS_1 hk h20).1]; rfl, by rw [(rS_1 hk h20).1, (rS_1 hk h20).2, if_neg (by decide)]⟩)

set_option maxRecDepth 100000 in
set_option maxHeartbeats 4000000 in
theorem ctX6_readAll (l : Launch) (D : KD) (h : Nat → Nat) (m sp sv : Nat → Int32) (sc : Int32) (tx : Nat → Int32) (cd se ro st : Int32) (qa qb qd : Int64) (lo : Nat → Int32) (re : Nat → Int64) (cr ap nu : Int32) (ha : Int64) (t : Nat) (ht : t ≤ 160) : MI l D yX6_readAll wsX6_readAll 4 91 0 0 [.ref (h 0)] (wMo D h m sp sv sc tx (nI t) cd se ro st qa qb qd lo re cr ap nu ha) (fun r w1 => ∃ nu1 : Int32, r = bI (rdT tx t m).1 ∧ w1 = wMo D h ((rdT tx t m).2.2.2) sp sv sc tx (nI t) cd se ro st qa qb qd lo re cr (nI (rdT tx t m).2.1) nu1 ha) := by
  refine MI.ofz (cc := cX6_readAll) (nL := 2) (lv0 := [(0, .ref (h 0))]) (by decide +kernel) rfl (Nat.le_of_ble_eq_true rfl) rfl ?_
  intro X hXl hin C ret
  subst hXl
  refine j_aload_n C 0 dX6_readAll_0 rfl rfl ?_
  refine j_iconst C (v := (0 : Int32)) dX6_readAll_1 rfl ?_
  refine j_put C 0 foX6_readAll_178 rfl (w' := (wMo D h m sp sv sc tx (nI t) cd se ro st qa qb qd lo re cr (0 : Int32) nu ha)) rfl rfl rfl (Nat.le_of_ble_eq_true rfl) dX6_readAll_2 ?_
  refine j_aload_n C 0 dX6_readAll_5 rfl rfl ?_
  refine j_get C 0 fgX6_readAll_7 rfl rfl dX6_readAll_6 ?_
  refine j_iconst C (v := (2 : Int32)) dX6_readAll_9 rfl ?_
  refine j_iconst C (v := (0 : Int32)) dX6_readAll_10 rfl ?_
  refine j_iast C 1 rfl (i := 2) rfl (by decide) (by decide) (w' := (wMo D h (upd m 2 (0 : Int32)) sp sv sc tx (nI t) cd se ro st qa qb qd lo re cr (0 : Int32) nu ha)) rfl dX6_readAll_11 ?_
  refine j_iconst C (v := (1 : Int32)) dX6_readAll_12 rfl ?_
  refine j_istore_n C dX6_readAll_13 rfl (by decide) (lv' := [(1, .int (1 : Int32)), (0, .ref (h 0))]) rfl ?_
  obtain ⟨R, hRf⟩ : ∃ R, rdT tx t m = R := ⟨_, rfl⟩
  have hend : ∀ (nu1 : Int32), R.1 = false → J D X (wMo D h R.2.2.2 sp sv sc tx (nI t) cd se ro st qa qb qd lo re cr (nI R.2.1) nu1 ha) 0 0 14 [(1, .int (0 : Int32)), (0, .ref (h 0))] [] := by
    intro nu1 hR0
    refine j_iload_n C 0 dX6_readAll_14 rfl rfl ?_
    refine j_if_eq C dX6_readAll_15 (tgt := 53) (by decide) (fun _ => ?_) (fun h => absurd (by decide) h)
    refine j_iload_n C 0 dX6_readAll_53 rfl rfl ?_
    exact ret dX6_readAll_54 (Or.inl rfl) (⟨_, by rw [hRf, hR0]; rfl, by rw [hRf]⟩)
  have key : ∀ (f p1 n1 : Nat) (m1 : Nat → Int32) (nu1 : Int32), t - p1 ≤ f → p1 ≤ t → n1 ≤ 16 → m1 2 = nI n1 → rdA tx t f p1 n1 m1 = R → J D X (wMo D h m1 sp sv sc tx (nI t) cd se ro st qa qb qd lo re cr (nI p1) nu1 ha) 0 0 14 [(1, .int (1 : Int32)), (0, .ref (h 0))] [] := by
    intro f
    induction f with
    | zero =>
      intro p1 n1 m1 nu1 hf hp1 hn1 hc1 hres
      refine j_iload_n C 0 dX6_readAll_14 rfl rfl ?_
      refine j_if_eq C dX6_readAll_15 (tgt := 53) (by decide) (fun h => absurd h (by decide)) (fun _ => ?_)
      refine j_aload_n C 1 dX6_readAll_18 rfl rfl ?_
      refine j_get C 0 fgX6_readAll_178 rfl rfl dX6_readAll_19 ?_
      refine j_aload_n C 1 dX6_readAll_22 rfl rfl ?_
      refine j_get C 0 fgX6_readAll_175 rfl rfl dX6_readAll_23 ?_
      refine j_icmp_ge C dX6_readAll_26 (tgt := 53) (by decide) (fun _ => ?_) (fun h => absurd (nI_le (by omega) (by omega)) h)
      refine j_iload_n C 0 dX6_readAll_53 rfl rfl ?_
      exact ret dX6_readAll_54 (Or.inr rfl) (⟨_, by rw [hRf, ← hres]; rfl, by rw [hRf, ← hres]; rfl⟩)
    | succ f ih =>
      intro p1 n1 m1 nu1 hf hp1 hn1 hc1 hres
      refine j_iload_n C 0 dX6_readAll_14 rfl rfl ?_
      refine j_if_eq C dX6_readAll_15 (tgt := 53) (by decide) (fun h => absurd h (by decide)) (fun _ => ?_)
      refine j_aload_n C 1 dX6_readAll_18 rfl rfl ?_
      refine j_get C 0 fgX6_readAll_178 rfl rfl dX6_readAll_19 ?_
      refine j_aload_n C 1 dX6_readAll_22 rfl rfl ?_
      refine j_get C 0 fgX6_readAll_175 rfl rfl dX6_readAll_23 ?_
      refine j_icmp_ge C dX6_readAll_26 (tgt := 53) (by decide) (fun h26 => ?_) (fun h26 => ?_)
      · have h26' := Int32.not_lt.mpr h26
        have htp : t ≤ p1 := (nI_leI (by omega) (by omega)).mp h26
        refine j_iload_n C 0 dX6_readAll_53 rfl rfl ?_
        exact ret dX6_readAll_54 (Or.inr rfl) (⟨_, by rw [hRf, ← hres, rdA_e htp]; rfl, by rw [hRf, ← hres, rdA_e htp]⟩)
      · have h26' := Int32.not_le.mp h26
        have hpt : p1 < t := Nat.lt_of_not_le fun z => h26 ((nI_leI (by omega) (by omega)).mpr z)
        refine j_aload_n C 1 dX6_readAll_29 rfl rfl ?_
        refine j_cv_i C (As := []) (rest := []) (ctX6_here (xl X) D h m1 sp sv sc tx cd se ro st qa qb qd lo re cr nu1 ha t (by first | assumption | omega | decide) p1 hp1) mfX6_here gX6_readAll_X6_here rfl (Nat.le_of_ble_eq_true rfl) (Nat.le_of_ble_eq_true rfl) (Nat.le_of_ble_eq_true rfl) (Nat.le_of_ble_eq_true rfl) [0, 1, 2, 3, 4, 5, 6] rfl rfl 0 rfl rfl rfl rfl (Nat.le_of_ble_eq_true rfl) dX6_readAll_30 ?_
        rintro _ _ ⟨rfl, rfl⟩
        refine ⟨Eq.trans (b := [h 0, h 1, h 2, h 3, h 4, h 5, h 6]) rfl rfl, ?_⟩
        refine j_w (w' := (wMo D h m1 sp sv sc tx (nI t) cd se ro st qa qb qd lo re cr (nI p1) nu1 ha)) rfl ?_
        refine j_bipush C (v := (115 : Int32)) dX6_readAll_33 rfl ?_
        refine j_icmp_ne C dX6_readAll_35 (tgt := 45) (by decide) (fun h35 => ?_) (fun h35 => ?_)
        · refine j_aload_n C 1 dX6_readAll_45 rfl rfl ?_
          by_cases h16 : n1 = 16
          · subst h16
            refine j_cv_i C (As := []) (rest := []) (ctX6_readBlockF (xl X) D h m1 sp sv sc tx cd se ro st qa qb qd lo re cr nu1 ha t (by first | assumption | omega | decide) p1 hp1 hc1) mfX6_readBlock gX6_readAll_X6_readBlock rfl (Nat.le_of_ble_eq_true rfl) (Nat.le_of_ble_eq_true rfl) (Nat.le_of_ble_eq_true rfl) (Nat.le_of_ble_eq_true rfl) [0, 1, 2, 3, 4, 5, 6] rfl rfl 0 rfl rfl rfl rfl (Nat.le_of_ble_eq_true rfl) dX6_readAll_46 ?_
            rintro _ _ ⟨rfl, rfl⟩
            refine ⟨Eq.trans (b := [h 0, h 1, h 2, h 3, h 4, h 5, h 6]) rfl rfl, ?_⟩
            refine j_w (w' := (wMo D h m1 sp sv sc tx (nI t) cd se ro st qa qb qd lo re cr (nI p1) nu1 ha)) rfl ?_
            refine j_istore_n C dX6_readAll_49 rfl (by decide) (lv' := [(1, .int (0 : Int32)), (0, .ref (h 0))]) rfl ?_
            refine j_goto C dX6_readAll_50 (tgt := 14) (by decide) ?_
            refine j_sub [0, 1] (lv' := [(1, .int (0 : Int32)), (0, .ref (h 0))]) rfl ?_
            obtain rfl : R = (false, p1, 16, m1) := by rw [← hres, rdA_16 hpt h35]
            exact hend _ rfl
          · refine j_cv_i C (As := []) (rest := []) (ctX6_readBlock (xl X) D h m1 sp sv sc tx cd se ro st qa qb qd lo re cr nu1 ha t (by first | assumption | omega | decide) p1 hp1 n1 (by omega) hc1) mfX6_readBlock gX6_readAll_X6_readBlock rfl (Nat.le_of_ble_eq_true rfl) (Nat.le_of_ble_eq_true rfl) (Nat.le_of_ble_eq_true rfl) (Nat.le_of_ble_eq_true rfl) [0, 1, 2, 3, 4, 5, 6] rfl rfl 0 rfl rfl rfl rfl (Nat.le_of_ble_eq_true rfl) dX6_readAll_46 ?_
            rintro r_46 _ ⟨nx_46, rfl, rfl⟩
            refine ⟨Eq.trans (b := [h 0, h 1, h 2, h 3, h 4, h 5, h 6]) rfl rfl, ?_⟩
            refine j_w (w' := (wMo D h (if rBo tx t p1 = true then rBm tx t p1 m1 n1 else m1) sp sv sc tx (nI t) cd se ro st qa qb qd lo re cr (nI (rBp tx t p1)) nx_46 ha)) rfl ?_
            refine j_istore_n C dX6_readAll_49 rfl (by decide) (lv' := [(1, .int (bI (rBo tx t p1))), (0, .ref (h 0))]) rfl ?_
            refine j_goto C dX6_readAll_50 (tgt := 14) (by decide) ?_
            refine j_sub [0, 1] (lv' := [(1, .int (bI (rBo tx t p1))), (0, .ref (h 0))]) rfl ?_
            cases ho : rBo tx t p1 with
            | false =>
              obtain rfl : R = (false, rBp tx t p1, n1, m1) := by rw [← hres, rdA_bf hpt h35 (by omega) ho]
              exact hend _ rfl
            | true =>
              have := rBp_gt ho
              exact ih (rBp tx t p1) (n1 + 1) (rBm tx t p1 m1 n1) _ (by omega) (rBp_le (by omega)) (by omega) (rBm_2 hc1) (by rw [← hres, rdA_bt hpt h35 (by omega) ho])
        · refine j_aload_n C 1 dX6_readAll_38 rfl rfl ?_
          refine j_cv_i C (As := []) (rest := []) (ctX6_readShip (xl X) D h m1 sp sv sc tx cd se ro st qa qb qd lo re cr nu1 ha t (by first | assumption | omega | decide) p1 hp1) mfX6_readShip gX6_readAll_X6_readShip rfl (Nat.le_of_ble_eq_true rfl) (Nat.le_of_ble_eq_true rfl) (Nat.le_of_ble_eq_true rfl) (Nat.le_of_ble_eq_true rfl) [0, 1, 2, 3, 4, 5, 6] rfl rfl 0 rfl rfl rfl rfl (Nat.le_of_ble_eq_true rfl) dX6_readAll_39 ?_
          rintro r_39 _ ⟨nx_39, rfl, rfl⟩
          refine ⟨Eq.trans (b := [h 0, h 1, h 2, h 3, h 4, h 5, h 6]) rfl rfl, ?_⟩
          refine j_w (w' := (wMo D h (if rSo tx t p1 = true then rSm tx t p1 m1 else m1) sp sv sc tx (nI t) cd se ro st qa qb qd lo re cr (nI (rSp tx t p1)) nx_39 ha)) rfl ?_
          refine j_goto C dX6_readAll_42 (tgt := 49) (by decide) ?_
          refine j_istore_n C dX6_readAll_49 rfl (by decide) (lv' := [(1, .int (bI (rSo tx t p1))), (0, .ref (h 0))]) rfl ?_
          refine j_goto C dX6_readAll_50 (tgt := 14) (by decide) ?_
          refine j_sub [0, 1] (lv' := [(1, .int (bI (rSo tx t p1))), (0, .ref (h 0))]) rfl ?_
          cases ho : rSo tx t p1 with
          | false =>
            obtain rfl : R = (false, rSp tx t p1, n1, m1) := by rw [← hres, rdA_sf hpt h35 ho]
            exact hend _ rfl
          | true =>
            have := rSp_gt ho
            exact ih (rSp tx t p1) n1 (rSm tx t p1 m1) _ (by omega) (rSp_le (by omega)) hn1 ((rSm_2 _ _ _ _).trans hc1) (by rw [← hres, rdA_st hpt h35 ho])
  refine j_sub [0, 1] (lv' := [(1, .int (1 : Int32)), (0, .ref (h 0))]) rfl ?_
  exact key t 0 0 (mZ m) _ (by omega) (Nat.zero_le _) (by omega) pk_us hRf

set_option maxRecDepth 100000 in
set_option maxHeartbeats 4000000 in
theorem ctX6_parseX (l : Launch) (D : KD) (h : Nat → Nat) (m sp sv : Nat → Int32) (tx : Nat → Int32) (cd se ro st : Int32) (qa qb qd : Int64) (lo : Nat → Int32) (re : Nat → Int64) (cr ap nu : Int32) (ha : Int64) (s : Nat) (hs : s ≤ 4) (t : Nat) (ht : t ≤ 160) (hr : (rdT tx t m).1 = false) : MI l D yX6_parse wsX6_parse 5 112 0 0 [.ref (h 0)] (wMo D h m sp sv (nI s) tx (nI t) cd se ro st qa qb qd lo re cr ap nu ha) (fun r w1 => r = -10 - nI (rdT tx t m).2.1 ∧ mW D h m sv (nI s) tx (nI t) 0 w1) := by
  refine MI.of (cc := cX6_parse) (nL := 2) (lv0 := [(0, .ref (h 0))]) (by decide +kernel) rfl (Nat.le_of_ble_eq_true rfl) rfl ?_
  intro X hXl hin C ret
  subst hXl
  refine j_aload_n C 0 dX6_parse_0 rfl rfl ?_
  refine j_iconst C (v := (0 : Int32)) dX6_parse_1 rfl ?_
  refine j_put C 0 foX6_parse_29 rfl (w' := (wMo D h m sp sv (nI s) tx (nI t) (0 : Int32) se ro st qa qb qd lo re cr ap nu ha)) rfl rfl rfl (Nat.le_of_ble_eq_true rfl) dX6_parse_2 ?_
  refine j_aload_n C 0 dX6_parse_5 rfl rfl ?_
  refine j_get C 0 fgX6_parse_7 rfl rfl dX6_parse_6 ?_
  refine j_iconst C (v := (0 : Int32)) dX6_parse_9 rfl ?_
  refine j_aload_n C 0 dX6_parse_10 rfl rfl ?_
  refine j_get C 0 fgX6_parse_13 rfl rfl dX6_parse_11 ?_
  refine j_iconst C (v := (0 : Int32)) dX6_parse_14 rfl ?_
  refine j_cs_v C (As := [.ref (h 1), .int (0 : Int32), .ref (h 2), .int (0 : Int32)]) (rest := []) (ctX6_bring (xl X) D (h 1) (h 2) 99 99 0 0 m sp (by first | assumption | omega | decide) (by first | assumption | omega | decide) (by first | assumption | omega | decide) (by first | assumption | omega | decide)) mfX6_bring gX6_parse_X6_bring rfl (Nat.le_of_ble_eq_true rfl) (Nat.le_of_ble_eq_true rfl) (Nat.le_of_ble_eq_true rfl) (Nat.le_of_ble_eq_true rfl) [1, 2] rfl rfl rfl (Nat.le_of_ble_eq_true rfl) dX6_parse_15 ?_
  rintro _ rfl
  refine ⟨Eq.trans (b := [h 1, h 2]) rfl rfl, ?_⟩
  refine j_w (w' := (wMo D h m (va_cpy m sp 0 0 99) sv (nI s) tx (nI t) (0 : Int32) se ro st qa qb qd lo re cr ap nu ha)) rfl ?_
  refine j_aload_n C 0 dX6_parse_18 rfl rfl ?_
  refine j_cv_i C (As := []) (rest := []) (ctX6_readAll (xl X) D h m (va_cpy m sp 0 0 99) sv (nI s) tx (0 : Int32) se ro st qa qb qd lo re cr ap nu ha t (by first | assumption | omega | decide)) mfX6_readAll gX6_parse_X6_readAll rfl (Nat.le_of_ble_eq_true rfl) (Nat.le_of_ble_eq_true rfl) (Nat.le_of_ble_eq_true rfl) (Nat.le_of_ble_eq_true rfl) [0, 1, 2, 3, 4, 5, 6] rfl rfl 0 rfl rfl rfl rfl (Nat.le_of_ble_eq_true rfl) dX6_parse_19 ?_
  rintro r_19 _ ⟨nx_19, rfl, rfl⟩
  refine ⟨Eq.trans (b := [h 0, h 1, h 2, h 3, h 4, h 5, h 6]) rfl rfl, ?_⟩
  refine j_w (w' := (wMo D h ((rdT tx t m).2.2.2) (va_cpy m sp 0 0 99) sv (nI s) tx (nI t) (0 : Int32) se ro st qa qb qd lo re cr (nI (rdT tx t m).2.1) nx_19 ha)) rfl ?_
  refine j_istore_n C dX6_parse_22 rfl (by decide) (lv' := [(1, .int (bI (rdT tx t m).1)), (0, .ref (h 0))]) rfl ?_
  refine j_aload_n C 1 dX6_parse_23 rfl rfl ?_
  refine j_get C 0 fgX6_parse_13 rfl rfl dX6_parse_24 ?_
  refine j_iconst C (v := (0 : Int32)) dX6_parse_27 rfl ?_
  refine j_aload_n C 1 dX6_parse_28 rfl rfl ?_
  refine j_get C 0 fgX6_parse_7 rfl rfl dX6_parse_29 ?_
  refine j_iconst C (v := (0 : Int32)) dX6_parse_32 rfl ?_
  refine j_cs_v C (As := [.ref (h 2), .int (0 : Int32), .ref (h 1), .int (0 : Int32)]) (rest := []) (ctX6_bring (xl X) D (h 2) (h 1) 99 99 0 0 (va_cpy m sp 0 0 99) ((rdT tx t m).2.2.2) (by first | assumption | omega | decide) (by first | assumption | omega | decide) (by first | assumption | omega | decide) (by first | assumption | omega | decide)) mfX6_bring gX6_parse_X6_bring rfl (Nat.le_of_ble_eq_true rfl) (Nat.le_of_ble_eq_true rfl) (Nat.le_of_ble_eq_true rfl) (Nat.le_of_ble_eq_true rfl) [2, 1] rfl rfl rfl (Nat.le_of_ble_eq_true rfl) dX6_parse_33 ?_
  rintro _ rfl
  refine ⟨Eq.trans (b := [h 2, h 1]) rfl rfl, ?_⟩
  refine j_w (w' := (wMo D h (va_cpy (va_cpy m sp 0 0 99) ((rdT tx t m).2.2.2) 0 0 99) (va_cpy m sp 0 0 99) sv (nI s) tx (nI t) (0 : Int32) se ro st qa qb qd lo re cr (nI (rdT tx t m).2.1) nx_19 ha)) rfl ?_
  refine j_asi 1 m rfl (fun j hj => (cpy_at _ _ j hj).trans (cpy_at _ _ j hj)) (w' := (wMo D h m (va_cpy m sp 0 0 99) sv (nI s) tx (nI t) (0 : Int32) se ro st qa qb qd lo re cr (nI (rdT tx t m).2.1) nx_19 ha)) rfl ?_
  refine j_iload_n C 0 dX6_parse_36 rfl rfl ?_
  refine j_bif_ne C dX6_parse_37 (tgt := 48) (by decide) (fun h => (by rw [hr] at h; cases h)) (fun _ => ?_)
  refine j_bipush C (v := (-10 : Int32)) dX6_parse_40 rfl ?_
  refine j_aload_n C 1 dX6_parse_42 rfl rfl ?_
  refine j_get C 0 fgX6_parse_178 rfl rfl dX6_parse_43 ?_
  refine j_isub C dX6_parse_46 ?_
  exact ret dX6_parse_47 (⟨rfl, ⟨_, _, _, _, _, _, _, _, _, _, _, _, _, rfl⟩⟩)

set_option maxRecDepth 100000 in
set_option maxHeartbeats 4000000 in
theorem ctX6_parse (l : Launch) (D : KD) (h : Nat → Nat) (m sp sv : Nat → Int32) (tx : Nat → Int32) (cd se ro st : Int32) (qa qb qd : Int64) (lo : Nat → Int32) (re : Nat → Int64) (cr ap nu : Int32) (ha : Int64) (s : Nat) (hs : s ≤ 4) (t : Nat) (ht : t ≤ 160) (hr : (rdT tx t m).1 = true) : MI l D yX6_parse wsX6_parse 5 112 0 0 [.ref (h 0)] (wMo D h m sp sv (nI s) tx (nI t) cd se ro st qa qb qd lo re cr ap nu ha) (fun r w1 => r = (rdT tx t m).2.2.2 2 ∧ mW D h ((rdT tx t m).2.2.2) (kSv sv s m) (nI (min (s + 1) 4)) tx (nI t) 0 w1) := by
  refine MI.of (cc := cX6_parse) (nL := 2) (lv0 := [(0, .ref (h 0))]) (by decide +kernel) rfl (Nat.le_of_ble_eq_true rfl) rfl ?_
  intro X hXl hin C ret
  subst hXl
  refine j_aload_n C 0 dX6_parse_0 rfl rfl ?_
  refine j_iconst C (v := (0 : Int32)) dX6_parse_1 rfl ?_
  refine j_put C 0 foX6_parse_29 rfl (w' := (wMo D h m sp sv (nI s) tx (nI t) (0 : Int32) se ro st qa qb qd lo re cr ap nu ha)) rfl rfl rfl (Nat.le_of_ble_eq_true rfl) dX6_parse_2 ?_
  refine j_aload_n C 0 dX6_parse_5 rfl rfl ?_
  refine j_get C 0 fgX6_parse_7 rfl rfl dX6_parse_6 ?_
  refine j_iconst C (v := (0 : Int32)) dX6_parse_9 rfl ?_
  refine j_aload_n C 0 dX6_parse_10 rfl rfl ?_
  refine j_get C 0 fgX6_parse_13 rfl rfl dX6_parse_11 ?_
  refine j_iconst C (v := (0 : Int32)) dX6_parse_14 rfl ?_
  refine j_cs_v C (As := [.ref (h 1), .int (0 : Int32), .ref (h 2), .int (0 : Int32)]) (rest := []) (ctX6_bring (xl X) D (h 1) (h 2) 99 99 0 0 m sp (by first | assumption | omega | decide) (by first | assumption | omega | decide) (by first | assumption | omega | decide) (by first | assumption | omega | decide)) mfX6_bring gX6_parse_X6_bring rfl (Nat.le_of_ble_eq_true rfl) (Nat.le_of_ble_eq_true rfl) (Nat.le_of_ble_eq_true rfl) (Nat.le_of_ble_eq_true rfl) [1, 2] rfl rfl rfl (Nat.le_of_ble_eq_true rfl) dX6_parse_15 ?_
  rintro _ rfl
  refine ⟨Eq.trans (b := [h 1, h 2]) rfl rfl, ?_⟩
  refine j_w (w' := (wMo D h m (va_cpy m sp 0 0 99) sv (nI s) tx (nI t) (0 : Int32) se ro st qa qb qd lo re cr ap nu ha)) rfl ?_
  refine j_aload_n C 0 dX6_parse_18 rfl rfl ?_
  refine j_cv_i C (As := []) (rest := []) (ctX6_readAll (xl X) D h m (va_cpy m sp 0 0 99) sv (nI s) tx (0 : Int32) se ro st qa qb qd lo re cr ap nu ha t (by first | assumption | omega | decide)) mfX6_readAll gX6_parse_X6_readAll rfl (Nat.le_of_ble_eq_true rfl) (Nat.le_of_ble_eq_true rfl) (Nat.le_of_ble_eq_true rfl) (Nat.le_of_ble_eq_true rfl) [0, 1, 2, 3, 4, 5, 6] rfl rfl 0 rfl rfl rfl rfl (Nat.le_of_ble_eq_true rfl) dX6_parse_19 ?_
  rintro r_19 _ ⟨nx_19, rfl, rfl⟩
  refine ⟨Eq.trans (b := [h 0, h 1, h 2, h 3, h 4, h 5, h 6]) rfl rfl, ?_⟩
  refine j_w (w' := (wMo D h ((rdT tx t m).2.2.2) (va_cpy m sp 0 0 99) sv (nI s) tx (nI t) (0 : Int32) se ro st qa qb qd lo re cr (nI (rdT tx t m).2.1) nx_19 ha)) rfl ?_
  refine j_istore_n C dX6_parse_22 rfl (by decide) (lv' := [(1, .int (bI (rdT tx t m).1)), (0, .ref (h 0))]) rfl ?_
  refine j_aload_n C 1 dX6_parse_23 rfl rfl ?_
  refine j_get C 0 fgX6_parse_13 rfl rfl dX6_parse_24 ?_
  refine j_iconst C (v := (0 : Int32)) dX6_parse_27 rfl ?_
  refine j_aload_n C 1 dX6_parse_28 rfl rfl ?_
  refine j_get C 0 fgX6_parse_7 rfl rfl dX6_parse_29 ?_
  refine j_iconst C (v := (0 : Int32)) dX6_parse_32 rfl ?_
  refine j_cs_v C (As := [.ref (h 2), .int (0 : Int32), .ref (h 1), .int (0 : Int32)]) (rest := []) (ctX6_bring (xl X) D (h 2) (h 1) 99 99 0 0 (va_cpy m sp 0 0 99) ((rdT tx t m).2.2.2) (by first | assumption | omega | decide) (by first | assumption | omega | decide) (by first | assumption | omega | decide) (by first | assumption | omega | decide)) mfX6_bring gX6_parse_X6_bring rfl (Nat.le_of_ble_eq_true rfl) (Nat.le_of_ble_eq_true rfl) (Nat.le_of_ble_eq_true rfl) (Nat.le_of_ble_eq_true rfl) [2, 1] rfl rfl rfl (Nat.le_of_ble_eq_true rfl) dX6_parse_33 ?_
  rintro _ rfl
  refine ⟨Eq.trans (b := [h 2, h 1]) rfl rfl, ?_⟩
  refine j_w (w' := (wMo D h (va_cpy (va_cpy m sp 0 0 99) ((rdT tx t m).2.2.2) 0 0 99) (va_cpy m sp 0 0 99) sv (nI s) tx (nI t) (0 : Int32) se ro st qa qb qd lo re cr (nI (rdT tx t m).2.1) nx_19 ha)) rfl ?_
  refine j_asi 1 m rfl (fun j hj => (cpy_at _ _ j hj).trans (cpy_at _ _ j hj)) (w' := (wMo D h m (va_cpy m sp 0 0 99) sv (nI s) tx (nI t) (0 : Int32) se ro st qa qb qd lo re cr (nI (rdT tx t m).2.1) nx_19 ha)) rfl ?_
  refine j_iload_n C 0 dX6_parse_36 rfl rfl ?_
  refine j_bif_ne C dX6_parse_37 (tgt := 48) (by decide) (fun _ => ?_) (fun h => (by rw [hr] at h; cases h))
  refine j_aload_n C 1 dX6_parse_48 rfl rfl ?_
  refine j_cv_v C (As := []) (rest := []) (ctX6_keep (xl X) D h m (va_cpy m sp 0 0 99) sv tx (nI t) (0 : Int32) se ro st qa qb qd lo re cr (nI (rdT tx t m).2.1) nx_19 ha s (by first | assumption | omega | decide)) mfX6_keep gX6_parse_X6_keep rfl (Nat.le_of_ble_eq_true rfl) (Nat.le_of_ble_eq_true rfl) (Nat.le_of_ble_eq_true rfl) (Nat.le_of_ble_eq_true rfl) [0, 1, 2, 3, 4, 5, 6] rfl rfl 0 rfl rfl rfl rfl (Nat.le_of_ble_eq_true rfl) dX6_parse_49 ?_
  rintro _ rfl
  refine ⟨Eq.trans (b := [h 0, h 1, h 2, h 3, h 4, h 5, h 6]) rfl rfl, ?_⟩
  refine j_w (w' := (wMo D h m (va_cpy m sp 0 0 99) (kSv sv s m) (nI (min (s + 1) 4)) tx (nI t) (0 : Int32) se ro st qa qb qd lo re cr (nI (rdT tx t m).2.1) nx_19 ha)) rfl ?_
  refine j_aload_n C 1 dX6_parse_52 rfl rfl ?_
  refine j_cv_i C (As := []) (rest := []) (ctX6_readAll (xl X) D h m (va_cpy m sp 0 0 99) (kSv sv s m) (nI (min (s + 1) 4)) tx (0 : Int32) se ro st qa qb qd lo re cr (nI (rdT tx t m).2.1) nx_19 ha t (by first | assumption | omega | decide)) mfX6_readAll gX6_parse_X6_readAll rfl (Nat.le_of_ble_eq_true rfl) (Nat.le_of_ble_eq_true rfl) (Nat.le_of_ble_eq_true rfl) (Nat.le_of_ble_eq_true rfl) [0, 1, 2, 3, 4, 5, 6] rfl rfl 0 rfl rfl rfl rfl (Nat.le_of_ble_eq_true rfl) dX6_parse_53 ?_
  rintro r_53 _ ⟨nx_53, rfl, rfl⟩
  refine ⟨Eq.trans (b := [h 0, h 1, h 2, h 3, h 4, h 5, h 6]) rfl rfl, ?_⟩
  refine j_w (w' := (wMo D h ((rdT tx t m).2.2.2) (va_cpy m sp 0 0 99) (kSv sv s m) (nI (min (s + 1) 4)) tx (nI t) (0 : Int32) se ro st qa qb qd lo re cr (nI (rdT tx t m).2.1) nx_53 ha)) rfl ?_
  refine j_istore_n C dX6_parse_56 rfl (by decide) (lv' := [(1, .int (bI (rdT tx t m).1)), (0, .ref (h 0))]) rfl ?_
  refine j_aload_n C 1 dX6_parse_57 rfl rfl ?_
  refine j_get C 0 fgX6_parse_7 rfl rfl dX6_parse_58 ?_
  refine j_iconst C (v := (2 : Int32)) dX6_parse_61 rfl ?_
  refine j_iald C 1 rfl (i := 2) rfl (by decide) (by decide) dX6_parse_62 ?_
  exact ret dX6_parse_63 (⟨rfl, ⟨_, _, _, _, _, _, _, _, _, _, _, _, _, rfl⟩⟩)
