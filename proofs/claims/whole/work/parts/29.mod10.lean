set_option maxRecDepth 100000 in
set_option maxHeartbeats 4000000 in
theorem ctX6_readShip (l : Launch) (D : KD) (h : Nat → Nat) (m sp sv : Nat → Int32) (sc : Int32) (tx : Nat → Int32) (cd se ro st : Int32) (qa qb qd : Int64) (lo : Nat → Int32) (re : Nat → Int64) (cr nu : Int32) (ha : Int64) (t : Nat) (ht : t ≤ 160) (p : Nat) (hp : p ≤ t) : MI l D yX6_readShip wsX6_readShip 3 68 0 0 [.ref (h 0)] (wMo D h m sp sv sc tx (nI t) cd se ro st qa qb qd lo re cr (nI p) nu ha) (fun r w1 => ∃ nu1 : Int32, r = bI (rSo tx t p) ∧ w1 = wMo D h (if rSo tx t p = true then rSm tx t p m else m) sp sv sc tx (nI t) cd se ro st qa qb qd lo re cr (nI (rSp tx t p)) nu1 ha) := by
  refine MI.ofz (cc := cX6_readShip) (nL := 2) (lv0 := [(0, .ref (h 0))]) (by decide +kernel) rfl (Nat.le_of_ble_eq_true rfl) rfl ?_
  intro X hXl hin C ret
  subst hXl
  refine j_aload_n C 0 dX6_readShip_0 rfl rfl ?_
  refine j_bipush C (v := (115 : Int32)) dX6_readShip_1 rfl ?_
  refine j_cv_i C (As := [.int (115 : Int32)]) (rest := []) (ctX6_takes (xl X) D h m sp sv sc tx cd se ro st qa qb qd lo re cr nu ha t (by first | assumption | omega | decide) p (by first | assumption | omega | decide) (115 : Int32)) mfX6_takes gX6_readShip_X6_takes rfl (Nat.le_of_ble_eq_true rfl) (Nat.le_of_ble_eq_true rfl) (Nat.le_of_ble_eq_true rfl) (Nat.le_of_ble_eq_true rfl) [0, 1, 2, 3, 4, 5, 6] rfl rfl 0 rfl rfl rfl rfl (Nat.le_of_ble_eq_true rfl) dX6_readShip_3 ?_
  rintro _ _ ⟨rfl, rfl⟩
  refine ⟨rfl, ?_⟩
  refine j_w (w' := (wMo D h m sp sv sc tx (nI t) cd se ro st qa qb qd lo re cr (nI (if rh tx t p = (115 : Int32) then p + 1 else p)) nu ha)) rfl ?_
  refine j_bif_eq C dX6_readShip_6 (tgt := 23) (by decide) (fun h6 => ?_) (fun h6 => ?_)
  · have hk := of_decide_eq_false h6
    rw [if_neg hk]
    refine j_iconst C (v := (0 : Int32)) dX6_readShip_23 rfl ?_
    exact ret dX6_readShip_24 (Or.inl rfl) (⟨_, by rw [(rS_0 hk).1]; rfl, by rw [(rS_0 hk).1, (rS_0 hk).2, if_neg (by decide)]⟩)
  · have hk := of_decide_eq_true h6
    have hpt : p < t := rh_lt hk (by decide)
    rw [if_pos hk]
    refine j_aload_n C 0 dX6_readShip_9 rfl rfl ?_
    refine j_bipush C (v := (6 : Int32)) dX6_readShip_10 rfl ?_
    refine j_iconst C (v := (1 : Int32)) dX6_readShip_12 rfl ?_
    refine j_ldc C kX6_readShip_129 dX6_readShip_13 ?_
    refine j_bipush C (v := (44 : Int32)) dX6_readShip_15 rfl ?_
    refine j_cv_i C (As := [.int (6 : Int32), .int (1 : Int32), .int (100000 : Int32), .int (44 : Int32)]) (rest := []) (ctX6_readNumber (xl X) D h m sp sv sc tx cd se ro st qa qb qd lo re cr nu ha t (by first | assumption | omega | decide) (p + 1) (by omega) 6 (by first | assumption | omega | decide) (1 : Int32) (100000 : Int32) (44 : Int32)) mfX6_readNumber gX6_readShip_X6_readNumber rfl (Nat.le_of_ble_eq_true rfl) (Nat.le_of_ble_eq_true rfl) (Nat.le_of_ble_eq_true rfl) (Nat.le_of_ble_eq_true rfl) [0, 1, 2, 3, 4, 5, 6] rfl rfl 0 rfl rfl rfl rfl (Nat.le_of_ble_eq_true rfl) dX6_readShip_17 ?_
    rintro _ _ ⟨rfl, rfl⟩
    refine ⟨rfl, ?_⟩
    refine j_w (w' := (wMo D h m sp sv sc tx (nI t) cd se ro st qa qb qd lo re cr (nI (rN tx t (p + 1) 6 (1 : Int32) (100000 : Int32) (44 : Int32)).2.2) ((rN tx t (p + 1) 6 (1 : Int32) (100000 : Int32) (44 : Int32)).2.1) ha)) rfl ?_
    show J D X (wMo D h m sp sv sc tx (nI t) cd se ro st qa qb qd lo re cr (nI (rS1 tx t p).2.2) ((rS1 tx t p).2.1) ha) 0 0 20 [(0, .ref (h 0))] [.int (bI (rS1 tx t p).1)]
    refine j_bif_ne C dX6_readShip_20 (tgt := 25) (by decide) (fun h20 => ?_) (fun h20 => ?_)
    · refine j_aload_n C 0 dX6_readShip_25 rfl rfl ?_
      refine j_get C 0 fgX6_readShip_187 rfl rfl dX6_readShip_26 ?_
      refine j_istore_n C dX6_readShip_29 rfl (by decide) (lv' := [(1, .int ((rS1 tx t p).2.1)), (0, .ref (h 0))]) rfl ?_
      refine j_aload_n C 1 dX6_readShip_30 rfl rfl ?_
      refine j_iconst C (v := (3 : Int32)) dX6_readShip_31 rfl ?_
      refine j_iconst C (v := (0 : Int32)) dX6_readShip_32 rfl ?_
      refine j_sipush C (v := (400 : Int32)) dX6_readShip_33 rfl ?_
      refine j_bipush C (v := (59 : Int32)) dX6_readShip_36 rfl ?_
      refine j_cv_i C (As := [.int (3 : Int32), .int (0 : Int32), .int (400 : Int32), .int (59 : Int32)]) (rest := []) (ctX6_readNumber (xl X) D h m sp sv sc tx cd se ro st qa qb qd lo re cr ((rS1 tx t p).2.1) ha t (by first | assumption | omega | decide) ((rS1 tx t p).2.2) (rS_le hpt).1 3 (by first | assumption | omega | decide) (0 : Int32) (400 : Int32) (59 : Int32)) mfX6_readNumber gX6_readShip_X6_readNumber rfl (Nat.le_of_ble_eq_true rfl) (Nat.le_of_ble_eq_true rfl) (Nat.le_of_ble_eq_true rfl) (Nat.le_of_ble_eq_true rfl) [0, 1, 2, 3, 4, 5, 6] rfl rfl 0 rfl rfl rfl rfl (Nat.le_of_ble_eq_true rfl) dX6_readShip_38 ?_
      rintro _ _ ⟨rfl, rfl⟩
      refine ⟨rfl, ?_⟩
      refine j_w (w' := (wMo D h m sp sv sc tx (nI t) cd se ro st qa qb qd lo re cr (nI (rN tx t ((rS1 tx t p).2.2) 3 (0 : Int32) (400 : Int32) (59 : Int32)).2.2) ((rN tx t ((rS1 tx t p).2.2) 3 (0 : Int32) (400 : Int32) (59 : Int32)).2.1) ha)) rfl ?_
      show J D X (wMo D h m sp sv sc tx (nI t) cd se ro st qa qb qd lo re cr (nI (rS2 tx t p).2.2) ((rS2 tx t p).2.1) ha) 0 0 41 [(1, .int ((rS1 tx t p).2.1)), (0, .ref (h 0))] [.int (bI (rS2 tx t p).1)]
      refine j_bif_ne C dX6_readShip_41 (tgt := 46) (by decide) (fun h41 => ?_) (fun h41 => ?_)
      · refine j_aload_n C 1 dX6_readShip_46 rfl rfl ?_
        refine j_get C 0 fgX6_readShip_7 rfl rfl dX6_readShip_47 ?_
        refine j_iconst C (v := (0 : Int32)) dX6_readShip_50 rfl ?_
        refine j_iload_n C 0 dX6_readShip_51 rfl rfl ?_
        refine j_iast C 1 rfl (i := 0) rfl (by decide) (by decide) (w' := (wMo D h (upd m 0 ((rS1 tx t p).2.1)) sp sv sc tx (nI t) cd se ro st qa qb qd lo re cr (nI (rS2 tx t p).2.2) ((rS2 tx t p).2.1) ha)) rfl dX6_readShip_52 ?_
        refine j_aload_n C 1 dX6_readShip_53 rfl rfl ?_
        refine j_get C 0 fgX6_readShip_7 rfl rfl dX6_readShip_54 ?_
        sorry
      · sorry
    · sorry
