theorem mfX2_readNumber : MF yX2_readNumber wsX2_readNumber cX2_readNumber 10 (some .int) 4 := ⟨⟨_, rfl⟩, by decide +kernel, by decide +kernel, by decide +kernel⟩
theorem kX2_readBlock_51 : Cond.constant RX2 51 (99999) ∈ wsX2_readBlock := by decide +kernel
theorem inX2_readBlock_2 : ∀ w ∈ u_ws RX2 TX2 3, w ∈ wsX2_readBlock := by decide +kernel
theorem fgX2_readBlock_15 : FG wsX2_readBlock RX2 15 2 2 := ⟨RX2, TX2, 3, rfl, inX2_readBlock_2, by decide, by decide +kernel⟩
theorem mfX1_add : MF yX1_add wsX1_add cX1_add 6 (some .int) 4 := ⟨⟨_, rfl⟩, by decide +kernel, by decide +kernel, by decide +kernel⟩
theorem kX2_readShip_55 : Cond.constant RX2 55 (100000) ∈ wsX2_readShip := by decide +kernel
theorem inX2_readShip_2 : ∀ w ∈ u_ws RX2 TX2 3, w ∈ wsX2_readShip := by decide +kernel
theorem fgX2_readShip_15 : FG wsX2_readShip RX2 15 2 2 := ⟨RX2, TX2, 3, rfl, inX2_readShip_2, by decide, by decide +kernel⟩
theorem inX2_readShip_1 : ∀ w ∈ u_ws RX1 TX1 10, w ∈ wsX2_readShip := by decide +kernel
theorem foX2_readShip_56 : FO wsX2_readShip RX2 56 1 0 .int := ⟨RX1, TX1, 10, tyX1, rfl, inX2_readShip_1, by decide, by decide +kernel, tyX1_ok, nmX1, by decide +kernel, by decide +kernel⟩
theorem foX2_readShip_59 : FO wsX2_readShip RX2 59 1 1 .int := ⟨RX1, TX1, 10, tyX1, rfl, inX2_readShip_1, by decide, by decide +kernel, tyX1_ok, nmX1, by decide +kernel, by decide +kernel⟩
theorem inX2_readItem_2 : ∀ w ∈ u_ws RX2 TX2 3, w ∈ wsX2_readItem := by decide +kernel
theorem fgX2_readItem_18 : FG wsX2_readItem RX2 18 2 0 := ⟨RX2, TX2, 3, rfl, inX2_readItem_2, by decide, by decide +kernel⟩
theorem fgX2_readItem_9 : FG wsX2_readItem RX2 9 2 1 := ⟨RX2, TX2, 3, rfl, inX2_readItem_2, by decide, by decide +kernel⟩
theorem foX2_readItem_9 : FO wsX2_readItem RX2 9 2 1 .int := ⟨RX2, TX2, 3, tyX2, rfl, inX2_readItem_2, by decide, by decide +kernel, tyX2_ok, nmX2, by decide +kernel, by decide +kernel⟩
theorem mfX2_readShip : MF yX2_readShip wsX2_readShip cX2_readShip 4 none 1 := ⟨⟨_, rfl⟩, by decide +kernel, by decide +kernel, by decide +kernel⟩
theorem mfX1_hasRoom : MF yX1_hasRoom wsX1_hasRoom cX1_hasRoom 1 (some .boolean) 0 := ⟨⟨_, rfl⟩, by decide +kernel, by decide +kernel, by decide +kernel⟩
theorem mfX2_readBlock : MF yX2_readBlock wsX2_readBlock cX2_readBlock 6 none 1 := ⟨⟨_, rfl⟩, by decide +kernel, by decide +kernel, by decide +kernel⟩
theorem foX2_readItem_15 : FO wsX2_readItem RX2 15 2 2 .int := ⟨RX2, TX2, 3, tyX2, rfl, inX2_readItem_2, by decide, by decide +kernel, tyX2_ok, nmX2, by decide +kernel, by decide +kernel⟩
theorem inX2_read_2 : ∀ w ∈ u_ws RX2 TX2 3, w ∈ wsX2_read := by decide +kernel
theorem foX2_read_9 : FO wsX2_read RX2 9 2 1 .int := ⟨RX2, TX2, 3, tyX2, rfl, inX2_read_2, by decide, by decide +kernel, tyX2_ok, nmX2, by decide +kernel, by decide +kernel⟩
theorem foX2_read_15 : FO wsX2_read RX2 15 2 2 .int := ⟨RX2, TX2, 3, tyX2, rfl, inX2_read_2, by decide, by decide +kernel, tyX2_ok, nmX2, by decide +kernel, by decide +kernel⟩
theorem fgX2_read_15 : FG wsX2_read RX2 15 2 2 := ⟨RX2, TX2, 3, rfl, inX2_read_2, by decide, by decide +kernel⟩
theorem fgX2_read_9 : FG wsX2_read RX2 9 2 1 := ⟨RX2, TX2, 3, rfl, inX2_read_2, by decide, by decide +kernel⟩
theorem fgX2_read_18 : FG wsX2_read RX2 18 2 0 := ⟨RX2, TX2, 3, rfl, inX2_read_2, by decide, by decide +kernel⟩
theorem inX2_read_3 : ∀ w ∈ u_ws RX3 TX3 2, w ∈ wsX2_read := by decide +kernel
theorem fgX2_read_22 : FG wsX2_read RX2 22 3 0 := ⟨RX3, TX3, 2, rfl, inX2_read_3, by decide, by decide +kernel⟩
theorem mfX2_readItem : MF yX2_readItem wsX2_readItem cX2_readItem 3 none 1 := ⟨⟨_, rfl⟩, by decide +kernel, by decide +kernel, by decide +kernel⟩
set_option maxRecDepth 100000 in
set_option maxHeartbeats 4000000 in
theorem ctX2_readBlock (l : Launch) (D : KD) (rr tt a : Nat → Nat) (tx : Nat → Int32) (t : Nat) (ht : t ≤ 160) (p : Nat) (hp : p < t) (we ce co sg cr : Int32) (Pp Kp Hp Lp Sp : Nat → Int32) (h98 : rh tx t p = 98) (hroom : dRoom co = true) (ho : rBo tx t p = true) : MV l D yX2_readBlock wsX2_readBlock 2 51 0 0 [.ref (rr 0), .ref (a 0)] (wRd D rr (tt 0) (nI (p + 1)) (-1) ++ (wDo D a we ce co sg cr Pp Kp Hp Lp Sp ++ (wTx D tt (nI t) tx))) (fun w1 => w1 = wRd D rr (tt 0) (nI (rBp tx t p)) (-1) ++ (wDo D a we ce (co + 1) (sg ||| bit co) cr (upd Pp co.toNatClampNeg (rA1 tx t p).2.1) (upd Kp co.toNatClampNeg (rA2 tx t p).2.1) (upd Hp co.toNatClampNeg (rA3 tx t p).2.1) (upd Lp co.toNatClampNeg (rA4 tx t p).2.1) (upd Sp co.toNatClampNeg 0) ++ wTx D tt (nI t) tx)) := by
  refine MV.of (cc := cX2_readBlock) (nL := 6) (lv0 := [(0, .ref (rr 0)), (1, .ref (a 0))]) (by decide +kernel) rfl (Nat.le_of_ble_eq_true rfl) rfl ?_
  intro X hXl hin C ret
  subst hXl
  obtain ⟨-, hA1, hA2, hA3, hA4⟩ := rBo_i ho
  refine j_aload_n C 0 dX2_readBlock_0 rfl rfl ?_
  refine j_iconst C (v := (3 : Int32)) dX2_readBlock_1 rfl ?_
  refine j_iconst C (v := (0 : Int32)) dX2_readBlock_2 rfl ?_
  refine j_sipush C (v := (400 : Int32)) dX2_readBlock_3 rfl ?_
  refine j_bipush C (v := (44 : Int32)) dX2_readBlock_6 rfl ?_
  refine j_cv_i C (As := [.int (3 : Int32), .int (0 : Int32), .int (400 : Int32), .int (44 : Int32)]) (rest := []) (ctX2_readNumber (xl X) D rr tt tx t (by first | assumption | omega | decide) (p + 1) (by omega) 3 (by first | assumption | omega | decide) (0 : Int32) (400 : Int32) (44 : Int32)) mfX2_readNumber gX2_readBlock_X2_readNumber rfl (Nat.le_of_ble_eq_true rfl) (Nat.le_of_ble_eq_true rfl) (Nat.le_of_ble_eq_true rfl) (Nat.le_of_ble_eq_true rfl) [0, 7, 8] rfl rfl 0 rfl rfl rfl rfl (Nat.le_of_ble_eq_true rfl) dX2_readBlock_8 ?_
  rintro r_8 _ ⟨po_8, hr_8, rfl⟩
  refine ⟨Eq.trans (b := [rr 0, tt 0, tt 1]) rfl rfl, ?_⟩
  refine j_w (w' := (wRd D rr (tt 0) po_8 (rdE ((rN tx t (p + 1) 3 (0 : Int32) (400 : Int32) (44 : Int32)).1, (rN tx t (p + 1) 3 (0 : Int32) (400 : Int32) (44 : Int32)).2.2)) ++ (wDo D a we ce co sg cr Pp Kp Hp Lp Sp ++ (wTx D tt (nI t) tx)))) rfl ?_
  obtain ⟨rfl, rfl⟩ := hr_8 hA1
  rw [show rdE ((rN tx t (p + 1) 3 (0 : Int32) (400 : Int32) (44 : Int32)).1, (rN tx t (p + 1) 3 (0 : Int32) (400 : Int32) (44 : Int32)).2.2) = (-1 : Int32) from rdE_t hA1]
  show J D X (wRd D rr (tt 0) (nI (rA1 tx t p).2.2) (-1) ++ (wDo D a we ce co sg cr Pp Kp Hp Lp Sp ++ (wTx D tt (nI t) tx))) 0 0 11 [(0, .ref (rr 0)), (1, .ref (a 0))] [.int ((rA1 tx t p).2.1)]
  refine j_istore_n C dX2_readBlock_11 rfl (by decide) (lv' := [(2, .int ((rA1 tx t p).2.1)), (0, .ref (rr 0)), (1, .ref (a 0))]) rfl ?_
  refine j_aload_n C 1 dX2_readBlock_12 rfl rfl ?_
  refine j_iconst C (v := (3 : Int32)) dX2_readBlock_13 rfl ?_
  refine j_iconst C (v := (1 : Int32)) dX2_readBlock_14 rfl ?_
  refine j_bipush C (v := (100 : Int32)) dX2_readBlock_15 rfl ?_
  refine j_bipush C (v := (44 : Int32)) dX2_readBlock_17 rfl ?_
  refine j_cv_i C (As := [.int (3 : Int32), .int (1 : Int32), .int (100 : Int32), .int (44 : Int32)]) (rest := []) (ctX2_readNumber (xl X) D rr tt tx t (by first | assumption | omega | decide) ((rA1 tx t p).2.2) (rA_le hp).1 3 (by first | assumption | omega | decide) (1 : Int32) (100 : Int32) (44 : Int32)) mfX2_readNumber gX2_readBlock_X2_readNumber rfl (Nat.le_of_ble_eq_true rfl) (Nat.le_of_ble_eq_true rfl) (Nat.le_of_ble_eq_true rfl) (Nat.le_of_ble_eq_true rfl) [0, 7, 8] rfl rfl 0 rfl rfl rfl rfl (Nat.le_of_ble_eq_true rfl) dX2_readBlock_19 ?_
  rintro r_19 _ ⟨po_19, hr_19, rfl⟩
  refine ⟨Eq.trans (b := [rr 0, tt 0, tt 1]) rfl rfl, ?_⟩
  refine j_w (w' := (wRd D rr (tt 0) po_19 (rdE ((rN tx t ((rA1 tx t p).2.2) 3 (1 : Int32) (100 : Int32) (44 : Int32)).1, (rN tx t ((rA1 tx t p).2.2) 3 (1 : Int32) (100 : Int32) (44 : Int32)).2.2)) ++ (wDo D a we ce co sg cr Pp Kp Hp Lp Sp ++ (wTx D tt (nI t) tx)))) rfl ?_
  obtain ⟨rfl, rfl⟩ := hr_19 hA2
  rw [show rdE ((rN tx t ((rA1 tx t p).2.2) 3 (1 : Int32) (100 : Int32) (44 : Int32)).1, (rN tx t ((rA1 tx t p).2.2) 3 (1 : Int32) (100 : Int32) (44 : Int32)).2.2) = (-1 : Int32) from rdE_t hA2]
  show J D X (wRd D rr (tt 0) (nI (rA2 tx t p).2.2) (-1) ++ (wDo D a we ce co sg cr Pp Kp Hp Lp Sp ++ (wTx D tt (nI t) tx))) 0 0 22 [(2, .int ((rA1 tx t p).2.1)), (0, .ref (rr 0)), (1, .ref (a 0))] [.int ((rA2 tx t p).2.1)]
  refine j_istore_n C dX2_readBlock_22 rfl (by decide) (lv' := [(3, .int ((rA2 tx t p).2.1)), (2, .int ((rA1 tx t p).2.1)), (0, .ref (rr 0)), (1, .ref (a 0))]) rfl ?_
  refine j_aload_n C 2 dX2_readBlock_23 rfl rfl ?_
  refine j_iconst C (v := (2 : Int32)) dX2_readBlock_24 rfl ?_
  refine j_bipush C (v := (-50 : Int32)) dX2_readBlock_25 rfl ?_
  refine j_bipush C (v := (50 : Int32)) dX2_readBlock_27 rfl ?_
  refine j_bipush C (v := (44 : Int32)) dX2_readBlock_29 rfl ?_
  refine j_cv_i C (As := [.int (2 : Int32), .int (-50 : Int32), .int (50 : Int32), .int (44 : Int32)]) (rest := []) (ctX2_readNumber (xl X) D rr tt tx t (by first | assumption | omega | decide) ((rA2 tx t p).2.2) (rA_le hp).2.1 2 (by first | assumption | omega | decide) (-50 : Int32) (50 : Int32) (44 : Int32)) mfX2_readNumber gX2_readBlock_X2_readNumber rfl (Nat.le_of_ble_eq_true rfl) (Nat.le_of_ble_eq_true rfl) (Nat.le_of_ble_eq_true rfl) (Nat.le_of_ble_eq_true rfl) [0, 7, 8] rfl rfl 0 rfl rfl rfl rfl (Nat.le_of_ble_eq_true rfl) dX2_readBlock_31 ?_
  rintro r_31 _ ⟨po_31, hr_31, rfl⟩
  refine ⟨Eq.trans (b := [rr 0, tt 0, tt 1]) rfl rfl, ?_⟩
  refine j_w (w' := (wRd D rr (tt 0) po_31 (rdE ((rN tx t ((rA2 tx t p).2.2) 2 (-50 : Int32) (50 : Int32) (44 : Int32)).1, (rN tx t ((rA2 tx t p).2.2) 2 (-50 : Int32) (50 : Int32) (44 : Int32)).2.2)) ++ (wDo D a we ce co sg cr Pp Kp Hp Lp Sp ++ (wTx D tt (nI t) tx)))) rfl ?_
  obtain ⟨rfl, rfl⟩ := hr_31 hA3
  rw [show rdE ((rN tx t ((rA2 tx t p).2.2) 2 (-50 : Int32) (50 : Int32) (44 : Int32)).1, (rN tx t ((rA2 tx t p).2.2) 2 (-50 : Int32) (50 : Int32) (44 : Int32)).2.2) = (-1 : Int32) from rdE_t hA3]
  show J D X (wRd D rr (tt 0) (nI (rA3 tx t p).2.2) (-1) ++ (wDo D a we ce co sg cr Pp Kp Hp Lp Sp ++ (wTx D tt (nI t) tx))) 0 0 34 [(3, .int ((rA2 tx t p).2.1)), (2, .int ((rA1 tx t p).2.1)), (0, .ref (rr 0)), (1, .ref (a 0))] [.int ((rA3 tx t p).2.1)]
  refine j_istore C dX2_readBlock_34 (by decide) (lv' := [(4, .int ((rA3 tx t p).2.1)), (3, .int ((rA2 tx t p).2.1)), (2, .int ((rA1 tx t p).2.1)), (0, .ref (rr 0)), (1, .ref (a 0))]) rfl ?_
  refine j_aload_n C 3 dX2_readBlock_36 rfl rfl ?_
  refine j_iconst C (v := (5 : Int32)) dX2_readBlock_37 rfl ?_
  refine j_iconst C (v := (1 : Int32)) dX2_readBlock_38 rfl ?_
  refine j_ldc C kX2_readBlock_51 dX2_readBlock_39 ?_
  refine j_bipush C (v := (59 : Int32)) dX2_readBlock_41 rfl ?_
  refine j_cv_i C (As := [.int (5 : Int32), .int (1 : Int32), .int (99999 : Int32), .int (59 : Int32)]) (rest := []) (ctX2_readNumber (xl X) D rr tt tx t (by first | assumption | omega | decide) ((rA3 tx t p).2.2) (rA_le hp).2.2.1 5 (by first | assumption | omega | decide) (1 : Int32) (99999 : Int32) (59 : Int32)) mfX2_readNumber gX2_readBlock_X2_readNumber rfl (Nat.le_of_ble_eq_true rfl) (Nat.le_of_ble_eq_true rfl) (Nat.le_of_ble_eq_true rfl) (Nat.le_of_ble_eq_true rfl) [0, 7, 8] rfl rfl 0 rfl rfl rfl rfl (Nat.le_of_ble_eq_true rfl) dX2_readBlock_43 ?_
  rintro r_43 _ ⟨po_43, hr_43, rfl⟩
  refine ⟨Eq.trans (b := [rr 0, tt 0, tt 1]) rfl rfl, ?_⟩
  refine j_w (w' := (wRd D rr (tt 0) po_43 (rdE ((rN tx t ((rA3 tx t p).2.2) 5 (1 : Int32) (99999 : Int32) (59 : Int32)).1, (rN tx t ((rA3 tx t p).2.2) 5 (1 : Int32) (99999 : Int32) (59 : Int32)).2.2)) ++ (wDo D a we ce co sg cr Pp Kp Hp Lp Sp ++ (wTx D tt (nI t) tx)))) rfl ?_
  obtain ⟨rfl, rfl⟩ := hr_43 hA4
  rw [show rdE ((rN tx t ((rA3 tx t p).2.2) 5 (1 : Int32) (99999 : Int32) (59 : Int32)).1, (rN tx t ((rA3 tx t p).2.2) 5 (1 : Int32) (99999 : Int32) (59 : Int32)).2.2) = (-1 : Int32) from rdE_t hA4]
  show J D X (wRd D rr (tt 0) (nI (rA4 tx t p).2.2) (-1) ++ (wDo D a we ce co sg cr Pp Kp Hp Lp Sp ++ (wTx D tt (nI t) tx))) 0 0 46 [(4, .int ((rA3 tx t p).2.1)), (3, .int ((rA2 tx t p).2.1)), (2, .int ((rA1 tx t p).2.1)), (0, .ref (rr 0)), (1, .ref (a 0))] [.int ((rA4 tx t p).2.1)]
  refine j_istore C dX2_readBlock_46 (by decide) (lv' := [(5, .int ((rA4 tx t p).2.1)), (4, .int ((rA3 tx t p).2.1)), (3, .int ((rA2 tx t p).2.1)), (2, .int ((rA1 tx t p).2.1)), (0, .ref (rr 0)), (1, .ref (a 0))]) rfl ?_
  refine j_aload_n C 4 dX2_readBlock_48 rfl rfl ?_
  refine j_get C 0 fgX2_readBlock_15 rfl rfl dX2_readBlock_49 ?_
  refine j_iconst C (v := (-1 : Int32)) dX2_readBlock_52 rfl ?_
  refine j_icmp_ne C dX2_readBlock_53 (tgt := 67) (by decide) (fun h => absurd rfl h) (fun _ => ?_)
  refine j_aload_n C 5 dX2_readBlock_56 rfl rfl ?_
  refine j_iload_n C 3 dX2_readBlock_57 rfl rfl ?_
  refine j_iload_n C 2 dX2_readBlock_58 rfl rfl ?_
  refine j_iload C 1 dX2_readBlock_59 rfl ?_
  refine j_iload C 0 dX2_readBlock_61 rfl ?_
  refine j_cv_i C (As := [.int ((rA1 tx t p).2.1), .int ((rA2 tx t p).2.1), .int ((rA3 tx t p).2.1), .int ((rA4 tx t p).2.1)]) (rest := []) (ctX1_add (xl X) D a we ce co sg cr Pp Kp Hp Lp Sp ((rA1 tx t p).2.1) ((rA2 tx t p).2.1) ((rA3 tx t p).2.1) ((rA4 tx t p).2.1) (by first | assumption | omega | decide)) mfX1_add gX2_readBlock_X1_add rfl (Nat.le_of_ble_eq_true rfl) (Nat.le_of_ble_eq_true rfl) (Nat.le_of_ble_eq_true rfl) (Nat.le_of_ble_eq_true rfl) [1, 2, 3, 4, 5, 6] rfl rfl 0 rfl rfl rfl rfl (Nat.le_of_ble_eq_true rfl) dX2_readBlock_63 ?_
  rintro r_63 _ ⟨hr_63, rfl⟩
  refine ⟨Eq.trans (b := [a 0, a 1, a 2, a 3, a 4, a 5]) rfl rfl, ?_⟩
  refine j_w (w' := (wRd D rr (tt 0) (nI (rA4 tx t p).2.2) (-1) ++ (wDo D a we ce (co + 1) (sg ||| bit co) cr (upd Pp co.toNatClampNeg ((rA1 tx t p).2.1)) (upd Kp co.toNatClampNeg ((rA2 tx t p).2.1)) (upd Hp co.toNatClampNeg ((rA3 tx t p).2.1)) (upd Lp co.toNatClampNeg ((rA4 tx t p).2.1)) (upd Sp co.toNatClampNeg 0) ++ (wTx D tt (nI t) tx)))) rfl ?_
  refine j_pop C dX2_readBlock_66 rfl ?_
  exact ret dX2_readBlock_67 (by rw [(rB_5 h98 hA1 hA2 hA3 hA4).2])

set_option maxRecDepth 100000 in
set_option maxHeartbeats 4000000 in
theorem ctX2_readBlockF (l : Launch) (D : KD) (rr tt a : Nat → Nat) (tx : Nat → Int32) (t : Nat) (ht : t ≤ 160) (p : Nat) (hp : p < t) (we ce co sg cr : Int32) (Pp Kp Hp Lp Sp : Nat → Int32) (h98 : rh tx t p = 98) (ho : rBo tx t p = false) : MV l D yX2_readBlock wsX2_readBlock 2 51 0 0 [.ref (rr 0), .ref (a 0)] (wRd D rr (tt 0) (nI (p + 1)) (-1) ++ (wDo D a we ce co sg cr Pp Kp Hp Lp Sp ++ (wTx D tt (nI t) tx))) (fun w1 => ∃ po1 : Int32, w1 = wRd D rr (tt 0) po1 (nI (rBp tx t p)) ++ (wDo D a we ce co sg cr Pp Kp Hp Lp Sp ++ wTx D tt (nI t) tx)) := by
  refine MV.of (cc := cX2_readBlock) (nL := 6) (lv0 := [(0, .ref (rr 0)), (1, .ref (a 0))]) (by decide +kernel) rfl (Nat.le_of_ble_eq_true rfl) rfl ?_
  intro X hXl hin C ret
  subst hXl
  have hle := rA_le (tx := tx) hp
  refine j_aload_n C 0 dX2_readBlock_0 rfl rfl ?_
  refine j_iconst C (v := (3 : Int32)) dX2_readBlock_1 rfl ?_
  refine j_iconst C (v := (0 : Int32)) dX2_readBlock_2 rfl ?_
  refine j_sipush C (v := (400 : Int32)) dX2_readBlock_3 rfl ?_
  refine j_bipush C (v := (44 : Int32)) dX2_readBlock_6 rfl ?_
  refine j_cv_i C (As := [.int (3 : Int32), .int (0 : Int32), .int (400 : Int32), .int (44 : Int32)]) (rest := []) (ctX2_readNumber (xl X) D rr tt tx t (by first | assumption | omega | decide) (p + 1) (by omega) 3 (by first | assumption | omega | decide) (0 : Int32) (400 : Int32) (44 : Int32)) mfX2_readNumber gX2_readBlock_X2_readNumber rfl (Nat.le_of_ble_eq_true rfl) (Nat.le_of_ble_eq_true rfl) (Nat.le_of_ble_eq_true rfl) (Nat.le_of_ble_eq_true rfl) [0, 7, 8] rfl rfl 0 rfl rfl rfl rfl (Nat.le_of_ble_eq_true rfl) dX2_readBlock_8 ?_
  rintro r_8 _ ⟨po_8, hr_8, rfl⟩
  refine ⟨Eq.trans (b := [rr 0, tt 0, tt 1]) rfl rfl, ?_⟩
  refine j_w (w' := (wRd D rr (tt 0) po_8 (rdE ((rN tx t (p + 1) 3 (0 : Int32) (400 : Int32) (44 : Int32)).1, (rN tx t (p + 1) 3 (0 : Int32) (400 : Int32) (44 : Int32)).2.2)) ++ (wDo D a we ce co sg cr Pp Kp Hp Lp Sp ++ (wTx D tt (nI t) tx)))) rfl ?_
  cases hA1 : (rA1 tx t p).1 with
  | false =>
    rw [show rdE ((rN tx t (p + 1) 3 (0 : Int32) (400 : Int32) (44 : Int32)).1, (rN tx t (p + 1) 3 (0 : Int32) (400 : Int32) (44 : Int32)).2.2) = nI (rA1 tx t p).2.2 from rdE_f hA1]
    refine j_istore_n C dX2_readBlock_11 rfl (by decide) (lv' := [(2, .int r_8), (0, .ref (rr 0)), (1, .ref (a 0))]) rfl ?_
    refine j_aload_n C 1 dX2_readBlock_12 rfl rfl ?_
    refine j_iconst C (v := (3 : Int32)) dX2_readBlock_13 rfl ?_
    refine j_iconst C (v := (1 : Int32)) dX2_readBlock_14 rfl ?_
    refine j_bipush C (v := (100 : Int32)) dX2_readBlock_15 rfl ?_
    refine j_bipush C (v := (44 : Int32)) dX2_readBlock_17 rfl ?_
    refine j_cv_i C (As := [.int (3 : Int32), .int (1 : Int32), .int (100 : Int32), .int (44 : Int32)]) (rest := []) (ctX2_readNumberX (xl X) D rr tt tx t (by first | assumption | omega | decide) po_8 (nI (rA1 tx t p).2.2) (nI_m1 (by omega)) 3 (by first | assumption | omega | decide) (1 : Int32) (100 : Int32) (44 : Int32)) mfX2_readNumber gX2_readBlock_X2_readNumber rfl (Nat.le_of_ble_eq_true rfl) (Nat.le_of_ble_eq_true rfl) (Nat.le_of_ble_eq_true rfl) (Nat.le_of_ble_eq_true rfl) [0, 7, 8] rfl rfl 0 rfl rfl rfl rfl (Nat.le_of_ble_eq_true rfl) dX2_readBlock_19 ?_
    rintro _ _ ⟨rfl, rfl⟩
    refine ⟨Eq.trans (b := [rr 0, tt 0, tt 1]) rfl rfl, ?_⟩
    refine j_w (w' := (wRd D rr (tt 0) po_8 (nI (rA1 tx t p).2.2) ++ (wDo D a we ce co sg cr Pp Kp Hp Lp Sp ++ (wTx D tt (nI t) tx)))) rfl ?_
    refine j_istore_n C dX2_readBlock_22 rfl (by decide) (lv' := [(3, .int (0 : Int32)), (2, .int r_8), (0, .ref (rr 0)), (1, .ref (a 0))]) rfl ?_
    refine j_aload_n C 2 dX2_readBlock_23 rfl rfl ?_
    refine j_iconst C (v := (2 : Int32)) dX2_readBlock_24 rfl ?_
    refine j_bipush C (v := (-50 : Int32)) dX2_readBlock_25 rfl ?_
    refine j_bipush C (v := (50 : Int32)) dX2_readBlock_27 rfl ?_
    refine j_bipush C (v := (44 : Int32)) dX2_readBlock_29 rfl ?_
    refine j_cv_i C (As := [.int (2 : Int32), .int (-50 : Int32), .int (50 : Int32), .int (44 : Int32)]) (rest := []) (ctX2_readNumberX (xl X) D rr tt tx t (by first | assumption | omega | decide) po_8 (nI (rA1 tx t p).2.2) (nI_m1 (by omega)) 2 (by first | assumption | omega | decide) (-50 : Int32) (50 : Int32) (44 : Int32)) mfX2_readNumber gX2_readBlock_X2_readNumber rfl (Nat.le_of_ble_eq_true rfl) (Nat.le_of_ble_eq_true rfl) (Nat.le_of_ble_eq_true rfl) (Nat.le_of_ble_eq_true rfl) [0, 7, 8] rfl rfl 0 rfl rfl rfl rfl (Nat.le_of_ble_eq_true rfl) dX2_readBlock_31 ?_
    rintro _ _ ⟨rfl, rfl⟩
    refine ⟨Eq.trans (b := [rr 0, tt 0, tt 1]) rfl rfl, ?_⟩
    refine j_w (w' := (wRd D rr (tt 0) po_8 (nI (rA1 tx t p).2.2) ++ (wDo D a we ce co sg cr Pp Kp Hp Lp Sp ++ (wTx D tt (nI t) tx)))) rfl ?_
    refine j_istore C dX2_readBlock_34 (by decide) (lv' := [(4, .int (0 : Int32)), (3, .int (0 : Int32)), (2, .int r_8), (0, .ref (rr 0)), (1, .ref (a 0))]) rfl ?_
    refine j_aload_n C 3 dX2_readBlock_36 rfl rfl ?_
    refine j_iconst C (v := (5 : Int32)) dX2_readBlock_37 rfl ?_
    refine j_iconst C (v := (1 : Int32)) dX2_readBlock_38 rfl ?_
    refine j_ldc C kX2_readBlock_51 dX2_readBlock_39 ?_
    refine j_bipush C (v := (59 : Int32)) dX2_readBlock_41 rfl ?_
    refine j_cv_i C (As := [.int (5 : Int32), .int (1 : Int32), .int (99999 : Int32), .int (59 : Int32)]) (rest := []) (ctX2_readNumberX (xl X) D rr tt tx t (by first | assumption | omega | decide) po_8 (nI (rA1 tx t p).2.2) (nI_m1 (by omega)) 5 (by first | assumption | omega | decide) (1 : Int32) (99999 : Int32) (59 : Int32)) mfX2_readNumber gX2_readBlock_X2_readNumber rfl (Nat.le_of_ble_eq_true rfl) (Nat.le_of_ble_eq_true rfl) (Nat.le_of_ble_eq_true rfl) (Nat.le_of_ble_eq_true rfl) [0, 7, 8] rfl rfl 0 rfl rfl rfl rfl (Nat.le_of_ble_eq_true rfl) dX2_readBlock_43 ?_
    rintro _ _ ⟨rfl, rfl⟩
    refine ⟨Eq.trans (b := [rr 0, tt 0, tt 1]) rfl rfl, ?_⟩
    refine j_w (w' := (wRd D rr (tt 0) po_8 (nI (rA1 tx t p).2.2) ++ (wDo D a we ce co sg cr Pp Kp Hp Lp Sp ++ (wTx D tt (nI t) tx)))) rfl ?_
    refine j_istore C dX2_readBlock_46 (by decide) (lv' := [(5, .int (0 : Int32)), (4, .int (0 : Int32)), (3, .int (0 : Int32)), (2, .int r_8), (0, .ref (rr 0)), (1, .ref (a 0))]) rfl ?_
    refine j_aload_n C 4 dX2_readBlock_48 rfl rfl ?_
    refine j_get C 0 fgX2_readBlock_15 rfl rfl dX2_readBlock_49 ?_
    refine j_iconst C (v := (-1 : Int32)) dX2_readBlock_52 rfl ?_
    refine j_icmp_ne C dX2_readBlock_53 (tgt := 67) (by decide) (fun _ => ?_) (fun h => absurd h (nI_m1 (by omega)))
    exact ret dX2_readBlock_67 (⟨_, by rw [(rB_1 h98 hA1).2]⟩)
  | true =>
    obtain ⟨rfl, rfl⟩ := hr_8 hA1
    rw [show rdE ((rN tx t (p + 1) 3 (0 : Int32) (400 : Int32) (44 : Int32)).1, (rN tx t (p + 1) 3 (0 : Int32) (400 : Int32) (44 : Int32)).2.2) = (-1 : Int32) from rdE_t hA1]
    show J D X (wRd D rr (tt 0) (nI (rA1 tx t p).2.2) (-1) ++ (wDo D a we ce co sg cr Pp Kp Hp Lp Sp ++ (wTx D tt (nI t) tx))) 0 0 11 [(0, .ref (rr 0)), (1, .ref (a 0))] [.int ((rA1 tx t p).2.1)]
    refine j_istore_n C dX2_readBlock_11 rfl (by decide) (lv' := [(2, .int ((rA1 tx t p).2.1)), (0, .ref (rr 0)), (1, .ref (a 0))]) rfl ?_
    refine j_aload_n C 1 dX2_readBlock_12 rfl rfl ?_
    refine j_iconst C (v := (3 : Int32)) dX2_readBlock_13 rfl ?_
    refine j_iconst C (v := (1 : Int32)) dX2_readBlock_14 rfl ?_
    refine j_bipush C (v := (100 : Int32)) dX2_readBlock_15 rfl ?_
    refine j_bipush C (v := (44 : Int32)) dX2_readBlock_17 rfl ?_
    refine j_cv_i C (As := [.int (3 : Int32), .int (1 : Int32), .int (100 : Int32), .int (44 : Int32)]) (rest := []) (ctX2_readNumber (xl X) D rr tt tx t (by first | assumption | omega | decide) ((rA1 tx t p).2.2) (rA_le hp).1 3 (by first | assumption | omega | decide) (1 : Int32) (100 : Int32) (44 : Int32)) mfX2_readNumber gX2_readBlock_X2_readNumber rfl (Nat.le_of_ble_eq_true rfl) (Nat.le_of_ble_eq_true rfl) (Nat.le_of_ble_eq_true rfl) (Nat.le_of_ble_eq_true rfl) [0, 7, 8] rfl rfl 0 rfl rfl rfl rfl (Nat.le_of_ble_eq_true rfl) dX2_readBlock_19 ?_
    rintro r_19 _ ⟨po_19, hr_19, rfl⟩
    refine ⟨Eq.trans (b := [rr 0, tt 0, tt 1]) rfl rfl, ?_⟩
    refine j_w (w' := (wRd D rr (tt 0) po_19 (rdE ((rN tx t ((rA1 tx t p).2.2) 3 (1 : Int32) (100 : Int32) (44 : Int32)).1, (rN tx t ((rA1 tx t p).2.2) 3 (1 : Int32) (100 : Int32) (44 : Int32)).2.2)) ++ (wDo D a we ce co sg cr Pp Kp Hp Lp Sp ++ (wTx D tt (nI t) tx)))) rfl ?_
    cases hA2 : (rA2 tx t p).1 with
    | false =>
      rw [show rdE ((rN tx t ((rA1 tx t p).2.2) 3 (1 : Int32) (100 : Int32) (44 : Int32)).1, (rN tx t ((rA1 tx t p).2.2) 3 (1 : Int32) (100 : Int32) (44 : Int32)).2.2) = nI (rA2 tx t p).2.2 from rdE_f hA2]
      refine j_istore_n C dX2_readBlock_22 rfl (by decide) (lv' := [(3, .int r_19), (2, .int ((rA1 tx t p).2.1)), (0, .ref (rr 0)), (1, .ref (a 0))]) rfl ?_
      refine j_aload_n C 2 dX2_readBlock_23 rfl rfl ?_
      refine j_iconst C (v := (2 : Int32)) dX2_readBlock_24 rfl ?_
      refine j_bipush C (v := (-50 : Int32)) dX2_readBlock_25 rfl ?_
      refine j_bipush C (v := (50 : Int32)) dX2_readBlock_27 rfl ?_
      refine j_bipush C (v := (44 : Int32)) dX2_readBlock_29 rfl ?_
      refine j_cv_i C (As := [.int (2 : Int32), .int (-50 : Int32), .int (50 : Int32), .int (44 : Int32)]) (rest := []) (ctX2_readNumberX (xl X) D rr tt tx t (by first | assumption | omega | decide) po_19 (nI (rA2 tx t p).2.2) (nI_m1 (by omega)) 2 (by first | assumption | omega | decide) (-50 : Int32) (50 : Int32) (44 : Int32)) mfX2_readNumber gX2_readBlock_X2_readNumber rfl (Nat.le_of_ble_eq_true rfl) (Nat.le_of_ble_eq_true rfl) (Nat.le_of_ble_eq_true rfl) (Nat.le_of_ble_eq_true rfl) [0, 7, 8] rfl rfl 0 rfl rfl rfl rfl (Nat.le_of_ble_eq_true rfl) dX2_readBlock_31 ?_
      rintro _ _ ⟨rfl, rfl⟩
      refine ⟨Eq.trans (b := [rr 0, tt 0, tt 1]) rfl rfl, ?_⟩
      refine j_w (w' := (wRd D rr (tt 0) po_19 (nI (rA2 tx t p).2.2) ++ (wDo D a we ce co sg cr Pp Kp Hp Lp Sp ++ (wTx D tt (nI t) tx)))) rfl ?_
      refine j_istore C dX2_readBlock_34 (by decide) (lv' := [(4, .int (0 : Int32)), (3, .int r_19), (2, .int ((rA1 tx t p).2.1)), (0, .ref (rr 0)), (1, .ref (a 0))]) rfl ?_
      refine j_aload_n C 3 dX2_readBlock_36 rfl rfl ?_
      refine j_iconst C (v := (5 : Int32)) dX2_readBlock_37 rfl ?_
      refine j_iconst C (v := (1 : Int32)) dX2_readBlock_38 rfl ?_
      refine j_ldc C kX2_readBlock_51 dX2_readBlock_39 ?_
      refine j_bipush C (v := (59 : Int32)) dX2_readBlock_41 rfl ?_
      refine j_cv_i C (As := [.int (5 : Int32), .int (1 : Int32), .int (99999 : Int32), .int (59 : Int32)]) (rest := []) (ctX2_readNumberX (xl X) D rr tt tx t (by first | assumption | omega | decide) po_19 (nI (rA2 tx t p).2.2) (nI_m1 (by omega)) 5 (by first | assumption | omega | decide) (1 : Int32) (99999 : Int32) (59 : Int32)) mfX2_readNumber gX2_readBlock_X2_readNumber rfl (Nat.le_of_ble_eq_true rfl) (Nat.le_of_ble_eq_true rfl) (Nat.le_of_ble_eq_true rfl) (Nat.le_of_ble_eq_true rfl) [0, 7, 8] rfl rfl 0 rfl rfl rfl rfl (Nat.le_of_ble_eq_true rfl) dX2_readBlock_43 ?_
      rintro _ _ ⟨rfl, rfl⟩
      refine ⟨Eq.trans (b := [rr 0, tt 0, tt 1]) rfl rfl, ?_⟩
      refine j_w (w' := (wRd D rr (tt 0) po_19 (nI (rA2 tx t p).2.2) ++ (wDo D a we ce co sg cr Pp Kp Hp Lp Sp ++ (wTx D tt (nI t) tx)))) rfl ?_
      refine j_istore C dX2_readBlock_46 (by decide) (lv' := [(5, .int (0 : Int32)), (4, .int (0 : Int32)), (3, .int r_19), (2, .int ((rA1 tx t p).2.1)), (0, .ref (rr 0)), (1, .ref (a 0))]) rfl ?_
      refine j_aload_n C 4 dX2_readBlock_48 rfl rfl ?_
      refine j_get C 0 fgX2_readBlock_15 rfl rfl dX2_readBlock_49 ?_
      refine j_iconst C (v := (-1 : Int32)) dX2_readBlock_52 rfl ?_
      refine j_icmp_ne C dX2_readBlock_53 (tgt := 67) (by decide) (fun _ => ?_) (fun h => absurd h (nI_m1 (by omega)))
      exact ret dX2_readBlock_67 (⟨_, by rw [(rB_2 h98 hA1 hA2).2]⟩)
    | true =>
      obtain ⟨rfl, rfl⟩ := hr_19 hA2
      rw [show rdE ((rN tx t ((rA1 tx t p).2.2) 3 (1 : Int32) (100 : Int32) (44 : Int32)).1, (rN tx t ((rA1 tx t p).2.2) 3 (1 : Int32) (100 : Int32) (44 : Int32)).2.2) = (-1 : Int32) from rdE_t hA2]
      show J D X (wRd D rr (tt 0) (nI (rA2 tx t p).2.2) (-1) ++ (wDo D a we ce co sg cr Pp Kp Hp Lp Sp ++ (wTx D tt (nI t) tx))) 0 0 22 [(2, .int ((rA1 tx t p).2.1)), (0, .ref (rr 0)), (1, .ref (a 0))] [.int ((rA2 tx t p).2.1)]
      refine j_istore_n C dX2_readBlock_22 rfl (by decide) (lv' := [(3, .int ((rA2 tx t p).2.1)), (2, .int ((rA1 tx t p).2.1)), (0, .ref (rr 0)), (1, .ref (a 0))]) rfl ?_
      refine j_aload_n C 2 dX2_readBlock_23 rfl rfl ?_
      refine j_iconst C (v := (2 : Int32)) dX2_readBlock_24 rfl ?_
      refine j_bipush C (v := (-50 : Int32)) dX2_readBlock_25 rfl ?_
      refine j_bipush C (v := (50 : Int32)) dX2_readBlock_27 rfl ?_
      refine j_bipush C (v := (44 : Int32)) dX2_readBlock_29 rfl ?_
      refine j_cv_i C (As := [.int (2 : Int32), .int (-50 : Int32), .int (50 : Int32), .int (44 : Int32)]) (rest := []) (ctX2_readNumber (xl X) D rr tt tx t (by first | assumption | omega | decide) ((rA2 tx t p).2.2) (rA_le hp).2.1 2 (by first | assumption | omega | decide) (-50 : Int32) (50 : Int32) (44 : Int32)) mfX2_readNumber gX2_readBlock_X2_readNumber rfl (Nat.le_of_ble_eq_true rfl) (Nat.le_of_ble_eq_true rfl) (Nat.le_of_ble_eq_true rfl) (Nat.le_of_ble_eq_true rfl) [0, 7, 8] rfl rfl 0 rfl rfl rfl rfl (Nat.le_of_ble_eq_true rfl) dX2_readBlock_31 ?_
      rintro r_31 _ ⟨po_31, hr_31, rfl⟩
      refine ⟨Eq.trans (b := [rr 0, tt 0, tt 1]) rfl rfl, ?_⟩
      refine j_w (w' := (wRd D rr (tt 0) po_31 (rdE ((rN tx t ((rA2 tx t p).2.2) 2 (-50 : Int32) (50 : Int32) (44 : Int32)).1, (rN tx t ((rA2 tx t p).2.2) 2 (-50 : Int32) (50 : Int32) (44 : Int32)).2.2)) ++ (wDo D a we ce co sg cr Pp Kp Hp Lp Sp ++ (wTx D tt (nI t) tx)))) rfl ?_
      cases hA3 : (rA3 tx t p).1 with
      | false =>
        rw [show rdE ((rN tx t ((rA2 tx t p).2.2) 2 (-50 : Int32) (50 : Int32) (44 : Int32)).1, (rN tx t ((rA2 tx t p).2.2) 2 (-50 : Int32) (50 : Int32) (44 : Int32)).2.2) = nI (rA3 tx t p).2.2 from rdE_f hA3]
        refine j_istore C dX2_readBlock_34 (by decide) (lv' := [(4, .int r_31), (3, .int ((rA2 tx t p).2.1)), (2, .int ((rA1 tx t p).2.1)), (0, .ref (rr 0)), (1, .ref (a 0))]) rfl ?_
        refine j_aload_n C 3 dX2_readBlock_36 rfl rfl ?_
        refine j_iconst C (v := (5 : Int32)) dX2_readBlock_37 rfl ?_
        refine j_iconst C (v := (1 : Int32)) dX2_readBlock_38 rfl ?_
        refine j_ldc C kX2_readBlock_51 dX2_readBlock_39 ?_
        refine j_bipush C (v := (59 : Int32)) dX2_readBlock_41 rfl ?_
        refine j_cv_i C (As := [.int (5 : Int32), .int (1 : Int32), .int (99999 : Int32), .int (59 : Int32)]) (rest := []) (ctX2_readNumberX (xl X) D rr tt tx t (by first | assumption | omega | decide) po_31 (nI (rA3 tx t p).2.2) (nI_m1 (by omega)) 5 (by first | assumption | omega | decide) (1 : Int32) (99999 : Int32) (59 : Int32)) mfX2_readNumber gX2_readBlock_X2_readNumber rfl (Nat.le_of_ble_eq_true rfl) (Nat.le_of_ble_eq_true rfl) (Nat.le_of_ble_eq_true rfl) (Nat.le_of_ble_eq_true rfl) [0, 7, 8] rfl rfl 0 rfl rfl rfl rfl (Nat.le_of_ble_eq_true rfl) dX2_readBlock_43 ?_
        rintro _ _ ⟨rfl, rfl⟩
        refine ⟨Eq.trans (b := [rr 0, tt 0, tt 1]) rfl rfl, ?_⟩
        refine j_w (w' := (wRd D rr (tt 0) po_31 (nI (rA3 tx t p).2.2) ++ (wDo D a we ce co sg cr Pp Kp Hp Lp Sp ++ (wTx D tt (nI t) tx)))) rfl ?_
        refine j_istore C dX2_readBlock_46 (by decide) (lv' := [(5, .int (0 : Int32)), (4, .int r_31), (3, .int ((rA2 tx t p).2.1)), (2, .int ((rA1 tx t p).2.1)), (0, .ref (rr 0)), (1, .ref (a 0))]) rfl ?_
        refine j_aload_n C 4 dX2_readBlock_48 rfl rfl ?_
        refine j_get C 0 fgX2_readBlock_15 rfl rfl dX2_readBlock_49 ?_
        refine j_iconst C (v := (-1 : Int32)) dX2_readBlock_52 rfl ?_
        refine j_icmp_ne C dX2_readBlock_53 (tgt := 67) (by decide) (fun _ => ?_) (fun h => absurd h (nI_m1 (by omega)))
        exact ret dX2_readBlock_67 (⟨_, by rw [(rB_3 h98 hA1 hA2 hA3).2]⟩)
      | true =>
        obtain ⟨rfl, rfl⟩ := hr_31 hA3
        rw [show rdE ((rN tx t ((rA2 tx t p).2.2) 2 (-50 : Int32) (50 : Int32) (44 : Int32)).1, (rN tx t ((rA2 tx t p).2.2) 2 (-50 : Int32) (50 : Int32) (44 : Int32)).2.2) = (-1 : Int32) from rdE_t hA3]
        show J D X (wRd D rr (tt 0) (nI (rA3 tx t p).2.2) (-1) ++ (wDo D a we ce co sg cr Pp Kp Hp Lp Sp ++ (wTx D tt (nI t) tx))) 0 0 34 [(3, .int ((rA2 tx t p).2.1)), (2, .int ((rA1 tx t p).2.1)), (0, .ref (rr 0)), (1, .ref (a 0))] [.int ((rA3 tx t p).2.1)]
        refine j_istore C dX2_readBlock_34 (by decide) (lv' := [(4, .int ((rA3 tx t p).2.1)), (3, .int ((rA2 tx t p).2.1)), (2, .int ((rA1 tx t p).2.1)), (0, .ref (rr 0)), (1, .ref (a 0))]) rfl ?_
        refine j_aload_n C 3 dX2_readBlock_36 rfl rfl ?_
        refine j_iconst C (v := (5 : Int32)) dX2_readBlock_37 rfl ?_
        refine j_iconst C (v := (1 : Int32)) dX2_readBlock_38 rfl ?_
        refine j_ldc C kX2_readBlock_51 dX2_readBlock_39 ?_
        refine j_bipush C (v := (59 : Int32)) dX2_readBlock_41 rfl ?_
        refine j_cv_i C (As := [.int (5 : Int32), .int (1 : Int32), .int (99999 : Int32), .int (59 : Int32)]) (rest := []) (ctX2_readNumber (xl X) D rr tt tx t (by first | assumption | omega | decide) ((rA3 tx t p).2.2) (rA_le hp).2.2.1 5 (by first | assumption | omega | decide) (1 : Int32) (99999 : Int32) (59 : Int32)) mfX2_readNumber gX2_readBlock_X2_readNumber rfl (Nat.le_of_ble_eq_true rfl) (Nat.le_of_ble_eq_true rfl) (Nat.le_of_ble_eq_true rfl) (Nat.le_of_ble_eq_true rfl) [0, 7, 8] rfl rfl 0 rfl rfl rfl rfl (Nat.le_of_ble_eq_true rfl) dX2_readBlock_43 ?_
        rintro r_43 _ ⟨po_43, hr_43, rfl⟩
        refine ⟨Eq.trans (b := [rr 0, tt 0, tt 1]) rfl rfl, ?_⟩
        refine j_w (w' := (wRd D rr (tt 0) po_43 (rdE ((rN tx t ((rA3 tx t p).2.2) 5 (1 : Int32) (99999 : Int32) (59 : Int32)).1, (rN tx t ((rA3 tx t p).2.2) 5 (1 : Int32) (99999 : Int32) (59 : Int32)).2.2)) ++ (wDo D a we ce co sg cr Pp Kp Hp Lp Sp ++ (wTx D tt (nI t) tx)))) rfl ?_
        cases hA4 : (rA4 tx t p).1 with
        | false =>
          rw [show rdE ((rN tx t ((rA3 tx t p).2.2) 5 (1 : Int32) (99999 : Int32) (59 : Int32)).1, (rN tx t ((rA3 tx t p).2.2) 5 (1 : Int32) (99999 : Int32) (59 : Int32)).2.2) = nI (rA4 tx t p).2.2 from rdE_f hA4]
          refine j_istore C dX2_readBlock_46 (by decide) (lv' := [(5, .int r_43), (4, .int ((rA3 tx t p).2.1)), (3, .int ((rA2 tx t p).2.1)), (2, .int ((rA1 tx t p).2.1)), (0, .ref (rr 0)), (1, .ref (a 0))]) rfl ?_
          refine j_aload_n C 4 dX2_readBlock_48 rfl rfl ?_
          refine j_get C 0 fgX2_readBlock_15 rfl rfl dX2_readBlock_49 ?_
          refine j_iconst C (v := (-1 : Int32)) dX2_readBlock_52 rfl ?_
          refine j_icmp_ne C dX2_readBlock_53 (tgt := 67) (by decide) (fun _ => ?_) (fun h => absurd h (nI_m1 (by omega)))
          exact ret dX2_readBlock_67 (⟨_, by rw [(rB_4 h98 hA1 hA2 hA3 hA4).2]⟩)
        | true =>
          exact absurd ((rB_5 h98 hA1 hA2 hA3 hA4).1.symm.trans ho) (by decide)

set_option maxRecDepth 100000 in
set_option maxHeartbeats 4000000 in
theorem ctX2_readShip (l : Launch) (D : KD) (rr tt a : Nat → Nat) (tx : Nat → Int32) (t : Nat) (ht : t ≤ 160) (p : Nat) (hp : p < t) (we ce co sg cr : Int32) (Pp Kp Hp Lp Sp : Nat → Int32) (h115 : rh tx t p = 115) (ho : rSo tx t p = true) : MV l D yX2_readShip wsX2_readShip 2 51 0 0 [.ref (rr 0), .ref (a 0)] (wRd D rr (tt 0) (nI (p + 1)) (-1) ++ (wDo D a we ce co sg cr Pp Kp Hp Lp Sp ++ (wTx D tt (nI t) tx))) (fun w1 => w1 = wRd D rr (tt 0) (nI (rSp tx t p)) (-1) ++ (wDo D a ((rS1 tx t p).2.1) ((rS2 tx t p).2.1) co sg cr Pp Kp Hp Lp Sp ++ wTx D tt (nI t) tx)) := by
  refine MV.of (cc := cX2_readShip) (nL := 4) (lv0 := [(0, .ref (rr 0)), (1, .ref (a 0))]) (by decide +kernel) rfl (Nat.le_of_ble_eq_true rfl) rfl ?_
  intro X hXl hin C ret
  subst hXl
  obtain ⟨-, hA1, hA2⟩ := rSo_i ho
  refine j_aload_n C 0 dX2_readShip_0 rfl rfl ?_
  refine j_bipush C (v := (6 : Int32)) dX2_readShip_1 rfl ?_
  refine j_iconst C (v := (1 : Int32)) dX2_readShip_3 rfl ?_
  refine j_ldc C kX2_readShip_55 dX2_readShip_4 ?_
  refine j_bipush C (v := (44 : Int32)) dX2_readShip_6 rfl ?_
  refine j_cv_i C (As := [.int (6 : Int32), .int (1 : Int32), .int (100000 : Int32), .int (44 : Int32)]) (rest := []) (ctX2_readNumber (xl X) D rr tt tx t (by first | assumption | omega | decide) (p + 1) (by omega) 6 (by first | assumption | omega | decide) (1 : Int32) (100000 : Int32) (44 : Int32)) mfX2_readNumber gX2_readShip_X2_readNumber rfl (Nat.le_of_ble_eq_true rfl) (Nat.le_of_ble_eq_true rfl) (Nat.le_of_ble_eq_true rfl) (Nat.le_of_ble_eq_true rfl) [0, 7, 8] rfl rfl 0 rfl rfl rfl rfl (Nat.le_of_ble_eq_true rfl) dX2_readShip_8 ?_
  rintro r_8 _ ⟨po_8, hr_8, rfl⟩
  refine ⟨Eq.trans (b := [rr 0, tt 0, tt 1]) rfl rfl, ?_⟩
  refine j_w (w' := (wRd D rr (tt 0) po_8 (rdE ((rN tx t (p + 1) 6 (1 : Int32) (100000 : Int32) (44 : Int32)).1, (rN tx t (p + 1) 6 (1 : Int32) (100000 : Int32) (44 : Int32)).2.2)) ++ (wDo D a we ce co sg cr Pp Kp Hp Lp Sp ++ (wTx D tt (nI t) tx)))) rfl ?_
  obtain ⟨rfl, rfl⟩ := hr_8 hA1
  rw [show rdE ((rN tx t (p + 1) 6 (1 : Int32) (100000 : Int32) (44 : Int32)).1, (rN tx t (p + 1) 6 (1 : Int32) (100000 : Int32) (44 : Int32)).2.2) = (-1 : Int32) from rdE_t hA1]
  show J D X (wRd D rr (tt 0) (nI (rS1 tx t p).2.2) (-1) ++ (wDo D a we ce co sg cr Pp Kp Hp Lp Sp ++ (wTx D tt (nI t) tx))) 0 0 11 [(0, .ref (rr 0)), (1, .ref (a 0))] [.int ((rS1 tx t p).2.1)]
  refine j_istore_n C dX2_readShip_11 rfl (by decide) (lv' := [(2, .int ((rS1 tx t p).2.1)), (0, .ref (rr 0)), (1, .ref (a 0))]) rfl ?_
  refine j_aload_n C 1 dX2_readShip_12 rfl rfl ?_
  refine j_iconst C (v := (3 : Int32)) dX2_readShip_13 rfl ?_
  refine j_iconst C (v := (0 : Int32)) dX2_readShip_14 rfl ?_
  refine j_sipush C (v := (400 : Int32)) dX2_readShip_15 rfl ?_
  refine j_bipush C (v := (59 : Int32)) dX2_readShip_18 rfl ?_
  refine j_cv_i C (As := [.int (3 : Int32), .int (0 : Int32), .int (400 : Int32), .int (59 : Int32)]) (rest := []) (ctX2_readNumber (xl X) D rr tt tx t (by first | assumption | omega | decide) ((rS1 tx t p).2.2) (rS_le hp).1 3 (by first | assumption | omega | decide) (0 : Int32) (400 : Int32) (59 : Int32)) mfX2_readNumber gX2_readShip_X2_readNumber rfl (Nat.le_of_ble_eq_true rfl) (Nat.le_of_ble_eq_true rfl) (Nat.le_of_ble_eq_true rfl) (Nat.le_of_ble_eq_true rfl) [0, 7, 8] rfl rfl 0 rfl rfl rfl rfl (Nat.le_of_ble_eq_true rfl) dX2_readShip_20 ?_
  rintro r_20 _ ⟨po_20, hr_20, rfl⟩
  refine ⟨Eq.trans (b := [rr 0, tt 0, tt 1]) rfl rfl, ?_⟩
  refine j_w (w' := (wRd D rr (tt 0) po_20 (rdE ((rN tx t ((rS1 tx t p).2.2) 3 (0 : Int32) (400 : Int32) (59 : Int32)).1, (rN tx t ((rS1 tx t p).2.2) 3 (0 : Int32) (400 : Int32) (59 : Int32)).2.2)) ++ (wDo D a we ce co sg cr Pp Kp Hp Lp Sp ++ (wTx D tt (nI t) tx)))) rfl ?_
  obtain ⟨rfl, rfl⟩ := hr_20 hA2
  rw [show rdE ((rN tx t ((rS1 tx t p).2.2) 3 (0 : Int32) (400 : Int32) (59 : Int32)).1, (rN tx t ((rS1 tx t p).2.2) 3 (0 : Int32) (400 : Int32) (59 : Int32)).2.2) = (-1 : Int32) from rdE_t hA2]
  show J D X (wRd D rr (tt 0) (nI (rS2 tx t p).2.2) (-1) ++ (wDo D a we ce co sg cr Pp Kp Hp Lp Sp ++ (wTx D tt (nI t) tx))) 0 0 23 [(2, .int ((rS1 tx t p).2.1)), (0, .ref (rr 0)), (1, .ref (a 0))] [.int ((rS2 tx t p).2.1)]
  refine j_istore_n C dX2_readShip_23 rfl (by decide) (lv' := [(3, .int ((rS2 tx t p).2.1)), (2, .int ((rS1 tx t p).2.1)), (0, .ref (rr 0)), (1, .ref (a 0))]) rfl ?_
  refine j_aload_n C 2 dX2_readShip_24 rfl rfl ?_
  refine j_get C 0 fgX2_readShip_15 rfl rfl dX2_readShip_25 ?_
  refine j_iconst C (v := (-1 : Int32)) dX2_readShip_28 rfl ?_
  refine j_icmp_ne C dX2_readShip_29 (tgt := 42) (by decide) (fun h => absurd rfl h) (fun _ => ?_)
  refine j_aload_n C 3 dX2_readShip_32 rfl rfl ?_
  refine j_iload_n C 1 dX2_readShip_33 rfl rfl ?_
  refine j_put C 1 foX2_readShip_56 rfl (w' := (wRd D rr (tt 0) (nI (rS2 tx t p).2.2) (-1) ++ (wDo D a ((rS1 tx t p).2.1) ce co sg cr Pp Kp Hp Lp Sp ++ (wTx D tt (nI t) tx)))) rfl rfl rfl (Nat.le_of_ble_eq_true rfl) dX2_readShip_34 ?_
  refine j_aload_n C 3 dX2_readShip_37 rfl rfl ?_
  refine j_iload_n C 0 dX2_readShip_38 rfl rfl ?_
  refine j_put C 1 foX2_readShip_59 rfl (w' := (wRd D rr (tt 0) (nI (rS2 tx t p).2.2) (-1) ++ (wDo D a ((rS1 tx t p).2.1) ((rS2 tx t p).2.1) co sg cr Pp Kp Hp Lp Sp ++ (wTx D tt (nI t) tx)))) rfl rfl rfl (Nat.le_of_ble_eq_true rfl) dX2_readShip_39 ?_
  exact ret dX2_readShip_42 (by rw [(rS_3 h115 hA1 hA2).2])

set_option maxRecDepth 100000 in
set_option maxHeartbeats 4000000 in
theorem ctX2_readShipF (l : Launch) (D : KD) (rr tt a : Nat → Nat) (tx : Nat → Int32) (t : Nat) (ht : t ≤ 160) (p : Nat) (hp : p < t) (we ce co sg cr : Int32) (Pp Kp Hp Lp Sp : Nat → Int32) (h115 : rh tx t p = 115) (ho : rSo tx t p = false) : MV l D yX2_readShip wsX2_readShip 2 51 0 0 [.ref (rr 0), .ref (a 0)] (wRd D rr (tt 0) (nI (p + 1)) (-1) ++ (wDo D a we ce co sg cr Pp Kp Hp Lp Sp ++ (wTx D tt (nI t) tx))) (fun w1 => ∃ po1 : Int32, w1 = wRd D rr (tt 0) po1 (nI (rSp tx t p)) ++ (wDo D a we ce co sg cr Pp Kp Hp Lp Sp ++ wTx D tt (nI t) tx)) := by
  refine MV.of (cc := cX2_readShip) (nL := 4) (lv0 := [(0, .ref (rr 0)), (1, .ref (a 0))]) (by decide +kernel) rfl (Nat.le_of_ble_eq_true rfl) rfl ?_
  intro X hXl hin C ret
  subst hXl
  have hle := rS_le (tx := tx) hp
  refine j_aload_n C 0 dX2_readShip_0 rfl rfl ?_
  refine j_bipush C (v := (6 : Int32)) dX2_readShip_1 rfl ?_
  refine j_iconst C (v := (1 : Int32)) dX2_readShip_3 rfl ?_
  refine j_ldc C kX2_readShip_55 dX2_readShip_4 ?_
  refine j_bipush C (v := (44 : Int32)) dX2_readShip_6 rfl ?_
  refine j_cv_i C (As := [.int (6 : Int32), .int (1 : Int32), .int (100000 : Int32), .int (44 : Int32)]) (rest := []) (ctX2_readNumber (xl X) D rr tt tx t (by first | assumption | omega | decide) (p + 1) (by omega) 6 (by first | assumption | omega | decide) (1 : Int32) (100000 : Int32) (44 : Int32)) mfX2_readNumber gX2_readShip_X2_readNumber rfl (Nat.le_of_ble_eq_true rfl) (Nat.le_of_ble_eq_true rfl) (Nat.le_of_ble_eq_true rfl) (Nat.le_of_ble_eq_true rfl) [0, 7, 8] rfl rfl 0 rfl rfl rfl rfl (Nat.le_of_ble_eq_true rfl) dX2_readShip_8 ?_
  rintro r_8 _ ⟨po_8, hr_8, rfl⟩
  refine ⟨Eq.trans (b := [rr 0, tt 0, tt 1]) rfl rfl, ?_⟩
  refine j_w (w' := (wRd D rr (tt 0) po_8 (rdE ((rN tx t (p + 1) 6 (1 : Int32) (100000 : Int32) (44 : Int32)).1, (rN tx t (p + 1) 6 (1 : Int32) (100000 : Int32) (44 : Int32)).2.2)) ++ (wDo D a we ce co sg cr Pp Kp Hp Lp Sp ++ (wTx D tt (nI t) tx)))) rfl ?_
  cases hA1 : (rS1 tx t p).1 with
  | false =>
    rw [show rdE ((rN tx t (p + 1) 6 (1 : Int32) (100000 : Int32) (44 : Int32)).1, (rN tx t (p + 1) 6 (1 : Int32) (100000 : Int32) (44 : Int32)).2.2) = nI (rS1 tx t p).2.2 from rdE_f hA1]
    refine j_istore_n C dX2_readShip_11 rfl (by decide) (lv' := [(2, .int r_8), (0, .ref (rr 0)), (1, .ref (a 0))]) rfl ?_
    refine j_aload_n C 1 dX2_readShip_12 rfl rfl ?_
    refine j_iconst C (v := (3 : Int32)) dX2_readShip_13 rfl ?_
    refine j_iconst C (v := (0 : Int32)) dX2_readShip_14 rfl ?_
    refine j_sipush C (v := (400 : Int32)) dX2_readShip_15 rfl ?_
    refine j_bipush C (v := (59 : Int32)) dX2_readShip_18 rfl ?_
    refine j_cv_i C (As := [.int (3 : Int32), .int (0 : Int32), .int (400 : Int32), .int (59 : Int32)]) (rest := []) (ctX2_readNumberX (xl X) D rr tt tx t (by first | assumption | omega | decide) po_8 (nI (rS1 tx t p).2.2) (nI_m1 (by omega)) 3 (by first | assumption | omega | decide) (0 : Int32) (400 : Int32) (59 : Int32)) mfX2_readNumber gX2_readShip_X2_readNumber rfl (Nat.le_of_ble_eq_true rfl) (Nat.le_of_ble_eq_true rfl) (Nat.le_of_ble_eq_true rfl) (Nat.le_of_ble_eq_true rfl) [0, 7, 8] rfl rfl 0 rfl rfl rfl rfl (Nat.le_of_ble_eq_true rfl) dX2_readShip_20 ?_
    rintro _ _ ⟨rfl, rfl⟩
    refine ⟨Eq.trans (b := [rr 0, tt 0, tt 1]) rfl rfl, ?_⟩
    refine j_w (w' := (wRd D rr (tt 0) po_8 (nI (rS1 tx t p).2.2) ++ (wDo D a we ce co sg cr Pp Kp Hp Lp Sp ++ (wTx D tt (nI t) tx)))) rfl ?_
    refine j_istore_n C dX2_readShip_23 rfl (by decide) (lv' := [(3, .int (0 : Int32)), (2, .int r_8), (0, .ref (rr 0)), (1, .ref (a 0))]) rfl ?_
    refine j_aload_n C 2 dX2_readShip_24 rfl rfl ?_
    refine j_get C 0 fgX2_readShip_15 rfl rfl dX2_readShip_25 ?_
    refine j_iconst C (v := (-1 : Int32)) dX2_readShip_28 rfl ?_
    refine j_icmp_ne C dX2_readShip_29 (tgt := 42) (by decide) (fun _ => ?_) (fun h => absurd h (nI_m1 (by omega)))
    exact ret dX2_readShip_42 (⟨_, by rw [(rS_1 h115 hA1).2]⟩)
  | true =>
    obtain ⟨rfl, rfl⟩ := hr_8 hA1
    rw [show rdE ((rN tx t (p + 1) 6 (1 : Int32) (100000 : Int32) (44 : Int32)).1, (rN tx t (p + 1) 6 (1 : Int32) (100000 : Int32) (44 : Int32)).2.2) = (-1 : Int32) from rdE_t hA1]
    show J D X (wRd D rr (tt 0) (nI (rS1 tx t p).2.2) (-1) ++ (wDo D a we ce co sg cr Pp Kp Hp Lp Sp ++ (wTx D tt (nI t) tx))) 0 0 11 [(0, .ref (rr 0)), (1, .ref (a 0))] [.int ((rS1 tx t p).2.1)]
    refine j_istore_n C dX2_readShip_11 rfl (by decide) (lv' := [(2, .int ((rS1 tx t p).2.1)), (0, .ref (rr 0)), (1, .ref (a 0))]) rfl ?_
    refine j_aload_n C 1 dX2_readShip_12 rfl rfl ?_
    refine j_iconst C (v := (3 : Int32)) dX2_readShip_13 rfl ?_
    refine j_iconst C (v := (0 : Int32)) dX2_readShip_14 rfl ?_
    refine j_sipush C (v := (400 : Int32)) dX2_readShip_15 rfl ?_
    refine j_bipush C (v := (59 : Int32)) dX2_readShip_18 rfl ?_
    refine j_cv_i C (As := [.int (3 : Int32), .int (0 : Int32), .int (400 : Int32), .int (59 : Int32)]) (rest := []) (ctX2_readNumber (xl X) D rr tt tx t (by first | assumption | omega | decide) ((rS1 tx t p).2.2) (rS_le hp).1 3 (by first | assumption | omega | decide) (0 : Int32) (400 : Int32) (59 : Int32)) mfX2_readNumber gX2_readShip_X2_readNumber rfl (Nat.le_of_ble_eq_true rfl) (Nat.le_of_ble_eq_true rfl) (Nat.le_of_ble_eq_true rfl) (Nat.le_of_ble_eq_true rfl) [0, 7, 8] rfl rfl 0 rfl rfl rfl rfl (Nat.le_of_ble_eq_true rfl) dX2_readShip_20 ?_
    rintro r_20 _ ⟨po_20, hr_20, rfl⟩
    refine ⟨Eq.trans (b := [rr 0, tt 0, tt 1]) rfl rfl, ?_⟩
    refine j_w (w' := (wRd D rr (tt 0) po_20 (rdE ((rN tx t ((rS1 tx t p).2.2) 3 (0 : Int32) (400 : Int32) (59 : Int32)).1, (rN tx t ((rS1 tx t p).2.2) 3 (0 : Int32) (400 : Int32) (59 : Int32)).2.2)) ++ (wDo D a we ce co sg cr Pp Kp Hp Lp Sp ++ (wTx D tt (nI t) tx)))) rfl ?_
    cases hA2 : (rS2 tx t p).1 with
    | false =>
      rw [show rdE ((rN tx t ((rS1 tx t p).2.2) 3 (0 : Int32) (400 : Int32) (59 : Int32)).1, (rN tx t ((rS1 tx t p).2.2) 3 (0 : Int32) (400 : Int32) (59 : Int32)).2.2) = nI (rS2 tx t p).2.2 from rdE_f hA2]
      refine j_istore_n C dX2_readShip_23 rfl (by decide) (lv' := [(3, .int r_20), (2, .int ((rS1 tx t p).2.1)), (0, .ref (rr 0)), (1, .ref (a 0))]) rfl ?_
      refine j_aload_n C 2 dX2_readShip_24 rfl rfl ?_
      refine j_get C 0 fgX2_readShip_15 rfl rfl dX2_readShip_25 ?_
      refine j_iconst C (v := (-1 : Int32)) dX2_readShip_28 rfl ?_
      refine j_icmp_ne C dX2_readShip_29 (tgt := 42) (by decide) (fun _ => ?_) (fun h => absurd h (nI_m1 (by omega)))
      exact ret dX2_readShip_42 (⟨_, by rw [(rS_2 h115 hA1 hA2).2]⟩)
    | true =>
      exact absurd ((rS_3 h115 hA1 hA2).1.symm.trans ho) (by decide)

set_option maxRecDepth 100000 in
set_option maxHeartbeats 4000000 in
theorem ctX2_readItem (l : Launch) (D : KD) (rr tt a : Nat → Nat) (tx : Nat → Int32) (t : Nat) (ht : t ≤ 160) (p : Nat) (hp : p < t) (we ce co sg cr : Int32) (Pp Kp Hp Lp Sp : Nat → Int32) (m : Nat → Int32) (n : Nat) (hK : KR we ce co sg cr Pp Kp Hp Lp Sp m n) (ho : itO tx t p n = true) : MV l D yX2_readItem wsX2_readItem 3 76 0 0 [.ref (rr 0), .ref (a 0)] (wRd D rr (tt 0) (nI p) (-1) ++ (wDo D a we ce co sg cr Pp Kp Hp Lp Sp ++ (wTx D tt (nI t) tx))) (fun w1 => ∃ (we1 ce1 co1 sg1 cr1 : Int32) (Pp1 Kp1 Hp1 Lp1 Sp1 : Nat → Int32), KR we1 ce1 co1 sg1 cr1 Pp1 Kp1 Hp1 Lp1 Sp1 (itM tx t p n m) (itN tx t p n) ∧ w1 = wRd D rr (tt 0) (nI (itP tx t p n)) (-1) ++ (wDo D a we1 ce1 co1 sg1 cr1 Pp1 Kp1 Hp1 Lp1 Sp1 ++ wTx D tt (nI t) tx)) := by
  refine MV.of (cc := cX2_readItem) (nL := 3) (lv0 := [(0, .ref (rr 0)), (1, .ref (a 0))]) (by decide +kernel) rfl (Nat.le_of_ble_eq_true rfl) rfl ?_
  intro X hXl hin C ret
  subst hXl
  refine j_aload_n C 0 dX2_readItem_0 rfl rfl ?_
  refine j_get C 0 fgX2_readItem_18 rfl rfl dX2_readItem_1 ?_
  refine j_aload_n C 0 dX2_readItem_4 rfl rfl ?_
  refine j_get C 0 fgX2_readItem_9 rfl rfl dX2_readItem_5 ?_
  refine j_cv_i C (As := [.int (nI p)]) (rest := []) (ctX3_byteAt (xl X) D tt tx t (by first | assumption | omega | decide) p (by omega)) mfX3_byteAt gX2_readItem_X3_byteAt rfl (Nat.le_of_ble_eq_true rfl) (Nat.le_of_ble_eq_true rfl) (Nat.le_of_ble_eq_true rfl) (Nat.le_of_ble_eq_true rfl) [7, 8] rfl rfl 0 rfl rfl rfl rfl (Nat.le_of_ble_eq_true rfl) dX2_readItem_8 ?_
  rintro _ _ ⟨rfl, rfl⟩
  refine ⟨Eq.trans (b := [tt 0, tt 1]) rfl rfl, ?_⟩
  refine j_w (w' := (wRd D rr (tt 0) (nI p) (-1) ++ (wDo D a we ce co sg cr Pp Kp Hp Lp Sp ++ (wTx D tt (nI t) tx)))) rfl ?_
  refine j_istore_n C dX2_readItem_11 rfl (by decide) (lv' := [(2, .int (rh tx t p)), (0, .ref (rr 0)), (1, .ref (a 0))]) rfl ?_
  refine j_iload_n C 0 dX2_readItem_12 rfl rfl ?_
  refine j_bipush C (v := (98 : Int32)) dX2_readItem_13 rfl ?_
  refine j_icmp_ne C dX2_readItem_15 (tgt := 43) (by decide) (fun h15 => ?_) (fun h15 => ?_)
  · have h115 : rh tx t p = 115 := Classical.byContradiction fun z => by rw [(it_x z (fun z2 => absurd z2 h15)).1] at ho; cases ho
    refine j_iload_n C 0 dX2_readItem_43 rfl rfl ?_
    refine j_bipush C (v := (115 : Int32)) dX2_readItem_44 rfl ?_
    refine j_icmp_ne C dX2_readItem_46 (tgt := 67) (by decide) (fun h => absurd h115 h) (fun _ => ?_)
    have hos : rSo tx t p = true := by rw [← (it_s (n := n) h115).1]; exact ho
    refine j_aload_n C 1 dX2_readItem_49 rfl rfl ?_
    refine j_dup C dX2_readItem_50 rfl ?_
    refine j_get C 0 fgX2_readItem_9 rfl rfl dX2_readItem_51 ?_
    refine j_iconst C (v := (1 : Int32)) dX2_readItem_54 rfl ?_
    refine j_iadd C dX2_readItem_55 ?_
    refine j_eqi (y := nI (p + 1)) (nI_add p 1) ?_
    refine j_put C 0 foX2_readItem_9 rfl (w' := (wRd D rr (tt 0) (nI (p + 1)) (-1) ++ (wDo D a we ce co sg cr Pp Kp Hp Lp Sp ++ (wTx D tt (nI t) tx)))) rfl rfl rfl (Nat.le_of_ble_eq_true rfl) dX2_readItem_56 ?_
    refine j_aload_n C 1 dX2_readItem_59 rfl rfl ?_
    refine j_aload_n C 2 dX2_readItem_60 rfl rfl ?_
    refine j_cv_v C (As := [.ref (a 0)]) (rest := []) (ctX2_readShip (xl X) D rr tt a tx t (by first | assumption | omega | decide) p hp we ce co sg cr Pp Kp Hp Lp Sp h115 hos) mfX2_readShip gX2_readItem_X2_readShip rfl (Nat.le_of_ble_eq_true rfl) (Nat.le_of_ble_eq_true rfl) (Nat.le_of_ble_eq_true rfl) (Nat.le_of_ble_eq_true rfl) [0, 1, 2, 3, 4, 5, 6, 7, 8] rfl rfl 0 rfl rfl rfl rfl (Nat.le_of_ble_eq_true rfl) dX2_readItem_61 ?_
    rintro _ rfl
    refine ⟨Eq.trans (b := [rr 0, a 0, a 1, a 2, a 3, a 4, a 5, tt 0, tt 1]) rfl rfl, ?_⟩
    refine j_w (w' := (wRd D rr (tt 0) (nI (rSp tx t p)) (-1) ++ (wDo D a ((rS1 tx t p).2.1) ((rS2 tx t p).2.1) co sg cr Pp Kp Hp Lp Sp ++ (wTx D tt (nI t) tx)))) rfl ?_
    refine j_goto C dX2_readItem_64 (tgt := 75) (by decide) ?_
    exact ret dX2_readItem_75 (⟨_, _, _, _, _, _, _, _, _, _, by rw [(it_s h115).2.2.1, (it_s h115).2.2.2]; exact KR_ship hK hos, by rw [(it_s h115).2.1]⟩)
  · have h115 : ¬ rh tx t p = 115 := by rw [h15]; decide
    have hn16 : n < 16 := by have := KR_n hK; have : ¬ n = 16 := (fun z => by rw [(it_x h115 (fun _ => z)).1] at ho; cases ho); omega
    have hrm : dRoom co = true := by rw [KR_room hK]; exact decide_eq_true hn16
    have hob : rBo tx t p = true := by rw [← (it_b h15 hn16).1]; exact ho
    refine j_aload_n C 2 dX2_readItem_18 rfl rfl ?_
    refine j_cv_i C (As := []) (rest := []) (ctX1_hasRoom (xl X) D a we ce co sg cr Pp Kp Hp Lp Sp) mfX1_hasRoom gX2_readItem_X1_hasRoom rfl (Nat.le_of_ble_eq_true rfl) (Nat.le_of_ble_eq_true rfl) (Nat.le_of_ble_eq_true rfl) (Nat.le_of_ble_eq_true rfl) [1, 2, 3, 4, 5, 6] rfl rfl 0 rfl rfl rfl rfl (Nat.le_of_ble_eq_true rfl) dX2_readItem_19 ?_
    rintro _ _ ⟨rfl, rfl⟩
    refine ⟨Eq.trans (b := [a 0, a 1, a 2, a 3, a 4, a 5]) rfl rfl, ?_⟩
    refine j_w (w' := (wRd D rr (tt 0) (nI p) (-1) ++ (wDo D a we ce co sg cr Pp Kp Hp Lp Sp ++ (wTx D tt (nI t) tx)))) rfl ?_
    refine j_bif_eq C dX2_readItem_22 (tgt := 43) (by decide) (fun h => (by rw [hrm] at h; cases h)) (fun _ => ?_)
    refine j_aload_n C 1 dX2_readItem_25 rfl rfl ?_
    refine j_dup C dX2_readItem_26 rfl ?_
    refine j_get C 0 fgX2_readItem_9 rfl rfl dX2_readItem_27 ?_
    refine j_iconst C (v := (1 : Int32)) dX2_readItem_30 rfl ?_
    refine j_iadd C dX2_readItem_31 ?_
    refine j_eqi (y := nI (p + 1)) (nI_add p 1) ?_
    refine j_put C 0 foX2_readItem_9 rfl (w' := (wRd D rr (tt 0) (nI (p + 1)) (-1) ++ (wDo D a we ce co sg cr Pp Kp Hp Lp Sp ++ (wTx D tt (nI t) tx)))) rfl rfl rfl (Nat.le_of_ble_eq_true rfl) dX2_readItem_32 ?_
    refine j_aload_n C 1 dX2_readItem_35 rfl rfl ?_
    refine j_aload_n C 2 dX2_readItem_36 rfl rfl ?_
    refine j_cv_v C (As := [.ref (a 0)]) (rest := []) (ctX2_readBlock (xl X) D rr tt a tx t (by first | assumption | omega | decide) p hp we ce co sg cr Pp Kp Hp Lp Sp h15 hrm hob) mfX2_readBlock gX2_readItem_X2_readBlock rfl (Nat.le_of_ble_eq_true rfl) (Nat.le_of_ble_eq_true rfl) (Nat.le_of_ble_eq_true rfl) (Nat.le_of_ble_eq_true rfl) [0, 1, 2, 3, 4, 5, 6, 7, 8] rfl rfl 0 rfl rfl rfl rfl (Nat.le_of_ble_eq_true rfl) dX2_readItem_37 ?_
    rintro _ rfl
    refine ⟨Eq.trans (b := [rr 0, a 0, a 1, a 2, a 3, a 4, a 5, tt 0, tt 1]) rfl rfl, ?_⟩
    refine j_w (w' := (wRd D rr (tt 0) (nI (rBp tx t p)) (-1) ++ (wDo D a we ce (co + 1) (sg ||| bit co) cr (upd Pp co.toNatClampNeg (rA1 tx t p).2.1) (upd Kp co.toNatClampNeg (rA2 tx t p).2.1) (upd Hp co.toNatClampNeg (rA3 tx t p).2.1) (upd Lp co.toNatClampNeg (rA4 tx t p).2.1) (upd Sp co.toNatClampNeg 0) ++ (wTx D tt (nI t) tx)))) rfl ?_
    refine j_goto C dX2_readItem_40 (tgt := 75) (by decide) ?_
    exact ret dX2_readItem_75 (⟨_, _, _, _, _, _, _, _, _, _, by rw [(it_b h15 hn16).2.2.1, (it_b h15 hn16).2.2.2]; exact KR_blk hK hn16 hob, by rw [(it_b h15 hn16).2.1]⟩)

set_option maxRecDepth 100000 in
set_option maxHeartbeats 4000000 in
theorem ctX2_readItemF (l : Launch) (D : KD) (rr tt a : Nat → Nat) (tx : Nat → Int32) (t : Nat) (ht : t ≤ 160) (p : Nat) (hp : p < t) (we ce co sg cr : Int32) (Pp Kp Hp Lp Sp : Nat → Int32) (m : Nat → Int32) (n : Nat) (hK : KR we ce co sg cr Pp Kp Hp Lp Sp m n) (ho : itO tx t p n = false) : MV l D yX2_readItem wsX2_readItem 3 76 0 0 [.ref (rr 0), .ref (a 0)] (wRd D rr (tt 0) (nI p) (-1) ++ (wDo D a we ce co sg cr Pp Kp Hp Lp Sp ++ (wTx D tt (nI t) tx))) (fun w1 => ∃ po1 : Int32, w1 = wRd D rr (tt 0) po1 (nI (itP tx t p n)) ++ (wDo D a we ce co sg cr Pp Kp Hp Lp Sp ++ wTx D tt (nI t) tx)) := by
  refine MV.of (cc := cX2_readItem) (nL := 3) (lv0 := [(0, .ref (rr 0)), (1, .ref (a 0))]) (by decide +kernel) rfl (Nat.le_of_ble_eq_true rfl) rfl ?_
  intro X hXl hin C ret
  subst hXl
  refine j_aload_n C 0 dX2_readItem_0 rfl rfl ?_
  refine j_get C 0 fgX2_readItem_18 rfl rfl dX2_readItem_1 ?_
  refine j_aload_n C 0 dX2_readItem_4 rfl rfl ?_
  refine j_get C 0 fgX2_readItem_9 rfl rfl dX2_readItem_5 ?_
  refine j_cv_i C (As := [.int (nI p)]) (rest := []) (ctX3_byteAt (xl X) D tt tx t (by first | assumption | omega | decide) p (by omega)) mfX3_byteAt gX2_readItem_X3_byteAt rfl (Nat.le_of_ble_eq_true rfl) (Nat.le_of_ble_eq_true rfl) (Nat.le_of_ble_eq_true rfl) (Nat.le_of_ble_eq_true rfl) [7, 8] rfl rfl 0 rfl rfl rfl rfl (Nat.le_of_ble_eq_true rfl) dX2_readItem_8 ?_
  rintro _ _ ⟨rfl, rfl⟩
  refine ⟨Eq.trans (b := [tt 0, tt 1]) rfl rfl, ?_⟩
  refine j_w (w' := (wRd D rr (tt 0) (nI p) (-1) ++ (wDo D a we ce co sg cr Pp Kp Hp Lp Sp ++ (wTx D tt (nI t) tx)))) rfl ?_
  refine j_istore_n C dX2_readItem_11 rfl (by decide) (lv' := [(2, .int (rh tx t p)), (0, .ref (rr 0)), (1, .ref (a 0))]) rfl ?_
  refine j_iload_n C 0 dX2_readItem_12 rfl rfl ?_
  refine j_bipush C (v := (98 : Int32)) dX2_readItem_13 rfl ?_
  refine j_icmp_ne C dX2_readItem_15 (tgt := 43) (by decide) (fun h15 => ?_) (fun h15 => ?_)
  · refine j_iload_n C 0 dX2_readItem_43 rfl rfl ?_
    refine j_bipush C (v := (115 : Int32)) dX2_readItem_44 rfl ?_
    refine j_icmp_ne C dX2_readItem_46 (tgt := 67) (by decide) (fun h46 => ?_) (fun h46 => ?_)
    · refine j_aload_n C 1 dX2_readItem_67 rfl rfl ?_
      refine j_aload_n C 1 dX2_readItem_68 rfl rfl ?_
      refine j_get C 0 fgX2_readItem_9 rfl rfl dX2_readItem_69 ?_
      refine j_put C 0 foX2_readItem_15 rfl (w' := (wRd D rr (tt 0) (nI p) (nI p) ++ (wDo D a we ce co sg cr Pp Kp Hp Lp Sp ++ (wTx D tt (nI t) tx)))) rfl rfl rfl (Nat.le_of_ble_eq_true rfl) dX2_readItem_72 ?_
      exact ret dX2_readItem_75 (⟨_, by rw [(it_x h46 (fun z => absurd z h15)).2]⟩)
    · have hos : rSo tx t p = false := by rw [← (it_s (n := n) h46).1]; exact ho
      refine j_aload_n C 1 dX2_readItem_49 rfl rfl ?_
      refine j_dup C dX2_readItem_50 rfl ?_
      refine j_get C 0 fgX2_readItem_9 rfl rfl dX2_readItem_51 ?_
      refine j_iconst C (v := (1 : Int32)) dX2_readItem_54 rfl ?_
      refine j_iadd C dX2_readItem_55 ?_
      refine j_eqi (y := nI (p + 1)) (nI_add p 1) ?_
      refine j_put C 0 foX2_readItem_9 rfl (w' := (wRd D rr (tt 0) (nI (p + 1)) (-1) ++ (wDo D a we ce co sg cr Pp Kp Hp Lp Sp ++ (wTx D tt (nI t) tx)))) rfl rfl rfl (Nat.le_of_ble_eq_true rfl) dX2_readItem_56 ?_
      refine j_aload_n C 1 dX2_readItem_59 rfl rfl ?_
      refine j_aload_n C 2 dX2_readItem_60 rfl rfl ?_
      refine j_cv_v C (As := [.ref (a 0)]) (rest := []) (ctX2_readShipF (xl X) D rr tt a tx t (by first | assumption | omega | decide) p hp we ce co sg cr Pp Kp Hp Lp Sp h46 hos) mfX2_readShip gX2_readItem_X2_readShip rfl (Nat.le_of_ble_eq_true rfl) (Nat.le_of_ble_eq_true rfl) (Nat.le_of_ble_eq_true rfl) (Nat.le_of_ble_eq_true rfl) [0, 1, 2, 3, 4, 5, 6, 7, 8] rfl rfl 0 rfl rfl rfl rfl (Nat.le_of_ble_eq_true rfl) dX2_readItem_61 ?_
      rintro _ ⟨po_61, rfl⟩
      refine ⟨Eq.trans (b := [rr 0, a 0, a 1, a 2, a 3, a 4, a 5, tt 0, tt 1]) rfl rfl, ?_⟩
      refine j_w (w' := (wRd D rr (tt 0) po_61 (nI (rSp tx t p)) ++ (wDo D a we ce co sg cr Pp Kp Hp Lp Sp ++ (wTx D tt (nI t) tx)))) rfl ?_
      refine j_goto C dX2_readItem_64 (tgt := 75) (by decide) ?_
      exact ret dX2_readItem_75 (⟨_, by rw [(it_s h46).2.1]⟩)
  · have h115 : ¬ rh tx t p = 115 := by rw [h15]; decide
    have hn0 := KR_n hK
    by_cases hn16 : n < 16
    · have hrm : dRoom co = true := by rw [KR_room hK]; exact decide_eq_true hn16
      have hob : rBo tx t p = false := by rw [← (it_b h15 hn16).1]; exact ho
      refine j_aload_n C 2 dX2_readItem_18 rfl rfl ?_
      refine j_cv_i C (As := []) (rest := []) (ctX1_hasRoom (xl X) D a we ce co sg cr Pp Kp Hp Lp Sp) mfX1_hasRoom gX2_readItem_X1_hasRoom rfl (Nat.le_of_ble_eq_true rfl) (Nat.le_of_ble_eq_true rfl) (Nat.le_of_ble_eq_true rfl) (Nat.le_of_ble_eq_true rfl) [1, 2, 3, 4, 5, 6] rfl rfl 0 rfl rfl rfl rfl (Nat.le_of_ble_eq_true rfl) dX2_readItem_19 ?_
      rintro _ _ ⟨rfl, rfl⟩
      refine ⟨Eq.trans (b := [a 0, a 1, a 2, a 3, a 4, a 5]) rfl rfl, ?_⟩
      refine j_w (w' := (wRd D rr (tt 0) (nI p) (-1) ++ (wDo D a we ce co sg cr Pp Kp Hp Lp Sp ++ (wTx D tt (nI t) tx)))) rfl ?_
      refine j_bif_eq C dX2_readItem_22 (tgt := 43) (by decide) (fun h => (by rw [hrm] at h; cases h)) (fun _ => ?_)
      refine j_aload_n C 1 dX2_readItem_25 rfl rfl ?_
      refine j_dup C dX2_readItem_26 rfl ?_
      refine j_get C 0 fgX2_readItem_9 rfl rfl dX2_readItem_27 ?_
      refine j_iconst C (v := (1 : Int32)) dX2_readItem_30 rfl ?_
      refine j_iadd C dX2_readItem_31 ?_
      refine j_eqi (y := nI (p + 1)) (nI_add p 1) ?_
      refine j_put C 0 foX2_readItem_9 rfl (w' := (wRd D rr (tt 0) (nI (p + 1)) (-1) ++ (wDo D a we ce co sg cr Pp Kp Hp Lp Sp ++ (wTx D tt (nI t) tx)))) rfl rfl rfl (Nat.le_of_ble_eq_true rfl) dX2_readItem_32 ?_
      refine j_aload_n C 1 dX2_readItem_35 rfl rfl ?_
      refine j_aload_n C 2 dX2_readItem_36 rfl rfl ?_
      refine j_cv_v C (As := [.ref (a 0)]) (rest := []) (ctX2_readBlockF (xl X) D rr tt a tx t (by first | assumption | omega | decide) p hp we ce co sg cr Pp Kp Hp Lp Sp h15 hob) mfX2_readBlock gX2_readItem_X2_readBlock rfl (Nat.le_of_ble_eq_true rfl) (Nat.le_of_ble_eq_true rfl) (Nat.le_of_ble_eq_true rfl) (Nat.le_of_ble_eq_true rfl) [0, 1, 2, 3, 4, 5, 6, 7, 8] rfl rfl 0 rfl rfl rfl rfl (Nat.le_of_ble_eq_true rfl) dX2_readItem_37 ?_
      rintro _ ⟨po_37, rfl⟩
      refine ⟨Eq.trans (b := [rr 0, a 0, a 1, a 2, a 3, a 4, a 5, tt 0, tt 1]) rfl rfl, ?_⟩
      refine j_w (w' := (wRd D rr (tt 0) po_37 (nI (rBp tx t p)) ++ (wDo D a we ce co sg cr Pp Kp Hp Lp Sp ++ (wTx D tt (nI t) tx)))) rfl ?_
      refine j_goto C dX2_readItem_40 (tgt := 75) (by decide) ?_
      exact ret dX2_readItem_75 (⟨_, by rw [(it_b h15 hn16).2.1]⟩)
    · have hrm : dRoom co = false := by rw [KR_room hK]; exact decide_eq_false hn16
      refine j_aload_n C 2 dX2_readItem_18 rfl rfl ?_
      refine j_cv_i C (As := []) (rest := []) (ctX1_hasRoom (xl X) D a we ce co sg cr Pp Kp Hp Lp Sp) mfX1_hasRoom gX2_readItem_X1_hasRoom rfl (Nat.le_of_ble_eq_true rfl) (Nat.le_of_ble_eq_true rfl) (Nat.le_of_ble_eq_true rfl) (Nat.le_of_ble_eq_true rfl) [1, 2, 3, 4, 5, 6] rfl rfl 0 rfl rfl rfl rfl (Nat.le_of_ble_eq_true rfl) dX2_readItem_19 ?_
      rintro _ _ ⟨rfl, rfl⟩
      refine ⟨Eq.trans (b := [a 0, a 1, a 2, a 3, a 4, a 5]) rfl rfl, ?_⟩
      refine j_w (w' := (wRd D rr (tt 0) (nI p) (-1) ++ (wDo D a we ce co sg cr Pp Kp Hp Lp Sp ++ (wTx D tt (nI t) tx)))) rfl ?_
      refine j_bif_eq C dX2_readItem_22 (tgt := 43) (by decide) (fun _ => ?_) (fun h => (by rw [hrm] at h; cases h))
      refine j_iload_n C 0 dX2_readItem_43 rfl rfl ?_
      refine j_bipush C (v := (115 : Int32)) dX2_readItem_44 rfl ?_
      refine j_icmp_ne C dX2_readItem_46 (tgt := 67) (by decide) (fun _ => ?_) (fun h => absurd h h115)
      refine j_aload_n C 1 dX2_readItem_67 rfl rfl ?_
      refine j_aload_n C 1 dX2_readItem_68 rfl rfl ?_
      refine j_get C 0 fgX2_readItem_9 rfl rfl dX2_readItem_69 ?_
      refine j_put C 0 foX2_readItem_15 rfl (w' := (wRd D rr (tt 0) (nI p) (nI p) ++ (wDo D a we ce co sg cr Pp Kp Hp Lp Sp ++ (wTx D tt (nI t) tx)))) rfl rfl rfl (Nat.le_of_ble_eq_true rfl) dX2_readItem_72 ?_
      exact ret dX2_readItem_75 (⟨_, by rw [(it_x h115 (fun _ => by omega)).2]⟩)

set_option maxRecDepth 100000 in
set_option maxHeartbeats 4000000 in
theorem ctX2_read (l : Launch) (D : KD) (rr tt a : Nat → Nat) (tx : Nat → Int32) (t : Nat) (ht : t ≤ 160) (po er : Int32) (we ce co sg cr : Int32) (Pp Kp Hp Lp Sp : Nat → Int32) (m : Nat → Int32) (n : Nat) (hK : KR we ce co sg cr Pp Kp Hp Lp Sp m n) : MI l D yX2_read wsX2_read 4 98 0 0 [.ref (rr 0), .ref (a 0)] (wRd D rr (tt 0) po er ++ (wDo D a we ce co sg cr Pp Kp Hp Lp Sp ++ (wTx D tt (nI t) tx))) (fun r w1 => r = rdE ((rdA tx t t 0 n m).1, (rdA tx t t 0 n m).2.1) ∧ ∃ (we1 ce1 co1 sg1 cr1 : Int32) (Pp1 Kp1 Hp1 Lp1 Sp1 : Nat → Int32) (po1 er1 : Int32), ((rdA tx t t 0 n m).1 = true → KR we1 ce1 co1 sg1 cr1 Pp1 Kp1 Hp1 Lp1 Sp1 (rdA tx t t 0 n m).2.2.2 (rdA tx t t 0 n m).2.2.1) ∧ w1 = wRd D rr (tt 0) po1 er1 ++ (wDo D a we1 ce1 co1 sg1 cr1 Pp1 Kp1 Hp1 Lp1 Sp1 ++ wTx D tt (nI t) tx)) := by
  refine MI.of (cc := cX2_read) (nL := 3) (lv0 := [(0, .ref (rr 0)), (1, .ref (a 0))]) (by decide +kernel) rfl (Nat.le_of_ble_eq_true rfl) rfl ?_
  intro X hXl hin C ret
  subst hXl
  refine j_aload_n C 0 dX2_read_0 rfl rfl ?_
  refine j_iconst C (v := (0 : Int32)) dX2_read_1 rfl ?_
  refine j_put C 0 foX2_read_9 rfl (w' := (wRd D rr (tt 0) (0 : Int32) er ++ (wDo D a we ce co sg cr Pp Kp Hp Lp Sp ++ (wTx D tt (nI t) tx)))) rfl rfl rfl (Nat.le_of_ble_eq_true rfl) dX2_read_2 ?_
  refine j_aload_n C 0 dX2_read_5 rfl rfl ?_
  refine j_iconst C (v := (-1 : Int32)) dX2_read_6 rfl ?_
  refine j_put C 0 foX2_read_15 rfl (w' := (wRd D rr (tt 0) (0 : Int32) (-1 : Int32) ++ (wDo D a we ce co sg cr Pp Kp Hp Lp Sp ++ (wTx D tt (nI t) tx)))) rfl rfl rfl (Nat.le_of_ble_eq_true rfl) dX2_read_7 ?_
  refine j_iconst C (v := (0 : Int32)) dX2_read_10 rfl ?_
  refine j_istore_n C dX2_read_11 rfl (by decide) (lv' := [(2, .int (0 : Int32)), (0, .ref (rr 0)), (1, .ref (a 0))]) rfl ?_
  obtain ⟨R, hRf⟩ : ∃ R, rdA tx t t 0 n m = R := ⟨_, rfl⟩
  have hbad : ∀ (i1 : Nat) (po1 er1 : Int32) (we1 ce1 co1 sg1 cr1 : Int32) (Pp1 Kp1 Hp1 Lp1 Sp1 : Nat → Int32), i1 ≤ 160 → ¬ er1 = -1 → R.1 = false → er1 = nI R.2.1 → J D X (wRd D rr (tt 0) po1 er1 ++ (wDo D a we1 ce1 co1 sg1 cr1 Pp1 Kp1 Hp1 Lp1 Sp1 ++ (wTx D tt (nI t) tx))) 0 0 12 [(2, .int (nI i1)), (0, .ref (rr 0)), (1, .ref (a 0))] [] := by
    intro i1 po1 er1 we1 ce1 co1 sg1 cr1 Pp1 Kp1 Hp1 Lp1 Sp1 hi1 her hR0 her2
    by_cases h160 : i1 < 160
    · refine j_iload_n C 0 dX2_read_12 rfl rfl ?_
      refine j_sipush C (v := (160 : Int32)) dX2_read_13 rfl ?_
      refine j_icmp_ge C dX2_read_16 (tgt := 52) (by decide) (fun h => absurd h (nI_ge (b := 160) h160 (by decide))) (fun _ => ?_)
      refine j_aload_n C 1 dX2_read_19 rfl rfl ?_
      refine j_get C 0 fgX2_read_15 rfl rfl dX2_read_20 ?_
      refine j_iconst C (v := (-1 : Int32)) dX2_read_23 rfl ?_
      refine j_icmp_ne C dX2_read_24 (tgt := 52) (by decide) (fun _ => ?_) (fun h => absurd h her)
      refine j_aload_n C 1 dX2_read_52 rfl rfl ?_
      refine j_get C 0 fgX2_read_15 rfl rfl dX2_read_53 ?_
      exact ret dX2_read_56 (⟨by rw [hRf, rdE_f hR0]; exact her2, _, _, _, _, _, _, _, _, _, _, _, _, fun z => absurd (hRf ▸ z) (by rw [hR0]; decide), rfl⟩)
    · refine j_iload_n C 0 dX2_read_12 rfl rfl ?_
      refine j_sipush C (v := (160 : Int32)) dX2_read_13 rfl ?_
      refine j_icmp_ge C dX2_read_16 (tgt := 52) (by decide) (fun _ => ?_) (fun h => absurd (nI_le (a := 160) (by omega) (by omega)) h)
      refine j_aload_n C 1 dX2_read_52 rfl rfl ?_
      refine j_get C 0 fgX2_read_15 rfl rfl dX2_read_53 ?_
      exact ret dX2_read_56 (⟨by rw [hRf, rdE_f hR0]; exact her2, _, _, _, _, _, _, _, _, _, _, _, _, fun z => absurd (hRf ▸ z) (by rw [hR0]; decide), rfl⟩)
  have key : ∀ (f p1 n1 : Nat) (m1 : Nat → Int32) (we1 ce1 co1 sg1 cr1 : Int32) (Pp1 Kp1 Hp1 Lp1 Sp1 : Nat → Int32), KR we1 ce1 co1 sg1 cr1 Pp1 Kp1 Hp1 Lp1 Sp1 m1 n1 → ∀ i1 : Nat, t - p1 ≤ f → p1 ≤ t → i1 ≤ p1 → rdA tx t f p1 n1 m1 = R → J D X (wRd D rr (tt 0) (nI p1) (-1) ++ (wDo D a we1 ce1 co1 sg1 cr1 Pp1 Kp1 Hp1 Lp1 Sp1 ++ (wTx D tt (nI t) tx))) 0 0 12 [(2, .int (nI i1)), (0, .ref (rr 0)), (1, .ref (a 0))] [] := by
    intro f
    induction f with
    | zero =>
      intro p1 n1 m1 we1 ce1 co1 sg1 cr1 Pp1 Kp1 Hp1 Lp1 Sp1 hK1 i1 hf hp1 hi1 hres
      have hR : R = (true, p1, n1, m1) := by rw [← hres]; rfl
      by_cases h160 : i1 < 160
      · refine j_iload_n C 0 dX2_read_12 rfl rfl ?_
        refine j_sipush C (v := (160 : Int32)) dX2_read_13 rfl ?_
        refine j_icmp_ge C dX2_read_16 (tgt := 52) (by decide) (fun h => absurd h (nI_ge (b := 160) h160 (by decide))) (fun _ => ?_)
        refine j_aload_n C 1 dX2_read_19 rfl rfl ?_
        refine j_get C 0 fgX2_read_15 rfl rfl dX2_read_20 ?_
        refine j_iconst C (v := (-1 : Int32)) dX2_read_23 rfl ?_
        refine j_icmp_ne C dX2_read_24 (tgt := 52) (by decide) (fun h => absurd rfl h) (fun _ => ?_)
        refine j_aload_n C 1 dX2_read_27 rfl rfl ?_
        refine j_get C 0 fgX2_read_9 rfl rfl dX2_read_28 ?_
        refine j_aload_n C 1 dX2_read_31 rfl rfl ?_
        refine j_get C 0 fgX2_read_18 rfl rfl dX2_read_32 ?_
        refine j_get C 7 fgX2_read_22 rfl rfl dX2_read_35 ?_
        refine j_icmp_ge C dX2_read_38 (tgt := 52) (by decide) (fun _ => ?_) (fun h => absurd (nI_le (by omega) (by omega)) h)
        refine j_aload_n C 1 dX2_read_52 rfl rfl ?_
        refine j_get C 0 fgX2_read_15 rfl rfl dX2_read_53 ?_
        exact ret dX2_read_56 (⟨by rw [hRf, hR, rdE_t rfl], _, _, _, _, _, _, _, _, _, _, _, _, fun _ => by rw [hRf, hR]; exact hK1, rfl⟩)
      · refine j_iload_n C 0 dX2_read_12 rfl rfl ?_
        refine j_sipush C (v := (160 : Int32)) dX2_read_13 rfl ?_
        refine j_icmp_ge C dX2_read_16 (tgt := 52) (by decide) (fun _ => ?_) (fun h => absurd (nI_le (a := 160) (by omega) (by omega)) h)
        refine j_aload_n C 1 dX2_read_52 rfl rfl ?_
        refine j_get C 0 fgX2_read_15 rfl rfl dX2_read_53 ?_
        exact ret dX2_read_56 (⟨by rw [hRf, hR, rdE_t rfl], _, _, _, _, _, _, _, _, _, _, _, _, fun _ => by rw [hRf, hR]; exact hK1, rfl⟩)
    | succ f ih =>
      intro p1 n1 m1 we1 ce1 co1 sg1 cr1 Pp1 Kp1 Hp1 Lp1 Sp1 hK1 i1 hf hp1 hi1 hres
      by_cases hpt : p1 < t
      · cases hit : itO tx t p1 n1 with
        | false =>
          refine j_iload_n C 0 dX2_read_12 rfl rfl ?_
          refine j_sipush C (v := (160 : Int32)) dX2_read_13 rfl ?_
          refine j_icmp_ge C dX2_read_16 (tgt := 52) (by decide) (fun h => absurd h (nI_ge (b := 160) (by omega) (by decide))) (fun _ => ?_)
          refine j_aload_n C 1 dX2_read_19 rfl rfl ?_
          refine j_get C 0 fgX2_read_15 rfl rfl dX2_read_20 ?_
          refine j_iconst C (v := (-1 : Int32)) dX2_read_23 rfl ?_
          refine j_icmp_ne C dX2_read_24 (tgt := 52) (by decide) (fun h => absurd rfl h) (fun _ => ?_)
          refine j_aload_n C 1 dX2_read_27 rfl rfl ?_
          refine j_get C 0 fgX2_read_9 rfl rfl dX2_read_28 ?_
          refine j_aload_n C 1 dX2_read_31 rfl rfl ?_
          refine j_get C 0 fgX2_read_18 rfl rfl dX2_read_32 ?_
          refine j_get C 7 fgX2_read_22 rfl rfl dX2_read_35 ?_
          refine j_icmp_ge C dX2_read_38 (tgt := 52) (by decide) (fun h => absurd h (nI_ge (by omega) (by omega))) (fun _ => ?_)
          refine j_aload_n C 1 dX2_read_41 rfl rfl ?_
          refine j_aload_n C 2 dX2_read_42 rfl rfl ?_
          refine j_cv_v C (As := [.ref (a 0)]) (rest := []) (ctX2_readItemF (xl X) D rr tt a tx t (by first | assumption | omega | decide) p1 hpt we1 ce1 co1 sg1 cr1 Pp1 Kp1 Hp1 Lp1 Sp1 m1 n1 hK1 hit) mfX2_readItem gX2_read_X2_readItem rfl (Nat.le_of_ble_eq_true rfl) (Nat.le_of_ble_eq_true rfl) (Nat.le_of_ble_eq_true rfl) (Nat.le_of_ble_eq_true rfl) [0, 1, 2, 3, 4, 5, 6, 7, 8] rfl rfl 0 rfl rfl rfl rfl (Nat.le_of_ble_eq_true rfl) dX2_read_43 ?_
          rintro _ ⟨po_43, rfl⟩
          refine ⟨Eq.trans (b := [rr 0, a 0, a 1, a 2, a 3, a 4, a 5, tt 0, tt 1]) rfl rfl, ?_⟩
          refine j_w (w' := (wRd D rr (tt 0) po_43 (nI (itP tx t p1 n1)) ++ (wDo D a we1 ce1 co1 sg1 cr1 Pp1 Kp1 Hp1 Lp1 Sp1 ++ (wTx D tt (nI t) tx)))) rfl ?_
          refine j_iinc C 0 dX2_read_46 rfl (v := nI (i1 + 1)) (nI_1 _) (by decide) (lv' := [(2, .int (nI (i1 + 1))), (0, .ref (rr 0)), (1, .ref (a 0))]) rfl ?_
          refine j_goto C dX2_read_49 (tgt := 12) (by decide) ?_
          refine j_sub [0, 1, 2] (lv' := [(2, .int (nI (i1 + 1))), (0, .ref (rr 0)), (1, .ref (a 0))]) rfl ?_
          exact hbad (i1 + 1) _ _ _ _ _ _ _ _ _ _ _ _ (by omega) (nI_m1 (by have := it_le (tx := tx) (n := n1) (show p1 ≤ t by omega); omega)) (by rw [← hres, rdA_x hpt (KR_n hK1) hit]) (by rw [← hres, rdA_x hpt (KR_n hK1) hit])
        | true =>
          refine j_iload_n C 0 dX2_read_12 rfl rfl ?_
          refine j_sipush C (v := (160 : Int32)) dX2_read_13 rfl ?_
          refine j_icmp_ge C dX2_read_16 (tgt := 52) (by decide) (fun h => absurd h (nI_ge (b := 160) (by omega) (by decide))) (fun _ => ?_)
          refine j_aload_n C 1 dX2_read_19 rfl rfl ?_
          refine j_get C 0 fgX2_read_15 rfl rfl dX2_read_20 ?_
          refine j_iconst C (v := (-1 : Int32)) dX2_read_23 rfl ?_
          refine j_icmp_ne C dX2_read_24 (tgt := 52) (by decide) (fun h => absurd rfl h) (fun _ => ?_)
          refine j_aload_n C 1 dX2_read_27 rfl rfl ?_
          refine j_get C 0 fgX2_read_9 rfl rfl dX2_read_28 ?_
          refine j_aload_n C 1 dX2_read_31 rfl rfl ?_
          refine j_get C 0 fgX2_read_18 rfl rfl dX2_read_32 ?_
          refine j_get C 7 fgX2_read_22 rfl rfl dX2_read_35 ?_
          refine j_icmp_ge C dX2_read_38 (tgt := 52) (by decide) (fun h => absurd h (nI_ge (by omega) (by omega))) (fun _ => ?_)
          refine j_aload_n C 1 dX2_read_41 rfl rfl ?_
          refine j_aload_n C 2 dX2_read_42 rfl rfl ?_
          refine j_cv_v C (As := [.ref (a 0)]) (rest := []) (ctX2_readItem (xl X) D rr tt a tx t (by first | assumption | omega | decide) p1 hpt we1 ce1 co1 sg1 cr1 Pp1 Kp1 Hp1 Lp1 Sp1 m1 n1 hK1 hit) mfX2_readItem gX2_read_X2_readItem rfl (Nat.le_of_ble_eq_true rfl) (Nat.le_of_ble_eq_true rfl) (Nat.le_of_ble_eq_true rfl) (Nat.le_of_ble_eq_true rfl) [0, 1, 2, 3, 4, 5, 6, 7, 8] rfl rfl 0 rfl rfl rfl rfl (Nat.le_of_ble_eq_true rfl) dX2_read_43 ?_
          rintro _ ⟨we_43, ce_43, co_43, sg_43, cr_43, Pp_43, Kp_43, Hp_43, Lp_43, Sp_43, hk_43, rfl⟩
          refine ⟨Eq.trans (b := [rr 0, a 0, a 1, a 2, a 3, a 4, a 5, tt 0, tt 1]) rfl rfl, ?_⟩
          refine j_w (w' := (wRd D rr (tt 0) (nI (itP tx t p1 n1)) (-1) ++ (wDo D a we_43 ce_43 co_43 sg_43 cr_43 Pp_43 Kp_43 Hp_43 Lp_43 Sp_43 ++ (wTx D tt (nI t) tx)))) rfl ?_
          refine j_iinc C 0 dX2_read_46 rfl (v := nI (i1 + 1)) (nI_1 _) (by decide) (lv' := [(2, .int (nI (i1 + 1))), (0, .ref (rr 0)), (1, .ref (a 0))]) rfl ?_
          refine j_goto C dX2_read_49 (tgt := 12) (by decide) ?_
          refine j_sub [0, 1, 2] (lv' := [(2, .int (nI (i1 + 1))), (0, .ref (rr 0)), (1, .ref (a 0))]) rfl ?_
          exact ih (itP tx t p1 n1) (itN tx t p1 n1) (itM tx t p1 n1 m1) _ ce_43 co_43 sg_43 cr_43 Pp_43 Kp_43 Hp_43 Lp_43 Sp_43 hk_43 (i1 + 1) (by have := it_gt hit; omega) (it_le (by omega)) (by have := it_gt hit; omega) (by rw [← hres, rdA_t hpt (KR_n hK1) hit])
      · have hR : R = (true, p1, n1, m1) := by rw [← hres, rdA_e (by omega)]
        by_cases h160 : i1 < 160
        · refine j_iload_n C 0 dX2_read_12 rfl rfl ?_
          refine j_sipush C (v := (160 : Int32)) dX2_read_13 rfl ?_
          refine j_icmp_ge C dX2_read_16 (tgt := 52) (by decide) (fun h => absurd h (nI_ge (b := 160) h160 (by decide))) (fun _ => ?_)
          refine j_aload_n C 1 dX2_read_19 rfl rfl ?_
          refine j_get C 0 fgX2_read_15 rfl rfl dX2_read_20 ?_
          refine j_iconst C (v := (-1 : Int32)) dX2_read_23 rfl ?_
          refine j_icmp_ne C dX2_read_24 (tgt := 52) (by decide) (fun h => absurd rfl h) (fun _ => ?_)
          refine j_aload_n C 1 dX2_read_27 rfl rfl ?_
          refine j_get C 0 fgX2_read_9 rfl rfl dX2_read_28 ?_
          refine j_aload_n C 1 dX2_read_31 rfl rfl ?_
          refine j_get C 0 fgX2_read_18 rfl rfl dX2_read_32 ?_
          refine j_get C 7 fgX2_read_22 rfl rfl dX2_read_35 ?_
          refine j_icmp_ge C dX2_read_38 (tgt := 52) (by decide) (fun _ => ?_) (fun h => absurd (nI_le (by omega) (by omega)) h)
          refine j_aload_n C 1 dX2_read_52 rfl rfl ?_
          refine j_get C 0 fgX2_read_15 rfl rfl dX2_read_53 ?_
          exact ret dX2_read_56 (⟨by rw [hRf, hR, rdE_t rfl], _, _, _, _, _, _, _, _, _, _, _, _, fun _ => by rw [hRf, hR]; exact hK1, rfl⟩)
        · refine j_iload_n C 0 dX2_read_12 rfl rfl ?_
          refine j_sipush C (v := (160 : Int32)) dX2_read_13 rfl ?_
          refine j_icmp_ge C dX2_read_16 (tgt := 52) (by decide) (fun _ => ?_) (fun h => absurd (nI_le (a := 160) (by omega) (by omega)) h)
          refine j_aload_n C 1 dX2_read_52 rfl rfl ?_
          refine j_get C 0 fgX2_read_15 rfl rfl dX2_read_53 ?_
          exact ret dX2_read_56 (⟨by rw [hRf, hR, rdE_t rfl], _, _, _, _, _, _, _, _, _, _, _, _, fun _ => by rw [hRf, hR]; exact hK1, rfl⟩)
  refine j_sub [0, 1, 2] (lv' := [(2, .int (0 : Int32)), (0, .ref (rr 0)), (1, .ref (a 0))]) rfl ?_
  exact key t 0 n m we ce co sg cr Pp Kp Hp Lp Sp hK 0 (by omega) (Nat.zero_le _) (Nat.le_refl _) hRf
