set_option maxRecDepth 100000 in
set_option maxHeartbeats 4000000 in
theorem ctX5_isIn (l : Launch) (D : KD) (x l0 g : Int32) : MI l D yX5_isIn wsX5_isIn 0 0 0 0 [.int x, .int l0, .int g] [] (fun r w1 => r = bI (pIn x l0 g) ∧ w1 = []) := by
  refine MI.ofz (cc := cX5_isIn) (nL := 3) (lv0 := [(0, .int x), (1, .int l0), (2, .int g)]) (by decide +kernel) rfl (Nat.le_of_ble_eq_true rfl) rfl ?_
  intro X hXl hin C ret
  subst hXl
  refine j_iload_n C 0 dX5_isIn_0 rfl rfl ?_
  refine j_iload_n C 1 dX5_isIn_1 rfl rfl ?_
  refine j_icmp_lt C dX5_isIn_2 (tgt := 14) (by decide) (fun h2 => ?_) (fun h2 => ?_)
  · have h2' := Int32.not_le.mpr h2
    refine j_iconst C (v := (0 : Int32)) dX5_isIn_14 rfl ?_
    exact ret dX5_isIn_15 (Or.inl rfl) (⟨by simp [bI, pIn, h2, h2'], rfl⟩)
  · have h2' := Int32.not_lt.mp h2
    refine j_iload_n C 0 dX5_isIn_5 rfl rfl ?_
    refine j_iload_n C 2 dX5_isIn_6 rfl rfl ?_
    refine j_icmp_gt C dX5_isIn_7 (tgt := 14) (by decide) (fun h7 => ?_) (fun h7 => ?_)
    · have h7' := Int32.not_le.mpr h7
      refine j_iconst C (v := (0 : Int32)) dX5_isIn_14 rfl ?_
      exact ret dX5_isIn_15 (Or.inl rfl) (⟨by simp [bI, pIn, h2, h2', h7, h7'], rfl⟩)
    · have h7' := Int32.not_lt.mp h7
      refine j_iconst C (v := (1 : Int32)) dX5_isIn_10 rfl ?_
      refine j_goto C dX5_isIn_11 (tgt := 15) (by decide) ?_
      exact ret dX5_isIn_15 (Or.inr rfl) (⟨by simp [bI, pIn, h2, h2', h7, h7'], rfl⟩)

set_option maxRecDepth 100000 in
set_option maxHeartbeats 4000000 in
theorem ctX5_isMember (l : Launch) (D : KD) (x : Int32) (i : Nat) (hi : i < 32) : MI l D yX5_isMember wsX5_isMember 0 0 0 0 [.int x, .int (nI i)] [] (fun r w1 => r = bI (bt x i) ∧ w1 = []) := by
  refine MI.ofz (cc := cX5_isMember) (nL := 2) (lv0 := [(0, .int x), (1, .int (nI i))]) (by decide +kernel) rfl (Nat.le_of_ble_eq_true rfl) rfl ?_
  intro X hXl hin C ret
  subst hXl
  refine j_iload_n C 0 dX5_isMember_0 rfl rfl ?_
  refine j_iload_n C 1 dX5_isMember_1 rfl rfl ?_
  refine j_iushr C dX5_isMember_2 ?_
  refine j_iconst C (v := (1 : Int32)) dX5_isMember_3 rfl ?_
  refine j_iand C dX5_isMember_4 ?_
  refine j_eqi (y := bI (bt x i)) (m_ushr x hi) ?_
  refine j_bif_eq C dX5_isMember_5 (tgt := 12) (by decide) (fun h5 => ?_) (fun h5 => ?_)
  · refine j_iconst C (v := (0 : Int32)) dX5_isMember_12 rfl ?_
    exact ret dX5_isMember_13 (Or.inl rfl) (⟨by simp [bI, h5], rfl⟩)
  · refine j_iconst C (v := (1 : Int32)) dX5_isMember_8 rfl ?_
    refine j_goto C dX5_isMember_9 (tgt := 13) (by decide) ?_
    exact ret dX5_isMember_13 (Or.inr rfl) (⟨by simp [bI, h5], rfl⟩)

set_option maxRecDepth 100000 in
set_option maxHeartbeats 4000000 in
theorem ctX1_hasBlock (l : Launch) (D : KD) (a : Nat → Nat) (we ce co sg cr : Int32) (Pp Kp Hp Lp Sp : Nat → Int32) (x : Int32) : MI l D yX1_hasBlock wsX1_hasBlock 0 0 0 0 [.ref (a 0), .int x] (wDo D a we ce co sg cr Pp Kp Hp Lp Sp) (fun r w1 => r = bI (dHas co x) ∧ w1 = wDo D a we ce co sg cr Pp Kp Hp Lp Sp) := by
  refine MI.ofz (cc := cX1_hasBlock) (nL := 2) (lv0 := [(0, .ref (a 0)), (1, .int x)]) (by decide +kernel) rfl (Nat.le_of_ble_eq_true rfl) rfl ?_
  intro X hXl hin C ret
  subst hXl
  refine j_iload_n C 1 dX1_hasBlock_0 rfl rfl ?_
  refine j_if_lt C dX1_hasBlock_1 (tgt := 22) (by decide) (fun h1 => ?_) (fun h1 => ?_)
  · have h1' := Int32.not_le.mpr h1
    refine j_iconst C (v := (0 : Int32)) dX1_hasBlock_22 rfl ?_
    exact ret dX1_hasBlock_23 (Or.inl rfl) (⟨by simp [bI, dHas, h1, h1'], rfl⟩)
  · have h1' := Int32.not_lt.mp h1
    refine j_iload_n C 1 dX1_hasBlock_4 rfl rfl ?_
    refine j_aload_n C 0 dX1_hasBlock_5 rfl rfl ?_
    refine j_get C 0 fgX1_hasBlock_18 rfl rfl dX1_hasBlock_6 ?_
    refine j_icmp_ge C dX1_hasBlock_9 (tgt := 22) (by decide) (fun h9 => ?_) (fun h9 => ?_)
    · have h9' := Int32.not_lt.mpr h9
      refine j_iconst C (v := (0 : Int32)) dX1_hasBlock_22 rfl ?_
      exact ret dX1_hasBlock_23 (Or.inl rfl) (⟨by simp [bI, dHas, h1, h1', h9, h9'], rfl⟩)
    · have h9' := Int32.not_le.mp h9
      refine j_iload_n C 1 dX1_hasBlock_12 rfl rfl ?_
      refine j_bipush C (v := (16 : Int32)) dX1_hasBlock_13 rfl ?_
      refine j_icmp_ge C dX1_hasBlock_15 (tgt := 22) (by decide) (fun h15 => ?_) (fun h15 => ?_)
      · have h15' := Int32.not_lt.mpr h15
        refine j_iconst C (v := (0 : Int32)) dX1_hasBlock_22 rfl ?_
        exact ret dX1_hasBlock_23 (Or.inl rfl) (⟨by simp [bI, dHas, h1, h1', h9, h9', h15, h15'], rfl⟩)
      · have h15' := Int32.not_le.mp h15
        refine j_iconst C (v := (1 : Int32)) dX1_hasBlock_18 rfl ?_
        refine j_goto C dX1_hasBlock_19 (tgt := 23) (by decide) ?_
        exact ret dX1_hasBlock_23 (Or.inr rfl) (⟨by simp [bI, dHas, h1, h1', h9, h9', h15, h15'], rfl⟩)

set_option maxRecDepth 100000 in
set_option maxHeartbeats 4000000 in
theorem ctX1_hasRoom (l : Launch) (D : KD) (a : Nat → Nat) (we ce co sg cr : Int32) (Pp Kp Hp Lp Sp : Nat → Int32) : MI l D yX1_hasRoom wsX1_hasRoom 0 0 0 0 [.ref (a 0)] (wDo D a we ce co sg cr Pp Kp Hp Lp Sp) (fun r w1 => r = bI (dRoom co) ∧ w1 = wDo D a we ce co sg cr Pp Kp Hp Lp Sp) := by
  refine MI.ofz (cc := cX1_hasRoom) (nL := 1) (lv0 := [(0, .ref (a 0))]) (by decide +kernel) rfl (Nat.le_of_ble_eq_true rfl) rfl ?_
  intro X hXl hin C ret
  subst hXl
  refine j_aload_n C 0 dX1_hasRoom_0 rfl rfl ?_
  refine j_get C 0 fgX1_hasRoom_18 rfl rfl dX1_hasRoom_1 ?_
  refine j_if_lt C dX1_hasRoom_4 (tgt := 20) (by decide) (fun h4 => ?_) (fun h4 => ?_)
  · have h4' := Int32.not_le.mpr h4
    refine j_iconst C (v := (0 : Int32)) dX1_hasRoom_20 rfl ?_
    exact ret dX1_hasRoom_21 (Or.inl rfl) (⟨by simp [bI, dRoom, h4, h4'], rfl⟩)
  · have h4' := Int32.not_lt.mp h4
    refine j_aload_n C 0 dX1_hasRoom_7 rfl rfl ?_
    refine j_get C 0 fgX1_hasRoom_18 rfl rfl dX1_hasRoom_8 ?_
    refine j_bipush C (v := (16 : Int32)) dX1_hasRoom_11 rfl ?_
    refine j_icmp_ge C dX1_hasRoom_13 (tgt := 20) (by decide) (fun h13 => ?_) (fun h13 => ?_)
    · have h13' := Int32.not_lt.mpr h13
      refine j_iconst C (v := (0 : Int32)) dX1_hasRoom_20 rfl ?_
      exact ret dX1_hasRoom_21 (Or.inl rfl) (⟨by simp [bI, dRoom, h4, h4', h13, h13'], rfl⟩)
    · have h13' := Int32.not_le.mp h13
      refine j_iconst C (v := (1 : Int32)) dX1_hasRoom_16 rfl ?_
      refine j_goto C dX1_hasRoom_17 (tgt := 21) (by decide) ?_
      exact ret dX1_hasRoom_21 (Or.inr rfl) (⟨by simp [bI, dRoom, h4, h4', h13, h13'], rfl⟩)

set_option maxRecDepth 100000 in
set_option maxHeartbeats 4000000 in
theorem ctX1_add (l : Launch) (D : KD) (a : Nat → Nat) (we ce co sg cr : Int32) (Pp Kp Hp Lp Sp : Nat → Int32) (p0 s0 c0 l0 : Int32) (hroom : dRoom co = true) : MI l D yX1_add wsX1_add 0 0 0 0 [.ref (a 0), .int p0, .int s0, .int c0, .int l0] (wDo D a we ce co sg cr Pp Kp Hp Lp Sp) (fun r w1 => r = co ∧ w1 = wDo D a we ce (co + 1) (sg ||| bit co) cr (upd Pp co.toNatClampNeg p0) (upd Kp co.toNatClampNeg s0) (upd Hp co.toNatClampNeg c0) (upd Lp co.toNatClampNeg l0) (upd Sp co.toNatClampNeg 0)) := by
  refine MI.of (cc := cX1_add) (nL := 6) (lv0 := [(0, .ref (a 0)), (1, .int p0), (2, .int s0), (3, .int c0), (4, .int l0)]) (by decide +kernel) rfl (Nat.le_of_ble_eq_true rfl) rfl ?_
  intro X hXl hin C ret
  subst hXl
  have hri := dRoom_i hroom
  refine j_aload_n C 0 dX1_add_0 rfl rfl ?_
  refine j_get C 0 fgX1_add_18 rfl rfl dX1_add_1 ?_
  refine j_istore C dX1_add_4 (by decide) (lv' := [(5, .int co), (0, .ref (a 0)), (1, .int p0), (2, .int s0), (3, .int c0), (4, .int l0)]) rfl ?_
  refine j_iload C 0 dX1_add_6 rfl ?_
  refine j_if_lt C dX1_add_8 (tgt := 18) (by decide) (fun h => absurd h (Int32.not_lt.mpr (dRoom_T hroom).1)) (fun _ => ?_)
  refine j_iload C 0 dX1_add_11 rfl ?_
  refine j_bipush C (v := (16 : Int32)) dX1_add_13 rfl ?_
  refine j_icmp_lt C dX1_add_15 (tgt := 20) (by decide) (fun _ => ?_) (fun h => absurd (dRoom_T hroom).2 h)
  refine j_aload_n C 1 dX1_add_20 rfl rfl ?_
  refine j_get C 0 fgX1_add_27 rfl rfl dX1_add_21 ?_
  refine j_iload C 0 dX1_add_24 rfl ?_
  refine j_iload_n C 2 dX1_add_26 rfl rfl ?_
  refine j_iast C 1 rfl (i := co.toNatClampNeg) hri.1 hri.2 (by decide) (w' := (wDo D a we ce co sg cr (upd Pp co.toNatClampNeg p0) Kp Hp Lp Sp)) rfl dX1_add_27 ?_
  refine j_aload_n C 1 dX1_add_28 rfl rfl ?_
  refine j_get C 0 fgX1_add_31 rfl rfl dX1_add_29 ?_
  refine j_iload C 0 dX1_add_32 rfl ?_
  refine j_iload_n C 3 dX1_add_34 rfl rfl ?_
  refine j_iast C 2 rfl (i := co.toNatClampNeg) hri.1 hri.2 (by decide) (w' := (wDo D a we ce co sg cr (upd Pp co.toNatClampNeg p0) (upd Kp co.toNatClampNeg s0) Hp Lp Sp)) rfl dX1_add_35 ?_
  refine j_aload_n C 1 dX1_add_36 rfl rfl ?_
  refine j_get C 0 fgX1_add_34 rfl rfl dX1_add_37 ?_
  refine j_iload C 0 dX1_add_40 rfl ?_
  refine j_iload_n C 4 dX1_add_42 rfl rfl ?_
  refine j_iast C 3 rfl (i := co.toNatClampNeg) hri.1 hri.2 (by decide) (w' := (wDo D a we ce co sg cr (upd Pp co.toNatClampNeg p0) (upd Kp co.toNatClampNeg s0) (upd Hp co.toNatClampNeg c0) Lp Sp)) rfl dX1_add_43 ?_
  refine j_aload_n C 1 dX1_add_44 rfl rfl ?_
  refine j_get C 0 fgX1_add_37 rfl rfl dX1_add_45 ?_
  refine j_iload C 0 dX1_add_48 rfl ?_
  refine j_iload C 5 dX1_add_50 rfl ?_
  refine j_iast C 4 rfl (i := co.toNatClampNeg) hri.1 hri.2 (by decide) (w' := (wDo D a we ce co sg cr (upd Pp co.toNatClampNeg p0) (upd Kp co.toNatClampNeg s0) (upd Hp co.toNatClampNeg c0) (upd Lp co.toNatClampNeg l0) Sp)) rfl dX1_add_52 ?_
  refine j_aload_n C 1 dX1_add_53 rfl rfl ?_
  refine j_get C 0 fgX1_add_40 rfl rfl dX1_add_54 ?_
  refine j_iload C 0 dX1_add_57 rfl ?_
  refine j_iconst C (v := (0 : Int32)) dX1_add_59 rfl ?_
  refine j_iast C 5 rfl (i := co.toNatClampNeg) hri.1 hri.2 (by decide) (w' := (wDo D a we ce co sg cr (upd Pp co.toNatClampNeg p0) (upd Kp co.toNatClampNeg s0) (upd Hp co.toNatClampNeg c0) (upd Lp co.toNatClampNeg l0) (upd Sp co.toNatClampNeg (0 : Int32)))) rfl dX1_add_60 ?_
  refine j_aload_n C 1 dX1_add_61 rfl rfl ?_
  refine j_dup C dX1_add_62 rfl ?_
  refine j_get C 0 fgX1_add_21 rfl rfl dX1_add_63 ?_
  refine j_iconst C (v := (1 : Int32)) dX1_add_66 rfl ?_
  refine j_iload C 0 dX1_add_67 rfl ?_
  refine j_ishl C dX1_add_69 ?_
  refine j_ior C dX1_add_70 ?_
  refine j_put C 0 foX1_add_21 rfl (w' := (wDo D a we ce co (sg ||| ((1 : Int32) <<< (co &&& 31))) cr (upd Pp co.toNatClampNeg p0) (upd Kp co.toNatClampNeg s0) (upd Hp co.toNatClampNeg c0) (upd Lp co.toNatClampNeg l0) (upd Sp co.toNatClampNeg (0 : Int32)))) rfl rfl rfl (Nat.le_of_ble_eq_true rfl) dX1_add_71 ?_
  refine j_aload_n C 1 dX1_add_74 rfl rfl ?_
  refine j_iload C 0 dX1_add_75 rfl ?_
  refine j_iconst C (v := (1 : Int32)) dX1_add_77 rfl ?_
  refine j_iadd C dX1_add_78 ?_
  refine j_put C 0 foX1_add_18 rfl (w' := (wDo D a we ce (co + (1 : Int32)) (sg ||| ((1 : Int32) <<< (co &&& 31))) cr (upd Pp co.toNatClampNeg p0) (upd Kp co.toNatClampNeg s0) (upd Hp co.toNatClampNeg c0) (upd Lp co.toNatClampNeg l0) (upd Sp co.toNatClampNeg (0 : Int32)))) rfl rfl rfl (Nat.le_of_ble_eq_true rfl) dX1_add_79 ?_
  refine j_iload C 0 dX1_add_82 rfl ?_
  exact ret dX1_add_84 (⟨rfl, rfl⟩)

set_option maxRecDepth 100000 in
set_option maxHeartbeats 4000000 in
theorem ctX1_addF (l : Launch) (D : KD) (a : Nat → Nat) (we ce co sg cr : Int32) (Pp Kp Hp Lp Sp : Nat → Int32) (p0 s0 c0 l0 : Int32) (hroom : dRoom co = false) : MI l D yX1_add wsX1_add 0 0 0 0 [.ref (a 0), .int p0, .int s0, .int c0, .int l0] (wDo D a we ce co sg cr Pp Kp Hp Lp Sp) (fun r w1 => r = -1 ∧ w1 = wDo D a we ce co sg cr Pp Kp Hp Lp Sp) := by
  refine MI.of (cc := cX1_add) (nL := 6) (lv0 := [(0, .ref (a 0)), (1, .int p0), (2, .int s0), (3, .int c0), (4, .int l0)]) (by decide +kernel) rfl (Nat.le_of_ble_eq_true rfl) rfl ?_
  intro X hXl hin C ret
  subst hXl
  refine j_aload_n C 0 dX1_add_0 rfl rfl ?_
  refine j_get C 0 fgX1_add_18 rfl rfl dX1_add_1 ?_
  refine j_istore C dX1_add_4 (by decide) (lv' := [(5, .int co), (0, .ref (a 0)), (1, .int p0), (2, .int s0), (3, .int c0), (4, .int l0)]) rfl ?_
  refine j_iload C 0 dX1_add_6 rfl ?_
  refine j_if_lt C dX1_add_8 (tgt := 18) (by decide) (fun h8 => ?_) (fun h8 => ?_)
  · have h8' := Int32.not_le.mpr h8
    refine j_iconst C (v := (-1 : Int32)) dX1_add_18 rfl ?_
    exact ret dX1_add_19 (⟨rfl, rfl⟩)
  · have h8' := Int32.not_lt.mp h8
    refine j_iload C 0 dX1_add_11 rfl ?_
    refine j_bipush C (v := (16 : Int32)) dX1_add_13 rfl ?_
    refine j_icmp_lt C dX1_add_15 (tgt := 20) (by decide) (fun h => absurd h (fun z => by rw [dRoom_of h8' z] at hroom; cases hroom)) (fun _ => ?_)
    refine j_iconst C (v := (-1 : Int32)) dX1_add_18 rfl ?_
    exact ret dX1_add_19 (⟨rfl, rfl⟩)

set_option maxRecDepth 100000 in
set_option maxHeartbeats 4000000 in
theorem ctX1_pullOut (l : Launch) (D : KD) (a : Nat → Nat) (we ce co sg cr : Int32) (Pp Kp Hp Lp Sp : Nat → Int32) (x : Int32) : MV l D yX1_pullOut wsX1_pullOut 0 0 0 0 [.ref (a 0), .int x] (wDo D a we ce co sg cr Pp Kp Hp Lp Sp) (fun w1 => w1 = wDo D a we ce co (sg &&& (bit x ^^^ (-1))) cr Pp Kp Hp Lp Sp) := by
  refine MV.of (cc := cX1_pullOut) (nL := 2) (lv0 := [(0, .ref (a 0)), (1, .int x)]) (by decide +kernel) rfl (Nat.le_of_ble_eq_true rfl) rfl ?_
  intro X hXl hin C ret
  subst hXl
  refine j_aload_n C 0 dX1_pullOut_0 rfl rfl ?_
  refine j_dup C dX1_pullOut_1 rfl ?_
  refine j_get C 0 fgX1_pullOut_21 rfl rfl dX1_pullOut_2 ?_
  refine j_iconst C (v := (1 : Int32)) dX1_pullOut_5 rfl ?_
  refine j_iload_n C 1 dX1_pullOut_6 rfl rfl ?_
  refine j_ishl C dX1_pullOut_7 ?_
  refine j_iconst C (v := (-1 : Int32)) dX1_pullOut_8 rfl ?_
  refine j_ixor C dX1_pullOut_9 ?_
  refine j_iand C dX1_pullOut_10 ?_
  refine j_put C 0 foX1_pullOut_21 rfl (w' := (wDo D a we ce co (sg &&& (((1 : Int32) <<< (x &&& 31)) ^^^ (-1 : Int32))) cr Pp Kp Hp Lp Sp)) rfl rfl rfl (Nat.le_of_ble_eq_true rfl) dX1_pullOut_11 ?_
  exact ret dX1_pullOut_14 (rfl)

set_option maxRecDepth 100000 in
set_option maxHeartbeats 4000000 in
theorem ctX1_putBack (l : Launch) (D : KD) (a : Nat → Nat) (we ce co sg cr : Int32) (Pp Kp Hp Lp Sp : Nat → Int32) (x : Int32) : MV l D yX1_putBack wsX1_putBack 0 0 0 0 [.ref (a 0), .int x] (wDo D a we ce co sg cr Pp Kp Hp Lp Sp) (fun w1 => w1 = wDo D a we ce co (sg ||| bit x) (cr &&& (bit x ^^^ (-1))) Pp Kp Hp Lp Sp) := by
  refine MV.of (cc := cX1_putBack) (nL := 2) (lv0 := [(0, .ref (a 0)), (1, .int x)]) (by decide +kernel) rfl (Nat.le_of_ble_eq_true rfl) rfl ?_
  intro X hXl hin C ret
  subst hXl
  refine j_aload_n C 0 dX1_putBack_0 rfl rfl ?_
  refine j_dup C dX1_putBack_1 rfl ?_
  refine j_get C 0 fgX1_putBack_21 rfl rfl dX1_putBack_2 ?_
  refine j_iconst C (v := (1 : Int32)) dX1_putBack_5 rfl ?_
  refine j_iload_n C 1 dX1_putBack_6 rfl rfl ?_
  refine j_ishl C dX1_putBack_7 ?_
  refine j_ior C dX1_putBack_8 ?_
  refine j_put C 0 foX1_putBack_21 rfl (w' := (wDo D a we ce co (sg ||| ((1 : Int32) <<< (x &&& 31))) cr Pp Kp Hp Lp Sp)) rfl rfl rfl (Nat.le_of_ble_eq_true rfl) dX1_putBack_9 ?_
  refine j_aload_n C 0 dX1_putBack_12 rfl rfl ?_
  refine j_dup C dX1_putBack_13 rfl ?_
  refine j_get C 0 fgX1_putBack_24 rfl rfl dX1_putBack_14 ?_
  refine j_iconst C (v := (1 : Int32)) dX1_putBack_17 rfl ?_
  refine j_iload_n C 1 dX1_putBack_18 rfl rfl ?_
  refine j_ishl C dX1_putBack_19 ?_
  refine j_iconst C (v := (-1 : Int32)) dX1_putBack_20 rfl ?_
  refine j_ixor C dX1_putBack_21 ?_
  refine j_iand C dX1_putBack_22 ?_
  refine j_put C 0 foX1_putBack_24 rfl (w' := (wDo D a we ce co (sg ||| ((1 : Int32) <<< (x &&& 31))) (cr &&& (((1 : Int32) <<< (x &&& 31)) ^^^ (-1 : Int32))) Pp Kp Hp Lp Sp)) rfl rfl rfl (Nat.le_of_ble_eq_true rfl) dX1_putBack_23 ?_
  exact ret dX1_putBack_26 (rfl)

set_option maxRecDepth 100000 in
set_option maxHeartbeats 4000000 in
theorem ctX1_crush (l : Launch) (D : KD) (a : Nat → Nat) (we ce co sg cr : Int32) (Pp Kp Hp Lp Sp : Nat → Int32) (x : Int32) : MV l D yX1_crush wsX1_crush 0 0 0 0 [.ref (a 0), .int x] (wDo D a we ce co sg cr Pp Kp Hp Lp Sp) (fun w1 => w1 = wDo D a we ce co (sg &&& (x ^^^ (-1))) (cr ||| x) Pp Kp Hp Lp Sp) := by
  refine MV.of (cc := cX1_crush) (nL := 2) (lv0 := [(0, .ref (a 0)), (1, .int x)]) (by decide +kernel) rfl (Nat.le_of_ble_eq_true rfl) rfl ?_
  intro X hXl hin C ret
  subst hXl
  refine j_aload_n C 0 dX1_crush_0 rfl rfl ?_
  refine j_dup C dX1_crush_1 rfl ?_
  refine j_get C 0 fgX1_crush_21 rfl rfl dX1_crush_2 ?_
  refine j_iload_n C 1 dX1_crush_5 rfl rfl ?_
  refine j_iconst C (v := (-1 : Int32)) dX1_crush_6 rfl ?_
  refine j_ixor C dX1_crush_7 ?_
  refine j_iand C dX1_crush_8 ?_
  refine j_put C 0 foX1_crush_21 rfl (w' := (wDo D a we ce co (sg &&& (x ^^^ (-1 : Int32))) cr Pp Kp Hp Lp Sp)) rfl rfl rfl (Nat.le_of_ble_eq_true rfl) dX1_crush_9 ?_
  refine j_aload_n C 0 dX1_crush_12 rfl rfl ?_
  refine j_dup C dX1_crush_13 rfl ?_
  refine j_get C 0 fgX1_crush_24 rfl rfl dX1_crush_14 ?_
  refine j_iload_n C 1 dX1_crush_17 rfl rfl ?_
  refine j_ior C dX1_crush_18 ?_
  refine j_put C 0 foX1_crush_24 rfl (w' := (wDo D a we ce co (sg &&& (x ^^^ (-1 : Int32))) (cr ||| x) Pp Kp Hp Lp Sp)) rfl rfl rfl (Nat.le_of_ble_eq_true rfl) dX1_crush_19 ?_
  exact ret dX1_crush_22 (rfl)

set_option maxRecDepth 100000 in
set_option maxHeartbeats 4000000 in
theorem ctX1_lowerCap (l : Launch) (D : KD) (a : Nat → Nat) (we ce co sg cr : Int32) (Pp Kp Hp Lp Sp : Nat → Int32) (x : Int32) (hlow : dLow co Hp x = true) : MI l D yX1_lowerCap wsX1_lowerCap 1 21 0 0 [.ref (a 0), .int x] (wDo D a we ce co sg cr Pp Kp Hp Lp Sp) (fun r w1 => r = 1 ∧ w1 = wDo D a we ce co sg cr Pp Kp (upd Hp x.toNatClampNeg (Hp x.toNatClampNeg - 1)) Lp (upd Sp x.toNatClampNeg (Sp x.toNatClampNeg + 1))) := by
  refine MI.ofz (cc := cX1_lowerCap) (nL := 2) (lv0 := [(0, .ref (a 0)), (1, .int x)]) (by decide +kernel) rfl (Nat.le_of_ble_eq_true rfl) rfl ?_
  intro X hXl hin C ret
  subst hXl
  have hlo2 : dHas co x = true ∧ ¬ Hp x.toNatClampNeg ≤ (-50 : Int32) := by simpa [dLow] using hlow
  have hri := dHas_i hlo2.1
  refine j_aload_n C 0 dX1_lowerCap_0 rfl rfl ?_
  refine j_iload_n C 1 dX1_lowerCap_1 rfl rfl ?_
  refine j_cv_i C (As := [.int x]) (rest := []) (ctX1_hasBlock (xl X) D a we ce co sg cr Pp Kp Hp Lp Sp x) mfX1_hasBlock gX1_lowerCap_X1_hasBlock rfl (Nat.le_of_ble_eq_true rfl) (Nat.le_of_ble_eq_true rfl) (Nat.le_of_ble_eq_true rfl) (Nat.le_of_ble_eq_true rfl) [0, 1, 2, 3, 4, 5] rfl rfl 0 rfl rfl rfl rfl (Nat.le_of_ble_eq_true rfl) dX1_lowerCap_2 ?_
  rintro _ _ ⟨rfl, rfl⟩
  refine ⟨rfl, ?_⟩
  refine j_w (w' := (wDo D a we ce co sg cr Pp Kp Hp Lp Sp)) rfl ?_
  refine j_bif_eq C dX1_lowerCap_5 (tgt := 19) (by decide) (fun h => absurd h (by rw [hlo2.1]; decide)) (fun _ => ?_)
  refine j_aload_n C 0 dX1_lowerCap_8 rfl rfl ?_
  refine j_get C 0 fgX1_lowerCap_34 rfl rfl dX1_lowerCap_9 ?_
  refine j_iload_n C 1 dX1_lowerCap_12 rfl rfl ?_
  refine j_iald C 3 rfl (i := x.toNatClampNeg) hri.1 hri.2 (by decide) dX1_lowerCap_13 ?_
  refine j_bipush C (v := (-50 : Int32)) dX1_lowerCap_14 rfl ?_
  refine j_icmp_gt C dX1_lowerCap_16 (tgt := 21) (by decide) (fun _ => ?_) (fun h => absurd (Int32.not_le.mp hlo2.2) h)
  refine j_aload_n C 0 dX1_lowerCap_21 rfl rfl ?_
  refine j_get C 0 fgX1_lowerCap_34 rfl rfl dX1_lowerCap_22 ?_
  refine j_iload_n C 1 dX1_lowerCap_25 rfl rfl ?_
  refine j_dup2 C dX1_lowerCap_26 rfl rfl ?_
  refine j_iald C 3 rfl (i := x.toNatClampNeg) hri.1 hri.2 (by decide) dX1_lowerCap_27 ?_
  refine j_iconst C (v := (1 : Int32)) dX1_lowerCap_28 rfl ?_
  refine j_isub C dX1_lowerCap_29 ?_
  refine j_iast C 3 rfl (i := x.toNatClampNeg) hri.1 hri.2 (by decide) (w' := (wDo D a we ce co sg cr Pp Kp (upd Hp x.toNatClampNeg ((Hp x.toNatClampNeg) - (1 : Int32))) Lp Sp)) rfl dX1_lowerCap_30 ?_
  refine j_aload_n C 0 dX1_lowerCap_31 rfl rfl ?_
  refine j_get C 0 fgX1_lowerCap_40 rfl rfl dX1_lowerCap_32 ?_
  refine j_iload_n C 1 dX1_lowerCap_35 rfl rfl ?_
  refine j_dup2 C dX1_lowerCap_36 rfl rfl ?_
  refine j_iald C 5 rfl (i := x.toNatClampNeg) hri.1 hri.2 (by decide) dX1_lowerCap_37 ?_
  refine j_iconst C (v := (1 : Int32)) dX1_lowerCap_38 rfl ?_
  refine j_iadd C dX1_lowerCap_39 ?_
  refine j_iast C 5 rfl (i := x.toNatClampNeg) hri.1 hri.2 (by decide) (w' := (wDo D a we ce co sg cr Pp Kp (upd Hp x.toNatClampNeg ((Hp x.toNatClampNeg) - (1 : Int32))) Lp (upd Sp x.toNatClampNeg ((Sp x.toNatClampNeg) + (1 : Int32))))) rfl dX1_lowerCap_40 ?_
  refine j_iconst C (v := (1 : Int32)) dX1_lowerCap_41 rfl ?_
  exact ret dX1_lowerCap_42 (Or.inr rfl) (⟨rfl, rfl⟩)

set_option maxRecDepth 100000 in
set_option maxHeartbeats 4000000 in
theorem ctX1_lowerCapF (l : Launch) (D : KD) (a : Nat → Nat) (we ce co sg cr : Int32) (Pp Kp Hp Lp Sp : Nat → Int32) (x : Int32) (hlow : dLow co Hp x = false) : MI l D yX1_lowerCap wsX1_lowerCap 1 21 0 0 [.ref (a 0), .int x] (wDo D a we ce co sg cr Pp Kp Hp Lp Sp) (fun r w1 => r = 0 ∧ w1 = wDo D a we ce co sg cr Pp Kp Hp Lp Sp) := by
  refine MI.ofz (cc := cX1_lowerCap) (nL := 2) (lv0 := [(0, .ref (a 0)), (1, .int x)]) (by decide +kernel) rfl (Nat.le_of_ble_eq_true rfl) rfl ?_
  intro X hXl hin C ret
  subst hXl
  refine j_aload_n C 0 dX1_lowerCap_0 rfl rfl ?_
  refine j_iload_n C 1 dX1_lowerCap_1 rfl rfl ?_
  refine j_cv_i C (As := [.int x]) (rest := []) (ctX1_hasBlock (xl X) D a we ce co sg cr Pp Kp Hp Lp Sp x) mfX1_hasBlock gX1_lowerCap_X1_hasBlock rfl (Nat.le_of_ble_eq_true rfl) (Nat.le_of_ble_eq_true rfl) (Nat.le_of_ble_eq_true rfl) (Nat.le_of_ble_eq_true rfl) [0, 1, 2, 3, 4, 5] rfl rfl 0 rfl rfl rfl rfl (Nat.le_of_ble_eq_true rfl) dX1_lowerCap_2 ?_
  rintro _ _ ⟨rfl, rfl⟩
  refine ⟨rfl, ?_⟩
  refine j_w (w' := (wDo D a we ce co sg cr Pp Kp Hp Lp Sp)) rfl ?_
  refine j_bif_eq C dX1_lowerCap_5 (tgt := 19) (by decide) (fun h5 => ?_) (fun h5 => ?_)
  · refine j_iconst C (v := (0 : Int32)) dX1_lowerCap_19 rfl ?_
    exact ret dX1_lowerCap_20 (Or.inl rfl) (⟨rfl, rfl⟩)
  · have hri := dHas_i h5
    refine j_aload_n C 0 dX1_lowerCap_8 rfl rfl ?_
    refine j_get C 0 fgX1_lowerCap_34 rfl rfl dX1_lowerCap_9 ?_
    refine j_iload_n C 1 dX1_lowerCap_12 rfl rfl ?_
    refine j_iald C 3 rfl (i := x.toNatClampNeg) hri.1 hri.2 (by decide) dX1_lowerCap_13 ?_
    refine j_bipush C (v := (-50 : Int32)) dX1_lowerCap_14 rfl ?_
    refine j_icmp_gt C dX1_lowerCap_16 (tgt := 21) (by decide) (fun h => absurd h (fun z => by simp [dLow, h5, Int32.not_le.mpr z] at hlow)) (fun _ => ?_)
    refine j_iconst C (v := (0 : Int32)) dX1_lowerCap_19 rfl ?_
    exact ret dX1_lowerCap_20 (Or.inl rfl) (⟨rfl, rfl⟩)

set_option maxRecDepth 100000 in
set_option maxHeartbeats 4000000 in
theorem ctX1_stateOf (l : Launch) (D : KD) (a : Nat → Nat) (we ce co sg cr : Int32) (Pp Kp Hp Lp Sp : Nat → Int32) (i : Nat) (hi : i < 16) : MI l D yX1_stateOf wsX1_stateOf 1 21 0 0 [.ref (a 0), .int (nI i)] (wDo D a we ce co sg cr Pp Kp Hp Lp Sp) (fun r w1 => r = dState sg cr i ∧ w1 = wDo D a we ce co sg cr Pp Kp Hp Lp Sp) := by
  refine MI.of (cc := cX1_stateOf) (nL := 2) (lv0 := [(0, .ref (a 0)), (1, .int (nI i))]) (by decide +kernel) rfl (Nat.le_of_ble_eq_true rfl) rfl ?_
  intro X hXl hin C ret
  subst hXl
  refine j_aload_n C 0 dX1_stateOf_0 rfl rfl ?_
  refine j_get C 0 fgX1_stateOf_21 rfl rfl dX1_stateOf_1 ?_
  refine j_iload_n C 1 dX1_stateOf_4 rfl rfl ?_
  refine j_csN_i C (As := [.int sg, .int (nI i)]) (rest := []) (ctX5_isMember (xl X) D sg i (by first | assumption | omega | decide)) mfX5_isMember gX1_stateOf_X5_isMember_n47 rfl (C.hN.2.2.2.2.2.2.2.1) mX1_stateOf_static_yX5_isMember mX1_stateOf_initialized_RX5 (Nat.le_of_ble_eq_true rfl) (Nat.le_of_ble_eq_true rfl) (Nat.le_of_ble_eq_true rfl) (Nat.le_of_ble_eq_true rfl) [] rfl rfl rfl (Nat.le_of_ble_eq_true rfl) dX1_stateOf_5 ?_
  rintro _ _ ⟨rfl, rfl⟩
  refine ⟨rfl, ?_⟩
  refine j_w (w' := (wDo D a we ce co sg cr Pp Kp Hp Lp Sp)) rfl ?_
  refine j_bif_eq C dX1_stateOf_8 (tgt := 13) (by decide) (fun h8 => ?_) (fun h8 => ?_)
  · refine j_aload_n C 0 dX1_stateOf_13 rfl rfl ?_
    refine j_get C 0 fgX1_stateOf_24 rfl rfl dX1_stateOf_14 ?_
    refine j_iload_n C 1 dX1_stateOf_17 rfl rfl ?_
    refine j_csN_i C (As := [.int cr, .int (nI i)]) (rest := []) (ctX5_isMember (xl X) D cr i (by first | assumption | omega | decide)) mfX5_isMember gX1_stateOf_X5_isMember_n47 rfl (C.hN.2.2.2.2.2.2.2.1) mX1_stateOf_static_yX5_isMember mX1_stateOf_initialized_RX5 (Nat.le_of_ble_eq_true rfl) (Nat.le_of_ble_eq_true rfl) (Nat.le_of_ble_eq_true rfl) (Nat.le_of_ble_eq_true rfl) [] rfl rfl rfl (Nat.le_of_ble_eq_true rfl) dX1_stateOf_18 ?_
    rintro _ _ ⟨rfl, rfl⟩
    refine ⟨rfl, ?_⟩
    refine j_w (w' := (wDo D a we ce co sg cr Pp Kp Hp Lp Sp)) rfl ?_
    refine j_bif_eq C dX1_stateOf_21 (tgt := 28) (by decide) (fun h21 => ?_) (fun h21 => ?_)
    · refine j_iconst C (v := (1 : Int32)) dX1_stateOf_28 rfl ?_
      exact ret dX1_stateOf_29 (⟨by simp [dState, h8, h21], rfl⟩)
    · refine j_iconst C (v := (2 : Int32)) dX1_stateOf_24 rfl ?_
      refine j_goto C dX1_stateOf_25 (tgt := 29) (by decide) ?_
      exact ret dX1_stateOf_29 (⟨by simp [dState, h8, h21], rfl⟩)
  · refine j_iconst C (v := (0 : Int32)) dX1_stateOf_11 rfl ?_
    exact ret dX1_stateOf_12 (⟨by simp [dState, h8], rfl⟩)

