set_option maxRecDepth 100000 in
set_option maxHeartbeats 4000000 in
theorem ctX3_add (l : Launch) (D : KD) (tt : Nat → Nat) (tx : Nat → Int32) (t : Nat) (ht : t < 160) (x : Int32) (hx : pIn x 0 127 = true) : MV l D yX3_add wsX3_add 0 0 0 0 [.ref (tt 0), .int x] (wTx D tt (nI t) tx) (fun w1 => w1 = wTx D tt (nI (t + 1)) (upd tx t x)) := by
  refine MV.of (cc := cX3_add) (nL := 2) (lv0 := [(0, .ref (tt 0)), (1, .int x)]) (by decide +kernel) rfl (Nat.le_of_ble_eq_true rfl) rfl ?_
  intro X hXl hin C ret
  subst hXl
  refine j_aload_n C 0 dX3_add_0 rfl rfl ?_
  refine j_get C 0 fgX3_add_9 rfl rfl dX3_add_1 ?_
  refine j_if_lt C dX3_add_4 (tgt := 38) (by decide) (fun h => absurd h (nI_pos (by omega))) (fun _ => ?_)
  refine j_aload_n C 0 dX3_add_7 rfl rfl ?_
  refine j_get C 0 fgX3_add_9 rfl rfl dX3_add_8 ?_
  refine j_sipush C (v := (160 : Int32)) dX3_add_11 rfl ?_
  refine j_icmp_ge C dX3_add_14 (tgt := 38) (by decide) (fun h => absurd h (nI_ge (b := 160) (by omega) (by decide))) (fun _ => ?_)
  refine j_aload_n C 0 dX3_add_17 rfl rfl ?_
  refine j_get C 0 fgX3_add_15 rfl rfl dX3_add_18 ?_
  refine j_aload_n C 0 dX3_add_21 rfl rfl ?_
  refine j_get C 0 fgX3_add_9 rfl rfl dX3_add_22 ?_
  refine j_iload_n C 1 dX3_add_25 rfl rfl ?_
  refine j_i2b C dX3_add_26 ?_
  refine j_bast C 1 rfl (i := t) rfl (by omega) (by decide) (w' := (wTx D tt (nI t) (upd tx t (vp_nar .byte x.toInt8.toInt32)))) rfl dX3_add_27 ?_
  refine j_aload_n C 0 dX3_add_28 rfl rfl ?_
  refine j_dup C dX3_add_29 rfl ?_
  refine j_get C 0 fgX3_add_9 rfl rfl dX3_add_30 ?_
  refine j_iconst C (v := (1 : Int32)) dX3_add_33 rfl ?_
  refine j_iadd C dX3_add_34 ?_
  refine j_eqi (y := nI (t + 1)) (nI_add t 1) ?_
  refine j_put C 0 foX3_add_9 rfl (w' := (wTx D tt (nI (t + 1)) (upd tx t (vp_nar .byte x.toInt8.toInt32)))) rfl rfl rfl (Nat.le_of_ble_eq_true rfl) dX3_add_35 ?_
  exact ret dX3_add_38 (by rw [nar_of hx])

set_option maxRecDepth 100000 in
set_option maxHeartbeats 4000000 in
theorem ctX3_byteAt (l : Launch) (D : KD) (tt : Nat → Nat) (tx : Nat → Int32) (t : Nat) (ht : t ≤ 160) (p : Nat) (hp : p ≤ 160) : MI l D yX3_byteAt wsX3_byteAt 0 0 0 0 [.ref (tt 0), .int (nI p)] (wTx D tt (nI t) tx) (fun r w1 => r = rh tx t p ∧ w1 = wTx D tt (nI t) tx) := by
  refine MI.of (cc := cX3_byteAt) (nL := 2) (lv0 := [(0, .ref (tt 0)), (1, .int (nI p))]) (by decide +kernel) rfl (Nat.le_of_ble_eq_true rfl) rfl ?_
  intro X hXl hin C ret
  subst hXl
  refine j_iload_n C 1 dX3_byteAt_0 rfl rfl ?_
  refine j_if_lt C dX3_byteAt_1 (tgt := 28) (by decide) (fun h => absurd h (nI_pos (by omega))) (fun _ => ?_)
  refine j_iload_n C 1 dX3_byteAt_4 rfl rfl ?_
  refine j_aload_n C 0 dX3_byteAt_5 rfl rfl ?_
  refine j_get C 0 fgX3_byteAt_9 rfl rfl dX3_byteAt_6 ?_
  refine j_icmp_ge C dX3_byteAt_9 (tgt := 28) (by decide) (fun h9 => ?_) (fun h9 => ?_)
  · have h9' := Int32.not_lt.mpr h9
    have hpt : ¬ p < t := fun z => absurd ((nI_leI (by omega) (by omega)).mp h9) (by omega)
    refine j_iconst C (v := (-1 : Int32)) dX3_byteAt_28 rfl ?_
    exact ret dX3_byteAt_29 (⟨by simp [rh, hpt], rfl⟩)
  · have h9' := Int32.not_le.mp h9
    have hpt : p < t := Nat.lt_of_not_le fun z => h9 ((nI_leI (by omega) (by omega)).mpr z)
    refine j_iload_n C 1 dX3_byteAt_12 rfl rfl ?_
    refine j_sipush C (v := (160 : Int32)) dX3_byteAt_13 rfl ?_
    refine j_icmp_ge C dX3_byteAt_16 (tgt := 28) (by decide) (fun h => absurd h (nI_ge (b := 160) (by omega) (by decide))) (fun _ => ?_)
    refine j_aload_n C 0 dX3_byteAt_19 rfl rfl ?_
    refine j_get C 0 fgX3_byteAt_15 rfl rfl dX3_byteAt_20 ?_
    refine j_iload_n C 1 dX3_byteAt_23 rfl rfl ?_
    refine j_bald C 1 rfl (i := p) rfl (by omega) (by decide) dX3_byteAt_24 ?_
    refine j_goto C dX3_byteAt_25 (tgt := 29) (by decide) ?_
    exact ret dX3_byteAt_29 (⟨by simp [rh, hpt], rfl⟩)

set_option maxRecDepth 100000 in
set_option maxHeartbeats 4000000 in
theorem ctX2_isDigit (l : Launch) (D : KD) (x : Int32) : MI l D yX2_isDigit wsX2_isDigit 0 0 0 0 [.int x] [] (fun r w1 => r = bI (pIn x 48 57) ∧ w1 = []) := by
  refine MI.ofz (cc := cX2_isDigit) (nL := 1) (lv0 := [(0, .int x)]) (by decide +kernel) rfl (Nat.le_of_ble_eq_true rfl) rfl ?_
  intro X hXl hin C ret
  subst hXl
  refine j_iload_n C 0 dX2_isDigit_0 rfl rfl ?_
  refine j_bipush C (v := (48 : Int32)) dX2_isDigit_1 rfl ?_
  refine j_icmp_lt C dX2_isDigit_3 (tgt := 16) (by decide) (fun h3 => ?_) (fun h3 => ?_)
  · have h3' := Int32.not_le.mpr h3
    refine j_iconst C (v := (0 : Int32)) dX2_isDigit_16 rfl ?_
    exact ret dX2_isDigit_17 (Or.inl rfl) (⟨by simp [bI, pIn, h3, h3'], rfl⟩)
  · have h3' := Int32.not_lt.mp h3
    refine j_iload_n C 0 dX2_isDigit_6 rfl rfl ?_
    refine j_bipush C (v := (57 : Int32)) dX2_isDigit_7 rfl ?_
    refine j_icmp_gt C dX2_isDigit_9 (tgt := 16) (by decide) (fun h9 => ?_) (fun h9 => ?_)
    · have h9' := Int32.not_le.mpr h9
      refine j_iconst C (v := (0 : Int32)) dX2_isDigit_16 rfl ?_
      exact ret dX2_isDigit_17 (Or.inl rfl) (⟨by simp [bI, pIn, h3, h3', h9, h9'], rfl⟩)
    · have h9' := Int32.not_lt.mp h9
      refine j_iconst C (v := (1 : Int32)) dX2_isDigit_12 rfl ?_
      refine j_goto C dX2_isDigit_13 (tgt := 17) (by decide) ?_
      exact ret dX2_isDigit_17 (Or.inr rfl) (⟨by simp [bI, pIn, h3, h3', h9, h9'], rfl⟩)

set_option maxRecDepth 100000 in
set_option maxHeartbeats 4000000 in
theorem ctX2_readNumberX (l : Launch) (D : KD) (rr tt : Nat → Nat) (tx : Nat → Int32) (t : Nat) (ht : t ≤ 160) (po er : Int32) (her : ¬ er = -1) (dg : Nat) (hdg : dg ≤ 6) (l0 g0 b0 : Int32) : MI l D yX2_readNumber wsX2_readNumber 0 0 0 0 [.ref (rr 0), .int (nI dg), .int l0, .int g0, .int b0] (wRd D rr (tt 0) po er ++ (wTx D tt (nI t) tx)) (fun r w1 => r = 0 ∧ w1 = wRd D rr (tt 0) po er ++ wTx D tt (nI t) tx) := by
  refine MI.of (cc := cX2_readNumber) (nL := 10) (lv0 := [(0, .ref (rr 0)), (1, .int (nI dg)), (2, .int l0), (3, .int g0), (4, .int b0)]) (by decide +kernel) rfl (Nat.le_of_ble_eq_true rfl) rfl ?_
  intro X hXl hin C ret
  subst hXl
  refine j_aload_n C 0 dX2_readNumber_0 rfl rfl ?_
  refine j_get C 0 fgX2_readNumber_15 rfl rfl dX2_readNumber_1 ?_
  refine j_iconst C (v := (-1 : Int32)) dX2_readNumber_4 rfl ?_
  refine j_icmp_eq C dX2_readNumber_5 (tgt := 10) (by decide) (fun h => absurd h her) (fun _ => ?_)
  refine j_iconst C (v := (0 : Int32)) dX2_readNumber_8 rfl ?_
  exact ret dX2_readNumber_9 (⟨rfl, rfl⟩)

set_option maxRecDepth 100000 in
set_option maxHeartbeats 4000000 in
theorem ctX2_readNumber (l : Launch) (D : KD) (rr tt : Nat → Nat) (tx : Nat → Int32) (t : Nat) (ht : t ≤ 160) (p : Nat) (hp : p ≤ t) (dg : Nat) (hdg : dg ≤ 6) (l0 g0 b0 : Int32) : MI l D yX2_readNumber wsX2_readNumber 1 22 0 0 [.ref (rr 0), .int (nI dg), .int l0, .int g0, .int b0] (wRd D rr (tt 0) (nI p) (-1) ++ (wTx D tt (nI t) tx)) (fun r w1 => ∃ po1 : Int32, ((rN tx t p dg l0 g0 b0).1 = true → r = (rN tx t p dg l0 g0 b0).2.1 ∧ po1 = nI (rN tx t p dg l0 g0 b0).2.2) ∧ w1 = wRd D rr (tt 0) po1 (rdE ((rN tx t p dg l0 g0 b0).1, (rN tx t p dg l0 g0 b0).2.2)) ++ wTx D tt (nI t) tx) := by
  refine MI.of (cc := cX2_readNumber) (nL := 10) (lv0 := [(0, .ref (rr 0)), (1, .int (nI dg)), (2, .int l0), (3, .int g0), (4, .int b0)]) (by decide +kernel) rfl (Nat.le_of_ble_eq_true rfl) rfl ?_
  intro X hXl hin C ret
  subst hXl
  refine j_aload_n C 0 dX2_readNumber_0 rfl rfl ?_
  refine j_get C 0 fgX2_readNumber_15 rfl rfl dX2_readNumber_1 ?_
  refine j_iconst C (v := (-1 : Int32)) dX2_readNumber_4 rfl ?_
  refine j_icmp_eq C dX2_readNumber_5 (tgt := 10) (by decide) (fun _ => ?_) (fun h => absurd rfl h)
  refine j_iload_n C 2 dX2_readNumber_10 rfl rfl ?_
  refine j_if_ge C dX2_readNumber_11 (tgt := 34) (by decide) (fun h11 => ?_) (fun h11 => ?_)
  · have h11' := Int32.not_lt.mpr h11
    refine j_iconst C (v := (0 : Int32)) dX2_readNumber_34 rfl ?_
    refine j_istore C dX2_readNumber_35 (by decide) (lv' := [(5, .int (0 : Int32)), (0, .ref (rr 0)), (1, .int (nI dg)), (2, .int l0), (3, .int g0), (4, .int b0)]) rfl ?_
    refine j_iload C 0 dX2_readNumber_37 rfl ?_
    refine j_if_eq C dX2_readNumber_39 (tgt := 52) (by decide) (fun _ => ?_) (fun h => absurd (by decide) h)
    refine j_aload_n C 1 dX2_readNumber_52 rfl rfl ?_
    refine j_get C 0 fgX2_readNumber_9 rfl rfl dX2_readNumber_53 ?_
    refine j_istore C dX2_readNumber_56 (by decide) (lv' := [(6, .int (nI p)), (5, .int (0 : Int32)), (0, .ref (rr 0)), (1, .int (nI dg)), (2, .int l0), (3, .int g0), (4, .int b0)]) rfl ?_
    refine j_iconst C (v := (0 : Int32)) dX2_readNumber_58 rfl ?_
    refine j_istore C dX2_readNumber_59 (by decide) (lv' := [(7, .int (0 : Int32)), (6, .int (nI p)), (5, .int (0 : Int32)), (0, .ref (rr 0)), (1, .int (nI dg)), (2, .int l0), (3, .int g0), (4, .int b0)]) rfl ?_
    obtain ⟨R, hRf⟩ : ∃ R, dgs tx t dg (p) 0 = R := ⟨_, rfl⟩
    have hRl := dgs_le (tx := tx) (t := t) dg (p) 0 (by omega)
    rw [hRf] at hRl
    have hrN : rN tx t p dg l0 g0 b0 = rNe tx t false (p) R l0 g0 b0 := by rw [← hRf]; exact rN_of (mi := false) (by rw [decide_eq_false h11']; rfl)
    have hend : J D X (wRd D rr (tt 0) (nI R.1) (-1) ++ (wTx D tt (nI t) tx)) 0 0 124 [(7, .int R.2), (6, .int (nI p)), (5, .int (0 : Int32)), (4, .int b0), (3, .int g0), (2, .int l0), (1, .int (nI dg)), (0, .ref (rr 0))] [] := by
      refine j_iload C 2 dX2_readNumber_124 rfl ?_
      refine j_if_eq C dX2_readNumber_126 (tgt := 135) (by decide) (fun _ => ?_) (fun h => absurd (by decide) h)
      refine j_iload C 0 dX2_readNumber_135 rfl ?_
      refine j_eqi (y := sgn false R.2) rfl ?_
      refine j_istore C dX2_readNumber_137 (by decide) (lv' := [(8, .int (sgn false R.2)), (7, .int R.2), (6, .int (nI p)), (5, .int (0 : Int32)), (4, .int b0), (3, .int g0), (2, .int l0), (1, .int (nI dg)), (0, .ref (rr 0))]) rfl ?_
      refine j_aload_n C 8 dX2_readNumber_139 rfl rfl ?_
      refine j_get C 0 fgX2_readNumber_18 rfl rfl dX2_readNumber_140 ?_
      refine j_aload_n C 8 dX2_readNumber_143 rfl rfl ?_
      refine j_get C 0 fgX2_readNumber_9 rfl rfl dX2_readNumber_144 ?_
      refine j_cv_i C (As := [.int (nI R.1)]) (rest := []) (ctX3_byteAt (xl X) D tt tx t (by first | assumption | omega | decide) R.1 (by first | assumption | omega | decide)) mfX3_byteAt gX2_readNumber_X3_byteAt rfl (Nat.le_of_ble_eq_true rfl) (Nat.le_of_ble_eq_true rfl) (Nat.le_of_ble_eq_true rfl) (Nat.le_of_ble_eq_true rfl) [1, 2] rfl rfl 0 rfl rfl rfl rfl (Nat.le_of_ble_eq_true rfl) dX2_readNumber_147 ?_
      rintro _ _ ⟨rfl, rfl⟩
      refine ⟨Eq.trans (b := [tt 0, tt 1]) rfl rfl, ?_⟩
      refine j_w (w' := (wRd D rr (tt 0) (nI R.1) (-1) ++ (wTx D tt (nI t) tx))) rfl ?_
      refine j_istore C dX2_readNumber_150 (by decide) (lv' := [(9, .int (rh tx t R.1)), (8, .int (sgn false R.2)), (7, .int R.2), (6, .int (nI p)), (5, .int (0 : Int32)), (4, .int b0), (3, .int g0), (2, .int l0), (1, .int (nI dg)), (0, .ref (rr 0))]) rfl ?_
      refine j_aload_n C 9 dX2_readNumber_152 rfl rfl ?_
      refine j_get C 0 fgX2_readNumber_9 rfl rfl dX2_readNumber_153 ?_
      refine j_iload C 3 dX2_readNumber_156 rfl ?_
      refine j_icmp_eq C dX2_readNumber_158 (tgt := 169) (by decide) (fun h158 => ?_) (fun h158 => ?_)
      · refine j_aload_n C 9 dX2_readNumber_169 rfl rfl ?_
        refine j_aload_n C 9 dX2_readNumber_170 rfl rfl ?_
        refine j_get C 0 fgX2_readNumber_9 rfl rfl dX2_readNumber_171 ?_
        refine j_put C 0 foX2_readNumber_15 rfl (w' := (wRd D rr (tt 0) (nI R.1) (nI R.1) ++ (wTx D tt (nI t) tx))) rfl rfl rfl (Nat.le_of_ble_eq_true rfl) dX2_readNumber_174 ?_
        refine j_goto C dX2_readNumber_177 (tgt := 227) (by decide) ?_
        refine j_iload C 1 dX2_readNumber_227 rfl ?_
        exact ret dX2_readNumber_229 (⟨_, (fun z => by rw [hrN, rNe_1 (Or.inl ((nI_eq (by omega) (by omega)).mp h158))] at z; cases z), by rw [hrN, rNe_1 (Or.inl ((nI_eq (by omega) (by omega)).mp h158))]; rfl⟩)
      · refine j_iload C 0 dX2_readNumber_161 rfl ?_
        refine j_cs_i C (As := [.int (rh tx t R.1)]) (rest := []) (ctX2_isDigit (xl X) D (rh tx t R.1)) mfX2_isDigit gX2_readNumber_X2_isDigit rfl (Nat.le_of_ble_eq_true rfl) (Nat.le_of_ble_eq_true rfl) (Nat.le_of_ble_eq_true rfl) (Nat.le_of_ble_eq_true rfl) [] rfl rfl rfl (Nat.le_of_ble_eq_true rfl) dX2_readNumber_163 ?_
        rintro _ _ ⟨rfl, rfl⟩
        refine ⟨Eq.trans (b := []) rfl rfl, ?_⟩
        refine j_w (w' := (wRd D rr (tt 0) (nI R.1) (-1) ++ (wTx D tt (nI t) tx))) rfl ?_
        refine j_bif_eq C dX2_readNumber_166 (tgt := 180) (by decide) (fun h166 => ?_) (fun h166 => ?_)
        · refine j_iload C 1 dX2_readNumber_180 rfl ?_
          refine j_iload_n C 7 dX2_readNumber_182 rfl rfl ?_
          refine j_iload_n C 6 dX2_readNumber_183 rfl rfl ?_
          refine j_csN_i C (As := [.int (sgn false R.2), .int l0, .int g0]) (rest := []) (ctX5_isIn (xl X) D (sgn false R.2) l0 g0) mfX5_isIn gX2_readNumber_X5_isIn_n66 rfl (C.hN.2.2.2.2.2.2.1) mX2_readNumber_static_yX5_isIn mX2_readNumber_initialized_RX5 (Nat.le_of_ble_eq_true rfl) (Nat.le_of_ble_eq_true rfl) (Nat.le_of_ble_eq_true rfl) (Nat.le_of_ble_eq_true rfl) [] rfl rfl rfl (Nat.le_of_ble_eq_true rfl) dX2_readNumber_184 ?_
          rintro _ _ ⟨rfl, rfl⟩
          refine ⟨Eq.trans (b := []) rfl rfl, ?_⟩
          refine j_w (w' := (wRd D rr (tt 0) (nI R.1) (-1) ++ (wTx D tt (nI t) tx))) rfl ?_
          refine j_bif_ne C dX2_readNumber_187 (tgt := 199) (by decide) (fun h187 => ?_) (fun h187 => ?_)
          · refine j_iload C 0 dX2_readNumber_199 rfl ?_
            refine j_iload C 5 dX2_readNumber_201 rfl ?_
            refine j_icmp_eq C dX2_readNumber_203 (tgt := 217) (by decide) (fun h203 => ?_) (fun h203 => ?_)
            · refine j_aload_n C 9 dX2_readNumber_217 rfl rfl ?_
              refine j_dup C dX2_readNumber_218 rfl ?_
              refine j_get C 0 fgX2_readNumber_9 rfl rfl dX2_readNumber_219 ?_
              refine j_iconst C (v := (1 : Int32)) dX2_readNumber_222 rfl ?_
              refine j_iadd C dX2_readNumber_223 ?_
              refine j_eqi (y := nI (R.1 + 1)) (nI_add R.1 1) ?_
              refine j_put C 0 foX2_readNumber_9 rfl (w' := (wRd D rr (tt 0) (nI (R.1 + 1)) (-1) ++ (wTx D tt (nI t) tx))) rfl rfl rfl (Nat.le_of_ble_eq_true rfl) dX2_readNumber_224 ?_
              refine j_iload C 1 dX2_readNumber_227 rfl ?_
              exact ret dX2_readNumber_229 (⟨_, (fun z => ⟨by rw [hrN, rNe_3 (fun z => h158 (by rw [z])) h166 h187], by rw [hrN, rNe_3 (fun z => h158 (by rw [z])) h166 h187, if_pos h203]⟩), by rw [hrN, rNe_3 (fun z => h158 (by rw [z])) h166 h187, decide_eq_true h203, if_pos h203]; rfl⟩)
            · refine j_aload_n C 9 dX2_readNumber_206 rfl rfl ?_
              refine j_aload_n C 9 dX2_readNumber_207 rfl rfl ?_
              refine j_get C 0 fgX2_readNumber_9 rfl rfl dX2_readNumber_208 ?_
              refine j_put C 0 foX2_readNumber_15 rfl (w' := (wRd D rr (tt 0) (nI R.1) (nI R.1) ++ (wTx D tt (nI t) tx))) rfl rfl rfl (Nat.le_of_ble_eq_true rfl) dX2_readNumber_211 ?_
              refine j_goto C dX2_readNumber_214 (tgt := 227) (by decide) ?_
              refine j_iload C 1 dX2_readNumber_227 rfl ?_
              exact ret dX2_readNumber_229 (⟨_, (fun z => by rw [hrN, rNe_3 (fun z => h158 (by rw [z])) h166 h187, decide_eq_false h203] at z; cases z), by rw [hrN, rNe_3 (fun z => h158 (by rw [z])) h166 h187, decide_eq_false h203, if_neg h203]; rfl⟩)
          · refine j_aload_n C 9 dX2_readNumber_190 rfl rfl ?_
            refine j_iload C 3 dX2_readNumber_191 rfl ?_
            refine j_put C 0 foX2_readNumber_15 rfl (w' := (wRd D rr (tt 0) (nI R.1) (nI p) ++ (wTx D tt (nI t) tx))) rfl rfl rfl (Nat.le_of_ble_eq_true rfl) dX2_readNumber_193 ?_
            refine j_goto C dX2_readNumber_196 (tgt := 227) (by decide) ?_
            refine j_iload C 1 dX2_readNumber_227 rfl ?_
            exact ret dX2_readNumber_229 (⟨_, (fun z => by rw [hrN, rNe_2 (fun z => h158 (by rw [z])) h166 h187] at z; cases z), by rw [hrN, rNe_2 (fun z => h158 (by rw [z])) h166 h187]; rfl⟩)
        · refine j_aload_n C 9 dX2_readNumber_169 rfl rfl ?_
          refine j_aload_n C 9 dX2_readNumber_170 rfl rfl ?_
          refine j_get C 0 fgX2_readNumber_9 rfl rfl dX2_readNumber_171 ?_
          refine j_put C 0 foX2_readNumber_15 rfl (w' := (wRd D rr (tt 0) (nI R.1) (nI R.1) ++ (wTx D tt (nI t) tx))) rfl rfl rfl (Nat.le_of_ble_eq_true rfl) dX2_readNumber_174 ?_
          refine j_goto C dX2_readNumber_177 (tgt := 227) (by decide) ?_
          refine j_iload C 1 dX2_readNumber_227 rfl ?_
          exact ret dX2_readNumber_229 (⟨_, (fun z => by rw [hrN, rNe_1 (Or.inr h166)] at z; cases z), by rw [hrN, rNe_1 (Or.inr h166)]; rfl⟩)
    have key : ∀ (k q1 : Nat) (v1 : Int32), q1 + k = p + dg → q1 ≤ t → dgs tx t k q1 v1 = R → J D X (wRd D rr (tt 0) (nI q1) (-1) ++ (wTx D tt (nI t) tx)) 0 0 61 [(7, .int v1), (6, .int (nI p)), (5, .int (0 : Int32)), (4, .int b0), (3, .int g0), (2, .int l0), (1, .int (nI dg)), (0, .ref (rr 0))] [] := by
      intro k
      induction k with
      | zero =>
        intro q1 v1 hk hq hres
        obtain rfl : R = (q1, v1) := hres.symm
        refine j_aload_n C 7 dX2_readNumber_61 rfl rfl ?_
        refine j_get C 0 fgX2_readNumber_9 rfl rfl dX2_readNumber_62 ?_
        refine j_iload C 1 dX2_readNumber_65 rfl ?_
        refine j_iload_n C 6 dX2_readNumber_67 rfl rfl ?_
        refine j_iadd C dX2_readNumber_68 ?_
        refine j_eqi (y := nI (p + dg)) (nI_add p dg) ?_
        refine j_icmp_ge C dX2_readNumber_69 (tgt := 124) (by decide) (fun _ => ?_) (fun h => absurd (nI_le (by omega) (by omega)) h)
        refine j_sub [0, 1, 2, 3, 4, 5, 6, 7] (lv' := [(7, .int v1), (6, .int (nI p)), (5, .int (0 : Int32)), (4, .int b0), (3, .int g0), (2, .int l0), (1, .int (nI dg)), (0, .ref (rr 0))]) rfl ?_
        exact hend
      | succ k ih =>
        intro q1 v1 hk hq hres
        refine j_aload_n C 7 dX2_readNumber_61 rfl rfl ?_
        refine j_get C 0 fgX2_readNumber_9 rfl rfl dX2_readNumber_62 ?_
        refine j_iload C 1 dX2_readNumber_65 rfl ?_
        refine j_iload_n C 6 dX2_readNumber_67 rfl rfl ?_
        refine j_iadd C dX2_readNumber_68 ?_
        refine j_eqi (y := nI (p + dg)) (nI_add p dg) ?_
        refine j_icmp_ge C dX2_readNumber_69 (tgt := 124) (by decide) (fun h => absurd h (nI_ge (by omega) (by omega))) (fun _ => ?_)
        refine j_aload_n C 7 dX2_readNumber_72 rfl rfl ?_
        refine j_get C 0 fgX2_readNumber_18 rfl rfl dX2_readNumber_73 ?_
        refine j_aload_n C 7 dX2_readNumber_76 rfl rfl ?_
        refine j_get C 0 fgX2_readNumber_9 rfl rfl dX2_readNumber_77 ?_
        refine j_cv_i C (As := [.int (nI q1)]) (rest := []) (ctX3_byteAt (xl X) D tt tx t (by first | assumption | omega | decide) q1 (by first | assumption | omega | decide)) mfX3_byteAt gX2_readNumber_X3_byteAt rfl (Nat.le_of_ble_eq_true rfl) (Nat.le_of_ble_eq_true rfl) (Nat.le_of_ble_eq_true rfl) (Nat.le_of_ble_eq_true rfl) [1, 2] rfl rfl 0 rfl rfl rfl rfl (Nat.le_of_ble_eq_true rfl) dX2_readNumber_80 ?_
        rintro _ _ ⟨rfl, rfl⟩
        refine ⟨Eq.trans (b := [tt 0, tt 1]) rfl rfl, ?_⟩
        refine j_w (w' := (wRd D rr (tt 0) (nI q1) (-1) ++ (wTx D tt (nI t) tx))) rfl ?_
        refine j_cs_i C (As := [.int (rh tx t q1)]) (rest := []) (ctX2_isDigit (xl X) D (rh tx t q1)) mfX2_isDigit gX2_readNumber_X2_isDigit rfl (Nat.le_of_ble_eq_true rfl) (Nat.le_of_ble_eq_true rfl) (Nat.le_of_ble_eq_true rfl) (Nat.le_of_ble_eq_true rfl) [] rfl rfl rfl (Nat.le_of_ble_eq_true rfl) dX2_readNumber_83 ?_
        rintro _ _ ⟨rfl, rfl⟩
        refine ⟨Eq.trans (b := []) rfl rfl, ?_⟩
        refine j_w (w' := (wRd D rr (tt 0) (nI q1) (-1) ++ (wTx D tt (nI t) tx))) rfl ?_
        refine j_bif_eq C dX2_readNumber_86 (tgt := 124) (by decide) (fun h86 => ?_) (fun h86 => ?_)
        · refine j_sub [0, 1, 2, 3, 4, 5, 6, 7] (lv' := [(7, .int v1), (6, .int (nI p)), (5, .int (0 : Int32)), (4, .int b0), (3, .int g0), (2, .int l0), (1, .int (nI dg)), (0, .ref (rr 0))]) rfl ?_
          obtain rfl : R = (q1, v1) := by rw [← hres, dgs_f h86]
          exact hend
        · refine j_bipush C (v := (10 : Int32)) dX2_readNumber_89 rfl ?_
          refine j_iload C 0 dX2_readNumber_91 rfl ?_
          refine j_imul C dX2_readNumber_93 ?_
          refine j_aload_n C 7 dX2_readNumber_94 rfl rfl ?_
          refine j_get C 0 fgX2_readNumber_18 rfl rfl dX2_readNumber_95 ?_
          refine j_aload_n C 7 dX2_readNumber_98 rfl rfl ?_
          refine j_get C 0 fgX2_readNumber_9 rfl rfl dX2_readNumber_99 ?_
          refine j_cv_i C (As := [.int (nI q1)]) (rest := [.int ((10 : Int32) * v1)]) (ctX3_byteAt (xl X) D tt tx t (by first | assumption | omega | decide) q1 (by first | assumption | omega | decide)) mfX3_byteAt gX2_readNumber_X3_byteAt rfl (Nat.le_of_ble_eq_true rfl) (Nat.le_of_ble_eq_true rfl) (Nat.le_of_ble_eq_true rfl) (Nat.le_of_ble_eq_true rfl) [1, 2] rfl rfl 0 rfl rfl rfl rfl (Nat.le_of_ble_eq_true rfl) dX2_readNumber_102 ?_
          rintro _ _ ⟨rfl, rfl⟩
          refine ⟨Eq.trans (b := [tt 0, tt 1]) rfl rfl, ?_⟩
          refine j_w (w' := (wRd D rr (tt 0) (nI q1) (-1) ++ (wTx D tt (nI t) tx))) rfl ?_
          refine j_iadd C dX2_readNumber_105 ?_
          refine j_bipush C (v := (48 : Int32)) dX2_readNumber_106 rfl ?_
          refine j_isub C dX2_readNumber_108 ?_
          refine j_istore C dX2_readNumber_109 (by decide) (lv' := [(7, .int ((((10 : Int32) * v1) + (rh tx t q1)) - (48 : Int32))), (6, .int (nI p)), (5, .int (0 : Int32)), (4, .int b0), (3, .int g0), (2, .int l0), (1, .int (nI dg)), (0, .ref (rr 0))]) rfl ?_
          refine j_aload_n C 7 dX2_readNumber_111 rfl rfl ?_
          refine j_dup C dX2_readNumber_112 rfl ?_
          refine j_get C 0 fgX2_readNumber_9 rfl rfl dX2_readNumber_113 ?_
          refine j_iconst C (v := (1 : Int32)) dX2_readNumber_116 rfl ?_
          refine j_iadd C dX2_readNumber_117 ?_
          refine j_eqi (y := nI (q1 + 1)) (nI_add q1 1) ?_
          refine j_put C 0 foX2_readNumber_9 rfl (w' := (wRd D rr (tt 0) (nI (q1 + 1)) (-1) ++ (wTx D tt (nI t) tx))) rfl rfl rfl (Nat.le_of_ble_eq_true rfl) dX2_readNumber_118 ?_
          refine j_goto C dX2_readNumber_121 (tgt := 61) (by decide) ?_
          refine j_sub [0, 1, 2, 3, 4, 5, 6, 7] (lv' := [(7, .int ((((10 : Int32) * v1) + (rh tx t q1)) - (48 : Int32))), (6, .int (nI p)), (5, .int (0 : Int32)), (4, .int b0), (3, .int g0), (2, .int l0), (1, .int (nI dg)), (0, .ref (rr 0))]) rfl ?_
          exact ih (q1 + 1) _ (by omega) (pIn_lt h86) (by rw [← hres, dgs_t h86])
    refine j_sub [0, 1, 2, 7, 6, 5, 4, 3] (lv' := [(7, .int (0 : Int32)), (6, .int (nI p)), (5, .int (0 : Int32)), (4, .int b0), (3, .int g0), (2, .int l0), (1, .int (nI dg)), (0, .ref (rr 0))]) rfl ?_
    exact key dg (p) 0 rfl (by omega) hRf
  · have h11' := Int32.not_le.mp h11
    refine j_aload_n C 0 dX2_readNumber_14 rfl rfl ?_
    refine j_get C 0 fgX2_readNumber_18 rfl rfl dX2_readNumber_15 ?_
    refine j_aload_n C 0 dX2_readNumber_18 rfl rfl ?_
    refine j_get C 0 fgX2_readNumber_9 rfl rfl dX2_readNumber_19 ?_
    refine j_cv_i C (As := [.int (nI p)]) (rest := []) (ctX3_byteAt (xl X) D tt tx t (by first | assumption | omega | decide) p (by first | assumption | omega | decide)) mfX3_byteAt gX2_readNumber_X3_byteAt rfl (Nat.le_of_ble_eq_true rfl) (Nat.le_of_ble_eq_true rfl) (Nat.le_of_ble_eq_true rfl) (Nat.le_of_ble_eq_true rfl) [1, 2] rfl rfl 0 rfl rfl rfl rfl (Nat.le_of_ble_eq_true rfl) dX2_readNumber_22 ?_
    rintro _ _ ⟨rfl, rfl⟩
    refine ⟨Eq.trans (b := [tt 0, tt 1]) rfl rfl, ?_⟩
    refine j_w (w' := (wRd D rr (tt 0) (nI p) (-1) ++ (wTx D tt (nI t) tx))) rfl ?_
    refine j_bipush C (v := (45 : Int32)) dX2_readNumber_25 rfl ?_
    refine j_icmp_ne C dX2_readNumber_27 (tgt := 34) (by decide) (fun h27 => ?_) (fun h27 => ?_)
    · refine j_iconst C (v := (0 : Int32)) dX2_readNumber_34 rfl ?_
      refine j_istore C dX2_readNumber_35 (by decide) (lv' := [(5, .int (0 : Int32)), (0, .ref (rr 0)), (1, .int (nI dg)), (2, .int l0), (3, .int g0), (4, .int b0)]) rfl ?_
      refine j_iload C 0 dX2_readNumber_37 rfl ?_
      refine j_if_eq C dX2_readNumber_39 (tgt := 52) (by decide) (fun _ => ?_) (fun h => absurd (by decide) h)
      refine j_aload_n C 1 dX2_readNumber_52 rfl rfl ?_
      refine j_get C 0 fgX2_readNumber_9 rfl rfl dX2_readNumber_53 ?_
      refine j_istore C dX2_readNumber_56 (by decide) (lv' := [(6, .int (nI p)), (5, .int (0 : Int32)), (0, .ref (rr 0)), (1, .int (nI dg)), (2, .int l0), (3, .int g0), (4, .int b0)]) rfl ?_
      refine j_iconst C (v := (0 : Int32)) dX2_readNumber_58 rfl ?_
      refine j_istore C dX2_readNumber_59 (by decide) (lv' := [(7, .int (0 : Int32)), (6, .int (nI p)), (5, .int (0 : Int32)), (0, .ref (rr 0)), (1, .int (nI dg)), (2, .int l0), (3, .int g0), (4, .int b0)]) rfl ?_
      obtain ⟨R, hRf⟩ : ∃ R, dgs tx t dg (p) 0 = R := ⟨_, rfl⟩
      have hRl := dgs_le (tx := tx) (t := t) dg (p) 0 (by omega)
      rw [hRf] at hRl
      have hrN : rN tx t p dg l0 g0 b0 = rNe tx t false (p) R l0 g0 b0 := by rw [← hRf]; exact rN_of (mi := false) (by rw [decide_eq_false h27, Bool.and_false])
      have hend : J D X (wRd D rr (tt 0) (nI R.1) (-1) ++ (wTx D tt (nI t) tx)) 0 0 124 [(7, .int R.2), (6, .int (nI p)), (5, .int (0 : Int32)), (4, .int b0), (3, .int g0), (2, .int l0), (1, .int (nI dg)), (0, .ref (rr 0))] [] := by
        refine j_iload C 2 dX2_readNumber_124 rfl ?_
        refine j_if_eq C dX2_readNumber_126 (tgt := 135) (by decide) (fun _ => ?_) (fun h => absurd (by decide) h)
        refine j_iload C 0 dX2_readNumber_135 rfl ?_
        refine j_eqi (y := sgn false R.2) rfl ?_
        refine j_istore C dX2_readNumber_137 (by decide) (lv' := [(8, .int (sgn false R.2)), (7, .int R.2), (6, .int (nI p)), (5, .int (0 : Int32)), (4, .int b0), (3, .int g0), (2, .int l0), (1, .int (nI dg)), (0, .ref (rr 0))]) rfl ?_
        refine j_aload_n C 8 dX2_readNumber_139 rfl rfl ?_
        refine j_get C 0 fgX2_readNumber_18 rfl rfl dX2_readNumber_140 ?_
        refine j_aload_n C 8 dX2_readNumber_143 rfl rfl ?_
        refine j_get C 0 fgX2_readNumber_9 rfl rfl dX2_readNumber_144 ?_
        refine j_cv_i C (As := [.int (nI R.1)]) (rest := []) (ctX3_byteAt (xl X) D tt tx t (by first | assumption | omega | decide) R.1 (by first | assumption | omega | decide)) mfX3_byteAt gX2_readNumber_X3_byteAt rfl (Nat.le_of_ble_eq_true rfl) (Nat.le_of_ble_eq_true rfl) (Nat.le_of_ble_eq_true rfl) (Nat.le_of_ble_eq_true rfl) [1, 2] rfl rfl 0 rfl rfl rfl rfl (Nat.le_of_ble_eq_true rfl) dX2_readNumber_147 ?_
        rintro _ _ ⟨rfl, rfl⟩
        refine ⟨Eq.trans (b := [tt 0, tt 1]) rfl rfl, ?_⟩
        refine j_w (w' := (wRd D rr (tt 0) (nI R.1) (-1) ++ (wTx D tt (nI t) tx))) rfl ?_
        refine j_istore C dX2_readNumber_150 (by decide) (lv' := [(9, .int (rh tx t R.1)), (8, .int (sgn false R.2)), (7, .int R.2), (6, .int (nI p)), (5, .int (0 : Int32)), (4, .int b0), (3, .int g0), (2, .int l0), (1, .int (nI dg)), (0, .ref (rr 0))]) rfl ?_
        refine j_aload_n C 9 dX2_readNumber_152 rfl rfl ?_
        refine j_get C 0 fgX2_readNumber_9 rfl rfl dX2_readNumber_153 ?_
        refine j_iload C 3 dX2_readNumber_156 rfl ?_
        refine j_icmp_eq C dX2_readNumber_158 (tgt := 169) (by decide) (fun h158 => ?_) (fun h158 => ?_)
        · refine j_aload_n C 9 dX2_readNumber_169 rfl rfl ?_
          refine j_aload_n C 9 dX2_readNumber_170 rfl rfl ?_
          refine j_get C 0 fgX2_readNumber_9 rfl rfl dX2_readNumber_171 ?_
          refine j_put C 0 foX2_readNumber_15 rfl (w' := (wRd D rr (tt 0) (nI R.1) (nI R.1) ++ (wTx D tt (nI t) tx))) rfl rfl rfl (Nat.le_of_ble_eq_true rfl) dX2_readNumber_174 ?_
          refine j_goto C dX2_readNumber_177 (tgt := 227) (by decide) ?_
          refine j_iload C 1 dX2_readNumber_227 rfl ?_
          exact ret dX2_readNumber_229 (⟨_, (fun z => by rw [hrN, rNe_1 (Or.inl ((nI_eq (by omega) (by omega)).mp h158))] at z; cases z), by rw [hrN, rNe_1 (Or.inl ((nI_eq (by omega) (by omega)).mp h158))]; rfl⟩)
        · refine j_iload C 0 dX2_readNumber_161 rfl ?_
          refine j_cs_i C (As := [.int (rh tx t R.1)]) (rest := []) (ctX2_isDigit (xl X) D (rh tx t R.1)) mfX2_isDigit gX2_readNumber_X2_isDigit rfl (Nat.le_of_ble_eq_true rfl) (Nat.le_of_ble_eq_true rfl) (Nat.le_of_ble_eq_true rfl) (Nat.le_of_ble_eq_true rfl) [] rfl rfl rfl (Nat.le_of_ble_eq_true rfl) dX2_readNumber_163 ?_
          rintro _ _ ⟨rfl, rfl⟩
          refine ⟨Eq.trans (b := []) rfl rfl, ?_⟩
          refine j_w (w' := (wRd D rr (tt 0) (nI R.1) (-1) ++ (wTx D tt (nI t) tx))) rfl ?_
          refine j_bif_eq C dX2_readNumber_166 (tgt := 180) (by decide) (fun h166 => ?_) (fun h166 => ?_)
          · refine j_iload C 1 dX2_readNumber_180 rfl ?_
            refine j_iload_n C 7 dX2_readNumber_182 rfl rfl ?_
            refine j_iload_n C 6 dX2_readNumber_183 rfl rfl ?_
            refine j_csN_i C (As := [.int (sgn false R.2), .int l0, .int g0]) (rest := []) (ctX5_isIn (xl X) D (sgn false R.2) l0 g0) mfX5_isIn gX2_readNumber_X5_isIn_n66 rfl (C.hN.2.2.2.2.2.2.1) mX2_readNumber_static_yX5_isIn mX2_readNumber_initialized_RX5 (Nat.le_of_ble_eq_true rfl) (Nat.le_of_ble_eq_true rfl) (Nat.le_of_ble_eq_true rfl) (Nat.le_of_ble_eq_true rfl) [] rfl rfl rfl (Nat.le_of_ble_eq_true rfl) dX2_readNumber_184 ?_
            rintro _ _ ⟨rfl, rfl⟩
            refine ⟨Eq.trans (b := []) rfl rfl, ?_⟩
            refine j_w (w' := (wRd D rr (tt 0) (nI R.1) (-1) ++ (wTx D tt (nI t) tx))) rfl ?_
            refine j_bif_ne C dX2_readNumber_187 (tgt := 199) (by decide) (fun h187 => ?_) (fun h187 => ?_)
            · refine j_iload C 0 dX2_readNumber_199 rfl ?_
              refine j_iload C 5 dX2_readNumber_201 rfl ?_
              refine j_icmp_eq C dX2_readNumber_203 (tgt := 217) (by decide) (fun h203 => ?_) (fun h203 => ?_)
              · refine j_aload_n C 9 dX2_readNumber_217 rfl rfl ?_
                refine j_dup C dX2_readNumber_218 rfl ?_
                refine j_get C 0 fgX2_readNumber_9 rfl rfl dX2_readNumber_219 ?_
                refine j_iconst C (v := (1 : Int32)) dX2_readNumber_222 rfl ?_
                refine j_iadd C dX2_readNumber_223 ?_
                refine j_eqi (y := nI (R.1 + 1)) (nI_add R.1 1) ?_
                refine j_put C 0 foX2_readNumber_9 rfl (w' := (wRd D rr (tt 0) (nI (R.1 + 1)) (-1) ++ (wTx D tt (nI t) tx))) rfl rfl rfl (Nat.le_of_ble_eq_true rfl) dX2_readNumber_224 ?_
                refine j_iload C 1 dX2_readNumber_227 rfl ?_
                exact ret dX2_readNumber_229 (⟨_, (fun z => ⟨by rw [hrN, rNe_3 (fun z => h158 (by rw [z])) h166 h187], by rw [hrN, rNe_3 (fun z => h158 (by rw [z])) h166 h187, if_pos h203]⟩), by rw [hrN, rNe_3 (fun z => h158 (by rw [z])) h166 h187, decide_eq_true h203, if_pos h203]; rfl⟩)
              · refine j_aload_n C 9 dX2_readNumber_206 rfl rfl ?_
                refine j_aload_n C 9 dX2_readNumber_207 rfl rfl ?_
                refine j_get C 0 fgX2_readNumber_9 rfl rfl dX2_readNumber_208 ?_
                refine j_put C 0 foX2_readNumber_15 rfl (w' := (wRd D rr (tt 0) (nI R.1) (nI R.1) ++ (wTx D tt (nI t) tx))) rfl rfl rfl (Nat.le_of_ble_eq_true rfl) dX2_readNumber_211 ?_
                refine j_goto C dX2_readNumber_214 (tgt := 227) (by decide) ?_
                refine j_iload C 1 dX2_readNumber_227 rfl ?_
                exact ret dX2_readNumber_229 (⟨_, (fun z => by rw [hrN, rNe_3 (fun z => h158 (by rw [z])) h166 h187, decide_eq_false h203] at z; cases z), by rw [hrN, rNe_3 (fun z => h158 (by rw [z])) h166 h187, decide_eq_false h203, if_neg h203]; rfl⟩)
            · refine j_aload_n C 9 dX2_readNumber_190 rfl rfl ?_
              refine j_iload C 3 dX2_readNumber_191 rfl ?_
              refine j_put C 0 foX2_readNumber_15 rfl (w' := (wRd D rr (tt 0) (nI R.1) (nI p) ++ (wTx D tt (nI t) tx))) rfl rfl rfl (Nat.le_of_ble_eq_true rfl) dX2_readNumber_193 ?_
              refine j_goto C dX2_readNumber_196 (tgt := 227) (by decide) ?_
              refine j_iload C 1 dX2_readNumber_227 rfl ?_
              exact ret dX2_readNumber_229 (⟨_, (fun z => by rw [hrN, rNe_2 (fun z => h158 (by rw [z])) h166 h187] at z; cases z), by rw [hrN, rNe_2 (fun z => h158 (by rw [z])) h166 h187]; rfl⟩)
          · refine j_aload_n C 9 dX2_readNumber_169 rfl rfl ?_
            refine j_aload_n C 9 dX2_readNumber_170 rfl rfl ?_
            refine j_get C 0 fgX2_readNumber_9 rfl rfl dX2_readNumber_171 ?_
            refine j_put C 0 foX2_readNumber_15 rfl (w' := (wRd D rr (tt 0) (nI R.1) (nI R.1) ++ (wTx D tt (nI t) tx))) rfl rfl rfl (Nat.le_of_ble_eq_true rfl) dX2_readNumber_174 ?_
            refine j_goto C dX2_readNumber_177 (tgt := 227) (by decide) ?_
            refine j_iload C 1 dX2_readNumber_227 rfl ?_
            exact ret dX2_readNumber_229 (⟨_, (fun z => by rw [hrN, rNe_1 (Or.inr h166)] at z; cases z), by rw [hrN, rNe_1 (Or.inr h166)]; rfl⟩)
      have key : ∀ (k q1 : Nat) (v1 : Int32), q1 + k = p + dg → q1 ≤ t → dgs tx t k q1 v1 = R → J D X (wRd D rr (tt 0) (nI q1) (-1) ++ (wTx D tt (nI t) tx)) 0 0 61 [(7, .int v1), (6, .int (nI p)), (5, .int (0 : Int32)), (4, .int b0), (3, .int g0), (2, .int l0), (1, .int (nI dg)), (0, .ref (rr 0))] [] := by
        intro k
        induction k with
        | zero =>
          intro q1 v1 hk hq hres
          obtain rfl : R = (q1, v1) := hres.symm
          refine j_aload_n C 7 dX2_readNumber_61 rfl rfl ?_
          refine j_get C 0 fgX2_readNumber_9 rfl rfl dX2_readNumber_62 ?_
          refine j_iload C 1 dX2_readNumber_65 rfl ?_
          refine j_iload_n C 6 dX2_readNumber_67 rfl rfl ?_
          refine j_iadd C dX2_readNumber_68 ?_
          refine j_eqi (y := nI (p + dg)) (nI_add p dg) ?_
          refine j_icmp_ge C dX2_readNumber_69 (tgt := 124) (by decide) (fun _ => ?_) (fun h => absurd (nI_le (by omega) (by omega)) h)
          refine j_sub [0, 1, 2, 3, 4, 5, 6, 7] (lv' := [(7, .int v1), (6, .int (nI p)), (5, .int (0 : Int32)), (4, .int b0), (3, .int g0), (2, .int l0), (1, .int (nI dg)), (0, .ref (rr 0))]) rfl ?_
          exact hend
        | succ k ih =>
          intro q1 v1 hk hq hres
          refine j_aload_n C 7 dX2_readNumber_61 rfl rfl ?_
          refine j_get C 0 fgX2_readNumber_9 rfl rfl dX2_readNumber_62 ?_
          refine j_iload C 1 dX2_readNumber_65 rfl ?_
          refine j_iload_n C 6 dX2_readNumber_67 rfl rfl ?_
          refine j_iadd C dX2_readNumber_68 ?_
          refine j_eqi (y := nI (p + dg)) (nI_add p dg) ?_
          refine j_icmp_ge C dX2_readNumber_69 (tgt := 124) (by decide) (fun h => absurd h (nI_ge (by omega) (by omega))) (fun _ => ?_)
          refine j_aload_n C 7 dX2_readNumber_72 rfl rfl ?_
          refine j_get C 0 fgX2_readNumber_18 rfl rfl dX2_readNumber_73 ?_
          refine j_aload_n C 7 dX2_readNumber_76 rfl rfl ?_
          refine j_get C 0 fgX2_readNumber_9 rfl rfl dX2_readNumber_77 ?_
          refine j_cv_i C (As := [.int (nI q1)]) (rest := []) (ctX3_byteAt (xl X) D tt tx t (by first | assumption | omega | decide) q1 (by first | assumption | omega | decide)) mfX3_byteAt gX2_readNumber_X3_byteAt rfl (Nat.le_of_ble_eq_true rfl) (Nat.le_of_ble_eq_true rfl) (Nat.le_of_ble_eq_true rfl) (Nat.le_of_ble_eq_true rfl) [1, 2] rfl rfl 0 rfl rfl rfl rfl (Nat.le_of_ble_eq_true rfl) dX2_readNumber_80 ?_
          rintro _ _ ⟨rfl, rfl⟩
          refine ⟨Eq.trans (b := [tt 0, tt 1]) rfl rfl, ?_⟩
          refine j_w (w' := (wRd D rr (tt 0) (nI q1) (-1) ++ (wTx D tt (nI t) tx))) rfl ?_
          refine j_cs_i C (As := [.int (rh tx t q1)]) (rest := []) (ctX2_isDigit (xl X) D (rh tx t q1)) mfX2_isDigit gX2_readNumber_X2_isDigit rfl (Nat.le_of_ble_eq_true rfl) (Nat.le_of_ble_eq_true rfl) (Nat.le_of_ble_eq_true rfl) (Nat.le_of_ble_eq_true rfl) [] rfl rfl rfl (Nat.le_of_ble_eq_true rfl) dX2_readNumber_83 ?_
          rintro _ _ ⟨rfl, rfl⟩
          refine ⟨Eq.trans (b := []) rfl rfl, ?_⟩
          refine j_w (w' := (wRd D rr (tt 0) (nI q1) (-1) ++ (wTx D tt (nI t) tx))) rfl ?_
          refine j_bif_eq C dX2_readNumber_86 (tgt := 124) (by decide) (fun h86 => ?_) (fun h86 => ?_)
          · refine j_sub [0, 1, 2, 3, 4, 5, 6, 7] (lv' := [(7, .int v1), (6, .int (nI p)), (5, .int (0 : Int32)), (4, .int b0), (3, .int g0), (2, .int l0), (1, .int (nI dg)), (0, .ref (rr 0))]) rfl ?_
            obtain rfl : R = (q1, v1) := by rw [← hres, dgs_f h86]
            exact hend
          · refine j_bipush C (v := (10 : Int32)) dX2_readNumber_89 rfl ?_
            refine j_iload C 0 dX2_readNumber_91 rfl ?_
            refine j_imul C dX2_readNumber_93 ?_
            refine j_aload_n C 7 dX2_readNumber_94 rfl rfl ?_
            refine j_get C 0 fgX2_readNumber_18 rfl rfl dX2_readNumber_95 ?_
            refine j_aload_n C 7 dX2_readNumber_98 rfl rfl ?_
            refine j_get C 0 fgX2_readNumber_9 rfl rfl dX2_readNumber_99 ?_
            refine j_cv_i C (As := [.int (nI q1)]) (rest := [.int ((10 : Int32) * v1)]) (ctX3_byteAt (xl X) D tt tx t (by first | assumption | omega | decide) q1 (by first | assumption | omega | decide)) mfX3_byteAt gX2_readNumber_X3_byteAt rfl (Nat.le_of_ble_eq_true rfl) (Nat.le_of_ble_eq_true rfl) (Nat.le_of_ble_eq_true rfl) (Nat.le_of_ble_eq_true rfl) [1, 2] rfl rfl 0 rfl rfl rfl rfl (Nat.le_of_ble_eq_true rfl) dX2_readNumber_102 ?_
            rintro _ _ ⟨rfl, rfl⟩
            refine ⟨Eq.trans (b := [tt 0, tt 1]) rfl rfl, ?_⟩
            refine j_w (w' := (wRd D rr (tt 0) (nI q1) (-1) ++ (wTx D tt (nI t) tx))) rfl ?_
            refine j_iadd C dX2_readNumber_105 ?_
            refine j_bipush C (v := (48 : Int32)) dX2_readNumber_106 rfl ?_
            refine j_isub C dX2_readNumber_108 ?_
            refine j_istore C dX2_readNumber_109 (by decide) (lv' := [(7, .int ((((10 : Int32) * v1) + (rh tx t q1)) - (48 : Int32))), (6, .int (nI p)), (5, .int (0 : Int32)), (4, .int b0), (3, .int g0), (2, .int l0), (1, .int (nI dg)), (0, .ref (rr 0))]) rfl ?_
            refine j_aload_n C 7 dX2_readNumber_111 rfl rfl ?_
            refine j_dup C dX2_readNumber_112 rfl ?_
            refine j_get C 0 fgX2_readNumber_9 rfl rfl dX2_readNumber_113 ?_
            refine j_iconst C (v := (1 : Int32)) dX2_readNumber_116 rfl ?_
            refine j_iadd C dX2_readNumber_117 ?_
            refine j_eqi (y := nI (q1 + 1)) (nI_add q1 1) ?_
            refine j_put C 0 foX2_readNumber_9 rfl (w' := (wRd D rr (tt 0) (nI (q1 + 1)) (-1) ++ (wTx D tt (nI t) tx))) rfl rfl rfl (Nat.le_of_ble_eq_true rfl) dX2_readNumber_118 ?_
            refine j_goto C dX2_readNumber_121 (tgt := 61) (by decide) ?_
            refine j_sub [0, 1, 2, 3, 4, 5, 6, 7] (lv' := [(7, .int ((((10 : Int32) * v1) + (rh tx t q1)) - (48 : Int32))), (6, .int (nI p)), (5, .int (0 : Int32)), (4, .int b0), (3, .int g0), (2, .int l0), (1, .int (nI dg)), (0, .ref (rr 0))]) rfl ?_
            exact ih (q1 + 1) _ (by omega) (pIn_lt h86) (by rw [← hres, dgs_t h86])
      refine j_sub [0, 1, 2, 7, 6, 5, 4, 3] (lv' := [(7, .int (0 : Int32)), (6, .int (nI p)), (5, .int (0 : Int32)), (4, .int b0), (3, .int g0), (2, .int l0), (1, .int (nI dg)), (0, .ref (rr 0))]) rfl ?_
      exact key dg (p) 0 rfl (by omega) hRf
    · have hp1 : p < t := rh_lt h27 (by decide)
      refine j_iconst C (v := (1 : Int32)) dX2_readNumber_30 rfl ?_
      refine j_goto C dX2_readNumber_31 (tgt := 35) (by decide) ?_
      refine j_istore C dX2_readNumber_35 (by decide) (lv' := [(5, .int (1 : Int32)), (0, .ref (rr 0)), (1, .int (nI dg)), (2, .int l0), (3, .int g0), (4, .int b0)]) rfl ?_
      refine j_iload C 0 dX2_readNumber_37 rfl ?_
      refine j_if_eq C dX2_readNumber_39 (tgt := 52) (by decide) (fun h => absurd h (by decide)) (fun _ => ?_)
      refine j_aload_n C 1 dX2_readNumber_42 rfl rfl ?_
      refine j_dup C dX2_readNumber_43 rfl ?_
      refine j_get C 0 fgX2_readNumber_9 rfl rfl dX2_readNumber_44 ?_
      refine j_iconst C (v := (1 : Int32)) dX2_readNumber_47 rfl ?_
      refine j_iadd C dX2_readNumber_48 ?_
      refine j_eqi (y := nI (p + 1)) (nI_add p 1) ?_
      refine j_put C 0 foX2_readNumber_9 rfl (w' := (wRd D rr (tt 0) (nI (p + 1)) (-1) ++ (wTx D tt (nI t) tx))) rfl rfl rfl (Nat.le_of_ble_eq_true rfl) dX2_readNumber_49 ?_
      refine j_aload_n C 1 dX2_readNumber_52 rfl rfl ?_
      refine j_get C 0 fgX2_readNumber_9 rfl rfl dX2_readNumber_53 ?_
      refine j_istore C dX2_readNumber_56 (by decide) (lv' := [(6, .int (nI (p + 1))), (5, .int (1 : Int32)), (0, .ref (rr 0)), (1, .int (nI dg)), (2, .int l0), (3, .int g0), (4, .int b0)]) rfl ?_
      refine j_iconst C (v := (0 : Int32)) dX2_readNumber_58 rfl ?_
      refine j_istore C dX2_readNumber_59 (by decide) (lv' := [(7, .int (0 : Int32)), (6, .int (nI (p + 1))), (5, .int (1 : Int32)), (0, .ref (rr 0)), (1, .int (nI dg)), (2, .int l0), (3, .int g0), (4, .int b0)]) rfl ?_
      obtain ⟨R, hRf⟩ : ∃ R, dgs tx t dg (p + 1) 0 = R := ⟨_, rfl⟩
      have hRl := dgs_le (tx := tx) (t := t) dg (p + 1) 0 (by omega)
      rw [hRf] at hRl
      have hrN : rN tx t p dg l0 g0 b0 = rNe tx t true (p + 1) R l0 g0 b0 := by rw [← hRf]; exact rN_of (mi := true) (by rw [decide_eq_true h11', decide_eq_true h27]; rfl)
      have hend : J D X (wRd D rr (tt 0) (nI R.1) (-1) ++ (wTx D tt (nI t) tx)) 0 0 124 [(7, .int R.2), (6, .int (nI (p + 1))), (5, .int (1 : Int32)), (4, .int b0), (3, .int g0), (2, .int l0), (1, .int (nI dg)), (0, .ref (rr 0))] [] := by
        refine j_iload C 2 dX2_readNumber_124 rfl ?_
        refine j_if_eq C dX2_readNumber_126 (tgt := 135) (by decide) (fun h => absurd h (by decide)) (fun _ => ?_)
        refine j_iload C 0 dX2_readNumber_129 rfl ?_
        refine j_ineg C dX2_readNumber_131 ?_
        refine j_goto C dX2_readNumber_132 (tgt := 137) (by decide) ?_
        refine j_eqi (y := sgn true R.2) rfl ?_
        refine j_istore C dX2_readNumber_137 (by decide) (lv' := [(8, .int (sgn true R.2)), (7, .int R.2), (6, .int (nI (p + 1))), (5, .int (1 : Int32)), (4, .int b0), (3, .int g0), (2, .int l0), (1, .int (nI dg)), (0, .ref (rr 0))]) rfl ?_
        refine j_aload_n C 8 dX2_readNumber_139 rfl rfl ?_
        refine j_get C 0 fgX2_readNumber_18 rfl rfl dX2_readNumber_140 ?_
        refine j_aload_n C 8 dX2_readNumber_143 rfl rfl ?_
        refine j_get C 0 fgX2_readNumber_9 rfl rfl dX2_readNumber_144 ?_
        refine j_cv_i C (As := [.int (nI R.1)]) (rest := []) (ctX3_byteAt (xl X) D tt tx t (by first | assumption | omega | decide) R.1 (by first | assumption | omega | decide)) mfX3_byteAt gX2_readNumber_X3_byteAt rfl (Nat.le_of_ble_eq_true rfl) (Nat.le_of_ble_eq_true rfl) (Nat.le_of_ble_eq_true rfl) (Nat.le_of_ble_eq_true rfl) [1, 2] rfl rfl 0 rfl rfl rfl rfl (Nat.le_of_ble_eq_true rfl) dX2_readNumber_147 ?_
        rintro _ _ ⟨rfl, rfl⟩
        refine ⟨Eq.trans (b := [tt 0, tt 1]) rfl rfl, ?_⟩
        refine j_w (w' := (wRd D rr (tt 0) (nI R.1) (-1) ++ (wTx D tt (nI t) tx))) rfl ?_
        refine j_istore C dX2_readNumber_150 (by decide) (lv' := [(9, .int (rh tx t R.1)), (8, .int (sgn true R.2)), (7, .int R.2), (6, .int (nI (p + 1))), (5, .int (1 : Int32)), (4, .int b0), (3, .int g0), (2, .int l0), (1, .int (nI dg)), (0, .ref (rr 0))]) rfl ?_
        refine j_aload_n C 9 dX2_readNumber_152 rfl rfl ?_
        refine j_get C 0 fgX2_readNumber_9 rfl rfl dX2_readNumber_153 ?_
        refine j_iload C 3 dX2_readNumber_156 rfl ?_
        refine j_icmp_eq C dX2_readNumber_158 (tgt := 169) (by decide) (fun h158 => ?_) (fun h158 => ?_)
        · refine j_aload_n C 9 dX2_readNumber_169 rfl rfl ?_
          refine j_aload_n C 9 dX2_readNumber_170 rfl rfl ?_
          refine j_get C 0 fgX2_readNumber_9 rfl rfl dX2_readNumber_171 ?_
          refine j_put C 0 foX2_readNumber_15 rfl (w' := (wRd D rr (tt 0) (nI R.1) (nI R.1) ++ (wTx D tt (nI t) tx))) rfl rfl rfl (Nat.le_of_ble_eq_true rfl) dX2_readNumber_174 ?_
          refine j_goto C dX2_readNumber_177 (tgt := 227) (by decide) ?_
          refine j_iload C 1 dX2_readNumber_227 rfl ?_
          exact ret dX2_readNumber_229 (⟨_, (fun z => by rw [hrN, rNe_1 (Or.inl ((nI_eq (by omega) (by omega)).mp h158))] at z; cases z), by rw [hrN, rNe_1 (Or.inl ((nI_eq (by omega) (by omega)).mp h158))]; rfl⟩)
        · refine j_iload C 0 dX2_readNumber_161 rfl ?_
          refine j_cs_i C (As := [.int (rh tx t R.1)]) (rest := []) (ctX2_isDigit (xl X) D (rh tx t R.1)) mfX2_isDigit gX2_readNumber_X2_isDigit rfl (Nat.le_of_ble_eq_true rfl) (Nat.le_of_ble_eq_true rfl) (Nat.le_of_ble_eq_true rfl) (Nat.le_of_ble_eq_true rfl) [] rfl rfl rfl (Nat.le_of_ble_eq_true rfl) dX2_readNumber_163 ?_
          rintro _ _ ⟨rfl, rfl⟩
          refine ⟨Eq.trans (b := []) rfl rfl, ?_⟩
          refine j_w (w' := (wRd D rr (tt 0) (nI R.1) (-1) ++ (wTx D tt (nI t) tx))) rfl ?_
          refine j_bif_eq C dX2_readNumber_166 (tgt := 180) (by decide) (fun h166 => ?_) (fun h166 => ?_)
          · refine j_iload C 1 dX2_readNumber_180 rfl ?_
            refine j_iload_n C 7 dX2_readNumber_182 rfl rfl ?_
            refine j_iload_n C 6 dX2_readNumber_183 rfl rfl ?_
            refine j_csN_i C (As := [.int (sgn true R.2), .int l0, .int g0]) (rest := []) (ctX5_isIn (xl X) D (sgn true R.2) l0 g0) mfX5_isIn gX2_readNumber_X5_isIn_n66 rfl (C.hN.2.2.2.2.2.2.1) mX2_readNumber_static_yX5_isIn mX2_readNumber_initialized_RX5 (Nat.le_of_ble_eq_true rfl) (Nat.le_of_ble_eq_true rfl) (Nat.le_of_ble_eq_true rfl) (Nat.le_of_ble_eq_true rfl) [] rfl rfl rfl (Nat.le_of_ble_eq_true rfl) dX2_readNumber_184 ?_
            rintro _ _ ⟨rfl, rfl⟩
            refine ⟨Eq.trans (b := []) rfl rfl, ?_⟩
            refine j_w (w' := (wRd D rr (tt 0) (nI R.1) (-1) ++ (wTx D tt (nI t) tx))) rfl ?_
            refine j_bif_ne C dX2_readNumber_187 (tgt := 199) (by decide) (fun h187 => ?_) (fun h187 => ?_)
            · refine j_iload C 0 dX2_readNumber_199 rfl ?_
              refine j_iload C 5 dX2_readNumber_201 rfl ?_
              refine j_icmp_eq C dX2_readNumber_203 (tgt := 217) (by decide) (fun h203 => ?_) (fun h203 => ?_)
              · refine j_aload_n C 9 dX2_readNumber_217 rfl rfl ?_
                refine j_dup C dX2_readNumber_218 rfl ?_
                refine j_get C 0 fgX2_readNumber_9 rfl rfl dX2_readNumber_219 ?_
                refine j_iconst C (v := (1 : Int32)) dX2_readNumber_222 rfl ?_
                refine j_iadd C dX2_readNumber_223 ?_
                refine j_eqi (y := nI (R.1 + 1)) (nI_add R.1 1) ?_
                refine j_put C 0 foX2_readNumber_9 rfl (w' := (wRd D rr (tt 0) (nI (R.1 + 1)) (-1) ++ (wTx D tt (nI t) tx))) rfl rfl rfl (Nat.le_of_ble_eq_true rfl) dX2_readNumber_224 ?_
                refine j_iload C 1 dX2_readNumber_227 rfl ?_
                exact ret dX2_readNumber_229 (⟨_, (fun z => ⟨by rw [hrN, rNe_3 (fun z => h158 (by rw [z])) h166 h187], by rw [hrN, rNe_3 (fun z => h158 (by rw [z])) h166 h187, if_pos h203]⟩), by rw [hrN, rNe_3 (fun z => h158 (by rw [z])) h166 h187, decide_eq_true h203, if_pos h203]; rfl⟩)
              · refine j_aload_n C 9 dX2_readNumber_206 rfl rfl ?_
                refine j_aload_n C 9 dX2_readNumber_207 rfl rfl ?_
                refine j_get C 0 fgX2_readNumber_9 rfl rfl dX2_readNumber_208 ?_
                refine j_put C 0 foX2_readNumber_15 rfl (w' := (wRd D rr (tt 0) (nI R.1) (nI R.1) ++ (wTx D tt (nI t) tx))) rfl rfl rfl (Nat.le_of_ble_eq_true rfl) dX2_readNumber_211 ?_
                refine j_goto C dX2_readNumber_214 (tgt := 227) (by decide) ?_
                refine j_iload C 1 dX2_readNumber_227 rfl ?_
                exact ret dX2_readNumber_229 (⟨_, (fun z => by rw [hrN, rNe_3 (fun z => h158 (by rw [z])) h166 h187, decide_eq_false h203] at z; cases z), by rw [hrN, rNe_3 (fun z => h158 (by rw [z])) h166 h187, decide_eq_false h203, if_neg h203]; rfl⟩)
            · refine j_aload_n C 9 dX2_readNumber_190 rfl rfl ?_
              refine j_iload C 3 dX2_readNumber_191 rfl ?_
              refine j_put C 0 foX2_readNumber_15 rfl (w' := (wRd D rr (tt 0) (nI R.1) (nI (p + 1)) ++ (wTx D tt (nI t) tx))) rfl rfl rfl (Nat.le_of_ble_eq_true rfl) dX2_readNumber_193 ?_
              refine j_goto C dX2_readNumber_196 (tgt := 227) (by decide) ?_
              refine j_iload C 1 dX2_readNumber_227 rfl ?_
              exact ret dX2_readNumber_229 (⟨_, (fun z => by rw [hrN, rNe_2 (fun z => h158 (by rw [z])) h166 h187] at z; cases z), by rw [hrN, rNe_2 (fun z => h158 (by rw [z])) h166 h187]; rfl⟩)
          · refine j_aload_n C 9 dX2_readNumber_169 rfl rfl ?_
            refine j_aload_n C 9 dX2_readNumber_170 rfl rfl ?_
            refine j_get C 0 fgX2_readNumber_9 rfl rfl dX2_readNumber_171 ?_
            refine j_put C 0 foX2_readNumber_15 rfl (w' := (wRd D rr (tt 0) (nI R.1) (nI R.1) ++ (wTx D tt (nI t) tx))) rfl rfl rfl (Nat.le_of_ble_eq_true rfl) dX2_readNumber_174 ?_
            refine j_goto C dX2_readNumber_177 (tgt := 227) (by decide) ?_
            refine j_iload C 1 dX2_readNumber_227 rfl ?_
            exact ret dX2_readNumber_229 (⟨_, (fun z => by rw [hrN, rNe_1 (Or.inr h166)] at z; cases z), by rw [hrN, rNe_1 (Or.inr h166)]; rfl⟩)
      have key : ∀ (k q1 : Nat) (v1 : Int32), q1 + k = p + 1 + dg → q1 ≤ t → dgs tx t k q1 v1 = R → J D X (wRd D rr (tt 0) (nI q1) (-1) ++ (wTx D tt (nI t) tx)) 0 0 61 [(7, .int v1), (6, .int (nI (p + 1))), (5, .int (1 : Int32)), (4, .int b0), (3, .int g0), (2, .int l0), (1, .int (nI dg)), (0, .ref (rr 0))] [] := by
        intro k
        induction k with
        | zero =>
          intro q1 v1 hk hq hres
          obtain rfl : R = (q1, v1) := hres.symm
          refine j_aload_n C 7 dX2_readNumber_61 rfl rfl ?_
          refine j_get C 0 fgX2_readNumber_9 rfl rfl dX2_readNumber_62 ?_
          refine j_iload C 1 dX2_readNumber_65 rfl ?_
          refine j_iload_n C 6 dX2_readNumber_67 rfl rfl ?_
          refine j_iadd C dX2_readNumber_68 ?_
          refine j_eqi (y := nI ((p + 1) + dg)) (nI_add (p + 1) dg) ?_
          refine j_icmp_ge C dX2_readNumber_69 (tgt := 124) (by decide) (fun _ => ?_) (fun h => absurd (nI_le (by omega) (by omega)) h)
          refine j_sub [0, 1, 2, 3, 4, 5, 6, 7] (lv' := [(7, .int v1), (6, .int (nI (p + 1))), (5, .int (1 : Int32)), (4, .int b0), (3, .int g0), (2, .int l0), (1, .int (nI dg)), (0, .ref (rr 0))]) rfl ?_
          exact hend
        | succ k ih =>
          intro q1 v1 hk hq hres
          refine j_aload_n C 7 dX2_readNumber_61 rfl rfl ?_
          refine j_get C 0 fgX2_readNumber_9 rfl rfl dX2_readNumber_62 ?_
          refine j_iload C 1 dX2_readNumber_65 rfl ?_
          refine j_iload_n C 6 dX2_readNumber_67 rfl rfl ?_
          refine j_iadd C dX2_readNumber_68 ?_
          refine j_eqi (y := nI ((p + 1) + dg)) (nI_add (p + 1) dg) ?_
          refine j_icmp_ge C dX2_readNumber_69 (tgt := 124) (by decide) (fun h => absurd h (nI_ge (by omega) (by omega))) (fun _ => ?_)
          refine j_aload_n C 7 dX2_readNumber_72 rfl rfl ?_
          refine j_get C 0 fgX2_readNumber_18 rfl rfl dX2_readNumber_73 ?_
          refine j_aload_n C 7 dX2_readNumber_76 rfl rfl ?_
          refine j_get C 0 fgX2_readNumber_9 rfl rfl dX2_readNumber_77 ?_
          refine j_cv_i C (As := [.int (nI q1)]) (rest := []) (ctX3_byteAt (xl X) D tt tx t (by first | assumption | omega | decide) q1 (by first | assumption | omega | decide)) mfX3_byteAt gX2_readNumber_X3_byteAt rfl (Nat.le_of_ble_eq_true rfl) (Nat.le_of_ble_eq_true rfl) (Nat.le_of_ble_eq_true rfl) (Nat.le_of_ble_eq_true rfl) [1, 2] rfl rfl 0 rfl rfl rfl rfl (Nat.le_of_ble_eq_true rfl) dX2_readNumber_80 ?_
          rintro _ _ ⟨rfl, rfl⟩
          refine ⟨Eq.trans (b := [tt 0, tt 1]) rfl rfl, ?_⟩
          refine j_w (w' := (wRd D rr (tt 0) (nI q1) (-1) ++ (wTx D tt (nI t) tx))) rfl ?_
          refine j_cs_i C (As := [.int (rh tx t q1)]) (rest := []) (ctX2_isDigit (xl X) D (rh tx t q1)) mfX2_isDigit gX2_readNumber_X2_isDigit rfl (Nat.le_of_ble_eq_true rfl) (Nat.le_of_ble_eq_true rfl) (Nat.le_of_ble_eq_true rfl) (Nat.le_of_ble_eq_true rfl) [] rfl rfl rfl (Nat.le_of_ble_eq_true rfl) dX2_readNumber_83 ?_
          rintro _ _ ⟨rfl, rfl⟩
          refine ⟨Eq.trans (b := []) rfl rfl, ?_⟩
          refine j_w (w' := (wRd D rr (tt 0) (nI q1) (-1) ++ (wTx D tt (nI t) tx))) rfl ?_
          refine j_bif_eq C dX2_readNumber_86 (tgt := 124) (by decide) (fun h86 => ?_) (fun h86 => ?_)
          · refine j_sub [0, 1, 2, 3, 4, 5, 6, 7] (lv' := [(7, .int v1), (6, .int (nI (p + 1))), (5, .int (1 : Int32)), (4, .int b0), (3, .int g0), (2, .int l0), (1, .int (nI dg)), (0, .ref (rr 0))]) rfl ?_
            obtain rfl : R = (q1, v1) := by rw [← hres, dgs_f h86]
            exact hend
          · refine j_bipush C (v := (10 : Int32)) dX2_readNumber_89 rfl ?_
            refine j_iload C 0 dX2_readNumber_91 rfl ?_
            refine j_imul C dX2_readNumber_93 ?_
            refine j_aload_n C 7 dX2_readNumber_94 rfl rfl ?_
            refine j_get C 0 fgX2_readNumber_18 rfl rfl dX2_readNumber_95 ?_
            refine j_aload_n C 7 dX2_readNumber_98 rfl rfl ?_
            refine j_get C 0 fgX2_readNumber_9 rfl rfl dX2_readNumber_99 ?_
            refine j_cv_i C (As := [.int (nI q1)]) (rest := [.int ((10 : Int32) * v1)]) (ctX3_byteAt (xl X) D tt tx t (by first | assumption | omega | decide) q1 (by first | assumption | omega | decide)) mfX3_byteAt gX2_readNumber_X3_byteAt rfl (Nat.le_of_ble_eq_true rfl) (Nat.le_of_ble_eq_true rfl) (Nat.le_of_ble_eq_true rfl) (Nat.le_of_ble_eq_true rfl) [1, 2] rfl rfl 0 rfl rfl rfl rfl (Nat.le_of_ble_eq_true rfl) dX2_readNumber_102 ?_
            rintro _ _ ⟨rfl, rfl⟩
            refine ⟨Eq.trans (b := [tt 0, tt 1]) rfl rfl, ?_⟩
            refine j_w (w' := (wRd D rr (tt 0) (nI q1) (-1) ++ (wTx D tt (nI t) tx))) rfl ?_
            refine j_iadd C dX2_readNumber_105 ?_
            refine j_bipush C (v := (48 : Int32)) dX2_readNumber_106 rfl ?_
            refine j_isub C dX2_readNumber_108 ?_
            refine j_istore C dX2_readNumber_109 (by decide) (lv' := [(7, .int ((((10 : Int32) * v1) + (rh tx t q1)) - (48 : Int32))), (6, .int (nI (p + 1))), (5, .int (1 : Int32)), (4, .int b0), (3, .int g0), (2, .int l0), (1, .int (nI dg)), (0, .ref (rr 0))]) rfl ?_
            refine j_aload_n C 7 dX2_readNumber_111 rfl rfl ?_
            refine j_dup C dX2_readNumber_112 rfl ?_
            refine j_get C 0 fgX2_readNumber_9 rfl rfl dX2_readNumber_113 ?_
            refine j_iconst C (v := (1 : Int32)) dX2_readNumber_116 rfl ?_
            refine j_iadd C dX2_readNumber_117 ?_
            refine j_eqi (y := nI (q1 + 1)) (nI_add q1 1) ?_
            refine j_put C 0 foX2_readNumber_9 rfl (w' := (wRd D rr (tt 0) (nI (q1 + 1)) (-1) ++ (wTx D tt (nI t) tx))) rfl rfl rfl (Nat.le_of_ble_eq_true rfl) dX2_readNumber_118 ?_
            refine j_goto C dX2_readNumber_121 (tgt := 61) (by decide) ?_
            refine j_sub [0, 1, 2, 3, 4, 5, 6, 7] (lv' := [(7, .int ((((10 : Int32) * v1) + (rh tx t q1)) - (48 : Int32))), (6, .int (nI (p + 1))), (5, .int (1 : Int32)), (4, .int b0), (3, .int g0), (2, .int l0), (1, .int (nI dg)), (0, .ref (rr 0))]) rfl ?_
            exact ih (q1 + 1) _ (by omega) (pIn_lt h86) (by rw [← hres, dgs_t h86])
      refine j_sub [0, 1, 2, 7, 6, 5, 4, 3] (lv' := [(7, .int (0 : Int32)), (6, .int (nI (p + 1))), (5, .int (1 : Int32)), (4, .int b0), (3, .int g0), (2, .int l0), (1, .int (nI dg)), (0, .ref (rr 0))]) rfl ?_
      exact key dg (p + 1) 0 rfl (by omega) hRf
