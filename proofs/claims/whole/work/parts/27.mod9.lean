set_option maxRecDepth 100000 in
set_option maxHeartbeats 4000000 in
theorem ctX6_here (l : Launch) (D : KD) (h : Nat → Nat) (m sp sv : Nat → Int32) (sc : Int32) (tx : Nat → Int32) (cd se ro st : Int32) (qa qb qd : Int64) (lo : Nat → Int32) (re : Nat → Int64) (cr nu : Int32) (ha : Int64) (t : Nat) (ht : t ≤ 160) (p : Nat) (hp : p ≤ t) : MI l D yX6_here wsX6_here 0 0 0 0 [.ref (h 0)] (wMo D h m sp sv sc tx (nI t) cd se ro st qa qb qd lo re cr (nI p) nu ha) (fun r w1 => r = rh tx t p ∧ w1 = wMo D h m sp sv sc tx (nI t) cd se ro st qa qb qd lo re cr (nI p) nu ha) := by
  refine MI.of (cc := cX6_here) (nL := 1) (lv0 := [(0, .ref (h 0))]) (by decide +kernel) rfl (Nat.le_of_ble_eq_true rfl) rfl ?_
  intro X hXl hin C ret
  subst hXl
  refine j_aload_n C 0 dX6_here_0 rfl rfl ?_
  refine j_get C 0 fgX6_here_178 rfl rfl dX6_here_1 ?_
  refine j_aload_n C 0 dX6_here_4 rfl rfl ?_
  refine j_get C 0 fgX6_here_175 rfl rfl dX6_here_5 ?_
  refine j_icmp_ge C dX6_here_8 (tgt := 23) (by decide) (fun h8 => ?_) (fun h8 => ?_)
  · have h8' := Int32.not_lt.mpr h8
    have hpt : ¬ p < t := fun z => absurd ((nI_leI (by omega) (by omega)).mp h8) (by omega)
    refine j_iconst C (v := (-1 : Int32)) dX6_here_23 rfl ?_
    exact ret dX6_here_24 (⟨by simp [rh, hpt], rfl⟩)
  · have h8' := Int32.not_le.mp h8
    have hpt : p < t := Nat.lt_of_not_le fun z => h8 ((nI_leI (by omega) (by omega)).mpr z)
    refine j_aload_n C 0 dX6_here_11 rfl rfl ?_
    refine j_get C 0 fgX6_here_19 rfl rfl dX6_here_12 ?_
    refine j_aload_n C 0 dX6_here_15 rfl rfl ?_
    refine j_get C 0 fgX6_here_178 rfl rfl dX6_here_16 ?_
    refine j_iald C 4 rfl (i := p) rfl (by omega) (by decide) dX6_here_19 ?_
    refine j_goto C dX6_here_20 (tgt := 24) (by decide) ?_
    exact ret dX6_here_24 (⟨by simp [rh, hpt], rfl⟩)

set_option maxRecDepth 100000 in
set_option maxHeartbeats 4000000 in
theorem ctX6_takes (l : Launch) (D : KD) (h : Nat → Nat) (m sp sv : Nat → Int32) (sc : Int32) (tx : Nat → Int32) (cd se ro st : Int32) (qa qb qd : Int64) (lo : Nat → Int32) (re : Nat → Int64) (cr nu : Int32) (ha : Int64) (t : Nat) (ht : t ≤ 160) (p : Nat) (hp : p ≤ t) (c0 : Int32) : MI l D yX6_takes wsX6_takes 1 20 0 0 [.ref (h 0), .int c0] (wMo D h m sp sv sc tx (nI t) cd se ro st qa qb qd lo re cr (nI p) nu ha) (fun r w1 => r = bI (decide (rh tx t p = c0)) ∧ w1 = wMo D h m sp sv sc tx (nI t) cd se ro st qa qb qd lo re cr (nI (if rh tx t p = c0 then p + 1 else p)) nu ha) := by
  refine MI.ofz (cc := cX6_takes) (nL := 3) (lv0 := [(0, .ref (h 0)), (1, .int c0)]) (by decide +kernel) rfl (Nat.le_of_ble_eq_true rfl) rfl ?_
  intro X hXl hin C ret
  subst hXl
  refine j_aload_n C 0 dX6_takes_0 rfl rfl ?_
  refine j_cv_i C (As := []) (rest := []) (ctX6_here (xl X) D h m sp sv sc tx cd se ro st qa qb qd lo re cr nu ha t (by first | assumption | omega | decide) p (by first | assumption | omega | decide)) mfX6_here gX6_takes_X6_here rfl (Nat.le_of_ble_eq_true rfl) (Nat.le_of_ble_eq_true rfl) (Nat.le_of_ble_eq_true rfl) (Nat.le_of_ble_eq_true rfl) [0, 1, 2, 3, 4, 5, 6] rfl rfl 0 rfl rfl rfl rfl (Nat.le_of_ble_eq_true rfl) dX6_takes_1 ?_
  rintro _ _ ⟨rfl, rfl⟩
  refine ⟨rfl, ?_⟩
  refine j_w (w' := (wMo D h m sp sv sc tx (nI t) cd se ro st qa qb qd lo re cr (nI p) nu ha)) rfl ?_
  refine j_iload_n C 1 dX6_takes_4 rfl rfl ?_
  refine j_icmp_ne C dX6_takes_5 (tgt := 12) (by decide) (fun h5 => ?_) (fun h5 => ?_)
  · refine j_iconst C (v := (0 : Int32)) dX6_takes_12 rfl ?_
    refine j_istore_n C dX6_takes_13 rfl (by decide) (lv' := [(2, .int (0 : Int32)), (0, .ref (h 0)), (1, .int c0)]) rfl ?_
    refine j_aload_n C 1 dX6_takes_14 rfl rfl ?_
    refine j_dup C dX6_takes_15 rfl ?_
    refine j_get C 0 fgX6_takes_178 rfl rfl dX6_takes_16 ?_
    refine j_iload_n C 0 dX6_takes_19 rfl rfl ?_
    refine j_if_eq C dX6_takes_20 (tgt := 27) (by decide) (fun _ => ?_) (fun h => absurd (by decide) h)
    refine j_iconst C (v := (0 : Int32)) dX6_takes_27 rfl ?_
    refine j_iadd C dX6_takes_28 ?_
    refine j_eqi (y := nI (p + 0)) (nI_add p 0) ?_
    refine j_put C 0 foX6_takes_178 rfl (w' := (wMo D h m sp sv sc tx (nI t) cd se ro st qa qb qd lo re cr (nI (p + 0)) nu ha)) rfl rfl rfl (Nat.le_of_ble_eq_true rfl) dX6_takes_29 ?_
    refine j_iload_n C 0 dX6_takes_32 rfl rfl ?_
    exact ret dX6_takes_33 (Or.inl rfl) (⟨by rw [decide_eq_false h5]; rfl, by rw [if_neg h5]; rfl⟩)
  · refine j_iconst C (v := (1 : Int32)) dX6_takes_8 rfl ?_
    refine j_goto C dX6_takes_9 (tgt := 13) (by decide) ?_
    refine j_istore_n C dX6_takes_13 rfl (by decide) (lv' := [(2, .int (1 : Int32)), (0, .ref (h 0)), (1, .int c0)]) rfl ?_
    refine j_aload_n C 1 dX6_takes_14 rfl rfl ?_
    refine j_dup C dX6_takes_15 rfl ?_
    refine j_get C 0 fgX6_takes_178 rfl rfl dX6_takes_16 ?_
    refine j_iload_n C 0 dX6_takes_19 rfl rfl ?_
    refine j_if_eq C dX6_takes_20 (tgt := 27) (by decide) (fun h => absurd h (by decide)) (fun _ => ?_)
    refine j_iconst C (v := (1 : Int32)) dX6_takes_23 rfl ?_
    refine j_goto C dX6_takes_24 (tgt := 28) (by decide) ?_
    refine j_iadd C dX6_takes_28 ?_
    refine j_eqi (y := nI (p + 1)) (nI_add p 1) ?_
    refine j_put C 0 foX6_takes_178 rfl (w' := (wMo D h m sp sv sc tx (nI t) cd se ro st qa qb qd lo re cr (nI (p + 1)) nu ha)) rfl rfl rfl (Nat.le_of_ble_eq_true rfl) dX6_takes_29 ?_
    refine j_iload_n C 0 dX6_takes_32 rfl rfl ?_
    exact ret dX6_takes_33 (Or.inr rfl) (⟨by rw [decide_eq_true h5]; rfl, by rw [if_pos h5]⟩)

set_option maxRecDepth 100000 in
set_option maxHeartbeats 4000000 in
theorem ctX6_readNumber (l : Launch) (D : KD) (h : Nat → Nat) (m sp sv : Nat → Int32) (sc : Int32) (tx : Nat → Int32) (cd se ro st : Int32) (qa qb qd : Int64) (lo : Nat → Int32) (re : Nat → Int64) (cr nu : Int32) (ha : Int64) (t : Nat) (ht : t ≤ 160) (p : Nat) (hp : p ≤ t) (dg : Nat) (hdg : dg ≤ 6) (l0 g0 b0 : Int32) : MI l D yX6_readNumber wsX6_readNumber 2 42 0 0 [.ref (h 0), .int (nI dg), .int l0, .int g0, .int b0] (wMo D h m sp sv sc tx (nI t) cd se ro st qa qb qd lo re cr (nI p) nu ha) (fun r w1 => r = bI (rN tx t p dg l0 g0 b0).1 ∧ w1 = wMo D h m sp sv sc tx (nI t) cd se ro st qa qb qd lo re cr (nI (rN tx t p dg l0 g0 b0).2.2) ((rN tx t p dg l0 g0 b0).2.1) ha) := by
  refine MI.ofz (cc := cX6_readNumber) (nL := 7) (lv0 := [(0, .ref (h 0)), (1, .int (nI dg)), (2, .int l0), (3, .int g0), (4, .int b0)]) (by decide +kernel) rfl (Nat.le_of_ble_eq_true rfl) rfl ?_
  intro X hXl hin C ret
  subst hXl
  refine j_iload_n C 2 dX6_readNumber_0 rfl rfl ?_
  refine j_if_ge C dX6_readNumber_1 (tgt := 17) (by decide) (fun h1 => ?_) (fun h1 => ?_)
  · have h1' := Int32.not_lt.mpr h1
    refine j_iconst C (v := (0 : Int32)) dX6_readNumber_17 rfl ?_
    refine j_istore C dX6_readNumber_18 (by decide) (lv' := [(5, .int (0 : Int32)), (0, .ref (h 0)), (1, .int (nI dg)), (2, .int l0), (3, .int g0), (4, .int b0)]) rfl ?_
    refine j_aload_n C 1 dX6_readNumber_20 rfl rfl ?_
    refine j_get C 0 fgX6_readNumber_178 rfl rfl dX6_readNumber_21 ?_
    refine j_istore C dX6_readNumber_24 (by decide) (lv' := [(6, .int (nI p)), (5, .int (0 : Int32)), (0, .ref (h 0)), (1, .int (nI dg)), (2, .int l0), (3, .int g0), (4, .int b0)]) rfl ?_
    refine j_aload_n C 2 dX6_readNumber_26 rfl rfl ?_
    refine j_iconst C (v := (0 : Int32)) dX6_readNumber_27 rfl ?_
    refine j_put C 0 foX6_readNumber_187 rfl (w' := (wMo D h m sp sv sc tx (nI t) cd se ro st qa qb qd lo re cr (nI p) (0 : Int32) ha)) rfl rfl rfl (Nat.le_of_ble_eq_true rfl) dX6_readNumber_28 ?_
    obtain ⟨R, hRf⟩ : ∃ R, dgs tx t dg (p) 0 = R := ⟨_, rfl⟩
    have hRl := dgs_le (tx := tx) (t := t) dg (p) 0 (by omega)
    rw [hRf] at hRl
    have hrN : rN tx t p dg l0 g0 b0 = rNe tx t false (p) R l0 g0 b0 := by rw [← hRf]; exact rN_of (mi := false) (by rw [decide_eq_false (Int32.not_lt.mpr h1)]; rfl)
    have hend : J D X (wMo D h m sp sv sc tx (nI t) cd se ro st qa qb qd lo re cr (nI R.1) R.2 ha) 0 0 88 [(6, .int (nI p)), (5, .int (0 : Int32)), (4, .int b0), (3, .int g0), (2, .int l0), (1, .int (nI dg)), (0, .ref (h 0))] [] := by
      refine j_aload_n C 6 dX6_readNumber_88 rfl rfl ?_
      refine j_get C 0 fgX6_readNumber_178 rfl rfl dX6_readNumber_89 ?_
      refine j_iload C 0 dX6_readNumber_92 rfl ?_
      refine j_icmp_eq C dX6_readNumber_94 (tgt := 111) (by decide) (fun h94 => ?_) (fun h94 => ?_)
      · refine j_iconst C (v := (0 : Int32)) dX6_readNumber_111 rfl ?_
        exact ret dX6_readNumber_112 (Or.inl rfl) (⟨by rw [hrN, rNe_1 (Or.inl ((nI_eq (by omega) (by omega)).mp h94))]; rfl, by rw [hrN, rNe_1 (Or.inl ((nI_eq (by omega) (by omega)).mp h94))]⟩)
      · refine j_aload_n C 6 dX6_readNumber_97 rfl rfl ?_
        refine j_cv_i C (As := []) (rest := []) (ctX6_here (xl X) D h m sp sv sc tx cd se ro st qa qb qd lo re cr R.2 ha t (by first | assumption | omega | decide) R.1 (by first | assumption | omega | decide)) mfX6_here gX6_readNumber_X6_here rfl (Nat.le_of_ble_eq_true rfl) (Nat.le_of_ble_eq_true rfl) (Nat.le_of_ble_eq_true rfl) (Nat.le_of_ble_eq_true rfl) [0, 1, 2, 3, 4, 5, 6] rfl rfl 0 rfl rfl rfl rfl (Nat.le_of_ble_eq_true rfl) dX6_readNumber_98 ?_
        rintro _ _ ⟨rfl, rfl⟩
        refine ⟨rfl, ?_⟩
        refine j_w (w' := (wMo D h m sp sv sc tx (nI t) cd se ro st qa qb qd lo re cr (nI R.1) R.2 ha)) rfl ?_
        refine j_bipush C (v := (48 : Int32)) dX6_readNumber_101 rfl ?_
        refine j_bipush C (v := (57 : Int32)) dX6_readNumber_103 rfl ?_
        refine j_cs_i C (As := [.int (rh tx t R.1), .int (48 : Int32), .int (57 : Int32)]) (rest := []) (ctX6_in (xl X) D (rh tx t R.1) (48 : Int32) (57 : Int32)) mfX6_in gX6_readNumber_X6_in rfl (Nat.le_of_ble_eq_true rfl) (Nat.le_of_ble_eq_true rfl) (Nat.le_of_ble_eq_true rfl) (Nat.le_of_ble_eq_true rfl) [] rfl rfl rfl (Nat.le_of_ble_eq_true rfl) dX6_readNumber_105 ?_
        rintro _ _ ⟨rfl, rfl⟩
        refine ⟨rfl, ?_⟩
        refine j_w (w' := (wMo D h m sp sv sc tx (nI t) cd se ro st qa qb qd lo re cr (nI R.1) R.2 ha)) rfl ?_
        refine j_bif_eq C dX6_readNumber_108 (tgt := 113) (by decide) (fun h108 => ?_) (fun h108 => ?_)
        · refine j_aload_n C 6 dX6_readNumber_113 rfl rfl ?_
          refine j_iload C 1 dX6_readNumber_114 rfl ?_
          refine j_if_eq C dX6_readNumber_116 (tgt := 127) (by decide) (fun _ => ?_) (fun h => absurd (by decide) h)
          refine j_aload_n C 6 dX6_readNumber_127 rfl rfl ?_
          refine j_get C 0 fgX6_readNumber_187 rfl rfl dX6_readNumber_128 ?_
          refine j_eqi (y := sgn false R.2) rfl ?_
          refine j_put C 0 foX6_readNumber_187 rfl (w' := (wMo D h m sp sv sc tx (nI t) cd se ro st qa qb qd lo re cr (nI R.1) (sgn false R.2) ha)) rfl rfl rfl (Nat.le_of_ble_eq_true rfl) dX6_readNumber_131 ?_
          refine j_aload_n C 6 dX6_readNumber_134 rfl rfl ?_
          refine j_get C 0 fgX6_readNumber_187 rfl rfl dX6_readNumber_135 ?_
          refine j_iload_n C 4 dX6_readNumber_138 rfl rfl ?_
          refine j_iload_n C 3 dX6_readNumber_139 rfl rfl ?_
          refine j_cs_i C (As := [.int (sgn false R.2), .int l0, .int g0]) (rest := []) (ctX6_in (xl X) D (sgn false R.2) l0 g0) mfX6_in gX6_readNumber_X6_in rfl (Nat.le_of_ble_eq_true rfl) (Nat.le_of_ble_eq_true rfl) (Nat.le_of_ble_eq_true rfl) (Nat.le_of_ble_eq_true rfl) [] rfl rfl rfl (Nat.le_of_ble_eq_true rfl) dX6_readNumber_140 ?_
          rintro _ _ ⟨rfl, rfl⟩
          refine ⟨rfl, ?_⟩
          refine j_w (w' := (wMo D h m sp sv sc tx (nI t) cd se ro st qa qb qd lo re cr (nI R.1) (sgn false R.2) ha)) rfl ?_
          refine j_bif_ne C dX6_readNumber_143 (tgt := 154) (by decide) (fun h143 => ?_) (fun h143 => ?_)
          · refine j_aload_n C 6 dX6_readNumber_154 rfl rfl ?_
            refine j_iload C 2 dX6_readNumber_155 rfl ?_
            refine j_cv_i C (As := [.int b0]) (rest := []) (ctX6_takes (xl X) D h m sp sv sc tx cd se ro st qa qb qd lo re cr (sgn false R.2) ha t (by first | assumption | omega | decide) R.1 (by first | assumption | omega | decide) b0) mfX6_takes gX6_readNumber_X6_takes rfl (Nat.le_of_ble_eq_true rfl) (Nat.le_of_ble_eq_true rfl) (Nat.le_of_ble_eq_true rfl) (Nat.le_of_ble_eq_true rfl) [0, 1, 2, 3, 4, 5, 6] rfl rfl 0 rfl rfl rfl rfl (Nat.le_of_ble_eq_true rfl) dX6_readNumber_157 ?_
            rintro _ _ ⟨rfl, rfl⟩
            refine ⟨rfl, ?_⟩
            refine j_w (w' := (wMo D h m sp sv sc tx (nI t) cd se ro st qa qb qd lo re cr (nI (if rh tx t R.1 = b0 then R.1 + 1 else R.1)) (sgn false R.2) ha)) rfl ?_
            exact ret dX6_readNumber_160 (bI_01 _) (⟨by rw [hrN, rNe_3 (fun z => h94 (by rw [z])) h108 h143], by rw [hrN, rNe_3 (fun z => h94 (by rw [z])) h108 h143]⟩)
          · refine j_aload_n C 6 dX6_readNumber_146 rfl rfl ?_
            refine j_iload C 0 dX6_readNumber_147 rfl ?_
            refine j_put C 0 foX6_readNumber_178 rfl (w' := (wMo D h m sp sv sc tx (nI t) cd se ro st qa qb qd lo re cr (nI p) (sgn false R.2) ha)) rfl rfl rfl (Nat.le_of_ble_eq_true rfl) dX6_readNumber_149 ?_
            refine j_iconst C (v := (0 : Int32)) dX6_readNumber_152 rfl ?_
            exact ret dX6_readNumber_153 (Or.inl rfl) (⟨by rw [hrN, rNe_2 (fun z => h94 (by rw [z])) h108 h143]; rfl, by rw [hrN, rNe_2 (fun z => h94 (by rw [z])) h108 h143]⟩)
        · refine j_iconst C (v := (0 : Int32)) dX6_readNumber_111 rfl ?_
          exact ret dX6_readNumber_112 (Or.inl rfl) (⟨by rw [hrN, rNe_1 (Or.inr h108)]; rfl, by rw [hrN, rNe_1 (Or.inr h108)]⟩)
    have key : ∀ (k q1 : Nat) (v1 : Int32), q1 + k = p + dg → q1 ≤ t → dgs tx t k q1 v1 = R → J D X (wMo D h m sp sv sc tx (nI t) cd se ro st qa qb qd lo re cr (nI q1) v1 ha) 0 0 31 [(6, .int (nI p)), (5, .int (0 : Int32)), (4, .int b0), (3, .int g0), (2, .int l0), (1, .int (nI dg)), (0, .ref (h 0))] [] := by
      intro k
      induction k with
      | zero =>
        intro q1 v1 hk hq hres
        obtain rfl : R = (q1, v1) := hres.symm
        refine j_aload_n C 6 dX6_readNumber_31 rfl rfl ?_
        refine j_get C 0 fgX6_readNumber_178 rfl rfl dX6_readNumber_32 ?_
        refine j_iload C 0 dX6_readNumber_35 rfl ?_
        refine j_iload_n C 5 dX6_readNumber_37 rfl rfl ?_
        refine j_iadd C dX6_readNumber_38 ?_
        refine j_eqi (y := nI (p + dg)) (nI_add p dg) ?_
        refine j_icmp_ge C dX6_readNumber_39 (tgt := 88) (by decide) (fun _ => ?_) (fun h => absurd (nI_le (by omega) (by omega)) h)
        refine j_sub [0, 1, 2, 3, 4, 5, 6] (lv' := [(6, .int (nI p)), (5, .int (0 : Int32)), (4, .int b0), (3, .int g0), (2, .int l0), (1, .int (nI dg)), (0, .ref (h 0))]) rfl ?_
        exact hend
      | succ k ih =>
        intro q1 v1 hk hq hres
        refine j_aload_n C 6 dX6_readNumber_31 rfl rfl ?_
        refine j_get C 0 fgX6_readNumber_178 rfl rfl dX6_readNumber_32 ?_
        refine j_iload C 0 dX6_readNumber_35 rfl ?_
        refine j_iload_n C 5 dX6_readNumber_37 rfl rfl ?_
        refine j_iadd C dX6_readNumber_38 ?_
        refine j_eqi (y := nI (p + dg)) (nI_add p dg) ?_
        refine j_icmp_ge C dX6_readNumber_39 (tgt := 88) (by decide) (fun h => absurd h (nI_ge (by omega) (by omega))) (fun _ => ?_)
        refine j_aload_n C 6 dX6_readNumber_42 rfl rfl ?_
        refine j_cv_i C (As := []) (rest := []) (ctX6_here (xl X) D h m sp sv sc tx cd se ro st qa qb qd lo re cr v1 ha t (by first | assumption | omega | decide) q1 (by first | assumption | omega | decide)) mfX6_here gX6_readNumber_X6_here rfl (Nat.le_of_ble_eq_true rfl) (Nat.le_of_ble_eq_true rfl) (Nat.le_of_ble_eq_true rfl) (Nat.le_of_ble_eq_true rfl) [0, 1, 2, 3, 4, 5, 6] rfl rfl 0 rfl rfl rfl rfl (Nat.le_of_ble_eq_true rfl) dX6_readNumber_43 ?_
        rintro _ _ ⟨rfl, rfl⟩
        refine ⟨rfl, ?_⟩
        refine j_w (w' := (wMo D h m sp sv sc tx (nI t) cd se ro st qa qb qd lo re cr (nI q1) v1 ha)) rfl ?_
        refine j_bipush C (v := (48 : Int32)) dX6_readNumber_46 rfl ?_
        refine j_bipush C (v := (57 : Int32)) dX6_readNumber_48 rfl ?_
        refine j_cs_i C (As := [.int (rh tx t q1), .int (48 : Int32), .int (57 : Int32)]) (rest := []) (ctX6_in (xl X) D (rh tx t q1) (48 : Int32) (57 : Int32)) mfX6_in gX6_readNumber_X6_in rfl (Nat.le_of_ble_eq_true rfl) (Nat.le_of_ble_eq_true rfl) (Nat.le_of_ble_eq_true rfl) (Nat.le_of_ble_eq_true rfl) [] rfl rfl rfl (Nat.le_of_ble_eq_true rfl) dX6_readNumber_50 ?_
        rintro _ _ ⟨rfl, rfl⟩
        refine ⟨rfl, ?_⟩
        refine j_w (w' := (wMo D h m sp sv sc tx (nI t) cd se ro st qa qb qd lo re cr (nI q1) v1 ha)) rfl ?_
        refine j_bif_eq C dX6_readNumber_53 (tgt := 88) (by decide) (fun h53 => ?_) (fun h53 => ?_)
        · refine j_sub [0, 1, 2, 3, 4, 5, 6] (lv' := [(6, .int (nI p)), (5, .int (0 : Int32)), (4, .int b0), (3, .int g0), (2, .int l0), (1, .int (nI dg)), (0, .ref (h 0))]) rfl ?_
          obtain rfl : R = (q1, v1) := by rw [← hres, dgs_f h53]
          exact hend
        · refine j_aload_n C 6 dX6_readNumber_56 rfl rfl ?_
          refine j_bipush C (v := (10 : Int32)) dX6_readNumber_57 rfl ?_
          refine j_aload_n C 6 dX6_readNumber_59 rfl rfl ?_
          refine j_get C 0 fgX6_readNumber_187 rfl rfl dX6_readNumber_60 ?_
          refine j_imul C dX6_readNumber_63 ?_
          refine j_aload_n C 6 dX6_readNumber_64 rfl rfl ?_
          refine j_cv_i C (As := []) (rest := [.int ((10 : Int32) * v1), .ref (h 0)]) (ctX6_here (xl X) D h m sp sv sc tx cd se ro st qa qb qd lo re cr v1 ha t (by first | assumption | omega | decide) q1 (by first | assumption | omega | decide)) mfX6_here gX6_readNumber_X6_here rfl (Nat.le_of_ble_eq_true rfl) (Nat.le_of_ble_eq_true rfl) (Nat.le_of_ble_eq_true rfl) (Nat.le_of_ble_eq_true rfl) [0, 1, 2, 3, 4, 5, 6] rfl rfl 0 rfl rfl rfl rfl (Nat.le_of_ble_eq_true rfl) dX6_readNumber_65 ?_
          rintro _ _ ⟨rfl, rfl⟩
          refine ⟨rfl, ?_⟩
          refine j_w (w' := (wMo D h m sp sv sc tx (nI t) cd se ro st qa qb qd lo re cr (nI q1) v1 ha)) rfl ?_
          refine j_iadd C dX6_readNumber_68 ?_
          refine j_bipush C (v := (48 : Int32)) dX6_readNumber_69 rfl ?_
          refine j_isub C dX6_readNumber_71 ?_
          refine j_put C 0 foX6_readNumber_187 rfl (w' := (wMo D h m sp sv sc tx (nI t) cd se ro st qa qb qd lo re cr (nI q1) ((((10 : Int32) * v1) + (rh tx t q1)) - (48 : Int32)) ha)) rfl rfl rfl (Nat.le_of_ble_eq_true rfl) dX6_readNumber_72 ?_
          refine j_aload_n C 6 dX6_readNumber_75 rfl rfl ?_
          refine j_dup C dX6_readNumber_76 rfl ?_
          refine j_get C 0 fgX6_readNumber_178 rfl rfl dX6_readNumber_77 ?_
          refine j_iconst C (v := (1 : Int32)) dX6_readNumber_80 rfl ?_
          refine j_iadd C dX6_readNumber_81 ?_
          refine j_eqi (y := nI (q1 + 1)) (nI_add q1 1) ?_
          refine j_put C 0 foX6_readNumber_178 rfl (w' := (wMo D h m sp sv sc tx (nI t) cd se ro st qa qb qd lo re cr (nI (q1 + 1)) ((((10 : Int32) * v1) + (rh tx t q1)) - (48 : Int32)) ha)) rfl rfl rfl (Nat.le_of_ble_eq_true rfl) dX6_readNumber_82 ?_
          refine j_goto C dX6_readNumber_85 (tgt := 31) (by decide) ?_
          refine j_sub [0, 1, 2, 3, 4, 5, 6] (lv' := [(6, .int (nI p)), (5, .int (0 : Int32)), (4, .int b0), (3, .int g0), (2, .int l0), (1, .int (nI dg)), (0, .ref (h 0))]) rfl ?_
          exact ih (q1 + 1) _ (by omega) (pIn_lt h53) (by rw [← hres, dgs_t h53])
    refine j_sub [0, 1, 6, 5, 4, 3, 2] (lv' := [(6, .int (nI p)), (5, .int (0 : Int32)), (4, .int b0), (3, .int g0), (2, .int l0), (1, .int (nI dg)), (0, .ref (h 0))]) rfl ?_
    exact key dg (p) 0 rfl (by omega) hRf
  · have h1' := Int32.not_le.mp h1
    refine j_aload_n C 0 dX6_readNumber_4 rfl rfl ?_
    refine j_bipush C (v := (45 : Int32)) dX6_readNumber_5 rfl ?_
    refine j_cv_i C (As := [.int (45 : Int32)]) (rest := []) (ctX6_takes (xl X) D h m sp sv sc tx cd se ro st qa qb qd lo re cr nu ha t (by first | assumption | omega | decide) p (by first | assumption | omega | decide) (45 : Int32)) mfX6_takes gX6_readNumber_X6_takes rfl (Nat.le_of_ble_eq_true rfl) (Nat.le_of_ble_eq_true rfl) (Nat.le_of_ble_eq_true rfl) (Nat.le_of_ble_eq_true rfl) [0, 1, 2, 3, 4, 5, 6] rfl rfl 0 rfl rfl rfl rfl (Nat.le_of_ble_eq_true rfl) dX6_readNumber_7 ?_
    rintro _ _ ⟨rfl, rfl⟩
    refine ⟨rfl, ?_⟩
    refine j_w (w' := (wMo D h m sp sv sc tx (nI t) cd se ro st qa qb qd lo re cr (nI (if rh tx t p = (45 : Int32) then p + 1 else p)) nu ha)) rfl ?_
    refine j_bif_eq C dX6_readNumber_10 (tgt := 17) (by decide) (fun h10 => ?_) (fun h10 => ?_)
    · have hn45 := of_decide_eq_false h10
      rw [if_neg hn45]
      refine j_iconst C (v := (0 : Int32)) dX6_readNumber_17 rfl ?_
      refine j_istore C dX6_readNumber_18 (by decide) (lv' := [(5, .int (0 : Int32)), (0, .ref (h 0)), (1, .int (nI dg)), (2, .int l0), (3, .int g0), (4, .int b0)]) rfl ?_
      refine j_aload_n C 1 dX6_readNumber_20 rfl rfl ?_
      refine j_get C 0 fgX6_readNumber_178 rfl rfl dX6_readNumber_21 ?_
      refine j_istore C dX6_readNumber_24 (by decide) (lv' := [(6, .int (nI p)), (5, .int (0 : Int32)), (0, .ref (h 0)), (1, .int (nI dg)), (2, .int l0), (3, .int g0), (4, .int b0)]) rfl ?_
      refine j_aload_n C 2 dX6_readNumber_26 rfl rfl ?_
      refine j_iconst C (v := (0 : Int32)) dX6_readNumber_27 rfl ?_
      refine j_put C 0 foX6_readNumber_187 rfl (w' := (wMo D h m sp sv sc tx (nI t) cd se ro st qa qb qd lo re cr (nI p) (0 : Int32) ha)) rfl rfl rfl (Nat.le_of_ble_eq_true rfl) dX6_readNumber_28 ?_
      obtain ⟨R, hRf⟩ : ∃ R, dgs tx t dg (p) 0 = R := ⟨_, rfl⟩
      have hRl := dgs_le (tx := tx) (t := t) dg (p) 0 (by omega)
      rw [hRf] at hRl
      have hrN : rN tx t p dg l0 g0 b0 = rNe tx t false (p) R l0 g0 b0 := by rw [← hRf]; exact rN_of (mi := false) (by rw [decide_eq_false hn45, Bool.and_false])
      have hend : J D X (wMo D h m sp sv sc tx (nI t) cd se ro st qa qb qd lo re cr (nI R.1) R.2 ha) 0 0 88 [(6, .int (nI p)), (5, .int (0 : Int32)), (4, .int b0), (3, .int g0), (2, .int l0), (1, .int (nI dg)), (0, .ref (h 0))] [] := by
        refine j_aload_n C 6 dX6_readNumber_88 rfl rfl ?_
        refine j_get C 0 fgX6_readNumber_178 rfl rfl dX6_readNumber_89 ?_
        refine j_iload C 0 dX6_readNumber_92 rfl ?_
        refine j_icmp_eq C dX6_readNumber_94 (tgt := 111) (by decide) (fun h94 => ?_) (fun h94 => ?_)
        · refine j_iconst C (v := (0 : Int32)) dX6_readNumber_111 rfl ?_
          exact ret dX6_readNumber_112 (Or.inl rfl) (⟨by rw [hrN, rNe_1 (Or.inl ((nI_eq (by omega) (by omega)).mp h94))]; rfl, by rw [hrN, rNe_1 (Or.inl ((nI_eq (by omega) (by omega)).mp h94))]⟩)
        · refine j_aload_n C 6 dX6_readNumber_97 rfl rfl ?_
          refine j_cv_i C (As := []) (rest := []) (ctX6_here (xl X) D h m sp sv sc tx cd se ro st qa qb qd lo re cr R.2 ha t (by first | assumption | omega | decide) R.1 (by first | assumption | omega | decide)) mfX6_here gX6_readNumber_X6_here rfl (Nat.le_of_ble_eq_true rfl) (Nat.le_of_ble_eq_true rfl) (Nat.le_of_ble_eq_true rfl) (Nat.le_of_ble_eq_true rfl) [0, 1, 2, 3, 4, 5, 6] rfl rfl 0 rfl rfl rfl rfl (Nat.le_of_ble_eq_true rfl) dX6_readNumber_98 ?_
          rintro _ _ ⟨rfl, rfl⟩
          refine ⟨rfl, ?_⟩
          refine j_w (w' := (wMo D h m sp sv sc tx (nI t) cd se ro st qa qb qd lo re cr (nI R.1) R.2 ha)) rfl ?_
          refine j_bipush C (v := (48 : Int32)) dX6_readNumber_101 rfl ?_
          refine j_bipush C (v := (57 : Int32)) dX6_readNumber_103 rfl ?_
          refine j_cs_i C (As := [.int (rh tx t R.1), .int (48 : Int32), .int (57 : Int32)]) (rest := []) (ctX6_in (xl X) D (rh tx t R.1) (48 : Int32) (57 : Int32)) mfX6_in gX6_readNumber_X6_in rfl (Nat.le_of_ble_eq_true rfl) (Nat.le_of_ble_eq_true rfl) (Nat.le_of_ble_eq_true rfl) (Nat.le_of_ble_eq_true rfl) [] rfl rfl rfl (Nat.le_of_ble_eq_true rfl) dX6_readNumber_105 ?_
          rintro _ _ ⟨rfl, rfl⟩
          refine ⟨rfl, ?_⟩
          refine j_w (w' := (wMo D h m sp sv sc tx (nI t) cd se ro st qa qb qd lo re cr (nI R.1) R.2 ha)) rfl ?_
          refine j_bif_eq C dX6_readNumber_108 (tgt := 113) (by decide) (fun h108 => ?_) (fun h108 => ?_)
          · refine j_aload_n C 6 dX6_readNumber_113 rfl rfl ?_
            refine j_iload C 1 dX6_readNumber_114 rfl ?_
            refine j_if_eq C dX6_readNumber_116 (tgt := 127) (by decide) (fun _ => ?_) (fun h => absurd (by decide) h)
            refine j_aload_n C 6 dX6_readNumber_127 rfl rfl ?_
            refine j_get C 0 fgX6_readNumber_187 rfl rfl dX6_readNumber_128 ?_
            refine j_eqi (y := sgn false R.2) rfl ?_
            refine j_put C 0 foX6_readNumber_187 rfl (w' := (wMo D h m sp sv sc tx (nI t) cd se ro st qa qb qd lo re cr (nI R.1) (sgn false R.2) ha)) rfl rfl rfl (Nat.le_of_ble_eq_true rfl) dX6_readNumber_131 ?_
            refine j_aload_n C 6 dX6_readNumber_134 rfl rfl ?_
            refine j_get C 0 fgX6_readNumber_187 rfl rfl dX6_readNumber_135 ?_
            refine j_iload_n C 4 dX6_readNumber_138 rfl rfl ?_
            refine j_iload_n C 3 dX6_readNumber_139 rfl rfl ?_
            refine j_cs_i C (As := [.int (sgn false R.2), .int l0, .int g0]) (rest := []) (ctX6_in (xl X) D (sgn false R.2) l0 g0) mfX6_in gX6_readNumber_X6_in rfl (Nat.le_of_ble_eq_true rfl) (Nat.le_of_ble_eq_true rfl) (Nat.le_of_ble_eq_true rfl) (Nat.le_of_ble_eq_true rfl) [] rfl rfl rfl (Nat.le_of_ble_eq_true rfl) dX6_readNumber_140 ?_
            rintro _ _ ⟨rfl, rfl⟩
            refine ⟨rfl, ?_⟩
            refine j_w (w' := (wMo D h m sp sv sc tx (nI t) cd se ro st qa qb qd lo re cr (nI R.1) (sgn false R.2) ha)) rfl ?_
            refine j_bif_ne C dX6_readNumber_143 (tgt := 154) (by decide) (fun h143 => ?_) (fun h143 => ?_)
            · refine j_aload_n C 6 dX6_readNumber_154 rfl rfl ?_
              refine j_iload C 2 dX6_readNumber_155 rfl ?_
              refine j_cv_i C (As := [.int b0]) (rest := []) (ctX6_takes (xl X) D h m sp sv sc tx cd se ro st qa qb qd lo re cr (sgn false R.2) ha t (by first | assumption | omega | decide) R.1 (by first | assumption | omega | decide) b0) mfX6_takes gX6_readNumber_X6_takes rfl (Nat.le_of_ble_eq_true rfl) (Nat.le_of_ble_eq_true rfl) (Nat.le_of_ble_eq_true rfl) (Nat.le_of_ble_eq_true rfl) [0, 1, 2, 3, 4, 5, 6] rfl rfl 0 rfl rfl rfl rfl (Nat.le_of_ble_eq_true rfl) dX6_readNumber_157 ?_
              rintro _ _ ⟨rfl, rfl⟩
              refine ⟨rfl, ?_⟩
              refine j_w (w' := (wMo D h m sp sv sc tx (nI t) cd se ro st qa qb qd lo re cr (nI (if rh tx t R.1 = b0 then R.1 + 1 else R.1)) (sgn false R.2) ha)) rfl ?_
              exact ret dX6_readNumber_160 (bI_01 _) (⟨by rw [hrN, rNe_3 (fun z => h94 (by rw [z])) h108 h143], by rw [hrN, rNe_3 (fun z => h94 (by rw [z])) h108 h143]⟩)
            · refine j_aload_n C 6 dX6_readNumber_146 rfl rfl ?_
              refine j_iload C 0 dX6_readNumber_147 rfl ?_
              refine j_put C 0 foX6_readNumber_178 rfl (w' := (wMo D h m sp sv sc tx (nI t) cd se ro st qa qb qd lo re cr (nI p) (sgn false R.2) ha)) rfl rfl rfl (Nat.le_of_ble_eq_true rfl) dX6_readNumber_149 ?_
              refine j_iconst C (v := (0 : Int32)) dX6_readNumber_152 rfl ?_
              exact ret dX6_readNumber_153 (Or.inl rfl) (⟨by rw [hrN, rNe_2 (fun z => h94 (by rw [z])) h108 h143]; rfl, by rw [hrN, rNe_2 (fun z => h94 (by rw [z])) h108 h143]⟩)
          · refine j_iconst C (v := (0 : Int32)) dX6_readNumber_111 rfl ?_
            exact ret dX6_readNumber_112 (Or.inl rfl) (⟨by rw [hrN, rNe_1 (Or.inr h108)]; rfl, by rw [hrN, rNe_1 (Or.inr h108)]⟩)
      have key : ∀ (k q1 : Nat) (v1 : Int32), q1 + k = p + dg → q1 ≤ t → dgs tx t k q1 v1 = R → J D X (wMo D h m sp sv sc tx (nI t) cd se ro st qa qb qd lo re cr (nI q1) v1 ha) 0 0 31 [(6, .int (nI p)), (5, .int (0 : Int32)), (4, .int b0), (3, .int g0), (2, .int l0), (1, .int (nI dg)), (0, .ref (h 0))] [] := by
        intro k
        induction k with
        | zero =>
          intro q1 v1 hk hq hres
          obtain rfl : R = (q1, v1) := hres.symm
          refine j_aload_n C 6 dX6_readNumber_31 rfl rfl ?_
          refine j_get C 0 fgX6_readNumber_178 rfl rfl dX6_readNumber_32 ?_
          refine j_iload C 0 dX6_readNumber_35 rfl ?_
          refine j_iload_n C 5 dX6_readNumber_37 rfl rfl ?_
          refine j_iadd C dX6_readNumber_38 ?_
          refine j_eqi (y := nI (p + dg)) (nI_add p dg) ?_
          refine j_icmp_ge C dX6_readNumber_39 (tgt := 88) (by decide) (fun _ => ?_) (fun h => absurd (nI_le (by omega) (by omega)) h)
          refine j_sub [0, 1, 2, 3, 4, 5, 6] (lv' := [(6, .int (nI p)), (5, .int (0 : Int32)), (4, .int b0), (3, .int g0), (2, .int l0), (1, .int (nI dg)), (0, .ref (h 0))]) rfl ?_
          exact hend
        | succ k ih =>
          intro q1 v1 hk hq hres
          refine j_aload_n C 6 dX6_readNumber_31 rfl rfl ?_
          refine j_get C 0 fgX6_readNumber_178 rfl rfl dX6_readNumber_32 ?_
          refine j_iload C 0 dX6_readNumber_35 rfl ?_
          refine j_iload_n C 5 dX6_readNumber_37 rfl rfl ?_
          refine j_iadd C dX6_readNumber_38 ?_
          refine j_eqi (y := nI (p + dg)) (nI_add p dg) ?_
          refine j_icmp_ge C dX6_readNumber_39 (tgt := 88) (by decide) (fun h => absurd h (nI_ge (by omega) (by omega))) (fun _ => ?_)
          refine j_aload_n C 6 dX6_readNumber_42 rfl rfl ?_
          refine j_cv_i C (As := []) (rest := []) (ctX6_here (xl X) D h m sp sv sc tx cd se ro st qa qb qd lo re cr v1 ha t (by first | assumption | omega | decide) q1 (by first | assumption | omega | decide)) mfX6_here gX6_readNumber_X6_here rfl (Nat.le_of_ble_eq_true rfl) (Nat.le_of_ble_eq_true rfl) (Nat.le_of_ble_eq_true rfl) (Nat.le_of_ble_eq_true rfl) [0, 1, 2, 3, 4, 5, 6] rfl rfl 0 rfl rfl rfl rfl (Nat.le_of_ble_eq_true rfl) dX6_readNumber_43 ?_
          rintro _ _ ⟨rfl, rfl⟩
          refine ⟨rfl, ?_⟩
          refine j_w (w' := (wMo D h m sp sv sc tx (nI t) cd se ro st qa qb qd lo re cr (nI q1) v1 ha)) rfl ?_
          refine j_bipush C (v := (48 : Int32)) dX6_readNumber_46 rfl ?_
          refine j_bipush C (v := (57 : Int32)) dX6_readNumber_48 rfl ?_
          refine j_cs_i C (As := [.int (rh tx t q1), .int (48 : Int32), .int (57 : Int32)]) (rest := []) (ctX6_in (xl X) D (rh tx t q1) (48 : Int32) (57 : Int32)) mfX6_in gX6_readNumber_X6_in rfl (Nat.le_of_ble_eq_true rfl) (Nat.le_of_ble_eq_true rfl) (Nat.le_of_ble_eq_true rfl) (Nat.le_of_ble_eq_true rfl) [] rfl rfl rfl (Nat.le_of_ble_eq_true rfl) dX6_readNumber_50 ?_
          rintro _ _ ⟨rfl, rfl⟩
          refine ⟨rfl, ?_⟩
          refine j_w (w' := (wMo D h m sp sv sc tx (nI t) cd se ro st qa qb qd lo re cr (nI q1) v1 ha)) rfl ?_
          refine j_bif_eq C dX6_readNumber_53 (tgt := 88) (by decide) (fun h53 => ?_) (fun h53 => ?_)
          · refine j_sub [0, 1, 2, 3, 4, 5, 6] (lv' := [(6, .int (nI p)), (5, .int (0 : Int32)), (4, .int b0), (3, .int g0), (2, .int l0), (1, .int (nI dg)), (0, .ref (h 0))]) rfl ?_
            obtain rfl : R = (q1, v1) := by rw [← hres, dgs_f h53]
            exact hend
          · refine j_aload_n C 6 dX6_readNumber_56 rfl rfl ?_
            refine j_bipush C (v := (10 : Int32)) dX6_readNumber_57 rfl ?_
            refine j_aload_n C 6 dX6_readNumber_59 rfl rfl ?_
            refine j_get C 0 fgX6_readNumber_187 rfl rfl dX6_readNumber_60 ?_
            refine j_imul C dX6_readNumber_63 ?_
            refine j_aload_n C 6 dX6_readNumber_64 rfl rfl ?_
            refine j_cv_i C (As := []) (rest := [.int ((10 : Int32) * v1), .ref (h 0)]) (ctX6_here (xl X) D h m sp sv sc tx cd se ro st qa qb qd lo re cr v1 ha t (by first | assumption | omega | decide) q1 (by first | assumption | omega | decide)) mfX6_here gX6_readNumber_X6_here rfl (Nat.le_of_ble_eq_true rfl) (Nat.le_of_ble_eq_true rfl) (Nat.le_of_ble_eq_true rfl) (Nat.le_of_ble_eq_true rfl) [0, 1, 2, 3, 4, 5, 6] rfl rfl 0 rfl rfl rfl rfl (Nat.le_of_ble_eq_true rfl) dX6_readNumber_65 ?_
            rintro _ _ ⟨rfl, rfl⟩
            refine ⟨rfl, ?_⟩
            refine j_w (w' := (wMo D h m sp sv sc tx (nI t) cd se ro st qa qb qd lo re cr (nI q1) v1 ha)) rfl ?_
            refine j_iadd C dX6_readNumber_68 ?_
            refine j_bipush C (v := (48 : Int32)) dX6_readNumber_69 rfl ?_
            refine j_isub C dX6_readNumber_71 ?_
            refine j_put C 0 foX6_readNumber_187 rfl (w' := (wMo D h m sp sv sc tx (nI t) cd se ro st qa qb qd lo re cr (nI q1) ((((10 : Int32) * v1) + (rh tx t q1)) - (48 : Int32)) ha)) rfl rfl rfl (Nat.le_of_ble_eq_true rfl) dX6_readNumber_72 ?_
            refine j_aload_n C 6 dX6_readNumber_75 rfl rfl ?_
            refine j_dup C dX6_readNumber_76 rfl ?_
            refine j_get C 0 fgX6_readNumber_178 rfl rfl dX6_readNumber_77 ?_
            refine j_iconst C (v := (1 : Int32)) dX6_readNumber_80 rfl ?_
            refine j_iadd C dX6_readNumber_81 ?_
            refine j_eqi (y := nI (q1 + 1)) (nI_add q1 1) ?_
            refine j_put C 0 foX6_readNumber_178 rfl (w' := (wMo D h m sp sv sc tx (nI t) cd se ro st qa qb qd lo re cr (nI (q1 + 1)) ((((10 : Int32) * v1) + (rh tx t q1)) - (48 : Int32)) ha)) rfl rfl rfl (Nat.le_of_ble_eq_true rfl) dX6_readNumber_82 ?_
            refine j_goto C dX6_readNumber_85 (tgt := 31) (by decide) ?_
            refine j_sub [0, 1, 2, 3, 4, 5, 6] (lv' := [(6, .int (nI p)), (5, .int (0 : Int32)), (4, .int b0), (3, .int g0), (2, .int l0), (1, .int (nI dg)), (0, .ref (h 0))]) rfl ?_
            exact ih (q1 + 1) _ (by omega) (pIn_lt h53) (by rw [← hres, dgs_t h53])
      refine j_sub [0, 1, 6, 5, 4, 3, 2] (lv' := [(6, .int (nI p)), (5, .int (0 : Int32)), (4, .int b0), (3, .int g0), (2, .int l0), (1, .int (nI dg)), (0, .ref (h 0))]) rfl ?_
      exact key dg (p) 0 rfl (by omega) hRf
    · have h45 := of_decide_eq_true h10
      have hp1 : p < t := rh_lt h45 (by decide)
      rw [if_pos h45]
      refine j_iconst C (v := (1 : Int32)) dX6_readNumber_13 rfl ?_
      refine j_goto C dX6_readNumber_14 (tgt := 18) (by decide) ?_
      refine j_istore C dX6_readNumber_18 (by decide) (lv' := [(5, .int (1 : Int32)), (0, .ref (h 0)), (1, .int (nI dg)), (2, .int l0), (3, .int g0), (4, .int b0)]) rfl ?_
      refine j_aload_n C 1 dX6_readNumber_20 rfl rfl ?_
      refine j_get C 0 fgX6_readNumber_178 rfl rfl dX6_readNumber_21 ?_
      refine j_istore C dX6_readNumber_24 (by decide) (lv' := [(6, .int (nI (p + 1))), (5, .int (1 : Int32)), (0, .ref (h 0)), (1, .int (nI dg)), (2, .int l0), (3, .int g0), (4, .int b0)]) rfl ?_
      refine j_aload_n C 2 dX6_readNumber_26 rfl rfl ?_
      refine j_iconst C (v := (0 : Int32)) dX6_readNumber_27 rfl ?_
      refine j_put C 0 foX6_readNumber_187 rfl (w' := (wMo D h m sp sv sc tx (nI t) cd se ro st qa qb qd lo re cr (nI (p + 1)) (0 : Int32) ha)) rfl rfl rfl (Nat.le_of_ble_eq_true rfl) dX6_readNumber_28 ?_
      obtain ⟨R, hRf⟩ : ∃ R, dgs tx t dg (p + 1) 0 = R := ⟨_, rfl⟩
      have hRl := dgs_le (tx := tx) (t := t) dg (p + 1) 0 (by omega)
      rw [hRf] at hRl
      have hrN : rN tx t p dg l0 g0 b0 = rNe tx t true (p + 1) R l0 g0 b0 := by rw [← hRf]; exact rN_of (mi := true) (by rw [decide_eq_true (Int32.not_le.mp h1), decide_eq_true h45]; rfl)
      have hend : J D X (wMo D h m sp sv sc tx (nI t) cd se ro st qa qb qd lo re cr (nI R.1) R.2 ha) 0 0 88 [(6, .int (nI (p + 1))), (5, .int (1 : Int32)), (4, .int b0), (3, .int g0), (2, .int l0), (1, .int (nI dg)), (0, .ref (h 0))] [] := by
        refine j_aload_n C 6 dX6_readNumber_88 rfl rfl ?_
        refine j_get C 0 fgX6_readNumber_178 rfl rfl dX6_readNumber_89 ?_
        refine j_iload C 0 dX6_readNumber_92 rfl ?_
        refine j_icmp_eq C dX6_readNumber_94 (tgt := 111) (by decide) (fun h94 => ?_) (fun h94 => ?_)
        · refine j_iconst C (v := (0 : Int32)) dX6_readNumber_111 rfl ?_
          exact ret dX6_readNumber_112 (Or.inl rfl) (⟨by rw [hrN, rNe_1 (Or.inl ((nI_eq (by omega) (by omega)).mp h94))]; rfl, by rw [hrN, rNe_1 (Or.inl ((nI_eq (by omega) (by omega)).mp h94))]⟩)
        · refine j_aload_n C 6 dX6_readNumber_97 rfl rfl ?_
          refine j_cv_i C (As := []) (rest := []) (ctX6_here (xl X) D h m sp sv sc tx cd se ro st qa qb qd lo re cr R.2 ha t (by first | assumption | omega | decide) R.1 (by first | assumption | omega | decide)) mfX6_here gX6_readNumber_X6_here rfl (Nat.le_of_ble_eq_true rfl) (Nat.le_of_ble_eq_true rfl) (Nat.le_of_ble_eq_true rfl) (Nat.le_of_ble_eq_true rfl) [0, 1, 2, 3, 4, 5, 6] rfl rfl 0 rfl rfl rfl rfl (Nat.le_of_ble_eq_true rfl) dX6_readNumber_98 ?_
          rintro _ _ ⟨rfl, rfl⟩
          refine ⟨rfl, ?_⟩
          refine j_w (w' := (wMo D h m sp sv sc tx (nI t) cd se ro st qa qb qd lo re cr (nI R.1) R.2 ha)) rfl ?_
          refine j_bipush C (v := (48 : Int32)) dX6_readNumber_101 rfl ?_
          refine j_bipush C (v := (57 : Int32)) dX6_readNumber_103 rfl ?_
          refine j_cs_i C (As := [.int (rh tx t R.1), .int (48 : Int32), .int (57 : Int32)]) (rest := []) (ctX6_in (xl X) D (rh tx t R.1) (48 : Int32) (57 : Int32)) mfX6_in gX6_readNumber_X6_in rfl (Nat.le_of_ble_eq_true rfl) (Nat.le_of_ble_eq_true rfl) (Nat.le_of_ble_eq_true rfl) (Nat.le_of_ble_eq_true rfl) [] rfl rfl rfl (Nat.le_of_ble_eq_true rfl) dX6_readNumber_105 ?_
          rintro _ _ ⟨rfl, rfl⟩
          refine ⟨rfl, ?_⟩
          refine j_w (w' := (wMo D h m sp sv sc tx (nI t) cd se ro st qa qb qd lo re cr (nI R.1) R.2 ha)) rfl ?_
          refine j_bif_eq C dX6_readNumber_108 (tgt := 113) (by decide) (fun h108 => ?_) (fun h108 => ?_)
          · refine j_aload_n C 6 dX6_readNumber_113 rfl rfl ?_
            refine j_iload C 1 dX6_readNumber_114 rfl ?_
            refine j_if_eq C dX6_readNumber_116 (tgt := 127) (by decide) (fun h => absurd h (by decide)) (fun _ => ?_)
            refine j_aload_n C 6 dX6_readNumber_119 rfl rfl ?_
            refine j_get C 0 fgX6_readNumber_187 rfl rfl dX6_readNumber_120 ?_
            refine j_ineg C dX6_readNumber_123 ?_
            refine j_goto C dX6_readNumber_124 (tgt := 131) (by decide) ?_
            refine j_eqi (y := sgn true R.2) rfl ?_
            refine j_put C 0 foX6_readNumber_187 rfl (w' := (wMo D h m sp sv sc tx (nI t) cd se ro st qa qb qd lo re cr (nI R.1) (sgn true R.2) ha)) rfl rfl rfl (Nat.le_of_ble_eq_true rfl) dX6_readNumber_131 ?_
            refine j_aload_n C 6 dX6_readNumber_134 rfl rfl ?_
            refine j_get C 0 fgX6_readNumber_187 rfl rfl dX6_readNumber_135 ?_
            refine j_iload_n C 4 dX6_readNumber_138 rfl rfl ?_
            refine j_iload_n C 3 dX6_readNumber_139 rfl rfl ?_
            refine j_cs_i C (As := [.int (sgn true R.2), .int l0, .int g0]) (rest := []) (ctX6_in (xl X) D (sgn true R.2) l0 g0) mfX6_in gX6_readNumber_X6_in rfl (Nat.le_of_ble_eq_true rfl) (Nat.le_of_ble_eq_true rfl) (Nat.le_of_ble_eq_true rfl) (Nat.le_of_ble_eq_true rfl) [] rfl rfl rfl (Nat.le_of_ble_eq_true rfl) dX6_readNumber_140 ?_
            rintro _ _ ⟨rfl, rfl⟩
            refine ⟨rfl, ?_⟩
            refine j_w (w' := (wMo D h m sp sv sc tx (nI t) cd se ro st qa qb qd lo re cr (nI R.1) (sgn true R.2) ha)) rfl ?_
            refine j_bif_ne C dX6_readNumber_143 (tgt := 154) (by decide) (fun h143 => ?_) (fun h143 => ?_)
            · refine j_aload_n C 6 dX6_readNumber_154 rfl rfl ?_
              refine j_iload C 2 dX6_readNumber_155 rfl ?_
              refine j_cv_i C (As := [.int b0]) (rest := []) (ctX6_takes (xl X) D h m sp sv sc tx cd se ro st qa qb qd lo re cr (sgn true R.2) ha t (by first | assumption | omega | decide) R.1 (by first | assumption | omega | decide) b0) mfX6_takes gX6_readNumber_X6_takes rfl (Nat.le_of_ble_eq_true rfl) (Nat.le_of_ble_eq_true rfl) (Nat.le_of_ble_eq_true rfl) (Nat.le_of_ble_eq_true rfl) [0, 1, 2, 3, 4, 5, 6] rfl rfl 0 rfl rfl rfl rfl (Nat.le_of_ble_eq_true rfl) dX6_readNumber_157 ?_
              rintro _ _ ⟨rfl, rfl⟩
              refine ⟨rfl, ?_⟩
              refine j_w (w' := (wMo D h m sp sv sc tx (nI t) cd se ro st qa qb qd lo re cr (nI (if rh tx t R.1 = b0 then R.1 + 1 else R.1)) (sgn true R.2) ha)) rfl ?_
              exact ret dX6_readNumber_160 (bI_01 _) (⟨by rw [hrN, rNe_3 (fun z => h94 (by rw [z])) h108 h143], by rw [hrN, rNe_3 (fun z => h94 (by rw [z])) h108 h143]⟩)
            · refine j_aload_n C 6 dX6_readNumber_146 rfl rfl ?_
              refine j_iload C 0 dX6_readNumber_147 rfl ?_
              refine j_put C 0 foX6_readNumber_178 rfl (w' := (wMo D h m sp sv sc tx (nI t) cd se ro st qa qb qd lo re cr (nI (p + 1)) (sgn true R.2) ha)) rfl rfl rfl (Nat.le_of_ble_eq_true rfl) dX6_readNumber_149 ?_
              refine j_iconst C (v := (0 : Int32)) dX6_readNumber_152 rfl ?_
              exact ret dX6_readNumber_153 (Or.inl rfl) (⟨by rw [hrN, rNe_2 (fun z => h94 (by rw [z])) h108 h143]; rfl, by rw [hrN, rNe_2 (fun z => h94 (by rw [z])) h108 h143]⟩)
          · refine j_iconst C (v := (0 : Int32)) dX6_readNumber_111 rfl ?_
            exact ret dX6_readNumber_112 (Or.inl rfl) (⟨by rw [hrN, rNe_1 (Or.inr h108)]; rfl, by rw [hrN, rNe_1 (Or.inr h108)]⟩)
      have key : ∀ (k q1 : Nat) (v1 : Int32), q1 + k = p + 1 + dg → q1 ≤ t → dgs tx t k q1 v1 = R → J D X (wMo D h m sp sv sc tx (nI t) cd se ro st qa qb qd lo re cr (nI q1) v1 ha) 0 0 31 [(6, .int (nI (p + 1))), (5, .int (1 : Int32)), (4, .int b0), (3, .int g0), (2, .int l0), (1, .int (nI dg)), (0, .ref (h 0))] [] := by
        intro k
        induction k with
        | zero =>
          intro q1 v1 hk hq hres
          obtain rfl : R = (q1, v1) := hres.symm
          refine j_aload_n C 6 dX6_readNumber_31 rfl rfl ?_
          refine j_get C 0 fgX6_readNumber_178 rfl rfl dX6_readNumber_32 ?_
          refine j_iload C 0 dX6_readNumber_35 rfl ?_
          refine j_iload_n C 5 dX6_readNumber_37 rfl rfl ?_
          refine j_iadd C dX6_readNumber_38 ?_
          refine j_eqi (y := nI ((p + 1) + dg)) (nI_add (p + 1) dg) ?_
          refine j_icmp_ge C dX6_readNumber_39 (tgt := 88) (by decide) (fun _ => ?_) (fun h => absurd (nI_le (by omega) (by omega)) h)
          refine j_sub [0, 1, 2, 3, 4, 5, 6] (lv' := [(6, .int (nI (p + 1))), (5, .int (1 : Int32)), (4, .int b0), (3, .int g0), (2, .int l0), (1, .int (nI dg)), (0, .ref (h 0))]) rfl ?_
          exact hend
        | succ k ih =>
          intro q1 v1 hk hq hres
          refine j_aload_n C 6 dX6_readNumber_31 rfl rfl ?_
          refine j_get C 0 fgX6_readNumber_178 rfl rfl dX6_readNumber_32 ?_
          refine j_iload C 0 dX6_readNumber_35 rfl ?_
          refine j_iload_n C 5 dX6_readNumber_37 rfl rfl ?_
          refine j_iadd C dX6_readNumber_38 ?_
          refine j_eqi (y := nI ((p + 1) + dg)) (nI_add (p + 1) dg) ?_
          refine j_icmp_ge C dX6_readNumber_39 (tgt := 88) (by decide) (fun h => absurd h (nI_ge (by omega) (by omega))) (fun _ => ?_)
          refine j_aload_n C 6 dX6_readNumber_42 rfl rfl ?_
          refine j_cv_i C (As := []) (rest := []) (ctX6_here (xl X) D h m sp sv sc tx cd se ro st qa qb qd lo re cr v1 ha t (by first | assumption | omega | decide) q1 (by first | assumption | omega | decide)) mfX6_here gX6_readNumber_X6_here rfl (Nat.le_of_ble_eq_true rfl) (Nat.le_of_ble_eq_true rfl) (Nat.le_of_ble_eq_true rfl) (Nat.le_of_ble_eq_true rfl) [0, 1, 2, 3, 4, 5, 6] rfl rfl 0 rfl rfl rfl rfl (Nat.le_of_ble_eq_true rfl) dX6_readNumber_43 ?_
          rintro _ _ ⟨rfl, rfl⟩
          refine ⟨rfl, ?_⟩
          refine j_w (w' := (wMo D h m sp sv sc tx (nI t) cd se ro st qa qb qd lo re cr (nI q1) v1 ha)) rfl ?_
          refine j_bipush C (v := (48 : Int32)) dX6_readNumber_46 rfl ?_
          refine j_bipush C (v := (57 : Int32)) dX6_readNumber_48 rfl ?_
          refine j_cs_i C (As := [.int (rh tx t q1), .int (48 : Int32), .int (57 : Int32)]) (rest := []) (ctX6_in (xl X) D (rh tx t q1) (48 : Int32) (57 : Int32)) mfX6_in gX6_readNumber_X6_in rfl (Nat.le_of_ble_eq_true rfl) (Nat.le_of_ble_eq_true rfl) (Nat.le_of_ble_eq_true rfl) (Nat.le_of_ble_eq_true rfl) [] rfl rfl rfl (Nat.le_of_ble_eq_true rfl) dX6_readNumber_50 ?_
          rintro _ _ ⟨rfl, rfl⟩
          refine ⟨rfl, ?_⟩
          refine j_w (w' := (wMo D h m sp sv sc tx (nI t) cd se ro st qa qb qd lo re cr (nI q1) v1 ha)) rfl ?_
          refine j_bif_eq C dX6_readNumber_53 (tgt := 88) (by decide) (fun h53 => ?_) (fun h53 => ?_)
          · refine j_sub [0, 1, 2, 3, 4, 5, 6] (lv' := [(6, .int (nI (p + 1))), (5, .int (1 : Int32)), (4, .int b0), (3, .int g0), (2, .int l0), (1, .int (nI dg)), (0, .ref (h 0))]) rfl ?_
            obtain rfl : R = (q1, v1) := by rw [← hres, dgs_f h53]
            exact hend
          · refine j_aload_n C 6 dX6_readNumber_56 rfl rfl ?_
            refine j_bipush C (v := (10 : Int32)) dX6_readNumber_57 rfl ?_
            refine j_aload_n C 6 dX6_readNumber_59 rfl rfl ?_
            refine j_get C 0 fgX6_readNumber_187 rfl rfl dX6_readNumber_60 ?_
            refine j_imul C dX6_readNumber_63 ?_
            refine j_aload_n C 6 dX6_readNumber_64 rfl rfl ?_
            refine j_cv_i C (As := []) (rest := [.int ((10 : Int32) * v1), .ref (h 0)]) (ctX6_here (xl X) D h m sp sv sc tx cd se ro st qa qb qd lo re cr v1 ha t (by first | assumption | omega | decide) q1 (by first | assumption | omega | decide)) mfX6_here gX6_readNumber_X6_here rfl (Nat.le_of_ble_eq_true rfl) (Nat.le_of_ble_eq_true rfl) (Nat.le_of_ble_eq_true rfl) (Nat.le_of_ble_eq_true rfl) [0, 1, 2, 3, 4, 5, 6] rfl rfl 0 rfl rfl rfl rfl (Nat.le_of_ble_eq_true rfl) dX6_readNumber_65 ?_
            rintro _ _ ⟨rfl, rfl⟩
            refine ⟨rfl, ?_⟩
            refine j_w (w' := (wMo D h m sp sv sc tx (nI t) cd se ro st qa qb qd lo re cr (nI q1) v1 ha)) rfl ?_
            refine j_iadd C dX6_readNumber_68 ?_
            refine j_bipush C (v := (48 : Int32)) dX6_readNumber_69 rfl ?_
            refine j_isub C dX6_readNumber_71 ?_
            refine j_put C 0 foX6_readNumber_187 rfl (w' := (wMo D h m sp sv sc tx (nI t) cd se ro st qa qb qd lo re cr (nI q1) ((((10 : Int32) * v1) + (rh tx t q1)) - (48 : Int32)) ha)) rfl rfl rfl (Nat.le_of_ble_eq_true rfl) dX6_readNumber_72 ?_
            refine j_aload_n C 6 dX6_readNumber_75 rfl rfl ?_
            refine j_dup C dX6_readNumber_76 rfl ?_
            refine j_get C 0 fgX6_readNumber_178 rfl rfl dX6_readNumber_77 ?_
            refine j_iconst C (v := (1 : Int32)) dX6_readNumber_80 rfl ?_
            refine j_iadd C dX6_readNumber_81 ?_
            refine j_eqi (y := nI (q1 + 1)) (nI_add q1 1) ?_
            refine j_put C 0 foX6_readNumber_178 rfl (w' := (wMo D h m sp sv sc tx (nI t) cd se ro st qa qb qd lo re cr (nI (q1 + 1)) ((((10 : Int32) * v1) + (rh tx t q1)) - (48 : Int32)) ha)) rfl rfl rfl (Nat.le_of_ble_eq_true rfl) dX6_readNumber_82 ?_
            refine j_goto C dX6_readNumber_85 (tgt := 31) (by decide) ?_
            refine j_sub [0, 1, 2, 3, 4, 5, 6] (lv' := [(6, .int (nI (p + 1))), (5, .int (1 : Int32)), (4, .int b0), (3, .int g0), (2, .int l0), (1, .int (nI dg)), (0, .ref (h 0))]) rfl ?_
            exact ih (q1 + 1) _ (by omega) (pIn_lt h53) (by rw [← hres, dgs_t h53])
      refine j_sub [0, 1, 6, 5, 4, 3, 2] (lv' := [(6, .int (nI (p + 1))), (5, .int (1 : Int32)), (4, .int b0), (3, .int g0), (2, .int l0), (1, .int (nI dg)), (0, .ref (h 0))]) rfl ?_
      exact key dg (p + 1) 0 rfl (by omega) hRf
