set_option maxRecDepth 100000 in
set_option maxHeartbeats 4000000 in
theorem ctX6_in (l : Launch) (D : KD) (x l0 g : Int32) : MI l D yX6_in wsX6_in 0 0 0 0 [.int x, .int l0, .int g] [] (fun r w1 => r = bI (pIn x l0 g) ∧ w1 = []) := by
  refine MI.ofz (cc := cX6_in) (nL := 3) (lv0 := [(0, .int x), (1, .int l0), (2, .int g)]) (by decide +kernel) rfl (Nat.le_of_ble_eq_true rfl) rfl ?_
  intro X hXl hin C ret
  subst hXl
  refine j_iload_n C 0 dX6_in_0 rfl rfl ?_
  refine j_iload_n C 1 dX6_in_1 rfl rfl ?_
  refine j_icmp_lt C dX6_in_2 (tgt := 14) (by decide) (fun h2 => ?_) (fun h2 => ?_)
  · have h2' := Int32.not_le.mpr h2
    refine j_iconst C (v := (0 : Int32)) dX6_in_14 rfl ?_
    exact ret dX6_in_15 (Or.inl rfl) (⟨by simp [bI, pIn, h2, h2'], rfl⟩)
  · have h2' := Int32.not_lt.mp h2
    refine j_iload_n C 0 dX6_in_5 rfl rfl ?_
    refine j_iload_n C 2 dX6_in_6 rfl rfl ?_
    refine j_icmp_gt C dX6_in_7 (tgt := 14) (by decide) (fun h7 => ?_) (fun h7 => ?_)
    · have h7' := Int32.not_le.mpr h7
      refine j_iconst C (v := (0 : Int32)) dX6_in_14 rfl ?_
      exact ret dX6_in_15 (Or.inl rfl) (⟨by simp [bI, pIn, h2, h2', h7, h7'], rfl⟩)
    · have h7' := Int32.not_lt.mp h7
      refine j_iconst C (v := (1 : Int32)) dX6_in_10 rfl ?_
      refine j_goto C dX6_in_11 (tgt := 15) (by decide) ?_
      exact ret dX6_in_15 (Or.inr rfl) (⟨by simp [bI, pIn, h2, h2', h7, h7'], rfl⟩)

set_option maxRecDepth 100000 in
set_option maxHeartbeats 4000000 in
theorem ctX6_has (l : Launch) (D : KD) (x : Int32) (i : Nat) (hi : i < 32) : MI l D yX6_has wsX6_has 0 0 0 0 [.int x, .int (nI i)] [] (fun r w1 => r = bI (bt x i) ∧ w1 = []) := by
  refine MI.ofz (cc := cX6_has) (nL := 2) (lv0 := [(0, .int x), (1, .int (nI i))]) (by decide +kernel) rfl (Nat.le_of_ble_eq_true rfl) rfl ?_
  intro X hXl hin C ret
  subst hXl
  refine j_iload_n C 0 dX6_has_0 rfl rfl ?_
  refine j_iload_n C 1 dX6_has_1 rfl rfl ?_
  refine j_ishr C dX6_has_2 ?_
  refine j_iconst C (v := (1 : Int32)) dX6_has_3 rfl ?_
  refine j_iand C dX6_has_4 ?_
  refine j_eqi (y := bI (bt x i)) (m_sshr x hi) ?_
  refine j_iconst C (v := (1 : Int32)) dX6_has_5 rfl ?_
  refine j_icmp_ne C dX6_has_6 (tgt := 13) (by decide) (fun h6 => ?_) (fun h6 => ?_)
  · have hb : bt x i = false := by rw [bI_eq1] at h6; simpa using h6
    refine j_iconst C (v := (0 : Int32)) dX6_has_13 rfl ?_
    exact ret dX6_has_14 (Or.inl rfl) (⟨by simp [bI, hb], rfl⟩)
  · have hb : bt x i = true := (bI_eq1 _).mp h6
    refine j_iconst C (v := (1 : Int32)) dX6_has_9 rfl ?_
    refine j_goto C dX6_has_10 (tgt := 14) (by decide) ?_
    exact ret dX6_has_14 (Or.inr rfl) (⟨by simp [bI, hb], rfl⟩)

set_option maxRecDepth 100000 in
set_option maxHeartbeats 4000000 in
theorem ctX6_bring (l : Launch) (D : KD) (x y N1 N2 p0 q0 : Nat) (f g : Nat → Int32) (h1 : p0 + 99 ≤ N1) (h2 : q0 + 99 ≤ N2) (h3 : N1 < 2 ^ 31) (h4 : N2 < 2 ^ 31) : MV l D yX6_bring wsX6_bring 0 0 0 0 [.ref x, .int (nI p0), .ref y, .int (nI q0)] (wAr D x N1 f ++ (wAr D y N2 g)) (fun w1 => w1 = wAr D x N1 f ++ wAr D y N2 (va_cpy f g p0 q0 99)) := by
  refine MV.of (cc := cX6_bring) (nL := 5) (lv0 := [(0, .ref x), (1, .int (nI p0)), (2, .ref y), (3, .int (nI q0))]) (by decide +kernel) rfl (Nat.le_of_ble_eq_true rfl) rfl ?_
  intro X hXl hin C ret
  subst hXl
  refine j_iconst C (v := (0 : Int32)) dX6_bring_0 rfl ?_
  refine j_istore C dX6_bring_1 (by decide) (lv' := [(4, .int (0 : Int32)), (0, .ref x), (1, .int (nI p0)), (2, .ref y), (3, .int (nI q0))]) rfl ?_
  have hl3 : ∀ i3, i3 ≤ 99 → ∀ (t3 : Nat → Int32), t3 = va_cpy f g p0 q0 i3 → J D X (wAr D x N1 f ++ (wAr D y N2 t3)) 0 0 3 [(4, .int (nI i3)), (0, .ref x), (1, .int (nI p0)), (2, .ref y), (3, .int (nI q0))] [] := by
    refine for_up (99) ?_ ?_
    · intro t3 ht3
      refine j_iload C 0 dX6_bring_3 rfl ?_
      refine j_bipush C (v := (99 : Int32)) dX6_bring_5 rfl ?_
      refine j_icmp_ge C dX6_bring_7 (tgt := 28) (by decide) (fun _ => ?_) (fun h => absurd (nI_le (Nat.le_refl 99) (by decide)) h)
      exact ret dX6_bring_28 (by subst ht3; rfl)
    · intro i3 hi3 ih3 t3 ht3
      refine j_iload C 0 dX6_bring_3 rfl ?_
      refine j_bipush C (v := (99 : Int32)) dX6_bring_5 rfl ?_
      refine j_icmp_ge C dX6_bring_7 (tgt := 28) (by decide) (fun h => absurd h (nI_ge hi3 (by decide))) (fun _ => ?_)
      refine j_aload_n C 3 dX6_bring_10 rfl rfl ?_
      refine j_iload_n C 4 dX6_bring_11 rfl rfl ?_
      refine j_iload C 0 dX6_bring_12 rfl ?_
      refine j_iadd C dX6_bring_14 ?_
      refine j_eqi (y := nI (q0 + i3)) (nI_add q0 i3) ?_
      refine j_aload_n C 1 dX6_bring_15 rfl rfl ?_
      refine j_iload_n C 2 dX6_bring_16 rfl rfl ?_
      refine j_iload C 0 dX6_bring_17 rfl ?_
      refine j_iadd C dX6_bring_19 ?_
      refine j_eqi (y := nI (p0 + i3)) (nI_add p0 i3) ?_
      refine j_iald C 0 rfl (i := p0 + i3) rfl (by omega) h3 dX6_bring_20 ?_
      refine j_iast C 1 rfl (i := q0 + i3) rfl (by omega) h4 (w' := (wAr D x N1 f ++ (wAr D y N2 (upd t3 (q0 + i3) (f (p0 + i3)))))) rfl dX6_bring_21 ?_
      refine j_iinc C 0 dX6_bring_22 rfl (v := nI (i3 + 1)) (nI_1 _) (by decide) (lv' := [(4, .int (nI (i3 + 1))), (0, .ref x), (1, .int (nI p0)), (2, .ref y), (3, .int (nI q0))]) rfl ?_
      refine j_goto C dX6_bring_25 (tgt := 3) (by decide) ?_
      refine j_sub [0, 1, 2, 3, 4] (lv' := [(4, .int (nI (i3 + 1))), (0, .ref x), (1, .int (nI p0)), (2, .ref y), (3, .int (nI q0))]) rfl ?_
      exact ih3 (upd t3 (q0 + i3) (f (p0 + i3))) (by rw [← cpy_s]; try rw [← ht3]; try rfl)
  refine j_sub [0, 1, 2, 3, 4] (lv' := [(4, .int (0 : Int32)), (0, .ref x), (1, .int (nI p0)), (2, .ref y), (3, .int (nI q0))]) rfl ?_
  exact hl3 0 (Nat.zero_le _) g (cpy_0 _ _ _ _).symm

set_option maxRecDepth 100000 in
set_option maxHeartbeats 4000000 in
theorem ctX6_of (l : Launch) (D : KD) (h : Nat → Nat) (m sp sv : Nat → Int32) (sc : Int32) (tx : Nat → Int32) (tl cd se ro st : Int32) (qa qb qd : Int64) (lo : Nat → Int32) (re : Nat → Int64) (cr ap nu : Int32) (ha : Int64) (i v : Nat) (hi : 3 + 6 * i + v < 99) : MI l D yX6_of wsX6_of 0 0 0 0 [.ref (h 0), .int (nI i), .int (nI v)] (wMo D h m sp sv sc tx tl cd se ro st qa qb qd lo re cr ap nu ha) (fun r w1 => r = m (3 + 6 * i + v) ∧ w1 = wMo D h m sp sv sc tx tl cd se ro st qa qb qd lo re cr ap nu ha) := by
  refine MI.of (cc := cX6_of) (nL := 3) (lv0 := [(0, .ref (h 0)), (1, .int (nI i)), (2, .int (nI v))]) (by decide +kernel) rfl (Nat.le_of_ble_eq_true rfl) rfl ?_
  intro X hXl hin C ret
  subst hXl
  refine j_aload_n C 0 dX6_of_0 rfl rfl ?_
  refine j_get C 0 fgX6_of_7 rfl rfl dX6_of_1 ?_
  refine j_iconst C (v := (3 : Int32)) dX6_of_4 rfl ?_
  refine j_bipush C (v := (6 : Int32)) dX6_of_5 rfl ?_
  refine j_iload_n C 1 dX6_of_7 rfl rfl ?_
  refine j_imul C dX6_of_8 ?_
  refine j_eqi (y := nI (6 * i)) (pk_mul 6 i) ?_
  refine j_iadd C dX6_of_9 ?_
  refine j_eqi (y := nI (3 + (6 * i))) (nI_add 3 (6 * i)) ?_
  refine j_iload_n C 2 dX6_of_10 rfl rfl ?_
  refine j_iadd C dX6_of_11 ?_
  refine j_eqi (y := nI ((3 + (6 * i)) + v)) (nI_add (3 + (6 * i)) v) ?_
  refine j_iald C 1 rfl (i := (3 + (6 * i)) + v) rfl hi (by decide) dX6_of_12 ?_
  exact ret dX6_of_13 (⟨rfl, rfl⟩)

set_option maxRecDepth 100000 in
set_option maxHeartbeats 4000000 in
theorem ctX6_lay (l : Launch) (D : KD) (h : Nat → Nat) (m sp sv : Nat → Int32) (sc : Int32) (tx : Nat → Int32) (tl cd se ro st : Int32) (qa qb qd : Int64) (lo : Nat → Int32) (re : Nat → Int64) (cr ap nu : Int32) (ha : Int64) (i v : Nat) (x : Int32) (hi : 3 + 6 * i + v < 99) : MV l D yX6_lay wsX6_lay 0 0 0 0 [.ref (h 0), .int (nI i), .int (nI v), .int x] (wMo D h m sp sv sc tx tl cd se ro st qa qb qd lo re cr ap nu ha) (fun w1 => w1 = wMo D h (upd m (3 + 6 * i + v) x) sp sv sc tx tl cd se ro st qa qb qd lo re cr ap nu ha) := by
  refine MV.of (cc := cX6_lay) (nL := 4) (lv0 := [(0, .ref (h 0)), (1, .int (nI i)), (2, .int (nI v)), (3, .int x)]) (by decide +kernel) rfl (Nat.le_of_ble_eq_true rfl) rfl ?_
  intro X hXl hin C ret
  subst hXl
  refine j_aload_n C 0 dX6_lay_0 rfl rfl ?_
  refine j_get C 0 fgX6_lay_7 rfl rfl dX6_lay_1 ?_
  refine j_iconst C (v := (3 : Int32)) dX6_lay_4 rfl ?_
  refine j_bipush C (v := (6 : Int32)) dX6_lay_5 rfl ?_
  refine j_iload_n C 1 dX6_lay_7 rfl rfl ?_
  refine j_imul C dX6_lay_8 ?_
  refine j_eqi (y := nI (6 * i)) (pk_mul 6 i) ?_
  refine j_iadd C dX6_lay_9 ?_
  refine j_eqi (y := nI (3 + (6 * i))) (nI_add 3 (6 * i)) ?_
  refine j_iload_n C 2 dX6_lay_10 rfl rfl ?_
  refine j_iadd C dX6_lay_11 ?_
  refine j_eqi (y := nI ((3 + (6 * i)) + v)) (nI_add (3 + (6 * i)) v) ?_
  refine j_iload_n C 3 dX6_lay_12 rfl rfl ?_
  refine j_iast C 1 rfl (i := (3 + (6 * i)) + v) rfl hi (by decide) (w' := (wMo D h (upd m ((3 + (6 * i)) + v) x) sp sv sc tx tl cd se ro st qa qb qd lo re cr ap nu ha)) rfl dX6_lay_13 ?_
  exact ret dX6_lay_14 (rfl)

set_option maxRecDepth 100000 in
set_option maxHeartbeats 4000000 in
theorem ctX6_isBlock (l : Launch) (D : KD) (h : Nat → Nat) (m sp sv : Nat → Int32) (sc : Int32) (tx : Nat → Int32) (tl cd se ro st : Int32) (qa qb qd : Int64) (lo : Nat → Int32) (re : Nat → Int64) (cr ap nu : Int32) (ha : Int64) (x : Int32) : MI l D yX6_isBlock wsX6_isBlock 1 22 0 0 [.ref (h 0), .int x] (wMo D h m sp sv sc tx tl cd se ro st qa qb qd lo re cr ap nu ha) (fun r w1 => r = bI (pIn x 0 (m 2 - 1)) ∧ w1 = wMo D h m sp sv sc tx tl cd se ro st qa qb qd lo re cr ap nu ha) := by
  refine MI.ofz (cc := cX6_isBlock) (nL := 2) (lv0 := [(0, .ref (h 0)), (1, .int x)]) (by decide +kernel) rfl (Nat.le_of_ble_eq_true rfl) rfl ?_
  intro X hXl hin C ret
  subst hXl
  refine j_iload_n C 1 dX6_isBlock_0 rfl rfl ?_
  refine j_iconst C (v := (0 : Int32)) dX6_isBlock_1 rfl ?_
  refine j_aload_n C 0 dX6_isBlock_2 rfl rfl ?_
  refine j_get C 0 fgX6_isBlock_7 rfl rfl dX6_isBlock_3 ?_
  refine j_iconst C (v := (2 : Int32)) dX6_isBlock_6 rfl ?_
  refine j_iald C 1 rfl (i := 2) rfl (by decide) (by decide) dX6_isBlock_7 ?_
  refine j_iconst C (v := (1 : Int32)) dX6_isBlock_8 rfl ?_
  refine j_isub C dX6_isBlock_9 ?_
  refine j_cs_i C (As := [.int x, .int (0 : Int32), .int ((m 2) - (1 : Int32))]) (rest := []) (ctX6_in (xl X) D x (0 : Int32) ((m 2) - (1 : Int32))) mfX6_in gX6_isBlock_X6_in rfl (Nat.le_of_ble_eq_true rfl) (Nat.le_of_ble_eq_true rfl) (Nat.le_of_ble_eq_true rfl) (Nat.le_of_ble_eq_true rfl) [] rfl rfl rfl (Nat.le_of_ble_eq_true rfl) dX6_isBlock_10 ?_
  rintro _ _ ⟨rfl, rfl⟩
  refine ⟨rfl, ?_⟩
  refine j_w (w' := (wMo D h m sp sv sc tx tl cd se ro st qa qb qd lo re cr ap nu ha)) rfl ?_
  exact ret dX6_isBlock_13 (bI_01 _) (⟨rfl, rfl⟩)

set_option maxRecDepth 100000 in
set_option maxHeartbeats 4000000 in
theorem ctX6_thrown (l : Launch) (D : KD) (h : Nat → Nat) (m sp sv : Nat → Int32) (sc : Int32) (tx : Nat → Int32) (tl cd se ro st : Int32) (qa qb qd : Int64) (lo : Nat → Int32) (re : Nat → Int64) (cr ap nu : Int32) (ha : Int64) : MI l D yX6_thrown wsX6_thrown 0 0 0 0 [.ref (h 0)] (wMo D h m sp sv sc tx tl cd se ro st qa qb qd lo re cr ap nu ha) (fun r w1 => r = cd ∧ w1 = wMo D h m sp sv sc tx tl cd se ro st qa qb qd lo re cr ap nu ha) := by
  refine MI.of (cc := cX6_thrown) (nL := 1) (lv0 := [(0, .ref (h 0))]) (by decide +kernel) rfl (Nat.le_of_ble_eq_true rfl) rfl ?_
  intro X hXl hin C ret
  subst hXl
  refine j_aload_n C 0 dX6_thrown_0 rfl rfl ?_
  refine j_get C 0 fgX6_thrown_29 rfl rfl dX6_thrown_1 ?_
  exact ret dX6_thrown_4 (⟨rfl, rfl⟩)

set_option maxRecDepth 100000 in
set_option maxHeartbeats 4000000 in
theorem ctX6_standing (l : Launch) (D : KD) (h : Nat → Nat) (m sp sv : Nat → Int32) (sc : Int32) (tx : Nat → Int32) (tl cd se ro st : Int32) (qa qb qd : Int64) (lo : Nat → Int32) (re : Nat → Int64) (cr ap nu : Int32) (ha : Int64) (n : Nat) (hn : n ≤ 16) (hc : m 2 = nI n) : MI l D yX6_standing wsX6_standing 1 22 0 0 [.ref (h 0)] (wMo D h m sp sv sc tx tl cd se ro st qa qb qd lo re cr ap nu ha) (fun r w1 => r = stb (mT m) 0 n ∧ w1 = wMo D h m sp sv sc tx tl cd se ro st qa qb qd lo re cr ap nu ha) := by
  refine MI.of (cc := cX6_standing) (nL := 3) (lv0 := [(0, .ref (h 0))]) (by decide +kernel) rfl (Nat.le_of_ble_eq_true rfl) rfl ?_
  intro X hXl hin C ret
  subst hXl
  refine j_iconst C (v := (0 : Int32)) dX6_standing_0 rfl ?_
  refine j_istore_n C dX6_standing_1 rfl (by decide) (lv' := [(1, .int (0 : Int32)), (0, .ref (h 0))]) rfl ?_
  refine j_iconst C (v := (0 : Int32)) dX6_standing_2 rfl ?_
  refine j_istore_n C dX6_standing_3 rfl (by decide) (lv' := [(2, .int (0 : Int32)), (1, .int (0 : Int32)), (0, .ref (h 0))]) rfl ?_
  have hl4 : ∀ i4, i4 ≤ n → ∀ (t4 : Int32), t4 = stb (mT m) 0 i4 → J D X (wMo D h m sp sv sc tx tl cd se ro st qa qb qd lo re cr ap nu ha) 0 0 4 [(2, .int (nI i4)), (1, .int t4), (0, .ref (h 0))] [] := by
    refine for_up (n) ?_ ?_
    · intro t4 ht4
      refine j_iload_n C 0 dX6_standing_4 rfl rfl ?_
      refine j_aload_n C 2 dX6_standing_5 rfl rfl ?_
      refine j_get C 0 fgX6_standing_7 rfl rfl dX6_standing_6 ?_
      refine j_iconst C (v := (2 : Int32)) dX6_standing_9 rfl ?_
      refine j_iald C 1 rfl (i := 2) rfl (by decide) (by decide) dX6_standing_10 ?_
      refine j_eqi (y := nI n) hc ?_
      refine j_icmp_ge C dX6_standing_11 (tgt := 39) (by decide) (fun _ => ?_) (fun h => absurd (Int32.le_refl _) h)
      refine j_iload_n C 1 dX6_standing_39 rfl rfl ?_
      exact ret dX6_standing_40 (⟨ht4, rfl⟩)
    · intro i4 hi4 ih4 t4 ht4
      refine j_iload_n C 0 dX6_standing_4 rfl rfl ?_
      refine j_aload_n C 2 dX6_standing_5 rfl rfl ?_
      refine j_get C 0 fgX6_standing_7 rfl rfl dX6_standing_6 ?_
      refine j_iconst C (v := (2 : Int32)) dX6_standing_9 rfl ?_
      refine j_iald C 1 rfl (i := 2) rfl (by decide) (by decide) dX6_standing_10 ?_
      refine j_eqi (y := nI n) hc ?_
      refine j_icmp_ge C dX6_standing_11 (tgt := 39) (by decide) (fun h => absurd h (nI_ge hi4 (by omega))) (fun _ => ?_)
      refine j_iload_n C 1 dX6_standing_14 rfl rfl ?_
      refine j_aload_n C 2 dX6_standing_15 rfl rfl ?_
      refine j_iload_n C 0 dX6_standing_16 rfl rfl ?_
      refine j_iconst C (v := (4 : Int32)) dX6_standing_17 rfl ?_
      refine j_cv_i C (As := [.int (nI i4), .int (4 : Int32)]) (rest := [.int t4]) (ctX6_of (xl X) D h m sp sv sc tx tl cd se ro st qa qb qd lo re cr ap nu ha i4 4 (by first | assumption | omega | decide)) mfX6_of gX6_standing_X6_of rfl (Nat.le_of_ble_eq_true rfl) (Nat.le_of_ble_eq_true rfl) (Nat.le_of_ble_eq_true rfl) (Nat.le_of_ble_eq_true rfl) [0, 1, 2, 3, 4, 5, 6] rfl rfl 0 rfl rfl rfl rfl (Nat.le_of_ble_eq_true rfl) dX6_standing_18 ?_
      rintro _ _ ⟨rfl, rfl⟩
      refine ⟨rfl, ?_⟩
      refine j_w (w' := (wMo D h m sp sv sc tx tl cd se ro st qa qb qd lo re cr ap nu ha)) rfl ?_
      refine j_if_ne C dX6_standing_21 (tgt := 30) (by decide) (fun h21 => ?_) (fun h21 => ?_)
      · refine j_iconst C (v := (0 : Int32)) dX6_standing_30 rfl ?_
        refine j_ior C dX6_standing_31 ?_
        refine j_eqi (y := t4) (or_0 _) ?_
        refine j_istore_n C dX6_standing_32 rfl (by decide) (lv' := [(1, .int t4), (2, .int (nI i4)), (0, .ref (h 0))]) rfl ?_
        refine j_iinc C 1 dX6_standing_33 rfl (v := nI (i4 + 1)) (nI_1 _) (by decide) (lv' := [(2, .int (nI (i4 + 1))), (1, .int t4), (0, .ref (h 0))]) rfl ?_
        refine j_goto C dX6_standing_36 (tgt := 4) (by decide) ?_
        refine j_sub [0, 1, 2] (lv' := [(2, .int (nI (i4 + 1))), (1, .int t4), (0, .ref (h 0))]) rfl ?_
        exact ih4 t4 (by rw [stb_f (T := mT m) h21]; try rw [← ht4]; try rfl)
      · refine j_iconst C (v := (1 : Int32)) dX6_standing_24 rfl ?_
        refine j_iload_n C 0 dX6_standing_25 rfl rfl ?_
        refine j_ishl C dX6_standing_26 ?_
        refine j_goto C dX6_standing_27 (tgt := 31) (by decide) ?_
        refine j_ior C dX6_standing_31 ?_
        refine j_istore_n C dX6_standing_32 rfl (by decide) (lv' := [(1, .int (t4 ||| ((1 : Int32) <<< ((nI i4) &&& 31)))), (2, .int (nI i4)), (0, .ref (h 0))]) rfl ?_
        refine j_iinc C 1 dX6_standing_33 rfl (v := nI (i4 + 1)) (nI_1 _) (by decide) (lv' := [(2, .int (nI (i4 + 1))), (1, .int (t4 ||| ((1 : Int32) <<< ((nI i4) &&& 31)))), (0, .ref (h 0))]) rfl ?_
        refine j_goto C dX6_standing_36 (tgt := 4) (by decide) ?_
        refine j_sub [0, 1, 2] (lv' := [(2, .int (nI (i4 + 1))), (1, .int (t4 ||| ((1 : Int32) <<< ((nI i4) &&& 31)))), (0, .ref (h 0))]) rfl ?_
        exact ih4 (t4 ||| ((1 : Int32) <<< ((nI i4) &&& 31))) (by rw [stb_t (T := mT m) h21]; try rw [← ht4]; try rfl)
  refine j_sub [0, 1, 2] (lv' := [(2, .int (0 : Int32)), (1, .int (0 : Int32)), (0, .ref (h 0))]) rfl ?_
  exact hl4 0 (Nat.zero_le _) (0 : Int32) rfl

set_option maxRecDepth 100000 in
set_option maxHeartbeats 4000000 in
theorem ctX6_solves (l : Launch) (D : KD) (h : Nat → Nat) (m sp sv : Nat → Int32) (sc : Int32) (tx : Nat → Int32) (tl cd se ro st : Int32) (qa qb qd : Int64) (lo : Nat → Int32) (re : Nat → Int64) (cr ap nu : Int32) (ha : Int64) (n : Nat) (hn : n ≤ 16) (hc : m 2 = nI n) : MI l D yX6_solves wsX6_solves 1 22 0 0 [.ref (h 0)] (wMo D h m sp sv sc tx tl cd se ro st qa qb qd lo re cr ap nu ha) (fun r w1 => r = bI (decide (0 < (sol (mP m) (mK m) (mH m) (m 0) (m 1) n se).2.2)) ∧ w1 = wMo D h m sp sv sc tx tl cd se ro st ((sol (mP m) (mK m) (mH m) (m 0) (m 1) n se).1) ((sol (mP m) (mK m) (mH m) (m 0) (m 1) n se).2.1) ((sol (mP m) (mK m) (mH m) (m 0) (m 1) n se).2.2) lo re cr ap nu ha) := by
  refine MI.ofz (cc := cX6_solves) (nL := 16) (lv0 := [(0, .ref (h 0))]) (by decide +kernel) rfl (Nat.le_of_ble_eq_true rfl) rfl ?_
  intro X hXl hin C ret
  subst hXl
  refine j_lconst C (v := (0 : Int64)) dX6_solves_0 rfl ?_
  refine j_lstore_n C dX6_solves_1 rfl (by decide) (lv' := [(1, .long (0 : Int64)), (0, .ref (h 0))]) rfl ?_
  refine j_lconst C (v := (0 : Int64)) dX6_solves_2 rfl ?_
  refine j_lstore_n C dX6_solves_3 rfl (by decide) (lv' := [(3, .long (0 : Int64)), (1, .long (0 : Int64)), (0, .ref (h 0))]) rfl ?_
  refine j_lconst C (v := (0 : Int64)) dX6_solves_4 rfl ?_
  refine j_lstore C dX6_solves_5 (by decide) (lv' := [(5, .long (0 : Int64)), (3, .long (0 : Int64)), (1, .long (0 : Int64)), (0, .ref (h 0))]) rfl ?_
  refine j_aload_n C 3 dX6_solves_7 rfl rfl ?_
  refine j_get C 0 fgX6_solves_7 rfl rfl dX6_solves_8 ?_
  refine j_iconst C (v := (0 : Int32)) dX6_solves_11 rfl ?_
  refine j_iald C 1 rfl (i := 0) rfl (by decide) (by decide) dX6_solves_12 ?_
  refine j_i2l C dX6_solves_13 ?_
  refine j_lstore C dX6_solves_14 (by decide) (lv' := [(7, .long ((m 0).toInt64)), (5, .long (0 : Int64)), (3, .long (0 : Int64)), (1, .long (0 : Int64)), (0, .ref (h 0))]) rfl ?_
  refine j_aload_n C 4 dX6_solves_16 rfl rfl ?_
  refine j_get C 0 fgX6_solves_7 rfl rfl dX6_solves_17 ?_
  refine j_iconst C (v := (0 : Int32)) dX6_solves_20 rfl ?_
  refine j_iald C 1 rfl (i := 0) rfl (by decide) (by decide) dX6_solves_21 ?_
  refine j_i2l C dX6_solves_22 ?_
  refine j_aload_n C 4 dX6_solves_23 rfl rfl ?_
  refine j_get C 0 fgX6_solves_7 rfl rfl dX6_solves_24 ?_
  refine j_iconst C (v := (1 : Int32)) dX6_solves_27 rfl ?_
  refine j_iald C 1 rfl (i := 1) rfl (by decide) (by decide) dX6_solves_28 ?_
  refine j_i2l C dX6_solves_29 ?_
  refine j_lmul C dX6_solves_30 ?_
  refine j_lstore C dX6_solves_31 (by decide) (lv' := [(9, .long (((m 0).toInt64) * ((m 1).toInt64))), (7, .long ((m 0).toInt64)), (5, .long (0 : Int64)), (3, .long (0 : Int64)), (1, .long (0 : Int64)), (0, .ref (h 0))]) rfl ?_
  refine j_iconst C (v := (0 : Int32)) dX6_solves_33 rfl ?_
  refine j_istore C dX6_solves_34 (by decide) (lv' := [(11, .int (0 : Int32)), (9, .long (((m 0).toInt64) * ((m 1).toInt64))), (7, .long ((m 0).toInt64)), (5, .long (0 : Int64)), (3, .long (0 : Int64)), (1, .long (0 : Int64)), (0, .ref (h 0))]) rfl ?_
  have hl36 : ∀ i36, i36 ≤ n → ∀ (t36 : Int64 × Int64 × Int64 × Int64 × Int64), t36 = sm (mP m) (mK m) (mH m) se (m 0) (m 1) i36 → J D X (wMo D h m sp sv sc tx tl cd se ro st qa qb qd lo re cr ap nu ha) 0 0 36 [(11, .int (nI i36)), (0, .ref (h 0)), (1, .long t36.1), (3, .long t36.2.1), (5, .long t36.2.2.1), (7, .long t36.2.2.2.1), (9, .long t36.2.2.2.2)] [] := by
    refine for_up (n) ?_ ?_
    · intro t36 ht36
      refine j_iload C 0 dX6_solves_36 rfl ?_
      refine j_aload_n C 1 dX6_solves_38 rfl rfl ?_
      refine j_get C 0 fgX6_solves_7 rfl rfl dX6_solves_39 ?_
      refine j_iconst C (v := (2 : Int32)) dX6_solves_42 rfl ?_
      refine j_iald C 1 rfl (i := 2) rfl (by decide) (by decide) dX6_solves_43 ?_
      refine j_eqi (y := nI n) hc ?_
      refine j_icmp_ge C dX6_solves_44 (tgt := 146) (by decide) (fun _ => ?_) (fun h => absurd (Int32.le_refl _) h)
      refine j_aload_n C 1 dX6_solves_146 rfl rfl ?_
      refine j_lload_n C 2 dX6_solves_147 rfl rfl ?_
      refine j_lload C 4 dX6_solves_148 rfl ?_
      refine j_lmul C dX6_solves_150 ?_
      refine j_lload_n C 3 dX6_solves_151 rfl rfl ?_
      refine j_lload_n C 3 dX6_solves_152 rfl rfl ?_
      refine j_lmul C dX6_solves_153 ?_
      refine j_lsub C dX6_solves_154 ?_
      refine j_put C 0 foX6_solves_55 rfl (w' := (wMo D h m sp sv sc tx tl cd se ro st qa qb ((t36.1 * t36.2.2.1) - (t36.2.1 * t36.2.1)) lo re cr ap nu ha)) rfl rfl rfl (Nat.le_of_ble_eq_true rfl) dX6_solves_155 ?_
      refine j_aload_n C 1 dX6_solves_158 rfl rfl ?_
      refine j_lload C 5 dX6_solves_159 rfl ?_
      refine j_lload C 4 dX6_solves_161 rfl ?_
      refine j_lmul C dX6_solves_163 ?_
      refine j_lload C 6 dX6_solves_164 rfl ?_
      refine j_lload_n C 3 dX6_solves_166 rfl rfl ?_
      refine j_lmul C dX6_solves_167 ?_
      refine j_lsub C dX6_solves_168 ?_
      refine j_put C 0 foX6_solves_59 rfl (w' := (wMo D h m sp sv sc tx tl cd se ro st ((t36.2.2.2.1 * t36.2.2.1) - (t36.2.2.2.2 * t36.2.1)) qb ((t36.1 * t36.2.2.1) - (t36.2.1 * t36.2.1)) lo re cr ap nu ha)) rfl rfl rfl (Nat.le_of_ble_eq_true rfl) dX6_solves_169 ?_
      refine j_aload_n C 1 dX6_solves_172 rfl rfl ?_
      refine j_lload C 6 dX6_solves_173 rfl ?_
      refine j_lload_n C 2 dX6_solves_175 rfl rfl ?_
      refine j_lmul C dX6_solves_176 ?_
      refine j_lload C 5 dX6_solves_177 rfl ?_
      refine j_lload_n C 3 dX6_solves_179 rfl rfl ?_
      refine j_lmul C dX6_solves_180 ?_
      refine j_lsub C dX6_solves_181 ?_
      refine j_put C 0 foX6_solves_62 rfl (w' := (wMo D h m sp sv sc tx tl cd se ro st ((t36.2.2.2.1 * t36.2.2.1) - (t36.2.2.2.2 * t36.2.1)) ((t36.2.2.2.2 * t36.1) - (t36.2.2.2.1 * t36.2.1)) ((t36.1 * t36.2.2.1) - (t36.2.1 * t36.2.1)) lo re cr ap nu ha)) rfl rfl rfl (Nat.le_of_ble_eq_true rfl) dX6_solves_182 ?_
      refine j_aload_n C 1 dX6_solves_185 rfl rfl ?_
      refine j_get C 0 fgX6_solves_55 rfl rfl dX6_solves_186 ?_
      refine j_lconst C (v := (0 : Int64)) dX6_solves_189 rfl ?_
      refine j_lcmp C dX6_solves_190 ?_
      refine j_lif_le C dX6_solves_191 (tgt := 198) (by decide) (fun h191 => ?_) (fun h191 => ?_)
      · have h191' := Int64.not_lt.mpr h191
        refine j_iconst C (v := (0 : Int32)) dX6_solves_198 rfl ?_
        exact ret dX6_solves_199 (Or.inl rfl) (by subst ht36; exact ⟨(by rw [show decide (0 < (sol (mP m) (mK m) (mH m) (m 0) (m 1) n se).2.2) = false from decide_eq_false h191']; rfl), rfl⟩)
      · have h191' := Int64.not_le.mp h191
        refine j_iconst C (v := (1 : Int32)) dX6_solves_194 rfl ?_
        refine j_goto C dX6_solves_195 (tgt := 199) (by decide) ?_
        exact ret dX6_solves_199 (Or.inr rfl) (by subst ht36; exact ⟨(by rw [show decide (0 < (sol (mP m) (mK m) (mH m) (m 0) (m 1) n se).2.2) = true from decide_eq_true h191']; rfl), rfl⟩)
    · intro i36 hi36 ih36 t36 ht36
      refine j_iload C 0 dX6_solves_36 rfl ?_
      refine j_aload_n C 1 dX6_solves_38 rfl rfl ?_
      refine j_get C 0 fgX6_solves_7 rfl rfl dX6_solves_39 ?_
      refine j_iconst C (v := (2 : Int32)) dX6_solves_42 rfl ?_
      refine j_iald C 1 rfl (i := 2) rfl (by decide) (by decide) dX6_solves_43 ?_
      refine j_eqi (y := nI n) hc ?_
      refine j_icmp_ge C dX6_solves_44 (tgt := 146) (by decide) (fun h => absurd h (nI_ge hi36 (by omega))) (fun _ => ?_)
      refine j_aload_n C 1 dX6_solves_47 rfl rfl ?_
      refine j_get C 0 fgX6_solves_48 rfl rfl dX6_solves_48 ?_
      refine j_iload C 0 dX6_solves_51 rfl ?_
      refine j_cs_i C (As := [.int se, .int (nI i36)]) (rest := []) (ctX6_has (xl X) D se i36 (by first | assumption | omega | decide)) mfX6_has gX6_solves_X6_has rfl (Nat.le_of_ble_eq_true rfl) (Nat.le_of_ble_eq_true rfl) (Nat.le_of_ble_eq_true rfl) (Nat.le_of_ble_eq_true rfl) [] rfl rfl rfl (Nat.le_of_ble_eq_true rfl) dX6_solves_53 ?_
      rintro _ _ ⟨rfl, rfl⟩
      refine ⟨rfl, ?_⟩
      refine j_w (w' := (wMo D h m sp sv sc tx tl cd se ro st qa qb qd lo re cr ap nu ha)) rfl ?_
      refine j_bif_eq C dX6_solves_56 (tgt := 140) (by decide) (fun h56 => ?_) (fun h56 => ?_)
      · refine j_iinc C 0 dX6_solves_140 rfl (v := nI (i36 + 1)) (nI_1 _) (by decide) (lv' := [(11, .int (nI (i36 + 1))), (0, .ref (h 0)), (1, .long t36.1), (3, .long t36.2.1), (5, .long t36.2.2.1), (7, .long t36.2.2.2.1), (9, .long t36.2.2.2.2)]) rfl ?_
        refine j_goto C dX6_solves_143 (tgt := 36) (by decide) ?_
        refine j_sub [0, 1, 2, 3, 4, 5, 6] (lv' := [(11, .int (nI (i36 + 1))), (0, .ref (h 0)), (1, .long t36.1), (3, .long t36.2.1), (5, .long t36.2.2.1), (7, .long t36.2.2.2.1), (9, .long t36.2.2.2.2)]) rfl ?_
        exact ih36 (t36.1, t36.2.1, t36.2.2.1, t36.2.2.2.1, t36.2.2.2.2) (by rw [sm_f h56]; try rw [← ht36]; try rfl)
      · refine j_aload_n C 1 dX6_solves_59 rfl rfl ?_
        refine j_iload C 0 dX6_solves_60 rfl ?_
        refine j_iconst C (v := (1 : Int32)) dX6_solves_62 rfl ?_
        refine j_cv_i C (As := [.int (nI i36), .int (1 : Int32)]) (rest := []) (ctX6_of (xl X) D h m sp sv sc tx tl cd se ro st qa qb qd lo re cr ap nu ha i36 1 (by first | assumption | omega | decide)) mfX6_of gX6_solves_X6_of rfl (Nat.le_of_ble_eq_true rfl) (Nat.le_of_ble_eq_true rfl) (Nat.le_of_ble_eq_true rfl) (Nat.le_of_ble_eq_true rfl) [0, 1, 2, 3, 4, 5, 6] rfl rfl 0 rfl rfl rfl rfl (Nat.le_of_ble_eq_true rfl) dX6_solves_63 ?_
        rintro _ _ ⟨rfl, rfl⟩
        refine ⟨rfl, ?_⟩
        refine j_w (w' := (wMo D h m sp sv sc tx tl cd se ro st qa qb qd lo re cr ap nu ha)) rfl ?_
        refine j_i2l C dX6_solves_66 ?_
        refine j_lstore C dX6_solves_67 (by decide) (lv' := [(12, .long ((m (3 + 6 * i36 + 1)).toInt64)), (11, .int (nI i36)), (0, .ref (h 0)), (1, .long t36.1), (3, .long t36.2.1), (5, .long t36.2.2.1), (7, .long t36.2.2.2.1), (9, .long t36.2.2.2.2)]) rfl ?_
        refine j_aload_n C 2 dX6_solves_69 rfl rfl ?_
        refine j_iload C 1 dX6_solves_70 rfl ?_
        refine j_iconst C (v := (0 : Int32)) dX6_solves_72 rfl ?_
        refine j_cv_i C (As := [.int (nI i36), .int (0 : Int32)]) (rest := []) (ctX6_of (xl X) D h m sp sv sc tx tl cd se ro st qa qb qd lo re cr ap nu ha i36 0 (by first | assumption | omega | decide)) mfX6_of gX6_solves_X6_of rfl (Nat.le_of_ble_eq_true rfl) (Nat.le_of_ble_eq_true rfl) (Nat.le_of_ble_eq_true rfl) (Nat.le_of_ble_eq_true rfl) [0, 1, 2, 3, 4, 5, 6] rfl rfl 0 rfl rfl rfl rfl (Nat.le_of_ble_eq_true rfl) dX6_solves_73 ?_
        rintro _ _ ⟨rfl, rfl⟩
        refine ⟨rfl, ?_⟩
        refine j_w (w' := (wMo D h m sp sv sc tx tl cd se ro st qa qb qd lo re cr ap nu ha)) rfl ?_
        refine j_i2l C dX6_solves_76 ?_
        refine j_lstore C dX6_solves_77 (by decide) (lv' := [(14, .long ((m (3 + 6 * i36 + 0)).toInt64)), (12, .long ((m (3 + 6 * i36 + 1)).toInt64)), (11, .int (nI i36)), (0, .ref (h 0)), (1, .long t36.1), (3, .long t36.2.1), (5, .long t36.2.2.1), (7, .long t36.2.2.2.1), (9, .long t36.2.2.2.2)]) rfl ?_
        refine j_lload_n C 4 dX6_solves_79 rfl rfl ?_
        refine j_lload C 1 dX6_solves_80 rfl ?_
        refine j_ladd C dX6_solves_82 ?_
        refine j_lstore_n C dX6_solves_83 rfl (by decide) (lv' := [(1, .long (t36.1 + ((m (3 + 6 * i36 + 1)).toInt64))), (14, .long ((m (3 + 6 * i36 + 0)).toInt64)), (12, .long ((m (3 + 6 * i36 + 1)).toInt64)), (11, .int (nI i36)), (0, .ref (h 0)), (3, .long t36.2.1), (5, .long t36.2.2.1), (7, .long t36.2.2.2.1), (9, .long t36.2.2.2.2)]) rfl ?_
        refine j_lload_n C 5 dX6_solves_84 rfl rfl ?_
        refine j_lload C 2 dX6_solves_85 rfl ?_
        refine j_lload C 1 dX6_solves_87 rfl ?_
        refine j_lmul C dX6_solves_89 ?_
        refine j_ladd C dX6_solves_90 ?_
        refine j_lstore_n C dX6_solves_91 rfl (by decide) (lv' := [(3, .long (t36.2.1 + (((m (3 + 6 * i36 + 1)).toInt64) * ((m (3 + 6 * i36 + 0)).toInt64)))), (1, .long (t36.1 + ((m (3 + 6 * i36 + 1)).toInt64))), (14, .long ((m (3 + 6 * i36 + 0)).toInt64)), (12, .long ((m (3 + 6 * i36 + 1)).toInt64)), (11, .int (nI i36)), (0, .ref (h 0)), (5, .long t36.2.2.1), (7, .long t36.2.2.2.1), (9, .long t36.2.2.2.2)]) rfl ?_
        refine j_lload C 6 dX6_solves_92 rfl ?_
        refine j_lload C 3 dX6_solves_94 rfl ?_
        refine j_lload C 2 dX6_solves_96 rfl ?_
        refine j_lmul C dX6_solves_98 ?_
        refine j_lload C 2 dX6_solves_99 rfl ?_
        refine j_lmul C dX6_solves_101 ?_
        refine j_ladd C dX6_solves_102 ?_
        refine j_lstore C dX6_solves_103 (by decide) (lv' := [(5, .long (t36.2.2.1 + ((((m (3 + 6 * i36 + 1)).toInt64) * ((m (3 + 6 * i36 + 0)).toInt64)) * ((m (3 + 6 * i36 + 0)).toInt64)))), (3, .long (t36.2.1 + (((m (3 + 6 * i36 + 1)).toInt64) * ((m (3 + 6 * i36 + 0)).toInt64)))), (1, .long (t36.1 + ((m (3 + 6 * i36 + 1)).toInt64))), (14, .long ((m (3 + 6 * i36 + 0)).toInt64)), (12, .long ((m (3 + 6 * i36 + 1)).toInt64)), (11, .int (nI i36)), (0, .ref (h 0)), (7, .long t36.2.2.2.1), (9, .long t36.2.2.2.2)]) rfl ?_
        refine j_lload C 7 dX6_solves_105 rfl ?_
        refine j_lload C 4 dX6_solves_107 rfl ?_
        refine j_aload_n C 6 dX6_solves_109 rfl rfl ?_
        refine j_iload C 5 dX6_solves_110 rfl ?_
        refine j_iconst C (v := (2 : Int32)) dX6_solves_112 rfl ?_
        refine j_cv_i C (As := [.int (nI i36), .int (2 : Int32)]) (rest := [.long ((m (3 + 6 * i36 + 1)).toInt64), .long t36.2.2.2.1]) (ctX6_of (xl X) D h m sp sv sc tx tl cd se ro st qa qb qd lo re cr ap nu ha i36 2 (by first | assumption | omega | decide)) mfX6_of gX6_solves_X6_of rfl (Nat.le_of_ble_eq_true rfl) (Nat.le_of_ble_eq_true rfl) (Nat.le_of_ble_eq_true rfl) (Nat.le_of_ble_eq_true rfl) [0, 1, 2, 3, 4, 5, 6] rfl rfl 0 rfl rfl rfl rfl (Nat.le_of_ble_eq_true rfl) dX6_solves_113 ?_
        rintro _ _ ⟨rfl, rfl⟩
        refine ⟨rfl, ?_⟩
        refine j_w (w' := (wMo D h m sp sv sc tx tl cd se ro st qa qb qd lo re cr ap nu ha)) rfl ?_
        refine j_i2l C dX6_solves_116 ?_
        refine j_lmul C dX6_solves_117 ?_
        refine j_lsub C dX6_solves_118 ?_
        refine j_lstore C dX6_solves_119 (by decide) (lv' := [(7, .long (t36.2.2.2.1 - (((m (3 + 6 * i36 + 1)).toInt64) * ((m (3 + 6 * i36 + 2)).toInt64)))), (5, .long (t36.2.2.1 + ((((m (3 + 6 * i36 + 1)).toInt64) * ((m (3 + 6 * i36 + 0)).toInt64)) * ((m (3 + 6 * i36 + 0)).toInt64)))), (3, .long (t36.2.1 + (((m (3 + 6 * i36 + 1)).toInt64) * ((m (3 + 6 * i36 + 0)).toInt64)))), (1, .long (t36.1 + ((m (3 + 6 * i36 + 1)).toInt64))), (14, .long ((m (3 + 6 * i36 + 0)).toInt64)), (12, .long ((m (3 + 6 * i36 + 1)).toInt64)), (11, .int (nI i36)), (0, .ref (h 0)), (9, .long t36.2.2.2.2)]) rfl ?_
        refine j_lload C 8 dX6_solves_121 rfl ?_
        refine j_lload C 5 dX6_solves_123 rfl ?_
        refine j_aload_n C 7 dX6_solves_125 rfl rfl ?_
        refine j_iload C 6 dX6_solves_126 rfl ?_
        refine j_iconst C (v := (2 : Int32)) dX6_solves_128 rfl ?_
        refine j_cv_i C (As := [.int (nI i36), .int (2 : Int32)]) (rest := [.long ((m (3 + 6 * i36 + 1)).toInt64), .long t36.2.2.2.2]) (ctX6_of (xl X) D h m sp sv sc tx tl cd se ro st qa qb qd lo re cr ap nu ha i36 2 (by first | assumption | omega | decide)) mfX6_of gX6_solves_X6_of rfl (Nat.le_of_ble_eq_true rfl) (Nat.le_of_ble_eq_true rfl) (Nat.le_of_ble_eq_true rfl) (Nat.le_of_ble_eq_true rfl) [0, 1, 2, 3, 4, 5, 6] rfl rfl 0 rfl rfl rfl rfl (Nat.le_of_ble_eq_true rfl) dX6_solves_129 ?_
        rintro _ _ ⟨rfl, rfl⟩
        refine ⟨rfl, ?_⟩
        refine j_w (w' := (wMo D h m sp sv sc tx tl cd se ro st qa qb qd lo re cr ap nu ha)) rfl ?_
        refine j_i2l C dX6_solves_132 ?_
        refine j_lmul C dX6_solves_133 ?_
        refine j_lload C 4 dX6_solves_134 rfl ?_
        refine j_lmul C dX6_solves_136 ?_
        refine j_lsub C dX6_solves_137 ?_
        refine j_lstore C dX6_solves_138 (by decide) (lv' := [(9, .long (t36.2.2.2.2 - ((((m (3 + 6 * i36 + 1)).toInt64) * ((m (3 + 6 * i36 + 2)).toInt64)) * ((m (3 + 6 * i36 + 0)).toInt64)))), (7, .long (t36.2.2.2.1 - (((m (3 + 6 * i36 + 1)).toInt64) * ((m (3 + 6 * i36 + 2)).toInt64)))), (5, .long (t36.2.2.1 + ((((m (3 + 6 * i36 + 1)).toInt64) * ((m (3 + 6 * i36 + 0)).toInt64)) * ((m (3 + 6 * i36 + 0)).toInt64)))), (3, .long (t36.2.1 + (((m (3 + 6 * i36 + 1)).toInt64) * ((m (3 + 6 * i36 + 0)).toInt64)))), (1, .long (t36.1 + ((m (3 + 6 * i36 + 1)).toInt64))), (14, .long ((m (3 + 6 * i36 + 0)).toInt64)), (12, .long ((m (3 + 6 * i36 + 1)).toInt64)), (11, .int (nI i36)), (0, .ref (h 0))]) rfl ?_
        refine j_iinc C 7 dX6_solves_140 rfl (v := nI (i36 + 1)) (nI_1 _) (by decide) (lv' := [(11, .int (nI (i36 + 1))), (9, .long (t36.2.2.2.2 - ((((m (3 + 6 * i36 + 1)).toInt64) * ((m (3 + 6 * i36 + 2)).toInt64)) * ((m (3 + 6 * i36 + 0)).toInt64)))), (7, .long (t36.2.2.2.1 - (((m (3 + 6 * i36 + 1)).toInt64) * ((m (3 + 6 * i36 + 2)).toInt64)))), (5, .long (t36.2.2.1 + ((((m (3 + 6 * i36 + 1)).toInt64) * ((m (3 + 6 * i36 + 0)).toInt64)) * ((m (3 + 6 * i36 + 0)).toInt64)))), (3, .long (t36.2.1 + (((m (3 + 6 * i36 + 1)).toInt64) * ((m (3 + 6 * i36 + 0)).toInt64)))), (1, .long (t36.1 + ((m (3 + 6 * i36 + 1)).toInt64))), (14, .long ((m (3 + 6 * i36 + 0)).toInt64)), (12, .long ((m (3 + 6 * i36 + 1)).toInt64)), (0, .ref (h 0))]) rfl ?_
        refine j_goto C dX6_solves_143 (tgt := 36) (by decide) ?_
        refine j_sub [0, 8, 5, 4, 3, 2, 1] (lv' := [(11, .int (nI (i36 + 1))), (0, .ref (h 0)), (1, .long (t36.1 + ((m (3 + 6 * i36 + 1)).toInt64))), (3, .long (t36.2.1 + (((m (3 + 6 * i36 + 1)).toInt64) * ((m (3 + 6 * i36 + 0)).toInt64)))), (5, .long (t36.2.2.1 + ((((m (3 + 6 * i36 + 1)).toInt64) * ((m (3 + 6 * i36 + 0)).toInt64)) * ((m (3 + 6 * i36 + 0)).toInt64)))), (7, .long (t36.2.2.2.1 - (((m (3 + 6 * i36 + 1)).toInt64) * ((m (3 + 6 * i36 + 2)).toInt64)))), (9, .long (t36.2.2.2.2 - ((((m (3 + 6 * i36 + 1)).toInt64) * ((m (3 + 6 * i36 + 2)).toInt64)) * ((m (3 + 6 * i36 + 0)).toInt64))))]) rfl ?_
        exact ih36 (t36.1 + ((m (3 + 6 * i36 + 1)).toInt64), t36.2.1 + (((m (3 + 6 * i36 + 1)).toInt64) * ((m (3 + 6 * i36 + 0)).toInt64)), t36.2.2.1 + ((((m (3 + 6 * i36 + 1)).toInt64) * ((m (3 + 6 * i36 + 0)).toInt64)) * ((m (3 + 6 * i36 + 0)).toInt64)), t36.2.2.2.1 - (((m (3 + 6 * i36 + 1)).toInt64) * ((m (3 + 6 * i36 + 2)).toInt64)), t36.2.2.2.2 - ((((m (3 + 6 * i36 + 1)).toInt64) * ((m (3 + 6 * i36 + 2)).toInt64)) * ((m (3 + 6 * i36 + 0)).toInt64))) (by rw [sm_t h56]; try rw [← ht36]; try rfl)
  refine j_sub [0, 6, 5, 4, 3, 2, 1] (lv' := [(11, .int (0 : Int32)), (0, .ref (h 0)), (1, .long (0 : Int64)), (3, .long (0 : Int64)), (5, .long (0 : Int64)), (7, .long ((m 0).toInt64)), (9, .long (((m 0).toInt64) * ((m 1).toInt64)))]) rfl ?_
  exact hl36 0 (Nat.zero_le _) ((0 : Int64), (0 : Int64), (0 : Int64), (m 0).toInt64, ((m 0).toInt64) * ((m 1).toInt64)) rfl

set_option maxRecDepth 100000 in
set_option maxHeartbeats 4000000 in
theorem ctX6_press (l : Launch) (D : KD) (h : Nat → Nat) (m sp sv : Nat → Int32) (sc : Int32) (tx : Nat → Int32) (tl cd se ro st : Int32) (qa qb qd : Int64) (lo : Nat → Int32) (re : Nat → Int64) (cr ap nu : Int32) (ha : Int64) (i : Nat) (hi : i < 16) : ML l D yX6_press wsX6_press 1 22 0 0 [.ref (h 0), .int (nI i)] (wMo D h m sp sv sc tx tl cd se ro st qa qb qd lo re cr ap nu ha) (fun r w1 => r = qa + qb * (mP m i).toInt64 + qd * (mH m i).toInt64 ∧ w1 = wMo D h m sp sv sc tx tl cd se ro st qa qb qd lo re cr ap nu ha) := by
  refine ML.of (cc := cX6_press) (nL := 2) (lv0 := [(0, .ref (h 0)), (1, .int (nI i))]) (by decide +kernel) rfl (Nat.le_of_ble_eq_true rfl) rfl ?_
  intro X hXl hin C ret
  subst hXl
  refine j_aload_n C 0 dX6_press_0 rfl rfl ?_
  refine j_get C 0 fgX6_press_59 rfl rfl dX6_press_1 ?_
  refine j_aload_n C 0 dX6_press_4 rfl rfl ?_
  refine j_get C 0 fgX6_press_62 rfl rfl dX6_press_5 ?_
  refine j_aload_n C 0 dX6_press_8 rfl rfl ?_
  refine j_iload_n C 1 dX6_press_9 rfl rfl ?_
  refine j_iconst C (v := (0 : Int32)) dX6_press_10 rfl ?_
  refine j_cv_i C (As := [.int (nI i), .int (0 : Int32)]) (rest := [.long qb, .long qa]) (ctX6_of (xl X) D h m sp sv sc tx tl cd se ro st qa qb qd lo re cr ap nu ha i 0 (by first | assumption | omega | decide)) mfX6_of gX6_press_X6_of rfl (Nat.le_of_ble_eq_true rfl) (Nat.le_of_ble_eq_true rfl) (Nat.le_of_ble_eq_true rfl) (Nat.le_of_ble_eq_true rfl) [0, 1, 2, 3, 4, 5, 6] rfl rfl 0 rfl rfl rfl rfl (Nat.le_of_ble_eq_true rfl) dX6_press_11 ?_
  rintro _ _ ⟨rfl, rfl⟩
  refine ⟨rfl, ?_⟩
  refine j_w (w' := (wMo D h m sp sv sc tx tl cd se ro st qa qb qd lo re cr ap nu ha)) rfl ?_
  refine j_i2l C dX6_press_14 ?_
  refine j_lmul C dX6_press_15 ?_
  refine j_ladd C dX6_press_16 ?_
  refine j_aload_n C 0 dX6_press_17 rfl rfl ?_
  refine j_get C 0 fgX6_press_55 rfl rfl dX6_press_18 ?_
  refine j_aload_n C 0 dX6_press_21 rfl rfl ?_
  refine j_iload_n C 1 dX6_press_22 rfl rfl ?_
  refine j_iconst C (v := (2 : Int32)) dX6_press_23 rfl ?_
  refine j_cv_i C (As := [.int (nI i), .int (2 : Int32)]) (rest := [.long qd, .long (qa + (qb * ((m (3 + 6 * i + 0)).toInt64)))]) (ctX6_of (xl X) D h m sp sv sc tx tl cd se ro st qa qb qd lo re cr ap nu ha i 2 (by first | assumption | omega | decide)) mfX6_of gX6_press_X6_of rfl (Nat.le_of_ble_eq_true rfl) (Nat.le_of_ble_eq_true rfl) (Nat.le_of_ble_eq_true rfl) (Nat.le_of_ble_eq_true rfl) [0, 1, 2, 3, 4, 5, 6] rfl rfl 0 rfl rfl rfl rfl (Nat.le_of_ble_eq_true rfl) dX6_press_24 ?_
  rintro _ _ ⟨rfl, rfl⟩
  refine ⟨rfl, ?_⟩
  refine j_w (w' := (wMo D h m sp sv sc tx tl cd se ro st qa qb qd lo re cr ap nu ha)) rfl ?_
  refine j_i2l C dX6_press_27 ?_
  refine j_lmul C dX6_press_28 ?_
  refine j_ladd C dX6_press_29 ?_
  exact ret dX6_press_30 (⟨rfl, rfl⟩)

set_option maxRecDepth 100000 in
set_option maxHeartbeats 4000000 in
theorem ctX6_nextSet (l : Launch) (D : KD) (h : Nat → Nat) (m sp sv : Nat → Int32) (sc : Int32) (tx : Nat → Int32) (tl cd se ro st : Int32) (qa qb qd : Int64) (lo : Nat → Int32) (re : Nat → Int64) (cr ap nu : Int32) (ha : Int64) (n : Nat) (hn : n ≤ 16) (hc : m 2 = nI n) (x : Int32) : MI l D yX6_nextSet wsX6_nextSet 2 43 0 0 [.ref (h 0), .int x] (wMo D h m sp sv sc tx tl cd se ro st qa qb qd lo re cr ap nu ha) (fun r w1 => r = nx (mP m) (mH m) x (qa, qb, qd) n ∧ w1 = wMo D h m sp sv sc tx tl cd se ro st qa qb qd lo re cr ap nu ha) := by
  refine MI.of (cc := cX6_nextSet) (nL := 4) (lv0 := [(0, .ref (h 0)), (1, .int x)]) (by decide +kernel) rfl (Nat.le_of_ble_eq_true rfl) rfl ?_
  intro X hXl hin C ret
  subst hXl
  refine j_iconst C (v := (0 : Int32)) dX6_nextSet_0 rfl ?_
  refine j_istore_n C dX6_nextSet_1 rfl (by decide) (lv' := [(2, .int (0 : Int32)), (0, .ref (h 0)), (1, .int x)]) rfl ?_
  refine j_iconst C (v := (0 : Int32)) dX6_nextSet_2 rfl ?_
  refine j_istore_n C dX6_nextSet_3 rfl (by decide) (lv' := [(3, .int (0 : Int32)), (2, .int (0 : Int32)), (0, .ref (h 0)), (1, .int x)]) rfl ?_
  have hl4 : ∀ i4, i4 ≤ n → ∀ (t4 : Int32), t4 = nx (mP m) (mH m) x (qa, qb, qd) i4 → J D X (wMo D h m sp sv sc tx tl cd se ro st qa qb qd lo re cr ap nu ha) 0 0 4 [(3, .int (nI i4)), (2, .int t4), (0, .ref (h 0)), (1, .int x)] [] := by
    refine for_up (n) ?_ ?_
    · intro t4 ht4
      refine j_iload_n C 0 dX6_nextSet_4 rfl rfl ?_
      refine j_aload_n C 2 dX6_nextSet_5 rfl rfl ?_
      refine j_get C 0 fgX6_nextSet_7 rfl rfl dX6_nextSet_6 ?_
      refine j_iconst C (v := (2 : Int32)) dX6_nextSet_9 rfl ?_
      refine j_iald C 1 rfl (i := 2) rfl (by decide) (by decide) dX6_nextSet_10 ?_
      refine j_eqi (y := nI n) hc ?_
      refine j_icmp_ge C dX6_nextSet_11 (tgt := 48) (by decide) (fun _ => ?_) (fun h => absurd (Int32.le_refl _) h)
      refine j_iload_n C 1 dX6_nextSet_48 rfl rfl ?_
      exact ret dX6_nextSet_49 (⟨ht4, rfl⟩)
    · intro i4 hi4 ih4 t4 ht4
      refine j_iload_n C 0 dX6_nextSet_4 rfl rfl ?_
      refine j_aload_n C 2 dX6_nextSet_5 rfl rfl ?_
      refine j_get C 0 fgX6_nextSet_7 rfl rfl dX6_nextSet_6 ?_
      refine j_iconst C (v := (2 : Int32)) dX6_nextSet_9 rfl ?_
      refine j_iald C 1 rfl (i := 2) rfl (by decide) (by decide) dX6_nextSet_10 ?_
      refine j_eqi (y := nI n) hc ?_
      refine j_icmp_ge C dX6_nextSet_11 (tgt := 48) (by decide) (fun h => absurd h (nI_ge hi4 (by omega))) (fun _ => ?_)
      refine j_iload_n C 1 dX6_nextSet_14 rfl rfl ?_
      refine j_iload_n C 3 dX6_nextSet_15 rfl rfl ?_
      refine j_iload_n C 0 dX6_nextSet_16 rfl rfl ?_
      refine j_cs_i C (As := [.int x, .int (nI i4)]) (rest := [.int t4]) (ctX6_has (xl X) D x i4 (by first | assumption | omega | decide)) mfX6_has gX6_nextSet_X6_has rfl (Nat.le_of_ble_eq_true rfl) (Nat.le_of_ble_eq_true rfl) (Nat.le_of_ble_eq_true rfl) (Nat.le_of_ble_eq_true rfl) [] rfl rfl rfl (Nat.le_of_ble_eq_true rfl) dX6_nextSet_17 ?_
      rintro _ _ ⟨rfl, rfl⟩
      refine ⟨rfl, ?_⟩
      refine j_w (w' := (wMo D h m sp sv sc tx tl cd se ro st qa qb qd lo re cr ap nu ha)) rfl ?_
      refine j_bif_eq C dX6_nextSet_20 (tgt := 39) (by decide) (fun h20 => ?_) (fun h20 => ?_)
      · refine j_iconst C (v := (0 : Int32)) dX6_nextSet_39 rfl ?_
        refine j_ior C dX6_nextSet_40 ?_
        refine j_eqi (y := t4) (or_0 _) ?_
        refine j_istore_n C dX6_nextSet_41 rfl (by decide) (lv' := [(2, .int t4), (3, .int (nI i4)), (0, .ref (h 0)), (1, .int x)]) rfl ?_
        refine j_iinc C 1 dX6_nextSet_42 rfl (v := nI (i4 + 1)) (nI_1 _) (by decide) (lv' := [(3, .int (nI (i4 + 1))), (2, .int t4), (0, .ref (h 0)), (1, .int x)]) rfl ?_
        refine j_goto C dX6_nextSet_45 (tgt := 4) (by decide) ?_
        refine j_sub [0, 1, 2, 3] (lv' := [(3, .int (nI (i4 + 1))), (2, .int t4), (0, .ref (h 0)), (1, .int x)]) rfl ?_
        exact ih4 t4 (by rw [nx_f h20]; try rw [← ht4]; try rfl)
      · refine j_aload_n C 2 dX6_nextSet_23 rfl rfl ?_
        refine j_iload_n C 0 dX6_nextSet_24 rfl rfl ?_
        refine j_cv_l C (As := [.int (nI i4)]) (rest := [.int t4]) (ctX6_press (xl X) D h m sp sv sc tx tl cd se ro st qa qb qd lo re cr ap nu ha i4 (by first | assumption | omega | decide)) mfX6_press gX6_nextSet_X6_press rfl (Nat.le_of_ble_eq_true rfl) (Nat.le_of_ble_eq_true rfl) (Nat.le_of_ble_eq_true rfl) (Nat.le_of_ble_eq_true rfl) [0, 1, 2, 3, 4, 5, 6] rfl rfl 0 rfl rfl rfl rfl (Nat.le_of_ble_eq_true rfl) dX6_nextSet_25 ?_
        rintro _ _ ⟨rfl, rfl⟩
        refine ⟨rfl, ?_⟩
        refine j_w (w' := (wMo D h m sp sv sc tx tl cd se ro st qa qb qd lo re cr ap nu ha)) rfl ?_
        refine j_lconst C (v := (0 : Int64)) dX6_nextSet_28 rfl ?_
        refine j_lcmp C dX6_nextSet_29 ?_
        refine j_lif_le C dX6_nextSet_30 (tgt := 39) (by decide) (fun h30 => ?_) (fun h30 => ?_)
        · have h30' := Int64.not_lt.mpr h30
          refine j_iconst C (v := (0 : Int32)) dX6_nextSet_39 rfl ?_
          refine j_ior C dX6_nextSet_40 ?_
          refine j_eqi (y := t4) (or_0 _) ?_
          refine j_istore_n C dX6_nextSet_41 rfl (by decide) (lv' := [(2, .int t4), (3, .int (nI i4)), (0, .ref (h 0)), (1, .int x)]) rfl ?_
          refine j_iinc C 1 dX6_nextSet_42 rfl (v := nI (i4 + 1)) (nI_1 _) (by decide) (lv' := [(3, .int (nI (i4 + 1))), (2, .int t4), (0, .ref (h 0)), (1, .int x)]) rfl ?_
          refine j_goto C dX6_nextSet_45 (tgt := 4) (by decide) ?_
          refine j_sub [0, 1, 2, 3] (lv' := [(3, .int (nI (i4 + 1))), (2, .int t4), (0, .ref (h 0)), (1, .int x)]) rfl ?_
          exact ih4 t4 (by rw [nx_g (q := (qa, qb, qd)) h30']; try rw [← ht4]; try rfl)
        · have h30' := Int64.not_le.mp h30
          refine j_iconst C (v := (1 : Int32)) dX6_nextSet_33 rfl ?_
          refine j_iload_n C 0 dX6_nextSet_34 rfl rfl ?_
          refine j_ishl C dX6_nextSet_35 ?_
          refine j_goto C dX6_nextSet_36 (tgt := 40) (by decide) ?_
          refine j_ior C dX6_nextSet_40 ?_
          refine j_istore_n C dX6_nextSet_41 rfl (by decide) (lv' := [(2, .int (t4 ||| ((1 : Int32) <<< ((nI i4) &&& 31)))), (3, .int (nI i4)), (0, .ref (h 0)), (1, .int x)]) rfl ?_
          refine j_iinc C 1 dX6_nextSet_42 rfl (v := nI (i4 + 1)) (nI_1 _) (by decide) (lv' := [(3, .int (nI (i4 + 1))), (2, .int (t4 ||| ((1 : Int32) <<< ((nI i4) &&& 31)))), (0, .ref (h 0)), (1, .int x)]) rfl ?_
          refine j_goto C dX6_nextSet_45 (tgt := 4) (by decide) ?_
          refine j_sub [0, 1, 2, 3] (lv' := [(3, .int (nI (i4 + 1))), (2, .int (t4 ||| ((1 : Int32) <<< ((nI i4) &&& 31)))), (0, .ref (h 0)), (1, .int x)]) rfl ?_
          exact ih4 (t4 ||| ((1 : Int32) <<< ((nI i4) &&& 31))) (by rw [nx_t (q := (qa, qb, qd)) h20 h30']; try rw [← ht4]; try rfl)
  refine j_sub [0, 1, 2, 3] (lv' := [(3, .int (0 : Int32)), (2, .int (0 : Int32)), (0, .ref (h 0)), (1, .int x)]) rfl ?_
  exact hl4 0 (Nat.zero_le _) (0 : Int32) rfl
