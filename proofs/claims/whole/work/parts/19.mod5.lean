theorem ctX6_greatestB (l : Launch) (D : KD) (h : Nat → Nat) (m sp sv : Nat → Int32) (sc : Int32) (tx : Nat → Int32) (tl cd se ro : Int32) (qa qb qd : Int64) (lo : Nat → Int32) (re : Nat → Int64) (cr ap nu : Int32) (ha : Int64) (sb : Bool) (n : Nat) (hn : n ≤ 16) (hc : m 2 = nI n) : MI l D yX6_greatest wsX6_greatest 1 22 0 0 [.ref (h 0)] (wMo D h m sp sv sc tx tl cd se ro (bI sb) qa qb qd lo re cr ap nu ha) (fun r w1 => r = gre sb lo n ∧ w1 = wMo D h m sp sv sc tx tl cd se ro (bI sb) qa qb qd lo re cr ap nu ha) := by
  cases sb with
  | false => exact ctX6_greatest0 l D h m sp sv sc tx tl cd se ro qa qb qd lo re cr ap nu ha n hn hc
  | true => exact ctX6_greatest l D h m sp sv sc tx tl cd se ro qa qb qd lo re cr ap nu ha n hn hc

theorem ctX6_heaviestB (l : Launch) (D : KD) (h : Nat → Nat) (m sp sv : Nat → Int32) (sc : Int32) (tx : Nat → Int32) (tl cd se ro : Int32) (qa qb qd : Int64) (lo : Nat → Int32) (re : Nat → Int64) (cr ap nu : Int32) (ha : Int64) (sb : Bool) (n : Nat) (hn : n ≤ 16) (hc : m 2 = nI n) : MI l D yX6_heaviest wsX6_heaviest 0 0 0 0 [.ref (h 0)] (wMo D h m sp sv sc tx tl cd se ro (bI sb) qa qb qd lo re cr ap nu ha) (fun r w1 => r = hvy sb lo n ∧ w1 = wMo D h m sp sv sc tx tl cd se ro (bI sb) qa qb qd lo re cr ap nu ha) := by
  cases sb with
  | false => exact ctX6_heaviest0 l D h m sp sv sc tx tl cd se ro qa qb qd lo re cr ap nu ha n hn hc
  | true => exact ctX6_heaviest l D h m sp sv sc tx tl cd se ro qa qb qd lo re cr ap nu ha n hn hc

set_option maxRecDepth 100000 in
set_option maxHeartbeats 4000000 in
theorem ctX6_blockOf (l : Launch) (D : KD) (h : Nat → Nat) (m sp sv : Nat → Int32) (sc : Int32) (tx : Nat → Int32) (tl cd se ro : Int32) (qa qb qd : Int64) (lo : Nat → Int32) (re : Nat → Int64) (cr ap nu : Int32) (ha : Int64) (sb : Bool) (i v : Nat) (hi : i < 16) (hv : v < 9) : MI l D yX6_blockOf wsX6_blockOf 2 43 0 0 [.ref (h 0), .int (nI i), .int (nI v)] (wMo D h m sp sv sc tx tl cd se ro (bI sb) qa qb qd lo re cr ap nu ha) (fun r w1 => r = blS sb se lo m i v ∧ w1 = wMo D h m sp sv sc tx tl cd se ro (bI sb) qa qb qd lo re cr ap nu ha) := by
  refine MI.of (cc := cX6_blockOf) (nL := 3) (lv0 := [(0, .ref (h 0)), (1, .int (nI i)), (2, .int (nI v))]) (by decide +kernel) rfl (Nat.le_of_ble_eq_true rfl) rfl ?_
  intro X hXl hin C ret
  subst hXl
  refine j_iload_n C 2 dX6_blockOf_0 rfl rfl ?_
  by_cases hv5 : v = 5
  · refine j_tswIn C dX6_blockOf_1 (by rw [hv5]; decide) (by rw [hv5]; decide) (off := 31) (by rw [hv5]; rfl) (tgt := 32) (by decide) ?_
    refine j_aload_n C 0 dX6_blockOf_32 rfl rfl ?_
    refine j_get C 0 fgX6_blockOf_22 rfl rfl dX6_blockOf_33 ?_
    refine j_iload_n C 1 dX6_blockOf_36 rfl rfl ?_
    refine j_iald C 5 rfl (i := i) rfl (by omega) (by decide) dX6_blockOf_37 ?_
    exact ret dX6_blockOf_38 (⟨by simp [blS, bI, hv5], rfl⟩)
  by_cases hv6 : v = 6
  · refine j_tswIn C dX6_blockOf_1 (by rw [hv6]; decide) (by rw [hv6]; decide) (off := 38) (by rw [hv6]; rfl) (tgt := 39) (by decide) ?_
    refine j_aload_n C 0 dX6_blockOf_39 rfl rfl ?_
    refine j_iload_n C 1 dX6_blockOf_40 rfl rfl ?_
    refine j_cv_i C (As := [.int (nI i)]) (rest := []) (ctX6_bears (xl X) D h m sp sv sc tx tl cd se ro qa qb qd lo re cr ap nu ha sb i (by first | assumption | omega | decide)) mfX6_bears gX6_blockOf_X6_bears rfl (Nat.le_of_ble_eq_true rfl) (Nat.le_of_ble_eq_true rfl) (Nat.le_of_ble_eq_true rfl) (Nat.le_of_ble_eq_true rfl) [0, 1, 2, 3, 4, 5, 6] rfl rfl 0 rfl rfl rfl rfl (Nat.le_of_ble_eq_true rfl) dX6_blockOf_41 ?_
    rintro _ _ ⟨rfl, rfl⟩
    refine ⟨rfl, ?_⟩
    refine j_w (w' := (wMo D h m sp sv sc tx tl cd se ro (bI sb) qa qb qd lo re cr ap nu ha)) rfl ?_
    refine j_bif_eq C dX6_blockOf_44 (tgt := 51) (by decide) (fun h44 => ?_) (fun h44 => ?_)
    · refine j_iconst C (v := (0 : Int32)) dX6_blockOf_51 rfl ?_
      exact ret dX6_blockOf_52 (⟨by simp [blS, bI, hv5, hv6, h44], rfl⟩)
    · refine j_iconst C (v := (1 : Int32)) dX6_blockOf_47 rfl ?_
      refine j_goto C dX6_blockOf_48 (tgt := 52) (by decide) ?_
      exact ret dX6_blockOf_52 (⟨by simp [blS, bI, hv5, hv6, h44], rfl⟩)
  by_cases hv7 : v = 7
  · refine j_tswIn C dX6_blockOf_1 (by rw [hv7]; decide) (by rw [hv7]; decide) (off := 52) (by rw [hv7]; rfl) (tgt := 53) (by decide) ?_
    refine j_aload_n C 0 dX6_blockOf_53 rfl rfl ?_
    refine j_iload_n C 1 dX6_blockOf_54 rfl rfl ?_
    refine j_cv_i C (As := [.int (nI i)]) (rest := []) (ctX6_isOver (xl X) D h m sp sv sc tx tl cd se ro qa qb qd lo re cr ap nu ha sb i (by first | assumption | omega | decide)) mfX6_isOver gX6_blockOf_X6_isOver rfl (Nat.le_of_ble_eq_true rfl) (Nat.le_of_ble_eq_true rfl) (Nat.le_of_ble_eq_true rfl) (Nat.le_of_ble_eq_true rfl) [0, 1, 2, 3, 4, 5, 6] rfl rfl 0 rfl rfl rfl rfl (Nat.le_of_ble_eq_true rfl) dX6_blockOf_55 ?_
    rintro _ _ ⟨rfl, rfl⟩
    refine ⟨rfl, ?_⟩
    refine j_w (w' := (wMo D h m sp sv sc tx tl cd se ro (bI sb) qa qb qd lo re cr ap nu ha)) rfl ?_
    refine j_bif_eq C dX6_blockOf_58 (tgt := 65) (by decide) (fun h58 => ?_) (fun h58 => ?_)
    · refine j_iconst C (v := (0 : Int32)) dX6_blockOf_65 rfl ?_
      exact ret dX6_blockOf_66 (⟨by simp [blS, bI, hv5, hv6, hv7, h58], rfl⟩)
    · refine j_iconst C (v := (1 : Int32)) dX6_blockOf_61 rfl ?_
      refine j_goto C dX6_blockOf_62 (tgt := 66) (by decide) ?_
      exact ret dX6_blockOf_66 (⟨by simp [blS, bI, hv5, hv6, hv7, h58], rfl⟩)
  by_cases hv8 : v = 8
  · refine j_tswIn C dX6_blockOf_1 (by rw [hv8]; decide) (by rw [hv8]; decide) (off := 66) (by rw [hv8]; rfl) (tgt := 67) (by decide) ?_
    refine j_aload_n C 0 dX6_blockOf_67 rfl rfl ?_
    refine j_iload_n C 1 dX6_blockOf_68 rfl rfl ?_
    refine j_iconst C (v := (5 : Int32)) dX6_blockOf_69 rfl ?_
    refine j_cv_i C (As := [.int (nI i), .int (5 : Int32)]) (rest := []) (ctX6_of (xl X) D h m sp sv sc tx tl cd se ro (bI sb) qa qb qd lo re cr ap nu ha i 5 (by omega)) mfX6_of gX6_blockOf_X6_of rfl (Nat.le_of_ble_eq_true rfl) (Nat.le_of_ble_eq_true rfl) (Nat.le_of_ble_eq_true rfl) (Nat.le_of_ble_eq_true rfl) [0, 1, 2, 3, 4, 5, 6] rfl rfl 0 rfl rfl rfl rfl (Nat.le_of_ble_eq_true rfl) dX6_blockOf_70 ?_
    rintro _ _ ⟨rfl, rfl⟩
    refine ⟨rfl, ?_⟩
    refine j_w (w' := (wMo D h m sp sv sc tx tl cd se ro (bI sb) qa qb qd lo re cr ap nu ha)) rfl ?_
    exact ret dX6_blockOf_73 (⟨by simp [blS, bI, hv5, hv6, hv7, hv8], rfl⟩)
  refine j_tswOut C dX6_blockOf_1 (Or.inl (nI_i5 v (by omega))) (tgt := 74) (by decide) ?_
  refine j_aload_n C 0 dX6_blockOf_74 rfl rfl ?_
  refine j_iload_n C 1 dX6_blockOf_75 rfl rfl ?_
  refine j_iload_n C 2 dX6_blockOf_76 rfl rfl ?_
  refine j_cv_i C (As := [.int (nI i), .int (nI v)]) (rest := []) (ctX6_of (xl X) D h m sp sv sc tx tl cd se ro (bI sb) qa qb qd lo re cr ap nu ha i v (by omega)) mfX6_of gX6_blockOf_X6_of rfl (Nat.le_of_ble_eq_true rfl) (Nat.le_of_ble_eq_true rfl) (Nat.le_of_ble_eq_true rfl) (Nat.le_of_ble_eq_true rfl) [0, 1, 2, 3, 4, 5, 6] rfl rfl 0 rfl rfl rfl rfl (Nat.le_of_ble_eq_true rfl) dX6_blockOf_77 ?_
  rintro _ _ ⟨rfl, rfl⟩
  refine ⟨rfl, ?_⟩
  refine j_w (w' := (wMo D h m sp sv sc tx tl cd se ro (bI sb) qa qb qd lo re cr ap nu ha)) rfl ?_
  exact ret dX6_blockOf_80 (⟨by simp [blS, bI, hv5, hv6, hv7, hv8], rfl⟩)

set_option maxRecDepth 100000 in
set_option maxHeartbeats 4000000 in
theorem ctX6_valueOf (l : Launch) (D : KD) (h : Nat → Nat) (m sp sv : Nat → Int32) (sc : Int32) (tx : Nat → Int32) (tl cd se ro : Int32) (qa qb qd : Int64) (lo : Nat → Int32) (re : Nat → Int64) (cr ap nu : Int32) (ha : Int64) (sb : Bool) (n : Nat) (hn : n ≤ 16) (hc : m 2 = nI n) (v : Nat) (hv : v < 10) : MI l D yX6_valueOf wsX6_valueOf 3 65 0 0 [.ref (h 0), .int (nI v)] (wMo D h m sp sv sc tx tl cd se ro (bI sb) qa qb qd lo re cr ap nu ha) (fun r w1 => r = vlS sb se ro lo m n v ∧ w1 = wMo D h m sp sv sc tx tl cd se ro (bI sb) qa qb qd lo re cr ap nu ha) := by
  refine MI.of (cc := cX6_valueOf) (nL := 2) (lv0 := [(0, .ref (h 0)), (1, .int (nI v))]) (by decide +kernel) rfl (Nat.le_of_ble_eq_true rfl) rfl ?_
  intro X hXl hin C ret
  subst hXl
  refine j_iload_n C 1 dX6_valueOf_0 rfl rfl ?_
  by_cases hv3 : v = 3
  · refine j_tswIn C dX6_valueOf_1 (by rw [hv3]; decide) (by rw [hv3]; decide) (off := 43) (by rw [hv3]; rfl) (tgt := 44) (by decide) ?_
    refine j_aload_n C 0 dX6_valueOf_44 rfl rfl ?_
    refine j_cv_i C (As := []) (rest := []) (ctX6_standing (xl X) D h m sp sv sc tx tl cd se ro (bI sb) qa qb qd lo re cr ap nu ha n (by first | assumption | omega | decide) (by first | assumption | omega | decide)) mfX6_standing gX6_valueOf_X6_standing rfl (Nat.le_of_ble_eq_true rfl) (Nat.le_of_ble_eq_true rfl) (Nat.le_of_ble_eq_true rfl) (Nat.le_of_ble_eq_true rfl) [0, 1, 2, 3, 4, 5, 6] rfl rfl 0 rfl rfl rfl rfl (Nat.le_of_ble_eq_true rfl) dX6_valueOf_45 ?_
    rintro _ _ ⟨rfl, rfl⟩
    refine ⟨rfl, ?_⟩
    refine j_w (w' := (wMo D h m sp sv sc tx tl cd se ro (bI sb) qa qb qd lo re cr ap nu ha)) rfl ?_
    refine j_cs_i C (As := [.int (stb (mT m) 0 n)]) (rest := []) (ctX6_many (xl X) D (stb (mT m) 0 n)) mfX6_many gX6_valueOf_X6_many rfl (Nat.le_of_ble_eq_true rfl) (Nat.le_of_ble_eq_true rfl) (Nat.le_of_ble_eq_true rfl) (Nat.le_of_ble_eq_true rfl) [] rfl rfl rfl (Nat.le_of_ble_eq_true rfl) dX6_valueOf_48 ?_
    rintro _ _ ⟨rfl, rfl⟩
    refine ⟨rfl, ?_⟩
    refine j_w (w' := (wMo D h m sp sv sc tx tl cd se ro (bI sb) qa qb qd lo re cr ap nu ha)) rfl ?_
    exact ret dX6_valueOf_51 (⟨by simp [vlS, bI, hv3], rfl⟩)
  by_cases hv4 : v = 4
  · refine j_tswIn C dX6_valueOf_1 (by rw [hv4]; decide) (by rw [hv4]; decide) (off := 51) (by rw [hv4]; rfl) (tgt := 52) (by decide) ?_
    refine j_aload_n C 0 dX6_valueOf_52 rfl rfl ?_
    refine j_get C 0 fgX6_valueOf_78 rfl rfl dX6_valueOf_53 ?_
    refine j_bif_eq C dX6_valueOf_56 (tgt := 69) (by decide) (fun h56 => ?_) (fun h56 => ?_)
    · refine j_iconst C (v := (0 : Int32)) dX6_valueOf_69 rfl ?_
      exact ret dX6_valueOf_70 (⟨by simp [vlS, bI, hv3, hv4, h56], rfl⟩)
    · refine j_aload_n C 0 dX6_valueOf_59 rfl rfl ?_
      refine j_get C 0 fgX6_valueOf_48 rfl rfl dX6_valueOf_60 ?_
      refine j_cs_i C (As := [.int se]) (rest := []) (ctX6_many (xl X) D se) mfX6_many gX6_valueOf_X6_many rfl (Nat.le_of_ble_eq_true rfl) (Nat.le_of_ble_eq_true rfl) (Nat.le_of_ble_eq_true rfl) (Nat.le_of_ble_eq_true rfl) [] rfl rfl rfl (Nat.le_of_ble_eq_true rfl) dX6_valueOf_63 ?_
      rintro _ _ ⟨rfl, rfl⟩
      refine ⟨rfl, ?_⟩
      refine j_w (w' := (wMo D h m sp sv sc tx tl cd se ro (bI sb) qa qb qd lo re cr ap nu ha)) rfl ?_
      refine j_goto C dX6_valueOf_66 (tgt := 70) (by decide) ?_
      exact ret dX6_valueOf_70 (⟨by simp [vlS, bI, hv3, hv4, h56], rfl⟩)
  by_cases hv5 : v = 5
  · refine j_tswIn C dX6_valueOf_1 (by rw [hv5]; decide) (by rw [hv5]; decide) (off := 70) (by rw [hv5]; rfl) (tgt := 71) (by decide) ?_
    refine j_aload_n C 0 dX6_valueOf_71 rfl rfl ?_
    refine j_cv_i C (As := []) (rest := []) (ctX6_overloaded (xl X) D h m sp sv sc tx tl cd se ro qa qb qd lo re cr ap nu ha sb n (by first | assumption | omega | decide) (by first | assumption | omega | decide)) mfX6_overloaded gX6_valueOf_X6_overloaded rfl (Nat.le_of_ble_eq_true rfl) (Nat.le_of_ble_eq_true rfl) (Nat.le_of_ble_eq_true rfl) (Nat.le_of_ble_eq_true rfl) [0, 1, 2, 3, 4, 5, 6] rfl rfl 0 rfl rfl rfl rfl (Nat.le_of_ble_eq_true rfl) dX6_valueOf_72 ?_
    rintro _ _ ⟨rfl, rfl⟩
    refine ⟨rfl, ?_⟩
    refine j_w (w' := (wMo D h m sp sv sc tx tl cd se ro (bI sb) qa qb qd lo re cr ap nu ha)) rfl ?_
    refine j_cs_i C (As := [.int (ovb sb lo (mL m) n)]) (rest := []) (ctX6_many (xl X) D (ovb sb lo (mL m) n)) mfX6_many gX6_valueOf_X6_many rfl (Nat.le_of_ble_eq_true rfl) (Nat.le_of_ble_eq_true rfl) (Nat.le_of_ble_eq_true rfl) (Nat.le_of_ble_eq_true rfl) [] rfl rfl rfl (Nat.le_of_ble_eq_true rfl) dX6_valueOf_75 ?_
    rintro _ _ ⟨rfl, rfl⟩
    refine ⟨rfl, ?_⟩
    refine j_w (w' := (wMo D h m sp sv sc tx tl cd se ro (bI sb) qa qb qd lo re cr ap nu ha)) rfl ?_
    exact ret dX6_valueOf_78 (⟨by simp [vlS, bI, hv3, hv4, hv5], rfl⟩)
  by_cases hv6 : v = 6
  · refine j_tswIn C dX6_valueOf_1 (by rw [hv6]; decide) (by rw [hv6]; decide) (off := 78) (by rw [hv6]; rfl) (tgt := 79) (by decide) ?_
    refine j_aload_n C 0 dX6_valueOf_79 rfl rfl ?_
    refine j_get C 0 fgX6_valueOf_78 rfl rfl dX6_valueOf_80 ?_
    refine j_bif_eq C dX6_valueOf_83 (tgt := 90) (by decide) (fun h83 => ?_) (fun h83 => ?_)
    · refine j_iconst C (v := (0 : Int32)) dX6_valueOf_90 rfl ?_
      exact ret dX6_valueOf_91 (⟨by simp [vlS, bI, hv3, hv4, hv5, hv6, h83], rfl⟩)
    · refine j_iconst C (v := (1 : Int32)) dX6_valueOf_86 rfl ?_
      refine j_goto C dX6_valueOf_87 (tgt := 91) (by decide) ?_
      exact ret dX6_valueOf_91 (⟨by simp [vlS, bI, hv3, hv4, hv5, hv6, h83], rfl⟩)
  by_cases hv7 : v = 7
  · refine j_tswIn C dX6_valueOf_1 (by rw [hv7]; decide) (by rw [hv7]; decide) (off := 91) (by rw [hv7]; rfl) (tgt := 92) (by decide) ?_
    refine j_aload_n C 0 dX6_valueOf_92 rfl rfl ?_
    refine j_get C 0 fgX6_valueOf_75 rfl rfl dX6_valueOf_93 ?_
    exact ret dX6_valueOf_96 (⟨by simp [vlS, bI, hv3, hv4, hv5, hv6, hv7], rfl⟩)
  by_cases hv8 : v = 8
  · refine j_tswIn C dX6_valueOf_1 (by rw [hv8]; decide) (by rw [hv8]; decide) (off := 96) (by rw [hv8]; rfl) (tgt := 97) (by decide) ?_
    refine j_aload_n C 0 dX6_valueOf_97 rfl rfl ?_
    refine j_cv_i C (As := []) (rest := []) (ctX6_greatestB (xl X) D h m sp sv sc tx tl cd se ro qa qb qd lo re cr ap nu ha sb n (by first | assumption | omega | decide) (by first | assumption | omega | decide)) mfX6_greatest gX6_valueOf_X6_greatest rfl (Nat.le_of_ble_eq_true rfl) (Nat.le_of_ble_eq_true rfl) (Nat.le_of_ble_eq_true rfl) (Nat.le_of_ble_eq_true rfl) [0, 1, 2, 3, 4, 5, 6] rfl rfl 0 rfl rfl rfl rfl (Nat.le_of_ble_eq_true rfl) dX6_valueOf_98 ?_
    rintro _ _ ⟨rfl, rfl⟩
    refine ⟨rfl, ?_⟩
    refine j_w (w' := (wMo D h m sp sv sc tx tl cd se ro (bI sb) qa qb qd lo re cr ap nu ha)) rfl ?_
    exact ret dX6_valueOf_101 (⟨by simp [vlS, bI, hv3, hv4, hv5, hv6, hv7, hv8], rfl⟩)
  by_cases hv9 : v = 9
  · refine j_tswIn C dX6_valueOf_1 (by rw [hv9]; decide) (by rw [hv9]; decide) (off := 101) (by rw [hv9]; rfl) (tgt := 102) (by decide) ?_
    refine j_aload_n C 0 dX6_valueOf_102 rfl rfl ?_
    refine j_cv_i C (As := []) (rest := []) (ctX6_heaviestB (xl X) D h m sp sv sc tx tl cd se ro qa qb qd lo re cr ap nu ha sb n (by first | assumption | omega | decide) (by first | assumption | omega | decide)) mfX6_heaviest gX6_valueOf_X6_heaviest rfl (Nat.le_of_ble_eq_true rfl) (Nat.le_of_ble_eq_true rfl) (Nat.le_of_ble_eq_true rfl) (Nat.le_of_ble_eq_true rfl) [0, 1, 2, 3, 4, 5, 6] rfl rfl 0 rfl rfl rfl rfl (Nat.le_of_ble_eq_true rfl) dX6_valueOf_103 ?_
    rintro _ _ ⟨rfl, rfl⟩
    refine ⟨rfl, ?_⟩
    refine j_w (w' := (wMo D h m sp sv sc tx tl cd se ro (bI sb) qa qb qd lo re cr ap nu ha)) rfl ?_
    exact ret dX6_valueOf_106 (⟨by simp [vlS, bI, hv3, hv4, hv5, hv6, hv7, hv8, hv9], rfl⟩)
  refine j_tswOut C dX6_valueOf_1 (Or.inl (nI_i3 v (by omega))) (tgt := 107) (by decide) ?_
  refine j_aload_n C 0 dX6_valueOf_107 rfl rfl ?_
  refine j_get C 0 fgX6_valueOf_7 rfl rfl dX6_valueOf_108 ?_
  refine j_iload_n C 1 dX6_valueOf_111 rfl rfl ?_
  refine j_iald C 1 rfl (i := v) rfl (by omega) (by decide) dX6_valueOf_112 ?_
  exact ret dX6_valueOf_113 (⟨by simp [vlS, bI, hv3, hv4, hv5, hv6, hv7, hv8, hv9], rfl⟩)

set_option maxRecDepth 100000 in
set_option maxHeartbeats 4000000 in
theorem ctX6_balanceOf (l : Launch) (D : KD) (h : Nat → Nat) (m sp sv : Nat → Int32) (sc : Int32) (tx : Nat → Int32) (tl cd se ro : Int32) (qa qb qd : Int64) (lo : Nat → Int32) (re : Nat → Int64) (cr ap nu : Int32) (ha : Int64) (sb : Bool) (v : Nat) (hv : v < 3) : ML l D yX6_balanceOf wsX6_balanceOf 0 0 0 0 [.ref (h 0), .int (nI v)] (wMo D h m sp sv sc tx tl cd se ro (bI sb) qa qb qd lo re cr ap nu ha) (fun r w1 => r = baS sb qa qb qd v ∧ w1 = wMo D h m sp sv sc tx tl cd se ro (bI sb) qa qb qd lo re cr ap nu ha) := by
  refine ML.of (cc := cX6_balanceOf) (nL := 2) (lv0 := [(0, .ref (h 0)), (1, .int (nI v))]) (by decide +kernel) rfl (Nat.le_of_ble_eq_true rfl) rfl ?_
  intro X hXl hin C ret
  subst hXl
  refine j_aload_n C 0 dX6_balanceOf_0 rfl rfl ?_
  refine j_get C 0 fgX6_balanceOf_78 rfl rfl dX6_balanceOf_1 ?_
  refine j_bif_ne C dX6_balanceOf_4 (tgt := 11) (by decide) (fun h4 => ?_) (fun h4 => ?_)
  · refine j_iload_n C 1 dX6_balanceOf_11 rfl rfl ?_
    refine j_if_ne C dX6_balanceOf_12 (tgt := 22) (by decide) (fun h12 => ?_) (fun h12 => ?_)
    · have hv0 : ¬ v = 0 := fun z => h12 (by rw [z]; rfl)
      refine j_iload_n C 1 dX6_balanceOf_22 rfl rfl ?_
      refine j_iconst C (v := (1 : Int32)) dX6_balanceOf_23 rfl ?_
      refine j_icmp_ne C dX6_balanceOf_24 (tgt := 34) (by decide) (fun h24 => ?_) (fun h24 => ?_)
      · have hv1 : ¬ v = 1 := fun z => h24 (by rw [z]; rfl)
        refine j_aload_n C 0 dX6_balanceOf_34 rfl rfl ?_
        refine j_get C 0 fgX6_balanceOf_55 rfl rfl dX6_balanceOf_35 ?_
        exact ret dX6_balanceOf_38 (⟨by simp [baS, h4, hv0, hv1], rfl⟩)
      · have hv1 : v = 1 := (nI_eq (b := 1) (by omega) (by decide)).mp h24
        refine j_aload_n C 0 dX6_balanceOf_27 rfl rfl ?_
        refine j_get C 0 fgX6_balanceOf_62 rfl rfl dX6_balanceOf_28 ?_
        refine j_goto C dX6_balanceOf_31 (tgt := 38) (by decide) ?_
        exact ret dX6_balanceOf_38 (⟨by simp [baS, h4, hv0, hv1], rfl⟩)
    · have hv0 : v = 0 := (nI_eq (b := 0) (by omega) (by decide)).mp h12
      refine j_aload_n C 0 dX6_balanceOf_15 rfl rfl ?_
      refine j_get C 0 fgX6_balanceOf_59 rfl rfl dX6_balanceOf_16 ?_
      refine j_goto C dX6_balanceOf_19 (tgt := 38) (by decide) ?_
      exact ret dX6_balanceOf_38 (⟨by simp [baS, h4, hv0], rfl⟩)
  · refine j_lconst C (v := (0 : Int64)) dX6_balanceOf_7 rfl ?_
    refine j_goto C dX6_balanceOf_8 (tgt := 38) (by decide) ?_
    exact ret dX6_balanceOf_38 (⟨by simp [baS, h4], rfl⟩)

set_option maxRecDepth 100000 in
set_option maxHeartbeats 4000000 in
theorem ctX6_canPullN (l : Launch) (D : KD) (h : Nat → Nat) (m sp sv : Nat → Int32) (sc : Int32) (tx : Nat → Int32) (tl cd se ro st : Int32) (qa qb qd : Int64) (lo : Nat → Int32) (re : Nat → Int64) (cr ap nu : Int32) (ha : Int64) (i : Nat) (hi : i < 16) (hc0 : ¬ m (3 + 6 * i + 4) = 0) : MI l D yX6_canPull wsX6_canPull 1 22 0 0 [.ref (h 0), .int (nI i)] (wMo D h m sp sv sc tx tl cd se ro st qa qb qd lo re cr ap nu ha) (fun r w1 => r = bI false ∧ w1 = wMo D h m sp sv sc tx tl cd se ro st qa qb qd lo re cr ap nu ha) := by
  refine MI.ofz (cc := cX6_canPull) (nL := 2) (lv0 := [(0, .ref (h 0)), (1, .int (nI i))]) (by decide +kernel) rfl (Nat.le_of_ble_eq_true rfl) rfl ?_
  intro X hXl hin C ret
  subst hXl
  refine j_aload_n C 0 dX6_canPull_0 rfl rfl ?_
  refine j_iload_n C 1 dX6_canPull_1 rfl rfl ?_
  refine j_iconst C (v := (4 : Int32)) dX6_canPull_2 rfl ?_
  refine j_cv_i C (As := [.int (nI i), .int (4 : Int32)]) (rest := []) (ctX6_of (xl X) D h m sp sv sc tx tl cd se ro st qa qb qd lo re cr ap nu ha i 4 (by first | assumption | omega | decide)) mfX6_of gX6_canPull_X6_of rfl (Nat.le_of_ble_eq_true rfl) (Nat.le_of_ble_eq_true rfl) (Nat.le_of_ble_eq_true rfl) (Nat.le_of_ble_eq_true rfl) [0, 1, 2, 3, 4, 5, 6] rfl rfl 0 rfl rfl rfl rfl (Nat.le_of_ble_eq_true rfl) dX6_canPull_3 ?_
  rintro _ _ ⟨rfl, rfl⟩
  refine ⟨rfl, ?_⟩
  refine j_w (w' := (wMo D h m sp sv sc tx tl cd se ro st qa qb qd lo re cr ap nu ha)) rfl ?_
  refine j_if_eq C dX6_canPull_6 (tgt := 11) (by decide) (fun h => absurd h hc0) (fun _ => ?_)
  refine j_iconst C (v := (0 : Int32)) dX6_canPull_9 rfl ?_
  exact ret dX6_canPull_10 (Or.inl rfl) (⟨rfl, rfl⟩)
