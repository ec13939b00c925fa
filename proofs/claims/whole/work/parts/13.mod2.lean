set_option maxRecDepth 100000 in
set_option maxHeartbeats 4000000 in
theorem ctX6_settle (l : Launch) (D : KD) (h : Nat → Nat) (m sp sv : Nat → Int32) (sc : Int32) (tx : Nat → Int32) (tl cd se ro st : Int32) (qa qb qd : Int64) (lo : Nat → Int32) (re : Nat → Int64) (cr ap nu : Int32) (ha : Int64) (n : Nat) (hn : n ≤ 16) (hc : m 2 = nI n) (hV : mVal m n) : MV l D yX6_settle wsX6_settle 3 68 0 0 [.ref (h 0)] (wMo D h m sp sv sc tx tl cd se ro st qa qb qd lo re cr ap nu ha) (fun w1 => ∃ (se1 : Int32) (re1 : Nat → Int64), ((mR m n).1 = true → se1 = (mR m n).2.2.1) ∧ w1 = wMo D h m sp sv sc tx tl cd se1 (nI (mR m n).2.1) (bI (mR m n).1) ((mR m n).2.2.2.1) ((mR m n).2.2.2.2.1) ((mR m n).2.2.2.2.2) (mLo m n) re1 cr ap nu ha) := by
  refine MV.of (cc := cX6_settle) (nL := 4) (lv0 := [(0, .ref (h 0))]) (by decide +kernel) rfl (Nat.le_of_ble_eq_true rfl) rfl ?_
  intro X hXl hin C ret
  subst hXl
  refine j_aload_n C 0 dX6_settle_0 rfl rfl ?_
  refine j_cv_i C (As := []) (rest := []) (ctX6_standing (xl X) D h m sp sv sc tx tl cd se ro st qa qb qd lo re cr ap nu ha n (by first | assumption | omega | decide) (by first | assumption | omega | decide)) mfX6_standing gX6_settle_X6_standing rfl (Nat.le_of_ble_eq_true rfl) (Nat.le_of_ble_eq_true rfl) (Nat.le_of_ble_eq_true rfl) (Nat.le_of_ble_eq_true rfl) [0, 1, 2, 3, 4, 5, 6] rfl rfl 0 rfl rfl rfl rfl (Nat.le_of_ble_eq_true rfl) dX6_settle_1 ?_
  rintro _ _ ⟨rfl, rfl⟩
  refine ⟨rfl, ?_⟩
  refine j_w (w' := (wMo D h m sp sv sc tx tl cd se ro st qa qb qd lo re cr ap nu ha)) rfl ?_
  refine j_istore_n C dX6_settle_4 rfl (by decide) (lv' := [(1, .int (stb (mT m) 0 n)), (0, .ref (h 0))]) rfl ?_
  refine j_aload_n C 1 dX6_settle_5 rfl rfl ?_
  refine j_iload_n C 0 dX6_settle_6 rfl rfl ?_
  refine j_put C 0 foX6_settle_48 rfl (w' := (wMo D h m sp sv sc tx tl cd (stb (mT m) 0 n) ro st qa qb qd lo re cr ap nu ha)) rfl rfl rfl (Nat.le_of_ble_eq_true rfl) dX6_settle_7 ?_
  refine j_aload_n C 1 dX6_settle_10 rfl rfl ?_
  refine j_iconst C (v := (0 : Int32)) dX6_settle_11 rfl ?_
  refine j_put C 0 foX6_settle_75 rfl (w' := (wMo D h m sp sv sc tx tl cd (stb (mT m) 0 n) (0 : Int32) st qa qb qd lo re cr ap nu ha)) rfl rfl rfl (Nat.le_of_ble_eq_true rfl) dX6_settle_12 ?_
  refine j_aload_n C 1 dX6_settle_15 rfl rfl ?_
  refine j_iconst C (v := (0 : Int32)) dX6_settle_16 rfl ?_
  refine j_put C 0 foX6_settle_78 rfl (w' := (wMo D h m sp sv sc tx tl cd (stb (mT m) 0 n) (0 : Int32) (0 : Int32) qa qb qd lo re cr ap nu ha)) rfl rfl rfl (Nat.le_of_ble_eq_true rfl) dX6_settle_17 ?_
  refine j_iconst C (v := (1 : Int32)) dX6_settle_20 rfl ?_
  refine j_istore_n C dX6_settle_21 rfl (by decide) (lv' := [(2, .int (1 : Int32)), (1, .int (stb (mT m) 0 n)), (0, .ref (h 0))]) rfl ?_
  obtain ⟨R, hRf⟩ : ∃ R, mR m n = R := ⟨_, rfl⟩
  have hend : ∀ (se1 : Int32), (R.1 = true → se1 = R.2.2.1) → J D X (wMo D h m sp sv sc tx tl cd se1 (nI R.2.1) (bI R.1) R.2.2.2.1 R.2.2.2.2.1 R.2.2.2.2.2 lo re cr ap nu ha) 0 0 22 [(2, .int (0 : Int32)), (1, .int (stb (mT m) 0 n)), (0, .ref (h 0))] [] := by
    intro se1 hse
    refine j_iload_n C 0 dX6_settle_22 rfl rfl ?_
    refine j_if_eq C dX6_settle_23 (tgt := 121) (by decide) (fun _ => ?_) (fun h => absurd (by decide) h)
    refine j_iconst C (v := (0 : Int32)) dX6_settle_121 rfl ?_
    refine j_istore_n C dX6_settle_122 rfl (by decide) (lv' := [(3, .int (0 : Int32)), (2, .int (0 : Int32)), (1, .int (stb (mT m) 0 n)), (0, .ref (h 0))]) rfl ?_
    have hl123 : ∀ i123, i123 ≤ 16 → ∀ (t123 : Nat → Int32), t123 = zf lo i123 → J D X (wMo D h m sp sv sc tx tl cd se1 (nI R.2.1) (bI R.1) R.2.2.2.1 R.2.2.2.2.1 R.2.2.2.2.2 t123 re cr ap nu ha) 0 0 123 [(3, .int (nI i123)), (0, .ref (h 0))] [] := by
      refine for_up (16) ?_ ?_
      · intro t123 ht123
        refine j_iload_n C 0 dX6_settle_123 rfl rfl ?_
        refine j_bipush C (v := (16 : Int32)) dX6_settle_124 rfl ?_
        refine j_icmp_ge C dX6_settle_126 (tgt := 142) (by decide) (fun _ => ?_) (fun h => absurd (nI_le (Nat.le_refl 16) (by decide)) h)
        refine j_asi 5 (fun _ => 0) rfl (fun j hj => by rw [ht123]; simp [zf, hj]) (w' := (wMo D h m sp sv sc tx tl cd se1 (nI R.2.1) (bI R.1) R.2.2.2.1 R.2.2.2.2.1 R.2.2.2.2.2 (fun _ => 0) re cr ap nu ha)) rfl ?_
        refine j_aload_n C 1 dX6_settle_142 rfl rfl ?_
        refine j_get C 0 fgX6_settle_78 rfl rfl dX6_settle_143 ?_
        refine j_bif_eq C dX6_settle_146 (tgt := 153) (by decide) (fun h146 => ?_) (fun h146 => ?_)
        · exact ret dX6_settle_153 (⟨se1, _, by rw [hRf]; exact hse, by simp only [mLo, hRf, h146]; rfl⟩)
        · refine j_aload_n C 1 dX6_settle_149 rfl rfl ?_
          refine j_cv_v C (As := []) (rest := []) (ctX6_share (xl X) D h m sp sv sc tx tl cd se1 (nI R.2.1) (bI R.1) R.2.2.2.1 R.2.2.2.2.1 R.2.2.2.2.2 (fun _ => 0) re cr ap nu ha n (by first | assumption | omega | decide) (by first | assumption | omega | decide) (by have h := (fb_pos _ _ _ _ (show (mR m n).1 = true by rw [hRf]; exact h146)).1; rw [← hRf]; exact h) rfl (by have h := (fb_pos _ _ _ _ (show (mR m n).1 = true by rw [hRf]; exact h146)).2.2; intro j h1 h2; rw [hse h146, ← hRf]; exact (congrArg (fun z => bt z j) h).symm.trans (nx_hi n (by omega) j h1 h2)) (by have h := mVal_good hn hV (by rw [hRf]; exact h146); rw [hRf] at h; rw [hse h146]; exact h)) mfX6_share gX6_settle_X6_share rfl (Nat.le_of_ble_eq_true rfl) (Nat.le_of_ble_eq_true rfl) (Nat.le_of_ble_eq_true rfl) (Nat.le_of_ble_eq_true rfl) [0, 1, 2, 3, 4, 5, 6] rfl rfl 0 rfl rfl rfl rfl (Nat.le_of_ble_eq_true rfl) dX6_settle_150 ?_
          rintro _ rfl
          refine ⟨rfl, ?_⟩
          refine j_w (w' := (wMo D h m sp sv sc tx tl cd se1 (nI R.2.1) (bI R.1) R.2.2.2.1 R.2.2.2.2.1 R.2.2.2.2.2 ((ldS (mP m) (mK m) (mH m) se1 (m 0) (R.2.2.2.1, R.2.2.2.2.1, R.2.2.2.2.2) (fun _ => 0)).1) ((ldS (mP m) (mK m) (mH m) se1 (m 0) (R.2.2.2.1, R.2.2.2.2.1, R.2.2.2.2.2) (fun _ => 0)).2) cr ap nu ha)) rfl ?_
          exact ret dX6_settle_153 (⟨se1, _, by rw [hRf]; exact hse, by simp only [mLo, hRf, h146, if_true]; rw [hse h146]⟩)
      · intro i123 hi123 ih123 t123 ht123
        refine j_iload_n C 0 dX6_settle_123 rfl rfl ?_
        refine j_bipush C (v := (16 : Int32)) dX6_settle_124 rfl ?_
        refine j_icmp_ge C dX6_settle_126 (tgt := 142) (by decide) (fun h => absurd h (nI_ge hi123 (by decide))) (fun _ => ?_)
        refine j_aload_n C 1 dX6_settle_129 rfl rfl ?_
        refine j_get C 0 fgX6_settle_22 rfl rfl dX6_settle_130 ?_
        refine j_iload_n C 0 dX6_settle_133 rfl rfl ?_
        refine j_iconst C (v := (0 : Int32)) dX6_settle_134 rfl ?_
        refine j_iast C 5 rfl (i := i123) rfl (by omega) (by decide) (w' := (wMo D h m sp sv sc tx tl cd se1 (nI R.2.1) (bI R.1) R.2.2.2.1 R.2.2.2.2.1 R.2.2.2.2.2 (upd t123 i123 (0 : Int32)) re cr ap nu ha)) rfl dX6_settle_135 ?_
        refine j_iinc C 0 dX6_settle_136 rfl (v := nI (i123 + 1)) (nI_1 _) (by decide) (lv' := [(3, .int (nI (i123 + 1))), (0, .ref (h 0))]) rfl ?_
        refine j_goto C dX6_settle_139 (tgt := 123) (by decide) ?_
        refine j_sub [0, 1] (lv' := [(3, .int (nI (i123 + 1))), (0, .ref (h 0))]) rfl ?_
        exact ih123 (upd t123 i123 (0 : Int32)) (by rw [← zf_s]; try rw [← ht123]; try rfl)
    refine j_sub [0, 3] (lv' := [(3, .int (0 : Int32)), (0, .ref (h 0))]) rfl ?_
    exact hl123 0 (Nat.zero_le _) lo (zf_0 _).symm
  have key : ∀ (n0 r0 : Nat) (x0 : Int32) (q0 : Int64 × Int64 × Int64), n0 + r0 = 30 → 0 < n0 → fb (sol (mP m) (mK m) (mH m) (m 0) (m 1) n) (fun q => nx (mP m) (mH m) (stb (mT m) 0 n) q n) n0 r0 x0 q0 = R → J D X (wMo D h m sp sv sc tx tl cd x0 (nI r0) 0 q0.1 q0.2.1 q0.2.2 lo re cr ap nu ha) 0 0 22 [(2, .int (1 : Int32)), (1, .int (stb (mT m) 0 n)), (0, .ref (h 0))] [] := by
    intro n0
    induction n0 with
    | zero => intro r0 x0 q0 hm h0; omega
    | succ n0 ih =>
      intro r0 x0 q0 hm h0 hres
      obtain ⟨fx, hfx⟩ : ∃ q, sol (mP m) (mK m) (mH m) (m 0) (m 1) n x0 = q := ⟨_, rfl⟩
      refine j_iload_n C 0 dX6_settle_22 rfl rfl ?_
      refine j_if_eq C dX6_settle_23 (tgt := 121) (by decide) (fun h => absurd h (by decide)) (fun _ => ?_)
      refine j_aload_n C 2 dX6_settle_26 rfl rfl ?_
      refine j_dup C dX6_settle_27 rfl ?_
      refine j_get C 0 fgX6_settle_75 rfl rfl dX6_settle_28 ?_
      refine j_iconst C (v := (1 : Int32)) dX6_settle_31 rfl ?_
      refine j_iadd C dX6_settle_32 ?_
      refine j_eqi (y := nI (r0 + 1)) (nI_add r0 1) ?_
      refine j_put C 0 foX6_settle_75 rfl (w' := (wMo D h m sp sv sc tx tl cd x0 (nI (r0 + 1)) 0 q0.1 q0.2.1 q0.2.2 lo re cr ap nu ha)) rfl rfl rfl (Nat.le_of_ble_eq_true rfl) dX6_settle_33 ?_
      refine j_aload_n C 2 dX6_settle_36 rfl rfl ?_
      refine j_cv_i C (As := []) (rest := []) (ctX6_solves (xl X) D h m sp sv sc tx tl cd x0 (nI (r0 + 1)) 0 q0.1 q0.2.1 q0.2.2 lo re cr ap nu ha n (by first | assumption | omega | decide) (by first | assumption | omega | decide)) mfX6_solves gX6_settle_X6_solves rfl (Nat.le_of_ble_eq_true rfl) (Nat.le_of_ble_eq_true rfl) (Nat.le_of_ble_eq_true rfl) (Nat.le_of_ble_eq_true rfl) [0, 1, 2, 3, 4, 5, 6] rfl rfl 0 rfl rfl rfl rfl (Nat.le_of_ble_eq_true rfl) dX6_settle_37 ?_
      rintro _ _ ⟨rfl, rfl⟩
      refine ⟨rfl, ?_⟩
      refine j_w (w' := (wMo D h m sp sv sc tx tl cd x0 (nI (r0 + 1)) 0 ((sol (mP m) (mK m) (mH m) (m 0) (m 1) n x0).1) ((sol (mP m) (mK m) (mH m) (m 0) (m 1) n x0).2.1) ((sol (mP m) (mK m) (mH m) (m 0) (m 1) n x0).2.2) lo re cr ap nu ha)) rfl ?_
      rw [hfx]
      refine j_istore_n C dX6_settle_40 rfl (by decide) (lv' := [(2, .int (bI (decide (0 < fx.2.2)))), (1, .int (stb (mT m) 0 n)), (0, .ref (h 0))]) rfl ?_
      refine j_iload_n C 0 dX6_settle_41 rfl rfl ?_
      refine j_bif_eq C dX6_settle_42 (tgt := 53) (by decide) (fun h42 => ?_) (fun h42 => ?_)
      · have h42n := Int64.not_lt.mp (of_decide_eq_false h42)
        refine j_iconst C (v := (0 : Int32)) dX6_settle_53 rfl ?_
        refine j_istore_n C dX6_settle_54 rfl (by decide) (lv' := [(3, .int (0 : Int32)), (2, .int (bI (decide (0 < fx.2.2)))), (1, .int (stb (mT m) 0 n)), (0, .ref (h 0))]) rfl ?_
        refine j_aload_n C 3 dX6_settle_55 rfl rfl ?_
        refine j_iload_n C 1 dX6_settle_56 rfl rfl ?_
        refine j_bif_eq C dX6_settle_57 (tgt := 72) (by decide) (fun _ => ?_) (fun h => (by rw [h42] at h; cases h))
        refine j_iconst C (v := (0 : Int32)) dX6_settle_72 rfl ?_
        refine j_put C 0 foX6_settle_78 rfl (w' := (wMo D h m sp sv sc tx tl cd x0 (nI (r0 + 1)) (0 : Int32) fx.1 fx.2.1 fx.2.2 lo re cr ap nu ha)) rfl rfl rfl (Nat.le_of_ble_eq_true rfl) dX6_settle_73 ?_
        refine j_iload_n C 1 dX6_settle_76 rfl rfl ?_
        refine j_bif_eq C dX6_settle_77 (tgt := 100) (by decide) (fun _ => ?_) (fun h => (by rw [h42] at h; cases h))
        refine j_iconst C (v := (0 : Int32)) dX6_settle_100 rfl ?_
        refine j_istore_n C dX6_settle_101 rfl (by decide) (lv' := [(2, .int (0 : Int32)), (3, .int (0 : Int32)), (1, .int (stb (mT m) 0 n)), (0, .ref (h 0))]) rfl ?_
        refine j_aload_n C 3 dX6_settle_102 rfl rfl ?_
        refine j_iload_n C 0 dX6_settle_103 rfl rfl ?_
        refine j_if_eq C dX6_settle_104 (tgt := 111) (by decide) (fun _ => ?_) (fun h => absurd (by decide) h)
        refine j_aload_n C 3 dX6_settle_111 rfl rfl ?_
        refine j_get C 0 fgX6_settle_48 rfl rfl dX6_settle_112 ?_
        refine j_put C 0 foX6_settle_48 rfl (w' := (wMo D h m sp sv sc tx tl cd x0 (nI (r0 + 1)) (0 : Int32) fx.1 fx.2.1 fx.2.2 lo re cr ap nu ha)) rfl rfl rfl (Nat.le_of_ble_eq_true rfl) dX6_settle_115 ?_
        refine j_goto C dX6_settle_118 (tgt := 22) (by decide) ?_
        refine j_sub [0, 2, 3] (lv' := [(2, .int (0 : Int32)), (1, .int (stb (mT m) 0 n)), (0, .ref (h 0))]) rfl ?_
        obtain rfl : R = (false, r0 + 1, 0, fx) := by rw [← hres, fb_le (f := (sol (mP m) (mK m) (mH m) (m 0) (m 1) n)) (g := (fun q => nx (mP m) (mH m) (stb (mT m) 0 n) q n)) (n := n0) (r := r0) (x := x0) (q := q0) (by rw [hfx]; exact h42n), hfx]
        exact hend x0 (fun z => by cases z)
      · have h42n := Int64.not_le.mpr (of_decide_eq_true h42)
        refine j_aload_n C 2 dX6_settle_45 rfl rfl ?_
        refine j_iload_n C 1 dX6_settle_46 rfl rfl ?_
        refine j_cv_i C (As := [.int (stb (mT m) 0 n)]) (rest := []) (ctX6_nextSet (xl X) D h m sp sv sc tx tl cd x0 (nI (r0 + 1)) 0 fx.1 fx.2.1 fx.2.2 lo re cr ap nu ha n (by first | assumption | omega | decide) (by first | assumption | omega | decide) (stb (mT m) 0 n)) mfX6_nextSet gX6_settle_X6_nextSet rfl (Nat.le_of_ble_eq_true rfl) (Nat.le_of_ble_eq_true rfl) (Nat.le_of_ble_eq_true rfl) (Nat.le_of_ble_eq_true rfl) [0, 1, 2, 3, 4, 5, 6] rfl rfl 0 rfl rfl rfl rfl (Nat.le_of_ble_eq_true rfl) dX6_settle_47 ?_
        rintro _ _ ⟨rfl, rfl⟩
        refine ⟨rfl, ?_⟩
        refine j_w (w' := (wMo D h m sp sv sc tx tl cd x0 (nI (r0 + 1)) 0 fx.1 fx.2.1 fx.2.2 lo re cr ap nu ha)) rfl ?_
        refine j_goto C dX6_settle_50 (tgt := 54) (by decide) ?_
        refine j_istore_n C dX6_settle_54 rfl (by decide) (lv' := [(3, .int (nx (mP m) (mH m) (stb (mT m) 0 n) (fx.1, fx.2.1, fx.2.2) n)), (2, .int (bI (decide (0 < fx.2.2)))), (1, .int (stb (mT m) 0 n)), (0, .ref (h 0))]) rfl ?_
        refine j_aload_n C 3 dX6_settle_55 rfl rfl ?_
        refine j_iload_n C 1 dX6_settle_56 rfl rfl ?_
        refine j_bif_eq C dX6_settle_57 (tgt := 72) (by decide) (fun h => (by rw [h42] at h; cases h)) (fun _ => ?_)
        refine j_iload_n C 0 dX6_settle_60 rfl rfl ?_
        refine j_aload_n C 3 dX6_settle_61 rfl rfl ?_
        refine j_get C 0 fgX6_settle_48 rfl rfl dX6_settle_62 ?_
        refine j_icmp_ne C dX6_settle_65 (tgt := 72) (by decide) (fun h65 => ?_) (fun h65 => ?_)
        · refine j_iconst C (v := (0 : Int32)) dX6_settle_72 rfl ?_
          refine j_put C 0 foX6_settle_78 rfl (w' := (wMo D h m sp sv sc tx tl cd x0 (nI (r0 + 1)) (0 : Int32) fx.1 fx.2.1 fx.2.2 lo re cr ap nu ha)) rfl rfl rfl (Nat.le_of_ble_eq_true rfl) dX6_settle_73 ?_
          refine j_iload_n C 1 dX6_settle_76 rfl rfl ?_
          refine j_bif_eq C dX6_settle_77 (tgt := 100) (by decide) (fun h => (by rw [h42] at h; cases h)) (fun _ => ?_)
          refine j_aload_n C 3 dX6_settle_80 rfl rfl ?_
          refine j_get C 0 fgX6_settle_78 rfl rfl dX6_settle_81 ?_
          refine j_if_ne C dX6_settle_84 (tgt := 100) (by decide) (fun h => absurd (by decide) h) (fun _ => ?_)
          refine j_aload_n C 3 dX6_settle_87 rfl rfl ?_
          refine j_get C 0 fgX6_settle_75 rfl rfl dX6_settle_88 ?_
          refine j_bipush C (v := (30 : Int32)) dX6_settle_91 rfl ?_
          refine j_icmp_ge C dX6_settle_93 (tgt := 100) (by decide) (fun h93 => ?_) (fun h93 => ?_)
          · have h93' := Int32.not_lt.mpr h93
            refine j_iconst C (v := (0 : Int32)) dX6_settle_100 rfl ?_
            refine j_istore_n C dX6_settle_101 rfl (by decide) (lv' := [(2, .int (0 : Int32)), (3, .int (nx (mP m) (mH m) (stb (mT m) 0 n) (fx.1, fx.2.1, fx.2.2) n)), (1, .int (stb (mT m) 0 n)), (0, .ref (h 0))]) rfl ?_
            refine j_aload_n C 3 dX6_settle_102 rfl rfl ?_
            refine j_iload_n C 0 dX6_settle_103 rfl rfl ?_
            refine j_if_eq C dX6_settle_104 (tgt := 111) (by decide) (fun _ => ?_) (fun h => absurd (by decide) h)
            refine j_aload_n C 3 dX6_settle_111 rfl rfl ?_
            refine j_get C 0 fgX6_settle_48 rfl rfl dX6_settle_112 ?_
            refine j_put C 0 foX6_settle_48 rfl (w' := (wMo D h m sp sv sc tx tl cd x0 (nI (r0 + 1)) (0 : Int32) fx.1 fx.2.1 fx.2.2 lo re cr ap nu ha)) rfl rfl rfl (Nat.le_of_ble_eq_true rfl) dX6_settle_115 ?_
            refine j_goto C dX6_settle_118 (tgt := 22) (by decide) ?_
            refine j_sub [0, 2, 3] (lv' := [(2, .int (0 : Int32)), (1, .int (stb (mT m) 0 n)), (0, .ref (h 0))]) rfl ?_
            obtain rfl : n0 = 0 := by have := (nI_leI (a := 30) (by omega) (by omega)).mp h93; omega
            obtain rfl : R = (false, r0 + 1, 0, fx) := by rw [← hres, fb_ne (f := (sol (mP m) (mK m) (mH m) (m 0) (m 1) n)) (g := (fun q => nx (mP m) (mH m) (stb (mT m) 0 n) q n)) (n := 0) (r := r0) (x := x0) (q := q0) (by rw [hfx]; exact h42n) (by rw [hfx]; exact h65), hfx]; rfl
            exact hend x0 (fun z => by cases z)
          · have h93' := Int32.not_le.mp h93
            refine j_iconst C (v := (1 : Int32)) dX6_settle_96 rfl ?_
            refine j_goto C dX6_settle_97 (tgt := 101) (by decide) ?_
            refine j_istore_n C dX6_settle_101 rfl (by decide) (lv' := [(2, .int (1 : Int32)), (3, .int (nx (mP m) (mH m) (stb (mT m) 0 n) (fx.1, fx.2.1, fx.2.2) n)), (1, .int (stb (mT m) 0 n)), (0, .ref (h 0))]) rfl ?_
            refine j_aload_n C 3 dX6_settle_102 rfl rfl ?_
            refine j_iload_n C 0 dX6_settle_103 rfl rfl ?_
            refine j_if_eq C dX6_settle_104 (tgt := 111) (by decide) (fun h => absurd h (by decide)) (fun _ => ?_)
            refine j_iload_n C 1 dX6_settle_107 rfl rfl ?_
            refine j_goto C dX6_settle_108 (tgt := 115) (by decide) ?_
            refine j_put C 0 foX6_settle_48 rfl (w' := (wMo D h m sp sv sc tx tl cd (nx (mP m) (mH m) (stb (mT m) 0 n) (fx.1, fx.2.1, fx.2.2) n) (nI (r0 + 1)) (0 : Int32) fx.1 fx.2.1 fx.2.2 lo re cr ap nu ha)) rfl rfl rfl (Nat.le_of_ble_eq_true rfl) dX6_settle_115 ?_
            refine j_goto C dX6_settle_118 (tgt := 22) (by decide) ?_
            refine j_sub [0, 2, 3] (lv' := [(2, .int (1 : Int32)), (1, .int (stb (mT m) 0 n)), (0, .ref (h 0))]) rfl ?_
            exact ih (r0 + 1) _ fx (by omega) (by have := Nat.lt_of_not_le fun z => h93 ((nI_leI (a := 30) (by omega) (by omega)).mpr z); omega) (by rw [← hres, fb_ne (f := (sol (mP m) (mK m) (mH m) (m 0) (m 1) n)) (g := (fun q => nx (mP m) (mH m) (stb (mT m) 0 n) q n)) (n := n0) (r := r0) (x := x0) (q := q0) (by rw [hfx]; exact h42n) (by rw [hfx]; exact h65), hfx]; try rfl)
        · refine j_iconst C (v := (1 : Int32)) dX6_settle_68 rfl ?_
          refine j_goto C dX6_settle_69 (tgt := 73) (by decide) ?_
          refine j_put C 0 foX6_settle_78 rfl (w' := (wMo D h m sp sv sc tx tl cd x0 (nI (r0 + 1)) (1 : Int32) fx.1 fx.2.1 fx.2.2 lo re cr ap nu ha)) rfl rfl rfl (Nat.le_of_ble_eq_true rfl) dX6_settle_73 ?_
          refine j_iload_n C 1 dX6_settle_76 rfl rfl ?_
          refine j_bif_eq C dX6_settle_77 (tgt := 100) (by decide) (fun h => (by rw [h42] at h; cases h)) (fun _ => ?_)
          refine j_aload_n C 3 dX6_settle_80 rfl rfl ?_
          refine j_get C 0 fgX6_settle_78 rfl rfl dX6_settle_81 ?_
          refine j_if_ne C dX6_settle_84 (tgt := 100) (by decide) (fun _ => ?_) (fun h => absurd h (by decide))
          refine j_iconst C (v := (0 : Int32)) dX6_settle_100 rfl ?_
          refine j_istore_n C dX6_settle_101 rfl (by decide) (lv' := [(2, .int (0 : Int32)), (3, .int (nx (mP m) (mH m) (stb (mT m) 0 n) (fx.1, fx.2.1, fx.2.2) n)), (1, .int (stb (mT m) 0 n)), (0, .ref (h 0))]) rfl ?_
          refine j_aload_n C 3 dX6_settle_102 rfl rfl ?_
          refine j_iload_n C 0 dX6_settle_103 rfl rfl ?_
          refine j_if_eq C dX6_settle_104 (tgt := 111) (by decide) (fun _ => ?_) (fun h => absurd (by decide) h)
          refine j_aload_n C 3 dX6_settle_111 rfl rfl ?_
          refine j_get C 0 fgX6_settle_48 rfl rfl dX6_settle_112 ?_
          refine j_put C 0 foX6_settle_48 rfl (w' := (wMo D h m sp sv sc tx tl cd x0 (nI (r0 + 1)) (1 : Int32) fx.1 fx.2.1 fx.2.2 lo re cr ap nu ha)) rfl rfl rfl (Nat.le_of_ble_eq_true rfl) dX6_settle_115 ?_
          refine j_goto C dX6_settle_118 (tgt := 22) (by decide) ?_
          refine j_sub [0, 2, 3] (lv' := [(2, .int (0 : Int32)), (1, .int (stb (mT m) 0 n)), (0, .ref (h 0))]) rfl ?_
          obtain rfl : R = (true, r0 + 1, x0, fx) := by rw [← hres, fb_eq (f := (sol (mP m) (mK m) (mH m) (m 0) (m 1) n)) (g := (fun q => nx (mP m) (mH m) (stb (mT m) 0 n) q n)) (n := n0) (r := r0) (x := x0) (q := q0) (by rw [hfx]; exact h42n) (by rw [hfx]; exact h65), hfx]
          exact hend x0 (fun _ => rfl)
  refine j_sub [0, 1, 2] (lv' := [(2, .int (1 : Int32)), (1, .int (stb (mT m) 0 n)), (0, .ref (h 0))]) rfl ?_
  exact key 30 0 (stb (mT m) 0 n) (qa, qb, qd) rfl (by decide) hRf

set_option maxRecDepth 100000 in
set_option maxHeartbeats 4000000 in
theorem ctX6_bears (l : Launch) (D : KD) (h : Nat → Nat) (m sp sv : Nat → Int32) (sc : Int32) (tx : Nat → Int32) (tl cd se ro : Int32) (qa qb qd : Int64) (lo : Nat → Int32) (re : Nat → Int64) (cr ap nu : Int32) (ha : Int64) (sb : Bool) (i : Nat) (hi : i < 16) : MI l D yX6_bears wsX6_bears 1 21 0 0 [.ref (h 0), .int (nI i)] (wMo D h m sp sv sc tx tl cd se ro (bI sb) qa qb qd lo re cr ap nu ha) (fun r w1 => r = bI (sb && bt se i) ∧ w1 = wMo D h m sp sv sc tx tl cd se ro (bI sb) qa qb qd lo re cr ap nu ha) := by
  refine MI.ofz (cc := cX6_bears) (nL := 2) (lv0 := [(0, .ref (h 0)), (1, .int (nI i))]) (by decide +kernel) rfl (Nat.le_of_ble_eq_true rfl) rfl ?_
  intro X hXl hin C ret
  subst hXl
  refine j_aload_n C 0 dX6_bears_0 rfl rfl ?_
  refine j_get C 0 fgX6_bears_78 rfl rfl dX6_bears_1 ?_
  refine j_bif_eq C dX6_bears_4 (tgt := 22) (by decide) (fun h4 => ?_) (fun h4 => ?_)
  · refine j_iconst C (v := (0 : Int32)) dX6_bears_22 rfl ?_
    exact ret dX6_bears_23 (Or.inl rfl) (⟨by simp [bI, h4], rfl⟩)
  · refine j_aload_n C 0 dX6_bears_7 rfl rfl ?_
    refine j_get C 0 fgX6_bears_48 rfl rfl dX6_bears_8 ?_
    refine j_iload_n C 1 dX6_bears_11 rfl rfl ?_
    refine j_cs_i C (As := [.int se, .int (nI i)]) (rest := []) (ctX6_has (xl X) D se i (by first | assumption | omega | decide)) mfX6_has gX6_bears_X6_has rfl (Nat.le_of_ble_eq_true rfl) (Nat.le_of_ble_eq_true rfl) (Nat.le_of_ble_eq_true rfl) (Nat.le_of_ble_eq_true rfl) [] rfl rfl rfl (Nat.le_of_ble_eq_true rfl) dX6_bears_12 ?_
    rintro _ _ ⟨rfl, rfl⟩
    refine ⟨rfl, ?_⟩
    refine j_w (w' := (wMo D h m sp sv sc tx tl cd se ro (bI sb) qa qb qd lo re cr ap nu ha)) rfl ?_
    refine j_bif_eq C dX6_bears_15 (tgt := 22) (by decide) (fun h15 => ?_) (fun h15 => ?_)
    · refine j_iconst C (v := (0 : Int32)) dX6_bears_22 rfl ?_
      exact ret dX6_bears_23 (Or.inl rfl) (⟨by simp [bI, h4, h15], rfl⟩)
    · refine j_iconst C (v := (1 : Int32)) dX6_bears_18 rfl ?_
      refine j_goto C dX6_bears_19 (tgt := 23) (by decide) ?_
      exact ret dX6_bears_23 (Or.inr rfl) (⟨by simp [bI, h4, h15], rfl⟩)

set_option maxRecDepth 100000 in
set_option maxHeartbeats 4000000 in
theorem ctX6_isOver (l : Launch) (D : KD) (h : Nat → Nat) (m sp sv : Nat → Int32) (sc : Int32) (tx : Nat → Int32) (tl cd se ro : Int32) (qa qb qd : Int64) (lo : Nat → Int32) (re : Nat → Int64) (cr ap nu : Int32) (ha : Int64) (sb : Bool) (i : Nat) (hi : i < 16) : MI l D yX6_isOver wsX6_isOver 1 22 0 0 [.ref (h 0), .int (nI i)] (wMo D h m sp sv sc tx tl cd se ro (bI sb) qa qb qd lo re cr ap nu ha) (fun r w1 => r = bI (sb && decide (mL m i < lo i)) ∧ w1 = wMo D h m sp sv sc tx tl cd se ro (bI sb) qa qb qd lo re cr ap nu ha) := by
  refine MI.ofz (cc := cX6_isOver) (nL := 2) (lv0 := [(0, .ref (h 0)), (1, .int (nI i))]) (by decide +kernel) rfl (Nat.le_of_ble_eq_true rfl) rfl ?_
  intro X hXl hin C ret
  subst hXl
  refine j_aload_n C 0 dX6_isOver_0 rfl rfl ?_
  refine j_get C 0 fgX6_isOver_78 rfl rfl dX6_isOver_1 ?_
  refine j_bif_eq C dX6_isOver_4 (tgt := 26) (by decide) (fun h4 => ?_) (fun h4 => ?_)
  · refine j_iconst C (v := (0 : Int32)) dX6_isOver_26 rfl ?_
    exact ret dX6_isOver_27 (Or.inl rfl) (⟨by simp [bI, h4], rfl⟩)
  · refine j_aload_n C 0 dX6_isOver_7 rfl rfl ?_
    refine j_get C 0 fgX6_isOver_22 rfl rfl dX6_isOver_8 ?_
    refine j_iload_n C 1 dX6_isOver_11 rfl rfl ?_
    refine j_iald C 5 rfl (i := i) rfl (by omega) (by decide) dX6_isOver_12 ?_
    refine j_aload_n C 0 dX6_isOver_13 rfl rfl ?_
    refine j_iload_n C 1 dX6_isOver_14 rfl rfl ?_
    refine j_iconst C (v := (3 : Int32)) dX6_isOver_15 rfl ?_
    refine j_cv_i C (As := [.int (nI i), .int (3 : Int32)]) (rest := [.int (lo i)]) (ctX6_of (xl X) D h m sp sv sc tx tl cd se ro (bI sb) qa qb qd lo re cr ap nu ha i 3 (by first | assumption | omega | decide)) mfX6_of gX6_isOver_X6_of rfl (Nat.le_of_ble_eq_true rfl) (Nat.le_of_ble_eq_true rfl) (Nat.le_of_ble_eq_true rfl) (Nat.le_of_ble_eq_true rfl) [0, 1, 2, 3, 4, 5, 6] rfl rfl 0 rfl rfl rfl rfl (Nat.le_of_ble_eq_true rfl) dX6_isOver_16 ?_
    rintro _ _ ⟨rfl, rfl⟩
    refine ⟨rfl, ?_⟩
    refine j_w (w' := (wMo D h m sp sv sc tx tl cd se ro (bI sb) qa qb qd lo re cr ap nu ha)) rfl ?_
    refine j_eqi (y := mL m i) rfl ?_
    refine j_icmp_le C dX6_isOver_19 (tgt := 26) (by decide) (fun h19 => ?_) (fun h19 => ?_)
    · have h19' := Int32.not_lt.mpr h19
      refine j_iconst C (v := (0 : Int32)) dX6_isOver_26 rfl ?_
      exact ret dX6_isOver_27 (Or.inl rfl) (⟨by simp [bI, h4, h19, h19'], rfl⟩)
    · have h19' := Int32.not_le.mp h19
      refine j_iconst C (v := (1 : Int32)) dX6_isOver_22 rfl ?_
      refine j_goto C dX6_isOver_23 (tgt := 27) (by decide) ?_
      exact ret dX6_isOver_27 (Or.inr rfl) (⟨by simp [bI, h4, h19, h19'], rfl⟩)

set_option maxRecDepth 100000 in
set_option maxHeartbeats 4000000 in
theorem ctX6_overloaded (l : Launch) (D : KD) (h : Nat → Nat) (m sp sv : Nat → Int32) (sc : Int32) (tx : Nat → Int32) (tl cd se ro : Int32) (qa qb qd : Int64) (lo : Nat → Int32) (re : Nat → Int64) (cr ap nu : Int32) (ha : Int64) (sb : Bool) (n : Nat) (hn : n ≤ 16) (hc : m 2 = nI n) : MI l D yX6_overloaded wsX6_overloaded 2 43 0 0 [.ref (h 0)] (wMo D h m sp sv sc tx tl cd se ro (bI sb) qa qb qd lo re cr ap nu ha) (fun r w1 => r = ovb sb lo (mL m) n ∧ w1 = wMo D h m sp sv sc tx tl cd se ro (bI sb) qa qb qd lo re cr ap nu ha) := by
  refine MI.of (cc := cX6_overloaded) (nL := 3) (lv0 := [(0, .ref (h 0))]) (by decide +kernel) rfl (Nat.le_of_ble_eq_true rfl) rfl ?_
  intro X hXl hin C ret
  subst hXl
  refine j_iconst C (v := (0 : Int32)) dX6_overloaded_0 rfl ?_
  refine j_istore_n C dX6_overloaded_1 rfl (by decide) (lv' := [(1, .int (0 : Int32)), (0, .ref (h 0))]) rfl ?_
  refine j_iconst C (v := (0 : Int32)) dX6_overloaded_2 rfl ?_
  refine j_istore_n C dX6_overloaded_3 rfl (by decide) (lv' := [(2, .int (0 : Int32)), (1, .int (0 : Int32)), (0, .ref (h 0))]) rfl ?_
  have hl4 : ∀ i4, i4 ≤ n → ∀ (t4 : Int32), t4 = ovb sb lo (mL m) i4 → J D X (wMo D h m sp sv sc tx tl cd se ro (bI sb) qa qb qd lo re cr ap nu ha) 0 0 4 [(2, .int (nI i4)), (1, .int t4), (0, .ref (h 0))] [] := by
    refine for_up (n) ?_ ?_
    · intro t4 ht4
      refine j_iload_n C 0 dX6_overloaded_4 rfl rfl ?_
      refine j_aload_n C 2 dX6_overloaded_5 rfl rfl ?_
      refine j_get C 0 fgX6_overloaded_7 rfl rfl dX6_overloaded_6 ?_
      refine j_iconst C (v := (2 : Int32)) dX6_overloaded_9 rfl ?_
      refine j_iald C 1 rfl (i := 2) rfl (by decide) (by decide) dX6_overloaded_10 ?_
      refine j_eqi (y := nI n) hc ?_
      refine j_icmp_ge C dX6_overloaded_11 (tgt := 38) (by decide) (fun _ => ?_) (fun h => absurd (Int32.le_refl _) h)
      refine j_iload_n C 1 dX6_overloaded_38 rfl rfl ?_
      exact ret dX6_overloaded_39 (⟨ht4, rfl⟩)
    · intro i4 hi4 ih4 t4 ht4
      refine j_iload_n C 0 dX6_overloaded_4 rfl rfl ?_
      refine j_aload_n C 2 dX6_overloaded_5 rfl rfl ?_
      refine j_get C 0 fgX6_overloaded_7 rfl rfl dX6_overloaded_6 ?_
      refine j_iconst C (v := (2 : Int32)) dX6_overloaded_9 rfl ?_
      refine j_iald C 1 rfl (i := 2) rfl (by decide) (by decide) dX6_overloaded_10 ?_
      refine j_eqi (y := nI n) hc ?_
      refine j_icmp_ge C dX6_overloaded_11 (tgt := 38) (by decide) (fun h => absurd h (nI_ge hi4 (by omega))) (fun _ => ?_)
      refine j_iload_n C 1 dX6_overloaded_14 rfl rfl ?_
      refine j_aload_n C 2 dX6_overloaded_15 rfl rfl ?_
      refine j_iload_n C 0 dX6_overloaded_16 rfl rfl ?_
      refine j_cv_i C (As := [.int (nI i4)]) (rest := [.int t4]) (ctX6_isOver (xl X) D h m sp sv sc tx tl cd se ro qa qb qd lo re cr ap nu ha sb i4 (by first | assumption | omega | decide)) mfX6_isOver gX6_overloaded_X6_isOver rfl (Nat.le_of_ble_eq_true rfl) (Nat.le_of_ble_eq_true rfl) (Nat.le_of_ble_eq_true rfl) (Nat.le_of_ble_eq_true rfl) [0, 1, 2, 3, 4, 5, 6] rfl rfl 0 rfl rfl rfl rfl (Nat.le_of_ble_eq_true rfl) dX6_overloaded_17 ?_
      rintro _ _ ⟨rfl, rfl⟩
      refine ⟨rfl, ?_⟩
      refine j_w (w' := (wMo D h m sp sv sc tx tl cd se ro (bI sb) qa qb qd lo re cr ap nu ha)) rfl ?_
      refine j_bif_eq C dX6_overloaded_20 (tgt := 29) (by decide) (fun h20 => ?_) (fun h20 => ?_)
      · refine j_iconst C (v := (0 : Int32)) dX6_overloaded_29 rfl ?_
        refine j_ior C dX6_overloaded_30 ?_
        refine j_eqi (y := t4) (or_0 _) ?_
        refine j_istore_n C dX6_overloaded_31 rfl (by decide) (lv' := [(1, .int t4), (2, .int (nI i4)), (0, .ref (h 0))]) rfl ?_
        refine j_iinc C 1 dX6_overloaded_32 rfl (v := nI (i4 + 1)) (nI_1 _) (by decide) (lv' := [(2, .int (nI (i4 + 1))), (1, .int t4), (0, .ref (h 0))]) rfl ?_
        refine j_goto C dX6_overloaded_35 (tgt := 4) (by decide) ?_
        refine j_sub [0, 1, 2] (lv' := [(2, .int (nI (i4 + 1))), (1, .int t4), (0, .ref (h 0))]) rfl ?_
        exact ih4 t4 (by rw [ovb_f h20]; try rw [← ht4]; try rfl)
      · refine j_iconst C (v := (1 : Int32)) dX6_overloaded_23 rfl ?_
        refine j_iload_n C 0 dX6_overloaded_24 rfl rfl ?_
        refine j_ishl C dX6_overloaded_25 ?_
        refine j_goto C dX6_overloaded_26 (tgt := 30) (by decide) ?_
        refine j_ior C dX6_overloaded_30 ?_
        refine j_istore_n C dX6_overloaded_31 rfl (by decide) (lv' := [(1, .int (t4 ||| ((1 : Int32) <<< ((nI i4) &&& 31)))), (2, .int (nI i4)), (0, .ref (h 0))]) rfl ?_
        refine j_iinc C 1 dX6_overloaded_32 rfl (v := nI (i4 + 1)) (nI_1 _) (by decide) (lv' := [(2, .int (nI (i4 + 1))), (1, .int (t4 ||| ((1 : Int32) <<< ((nI i4) &&& 31)))), (0, .ref (h 0))]) rfl ?_
        refine j_goto C dX6_overloaded_35 (tgt := 4) (by decide) ?_
        refine j_sub [0, 1, 2] (lv' := [(2, .int (nI (i4 + 1))), (1, .int (t4 ||| ((1 : Int32) <<< ((nI i4) &&& 31)))), (0, .ref (h 0))]) rfl ?_
        exact ih4 (t4 ||| ((1 : Int32) <<< ((nI i4) &&& 31))) (by rw [ovb_t h20]; try rw [← ht4]; try rfl)
  refine j_sub [0, 1, 2] (lv' := [(2, .int (0 : Int32)), (1, .int (0 : Int32)), (0, .ref (h 0))]) rfl ?_
  exact hl4 0 (Nat.zero_le _) (0 : Int32) rfl

set_option maxRecDepth 100000 in
set_option maxHeartbeats 4000000 in
theorem ctX6_many (l : Launch) (D : KD) (x : Int32) : MI l D yX6_many wsX6_many 0 0 0 0 [.int x] [] (fun r w1 => r = cntI x 16 ∧ w1 = []) := by
  refine MI.of (cc := cX6_many) (nL := 3) (lv0 := [(0, .int x)]) (by decide +kernel) rfl (Nat.le_of_ble_eq_true rfl) rfl ?_
  intro X hXl hin C ret
  subst hXl
  refine j_iconst C (v := (0 : Int32)) dX6_many_0 rfl ?_
  refine j_istore_n C dX6_many_1 rfl (by decide) (lv' := [(1, .int (0 : Int32)), (0, .int x)]) rfl ?_
  refine j_iconst C (v := (0 : Int32)) dX6_many_2 rfl ?_
  refine j_istore_n C dX6_many_3 rfl (by decide) (lv' := [(2, .int (0 : Int32)), (1, .int (0 : Int32)), (0, .int x)]) rfl ?_
  have hl4 : ∀ i4, i4 ≤ 16 → ∀ (t4 : Int32), t4 = cntI x i4 → J D X [] 0 0 4 [(2, .int (nI i4)), (1, .int t4), (0, .int x)] [] := by
    refine for_up (16) ?_ ?_
    · intro t4 ht4
      refine j_iload_n C 0 dX6_many_4 rfl rfl ?_
      refine j_bipush C (v := (16 : Int32)) dX6_many_5 rfl ?_
      refine j_icmp_ge C dX6_many_7 (tgt := 24) (by decide) (fun _ => ?_) (fun h => absurd (nI_le (Nat.le_refl 16) (by decide)) h)
      refine j_iload_n C 1 dX6_many_24 rfl rfl ?_
      exact ret dX6_many_25 (⟨ht4, rfl⟩)
    · intro i4 hi4 ih4 t4 ht4
      refine j_iload_n C 0 dX6_many_4 rfl rfl ?_
      refine j_bipush C (v := (16 : Int32)) dX6_many_5 rfl ?_
      refine j_icmp_ge C dX6_many_7 (tgt := 24) (by decide) (fun h => absurd h (nI_ge hi4 (by decide))) (fun _ => ?_)
      refine j_iload_n C 1 dX6_many_10 rfl rfl ?_
      refine j_iload_n C 2 dX6_many_11 rfl rfl ?_
      refine j_iload_n C 0 dX6_many_12 rfl rfl ?_
      refine j_ishr C dX6_many_13 ?_
      refine j_iconst C (v := (1 : Int32)) dX6_many_14 rfl ?_
      refine j_iand C dX6_many_15 ?_
      refine j_eqi (y := bI (bt x i4)) (m_sshr x (by omega)) ?_
      refine j_iadd C dX6_many_16 ?_
      refine j_istore_n C dX6_many_17 rfl (by decide) (lv' := [(1, .int (t4 + (bI (bt x i4)))), (2, .int (nI i4)), (0, .int x)]) rfl ?_
      refine j_iinc C 1 dX6_many_18 rfl (v := nI (i4 + 1)) (nI_1 _) (by decide) (lv' := [(2, .int (nI (i4 + 1))), (1, .int (t4 + (bI (bt x i4)))), (0, .int x)]) rfl ?_
      refine j_goto C dX6_many_21 (tgt := 4) (by decide) ?_
      refine j_sub [0, 1, 2] (lv' := [(2, .int (nI (i4 + 1))), (1, .int (t4 + (bI (bt x i4)))), (0, .int x)]) rfl ?_
      exact ih4 (t4 + (bI (bt x i4))) (by rw [cntI]; try rw [← ht4]; try rfl)
  refine j_sub [0, 1, 2] (lv' := [(2, .int (0 : Int32)), (1, .int (0 : Int32)), (0, .int x)]) rfl ?_
  exact hl4 0 (Nat.zero_le _) (0 : Int32) rfl

set_option maxRecDepth 100000 in
set_option maxHeartbeats 4000000 in
theorem ctX6_heaviest (l : Launch) (D : KD) (h : Nat → Nat) (m sp sv : Nat → Int32) (sc : Int32) (tx : Nat → Int32) (tl cd se ro : Int32) (qa qb qd : Int64) (lo : Nat → Int32) (re : Nat → Int64) (cr ap nu : Int32) (ha : Int64) (n : Nat) (hn : n ≤ 16) (hc : m 2 = nI n) : MI l D yX6_heaviest wsX6_heaviest 0 0 0 0 [.ref (h 0)] (wMo D h m sp sv sc tx tl cd se ro 1 qa qb qd lo re cr ap nu ha) (fun r w1 => r = hvI lo n ∧ w1 = wMo D h m sp sv sc tx tl cd se ro 1 qa qb qd lo re cr ap nu ha) := by
  refine MI.of (cc := cX6_heaviest) (nL := 3) (lv0 := [(0, .ref (h 0))]) (by decide +kernel) rfl (Nat.le_of_ble_eq_true rfl) rfl ?_
  intro X hXl hin C ret
  subst hXl
  refine j_iconst C (v := (-1 : Int32)) dX6_heaviest_0 rfl ?_
  refine j_istore_n C dX6_heaviest_1 rfl (by decide) (lv' := [(1, .int (-1 : Int32)), (0, .ref (h 0))]) rfl ?_
  refine j_iconst C (v := (0 : Int32)) dX6_heaviest_2 rfl ?_
  refine j_istore_n C dX6_heaviest_3 rfl (by decide) (lv' := [(2, .int (0 : Int32)), (1, .int (-1 : Int32)), (0, .ref (h 0))]) rfl ?_
  have hl4 : ∀ i4, i4 ≤ n → ∀ (t4 : Int32), t4 = hvI lo i4 → J D X (wMo D h m sp sv sc tx tl cd se ro 1 qa qb qd lo re cr ap nu ha) 0 0 4 [(2, .int (nI i4)), (1, .int t4), (0, .ref (h 0))] [] := by
    refine for_up (n) ?_ ?_
    · intro t4 ht4
      refine j_iload_n C 0 dX6_heaviest_4 rfl rfl ?_
      refine j_aload_n C 2 dX6_heaviest_5 rfl rfl ?_
      refine j_get C 0 fgX6_heaviest_7 rfl rfl dX6_heaviest_6 ?_
      refine j_iconst C (v := (2 : Int32)) dX6_heaviest_9 rfl ?_
      refine j_iald C 1 rfl (i := 2) rfl (by decide) (by decide) dX6_heaviest_10 ?_
      refine j_eqi (y := nI n) hc ?_
      refine j_icmp_ge C dX6_heaviest_11 (tgt := 53) (by decide) (fun _ => ?_) (fun h => absurd (Int32.le_refl _) h)
      refine j_iload_n C 1 dX6_heaviest_53 rfl rfl ?_
      exact ret dX6_heaviest_54 (⟨ht4, rfl⟩)
    · intro i4 hi4 ih4 t4 ht4
      refine j_iload_n C 0 dX6_heaviest_4 rfl rfl ?_
      refine j_aload_n C 2 dX6_heaviest_5 rfl rfl ?_
      refine j_get C 0 fgX6_heaviest_7 rfl rfl dX6_heaviest_6 ?_
      refine j_iconst C (v := (2 : Int32)) dX6_heaviest_9 rfl ?_
      refine j_iald C 1 rfl (i := 2) rfl (by decide) (by decide) dX6_heaviest_10 ?_
      refine j_eqi (y := nI n) hc ?_
      refine j_icmp_ge C dX6_heaviest_11 (tgt := 53) (by decide) (fun h => absurd h (nI_ge hi4 (by omega))) (fun _ => ?_)
      refine j_aload_n C 2 dX6_heaviest_14 rfl rfl ?_
      refine j_get C 0 fgX6_heaviest_78 rfl rfl dX6_heaviest_15 ?_
      refine j_if_eq C dX6_heaviest_18 (tgt := 53) (by decide) (fun h => absurd h (by decide)) (fun _ => ?_)
      refine j_iload_n C 1 dX6_heaviest_21 rfl rfl ?_
      refine j_iconst C (v := (-1 : Int32)) dX6_heaviest_22 rfl ?_
      refine j_icmp_eq C dX6_heaviest_23 (tgt := 41) (by decide) (fun h23 => ?_) (fun h23 => ?_)
      · refine j_iload_n C 0 dX6_heaviest_41 rfl rfl ?_
        refine j_goto C dX6_heaviest_42 (tgt := 46) (by decide) ?_
        refine j_istore_n C dX6_heaviest_46 rfl (by decide) (lv' := [(1, .int (nI i4)), (2, .int (nI i4)), (0, .ref (h 0))]) rfl ?_
        refine j_iinc C 1 dX6_heaviest_47 rfl (v := nI (i4 + 1)) (nI_1 _) (by decide) (lv' := [(2, .int (nI (i4 + 1))), (1, .int (nI i4)), (0, .ref (h 0))]) rfl ?_
        refine j_goto C dX6_heaviest_50 (tgt := 4) (by decide) ?_
        refine j_sub [0, 1, 2] (lv' := [(2, .int (nI (i4 + 1))), (1, .int (nI i4)), (0, .ref (h 0))]) rfl ?_
        exact ih4 (nI i4) (by have hi0 := hvI_eq (by omega) (ht4.symm.trans h23); subst hi0; exact (hvI_1 _).symm)
      · have hvn := hvI_ne (lo := lo) (i := i4) (by omega) (fun z => h23 (ht4.trans z))
        refine j_aload_n C 2 dX6_heaviest_26 rfl rfl ?_
        refine j_get C 0 fgX6_heaviest_22 rfl rfl dX6_heaviest_27 ?_
        refine j_iload_n C 0 dX6_heaviest_30 rfl rfl ?_
        refine j_iald C 5 rfl (i := i4) rfl (by omega) (by decide) dX6_heaviest_31 ?_
        refine j_aload_n C 2 dX6_heaviest_32 rfl rfl ?_
        refine j_get C 0 fgX6_heaviest_22 rfl rfl dX6_heaviest_33 ?_
        refine j_iload_n C 1 dX6_heaviest_36 rfl rfl ?_
        refine j_iald C 5 rfl (i := amI lo i4) (ht4.trans hvn.2.1) hvn.2.2 (by decide) dX6_heaviest_37 ?_
        refine j_icmp_le C dX6_heaviest_38 (tgt := 45) (by decide) (fun h38 => ?_) (fun h38 => ?_)
        · have h38' := Int32.not_lt.mpr h38
          refine j_iload_n C 1 dX6_heaviest_45 rfl rfl ?_
          refine j_istore_n C dX6_heaviest_46 rfl (by decide) (lv' := [(1, .int t4), (2, .int (nI i4)), (0, .ref (h 0))]) rfl ?_
          refine j_iinc C 1 dX6_heaviest_47 rfl (v := nI (i4 + 1)) (nI_1 _) (by decide) (lv' := [(2, .int (nI (i4 + 1))), (1, .int t4), (0, .ref (h 0))]) rfl ?_
          refine j_goto C dX6_heaviest_50 (tgt := 4) (by decide) ?_
          refine j_sub [0, 1, 2] (lv' := [(2, .int (nI (i4 + 1))), (1, .int t4), (0, .ref (h 0))]) rfl ?_
          exact ih4 t4 (by rw [hvI_f hvn.1 h38']; exact ht4)
        · have h38' := Int32.not_le.mp h38
          refine j_iload_n C 0 dX6_heaviest_41 rfl rfl ?_
          refine j_goto C dX6_heaviest_42 (tgt := 46) (by decide) ?_
          refine j_istore_n C dX6_heaviest_46 rfl (by decide) (lv' := [(1, .int (nI i4)), (2, .int (nI i4)), (0, .ref (h 0))]) rfl ?_
          refine j_iinc C 1 dX6_heaviest_47 rfl (v := nI (i4 + 1)) (nI_1 _) (by decide) (lv' := [(2, .int (nI (i4 + 1))), (1, .int (nI i4)), (0, .ref (h 0))]) rfl ?_
          refine j_goto C dX6_heaviest_50 (tgt := 4) (by decide) ?_
          refine j_sub [0, 1, 2] (lv' := [(2, .int (nI (i4 + 1))), (1, .int (nI i4)), (0, .ref (h 0))]) rfl ?_
          exact ih4 (nI i4) (by rw [hvI_t hvn.1 h38'])
  refine j_sub [0, 1, 2] (lv' := [(2, .int (0 : Int32)), (1, .int (-1 : Int32)), (0, .ref (h 0))]) rfl ?_
  exact hl4 0 (Nat.zero_le _) (-1 : Int32) rfl

set_option maxRecDepth 100000 in
set_option maxHeartbeats 4000000 in
theorem ctX6_heaviest0 (l : Launch) (D : KD) (h : Nat → Nat) (m sp sv : Nat → Int32) (sc : Int32) (tx : Nat → Int32) (tl cd se ro : Int32) (qa qb qd : Int64) (lo : Nat → Int32) (re : Nat → Int64) (cr ap nu : Int32) (ha : Int64) (n : Nat) (hn : n ≤ 16) (hc : m 2 = nI n) : MI l D yX6_heaviest wsX6_heaviest 0 0 0 0 [.ref (h 0)] (wMo D h m sp sv sc tx tl cd se ro 0 qa qb qd lo re cr ap nu ha) (fun r w1 => r = -1 ∧ w1 = wMo D h m sp sv sc tx tl cd se ro 0 qa qb qd lo re cr ap nu ha) := by
  refine MI.of (cc := cX6_heaviest) (nL := 3) (lv0 := [(0, .ref (h 0))]) (by decide +kernel) rfl (Nat.le_of_ble_eq_true rfl) rfl ?_
  intro X hXl hin C ret
  subst hXl
  refine j_iconst C (v := (-1 : Int32)) dX6_heaviest_0 rfl ?_
  refine j_istore_n C dX6_heaviest_1 rfl (by decide) (lv' := [(1, .int (-1 : Int32)), (0, .ref (h 0))]) rfl ?_
  refine j_iconst C (v := (0 : Int32)) dX6_heaviest_2 rfl ?_
  refine j_istore_n C dX6_heaviest_3 rfl (by decide) (lv' := [(2, .int (0 : Int32)), (1, .int (-1 : Int32)), (0, .ref (h 0))]) rfl ?_
  refine j_iload_n C 0 dX6_heaviest_4 rfl rfl ?_
  refine j_aload_n C 2 dX6_heaviest_5 rfl rfl ?_
  refine j_get C 0 fgX6_heaviest_7 rfl rfl dX6_heaviest_6 ?_
  refine j_iconst C (v := (2 : Int32)) dX6_heaviest_9 rfl ?_
  refine j_iald C 1 rfl (i := 2) rfl (by decide) (by decide) dX6_heaviest_10 ?_
  refine j_eqi (y := nI n) hc ?_
  refine j_icmp_ge C dX6_heaviest_11 (tgt := 53) (by decide) (fun h11 => ?_) (fun h11 => ?_)
  · have h11' := Int32.not_lt.mpr h11
    refine j_iload_n C 1 dX6_heaviest_53 rfl rfl ?_
    exact ret dX6_heaviest_54 (⟨rfl, rfl⟩)
  · have h11' := Int32.not_le.mp h11
    refine j_aload_n C 2 dX6_heaviest_14 rfl rfl ?_
    refine j_get C 0 fgX6_heaviest_78 rfl rfl dX6_heaviest_15 ?_
    refine j_if_eq C dX6_heaviest_18 (tgt := 53) (by decide) (fun _ => ?_) (fun h => absurd (by decide) h)
    refine j_iload_n C 1 dX6_heaviest_53 rfl rfl ?_
    exact ret dX6_heaviest_54 (⟨rfl, rfl⟩)

set_option maxRecDepth 100000 in
set_option maxHeartbeats 4000000 in
theorem ctX6_greatest (l : Launch) (D : KD) (h : Nat → Nat) (m sp sv : Nat → Int32) (sc : Int32) (tx : Nat → Int32) (tl cd se ro : Int32) (qa qb qd : Int64) (lo : Nat → Int32) (re : Nat → Int64) (cr ap nu : Int32) (ha : Int64) (n : Nat) (hn : n ≤ 16) (hc : m 2 = nI n) : MI l D yX6_greatest wsX6_greatest 1 22 0 0 [.ref (h 0)] (wMo D h m sp sv sc tx tl cd se ro 1 qa qb qd lo re cr ap nu ha) (fun r w1 => r = gre true lo n ∧ w1 = wMo D h m sp sv sc tx tl cd se ro 1 qa qb qd lo re cr ap nu ha) := by
  refine MI.of (cc := cX6_greatest) (nL := 2) (lv0 := [(0, .ref (h 0))]) (by decide +kernel) rfl (Nat.le_of_ble_eq_true rfl) rfl ?_
  intro X hXl hin C ret
  subst hXl
  refine j_aload_n C 0 dX6_greatest_0 rfl rfl ?_
  refine j_cv_i C (As := []) (rest := []) (ctX6_heaviest (xl X) D h m sp sv sc tx tl cd se ro qa qb qd lo re cr ap nu ha n (by first | assumption | omega | decide) (by first | assumption | omega | decide)) mfX6_heaviest gX6_greatest_X6_heaviest rfl (Nat.le_of_ble_eq_true rfl) (Nat.le_of_ble_eq_true rfl) (Nat.le_of_ble_eq_true rfl) (Nat.le_of_ble_eq_true rfl) [0, 1, 2, 3, 4, 5, 6] rfl rfl 0 rfl rfl rfl rfl (Nat.le_of_ble_eq_true rfl) dX6_greatest_1 ?_
  rintro _ _ ⟨rfl, rfl⟩
  refine ⟨rfl, ?_⟩
  refine j_w (w' := (wMo D h m sp sv sc tx tl cd se ro 1 qa qb qd lo re cr ap nu ha)) rfl ?_
  refine j_istore_n C dX6_greatest_4 rfl (by decide) (lv' := [(1, .int (hvI lo n)), (0, .ref (h 0))]) rfl ?_
  refine j_iload_n C 0 dX6_greatest_5 rfl rfl ?_
  refine j_iconst C (v := (-1 : Int32)) dX6_greatest_6 rfl ?_
  refine j_icmp_ne C dX6_greatest_7 (tgt := 14) (by decide) (fun h7 => ?_) (fun h7 => ?_)
  · have hvn := hvI_ne (by omega) h7
    refine j_aload_n C 1 dX6_greatest_14 rfl rfl ?_
    refine j_get C 0 fgX6_greatest_22 rfl rfl dX6_greatest_15 ?_
    refine j_iload_n C 0 dX6_greatest_18 rfl rfl ?_
    refine j_iald C 5 rfl (i := amI lo n) hvn.2.1 hvn.2.2 (by decide) dX6_greatest_19 ?_
    exact ret dX6_greatest_20 (⟨by simp [gre, hvn.1], rfl⟩)
  · have hi0 := hvI_eq (by omega) h7
    refine j_iconst C (v := (0 : Int32)) dX6_greatest_10 rfl ?_
    refine j_goto C dX6_greatest_11 (tgt := 20) (by decide) ?_
    exact ret dX6_greatest_20 (⟨by simp [gre, hi0], rfl⟩)

set_option maxRecDepth 100000 in
set_option maxHeartbeats 4000000 in
theorem ctX6_greatest0 (l : Launch) (D : KD) (h : Nat → Nat) (m sp sv : Nat → Int32) (sc : Int32) (tx : Nat → Int32) (tl cd se ro : Int32) (qa qb qd : Int64) (lo : Nat → Int32) (re : Nat → Int64) (cr ap nu : Int32) (ha : Int64) (n : Nat) (hn : n ≤ 16) (hc : m 2 = nI n) : MI l D yX6_greatest wsX6_greatest 1 22 0 0 [.ref (h 0)] (wMo D h m sp sv sc tx tl cd se ro 0 qa qb qd lo re cr ap nu ha) (fun r w1 => r = 0 ∧ w1 = wMo D h m sp sv sc tx tl cd se ro 0 qa qb qd lo re cr ap nu ha) := by
  refine MI.of (cc := cX6_greatest) (nL := 2) (lv0 := [(0, .ref (h 0))]) (by decide +kernel) rfl (Nat.le_of_ble_eq_true rfl) rfl ?_
  intro X hXl hin C ret
  subst hXl
  refine j_aload_n C 0 dX6_greatest_0 rfl rfl ?_
  refine j_cv_i C (As := []) (rest := []) (ctX6_heaviest0 (xl X) D h m sp sv sc tx tl cd se ro qa qb qd lo re cr ap nu ha n (by first | assumption | omega | decide) (by first | assumption | omega | decide)) mfX6_heaviest gX6_greatest_X6_heaviest rfl (Nat.le_of_ble_eq_true rfl) (Nat.le_of_ble_eq_true rfl) (Nat.le_of_ble_eq_true rfl) (Nat.le_of_ble_eq_true rfl) [0, 1, 2, 3, 4, 5, 6] rfl rfl 0 rfl rfl rfl rfl (Nat.le_of_ble_eq_true rfl) dX6_greatest_1 ?_
  rintro _ _ ⟨rfl, rfl⟩
  refine ⟨rfl, ?_⟩
  refine j_w (w' := (wMo D h m sp sv sc tx tl cd se ro 0 qa qb qd lo re cr ap nu ha)) rfl ?_
  refine j_istore_n C dX6_greatest_4 rfl (by decide) (lv' := [(1, .int (-1 : Int32)), (0, .ref (h 0))]) rfl ?_
  refine j_iload_n C 0 dX6_greatest_5 rfl rfl ?_
  refine j_iconst C (v := (-1 : Int32)) dX6_greatest_6 rfl ?_
  refine j_icmp_ne C dX6_greatest_7 (tgt := 14) (by decide) (fun h => absurd (by decide) h) (fun _ => ?_)
  refine j_iconst C (v := (0 : Int32)) dX6_greatest_10 rfl ?_
  refine j_goto C dX6_greatest_11 (tgt := 20) (by decide) ?_
  exact ret dX6_greatest_20 (⟨rfl, rfl⟩)

set_option maxRecDepth 100000 in
set_option maxHeartbeats 4000000 in
theorem ctX6_isCap (l : Launch) (D : KD) (x : Int32) : MI l D yX6_isCap wsX6_isCap 1 22 0 0 [.int x] [] (fun r w1 => r = bI (pIn x (-50) 50) ∧ w1 = []) := by
  refine MI.ofz (cc := cX6_isCap) (nL := 1) (lv0 := [(0, .int x)]) (by decide +kernel) rfl (Nat.le_of_ble_eq_true rfl) rfl ?_
  intro X hXl hin C ret
  subst hXl
  refine j_iload_n C 0 dX6_isCap_0 rfl rfl ?_
  refine j_bipush C (v := (-50 : Int32)) dX6_isCap_1 rfl ?_
  refine j_bipush C (v := (50 : Int32)) dX6_isCap_3 rfl ?_
  refine j_cs_i C (As := [.int x, .int (-50 : Int32), .int (50 : Int32)]) (rest := []) (ctX6_in (xl X) D x (-50 : Int32) (50 : Int32)) mfX6_in gX6_isCap_X6_in rfl (Nat.le_of_ble_eq_true rfl) (Nat.le_of_ble_eq_true rfl) (Nat.le_of_ble_eq_true rfl) (Nat.le_of_ble_eq_true rfl) [] rfl rfl rfl (Nat.le_of_ble_eq_true rfl) dX6_isCap_5 ?_
  rintro _ _ ⟨rfl, rfl⟩
  refine ⟨rfl, ?_⟩
  refine j_w (w' := []) rfl ?_
  exact ret dX6_isCap_8 (bI_01 _) (⟨rfl, rfl⟩)

set_option maxRecDepth 100000 in
set_option maxHeartbeats 4000000 in
theorem ctX6_isLimit (l : Launch) (D : KD) (x : Int32) : MI l D yX6_isLimit wsX6_isLimit 1 22 0 0 [.int x] [] (fun r w1 => r = bI (pIn x 1 99999) ∧ w1 = []) := by
  refine MI.ofz (cc := cX6_isLimit) (nL := 1) (lv0 := [(0, .int x)]) (by decide +kernel) rfl (Nat.le_of_ble_eq_true rfl) rfl ?_
  intro X hXl hin C ret
  subst hXl
  refine j_iload_n C 0 dX6_isLimit_0 rfl rfl ?_
  refine j_iconst C (v := (1 : Int32)) dX6_isLimit_1 rfl ?_
  refine j_ldc C kX6_isLimit_106 dX6_isLimit_2 ?_
  refine j_cs_i C (As := [.int x, .int (1 : Int32), .int (99999 : Int32)]) (rest := []) (ctX6_in (xl X) D x (1 : Int32) (99999 : Int32)) mfX6_in gX6_isLimit_X6_in rfl (Nat.le_of_ble_eq_true rfl) (Nat.le_of_ble_eq_true rfl) (Nat.le_of_ble_eq_true rfl) (Nat.le_of_ble_eq_true rfl) [] rfl rfl rfl (Nat.le_of_ble_eq_true rfl) dX6_isLimit_4 ?_
  rintro _ _ ⟨rfl, rfl⟩
  refine ⟨rfl, ?_⟩
  refine j_w (w' := []) rfl ?_
  exact ret dX6_isLimit_7 (bI_01 _) (⟨rfl, rfl⟩)

set_option maxRecDepth 100000 in
set_option maxHeartbeats 4000000 in
theorem ctX6_isBuilt (l : Launch) (D : KD) (p0 s0 c0 l0 : Int32) : MI l D yX6_isBuilt wsX6_isBuilt 2 42 0 0 [.int p0, .int s0, .int c0, .int l0] [] (fun r w1 => r = bI (pIn p0 0 400 && (pIn s0 1 100 && (pIn c0 (-50) 50 && pIn l0 1 99999))) ∧ w1 = []) := by
  refine MI.ofz (cc := cX6_isBuilt) (nL := 4) (lv0 := [(0, .int p0), (1, .int s0), (2, .int c0), (3, .int l0)]) (by decide +kernel) rfl (Nat.le_of_ble_eq_true rfl) rfl ?_
  intro X hXl hin C ret
  subst hXl
  refine j_iload_n C 0 dX6_isBuilt_0 rfl rfl ?_
  refine j_iconst C (v := (0 : Int32)) dX6_isBuilt_1 rfl ?_
  refine j_sipush C (v := (400 : Int32)) dX6_isBuilt_2 rfl ?_
  refine j_cs_i C (As := [.int p0, .int (0 : Int32), .int (400 : Int32)]) (rest := []) (ctX6_in (xl X) D p0 (0 : Int32) (400 : Int32)) mfX6_in gX6_isBuilt_X6_in rfl (Nat.le_of_ble_eq_true rfl) (Nat.le_of_ble_eq_true rfl) (Nat.le_of_ble_eq_true rfl) (Nat.le_of_ble_eq_true rfl) [] rfl rfl rfl (Nat.le_of_ble_eq_true rfl) dX6_isBuilt_5 ?_
  rintro _ _ ⟨rfl, rfl⟩
  refine ⟨rfl, ?_⟩
  refine j_w (w' := []) rfl ?_
  refine j_bif_eq C dX6_isBuilt_8 (tgt := 39) (by decide) (fun h8 => ?_) (fun h8 => ?_)
  · refine j_iconst C (v := (0 : Int32)) dX6_isBuilt_39 rfl ?_
    exact ret dX6_isBuilt_40 (Or.inl rfl) (⟨by simp [bI, h8], rfl⟩)
  · refine j_iload_n C 1 dX6_isBuilt_11 rfl rfl ?_
    refine j_iconst C (v := (1 : Int32)) dX6_isBuilt_12 rfl ?_
    refine j_bipush C (v := (100 : Int32)) dX6_isBuilt_13 rfl ?_
    refine j_cs_i C (As := [.int s0, .int (1 : Int32), .int (100 : Int32)]) (rest := []) (ctX6_in (xl X) D s0 (1 : Int32) (100 : Int32)) mfX6_in gX6_isBuilt_X6_in rfl (Nat.le_of_ble_eq_true rfl) (Nat.le_of_ble_eq_true rfl) (Nat.le_of_ble_eq_true rfl) (Nat.le_of_ble_eq_true rfl) [] rfl rfl rfl (Nat.le_of_ble_eq_true rfl) dX6_isBuilt_15 ?_
    rintro _ _ ⟨rfl, rfl⟩
    refine ⟨rfl, ?_⟩
    refine j_w (w' := []) rfl ?_
    refine j_bif_eq C dX6_isBuilt_18 (tgt := 39) (by decide) (fun h18 => ?_) (fun h18 => ?_)
    · refine j_iconst C (v := (0 : Int32)) dX6_isBuilt_39 rfl ?_
      exact ret dX6_isBuilt_40 (Or.inl rfl) (⟨by simp [bI, h8, h18], rfl⟩)
    · refine j_iload_n C 2 dX6_isBuilt_21 rfl rfl ?_
      refine j_cs_i C (As := [.int c0]) (rest := []) (ctX6_isCap (xl X) D c0) mfX6_isCap gX6_isBuilt_X6_isCap rfl (Nat.le_of_ble_eq_true rfl) (Nat.le_of_ble_eq_true rfl) (Nat.le_of_ble_eq_true rfl) (Nat.le_of_ble_eq_true rfl) [] rfl rfl rfl (Nat.le_of_ble_eq_true rfl) dX6_isBuilt_22 ?_
      rintro _ _ ⟨rfl, rfl⟩
      refine ⟨rfl, ?_⟩
      refine j_w (w' := []) rfl ?_
      refine j_bif_eq C dX6_isBuilt_25 (tgt := 39) (by decide) (fun h25 => ?_) (fun h25 => ?_)
      · refine j_iconst C (v := (0 : Int32)) dX6_isBuilt_39 rfl ?_
        exact ret dX6_isBuilt_40 (Or.inl rfl) (⟨by simp [bI, h8, h18, h25], rfl⟩)
      · refine j_iload_n C 3 dX6_isBuilt_28 rfl rfl ?_
        refine j_cs_i C (As := [.int l0]) (rest := []) (ctX6_isLimit (xl X) D l0) mfX6_isLimit gX6_isBuilt_X6_isLimit rfl (Nat.le_of_ble_eq_true rfl) (Nat.le_of_ble_eq_true rfl) (Nat.le_of_ble_eq_true rfl) (Nat.le_of_ble_eq_true rfl) [] rfl rfl rfl (Nat.le_of_ble_eq_true rfl) dX6_isBuilt_29 ?_
        rintro _ _ ⟨rfl, rfl⟩
        refine ⟨rfl, ?_⟩
        refine j_w (w' := []) rfl ?_
        refine j_bif_eq C dX6_isBuilt_32 (tgt := 39) (by decide) (fun h32 => ?_) (fun h32 => ?_)
        · refine j_iconst C (v := (0 : Int32)) dX6_isBuilt_39 rfl ?_
          exact ret dX6_isBuilt_40 (Or.inl rfl) (⟨by simp [bI, h8, h18, h25, h32], rfl⟩)
        · refine j_iconst C (v := (1 : Int32)) dX6_isBuilt_35 rfl ?_
          refine j_goto C dX6_isBuilt_36 (tgt := 40) (by decide) ?_
          exact ret dX6_isBuilt_40 (Or.inr rfl) (⟨by simp [bI, h8, h18, h25, h32], rfl⟩)

set_option maxRecDepth 100000 in
set_option maxHeartbeats 4000000 in
theorem ctX6_isShip (l : Launch) (D : KD) (w0 c0 : Int32) : MI l D yX6_isShip wsX6_isShip 1 22 0 0 [.int w0, .int c0] [] (fun r w1 => r = bI (pIn w0 1 100000 && pIn c0 0 400) ∧ w1 = []) := by
  refine MI.ofz (cc := cX6_isShip) (nL := 2) (lv0 := [(0, .int w0), (1, .int c0)]) (by decide +kernel) rfl (Nat.le_of_ble_eq_true rfl) rfl ?_
  intro X hXl hin C ret
  subst hXl
  refine j_iload_n C 0 dX6_isShip_0 rfl rfl ?_
  refine j_iconst C (v := (1 : Int32)) dX6_isShip_1 rfl ?_
  refine j_ldc C kX6_isShip_129 dX6_isShip_2 ?_
  refine j_cs_i C (As := [.int w0, .int (1 : Int32), .int (100000 : Int32)]) (rest := []) (ctX6_in (xl X) D w0 (1 : Int32) (100000 : Int32)) mfX6_in gX6_isShip_X6_in rfl (Nat.le_of_ble_eq_true rfl) (Nat.le_of_ble_eq_true rfl) (Nat.le_of_ble_eq_true rfl) (Nat.le_of_ble_eq_true rfl) [] rfl rfl rfl (Nat.le_of_ble_eq_true rfl) dX6_isShip_4 ?_
  rintro _ _ ⟨rfl, rfl⟩
  refine ⟨rfl, ?_⟩
  refine j_w (w' := []) rfl ?_
  refine j_bif_eq C dX6_isShip_7 (tgt := 25) (by decide) (fun h7 => ?_) (fun h7 => ?_)
  · refine j_iconst C (v := (0 : Int32)) dX6_isShip_25 rfl ?_
    exact ret dX6_isShip_26 (Or.inl rfl) (⟨by simp [bI, h7], rfl⟩)
  · refine j_iload_n C 1 dX6_isShip_10 rfl rfl ?_
    refine j_iconst C (v := (0 : Int32)) dX6_isShip_11 rfl ?_
    refine j_sipush C (v := (400 : Int32)) dX6_isShip_12 rfl ?_
    refine j_cs_i C (As := [.int c0, .int (0 : Int32), .int (400 : Int32)]) (rest := []) (ctX6_in (xl X) D c0 (0 : Int32) (400 : Int32)) mfX6_in gX6_isShip_X6_in rfl (Nat.le_of_ble_eq_true rfl) (Nat.le_of_ble_eq_true rfl) (Nat.le_of_ble_eq_true rfl) (Nat.le_of_ble_eq_true rfl) [] rfl rfl rfl (Nat.le_of_ble_eq_true rfl) dX6_isShip_15 ?_
    rintro _ _ ⟨rfl, rfl⟩
    refine ⟨rfl, ?_⟩
    refine j_w (w' := []) rfl ?_
    refine j_bif_eq C dX6_isShip_18 (tgt := 25) (by decide) (fun h18 => ?_) (fun h18 => ?_)
    · refine j_iconst C (v := (0 : Int32)) dX6_isShip_25 rfl ?_
      exact ret dX6_isShip_26 (Or.inl rfl) (⟨by simp [bI, h7, h18], rfl⟩)
    · refine j_iconst C (v := (1 : Int32)) dX6_isShip_21 rfl ?_
      refine j_goto C dX6_isShip_22 (tgt := 26) (by decide) ?_
      exact ret dX6_isShip_26 (Or.inr rfl) (⟨by simp [bI, h7, h18], rfl⟩)

set_option maxRecDepth 100000 in
set_option maxHeartbeats 4000000 in
theorem ctX6_build (l : Launch) (D : KD) (h : Nat → Nat) (m sp sv : Nat → Int32) (sc : Int32) (tx : Nat → Int32) (tl cd se ro st : Int32) (qa qb qd : Int64) (lo : Nat → Int32) (re : Nat → Int64) (cr ap nu : Int32) (ha : Int64) (n : Nat) (hn : n < 16) (hc : m 2 = nI n) (p0 s0 c0 l0 : Int32) : MV l D yX6_build wsX6_build 1 23 0 0 [.ref (h 0), .int p0, .int s0, .int c0, .int l0] (wMo D h m sp sv sc tx tl cd se ro st qa qb qd lo re cr ap nu ha) (fun w1 => w1 = wMo D h (mBu m n p0 s0 c0 l0) sp sv sc tx tl cd se ro st qa qb qd lo re cr ap nu ha) := by
  refine MV.of (cc := cX6_build) (nL := 6) (lv0 := [(0, .ref (h 0)), (1, .int p0), (2, .int s0), (3, .int c0), (4, .int l0)]) (by decide +kernel) rfl (Nat.le_of_ble_eq_true rfl) rfl ?_
  intro X hXl hin C ret
  subst hXl
  refine j_aload_n C 0 dX6_build_0 rfl rfl ?_
  refine j_get C 0 fgX6_build_7 rfl rfl dX6_build_1 ?_
  refine j_iconst C (v := (2 : Int32)) dX6_build_4 rfl ?_
  refine j_iald C 1 rfl (i := 2) rfl (by decide) (by decide) dX6_build_5 ?_
  refine j_eqi (y := nI n) hc ?_
  refine j_istore C dX6_build_6 (by decide) (lv' := [(5, .int (nI n)), (0, .ref (h 0)), (1, .int p0), (2, .int s0), (3, .int c0), (4, .int l0)]) rfl ?_
  refine j_aload_n C 1 dX6_build_8 rfl rfl ?_
  refine j_get C 0 fgX6_build_7 rfl rfl dX6_build_9 ?_
  refine j_iconst C (v := (2 : Int32)) dX6_build_12 rfl ?_
  refine j_dup2 C dX6_build_13 rfl rfl ?_
  refine j_iald C 1 rfl (i := 2) rfl (by decide) (by decide) dX6_build_14 ?_
  refine j_iconst C (v := (1 : Int32)) dX6_build_15 rfl ?_
  refine j_iadd C dX6_build_16 ?_
  refine j_iast C 1 rfl (i := 2) rfl (by decide) (by decide) (w' := (wMo D h (upd m 2 ((m 2) + (1 : Int32))) sp sv sc tx tl cd se ro st qa qb qd lo re cr ap nu ha)) rfl dX6_build_17 ?_
  refine j_aload_n C 1 dX6_build_18 rfl rfl ?_
  refine j_iload C 0 dX6_build_19 rfl ?_
  refine j_iconst C (v := (0 : Int32)) dX6_build_21 rfl ?_
  refine j_iload_n C 2 dX6_build_22 rfl rfl ?_
  refine j_cv_v C (As := [.int (nI n), .int (0 : Int32), .int p0]) (rest := []) (ctX6_lay (xl X) D h (upd m 2 ((m 2) + (1 : Int32))) sp sv sc tx tl cd se ro st qa qb qd lo re cr ap nu ha n 0 p0 (by first | assumption | omega | decide)) mfX6_lay gX6_build_X6_lay rfl (Nat.le_of_ble_eq_true rfl) (Nat.le_of_ble_eq_true rfl) (Nat.le_of_ble_eq_true rfl) (Nat.le_of_ble_eq_true rfl) [0, 1, 2, 3, 4, 5, 6] rfl rfl 0 rfl rfl rfl rfl (Nat.le_of_ble_eq_true rfl) dX6_build_23 ?_
  rintro _ rfl
  refine ⟨rfl, ?_⟩
  refine j_w (w' := (wMo D h (upd (upd m 2 ((m 2) + (1 : Int32))) (3 + 6 * n + 0) p0) sp sv sc tx tl cd se ro st qa qb qd lo re cr ap nu ha)) rfl ?_
  refine j_aload_n C 1 dX6_build_26 rfl rfl ?_
  refine j_iload C 0 dX6_build_27 rfl ?_
  refine j_iconst C (v := (1 : Int32)) dX6_build_29 rfl ?_
  refine j_iload_n C 3 dX6_build_30 rfl rfl ?_
  refine j_cv_v C (As := [.int (nI n), .int (1 : Int32), .int s0]) (rest := []) (ctX6_lay (xl X) D h (upd (upd m 2 ((m 2) + (1 : Int32))) (3 + 6 * n + 0) p0) sp sv sc tx tl cd se ro st qa qb qd lo re cr ap nu ha n 1 s0 (by first | assumption | omega | decide)) mfX6_lay gX6_build_X6_lay rfl (Nat.le_of_ble_eq_true rfl) (Nat.le_of_ble_eq_true rfl) (Nat.le_of_ble_eq_true rfl) (Nat.le_of_ble_eq_true rfl) [0, 1, 2, 3, 4, 5, 6] rfl rfl 0 rfl rfl rfl rfl (Nat.le_of_ble_eq_true rfl) dX6_build_31 ?_
  rintro _ rfl
  refine ⟨rfl, ?_⟩
  refine j_w (w' := (wMo D h (upd (upd (upd m 2 ((m 2) + (1 : Int32))) (3 + 6 * n + 0) p0) (3 + 6 * n + 1) s0) sp sv sc tx tl cd se ro st qa qb qd lo re cr ap nu ha)) rfl ?_
  refine j_aload_n C 1 dX6_build_34 rfl rfl ?_
  refine j_iload C 0 dX6_build_35 rfl ?_
  refine j_iconst C (v := (2 : Int32)) dX6_build_37 rfl ?_
  refine j_iload_n C 4 dX6_build_38 rfl rfl ?_
  refine j_cv_v C (As := [.int (nI n), .int (2 : Int32), .int c0]) (rest := []) (ctX6_lay (xl X) D h (upd (upd (upd m 2 ((m 2) + (1 : Int32))) (3 + 6 * n + 0) p0) (3 + 6 * n + 1) s0) sp sv sc tx tl cd se ro st qa qb qd lo re cr ap nu ha n 2 c0 (by first | assumption | omega | decide)) mfX6_lay gX6_build_X6_lay rfl (Nat.le_of_ble_eq_true rfl) (Nat.le_of_ble_eq_true rfl) (Nat.le_of_ble_eq_true rfl) (Nat.le_of_ble_eq_true rfl) [0, 1, 2, 3, 4, 5, 6] rfl rfl 0 rfl rfl rfl rfl (Nat.le_of_ble_eq_true rfl) dX6_build_39 ?_
  rintro _ rfl
  refine ⟨rfl, ?_⟩
  refine j_w (w' := (wMo D h (upd (upd (upd (upd m 2 ((m 2) + (1 : Int32))) (3 + 6 * n + 0) p0) (3 + 6 * n + 1) s0) (3 + 6 * n + 2) c0) sp sv sc tx tl cd se ro st qa qb qd lo re cr ap nu ha)) rfl ?_
  refine j_aload_n C 1 dX6_build_42 rfl rfl ?_
  refine j_iload C 0 dX6_build_43 rfl ?_
  refine j_iconst C (v := (3 : Int32)) dX6_build_45 rfl ?_
  refine j_iload C 5 dX6_build_46 rfl ?_
  refine j_cv_v C (As := [.int (nI n), .int (3 : Int32), .int l0]) (rest := []) (ctX6_lay (xl X) D h (upd (upd (upd (upd m 2 ((m 2) + (1 : Int32))) (3 + 6 * n + 0) p0) (3 + 6 * n + 1) s0) (3 + 6 * n + 2) c0) sp sv sc tx tl cd se ro st qa qb qd lo re cr ap nu ha n 3 l0 (by first | assumption | omega | decide)) mfX6_lay gX6_build_X6_lay rfl (Nat.le_of_ble_eq_true rfl) (Nat.le_of_ble_eq_true rfl) (Nat.le_of_ble_eq_true rfl) (Nat.le_of_ble_eq_true rfl) [0, 1, 2, 3, 4, 5, 6] rfl rfl 0 rfl rfl rfl rfl (Nat.le_of_ble_eq_true rfl) dX6_build_48 ?_
  rintro _ rfl
  refine ⟨rfl, ?_⟩
  refine j_w (w' := (wMo D h (upd (upd (upd (upd (upd m 2 ((m 2) + (1 : Int32))) (3 + 6 * n + 0) p0) (3 + 6 * n + 1) s0) (3 + 6 * n + 2) c0) (3 + 6 * n + 3) l0) sp sv sc tx tl cd se ro st qa qb qd lo re cr ap nu ha)) rfl ?_
  refine j_aload_n C 1 dX6_build_51 rfl rfl ?_
  refine j_iload C 0 dX6_build_52 rfl ?_
  refine j_iconst C (v := (4 : Int32)) dX6_build_54 rfl ?_
  refine j_iconst C (v := (0 : Int32)) dX6_build_55 rfl ?_
  refine j_cv_v C (As := [.int (nI n), .int (4 : Int32), .int (0 : Int32)]) (rest := []) (ctX6_lay (xl X) D h (upd (upd (upd (upd (upd m 2 ((m 2) + (1 : Int32))) (3 + 6 * n + 0) p0) (3 + 6 * n + 1) s0) (3 + 6 * n + 2) c0) (3 + 6 * n + 3) l0) sp sv sc tx tl cd se ro st qa qb qd lo re cr ap nu ha n 4 (0 : Int32) (by first | assumption | omega | decide)) mfX6_lay gX6_build_X6_lay rfl (Nat.le_of_ble_eq_true rfl) (Nat.le_of_ble_eq_true rfl) (Nat.le_of_ble_eq_true rfl) (Nat.le_of_ble_eq_true rfl) [0, 1, 2, 3, 4, 5, 6] rfl rfl 0 rfl rfl rfl rfl (Nat.le_of_ble_eq_true rfl) dX6_build_56 ?_
  rintro _ rfl
  refine ⟨rfl, ?_⟩
  refine j_w (w' := (wMo D h (upd (upd (upd (upd (upd (upd m 2 ((m 2) + (1 : Int32))) (3 + 6 * n + 0) p0) (3 + 6 * n + 1) s0) (3 + 6 * n + 2) c0) (3 + 6 * n + 3) l0) (3 + 6 * n + 4) (0 : Int32)) sp sv sc tx tl cd se ro st qa qb qd lo re cr ap nu ha)) rfl ?_
  refine j_aload_n C 1 dX6_build_59 rfl rfl ?_
  refine j_iload C 0 dX6_build_60 rfl ?_
  refine j_iconst C (v := (5 : Int32)) dX6_build_62 rfl ?_
  refine j_iconst C (v := (0 : Int32)) dX6_build_63 rfl ?_
  refine j_cv_v C (As := [.int (nI n), .int (5 : Int32), .int (0 : Int32)]) (rest := []) (ctX6_lay (xl X) D h (upd (upd (upd (upd (upd (upd m 2 ((m 2) + (1 : Int32))) (3 + 6 * n + 0) p0) (3 + 6 * n + 1) s0) (3 + 6 * n + 2) c0) (3 + 6 * n + 3) l0) (3 + 6 * n + 4) (0 : Int32)) sp sv sc tx tl cd se ro st qa qb qd lo re cr ap nu ha n 5 (0 : Int32) (by first | assumption | omega | decide)) mfX6_lay gX6_build_X6_lay rfl (Nat.le_of_ble_eq_true rfl) (Nat.le_of_ble_eq_true rfl) (Nat.le_of_ble_eq_true rfl) (Nat.le_of_ble_eq_true rfl) [0, 1, 2, 3, 4, 5, 6] rfl rfl 0 rfl rfl rfl rfl (Nat.le_of_ble_eq_true rfl) dX6_build_64 ?_
  rintro _ rfl
  refine ⟨rfl, ?_⟩
  refine j_w (w' := (wMo D h (upd (upd (upd (upd (upd (upd (upd m 2 ((m 2) + (1 : Int32))) (3 + 6 * n + 0) p0) (3 + 6 * n + 1) s0) (3 + 6 * n + 2) c0) (3 + 6 * n + 3) l0) (3 + 6 * n + 4) (0 : Int32)) (3 + 6 * n + 5) (0 : Int32)) sp sv sc tx tl cd se ro st qa qb qd lo re cr ap nu ha)) rfl ?_
  exact ret dX6_build_67 (rfl)

set_option maxRecDepth 100000 in
set_option maxHeartbeats 4000000 in
theorem ctX6_keep (l : Launch) (D : KD) (h : Nat → Nat) (m sp sv : Nat → Int32) (tx : Nat → Int32) (tl cd se ro st : Int32) (qa qb qd : Int64) (lo : Nat → Int32) (re : Nat → Int64) (cr ap nu : Int32) (ha : Int64) (s : Nat) (hs : s ≤ 4) : MV l D yX6_keep wsX6_keep 1 24 0 0 [.ref (h 0)] (wMo D h m sp sv (nI s) tx tl cd se ro st qa qb qd lo re cr ap nu ha) (fun w1 => w1 = wMo D h m sp (kSv sv s m) (nI (min (s + 1) 4)) tx tl cd se ro st qa qb qd lo re cr ap nu ha) := by
  refine MV.of (cc := cX6_keep) (nL := 2) (lv0 := [(0, .ref (h 0))]) (by decide +kernel) rfl (Nat.le_of_ble_eq_true rfl) rfl ?_
  intro X hXl hin C ret
  subst hXl
  refine j_aload_n C 0 dX6_keep_0 rfl rfl ?_
  refine j_get C 0 fgX6_keep_33 rfl rfl dX6_keep_1 ?_
  refine j_iconst C (v := (4 : Int32)) dX6_keep_4 rfl ?_
  refine j_icmp_ne C dX6_keep_5 (tgt := 48) (by decide) (fun h5 => ?_) (fun h5 => ?_)
  · have hs4 : s < 4 := by refine Nat.lt_of_le_of_ne hs (fun z => h5 ?_); rw [z]; rfl
    refine j_aload_n C 0 dX6_keep_48 rfl rfl ?_
    refine j_get C 0 fgX6_keep_7 rfl rfl dX6_keep_49 ?_
    refine j_iconst C (v := (0 : Int32)) dX6_keep_52 rfl ?_
    refine j_aload_n C 0 dX6_keep_53 rfl rfl ?_
    refine j_get C 0 fgX6_keep_16 rfl rfl dX6_keep_54 ?_
    refine j_bipush C (v := (99 : Int32)) dX6_keep_57 rfl ?_
    refine j_aload_n C 0 dX6_keep_59 rfl rfl ?_
    refine j_get C 0 fgX6_keep_33 rfl rfl dX6_keep_60 ?_
    refine j_imul C dX6_keep_63 ?_
    refine j_eqi (y := nI (99 * s)) (pk_mul 99 s) ?_
    refine j_cs_v C (As := [.ref (h 1), .int (0 : Int32), .ref (h 3), .int (nI (99 * s))]) (rest := []) (ctX6_bring (xl X) D (h 1) (h 3) 99 396 0 (99 * s) m sv (by first | assumption | omega | decide) (by first | assumption | omega | decide) (by first | assumption | omega | decide) (by first | assumption | omega | decide)) mfX6_bring gX6_keep_X6_bring rfl (Nat.le_of_ble_eq_true rfl) (Nat.le_of_ble_eq_true rfl) (Nat.le_of_ble_eq_true rfl) (Nat.le_of_ble_eq_true rfl) [1, 3] rfl rfl rfl (Nat.le_of_ble_eq_true rfl) dX6_keep_64 ?_
    rintro _ rfl
    refine ⟨rfl, ?_⟩
    refine j_w (w' := (wMo D h m sp (va_cpy m sv 0 (99 * s) 99) (nI s) tx tl cd se ro st qa qb qd lo re cr ap nu ha)) rfl ?_
    refine j_aload_n C 0 dX6_keep_67 rfl rfl ?_
    refine j_dup C dX6_keep_68 rfl ?_
    refine j_get C 0 fgX6_keep_33 rfl rfl dX6_keep_69 ?_
    refine j_iconst C (v := (1 : Int32)) dX6_keep_72 rfl ?_
    refine j_iadd C dX6_keep_73 ?_
    refine j_eqi (y := nI (s + 1)) (nI_add s 1) ?_
    refine j_put C 0 foX6_keep_33 rfl (w' := (wMo D h m sp (va_cpy m sv 0 (99 * s) 99) (nI (s + 1)) tx tl cd se ro st qa qb qd lo re cr ap nu ha)) rfl rfl rfl (Nat.le_of_ble_eq_true rfl) dX6_keep_74 ?_
    exact ret dX6_keep_77 (by rw [kSv, if_neg (by omega), Nat.min_eq_left (by omega)])
  · have hs4 : s = 4 := (nI_eq (b := 4) (by omega) (by decide)).mp h5
    refine j_iconst C (v := (0 : Int32)) dX6_keep_8 rfl ?_
    refine j_istore_n C dX6_keep_9 rfl (by decide) (lv' := [(1, .int (0 : Int32)), (0, .ref (h 0))]) rfl ?_
    have hl10 : ∀ i10, i10 ≤ 297 → ∀ (t10 : Nat → Int32), t10 = shf sv i10 → J D X (wMo D h m sp t10 (nI s) tx tl cd se ro st qa qb qd lo re cr ap nu ha) 0 0 10 [(1, .int (nI i10)), (0, .ref (h 0))] [] := by
      refine for_up (297) ?_ ?_
      · intro t10 ht10
        refine j_iload_n C 0 dX6_keep_10 rfl rfl ?_
        refine j_sipush C (v := (297 : Int32)) dX6_keep_11 rfl ?_
        refine j_icmp_ge C dX6_keep_14 (tgt := 38) (by decide) (fun _ => ?_) (fun h => absurd (nI_le (Nat.le_refl 297) (by decide)) h)
        refine j_aload_n C 1 dX6_keep_38 rfl rfl ?_
        refine j_dup C dX6_keep_39 rfl ?_
        refine j_get C 0 fgX6_keep_33 rfl rfl dX6_keep_40 ?_
        refine j_iconst C (v := (1 : Int32)) dX6_keep_43 rfl ?_
        refine j_isub C dX6_keep_44 ?_
        refine j_eqi (y := nI 3) (by rw [hs4]; rfl) ?_
        refine j_put C 0 foX6_keep_33 rfl (w' := (wMo D h m sp t10 (nI 3) tx tl cd se ro st qa qb qd lo re cr ap nu ha)) rfl rfl rfl (Nat.le_of_ble_eq_true rfl) dX6_keep_45 ?_
        refine j_aload_n C 1 dX6_keep_48 rfl rfl ?_
        refine j_get C 0 fgX6_keep_7 rfl rfl dX6_keep_49 ?_
        refine j_iconst C (v := (0 : Int32)) dX6_keep_52 rfl ?_
        refine j_aload_n C 1 dX6_keep_53 rfl rfl ?_
        refine j_get C 0 fgX6_keep_16 rfl rfl dX6_keep_54 ?_
        refine j_bipush C (v := (99 : Int32)) dX6_keep_57 rfl ?_
        refine j_aload_n C 1 dX6_keep_59 rfl rfl ?_
        refine j_get C 0 fgX6_keep_33 rfl rfl dX6_keep_60 ?_
        refine j_imul C dX6_keep_63 ?_
        refine j_eqi (y := nI (99 * 3)) (pk_mul 99 3) ?_
        refine j_cs_v C (As := [.ref (h 1), .int (0 : Int32), .ref (h 3), .int (nI (99 * 3))]) (rest := []) (ctX6_bring (xl X) D (h 1) (h 3) 99 396 0 (99 * 3) m t10 (by first | assumption | omega | decide) (by first | assumption | omega | decide) (by first | assumption | omega | decide) (by first | assumption | omega | decide)) mfX6_bring gX6_keep_X6_bring rfl (Nat.le_of_ble_eq_true rfl) (Nat.le_of_ble_eq_true rfl) (Nat.le_of_ble_eq_true rfl) (Nat.le_of_ble_eq_true rfl) [1, 3] rfl rfl rfl (Nat.le_of_ble_eq_true rfl) dX6_keep_64 ?_
        rintro _ rfl
        refine ⟨rfl, ?_⟩
        refine j_w (w' := (wMo D h m sp (va_cpy m t10 0 (99 * 3) 99) (nI 3) tx tl cd se ro st qa qb qd lo re cr ap nu ha)) rfl ?_
        refine j_aload_n C 1 dX6_keep_67 rfl rfl ?_
        refine j_dup C dX6_keep_68 rfl ?_
        refine j_get C 0 fgX6_keep_33 rfl rfl dX6_keep_69 ?_
        refine j_iconst C (v := (1 : Int32)) dX6_keep_72 rfl ?_
        refine j_iadd C dX6_keep_73 ?_
        refine j_eqi (y := nI (3 + 1)) (nI_add 3 1) ?_
        refine j_put C 0 foX6_keep_33 rfl (w' := (wMo D h m sp (va_cpy m t10 0 (99 * 3) 99) (nI (3 + 1)) tx tl cd se ro st qa qb qd lo re cr ap nu ha)) rfl rfl rfl (Nat.le_of_ble_eq_true rfl) dX6_keep_74 ?_
        exact ret dX6_keep_77 (by subst hs4; subst ht10; rfl)
      · intro i10 hi10 ih10 t10 ht10
        refine j_iload_n C 0 dX6_keep_10 rfl rfl ?_
        refine j_sipush C (v := (297 : Int32)) dX6_keep_11 rfl ?_
        refine j_icmp_ge C dX6_keep_14 (tgt := 38) (by decide) (fun h => absurd h (nI_ge hi10 (by decide))) (fun _ => ?_)
        refine j_aload_n C 1 dX6_keep_17 rfl rfl ?_
        refine j_get C 0 fgX6_keep_16 rfl rfl dX6_keep_18 ?_
        refine j_iload_n C 0 dX6_keep_21 rfl rfl ?_
        refine j_aload_n C 1 dX6_keep_22 rfl rfl ?_
        refine j_get C 0 fgX6_keep_16 rfl rfl dX6_keep_23 ?_
        refine j_iload_n C 0 dX6_keep_26 rfl rfl ?_
        refine j_bipush C (v := (99 : Int32)) dX6_keep_27 rfl ?_
        refine j_iadd C dX6_keep_29 ?_
        refine j_eqi (y := nI (i10 + 99)) (nI_add i10 99) ?_
        refine j_iald C 3 rfl (i := i10 + 99) rfl (by omega) (by decide) dX6_keep_30 ?_
        refine j_iast C 3 rfl (i := i10) rfl (by omega) (by decide) (w' := (wMo D h m sp (upd t10 i10 (t10 (i10 + 99))) (nI s) tx tl cd se ro st qa qb qd lo re cr ap nu ha)) rfl dX6_keep_31 ?_
        refine j_iinc C 0 dX6_keep_32 rfl (v := nI (i10 + 1)) (nI_1 _) (by decide) (lv' := [(1, .int (nI (i10 + 1))), (0, .ref (h 0))]) rfl ?_
        refine j_goto C dX6_keep_35 (tgt := 10) (by decide) ?_
        refine j_sub [0, 1] (lv' := [(1, .int (nI (i10 + 1))), (0, .ref (h 0))]) rfl ?_
        exact ih10 (upd t10 i10 (t10 (i10 + 99))) (by rw [← shf_s]; try rw [← ht10]; try rfl)
    refine j_sub [0, 1] (lv' := [(1, .int (0 : Int32)), (0, .ref (h 0))]) rfl ?_
    exact hl10 0 (Nat.zero_le _) sv (shf_0 _).symm

set_option maxRecDepth 100000 in
set_option maxHeartbeats 4000000 in
theorem ctX6_change (l : Launch) (D : KD) (h : Nat → Nat) (m sp sv : Nat → Int32) (tx : Nat → Int32) (tl cd se ro st : Int32) (qa qb qd : Int64) (lo : Nat → Int32) (re : Nat → Int64) (cr ap nu : Int32) (ha : Int64) (s : Nat) (hs : s ≤ 4) (i v : Nat) (x : Int32) (hi : 3 + 6 * i + v < 99) : MI l D yX6_change wsX6_change 2 45 0 0 [.ref (h 0), .int (nI i), .int (nI v), .int x] (wMo D h m sp sv (nI s) tx tl cd se ro st qa qb qd lo re cr ap nu ha) (fun r w1 => r = m (3 + 6 * i + v) ∧ w1 = wMo D h (upd m (3 + 6 * i + v) x) sp (kSv sv s m) (nI (min (s + 1) 4)) tx tl cd se ro st qa qb qd lo re cr ap nu ha) := by
  refine MI.of (cc := cX6_change) (nL := 5) (lv0 := [(0, .ref (h 0)), (1, .int (nI i)), (2, .int (nI v)), (3, .int x)]) (by decide +kernel) rfl (Nat.le_of_ble_eq_true rfl) rfl ?_
  intro X hXl hin C ret
  subst hXl
  refine j_aload_n C 0 dX6_change_0 rfl rfl ?_
  refine j_cv_v C (As := []) (rest := []) (ctX6_keep (xl X) D h m sp sv tx tl cd se ro st qa qb qd lo re cr ap nu ha s (by first | assumption | omega | decide)) mfX6_keep gX6_change_X6_keep rfl (Nat.le_of_ble_eq_true rfl) (Nat.le_of_ble_eq_true rfl) (Nat.le_of_ble_eq_true rfl) (Nat.le_of_ble_eq_true rfl) [0, 1, 2, 3, 4, 5, 6] rfl rfl 0 rfl rfl rfl rfl (Nat.le_of_ble_eq_true rfl) dX6_change_1 ?_
  rintro _ rfl
  refine ⟨rfl, ?_⟩
  refine j_w (w' := (wMo D h m sp (kSv sv s m) (nI (min (s + 1) 4)) tx tl cd se ro st qa qb qd lo re cr ap nu ha)) rfl ?_
  refine j_aload_n C 0 dX6_change_4 rfl rfl ?_
  refine j_iload_n C 1 dX6_change_5 rfl rfl ?_
  refine j_iload_n C 2 dX6_change_6 rfl rfl ?_
  refine j_cv_i C (As := [.int (nI i), .int (nI v)]) (rest := []) (ctX6_of (xl X) D h m sp (kSv sv s m) (nI (min (s + 1) 4)) tx tl cd se ro st qa qb qd lo re cr ap nu ha i v (by first | assumption | omega | decide)) mfX6_of gX6_change_X6_of rfl (Nat.le_of_ble_eq_true rfl) (Nat.le_of_ble_eq_true rfl) (Nat.le_of_ble_eq_true rfl) (Nat.le_of_ble_eq_true rfl) [0, 1, 2, 3, 4, 5, 6] rfl rfl 0 rfl rfl rfl rfl (Nat.le_of_ble_eq_true rfl) dX6_change_7 ?_
  rintro _ _ ⟨rfl, rfl⟩
  refine ⟨rfl, ?_⟩
  refine j_w (w' := (wMo D h m sp (kSv sv s m) (nI (min (s + 1) 4)) tx tl cd se ro st qa qb qd lo re cr ap nu ha)) rfl ?_
  refine j_istore C dX6_change_10 (by decide) (lv' := [(4, .int (m (3 + 6 * i + v))), (0, .ref (h 0)), (1, .int (nI i)), (2, .int (nI v)), (3, .int x)]) rfl ?_
  refine j_aload_n C 1 dX6_change_12 rfl rfl ?_
  refine j_iload_n C 2 dX6_change_13 rfl rfl ?_
  refine j_iload_n C 3 dX6_change_14 rfl rfl ?_
  refine j_iload_n C 4 dX6_change_15 rfl rfl ?_
  refine j_cv_v C (As := [.int (nI i), .int (nI v), .int x]) (rest := []) (ctX6_lay (xl X) D h m sp (kSv sv s m) (nI (min (s + 1) 4)) tx tl cd se ro st qa qb qd lo re cr ap nu ha i v x (by first | assumption | omega | decide)) mfX6_lay gX6_change_X6_lay rfl (Nat.le_of_ble_eq_true rfl) (Nat.le_of_ble_eq_true rfl) (Nat.le_of_ble_eq_true rfl) (Nat.le_of_ble_eq_true rfl) [0, 1, 2, 3, 4, 5, 6] rfl rfl 0 rfl rfl rfl rfl (Nat.le_of_ble_eq_true rfl) dX6_change_16 ?_
  rintro _ rfl
  refine ⟨rfl, ?_⟩
  refine j_w (w' := (wMo D h (upd m (3 + 6 * i + v) x) sp (kSv sv s m) (nI (min (s + 1) 4)) tx tl cd se ro st qa qb qd lo re cr ap nu ha)) rfl ?_
  refine j_iload C 0 dX6_change_19 rfl ?_
  exact ret dX6_change_21 (⟨rfl, rfl⟩)
