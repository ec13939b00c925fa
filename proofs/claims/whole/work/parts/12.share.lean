set_option maxRecDepth 100000 in
set_option maxHeartbeats 4000000 in
theorem ctX6_share (l : Launch) (D : KD) (h : Nat → Nat) (m sp sv : Nat → Int32) (sc : Int32) (tx : Nat → Int32) (tl cd se ro st : Int32) (qa qb qd : Int64) (lo : Nat → Int32) (re : Nat → Int64) (cr ap nu : Int32) (ha : Int64) (n : Nat) (hn : n ≤ 16) (hc : m 2 = nI n) (hd : 0 < qd) (hlo : lo = fun _ => 0) (hset : ∀ j, n ≤ j → j < 32 → bt se j = false) (hg : (rl (mP m) (mK m) (mH m) se (m 0) (qa, qb, qd) (fun _ => 0) (fun _ => 0) 16).1.toNatClampNeg ≤ 16) : MV l D yX6_share wsX6_share 2 43 0 0 [.ref (h 0)] (wMo D h m sp sv sc tx tl cd se ro st qa qb qd lo re cr ap nu ha) (fun w1 => w1 = wMo D h m sp sv sc tx tl cd se ro st qa qb qd ((ldS (mP m) (mK m) (mH m) se (m 0) (qa, qb, qd) (fun _ => 0)).1) ((ldS (mP m) (mK m) (mH m) se (m 0) (qa, qb, qd) (fun _ => 0)).2) cr ap nu ha) := by
  refine MV.of (cc := cX6_share) (nL := 6) (lv0 := [(0, .ref (h 0))]) (by decide +kernel) rfl (Nat.le_of_ble_eq_true rfl) rfl ?_
  intro X hXl hin C ret
  subst hXl
  refine j_aload_n C 0 dX6_share_0 rfl rfl ?_
  refine j_get C 0 fgX6_share_7 rfl rfl dX6_share_1 ?_
  refine j_iconst C (v := (0 : Int32)) dX6_share_4 rfl ?_
  refine j_iald C 1 rfl (i := 0) rfl (by decide) (by decide) dX6_share_5 ?_
  refine j_istore_n C dX6_share_6 rfl (by decide) (lv' := [(1, .int (m 0)), (0, .ref (h 0))]) rfl ?_
  refine j_iconst C (v := (0 : Int32)) dX6_share_7 rfl ?_
  refine j_istore_n C dX6_share_8 rfl (by decide) (lv' := [(2, .int (0 : Int32)), (1, .int (m 0)), (0, .ref (h 0))]) rfl ?_
  have hl9 : ∀ i9, i9 ≤ 16 → ∀ (t9 : Int32 × (Nat → Int32) × (Nat → Int64)), t9 = rl (mP m) (mK m) (mH m) se (m 0) (qa, qb, qd) (fun _ => 0) re i9 → J D X (wMo D h m sp sv sc tx tl cd se ro st qa qb qd t9.2.1 t9.2.2 cr ap nu ha) 0 0 9 [(2, .int (nI i9)), (1, .int t9.1), (0, .ref (h 0))] [] := by
    refine for_up (16) ?_ ?_
    · intro t9 ht9
      refine j_iload_n C 0 dX6_share_9 rfl rfl ?_
      refine j_bipush C (v := (16 : Int32)) dX6_share_10 rfl ?_
      refine j_icmp_ge C dX6_share_12 (tgt := 117) (by decide) (fun _ => ?_) (fun h => absurd (nI_le (Nat.le_refl 16) (by decide)) h)
      obtain ⟨u, hu⟩ : ∃ u, u = rl (mP m) (mK m) (mH m) se (m 0) (qa, qb, qd) (fun _ => 0) (fun _ => 0) 16 := ⟨_, rfl⟩
      have hu1 : t9.1 = u.1 := by rw [ht9, hu]; exact (rl_cu _ _ 16).1
      have hu2 : t9.2.1 = u.2.1 := by rw [ht9, hu]; exact (rl_cu _ _ 16).2.1
      have hu3 : ∀ j, j < 16 → t9.2.2 j = u.2.2 j := by rw [ht9, hu]; exact (rl_cu _ _ 16).2.2
      rw [← hu] at hg
      refine j_asl 6 u.2.2 rfl hu3 (w' := (wMo D h m sp sv sc tx tl cd se ro st qa qb qd t9.2.1 u.2.2 cr ap nu ha)) rfl ?_
      rw [hu1, hu2]
      have key : ∀ (c : Nat) (lf : Int32) (q : (Nat → Int32) × (Nat → Int64)), c ≤ u.1.toNatClampNeg → q = gvn u.2 (u.1.toNatClampNeg - c) → lf.toNatClampNeg = c → J D X (wMo D h m sp sv sc tx tl cd se ro st qa qb qd q.1 q.2 cr ap nu ha) 0 0 117 [(1, .int lf), (0, .ref (h 0))] [] := by
        intro c
        induction c with
        | zero =>
          intro lf q hcu hq hlf
          refine j_iload_n C 0 dX6_share_117 rfl rfl ?_
          refine j_if_le C dX6_share_118 (tgt := 184) (by decide) (fun _ => ?_) (fun h => absurd (clamp0 hlf) h)
          exact ret dX6_share_184 (by simp only [ldS]; rw [← hu, ldG hg, hq, Nat.sub_zero])
        | succ c ih =>
          intro lf q hcu hq hlf
          obtain rfl : lf = nI (c + 1) := clampS hlf
          have hgq : gvn u.2 (u.1.toNatClampNeg - c) = gv (gvn u.2 (u.1.toNatClampNeg - (c + 1))) := by rw [show u.1.toNatClampNeg - c = (u.1.toNatClampNeg - (c + 1)) + 1 by omega]; rfl
          refine j_iload_n C 0 dX6_share_117 rfl rfl ?_
          refine j_if_le C dX6_share_118 (tgt := 184) (by decide) (fun h => absurd h (nI_nle (by omega) (by omega))) (fun _ => ?_)
          refine j_iconst C (v := (0 : Int32)) dX6_share_121 rfl ?_
          refine j_istore_n C dX6_share_122 rfl (by decide) (lv' := [(2, .int (0 : Int32)), (1, .int (nI (c + 1))), (0, .ref (h 0))]) rfl ?_
          refine j_iconst C (v := (1 : Int32)) dX6_share_123 rfl ?_
          refine j_istore_n C dX6_share_124 rfl (by decide) (lv' := [(3, .int (1 : Int32)), (2, .int (0 : Int32)), (1, .int (nI (c + 1))), (0, .ref (h 0))]) rfl ?_
          have hl125 : ∀ i125, i125 ≤ 16 → ∀ (t125 : Nat), t125 = am q.2 i125 → J D X (wMo D h m sp sv sc tx tl cd se ro st qa qb qd q.1 q.2 cr ap nu ha) 0 0 125 [(3, .int (nI i125)), (2, .int (nI t125)), (1, .int (nI (c + 1))), (0, .ref (h 0))] [] := by
            refine for_up (16) ?_ ?_
            · intro t125 ht125
              refine j_iload_n C 0 dX6_share_125 rfl rfl ?_
              refine j_bipush C (v := (16 : Int32)) dX6_share_126 rfl ?_
              refine j_icmp_ge C dX6_share_128 (tgt := 159) (by decide) (fun _ => ?_) (fun h => absurd (nI_le (Nat.le_refl 16) (by decide)) h)
              refine j_aload_n C 3 dX6_share_159 rfl rfl ?_
              refine j_get C 0 fgX6_share_22 rfl rfl dX6_share_160 ?_
              refine j_iload_n C 1 dX6_share_163 rfl rfl ?_
              refine j_dup2 C dX6_share_164 rfl rfl ?_
              refine j_iald C 5 rfl (i := t125) rfl (by rw [ht125]; exact am_16 _ _ (by omega)) (by decide) dX6_share_165 ?_
              refine j_iconst C (v := (1 : Int32)) dX6_share_166 rfl ?_
              refine j_iadd C dX6_share_167 ?_
              refine j_iast C 5 rfl (i := t125) rfl (by rw [ht125]; exact am_16 _ _ (by omega)) (by decide) (w' := (wMo D h m sp sv sc tx tl cd se ro st qa qb qd (upd q.1 t125 ((q.1 t125) + (1 : Int32))) q.2 cr ap nu ha)) rfl dX6_share_168 ?_
              refine j_aload_n C 3 dX6_share_169 rfl rfl ?_
              refine j_get C 0 fgX6_share_25 rfl rfl dX6_share_170 ?_
              refine j_iload_n C 1 dX6_share_173 rfl rfl ?_
              refine j_ldc2 C kX6_share_69 dX6_share_174 ?_
              refine j_last C 6 rfl (i := t125) rfl (by rw [ht125]; exact am_16 _ _ (by omega)) (by decide) (w' := (wMo D h m sp sv sc tx tl cd se ro st qa qb qd (upd q.1 t125 ((q.1 t125) + (1 : Int32))) (vp_updL q.2 t125 (-1 : Int64)) cr ap nu ha)) rfl dX6_share_177 ?_
              refine j_iinc C 2 dX6_share_178 rfl (v := nI c) (pk_m1 _) (by decide) (lv' := [(1, .int (nI c)), (3, .int (nI 16)), (2, .int (nI t125)), (0, .ref (h 0))]) rfl ?_
              refine j_goto C dX6_share_181 (tgt := 117) (by decide) ?_
              refine j_sub [0, 3] (lv' := [(1, .int (nI c)), (0, .ref (h 0))]) rfl ?_
              exact ih _ (upd q.1 t125 ((q.1 t125) + (1 : Int32)), vp_updL q.2 t125 (-1 : Int64)) (by omega) (by rw [hgq, ← hq]; subst ht125; rfl) (nI_clamp (by omega))
            · intro i125 hi125 ih125 t125 ht125
              refine j_iload_n C 0 dX6_share_125 rfl rfl ?_
              refine j_bipush C (v := (16 : Int32)) dX6_share_126 rfl ?_
              refine j_icmp_ge C dX6_share_128 (tgt := 159) (by decide) (fun h => absurd h (nI_ge hi125 (by decide))) (fun _ => ?_)
              refine j_aload_n C 3 dX6_share_131 rfl rfl ?_
              refine j_get C 0 fgX6_share_25 rfl rfl dX6_share_132 ?_
              refine j_iload_n C 0 dX6_share_135 rfl rfl ?_
              refine j_lald C 6 rfl (i := i125) rfl (by omega) (by decide) dX6_share_136 ?_
              refine j_aload_n C 3 dX6_share_137 rfl rfl ?_
              refine j_get C 0 fgX6_share_25 rfl rfl dX6_share_138 ?_
              refine j_iload_n C 1 dX6_share_141 rfl rfl ?_
              refine j_lald C 6 rfl (i := t125) rfl (by rw [ht125]; exact am_16 _ _ (by omega)) (by decide) dX6_share_142 ?_
              refine j_lcmp C dX6_share_143 ?_
              refine j_lif_le C dX6_share_144 (tgt := 151) (by decide) (fun h144 => ?_) (fun h144 => ?_)
              · have h144' := Int64.not_lt.mpr h144
                refine j_iload_n C 1 dX6_share_151 rfl rfl ?_
                refine j_istore_n C dX6_share_152 rfl (by decide) (lv' := [(2, .int (nI t125)), (3, .int (nI i125)), (1, .int (nI (c + 1))), (0, .ref (h 0))]) rfl ?_
                refine j_iinc C 1 dX6_share_153 rfl (v := nI (i125 + 1)) (nI_1 _) (by decide) (lv' := [(3, .int (nI (i125 + 1))), (2, .int (nI t125)), (1, .int (nI (c + 1))), (0, .ref (h 0))]) rfl ?_
                refine j_goto C dX6_share_156 (tgt := 125) (by decide) ?_
                refine j_sub [0, 1, 2, 3] (lv' := [(3, .int (nI (i125 + 1))), (2, .int (nI t125)), (1, .int (nI (c + 1))), (0, .ref (h 0))]) rfl ?_
                exact ih125 t125 (by rw [am_f (by rw [← ht125]; exact h144')]; try rw [← ht125]; try rfl)
              · have h144' := Int64.not_le.mp h144
                refine j_iload_n C 0 dX6_share_147 rfl rfl ?_
                refine j_goto C dX6_share_148 (tgt := 152) (by decide) ?_
                refine j_istore_n C dX6_share_152 rfl (by decide) (lv' := [(2, .int (nI i125)), (3, .int (nI i125)), (1, .int (nI (c + 1))), (0, .ref (h 0))]) rfl ?_
                refine j_iinc C 1 dX6_share_153 rfl (v := nI (i125 + 1)) (nI_1 _) (by decide) (lv' := [(3, .int (nI (i125 + 1))), (2, .int (nI i125)), (1, .int (nI (c + 1))), (0, .ref (h 0))]) rfl ?_
                refine j_goto C dX6_share_156 (tgt := 125) (by decide) ?_
                refine j_sub [0, 1, 2, 3] (lv' := [(3, .int (nI (i125 + 1))), (2, .int (nI i125)), (1, .int (nI (c + 1))), (0, .ref (h 0))]) rfl ?_
                exact ih125 i125 (by rw [am_t (by rw [← ht125]; exact h144')]; try rw [← ht125]; try rfl)
          refine j_sub [0, 1, 2, 3] (lv' := [(3, .int (1 : Int32)), (2, .int (0 : Int32)), (1, .int (nI (c + 1))), (0, .ref (h 0))]) rfl ?_
          exact hl125 1 (by omega) 0 (am_1 _).symm
      refine j_sub [1, 2] (lv' := [(1, .int u.1), (0, .ref (h 0))]) rfl ?_
      exact key _ u.1 u.2 (Nat.le_refl _) (by rw [Nat.sub_self]; rfl) rfl
    · intro i9 hi9 ih9 t9 ht9
      refine j_iload_n C 0 dX6_share_9 rfl rfl ?_
      refine j_bipush C (v := (16 : Int32)) dX6_share_10 rfl ?_
      refine j_icmp_ge C dX6_share_12 (tgt := 117) (by decide) (fun h => absurd h (nI_ge hi9 (by decide))) (fun _ => ?_)
      refine j_iload_n C 0 dX6_share_15 rfl rfl ?_
      refine j_aload_n C 2 dX6_share_16 rfl rfl ?_
      refine j_get C 0 fgX6_share_7 rfl rfl dX6_share_17 ?_
      refine j_iconst C (v := (2 : Int32)) dX6_share_20 rfl ?_
      refine j_iald C 1 rfl (i := 2) rfl (by decide) (by decide) dX6_share_21 ?_
      refine j_eqi (y := nI n) hc ?_
      refine j_icmp_ge C dX6_share_22 (tgt := 40) (by decide) (fun h22 => ?_) (fun h22 => ?_)
      · have h22' := Int32.not_lt.mpr h22
        have h22n : n ≤ i9 := (nI_leI (by omega) (by omega)).mp h22
        refine j_iconst C (v := (0 : Int32)) dX6_share_40 rfl ?_
        refine j_istore_n C dX6_share_41 rfl (by decide) (lv' := [(3, .int (0 : Int32)), (2, .int (nI i9)), (1, .int t9.1), (0, .ref (h 0))]) rfl ?_
        refine j_iload_n C 0 dX6_share_42 rfl rfl ?_
        refine j_if_eq C dX6_share_43 (tgt := 62) (by decide) (fun _ => ?_) (fun h => absurd (by decide) h)
        refine j_lconst C (v := (0 : Int64)) dX6_share_62 rfl ?_
        refine j_lstore C dX6_share_63 (by decide) (lv' := [(4, .long (0 : Int64)), (3, .int (0 : Int32)), (2, .int (nI i9)), (1, .int t9.1), (0, .ref (h 0))]) rfl ?_
        refine j_aload_n C 4 dX6_share_65 rfl rfl ?_
        refine j_get C 0 fgX6_share_22 rfl rfl dX6_share_66 ?_
        refine j_iload_n C 2 dX6_share_69 rfl rfl ?_
        refine j_lload C 0 dX6_share_70 rfl ?_
        refine j_aload_n C 4 dX6_share_72 rfl rfl ?_
        refine j_get C 0 fgX6_share_55 rfl rfl dX6_share_73 ?_
        refine j_ldiv C dX6_share_76 (ne_of_pos hd) ?_
        refine j_l2i C dX6_share_77 ?_
        refine j_eqi (y := (0 : Int32)) (zdiv _) ?_
        refine j_iast C 5 rfl (i := i9) rfl (by omega) (by decide) (w' := (wMo D h m sp sv sc tx tl cd se ro st qa qb qd (upd t9.2.1 i9 (0 : Int32)) t9.2.2 cr ap nu ha)) rfl dX6_share_78 ?_
        refine j_aload_n C 4 dX6_share_79 rfl rfl ?_
        refine j_get C 0 fgX6_share_25 rfl rfl dX6_share_80 ?_
        refine j_iload_n C 2 dX6_share_83 rfl rfl ?_
        refine j_iload_n C 1 dX6_share_84 rfl rfl ?_
        refine j_if_eq C dX6_share_85 (tgt := 98) (by decide) (fun _ => ?_) (fun h => absurd (by decide) h)
        refine j_ldc2 C kX6_share_69 dX6_share_98 ?_
        refine j_last C 6 rfl (i := i9) rfl (by omega) (by decide) (w' := (wMo D h m sp sv sc tx tl cd se ro st qa qb qd (upd t9.2.1 i9 (0 : Int32)) (vp_updL t9.2.2 i9 (-1 : Int64)) cr ap nu ha)) rfl dX6_share_101 ?_
        refine j_iload_n C 3 dX6_share_102 rfl rfl ?_
        refine j_aload_n C 4 dX6_share_103 rfl rfl ?_
        refine j_get C 0 fgX6_share_22 rfl rfl dX6_share_104 ?_
        refine j_iload_n C 2 dX6_share_107 rfl rfl ?_
        refine j_iald C 5 rfl (i := i9) rfl (by omega) (by decide) dX6_share_108 ?_
        refine j_eqi (y := (0 : Int32)) pk_us ?_
        refine j_isub C dX6_share_109 ?_
        refine j_istore_n C dX6_share_110 rfl (by decide) (lv' := [(1, .int (t9.1 - (0 : Int32))), (4, .long (0 : Int64)), (3, .int (0 : Int32)), (2, .int (nI i9)), (0, .ref (h 0))]) rfl ?_
        refine j_iinc C 3 dX6_share_111 rfl (v := nI (i9 + 1)) (nI_1 _) (by decide) (lv' := [(2, .int (nI (i9 + 1))), (1, .int (t9.1 - (0 : Int32))), (4, .long (0 : Int64)), (3, .int (0 : Int32)), (0, .ref (h 0))]) rfl ?_
        refine j_goto C dX6_share_114 (tgt := 9) (by decide) ?_
        refine j_sub [0, 1, 4] (lv' := [(2, .int (nI (i9 + 1))), (1, .int (t9.1 - (0 : Int32))), (0, .ref (h 0))]) rfl ?_
        exact ih9 (t9.1 - (0 : Int32), upd t9.2.1 i9 (0 : Int32), vp_updL t9.2.2 i9 (-1 : Int64)) (by rw [rl_f (hset _ h22n (by omega)), ← ht9, Int32.sub_zero, upd_same (by rw [ht9]; exact rl_lo0 _ _ _ (Nat.le_refl _))])
      · have h22' := Int32.not_le.mp h22
        have h22n : i9 < n := Nat.lt_of_not_le fun z => h22 ((nI_leI (by omega) (by omega)).mpr z)
        refine j_aload_n C 2 dX6_share_25 rfl rfl ?_
        refine j_get C 0 fgX6_share_48 rfl rfl dX6_share_26 ?_
        refine j_iload_n C 0 dX6_share_29 rfl rfl ?_
        refine j_cs_i C (As := [.int se, .int (nI i9)]) (rest := []) (ctX6_has (xl X) D se i9 (by first | assumption | omega | decide)) mfX6_has gX6_share_X6_has rfl (Nat.le_of_ble_eq_true rfl) (Nat.le_of_ble_eq_true rfl) (Nat.le_of_ble_eq_true rfl) (Nat.le_of_ble_eq_true rfl) [] rfl rfl rfl (Nat.le_of_ble_eq_true rfl) dX6_share_30 ?_
        rintro _ _ ⟨rfl, rfl⟩
        refine ⟨rfl, ?_⟩
        refine j_w (w' := (wMo D h m sp sv sc tx tl cd se ro st qa qb qd t9.2.1 t9.2.2 cr ap nu ha)) rfl ?_
        refine j_bif_eq C dX6_share_33 (tgt := 40) (by decide) (fun h33 => ?_) (fun h33 => ?_)
        · refine j_iconst C (v := (0 : Int32)) dX6_share_40 rfl ?_
          refine j_istore_n C dX6_share_41 rfl (by decide) (lv' := [(3, .int (0 : Int32)), (2, .int (nI i9)), (1, .int t9.1), (0, .ref (h 0))]) rfl ?_
          refine j_iload_n C 0 dX6_share_42 rfl rfl ?_
          refine j_if_eq C dX6_share_43 (tgt := 62) (by decide) (fun _ => ?_) (fun h => absurd (by decide) h)
          refine j_lconst C (v := (0 : Int64)) dX6_share_62 rfl ?_
          refine j_lstore C dX6_share_63 (by decide) (lv' := [(4, .long (0 : Int64)), (3, .int (0 : Int32)), (2, .int (nI i9)), (1, .int t9.1), (0, .ref (h 0))]) rfl ?_
          refine j_aload_n C 4 dX6_share_65 rfl rfl ?_
          refine j_get C 0 fgX6_share_22 rfl rfl dX6_share_66 ?_
          refine j_iload_n C 2 dX6_share_69 rfl rfl ?_
          refine j_lload C 0 dX6_share_70 rfl ?_
          refine j_aload_n C 4 dX6_share_72 rfl rfl ?_
          refine j_get C 0 fgX6_share_55 rfl rfl dX6_share_73 ?_
          refine j_ldiv C dX6_share_76 (ne_of_pos hd) ?_
          refine j_l2i C dX6_share_77 ?_
          refine j_eqi (y := (0 : Int32)) (zdiv _) ?_
          refine j_iast C 5 rfl (i := i9) rfl (by omega) (by decide) (w' := (wMo D h m sp sv sc tx tl cd se ro st qa qb qd (upd t9.2.1 i9 (0 : Int32)) t9.2.2 cr ap nu ha)) rfl dX6_share_78 ?_
          refine j_aload_n C 4 dX6_share_79 rfl rfl ?_
          refine j_get C 0 fgX6_share_25 rfl rfl dX6_share_80 ?_
          refine j_iload_n C 2 dX6_share_83 rfl rfl ?_
          refine j_iload_n C 1 dX6_share_84 rfl rfl ?_
          refine j_if_eq C dX6_share_85 (tgt := 98) (by decide) (fun _ => ?_) (fun h => absurd (by decide) h)
          refine j_ldc2 C kX6_share_69 dX6_share_98 ?_
          refine j_last C 6 rfl (i := i9) rfl (by omega) (by decide) (w' := (wMo D h m sp sv sc tx tl cd se ro st qa qb qd (upd t9.2.1 i9 (0 : Int32)) (vp_updL t9.2.2 i9 (-1 : Int64)) cr ap nu ha)) rfl dX6_share_101 ?_
          refine j_iload_n C 3 dX6_share_102 rfl rfl ?_
          refine j_aload_n C 4 dX6_share_103 rfl rfl ?_
          refine j_get C 0 fgX6_share_22 rfl rfl dX6_share_104 ?_
          refine j_iload_n C 2 dX6_share_107 rfl rfl ?_
          refine j_iald C 5 rfl (i := i9) rfl (by omega) (by decide) dX6_share_108 ?_
          refine j_eqi (y := (0 : Int32)) pk_us ?_
          refine j_isub C dX6_share_109 ?_
          refine j_istore_n C dX6_share_110 rfl (by decide) (lv' := [(1, .int (t9.1 - (0 : Int32))), (4, .long (0 : Int64)), (3, .int (0 : Int32)), (2, .int (nI i9)), (0, .ref (h 0))]) rfl ?_
          refine j_iinc C 3 dX6_share_111 rfl (v := nI (i9 + 1)) (nI_1 _) (by decide) (lv' := [(2, .int (nI (i9 + 1))), (1, .int (t9.1 - (0 : Int32))), (4, .long (0 : Int64)), (3, .int (0 : Int32)), (0, .ref (h 0))]) rfl ?_
          refine j_goto C dX6_share_114 (tgt := 9) (by decide) ?_
          refine j_sub [0, 1, 4] (lv' := [(2, .int (nI (i9 + 1))), (1, .int (t9.1 - (0 : Int32))), (0, .ref (h 0))]) rfl ?_
          exact ih9 (t9.1 - (0 : Int32), upd t9.2.1 i9 (0 : Int32), vp_updL t9.2.2 i9 (-1 : Int64)) (by rw [rl_f h33, ← ht9, Int32.sub_zero, upd_same (by rw [ht9]; exact rl_lo0 _ _ _ (Nat.le_refl _))])
        · refine j_iconst C (v := (1 : Int32)) dX6_share_36 rfl ?_
          refine j_goto C dX6_share_37 (tgt := 41) (by decide) ?_
          refine j_istore_n C dX6_share_41 rfl (by decide) (lv' := [(3, .int (1 : Int32)), (2, .int (nI i9)), (1, .int t9.1), (0, .ref (h 0))]) rfl ?_
          refine j_iload_n C 0 dX6_share_42 rfl rfl ?_
          refine j_if_eq C dX6_share_43 (tgt := 62) (by decide) (fun h => absurd h (by decide)) (fun _ => ?_)
          refine j_aload_n C 3 dX6_share_46 rfl rfl ?_
          refine j_iload_n C 1 dX6_share_47 rfl rfl ?_
          refine j_iconst C (v := (1 : Int32)) dX6_share_48 rfl ?_
          refine j_cv_i C (As := [.int (nI i9), .int (1 : Int32)]) (rest := []) (ctX6_of (xl X) D h m sp sv sc tx tl cd se ro st qa qb qd t9.2.1 t9.2.2 cr ap nu ha i9 1 (by first | assumption | omega | decide)) mfX6_of gX6_share_X6_of rfl (Nat.le_of_ble_eq_true rfl) (Nat.le_of_ble_eq_true rfl) (Nat.le_of_ble_eq_true rfl) (Nat.le_of_ble_eq_true rfl) [0, 1, 2, 3, 4, 5, 6] rfl rfl 0 rfl rfl rfl rfl (Nat.le_of_ble_eq_true rfl) dX6_share_49 ?_
          rintro _ _ ⟨rfl, rfl⟩
          refine ⟨rfl, ?_⟩
          refine j_w (w' := (wMo D h m sp sv sc tx tl cd se ro st qa qb qd t9.2.1 t9.2.2 cr ap nu ha)) rfl ?_
          refine j_i2l C dX6_share_52 ?_
          refine j_aload_n C 3 dX6_share_53 rfl rfl ?_
          refine j_iload_n C 1 dX6_share_54 rfl rfl ?_
          refine j_cv_l C (As := [.int (nI i9)]) (rest := [.long ((m (3 + 6 * i9 + 1)).toInt64)]) (ctX6_press (xl X) D h m sp sv sc tx tl cd se ro st qa qb qd t9.2.1 t9.2.2 cr ap nu ha i9 (by first | assumption | omega | decide)) mfX6_press gX6_share_X6_press rfl (Nat.le_of_ble_eq_true rfl) (Nat.le_of_ble_eq_true rfl) (Nat.le_of_ble_eq_true rfl) (Nat.le_of_ble_eq_true rfl) [0, 1, 2, 3, 4, 5, 6] rfl rfl 0 rfl rfl rfl rfl (Nat.le_of_ble_eq_true rfl) dX6_share_55 ?_
          rintro _ _ ⟨rfl, rfl⟩
          refine ⟨rfl, ?_⟩
          refine j_w (w' := (wMo D h m sp sv sc tx tl cd se ro st qa qb qd t9.2.1 t9.2.2 cr ap nu ha)) rfl ?_
          refine j_lmul C dX6_share_58 ?_
          refine j_goto C dX6_share_59 (tgt := 63) (by decide) ?_
          refine j_lstore C dX6_share_63 (by decide) (lv' := [(4, .long (((m (3 + 6 * i9 + 1)).toInt64) * (qa + qb * (mP m i9).toInt64 + qd * (mH m i9).toInt64))), (3, .int (1 : Int32)), (2, .int (nI i9)), (1, .int t9.1), (0, .ref (h 0))]) rfl ?_
          refine j_aload_n C 4 dX6_share_65 rfl rfl ?_
          refine j_get C 0 fgX6_share_22 rfl rfl dX6_share_66 ?_
          refine j_iload_n C 2 dX6_share_69 rfl rfl ?_
          refine j_lload C 0 dX6_share_70 rfl ?_
          refine j_aload_n C 4 dX6_share_72 rfl rfl ?_
          refine j_get C 0 fgX6_share_55 rfl rfl dX6_share_73 ?_
          refine j_ldiv C dX6_share_76 (ne_of_pos hd) ?_
          refine j_l2i C dX6_share_77 ?_
          refine j_iast C 5 rfl (i := i9) rfl (by omega) (by decide) (w' := (wMo D h m sp sv sc tx tl cd se ro st qa qb qd (upd t9.2.1 i9 (((((m (3 + 6 * i9 + 1)).toInt64) * (qa + qb * (mP m i9).toInt64 + qd * (mH m i9).toInt64)) / qd).toInt32)) t9.2.2 cr ap nu ha)) rfl dX6_share_78 ?_
          refine j_aload_n C 4 dX6_share_79 rfl rfl ?_
          refine j_get C 0 fgX6_share_25 rfl rfl dX6_share_80 ?_
          refine j_iload_n C 2 dX6_share_83 rfl rfl ?_
          refine j_iload_n C 1 dX6_share_84 rfl rfl ?_
          refine j_if_eq C dX6_share_85 (tgt := 98) (by decide) (fun h => absurd h (by decide)) (fun _ => ?_)
          refine j_lload C 0 dX6_share_88 rfl ?_
          refine j_aload_n C 4 dX6_share_90 rfl rfl ?_
          refine j_get C 0 fgX6_share_55 rfl rfl dX6_share_91 ?_
          refine j_lrem C dX6_share_94 (ne_of_pos hd) ?_
          refine j_goto C dX6_share_95 (tgt := 101) (by decide) ?_
          refine j_last C 6 rfl (i := i9) rfl (by omega) (by decide) (w' := (wMo D h m sp sv sc tx tl cd se ro st qa qb qd (upd t9.2.1 i9 (((((m (3 + 6 * i9 + 1)).toInt64) * (qa + qb * (mP m i9).toInt64 + qd * (mH m i9).toInt64)) / qd).toInt32)) (vp_updL t9.2.2 i9 ((((m (3 + 6 * i9 + 1)).toInt64) * (qa + qb * (mP m i9).toInt64 + qd * (mH m i9).toInt64)) - (((m (3 + 6 * i9 + 1)).toInt64) * (qa + qb * (mP m i9).toInt64 + qd * (mH m i9).toInt64)) / qd * qd)) cr ap nu ha)) rfl dX6_share_101 ?_
          refine j_iload_n C 3 dX6_share_102 rfl rfl ?_
          refine j_aload_n C 4 dX6_share_103 rfl rfl ?_
          refine j_get C 0 fgX6_share_22 rfl rfl dX6_share_104 ?_
          refine j_iload_n C 2 dX6_share_107 rfl rfl ?_
          refine j_iald C 5 rfl (i := i9) rfl (by omega) (by decide) dX6_share_108 ?_
          refine j_eqi (y := (((mK m i9).toInt64 * (qa + qb * (mP m i9).toInt64 + qd * (mH m i9).toInt64)) / qd).toInt32) pk_us ?_
          refine j_isub C dX6_share_109 ?_
          refine j_istore_n C dX6_share_110 rfl (by decide) (lv' := [(1, .int (t9.1 - ((((mK m i9).toInt64 * (qa + qb * (mP m i9).toInt64 + qd * (mH m i9).toInt64)) / qd).toInt32))), (4, .long (((m (3 + 6 * i9 + 1)).toInt64) * (qa + qb * (mP m i9).toInt64 + qd * (mH m i9).toInt64))), (3, .int (1 : Int32)), (2, .int (nI i9)), (0, .ref (h 0))]) rfl ?_
          refine j_iinc C 3 dX6_share_111 rfl (v := nI (i9 + 1)) (nI_1 _) (by decide) (lv' := [(2, .int (nI (i9 + 1))), (1, .int (t9.1 - ((((mK m i9).toInt64 * (qa + qb * (mP m i9).toInt64 + qd * (mH m i9).toInt64)) / qd).toInt32))), (4, .long (((m (3 + 6 * i9 + 1)).toInt64) * (qa + qb * (mP m i9).toInt64 + qd * (mH m i9).toInt64))), (3, .int (1 : Int32)), (0, .ref (h 0))]) rfl ?_
          refine j_goto C dX6_share_114 (tgt := 9) (by decide) ?_
          refine j_sub [0, 1, 4] (lv' := [(2, .int (nI (i9 + 1))), (1, .int (t9.1 - ((((mK m i9).toInt64 * (qa + qb * (mP m i9).toInt64 + qd * (mH m i9).toInt64)) / qd).toInt32))), (0, .ref (h 0))]) rfl ?_
          exact ih9 (t9.1 - ((((mK m i9).toInt64 * (qa + qb * (mP m i9).toInt64 + qd * (mH m i9).toInt64)) / qd).toInt32), upd t9.2.1 i9 (((((m (3 + 6 * i9 + 1)).toInt64) * (qa + qb * (mP m i9).toInt64 + qd * (mH m i9).toInt64)) / qd).toInt32), vp_updL t9.2.2 i9 ((((m (3 + 6 * i9 + 1)).toInt64) * (qa + qb * (mP m i9).toInt64 + qd * (mH m i9).toInt64)) - (((m (3 + 6 * i9 + 1)).toInt64) * (qa + qb * (mP m i9).toInt64 + qd * (mH m i9).toInt64)) / qd * qd)) (by rw [rl_t h33, updL2, ← ht9]; try rfl)
  refine j_sub [0, 1, 2] (lv' := [(2, .int (0 : Int32)), (1, .int (m 0)), (0, .ref (h 0))]) rfl ?_
  exact hl9 0 (Nat.zero_le _) (m 0, lo, re) (by rw [hlo]; rfl)
