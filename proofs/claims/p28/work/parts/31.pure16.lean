/-! a dock and a page that say the same -/
def KR (we ce co sg cr : Int32) (P K H L S : Nat → Int32) (m : Nat → Int32) (n : Nat) : Prop := we = m 0 ∧ ce = m 1 ∧ co = nI n ∧ m 2 = nI n ∧ n ≤ 16 ∧ sg = stb (mT m) 0 n ∧ cr = stb (mT m) 2 n ∧ mVal m n ∧ ∀ i, i < n → P i = mP m i ∧ K i = mK m i ∧ H i = mH m i ∧ L i = mL m i ∧ S i = mS m i
theorem fnd_KR {we ce co sg cr : Int32} {P K H L S m : Nat → Int32} {n : Nat} (h : KR we ce co sg cr P K H L S m n) : fnd (we, ce, co, sg, cr, P, K, H, L, S) = mR m n := by
  obtain ⟨h1, h2, h3, h4, h5, h6, h7, h8, h9⟩ := h
  show fb (sol P K H we ce 16) (fun q => nx P H sg q 16) 30 0 sg (0, 0, 0) = _
  rw [h1, h2, h6]
  exact fnd_cg h5 (stb_hi n (by omega)) (fun i hi => ⟨(h9 i hi).1, (h9 i hi).2.1, (h9 i hi).2.2.1⟩)
theorem fLo_KR {we ce co sg cr : Int32} {P K H L S m : Nat → Int32} {n : Nat} (h : KR we ce co sg cr P K H L S m n) : fLo (we, ce, co, sg, cr, P, K, H, L, S) = mLo m n := by
  have hf := fnd_KR h
  obtain ⟨h1, h2, h3, h4, h5, h6, h7, h8, h9⟩ := h
  unfold fLo mLo
  rw [hf]
  by_cases hR : (mR m n).1 = true
  · rw [if_pos hR, if_pos hR]
    unfold ldS
    show (gvn ((rl P K H (mR m n).2.2.1 we (mR m n).2.2.2 (fun _ => 0) (fun _ => 0) 16).2.1, (rl P K H (mR m n).2.2.1 we (mR m n).2.2.2 (fun _ => 0) (fun _ => 0) 16).2.2) (giv (rl P K H (mR m n).2.2.1 we (mR m n).2.2.2 (fun _ => 0) (fun _ => 0) 16).1)).1 = _
    rw [h1, rl_cg (P := P) (K := K) (H := H) (P' := mP m) (K' := mK m) (H' := mH m) 16 (fun i hi hb => by
      have hin : i < n := Nat.lt_of_not_le fun z => by
        rw [mR_hi h5 hR i z (by omega)] at hb
        cases hb
      exact ⟨(h9 i hin).1, (h9 i hin).2.1, (h9 i hin).2.2.1⟩)]
  · rw [if_neg hR, if_neg hR]
theorem ovr_hi {x : Int32} {lo L : Nat → Int32} : ∀ n, n ≤ 32 → ∀ j, n ≤ j → j < 32 → bt (ovr x lo L 0 n) j = false
  | 0, _, j, _, _ => b_0 j
  | n + 1, hn, j, h, hj => by
    have ih := ovr_hi (x := x) (lo := lo) (L := L) n (by omega) j (by omega) hj
    rw [ovr]
    split
    · rw [b_or, ih, b_bit n (by omega) hj]
      simp
      omega
    · exact ih
theorem ovr_bt {x : Int32} {lo L : Nat → Int32} : ∀ n, n ≤ 32 → ∀ i, i < n → (bt (ovr x lo L 0 n) i = true ↔ bt x i = true ∧ L i < lo i)
  | 0, _, i, hi => by omega
  | n + 1, hn, i, hi => by
    by_cases hin : i = n
    · subst hin
      have h0 := ovr_hi (x := x) (lo := lo) (L := L) i (by omega) i (Nat.le_refl _) (by omega)
      rw [ovr]
      split
      · rename_i h
        rw [b_or, h0, b_bit i (by omega) (by omega)]
        simp [h]
      · rename_i h
        rw [h0]
        simp only [Bool.false_eq_true, false_iff]
        exact h
    · have ih := ovr_bt (x := x) (lo := lo) (L := L) n (by omega) i (by omega)
      rw [ovr]
      split
      · rw [b_or, b_bit n (by omega) (by omega)]
        simp [hin, ih]
      · exact ih
/-- the set that bears -/
def mBe (m : Nat → Int32) (n : Nat) : Int32 := if (mR m n).1 = true then (mR m n).2.2.1 else 0
theorem fBe_KR {we ce co sg cr : Int32} {P K H L S m : Nat → Int32} {n : Nat} (h : KR we ce co sg cr P K H L S m n) : fBe (we, ce, co, sg, cr, P, K, H, L, S) = mBe m n := by
  unfold fBe mBe
  rw [fnd_KR h]
theorem fOv_KR {we ce co sg cr : Int32} {P K H L S m : Nat → Int32} {n : Nat} (h : KR we ce co sg cr P K H L S m n) : fOv (we, ce, co, sg, cr, P, K, H, L, S) = mOv m n := by
  have hf := fnd_KR h
  have hl := fLo_KR h
  obtain ⟨h1, h2, h3, h4, h5, h6, h7, h8, h9⟩ := h
  unfold fOv
  rw [hf, hl]
  show (if (mR m n).1 = true then ovr (mR m n).2.2.1 (mLo m n) L 0 16 else 0) = _
  by_cases hR : (mR m n).1 = true
  · rw [if_pos hR]
    apply b_ext
    intro i hi
    by_cases hin : i < n
    · have e1 := ovr_bt (x := (mR m n).2.2.1) (lo := mLo m n) (L := L) 16 (by omega) i (by omega)
      have e2 := ovb_bt (sb := (mR m n).1) (lo := mLo m n) (L := mL m) n (by omega) i hin
      rw [(h9 i hin).2.2.2.1] at e1
      have e3 : bt (mOv m n) i = true → bt (mR m n).2.2.1 i = true := fun z => (ov_st h5 h8 hin z).2.1
      rw [Bool.eq_iff_iff, e1]
      show _ ↔ bt (ovb (mR m n).1 (mLo m n) (mL m) n) i = true
      constructor
      · intro z
        rw [e2, hR]
        simpa using z.2
      · intro z
        refine ⟨e3 z, ?_⟩
        rw [e2, hR] at z
        simpa using z
    · have e2 : bt (mOv m n) i = false := ovb_hi n (by omega) i (by omega) hi
      rw [e2]
      cases hb : bt (ovr (mR m n).2.2.1 (mLo m n) L 0 16) i with
      | false => rfl
      | true =>
        by_cases h16 : i < 16
        · have e1 := (ovr_bt (x := (mR m n).2.2.1) (lo := mLo m n) (L := L) 16 (by omega) i h16).mp hb
          rw [mR_hi h5 hR i (by omega) hi] at e1
          cases e1.1
        · rw [ovr_hi 16 (by omega) i (by omega) hi] at hb
          cases hb
  · rw [if_neg hR]
    apply b_ext
    intro i hi
    rw [b_0]
    by_cases hin : i < n
    · cases hb : bt (mOv m n) i with
      | false => rfl
      | true => exact absurd (ov_st h5 h8 hin hb).1 hR
    · exact (ovb_hi n (by omega) i (by omega) hi).symm
theorem KR_ag {we ce co sg cr : Int32} {P K H L S m m' : Nat → Int32} {n : Nat} (h : KR we ce co sg cr P K H L S m n) (ha : mAg n m m') : KR we ce co sg cr P K H L S m' n := by
  obtain ⟨h1, h2, h3, h4, h5, h6, h7, h8, h9⟩ := h
  have hT : ∀ i, i < n → mT m' i = mT m i := fun i hi => ha _ (by omega)
  refine ⟨h1.trans (ha 0 (by omega)).symm, h2.trans (ha 1 (by omega)).symm, h3, (ha 2 (by omega)).trans h4, h5, by rw [h6, stb_cg n hT], by rw [h7, stb_cg n hT], mAg_val ha h8, fun i hi => ?_⟩
  obtain ⟨a, b, c, d, e⟩ := h9 i hi
  exact ⟨a.trans (ha _ (by omega)).symm, b.trans (ha _ (by omega)).symm, c.trans (ha _ (by omega)).symm, d.trans (ha _ (by omega)).symm, e.trans (ha _ (by omega)).symm⟩

