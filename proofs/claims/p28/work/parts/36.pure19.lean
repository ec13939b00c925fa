/-! changes of a dock and of its page -/
theorem b_not (x : Int32) {i : Nat} (hi : i < 32) : bt (x ^^^ (-1)) i = !bt x i := by
  rw [b_xor, b_m1 i hi, Bool.xor_true]
theorem stb_at {T : Nat → Int32} {s : Int32} {n : Nat} (hn : n ≤ 32) (i : Nat) (hi : i < 32) : bt (stb T s n) i = (decide (i < n) && decide (T i = s)) := by
  by_cases h : i < n
  · have h1 := stb_bt (T := T) (s := s) n hn i h
    rw [Bool.eq_iff_iff, h1]
    simp [h]
  · rw [stb_hi n hn i (by omega) hi]
    simp [h]
theorem stb_x {T : Nat → Int32} {s x : Int32} {n : Nat} (hn : n ≤ 32) (h : ∀ i, i < 32 → bt x i = (decide (i < n) && decide (T i = s))) : x = stb T s n := b_ext (fun i hi => by rw [h i hi, stb_at hn i hi])
section KRS
variable {we ce co sg cr : Int32} {P K H L S m : Nat → Int32} {n : Nat}
theorem KR_n (h : KR we ce co sg cr P K H L S m n) : n ≤ 16 := h.2.2.2.2.1
theorem KR_c (h : KR we ce co sg cr P K H L S m n) : m 2 = nI n := h.2.2.2.1
theorem KR_co (h : KR we ce co sg cr P K H L S m n) : co = nI n := h.2.2.1
theorem KR_V (h : KR we ce co sg cr P K H L S m n) : mVal m n := h.2.2.2.2.2.2.2.1
theorem KR_sg (h : KR we ce co sg cr P K H L S m n) (i : Nat) (hi : i < n) : bt sg i = decide (mT m i = 0) := by
  obtain ⟨h1, h2, h3, h4, h5, h6, h7, h8, h9⟩ := h
  rw [h6, stb_at (by omega) i (by omega), decide_eq_true hi, Bool.true_and]
theorem KR_cr (h : KR we ce co sg cr P K H L S m n) (i : Nat) (hi : i < n) : bt cr i = decide (mT m i = 2) := by
  obtain ⟨h1, h2, h3, h4, h5, h6, h7, h8, h9⟩ := h
  rw [h7, stb_at (by omega) i (by omega), decide_eq_true hi, Bool.true_and]
theorem upP (m : Nat → Int32) (i v : Nat) (y : Int32) (j w : Nat) (hv : v < 6) (hw : w < 6) : upd m (3 + 6 * i + v) y (3 + 6 * j + w) = if j = i ∧ w = v then y else m (3 + 6 * j + w) := by
  by_cases h : 3 + 6 * j + w = 3 + 6 * i + v
  · rw [h, pk_us, if_pos ⟨by omega, by omega⟩]
  · rw [pk_un h, if_neg (fun z => h (by rw [z.1, z.2]))]
theorem up3 (m : Nat → Int32) (i v : Nat) (y : Int32) (k : Nat) (hk : k < 3) : upd m (3 + 6 * i + v) y k = m k := pk_un (by omega)
theorem KR_cap (h : KR we ce co sg cr P K H L S m n) (i : Nat) (hi : i < n) (y : Int32) (hy : -50 ≤ y ∧ y ≤ 50) : KR we ce co sg cr P K (upd H i y) L S (upd m (3 + 6 * i + 2) y) n := by
  obtain ⟨h1, h2, h3, h4, h5, h6, h7, h8, h9⟩ := h
  have eT : mT (upd m (3 + 6 * i + 2) y) = mT m := by funext j; exact (upP m i 2 y j 4 (by decide) (by decide)).trans (if_neg (by omega))
  have eP : mP (upd m (3 + 6 * i + 2) y) = mP m := by funext j; exact (upP m i 2 y j 0 (by decide) (by decide)).trans (if_neg (by omega))
  have eK : mK (upd m (3 + 6 * i + 2) y) = mK m := by funext j; exact (upP m i 2 y j 1 (by decide) (by decide)).trans (if_neg (by omega))
  have eL : mL (upd m (3 + 6 * i + 2) y) = mL m := by funext j; exact (upP m i 2 y j 3 (by decide) (by decide)).trans (if_neg (by omega))
  have eS : mS (upd m (3 + 6 * i + 2) y) = mS m := by funext j; exact (upP m i 2 y j 5 (by decide) (by decide)).trans (if_neg (by omega))
  have eH : ∀ j, mH (upd m (3 + 6 * i + 2) y) j = if j = i then y else mH m j := fun j => (upP m i 2 y j 2 (by decide) (by decide)).trans (by simp [mH])
  refine ⟨by rw [up3 _ _ _ _ _ (by decide)]; exact h1, by rw [up3 _ _ _ _ _ (by decide)]; exact h2, h3, by rw [up3 _ _ _ _ _ (by decide)]; exact h4, h5, by rw [eT]; exact h6, by rw [eT]; exact h7, ?_, fun j hj => ?_⟩
  · unfold mVal
    rw [up3 _ _ _ _ _ (by decide), up3 _ _ _ _ _ (by decide), eP, eK, eL, eT]
    refine ⟨h8.1, h8.2.1, fun j hj => ?_⟩
    obtain ⟨a, b, c, d, e⟩ := h8.2.2 j hj
    refine ⟨a, b, ?_, d, e⟩
    rw [eH]
    split
    · exact hy
    · exact c
  · obtain ⟨a, b, c, d, e⟩ := h9 j hj
    rw [eP, eK, eL, eS, eH]
    refine ⟨a, b, ?_, d, e⟩
    by_cases hji : j = i
    · rw [hji, pk_us, if_pos rfl]
    · rw [pk_un hji, if_neg hji]; exact c
theorem KR_lim (h : KR we ce co sg cr P K H L S m n) (i : Nat) (hi : i < n) (y : Int32) (hy : 1 ≤ y ∧ y ≤ 99999) : KR we ce co sg cr P K H (upd L i y) S (upd m (3 + 6 * i + 3) y) n := by
  obtain ⟨h1, h2, h3, h4, h5, h6, h7, h8, h9⟩ := h
  have eT : mT (upd m (3 + 6 * i + 3) y) = mT m := by funext j; exact (upP m i 3 y j 4 (by decide) (by decide)).trans (if_neg (by omega))
  have eP : mP (upd m (3 + 6 * i + 3) y) = mP m := by funext j; exact (upP m i 3 y j 0 (by decide) (by decide)).trans (if_neg (by omega))
  have eK : mK (upd m (3 + 6 * i + 3) y) = mK m := by funext j; exact (upP m i 3 y j 1 (by decide) (by decide)).trans (if_neg (by omega))
  have eH : mH (upd m (3 + 6 * i + 3) y) = mH m := by funext j; exact (upP m i 3 y j 2 (by decide) (by decide)).trans (if_neg (by omega))
  have eS : mS (upd m (3 + 6 * i + 3) y) = mS m := by funext j; exact (upP m i 3 y j 5 (by decide) (by decide)).trans (if_neg (by omega))
  have eL : ∀ j, mL (upd m (3 + 6 * i + 3) y) j = if j = i then y else mL m j := fun j => (upP m i 3 y j 3 (by decide) (by decide)).trans (by simp [mL])
  refine ⟨by rw [up3 _ _ _ _ _ (by decide)]; exact h1, by rw [up3 _ _ _ _ _ (by decide)]; exact h2, h3, by rw [up3 _ _ _ _ _ (by decide)]; exact h4, h5, by rw [eT]; exact h6, by rw [eT]; exact h7, ?_, fun j hj => ?_⟩
  · unfold mVal
    rw [up3 _ _ _ _ _ (by decide), up3 _ _ _ _ _ (by decide), eP, eK, eH, eT]
    refine ⟨h8.1, h8.2.1, fun j hj => ?_⟩
    obtain ⟨a, b, c, d, e⟩ := h8.2.2 j hj
    refine ⟨a, b, c, ?_, e⟩
    rw [eL]
    split
    · exact hy
    · exact d
  · obtain ⟨a, b, c, d, e⟩ := h9 j hj
    rw [eP, eK, eH, eS, eL]
    refine ⟨a, b, c, ?_, e⟩
    by_cases hji : j = i
    · rw [hji, pk_us, if_pos rfl]
    · rw [pk_un hji, if_neg hji]; exact d
theorem upLow (m : Nat → Int32) (k : Nat) (v : Int32) (hk : k < 2) : (∀ i w, upd m k v (3 + 6 * i + w) = m (3 + 6 * i + w)) ∧ upd m k v 2 = m 2 := ⟨fun i w => pk_un (by omega), pk_un (by omega)⟩
theorem KR_we (h : KR we ce co sg cr P K H L S m n) (v : Int32) (hv : 1 ≤ v ∧ v ≤ 100000) : KR v ce co sg cr P K H L S (mUp m 0 v) n := by
  obtain ⟨h1, h2, h3, h4, h5, h6, h7, h8, h9⟩ := h
  obtain ⟨eP, eK, eH, eL, eT⟩ := mUp_P m 0 v (by decide)
  have eS : mS (mUp m 0 v) = mS m := by funext j; exact (upLow m 0 v (by decide)).1 j 5
  exact ⟨(pk_us).symm, h2.trans (pk_un (by decide)).symm, h3, ((upLow m 0 v (by decide)).2).trans h4, h5, by rw [eT]; exact h6, by rw [eT]; exact h7, mUp_w h8 hv, by rw [eP, eK, eH, eL, eS]; exact h9⟩
theorem KR_ce (h : KR we ce co sg cr P K H L S m n) (v : Int32) (hv : 0 ≤ v ∧ v ≤ 400) : KR we v co sg cr P K H L S (mUp m 1 v) n := by
  obtain ⟨h1, h2, h3, h4, h5, h6, h7, h8, h9⟩ := h
  obtain ⟨eP, eK, eH, eL, eT⟩ := mUp_P m 1 v (by decide)
  have eS : mS (mUp m 1 v) = mS m := by funext j; exact (upLow m 1 v (by decide)).1 j 5
  exact ⟨h1.trans (pk_un (by decide)).symm, (pk_us).symm, h3, ((upLow m 1 v (by decide)).2).trans h4, h5, by rw [eT]; exact h6, by rw [eT]; exact h7, mUp_c h8 hv, by rw [eP, eK, eH, eL, eS]; exact h9⟩
theorem KR_st (h : KR we ce co sg cr P K H L S m n) (i : Nat) (hi : i < n) (v sg' cr' : Int32) (hv : v = 0 ∨ v = 1 ∨ v = 2) (hs : ∀ j, j < 32 → bt sg' j = if j = i then decide (v = 0) else bt sg j) (hc : ∀ j, j < 32 → bt cr' j = if j = i then decide (v = 2) else bt cr j) : KR we ce co sg' cr' P K H L S (mSt m i v) n := by
  obtain ⟨h1, h2, h3, h4, h5, h6, h7, h8, h9⟩ := h
  refine ⟨h1.trans (pk_un (by omega)).symm, h2.trans (pk_un (by omega)).symm, h3, (mSt_2 m i v).trans h4, h5, stb_x (by omega) (fun j hj => ?_), stb_x (by omega) (fun j hj => ?_), mSt_val h8 hv, fun j hj => ?_⟩
  · rw [hs j hj, mSt_T]
    by_cases e : j = i
    · rw [if_pos e, if_pos e, decide_eq_true (show j < n by omega), Bool.true_and]
    · rw [if_neg e, if_neg e, h6, stb_at (by omega) j hj]
  · rw [hc j hj, mSt_T]
    by_cases e : j = i
    · rw [if_pos e, if_pos e, decide_eq_true (show j < n by omega), Bool.true_and]
    · rw [if_neg e, if_neg e, h7, stb_at (by omega) j hj]
  · rw [mSt_P, mSt_K, mSt_H, mSt_L, show mS (mSt m i v) j = mS m j from pk_un (by omega)]
    exact h9 j hj
theorem KR_pull (h : KR we ce co sg cr P K H L S m n) (i : Nat) (hi : i < n) (hz : mT m i = 0) : KR we ce co (sg &&& (bit (nI i) ^^^ (-1))) cr P K H L S (mSt m i 1) n := by
  have h5 := KR_n h
  refine KR_st h i hi 1 _ cr (Or.inr (Or.inl rfl)) (fun j hj => ?_) (fun j hj => ?_)
  · rw [b_and, b_not _ hj, b_bit i (by omega) hj]
    by_cases e : j = i
    · simp [e]
    · simp [e]
  · by_cases e : j = i
    · rw [if_pos e, e, KR_cr h i hi, hz]
      decide
    · rw [if_neg e]
/-- a block out, whatever it was: the crushed ones don't matter to the balance -/
theorem KR_out (h : KR we ce co sg cr P K H L S m n) (i : Nat) (hi : i < n) : ∃ cr0, KR we ce co (sg &&& (bit (nI i) ^^^ (-1))) cr0 P K H L S (mSt m i 1) n := by
  have h5 := KR_n h
  refine ⟨cr &&& (bit (nI i) ^^^ (-1)), KR_st h i hi 1 _ _ (Or.inr (Or.inl rfl)) (fun j hj => ?_) (fun j hj => ?_)⟩
  · rw [b_and, b_not _ hj, b_bit i (by omega) hj]
    by_cases e : j = i
    · simp [e]
    · simp [e]
  · rw [b_and, b_not _ hj, b_bit i (by omega) hj]
    by_cases e : j = i
    · simp [e]
    · simp [e]
theorem KR_put (h : KR we ce co sg cr P K H L S m n) (i : Nat) (hi : i < n) : KR we ce co (sg ||| bit (nI i)) (cr &&& (bit (nI i) ^^^ (-1))) P K H L S (mSt m i 0) n := by
  have h5 := KR_n h
  refine KR_st h i hi 0 _ _ (Or.inl rfl) (fun j hj => ?_) (fun j hj => ?_)
  · rw [b_or, b_bit i (by omega) hj]
    by_cases e : j = i
    · simp [e]
    · simp [e]
  · rw [b_and, b_not _ hj, b_bit i (by omega) hj]
    by_cases e : j = i
    · simp [e]
    · simp [e]
theorem crk_low (m : Nat → Int32) (x : Int32) (k j w : Nat) (hw : w < 6) (hw4 : w ≠ 4) : crk m x k (3 + 6 * j + w) = m (3 + 6 * j + w) := crk_at m x k _ (fun i _ => by omega)
theorem KR_crush (h : KR we ce co sg cr P K H L S m n) (x : Int32) (hx : ∀ j, n ≤ j → j < 32 → bt x j = false) : KR we ce co (sg &&& (x ^^^ (-1))) (cr ||| x) P K H L S (crk m x n) n := by
  obtain ⟨h1, h2, h3, h4, h5, h6, h7, h8, h9⟩ := h
  refine ⟨h1.trans (crk_at m x n 0 (fun i _ => by omega)).symm, h2.trans (crk_at m x n 1 (fun i _ => by omega)).symm, h3, (crk_2 m x n).trans h4, h5, stb_x (by omega) (fun j hj => ?_), stb_x (by omega) (fun j hj => ?_), crk_val h8 x n, fun j hj => ?_⟩
  · rw [b_and, b_not _ hj, h6, stb_at (by omega) j hj, crk_T]
    by_cases e : j < n
    · by_cases hb : bt x j = true
      · rw [if_pos ⟨e, hb⟩, hb]
        simp
      · rw [if_neg (fun z => hb z.2)]
        simp [show bt x j = false by simpa using hb]
    · rw [decide_eq_false e]
      simp
  · rw [b_or, h7, stb_at (by omega) j hj, crk_T]
    by_cases e : j < n
    · by_cases hb : bt x j = true
      · rw [if_pos ⟨e, hb⟩, hb, decide_eq_true e]
        simp
      · rw [if_neg (fun z => hb z.2)]
        simp [show bt x j = false by simpa using hb]
    · rw [decide_eq_false e, hx j (by omega) hj]
      simp
  · rw [show mP (crk m x n) j = mP m j from crk_low m x n j 0 (by decide) (by decide), show mK (crk m x n) j = mK m j from crk_low m x n j 1 (by decide) (by decide), show mH (crk m x n) j = mH m j from crk_low m x n j 2 (by decide) (by decide), show mL (crk m x n) j = mL m j from crk_low m x n j 3 (by decide) (by decide), show mS (crk m x n) j = mS m j from crk_low m x n j 5 (by decide) (by decide)]
    exact h9 j hj
theorem KR_low (h : KR we ce co sg cr P K H L S m n) (k : Nat) (hk : k < n) (hH : ¬ mH m k ≤ -50) : KR we ce co sg cr P K (upd H k (H k - 1)) L (upd S k (S k + 1)) (shp m k) n := by
  obtain ⟨h1, h2, h3, h4, h5, h6, h7, h8, h9⟩ := h
  have sh : ∀ j w, w < 6 → shp m k (3 + 6 * j + w) = if j = k ∧ w = 5 then m (3 + 6 * k + 5) + 1 else if j = k ∧ w = 2 then m (3 + 6 * k + 2) - 1 else m (3 + 6 * j + w) := fun j w hw => by
    unfold shp
    rw [upP _ k 5 _ j w (by decide) hw, upP m k 2 _ j w (by decide) hw]
  have lo : ∀ q, q < 3 → shp m k q = m q := fun q hq => by
    unfold shp
    rw [up3 _ _ _ _ _ hq, up3 _ _ _ _ _ hq]
  have eT : mT (shp m k) = mT m := by funext j; exact (sh j 4 (by decide)).trans (by rw [if_neg (by omega), if_neg (by omega)]; rfl)
  refine ⟨by rw [lo 0 (by decide)]; exact h1, by rw [lo 1 (by decide)]; exact h2, h3, by rw [lo 2 (by decide)]; exact h4, h5, by rw [eT]; exact h6, by rw [eT]; exact h7, shp_val h8 hk hH, fun j hj => ?_⟩
  obtain ⟨a, b, c, d, e⟩ := h9 j hj
  refine ⟨a.trans ?_, b.trans ?_, ?_, d.trans ?_, ?_⟩
  · exact ((sh j 0 (by decide)).trans (by rw [if_neg (by omega), if_neg (by omega)]; rfl)).symm
  · exact ((sh j 1 (by decide)).trans (by rw [if_neg (by omega), if_neg (by omega)]; rfl)).symm
  · show _ = shp m k (3 + 6 * j + 2)
    rw [sh j 2 (by decide), if_neg (by omega)]
    by_cases hjk : j = k
    · rw [if_pos ⟨hjk, rfl⟩, hjk, pk_us, (h9 k hk).2.2.1]
      rfl
    · rw [if_neg (fun z => hjk z.1), pk_un hjk]
      exact c
  · exact ((sh j 3 (by decide)).trans (by rw [if_neg (by omega), if_neg (by omega)]; rfl)).symm
  · show _ = shp m k (3 + 6 * j + 5)
    rw [sh j 5 (by decide)]
    by_cases hjk : j = k
    · rw [if_pos ⟨hjk, rfl⟩, hjk, pk_us, (h9 k hk).2.2.2.2]
      rfl
    · rw [if_neg (fun z => hjk z.1), if_neg (by omega), pk_un hjk]
      exact e
theorem KR_add (h : KR we ce co sg cr P K H L S m n) (hn : n < 16) (p s c l : Int32) (hp : 0 ≤ p ∧ p ≤ 400) (hs : 1 ≤ s ∧ s ≤ 100) (hc : -50 ≤ c ∧ c ≤ 50) (hl : 1 ≤ l ∧ l ≤ 99999) : KR we ce (co + 1) (sg ||| bit co) cr (upd P co.toNatClampNeg p) (upd K co.toNatClampNeg s) (upd H co.toNatClampNeg c) (upd L co.toNatClampNeg l) (upd S co.toNatClampNeg 0) (mBu m n p s c l) (n + 1) := by
  obtain ⟨h1, h2, h3, h4, h5, h6, h7, h8, h9⟩ := h
  have e := mBu_at n m p s c l
  have eT : ∀ j, j < n → mT (mBu m n p s c l) j = mT m j := fun j hj => mBu_lo (by omega) (by omega)
  subst h3
  rw [nI_clamp (by omega)]
  refine ⟨by rw [mBu_lo (by omega) (by omega)]; exact h1, by rw [mBu_lo (by omega) (by omega)]; exact h2, nI_1 n, by rw [mBu_2, h4, nI_1], by omega, stb_x (by omega) (fun j hj => ?_), stb_x (by omega) (fun j hj => ?_), mBu_val h8 hp hs hc hl, fun j hj => ?_⟩
  · rw [b_or, b_bit n (by omega) hj, h6, stb_at (by omega) j hj]
    by_cases e1 : j = n
    · rw [e1, e.2.2.2.2.1]
      simp
    · by_cases e2 : j < n
      · rw [eT j e2]
        simp [e1, e2, show j < n + 1 by omega]
      · simp [e1, e2, show ¬ j < n + 1 by omega]
  · rw [h7, stb_at (by omega) j hj]
    by_cases e1 : j = n
    · rw [e1, e.2.2.2.2.1]
      simp
    · by_cases e2 : j < n
      · rw [eT j e2]
        simp [e2, show j < n + 1 by omega]
      · simp [e2, show ¬ j < n + 1 by omega]
  · by_cases e1 : j = n
    · rw [e1, pk_us, pk_us, pk_us, pk_us, pk_us]
      exact ⟨e.1.symm, e.2.1.symm, e.2.2.1.symm, e.2.2.2.1.symm, e.2.2.2.2.2.symm⟩
    · have e2 : j < n := by omega
      rw [pk_un e1, pk_un e1, pk_un e1, pk_un e1, pk_un e1]
      obtain ⟨a, b, c', d, e'⟩ := h9 j e2
      exact ⟨a.trans (mBu_lo (j := 3 + 6 * j + 0) (by omega) (by omega)).symm, b.trans (mBu_lo (j := 3 + 6 * j + 1) (by omega) (by omega)).symm, c'.trans (mBu_lo (j := 3 + 6 * j + 2) (by omega) (by omega)).symm, d.trans (mBu_lo (j := 3 + 6 * j + 3) (by omega) (by omega)).symm, e'.trans (mBu_lo (j := 3 + 6 * j + 5) (by omega) (by omega)).symm⟩
/-- hasBlock in the page's words -/
theorem KR_has (h : KR we ce co sg cr P K H L S m n) (x : Int32) : dHas co x = pIn x 0 (m 2 - 1) := by
  obtain ⟨h1, h2, h3, h4, h5, -⟩ := h
  rw [h3, h4]
  unfold dHas pIn
  have e1 : (nI n - 1).toInt = (n : Int) - 1 := by
    rw [Int32.toInt_sub, nI_toInt (by omega), show (1 : Int32).toInt = 1 by decide, bm32 (by omega) (by omega)]
  by_cases h0 : 0 ≤ x
  · have a := nI_toInt (n := n) (by omega)
    have b : (16 : Int32).toInt = 16 := by decide
    rw [Bool.eq_iff_iff]
    simp only [Bool.and_eq_true, decide_eq_true_eq, Int32.lt_iff_toInt_lt, Int32.le_iff_toInt_le, e1, a, b, i32_0]
    omega
  · simp [h0]
theorem KR_room (h : KR we ce co sg cr P K H L S m n) : dRoom co = decide (n < 16) := by
  obtain ⟨h1, h2, h3, h4, h5, -⟩ := h
  rw [h3]
  unfold dRoom
  have a := nI_toInt (n := n) (by omega)
  have b : (16 : Int32).toInt = 16 := by decide
  rw [Bool.eq_iff_iff]
  simp only [Bool.and_eq_true, decide_eq_true_eq, Int32.lt_iff_toInt_lt, Int32.le_iff_toInt_le, a, b, i32_0]
  omega
/-- what a block number in range is -/
theorem pIn_of {m : Nat → Int32} {n : Nat} {x : Int32} (hc : m 2 = nI n) (hn : n ≤ 16) (h : pIn x 0 (m 2 - 1) = true) : ∃ i, i < n ∧ x = nI i := by
  obtain ⟨a, b⟩ := pIn_i h
  rw [hc, Int32.le_iff_toInt_le, Int32.toInt_sub, nI_toInt (by omega), show (1 : Int32).toInt = 1 by decide, bm32 (by omega) (by omega)] at b
  have e := x_nat a
  refine ⟨x.toNatClampNeg, ?_, e⟩
  rw [Int32.le_iff_toInt_le, i32_0] at a
  unfold Int32.toNatClampNeg
  omega
end KRS

