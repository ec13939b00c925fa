/-! the cascade ends -/
theorem stb_bt {T : Nat → Int32} {s : Int32} : ∀ n, n ≤ 32 → ∀ i, i < n → (bt (stb T s n) i = true ↔ T i = s)
  | 0, _, i, hi => by omega
  | n + 1, hn, i, hi => by
    by_cases hin : i = n
    · subst hin
      have h0 := stb_hi (T := T) (s := s) i (by omega) i (Nat.le_refl _) (by omega)
      rw [stb]
      split
      · rename_i h
        rw [b_or, h0, b_bit i (by omega) (by omega)]
        simp [h]
      · rename_i h
        rw [h0]
        simp [h]
    · have ih := stb_bt (T := T) (s := s) n (by omega) i (by omega)
      rw [stb]
      split
      · rw [b_or, b_bit n (by omega) (by omega)]
        simp [hin, ih]
      · exact ih
theorem ovb_hi {sb : Bool} {lo L : Nat → Int32} : ∀ n, n ≤ 32 → ∀ j, n ≤ j → j < 32 → bt (ovb sb lo L n) j = false
  | 0, _, j, _, _ => b_0 j
  | n + 1, hn, j, h, hj => by
    have ih := ovb_hi (sb := sb) (lo := lo) (L := L) n (by omega) j (by omega) hj
    rw [ovb]
    split
    · rw [b_or, ih, b_bit n (by omega) hj]
      simp
      omega
    · exact ih
theorem ovb_bt {sb : Bool} {lo L : Nat → Int32} : ∀ n, n ≤ 32 → ∀ i, i < n → (bt (ovb sb lo L n) i = true ↔ (sb && decide (L i < lo i)) = true)
  | 0, _, i, hi => by omega
  | n + 1, hn, i, hi => by
    by_cases hin : i = n
    · subst hin
      have h0 := ovb_hi (sb := sb) (lo := lo) (L := L) i (by omega) i (Nat.le_refl _) (by omega)
      rw [ovb]
      split
      · rename_i h
        rw [b_or, h0, b_bit i (by omega) (by omega)]
        simp [h]
      · rename_i h
        rw [h0]
        simp only [Bool.false_eq_true, false_iff]
        exact h
    · have ih := ovb_bt (sb := sb) (lo := lo) (L := L) n (by omega) i (by omega)
      rw [ovb]
      split
      · rw [b_or, b_bit n (by omega) (by omega)]
        simp [hin, ih]
      · exact ih
theorem b_ex {x : Int32} (h : ¬ x = 0) : ∃ i, i < 32 ∧ bt x i = true := by
  refine Classical.byContradiction fun hn => h ?_
  apply b_ext
  intro i hi
  rw [b_0]
  cases hb : bt x i with
  | false => rfl
  | true => exact absurd ⟨i, hi, hb⟩ hn
/-- a block that is overloaded bears, and so it stands -/
theorem ov_st {m : Nat → Int32} {n i : Nat} (hn : n ≤ 16) (hV : mVal m n) (hi : i < n) (h : bt (mOv m n) i = true) : (mR m n).1 = true ∧ bt (mR m n).2.2.1 i = true ∧ mT m i = 0 ∧ mL m i < mLo m n i := by
  have h1 := (ovb_bt n (by omega) i hi).mp h
  simp only [Bool.and_eq_true, decide_eq_true_eq] at h1
  obtain ⟨hR, hlt⟩ := h1
  have hb : bt (mR m n).2.2.1 i = true := by
    cases hb : bt (mR m n).2.2.1 i with
    | true => rfl
    | false =>
      have h0 := (mLo_off hn hV).1 i (by omega) (fun _ => hb)
      rw [h0] at hlt
      have hL := r32 (hV.2.2 i hi).2.2.2.1 (show (1 : Int32).toInt = 1 by decide) (show (99999 : Int32).toInt = 99999 by decide)
      rw [Int32.lt_iff_toInt_lt] at hlt
      have z : (0 : Int32).toInt = 0 := by decide
      omega
  obtain ⟨g1, g2, g3⟩ := fb_pos (f := sol (mP m) (mK m) (mH m) (m 0) (m 1) n) (g := fun q => nx (mP m) (mH m) (stb (mT m) 0 n) q n) 30 0 (stb (mT m) 0 n) (0, 0, 0) hR
  have hx : nx (mP m) (mH m) (stb (mT m) 0 n) (sol (mP m) (mK m) (mH m) (m 0) (m 1) n (mR m n).2.2.1) n = (mR m n).2.2.1 := g3
  have hs := ((nx_bt n (by omega) i hi).mp (by rw [hx]; exact hb)).1
  exact ⟨hR, hb, (stb_bt n (by omega) i hi).mp hs, hlt⟩
/-- how many of the first k stand -/
def cst (m : Nat → Int32) : Nat → Nat
  | 0 => 0
  | k + 1 => if mT m k = 0 then cst m k + 1 else cst m k
theorem cst_le (m : Nat → Int32) : ∀ k, cst m k ≤ k
  | 0 => Nat.le_refl _
  | k + 1 => by
    have := cst_le m k
    rw [cst]
    split <;> omega
theorem cst_crk {m : Nat → Int32} {x : Int32} {n : Nat} : ∀ k, k ≤ n → cst (crk m x n) k ≤ cst m k ∧ ((∃ i, i < k ∧ bt x i = true ∧ mT m i = 0) → cst (crk m x n) k < cst m k)
  | 0, _ => ⟨Nat.le_refl _, fun ⟨i, h, _⟩ => by omega⟩
  | k + 1, hk => by
    obtain ⟨h1, h2⟩ := cst_crk (m := m) (x := x) (n := n) k (by omega)
    rw [cst, cst, crk_T]
    by_cases hb : bt x k = true
    · rw [if_pos (show k < n ∧ bt x k = true from ⟨by omega, hb⟩), if_neg (by decide)]
      by_cases hT : mT m k = 0
      · rw [if_pos hT]
        exact ⟨by omega, fun _ => by omega⟩
      · rw [if_neg hT]
        refine ⟨h1, fun ⟨i, a, b, c⟩ => h2 ⟨i, ?_, b, c⟩⟩
        by_cases e : i = k
        · rw [e] at c
          exact absurd c hT
        · omega
    · rw [if_neg (show ¬ (k < n ∧ bt x k = true) from fun z => hb z.2)]
      have h3 : (∃ i, i < k + 1 ∧ bt x i = true ∧ mT m i = 0) → cst (crk m x n) k < cst m k := fun ⟨i, a, b, c⟩ => h2 ⟨i, by
        by_cases e : i = k
        · rw [e] at b
          exact absurd b hb
        · omega, b, c⟩
      split
      · exact ⟨by omega, fun z => by have := h3 z; omega⟩
      · exact ⟨h1, h3⟩
theorem cst_fall {m : Nat → Int32} {n : Nat} (hn : n ≤ 16) (hV : mVal m n) (h : ¬ mOv m n = 0) : cst (crk m (mOv m n) n) n < cst m n := by
  obtain ⟨i, hi, hb⟩ := b_ex h
  have hin : i < n := by
    refine Nat.lt_of_not_le fun z => ?_
    have := ovb_hi (sb := (mR m n).1) (lo := mLo m n) (L := mL m) n (by omega) i z hi
    unfold mOv at hb
    rw [this] at hb
    cases hb
  exact (cst_crk n (Nat.le_refl _)).2 ⟨i, hin, hb, (ov_st hn hV hin hb).2.2.1⟩
/-- the cascade: the page, its steps, the blocks that are crushed -/
def fal (n : Nat) : Nat → (Nat → Int32) → Int32 → Int32 → (Nat → Int32) × Int32 × Int32
  | 0, m, s, c => (m, s, c)
  | f + 1, m, s, c => if mOv m n = 0 then (m, s, c) else fal n f (crk m (mOv m n) n) (s + 1) (c + cntI (mOv m n) 16)
theorem fal_0 {n f : Nat} {m : Nat → Int32} {s c : Int32} (h : mOv m n = 0) : fal n f m s c = (m, s, c) := by
  cases f with
  | zero => rfl
  | succ f => rw [fal, if_pos h]
theorem fal_s {n f : Nat} {m : Nat → Int32} {s c : Int32} (h : ¬ mOv m n = 0) : fal n (f + 1) m s c = fal n f (crk m (mOv m n) n) (s + 1) (c + cntI (mOv m n) 16) := by rw [fal, if_neg h]
theorem pIn_blk {m : Nat → Int32} {n i : Nat} (hc : m 2 = nI n) (hn : n ≤ 16) (hi : i < n) : pIn (nI i) 0 (m 2 - 1) = true := by
  obtain ⟨k, rfl⟩ : ∃ k, n = k + 1 := ⟨n - 1, by omega⟩
  rw [hc, nI_pred]
  simp only [pIn, Bool.and_eq_true, decide_eq_true_eq]
  exact ⟨nI_pos' (by omega), nI_le (by omega) (by omega)⟩
theorem mBu_2 (m : Nat → Int32) (n : Nat) (p s c l : Int32) : mBu m n p s c l 2 = m 2 + 1 := by
  unfold mBu
  rw [pk_un (by omega), pk_un (by omega), pk_un (by omega), pk_un (by omega), pk_un (by omega), pk_un (by omega), pk_us]
theorem mBu_r {m : Nat → Int32} {n : Nat} {p s c l : Int32} (hc : m 2 = nI n) : mBu m n p s c l 2 - 1 = nI n := by
  rw [mBu_2, hc, nI_1, nI_pred]
