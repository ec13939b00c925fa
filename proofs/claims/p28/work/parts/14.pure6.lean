/-! the reference's calls, as pure values on a page -/
def mSt (m : Nat → Int32) (i : Nat) (v : Int32) : Nat → Int32 := upd m (3 + 6 * i + 4) v
def mOv (m : Nat → Int32) (n : Nat) : Int32 := ovb (mR m n).1 (mLo m n) (mL m) n
theorem upd_ne (f : Nat → Int32) {k j : Nat} (v : Int32) (h : j ≠ k) : upd f k v j = f j := pk_un h
theorem mSt_L (m : Nat → Int32) (i : Nat) (v : Int32) : mL (mSt m i v) = mL m := by
  funext j
  exact pk_un (by omega)
theorem mSt_P (m : Nat → Int32) (i : Nat) (v : Int32) : mP (mSt m i v) = mP m := by
  funext j
  exact pk_un (by omega)
theorem mSt_K (m : Nat → Int32) (i : Nat) (v : Int32) : mK (mSt m i v) = mK m := by
  funext j
  exact pk_un (by omega)
theorem mSt_H (m : Nat → Int32) (i : Nat) (v : Int32) : mH (mSt m i v) = mH m := by
  funext j
  exact pk_un (by omega)
theorem mSt_T (m : Nat → Int32) (i j : Nat) (v : Int32) : mT (mSt m i v) j = if j = i then v else mT m j := by
  unfold mT mSt
  by_cases h : j = i
  · rw [if_pos h, h, pk_us]
  · rw [if_neg h, pk_un (by omega)]
theorem mSt_val {m : Nat → Int32} {n i : Nat} {v : Int32} (h : mVal m n) (hv : v = 0 ∨ v = 1 ∨ v = 2) : mVal (mSt m i v) n := by
  obtain ⟨h1, h2, h3⟩ := h
  refine ⟨?_, ?_, fun j hj => ?_⟩
  · rw [show mSt m i v 0 = m 0 from pk_un (by omega)]
    exact h1
  · rw [show mSt m i v 1 = m 1 from pk_un (by omega)]
    exact h2
  · rw [mSt_P, mSt_K, mSt_H, mSt_L, mSt_T]
    obtain ⟨a, b, c, d, e⟩ := h3 j hj
    refine ⟨a, b, c, d, ?_⟩
    by_cases hji : j = i
    · rw [if_pos hji]
      exact hv
    · rw [if_neg hji]
      exact e
theorem mSt_2 (m : Nat → Int32) (i : Nat) (v : Int32) : mSt m i v 2 = m 2 := pk_un (by omega)
/-- whether a block can be pulled out -/
def cpl (m : Nat → Int32) (n i : Nat) : Bool := (mR (mSt m i 1) n).1 && decide (mOv (mSt m i 1) n = 0)
/-- the reference's cells behind a call: the page, the saved pages, the text and the code are known, the rest may be anything -/
def mW (D : KD) (h : Nat → Nat) (m sv : Nat → Int32) (sc : Int32) (tx : Nat → Int32) (tl cd : Int32) (w1 : va_W) : Prop := ∃ (sp : Nat → Int32) (se ro st : Int32) (qa qb qd : Int64) (lo : Nat → Int32) (re : Nat → Int64) (cr ap nu : Int32) (ha : Int64), w1 = wMo D h m sp sv sc tx tl cd se ro st qa qb qd lo re cr ap nu ha
/-- the block that is shaved next, as the reference keeps it -/
def nsI (sb : Bool) (lo L : Nat → Int32) : Nat → Int32
  | 0 => -1
  | k + 1 => if (sb && decide (L k < lo k)) = true ∧ (nsI sb lo L k = -1 ∨ lo (nsI sb lo L k).toNatClampNeg - L (nsI sb lo L k).toNatClampNeg < lo k - L k) then nI k else nsI sb lo L k
theorem nsI_ix {sb : Bool} {lo L : Nat → Int32} : ∀ k, k ≤ 16 → nsI sb lo L k = -1 ∨ ∃ j, j < k ∧ nsI sb lo L k = nI j
  | 0, _ => Or.inl rfl
  | k + 1, h => by
    rw [nsI]
    split
    · exact Or.inr ⟨k, by omega, rfl⟩
    · rcases nsI_ix k (by omega) with h1 | ⟨j, h1, h2⟩
      · exact Or.inl h1
      · exact Or.inr ⟨j, by omega, h2⟩
theorem nsI_n {sb : Bool} {lo L : Nat → Int32} {k : Nat} (h : (sb && decide (L k < lo k)) = false) : nsI sb lo L (k + 1) = nsI sb lo L k := by rw [nsI, if_neg (by rw [h]; simp)]
theorem nsI_0 {sb : Bool} {lo L : Nat → Int32} {k : Nat} (h : (sb && decide (L k < lo k)) = true) (h2 : nsI sb lo L k = -1) : nsI sb lo L (k + 1) = nI k := by rw [nsI, if_pos ⟨h, Or.inl h2⟩]
theorem nsI_g {sb : Bool} {lo L : Nat → Int32} {k j : Nat} (h : (sb && decide (L k < lo k)) = true) (hj : j < 2 ^ 31) (h2 : nsI sb lo L k = nI j) (h3 : lo j - L j < lo k - L k) : nsI sb lo L (k + 1) = nI k := by rw [nsI, if_pos ⟨h, Or.inr (by rw [h2, nI_clamp hj]; exact h3)⟩]
theorem nsI_l {sb : Bool} {lo L : Nat → Int32} {k j : Nat} (hj : j < 2 ^ 31) (h2 : nsI sb lo L k = nI j) (h3 : ¬ lo j - L j < lo k - L k) : nsI sb lo L (k + 1) = nI j := by
  rw [nsI, if_neg ?_, h2]
  rintro ⟨-, h | h⟩
  · rw [h2] at h
    exact nI_m1 hj h
  · rw [h2, nI_clamp hj] at h
    exact h3 h
def mNs (m : Nat → Int32) (n : Nat) : Int32 := nsI (mR m n).1 (mLo m n) (mL m) n
/-- a block lowered by one -/
def shp (m : Nat → Int32) (k : Nat) : Nat → Int32 := upd (upd m (3 + 6 * k + 2) (m (3 + 6 * k + 2) - 1)) (3 + 6 * k + 5) (m (3 + 6 * k + 5) + 1)
def shv (n : Nat) : Nat → (Nat → Int32) → Int32 → (Nat → Int32) × Int32
  | 0, m, s => (m, s)
  | f + 1, m, s => if mNs m n = -1 ∨ mH m (mNs m n).toNatClampNeg ≤ -50 then (m, s) else shv n f (shp m (mNs m n).toNatClampNeg) (s + 1)
theorem shv_0 {n f : Nat} {m : Nat → Int32} {s : Int32} (h : mNs m n = -1 ∨ mH m (mNs m n).toNatClampNeg ≤ -50) : shv n f m s = (m, s) := by
  cases f with
  | zero => rfl
  | succ f => rw [shv, if_pos h]
theorem shv_s {n f : Nat} {m : Nat → Int32} {s : Int32} (h : ¬ (mNs m n = -1 ∨ mH m (mNs m n).toNatClampNeg ≤ -50)) : shv n (f + 1) m s = shv n f (shp m (mNs m n).toNatClampNeg) (s + 1) := by rw [shv, if_neg h]
theorem shp_2 (m : Nat → Int32) (k : Nat) : shp m k 2 = m 2 := by unfold shp; rw [pk_un (by omega), pk_un (by omega)]
theorem shp_val {m : Nat → Int32} {n k : Nat} (h : mVal m n) (hk : k < n) (hH : ¬ mH m k ≤ -50) : mVal (shp m k) n := by
  obtain ⟨h1, h2, h3⟩ := h
  have e : ∀ j, j ≠ 3 + 6 * k + 2 → j ≠ 3 + 6 * k + 5 → shp m k j = m j := fun j a b => by unfold shp; rw [pk_un b, pk_un a]
  refine ⟨by rw [e 0 (by omega) (by omega)]; exact h1, by rw [e 1 (by omega) (by omega)]; exact h2, fun j hj => ?_⟩
  obtain ⟨a, b, c, d, f⟩ := h3 j hj
  refine ⟨by rw [show mP (shp m k) j = mP m j from e _ (by omega) (by omega)]; exact a, by rw [show mK (shp m k) j = mK m j from e _ (by omega) (by omega)]; exact b, ?_, by rw [show mL (shp m k) j = mL m j from e _ (by omega) (by omega)]; exact d, by rw [show mT (shp m k) j = mT m j from e _ (by omega) (by omega)]; exact f⟩
  by_cases hjk : j = k
  · subst hjk
    have e2 : mH (shp m j) j = mH m j - 1 := by
      show shp m j (3 + 6 * j + 2) = _
      unfold shp
      rw [pk_un (by omega), pk_us]
      rfl
    rw [e2]
    have r := r32 c (show (-50 : Int32).toInt = -50 by decide) (show (50 : Int32).toInt = 50 by decide)
    rw [Int32.le_iff_toInt_le] at hH
    have o : (1 : Int32).toInt = 1 := by decide
    have m50 : (-50 : Int32).toInt = -50 := by decide
    have p50 : (50 : Int32).toInt = 50 := by decide
    have s : (mH m j - 1).toInt = (mH m j).toInt - 1 := by
      rw [Int32.toInt_sub, o]
      exact bm32 (by omega) (by omega)
    rw [Int32.le_iff_toInt_le, Int32.le_iff_toInt_le, s]
    omega
  · rw [show mH (shp m k) j = mH m j from e _ (by omega) (by omega)]
    exact c
/-- overloaded blocks crushed -/
def crk (m : Nat → Int32) (x : Int32) : Nat → Nat → Int32
  | 0 => m
  | k + 1 => upd (crk m x k) (3 + 6 * k + 4) (if bt x k = true then 2 else crk m x k (3 + 6 * k + 4))
theorem crk_at (m : Nat → Int32) (x : Int32) : ∀ k j, (∀ i, i < k → j ≠ 3 + 6 * i + 4) → crk m x k j = m j
  | 0, j, _ => rfl
  | k + 1, j, h => by
    rw [crk, pk_un (h k (by omega))]
    exact crk_at m x k j (fun i hi => h i (by omega))
theorem crk_T (m : Nat → Int32) (x : Int32) : ∀ k i, mT (crk m x k) i = if i < k ∧ bt x i = true then 2 else mT m i
  | 0, i => by simp [crk]
  | k + 1, i => by
    show crk m x (k + 1) (3 + 6 * i + 4) = _
    rw [crk]
    by_cases h : i = k
    · subst h
      rw [pk_us]
      by_cases hb : bt x i = true
      · rw [if_pos hb, if_pos ⟨by omega, hb⟩]
      · rw [if_neg hb, if_neg (fun z => hb z.2)]
        have := crk_T m x i i
        rw [if_neg (fun z => by omega)] at this
        exact this
    · rw [pk_un (by omega)]
      have := crk_T m x k i
      show mT (crk m x k) i = _
      rw [this]
      by_cases hb : i < k ∧ bt x i = true
      · rw [if_pos hb, if_pos ⟨by omega, hb.2⟩]
      · rw [if_neg hb, if_neg (fun z => hb ⟨by omega, z.2⟩)]
theorem crk_val {m : Nat → Int32} {n : Nat} (h : mVal m n) (x : Int32) (k : Nat) : mVal (crk m x k) n := by
  obtain ⟨h1, h2, h3⟩ := h
  have e : ∀ j, (∀ i, i < k → j ≠ 3 + 6 * i + 4) → crk m x k j = m j := crk_at m x k
  refine ⟨by rw [e 0 (fun i _ => by omega)]; exact h1, by rw [e 1 (fun i _ => by omega)]; exact h2, fun j hj => ?_⟩
  obtain ⟨a, b, c, d, f⟩ := h3 j hj
  refine ⟨by rw [show mP (crk m x k) j = mP m j from e _ (fun i _ => by omega)]; exact a, by rw [show mK (crk m x k) j = mK m j from e _ (fun i _ => by omega)]; exact b, by rw [show mH (crk m x k) j = mH m j from e _ (fun i _ => by omega)]; exact c, by rw [show mL (crk m x k) j = mL m j from e _ (fun i _ => by omega)]; exact d, ?_⟩
  rw [crk_T]
  split
  · exact Or.inr (Or.inr rfl)
  · exact f
theorem crk_2 (m : Nat → Int32) (x : Int32) (k : Nat) : crk m x k 2 = m 2 := crk_at m x k 2 (fun i _ => by omega)
/-! who gets 1 more -/
theorem am_max (cu : Nat → Int64) : ∀ i j, j < i → cu j ≤ cu (am cu i)
  | 0, j, h => by omega
  | i + 1, j, h => by
    have ih := am_max cu i
    rw [am]
    split
    · rename_i h2
      by_cases hj : j = i
      · rw [hj]
        exact Int64.le_refl _
      · exact Int64.le_trans (ih j (by omega)) (Int64.le_of_lt h2)
    · rename_i h2
      by_cases hj : j = i
      · rw [hj]
        exact Int64.not_lt.mp h2
      · exact ih j (by omega)
/-- how many of the first k aren't below 0 -/
def cn0 (cu : Nat → Int64) : Nat → Nat
  | 0 => 0
  | k + 1 => if cu k < 0 then cn0 cu k else cn0 cu k + 1
theorem cn0_ex {cu : Nat → Int64} : ∀ k, 0 < cn0 cu k → ∃ j, j < k ∧ ¬ cu j < 0
  | 0, h => by simp [cn0] at h
  | k + 1, h => by
    rw [cn0] at h
    split at h
    · obtain ⟨j, h1, h2⟩ := cn0_ex k h
      exact ⟨j, by omega, h2⟩
    · rename_i h2
      exact ⟨k, by omega, h2⟩
theorem cn0_same {cu cu' : Nat → Int64} : ∀ k, (∀ j, j < k → cu j = cu' j) → cn0 cu k = cn0 cu' k
  | 0, _ => rfl
  | k + 1, h => by rw [cn0, cn0, cn0_same k (fun j hj => h j (by omega)), h k (by omega)]
theorem cn0_upd {cu : Nat → Int64} {c : Nat} (hc : ¬ cu c < 0) : ∀ k, c < k → cn0 (vp_updL cu c (-1)) k + 1 = cn0 cu k
  | 0, h => by omega
  | k + 1, h => by
    rw [cn0, cn0]
    by_cases hk : k = c
    · subst hk
      rw [pk_uLs, if_pos (by decide), if_neg hc]
      rw [cn0_same k (cu := vp_updL cu k (-1)) (cu' := cu) (fun j hj => pk_uLn (by omega))]
    · have ih := cn0_upd hc k (by omega)
      rw [pk_uLn hk]
      split <;> omega
theorem gv_st {x : Int32} {lo : Nat → Int32} {cu : Nat → Int64} {B : Int} (h0 : ∀ j, j < 16 → bt x j = false → lo j = 0 ∧ cu j < 0) (hr : ∀ j, j < 16 → 0 ≤ (lo j).toInt ∧ (lo j).toInt ≤ B) (hB : 0 ≤ B ∧ B ≤ 200000) (hp : 0 < cn0 cu 16) :
    (∀ j, j < 16 → bt x j = false → (gv (lo, cu)).1 j = 0 ∧ (gv (lo, cu)).2 j < 0) ∧ (∀ j, j < 16 → 0 ≤ ((gv (lo, cu)).1 j).toInt ∧ ((gv (lo, cu)).1 j).toInt ≤ B + 1) ∧ cn0 (gv (lo, cu)).2 16 + 1 = cn0 cu 16 := by
  have hc16 := am_16 cu 16 (Nat.le_refl _)
  obtain ⟨j0, hj0, hn0⟩ := cn0_ex 16 hp
  have hc : ¬ cu (am cu 16) < 0 := by
    have h1 := am_max cu 16 j0 hj0
    have h2 := Int64.not_lt.mp hn0
    exact Int64.not_lt.mpr (Int64.le_trans h2 h1)
  have hb : bt x (am cu 16) = true := by
    by_cases h : bt x (am cu 16) = true
    · exact h
    · exact absurd (h0 _ hc16 (by simpa using h)).2 hc
  refine ⟨fun j hj hbj => ?_, fun j hj => ?_, cn0_upd hc 16 hc16⟩
  · have hne : j ≠ am cu 16 := fun e => by rw [e, hb] at hbj; cases hbj
    show upd lo _ _ j = 0 ∧ vp_updL cu _ _ j < 0
    rw [pk_un hne, pk_uLn hne]
    exact h0 j hj hbj
  · show 0 ≤ (upd lo _ _ j).toInt ∧ (upd lo _ _ j).toInt ≤ _
    by_cases e : j = am cu 16
    · rw [e, pk_us]
      have h2 := hr _ hc16
      have h3 : (lo (am cu 16) + 1).toInt = (lo (am cu 16)).toInt + 1 := by
        rw [Int32.toInt_add]
        have e1 : (1 : Int32).toInt = 1 := by decide
        rw [e1]
        exact bm32 (by omega) (by omega)
      show 0 ≤ (lo (am cu 16) + 1).toInt ∧ (lo (am cu 16) + 1).toInt ≤ _
      omega
    · rw [pk_un e]
      have h2 := hr j hj
      omega
theorem gvn_st {x : Int32} {lo : Nat → Int32} {cu : Nat → Int64} (h0 : ∀ j, j < 16 → bt x j = false → lo j = 0 ∧ cu j < 0) (hr : ∀ j, j < 16 → 0 ≤ (lo j).toInt ∧ (lo j).toInt ≤ 100000) : ∀ t, t ≤ cn0 cu 16 → t ≤ 16 →
    (∀ j, j < 16 → bt x j = false → (gvn (lo, cu) t).1 j = 0 ∧ (gvn (lo, cu) t).2 j < 0) ∧ (∀ j, j < 16 → 0 ≤ ((gvn (lo, cu) t).1 j).toInt ∧ ((gvn (lo, cu) t).1 j).toInt ≤ 100000 + t) ∧ cn0 (gvn (lo, cu) t).2 16 + t = cn0 cu 16
  | 0, _, _ => ⟨h0, fun j hj => by have := hr j hj; exact ⟨this.1, by show (lo j).toInt ≤ _; omega⟩, rfl⟩
  | t + 1, ht, h16 => by
    obtain ⟨a, b, c⟩ := gvn_st h0 hr t (by omega) (by omega)
    obtain ⟨a', b', c'⟩ := gv_st (B := 100000 + t) a b (by omega) (by omega)
    refine ⟨a', fun j hj => ?_, ?_⟩
    · have := b' j hj
      exact ⟨this.1, by have h2 := this.2; show ((gv ((gvn (lo, cu) t).1, (gvn (lo, cu) t).2)).1 j).toInt ≤ _; omega⟩
    · show cn0 (gv (gvn (lo, cu) t)).2 16 + (t + 1) = _
      have e : gv ((gvn (lo, cu) t).1, (gvn (lo, cu) t).2) = gv (gvn (lo, cu) t) := rfl
      rw [e] at c'
      omega
theorem rl_at {P K H : Nat → Int32} {x w : Int32} {q : Int64 × Int64 × Int64} {lo : Nat → Int32} {cu : Nat → Int64} : ∀ i j, j < i → (bt x j = true → (rl P K H x w q lo cu i).2.1 j = (f64 P K H q j / q.2.2).toInt32 ∧ (rl P K H x w q lo cu i).2.2 j = f64 P K H q j - f64 P K H q j / q.2.2 * q.2.2) ∧ (bt x j = false → (rl P K H x w q lo cu i).2.1 j = lo j ∧ (rl P K H x w q lo cu i).2.2 j = -1)
  | 0, j, h => by omega
  | i + 1, j, h => by
    have keep : ∀ i j, i ≤ j → (rl P K H x w q lo cu i).2.1 j = lo j := by
      intro i
      induction i with
      | zero => intro j _; rfl
      | succ i ih =>
        intro j hj
        by_cases hb : bt x i = true
        · rw [rl_t hb]
          show upd _ _ _ _ = _
          rw [pk_un (by omega)]
          exact ih j (by omega)
        · rw [rl_f (by simpa using hb)]
          exact ih j (by omega)
    by_cases hji : j = i
    · subst hji
      refine ⟨fun hb => ?_, fun hb => ?_⟩
      · rw [rl_t hb]
        exact ⟨pk_us, pk_uLs⟩
      · rw [rl_f hb]
        exact ⟨keep j j (Nat.le_refl _), pk_uLs⟩
    · have ih := rl_at (P := P) (K := K) (H := H) (x := x) (w := w) (q := q) (lo := lo) (cu := cu) i j (by omega)
      by_cases hb : bt x i = true
      · rw [rl_t hb]
        show (_ → upd _ _ _ _ = _ ∧ vp_updL (vp_updL _ _ _) _ _ _ = _) ∧ (_ → upd _ _ _ _ = _ ∧ vp_updL (vp_updL _ _ _) _ _ _ = _)
        rw [pk_un hji, pk_uLn hji, pk_uLn hji]
        exact ih
      · rw [rl_f (by simpa using hb)]
        show (_ → _ = _ ∧ vp_updL _ _ _ _ = _) ∧ (_ → _ = _ ∧ vp_updL _ _ _ _ = _)
        rw [pk_uLn hji]
        exact ih
theorem cn0_zs {x : Int32} {cu : Nat → Int64} : ∀ k, (∀ j, j < k → (bt x j = true → ¬ cu j < 0) ∧ (bt x j = false → cu j < 0)) → (cn0 cu k : Int) = zs x (fun _ => 1) k
  | 0, _ => rfl
  | k + 1, h => by
    have ih := cn0_zs k (fun j hj => h j (by omega))
    rw [cn0]
    by_cases hb : bt x k = true
    · rw [if_neg ((h k (by omega)).1 hb)]
      simp only [zs, hb, if_true]
      push_cast
      omega
    · have hb : bt x k = false := by simpa using hb
      rw [if_pos ((h k (by omega)).2 hb)]
      simp only [zs, hb]
      simpa using ih
/-- the loads of a ship that stands: nothing where nothing bears, and all within bounds -/
theorem ld_ok {P K H : Nat → Int32} {w c x : Int32} {n : Nat} {q : Int64 × Int64 × Int64} (h : zSt P K H w c x n q) : (∀ j, j < 16 → bt x j = false → (ldS P K H x w q (fun _ => 0)).1 j = 0) ∧ ∀ j, j < 16 → 0 ≤ ((ldS P K H x w q (fun _ => 0)).1 j).toInt ∧ ((ldS P K H x w q (fun _ => 0)).1 j).toInt ≤ 100016 := by
  have hlt : ∀ j, j < 16 → bt x j = true → j < n := by
    intro j hj hb
    refine Nat.lt_of_not_le fun z => ?_
    rw [h.2.2.2.1 j z (by omega)] at hb
    cases hb
  have h0 : ∀ j, j < 16 → bt x j = false → (rl P K H x w q (fun _ => 0) (fun _ => 0) 16).2.1 j = 0 ∧ (rl P K H x w q (fun _ => 0) (fun _ => 0) 16).2.2 j < 0 := by
    intro j hj hb
    obtain ⟨a, b⟩ := (rl_at (P := P) (K := K) (H := H) (x := x) (w := w) (q := q) (lo := fun _ => 0) (cu := fun _ => 0) 16 j hj).2 hb
    exact ⟨a, by rw [b]; decide⟩
  have hr : ∀ j, j < 16 → 0 ≤ ((rl P K H x w q (fun _ => 0) (fun _ => 0) 16).2.1 j).toInt ∧ ((rl P K H x w q (fun _ => 0) (fun _ => 0) 16).2.1 j).toInt ≤ 100000 := by
    intro j hj
    by_cases hb : bt x j = true
    · rw [((rl_at (P := P) (K := K) (H := H) (x := x) (w := w) (q := q) (lo := fun _ => 0) (cu := fun _ => 0) 16 j hj).1 hb).1]
      obtain ⟨v1, v2, v3, -⟩ := v_int h (hlt j hj hb) hb
      rw [v1]
      exact ⟨v2, v3⟩
    · rw [(h0 j hj (by simpa using hb)).1]
      decide
  have hcn : (cn0 (rl P K H x w q (fun _ => 0) (fun _ => 0) 16).2.2 16 : Int) = zs x (fun _ => 1) 16 := by
    refine cn0_zs 16 fun j hj => ⟨fun hb => ?_, fun hb => (h0 j hj hb).2⟩
    rw [((rl_at (P := P) (K := K) (H := H) (x := x) (w := w) (q := q) (lo := fun _ => 0) (cu := fun _ => 0) 16 j hj).1 hb).2]
    exact (v_int h (hlt j hj hb) hb).2.2.2
  have hn : n ≤ 16 := h.2.2.2.2.2.2.2
  have hz := zs_hi (f := fun _ => 1) h.2.2.2.1 (16 - n) (by omega)
  rw [show n + (16 - n) = 16 by omega] at hz
  obtain ⟨l1, l2⟩ := left_int h (fun _ => 0) (fun _ => 0)
  have hg : giv (rl P K H x w q (fun _ => 0) (fun _ => 0) 16).1 ≤ cn0 (rl P K H x w q (fun _ => 0) (fun _ => 0) 16).2.2 16 := by
    unfold giv Int32.toNatClampNeg
    omega
  have h16 : giv (rl P K H x w q (fun _ => 0) (fun _ => 0) 16).1 ≤ 16 := Nat.min_le_right _ _
  obtain ⟨a, b, -⟩ := gvn_st h0 hr _ hg h16
  exact ⟨fun j hj hb => (a j hj hb).1, fun j hj => ⟨(b j hj).1, by have := (b j hj).2; show ((gvn _ _).1 j).toInt ≤ _; omega⟩⟩
theorem mLo_off {m : Nat → Int32} {n : Nat} (hn : n ≤ 16) (hV : mVal m n) : (∀ j, j < 16 → ((mR m n).1 = true → bt (mR m n).2.2.1 j = false) → mLo m n j = 0) ∧ ∀ j, j < 16 → 0 ≤ (mLo m n j).toInt ∧ (mLo m n j).toInt ≤ 100016 := by
  by_cases hR : (mR m n).1 = true
  · have h := ld_ok (mVal_zSt hn hV hR)
    unfold mLo
    rw [if_pos hR]
    exact ⟨fun j hj hb => h.1 j hj (hb hR), h.2⟩
  · unfold mLo
    rw [if_neg hR]
    exact ⟨fun j _ _ => rfl, fun j _ => by decide⟩
