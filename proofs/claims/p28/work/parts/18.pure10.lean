/-! the reference's answers, as pure values -/
def blS (sb : Bool) (se : Int32) (lo m : Nat → Int32) (i v : Nat) : Int32 := if v = 5 then lo i else if v = 6 then bI (sb && bt se i) else if v = 7 then bI (sb && decide (mL m i < lo i)) else if v = 8 then m (3 + 6 * i + 5) else m (3 + 6 * i + v)
def vlS (sb : Bool) (se ro : Int32) (lo m : Nat → Int32) (n v : Nat) : Int32 := if v = 3 then cntI (stb (mT m) 0 n) 16 else if v = 4 then (if sb = true then cntI se 16 else 0) else if v = 5 then cntI (ovb sb lo (mL m) n) 16 else if v = 6 then bI sb else if v = 7 then ro else if v = 8 then gre sb lo n else if v = 9 then hvy sb lo n else m v
def baS (sb : Bool) (qa qb qd : Int64) (v : Nat) : Int64 := if sb = true then (if v = 0 then qa else if v = 1 then qb else qd) else 0
theorem blS_se {sb : Bool} {se se' : Int32} {lo m : Nat → Int32} {i v : Nat} (h : sb = true → se = se') : blS sb se lo m i v = blS sb se' lo m i v := by
  cases sb with
  | true => rw [h rfl]
  | false => rfl
theorem vlS_se {sb : Bool} {se se' ro : Int32} {lo m : Nat → Int32} {n v : Nat} (h : sb = true → se = se') : vlS sb se ro lo m n v = vlS sb se' ro lo m n v := by
  cases sb with
  | true => rw [h rfl]
  | false => simp only [vlS, Bool.false_eq_true, if_false]
def mBl (m : Nat → Int32) (n i v : Nat) : Int32 := blS (mR m n).1 (mR m n).2.2.1 (mLo m n) m i v
def mVl (m : Nat → Int32) (n v : Nat) : Int32 := vlS (mR m n).1 (mR m n).2.2.1 (nI (mR m n).2.1) (mLo m n) m n v
def mBa (m : Nat → Int32) (n v : Nat) : Int64 := baS (mR m n).1 (mR m n).2.2.2.1 (mR m n).2.2.2.2.1 (mR m n).2.2.2.2.2 v
def mGr (m : Nat → Int32) (n : Nat) : Int32 := gre (mR m n).1 (mLo m n) n
def mLd (m : Nat → Int32) (n i : Nat) : Int32 := if (mR m n).1 = true then mLo m n i else -1
theorem cpl_R {m : Nat → Int32} {n i : Nat} (h : cpl m n i = true) : (mR (mSt m i 1) n).1 = true := by
  simp only [cpl, Bool.and_eq_true] at h
  exact h.1
theorem cpy_at (f g : Nat → Int32) (j : Nat) (h : j < 99) : va_cpy f g 0 0 99 j = f j := by
  simp [va_cpy, h]
/-- how many can be pulled -/
def pln (m : Nat → Int32) (n : Nat) : Nat → Int32
  | 0 => 0
  | k + 1 => pln m n k + bI (decide (mT m k = 0) && cpl m n k)
def mSf (m : Nat → Int32) (n : Nat) : Bool := (mR m n).1 && decide (mOv m n = 0)
def mUp (m : Nat → Int32) (k : Nat) (v : Int32) : Nat → Int32 := upd m k v
theorem mUp_self (m : Nat → Int32) (k : Nat) : mUp m k (m k) = m := by
  funext j
  by_cases h : j = k
  · rw [h]; exact pk_us
  · exact pk_un h
theorem mUp_up (m : Nat → Int32) (k : Nat) (v w : Int32) : upd (mUp m k v) k w = mUp m k w := upd2 m k v w
theorem mUp_P (m : Nat → Int32) (k : Nat) (v : Int32) (h : k < 3) : mP (mUp m k v) = mP m ∧ mK (mUp m k v) = mK m ∧ mH (mUp m k v) = mH m ∧ mL (mUp m k v) = mL m ∧ mT (mUp m k v) = mT m := by
  refine ⟨funext fun i => pk_un (by omega), funext fun i => pk_un (by omega), funext fun i => pk_un (by omega), funext fun i => pk_un (by omega), funext fun i => pk_un (by omega)⟩
theorem mUp_w {m : Nat → Int32} {n : Nat} {v : Int32} (h : mVal m n) (h1 : 1 ≤ v ∧ v ≤ 100000) : mVal (mUp m 0 v) n := by
  obtain ⟨a, b, c, d, e⟩ := mUp_P m 0 v (by omega)
  unfold mVal
  rw [a, b, c, d, e]
  refine ⟨?_, ?_, ?_⟩
  · rw [show mUp m 0 v 0 = v from pk_us]; exact h1
  · rw [show mUp m 0 v 1 = m 1 from pk_un (by omega)]; exact h.2.1
  · exact h.2.2
theorem mUp_c {m : Nat → Int32} {n : Nat} {v : Int32} (h : mVal m n) (h1 : 0 ≤ v ∧ v ≤ 400) : mVal (mUp m 1 v) n := by
  obtain ⟨a, b, c, d, e⟩ := mUp_P m 1 v (by omega)
  unfold mVal
  rw [a, b, c, d, e]
  refine ⟨?_, ?_, ?_⟩
  · rw [show mUp m 1 v 0 = m 0 from pk_un (by omega)]; exact h.1
  · rw [show mUp m 1 v 1 = v from pk_us]; exact h1
  · exact h.2.2
/-- the greatest weight of the first k -/
def gwI (m : Nat → Int32) (n : Nat) : Nat → Int32
  | 0 => -1
  | k + 1 => if mSf (mUp m 0 (nI (1000 * (k + 1)))) n = true then nI (1000 * (k + 1)) else gwI m n k
def bst (sb : Bool) (g v : Int32) (q : Int32 × Int32) : Int32 × Int32 := if sb = true ∧ (q.1 = -1 ∨ g < q.2) then (v, g) else q
theorem bst_t {sb : Bool} {g v : Int32} {q : Int32 × Int32} (h : sb = true) (h2 : q.1 = -1 ∨ g < q.2) : bst sb g v q = (v, g) := by rw [bst, if_pos ⟨h, h2⟩]
theorem bst_f {sb : Bool} {g v : Int32} {q : Int32 × Int32} (h : sb = false) : bst sb g v q = q := by rw [bst, if_neg (by rw [h]; simp)]
theorem bst_g {sb : Bool} {g v : Int32} {q : Int32 × Int32} (h : ¬ q.1 = -1) (h2 : ¬ g < q.2) : bst sb g v q = q := by rw [bst, if_neg (fun z => z.2.elim h h2)]
def bcI (m : Nat → Int32) (n : Nat) : Nat → Int32 × Int32
  | 0 => (-1, 0)
  | k + 1 => bst (mR (mUp m 1 (nI (5 * k))) n).1 (mGr (mUp m 1 (nI (5 * k))) n) (nI (5 * k)) (bcI m n k)
theorem rg5 : ∀ k, k < 81 → 0 ≤ nI (5 * k) ∧ nI (5 * k) ≤ 400 := by decide +kernel
theorem rg1000 : ∀ k, k < 100 → 1 ≤ nI (1000 * (k + 1)) ∧ nI (1000 * (k + 1)) ≤ 100000 := by decide +kernel
theorem nI_i5 : ∀ v, v < 5 → (nI v).toInt < 5 := by decide +kernel
theorem nI_i3 : ∀ v, v < 3 → (nI v).toInt < 3 := by decide +kernel
theorem pIn_n {v k : Nat} (h : v ≤ k) (hk : k < 2 ^ 31) : pIn (nI v) 0 (nI k) = true := by
  simp only [pIn, Bool.and_eq_true, decide_eq_true_eq]
  exact ⟨nI_pos' (by omega), nI_le h hk⟩
