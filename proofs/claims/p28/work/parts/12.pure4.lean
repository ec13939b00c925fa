/-! the reference's page: ranges, overloads, the heaviest -/
def mVal (m : Nat → Int32) (n : Nat) : Prop := (1 ≤ m 0 ∧ m 0 ≤ 100000) ∧ (0 ≤ m 1 ∧ m 1 ≤ 400) ∧ ∀ i, i < n → (0 ≤ mP m i ∧ mP m i ≤ 400) ∧ (1 ≤ mK m i ∧ mK m i ≤ 100) ∧ (-50 ≤ mH m i ∧ mH m i ≤ 50) ∧ (1 ≤ mL m i ∧ mL m i ≤ 99999) ∧ (mT m i = 0 ∨ mT m i = 1 ∨ mT m i = 2)
theorem r32 {x a b : Int32} {A B : Int} (h : a ≤ x ∧ x ≤ b) (ha : a.toInt = A) (hb : b.toInt = B) : A ≤ x.toInt ∧ x.toInt ≤ B := by
  obtain ⟨h1, h2⟩ := h
  rw [Int32.le_iff_toInt_le] at h1 h2
  omega
theorem mVal_zSt {m : Nat → Int32} {n : Nat} (hn : n ≤ 16) (h : mVal m n) (hR : (mR m n).1 = true) : zSt (mP m) (mK m) (mH m) (m 0) (m 1) (mR m n).2.2.1 n (mR m n).2.2.2 := by
  obtain ⟨h1, h2, h3⟩ := fb_pos (f := sol (mP m) (mK m) (mH m) (m 0) (m 1) n) (g := fun q => nx (mP m) (mH m) (stb (mT m) 0 n) q n) 30 0 (stb (mT m) 0 n) (0, 0, 0) hR
  have hq : (mR m n).2.2.2 = sol (mP m) (mK m) (mH m) (m 0) (m 1) n (mR m n).2.2.1 := h2
  have hx : nx (mP m) (mH m) (stb (mT m) 0 n) (mR m n).2.2.2 n = (mR m n).2.2.1 := by rw [hq]; exact h3
  obtain ⟨v1, v2, v3⟩ := h
  refine ⟨hq, h1, fun i hi hb => ?_, fun j j1 j2 => ?_, fun i hi hb => ?_, r32 v1 (by decide) (by decide), r32 v2 (by decide) (by decide), hn⟩
  · exact ((nx_bt n (by omega) i hi).mp (by rw [hx]; exact hb)).2
  · rw [← hx]
    exact nx_hi n (by omega) j j1 j2
  · obtain ⟨w1, w2, w3, -⟩ := v3 i hi
    exact ⟨r32 w1 (by decide) (by decide), r32 w2 (by decide) (by decide), r32 w3 (by decide) (by decide)⟩
theorem mVal_good {m : Nat → Int32} {n : Nat} (hn : n ≤ 16) (h : mVal m n) : mGood m n := by
  intro hR
  have hz := mVal_zSt hn h hR
  obtain ⟨l1, l2⟩ := left_int hz (fun _ => 0) (fun _ => 0)
  have c := zs_cnt (mR m n).2.2.1 n
  unfold Int32.toNatClampNeg
  omega
def ovb (sb : Bool) (lo L : Nat → Int32) : Nat → Int32
  | 0 => 0
  | i + 1 => if (sb && decide (L i < lo i)) = true then ovb sb lo L i ||| bit (nI i) else ovb sb lo L i
theorem ovb_t {sb : Bool} {lo L : Nat → Int32} {i : Nat} (h : (sb && decide (L i < lo i)) = true) : ovb sb lo L (i + 1) = ovb sb lo L i ||| bit (nI i) := by rw [ovb, if_pos h]
theorem ovb_f {sb : Bool} {lo L : Nat → Int32} {i : Nat} (h : (sb && decide (L i < lo i)) = false) : ovb sb lo L (i + 1) = ovb sb lo L i := by rw [ovb, if_neg (by rw [h]; decide)]
def cntI (x : Int32) : Nat → Int32
  | 0 => 0
  | i + 1 => cntI x i + bI (bt x i)
/-- the first place of the greatest among the first i -/
def amI (lo : Nat → Int32) : Nat → Nat
  | 0 => 0
  | i + 1 => if lo (amI lo i) < lo i then i else amI lo i
theorem amI_t {lo : Nat → Int32} {i : Nat} (h : lo (amI lo i) < lo i) : amI lo (i + 1) = i := by rw [amI, if_pos h]
theorem amI_f {lo : Nat → Int32} {i : Nat} (h : ¬ lo (amI lo i) < lo i) : amI lo (i + 1) = amI lo i := by rw [amI, if_neg h]
theorem amI_1 (lo : Nat → Int32) : amI lo 1 = 0 := by rw [amI]; split <;> rfl
theorem amI_lt (lo : Nat → Int32) : ∀ i, amI lo i ≤ i ∧ (0 < i → amI lo i < i)
  | 0 => by simp [amI]
  | i + 1 => by
    have := amI_lt lo i
    rw [amI]
    split <;> omega
/-- the heaviest as the reference keeps it -/
def hvI (lo : Nat → Int32) (i : Nat) : Int32 := if i = 0 then -1 else nI (amI lo i)
theorem hvI_1 (lo : Nat → Int32) : hvI lo 1 = nI 0 := by rw [hvI, if_neg (by decide), amI_1]
theorem hvI_ne {lo : Nat → Int32} {i : Nat} (hi : i ≤ 16) (h : ¬ hvI lo i = -1) : 0 < i ∧ hvI lo i = nI (amI lo i) ∧ amI lo i < 16 := by
  unfold hvI at h ⊢
  by_cases h0 : i = 0
  · rw [if_pos h0] at h
    exact absurd rfl h
  · rw [if_neg h0]
    have := amI_lt lo i
    exact ⟨by omega, rfl, by omega⟩
theorem nI_m1 {j : Nat} (h : j < 2 ^ 31) : ¬ nI j = -1 := by
  intro e
  have h1 := congrArg Int32.toInt e
  rw [nI_toInt h] at h1
  have e2 : (-1 : Int32).toInt = -1 := by decide
  omega
theorem hvI_eq {lo : Nat → Int32} {i : Nat} (hi : i ≤ 16) (h : hvI lo i = -1) : i = 0 := by
  unfold hvI at h
  by_cases h0 : i = 0
  · exact h0
  · rw [if_neg h0] at h
    have := amI_lt lo i
    exact absurd h (nI_m1 (by omega))
theorem hvI_t {lo : Nat → Int32} {i : Nat} (h0 : 0 < i) (h : lo (amI lo i) < lo i) : hvI lo (i + 1) = nI i := by rw [hvI, if_neg (by omega), amI_t h]
theorem hvI_f {lo : Nat → Int32} {i : Nat} (h0 : 0 < i) (h : ¬ lo (amI lo i) < lo i) : hvI lo (i + 1) = hvI lo i := by rw [hvI, hvI, if_neg (by omega), if_neg (by omega), amI_f h]
def hvy (sb : Bool) (lo : Nat → Int32) (n : Nat) : Int32 := if sb = true then hvI lo n else -1
def gre (sb : Bool) (lo : Nat → Int32) (n : Nat) : Int32 := if sb = true ∧ 0 < n then lo (amI lo n) else 0
def mBu (m : Nat → Int32) (n : Nat) (p s c l : Int32) : Nat → Int32 := upd (upd (upd (upd (upd (upd (upd m 2 (m 2 + 1)) (3 + 6 * n + 0) p) (3 + 6 * n + 1) s) (3 + 6 * n + 2) c) (3 + 6 * n + 3) l) (3 + 6 * n + 4) 0) (3 + 6 * n + 5) 0
/-- the saved pages moved on by one -/
def shf (sv : Nat → Int32) (i : Nat) : Nat → Int32 := fun j => if j < i then sv (j + 99) else sv j
theorem shf_0 (sv : Nat → Int32) : shf sv 0 = sv := by funext j; simp [shf]
theorem shf_s (sv : Nat → Int32) (i : Nat) : upd (shf sv i) i (shf sv i (i + 99)) = shf sv (i + 1) := by
  funext j
  simp only [upd, shf]
  by_cases h : j = i
  · subst h
    rw [if_pos rfl, if_neg (by omega), if_pos (by omega)]
  · rw [if_neg h]
    by_cases h2 : j < i
    · rw [if_pos h2, if_pos (by omega)]
    · rw [if_neg h2, if_neg (by omega)]
def kSv (sv : Nat → Int32) (s : Nat) (m : Nat → Int32) : Nat → Int32 := if s = 4 then va_cpy m (shf sv 297) 0 297 99 else va_cpy m sv 0 (99 * s) 99
theorem upd2 (f : Nat → Int32) (k : Nat) (v w : Int32) : upd (upd f k v) k w = upd f k w := by
  funext j
  simp only [upd]
  by_cases hj : j = k
  · rw [if_pos hj, if_pos hj]
  · rw [if_neg hj, if_neg hj, if_neg hj]
theorem upd_back {f : Nat → Int32} {k : Nat} {v w : Int32} (h : f k = w) : upd (upd f k v) k w = f := by
  rw [upd2]
  exact upd_same h
