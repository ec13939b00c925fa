/-! the reference's page, as pure values -/
def mP (m : Nat → Int32) : Nat → Int32 := fun i => m (3 + 6 * i + 0)
def mK (m : Nat → Int32) : Nat → Int32 := fun i => m (3 + 6 * i + 1)
def mH (m : Nat → Int32) : Nat → Int32 := fun i => m (3 + 6 * i + 2)
def mL (m : Nat → Int32) : Nat → Int32 := fun i => m (3 + 6 * i + 3)
def mT (m : Nat → Int32) : Nat → Int32 := fun i => m (3 + 6 * i + 4)
def mS (m : Nat → Int32) : Nat → Int32 := fun i => m (3 + 6 * i + 5)
theorem cpy_s (f g : Nat → Int32) (p q i : Nat) : upd (va_cpy f g p q i) (q + i) (f (p + i)) = va_cpy f g p q (i + 1) := by
  funext j
  simp only [upd, va_cpy]
  by_cases h : j = q + i
  · subst h
    rw [if_pos rfl, if_pos (by omega)]
    congr 1
    omega
  · rw [if_neg h]
    by_cases h2 : q ≤ j ∧ j < q + i
    · rw [if_pos h2, if_pos (by omega)]
    · rw [if_neg h2, if_neg (by omega)]
theorem cpy_0 (f g : Nat → Int32) (p q : Nat) : va_cpy f g p q 0 = g := by
  funext j
  simp only [va_cpy]
  rw [if_neg (by omega)]
theorem b_bit (n : Nat) (hn : n < 32) {i : Nat} (hi : i < 32) : bt (bit (nI n)) i = decide (i = n) := by
  unfold bit
  rw [b_shl n hn 1 hi, b_1 _ (by omega)]
  by_cases h : i = n
  · subst h
    simp
  · rcases Nat.lt_or_ge i n with h2 | h2
    · simp [h, Nat.not_le.mpr h2]
    · simp [h]
      omega
/-- the bits of the places with a state -/
def stb (T : Nat → Int32) (s : Int32) : Nat → Int32
  | 0 => 0
  | i + 1 => if T i = s then stb T s i ||| bit (nI i) else stb T s i
theorem stb_t {T : Nat → Int32} {s : Int32} {i : Nat} (h : T i = s) : stb T s (i + 1) = stb T s i ||| bit (nI i) := by rw [stb, if_pos h]
theorem stb_f {T : Nat → Int32} {s : Int32} {i : Nat} (h : ¬ T i = s) : stb T s (i + 1) = stb T s i := by rw [stb, if_neg h]
theorem or_0 (x : Int32) : x ||| 0 = x := by
  apply b_ext
  intro i _
  rw [b_or, b_0, Bool.or_false]
theorem bI_eq1 (b : Bool) : bI b = 1 ↔ b = true := by cases b <;> simp [bI]
theorem upd_same {f : Nat → Int32} {k : Nat} {v : Int32} (h : f k = v) : upd f k v = f := by
  funext j
  simp only [upd]
  by_cases hj : j = k
  · rw [if_pos hj, hj, h]
  · rw [if_neg hj]
theorem updL2 (f : Nat → Int64) (k : Nat) (v w : Int64) : vp_updL (vp_updL f k v) k w = vp_updL f k w := by
  funext j
  simp only [vp_updL]
  by_cases hj : j = k
  · rw [if_pos hj, if_pos hj]
  · rw [if_neg hj, if_neg hj, if_neg hj]
theorem rl_lo0 {P K H : Nat → Int32} {x w : Int32} {q : Int64 × Int64 × Int64} (cu : Nat → Int64) : ∀ i j, i ≤ j → (rl P K H x w q (fun _ => 0) cu i).2.1 j = 0
  | 0, j, _ => rfl
  | i + 1, j, h => by
    by_cases hb : bt x i = true
    · rw [rl_t hb]
      show upd _ _ _ _ = _
      rw [pk_un (by omega)]
      exact rl_lo0 cu i j (by omega)
    · rw [rl_f (by simpa using hb)]
      exact rl_lo0 cu i j (by omega)
theorem zdiv (d : Int64) : ((0 : Int64) / d).toInt32 = 0 := by
  rw [Int64.zero_div]
  rfl
def mR (m : Nat → Int32) (n : Nat) : Bool × Nat × Int32 × (Int64 × Int64 × Int64) := fb (sol (mP m) (mK m) (mH m) (m 0) (m 1) n) (fun q => nx (mP m) (mH m) (stb (mT m) 0 n) q n) 30 0 (stb (mT m) 0 n) (0, 0, 0)
def mLo (m : Nat → Int32) (n : Nat) : Nat → Int32 := if (mR m n).1 = true then (ldS (mP m) (mK m) (mH m) (mR m n).2.2.1 (m 0) (mR m n).2.2.2 (fun _ => 0)).1 else fun _ => 0
/-- what is left to give is not more than the blocks -/
def mGood (m : Nat → Int32) (n : Nat) : Prop := (mR m n).1 = true → (rl (mP m) (mK m) (mH m) (mR m n).2.2.1 (m 0) (mR m n).2.2.2 (fun _ => 0) (fun _ => 0) 16).1.toNatClampNeg ≤ 16
theorem nx_hi {P H : Nat → Int32} {all : Int32} {q : Int64 × Int64 × Int64} : ∀ n, n ≤ 32 → ∀ j, n ≤ j → j < 32 → bt (nx P H all q n) j = false
  | 0, _, j, _, _ => b_0 j
  | n + 1, hn, j, h, hj => by
    have ih := nx_hi (P := P) (H := H) (all := all) (q := q) n (by omega) j (by omega) hj
    rw [nx]
    split
    · rw [b_or, ih, b_bit n (by omega) hj]
      simp
      omega
    · exact ih
theorem stb_hi {T : Nat → Int32} {s : Int32} : ∀ n, n ≤ 32 → ∀ j, n ≤ j → j < 32 → bt (stb T s n) j = false
  | 0, _, j, _, _ => b_0 j
  | n + 1, hn, j, h, hj => by
    have ih := stb_hi (T := T) (s := s) n (by omega) j (by omega) hj
    rw [stb]
    split
    · rw [b_or, ih, b_bit n (by omega) hj]
      simp
      omega
    · exact ih
theorem clamp0 {x : Int32} (h : x.toNatClampNeg = 0) : x ≤ 0 := by
  rw [Int32.le_iff_toInt_le]
  have e : (0 : Int32).toInt = 0 := by decide
  unfold Int32.toNatClampNeg at h
  omega
theorem clampS {x : Int32} {c : Nat} (h : x.toNatClampNeg = c + 1) : x = nI (c + 1) := by
  have h3 : ¬ x < 0 := by
    intro h4
    rw [Int32.lt_iff_toInt_lt] at h4
    have e : (0 : Int32).toInt = 0 := by decide
    unfold Int32.toNatClampNeg at h
    omega
  obtain ⟨j, hj, rfl⟩ := nI_of h3
  rw [nI_clamp hj] at h
  rw [h]
theorem ldG {r : Int32} (h : r.toNatClampNeg ≤ 16) : giv r = r.toNatClampNeg := Nat.min_eq_left h
