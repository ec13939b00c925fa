/-! whole numbers behind the longs -/
theorem bm64 {a : Int} (h1 : -4611686018427387904 ≤ a) (h2 : a ≤ 4611686018427387904) : a.bmod (2 ^ 64) = a := by
  show a.bmod 18446744073709551616 = a
  simp only [Int.bmod]
  split <;> omega
theorem bm32 {a : Int} (h1 : -1073741824 ≤ a) (h2 : a ≤ 1073741824) : a.bmod (2 ^ 32) = a := by
  show a.bmod 4294967296 = a
  simp only [Int.bmod]
  split <;> omega
theorem mulb {a b : Int} {A B : Nat} (h1 : -(A : Int) ≤ a) (h2 : a ≤ A) (h3 : -(B : Int) ≤ b) (h4 : b ≤ B) : -((A * B : Nat) : Int) ≤ a * b ∧ a * b ≤ ((A * B : Nat) : Int) := by
  have h5 : a.natAbs * b.natAbs ≤ A * B := Nat.mul_le_mul (by omega) (by omega)
  have h6 := Int.natAbs_mul a b
  omega
theorem mulp {a b : Int} (h1 : 0 ≤ a) (h2 : 0 ≤ b) : 0 ≤ a * b := Int.mul_nonneg h1 h2
theorem i64m {x y : Int64} (h1 : -4611686018427387904 ≤ x.toInt * y.toInt) (h2 : x.toInt * y.toInt ≤ 4611686018427387904) : (x * y).toInt = x.toInt * y.toInt := by
  rw [Int64.toInt_mul]
  exact bm64 h1 h2
theorem i64a {x y : Int64} (h1 : -4611686018427387904 ≤ x.toInt + y.toInt) (h2 : x.toInt + y.toInt ≤ 4611686018427387904) : (x + y).toInt = x.toInt + y.toInt := by
  rw [Int64.toInt_add]
  exact bm64 h1 h2
theorem i64s {x y : Int64} (h1 : -4611686018427387904 ≤ x.toInt - y.toInt) (h2 : x.toInt - y.toInt ≤ 4611686018427387904) : (x - y).toInt = x.toInt - y.toInt := by
  rw [Int64.toInt_sub]
  exact bm64 h1 h2
/-- a sum over the places of a set -/
def zs (x : Int32) (f : Nat → Int) : Nat → Int
  | 0 => 0
  | i + 1 => if bt x i = true then zs x f i + f i else zs x f i
/-- the ranges of a set's blocks -/
def zok (P K H : Nat → Int32) (x : Int32) (n : Nat) : Prop := ∀ i, i < n → bt x i = true → (0 ≤ (P i).toInt ∧ (P i).toInt ≤ 400) ∧ (1 ≤ (K i).toInt ∧ (K i).toInt ≤ 100) ∧ (-50 ≤ (H i).toInt ∧ (H i).toInt ≤ 50)
abbrev zP (P : Nat → Int32) : Nat → Int := fun i => (P i).toInt
theorem sm_int {P K H : Nat → Int32} {x w c : Int32} (hw : 1 ≤ w.toInt ∧ w.toInt ≤ 100000) (hc : 0 ≤ c.toInt ∧ c.toInt ≤ 400) : ∀ n, n ≤ 16 → zok P K H x n →
    ((sm P K H x w c n).1.toInt = zs x (fun i => (K i).toInt) n ∧ 0 ≤ zs x (fun i => (K i).toInt) n ∧ zs x (fun i => (K i).toInt) n ≤ 100 * n) ∧
    ((sm P K H x w c n).2.1.toInt = zs x (fun i => (K i).toInt * (P i).toInt) n ∧ 0 ≤ zs x (fun i => (K i).toInt * (P i).toInt) n ∧ zs x (fun i => (K i).toInt * (P i).toInt) n ≤ 40000 * n) ∧
    ((sm P K H x w c n).2.2.1.toInt = zs x (fun i => (K i).toInt * (P i).toInt * (P i).toInt) n ∧ 0 ≤ zs x (fun i => (K i).toInt * (P i).toInt * (P i).toInt) n ∧ zs x (fun i => (K i).toInt * (P i).toInt * (P i).toInt) n ≤ 16000000 * n) ∧
    ((sm P K H x w c n).2.2.2.1.toInt = w.toInt - zs x (fun i => (K i).toInt * (H i).toInt) n ∧ -(5000 * (n : Int)) ≤ zs x (fun i => (K i).toInt * (H i).toInt) n ∧ zs x (fun i => (K i).toInt * (H i).toInt) n ≤ 5000 * n) ∧
    ((sm P K H x w c n).2.2.2.2.toInt = w.toInt * c.toInt - zs x (fun i => (K i).toInt * (H i).toInt * (P i).toInt) n ∧ -(2000000 * (n : Int)) ≤ zs x (fun i => (K i).toInt * (H i).toInt * (P i).toInt) n ∧ zs x (fun i => (K i).toInt * (H i).toInt * (P i).toInt) n ≤ 2000000 * n)
  | 0, _, _ => by
    have h1 := mulb (a := w.toInt) (b := c.toInt) (A := 100000) (B := 400) (by omega) (by omega) (by omega) (by omega)
    refine ⟨⟨rfl, by simp [zs], by simp [zs]⟩, ⟨rfl, by simp [zs], by simp [zs]⟩, ⟨rfl, by simp [zs], by simp [zs]⟩, ⟨by simp [sm, zs], by simp [zs], by simp [zs]⟩, ⟨?_, by simp [zs], by simp [zs]⟩⟩
    show (w.toInt64 * c.toInt64).toInt = _
    rw [i64m (by rw [Int32.toInt_toInt64, Int32.toInt_toInt64]; omega) (by rw [Int32.toInt_toInt64, Int32.toInt_toInt64]; omega), Int32.toInt_toInt64, Int32.toInt_toInt64]
    simp [zs]
  | n + 1, hn, hz => by
    obtain ⟨⟨a1, a2, a3⟩, ⟨b1, b2, b3⟩, ⟨c1, c2, c3⟩, ⟨d1, d2, d3⟩, ⟨e1, e2, e3⟩⟩ := sm_int hw hc n (by omega) (fun i hi => hz i (by omega))
    by_cases hb : bt x n = true
    · obtain ⟨⟨p1, p2⟩, ⟨k1, k2⟩, ⟨g1, g2⟩⟩ := hz n (by omega) hb
      have kp := mulb (a := (K n).toInt) (b := (P n).toInt) (A := 100) (B := 400) (by omega) (by omega) (by omega) (by omega)
      have kp0 := mulp (a := (K n).toInt) (b := (P n).toInt) (by omega) (by omega)
      have kpp := mulb (a := (K n).toInt * (P n).toInt) (b := (P n).toInt) (A := 40000) (B := 400) (by omega) (by omega) (by omega) (by omega)
      have kpp0 := mulp (a := (K n).toInt * (P n).toInt) (b := (P n).toInt) (by omega) (by omega)
      have kh := mulb (a := (K n).toInt) (b := (H n).toInt) (A := 100) (B := 50) (by omega) (by omega) (by omega) (by omega)
      have khp := mulb (a := (K n).toInt * (H n).toInt) (b := (P n).toInt) (A := 5000) (B := 400) (by omega) (by omega) (by omega) (by omega)
      have wc := mulb (a := w.toInt) (b := c.toInt) (A := 100000) (B := 400) (by omega) (by omega) (by omega) (by omega)
      have m1 : ((K n).toInt64 * (P n).toInt64).toInt = (K n).toInt * (P n).toInt := by
        rw [i64m (by rw [Int32.toInt_toInt64, Int32.toInt_toInt64]; omega) (by rw [Int32.toInt_toInt64, Int32.toInt_toInt64]; omega), Int32.toInt_toInt64, Int32.toInt_toInt64]
      have m2 : ((K n).toInt64 * (P n).toInt64 * (P n).toInt64).toInt = (K n).toInt * (P n).toInt * (P n).toInt := by
        rw [i64m (by rw [m1, Int32.toInt_toInt64]; omega) (by rw [m1, Int32.toInt_toInt64]; omega), m1, Int32.toInt_toInt64]
      have m3 : ((K n).toInt64 * (H n).toInt64).toInt = (K n).toInt * (H n).toInt := by
        rw [i64m (by rw [Int32.toInt_toInt64, Int32.toInt_toInt64]; omega) (by rw [Int32.toInt_toInt64, Int32.toInt_toInt64]; omega), Int32.toInt_toInt64, Int32.toInt_toInt64]
      have m4 : ((K n).toInt64 * (H n).toInt64 * (P n).toInt64).toInt = (K n).toInt * (H n).toInt * (P n).toInt := by
        rw [i64m (by rw [m3, Int32.toInt_toInt64]; omega) (by rw [m3, Int32.toInt_toInt64]; omega), m3, Int32.toInt_toInt64]
      rw [sm_t hb]
      simp only [zs, hb, if_true]
      refine ⟨⟨?_, by omega, by omega⟩, ⟨?_, by omega, by omega⟩, ⟨?_, by omega, by omega⟩, ⟨?_, by omega, by omega⟩, ⟨?_, by omega, by omega⟩⟩
      · rw [i64a (by rw [a1, Int32.toInt_toInt64]; omega) (by rw [a1, Int32.toInt_toInt64]; omega), a1, Int32.toInt_toInt64]
      · rw [i64a (by rw [b1, m1]; omega) (by rw [b1, m1]; omega), b1, m1]
      · rw [i64a (by rw [c1, m2]; omega) (by rw [c1, m2]; omega), c1, m2]
      · rw [i64s (by rw [d1, m3]; omega) (by rw [d1, m3]; omega), d1, m3]
        omega
      · rw [i64s (by rw [e1, m4]; omega) (by rw [e1, m4]; omega), e1, m4]
        omega
    · have hb : bt x n = false := by simpa using hb
      rw [sm_f hb]
      simp only [zs, hb]
      refine ⟨⟨a1, a2, by simp; omega⟩, ⟨b1, b2, by simp; omega⟩, ⟨c1, c2, by simp; omega⟩, ⟨d1, by simp; omega, by simp; omega⟩, ⟨e1, by simp; omega, by simp; omega⟩⟩
theorem zs_lin (x : Int32) (a b d : Int) (P K H : Nat → Int32) : ∀ n, zs x (fun i => (K i).toInt * (a + b * (P i).toInt + d * (H i).toInt)) n = a * zs x (fun i => (K i).toInt) n + b * zs x (fun i => (K i).toInt * (P i).toInt) n + d * zs x (fun i => (K i).toInt * (H i).toInt) n
  | 0 => by simp [zs]
  | n + 1 => by
    have ih := zs_lin x a b d P K H n
    by_cases hb : bt x n = true
    · simp only [zs, hb, if_true]
      rw [ih]
      grind
    · have hb : bt x n = false := by simpa using hb
      simp only [zs, hb]
      simpa using ih
theorem z_id (s0 s1 s2 c0 w M : Int) : ((w - c0) * s2 - M * s1) * s0 + (M * s0 - (w - c0) * s1) * s1 + (s0 * s2 - s1 * s1) * c0 = (s0 * s2 - s1 * s1) * w := by grind
theorem zs_nn {x : Int32} {f : Nat → Int} : ∀ n, (∀ i, i < n → bt x i = true → 0 ≤ f i) → 0 ≤ zs x f n
  | 0, _ => by simp [zs]
  | n + 1, h => by
    have ih := zs_nn n (fun i hi => h i (by omega))
    by_cases hb : bt x n = true
    · have := h n (by omega) hb
      simp only [zs, hb, if_true]
      omega
    · have hb : bt x n = false := by simpa using hb
      simp only [zs, hb]
      simpa using ih
theorem zs_up {x : Int32} {f : Nat → Int} {i : Nat} : ∀ n, (∀ i, i < n → bt x i = true → 0 ≤ f i) → i ≤ n → zs x f i ≤ zs x f n
  | 0, _, h2 => by
    obtain rfl : i = 0 := by omega
    exact Int.le_refl _
  | n + 1, h, h2 => by
    by_cases h3 : i = n + 1
    · rw [h3]
      exact Int.le_refl _
    · have ih := zs_up (i := i) n (fun j hj => h j (by omega)) (by omega)
      by_cases hb : bt x n = true
      · have := h n (by omega) hb
        simp only [zs, hb, if_true]
        omega
      · have hb : bt x n = false := by simpa using hb
        simp only [zs, hb]
        simpa using ih
theorem zs_one {x : Int32} {f : Nat → Int} {n i : Nat} (h : ∀ i, i < n → bt x i = true → 0 ≤ f i) (hi : i < n) (hb : bt x i = true) : f i ≤ zs x f n := by
  have h1 := zs_up (f := f) (i := i + 1) n h (by omega)
  have h2 := zs_nn (f := f) i (fun j hj => h j (by omega))
  simp only [zs, hb, if_true] at h1
  omega
/-- dividing each place of a sum -/
theorem zs_div {x : Int32} {f : Nat → Int} {d : Int} (hd : 0 < d) : ∀ n, d * zs x (fun i => f i / d) n ≤ zs x f n ∧ zs x f n ≤ d * zs x (fun i => f i / d) n + (d - 1) * zs x (fun _ => 1) n
  | 0 => by simp [zs]
  | n + 1 => by
    obtain ⟨h1, h2⟩ := zs_div (x := x) (f := f) hd n
    by_cases hb : bt x n = true
    · simp only [zs, hb, if_true]
      have e1 := Int.mul_ediv_add_emod (f n) d
      have e2 := Int.emod_nonneg (f n) (show d ≠ 0 by omega)
      have e3 := Int.emod_lt_of_pos (f n) hd
      rw [Int.mul_add, Int.mul_add]
      omega
    · have hb : bt x n = false := by simpa using hb
      simp only [zs, hb]
      simpa using ⟨h1, h2⟩
theorem zs_cnt (x : Int32) : ∀ n, 0 ≤ zs x (fun _ => 1) n ∧ zs x (fun _ => 1) n ≤ n
  | 0 => by simp [zs]
  | n + 1 => by
    have ih := zs_cnt x n
    by_cases hb : bt x n = true
    · simp only [zs, hb, if_true]
      omega
    · have hb : bt x n = false := by simpa using hb
      simp only [zs, hb]
      simp
      omega
theorem zs_hi {x : Int32} {f : Nat → Int} {n : Nat} (h : ∀ j, n ≤ j → j < 32 → bt x j = false) : ∀ k, n + k ≤ 32 → zs x f (n + k) = zs x f n
  | 0, _ => rfl
  | k + 1, hk => by
    show zs x f ((n + k) + 1) = _
    simp only [zs, h (n + k) (by omega) (by omega)]
    simpa using zs_hi h k (by omega)
/-- the bits of the set that the keel presses -/
theorem nx_bt {P H : Nat → Int32} {all : Int32} {q : Int64 × Int64 × Int64} : ∀ n, n ≤ 32 → ∀ i, i < n → (bt (nx P H all q n) i = true ↔ bt all i = true ∧ 0 < q.1 + q.2.1 * (P i).toInt64 + q.2.2 * (H i).toInt64)
  | 0, _, i, hi => by omega
  | n + 1, hn, i, hi => by
    by_cases hin : i = n
    · subst hin
      have h0 := nx_hi (P := P) (H := H) (all := all) (q := q) i (by omega) i (Nat.le_refl _) (by omega)
      rw [nx]
      split
      · rename_i h
        rw [b_or, h0, b_bit i (by omega) (by omega)]
        simp [h]
      · rename_i h
        rw [h0]
        simp only [Bool.false_eq_true, false_iff]
        exact h
    · have ih := nx_bt (P := P) (H := H) (all := all) (q := q) n (by omega) i (by omega)
      rw [nx]
      split
      · rw [b_or, b_bit n (by omega) (by omega)]
        simp [hin, ih]
      · exact ih
/-- a ship that stands on the set x: its numbers, and what is known of them -/
def zSt (P K H : Nat → Int32) (w c x : Int32) (n : Nat) (q : Int64 × Int64 × Int64) : Prop := q = sol P K H w c n x ∧ 0 < q.2.2 ∧ (∀ i, i < n → bt x i = true → 0 < q.1 + q.2.1 * (P i).toInt64 + q.2.2 * (H i).toInt64) ∧ (∀ j, n ≤ j → j < 32 → bt x j = false) ∧ zok P K H x n ∧ (1 ≤ w.toInt ∧ w.toInt ≤ 100000) ∧ (0 ≤ c.toInt ∧ c.toInt ≤ 400) ∧ n ≤ 16
theorem l0 {x : Int64} (h : 0 < x) : 0 < x.toInt := by
  have := Int64.lt_iff_toInt_lt.mp h
  simpa using this
theorem q_int {P K H : Nat → Int32} {w c x : Int32} {n : Nat} {q : Int64 × Int64 × Int64} (h : zSt P K H w c x n q) :
    0 < q.2.2.toInt ∧ (-92160000000000 ≤ q.1.toInt ∧ q.1.toInt ≤ 92160000000000) ∧ (-230400000000 ≤ q.2.1.toInt ∧ q.2.1.toInt ≤ 230400000000) ∧ q.2.2.toInt ≤ 819200000000 ∧
    zs x (fun i => (K i).toInt * (q.1.toInt + q.2.1.toInt * (P i).toInt + q.2.2.toInt * (H i).toInt)) n = q.2.2.toInt * w.toInt := by
  obtain ⟨hq, hd, -, -, hz, hw, hc, hn⟩ := h
  obtain ⟨⟨a1, a2, a3⟩, ⟨b1, b2, b3⟩, ⟨c1, c2, c3⟩, ⟨d1, d2, d3⟩, ⟨e1, e2, e3⟩⟩ := sm_int hw hc n hn hz
  have wc := mulb (a := w.toInt) (b := c.toInt) (A := 100000) (B := 400) (by omega) (by omega) (by omega) (by omega)
  have t1 := mulb (a := (sm P K H x w c n).2.2.2.1.toInt) (b := (sm P K H x w c n).2.2.1.toInt) (A := 180000) (B := 256000000) (by omega) (by omega) (by omega) (by omega)
  have t2 := mulb (a := (sm P K H x w c n).2.2.2.2.toInt) (b := (sm P K H x w c n).2.1.toInt) (A := 72000000) (B := 640000) (by omega) (by omega) (by omega) (by omega)
  have t3 := mulb (a := (sm P K H x w c n).2.2.2.2.toInt) (b := (sm P K H x w c n).1.toInt) (A := 72000000) (B := 1600) (by omega) (by omega) (by omega) (by omega)
  have t4 := mulb (a := (sm P K H x w c n).2.2.2.1.toInt) (b := (sm P K H x w c n).2.1.toInt) (A := 180000) (B := 640000) (by omega) (by omega) (by omega) (by omega)
  have t5 := mulb (a := (sm P K H x w c n).1.toInt) (b := (sm P K H x w c n).2.2.1.toInt) (A := 1600) (B := 256000000) (by omega) (by omega) (by omega) (by omega)
  have t6 := mulb (a := (sm P K H x w c n).2.1.toInt) (b := (sm P K H x w c n).2.1.toInt) (A := 640000) (B := 640000) (by omega) (by omega) (by omega) (by omega)
  have qa : q.1.toInt = (sm P K H x w c n).2.2.2.1.toInt * (sm P K H x w c n).2.2.1.toInt - (sm P K H x w c n).2.2.2.2.toInt * (sm P K H x w c n).2.1.toInt := by
    rw [hq]
    show (soA _).toInt = _
    unfold soA
    have u1 := i64m (x := (sm P K H x w c n).2.2.2.1) (y := (sm P K H x w c n).2.2.1) (by omega) (by omega)
    have u2 := i64m (x := (sm P K H x w c n).2.2.2.2) (y := (sm P K H x w c n).2.1) (by omega) (by omega)
    rw [i64s (by rw [u1, u2]; omega) (by rw [u1, u2]; omega), u1, u2]
  have qb : q.2.1.toInt = (sm P K H x w c n).2.2.2.2.toInt * (sm P K H x w c n).1.toInt - (sm P K H x w c n).2.2.2.1.toInt * (sm P K H x w c n).2.1.toInt := by
    rw [hq]
    show (soB _).toInt = _
    unfold soB
    have u1 := i64m (x := (sm P K H x w c n).2.2.2.2) (y := (sm P K H x w c n).1) (by omega) (by omega)
    have u2 := i64m (x := (sm P K H x w c n).2.2.2.1) (y := (sm P K H x w c n).2.1) (by omega) (by omega)
    rw [i64s (by rw [u1, u2]; omega) (by rw [u1, u2]; omega), u1, u2]
  have qd : q.2.2.toInt = (sm P K H x w c n).1.toInt * (sm P K H x w c n).2.2.1.toInt - (sm P K H x w c n).2.1.toInt * (sm P K H x w c n).2.1.toInt := by
    rw [hq]
    show (soD _).toInt = _
    unfold soD
    have u1 := i64m (x := (sm P K H x w c n).1) (y := (sm P K H x w c n).2.2.1) (by omega) (by omega)
    have u2 := i64m (x := (sm P K H x w c n).2.1) (y := (sm P K H x w c n).2.1) (by omega) (by omega)
    rw [i64s (by rw [u1, u2]; omega) (by rw [u1, u2]; omega), u1, u2]
  refine ⟨l0 hd, by omega, by omega, by omega, ?_⟩
  rw [zs_lin, qa, qb, qd, a1, b1, c1, d1, e1]
  exact z_id _ _ _ _ _ _
/-- a block's force, whole -/
abbrev fz (P K H : Nat → Int32) (q : Int64 × Int64 × Int64) (i : Nat) : Int := (K i).toInt * (q.1.toInt + q.2.1.toInt * (P i).toInt + q.2.2.toInt * (H i).toInt)
abbrev f64 (P K H : Nat → Int32) (q : Int64 × Int64 × Int64) (i : Nat) : Int64 := (K i).toInt64 * (q.1 + q.2.1 * (P i).toInt64 + q.2.2 * (H i).toInt64)
theorem f_int {P K H : Nat → Int32} {w c x : Int32} {n : Nat} {q : Int64 × Int64 × Int64} (h : zSt P K H w c x n q) {i : Nat} (hi : i < n) (hb : bt x i = true) : (f64 P K H q i).toInt = fz P K H q i ∧ 0 < fz P K H q i ∧ fz P K H q i ≤ 4611686018427387904 := by
  obtain ⟨g1, g2, g3, g4, -⟩ := q_int h
  obtain ⟨-, -, hp, -, hz, -, -, -⟩ := h
  obtain ⟨⟨p1, p2⟩, ⟨k1, k2⟩, ⟨r1, r2⟩⟩ := hz i hi hb
  have t1 := mulb (a := q.2.1.toInt) (b := (P i).toInt) (A := 230400000000) (B := 400) (by omega) (by omega) (by omega) (by omega)
  have t2 := mulb (a := q.2.2.toInt) (b := (H i).toInt) (A := 819200000000) (B := 50) (by omega) (by omega) (by omega) (by omega)
  have u1 := i64m (x := q.2.1) (y := (P i).toInt64) (by rw [Int32.toInt_toInt64]; omega) (by rw [Int32.toInt_toInt64]; omega)
  have u2 := i64m (x := q.2.2) (y := (H i).toInt64) (by rw [Int32.toInt_toInt64]; omega) (by rw [Int32.toInt_toInt64]; omega)
  rw [Int32.toInt_toInt64] at u1 u2
  have u3 := i64a (x := q.1) (y := q.2.1 * (P i).toInt64) (by rw [u1]; omega) (by rw [u1]; omega)
  rw [u1] at u3
  have u4 := i64a (x := q.1 + q.2.1 * (P i).toInt64) (y := q.2.2 * (H i).toInt64) (by rw [u3, u2]; omega) (by rw [u3, u2]; omega)
  rw [u3, u2] at u4
  have pos := l0 (hp i hi hb)
  rw [u4] at pos
  have t3 := mulb (a := (K i).toInt) (b := q.1.toInt + q.2.1.toInt * (P i).toInt + q.2.2.toInt * (H i).toInt) (A := 100) (B := 225280000000000) (by omega) (by omega) (by omega) (by omega)
  have u5 := i64m (x := (K i).toInt64) (y := q.1 + q.2.1 * (P i).toInt64 + q.2.2 * (H i).toInt64) (by rw [u4, Int32.toInt_toInt64]; omega) (by rw [u4, Int32.toInt_toInt64]; omega)
  rw [u4, Int32.toInt_toInt64] at u5
  exact ⟨u5, Int.mul_pos (by omega) pos, Int.le_trans t3.2 (by omega)⟩
/-- the whole loads and the rests, one by one -/
theorem v_int {P K H : Nat → Int32} {w c x : Int32} {n : Nat} {q : Int64 × Int64 × Int64} (h : zSt P K H w c x n q) {i : Nat} (hi : i < n) (hb : bt x i = true) : (f64 P K H q i / q.2.2).toInt32.toInt = fz P K H q i / q.2.2.toInt ∧ 0 ≤ fz P K H q i / q.2.2.toInt ∧ fz P K H q i / q.2.2.toInt ≤ 100000 ∧ ¬ (f64 P K H q i - f64 P K H q i / q.2.2 * q.2.2) < 0 := by
  obtain ⟨g1, g2, g3, g4, g5⟩ := q_int h
  obtain ⟨f1, f2, f3⟩ := f_int h hi hb
  have hle : fz P K H q i ≤ q.2.2.toInt * w.toInt := by
    rw [← g5]
    exact zs_one (f := fz P K H q) (fun j hj hbj => Int.le_of_lt (f_int h hj hbj).2.1) hi hb
  obtain ⟨-, hd, -, -, -, hw, -, -⟩ := h
  have e0 : 0 ≤ fz P K H q i / q.2.2.toInt := Int.ediv_nonneg (by omega) (by omega)
  have e1 : fz P K H q i / q.2.2.toInt ≤ w.toInt := Int.ediv_le_of_le_mul g1 (by rw [Int.mul_comm]; exact hle)
  have e2 := Int.mul_ediv_add_emod (fz P K H q i) q.2.2.toInt
  have e3 := Int.emod_nonneg (fz P K H q i) (show q.2.2.toInt ≠ 0 by omega)
  have dv : (f64 P K H q i / q.2.2).toInt = fz P K H q i / q.2.2.toInt := by
    rw [Int64.toInt_div, f1, Int.tdiv_eq_ediv_of_nonneg (by omega)]
    exact bm64 (by omega) (by omega)
  refine ⟨?_, e0, by omega, ?_⟩
  · rw [Int64.toInt_toInt32, dv]
    exact bm32 (by omega) (by omega)
  · rw [Int64.lt_iff_toInt_lt]
    have t : q.2.2.toInt * (fz P K H q i / q.2.2.toInt) ≤ fz P K H q i := by omega
    have t0 := mulp (a := q.2.2.toInt) (b := fz P K H q i / q.2.2.toInt) (by omega) e0
    have m1 : (f64 P K H q i / q.2.2 * q.2.2).toInt = q.2.2.toInt * (fz P K H q i / q.2.2.toInt) := by
      rw [i64m (by rw [dv, Int.mul_comm]; omega) (by rw [dv, Int.mul_comm]; omega), dv, Int.mul_comm]
    rw [i64s (by rw [m1, f1]; omega) (by rw [m1, f1]; omega), m1, f1]
    have z : (0 : Int64).toInt = 0 := by decide
    omega
/-- what is left behind the first i blocks -/
theorem rest_int {P K H : Nat → Int32} {w c x : Int32} {n : Nat} {q : Int64 × Int64 × Int64} (h : zSt P K H w c x n q) (lo : Nat → Int32) (cu : Nat → Int64) : ∀ i, i ≤ n → (rl P K H x w q lo cu i).1.toInt = w.toInt - zs x (fun j => fz P K H q j / q.2.2.toInt) i ∧ 0 ≤ zs x (fun j => fz P K H q j / q.2.2.toInt) i ∧ zs x (fun j => fz P K H q j / q.2.2.toInt) i ≤ w.toInt := by
  obtain ⟨g1, g2, g3, g4, g5⟩ := q_int h
  have hw := h.2.2.2.2.2.1
  have nn : ∀ i, i < n → bt x i = true → 0 ≤ fz P K H q i / q.2.2.toInt := fun i hi hb => (v_int h hi hb).2.1
  have fn : ∀ i, i < n → bt x i = true → 0 ≤ fz P K H q i := fun i hi hb => Int.le_of_lt (f_int h hi hb).2.1
  have bd : ∀ i, i ≤ n → zs x (fun j => fz P K H q j / q.2.2.toInt) i ≤ w.toInt := by
    intro i hi
    have d1 := (zs_div (x := x) (f := fz P K H q) g1 i).1
    have d2 := zs_up (f := fz P K H q) (i := i) n fn hi
    rw [g5] at d2
    exact Int.le_of_mul_le_mul_left (Int.le_trans d1 d2) g1
  intro i
  induction i with
  | zero =>
    intro _
    simp [rl, zs]
    omega
  | succ i ih =>
    intro hi
    obtain ⟨i1, i2, i3⟩ := ih (by omega)
    have b1 := bd (i + 1) hi
    have b0 := zs_nn (f := fun j => fz P K H q j / q.2.2.toInt) (i + 1) (fun j hj => nn j (by omega))
    refine ⟨?_, b0, b1⟩
    by_cases hb : bt x i = true
    · rw [rl_t hb]
      have v := v_int h (i := i) (by omega) hb
      simp only [zs, hb, if_true] at b1 b0 ⊢
      show (_ - _ : Int32).toInt = _
      rw [Int32.toInt_sub, i1, v.1]
      rw [bm32 (by omega) (by omega)]
      omega
    · have hb : bt x i = false := by simpa using hb
      rw [rl_f hb]
      simp only [zs, hb]
      simpa using i1
theorem rl_hi {P K H : Nat → Int32} {w x : Int32} {n : Nat} {q : Int64 × Int64 × Int64} {lo : Nat → Int32} {cu : Nat → Int64} (h : ∀ j, n ≤ j → j < 32 → bt x j = false) : ∀ k, n + k ≤ 32 → (rl P K H x w q lo cu (n + k)).1 = (rl P K H x w q lo cu n).1 ∧ (rl P K H x w q lo cu (n + k)).2.1 = (rl P K H x w q lo cu n).2.1
  | 0, _ => ⟨rfl, rfl⟩
  | k + 1, hk => by
    have ih := rl_hi h k (by omega) (P := P) (K := K) (H := H) (w := w) (q := q) (lo := lo) (cu := cu)
    show (rl P K H x w q lo cu ((n + k) + 1)).1 = _ ∧ _
    rw [show n + (k + 1) = (n + k) + 1 from rfl, rl_f (h (n + k) (by omega) (by omega))]
    exact ih
/-- fewer are left than blocks bear -/
theorem left_int {P K H : Nat → Int32} {w c x : Int32} {n : Nat} {q : Int64 × Int64 × Int64} (h : zSt P K H w c x n q) (lo : Nat → Int32) (cu : Nat → Int64) : 0 ≤ (rl P K H x w q lo cu 16).1.toInt ∧ ((rl P K H x w q lo cu 16).1.toInt = 0 ∨ (rl P K H x w q lo cu 16).1.toInt < zs x (fun _ => 1) n) := by
  obtain ⟨g1, g2, g3, g4, g5⟩ := q_int h
  obtain ⟨r1, r2, r3⟩ := rest_int h lo cu n (Nat.le_refl _)
  have hn : n ≤ 16 := h.2.2.2.2.2.2.2
  have e := (rl_hi (P := P) (K := K) (H := H) (w := w) (q := q) (lo := lo) (cu := cu) h.2.2.2.1 (16 - n) (by omega)).1
  rw [show n + (16 - n) = 16 by omega] at e
  rw [e, r1]
  have d2 := (zs_div (x := x) (f := fz P K H q) g1 n).2
  rw [g5] at d2
  have cn := zs_cnt x n
  refine ⟨by omega, ?_⟩
  have k1 : q.2.2.toInt * (w.toInt - zs x (fun j => fz P K H q j / q.2.2.toInt) n) ≤ q.2.2.toInt * zs x (fun _ => 1) n - zs x (fun _ => 1) n := by
    have x1 := Int.mul_sub q.2.2.toInt w.toInt (zs x (fun j => fz P K H q j / q.2.2.toInt) n)
    have x2 := Int.sub_mul q.2.2.toInt 1 (zs x (fun _ => 1) n)
    omega
  by_cases h0 : zs x (fun _ => 1) n = 0
  · left
    rw [h0] at k1
    have k2 : q.2.2.toInt * (w.toInt - zs x (fun j => fz P K H q j / q.2.2.toInt) n) ≤ q.2.2.toInt * 0 := by omega
    have := Int.le_of_mul_le_mul_left k2 g1
    omega
  · right
    have k2 : q.2.2.toInt * (w.toInt - zs x (fun j => fz P K H q j / q.2.2.toInt) n) < q.2.2.toInt * zs x (fun _ => 1) n := by omega
    exact Int.lt_of_mul_lt_mul_left k2 (Int.le_of_lt g1)

