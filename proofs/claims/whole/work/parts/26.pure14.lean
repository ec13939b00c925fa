/-! reading a text -/
def rh (tx : Nat → Int32) (t p : Nat) : Int32 := if p < t then tx p else -1
theorem rh_lt {tx : Nat → Int32} {t p : Nat} {c : Int32} (h : rh tx t p = c) (hc : ¬ c = -1) : p < t := by
  by_cases hp : p < t
  · exact hp
  · rw [rh, if_neg hp] at h
    exact absurd h.symm hc
def dgs (tx : Nat → Int32) (t : Nat) : Nat → Nat → Int32 → Nat × Int32
  | 0, p, v => (p, v)
  | k + 1, p, v => if pIn (rh tx t p) 48 57 = true then dgs tx t k (p + 1) (10 * v + rh tx t p - 48) else (p, v)
theorem dgs_t {tx : Nat → Int32} {t k p : Nat} {v : Int32} (h : pIn (rh tx t p) 48 57 = true) : dgs tx t (k + 1) p v = dgs tx t k (p + 1) (10 * v + rh tx t p - 48) := by rw [dgs, if_pos h]
theorem dgs_f {tx : Nat → Int32} {t k p : Nat} {v : Int32} (h : pIn (rh tx t p) 48 57 = false) : dgs tx t (k + 1) p v = (p, v) := by rw [dgs, if_neg (by rw [h]; decide)]
theorem pIn_lt {tx : Nat → Int32} {t p : Nat} (h : pIn (rh tx t p) 48 57 = true) : p < t := by
  by_cases hp : p < t
  · exact hp
  · rw [rh, if_neg hp] at h
    exact absurd h (by decide)
theorem dgs_le {tx : Nat → Int32} {t : Nat} : ∀ (k p : Nat) (v : Int32), p ≤ t → p ≤ (dgs tx t k p v).1 ∧ (dgs tx t k p v).1 ≤ t ∧ (dgs tx t k p v).1 ≤ p + k
  | 0, p, v, h => ⟨Nat.le_refl _, h, Nat.le_refl _⟩
  | k + 1, p, v, h => by
    by_cases hd : pIn (rh tx t p) 48 57 = true
    · rw [dgs_t hd]
      have := pIn_lt hd
      have := dgs_le (tx := tx) (t := t) k (p + 1) (10 * v + rh tx t p - 48) (by omega)
      omega
    · rw [dgs_f (by simpa using hd)]
      exact ⟨Nat.le_refl _, h, by omega⟩
def sgn (mi : Bool) (v : Int32) : Int32 := if mi = true then -v else v
def rNe (tx : Nat → Int32) (t : Nat) (mi : Bool) (p0 : Nat) (R : Nat × Int32) (l g b : Int32) : Bool × Int32 × Nat :=
  if R.1 = p0 ∨ pIn (rh tx t R.1) 48 57 = true then (false, R.2, R.1) else if pIn (sgn mi R.2) l g = false then (false, sgn mi R.2, p0) else if rh tx t R.1 = b then (true, sgn mi R.2, R.1 + 1) else (false, sgn mi R.2, R.1)
def rN (tx : Nat → Int32) (t p dg : Nat) (l g b : Int32) : Bool × Int32 × Nat :=
  rNe tx t (decide (l < 0) && decide (rh tx t p = 45)) (if (decide (l < 0) && decide (rh tx t p = 45)) = true then p + 1 else p) (dgs tx t dg (if (decide (l < 0) && decide (rh tx t p = 45)) = true then p + 1 else p) 0) l g b
theorem rN_of {tx : Nat → Int32} {t p dg : Nat} {l g b : Int32} {mi : Bool} (h : (decide (l < 0) && decide (rh tx t p = 45)) = mi) : rN tx t p dg l g b = rNe tx t mi (if mi = true then p + 1 else p) (dgs tx t dg (if mi = true then p + 1 else p) 0) l g b := by
  subst h
  rfl
theorem rNe_1 {tx : Nat → Int32} {t p0 : Nat} {mi : Bool} {R : Nat × Int32} {l g b : Int32} (h : R.1 = p0 ∨ pIn (rh tx t R.1) 48 57 = true) : rNe tx t mi p0 R l g b = (false, R.2, R.1) := by rw [rNe, if_pos h]
theorem rNe_2 {tx : Nat → Int32} {t p0 : Nat} {mi : Bool} {R : Nat × Int32} {l g b : Int32} (h : ¬ R.1 = p0) (h1 : pIn (rh tx t R.1) 48 57 = false) (h2 : pIn (sgn mi R.2) l g = false) : rNe tx t mi p0 R l g b = (false, sgn mi R.2, p0) := by rw [rNe, if_neg (fun z => z.elim h (fun z => by rw [h1] at z; cases z)), if_pos h2]
theorem rNe_3 {tx : Nat → Int32} {t p0 : Nat} {mi : Bool} {R : Nat × Int32} {l g b : Int32} (h : ¬ R.1 = p0) (h1 : pIn (rh tx t R.1) 48 57 = false) (h2 : pIn (sgn mi R.2) l g = true) : rNe tx t mi p0 R l g b = (decide (rh tx t R.1 = b), sgn mi R.2, if rh tx t R.1 = b then R.1 + 1 else R.1) := by
  rw [rNe, if_neg (fun z => z.elim h (fun z => by rw [h1] at z; cases z)), if_neg (by rw [h2]; decide)]
  by_cases hz : rh tx t R.1 = b
  · rw [if_pos hz, if_pos hz, decide_eq_true hz]
  · rw [if_neg hz, if_neg hz, decide_eq_false hz]
theorem rN_le {tx : Nat → Int32} {t p dg : Nat} {l g b : Int32} (hp : p ≤ t) (hb : ¬ b = -1) : (rN tx t p dg l g b).2.2 ≤ t := by
  have hp0 : (if (decide (l < 0) && decide (rh tx t p = 45)) = true then p + 1 else p) ≤ t := by
    split
    · rename_i h
      simp only [Bool.and_eq_true, decide_eq_true_eq] at h
      have := rh_lt h.2 (by decide)
      omega
    · exact hp
  unfold rN
  generalize (if (decide (l < 0) && decide (rh tx t p = 45)) = true then p + 1 else p) = p0 at hp0
  have hR := dgs_le (tx := tx) (t := t) dg p0 0 hp0
  generalize dgs tx t dg p0 0 = R at hR
  unfold rNe
  split
  · exact hR.2.1
  · split
    · exact hp0
    · split
      · rename_i h
        have := rh_lt h hb
        show R.1 + 1 ≤ t
        omega
      · exact hR.2.1
theorem rN_gt {tx : Nat → Int32} {t p dg : Nat} {l g b : Int32} (hp : p ≤ t) (h : (rN tx t p dg l g b).1 = true) : p < (rN tx t p dg l g b).2.2 := by
  have hp0 : p ≤ (if (decide (l < 0) && decide (rh tx t p = 45)) = true then p + 1 else p) ∧ (if (decide (l < 0) && decide (rh tx t p = 45)) = true then p + 1 else p) ≤ t := by
    split
    · rename_i h
      simp only [Bool.and_eq_true, decide_eq_true_eq] at h
      have := rh_lt h.2 (by decide)
      omega
    · exact ⟨Nat.le_refl _, hp⟩
  unfold rN at h ⊢
  generalize (if (decide (l < 0) && decide (rh tx t p = 45)) = true then p + 1 else p) = p0 at hp0 h ⊢
  have hR := dgs_le (tx := tx) (t := t) dg p0 0 hp0.2
  generalize dgs tx t dg p0 0 = R at hR h ⊢
  unfold rNe at h ⊢
  by_cases h1 : R.1 = p0 ∨ pIn (rh tx t R.1) 48 57 = true
  · rw [if_pos h1] at h; cases h
  · rw [if_neg h1] at h ⊢
    by_cases h2 : pIn (sgn (decide (l < 0) && decide (rh tx t p = 45)) R.2) l g = false
    · rw [if_pos h2] at h; cases h
    · rw [if_neg h2] at h ⊢
      by_cases h3 : rh tx t R.1 = b
      · rw [if_pos h3]
        show p < R.1 + 1
        omega
      · rw [if_neg h3] at h; cases h
theorem rN_in {tx : Nat → Int32} {t p dg : Nat} {l g b : Int32} (h : (rN tx t p dg l g b).1 = true) : l ≤ (rN tx t p dg l g b).2.1 ∧ (rN tx t p dg l g b).2.1 ≤ g := by
  unfold rN at h ⊢
  generalize (if (decide (l < 0) && decide (rh tx t p = 45)) = true then p + 1 else p) = p0 at h ⊢
  generalize dgs tx t dg p0 0 = R at h ⊢
  unfold rNe at h ⊢
  by_cases h1 : R.1 = p0 ∨ pIn (rh tx t R.1) 48 57 = true
  · rw [if_pos h1] at h; cases h
  · rw [if_neg h1] at h ⊢
    by_cases h2 : pIn (sgn (decide (l < 0) && decide (rh tx t p = 45)) R.2) l g = false
    · rw [if_pos h2] at h; cases h
    · rw [if_neg h2] at h ⊢
      by_cases h3 : rh tx t R.1 = b
      · rw [if_pos h3]
        exact pIn_i (by simpa using h2)
      · rw [if_neg h3] at h; cases h
/-- a block's item -/
def rA1 (tx : Nat → Int32) (t p : Nat) : Bool × Int32 × Nat := rN tx t (p + 1) 3 0 400 44
def rA2 (tx : Nat → Int32) (t p : Nat) : Bool × Int32 × Nat := rN tx t (rA1 tx t p).2.2 3 1 100 44
def rA3 (tx : Nat → Int32) (t p : Nat) : Bool × Int32 × Nat := rN tx t (rA2 tx t p).2.2 2 (-50) 50 44
def rA4 (tx : Nat → Int32) (t p : Nat) : Bool × Int32 × Nat := rN tx t (rA3 tx t p).2.2 5 1 99999 59
def rBo (tx : Nat → Int32) (t p : Nat) : Bool := decide (rh tx t p = 98) && (rA1 tx t p).1 && (rA2 tx t p).1 && (rA3 tx t p).1 && (rA4 tx t p).1
def rBp (tx : Nat → Int32) (t p : Nat) : Nat := if ¬ rh tx t p = 98 then p else if (rA1 tx t p).1 = false then (rA1 tx t p).2.2 else if (rA2 tx t p).1 = false then (rA2 tx t p).2.2 else if (rA3 tx t p).1 = false then (rA3 tx t p).2.2 else (rA4 tx t p).2.2
def rBm (tx : Nat → Int32) (t p : Nat) (m : Nat → Int32) (n : Nat) : Nat → Int32 := mBu m n (rA1 tx t p).2.1 (rA2 tx t p).2.1 (rA3 tx t p).2.1 (rA4 tx t p).2.1
/-- a ship's item -/
def rS1 (tx : Nat → Int32) (t p : Nat) : Bool × Int32 × Nat := rN tx t (p + 1) 6 1 100000 44
def rS2 (tx : Nat → Int32) (t p : Nat) : Bool × Int32 × Nat := rN tx t (rS1 tx t p).2.2 3 0 400 59
def rSo (tx : Nat → Int32) (t p : Nat) : Bool := decide (rh tx t p = 115) && (rS1 tx t p).1 && (rS2 tx t p).1
def rSp (tx : Nat → Int32) (t p : Nat) : Nat := if ¬ rh tx t p = 115 then p else if (rS1 tx t p).1 = false then (rS1 tx t p).2.2 else (rS2 tx t p).2.2
def rSm (tx : Nat → Int32) (t p : Nat) (m : Nat → Int32) : Nat → Int32 := upd (upd m 0 (rS1 tx t p).2.1) 1 (rS2 tx t p).2.1
theorem rA_le {tx : Nat → Int32} {t p : Nat} (hp : p < t) : (rA1 tx t p).2.2 ≤ t ∧ (rA2 tx t p).2.2 ≤ t ∧ (rA3 tx t p).2.2 ≤ t ∧ (rA4 tx t p).2.2 ≤ t := by
  have h1 : (rA1 tx t p).2.2 ≤ t := rN_le (by omega) (by decide)
  have h2 : (rA2 tx t p).2.2 ≤ t := rN_le h1 (by decide)
  have h3 : (rA3 tx t p).2.2 ≤ t := rN_le h2 (by decide)
  exact ⟨h1, h2, h3, rN_le h3 (by decide)⟩
theorem rS_le {tx : Nat → Int32} {t p : Nat} (hp : p < t) : (rS1 tx t p).2.2 ≤ t ∧ (rS2 tx t p).2.2 ≤ t := by
  have h1 : (rS1 tx t p).2.2 ≤ t := rN_le (by omega) (by decide)
  exact ⟨h1, rN_le h1 (by decide)⟩
theorem rBp_le {tx : Nat → Int32} {t p : Nat} (hp : p ≤ t) : rBp tx t p ≤ t := by
  unfold rBp
  by_cases h : rh tx t p = 98
  · have := rA_le (tx := tx) (rh_lt h (by decide))
    rw [if_neg (fun z => z h)]
    split
    · exact this.1
    · split
      · exact this.2.1
      · split
        · exact this.2.2.1
        · exact this.2.2.2
  · rw [if_pos h]; exact hp
theorem rSp_le {tx : Nat → Int32} {t p : Nat} (hp : p ≤ t) : rSp tx t p ≤ t := by
  unfold rSp
  by_cases h : rh tx t p = 115
  · have := rS_le (tx := tx) (rh_lt h (by decide))
    rw [if_neg (fun z => z h)]
    split
    · exact this.1
    · exact this.2
  · rw [if_pos h]; exact hp
theorem rBo_i {tx : Nat → Int32} {t p : Nat} (h : rBo tx t p = true) : rh tx t p = 98 ∧ (rA1 tx t p).1 = true ∧ (rA2 tx t p).1 = true ∧ (rA3 tx t p).1 = true ∧ (rA4 tx t p).1 = true := by
  simp only [rBo, Bool.and_eq_true, decide_eq_true_eq] at h
  exact ⟨h.1.1.1.1, h.1.1.1.2, h.1.1.2, h.1.2, h.2⟩
theorem rSo_i {tx : Nat → Int32} {t p : Nat} (h : rSo tx t p = true) : rh tx t p = 115 ∧ (rS1 tx t p).1 = true ∧ (rS2 tx t p).1 = true := by
  simp only [rSo, Bool.and_eq_true, decide_eq_true_eq] at h
  exact ⟨h.1.1, h.1.2, h.2⟩
theorem rBp_gt {tx : Nat → Int32} {t p : Nat} (h : rBo tx t p = true) : p < rBp tx t p := by
  obtain ⟨a, b, c, d, e⟩ := rBo_i h
  have hp := rh_lt a (by decide)
  have hl := rA_le (tx := tx) hp
  unfold rBp
  rw [if_neg (fun z => z a), if_neg (by rw [b]; decide), if_neg (by rw [c]; decide), if_neg (by rw [d]; decide)]
  have h1 : p + 1 < (rA1 tx t p).2.2 := rN_gt (by omega) b
  have h2 : (rA1 tx t p).2.2 < (rA2 tx t p).2.2 := rN_gt hl.1 c
  have h3 : (rA2 tx t p).2.2 < (rA3 tx t p).2.2 := rN_gt hl.2.1 d
  have h4 : (rA3 tx t p).2.2 < (rA4 tx t p).2.2 := rN_gt hl.2.2.1 e
  omega
theorem rSp_gt {tx : Nat → Int32} {t p : Nat} (h : rSo tx t p = true) : p < rSp tx t p := by
  obtain ⟨a, b, c⟩ := rSo_i h
  have hp := rh_lt a (by decide)
  have hl := rS_le (tx := tx) hp
  unfold rSp
  rw [if_neg (fun z => z a), if_neg (by rw [b]; decide)]
  have h1 : p + 1 < (rS1 tx t p).2.2 := rN_gt (by omega) b
  have h2 : (rS1 tx t p).2.2 < (rS2 tx t p).2.2 := rN_gt hl.1 c
  omega
/-- all items: whether the text is right, where it ends, the blocks, the page -/
def rdA (tx : Nat → Int32) (t : Nat) : Nat → Nat → Nat → (Nat → Int32) → Bool × Nat × Nat × (Nat → Int32)
  | 0, p, n, m => (true, p, n, m)
  | f + 1, p, n, m => if t ≤ p then (true, p, n, m) else if rh tx t p = 115 then (if rSo tx t p = true then rdA tx t f (rSp tx t p) n (rSm tx t p m) else (false, rSp tx t p, n, m)) else if n = 16 then (false, p, n, m) else if rBo tx t p = true then rdA tx t f (rBp tx t p) (n + 1) (rBm tx t p m n) else (false, rBp tx t p, n, m)
theorem rdA_e {tx : Nat → Int32} {t f p n : Nat} {m : Nat → Int32} (h : t ≤ p) : rdA tx t f p n m = (true, p, n, m) := by
  cases f with
  | zero => rfl
  | succ f => rw [rdA, if_pos h]
theorem rdA_st {tx : Nat → Int32} {t f p n : Nat} {m : Nat → Int32} (h : p < t) (h1 : rh tx t p = 115) (h2 : rSo tx t p = true) : rdA tx t (f + 1) p n m = rdA tx t f (rSp tx t p) n (rSm tx t p m) := by rw [rdA, if_neg (by omega), if_pos h1, if_pos h2]
theorem rdA_sf {tx : Nat → Int32} {t f p n : Nat} {m : Nat → Int32} (h : p < t) (h1 : rh tx t p = 115) (h2 : rSo tx t p = false) : rdA tx t (f + 1) p n m = (false, rSp tx t p, n, m) := by rw [rdA, if_neg (by omega), if_pos h1, if_neg (by rw [h2]; decide)]
theorem rdA_16 {tx : Nat → Int32} {t f p : Nat} {m : Nat → Int32} (h : p < t) (h1 : ¬ rh tx t p = 115) : rdA tx t (f + 1) p 16 m = (false, p, 16, m) := by rw [rdA, if_neg (by omega), if_neg h1, if_pos rfl]
theorem rdA_bt {tx : Nat → Int32} {t f p n : Nat} {m : Nat → Int32} (h : p < t) (h1 : ¬ rh tx t p = 115) (hn : n < 16) (h2 : rBo tx t p = true) : rdA tx t (f + 1) p n m = rdA tx t f (rBp tx t p) (n + 1) (rBm tx t p m n) := by rw [rdA, if_neg (by omega), if_neg h1, if_neg (by omega), if_pos h2]
theorem rdA_bf {tx : Nat → Int32} {t f p n : Nat} {m : Nat → Int32} (h : p < t) (h1 : ¬ rh tx t p = 115) (hn : n < 16) (h2 : rBo tx t p = false) : rdA tx t (f + 1) p n m = (false, rBp tx t p, n, m) := by rw [rdA, if_neg (by omega), if_neg h1, if_neg (by omega), if_neg (by rw [h2]; decide)]
theorem rBm_2 {tx : Nat → Int32} {t p n : Nat} {m : Nat → Int32} (hc : m 2 = nI n) : rBm tx t p m n 2 = nI (n + 1) := by
  unfold rBm
  rw [mBu_2, hc, nI_1]
theorem rSm_2 (tx : Nat → Int32) (t p : Nat) (m : Nat → Int32) : rSm tx t p m 2 = m 2 := by
  unfold rSm
  rw [pk_un (by omega), pk_un (by omega)]
theorem rBm_val {tx : Nat → Int32} {t p n : Nat} {m : Nat → Int32} (hV : mVal m n) (h : rBo tx t p = true) : mVal (rBm tx t p m n) (n + 1) := by
  obtain ⟨a, b, c, d, e⟩ := rBo_i h
  exact mBu_val hV (rN_in b) (rN_in c) (rN_in d) (rN_in e)
theorem rSm_val {tx : Nat → Int32} {t p n : Nat} {m : Nat → Int32} (hV : mVal m n) (h : rSo tx t p = true) : mVal (rSm tx t p m) n := by
  obtain ⟨a, b, c⟩ := rSo_i h
  exact mUp_c (mUp_w hV (rN_in b)) (rN_in c)
theorem rdA_ok {tx : Nat → Int32} {t : Nat} : ∀ (f p n : Nat) (m : Nat → Int32), n ≤ 16 → m 2 = nI n → mVal m n → (rdA tx t f p n m).2.2.1 ≤ 16 ∧ (rdA tx t f p n m).2.2.2 2 = nI (rdA tx t f p n m).2.2.1 ∧ mVal (rdA tx t f p n m).2.2.2 (rdA tx t f p n m).2.2.1
  | 0, p, n, m, hn, hc, hV => ⟨hn, hc, hV⟩
  | f + 1, p, n, m, hn, hc, hV => by
    by_cases h0 : p < t
    · by_cases h1 : rh tx t p = 115
      · by_cases h2 : rSo tx t p = true
        · rw [rdA_st h0 h1 h2]
          exact rdA_ok f _ _ _ hn ((rSm_2 _ _ _ _).trans hc) (rSm_val hV h2)
        · rw [rdA_sf h0 h1 (by simpa using h2)]
          exact ⟨hn, hc, hV⟩
      · by_cases h16 : n = 16
        · subst h16
          rw [rdA_16 h0 h1]
          exact ⟨hn, hc, hV⟩
        · by_cases h2 : rBo tx t p = true
          · rw [rdA_bt h0 h1 (by omega) h2]
            exact rdA_ok f _ _ _ (by omega) (rBm_2 hc) (rBm_val hV h2)
          · rw [rdA_bf h0 h1 (by omega) (by simpa using h2)]
            exact ⟨hn, hc, hV⟩
    · rw [rdA_e (by omega)]
      exact ⟨hn, hc, hV⟩
def mZ (m : Nat → Int32) : Nat → Int32 := upd m 2 0
theorem mZ_val {m : Nat → Int32} {n : Nat} (hV : mVal m n) : mVal (mZ m) 0 := by
  unfold mVal
  rw [show mZ m 0 = m 0 from pk_un (by omega), show mZ m 1 = m 1 from pk_un (by omega)]
  exact ⟨hV.1, hV.2.1, fun i hi => absurd hi (Nat.not_lt_zero i)⟩
/-- what a text makes of a page -/
def rdT (tx : Nat → Int32) (t : Nat) (m : Nat → Int32) : Bool × Nat × Nat × (Nat → Int32) := rdA tx t t 0 0 (mZ m)
theorem rdT_ok {tx : Nat → Int32} {t n : Nat} {m : Nat → Int32} (hV : mVal m n) : (rdT tx t m).2.2.1 ≤ 16 ∧ (rdT tx t m).2.2.2 2 = nI (rdT tx t m).2.2.1 ∧ mVal (rdT tx t m).2.2.2 (rdT tx t m).2.2.1 := rdA_ok t 0 0 (mZ m) (by omega) pk_us (mZ_val hV)
theorem inX6_here_6 : ∀ w ∈ u_ws RX6 TX6 19, w ∈ wsX6_here := by decide +kernel
theorem fgX6_here_178 : FG wsX6_here RX6 178 6 16 := ⟨RX6, TX6, 19, rfl, inX6_here_6, by decide, by decide +kernel⟩
theorem fgX6_here_175 : FG wsX6_here RX6 175 6 5 := ⟨RX6, TX6, 19, rfl, inX6_here_6, by decide, by decide +kernel⟩
theorem fgX6_here_19 : FG wsX6_here RX6 19 6 4 := ⟨RX6, TX6, 19, rfl, inX6_here_6, by decide, by decide +kernel⟩
theorem mfX6_here : MF yX6_here wsX6_here cX6_here 1 (some .int) 0 := ⟨⟨_, rfl⟩, by decide +kernel, by decide +kernel, by decide +kernel⟩
theorem inX6_takes_6 : ∀ w ∈ u_ws RX6 TX6 19, w ∈ wsX6_takes := by decide +kernel
theorem fgX6_takes_178 : FG wsX6_takes RX6 178 6 16 := ⟨RX6, TX6, 19, rfl, inX6_takes_6, by decide, by decide +kernel⟩
theorem foX6_takes_178 : FO wsX6_takes RX6 178 6 16 .int := ⟨RX6, TX6, 19, tyX6, rfl, inX6_takes_6, by decide, by decide +kernel, tyX6_ok, nmX6, by decide +kernel, by decide +kernel⟩
theorem inX6_readNumber_6 : ∀ w ∈ u_ws RX6 TX6 19, w ∈ wsX6_readNumber := by decide +kernel
theorem fgX6_readNumber_178 : FG wsX6_readNumber RX6 178 6 16 := ⟨RX6, TX6, 19, rfl, inX6_readNumber_6, by decide, by decide +kernel⟩
theorem foX6_readNumber_187 : FO wsX6_readNumber RX6 187 6 17 .int := ⟨RX6, TX6, 19, tyX6, rfl, inX6_readNumber_6, by decide, by decide +kernel, tyX6_ok, nmX6, by decide +kernel, by decide +kernel⟩
theorem fgX6_readNumber_187 : FG wsX6_readNumber RX6 187 6 17 := ⟨RX6, TX6, 19, rfl, inX6_readNumber_6, by decide, by decide +kernel⟩
theorem mfX6_takes : MF yX6_takes wsX6_takes cX6_takes 3 (some .boolean) 1 := ⟨⟨_, rfl⟩, by decide +kernel, by decide +kernel, by decide +kernel⟩
theorem foX6_readNumber_178 : FO wsX6_readNumber RX6 178 6 16 .int := ⟨RX6, TX6, 19, tyX6, rfl, inX6_readNumber_6, by decide, by decide +kernel, tyX6_ok, nmX6, by decide +kernel, by decide +kernel⟩
