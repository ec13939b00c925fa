/-! the balance, as pure values -/
def sm (P K H : Nat → Int32) (x w c : Int32) : Nat → Int64 × Int64 × Int64 × Int64 × Int64
  | 0 => (0, 0, 0, w.toInt64, w.toInt64 * c.toInt64)
  | i + 1 => if bt x i = true then ((sm P K H x w c i).1 + (K i).toInt64, (sm P K H x w c i).2.1 + (K i).toInt64 * (P i).toInt64, (sm P K H x w c i).2.2.1 + (K i).toInt64 * (P i).toInt64 * (P i).toInt64, (sm P K H x w c i).2.2.2.1 - (K i).toInt64 * (H i).toInt64, (sm P K H x w c i).2.2.2.2 - (K i).toInt64 * (H i).toInt64 * (P i).toInt64) else sm P K H x w c i
theorem sm_t {P K H : Nat → Int32} {x w c : Int32} {i : Nat} (h : bt x i = true) : sm P K H x w c (i + 1) = ((sm P K H x w c i).1 + (K i).toInt64, (sm P K H x w c i).2.1 + (K i).toInt64 * (P i).toInt64, (sm P K H x w c i).2.2.1 + (K i).toInt64 * (P i).toInt64 * (P i).toInt64, (sm P K H x w c i).2.2.2.1 - (K i).toInt64 * (H i).toInt64, (sm P K H x w c i).2.2.2.2 - (K i).toInt64 * (H i).toInt64 * (P i).toInt64) := by rw [sm, if_pos h]
theorem sm_f {P K H : Nat → Int32} {x w c : Int32} {i : Nat} (h : bt x i = false) : sm P K H x w c (i + 1) = sm P K H x w c i := by rw [sm, if_neg (by rw [h]; decide)]
def soA (q : Int64 × Int64 × Int64 × Int64 × Int64) : Int64 := q.2.2.2.1 * q.2.2.1 - q.2.2.2.2 * q.2.1
def soB (q : Int64 × Int64 × Int64 × Int64 × Int64) : Int64 := q.2.2.2.2 * q.1 - q.2.2.2.1 * q.2.1
def soD (q : Int64 × Int64 × Int64 × Int64 × Int64) : Int64 := q.1 * q.2.2.1 - q.2.1 * q.2.1
def sol (P K H : Nat → Int32) (w c : Int32) (N : Nat) (x : Int32) : Int64 × Int64 × Int64 := (soA (sm P K H x w c N), soB (sm P K H x w c N), soD (sm P K H x w c N))
/-- the standing blocks that the keel presses -/
def nx (P H : Nat → Int32) (all : Int32) (q : Int64 × Int64 × Int64) : Nat → Int32
  | 0 => 0
  | i + 1 => if bt all i = true ∧ 0 < q.1 + q.2.1 * (P i).toInt64 + q.2.2 * (H i).toInt64 then nx P H all q i ||| bit (nI i) else nx P H all q i
theorem nx_t {P H : Nat → Int32} {all : Int32} {q : Int64 × Int64 × Int64} {i : Nat} (h : bt all i = true) (h2 : 0 < q.1 + q.2.1 * (P i).toInt64 + q.2.2 * (H i).toInt64) : nx P H all q (i + 1) = nx P H all q i ||| bit (nI i) := by rw [nx, if_pos ⟨h, h2⟩]
theorem nx_f {P H : Nat → Int32} {all : Int32} {q : Int64 × Int64 × Int64} {i : Nat} (h : bt all i = false) : nx P H all q (i + 1) = nx P H all q i := by rw [nx, if_neg (by rw [h]; simp)]
theorem nx_g {P H : Nat → Int32} {all : Int32} {q : Int64 × Int64 × Int64} {i : Nat} (h : ¬ 0 < q.1 + q.2.1 * (P i).toInt64 + q.2.2 * (H i).toInt64) : nx P H all q (i + 1) = nx P H all q i := by rw [nx, if_neg (fun z => h z.2)]
/-- the rounds: (stands, rounds, the set that bears, the last numbers) -/
def fb (f : Int32 → Int64 × Int64 × Int64) (g : Int64 × Int64 × Int64 → Int32) : Nat → Nat → Int32 → Int64 × Int64 × Int64 → Bool × Nat × Int32 × (Int64 × Int64 × Int64)
  | 0, r, _, q => (false, r, 0, q)
  | n + 1, r, x, _ => if (f x).2.2 ≤ 0 then (false, r + 1, 0, f x) else if g (f x) = x then (true, r + 1, x, f x) else fb f g n (r + 1) (g (f x)) (f x)
theorem fb_le {f : Int32 → Int64 × Int64 × Int64} {g : Int64 × Int64 × Int64 → Int32} {n r : Nat} {x : Int32} {q : Int64 × Int64 × Int64} (h : (f x).2.2 ≤ 0) : fb f g (n + 1) r x q = (false, r + 1, 0, f x) := by rw [fb, if_pos h]
theorem fb_eq {f : Int32 → Int64 × Int64 × Int64} {g : Int64 × Int64 × Int64 → Int32} {n r : Nat} {x : Int32} {q : Int64 × Int64 × Int64} (h : ¬ (f x).2.2 ≤ 0) (h2 : g (f x) = x) : fb f g (n + 1) r x q = (true, r + 1, x, f x) := by rw [fb, if_neg h, if_pos h2]
theorem fb_ne {f : Int32 → Int64 × Int64 × Int64} {g : Int64 × Int64 × Int64 → Int32} {n r : Nat} {x : Int32} {q : Int64 × Int64 × Int64} (h : ¬ (f x).2.2 ≤ 0) (h2 : ¬ g (f x) = x) : fb f g (n + 1) r x q = fb f g n (r + 1) (g (f x)) (f x) := by rw [fb, if_neg h, if_neg h2]
/-- one place of the greatest rest -/
def am (cu : Nat → Int64) : Nat → Nat
  | 0 => 0
  | i + 1 => if cu (am cu i) < cu i then i else am cu i
theorem am_t {cu : Nat → Int64} {i : Nat} (h : cu (am cu i) < cu i) : am cu (i + 1) = i := by rw [am, if_pos h]
theorem am_f {cu : Nat → Int64} {i : Nat} (h : ¬ cu (am cu i) < cu i) : am cu (i + 1) = am cu i := by rw [am, if_neg h]
theorem am_1 (cu : Nat → Int64) : am cu 1 = 0 := by rw [am]; split <;> rfl
theorem am_lt (cu : Nat → Int64) : ∀ i, am cu i < i + 1
  | 0 => by simp [am]
  | i + 1 => by
    have := am_lt cu i
    rw [am]
    split <;> omega
theorem am_16 (cu : Nat → Int64) (i : Nat) (h : i ≤ 16) : am cu i < 16 := by
  rcases Nat.lt_or_ge i 16 with h | h
  · have := am_lt cu i
    omega
  · have e : i = 15 + 1 := by omega
    rw [e, am]
    have := am_lt cu 15
    split <;> omega
def gv (q : (Nat → Int32) × (Nat → Int64)) : (Nat → Int32) × (Nat → Int64) := (upd q.1 (am q.2 16) (q.1 (am q.2 16) + 1), vp_updL q.2 (am q.2 16) (-1))
def gvn (q : (Nat → Int32) × (Nat → Int64)) : Nat → (Nat → Int32) × (Nat → Int64)
  | 0 => q
  | n + 1 => gv (gvn q n)
/-- the whole loads, the rests, and what is left -/
def rl (P K H : Nat → Int32) (x w : Int32) (q : Int64 × Int64 × Int64) (lo : Nat → Int32) (cu : Nat → Int64) : Nat → Int32 × (Nat → Int32) × (Nat → Int64)
  | 0 => (w, lo, cu)
  | i + 1 => if bt x i = true then ((rl P K H x w q lo cu i).1 - ((K i).toInt64 * (q.1 + q.2.1 * (P i).toInt64 + q.2.2 * (H i).toInt64) / q.2.2).toInt32, upd (rl P K H x w q lo cu i).2.1 i ((K i).toInt64 * (q.1 + q.2.1 * (P i).toInt64 + q.2.2 * (H i).toInt64) / q.2.2).toInt32, vp_updL (vp_updL (rl P K H x w q lo cu i).2.2 i (-1)) i ((K i).toInt64 * (q.1 + q.2.1 * (P i).toInt64 + q.2.2 * (H i).toInt64) - (K i).toInt64 * (q.1 + q.2.1 * (P i).toInt64 + q.2.2 * (H i).toInt64) / q.2.2 * q.2.2)) else ((rl P K H x w q lo cu i).1, (rl P K H x w q lo cu i).2.1, vp_updL (rl P K H x w q lo cu i).2.2 i (-1))
theorem rl_t {P K H : Nat → Int32} {x w : Int32} {q : Int64 × Int64 × Int64} {lo : Nat → Int32} {cu : Nat → Int64} {i : Nat} (h : bt x i = true) : rl P K H x w q lo cu (i + 1) = ((rl P K H x w q lo cu i).1 - ((K i).toInt64 * (q.1 + q.2.1 * (P i).toInt64 + q.2.2 * (H i).toInt64) / q.2.2).toInt32, upd (rl P K H x w q lo cu i).2.1 i ((K i).toInt64 * (q.1 + q.2.1 * (P i).toInt64 + q.2.2 * (H i).toInt64) / q.2.2).toInt32, vp_updL (vp_updL (rl P K H x w q lo cu i).2.2 i (-1)) i ((K i).toInt64 * (q.1 + q.2.1 * (P i).toInt64 + q.2.2 * (H i).toInt64) - (K i).toInt64 * (q.1 + q.2.1 * (P i).toInt64 + q.2.2 * (H i).toInt64) / q.2.2 * q.2.2)) := by rw [rl, if_pos h]
theorem rl_f {P K H : Nat → Int32} {x w : Int32} {q : Int64 × Int64 × Int64} {lo : Nat → Int32} {cu : Nat → Int64} {i : Nat} (h : bt x i = false) : rl P K H x w q lo cu (i + 1) = ((rl P K H x w q lo cu i).1, (rl P K H x w q lo cu i).2.1, vp_updL (rl P K H x w q lo cu i).2.2 i (-1)) := by rw [rl, if_neg (by rw [h]; decide)]
/-- how often 1 more is given -/
def giv (r : Int32) : Nat := min r.toNatClampNeg 16
/-- the blocks that bear more than their limit, beside those of o -/
def ovr (x : Int32) (lo L : Nat → Int32) (o : Int32) : Nat → Int32
  | 0 => o
  | i + 1 => if bt x i = true ∧ L i < lo i then ovr x lo L o i ||| bit (nI i) else ovr x lo L o i
theorem ovr_t {x : Int32} {lo L : Nat → Int32} {o : Int32} {i : Nat} (h : bt x i = true) (h2 : L i < lo i) : ovr x lo L o (i + 1) = ovr x lo L o i ||| bit (nI i) := by rw [ovr, if_pos ⟨h, h2⟩]
theorem ovr_f {x : Int32} {lo L : Nat → Int32} {o : Int32} {i : Nat} (h : bt x i = false) : ovr x lo L o (i + 1) = ovr x lo L o i := by rw [ovr, if_neg (by rw [h]; simp)]
theorem ovr_g {x : Int32} {lo L : Nat → Int32} {o : Int32} {i : Nat} (h : ¬ L i < lo i) : ovr x lo L o (i + 1) = ovr x lo L o i := by rw [ovr, if_neg (fun z => h z.2)]
/-- zeroes below i -/
def zf (f : Nat → Int32) (i : Nat) : Nat → Int32 := fun j => if j < i then 0 else f j
theorem zf_0 (f : Nat → Int32) : zf f 0 = f := by funext j; simp [zf]
theorem zf_s (f : Nat → Int32) (i : Nat) : upd (zf f i) i 0 = zf f (i + 1) := by
  funext j
  simp only [upd, zf]
  by_cases h : j = i
  · subst h
    simp
  · rw [if_neg h]
    by_cases h2 : j < i
    · rw [if_pos h2, if_pos (by omega)]
    · rw [if_neg h2, if_neg (by omega)]
theorem fb_pos {f : Int32 → Int64 × Int64 × Int64} {g : Int64 × Int64 × Int64 → Int32} : ∀ (n r : Nat) (x : Int32) (q : Int64 × Int64 × Int64), (fb f g n r x q).1 = true → 0 < (fb f g n r x q).2.2.2.2.2 ∧ (fb f g n r x q).2.2.2 = f (fb f g n r x q).2.2.1 ∧ g (f (fb f g n r x q).2.2.1) = (fb f g n r x q).2.2.1
  | 0, r, x, q => by simp [fb]
  | n + 1, r, x, q => by
    rw [fb]
    split
    · simp
    · rename_i h
      split
      · rename_i h2
        intro _
        exact ⟨Int64.not_le.mp h, rfl, h2⟩
      · exact fb_pos n (r + 1) _ _
def fnd (σ : Dk) : Bool × Nat × Int32 × (Int64 × Int64 × Int64) := fb (sol σ.2.2.2.2.2.1 σ.2.2.2.2.2.2.1 σ.2.2.2.2.2.2.2.1 σ.1 σ.2.1 16) (fun q => nx σ.2.2.2.2.2.1 σ.2.2.2.2.2.2.2.1 σ.2.2.2.1 q 16) 30 0 σ.2.2.2.1 (0, 0, 0)
theorem rl_cu {P K H : Nat → Int32} {x w : Int32} {q : Int64 × Int64 × Int64} {lo : Nat → Int32} (cu cu' : Nat → Int64) : ∀ i, (rl P K H x w q lo cu i).1 = (rl P K H x w q lo cu' i).1 ∧ (rl P K H x w q lo cu i).2.1 = (rl P K H x w q lo cu' i).2.1 ∧ ∀ j, j < i → (rl P K H x w q lo cu i).2.2 j = (rl P K H x w q lo cu' i).2.2 j
  | 0 => ⟨rfl, rfl, fun j h => absurd h (Nat.not_lt_zero j)⟩
  | i + 1 => by
    obtain ⟨h1, h2, h3⟩ := rl_cu cu cu' i
    by_cases hb : bt x i = true
    · rw [rl_t hb, rl_t hb]
      refine ⟨by rw [h1], by rw [h2], fun j hj => ?_⟩
      dsimp only
      by_cases hji : j = i
      · subst hji
        rw [pk_uLs, pk_uLs]
      · rw [pk_uLn hji, pk_uLn hji, pk_uLn hji, pk_uLn hji]
        exact h3 j (by omega)
    · have hb : bt x i = false := by simpa using hb
      rw [rl_f hb, rl_f hb]
      refine ⟨h1, h2, fun j hj => ?_⟩
      dsimp only
      by_cases hji : j = i
      · subst hji
        rw [pk_uLs, pk_uLs]
      · rw [pk_uLn hji, pk_uLn hji]
        exact h3 j (by omega)
/-- the loads and what is left of the rests, behind the sharing -/
def ldS (P K H : Nat → Int32) (x w : Int32) (q : Int64 × Int64 × Int64) (lo : Nat → Int32) : (Nat → Int32) × (Nat → Int64) := gvn ((rl P K H x w q lo (fun _ => 0) 16).2.1, (rl P K H x w q lo (fun _ => 0) 16).2.2) (giv (rl P K H x w q lo (fun _ => 0) 16).1)
/-- what a dock's balance is: the loads where the ship stands -/
def fLo (σ : Dk) : Nat → Int32 := if (fnd σ).1 = true then (ldS σ.2.2.2.2.2.1 σ.2.2.2.2.2.2.1 σ.2.2.2.2.2.2.2.1 (fnd σ).2.2.1 σ.1 (fnd σ).2.2.2 (fun _ => 0)).1 else fun _ => 0
def fCu (σ : Dk) (cu : Nat → Int64) : Nat → Int64 := if (fnd σ).1 = true then (ldS σ.2.2.2.2.2.1 σ.2.2.2.2.2.2.1 σ.2.2.2.2.2.2.2.1 (fnd σ).2.2.1 σ.1 (fnd σ).2.2.2 (fun _ => 0)).2 else cu
def fBe (σ : Dk) : Int32 := if (fnd σ).1 = true then (fnd σ).2.2.1 else 0
def fOv (σ : Dk) : Int32 := if (fnd σ).1 = true then ovr (fnd σ).2.2.1 (fLo σ) σ.2.2.2.2.2.2.2.2.1 0 16 else 0
theorem ne_of_pos {d : Int64} (h : 0 < d) : ¬ d = 0 := by
  intro e
  rw [e] at h
  exact absurd h (by decide)
theorem giv_lt {r : Int32} {i : Nat} (h : i < giv r) : ¬ r ≤ nI i := by
  unfold giv at h
  have h1 : i < r.toNatClampNeg := by omega
  have h2 : i < 16 := by omega
  have h3 : ¬ r < 0 := by
    intro h
    have : r.toNatClampNeg = 0 := by
      rw [Int32.lt_iff_toInt_lt] at h
      unfold Int32.toNatClampNeg
      have e : (0 : Int32).toInt = 0 := by decide
      omega
    omega
  obtain ⟨j, hj, rfl⟩ := nI_of h3
  rw [nI_clamp hj] at h1
  exact nI_ge h1 hj
theorem giv_16 {r : Int32} (h : ¬ r ≤ nI (giv r)) : (16 : Int32) ≤ nI (giv r) := by
  have h3 : ¬ r < 0 := by
    intro h4
    refine h ?_
    rw [Int32.lt_iff_toInt_lt] at h4
    rw [Int32.le_iff_toInt_le]
    rw [nI_toInt (by unfold giv; omega)]
    have e : (0 : Int32).toInt = 0 := by decide
    omega
  obtain ⟨j, hj, rfl⟩ := nI_of h3
  unfold giv at h ⊢
  rw [nI_clamp hj] at h ⊢
  by_cases h5 : j ≤ 16
  · rw [Nat.min_eq_left h5] at h
    exact absurd (Int32.le_refl _) h
  · rw [Nat.min_eq_right (by omega)]
    exact Int32.le_refl _

