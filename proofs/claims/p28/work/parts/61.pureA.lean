/-! what the law's check of a balance rests on: sums over the blocks, in the class's own numbers -/
/-- a block bears -/
def bea (m : Nat → Int32) (n i : Nat) : Bool := (mR m n).1 && bt (mR m n).2.2.1 i
/-- a block is overloaded -/
def ovd (m : Nat → Int32) (n i : Nat) : Bool := (mR m n).1 && decide (mL m i < mLo m n i)
/-- a block's press and force, as the law works them out -/
def prs (m : Nat → Int32) (n i : Nat) : Int64 := mBa m n 0 + mBa m n 1 * (mP m i).toInt64 + mBa m n 2 * (mH m i).toInt64
def frc (m : Nat → Int32) (n i : Nat) : Int64 := prs m n i * (mK m i).toInt64
/-- a sum of ints -/
def smL (f : Nat → Int32) : Nat → Int32
  | 0 => 0
  | i + 1 => smL f i + f i
def fSm (m : Nat → Int32) (n : Nat) : Nat → Int64
  | 0 => 0
  | i + 1 => fSm m n i + if bea m n i = true then frc m n i else 0
def gSm (m : Nat → Int32) (n : Nat) : Nat → Int64
  | 0 => 0
  | i + 1 => gSm m n i + if bea m n i = true then frc m n i * (mP m i).toInt64 else 0
theorem smL_cg {f g : Nat → Int32} : ∀ k, (∀ j, j < k → f j = g j) → smL f k = smL g k
  | 0, _ => rfl
  | k + 1, h => by rw [smL, smL, smL_cg k (fun j hj => h j (by omega)), h k (by omega)]
theorem smL_0 {f : Nat → Int32} : ∀ k, (∀ j, j < k → f j = 0) → smL f k = 0
  | 0, _ => rfl
  | k + 1, h => by rw [smL, smL_0 k (fun j hj => h j (by omega)), h k (by omega)]; decide
theorem smL_up {f : Nat → Int32} {n : Nat} : ∀ k, (∀ j, n ≤ j → j < n + k → f j = 0) → smL f (n + k) = smL f n
  | 0, _ => rfl
  | k + 1, h => by
    show smL f (n + k) + f (n + k) = _
    rw [smL_up k (fun j h1 h2 => h j h1 (by omega)), h (n + k) (by omega) (by omega), Int32.add_zero]
theorem smL_set (f : Nat → Int32) (c : Nat) (v : Int32) : ∀ k, c < k → smL (upd f c v) k = smL f k - f c + v
  | 0, h => by omega
  | k + 1, h => by
    rw [smL, smL]
    by_cases hk : c = k
    · subst hk
      rw [pk_us, smL_cg (f := upd f c v) (g := f) c (fun j hj => pk_un (by omega))]
      grind
    · rw [pk_un (by omega), smL_set f c v k (by omega)]
      grind
/-! counts -/
def cbN (x : Int32) : Nat → Nat
  | 0 => 0
  | i + 1 => cbN x i + if bt x i = true then 1 else 0
theorem cntI_N (x : Int32) : ∀ k, cntI x k = nI (cbN x k)
  | 0 => rfl
  | k + 1 => by
    rw [cntI, cntI_N x k, cbN]
    cases bt x k
    · show nI (cbN x k) + 0 = nI (cbN x k + 0)
      rw [Int32.add_zero, Nat.add_zero]
    · exact nI_add _ 1
theorem cbN_le (x : Int32) : ∀ k, cbN x k ≤ k
  | 0 => Nat.le_refl _
  | k + 1 => by
    have := cbN_le x k
    rw [cbN]
    split <;> omega
theorem cbN_up {x : Int32} {n : Nat} (h : ∀ j, n ≤ j → j < 32 → bt x j = false) : ∀ k, n + k ≤ 32 → cbN x (n + k) = cbN x n
  | 0, _ => rfl
  | k + 1, hk => by
    show cbN x (n + k) + (if bt x (n + k) = true then 1 else 0) = _
    rw [h (n + k) (by omega) (by omega), cbN_up h k (by omega)]
    rfl
theorem cntI_up {x : Int32} {n : Nat} (hn : n ≤ 16) (h : ∀ j, n ≤ j → j < 32 → bt x j = false) : cntI x 16 = cntI x n := by
  have := cbN_up h (16 - n) (by omega)
  rw [show n + (16 - n) = 16 by omega] at this
  rw [cntI_N, cntI_N, this]
theorem cbN_1 {x : Int32} : ∀ k i, i < k → bt x i = true → 1 ≤ cbN x k
  | 0, i, h, _ => by omega
  | k + 1, i, h, hb => by
    rw [cbN]
    by_cases e : i = k
    · rw [← e, hb]
      simp
    · have := cbN_1 k i (by omega) hb
      omega
/-! the balance in the law's words -/
theorem bI_n1 {b : Bool} (h : ¬ bI b = 1) : (0 : Int32) = bI b := by cases b <;> first | rfl | exact absurd rfl h
theorem bI_no {b : Bool} (h : ¬ bI b = 1) : b = false := by cases b <;> first | rfl | exact absurd rfl h
theorem mBa_s {m : Nat → Int32} {n : Nat} (hR : (mR m n).1 = true) : mBa m n 0 = (mR m n).2.2.2.1 ∧ mBa m n 1 = (mR m n).2.2.2.2.1 ∧ mBa m n 2 = (mR m n).2.2.2.2.2 := by
  unfold mBa baS
  rw [if_pos hR, if_pos hR, if_pos hR]
  exact ⟨rfl, rfl, rfl⟩
theorem mBa_n {m : Nat → Int32} {n : Nat} (hR : (mR m n).1 = false) (v : Nat) : mBa m n v = 0 := by
  unfold mBa baS
  rw [if_neg (by rw [hR]; decide)]
theorem bea_R {m : Nat → Int32} {n i : Nat} (h : bea m n i = true) : (mR m n).1 = true ∧ bt (mR m n).2.2.1 i = true := by
  unfold bea at h
  simpa using h
theorem bea_f {m : Nat → Int32} {n i : Nat} (h : bea m n i = false) (hR : (mR m n).1 = true) : bt (mR m n).2.2.1 i = false := by
  unfold bea at h
  rw [hR] at h
  simpa using h
/-- the set that bears is what the keel presses -/
theorem set_nx {m : Nat → Int32} {n : Nat} (hR : (mR m n).1 = true) : nx (mP m) (mH m) (stb (mT m) 0 n) (mR m n).2.2.2 n = (mR m n).2.2.1 := by
  obtain ⟨h1, h2, h3⟩ := fb_pos (f := sol (mP m) (mK m) (mH m) (m 0) (m 1) n) (g := fun q => nx (mP m) (mH m) (stb (mT m) 0 n) q n) 30 0 (stb (mT m) 0 n) (0, 0, 0) hR
  have hq : (mR m n).2.2.2 = sol (mP m) (mK m) (mH m) (m 0) (m 1) n (mR m n).2.2.1 := h2
  rw [hq]
  exact h3
section SOUND
variable {m : Nat → Int32} {n : Nat} (hn : n ≤ 16) (hV : mVal m n)
theorem so_nn {i : Nat} (hn : n ≤ 16) (hV : mVal m n) (hi : i < n) : ¬ mLo m n i < 0 := by
  have := mLo_nn hn hV i (by omega)
  rw [Int32.lt_iff_toInt_lt, i32_0]
  omega
theorem so_nb {i : Nat} (hn : n ≤ 16) (hV : mVal m n) (hi : i < n) (h : bea m n i = false) : mLo m n i = 0 := (mLo_off hn hV).1 i (by omega) (fun hR => bea_f h hR)
theorem so_bT {i : Nat} (hn : n ≤ 16) (hi : i < n) (h : bea m n i = true) : mT m i = 0 := by
  obtain ⟨hR, hb⟩ := bea_R h
  rw [← set_nx hR] at hb
  exact (stb_bt n (by omega) i hi).mp ((nx_bt n (by omega) i hi).mp hb).1
theorem so_pr {i : Nat} (hn : n ≤ 16) (hV : mVal m n) (hi : i < n) (h : bea m n i = true) : 0 < prs m n i := by
  obtain ⟨hR, hb⟩ := bea_R h
  obtain ⟨e1, e2, e3⟩ := mBa_s hR
  unfold prs
  rw [e1, e2, e3]
  exact (mVal_zSt hn hV hR).2.2.1 i hi hb
theorem so_np {i : Nat} (hn : n ≤ 16) (hi : i < n) (h : bea m n i = false) (hR : (mR m n).1 = true) (hT : mT m i = 0) : ¬ 0 < prs m n i := by
  obtain ⟨e1, e2, e3⟩ := mBa_s hR
  unfold prs
  rw [e1, e2, e3]
  intro hp
  have hb : bt (mR m n).2.2.1 i = true := by
    rw [← set_nx hR]
    exact (nx_bt n (by omega) i hi).mpr ⟨(stb_bt n (by omega) i hi).mpr hT, hp⟩
  rw [bea_f h hR] at hb
  cases hb
theorem so_ov {i : Nat} (hn : n ≤ 16) (hV : mVal m n) (hi : i < n) : ovd m n i = decide (mL m i < mLo m n i) := by
  unfold ovd
  cases hR : (mR m n).1 with
  | true => rfl
  | false =>
    have e : mLo m n i = 0 := (mLo_off hn hV).1 i (by omega) (fun z => by rw [hR] at z; cases z)
    have hL := r32 (hV.2.2 i hi).2.2.2.1 (show (1 : Int32).toInt = 1 by decide) (show (99999 : Int32).toInt = 99999 by decide)
    rw [e, Bool.false_and]
    symm
    rw [decide_eq_false_iff_not, Int32.lt_iff_toInt_lt, i32_0]
    omega
theorem so_T0 {i : Nat} (hV : mVal m n) (hi : i < n) : ¬ mT m i < 0 := by
  rcases (hV.2.2 i hi).2.2.2.2 with e | e | e <;> rw [e] <;> decide
theorem so_T2 {i : Nat} (hV : mVal m n) (hi : i < n) : mT m i ≤ 2 := by
  rcases (hV.2.2 i hi).2.2.2.2 with e | e | e <;> rw [e] <;> decide
end SOUND
/-! sharing what the rounding left: each load is its force, within 1 -/
/-- how many of the first k are above 0 -/
def cnP (cu : Nat → Int64) : Nat → Nat
  | 0 => 0
  | k + 1 => cnP cu k + if 0 < cu k then 1 else 0
theorem cnP_ex {cu : Nat → Int64} : ∀ k, 0 < cnP cu k → ∃ j, j < k ∧ 0 < cu j
  | 0, h => by simp [cnP] at h
  | k + 1, h => by
    rw [cnP] at h
    by_cases hk : 0 < cu k
    · exact ⟨k, by omega, hk⟩
    · rw [if_neg hk] at h
      obtain ⟨j, a, b⟩ := cnP_ex k h
      exact ⟨j, by omega, b⟩
theorem cnP_cg {cu cu' : Nat → Int64} : ∀ k, (∀ j, j < k → cu j = cu' j) → cnP cu k = cnP cu' k
  | 0, _ => rfl
  | k + 1, h => by rw [cnP, cnP, cnP_cg k (fun j hj => h j (by omega)), h k (by omega)]
theorem cnP_set {cu : Nat → Int64} {c : Nat} (hc : 0 < cu c) : ∀ k, c < k → cnP (vp_updL cu c (-1)) k + 1 = cnP cu k
  | 0, h => by omega
  | k + 1, h => by
    rw [cnP, cnP]
    by_cases hk : k = c
    · subst hk
      rw [pk_uLs, if_neg (by decide), if_pos hc, cnP_cg (cu := vp_updL cu k (-1)) (cu' := cu) k (fun j hj => pk_uLn (by omega))]
    · have ih := cnP_set hc k (by omega)
      rw [pk_uLn hk]
      omega
/-- a load is its whole part, or 1 more where something was cut off -/
def gIn (x : Int32) (fl : Nat → Int32) (fr : Nat → Int64) (q : (Nat → Int32) × (Nat → Int64)) : Prop := ∀ j, j < 16 → (bt x j = false → q.1 j = 0 ∧ q.2 j < 0) ∧ (bt x j = true → (q.1 j = fl j ∧ q.2 j = fr j) ∨ (q.1 j = fl j + 1 ∧ q.2 j = -1 ∧ 0 < fr j))
theorem gv_in {x : Int32} {fl : Nat → Int32} {fr : Nat → Int64} {lo : Nat → Int32} {cu : Nat → Int64} (h : gIn x fl fr (lo, cu)) (hp : 0 < cnP cu 16) : gIn x fl fr (gv (lo, cu)) ∧ cnP (gv (lo, cu)).2 16 + 1 = cnP cu 16 ∧ smL (gv (lo, cu)).1 16 = smL lo 16 + 1 := by
  have hc16 := am_16 cu 16 (Nat.le_refl _)
  obtain ⟨j0, hj0, hn0⟩ := cnP_ex 16 hp
  have hc : 0 < cu (am cu 16) := by
    have h1 := am_max cu 16 j0 hj0
    rw [Int64.lt_iff_toInt_lt] at hn0 ⊢
    rw [Int64.le_iff_toInt_le] at h1
    omega
  have hnl : ¬ cu (am cu 16) < 0 := by
    rw [Int64.lt_iff_toInt_lt] at hc ⊢
    omega
  have hn1 : ¬ cu (am cu 16) = -1 := fun e => by
    rw [e] at hc
    exact absurd hc (by decide)
  have hb : bt x (am cu 16) = true := by
    cases hbb : bt x (am cu 16) with
    | true => rfl
    | false => exact absurd ((h _ hc16).1 hbb).2 hnl
  have ha : lo (am cu 16) = fl (am cu 16) ∧ cu (am cu 16) = fr (am cu 16) := by
    rcases (h _ hc16).2 hb with a | a
    · exact a
    · exact absurd a.2.1 hn1
  refine ⟨fun j hj => ?_, cnP_set hc 16 hc16, ?_⟩
  · show (bt x j = false → upd lo _ _ j = 0 ∧ vp_updL cu _ _ j < 0) ∧ (bt x j = true → (upd lo _ _ j = fl j ∧ vp_updL cu _ _ j = fr j) ∨ (upd lo _ _ j = fl j + 1 ∧ vp_updL cu _ _ j = -1 ∧ 0 < fr j))
    by_cases e : j = am cu 16
    · rw [e, pk_us, pk_uLs]
      refine ⟨fun z => (by rw [hb] at z; cases z), fun _ => Or.inr ⟨congrArg (· + 1) ha.1, rfl, (by rw [← ha.2]; exact hc)⟩⟩
    · rw [pk_un e, pk_uLn e]
      exact h j hj
  · show smL (upd lo _ _) 16 = _
    rw [smL_set _ _ _ 16 hc16]
    grind
theorem gvn_in {x : Int32} {fl : Nat → Int32} {fr : Nat → Int64} {lo : Nat → Int32} {cu : Nat → Int64} (h : gIn x fl fr (lo, cu)) : ∀ t, t ≤ cnP cu 16 → gIn x fl fr (gvn (lo, cu) t) ∧ cnP (gvn (lo, cu) t).2 16 + t = cnP cu 16 ∧ smL (gvn (lo, cu) t).1 16 = smL lo 16 + nI t
  | 0, _ => ⟨h, rfl, by show smL lo 16 = smL lo 16 + nI 0; rw [nI_0, Int32.add_zero]⟩
  | t + 1, ht => by
    obtain ⟨a, b, c⟩ := gvn_in h t (by omega)
    have e : gvn (lo, cu) (t + 1) = gv ((gvn (lo, cu) t).1, (gvn (lo, cu) t).2) := rfl
    obtain ⟨a', b', c'⟩ := gv_in (lo := (gvn (lo, cu) t).1) (cu := (gvn (lo, cu) t).2) a (by omega)
    rw [e]
    refine ⟨a', by omega, ?_⟩
    rw [c', c, ← nI_1 t]
    grind
theorem rl_sum {P K H : Nat → Int32} {x w : Int32} {q : Int64 × Int64 × Int64} (cu : Nat → Int64) : ∀ i, smL (rl P K H x w q (fun _ => 0) cu i).2.1 i + (rl P K H x w q (fun _ => 0) cu i).1 = w
  | 0 => by
    show (0 : Int32) + w = w
    rw [Int32.zero_add]
  | i + 1 => by
    have ih := rl_sum (P := P) (K := K) (H := H) (x := x) (w := w) (q := q) cu i
    have hz := rl_lo0 (P := P) (K := K) (H := H) (x := x) (w := w) (q := q) cu i i (Nat.le_refl _)
    by_cases hb : bt x i = true
    · rw [rl_t hb, smL]
      dsimp only
      rw [pk_us, smL_cg (g := (rl P K H x w q (fun _ => 0) cu i).2.1) i (fun j hj => pk_un (by omega))]
      generalize (rl P K H x w q (fun _ => 0) cu i).1 = r at ih ⊢
      generalize smL (rl P K H x w q (fun _ => 0) cu i).2.1 i = s at ih ⊢
      generalize ((K i).toInt64 * (q.1 + q.2.1 * (P i).toInt64 + q.2.2 * (H i).toInt64) / q.2.2).toInt32 = v
      rw [← ih]
      grind
    · rw [rl_f (by simpa using hb), smL]
      dsimp only
      rw [hz, Int32.add_zero]
      exact ih
/-- a sum, divided place by place, and what is left -/
theorem zs_mod {x : Int32} {f : Nat → Int} {d : Int} : ∀ n, zs x f n = d * zs x (fun i => f i / d) n + zs x (fun i => f i % d) n
  | 0 => by simp [zs]
  | n + 1 => by
    have ih := zs_mod (x := x) (f := f) (d := d) n
    by_cases hb : bt x n = true
    · simp only [zs, hb, if_true]
      have e1 := Int.mul_ediv_add_emod (f n) d
      rw [Int.mul_add]
      omega
    · have hb : bt x n = false := by simpa using hb
      simp only [zs, hb]
      simpa using ih
theorem zs_ind {x : Int32} {f : Nat → Int} {d : Int} (hd : 0 < d) : ∀ n, zs x (fun i => f i % d) n ≤ d * zs x (fun i => if 0 < f i % d then 1 else 0) n
  | 0 => by simp [zs]
  | n + 1 => by
    have ih := zs_ind (x := x) (f := f) hd n
    by_cases hb : bt x n = true
    · simp only [zs, hb, if_true]
      have e2 := Int.emod_nonneg (f n) (show d ≠ 0 by omega)
      have e3 := Int.emod_lt_of_pos (f n) hd
      rw [Int.mul_add]
      split
      · omega
      · omega
    · have hb : bt x n = false := by simpa using hb
      simp only [zs, hb]
      simpa using ih
theorem cnP_zs {x : Int32} {cu : Nat → Int64} {f : Nat → Int} : ∀ k, (∀ j, j < k → (bt x j = true → (0 < cu j ↔ 0 < f j)) ∧ (bt x j = false → cu j < 0)) → (cnP cu k : Int) = zs x (fun j => if 0 < f j then 1 else 0) k
  | 0, _ => rfl
  | k + 1, h => by
    have ih := cnP_zs k (fun j hj => h j (by omega))
    rw [cnP]
    by_cases hb : bt x k = true
    · simp only [zs, hb, if_true]
      have e := (h k (by omega)).1 hb
      by_cases hc : 0 < cu k
      · rw [if_pos hc, if_pos (e.mp hc)]
        push_cast
        omega
      · rw [if_neg hc, if_neg (fun z => hc (e.mpr z))]
        push_cast
        omega
    · have hb : bt x k = false := by simpa using hb
      have e := (h k (by omega)).2 hb
      rw [if_neg (by rw [Int64.lt_iff_toInt_lt] at e ⊢; omega)]
      simp only [zs, hb]
      simpa using ih
theorem frac_int {P K H : Nat → Int32} {w c x : Int32} {n : Nat} {q : Int64 × Int64 × Int64} (h : zSt P K H w c x n q) {i : Nat} (hi : i < n) (hb : bt x i = true) : (f64 P K H q i - f64 P K H q i / q.2.2 * q.2.2).toInt = fz P K H q i % q.2.2.toInt := by
  obtain ⟨g1, g2, g3, g4, g5⟩ := q_int h
  obtain ⟨f1, f2, f3⟩ := f_int h hi hb
  obtain ⟨v1, v2, v3, v4⟩ := v_int h hi hb
  have e2 := Int.mul_ediv_add_emod (fz P K H q i) q.2.2.toInt
  have e3 := Int.emod_nonneg (fz P K H q i) (show q.2.2.toInt ≠ 0 by omega)
  have dv : (f64 P K H q i / q.2.2).toInt = fz P K H q i / q.2.2.toInt := by
    rw [Int64.toInt_div, f1, Int.tdiv_eq_ediv_of_nonneg (by omega)]
    exact bm64 (by omega) (by omega)
  have t0 := mulp (a := q.2.2.toInt) (b := fz P K H q i / q.2.2.toInt) (by omega) v2
  have m1 : (f64 P K H q i / q.2.2 * q.2.2).toInt = q.2.2.toInt * (fz P K H q i / q.2.2.toInt) := by
    rw [i64m (by rw [dv, Int.mul_comm]; omega) (by rw [dv, Int.mul_comm]; omega), dv, Int.mul_comm]
  rw [i64s (by rw [m1, f1]; omega) (by rw [m1, f1]; omega), m1, f1]
  omega
/-- the loads of a ship that stands: each is its force within 1, and they make the weight -/
theorem ld_in {P K H : Nat → Int32} {w c x : Int32} {n : Nat} {q : Int64 × Int64 × Int64} (h : zSt P K H w c x n q) : gIn x (fun j => (f64 P K H q j / q.2.2).toInt32) (fun j => f64 P K H q j - f64 P K H q j / q.2.2 * q.2.2) (ldS P K H x w q (fun _ => 0)) ∧ smL (ldS P K H x w q (fun _ => 0)).1 16 = w := by
  have hlt : ∀ j, j < 16 → bt x j = true → j < n := by
    intro j hj hb
    refine Nat.lt_of_not_le fun z => ?_
    rw [h.2.2.2.1 j z (by omega)] at hb
    cases hb
  have hn : n ≤ 16 := h.2.2.2.2.2.2.2
  have h0 : gIn x (fun j => (f64 P K H q j / q.2.2).toInt32) (fun j => f64 P K H q j - f64 P K H q j / q.2.2 * q.2.2) ((rl P K H x w q (fun _ => 0) (fun _ => 0) 16).2.1, (rl P K H x w q (fun _ => 0) (fun _ => 0) 16).2.2) := by
    intro j hj
    obtain ⟨a, b⟩ := rl_at (P := P) (K := K) (H := H) (x := x) (w := w) (q := q) (lo := fun _ => 0) (cu := fun _ => 0) 16 j hj
    refine ⟨fun hb => ⟨(b hb).1, by show (rl P K H x w q (fun _ => 0) (fun _ => 0) 16).2.2 j < 0; rw [(b hb).2]; decide⟩, fun hb => Or.inl (a hb)⟩
  obtain ⟨g1, g2, g3, g4, g5⟩ := q_int h
  obtain ⟨l1, l2⟩ := left_int h (fun _ => 0) (fun _ => 0)
  have hcn := zs_cnt x n
  have hP : (cnP (rl P K H x w q (fun _ => 0) (fun _ => 0) 16).2.2 16 : Int) = zs x (fun j => if 0 < fz P K H q j % q.2.2.toInt then 1 else 0) 16 := by
    refine cnP_zs 16 fun j hj => ?_
    obtain ⟨a, b⟩ := rl_at (P := P) (K := K) (H := H) (x := x) (w := w) (q := q) (lo := fun _ => 0) (cu := fun _ => 0) 16 j hj
    refine ⟨fun hb => ?_, fun hb => by rw [(b hb).2]; decide⟩
    rw [(a hb).2, Int64.lt_iff_toInt_lt, frac_int h (hlt j hj hb) hb]
    have z : (0 : Int64).toInt = 0 := by decide
    rw [z]
  have hz := zs_hi (f := fun j => if 0 < fz P K H q j % q.2.2.toInt then (1 : Int) else 0) h.2.2.2.1 (16 - n) (by omega)
  rw [show n + (16 - n) = 16 by omega] at hz
  obtain ⟨r1, r2, r3⟩ := rest_int h (fun _ => 0) (fun _ => 0) n (Nat.le_refl _)
  have er := (rl_hi (P := P) (K := K) (H := H) (w := w) (q := q) (lo := fun _ => 0) (cu := fun _ => 0) h.2.2.2.1 (16 - n) (by omega)).1
  rw [show n + (16 - n) = 16 by omega] at er
  have zm := zs_mod (x := x) (f := fz P K H q) (d := q.2.2.toInt) n
  have zi := zs_ind (x := x) (f := fz P K H q) g1 n
  rw [g5] at zm
  have hle : (rl P K H x w q (fun _ => 0) (fun _ => 0) 16).1.toInt ≤ zs x (fun j => if 0 < fz P K H q j % q.2.2.toInt then (1 : Int) else 0) n := by
    rw [er, r1]
    refine Int.le_of_mul_le_mul_left (a := q.2.2.toInt) ?_ g1
    rw [Int.mul_sub]
    omega
  have hg : giv (rl P K H x w q (fun _ => 0) (fun _ => 0) 16).1 ≤ cnP (rl P K H x w q (fun _ => 0) (fun _ => 0) 16).2.2 16 := by
    unfold giv Int32.toNatClampNeg
    omega
  obtain ⟨a, -, b⟩ := gvn_in h0 _ hg
  refine ⟨a, ?_⟩
  show smL (gvn _ _).1 16 = w
  have hgr : nI (giv (rl P K H x w q (fun _ => 0) (fun _ => 0) 16).1) = (rl P K H x w q (fun _ => 0) (fun _ => 0) 16).1 := by
    have e0 : giv (rl P K H x w q (fun _ => 0) (fun _ => 0) 16).1 = (rl P K H x w q (fun _ => 0) (fun _ => 0) 16).1.toNatClampNeg := by
      refine ldG ?_
      unfold Int32.toNatClampNeg
      omega
    rw [e0]
    exact (x_nat (by rw [Int32.le_iff_toInt_le, i32_0]; exact l1)).symm
  rw [b, hgr]
  exact rl_sum _ 16
theorem mLo_s {m : Nat → Int32} {n : Nat} (hR : (mR m n).1 = true) : mLo m n = (ldS (mP m) (mK m) (mH m) (mR m n).2.2.1 (m 0) (mR m n).2.2.2 (fun _ => 0)).1 := by
  unfold mLo
  rw [if_pos hR]
theorem so_sum {m : Nat → Int32} {n : Nat} (hn : n ≤ 16) (hV : mVal m n) (hR : (mR m n).1 = true) : smL (mLo m n) n = m 0 := by
  have h := (ld_in (mVal_zSt hn hV hR)).2
  rw [← mLo_s hR] at h
  have e := smL_up (f := mLo m n) (n := n) (16 - n) (fun j h1 h2 => mLo_z hn hV j h1 (by omega))
  rw [show n + (16 - n) = 16 by omega] at e
  rw [← e]
  exact h
theorem so_sum0 {m : Nat → Int32} {n : Nat} (hn : n ≤ 16) (hV : mVal m n) (hR : (mR m n).1 = false) : smL (mLo m n) n = 0 :=
  smL_0 n (fun j hj => (mLo_off hn hV).1 j (by omega) (fun z => by rw [hR] at z; cases z))
theorem so_l {m : Nat → Int32} {n i : Nat} (hn : n ≤ 16) (hV : mVal m n) (hi : i < n) (h : bea m n i = true) : (mLo m n i).toInt64 * mBa m n 2 - frc m n i < mBa m n 2 ∧ frc m n i - (mLo m n i).toInt64 * mBa m n 2 < mBa m n 2 := by
  obtain ⟨hR, hb⟩ := bea_R h
  obtain ⟨e1, e2, e3⟩ := mBa_s hR
  have hz := mVal_zSt hn hV hR
  obtain ⟨g1, g2, g3, g4, g5⟩ := q_int hz
  obtain ⟨f1, f2, f3⟩ := f_int hz hi hb
  obtain ⟨v1, v2, v3, v4⟩ := v_int hz hi hb
  have fi := frac_int hz hi hb
  have ef : frc m n i = f64 (mP m) (mK m) (mH m) (mR m n).2.2.2 i := by
    unfold frc prs
    rw [e1, e2, e3, Int64.mul_comm]
  have em := Int.mul_ediv_add_emod (fz (mP m) (mK m) (mH m) (mR m n).2.2.2 i) (mR m n).2.2.2.2.2.toInt
  have em0 := Int.emod_nonneg (fz (mP m) (mK m) (mH m) (mR m n).2.2.2 i) (show (mR m n).2.2.2.2.2.toInt ≠ 0 by omega)
  have em1 := Int.emod_lt_of_pos (fz (mP m) (mK m) (mH m) (mR m n).2.2.2 i) g1
  have hl := ((ld_in hz).1 i (by omega)).2 hb
  rw [← mLo_s hR] at hl
  rw [ef, e3]
  have key : ∀ L : Int, (mLo m n i).toInt = L → 0 ≤ L → L ≤ 100001 → -(mR m n).2.2.2.2.2.toInt < (mR m n).2.2.2.2.2.toInt * L - fz (mP m) (mK m) (mH m) (mR m n).2.2.2 i → (mR m n).2.2.2.2.2.toInt * L - fz (mP m) (mK m) (mH m) (mR m n).2.2.2 i < (mR m n).2.2.2.2.2.toInt → (mLo m n i).toInt64 * (mR m n).2.2.2.2.2 - f64 (mP m) (mK m) (mH m) (mR m n).2.2.2 i < (mR m n).2.2.2.2.2 ∧ f64 (mP m) (mK m) (mH m) (mR m n).2.2.2 i - (mLo m n i).toInt64 * (mR m n).2.2.2.2.2 < (mR m n).2.2.2.2.2 := by
    intro L hL L0 L1 k1 k2
    have t := mulb (a := L) (b := (mR m n).2.2.2.2.2.toInt) (A := 100001) (B := 819200000000) (by omega) (by omega) (by omega) (by omega)
    have m1 : ((mLo m n i).toInt64 * (mR m n).2.2.2.2.2).toInt = (mR m n).2.2.2.2.2.toInt * L := by
      rw [i64m (by rw [Int32.toInt_toInt64, hL]; omega) (by rw [Int32.toInt_toInt64, hL]; omega), Int32.toInt_toInt64, hL, Int.mul_comm]
    rw [Int.mul_comm] at t
    refine ⟨?_, ?_⟩
    · rw [Int64.lt_iff_toInt_lt, i64s (by rw [m1, f1]; omega) (by rw [m1, f1]; omega), m1, f1]
      exact k2
    · rw [Int64.lt_iff_toInt_lt, i64s (by rw [m1, f1]; omega) (by rw [m1, f1]; omega), m1, f1]
      omega
  rcases hl with ⟨a, -⟩ | ⟨a, -, b⟩
  · have a : mLo m n i = (f64 (mP m) (mK m) (mH m) (mR m n).2.2.2 i / (mR m n).2.2.2.2.2).toInt32 := a
    exact key _ (by rw [a]; exact v1) v2 (by omega) (by omega) (by omega)
  · have a : mLo m n i = (f64 (mP m) (mK m) (mH m) (mR m n).2.2.2 i / (mR m n).2.2.2.2.2).toInt32 + 1 := a
    have b : 0 < f64 (mP m) (mK m) (mH m) (mR m n).2.2.2 i - f64 (mP m) (mK m) (mH m) (mR m n).2.2.2 i / (mR m n).2.2.2.2.2 * (mR m n).2.2.2.2.2 := b
    have b' := l0 b
    rw [fi] at b'
    refine key (fz (mP m) (mK m) (mH m) (mR m n).2.2.2 i / (mR m n).2.2.2.2.2.toInt + 1) ?_ (by omega) (by omega) ?_ ?_
    · rw [a, Int32.toInt_add, v1, show (1 : Int32).toInt = 1 by decide]
      exact bm32 (by omega) (by omega)
    · rw [Int.mul_add]
      omega
    · rw [Int.mul_add]
      omega
/-! forces and moments come out even -/
theorem sm_F {m : Nat → Int32} {n : Nat} (hR : (mR m n).1 = true) : ∀ i, fSm m n i = mBa m n 0 * (sm (mP m) (mK m) (mH m) (mR m n).2.2.1 (m 0) (m 1) i).1 + mBa m n 1 * (sm (mP m) (mK m) (mH m) (mR m n).2.2.1 (m 0) (m 1) i).2.1 + mBa m n 2 * ((m 0).toInt64 - (sm (mP m) (mK m) (mH m) (mR m n).2.2.1 (m 0) (m 1) i).2.2.2.1) ∧ gSm m n i = mBa m n 0 * (sm (mP m) (mK m) (mH m) (mR m n).2.2.1 (m 0) (m 1) i).2.1 + mBa m n 1 * (sm (mP m) (mK m) (mH m) (mR m n).2.2.1 (m 0) (m 1) i).2.2.1 + mBa m n 2 * ((m 0).toInt64 * (m 1).toInt64 - (sm (mP m) (mK m) (mH m) (mR m n).2.2.1 (m 0) (m 1) i).2.2.2.2)
  | 0 => by
    show (0 : Int64) = mBa m n 0 * 0 + mBa m n 1 * 0 + mBa m n 2 * ((m 0).toInt64 - (m 0).toInt64) ∧ (0 : Int64) = mBa m n 0 * 0 + mBa m n 1 * 0 + mBa m n 2 * ((m 0).toInt64 * (m 1).toInt64 - (m 0).toInt64 * (m 1).toInt64)
    constructor <;> grind
  | i + 1 => by
    obtain ⟨h1, h2⟩ := sm_F hR i
    by_cases hb : bt (mR m n).2.2.1 i = true
    · have hbe : bea m n i = true := by unfold bea; rw [hR, hb]; rfl
      rw [sm_t hb, fSm, gSm, if_pos hbe, if_pos hbe, h1, h2]
      unfold frc prs
      dsimp only
      generalize (sm (mP m) (mK m) (mH m) (mR m n).2.2.1 (m 0) (m 1) i).1 = s0
      generalize (sm (mP m) (mK m) (mH m) (mR m n).2.2.1 (m 0) (m 1) i).2.1 = s1
      generalize (sm (mP m) (mK m) (mH m) (mR m n).2.2.1 (m 0) (m 1) i).2.2.1 = s2
      generalize (sm (mP m) (mK m) (mH m) (mR m n).2.2.1 (m 0) (m 1) i).2.2.2.1 = s3
      generalize (sm (mP m) (mK m) (mH m) (mR m n).2.2.1 (m 0) (m 1) i).2.2.2.2 = s4
      generalize (mP m i).toInt64 = p
      generalize (mK m i).toInt64 = k
      generalize (mH m i).toInt64 = g
      generalize (m 0).toInt64 = w
      generalize (m 1).toInt64 = c
      generalize mBa m n 0 = a
      generalize mBa m n 1 = b
      generalize mBa m n 2 = d
      constructor <;> grind
    · have hbf : bt (mR m n).2.2.1 i = false := by simpa using hb
      have hbe : ¬ bea m n i = true := by unfold bea; rw [hR, hbf]; decide
      rw [sm_f hbf, fSm, gSm, if_neg hbe, if_neg hbe, Int64.add_zero, Int64.add_zero]
      exact ⟨h1, h2⟩
theorem so_F {m : Nat → Int32} {n : Nat} (hn : n ≤ 16) (hV : mVal m n) (hR : (mR m n).1 = true) : fSm m n n = mBa m n 2 * (m 0).toInt64 ∧ gSm m n n = mBa m n 2 * (m 0).toInt64 * (m 1).toInt64 := by
  obtain ⟨h1, h2⟩ := sm_F hR n
  have hq := (mVal_zSt hn hV hR).1
  obtain ⟨e1, e2, e3⟩ := mBa_s hR
  have a : mBa m n 0 = soA (sm (mP m) (mK m) (mH m) (mR m n).2.2.1 (m 0) (m 1) n) := by rw [e1, hq]; rfl
  have b : mBa m n 1 = soB (sm (mP m) (mK m) (mH m) (mR m n).2.2.1 (m 0) (m 1) n) := by rw [e2, hq]; rfl
  have d : mBa m n 2 = soD (sm (mP m) (mK m) (mH m) (mR m n).2.2.1 (m 0) (m 1) n) := by rw [e3, hq]; rfl
  rw [h1, h2, a, b, d]
  unfold soA soB soD
  generalize (sm (mP m) (mK m) (mH m) (mR m n).2.2.1 (m 0) (m 1) n).1 = s0
  generalize (sm (mP m) (mK m) (mH m) (mR m n).2.2.1 (m 0) (m 1) n).2.1 = s1
  generalize (sm (mP m) (mK m) (mH m) (mR m n).2.2.1 (m 0) (m 1) n).2.2.1 = s2
  generalize (sm (mP m) (mK m) (mH m) (mR m n).2.2.1 (m 0) (m 1) n).2.2.2.1 = s3
  generalize (sm (mP m) (mK m) (mH m) (mR m n).2.2.1 (m 0) (m 1) n).2.2.2.2 = s4
  generalize (m 0).toInt64 = w
  generalize (m 1).toInt64 = c
  constructor <;> grind
/-! two blocks bear at least -/
theorem sm_few {P K H : Nat → Int32} {x w c : Int32} : ∀ k, (cbN x k = 0 → (sm P K H x w c k).1 = 0 ∧ (sm P K H x w c k).2.1 = 0 ∧ (sm P K H x w c k).2.2.1 = 0) ∧ (cbN x k = 1 → ∃ a p : Int64, (sm P K H x w c k).1 = a ∧ (sm P K H x w c k).2.1 = a * p ∧ (sm P K H x w c k).2.2.1 = a * p * p)
  | 0 => ⟨fun _ => ⟨rfl, rfl, rfl⟩, fun h => by simp [cbN] at h⟩
  | k + 1 => by
    obtain ⟨h0, h1⟩ := sm_few (P := P) (K := K) (H := H) (x := x) (w := w) (c := c) k
    by_cases hb : bt x k = true
    · rw [sm_t hb, cbN, if_pos hb]
      refine ⟨fun h => by omega, fun h => ?_⟩
      obtain ⟨a, b, d⟩ := h0 (by omega)
      dsimp only
      rw [a, b, d]
      exact ⟨(K k).toInt64, (P k).toInt64, Int64.zero_add _, Int64.zero_add _, Int64.zero_add _⟩
    · rw [sm_f (by simpa using hb), cbN, if_neg hb]
      exact ⟨h0, h1⟩
theorem so_two {m : Nat → Int32} {n : Nat} (hn : n ≤ 16) (hV : mVal m n) (hR : (mR m n).1 = true) : ¬ cntI (mBe m n) n ≤ 1 := by
  have hz := mVal_zSt hn hV hR
  have eB : mBe m n = (mR m n).2.2.1 := by unfold mBe; rw [if_pos hR]
  rw [eB, cntI_N]
  intro h
  have hle := cbN_le (mR m n).2.2.1 n
  have h1 : cbN (mR m n).2.2.1 n ≤ 1 := (nI_leI (b := 1) (by omega) (by decide)).mp h
  obtain ⟨f0, f1⟩ := sm_few (P := mP m) (K := mK m) (H := mH m) (x := (mR m n).2.2.1) (w := m 0) (c := m 1) n
  have hd : 0 < (mR m n).2.2.2.2.2 := hz.2.1
  have eD : (mR m n).2.2.2.2.2 = soD (sm (mP m) (mK m) (mH m) (mR m n).2.2.1 (m 0) (m 1) n) := by rw [hz.1]; rfl
  have e0 : soD (sm (mP m) (mK m) (mH m) (mR m n).2.2.1 (m 0) (m 1) n) = 0 := by
    unfold soD
    by_cases hc : cbN (mR m n).2.2.1 n = 0
    · obtain ⟨a, b, d⟩ := f0 hc
      rw [a, b, d]
      decide
    · obtain ⟨a, p, g1, g2, g3⟩ := f1 (by omega)
      rw [g1, g2, g3]
      grind
  rw [eD, e0] at hd
  exact absurd hd (by decide)
/-! the rounds -/
theorem fb_rd {f : Int32 → Int64 × Int64 × Int64} {g : Int64 × Int64 × Int64 → Int32} : ∀ (k r : Nat) (x : Int32) (q : Int64 × Int64 × Int64), r + 1 ≤ (fb f g (k + 1) r x q).2.1 ∧ (fb f g (k + 1) r x q).2.1 ≤ r + (k + 1)
  | 0, r, x, q => by
    rw [fb]
    split
    · exact ⟨Nat.le_refl _, Nat.le_refl _⟩
    · split
      · exact ⟨Nat.le_refl _, Nat.le_refl _⟩
      · exact ⟨Nat.le_refl _, Nat.le_refl _⟩
  | k + 1, r, x, q => by
    rw [fb]
    split
    · dsimp only; omega
    · split
      · dsimp only; omega
      · have := fb_rd (f := f) (g := g) k (r + 1) (g (f x)) (f x)
        omega
theorem so_rd (m : Nat → Int32) (n : Nat) : 1 ≤ (mR m n).2.1 ∧ (mR m n).2.1 ≤ 30 := by
  have := fb_rd (f := sol (mP m) (mK m) (mH m) (m 0) (m 1) n) (g := fun q => nx (mP m) (mH m) (stb (mT m) 0 n) q n) 29 0 (stb (mT m) 0 n) (0, 0, 0)
  exact ⟨this.1, by have := this.2; show (fb _ _ 30 0 _ _).2.1 ≤ 30; omega⟩
theorem so_rd1 (m : Nat → Int32) (n : Nat) : ¬ nI (mR m n).2.1 ≤ 0 := nI_nle (so_rd m n).1 (by have := (so_rd m n).2; omega)
theorem so_rd2 (m : Nat → Int32) (n : Nat) : ¬ (31 : Int32) ≤ nI (mR m n).2.1 := by
  have h := so_rd m n
  exact nI_ge (b := 31) (by omega) (by decide)
/-! the heaviest block, found from the front -/
theorem top_s {lo : Nat → Int32} (sb : Bool) {i : Nat} (hi : i < 16) : hvy sb lo (i + 1) = if sb = true ∧ (hvy sb lo i < 0 ∨ gre sb lo i < lo i) then nI i else hvy sb lo i := by
  cases sb with
  | false => rw [if_neg (by rintro ⟨z, -⟩; cases z)]; rfl
  | true =>
    show hvI lo (i + 1) = if true = true ∧ (hvI lo i < 0 ∨ gre true lo i < lo i) then nI i else hvI lo i
    by_cases h0 : i = 0
    · subst h0
      rw [if_pos ⟨rfl, Or.inl (by unfold hvI; rw [if_pos rfl]; decide)⟩, hvI_1]
    · have hp : 0 < i := by omega
      have e : hvI lo i = nI (amI lo i) := by rw [hvI, if_neg h0]
      have hl := amI_lt lo i
      have eg : gre true lo i = lo (amI lo i) := by unfold gre; rw [if_pos ⟨rfl, hp⟩]
      rw [eg]
      by_cases hlt : lo (amI lo i) < lo i
      · rw [if_pos ⟨rfl, Or.inr hlt⟩, hvI_t hp hlt]
      · rw [if_neg, hvI_f hp hlt]
        rintro ⟨-, z | z⟩
        · rw [e] at z
          exact nI_pos (by omega) z
        · exact hlt z
theorem mos_s {lo : Nat → Int32} (sb : Bool) {i : Nat} (hi : i < 16) : gre sb lo (i + 1) = if sb = true ∧ hvy sb lo (i + 1) = nI i then lo i else gre sb lo i := by
  cases sb with
  | false =>
    rw [if_neg (by rintro ⟨z, -⟩; cases z)]
    unfold gre
    rw [if_neg (by rintro ⟨z, -⟩; cases z), if_neg (by rintro ⟨z, -⟩; cases z)]
  | true =>
    have eg : gre true lo (i + 1) = lo (amI lo (i + 1)) := by unfold gre; rw [if_pos ⟨rfl, by omega⟩]
    have eh : hvy true lo (i + 1) = nI (amI lo (i + 1)) := by
      show hvI lo (i + 1) = _
      rw [hvI, if_neg (by omega)]
    have hl1 := amI_lt lo (i + 1)
    rw [eg, eh]
    by_cases e : amI lo (i + 1) = i
    · rw [if_pos ⟨rfl, by rw [e]⟩, e]
    · rw [if_neg (fun z => e ((nI_eq (by omega) (by omega)).mp z.2))]
      have h0 : 0 < i := by
        rcases Nat.eq_zero_or_pos i with z | z
        · subst z
          exact absurd (amI_1 lo) e
        · exact z
      have ea : amI lo (i + 1) = amI lo i := by
        by_cases hlt : lo (amI lo i) < lo i
        · exact absurd (amI_t hlt) e
        · exact amI_f hlt
      rw [ea]
      unfold gre
      rw [if_pos ⟨rfl, h0⟩]
/-! doubles that are the same -/
theorem fp_ord {d : Jvm.FP.Core.Datum} (h : d ≠ .nan) : Jvm.FP.Core.order d d = some .eq := by
  cases d with
  | nan => exact absurd rfl h
  | inf s =>
    unfold Jvm.FP.Core.order
    exact congrArg some (Int.compare_eq_eq.mpr rfl)
  | fin s c q =>
    unfold Jvm.FP.Core.order
    exact congrArg some (Int.compare_eq_eq.mpr rfl)
theorem fp_dnan {n : Nat} (h : n % 9223372036854775808 ≤ 9218868437227405312) : Jvm.FP.Core.decode Jvm.FP.Core.b64 n ≠ .nan := by
  unfold Jvm.FP.Core.decode
  split
  · rename_i hE
    split
    · exact fun z => by cases z
    · rename_i hT
      exfalso
      unfold Jvm.FP.Core.fieldE at hE
      unfold Jvm.FP.Core.fieldT at hT
      rw [fp_t] at hT
      rw [fp_t, fp_e] at hE
      omega
  · split
    · exact fun z => by cases z
    · exact fun z => by cases z
theorem fp_same {y : UInt64} (h : vf_n64 y) : FP.dcmp y y = some .eq := by
  show Jvm.FP.Core.order (Jvm.FP.Core.decode Jvm.FP.Core.b64 y.toNat) (Jvm.FP.Core.decode Jvm.FP.Core.b64 y.toNat) = some .eq
  refine fp_ord (fp_dnan ?_)
  unfold vf_n64 at h
  rw [UInt64.le_iff_toNat_le, UInt64.toNat_and] at h
  have e : (0x7fffffffffffffff : UInt64).toNat = 2 ^ 63 - 1 := by decide +kernel
  rw [e, Nat.and_two_pow_sub_one_eq_mod] at h
  exact h
/-- the tilt is the quotient of the two numbers that the balance tells -/
theorem so_ti {m : Nat → Int32} {n : Nat} (hR : (mR m n).1 = true) : FP.dcmp (mTi m n) (FP.ddiv (FP.l2d (mBa m n 1)) (FP.l2d (mBa m n 2))) = some .eq := by
  obtain ⟨e1, e2, e3⟩ := mBa_s hR
  unfold mTi
  rw [if_pos hR, e2, e3]
  exact fp_same (fp_div (mTi_d hR))
theorem so_tn {m : Nat → Int32} {n : Nat} (hn : n ≤ 16) (hV : mVal m n) (hR : (mR m n).1 = true) : (mBa m n 2).toInt ≠ 0 := by
  rw [(mBa_s hR).2.2]
  exact mTi_d hR
theorem so_t0 {m : Nat → Int32} {n : Nat} (hR : (mR m n).1 = false) : FP.dcmp (mTi m n) FP.dconst0 = some .eq := by
  unfold mTi
  rw [if_neg (by rw [hR]; decide)]
  decide +kernel
