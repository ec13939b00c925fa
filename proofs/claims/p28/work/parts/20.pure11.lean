theorem j_iincW {D : KD} {X : KX} {cc : ByteArray} {own : String} {Ts : List Cond} {fr lo mc ms nL : Nat} {w : va_W} {k n pc : Nat} {lv : List (Nat × Value)} {st : List Value} (C : Cx D X cc own Ts fr lo mc ms nL) {i : Nat} {d : Int} {x v : Int32} {lv' : List (Nat × Value)} (j : Nat) (hd : decode cc pc = .ok (.iinc i d, 6)) (hj : lv[j]? = some (i, .int x)) (hv : x + Int32.ofInt d = v) (hn : i < nL) (hl' : lv_p1 lv i (.int v) = lv') (kk : J D X w k n (pc + 6) lv' st) : J D X w k n pc lv st := fun H locs ls hP hD hS hl => lv_iincW C.hx C.hb hd hl hj hv (by rw [C.hn]; exact hn) hl' (fun ls' hl2 => kk H locs ls' hP hD hS hl2)
theorem mSf_t {m : Nat → Int32} {n : Nat} (h : (mR m n).1 = true) (h2 : mOv m n = 0) : mSf m n = true := by unfold mSf; rw [h, h2]; rfl
theorem mSf_f1 {m : Nat → Int32} {n : Nat} (h : (mR m n).1 = false) : mSf m n = false := by unfold mSf; rw [h]; rfl
theorem mSf_f2 {m : Nat → Int32} {n : Nat} (h : ¬ mOv m n = 0) : mSf m n = false := by unfold mSf; rw [decide_eq_false h, Bool.and_false]
theorem mUp_20 (m : Nat → Int32) (v : Int32) : mUp m 0 v 2 = m 2 := pk_un (by omega)
theorem mUp_21 (m : Nat → Int32) (v : Int32) : mUp m 1 v 2 = m 2 := pk_un (by omega)
def mSs (m : Nat → Int32) (n : Nat) : Int32 := if mSf (shv n 100 m 0).1 n = true then (shv n 100 m 0).2 else -1000 - (shv n 100 m 0).2
/-- a saved page -/
def svP (sv : Nat → Int32) (s : Nat) : Nat → Int32 := fun j => sv (99 * s + j)
def dgI (f : Nat → Int64) (h : Int64) : Nat → Int64
  | 0 => h
  | k + 1 => 31 * dgI f h k + f k
def mDg (m : Nat → Int32) (n : Nat) (tl sc : Int32) : Int64 := 31 * dgI (fun k => (mBl m n (k / 9) (k % 9)).toInt64) (dgI (fun k => mBa m n k) (dgI (fun k => (mVl m n k).toInt64) (31 * 3433 + tl.toInt64) 10) 3) (9 * n) + sc.toInt64
theorem dv9 : ∀ k, k < 144 → nI k / 9 = nI (k / 9) := by decide +kernel
theorem rm9 : ∀ k, k < 144 → nI k - nI k / 9 * 9 = nI (k % 9) := by decide +kernel
theorem shv_2 (n : Nat) : ∀ (f : Nat) (m : Nat → Int32) (s : Int32), (shv n f m s).1 2 = m 2
  | 0, _, _ => rfl
  | f + 1, m, s => by
    by_cases h : mNs m n = -1 ∨ mH m (mNs m n).toNatClampNeg ≤ -50
    · rw [shv_0 h]
    · rw [shv_s h, shv_2 n f, shp_2]
theorem fal_2 (n : Nat) : ∀ (f : Nat) (m : Nat → Int32) (s c : Int32), (fal n f m s c).1 2 = m 2
  | 0, _, _, _ => rfl
  | f + 1, m, s, c => by
    by_cases h : mOv m n = 0
    · rw [fal_0 h]
    · rw [fal_s h, fal_2 n f, crk_2]
