theorem j_iincW {D : KD} {X : KX} {cc : ByteArray} {own : String} {Ts : List Cond} {fr lo mc ms nL : Nat} {w : va_W} {k n pc : Nat} {lv : List (Nat × Value)} {st : List Value} (C : Cx D X cc own Ts fr lo mc ms nL) {i : Nat} {d : Int} {x v : Int32} {lv' : List (Nat × Value)} (j : Nat) (hd : decode cc pc = .ok (.iinc i d, 6)) (hj : lv[j]? = some (i, .int x)) (hv : x + Int32.ofInt d = v) (hn : i < nL) (hl' : lv_p1 lv i (.int v) = lv') (kk : J D X w k n (pc + 6) lv' st) : J D X w k n pc lv st := fun H locs ls hP hD hS hl => lv_iincW C.hx C.hb hd hl hj hv (by rw [C.hn]; exact hn) hl' (fun ls' hl2 => kk H locs ls' hP hD hS hl2)
theorem mSf_t {m : Nat → Int32} {n : Nat} (h : (mR m n).1 = true) (h2 : mOv m n = 0) : mSf m n = true := by unfold mSf; rw [h, h2]; rfl
theorem mSf_f1 {m : Nat → Int32} {n : Nat} (h : (mR m n).1 = false) : mSf m n = false := by unfold mSf; rw [h]; rfl
theorem mSf_f2 {m : Nat → Int32} {n : Nat} (h : ¬ mOv m n = 0) : mSf m n = false := by unfold mSf; rw [decide_eq_false h, Bool.and_false]
theorem mUp_20 (m : Nat → Int32) (v : Int32) : mUp m 0 v 2 = m 2 := pk_un (by omega)
theorem mUp_21 (m : Nat → Int32) (v : Int32) : mUp m 1 v 2 = m 2 := pk_un (by omega)
def mSs (m : Nat → Int32) (n : Nat) : Int32 := if mSf (shv n 100 m 0).1 n = true then (shv n 100 m 0).2 else -1000 - (shv n 100 m 0).2
/-- a saved page -/
def svP (sv : Nat → Int32) (s : Nat) : Nat → Int32 := fun j => sv (99 * s + j)
def dgI (f : Nat → Int64) (h : Int64) : Nat → Int64
  | 0 => h
  | k + 1 => 31 * dgI f h k + f k
def mDg (m : Nat → Int32) (n : Nat) (tl sc : Int32) : Int64 := 31 * dgI (fun k => (mBl m n (k / 9) (k % 9)).toInt64) (dgI (fun k => mBa m n k) (dgI (fun k => (mVl m n k).toInt64) (31 * 3433 + tl.toInt64) 10) 3) (9 * n) + sc.toInt64
theorem dv9 : ∀ k, k < 144 → nI k / 9 = nI (k / 9) := by decide +kernel
theorem rm9 : ∀ k, k < 144 → nI k - nI k / 9 * 9 = nI (k % 9) := by decide +kernel
theorem shv_2 (n : Nat) : ∀ (f : Nat) (m : Nat → Int32) (s : Int32), (shv n f m s).1 2 = m 2
  | 0, _, _ => rfl
  | f + 1, m, s => by
    by_cases h : mNs m n = -1 ∨ mH m (mNs m n).toNatClampNeg ≤ -50
    · rw [shv_0 h]
    · rw [shv_s h, shv_2 n f, shp_2]
theorem fal_2 (n : Nat) : ∀ (f : Nat) (m : Nat → Int32) (s c : Int32), (fal n f m s c).1 2 = m 2
  | 0, _, _, _ => rfl
  | f + 1, m, s, c => by
    by_cases h : mOv m n = 0
    · rw [fal_0 h]
    · rw [fal_s h, fal_2 n f, crk_2]
theorem inX6_pullable_6 : ∀ w ∈ u_ws RX6 TX6 19, w ∈ wsX6_pullable := by decide +kernel
theorem foX6_pullable_29 : FO wsX6_pullable RX6 29 6 6 .int := ⟨RX6, TX6, 19, tyX6, rfl, inX6_pullable_6, by decide, by decide +kernel, tyX6_ok, nmX6, by decide +kernel, by decide +kernel⟩
theorem fgX6_pullable_7 : FG wsX6_pullable RX6 7 6 0 := ⟨RX6, TX6, 19, rfl, inX6_pullable_6, by decide, by decide +kernel⟩
theorem inX6_fallSteps_6 : ∀ w ∈ u_ws RX6 TX6 19, w ∈ wsX6_fallSteps := by decide +kernel
theorem fgX6_fallSteps_7 : FG wsX6_fallSteps RX6 7 6 0 := ⟨RX6, TX6, 19, rfl, inX6_fallSteps_6, by decide, by decide +kernel⟩
theorem fgX6_fallSteps_13 : FG wsX6_fallSteps RX6 13 6 1 := ⟨RX6, TX6, 19, rfl, inX6_fallSteps_6, by decide, by decide +kernel⟩
theorem inX6_cascadeSteps_6 : ∀ w ∈ u_ws RX6 TX6 19, w ∈ wsX6_cascadeSteps := by decide +kernel
theorem foX6_cascadeSteps_29 : FO wsX6_cascadeSteps RX6 29 6 6 .int := ⟨RX6, TX6, 19, tyX6, rfl, inX6_cascadeSteps_6, by decide, by decide +kernel, tyX6_ok, nmX6, by decide +kernel, by decide +kernel⟩
theorem mfX6_fallSteps : MF yX6_fallSteps wsX6_fallSteps cX6_fallSteps 2 (some .int) 0 := ⟨⟨_, rfl⟩, by decide +kernel, by decide +kernel, by decide +kernel⟩
theorem inX6_survives_6 : ∀ w ∈ u_ws RX6 TX6 19, w ∈ wsX6_survives := by decide +kernel
theorem foX6_survives_29 : FO wsX6_survives RX6 29 6 6 .int := ⟨RX6, TX6, 19, tyX6, rfl, inX6_survives_6, by decide, by decide +kernel, tyX6_ok, nmX6, by decide +kernel, by decide +kernel⟩
theorem fgX6_survives_78 : FG wsX6_survives RX6 78 6 9 := ⟨RX6, TX6, 19, rfl, inX6_survives_6, by decide, by decide +kernel⟩
theorem inX6_shavingSteps_6 : ∀ w ∈ u_ws RX6 TX6 19, w ∈ wsX6_shavingSteps := by decide +kernel
theorem foX6_shavingSteps_29 : FO wsX6_shavingSteps RX6 29 6 6 .int := ⟨RX6, TX6, 19, tyX6, rfl, inX6_shavingSteps_6, by decide, by decide +kernel, tyX6_ok, nmX6, by decide +kernel, by decide +kernel⟩
theorem fgX6_shavingSteps_7 : FG wsX6_shavingSteps RX6 7 6 0 := ⟨RX6, TX6, 19, rfl, inX6_shavingSteps_6, by decide, by decide +kernel⟩
theorem fgX6_shavingSteps_13 : FG wsX6_shavingSteps RX6 13 6 1 := ⟨RX6, TX6, 19, rfl, inX6_shavingSteps_6, by decide, by decide +kernel⟩
theorem fgX6_shavingSteps_78 : FG wsX6_shavingSteps RX6 78 6 9 := ⟨RX6, TX6, 19, rfl, inX6_shavingSteps_6, by decide, by decide +kernel⟩
theorem inX6_greatestWeight_6 : ∀ w ∈ u_ws RX6 TX6 19, w ∈ wsX6_greatestWeight := by decide +kernel
theorem foX6_greatestWeight_29 : FO wsX6_greatestWeight RX6 29 6 6 .int := ⟨RX6, TX6, 19, tyX6, rfl, inX6_greatestWeight_6, by decide, by decide +kernel, tyX6_ok, nmX6, by decide +kernel, by decide +kernel⟩
theorem fgX6_greatestWeight_7 : FG wsX6_greatestWeight RX6 7 6 0 := ⟨RX6, TX6, 19, rfl, inX6_greatestWeight_6, by decide, by decide +kernel⟩
theorem kX6_greatestWeight_129 : Cond.constant RX6 129 (100000) ∈ wsX6_greatestWeight := by decide +kernel
theorem fgX6_greatestWeight_78 : FG wsX6_greatestWeight RX6 78 6 9 := ⟨RX6, TX6, 19, rfl, inX6_greatestWeight_6, by decide, by decide +kernel⟩
theorem inX6_bestCenter_6 : ∀ w ∈ u_ws RX6 TX6 19, w ∈ wsX6_bestCenter := by decide +kernel
theorem foX6_bestCenter_29 : FO wsX6_bestCenter RX6 29 6 6 .int := ⟨RX6, TX6, 19, tyX6, rfl, inX6_bestCenter_6, by decide, by decide +kernel, tyX6_ok, nmX6, by decide +kernel, by decide +kernel⟩
theorem fgX6_bestCenter_7 : FG wsX6_bestCenter RX6 7 6 0 := ⟨RX6, TX6, 19, rfl, inX6_bestCenter_6, by decide, by decide +kernel⟩
theorem fgX6_bestCenter_78 : FG wsX6_bestCenter RX6 78 6 9 := ⟨RX6, TX6, 19, rfl, inX6_bestCenter_6, by decide, by decide +kernel⟩
theorem inX6_append_6 : ∀ w ∈ u_ws RX6 TX6 19, w ∈ wsX6_append := by decide +kernel
theorem foX6_append_29 : FO wsX6_append RX6 29 6 6 .int := ⟨RX6, TX6, 19, tyX6, rfl, inX6_append_6, by decide, by decide +kernel, tyX6_ok, nmX6, by decide +kernel, by decide +kernel⟩
theorem fgX6_append_29 : FG wsX6_append RX6 29 6 6 := ⟨RX6, TX6, 19, rfl, inX6_append_6, by decide, by decide +kernel⟩
theorem fgX6_append_175 : FG wsX6_append RX6 175 6 5 := ⟨RX6, TX6, 19, rfl, inX6_append_6, by decide, by decide +kernel⟩
theorem fgX6_append_19 : FG wsX6_append RX6 19 6 4 := ⟨RX6, TX6, 19, rfl, inX6_append_6, by decide, by decide +kernel⟩
theorem foX6_append_175 : FO wsX6_append RX6 175 6 5 .int := ⟨RX6, TX6, 19, tyX6, rfl, inX6_append_6, by decide, by decide +kernel, tyX6_ok, nmX6, by decide +kernel, by decide +kernel⟩
theorem inX6_clearText_6 : ∀ w ∈ u_ws RX6 TX6 19, w ∈ wsX6_clearText := by decide +kernel
theorem foX6_clearText_29 : FO wsX6_clearText RX6 29 6 6 .int := ⟨RX6, TX6, 19, tyX6, rfl, inX6_clearText_6, by decide, by decide +kernel, tyX6_ok, nmX6, by decide +kernel, by decide +kernel⟩
theorem fgX6_clearText_175 : FG wsX6_clearText RX6 175 6 5 := ⟨RX6, TX6, 19, rfl, inX6_clearText_6, by decide, by decide +kernel⟩
theorem foX6_clearText_175 : FO wsX6_clearText RX6 175 6 5 .int := ⟨RX6, TX6, 19, tyX6, rfl, inX6_clearText_6, by decide, by decide +kernel, tyX6_ok, nmX6, by decide +kernel, by decide +kernel⟩
theorem inX6_undo_6 : ∀ w ∈ u_ws RX6 TX6 19, w ∈ wsX6_undo := by decide +kernel
theorem fgX6_undo_33 : FG wsX6_undo RX6 33 6 3 := ⟨RX6, TX6, 19, rfl, inX6_undo_6, by decide, by decide +kernel⟩
theorem foX6_undo_29 : FO wsX6_undo RX6 29 6 6 .int := ⟨RX6, TX6, 19, tyX6, rfl, inX6_undo_6, by decide, by decide +kernel, tyX6_ok, nmX6, by decide +kernel, by decide +kernel⟩
theorem fgX6_undo_29 : FG wsX6_undo RX6 29 6 6 := ⟨RX6, TX6, 19, rfl, inX6_undo_6, by decide, by decide +kernel⟩
theorem foX6_undo_33 : FO wsX6_undo RX6 33 6 3 .int := ⟨RX6, TX6, 19, tyX6, rfl, inX6_undo_6, by decide, by decide +kernel, tyX6_ok, nmX6, by decide +kernel, by decide +kernel⟩
theorem fgX6_undo_16 : FG wsX6_undo RX6 16 6 2 := ⟨RX6, TX6, 19, rfl, inX6_undo_6, by decide, by decide +kernel⟩
theorem fgX6_undo_7 : FG wsX6_undo RX6 7 6 0 := ⟨RX6, TX6, 19, rfl, inX6_undo_6, by decide, by decide +kernel⟩
theorem kX6_mix_202 : Cond.constantLong RX6 202 (31) ∈ wsX6_mix := by decide +kernel
theorem inX6_mix_6 : ∀ w ∈ u_ws RX6 TX6 19, w ∈ wsX6_mix := by decide +kernel
theorem fgX6_mix_204 : FG wsX6_mix RX6 204 6 18 := ⟨RX6, TX6, 19, rfl, inX6_mix_6, by decide, by decide +kernel⟩
theorem foX6_mix_204 : FO wsX6_mix RX6 204 6 18 .long := ⟨RX6, TX6, 19, tyX6, rfl, inX6_mix_6, by decide, by decide +kernel, tyX6_ok, nmX6, by decide +kernel, by decide +kernel⟩
theorem inX6_digest_6 : ∀ w ∈ u_ws RX6 TX6 19, w ∈ wsX6_digest := by decide +kernel
theorem foX6_digest_29 : FO wsX6_digest RX6 29 6 6 .int := ⟨RX6, TX6, 19, tyX6, rfl, inX6_digest_6, by decide, by decide +kernel, tyX6_ok, nmX6, by decide +kernel, by decide +kernel⟩
theorem kX6_digest_207 : Cond.constantLong RX6 207 (3433) ∈ wsX6_digest := by decide +kernel
theorem foX6_digest_204 : FO wsX6_digest RX6 204 6 18 .long := ⟨RX6, TX6, 19, tyX6, rfl, inX6_digest_6, by decide, by decide +kernel, tyX6_ok, nmX6, by decide +kernel, by decide +kernel⟩
theorem fgX6_digest_175 : FG wsX6_digest RX6 175 6 5 := ⟨RX6, TX6, 19, rfl, inX6_digest_6, by decide, by decide +kernel⟩
theorem mfX6_mix : MF yX6_mix wsX6_mix cX6_mix 3 none 1 := ⟨⟨_, rfl⟩, by decide +kernel, by decide +kernel, by decide +kernel⟩
theorem fgX6_digest_7 : FG wsX6_digest RX6 7 6 0 := ⟨RX6, TX6, 19, rfl, inX6_digest_6, by decide, by decide +kernel⟩
theorem fgX6_digest_33 : FG wsX6_digest RX6 33 6 3 := ⟨RX6, TX6, 19, rfl, inX6_digest_6, by decide, by decide +kernel⟩
theorem fgX6_digest_204 : FG wsX6_digest RX6 204 6 18 := ⟨RX6, TX6, 19, rfl, inX6_digest_6, by decide, by decide +kernel⟩
