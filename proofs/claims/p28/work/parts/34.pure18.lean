/-! the greatest loads, the heaviest, the most overloaded: class and reference -/
def gmx (lo : Nat → Int32) : Nat → Int32
  | 0 => 0
  | i + 1 => if gmx lo i < lo i then lo i else gmx lo i
theorem gmx_s (lo : Nat → Int32) (i : Nat) : gmx lo (i + 1) = if gmx lo i < lo i then lo i else gmx lo i := rfl
def moI (ov : Int32) (lo L : Nat → Int32) : Nat → Int32 × Int32
  | 0 => (-1, 0)
  | i + 1 => if bt ov i = true ∧ (moI ov lo L i).2 < lo i - L i then (nI i, lo i - L i) else moI ov lo L i
theorem moI_t {ov : Int32} {lo L : Nat → Int32} {i : Nat} (h : bt ov i = true) (h2 : (moI ov lo L i).2 < lo i - L i) : moI ov lo L (i + 1) = (nI i, lo i - L i) := by rw [moI, if_pos ⟨h, h2⟩]
theorem moI_f {ov : Int32} {lo L : Nat → Int32} {i : Nat} (h : bt ov i = false) : moI ov lo L (i + 1) = moI ov lo L i := by rw [moI, if_neg (by rw [h]; simp)]
theorem moI_g {ov : Int32} {lo L : Nat → Int32} {i : Nat} (h : ¬ (moI ov lo L i).2 < lo i - L i) : moI ov lo L (i + 1) = moI ov lo L i := by rw [moI, if_neg (fun z => h z.2)]
theorem i32_0 : (0 : Int32).toInt = 0 := by decide
theorem i32_nn {x : Int32} (h : 0 ≤ x.toInt) : ¬ x < 0 := by
  rw [Int32.lt_iff_toInt_lt, i32_0]
  omega
theorem amI_up {lo : Nat → Int32} {n : Nat} (hn : 0 < n) (h0 : ∀ j, n ≤ j → j < 16 → lo j = 0) (hp : ∀ j, j < 16 → 0 ≤ (lo j).toInt) : ∀ k, n + k ≤ 16 → amI lo (n + k) = amI lo n
  | 0, _ => rfl
  | k + 1, hk => by
    have ih := amI_up hn h0 hp k (by omega)
    have hl := amI_lt lo (n + k)
    show amI lo ((n + k) + 1) = _
    rw [amI_f, ih]
    rw [h0 (n + k) (by omega) (by omega)]
    exact i32_nn (hp _ (by have := hl.2 (by omega); omega))
theorem gmx_am {lo : Nat → Int32} (hp : ∀ j, j < 16 → 0 ≤ (lo j).toInt) : ∀ k, k + 1 ≤ 16 → gmx lo (k + 1) = lo (amI lo (k + 1))
  | 0, _ => by
    rw [amI_1]
    show (if (0 : Int32) < lo 0 then lo 0 else 0) = lo 0
    split
    · rfl
    · rename_i h
      have h1 := hp 0 (by omega)
      rw [Int32.lt_iff_toInt_lt, i32_0] at h
      apply Int32.toInt_inj.mp
      rw [i32_0]
      omega
  | k + 1, hk => by
    have ih := gmx_am hp k (by omega)
    rw [gmx_s, ih]
    by_cases h : lo (amI lo (k + 1)) < lo (k + 1)
    · rw [if_pos h, amI_t h]
    · rw [if_neg h, amI_f h]
theorem gmx_0 {lo : Nat → Int32} (h : ∀ j, j < 16 → lo j = 0) : ∀ k, k ≤ 16 → gmx lo k = 0
  | 0, _ => rfl
  | k + 1, hk => by
    rw [gmx_s, gmx_0 h k (by omega), h k (by omega)]
    rfl
theorem mR_pos {m : Nat → Int32} {n : Nat} (h : (mR m n).1 = true) : 0 < n := by
  rcases Nat.eq_zero_or_pos n with rfl | hn
  · have e : mR m 0 = (false, 1, 0, sol (mP m) (mK m) (mH m) (m 0) (m 1) 0 (stb (mT m) 0 0)) := fb_le (by
      show (0 : Int64) * 0 - 0 * 0 ≤ 0
      decide)
    rw [e] at h
    cases h
  · exact hn
theorem mLo_z {m : Nat → Int32} {n : Nat} (hn : n ≤ 16) (hV : mVal m n) : ∀ j, n ≤ j → j < 16 → mLo m n j = 0 := fun j h1 h2 => (mLo_off hn hV).1 j h2 (fun hR => mR_hi hn hR j h1 (by omega))
theorem mLo_nn {m : Nat → Int32} {n : Nat} (hn : n ≤ 16) (hV : mVal m n) : ∀ j, j < 16 → 0 ≤ (mLo m n j).toInt := fun j hj => ((mLo_off hn hV).2 j hj).1
theorem am16 {m : Nat → Int32} {n : Nat} (hn : n ≤ 16) (hV : mVal m n) (h0 : 0 < n) : amI (mLo m n) 16 = amI (mLo m n) n := by
  have h := amI_up h0 (mLo_z hn hV) (mLo_nn hn hV) (16 - n) (by omega)
  rw [show n + (16 - n) = 16 by omega] at h
  exact h
theorem gmx_mGr {m : Nat → Int32} {n : Nat} (hn : n ≤ 16) (hV : mVal m n) : gmx (mLo m n) 16 = mGr m n := by
  unfold mGr gre
  by_cases hR : (mR m n).1 = true
  · have h0 := mR_pos hR
    rw [if_pos ⟨hR, h0⟩, ← am16 hn hV h0]
    exact gmx_am (mLo_nn hn hV) 15 (by omega)
  · rw [if_neg (fun z => hR z.1)]
    exact gmx_0 (fun j hj => (mLo_off hn hV).1 j hj (fun z => absurd z hR)) 16 (Nat.le_refl _)
theorem am_hvy {m : Nat → Int32} {n : Nat} (hn : n ≤ 16) (hV : mVal m n) : (if (mR m n).1 = true then nI (amI (mLo m n) 16) else -1) = hvy (mR m n).1 (mLo m n) n := by
  unfold hvy hvI
  by_cases hR : (mR m n).1 = true
  · have h0 := mR_pos hR
    rw [if_pos hR, if_pos hR, if_neg (by omega), am16 hn hV h0]
  · rw [if_neg hR, if_neg hR]
theorem ol_pos {x y : Int32} (h1 : 0 ≤ x.toInt ∧ x.toInt ≤ 100016) (h2 : 1 ≤ y.toInt ∧ y.toInt ≤ 99999) (h : y < x) : (0 : Int32) < x - y := by
  rw [Int32.lt_iff_toInt_lt] at h
  rw [Int32.lt_iff_toInt_lt, Int32.toInt_sub, i32_0, bm32 (by omega) (by omega)]
  omega
theorem moI_ns {sb : Bool} {lo L : Nat → Int32} {n : Nat} (hn : n ≤ 16) (hl : ∀ j, j < n → 0 ≤ (lo j).toInt ∧ (lo j).toInt ≤ 100016) (hL : ∀ j, j < n → 1 ≤ (L j).toInt ∧ (L j).toInt ≤ 99999) : ∀ k, k ≤ n → (moI (ovb sb lo L n) lo L k).1 = nsI sb lo L k ∧ (nsI sb lo L k = -1 → (moI (ovb sb lo L n) lo L k).2 = 0) ∧ ∀ j, j < 16 → nsI sb lo L k = nI j → (moI (ovb sb lo L n) lo L k).2 = lo j - L j
  | 0, _ => ⟨rfl, fun _ => rfl, fun j hj e => absurd e.symm (nI_m1 (by omega))⟩
  | k + 1, hk => by
    obtain ⟨h1, h2, h3⟩ := moI_ns (sb := sb) hn hl hL k (by omega)
    have hb := ovb_bt (sb := sb) (lo := lo) (L := L) n (by omega) k (by omega)
    by_cases hc : (sb && decide (L k < lo k)) = true
    · have hbt : bt (ovb sb lo L n) k = true := hb.mpr hc
      have hlt : L k < lo k := by
        have h9 := hc
        simp only [Bool.and_eq_true, decide_eq_true_eq] at h9
        exact h9.2
      rcases nsI_ix (sb := sb) (lo := lo) (L := L) k (by omega) with e | ⟨j, hj, e⟩
      · rw [nsI_0 hc e, moI_t hbt (by rw [h2 e]; exact ol_pos (hl k (by omega)) (hL k (by omega)) hlt)]
        refine ⟨rfl, fun z => absurd z (nI_m1 (by omega)), fun j hj e => ?_⟩
        rw [(nI_eq (by omega) (by omega)).mp e]
      · have e2 := h3 j (by omega) e
        by_cases hd : lo j - L j < lo k - L k
        · rw [nsI_g hc (by omega) e hd, moI_t hbt (by rw [e2]; exact hd)]
          refine ⟨rfl, fun z => absurd z (nI_m1 (by omega)), fun j hj e => ?_⟩
          rw [(nI_eq (by omega) (by omega)).mp e]
        · rw [nsI_l (by omega) e hd, moI_g (by rw [e2]; exact hd)]
          refine ⟨h1.trans e, fun z => absurd z (nI_m1 (by omega)), fun i hi e4 => ?_⟩
          rw [e2, (nI_eq (by omega) (by omega)).mp e4]
    · have hc : (sb && decide (L k < lo k)) = false := by simpa using hc
      have hbt : bt (ovb sb lo L n) k = false := by
        cases hbb : bt (ovb sb lo L n) k with
        | false => rfl
        | true => rw [hb.mp hbb] at hc; cases hc
      rw [nsI_n hc, moI_f hbt]
      exact ⟨h1, h2, h3⟩
theorem moI_up {ov : Int32} {lo L : Nat → Int32} {n : Nat} (h : ∀ j, n ≤ j → j < 32 → bt ov j = false) : ∀ k, n + k ≤ 32 → moI ov lo L (n + k) = moI ov lo L n
  | 0, _ => rfl
  | k + 1, hk => by
    show moI ov lo L ((n + k) + 1) = _
    rw [moI_f (h (n + k) (by omega) (by omega))]
    exact moI_up h k (by omega)
theorem moI_cg {ov : Int32} {lo L L' : Nat → Int32} : ∀ k, (∀ i, i < k → bt ov i = true → L i = L' i) → moI ov lo L k = moI ov lo L' k
  | 0, _ => rfl
  | k + 1, h => by
    have ih := moI_cg (ov := ov) (lo := lo) (L := L) (L' := L') k (fun i hi => h i (by omega))
    by_cases hb : bt ov k = true
    · rw [moI, moI, ih, h k (by omega) hb]
    · rw [moI_f (by simpa using hb), moI_f (by simpa using hb), ih]
/-- the class's search for the most overloaded is the reference's -/
theorem moI_KR {we ce co sg cr : Int32} {P K H L S m : Nat → Int32} {n : Nat} (h : KR we ce co sg cr P K H L S m n) : (moI (mOv m n) (mLo m n) L 16).1 = mNs m n := by
  obtain ⟨h1, h2, h3, h4, h5, h6, h7, h8, h9⟩ := h
  have hh : ∀ j, n ≤ j → j < 32 → bt (mOv m n) j = false := ovb_hi n (by omega)
  have e1 : moI (mOv m n) (mLo m n) L 16 = moI (mOv m n) (mLo m n) (mL m) 16 := moI_cg 16 (fun i hi hb => by
    have hin : i < n := Nat.lt_of_not_le fun z => by
      rw [hh i z (by omega)] at hb
      cases hb
    exact (h9 i hin).2.2.2.1)
  have e2 := moI_up (lo := mLo m n) (L := mL m) hh (16 - n) (by omega)
  rw [show n + (16 - n) = 16 by omega] at e2
  rw [e1, e2]
  refine (moI_ns h5 (fun j hj => (mLo_off h5 h8).2 j (by omega)) (fun j hj => ?_) n (Nat.le_refl _)).1
  exact r32 (h8.2.2 j hj).2.2.2.1 (by decide) (by decide)
theorem inX0_isSafe_0 : ∀ w ∈ u_ws RX0 TX0 9, w ∈ wsX0_isSafe := by decide +kernel
theorem fgX0_isSafe_19 : FG wsX0_isSafe RX0 19 0 0 := ⟨RX0, TX0, 9, rfl, inX0_isSafe_0, by decide, by decide +kernel⟩
theorem fgX0_isSafe_27 : FG wsX0_isSafe RX0 27 0 3 := ⟨RX0, TX0, 9, rfl, inX0_isSafe_0, by decide, by decide +kernel⟩
theorem inX0_mostLoaded_0 : ∀ w ∈ u_ws RX0 TX0 9, w ∈ wsX0_mostLoaded := by decide +kernel
theorem fgX0_mostLoaded_19 : FG wsX0_mostLoaded RX0 19 0 0 := ⟨RX0, TX0, 9, rfl, inX0_mostLoaded_0, by decide, by decide +kernel⟩
theorem fgX0_mostLoaded_9 : FG wsX0_mostLoaded RX0 9 0 7 := ⟨RX0, TX0, 9, rfl, inX0_mostLoaded_0, by decide, by decide +kernel⟩
theorem inX0_greatestLoad_0 : ∀ w ∈ u_ws RX0 TX0 9, w ∈ wsX0_greatestLoad := by decide +kernel
theorem fgX0_greatestLoad_9 : FG wsX0_greatestLoad RX0 9 0 7 := ⟨RX0, TX0, 9, rfl, inX0_greatestLoad_0, by decide, by decide +kernel⟩
theorem mX0_greatestLoad_methodLink_RX0_97_Lib_Math_max_name : (Cond.methodLink RX0 97 Lib.Math.max.name : Cond) ∈ wsX0_greatestLoad := by decide +kernel
theorem mX0_greatestLoad_static_Lib_Math_max_name : (Cond.static Lib.Math.max.name : Cond) ∈ wsX0_greatestLoad := by decide +kernel
theorem mX0_greatestLoad_initialized_java_lang_Math : (Cond.initialized "java/lang/Math" : Cond) ∈ wsX0_greatestLoad := by decide +kernel
theorem mX0_greatestLoad_code_Lib_Math_max_name_Lib_Math_max_code_2_some_int : (Cond.code Lib.Math.max.name Lib.Math.max.code 2 (some .int) : Cond) ∈ wsX0_greatestLoad := by decide +kernel
theorem inX0_mostOverloaded_0 : ∀ w ∈ u_ws RX0 TX0 9, w ∈ wsX0_mostOverloaded := by decide +kernel
theorem fgX0_mostOverloaded_9 : FG wsX0_mostOverloaded RX0 9 0 7 := ⟨RX0, TX0, 9, rfl, inX0_mostOverloaded_0, by decide, by decide +kernel⟩
theorem inX0_mostOverloaded_1 : ∀ w ∈ u_ws RX1 TX1 10, w ∈ wsX0_mostOverloaded := by decide +kernel
theorem fgX0_mostOverloaded_94 : FG wsX0_mostOverloaded RX0 94 1 8 := ⟨RX1, TX1, 10, rfl, inX0_mostOverloaded_1, by decide, by decide +kernel⟩
theorem fgX0_mostOverloaded_27 : FG wsX0_mostOverloaded RX0 27 0 3 := ⟨RX0, TX0, 9, rfl, inX0_mostOverloaded_0, by decide, by decide +kernel⟩
theorem mX0_mostOverloaded_static_yX5_isMember : (Cond.static yX5_isMember : Cond) ∈ wsX0_mostOverloaded := by decide +kernel
theorem mX0_mostOverloaded_initialized_RX5 : (Cond.initialized RX5 : Cond) ∈ wsX0_mostOverloaded := by decide +kernel

