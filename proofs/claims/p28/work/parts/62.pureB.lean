/-! pulling out: one block less stands, the rest bears -/
theorem cbN_cg {x y : Int32} : ∀ k, (∀ j, j < k → bt x j = bt y j) → cbN x k = cbN y k
  | 0, _ => rfl
  | k + 1, h => by rw [cbN, cbN, cbN_cg k (fun j hj => h j (by omega)), h k (by omega)]
/-- how many of the first k stand, as the class counts them -/
def stN (m : Nat → Int32) (n : Nat) : Nat := cbN (stb (mT m) 0 n) 16
theorem stN_16 (m : Nat → Int32) (n : Nat) : stN m n ≤ 16 := cbN_le _ 16
theorem bit_cnt : ∀ k, k < 16 → cntI (bit (nI k)) 16 = 1 := by decide +kernel
theorem stb_pull {m : Nat → Int32} {n i : Nat} (hn : n ≤ 16) (hi : i < n) : stb (mT (mSt m i 1)) 0 n = stb (mT m) 0 n &&& (bit (nI i) ^^^ (-1)) := by
  symm
  refine stb_x (by omega) (fun j hj => ?_)
  rw [b_and, b_not _ hj, stb_at (by omega) j hj, mSt_T, b_bit i (by omega) hj]
  by_cases e : j = i
  · rw [if_pos e]
    simp [e]
  · rw [if_neg e]
    simp [e]
theorem pl_cnt {m : Nat → Int32} {n i : Nat} (hn : n ≤ 16) (hi : i < n) (hz : mT m i = 0) : cntI (stb (mT (mSt m i 1)) 0 n) 16 = cntI (stb (mT m) 0 n) 16 - 1 := by
  have h := cnt_sub (x := stb (mT m) 0 n) (y := bit (nI i)) 16 (by omega) (fun j hj hb => by
    rw [b_bit i (by omega) (by omega)] at hb
    have e : j = i := by simpa using hb
    rw [e]
    exact (stb_bt n (by omega) i hi).mpr hz)
  rw [stb_pull hn hi, h, bit_cnt i (by omega), Int32.add_sub_cancel]
theorem pl_ov {m : Nat → Int32} {n i : Nat} (h : cpl m n i = true) : (mR (mSt m i 1) n).1 = true ∧ mOv (mSt m i 1) n = 0 := by
  unfold cpl at h
  simpa using h
/-- the pullable ones, counted -/
def plN (m : Nat → Int32) (n : Nat) : Nat → Nat
  | 0 => 0
  | k + 1 => plN m n k + if (decide (mT m k = 0) && cpl m n k) = true then 1 else 0
theorem pln_N (m : Nat → Int32) (n : Nat) : ∀ k, pln m n k = nI (plN m n k)
  | 0 => rfl
  | k + 1 => by
    rw [pln, pln_N m n k, plN]
    cases (decide (mT m k = 0) && cpl m n k)
    · show nI (plN m n k) + 0 = nI (plN m n k + 0)
      rw [Int32.add_zero, Nat.add_zero]
    · exact nI_add _ 1
theorem plN_le (m : Nat → Int32) (n : Nat) : ∀ k, plN m n k ≤ k
  | 0 => Nat.le_refl _
  | k + 1 => by
    have := plN_le m n k
    rw [plN]
    split <;> omega
theorem plN_1 {m : Nat → Int32} {n i : Nat} (h : (decide (mT m i = 0) && cpl m n i) = true) : ∀ k, i < k → 1 ≤ plN m n k
  | 0, hk => by omega
  | k + 1, hk => by
    rw [plN]
    by_cases e : i = k
    · rw [← e, if_pos h]
      omega
    · have := plN_1 h k (by omega)
      omega
theorem pl_pos {m : Nat → Int32} {n i : Nat} (hn : n ≤ 16) (hi : i < n) (hz : mT m i = 0) (hc : cpl m n i = true) : ¬ pln m n n ≤ 0 := by
  have h1 := plN_1 (m := m) (n := n) (i := i) (by rw [hc, decide_eq_true hz]; rfl) n hi
  have h2 := plN_le m n n
  rw [pln_N]
  exact nI_nle h1 (by omega)
/-- the greatest load is no number below 0 -/
theorem mGr_nn {m : Nat → Int32} {n : Nat} (hn : n ≤ 16) (hV : mVal m n) : ¬ mGr m n < 0 := by
  unfold mGr gre
  split
  · rename_i h
    have hl := (amI_lt (mLo m n) n).2 h.2
    exact so_nn hn hV hl
  · decide
theorem mGr_ne {m : Nat → Int32} {n : Nat} (hn : n ≤ 16) (hV : mVal m n) : ¬ mGr m n = -9020000 := fun e => mGr_nn hn hV (by rw [e]; decide)
/-! the cascade: its steps, its blocks, its end -/
theorem ov_cnt {m : Nat → Int32} {n : Nat} (hn : n ≤ 16) (h : ¬ mOv m n = 0) : 1 ≤ cbN (mOv m n) 16 := by
  obtain ⟨i, hi, hb⟩ := b_ex h
  have hin : i < n := by
    refine Nat.lt_of_not_le fun z => ?_
    have := ovb_hi (sb := (mR m n).1) (lo := mLo m n) (L := mL m) n (by omega) i z hi
    unfold mOv at hb
    rw [this] at hb
    cases hb
  exact cbN_1 16 i (by omega) hb
theorem ov_0 {m : Nat → Int32} {n : Nat} (hn : n ≤ 16) : (cntI (mOv m n) 16 = 0 ↔ mOv m n = 0) := by
  rw [cntI_N]
  constructor
  · intro h
    refine Classical.byContradiction fun hz => ?_
    have h1 := ov_cnt hn hz
    have h2 := cbN_le (mOv m n) 16
    exact nI_ne0 h1 (by omega) h
  · intro h
    rw [h]
    decide
theorem st_crk {m : Nat → Int32} {n : Nat} (hn : n ≤ 16) (hV : mVal m n) : stN (crk m (mOv m n) n) n + cbN (mOv m n) 16 = stN m n := by
  have h := cnt_sub (x := stb (mT m) 0 n) (y := mOv m n) 16 (by omega) (fun i hi hb => by
    have hin : i < n := Nat.lt_of_not_le fun z => by
      rw [show bt (mOv m n) i = false from ovb_hi n (by omega) i z (by omega)] at hb
      cases hb
    rw [stb_at (by omega) i (by omega), decide_eq_true hin, (ov_st hn hV hin hb).2.2.1]
    rfl)
  rw [← stb_crk (m := m) (x := mOv m n) hn (ovb_hi n (by omega)), cntI_N, cntI_N, cntI_N, nI_add] at h
  have a := cbN_le (stb (mT m) 0 n) 16
  have b := cbN_le (stb (mT (crk m (mOv m n) n)) 0 n) 16
  have c := cbN_le (mOv m n) 16
  have := (nI_eq (by omega) (by omega)).mp h
  unfold stN
  omega
theorem fal_x {n : Nat} (hn : n ≤ 16) : ∀ (f : Nat) (m : Nat → Int32) (s c : Int32), mVal m n → ∃ st T : Nat, (fal n f m s c).2.1 = s + nI st ∧ (fal n f m s c).2.2 = c + nI T ∧ st ≤ T ∧ T + stN (fal n f m s c).1 n = stN m n ∧ (mOv m n = 0 → st = 0 ∧ T = 0) ∧ (¬ mOv m n = 0 → 0 < f → 1 ≤ st ∧ cbN (mOv m n) 16 ≤ T)
  | 0, m, s, c, _ => ⟨0, 0, (Int32.add_zero s).symm, (Int32.add_zero c).symm, Nat.le_refl _, Nat.zero_add _, fun _ => ⟨rfl, rfl⟩, fun _ h => absurd h (Nat.lt_irrefl 0)⟩
  | f + 1, m, s, c, hV => by
    by_cases h0 : mOv m n = 0
    · rw [fal_0 h0]
      exact ⟨0, 0, (Int32.add_zero s).symm, (Int32.add_zero c).symm, Nat.le_refl _, Nat.zero_add _, fun _ => ⟨rfl, rfl⟩, fun z => absurd h0 z⟩
    · obtain ⟨st, T, a, b, d, e, -, -⟩ := fal_x hn f (crk m (mOv m n) n) (s + 1) (c + cntI (mOv m n) 16) (crk_val hV _ _)
      have hc := st_crk hn hV
      have h1 := ov_cnt hn h0
      rw [fal_s h0]
      refine ⟨st + 1, cbN (mOv m n) 16 + T, ?_, ?_, by omega, by omega, fun z => absurd z h0, fun _ _ => ⟨by omega, by omega⟩⟩
      · rw [a, ← nI_1 st]
        grind
      · rw [b, cntI_N, ← nI_add]
        grind
theorem cst_0 {m : Nat → Int32} {n : Nat} (hn : n ≤ 16) (hV : mVal m n) (h : cst m n = 0) : mOv m n = 0 := by
  refine Classical.byContradiction fun hz => ?_
  have := cst_fall hn hV hz
  omega
theorem fal_end {n : Nat} (hn : n ≤ 16) : ∀ (f : Nat) (m : Nat → Int32) (s c : Int32), mVal m n → cst m n ≤ f → mOv (fal n f m s c).1 n = 0
  | 0, m, s, c, hV, h => show mOv m n = 0 from cst_0 hn hV (Nat.le_zero.mp h)
  | f + 1, m, s, c, hV, h => by
    by_cases h0 : mOv m n = 0
    · rw [fal_0 h0]
      exact h0
    · rw [fal_s h0]
      have := cst_fall hn hV h0
      exact fal_end hn f _ _ _ (crk_val hV _ _) (by omega)
section CASC
variable {m : Nat → Int32} {n : Nat}
theorem ca_end (hn : n ≤ 16) (hV : mVal m n) : mOv (fal n 16 m 0 0).1 n = 0 := fal_end hn 16 m 0 0 hV (by have := cst_le m n; omega)
theorem ca_val (hV : mVal m n) : mVal (fal n 16 m 0 0).1 n := fal_val 16 m 0 0 hV
/-- all that the law says of a cascade's numbers -/
theorem ca_x (hn : n ≤ 16) (hV : mVal m n) : ((fal n 16 m 0 0).2.1 = 0 ↔ cntI (mOv m n) 16 = 0) ∧ ¬ (fal n 16 m 0 0).2.2 < cntI (mOv m n) 16 ∧ ¬ (fal n 16 m 0 0).2.2 < (fal n 16 m 0 0).2.1 ∧ ¬ (fal n 16 m 0 0).2.2 < 0 ∧ cntI (stb (mT (fal n 16 m 0 0).1) 0 n) 16 = cntI (stb (mT m) 0 n) 16 - (fal n 16 m 0 0).2.2 := by
  obtain ⟨st, T, a, b, d, e, g, k⟩ := fal_x hn 16 m 0 0 hV
  have hT := stN_16 m n
  rw [Int32.zero_add] at a b
  have hov := cbN_le (mOv m n) 16
  refine ⟨?_, ?_, ?_, ?_, ?_⟩
  · rw [a, ov_0 hn]
    constructor
    · intro z
      refine Classical.byContradiction fun hz => ?_
      obtain ⟨k1, k2⟩ := k hz (by decide)
      exact nI_ne0 k1 (by omega) z
    · intro z
      rw [(g z).1]
      exact nI_0
  · rw [b, cntI_N]
    by_cases h0 : mOv m n = 0
    · rw [h0]
      exact nI_nlt (a := T) (b := cbN 0 16) (by rw [show cbN 0 16 = 0 by decide]; omega) (by omega)
    · exact nI_nlt (k h0 (by decide)).2 (by omega)
  · rw [a, b]
    exact nI_nlt d (by omega)
  · rw [b]
    exact nI_pos (by omega)
  · have h := fal_crush hn m hV
    rw [← h]
    grind
theorem ca_steps0 (hn : n ≤ 16) (hV : mVal m n) : (fal n 16 (fal n 16 m 0 0).1 0 0).2.1 = 0 := by
  rw [fal_0 (ca_end hn hV)]
theorem ca_over0 (hn : n ≤ 16) (hV : mVal m n) : cntI (mOv (fal n 16 m 0 0).1 n) 16 = 0 := by
  rw [ca_end hn hV]
  decide
theorem ca_told (hn : n ≤ 16) (hV : mVal m n) : ¬ (fal n 16 m 0 0).2.2 < 0 := (ca_x hn hV).2.2.2.1
end CASC
/-! shaving: the caps fall by the steps, the cuts grow by them -/
theorem mNs_ix {m : Nat → Int32} {n : Nat} (hn : n ≤ 16) (h : ¬ mNs m n = -1) : (mNs m n).toNatClampNeg < n := by
  rcases nsI_ix (sb := (mR m n).1) (lo := mLo m n) (L := mL m) n hn with e | ⟨j, hj, e⟩
  · exact absurd e h
  · have e : mNs m n = nI j := e
    rw [e, nI_clamp (by omega)]
    exact hj
theorem shp_H (m : Nat → Int32) (k : Nat) : mH (shp m k) = upd (mH m) k (mH m k - 1) := by
  funext i
  show shp m k (3 + 6 * i + 2) = _
  unfold shp
  by_cases h : i = k
  · rw [h, pk_un (by omega), pk_us, pk_us]
    rfl
  · rw [pk_un (by omega), pk_un (by omega), pk_un h]
    rfl
theorem shp_S (m : Nat → Int32) (k : Nat) : mS (shp m k) = upd (mS m) k (mS m k + 1) := by
  funext i
  show shp m k (3 + 6 * i + 5) = _
  unfold shp
  by_cases h : i = k
  · rw [h, pk_us, pk_us]
    rfl
  · rw [pk_un (by omega), pk_un (by omega), pk_un h]
    rfl
theorem shv_x {n : Nat} (hn : n ≤ 16) : ∀ (f : Nat) (m : Nat → Int32) (s : Int32), ∃ t : Nat, t ≤ f ∧ (shv n f m s).2 = s + nI t ∧ smL (mH (shv n f m s).1) n = smL (mH m) n - nI t ∧ smL (mS (shv n f m s).1) n = smL (mS m) n + nI t
  | 0, m, s => ⟨0, Nat.le_refl _, (Int32.add_zero s).symm, by rw [nI_0]; exact (Int32.sub_zero _).symm, by rw [nI_0]; exact (Int32.add_zero _).symm⟩
  | f + 1, m, s => by
    by_cases h : mNs m n = -1 ∨ mH m (mNs m n).toNatClampNeg ≤ -50
    · rw [shv_0 h]
      exact ⟨0, Nat.zero_le _, (Int32.add_zero s).symm, by rw [nI_0]; exact (Int32.sub_zero _).symm, by rw [nI_0]; exact (Int32.add_zero _).symm⟩
    · have hk := mNs_ix hn (fun z => h (Or.inl z))
      obtain ⟨t, a, b, c, d⟩ := shv_x hn f (shp m (mNs m n).toNatClampNeg) (s + 1)
      rw [shv_s h]
      refine ⟨t + 1, by omega, ?_, ?_, ?_⟩
      · rw [b, ← nI_1 t]
        grind
      · rw [c, shp_H, smL_set _ _ _ n hk, ← nI_1 t]
        grind
      · rw [d, shp_S, smL_set _ _ _ n hk, ← nI_1 t]
        grind
theorem shv_val {n : Nat} (hn : n ≤ 16) : ∀ (f : Nat) (m : Nat → Int32) (s : Int32), mVal m n → mVal (shv n f m s).1 n
  | 0, _, _, h => h
  | f + 1, m, s, hV => by
    by_cases h : mNs m n = -1 ∨ mH m (mNs m n).toNatClampNeg ≤ -50
    · rw [shv_0 h]
      exact hV
    · rw [shv_s h]
      exact shv_val hn f _ _ (shp_val hV (mNs_ix hn (fun z => h (Or.inl z))) (fun z => h (Or.inr z)))
/-- all that the law says of a shaving's numbers -/
theorem sh_x (m : Nat → Int32) {n : Nat} (hn : n ≤ 16) : ¬ (shv n 100 m 0).2 < 0 ∧ ¬ (101 : Int32) ≤ (shv n 100 m 0).2 ∧ smL (mH m) n - smL (mH (shv n 100 m 0).1) n = (shv n 100 m 0).2 ∧ smL (mS m) n - smL (mS (shv n 100 m 0).1) n = -(shv n 100 m 0).2 := by
  obtain ⟨t, a, b, c, d⟩ := shv_x hn 100 m 0
  rw [Int32.zero_add] at b
  rw [b, c, d]
  refine ⟨nI_pos (by omega), nI_ge (b := 101) (by omega) (by decide), by grind, by grind⟩
theorem mSs_t {m : Nat → Int32} {n : Nat} (h : mSf (shv n 100 m 0).1 n = true) : mSs m n = (shv n 100 m 0).2 := by
  unfold mSs
  rw [if_pos h]
theorem mSs_f {m : Nat → Int32} {n : Nat} (h : mSf (shv n 100 m 0).1 n = false) : mSs m n = -1000 - (shv n 100 m 0).2 := by
  unfold mSs
  rw [if_neg (by rw [h]; decide)]
/-! what is best -/
theorem gw_x (m : Nat → Int32) (n : Nat) : ∀ k, gwI m n k = -1 ∨ ∃ j, j < k ∧ gwI m n k = nI (1000 * (j + 1)) ∧ mSf (mUp m 0 (nI (1000 * (j + 1)))) n = true
  | 0 => Or.inl rfl
  | k + 1 => by
    rw [gwI]
    split
    · rename_i h
      exact Or.inr ⟨k, by omega, rfl, h⟩
    · rcases gw_x m n k with e | ⟨j, hj, e, h⟩
      · exact Or.inl e
      · exact Or.inr ⟨j, by omega, e, h⟩
theorem bst_x {sb : Bool} {g v : Int32} {q : Int32 × Int32} : (sb = true ∧ (q.1 = -1 ∨ g < q.2) ∧ bst sb g v q = (v, g)) ∨ (¬ (sb = true ∧ (q.1 = -1 ∨ g < q.2)) ∧ bst sb g v q = q) := by
  unfold bst
  split
  · rename_i h
    exact Or.inl ⟨h.1, h.2, rfl⟩
  · rename_i h
    exact Or.inr ⟨h, rfl⟩
/-- the best center of the first k: none, where the ship stands with none; else the first of the least -/
theorem bc_x (m : Nat → Int32) (n : Nat) : ∀ k, k ≤ 81 → ((bcI m n k).1 = -1 ∧ ∀ i, i < k → (mR (mUp m 1 (nI (5 * i))) n).1 = false) ∨ ∃ j, j < k ∧ bcI m n k = (nI (5 * j), mGr (mUp m 1 (nI (5 * j))) n) ∧ (mR (mUp m 1 (nI (5 * j))) n).1 = true ∧ ∀ i, i < k → (mR (mUp m 1 (nI (5 * i))) n).1 = true → ¬ mGr (mUp m 1 (nI (5 * i))) n < mGr (mUp m 1 (nI (5 * j))) n ∧ (mGr (mUp m 1 (nI (5 * i))) n = mGr (mUp m 1 (nI (5 * j))) n → j ≤ i)
  | 0, _ => Or.inl ⟨rfl, fun i hi => absurd hi (Nat.not_lt_zero i)⟩
  | k + 1, hk => by
    have ih := bc_x m n k (by omega)
    rw [bcI]
    rcases bst_x (sb := (mR (mUp m 1 (nI (5 * k))) n).1) (g := mGr (mUp m 1 (nI (5 * k))) n) (v := nI (5 * k)) (q := bcI m n k) with ⟨h1, h2, h3⟩ | ⟨h1, h3⟩
    · rw [h3]
      refine Or.inr ⟨k, by omega, rfl, h1, fun i hi hR => ?_⟩
      by_cases e : i = k
      · rw [e]
        exact ⟨Int32.lt_irrefl, fun _ => Nat.le_refl _⟩
      · rcases ih with ⟨a, b⟩ | ⟨j, a, b, c, d⟩
        · have := b i (by omega)
          rw [hR] at this
          cases this
        · rcases h2 with h2 | h2
          · rw [b] at h2
            exact absurd h2 (nI_m1 (by omega))
          · rw [b] at h2
            have h2 : mGr (mUp m 1 (nI (5 * k))) n < mGr (mUp m 1 (nI (5 * j))) n := h2
            have hd := (d i (by omega) hR).1
            rw [Int32.lt_iff_toInt_lt] at h2 hd
            refine ⟨by rw [Int32.lt_iff_toInt_lt]; omega, fun z => ?_⟩
            rw [z] at hd
            omega
    · rw [h3]
      rcases ih with ⟨a, b⟩ | ⟨j, a, b, c, d⟩
      · refine Or.inl ⟨a, fun i hi => ?_⟩
        by_cases e : i = k
        · rw [e]
          cases hR : (mR (mUp m 1 (nI (5 * k))) n).1 with
          | false => rfl
          | true => exact absurd ⟨hR, Or.inl a⟩ h1
        · exact b i (by omega)
      · refine Or.inr ⟨j, by omega, b, c, fun i hi hR => ?_⟩
        by_cases e : i = k
        · rw [e] at hR ⊢
          have h4 : ¬ mGr (mUp m 1 (nI (5 * k))) n < mGr (mUp m 1 (nI (5 * j))) n := fun z => h1 ⟨hR, Or.inr (by rw [b]; exact z)⟩
          exact ⟨h4, fun _ => by omega⟩
        · exact d i (by omega) hR
theorem bp_x (m : Nat → Int32) (n : Nat) (s : Int32) : ∀ k, (bpI m n s k).1 = -1 ∨ ∃ j, j < k ∧ (bpI m n s k).1 = nI (10 * j) ∧ (mR (mBu m n (nI (10 * j)) s 0 99999) (n + 1)).1 = true
  | 0 => Or.inl rfl
  | k + 1 => by
    rw [bpI]
    rcases bst_x (sb := (mR (mBu m n (nI (10 * k)) s 0 99999) (n + 1)).1) (g := mGr (mBu m n (nI (10 * k)) s 0 99999) (n + 1)) (v := nI (10 * k)) (q := bpI m n s k) with ⟨h1, -, h3⟩ | ⟨-, h3⟩
    · rw [h3]
      exact Or.inr ⟨k, by omega, rfl, h1⟩
    · rw [h3]
      rcases bp_x m n s k with e | ⟨j, hj, e, h⟩
      · exact Or.inl e
      · exact Or.inr ⟨j, by omega, e, h⟩
theorem ck_w : ∀ k, k < 100 → nI (1000 * (k + 1)) - nI (1000 * (k + 1)) / 1000 * 1000 = 0 ∧ ¬ nI (1000 * (k + 1)) < 1000 ∧ ¬ 100000 < nI (1000 * (k + 1)) ∧ ¬ nI (1000 * (k + 1)) = -1 ∧ pIn (nI (1000 * (k + 1))) 1 100000 = true := by decide +kernel
theorem ck_c : ∀ k, k < 81 → nI (5 * k) - nI (5 * k) / 5 * 5 = 0 ∧ ¬ 400 < nI (5 * k) ∧ ¬ nI (5 * k) = -1 ∧ pIn (nI (5 * k)) 0 400 = true := by decide +kernel
theorem ck_p : ∀ k, k < 41 → nI (10 * k) - nI (10 * k) / 10 * 10 = 0 ∧ nI (10 * k) ≤ 400 ∧ ¬ nI (10 * k) = -1 ∧ pIn (nI (10 * k)) 0 400 = true := by decide +kernel
theorem sf_x {m : Nat → Int32} {n : Nat} (h : mSf m n = true) : (mR m n).1 = true ∧ mOv m n = 0 := by
  unfold mSf at h
  simpa using h
/-- a ship set anew, with the weight or the center as it was -/
theorem sw_up (m : Nat → Int32) (v : Int32) : upd (upd m 0 v) 1 (m 1) = mUp m 0 v := by
  show upd (mUp m 0 v) 1 (m 1) = _
  exact upd_same (pk_un (by decide))
theorem sc_up (m : Nat → Int32) (v : Int32) : upd (upd m 0 (m 0)) 1 v = mUp m 1 v := by
  rw [upd_same (f := m) (k := 0) rfl]
  rfl
theorem sc_up2 (m : Nat → Int32) (u v : Int32) : upd (upd (mUp m 1 u) 0 (m 0)) 1 v = mUp m 1 v := by
  rw [upd_same (f := mUp m 1 u) (k := 0) (v := m 0) (pk_un (by decide))]
  exact upd2 m 1 u v
theorem up_0 (m : Nat → Int32) (v : Int32) : mUp m 1 v 0 = m 0 := pk_un (by decide)
/-! numbers drawn from the script -/
theorem lw_low (v : Int32) {N : Nat} (h0 : 0 < N) (hN : N < 2 ^ 31) : ∃ j, j < N ∧ (v &&& 2147483647) - (v &&& 2147483647) / nI N * nI N = nI j := by
  obtain ⟨t, ht, e⟩ := pk_andE v (m := 2147483647) 31 (by decide +kernel)
  rw [e, pk_rem ht h0 hN]
  exact ⟨t % N, Nat.mod_lt _ h0, rfl⟩
theorem pIn_nI {j a b : Nat} (h1 : a ≤ j) (h2 : j ≤ b) (hb : b < 2 ^ 31) : pIn (nI j) (nI a) (nI b) = true := by
  simp only [pIn, Bool.and_eq_true, decide_eq_true_eq]
  exact ⟨nI_le h1 (by omega), nI_le h2 hb⟩
theorem ck_cap : ∀ j, j < 9 → pIn (nI j - 4) (-50) 50 = true := by decide +kernel
theorem ck_cap2 : ∀ j, j < 31 → pIn (nI j - 15) (-50) 50 = true := by decide +kernel
theorem m2_out {m : Nat → Int32} {n : Nat} (hc : m 2 = nI n) (hn : n ≤ 16) : pIn (nI n) 0 (m 2 - 1) = false ∧ pIn (-1) 0 (m 2 - 1) = false := by
  rw [hc]
  have e1 : (nI n - 1).toInt = (n : Int) - 1 := by
    rw [Int32.toInt_sub, nI_toInt (by omega), show (1 : Int32).toInt = 1 by decide, bm32 (by omega) (by omega)]
  have e2 := nI_toInt (n := n) (by omega)
  constructor
  · unfold pIn
    rw [Bool.and_eq_false_iff]
    right
    rw [decide_eq_false_iff_not, Int32.le_iff_toInt_le, e1, e2]
    omega
  · unfold pIn
    rw [show decide ((0 : Int32) ≤ -1) = false by decide]
    rfl
theorem m2_out0 {m : Nat → Int32} (hc : m 2 = nI 0) : pIn 0 0 (m 2 - 1) = false := (m2_out (n := 0) hc (by omega)).1
