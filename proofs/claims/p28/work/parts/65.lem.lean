/-! the answers by their numbers -/
section VLBL
variable (m : Nat → Int32) (n i : Nat)
theorem vl_0 : mVl m n 0 = m 0 := rfl
theorem vl_1 : mVl m n 1 = m 1 := rfl
theorem vl_3 : mVl m n 3 = cntI (stb (mT m) 0 n) 16 := rfl
theorem vl_4 : mVl m n 4 = cntI (mBe m n) 16 := be_cnt.symm
theorem vl_5 : mVl m n 5 = cntI (mOv m n) 16 := rfl
theorem vl_6 : mVl m n 6 = bI (mR m n).1 := rfl
theorem vl_7 : mVl m n 7 = nI (mR m n).2.1 := rfl
theorem vl_8 : mVl m n 8 = mGr m n := rfl
theorem vl_9 : mVl m n 9 = hvy (mR m n).1 (mLo m n) n := rfl
theorem bl_0 : mBl m n i 0 = mP m i := rfl
theorem bl_1 : mBl m n i 1 = mK m i := rfl
theorem bl_2 : mBl m n i 2 = mH m i := rfl
theorem bl_3 : mBl m n i 3 = mL m i := rfl
theorem bl_4 : mBl m n i 4 = mT m i := rfl
theorem bl_5 : mBl m n i 5 = mLo m n i := rfl
theorem bl_6 : mBl m n i 6 = bI (bea m n i) := rfl
theorem bl_7 : mBl m n i 7 = bI (ovd m n i) := rfl
theorem bl_8 : mBl m n i 8 = mS m i := rfl
end VLBL
theorem top_0 (sb : Bool) (lo : Nat → Int32) : (-1 : Int32) = hvy sb lo 0 := by cases sb <;> rfl
theorem gre_0 (sb : Bool) (lo : Nat → Int32) : (0 : Int32) = gre sb lo 0 := by
  unfold gre
  rw [if_neg (fun z => absurd z.2 (Nat.lt_irrefl 0))]
theorem st_t {m : Nat → Int32} {n i : Nat} (hn : n ≤ 16) (hi : i < n) (h : mT m i = 0) : (1 : Int32) = bI (bt (stb (mT m) 0 n) i) := by
  rw [(stb_bt n (by omega) i hi).mpr h]
  rfl
theorem st_f {m : Nat → Int32} {n i : Nat} (hn : n ≤ 16) (hi : i < n) (h : ¬ mT m i = 0) : (0 : Int32) = bI (bt (stb (mT m) 0 n) i) := by
  have e : bt (stb (mT m) 0 n) i = false := by
    cases hb : bt (stb (mT m) 0 n) i with
    | false => rfl
    | true => exact absurd ((stb_bt n (by omega) i hi).mp hb) h
  rw [e]
  rfl
theorem be_s (m : Nat → Int32) (n i : Nat) : cntI (mBe m n) i + bI (bea m n i) = cntI (mBe m n) (i + 1) := by
  rw [cntI, be_bt]
  rfl
theorem ov_s {m : Nat → Int32} {n i : Nat} (hn : n ≤ 16) (hi : i < n) : cntI (mOv m n) i + bI (ovd m n i) = cntI (mOv m n) (i + 1) := by
  rw [cntI, ov_bt hn hi]
  rfl
theorem gr_n {m : Nat → Int32} {n : Nat} (h : (mR m n).1 = false) : mGr m n = 0 := by
  unfold mGr gre
  rw [if_neg (by rw [h]; rintro ⟨z, -⟩; cases z)]
theorem hv_n {m : Nat → Int32} {n : Nat} (h : (mR m n).1 = false) : hvy (mR m n).1 (mLo m n) n = -1 := by
  unfold hvy
  rw [if_neg (by rw [h]; decide)]
theorem be_n {m : Nat → Int32} {n : Nat} (h : (mR m n).1 = false) : cntI (mBe m n) 16 = 0 := by
  unfold mBe
  rw [if_neg (by rw [h]; decide)]
  decide
theorem ov_n {m : Nat → Int32} {n : Nat} (hn : n ≤ 16) (h : (mR m n).1 = false) : cntI (mOv m n) 16 = 0 := by
  refine (ov_0 hn).mpr ?_
  apply b_ext
  intro i hi
  rw [b_0]
  by_cases hin : i < n
  · rw [ov_bt hn hin, h]
    rfl
  · exact ovb_hi n (by omega) i (by omega) hi
theorem so_d {m : Nat → Int32} {n : Nat} (hn : n ≤ 16) (hV : mVal m n) (hR : (mR m n).1 = true) : ¬ mBa m n 2 ≤ 0 := by
  rw [(mBa_s hR).2.2]
  exact Int64.not_le.mpr (mVal_zSt hn hV hR).2.1
theorem be_hi {m : Nat → Int32} {n : Nat} (hn : n ≤ 16) : ∀ j, n ≤ j → j < 32 → bt (mBe m n) j = false := by
  intro j h1 h2
  rw [be_bt]
  cases hR : (mR m n).1 with
  | true => rw [mR_hi hn hR j h1 h2]; rfl
  | false => rfl
theorem ct_st {m : Nat → Int32} {n : Nat} (hn : n ≤ 16) : cntI (stb (mT m) 0 n) 16 = cntI (stb (mT m) 0 n) n := cntI_up hn (stb_hi n (by omega))
theorem ct_be {m : Nat → Int32} {n : Nat} (hn : n ≤ 16) : cntI (mBe m n) 16 = cntI (mBe m n) n := cntI_up hn (be_hi hn)
theorem ct_ov {m : Nat → Int32} {n : Nat} (hn : n ≤ 16) : cntI (mOv m n) 16 = cntI (mOv m n) n := cntI_up hn (ovb_hi n (by omega))
theorem sub_s (a : Int32) (f : Nat → Int32) (i : Nat) : a - smL f i - f i = a - smL f (i + 1) := by
  rw [smL]
  grind
theorem mfX5_digest : MF yX5_digest wsX5_digest cX5_digest 5 (some .long) 0 := ⟨⟨_, rfl⟩, by decide +kernel, by decide +kernel, by decide +kernel⟩
theorem k_refuses_17 : Cond.constant RL 17 (-9010000) ∈ wsL_refuses := by decide +kernel
theorem k_refuses_122 : Cond.constant RL 122 (100000) ∈ wsL_refuses := by decide +kernel
theorem k_refuses_27 : Cond.constant RL 27 (-9030000) ∈ wsL_refuses := by decide +kernel
theorem k_refuses_51 : Cond.constantLong RL 51 (-9010000) ∈ wsL_refuses := by decide +kernel
theorem mfX5_cascadeSteps : MF yX5_cascadeSteps wsX5_cascadeSteps cX5_cascadeSteps 1 (some .int) 0 := ⟨⟨_, rfl⟩, by decide +kernel, by decide +kernel, by decide +kernel⟩
theorem mfX5_survives : MF yX5_survives wsX5_survives cX5_survives 1 (some .boolean) 0 := ⟨⟨_, rfl⟩, by decide +kernel, by decide +kernel, by decide +kernel⟩
theorem mfX5_cascade : MF yX5_cascade wsX5_cascade cX5_cascade 2 (some .int) 0 := ⟨⟨_, rfl⟩, by decide +kernel, by decide +kernel, by decide +kernel⟩
theorem mfX5_shavingSteps : MF yX5_shavingSteps wsX5_shavingSteps cX5_shavingSteps 2 (some .int) 0 := ⟨⟨_, rfl⟩, by decide +kernel, by decide +kernel, by decide +kernel⟩
theorem mfX5_shave : MF yX5_shave wsX5_shave cX5_shave 2 (some .int) 0 := ⟨⟨_, rfl⟩, by decide +kernel, by decide +kernel, by decide +kernel⟩
theorem mfX5_pullable : MF yX5_pullable wsX5_pullable cX5_pullable 3 (some .int) 0 := ⟨⟨_, rfl⟩, by decide +kernel, by decide +kernel, by decide +kernel⟩
theorem k_pulls_20 : Cond.constant RL 20 (-9020000) ∈ wsL_pulls := by decide +kernel
theorem mfX5_greatestWeight : MF yX5_greatestWeight wsX5_greatestWeight cX5_greatestWeight 2 (some .int) 0 := ⟨⟨_, rfl⟩, by decide +kernel, by decide +kernel, by decide +kernel⟩
theorem mfX5_bestCenter : MF yX5_bestCenter wsX5_bestCenter cX5_bestCenter 4 (some .int) 0 := ⟨⟨_, rfl⟩, by decide +kernel, by decide +kernel, by decide +kernel⟩
theorem k_bests_125 : Cond.constant RL 125 (99999) ∈ wsL_bests := by decide +kernel
theorem k_bests_122 : Cond.constant RL 122 (100000) ∈ wsL_bests := by decide +kernel
theorem mfX5_tilt : MF yX5_tilt wsX5_tilt cX5_tilt 3 (some .double) 0 := ⟨⟨_, rfl⟩, by decide +kernel, by decide +kernel, by decide +kernel⟩
theorem mfL_refuses : MF yL_refuses wsL_refuses cL_refuses 5 (some .boolean) 1 := ⟨⟨_, rfl⟩, by decide +kernel, by decide +kernel, by decide +kernel⟩
theorem k_law_20 : Cond.constant RL 20 (-9020000) ∈ wsL_law := by decide +kernel
theorem mfL_sound : MF yL_sound wsL_sound cL_sound 26 (some .boolean) 1 := ⟨⟨_, rfl⟩, by decide +kernel, by decide +kernel, by decide +kernel⟩
theorem mfL_cascades : MF yL_cascades wsL_cascades cL_cascades 6 (some .boolean) 1 := ⟨⟨_, rfl⟩, by decide +kernel, by decide +kernel, by decide +kernel⟩
theorem mfL_bests : MF yL_bests wsL_bests cL_bests 12 (some .boolean) 2 := ⟨⟨_, rfl⟩, by decide +kernel, by decide +kernel, by decide +kernel⟩
theorem mfL_shaving : MF yL_shaving wsL_shaving cL_shaving 7 (some .boolean) 1 := ⟨⟨_, rfl⟩, by decide +kernel, by decide +kernel, by decide +kernel⟩
theorem mfL_pulls : MF yL_pulls wsL_pulls cL_pulls 8 (some .boolean) 3 := ⟨⟨_, rfl⟩, by decide +kernel, by decide +kernel, by decide +kernel⟩
theorem k_law_122 : Cond.constant RL 122 (100000) ∈ wsL_law := by decide +kernel
theorem k_law_125 : Cond.constant RL 125 (99999) ∈ wsL_law := by decide +kernel
