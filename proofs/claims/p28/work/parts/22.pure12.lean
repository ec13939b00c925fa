/-! docks that agree have the same balance -/
def sbH (n : Nat) (x : Int32) : Prop := ∀ j, n ≤ j → j < 32 → bt x j = false
theorem fb_cg {f f' : Int32 → Int64 × Int64 × Int64} {g g' : Int64 × Int64 × Int64 → Int32} {I : Int32 → Prop} (hf : ∀ x, I x → f x = f' x) (hg : g = g') (hI : ∀ q, I (g q)) : ∀ (n r : Nat) (x : Int32) (q : Int64 × Int64 × Int64), I x → fb f g n r x q = fb f' g' n r x q
  | 0, _, _, _, _ => rfl
  | n + 1, r, x, q, hx => by
    subst hg
    rw [fb, fb, hf x hx]
    split
    · rfl
    · split
      · rfl
      · exact fb_cg hf rfl hI n (r + 1) _ _ (hI _)
theorem sm_cg {P K H P' K' H' : Nat → Int32} {x w c : Int32} : ∀ N, (∀ i, i < N → bt x i = true → P i = P' i ∧ K i = K' i ∧ H i = H' i) → sm P K H x w c N = sm P' K' H' x w c N
  | 0, _ => rfl
  | N + 1, h => by
    have ih := sm_cg (P := P) (K := K) (H := H) (P' := P') (K' := K') (H' := H') (x := x) (w := w) (c := c) N (fun i hi => h i (by omega))
    by_cases hb : bt x N = true
    · obtain ⟨a, b, d⟩ := h N (by omega) hb
      rw [sm_t hb, sm_t hb, ih, a, b, d]
    · have hb : bt x N = false := by simpa using hb
      rw [sm_f hb, sm_f hb, ih]
theorem sm_up {P K H : Nat → Int32} {x w c : Int32} {n : Nat} (h : sbH n x) : ∀ k, n + k ≤ 32 → sm P K H x w c (n + k) = sm P K H x w c n
  | 0, _ => rfl
  | k + 1, hk => by
    show sm P K H x w c ((n + k) + 1) = _
    rw [sm_f (h (n + k) (by omega) (by omega))]
    exact sm_up h k (by omega)
theorem nx_cg {P H P' H' : Nat → Int32} {all : Int32} {q : Int64 × Int64 × Int64} : ∀ N, (∀ i, i < N → P i = P' i ∧ H i = H' i) → nx P H all q N = nx P' H' all q N
  | 0, _ => rfl
  | N + 1, h => by
    have ih := nx_cg (P := P) (H := H) (P' := P') (H' := H') (all := all) (q := q) N (fun i hi => h i (by omega))
    obtain ⟨a, b⟩ := h N (by omega)
    rw [nx, nx, ih, a, b]
theorem nx_up {P H : Nat → Int32} {all : Int32} {q : Int64 × Int64 × Int64} {n : Nat} (h : sbH n all) : ∀ k, n + k ≤ 32 → nx P H all q (n + k) = nx P H all q n
  | 0, _ => rfl
  | k + 1, hk => by
    show nx P H all q ((n + k) + 1) = _
    rw [nx_f (h (n + k) (by omega) (by omega))]
    exact nx_up h k (by omega)
theorem rl_cg {P K H P' K' H' : Nat → Int32} {x w : Int32} {q : Int64 × Int64 × Int64} {lo : Nat → Int32} {cu : Nat → Int64} : ∀ N, (∀ i, i < N → bt x i = true → P i = P' i ∧ K i = K' i ∧ H i = H' i) → rl P K H x w q lo cu N = rl P' K' H' x w q lo cu N
  | 0, _ => rfl
  | N + 1, h => by
    have ih := rl_cg (P := P) (K := K) (H := H) (P' := P') (K' := K') (H' := H') (x := x) (w := w) (q := q) (lo := lo) (cu := cu) N (fun i hi => h i (by omega))
    by_cases hb : bt x N = true
    · obtain ⟨a, b, d⟩ := h N (by omega) hb
      rw [rl_t hb, rl_t hb, ih, a, b, d]
    · have hb : bt x N = false := by simpa using hb
      rw [rl_f hb, rl_f hb, ih]
theorem stb_cg {T T' : Nat → Int32} {s : Int32} : ∀ N, (∀ i, i < N → T i = T' i) → stb T s N = stb T' s N
  | 0, _ => rfl
  | N + 1, h => by
    have ih := stb_cg (T := T) (T' := T') (s := s) N (fun i hi => h i (by omega))
    rw [stb, stb, ih, h N (by omega)]
theorem ovb_cg {sb : Bool} {lo L L' : Nat → Int32} : ∀ N, (∀ i, i < N → L i = L' i) → ovb sb lo L N = ovb sb lo L' N
  | 0, _ => rfl
  | N + 1, h => by
    have ih := ovb_cg (sb := sb) (lo := lo) (L := L) (L' := L') N (fun i hi => h i (by omega))
    rw [ovb, ovb, ih, h N (by omega)]
theorem fnd_cg {P K H P' K' H' : Nat → Int32} {w c all : Int32} {n : Nat} (hn : n ≤ 16) (ha : sbH n all) (h : ∀ i, i < n → P i = P' i ∧ K i = K' i ∧ H i = H' i) : fb (sol P K H w c 16) (fun q => nx P H all q 16) 30 0 all (0, 0, 0) = fb (sol P' K' H' w c n) (fun q => nx P' H' all q n) 30 0 all (0, 0, 0) := by
  have e : n + (16 - n) = 16 := by omega
  have hg : (fun q => nx P H all q 16) = (fun q => nx P' H' all q n) := by
    funext q
    have h1 := nx_up (P := P) (H := H) (q := q) ha (16 - n) (by omega)
    rw [e] at h1
    rw [h1]
    exact nx_cg n (fun i hi => ⟨(h i hi).1, (h i hi).2.2⟩)
  refine fb_cg (I := sbH n) (fun x hx => ?_) hg (fun q => ?_) 30 0 all (0, 0, 0) ha
  · have h1 := sm_up (P := P) (K := K) (H := H) (w := w) (c := c) hx (16 - n) (by omega)
    rw [e] at h1
    unfold sol
    rw [h1, sm_cg n (fun i hi _ => h i hi)]
  · intro j h1 h2
    show bt (nx P H all q 16) j = false
    have h3 := nx_up (P := P) (H := H) (q := q) ha (16 - n) (by omega)
    rw [e] at h3
    rw [h3]
    exact nx_hi n (by omega) j h1 h2
def mAg (n : Nat) (m m' : Nat → Int32) : Prop := ∀ j, j < 3 + 6 * n → m' j = m j
theorem mAg_rfl (n : Nat) (m : Nat → Int32) : mAg n m m := fun _ _ => rfl
theorem mAg_mR {n : Nat} {m m' : Nat → Int32} (h : mAg n m m') : mR m' n = mR m n := by
  have hP : ∀ i, i < n → mP m' i = mP m i := fun i hi => h _ (by omega)
  have hK : ∀ i, i < n → mK m' i = mK m i := fun i hi => h _ (by omega)
  have hH : ∀ i, i < n → mH m' i = mH m i := fun i hi => h _ (by omega)
  have hT : ∀ i, i < n → mT m' i = mT m i := fun i hi => h _ (by omega)
  unfold mR
  rw [stb_cg n hT, h 0 (by omega), h 1 (by omega)]
  refine fb_cg (I := fun _ => True) (fun x _ => ?_) ?_ (fun _ => trivial) 30 0 _ _ trivial
  · unfold sol
    rw [sm_cg n (fun i hi _ => ⟨hP i hi, hK i hi, hH i hi⟩)]
  · funext q
    exact nx_cg n (fun i hi => ⟨hP i hi, hH i hi⟩)
theorem mR_hi {m : Nat → Int32} {n : Nat} (hn : n ≤ 16) (hR : (mR m n).1 = true) : sbH n (mR m n).2.2.1 := by
  have h := (fb_pos (f := sol (mP m) (mK m) (mH m) (m 0) (m 1) n) (g := fun q => nx (mP m) (mH m) (stb (mT m) 0 n) q n) 30 0 (stb (mT m) 0 n) (0, 0, 0) hR).2.2
  intro j h1 h2
  exact (congrArg (fun z => bt z j) h).symm.trans (nx_hi n (by omega) j h1 h2)
theorem mAg_mLo {n : Nat} {m m' : Nat → Int32} (hn : n ≤ 16) (h : mAg n m m') : mLo m' n = mLo m n := by
  unfold mLo
  rw [mAg_mR h, h 0 (by omega)]
  by_cases hR : (mR m n).1 = true
  · rw [if_pos hR, if_pos hR]
    unfold ldS
    rw [rl_cg (P := mP m') (K := mK m') (H := mH m') (P' := mP m) (K' := mK m) (H' := mH m) 16 (fun i hi hb => by
      have hin : i < n := Nat.lt_of_not_le fun z => by
        rw [mR_hi hn hR i z (by omega)] at hb
        cases hb
      exact ⟨h _ (by omega), h _ (by omega), h _ (by omega)⟩)]
  · rw [if_neg hR, if_neg hR]
theorem mAg_mOv {n : Nat} {m m' : Nat → Int32} (hn : n ≤ 16) (h : mAg n m m') : mOv m' n = mOv m n := by
  unfold mOv
  rw [mAg_mR h, mAg_mLo hn h]
  exact ovb_cg n (fun i hi => h _ (by omega))
theorem mAg_mGr {n : Nat} {m m' : Nat → Int32} (hn : n ≤ 16) (h : mAg n m m') : mGr m' n = mGr m n := by
  unfold mGr
  rw [mAg_mR h, mAg_mLo hn h]
theorem mAg_val {n : Nat} {m m' : Nat → Int32} (h : mAg n m m') (hV : mVal m n) : mVal m' n := by
  unfold mVal
  rw [h 0 (by omega), h 1 (by omega)]
  refine ⟨hV.1, hV.2.1, fun i hi => ?_⟩
  rw [show mP m' i = mP m i from h _ (by omega), show mK m' i = mK m i from h _ (by omega), show mH m' i = mH m i from h _ (by omega), show mL m' i = mL m i from h _ (by omega), show mT m' i = mT m i from h _ (by omega)]
  exact hV.2.2 i hi
theorem mBu_ag {n : Nat} {m m' : Nat → Int32} (h : mAg n m m') (p s c l : Int32) : mAg (n + 1) (mBu m n p s c l) (mBu m' n p s c l) := by
  have st : ∀ (f f' : Nat → Int32) (k : Nat) (v : Int32) (j : Nat), f' j = f j → upd f' k v j = upd f k v j := by
    intro f f' k v j hj
    by_cases e : j = k
    · rw [e, pk_us, pk_us]
    · rw [pk_un e, pk_un e, hj]
  intro j hj
  unfold mBu
  by_cases h1 : j < 3 + 6 * n
  · refine st _ _ _ _ _ (st _ _ _ _ _ (st _ _ _ _ _ (st _ _ _ _ _ (st _ _ _ _ _ (st _ _ _ _ _ ?_)))))
    rw [h 2 (by omega)]
    exact st _ _ _ _ _ (h j h1)
  · by_cases e5 : j = 3 + 6 * n + 5
    · rw [e5, pk_us, pk_us]
    rw [pk_un e5, pk_un e5]
    by_cases e4 : j = 3 + 6 * n + 4
    · rw [e4, pk_us, pk_us]
    rw [pk_un e4, pk_un e4]
    by_cases e3 : j = 3 + 6 * n + 3
    · rw [e3, pk_us, pk_us]
    rw [pk_un e3, pk_un e3]
    by_cases e2 : j = 3 + 6 * n + 2
    · rw [e2, pk_us, pk_us]
    rw [pk_un e2, pk_un e2]
    by_cases e1 : j = 3 + 6 * n + 1
    · rw [e1, pk_us, pk_us]
    rw [pk_un e1, pk_un e1]
    have e0 : j = 3 + 6 * n + 0 := by omega
    rw [e0, pk_us, pk_us]
theorem mBu_lo {n : Nat} {m : Nat → Int32} {p s c l : Int32} {j : Nat} (h : j < 3 + 6 * n) (h2 : j ≠ 2) : mBu m n p s c l j = m j := by
  unfold mBu
  rw [pk_un (by omega), pk_un (by omega), pk_un (by omega), pk_un (by omega), pk_un (by omega), pk_un (by omega), pk_un h2]
theorem mBu_at (n : Nat) (m : Nat → Int32) (p s c l : Int32) : mP (mBu m n p s c l) n = p ∧ mK (mBu m n p s c l) n = s ∧ mH (mBu m n p s c l) n = c ∧ mL (mBu m n p s c l) n = l ∧ mT (mBu m n p s c l) n = 0 ∧ mBu m n p s c l (3 + 6 * n + 5) = 0 := by
  refine ⟨?_, ?_, ?_, ?_, ?_, ?_⟩
  · show mBu m n p s c l (3 + 6 * n + 0) = p
    unfold mBu
    rw [pk_un (by omega), pk_un (by omega), pk_un (by omega), pk_un (by omega), pk_un (by omega), pk_us]
  · show mBu m n p s c l (3 + 6 * n + 1) = s
    unfold mBu
    rw [pk_un (by omega), pk_un (by omega), pk_un (by omega), pk_un (by omega), pk_us]
  · show mBu m n p s c l (3 + 6 * n + 2) = c
    unfold mBu
    rw [pk_un (by omega), pk_un (by omega), pk_un (by omega), pk_us]
  · show mBu m n p s c l (3 + 6 * n + 3) = l
    unfold mBu
    rw [pk_un (by omega), pk_un (by omega), pk_us]
  · show mBu m n p s c l (3 + 6 * n + 4) = 0
    unfold mBu
    rw [pk_un (by omega), pk_us]
  · show mBu m n p s c l (3 + 6 * n + 5) = 0
    unfold mBu
    rw [pk_us]
theorem mBu_val {m : Nat → Int32} {n : Nat} {p s c l : Int32} (hV : mVal m n) (hp : 0 ≤ p ∧ p ≤ 400) (hs : 1 ≤ s ∧ s ≤ 100) (hc : -50 ≤ c ∧ c ≤ 50) (hl : 1 ≤ l ∧ l ≤ 99999) : mVal (mBu m n p s c l) (n + 1) := by
  unfold mVal
  rw [mBu_lo (n := n) (show 0 < 3 + 6 * n by omega) (by omega), mBu_lo (n := n) (show 1 < 3 + 6 * n by omega) (by omega)]
  refine ⟨hV.1, hV.2.1, fun i hi => ?_⟩
  by_cases e : i = n
  · obtain ⟨a1, a2, a3, a4, a5, -⟩ := mBu_at n m p s c l
    rw [e, a1, a2, a3, a4, a5]
    exact ⟨hp, hs, hc, hl, Or.inl rfl⟩
  · rw [show mP (mBu m n p s c l) i = mP m i from mBu_lo (by omega) (by omega), show mK (mBu m n p s c l) i = mK m i from mBu_lo (by omega) (by omega), show mH (mBu m n p s c l) i = mH m i from mBu_lo (by omega) (by omega), show mL (mBu m n p s c l) i = mL m i from mBu_lo (by omega) (by omega), show mT (mBu m n p s c l) i = mT m i from mBu_lo (by omega) (by omega)]
    exact hV.2.2 i (by omega)
theorem mBu_back {m m1 : Nat → Int32} {n : Nat} (h : mAg n m m1) (hc : m 2 = nI n) (p s c l : Int32) : mAg n m (upd (mBu m1 n p s c l) 2 (nI n)) := by
  intro j hj
  by_cases e : j = 2
  · rw [e, pk_us, hc]
  · rw [pk_un e, mBu_lo hj e]
    exact h j hj
def bpI (m : Nat → Int32) (n : Nat) (s : Int32) : Nat → Int32 × Int32
  | 0 => (-1, 0)
  | k + 1 => bst (mR (mBu m n (nI (10 * k)) s 0 99999) (n + 1)).1 (mGr (mBu m n (nI (10 * k)) s 0 99999) (n + 1)) (nI (10 * k)) (bpI m n s k)
theorem rg10 : ∀ k, k < 41 → 0 ≤ nI (10 * k) ∧ nI (10 * k) ≤ 400 := by decide +kernel
theorem pIn_i {x l g : Int32} (h : pIn x l g = true) : l ≤ x ∧ x ≤ g := by simpa [pIn] using h
