/-! worlds in another order -/
theorem va_P.perm {G : va_G} {cl : List vw_C} {w w' : va_W} {H : Heap} (hp : w.Perm w') (h : va_P G cl w H) : va_P G cl w' H := by
  intro k q hq
  obtain ⟨k', hk'⟩ := List.getElem?_of_mem (hp.mem_iff.mpr (List.mem_of_getElem? hq))
  exact h k' q hk'
theorem fst_nd {w : va_W} : (∀ (i j : Nat) (p q : Nat × va_E), w[i]? = some p → w[j]? = some q → p.1 = q.1 → i = j) ↔ (w.map Prod.fst).Nodup := by
  constructor
  · intro h
    unfold List.Nodup
    rw [List.pairwise_iff_getElem]
    intro i j hi hj hij e
    rw [List.length_map] at hi hj
    rw [List.getElem_map, List.getElem_map] at e
    have := h i j _ _ (List.getElem?_eq_getElem hi) (List.getElem?_eq_getElem hj) e
    omega
  · intro h i j p q hi hj e
    unfold List.Nodup at h
    rw [List.pairwise_iff_getElem] at h
    obtain ⟨hi1, hi2⟩ := List.getElem?_eq_some_iff.mp hi
    obtain ⟨hj1, hj2⟩ := List.getElem?_eq_some_iff.mp hj
    rcases Nat.lt_trichotomy i j with hl | hl | hl
    · have := h i j (by rw [List.length_map]; exact hi1) (by rw [List.length_map]; exact hj1) hl
      rw [List.getElem_map, List.getElem_map, hi2, hj2] at this
      exact absurd e this
    · exact hl
    · have := h j i (by rw [List.length_map]; exact hj1) (by rw [List.length_map]; exact hi1) hl
      rw [List.getElem_map, List.getElem_map, hi2, hj2] at this
      exact absurd e.symm this
theorem va_D.perm {A : Nat → Prop} {w w' : va_W} (hp : w.Perm w') (h : va_D A w) : va_D A w' := by
  refine ⟨fst_nd.mpr ((hp.map Prod.fst).nodup_iff.mp (fst_nd.mp h.1)), fun k q hq => ?_⟩
  obtain ⟨k', hk'⟩ := List.getElem?_of_mem (hp.mem_iff.mpr (List.mem_of_getElem? hq))
  exact h.2 k' q hk'
theorem va_A.perm {w w' : va_W} {sz : Nat} (hp : w.Perm w') : ∀ q, va_A w sz q → va_A w' sz q := by
  rintro q (⟨k, e, h⟩ | h)
  · obtain ⟨k', hk'⟩ := List.getElem?_of_mem (hp.mem_iff.mp (List.mem_of_getElem? h))
    exact Or.inl ⟨k', e, hk'⟩
  · exact Or.inr h
theorem va_D.wk {A B : Nat → Prop} {w : va_W} (hAB : ∀ q, A q → B q) (h : va_D A w) : va_D B w := ⟨h.1, fun k q hq => hAB _ (h.2 k q hq)⟩
theorem j_perm {D : KD} {X : KX} {w w' : va_W} {k n pc : Nat} {lv : List (Nat × Value)} {st : List Value} (hp : w.Perm w') (kk : J D X w' k n pc lv st) : J D X w k n pc lv st := fun H locs ls hP hD hS hl => kk H locs ls (hP.perm hp) (hD.perm hp) hS hl
theorem MV.perm {l : Launch} {D : KD} {y : MethodName} {ws : List Cond} {fr lo mc ms : Nat} {av : List Value} {w w' : va_W} {post post' : va_W → Prop} (hp : w'.Perm w) (h : MV l D y ws fr lo mc ms av w post) (hi : ∀ w1, post w1 → ∃ w2, w1.Perm w2 ∧ post' w2) : MV l D y ws fr lo mc ms av w' post' := by
  intro sz
  refine Met.mono' (h sz) ?_ ?_ (va_A.perm hp.symm)
  · rintro a s ⟨hv, hsz, hP, hK, hD⟩
    exact ⟨hv, hsz, hP.perm hp, hK, hD.perm hp⟩
  · rintro a s o t - ⟨⟨u, ho, hu, hP1, hD1⟩, hF1, hF2⟩
    obtain ⟨w2, hw, hp2⟩ := hi u hu
    exact ⟨⟨w2, ho, hp2, hP1.perm hw, (hD1.perm hw).wk (va_A.perm hp.symm)⟩, hF1, fun q hq hn => hF2 q hq (fun z => hn (va_A.perm hp.symm q z))⟩
theorem kPut_pre {tl nw : va_W} : ∀ (K P K1 : va_W), K1.length = K.length → kPut (P ++ (K ++ tl)) (rng P.length K.length) (K1 ++ nw) = P ++ (K1 ++ (tl ++ nw))
  | [], P, K1, h => by
    obtain rfl : K1 = [] := List.length_eq_zero_iff.mp h
    show kPut (P ++ tl) [] nw = _
    rw [kPut, List.nil_append, List.append_assoc]
  | c :: K, P, K1, h => by
    cases K1 with
    | nil => simp at h
    | cons c1 K1 =>
      show kPut (P ++ (c :: K ++ tl)) (rng P.length (K.length + 1)) (c1 :: (K1 ++ nw)) = _
      rw [rng_s, kPut]
      have h1 : (P ++ (c :: K ++ tl)).set P.length c1 = (P ++ [c1]) ++ (K ++ tl) := by
        rw [List.set_append_right _ _ (Nat.le_refl _), Nat.sub_self]
        simp
      rw [h1]
      have h2 := kPut_pre (tl := tl) (nw := nw) K (P ++ [c1]) K1 (by simpa using h)
      rw [List.length_append] at h2
      exact h2.trans (by simp)
/-- a contract with more cells behind its own -/
theorem MV.tail {l : Launch} {D : KD} {y : MethodName} {ws : List Cond} {fr lo mc ms : Nat} {av : List Value} {K : va_W} {post : va_W → Prop} (h : MV l D y ws fr lo mc ms av K post) (tl : va_W) (hf : ∀ w1, post w1 → ∃ K1 nw, w1 = K1 ++ nw ∧ K1.map Prod.fst = K.map Prod.fst) : MV l D y ws fr lo mc ms av (K ++ tl) (fun w' => ∃ K1 nw, post (K1 ++ nw) ∧ K1.map Prod.fst = K.map Prod.fst ∧ w' = K1 ++ (tl ++ nw)) := by
  have hl : ∀ K1 : va_W, K1.map Prod.fst = K.map Prod.fst → K1.length = K.length := fun K1 e => by
    have := congrArg List.length e
    simpa using this
  have h0 := rng_at (w := K) []
  have hC : (rng 0 K.length).map (fun i => (K ++ tl)[i]?) = K.map some := tl_hC0 tl h0
  refine (h.frame (rng 0 K.length) hC ?_ ?_).imp ?_
  · have := tl_nd (K := []) (Kc := []) (is := []) K.length rfl rfl
    exact this
  · intro w1 hw1
    obtain ⟨K1, nw, rfl, e⟩ := hf w1 hw1
    rw [← hl K1 e, List.take_left]
    exact e
  · rintro w' ⟨w1, hw1, rfl⟩
    obtain ⟨K1, nw, rfl, e⟩ := hf w1 hw1
    refine ⟨K1, nw, hw1, e, ?_⟩
    have := kPut_pre (tl := tl) (nw := nw) K [] K1 (hl K1 e)
    exact this
/-! the pool of the docks that the history keeps -/
def wPl (D : KD) (oa : Nat → Nat → Nat) (f : Nat → Dk) : Nat → va_W
  | 0 => []
  | k + 1 => wPl D oa f k ++ wDk D (oa k) (f k)
def wPx (D : KD) (oa : Nat → Nat → Nat) (f : Nat → Dk) (i : Nat) : Nat → va_W
  | 0 => []
  | k + 1 => if k = i then wPx D oa f i k else wPx D oa f i k ++ wDk D (oa k) (f k)
theorem wPl_cg {D : KD} {oa oa' : Nat → Nat → Nat} {f f' : Nat → Dk} : ∀ k, (∀ j, j < k → oa j = oa' j ∧ f j = f' j) → wPl D oa f k = wPl D oa' f' k
  | 0, _ => rfl
  | k + 1, h => by
    rw [wPl, wPl, wPl_cg k (fun j hj => h j (by omega)), (h k (by omega)).1, (h k (by omega)).2]
theorem wPx_cg {D : KD} {oa : Nat → Nat → Nat} {f f' : Nat → Dk} {i : Nat} : ∀ k, (∀ j, j < k → j ≠ i → f j = f' j) → wPx D oa f i k = wPx D oa f' i k
  | 0, _ => rfl
  | k + 1, h => by
    rw [wPx, wPx, wPx_cg k (fun j hj => h j (by omega))]
    split
    · rfl
    · rename_i hk
      rw [h k (by omega) hk]
theorem wPx_out {D : KD} {oa : Nat → Nat → Nat} {f : Nat → Dk} {i : Nat} : ∀ k, k ≤ i → wPx D oa f i k = wPl D oa f k
  | 0, _ => rfl
  | k + 1, h => by rw [wPx, wPl, if_neg (by omega), wPx_out k (by omega)]
theorem wPl_perm {D : KD} {oa : Nat → Nat → Nat} {f : Nat → Dk} {i : Nat} : ∀ k, i < k → (wDk D (oa i) (f i) ++ wPx D oa f i k).Perm (wPl D oa f k)
  | 0, h => absurd h (Nat.not_lt_zero i)
  | k + 1, h => by
    rw [wPx, wPl]
    by_cases e : k = i
    · subst e
      rw [if_pos rfl, wPx_out k (Nat.le_refl _)]
      exact List.perm_append_comm
    · rw [if_neg e, ← List.append_assoc]
      exact List.Perm.append_right _ (wPl_perm k (by omega))
theorem wPl_up {D : KD} {oa : Nat → Nat → Nat} {f : Nat → Dk} {i k : Nat} (h : i < k) (σ : Dk) : (wDk D (oa i) σ ++ wPx D oa f i k).Perm (wPl D oa (va_up f i σ) k) := by
  have h1 := wPl_perm (D := D) (oa := oa) (f := va_up f i σ) k h
  rw [show va_up f i σ i = σ from if_pos rfl, wPx_cg (f := va_up f i σ) (f' := f) k (fun j _ hj => if_neg hj)] at h1
  exact h1
theorem wDk_fst (D : KD) (o : Nat → Nat) (σ σ' : Dk) : (wDk D o σ).map Prod.fst = (wDk D o σ').map Prod.fst := rfl
theorem wPl_fst {D : KD} {oa : Nat → Nat → Nat} {f f' : Nat → Dk} : ∀ k, (wPl D oa f k).map Prod.fst = (wPl D oa f' k).map Prod.fst
  | 0 => rfl
  | k + 1 => by rw [wPl, wPl, List.map_append, List.map_append, wPl_fst (f := f) (f' := f') k, wDk_fst D (oa k) (f k) (f' k)]
theorem wPl_more {D : KD} {oa : Nat → Nat → Nat} {f : Nat → Dk} {k : Nat} : ∀ d, ∃ r, wPl D oa f (k + d) = wPl D oa f k ++ r
  | 0 => ⟨[], by simp⟩
  | d + 1 => by
    obtain ⟨r, hr⟩ := wPl_more (D := D) (oa := oa) (f := f) (k := k) d
    exact ⟨r ++ wDk D (oa (k + d)) (f (k + d)), by rw [← List.append_assoc, ← hr]; rfl⟩
theorem wPl_tl {D : KD} {oa oa' : Nat → Nat → Nat} {f f' : Nat → Dk} {k k' : Nat} (hk : k ≤ k') (h : ∀ j, j < k → oa' j = oa j) : ((wPl D oa' f' k').take (wPl D oa f k).length).map Prod.fst = (wPl D oa f k).map Prod.fst := by
  obtain ⟨d, rfl⟩ := Nat.exists_eq_add_of_le hk
  obtain ⟨r, hr⟩ := wPl_more (D := D) (oa := oa') (f := f') (k := k) d
  have e1 : wPl D oa' f' k = wPl D oa f' k := wPl_cg k (fun j hj => ⟨h j hj, rfl⟩)
  have e2 := wPl_fst (D := D) (oa := oa) (f := f') (f' := f) k
  have hl : (wPl D oa f' k).length = (wPl D oa f k).length := by
    have := congrArg List.length e2
    simpa using this
  rw [hr, e1, ← hl, List.take_left, e2]
/-- the slots: the places 1, 2, 3, 0 were filled in this order -/
def slF (oa : Nat → Nat → Nat) (k : Nat) : Nat → Option Nat := fun j => if j < 4 ∧ (j + 3) % 4 < k then some (oa ((j + 3) % 4) 0) else none
theorem slF_0 (oa : Nat → Nat → Nat) : (fun _ => none) = slF oa 0 := by
  funext j
  unfold slF
  rw [if_neg (by omega)]
theorem slF_at {oa : Nat → Nat → Nat} {k nw : Nat} (hn : nw < 4) (h : nw < k) : slF oa k ((nw + 1) % 4) = some (oa nw 0) := by
  have e : ((nw + 1) % 4 + 3) % 4 = nw := by omega
  unfold slF
  rw [e, if_pos ⟨by omega, h⟩]
theorem slF_no {oa : Nat → Nat → Nat} {nw : Nat} (hn : nw < 4) : slF oa nw ((nw + 1) % 4) = none := by
  unfold slF
  rw [if_neg (by omega)]
theorem slF_up {oa : Nat → Nat → Nat} {nw : Nat} (hn : nw < 4) (u : Nat → Nat) : va_up (slF oa nw) ((nw + 1) % 4) (some (u 0)) = slF (va_up oa nw u) (nw + 1) := by
  funext j
  unfold va_up slF
  by_cases hj : j = (nw + 1) % 4
  · have e : (j + 3) % 4 = nw := by omega
    rw [if_pos hj, e, if_pos ⟨by omega, by omega⟩]
    show some (u 0) = some ((if nw = nw then u else oa nw) 0)
    rw [if_pos rfl]
  · rw [if_neg hj]
    by_cases hj4 : j < 4
    · have e : (j + 3) % 4 ≠ nw := by omega
      dsimp only
      rw [if_neg e]
      by_cases h2 : (j + 3) % 4 < nw
      · rw [if_pos ⟨hj4, h2⟩, if_pos ⟨hj4, by omega⟩]
      · rw [if_neg (fun z => h2 z.2), if_neg (fun z => by have := z.2; omega)]
    · rw [if_neg (fun z => hj4 z.1), if_neg (fun z => hj4 z.1)]
theorem slF_cg {oa oa' : Nat → Nat → Nat} {k : Nat} (h : ∀ j, j < k → oa j = oa' j) : slF oa k = slF oa' k := by
  funext j
  unfold slF
  split
  · rename_i hj
    rw [h _ hj.2]
  · rfl
/-- a dock as one value -/
def KRk (σ : Dk) (m : Nat → Int32) (n : Nat) : Prop := KR σ.1 σ.2.1 σ.2.2.1 σ.2.2.2.1 σ.2.2.2.2.1 σ.2.2.2.2.2.1 σ.2.2.2.2.2.2.1 σ.2.2.2.2.2.2.2.1 σ.2.2.2.2.2.2.2.2.1 σ.2.2.2.2.2.2.2.2.2 m n
/-- the history: newest, how many, how many docks were made, what they say -/
def HR (nw s k : Nat) (f : Nat → Dk) (sv : Nat → Int32) : Prop := nw < 4 ∧ s ≤ 4 ∧ k ≤ 4 ∧ nw ≤ k ∧ ∀ j, j < s → (nw + 3 - j) % 4 < k ∧ ∃ n', KRk (f ((nw + 3 - j) % 4)) (svP sv (s - 1 - j)) n'
theorem HR_0 (f : Nat → Dk) (sv : Nat → Int32) : HR 0 0 0 f sv := ⟨by omega, by omega, by omega, by omega, fun j hj => absurd hj (Nat.not_lt_zero j)⟩
theorem kSv_old {sv : Nat → Int32} {s : Nat} {m : Nat → Int32} {j : Nat} (hs : s ≤ 4) (h1 : 1 ≤ j) (h2 : j < min (s + 1) 4) (q : Nat) (hq : q < 99) : svP (kSv sv s m) (min (s + 1) 4 - 1 - j) q = svP sv (s - 1 - (j - 1)) q := by
  unfold svP kSv
  by_cases h4 : s = 4
  · rw [if_pos h4]
    subst h4
    rw [show min (4 + 1) 4 - 1 - j = 3 - j by omega, pk_cpy_out (Or.inl (by omega))]
    unfold shf
    rw [if_pos (by omega)]
    exact congrArg sv (by omega)
  · rw [if_neg h4, pk_cpy_out (Or.inl (by omega))]
    exact congrArg sv (by omega)
theorem kSv_new {sv : Nat → Int32} {s : Nat} {m : Nat → Int32} (hs : s ≤ 4) (q : Nat) (hq : q < 99) : svP (kSv sv s m) (min (s + 1) 4 - 1 - 0) q = m q := by
  unfold svP kSv
  by_cases h4 : s = 4
  · rw [if_pos h4]
    subst h4
    rw [show min (4 + 1) 4 - 1 - 0 = 3 by omega, pk_cpy_in (by omega) (by omega)]
    exact congrArg m (by omega)
  · rw [if_neg h4, show min (s + 1) 4 - 1 - 0 = s by omega, pk_cpy_in (by omega) (by omega)]
    exact congrArg m (by omega)
theorem KRk_ag {σ : Dk} {m m' : Nat → Int32} {n : Nat} (h : KRk σ m n) (hq : ∀ q, q < 99 → m' q = m q) : KRk σ m' n := by
  have hn := KR_n h
  exact KR_ag h (fun j hj => hq j (by omega))
theorem HR_save {nw s k : Nat} {f : Nat → Dk} {sv m : Nat → Int32} {n : Nat} {σ : Dk} (h : HR nw s k f sv) (hK : KRk σ m n) : HR ((nw + 1) % 4) (min (s + 1) 4) (max k (nw + 1)) (va_up f nw σ) (kSv sv s m) := by
  obtain ⟨h1, h2, h3, h4, h5⟩ := h
  refine ⟨by omega, by omega, by omega, by omega, fun j hj => ?_⟩
  by_cases h0 : j = 0
  · subst h0
    have e : ((nw + 1) % 4 + 3 - 0) % 4 = nw := by omega
    rw [e, show va_up f nw σ nw = σ from if_pos rfl]
    exact ⟨by omega, n, KRk_ag hK (fun q hq => kSv_new h2 q hq)⟩
  · have e : ((nw + 1) % 4 + 3 - j) % 4 = (nw + 3 - (j - 1)) % 4 := by omega
    have ne : (nw + 3 - (j - 1)) % 4 ≠ nw := by omega
    obtain ⟨a, n', b⟩ := h5 (j - 1) (by omega)
    rw [e, show va_up f nw σ ((nw + 3 - (j - 1)) % 4) = f ((nw + 3 - (j - 1)) % 4) from if_neg ne]
    exact ⟨by omega, n', KRk_ag b (fun q hq => kSv_old h2 (by omega) hj q hq)⟩
theorem HR_undo {nw s k : Nat} {f : Nat → Dk} {sv : Nat → Int32} (h : HR nw (s + 1) k f sv) : HR ((nw + 3) % 4) s k f sv ∧ (nw + 3) % 4 < k ∧ ∃ n', KRk (f ((nw + 3) % 4)) (svP sv s) n' := by
  obtain ⟨h1, h2, h3, h4, h5⟩ := h
  obtain ⟨a, n', b⟩ := h5 0 (by omega)
  refine ⟨⟨by omega, by omega, h3, by omega, fun j hj => ?_⟩, a, n', b⟩
  obtain ⟨a', n'', b'⟩ := h5 (j + 1) (by omega)
  have e : ((nw + 3) % 4 + 3 - j) % 4 = (nw + 3 - (j + 1)) % 4 := by omega
  rw [e]
  rw [show s + 1 - 1 - (j + 1) = s - 1 - j by omega] at b'
  exact ⟨a', n'', b'⟩
theorem hmin : ∀ s, s < 5 → (if (4 : Int32) < nI (s + 1) then (4 : Int32) else nI (s + 1)) = nI (min (s + 1) 4) := by decide +kernel
theorem nI_0lt {n : Nat} (h : 0 < n) (hn : n < 2 ^ 31) : 0 < nI n := by
  rw [← nI_0]
  exact nI_lt h hn
theorem inX4_save_4 : ∀ w ∈ u_ws RX4 TX4 3, w ∈ wsX4_save := by decide +kernel
theorem fgX4_save_15 : FG wsX4_save RX4 15 4 1 := ⟨RX4, TX4, 3, rfl, inX4_save_4, by decide, by decide +kernel⟩
theorem mfJ9_floorMod_7cf53 : MF yJ9_floorMod_7cf53 wsJ9_floorMod_7cf53 cJ9_floorMod_7cf53 3 (some .int) 2 := ⟨⟨_, rfl⟩, by decide +kernel, by decide +kernel, by decide +kernel⟩
theorem foX4_save_15 : FO wsX4_save RX4 15 4 1 .int := ⟨RX4, TX4, 3, tyX4, rfl, inX4_save_4, by decide, by decide +kernel, tyX4_ok, nmX4, by decide +kernel, by decide +kernel⟩
theorem fgX4_save_20 : FG wsX4_save RX4 20 4 2 := ⟨RX4, TX4, 3, rfl, inX4_save_4, by decide, by decide +kernel⟩
theorem inX4_save_1 : ∀ w ∈ u_ws RX1 TX1 10, w ∈ wsX4_save := by decide +kernel
theorem fnX4_save_18 : FN wsX4_save RX4 18 1 10 [.int 0, .int 0, .int 0, .int 0, .int 0, .null, .null, .null, .null, .null] := ⟨RX1, TX1, tyX1, rfl, inX4_save_1, tyX1_ok, by decide +kernel, by decide +kernel, by decide +kernel, by decide +kernel⟩
theorem mfX1_init : MF yX1_init wsX1_init cX1_init 1 none 0 := ⟨⟨_, rfl⟩, by decide +kernel, by decide +kernel, by decide +kernel⟩
theorem mX4_save_instanceMethod_yX1_init : (Cond.instanceMethod yX1_init : Cond) ∈ wsX4_save := by decide +kernel
theorem mX4_save_initialized_RX1 : (Cond.initialized RX1 : Cond) ∈ wsX4_save := by decide +kernel
theorem mfX1_copyFrom : MF yX1_copyFrom wsX1_copyFrom cX1_copyFrom 3 none 1 := ⟨⟨_, rfl⟩, by decide +kernel, by decide +kernel, by decide +kernel⟩
theorem fgX4_save_9 : FG wsX4_save RX4 9 4 0 := ⟨RX4, TX4, 3, rfl, inX4_save_4, by decide, by decide +kernel⟩
theorem mX4_save_methodLink_RX4_35_Lib_Math_min_name : (Cond.methodLink RX4 35 Lib.Math.min.name : Cond) ∈ wsX4_save := by decide +kernel
theorem mX4_save_static_Lib_Math_min_name : (Cond.static Lib.Math.min.name : Cond) ∈ wsX4_save := by decide +kernel
theorem mX4_save_initialized_java_lang_Math : (Cond.initialized "java/lang/Math" : Cond) ∈ wsX4_save := by decide +kernel
theorem mX4_save_code_Lib_Math_min_name_Lib_Math_min_code_2_some_int : (Cond.code Lib.Math.min.name Lib.Math.min.code 2 (some .int) : Cond) ∈ wsX4_save := by decide +kernel
theorem foX4_save_9 : FO wsX4_save RX4 9 4 0 .int := ⟨RX4, TX4, 3, tyX4, rfl, inX4_save_4, by decide, by decide +kernel, tyX4_ok, nmX4, by decide +kernel, by decide +kernel⟩
theorem inX4_takeNewest_4 : ∀ w ∈ u_ws RX4 TX4 3, w ∈ wsX4_takeNewest := by decide +kernel
theorem fgX4_takeNewest_9 : FG wsX4_takeNewest RX4 9 4 0 := ⟨RX4, TX4, 3, rfl, inX4_takeNewest_4, by decide, by decide +kernel⟩
theorem fgX4_takeNewest_20 : FG wsX4_takeNewest RX4 20 4 2 := ⟨RX4, TX4, 3, rfl, inX4_takeNewest_4, by decide, by decide +kernel⟩
theorem fgX4_takeNewest_15 : FG wsX4_takeNewest RX4 15 4 1 := ⟨RX4, TX4, 3, rfl, inX4_takeNewest_4, by decide, by decide +kernel⟩
theorem foX4_takeNewest_15 : FO wsX4_takeNewest RX4 15 4 1 .int := ⟨RX4, TX4, 3, tyX4, rfl, inX4_takeNewest_4, by decide, by decide +kernel, tyX4_ok, nmX4, by decide +kernel, by decide +kernel⟩
theorem foX4_takeNewest_9 : FO wsX4_takeNewest RX4 9 4 0 .int := ⟨RX4, TX4, 3, tyX4, rfl, inX4_takeNewest_4, by decide, by decide +kernel, tyX4_ok, nmX4, by decide +kernel, by decide +kernel⟩
theorem inX5_startTrial_5 : ∀ w ∈ u_ws RX5 TX5 7, w ∈ wsX5_startTrial := by decide +kernel
theorem fgX5_startTrial_23 : FG wsX5_startTrial RX5 23 5 2 := ⟨RX5, TX5, 7, rfl, inX5_startTrial_5, by decide, by decide +kernel⟩
theorem fgX5_startTrial_10 : FG wsX5_startTrial RX5 10 5 0 := ⟨RX5, TX5, 7, rfl, inX5_startTrial_5, by decide, by decide +kernel⟩
theorem inX5_keepTrial_5 : ∀ w ∈ u_ws RX5 TX5 7, w ∈ wsX5_keepTrial := by decide +kernel
theorem fgX5_keepTrial_32 : FG wsX5_keepTrial RX5 32 5 4 := ⟨RX5, TX5, 7, rfl, inX5_keepTrial_5, by decide, by decide +kernel⟩
theorem fgX5_keepTrial_10 : FG wsX5_keepTrial RX5 10 5 0 := ⟨RX5, TX5, 7, rfl, inX5_keepTrial_5, by decide, by decide +kernel⟩
theorem mfX4_save : MF yX4_save wsX4_save cX4_save 3 none 1 := ⟨⟨_, rfl⟩, by decide +kernel, by decide +kernel, by decide +kernel⟩
theorem fgX5_keepTrial_23 : FG wsX5_keepTrial RX5 23 5 2 := ⟨RX5, TX5, 7, rfl, inX5_keepTrial_5, by decide, by decide +kernel⟩
theorem fgX5_keepTrial_19 : FG wsX5_keepTrial RX5 19 5 1 := ⟨RX5, TX5, 7, rfl, inX5_keepTrial_5, by decide, by decide +kernel⟩
theorem mfX0_find : MF yX0_find wsX0_find cX0_find 3 none 1 := ⟨⟨_, rfl⟩, by decide +kernel, by decide +kernel, by decide +kernel⟩

