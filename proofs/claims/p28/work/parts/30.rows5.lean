/-! contracts: weaker behind, more cells around -/
theorem Met.mono' {l : Launch} {y : MethodName} {ws : List Cond} {rm : Room} {Pc Pc' : Array Value → State → Prop} {Qc Qc' : Array Value → State → Outcome → State → Prop} {mc ms : Nat} {free free' : Addr → Prop} (h : Met l y ws rm Pc Qc mc ms free) (hP : ∀ a s, Pc' a s → Pc a s) (hQ : ∀ a s o t, Pc' a s → Qc a s o t → Qc' a s o t) (hf : ∀ q, free q → free' q) : Met l y ws rm Pc' Qc' mc ms free' :=
  MetFree.mono h hP (fun _ _ _ _ _ h => h) (fun a s o t hp hq => ⟨hQ a s o t hp hq.1, hq.2.imp fun L hL => ⟨hL.1, fun q hq => hf _ (hL.2 q hq)⟩⟩)
theorem kIncl {w wc : va_W} {sz : Nat} (isC : List Nat) (hC : isC.map (fun i => w[i]?) = wc.map some) : ∀ q, va_A wc sz q → va_A w sz q := by
  intro q h
  rcases h with ⟨k, e, h⟩ | h
  · have h1 : (isC.map (fun i => w[i]?))[k]? = some (some (q, e)) := by rw [hC, List.getElem?_map, h]; rfl
    rw [List.getElem?_map] at h1
    obtain ⟨i, -, hi⟩ := Option.map_eq_some_iff.mp h1
    exact Or.inl ⟨i, e, hi⟩
  · exact Or.inr h
theorem MV.imp {l : Launch} {D : KD} {y : MethodName} {ws : List Cond} {fr lo mc ms : Nat} {av : List Value} {w : va_W} {post post' : va_W → Prop} (h : MV l D y ws fr lo mc ms av w post) (hi : ∀ w1, post w1 → post' w1) : MV l D y ws fr lo mc ms av w post' := by
  intro sz
  refine Met.mono' (h sz) (fun _ _ h => h) ?_ (fun _ h => h)
  rintro a s o t - ⟨⟨u, ho, hu, hB⟩, hF⟩
  exact ⟨⟨u, ho, hi _ hu, hB⟩, hF⟩
theorem MV.frame {l : Launch} {D : KD} {y : MethodName} {ws : List Cond} {fr lo mc ms : Nat} {av : List Value} {w wc : va_W} {post : va_W → Prop} (h : MV l D y ws fr lo mc ms av wc post) (isC : List Nat) (hC : isC.map (fun i => w[i]?) = wc.map some) (hnd : va_nd isC = true) (ha : ∀ w1, post w1 → (w1.take wc.length).map Prod.fst = wc.map Prod.fst) : MV l D y ws fr lo mc ms av w (fun w' => ∃ w1, post w1 ∧ w' = kPut w isC w1) := by
  intro sz
  refine Met.mono' (h sz) ?_ ?_ (kIncl isC hC)
  · rintro a s ⟨hv, hsz, hP, hK, hD⟩
    obtain ⟨hPc, hDc⟩ := kCut hP hD isC hC hnd
    exact ⟨hv, hsz, hPc, hK, hDc⟩
  · rintro a s o t ⟨-, hsz, hP, hK, hD⟩ ⟨⟨u, ho, hu, hP1, hD1⟩, hF1, hF2⟩
    subst hsz
    obtain ⟨hP2, hD2⟩ := kPut_ok hP (hD.self (sz := s.heap.size)) isC hC (ha u hu) (fun q hq hn => hF2 q hq hn) (kIncl isC hC) hP1 hD1
    exact ⟨⟨kPut w isC u, ho, ⟨u, hu, rfl⟩, hP2, hD2⟩, hF1, fun q hq hn => hF2 q hq (fun z => hn (kIncl isC hC q z))⟩
theorem MI.imp {l : Launch} {D : KD} {y : MethodName} {ws : List Cond} {fr lo mc ms : Nat} {av : List Value} {w : va_W} {post post' : Int32 → va_W → Prop} (h : MI l D y ws fr lo mc ms av w post) (hi : ∀ r w1, post r w1 → post' r w1) : MI l D y ws fr lo mc ms av w post' := by
  intro sz
  refine Met.mono' (h sz) (fun _ _ h => h) ?_ (fun _ h => h)
  rintro a s o t - ⟨⟨r, u, ho, hu, hB⟩, hF⟩
  exact ⟨⟨r, u, ho, hi _ _ hu, hB⟩, hF⟩
theorem MI.frame {l : Launch} {D : KD} {y : MethodName} {ws : List Cond} {fr lo mc ms : Nat} {av : List Value} {w wc : va_W} {post : Int32 → va_W → Prop} (h : MI l D y ws fr lo mc ms av wc post) (isC : List Nat) (hC : isC.map (fun i => w[i]?) = wc.map some) (hnd : va_nd isC = true) (ha : ∀ r w1, post r w1 → (w1.take wc.length).map Prod.fst = wc.map Prod.fst) : MI l D y ws fr lo mc ms av w (fun r w' => ∃ w1, post r w1 ∧ w' = kPut w isC w1) := by
  intro sz
  refine Met.mono' (h sz) ?_ ?_ (kIncl isC hC)
  · rintro a s ⟨hv, hsz, hP, hK, hD⟩
    obtain ⟨hPc, hDc⟩ := kCut hP hD isC hC hnd
    exact ⟨hv, hsz, hPc, hK, hDc⟩
  · rintro a s o t ⟨-, hsz, hP, hK, hD⟩ ⟨⟨r, u, ho, hu, hP1, hD1⟩, hF1, hF2⟩
    subst hsz
    obtain ⟨hP2, hD2⟩ := kPut_ok hP (hD.self (sz := s.heap.size)) isC hC (ha _ u hu) (fun q hq hn => hF2 q hq hn) (kIncl isC hC) hP1 hD1
    exact ⟨⟨r, kPut w isC u, ho, ⟨u, hu, rfl⟩, hP2, hD2⟩, hF1, fun q hq hn => hF2 q hq (fun z => hn (kIncl isC hC q z))⟩
theorem ML.imp {l : Launch} {D : KD} {y : MethodName} {ws : List Cond} {fr lo mc ms : Nat} {av : List Value} {w : va_W} {post post' : Int64 → va_W → Prop} (h : ML l D y ws fr lo mc ms av w post) (hi : ∀ r w1, post r w1 → post' r w1) : ML l D y ws fr lo mc ms av w post' := by
  intro sz
  refine Met.mono' (h sz) (fun _ _ h => h) ?_ (fun _ h => h)
  rintro a s o t - ⟨⟨r, u, ho, hu, hB⟩, hF⟩
  exact ⟨⟨r, u, ho, hi _ _ hu, hB⟩, hF⟩
theorem ML.frame {l : Launch} {D : KD} {y : MethodName} {ws : List Cond} {fr lo mc ms : Nat} {av : List Value} {w wc : va_W} {post : Int64 → va_W → Prop} (h : ML l D y ws fr lo mc ms av wc post) (isC : List Nat) (hC : isC.map (fun i => w[i]?) = wc.map some) (hnd : va_nd isC = true) (ha : ∀ r w1, post r w1 → (w1.take wc.length).map Prod.fst = wc.map Prod.fst) : ML l D y ws fr lo mc ms av w (fun r w' => ∃ w1, post r w1 ∧ w' = kPut w isC w1) := by
  intro sz
  refine Met.mono' (h sz) ?_ ?_ (kIncl isC hC)
  · rintro a s ⟨hv, hsz, hP, hK, hD⟩
    obtain ⟨hPc, hDc⟩ := kCut hP hD isC hC hnd
    exact ⟨hv, hsz, hPc, hK, hDc⟩
  · rintro a s o t ⟨-, hsz, hP, hK, hD⟩ ⟨⟨r, u, ho, hu, hP1, hD1⟩, hF1, hF2⟩
    subst hsz
    obtain ⟨hP2, hD2⟩ := kPut_ok hP (hD.self (sz := s.heap.size)) isC hC (ha _ u hu) (fun q hq hn => hF2 q hq hn) (kIncl isC hC) hP1 hD1
    exact ⟨⟨r, kPut w isC u, ho, ⟨u, hu, rfl⟩, hP2, hD2⟩, hF1, fun q hq hn => hF2 q hq (fun z => hn (kIncl isC hC q z))⟩
theorem MO.imp {l : Launch} {D : KD} {y : MethodName} {ws : List Cond} {fr lo mc ms : Nat} {av : List Value} {w : va_W} {post post' : Option Nat → va_W → Prop} (h : MO l D y ws fr lo mc ms av w post) (hi : ∀ r w1, post r w1 → post' r w1) : MO l D y ws fr lo mc ms av w post' := by
  intro sz
  refine Met.mono' (h sz) (fun _ _ h => h) ?_ (fun _ h => h)
  rintro a s o t - ⟨⟨r, u, ho, hu, hB⟩, hF⟩
  exact ⟨⟨r, u, ho, hi _ _ hu, hB⟩, hF⟩
theorem MO.frame {l : Launch} {D : KD} {y : MethodName} {ws : List Cond} {fr lo mc ms : Nat} {av : List Value} {w wc : va_W} {post : Option Nat → va_W → Prop} (h : MO l D y ws fr lo mc ms av wc post) (isC : List Nat) (hC : isC.map (fun i => w[i]?) = wc.map some) (hnd : va_nd isC = true) (ha : ∀ r w1, post r w1 → (w1.take wc.length).map Prod.fst = wc.map Prod.fst) : MO l D y ws fr lo mc ms av w (fun r w' => ∃ w1, post r w1 ∧ w' = kPut w isC w1) := by
  intro sz
  refine Met.mono' (h sz) ?_ ?_ (kIncl isC hC)
  · rintro a s ⟨hv, hsz, hP, hK, hD⟩
    obtain ⟨hPc, hDc⟩ := kCut hP hD isC hC hnd
    exact ⟨hv, hsz, hPc, hK, hDc⟩
  · rintro a s o t ⟨-, hsz, hP, hK, hD⟩ ⟨⟨r, u, ho, hu, hP1, hD1⟩, hF1, hF2⟩
    subst hsz
    obtain ⟨hP2, hD2⟩ := kPut_ok hP (hD.self (sz := s.heap.size)) isC hC (ha _ u hu) (fun q hq hn => hF2 q hq hn) (kIncl isC hC) hP1 hD1
    exact ⟨⟨r, kPut w isC u, ho, ⟨u, hu, rfl⟩, hP2, hD2⟩, hF1, fun q hq hn => hF2 q hq (fun z => hn (kIncl isC hC q z))⟩
/-! worlds with a tail -/
def rng (b n : Nat) : List Nat := (List.range n).map (fun i => b + i)
theorem rng_0 (b : Nat) : rng b 0 = [] := rfl
theorem rng_s (b n : Nat) : rng b (n + 1) = b :: rng (b + 1) n := by
  unfold rng
  rw [List.range_succ_eq_map, List.map_cons, List.map_map]
  congr 1
  apply List.map_congr_left
  intro i _
  show b + (i + 1) = b + 1 + i
  omega
theorem rng_at {w : va_W} : ∀ (K : va_W), (rng K.length w.length).map (fun i => (K ++ w)[i]?) = w.map some := by
  induction w with
  | nil => intro K; rfl
  | cons t ts ih =>
    intro K
    show (rng K.length (ts.length + 1)).map _ = _
    rw [rng_s, List.map_cons, List.map_cons]
    have h1 : (K ++ t :: ts)[K.length]? = some t := by simp
    rw [h1]
    have h2 := ih (K ++ [t])
    rw [List.length_append, List.append_assoc] at h2
    exact congrArg _ h2
theorem is_lt {K Kc : va_W} {is : List Nat} (h : is.map (fun i => K[i]?) = Kc.map some) : ∀ i ∈ is, i < K.length := by
  intro i hi
  have h1 : K[i]? ∈ Kc.map some := by rw [← h]; exact List.mem_map.mpr ⟨i, hi, rfl⟩
  obtain ⟨c, -, hc⟩ := List.mem_map.mp h1
  exact (List.getElem?_eq_some_iff.mp hc.symm).1
theorem tl_hC {K Kc : va_W} (tl : va_W) {is : List Nat} (h : is.map (fun i => K[i]?) = Kc.map some) : (is ++ rng K.length tl.length).map (fun i => (K ++ tl)[i]?) = (Kc ++ tl).map some := by
  rw [List.map_append, List.map_append, rng_at K, ← h]
  congr 1
  apply List.map_congr_left
  intro i hi
  exact List.getElem?_append_left (is_lt h i hi)
theorem tl_hC0 {K Kc : va_W} (tl : va_W) {is : List Nat} (h : is.map (fun i => K[i]?) = Kc.map some) : is.map (fun i => (K ++ tl)[i]?) = Kc.map some := by
  rw [← h]
  apply List.map_congr_left
  intro i hi
  exact List.getElem?_append_left (is_lt h i hi)
theorem nd_iff : ∀ (l : List Nat), va_nd l = true ↔ l.Nodup
  | [] => by simp [va_nd]
  | a :: l => by simp [va_nd, nd_iff l]
theorem tl_nd {K Kc : va_W} {is : List Nat} (n : Nat) (h : is.map (fun i => K[i]?) = Kc.map some) (hn : va_nd is = true) : va_nd (is ++ rng K.length n) = true := by
  rw [nd_iff] at hn ⊢
  rw [List.nodup_append]
  refine ⟨hn, ?_, ?_⟩
  · unfold rng
    rw [List.nodup_iff_pairwise_ne, List.pairwise_map]
    exact List.Pairwise.imp (fun {a b} (h : a < b) => by omega) List.pairwise_lt_range
  · intro a ha b hb
    have h1 := is_lt h a ha
    obtain ⟨i, -, hi⟩ := List.mem_map.mp hb
    omega
theorem kPut_rng {w : va_W} : ∀ (K w' : va_W), w.length ≤ w'.length → kPut (K ++ w) (rng K.length w.length) w' = K ++ w' := by
  induction w with
  | nil => intro K w' _; show kPut (K ++ []) [] w' = _; rw [kPut, List.append_nil]
  | cons t ts ih =>
    intro K w' hl
    cases w' with
    | nil => simp at hl
    | cons c cs =>
      show kPut (K ++ t :: ts) (rng K.length (ts.length + 1)) (c :: cs) = _
      rw [rng_s, kPut]
      have h1 : (K ++ t :: ts).set K.length c = (K ++ [c]) ++ ts := by
        rw [List.set_append_right _ _ (Nat.le_refl _), Nat.sub_self]
        simp
      rw [h1]
      have h2 := ih (K ++ [c]) cs (by simp at hl; omega)
      rw [List.length_append] at h2
      exact h2.trans (by simp)
theorem tl_put {tl tl' : va_W} (ht : tl.length ≤ tl'.length) : ∀ (is : List Nat) (K Kc' : va_W), is.length = Kc'.length → (∀ i ∈ is, i < K.length) → kPut (K ++ tl) (is ++ rng K.length tl.length) (Kc' ++ tl') = kPut K is Kc' ++ tl'
  | [], K, Kc', hl, _ => by
    obtain rfl : Kc' = [] := List.length_eq_zero_iff.mp hl.symm
    rw [kPut, List.append_nil]
    exact kPut_rng K tl' ht
  | i :: is, K, Kc', hl, hb => by
    cases Kc' with
    | nil => simp at hl
    | cons c cs =>
      show kPut ((K ++ tl).set i c) (is ++ rng K.length tl.length) (cs ++ tl') = kPut (K.set i c) is cs ++ tl'
      rw [List.set_append_left _ _ (hb i List.mem_cons_self)]
      have h1 := tl_put ht is (K.set i c) cs (by simpa using hl) (fun j hj => by rw [List.length_set]; exact hb j (List.mem_cons_of_mem _ hj))
      rw [List.length_set] at h1
      exact h1
theorem tl_put0 {tl : va_W} : ∀ (is : List Nat) (K Kc' : va_W), is.length = Kc'.length → (∀ i ∈ is, i < K.length) → kPut (K ++ tl) is Kc' = kPut K is Kc' ++ tl
  | [], K, Kc', hl, _ => by
    obtain rfl : Kc' = [] := List.length_eq_zero_iff.mp hl.symm
    rw [kPut, kPut, List.append_nil, List.append_nil]
  | i :: is, K, Kc', hl, hb => by
    cases Kc' with
    | nil => simp at hl
    | cons c cs =>
      show kPut ((K ++ tl).set i c) is cs = kPut (K.set i c) is cs ++ tl
      rw [List.set_append_left _ _ (hb i List.mem_cons_self)]
      exact tl_put0 is (K.set i c) cs (by simpa using hl) (fun j hj => by rw [List.length_set]; exact hb j (List.mem_cons_of_mem _ hj))
theorem tl_fst {Kc Kc' tl tl' : va_W} (h : Kc'.map Prod.fst = Kc.map Prod.fst) (h2 : (tl'.take tl.length).map Prod.fst = tl.map Prod.fst) : ((Kc' ++ tl').take (Kc ++ tl).length).map Prod.fst = (Kc ++ tl).map Prod.fst := by
  have hl : Kc'.length = Kc.length := by have := congrArg List.length h; simpa using this
  rw [List.length_append, ← hl, List.take_length_add_append, List.map_append, List.map_append, h, h2]
theorem tl_le {tl tl' : va_W} (h : (tl'.take tl.length).map Prod.fst = tl.map Prod.fst) : tl.length ≤ tl'.length := by
  have := congrArg List.length h
  simp only [List.length_map, List.length_take] at this
  omega
def cp0 (f g : Nat → Int32) (i : Nat) : Nat → Int32 := fun j => if j < i then f j else g j
theorem cp0_0 (f g : Nat → Int32) : cp0 f g 0 = g := by funext j; simp [cp0]
theorem cp0_s (f g : Nat → Int32) (i : Nat) : upd (cp0 f g i) i (f i) = cp0 f g (i + 1) := by
  funext j
  by_cases h : j = i
  · subst h
    rw [pk_us]
    simp [cp0]
  · rw [pk_un h]
    unfold cp0
    by_cases h2 : j < i
    · rw [if_pos h2, if_pos (by omega)]
    · rw [if_neg h2, if_neg (by omega)]
theorem cp0_16 (f g : Nat → Int32) (j : Nat) (h : j < 16) : cp0 f g 16 j = f j := by simp [cp0, h]
/-- a body whose class has natives, where the method itself has none -/
theorem Met.ofWF {l : Launch} {y : MethodName} {ws ws' : List Cond} {rm : Room} {Pc : Array Value → State → Prop} {Qc : Array Value → State → Outcome → State → Prop} {mc ms : Nat} {free : Addr → Prop} {cc : ByteArray} {maxL : Nat} {ret : Option FieldType} (hy : plainFor y = true) (hw : ws = Cond.code y cc maxL ret :: ws')
    (body : ∀ p e s m args below meth c s₁, BodyLoose p l y (headSpec ws rm) cc maxL ret e s m args below meth c s₁ → c.maxLocals = maxL → Pc args s → W p l e (headSpec ws rm).room s m args below meth c s.heap [] 0 0 (MQ below Qc args s mc ms free) (entryFrame m args maxL)) : Met l y ws rm Pc Qc mc ms free := by
  refine MetFree.of_bodySF (code := cc) (maxLocals := maxL) (ret := ret) hy (fun args s m h hn => ?_) (fun p e s m args below meth c s₁ B hml hP _ => ?_)
  · obtain ⟨meth, c, g1, g2, g3, g4, g5, g6, -⟩ := Cond.code_spec hn (atoms_spec (ws := ws) h _ (by rw [hw]; exact List.mem_cons_self))
    exact ⟨meth, c, g1, g2, g3, g4, g5, g6⟩
  · obtain ⟨t, a1, o, b1, b2, b3⟩ := body p e s m args below meth c s₁ B hml hP s₁ (by rw [B.state]; rfl) (Stand.of_body B)
    exact ⟨t, o, a1, b1, b2, b3⟩
set_option maxHeartbeats 1000000 in
theorem MI.ofF {l : Launch} {D : KD} {y : MethodName} {ws ws' : List Cond} {fr lo mc ms : Nat} {av : List Value} {w0 : va_W} {cc : ByteArray} {nL : Nat} {lv0 : List (Nat × Value)} {post : Int32 → va_W → Prop} (hy : plainFor y = true) (hw : ws = Cond.code y cc nL (some .int) :: ws') (hn : (lg_sl av).length ≤ nL) (hlv : lv_args 0 av = lv0)
    (body : ∀ X : KX, xl X = l → (xM X).name = y.name → Cx D X cc y.cls ws fr lo mc ms nL → (∀ {pc : Nat} {r : Int32} {w : va_W} {lv : List (Nat × Value)}, decode cc pc = .ok (.ireturn, 1) → post r w → J D X w mc ms pc lv [.int r]) → J D X w0 0 0 0 lv0 []) : MI l D y ws fr lo mc ms av w0 post := by
  intro sz
  refine Met.ofWF (cc := cc) (maxL := nL) (ret := (some .int)) hy hw ?_
  intro p e s m args below meth c s₁ B hml hv
  obtain ⟨rfl, hsz, hP, ⟨hK, hN⟩, hD0⟩ := hv
  have hx := B.exec
  have hb := B.bytes
  have hr := B.returns
  have hts := atoms_spec (ws := ws) B.pre
  have hown : s.vm.findClass y.cls = some m.cls := findClass_of_methodNamed B.named
  have hlocks := B.notSynchronized
  have hin : meth.name = y.name := (name_of_methodNamed B.named B.method).1
  subst hsz
  have hD := hD0.self (sz := s.heap.size)
  have hS : va_S (va_A w0 s.heap.size) s.heap s.heap [] := va_S.rf
  have hl := lv_entry av (n := nL) hn
  rw [hlv] at hl
  rw [lg_entry_eq]
  refine body (p, l, e, kR fr lo mc ms, s, m, av.toArray, below, meth, c, _, va_A w0 s.heap.size, nL) rfl hin ⟨⟨hx, hb, hml, hown, hts⟩, ⟨hK, hN⟩, fun q h => Or.inr h, ⟨rfl, rfl, rfl, rfl⟩, rfl⟩ ?_ s.heap [] _ hP hD hS hl
  exact fun hd hq H locs ls hP hD hS hl => W.iret hx hb hr (fun t ht hW => ⟨⟨_, _, rfl, hq, by rw [ht]; exact hP, hD⟩, hS.F ht⟩) hS.2.2 hd hlocks

