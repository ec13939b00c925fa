/-! contracts: weaker behind, more cells around -/
theorem Met.mono' {l : Launch} {y : MethodName} {ws : List Cond} {rm : Room} {Pc Pc' : Array Value → State → Prop} {Qc Qc' : Array Value → State → Outcome → State → Prop} {mc ms : Nat} {free free' : Addr → Prop} (h : Met l y ws rm Pc Qc mc ms free) (hP : ∀ a s, Pc' a s → Pc a s) (hQ : ∀ a s o t, Pc' a s → Qc a s o t → Qc' a s o t) (hf : ∀ q, free q → free' q) : Met l y ws rm Pc' Qc' mc ms free' :=
  MetFree.mono h hP (fun _ _ _ _ _ h => h) (fun a s o t hp hq => ⟨hQ a s o t hp hq.1, hq.2.imp fun L hL => ⟨hL.1, fun q hq => hf _ (hL.2 q hq)⟩⟩)
theorem kIncl {w wc : va_W} {sz : Nat} (isC : List Nat) (hC : isC.map (fun i => w[i]?) = wc.map some) : ∀ q, va_A wc sz q → va_A w sz q := by
  intro q h
  rcases h with ⟨k, e, h⟩ | h
  · have h1 : (isC.map (fun i => w[i]?))[k]? = some (some (q, e)) := by rw [hC, List.getElem?_map, h]; rfl
    rw [List.getElem?_map] at h1
    obtain ⟨i, -, hi⟩ := Option.map_eq_some_iff.mp h1
    exact Or.inl ⟨i, e, hi⟩
  · exact Or.inr h
theorem MV.imp {l : Launch} {D : KD} {y : MethodName} {ws : List Cond} {fr lo mc ms : Nat} {av : List Value} {w : va_W} {post post' : va_W → Prop} (h : MV l D y ws fr lo mc ms av w post) (hi : ∀ w1, post w1 → post' w1) : MV l D y ws fr lo mc ms av w post' := by
  intro sz
  refine Met.mono' (h sz) (fun _ _ h => h) ?_ (fun _ h => h)
  rintro a s o t - ⟨⟨u, ho, hu, hB⟩, hF⟩
  exact ⟨⟨u, ho, hi _ hu, hB⟩, hF⟩
theorem MV.frame {l : Launch} {D : KD} {y : MethodName} {ws : List Cond} {fr lo mc ms : Nat} {av : List Value} {w wc : va_W} {post : va_W → Prop} (h : MV l D y ws fr lo mc ms av wc post) (isC : List Nat) (hC : isC.map (fun i => w[i]?) = wc.map some) (hnd : va_nd isC = true) (ha : ∀ w1, post w1 → (w1.take wc.length).map Prod.fst = wc.map Prod.fst) : MV l D y ws fr lo mc ms av w (fun w' => ∃ w1, post w1 ∧ w' = kPut w isC w1) := by
  intro sz
  refine Met.mono' (h sz) ?_ ?_ (kIncl isC hC)
  · rintro a s ⟨hv, hsz, hP, hK, hD⟩
    obtain ⟨hPc, hDc⟩ := kCut hP hD isC hC hnd
    exact ⟨hv, hsz, hPc, hK, hDc⟩
  · rintro a s o t ⟨-, hsz, hP, hK, hD⟩ ⟨⟨u, ho, hu, hP1, hD1⟩, hF1, hF2⟩
    subst hsz
    obtain ⟨hP2, hD2⟩ := kPut_ok hP (hD.self (sz := s.heap.size)) isC hC (ha u hu) (fun q hq hn => hF2 q hq hn) (kIncl isC hC) hP1 hD1
    exact ⟨⟨kPut w isC u, ho, ⟨u, hu, rfl⟩, hP2, hD2⟩, hF1, fun q hq hn => hF2 q hq (fun z => hn (kIncl isC hC q z))⟩
theorem MI.imp {l : Launch} {D : KD} {y : MethodName} {ws : List Cond} {fr lo mc ms : Nat} {av : List Value} {w : va_W} {post post' : Int32 → va_W → Prop} (h : MI l D y ws fr lo mc ms av w post) (hi : ∀ r w1, post r w1 → post' r w1) : MI l D y ws fr lo mc ms av w post' := by
  intro sz
  refine Met.mono' (h sz) (fun _ _ h => h) ?_ (fun _ h => h)
  rintro a s o t - ⟨⟨r, u, ho, hu, hB⟩, hF⟩
  exact ⟨⟨r, u, ho, hi _ _ hu, hB⟩, hF⟩
theorem MI.frame {l : Launch} {D : KD} {y : MethodName} {ws : List Cond} {fr lo mc ms : Nat} {av : List Value} {w wc : va_W} {post : Int32 → va_W → Prop} (h : MI l D y ws fr lo mc ms av wc post) (isC : List Nat) (hC : isC.map (fun i => w[i]?) = wc.map some) (hnd : va_nd isC = true) (ha : ∀ r w1, post r w1 → (w1.take wc.length).map Prod.fst = wc.map Prod.fst) : MI l D y ws fr lo mc ms av w (fun r w' => ∃ w1, post r w1 ∧ w' = kPut w isC w1) := by
  intro sz
  refine Met.mono' (h sz) ?_ ?_ (kIncl isC hC)
  · rintro a s ⟨hv, hsz, hP, hK, hD⟩
    obtain ⟨hPc, hDc⟩ := kCut hP hD isC hC hnd
    exact ⟨hv, hsz, hPc, hK, hDc⟩
  · rintro a s o t ⟨-, hsz, hP, hK, hD⟩ ⟨⟨r, u, ho, hu, hP1, hD1⟩, hF1, hF2⟩
    subst hsz
    obtain ⟨hP2, hD2⟩ := kPut_ok hP (hD.self (sz := s.heap.size)) isC hC (ha _ u hu) (fun q hq hn => hF2 q hq hn) (kIncl isC hC) hP1 hD1
    exact ⟨⟨r, kPut w isC u, ho, ⟨u, hu, rfl⟩, hP2, hD2⟩, hF1, fun q hq hn => hF2 q hq (fun z => hn (kIncl isC hC q z))⟩
theorem ML.imp {l : Launch} {D : KD} {y : MethodName} {ws : List Cond} {fr lo mc ms : Nat} {av : List Value} {w : va_W} {post post' : Int64 → va_W → Prop} (h : ML l D y ws fr lo mc ms av w post) (hi : ∀ r w1, post r w1 → post' r w1) : ML l D y ws fr lo mc ms av w post' := by
  intro sz
  refine Met.mono' (h sz) (fun _ _ h => h) ?_ (fun _ h => h)
  rintro a s o t - ⟨⟨r, u, ho, hu, hB⟩, hF⟩
  exact ⟨⟨r, u, ho, hi _ _ hu, hB⟩, hF⟩
theorem ML.frame {l : Launch} {D : KD} {y : MethodName} {ws : List Cond} {fr lo mc ms : Nat} {av : List Value} {w wc : va_W} {post : Int64 → va_W → Prop} (h : ML l D y ws fr lo mc ms av wc post) (isC : List Nat) (hC : isC.map (fun i => w[i]?) = wc.map some) (hnd : va_nd isC = true) (ha : ∀ r w1, post r w1 → (w1.take wc.length).map Prod.fst = wc.map Prod.fst) : ML l D y ws fr lo mc ms av w (fun r w' => ∃ w1, post r w1 ∧ w' = kPut w isC w1) := by
  intro sz
  refine Met.mono' (h sz) ?_ ?_ (kIncl isC hC)
  · rintro a s ⟨hv, hsz, hP, hK, hD⟩
    obtain ⟨hPc, hDc⟩ := kCut hP hD isC hC hnd
    exact ⟨hv, hsz, hPc, hK, hDc⟩
  · rintro a s o t ⟨-, hsz, hP, hK, hD⟩ ⟨⟨r, u, ho, hu, hP1, hD1⟩, hF1, hF2⟩
    subst hsz
    obtain ⟨hP2, hD2⟩ := kPut_ok hP (hD.self (sz := s.heap.size)) isC hC (ha _ u hu) (fun q hq hn => hF2 q hq hn) (kIncl isC hC) hP1 hD1
    exact ⟨⟨r, kPut w isC u, ho, ⟨u, hu, rfl⟩, hP2, hD2⟩, hF1, fun q hq hn => hF2 q hq (fun z => hn (kIncl isC hC q z))⟩
theorem MO.imp {l : Launch} {D : KD} {y : MethodName} {ws : List Cond} {fr lo mc ms : Nat} {av : List Value} {w : va_W} {post post' : Option Nat → va_W → Prop} (h : MO l D y ws fr lo mc ms av w post) (hi : ∀ r w1, post r w1 → post' r w1) : MO l D y ws fr lo mc ms av w post' := by
  intro sz
  refine Met.mono' (h sz) (fun _ _ h => h) ?_ (fun _ h => h)
  rintro a s o t - ⟨⟨r, u, ho, hu, hB⟩, hF⟩
  exact ⟨⟨r, u, ho, hi _ _ hu, hB⟩, hF⟩
theorem MO.frame {l : Launch} {D : KD} {y : MethodName} {ws : List Cond} {fr lo mc ms : Nat} {av : List Value} {w wc : va_W} {post : Option Nat → va_W → Prop} (h : MO l D y ws fr lo mc ms av wc post) (isC : List Nat) (hC : isC.map (fun i => w[i]?) = wc.map some) (hnd : va_nd isC = true) (ha : ∀ r w1, post r w1 → (w1.take wc.length).map Prod.fst = wc.map Prod.fst) : MO l D y ws fr lo mc ms av w (fun r w' => ∃ w1, post r w1 ∧ w' = kPut w isC w1) := by
  intro sz
  refine Met.mono' (h sz) ?_ ?_ (kIncl isC hC)
  · rintro a s ⟨hv, hsz, hP, hK, hD⟩
    obtain ⟨hPc, hDc⟩ := kCut hP hD isC hC hnd
    exact ⟨hv, hsz, hPc, hK, hDc⟩
  · rintro a s o t ⟨-, hsz, hP, hK, hD⟩ ⟨⟨r, u, ho, hu, hP1, hD1⟩, hF1, hF2⟩
    subst hsz
    obtain ⟨hP2, hD2⟩ := kPut_ok hP (hD.self (sz := s.heap.size)) isC hC (ha _ u hu) (fun q hq hn => hF2 q hq hn) (kIncl isC hC) hP1 hD1
    exact ⟨⟨r, kPut w isC u, ho, ⟨u, hu, rfl⟩, hP2, hD2⟩, hF1, fun q hq hn => hF2 q hq (fun z => hn (kIncl isC hC q z))⟩
