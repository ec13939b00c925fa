/-! methods that throw -/
abbrev xIA : String := "java/lang/IllegalArgumentException"
abbrev xIS : String := "java/lang/IllegalStateException"
abbrev xIO : String := "java/lang/IndexOutOfBoundsException"
abbrev knm : List String := ["java/lang/RuntimeException", "java/lang/Exception"]
def kStr : List (Nat × String) := [(63, "an argument is out of range"), (77, "there are 16 blocks"), (89, "there is no such block"), (92, "cap is out of range"), (98, "limit is out of range"), (104, "weight or center is out of range"), (116, "the block does not stand, or the others would not bear the ship"), (129, "the block stands"), (172, "what is out of range"), (200, "stiffness is out of range"), (205, "value is out of range"), (210, "the text has 160 bytes"), (225, "there is no saved state")]
def kFace : List Cond := [.declares (Bundle.initS "java/lang/RuntimeException"), .declares (Bundle.initS "java/lang/Exception"), .declares (Bundle.initS "java/lang/Throwable"), .castable xIA xIA, .castable xIS xIS, .castable xIO xIO]
/-- what a throw wants of the state, beside the words that keep -/
def kXs (A : Nat → Prop) (U : State) : Prop := (∀ q ∈ kStr, ∃ a, vk_R RX5 q.1 q.2 a U) ∧ (vx_Zq Bundle.tN "UNASSIGNED_STACK" Bundle.steD A U U.heap ∧ vx_Zq Bundle.tN "SUPPRESSED_SENTINEL" Bundle.listD A U U.heap) ∧ (∀ w ∈ kFace, w.before #[] U = true) ∧ va_Nc xIS xIA U ∧ va_Nc xIA xIO U ∧ va_Nc xIS xIO U
theorem kFace_ok : ∀ w ∈ kFace, w.faceAtom = true ∧ w.onTables = true := by decide +kernel
theorem kXs.move {A B : Nat → Prop} {s U : State} (hW : s.WarmedH U.vm) (hH : ∀ a : Nat, a < s.heap.size → ¬ A a → U.heap[a]? = s.heap[a]?) (hAB : ∀ q, B q → A q) (h : kXs A s) : kXs B U := by
  obtain ⟨h1, ⟨h2, h3⟩, h4, h5, h6, h7⟩ := h
  refine ⟨fun q hq => ?_, ⟨((h2.moved hW.alike).kept hH).narrow hAB, ((h3.moved hW.alike).kept hH).narrow hAB⟩, fun w hw => ?_, h5.moved hW.alike, h6.moved hW.alike, h7.moved hW.alike⟩
  · obtain ⟨a, ha⟩ := h1 q hq
    exact ⟨a, ha.warm hW⟩
  · have e := Cond.faceAtom_setVm hW.alike w (kFace_ok w hw).1 (h4 w hw)
    exact va_tabs (u := s.setVm U.vm) (kFace_ok w hw).2 rfl e
def kPreX (D : KD) (w0 : va_W) (sz : Nat) (U : State) : Prop := kPre D w0 sz U ∧ kXs (va_A w0 sz) U
theorem kPreX.blind {D : KD} {w0 : va_W} {sz : Nat} {av : List Value} : FrameBlind (va_Pc av (kPreX D w0 sz)) := fun a U g mk q => by
  obtain ⟨q0, ⟨q1, qP, ⟨qK, qN⟩, qD⟩, qX⟩ := q
  exact ⟨q0, ⟨q1, qP, ⟨va_K.moved (u := U) (U := U.calling g mk a) (Vm.Alike.refl U.vm) qK, qN.same rfl⟩, qD⟩, qX.move (State.WarmedH.refl U) (fun _ _ _ => rfl) (fun _ h => h)⟩
/-- a method that throws E, always -/
def MX (l : Launch) (D : KD) (y : MethodName) (ws : List Cond) (fr lo mc ms : Nat) (av : List Value) (w0 : va_W) (E : String) (post : va_W → Prop) : Prop := ∀ sz : Nat, vx_Met l y ws (kR fr lo mc ms) (va_Pc av (kPreX D w0 sz)) (va_Qi (fun (_ : Int32) (_ : va_W) => False) (fun _ _ => False) (va_A w0 sz)) (vx_X post (fun E' u t => E' = E ∧ kB D w0 sz u t) (va_A w0 sz)) mc ms (va_A w0 sz)
def kThr (D : KD) (X : KX) (w0 : va_W) (E : String) (post : va_W → Prop) (mc ms : Nat) : Prop := (kXs (xA X) (xs X) ∧ (xM X).locks = false ∧ (∀ z ∈ (xc X).exceptionTable.toList, False) ∧ (xl X).stackTraces = false) ∧ xQ X = vx_MQ (xb X) (va_Qi (fun (_ : Int32) (_ : va_W) => False) (fun _ _ => False) (va_A w0 (xs X).heap.size)) (vx_X post (fun E' u t => E' = E ∧ kB D w0 (xs X).heap.size u t) (va_A w0 (xs X).heap.size)) (xa X) (xs X) mc ms (va_A w0 (xs X).heap.size) ∧ xA X = va_A w0 (xs X).heap.size
set_option maxHeartbeats 1000000 in
theorem MX.of {l : Launch} {D : KD} {y : MethodName} {ws ws' : List Cond} {fr lo mc ms : Nat} {av : List Value} {w0 : va_W} {cc : ByteArray} {nL : Nat} {lv0 : List (Nat × Value)} {E : String} {post : va_W → Prop} {ret : Option FieldType} (hst : l.stackTraces = false) (hy : plainName y.cls = true) (hw : ws = Cond.code y cc nL ret :: ws') (hn : (lg_sl av).length ≤ nL) (hlv : lv_args 0 av = lv0)
    (body : ∀ X : KX, xl X = l → (xM X).name = y.name → Cx D X cc y.cls ws fr lo mc ms nL → kThr D X w0 E post mc ms → J D X w0 0 0 0 lv0 []) : MX l D y ws fr lo mc ms av w0 E post := by
  intro sz
  refine vx_ofW (cc := cc) (maxL := nL) (ret := ret) hy hw ?_
  intro p e s m args below meth c s₁ B hml hout hv
  obtain ⟨rfl, ⟨hsz, hP, ⟨hK, hN⟩, hD0⟩, hXs⟩ := hv
  have hx := B.exec
  have hb := B.bytes
  have hr := B.returns
  have hts := atoms_spec (ws := ws) B.pre
  have hown : s.vm.findClass y.cls = some m.cls := findClass_of_methodNamed B.named
  have hlocks := B.notSynchronized
  have hin : meth.name = y.name := (name_of_methodNamed B.named B.method).1
  subst hsz
  have hD := hD0.self (sz := s.heap.size)
  have hS : va_S (va_A w0 s.heap.size) s.heap s.heap [] := va_S.rf
  have hl := lv_entry av (n := nL) hn
  rw [hlv] at hl
  rw [lg_entry_eq]
  exact body (p, l, e, kR fr lo mc ms, s, m, av.toArray, below, meth, c, _, va_A w0 s.heap.size, nL) rfl hin ⟨⟨hx, hb, hml, hown, hts⟩, ⟨hK, hN⟩, fun q h => Or.inr h, ⟨rfl, rfl, rfl, rfl⟩, rfl⟩ ⟨⟨hXs, hlocks, hout, hst⟩, rfl, rfl⟩ s.heap [] _ hP hD hS hl
section JTHROW
variable {D : KD} {X : KX} {cc : ByteArray} {own : String} {Ts : List Cond} {fr lo mc ms nL : Nat} {w : va_W} {k n pc : Nat} {lv : List (Nat × Value)} {st rest : List Value}
theorem knm_fit : ∀ n ∈ knm, Bundle.fit n = true := by decide +kernel
set_option maxHeartbeats 1000000 in
theorem j_throwS (C : Cx D X cc RX5 Ts fr lo mc ms nL) {w0 : va_W} {E : String} {post : va_W → Prop} (T : kThr D X w0 E post mc ms) {ik is ic : Nat} {text : String} (hst : (is, text) ∈ kStr) (hcls : Bundle.fit E = true) (hk : Cond.classLink RX5 ik E ∈ Ts) (hini : Cond.initialized E ∈ Ts)
    (hg : ∀ w ∈ (vx_atS RX5 ic E knm).filter goodWord, w ∈ Ts) (hf : ∀ w ∈ (vx_atS RX5 ic E knm).filter (fun w => !goodWord w), w ∈ kFace) (hgood : ∀ w ∈ Cond.classLink RX5 ik E :: Cond.initialized E :: vx_atS RX5 ic E knm, vx_ot w = true)
    (d0 : decode cc pc = .ok (.new ik, 3)) (d3 : decode cc (pc + 3) = .ok (.dup, 1)) (d4 : decode cc (pc + 4) = .ok (.ldc is, 2)) (d6 : decode cc (pc + 6) = .ok (.invokespecial ic, 3)) (d9 : decode cc (pc + 9) = .ok (.athrow, 1))
    (hfr : 6 ≤ fr) (hlo : 82 ≤ lo) (hk1 : k + 1 ≤ mc) (hn6 : n + 6 ≤ ms) (hp : post w) : J D X w k n pc lv [] := by
  obtain ⟨⟨⟨h1, ⟨h2, h3⟩, h4, -⟩, hlocks, hout, hl0⟩, hQ, hA⟩ := T
  obtain ⟨sa, hsa⟩ := h1 _ hst
  obtain ⟨hR1, hR2, hR3, hR4⟩ := C.hR
  intro H locs ls hP hD hS hl
  rw [hQ]
  refine vx_throwS (names := knm) C.hx C.hb hl0 C.hown hcls knm_fit (C.hts _ hk) (C.hts _ hini) hsa (vx_hat (B := kFace) (fun w hw => C.hts _ (hg w hw)) hf (fun w hw => ?_)) hgood h2 h3 hS (by rw [C.hml]; exact hl.1) d0 d3 d4 d6 d9 (fun x hx => (hout x hx).elim) (by rw [hR1]; show 2 + 3 < fr; omega) (by rw [hR2]; show 0 + (13 * (2 + 1) + 43) ≤ lo; omega) (by rw [hR3]; exact hk1) (by rw [hR4]; exact hn6) hlocks ?_ (fun z hz => hA ▸ hS.2.2 z hz) hk1 hn6
  · exact va_tabs (kFace_ok w hw).2 rfl (h4 w hw)
  · intro t hal hsz hsame
    refine ⟨w, hp, ⟨rfl, fun q p hq => (hP q p hq).kept (hsame _ (hP q p hq).lt), hA ▸ hD⟩, Nat.le_trans hS.1 hsz, fun q hq hn => ?_⟩
    rw [hsame q (Nat.lt_of_lt_of_le hq hS.1)]
    exact hS.2.1 q hq (fun z => hn (hA ▸ z))
end JTHROW
theorem pIn_out {y : Int32} {g : Nat} (h : pIn y 0 (nI g) = false) (hg : g < 2 ^ 31 := by decide) : y.toInt < 0 ∨ (g : Int) < y.toInt := by
  rcases Int.lt_or_le y.toInt 0 with a | a
  · exact Or.inl a
  · rcases Int.lt_or_le (g : Int) y.toInt with b | b
    · exact Or.inr b
    · have e : pIn y 0 (nI g) = true := by
        simp only [pIn, Bool.and_eq_true, decide_eq_true_eq, Int32.le_iff_toInt_le, i32_0, nI_toInt hg]
        exact ⟨a, b⟩
      rw [e] at h
      cases h

