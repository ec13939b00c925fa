/-! methods that catch: the law's wrappers -/
def MIX (l : Launch) (D : KD) (y : MethodName) (ws : List Cond) (fr lo mc ms : Nat) (av : List Value) (w0 : va_W) (post : Int32 → va_W → Prop) : Prop := ∀ sz : Nat, Met l y ws (kR fr lo mc ms) (va_Pc av (kPreX D w0 sz)) (va_Qi post (kB D w0 sz) (va_A w0 sz)) mc ms (va_A w0 sz)
set_option maxHeartbeats 1000000 in
theorem MIX.of {l : Launch} {D : KD} {y : MethodName} {ws ws' : List Cond} {fr lo mc ms : Nat} {av : List Value} {w0 : va_W} {cc : ByteArray} {nL : Nat} {lv0 : List (Nat × Value)} {post : Int32 → va_W → Prop} {hh : List (Nat × Nat × Nat × Nat)} (hy : plainName y.cls = true) (hw : ws = Cond.codeWith y cc nL (some .int) hh :: ws') (hn : (lg_sl av).length ≤ nL) (hlv : lv_args 0 av = lv0)
    (body : ∀ X : KX, xl X = l → (xM X).name = y.name → Cx D X cc y.cls ws fr lo mc ms nL → kXs (xA X) (xs X) ∧ (xc X).exceptionTable.toList = tableOf hh → (∀ {pc : Nat} {r : Int32} {w : va_W} {lv : List (Nat × Value)}, decode cc pc = .ok (.ireturn, 1) → post r w → J D X w mc ms pc lv [.int r]) → J D X w0 0 0 0 lv0 []) : MIX l D y ws fr lo mc ms av w0 post := by
  intro sz
  have h : vx_Met l y ws (kR fr lo mc ms) (va_Pc av (kPreX D w0 sz)) (va_Qi post (kB D w0 sz) (va_A w0 sz)) (fun _ _ _ => False) mc ms (va_A w0 sz) := by
    refine vx_ofWH (cc := cc) (maxL := nL) (ret := (some .int)) (hh := hh) hy hw ?_
    intro p e s m args below meth c s₁ B hml hv
    obtain ⟨rfl, ⟨hsz, hP, ⟨hK, hN⟩, hD0⟩, hXs⟩ := hv
    have hx := B.exec
    have hb := B.bytes
    have hr := B.returns
    have hts := atoms_spec (ws := ws) B.pre
    have hown : s.vm.findClass y.cls = some m.cls := findClass_of_methodNamed B.named
    have hlocks := B.notSynchronized
    have hin : meth.name = y.name := (name_of_methodNamed B.named B.method).1
    have htab : c.exceptionTable.toList = tableOf hh := vx_table (x := y) B (hts _ (by rw [hw]; exact List.mem_cons_self))
    subst hsz
    have hD := hD0.self (sz := s.heap.size)
    have hS : va_S (va_A w0 s.heap.size) s.heap s.heap [] := va_S.rf
    have hl := lv_entry av (n := nL) hn
    rw [hlv] at hl
    rw [lg_entry_eq]
    refine vx_ret ?_
    refine body (p, l, e, kR fr lo mc ms, s, m, av.toArray, below, meth, c, _, va_A w0 s.heap.size, nL) rfl hin ⟨⟨hx, hb, hml, hown, hts⟩, ⟨hK, hN⟩, fun q h => Or.inr h, ⟨rfl, rfl, rfl, rfl⟩, rfl⟩ ⟨hXs, htab⟩ ?_ s.heap [] _ hP hD hS hl
    exact fun hd hq H locs ls hP hD hS hl => W.iret hx hb hr (fun t ht hW => ⟨⟨_, _, rfl, hq, by rw [ht]; exact hP, hD⟩, hS.F ht⟩) hS.2.2 hd hlocks
  exact MetFree.mono h (fun _ _ h => h) (fun _ _ _ _ _ h => h) (fun a s o t _ hq => hq.elim id (fun ⟨_, _, _, _, _, hF, _⟩ => hF.elim))
section JCATCH
variable {D : KD} {X : KX} {cc : ByteArray} {own : String} {Ts : List Cond} {fr lo mc ms nL : Nat} {w : va_W} {k n pc : Nat} {lv : List (Nat × Value)} {st rest : List Value}
variable {y : MethodName} {ws : List Cond} {fr' lo' mc' ms' : Nat} {As : List Value} {a n0 idx maxY : Nat} {wc : va_W} {cy : ByteArray} {ret : Option FieldType}
/-- a call that throws E, caught by the row x of this method's table -/
theorem jx_cv (C : Cx D X cc own Ts fr lo mc ms nL) {hh : List (Nat × Nat × Nat × Nat)} (KT : kXs (xA X) (xs X) ∧ (xc X).exceptionTable.toList = tableOf hh) {E : String} {post : va_W → Prop} (hM : MX (xl X) D y ws fr' lo' mc' ms' (.ref a :: As) wc E post) (hF : MF y ws cy maxY ret n0) (hG : GoodIn Ts (wsV own idx y.cls y ws)) (hlen : As.length = n0) (hfr : fr' + 1 ≤ fr) (hlo : 8 + (maxY + 11) + lo' ≤ lo) (hmc : k + mc' ≤ mc) (hms : n + ms' ≤ ms) (isC : List Nat) (hC : isC.map (fun i => w[i]?) = wc.map some) (hnd : va_nd isC = true) (q0 : Nat) {ci : Nat} {fs : List Value} {r0 : vw_C} (hq : wc[q0]? = some (a, .inr (ci, fs))) (hci : vwCl[ci]? = some r0) (hr0 : r0.1 = y.cls) (hst : st = As.reverse ++ .ref a :: rest) (hcat : (rest.map fun v => v.category).sum ≤ 8) (hd : decode cc pc = .ok (.invokevirtual idx, 3))
    (pre : List ExceptionTableEntry) (x : ExceptionTableEntry) (suf : List ExceptionTableEntry) (hsp : tableOf hh = pre ++ x :: suf) (hpass : ∀ z ∈ pre, covers z pc = false ∨ (z.catchType ≠ 0 ∧ ∃ nm : String, Cond.classLink own z.catchType nm ∈ Ts ∧ va_Nc E nm (xs X))) (hx : covers x pc = true) (h0 : x.catchType ≠ 0) (hlink : Cond.classLink own x.catchType E ∈ Ts) (hcast : Cond.castable E E ∈ kFace) {tgt : Nat} (htg : x.handlerPc = tgt)
    (kk : ∀ (q9 : Nat) (w1 : va_W), post w1 → (w1.take wc.length).map Prod.fst = wc.map Prod.fst ∧ J D X (kPut w isC w1) (k + mc') (n + ms') tgt lv [.ref q9]) : J D X w k n pc lv st := by
  subst htg
  intro H locs ls hP hD hS hl
  obtain ⟨⟨ws', hws⟩, hp1, hp2, hp3⟩ := hF
  obtain ⟨hR1, hR2, hR3, hR4⟩ := C.hR
  obtain ⟨hPc, hDc⟩ := kCut hP hD isC hC hnd
  have hF := va_free (wc := wc) hD hS C.hA isC hC
  refine vx_calli (vx_runV (As := As) (rest := rest) C.1 (hM H.size) (cwV n0 C.hts hG hws rfl rfl ⟨rfl, hp1, hp2, hp3⟩ ⟨by rw [hR1]; exact hfr, by rw [hR2]; exact hlo⟩) ⟨kPreX.blind, by rw [← hr0]; exact va_recv C.hK hPc hci hq, fun U hU hW => ⟨rfl, ⟨by rw [hU], by rw [hU]; exact hPc, ⟨va_K.moved hW.alike C.hK, C.hN.moved hW⟩, hDc⟩, KT.1.move hW (fun q hq hA => by rw [hU]; exact hS.2.1 q hq hA) hF⟩⟩ rfl hlen hl.1 hst (lv_room hcat) hd ⟨by rw [hR3]; exact hmc, by rw [hR4]; exact hms⟩) hS (fun q _ h => hF q h) hF (fun q _ h => hF q h) ?_ ?_
  · intro E' ce q9 u t H1 locs1 ht hvm hpu hBu hz1 hk1 hS1 hce hcv hcl
    obtain ⟨rfl, hP1, hD1⟩ := hBu
    rw [ht] at hP1
    obtain ⟨ha, kj⟩ := kk q9 u hpu
    obtain ⟨hP, hD⟩ := kPut_ok hP hD isC hC ha hk1 hF hP1 hD1
    refine vx_catch C.hown pre x suf (KT.2.trans hsp) (fun z hz => (hpass z hz).imp id (fun ⟨z0, nm, z1, z2⟩ => ⟨z0, nm, C.hts _ z1, z2⟩)) hx h0 (C.hts _ hlink) (va_tabs (kFace_ok _ hcast).2 rfl (KT.1.2.2.1 _ hcast)) hce hcv hcl (kj H1 locs1 ls hP hD hS1 hl)
  · intro r u t H1 locs1 ht hvm hpost hBu hz1 hk1 hS1
    exact hpost.elim
/-- a call of a wrapper -/
theorem j_csW (C : Cx D X cc own Ts fr lo mc ms nL) (KT : kXs (xA X) (xs X)) {hh : List (Nat × Nat × Nat × Nat)} {post : Int32 → va_W → Prop} (hM : MIX (xl X) D y ws fr' lo' mc' ms' As wc post) (hw : ∃ ws', ws = Cond.codeWith y cy maxY ret hh :: ws') (hy : y.cls ≠ "java/lang/invoke/MethodHandle" ∧ y.cls ≠ "java/lang/invoke/VarHandle" ∧ (parseMethodDescriptor y.desc).map (fun d => d.parameters.length) = some n0) (hG : GoodIn Ts (va_wsS own idx y ws)) (hlen : As.length = n0) (hfr : fr' + 1 ≤ fr) (hlo : 8 + (maxY + 11) + lo' ≤ lo) (hmc : k + mc' ≤ mc) (hms : n + ms' ≤ ms) (isC : List Nat) (hC : isC.map (fun i => w[i]?) = wc.map some) (hnd : va_nd isC = true) (hst : st = As.reverse ++ rest) (hcat : (rest.map fun v => v.category).sum ≤ 8) (hd : decode cc pc = .ok (.invokestatic idx, 3)) (kk : ∀ (r : Int32) (w1 : va_W), post r w1 → (w1.take wc.length).map Prod.fst = wc.map Prod.fst ∧ J D X (kPut w isC w1) (k + mc') (n + ms') (pc + 3) lv (.int r :: rest)) : J D X w k n pc lv st := by
  intro H locs ls hP hD hS hl
  obtain ⟨ws', hws⟩ := hw
  obtain ⟨hR1, hR2, hR3, hR4⟩ := C.hR
  obtain ⟨hPc, hDc⟩ := kCut hP hD isC hC hnd
  have hF := va_free (wc := wc) hD hS C.hA isC hC
  refine va_calli (vx_runSW (As := As) (rest := rest) C.1 (hM H.size) (vx_cwSW n0 C.hts hG hws rfl rfl hy ⟨by rw [hR1]; exact hfr, by rw [hR2]; exact hlo⟩) ⟨kPreX.blind, fun U hU hW => ⟨rfl, ⟨by rw [hU], by rw [hU]; exact hPc, ⟨va_K.moved hW.alike C.hK, C.hN.moved hW⟩, hDc⟩, KT.move hW (fun q hq hA => by rw [hU]; exact hS.2.1 q hq hA) hF⟩⟩ rfl hlen hl.1 hst (lv_room hcat) hd ⟨by rw [hR3]; exact hmc, by rw [hR4]; exact hms⟩) hS (fun q _ h => hF q h) hF (fun r w1 t H1 locs1 ht hvm hw hB hz1 hk1 hS => ?_)
  obtain ⟨hP1, hD1⟩ := hB
  rw [ht] at hP1
  obtain ⟨ha, kj⟩ := kk r w1 hw
  obtain ⟨hP, hD⟩ := kPut_ok hP hD isC hC ha hk1 hF hP1 hD1
  exact kj H1 locs1 ls hP hD hS hl
end JCATCH
/-- the law's row of one long -/
def wOu (D : KD) (q : Nat → Nat) (f : Nat → Int64) : va_W := [(q 0, .inl (D.2.2.1, 1, .inr (.inl f)))]
theorem j_astore {D : KD} {X : KX} {cc : ByteArray} {own : String} {Ts : List Cond} {fr lo mc ms nL : Nat} {w : va_W} {k n pc : Nat} {lv : List (Nat × Value)} {st : List Value} (C : Cx D X cc own Ts fr lo mc ms nL) {i : Nat} {x : Nat} {lv' : List (Nat × Value)} (hd : decode cc pc = .ok (.astore i, 2)) (hn : i < nL) (hl' : lv_p1 lv i (.ref x) = lv') (kk : J D X w k n (pc + 2) lv' st) : J D X w k n pc lv (.ref x :: st) := fun H locs ls hP hD hS hl => lv_astore C.hx C.hb hd hl (by rw [C.hn]; exact hn) hl' (fun ls' hl2 => kk H locs ls' hP hD hS hl2)
/-- the class's world with the law's row of one long -/
def kWo (D : KD) (x a b a2 b2 g tt rr : Nat → Nat) (k0 : Nat) (oa0 : Nat → Nat → Nat) (m : Nat → Int32) (n : Nat) (sv : Nat → Int32) (s : Nat) (tx : Nat → Int32) (t : Nat) (q : Nat → Nat) (oz : Nat → Int64) (w1 : va_W) : Prop :=
  ∃ (we ce co sg cr : Int32) (Pp Kp Hp Lp Sp : Nat → Int32) (cu : Nat → Int64) (we2 ce2 co2 sg2 cr2 : Int32) (Pp2 Kp2 Hp2 Lp2 Sp2 : Nat → Int32) (sd2 rd2 be2 ov2 : Int32) (qa2 qb2 qd2 : Int64) (lo2 : Nat → Int32) (cu2 : Nat → Int64) (po er : Int32) (nw k : Nat) (oa : Nat → Nat → Nat) (f : Nat → Dk), KR we ce co sg cr Pp Kp Hp Lp Sp m n ∧ HR nw s k f sv ∧ t ≤ 160 ∧ k0 ≤ k ∧ (∀ j, j < k0 → oa j = oa0 j) ∧ w1 = ((wKb D x (a 0) (b 0) (a2 0) (b2 0) (g 0) (tt 0) (rr 0) ++ (wDo D a we ce co sg cr Pp Kp Hp Lp Sp ++ (wBa D b (bI (mR m n).1) (nI (mR m n).2.1) (mBe m n) (mOv m n) ((mR m n).2.2.2.1) ((mR m n).2.2.2.2.1) ((mR m n).2.2.2.2.2) (mLo m n) cu ++ (wDo D a2 we2 ce2 co2 sg2 cr2 Pp2 Kp2 Hp2 Lp2 Sp2 ++ (wBa D b2 sd2 rd2 be2 ov2 qa2 qb2 qd2 lo2 cu2 ++ (wHi D g (nI s) (nI nw) (slF oa k) ++ (wTx D tt (nI t) tx ++ (wRd D rr (tt 0) po er ++ (wOu D q oz))))))))) ++ (wPl D oa f k))

