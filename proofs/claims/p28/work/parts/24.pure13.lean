/-! doubles that are no NaN -/
def fpOk : Jvm.FP.Core.Datum → Prop
  | .nan => False
  | .inf _ => True
  | .fin _ c q => c < 9007199254740992 ∧ q ≤ 971
theorem fp_t : Jvm.FP.Core.b64.tails = 4503599627370496 := by decide +kernel
theorem fp_e : Jvm.FP.Core.b64.exps = 2048 := by decide +kernel
theorem fp_q : Jvm.FP.Core.b64.qmin = -1074 := by decide +kernel
theorem fp_Q : Jvm.FP.Core.b64.qmax = 971 := by decide +kernel
theorem fp_p : (2 : Nat) ^ Jvm.FP.Core.b64.p = 9007199254740992 := by decide +kernel
theorem fp_enc {x : Jvm.FP.Core.Datum} (h : fpOk x) : Jvm.FP.Core.encode Jvm.FP.Core.b64 x < 18446744073709551616 ∧ Jvm.FP.Core.encode Jvm.FP.Core.b64 x % 9223372036854775808 ≤ 9218868437227405312 := by
  cases x with
  | nan => exact h.elim
  | inf s => cases s <;> decide +kernel
  | fin s c q =>
    obtain ⟨h1, h2⟩ := h
    unfold Jvm.FP.Core.encode Jvm.FP.Core.assemble
    dsimp only
    rw [fp_t, fp_e, fp_q]
    cases s with
    | false =>
      show (if c < 4503599627370496 then ((0 * 2048 + 0) * 4503599627370496 + c) else ((0 * 2048 + ((q - -1074).toNat + 1)) * 4503599627370496 + (c - 4503599627370496))) < _ ∧ (if c < 4503599627370496 then ((0 * 2048 + 0) * 4503599627370496 + c) else ((0 * 2048 + ((q - -1074).toNat + 1)) * 4503599627370496 + (c - 4503599627370496))) % _ ≤ _
      split <;> omega
    | true =>
      show (if c < 4503599627370496 then ((1 * 2048 + 0) * 4503599627370496 + c) else ((1 * 2048 + ((q - -1074).toNat + 1)) * 4503599627370496 + (c - 4503599627370496))) < _ ∧ (if c < 4503599627370496 then ((1 * 2048 + 0) * 4503599627370496 + c) else ((1 * 2048 + ((q - -1074).toNat + 1)) * 4503599627370496 + (c - 4503599627370496))) % _ ≤ _
      split <;> omega
theorem fp_n64 {x : Jvm.FP.Core.Datum} (h : fpOk x) : vf_n64 (UInt64.ofNat (Jvm.FP.Core.encode Jvm.FP.Core.b64 x)) := by
  obtain ⟨h1, h2⟩ := fp_enc h
  unfold vf_n64
  rw [UInt64.le_iff_toNat_le, UInt64.toNat_and, UInt64.toNat_ofNat']
  rw [Nat.mod_eq_of_lt h1]
  have e : (0x7fffffffffffffff : UInt64).toNat = 2 ^ 63 - 1 := by decide +kernel
  rw [e, Nat.and_two_pow_sub_one_eq_mod]
  exact h2
theorem fp_settle (s : Bool) (c : Nat) (q : Int) : fpOk (Jvm.FP.Core.settle Jvm.FP.Core.b64 s c q) := by
  unfold Jvm.FP.Core.settle Jvm.FP.Core.bound
  rw [fp_p, fp_Q, fp_t]
  split
  · split
    · exact ⟨by assumption, by assumption⟩
    · trivial
  · split
    · exact ⟨by omega, by assumption⟩
    · trivial
theorem fp_ratio (s : Bool) (n d : Nat) (e : Int) : fpOk (Jvm.FP.Core.roundRatio Jvm.FP.Core.b64 s n d e) := by
  unfold Jvm.FP.Core.roundRatio
  split
  · rw [fp_q]
    exact ⟨by omega, by omega⟩
  · exact fp_settle _ _ _
theorem fp_near {n d : Nat} (hd : 0 < d) (h : d ≤ n) : Jvm.FP.Core.nearest n d ≠ 0 := by
  have h1 : 1 ≤ n / d := (Nat.le_div_iff_mul_le hd).mpr (by omega)
  unfold Jvm.FP.Core.nearest
  split
  · omega
  · split <;> omega
theorem fp_lead {n : Nat} : Jvm.FP.Core.leading n 1 ≤ (n.log2 : Int) := by
  unfold Jvm.FP.Core.leading
  have e : (1 : Nat).log2 = 0 := by decide
  rw [e]
  dsimp only
  split <;> omega
theorem fp_int (s : Bool) {n : Nat} (h : n ≤ 9223372036854775808) : ∃ c q, Jvm.FP.Core.roundRatio Jvm.FP.Core.b64 s n 1 0 = .fin s c q ∧ (c < 9007199254740992 ∧ q ≤ 971) ∧ (n ≠ 0 → c ≠ 0) := by
  unfold Jvm.FP.Core.roundRatio
  by_cases h0 : n = 0
  · rw [if_pos h0, fp_q]
    exact ⟨_, _, rfl, ⟨by omega, by omega⟩, fun z => absurd h0 z⟩
  · rw [if_neg h0]
    have hl := fp_lead (n := n)
    have hl2 : n.log2 < 64 := (Nat.log2_lt h0).mpr (by omega)
    have hq : Jvm.FP.Core.quantum Jvm.FP.Core.b64 n 1 0 = max (-1074) (Jvm.FP.Core.leading n 1 + 0 - ((53 : Int) - 1)) := by
      unfold Jvm.FP.Core.quantum
      rw [fp_q]
      rfl
    have hq1 : Jvm.FP.Core.quantum Jvm.FP.Core.b64 n 1 0 ≤ 11 := by omega
    have hq2 : 0 < Jvm.FP.Core.quantum Jvm.FP.Core.b64 n 1 0 → Jvm.FP.Core.quantum Jvm.FP.Core.b64 n 1 0 ≤ (n.log2 : Int) := by omega
    generalize Jvm.FP.Core.quantum Jvm.FP.Core.b64 n 1 0 = Q at hq1 hq2
    clear hq
    have hc : Jvm.FP.Core.nearest (Jvm.FP.Core.unitsNum n 0 Q) (Jvm.FP.Core.unitsDen 1 0 Q) ≠ 0 := by
      unfold Jvm.FP.Core.unitsNum Jvm.FP.Core.unitsDen
      refine fp_near (Nat.mul_pos (by omega) (Nat.two_pow_pos _)) ?_
      by_cases hQ : 0 < Q
      · rw [show (0 - Q).toNat = 0 by omega, show (Q - 0).toNat = Q.toNat by omega]
        have h1 : 2 ^ Q.toNat ≤ 2 ^ n.log2 := Nat.pow_le_pow_right (by omega) (by have := hq2 hQ; omega)
        have h2 := Nat.log2_self_le h0
        omega
      · rw [show (Q - 0).toNat = 0 by omega]
        have h1 := Nat.two_pow_pos (0 - Q).toNat
        have h2 : 1 * 1 ≤ n * 2 ^ (0 - Q).toNat := Nat.mul_le_mul (by omega) h1
        omega
    unfold Jvm.FP.Core.roundAt Jvm.FP.Core.settle Jvm.FP.Core.bound
    rw [fp_p, fp_Q, fp_t]
    split
    · rename_i hlt
      rw [if_pos (by omega)]
      exact ⟨_, _, rfl, ⟨hlt, by omega⟩, fun _ => hc⟩
    · rw [if_pos (by omega)]
      exact ⟨_, _, rfl, ⟨by omega, by omega⟩, fun _ => by omega⟩
theorem fp_decA {n E T : Nat} (hE : Jvm.FP.Core.fieldE Jvm.FP.Core.b64 n = E) (hT : Jvm.FP.Core.fieldT Jvm.FP.Core.b64 n = T) (h1 : E < 2047) : ∃ s' c' q', Jvm.FP.Core.decode Jvm.FP.Core.b64 n = .fin s' c' q' ∧ (E ≠ 0 ∨ T ≠ 0 → c' ≠ 0) := by
  unfold Jvm.FP.Core.decode
  rw [hE, hT, fp_e, fp_t]
  have e1 : ¬ E = 2048 - 1 := by omega
  by_cases h0 : E = 0
  · exact ⟨_, _, _, by rw [if_neg e1, if_pos h0], fun z => z.elim (fun z => absurd h0 z) id⟩
  · exact ⟨_, _, _, by rw [if_neg e1, if_neg h0], fun _ => by omega⟩
theorem fp_asm (s : Bool) {e t : Nat} (he : e < 2048) (ht : t < 4503599627370496) : Jvm.FP.Core.fieldE Jvm.FP.Core.b64 (Jvm.FP.Core.assemble Jvm.FP.Core.b64 s e t) = e ∧ Jvm.FP.Core.fieldT Jvm.FP.Core.b64 (Jvm.FP.Core.assemble Jvm.FP.Core.b64 s e t) = t := by
  unfold Jvm.FP.Core.fieldE Jvm.FP.Core.fieldT Jvm.FP.Core.assemble
  rw [fp_t, fp_e]
  cases s with
  | false =>
    show ((0 * 2048 + e) * 4503599627370496 + t) / 4503599627370496 % 2048 = e ∧ ((0 * 2048 + e) * 4503599627370496 + t) % 4503599627370496 = t
    omega
  | true =>
    show ((1 * 2048 + e) * 4503599627370496 + t) / 4503599627370496 % 2048 = e ∧ ((1 * 2048 + e) * 4503599627370496 + t) % 4503599627370496 = t
    omega
theorem fp_dec {s : Bool} {c : Nat} {q : Int} (h1 : c < 9007199254740992) (h2 : q ≤ 971) : ∃ s' c' q', Jvm.FP.Core.decode Jvm.FP.Core.b64 (Jvm.FP.Core.encode Jvm.FP.Core.b64 (.fin s c q)) = .fin s' c' q' ∧ (c ≠ 0 → c' ≠ 0) := by
  by_cases hc : c < Jvm.FP.Core.b64.tails
  · have e : Jvm.FP.Core.encode Jvm.FP.Core.b64 (.fin s c q) = Jvm.FP.Core.assemble Jvm.FP.Core.b64 s 0 c := if_pos hc
    rw [fp_t] at hc
    obtain ⟨a, b⟩ := fp_asm s (e := 0) (t := c) (by omega) hc
    rw [e]
    obtain ⟨s', c', q', g1, g2⟩ := fp_decA a b (by omega)
    exact ⟨s', c', q', g1, fun h => g2 (Or.inr h)⟩
  · have e : Jvm.FP.Core.encode Jvm.FP.Core.b64 (.fin s c q) = Jvm.FP.Core.assemble Jvm.FP.Core.b64 s ((q - Jvm.FP.Core.b64.qmin).toNat + 1) (c - Jvm.FP.Core.b64.tails) := if_neg hc
    rw [fp_t, fp_q] at e
    rw [fp_t] at hc
    obtain ⟨a, b⟩ := fp_asm s (e := (q - -1074).toNat + 1) (t := c - 4503599627370496) (by omega) (by omega)
    rw [e]
    obtain ⟨s', c', q', g1, g2⟩ := fp_decA a b (by omega)
    exact ⟨s', c', q', g1, fun h => g2 (Or.inl (by omega))⟩
theorem fp_l2d (d : Int64) : ∃ s c q, Jvm.FP.Core.decode Jvm.FP.Core.b64 (FP.l2d d).toNat = .fin s c q ∧ (d.toInt ≠ 0 → c ≠ 0) := by
  have hn : d.toInt.natAbs ≤ 9223372036854775808 := by
    have h1 := Int64.le_toInt d
    have h2 := Int64.toInt_lt d
    omega
  obtain ⟨c, q, h1, h2, h3⟩ := fp_int (decide (d.toInt < 0)) hn
  have e : FP.l2d d = UInt64.ofNat (Jvm.FP.Core.encode Jvm.FP.Core.b64 (.fin (decide (d.toInt < 0)) c q)) := by
    show UInt64.ofNat (Jvm.FP.Core.encode Jvm.FP.Core.b64 (Jvm.FP.Core.roundRatio Jvm.FP.Core.b64 (decide (d.toInt < 0)) d.toInt.natAbs 1 0)) = _
    rw [h1]
  rw [e, UInt64.toNat_ofNat', Nat.mod_eq_of_lt (fp_enc (x := .fin (decide (d.toInt < 0)) c q) h2).1]
  obtain ⟨s', c', q', g1, g2⟩ := fp_dec (s := decide (d.toInt < 0)) h2.1 h2.2
  exact ⟨s', c', q', g1, fun h => g2 (h3 (by omega))⟩
/-- a quotient of longs whose divisor isn't 0 -/
theorem fp_div {b d : Int64} (h : d.toInt ≠ 0) : vf_n64 (FP.ddiv (FP.l2d b) (FP.l2d d)) := by
  obtain ⟨s, c, q, h1, -⟩ := fp_l2d b
  obtain ⟨s', c', q', h2, h3⟩ := fp_l2d d
  show vf_n64 (UInt64.ofNat (Jvm.FP.Core.encode Jvm.FP.Core.b64 (Jvm.FP.Core.quotient Jvm.FP.Core.b64 (Jvm.FP.Core.decode Jvm.FP.Core.b64 (FP.l2d b).toNat) (Jvm.FP.Core.decode Jvm.FP.Core.b64 (FP.l2d d).toNat))))
  rw [h1, h2]
  refine fp_n64 ?_
  show fpOk (if c' = 0 then _ else _)
  rw [if_neg (h3 h)]
  exact fp_ratio _ _ _ _
theorem fp_0 : Jvm.FP.Core.decode Jvm.FP.Core.b64 (FP.dconst0).toNat = .fin false 0 (-1074) := by decide +kernel
theorem fp_ne0 {d : Int64} (h : d.toInt ≠ 0) : FP.dcmp (FP.l2d d) FP.dconst0 = some .lt ∨ FP.dcmp (FP.l2d d) FP.dconst0 = some .gt := by
  obtain ⟨s', c', q', h2, h3⟩ := fp_l2d d
  show Jvm.FP.Core.order (Jvm.FP.Core.decode Jvm.FP.Core.b64 (FP.l2d d).toNat) (Jvm.FP.Core.decode Jvm.FP.Core.b64 (FP.dconst0).toNat) = _ ∨ Jvm.FP.Core.order (Jvm.FP.Core.decode Jvm.FP.Core.b64 (FP.l2d d).toNat) (Jvm.FP.Core.decode Jvm.FP.Core.b64 (FP.dconst0).toNat) = _
  rw [h2, fp_0]
  have hc := h3 h
  have hm : 0 < Jvm.FP.Core.inUnits c' q' (min q' (-1074)) := Nat.mul_pos (by omega) (Nat.two_pow_pos _)
  have hz : Jvm.FP.Core.inUnits 0 (-1074) (min q' (-1074)) = 0 := Nat.zero_mul _
  unfold Jvm.FP.Core.order
  dsimp only
  rw [hz]
  generalize Jvm.FP.Core.inUnits c' q' (min q' (-1074)) = u at hm
  cases s' with
  | true =>
    refine Or.inl (congrArg some ?_)
    show compare (-(u : Int)) 0 = .lt
    exact Int.compare_eq_lt.mpr (by omega)
  | false =>
    refine Or.inr (congrArg some ?_)
    show compare ((u : Int)) 0 = .gt
    exact Int.compare_eq_gt.mpr (by omega)
def mTi (m : Nat → Int32) (n : Nat) : UInt64 := if (mR m n).1 = true then FP.ddiv (FP.l2d (mR m n).2.2.2.2.1) (FP.l2d (mR m n).2.2.2.2.2) else FP.dconst0
theorem mTi_d {m : Nat → Int32} {n : Nat} (h : (mR m n).1 = true) : (mR m n).2.2.2.2.2.toInt ≠ 0 := by
  have h1 := (fb_pos (f := sol (mP m) (mK m) (mH m) (m 0) (m 1) n) (g := fun q => nx (mP m) (mH m) (stb (mT m) 0 n) q n) 30 0 (stb (mT m) 0 n) (0, 0, 0) h).1
  have h2 : (0 : Int64).toInt < (mR m n).2.2.2.2.2.toInt := Int64.lt_iff_toInt_lt.mp h1
  have z : (0 : Int64).toInt = 0 := by decide
  omega
/-! contracts that answer doubles -/
def MD (l : Launch) (D : KD) (y : MethodName) (ws : List Cond) (fr lo mc ms : Nat) (av : List Value) (w0 : va_W) (post : UInt64 → va_W → Prop) : Prop := ∀ sz : Nat, Met l y ws (kR fr lo mc ms) (va_Pc av (kPre D w0 sz)) (va_Qd post (kB D w0 sz) (va_A w0 sz)) mc ms (va_A w0 sz)
set_option maxHeartbeats 1000000 in
theorem MD.of {l : Launch} {D : KD} {y : MethodName} {ws ws' : List Cond} {fr lo mc ms : Nat} {av : List Value} {w0 : va_W} {cc : ByteArray} {nL : Nat} {lv0 : List (Nat × Value)} {post : UInt64 → va_W → Prop} (hy : plainName y.cls = true) (hw : ws = Cond.code y cc nL (some .double) :: ws') (hn : (lg_sl av).length ≤ nL) (hlv : lv_args 0 av = lv0)
    (body : ∀ X : KX, xl X = l → (xM X).name = y.name → Cx D X cc y.cls ws fr lo mc ms nL → (∀ {pc : Nat} {r : UInt64} {w : va_W} {lv : List (Nat × Value)}, decode cc pc = .ok (.dreturn, 1) → post r w → J D X w mc ms pc lv [.double r]) → J D X w0 0 0 0 lv0 []) : MD l D y ws fr lo mc ms av w0 post := by
  intro sz
  refine Met.ofW (cc := cc) (maxL := nL) (ret := (some .double)) hy hw ?_
  intro p e s m args below meth c s₁ B hml hv
  obtain ⟨rfl, hsz, hP, ⟨hK, hN⟩, hD0⟩ := hv
  have hx := B.exec
  have hb := B.bytes
  have hr := B.returns
  have hts := atoms_spec (ws := ws) B.pre
  have hown : s.vm.findClass y.cls = some m.cls := findClass_of_methodNamed B.named
  have hlocks := B.notSynchronized
  have hin : meth.name = y.name := (name_of_methodNamed B.named B.method).1
  subst hsz
  have hD := hD0.self (sz := s.heap.size)
  have hS : va_S (va_A w0 s.heap.size) s.heap s.heap [] := va_S.rf
  have hl := lv_entry av (n := nL) hn
  rw [hlv] at hl
  rw [lg_entry_eq]
  refine body (p, l, e, kR fr lo mc ms, s, m, av.toArray, below, meth, c, _, va_A w0 s.heap.size, nL) rfl hin ⟨⟨hx, hb, hml, hown, hts⟩, ⟨hK, hN⟩, fun q h => Or.inr h, ⟨rfl, rfl, rfl, rfl⟩, rfl⟩ ?_ s.heap [] _ hP hD hS hl
  exact fun hd hq H locs ls hP hD hS hl => W.dret hx hb hr (fun t ht hW => ⟨⟨_, _, rfl, hq, by rw [ht]; exact hP, hD⟩, hS.F ht⟩) hS.2.2 hd hlocks
theorem j_ddiv {D : KD} {X : KX} {cc : ByteArray} {own : String} {Ts : List Cond} {fr lo mc ms nL : Nat} {w : va_W} {k n pc : Nat} {lv : List (Nat × Value)} {st : List Value} (C : Cx D X cc own Ts fr lo mc ms nL) {x y : UInt64} (hd : decode cc pc = .ok (.ddiv, 1)) (hne : vf_n64 (FP.ddiv x y)) (kk : J D X w k n (pc + 1) lv (.double (FP.ddiv x y) :: st)) : J D X w k n pc lv (.double y :: .double x :: st) := fun H locs ls hP hD hS hl => lv_ddiv C.hx C.hb hd hne (kk H locs ls hP hD hS hl)
section JCALLD
variable {D : KD} {X : KX} {cc : ByteArray} {own : String} {Ts : List Cond} {fr lo mc ms nL : Nat} {w : va_W} {k n pc : Nat} {lv : List (Nat × Value)} {st rest : List Value}
variable {y : MethodName} {ws : List Cond} {fr' lo' mc' ms' : Nat} {As : List Value} {a n0 idx maxY : Nat} {wc : va_W} {cy : ByteArray} {ret : Option FieldType}
theorem j_cv_d (C : Cx D X cc own Ts fr lo mc ms nL) {post : UInt64 → va_W → Prop} (hM : MD (xl X) D y ws fr' lo' mc' ms' (.ref a :: As) wc post) (hF : MF y ws cy maxY ret n0) (hG : GoodIn Ts (wsV own idx y.cls y ws)) (hlen : As.length = n0) (hfr : fr' + 1 ≤ fr) (hlo : 8 + (maxY + 11) + lo' ≤ lo) (hmc : k + mc' ≤ mc) (hms : n + ms' ≤ ms) (isC : List Nat) (hC : isC.map (fun i => w[i]?) = wc.map some) (hnd : va_nd isC = true) (q0 : Nat) {ci : Nat} {fs : List Value} {r0 : vw_C} (hq : wc[q0]? = some (a, .inr (ci, fs))) (hci : vwCl[ci]? = some r0) (hr0 : r0.1 = y.cls) (hst : st = As.reverse ++ .ref a :: rest) (hcat : (rest.map fun v => v.category).sum ≤ 8) (hd : decode cc pc = .ok (.invokevirtual idx, 3)) (kk : ∀ (r : UInt64) (w1 : va_W), post r w1 → (w1.take wc.length).map Prod.fst = wc.map Prod.fst ∧ J D X (kPut w isC w1) (k + mc') (n + ms') (pc + 3) lv (.double r :: rest)) : J D X w k n pc lv st := by
  intro H locs ls hP hD hS hl
  obtain ⟨⟨ws', hws⟩, hp1, hp2, hp3⟩ := hF
  obtain ⟨hR1, hR2, hR3, hR4⟩ := C.hR
  obtain ⟨hPc, hDc⟩ := kCut hP hD isC hC hnd
  have hF := va_free (wc := wc) hD hS C.hA isC hC
  refine va_calld (va_runV (As := As) (rest := rest) C.1 (hM H.size) (cwV n0 C.hts hG hws rfl rfl ⟨rfl, hp1, hp2, hp3⟩ ⟨by rw [hR1]; exact hfr, by rw [hR2]; exact hlo⟩) ⟨kPre.blind, by rw [← hr0]; exact va_recv C.hK hPc hci hq, fun U hU hW => ⟨rfl, by rw [hU], by rw [hU]; exact hPc, ⟨va_K.moved hW.alike C.hK, C.hN.moved hW⟩, hDc⟩⟩ rfl hlen hl.1 hst (lv_room hcat) hd ⟨by rw [hR3]; exact hmc, by rw [hR4]; exact hms⟩) hS (fun q _ h => hF q h) hF (fun r w1 t H1 locs1 ht hvm hw hB hz1 hk1 hS => ?_)
  obtain ⟨hP1, hD1⟩ := hB
  rw [ht] at hP1
  obtain ⟨ha, kj⟩ := kk r w1 hw
  obtain ⟨hP, hD⟩ := kPut_ok hP hD isC hC ha hk1 hF hP1 hD1
  exact kj H1 locs1 ls hP hD hS hl
end JCALLD
