abbrev vwCl : List vw_C := [(RX0, TX0, 9), (RX1, TX1, 10), (RX2, TX2, 3), (RX3, TX3, 2), (RX4, TX4, 3), (RX5, TX5, 7)]
/-! A judgement over plain data: J says, of every heap that holds the cells w, and of all locals that hold lv, that the machine comes to Q from pc. -/
abbrev KD : Type := va_G × ClassId × ClassId × ClassId × ClassId
abbrev KX : Type := Program × Launch × Env × Room × State × MethodId × Array Value × List Frame × Method × Code × (State → Prop) × (Nat → Prop) × Nat
abbrev xp (X : KX) : Program := X.1
abbrev xl (X : KX) : Launch := X.2.1
abbrev xe (X : KX) : Env := X.2.2.1
abbrev xR (X : KX) : Room := X.2.2.2.1
abbrev xs (X : KX) : State := X.2.2.2.2.1
abbrev xm (X : KX) : MethodId := X.2.2.2.2.2.1
abbrev xa (X : KX) : Array Value := X.2.2.2.2.2.2.1
abbrev xb (X : KX) : List Frame := X.2.2.2.2.2.2.2.1
abbrev xM (X : KX) : Method := X.2.2.2.2.2.2.2.2.1
abbrev xc (X : KX) : Code := X.2.2.2.2.2.2.2.2.2.1
abbrev xQ (X : KX) : State → Prop := X.2.2.2.2.2.2.2.2.2.2.1
abbrev xA (X : KX) : Nat → Prop := X.2.2.2.2.2.2.2.2.2.2.2.1
abbrev xn (X : KX) : Nat := X.2.2.2.2.2.2.2.2.2.2.2.2
def kT (D : KD) : List (ClassId × FieldType) := [(D.2.1, .int), (D.2.2.1, .long), (D.2.2.2.1, .byte), (D.2.2.2.2, .object "KeelBlocks$Dock")]
/-- the links to private members of nest mates -/
def kN (U : State) : Prop := va_Nw (.methodLinkNest "KeelBlocks" 9 yX1_init "KeelBlocks") U ∧ va_Nw (.methodLinkNest "KeelBlocks" 18 yX0_init "KeelBlocks") U ∧ va_Nw (.methodLinkNest "KeelBlocks" 31 yX4_init "KeelBlocks") U ∧ va_Nw (.methodLinkNest "KeelBlocks" 38 yX3_init "KeelBlocks") U ∧ va_Nw (.methodLinkNest "KeelBlocks$Balance" 66 yX5_isMember "KeelBlocks") U ∧ va_Nw (.methodLinkNest "KeelBlocks$History" 30 yX1_init "KeelBlocks") U ∧ va_Nw (.methodLinkNest "KeelBlocks$Dock" 47 yX5_isMember "KeelBlocks") U ∧ va_Nw (.methodLinkNest "KeelBlocks$Dock" 47 yX5_isMember "KeelBlocks") U ∧ va_AO "KeelBlocks$Dock" U
theorem kN.moved {s U : State} (hW : s.WarmedH U.vm) (h : kN s) : kN U := ⟨h.1.warmM hW, h.2.1.warmM hW, h.2.2.1.warmM hW, h.2.2.2.1.warmM hW, h.2.2.2.2.1.warmM hW, h.2.2.2.2.2.1.warmM hW, h.2.2.2.2.2.2.1.warmM hW, h.2.2.2.2.2.2.2.1.warmM hW, h.2.2.2.2.2.2.2.2.moved hW.alike⟩
theorem kN.same {s U : State} (hW : s.vm = U.vm) (h : kN s) : kN U := ⟨h.1.same rfl hW, h.2.1.same rfl hW, h.2.2.1.same rfl hW, h.2.2.2.1.same rfl hW, h.2.2.2.2.1.same rfl hW, h.2.2.2.2.2.1.same rfl hW, h.2.2.2.2.2.2.1.same rfl hW, h.2.2.2.2.2.2.2.1.same rfl hW, h.2.2.2.2.2.2.2.2.moved (by rw [hW]; exact Vm.Alike.refl _)⟩
def J (D : KD) (X : KX) (w : va_W) (k n pc : Nat) (lv : List (Nat × Value)) (st : List Value) : Prop :=
  ∀ (H : Heap) (locs : List Loc) (ls : Array Slot), va_P D.1 vwCl w H → va_D (xA X) w → va_S (xA X) (xs X).heap H locs → lv_has ls (xn X) lv → W (xp X) (xl X) (xe X) (xR X) (xs X) (xm X) (xa X) (xb X) (xM X) (xc X) H locs k n (xQ X) (F0 (xm X) pc ls st)
/-- what holds of a method's own walk: the machine, its code, its words, the classes, its room -/
def Cx (D : KD) (X : KX) (cc : ByteArray) (own : String) (Ts : List Cond) (fr lo mc ms nL : Nat) : Prop :=
  CallFix (xp X) (xm X) (xc X) cc (xn X) (xs X) (xa X) Ts own ∧ (va_K D.1 vwCl (kT D) (xs X) ∧ kN (xs X)) ∧ (∀ q, (xs X).heap.size ≤ q → (xA X) q) ∧ ((xR X).frames = fr ∧ (xR X).locals = lo ∧ (xR X).cells = mc ∧ (xR X).slots = ms) ∧ xn X = nL
section JROWS
variable {D : KD} {X : KX} {cc : ByteArray} {own : String} {Ts : List Cond} {fr lo mc ms nL : Nat} {w : va_W} {k n pc : Nat} {lv : List (Nat × Value)} {st : List Value}
theorem Cx.hx (C : Cx D X cc own Ts fr lo mc ms nL) : (xp X).tables.exec = Jvm.exec := C.1.1
theorem Cx.hb (C : Cx D X cc own Ts fr lo mc ms nL) : (xc X).code = cc := C.1.2.1
theorem Cx.hml (C : Cx D X cc own Ts fr lo mc ms nL) : (xc X).maxLocals = xn X := C.1.2.2.1
theorem Cx.hown (C : Cx D X cc own Ts fr lo mc ms nL) : (xs X).vm.findClass own = some (xm X).cls := C.1.2.2.2.1
theorem Cx.hts (C : Cx D X cc own Ts fr lo mc ms nL) : ∀ w ∈ Ts, w.before (xa X) (xs X) = true := C.1.2.2.2.2
theorem Cx.hK (C : Cx D X cc own Ts fr lo mc ms nL) : va_K D.1 vwCl (kT D) (xs X) := C.2.1.1
theorem Cx.hN (C : Cx D X cc own Ts fr lo mc ms nL) : kN (xs X) := C.2.1.2
theorem Cx.hA (C : Cx D X cc own Ts fr lo mc ms nL) : ∀ q, (xs X).heap.size ≤ q → (xA X) q := C.2.2.1
theorem Cx.hR (C : Cx D X cc own Ts fr lo mc ms nL) : (xR X).frames = fr ∧ (xR X).locals = lo ∧ (xR X).cells = mc ∧ (xR X).slots = ms := C.2.2.2.1
theorem Cx.hn (C : Cx D X cc own Ts fr lo mc ms nL) : xn X = nL := C.2.2.2.2
-- shape changes
theorem j_w {w' : va_W} (h : w = w') (kk : J D X w' k n pc lv st) : J D X w k n pc lv st := h ▸ kk
theorem j_st {st' : List Value} (h : st = st') (kk : J D X w k n pc lv st') : J D X w k n pc lv st := h ▸ kk
theorem j_sub {lv' : List (Nat × Value)} (ks : List Nat) (h : lv_pick lv ks = lv') (kk : J D X w k n pc lv' st) : J D X w k n pc lv st := fun H locs ls hP hD hS hl => kk H locs ls hP hD hS (lv_sub hl ks h)
theorem j_lvq {lv' : List (Nat × Value)} (h : lv = lv') (kk : J D X w k n pc lv' st) : J D X w k n pc lv st := h ▸ kk
theorem j_widen {k' n' : Nat} (h1 : k ≤ k') (h2 : n ≤ n') (kk : J D X w k' n' pc lv st) : J D X w k n pc lv st := fun H locs ls hP hD hS hl => W.widen h1 h2 (kk H locs ls hP hD hS hl)
theorem j_topi {x : Int32} (kk : ∀ y : Int32, y = x → J D X w k n pc lv (.int y :: st)) : J D X w k n pc lv (.int x :: st) := kk x rfl
theorem j_topl {x : Int64} (kk : ∀ y : Int64, y = x → J D X w k n pc lv (.long y :: st)) : J D X w k n pc lv (.long x :: st) := kk x rfl
theorem j_eqi {x y : Int32} (h : x = y) (kk : J D X w k n pc lv (.int y :: st)) : J D X w k n pc lv (.int x :: st) := h ▸ kk
theorem j_eql {x y : Int64} (h : x = y) (kk : J D X w k n pc lv (.long y :: st)) : J D X w k n pc lv (.long x :: st) := h ▸ kk
/-- the cells may be told otherwise, where the heap can't tell the difference -/
theorem j_as {w' : va_W} (h : ∀ H, va_P D.1 vwCl w H → va_P D.1 vwCl w' H) (ha : w'.map Prod.fst = w.map Prod.fst) (kk : J D X w' k n pc lv st) : J D X w k n pc lv st := fun H locs ls hP hD hS hl => kk H locs ls (h H hP) (by
  refine ⟨fun i j p q hi hj e => ?_, fun i q hi => ?_⟩
  · have h1 : (w.map Prod.fst)[i]? = some p.1 := by rw [← ha, List.getElem?_map, hi]; rfl
    have h2 : (w.map Prod.fst)[j]? = some q.1 := by rw [← ha, List.getElem?_map, hj]; rfl
    rw [List.getElem?_map] at h1 h2
    obtain ⟨p', hp', e1⟩ := Option.map_eq_some_iff.mp h1
    obtain ⟨q', hq', e2⟩ := Option.map_eq_some_iff.mp h2
    exact hD.1 i j p' q' hp' hq' (by rw [e1, e2]; exact e)
  · have h1 : (w.map Prod.fst)[i]? = some q.1 := by rw [← ha, List.getElem?_map, hi]; rfl
    rw [List.getElem?_map] at h1
    obtain ⟨p', hp', e1⟩ := Option.map_eq_some_iff.mp h1
    rw [← e1]; exact hD.2 i p' hp') hS hl
-- constants
theorem j_iconst (C : Cx D X cc own Ts fr lo mc ms nL) {i : Int} {v : Int32} (hd : decode cc pc = .ok (.iconst i, 1)) (hv : Int32.ofInt i = v) (kk : J D X w k n (pc + 1) lv (.int v :: st)) : J D X w k n pc lv st := fun H locs ls hP hD hS hl => lv_iconst C.hx C.hb hd hv (kk H locs ls hP hD hS hl)
theorem j_bipush (C : Cx D X cc own Ts fr lo mc ms nL) {i : Int} {v : Int32} (hd : decode cc pc = .ok (.bipush i, 2)) (hv : (Int8.ofInt i).toInt32 = v) (kk : J D X w k n (pc + 2) lv (.int v :: st)) : J D X w k n pc lv st := fun H locs ls hP hD hS hl => lv_bipush C.hx C.hb hd hv (kk H locs ls hP hD hS hl)
theorem j_sipush (C : Cx D X cc own Ts fr lo mc ms nL) {i : Int} {v : Int32} (hd : decode cc pc = .ok (.sipush i, 3)) (hv : (Int16.ofInt i).toInt32 = v) (kk : J D X w k n (pc + 3) lv (.int v :: st)) : J D X w k n pc lv st := fun H locs ls hP hD hS hl => lv_sipush C.hx C.hb hd hv (kk H locs ls hP hD hS hl)
theorem j_lconst (C : Cx D X cc own Ts fr lo mc ms nL) {i : Fin 2} {v : Int64} (hd : decode cc pc = .ok (.lconst i, 1)) (hv : Int64.ofNat (i : Nat) = v) (kk : J D X w k n (pc + 1) lv (.long v :: st)) : J D X w k n pc lv st := fun H locs ls hP hD hS hl => lv_lconst C.hx C.hb hd hv (kk H locs ls hP hD hS hl)
theorem j_ldc (C : Cx D X cc own Ts fr lo mc ms nL) {idx : Nat} {v : Int32} (hm : Cond.constant own idx v ∈ Ts) (hd : decode cc pc = .ok (.ldc idx, 2)) (kk : J D X w k n (pc + 2) lv (.int v :: st)) : J D X w k n pc lv st := fun H locs ls hP hD hS hl => lv_ldc C.hx C.hb C.hown (C.hts _ hm) hd (kk H locs ls hP hD hS hl)
theorem j_ldc2 (C : Cx D X cc own Ts fr lo mc ms nL) {idx : Nat} {v : Int64} (hm : Cond.constantLong own idx v ∈ Ts) (hd : decode cc pc = .ok (.ldc2_w idx, 3)) (kk : J D X w k n (pc + 3) lv (.long v :: st)) : J D X w k n pc lv st := fun H locs ls hP hD hS hl => lv_ldc2 C.hx C.hb C.hown (C.hts _ hm) hd (kk H locs ls hP hD hS hl)
theorem j_null (C : Cx D X cc own Ts fr lo mc ms nL) (hd : decode cc pc = .ok (.aconst_null, 1)) (kk : J D X w k n (pc + 1) lv (.null :: st)) : J D X w k n pc lv st := fun H locs ls hP hD hS hl => lv_null C.hx C.hb hd (kk H locs ls hP hD hS hl)
-- locals
theorem j_iload_n (C : Cx D X cc own Ts fr lo mc ms nL) {q : Fin 4} {i : Nat} {x : Int32} (j : Nat) (hd : decode cc pc = .ok (.iload_n q, 1)) (hi : (q : Nat) = i) (hj : lv[j]? = some (i, .int x)) (kk : J D X w k n (pc + 1) lv (.int x :: st)) : J D X w k n pc lv st := fun H locs ls hP hD hS hl => lv_iload_n C.hx C.hb hd hi (lv_at hl j hj) (kk H locs ls hP hD hS hl)
theorem j_iload (C : Cx D X cc own Ts fr lo mc ms nL) {i : Nat} {x : Int32} (j : Nat) (hd : decode cc pc = .ok (.iload i, 2)) (hj : lv[j]? = some (i, .int x)) (kk : J D X w k n (pc + 2) lv (.int x :: st)) : J D X w k n pc lv st := fun H locs ls hP hD hS hl => lv_iload C.hx C.hb hd (lv_at hl j hj) (kk H locs ls hP hD hS hl)
theorem j_lload_n (C : Cx D X cc own Ts fr lo mc ms nL) {q : Fin 4} {i : Nat} {x : Int64} (j : Nat) (hd : decode cc pc = .ok (.lload_n q, 1)) (hi : (q : Nat) = i) (hj : lv[j]? = some (i, .long x)) (kk : J D X w k n (pc + 1) lv (.long x :: st)) : J D X w k n pc lv st := fun H locs ls hP hD hS hl => lv_lload_n C.hx C.hb hd hi (lv_at hl j hj) (kk H locs ls hP hD hS hl)
theorem j_lload (C : Cx D X cc own Ts fr lo mc ms nL) {i : Nat} {x : Int64} (j : Nat) (hd : decode cc pc = .ok (.lload i, 2)) (hj : lv[j]? = some (i, .long x)) (kk : J D X w k n (pc + 2) lv (.long x :: st)) : J D X w k n pc lv st := fun H locs ls hP hD hS hl => lv_lload C.hx C.hb hd (lv_at hl j hj) (kk H locs ls hP hD hS hl)
theorem j_dload_n (C : Cx D X cc own Ts fr lo mc ms nL) {q : Fin 4} {i : Nat} {x : UInt64} (j : Nat) (hd : decode cc pc = .ok (.dload_n q, 1)) (hi : (q : Nat) = i) (hj : lv[j]? = some (i, .double x)) (kk : J D X w k n (pc + 1) lv (.double x :: st)) : J D X w k n pc lv st := fun H locs ls hP hD hS hl => lv_dload_n C.hx C.hb hd hi (lv_at hl j hj) (kk H locs ls hP hD hS hl)
theorem j_dload (C : Cx D X cc own Ts fr lo mc ms nL) {i : Nat} {x : UInt64} (j : Nat) (hd : decode cc pc = .ok (.dload i, 2)) (hj : lv[j]? = some (i, .double x)) (kk : J D X w k n (pc + 2) lv (.double x :: st)) : J D X w k n pc lv st := fun H locs ls hP hD hS hl => lv_dload C.hx C.hb hd (lv_at hl j hj) (kk H locs ls hP hD hS hl)
theorem j_aload_n (C : Cx D X cc own Ts fr lo mc ms nL) {q : Fin 4} {i : Nat} {x : Nat} (j : Nat) (hd : decode cc pc = .ok (.aload_n q, 1)) (hi : (q : Nat) = i) (hj : lv[j]? = some (i, .ref x)) (kk : J D X w k n (pc + 1) lv (.ref x :: st)) : J D X w k n pc lv st := fun H locs ls hP hD hS hl => lv_aload_n C.hx C.hb hd hi (lv_at hl j hj) (kk H locs ls hP hD hS hl)
theorem j_aload (C : Cx D X cc own Ts fr lo mc ms nL) {i : Nat} {x : Nat} (j : Nat) (hd : decode cc pc = .ok (.aload i, 2)) (hj : lv[j]? = some (i, .ref x)) (kk : J D X w k n (pc + 2) lv (.ref x :: st)) : J D X w k n pc lv st := fun H locs ls hP hD hS hl => lv_aload C.hx C.hb hd (lv_at hl j hj) (kk H locs ls hP hD hS hl)
theorem j_aload_nN (C : Cx D X cc own Ts fr lo mc ms nL) {q : Fin 4} {i : Nat} (j : Nat) (hd : decode cc pc = .ok (.aload_n q, 1)) (hi : (q : Nat) = i) (hj : lv[j]? = some (i, .null)) (kk : J D X w k n (pc + 1) lv (.null :: st)) : J D X w k n pc lv st := fun H locs ls hP hD hS hl => lv_aload_nN C.hx C.hb hd hi (lv_at hl j hj) (kk H locs ls hP hD hS hl)
def lv_p1 (lv : List (Nat × Value)) (i : Nat) (v : Value) : List (Nat × Value) := (i, v) :: lv.filter (fun q => !(q.1 == i) && !(q.1 + 1 == i && q.2.category == 2))
def lv_p2 (lv : List (Nat × Value)) (i : Nat) (v : Value) : List (Nat × Value) := (i, v) :: lv.filter (fun q => !(q.1 == i) && (!(q.1 == i + 1) && !(q.1 + 1 == i && q.2.category == 2)))
theorem j_istore_n (C : Cx D X cc own Ts fr lo mc ms nL) {q : Fin 4} {i : Nat} {x : Int32} {lv' : List (Nat × Value)} (hd : decode cc pc = .ok (.istore_n q, 1)) (hi : (q : Nat) = i) (hn : i < nL) (hl' : lv_p1 lv i (.int x) = lv') (kk : J D X w k n (pc + 1) lv' st) : J D X w k n pc lv (.int x :: st) := fun H locs ls hP hD hS hl => lv_istore_n C.hx C.hb hd hi hl (by rw [C.hn]; exact hn) hl' (fun ls' hl2 => kk H locs ls' hP hD hS hl2)
theorem j_istore (C : Cx D X cc own Ts fr lo mc ms nL) {i : Nat} {x : Int32} {lv' : List (Nat × Value)} (hd : decode cc pc = .ok (.istore i, 2)) (hn : i < nL) (hl' : lv_p1 lv i (.int x) = lv') (kk : J D X w k n (pc + 2) lv' st) : J D X w k n pc lv (.int x :: st) := fun H locs ls hP hD hS hl => lv_istore C.hx C.hb hd hl (by rw [C.hn]; exact hn) hl' (fun ls' hl2 => kk H locs ls' hP hD hS hl2)
theorem j_lstore_n (C : Cx D X cc own Ts fr lo mc ms nL) {q : Fin 4} {i : Nat} {x : Int64} {lv' : List (Nat × Value)} (hd : decode cc pc = .ok (.lstore_n q, 1)) (hi : (q : Nat) = i) (hn : i + 1 < nL) (hl' : lv_p2 lv i (.long x) = lv') (kk : J D X w k n (pc + 1) lv' st) : J D X w k n pc lv (.long x :: st) := fun H locs ls hP hD hS hl => lv_lstore_n C.hx C.hb hd hi hl (by rw [C.hn]; exact hn) hl' (fun ls' hl2 => kk H locs ls' hP hD hS hl2)
theorem j_lstore (C : Cx D X cc own Ts fr lo mc ms nL) {i : Nat} {x : Int64} {lv' : List (Nat × Value)} (hd : decode cc pc = .ok (.lstore i, 2)) (hn : i + 1 < nL) (hl' : lv_p2 lv i (.long x) = lv') (kk : J D X w k n (pc + 2) lv' st) : J D X w k n pc lv (.long x :: st) := fun H locs ls hP hD hS hl => lv_lstore C.hx C.hb hd hl (by rw [C.hn]; exact hn) hl' (fun ls' hl2 => kk H locs ls' hP hD hS hl2)
theorem j_dstore_n (C : Cx D X cc own Ts fr lo mc ms nL) {q : Fin 4} {i : Nat} {x : UInt64} {lv' : List (Nat × Value)} (hd : decode cc pc = .ok (.dstore_n q, 1)) (hi : (q : Nat) = i) (hn : i + 1 < nL) (hl' : lv_p2 lv i (.double x) = lv') (kk : J D X w k n (pc + 1) lv' st) : J D X w k n pc lv (.double x :: st) := fun H locs ls hP hD hS hl => lv_dstore_n C.hx C.hb hd hi hl (by rw [C.hn]; exact hn) hl' (fun ls' hl2 => kk H locs ls' hP hD hS hl2)
theorem j_dstore (C : Cx D X cc own Ts fr lo mc ms nL) {i : Nat} {x : UInt64} {lv' : List (Nat × Value)} (hd : decode cc pc = .ok (.dstore i, 2)) (hn : i + 1 < nL) (hl' : lv_p2 lv i (.double x) = lv') (kk : J D X w k n (pc + 2) lv' st) : J D X w k n pc lv (.double x :: st) := fun H locs ls hP hD hS hl => lv_dstore C.hx C.hb hd hl (by rw [C.hn]; exact hn) hl' (fun ls' hl2 => kk H locs ls' hP hD hS hl2)
theorem j_astore_n (C : Cx D X cc own Ts fr lo mc ms nL) {q : Fin 4} {i : Nat} {x : Nat} {lv' : List (Nat × Value)} (hd : decode cc pc = .ok (.astore_n q, 1)) (hi : (q : Nat) = i) (hn : i < nL) (hl' : lv_p1 lv i (.ref x) = lv') (kk : J D X w k n (pc + 1) lv' st) : J D X w k n pc lv (.ref x :: st) := fun H locs ls hP hD hS hl => lv_astore_n C.hx C.hb hd hi hl (by rw [C.hn]; exact hn) hl' (fun ls' hl2 => kk H locs ls' hP hD hS hl2)
theorem j_astore_nN (C : Cx D X cc own Ts fr lo mc ms nL) {q : Fin 4} {i : Nat} {lv' : List (Nat × Value)} (hd : decode cc pc = .ok (.astore_n q, 1)) (hi : (q : Nat) = i) (hn : i < nL) (hl' : lv_p1 lv i .null = lv') (kk : J D X w k n (pc + 1) lv' st) : J D X w k n pc lv (.null :: st) := fun H locs ls hP hD hS hl => lv_astore_nN C.hx C.hb hd hi hl (by rw [C.hn]; exact hn) hl' (fun ls' hl2 => kk H locs ls' hP hD hS hl2)
theorem j_iinc (C : Cx D X cc own Ts fr lo mc ms nL) {i : Nat} {d : Int} {x v : Int32} {lv' : List (Nat × Value)} (j : Nat) (hd : decode cc pc = .ok (.iinc i d, 3)) (hj : lv[j]? = some (i, .int x)) (hv : x + Int32.ofInt d = v) (hn : i < nL) (hl' : lv_p1 lv i (.int v) = lv') (kk : J D X w k n (pc + 3) lv' st) : J D X w k n pc lv st := fun H locs ls hP hD hS hl => lv_iinc C.hx C.hb hd hl hj hv (by rw [C.hn]; exact hn) hl' (fun ls' hl2 => kk H locs ls' hP hD hS hl2)
theorem j_iadd (C : Cx D X cc own Ts fr lo mc ms nL) {x y : Int32} (hd : decode cc pc = .ok (.iadd, 1)) (kk : J D X w k n (pc + 1) lv (.int (x + y) :: st)) : J D X w k n pc lv (.int y :: .int x :: st) := fun H locs ls hP hD hS hl => lv_iadd C.hx C.hb hd (kk H locs ls hP hD hS hl)
theorem j_isub (C : Cx D X cc own Ts fr lo mc ms nL) {x y : Int32} (hd : decode cc pc = .ok (.isub, 1)) (kk : J D X w k n (pc + 1) lv (.int (x - y) :: st)) : J D X w k n pc lv (.int y :: .int x :: st) := fun H locs ls hP hD hS hl => lv_isub C.hx C.hb hd (kk H locs ls hP hD hS hl)
theorem j_imul (C : Cx D X cc own Ts fr lo mc ms nL) {x y : Int32} (hd : decode cc pc = .ok (.imul, 1)) (kk : J D X w k n (pc + 1) lv (.int (x * y) :: st)) : J D X w k n pc lv (.int y :: .int x :: st) := fun H locs ls hP hD hS hl => lv_imul C.hx C.hb hd (kk H locs ls hP hD hS hl)
theorem j_iand (C : Cx D X cc own Ts fr lo mc ms nL) {x y : Int32} (hd : decode cc pc = .ok (.iand, 1)) (kk : J D X w k n (pc + 1) lv (.int (x &&& y) :: st)) : J D X w k n pc lv (.int y :: .int x :: st) := fun H locs ls hP hD hS hl => lv_iand C.hx C.hb hd (kk H locs ls hP hD hS hl)
theorem j_ior (C : Cx D X cc own Ts fr lo mc ms nL) {x y : Int32} (hd : decode cc pc = .ok (.ior, 1)) (kk : J D X w k n (pc + 1) lv (.int (x ||| y) :: st)) : J D X w k n pc lv (.int y :: .int x :: st) := fun H locs ls hP hD hS hl => lv_ior C.hx C.hb hd (kk H locs ls hP hD hS hl)
theorem j_ixor (C : Cx D X cc own Ts fr lo mc ms nL) {x y : Int32} (hd : decode cc pc = .ok (.ixor, 1)) (kk : J D X w k n (pc + 1) lv (.int (x ^^^ y) :: st)) : J D X w k n pc lv (.int y :: .int x :: st) := fun H locs ls hP hD hS hl => lv_ixor C.hx C.hb hd (kk H locs ls hP hD hS hl)
theorem j_ishl (C : Cx D X cc own Ts fr lo mc ms nL) {x y : Int32} (hd : decode cc pc = .ok (.ishl, 1)) (kk : J D X w k n (pc + 1) lv (.int (x <<< (y &&& 31)) :: st)) : J D X w k n pc lv (.int y :: .int x :: st) := fun H locs ls hP hD hS hl => lv_ishl C.hx C.hb hd (kk H locs ls hP hD hS hl)
theorem j_ishr (C : Cx D X cc own Ts fr lo mc ms nL) {x y : Int32} (hd : decode cc pc = .ok (.ishr, 1)) (kk : J D X w k n (pc + 1) lv (.int (x >>> (y &&& 31)) :: st)) : J D X w k n pc lv (.int y :: .int x :: st) := fun H locs ls hP hD hS hl => lv_ishr C.hx C.hb hd (kk H locs ls hP hD hS hl)
theorem j_iushr (C : Cx D X cc own Ts fr lo mc ms nL) {x y : Int32} (hd : decode cc pc = .ok (.iushr, 1)) (kk : J D X w k n (pc + 1) lv (.int ((x.toUInt32 >>> (y.toUInt32 &&& Int32.toUInt32 31)).toInt32) :: st)) : J D X w k n pc lv (.int y :: .int x :: st) := fun H locs ls hP hD hS hl => lv_iushr C.hx C.hb hd rfl (kk H locs ls hP hD hS hl)
theorem j_idiv (C : Cx D X cc own Ts fr lo mc ms nL) {x y : Int32} (hd : decode cc pc = .ok (.idiv, 1)) (h0 : ¬ y = 0) (kk : J D X w k n (pc + 1) lv (.int (x / y) :: st)) : J D X w k n pc lv (.int y :: .int x :: st) := fun H locs ls hP hD hS hl => lv_idiv C.hx C.hb hd h0 (kk H locs ls hP hD hS hl)
theorem j_irem (C : Cx D X cc own Ts fr lo mc ms nL) {x y : Int32} (hd : decode cc pc = .ok (.irem, 1)) (h0 : ¬ y = 0) (kk : J D X w k n (pc + 1) lv (.int (x - x / y * y) :: st)) : J D X w k n pc lv (.int y :: .int x :: st) := fun H locs ls hP hD hS hl => lv_irem C.hx C.hb hd h0 (kk H locs ls hP hD hS hl)
theorem j_ladd (C : Cx D X cc own Ts fr lo mc ms nL) {x y : Int64} (hd : decode cc pc = .ok (.ladd, 1)) (kk : J D X w k n (pc + 1) lv (.long (x + y) :: st)) : J D X w k n pc lv (.long y :: .long x :: st) := fun H locs ls hP hD hS hl => lv_ladd C.hx C.hb hd (kk H locs ls hP hD hS hl)
theorem j_lsub (C : Cx D X cc own Ts fr lo mc ms nL) {x y : Int64} (hd : decode cc pc = .ok (.lsub, 1)) (kk : J D X w k n (pc + 1) lv (.long (x - y) :: st)) : J D X w k n pc lv (.long y :: .long x :: st) := fun H locs ls hP hD hS hl => lv_lsub C.hx C.hb hd (kk H locs ls hP hD hS hl)
theorem j_lmul (C : Cx D X cc own Ts fr lo mc ms nL) {x y : Int64} (hd : decode cc pc = .ok (.lmul, 1)) (kk : J D X w k n (pc + 1) lv (.long (x * y) :: st)) : J D X w k n pc lv (.long y :: .long x :: st) := fun H locs ls hP hD hS hl => lv_lmul C.hx C.hb hd (kk H locs ls hP hD hS hl)
theorem j_ldiv (C : Cx D X cc own Ts fr lo mc ms nL) {x y : Int64} (hd : decode cc pc = .ok (.ldiv, 1)) (h0 : ¬ y = 0) (kk : J D X w k n (pc + 1) lv (.long (x / y) :: st)) : J D X w k n pc lv (.long y :: .long x :: st) := fun H locs ls hP hD hS hl => lv_ldiv C.hx C.hb hd h0 (kk H locs ls hP hD hS hl)
theorem j_lrem (C : Cx D X cc own Ts fr lo mc ms nL) {x y : Int64} (hd : decode cc pc = .ok (.lrem, 1)) (h0 : ¬ y = 0) (kk : J D X w k n (pc + 1) lv (.long (x - x / y * y) :: st)) : J D X w k n pc lv (.long y :: .long x :: st) := fun H locs ls hP hD hS hl => lv_lrem C.hx C.hb hd h0 (kk H locs ls hP hD hS hl)
theorem j_ineg (C : Cx D X cc own Ts fr lo mc ms nL) {x : Int32} (hd : decode cc pc = .ok (.ineg, 1)) (kk : J D X w k n (pc + 1) lv (.int (-x) :: st)) : J D X w k n pc lv (.int x :: st) := fun H locs ls hP hD hS hl => lv_ineg C.hx C.hb hd (kk H locs ls hP hD hS hl)
theorem j_i2l (C : Cx D X cc own Ts fr lo mc ms nL) {x : Int32} (hd : decode cc pc = .ok (.i2l, 1)) (kk : J D X w k n (pc + 1) lv (.long x.toInt64 :: st)) : J D X w k n pc lv (.int x :: st) := fun H locs ls hP hD hS hl => lv_i2l C.hx C.hb hd rfl (kk H locs ls hP hD hS hl)
theorem j_l2i (C : Cx D X cc own Ts fr lo mc ms nL) {x : Int64} (hd : decode cc pc = .ok (.l2i, 1)) (kk : J D X w k n (pc + 1) lv (.int x.toInt32 :: st)) : J D X w k n pc lv (.long x :: st) := fun H locs ls hP hD hS hl => lv_l2i C.hx C.hb hd rfl (kk H locs ls hP hD hS hl)
theorem j_i2b (C : Cx D X cc own Ts fr lo mc ms nL) {x : Int32} (hd : decode cc pc = .ok (.i2b, 1)) (kk : J D X w k n (pc + 1) lv (.int x.toInt8.toInt32 :: st)) : J D X w k n pc lv (.int x :: st) := fun H locs ls hP hD hS hl => lv_i2b C.hx C.hb hd rfl (kk H locs ls hP hD hS hl)
theorem j_l2d (C : Cx D X cc own Ts fr lo mc ms nL) {x : Int64} (hd : decode cc pc = .ok (.l2d, 1)) (kk : J D X w k n (pc + 1) lv (.double (FP.l2d x) :: st)) : J D X w k n pc lv (.long x :: st) := fun H locs ls hP hD hS hl => lv_l2d C.hx C.hb hd (kk H locs ls hP hD hS hl)
theorem j_dcmp (C : Cx D X cc own Ts fr lo mc ms nL) {x y : UInt64} {op : CmpOp} (hd : decode cc pc = .ok (.dcmp op, 1)) (kk : J D X w k n (pc + 1) lv (.int (Op.cmpValue (FP.dcmp x y) op) :: st)) : J D X w k n pc lv (.double y :: .double x :: st) := fun H locs ls hP hD hS hl => lv_dcmp C.hx C.hb hd (kk H locs ls hP hD hS hl)
theorem j_dconst0 (C : Cx D X cc own Ts fr lo mc ms nL) (hd : decode cc pc = .ok (.dconst 0, 1)) (kk : J D X w k n (pc + 1) lv (.double FP.dconst0 :: st)) : J D X w k n pc lv st := fun H locs ls hP hD hS hl => lv_dconst0 C.hx C.hb hd (kk H locs ls hP hD hS hl)
theorem j_lcmp (C : Cx D X cc own Ts fr lo mc ms nL) {x y : Int64} (hd : decode cc pc = .ok (.lcmp, 1)) (kk : J D X w k n (pc + 1) lv (.int (lg_cmp x y) :: st)) : J D X w k n pc lv (.long y :: .long x :: st) := fun H locs ls hP hD hS hl => W.lcmp C.hx C.hb hd (kk H locs ls hP hD hS hl)
theorem j_dup (C : Cx D X cc own Ts fr lo mc ms nL) {a : Value} (hd : decode cc pc = .ok (.dup, 1)) (ha : a.category = 1) (kk : J D X w k n (pc + 1) lv (a :: a :: st)) : J D X w k n pc lv (a :: st) := fun H locs ls hP hD hS hl => lv_dup C.hx C.hb hd ha (kk H locs ls hP hD hS hl)
theorem j_pop (C : Cx D X cc own Ts fr lo mc ms nL) {a : Value} (hd : decode cc pc = .ok (.pop, 1)) (ha : a.category = 1) (kk : J D X w k n (pc + 1) lv st) : J D X w k n pc lv (a :: st) := fun H locs ls hP hD hS hl => lv_pop C.hx C.hb hd ha (kk H locs ls hP hD hS hl)
theorem j_dup_x1 (C : Cx D X cc own Ts fr lo mc ms nL) {a b : Value} (hd : decode cc pc = .ok (.dup_x1, 1)) (ha : a.category = 1) (hb : b.category = 1) (kk : J D X w k n (pc + 1) lv (a :: b :: a :: st)) : J D X w k n pc lv (a :: b :: st) := fun H locs ls hP hD hS hl => lv_dup_x1 C.hx C.hb hd ha hb (kk H locs ls hP hD hS hl)
theorem j_dup2 (C : Cx D X cc own Ts fr lo mc ms nL) {a b : Value} (hd : decode cc pc = .ok (.dup2, 1)) (ha : a.category = 1) (hb : b.category = 1) (kk : J D X w k n (pc + 1) lv (a :: b :: a :: b :: st)) : J D X w k n pc lv (a :: b :: st) := fun H locs ls hP hD hS hl => lv_dup2_11 C.hx C.hb hd ha hb (kk H locs ls hP hD hS hl)
theorem j_if_eq (C : Cx D X cc own Ts fr lo mc ms nL) {x : Int32} {off : Int} {tgt : Nat} (hd : decode cc pc = .ok (.ifCond .eq off, 3)) (ht : (pc : Int) + off = (tgt : Int)) (kt : x = 0 → J D X w k n tgt lv st) (kf : ¬ x = 0 → J D X w k n (pc + 3) lv st) : J D X w k n pc lv (.int x :: st) := fun H locs ls hP hD hS hl => lv_if_eq C.hx C.hb hd ht (fun h => kt h H locs ls hP hD hS hl) (fun h => kf h H locs ls hP hD hS hl)
theorem j_if_ne (C : Cx D X cc own Ts fr lo mc ms nL) {x : Int32} {off : Int} {tgt : Nat} (hd : decode cc pc = .ok (.ifCond .ne off, 3)) (ht : (pc : Int) + off = (tgt : Int)) (kt : ¬ x = 0 → J D X w k n tgt lv st) (kf : x = 0 → J D X w k n (pc + 3) lv st) : J D X w k n pc lv (.int x :: st) := fun H locs ls hP hD hS hl => lv_if_ne C.hx C.hb hd ht (fun h => kt h H locs ls hP hD hS hl) (fun h => kf h H locs ls hP hD hS hl)
theorem j_if_lt (C : Cx D X cc own Ts fr lo mc ms nL) {x : Int32} {off : Int} {tgt : Nat} (hd : decode cc pc = .ok (.ifCond .lt off, 3)) (ht : (pc : Int) + off = (tgt : Int)) (kt : x < 0 → J D X w k n tgt lv st) (kf : ¬ x < 0 → J D X w k n (pc + 3) lv st) : J D X w k n pc lv (.int x :: st) := fun H locs ls hP hD hS hl => lv_if_lt C.hx C.hb hd ht (fun h => kt h H locs ls hP hD hS hl) (fun h => kf h H locs ls hP hD hS hl)
theorem j_if_ge (C : Cx D X cc own Ts fr lo mc ms nL) {x : Int32} {off : Int} {tgt : Nat} (hd : decode cc pc = .ok (.ifCond .ge off, 3)) (ht : (pc : Int) + off = (tgt : Int)) (kt : 0 ≤ x → J D X w k n tgt lv st) (kf : ¬ 0 ≤ x → J D X w k n (pc + 3) lv st) : J D X w k n pc lv (.int x :: st) := fun H locs ls hP hD hS hl => lv_if_ge C.hx C.hb hd ht (fun h => kt h H locs ls hP hD hS hl) (fun h => kf h H locs ls hP hD hS hl)
theorem j_if_gt (C : Cx D X cc own Ts fr lo mc ms nL) {x : Int32} {off : Int} {tgt : Nat} (hd : decode cc pc = .ok (.ifCond .gt off, 3)) (ht : (pc : Int) + off = (tgt : Int)) (kt : 0 < x → J D X w k n tgt lv st) (kf : ¬ 0 < x → J D X w k n (pc + 3) lv st) : J D X w k n pc lv (.int x :: st) := fun H locs ls hP hD hS hl => lv_if_gt C.hx C.hb hd ht (fun h => kt h H locs ls hP hD hS hl) (fun h => kf h H locs ls hP hD hS hl)
theorem j_if_le (C : Cx D X cc own Ts fr lo mc ms nL) {x : Int32} {off : Int} {tgt : Nat} (hd : decode cc pc = .ok (.ifCond .le off, 3)) (ht : (pc : Int) + off = (tgt : Int)) (kt : x ≤ 0 → J D X w k n tgt lv st) (kf : ¬ x ≤ 0 → J D X w k n (pc + 3) lv st) : J D X w k n pc lv (.int x :: st) := fun H locs ls hP hD hS hl => lv_if_le C.hx C.hb hd ht (fun h => kt h H locs ls hP hD hS hl) (fun h => kf h H locs ls hP hD hS hl)
theorem j_icmp_eq (C : Cx D X cc own Ts fr lo mc ms nL) {x y : Int32} {off : Int} {tgt : Nat} (hd : decode cc pc = .ok (.if_icmp .eq off, 3)) (ht : (pc : Int) + off = (tgt : Int)) (kt : x = y → J D X w k n tgt lv st) (kf : ¬ x = y → J D X w k n (pc + 3) lv st) : J D X w k n pc lv (.int y :: .int x :: st) := fun H locs ls hP hD hS hl => lv_icmp_eq C.hx C.hb hd ht (fun h => kt h H locs ls hP hD hS hl) (fun h => kf h H locs ls hP hD hS hl)
theorem j_icmp_ne (C : Cx D X cc own Ts fr lo mc ms nL) {x y : Int32} {off : Int} {tgt : Nat} (hd : decode cc pc = .ok (.if_icmp .ne off, 3)) (ht : (pc : Int) + off = (tgt : Int)) (kt : ¬ x = y → J D X w k n tgt lv st) (kf : x = y → J D X w k n (pc + 3) lv st) : J D X w k n pc lv (.int y :: .int x :: st) := fun H locs ls hP hD hS hl => lv_icmp_ne C.hx C.hb hd ht (fun h => kt h H locs ls hP hD hS hl) (fun h => kf h H locs ls hP hD hS hl)
theorem j_icmp_lt (C : Cx D X cc own Ts fr lo mc ms nL) {x y : Int32} {off : Int} {tgt : Nat} (hd : decode cc pc = .ok (.if_icmp .lt off, 3)) (ht : (pc : Int) + off = (tgt : Int)) (kt : x < y → J D X w k n tgt lv st) (kf : ¬ x < y → J D X w k n (pc + 3) lv st) : J D X w k n pc lv (.int y :: .int x :: st) := fun H locs ls hP hD hS hl => lv_icmp_lt C.hx C.hb hd ht (fun h => kt h H locs ls hP hD hS hl) (fun h => kf h H locs ls hP hD hS hl)
theorem j_icmp_ge (C : Cx D X cc own Ts fr lo mc ms nL) {x y : Int32} {off : Int} {tgt : Nat} (hd : decode cc pc = .ok (.if_icmp .ge off, 3)) (ht : (pc : Int) + off = (tgt : Int)) (kt : y ≤ x → J D X w k n tgt lv st) (kf : ¬ y ≤ x → J D X w k n (pc + 3) lv st) : J D X w k n pc lv (.int y :: .int x :: st) := fun H locs ls hP hD hS hl => lv_icmp_ge C.hx C.hb hd ht (fun h => kt h H locs ls hP hD hS hl) (fun h => kf h H locs ls hP hD hS hl)
theorem j_icmp_gt (C : Cx D X cc own Ts fr lo mc ms nL) {x y : Int32} {off : Int} {tgt : Nat} (hd : decode cc pc = .ok (.if_icmp .gt off, 3)) (ht : (pc : Int) + off = (tgt : Int)) (kt : y < x → J D X w k n tgt lv st) (kf : ¬ y < x → J D X w k n (pc + 3) lv st) : J D X w k n pc lv (.int y :: .int x :: st) := fun H locs ls hP hD hS hl => lv_icmp_gt C.hx C.hb hd ht (fun h => kt h H locs ls hP hD hS hl) (fun h => kf h H locs ls hP hD hS hl)
theorem j_icmp_le (C : Cx D X cc own Ts fr lo mc ms nL) {x y : Int32} {off : Int} {tgt : Nat} (hd : decode cc pc = .ok (.if_icmp .le off, 3)) (ht : (pc : Int) + off = (tgt : Int)) (kt : x ≤ y → J D X w k n tgt lv st) (kf : ¬ x ≤ y → J D X w k n (pc + 3) lv st) : J D X w k n pc lv (.int y :: .int x :: st) := fun H locs ls hP hD hS hl => lv_icmp_le C.hx C.hb hd ht (fun h => kt h H locs ls hP hD hS hl) (fun h => kf h H locs ls hP hD hS hl)
theorem j_goto (C : Cx D X cc own Ts fr lo mc ms nL) {off : Int} {tgt : Nat} (hd : decode cc pc = .ok (.goto off, 3)) (ht : (pc : Int) + off = (tgt : Int)) (kk : J D X w k n tgt lv st) : J D X w k n pc lv st := fun H locs ls hP hD hS hl => lv_goto C.hx C.hb hd ht (kk H locs ls hP hD hS hl)
theorem j_ifnonnull (C : Cx D X cc own Ts fr lo mc ms nL) {a : Nat} {off : Int} {tgt : Nat} (hd : decode cc pc = .ok (.ifnonnull off, 3)) (ht : (pc : Int) + off = (tgt : Int)) (kk : J D X w k n tgt lv st) : J D X w k n pc lv (.ref a :: st) := fun H locs ls hP hD hS hl => lv_ifnonnull C.hx C.hb hd ht (kk H locs ls hP hD hS hl)
theorem j_ifnonnullN (C : Cx D X cc own Ts fr lo mc ms nL) {off : Int} (hd : decode cc pc = .ok (.ifnonnull off, 3)) (kk : J D X w k n (pc + 3) lv st) : J D X w k n pc lv (.null :: st) := fun H locs ls hP hD hS hl => lv_ifnonnullN C.hx C.hb hd (kk H locs ls hP hD hS hl)
theorem j_tswIn (C : Cx D X cc own Ts fr lo mc ms nL) {dflt lw hi : Int} {offs : Array Int} {len : Nat} {x : Int32} {off : Int} {tgt : Nat} (hd : decode cc pc = .ok (.tableswitch dflt lw hi offs, len)) (h1 : ¬ x.toInt < lw) (h2 : ¬ hi < x.toInt) (ho : offs[(x.toInt - lw).toNat]? = some off) (ht : (pc : Int) + off = (tgt : Int)) (kk : J D X w k n tgt lv st) : J D X w k n pc lv (.int x :: st) := fun H locs ls hP hD hS hl => lv_tableIn C.hx C.hb hd h1 h2 ho ht (kk H locs ls hP hD hS hl)
theorem j_tswOut (C : Cx D X cc own Ts fr lo mc ms nL) {dflt lw hi : Int} {offs : Array Int} {len : Nat} {x : Int32} {tgt : Nat} (hd : decode cc pc = .ok (.tableswitch dflt lw hi offs, len)) (h : x.toInt < lw ∨ hi < x.toInt) (ht : (pc : Int) + dflt = (tgt : Int)) (kk : J D X w k n tgt lv st) : J D X w k n pc lv (.int x :: st) := fun H locs ls hP hD hS hl => lv_tableOut C.hx C.hb hd h ht (kk H locs ls hP hD hS hl)
/-- a field's read, by the words: its class's rows are among them, and the link -/
def FG (Ts : List Cond) (own : String) (idx ci k : Nat) : Prop := ∃ (Cn : String) (T : u_T) (N : Nat), vwCl[ci]? = some (Cn, T, N) ∧ (∀ w ∈ u_ws Cn T N, w ∈ Ts) ∧ k < N ∧ Cond.fieldLink own idx (T k).1 (T k).2.1 (T k).2.2.1 ∈ Ts
/-- a field's write -/
def FS (Ts : List Cond) (own : String) (idx ci k : Nat) (fin : Bool) (ty : FieldType) : Prop := ∃ (Cn : String) (T : u_T) (N : Nat) (ty0 : Nat → FieldType), vwCl[ci]? = some (Cn, T, N) ∧ (∀ w ∈ u_ws Cn T N, w ∈ Ts) ∧ k < N ∧ Cond.fieldLink own idx (T k).1 (T k).2.1 (T k).2.2.1 ∈ Ts ∧ (∀ k, k < N → parseFieldDescriptor (T k).2.2.1 = some (ty0 k)) ∧ (∀ a, a < N → ∀ b, b < N → a ≠ b → (T a).2.1 ≠ (T b).2.1) ∧ (T k).2.2.2 = fin ∧ (T k).1 = own ∧ parseFieldDescriptor (T k).2.2.1 = some ty
/-- a write from another class -/
def FO (Ts : List Cond) (own : String) (idx ci k : Nat) (ty : FieldType) : Prop := ∃ (Cn : String) (T : u_T) (N : Nat) (ty0 : Nat → FieldType), vwCl[ci]? = some (Cn, T, N) ∧ (∀ w ∈ u_ws Cn T N, w ∈ Ts) ∧ k < N ∧ Cond.fieldLink own idx (T k).1 (T k).2.1 (T k).2.2.1 ∈ Ts ∧ (∀ k, k < N → parseFieldDescriptor (T k).2.2.1 = some (ty0 k)) ∧ (∀ a, a < N → ∀ b, b < N → a ≠ b → (T a).2.1 ≠ (T b).2.1) ∧ (T k).2.2.2 = false ∧ parseFieldDescriptor (T k).2.2.1 = some ty
theorem j_get (C : Cx D X cc own Ts fr lo mc ms nL) {idx ci q a : Nat} {fs : List Value} {v : Value} (q0 : Nat) (hf : FG Ts own idx ci q) (he : w[q0]? = some (a, .inr (ci, fs))) (hv : fs[q]? = some v) (hd : decode cc pc = .ok (.getfield idx, 3)) (kk : J D X w k n (pc + 3) lv (v :: st)) : J D X w k n pc lv (.ref a :: st) := by
  obtain ⟨Cn, T, N, h1, h2, h3, h4⟩ := hf
  exact fun H locs ls hP hD hS hl => va_get C.hx C.hb C.hts h2 C.hown C.hK hP q0 he h1 q h3 (C.hts _ h4) (fun _ h => h) hv hd (kk H locs ls hP hD hS hl)
theorem j_put (C : Cx D X cc own Ts fr lo mc ms nL) {idx ci q a : Nat} {ty : FieldType} {fs : List Value} {v : Value} {w' : va_W} (q0 : Nat) (hf : FO Ts own idx ci q ty) (he : w[q0]? = some (a, .inr (ci, fs))) (hw : w.set q0 (a, .inr (ci, fs.set q v)) = w') (hn : narrow ty v = v) (ht : fits ty v = true) (hq : q < fs.length) (hd : decode cc pc = .ok (.putfield idx, 3)) (kk : J D X w' k n (pc + 3) lv st) : J D X w k n pc lv (v :: .ref a :: st) := by
  obtain ⟨Cn, T, N, ty0, h1, h2, h3, h4, h5, h6, h7, h8⟩ := hf
  subst hw
  exact fun H locs ls hP hD hS hl => va_put C.hx C.hb C.hts h2 ty0 h5 h6 C.hown C.hK hP hD hS q0 he h1 q h3 (C.hts _ h4) (fun _ h => h) h7 h8 hn ht hq hd (fun H1 locs1 hP1 hD1 hS1 => kk H1 locs1 ls hP1 hD1 hS1 hl)
theorem j_putF (C : Cx D X cc own Ts fr lo mc ms nL) {idx ci q a : Nat} {ty : FieldType} {fs : List Value} {v : Value} {w' : va_W} (q0 : Nat) (hi : (xM X).name = "<init>") (hf : FS Ts own idx ci q true ty) (he : w[q0]? = some (a, .inr (ci, fs))) (hw : w.set q0 (a, .inr (ci, fs.set q v)) = w') (hn : narrow ty v = v) (ht : fits ty v = true) (hq : q < fs.length) (hd : decode cc pc = .ok (.putfield idx, 3)) (kk : J D X w' k n (pc + 3) lv st) : J D X w k n pc lv (v :: .ref a :: st) := by
  obtain ⟨Cn, T, N, ty0, h1, h2, h3, h4, h5, h6, h7, h8, h9⟩ := hf
  subst hw
  exact fun H locs ls hP hD hS hl => va_putF C.hx C.hb C.hts h2 ty0 h5 h6 C.hown C.hK hP hD hS q0 he h1 q h3 (C.hts _ h4) (fun _ h => h) h7 hi h8 h9 hn ht hq hd (fun H1 locs1 hP1 hD1 hS1 => kk H1 locs1 ls hP1 hD1 hS1 hl)
theorem j_iald (C : Cx D X cc own Ts fr lo mc ms nL) {a N i : Nat} {f : Nat → Int32} {x : Int32} (q0 : Nat) (he : w[q0]? = some (a, .inl (D.2.1, N, .inl f))) (hx : x = nI i) (hi : i < N) (hN : N < 2 ^ 31) (hd : decode cc pc = .ok (.iaload, 1)) (kk : J D X w k n (pc + 1) lv (.int (f i) :: st)) : J D X w k n pc lv (.int x :: .ref a :: st) := by
  subst hx
  exact fun H locs ls hP hD hS hl => va_iald C.hx C.hb C.hK hP q0 0 he rfl (vp_in_nI hi hN) hd (by rw [nI_clamp (Nat.lt_trans hi hN)]; exact kk H locs ls hP hD hS hl)
theorem j_bald (C : Cx D X cc own Ts fr lo mc ms nL) {a N i : Nat} {f : Nat → Int32} {x : Int32} (q0 : Nat) (he : w[q0]? = some (a, .inl (D.2.2.2.1, N, .inl f))) (hx : x = nI i) (hi : i < N) (hN : N < 2 ^ 31) (hd : decode cc pc = .ok (.baload, 1)) (kk : J D X w k n (pc + 1) lv (.int (f i) :: st)) : J D X w k n pc lv (.int x :: .ref a :: st) := by
  subst hx
  exact fun H locs ls hP hD hS hl => va_bald C.hx C.hb C.hK hP q0 2 he rfl (vp_in_nI hi hN) hd (by rw [nI_clamp (Nat.lt_trans hi hN)]; exact kk H locs ls hP hD hS hl)
theorem j_lald (C : Cx D X cc own Ts fr lo mc ms nL) {a N i : Nat} {f : Nat → Int64} {x : Int32} (q0 : Nat) (he : w[q0]? = some (a, .inl (D.2.2.1, N, .inr (.inl f)))) (hx : x = nI i) (hi : i < N) (hN : N < 2 ^ 31) (hd : decode cc pc = .ok (.laload, 1)) (kk : J D X w k n (pc + 1) lv (.long (f i) :: st)) : J D X w k n pc lv (.int x :: .ref a :: st) := by
  subst hx
  exact fun H locs ls hP hD hS hl => va_lald C.hx C.hb C.hK hP q0 1 he rfl (vp_in_nI hi hN) hd (by rw [nI_clamp (Nat.lt_trans hi hN)]; exact kk H locs ls hP hD hS hl)
theorem j_aald (C : Cx D X cc own Ts fr lo mc ms nL) {a N i : Nat} {f : Nat → Option Nat} {x : Int32} (q0 : Nat) (he : w[q0]? = some (a, .inl (D.2.2.2.2, N, .inr (.inr (.inr (.inr f)))))) (hx : x = nI i) (hi : i < N) (hN : N < 2 ^ 31) (hd : decode cc pc = .ok (.aaload, 1)) (kk : J D X w k n (pc + 1) lv (va_rf (f i) :: st)) : J D X w k n pc lv (.int x :: .ref a :: st) := by
  subst hx
  exact fun H locs ls hP hD hS hl => va_aldq C.hx C.hb C.hK hP q0 3 he rfl (vp_in_nI hi hN) hd (by rw [nI_clamp (Nat.lt_trans hi hN)]; exact kk H locs ls hP hD hS hl)
theorem j_iast (C : Cx D X cc own Ts fr lo mc ms nL) {a N i : Nat} {f : Nat → Int32} {x v : Int32} {w' : va_W} (q0 : Nat) (he : w[q0]? = some (a, .inl (D.2.1, N, .inl f))) (hx : x = nI i) (hi : i < N) (hN : N < 2 ^ 31) (hw : w.set q0 (a, .inl (D.2.1, N, .inl (upd f i v))) = w') (hd : decode cc pc = .ok (.iastore, 1)) (kk : J D X w' k n (pc + 1) lv st) : J D X w k n pc lv (.int v :: .int x :: .ref a :: st) := by
  subst hx
  subst hw
  intro H locs ls hP hD hS hl
  refine va_iast C.hx C.hb C.hK hP hD hS q0 0 he rfl (vp_in_nI hi hN) hd (fun H1 locs1 hP1 hD1 hS1 => ?_)
  rw [nI_clamp (Nat.lt_trans hi hN)] at hP1 hD1
  exact kk H1 locs1 ls hP1 hD1 hS1 hl
theorem j_bast (C : Cx D X cc own Ts fr lo mc ms nL) {a N i : Nat} {f : Nat → Int32} {x v : Int32} {w' : va_W} (q0 : Nat) (he : w[q0]? = some (a, .inl (D.2.2.2.1, N, .inl f))) (hx : x = nI i) (hi : i < N) (hN : N < 2 ^ 31) (hw : w.set q0 (a, .inl (D.2.2.2.1, N, .inl (upd f i (vp_nar .byte v)))) = w') (hd : decode cc pc = .ok (.bastore, 1)) (kk : J D X w' k n (pc + 1) lv st) : J D X w k n pc lv (.int v :: .int x :: .ref a :: st) := by
  subst hx
  subst hw
  intro H locs ls hP hD hS hl
  refine va_bast C.hx C.hb C.hK hP hD hS q0 2 he rfl (vp_in_nI hi hN) hd (fun H1 locs1 hP1 hD1 hS1 => ?_)
  rw [nI_clamp (Nat.lt_trans hi hN)] at hP1 hD1
  exact kk H1 locs1 ls hP1 hD1 hS1 hl
theorem j_last (C : Cx D X cc own Ts fr lo mc ms nL) {a N i : Nat} {f : Nat → Int64} {x : Int32} {v : Int64} {w' : va_W} (q0 : Nat) (he : w[q0]? = some (a, .inl (D.2.2.1, N, .inr (.inl f)))) (hx : x = nI i) (hi : i < N) (hN : N < 2 ^ 31) (hw : w.set q0 (a, .inl (D.2.2.1, N, .inr (.inl (vp_updL f i v)))) = w') (hd : decode cc pc = .ok (.lastore, 1)) (kk : J D X w' k n (pc + 1) lv st) : J D X w k n pc lv (.long v :: .int x :: .ref a :: st) := by
  subst hx
  subst hw
  intro H locs ls hP hD hS hl
  refine va_last C.hx C.hb C.hK hP hD hS q0 1 he rfl (vp_in_nI hi hN) hd (fun H1 locs1 hP1 hD1 hS1 => ?_)
  rw [nI_clamp (Nat.lt_trans hi hN)] at hP1 hD1
  exact kk H1 locs1 ls hP1 hD1 hS1 hl
theorem j_aast (C : Cx D X cc own Ts fr lo mc ms nL) {a N i v ci : Nat} {vs : List Value} {f : Nat → Option Nat} {x : Int32} {w' : va_W} {r : vw_C} (q0 qk : Nat) (he : w[q0]? = some (a, .inl (D.2.2.2.2, N, .inr (.inr (.inr (.inr f)))))) (hv : w[qk]? = some (v, .inr (ci, vs))) (hci : vwCl[ci]? = some r) (hr : r.1 = "KeelBlocks$Dock") (hx : x = nI i) (hi : i < N) (hN : N < 2 ^ 31) (hw : w.set q0 (a, .inl (D.2.2.2.2, N, .inr (.inr (.inr (.inr (va_up f i (some v))))))) = w') (hd : decode cc pc = .ok (.aastore, 1)) (kk : J D X w' k n (pc + 1) lv st) : J D X w k n pc lv (.ref v :: .int x :: .ref a :: st) := by
  subst hx
  subst hw
  intro H locs ls hP hD hS hl
  refine va_astq C.hx C.hb C.hK hP hD hS q0 3 qk ci he (by rw [hr]; rfl) hv hci (vp_in_nI hi hN) hd (fun H1 locs1 hP1 hD1 hS1 => ?_)
  rw [nI_clamp (Nat.lt_trans hi hN)] at hP1 hD1
  exact kk H1 locs1 ls hP1 hD1 hS1 hl
end JROWS
/-! worlds behind calls: the callee's cells are put back at their places, new ones at the end -/
def kPut : va_W → List Nat → va_W → va_W
  | w, [], cs => w ++ cs
  | _, _ :: _, [] => []
  | w, i :: is, c :: cs => kPut (w.set i c) is cs
theorem kPut_mem : ∀ (is : List Nat) (w cs : va_W) (q : Nat × va_E), q ∈ kPut w is cs → q ∈ cs ∨ ∃ k : Nat, w[k]? = some q ∧ k ∉ is
  | [], w, cs, q, h => by
    rw [kPut] at h
    rcases List.mem_append.mp h with h | h
    · obtain ⟨k, hk⟩ := List.getElem?_of_mem h
      exact Or.inr ⟨k, hk, List.not_mem_nil⟩
    · exact Or.inl h
  | _ :: _, _, [], q, h => by
    rw [kPut] at h
    exact absurd h List.not_mem_nil
  | i :: is, w, c :: cs, q, h => by
    rw [kPut] at h
    rcases kPut_mem is (w.set i c) cs q h with h | ⟨k, hk, hn⟩
    · exact Or.inl (List.mem_cons_of_mem _ h)
    · by_cases hki : k = i
      · subst hki
        have hl : k < (w.set k c).length := (List.getElem?_eq_some_iff.mp hk).1
        rw [List.length_set] at hl
        rw [List.getElem?_set_self hl] at hk
        cases hk
        exact Or.inl List.mem_cons_self
      · rw [List.getElem?_set_ne (Ne.symm hki)] at hk
        exact Or.inr ⟨k, hk, fun hm => (List.mem_cons.mp hm).elim hki hn⟩
theorem kPut_fst : ∀ (is : List Nat) (w cs : va_W), (∀ (j i : Nat), is[j]? = some i → ∃ c e, cs[j]? = some c ∧ w[i]? = some e ∧ c.1 = e.1) → (kPut w is cs).map Prod.fst = w.map Prod.fst ++ (cs.drop is.length).map Prod.fst
  | [], w, cs, _ => by simp [kPut]
  | i :: is, w, [], h => by
    obtain ⟨c, e, h1, -⟩ := h 0 i rfl
    simp at h1
  | i :: is, w, c :: cs, h => by
    obtain ⟨c0, e, h1, h2, h3⟩ := h 0 i rfl
    cases h1
    have hs : (w.set i c).map Prod.fst = w.map Prod.fst := by
      apply List.ext_getElem?
      intro k
      rw [List.getElem?_map, List.getElem?_map]
      by_cases hki : k = i
      · subst hki
        rw [List.getElem?_set_self (List.getElem?_eq_some_iff.mp h2).1, h2]
        simp [h3]
      · rw [List.getElem?_set_ne (Ne.symm hki)]
    have ih := kPut_fst is (w.set i c) cs (fun j i' hj => by
      obtain ⟨c', e', g1, g2, g3⟩ := h (j + 1) i' hj
      by_cases hki : i' = i
      · subst hki
        refine ⟨c', c, g1, List.getElem?_set_self (List.getElem?_eq_some_iff.mp h2).1, ?_⟩
        rw [h2] at g2
        cases g2
        rw [g3, h3]
      · exact ⟨c', e', g1, by rw [List.getElem?_set_ne (Ne.symm hki)]; exact g2, g3⟩)
    show (kPut (w.set i c) is cs).map Prod.fst = _
    rw [ih, hs]
    rfl
theorem kPut_ok {A0 : Nat → Prop} {D : va_G} {cl : List vw_C} {w wc w1 : va_W} {H H1 : Heap} (hP : va_P D cl w H) (hD : va_D A0 w) (is : List Nat) (hC : is.map (fun i => w[i]?) = wc.map some) (ha : (w1.take wc.length).map Prod.fst = wc.map Prod.fst)
    (hk : ∀ q : Nat, q < H.size → ¬ va_A wc H.size q → H1[q]? = H[q]?) (hF : ∀ q, va_A wc H.size q → A0 q) (hP1 : va_P D cl w1 H1) (hD1 : va_D (va_A wc H.size) w1) : va_P D cl (kPut w is w1) H1 ∧ va_D A0 (kPut w is w1) := by
  have hlen : is.length = wc.length := by have := congrArg List.length hC; simpa using this
  have hat : ∀ (k2 : Nat) (q : Nat × va_E), wc[k2]? = some q → ∃ i, is[k2]? = some i ∧ w[i]? = some q := by
    intro k2 q hq
    have h1 : (is.map (fun i => w[i]?))[k2]? = some (some q) := by rw [hC, List.getElem?_map, hq]; rfl
    rw [List.getElem?_map] at h1
    cases hi : is[k2]? with
    | none => rw [hi] at h1; cases h1
    | some i => rw [hi] at h1; exact ⟨i, rfl, Option.some.inj h1⟩
  have hat2 : ∀ (j i : Nat), is[j]? = some i → ∃ q, wc[j]? = some q ∧ w[i]? = some q := by
    intro j i hj
    have hlj : j < wc.length := hlen ▸ (List.getElem?_eq_some_iff.mp hj).1
    obtain ⟨i', h1, h2⟩ := hat j wc[j] (List.getElem?_eq_getElem hlj)
    rw [hj] at h1
    cases h1
    exact ⟨_, List.getElem?_eq_getElem hlj, h2⟩
  have hfst : ∀ (j : Nat) (q : Nat × va_E), wc[j]? = some q → ∃ c, w1[j]? = some c ∧ c.1 = q.1 := by
    intro j q hq
    have hlj : j < wc.length := (List.getElem?_eq_some_iff.mp hq).1
    have h1 : ((w1.take wc.length).map Prod.fst)[j]? = some q.1 := by rw [ha, List.getElem?_map, hq]; rfl
    rw [List.getElem?_map, List.getElem?_take_of_lt hlj] at h1
    exact Option.map_eq_some_iff.mp h1
  have apart : ∀ (k : Nat) (q : Nat × va_E), w[k]? = some q → k ∉ is → q.1 < H.size ∧ ¬ va_A wc H.size q.1 := by
    intro k q hq hn
    have hl := (hP k q hq).lt
    refine ⟨hl, fun h => ?_⟩
    rcases h with ⟨k2, e, h⟩ | h
    · obtain ⟨i, h3, h4⟩ := hat k2 (q.1, e) h
      have hij := hD.1 i k (q.1, e) q h4 hq rfl
      subst hij
      exact hn (List.mem_of_getElem? h3)
    · omega
  have hf := kPut_fst is w w1 (fun j i hj => by
    obtain ⟨q, h1, h2⟩ := hat2 j i hj
    obtain ⟨c, h3, h4⟩ := hfst j q h1
    exact ⟨c, q, h3, h2, h4⟩)
  refine ⟨fun k q hq => ?_, fun i j p q hi hj e => ?_, fun k q hq => ?_⟩
  · rcases kPut_mem is w w1 q (List.mem_of_getElem? hq) with h | ⟨k2, h2, hn⟩
    · obtain ⟨k3, h3⟩ := List.getElem?_of_mem h
      exact hP1 k3 q h3
    · obtain ⟨g1, g2⟩ := apart k2 q h2 hn
      exact (hP k2 q h2).kept (hk q.1 g1 g2)
  · have h1 : (w.map Prod.fst ++ (w1.drop is.length).map Prod.fst)[i]? = some p.1 := by rw [← hf, List.getElem?_map, hi]; rfl
    have h2 : (w.map Prod.fst ++ (w1.drop is.length).map Prod.fst)[j]? = some p.1 := by rw [← hf, List.getElem?_map, hj, e]; rfl
    have key : ∀ (x : Nat), (w.map Prod.fst ++ (w1.drop is.length).map Prod.fst)[x]? = some p.1 → (∃ e0, w[x]? = some (p.1, e0)) ∨ (w.length ≤ x ∧ ∃ e0, w1[is.length + (x - w.length)]? = some (p.1, e0)) := by
      intro x hx
      by_cases hl : x < w.length
      · rw [List.getElem?_append_left (by simpa using hl), List.getElem?_map] at hx
        obtain ⟨c, c1, c2⟩ := Option.map_eq_some_iff.mp hx
        exact Or.inl ⟨c.2, by rw [c1, ← c2]⟩
      · rw [List.getElem?_append_right (by simpa using Nat.le_of_not_lt hl), List.getElem?_map, List.length_map, List.getElem?_drop] at hx
        obtain ⟨c, c1, c2⟩ := Option.map_eq_some_iff.mp hx
        exact Or.inr ⟨Nat.le_of_not_lt hl, c.2, by rw [c1, ← c2]⟩
    have mixed : ∀ (x y : Nat) (e0 e1 : va_E), w[x]? = some (p.1, e0) → w1[is.length + y]? = some (p.1, e1) → False := by
      intro x y e0 e1 hx hy
      have hl := (hP x _ hx).lt
      rcases hD1.2 _ _ hy with ⟨k2, e2, h⟩ | h
      · obtain ⟨c, c1, c2⟩ := hfst k2 _ h
        have := hD1.1 _ _ _ _ c1 hy c2
        have hk2 := (List.getElem?_eq_some_iff.mp h).1
        omega
      · exact absurd hl (Nat.not_lt.mpr h)
    rcases key i h1 with ⟨e0, a1⟩ | ⟨l1, e0, a1⟩ <;> rcases key j h2 with ⟨e1, a2⟩ | ⟨l2, e1, a2⟩
    · exact hD.1 i j _ _ a1 a2 rfl
    · exact (mixed _ _ _ _ a1 a2).elim
    · exact (mixed _ _ _ _ a2 a1).elim
    · have := hD1.1 _ _ _ _ a1 a2 rfl
      omega
  · rcases kPut_mem is w w1 q (List.mem_of_getElem? hq) with h | ⟨k2, h2, hn⟩
    · obtain ⟨k3, h3⟩ := List.getElem?_of_mem h
      exact hF _ (hD1.2 k3 q h3)
    · exact hD.2 k2 q h2
theorem kCut {A0 : Nat → Prop} {D : va_G} {cl : List vw_C} {w wc : va_W} {H : Heap} (hP : va_P D cl w H) (hD : va_D A0 w) (isC : List Nat) (hC : isC.map (fun i => w[i]?) = wc.map some) (hnd : va_nd isC = true) : va_P D cl wc H ∧ va_D (fun _ => True) wc := by
  refine ⟨fun k2 q hq2 => ?_, (hD.sub isC hnd hC).weaken (fun _ _ _ _ => trivial)⟩
  have h1 : (isC.map (fun i => w[i]?))[k2]? = some (some q) := by rw [hC, List.getElem?_map, hq2]; rfl
  rw [List.getElem?_map] at h1
  obtain ⟨i, -, hi⟩ := Option.map_eq_some_iff.mp h1
  exact hP i q hi
/-! contracts over worlds -/
def kPre (D : KD) (w0 : va_W) (sz : Nat) (U : State) : Prop := U.heap.size = sz ∧ va_P D.1 vwCl w0 U.heap ∧ (va_K D.1 vwCl (kT D) U ∧ kN U) ∧ va_D (fun _ => True) w0
def kB (D : KD) (w0 : va_W) (sz : Nat) (w1 : va_W) (t : State) : Prop := va_P D.1 vwCl w1 t.heap ∧ va_D (va_A w0 sz) w1
abbrev kR (fr lo mc ms : Nat) : Room := { frames := fr, cells := mc, slots := ms, locals := lo }
def MI (l : Launch) (D : KD) (y : MethodName) (ws : List Cond) (fr lo mc ms : Nat) (av : List Value) (w0 : va_W) (post : Int32 → va_W → Prop) : Prop := ∀ sz : Nat, Met l y ws (kR fr lo mc ms) (va_Pc av (kPre D w0 sz)) (va_Qi post (kB D w0 sz) (va_A w0 sz)) mc ms (va_A w0 sz)
def ML (l : Launch) (D : KD) (y : MethodName) (ws : List Cond) (fr lo mc ms : Nat) (av : List Value) (w0 : va_W) (post : Int64 → va_W → Prop) : Prop := ∀ sz : Nat, Met l y ws (kR fr lo mc ms) (va_Pc av (kPre D w0 sz)) (va_Ql post (kB D w0 sz) (va_A w0 sz)) mc ms (va_A w0 sz)
def MV (l : Launch) (D : KD) (y : MethodName) (ws : List Cond) (fr lo mc ms : Nat) (av : List Value) (w0 : va_W) (post : va_W → Prop) : Prop := ∀ sz : Nat, Met l y ws (kR fr lo mc ms) (va_Pc av (kPre D w0 sz)) (va_Qv post (kB D w0 sz) (va_A w0 sz)) mc ms (va_A w0 sz)
def MO (l : Launch) (D : KD) (y : MethodName) (ws : List Cond) (fr lo mc ms : Nat) (av : List Value) (w0 : va_W) (post : Option Nat → va_W → Prop) : Prop := ∀ sz : Nat, Met l y ws (kR fr lo mc ms) (va_Pc av (kPre D w0 sz)) (va_Qq post (kB D w0 sz) (va_A w0 sz)) mc ms (va_A w0 sz)
theorem kPre.blind {D : KD} {w0 : va_W} {sz : Nat} {av : List Value} : FrameBlind (va_Pc av (kPre D w0 sz)) := fun a U g mk q => by
  obtain ⟨q0, q1, qP, ⟨qK, qN⟩, qD⟩ := q
  exact ⟨q0, q1, qP, ⟨va_K.moved (u := U) (U := U.calling g mk a) (Vm.Alike.refl U.vm) qK, qN.same rfl⟩, qD⟩
set_option maxHeartbeats 1000000 in
theorem MI.of {l : Launch} {D : KD} {y : MethodName} {ws ws' : List Cond} {fr lo mc ms : Nat} {av : List Value} {w0 : va_W} {cc : ByteArray} {nL : Nat} {lv0 : List (Nat × Value)} {post : Int32 → va_W → Prop} (hy : plainName y.cls = true) (hw : ws = Cond.code y cc nL (some .int) :: ws') (hn : (lg_sl av).length ≤ nL) (hlv : lv_args 0 av = lv0)
    (body : ∀ X : KX, xl X = l → (xM X).name = y.name → Cx D X cc y.cls ws fr lo mc ms nL → (∀ {pc : Nat} {r : Int32} {w : va_W} {lv : List (Nat × Value)}, decode cc pc = .ok (.ireturn, 1) → post r w → J D X w mc ms pc lv [.int r]) → J D X w0 0 0 0 lv0 []) : MI l D y ws fr lo mc ms av w0 post := by
  intro sz
  refine Met.ofW (cc := cc) (maxL := nL) (ret := (some .int)) hy hw ?_
  intro p e s m args below meth c s₁ B hml hv
  obtain ⟨rfl, hsz, hP, ⟨hK, hN⟩, hD0⟩ := hv
  have hx := B.exec
  have hb := B.bytes
  have hr := B.returns
  have hts := atoms_spec (ws := ws) B.pre
  have hown : s.vm.findClass y.cls = some m.cls := findClass_of_methodNamed B.named
  have hlocks := B.notSynchronized
  have hin : meth.name = y.name := (name_of_methodNamed B.named B.method).1
  subst hsz
  have hD := hD0.self (sz := s.heap.size)
  have hS : va_S (va_A w0 s.heap.size) s.heap s.heap [] := va_S.rf
  have hl := lv_entry av (n := nL) hn
  rw [hlv] at hl
  rw [lg_entry_eq]
  refine body (p, l, e, kR fr lo mc ms, s, m, av.toArray, below, meth, c, _, va_A w0 s.heap.size, nL) rfl hin ⟨⟨hx, hb, hml, hown, hts⟩, ⟨hK, hN⟩, fun q h => Or.inr h, ⟨rfl, rfl, rfl, rfl⟩, rfl⟩ ?_ s.heap [] _ hP hD hS hl
  exact fun hd hq H locs ls hP hD hS hl => W.iret hx hb hr (fun t ht hW => ⟨⟨_, _, rfl, hq, by rw [ht]; exact hP, hD⟩, hS.F ht⟩) hS.2.2 hd hlocks
set_option maxHeartbeats 1000000 in
theorem MI.ofz {l : Launch} {D : KD} {y : MethodName} {ws ws' : List Cond} {fr lo mc ms : Nat} {av : List Value} {w0 : va_W} {cc : ByteArray} {nL : Nat} {lv0 : List (Nat × Value)} {post : Int32 → va_W → Prop} (hy : plainName y.cls = true) (hw : ws = Cond.code y cc nL (some .boolean) :: ws') (hn : (lg_sl av).length ≤ nL) (hlv : lv_args 0 av = lv0)
    (body : ∀ X : KX, xl X = l → (xM X).name = y.name → Cx D X cc y.cls ws fr lo mc ms nL → (∀ {pc : Nat} {r : Int32} {w : va_W} {lv : List (Nat × Value)}, decode cc pc = .ok (.ireturn, 1) → (r = 0 ∨ r = 1) → post r w → J D X w mc ms pc lv [.int r]) → J D X w0 0 0 0 lv0 []) : MI l D y ws fr lo mc ms av w0 post := by
  intro sz
  refine Met.ofW (cc := cc) (maxL := nL) (ret := (some .boolean)) hy hw ?_
  intro p e s m args below meth c s₁ B hml hv
  obtain ⟨rfl, hsz, hP, ⟨hK, hN⟩, hD0⟩ := hv
  have hx := B.exec
  have hb := B.bytes
  have hr := B.returns
  have hts := atoms_spec (ws := ws) B.pre
  have hown : s.vm.findClass y.cls = some m.cls := findClass_of_methodNamed B.named
  have hlocks := B.notSynchronized
  have hin : meth.name = y.name := (name_of_methodNamed B.named B.method).1
  subst hsz
  have hD := hD0.self (sz := s.heap.size)
  have hS : va_S (va_A w0 s.heap.size) s.heap s.heap [] := va_S.rf
  have hl := lv_entry av (n := nL) hn
  rw [hlv] at hl
  rw [lg_entry_eq]
  refine body (p, l, e, kR fr lo mc ms, s, m, av.toArray, below, meth, c, _, va_A w0 s.heap.size, nL) rfl hin ⟨⟨hx, hb, hml, hown, hts⟩, ⟨hK, hN⟩, fun q h => Or.inr h, ⟨rfl, rfl, rfl, rfl⟩, rfl⟩ ?_ s.heap [] _ hP hD hS hl
  exact fun hd hz hq H locs ls hP hD hS hl => W.zret hx hb hr (by rcases hz with rfl | rfl <;> rfl) (fun t ht hW => ⟨⟨_, _, rfl, hq, by rw [ht]; exact hP, hD⟩, hS.F ht⟩) hS.2.2 hd hlocks
set_option maxHeartbeats 1000000 in
theorem ML.of {l : Launch} {D : KD} {y : MethodName} {ws ws' : List Cond} {fr lo mc ms : Nat} {av : List Value} {w0 : va_W} {cc : ByteArray} {nL : Nat} {lv0 : List (Nat × Value)} {post : Int64 → va_W → Prop} (hy : plainName y.cls = true) (hw : ws = Cond.code y cc nL (some .long) :: ws') (hn : (lg_sl av).length ≤ nL) (hlv : lv_args 0 av = lv0)
    (body : ∀ X : KX, xl X = l → (xM X).name = y.name → Cx D X cc y.cls ws fr lo mc ms nL → (∀ {pc : Nat} {r : Int64} {w : va_W} {lv : List (Nat × Value)}, decode cc pc = .ok (.lreturn, 1) → post r w → J D X w mc ms pc lv [.long r]) → J D X w0 0 0 0 lv0 []) : ML l D y ws fr lo mc ms av w0 post := by
  intro sz
  refine Met.ofW (cc := cc) (maxL := nL) (ret := (some .long)) hy hw ?_
  intro p e s m args below meth c s₁ B hml hv
  obtain ⟨rfl, hsz, hP, ⟨hK, hN⟩, hD0⟩ := hv
  have hx := B.exec
  have hb := B.bytes
  have hr := B.returns
  have hts := atoms_spec (ws := ws) B.pre
  have hown : s.vm.findClass y.cls = some m.cls := findClass_of_methodNamed B.named
  have hlocks := B.notSynchronized
  have hin : meth.name = y.name := (name_of_methodNamed B.named B.method).1
  subst hsz
  have hD := hD0.self (sz := s.heap.size)
  have hS : va_S (va_A w0 s.heap.size) s.heap s.heap [] := va_S.rf
  have hl := lv_entry av (n := nL) hn
  rw [hlv] at hl
  rw [lg_entry_eq]
  refine body (p, l, e, kR fr lo mc ms, s, m, av.toArray, below, meth, c, _, va_A w0 s.heap.size, nL) rfl hin ⟨⟨hx, hb, hml, hown, hts⟩, ⟨hK, hN⟩, fun q h => Or.inr h, ⟨rfl, rfl, rfl, rfl⟩, rfl⟩ ?_ s.heap [] _ hP hD hS hl
  exact fun hd hq H locs ls hP hD hS hl => W.lret hx hb hr (fun t ht hW => ⟨⟨_, _, rfl, hq, by rw [ht]; exact hP, hD⟩, hS.F ht⟩) hS.2.2 hd hlocks
set_option maxHeartbeats 1000000 in
theorem MV.of {l : Launch} {D : KD} {y : MethodName} {ws ws' : List Cond} {fr lo mc ms : Nat} {av : List Value} {w0 : va_W} {cc : ByteArray} {nL : Nat} {lv0 : List (Nat × Value)} {post : va_W → Prop} (hy : plainName y.cls = true) (hw : ws = Cond.code y cc nL none :: ws') (hn : (lg_sl av).length ≤ nL) (hlv : lv_args 0 av = lv0)
    (body : ∀ X : KX, xl X = l → (xM X).name = y.name → Cx D X cc y.cls ws fr lo mc ms nL → (∀ {pc : Nat} {w : va_W} {lv : List (Nat × Value)}, decode cc pc = .ok (.return_, 1) → post w → J D X w mc ms pc lv []) → J D X w0 0 0 0 lv0 []) : MV l D y ws fr lo mc ms av w0 post := by
  intro sz
  refine Met.ofW (cc := cc) (maxL := nL) (ret := none) hy hw ?_
  intro p e s m args below meth c s₁ B hml hv
  obtain ⟨rfl, hsz, hP, ⟨hK, hN⟩, hD0⟩ := hv
  have hx := B.exec
  have hb := B.bytes
  have hr := B.returns
  have hts := atoms_spec (ws := ws) B.pre
  have hown : s.vm.findClass y.cls = some m.cls := findClass_of_methodNamed B.named
  have hlocks := B.notSynchronized
  have hin : meth.name = y.name := (name_of_methodNamed B.named B.method).1
  subst hsz
  have hD := hD0.self (sz := s.heap.size)
  have hS : va_S (va_A w0 s.heap.size) s.heap s.heap [] := va_S.rf
  have hl := lv_entry av (n := nL) hn
  rw [hlv] at hl
  rw [lg_entry_eq]
  refine body (p, l, e, kR fr lo mc ms, s, m, av.toArray, below, meth, c, _, va_A w0 s.heap.size, nL) rfl hin ⟨⟨hx, hb, hml, hown, hts⟩, ⟨hK, hN⟩, fun q h => Or.inr h, ⟨rfl, rfl, rfl, rfl⟩, rfl⟩ ?_ s.heap [] _ hP hD hS hl
  exact fun hd hq H locs ls hP hD hS hl => W.vret hx hb hr (fun t ht hW => ⟨⟨_, rfl, hq, by rw [ht]; exact hP, hD⟩, hS.F ht⟩) hS.2.2 hd hlocks
set_option maxHeartbeats 1000000 in
theorem MO.of {l : Launch} {D : KD} {y : MethodName} {ws ws' : List Cond} {fr lo mc ms : Nat} {av : List Value} {w0 : va_W} {cc : ByteArray} {nL : Nat} {lv0 : List (Nat × Value)} {post : Option Nat → va_W → Prop} (hy : plainName y.cls = true) (hw : ws = Cond.code y cc nL (some (.object "KeelBlocks$Dock")) :: ws') (hn : (lg_sl av).length ≤ nL) (hlv : lv_args 0 av = lv0)
    (body : ∀ X : KX, xl X = l → (xM X).name = y.name → Cx D X cc y.cls ws fr lo mc ms nL → (∀ {pc : Nat} {r : Option Nat} {w : va_W} {lv : List (Nat × Value)}, decode cc pc = .ok (.areturn, 1) → post r w → J D X w mc ms pc lv [va_rf r]) → J D X w0 0 0 0 lv0 []) : MO l D y ws fr lo mc ms av w0 post := by
  intro sz
  refine Met.ofW (cc := cc) (maxL := nL) (ret := (some (.object "KeelBlocks$Dock"))) hy hw ?_
  intro p e s m args below meth c s₁ B hml hv
  obtain ⟨rfl, hsz, hP, ⟨hK, hN⟩, hD0⟩ := hv
  have hx := B.exec
  have hb := B.bytes
  have hr := B.returns
  have hts := atoms_spec (ws := ws) B.pre
  have hown : s.vm.findClass y.cls = some m.cls := findClass_of_methodNamed B.named
  have hlocks := B.notSynchronized
  have hin : meth.name = y.name := (name_of_methodNamed B.named B.method).1
  subst hsz
  have hD := hD0.self (sz := s.heap.size)
  have hS : va_S (va_A w0 s.heap.size) s.heap s.heap [] := va_S.rf
  have hl := lv_entry av (n := nL) hn
  rw [hlv] at hl
  rw [lg_entry_eq]
  refine body (p, l, e, kR fr lo mc ms, s, m, av.toArray, below, meth, c, _, va_A w0 s.heap.size, nL) rfl hin ⟨⟨hx, hb, hml, hown, hts⟩, ⟨hK, hN⟩, fun q h => Or.inr h, ⟨rfl, rfl, rfl, rfl⟩, rfl⟩ ?_ s.heap [] _ hP hD hS hl
  intro pc r w lv hd hq H locs ls hP hD hS hl
  exact W.aret hx hb hr (Or.inl ⟨_, rfl⟩) (by cases r <;> simp [va_rf]) (fun t ht hW => ⟨⟨_, _, rfl, hq, by rw [ht]; exact hP, hD⟩, hS.F ht⟩) hS.2.2 hd hlocks
/-- what is known of a method that is called: its words begin with its code, its name is plain, so many arguments -/
def MF (y : MethodName) (ws : List Cond) (cy : ByteArray) (maxY : Nat) (ret : Option FieldType) (n0 : Nat) : Prop := (∃ ws', ws = Cond.code y cy maxY ret :: ws') ∧ y.cls ≠ "java/lang/invoke/MethodHandle" ∧ y.cls ≠ "java/lang/invoke/VarHandle" ∧ (parseMethodDescriptor y.desc).map (fun d => d.parameters.length) = some n0
section JCALLS
variable {D : KD} {X : KX} {cc : ByteArray} {own : String} {Ts : List Cond} {fr lo mc ms nL : Nat} {w : va_W} {k n pc : Nat} {lv : List (Nat × Value)} {st rest : List Value}
variable {y : MethodName} {ws : List Cond} {fr' lo' mc' ms' : Nat} {As : List Value} {a n0 idx maxY : Nat} {wc : va_W} {cy : ByteArray} {ret : Option FieldType}
theorem j_cv_i (C : Cx D X cc own Ts fr lo mc ms nL) {post : Int32 → va_W → Prop} (hM : MI (xl X) D y ws fr' lo' mc' ms' (.ref a :: As) wc post) (hF : MF y ws cy maxY ret n0) (hG : GoodIn Ts (wsV own idx y.cls y ws)) (hlen : As.length = n0) (hfr : fr' + 1 ≤ fr) (hlo : 8 + (maxY + 11) + lo' ≤ lo) (hmc : k + mc' ≤ mc) (hms : n + ms' ≤ ms) (isC : List Nat) (hC : isC.map (fun i => w[i]?) = wc.map some) (hnd : va_nd isC = true) (q0 : Nat) {ci : Nat} {fs : List Value} {r0 : vw_C} (hq : wc[q0]? = some (a, .inr (ci, fs))) (hci : vwCl[ci]? = some r0) (hr0 : r0.1 = y.cls) (hst : st = As.reverse ++ .ref a :: rest) (hcat : (rest.map fun v => v.category).sum ≤ 8) (hd : decode cc pc = .ok (.invokevirtual idx, 3)) (kk : ∀ (r : Int32) (w1 : va_W), post r w1 → (w1.take wc.length).map Prod.fst = wc.map Prod.fst ∧ J D X (kPut w isC w1) (k + mc') (n + ms') (pc + 3) lv (.int r :: rest)) : J D X w k n pc lv st := by
  intro H locs ls hP hD hS hl
  obtain ⟨⟨ws', hws⟩, hp1, hp2, hp3⟩ := hF
  obtain ⟨hR1, hR2, hR3, hR4⟩ := C.hR
  obtain ⟨hPc, hDc⟩ := kCut hP hD isC hC hnd
  have hF := va_free (wc := wc) hD hS C.hA isC hC
  refine va_calli (va_runV (As := As) (rest := rest) C.1 (hM H.size) (cwV n0 C.hts hG hws rfl rfl ⟨rfl, hp1, hp2, hp3⟩ ⟨by rw [hR1]; exact hfr, by rw [hR2]; exact hlo⟩) ⟨kPre.blind, by rw [← hr0]; exact va_recv C.hK hPc hci hq, fun U hU hW => ⟨rfl, by rw [hU], by rw [hU]; exact hPc, ⟨va_K.moved hW.alike C.hK, C.hN.moved hW⟩, hDc⟩⟩ rfl hlen hl.1 hst (lv_room hcat) hd ⟨by rw [hR3]; exact hmc, by rw [hR4]; exact hms⟩) hS (fun q _ h => hF q h) hF (fun r w1 t H1 locs1 ht hvm hw hB hz1 hk1 hS => ?_)
  obtain ⟨hP1, hD1⟩ := hB
  rw [ht] at hP1
  obtain ⟨ha, kj⟩ := kk r w1 hw
  obtain ⟨hP, hD⟩ := kPut_ok hP hD isC hC ha hk1 hF hP1 hD1
  exact kj H1 locs1 ls hP hD hS hl
theorem j_cs_i (C : Cx D X cc own Ts fr lo mc ms nL) {post : Int32 → va_W → Prop} (hM : MI (xl X) D y ws fr' lo' mc' ms' As wc post) (hF : MF y ws cy maxY ret n0) (hG : GoodIn Ts (va_wsS own idx y ws)) (hlen : As.length = n0) (hfr : fr' + 1 ≤ fr) (hlo : 8 + (maxY + 11) + lo' ≤ lo) (hmc : k + mc' ≤ mc) (hms : n + ms' ≤ ms) (isC : List Nat) (hC : isC.map (fun i => w[i]?) = wc.map some) (hnd : va_nd isC = true) (hst : st = As.reverse ++ rest) (hcat : (rest.map fun v => v.category).sum ≤ 8) (hd : decode cc pc = .ok (.invokestatic idx, 3)) (kk : ∀ (r : Int32) (w1 : va_W), post r w1 → (w1.take wc.length).map Prod.fst = wc.map Prod.fst ∧ J D X (kPut w isC w1) (k + mc') (n + ms') (pc + 3) lv (.int r :: rest)) : J D X w k n pc lv st := by
  intro H locs ls hP hD hS hl
  obtain ⟨⟨ws', hws⟩, hp1, hp2, hp3⟩ := hF
  obtain ⟨hR1, hR2, hR3, hR4⟩ := C.hR
  obtain ⟨hPc, hDc⟩ := kCut hP hD isC hC hnd
  have hF := va_free (wc := wc) hD hS C.hA isC hC
  refine va_calli (va_runS (As := As) (rest := rest) C.1 (hM H.size) (va_cwS n0 C.hts hG hws rfl rfl ⟨hp1, hp2, hp3⟩ ⟨by rw [hR1]; exact hfr, by rw [hR2]; exact hlo⟩) ⟨kPre.blind, fun U hU hW => ⟨rfl, by rw [hU], by rw [hU]; exact hPc, ⟨va_K.moved hW.alike C.hK, C.hN.moved hW⟩, hDc⟩⟩ rfl hlen hl.1 hst (lv_room hcat) hd ⟨by rw [hR3]; exact hmc, by rw [hR4]; exact hms⟩) hS (fun q _ h => hF q h) hF (fun r w1 t H1 locs1 ht hvm hw hB hz1 hk1 hS => ?_)
  obtain ⟨hP1, hD1⟩ := hB
  rw [ht] at hP1
  obtain ⟨ha, kj⟩ := kk r w1 hw
  obtain ⟨hP, hD⟩ := kPut_ok hP hD isC hC ha hk1 hF hP1 hD1
  exact kj H1 locs1 ls hP hD hS hl
theorem j_csN_i (C : Cx D X cc own Ts fr lo mc ms nL) {post : Int32 → va_W → Prop} {host : String} (hM : MI (xl X) D y ws fr' lo' mc' ms' As wc post) (hF : MF y ws cy maxY ret n0) (hG : GoodIn Ts ws) (hlen : As.length = n0) (hnest : va_Nw (.methodLinkNest own idx y host) (xs X)) (hstat : Cond.static y ∈ Ts) (hini : Cond.initialized y.cls ∈ Ts) (hfr : fr' + 1 ≤ fr) (hlo : 8 + (maxY + 11) + lo' ≤ lo) (hmc : k + mc' ≤ mc) (hms : n + ms' ≤ ms) (isC : List Nat) (hC : isC.map (fun i => w[i]?) = wc.map some) (hnd : va_nd isC = true) (hst : st = As.reverse ++ rest) (hcat : (rest.map fun v => v.category).sum ≤ 8) (hd : decode cc pc = .ok (.invokestatic idx, 3)) (kk : ∀ (r : Int32) (w1 : va_W), post r w1 → (w1.take wc.length).map Prod.fst = wc.map Prod.fst ∧ J D X (kPut w isC w1) (k + mc') (n + ms') (pc + 3) lv (.int r :: rest)) : J D X w k n pc lv st := by
  intro H locs ls hP hD hS hl
  obtain ⟨⟨ws', hws⟩, hp1, hp2, hp3⟩ := hF
  obtain ⟨hR1, hR2, hR3, hR4⟩ := C.hR
  obtain ⟨hPc, hDc⟩ := kCut hP hD isC hC hnd
  have hF := va_free (wc := wc) hD hS C.hA isC hC
  refine va_calli (va_runSN (As := As) (rest := rest) C.1 (hM H.size) ⟨va_cnB n0 C.hts hG hws rfl rfl hnest (C.hts _ hini) ⟨hp1, hp2, hp3⟩ ⟨by rw [hR1]; exact hfr, by rw [hR2]; exact hlo⟩, C.hts _ hstat, trivial⟩ ⟨kPre.blind, fun U hU hW => ⟨rfl, by rw [hU], by rw [hU]; exact hPc, ⟨va_K.moved hW.alike C.hK, C.hN.moved hW⟩, hDc⟩⟩ rfl hlen hl.1 hst (lv_room hcat) hd ⟨by rw [hR3]; exact hmc, by rw [hR4]; exact hms⟩) hS (fun q _ h => hF q h) hF (fun r w1 t H1 locs1 ht hvm hw hB hz1 hk1 hS => ?_)
  obtain ⟨hP1, hD1⟩ := hB
  rw [ht] at hP1
  obtain ⟨ha, kj⟩ := kk r w1 hw
  obtain ⟨hP, hD⟩ := kPut_ok hP hD isC hC ha hk1 hF hP1 hD1
  exact kj H1 locs1 ls hP hD hS hl
theorem j_cv_l (C : Cx D X cc own Ts fr lo mc ms nL) {post : Int64 → va_W → Prop} (hM : ML (xl X) D y ws fr' lo' mc' ms' (.ref a :: As) wc post) (hF : MF y ws cy maxY ret n0) (hG : GoodIn Ts (wsV own idx y.cls y ws)) (hlen : As.length = n0) (hfr : fr' + 1 ≤ fr) (hlo : 8 + (maxY + 11) + lo' ≤ lo) (hmc : k + mc' ≤ mc) (hms : n + ms' ≤ ms) (isC : List Nat) (hC : isC.map (fun i => w[i]?) = wc.map some) (hnd : va_nd isC = true) (q0 : Nat) {ci : Nat} {fs : List Value} {r0 : vw_C} (hq : wc[q0]? = some (a, .inr (ci, fs))) (hci : vwCl[ci]? = some r0) (hr0 : r0.1 = y.cls) (hst : st = As.reverse ++ .ref a :: rest) (hcat : (rest.map fun v => v.category).sum ≤ 8) (hd : decode cc pc = .ok (.invokevirtual idx, 3)) (kk : ∀ (r : Int64) (w1 : va_W), post r w1 → (w1.take wc.length).map Prod.fst = wc.map Prod.fst ∧ J D X (kPut w isC w1) (k + mc') (n + ms') (pc + 3) lv (.long r :: rest)) : J D X w k n pc lv st := by
  intro H locs ls hP hD hS hl
  obtain ⟨⟨ws', hws⟩, hp1, hp2, hp3⟩ := hF
  obtain ⟨hR1, hR2, hR3, hR4⟩ := C.hR
  obtain ⟨hPc, hDc⟩ := kCut hP hD isC hC hnd
  have hF := va_free (wc := wc) hD hS C.hA isC hC
  refine va_calll (va_runV (As := As) (rest := rest) C.1 (hM H.size) (cwV n0 C.hts hG hws rfl rfl ⟨rfl, hp1, hp2, hp3⟩ ⟨by rw [hR1]; exact hfr, by rw [hR2]; exact hlo⟩) ⟨kPre.blind, by rw [← hr0]; exact va_recv C.hK hPc hci hq, fun U hU hW => ⟨rfl, by rw [hU], by rw [hU]; exact hPc, ⟨va_K.moved hW.alike C.hK, C.hN.moved hW⟩, hDc⟩⟩ rfl hlen hl.1 hst (lv_room hcat) hd ⟨by rw [hR3]; exact hmc, by rw [hR4]; exact hms⟩) hS (fun q _ h => hF q h) hF (fun r w1 t H1 locs1 ht hvm hw hB hz1 hk1 hS => ?_)
  obtain ⟨hP1, hD1⟩ := hB
  rw [ht] at hP1
  obtain ⟨ha, kj⟩ := kk r w1 hw
  obtain ⟨hP, hD⟩ := kPut_ok hP hD isC hC ha hk1 hF hP1 hD1
  exact kj H1 locs1 ls hP hD hS hl
theorem j_cs_l (C : Cx D X cc own Ts fr lo mc ms nL) {post : Int64 → va_W → Prop} (hM : ML (xl X) D y ws fr' lo' mc' ms' As wc post) (hF : MF y ws cy maxY ret n0) (hG : GoodIn Ts (va_wsS own idx y ws)) (hlen : As.length = n0) (hfr : fr' + 1 ≤ fr) (hlo : 8 + (maxY + 11) + lo' ≤ lo) (hmc : k + mc' ≤ mc) (hms : n + ms' ≤ ms) (isC : List Nat) (hC : isC.map (fun i => w[i]?) = wc.map some) (hnd : va_nd isC = true) (hst : st = As.reverse ++ rest) (hcat : (rest.map fun v => v.category).sum ≤ 8) (hd : decode cc pc = .ok (.invokestatic idx, 3)) (kk : ∀ (r : Int64) (w1 : va_W), post r w1 → (w1.take wc.length).map Prod.fst = wc.map Prod.fst ∧ J D X (kPut w isC w1) (k + mc') (n + ms') (pc + 3) lv (.long r :: rest)) : J D X w k n pc lv st := by
  intro H locs ls hP hD hS hl
  obtain ⟨⟨ws', hws⟩, hp1, hp2, hp3⟩ := hF
  obtain ⟨hR1, hR2, hR3, hR4⟩ := C.hR
  obtain ⟨hPc, hDc⟩ := kCut hP hD isC hC hnd
  have hF := va_free (wc := wc) hD hS C.hA isC hC
  refine va_calll (va_runS (As := As) (rest := rest) C.1 (hM H.size) (va_cwS n0 C.hts hG hws rfl rfl ⟨hp1, hp2, hp3⟩ ⟨by rw [hR1]; exact hfr, by rw [hR2]; exact hlo⟩) ⟨kPre.blind, fun U hU hW => ⟨rfl, by rw [hU], by rw [hU]; exact hPc, ⟨va_K.moved hW.alike C.hK, C.hN.moved hW⟩, hDc⟩⟩ rfl hlen hl.1 hst (lv_room hcat) hd ⟨by rw [hR3]; exact hmc, by rw [hR4]; exact hms⟩) hS (fun q _ h => hF q h) hF (fun r w1 t H1 locs1 ht hvm hw hB hz1 hk1 hS => ?_)
  obtain ⟨hP1, hD1⟩ := hB
  rw [ht] at hP1
  obtain ⟨ha, kj⟩ := kk r w1 hw
  obtain ⟨hP, hD⟩ := kPut_ok hP hD isC hC ha hk1 hF hP1 hD1
  exact kj H1 locs1 ls hP hD hS hl
theorem j_cv_v (C : Cx D X cc own Ts fr lo mc ms nL) {post : va_W → Prop} (hM : MV (xl X) D y ws fr' lo' mc' ms' (.ref a :: As) wc post) (hF : MF y ws cy maxY ret n0) (hG : GoodIn Ts (wsV own idx y.cls y ws)) (hlen : As.length = n0) (hfr : fr' + 1 ≤ fr) (hlo : 8 + (maxY + 11) + lo' ≤ lo) (hmc : k + mc' ≤ mc) (hms : n + ms' ≤ ms) (isC : List Nat) (hC : isC.map (fun i => w[i]?) = wc.map some) (hnd : va_nd isC = true) (q0 : Nat) {ci : Nat} {fs : List Value} {r0 : vw_C} (hq : wc[q0]? = some (a, .inr (ci, fs))) (hci : vwCl[ci]? = some r0) (hr0 : r0.1 = y.cls) (hst : st = As.reverse ++ .ref a :: rest) (hcat : (rest.map fun v => v.category).sum ≤ 8) (hd : decode cc pc = .ok (.invokevirtual idx, 3)) (kk : ∀ (w1 : va_W), post w1 → (w1.take wc.length).map Prod.fst = wc.map Prod.fst ∧ J D X (kPut w isC w1) (k + mc') (n + ms') (pc + 3) lv rest) : J D X w k n pc lv st := by
  intro H locs ls hP hD hS hl
  obtain ⟨⟨ws', hws⟩, hp1, hp2, hp3⟩ := hF
  obtain ⟨hR1, hR2, hR3, hR4⟩ := C.hR
  obtain ⟨hPc, hDc⟩ := kCut hP hD isC hC hnd
  have hF := va_free (wc := wc) hD hS C.hA isC hC
  refine va_callv (va_runV (As := As) (rest := rest) C.1 (hM H.size) (cwV n0 C.hts hG hws rfl rfl ⟨rfl, hp1, hp2, hp3⟩ ⟨by rw [hR1]; exact hfr, by rw [hR2]; exact hlo⟩) ⟨kPre.blind, by rw [← hr0]; exact va_recv C.hK hPc hci hq, fun U hU hW => ⟨rfl, by rw [hU], by rw [hU]; exact hPc, ⟨va_K.moved hW.alike C.hK, C.hN.moved hW⟩, hDc⟩⟩ rfl hlen hl.1 hst (lv_room hcat) hd ⟨by rw [hR3]; exact hmc, by rw [hR4]; exact hms⟩) hS (fun q _ h => hF q h) hF (fun w1 t H1 locs1 ht hvm hw hB hz1 hk1 hS => ?_)
  obtain ⟨hP1, hD1⟩ := hB
  rw [ht] at hP1
  obtain ⟨ha, kj⟩ := kk w1 hw
  obtain ⟨hP, hD⟩ := kPut_ok hP hD isC hC ha hk1 hF hP1 hD1
  exact kj H1 locs1 ls hP hD hS hl
theorem j_cs_v (C : Cx D X cc own Ts fr lo mc ms nL) {post : va_W → Prop} (hM : MV (xl X) D y ws fr' lo' mc' ms' As wc post) (hF : MF y ws cy maxY ret n0) (hG : GoodIn Ts (va_wsS own idx y ws)) (hlen : As.length = n0) (hfr : fr' + 1 ≤ fr) (hlo : 8 + (maxY + 11) + lo' ≤ lo) (hmc : k + mc' ≤ mc) (hms : n + ms' ≤ ms) (isC : List Nat) (hC : isC.map (fun i => w[i]?) = wc.map some) (hnd : va_nd isC = true) (hst : st = As.reverse ++ rest) (hcat : (rest.map fun v => v.category).sum ≤ 8) (hd : decode cc pc = .ok (.invokestatic idx, 3)) (kk : ∀ (w1 : va_W), post w1 → (w1.take wc.length).map Prod.fst = wc.map Prod.fst ∧ J D X (kPut w isC w1) (k + mc') (n + ms') (pc + 3) lv rest) : J D X w k n pc lv st := by
  intro H locs ls hP hD hS hl
  obtain ⟨⟨ws', hws⟩, hp1, hp2, hp3⟩ := hF
  obtain ⟨hR1, hR2, hR3, hR4⟩ := C.hR
  obtain ⟨hPc, hDc⟩ := kCut hP hD isC hC hnd
  have hF := va_free (wc := wc) hD hS C.hA isC hC
  refine va_callv (va_runS (As := As) (rest := rest) C.1 (hM H.size) (va_cwS n0 C.hts hG hws rfl rfl ⟨hp1, hp2, hp3⟩ ⟨by rw [hR1]; exact hfr, by rw [hR2]; exact hlo⟩) ⟨kPre.blind, fun U hU hW => ⟨rfl, by rw [hU], by rw [hU]; exact hPc, ⟨va_K.moved hW.alike C.hK, C.hN.moved hW⟩, hDc⟩⟩ rfl hlen hl.1 hst (lv_room hcat) hd ⟨by rw [hR3]; exact hmc, by rw [hR4]; exact hms⟩) hS (fun q _ h => hF q h) hF (fun w1 t H1 locs1 ht hvm hw hB hz1 hk1 hS => ?_)
  obtain ⟨hP1, hD1⟩ := hB
  rw [ht] at hP1
  obtain ⟨ha, kj⟩ := kk w1 hw
  obtain ⟨hP, hD⟩ := kPut_ok hP hD isC hC ha hk1 hF hP1 hD1
  exact kj H1 locs1 ls hP hD hS hl
theorem j_ci_v (C : Cx D X cc own Ts fr lo mc ms nL) {post : va_W → Prop} (hM : MV (xl X) D y ws fr' lo' mc' ms' (.ref a :: As) wc post) (hF : MF y ws cy maxY none n0) (hG : GoodIn Ts ws) (hlen : As.length = n0) (hy1 : y.name = "<init>") (hlink : Cond.methodLink own idx y ∈ Ts) (hinst : Cond.instanceMethod y ∈ Ts) (hini : Cond.initialized y.cls ∈ Ts) (hfr : fr' + 1 ≤ fr) (hlo : 8 + (maxY + 11) + lo' ≤ lo) (hmc : k + mc' ≤ mc) (hms : n + ms' ≤ ms) (isC : List Nat) (hC : isC.map (fun i => w[i]?) = wc.map some) (hnd : va_nd isC = true) (hst : st = As.reverse ++ .ref a :: rest) (hcat : (rest.map fun v => v.category).sum ≤ 8) (hd : decode cc pc = .ok (.invokespecial idx, 3)) (kk : ∀ (w1 : va_W), post w1 → (w1.take wc.length).map Prod.fst = wc.map Prod.fst ∧ J D X (kPut w isC w1) (k + mc') (n + ms') (pc + 3) lv rest) : J D X w k n pc lv st := by
  intro H locs ls hP hD hS hl
  obtain ⟨⟨ws', hws⟩, hp1, hp2, hp3⟩ := hF
  obtain ⟨hR1, hR2, hR3, hR4⟩ := C.hR
  obtain ⟨hPc, hDc⟩ := kCut hP hD isC hC hnd
  have hF := va_free (wc := wc) hD hS C.hA isC hC
  refine va_callv (va_runI (As := As) (rest := rest) C.1 (hM H.size) (cwI n0 C.hts hG hws rfl rfl (C.hts _ hini) (C.hts _ hlink) (C.hts _ hinst) hy1 ⟨hp1, hp2, hp3⟩ ⟨by rw [hR1]; exact hfr, by rw [hR2]; exact hlo⟩) ⟨kPre.blind, fun U hU hW => ⟨rfl, by rw [hU], by rw [hU]; exact hPc, ⟨va_K.moved hW.alike C.hK, C.hN.moved hW⟩, hDc⟩⟩ rfl hlen hl.1 hst (lv_room hcat) hd ⟨by rw [hR3]; exact hmc, by rw [hR4]; exact hms⟩) hS (fun q _ h => hF q h) hF (fun w1 t H1 locs1 ht hvm hw hB hz1 hk1 hS => ?_)
  obtain ⟨hP1, hD1⟩ := hB
  rw [ht] at hP1
  obtain ⟨ha, kj⟩ := kk w1 hw
  obtain ⟨hP, hD⟩ := kPut_ok hP hD isC hC ha hk1 hF hP1 hD1
  exact kj H1 locs1 ls hP hD hS hl
theorem j_ciN_v (C : Cx D X cc own Ts fr lo mc ms nL) {post : va_W → Prop} {host : String} (hM : MV (xl X) D y ws fr' lo' mc' ms' (.ref a :: As) wc post) (hF : MF y ws cy maxY none n0) (hG : GoodIn Ts ws) (hlen : As.length = n0) (hy1 : y.name = "<init>") (hnest : va_Nw (.methodLinkNest own idx y host) (xs X)) (hinst : Cond.instanceMethod y ∈ Ts) (hini : Cond.initialized y.cls ∈ Ts) (hfr : fr' + 1 ≤ fr) (hlo : 8 + (maxY + 11) + lo' ≤ lo) (hmc : k + mc' ≤ mc) (hms : n + ms' ≤ ms) (isC : List Nat) (hC : isC.map (fun i => w[i]?) = wc.map some) (hnd : va_nd isC = true) (hst : st = As.reverse ++ .ref a :: rest) (hcat : (rest.map fun v => v.category).sum ≤ 8) (hd : decode cc pc = .ok (.invokespecial idx, 3)) (kk : ∀ (w1 : va_W), post w1 → (w1.take wc.length).map Prod.fst = wc.map Prod.fst ∧ J D X (kPut w isC w1) (k + mc') (n + ms') (pc + 3) lv rest) : J D X w k n pc lv st := by
  intro H locs ls hP hD hS hl
  obtain ⟨⟨ws', hws⟩, hp1, hp2, hp3⟩ := hF
  obtain ⟨hR1, hR2, hR3, hR4⟩ := C.hR
  obtain ⟨hPc, hDc⟩ := kCut hP hD isC hC hnd
  have hF := va_free (wc := wc) hD hS C.hA isC hC
  refine va_callv (va_runIN (As := As) (rest := rest) C.1 (hM H.size) ⟨va_cnB n0 C.hts hG hws rfl rfl hnest (C.hts _ hini) ⟨hp1, hp2, hp3⟩ ⟨by rw [hR1]; exact hfr, by rw [hR2]; exact hlo⟩, hy1, C.hts _ hinst⟩ ⟨kPre.blind, fun U hU hW => ⟨rfl, by rw [hU], by rw [hU]; exact hPc, ⟨va_K.moved hW.alike C.hK, C.hN.moved hW⟩, hDc⟩⟩ rfl hlen hl.1 hst (lv_room hcat) hd ⟨by rw [hR3]; exact hmc, by rw [hR4]; exact hms⟩) hS (fun q _ h => hF q h) hF (fun w1 t H1 locs1 ht hvm hw hB hz1 hk1 hS => ?_)
  obtain ⟨hP1, hD1⟩ := hB
  rw [ht] at hP1
  obtain ⟨ha, kj⟩ := kk w1 hw
  obtain ⟨hP, hD⟩ := kPut_ok hP hD isC hC ha hk1 hF hP1 hD1
  exact kj H1 locs1 ls hP hD hS hl
theorem j_cv_o (C : Cx D X cc own Ts fr lo mc ms nL) {post : Option Nat → va_W → Prop} (hM : MO (xl X) D y ws fr' lo' mc' ms' (.ref a :: As) wc post) (hF : MF y ws cy maxY ret n0) (hG : GoodIn Ts (wsV own idx y.cls y ws)) (hlen : As.length = n0) (hfr : fr' + 1 ≤ fr) (hlo : 8 + (maxY + 11) + lo' ≤ lo) (hmc : k + mc' ≤ mc) (hms : n + ms' ≤ ms) (isC : List Nat) (hC : isC.map (fun i => w[i]?) = wc.map some) (hnd : va_nd isC = true) (q0 : Nat) {ci : Nat} {fs : List Value} {r0 : vw_C} (hq : wc[q0]? = some (a, .inr (ci, fs))) (hci : vwCl[ci]? = some r0) (hr0 : r0.1 = y.cls) (hst : st = As.reverse ++ .ref a :: rest) (hcat : (rest.map fun v => v.category).sum ≤ 8) (hd : decode cc pc = .ok (.invokevirtual idx, 3)) (kk : ∀ (r : Option Nat) (w1 : va_W), post r w1 → (w1.take wc.length).map Prod.fst = wc.map Prod.fst ∧ J D X (kPut w isC w1) (k + mc') (n + ms') (pc + 3) lv (va_rf r :: rest)) : J D X w k n pc lv st := by
  intro H locs ls hP hD hS hl
  obtain ⟨⟨ws', hws⟩, hp1, hp2, hp3⟩ := hF
  obtain ⟨hR1, hR2, hR3, hR4⟩ := C.hR
  obtain ⟨hPc, hDc⟩ := kCut hP hD isC hC hnd
  have hF := va_free (wc := wc) hD hS C.hA isC hC
  refine va_callq (va_runV (As := As) (rest := rest) C.1 (hM H.size) (cwV n0 C.hts hG hws rfl rfl ⟨rfl, hp1, hp2, hp3⟩ ⟨by rw [hR1]; exact hfr, by rw [hR2]; exact hlo⟩) ⟨kPre.blind, by rw [← hr0]; exact va_recv C.hK hPc hci hq, fun U hU hW => ⟨rfl, by rw [hU], by rw [hU]; exact hPc, ⟨va_K.moved hW.alike C.hK, C.hN.moved hW⟩, hDc⟩⟩ rfl hlen hl.1 hst (lv_room hcat) hd ⟨by rw [hR3]; exact hmc, by rw [hR4]; exact hms⟩) hS (fun q _ h => hF q h) hF (fun r w1 t H1 locs1 ht hvm hw hB hz1 hk1 hS => ?_)
  obtain ⟨hP1, hD1⟩ := hB
  rw [ht] at hP1
  obtain ⟨ha, kj⟩ := kk r w1 hw
  obtain ⟨hP, hD⟩ := kPut_ok hP hD isC hC ha hk1 hF hP1 hD1
  exact kj H1 locs1 ls hP hD hS hl
theorem j_cs_o (C : Cx D X cc own Ts fr lo mc ms nL) {post : Option Nat → va_W → Prop} (hM : MO (xl X) D y ws fr' lo' mc' ms' As wc post) (hF : MF y ws cy maxY ret n0) (hG : GoodIn Ts (va_wsS own idx y ws)) (hlen : As.length = n0) (hfr : fr' + 1 ≤ fr) (hlo : 8 + (maxY + 11) + lo' ≤ lo) (hmc : k + mc' ≤ mc) (hms : n + ms' ≤ ms) (isC : List Nat) (hC : isC.map (fun i => w[i]?) = wc.map some) (hnd : va_nd isC = true) (hst : st = As.reverse ++ rest) (hcat : (rest.map fun v => v.category).sum ≤ 8) (hd : decode cc pc = .ok (.invokestatic idx, 3)) (kk : ∀ (r : Option Nat) (w1 : va_W), post r w1 → (w1.take wc.length).map Prod.fst = wc.map Prod.fst ∧ J D X (kPut w isC w1) (k + mc') (n + ms') (pc + 3) lv (va_rf r :: rest)) : J D X w k n pc lv st := by
  intro H locs ls hP hD hS hl
  obtain ⟨⟨ws', hws⟩, hp1, hp2, hp3⟩ := hF
  obtain ⟨hR1, hR2, hR3, hR4⟩ := C.hR
  obtain ⟨hPc, hDc⟩ := kCut hP hD isC hC hnd
  have hF := va_free (wc := wc) hD hS C.hA isC hC
  refine va_callq (va_runS (As := As) (rest := rest) C.1 (hM H.size) (va_cwS n0 C.hts hG hws rfl rfl ⟨hp1, hp2, hp3⟩ ⟨by rw [hR1]; exact hfr, by rw [hR2]; exact hlo⟩) ⟨kPre.blind, fun U hU hW => ⟨rfl, by rw [hU], by rw [hU]; exact hPc, ⟨va_K.moved hW.alike C.hK, C.hN.moved hW⟩, hDc⟩⟩ rfl hlen hl.1 hst (lv_room hcat) hd ⟨by rw [hR3]; exact hmc, by rw [hR4]; exact hms⟩) hS (fun q _ h => hF q h) hF (fun r w1 t H1 locs1 ht hvm hw hB hz1 hk1 hS => ?_)
  obtain ⟨hP1, hD1⟩ := hB
  rw [ht] at hP1
  obtain ⟨ha, kj⟩ := kk r w1 hw
  obtain ⟨hP, hD⟩ := kPut_ok hP hD isC hC ha hk1 hF hP1 hD1
  exact kj H1 locs1 ls hP hD hS hl
end JCALLS

