def bI (b : Bool) : Int32 := if b = true then 1 else 0
theorem bI_01 (b : Bool) : bI b = 0 ∨ bI b = 1 := by cases b <;> simp [bI]
theorem bI_eq0 (b : Bool) : bI b = 0 ↔ b = false := by cases b <;> simp [bI]
theorem bI_ne0 (b : Bool) : ¬ bI b = 0 ↔ b = true := by cases b <;> simp [bI]
section JROWS2
variable {D : KD} {X : KX} {cc : ByteArray} {own : String} {Ts : List Cond} {fr lo mc ms nL : Nat} {w : va_W} {k n pc : Nat} {lv : List (Nat × Value)} {st : List Value}
theorem j_bif_eq (C : Cx D X cc own Ts fr lo mc ms nL) {b : Bool} {off : Int} {tgt : Nat} (hd : decode cc pc = .ok (.ifCond .eq off, 3)) (ht : (pc : Int) + off = (tgt : Int)) (kt : b = false → J D X w k n tgt lv st) (kf : b = true → J D X w k n (pc + 3) lv st) : J D X w k n pc lv (.int (bI b) :: st) := j_if_eq C hd ht (fun h => kt ((bI_eq0 b).mp h)) (fun h => kf ((bI_ne0 b).mp h))
theorem j_bif_ne (C : Cx D X cc own Ts fr lo mc ms nL) {b : Bool} {off : Int} {tgt : Nat} (hd : decode cc pc = .ok (.ifCond .ne off, 3)) (ht : (pc : Int) + off = (tgt : Int)) (kt : b = true → J D X w k n tgt lv st) (kf : b = false → J D X w k n (pc + 3) lv st) : J D X w k n pc lv (.int (bI b) :: st) := j_if_ne C hd ht (fun h => kt ((bI_ne0 b).mp h)) (fun h => kf ((bI_eq0 b).mp h))
theorem j_lif_eq (C : Cx D X cc own Ts fr lo mc ms nL) {x y : Int64} {off : Int} {tgt : Nat} (hd : decode cc pc = .ok (.ifCond .eq off, 3)) (ht : (pc : Int) + off = (tgt : Int)) (kt : x = y → J D X w k n tgt lv st) (kf : ¬ x = y → J D X w k n (pc + 3) lv st) : J D X w k n pc lv (.int (lg_cmp x y) :: st) := j_if_eq C hd ht (fun h => kt ((lg_cmp_eq x y).mp h)) (fun h => kf (mt (lg_cmp_eq x y).mpr h))
theorem j_lif_ne (C : Cx D X cc own Ts fr lo mc ms nL) {x y : Int64} {off : Int} {tgt : Nat} (hd : decode cc pc = .ok (.ifCond .ne off, 3)) (ht : (pc : Int) + off = (tgt : Int)) (kt : ¬ x = y → J D X w k n tgt lv st) (kf : x = y → J D X w k n (pc + 3) lv st) : J D X w k n pc lv (.int (lg_cmp x y) :: st) := j_if_ne C hd ht (fun h => kt (mt (lg_cmp_eq x y).mpr h)) (fun h => kf ((lg_cmp_eq x y).mp h))
theorem j_lif_lt (C : Cx D X cc own Ts fr lo mc ms nL) {x y : Int64} {off : Int} {tgt : Nat} (hd : decode cc pc = .ok (.ifCond .lt off, 3)) (ht : (pc : Int) + off = (tgt : Int)) (kt : x < y → J D X w k n tgt lv st) (kf : ¬ x < y → J D X w k n (pc + 3) lv st) : J D X w k n pc lv (.int (lg_cmp x y) :: st) := j_if_lt C hd ht (fun h => kt ((lg_cmp_lt x y).mp h)) (fun h => kf (mt (lg_cmp_lt x y).mpr h))
theorem j_lif_ge (C : Cx D X cc own Ts fr lo mc ms nL) {x y : Int64} {off : Int} {tgt : Nat} (hd : decode cc pc = .ok (.ifCond .ge off, 3)) (ht : (pc : Int) + off = (tgt : Int)) (kt : y ≤ x → J D X w k n tgt lv st) (kf : ¬ y ≤ x → J D X w k n (pc + 3) lv st) : J D X w k n pc lv (.int (lg_cmp x y) :: st) := j_if_ge C hd ht (fun h => kt ((lg_cmp_ge x y).mp h)) (fun h => kf (mt (lg_cmp_ge x y).mpr h))
theorem j_lif_gt (C : Cx D X cc own Ts fr lo mc ms nL) {x y : Int64} {off : Int} {tgt : Nat} (hd : decode cc pc = .ok (.ifCond .gt off, 3)) (ht : (pc : Int) + off = (tgt : Int)) (kt : y < x → J D X w k n tgt lv st) (kf : ¬ y < x → J D X w k n (pc + 3) lv st) : J D X w k n pc lv (.int (lg_cmp x y) :: st) := j_if_gt C hd ht (fun h => kt ((lg_cmp_gt x y).mp h)) (fun h => kf (mt (lg_cmp_gt x y).mpr h))
theorem j_lif_le (C : Cx D X cc own Ts fr lo mc ms nL) {x y : Int64} {off : Int} {tgt : Nat} (hd : decode cc pc = .ok (.ifCond .le off, 3)) (ht : (pc : Int) + off = (tgt : Int)) (kt : x ≤ y → J D X w k n tgt lv st) (kf : ¬ x ≤ y → J D X w k n (pc + 3) lv st) : J D X w k n pc lv (.int (lg_cmp x y) :: st) := j_if_le C hd ht (fun h => kt ((lg_cmp_le x y).mp h)) (fun h => kf (mt (lg_cmp_le x y).mpr h))
theorem j_obj (C : Cx D X cc own Ts fr lo mc ms nL) {idx a : Nat} (hl1 : Cond.methodLink own idx Lib.objectInit ∈ Ts) (hl2 : Cond.instanceMethod Lib.objectInit ∈ Ts) (hl3 : Cond.code Lib.objectInit ⟨#[0xb1]⟩ 1 none ∈ Ts) (hfr : 1 ≤ fr) (hlo : (st.map fun v => v.category).sum + 12 ≤ lo) (hd : decode cc pc = .ok (.invokespecial idx, 3)) (kk : J D X w k n (pc + 3) lv st) : J D X w k n pc lv (.ref a :: st) := by
  obtain ⟨hR1, hR2, hR3, hR4⟩ := C.hR
  exact fun H locs ls hP hD hS hl => W.objInit C.hx C.hb C.hown (C.hts _ hl1) (C.hts _ hl2) (C.hts _ hl3) rfl (by rw [C.hml]; exact hl.1) rfl hd (by rw [hR1]; exact hfr) (by rw [hR2]; show 2 * 0 + _ + 12 ≤ lo; omega) (kk H locs ls hP hD hS hl)
theorem j_max (C : Cx D X cc own Ts fr lo mc ms nL) {idx : Nat} {x y : Int32} (hl1 : Cond.methodLink own idx Lib.Math.max.name ∈ Ts) (hl2 : Cond.static Lib.Math.max.name ∈ Ts) (hl3 : Cond.initialized "java/lang/Math" ∈ Ts) (hl4 : Cond.code Lib.Math.max.name Lib.Math.max.code 2 (some .int) ∈ Ts) (hfr : 1 ≤ fr) (hlo : (st.map fun v => v.category).sum + 13 ≤ lo) (hk : k ≤ mc) (hn : n ≤ ms) (hd : decode cc pc = .ok (.invokestatic idx, 3)) (kk : J D X w k n (pc + 3) lv (.int (if x < y then y else x) :: st)) : J D X w k n pc lv (.int y :: .int x :: st) := by
  obtain ⟨hR1, hR2, hR3, hR4⟩ := C.hR
  exact fun H locs ls hP hD hS hl => va_mmax C.hx C.hb (by rw [C.hml]; exact hl.1.symm) C.hown (C.hts _ hl1) (C.hts _ hl2) (C.hts _ hl3) (C.hts _ hl4) (by rw [hR1]; exact hfr) (by rw [hR2]; exact hlo) (by rw [hR3]; exact hk) (by rw [hR4]; exact hn) hd (kk H locs ls hP hD hS hl)
theorem j_min (C : Cx D X cc own Ts fr lo mc ms nL) {idx : Nat} {x y : Int32} (hl1 : Cond.methodLink own idx Lib.Math.min.name ∈ Ts) (hl2 : Cond.static Lib.Math.min.name ∈ Ts) (hl3 : Cond.initialized "java/lang/Math" ∈ Ts) (hl4 : Cond.code Lib.Math.min.name Lib.Math.min.code 2 (some .int) ∈ Ts) (hfr : 1 ≤ fr) (hlo : (st.map fun v => v.category).sum + 13 ≤ lo) (hk : k ≤ mc) (hn : n ≤ ms) (hd : decode cc pc = .ok (.invokestatic idx, 3)) (kk : J D X w k n (pc + 3) lv (.int (if y < x then y else x) :: st)) : J D X w k n pc lv (.int y :: .int x :: st) := by
  obtain ⟨hR1, hR2, hR3, hR4⟩ := C.hR
  exact fun H locs ls hP hD hS hl => va_mmin C.hx C.hb (by rw [C.hml]; exact hl.1.symm) C.hown (C.hts _ hl1) (C.hts _ hl2) (C.hts _ hl3) (C.hts _ hl4) (by rw [hR1]; exact hfr) (by rw [hR2]; exact hlo) (by rw [hR3]; exact hk) (by rw [hR4]; exact hn) hd (kk H locs ls hP hD hS hl)
theorem kT_of {cA : ClassId} {ty : FieldType} {i : Nat} {cI : ClassId} {s : State} {G : va_G} (hK : va_K G vwCl (kT D) s) (h : va_K G vwCl (kT D ++ [(cA, ty)]) s) (hi : (kT D)[i]? = some (cI, ty)) : cA = cI := by
  have h1 := (h.2 4 (cA, ty) rfl).2
  have h2 := (hK.2 i _ hi).2
  cases ty with
  | object C =>
    obtain ⟨_, _, -, -, -, e1⟩ := h1
    obtain ⟨_, _, -, -, -, e2⟩ := h2
    exact Option.some.inj (e1.symm.trans e2)
  | _ => exact Option.some.inj ((show s.vm.findClass _ = some cA from h1).symm.trans h2)
theorem j_newi (C : Cx D X cc own Ts fr lo mc ms nL) {N : Nat} {x : Int32} (ha : Cond.arrayClass .int ∈ Ts) (hx : x = nI N) (hN : N < 2 ^ 27) (hk : k + 1 ≤ mc) (hn : n + N ≤ ms) (hd : decode cc pc = .ok (.newarray .int, 2)) (kk : ∀ q : Nat, J D X (w ++ [(q, .inl (D.2.1, N, .inl (fun _ => 0)))]) (k + 1) (n + N) (pc + 2) lv (.ref q :: st)) : J D X w k n pc lv (.int x :: st) := by
  subst hx
  obtain ⟨hR1, hR2, hR3, hR4⟩ := C.hR
  intro H locs ls hP hD hS hl
  refine va_newa C.hx C.hb (atype := .int) (C.hts _ ha) rfl C.hK hP hD hS C.hA (N' := N) (a0 := (N, .inl (fun _ => 0))) (fun cA => rfl) (nI_pos (by omega)) (nI_clamp (by omega)) (by show N * 4 ≤ _; omega) (by rw [hR3]; exact hk) (by rw [hR4]; exact hn) hd (fun q cA H1 hK1 hP1 hD1 hS1 => ?_)
  have e := kT_of C.hK hK1 (i := 0) rfl
  subst e
  exact kk q H1 locs ls hP1 hD1 hS1 hl
theorem j_newl (C : Cx D X cc own Ts fr lo mc ms nL) {N : Nat} {x : Int32} (ha : Cond.arrayClass .long ∈ Ts) (hx : x = nI N) (hN : N < 2 ^ 26) (hk : k + 1 ≤ mc) (hn : n + N ≤ ms) (hd : decode cc pc = .ok (.newarray .long, 2)) (kk : ∀ q : Nat, J D X (w ++ [(q, .inl (D.2.2.1, N, .inr (.inl (fun _ => 0))))]) (k + 1) (n + N) (pc + 2) lv (.ref q :: st)) : J D X w k n pc lv (.int x :: st) := by
  subst hx
  obtain ⟨hR1, hR2, hR3, hR4⟩ := C.hR
  intro H locs ls hP hD hS hl
  refine va_newa C.hx C.hb (atype := .long) (C.hts _ ha) rfl C.hK hP hD hS C.hA (N' := N) (a0 := (N, .inr (.inl (fun _ => 0)))) (fun cA => rfl) (nI_pos (by omega)) (nI_clamp (by omega)) (by show N * 8 ≤ _; omega) (by rw [hR3]; exact hk) (by rw [hR4]; exact hn) hd (fun q cA H1 hK1 hP1 hD1 hS1 => ?_)
  have e := kT_of C.hK hK1 (i := 1) rfl
  subst e
  exact kk q H1 locs ls hP1 hD1 hS1 hl
theorem j_newb (C : Cx D X cc own Ts fr lo mc ms nL) {N : Nat} {x : Int32} (ha : Cond.arrayClass .byte ∈ Ts) (hx : x = nI N) (hN : N < 2 ^ 27) (hk : k + 1 ≤ mc) (hn : n + N ≤ ms) (hd : decode cc pc = .ok (.newarray .byte, 2)) (kk : ∀ q : Nat, J D X (w ++ [(q, .inl (D.2.2.2.1, N, .inl (fun _ => 0)))]) (k + 1) (n + N) (pc + 2) lv (.ref q :: st)) : J D X w k n pc lv (.int x :: st) := by
  subst hx
  obtain ⟨hR1, hR2, hR3, hR4⟩ := C.hR
  intro H locs ls hP hD hS hl
  refine va_newa C.hx C.hb (atype := .byte) (C.hts _ ha) rfl C.hK hP hD hS C.hA (N' := N) (a0 := (N, .inl (fun _ => 0))) (fun cA => rfl) (nI_pos (by omega)) (nI_clamp (by omega)) (by show N * 1 ≤ _; omega) (by rw [hR3]; exact hk) (by rw [hR4]; exact hn) hd (fun q cA H1 hK1 hP1 hD1 hS1 => ?_)
  have e := kT_of C.hK hK1 (i := 2) rfl
  subst e
  exact kk q H1 locs ls hP1 hD1 hS1 hl
theorem j_newq (C : Cx D X cc own Ts fr lo mc ms nL) {N idx : Nat} {x : Int32} (ha : Cond.classLink own idx "KeelBlocks$Dock" ∈ Ts) (hx : x = nI N) (hN : N < 2 ^ 27) (hk : k + 1 ≤ mc) (hn : n + N ≤ ms) (hd : decode cc pc = .ok (.anewarray idx, 3)) (kk : ∀ q : Nat, J D X (w ++ [(q, .inl (D.2.2.2.2, N, .inr (.inr (.inr (.inr (fun _ => none))))))]) (k + 1) (n + N) (pc + 3) lv (.ref q :: st)) : J D X w k n pc lv (.int x :: st) := by
  subst hx
  obtain ⟨hR1, hR2, hR3, hR4⟩ := C.hR
  intro H locs ls hP hD hS hl
  refine va_newq C.hx C.hb C.hown (C.hts _ ha) C.hN.2.2.2.2.2.2.2.2 C.hK hP hD hS C.hA (N' := N) (nI_pos (by omega)) (nI_clamp (by omega)) (by omega) (by rw [hR3]; exact hk) (by rw [hR4]; exact hn) hd (fun q cA H1 hK1 hP1 hD1 hS1 => ?_)
  have e := kT_of C.hK hK1 (i := 3) rfl
  subst e
  exact kk q H1 locs ls hP1 hD1 hS1 hl
/-- what a class's making wants of the words -/
def FN (Ts : List Cond) (own : String) (idx ci N : Nat) (fs : List Value) : Prop := ∃ (Cn : String) (T : u_T) (ty : Nat → FieldType), vwCl[ci]? = some (Cn, T, N) ∧ (∀ w ∈ u_ws Cn T N, w ∈ Ts) ∧ (∀ k, k < N → parseFieldDescriptor (T k).2.2.1 = some (ty k)) ∧ Cond.classLink own idx Cn ∈ Ts ∧ Cond.instantiable Cn N ∈ Ts ∧ Cond.initialized Cn ∈ Ts ∧ ∀ j, j < N → defaultValue (ty j) = vp_V fs j
theorem j_new (C : Cx D X cc own Ts fr lo mc ms nL) {idx ci N : Nat} {fs : List Value} (hf : FN Ts own idx ci N fs) (hk : k + 1 ≤ mc) (hn : n + N ≤ ms) (hd : decode cc pc = .ok (.new idx, 3)) (kk : ∀ q : Nat, J D X (w ++ [(q, .inr (ci, fs))]) (k + 1) (n + N) (pc + 3) lv (.ref q :: st)) : J D X w k n pc lv st := by
  obtain ⟨hR1, hR2, hR3, hR4⟩ := C.hR
  obtain ⟨Cn, T, ty, h1, h2, h3, h4, h5, h6, h7⟩ := hf
  intro H locs ls hP hD hS hl
  exact va_new C.hx C.hb C.hts h2 ty h3 C.hown (C.hts _ h4) (C.hts _ h5) (C.hts _ h6) C.hK hP hD hS C.hA h1 h7 (by rw [hR3]; exact hk) (by rw [hR4]; exact hn) hd (fun q H1 hP1 hD1 hS1 => kk q H1 locs ls hP1 hD1 hS1 hl)
theorem for_up {P : Nat → Prop} (N : Nat) (hN : P N) (hs : ∀ i, i < N → P (i + 1) → P i) : ∀ i, i ≤ N → P i := by
  intro i hi
  obtain ⟨d, rfl⟩ := Nat.exists_eq_add_of_le hi
  clear hi
  induction d generalizing i with
  | zero => exact hN
  | succ d ih =>
    refine hs i (by omega) ?_
    have := ih (i + 1)
    rw [show i + (d + 1) = i + 1 + d by omega] at hN hs
    exact this hN hs
end JROWS2
/-! the cells of the objects -/
abbrev Dk : Type := Int32 × Int32 × Int32 × Int32 × Int32 × (Nat → Int32) × (Nat → Int32) × (Nat → Int32) × (Nat → Int32) × (Nat → Int32)
abbrev Bl : Type := Int32 × Int32 × Int32 × Int32 × Int64 × Int64 × Int64 × (Nat → Int32) × (Nat → Int64)
def wDo (D : KD) (a : Nat → Nat) (we ce co sg cr : Int32) (Pp Kp Hp Lp Sp : Nat → Int32) : va_W := [(a 0, .inr (1, [.int we, .int ce, .int co, .int sg, .int cr, .ref (a 1), .ref (a 2), .ref (a 3), .ref (a 4), .ref (a 5)])), (a 1, .inl (D.2.1, 16, .inl Pp)), (a 2, .inl (D.2.1, 16, .inl Kp)), (a 3, .inl (D.2.1, 16, .inl Hp)), (a 4, .inl (D.2.1, 16, .inl Lp)), (a 5, .inl (D.2.1, 16, .inl Sp))]
def wBa (D : KD) (b : Nat → Nat) (sd rd be ov : Int32) (qa qb qd : Int64) (lo : Nat → Int32) (cu : Nat → Int64) : va_W := [(b 0, .inr (0, [.int sd, .int rd, .int be, .int ov, .long qa, .long qb, .long qd, .ref (b 1), .ref (b 2)])), (b 1, .inl (D.2.1, 16, .inl lo)), (b 2, .inl (D.2.2.1, 16, .inr (.inl cu)))]
def wDk (D : KD) (a : Nat → Nat) (σ : Dk) : va_W := wDo D a σ.1 σ.2.1 σ.2.2.1 σ.2.2.2.1 σ.2.2.2.2.1 σ.2.2.2.2.2.1 σ.2.2.2.2.2.2.1 σ.2.2.2.2.2.2.2.1 σ.2.2.2.2.2.2.2.2.1 σ.2.2.2.2.2.2.2.2.2
def wBl (D : KD) (b : Nat → Nat) (β : Bl) : va_W := wBa D b β.1 β.2.1 β.2.2.1 β.2.2.2.1 β.2.2.2.2.1 β.2.2.2.2.2.1 β.2.2.2.2.2.2.1 β.2.2.2.2.2.2.2.1 β.2.2.2.2.2.2.2.2
def wAr (D : KD) (x N : Nat) (f : Nat → Int32) : va_W := [(x, .inl (D.2.1, N, .inl f))]
def wRd (D : KD) (r : Nat → Nat) (ta : Nat) (po er : Int32) : va_W := [(r 0, .inr (2, [.ref ta, .int po, .int er]))]
def wTx (D : KD) (t : Nat → Nat) (ln : Int32) (bs : Nat → Int32) : va_W := [(t 0, .inr (3, [.int ln, .ref (t 1)])), (t 1, .inl (D.2.2.2.1, 160, .inl bs))]
def wHi (D : KD) (g : Nat → Nat) (sz nw : Int32) (sl : Nat → Option Nat) : va_W := [(g 0, .inr (4, [.int sz, .int nw, .ref (g 1)])), (g 1, .inl (D.2.2.2.2, 4, .inr (.inr (.inr (.inr sl)))))]
def wKb (D : KD) (h : Nat → Nat) (k1 k2 k3 k4 k5 k6 k7 : Nat) : va_W := [(h 0, .inr (5, [.ref k1, .ref k2, .ref k3, .ref k4, .ref k5, .ref k6, .ref k7]))]
def wMo (D : KD) (h : Nat → Nat) (m sp sv : Nat → Int32) (sc : Int32) (tx : Nat → Int32) (tl cd se ro st : Int32) (qa qb qd : Int64) (lo : Nat → Int32) (re : Nat → Int64) (cr ap nu : Int32) (ha : Int64) : va_W := [(h 0, .inr (6, [.ref (h 1), .ref (h 2), .ref (h 3), .int sc, .ref (h 4), .int tl, .int cd, .int se, .int ro, .int st, .long qa, .long qb, .long qd, .ref (h 5), .ref (h 6), .int cr, .int ap, .int nu, .long ha])), (h 1, .inl (D.2.1, 99, .inl m)), (h 2, .inl (D.2.1, 99, .inl sp)), (h 3, .inl (D.2.1, 396, .inl sv)), (h 4, .inl (D.2.1, 160, .inl tx)), (h 5, .inl (D.2.1, 16, .inl lo)), (h 6, .inl (D.2.2.1, 16, .inr (.inl re)))]
/-- two tellings of an array's contents that agree below its length are one cell -/
theorem cell_i {cA : ClassId} {N : Nat} {f g : Nat → Int32} (h : ∀ j, j < N → f j = g j) : vp_cell cA (N, .inl f) = vp_cell cA (N, .inl g) := by
  show arrV cA N (fun j => .int (f j)) = arrV cA N (fun j => .int (g j))
  unfold arrV
  congr 1
  apply Array.ext
  · simp
  · intro i h1 h2
    have hi : i < N := by simpa using h1
    simp [h i hi]
theorem cell_l {cA : ClassId} {N : Nat} {f g : Nat → Int64} (h : ∀ j, j < N → f j = g j) : vp_cell cA (N, .inr (.inl f)) = vp_cell cA (N, .inr (.inl g)) := by
  show arrV cA N (fun j => .long (f j)) = arrV cA N (fun j => .long (g j))
  unfold arrV
  congr 1
  apply Array.ext
  · simp
  · intro i h1 h2
    have hi : i < N := by simpa using h1
    simp [h i hi]
/-- one cell of a world told otherwise -/
theorem va_P.as {G : va_G} {cl : List vw_C} {w : va_W} {H : Heap} (q0 : Nat) {a : Nat} {x y : ClassId × vp_A} (hq : w[q0]? = some (a, .inl x)) (hc : vp_cell x.1 x.2 = vp_cell y.1 y.2) (h : va_P G cl w H) : va_P G cl (w.set q0 (a, .inl y)) H := by
  intro k q hk
  by_cases hkq : k = q0
  · subst hkq
    rw [List.getElem?_set_self (List.getElem?_eq_some_iff.mp hq).1] at hk
    cases hk
    have := h k _ hq
    show H[a]? = some (vp_cell y.1 y.2)
    rw [← hc]
    exact this
  · rw [List.getElem?_set_ne (Ne.symm hkq)] at hk
    exact h k q hk
theorem set_fst {w : va_W} {q0 a : Nat} {e e' : va_E} (hq : w[q0]? = some (a, e)) : (w.set q0 (a, e')).map Prod.fst = w.map Prod.fst := by
  apply List.ext_getElem?
  intro k
  rw [List.getElem?_map, List.getElem?_map]
  by_cases hkq : k = q0
  · subst hkq
    rw [List.getElem?_set_self (List.getElem?_eq_some_iff.mp hq).1, hq]
    rfl
  · rw [List.getElem?_set_ne (Ne.symm hkq)]
theorem j_asi {D : KD} {X : KX} {w w' : va_W} {k n pc : Nat} {lv : List (Nat × Value)} {st : List Value} (q0 : Nat) {a N : Nat} {cA : ClassId} {f : Nat → Int32} (g : Nat → Int32) (hq : w[q0]? = some (a, .inl (cA, N, .inl f))) (h : ∀ j, j < N → f j = g j) (hw : w.set q0 (a, .inl (cA, N, .inl g)) = w') (kk : J D X w' k n pc lv st) : J D X w k n pc lv st := by
  subst hw
  exact j_as (fun H hP => va_P.as (y := (cA, N, .inl g)) q0 hq (cell_i h) hP) (set_fst hq) kk
theorem j_asl {D : KD} {X : KX} {w w' : va_W} {k n pc : Nat} {lv : List (Nat × Value)} {st : List Value} (q0 : Nat) {a N : Nat} {cA : ClassId} {f : Nat → Int64} (g : Nat → Int64) (hq : w[q0]? = some (a, .inl (cA, N, .inr (.inl f)))) (h : ∀ j, j < N → f j = g j) (hw : w.set q0 (a, .inl (cA, N, .inr (.inl g))) = w') (kk : J D X w' k n pc lv st) : J D X w k n pc lv st := by
  subst hw
  exact j_as (fun H hP => va_P.as (y := (cA, N, .inr (.inl g))) q0 hq (cell_l h) hP) (set_fst hq) kk

