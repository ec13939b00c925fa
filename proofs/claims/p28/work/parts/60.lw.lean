/-! the law's own level: of a world only what the class's page says -/
abbrev Pg : Type := Nat → Int32
abbrev Hs : Type := List (Pg × Nat)
/-- w1 begins with the cells of w, at the same addresses -/
def wpre (w w1 : va_W) : Prop := (w1.take w.length).map Prod.fst = w.map Prod.fst
/-- the saved pages are those of the history, the newest first -/
def HL (sv : Pg) (h : Hs) : Prop := ∀ (j : Nat) (q : Pg × Nat), h[j]? = some q → (∀ c, c < 99 → svP sv (h.length - 1 - j) c = q.1 c) ∧ q.1 2 = nI q.2 ∧ q.2 ≤ 16
def LW (D : KD) (x : Nat) (m : Pg) (n : Nat) (h : Hs) (w : va_W) : Prop := ∃ (a b a2 b2 g tt rr : Nat → Nat) (sv tx : Pg), kW D (fun _ => x) a b a2 b2 g tt rr 0 (fun _ _ => 0) m n sv h.length tx 0 w ∧ HL sv h
/-- a state saved -/
def pu (h : Hs) (m : Pg) (n : Nat) : Hs := (m, n) :: h.take 3
theorem kW_0 {D : KD} {x a b a2 b2 g tt rr : Nat → Nat} {k0 : Nat} {oa0 : Nat → Nat → Nat} {m : Pg} {n : Nat} {sv : Pg} {s : Nat} {tx : Pg} {t : Nat} {w1 : va_W} (q : kW D x a b a2 b2 g tt rr k0 oa0 m n sv s tx t w1) : kW D x a b a2 b2 g tt rr 0 (fun _ _ => 0) m n sv s tx t w1 := by
  obtain ⟨we, ce, co, sg, cr, Pp, Kp, Hp, Lp, Sp, cu, we2, ce2, co2, sg2, cr2, Pp2, Kp2, Hp2, Lp2, Sp2, sd2, rd2, be2, ov2, qa2, qb2, qd2, lo2, cu2, po, er, nw, k, oa, f, h1, h2, h3, h4, h5, h6⟩ := q
  exact ⟨we, ce, co, sg, cr, Pp, Kp, Hp, Lp, Sp, cu, we2, ce2, co2, sg2, cr2, Pp2, Kp2, Hp2, Lp2, Sp2, sd2, rd2, be2, ov2, qa2, qb2, qd2, lo2, cu2, po, er, nw, k, oa, f, h1, h2, h3, Nat.zero_le _, fun j hj => absurd hj (Nat.not_lt_zero j), h6⟩
set_option maxRecDepth 100000 in
theorem kW_pre {D : KD} {x a b a2 b2 g tt rr : Nat → Nat} {m : Pg} {n : Nat} {s : Nat} {tx : Pg} {t : Nat} {we ce co sg cr : Int32} {Pp Kp Hp Lp Sp : Nat → Int32} {cu : Nat → Int64} {we2 ce2 co2 sg2 cr2 : Int32} {Pp2 Kp2 Hp2 Lp2 Sp2 : Nat → Int32} {sd2 rd2 be2 ov2 : Int32} {qa2 qb2 qd2 : Int64} {lo2 : Nat → Int32} {cu2 : Nat → Int64} {po er : Int32} {nw k : Nat} {oa : Nat → Nat → Nat} {f : Nat → Dk} {m' sv' tx' : Pg} {n' s' t' : Nat} {w1 : va_W} (q : kW D x a b a2 b2 g tt rr k oa m' n' sv' s' tx' t' w1) : wpre (((wKb D x (a 0) (b 0) (a2 0) (b2 0) (g 0) (tt 0) (rr 0) ++ (wDo D a we ce co sg cr Pp Kp Hp Lp Sp ++ (wBa D b (bI (mR m n).1) (nI (mR m n).2.1) (mBe m n) (mOv m n) ((mR m n).2.2.2.1) ((mR m n).2.2.2.2.1) ((mR m n).2.2.2.2.2) (mLo m n) cu ++ (wDo D a2 we2 ce2 co2 sg2 cr2 Pp2 Kp2 Hp2 Lp2 Sp2 ++ (wBa D b2 sd2 rd2 be2 ov2 qa2 qb2 qd2 lo2 cu2 ++ (wHi D g (nI s) (nI nw) (slF oa k) ++ (wTx D tt (nI t) tx ++ (wRd D rr (tt 0) po er)))))))) ++ (wPl D oa f k))) w1 := by
  obtain ⟨wez, cez, coz, sgz, crz, Ppz, Kpz, Hpz, Lpz, Spz, cuz, we2z, ce2z, co2z, sg2z, cr2z, Pp2z, Kp2z, Hp2z, Lp2z, Sp2z, sd2z, rd2z, be2z, ov2z, qa2z, qb2z, qd2z, lo2z, cu2z, poz, erz, nwz, kz, oaz, fz, h1, h2, h3, h4, h5, rfl⟩ := q
  exact tl_fst (Eq.trans (b := [x 0, a 0, a 1, a 2, a 3, a 4, a 5, b 0, b 1, b 2, a2 0, a2 1, a2 2, a2 3, a2 4, a2 5, b2 0, b2 1, b2 2, g 0, g 1, tt 0, tt 1, rr 0]) rfl rfl) (wPl_tl h4 h5)
theorem pu_len {h : Hs} {m : Pg} {n : Nat} (hl : h.length ≤ 4) : (pu h m n).length = min (h.length + 1) 4 := by
  unfold pu
  rw [List.length_cons, List.length_take]
  omega
theorem HL_pu {sv : Pg} {h : Hs} {m : Pg} {n : Nat} (hl : h.length ≤ 4) (hH : HL sv h) (hc : m 2 = nI n) (hn : n ≤ 16) : HL (kSv sv h.length m) (pu h m n) := by
  intro j q hj
  rw [pu_len hl]
  cases j with
  | zero =>
    obtain rfl : (m, n) = q := Option.some.inj hj
    exact ⟨fun c hc99 => kSv_new hl c hc99, hc, hn⟩
  | succ j =>
    have h1 : (h.take 3)[j]? = some q := hj
    have hj3 : j < 3 := by
      have := (List.getElem?_eq_some_iff.mp h1).1
      rw [List.length_take] at this
      omega
    rw [List.getElem?_take_of_lt hj3] at h1
    have hjl := (List.getElem?_eq_some_iff.mp h1).1
    obtain ⟨a, b, c⟩ := hH j q h1
    refine ⟨fun c hc99 => ?_, b, c⟩
    rw [kSv_old hl (by omega) (by omega) c hc99, Nat.add_sub_cancel]
    exact a c hc99
theorem HL_tl {sv : Pg} {h : Hs} {q0 : Pg × Nat} (hH : HL sv (q0 :: h)) : HL sv h := by
  intro j q hj
  obtain ⟨a, b, c⟩ := hH (j + 1) q hj
  refine ⟨fun c hc => ?_, b, c⟩
  have := a c hc
  rw [List.length_cons, show h.length + 1 - 1 - (j + 1) = h.length - 1 - j by omega] at this
  exact this
theorem Ba_ag {D : KD} {b : Nat → Nat} {cu : Nat → Int64} {n : Nat} {m m1 : Nat → Int32} (hn : n ≤ 16) (h : mAg n m m1) : wBa D b (bI (mR m n).1) (nI (mR m n).2.1) (mBe m n) (mOv m n) ((mR m n).2.2.2.1) ((mR m n).2.2.2.2.1) ((mR m n).2.2.2.2.2) (mLo m n) cu = wBa D b (bI (mR m1 n).1) (nI (mR m1 n).2.1) (mBe m1 n) (mOv m1 n) ((mR m1 n).2.2.2.1) ((mR m1 n).2.2.2.2.1) ((mR m1 n).2.2.2.2.2) (mLo m1 n) cu := by
  have e2 : mBe m1 n = mBe m n := by
    unfold mBe
    rw [mAg_mR h]
  rw [mAg_mR h, e2, mAg_mOv hn h, mAg_mLo hn h]
/-- a page told otherwise, where the docks can't tell the difference -/
theorem kW_ag {D : KD} {x a b a2 b2 g tt rr : Nat → Nat} {k0 : Nat} {oa0 : Nat → Nat → Nat} {m m1 : Pg} {n : Nat} {sv : Pg} {s : Nat} {tx : Pg} {t : Nat} {w1 : va_W} (q : kW D x a b a2 b2 g tt rr k0 oa0 m n sv s tx t w1) (ha : mAg n m m1) : kW D x a b a2 b2 g tt rr k0 oa0 m1 n sv s tx t w1 := by
  obtain ⟨we, ce, co, sg, cr, Pp, Kp, Hp, Lp, Sp, cu, we2, ce2, co2, sg2, cr2, Pp2, Kp2, Hp2, Lp2, Sp2, sd2, rd2, be2, ov2, qa2, qb2, qd2, lo2, cu2, po, er, nw, k, oa, f, h1, h2, h3, h4, h5, h6⟩ := q
  rw [Ba_ag (KR_n h1) ha] at h6
  exact ⟨we, ce, co, sg, cr, Pp, Kp, Hp, Lp, Sp, cu, we2, ce2, co2, sg2, cr2, Pp2, Kp2, Hp2, Lp2, Sp2, sd2, rd2, be2, ov2, qa2, qb2, qd2, lo2, cu2, po, er, nw, k, oa, f, KR_ag h1 ha, h2, h3, h4, h5, h6⟩
theorem kW_c {D : KD} {x a b a2 b2 g tt rr : Nat → Nat} {k0 : Nat} {oa0 : Nat → Nat → Nat} {m : Pg} {n : Nat} {sv : Pg} {s : Nat} {tx : Pg} {t : Nat} {w1 : va_W} (q : kW D x a b a2 b2 g tt rr k0 oa0 m n sv s tx t w1) : n ≤ 16 ∧ m 2 = nI n ∧ mVal m n ∧ s ≤ 4 := by
  obtain ⟨we, ce, co, sg, cr, Pp, Kp, Hp, Lp, Sp, cu, we2, ce2, co2, sg2, cr2, Pp2, Kp2, Hp2, Lp2, Sp2, sd2, rd2, be2, ov2, qa2, qb2, qd2, lo2, cu2, po, er, nw, k, oa, f, h1, h2, h3, h4, h5, h6⟩ := q
  exact ⟨KR_n h1, KR_c h1, KR_V h1, h2.2.1⟩
theorem LW.fc {D : KD} {x : Nat} {m : Pg} {n : Nat} {h : Hs} {w : va_W} (H : LW D x m n h w) : n ≤ 16 ∧ m 2 = nI n ∧ mVal m n ∧ h.length ≤ 4 := by
  obtain ⟨a, b, a2, b2, g, tt, rr, sv, tx, q, -⟩ := H
  exact kW_c q
set_option maxRecDepth 100000 in
theorem LW.at0 {D : KD} {x : Nat} {m : Pg} {n : Nat} {h : Hs} {w : va_W} (H : LW D x m n h w) : ∃ fs, w[0]? = some (x, .inr (5, fs)) := by
  obtain ⟨a, b, a2, b2, g, tt, rr, sv, tx, ⟨we, ce, co, sg, cr, Pp, Kp, Hp, Lp, Sp, cu, we2, ce2, co2, sg2, cr2, Pp2, Kp2, Hp2, Lp2, Sp2, sd2, rd2, be2, ov2, qa2, qb2, qd2, lo2, cu2, po, er, nw, k, oa, f, h1, h2, h3, h4, h5, rfl⟩, -⟩ := H
  exact ⟨_, rfl⟩
/-- behind a change: the old state is saved -/
theorem LW.pu {D : KD} {x a b a2 b2 g tt rr : Nat → Nat} {k0 : Nat} {oa0 : Nat → Nat → Nat} {m m1 : Pg} {n n1 : Nat} {sv : Pg} {h : Hs} {tx : Pg} {w1 : va_W} (q : kW D (fun _ => x 0) a b a2 b2 g tt rr k0 oa0 m1 n1 (kSv sv h.length m) (min (h.length + 1) 4) tx 0 w1) (hl : h.length ≤ 4) (hH : HL sv h) (hc : m 2 = nI n) (hn : n ≤ 16) : LW D (x 0) m1 n1 (pu h m n) w1 :=
  ⟨a, b, a2, b2, g, tt, rr, _, tx, by rw [pu_len hl]; exact kW_0 q, HL_pu hl hH hc hn⟩
theorem LW.un {D : KD} {x a b a2 b2 g tt rr : Nat → Nat} {k0 : Nat} {oa0 : Nat → Nat → Nat} {m0 : Pg} {n' n0 : Nat} {sv : Pg} {h : Hs} {tx : Pg} {w1 : va_W} (q : kW D (fun _ => x 0) a b a2 b2 g tt rr k0 oa0 (svP sv h.length) n' sv h.length tx 0 w1) (hH : HL sv ((m0, n0) :: h)) : LW D (x 0) m0 n0 h w1 := by
  obtain ⟨h1, h2, -, -⟩ := kW_c q
  obtain ⟨e1, e2, e3⟩ := hH 0 (m0, n0) rfl
  have e1 : ∀ c, c < 99 → svP sv h.length c = m0 c := e1
  have e4 : nI n' = nI n0 := by rw [← h2, e1 2 (by decide)]; exact e2
  obtain rfl : n' = n0 := (nI_eq (by omega) (by have : n0 ≤ 16 := e3; omega)).mp e4
  exact ⟨a, b, a2, b2, g, tt, rr, sv, tx, kW_0 (kW_ag q (fun j hj => (e1 j (by omega)).symm)), HL_tl hH⟩
theorem MD.imp {l : Launch} {D : KD} {y : MethodName} {ws : List Cond} {fr lo mc ms : Nat} {av : List Value} {w : va_W} {post post' : UInt64 → va_W → Prop} (h : MD l D y ws fr lo mc ms av w post) (hi : ∀ r w1, post r w1 → post' r w1) : MD l D y ws fr lo mc ms av w post' := by
  intro sz
  refine Met.mono' (h sz) (fun _ _ h => h) ?_ (fun _ h => h)
  rintro a s o t - ⟨⟨r, u, ho, hu, hB⟩, hF⟩
  exact ⟨⟨r, u, ho, hi _ _ hu, hB⟩, hF⟩
theorem MX.imp {l : Launch} {D : KD} {y : MethodName} {ws : List Cond} {fr lo mc ms : Nat} {av : List Value} {w : va_W} {E : String} {post post' : va_W → Prop} (h : MX l D y ws fr lo mc ms av w E post) (hi : ∀ w1, post w1 → post' w1) : MX l D y ws fr lo mc ms av w E post' := by
  intro sz
  refine MetFree.mono (h sz) (fun _ _ h => h) (fun _ _ _ _ _ h => h) ?_
  rintro a s o t - (hq | ⟨q, ho, E', ce, L, ⟨u, hu, hB⟩, hr⟩)
  · exact Or.inl hq
  · exact Or.inr ⟨q, ho, E', ce, L, ⟨u, hi u hu, hB⟩, hr⟩
theorem lc_addBlock (l : Launch) (D : KD) {x : Nat} {m : Pg} {n : Nat} {h : Hs} {w : va_W} (H : LW D x m n h w) (p0 s0 c0 l0 : Int32) (hy : (pIn p0 0 400 && (pIn s0 1 100 && (pIn c0 (-50) 50 && pIn l0 1 99999))) = true) (hn16 : n < 16) : MI l D yX5_addBlock wsX5_addBlock 5 124 6 90 [.ref x, .int p0, .int s0, .int c0, .int l0] w (fun r w1 => r = nI n ∧ LW D x (mBu m n p0 s0 c0 l0) (n + 1) (pu h m n) w1 ∧ wpre w w1) := by
  obtain ⟨a, b, a2, b2, g, tt, rr, sv, tx, ⟨we, ce, co, sg, cr, Pp, Kp, Hp, Lp, Sp, cu, we2, ce2, co2, sg2, cr2, Pp2, Kp2, Hp2, Lp2, Sp2, sd2, rd2, be2, ov2, qa2, qb2, qd2, lo2, cu2, po, er, nw, k, oa, f, hK, hH, ht, hk, ho, rfl⟩, hHL⟩ := H
  exact (ctX5_addBlock l D (fun _ => x) a b a2 b2 g tt rr we ce co sg cr Pp Kp Hp Lp Sp cu we2 ce2 co2 sg2 cr2 Pp2 Kp2 Hp2 Lp2 Sp2 sd2 rd2 be2 ov2 qa2 qb2 qd2 lo2 cu2 po er m sv tx n h.length 0 nw k oa f hK hH ht p0 s0 c0 l0 hy hn16).imp (fun r w1 ⟨e, q⟩ => ⟨e, LW.pu (x := fun _ => x) q hH.2.1 hHL (KR_c hK) (KR_n hK), kW_pre q⟩)
theorem lc_setCap (l : Launch) (D : KD) {x : Nat} {m : Pg} {n : Nat} {h : Hs} {w : va_W} (H : LW D x m n h w) (i : Nat) (hi : i < n) (y : Int32) (hy : pIn y (-50) 50 = true) : MI l D yX5_setCap wsX5_setCap 5 124 6 90 [.ref x, .int (nI i), .int y] w (fun r w1 => r = m (3 + 6 * i + 2) ∧ LW D x (upd m (3 + 6 * i + 2) y) n (pu h m n) w1 ∧ wpre w w1) := by
  obtain ⟨a, b, a2, b2, g, tt, rr, sv, tx, ⟨we, ce, co, sg, cr, Pp, Kp, Hp, Lp, Sp, cu, we2, ce2, co2, sg2, cr2, Pp2, Kp2, Hp2, Lp2, Sp2, sd2, rd2, be2, ov2, qa2, qb2, qd2, lo2, cu2, po, er, nw, k, oa, f, hK, hH, ht, hk, ho, rfl⟩, hHL⟩ := H
  exact (ctX5_setCap l D (fun _ => x) a b a2 b2 g tt rr we ce co sg cr Pp Kp Hp Lp Sp cu we2 ce2 co2 sg2 cr2 Pp2 Kp2 Hp2 Lp2 Sp2 sd2 rd2 be2 ov2 qa2 qb2 qd2 lo2 cu2 po er m sv tx n h.length 0 nw k oa f hK hH ht i hi y hy).imp (fun r w1 ⟨e, q⟩ => ⟨e, LW.pu (x := fun _ => x) q hH.2.1 hHL (KR_c hK) (KR_n hK), kW_pre q⟩)
theorem lc_setLimit (l : Launch) (D : KD) {x : Nat} {m : Pg} {n : Nat} {h : Hs} {w : va_W} (H : LW D x m n h w) (i : Nat) (hi : i < n) (y : Int32) (hy : pIn y 1 99999 = true) : MI l D yX5_setLimit wsX5_setLimit 5 124 6 90 [.ref x, .int (nI i), .int y] w (fun r w1 => r = m (3 + 6 * i + 3) ∧ LW D x (upd m (3 + 6 * i + 3) y) n (pu h m n) w1 ∧ wpre w w1) := by
  obtain ⟨a, b, a2, b2, g, tt, rr, sv, tx, ⟨we, ce, co, sg, cr, Pp, Kp, Hp, Lp, Sp, cu, we2, ce2, co2, sg2, cr2, Pp2, Kp2, Hp2, Lp2, Sp2, sd2, rd2, be2, ov2, qa2, qb2, qd2, lo2, cu2, po, er, nw, k, oa, f, hK, hH, ht, hk, ho, rfl⟩, hHL⟩ := H
  exact (ctX5_setLimit l D (fun _ => x) a b a2 b2 g tt rr we ce co sg cr Pp Kp Hp Lp Sp cu we2 ce2 co2 sg2 cr2 Pp2 Kp2 Hp2 Lp2 Sp2 sd2 rd2 be2 ov2 qa2 qb2 qd2 lo2 cu2 po er m sv tx n h.length 0 nw k oa f hK hH ht i hi y hy).imp (fun r w1 ⟨e, q⟩ => ⟨e, LW.pu (x := fun _ => x) q hH.2.1 hHL (KR_c hK) (KR_n hK), kW_pre q⟩)
theorem lc_setShip (l : Launch) (D : KD) {x : Nat} {m : Pg} {n : Nat} {h : Hs} {w : va_W} (H : LW D x m n h w) (w0 c0 : Int32) (hy : (pIn w0 1 100000 && pIn c0 0 400) = true) : MI l D yX5_setShip wsX5_setShip 5 124 6 90 [.ref x, .int w0, .int c0] w (fun r w1 => r = m 0 ∧ LW D x (upd (upd m 0 w0) 1 c0) n (pu h m n) w1 ∧ wpre w w1) := by
  obtain ⟨a, b, a2, b2, g, tt, rr, sv, tx, ⟨we, ce, co, sg, cr, Pp, Kp, Hp, Lp, Sp, cu, we2, ce2, co2, sg2, cr2, Pp2, Kp2, Hp2, Lp2, Sp2, sd2, rd2, be2, ov2, qa2, qb2, qd2, lo2, cu2, po, er, nw, k, oa, f, hK, hH, ht, hk, ho, rfl⟩, hHL⟩ := H
  exact (ctX5_setShip l D (fun _ => x) a b a2 b2 g tt rr we ce co sg cr Pp Kp Hp Lp Sp cu we2 ce2 co2 sg2 cr2 Pp2 Kp2 Hp2 Lp2 Sp2 sd2 rd2 be2 ov2 qa2 qb2 qd2 lo2 cu2 po er m sv tx n h.length 0 nw k oa f hK hH ht w0 c0 hy).imp (fun r w1 ⟨e, q⟩ => ⟨e, LW.pu (x := fun _ => x) q hH.2.1 hHL (KR_c hK) (KR_n hK), kW_pre q⟩)
theorem lc_pull (l : Launch) (D : KD) {x : Nat} {m : Pg} {n : Nat} {h : Hs} {w : va_W} (H : LW D x m n h w) (i : Nat) (hi : i < n) (hz : mT m i = 0) (hcp : cpl m n i = true) : MI l D yX5_pull wsX5_pull 5 125 6 90 [.ref x, .int (nI i)] w (fun r w1 => r = mGr (mSt m i 1) n ∧ LW D x (mSt m i 1) n (pu h m n) w1 ∧ wpre w w1) := by
  obtain ⟨a, b, a2, b2, g, tt, rr, sv, tx, ⟨we, ce, co, sg, cr, Pp, Kp, Hp, Lp, Sp, cu, we2, ce2, co2, sg2, cr2, Pp2, Kp2, Hp2, Lp2, Sp2, sd2, rd2, be2, ov2, qa2, qb2, qd2, lo2, cu2, po, er, nw, k, oa, f, hK, hH, ht, hk, ho, rfl⟩, hHL⟩ := H
  exact (ctX5_pull l D (fun _ => x) a b a2 b2 g tt rr we ce co sg cr Pp Kp Hp Lp Sp cu we2 ce2 co2 sg2 cr2 Pp2 Kp2 Hp2 Lp2 Sp2 sd2 rd2 be2 ov2 qa2 qb2 qd2 lo2 cu2 po er m sv tx n h.length 0 nw k oa f hK hH ht i hi hz hcp).imp (fun r w1 ⟨e, q⟩ => ⟨e, LW.pu (x := fun _ => x) q hH.2.1 hHL (KR_c hK) (KR_n hK), kW_pre q⟩)
theorem lc_put (l : Launch) (D : KD) {x : Nat} {m : Pg} {n : Nat} {h : Hs} {w : va_W} (H : LW D x m n h w) (i : Nat) (hi : i < n) (hz : ¬ mT m i = 0) : MI l D yX5_put wsX5_put 5 124 6 90 [.ref x, .int (nI i)] w (fun r w1 => r = mLd (mSt m i 0) n i ∧ LW D x (mSt m i 0) n (pu h m n) w1 ∧ wpre w w1) := by
  obtain ⟨a, b, a2, b2, g, tt, rr, sv, tx, ⟨we, ce, co, sg, cr, Pp, Kp, Hp, Lp, Sp, cu, we2, ce2, co2, sg2, cr2, Pp2, Kp2, Hp2, Lp2, Sp2, sd2, rd2, be2, ov2, qa2, qb2, qd2, lo2, cu2, po, er, nw, k, oa, f, hK, hH, ht, hk, ho, rfl⟩, hHL⟩ := H
  exact (ctX5_put l D (fun _ => x) a b a2 b2 g tt rr we ce co sg cr Pp Kp Hp Lp Sp cu we2 ce2 co2 sg2 cr2 Pp2 Kp2 Hp2 Lp2 Sp2 sd2 rd2 be2 ov2 qa2 qb2 qd2 lo2 cu2 po er m sv tx n h.length 0 nw k oa f hK hH ht i hi hz).imp (fun r w1 ⟨e, q⟩ => ⟨e, LW.pu (x := fun _ => x) q hH.2.1 hHL (KR_c hK) (KR_n hK), kW_pre q⟩)
theorem lc_cascade (l : Launch) (D : KD) {x : Nat} {m : Pg} {n : Nat} {h : Hs} {w : va_W} (H : LW D x m n h w)  : MI l D yX5_cascade wsX5_cascade 5 125 6 90 [.ref x] w (fun r w1 => r = (fal n 16 m 0 0).2.2 ∧ LW D x ((fal n 16 m 0 0).1) n (pu h m n) w1 ∧ wpre w w1) := by
  obtain ⟨a, b, a2, b2, g, tt, rr, sv, tx, ⟨we, ce, co, sg, cr, Pp, Kp, Hp, Lp, Sp, cu, we2, ce2, co2, sg2, cr2, Pp2, Kp2, Hp2, Lp2, Sp2, sd2, rd2, be2, ov2, qa2, qb2, qd2, lo2, cu2, po, er, nw, k, oa, f, hK, hH, ht, hk, ho, rfl⟩, hHL⟩ := H
  exact (ctX5_cascade l D (fun _ => x) a b a2 b2 g tt rr we ce co sg cr Pp Kp Hp Lp Sp cu we2 ce2 co2 sg2 cr2 Pp2 Kp2 Hp2 Lp2 Sp2 sd2 rd2 be2 ov2 qa2 qb2 qd2 lo2 cu2 po er m sv tx n h.length 0 nw k oa f hK hH ht).imp (fun r w1 ⟨e, q⟩ => ⟨e, LW.pu (x := fun _ => x) q hH.2.1 hHL (KR_c hK) (KR_n hK), kW_pre q⟩)
theorem lc_shave (l : Launch) (D : KD) {x : Nat} {m : Pg} {n : Nat} {h : Hs} {w : va_W} (H : LW D x m n h w)  : MI l D yX5_shave wsX5_shave 5 125 6 90 [.ref x] w (fun r w1 => r = (shv n 100 m 0).2 ∧ LW D x ((shv n 100 m 0).1) n (pu h m n) w1 ∧ wpre w w1) := by
  obtain ⟨a, b, a2, b2, g, tt, rr, sv, tx, ⟨we, ce, co, sg, cr, Pp, Kp, Hp, Lp, Sp, cu, we2, ce2, co2, sg2, cr2, Pp2, Kp2, Hp2, Lp2, Sp2, sd2, rd2, be2, ov2, qa2, qb2, qd2, lo2, cu2, po, er, nw, k, oa, f, hK, hH, ht, hk, ho, rfl⟩, hHL⟩ := H
  exact (ctX5_shave l D (fun _ => x) a b a2 b2 g tt rr we ce co sg cr Pp Kp Hp Lp Sp cu we2 ce2 co2 sg2 cr2 Pp2 Kp2 Hp2 Lp2 Sp2 sd2 rd2 be2 ov2 qa2 qb2 qd2 lo2 cu2 po er m sv tx n h.length 0 nw k oa f hK hH ht).imp (fun r w1 ⟨e, q⟩ => ⟨e, LW.pu (x := fun _ => x) q hH.2.1 hHL (KR_c hK) (KR_n hK), kW_pre q⟩)
theorem lc_block (l : Launch) (D : KD) {x : Nat} {m : Pg} {n : Nat} {h : Hs} {w : va_W} (H : LW D x m n h w) (i : Nat) (hi : i < n) (v : Nat) (hv : v < 9) : MI l D yX5_block wsX5_block 2 42 0 0 [.ref x, .int (nI i), .int (nI v)] w (fun r w1 => r = mBl m n i v ∧ LW D x m n h w1 ∧ wpre w w1) := by
  obtain ⟨a, b, a2, b2, g, tt, rr, sv, tx, ⟨we, ce, co, sg, cr, Pp, Kp, Hp, Lp, Sp, cu, we2, ce2, co2, sg2, cr2, Pp2, Kp2, Hp2, Lp2, Sp2, sd2, rd2, be2, ov2, qa2, qb2, qd2, lo2, cu2, po, er, nw, k, oa, f, hK, hH, ht, hk, ho, rfl⟩, hHL⟩ := H
  exact (ctX5_block l D (fun _ => x) a b a2 b2 g tt rr we ce co sg cr Pp Kp Hp Lp Sp cu we2 ce2 co2 sg2 cr2 Pp2 Kp2 Hp2 Lp2 Sp2 sd2 rd2 be2 ov2 qa2 qb2 qd2 lo2 cu2 po er m sv tx n h.length 0 nw k oa f hK hH ht i hi v hv).imp (fun r w1 ⟨e, q⟩ => ⟨e, ⟨a, b, a2, b2, g, tt, rr, sv, tx, kW_0 q, hHL⟩, kW_pre q⟩)
theorem lc_value (l : Launch) (D : KD) {x : Nat} {m : Pg} {n : Nat} {h : Hs} {w : va_W} (H : LW D x m n h w) (v : Nat) (hv : v < 10) : MI l D yX5_value wsX5_value 2 43 0 0 [.ref x, .int (nI v)] w (fun r w1 => r = mVl m n v ∧ LW D x m n h w1 ∧ wpre w w1) := by
  obtain ⟨a, b, a2, b2, g, tt, rr, sv, tx, ⟨we, ce, co, sg, cr, Pp, Kp, Hp, Lp, Sp, cu, we2, ce2, co2, sg2, cr2, Pp2, Kp2, Hp2, Lp2, Sp2, sd2, rd2, be2, ov2, qa2, qb2, qd2, lo2, cu2, po, er, nw, k, oa, f, hK, hH, ht, hk, ho, rfl⟩, hHL⟩ := H
  exact (ctX5_value l D (fun _ => x) a b a2 b2 g tt rr we ce co sg cr Pp Kp Hp Lp Sp cu we2 ce2 co2 sg2 cr2 Pp2 Kp2 Hp2 Lp2 Sp2 sd2 rd2 be2 ov2 qa2 qb2 qd2 lo2 cu2 po er m sv tx n h.length 0 nw k oa f hK hH ht v hv).imp (fun r w1 ⟨e, q⟩ => ⟨e, ⟨a, b, a2, b2, g, tt, rr, sv, tx, kW_0 q, hHL⟩, kW_pre q⟩)
theorem lc_balance (l : Launch) (D : KD) {x : Nat} {m : Pg} {n : Nat} {h : Hs} {w : va_W} (H : LW D x m n h w) (v : Nat) (hv : v < 3) : ML l D yX5_balance wsX5_balance 1 22 0 0 [.ref x, .int (nI v)] w (fun r w1 => r = mBa m n v ∧ LW D x m n h w1 ∧ wpre w w1) := by
  obtain ⟨a, b, a2, b2, g, tt, rr, sv, tx, ⟨we, ce, co, sg, cr, Pp, Kp, Hp, Lp, Sp, cu, we2, ce2, co2, sg2, cr2, Pp2, Kp2, Hp2, Lp2, Sp2, sd2, rd2, be2, ov2, qa2, qb2, qd2, lo2, cu2, po, er, nw, k, oa, f, hK, hH, ht, hk, ho, rfl⟩, hHL⟩ := H
  exact (ctX5_balance l D (fun _ => x) a b a2 b2 g tt rr we ce co sg cr Pp Kp Hp Lp Sp cu we2 ce2 co2 sg2 cr2 Pp2 Kp2 Hp2 Lp2 Sp2 sd2 rd2 be2 ov2 qa2 qb2 qd2 lo2 cu2 po er m sv tx n h.length 0 nw k oa f hK hH ht v hv).imp (fun r w1 ⟨e, q⟩ => ⟨e, ⟨a, b, a2, b2, g, tt, rr, sv, tx, kW_0 q, hHL⟩, kW_pre q⟩)
theorem lc_tilt (l : Launch) (D : KD) {x : Nat} {m : Pg} {n : Nat} {h : Hs} {w : va_W} (H : LW D x m n h w)  : MD l D yX5_tilt wsX5_tilt 0 0 0 0 [.ref x] w (fun r w1 => r = mTi m n ∧ LW D x m n h w1 ∧ wpre w w1) := by
  obtain ⟨a, b, a2, b2, g, tt, rr, sv, tx, ⟨we, ce, co, sg, cr, Pp, Kp, Hp, Lp, Sp, cu, we2, ce2, co2, sg2, cr2, Pp2, Kp2, Hp2, Lp2, Sp2, sd2, rd2, be2, ov2, qa2, qb2, qd2, lo2, cu2, po, er, nw, k, oa, f, hK, hH, ht, hk, ho, rfl⟩, hHL⟩ := H
  exact (ctX5_tilt l D (fun _ => x) a b a2 b2 g tt rr we ce co sg cr Pp Kp Hp Lp Sp cu we2 ce2 co2 sg2 cr2 Pp2 Kp2 Hp2 Lp2 Sp2 sd2 rd2 be2 ov2 qa2 qb2 qd2 lo2 cu2 po er m sv tx n h.length 0 nw k oa f hK hH ht).imp (fun r w1 ⟨e, q⟩ => ⟨e, ⟨a, b, a2, b2, g, tt, rr, sv, tx, kW_0 q, hHL⟩, kW_pre q⟩)
theorem lc_loadWithout (l : Launch) (D : KD) {x : Nat} {m : Pg} {n : Nat} {h : Hs} {w : va_W} (H : LW D x m n h w) (i : Nat) (hi : i < n) (j : Nat) (hj : j < n) : MI l D yX5_loadWithout wsX5_loadWithout 4 104 0 0 [.ref x, .int (nI i), .int (nI j)] w (fun r w1 => r = mLd (mSt m j 1) n i ∧ LW D x m n h w1 ∧ wpre w w1) := by
  obtain ⟨a, b, a2, b2, g, tt, rr, sv, tx, ⟨we, ce, co, sg, cr, Pp, Kp, Hp, Lp, Sp, cu, we2, ce2, co2, sg2, cr2, Pp2, Kp2, Hp2, Lp2, Sp2, sd2, rd2, be2, ov2, qa2, qb2, qd2, lo2, cu2, po, er, nw, k, oa, f, hK, hH, ht, hk, ho, rfl⟩, hHL⟩ := H
  exact (ctX5_loadWithout l D (fun _ => x) a b a2 b2 g tt rr we ce co sg cr Pp Kp Hp Lp Sp cu we2 ce2 co2 sg2 cr2 Pp2 Kp2 Hp2 Lp2 Sp2 sd2 rd2 be2 ov2 qa2 qb2 qd2 lo2 cu2 po er m sv tx n h.length 0 nw k oa f hK hH ht i hi j hj).imp (fun r w1 ⟨e, q⟩ => ⟨e, ⟨a, b, a2, b2, g, tt, rr, sv, tx, kW_0 q, hHL⟩, kW_pre q⟩)
theorem lc_pullable (l : Launch) (D : KD) {x : Nat} {m : Pg} {n : Nat} {h : Hs} {w : va_W} (H : LW D x m n h w)  : MI l D yX5_pullable wsX5_pullable 5 125 0 0 [.ref x] w (fun r w1 => r = pln m n n ∧ LW D x m n h w1 ∧ wpre w w1) := by
  obtain ⟨a, b, a2, b2, g, tt, rr, sv, tx, ⟨we, ce, co, sg, cr, Pp, Kp, Hp, Lp, Sp, cu, we2, ce2, co2, sg2, cr2, Pp2, Kp2, Hp2, Lp2, Sp2, sd2, rd2, be2, ov2, qa2, qb2, qd2, lo2, cu2, po, er, nw, k, oa, f, hK, hH, ht, hk, ho, rfl⟩, hHL⟩ := H
  exact (ctX5_pullable l D (fun _ => x) a b a2 b2 g tt rr we ce co sg cr Pp Kp Hp Lp Sp cu we2 ce2 co2 sg2 cr2 Pp2 Kp2 Hp2 Lp2 Sp2 sd2 rd2 be2 ov2 qa2 qb2 qd2 lo2 cu2 po er m sv tx n h.length 0 nw k oa f hK hH ht).imp (fun r w1 ⟨e, q⟩ => ⟨e, ⟨a, b, a2, b2, g, tt, rr, sv, tx, kW_0 q, hHL⟩, kW_pre q⟩)
theorem lc_cascadeSteps (l : Launch) (D : KD) {x : Nat} {m : Pg} {n : Nat} {h : Hs} {w : va_W} (H : LW D x m n h w)  : MI l D yX5_cascadeSteps wsX5_cascadeSteps 5 125 0 0 [.ref x] w (fun r w1 => r = (fal n 16 m 0 0).2.1 ∧ LW D x m n h w1 ∧ wpre w w1) := by
  obtain ⟨a, b, a2, b2, g, tt, rr, sv, tx, ⟨we, ce, co, sg, cr, Pp, Kp, Hp, Lp, Sp, cu, we2, ce2, co2, sg2, cr2, Pp2, Kp2, Hp2, Lp2, Sp2, sd2, rd2, be2, ov2, qa2, qb2, qd2, lo2, cu2, po, er, nw, k, oa, f, hK, hH, ht, hk, ho, rfl⟩, hHL⟩ := H
  exact (ctX5_cascadeSteps l D (fun _ => x) a b a2 b2 g tt rr we ce co sg cr Pp Kp Hp Lp Sp cu we2 ce2 co2 sg2 cr2 Pp2 Kp2 Hp2 Lp2 Sp2 sd2 rd2 be2 ov2 qa2 qb2 qd2 lo2 cu2 po er m sv tx n h.length 0 nw k oa f hK hH ht).imp (fun r w1 ⟨e, q⟩ => ⟨e, ⟨a, b, a2, b2, g, tt, rr, sv, tx, kW_0 q, hHL⟩, kW_pre q⟩)
theorem lc_survives (l : Launch) (D : KD) {x : Nat} {m : Pg} {n : Nat} {h : Hs} {w : va_W} (H : LW D x m n h w)  : MI l D yX5_survives wsX5_survives 5 125 0 0 [.ref x] w (fun r w1 => r = bI (mR (fal n 16 m 0 0).1 n).1 ∧ LW D x m n h w1 ∧ wpre w w1) := by
  obtain ⟨a, b, a2, b2, g, tt, rr, sv, tx, ⟨we, ce, co, sg, cr, Pp, Kp, Hp, Lp, Sp, cu, we2, ce2, co2, sg2, cr2, Pp2, Kp2, Hp2, Lp2, Sp2, sd2, rd2, be2, ov2, qa2, qb2, qd2, lo2, cu2, po, er, nw, k, oa, f, hK, hH, ht, hk, ho, rfl⟩, hHL⟩ := H
  exact (ctX5_survives l D (fun _ => x) a b a2 b2 g tt rr we ce co sg cr Pp Kp Hp Lp Sp cu we2 ce2 co2 sg2 cr2 Pp2 Kp2 Hp2 Lp2 Sp2 sd2 rd2 be2 ov2 qa2 qb2 qd2 lo2 cu2 po er m sv tx n h.length 0 nw k oa f hK hH ht).imp (fun r w1 ⟨e, q⟩ => ⟨e, ⟨a, b, a2, b2, g, tt, rr, sv, tx, kW_0 q, hHL⟩, kW_pre q⟩)
theorem lc_shavingSteps (l : Launch) (D : KD) {x : Nat} {m : Pg} {n : Nat} {h : Hs} {w : va_W} (H : LW D x m n h w)  : MI l D yX5_shavingSteps wsX5_shavingSteps 5 125 0 0 [.ref x] w (fun r w1 => r = mSs m n ∧ LW D x m n h w1 ∧ wpre w w1) := by
  obtain ⟨a, b, a2, b2, g, tt, rr, sv, tx, ⟨we, ce, co, sg, cr, Pp, Kp, Hp, Lp, Sp, cu, we2, ce2, co2, sg2, cr2, Pp2, Kp2, Hp2, Lp2, Sp2, sd2, rd2, be2, ov2, qa2, qb2, qd2, lo2, cu2, po, er, nw, k, oa, f, hK, hH, ht, hk, ho, rfl⟩, hHL⟩ := H
  exact (ctX5_shavingSteps l D (fun _ => x) a b a2 b2 g tt rr we ce co sg cr Pp Kp Hp Lp Sp cu we2 ce2 co2 sg2 cr2 Pp2 Kp2 Hp2 Lp2 Sp2 sd2 rd2 be2 ov2 qa2 qb2 qd2 lo2 cu2 po er m sv tx n h.length 0 nw k oa f hK hH ht).imp (fun r w1 ⟨e, q⟩ => ⟨e, ⟨a, b, a2, b2, g, tt, rr, sv, tx, kW_0 q, hHL⟩, kW_pre q⟩)
theorem lc_greatestWeight (l : Launch) (D : KD) {x : Nat} {m : Pg} {n : Nat} {h : Hs} {w : va_W} (H : LW D x m n h w)  : MI l D yX5_greatestWeight wsX5_greatestWeight 4 104 0 0 [.ref x] w (fun r w1 => r = gwI m n 100 ∧ LW D x m n h w1 ∧ wpre w w1) := by
  obtain ⟨a, b, a2, b2, g, tt, rr, sv, tx, ⟨we, ce, co, sg, cr, Pp, Kp, Hp, Lp, Sp, cu, we2, ce2, co2, sg2, cr2, Pp2, Kp2, Hp2, Lp2, Sp2, sd2, rd2, be2, ov2, qa2, qb2, qd2, lo2, cu2, po, er, nw, k, oa, f, hK, hH, ht, hk, ho, rfl⟩, hHL⟩ := H
  exact (ctX5_greatestWeight l D (fun _ => x) a b a2 b2 g tt rr we ce co sg cr Pp Kp Hp Lp Sp cu we2 ce2 co2 sg2 cr2 Pp2 Kp2 Hp2 Lp2 Sp2 sd2 rd2 be2 ov2 qa2 qb2 qd2 lo2 cu2 po er m sv tx n h.length 0 nw k oa f hK hH ht).imp (fun r w1 ⟨e, q⟩ => ⟨e, ⟨a, b, a2, b2, g, tt, rr, sv, tx, kW_0 q, hHL⟩, kW_pre q⟩)
theorem lc_bestCenter (l : Launch) (D : KD) {x : Nat} {m : Pg} {n : Nat} {h : Hs} {w : va_W} (H : LW D x m n h w)  : MI l D yX5_bestCenter wsX5_bestCenter 4 104 0 0 [.ref x] w (fun r w1 => r = (bcI m n 81).1 ∧ LW D x m n h w1 ∧ wpre w w1) := by
  obtain ⟨a, b, a2, b2, g, tt, rr, sv, tx, ⟨we, ce, co, sg, cr, Pp, Kp, Hp, Lp, Sp, cu, we2, ce2, co2, sg2, cr2, Pp2, Kp2, Hp2, Lp2, Sp2, sd2, rd2, be2, ov2, qa2, qb2, qd2, lo2, cu2, po, er, nw, k, oa, f, hK, hH, ht, hk, ho, rfl⟩, hHL⟩ := H
  exact (ctX5_bestCenter l D (fun _ => x) a b a2 b2 g tt rr we ce co sg cr Pp Kp Hp Lp Sp cu we2 ce2 co2 sg2 cr2 Pp2 Kp2 Hp2 Lp2 Sp2 sd2 rd2 be2 ov2 qa2 qb2 qd2 lo2 cu2 po er m sv tx n h.length 0 nw k oa f hK hH ht).imp (fun r w1 ⟨e, q⟩ => ⟨e, ⟨a, b, a2, b2, g, tt, rr, sv, tx, kW_0 q, hHL⟩, kW_pre q⟩)
theorem lc_bestPlaceF (l : Launch) (D : KD) {x : Nat} {m : Pg} {n : Nat} {h : Hs} {w : va_W} (H : LW D x m n h w) (hn16 : ¬ n < 16) (s0 : Int32) (hy : pIn s0 1 100 = true) : MI l D yX5_bestPlace wsX5_bestPlace 1 22 0 0 [.ref x, .int s0] w (fun r w1 => r = -1 ∧ LW D x m n h w1 ∧ wpre w w1) := by
  obtain ⟨a, b, a2, b2, g, tt, rr, sv, tx, ⟨we, ce, co, sg, cr, Pp, Kp, Hp, Lp, Sp, cu, we2, ce2, co2, sg2, cr2, Pp2, Kp2, Hp2, Lp2, Sp2, sd2, rd2, be2, ov2, qa2, qb2, qd2, lo2, cu2, po, er, nw, k, oa, f, hK, hH, ht, hk, ho, rfl⟩, hHL⟩ := H
  exact (ctX5_bestPlaceF l D (fun _ => x) a b a2 b2 g tt rr we ce co sg cr Pp Kp Hp Lp Sp cu we2 ce2 co2 sg2 cr2 Pp2 Kp2 Hp2 Lp2 Sp2 sd2 rd2 be2 ov2 qa2 qb2 qd2 lo2 cu2 po er m sv tx n h.length 0 nw k oa f hK hH ht hn16 s0 hy).imp (fun r w1 ⟨e, q⟩ => ⟨e, ⟨a, b, a2, b2, g, tt, rr, sv, tx, kW_0 q, hHL⟩, kW_pre q⟩)
theorem lc_bestPlace (l : Launch) (D : KD) {x : Nat} {m : Pg} {n : Nat} {h : Hs} {w : va_W} (H : LW D x m n h w) (hn16 : n < 16) (s0 : Int32) (hy : pIn s0 1 100 = true) : MI l D yX5_bestPlace wsX5_bestPlace 4 104 0 0 [.ref x, .int s0] w (fun r w1 => r = (bpI m n s0 41).1 ∧ LW D x m n h w1 ∧ wpre w w1) := by
  obtain ⟨a, b, a2, b2, g, tt, rr, sv, tx, ⟨we, ce, co, sg, cr, Pp, Kp, Hp, Lp, Sp, cu, we2, ce2, co2, sg2, cr2, Pp2, Kp2, Hp2, Lp2, Sp2, sd2, rd2, be2, ov2, qa2, qb2, qd2, lo2, cu2, po, er, nw, k, oa, f, hK, hH, ht, hk, ho, rfl⟩, hHL⟩ := H
  exact (ctX5_bestPlace l D (fun _ => x) a b a2 b2 g tt rr we ce co sg cr Pp Kp Hp Lp Sp cu we2 ce2 co2 sg2 cr2 Pp2 Kp2 Hp2 Lp2 Sp2 sd2 rd2 be2 ov2 qa2 qb2 qd2 lo2 cu2 po er m sv tx n h.length 0 nw k oa f hK hH ht hn16 s0 hy).imp (fun r w1 ⟨e, q⟩ => ⟨e, ⟨a, b, a2, b2, g, tt, rr, sv, tx, kW_0 q, hHL⟩, kW_pre q⟩)
theorem lc_digest (l : Launch) (D : KD) {x : Nat} {m : Pg} {n : Nat} {h : Hs} {w : va_W} (H : LW D x m n h w)  : ML l D yX5_digest wsX5_digest 3 64 0 0 [.ref x] w (fun r w1 => r = mDg m n (nI 0) (nI h.length) ∧ LW D x m n h w1 ∧ wpre w w1) := by
  obtain ⟨a, b, a2, b2, g, tt, rr, sv, tx, ⟨we, ce, co, sg, cr, Pp, Kp, Hp, Lp, Sp, cu, we2, ce2, co2, sg2, cr2, Pp2, Kp2, Hp2, Lp2, Sp2, sd2, rd2, be2, ov2, qa2, qb2, qd2, lo2, cu2, po, er, nw, k, oa, f, hK, hH, ht, hk, ho, rfl⟩, hHL⟩ := H
  exact (ctX5_digest l D (fun _ => x) a b a2 b2 g tt rr we ce co sg cr Pp Kp Hp Lp Sp cu we2 ce2 co2 sg2 cr2 Pp2 Kp2 Hp2 Lp2 Sp2 sd2 rd2 be2 ov2 qa2 qb2 qd2 lo2 cu2 po er m sv tx n h.length 0 nw k oa f hK hH ht).imp (fun r w1 ⟨e, q⟩ => ⟨e, ⟨a, b, a2, b2, g, tt, rr, sv, tx, kW_0 q, hHL⟩, kW_pre q⟩)
theorem lc_setCapX (l : Launch) (hst : l.stackTraces = false) (D : KD) {x : Nat} {m : Pg} {n : Nat} {h : Hs} {w : va_W} (H : LW D x m n h w) (v : Int32) (hx : pIn v 0 (m 2 - 1) = false) (y : Int32) : MX l D yX5_setCap wsX5_setCap 6 82 1 6 [.ref x, .int v, .int y] w xIO (fun w1 => LW D x m n h w1 ∧ wpre w w1) := by
  obtain ⟨a, b, a2, b2, g, tt, rr, sv, tx, ⟨we, ce, co, sg, cr, Pp, Kp, Hp, Lp, Sp, cu, we2, ce2, co2, sg2, cr2, Pp2, Kp2, Hp2, Lp2, Sp2, sd2, rd2, be2, ov2, qa2, qb2, qd2, lo2, cu2, po, er, nw, k, oa, f, hK, hH, ht, hk, ho, rfl⟩, hHL⟩ := H
  exact (ctX5_setCapX l hst D (fun _ => x) a b a2 b2 g tt rr we ce co sg cr Pp Kp Hp Lp Sp cu we2 ce2 co2 sg2 cr2 Pp2 Kp2 Hp2 Lp2 Sp2 sd2 rd2 be2 ov2 qa2 qb2 qd2 lo2 cu2 po er m sv tx n h.length 0 nw k oa f hK hH ht v hx y).imp (fun w1 q => ⟨⟨a, b, a2, b2, g, tt, rr, sv, tx, kW_0 q, hHL⟩, kW_pre q⟩)
theorem lc_setLimitX (l : Launch) (hst : l.stackTraces = false) (D : KD) {x : Nat} {m : Pg} {n : Nat} {h : Hs} {w : va_W} (H : LW D x m n h w) (v : Int32) (hx : pIn v 0 (m 2 - 1) = false) (y : Int32) : MX l D yX5_setLimit wsX5_setLimit 6 82 1 6 [.ref x, .int v, .int y] w xIO (fun w1 => LW D x m n h w1 ∧ wpre w w1) := by
  obtain ⟨a, b, a2, b2, g, tt, rr, sv, tx, ⟨we, ce, co, sg, cr, Pp, Kp, Hp, Lp, Sp, cu, we2, ce2, co2, sg2, cr2, Pp2, Kp2, Hp2, Lp2, Sp2, sd2, rd2, be2, ov2, qa2, qb2, qd2, lo2, cu2, po, er, nw, k, oa, f, hK, hH, ht, hk, ho, rfl⟩, hHL⟩ := H
  exact (ctX5_setLimitX l hst D (fun _ => x) a b a2 b2 g tt rr we ce co sg cr Pp Kp Hp Lp Sp cu we2 ce2 co2 sg2 cr2 Pp2 Kp2 Hp2 Lp2 Sp2 sd2 rd2 be2 ov2 qa2 qb2 qd2 lo2 cu2 po er m sv tx n h.length 0 nw k oa f hK hH ht v hx y).imp (fun w1 q => ⟨⟨a, b, a2, b2, g, tt, rr, sv, tx, kW_0 q, hHL⟩, kW_pre q⟩)
theorem lc_pullX (l : Launch) (hst : l.stackTraces = false) (D : KD) {x : Nat} {m : Pg} {n : Nat} {h : Hs} {w : va_W} (H : LW D x m n h w) (v : Int32) (hx : pIn v 0 (m 2 - 1) = false) : MX l D yX5_pull wsX5_pull 6 82 1 6 [.ref x, .int v] w xIO (fun w1 => LW D x m n h w1 ∧ wpre w w1) := by
  obtain ⟨a, b, a2, b2, g, tt, rr, sv, tx, ⟨we, ce, co, sg, cr, Pp, Kp, Hp, Lp, Sp, cu, we2, ce2, co2, sg2, cr2, Pp2, Kp2, Hp2, Lp2, Sp2, sd2, rd2, be2, ov2, qa2, qb2, qd2, lo2, cu2, po, er, nw, k, oa, f, hK, hH, ht, hk, ho, rfl⟩, hHL⟩ := H
  exact (ctX5_pullX l hst D (fun _ => x) a b a2 b2 g tt rr we ce co sg cr Pp Kp Hp Lp Sp cu we2 ce2 co2 sg2 cr2 Pp2 Kp2 Hp2 Lp2 Sp2 sd2 rd2 be2 ov2 qa2 qb2 qd2 lo2 cu2 po er m sv tx n h.length 0 nw k oa f hK hH ht v hx).imp (fun w1 q => ⟨⟨a, b, a2, b2, g, tt, rr, sv, tx, kW_0 q, hHL⟩, kW_pre q⟩)
theorem lc_putX (l : Launch) (hst : l.stackTraces = false) (D : KD) {x : Nat} {m : Pg} {n : Nat} {h : Hs} {w : va_W} (H : LW D x m n h w) (v : Int32) (hx : pIn v 0 (m 2 - 1) = false) : MX l D yX5_put wsX5_put 6 82 1 6 [.ref x, .int v] w xIO (fun w1 => LW D x m n h w1 ∧ wpre w w1) := by
  obtain ⟨a, b, a2, b2, g, tt, rr, sv, tx, ⟨we, ce, co, sg, cr, Pp, Kp, Hp, Lp, Sp, cu, we2, ce2, co2, sg2, cr2, Pp2, Kp2, Hp2, Lp2, Sp2, sd2, rd2, be2, ov2, qa2, qb2, qd2, lo2, cu2, po, er, nw, k, oa, f, hK, hH, ht, hk, ho, rfl⟩, hHL⟩ := H
  exact (ctX5_putX l hst D (fun _ => x) a b a2 b2 g tt rr we ce co sg cr Pp Kp Hp Lp Sp cu we2 ce2 co2 sg2 cr2 Pp2 Kp2 Hp2 Lp2 Sp2 sd2 rd2 be2 ov2 qa2 qb2 qd2 lo2 cu2 po er m sv tx n h.length 0 nw k oa f hK hH ht v hx).imp (fun w1 q => ⟨⟨a, b, a2, b2, g, tt, rr, sv, tx, kW_0 q, hHL⟩, kW_pre q⟩)
theorem lc_blockX (l : Launch) (hst : l.stackTraces = false) (D : KD) {x : Nat} {m : Pg} {n : Nat} {h : Hs} {w : va_W} (H : LW D x m n h w) (v : Int32) (hx : pIn v 0 (m 2 - 1) = false) (y : Int32) : MX l D yX5_block wsX5_block 6 82 1 6 [.ref x, .int v, .int y] w xIO (fun w1 => LW D x m n h w1 ∧ wpre w w1) := by
  obtain ⟨a, b, a2, b2, g, tt, rr, sv, tx, ⟨we, ce, co, sg, cr, Pp, Kp, Hp, Lp, Sp, cu, we2, ce2, co2, sg2, cr2, Pp2, Kp2, Hp2, Lp2, Sp2, sd2, rd2, be2, ov2, qa2, qb2, qd2, lo2, cu2, po, er, nw, k, oa, f, hK, hH, ht, hk, ho, rfl⟩, hHL⟩ := H
  exact (ctX5_blockX l hst D (fun _ => x) a b a2 b2 g tt rr we ce co sg cr Pp Kp Hp Lp Sp cu we2 ce2 co2 sg2 cr2 Pp2 Kp2 Hp2 Lp2 Sp2 sd2 rd2 be2 ov2 qa2 qb2 qd2 lo2 cu2 po er m sv tx n h.length 0 nw k oa f hK hH ht v hx y).imp (fun w1 q => ⟨⟨a, b, a2, b2, g, tt, rr, sv, tx, kW_0 q, hHL⟩, kW_pre q⟩)
theorem lc_loadWithoutX (l : Launch) (hst : l.stackTraces = false) (D : KD) {x : Nat} {m : Pg} {n : Nat} {h : Hs} {w : va_W} (H : LW D x m n h w) (v : Int32) (hx : pIn v 0 (m 2 - 1) = false) (y : Int32) : MX l D yX5_loadWithout wsX5_loadWithout 6 82 1 6 [.ref x, .int v, .int y] w xIO (fun w1 => LW D x m n h w1 ∧ wpre w w1) := by
  obtain ⟨a, b, a2, b2, g, tt, rr, sv, tx, ⟨we, ce, co, sg, cr, Pp, Kp, Hp, Lp, Sp, cu, we2, ce2, co2, sg2, cr2, Pp2, Kp2, Hp2, Lp2, Sp2, sd2, rd2, be2, ov2, qa2, qb2, qd2, lo2, cu2, po, er, nw, k, oa, f, hK, hH, ht, hk, ho, rfl⟩, hHL⟩ := H
  exact (ctX5_loadWithoutX l hst D (fun _ => x) a b a2 b2 g tt rr we ce co sg cr Pp Kp Hp Lp Sp cu we2 ce2 co2 sg2 cr2 Pp2 Kp2 Hp2 Lp2 Sp2 sd2 rd2 be2 ov2 qa2 qb2 qd2 lo2 cu2 po er m sv tx n h.length 0 nw k oa f hK hH ht v hx y).imp (fun w1 q => ⟨⟨a, b, a2, b2, g, tt, rr, sv, tx, kW_0 q, hHL⟩, kW_pre q⟩)
theorem lc_loadWithoutY (l : Launch) (hst : l.stackTraces = false) (D : KD) {x : Nat} {m : Pg} {n : Nat} {h : Hs} {w : va_W} (H : LW D x m n h w) (i : Nat) (hi : i < n) (v : Int32) (hx : pIn v 0 (m 2 - 1) = false) : MX l D yX5_loadWithout wsX5_loadWithout 6 82 1 6 [.ref x, .int (nI i), .int v] w xIO (fun w1 => LW D x m n h w1 ∧ wpre w w1) := by
  obtain ⟨a, b, a2, b2, g, tt, rr, sv, tx, ⟨we, ce, co, sg, cr, Pp, Kp, Hp, Lp, Sp, cu, we2, ce2, co2, sg2, cr2, Pp2, Kp2, Hp2, Lp2, Sp2, sd2, rd2, be2, ov2, qa2, qb2, qd2, lo2, cu2, po, er, nw, k, oa, f, hK, hH, ht, hk, ho, rfl⟩, hHL⟩ := H
  exact (ctX5_loadWithoutY l hst D (fun _ => x) a b a2 b2 g tt rr we ce co sg cr Pp Kp Hp Lp Sp cu we2 ce2 co2 sg2 cr2 Pp2 Kp2 Hp2 Lp2 Sp2 sd2 rd2 be2 ov2 qa2 qb2 qd2 lo2 cu2 po er m sv tx n h.length 0 nw k oa f hK hH ht i hi v hx).imp (fun w1 q => ⟨⟨a, b, a2, b2, g, tt, rr, sv, tx, kW_0 q, hHL⟩, kW_pre q⟩)
theorem lc_setCapY (l : Launch) (hst : l.stackTraces = false) (D : KD) {x : Nat} {m : Pg} {n : Nat} {h : Hs} {w : va_W} (H : LW D x m n h w) (i : Nat) (hi : i < n) (y : Int32) (hy : pIn y (-50) 50 = false) : MX l D yX5_setCap wsX5_setCap 6 82 1 6 [.ref x, .int (nI i), .int y] w xIA (fun w1 => LW D x m n h w1 ∧ wpre w w1) := by
  obtain ⟨a, b, a2, b2, g, tt, rr, sv, tx, ⟨we, ce, co, sg, cr, Pp, Kp, Hp, Lp, Sp, cu, we2, ce2, co2, sg2, cr2, Pp2, Kp2, Hp2, Lp2, Sp2, sd2, rd2, be2, ov2, qa2, qb2, qd2, lo2, cu2, po, er, nw, k, oa, f, hK, hH, ht, hk, ho, rfl⟩, hHL⟩ := H
  exact (ctX5_setCapY l hst D (fun _ => x) a b a2 b2 g tt rr we ce co sg cr Pp Kp Hp Lp Sp cu we2 ce2 co2 sg2 cr2 Pp2 Kp2 Hp2 Lp2 Sp2 sd2 rd2 be2 ov2 qa2 qb2 qd2 lo2 cu2 po er m sv tx n h.length 0 nw k oa f hK hH ht i hi y hy).imp (fun w1 q => ⟨⟨a, b, a2, b2, g, tt, rr, sv, tx, kW_0 q, hHL⟩, kW_pre q⟩)
theorem lc_setLimitY (l : Launch) (hst : l.stackTraces = false) (D : KD) {x : Nat} {m : Pg} {n : Nat} {h : Hs} {w : va_W} (H : LW D x m n h w) (i : Nat) (hi : i < n) (y : Int32) (hy : pIn y 1 99999 = false) : MX l D yX5_setLimit wsX5_setLimit 6 82 1 6 [.ref x, .int (nI i), .int y] w xIA (fun w1 => LW D x m n h w1 ∧ wpre w w1) := by
  obtain ⟨a, b, a2, b2, g, tt, rr, sv, tx, ⟨we, ce, co, sg, cr, Pp, Kp, Hp, Lp, Sp, cu, we2, ce2, co2, sg2, cr2, Pp2, Kp2, Hp2, Lp2, Sp2, sd2, rd2, be2, ov2, qa2, qb2, qd2, lo2, cu2, po, er, nw, k, oa, f, hK, hH, ht, hk, ho, rfl⟩, hHL⟩ := H
  exact (ctX5_setLimitY l hst D (fun _ => x) a b a2 b2 g tt rr we ce co sg cr Pp Kp Hp Lp Sp cu we2 ce2 co2 sg2 cr2 Pp2 Kp2 Hp2 Lp2 Sp2 sd2 rd2 be2 ov2 qa2 qb2 qd2 lo2 cu2 po er m sv tx n h.length 0 nw k oa f hK hH ht i hi y hy).imp (fun w1 q => ⟨⟨a, b, a2, b2, g, tt, rr, sv, tx, kW_0 q, hHL⟩, kW_pre q⟩)
theorem lc_setShipX (l : Launch) (hst : l.stackTraces = false) (D : KD) {x : Nat} {m : Pg} {n : Nat} {h : Hs} {w : va_W} (H : LW D x m n h w) (w0 c0 : Int32) (hy : (pIn w0 1 100000 && pIn c0 0 400) = false) : MX l D yX5_setShip wsX5_setShip 6 82 1 6 [.ref x, .int w0, .int c0] w xIA (fun w1 => LW D x m n h w1 ∧ wpre w w1) := by
  obtain ⟨a, b, a2, b2, g, tt, rr, sv, tx, ⟨we, ce, co, sg, cr, Pp, Kp, Hp, Lp, Sp, cu, we2, ce2, co2, sg2, cr2, Pp2, Kp2, Hp2, Lp2, Sp2, sd2, rd2, be2, ov2, qa2, qb2, qd2, lo2, cu2, po, er, nw, k, oa, f, hK, hH, ht, hk, ho, rfl⟩, hHL⟩ := H
  exact (ctX5_setShipX l hst D (fun _ => x) a b a2 b2 g tt rr we ce co sg cr Pp Kp Hp Lp Sp cu we2 ce2 co2 sg2 cr2 Pp2 Kp2 Hp2 Lp2 Sp2 sd2 rd2 be2 ov2 qa2 qb2 qd2 lo2 cu2 po er m sv tx n h.length 0 nw k oa f hK hH ht w0 c0 hy).imp (fun w1 q => ⟨⟨a, b, a2, b2, g, tt, rr, sv, tx, kW_0 q, hHL⟩, kW_pre q⟩)
theorem lc_addBlockX (l : Launch) (hst : l.stackTraces = false) (D : KD) {x : Nat} {m : Pg} {n : Nat} {h : Hs} {w : va_W} (H : LW D x m n h w) (p0 s0 c0 l0 : Int32) (hy : (pIn p0 0 400 && (pIn s0 1 100 && (pIn c0 (-50) 50 && pIn l0 1 99999))) = false) : MX l D yX5_addBlock wsX5_addBlock 6 82 1 6 [.ref x, .int p0, .int s0, .int c0, .int l0] w xIA (fun w1 => LW D x m n h w1 ∧ wpre w w1) := by
  obtain ⟨a, b, a2, b2, g, tt, rr, sv, tx, ⟨we, ce, co, sg, cr, Pp, Kp, Hp, Lp, Sp, cu, we2, ce2, co2, sg2, cr2, Pp2, Kp2, Hp2, Lp2, Sp2, sd2, rd2, be2, ov2, qa2, qb2, qd2, lo2, cu2, po, er, nw, k, oa, f, hK, hH, ht, hk, ho, rfl⟩, hHL⟩ := H
  exact (ctX5_addBlockX l hst D (fun _ => x) a b a2 b2 g tt rr we ce co sg cr Pp Kp Hp Lp Sp cu we2 ce2 co2 sg2 cr2 Pp2 Kp2 Hp2 Lp2 Sp2 sd2 rd2 be2 ov2 qa2 qb2 qd2 lo2 cu2 po er m sv tx n h.length 0 nw k oa f hK hH ht p0 s0 c0 l0 hy).imp (fun w1 q => ⟨⟨a, b, a2, b2, g, tt, rr, sv, tx, kW_0 q, hHL⟩, kW_pre q⟩)
theorem lc_blockY (l : Launch) (hst : l.stackTraces = false) (D : KD) {x : Nat} {m : Pg} {n : Nat} {h : Hs} {w : va_W} (H : LW D x m n h w) (i : Nat) (hi : i < n) (y : Int32) (hy : pIn y 0 8 = false) : MX l D yX5_block wsX5_block 6 82 1 6 [.ref x, .int (nI i), .int y] w xIA (fun w1 => LW D x m n h w1 ∧ wpre w w1) := by
  obtain ⟨a, b, a2, b2, g, tt, rr, sv, tx, ⟨we, ce, co, sg, cr, Pp, Kp, Hp, Lp, Sp, cu, we2, ce2, co2, sg2, cr2, Pp2, Kp2, Hp2, Lp2, Sp2, sd2, rd2, be2, ov2, qa2, qb2, qd2, lo2, cu2, po, er, nw, k, oa, f, hK, hH, ht, hk, ho, rfl⟩, hHL⟩ := H
  exact (ctX5_blockY l hst D (fun _ => x) a b a2 b2 g tt rr we ce co sg cr Pp Kp Hp Lp Sp cu we2 ce2 co2 sg2 cr2 Pp2 Kp2 Hp2 Lp2 Sp2 sd2 rd2 be2 ov2 qa2 qb2 qd2 lo2 cu2 po er m sv tx n h.length 0 nw k oa f hK hH ht i hi y hy).imp (fun w1 q => ⟨⟨a, b, a2, b2, g, tt, rr, sv, tx, kW_0 q, hHL⟩, kW_pre q⟩)
theorem lc_valueX (l : Launch) (hst : l.stackTraces = false) (D : KD) {x : Nat} {m : Pg} {n : Nat} {h : Hs} {w : va_W} (H : LW D x m n h w) (y : Int32) (hy : pIn y 0 9 = false) : MX l D yX5_value wsX5_value 6 82 1 6 [.ref x, .int y] w xIA (fun w1 => LW D x m n h w1 ∧ wpre w w1) := by
  obtain ⟨a, b, a2, b2, g, tt, rr, sv, tx, ⟨we, ce, co, sg, cr, Pp, Kp, Hp, Lp, Sp, cu, we2, ce2, co2, sg2, cr2, Pp2, Kp2, Hp2, Lp2, Sp2, sd2, rd2, be2, ov2, qa2, qb2, qd2, lo2, cu2, po, er, nw, k, oa, f, hK, hH, ht, hk, ho, rfl⟩, hHL⟩ := H
  exact (ctX5_valueX l hst D (fun _ => x) a b a2 b2 g tt rr we ce co sg cr Pp Kp Hp Lp Sp cu we2 ce2 co2 sg2 cr2 Pp2 Kp2 Hp2 Lp2 Sp2 sd2 rd2 be2 ov2 qa2 qb2 qd2 lo2 cu2 po er m sv tx n h.length 0 nw k oa f hK hH ht y hy).imp (fun w1 q => ⟨⟨a, b, a2, b2, g, tt, rr, sv, tx, kW_0 q, hHL⟩, kW_pre q⟩)
theorem lc_balanceX (l : Launch) (hst : l.stackTraces = false) (D : KD) {x : Nat} {m : Pg} {n : Nat} {h : Hs} {w : va_W} (H : LW D x m n h w) (y : Int32) (hy : pIn y 0 2 = false) : MX l D yX5_balance wsX5_balance 6 82 1 6 [.ref x, .int y] w xIA (fun w1 => LW D x m n h w1 ∧ wpre w w1) := by
  obtain ⟨a, b, a2, b2, g, tt, rr, sv, tx, ⟨we, ce, co, sg, cr, Pp, Kp, Hp, Lp, Sp, cu, we2, ce2, co2, sg2, cr2, Pp2, Kp2, Hp2, Lp2, Sp2, sd2, rd2, be2, ov2, qa2, qb2, qd2, lo2, cu2, po, er, nw, k, oa, f, hK, hH, ht, hk, ho, rfl⟩, hHL⟩ := H
  exact (ctX5_balanceX l hst D (fun _ => x) a b a2 b2 g tt rr we ce co sg cr Pp Kp Hp Lp Sp cu we2 ce2 co2 sg2 cr2 Pp2 Kp2 Hp2 Lp2 Sp2 sd2 rd2 be2 ov2 qa2 qb2 qd2 lo2 cu2 po er m sv tx n h.length 0 nw k oa f hK hH ht y hy).imp (fun w1 q => ⟨⟨a, b, a2, b2, g, tt, rr, sv, tx, kW_0 q, hHL⟩, kW_pre q⟩)
theorem lc_bestPlaceX (l : Launch) (hst : l.stackTraces = false) (D : KD) {x : Nat} {m : Pg} {n : Nat} {h : Hs} {w : va_W} (H : LW D x m n h w) (s0 : Int32) (hy : pIn s0 1 100 = false) : MX l D yX5_bestPlace wsX5_bestPlace 6 82 1 6 [.ref x, .int s0] w xIA (fun w1 => LW D x m n h w1 ∧ wpre w w1) := by
  obtain ⟨a, b, a2, b2, g, tt, rr, sv, tx, ⟨we, ce, co, sg, cr, Pp, Kp, Hp, Lp, Sp, cu, we2, ce2, co2, sg2, cr2, Pp2, Kp2, Hp2, Lp2, Sp2, sd2, rd2, be2, ov2, qa2, qb2, qd2, lo2, cu2, po, er, nw, k, oa, f, hK, hH, ht, hk, ho, rfl⟩, hHL⟩ := H
  exact (ctX5_bestPlaceX l hst D (fun _ => x) a b a2 b2 g tt rr we ce co sg cr Pp Kp Hp Lp Sp cu we2 ce2 co2 sg2 cr2 Pp2 Kp2 Hp2 Lp2 Sp2 sd2 rd2 be2 ov2 qa2 qb2 qd2 lo2 cu2 po er m sv tx n h.length 0 nw k oa f hK hH ht s0 hy).imp (fun w1 q => ⟨⟨a, b, a2, b2, g, tt, rr, sv, tx, kW_0 q, hHL⟩, kW_pre q⟩)
theorem lc_appendX (l : Launch) (hst : l.stackTraces = false) (D : KD) {x : Nat} {m : Pg} {n : Nat} {h : Hs} {w : va_W} (H : LW D x m n h w) (v : Int32) (hy : pIn v 0 127 = false) : MX l D yX5_append wsX5_append 6 82 1 6 [.ref x, .int v] w xIA (fun w1 => LW D x m n h w1 ∧ wpre w w1) := by
  obtain ⟨a, b, a2, b2, g, tt, rr, sv, tx, ⟨we, ce, co, sg, cr, Pp, Kp, Hp, Lp, Sp, cu, we2, ce2, co2, sg2, cr2, Pp2, Kp2, Hp2, Lp2, Sp2, sd2, rd2, be2, ov2, qa2, qb2, qd2, lo2, cu2, po, er, nw, k, oa, f, hK, hH, ht, hk, ho, rfl⟩, hHL⟩ := H
  exact (ctX5_appendX l hst D (fun _ => x) a b a2 b2 g tt rr we ce co sg cr Pp Kp Hp Lp Sp cu we2 ce2 co2 sg2 cr2 Pp2 Kp2 Hp2 Lp2 Sp2 sd2 rd2 be2 ov2 qa2 qb2 qd2 lo2 cu2 po er m sv tx n h.length 0 nw k oa f hK hH ht v hy).imp (fun w1 q => ⟨⟨a, b, a2, b2, g, tt, rr, sv, tx, kW_0 q, hHL⟩, kW_pre q⟩)
theorem lc_addBlockF (l : Launch) (hst : l.stackTraces = false) (D : KD) {x : Nat} {m : Pg} {n : Nat} {h : Hs} {w : va_W} (H : LW D x m n h w) (p0 s0 c0 l0 : Int32) (hy : (pIn p0 0 400 && (pIn s0 1 100 && (pIn c0 (-50) 50 && pIn l0 1 99999))) = true) (hn16 : ¬ n < 16) : MX l D yX5_addBlock wsX5_addBlock 6 82 1 6 [.ref x, .int p0, .int s0, .int c0, .int l0] w xIS (fun w1 => LW D x m n h w1 ∧ wpre w w1) := by
  obtain ⟨a, b, a2, b2, g, tt, rr, sv, tx, ⟨we, ce, co, sg, cr, Pp, Kp, Hp, Lp, Sp, cu, we2, ce2, co2, sg2, cr2, Pp2, Kp2, Hp2, Lp2, Sp2, sd2, rd2, be2, ov2, qa2, qb2, qd2, lo2, cu2, po, er, nw, k, oa, f, hK, hH, ht, hk, ho, rfl⟩, hHL⟩ := H
  exact (ctX5_addBlockF l hst D (fun _ => x) a b a2 b2 g tt rr we ce co sg cr Pp Kp Hp Lp Sp cu we2 ce2 co2 sg2 cr2 Pp2 Kp2 Hp2 Lp2 Sp2 sd2 rd2 be2 ov2 qa2 qb2 qd2 lo2 cu2 po er m sv tx n h.length 0 nw k oa f hK hH ht p0 s0 c0 l0 hy hn16).imp (fun w1 q => ⟨⟨a, b, a2, b2, g, tt, rr, sv, tx, kW_0 q, hHL⟩, kW_pre q⟩)
theorem lc_pullN (l : Launch) (hst : l.stackTraces = false) (D : KD) {x : Nat} {m : Pg} {n : Nat} {h : Hs} {w : va_W} (H : LW D x m n h w) (i : Nat) (hi : i < n) (hz : ¬ mT m i = 0) : MX l D yX5_pull wsX5_pull 6 82 1 6 [.ref x, .int (nI i)] w xIS (fun w1 => LW D x m n h w1 ∧ wpre w w1) := by
  obtain ⟨a, b, a2, b2, g, tt, rr, sv, tx, ⟨we, ce, co, sg, cr, Pp, Kp, Hp, Lp, Sp, cu, we2, ce2, co2, sg2, cr2, Pp2, Kp2, Hp2, Lp2, Sp2, sd2, rd2, be2, ov2, qa2, qb2, qd2, lo2, cu2, po, er, nw, k, oa, f, hK, hH, ht, hk, ho, rfl⟩, hHL⟩ := H
  exact (ctX5_pullN l hst D (fun _ => x) a b a2 b2 g tt rr we ce co sg cr Pp Kp Hp Lp Sp cu we2 ce2 co2 sg2 cr2 Pp2 Kp2 Hp2 Lp2 Sp2 sd2 rd2 be2 ov2 qa2 qb2 qd2 lo2 cu2 po er m sv tx n h.length 0 nw k oa f hK hH ht i hi hz).imp (fun w1 q => ⟨⟨a, b, a2, b2, g, tt, rr, sv, tx, kW_0 q, hHL⟩, kW_pre q⟩)
theorem lc_pullF (l : Launch) (hst : l.stackTraces = false) (D : KD) {x : Nat} {m : Pg} {n : Nat} {h : Hs} {w : va_W} (H : LW D x m n h w) (i : Nat) (hi : i < n) (hz : mT m i = 0) (hcp : cpl m n i = false) : MX l D yX5_pull wsX5_pull 6 125 1 6 [.ref x, .int (nI i)] w xIS (fun w1 => LW D x m n h w1 ∧ wpre w w1) := by
  obtain ⟨a, b, a2, b2, g, tt, rr, sv, tx, ⟨we, ce, co, sg, cr, Pp, Kp, Hp, Lp, Sp, cu, we2, ce2, co2, sg2, cr2, Pp2, Kp2, Hp2, Lp2, Sp2, sd2, rd2, be2, ov2, qa2, qb2, qd2, lo2, cu2, po, er, nw, k, oa, f, hK, hH, ht, hk, ho, rfl⟩, hHL⟩ := H
  exact (ctX5_pullF l hst D (fun _ => x) a b a2 b2 g tt rr we ce co sg cr Pp Kp Hp Lp Sp cu we2 ce2 co2 sg2 cr2 Pp2 Kp2 Hp2 Lp2 Sp2 sd2 rd2 be2 ov2 qa2 qb2 qd2 lo2 cu2 po er m sv tx n h.length 0 nw k oa f hK hH ht i hi hz hcp).imp (fun w1 q => ⟨⟨a, b, a2, b2, g, tt, rr, sv, tx, kW_0 q, hHL⟩, kW_pre q⟩)
theorem lc_putN (l : Launch) (hst : l.stackTraces = false) (D : KD) {x : Nat} {m : Pg} {n : Nat} {h : Hs} {w : va_W} (H : LW D x m n h w) (i : Nat) (hi : i < n) (hz : mT m i = 0) : MX l D yX5_put wsX5_put 6 82 1 6 [.ref x, .int (nI i)] w xIS (fun w1 => LW D x m n h w1 ∧ wpre w w1) := by
  obtain ⟨a, b, a2, b2, g, tt, rr, sv, tx, ⟨we, ce, co, sg, cr, Pp, Kp, Hp, Lp, Sp, cu, we2, ce2, co2, sg2, cr2, Pp2, Kp2, Hp2, Lp2, Sp2, sd2, rd2, be2, ov2, qa2, qb2, qd2, lo2, cu2, po, er, nw, k, oa, f, hK, hH, ht, hk, ho, rfl⟩, hHL⟩ := H
  exact (ctX5_putN l hst D (fun _ => x) a b a2 b2 g tt rr we ce co sg cr Pp Kp Hp Lp Sp cu we2 ce2 co2 sg2 cr2 Pp2 Kp2 Hp2 Lp2 Sp2 sd2 rd2 be2 ov2 qa2 qb2 qd2 lo2 cu2 po er m sv tx n h.length 0 nw k oa f hK hH ht i hi hz).imp (fun w1 q => ⟨⟨a, b, a2, b2, g, tt, rr, sv, tx, kW_0 q, hHL⟩, kW_pre q⟩)
theorem lc_undo (l : Launch) (D : KD) {x : Nat} {m m0 : Pg} {n n0 : Nat} {h : Hs} {w : va_W} (H : LW D x m n ((m0, n0) :: h) w) : MI l D yX5_undo wsX5_undo 4 104 0 0 [.ref x] w (fun r w1 => r = nI h.length ∧ LW D x m0 n0 h w1 ∧ wpre w w1) := by
  obtain ⟨a, b, a2, b2, g, tt, rr, sv, tx, ⟨we, ce, co, sg, cr, Pp, Kp, Hp, Lp, Sp, cu, we2, ce2, co2, sg2, cr2, Pp2, Kp2, Hp2, Lp2, Sp2, sd2, rd2, be2, ov2, qa2, qb2, qd2, lo2, cu2, po, er, nw, k, oa, f, hK, hH, ht, hk, ho, rfl⟩, hHL⟩ := H
  exact (ctX5_undo l D (fun _ => x) a b a2 b2 g tt rr we ce co sg cr Pp Kp Hp Lp Sp cu we2 ce2 co2 sg2 cr2 Pp2 Kp2 Hp2 Lp2 Sp2 sd2 rd2 be2 ov2 qa2 qb2 qd2 lo2 cu2 po er m sv tx n h.length 0 nw k oa f hK hH ht).imp (fun r w1 ⟨e, n', q⟩ => ⟨e, LW.un (x := fun _ => x) q hHL, kW_pre q⟩)
theorem lc_undoX (l : Launch) (hst : l.stackTraces = false) (D : KD) {x : Nat} {m : Pg} {n : Nat} {w : va_W} (H : LW D x m n [] w) : MX l D yX5_undo wsX5_undo 6 82 1 6 [.ref x] w xIS (fun w1 => LW D x m n [] w1 ∧ wpre w w1) := by
  obtain ⟨a, b, a2, b2, g, tt, rr, sv, tx, ⟨we, ce, co, sg, cr, Pp, Kp, Hp, Lp, Sp, cu, we2, ce2, co2, sg2, cr2, Pp2, Kp2, Hp2, Lp2, Sp2, sd2, rd2, be2, ov2, qa2, qb2, qd2, lo2, cu2, po, er, nw, k, oa, f, hK, hH, ht, hk, ho, rfl⟩, hHL⟩ := H
  exact (ctX5_undoX l hst D (fun _ => x) a b a2 b2 g tt rr we ce co sg cr Pp Kp Hp Lp Sp cu we2 ce2 co2 sg2 cr2 Pp2 Kp2 Hp2 Lp2 Sp2 sd2 rd2 be2 ov2 qa2 qb2 qd2 lo2 cu2 po er m sv tx n 0 nw k oa f hK hH ht).imp (fun w1 q => ⟨⟨a, b, a2, b2, g, tt, rr, sv, tx, kW_0 q, hHL⟩, kW_pre q⟩)
theorem lc_init (l : Launch) (D : KD) (x : Nat) : MV l D yX5_init wsX5_init 4 104 23 434 [.ref x] [(x, .inr (5, [.null, .null, .null, .null, .null, .null, .null]))] (fun w1 => LW D x mIn 0 [] w1 ∧ ∃ fs w2, w1 = (x, .inr (5, fs)) :: w2) := by
  refine (ctX5_init l D x).imp ?_
  rintro w1 ⟨a, b, a2, b2, g, tt, rr, q⟩
  have H : LW D x mIn 0 [] w1 := ⟨a, b, a2, b2, g, tt, rr, fun _ => 0, fun _ => 0, q, fun j q hj => by simp at hj⟩
  refine ⟨H, ?_⟩
  obtain ⟨fs, hf⟩ := H.at0
  cases w1 with
  | nil => simp at hf
  | cons c w2 => exact ⟨fs, w2, by rw [Option.some.inj hf]⟩
/-! rows for calls over the whole world -/
theorem wp_put {w w1 : va_W} (h : wpre w w1) : kPut w (rng 0 w.length) w1 = w1 := kPut_rng (w := w) [] w1 (tl_le h)
theorem wp_hC (w : va_W) : (rng 0 w.length).map (fun i => w[i]?) = w.map some := rng_at (w := w) []
theorem wp_nd (w : va_W) : va_nd (rng 0 w.length) = true := tl_nd (K := []) (Kc := []) (is := []) w.length rfl rfl
theorem wp_rfl (w : va_W) : wpre w w := by unfold wpre; rw [List.take_length]
theorem wp_tr {w w1 w2 : va_W} (h1 : wpre w w1) (h2 : wpre w1 w2) : wpre w w2 := by
  unfold wpre at h1 h2 ⊢
  have hl := tl_le h1
  have e : (w2.take w.length).map Prod.fst = ((w2.take w1.length).map Prod.fst).take w.length := by
    rw [← List.map_take, List.take_take, Nat.min_eq_left hl]
  rw [e, h2, ← List.map_take, h1]
section JW
variable {D : KD} {X : KX} {cc : ByteArray} {own : String} {Ts : List Cond} {fr lo mc ms nL : Nat} {w : va_W} {k n pc : Nat} {lv : List (Nat × Value)} {st rest : List Value}
variable {y : MethodName} {ws : List Cond} {fr' lo' mc' ms' : Nat} {As : List Value} {a n0 idx maxY : Nat} {cy : ByteArray} {ret : Option FieldType}
theorem jw_cv_i (C : Cx D X cc own Ts fr lo mc ms nL) {post : Int32 → va_W → Prop} (hM : MI (xl X) D y ws fr' lo' mc' ms' (.ref a :: As) w post) (hF : MF y ws cy maxY ret n0) (hG : GoodIn Ts (wsV own idx y.cls y ws)) (hlen : As.length = n0) (hfr : fr' + 1 ≤ fr) (hlo : 8 + (maxY + 11) + lo' ≤ lo) (hmc : k + mc' ≤ mc) (hms : n + ms' ≤ ms) (hq : ∃ fs, w[0]? = some (a, .inr (5, fs))) (hr0 : RX5 = y.cls) (hst : st = As.reverse ++ .ref a :: rest) (hcat : (rest.map fun v => v.category).sum ≤ 8) (hd : decode cc pc = .ok (.invokevirtual idx, 3)) (hp : ∀ r w1, post r w1 → wpre w w1) (kk : ∀ (r : Int32) (w1 : va_W), post r w1 → J D X w1 (k + mc') (n + ms') (pc + 3) lv (.int r :: rest)) : J D X w k n pc lv st := by
  obtain ⟨fs, hq⟩ := hq
  exact j_cv_i C hM hF hG hlen hfr hlo hmc hms (rng 0 w.length) (wp_hC w) (wp_nd w) 0 hq (r0 := (RX5, TX5, 7)) rfl hr0 hst hcat hd (fun r w1 h => ⟨hp r w1 h, by rw [wp_put (hp r w1 h)]; exact kk r w1 h⟩)
theorem jw_cv_l (C : Cx D X cc own Ts fr lo mc ms nL) {post : Int64 → va_W → Prop} (hM : ML (xl X) D y ws fr' lo' mc' ms' (.ref a :: As) w post) (hF : MF y ws cy maxY ret n0) (hG : GoodIn Ts (wsV own idx y.cls y ws)) (hlen : As.length = n0) (hfr : fr' + 1 ≤ fr) (hlo : 8 + (maxY + 11) + lo' ≤ lo) (hmc : k + mc' ≤ mc) (hms : n + ms' ≤ ms) (hq : ∃ fs, w[0]? = some (a, .inr (5, fs))) (hr0 : RX5 = y.cls) (hst : st = As.reverse ++ .ref a :: rest) (hcat : (rest.map fun v => v.category).sum ≤ 8) (hd : decode cc pc = .ok (.invokevirtual idx, 3)) (hp : ∀ r w1, post r w1 → wpre w w1) (kk : ∀ (r : Int64) (w1 : va_W), post r w1 → J D X w1 (k + mc') (n + ms') (pc + 3) lv (.long r :: rest)) : J D X w k n pc lv st := by
  obtain ⟨fs, hq⟩ := hq
  exact j_cv_l C hM hF hG hlen hfr hlo hmc hms (rng 0 w.length) (wp_hC w) (wp_nd w) 0 hq (r0 := (RX5, TX5, 7)) rfl hr0 hst hcat hd (fun r w1 h => ⟨hp r w1 h, by rw [wp_put (hp r w1 h)]; exact kk r w1 h⟩)
theorem jw_cv_d (C : Cx D X cc own Ts fr lo mc ms nL) {post : UInt64 → va_W → Prop} (hM : MD (xl X) D y ws fr' lo' mc' ms' (.ref a :: As) w post) (hF : MF y ws cy maxY ret n0) (hG : GoodIn Ts (wsV own idx y.cls y ws)) (hlen : As.length = n0) (hfr : fr' + 1 ≤ fr) (hlo : 8 + (maxY + 11) + lo' ≤ lo) (hmc : k + mc' ≤ mc) (hms : n + ms' ≤ ms) (hq : ∃ fs, w[0]? = some (a, .inr (5, fs))) (hr0 : RX5 = y.cls) (hst : st = As.reverse ++ .ref a :: rest) (hcat : (rest.map fun v => v.category).sum ≤ 8) (hd : decode cc pc = .ok (.invokevirtual idx, 3)) (hp : ∀ r w1, post r w1 → wpre w w1) (kk : ∀ (r : UInt64) (w1 : va_W), post r w1 → J D X w1 (k + mc') (n + ms') (pc + 3) lv (.double r :: rest)) : J D X w k n pc lv st := by
  obtain ⟨fs, hq⟩ := hq
  exact j_cv_d C hM hF hG hlen hfr hlo hmc hms (rng 0 w.length) (wp_hC w) (wp_nd w) 0 hq (r0 := (RX5, TX5, 7)) rfl hr0 hst hcat hd (fun r w1 h => ⟨hp r w1 h, by rw [wp_put (hp r w1 h)]; exact kk r w1 h⟩)
/-- a call that throws E, caught here -/
theorem jw_cx (C : Cx D X cc own Ts fr lo mc ms nL) {hh : List (Nat × Nat × Nat × Nat)} (KT : kXs (xA X) (xs X) ∧ (xc X).exceptionTable.toList = tableOf hh) {E : String} {post : va_W → Prop} (hM : MX (xl X) D y ws fr' lo' mc' ms' (.ref a :: As) w E post) (hF : MF y ws cy maxY ret n0) (hG : GoodIn Ts (wsV own idx y.cls y ws)) (hlen : As.length = n0) (hfr : fr' + 1 ≤ fr) (hlo : 8 + (maxY + 11) + lo' ≤ lo) (hmc : k + mc' ≤ mc) (hms : n + ms' ≤ ms) (hq : ∃ fs, w[0]? = some (a, .inr (5, fs))) (hr0 : RX5 = y.cls) (hst : st = As.reverse ++ .ref a :: rest) (hcat : (rest.map fun v => v.category).sum ≤ 8) (hd : decode cc pc = .ok (.invokevirtual idx, 3))
    (pre : List ExceptionTableEntry) (x : ExceptionTableEntry) (suf : List ExceptionTableEntry) (hsp : tableOf hh = pre ++ x :: suf) (hpass : ∀ z ∈ pre, covers z pc = false ∨ (z.catchType ≠ 0 ∧ ∃ nm : String, Cond.classLink own z.catchType nm ∈ Ts ∧ va_Nc E nm (xs X))) (hx : covers x pc = true) (h0 : x.catchType ≠ 0) (hlink : Cond.classLink own x.catchType E ∈ Ts) (hcast : Cond.castable E E ∈ kFace) {tgt : Nat} (htg : x.handlerPc = tgt) (hp : ∀ w1, post w1 → wpre w w1)
    (kk : ∀ (q9 : Nat) (w1 : va_W), post w1 → J D X w1 (k + mc') (n + ms') tgt lv [.ref q9]) : J D X w k n pc lv st := by
  obtain ⟨fs, hq⟩ := hq
  exact jx_cv C KT hM hF hG hlen hfr hlo hmc hms (rng 0 w.length) (wp_hC w) (wp_nd w) 0 hq (r0 := (RX5, TX5, 7)) rfl hr0 hst hcat hd pre x suf hsp hpass hx h0 hlink hcast htg (fun q9 w1 h => ⟨hp w1 h, by rw [wp_put (hp w1 h)]; exact kk q9 w1 h⟩)
/-- a call of a wrapper that answers an int -/
theorem jw_i (C : Cx D X cc own Ts fr lo mc ms nL) (KT : kXs (xA X) (xs X)) {hh : List (Nat × Nat × Nat × Nat)} {post : Int32 → va_W → Prop} (hM : MIX (xl X) D y ws fr' lo' mc' ms' As w post) (hw : ∃ ws', ws = Cond.codeWith y cy maxY ret hh :: ws') (hy : y.cls ≠ "java/lang/invoke/MethodHandle" ∧ y.cls ≠ "java/lang/invoke/VarHandle" ∧ (parseMethodDescriptor y.desc).map (fun d => d.parameters.length) = some n0) (hG : GoodIn Ts (va_wsS own idx y ws)) (hlen : As.length = n0) (hfr : fr' + 1 ≤ fr) (hlo : 8 + (maxY + 11) + lo' ≤ lo) (hmc : k + mc' ≤ mc) (hms : n + ms' ≤ ms) (hst : st = As.reverse ++ rest) (hcat : (rest.map fun v => v.category).sum ≤ 8) (hd : decode cc pc = .ok (.invokestatic idx, 3)) (hp : ∀ r w1, post r w1 → wpre w w1) (kk : ∀ (r : Int32) (w1 : va_W), post r w1 → J D X w1 (k + mc') (n + ms') (pc + 3) lv (.int r :: rest)) : J D X w k n pc lv st :=
  j_csW C KT hM hw hy hG hlen hfr hlo hmc hms (rng 0 w.length) (wp_hC w) (wp_nd w) hst hcat hd (fun r w1 h => ⟨hp r w1 h, by rw [wp_put (hp r w1 h)]; exact kk r w1 h⟩)
end JW
/-! a wrapper that answers a long; the law's own methods, which call wrappers -/
def MLX (l : Launch) (D : KD) (y : MethodName) (ws : List Cond) (fr lo mc ms : Nat) (av : List Value) (w0 : va_W) (post : Int64 → va_W → Prop) : Prop := ∀ sz : Nat, Met l y ws (kR fr lo mc ms) (va_Pc av (kPreX D w0 sz)) (va_Ql post (kB D w0 sz) (va_A w0 sz)) mc ms (va_A w0 sz)
set_option maxHeartbeats 1000000 in
theorem MLX.of {l : Launch} {D : KD} {y : MethodName} {ws ws' : List Cond} {fr lo mc ms : Nat} {av : List Value} {w0 : va_W} {cc : ByteArray} {nL : Nat} {lv0 : List (Nat × Value)} {post : Int64 → va_W → Prop} {hh : List (Nat × Nat × Nat × Nat)} (hy : plainName y.cls = true) (hw : ws = Cond.codeWith y cc nL (some .long) hh :: ws') (hn : (lg_sl av).length ≤ nL) (hlv : lv_args 0 av = lv0)
    (body : ∀ X : KX, xl X = l → (xM X).name = y.name → Cx D X cc y.cls ws fr lo mc ms nL → kXs (xA X) (xs X) ∧ (xc X).exceptionTable.toList = tableOf hh → (∀ {pc : Nat} {r : Int64} {w : va_W} {lv : List (Nat × Value)}, decode cc pc = .ok (.lreturn, 1) → post r w → J D X w mc ms pc lv [.long r]) → J D X w0 0 0 0 lv0 []) : MLX l D y ws fr lo mc ms av w0 post := by
  intro sz
  have h : vx_Met l y ws (kR fr lo mc ms) (va_Pc av (kPreX D w0 sz)) (va_Ql post (kB D w0 sz) (va_A w0 sz)) (fun _ _ _ => False) mc ms (va_A w0 sz) := by
    refine vx_ofWH (cc := cc) (maxL := nL) (ret := (some .long)) (hh := hh) hy hw ?_
    intro p e s m args below meth c s₁ B hml hv
    obtain ⟨rfl, ⟨hsz, hP, ⟨hK, hN⟩, hD0⟩, hXs⟩ := hv
    have hx := B.exec
    have hb := B.bytes
    have hr := B.returns
    have hts := atoms_spec (ws := ws) B.pre
    have hown : s.vm.findClass y.cls = some m.cls := findClass_of_methodNamed B.named
    have hlocks := B.notSynchronized
    have hin : meth.name = y.name := (name_of_methodNamed B.named B.method).1
    have htab : c.exceptionTable.toList = tableOf hh := vx_table (x := y) B (hts _ (by rw [hw]; exact List.mem_cons_self))
    subst hsz
    have hD := hD0.self (sz := s.heap.size)
    have hS : va_S (va_A w0 s.heap.size) s.heap s.heap [] := va_S.rf
    have hl := lv_entry av (n := nL) hn
    rw [hlv] at hl
    rw [lg_entry_eq]
    refine vx_ret ?_
    refine body (p, l, e, kR fr lo mc ms, s, m, av.toArray, below, meth, c, _, va_A w0 s.heap.size, nL) rfl hin ⟨⟨hx, hb, hml, hown, hts⟩, ⟨hK, hN⟩, fun q h => Or.inr h, ⟨rfl, rfl, rfl, rfl⟩, rfl⟩ ⟨hXs, htab⟩ ?_ s.heap [] _ hP hD hS hl
    exact fun hd hq H locs ls hP hD hS hl => W.lret hx hb hr (fun t ht hW => ⟨⟨_, _, rfl, hq, by rw [ht]; exact hP, hD⟩, hS.F ht⟩) hS.2.2 hd hlocks
  exact MetFree.mono h (fun _ _ h => h) (fun _ _ _ _ _ h => h) (fun a s o t _ hq => hq.elim id (fun ⟨_, _, _, _, _, hF, _⟩ => hF.elim))
set_option maxHeartbeats 1000000 in
theorem MIX.ofz {l : Launch} {D : KD} {y : MethodName} {ws ws' : List Cond} {fr lo mc ms : Nat} {av : List Value} {w0 : va_W} {cc : ByteArray} {nL : Nat} {lv0 : List (Nat × Value)} {post : Int32 → va_W → Prop} (hy : plainName y.cls = true) (hw : ws = Cond.code y cc nL (some .boolean) :: ws') (hn : (lg_sl av).length ≤ nL) (hlv : lv_args 0 av = lv0)
    (body : ∀ X : KX, xl X = l → (xM X).name = y.name → Cx D X cc y.cls ws fr lo mc ms nL → kXs (xA X) (xs X) → (∀ {pc : Nat} {r : Int32} {w : va_W} {lv : List (Nat × Value)}, decode cc pc = .ok (.ireturn, 1) → (r = 0 ∨ r = 1) → post r w → J D X w mc ms pc lv [.int r]) → J D X w0 0 0 0 lv0 []) : MIX l D y ws fr lo mc ms av w0 post := by
  intro sz
  refine Met.ofW (cc := cc) (maxL := nL) (ret := (some .boolean)) hy hw ?_
  intro p e s m args below meth c s₁ B hml hv
  obtain ⟨rfl, ⟨hsz, hP, ⟨hK, hN⟩, hD0⟩, hXs⟩ := hv
  have hx := B.exec
  have hb := B.bytes
  have hr := B.returns
  have hts := atoms_spec (ws := ws) B.pre
  have hown : s.vm.findClass y.cls = some m.cls := findClass_of_methodNamed B.named
  have hlocks := B.notSynchronized
  have hin : meth.name = y.name := (name_of_methodNamed B.named B.method).1
  subst hsz
  have hD := hD0.self (sz := s.heap.size)
  have hS : va_S (va_A w0 s.heap.size) s.heap s.heap [] := va_S.rf
  have hl := lv_entry av (n := nL) hn
  rw [hlv] at hl
  rw [lg_entry_eq]
  refine body (p, l, e, kR fr lo mc ms, s, m, av.toArray, below, meth, c, _, va_A w0 s.heap.size, nL) rfl hin ⟨⟨hx, hb, hml, hown, hts⟩, ⟨hK, hN⟩, fun q h => Or.inr h, ⟨rfl, rfl, rfl, rfl⟩, rfl⟩ hXs ?_ s.heap [] _ hP hD hS hl
  exact fun hd hz hq H locs ls hP hD hS hl => W.zret hx hb hr (by rcases hz with rfl | rfl <;> rfl) (fun t ht hW => ⟨⟨_, _, rfl, hq, by rw [ht]; exact hP, hD⟩, hS.F ht⟩) hS.2.2 hd hlocks
section JZ
variable {D : KD} {X : KX} {cc : ByteArray} {own : String} {Ts : List Cond} {fr lo mc ms nL : Nat} {w : va_W} {k n pc : Nat} {lv : List (Nat × Value)} {st rest : List Value}
variable {y : MethodName} {ws : List Cond} {fr' lo' mc' ms' : Nat} {As : List Value} {a n0 idx maxY : Nat} {cy : ByteArray} {ret : Option FieldType}
/-- a call of a wrapper that answers a long -/
theorem jw_l (C : Cx D X cc own Ts fr lo mc ms nL) (KT : kXs (xA X) (xs X)) {hh : List (Nat × Nat × Nat × Nat)} {post : Int64 → va_W → Prop} (hM : MLX (xl X) D y ws fr' lo' mc' ms' As w post) (hw : ∃ ws', ws = Cond.codeWith y cy maxY ret hh :: ws') (hy : y.cls ≠ "java/lang/invoke/MethodHandle" ∧ y.cls ≠ "java/lang/invoke/VarHandle" ∧ (parseMethodDescriptor y.desc).map (fun d => d.parameters.length) = some n0) (hG : GoodIn Ts (va_wsS own idx y ws)) (hlen : As.length = n0) (hfr : fr' + 1 ≤ fr) (hlo : 8 + (maxY + 11) + lo' ≤ lo) (hmc : k + mc' ≤ mc) (hms : n + ms' ≤ ms) (hst : st = As.reverse ++ rest) (hcat : (rest.map fun v => v.category).sum ≤ 8) (hd : decode cc pc = .ok (.invokestatic idx, 3)) (hp : ∀ r w1, post r w1 → wpre w w1) (kk : ∀ (r : Int64) (w1 : va_W), post r w1 → J D X w1 (k + mc') (n + ms') (pc + 3) lv (.long r :: rest)) : J D X w k n pc lv st := by
  intro H locs ls hP hD hS hl
  obtain ⟨ws', hws⟩ := hw
  obtain ⟨hR1, hR2, hR3, hR4⟩ := C.hR
  obtain ⟨hPc, hDc⟩ := kCut hP hD (rng 0 w.length) (wp_hC w) (wp_nd w)
  have hF := va_free (wc := w) hD hS C.hA (rng 0 w.length) (wp_hC w)
  refine va_calll (vx_runSW (As := As) (rest := rest) C.1 (hM H.size) (vx_cwSW n0 C.hts hG hws rfl rfl hy ⟨by rw [hR1]; exact hfr, by rw [hR2]; exact hlo⟩) ⟨kPreX.blind, fun U hU hW => ⟨rfl, ⟨by rw [hU], by rw [hU]; exact hPc, ⟨va_K.moved hW.alike C.hK, C.hN.moved hW⟩, hDc⟩, KT.move hW (fun q hq hA => by rw [hU]; exact hS.2.1 q hq hA) hF⟩⟩ rfl hlen hl.1 hst (lv_room hcat) hd ⟨by rw [hR3]; exact hmc, by rw [hR4]; exact hms⟩) hS (fun q _ h => hF q h) hF (fun r w1 t H1 locs1 ht hvm hw hB hz1 hk1 hS => ?_)
  obtain ⟨hP1, hD1⟩ := hB
  rw [ht] at hP1
  obtain ⟨hP, hD⟩ := kPut_ok hP hD (rng 0 w.length) (wp_hC w) (hp r w1 hw) hk1 hF hP1 hD1
  rw [wp_put (hp r w1 hw)] at hP hD
  exact kk r w1 hw H1 locs1 ls hP hD hS hl
/-- a call of one of the law's own methods, of a plain code, which answers an int -/
theorem jw_p (C : Cx D X cc own Ts fr lo mc ms nL) (KT : kXs (xA X) (xs X)) {post : Int32 → va_W → Prop} (hM : MIX (xl X) D y ws fr' lo' mc' ms' As w post) (hF0 : MF y ws cy maxY ret n0) (hG : GoodIn Ts (va_wsS own idx y ws)) (hlen : As.length = n0) (hfr : fr' + 1 ≤ fr) (hlo : 8 + (maxY + 11) + lo' ≤ lo) (hmc : k + mc' ≤ mc) (hms : n + ms' ≤ ms) (hst : st = As.reverse ++ rest) (hcat : (rest.map fun v => v.category).sum ≤ 8) (hd : decode cc pc = .ok (.invokestatic idx, 3)) (hp : ∀ r w1, post r w1 → wpre w w1) (kk : ∀ (r : Int32) (w1 : va_W), post r w1 → J D X w1 (k + mc') (n + ms') (pc + 3) lv (.int r :: rest)) : J D X w k n pc lv st := by
  intro H locs ls hP hD hS hl
  obtain ⟨⟨ws', hws⟩, hp1, hp2, hp3⟩ := hF0
  obtain ⟨hR1, hR2, hR3, hR4⟩ := C.hR
  obtain ⟨hPc, hDc⟩ := kCut hP hD (rng 0 w.length) (wp_hC w) (wp_nd w)
  have hF := va_free (wc := w) hD hS C.hA (rng 0 w.length) (wp_hC w)
  refine va_calli (va_runS (As := As) (rest := rest) C.1 (hM H.size) (va_cwS n0 C.hts hG hws rfl rfl ⟨hp1, hp2, hp3⟩ ⟨by rw [hR1]; exact hfr, by rw [hR2]; exact hlo⟩) ⟨kPreX.blind, fun U hU hW => ⟨rfl, ⟨by rw [hU], by rw [hU]; exact hPc, ⟨va_K.moved hW.alike C.hK, C.hN.moved hW⟩, hDc⟩, KT.move hW (fun q hq hA => by rw [hU]; exact hS.2.1 q hq hA) hF⟩⟩ rfl hlen hl.1 hst (lv_room hcat) hd ⟨by rw [hR3]; exact hmc, by rw [hR4]; exact hms⟩) hS (fun q _ h => hF q h) hF (fun r w1 t H1 locs1 ht hvm hw hB hz1 hk1 hS => ?_)
  obtain ⟨hP1, hD1⟩ := hB
  rw [ht] at hP1
  obtain ⟨hP, hD⟩ := kPut_ok hP hD (rng 0 w.length) (wp_hC w) (hp r w1 hw) hk1 hF hP1 hD1
  rw [wp_put (hp r w1 hw)] at hP hD
  exact kk r w1 hw H1 locs1 ls hP hD hS hl
/-- a call of a static method that touches no cell -/
theorem jw_0 (C : Cx D X cc own Ts fr lo mc ms nL) {post : Int32 → va_W → Prop} (hM : MI (xl X) D y ws fr' lo' 0 0 As [] post) (hF : MF y ws cy maxY ret n0) (hG : GoodIn Ts (va_wsS own idx y ws)) (hlen : As.length = n0) (hfr : fr' + 1 ≤ fr) (hlo : 8 + (maxY + 11) + lo' ≤ lo) (hmc : k ≤ mc) (hms : n ≤ ms) (hst : st = As.reverse ++ rest) (hcat : (rest.map fun v => v.category).sum ≤ 8) (hd : decode cc pc = .ok (.invokestatic idx, 3)) (hp : ∀ r w1, post r w1 → w1 = []) (kk : ∀ (r : Int32), post r [] → J D X w k n (pc + 3) lv (.int r :: rest)) : J D X w k n pc lv st :=
  j_cs_i C hM hF hG hlen hfr hlo hmc hms [] rfl rfl hst hcat hd (fun r w1 h => by
    obtain rfl := hp r w1 h
    refine ⟨rfl, ?_⟩
    show J D X (w ++ []) k n (pc + 3) lv (.int r :: rest)
    rw [List.append_nil]
    exact kk r h)
end JZ
/-! the law's script -/
def kScr (X : KX) (b L : Nat) (z : Nat → Int32) : Prop := va_X b L z (xs X) (xs X).heap ∧ b < (xs X).heap.size ∧ ¬ (xA X) b ∧ L ≤ 260
theorem j_sld {D : KD} {X : KX} {cc : ByteArray} {own : String} {Ts : List Cond} {fr lo mc ms nL : Nat} {w : va_W} {k n pc : Nat} {lv : List (Nat × Value)} {st : List Value} (C : Cx D X cc own Ts fr lo mc ms nL) {b L : Nat} {z : Nat → Int32} (S : kScr X b L z) {x v : Int32} (hin : vp_in x L) (he : z x.toNatClampNeg = v) (hd : decode cc pc = .ok (.iaload, 1)) (kk : J D X w k n (pc + 1) lv (.int v :: st)) : J D X w k n pc lv (.int x :: .ref b :: st) := by
  intro H locs ls hP hD hS hl
  refine va_sld C.hx C.hb S.1 S.2.1 S.2.2.1 hS hin hd ?_
  rw [he]
  exact kk H locs ls hP hD hS hl
theorem j_slen {D : KD} {X : KX} {cc : ByteArray} {own : String} {Ts : List Cond} {fr lo mc ms nL : Nat} {w : va_W} {k n pc : Nat} {lv : List (Nat × Value)} {st : List Value} (C : Cx D X cc own Ts fr lo mc ms nL) {b L : Nat} {z : Nat → Int32} (S : kScr X b L z) (hd : decode cc pc = .ok (.arraylength, 1)) (kk : J D X w k n (pc + 1) lv (.int (nI L) :: st)) : J D X w k n pc lv (.ref b :: st) := by
  intro H locs ls hP hD hS hl
  exact va_slen C.hx C.hb S.1 S.2.1 S.2.2.1 hS hd (kk H locs ls hP hD hS hl)
/-- a method of the law's that reads the script -/
def kPreS (D : KD) (b L : Nat) (z : Nat → Int32) (sz : Nat) (U : State) : Prop := kPre D [] sz U ∧ va_X b L z U U.heap ∧ b < sz ∧ L ≤ 260
theorem kPreS.blind {D : KD} {b L : Nat} {z : Nat → Int32} {sz : Nat} {av : List Value} : FrameBlind (va_Pc av (kPreS D b L z sz)) := fun a U g mk q => by
  obtain ⟨q0, ⟨q1, qP, ⟨qK, qN⟩, qD⟩, qX, qb⟩ := q
  exact ⟨q0, ⟨q1, qP, ⟨va_K.moved (u := U) (U := U.calling g mk a) (Vm.Alike.refl U.vm) qK, qN.same rfl⟩, qD⟩, va_X.moved (u := U) (U := U.calling g mk a) (Vm.Alike.refl U.vm) qX, qb⟩
def MS (l : Launch) (D : KD) (y : MethodName) (ws : List Cond) (fr lo : Nat) (av : List Value) (b L : Nat) (z : Nat → Int32) : Prop := ∀ sz : Nat, Met l y ws (kR fr lo 0 0) (va_Pc av (kPreS D b L z sz)) (va_Qi (fun _ w1 => w1 = []) (kB D [] sz) (va_A [] sz)) 0 0 (va_A [] sz)
set_option maxHeartbeats 1000000 in
theorem MS.of {l : Launch} {D : KD} {y : MethodName} {ws ws' : List Cond} {fr lo : Nat} {av : List Value} {cc : ByteArray} {nL : Nat} {lv0 : List (Nat × Value)} {b L : Nat} {z : Nat → Int32} (hy : plainName y.cls = true) (hw : ws = Cond.code y cc nL (some .int) :: ws') (hn : (lg_sl av).length ≤ nL) (hlv : lv_args 0 av = lv0)
    (body : ∀ X : KX, xl X = l → Cx D X cc y.cls ws fr lo 0 0 nL → kScr X b L z → (∀ {pc : Nat} {r : Int32} {lv : List (Nat × Value)}, decode cc pc = .ok (.ireturn, 1) → J D X [] 0 0 pc lv [.int r]) → J D X [] 0 0 0 lv0 []) : MS l D y ws fr lo av b L z := by
  intro sz
  refine Met.ofW (cc := cc) (maxL := nL) (ret := (some .int)) hy hw ?_
  intro p e s m args below meth c s₁ B hml hv
  obtain ⟨rfl, ⟨hsz, hP, ⟨hK, hN⟩, hD0⟩, hX0, hb0, hL0⟩ := hv
  have hx := B.exec
  have hb := B.bytes
  have hr := B.returns
  have hts := atoms_spec (ws := ws) B.pre
  have hown : s.vm.findClass y.cls = some m.cls := findClass_of_methodNamed B.named
  have hlocks := B.notSynchronized
  subst hsz
  have hD := hD0.self (sz := s.heap.size)
  have hS : va_S (va_A [] s.heap.size) s.heap s.heap [] := va_S.rf
  have hl := lv_entry av (n := nL) hn
  rw [hlv] at hl
  rw [lg_entry_eq]
  have hnA : ¬ va_A [] s.heap.size b := by
    rintro (⟨k, e, h⟩ | h)
    · simp at h
    · omega
  refine body (p, l, e, kR fr lo 0 0, s, m, av.toArray, below, meth, c, _, va_A [] s.heap.size, nL) rfl ⟨⟨hx, hb, hml, hown, hts⟩, ⟨hK, hN⟩, fun q h => Or.inr h, ⟨rfl, rfl, rfl, rfl⟩, rfl⟩ ⟨hX0, hb0, hnA, hL0⟩ ?_ s.heap [] _ hP hD hS hl
  exact fun hd H locs ls hP hD hS hl => W.iret hx hb hr (fun t ht hW => ⟨⟨_, _, rfl, rfl, by rw [ht]; exact hP, hD⟩, hS.F ht⟩) hS.2.2 hd hlocks
theorem jw_s {D : KD} {X : KX} {cc : ByteArray} {own : String} {Ts : List Cond} {fr lo mc ms nL : Nat} {w : va_W} {k n pc : Nat} {lv : List (Nat × Value)} {st rest : List Value} {y : MethodName} {ws : List Cond} {fr' lo' : Nat} {As : List Value} {n0 idx maxY : Nat} {cy : ByteArray} {ret : Option FieldType} (C : Cx D X cc own Ts fr lo mc ms nL) {b L : Nat} {z : Nat → Int32} (S : kScr X b L z) (hM : MS (xl X) D y ws fr' lo' As b L z) (hF0 : MF y ws cy maxY ret n0) (hG : GoodIn Ts (va_wsS own idx y ws)) (hlen : As.length = n0) (hfr : fr' + 1 ≤ fr) (hlo : 8 + (maxY + 11) + lo' ≤ lo) (hmc : k ≤ mc) (hms : n ≤ ms) (hst : st = As.reverse ++ rest) (hcat : (rest.map fun v => v.category).sum ≤ 8) (hd : decode cc pc = .ok (.invokestatic idx, 3)) (kk : ∀ (r : Int32), J D X w k n (pc + 3) lv (.int r :: rest)) : J D X w k n pc lv st := by
  intro H locs ls hP hD hS hl
  obtain ⟨⟨ws', hws⟩, hp1, hp2, hp3⟩ := hF0
  obtain ⟨hR1, hR2, hR3, hR4⟩ := C.hR
  obtain ⟨hPc, hDc⟩ := kCut (wc := []) hP hD [] rfl rfl
  have hF := va_free (wc := []) hD hS C.hA [] rfl
  have hXH : va_X b L z (xs X) H := S.1.kept (hS.2.1 b S.2.1 S.2.2.1)
  refine va_calli (va_runS (As := As) (rest := rest) C.1 (hM H.size) (va_cwS n0 C.hts hG hws rfl rfl ⟨hp1, hp2, hp3⟩ ⟨by rw [hR1]; exact hfr, by rw [hR2]; exact hlo⟩) ⟨kPreS.blind, fun U hU hW => ⟨rfl, ⟨by rw [hU], by rw [hU]; exact hPc, ⟨va_K.moved hW.alike C.hK, C.hN.moved hW⟩, hDc⟩, by rw [hU]; exact hXH.moved hW.alike, Nat.lt_of_lt_of_le S.2.1 hS.1, S.2.2.2⟩⟩ rfl hlen hl.1 hst (lv_room hcat) hd ⟨by rw [hR3]; exact hmc, by rw [hR4]; exact hms⟩) hS (fun q _ h => hF q h) hF (fun r w1 t H1 locs1 ht hvm hw hB hz1 hk1 hS => ?_)
  obtain ⟨hP1, hD1⟩ := hB
  rw [ht] at hP1
  have hw : w1 = [] := hw
  subst hw
  obtain ⟨hP, hD⟩ := kPut_ok (wc := []) hP hD [] rfl rfl hk1 hF hP1 hD1
  have e : kPut w [] [] = w := List.append_nil w
  rw [e] at hP hD
  exact kk r H1 locs1 ls hP hD hS hl
