theorem rdA_le {tx : Nat → Int32} {t : Nat} : ∀ (f p n : Nat) (m : Nat → Int32), p ≤ t → (rdA tx t f p n m).2.1 ≤ t
  | 0, p, n, m, h => h
  | f + 1, p, n, m, h => by
    by_cases h0 : p < t
    · by_cases h1 : rh tx t p = 115
      · by_cases h2 : rSo tx t p = true
        · rw [rdA_st h0 h1 h2]
          exact rdA_le f _ _ _ (rSp_le h)
        · rw [rdA_sf h0 h1 (by simpa using h2)]
          exact rSp_le h
      · by_cases h16 : n = 16
        · subst h16
          rw [rdA_16 h0 h1]
          exact h
        · rw [rdA, if_neg (by omega), if_neg h1, if_neg h16]
          by_cases h2 : rBo tx t p = true
          · rw [if_pos h2]
            exact rdA_le f _ _ _ (rBp_le h)
          · rw [if_neg h2]
            exact rBp_le h
    · rw [rdA_e (by omega)]
      exact h
theorem rdT_le {tx : Nat → Int32} {t : Nat} {m : Nat → Int32} : (rdT tx t m).2.1 ≤ t := rdA_le t 0 0 (mZ m) (Nat.zero_le _)
def mIn : Nat → Int32 := upd (upd (fun _ => 0) 0 1000) 1 200
theorem KR_init : KR 1000 200 0 0 0 (fun _ => 0) (fun _ => 0) (fun _ => 0) (fun _ => 0) (fun _ => 0) mIn 0 := ⟨by decide, by decide, by decide, by decide, by decide, rfl, rfl, ⟨by decide, by decide, fun i hi => absurd hi (Nat.not_lt_zero i)⟩, fun i hi => absurd hi (Nat.not_lt_zero i)⟩
