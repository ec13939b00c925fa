def mIn : Nat → Int32 := upd (upd (fun _ => 0) 0 1000) 1 200
theorem KR_init : KR 1000 200 0 0 0 (fun _ => 0) (fun _ => 0) (fun _ => 0) (fun _ => 0) (fun _ => 0) mIn 0 := ⟨by decide, by decide, by decide, by decide, by decide, rfl, rfl, ⟨by decide, by decide, fun i hi => absurd hi (Nat.not_lt_zero i)⟩, fun i hi => absurd hi (Nat.not_lt_zero i)⟩

