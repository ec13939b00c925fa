theorem inX5_undo_5 : ∀ w ∈ u_ws RX5 TX5 7, w ∈ wsX5_undo := by decide +kernel
theorem fgX5_undo_32 : FG wsX5_undo RX5 32 5 4 := ⟨RX5, TX5, 7, rfl, inX5_undo_5, by decide, by decide +kernel⟩
theorem mfX4_takeNewest : MF yX4_takeNewest wsX4_takeNewest cX4_takeNewest 2 (some (.object "KeelBlocks$Dock")) 0 := ⟨⟨_, rfl⟩, by decide +kernel, by decide +kernel, by decide +kernel⟩
theorem kp_KbDoBaDoBaHiTxRd_5 (D : KD) (A0 : Nat → Nat) (v0_0 : Nat) (v0_1 : Nat) (v0_2 : Nat) (v0_3 : Nat) (v0_4 : Nat) (v0_5 : Nat) (v0_6 : Nat) (A1 : Nat → Nat) (v1_0 : Int32) (v1_1 : Int32) (v1_2 : Int32) (v1_3 : Int32) (v1_4 : Int32) (v1_5 : Nat → Int32) (v1_6 : Nat → Int32) (v1_7 : Nat → Int32) (v1_8 : Nat → Int32) (v1_9 : Nat → Int32) (A2 : Nat → Nat) (v2_0 : Int32) (v2_1 : Int32) (v2_2 : Int32) (v2_3 : Int32) (v2_4 : Int64) (v2_5 : Int64) (v2_6 : Int64) (v2_7 : Nat → Int32) (v2_8 : Nat → Int64) (A3 : Nat → Nat) (v3_0 : Int32) (v3_1 : Int32) (v3_2 : Int32) (v3_3 : Int32) (v3_4 : Int32) (v3_5 : Nat → Int32) (v3_6 : Nat → Int32) (v3_7 : Nat → Int32) (v3_8 : Nat → Int32) (v3_9 : Nat → Int32) (A4 : Nat → Nat) (v4_0 : Int32) (v4_1 : Int32) (v4_2 : Int32) (v4_3 : Int32) (v4_4 : Int64) (v4_5 : Int64) (v4_6 : Int64) (v4_7 : Nat → Int32) (v4_8 : Nat → Int64) (A5 : Nat → Nat) (v5_0 : Int32) (v5_1 : Int32) (v5_2 : Nat → Option Nat) (A6 : Nat → Nat) (v6_0 : Int32) (v6_1 : Nat → Int32) (A7 : Nat → Nat) (v7_0 : Nat) (v7_1 : Int32) (v7_2 : Int32) (u5_0 : Int32) (u5_1 : Int32) (u5_2 : Nat → Option Nat) : kPut (wKb D A0 v0_0 v0_1 v0_2 v0_3 v0_4 v0_5 v0_6 ++ (wDo D A1 v1_0 v1_1 v1_2 v1_3 v1_4 v1_5 v1_6 v1_7 v1_8 v1_9 ++ (wBa D A2 v2_0 v2_1 v2_2 v2_3 v2_4 v2_5 v2_6 v2_7 v2_8 ++ (wDo D A3 v3_0 v3_1 v3_2 v3_3 v3_4 v3_5 v3_6 v3_7 v3_8 v3_9 ++ (wBa D A4 v4_0 v4_1 v4_2 v4_3 v4_4 v4_5 v4_6 v4_7 v4_8 ++ (wHi D A5 v5_0 v5_1 v5_2 ++ (wTx D A6 v6_0 v6_1 ++ (wRd D A7 v7_0 v7_1 v7_2)))))))) [19, 20] (wHi D A5 u5_0 u5_1 u5_2) = (wKb D A0 v0_0 v0_1 v0_2 v0_3 v0_4 v0_5 v0_6 ++ (wDo D A1 v1_0 v1_1 v1_2 v1_3 v1_4 v1_5 v1_6 v1_7 v1_8 v1_9 ++ (wBa D A2 v2_0 v2_1 v2_2 v2_3 v2_4 v2_5 v2_6 v2_7 v2_8 ++ (wDo D A3 v3_0 v3_1 v3_2 v3_3 v3_4 v3_5 v3_6 v3_7 v3_8 v3_9 ++ (wBa D A4 v4_0 v4_1 v4_2 v4_3 v4_4 v4_5 v4_6 v4_7 v4_8 ++ (wHi D A5 u5_0 u5_1 u5_2 ++ (wTx D A6 v6_0 v6_1 ++ (wRd D A7 v7_0 v7_1 v7_2)))))))) := by
  refine Eq.trans (congrArg (kPut _ _) (show (wHi D A5 u5_0 u5_1 u5_2) = ((wHi D A5 u5_0 u5_1 u5_2) ++ []) from by simp only [List.append_nil])) ?_
  refine (kPut_blk (P := (wKb D A0 v0_0 v0_1 v0_2 v0_3 v0_4 v0_5 v0_6 ++ (wDo D A1 v1_0 v1_1 v1_2 v1_3 v1_4 v1_5 v1_6 v1_7 v1_8 v1_9 ++ (wBa D A2 v2_0 v2_1 v2_2 v2_3 v2_4 v2_5 v2_6 v2_7 v2_8 ++ (wDo D A3 v3_0 v3_1 v3_2 v3_3 v3_4 v3_5 v3_6 v3_7 v3_8 v3_9 ++ (wBa D A4 v4_0 v4_1 v4_2 v4_3 v4_4 v4_5 v4_6 v4_7 v4_8)))))) (B := (wHi D A5 v5_0 v5_1 v5_2)) (B' := (wHi D A5 u5_0 u5_1 u5_2)) (Q := (wTx D A6 v6_0 v6_1 ++ (wRd D A7 v7_0 v7_1 v7_2))) (W' := (wKb D A0 v0_0 v0_1 v0_2 v0_3 v0_4 v0_5 v0_6 ++ (wDo D A1 v1_0 v1_1 v1_2 v1_3 v1_4 v1_5 v1_6 v1_7 v1_8 v1_9 ++ (wBa D A2 v2_0 v2_1 v2_2 v2_3 v2_4 v2_5 v2_6 v2_7 v2_8 ++ (wDo D A3 v3_0 v3_1 v3_2 v3_3 v3_4 v3_5 v3_6 v3_7 v3_8 v3_9 ++ (wBa D A4 v4_0 v4_1 v4_2 v4_3 v4_4 v4_5 v4_6 v4_7 v4_8 ++ (wHi D A5 u5_0 u5_1 u5_2 ++ (wTx D A6 v6_0 v6_1 ++ (wRd D A7 v7_0 v7_1 v7_2))))))))) (is := []) (p := 19) (q := 2) (by simp only [List.append_assoc, List.nil_append, List.append_nil]) (by simp only [List.append_assoc, List.nil_append, List.append_nil]) rfl rfl rfl (by decide)).trans ?_
  rw [kPut, List.append_nil]
theorem fgX5_undo_10 : FG wsX5_undo RX5 10 5 0 := ⟨RX5, TX5, 7, rfl, inX5_undo_5, by decide, by decide +kernel⟩
theorem kp_KbDoBaDoBaHiTxRdDo_1_8 (D : KD) (A0 : Nat → Nat) (v0_0 : Nat) (v0_1 : Nat) (v0_2 : Nat) (v0_3 : Nat) (v0_4 : Nat) (v0_5 : Nat) (v0_6 : Nat) (A1 : Nat → Nat) (v1_0 : Int32) (v1_1 : Int32) (v1_2 : Int32) (v1_3 : Int32) (v1_4 : Int32) (v1_5 : Nat → Int32) (v1_6 : Nat → Int32) (v1_7 : Nat → Int32) (v1_8 : Nat → Int32) (v1_9 : Nat → Int32) (A2 : Nat → Nat) (v2_0 : Int32) (v2_1 : Int32) (v2_2 : Int32) (v2_3 : Int32) (v2_4 : Int64) (v2_5 : Int64) (v2_6 : Int64) (v2_7 : Nat → Int32) (v2_8 : Nat → Int64) (A3 : Nat → Nat) (v3_0 : Int32) (v3_1 : Int32) (v3_2 : Int32) (v3_3 : Int32) (v3_4 : Int32) (v3_5 : Nat → Int32) (v3_6 : Nat → Int32) (v3_7 : Nat → Int32) (v3_8 : Nat → Int32) (v3_9 : Nat → Int32) (A4 : Nat → Nat) (v4_0 : Int32) (v4_1 : Int32) (v4_2 : Int32) (v4_3 : Int32) (v4_4 : Int64) (v4_5 : Int64) (v4_6 : Int64) (v4_7 : Nat → Int32) (v4_8 : Nat → Int64) (A5 : Nat → Nat) (v5_0 : Int32) (v5_1 : Int32) (v5_2 : Nat → Option Nat) (A6 : Nat → Nat) (v6_0 : Int32) (v6_1 : Nat → Int32) (A7 : Nat → Nat) (v7_0 : Nat) (v7_1 : Int32) (v7_2 : Int32) (A8 : Nat → Nat) (v8_0 : Int32) (v8_1 : Int32) (v8_2 : Int32) (v8_3 : Int32) (v8_4 : Int32) (v8_5 : Nat → Int32) (v8_6 : Nat → Int32) (v8_7 : Nat → Int32) (v8_8 : Nat → Int32) (v8_9 : Nat → Int32) (u1_0 : Int32) (u1_1 : Int32) (u1_2 : Int32) (u1_3 : Int32) (u1_4 : Int32) (u1_5 : Nat → Int32) (u1_6 : Nat → Int32) (u1_7 : Nat → Int32) (u1_8 : Nat → Int32) (u1_9 : Nat → Int32) (u8_0 : Int32) (u8_1 : Int32) (u8_2 : Int32) (u8_3 : Int32) (u8_4 : Int32) (u8_5 : Nat → Int32) (u8_6 : Nat → Int32) (u8_7 : Nat → Int32) (u8_8 : Nat → Int32) (u8_9 : Nat → Int32) : kPut (wKb D A0 v0_0 v0_1 v0_2 v0_3 v0_4 v0_5 v0_6 ++ (wDo D A1 v1_0 v1_1 v1_2 v1_3 v1_4 v1_5 v1_6 v1_7 v1_8 v1_9 ++ (wBa D A2 v2_0 v2_1 v2_2 v2_3 v2_4 v2_5 v2_6 v2_7 v2_8 ++ (wDo D A3 v3_0 v3_1 v3_2 v3_3 v3_4 v3_5 v3_6 v3_7 v3_8 v3_9 ++ (wBa D A4 v4_0 v4_1 v4_2 v4_3 v4_4 v4_5 v4_6 v4_7 v4_8 ++ (wHi D A5 v5_0 v5_1 v5_2 ++ (wTx D A6 v6_0 v6_1 ++ (wRd D A7 v7_0 v7_1 v7_2 ++ (wDo D A8 v8_0 v8_1 v8_2 v8_3 v8_4 v8_5 v8_6 v8_7 v8_8 v8_9))))))))) [1, 2, 3, 4, 5, 6, 24, 25, 26, 27, 28, 29] (wDo D A1 u1_0 u1_1 u1_2 u1_3 u1_4 u1_5 u1_6 u1_7 u1_8 u1_9 ++ (wDo D A8 u8_0 u8_1 u8_2 u8_3 u8_4 u8_5 u8_6 u8_7 u8_8 u8_9)) = (wKb D A0 v0_0 v0_1 v0_2 v0_3 v0_4 v0_5 v0_6 ++ (wDo D A1 u1_0 u1_1 u1_2 u1_3 u1_4 u1_5 u1_6 u1_7 u1_8 u1_9 ++ (wBa D A2 v2_0 v2_1 v2_2 v2_3 v2_4 v2_5 v2_6 v2_7 v2_8 ++ (wDo D A3 v3_0 v3_1 v3_2 v3_3 v3_4 v3_5 v3_6 v3_7 v3_8 v3_9 ++ (wBa D A4 v4_0 v4_1 v4_2 v4_3 v4_4 v4_5 v4_6 v4_7 v4_8 ++ (wHi D A5 v5_0 v5_1 v5_2 ++ (wTx D A6 v6_0 v6_1 ++ (wRd D A7 v7_0 v7_1 v7_2 ++ (wDo D A8 u8_0 u8_1 u8_2 u8_3 u8_4 u8_5 u8_6 u8_7 u8_8 u8_9))))))))) := by
  refine Eq.trans (congrArg (kPut _ _) (show (wDo D A1 u1_0 u1_1 u1_2 u1_3 u1_4 u1_5 u1_6 u1_7 u1_8 u1_9 ++ (wDo D A8 u8_0 u8_1 u8_2 u8_3 u8_4 u8_5 u8_6 u8_7 u8_8 u8_9)) = ((wDo D A1 u1_0 u1_1 u1_2 u1_3 u1_4 u1_5 u1_6 u1_7 u1_8 u1_9) ++ ((wDo D A8 u8_0 u8_1 u8_2 u8_3 u8_4 u8_5 u8_6 u8_7 u8_8 u8_9) ++ [])) from by simp only [List.append_nil])) ?_
  refine (kPut_blk (P := (wKb D A0 v0_0 v0_1 v0_2 v0_3 v0_4 v0_5 v0_6)) (B := (wDo D A1 v1_0 v1_1 v1_2 v1_3 v1_4 v1_5 v1_6 v1_7 v1_8 v1_9)) (B' := (wDo D A1 u1_0 u1_1 u1_2 u1_3 u1_4 u1_5 u1_6 u1_7 u1_8 u1_9)) (Q := (wBa D A2 v2_0 v2_1 v2_2 v2_3 v2_4 v2_5 v2_6 v2_7 v2_8 ++ (wDo D A3 v3_0 v3_1 v3_2 v3_3 v3_4 v3_5 v3_6 v3_7 v3_8 v3_9 ++ (wBa D A4 v4_0 v4_1 v4_2 v4_3 v4_4 v4_5 v4_6 v4_7 v4_8 ++ (wHi D A5 v5_0 v5_1 v5_2 ++ (wTx D A6 v6_0 v6_1 ++ (wRd D A7 v7_0 v7_1 v7_2 ++ (wDo D A8 v8_0 v8_1 v8_2 v8_3 v8_4 v8_5 v8_6 v8_7 v8_8 v8_9)))))))) (W' := (wKb D A0 v0_0 v0_1 v0_2 v0_3 v0_4 v0_5 v0_6 ++ (wDo D A1 u1_0 u1_1 u1_2 u1_3 u1_4 u1_5 u1_6 u1_7 u1_8 u1_9 ++ (wBa D A2 v2_0 v2_1 v2_2 v2_3 v2_4 v2_5 v2_6 v2_7 v2_8 ++ (wDo D A3 v3_0 v3_1 v3_2 v3_3 v3_4 v3_5 v3_6 v3_7 v3_8 v3_9 ++ (wBa D A4 v4_0 v4_1 v4_2 v4_3 v4_4 v4_5 v4_6 v4_7 v4_8 ++ (wHi D A5 v5_0 v5_1 v5_2 ++ (wTx D A6 v6_0 v6_1 ++ (wRd D A7 v7_0 v7_1 v7_2 ++ (wDo D A8 v8_0 v8_1 v8_2 v8_3 v8_4 v8_5 v8_6 v8_7 v8_8 v8_9)))))))))) (is := [24, 25, 26, 27, 28, 29]) (p := 1) (q := 6) (by simp only [List.append_assoc, List.nil_append, List.append_nil]) (by simp only [List.append_assoc, List.nil_append, List.append_nil]) rfl rfl rfl (by decide)).trans ?_
  refine (kPut_blk (P := (wKb D A0 v0_0 v0_1 v0_2 v0_3 v0_4 v0_5 v0_6 ++ (wDo D A1 u1_0 u1_1 u1_2 u1_3 u1_4 u1_5 u1_6 u1_7 u1_8 u1_9 ++ (wBa D A2 v2_0 v2_1 v2_2 v2_3 v2_4 v2_5 v2_6 v2_7 v2_8 ++ (wDo D A3 v3_0 v3_1 v3_2 v3_3 v3_4 v3_5 v3_6 v3_7 v3_8 v3_9 ++ (wBa D A4 v4_0 v4_1 v4_2 v4_3 v4_4 v4_5 v4_6 v4_7 v4_8 ++ (wHi D A5 v5_0 v5_1 v5_2 ++ (wTx D A6 v6_0 v6_1 ++ (wRd D A7 v7_0 v7_1 v7_2))))))))) (B := (wDo D A8 v8_0 v8_1 v8_2 v8_3 v8_4 v8_5 v8_6 v8_7 v8_8 v8_9)) (B' := (wDo D A8 u8_0 u8_1 u8_2 u8_3 u8_4 u8_5 u8_6 u8_7 u8_8 u8_9)) (Q := []) (W' := (wKb D A0 v0_0 v0_1 v0_2 v0_3 v0_4 v0_5 v0_6 ++ (wDo D A1 u1_0 u1_1 u1_2 u1_3 u1_4 u1_5 u1_6 u1_7 u1_8 u1_9 ++ (wBa D A2 v2_0 v2_1 v2_2 v2_3 v2_4 v2_5 v2_6 v2_7 v2_8 ++ (wDo D A3 v3_0 v3_1 v3_2 v3_3 v3_4 v3_5 v3_6 v3_7 v3_8 v3_9 ++ (wBa D A4 v4_0 v4_1 v4_2 v4_3 v4_4 v4_5 v4_6 v4_7 v4_8 ++ (wHi D A5 v5_0 v5_1 v5_2 ++ (wTx D A6 v6_0 v6_1 ++ (wRd D A7 v7_0 v7_1 v7_2 ++ (wDo D A8 u8_0 u8_1 u8_2 u8_3 u8_4 u8_5 u8_6 u8_7 u8_8 u8_9)))))))))) (is := []) (p := 24) (q := 6) (by simp only [List.append_assoc, List.nil_append, List.append_nil]) (by simp only [List.append_assoc, List.nil_append, List.append_nil]) rfl rfl rfl (by decide)).trans ?_
  rw [kPut, List.append_nil]
theorem fgX5_undo_19 : FG wsX5_undo RX5 19 5 1 := ⟨RX5, TX5, 7, rfl, inX5_undo_5, by decide, by decide +kernel⟩
theorem kp_KbDoBaDoBaHiTxRdDo_2_1 (D : KD) (A0 : Nat → Nat) (v0_0 : Nat) (v0_1 : Nat) (v0_2 : Nat) (v0_3 : Nat) (v0_4 : Nat) (v0_5 : Nat) (v0_6 : Nat) (A1 : Nat → Nat) (v1_0 : Int32) (v1_1 : Int32) (v1_2 : Int32) (v1_3 : Int32) (v1_4 : Int32) (v1_5 : Nat → Int32) (v1_6 : Nat → Int32) (v1_7 : Nat → Int32) (v1_8 : Nat → Int32) (v1_9 : Nat → Int32) (A2 : Nat → Nat) (v2_0 : Int32) (v2_1 : Int32) (v2_2 : Int32) (v2_3 : Int32) (v2_4 : Int64) (v2_5 : Int64) (v2_6 : Int64) (v2_7 : Nat → Int32) (v2_8 : Nat → Int64) (A3 : Nat → Nat) (v3_0 : Int32) (v3_1 : Int32) (v3_2 : Int32) (v3_3 : Int32) (v3_4 : Int32) (v3_5 : Nat → Int32) (v3_6 : Nat → Int32) (v3_7 : Nat → Int32) (v3_8 : Nat → Int32) (v3_9 : Nat → Int32) (A4 : Nat → Nat) (v4_0 : Int32) (v4_1 : Int32) (v4_2 : Int32) (v4_3 : Int32) (v4_4 : Int64) (v4_5 : Int64) (v4_6 : Int64) (v4_7 : Nat → Int32) (v4_8 : Nat → Int64) (A5 : Nat → Nat) (v5_0 : Int32) (v5_1 : Int32) (v5_2 : Nat → Option Nat) (A6 : Nat → Nat) (v6_0 : Int32) (v6_1 : Nat → Int32) (A7 : Nat → Nat) (v7_0 : Nat) (v7_1 : Int32) (v7_2 : Int32) (A8 : Nat → Nat) (v8_0 : Int32) (v8_1 : Int32) (v8_2 : Int32) (v8_3 : Int32) (v8_4 : Int32) (v8_5 : Nat → Int32) (v8_6 : Nat → Int32) (v8_7 : Nat → Int32) (v8_8 : Nat → Int32) (v8_9 : Nat → Int32) (u1_0 : Int32) (u1_1 : Int32) (u1_2 : Int32) (u1_3 : Int32) (u1_4 : Int32) (u1_5 : Nat → Int32) (u1_6 : Nat → Int32) (u1_7 : Nat → Int32) (u1_8 : Nat → Int32) (u1_9 : Nat → Int32) (u2_0 : Int32) (u2_1 : Int32) (u2_2 : Int32) (u2_3 : Int32) (u2_4 : Int64) (u2_5 : Int64) (u2_6 : Int64) (u2_7 : Nat → Int32) (u2_8 : Nat → Int64) : kPut (wKb D A0 v0_0 v0_1 v0_2 v0_3 v0_4 v0_5 v0_6 ++ (wDo D A1 v1_0 v1_1 v1_2 v1_3 v1_4 v1_5 v1_6 v1_7 v1_8 v1_9 ++ (wBa D A2 v2_0 v2_1 v2_2 v2_3 v2_4 v2_5 v2_6 v2_7 v2_8 ++ (wDo D A3 v3_0 v3_1 v3_2 v3_3 v3_4 v3_5 v3_6 v3_7 v3_8 v3_9 ++ (wBa D A4 v4_0 v4_1 v4_2 v4_3 v4_4 v4_5 v4_6 v4_7 v4_8 ++ (wHi D A5 v5_0 v5_1 v5_2 ++ (wTx D A6 v6_0 v6_1 ++ (wRd D A7 v7_0 v7_1 v7_2 ++ (wDo D A8 v8_0 v8_1 v8_2 v8_3 v8_4 v8_5 v8_6 v8_7 v8_8 v8_9))))))))) [7, 8, 9, 1, 2, 3, 4, 5, 6] (wBa D A2 u2_0 u2_1 u2_2 u2_3 u2_4 u2_5 u2_6 u2_7 u2_8 ++ (wDo D A1 u1_0 u1_1 u1_2 u1_3 u1_4 u1_5 u1_6 u1_7 u1_8 u1_9)) = (wKb D A0 v0_0 v0_1 v0_2 v0_3 v0_4 v0_5 v0_6 ++ (wDo D A1 u1_0 u1_1 u1_2 u1_3 u1_4 u1_5 u1_6 u1_7 u1_8 u1_9 ++ (wBa D A2 u2_0 u2_1 u2_2 u2_3 u2_4 u2_5 u2_6 u2_7 u2_8 ++ (wDo D A3 v3_0 v3_1 v3_2 v3_3 v3_4 v3_5 v3_6 v3_7 v3_8 v3_9 ++ (wBa D A4 v4_0 v4_1 v4_2 v4_3 v4_4 v4_5 v4_6 v4_7 v4_8 ++ (wHi D A5 v5_0 v5_1 v5_2 ++ (wTx D A6 v6_0 v6_1 ++ (wRd D A7 v7_0 v7_1 v7_2 ++ (wDo D A8 v8_0 v8_1 v8_2 v8_3 v8_4 v8_5 v8_6 v8_7 v8_8 v8_9))))))))) := by
  refine Eq.trans (congrArg (kPut _ _) (show (wBa D A2 u2_0 u2_1 u2_2 u2_3 u2_4 u2_5 u2_6 u2_7 u2_8 ++ (wDo D A1 u1_0 u1_1 u1_2 u1_3 u1_4 u1_5 u1_6 u1_7 u1_8 u1_9)) = ((wBa D A2 u2_0 u2_1 u2_2 u2_3 u2_4 u2_5 u2_6 u2_7 u2_8) ++ ((wDo D A1 u1_0 u1_1 u1_2 u1_3 u1_4 u1_5 u1_6 u1_7 u1_8 u1_9) ++ [])) from by simp only [List.append_nil])) ?_
  refine (kPut_blk (P := (wKb D A0 v0_0 v0_1 v0_2 v0_3 v0_4 v0_5 v0_6 ++ (wDo D A1 v1_0 v1_1 v1_2 v1_3 v1_4 v1_5 v1_6 v1_7 v1_8 v1_9))) (B := (wBa D A2 v2_0 v2_1 v2_2 v2_3 v2_4 v2_5 v2_6 v2_7 v2_8)) (B' := (wBa D A2 u2_0 u2_1 u2_2 u2_3 u2_4 u2_5 u2_6 u2_7 u2_8)) (Q := (wDo D A3 v3_0 v3_1 v3_2 v3_3 v3_4 v3_5 v3_6 v3_7 v3_8 v3_9 ++ (wBa D A4 v4_0 v4_1 v4_2 v4_3 v4_4 v4_5 v4_6 v4_7 v4_8 ++ (wHi D A5 v5_0 v5_1 v5_2 ++ (wTx D A6 v6_0 v6_1 ++ (wRd D A7 v7_0 v7_1 v7_2 ++ (wDo D A8 v8_0 v8_1 v8_2 v8_3 v8_4 v8_5 v8_6 v8_7 v8_8 v8_9))))))) (W' := (wKb D A0 v0_0 v0_1 v0_2 v0_3 v0_4 v0_5 v0_6 ++ (wDo D A1 v1_0 v1_1 v1_2 v1_3 v1_4 v1_5 v1_6 v1_7 v1_8 v1_9 ++ (wBa D A2 u2_0 u2_1 u2_2 u2_3 u2_4 u2_5 u2_6 u2_7 u2_8 ++ (wDo D A3 v3_0 v3_1 v3_2 v3_3 v3_4 v3_5 v3_6 v3_7 v3_8 v3_9 ++ (wBa D A4 v4_0 v4_1 v4_2 v4_3 v4_4 v4_5 v4_6 v4_7 v4_8 ++ (wHi D A5 v5_0 v5_1 v5_2 ++ (wTx D A6 v6_0 v6_1 ++ (wRd D A7 v7_0 v7_1 v7_2 ++ (wDo D A8 v8_0 v8_1 v8_2 v8_3 v8_4 v8_5 v8_6 v8_7 v8_8 v8_9)))))))))) (is := [1, 2, 3, 4, 5, 6]) (p := 7) (q := 3) (by simp only [List.append_assoc, List.nil_append, List.append_nil]) (by simp only [List.append_assoc, List.nil_append, List.append_nil]) rfl rfl rfl (by decide)).trans ?_
  refine (kPut_blk (P := (wKb D A0 v0_0 v0_1 v0_2 v0_3 v0_4 v0_5 v0_6)) (B := (wDo D A1 v1_0 v1_1 v1_2 v1_3 v1_4 v1_5 v1_6 v1_7 v1_8 v1_9)) (B' := (wDo D A1 u1_0 u1_1 u1_2 u1_3 u1_4 u1_5 u1_6 u1_7 u1_8 u1_9)) (Q := (wBa D A2 u2_0 u2_1 u2_2 u2_3 u2_4 u2_5 u2_6 u2_7 u2_8 ++ (wDo D A3 v3_0 v3_1 v3_2 v3_3 v3_4 v3_5 v3_6 v3_7 v3_8 v3_9 ++ (wBa D A4 v4_0 v4_1 v4_2 v4_3 v4_4 v4_5 v4_6 v4_7 v4_8 ++ (wHi D A5 v5_0 v5_1 v5_2 ++ (wTx D A6 v6_0 v6_1 ++ (wRd D A7 v7_0 v7_1 v7_2 ++ (wDo D A8 v8_0 v8_1 v8_2 v8_3 v8_4 v8_5 v8_6 v8_7 v8_8 v8_9)))))))) (W' := (wKb D A0 v0_0 v0_1 v0_2 v0_3 v0_4 v0_5 v0_6 ++ (wDo D A1 u1_0 u1_1 u1_2 u1_3 u1_4 u1_5 u1_6 u1_7 u1_8 u1_9 ++ (wBa D A2 u2_0 u2_1 u2_2 u2_3 u2_4 u2_5 u2_6 u2_7 u2_8 ++ (wDo D A3 v3_0 v3_1 v3_2 v3_3 v3_4 v3_5 v3_6 v3_7 v3_8 v3_9 ++ (wBa D A4 v4_0 v4_1 v4_2 v4_3 v4_4 v4_5 v4_6 v4_7 v4_8 ++ (wHi D A5 v5_0 v5_1 v5_2 ++ (wTx D A6 v6_0 v6_1 ++ (wRd D A7 v7_0 v7_1 v7_2 ++ (wDo D A8 v8_0 v8_1 v8_2 v8_3 v8_4 v8_5 v8_6 v8_7 v8_8 v8_9)))))))))) (is := []) (p := 1) (q := 6) (by simp only [List.append_assoc, List.nil_append, List.append_nil]) (by simp only [List.append_assoc, List.nil_append, List.append_nil]) rfl rfl rfl (by decide)).trans ?_
  rw [kPut, List.append_nil]
theorem inX5_undo_4 : ∀ w ∈ u_ws RX4 TX4 3, w ∈ wsX5_undo := by decide +kernel
theorem fgX5_undo_230 : FG wsX5_undo RX5 230 4 0 := ⟨RX4, TX4, 3, rfl, inX5_undo_4, by decide, by decide +kernel⟩
theorem kX5_digest_233 : Cond.constantLong RX5 233 (106423) ∈ wsX5_digest := by decide +kernel
theorem inX5_digest_5 : ∀ w ∈ u_ws RX5 TX5 7, w ∈ wsX5_digest := by decide +kernel
theorem fgX5_digest_39 : FG wsX5_digest RX5 39 5 5 := ⟨RX5, TX5, 7, rfl, inX5_digest_5, by decide, by decide +kernel⟩
theorem inX5_digest_3 : ∀ w ∈ u_ws RX3 TX3 2, w ∈ wsX5_digest := by decide +kernel
theorem fgX5_digest_207 : FG wsX5_digest RX5 207 3 0 := ⟨RX3, TX3, 2, rfl, inX5_digest_3, by decide, by decide +kernel⟩
theorem fgX5_digest_10 : FG wsX5_digest RX5 10 5 0 := ⟨RX5, TX5, 7, rfl, inX5_digest_5, by decide, by decide +kernel⟩
theorem inX5_digest_1 : ∀ w ∈ u_ws RX1 TX1 10, w ∈ wsX5_digest := by decide +kernel
theorem fgX5_digest_174 : FG wsX5_digest RX5 174 1 2 := ⟨RX1, TX1, 10, rfl, inX5_digest_1, by decide, by decide +kernel⟩
theorem kX5_digest_235 : Cond.constantLong RX5 235 (31) ∈ wsX5_digest := by decide +kernel
theorem fgX5_digest_32 : FG wsX5_digest RX5 32 5 4 := ⟨RX5, TX5, 7, rfl, inX5_digest_5, by decide, by decide +kernel⟩
theorem inX5_digest_4 : ∀ w ∈ u_ws RX4 TX4 3, w ∈ wsX5_digest := by decide +kernel
theorem fgX5_digest_230 : FG wsX5_digest RX5 230 4 0 := ⟨RX4, TX4, 3, rfl, inX5_digest_4, by decide, by decide +kernel⟩
theorem mfX5_block : MF yX5_block wsX5_block cX5_block 3 (some .int) 2 := ⟨⟨_, rfl⟩, by decide +kernel, by decide +kernel, by decide +kernel⟩
theorem kp_KbDoBaDoBaHiTxRd_0_1_2 (D : KD) (A0 : Nat → Nat) (v0_0 : Nat) (v0_1 : Nat) (v0_2 : Nat) (v0_3 : Nat) (v0_4 : Nat) (v0_5 : Nat) (v0_6 : Nat) (A1 : Nat → Nat) (v1_0 : Int32) (v1_1 : Int32) (v1_2 : Int32) (v1_3 : Int32) (v1_4 : Int32) (v1_5 : Nat → Int32) (v1_6 : Nat → Int32) (v1_7 : Nat → Int32) (v1_8 : Nat → Int32) (v1_9 : Nat → Int32) (A2 : Nat → Nat) (v2_0 : Int32) (v2_1 : Int32) (v2_2 : Int32) (v2_3 : Int32) (v2_4 : Int64) (v2_5 : Int64) (v2_6 : Int64) (v2_7 : Nat → Int32) (v2_8 : Nat → Int64) (A3 : Nat → Nat) (v3_0 : Int32) (v3_1 : Int32) (v3_2 : Int32) (v3_3 : Int32) (v3_4 : Int32) (v3_5 : Nat → Int32) (v3_6 : Nat → Int32) (v3_7 : Nat → Int32) (v3_8 : Nat → Int32) (v3_9 : Nat → Int32) (A4 : Nat → Nat) (v4_0 : Int32) (v4_1 : Int32) (v4_2 : Int32) (v4_3 : Int32) (v4_4 : Int64) (v4_5 : Int64) (v4_6 : Int64) (v4_7 : Nat → Int32) (v4_8 : Nat → Int64) (A5 : Nat → Nat) (v5_0 : Int32) (v5_1 : Int32) (v5_2 : Nat → Option Nat) (A6 : Nat → Nat) (v6_0 : Int32) (v6_1 : Nat → Int32) (A7 : Nat → Nat) (v7_0 : Nat) (v7_1 : Int32) (v7_2 : Int32) (u0_0 : Nat) (u0_1 : Nat) (u0_2 : Nat) (u0_3 : Nat) (u0_4 : Nat) (u0_5 : Nat) (u0_6 : Nat) (u1_0 : Int32) (u1_1 : Int32) (u1_2 : Int32) (u1_3 : Int32) (u1_4 : Int32) (u1_5 : Nat → Int32) (u1_6 : Nat → Int32) (u1_7 : Nat → Int32) (u1_8 : Nat → Int32) (u1_9 : Nat → Int32) (u2_0 : Int32) (u2_1 : Int32) (u2_2 : Int32) (u2_3 : Int32) (u2_4 : Int64) (u2_5 : Int64) (u2_6 : Int64) (u2_7 : Nat → Int32) (u2_8 : Nat → Int64) : kPut (wKb D A0 v0_0 v0_1 v0_2 v0_3 v0_4 v0_5 v0_6 ++ (wDo D A1 v1_0 v1_1 v1_2 v1_3 v1_4 v1_5 v1_6 v1_7 v1_8 v1_9 ++ (wBa D A2 v2_0 v2_1 v2_2 v2_3 v2_4 v2_5 v2_6 v2_7 v2_8 ++ (wDo D A3 v3_0 v3_1 v3_2 v3_3 v3_4 v3_5 v3_6 v3_7 v3_8 v3_9 ++ (wBa D A4 v4_0 v4_1 v4_2 v4_3 v4_4 v4_5 v4_6 v4_7 v4_8 ++ (wHi D A5 v5_0 v5_1 v5_2 ++ (wTx D A6 v6_0 v6_1 ++ (wRd D A7 v7_0 v7_1 v7_2)))))))) [0, 1, 2, 3, 4, 5, 6, 7, 8, 9] (wKb D A0 u0_0 u0_1 u0_2 u0_3 u0_4 u0_5 u0_6 ++ (wDo D A1 u1_0 u1_1 u1_2 u1_3 u1_4 u1_5 u1_6 u1_7 u1_8 u1_9 ++ (wBa D A2 u2_0 u2_1 u2_2 u2_3 u2_4 u2_5 u2_6 u2_7 u2_8))) = (wKb D A0 u0_0 u0_1 u0_2 u0_3 u0_4 u0_5 u0_6 ++ (wDo D A1 u1_0 u1_1 u1_2 u1_3 u1_4 u1_5 u1_6 u1_7 u1_8 u1_9 ++ (wBa D A2 u2_0 u2_1 u2_2 u2_3 u2_4 u2_5 u2_6 u2_7 u2_8 ++ (wDo D A3 v3_0 v3_1 v3_2 v3_3 v3_4 v3_5 v3_6 v3_7 v3_8 v3_9 ++ (wBa D A4 v4_0 v4_1 v4_2 v4_3 v4_4 v4_5 v4_6 v4_7 v4_8 ++ (wHi D A5 v5_0 v5_1 v5_2 ++ (wTx D A6 v6_0 v6_1 ++ (wRd D A7 v7_0 v7_1 v7_2)))))))) := by
  refine Eq.trans (congrArg (kPut _ _) (show (wKb D A0 u0_0 u0_1 u0_2 u0_3 u0_4 u0_5 u0_6 ++ (wDo D A1 u1_0 u1_1 u1_2 u1_3 u1_4 u1_5 u1_6 u1_7 u1_8 u1_9 ++ (wBa D A2 u2_0 u2_1 u2_2 u2_3 u2_4 u2_5 u2_6 u2_7 u2_8))) = ((wKb D A0 u0_0 u0_1 u0_2 u0_3 u0_4 u0_5 u0_6) ++ ((wDo D A1 u1_0 u1_1 u1_2 u1_3 u1_4 u1_5 u1_6 u1_7 u1_8 u1_9) ++ ((wBa D A2 u2_0 u2_1 u2_2 u2_3 u2_4 u2_5 u2_6 u2_7 u2_8) ++ []))) from by simp only [List.append_nil])) ?_
  refine (kPut_blk (P := []) (B := (wKb D A0 v0_0 v0_1 v0_2 v0_3 v0_4 v0_5 v0_6)) (B' := (wKb D A0 u0_0 u0_1 u0_2 u0_3 u0_4 u0_5 u0_6)) (Q := (wDo D A1 v1_0 v1_1 v1_2 v1_3 v1_4 v1_5 v1_6 v1_7 v1_8 v1_9 ++ (wBa D A2 v2_0 v2_1 v2_2 v2_3 v2_4 v2_5 v2_6 v2_7 v2_8 ++ (wDo D A3 v3_0 v3_1 v3_2 v3_3 v3_4 v3_5 v3_6 v3_7 v3_8 v3_9 ++ (wBa D A4 v4_0 v4_1 v4_2 v4_3 v4_4 v4_5 v4_6 v4_7 v4_8 ++ (wHi D A5 v5_0 v5_1 v5_2 ++ (wTx D A6 v6_0 v6_1 ++ (wRd D A7 v7_0 v7_1 v7_2)))))))) (W' := (wKb D A0 u0_0 u0_1 u0_2 u0_3 u0_4 u0_5 u0_6 ++ (wDo D A1 v1_0 v1_1 v1_2 v1_3 v1_4 v1_5 v1_6 v1_7 v1_8 v1_9 ++ (wBa D A2 v2_0 v2_1 v2_2 v2_3 v2_4 v2_5 v2_6 v2_7 v2_8 ++ (wDo D A3 v3_0 v3_1 v3_2 v3_3 v3_4 v3_5 v3_6 v3_7 v3_8 v3_9 ++ (wBa D A4 v4_0 v4_1 v4_2 v4_3 v4_4 v4_5 v4_6 v4_7 v4_8 ++ (wHi D A5 v5_0 v5_1 v5_2 ++ (wTx D A6 v6_0 v6_1 ++ (wRd D A7 v7_0 v7_1 v7_2))))))))) (is := [1, 2, 3, 4, 5, 6, 7, 8, 9]) (p := 0) (q := 1) (by simp only [List.append_assoc, List.nil_append, List.append_nil]) (by simp only [List.append_assoc, List.nil_append, List.append_nil]) rfl rfl rfl (by decide)).trans ?_
  refine (kPut_blk (P := (wKb D A0 u0_0 u0_1 u0_2 u0_3 u0_4 u0_5 u0_6)) (B := (wDo D A1 v1_0 v1_1 v1_2 v1_3 v1_4 v1_5 v1_6 v1_7 v1_8 v1_9)) (B' := (wDo D A1 u1_0 u1_1 u1_2 u1_3 u1_4 u1_5 u1_6 u1_7 u1_8 u1_9)) (Q := (wBa D A2 v2_0 v2_1 v2_2 v2_3 v2_4 v2_5 v2_6 v2_7 v2_8 ++ (wDo D A3 v3_0 v3_1 v3_2 v3_3 v3_4 v3_5 v3_6 v3_7 v3_8 v3_9 ++ (wBa D A4 v4_0 v4_1 v4_2 v4_3 v4_4 v4_5 v4_6 v4_7 v4_8 ++ (wHi D A5 v5_0 v5_1 v5_2 ++ (wTx D A6 v6_0 v6_1 ++ (wRd D A7 v7_0 v7_1 v7_2))))))) (W' := (wKb D A0 u0_0 u0_1 u0_2 u0_3 u0_4 u0_5 u0_6 ++ (wDo D A1 u1_0 u1_1 u1_2 u1_3 u1_4 u1_5 u1_6 u1_7 u1_8 u1_9 ++ (wBa D A2 v2_0 v2_1 v2_2 v2_3 v2_4 v2_5 v2_6 v2_7 v2_8 ++ (wDo D A3 v3_0 v3_1 v3_2 v3_3 v3_4 v3_5 v3_6 v3_7 v3_8 v3_9 ++ (wBa D A4 v4_0 v4_1 v4_2 v4_3 v4_4 v4_5 v4_6 v4_7 v4_8 ++ (wHi D A5 v5_0 v5_1 v5_2 ++ (wTx D A6 v6_0 v6_1 ++ (wRd D A7 v7_0 v7_1 v7_2))))))))) (is := [7, 8, 9]) (p := 1) (q := 6) (by simp only [List.append_assoc, List.nil_append, List.append_nil]) (by simp only [List.append_assoc, List.nil_append, List.append_nil]) rfl rfl rfl (by decide)).trans ?_
  refine (kPut_blk (P := (wKb D A0 u0_0 u0_1 u0_2 u0_3 u0_4 u0_5 u0_6 ++ (wDo D A1 u1_0 u1_1 u1_2 u1_3 u1_4 u1_5 u1_6 u1_7 u1_8 u1_9))) (B := (wBa D A2 v2_0 v2_1 v2_2 v2_3 v2_4 v2_5 v2_6 v2_7 v2_8)) (B' := (wBa D A2 u2_0 u2_1 u2_2 u2_3 u2_4 u2_5 u2_6 u2_7 u2_8)) (Q := (wDo D A3 v3_0 v3_1 v3_2 v3_3 v3_4 v3_5 v3_6 v3_7 v3_8 v3_9 ++ (wBa D A4 v4_0 v4_1 v4_2 v4_3 v4_4 v4_5 v4_6 v4_7 v4_8 ++ (wHi D A5 v5_0 v5_1 v5_2 ++ (wTx D A6 v6_0 v6_1 ++ (wRd D A7 v7_0 v7_1 v7_2)))))) (W' := (wKb D A0 u0_0 u0_1 u0_2 u0_3 u0_4 u0_5 u0_6 ++ (wDo D A1 u1_0 u1_1 u1_2 u1_3 u1_4 u1_5 u1_6 u1_7 u1_8 u1_9 ++ (wBa D A2 u2_0 u2_1 u2_2 u2_3 u2_4 u2_5 u2_6 u2_7 u2_8 ++ (wDo D A3 v3_0 v3_1 v3_2 v3_3 v3_4 v3_5 v3_6 v3_7 v3_8 v3_9 ++ (wBa D A4 v4_0 v4_1 v4_2 v4_3 v4_4 v4_5 v4_6 v4_7 v4_8 ++ (wHi D A5 v5_0 v5_1 v5_2 ++ (wTx D A6 v6_0 v6_1 ++ (wRd D A7 v7_0 v7_1 v7_2))))))))) (is := []) (p := 7) (q := 3) (by simp only [List.append_assoc, List.nil_append, List.append_nil]) (by simp only [List.append_assoc, List.nil_append, List.append_nil]) rfl rfl rfl (by decide)).trans ?_
  rw [kPut, List.append_nil]
theorem mfX5_balance : MF yX5_balance wsX5_balance cX5_balance 2 (some .long) 1 := ⟨⟨_, rfl⟩, by decide +kernel, by decide +kernel, by decide +kernel⟩
theorem mfX5_value : MF yX5_value wsX5_value cX5_value 2 (some .int) 1 := ⟨⟨_, rfl⟩, by decide +kernel, by decide +kernel, by decide +kernel⟩
theorem mX5_init_methodLink_RX5_1_objectInit : (Cond.methodLink RX5 1 objectInit : Cond) ∈ wsX5_init := by decide +kernel
theorem mX5_init_instanceMethod_objectInit : (Cond.instanceMethod objectInit : Cond) ∈ wsX5_init := by decide +kernel
theorem mX5_init_code_objectInit_0xb1_1_none : (Cond.code objectInit ⟨#[0xb1]⟩ 1 none : Cond) ∈ wsX5_init := by decide +kernel
theorem inX5_init_1 : ∀ w ∈ u_ws RX1 TX1 10, w ∈ wsX5_init := by decide +kernel
theorem fnX5_init_7 : FN wsX5_init RX5 7 1 10 [.int 0, .int 0, .int 0, .int 0, .int 0, .null, .null, .null, .null, .null] := ⟨RX1, TX1, tyX1, rfl, inX5_init_1, tyX1_ok, by decide +kernel, by decide +kernel, by decide +kernel, by decide +kernel⟩
theorem mX5_init_instanceMethod_yX1_init : (Cond.instanceMethod yX1_init : Cond) ∈ wsX5_init := by decide +kernel
theorem mX5_init_initialized_RX1 : (Cond.initialized RX1 : Cond) ∈ wsX5_init := by decide +kernel
theorem inX5_init_5 : ∀ w ∈ u_ws RX5 TX5 7, w ∈ wsX5_init := by decide +kernel
theorem foX5_init_10 : FS wsX5_init RX5 10 5 0 true (.object "KeelBlocks$Dock") := ⟨RX5, TX5, 7, tyX5, rfl, inX5_init_5, by decide, by decide +kernel, tyX5_ok, nmX5, by decide +kernel, by decide +kernel, by decide +kernel⟩
theorem inX5_init_0 : ∀ w ∈ u_ws RX0 TX0 9, w ∈ wsX5_init := by decide +kernel
theorem fnX5_init_16 : FN wsX5_init RX5 16 0 9 [.int 0, .int 0, .int 0, .int 0, .long 0, .long 0, .long 0, .null, .null] := ⟨RX0, TX0, tyX0, rfl, inX5_init_0, tyX0_ok, by decide +kernel, by decide +kernel, by decide +kernel, by decide +kernel⟩
theorem mfX0_init : MF yX0_init wsX0_init cX0_init 1 none 0 := ⟨⟨_, rfl⟩, by decide +kernel, by decide +kernel, by decide +kernel⟩
theorem mX5_init_instanceMethod_yX0_init : (Cond.instanceMethod yX0_init : Cond) ∈ wsX5_init := by decide +kernel
theorem mX5_init_initialized_RX0 : (Cond.initialized RX0 : Cond) ∈ wsX5_init := by decide +kernel
theorem foX5_init_19 : FS wsX5_init RX5 19 5 1 true (.object "KeelBlocks$Balance") := ⟨RX5, TX5, 7, tyX5, rfl, inX5_init_5, by decide, by decide +kernel, tyX5_ok, nmX5, by decide +kernel, by decide +kernel, by decide +kernel⟩
theorem foX5_init_23 : FS wsX5_init RX5 23 5 2 true (.object "KeelBlocks$Dock") := ⟨RX5, TX5, 7, tyX5, rfl, inX5_init_5, by decide, by decide +kernel, tyX5_ok, nmX5, by decide +kernel, by decide +kernel, by decide +kernel⟩
theorem foX5_init_26 : FS wsX5_init RX5 26 5 3 true (.object "KeelBlocks$Balance") := ⟨RX5, TX5, 7, tyX5, rfl, inX5_init_5, by decide, by decide +kernel, tyX5_ok, nmX5, by decide +kernel, by decide +kernel, by decide +kernel⟩
theorem inX5_init_4 : ∀ w ∈ u_ws RX4 TX4 3, w ∈ wsX5_init := by decide +kernel
theorem fnX5_init_29 : FN wsX5_init RX5 29 4 3 [.int 0, .int 0, .null] := ⟨RX4, TX4, tyX4, rfl, inX5_init_4, tyX4_ok, by decide +kernel, by decide +kernel, by decide +kernel, by decide +kernel⟩
theorem mfX4_init : MF yX4_init wsX4_init cX4_init 1 none 0 := ⟨⟨_, rfl⟩, by decide +kernel, by decide +kernel, by decide +kernel⟩
theorem mX5_init_instanceMethod_yX4_init : (Cond.instanceMethod yX4_init : Cond) ∈ wsX5_init := by decide +kernel
theorem mX5_init_initialized_RX4 : (Cond.initialized RX4 : Cond) ∈ wsX5_init := by decide +kernel
theorem foX5_init_32 : FS wsX5_init RX5 32 5 4 true (.object "KeelBlocks$History") := ⟨RX5, TX5, 7, tyX5, rfl, inX5_init_5, by decide, by decide +kernel, tyX5_ok, nmX5, by decide +kernel, by decide +kernel, by decide +kernel⟩
theorem inX5_init_3 : ∀ w ∈ u_ws RX3 TX3 2, w ∈ wsX5_init := by decide +kernel
theorem fnX5_init_36 : FN wsX5_init RX5 36 3 2 [.int 0, .null] := ⟨RX3, TX3, tyX3, rfl, inX5_init_3, tyX3_ok, by decide +kernel, by decide +kernel, by decide +kernel, by decide +kernel⟩
theorem mfX3_init : MF yX3_init wsX3_init cX3_init 1 none 0 := ⟨⟨_, rfl⟩, by decide +kernel, by decide +kernel, by decide +kernel⟩
theorem mX5_init_instanceMethod_yX3_init : (Cond.instanceMethod yX3_init : Cond) ∈ wsX5_init := by decide +kernel
theorem mX5_init_initialized_RX3 : (Cond.initialized RX3 : Cond) ∈ wsX5_init := by decide +kernel
theorem foX5_init_39 : FS wsX5_init RX5 39 5 5 true (.object "KeelBlocks$DockText") := ⟨RX5, TX5, 7, tyX5, rfl, inX5_init_5, by decide, by decide +kernel, tyX5_ok, nmX5, by decide +kernel, by decide +kernel, by decide +kernel⟩
theorem inX5_init_2 : ∀ w ∈ u_ws RX2 TX2 3, w ∈ wsX5_init := by decide +kernel
theorem fnX5_init_43 : FN wsX5_init RX5 43 2 3 [.null, .int 0, .int 0] := ⟨RX2, TX2, tyX2, rfl, inX5_init_2, tyX2_ok, by decide +kernel, by decide +kernel, by decide +kernel, by decide +kernel⟩
theorem fgX5_init_39 : FG wsX5_init RX5 39 5 5 := ⟨RX5, TX5, 7, rfl, inX5_init_5, by decide, by decide +kernel⟩
theorem mfX2_init : MF yX2_init wsX2_init cX2_init 2 none 1 := ⟨⟨_, rfl⟩, by decide +kernel, by decide +kernel, by decide +kernel⟩
theorem mX5_init_methodLink_RX5_45_yX2_init : (Cond.methodLink RX5 45 yX2_init : Cond) ∈ wsX5_init := by decide +kernel
theorem mX5_init_instanceMethod_yX2_init : (Cond.instanceMethod yX2_init : Cond) ∈ wsX5_init := by decide +kernel
theorem mX5_init_initialized_RX2 : (Cond.initialized RX2 : Cond) ∈ wsX5_init := by decide +kernel
theorem foX5_init_48 : FS wsX5_init RX5 48 5 6 true (.object "KeelBlocks$DockReader") := ⟨RX5, TX5, 7, tyX5, rfl, inX5_init_5, by decide, by decide +kernel, tyX5_ok, nmX5, by decide +kernel, by decide +kernel, by decide +kernel⟩
theorem fgX5_init_19 : FG wsX5_init RX5 19 5 1 := ⟨RX5, TX5, 7, rfl, inX5_init_5, by decide, by decide +kernel⟩
theorem fgX5_init_10 : FG wsX5_init RX5 10 5 0 := ⟨RX5, TX5, 7, rfl, inX5_init_5, by decide, by decide +kernel⟩
theorem ctX4_takeNewest (l : Launch) (D : KD) (g o : Nat → Nat) (s nw : Nat) (hs : s < 4) (hnw : nw < 4) (sl : Nat → Option Nat) (hsl : sl nw = some (o 0)) : MO l D yX4_takeNewest wsX4_takeNewest 1 22 0 0 [.ref (g 0)] (wHi D g (nI (s + 1)) (nI nw) sl) (fun r w1 => r = some (o 0) ∧ w1 = wHi D g (nI s) (nI ((nw + 3) % 4)) sl) := by
  cases nw with
  | zero => exact ctX4_takeNewestZ l D g o s hs sl hsl
  | succ v =>
    have e : (v + 1 + 3) % 4 = v := by omega
    rw [e]
    exact ctX4_takeNewestP l D g o s v hs (by omega) sl hsl

set_option maxRecDepth 100000 in
set_option maxHeartbeats 600000 in
theorem ctX5_undo (l : Launch) (D : KD) (x a b a2 b2 g tt rr : Nat → Nat) (we ce co sg cr : Int32) (Pp Kp Hp Lp Sp : Nat → Int32) (cu : Nat → Int64) (we2 ce2 co2 sg2 cr2 : Int32) (Pp2 Kp2 Hp2 Lp2 Sp2 : Nat → Int32) (sd2 rd2 be2 ov2 : Int32) (qa2 qb2 qd2 : Int64) (lo2 : Nat → Int32) (cu2 : Nat → Int64) (po er : Int32) (m sv tx : Nat → Int32) (n s t nw k : Nat) (oa : Nat → Nat → Nat) (f : Nat → Dk) (hK : KR we ce co sg cr Pp Kp Hp Lp Sp m n) (hH : HR nw (s + 1) k f sv) (ht : t ≤ 160)  : MI l D yX5_undo wsX5_undo 4 104 0 0 [.ref (x 0)] ((wKb D x (a 0) (b 0) (a2 0) (b2 0) (g 0) (tt 0) (rr 0) ++ (wDo D a we ce co sg cr Pp Kp Hp Lp Sp ++ (wBa D b (bI (mR m n).1) (nI (mR m n).2.1) (mBe m n) (mOv m n) ((mR m n).2.2.2.1) ((mR m n).2.2.2.2.1) ((mR m n).2.2.2.2.2) (mLo m n) cu ++ (wDo D a2 we2 ce2 co2 sg2 cr2 Pp2 Kp2 Hp2 Lp2 Sp2 ++ (wBa D b2 sd2 rd2 be2 ov2 qa2 qb2 qd2 lo2 cu2 ++ (wHi D g (nI (s + 1)) (nI nw) (slF oa k) ++ (wTx D tt (nI t) tx ++ (wRd D rr (tt 0) po er)))))))) ++ (wPl D oa f k)) (fun r w1 => r = nI s ∧ ∃ n' : Nat, kW D x a b a2 b2 g tt rr k oa (svP sv s) n' sv s tx t w1) := by
  refine MI.of (cc := cX5_undo) (nL := 2) (lv0 := [(0, .ref (x 0))]) (by decide +kernel) rfl (Nat.le_of_ble_eq_true rfl) rfl ?_
  intro X hXl hin C ret
  subst hXl
  have hn := KR_n hK
  have hc := KR_c hK
  have hV := KR_V hK
  have hco := KR_co hK
  have hnw := hH.1
  have hs := hH.2.1
  obtain ⟨hH2, hlt, n', hKs⟩ := HR_undo hH
  have hslo : slF oa k nw = some ((oa ((nw + 3) % 4)) 0) := by unfold slF; rw [if_pos ⟨hnw, hlt⟩]
  refine j_aload_n C 0 dX5_undo_0 rfl rfl ?_
  refine j_get C 0 fgX5_undo_32 rfl rfl dX5_undo_1 ?_
  refine j_cv_o C (As := []) (rest := []) (ctX4_takeNewest (xl X) D g (oa ((nw + 3) % 4)) s nw (by omega) hnw (slF oa k) hslo) mfX4_takeNewest gX5_undo_X4_takeNewest rfl (Nat.le_of_ble_eq_true rfl) (Nat.le_of_ble_eq_true rfl) (Nat.le_of_ble_eq_true rfl) (Nat.le_of_ble_eq_true rfl) [19, 20] (tl_hC0 (K := (wKb D x (a 0) (b 0) (a2 0) (b2 0) (g 0) (tt 0) (rr 0) ++ (wDo D a we ce co sg cr Pp Kp Hp Lp Sp ++ (wBa D b (bI (mR m n).1) (nI (mR m n).2.1) (mBe m n) (mOv m n) ((mR m n).2.2.2.1) ((mR m n).2.2.2.2.1) ((mR m n).2.2.2.2.2) (mLo m n) cu ++ (wDo D a2 we2 ce2 co2 sg2 cr2 Pp2 Kp2 Hp2 Lp2 Sp2 ++ (wBa D b2 sd2 rd2 be2 ov2 qa2 qb2 qd2 lo2 cu2 ++ (wHi D g (nI (s + 1)) (nI nw) (slF oa k) ++ (wTx D tt (nI t) tx ++ (wRd D rr (tt 0) po er))))))))) (wPl D oa f k) (is := [19, 20]) (Kc := (wHi D g (nI (s + 1)) (nI nw) (slF oa k))) rfl) rfl 0 rfl rfl rfl rfl (Nat.le_of_ble_eq_true rfl) dX5_undo_4 ?_
  rintro r_4 _ ⟨rfl, rfl⟩
  refine ⟨Eq.trans (b := [g 0, g 1]) rfl rfl, ?_⟩
  refine j_w (w' := ((wKb D x (a 0) (b 0) (a2 0) (b2 0) (g 0) (tt 0) (rr 0) ++ (wDo D a we ce co sg cr Pp Kp Hp Lp Sp ++ (wBa D b (bI (mR m n).1) (nI (mR m n).2.1) (mBe m n) (mOv m n) ((mR m n).2.2.2.1) ((mR m n).2.2.2.2.1) ((mR m n).2.2.2.2.2) (mLo m n) cu ++ (wDo D a2 we2 ce2 co2 sg2 cr2 Pp2 Kp2 Hp2 Lp2 Sp2 ++ (wBa D b2 sd2 rd2 be2 ov2 qa2 qb2 qd2 lo2 cu2 ++ (wHi D g (nI s) (nI ((nw + 3) % 4)) (slF oa k) ++ (wTx D tt (nI t) tx ++ (wRd D rr (tt 0) po er)))))))) ++ (wPl D oa f k))) ((tl_put0 (tl := (wPl D oa f k)) [19, 20] (wKb D x (a 0) (b 0) (a2 0) (b2 0) (g 0) (tt 0) (rr 0) ++ (wDo D a we ce co sg cr Pp Kp Hp Lp Sp ++ (wBa D b (bI (mR m n).1) (nI (mR m n).2.1) (mBe m n) (mOv m n) ((mR m n).2.2.2.1) ((mR m n).2.2.2.2.1) ((mR m n).2.2.2.2.2) (mLo m n) cu ++ (wDo D a2 we2 ce2 co2 sg2 cr2 Pp2 Kp2 Hp2 Lp2 Sp2 ++ (wBa D b2 sd2 rd2 be2 ov2 qa2 qb2 qd2 lo2 cu2 ++ (wHi D g (nI (s + 1)) (nI nw) (slF oa k) ++ (wTx D tt (nI t) tx ++ (wRd D rr (tt 0) po er)))))))) (wHi D g (nI s) (nI ((nw + 3) % 4)) (slF oa k)) rfl (is_lt (Kc := (wHi D g (nI (s + 1)) (nI nw) (slF oa k))) rfl)).trans (congrArg (fun z => z ++ (wPl D oa f k)) (kp_KbDoBaDoBaHiTxRd_5 D x (a 0) (b 0) (a2 0) (b2 0) (g 0) (tt 0) (rr 0) a we ce co sg cr Pp Kp Hp Lp Sp b (bI (mR m n).1) (nI (mR m n).2.1) (mBe m n) (mOv m n) ((mR m n).2.2.2.1) ((mR m n).2.2.2.2.1) ((mR m n).2.2.2.2.2) (mLo m n) cu a2 we2 ce2 co2 sg2 cr2 Pp2 Kp2 Hp2 Lp2 Sp2 b2 sd2 rd2 be2 ov2 qa2 qb2 qd2 lo2 cu2 g (nI (s + 1)) (nI nw) (slF oa k) tt (nI t) tx rr (tt 0) po er (nI s) (nI ((nw + 3) % 4)) (slF oa k)))) ?_
  refine j_st (st' := [.ref ((oa ((nw + 3) % 4)) 0)]) rfl ?_
  obtain ⟨⟨we3, ce3, co3, sg3, cr3, Pp3, Kp3, Hp3, Lp3, Sp3⟩, hσ⟩ : ∃ σ, f ((nw + 3) % 4) = σ := ⟨_, rfl⟩
  have e1 := wPl_perm (D := D) (oa := oa) (f := f) k hlt
  rw [hσ] at e1
  refine j_perm (w' := ((wKb D x (a 0) (b 0) (a2 0) (b2 0) (g 0) (tt 0) (rr 0) ++ (wDo D a we ce co sg cr Pp Kp Hp Lp Sp ++ (wBa D b (bI (mR m n).1) (nI (mR m n).2.1) (mBe m n) (mOv m n) ((mR m n).2.2.2.1) ((mR m n).2.2.2.2.1) ((mR m n).2.2.2.2.2) (mLo m n) cu ++ (wDo D a2 we2 ce2 co2 sg2 cr2 Pp2 Kp2 Hp2 Lp2 Sp2 ++ (wBa D b2 sd2 rd2 be2 ov2 qa2 qb2 qd2 lo2 cu2 ++ (wHi D g (nI s) (nI ((nw + 3) % 4)) (slF oa k) ++ (wTx D tt (nI t) tx ++ (wRd D rr (tt 0) po er ++ (wDo D (oa ((nw + 3) % 4)) we3 ce3 co3 sg3 cr3 Pp3 Kp3 Hp3 Lp3 Sp3))))))))) ++ (wPx D oa f ((nw + 3) % 4) k))) ?_ ?_
  · refine (List.Perm.append_left _ e1.symm).trans ?_
    show ((wKb D x (a 0) (b 0) (a2 0) (b2 0) (g 0) (tt 0) (rr 0) ++ (wDo D a we ce co sg cr Pp Kp Hp Lp Sp ++ (wBa D b (bI (mR m n).1) (nI (mR m n).2.1) (mBe m n) (mOv m n) ((mR m n).2.2.2.1) ((mR m n).2.2.2.2.1) ((mR m n).2.2.2.2.2) (mLo m n) cu ++ (wDo D a2 we2 ce2 co2 sg2 cr2 Pp2 Kp2 Hp2 Lp2 Sp2 ++ (wBa D b2 sd2 rd2 be2 ov2 qa2 qb2 qd2 lo2 cu2 ++ (wHi D g (nI s) (nI ((nw + 3) % 4)) (slF oa k) ++ (wTx D tt (nI t) tx ++ (wRd D rr (tt 0) po er)))))))) ++ (wDo D (oa ((nw + 3) % 4)) we3 ce3 co3 sg3 cr3 Pp3 Kp3 Hp3 Lp3 Sp3 ++ (wPx D oa f ((nw + 3) % 4) k))).Perm ((wKb D x (a 0) (b 0) (a2 0) (b2 0) (g 0) (tt 0) (rr 0) ++ (wDo D a we ce co sg cr Pp Kp Hp Lp Sp ++ (wBa D b (bI (mR m n).1) (nI (mR m n).2.1) (mBe m n) (mOv m n) ((mR m n).2.2.2.1) ((mR m n).2.2.2.2.1) ((mR m n).2.2.2.2.2) (mLo m n) cu ++ (wDo D a2 we2 ce2 co2 sg2 cr2 Pp2 Kp2 Hp2 Lp2 Sp2 ++ (wBa D b2 sd2 rd2 be2 ov2 qa2 qb2 qd2 lo2 cu2 ++ (wHi D g (nI s) (nI ((nw + 3) % 4)) (slF oa k) ++ (wTx D tt (nI t) tx ++ (wRd D rr (tt 0) po er ++ (wDo D (oa ((nw + 3) % 4)) we3 ce3 co3 sg3 cr3 Pp3 Kp3 Hp3 Lp3 Sp3))))))))) ++ (wPx D oa f ((nw + 3) % 4) k))
    simp only [List.append_assoc]
    exact List.Perm.refl _
  refine j_astore_n C dX5_undo_7 rfl (by decide) (lv' := [(1, .ref ((oa ((nw + 3) % 4)) 0)), (0, .ref (x 0))]) rfl ?_
  refine j_aload_n C 0 dX5_undo_8 rfl rfl ?_
  refine j_ifnonnull C dX5_undo_9 (tgt := 22) (by decide) ?_
  refine j_aload_n C 1 dX5_undo_22 rfl rfl ?_
  refine j_get C 0 fgX5_undo_10 rfl rfl dX5_undo_23 ?_
  refine j_aload_n C 0 dX5_undo_26 rfl rfl ?_
  refine j_cv_v C (As := [.ref ((oa ((nw + 3) % 4)) 0)]) (rest := []) (ctX1_copyFrom (xl X) D a (oa ((nw + 3) % 4)) we ce co sg cr Pp Kp Hp Lp Sp we3 ce3 co3 sg3 cr3 Pp3 Kp3 Hp3 Lp3 Sp3) mfX1_copyFrom gX5_undo_X1_copyFrom rfl (Nat.le_of_ble_eq_true rfl) (Nat.le_of_ble_eq_true rfl) (Nat.le_of_ble_eq_true rfl) (Nat.le_of_ble_eq_true rfl) [1, 2, 3, 4, 5, 6, 24, 25, 26, 27, 28, 29] (tl_hC0 (K := (wKb D x (a 0) (b 0) (a2 0) (b2 0) (g 0) (tt 0) (rr 0) ++ (wDo D a we ce co sg cr Pp Kp Hp Lp Sp ++ (wBa D b (bI (mR m n).1) (nI (mR m n).2.1) (mBe m n) (mOv m n) ((mR m n).2.2.2.1) ((mR m n).2.2.2.2.1) ((mR m n).2.2.2.2.2) (mLo m n) cu ++ (wDo D a2 we2 ce2 co2 sg2 cr2 Pp2 Kp2 Hp2 Lp2 Sp2 ++ (wBa D b2 sd2 rd2 be2 ov2 qa2 qb2 qd2 lo2 cu2 ++ (wHi D g (nI s) (nI ((nw + 3) % 4)) (slF oa k) ++ (wTx D tt (nI t) tx ++ (wRd D rr (tt 0) po er ++ (wDo D (oa ((nw + 3) % 4)) we3 ce3 co3 sg3 cr3 Pp3 Kp3 Hp3 Lp3 Sp3)))))))))) (wPx D oa f ((nw + 3) % 4) k) (is := [1, 2, 3, 4, 5, 6, 24, 25, 26, 27, 28, 29]) (Kc := (wDo D a we ce co sg cr Pp Kp Hp Lp Sp ++ (wDo D (oa ((nw + 3) % 4)) we3 ce3 co3 sg3 cr3 Pp3 Kp3 Hp3 Lp3 Sp3))) rfl) rfl 0 rfl rfl rfl rfl (Nat.le_of_ble_eq_true rfl) dX5_undo_27 ?_
  rintro _ rfl
  refine ⟨Eq.trans (b := [a 0, a 1, a 2, a 3, a 4, a 5, (oa ((nw + 3) % 4)) 0, (oa ((nw + 3) % 4)) 1, (oa ((nw + 3) % 4)) 2, (oa ((nw + 3) % 4)) 3, (oa ((nw + 3) % 4)) 4, (oa ((nw + 3) % 4)) 5]) rfl rfl, ?_⟩
  refine j_w (w' := ((wKb D x (a 0) (b 0) (a2 0) (b2 0) (g 0) (tt 0) (rr 0) ++ (wDo D a we3 ce3 co3 sg3 cr3 Pp3 Kp3 Hp3 Lp3 Sp3 ++ (wBa D b (bI (mR m n).1) (nI (mR m n).2.1) (mBe m n) (mOv m n) ((mR m n).2.2.2.1) ((mR m n).2.2.2.2.1) ((mR m n).2.2.2.2.2) (mLo m n) cu ++ (wDo D a2 we2 ce2 co2 sg2 cr2 Pp2 Kp2 Hp2 Lp2 Sp2 ++ (wBa D b2 sd2 rd2 be2 ov2 qa2 qb2 qd2 lo2 cu2 ++ (wHi D g (nI s) (nI ((nw + 3) % 4)) (slF oa k) ++ (wTx D tt (nI t) tx ++ (wRd D rr (tt 0) po er ++ (wDo D (oa ((nw + 3) % 4)) we3 ce3 co3 sg3 cr3 Pp3 Kp3 Hp3 Lp3 Sp3))))))))) ++ (wPx D oa f ((nw + 3) % 4) k))) ((tl_put0 (tl := (wPx D oa f ((nw + 3) % 4) k)) [1, 2, 3, 4, 5, 6, 24, 25, 26, 27, 28, 29] (wKb D x (a 0) (b 0) (a2 0) (b2 0) (g 0) (tt 0) (rr 0) ++ (wDo D a we ce co sg cr Pp Kp Hp Lp Sp ++ (wBa D b (bI (mR m n).1) (nI (mR m n).2.1) (mBe m n) (mOv m n) ((mR m n).2.2.2.1) ((mR m n).2.2.2.2.1) ((mR m n).2.2.2.2.2) (mLo m n) cu ++ (wDo D a2 we2 ce2 co2 sg2 cr2 Pp2 Kp2 Hp2 Lp2 Sp2 ++ (wBa D b2 sd2 rd2 be2 ov2 qa2 qb2 qd2 lo2 cu2 ++ (wHi D g (nI s) (nI ((nw + 3) % 4)) (slF oa k) ++ (wTx D tt (nI t) tx ++ (wRd D rr (tt 0) po er ++ (wDo D (oa ((nw + 3) % 4)) we3 ce3 co3 sg3 cr3 Pp3 Kp3 Hp3 Lp3 Sp3))))))))) (wDo D a we3 ce3 co3 sg3 cr3 Pp3 Kp3 Hp3 Lp3 Sp3 ++ (wDo D (oa ((nw + 3) % 4)) we3 ce3 co3 sg3 cr3 Pp3 Kp3 Hp3 Lp3 Sp3)) rfl (is_lt (Kc := (wDo D a we ce co sg cr Pp Kp Hp Lp Sp ++ (wDo D (oa ((nw + 3) % 4)) we3 ce3 co3 sg3 cr3 Pp3 Kp3 Hp3 Lp3 Sp3))) rfl)).trans (congrArg (fun z => z ++ (wPx D oa f ((nw + 3) % 4) k)) (kp_KbDoBaDoBaHiTxRdDo_1_8 D x (a 0) (b 0) (a2 0) (b2 0) (g 0) (tt 0) (rr 0) a we ce co sg cr Pp Kp Hp Lp Sp b (bI (mR m n).1) (nI (mR m n).2.1) (mBe m n) (mOv m n) ((mR m n).2.2.2.1) ((mR m n).2.2.2.2.1) ((mR m n).2.2.2.2.2) (mLo m n) cu a2 we2 ce2 co2 sg2 cr2 Pp2 Kp2 Hp2 Lp2 Sp2 b2 sd2 rd2 be2 ov2 qa2 qb2 qd2 lo2 cu2 g (nI s) (nI ((nw + 3) % 4)) (slF oa k) tt (nI t) tx rr (tt 0) po er (oa ((nw + 3) % 4)) we3 ce3 co3 sg3 cr3 Pp3 Kp3 Hp3 Lp3 Sp3 we3 ce3 co3 sg3 cr3 Pp3 Kp3 Hp3 Lp3 Sp3 we3 ce3 co3 sg3 cr3 Pp3 Kp3 Hp3 Lp3 Sp3))) ?_
  refine j_aload_n C 1 dX5_undo_30 rfl rfl ?_
  refine j_get C 0 fgX5_undo_19 rfl rfl dX5_undo_31 ?_
  refine j_aload_n C 1 dX5_undo_34 rfl rfl ?_
  refine j_get C 0 fgX5_undo_10 rfl rfl dX5_undo_35 ?_
  refine j_cv_v C (As := [.ref (a 0)]) (rest := []) (ctX0_findK (xl X) D b a (bI (mR m n).1) (nI (mR m n).2.1) (mBe m n) (mOv m n) ((mR m n).2.2.2.1) ((mR m n).2.2.2.2.1) ((mR m n).2.2.2.2.2) (mLo m n) cu we3 ce3 co3 sg3 cr3 Pp3 Kp3 Hp3 Lp3 Sp3 (svP sv s) n' (show KR we3 ce3 co3 sg3 cr3 Pp3 Kp3 Hp3 Lp3 Sp3 (svP sv s) n' from by have h9 := hKs; unfold KRk at h9; rw [hσ] at h9; exact h9)) mfX0_find gX5_undo_X0_find rfl (Nat.le_of_ble_eq_true rfl) (Nat.le_of_ble_eq_true rfl) (Nat.le_of_ble_eq_true rfl) (Nat.le_of_ble_eq_true rfl) [7, 8, 9, 1, 2, 3, 4, 5, 6] (tl_hC0 (K := (wKb D x (a 0) (b 0) (a2 0) (b2 0) (g 0) (tt 0) (rr 0) ++ (wDo D a we3 ce3 co3 sg3 cr3 Pp3 Kp3 Hp3 Lp3 Sp3 ++ (wBa D b (bI (mR m n).1) (nI (mR m n).2.1) (mBe m n) (mOv m n) ((mR m n).2.2.2.1) ((mR m n).2.2.2.2.1) ((mR m n).2.2.2.2.2) (mLo m n) cu ++ (wDo D a2 we2 ce2 co2 sg2 cr2 Pp2 Kp2 Hp2 Lp2 Sp2 ++ (wBa D b2 sd2 rd2 be2 ov2 qa2 qb2 qd2 lo2 cu2 ++ (wHi D g (nI s) (nI ((nw + 3) % 4)) (slF oa k) ++ (wTx D tt (nI t) tx ++ (wRd D rr (tt 0) po er ++ (wDo D (oa ((nw + 3) % 4)) we3 ce3 co3 sg3 cr3 Pp3 Kp3 Hp3 Lp3 Sp3)))))))))) (wPx D oa f ((nw + 3) % 4) k) (is := [7, 8, 9, 1, 2, 3, 4, 5, 6]) (Kc := (wBa D b (bI (mR m n).1) (nI (mR m n).2.1) (mBe m n) (mOv m n) ((mR m n).2.2.2.1) ((mR m n).2.2.2.2.1) ((mR m n).2.2.2.2.2) (mLo m n) cu ++ (wDo D a we3 ce3 co3 sg3 cr3 Pp3 Kp3 Hp3 Lp3 Sp3))) rfl) rfl 0 rfl rfl rfl rfl (Nat.le_of_ble_eq_true rfl) dX5_undo_38 ?_
  rintro _ ⟨cx_38, rfl⟩
  refine ⟨Eq.trans (b := [b 0, b 1, b 2, a 0, a 1, a 2, a 3, a 4, a 5]) rfl rfl, ?_⟩
  refine j_w (w' := ((wKb D x (a 0) (b 0) (a2 0) (b2 0) (g 0) (tt 0) (rr 0) ++ (wDo D a we3 ce3 co3 sg3 cr3 Pp3 Kp3 Hp3 Lp3 Sp3 ++ (wBa D b (bI (mR (svP sv s) n').1) (nI (mR (svP sv s) n').2.1) (mBe (svP sv s) n') (mOv (svP sv s) n') ((mR (svP sv s) n').2.2.2.1) ((mR (svP sv s) n').2.2.2.2.1) ((mR (svP sv s) n').2.2.2.2.2) (mLo (svP sv s) n') cx_38 ++ (wDo D a2 we2 ce2 co2 sg2 cr2 Pp2 Kp2 Hp2 Lp2 Sp2 ++ (wBa D b2 sd2 rd2 be2 ov2 qa2 qb2 qd2 lo2 cu2 ++ (wHi D g (nI s) (nI ((nw + 3) % 4)) (slF oa k) ++ (wTx D tt (nI t) tx ++ (wRd D rr (tt 0) po er ++ (wDo D (oa ((nw + 3) % 4)) we3 ce3 co3 sg3 cr3 Pp3 Kp3 Hp3 Lp3 Sp3))))))))) ++ (wPx D oa f ((nw + 3) % 4) k))) ((tl_put0 (tl := (wPx D oa f ((nw + 3) % 4) k)) [7, 8, 9, 1, 2, 3, 4, 5, 6] (wKb D x (a 0) (b 0) (a2 0) (b2 0) (g 0) (tt 0) (rr 0) ++ (wDo D a we3 ce3 co3 sg3 cr3 Pp3 Kp3 Hp3 Lp3 Sp3 ++ (wBa D b (bI (mR m n).1) (nI (mR m n).2.1) (mBe m n) (mOv m n) ((mR m n).2.2.2.1) ((mR m n).2.2.2.2.1) ((mR m n).2.2.2.2.2) (mLo m n) cu ++ (wDo D a2 we2 ce2 co2 sg2 cr2 Pp2 Kp2 Hp2 Lp2 Sp2 ++ (wBa D b2 sd2 rd2 be2 ov2 qa2 qb2 qd2 lo2 cu2 ++ (wHi D g (nI s) (nI ((nw + 3) % 4)) (slF oa k) ++ (wTx D tt (nI t) tx ++ (wRd D rr (tt 0) po er ++ (wDo D (oa ((nw + 3) % 4)) we3 ce3 co3 sg3 cr3 Pp3 Kp3 Hp3 Lp3 Sp3))))))))) (wBa D b (bI (mR (svP sv s) n').1) (nI (mR (svP sv s) n').2.1) (mBe (svP sv s) n') (mOv (svP sv s) n') ((mR (svP sv s) n').2.2.2.1) ((mR (svP sv s) n').2.2.2.2.1) ((mR (svP sv s) n').2.2.2.2.2) (mLo (svP sv s) n') cx_38 ++ (wDo D a we3 ce3 co3 sg3 cr3 Pp3 Kp3 Hp3 Lp3 Sp3)) rfl (is_lt (Kc := (wBa D b (bI (mR m n).1) (nI (mR m n).2.1) (mBe m n) (mOv m n) ((mR m n).2.2.2.1) ((mR m n).2.2.2.2.1) ((mR m n).2.2.2.2.2) (mLo m n) cu ++ (wDo D a we3 ce3 co3 sg3 cr3 Pp3 Kp3 Hp3 Lp3 Sp3))) rfl)).trans (congrArg (fun z => z ++ (wPx D oa f ((nw + 3) % 4) k)) (kp_KbDoBaDoBaHiTxRdDo_2_1 D x (a 0) (b 0) (a2 0) (b2 0) (g 0) (tt 0) (rr 0) a we3 ce3 co3 sg3 cr3 Pp3 Kp3 Hp3 Lp3 Sp3 b (bI (mR m n).1) (nI (mR m n).2.1) (mBe m n) (mOv m n) ((mR m n).2.2.2.1) ((mR m n).2.2.2.2.1) ((mR m n).2.2.2.2.2) (mLo m n) cu a2 we2 ce2 co2 sg2 cr2 Pp2 Kp2 Hp2 Lp2 Sp2 b2 sd2 rd2 be2 ov2 qa2 qb2 qd2 lo2 cu2 g (nI s) (nI ((nw + 3) % 4)) (slF oa k) tt (nI t) tx rr (tt 0) po er (oa ((nw + 3) % 4)) we3 ce3 co3 sg3 cr3 Pp3 Kp3 Hp3 Lp3 Sp3 we3 ce3 co3 sg3 cr3 Pp3 Kp3 Hp3 Lp3 Sp3 (bI (mR (svP sv s) n').1) (nI (mR (svP sv s) n').2.1) (mBe (svP sv s) n') (mOv (svP sv s) n') ((mR (svP sv s) n').2.2.2.1) ((mR (svP sv s) n').2.2.2.2.1) ((mR (svP sv s) n').2.2.2.2.2) (mLo (svP sv s) n') cx_38))) ?_
  refine j_perm (w' := ((wKb D x (a 0) (b 0) (a2 0) (b2 0) (g 0) (tt 0) (rr 0) ++ (wDo D a we3 ce3 co3 sg3 cr3 Pp3 Kp3 Hp3 Lp3 Sp3 ++ (wBa D b (bI (mR (svP sv s) n').1) (nI (mR (svP sv s) n').2.1) (mBe (svP sv s) n') (mOv (svP sv s) n') ((mR (svP sv s) n').2.2.2.1) ((mR (svP sv s) n').2.2.2.2.1) ((mR (svP sv s) n').2.2.2.2.2) (mLo (svP sv s) n') cx_38 ++ (wDo D a2 we2 ce2 co2 sg2 cr2 Pp2 Kp2 Hp2 Lp2 Sp2 ++ (wBa D b2 sd2 rd2 be2 ov2 qa2 qb2 qd2 lo2 cu2 ++ (wHi D g (nI s) (nI ((nw + 3) % 4)) (slF oa k) ++ (wTx D tt (nI t) tx ++ (wRd D rr (tt 0) po er)))))))) ++ (wPl D oa f k))) ?_ ?_
  · refine List.Perm.trans ?_ (List.Perm.append_left _ e1)
    simp only [List.append_assoc]
    exact List.Perm.refl _
  refine j_aload_n C 1 dX5_undo_41 rfl rfl ?_
  refine j_get C 0 fgX5_undo_32 rfl rfl dX5_undo_42 ?_
  refine j_get C 19 fgX5_undo_230 rfl rfl dX5_undo_45 ?_
  exact ret dX5_undo_48 (⟨rfl, n', _, _, _, _, _, _, _, _, _, _, _, _, _, _, _, _, _, _, _, _, _, _, _, _, _, _, _, _, _, _, _, _, _, _, _, _, (show KR we3 ce3 co3 sg3 cr3 Pp3 Kp3 Hp3 Lp3 Sp3 (svP sv s) n' from by have h9 := hKs; unfold KRk at h9; rw [hσ] at h9; exact h9), hH2, ht, (Nat.le_refl _), (fun _ _ => rfl), rfl⟩)

set_option maxRecDepth 100000 in
set_option maxHeartbeats 600000 in
theorem ctX5_blockE (l : Launch) (D : KD) (x a b : Nat → Nat) (k3 k4 k5 k6 k7 : Nat) (we ce co sg cr : Int32) (Pp Kp Hp Lp Sp : Nat → Int32) (cu : Nat → Int64) (m : Nat → Int32) (n : Nat) (hK : KR we ce co sg cr Pp Kp Hp Lp Sp m n) (i : Nat) (hi : i < n) (v : Nat) (hv : v < 9) : MI l D yX5_block wsX5_block 2 42 0 0 [.ref (x 0), .int (nI i), .int (nI v)] (wKb D x (a 0) (b 0) k3 k4 k5 k6 k7 ++ (wDo D a we ce co sg cr Pp Kp Hp Lp Sp ++ (wBa D b (bI (mR m n).1) (nI (mR m n).2.1) (mBe m n) (mOv m n) ((mR m n).2.2.2.1) ((mR m n).2.2.2.2.1) ((mR m n).2.2.2.2.2) (mLo m n) cu))) (fun r w1 => r = mBl m n i v ∧ w1 = (wKb D x (a 0) (b 0) k3 k4 k5 k6 k7 ++ (wDo D a we ce co sg cr Pp Kp Hp Lp Sp ++ (wBa D b (bI (mR m n).1) (nI (mR m n).2.1) (mBe m n) (mOv m n) ((mR m n).2.2.2.1) ((mR m n).2.2.2.2.1) ((mR m n).2.2.2.2.2) (mLo m n) cu)))) := by
  refine MI.of (cc := cX5_block) (nL := 3) (lv0 := [(0, .ref (x 0)), (1, .int (nI i)), (2, .int (nI v))]) (by decide +kernel) rfl (Nat.le_of_ble_eq_true rfl) rfl ?_
  intro X hXl hin C ret
  subst hXl
  have hn := KR_n hK
  have hc := KR_c hK
  have hV := KR_V hK
  have hco := KR_co hK
  have hb : dHas co (nI i) = true := by rw [KR_has hK]; exact pIn_blk hc hn hi
  refine j_aload_n C 0 dX5_block_0 rfl rfl ?_
  refine j_get C 0 fgX5_block_10 rfl rfl dX5_block_1 ?_
  refine j_iload_n C 1 dX5_block_4 rfl rfl ?_
  refine j_cv_i C (As := [.int (nI i)]) (rest := []) (ctX1_hasBlock (xl X) D a we ce co sg cr Pp Kp Hp Lp Sp (nI i)) mfX1_hasBlock gX5_block_X1_hasBlock rfl (Nat.le_of_ble_eq_true rfl) (Nat.le_of_ble_eq_true rfl) (Nat.le_of_ble_eq_true rfl) (Nat.le_of_ble_eq_true rfl) [1, 2, 3, 4, 5, 6] rfl rfl 0 rfl rfl rfl rfl (Nat.le_of_ble_eq_true rfl) dX5_block_5 ?_
  rintro _ _ ⟨rfl, rfl⟩
  refine ⟨Eq.trans (b := [a 0, a 1, a 2, a 3, a 4, a 5]) rfl rfl, ?_⟩
  refine j_w (w' := (wKb D x (a 0) (b 0) k3 k4 k5 k6 k7 ++ (wDo D a we ce co sg cr Pp Kp Hp Lp Sp ++ (wBa D b (bI (mR m n).1) (nI (mR m n).2.1) (mBe m n) (mOv m n) ((mR m n).2.2.2.1) ((mR m n).2.2.2.2.1) ((mR m n).2.2.2.2.2) (mLo m n) cu)))) rfl ?_
  refine j_bif_ne C dX5_block_8 (tgt := 21) (by decide) (fun _ => ?_) (fun h => (by rw [hb] at h; cases h))
  refine j_iload_n C 2 dX5_block_21 rfl rfl ?_
  by_cases hv0 : v = 0
  · refine j_tswIn C dX5_block_22 (by rw [hv0]; decide) (by rw [hv0]; decide) (off := 50) (by rw [hv0]; rfl) (tgt := 72) (by decide) ?_
    refine j_aload_n C 0 dX5_block_72 rfl rfl ?_
    refine j_get C 0 fgX5_block_10 rfl rfl dX5_block_73 ?_
    refine j_get C 1 fgX5_block_154 rfl rfl dX5_block_76 ?_
    refine j_iload_n C 1 dX5_block_79 rfl rfl ?_
    refine j_iald C 2 rfl (i := i) rfl (by omega) (by decide) dX5_block_80 ?_
    exact ret dX5_block_81 (⟨by subst hv0; exact (KR_at hK i hi).1, rfl⟩)
  by_cases hv1 : v = 1
  · refine j_tswIn C dX5_block_22 (by rw [hv1]; decide) (by rw [hv1]; decide) (off := 60) (by rw [hv1]; rfl) (tgt := 82) (by decide) ?_
    refine j_aload_n C 0 dX5_block_82 rfl rfl ?_
    refine j_get C 0 fgX5_block_10 rfl rfl dX5_block_83 ?_
    refine j_get C 1 fgX5_block_157 rfl rfl dX5_block_86 ?_
    refine j_iload_n C 1 dX5_block_89 rfl rfl ?_
    refine j_iald C 3 rfl (i := i) rfl (by omega) (by decide) dX5_block_90 ?_
    exact ret dX5_block_91 (⟨by subst hv1; exact (KR_at hK i hi).2.1, rfl⟩)
  by_cases hv2 : v = 2
  · refine j_tswIn C dX5_block_22 (by rw [hv2]; decide) (by rw [hv2]; decide) (off := 70) (by rw [hv2]; rfl) (tgt := 92) (by decide) ?_
    refine j_aload_n C 0 dX5_block_92 rfl rfl ?_
    refine j_get C 0 fgX5_block_10 rfl rfl dX5_block_93 ?_
    refine j_get C 1 fgX5_block_94 rfl rfl dX5_block_96 ?_
    refine j_iload_n C 1 dX5_block_99 rfl rfl ?_
    refine j_iald C 4 rfl (i := i) rfl (by omega) (by decide) dX5_block_100 ?_
    exact ret dX5_block_101 (⟨by subst hv2; exact (KR_at hK i hi).2.2.1, rfl⟩)
  by_cases hv3 : v = 3
  · refine j_tswIn C dX5_block_22 (by rw [hv3]; decide) (by rw [hv3]; decide) (off := 80) (by rw [hv3]; rfl) (tgt := 102) (by decide) ?_
    refine j_aload_n C 0 dX5_block_102 rfl rfl ?_
    refine j_get C 0 fgX5_block_10 rfl rfl dX5_block_103 ?_
    refine j_get C 1 fgX5_block_100 rfl rfl dX5_block_106 ?_
    refine j_iload_n C 1 dX5_block_109 rfl rfl ?_
    refine j_iald C 5 rfl (i := i) rfl (by omega) (by decide) dX5_block_110 ?_
    exact ret dX5_block_111 (⟨by subst hv3; exact (KR_at hK i hi).2.2.2.1, rfl⟩)
  by_cases hv4 : v = 4
  · refine j_tswIn C dX5_block_22 (by rw [hv4]; decide) (by rw [hv4]; decide) (off := 90) (by rw [hv4]; rfl) (tgt := 112) (by decide) ?_
    refine j_aload_n C 0 dX5_block_112 rfl rfl ?_
    refine j_get C 0 fgX5_block_10 rfl rfl dX5_block_113 ?_
    refine j_iload_n C 1 dX5_block_116 rfl rfl ?_
    refine j_cv_i C (As := [.int (nI i)]) (rest := []) (ctX1_stateOf (xl X) D a we ce co sg cr Pp Kp Hp Lp Sp i (by omega)) mfX1_stateOf gX5_block_X1_stateOf rfl (Nat.le_of_ble_eq_true rfl) (Nat.le_of_ble_eq_true rfl) (Nat.le_of_ble_eq_true rfl) (Nat.le_of_ble_eq_true rfl) [1, 2, 3, 4, 5, 6] rfl rfl 0 rfl rfl rfl rfl (Nat.le_of_ble_eq_true rfl) dX5_block_117 ?_
    rintro _ _ ⟨rfl, rfl⟩
    refine ⟨Eq.trans (b := [a 0, a 1, a 2, a 3, a 4, a 5]) rfl rfl, ?_⟩
    refine j_w (w' := (wKb D x (a 0) (b 0) k3 k4 k5 k6 k7 ++ (wDo D a we ce co sg cr Pp Kp Hp Lp Sp ++ (wBa D b (bI (mR m n).1) (nI (mR m n).2.1) (mBe m n) (mOv m n) ((mR m n).2.2.2.1) ((mR m n).2.2.2.2.1) ((mR m n).2.2.2.2.2) (mLo m n) cu)))) rfl ?_
    exact ret dX5_block_120 (⟨by subst hv4; exact KR_stt hK i hi, rfl⟩)
  by_cases hv5 : v = 5
  · refine j_tswIn C dX5_block_22 (by rw [hv5]; decide) (by rw [hv5]; decide) (off := 99) (by rw [hv5]; rfl) (tgt := 121) (by decide) ?_
    refine j_aload_n C 0 dX5_block_121 rfl rfl ?_
    refine j_get C 0 fgX5_block_19 rfl rfl dX5_block_122 ?_
    refine j_get C 7 fgX5_block_139 rfl rfl dX5_block_125 ?_
    refine j_iload_n C 1 dX5_block_128 rfl rfl ?_
    refine j_iald C 8 rfl (i := i) rfl (by omega) (by decide) dX5_block_129 ?_
    exact ret dX5_block_130 (⟨by subst hv5; exact rfl, rfl⟩)
  by_cases hv6 : v = 6
  · refine j_tswIn C dX5_block_22 (by rw [hv6]; decide) (by rw [hv6]; decide) (off := 109) (by rw [hv6]; rfl) (tgt := 131) (by decide) ?_
    refine j_aload_n C 0 dX5_block_131 rfl rfl ?_
    refine j_get C 0 fgX5_block_19 rfl rfl dX5_block_132 ?_
    refine j_get C 7 fgX5_block_163 rfl rfl dX5_block_135 ?_
    refine j_iload_n C 1 dX5_block_138 rfl rfl ?_
    refine j_cs_i C (As := [.int (mBe m n), .int (nI i)]) (rest := []) (ctX5_isMember (xl X) D (mBe m n) i (by omega)) mfX5_isMember gX5_block_X5_isMember rfl (Nat.le_of_ble_eq_true rfl) (Nat.le_of_ble_eq_true rfl) (Nat.le_of_ble_eq_true rfl) (Nat.le_of_ble_eq_true rfl) [] rfl rfl rfl (Nat.le_of_ble_eq_true rfl) dX5_block_139 ?_
    rintro _ _ ⟨rfl, rfl⟩
    refine ⟨Eq.trans (b := []) rfl rfl, ?_⟩
    refine j_w (w' := (wKb D x (a 0) (b 0) k3 k4 k5 k6 k7 ++ (wDo D a we ce co sg cr Pp Kp Hp Lp Sp ++ (wBa D b (bI (mR m n).1) (nI (mR m n).2.1) (mBe m n) (mOv m n) ((mR m n).2.2.2.1) ((mR m n).2.2.2.2.1) ((mR m n).2.2.2.2.2) (mLo m n) cu)))) rfl ?_
    refine j_bif_eq C dX5_block_142 (tgt := 149) (by decide) (fun h142 => ?_) (fun h142 => ?_)
    · refine j_iconst C (v := (0 : Int32)) dX5_block_149 rfl ?_
      exact ret dX5_block_150 (⟨by subst hv6; rw [be_bt] at h142; simp [mBl, blS, h142, bI], rfl⟩)
    · refine j_iconst C (v := (1 : Int32)) dX5_block_145 rfl ?_
      refine j_goto C dX5_block_146 (tgt := 150) (by decide) ?_
      exact ret dX5_block_150 (⟨by subst hv6; rw [be_bt] at h142; simp [mBl, blS, h142, bI], rfl⟩)
  by_cases hv7 : v = 7
  · refine j_tswIn C dX5_block_22 (by rw [hv7]; decide) (by rw [hv7]; decide) (off := 129) (by rw [hv7]; rfl) (tgt := 151) (by decide) ?_
    refine j_aload_n C 0 dX5_block_151 rfl rfl ?_
    refine j_get C 0 fgX5_block_19 rfl rfl dX5_block_152 ?_
    refine j_get C 7 fgX5_block_166 rfl rfl dX5_block_155 ?_
    refine j_iload_n C 1 dX5_block_158 rfl rfl ?_
    refine j_cs_i C (As := [.int (mOv m n), .int (nI i)]) (rest := []) (ctX5_isMember (xl X) D (mOv m n) i (by omega)) mfX5_isMember gX5_block_X5_isMember rfl (Nat.le_of_ble_eq_true rfl) (Nat.le_of_ble_eq_true rfl) (Nat.le_of_ble_eq_true rfl) (Nat.le_of_ble_eq_true rfl) [] rfl rfl rfl (Nat.le_of_ble_eq_true rfl) dX5_block_159 ?_
    rintro _ _ ⟨rfl, rfl⟩
    refine ⟨Eq.trans (b := []) rfl rfl, ?_⟩
    refine j_w (w' := (wKb D x (a 0) (b 0) k3 k4 k5 k6 k7 ++ (wDo D a we ce co sg cr Pp Kp Hp Lp Sp ++ (wBa D b (bI (mR m n).1) (nI (mR m n).2.1) (mBe m n) (mOv m n) ((mR m n).2.2.2.1) ((mR m n).2.2.2.2.1) ((mR m n).2.2.2.2.2) (mLo m n) cu)))) rfl ?_
    refine j_bif_eq C dX5_block_162 (tgt := 169) (by decide) (fun h162 => ?_) (fun h162 => ?_)
    · refine j_iconst C (v := (0 : Int32)) dX5_block_169 rfl ?_
      exact ret dX5_block_170 (⟨by subst hv7; rw [ov_bt hn hi] at h162; simp [mBl, blS, h162, bI], rfl⟩)
    · refine j_iconst C (v := (1 : Int32)) dX5_block_165 rfl ?_
      refine j_goto C dX5_block_166 (tgt := 170) (by decide) ?_
      exact ret dX5_block_170 (⟨by subst hv7; rw [ov_bt hn hi] at h162; simp [mBl, blS, h162, bI], rfl⟩)
  by_cases hv8 : v = 8
  · refine j_tswIn C dX5_block_22 (by rw [hv8]; decide) (by rw [hv8]; decide) (off := 149) (by rw [hv8]; rfl) (tgt := 171) (by decide) ?_
    refine j_aload_n C 0 dX5_block_171 rfl rfl ?_
    refine j_get C 0 fgX5_block_10 rfl rfl dX5_block_172 ?_
    refine j_get C 1 fgX5_block_169 rfl rfl dX5_block_175 ?_
    refine j_iload_n C 1 dX5_block_178 rfl rfl ?_
    refine j_iald C 6 rfl (i := i) rfl (by omega) (by decide) dX5_block_179 ?_
    exact ret dX5_block_180 (⟨by subst hv8; exact (KR_at hK i hi).2.2.2.2, rfl⟩)
  exact absurd hv (by omega)

set_option maxRecDepth 100000 in
set_option maxHeartbeats 600000 in
theorem ctX5_valueE (l : Launch) (D : KD) (x a b : Nat → Nat) (k3 k4 k5 k6 k7 : Nat) (we ce co sg cr : Int32) (Pp Kp Hp Lp Sp : Nat → Int32) (cu : Nat → Int64) (m : Nat → Int32) (n : Nat) (hK : KR we ce co sg cr Pp Kp Hp Lp Sp m n) (v : Nat) (hv : v < 10) : MI l D yX5_value wsX5_value 2 43 0 0 [.ref (x 0), .int (nI v)] (wKb D x (a 0) (b 0) k3 k4 k5 k6 k7 ++ (wDo D a we ce co sg cr Pp Kp Hp Lp Sp ++ (wBa D b (bI (mR m n).1) (nI (mR m n).2.1) (mBe m n) (mOv m n) ((mR m n).2.2.2.1) ((mR m n).2.2.2.2.1) ((mR m n).2.2.2.2.2) (mLo m n) cu))) (fun r w1 => r = mVl m n v ∧ w1 = (wKb D x (a 0) (b 0) k3 k4 k5 k6 k7 ++ (wDo D a we ce co sg cr Pp Kp Hp Lp Sp ++ (wBa D b (bI (mR m n).1) (nI (mR m n).2.1) (mBe m n) (mOv m n) ((mR m n).2.2.2.1) ((mR m n).2.2.2.2.1) ((mR m n).2.2.2.2.2) (mLo m n) cu)))) := by
  refine MI.of (cc := cX5_value) (nL := 2) (lv0 := [(0, .ref (x 0)), (1, .int (nI v))]) (by decide +kernel) rfl (Nat.le_of_ble_eq_true rfl) rfl ?_
  intro X hXl hin C ret
  subst hXl
  have hn := KR_n hK
  have hc := KR_c hK
  have hV := KR_V hK
  have hco := KR_co hK
  refine j_iload_n C 1 dX5_value_0 rfl rfl ?_
  by_cases hv0 : v = 0
  · refine j_tswIn C dX5_value_1 (by rw [hv0]; decide) (by rw [hv0]; decide) (off := 55) (by rw [hv0]; rfl) (tgt := 56) (by decide) ?_
    refine j_aload_n C 0 dX5_value_56 rfl rfl ?_
    refine j_get C 0 fgX5_value_10 rfl rfl dX5_value_57 ?_
    refine j_get C 1 fgX5_value_106 rfl rfl dX5_value_60 ?_
    exact ret dX5_value_63 (⟨by subst hv0; exact hK.1, rfl⟩)
  by_cases hv1 : v = 1
  · refine j_tswIn C dX5_value_1 (by rw [hv1]; decide) (by rw [hv1]; decide) (off := 63) (by rw [hv1]; rfl) (tgt := 64) (by decide) ?_
    refine j_aload_n C 0 dX5_value_64 rfl rfl ?_
    refine j_get C 0 fgX5_value_10 rfl rfl dX5_value_65 ?_
    refine j_get C 1 fgX5_value_110 rfl rfl dX5_value_68 ?_
    exact ret dX5_value_71 (⟨by subst hv1; exact hK.2.1, rfl⟩)
  by_cases hv2 : v = 2
  · refine j_tswIn C dX5_value_1 (by rw [hv2]; decide) (by rw [hv2]; decide) (off := 71) (by rw [hv2]; rfl) (tgt := 72) (by decide) ?_
    refine j_aload_n C 0 dX5_value_72 rfl rfl ?_
    refine j_get C 0 fgX5_value_10 rfl rfl dX5_value_73 ?_
    refine j_get C 1 fgX5_value_174 rfl rfl dX5_value_76 ?_
    exact ret dX5_value_79 (⟨by subst hv2; exact hco.trans hc.symm, rfl⟩)
  by_cases hv3 : v = 3
  · refine j_tswIn C dX5_value_1 (by rw [hv3]; decide) (by rw [hv3]; decide) (off := 79) (by rw [hv3]; rfl) (tgt := 80) (by decide) ?_
    refine j_aload_n C 0 dX5_value_80 rfl rfl ?_
    refine j_get C 0 fgX5_value_10 rfl rfl dX5_value_81 ?_
    refine j_get C 1 fgX5_value_122 rfl rfl dX5_value_84 ?_
    refine j_cs_i C (As := [.int sg]) (rest := []) (ctJ6_bitCount_0f7a4 (xl X) D sg (sb_st hK)) mfJ6_bitCount_0f7a4 gX5_value_J6_bitCount_0f7a4 rfl (Nat.le_of_ble_eq_true rfl) (Nat.le_of_ble_eq_true rfl) (Nat.le_of_ble_eq_true rfl) (Nat.le_of_ble_eq_true rfl) [] rfl rfl rfl (Nat.le_of_ble_eq_true rfl) dX5_value_87 ?_
    rintro _ _ ⟨rfl, rfl⟩
    refine ⟨Eq.trans (b := []) rfl rfl, ?_⟩
    refine j_w (w' := (wKb D x (a 0) (b 0) k3 k4 k5 k6 k7 ++ (wDo D a we ce co sg cr Pp Kp Hp Lp Sp ++ (wBa D b (bI (mR m n).1) (nI (mR m n).2.1) (mBe m n) (mOv m n) ((mR m n).2.2.2.1) ((mR m n).2.2.2.2.1) ((mR m n).2.2.2.2.2) (mLo m n) cu)))) rfl ?_
    exact ret dX5_value_90 (⟨by subst hv3; exact congrArg (fun z => cntI z 16) (KR_T hK), rfl⟩)
  by_cases hv4 : v = 4
  · refine j_tswIn C dX5_value_1 (by rw [hv4]; decide) (by rw [hv4]; decide) (off := 90) (by rw [hv4]; rfl) (tgt := 91) (by decide) ?_
    refine j_aload_n C 0 dX5_value_91 rfl rfl ?_
    refine j_get C 0 fgX5_value_19 rfl rfl dX5_value_92 ?_
    refine j_get C 7 fgX5_value_163 rfl rfl dX5_value_95 ?_
    refine j_cs_i C (As := [.int (mBe m n)]) (rest := []) (ctJ6_bitCount_0f7a4 (xl X) D (mBe m n) (sb_be hn)) mfJ6_bitCount_0f7a4 gX5_value_J6_bitCount_0f7a4 rfl (Nat.le_of_ble_eq_true rfl) (Nat.le_of_ble_eq_true rfl) (Nat.le_of_ble_eq_true rfl) (Nat.le_of_ble_eq_true rfl) [] rfl rfl rfl (Nat.le_of_ble_eq_true rfl) dX5_value_98 ?_
    rintro _ _ ⟨rfl, rfl⟩
    refine ⟨Eq.trans (b := []) rfl rfl, ?_⟩
    refine j_w (w' := (wKb D x (a 0) (b 0) k3 k4 k5 k6 k7 ++ (wDo D a we ce co sg cr Pp Kp Hp Lp Sp ++ (wBa D b (bI (mR m n).1) (nI (mR m n).2.1) (mBe m n) (mOv m n) ((mR m n).2.2.2.1) ((mR m n).2.2.2.2.1) ((mR m n).2.2.2.2.2) (mLo m n) cu)))) rfl ?_
    exact ret dX5_value_101 (⟨by subst hv4; exact be_cnt, rfl⟩)
  by_cases hv5 : v = 5
  · refine j_tswIn C dX5_value_1 (by rw [hv5]; decide) (by rw [hv5]; decide) (off := 101) (by rw [hv5]; rfl) (tgt := 102) (by decide) ?_
    refine j_aload_n C 0 dX5_value_102 rfl rfl ?_
    refine j_get C 0 fgX5_value_19 rfl rfl dX5_value_103 ?_
    refine j_get C 7 fgX5_value_166 rfl rfl dX5_value_106 ?_
    refine j_cs_i C (As := [.int (mOv m n)]) (rest := []) (ctJ6_bitCount_0f7a4 (xl X) D (mOv m n) (sb_ov hn)) mfJ6_bitCount_0f7a4 gX5_value_J6_bitCount_0f7a4 rfl (Nat.le_of_ble_eq_true rfl) (Nat.le_of_ble_eq_true rfl) (Nat.le_of_ble_eq_true rfl) (Nat.le_of_ble_eq_true rfl) [] rfl rfl rfl (Nat.le_of_ble_eq_true rfl) dX5_value_109 ?_
    rintro _ _ ⟨rfl, rfl⟩
    refine ⟨Eq.trans (b := []) rfl rfl, ?_⟩
    refine j_w (w' := (wKb D x (a 0) (b 0) k3 k4 k5 k6 k7 ++ (wDo D a we ce co sg cr Pp Kp Hp Lp Sp ++ (wBa D b (bI (mR m n).1) (nI (mR m n).2.1) (mBe m n) (mOv m n) ((mR m n).2.2.2.1) ((mR m n).2.2.2.2.1) ((mR m n).2.2.2.2.2) (mLo m n) cu)))) rfl ?_
    exact ret dX5_value_112 (⟨by subst hv5; exact rfl, rfl⟩)
  by_cases hv6 : v = 6
  · refine j_tswIn C dX5_value_1 (by rw [hv6]; decide) (by rw [hv6]; decide) (off := 112) (by rw [hv6]; rfl) (tgt := 113) (by decide) ?_
    refine j_aload_n C 0 dX5_value_113 rfl rfl ?_
    refine j_get C 0 fgX5_value_19 rfl rfl dX5_value_114 ?_
    refine j_get C 7 fgX5_value_135 rfl rfl dX5_value_117 ?_
    refine j_bif_eq C dX5_value_120 (tgt := 127) (by decide) (fun h120 => ?_) (fun h120 => ?_)
    · refine j_iconst C (v := (0 : Int32)) dX5_value_127 rfl ?_
      exact ret dX5_value_128 (⟨by subst hv6; simp [mVl, vlS, bI, h120], rfl⟩)
    · refine j_iconst C (v := (1 : Int32)) dX5_value_123 rfl ?_
      refine j_goto C dX5_value_124 (tgt := 128) (by decide) ?_
      exact ret dX5_value_128 (⟨by subst hv6; simp [mVl, vlS, bI, h120], rfl⟩)
  by_cases hv7 : v = 7
  · refine j_tswIn C dX5_value_1 (by rw [hv7]; decide) (by rw [hv7]; decide) (off := 128) (by rw [hv7]; rfl) (tgt := 129) (by decide) ?_
    refine j_aload_n C 0 dX5_value_129 rfl rfl ?_
    refine j_get C 0 fgX5_value_19 rfl rfl dX5_value_130 ?_
    refine j_get C 7 fgX5_value_177 rfl rfl dX5_value_133 ?_
    exact ret dX5_value_136 (⟨by subst hv7; exact rfl, rfl⟩)
  by_cases hv8 : v = 8
  · refine j_tswIn C dX5_value_1 (by rw [hv8]; decide) (by rw [hv8]; decide) (off := 136) (by rw [hv8]; rfl) (tgt := 137) (by decide) ?_
    refine j_aload_n C 0 dX5_value_137 rfl rfl ?_
    refine j_get C 0 fgX5_value_19 rfl rfl dX5_value_138 ?_
    refine j_cv_i C (As := []) (rest := []) (ctX0_greatestLoad (xl X) D b (bI (mR m n).1) (nI (mR m n).2.1) (mBe m n) (mOv m n) ((mR m n).2.2.2.1) ((mR m n).2.2.2.2.1) ((mR m n).2.2.2.2.2) (mLo m n) cu) mfX0_greatestLoad gX5_value_X0_greatestLoad rfl (Nat.le_of_ble_eq_true rfl) (Nat.le_of_ble_eq_true rfl) (Nat.le_of_ble_eq_true rfl) (Nat.le_of_ble_eq_true rfl) [7, 8, 9] rfl rfl 0 rfl rfl rfl rfl (Nat.le_of_ble_eq_true rfl) dX5_value_141 ?_
    rintro _ _ ⟨rfl, rfl⟩
    refine ⟨Eq.trans (b := [b 0, b 1, b 2]) rfl rfl, ?_⟩
    refine j_w (w' := (wKb D x (a 0) (b 0) k3 k4 k5 k6 k7 ++ (wDo D a we ce co sg cr Pp Kp Hp Lp Sp ++ (wBa D b (bI (mR m n).1) (nI (mR m n).2.1) (mBe m n) (mOv m n) ((mR m n).2.2.2.1) ((mR m n).2.2.2.2.1) ((mR m n).2.2.2.2.2) (mLo m n) cu)))) rfl ?_
    exact ret dX5_value_144 (⟨by subst hv8; exact gmx_mGr hn hV, rfl⟩)
  by_cases hv9 : v = 9
  · refine j_tswIn C dX5_value_1 (by rw [hv9]; decide) (by rw [hv9]; decide) (off := 144) (by rw [hv9]; rfl) (tgt := 145) (by decide) ?_
    refine j_aload_n C 0 dX5_value_145 rfl rfl ?_
    refine j_get C 0 fgX5_value_19 rfl rfl dX5_value_146 ?_
    refine j_cv_i C (As := []) (rest := []) (ctX0_mostLoaded (xl X) D b ((mR m n).1) (nI (mR m n).2.1) (mBe m n) (mOv m n) ((mR m n).2.2.2.1) ((mR m n).2.2.2.2.1) ((mR m n).2.2.2.2.2) (mLo m n) cu) mfX0_mostLoaded gX5_value_X0_mostLoaded rfl (Nat.le_of_ble_eq_true rfl) (Nat.le_of_ble_eq_true rfl) (Nat.le_of_ble_eq_true rfl) (Nat.le_of_ble_eq_true rfl) [7, 8, 9] rfl rfl 0 rfl rfl rfl rfl (Nat.le_of_ble_eq_true rfl) dX5_value_149 ?_
    rintro _ _ ⟨rfl, rfl⟩
    refine ⟨Eq.trans (b := [b 0, b 1, b 2]) rfl rfl, ?_⟩
    refine j_w (w' := (wKb D x (a 0) (b 0) k3 k4 k5 k6 k7 ++ (wDo D a we ce co sg cr Pp Kp Hp Lp Sp ++ (wBa D b (bI (mR m n).1) (nI (mR m n).2.1) (mBe m n) (mOv m n) ((mR m n).2.2.2.1) ((mR m n).2.2.2.2.1) ((mR m n).2.2.2.2.2) (mLo m n) cu)))) rfl ?_
    exact ret dX5_value_152 (⟨by subst hv9; exact am_hvy hn hV, rfl⟩)
  exact absurd hv (by omega)

set_option maxRecDepth 100000 in
set_option maxHeartbeats 600000 in
theorem ctX5_balanceE (l : Launch) (D : KD) (x a b : Nat → Nat) (k3 k4 k5 k6 k7 : Nat) (we ce co sg cr : Int32) (Pp Kp Hp Lp Sp : Nat → Int32) (cu : Nat → Int64) (m : Nat → Int32) (n : Nat) (hK : KR we ce co sg cr Pp Kp Hp Lp Sp m n) (v : Nat) (hv : v < 3) : ML l D yX5_balance wsX5_balance 1 22 0 0 [.ref (x 0), .int (nI v)] (wKb D x (a 0) (b 0) k3 k4 k5 k6 k7 ++ (wDo D a we ce co sg cr Pp Kp Hp Lp Sp ++ (wBa D b (bI (mR m n).1) (nI (mR m n).2.1) (mBe m n) (mOv m n) ((mR m n).2.2.2.1) ((mR m n).2.2.2.2.1) ((mR m n).2.2.2.2.2) (mLo m n) cu))) (fun r w1 => r = mBa m n v ∧ w1 = (wKb D x (a 0) (b 0) k3 k4 k5 k6 k7 ++ (wDo D a we ce co sg cr Pp Kp Hp Lp Sp ++ (wBa D b (bI (mR m n).1) (nI (mR m n).2.1) (mBe m n) (mOv m n) ((mR m n).2.2.2.1) ((mR m n).2.2.2.2.1) ((mR m n).2.2.2.2.2) (mLo m n) cu)))) := by
  refine ML.of (cc := cX5_balance) (nL := 2) (lv0 := [(0, .ref (x 0)), (1, .int (nI v))]) (by decide +kernel) rfl (Nat.le_of_ble_eq_true rfl) rfl ?_
  intro X hXl hin C ret
  subst hXl
  have hn := KR_n hK
  have hc := KR_c hK
  have hV := KR_V hK
  have hco := KR_co hK
  have hy : pIn (nI v) 0 2 = true := pIn_n (k := 2) (by omega) (by omega)
  refine j_iload_n C 1 dX5_balance_0 rfl rfl ?_
  refine j_iconst C (v := (0 : Int32)) dX5_balance_1 rfl ?_
  refine j_iconst C (v := (2 : Int32)) dX5_balance_2 rfl ?_
  refine j_cs_i C (As := [.int (nI v), .int (0 : Int32), .int (2 : Int32)]) (rest := []) (ctX5_isIn (xl X) D (nI v) (0 : Int32) (2 : Int32)) mfX5_isIn gX5_balance_X5_isIn rfl (Nat.le_of_ble_eq_true rfl) (Nat.le_of_ble_eq_true rfl) (Nat.le_of_ble_eq_true rfl) (Nat.le_of_ble_eq_true rfl) [] rfl rfl rfl (Nat.le_of_ble_eq_true rfl) dX5_balance_3 ?_
  rintro _ _ ⟨rfl, rfl⟩
  refine ⟨Eq.trans (b := []) rfl rfl, ?_⟩
  refine j_w (w' := (wKb D x (a 0) (b 0) k3 k4 k5 k6 k7 ++ (wDo D a we ce co sg cr Pp Kp Hp Lp Sp ++ (wBa D b (bI (mR m n).1) (nI (mR m n).2.1) (mBe m n) (mOv m n) ((mR m n).2.2.2.1) ((mR m n).2.2.2.2.1) ((mR m n).2.2.2.2.2) (mLo m n) cu)))) rfl ?_
  refine j_bif_ne C dX5_balance_6 (tgt := 19) (by decide) (fun _ => ?_) (fun h => (by rw [hy] at h; cases h))
  refine j_aload_n C 0 dX5_balance_19 rfl rfl ?_
  refine j_get C 0 fgX5_balance_19 rfl rfl dX5_balance_20 ?_
  refine j_get C 7 fgX5_balance_135 rfl rfl dX5_balance_23 ?_
  refine j_bif_ne C dX5_balance_26 (tgt := 31) (by decide) (fun h26 => ?_) (fun h26 => ?_)
  · refine j_iload_n C 1 dX5_balance_31 rfl rfl ?_
    refine j_if_ne C dX5_balance_32 (tgt := 43) (by decide) (fun h32 => ?_) (fun h32 => ?_)
    · refine j_iload_n C 1 dX5_balance_43 rfl rfl ?_
      refine j_iconst C (v := (1 : Int32)) dX5_balance_44 rfl ?_
      refine j_icmp_ne C dX5_balance_45 (tgt := 58) (by decide) (fun h45 => ?_) (fun h45 => ?_)
      · refine j_aload_n C 0 dX5_balance_58 rfl rfl ?_
        refine j_get C 0 fgX5_balance_19 rfl rfl dX5_balance_59 ?_
        refine j_get C 7 fgX5_balance_190 rfl rfl dX5_balance_62 ?_
        exact ret dX5_balance_65 (⟨by have hv0 : ¬ v = 0 := (fun z => h32 (by rw [z]; rfl)); have hv1 : ¬ v = 1 := (fun z => h45 (by rw [z]; rfl)); simp [mBa, baS, h26, hv0, hv1], rfl⟩)
      · refine j_aload_n C 0 dX5_balance_48 rfl rfl ?_
        refine j_get C 0 fgX5_balance_19 rfl rfl dX5_balance_49 ?_
        refine j_get C 7 fgX5_balance_187 rfl rfl dX5_balance_52 ?_
        refine j_goto C dX5_balance_55 (tgt := 65) (by decide) ?_
        exact ret dX5_balance_65 (⟨by have hv1 := (nI_eq (a := v) (b := 1) (by omega) (by decide)).mp h45; simp [mBa, baS, h26, hv1], rfl⟩)
    · refine j_aload_n C 0 dX5_balance_35 rfl rfl ?_
      refine j_get C 0 fgX5_balance_19 rfl rfl dX5_balance_36 ?_
      refine j_get C 7 fgX5_balance_183 rfl rfl dX5_balance_39 ?_
      exact ret dX5_balance_42 (⟨by have hv0 := (nI_eq (a := v) (b := 0) (by omega) (by decide)).mp h32; simp [mBa, baS, h26, hv0], rfl⟩)
  · refine j_lconst C (v := (0 : Int64)) dX5_balance_29 rfl ?_
    exact ret dX5_balance_30 (⟨by simp [mBa, baS, h26], rfl⟩)

set_option maxRecDepth 100000 in
set_option maxHeartbeats 600000 in
theorem ctX5_digest (l : Launch) (D : KD) (x a b a2 b2 g tt rr : Nat → Nat) (we ce co sg cr : Int32) (Pp Kp Hp Lp Sp : Nat → Int32) (cu : Nat → Int64) (we2 ce2 co2 sg2 cr2 : Int32) (Pp2 Kp2 Hp2 Lp2 Sp2 : Nat → Int32) (sd2 rd2 be2 ov2 : Int32) (qa2 qb2 qd2 : Int64) (lo2 : Nat → Int32) (cu2 : Nat → Int64) (po er : Int32) (m sv tx : Nat → Int32) (n s t nw k : Nat) (oa : Nat → Nat → Nat) (f : Nat → Dk) (hK : KR we ce co sg cr Pp Kp Hp Lp Sp m n) (hH : HR nw s k f sv) (ht : t ≤ 160) : ML l D yX5_digest wsX5_digest 3 64 0 0 [.ref (x 0)] ((wKb D x (a 0) (b 0) (a2 0) (b2 0) (g 0) (tt 0) (rr 0) ++ (wDo D a we ce co sg cr Pp Kp Hp Lp Sp ++ (wBa D b (bI (mR m n).1) (nI (mR m n).2.1) (mBe m n) (mOv m n) ((mR m n).2.2.2.1) ((mR m n).2.2.2.2.1) ((mR m n).2.2.2.2.2) (mLo m n) cu ++ (wDo D a2 we2 ce2 co2 sg2 cr2 Pp2 Kp2 Hp2 Lp2 Sp2 ++ (wBa D b2 sd2 rd2 be2 ov2 qa2 qb2 qd2 lo2 cu2 ++ (wHi D g (nI s) (nI nw) (slF oa k) ++ (wTx D tt (nI t) tx ++ (wRd D rr (tt 0) po er)))))))) ++ (wPl D oa f k)) (fun r w1 => r = mDg m n (nI t) (nI s) ∧ kW D x a b a2 b2 g tt rr k oa m n sv s tx t w1) := by
  refine ML.of (cc := cX5_digest) (nL := 5) (lv0 := [(0, .ref (x 0))]) (by decide +kernel) rfl (Nat.le_of_ble_eq_true rfl) rfl ?_
  intro X hXl hin C ret
  subst hXl
  have hn := KR_n hK
  have hc := KR_c hK
  have hV := KR_V hK
  have hco := KR_co hK
  have hnw := hH.1
  have hs := hH.2.1
  have hnk := hH.2.2.2.1
  refine j_ldc2 C kX5_digest_233 dX5_digest_0 ?_
  refine j_aload_n C 0 dX5_digest_3 rfl rfl ?_
  refine j_get C 0 fgX5_digest_39 rfl rfl dX5_digest_4 ?_
  refine j_get C 21 fgX5_digest_207 rfl rfl dX5_digest_7 ?_
  refine j_i2l C dX5_digest_10 ?_
  refine j_ladd C dX5_digest_11 ?_
  refine j_lstore_n C dX5_digest_12 rfl (by decide) (lv' := [(1, .long ((106423 : Int64) + ((nI t).toInt64))), (0, .ref (x 0))]) rfl ?_
  refine j_iconst C (v := (0 : Int32)) dX5_digest_13 rfl ?_
  refine j_istore_n C dX5_digest_14 rfl (by decide) (lv' := [(3, .int (0 : Int32)), (1, .long ((106423 : Int64) + ((nI t).toInt64))), (0, .ref (x 0))]) rfl ?_
  have hl15 : ∀ i15, i15 ≤ 10 → ∀ (t15 : Int64), t15 = dgI (fun k => (mVl m n k).toInt64) (31 * 3433 + (nI t).toInt64) i15 → J D X ((wKb D x (a 0) (b 0) (a2 0) (b2 0) (g 0) (tt 0) (rr 0) ++ (wDo D a we ce co sg cr Pp Kp Hp Lp Sp ++ (wBa D b (bI (mR m n).1) (nI (mR m n).2.1) (mBe m n) (mOv m n) ((mR m n).2.2.2.1) ((mR m n).2.2.2.2.1) ((mR m n).2.2.2.2.2) (mLo m n) cu ++ (wDo D a2 we2 ce2 co2 sg2 cr2 Pp2 Kp2 Hp2 Lp2 Sp2 ++ (wBa D b2 sd2 rd2 be2 ov2 qa2 qb2 qd2 lo2 cu2 ++ (wHi D g (nI s) (nI nw) (slF oa k) ++ (wTx D tt (nI t) tx ++ (wRd D rr (tt 0) po er)))))))) ++ (wPl D oa f k)) 0 0 15 [(3, .int (nI i15)), (1, .long t15), (0, .ref (x 0))] [] := by
    refine for_up (10) ?_ ?_
    · intro t15 ht15
      refine j_iload_n C 0 dX5_digest_15 rfl rfl ?_
      refine j_bipush C (v := (10 : Int32)) dX5_digest_16 rfl ?_
      refine j_icmp_ge C dX5_digest_18 (tgt := 40) (by decide) (fun _ => ?_) (fun h => absurd (nI_le (Nat.le_refl 10) (by decide)) h)
      refine j_iconst C (v := (0 : Int32)) dX5_digest_40 rfl ?_
      refine j_istore_n C dX5_digest_41 rfl (by decide) (lv' := [(3, .int (0 : Int32)), (1, .long t15), (0, .ref (x 0))]) rfl ?_
      have hl42 : ∀ i42, i42 ≤ 3 → ∀ (t42 : Int64), t42 = dgI (fun k => mBa m n k) (dgI (fun k => (mVl m n k).toInt64) (31 * 3433 + (nI t).toInt64) 10) i42 → J D X ((wKb D x (a 0) (b 0) (a2 0) (b2 0) (g 0) (tt 0) (rr 0) ++ (wDo D a we ce co sg cr Pp Kp Hp Lp Sp ++ (wBa D b (bI (mR m n).1) (nI (mR m n).2.1) (mBe m n) (mOv m n) ((mR m n).2.2.2.1) ((mR m n).2.2.2.2.1) ((mR m n).2.2.2.2.2) (mLo m n) cu ++ (wDo D a2 we2 ce2 co2 sg2 cr2 Pp2 Kp2 Hp2 Lp2 Sp2 ++ (wBa D b2 sd2 rd2 be2 ov2 qa2 qb2 qd2 lo2 cu2 ++ (wHi D g (nI s) (nI nw) (slF oa k) ++ (wTx D tt (nI t) tx ++ (wRd D rr (tt 0) po er)))))))) ++ (wPl D oa f k)) 0 0 42 [(3, .int (nI i42)), (1, .long t42), (0, .ref (x 0))] [] := by
        refine for_up (3) ?_ ?_
        · intro t42 ht42
          refine j_iload_n C 0 dX5_digest_42 rfl rfl ?_
          refine j_iconst C (v := (3 : Int32)) dX5_digest_43 rfl ?_
          refine j_icmp_ge C dX5_digest_44 (tgt := 65) (by decide) (fun _ => ?_) (fun h => absurd (nI_le (Nat.le_refl 3) (by decide)) h)
          refine j_iconst C (v := (0 : Int32)) dX5_digest_65 rfl ?_
          refine j_istore_n C dX5_digest_66 rfl (by decide) (lv' := [(3, .int (0 : Int32)), (1, .long t42), (0, .ref (x 0))]) rfl ?_
          have hl67 : ∀ i67, i67 ≤ n → ∀ (t67 : Int64), t67 = dgI (fun k => (mBl m n (k / 9) (k % 9)).toInt64) (dgI (fun k => mBa m n k) (dgI (fun k => (mVl m n k).toInt64) (31 * 3433 + (nI t).toInt64) 10) 3) (9 * i67) → J D X ((wKb D x (a 0) (b 0) (a2 0) (b2 0) (g 0) (tt 0) (rr 0) ++ (wDo D a we ce co sg cr Pp Kp Hp Lp Sp ++ (wBa D b (bI (mR m n).1) (nI (mR m n).2.1) (mBe m n) (mOv m n) ((mR m n).2.2.2.1) ((mR m n).2.2.2.2.1) ((mR m n).2.2.2.2.2) (mLo m n) cu ++ (wDo D a2 we2 ce2 co2 sg2 cr2 Pp2 Kp2 Hp2 Lp2 Sp2 ++ (wBa D b2 sd2 rd2 be2 ov2 qa2 qb2 qd2 lo2 cu2 ++ (wHi D g (nI s) (nI nw) (slF oa k) ++ (wTx D tt (nI t) tx ++ (wRd D rr (tt 0) po er)))))))) ++ (wPl D oa f k)) 0 0 67 [(3, .int (nI i67)), (1, .long t67), (0, .ref (x 0))] [] := by
            refine for_up (n) ?_ ?_
            · intro t67 ht67
              refine j_iload_n C 0 dX5_digest_67 rfl rfl ?_
              refine j_aload_n C 2 dX5_digest_68 rfl rfl ?_
              refine j_get C 0 fgX5_digest_10 rfl rfl dX5_digest_69 ?_
              refine j_get C 1 fgX5_digest_174 rfl rfl dX5_digest_72 ?_
              refine j_eqi (y := nI n) hco ?_
              refine j_icmp_ge C dX5_digest_75 (tgt := 115) (by decide) (fun _ => ?_) (fun h => absurd (Int32.le_refl _) h)
              refine j_ldc2 C kX5_digest_235 dX5_digest_115 ?_
              refine j_lload_n C 1 dX5_digest_118 rfl rfl ?_
              refine j_lmul C dX5_digest_119 ?_
              refine j_aload_n C 2 dX5_digest_120 rfl rfl ?_
              refine j_get C 0 fgX5_digest_32 rfl rfl dX5_digest_121 ?_
              refine j_get C 19 fgX5_digest_230 rfl rfl dX5_digest_124 ?_
              refine j_i2l C dX5_digest_127 ?_
              refine j_ladd C dX5_digest_128 ?_
              exact ret dX5_digest_129 (⟨by rw [mDg, ← ht67], _, _, _, _, _, _, _, _, _, _, _, _, _, _, _, _, _, _, _, _, _, _, _, _, _, _, _, _, _, _, _, _, _, _, _, _, hK, hH, ht, (Nat.le_refl _), (fun _ _ => rfl), rfl⟩)
            · intro i67 hi67 ih67 t67 ht67
              refine j_iload_n C 0 dX5_digest_67 rfl rfl ?_
              refine j_aload_n C 2 dX5_digest_68 rfl rfl ?_
              refine j_get C 0 fgX5_digest_10 rfl rfl dX5_digest_69 ?_
              refine j_get C 1 fgX5_digest_174 rfl rfl dX5_digest_72 ?_
              refine j_eqi (y := nI n) hco ?_
              refine j_icmp_ge C dX5_digest_75 (tgt := 115) (by decide) (fun h => absurd h (nI_ge hi67 (by omega))) (fun _ => ?_)
              refine j_iconst C (v := (0 : Int32)) dX5_digest_78 rfl ?_
              refine j_istore C dX5_digest_79 (by decide) (lv' := [(4, .int (0 : Int32)), (3, .int (nI i67)), (1, .long t67), (0, .ref (x 0))]) rfl ?_
              have hl81 : ∀ i81, i81 ≤ 9 → ∀ (t81 : Int64), t81 = dgI (fun k => (mBl m n (k / 9) (k % 9)).toInt64) (dgI (fun k => mBa m n k) (dgI (fun k => (mVl m n k).toInt64) (31 * 3433 + (nI t).toInt64) 10) 3) (9 * i67 + i81) → J D X ((wKb D x (a 0) (b 0) (a2 0) (b2 0) (g 0) (tt 0) (rr 0) ++ (wDo D a we ce co sg cr Pp Kp Hp Lp Sp ++ (wBa D b (bI (mR m n).1) (nI (mR m n).2.1) (mBe m n) (mOv m n) ((mR m n).2.2.2.1) ((mR m n).2.2.2.2.1) ((mR m n).2.2.2.2.2) (mLo m n) cu ++ (wDo D a2 we2 ce2 co2 sg2 cr2 Pp2 Kp2 Hp2 Lp2 Sp2 ++ (wBa D b2 sd2 rd2 be2 ov2 qa2 qb2 qd2 lo2 cu2 ++ (wHi D g (nI s) (nI nw) (slF oa k) ++ (wTx D tt (nI t) tx ++ (wRd D rr (tt 0) po er)))))))) ++ (wPl D oa f k)) 0 0 81 [(4, .int (nI i81)), (1, .long t81), (3, .int (nI i67)), (0, .ref (x 0))] [] := by
                refine for_up (9) ?_ ?_
                · intro t81 ht81
                  refine j_iload C 0 dX5_digest_81 rfl ?_
                  refine j_bipush C (v := (9 : Int32)) dX5_digest_83 rfl ?_
                  refine j_icmp_ge C dX5_digest_85 (tgt := 109) (by decide) (fun _ => ?_) (fun h => absurd (nI_le (Nat.le_refl 9) (by decide)) h)
                  refine j_iinc C 2 dX5_digest_109 rfl (v := nI (i67 + 1)) (nI_1 _) (by decide) (lv' := [(3, .int (nI (i67 + 1))), (4, .int (nI 9)), (1, .long t81), (0, .ref (x 0))]) rfl ?_
                  refine j_goto C dX5_digest_112 (tgt := 67) (by decide) ?_
                  refine j_sub [0, 2, 3] (lv' := [(3, .int (nI (i67 + 1))), (1, .long t81), (0, .ref (x 0))]) rfl ?_
                  exact ih67 t81 (by exact ht81)
                · intro i81 hi81 ih81 t81 ht81
                  refine j_iload C 0 dX5_digest_81 rfl ?_
                  refine j_bipush C (v := (9 : Int32)) dX5_digest_83 rfl ?_
                  refine j_icmp_ge C dX5_digest_85 (tgt := 109) (by decide) (fun h => absurd h (nI_ge hi81 (by decide))) (fun _ => ?_)
                  refine j_ldc2 C kX5_digest_235 dX5_digest_88 ?_
                  refine j_lload_n C 1 dX5_digest_91 rfl rfl ?_
                  refine j_lmul C dX5_digest_92 ?_
                  refine j_aload_n C 3 dX5_digest_93 rfl rfl ?_
                  refine j_iload_n C 2 dX5_digest_94 rfl rfl ?_
                  refine j_iload C 0 dX5_digest_95 rfl ?_
                  refine j_cv_i C (As := [.int (nI i67), .int (nI i81)]) (rest := [.long ((31 : Int64) * t81)]) (ctX5_blockE (xl X) D x a b (a2 0) (b2 0) (g 0) (tt 0) (rr 0) we ce co sg cr Pp Kp Hp Lp Sp cu m n hK i67 hi67 i81 hi81) mfX5_block gX5_digest_X5_block rfl (Nat.le_of_ble_eq_true rfl) (Nat.le_of_ble_eq_true rfl) (Nat.le_of_ble_eq_true rfl) (Nat.le_of_ble_eq_true rfl) [0, 1, 2, 3, 4, 5, 6, 7, 8, 9] (tl_hC0 (K := (wKb D x (a 0) (b 0) (a2 0) (b2 0) (g 0) (tt 0) (rr 0) ++ (wDo D a we ce co sg cr Pp Kp Hp Lp Sp ++ (wBa D b (bI (mR m n).1) (nI (mR m n).2.1) (mBe m n) (mOv m n) ((mR m n).2.2.2.1) ((mR m n).2.2.2.2.1) ((mR m n).2.2.2.2.2) (mLo m n) cu ++ (wDo D a2 we2 ce2 co2 sg2 cr2 Pp2 Kp2 Hp2 Lp2 Sp2 ++ (wBa D b2 sd2 rd2 be2 ov2 qa2 qb2 qd2 lo2 cu2 ++ (wHi D g (nI s) (nI nw) (slF oa k) ++ (wTx D tt (nI t) tx ++ (wRd D rr (tt 0) po er))))))))) (wPl D oa f k) (is := [0, 1, 2, 3, 4, 5, 6, 7, 8, 9]) (Kc := (wKb D x (a 0) (b 0) (a2 0) (b2 0) (g 0) (tt 0) (rr 0) ++ (wDo D a we ce co sg cr Pp Kp Hp Lp Sp ++ (wBa D b (bI (mR m n).1) (nI (mR m n).2.1) (mBe m n) (mOv m n) ((mR m n).2.2.2.1) ((mR m n).2.2.2.2.1) ((mR m n).2.2.2.2.2) (mLo m n) cu)))) rfl) rfl 0 rfl rfl rfl rfl (Nat.le_of_ble_eq_true rfl) dX5_digest_97 ?_
                  rintro _ _ ⟨rfl, rfl⟩
                  refine ⟨Eq.trans (b := [x 0, a 0, a 1, a 2, a 3, a 4, a 5, b 0, b 1, b 2]) rfl rfl, ?_⟩
                  refine j_w (w' := ((wKb D x (a 0) (b 0) (a2 0) (b2 0) (g 0) (tt 0) (rr 0) ++ (wDo D a we ce co sg cr Pp Kp Hp Lp Sp ++ (wBa D b (bI (mR m n).1) (nI (mR m n).2.1) (mBe m n) (mOv m n) ((mR m n).2.2.2.1) ((mR m n).2.2.2.2.1) ((mR m n).2.2.2.2.2) (mLo m n) cu ++ (wDo D a2 we2 ce2 co2 sg2 cr2 Pp2 Kp2 Hp2 Lp2 Sp2 ++ (wBa D b2 sd2 rd2 be2 ov2 qa2 qb2 qd2 lo2 cu2 ++ (wHi D g (nI s) (nI nw) (slF oa k) ++ (wTx D tt (nI t) tx ++ (wRd D rr (tt 0) po er)))))))) ++ (wPl D oa f k))) ((tl_put0 (tl := (wPl D oa f k)) [0, 1, 2, 3, 4, 5, 6, 7, 8, 9] (wKb D x (a 0) (b 0) (a2 0) (b2 0) (g 0) (tt 0) (rr 0) ++ (wDo D a we ce co sg cr Pp Kp Hp Lp Sp ++ (wBa D b (bI (mR m n).1) (nI (mR m n).2.1) (mBe m n) (mOv m n) ((mR m n).2.2.2.1) ((mR m n).2.2.2.2.1) ((mR m n).2.2.2.2.2) (mLo m n) cu ++ (wDo D a2 we2 ce2 co2 sg2 cr2 Pp2 Kp2 Hp2 Lp2 Sp2 ++ (wBa D b2 sd2 rd2 be2 ov2 qa2 qb2 qd2 lo2 cu2 ++ (wHi D g (nI s) (nI nw) (slF oa k) ++ (wTx D tt (nI t) tx ++ (wRd D rr (tt 0) po er)))))))) (wKb D x (a 0) (b 0) (a2 0) (b2 0) (g 0) (tt 0) (rr 0) ++ (wDo D a we ce co sg cr Pp Kp Hp Lp Sp ++ (wBa D b (bI (mR m n).1) (nI (mR m n).2.1) (mBe m n) (mOv m n) ((mR m n).2.2.2.1) ((mR m n).2.2.2.2.1) ((mR m n).2.2.2.2.2) (mLo m n) cu))) rfl (is_lt (Kc := (wKb D x (a 0) (b 0) (a2 0) (b2 0) (g 0) (tt 0) (rr 0) ++ (wDo D a we ce co sg cr Pp Kp Hp Lp Sp ++ (wBa D b (bI (mR m n).1) (nI (mR m n).2.1) (mBe m n) (mOv m n) ((mR m n).2.2.2.1) ((mR m n).2.2.2.2.1) ((mR m n).2.2.2.2.2) (mLo m n) cu)))) rfl)).trans (congrArg (fun z => z ++ (wPl D oa f k)) (kp_KbDoBaDoBaHiTxRd_0_1_2 D x (a 0) (b 0) (a2 0) (b2 0) (g 0) (tt 0) (rr 0) a we ce co sg cr Pp Kp Hp Lp Sp b (bI (mR m n).1) (nI (mR m n).2.1) (mBe m n) (mOv m n) ((mR m n).2.2.2.1) ((mR m n).2.2.2.2.1) ((mR m n).2.2.2.2.2) (mLo m n) cu a2 we2 ce2 co2 sg2 cr2 Pp2 Kp2 Hp2 Lp2 Sp2 b2 sd2 rd2 be2 ov2 qa2 qb2 qd2 lo2 cu2 g (nI s) (nI nw) (slF oa k) tt (nI t) tx rr (tt 0) po er (a 0) (b 0) (a2 0) (b2 0) (g 0) (tt 0) (rr 0) we ce co sg cr Pp Kp Hp Lp Sp (bI (mR m n).1) (nI (mR m n).2.1) (mBe m n) (mOv m n) ((mR m n).2.2.2.1) ((mR m n).2.2.2.2.1) ((mR m n).2.2.2.2.2) (mLo m n) cu))) ?_
                  refine j_i2l C dX5_digest_100 ?_
                  refine j_ladd C dX5_digest_101 ?_
                  refine j_lstore_n C dX5_digest_102 rfl (by decide) (lv' := [(1, .long (((31 : Int64) * t81) + ((mBl m n i67 i81).toInt64))), (4, .int (nI i81)), (3, .int (nI i67)), (0, .ref (x 0))]) rfl ?_
                  refine j_iinc C 1 dX5_digest_103 rfl (v := nI (i81 + 1)) (nI_1 _) (by decide) (lv' := [(4, .int (nI (i81 + 1))), (1, .long (((31 : Int64) * t81) + ((mBl m n i67 i81).toInt64))), (3, .int (nI i67)), (0, .ref (x 0))]) rfl ?_
                  refine j_goto C dX5_digest_106 (tgt := 81) (by decide) ?_
                  refine j_sub [0, 1, 2, 3] (lv' := [(4, .int (nI (i81 + 1))), (1, .long (((31 : Int64) * t81) + ((mBl m n i67 i81).toInt64))), (3, .int (nI i67)), (0, .ref (x 0))]) rfl ?_
                  exact ih81 (((31 : Int64) * t81) + ((mBl m n i67 i81).toInt64)) (by show _ = 31 * dgI (fun k => (mBl m n (k / 9) (k % 9)).toInt64) (dgI (fun k => mBa m n k) (dgI (fun k => (mVl m n k).toInt64) (31 * 3433 + (nI t).toInt64) 10) 3) (9 * i67 + i81) + (mBl m n ((9 * i67 + i81) / 9) ((9 * i67 + i81) % 9)).toInt64; rw [← ht81, show (9 * i67 + i81) / 9 = i67 by omega, show (9 * i67 + i81) % 9 = i81 by omega])
              refine j_sub [0, 2, 1, 3] (lv' := [(4, .int (0 : Int32)), (1, .long t67), (3, .int (nI i67)), (0, .ref (x 0))]) rfl ?_
              exact hl81 0 (Nat.zero_le _) t67 ht67
          refine j_sub [0, 1, 2] (lv' := [(3, .int (0 : Int32)), (1, .long t42), (0, .ref (x 0))]) rfl ?_
          exact hl67 0 (Nat.zero_le _) t42 ht42
        · intro i42 hi42 ih42 t42 ht42
          refine j_iload_n C 0 dX5_digest_42 rfl rfl ?_
          refine j_iconst C (v := (3 : Int32)) dX5_digest_43 rfl ?_
          refine j_icmp_ge C dX5_digest_44 (tgt := 65) (by decide) (fun h => absurd h (nI_ge hi42 (by decide))) (fun _ => ?_)
          refine j_ldc2 C kX5_digest_235 dX5_digest_47 ?_
          refine j_lload_n C 1 dX5_digest_50 rfl rfl ?_
          refine j_lmul C dX5_digest_51 ?_
          refine j_aload_n C 2 dX5_digest_52 rfl rfl ?_
          refine j_iload_n C 0 dX5_digest_53 rfl rfl ?_
          refine j_cv_l C (As := [.int (nI i42)]) (rest := [.long ((31 : Int64) * t42)]) (ctX5_balanceE (xl X) D x a b (a2 0) (b2 0) (g 0) (tt 0) (rr 0) we ce co sg cr Pp Kp Hp Lp Sp cu m n hK i42 hi42) mfX5_balance gX5_digest_X5_balance rfl (Nat.le_of_ble_eq_true rfl) (Nat.le_of_ble_eq_true rfl) (Nat.le_of_ble_eq_true rfl) (Nat.le_of_ble_eq_true rfl) [0, 1, 2, 3, 4, 5, 6, 7, 8, 9] (tl_hC0 (K := (wKb D x (a 0) (b 0) (a2 0) (b2 0) (g 0) (tt 0) (rr 0) ++ (wDo D a we ce co sg cr Pp Kp Hp Lp Sp ++ (wBa D b (bI (mR m n).1) (nI (mR m n).2.1) (mBe m n) (mOv m n) ((mR m n).2.2.2.1) ((mR m n).2.2.2.2.1) ((mR m n).2.2.2.2.2) (mLo m n) cu ++ (wDo D a2 we2 ce2 co2 sg2 cr2 Pp2 Kp2 Hp2 Lp2 Sp2 ++ (wBa D b2 sd2 rd2 be2 ov2 qa2 qb2 qd2 lo2 cu2 ++ (wHi D g (nI s) (nI nw) (slF oa k) ++ (wTx D tt (nI t) tx ++ (wRd D rr (tt 0) po er))))))))) (wPl D oa f k) (is := [0, 1, 2, 3, 4, 5, 6, 7, 8, 9]) (Kc := (wKb D x (a 0) (b 0) (a2 0) (b2 0) (g 0) (tt 0) (rr 0) ++ (wDo D a we ce co sg cr Pp Kp Hp Lp Sp ++ (wBa D b (bI (mR m n).1) (nI (mR m n).2.1) (mBe m n) (mOv m n) ((mR m n).2.2.2.1) ((mR m n).2.2.2.2.1) ((mR m n).2.2.2.2.2) (mLo m n) cu)))) rfl) rfl 0 rfl rfl rfl rfl (Nat.le_of_ble_eq_true rfl) dX5_digest_54 ?_
          rintro _ _ ⟨rfl, rfl⟩
          refine ⟨Eq.trans (b := [x 0, a 0, a 1, a 2, a 3, a 4, a 5, b 0, b 1, b 2]) rfl rfl, ?_⟩
          refine j_w (w' := ((wKb D x (a 0) (b 0) (a2 0) (b2 0) (g 0) (tt 0) (rr 0) ++ (wDo D a we ce co sg cr Pp Kp Hp Lp Sp ++ (wBa D b (bI (mR m n).1) (nI (mR m n).2.1) (mBe m n) (mOv m n) ((mR m n).2.2.2.1) ((mR m n).2.2.2.2.1) ((mR m n).2.2.2.2.2) (mLo m n) cu ++ (wDo D a2 we2 ce2 co2 sg2 cr2 Pp2 Kp2 Hp2 Lp2 Sp2 ++ (wBa D b2 sd2 rd2 be2 ov2 qa2 qb2 qd2 lo2 cu2 ++ (wHi D g (nI s) (nI nw) (slF oa k) ++ (wTx D tt (nI t) tx ++ (wRd D rr (tt 0) po er)))))))) ++ (wPl D oa f k))) ((tl_put0 (tl := (wPl D oa f k)) [0, 1, 2, 3, 4, 5, 6, 7, 8, 9] (wKb D x (a 0) (b 0) (a2 0) (b2 0) (g 0) (tt 0) (rr 0) ++ (wDo D a we ce co sg cr Pp Kp Hp Lp Sp ++ (wBa D b (bI (mR m n).1) (nI (mR m n).2.1) (mBe m n) (mOv m n) ((mR m n).2.2.2.1) ((mR m n).2.2.2.2.1) ((mR m n).2.2.2.2.2) (mLo m n) cu ++ (wDo D a2 we2 ce2 co2 sg2 cr2 Pp2 Kp2 Hp2 Lp2 Sp2 ++ (wBa D b2 sd2 rd2 be2 ov2 qa2 qb2 qd2 lo2 cu2 ++ (wHi D g (nI s) (nI nw) (slF oa k) ++ (wTx D tt (nI t) tx ++ (wRd D rr (tt 0) po er)))))))) (wKb D x (a 0) (b 0) (a2 0) (b2 0) (g 0) (tt 0) (rr 0) ++ (wDo D a we ce co sg cr Pp Kp Hp Lp Sp ++ (wBa D b (bI (mR m n).1) (nI (mR m n).2.1) (mBe m n) (mOv m n) ((mR m n).2.2.2.1) ((mR m n).2.2.2.2.1) ((mR m n).2.2.2.2.2) (mLo m n) cu))) rfl (is_lt (Kc := (wKb D x (a 0) (b 0) (a2 0) (b2 0) (g 0) (tt 0) (rr 0) ++ (wDo D a we ce co sg cr Pp Kp Hp Lp Sp ++ (wBa D b (bI (mR m n).1) (nI (mR m n).2.1) (mBe m n) (mOv m n) ((mR m n).2.2.2.1) ((mR m n).2.2.2.2.1) ((mR m n).2.2.2.2.2) (mLo m n) cu)))) rfl)).trans (congrArg (fun z => z ++ (wPl D oa f k)) (kp_KbDoBaDoBaHiTxRd_0_1_2 D x (a 0) (b 0) (a2 0) (b2 0) (g 0) (tt 0) (rr 0) a we ce co sg cr Pp Kp Hp Lp Sp b (bI (mR m n).1) (nI (mR m n).2.1) (mBe m n) (mOv m n) ((mR m n).2.2.2.1) ((mR m n).2.2.2.2.1) ((mR m n).2.2.2.2.2) (mLo m n) cu a2 we2 ce2 co2 sg2 cr2 Pp2 Kp2 Hp2 Lp2 Sp2 b2 sd2 rd2 be2 ov2 qa2 qb2 qd2 lo2 cu2 g (nI s) (nI nw) (slF oa k) tt (nI t) tx rr (tt 0) po er (a 0) (b 0) (a2 0) (b2 0) (g 0) (tt 0) (rr 0) we ce co sg cr Pp Kp Hp Lp Sp (bI (mR m n).1) (nI (mR m n).2.1) (mBe m n) (mOv m n) ((mR m n).2.2.2.1) ((mR m n).2.2.2.2.1) ((mR m n).2.2.2.2.2) (mLo m n) cu))) ?_
          refine j_ladd C dX5_digest_57 ?_
          refine j_lstore_n C dX5_digest_58 rfl (by decide) (lv' := [(1, .long (((31 : Int64) * t42) + (mBa m n i42))), (3, .int (nI i42)), (0, .ref (x 0))]) rfl ?_
          refine j_iinc C 1 dX5_digest_59 rfl (v := nI (i42 + 1)) (nI_1 _) (by decide) (lv' := [(3, .int (nI (i42 + 1))), (1, .long (((31 : Int64) * t42) + (mBa m n i42))), (0, .ref (x 0))]) rfl ?_
          refine j_goto C dX5_digest_62 (tgt := 42) (by decide) ?_
          refine j_sub [0, 1, 2] (lv' := [(3, .int (nI (i42 + 1))), (1, .long (((31 : Int64) * t42) + (mBa m n i42))), (0, .ref (x 0))]) rfl ?_
          exact ih42 (((31 : Int64) * t42) + (mBa m n i42)) (by rw [dgI]; try rw [← ht42]; try rfl)
      refine j_sub [0, 1, 2] (lv' := [(3, .int (0 : Int32)), (1, .long t15), (0, .ref (x 0))]) rfl ?_
      exact hl42 0 (Nat.zero_le _) t15 ht15
    · intro i15 hi15 ih15 t15 ht15
      refine j_iload_n C 0 dX5_digest_15 rfl rfl ?_
      refine j_bipush C (v := (10 : Int32)) dX5_digest_16 rfl ?_
      refine j_icmp_ge C dX5_digest_18 (tgt := 40) (by decide) (fun h => absurd h (nI_ge hi15 (by decide))) (fun _ => ?_)
      refine j_ldc2 C kX5_digest_235 dX5_digest_21 ?_
      refine j_lload_n C 1 dX5_digest_24 rfl rfl ?_
      refine j_lmul C dX5_digest_25 ?_
      refine j_aload_n C 2 dX5_digest_26 rfl rfl ?_
      refine j_iload_n C 0 dX5_digest_27 rfl rfl ?_
      refine j_cv_i C (As := [.int (nI i15)]) (rest := [.long ((31 : Int64) * t15)]) (ctX5_valueE (xl X) D x a b (a2 0) (b2 0) (g 0) (tt 0) (rr 0) we ce co sg cr Pp Kp Hp Lp Sp cu m n hK i15 hi15) mfX5_value gX5_digest_X5_value rfl (Nat.le_of_ble_eq_true rfl) (Nat.le_of_ble_eq_true rfl) (Nat.le_of_ble_eq_true rfl) (Nat.le_of_ble_eq_true rfl) [0, 1, 2, 3, 4, 5, 6, 7, 8, 9] (tl_hC0 (K := (wKb D x (a 0) (b 0) (a2 0) (b2 0) (g 0) (tt 0) (rr 0) ++ (wDo D a we ce co sg cr Pp Kp Hp Lp Sp ++ (wBa D b (bI (mR m n).1) (nI (mR m n).2.1) (mBe m n) (mOv m n) ((mR m n).2.2.2.1) ((mR m n).2.2.2.2.1) ((mR m n).2.2.2.2.2) (mLo m n) cu ++ (wDo D a2 we2 ce2 co2 sg2 cr2 Pp2 Kp2 Hp2 Lp2 Sp2 ++ (wBa D b2 sd2 rd2 be2 ov2 qa2 qb2 qd2 lo2 cu2 ++ (wHi D g (nI s) (nI nw) (slF oa k) ++ (wTx D tt (nI t) tx ++ (wRd D rr (tt 0) po er))))))))) (wPl D oa f k) (is := [0, 1, 2, 3, 4, 5, 6, 7, 8, 9]) (Kc := (wKb D x (a 0) (b 0) (a2 0) (b2 0) (g 0) (tt 0) (rr 0) ++ (wDo D a we ce co sg cr Pp Kp Hp Lp Sp ++ (wBa D b (bI (mR m n).1) (nI (mR m n).2.1) (mBe m n) (mOv m n) ((mR m n).2.2.2.1) ((mR m n).2.2.2.2.1) ((mR m n).2.2.2.2.2) (mLo m n) cu)))) rfl) rfl 0 rfl rfl rfl rfl (Nat.le_of_ble_eq_true rfl) dX5_digest_28 ?_
      rintro _ _ ⟨rfl, rfl⟩
      refine ⟨Eq.trans (b := [x 0, a 0, a 1, a 2, a 3, a 4, a 5, b 0, b 1, b 2]) rfl rfl, ?_⟩
      refine j_w (w' := ((wKb D x (a 0) (b 0) (a2 0) (b2 0) (g 0) (tt 0) (rr 0) ++ (wDo D a we ce co sg cr Pp Kp Hp Lp Sp ++ (wBa D b (bI (mR m n).1) (nI (mR m n).2.1) (mBe m n) (mOv m n) ((mR m n).2.2.2.1) ((mR m n).2.2.2.2.1) ((mR m n).2.2.2.2.2) (mLo m n) cu ++ (wDo D a2 we2 ce2 co2 sg2 cr2 Pp2 Kp2 Hp2 Lp2 Sp2 ++ (wBa D b2 sd2 rd2 be2 ov2 qa2 qb2 qd2 lo2 cu2 ++ (wHi D g (nI s) (nI nw) (slF oa k) ++ (wTx D tt (nI t) tx ++ (wRd D rr (tt 0) po er)))))))) ++ (wPl D oa f k))) ((tl_put0 (tl := (wPl D oa f k)) [0, 1, 2, 3, 4, 5, 6, 7, 8, 9] (wKb D x (a 0) (b 0) (a2 0) (b2 0) (g 0) (tt 0) (rr 0) ++ (wDo D a we ce co sg cr Pp Kp Hp Lp Sp ++ (wBa D b (bI (mR m n).1) (nI (mR m n).2.1) (mBe m n) (mOv m n) ((mR m n).2.2.2.1) ((mR m n).2.2.2.2.1) ((mR m n).2.2.2.2.2) (mLo m n) cu ++ (wDo D a2 we2 ce2 co2 sg2 cr2 Pp2 Kp2 Hp2 Lp2 Sp2 ++ (wBa D b2 sd2 rd2 be2 ov2 qa2 qb2 qd2 lo2 cu2 ++ (wHi D g (nI s) (nI nw) (slF oa k) ++ (wTx D tt (nI t) tx ++ (wRd D rr (tt 0) po er)))))))) (wKb D x (a 0) (b 0) (a2 0) (b2 0) (g 0) (tt 0) (rr 0) ++ (wDo D a we ce co sg cr Pp Kp Hp Lp Sp ++ (wBa D b (bI (mR m n).1) (nI (mR m n).2.1) (mBe m n) (mOv m n) ((mR m n).2.2.2.1) ((mR m n).2.2.2.2.1) ((mR m n).2.2.2.2.2) (mLo m n) cu))) rfl (is_lt (Kc := (wKb D x (a 0) (b 0) (a2 0) (b2 0) (g 0) (tt 0) (rr 0) ++ (wDo D a we ce co sg cr Pp Kp Hp Lp Sp ++ (wBa D b (bI (mR m n).1) (nI (mR m n).2.1) (mBe m n) (mOv m n) ((mR m n).2.2.2.1) ((mR m n).2.2.2.2.1) ((mR m n).2.2.2.2.2) (mLo m n) cu)))) rfl)).trans (congrArg (fun z => z ++ (wPl D oa f k)) (kp_KbDoBaDoBaHiTxRd_0_1_2 D x (a 0) (b 0) (a2 0) (b2 0) (g 0) (tt 0) (rr 0) a we ce co sg cr Pp Kp Hp Lp Sp b (bI (mR m n).1) (nI (mR m n).2.1) (mBe m n) (mOv m n) ((mR m n).2.2.2.1) ((mR m n).2.2.2.2.1) ((mR m n).2.2.2.2.2) (mLo m n) cu a2 we2 ce2 co2 sg2 cr2 Pp2 Kp2 Hp2 Lp2 Sp2 b2 sd2 rd2 be2 ov2 qa2 qb2 qd2 lo2 cu2 g (nI s) (nI nw) (slF oa k) tt (nI t) tx rr (tt 0) po er (a 0) (b 0) (a2 0) (b2 0) (g 0) (tt 0) (rr 0) we ce co sg cr Pp Kp Hp Lp Sp (bI (mR m n).1) (nI (mR m n).2.1) (mBe m n) (mOv m n) ((mR m n).2.2.2.1) ((mR m n).2.2.2.2.1) ((mR m n).2.2.2.2.2) (mLo m n) cu))) ?_
      refine j_i2l C dX5_digest_31 ?_
      refine j_ladd C dX5_digest_32 ?_
      refine j_lstore_n C dX5_digest_33 rfl (by decide) (lv' := [(1, .long (((31 : Int64) * t15) + ((mVl m n i15).toInt64))), (3, .int (nI i15)), (0, .ref (x 0))]) rfl ?_
      refine j_iinc C 1 dX5_digest_34 rfl (v := nI (i15 + 1)) (nI_1 _) (by decide) (lv' := [(3, .int (nI (i15 + 1))), (1, .long (((31 : Int64) * t15) + ((mVl m n i15).toInt64))), (0, .ref (x 0))]) rfl ?_
      refine j_goto C dX5_digest_37 (tgt := 15) (by decide) ?_
      refine j_sub [0, 1, 2] (lv' := [(3, .int (nI (i15 + 1))), (1, .long (((31 : Int64) * t15) + ((mVl m n i15).toInt64))), (0, .ref (x 0))]) rfl ?_
      exact ih15 (((31 : Int64) * t15) + ((mVl m n i15).toInt64)) (by rw [dgI]; try rw [← ht15]; try rfl)
  refine j_sub [0, 1, 2] (lv' := [(3, .int (0 : Int32)), (1, .long ((106423 : Int64) + ((nI t).toInt64))), (0, .ref (x 0))]) rfl ?_
  exact hl15 0 (Nat.zero_le _) ((106423 : Int64) + (nI t).toInt64) (by show (106423 : Int64) + (nI t).toInt64 = 31 * 3433 + (nI t).toInt64; rw [show (31 : Int64) * 3433 = 106423 from by decide])

set_option maxRecDepth 100000 in
set_option maxHeartbeats 600000 in
theorem ctX5_init (l : Launch) (D : KD) (x : Nat) : MV l D yX5_init wsX5_init 4 104 23 434 [.ref x] [(x, .inr (5, [.null, .null, .null, .null, .null, .null, .null]))] (fun w1 => ∃ a b a2 b2 g tt rr : Nat → Nat, kW D (fun _ => x) a b a2 b2 g tt rr 0 (fun _ _ => 0) mIn 0 (fun _ => 0) 0 (fun _ => 0) 0 w1) := by
  refine MV.of (cc := cX5_init) (nL := 1) (lv0 := [(0, .ref x)]) (by decide +kernel) rfl (Nat.le_of_ble_eq_true rfl) rfl ?_
  intro X hXl hin C ret
  subst hXl
  refine j_aload_n C 0 dX5_init_0 rfl rfl ?_
  refine j_obj C mX5_init_methodLink_RX5_1_objectInit mX5_init_instanceMethod_objectInit mX5_init_code_objectInit_0xb1_1_none (by decide) (by decide) dX5_init_1 ?_
  refine j_aload_n C 0 dX5_init_4 rfl rfl ?_
  refine j_new C fnX5_init_7 (Nat.le_of_ble_eq_true rfl) (Nat.le_of_ble_eq_true rfl) dX5_init_5 (fun q5 => ?_)
  refine j_w (w' := [(x, .inr (5, [.null, .null, .null, .null, .null, .null, .null]))] ++ ([(q5, .inr (1, [.int 0, .int 0, .int 0, .int 0, .int 0, .null, .null, .null, .null, .null]))])) rfl ?_
  refine j_dup C dX5_init_8 rfl ?_
  refine j_ciN_v C (As := []) (rest := [.ref q5, .ref x]) (ctX1_init (xl X) D q5) mfX1_init gX5_init_X1_init_n9 rfl rfl (C.hN.1) mX5_init_instanceMethod_yX1_init mX5_init_initialized_RX1 (Nat.le_of_ble_eq_true rfl) (Nat.le_of_ble_eq_true rfl) (Nat.le_of_ble_eq_true rfl) (Nat.le_of_ble_eq_true rfl) [1] rfl rfl rfl (Nat.le_of_ble_eq_true rfl) dX5_init_9 ?_
  rintro _ ⟨u_9, rfl, rfl⟩
  refine ⟨Eq.trans (b := [u_9 0]) rfl rfl, ?_⟩
  refine j_w (w' := [(x, .inr (5, [.null, .null, .null, .null, .null, .null, .null]))] ++ (wDo D u_9 1000 200 0 0 0 (fun _ => 0) (fun _ => 0) (fun _ => 0) (fun _ => 0) (fun _ => 0))) rfl ?_
  refine j_putF C 0 hin foX5_init_10 rfl (w' := [(x, .inr (5, [.ref (u_9 0), .null, .null, .null, .null, .null, .null]))] ++ (wDo D u_9 1000 200 0 0 0 (fun _ => 0) (fun _ => 0) (fun _ => 0) (fun _ => 0) (fun _ => 0))) rfl rfl rfl (Nat.le_of_ble_eq_true rfl) dX5_init_12 ?_
  refine j_aload_n C 0 dX5_init_15 rfl rfl ?_
  refine j_new C fnX5_init_16 (Nat.le_of_ble_eq_true rfl) (Nat.le_of_ble_eq_true rfl) dX5_init_16 (fun q16 => ?_)
  refine j_w (w' := [(x, .inr (5, [.ref (u_9 0), .null, .null, .null, .null, .null, .null]))] ++ (wDo D u_9 1000 200 0 0 0 (fun _ => 0) (fun _ => 0) (fun _ => 0) (fun _ => 0) (fun _ => 0) ++ ([(q16, .inr (0, [.int 0, .int 0, .int 0, .int 0, .long 0, .long 0, .long 0, .null, .null]))]))) rfl ?_
  refine j_dup C dX5_init_19 rfl ?_
  refine j_ciN_v C (As := []) (rest := [.ref q16, .ref x]) (ctX0_init (xl X) D q16) mfX0_init gX5_init_X0_init_n18 rfl rfl (C.hN.2.1) mX5_init_instanceMethod_yX0_init mX5_init_initialized_RX0 (Nat.le_of_ble_eq_true rfl) (Nat.le_of_ble_eq_true rfl) (Nat.le_of_ble_eq_true rfl) (Nat.le_of_ble_eq_true rfl) [7] rfl rfl rfl (Nat.le_of_ble_eq_true rfl) dX5_init_20 ?_
  rintro _ ⟨u_20, rfl, rfl⟩
  refine ⟨Eq.trans (b := [u_20 0]) rfl rfl, ?_⟩
  refine j_w (w' := [(x, .inr (5, [.ref (u_9 0), .null, .null, .null, .null, .null, .null]))] ++ (wDo D u_9 1000 200 0 0 0 (fun _ => 0) (fun _ => 0) (fun _ => 0) (fun _ => 0) (fun _ => 0) ++ (wBa D u_20 0 0 0 0 0 0 0 (fun _ => 0) (fun _ => 0)))) rfl ?_
  refine j_putF C 0 hin foX5_init_19 rfl (w' := [(x, .inr (5, [.ref (u_9 0), .ref (u_20 0), .null, .null, .null, .null, .null]))] ++ (wDo D u_9 1000 200 0 0 0 (fun _ => 0) (fun _ => 0) (fun _ => 0) (fun _ => 0) (fun _ => 0) ++ (wBa D u_20 0 0 0 0 0 0 0 (fun _ => 0) (fun _ => 0)))) rfl rfl rfl (Nat.le_of_ble_eq_true rfl) dX5_init_23 ?_
  refine j_aload_n C 0 dX5_init_26 rfl rfl ?_
  refine j_new C fnX5_init_7 (Nat.le_of_ble_eq_true rfl) (Nat.le_of_ble_eq_true rfl) dX5_init_27 (fun q27 => ?_)
  refine j_w (w' := [(x, .inr (5, [.ref (u_9 0), .ref (u_20 0), .null, .null, .null, .null, .null]))] ++ (wDo D u_9 1000 200 0 0 0 (fun _ => 0) (fun _ => 0) (fun _ => 0) (fun _ => 0) (fun _ => 0) ++ (wBa D u_20 0 0 0 0 0 0 0 (fun _ => 0) (fun _ => 0) ++ ([(q27, .inr (1, [.int 0, .int 0, .int 0, .int 0, .int 0, .null, .null, .null, .null, .null]))])))) rfl ?_
  refine j_dup C dX5_init_30 rfl ?_
  refine j_ciN_v C (As := []) (rest := [.ref q27, .ref x]) (ctX1_init (xl X) D q27) mfX1_init gX5_init_X1_init_n9 rfl rfl (C.hN.1) mX5_init_instanceMethod_yX1_init mX5_init_initialized_RX1 (Nat.le_of_ble_eq_true rfl) (Nat.le_of_ble_eq_true rfl) (Nat.le_of_ble_eq_true rfl) (Nat.le_of_ble_eq_true rfl) [10] rfl rfl rfl (Nat.le_of_ble_eq_true rfl) dX5_init_31 ?_
  rintro _ ⟨u_31, rfl, rfl⟩
  refine ⟨Eq.trans (b := [u_31 0]) rfl rfl, ?_⟩
  refine j_w (w' := [(x, .inr (5, [.ref (u_9 0), .ref (u_20 0), .null, .null, .null, .null, .null]))] ++ (wDo D u_9 1000 200 0 0 0 (fun _ => 0) (fun _ => 0) (fun _ => 0) (fun _ => 0) (fun _ => 0) ++ (wBa D u_20 0 0 0 0 0 0 0 (fun _ => 0) (fun _ => 0) ++ (wDo D u_31 1000 200 0 0 0 (fun _ => 0) (fun _ => 0) (fun _ => 0) (fun _ => 0) (fun _ => 0))))) rfl ?_
  refine j_putF C 0 hin foX5_init_23 rfl (w' := [(x, .inr (5, [.ref (u_9 0), .ref (u_20 0), .ref (u_31 0), .null, .null, .null, .null]))] ++ (wDo D u_9 1000 200 0 0 0 (fun _ => 0) (fun _ => 0) (fun _ => 0) (fun _ => 0) (fun _ => 0) ++ (wBa D u_20 0 0 0 0 0 0 0 (fun _ => 0) (fun _ => 0) ++ (wDo D u_31 1000 200 0 0 0 (fun _ => 0) (fun _ => 0) (fun _ => 0) (fun _ => 0) (fun _ => 0))))) rfl rfl rfl (Nat.le_of_ble_eq_true rfl) dX5_init_34 ?_
  refine j_aload_n C 0 dX5_init_37 rfl rfl ?_
  refine j_new C fnX5_init_16 (Nat.le_of_ble_eq_true rfl) (Nat.le_of_ble_eq_true rfl) dX5_init_38 (fun q38 => ?_)
  refine j_w (w' := [(x, .inr (5, [.ref (u_9 0), .ref (u_20 0), .ref (u_31 0), .null, .null, .null, .null]))] ++ (wDo D u_9 1000 200 0 0 0 (fun _ => 0) (fun _ => 0) (fun _ => 0) (fun _ => 0) (fun _ => 0) ++ (wBa D u_20 0 0 0 0 0 0 0 (fun _ => 0) (fun _ => 0) ++ (wDo D u_31 1000 200 0 0 0 (fun _ => 0) (fun _ => 0) (fun _ => 0) (fun _ => 0) (fun _ => 0) ++ ([(q38, .inr (0, [.int 0, .int 0, .int 0, .int 0, .long 0, .long 0, .long 0, .null, .null]))]))))) rfl ?_
  refine j_dup C dX5_init_41 rfl ?_
  refine j_ciN_v C (As := []) (rest := [.ref q38, .ref x]) (ctX0_init (xl X) D q38) mfX0_init gX5_init_X0_init_n18 rfl rfl (C.hN.2.1) mX5_init_instanceMethod_yX0_init mX5_init_initialized_RX0 (Nat.le_of_ble_eq_true rfl) (Nat.le_of_ble_eq_true rfl) (Nat.le_of_ble_eq_true rfl) (Nat.le_of_ble_eq_true rfl) [16] rfl rfl rfl (Nat.le_of_ble_eq_true rfl) dX5_init_42 ?_
  rintro _ ⟨u_42, rfl, rfl⟩
  refine ⟨Eq.trans (b := [u_42 0]) rfl rfl, ?_⟩
  refine j_w (w' := [(x, .inr (5, [.ref (u_9 0), .ref (u_20 0), .ref (u_31 0), .null, .null, .null, .null]))] ++ (wDo D u_9 1000 200 0 0 0 (fun _ => 0) (fun _ => 0) (fun _ => 0) (fun _ => 0) (fun _ => 0) ++ (wBa D u_20 0 0 0 0 0 0 0 (fun _ => 0) (fun _ => 0) ++ (wDo D u_31 1000 200 0 0 0 (fun _ => 0) (fun _ => 0) (fun _ => 0) (fun _ => 0) (fun _ => 0) ++ (wBa D u_42 0 0 0 0 0 0 0 (fun _ => 0) (fun _ => 0)))))) rfl ?_
  refine j_putF C 0 hin foX5_init_26 rfl (w' := [(x, .inr (5, [.ref (u_9 0), .ref (u_20 0), .ref (u_31 0), .ref (u_42 0), .null, .null, .null]))] ++ (wDo D u_9 1000 200 0 0 0 (fun _ => 0) (fun _ => 0) (fun _ => 0) (fun _ => 0) (fun _ => 0) ++ (wBa D u_20 0 0 0 0 0 0 0 (fun _ => 0) (fun _ => 0) ++ (wDo D u_31 1000 200 0 0 0 (fun _ => 0) (fun _ => 0) (fun _ => 0) (fun _ => 0) (fun _ => 0) ++ (wBa D u_42 0 0 0 0 0 0 0 (fun _ => 0) (fun _ => 0)))))) rfl rfl rfl (Nat.le_of_ble_eq_true rfl) dX5_init_45 ?_
  refine j_aload_n C 0 dX5_init_48 rfl rfl ?_
  refine j_new C fnX5_init_29 (Nat.le_of_ble_eq_true rfl) (Nat.le_of_ble_eq_true rfl) dX5_init_49 (fun q49 => ?_)
  refine j_w (w' := [(x, .inr (5, [.ref (u_9 0), .ref (u_20 0), .ref (u_31 0), .ref (u_42 0), .null, .null, .null]))] ++ (wDo D u_9 1000 200 0 0 0 (fun _ => 0) (fun _ => 0) (fun _ => 0) (fun _ => 0) (fun _ => 0) ++ (wBa D u_20 0 0 0 0 0 0 0 (fun _ => 0) (fun _ => 0) ++ (wDo D u_31 1000 200 0 0 0 (fun _ => 0) (fun _ => 0) (fun _ => 0) (fun _ => 0) (fun _ => 0) ++ (wBa D u_42 0 0 0 0 0 0 0 (fun _ => 0) (fun _ => 0) ++ ([(q49, .inr (4, [.int 0, .int 0, .null]))])))))) rfl ?_
  refine j_dup C dX5_init_52 rfl ?_
  refine j_ciN_v C (As := []) (rest := [.ref q49, .ref x]) (ctX4_init (xl X) D q49) mfX4_init gX5_init_X4_init_n31 rfl rfl (C.hN.2.2.1) mX5_init_instanceMethod_yX4_init mX5_init_initialized_RX4 (Nat.le_of_ble_eq_true rfl) (Nat.le_of_ble_eq_true rfl) (Nat.le_of_ble_eq_true rfl) (Nat.le_of_ble_eq_true rfl) [19] rfl rfl rfl (Nat.le_of_ble_eq_true rfl) dX5_init_53 ?_
  rintro _ ⟨u_53, rfl, rfl⟩
  refine ⟨Eq.trans (b := [u_53 0]) rfl rfl, ?_⟩
  refine j_w (w' := [(x, .inr (5, [.ref (u_9 0), .ref (u_20 0), .ref (u_31 0), .ref (u_42 0), .null, .null, .null]))] ++ (wDo D u_9 1000 200 0 0 0 (fun _ => 0) (fun _ => 0) (fun _ => 0) (fun _ => 0) (fun _ => 0) ++ (wBa D u_20 0 0 0 0 0 0 0 (fun _ => 0) (fun _ => 0) ++ (wDo D u_31 1000 200 0 0 0 (fun _ => 0) (fun _ => 0) (fun _ => 0) (fun _ => 0) (fun _ => 0) ++ (wBa D u_42 0 0 0 0 0 0 0 (fun _ => 0) (fun _ => 0) ++ (wHi D u_53 0 0 (fun _ => none))))))) rfl ?_
  refine j_putF C 0 hin foX5_init_32 rfl (w' := [(x, .inr (5, [.ref (u_9 0), .ref (u_20 0), .ref (u_31 0), .ref (u_42 0), .ref (u_53 0), .null, .null]))] ++ (wDo D u_9 1000 200 0 0 0 (fun _ => 0) (fun _ => 0) (fun _ => 0) (fun _ => 0) (fun _ => 0) ++ (wBa D u_20 0 0 0 0 0 0 0 (fun _ => 0) (fun _ => 0) ++ (wDo D u_31 1000 200 0 0 0 (fun _ => 0) (fun _ => 0) (fun _ => 0) (fun _ => 0) (fun _ => 0) ++ (wBa D u_42 0 0 0 0 0 0 0 (fun _ => 0) (fun _ => 0) ++ (wHi D u_53 0 0 (fun _ => none))))))) rfl rfl rfl (Nat.le_of_ble_eq_true rfl) dX5_init_56 ?_
  refine j_aload_n C 0 dX5_init_59 rfl rfl ?_
  refine j_new C fnX5_init_36 (Nat.le_of_ble_eq_true rfl) (Nat.le_of_ble_eq_true rfl) dX5_init_60 (fun q60 => ?_)
  refine j_w (w' := [(x, .inr (5, [.ref (u_9 0), .ref (u_20 0), .ref (u_31 0), .ref (u_42 0), .ref (u_53 0), .null, .null]))] ++ (wDo D u_9 1000 200 0 0 0 (fun _ => 0) (fun _ => 0) (fun _ => 0) (fun _ => 0) (fun _ => 0) ++ (wBa D u_20 0 0 0 0 0 0 0 (fun _ => 0) (fun _ => 0) ++ (wDo D u_31 1000 200 0 0 0 (fun _ => 0) (fun _ => 0) (fun _ => 0) (fun _ => 0) (fun _ => 0) ++ (wBa D u_42 0 0 0 0 0 0 0 (fun _ => 0) (fun _ => 0) ++ (wHi D u_53 0 0 (fun _ => none) ++ ([(q60, .inr (3, [.int 0, .null]))]))))))) rfl ?_
  refine j_dup C dX5_init_63 rfl ?_
  refine j_ciN_v C (As := []) (rest := [.ref q60, .ref x]) (ctX3_init (xl X) D q60) mfX3_init gX5_init_X3_init_n38 rfl rfl (C.hN.2.2.2.1) mX5_init_instanceMethod_yX3_init mX5_init_initialized_RX3 (Nat.le_of_ble_eq_true rfl) (Nat.le_of_ble_eq_true rfl) (Nat.le_of_ble_eq_true rfl) (Nat.le_of_ble_eq_true rfl) [21] rfl rfl rfl (Nat.le_of_ble_eq_true rfl) dX5_init_64 ?_
  rintro _ ⟨u_64, rfl, rfl⟩
  refine ⟨Eq.trans (b := [u_64 0]) rfl rfl, ?_⟩
  refine j_w (w' := [(x, .inr (5, [.ref (u_9 0), .ref (u_20 0), .ref (u_31 0), .ref (u_42 0), .ref (u_53 0), .null, .null]))] ++ (wDo D u_9 1000 200 0 0 0 (fun _ => 0) (fun _ => 0) (fun _ => 0) (fun _ => 0) (fun _ => 0) ++ (wBa D u_20 0 0 0 0 0 0 0 (fun _ => 0) (fun _ => 0) ++ (wDo D u_31 1000 200 0 0 0 (fun _ => 0) (fun _ => 0) (fun _ => 0) (fun _ => 0) (fun _ => 0) ++ (wBa D u_42 0 0 0 0 0 0 0 (fun _ => 0) (fun _ => 0) ++ (wHi D u_53 0 0 (fun _ => none) ++ (wTx D u_64 0 (fun _ => 0)))))))) rfl ?_
  refine j_putF C 0 hin foX5_init_39 rfl (w' := [(x, .inr (5, [.ref (u_9 0), .ref (u_20 0), .ref (u_31 0), .ref (u_42 0), .ref (u_53 0), .ref (u_64 0), .null]))] ++ (wDo D u_9 1000 200 0 0 0 (fun _ => 0) (fun _ => 0) (fun _ => 0) (fun _ => 0) (fun _ => 0) ++ (wBa D u_20 0 0 0 0 0 0 0 (fun _ => 0) (fun _ => 0) ++ (wDo D u_31 1000 200 0 0 0 (fun _ => 0) (fun _ => 0) (fun _ => 0) (fun _ => 0) (fun _ => 0) ++ (wBa D u_42 0 0 0 0 0 0 0 (fun _ => 0) (fun _ => 0) ++ (wHi D u_53 0 0 (fun _ => none) ++ (wTx D u_64 0 (fun _ => 0)))))))) rfl rfl rfl (Nat.le_of_ble_eq_true rfl) dX5_init_67 ?_
  refine j_aload_n C 0 dX5_init_70 rfl rfl ?_
  refine j_new C fnX5_init_43 (Nat.le_of_ble_eq_true rfl) (Nat.le_of_ble_eq_true rfl) dX5_init_71 (fun q71 => ?_)
  refine j_w (w' := [(x, .inr (5, [.ref (u_9 0), .ref (u_20 0), .ref (u_31 0), .ref (u_42 0), .ref (u_53 0), .ref (u_64 0), .null]))] ++ (wDo D u_9 1000 200 0 0 0 (fun _ => 0) (fun _ => 0) (fun _ => 0) (fun _ => 0) (fun _ => 0) ++ (wBa D u_20 0 0 0 0 0 0 0 (fun _ => 0) (fun _ => 0) ++ (wDo D u_31 1000 200 0 0 0 (fun _ => 0) (fun _ => 0) (fun _ => 0) (fun _ => 0) (fun _ => 0) ++ (wBa D u_42 0 0 0 0 0 0 0 (fun _ => 0) (fun _ => 0) ++ (wHi D u_53 0 0 (fun _ => none) ++ (wTx D u_64 0 (fun _ => 0) ++ ([(q71, .inr (2, [.null, .int 0, .int 0]))])))))))) rfl ?_
  refine j_dup C dX5_init_74 rfl ?_
  refine j_aload_n C 0 dX5_init_75 rfl rfl ?_
  refine j_get C 0 fgX5_init_39 rfl rfl dX5_init_76 ?_
  refine j_ci_v C (As := [.ref (u_64 0)]) (rest := [.ref q71, .ref x]) (ctX2_init (xl X) D q71 (u_64 0)) mfX2_init gX5_init_X2_init rfl rfl mX5_init_methodLink_RX5_45_yX2_init mX5_init_instanceMethod_yX2_init mX5_init_initialized_RX2 (Nat.le_of_ble_eq_true rfl) (Nat.le_of_ble_eq_true rfl) (Nat.le_of_ble_eq_true rfl) (Nat.le_of_ble_eq_true rfl) [23] rfl rfl rfl (Nat.le_of_ble_eq_true rfl) dX5_init_79 ?_
  rintro _ ⟨u_79, rfl, rfl⟩
  refine ⟨Eq.trans (b := [u_79 0]) rfl rfl, ?_⟩
  refine j_w (w' := [(x, .inr (5, [.ref (u_9 0), .ref (u_20 0), .ref (u_31 0), .ref (u_42 0), .ref (u_53 0), .ref (u_64 0), .null]))] ++ (wDo D u_9 1000 200 0 0 0 (fun _ => 0) (fun _ => 0) (fun _ => 0) (fun _ => 0) (fun _ => 0) ++ (wBa D u_20 0 0 0 0 0 0 0 (fun _ => 0) (fun _ => 0) ++ (wDo D u_31 1000 200 0 0 0 (fun _ => 0) (fun _ => 0) (fun _ => 0) (fun _ => 0) (fun _ => 0) ++ (wBa D u_42 0 0 0 0 0 0 0 (fun _ => 0) (fun _ => 0) ++ (wHi D u_53 0 0 (fun _ => none) ++ (wTx D u_64 0 (fun _ => 0) ++ (wRd D u_79 (u_64 0) 0 (-1))))))))) rfl ?_
  refine j_putF C 0 hin foX5_init_48 rfl (w' := [(x, .inr (5, [.ref (u_9 0), .ref (u_20 0), .ref (u_31 0), .ref (u_42 0), .ref (u_53 0), .ref (u_64 0), .ref (u_79 0)]))] ++ (wDo D u_9 1000 200 0 0 0 (fun _ => 0) (fun _ => 0) (fun _ => 0) (fun _ => 0) (fun _ => 0) ++ (wBa D u_20 0 0 0 0 0 0 0 (fun _ => 0) (fun _ => 0) ++ (wDo D u_31 1000 200 0 0 0 (fun _ => 0) (fun _ => 0) (fun _ => 0) (fun _ => 0) (fun _ => 0) ++ (wBa D u_42 0 0 0 0 0 0 0 (fun _ => 0) (fun _ => 0) ++ (wHi D u_53 0 0 (fun _ => none) ++ (wTx D u_64 0 (fun _ => 0) ++ (wRd D u_79 (u_64 0) 0 (-1))))))))) rfl rfl rfl (Nat.le_of_ble_eq_true rfl) dX5_init_82 ?_
  refine j_aload_n C 0 dX5_init_85 rfl rfl ?_
  refine j_get C 0 fgX5_init_19 rfl rfl dX5_init_86 ?_
  refine j_aload_n C 0 dX5_init_89 rfl rfl ?_
  refine j_get C 0 fgX5_init_10 rfl rfl dX5_init_90 ?_
  refine j_cv_v C (As := [.ref (u_9 0)]) (rest := []) (ctX0_findK (xl X) D u_20 u_9 0 0 0 0 0 0 0 (fun _ => 0) (fun _ => 0) 1000 200 0 0 0 (fun _ => 0) (fun _ => 0) (fun _ => 0) (fun _ => 0) (fun _ => 0) mIn 0 KR_init) mfX0_find gX5_init_X0_find rfl (Nat.le_of_ble_eq_true rfl) (Nat.le_of_ble_eq_true rfl) (Nat.le_of_ble_eq_true rfl) (Nat.le_of_ble_eq_true rfl) [7, 8, 9, 1, 2, 3, 4, 5, 6] rfl rfl 0 rfl rfl rfl rfl (Nat.le_of_ble_eq_true rfl) dX5_init_93 ?_
  rintro _ ⟨cx_93, rfl⟩
  refine ⟨Eq.trans (b := [u_20 0, u_20 1, u_20 2, u_9 0, u_9 1, u_9 2, u_9 3, u_9 4, u_9 5]) rfl rfl, ?_⟩
  refine j_w (w' := [(x, .inr (5, [.ref (u_9 0), .ref (u_20 0), .ref (u_31 0), .ref (u_42 0), .ref (u_53 0), .ref (u_64 0), .ref (u_79 0)]))] ++ (wDo D u_9 1000 200 0 0 0 (fun _ => 0) (fun _ => 0) (fun _ => 0) (fun _ => 0) (fun _ => 0) ++ (wBa D u_20 (bI (mR mIn 0).1) (nI (mR mIn 0).2.1) (mBe mIn 0) (mOv mIn 0) ((mR mIn 0).2.2.2.1) ((mR mIn 0).2.2.2.2.1) ((mR mIn 0).2.2.2.2.2) (mLo mIn 0) cx_93 ++ (wDo D u_31 1000 200 0 0 0 (fun _ => 0) (fun _ => 0) (fun _ => 0) (fun _ => 0) (fun _ => 0) ++ (wBa D u_42 0 0 0 0 0 0 0 (fun _ => 0) (fun _ => 0) ++ (wHi D u_53 0 0 (fun _ => none) ++ (wTx D u_64 0 (fun _ => 0) ++ (wRd D u_79 (u_64 0) 0 (-1))))))))) rfl ?_
  rw [slF_0 (fun _ _ => 0)]
  exact ret dX5_init_96 (⟨u_9, u_20, u_31, u_42, u_53, u_64, u_79, _, _, _, _, _, _, _, _, _, _, _, _, _, _, _, _, _, _, _, _, _, _, _, _, _, _, _, _, _, _, _, _, 0, 0, (fun _ _ => 0), (fun _ => (0, 0, 0, 0, 0, fun _ => 0, fun _ => 0, fun _ => 0, fun _ => 0, fun _ => 0)), KR_init, HR_0 _ _, Nat.zero_le _, Nat.le_refl _, (fun _ _ => rfl), (List.append_nil _).symm⟩)

