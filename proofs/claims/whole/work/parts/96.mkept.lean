/-! THE MODEL: kept -/
section MKEPT
variable {l : Launch} {G : rG} {h : rH} {T : Tn}
set_option maxRecDepth 100000 in
set_option maxHeartbeats 400000 in
theorem k_X12_isBeyond (a s : Int32) (b : Int64) : rM l G 0 mX12_isBeyond 0 0 [.int a, .long b, .int s] h (rV h (some (.int (if a < 0 ∨ b < 0 ∨ s.toInt64 < a.toInt64 + b then 1 else 0)))) := by
  refine rM_start (by decide) (Nat.le_of_ble_eq_true rfl) ?_
  refine a_iload_n 1 dX12_isBeyond_0 rfl rfl ?_
  refine a_if_lt 20 4 dX12_isBeyond_1 rfl (by decide) (fun c_1 => ?_) (fun c_1 => ?_)
  · refine a_iconst (1) 21 dX12_isBeyond_20 rfl (by decide) ?_
    refine a_goto 25 dX12_isBeyond_21 (by decide) ?_
    exact a_ireturn dX12_isBeyond_25 rfl rfl (Nat.le_of_ble_eq_true rfl) (Nat.le_of_ble_eq_true rfl) ⟨rfl, by rw [if_pos (Or.inl c_1)]⟩
  · refine a_lload_n 5 dX12_isBeyond_4 rfl rfl ?_
    refine a_lconst (0) 6 dX12_isBeyond_5 rfl (by decide) ?_
    refine a_lcmp 7 dX12_isBeyond_6 rfl ?_
    refine a_if_lt 20 10 dX12_isBeyond_7 rfl (by decide) (fun c_7 => ?_) (fun c_7 => ?_)
    · refine a_iconst (1) 21 dX12_isBeyond_20 rfl (by decide) ?_
      refine a_goto 25 dX12_isBeyond_21 (by decide) ?_
      exact a_ireturn dX12_isBeyond_25 rfl rfl (Nat.le_of_ble_eq_true rfl) (Nat.le_of_ble_eq_true rfl) ⟨rfl, by rw [if_pos (Or.inr (Or.inl ((lg_cmp_lt _ _).mp c_7)))]⟩
    · refine a_iload_n 11 dX12_isBeyond_10 rfl rfl ?_
      refine a_i2l 12 dX12_isBeyond_11 rfl ?_
      refine a_lload_n 13 dX12_isBeyond_12 rfl rfl ?_
      refine a_ladd 14 dX12_isBeyond_13 rfl ?_
      refine a_iload_n 15 dX12_isBeyond_14 rfl rfl ?_
      refine a_i2l 16 dX12_isBeyond_15 rfl ?_
      refine a_lcmp 17 dX12_isBeyond_16 rfl ?_
      refine a_if_le 24 20 dX12_isBeyond_17 rfl (by decide) (fun c_17 => ?_) (fun c_17 => ?_)
      · refine a_iconst (0) 25 dX12_isBeyond_24 rfl (by decide) ?_
        exact a_ireturn dX12_isBeyond_25 rfl rfl (Nat.le_of_ble_eq_true rfl) (Nat.le_of_ble_eq_true rfl) ⟨rfl, by rw [if_neg (fun v => by rcases v with v | v | v; exact c_1 v; exact c_7 ((lg_cmp_lt _ _).mpr v); exact absurd ((lg_cmp_le _ _).mp c_17) (Int64.not_le.mpr v))]⟩
      · refine a_iconst (1) 21 dX12_isBeyond_20 rfl (by decide) ?_
        refine a_goto 25 dX12_isBeyond_21 (by decide) ?_
        exact a_ireturn dX12_isBeyond_25 rfl rfl (Nat.le_of_ble_eq_true rfl) (Nat.le_of_ble_eq_true rfl) ⟨rfl, by rw [if_pos (Or.inr (Or.inr (Int64.not_le.mp (fun v => c_17 ((lg_cmp_le _ _).mpr v)))))]⟩
end MKEPT
