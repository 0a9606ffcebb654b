section TAKES
variable {l : Launch} {G : rG} {h : rH}
set_option maxRecDepth 100000 in
set_option maxHeartbeats 400000 in
theorem k_X6_readNumber {s : ltS} (hs : ltAt G h s) (c : Int32) : rM l G 0 mX6_readNumber 0 0 [.ref (gN G + 4), .int c] h (rV h (some (.int (if 0 ≤ c ∧ c < 7 then s.2.2.2.1 c.toNatClampNeg else 0)))) := by
  obtain ⟨hc, hf, hg⟩ := hs
  refine rM_start (by decide) (Nat.le_of_ble_eq_true rfl) ?_
  refine a_iload_n 1 dX6_readNumber_0 rfl rfl ?_
  refine a_if_lt 22 4 dX6_readNumber_1 rfl (by decide) (fun c_1 => ?_) (fun c_1 => ?_)
  · refine a_iconst (0) 23 dX6_readNumber_22 rfl (by decide) ?_
    exact a_ireturn dX6_readNumber_23 rfl rfl (Nat.le_of_ble_eq_true rfl) (Nat.le_of_ble_eq_true rfl) ⟨rfl, by simp only [i_lt, i_le, Int32.reduceToInt, Int32.reduceOfNat] at *; first | rw [if_pos (by omega)] | rw [if_neg (by omega)]⟩
  · refine a_iload_n 5 dX6_readNumber_4 rfl rfl ?_
    refine a_aload_n 6 dX6_readNumber_5 rfl rfl ?_
    refine a_get fd_X6_9 rfl 9 dX6_readNumber_6 rfl (by repeat (first | assumption | (refine rg_ne (by first | decide | omega) ?_) | apply rg_eq | refine rg_fr (by assumption) (by first | decide | (simp; omega)) ?_)) rfl ?_
    refine a_alen_0 10 dX6_readNumber_9 rfl (by repeat (first | assumption | (refine rg_ne (by first | decide | omega) ?_) | apply rg_eq | refine rg_fr (by assumption) (by first | decide | (simp; omega)) ?_)) ?_
    refine a_icmp_ge 22 13 dX6_readNumber_10 rfl (by decide) (fun c_10 => ?_) (fun c_10 => ?_)
    · refine a_iconst (0) 23 dX6_readNumber_22 rfl (by decide) ?_
      exact a_ireturn dX6_readNumber_23 rfl rfl (Nat.le_of_ble_eq_true rfl) (Nat.le_of_ble_eq_true rfl) ⟨rfl, by simp only [i_lt, i_le, Int32.reduceToInt, Int32.reduceOfNat] at *; first | rw [if_pos (by omega)] | rw [if_neg (by omega)]⟩
    · refine a_aload_n 14 dX6_readNumber_13 rfl rfl ?_
      refine a_get fd_X6_9 rfl 17 dX6_readNumber_14 rfl (by repeat (first | assumption | (refine rg_ne (by first | decide | omega) ?_) | apply rg_eq | refine rg_fr (by assumption) (by first | decide | (simp; omega)) ?_)) rfl ?_
      refine a_iload_n 18 dX6_readNumber_17 rfl rfl ?_
      refine a_iaload 19 dX6_readNumber_18 rfl (by repeat (first | assumption | (refine rg_ne (by first | decide | omega) ?_) | apply rg_eq | refine rg_fr (by assumption) (by first | decide | (simp; omega)) ?_)) (vin_ge c_1 c_10 (by decide)) ?_
      refine a_goto 23 dX6_readNumber_19 (by decide) ?_
      exact a_ireturn dX6_readNumber_23 rfl rfl (Nat.le_of_ble_eq_true rfl) (Nat.le_of_ble_eq_true rfl) ⟨rfl, by simp only [i_lt, i_le, Int32.reduceToInt, Int32.reduceOfNat] at *; first | rw [if_pos (by omega)] | rw [if_neg (by omega)]⟩
end TAKES
