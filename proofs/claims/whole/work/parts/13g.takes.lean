section TAKES
variable {l : Launch} {G : rG} {h : rH}
set_option maxRecDepth 100000 in
set_option maxHeartbeats 400000 in
theorem k_X6_lawNumber {s : ltS} (hs : ltAt G h s) (c : Int32) : rM l G 1 mX6_lawNumber 0 0 [.ref (gN G + 4), .int c] h (rV h (some (.int (if c = 6 then (if s.2.2.2.1 6 < s.2.2.2.1 5 then s.2.2.2.1 5 else s.2.2.2.1 6) else if 0 ≤ c ∧ c < 7 then s.2.2.2.1 c.toNatClampNeg else 0)))) := by
  have hs0 := hs
  obtain ⟨hc, hf, hg⟩ := hs
  refine rM_start (by decide) (Nat.le_of_ble_eq_true rfl) ?_
  refine a_iload_n 1 dX6_lawNumber_0 rfl rfl ?_
  refine a_bipush (6) 3 dX6_lawNumber_1 rfl (by decide) ?_
  refine a_icmp_ne 23 6 dX6_lawNumber_3 rfl (by decide) (fun c_3 => ?_) (fun c_3 => ?_)
  · refine a_aload_n 24 dX6_lawNumber_23 rfl rfl ?_
    refine a_iload_n 25 dX6_lawNumber_24 rfl rfl ?_
    refine a_callV ok_X6_readNumber ln_X6_46 in_X6_readNumber rfl 28 dX6_lawNumber_25 rfl (k_X6_readNumber hs0 c) (by repeat (first | assumption | (refine rg_ne (by first | decide | omega) ?_) | apply rg_eq | refine rg_fr (by assumption) (by first | decide | (simp; omega)) ?_)) rfl rfl rfl ⟨(Nat.le_of_ble_eq_true rfl), (Nat.le_of_ble_eq_true rfl)⟩ (Nat.le_of_ble_eq_true rfl) ⟨(Nat.le_of_ble_eq_true rfl), (Nat.le_of_ble_eq_true rfl)⟩ ?_
    rintro _ _ ⟨rfl, rfl⟩
    exact a_ireturn dX6_lawNumber_28 rfl rfl (Nat.le_of_ble_eq_true rfl) (Nat.le_of_ble_eq_true rfl) ⟨rfl, by rw [if_neg c_3]⟩
  · refine a_aload_n 7 dX6_lawNumber_6 rfl rfl ?_
    refine a_bipush (6) 9 dX6_lawNumber_7 rfl (by decide) ?_
    refine a_callV ok_X6_readNumber ln_X6_46 in_X6_readNumber rfl 12 dX6_lawNumber_9 rfl (k_X6_readNumber hs0 6) (by repeat (first | assumption | (refine rg_ne (by first | decide | omega) ?_) | apply rg_eq | refine rg_fr (by assumption) (by first | decide | (simp; omega)) ?_)) rfl rfl rfl ⟨(Nat.le_of_ble_eq_true rfl), (Nat.le_of_ble_eq_true rfl)⟩ (Nat.le_of_ble_eq_true rfl) ⟨(Nat.le_of_ble_eq_true rfl), (Nat.le_of_ble_eq_true rfl)⟩ ?_
    rintro _ _ ⟨rfl, rfl⟩
    refine a_aload_n 13 dX6_lawNumber_12 rfl rfl ?_
    refine a_iconst (5) 14 dX6_lawNumber_13 rfl (by decide) ?_
    refine a_callV ok_X6_readNumber ln_X6_46 in_X6_readNumber rfl 17 dX6_lawNumber_14 rfl (k_X6_readNumber hs0 5) (by repeat (first | assumption | (refine rg_ne (by first | decide | omega) ?_) | apply rg_eq | refine rg_fr (by assumption) (by first | decide | (simp; omega)) ?_)) rfl rfl rfl ⟨(Nat.le_of_ble_eq_true rfl), (Nat.le_of_ble_eq_true rfl)⟩ (Nat.le_of_ble_eq_true rfl) ⟨(Nat.le_of_ble_eq_true rfl), (Nat.le_of_ble_eq_true rfl)⟩ ?_
    rintro _ _ ⟨rfl, rfl⟩
    refine a_mmax lm_X6_49 rfl 20 dX6_lawNumber_17 rfl (Nat.le_of_ble_eq_true rfl) (Nat.le_of_ble_eq_true rfl) ⟨(Nat.le_of_ble_eq_true rfl), (Nat.le_of_ble_eq_true rfl)⟩ ?_
    refine a_goto 28 dX6_lawNumber_20 (by decide) ?_
    exact a_ireturn dX6_lawNumber_28 rfl rfl (Nat.le_of_ble_eq_true rfl) (Nat.le_of_ble_eq_true rfl) ⟨rfl, by rw [if_pos c_3]; rfl⟩
end TAKES
