/-! THE CLASS'S ROW OF YAWNS: at a: minutes at cm, who at cw (24 ints each), count -/
/-- how many of the first n of g are x -/
def cntI (g : Nat → Int32) (x : Int32) : Nat → Nat
  | 0 => 0
  | n + 1 => cntI g x n + if g n = x then 1 else 0
theorem cntI_le (g : Nat → Int32) (x : Int32) : ∀ n, cntI g x n ≤ n
  | 0 => Nat.le_refl 0
  | n + 1 => by
    have h := cntI_le g x n
    simp only [cntI]
    split <;> omega
section YAWNS
variable {l : Launch} {G : rG} {h : rH} {a cm cw : Nat} {cnt : Int32} {f g : Nat → Int32}
set_option maxRecDepth 100000 in
set_option maxHeartbeats 400000 in
theorem k_X10_clear (hc : h[a]? = some (.inr (9, [.ref (gN G + cm), .ref (gN G + cw), .int cnt]))) : rM l G 0 mX10_clear 0 0 [.ref (gN G + a)] h (rV (h.set a (.inr (9, [.ref (gN G + cm), .ref (gN G + cw), .int 0]))) none) := by
  refine rM_start (by decide) (Nat.le_of_ble_eq_true rfl) ?_
  refine a_aload_n 1 dX10_clear_0 rfl rfl ?_
  refine a_iconst (0) 2 dX10_clear_1 rfl (by decide) ?_
  refine a_put fd_X10_18 cl_X10 rfl 5 dX10_clear_2 rfl (by repeat (first | assumption | (refine rg_ne (by first | decide | omega) ?_) | apply rg_eq | refine rg_fr (by assumption) (by first | decide | (simp; omega)) ?_)) (Nat.le_of_ble_eq_true rfl) rfl rfl rfl ?_
  exact a_return dX10_clear_5 rfl (Nat.le_of_ble_eq_true rfl) (Nat.le_of_ble_eq_true rfl) ⟨rfl, rfl⟩
set_option maxRecDepth 100000 in
set_option maxHeartbeats 400000 in
theorem k_X10_isFull (hc : h[a]? = some (.inr (9, [.ref (gN G + cm), .ref (gN G + cw), .int cnt]))) : rM l G 0 mX10_isFull 0 0 [.ref (gN G + a)] h (rV h (some (.int (if 24 ≤ cnt then 1 else 0)))) := by
  refine rM_start (by decide) (Nat.le_of_ble_eq_true rfl) ?_
  refine a_aload_n 1 dX10_isFull_0 rfl rfl ?_
  refine a_get fd_X10_18 rfl 4 dX10_isFull_1 rfl (by repeat (first | assumption | (refine rg_ne (by first | decide | omega) ?_) | apply rg_eq | refine rg_fr (by assumption) (by first | decide | (simp; omega)) ?_)) rfl ?_
  refine a_bipush (24) 6 dX10_isFull_4 rfl (by decide) ?_
  refine a_icmp_lt 13 9 dX10_isFull_6 rfl (by decide) (fun c_6 => ?_) (fun c_6 => ?_)
  · refine a_iconst (0) 14 dX10_isFull_13 rfl (by decide) ?_
    exact a_ireturn dX10_isFull_14 rfl rfl (Nat.le_of_ble_eq_true rfl) (Nat.le_of_ble_eq_true rfl) ⟨rfl, by simp_all⟩
  · refine a_iconst (1) 10 dX10_isFull_9 rfl (by decide) ?_
    refine a_goto 14 dX10_isFull_10 (by decide) ?_
    exact a_ireturn dX10_isFull_14 rfl rfl (Nat.le_of_ble_eq_true rfl) (Nat.le_of_ble_eq_true rfl) ⟨rfl, by simp_all⟩
set_option maxRecDepth 100000 in
set_option maxHeartbeats 400000 in
theorem k_X10_has (hc : h[a]? = some (.inr (9, [.ref (gN G + cm), .ref (gN G + cw), .int cnt]))) (j : Int32) : rM l G 0 mX10_has 0 0 [.ref (gN G + a), .int j] h (rV h (some (.int (if 0 ≤ j ∧ j < cnt then 1 else 0)))) := by
  refine rM_start (by decide) (Nat.le_of_ble_eq_true rfl) ?_
  refine a_iload_n 1 dX10_has_0 rfl rfl ?_
  refine a_if_lt 16 4 dX10_has_1 rfl (by decide) (fun c_1 => ?_) (fun c_1 => ?_)
  · refine a_iconst (0) 17 dX10_has_16 rfl (by decide) ?_
    exact a_ireturn dX10_has_17 rfl rfl (Nat.le_of_ble_eq_true rfl) (Nat.le_of_ble_eq_true rfl) ⟨rfl, by simp only [i_lt, i_le, Int32.reduceToInt, Int32.reduceOfNat] at *; first | rw [if_pos (by omega)] | rw [if_neg (by omega)]⟩
  · refine a_iload_n 5 dX10_has_4 rfl rfl ?_
    refine a_aload_n 6 dX10_has_5 rfl rfl ?_
    refine a_get fd_X10_18 rfl 9 dX10_has_6 rfl (by repeat (first | assumption | (refine rg_ne (by first | decide | omega) ?_) | apply rg_eq | refine rg_fr (by assumption) (by first | decide | (simp; omega)) ?_)) rfl ?_
    refine a_icmp_ge 16 12 dX10_has_9 rfl (by decide) (fun c_9 => ?_) (fun c_9 => ?_)
    · refine a_iconst (0) 17 dX10_has_16 rfl (by decide) ?_
      exact a_ireturn dX10_has_17 rfl rfl (Nat.le_of_ble_eq_true rfl) (Nat.le_of_ble_eq_true rfl) ⟨rfl, by simp only [i_lt, i_le, Int32.reduceToInt, Int32.reduceOfNat] at *; first | rw [if_pos (by omega)] | rw [if_neg (by omega)]⟩
    · refine a_iconst (1) 13 dX10_has_12 rfl (by decide) ?_
      refine a_goto 17 dX10_has_13 (by decide) ?_
      exact a_ireturn dX10_has_17 rfl rfl (Nat.le_of_ble_eq_true rfl) (Nat.le_of_ble_eq_true rfl) ⟨rfl, by simp only [i_lt, i_le, Int32.reduceToInt, Int32.reduceOfNat] at *; first | rw [if_pos (by omega)] | rw [if_neg (by omega)]⟩
set_option maxRecDepth 100000 in
set_option maxHeartbeats 400000 in
theorem k_X10_minuteOf (hc : h[a]? = some (.inr (9, [.ref (gN G + cm), .ref (gN G + cw), .int cnt]))) (hf : h[cm]? = some (.inl (gA G 0, 24, .inl f))) (j : Int32) : rM l G 0 mX10_minuteOf 0 0 [.ref (gN G + a), .int j] h (rV h (some (.int (if 0 ≤ j ∧ j < 24 then f j.toNatClampNeg else 0)))) := by
  refine rM_start (by decide) (Nat.le_of_ble_eq_true rfl) ?_
  refine a_iload_n 1 dX10_minuteOf_0 rfl rfl ?_
  refine a_if_lt 22 4 dX10_minuteOf_1 rfl (by decide) (fun c_1 => ?_) (fun c_1 => ?_)
  · refine a_iconst (0) 23 dX10_minuteOf_22 rfl (by decide) ?_
    exact a_ireturn dX10_minuteOf_23 rfl rfl (Nat.le_of_ble_eq_true rfl) (Nat.le_of_ble_eq_true rfl) ⟨rfl, by simp only [i_lt, i_le, Int32.reduceToInt, Int32.reduceOfNat] at *; first | rw [if_pos (by omega)] | rw [if_neg (by omega)]⟩
  · refine a_iload_n 5 dX10_minuteOf_4 rfl rfl ?_
    refine a_aload_n 6 dX10_minuteOf_5 rfl rfl ?_
    refine a_get fd_X10_9 rfl 9 dX10_minuteOf_6 rfl (by repeat (first | assumption | (refine rg_ne (by first | decide | omega) ?_) | apply rg_eq | refine rg_fr (by assumption) (by first | decide | (simp; omega)) ?_)) rfl ?_
    refine a_alen_0 10 dX10_minuteOf_9 rfl (by repeat (first | assumption | (refine rg_ne (by first | decide | omega) ?_) | apply rg_eq | refine rg_fr (by assumption) (by first | decide | (simp; omega)) ?_)) ?_
    refine a_icmp_ge 22 13 dX10_minuteOf_10 rfl (by decide) (fun c_10 => ?_) (fun c_10 => ?_)
    · refine a_iconst (0) 23 dX10_minuteOf_22 rfl (by decide) ?_
      exact a_ireturn dX10_minuteOf_23 rfl rfl (Nat.le_of_ble_eq_true rfl) (Nat.le_of_ble_eq_true rfl) ⟨rfl, by simp only [i_lt, i_le, Int32.reduceToInt, Int32.reduceOfNat] at *; first | rw [if_pos (by omega)] | rw [if_neg (by omega)]⟩
    · refine a_aload_n 14 dX10_minuteOf_13 rfl rfl ?_
      refine a_get fd_X10_9 rfl 17 dX10_minuteOf_14 rfl (by repeat (first | assumption | (refine rg_ne (by first | decide | omega) ?_) | apply rg_eq | refine rg_fr (by assumption) (by first | decide | (simp; omega)) ?_)) rfl ?_
      refine a_iload_n 18 dX10_minuteOf_17 rfl rfl ?_
      refine a_iaload 19 dX10_minuteOf_18 rfl (by repeat (first | assumption | (refine rg_ne (by first | decide | omega) ?_) | apply rg_eq | refine rg_fr (by assumption) (by first | decide | (simp; omega)) ?_)) (vin_ge c_1 c_10 (by decide)) ?_
      refine a_goto 23 dX10_minuteOf_19 (by decide) ?_
      exact a_ireturn dX10_minuteOf_23 rfl rfl (Nat.le_of_ble_eq_true rfl) (Nat.le_of_ble_eq_true rfl) ⟨rfl, by simp only [i_lt, i_le, Int32.reduceToInt, Int32.reduceOfNat] at *; first | rw [if_pos (by omega)] | rw [if_neg (by omega)]⟩
set_option maxRecDepth 100000 in
set_option maxHeartbeats 400000 in
theorem k_X10_whoOf (hc : h[a]? = some (.inr (9, [.ref (gN G + cm), .ref (gN G + cw), .int cnt]))) (hg : h[cw]? = some (.inl (gA G 0, 24, .inl g))) (j : Int32) : rM l G 0 mX10_whoOf 0 0 [.ref (gN G + a), .int j] h (rV h (some (.int (if 0 ≤ j ∧ j < 24 then g j.toNatClampNeg else -9)))) := by
  refine rM_start (by decide) (Nat.le_of_ble_eq_true rfl) ?_
  refine a_iload_n 1 dX10_whoOf_0 rfl rfl ?_
  refine a_if_lt 22 4 dX10_whoOf_1 rfl (by decide) (fun c_1 => ?_) (fun c_1 => ?_)
  · refine a_bipush (-9) 24 dX10_whoOf_22 rfl (by decide) ?_
    exact a_ireturn dX10_whoOf_24 rfl rfl (Nat.le_of_ble_eq_true rfl) (Nat.le_of_ble_eq_true rfl) ⟨rfl, by simp only [i_lt, i_le, Int32.reduceToInt, Int32.reduceOfNat] at *; first | rw [if_pos (by omega)] | rw [if_neg (by omega)]⟩
  · refine a_iload_n 5 dX10_whoOf_4 rfl rfl ?_
    refine a_aload_n 6 dX10_whoOf_5 rfl rfl ?_
    refine a_get fd_X10_15 rfl 9 dX10_whoOf_6 rfl (by repeat (first | assumption | (refine rg_ne (by first | decide | omega) ?_) | apply rg_eq | refine rg_fr (by assumption) (by first | decide | (simp; omega)) ?_)) rfl ?_
    refine a_alen_0 10 dX10_whoOf_9 rfl (by repeat (first | assumption | (refine rg_ne (by first | decide | omega) ?_) | apply rg_eq | refine rg_fr (by assumption) (by first | decide | (simp; omega)) ?_)) ?_
    refine a_icmp_ge 22 13 dX10_whoOf_10 rfl (by decide) (fun c_10 => ?_) (fun c_10 => ?_)
    · refine a_bipush (-9) 24 dX10_whoOf_22 rfl (by decide) ?_
      exact a_ireturn dX10_whoOf_24 rfl rfl (Nat.le_of_ble_eq_true rfl) (Nat.le_of_ble_eq_true rfl) ⟨rfl, by simp only [i_lt, i_le, Int32.reduceToInt, Int32.reduceOfNat] at *; first | rw [if_pos (by omega)] | rw [if_neg (by omega)]⟩
    · refine a_aload_n 14 dX10_whoOf_13 rfl rfl ?_
      refine a_get fd_X10_15 rfl 17 dX10_whoOf_14 rfl (by repeat (first | assumption | (refine rg_ne (by first | decide | omega) ?_) | apply rg_eq | refine rg_fr (by assumption) (by first | decide | (simp; omega)) ?_)) rfl ?_
      refine a_iload_n 18 dX10_whoOf_17 rfl rfl ?_
      refine a_iaload 19 dX10_whoOf_18 rfl (by repeat (first | assumption | (refine rg_ne (by first | decide | omega) ?_) | apply rg_eq | refine rg_fr (by assumption) (by first | decide | (simp; omega)) ?_)) (vin_ge c_1 c_10 (by decide)) ?_
      refine a_goto 24 dX10_whoOf_19 (by decide) ?_
      exact a_ireturn dX10_whoOf_24 rfl rfl (Nat.le_of_ble_eq_true rfl) (Nat.le_of_ble_eq_true rfl) ⟨rfl, by simp only [i_lt, i_le, Int32.reduceToInt, Int32.reduceOfNat] at *; first | rw [if_pos (by omega)] | rw [if_neg (by omega)]⟩
set_option maxRecDepth 100000 in
set_option maxHeartbeats 400000 in
theorem k_X10_add (hne : a ≠ cm ∧ a ≠ cw ∧ cm ≠ cw) (hc : h[a]? = some (.inr (9, [.ref (gN G + cm), .ref (gN G + cw), .int cnt]))) (hf : h[cm]? = some (.inl (gA G 0, 24, .inl f))) (hg : h[cw]? = some (.inl (gA G 0, 24, .inl g))) (hi : vp_in cnt 24) (m x : Int32) : rM l G 0 mX10_add 0 0 [.ref (gN G + a), .int m, .int x] h (rV (((h.set cm (.inl (gA G 0, 24, .inl (upd f cnt.toNatClampNeg m)))).set cw (.inl (gA G 0, 24, .inl (upd g cnt.toNatClampNeg x)))).set a (.inr (9, [.ref (gN G + cm), .ref (gN G + cw), .int (cnt + 1)]))) none) := by
  refine rM_start (by decide) (Nat.le_of_ble_eq_true rfl) ?_
  refine a_aload_n 1 dX10_add_0 rfl rfl ?_
  refine a_get fd_X10_18 rfl 4 dX10_add_1 rfl (by repeat (first | assumption | (refine rg_ne (by first | decide | omega) ?_) | apply rg_eq | refine rg_fr (by assumption) (by first | decide | (simp; omega)) ?_)) rfl ?_
  refine a_if_lt 61 7 dX10_add_4 rfl (by decide) (fun c_4 => absurd c_4 (fun q => hi (Or.inl q))) (fun c_4 => ?_)
  refine a_aload_n 8 dX10_add_7 rfl rfl ?_
  refine a_get fd_X10_18 rfl 11 dX10_add_8 rfl (by repeat (first | assumption | (refine rg_ne (by first | decide | omega) ?_) | apply rg_eq | refine rg_fr (by assumption) (by first | decide | (simp; omega)) ?_)) rfl ?_
  refine a_aload_n 12 dX10_add_11 rfl rfl ?_
  refine a_get fd_X10_9 rfl 15 dX10_add_12 rfl (by repeat (first | assumption | (refine rg_ne (by first | decide | omega) ?_) | apply rg_eq | refine rg_fr (by assumption) (by first | decide | (simp; omega)) ?_)) rfl ?_
  refine a_alen_0 16 dX10_add_15 rfl (by repeat (first | assumption | (refine rg_ne (by first | decide | omega) ?_) | apply rg_eq | refine rg_fr (by assumption) (by first | decide | (simp; omega)) ?_)) ?_
  refine a_icmp_ge 61 19 dX10_add_16 rfl (by decide) (fun c_16 => absurd c_16 (vin_lt hi (by decide))) (fun c_16 => ?_)
  refine a_aload_n 20 dX10_add_19 rfl rfl ?_
  refine a_get fd_X10_18 rfl 23 dX10_add_20 rfl (by repeat (first | assumption | (refine rg_ne (by first | decide | omega) ?_) | apply rg_eq | refine rg_fr (by assumption) (by first | decide | (simp; omega)) ?_)) rfl ?_
  refine a_aload_n 24 dX10_add_23 rfl rfl ?_
  refine a_get fd_X10_15 rfl 27 dX10_add_24 rfl (by repeat (first | assumption | (refine rg_ne (by first | decide | omega) ?_) | apply rg_eq | refine rg_fr (by assumption) (by first | decide | (simp; omega)) ?_)) rfl ?_
  refine a_alen_0 28 dX10_add_27 rfl (by repeat (first | assumption | (refine rg_ne (by first | decide | omega) ?_) | apply rg_eq | refine rg_fr (by assumption) (by first | decide | (simp; omega)) ?_)) ?_
  refine a_icmp_ge 61 31 dX10_add_28 rfl (by decide) (fun c_28 => absurd c_28 (vin_lt hi (by decide))) (fun c_28 => ?_)
  refine a_aload_n 32 dX10_add_31 rfl rfl ?_
  refine a_get fd_X10_9 rfl 35 dX10_add_32 rfl (by repeat (first | assumption | (refine rg_ne (by first | decide | omega) ?_) | apply rg_eq | refine rg_fr (by assumption) (by first | decide | (simp; omega)) ?_)) rfl ?_
  refine a_aload_n 36 dX10_add_35 rfl rfl ?_
  refine a_get fd_X10_18 rfl 39 dX10_add_36 rfl (by repeat (first | assumption | (refine rg_ne (by first | decide | omega) ?_) | apply rg_eq | refine rg_fr (by assumption) (by first | decide | (simp; omega)) ?_)) rfl ?_
  refine a_iload_n 40 dX10_add_39 rfl rfl ?_
  refine a_iastore 41 dX10_add_40 rfl (by repeat (first | assumption | (refine rg_ne (by first | decide | omega) ?_) | apply rg_eq | refine rg_fr (by assumption) (by first | decide | (simp; omega)) ?_)) hi ?_
  refine a_aload_n 42 dX10_add_41 rfl rfl ?_
  refine a_get fd_X10_15 rfl 45 dX10_add_42 rfl (by repeat (first | assumption | (refine rg_ne (by first | decide | omega) ?_) | apply rg_eq | refine rg_fr (by assumption) (by first | decide | (simp; omega)) ?_)) rfl ?_
  refine a_aload_n 46 dX10_add_45 rfl rfl ?_
  refine a_get fd_X10_18 rfl 49 dX10_add_46 rfl (by repeat (first | assumption | (refine rg_ne (by first | decide | omega) ?_) | apply rg_eq | refine rg_fr (by assumption) (by first | decide | (simp; omega)) ?_)) rfl ?_
  refine a_iload_n 50 dX10_add_49 rfl rfl ?_
  refine a_iastore 51 dX10_add_50 rfl (by repeat (first | assumption | (refine rg_ne (by first | decide | omega) ?_) | apply rg_eq | refine rg_fr (by assumption) (by first | decide | (simp; omega)) ?_)) hi ?_
  refine a_aload_n 52 dX10_add_51 rfl rfl ?_
  refine a_dup 53 dX10_add_52 rfl rfl ?_
  refine a_get fd_X10_18 rfl 56 dX10_add_53 rfl (by repeat (first | assumption | (refine rg_ne (by first | decide | omega) ?_) | apply rg_eq | refine rg_fr (by assumption) (by first | decide | (simp; omega)) ?_)) rfl ?_
  refine a_iconst (1) 57 dX10_add_56 rfl (by decide) ?_
  refine a_iadd 58 dX10_add_57 rfl ?_
  refine a_put fd_X10_18 cl_X10 rfl 61 dX10_add_58 rfl (by repeat (first | assumption | (refine rg_ne (by first | decide | omega) ?_) | apply rg_eq | refine rg_fr (by assumption) (by first | decide | (simp; omega)) ?_)) (Nat.le_of_ble_eq_true rfl) rfl rfl rfl ?_
  exact a_return dX10_add_61 rfl (Nat.le_of_ble_eq_true rfl) (Nat.le_of_ble_eq_true rfl) ⟨rfl, rfl⟩
set_option maxRecDepth 100000 in
set_option maxHeartbeats 400000 in
theorem k_X10_lastMinute (hc : h[a]? = some (.inr (9, [.ref (gN G + cm), .ref (gN G + cw), .int cnt]))) (hf : h[cm]? = some (.inl (gA G 0, 24, .inl f))) : rM l G 1 mX10_lastMinute 0 0 [.ref (gN G + a)] h (rV h (some (.int (if 0 ≤ cnt - 1 ∧ cnt - 1 < 24 then f (cnt - 1).toNatClampNeg else 0)))) := by
  refine rM_start (by decide) (Nat.le_of_ble_eq_true rfl) ?_
  refine a_aload_n 1 dX10_lastMinute_0 rfl rfl ?_
  refine a_aload_n 2 dX10_lastMinute_1 rfl rfl ?_
  refine a_get fd_X10_18 rfl 5 dX10_lastMinute_2 rfl (by repeat (first | assumption | (refine rg_ne (by first | decide | omega) ?_) | apply rg_eq | refine rg_fr (by assumption) (by first | decide | (simp; omega)) ?_)) rfl ?_
  refine a_iconst (1) 6 dX10_lastMinute_5 rfl (by decide) ?_
  refine a_isub 7 dX10_lastMinute_6 rfl ?_
  refine a_callV ok_X10_minuteOf ln_X10_22 in_X10_minuteOf rfl 10 dX10_lastMinute_7 rfl (k_X10_minuteOf hc hf (cnt - 1)) (by repeat (first | assumption | (refine rg_ne (by first | decide | omega) ?_) | apply rg_eq | refine rg_fr (by assumption) (by first | decide | (simp; omega)) ?_)) rfl rfl rfl ⟨(Nat.le_of_ble_eq_true rfl), (Nat.le_of_ble_eq_true rfl)⟩ (Nat.le_of_ble_eq_true rfl) ⟨(Nat.le_of_ble_eq_true rfl), (Nat.le_of_ble_eq_true rfl)⟩ ?_
  rintro _ _ ⟨rfl, rfl⟩
  exact a_ireturn dX10_lastMinute_10 rfl rfl (Nat.le_of_ble_eq_true rfl) (Nat.le_of_ble_eq_true rfl) ⟨rfl, rfl⟩
set_option maxRecDepth 100000 in
set_option maxHeartbeats 400000 in
theorem k_X10_howOften {n : Nat} (hn : n ≤ 24) (hc : h[a]? = some (.inr (9, [.ref (gN G + cm), .ref (gN G + cw), .int (nI n)]))) (hg : h[cw]? = some (.inl (gA G 0, 24, .inl g))) (x : Int32) : rM l G 1 mX10_howOften 0 0 [.ref (gN G + a), .int x] h (rV h (some (.int (nI (cntI g x n))))) := by
  refine rM_start (by decide) (Nat.le_of_ble_eq_true rfl) ?_
  have L : ∀ (r j : Nat) (y z : Int32), j + r = n → y = nI (cntI g x j) → z = nI j → rW l G (rRm 1 0 0) mX10_howOften (rZ G (rV h (some (.int (nI (cntI g x n))))) 0 0) 0 0 4 [some (.ref (gN G + a)), some (.int x), some (.int y), some (.int z)] [] h := by
    intro r
    induction r with
    | zero =>
      intro j y z hj hy hz
      subst hy; subst hz
      refine a_iload_n 5 dX10_howOften_4 rfl rfl ?_
      refine a_aload_n 6 dX10_howOften_5 rfl rfl ?_
      refine a_get fd_X10_18 rfl 9 dX10_howOften_6 rfl (by repeat (first | assumption | (refine rg_ne (by first | decide | omega) ?_) | apply rg_eq | refine rg_fr (by assumption) (by first | decide | (simp; omega)) ?_)) rfl ?_
      refine a_icmp_ge 30 12 dX10_howOften_9 rfl (by decide) (fun c_9 => ?_) (fun c_9 => absurd (nI_le (by omega) (by omega)) c_9)
      refine a_iload_n 31 dX10_howOften_30 rfl rfl ?_
      exact a_ireturn dX10_howOften_31 rfl rfl (Nat.le_of_ble_eq_true rfl) (Nat.le_of_ble_eq_true rfl) ⟨rfl, by rw [show j = n by omega]⟩
    | succ r ih =>
      intro j y z hj hy hz
      subst hy; subst hz
      have e1 : (if (0 : Int32) ≤ nI j ∧ nI j < 24 then g (nI j).toNatClampNeg else -9) = g j := by
        rw [if_pos ⟨nI_pos' (by omega), nI_lt (b := 24) (by omega) (by omega)⟩, nI_clamp (by omega)]
      refine a_iload_n 5 dX10_howOften_4 rfl rfl ?_
      refine a_aload_n 6 dX10_howOften_5 rfl rfl ?_
      refine a_get fd_X10_18 rfl 9 dX10_howOften_6 rfl (by repeat (first | assumption | (refine rg_ne (by first | decide | omega) ?_) | apply rg_eq | refine rg_fr (by assumption) (by first | decide | (simp; omega)) ?_)) rfl ?_
      refine a_icmp_ge 30 12 dX10_howOften_9 rfl (by decide) (fun c_9 => absurd c_9 (nI_ge (by omega) (by omega))) (fun c_9 => ?_)
      refine a_aload_n 13 dX10_howOften_12 rfl rfl ?_
      refine a_iload_n 14 dX10_howOften_13 rfl rfl ?_
      refine a_callV ok_X10_whoOf ln_X10_26 in_X10_whoOf rfl 17 dX10_howOften_14 rfl (k_X10_whoOf hc hg (nI j)) (by repeat (first | assumption | (refine rg_ne (by first | decide | omega) ?_) | apply rg_eq | refine rg_fr (by assumption) (by first | decide | (simp; omega)) ?_)) rfl rfl rfl ⟨(Nat.le_of_ble_eq_true rfl), (Nat.le_of_ble_eq_true rfl)⟩ (Nat.le_of_ble_eq_true rfl) ⟨(Nat.le_of_ble_eq_true rfl), (Nat.le_of_ble_eq_true rfl)⟩ ?_
      rintro _ _ ⟨rfl, rfl⟩
      refine a_iload_n 18 dX10_howOften_17 rfl rfl ?_
      refine a_icmp_ne 24 21 dX10_howOften_18 rfl (by decide) (fun c_18 => ?_) (fun c_18 => ?_)
      · refine a_iinc _ 27 dX10_howOften_24 rfl rfl (by decide) rfl ?_
        refine a_goto 4 dX10_howOften_27 (by decide) ?_
        exact ih (j + 1) _ _ (by omega) (by simp only [cntI]; rw [e1] at c_18; simp [c_18, nI_add, nI_1]) (nI_1 j)
      · refine a_iinc _ 24 dX10_howOften_21 rfl rfl (by decide) rfl ?_
        refine a_iinc _ 27 dX10_howOften_24 rfl rfl (by decide) rfl ?_
        refine a_goto 4 dX10_howOften_27 (by decide) ?_
        exact ih (j + 1) _ _ (by omega) (by simp only [cntI]; rw [e1] at c_18; simp [c_18, nI_add, nI_1]) (nI_1 j)
  refine a_iconst (0) 1 dX10_howOften_0 rfl (by decide) ?_
  refine a_istore_n 2 dX10_howOften_1 rfl (by decide) ?_
  refine a_iconst (0) 3 dX10_howOften_2 rfl (by decide) ?_
  refine a_istore_n 4 dX10_howOften_3 rfl (by decide) ?_
  exact L n 0 _ _ (by omega) rfl rfl
end YAWNS
