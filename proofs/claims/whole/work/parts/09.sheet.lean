/-! THE CLASS'S SHEETS. A sheet at a: its cells at c (60 ints), hasRow, lane, length -/
theorem b_eq0 {P : Prop} [Decidable P] : ((if P then (1 : Int32) else 0) = 0) ↔ ¬ P := by
  by_cases h : P <;> simp [h]
section SHEET
variable {l : Launch} {G : rG} {h : rH} {a c : Nat} {hr lane len : Int32} {f : Nat → Int32}
set_option maxRecDepth 100000 in
set_option maxHeartbeats 400000 in
theorem k_X8_hasCell (hc : h[a]? = some (.inr (8, [.ref (gN G + c), .int hr, .int lane, .int len]))) (i : Int32) : rM l G 0 mX8_hasCell 0 0 [.ref (gN G + a), .int i] h (rV h (some (.int (if 0 ≤ i ∧ i < len then 1 else 0)))) := by
  refine rM_start (by decide) (Nat.le_of_ble_eq_true rfl) ?_
  refine a_iload_n 1 dX8_hasCell_0 rfl rfl ?_
  refine a_if_lt 16 4 dX8_hasCell_1 rfl (by decide) (fun c_1 => ?_) (fun c_1 => ?_)
  · refine a_iconst (0) 17 dX8_hasCell_16 rfl (by decide) ?_
    exact a_ireturn dX8_hasCell_17 rfl rfl (Nat.le_of_ble_eq_true rfl) (Nat.le_of_ble_eq_true rfl) ⟨rfl, by simp only [i_lt, i_le, Int32.reduceToInt, Int32.reduceOfNat] at *; first | rw [if_pos (by omega)] | rw [if_neg (by omega)]⟩
  · refine a_iload_n 5 dX8_hasCell_4 rfl rfl ?_
    refine a_aload_n 6 dX8_hasCell_5 rfl rfl ?_
    refine a_get fd_X8_23 rfl 9 dX8_hasCell_6 rfl (by repeat (first | assumption | (refine rg_ne (by first | decide | omega) ?_) | apply rg_eq | refine rg_fr (by assumption) (by first | decide | (simp; omega)) ?_)) rfl ?_
    refine a_icmp_ge 16 12 dX8_hasCell_9 rfl (by decide) (fun c_9 => ?_) (fun c_9 => ?_)
    · refine a_iconst (0) 17 dX8_hasCell_16 rfl (by decide) ?_
      exact a_ireturn dX8_hasCell_17 rfl rfl (Nat.le_of_ble_eq_true rfl) (Nat.le_of_ble_eq_true rfl) ⟨rfl, by simp only [i_lt, i_le, Int32.reduceToInt, Int32.reduceOfNat] at *; first | rw [if_pos (by omega)] | rw [if_neg (by omega)]⟩
    · refine a_iconst (1) 13 dX8_hasCell_12 rfl (by decide) ?_
      refine a_goto 17 dX8_hasCell_13 (by decide) ?_
      exact a_ireturn dX8_hasCell_17 rfl rfl (Nat.le_of_ble_eq_true rfl) (Nat.le_of_ble_eq_true rfl) ⟨rfl, by simp only [i_lt, i_le, Int32.reduceToInt, Int32.reduceOfNat] at *; first | rw [if_pos (by omega)] | rw [if_neg (by omega)]⟩
set_option maxRecDepth 100000 in
set_option maxHeartbeats 400000 in
theorem k_X8_hasCells (hc : h[a]? = some (.inr (8, [.ref (gN G + c), .int hr, .int lane, .int len]))) (i n : Int32) : rM l G 0 mX8_hasCells 0 0 [.ref (gN G + a), .int i, .int n] h (rV h (some (.int (if 0 ≤ i ∧ i ≤ len ∧ 0 ≤ n ∧ n ≤ len - i then 1 else 0)))) := by
  refine rM_start (by decide) (Nat.le_of_ble_eq_true rfl) ?_
  refine a_iload_n 1 dX8_hasCells_0 rfl rfl ?_
  refine a_if_lt 30 4 dX8_hasCells_1 rfl (by decide) (fun c_1 => ?_) (fun c_1 => ?_)
  · refine a_iconst (0) 31 dX8_hasCells_30 rfl (by decide) ?_
    exact a_ireturn dX8_hasCells_31 rfl rfl (Nat.le_of_ble_eq_true rfl) (Nat.le_of_ble_eq_true rfl) ⟨rfl, by simp only [i_lt, i_le, Int32.reduceToInt, Int32.reduceOfNat] at *; first | rw [if_pos (by omega)] | rw [if_neg (by omega)]⟩
  · refine a_iload_n 5 dX8_hasCells_4 rfl rfl ?_
    refine a_aload_n 6 dX8_hasCells_5 rfl rfl ?_
    refine a_get fd_X8_23 rfl 9 dX8_hasCells_6 rfl (by repeat (first | assumption | (refine rg_ne (by first | decide | omega) ?_) | apply rg_eq | refine rg_fr (by assumption) (by first | decide | (simp; omega)) ?_)) rfl ?_
    refine a_icmp_gt 30 12 dX8_hasCells_9 rfl (by decide) (fun c_9 => ?_) (fun c_9 => ?_)
    · refine a_iconst (0) 31 dX8_hasCells_30 rfl (by decide) ?_
      exact a_ireturn dX8_hasCells_31 rfl rfl (Nat.le_of_ble_eq_true rfl) (Nat.le_of_ble_eq_true rfl) ⟨rfl, by simp only [i_lt, i_le, Int32.reduceToInt, Int32.reduceOfNat] at *; first | rw [if_pos (by omega)] | rw [if_neg (by omega)]⟩
    · refine a_iload_n 13 dX8_hasCells_12 rfl rfl ?_
      refine a_if_lt 30 16 dX8_hasCells_13 rfl (by decide) (fun c_13 => ?_) (fun c_13 => ?_)
      · refine a_iconst (0) 31 dX8_hasCells_30 rfl (by decide) ?_
        exact a_ireturn dX8_hasCells_31 rfl rfl (Nat.le_of_ble_eq_true rfl) (Nat.le_of_ble_eq_true rfl) ⟨rfl, by simp only [i_lt, i_le, Int32.reduceToInt, Int32.reduceOfNat] at *; first | rw [if_pos (by omega)] | rw [if_neg (by omega)]⟩
      · refine a_iload_n 17 dX8_hasCells_16 rfl rfl ?_
        refine a_aload_n 18 dX8_hasCells_17 rfl rfl ?_
        refine a_get fd_X8_23 rfl 21 dX8_hasCells_18 rfl (by repeat (first | assumption | (refine rg_ne (by first | decide | omega) ?_) | apply rg_eq | refine rg_fr (by assumption) (by first | decide | (simp; omega)) ?_)) rfl ?_
        refine a_iload_n 22 dX8_hasCells_21 rfl rfl ?_
        refine a_isub 23 dX8_hasCells_22 rfl ?_
        refine a_icmp_gt 30 26 dX8_hasCells_23 rfl (by decide) (fun c_23 => ?_) (fun c_23 => ?_)
        · refine a_iconst (0) 31 dX8_hasCells_30 rfl (by decide) ?_
          exact a_ireturn dX8_hasCells_31 rfl rfl (Nat.le_of_ble_eq_true rfl) (Nat.le_of_ble_eq_true rfl) ⟨rfl, by simp only [i_lt, i_le, Int32.reduceToInt, Int32.reduceOfNat] at *; first | rw [if_pos (by omega)] | rw [if_neg (by omega)]⟩
        · refine a_iconst (1) 27 dX8_hasCells_26 rfl (by decide) ?_
          refine a_goto 31 dX8_hasCells_27 (by decide) ?_
          exact a_ireturn dX8_hasCells_31 rfl rfl (Nat.le_of_ble_eq_true rfl) (Nat.le_of_ble_eq_true rfl) ⟨rfl, by simp only [i_lt, i_le, Int32.reduceToInt, Int32.reduceOfNat] at *; first | rw [if_pos (by omega)] | rw [if_neg (by omega)]⟩
set_option maxRecDepth 100000 in
set_option maxHeartbeats 400000 in
theorem k_X8_faultAs (hc : h[a]? = some (.inr (8, [.ref (gN G + c), .int hr, .int lane, .int len]))) (w : Int32) : rM l G 0 mX8_faultAs 0 0 [.ref (gN G + a), .int w] h (rV h (some (.int (if hr = 0 then 1 else if lane = w then 0 else 2)))) := by
  refine rM_start (by decide) (Nat.le_of_ble_eq_true rfl) ?_
  refine a_aload_n 1 dX8_faultAs_0 rfl rfl ?_
  refine a_get fd_X8_15 rfl 4 dX8_faultAs_1 rfl (by repeat (first | assumption | (refine rg_ne (by first | decide | omega) ?_) | apply rg_eq | refine rg_fr (by assumption) (by first | decide | (simp; omega)) ?_)) rfl ?_
  refine a_if_ne 9 7 dX8_faultAs_4 rfl (by decide) (fun c_4 => ?_) (fun c_4 => ?_)
  · refine a_aload_n 10 dX8_faultAs_9 rfl rfl ?_
    refine a_get fd_X8_19 rfl 13 dX8_faultAs_10 rfl (by repeat (first | assumption | (refine rg_ne (by first | decide | omega) ?_) | apply rg_eq | refine rg_fr (by assumption) (by first | decide | (simp; omega)) ?_)) rfl ?_
    refine a_iload_n 14 dX8_faultAs_13 rfl rfl ?_
    refine a_icmp_ne 21 17 dX8_faultAs_14 rfl (by decide) (fun c_14 => ?_) (fun c_14 => ?_)
    · refine a_iconst (2) 22 dX8_faultAs_21 rfl (by decide) ?_
      exact a_ireturn dX8_faultAs_22 rfl rfl (Nat.le_of_ble_eq_true rfl) (Nat.le_of_ble_eq_true rfl) ⟨rfl, by simp_all⟩
    · refine a_iconst (0) 18 dX8_faultAs_17 rfl (by decide) ?_
      refine a_goto 22 dX8_faultAs_18 (by decide) ?_
      exact a_ireturn dX8_faultAs_22 rfl rfl (Nat.le_of_ble_eq_true rfl) (Nat.le_of_ble_eq_true rfl) ⟨rfl, by simp_all⟩
  · refine a_iconst (1) 8 dX8_faultAs_7 rfl (by decide) ?_
    exact a_ireturn dX8_faultAs_8 rfl rfl (Nat.le_of_ble_eq_true rfl) (Nat.le_of_ble_eq_true rfl) ⟨rfl, by simp_all⟩
set_option maxRecDepth 100000 in
set_option maxHeartbeats 400000 in
theorem k_X8_read (hc : h[a]? = some (.inr (8, [.ref (gN G + c), .int hr, .int lane, .int len]))) (hf : h[c]? = some (.inl (gA G 0, 60, .inl f))) (i : Int32) : rM l G 0 mX8_read 0 0 [.ref (gN G + a), .int i] h (rV h (some (.int (if 0 ≤ i ∧ i < 60 then f i.toNatClampNeg else 0)))) := by
  refine rM_start (by decide) (Nat.le_of_ble_eq_true rfl) ?_
  refine a_iload_n 1 dX8_read_0 rfl rfl ?_
  refine a_if_lt 22 4 dX8_read_1 rfl (by decide) (fun c_1 => ?_) (fun c_1 => ?_)
  · refine a_iconst (0) 23 dX8_read_22 rfl (by decide) ?_
    exact a_ireturn dX8_read_23 rfl rfl (Nat.le_of_ble_eq_true rfl) (Nat.le_of_ble_eq_true rfl) ⟨rfl, by simp only [i_lt, i_le, Int32.reduceToInt, Int32.reduceOfNat] at *; first | rw [if_pos (by omega)] | rw [if_neg (by omega)]⟩
  · refine a_iload_n 5 dX8_read_4 rfl rfl ?_
    refine a_aload_n 6 dX8_read_5 rfl rfl ?_
    refine a_get fd_X8_9 rfl 9 dX8_read_6 rfl (by repeat (first | assumption | (refine rg_ne (by first | decide | omega) ?_) | apply rg_eq | refine rg_fr (by assumption) (by first | decide | (simp; omega)) ?_)) rfl ?_
    refine a_alen_0 10 dX8_read_9 rfl (by repeat (first | assumption | (refine rg_ne (by first | decide | omega) ?_) | apply rg_eq | refine rg_fr (by assumption) (by first | decide | (simp; omega)) ?_)) ?_
    refine a_icmp_ge 22 13 dX8_read_10 rfl (by decide) (fun c_10 => ?_) (fun c_10 => ?_)
    · refine a_iconst (0) 23 dX8_read_22 rfl (by decide) ?_
      exact a_ireturn dX8_read_23 rfl rfl (Nat.le_of_ble_eq_true rfl) (Nat.le_of_ble_eq_true rfl) ⟨rfl, by simp only [i_lt, i_le, Int32.reduceToInt, Int32.reduceOfNat] at *; first | rw [if_pos (by omega)] | rw [if_neg (by omega)]⟩
    · refine a_aload_n 14 dX8_read_13 rfl rfl ?_
      refine a_get fd_X8_9 rfl 17 dX8_read_14 rfl (by repeat (first | assumption | (refine rg_ne (by first | decide | omega) ?_) | apply rg_eq | refine rg_fr (by assumption) (by first | decide | (simp; omega)) ?_)) rfl ?_
      refine a_iload_n 18 dX8_read_17 rfl rfl ?_
      refine a_iaload 19 dX8_read_18 rfl (by repeat (first | assumption | (refine rg_ne (by first | decide | omega) ?_) | apply rg_eq | refine rg_fr (by assumption) (by first | decide | (simp; omega)) ?_)) (vin_ge c_1 c_10 (by decide)) ?_
      refine a_goto 23 dX8_read_19 (by decide) ?_
      exact a_ireturn dX8_read_23 rfl rfl (Nat.le_of_ble_eq_true rfl) (Nat.le_of_ble_eq_true rfl) ⟨rfl, by simp only [i_lt, i_le, Int32.reduceToInt, Int32.reduceOfNat] at *; first | rw [if_pos (by omega)] | rw [if_neg (by omega)]⟩
set_option maxRecDepth 100000 in
set_option maxHeartbeats 400000 in
theorem k_X8_cutToLane (hc : h[a]? = some (.inr (8, [.ref (gN G + c), .int hr, .int lane, .int len]))) (v : Int32) : rM l G 0 mX8_cutToLane 0 0 [.ref (gN G + a), .int v] h (rV h (some (.int (if lane = 0 then v.toInt8.toInt32 else if lane = 1 then v.toInt16.toInt32 else v)))) := by
  refine rM_start (by decide) (Nat.le_of_ble_eq_true rfl) ?_
  refine a_aload_n 1 dX8_cutToLane_0 rfl rfl ?_
  refine a_get fd_X8_19 rfl 4 dX8_cutToLane_1 rfl (by repeat (first | assumption | (refine rg_ne (by first | decide | omega) ?_) | apply rg_eq | refine rg_fr (by assumption) (by first | decide | (simp; omega)) ?_)) rfl ?_
  refine a_if_ne 10 7 dX8_cutToLane_4 rfl (by decide) (fun c_4 => ?_) (fun c_4 => ?_)
  · refine a_aload_n 11 dX8_cutToLane_10 rfl rfl ?_
    refine a_get fd_X8_19 rfl 14 dX8_cutToLane_11 rfl (by repeat (first | assumption | (refine rg_ne (by first | decide | omega) ?_) | apply rg_eq | refine rg_fr (by assumption) (by first | decide | (simp; omega)) ?_)) rfl ?_
    refine a_iconst (1) 15 dX8_cutToLane_14 rfl (by decide) ?_
    refine a_icmp_ne 23 18 dX8_cutToLane_15 rfl (by decide) (fun c_15 => ?_) (fun c_15 => ?_)
    · refine a_iload_n 24 dX8_cutToLane_23 rfl rfl ?_
      exact a_ireturn dX8_cutToLane_24 rfl rfl (Nat.le_of_ble_eq_true rfl) (Nat.le_of_ble_eq_true rfl) ⟨rfl, by simp_all⟩
    · refine a_iload_n 19 dX8_cutToLane_18 rfl rfl ?_
      refine a_i2s 20 dX8_cutToLane_19 rfl ?_
      refine a_goto 24 dX8_cutToLane_20 (by decide) ?_
      exact a_ireturn dX8_cutToLane_24 rfl rfl (Nat.le_of_ble_eq_true rfl) (Nat.le_of_ble_eq_true rfl) ⟨rfl, by simp_all⟩
  · refine a_iload_n 8 dX8_cutToLane_7 rfl rfl ?_
    refine a_i2b 9 dX8_cutToLane_8 rfl ?_
    exact a_ireturn dX8_cutToLane_9 rfl rfl (Nat.le_of_ble_eq_true rfl) (Nat.le_of_ble_eq_true rfl) ⟨rfl, by simp_all⟩
set_option maxRecDepth 100000 in
set_option maxHeartbeats 400000 in
theorem k_X8_write (hc : h[a]? = some (.inr (8, [.ref (gN G + c), .int hr, .int lane, .int len]))) (hf : h[c]? = some (.inl (gA G 0, 60, .inl f))) (i v : Int32) (hi : vp_in i 60) : rM l G 1 mX8_write 0 0 [.ref (gN G + a), .int i, .int v] h (rV (h.set c (.inl (gA G 0, 60, .inl (upd f i.toNatClampNeg (if lane = 0 then v.toInt8.toInt32 else if lane = 1 then v.toInt16.toInt32 else v))))) none) := by
  refine rM_start (by decide) (Nat.le_of_ble_eq_true rfl) ?_
  refine a_iload_n 1 dX8_write_0 rfl rfl ?_
  refine a_if_lt 24 4 dX8_write_1 rfl (by decide) (fun c_1 => absurd c_1 (fun q => hi (Or.inl q))) (fun c_1 => ?_)
  refine a_iload_n 5 dX8_write_4 rfl rfl ?_
  refine a_aload_n 6 dX8_write_5 rfl rfl ?_
  refine a_get fd_X8_9 rfl 9 dX8_write_6 rfl (by repeat (first | assumption | (refine rg_ne (by first | decide | omega) ?_) | apply rg_eq | refine rg_fr (by assumption) (by first | decide | (simp; omega)) ?_)) rfl ?_
  refine a_alen_0 10 dX8_write_9 rfl (by repeat (first | assumption | (refine rg_ne (by first | decide | omega) ?_) | apply rg_eq | refine rg_fr (by assumption) (by first | decide | (simp; omega)) ?_)) ?_
  refine a_icmp_ge 24 13 dX8_write_10 rfl (by decide) (fun c_10 => absurd c_10 (vin_lt hi (by decide))) (fun c_10 => ?_)
  refine a_aload_n 14 dX8_write_13 rfl rfl ?_
  refine a_get fd_X8_9 rfl 17 dX8_write_14 rfl (by repeat (first | assumption | (refine rg_ne (by first | decide | omega) ?_) | apply rg_eq | refine rg_fr (by assumption) (by first | decide | (simp; omega)) ?_)) rfl ?_
  refine a_iload_n 18 dX8_write_17 rfl rfl ?_
  refine a_aload_n 19 dX8_write_18 rfl rfl ?_
  refine a_iload_n 20 dX8_write_19 rfl rfl ?_
  refine a_callV ok_X8_cutToLane ln_X8_26 in_X8_cutToLane rfl 23 dX8_write_20 rfl (k_X8_cutToLane hc v) (by repeat (first | assumption | (refine rg_ne (by first | decide | omega) ?_) | apply rg_eq | refine rg_fr (by assumption) (by first | decide | (simp; omega)) ?_)) rfl rfl rfl ⟨(Nat.le_of_ble_eq_true rfl), (Nat.le_of_ble_eq_true rfl)⟩ (Nat.le_of_ble_eq_true rfl) ⟨(Nat.le_of_ble_eq_true rfl), (Nat.le_of_ble_eq_true rfl)⟩ ?_
  rintro _ _ ⟨rfl, rfl⟩
  refine a_iastore 24 dX8_write_23 rfl (by repeat (first | assumption | (refine rg_ne (by first | decide | omega) ?_) | apply rg_eq | refine rg_fr (by assumption) (by first | decide | (simp; omega)) ?_)) hi ?_
  exact a_return dX8_write_24 rfl (Nat.le_of_ble_eq_true rfl) (Nat.le_of_ble_eq_true rfl) ⟨rfl, rfl⟩
end SHEET
