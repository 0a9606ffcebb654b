/-! THE CLASS's own small methods -/
theorem rf_or (o : Option Nat) : va_rf o = .null ∨ ∃ a, va_rf o = .ref a := by
  cases o with
  | none => exact Or.inl rfl
  | some a => exact Or.inr ⟨a, rfl⟩
section YT
variable {l : Launch} {G : rG} {h : rH} {on lc lf mk : Int32} {f : Nat → Option Nat} {g : Nat → Int32}
set_option maxRecDepth 100000 in
set_option maxHeartbeats 400000 in
theorem k_X11_sheetAt (hy : h[0]? = some (ytc G on lc lf mk)) (hf : h[1]? = some (.inl (gA G 2, 4, .inr (.inr (.inr (.inr f)))))) (c : Int32) : rM l G 0 mX11_sheetAt 0 0 [.ref (gN G + 0), .int c] h (rV h (some (va_rf (if 0 ≤ c ∧ c < 4 then f c.toNatClampNeg else none)))) := by
  refine rM_start (by decide) (Nat.le_of_ble_eq_true rfl) ?_
  refine a_iload_n 1 dX11_sheetAt_0 rfl rfl ?_
  refine a_if_lt 22 4 dX11_sheetAt_1 rfl (by decide) (fun c_1 => ?_) (fun c_1 => ?_)
  · refine a_null 23 dX11_sheetAt_22 rfl ?_
    exact a_areturn dX11_sheetAt_23 rfl (by first | exact Or.inl rfl | exact Or.inr ⟨_, rfl⟩ | exact rf_or _) (Nat.le_of_ble_eq_true rfl) (Nat.le_of_ble_eq_true rfl) ⟨rfl, by simp only [i_lt, i_le, Int32.reduceToInt, Int32.reduceOfNat] at *; first | (rw [if_pos (by omega)] <;> rfl) | (rw [if_neg (by omega)] <;> rfl)⟩
  · refine a_iload_n 5 dX11_sheetAt_4 rfl rfl ?_
    refine a_aload_n 6 dX11_sheetAt_5 rfl rfl ?_
    refine a_get fd_X11_13 rfl 9 dX11_sheetAt_6 rfl (by repeat (first | assumption | (refine rg_ne (by first | decide | omega) ?_) | apply rg_eq | refine rg_fr (by assumption) (by first | decide | (simp; omega)) ?_)) rfl ?_
    refine a_alen_2 10 dX11_sheetAt_9 rfl (by repeat (first | assumption | (refine rg_ne (by first | decide | omega) ?_) | apply rg_eq | refine rg_fr (by assumption) (by first | decide | (simp; omega)) ?_)) ?_
    refine a_icmp_ge 22 13 dX11_sheetAt_10 rfl (by decide) (fun c_10 => ?_) (fun c_10 => ?_)
    · refine a_null 23 dX11_sheetAt_22 rfl ?_
      exact a_areturn dX11_sheetAt_23 rfl (by first | exact Or.inl rfl | exact Or.inr ⟨_, rfl⟩ | exact rf_or _) (Nat.le_of_ble_eq_true rfl) (Nat.le_of_ble_eq_true rfl) ⟨rfl, by simp only [i_lt, i_le, Int32.reduceToInt, Int32.reduceOfNat] at *; first | (rw [if_pos (by omega)] <;> rfl) | (rw [if_neg (by omega)] <;> rfl)⟩
    · refine a_aload_n 14 dX11_sheetAt_13 rfl rfl ?_
      refine a_get fd_X11_13 rfl 17 dX11_sheetAt_14 rfl (by repeat (first | assumption | (refine rg_ne (by first | decide | omega) ?_) | apply rg_eq | refine rg_fr (by assumption) (by first | decide | (simp; omega)) ?_)) rfl ?_
      refine a_iload_n 18 dX11_sheetAt_17 rfl rfl ?_
      refine a_aaload_2 19 dX11_sheetAt_18 rfl (by repeat (first | assumption | (refine rg_ne (by first | decide | omega) ?_) | apply rg_eq | refine rg_fr (by assumption) (by first | decide | (simp; omega)) ?_)) (vin_ge c_1 c_10 (by decide)) ?_
      refine a_goto 23 dX11_sheetAt_19 (by decide) ?_
      exact a_areturn dX11_sheetAt_23 rfl (by first | exact Or.inl rfl | exact Or.inr ⟨_, rfl⟩ | exact rf_or _) (Nat.le_of_ble_eq_true rfl) (Nat.le_of_ble_eq_true rfl) ⟨rfl, by simp only [i_lt, i_le, Int32.reduceToInt, Int32.reduceOfNat] at *; first | (rw [if_pos (by omega)] <;> rfl) | (rw [if_neg (by omega)] <;> rfl)⟩
set_option maxRecDepth 100000 in
set_option maxHeartbeats 400000 in
theorem k_X11_personAt (hy : h[0]? = some (ytc G on lc lf mk)) (hf : h[12]? = some (.inl (gA G 3, 12, .inr (.inr (.inr (.inr f)))))) (c : Int32) : rM l G 0 mX11_personAt 0 0 [.ref (gN G + 0), .int c] h (rV h (some (va_rf (if 0 ≤ c ∧ c < on ∧ c < 12 then f c.toNatClampNeg else none)))) := by
  refine rM_start (by decide) (Nat.le_of_ble_eq_true rfl) ?_
  refine a_iload_n 1 dX11_personAt_0 rfl rfl ?_
  refine a_if_lt 30 4 dX11_personAt_1 rfl (by decide) (fun c_1 => ?_) (fun c_1 => ?_)
  · refine a_null 31 dX11_personAt_30 rfl ?_
    exact a_areturn dX11_personAt_31 rfl (by first | exact Or.inl rfl | exact Or.inr ⟨_, rfl⟩ | exact rf_or _) (Nat.le_of_ble_eq_true rfl) (Nat.le_of_ble_eq_true rfl) ⟨rfl, by simp only [i_lt, i_le, Int32.reduceToInt, Int32.reduceOfNat] at *; first | (rw [if_pos (by omega)] <;> rfl) | (rw [if_neg (by omega)] <;> rfl)⟩
  · refine a_iload_n 5 dX11_personAt_4 rfl rfl ?_
    refine a_aload_n 6 dX11_personAt_5 rfl rfl ?_
    refine a_get fd_X11_98 rfl 9 dX11_personAt_6 rfl (by repeat (first | assumption | (refine rg_ne (by first | decide | omega) ?_) | apply rg_eq | refine rg_fr (by assumption) (by first | decide | (simp; omega)) ?_)) rfl ?_
    refine a_icmp_ge 30 12 dX11_personAt_9 rfl (by decide) (fun c_9 => ?_) (fun c_9 => ?_)
    · refine a_null 31 dX11_personAt_30 rfl ?_
      exact a_areturn dX11_personAt_31 rfl (by first | exact Or.inl rfl | exact Or.inr ⟨_, rfl⟩ | exact rf_or _) (Nat.le_of_ble_eq_true rfl) (Nat.le_of_ble_eq_true rfl) ⟨rfl, by simp only [i_lt, i_le, Int32.reduceToInt, Int32.reduceOfNat] at *; first | (rw [if_pos (by omega)] <;> rfl) | (rw [if_neg (by omega)] <;> rfl)⟩
    · refine a_iload_n 13 dX11_personAt_12 rfl rfl ?_
      refine a_aload_n 14 dX11_personAt_13 rfl rfl ?_
      refine a_get fd_X11_40 rfl 17 dX11_personAt_14 rfl (by repeat (first | assumption | (refine rg_ne (by first | decide | omega) ?_) | apply rg_eq | refine rg_fr (by assumption) (by first | decide | (simp; omega)) ?_)) rfl ?_
      refine a_alen_3 18 dX11_personAt_17 rfl (by repeat (first | assumption | (refine rg_ne (by first | decide | omega) ?_) | apply rg_eq | refine rg_fr (by assumption) (by first | decide | (simp; omega)) ?_)) ?_
      refine a_icmp_ge 30 21 dX11_personAt_18 rfl (by decide) (fun c_18 => ?_) (fun c_18 => ?_)
      · refine a_null 31 dX11_personAt_30 rfl ?_
        exact a_areturn dX11_personAt_31 rfl (by first | exact Or.inl rfl | exact Or.inr ⟨_, rfl⟩ | exact rf_or _) (Nat.le_of_ble_eq_true rfl) (Nat.le_of_ble_eq_true rfl) ⟨rfl, by simp only [i_lt, i_le, Int32.reduceToInt, Int32.reduceOfNat] at *; first | (rw [if_pos (by omega)] <;> rfl) | (rw [if_neg (by omega)] <;> rfl)⟩
      · refine a_aload_n 22 dX11_personAt_21 rfl rfl ?_
        refine a_get fd_X11_40 rfl 25 dX11_personAt_22 rfl (by repeat (first | assumption | (refine rg_ne (by first | decide | omega) ?_) | apply rg_eq | refine rg_fr (by assumption) (by first | decide | (simp; omega)) ?_)) rfl ?_
        refine a_iload_n 26 dX11_personAt_25 rfl rfl ?_
        refine a_aaload_3 27 dX11_personAt_26 rfl (by repeat (first | assumption | (refine rg_ne (by first | decide | omega) ?_) | apply rg_eq | refine rg_fr (by assumption) (by first | decide | (simp; omega)) ?_)) (vin_ge c_1 c_18 (by decide)) ?_
        refine a_goto 31 dX11_personAt_27 (by decide) ?_
        exact a_areturn dX11_personAt_31 rfl (by first | exact Or.inl rfl | exact Or.inr ⟨_, rfl⟩ | exact rf_or _) (Nat.le_of_ble_eq_true rfl) (Nat.le_of_ble_eq_true rfl) ⟨rfl, by simp only [i_lt, i_le, Int32.reduceToInt, Int32.reduceOfNat] at *; first | (rw [if_pos (by omega)] <;> rfl) | (rw [if_neg (by omega)] <;> rfl)⟩
set_option maxRecDepth 100000 in
set_option maxHeartbeats 400000 in
theorem k_X11_lawAt (hy : h[0]? = some (ytc G on lc lf mk)) (hf : h[13]? = some (.inl (gA G 4, 6, .inr (.inr (.inr (.inr f)))))) (c : Int32) : rM l G 0 mX11_lawAt 0 0 [.ref (gN G + 0), .int c] h (rV h (some (va_rf (if 0 ≤ c ∧ c < lc ∧ c < 6 then f c.toNatClampNeg else none)))) := by
  refine rM_start (by decide) (Nat.le_of_ble_eq_true rfl) ?_
  refine a_iload_n 1 dX11_lawAt_0 rfl rfl ?_
  refine a_if_lt 30 4 dX11_lawAt_1 rfl (by decide) (fun c_1 => ?_) (fun c_1 => ?_)
  · refine a_null 31 dX11_lawAt_30 rfl ?_
    exact a_areturn dX11_lawAt_31 rfl (by first | exact Or.inl rfl | exact Or.inr ⟨_, rfl⟩ | exact rf_or _) (Nat.le_of_ble_eq_true rfl) (Nat.le_of_ble_eq_true rfl) ⟨rfl, by simp only [i_lt, i_le, Int32.reduceToInt, Int32.reduceOfNat] at *; first | (rw [if_pos (by omega)] <;> rfl) | (rw [if_neg (by omega)] <;> rfl)⟩
  · refine a_iload_n 5 dX11_lawAt_4 rfl rfl ?_
    refine a_aload_n 6 dX11_lawAt_5 rfl rfl ?_
    refine a_get fd_X11_174 rfl 9 dX11_lawAt_6 rfl (by repeat (first | assumption | (refine rg_ne (by first | decide | omega) ?_) | apply rg_eq | refine rg_fr (by assumption) (by first | decide | (simp; omega)) ?_)) rfl ?_
    refine a_icmp_ge 30 12 dX11_lawAt_9 rfl (by decide) (fun c_9 => ?_) (fun c_9 => ?_)
    · refine a_null 31 dX11_lawAt_30 rfl ?_
      exact a_areturn dX11_lawAt_31 rfl (by first | exact Or.inl rfl | exact Or.inr ⟨_, rfl⟩ | exact rf_or _) (Nat.le_of_ble_eq_true rfl) (Nat.le_of_ble_eq_true rfl) ⟨rfl, by simp only [i_lt, i_le, Int32.reduceToInt, Int32.reduceOfNat] at *; first | (rw [if_pos (by omega)] <;> rfl) | (rw [if_neg (by omega)] <;> rfl)⟩
    · refine a_iload_n 13 dX11_lawAt_12 rfl rfl ?_
      refine a_aload_n 14 dX11_lawAt_13 rfl rfl ?_
      refine a_get fd_X11_46 rfl 17 dX11_lawAt_14 rfl (by repeat (first | assumption | (refine rg_ne (by first | decide | omega) ?_) | apply rg_eq | refine rg_fr (by assumption) (by first | decide | (simp; omega)) ?_)) rfl ?_
      refine a_alen_4 18 dX11_lawAt_17 rfl (by repeat (first | assumption | (refine rg_ne (by first | decide | omega) ?_) | apply rg_eq | refine rg_fr (by assumption) (by first | decide | (simp; omega)) ?_)) ?_
      refine a_icmp_ge 30 21 dX11_lawAt_18 rfl (by decide) (fun c_18 => ?_) (fun c_18 => ?_)
      · refine a_null 31 dX11_lawAt_30 rfl ?_
        exact a_areturn dX11_lawAt_31 rfl (by first | exact Or.inl rfl | exact Or.inr ⟨_, rfl⟩ | exact rf_or _) (Nat.le_of_ble_eq_true rfl) (Nat.le_of_ble_eq_true rfl) ⟨rfl, by simp only [i_lt, i_le, Int32.reduceToInt, Int32.reduceOfNat] at *; first | (rw [if_pos (by omega)] <;> rfl) | (rw [if_neg (by omega)] <;> rfl)⟩
      · refine a_aload_n 22 dX11_lawAt_21 rfl rfl ?_
        refine a_get fd_X11_46 rfl 25 dX11_lawAt_22 rfl (by repeat (first | assumption | (refine rg_ne (by first | decide | omega) ?_) | apply rg_eq | refine rg_fr (by assumption) (by first | decide | (simp; omega)) ?_)) rfl ?_
        refine a_iload_n 26 dX11_lawAt_25 rfl rfl ?_
        refine a_aaload_4 27 dX11_lawAt_26 rfl (by repeat (first | assumption | (refine rg_ne (by first | decide | omega) ?_) | apply rg_eq | refine rg_fr (by assumption) (by first | decide | (simp; omega)) ?_)) (vin_ge c_1 c_18 (by decide)) ?_
        refine a_goto 31 dX11_lawAt_27 (by decide) ?_
        exact a_areturn dX11_lawAt_31 rfl (by first | exact Or.inl rfl | exact Or.inr ⟨_, rfl⟩ | exact rf_or _) (Nat.le_of_ble_eq_true rfl) (Nat.le_of_ble_eq_true rfl) ⟨rfl, by simp only [i_lt, i_le, Int32.reduceToInt, Int32.reduceOfNat] at *; first | (rw [if_pos (by omega)] <;> rfl) | (rw [if_neg (by omega)] <;> rfl)⟩
set_option maxRecDepth 100000 in
set_option maxHeartbeats 400000 in
theorem k_X11_isLane (c : Int32) : rM l G 0 mX11_isLane 0 0 [.int c] h (rV h (some (.int (if 0 ≤ c ∧ c ≤ 2 then 1 else 0)))) := by
  refine rM_start (by decide) (Nat.le_of_ble_eq_true rfl) ?_
  refine a_iload_n 1 dX11_isLane_0 rfl rfl ?_
  refine a_if_lt 13 4 dX11_isLane_1 rfl (by decide) (fun c_1 => ?_) (fun c_1 => ?_)
  · refine a_iconst (0) 14 dX11_isLane_13 rfl (by decide) ?_
    exact a_ireturn dX11_isLane_14 rfl rfl (Nat.le_of_ble_eq_true rfl) (Nat.le_of_ble_eq_true rfl) ⟨rfl, by simp only [i_lt, i_le, Int32.reduceToInt, Int32.reduceOfNat] at *; first | rw [if_pos (by omega)] | rw [if_neg (by omega)]⟩
  · refine a_iload_n 5 dX11_isLane_4 rfl rfl ?_
    refine a_iconst (2) 6 dX11_isLane_5 rfl (by decide) ?_
    refine a_icmp_gt 13 9 dX11_isLane_6 rfl (by decide) (fun c_6 => ?_) (fun c_6 => ?_)
    · refine a_iconst (0) 14 dX11_isLane_13 rfl (by decide) ?_
      exact a_ireturn dX11_isLane_14 rfl rfl (Nat.le_of_ble_eq_true rfl) (Nat.le_of_ble_eq_true rfl) ⟨rfl, by simp only [i_lt, i_le, Int32.reduceToInt, Int32.reduceOfNat] at *; first | rw [if_pos (by omega)] | rw [if_neg (by omega)]⟩
    · refine a_iconst (1) 10 dX11_isLane_9 rfl (by decide) ?_
      refine a_goto 14 dX11_isLane_10 (by decide) ?_
      exact a_ireturn dX11_isLane_14 rfl rfl (Nat.le_of_ble_eq_true rfl) (Nat.le_of_ble_eq_true rfl) ⟨rfl, by simp only [i_lt, i_le, Int32.reduceToInt, Int32.reduceOfNat] at *; first | rw [if_pos (by omega)] | rw [if_neg (by omega)]⟩
set_option maxRecDepth 100000 in
set_option maxHeartbeats 400000 in
theorem k_X11_isKind (c : Int32) : rM l G 0 mX11_isKind 0 0 [.int c] h (rV h (some (.int (if 0 ≤ c ∧ c ≤ 2 then 1 else 0)))) := by
  refine rM_start (by decide) (Nat.le_of_ble_eq_true rfl) ?_
  refine a_iload_n 1 dX11_isKind_0 rfl rfl ?_
  refine a_if_lt 13 4 dX11_isKind_1 rfl (by decide) (fun c_1 => ?_) (fun c_1 => ?_)
  · refine a_iconst (0) 14 dX11_isKind_13 rfl (by decide) ?_
    exact a_ireturn dX11_isKind_14 rfl rfl (Nat.le_of_ble_eq_true rfl) (Nat.le_of_ble_eq_true rfl) ⟨rfl, by simp only [i_lt, i_le, Int32.reduceToInt, Int32.reduceOfNat] at *; first | rw [if_pos (by omega)] | rw [if_neg (by omega)]⟩
  · refine a_iload_n 5 dX11_isKind_4 rfl rfl ?_
    refine a_iconst (2) 6 dX11_isKind_5 rfl (by decide) ?_
    refine a_icmp_gt 13 9 dX11_isKind_6 rfl (by decide) (fun c_6 => ?_) (fun c_6 => ?_)
    · refine a_iconst (0) 14 dX11_isKind_13 rfl (by decide) ?_
      exact a_ireturn dX11_isKind_14 rfl rfl (Nat.le_of_ble_eq_true rfl) (Nat.le_of_ble_eq_true rfl) ⟨rfl, by simp only [i_lt, i_le, Int32.reduceToInt, Int32.reduceOfNat] at *; first | rw [if_pos (by omega)] | rw [if_neg (by omega)]⟩
    · refine a_iconst (1) 10 dX11_isKind_9 rfl (by decide) ?_
      refine a_goto 14 dX11_isKind_10 (by decide) ?_
      exact a_ireturn dX11_isKind_14 rfl rfl (Nat.le_of_ble_eq_true rfl) (Nat.le_of_ble_eq_true rfl) ⟨rfl, by simp only [i_lt, i_le, Int32.reduceToInt, Int32.reduceOfNat] at *; first | rw [if_pos (by omega)] | rw [if_neg (by omega)]⟩
set_option maxRecDepth 100000 in
set_option maxHeartbeats 400000 in
theorem k_X11_isDigit (c : Int32) : rM l G 0 mX11_isDigit 0 0 [.int c] h (rV h (some (.int (if 0 ≤ c ∧ c ≤ 9 then 1 else 0)))) := by
  refine rM_start (by decide) (Nat.le_of_ble_eq_true rfl) ?_
  refine a_iload_n 1 dX11_isDigit_0 rfl rfl ?_
  refine a_if_lt 14 4 dX11_isDigit_1 rfl (by decide) (fun c_1 => ?_) (fun c_1 => ?_)
  · refine a_iconst (0) 15 dX11_isDigit_14 rfl (by decide) ?_
    exact a_ireturn dX11_isDigit_15 rfl rfl (Nat.le_of_ble_eq_true rfl) (Nat.le_of_ble_eq_true rfl) ⟨rfl, by simp only [i_lt, i_le, Int32.reduceToInt, Int32.reduceOfNat] at *; first | rw [if_pos (by omega)] | rw [if_neg (by omega)]⟩
  · refine a_iload_n 5 dX11_isDigit_4 rfl rfl ?_
    refine a_bipush (9) 7 dX11_isDigit_5 rfl (by decide) ?_
    refine a_icmp_gt 14 10 dX11_isDigit_7 rfl (by decide) (fun c_7 => ?_) (fun c_7 => ?_)
    · refine a_iconst (0) 15 dX11_isDigit_14 rfl (by decide) ?_
      exact a_ireturn dX11_isDigit_15 rfl rfl (Nat.le_of_ble_eq_true rfl) (Nat.le_of_ble_eq_true rfl) ⟨rfl, by simp only [i_lt, i_le, Int32.reduceToInt, Int32.reduceOfNat] at *; first | rw [if_pos (by omega)] | rw [if_neg (by omega)]⟩
    · refine a_iconst (1) 11 dX11_isDigit_10 rfl (by decide) ?_
      refine a_goto 15 dX11_isDigit_11 (by decide) ?_
      exact a_ireturn dX11_isDigit_15 rfl rfl (Nat.le_of_ble_eq_true rfl) (Nat.le_of_ble_eq_true rfl) ⟨rfl, by simp only [i_lt, i_le, Int32.reduceToInt, Int32.reduceOfNat] at *; first | rw [if_pos (by omega)] | rw [if_neg (by omega)]⟩
set_option maxRecDepth 100000 in
set_option maxHeartbeats 400000 in
theorem k_X11_faulted (hy : h[0]? = some (ytc G on lc lf mk)) (x : Int32) : rM l G 0 mX11_faulted 0 0 [.ref (gN G + 0), .int x] h (fun h' v => v = some (.int (-10 - x)) ∧ h'[0]? = some (ytc G on lc x mk) ∧ fr h h' [0]) := by
  refine rM_start (by decide) (Nat.le_of_ble_eq_true rfl) ?_
  refine a_aload_n 1 dX11_faulted_0 rfl rfl ?_
  refine a_iload_n 2 dX11_faulted_1 rfl rfl ?_
  refine a_put fd_X11_268 cl_X11 rfl 5 dX11_faulted_2 rfl (by repeat (first | assumption | (refine rg_ne (by first | decide | omega) ?_) | apply rg_eq | refine rg_fr (by assumption) (by first | decide | (simp; omega)) ?_)) (Nat.le_of_ble_eq_true rfl) rfl rfl rfl ?_
  refine a_bipush (-10) 7 dX11_faulted_5 rfl (by decide) ?_
  refine a_iload_n 8 dX11_faulted_7 rfl rfl ?_
  refine a_isub 9 dX11_faulted_8 rfl ?_
  exact a_ireturn dX11_faulted_9 rfl rfl (Nat.le_of_ble_eq_true rfl) (Nat.le_of_ble_eq_true rfl) ⟨rfl, (by repeat (first | assumption | (refine rg_ne (by first | decide | omega) ?_) | apply rg_eq | refine rg_fr (by assumption) (by first | decide | (simp; omega)) ?_)), (by repeat (first | exact fr_refl _ _ | assumption | refine fr_set ?_ (by decide) | refine fr_trans (by assumption) ?_ (by decide)))⟩
set_option maxRecDepth 100000 in
set_option maxHeartbeats 400000 in
theorem k_X11_trace (hy : h[0]? = some (ytc G on lc lf mk)) : rM l G 0 mX11_trace 0 0 [.ref (gN G + 0)] h (rV h (some (.int mk))) := by
  refine rM_start (by decide) (Nat.le_of_ble_eq_true rfl) ?_
  refine a_aload_n 1 dX11_trace_0 rfl rfl ?_
  refine a_get fd_X11_362 rfl 4 dX11_trace_1 rfl (by repeat (first | assumption | (refine rg_ne (by first | decide | omega) ?_) | apply rg_eq | refine rg_fr (by assumption) (by first | decide | (simp; omega)) ?_)) rfl ?_
  exact a_ireturn dX11_trace_4 rfl rfl (Nat.le_of_ble_eq_true rfl) (Nat.le_of_ble_eq_true rfl) ⟨rfl, rfl⟩
set_option maxRecDepth 100000 in
set_option maxHeartbeats 400000 in
theorem k_X11_fault (hy : h[0]? = some (ytc G on lc lf mk)) : rM l G 0 mX11_fault 0 0 [.ref (gN G + 0)] h (rV h (some (.int lf))) := by
  refine rM_start (by decide) (Nat.le_of_ble_eq_true rfl) ?_
  refine a_aload_n 1 dX11_fault_0 rfl rfl ?_
  refine a_get fd_X11_268 rfl 4 dX11_fault_1 rfl (by repeat (first | assumption | (refine rg_ne (by first | decide | omega) ?_) | apply rg_eq | refine rg_fr (by assumption) (by first | decide | (simp; omega)) ?_)) rfl ?_
  exact a_ireturn dX11_fault_4 rfl rfl (Nat.le_of_ble_eq_true rfl) (Nat.le_of_ble_eq_true rfl) ⟨rfl, rfl⟩
set_option maxRecDepth 100000 in
set_option maxHeartbeats 400000 in
theorem k_X11_weighedOwn (hy : h[0]? = some (ytc G on lc lf mk)) (hf : h[25]? = some (.inl (gA G 0, 12, .inl g))) (c : Int32) : rM l G 0 mX11_weighedOwn 0 0 [.ref (gN G + 0), .int c] h (rV h (some (.int (if 0 ≤ c ∧ c < 12 then g c.toNatClampNeg else 0)))) := by
  refine rM_start (by decide) (Nat.le_of_ble_eq_true rfl) ?_
  refine a_iload_n 1 dX11_weighedOwn_0 rfl rfl ?_
  refine a_if_lt 22 4 dX11_weighedOwn_1 rfl (by decide) (fun c_1 => ?_) (fun c_1 => ?_)
  · refine a_iconst (0) 23 dX11_weighedOwn_22 rfl (by decide) ?_
    exact a_ireturn dX11_weighedOwn_23 rfl rfl (Nat.le_of_ble_eq_true rfl) (Nat.le_of_ble_eq_true rfl) ⟨rfl, by simp only [i_lt, i_le, Int32.reduceToInt, Int32.reduceOfNat] at *; first | rw [if_pos (by omega)] | rw [if_neg (by omega)]⟩
  · refine a_iload_n 5 dX11_weighedOwn_4 rfl rfl ?_
    refine a_aload_n 6 dX11_weighedOwn_5 rfl rfl ?_
    refine a_get fd_X11_64 rfl 9 dX11_weighedOwn_6 rfl (by repeat (first | assumption | (refine rg_ne (by first | decide | omega) ?_) | apply rg_eq | refine rg_fr (by assumption) (by first | decide | (simp; omega)) ?_)) rfl ?_
    refine a_alen_0 10 dX11_weighedOwn_9 rfl (by repeat (first | assumption | (refine rg_ne (by first | decide | omega) ?_) | apply rg_eq | refine rg_fr (by assumption) (by first | decide | (simp; omega)) ?_)) ?_
    refine a_icmp_ge 22 13 dX11_weighedOwn_10 rfl (by decide) (fun c_10 => ?_) (fun c_10 => ?_)
    · refine a_iconst (0) 23 dX11_weighedOwn_22 rfl (by decide) ?_
      exact a_ireturn dX11_weighedOwn_23 rfl rfl (Nat.le_of_ble_eq_true rfl) (Nat.le_of_ble_eq_true rfl) ⟨rfl, by simp only [i_lt, i_le, Int32.reduceToInt, Int32.reduceOfNat] at *; first | rw [if_pos (by omega)] | rw [if_neg (by omega)]⟩
    · refine a_aload_n 14 dX11_weighedOwn_13 rfl rfl ?_
      refine a_get fd_X11_64 rfl 17 dX11_weighedOwn_14 rfl (by repeat (first | assumption | (refine rg_ne (by first | decide | omega) ?_) | apply rg_eq | refine rg_fr (by assumption) (by first | decide | (simp; omega)) ?_)) rfl ?_
      refine a_iload_n 18 dX11_weighedOwn_17 rfl rfl ?_
      refine a_iaload 19 dX11_weighedOwn_18 rfl (by repeat (first | assumption | (refine rg_ne (by first | decide | omega) ?_) | apply rg_eq | refine rg_fr (by assumption) (by first | decide | (simp; omega)) ?_)) (vin_ge c_1 c_10 (by decide)) ?_
      refine a_goto 23 dX11_weighedOwn_19 (by decide) ?_
      exact a_ireturn dX11_weighedOwn_23 rfl rfl (Nat.le_of_ble_eq_true rfl) (Nat.le_of_ble_eq_true rfl) ⟨rfl, by simp only [i_lt, i_le, Int32.reduceToInt, Int32.reduceOfNat] at *; first | rw [if_pos (by omega)] | rw [if_neg (by omega)]⟩
set_option maxRecDepth 100000 in
set_option maxHeartbeats 400000 in
theorem k_X11_causedBy (hy : h[0]? = some (ytc G on lc lf mk)) (hf : h[27]? = some (.inl (gA G 0, 12, .inl g))) (c : Int32) : rM l G 0 mX11_causedBy 0 0 [.ref (gN G + 0), .int c] h (rV h (some (.int (if 0 ≤ c ∧ c < 12 then g c.toNatClampNeg else 0)))) := by
  refine rM_start (by decide) (Nat.le_of_ble_eq_true rfl) ?_
  refine a_iload_n 1 dX11_causedBy_0 rfl rfl ?_
  refine a_if_lt 22 4 dX11_causedBy_1 rfl (by decide) (fun c_1 => ?_) (fun c_1 => ?_)
  · refine a_iconst (0) 23 dX11_causedBy_22 rfl (by decide) ?_
    exact a_ireturn dX11_causedBy_23 rfl rfl (Nat.le_of_ble_eq_true rfl) (Nat.le_of_ble_eq_true rfl) ⟨rfl, by simp only [i_lt, i_le, Int32.reduceToInt, Int32.reduceOfNat] at *; first | rw [if_pos (by omega)] | rw [if_neg (by omega)]⟩
  · refine a_iload_n 5 dX11_causedBy_4 rfl rfl ?_
    refine a_aload_n 6 dX11_causedBy_5 rfl rfl ?_
    refine a_get fd_X11_71 rfl 9 dX11_causedBy_6 rfl (by repeat (first | assumption | (refine rg_ne (by first | decide | omega) ?_) | apply rg_eq | refine rg_fr (by assumption) (by first | decide | (simp; omega)) ?_)) rfl ?_
    refine a_alen_0 10 dX11_causedBy_9 rfl (by repeat (first | assumption | (refine rg_ne (by first | decide | omega) ?_) | apply rg_eq | refine rg_fr (by assumption) (by first | decide | (simp; omega)) ?_)) ?_
    refine a_icmp_ge 22 13 dX11_causedBy_10 rfl (by decide) (fun c_10 => ?_) (fun c_10 => ?_)
    · refine a_iconst (0) 23 dX11_causedBy_22 rfl (by decide) ?_
      exact a_ireturn dX11_causedBy_23 rfl rfl (Nat.le_of_ble_eq_true rfl) (Nat.le_of_ble_eq_true rfl) ⟨rfl, by simp only [i_lt, i_le, Int32.reduceToInt, Int32.reduceOfNat] at *; first | rw [if_pos (by omega)] | rw [if_neg (by omega)]⟩
    · refine a_aload_n 14 dX11_causedBy_13 rfl rfl ?_
      refine a_get fd_X11_71 rfl 17 dX11_causedBy_14 rfl (by repeat (first | assumption | (refine rg_ne (by first | decide | omega) ?_) | apply rg_eq | refine rg_fr (by assumption) (by first | decide | (simp; omega)) ?_)) rfl ?_
      refine a_iload_n 18 dX11_causedBy_17 rfl rfl ?_
      refine a_iaload 19 dX11_causedBy_18 rfl (by repeat (first | assumption | (refine rg_ne (by first | decide | omega) ?_) | apply rg_eq | refine rg_fr (by assumption) (by first | decide | (simp; omega)) ?_)) (vin_ge c_1 c_10 (by decide)) ?_
      refine a_goto 23 dX11_causedBy_19 (by decide) ?_
      exact a_ireturn dX11_causedBy_23 rfl rfl (Nat.le_of_ble_eq_true rfl) (Nat.le_of_ble_eq_true rfl) ⟨rfl, by simp only [i_lt, i_le, Int32.reduceToInt, Int32.reduceOfNat] at *; first | rw [if_pos (by omega)] | rw [if_neg (by omega)]⟩
end YT
