/-! THE CLASS'S TEXTS: the carriage's at 2 (faces at 3), the law's at 4 (numbers at 5, told at 6) -/
abbrev ctS : Type := Int32 × Int32 × Int32 × Int32 × Int32 × (Nat → Int32)
/-- the cells of the carriage's text: stage, rows, wide, mirrors, seats, faces -/
def ctAt (G : rG) (h : rH) (s : ctS) : Prop := h[2]? = some (.inr (2, [.ref (gN G + 3), .int s.1, .int s.2.1, .int s.2.2.1, .int s.2.2.2.1, .int s.2.2.2.2.1])) ∧ h[3]? = some (.inl (gA G 0, 32, .inl s.2.2.2.2.2))
def faceBI (c : Int32) : Int32 := if c = 98 then 1 else if c = 102 then 0 else if c = 108 then 2 else if c = 114 then 3 else -9
def ctSeat (s : ctS) (fc : Int32) : ctS × Int32 := match s with
  | (st, ro, wi, mi, se, fa) => if fc = -9 then (s, 0) else if ro * wi ≤ se then (s, 0) else if se < 0 then (s, 0) else if se < 32 then ((st, ro, wi, mi, se + 1, upd fa se.toNatClampNeg fc), 1) else (s, 0)
def ctTakes (s : ctS) (c : Int32) : ctS × Int32 := match s with
  | (st, ro, wi, mi, se, fa) =>
    if st.toInt = 0 then ((1, ro, wi, mi, se, fa), if c = 99 then 1 else 0)
    else if st.toInt = 1 then ((2, c - 48, wi, mi, se, fa), if 49 ≤ c ∧ c ≤ 56 then 1 else 0)
    else if st.toInt = 2 then ((3, ro, c - 48, mi, se, fa), if 49 ≤ c ∧ c ≤ 52 then 1 else 0)
    else if st.toInt = 3 then (if c = 109 then ((4, ro, wi, 1, se, fa), 1) else ((5, ro, wi, 0, se, fa), if c = 59 then 1 else 0))
    else if st.toInt = 4 then ((5, ro, wi, mi, se, fa), if c = 59 then 1 else 0)
    else ctSeat s (faceBI c)
section TEXTS
variable {l : Launch} {G : rG} {h : rH}
set_option maxRecDepth 100000 in
set_option maxHeartbeats 400000 in
theorem k_X2_begin {s : ctS} (hs : ctAt G h s) : rM l G 0 mX2_begin 0 0 [.ref (gN G + 2)] h (fun h' v => v = none ∧ ctAt G h' (0, 0, 0, 0, 0, s.2.2.2.2.2) ∧ fr h h' [2, 3]) := by
  obtain ⟨hc, hf⟩ := hs
  refine rM_start (by decide) (Nat.le_of_ble_eq_true rfl) ?_
  refine a_aload_n 1 dX2_begin_0 rfl rfl ?_
  refine a_iconst (0) 2 dX2_begin_1 rfl (by decide) ?_
  refine a_put fd_X2_15 cl_X2 rfl 5 dX2_begin_2 rfl (by repeat (first | assumption | (refine rg_ne (by first | decide | omega) ?_) | apply rg_eq | refine rg_fr (by assumption) (by first | decide | (simp; omega)) ?_)) (Nat.le_of_ble_eq_true rfl) rfl rfl rfl ?_
  refine a_aload_n 6 dX2_begin_5 rfl rfl ?_
  refine a_iconst (0) 7 dX2_begin_6 rfl (by decide) ?_
  refine a_put fd_X2_19 cl_X2 rfl 10 dX2_begin_7 rfl (by repeat (first | assumption | (refine rg_ne (by first | decide | omega) ?_) | apply rg_eq | refine rg_fr (by assumption) (by first | decide | (simp; omega)) ?_)) (Nat.le_of_ble_eq_true rfl) rfl rfl rfl ?_
  refine a_aload_n 11 dX2_begin_10 rfl rfl ?_
  refine a_iconst (0) 12 dX2_begin_11 rfl (by decide) ?_
  refine a_put fd_X2_22 cl_X2 rfl 15 dX2_begin_12 rfl (by repeat (first | assumption | (refine rg_ne (by first | decide | omega) ?_) | apply rg_eq | refine rg_fr (by assumption) (by first | decide | (simp; omega)) ?_)) (Nat.le_of_ble_eq_true rfl) rfl rfl rfl ?_
  refine a_aload_n 16 dX2_begin_15 rfl rfl ?_
  refine a_iconst (0) 17 dX2_begin_16 rfl (by decide) ?_
  refine a_put fd_X2_25 cl_X2 rfl 20 dX2_begin_17 rfl (by repeat (first | assumption | (refine rg_ne (by first | decide | omega) ?_) | apply rg_eq | refine rg_fr (by assumption) (by first | decide | (simp; omega)) ?_)) (Nat.le_of_ble_eq_true rfl) rfl rfl rfl ?_
  refine a_aload_n 21 dX2_begin_20 rfl rfl ?_
  refine a_iconst (0) 22 dX2_begin_21 rfl (by decide) ?_
  refine a_put fd_X2_29 cl_X2 rfl 25 dX2_begin_22 rfl (by repeat (first | assumption | (refine rg_ne (by first | decide | omega) ?_) | apply rg_eq | refine rg_fr (by assumption) (by first | decide | (simp; omega)) ?_)) (Nat.le_of_ble_eq_true rfl) rfl rfl rfl ?_
  exact a_return dX2_begin_25 rfl (Nat.le_of_ble_eq_true rfl) (Nat.le_of_ble_eq_true rfl) ⟨rfl, ⟨(by repeat (first | assumption | (refine rg_ne (by first | decide | omega) ?_) | apply rg_eq | refine rg_fr (by assumption) (by first | decide | (simp; omega)) ?_)), (by repeat (first | assumption | (refine rg_ne (by first | decide | omega) ?_) | apply rg_eq | refine rg_fr (by assumption) (by first | decide | (simp; omega)) ?_))⟩, (by repeat (first | exact fr_refl _ _ | assumption | refine fr_set ?_ (by decide) | refine fr_trans (by assumption) ?_ (by decide)))⟩
set_option maxRecDepth 100000 in
set_option maxHeartbeats 400000 in
theorem k_X2_isWhole {s : ctS} (hs : ctAt G h s) : rM l G 0 mX2_isWhole 0 0 [.ref (gN G + 2)] h (rV h (some (.int (if s.1 = 5 ∧ s.2.2.2.2.1 = s.2.1 * s.2.2.1 then 1 else 0)))) := by
  obtain ⟨hc, hf⟩ := hs
  refine rM_start (by decide) (Nat.le_of_ble_eq_true rfl) ?_
  refine a_aload_n 1 dX2_isWhole_0 rfl rfl ?_
  refine a_get fd_X2_15 rfl 4 dX2_isWhole_1 rfl (by repeat (first | assumption | (refine rg_ne (by first | decide | omega) ?_) | apply rg_eq | refine rg_fr (by assumption) (by first | decide | (simp; omega)) ?_)) rfl ?_
  refine a_iconst (5) 5 dX2_isWhole_4 rfl (by decide) ?_
  refine a_icmp_ne 28 8 dX2_isWhole_5 rfl (by decide) (fun c_5 => ?_) (fun c_5 => ?_)
  · refine a_iconst (0) 29 dX2_isWhole_28 rfl (by decide) ?_
    exact a_ireturn dX2_isWhole_29 rfl rfl (Nat.le_of_ble_eq_true rfl) (Nat.le_of_ble_eq_true rfl) ⟨rfl, by simp_all⟩
  · refine a_aload_n 9 dX2_isWhole_8 rfl rfl ?_
    refine a_get fd_X2_29 rfl 12 dX2_isWhole_9 rfl (by repeat (first | assumption | (refine rg_ne (by first | decide | omega) ?_) | apply rg_eq | refine rg_fr (by assumption) (by first | decide | (simp; omega)) ?_)) rfl ?_
    refine a_aload_n 13 dX2_isWhole_12 rfl rfl ?_
    refine a_get fd_X2_19 rfl 16 dX2_isWhole_13 rfl (by repeat (first | assumption | (refine rg_ne (by first | decide | omega) ?_) | apply rg_eq | refine rg_fr (by assumption) (by first | decide | (simp; omega)) ?_)) rfl ?_
    refine a_aload_n 17 dX2_isWhole_16 rfl rfl ?_
    refine a_get fd_X2_22 rfl 20 dX2_isWhole_17 rfl (by repeat (first | assumption | (refine rg_ne (by first | decide | omega) ?_) | apply rg_eq | refine rg_fr (by assumption) (by first | decide | (simp; omega)) ?_)) rfl ?_
    refine a_imul 21 dX2_isWhole_20 rfl ?_
    refine a_icmp_ne 28 24 dX2_isWhole_21 rfl (by decide) (fun c_21 => ?_) (fun c_21 => ?_)
    · refine a_iconst (0) 29 dX2_isWhole_28 rfl (by decide) ?_
      exact a_ireturn dX2_isWhole_29 rfl rfl (Nat.le_of_ble_eq_true rfl) (Nat.le_of_ble_eq_true rfl) ⟨rfl, by simp_all⟩
    · refine a_iconst (1) 25 dX2_isWhole_24 rfl (by decide) ?_
      refine a_goto 29 dX2_isWhole_25 (by decide) ?_
      exact a_ireturn dX2_isWhole_29 rfl rfl (Nat.le_of_ble_eq_true rfl) (Nat.le_of_ble_eq_true rfl) ⟨rfl, by simp_all⟩
set_option maxRecDepth 100000 in
set_option maxHeartbeats 400000 in
theorem k_X2_faceAt {s : ctS} (hs : ctAt G h s) (c : Int32) : rM l G 0 mX2_faceAt 0 0 [.ref (gN G + 2), .int c] h (rV h (some (.int (if 0 ≤ c ∧ c < 32 then s.2.2.2.2.2 c.toNatClampNeg else 0)))) := by
  obtain ⟨hc, hf⟩ := hs
  refine rM_start (by decide) (Nat.le_of_ble_eq_true rfl) ?_
  refine a_iload_n 1 dX2_faceAt_0 rfl rfl ?_
  refine a_if_lt 22 4 dX2_faceAt_1 rfl (by decide) (fun c_1 => ?_) (fun c_1 => ?_)
  · refine a_iconst (0) 23 dX2_faceAt_22 rfl (by decide) ?_
    exact a_ireturn dX2_faceAt_23 rfl rfl (Nat.le_of_ble_eq_true rfl) (Nat.le_of_ble_eq_true rfl) ⟨rfl, by simp only [i_lt, i_le, Int32.reduceToInt, Int32.reduceOfNat] at *; first | rw [if_pos (by omega)] | rw [if_neg (by omega)]⟩
  · refine a_iload_n 5 dX2_faceAt_4 rfl rfl ?_
    refine a_aload_n 6 dX2_faceAt_5 rfl rfl ?_
    refine a_get fd_X2_9 rfl 9 dX2_faceAt_6 rfl (by repeat (first | assumption | (refine rg_ne (by first | decide | omega) ?_) | apply rg_eq | refine rg_fr (by assumption) (by first | decide | (simp; omega)) ?_)) rfl ?_
    refine a_alen_0 10 dX2_faceAt_9 rfl (by repeat (first | assumption | (refine rg_ne (by first | decide | omega) ?_) | apply rg_eq | refine rg_fr (by assumption) (by first | decide | (simp; omega)) ?_)) ?_
    refine a_icmp_ge 22 13 dX2_faceAt_10 rfl (by decide) (fun c_10 => ?_) (fun c_10 => ?_)
    · refine a_iconst (0) 23 dX2_faceAt_22 rfl (by decide) ?_
      exact a_ireturn dX2_faceAt_23 rfl rfl (Nat.le_of_ble_eq_true rfl) (Nat.le_of_ble_eq_true rfl) ⟨rfl, by simp only [i_lt, i_le, Int32.reduceToInt, Int32.reduceOfNat] at *; first | rw [if_pos (by omega)] | rw [if_neg (by omega)]⟩
    · refine a_aload_n 14 dX2_faceAt_13 rfl rfl ?_
      refine a_get fd_X2_9 rfl 17 dX2_faceAt_14 rfl (by repeat (first | assumption | (refine rg_ne (by first | decide | omega) ?_) | apply rg_eq | refine rg_fr (by assumption) (by first | decide | (simp; omega)) ?_)) rfl ?_
      refine a_iload_n 18 dX2_faceAt_17 rfl rfl ?_
      refine a_iaload 19 dX2_faceAt_18 rfl (by repeat (first | assumption | (refine rg_ne (by first | decide | omega) ?_) | apply rg_eq | refine rg_fr (by assumption) (by first | decide | (simp; omega)) ?_)) (vin_ge c_1 c_10 (by decide)) ?_
      refine a_goto 23 dX2_faceAt_19 (by decide) ?_
      exact a_ireturn dX2_faceAt_23 rfl rfl (Nat.le_of_ble_eq_true rfl) (Nat.le_of_ble_eq_true rfl) ⟨rfl, by simp only [i_lt, i_le, Int32.reduceToInt, Int32.reduceOfNat] at *; first | rw [if_pos (by omega)] | rw [if_neg (by omega)]⟩
set_option maxRecDepth 100000 in
set_option maxHeartbeats 400000 in
theorem k_X2_faceBy (c : Int32) : rM l G 0 mX2_faceBy 0 0 [.int c] h (rV h (some (.int (faceBI c)))) := by
  refine rM_start (by decide) (Nat.le_of_ble_eq_true rfl) ?_
  refine a_iload_n 1 dX2_faceBy_0 rfl rfl ?_
  rcases (show (c).toInt = 98 ∨ (c).toInt = 102 ∨ (c).toInt = 108 ∨ (c).toInt = 114 ∨ ((c).toInt ≠ 98 ∧ (c).toInt ≠ 102 ∧ (c).toInt ≠ 108 ∧ (c).toInt ≠ 114) by omega) with w_1 | w_1 | w_1 | w_1 | w_1
  · refine a_lookup 46 dX2_faceBy_1 (by decide) (by rw [w_1] <;> rfl) (by decide) ?_
    refine a_iconst (1) 47 dX2_faceBy_46 rfl (by decide) ?_
    exact a_ireturn dX2_faceBy_47 rfl rfl (Nat.le_of_ble_eq_true rfl) (Nat.le_of_ble_eq_true rfl) ⟨rfl, by simp [faceBI, i_eq, w_1]⟩
  · refine a_lookup 44 dX2_faceBy_1 (by decide) (by rw [w_1] <;> rfl) (by decide) ?_
    refine a_iconst (0) 45 dX2_faceBy_44 rfl (by decide) ?_
    exact a_ireturn dX2_faceBy_45 rfl rfl (Nat.le_of_ble_eq_true rfl) (Nat.le_of_ble_eq_true rfl) ⟨rfl, by simp [faceBI, i_eq, w_1]⟩
  · refine a_lookup 48 dX2_faceBy_1 (by decide) (by rw [w_1] <;> rfl) (by decide) ?_
    refine a_iconst (2) 49 dX2_faceBy_48 rfl (by decide) ?_
    exact a_ireturn dX2_faceBy_49 rfl rfl (Nat.le_of_ble_eq_true rfl) (Nat.le_of_ble_eq_true rfl) ⟨rfl, by simp [faceBI, i_eq, w_1]⟩
  · refine a_lookup 50 dX2_faceBy_1 (by decide) (by rw [w_1] <;> rfl) (by decide) ?_
    refine a_iconst (3) 51 dX2_faceBy_50 rfl (by decide) ?_
    exact a_ireturn dX2_faceBy_51 rfl rfl (Nat.le_of_ble_eq_true rfl) (Nat.le_of_ble_eq_true rfl) ⟨rfl, by simp [faceBI, i_eq, w_1]⟩
  · refine a_lookup (off := 51) 52 dX2_faceBy_1 (by decide) (by simp only [Op.lookupswitch.offset_cons, Op.lookupswitch.offset]; repeat (first | rfl | omega | split)) (by decide) ?_
    refine a_bipush (-9) 54 dX2_faceBy_52 rfl (by decide) ?_
    exact a_ireturn dX2_faceBy_54 rfl rfl (Nat.le_of_ble_eq_true rfl) (Nat.le_of_ble_eq_true rfl) ⟨rfl, by simp [faceBI, i_eq, w_1]⟩
set_option maxRecDepth 100000 in
set_option maxHeartbeats 400000 in
theorem k_X2_takesSeat {s : ctS} (hs : ctAt G h s) (c : Int32) : rM l G 0 mX2_takesSeat 0 0 [.ref (gN G + 2), .int c] h (fun h' v => v = some (.int (ctSeat s c).2) ∧ ctAt G h' (ctSeat s c).1 ∧ fr h h' [2, 3]) := by
  obtain ⟨st, ro, wi, mi, se, fa⟩ := s
  have hs0 := hs
  obtain ⟨hc, hf⟩ := hs
  dsimp only at hc hf
  refine rM_start (by decide) (Nat.le_of_ble_eq_true rfl) ?_
  refine a_iload_n 1 dX2_takesSeat_0 rfl rfl ?_
  refine a_bipush (-9) 3 dX2_takesSeat_1 rfl (by decide) ?_
  refine a_icmp_eq 41 6 dX2_takesSeat_3 rfl (by decide) (fun c_3 => ?_) (fun c_3 => ?_)
  · refine a_iconst (0) 42 dX2_takesSeat_41 rfl (by decide) ?_
    exact a_ireturn dX2_takesSeat_42 rfl rfl (Nat.le_of_ble_eq_true rfl) (Nat.le_of_ble_eq_true rfl) (by rw [show ctSeat (st, ro, wi, mi, se, fa) c = ((st, ro, wi, mi, se, fa), 0) by simp [ctSeat, c_3]]; exact ⟨rfl, hs0, fr_refl _ _⟩)
  · refine a_aload_n 7 dX2_takesSeat_6 rfl rfl ?_
    refine a_get fd_X2_29 rfl 10 dX2_takesSeat_7 rfl (by repeat (first | assumption | (refine rg_ne (by first | decide | omega) ?_) | apply rg_eq | refine rg_fr (by assumption) (by first | decide | (simp; omega)) ?_)) rfl ?_
    refine a_aload_n 11 dX2_takesSeat_10 rfl rfl ?_
    refine a_get fd_X2_19 rfl 14 dX2_takesSeat_11 rfl (by repeat (first | assumption | (refine rg_ne (by first | decide | omega) ?_) | apply rg_eq | refine rg_fr (by assumption) (by first | decide | (simp; omega)) ?_)) rfl ?_
    refine a_aload_n 15 dX2_takesSeat_14 rfl rfl ?_
    refine a_get fd_X2_22 rfl 18 dX2_takesSeat_15 rfl (by repeat (first | assumption | (refine rg_ne (by first | decide | omega) ?_) | apply rg_eq | refine rg_fr (by assumption) (by first | decide | (simp; omega)) ?_)) rfl ?_
    refine a_imul 19 dX2_takesSeat_18 rfl ?_
    refine a_icmp_ge 41 22 dX2_takesSeat_19 rfl (by decide) (fun c_19 => ?_) (fun c_19 => ?_)
    · refine a_iconst (0) 42 dX2_takesSeat_41 rfl (by decide) ?_
      exact a_ireturn dX2_takesSeat_42 rfl rfl (Nat.le_of_ble_eq_true rfl) (Nat.le_of_ble_eq_true rfl) (by rw [show ctSeat (st, ro, wi, mi, se, fa) c = ((st, ro, wi, mi, se, fa), 0) by simp [ctSeat, c_3, c_19]]; exact ⟨rfl, hs0, fr_refl _ _⟩)
    · refine a_aload_n 23 dX2_takesSeat_22 rfl rfl ?_
      refine a_get fd_X2_29 rfl 26 dX2_takesSeat_23 rfl (by repeat (first | assumption | (refine rg_ne (by first | decide | omega) ?_) | apply rg_eq | refine rg_fr (by assumption) (by first | decide | (simp; omega)) ?_)) rfl ?_
      refine a_if_lt 41 29 dX2_takesSeat_26 rfl (by decide) (fun c_26 => ?_) (fun c_26 => ?_)
      · refine a_iconst (0) 42 dX2_takesSeat_41 rfl (by decide) ?_
        exact a_ireturn dX2_takesSeat_42 rfl rfl (Nat.le_of_ble_eq_true rfl) (Nat.le_of_ble_eq_true rfl) (by rw [show ctSeat (st, ro, wi, mi, se, fa) c = ((st, ro, wi, mi, se, fa), 0) by simp only [ctSeat, if_neg c_3, if_neg c_19, if_pos c_26]]; exact ⟨rfl, hs0, fr_refl _ _⟩)
      · refine a_aload_n 30 dX2_takesSeat_29 rfl rfl ?_
        refine a_get fd_X2_29 rfl 33 dX2_takesSeat_30 rfl (by repeat (first | assumption | (refine rg_ne (by first | decide | omega) ?_) | apply rg_eq | refine rg_fr (by assumption) (by first | decide | (simp; omega)) ?_)) rfl ?_
        refine a_aload_n 34 dX2_takesSeat_33 rfl rfl ?_
        refine a_get fd_X2_9 rfl 37 dX2_takesSeat_34 rfl (by repeat (first | assumption | (refine rg_ne (by first | decide | omega) ?_) | apply rg_eq | refine rg_fr (by assumption) (by first | decide | (simp; omega)) ?_)) rfl ?_
        refine a_alen_0 38 dX2_takesSeat_37 rfl (by repeat (first | assumption | (refine rg_ne (by first | decide | omega) ?_) | apply rg_eq | refine rg_fr (by assumption) (by first | decide | (simp; omega)) ?_)) ?_
        refine a_icmp_lt 43 41 dX2_takesSeat_38 rfl (by decide) (fun c_38 => ?_) (fun c_38 => ?_)
        · refine a_aload_n 44 dX2_takesSeat_43 rfl rfl ?_
          refine a_get fd_X2_9 rfl 47 dX2_takesSeat_44 rfl (by repeat (first | assumption | (refine rg_ne (by first | decide | omega) ?_) | apply rg_eq | refine rg_fr (by assumption) (by first | decide | (simp; omega)) ?_)) rfl ?_
          refine a_aload_n 48 dX2_takesSeat_47 rfl rfl ?_
          refine a_get fd_X2_29 rfl 51 dX2_takesSeat_48 rfl (by repeat (first | assumption | (refine rg_ne (by first | decide | omega) ?_) | apply rg_eq | refine rg_fr (by assumption) (by first | decide | (simp; omega)) ?_)) rfl ?_
          refine a_iload_n 52 dX2_takesSeat_51 rfl rfl ?_
          refine a_iastore 53 dX2_takesSeat_52 rfl (by repeat (first | assumption | (refine rg_ne (by first | decide | omega) ?_) | apply rg_eq | refine rg_fr (by assumption) (by first | decide | (simp; omega)) ?_)) (vin_ge c_26 (Int32.not_le.mpr c_38) (by decide)) ?_
          refine a_aload_n 54 dX2_takesSeat_53 rfl rfl ?_
          refine a_dup 55 dX2_takesSeat_54 rfl rfl ?_
          refine a_get fd_X2_29 rfl 58 dX2_takesSeat_55 rfl (by repeat (first | assumption | (refine rg_ne (by first | decide | omega) ?_) | apply rg_eq | refine rg_fr (by assumption) (by first | decide | (simp; omega)) ?_)) rfl ?_
          refine a_iconst (1) 59 dX2_takesSeat_58 rfl (by decide) ?_
          refine a_iadd 60 dX2_takesSeat_59 rfl ?_
          refine a_put fd_X2_29 cl_X2 rfl 63 dX2_takesSeat_60 rfl (by repeat (first | assumption | (refine rg_ne (by first | decide | omega) ?_) | apply rg_eq | refine rg_fr (by assumption) (by first | decide | (simp; omega)) ?_)) (Nat.le_of_ble_eq_true rfl) rfl rfl rfl ?_
          refine a_iconst (1) 64 dX2_takesSeat_63 rfl (by decide) ?_
          exact a_ireturn dX2_takesSeat_64 rfl rfl (Nat.le_of_ble_eq_true rfl) (Nat.le_of_ble_eq_true rfl) (by rw [show ctSeat (st, ro, wi, mi, se, fa) c = ((st, ro, wi, mi, se + 1, upd fa se.toNatClampNeg c), 1) by simp only [ctSeat, if_neg c_3, if_neg c_19, if_neg c_26]; exact if_pos c_38]; exact ⟨rfl, ⟨(by repeat (first | assumption | (refine rg_ne (by first | decide | omega) ?_) | apply rg_eq | refine rg_fr (by assumption) (by first | decide | (simp; omega)) ?_)), (by repeat (first | assumption | (refine rg_ne (by first | decide | omega) ?_) | apply rg_eq | refine rg_fr (by assumption) (by first | decide | (simp; omega)) ?_))⟩, (by repeat (first | exact fr_refl _ _ | assumption | refine fr_set ?_ (by decide) | refine fr_trans (by assumption) ?_ (by decide)))⟩)
        · refine a_iconst (0) 42 dX2_takesSeat_41 rfl (by decide) ?_
          exact a_ireturn dX2_takesSeat_42 rfl rfl (Nat.le_of_ble_eq_true rfl) (Nat.le_of_ble_eq_true rfl) (by rw [show ctSeat (st, ro, wi, mi, se, fa) c = ((st, ro, wi, mi, se, fa), 0) by simp only [ctSeat, if_neg c_3, if_neg c_19, if_neg c_26]; exact if_neg c_38]; exact ⟨rfl, hs0, fr_refl _ _⟩)
end TEXTS
