/-! THE MODEL at 38: its numbers i (by the fields' places), its two longs j; arrays at 39 .. 60 -/
abbrev mo (G : rG) (i : Nat → Int32) (j : Nat → Int64) : va_E := .inr (11, [.int (i 0), .int (i 1), .int (i 2), .int (i 3), .ref (gN G + 39), .ref (gN G + 40), .ref (gN G + 41), .int (i 7), .int (i 8), .int (i 9), .int (i 10), .int (i 11), .ref (gN G + 42), .ref (gN G + 43), .ref (gN G + 44), .int (i 15), .ref (gN G + 45), .ref (gN G + 46), .ref (gN G + 47), .ref (gN G + 48), .int (i 20), .ref (gN G + 49), .ref (gN G + 50), .int (i 23), .ref (gN G + 51), .ref (gN G + 52), .ref (gN G + 53), .int (i 27), .ref (gN G + 54), .ref (gN G + 55), .ref (gN G + 56), .int (i 31), .int (i 32), .long (j 33), .long (j 34), .ref (gN G + 57), .ref (gN G + 58), .ref (gN G + 59), .ref (gN G + 60), .int (i 39)])
theorem in64 (c n : Int32) : ((0 : Int64) ≤ c.toInt64 ∧ c.toInt64 ≤ n.toInt64 - 1) ↔ (0 ≤ c ∧ c < n) := by
  have hn1 := Int32.toInt_lt n
  have hn2 := Int32.le_toInt n
  have hc1 := Int32.toInt_lt c
  have hc2 := Int32.le_toInt c
  have e : (n.toInt64 - 1).toInt = n.toInt - 1 := by
    rw [Int64.toInt_sub, Int32.toInt_toInt64]
    show Int.bmod (n.toInt - 1) (2 ^ 64) = n.toInt - 1
    unfold Int.bmod
    simp only
    split <;> omega
  rw [Int64.le_iff_toInt_le, Int64.le_iff_toInt_le, Int32.toInt_toInt64, e, i_le, i_lt]
  show (0 ≤ c.toInt ∧ c.toInt ≤ n.toInt - 1) ↔ (0 ≤ c.toInt ∧ c.toInt < n.toInt)
  omega
section MLEAF
variable {l : Launch} {G : rG} {h : rH} {i : Nat → Int32} {j : Nat → Int64} {f g : Nat → Int32}
set_option maxRecDepth 100000 in
set_option maxHeartbeats 400000 in
theorem k_X12_in (v a b : Int64) : rM l G 0 mX12_in 0 0 [.long v, .long a, .long b] h (rV h (some (.int (if a ≤ v ∧ v ≤ b then 1 else 0)))) := by
  refine rM_start (by decide) (Nat.le_of_ble_eq_true rfl) ?_
  refine a_lload_n 1 dX12_in_0 rfl rfl ?_
  refine a_lload_n 2 dX12_in_1 rfl rfl ?_
  refine a_lcmp 3 dX12_in_2 rfl ?_
  refine a_if_lt 17 6 dX12_in_3 rfl (by decide) (fun c_3 => ?_) (fun c_3 => ?_)
  · refine a_iconst (0) 18 dX12_in_17 rfl (by decide) ?_
    exact a_ireturn dX12_in_18 rfl rfl (Nat.le_of_ble_eq_true rfl) (Nat.le_of_ble_eq_true rfl) ⟨rfl, by rw [if_neg (fun q => Int64.not_lt.mpr q.1 ((lg_cmp_lt _ _).mp c_3))]⟩
  · refine a_lload_n 7 dX12_in_6 rfl rfl ?_
    refine a_lload 9 dX12_in_7 rfl rfl ?_
    refine a_lcmp 10 dX12_in_9 rfl ?_
    refine a_if_gt 17 13 dX12_in_10 rfl (by decide) (fun c_10 => ?_) (fun c_10 => ?_)
    · refine a_iconst (0) 18 dX12_in_17 rfl (by decide) ?_
      exact a_ireturn dX12_in_18 rfl rfl (Nat.le_of_ble_eq_true rfl) (Nat.le_of_ble_eq_true rfl) ⟨rfl, by rw [if_neg (fun q => Int64.not_lt.mpr q.2 ((lg_cmp_gt _ _).mp c_10))]⟩
    · refine a_iconst (1) 14 dX12_in_13 rfl (by decide) ?_
      refine a_goto 18 dX12_in_14 (by decide) ?_
      exact a_ireturn dX12_in_18 rfl rfl (Nat.le_of_ble_eq_true rfl) (Nat.le_of_ble_eq_true rfl) ⟨rfl, by rw [if_pos ⟨Int64.not_lt.mp (fun q => c_3 ((lg_cmp_lt _ _).mpr q)), Int64.not_lt.mp (fun q => c_10 ((lg_cmp_gt _ _).mpr q))⟩]⟩
set_option maxRecDepth 100000 in
set_option maxHeartbeats 400000 in
theorem k_X12_lost : rM l G 0 mX12_lost 0 0 [] h (rV h (some (.long (-9223372036854775808)))) := by
  refine rM_start (by decide) (Nat.le_of_ble_eq_true rfl) ?_
  refine a_ldc2 (-9223372036854775808) 3 dX12_lost_0 rfl lk_X12_77 ?_
  exact a_lreturn dX12_lost_3 rfl (Nat.le_of_ble_eq_true rfl) (Nat.le_of_ble_eq_true rfl) ⟨rfl, rfl⟩
set_option maxRecDepth 100000 in
set_option maxHeartbeats 400000 in
theorem k_X12_refused (hm : h[38]? = some (mo G i j)) (x : Int32) : rM l G 0 mX12_refused 0 0 [.ref (gN G + 38), .int x] h (fun h' v => v = some (.int x) ∧ h'[38]? = some (mo G (upd i 0 0) j) ∧ fr h h' [38]) := by
  refine rM_start (by decide) (Nat.le_of_ble_eq_true rfl) ?_
  refine a_aload_n 1 dX12_refused_0 rfl rfl ?_
  refine a_iconst (0) 2 dX12_refused_1 rfl (by decide) ?_
  refine a_put fd_X12_79 cl_X12 rfl 5 dX12_refused_2 rfl (by repeat (first | assumption | (refine rg_ne (by first | decide | omega) ?_) | apply rg_eq | refine rg_fr (by assumption) (by first | decide | (simp; omega)) ?_)) (Nat.le_of_ble_eq_true rfl) rfl rfl rfl ?_
  refine a_iload_n 6 dX12_refused_5 rfl rfl ?_
  exact a_ireturn dX12_refused_6 rfl rfl (Nat.le_of_ble_eq_true rfl) (Nat.le_of_ble_eq_true rfl) ⟨rfl, (by repeat (first | assumption | (refine rg_ne (by first | decide | omega) ?_) | apply rg_eq | refine rg_fr (by assumption) (by first | decide | (simp; omega)) ?_)), (by repeat (first | exact fr_refl _ _ | assumption | refine fr_set ?_ (by decide) | refine fr_trans (by assumption) ?_ (by decide)))⟩
set_option maxRecDepth 100000 in
set_option maxHeartbeats 400000 in
theorem k_X12_failed (hm : h[38]? = some (mo G i j)) (x : Int32) : rM l G 0 mX12_failed 0 0 [.ref (gN G + 38), .int x] h (fun h' v => v = some (.int (-10 - x)) ∧ h'[38]? = some (mo G (upd i 0 x) j) ∧ fr h h' [38]) := by
  refine rM_start (by decide) (Nat.le_of_ble_eq_true rfl) ?_
  refine a_aload_n 1 dX12_failed_0 rfl rfl ?_
  refine a_iload_n 2 dX12_failed_1 rfl rfl ?_
  refine a_put fd_X12_79 cl_X12 rfl 5 dX12_failed_2 rfl (by repeat (first | assumption | (refine rg_ne (by first | decide | omega) ?_) | apply rg_eq | refine rg_fr (by assumption) (by first | decide | (simp; omega)) ?_)) (Nat.le_of_ble_eq_true rfl) rfl rfl rfl ?_
  refine a_bipush (-10) 7 dX12_failed_5 rfl (by decide) ?_
  refine a_iload_n 8 dX12_failed_7 rfl rfl ?_
  refine a_isub 9 dX12_failed_8 rfl ?_
  exact a_ireturn dX12_failed_9 rfl rfl (Nat.le_of_ble_eq_true rfl) (Nat.le_of_ble_eq_true rfl) ⟨rfl, (by repeat (first | assumption | (refine rg_ne (by first | decide | omega) ?_) | apply rg_eq | refine rg_fr (by assumption) (by first | decide | (simp; omega)) ?_)), (by repeat (first | exact fr_refl _ _ | assumption | refine fr_set ?_ (by decide) | refine fr_trans (by assumption) ?_ (by decide)))⟩
set_option maxRecDepth 100000 in
set_option maxHeartbeats 400000 in
theorem k_X12_failedLong (hm : h[38]? = some (mo G i j)) (x : Int32) : rM l G 1 mX12_failedLong 0 0 [.ref (gN G + 38), .int x] h (fun h' v => v = some (.long (-9223372036854775808)) ∧ h'[38]? = some (mo G (upd i 0 x) j) ∧ fr h h' [38]) := by
  refine rM_start (by decide) (Nat.le_of_ble_eq_true rfl) ?_
  refine a_aload_n 1 dX12_failedLong_0 rfl rfl ?_
  refine a_iload_n 2 dX12_failedLong_1 rfl rfl ?_
  refine a_put fd_X12_79 cl_X12 rfl 5 dX12_failedLong_2 rfl (by repeat (first | assumption | (refine rg_ne (by first | decide | omega) ?_) | apply rg_eq | refine rg_fr (by assumption) (by first | decide | (simp; omega)) ?_)) (Nat.le_of_ble_eq_true rfl) rfl rfl rfl ?_
  refine a_callS ok_X12_lost ln_X12_83 is_X12_lost rfl 8 dX12_failedLong_5 rfl (k_X12_lost) rfl rfl ⟨(Nat.le_of_ble_eq_true rfl), (Nat.le_of_ble_eq_true rfl)⟩ (Nat.le_of_ble_eq_true rfl) ⟨(Nat.le_of_ble_eq_true rfl), (Nat.le_of_ble_eq_true rfl)⟩ ?_
  rintro _ _ ⟨rfl, rfl⟩
  exact a_lreturn dX12_failedLong_8 rfl (Nat.le_of_ble_eq_true rfl) (Nat.le_of_ble_eq_true rfl) ⟨rfl, (by repeat (first | assumption | (refine rg_ne (by first | decide | omega) ?_) | apply rg_eq | refine rg_fr (by assumption) (by first | decide | (simp; omega)) ?_)), (by repeat (first | exact fr_refl _ _ | assumption | refine fr_set ?_ (by decide) | refine fr_trans (by assumption) ?_ (by decide)))⟩
set_option maxRecDepth 100000 in
set_option maxHeartbeats 400000 in
theorem k_X12_seats (hm : h[38]? = some (mo G i j)) : rM l G 0 mX12_seats 0 0 [.ref (gN G + 38)] h (rV h (some (.int (i 1 * i 2)))) := by
  refine rM_start (by decide) (Nat.le_of_ble_eq_true rfl) ?_
  refine a_aload_n 1 dX12_seats_0 rfl rfl ?_
  refine a_get fd_X12_108 rfl 4 dX12_seats_1 rfl (by repeat (first | assumption | (refine rg_ne (by first | decide | omega) ?_) | apply rg_eq | refine rg_fr (by assumption) (by first | decide | (simp; omega)) ?_)) rfl ?_
  refine a_aload_n 5 dX12_seats_4 rfl rfl ?_
  refine a_get fd_X12_111 rfl 8 dX12_seats_5 rfl (by repeat (first | assumption | (refine rg_ne (by first | decide | omega) ?_) | apply rg_eq | refine rg_fr (by assumption) (by first | decide | (simp; omega)) ?_)) rfl ?_
  refine a_imul 9 dX12_seats_8 rfl ?_
  exact a_ireturn dX12_seats_9 rfl rfl (Nat.le_of_ble_eq_true rfl) (Nat.le_of_ble_eq_true rfl) ⟨rfl, rfl⟩
set_option maxRecDepth 100000 in
set_option maxHeartbeats 400000 in
theorem k_X12_noSeat (hm : h[38]? = some (mo G i j)) (c : Int32) : rM l G 1 mX12_noSeat 0 0 [.ref (gN G + 38), .int c] h (rV h (some (.int (if 0 ≤ c ∧ c < i 1 * i 2 then 0 else 1)))) := by
  refine rM_start (by decide) (Nat.le_of_ble_eq_true rfl) ?_
  refine a_iload_n 1 dX12_noSeat_0 rfl rfl ?_
  refine a_i2l 2 dX12_noSeat_1 rfl ?_
  refine a_lconst (0) 3 dX12_noSeat_2 rfl (by decide) ?_
  refine a_aload_n 4 dX12_noSeat_3 rfl rfl ?_
  refine a_callV ok_X12_seats ln_X12_114 in_X12_seats rfl 7 dX12_noSeat_4 rfl (k_X12_seats hm) (by repeat (first | assumption | (refine rg_ne (by first | decide | omega) ?_) | apply rg_eq | refine rg_fr (by assumption) (by first | decide | (simp; omega)) ?_)) rfl rfl rfl ⟨(Nat.le_of_ble_eq_true rfl), (Nat.le_of_ble_eq_true rfl)⟩ (Nat.le_of_ble_eq_true rfl) ⟨(Nat.le_of_ble_eq_true rfl), (Nat.le_of_ble_eq_true rfl)⟩ ?_
  rintro _ _ ⟨rfl, rfl⟩
  refine a_i2l 8 dX12_noSeat_7 rfl ?_
  refine a_lconst (1) 9 dX12_noSeat_8 rfl (by decide) ?_
  refine a_lsub 10 dX12_noSeat_9 rfl ?_
  refine a_callS ok_X12_in ln_X12_97 is_X12_in rfl 13 dX12_noSeat_10 rfl (k_X12_in _ _ _) rfl rfl ⟨(Nat.le_of_ble_eq_true rfl), (Nat.le_of_ble_eq_true rfl)⟩ (Nat.le_of_ble_eq_true rfl) ⟨(Nat.le_of_ble_eq_true rfl), (Nat.le_of_ble_eq_true rfl)⟩ ?_
  rintro _ _ ⟨rfl, rfl⟩
  refine a_if_ne 20 16 dX12_noSeat_13 rfl (by decide) (fun c_13 => ?_) (fun c_13 => ?_)
  · refine a_iconst (0) 21 dX12_noSeat_20 rfl (by decide) ?_
    exact a_ireturn dX12_noSeat_21 rfl rfl (Nat.le_of_ble_eq_true rfl) (Nat.le_of_ble_eq_true rfl) ⟨rfl, by rw [if_pos ((in64 _ _).mp (Decidable.not_not.mp (fun q => c_13 (if_neg q))))]⟩
  · refine a_iconst (1) 17 dX12_noSeat_16 rfl (by decide) ?_
    refine a_goto 21 dX12_noSeat_17 (by decide) ?_
    exact a_ireturn dX12_noSeat_21 rfl rfl (Nat.le_of_ble_eq_true rfl) (Nat.le_of_ble_eq_true rfl) ⟨rfl, by rw [if_neg (fun q => b_eq0.mp c_13 ((in64 _ _).mpr q))]⟩
set_option maxRecDepth 100000 in
set_option maxHeartbeats 400000 in
theorem k_X12_faceBy (c : Int32) : rM l G 0 mX12_faceBy 0 0 [.int c] h (rV h (some (.int (faceBI c)))) := by
  refine rM_start (by decide) (Nat.le_of_ble_eq_true rfl) ?_
  refine a_iload_n 1 dX12_faceBy_0 rfl rfl ?_
  refine a_bipush (102) 3 dX12_faceBy_1 rfl (by decide) ?_
  refine a_icmp_ne 10 6 dX12_faceBy_3 rfl (by decide) (fun c_3 => ?_) (fun c_3 => ?_)
  · refine a_iload_n 11 dX12_faceBy_10 rfl rfl ?_
    refine a_bipush (98) 13 dX12_faceBy_11 rfl (by decide) ?_
    refine a_icmp_ne 20 16 dX12_faceBy_13 rfl (by decide) (fun c_13 => ?_) (fun c_13 => ?_)
    · refine a_iload_n 21 dX12_faceBy_20 rfl rfl ?_
      refine a_bipush (108) 23 dX12_faceBy_21 rfl (by decide) ?_
      refine a_icmp_ne 30 26 dX12_faceBy_23 rfl (by decide) (fun c_23 => ?_) (fun c_23 => ?_)
      · refine a_iload_n 31 dX12_faceBy_30 rfl rfl ?_
        refine a_bipush (114) 33 dX12_faceBy_31 rfl (by decide) ?_
        refine a_icmp_ne 40 36 dX12_faceBy_33 rfl (by decide) (fun c_33 => ?_) (fun c_33 => ?_)
        · refine a_bipush (-9) 42 dX12_faceBy_40 rfl (by decide) ?_
          exact a_ireturn dX12_faceBy_42 rfl rfl (Nat.le_of_ble_eq_true rfl) (Nat.le_of_ble_eq_true rfl) ⟨rfl, by simp_all [faceBI]⟩
        · refine a_iconst (3) 37 dX12_faceBy_36 rfl (by decide) ?_
          refine a_goto 42 dX12_faceBy_37 (by decide) ?_
          exact a_ireturn dX12_faceBy_42 rfl rfl (Nat.le_of_ble_eq_true rfl) (Nat.le_of_ble_eq_true rfl) ⟨rfl, by simp_all [faceBI]⟩
      · refine a_iconst (2) 27 dX12_faceBy_26 rfl (by decide) ?_
        refine a_goto 42 dX12_faceBy_27 (by decide) ?_
        exact a_ireturn dX12_faceBy_42 rfl rfl (Nat.le_of_ble_eq_true rfl) (Nat.le_of_ble_eq_true rfl) ⟨rfl, by simp_all [faceBI]⟩
    · refine a_iconst (1) 17 dX12_faceBy_16 rfl (by decide) ?_
      refine a_goto 42 dX12_faceBy_17 (by decide) ?_
      exact a_ireturn dX12_faceBy_42 rfl rfl (Nat.le_of_ble_eq_true rfl) (Nat.le_of_ble_eq_true rfl) ⟨rfl, by simp_all [faceBI]⟩
  · refine a_iconst (0) 7 dX12_faceBy_6 rfl (by decide) ?_
    refine a_goto 42 dX12_faceBy_7 (by decide) ?_
    exact a_ireturn dX12_faceBy_42 rfl rfl (Nat.le_of_ble_eq_true rfl) (Nat.le_of_ble_eq_true rfl) ⟨rfl, by simp_all [faceBI]⟩
set_option maxRecDepth 100000 in
set_option maxHeartbeats 400000 in
theorem k_X12_whatBy (c : Int32) : rM l G 0 mX12_whatBy 0 0 [.int c] h (rV h (some (.int (numBI c)))) := by
  refine rM_start (by decide) (Nat.le_of_ble_eq_true rfl) ?_
  refine a_iload_n 1 dX12_whatBy_0 rfl rfl ?_
  rcases tab_cases 21 (c).toInt 101 121 (by decide) with w_1 | ⟨k_1, hk_1, e_1⟩
  · refine a_tableOut 115 dX12_whatBy_1 w_1 (by decide) ?_
    refine a_bipush (-9) 117 dX12_whatBy_115 rfl (by decide) ?_
    exact a_ireturn dX12_whatBy_117 rfl rfl (Nat.le_of_ble_eq_true rfl) (Nat.le_of_ble_eq_true rfl) ⟨rfl, by simp [numBI, i_eq, show ¬ c.toInt = 111 by omega, show ¬ c.toInt = 115 by omega, show ¬ c.toInt = 101 by omega, show ¬ c.toInt = 107 by omega, show ¬ c.toInt = 121 by omega, show ¬ c.toInt = 102 by omega, show ¬ c.toInt = 116 by omega]⟩
  · match k_1, hk_1, e_1 with
    | 0, _, e =>
      have w_1 : (c).toInt = 101 := e
      refine a_tableIn 104 dX12_whatBy_1 (by rw [w_1]; decide) (by rw [w_1]; decide) (by rw [w_1]; rfl) (by decide) ?_
      refine a_iconst (2) 105 dX12_whatBy_104 rfl (by decide) ?_
      exact a_ireturn dX12_whatBy_105 rfl rfl (Nat.le_of_ble_eq_true rfl) (Nat.le_of_ble_eq_true rfl) ⟨rfl, by simp [numBI, i_eq, w_1]⟩
    | 1, _, e =>
      have w_1 : (c).toInt = 102 := e
      refine a_tableIn 110 dX12_whatBy_1 (by rw [w_1]; decide) (by rw [w_1]; decide) (by rw [w_1]; rfl) (by decide) ?_
      refine a_iconst (5) 111 dX12_whatBy_110 rfl (by decide) ?_
      exact a_ireturn dX12_whatBy_111 rfl rfl (Nat.le_of_ble_eq_true rfl) (Nat.le_of_ble_eq_true rfl) ⟨rfl, by simp [numBI, i_eq, w_1]⟩
    | 2, _, e =>
      have w_1 : (c).toInt = 103 := e
      refine a_tableIn 115 dX12_whatBy_1 (by rw [w_1]; decide) (by rw [w_1]; decide) (by rw [w_1]; rfl) (by decide) ?_
      refine a_bipush (-9) 117 dX12_whatBy_115 rfl (by decide) ?_
      exact a_ireturn dX12_whatBy_117 rfl rfl (Nat.le_of_ble_eq_true rfl) (Nat.le_of_ble_eq_true rfl) ⟨rfl, by simp [numBI, i_eq, w_1]⟩
    | 3, _, e =>
      have w_1 : (c).toInt = 104 := e
      refine a_tableIn 115 dX12_whatBy_1 (by rw [w_1]; decide) (by rw [w_1]; decide) (by rw [w_1]; rfl) (by decide) ?_
      refine a_bipush (-9) 117 dX12_whatBy_115 rfl (by decide) ?_
      exact a_ireturn dX12_whatBy_117 rfl rfl (Nat.le_of_ble_eq_true rfl) (Nat.le_of_ble_eq_true rfl) ⟨rfl, by simp [numBI, i_eq, w_1]⟩
    | 4, _, e =>
      have w_1 : (c).toInt = 105 := e
      refine a_tableIn 115 dX12_whatBy_1 (by rw [w_1]; decide) (by rw [w_1]; decide) (by rw [w_1]; rfl) (by decide) ?_
      refine a_bipush (-9) 117 dX12_whatBy_115 rfl (by decide) ?_
      exact a_ireturn dX12_whatBy_117 rfl rfl (Nat.le_of_ble_eq_true rfl) (Nat.le_of_ble_eq_true rfl) ⟨rfl, by simp [numBI, i_eq, w_1]⟩
    | 5, _, e =>
      have w_1 : (c).toInt = 106 := e
      refine a_tableIn 115 dX12_whatBy_1 (by rw [w_1]; decide) (by rw [w_1]; decide) (by rw [w_1]; rfl) (by decide) ?_
      refine a_bipush (-9) 117 dX12_whatBy_115 rfl (by decide) ?_
      exact a_ireturn dX12_whatBy_117 rfl rfl (Nat.le_of_ble_eq_true rfl) (Nat.le_of_ble_eq_true rfl) ⟨rfl, by simp [numBI, i_eq, w_1]⟩
    | 6, _, e =>
      have w_1 : (c).toInt = 107 := e
      refine a_tableIn 106 dX12_whatBy_1 (by rw [w_1]; decide) (by rw [w_1]; decide) (by rw [w_1]; rfl) (by decide) ?_
      refine a_iconst (3) 107 dX12_whatBy_106 rfl (by decide) ?_
      exact a_ireturn dX12_whatBy_107 rfl rfl (Nat.le_of_ble_eq_true rfl) (Nat.le_of_ble_eq_true rfl) ⟨rfl, by simp [numBI, i_eq, w_1]⟩
    | 7, _, e =>
      have w_1 : (c).toInt = 108 := e
      refine a_tableIn 115 dX12_whatBy_1 (by rw [w_1]; decide) (by rw [w_1]; decide) (by rw [w_1]; rfl) (by decide) ?_
      refine a_bipush (-9) 117 dX12_whatBy_115 rfl (by decide) ?_
      exact a_ireturn dX12_whatBy_117 rfl rfl (Nat.le_of_ble_eq_true rfl) (Nat.le_of_ble_eq_true rfl) ⟨rfl, by simp [numBI, i_eq, w_1]⟩
    | 8, _, e =>
      have w_1 : (c).toInt = 109 := e
      refine a_tableIn 115 dX12_whatBy_1 (by rw [w_1]; decide) (by rw [w_1]; decide) (by rw [w_1]; rfl) (by decide) ?_
      refine a_bipush (-9) 117 dX12_whatBy_115 rfl (by decide) ?_
      exact a_ireturn dX12_whatBy_117 rfl rfl (Nat.le_of_ble_eq_true rfl) (Nat.le_of_ble_eq_true rfl) ⟨rfl, by simp [numBI, i_eq, w_1]⟩
    | 9, _, e =>
      have w_1 : (c).toInt = 110 := e
      refine a_tableIn 115 dX12_whatBy_1 (by rw [w_1]; decide) (by rw [w_1]; decide) (by rw [w_1]; rfl) (by decide) ?_
      refine a_bipush (-9) 117 dX12_whatBy_115 rfl (by decide) ?_
      exact a_ireturn dX12_whatBy_117 rfl rfl (Nat.le_of_ble_eq_true rfl) (Nat.le_of_ble_eq_true rfl) ⟨rfl, by simp [numBI, i_eq, w_1]⟩
    | 10, _, e =>
      have w_1 : (c).toInt = 111 := e
      refine a_tableIn 100 dX12_whatBy_1 (by rw [w_1]; decide) (by rw [w_1]; decide) (by rw [w_1]; rfl) (by decide) ?_
      refine a_iconst (0) 101 dX12_whatBy_100 rfl (by decide) ?_
      exact a_ireturn dX12_whatBy_101 rfl rfl (Nat.le_of_ble_eq_true rfl) (Nat.le_of_ble_eq_true rfl) ⟨rfl, by simp [numBI, i_eq, w_1]⟩
    | 11, _, e =>
      have w_1 : (c).toInt = 112 := e
      refine a_tableIn 115 dX12_whatBy_1 (by rw [w_1]; decide) (by rw [w_1]; decide) (by rw [w_1]; rfl) (by decide) ?_
      refine a_bipush (-9) 117 dX12_whatBy_115 rfl (by decide) ?_
      exact a_ireturn dX12_whatBy_117 rfl rfl (Nat.le_of_ble_eq_true rfl) (Nat.le_of_ble_eq_true rfl) ⟨rfl, by simp [numBI, i_eq, w_1]⟩
    | 12, _, e =>
      have w_1 : (c).toInt = 113 := e
      refine a_tableIn 115 dX12_whatBy_1 (by rw [w_1]; decide) (by rw [w_1]; decide) (by rw [w_1]; rfl) (by decide) ?_
      refine a_bipush (-9) 117 dX12_whatBy_115 rfl (by decide) ?_
      exact a_ireturn dX12_whatBy_117 rfl rfl (Nat.le_of_ble_eq_true rfl) (Nat.le_of_ble_eq_true rfl) ⟨rfl, by simp [numBI, i_eq, w_1]⟩
    | 13, _, e =>
      have w_1 : (c).toInt = 114 := e
      refine a_tableIn 115 dX12_whatBy_1 (by rw [w_1]; decide) (by rw [w_1]; decide) (by rw [w_1]; rfl) (by decide) ?_
      refine a_bipush (-9) 117 dX12_whatBy_115 rfl (by decide) ?_
      exact a_ireturn dX12_whatBy_117 rfl rfl (Nat.le_of_ble_eq_true rfl) (Nat.le_of_ble_eq_true rfl) ⟨rfl, by simp [numBI, i_eq, w_1]⟩
    | 14, _, e =>
      have w_1 : (c).toInt = 115 := e
      refine a_tableIn 102 dX12_whatBy_1 (by rw [w_1]; decide) (by rw [w_1]; decide) (by rw [w_1]; rfl) (by decide) ?_
      refine a_iconst (1) 103 dX12_whatBy_102 rfl (by decide) ?_
      exact a_ireturn dX12_whatBy_103 rfl rfl (Nat.le_of_ble_eq_true rfl) (Nat.le_of_ble_eq_true rfl) ⟨rfl, by simp [numBI, i_eq, w_1]⟩
    | 15, _, e =>
      have w_1 : (c).toInt = 116 := e
      refine a_tableIn 112 dX12_whatBy_1 (by rw [w_1]; decide) (by rw [w_1]; decide) (by rw [w_1]; rfl) (by decide) ?_
      refine a_bipush (6) 114 dX12_whatBy_112 rfl (by decide) ?_
      exact a_ireturn dX12_whatBy_114 rfl rfl (Nat.le_of_ble_eq_true rfl) (Nat.le_of_ble_eq_true rfl) ⟨rfl, by simp [numBI, i_eq, w_1]⟩
    | 16, _, e =>
      have w_1 : (c).toInt = 117 := e
      refine a_tableIn 115 dX12_whatBy_1 (by rw [w_1]; decide) (by rw [w_1]; decide) (by rw [w_1]; rfl) (by decide) ?_
      refine a_bipush (-9) 117 dX12_whatBy_115 rfl (by decide) ?_
      exact a_ireturn dX12_whatBy_117 rfl rfl (Nat.le_of_ble_eq_true rfl) (Nat.le_of_ble_eq_true rfl) ⟨rfl, by simp [numBI, i_eq, w_1]⟩
    | 17, _, e =>
      have w_1 : (c).toInt = 118 := e
      refine a_tableIn 115 dX12_whatBy_1 (by rw [w_1]; decide) (by rw [w_1]; decide) (by rw [w_1]; rfl) (by decide) ?_
      refine a_bipush (-9) 117 dX12_whatBy_115 rfl (by decide) ?_
      exact a_ireturn dX12_whatBy_117 rfl rfl (Nat.le_of_ble_eq_true rfl) (Nat.le_of_ble_eq_true rfl) ⟨rfl, by simp [numBI, i_eq, w_1]⟩
    | 18, _, e =>
      have w_1 : (c).toInt = 119 := e
      refine a_tableIn 115 dX12_whatBy_1 (by rw [w_1]; decide) (by rw [w_1]; decide) (by rw [w_1]; rfl) (by decide) ?_
      refine a_bipush (-9) 117 dX12_whatBy_115 rfl (by decide) ?_
      exact a_ireturn dX12_whatBy_117 rfl rfl (Nat.le_of_ble_eq_true rfl) (Nat.le_of_ble_eq_true rfl) ⟨rfl, by simp [numBI, i_eq, w_1]⟩
    | 19, _, e =>
      have w_1 : (c).toInt = 120 := e
      refine a_tableIn 115 dX12_whatBy_1 (by rw [w_1]; decide) (by rw [w_1]; decide) (by rw [w_1]; rfl) (by decide) ?_
      refine a_bipush (-9) 117 dX12_whatBy_115 rfl (by decide) ?_
      exact a_ireturn dX12_whatBy_117 rfl rfl (Nat.le_of_ble_eq_true rfl) (Nat.le_of_ble_eq_true rfl) ⟨rfl, by simp [numBI, i_eq, w_1]⟩
    | 20, _, e =>
      have w_1 : (c).toInt = 121 := e
      refine a_tableIn 108 dX12_whatBy_1 (by rw [w_1]; decide) (by rw [w_1]; decide) (by rw [w_1]; rfl) (by decide) ?_
      refine a_iconst (4) 109 dX12_whatBy_108 rfl (by decide) ?_
      exact a_ireturn dX12_whatBy_109 rfl rfl (Nat.le_of_ble_eq_true rfl) (Nat.le_of_ble_eq_true rfl) ⟨rfl, by simp [numBI, i_eq, w_1]⟩
    | k + 21, hk, _ => exact absurd hk (by omega)
set_option maxRecDepth 100000 in
set_option maxHeartbeats 400000 in
theorem k_X12_untold (c : Int32) : rM l G 0 mX12_untold 0 0 [.int c] h (rV h (some (.int (if c = 1 then 6 else if c = 2 then 2 else if c = 3 ∨ c = 4 then 3 else if c = 6 then 5 else 1)))) := by
  refine rM_start (by decide) (Nat.le_of_ble_eq_true rfl) ?_
  refine a_iload_n 1 dX12_untold_0 rfl rfl ?_
  refine a_iconst (1) 2 dX12_untold_1 rfl (by decide) ?_
  refine a_icmp_ne 10 5 dX12_untold_2 rfl (by decide) (fun c_2 => ?_) (fun c_2 => ?_)
  · refine a_iload_n 11 dX12_untold_10 rfl rfl ?_
    refine a_iconst (2) 12 dX12_untold_11 rfl (by decide) ?_
    refine a_icmp_ne 19 15 dX12_untold_12 rfl (by decide) (fun c_12 => ?_) (fun c_12 => ?_)
    · refine a_iload_n 20 dX12_untold_19 rfl rfl ?_
      refine a_iconst (3) 21 dX12_untold_20 rfl (by decide) ?_
      refine a_icmp_eq 29 24 dX12_untold_21 rfl (by decide) (fun c_21 => ?_) (fun c_21 => ?_)
      · refine a_iconst (3) 30 dX12_untold_29 rfl (by decide) ?_
        refine a_goto 44 dX12_untold_30 (by decide) ?_
        exact a_ireturn dX12_untold_44 rfl rfl (Nat.le_of_ble_eq_true rfl) (Nat.le_of_ble_eq_true rfl) ⟨rfl, by simp_all⟩
      · refine a_iload_n 25 dX12_untold_24 rfl rfl ?_
        refine a_iconst (4) 26 dX12_untold_25 rfl (by decide) ?_
        refine a_icmp_ne 33 29 dX12_untold_26 rfl (by decide) (fun c_26 => ?_) (fun c_26 => ?_)
        · refine a_iload_n 34 dX12_untold_33 rfl rfl ?_
          refine a_bipush (6) 36 dX12_untold_34 rfl (by decide) ?_
          refine a_icmp_ne 43 39 dX12_untold_36 rfl (by decide) (fun c_36 => ?_) (fun c_36 => ?_)
          · refine a_iconst (1) 44 dX12_untold_43 rfl (by decide) ?_
            exact a_ireturn dX12_untold_44 rfl rfl (Nat.le_of_ble_eq_true rfl) (Nat.le_of_ble_eq_true rfl) ⟨rfl, by simp_all⟩
          · refine a_iconst (5) 40 dX12_untold_39 rfl (by decide) ?_
            refine a_goto 44 dX12_untold_40 (by decide) ?_
            exact a_ireturn dX12_untold_44 rfl rfl (Nat.le_of_ble_eq_true rfl) (Nat.le_of_ble_eq_true rfl) ⟨rfl, by simp_all⟩
        · refine a_iconst (3) 30 dX12_untold_29 rfl (by decide) ?_
          refine a_goto 44 dX12_untold_30 (by decide) ?_
          exact a_ireturn dX12_untold_44 rfl rfl (Nat.le_of_ble_eq_true rfl) (Nat.le_of_ble_eq_true rfl) ⟨rfl, by simp_all⟩
    · refine a_iconst (2) 16 dX12_untold_15 rfl (by decide) ?_
      refine a_goto 44 dX12_untold_16 (by decide) ?_
      exact a_ireturn dX12_untold_44 rfl rfl (Nat.le_of_ble_eq_true rfl) (Nat.le_of_ble_eq_true rfl) ⟨rfl, by simp_all⟩
  · refine a_bipush (6) 7 dX12_untold_5 rfl (by decide) ?_
    refine a_goto 44 dX12_untold_7 (by decide) ?_
    exact a_ireturn dX12_untold_44 rfl rfl (Nat.le_of_ble_eq_true rfl) (Nat.le_of_ble_eq_true rfl) ⟨rfl, by simp_all⟩
set_option maxRecDepth 100000 in
set_option maxHeartbeats 400000 in
theorem k_X12_of (hm : h[38]? = some (mo G i j)) (hf : h[49]? = some (.inl (gA G 0, 42, .inl f))) (x y : Int32) (hi : vp_in (7 * x + y) 42) : rM l G 0 mX12_of 0 0 [.ref (gN G + 38), .int x, .int y] h (rV h (some (.int (f (7 * x + y).toNatClampNeg)))) := by
  refine rM_start (by decide) (Nat.le_of_ble_eq_true rfl) ?_
  refine a_aload_n 1 dX12_of_0 rfl rfl ?_
  refine a_get fd_X12_41 rfl 4 dX12_of_1 rfl (by repeat (first | assumption | (refine rg_ne (by first | decide | omega) ?_) | apply rg_eq | refine rg_fr (by assumption) (by first | decide | (simp; omega)) ?_)) rfl ?_
  refine a_bipush (7) 6 dX12_of_4 rfl (by decide) ?_
  refine a_iload_n 7 dX12_of_6 rfl rfl ?_
  refine a_imul 8 dX12_of_7 rfl ?_
  refine a_iload_n 9 dX12_of_8 rfl rfl ?_
  refine a_iadd 10 dX12_of_9 rfl ?_
  refine a_iaload 11 dX12_of_10 rfl (by repeat (first | assumption | (refine rg_ne (by first | decide | omega) ?_) | apply rg_eq | refine rg_fr (by assumption) (by first | decide | (simp; omega)) ?_)) (by assumption) ?_
  exact a_ireturn dX12_of_11 rfl rfl (Nat.le_of_ble_eq_true rfl) (Nat.le_of_ble_eq_true rfl) ⟨rfl, rfl⟩
set_option maxRecDepth 100000 in
set_option maxHeartbeats 400000 in
theorem k_X12_nextTo (hm : h[38]? = some (mo G i j)) (hf : h[43]? = some (.inl (gA G 0, 128, .inl f))) (x y : Int32) (hi : vp_in (4 * x + y) 128) : rM l G 0 mX12_nextTo 0 0 [.ref (gN G + 38), .int x, .int y] h (rV h (some (.int (f (4 * x + y).toNatClampNeg)))) := by
  refine rM_start (by decide) (Nat.le_of_ble_eq_true rfl) ?_
  refine a_aload_n 1 dX12_nextTo_0 rfl rfl ?_
  refine a_get fd_X12_23 rfl 4 dX12_nextTo_1 rfl (by repeat (first | assumption | (refine rg_ne (by first | decide | omega) ?_) | apply rg_eq | refine rg_fr (by assumption) (by first | decide | (simp; omega)) ?_)) rfl ?_
  refine a_iconst (4) 5 dX12_nextTo_4 rfl (by decide) ?_
  refine a_iload_n 6 dX12_nextTo_5 rfl rfl ?_
  refine a_imul 7 dX12_nextTo_6 rfl ?_
  refine a_iload_n 8 dX12_nextTo_7 rfl rfl ?_
  refine a_iadd 9 dX12_nextTo_8 rfl ?_
  refine a_iaload 10 dX12_nextTo_9 rfl (by repeat (first | assumption | (refine rg_ne (by first | decide | omega) ?_) | apply rg_eq | refine rg_fr (by assumption) (by first | decide | (simp; omega)) ?_)) (by assumption) ?_
  exact a_ireturn dX12_nextTo_10 rfl rfl (Nat.le_of_ble_eq_true rfl) (Nat.le_of_ble_eq_true rfl) ⟨rfl, rfl⟩
end MLEAF
