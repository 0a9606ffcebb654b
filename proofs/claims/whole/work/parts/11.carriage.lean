/-! THE CLASS'S CARRIAGE at a: faces at cf, sitters at cs, lines at cl (32 ints each), blinds at cb (64 booleans), wide, seats, mirrors, blindCount -/
abbrev mnI (x y : Int32) : Int32 := if y < x then y else x
abbrev mxI (x y : Int32) : Int32 := if x < y then y else x
def nxS (w n c way : Int32) : Int32 :=
  if 0 < w then
    if way = 0 then if c < w then -9 else c - w
    else if way = 1 then if n ≤ c + w then -9 else c + w
    else if way = 2 then if c - c / w * w ≤ 0 then -9 else c - 1
    else if w ≤ c - c / w * w + 1 then -9 else c + 1
  else -9
def gapW (w n c d : Int32) : Int32 := if nxS w n (mnI c d) 3 = mxI c d then 2 * mnI c d else if nxS w n (mnI c d) 1 = mxI c d then 2 * mnI c d + 1 else -9
abbrev blW (B : Nat → Int32) (gap : Int32) : Prop := 0 ≤ gap ∧ gap < 64 ∧ ¬ B gap.toNatClampNeg = 0
/-- a set of seats, a way from one on, till the end or a blind, r steps at most -/
def wayW (w n : Int32) (B : Nat → Int32) (way : Int32) : Nat → Int32 → Int32 → Int32
  | 0, set, _ => set
  | r + 1, set, here => if nxS w n here way = -9 ∨ blW B (gapW w n here (nxS w n here way)) then set else wayW w n B way r (set ||| (1 <<< (nxS w n here way &&& 31))) (nxS w n here way)
def lineW (w n m : Int32) (B : Nat → Int32) (way : Int32) : Nat → Int32 → Int32 → Int32
  | 0, set, _ => set
  | r + 1, set, here =>
    if nxS w n here way = -9 then (if ¬ m = 0 ∧ (way = 0 ∨ way = 1) then set ||| wayW w n B (if way = 0 then 1 else 0) 32 (1 <<< (here &&& 31)) here else set)
    else if blW B (gapW w n here (nxS w n here way)) then set
    else lineW w n m B way r (set ||| (1 <<< (nxS w n here way &&& 31))) (nxS w n here way)
section CARR
variable {l : Launch} {G : rG} {h : rH} {a cf cs cl cb : Nat} {w n m bc : Int32} {f s L B : Nat → Int32}
set_option maxRecDepth 100000 in
set_option maxHeartbeats 400000 in
theorem k_X1_isSeat (hc : h[a]? = some (.inr (1, [.ref (gN G + cf), .ref (gN G + cs), .ref (gN G + cl), .ref (gN G + cb), .int w, .int n, .int m, .int bc]))) (c : Int32) : rM l G 0 mX1_isSeat 0 0 [.ref (gN G + a), .int c] h (rV h (some (.int (if 0 ≤ c ∧ c < n then 1 else 0)))) := by
  refine rM_start (by decide) (Nat.le_of_ble_eq_true rfl) ?_
  refine a_iload_n 1 dX1_isSeat_0 rfl rfl ?_
  refine a_if_lt 16 4 dX1_isSeat_1 rfl (by decide) (fun c_1 => ?_) (fun c_1 => ?_)
  · refine a_iconst (0) 17 dX1_isSeat_16 rfl (by decide) ?_
    exact a_ireturn dX1_isSeat_17 rfl rfl (Nat.le_of_ble_eq_true rfl) (Nat.le_of_ble_eq_true rfl) ⟨rfl, by simp only [i_lt, i_le, Int32.reduceToInt, Int32.reduceOfNat] at *; first | rw [if_pos (by omega)] | rw [if_neg (by omega)]⟩
  · refine a_iload_n 5 dX1_isSeat_4 rfl rfl ?_
    refine a_aload_n 6 dX1_isSeat_5 rfl rfl ?_
    refine a_get fd_X1_35 rfl 9 dX1_isSeat_6 rfl (by repeat (first | assumption | (refine rg_ne (by first | decide | omega) ?_) | apply rg_eq | refine rg_fr (by assumption) (by first | decide | (simp; omega)) ?_)) rfl ?_
    refine a_icmp_ge 16 12 dX1_isSeat_9 rfl (by decide) (fun c_9 => ?_) (fun c_9 => ?_)
    · refine a_iconst (0) 17 dX1_isSeat_16 rfl (by decide) ?_
      exact a_ireturn dX1_isSeat_17 rfl rfl (Nat.le_of_ble_eq_true rfl) (Nat.le_of_ble_eq_true rfl) ⟨rfl, by simp only [i_lt, i_le, Int32.reduceToInt, Int32.reduceOfNat] at *; first | rw [if_pos (by omega)] | rw [if_neg (by omega)]⟩
    · refine a_iconst (1) 13 dX1_isSeat_12 rfl (by decide) ?_
      refine a_goto 17 dX1_isSeat_13 (by decide) ?_
      exact a_ireturn dX1_isSeat_17 rfl rfl (Nat.le_of_ble_eq_true rfl) (Nat.le_of_ble_eq_true rfl) ⟨rfl, by simp only [i_lt, i_le, Int32.reduceToInt, Int32.reduceOfNat] at *; first | rw [if_pos (by omega)] | rw [if_neg (by omega)]⟩
set_option maxRecDepth 100000 in
set_option maxHeartbeats 400000 in
theorem k_X1_faceOf (hc : h[a]? = some (.inr (1, [.ref (gN G + cf), .ref (gN G + cs), .ref (gN G + cl), .ref (gN G + cb), .int w, .int n, .int m, .int bc]))) (hf : h[cf]? = some (.inl (gA G 0, 32, .inl f))) (c : Int32) : rM l G 0 mX1_faceOf 0 0 [.ref (gN G + a), .int c] h (rV h (some (.int (if 0 ≤ c ∧ c < 32 then f c.toNatClampNeg else 0)))) := by
  refine rM_start (by decide) (Nat.le_of_ble_eq_true rfl) ?_
  refine a_iload_n 1 dX1_faceOf_0 rfl rfl ?_
  refine a_if_lt 22 4 dX1_faceOf_1 rfl (by decide) (fun c_1 => ?_) (fun c_1 => ?_)
  · refine a_iconst (0) 23 dX1_faceOf_22 rfl (by decide) ?_
    exact a_ireturn dX1_faceOf_23 rfl rfl (Nat.le_of_ble_eq_true rfl) (Nat.le_of_ble_eq_true rfl) ⟨rfl, by simp only [i_lt, i_le, Int32.reduceToInt, Int32.reduceOfNat] at *; first | rw [if_pos (by omega)] | rw [if_neg (by omega)]⟩
  · refine a_iload_n 5 dX1_faceOf_4 rfl rfl ?_
    refine a_aload_n 6 dX1_faceOf_5 rfl rfl ?_
    refine a_get fd_X1_9 rfl 9 dX1_faceOf_6 rfl (by repeat (first | assumption | (refine rg_ne (by first | decide | omega) ?_) | apply rg_eq | refine rg_fr (by assumption) (by first | decide | (simp; omega)) ?_)) rfl ?_
    refine a_alen_0 10 dX1_faceOf_9 rfl (by repeat (first | assumption | (refine rg_ne (by first | decide | omega) ?_) | apply rg_eq | refine rg_fr (by assumption) (by first | decide | (simp; omega)) ?_)) ?_
    refine a_icmp_ge 22 13 dX1_faceOf_10 rfl (by decide) (fun c_10 => ?_) (fun c_10 => ?_)
    · refine a_iconst (0) 23 dX1_faceOf_22 rfl (by decide) ?_
      exact a_ireturn dX1_faceOf_23 rfl rfl (Nat.le_of_ble_eq_true rfl) (Nat.le_of_ble_eq_true rfl) ⟨rfl, by simp only [i_lt, i_le, Int32.reduceToInt, Int32.reduceOfNat] at *; first | rw [if_pos (by omega)] | rw [if_neg (by omega)]⟩
    · refine a_aload_n 14 dX1_faceOf_13 rfl rfl ?_
      refine a_get fd_X1_9 rfl 17 dX1_faceOf_14 rfl (by repeat (first | assumption | (refine rg_ne (by first | decide | omega) ?_) | apply rg_eq | refine rg_fr (by assumption) (by first | decide | (simp; omega)) ?_)) rfl ?_
      refine a_iload_n 18 dX1_faceOf_17 rfl rfl ?_
      refine a_iaload 19 dX1_faceOf_18 rfl (by repeat (first | assumption | (refine rg_ne (by first | decide | omega) ?_) | apply rg_eq | refine rg_fr (by assumption) (by first | decide | (simp; omega)) ?_)) (vin_ge c_1 c_10 (by decide)) ?_
      refine a_goto 23 dX1_faceOf_19 (by decide) ?_
      exact a_ireturn dX1_faceOf_23 rfl rfl (Nat.le_of_ble_eq_true rfl) (Nat.le_of_ble_eq_true rfl) ⟨rfl, by simp only [i_lt, i_le, Int32.reduceToInt, Int32.reduceOfNat] at *; first | rw [if_pos (by omega)] | rw [if_neg (by omega)]⟩
set_option maxRecDepth 100000 in
set_option maxHeartbeats 400000 in
theorem k_X1_sitterOf (hc : h[a]? = some (.inr (1, [.ref (gN G + cf), .ref (gN G + cs), .ref (gN G + cl), .ref (gN G + cb), .int w, .int n, .int m, .int bc]))) (hs : h[cs]? = some (.inl (gA G 0, 32, .inl s))) (c : Int32) : rM l G 0 mX1_sitterOf 0 0 [.ref (gN G + a), .int c] h (rV h (some (.int (if 0 ≤ c ∧ c < 32 then s c.toNatClampNeg else -9)))) := by
  refine rM_start (by decide) (Nat.le_of_ble_eq_true rfl) ?_
  refine a_iload_n 1 dX1_sitterOf_0 rfl rfl ?_
  refine a_if_lt 22 4 dX1_sitterOf_1 rfl (by decide) (fun c_1 => ?_) (fun c_1 => ?_)
  · refine a_bipush (-9) 24 dX1_sitterOf_22 rfl (by decide) ?_
    exact a_ireturn dX1_sitterOf_24 rfl rfl (Nat.le_of_ble_eq_true rfl) (Nat.le_of_ble_eq_true rfl) ⟨rfl, by simp only [i_lt, i_le, Int32.reduceToInt, Int32.reduceOfNat] at *; first | rw [if_pos (by omega)] | rw [if_neg (by omega)]⟩
  · refine a_iload_n 5 dX1_sitterOf_4 rfl rfl ?_
    refine a_aload_n 6 dX1_sitterOf_5 rfl rfl ?_
    refine a_get fd_X1_15 rfl 9 dX1_sitterOf_6 rfl (by repeat (first | assumption | (refine rg_ne (by first | decide | omega) ?_) | apply rg_eq | refine rg_fr (by assumption) (by first | decide | (simp; omega)) ?_)) rfl ?_
    refine a_alen_0 10 dX1_sitterOf_9 rfl (by repeat (first | assumption | (refine rg_ne (by first | decide | omega) ?_) | apply rg_eq | refine rg_fr (by assumption) (by first | decide | (simp; omega)) ?_)) ?_
    refine a_icmp_ge 22 13 dX1_sitterOf_10 rfl (by decide) (fun c_10 => ?_) (fun c_10 => ?_)
    · refine a_bipush (-9) 24 dX1_sitterOf_22 rfl (by decide) ?_
      exact a_ireturn dX1_sitterOf_24 rfl rfl (Nat.le_of_ble_eq_true rfl) (Nat.le_of_ble_eq_true rfl) ⟨rfl, by simp only [i_lt, i_le, Int32.reduceToInt, Int32.reduceOfNat] at *; first | rw [if_pos (by omega)] | rw [if_neg (by omega)]⟩
    · refine a_aload_n 14 dX1_sitterOf_13 rfl rfl ?_
      refine a_get fd_X1_15 rfl 17 dX1_sitterOf_14 rfl (by repeat (first | assumption | (refine rg_ne (by first | decide | omega) ?_) | apply rg_eq | refine rg_fr (by assumption) (by first | decide | (simp; omega)) ?_)) rfl ?_
      refine a_iload_n 18 dX1_sitterOf_17 rfl rfl ?_
      refine a_iaload 19 dX1_sitterOf_18 rfl (by repeat (first | assumption | (refine rg_ne (by first | decide | omega) ?_) | apply rg_eq | refine rg_fr (by assumption) (by first | decide | (simp; omega)) ?_)) (vin_ge c_1 c_10 (by decide)) ?_
      refine a_goto 24 dX1_sitterOf_19 (by decide) ?_
      exact a_ireturn dX1_sitterOf_24 rfl rfl (Nat.le_of_ble_eq_true rfl) (Nat.le_of_ble_eq_true rfl) ⟨rfl, by simp only [i_lt, i_le, Int32.reduceToInt, Int32.reduceOfNat] at *; first | rw [if_pos (by omega)] | rw [if_neg (by omega)]⟩
set_option maxRecDepth 100000 in
set_option maxHeartbeats 400000 in
theorem k_X1_seatOne (hc : h[a]? = some (.inr (1, [.ref (gN G + cf), .ref (gN G + cs), .ref (gN G + cl), .ref (gN G + cb), .int w, .int n, .int m, .int bc]))) (hs : h[cs]? = some (.inl (gA G 0, 32, .inl s))) (c x : Int32) (hi : vp_in c 32) : rM l G 0 mX1_seatOne 0 0 [.ref (gN G + a), .int c, .int x] h (rV (h.set cs (.inl (gA G 0, 32, .inl (upd s c.toNatClampNeg x)))) none) := by
  refine rM_start (by decide) (Nat.le_of_ble_eq_true rfl) ?_
  refine a_iload_n 1 dX1_seatOne_0 rfl rfl ?_
  refine a_if_lt 20 4 dX1_seatOne_1 rfl (by decide) (fun c_1 => absurd c_1 (fun q => hi (Or.inl q))) (fun c_1 => ?_)
  refine a_iload_n 5 dX1_seatOne_4 rfl rfl ?_
  refine a_aload_n 6 dX1_seatOne_5 rfl rfl ?_
  refine a_get fd_X1_15 rfl 9 dX1_seatOne_6 rfl (by repeat (first | assumption | (refine rg_ne (by first | decide | omega) ?_) | apply rg_eq | refine rg_fr (by assumption) (by first | decide | (simp; omega)) ?_)) rfl ?_
  refine a_alen_0 10 dX1_seatOne_9 rfl (by repeat (first | assumption | (refine rg_ne (by first | decide | omega) ?_) | apply rg_eq | refine rg_fr (by assumption) (by first | decide | (simp; omega)) ?_)) ?_
  refine a_icmp_ge 20 13 dX1_seatOne_10 rfl (by decide) (fun c_10 => absurd c_10 (vin_lt hi (by decide))) (fun c_10 => ?_)
  refine a_aload_n 14 dX1_seatOne_13 rfl rfl ?_
  refine a_get fd_X1_15 rfl 17 dX1_seatOne_14 rfl (by repeat (first | assumption | (refine rg_ne (by first | decide | omega) ?_) | apply rg_eq | refine rg_fr (by assumption) (by first | decide | (simp; omega)) ?_)) rfl ?_
  refine a_iload_n 18 dX1_seatOne_17 rfl rfl ?_
  refine a_iload_n 19 dX1_seatOne_18 rfl rfl ?_
  refine a_iastore 20 dX1_seatOne_19 rfl (by repeat (first | assumption | (refine rg_ne (by first | decide | omega) ?_) | apply rg_eq | refine rg_fr (by assumption) (by first | decide | (simp; omega)) ?_)) hi ?_
  exact a_return dX1_seatOne_20 rfl (Nat.le_of_ble_eq_true rfl) (Nat.le_of_ble_eq_true rfl) ⟨rfl, rfl⟩
set_option maxRecDepth 100000 in
set_option maxHeartbeats 400000 in
theorem k_X1_lineOf (hc : h[a]? = some (.inr (1, [.ref (gN G + cf), .ref (gN G + cs), .ref (gN G + cl), .ref (gN G + cb), .int w, .int n, .int m, .int bc]))) (hL : h[cl]? = some (.inl (gA G 0, 32, .inl L))) (c : Int32) : rM l G 0 mX1_lineOf 0 0 [.ref (gN G + a), .int c] h (rV h (some (.int (if 0 ≤ c ∧ c < 32 then L c.toNatClampNeg else 0)))) := by
  refine rM_start (by decide) (Nat.le_of_ble_eq_true rfl) ?_
  refine a_iload_n 1 dX1_lineOf_0 rfl rfl ?_
  refine a_if_lt 22 4 dX1_lineOf_1 rfl (by decide) (fun c_1 => ?_) (fun c_1 => ?_)
  · refine a_iconst (0) 23 dX1_lineOf_22 rfl (by decide) ?_
    exact a_ireturn dX1_lineOf_23 rfl rfl (Nat.le_of_ble_eq_true rfl) (Nat.le_of_ble_eq_true rfl) ⟨rfl, by simp only [i_lt, i_le, Int32.reduceToInt, Int32.reduceOfNat] at *; first | rw [if_pos (by omega)] | rw [if_neg (by omega)]⟩
  · refine a_iload_n 5 dX1_lineOf_4 rfl rfl ?_
    refine a_aload_n 6 dX1_lineOf_5 rfl rfl ?_
    refine a_get fd_X1_18 rfl 9 dX1_lineOf_6 rfl (by repeat (first | assumption | (refine rg_ne (by first | decide | omega) ?_) | apply rg_eq | refine rg_fr (by assumption) (by first | decide | (simp; omega)) ?_)) rfl ?_
    refine a_alen_0 10 dX1_lineOf_9 rfl (by repeat (first | assumption | (refine rg_ne (by first | decide | omega) ?_) | apply rg_eq | refine rg_fr (by assumption) (by first | decide | (simp; omega)) ?_)) ?_
    refine a_icmp_ge 22 13 dX1_lineOf_10 rfl (by decide) (fun c_10 => ?_) (fun c_10 => ?_)
    · refine a_iconst (0) 23 dX1_lineOf_22 rfl (by decide) ?_
      exact a_ireturn dX1_lineOf_23 rfl rfl (Nat.le_of_ble_eq_true rfl) (Nat.le_of_ble_eq_true rfl) ⟨rfl, by simp only [i_lt, i_le, Int32.reduceToInt, Int32.reduceOfNat] at *; first | rw [if_pos (by omega)] | rw [if_neg (by omega)]⟩
    · refine a_aload_n 14 dX1_lineOf_13 rfl rfl ?_
      refine a_get fd_X1_18 rfl 17 dX1_lineOf_14 rfl (by repeat (first | assumption | (refine rg_ne (by first | decide | omega) ?_) | apply rg_eq | refine rg_fr (by assumption) (by first | decide | (simp; omega)) ?_)) rfl ?_
      refine a_iload_n 18 dX1_lineOf_17 rfl rfl ?_
      refine a_iaload 19 dX1_lineOf_18 rfl (by repeat (first | assumption | (refine rg_ne (by first | decide | omega) ?_) | apply rg_eq | refine rg_fr (by assumption) (by first | decide | (simp; omega)) ?_)) (vin_ge c_1 c_10 (by decide)) ?_
      refine a_goto 23 dX1_lineOf_19 (by decide) ?_
      exact a_ireturn dX1_lineOf_23 rfl rfl (Nat.le_of_ble_eq_true rfl) (Nat.le_of_ble_eq_true rfl) ⟨rfl, by simp only [i_lt, i_le, Int32.reduceToInt, Int32.reduceOfNat] at *; first | rw [if_pos (by omega)] | rw [if_neg (by omega)]⟩
set_option maxRecDepth 100000 in
set_option maxHeartbeats 400000 in
theorem k_X1_isOnLine (hc : h[a]? = some (.inr (1, [.ref (gN G + cf), .ref (gN G + cs), .ref (gN G + cl), .ref (gN G + cb), .int w, .int n, .int m, .int bc]))) (hL : h[cl]? = some (.inl (gA G 0, 32, .inl L))) (c d : Int32) : rM l G 1 mX1_isOnLine 0 0 [.ref (gN G + a), .int c, .int d] h (rV h (some (.int (if (((if 0 ≤ c ∧ c < 32 then L c.toNatClampNeg else 0).toUInt32 >>> (d.toUInt32 &&& Int32.toUInt32 31)).toInt32 &&& 1) = 1 then 1 else 0)))) := by
  refine rM_start (by decide) (Nat.le_of_ble_eq_true rfl) ?_
  refine a_aload_n 1 dX1_isOnLine_0 rfl rfl ?_
  refine a_iload_n 2 dX1_isOnLine_1 rfl rfl ?_
  refine a_callV ok_X1_lineOf ln_X1_51 in_X1_lineOf rfl 5 dX1_isOnLine_2 rfl (k_X1_lineOf hc hL c) (by repeat (first | assumption | (refine rg_ne (by first | decide | omega) ?_) | apply rg_eq | refine rg_fr (by assumption) (by first | decide | (simp; omega)) ?_)) rfl rfl rfl ⟨(Nat.le_of_ble_eq_true rfl), (Nat.le_of_ble_eq_true rfl)⟩ (Nat.le_of_ble_eq_true rfl) ⟨(Nat.le_of_ble_eq_true rfl), (Nat.le_of_ble_eq_true rfl)⟩ ?_
  rintro _ _ ⟨rfl, rfl⟩
  refine a_iload_n 6 dX1_isOnLine_5 rfl rfl ?_
  refine a_iushr 7 dX1_isOnLine_6 rfl ?_
  refine a_iconst (1) 8 dX1_isOnLine_7 rfl (by decide) ?_
  refine a_iand 9 dX1_isOnLine_8 rfl ?_
  refine a_iconst (1) 10 dX1_isOnLine_9 rfl (by decide) ?_
  refine a_icmp_ne 17 13 dX1_isOnLine_10 rfl (by decide) (fun c_10 => ?_) (fun c_10 => ?_)
  · refine a_iconst (0) 18 dX1_isOnLine_17 rfl (by decide) ?_
    exact a_ireturn dX1_isOnLine_18 rfl rfl (Nat.le_of_ble_eq_true rfl) (Nat.le_of_ble_eq_true rfl) ⟨rfl, by first | rw [if_pos c_10] | rw [if_neg c_10]⟩
  · refine a_iconst (1) 14 dX1_isOnLine_13 rfl (by decide) ?_
    refine a_goto 18 dX1_isOnLine_14 (by decide) ?_
    exact a_ireturn dX1_isOnLine_18 rfl rfl (Nat.le_of_ble_eq_true rfl) (Nat.le_of_ble_eq_true rfl) ⟨rfl, by first | rw [if_pos c_10] | rw [if_neg c_10]⟩
set_option maxRecDepth 100000 in
set_option maxHeartbeats 400000 in
theorem k_X1_nextSeat (hc : h[a]? = some (.inr (1, [.ref (gN G + cf), .ref (gN G + cs), .ref (gN G + cl), .ref (gN G + cb), .int w, .int n, .int m, .int bc]))) (c way : Int32) : rM l G 0 mX1_nextSeat 0 0 [.ref (gN G + a), .int c, .int way] h (rV h (some (.int (nxS w n c way)))) := by
  refine rM_start (by decide) (Nat.le_of_ble_eq_true rfl) ?_
  refine a_aload_n 1 dX1_nextSeat_0 rfl rfl ?_
  refine a_get fd_X1_31 rfl 4 dX1_nextSeat_1 rfl (by repeat (first | assumption | (refine rg_ne (by first | decide | omega) ?_) | apply rg_eq | refine rg_fr (by assumption) (by first | decide | (simp; omega)) ?_)) rfl ?_
  refine a_if_gt 10 7 dX1_nextSeat_4 rfl (by decide) (fun c_4 => ?_) (fun c_4 => ?_)
  · refine a_iload_n 11 dX1_nextSeat_10 rfl rfl ?_
    refine a_aload_n 12 dX1_nextSeat_11 rfl rfl ?_
    refine a_get fd_X1_31 rfl 15 dX1_nextSeat_12 rfl (by repeat (first | assumption | (refine rg_ne (by first | decide | omega) ?_) | apply rg_eq | refine rg_fr (by assumption) (by first | decide | (simp; omega)) ?_)) rfl ?_
    refine a_irem 16 dX1_nextSeat_15 rfl (fun q => absurd c_4 (by rw [q]; decide)) ?_
    refine a_istore_n 17 dX1_nextSeat_16 rfl (by decide) ?_
    refine a_iload_n 18 dX1_nextSeat_17 rfl rfl ?_
    rcases (show (way).toInt = 0 ∨ (way).toInt = 1 ∨ (way).toInt = 2 ∨ ((way).toInt < 0 ∨ 2 < (way).toInt) by omega) with w_18 | w_18 | w_18 | w_18
    · refine a_tableIn 44 dX1_nextSeat_18 (by rw [w_18]; decide) (by rw [w_18]; decide) (by rw [w_18]; rfl) (by decide) ?_
      refine a_iload_n 45 dX1_nextSeat_44 rfl rfl ?_
      refine a_aload_n 46 dX1_nextSeat_45 rfl rfl ?_
      refine a_get fd_X1_31 rfl 49 dX1_nextSeat_46 rfl (by repeat (first | assumption | (refine rg_ne (by first | decide | omega) ?_) | apply rg_eq | refine rg_fr (by assumption) (by first | decide | (simp; omega)) ?_)) rfl ?_
      refine a_icmp_lt 61 52 dX1_nextSeat_49 rfl (by decide) (fun c_49 => ?_) (fun c_49 => ?_)
      · refine a_bipush (-9) 63 dX1_nextSeat_61 rfl (by decide) ?_
        exact a_ireturn dX1_nextSeat_63 rfl rfl (Nat.le_of_ble_eq_true rfl) (Nat.le_of_ble_eq_true rfl) ⟨rfl, by simp only [nxS, i_eq, Int32.reduceToInt, *]; first | (simp; done) | simp [show ¬ way.toInt = 0 by omega, show ¬ way.toInt = 1 by omega, show ¬ way.toInt = 2 by omega]⟩
      · refine a_iload_n 53 dX1_nextSeat_52 rfl rfl ?_
        refine a_aload_n 54 dX1_nextSeat_53 rfl rfl ?_
        refine a_get fd_X1_31 rfl 57 dX1_nextSeat_54 rfl (by repeat (first | assumption | (refine rg_ne (by first | decide | omega) ?_) | apply rg_eq | refine rg_fr (by assumption) (by first | decide | (simp; omega)) ?_)) rfl ?_
        refine a_isub 58 dX1_nextSeat_57 rfl ?_
        refine a_goto 63 dX1_nextSeat_58 (by decide) ?_
        exact a_ireturn dX1_nextSeat_63 rfl rfl (Nat.le_of_ble_eq_true rfl) (Nat.le_of_ble_eq_true rfl) ⟨rfl, by simp only [nxS, i_eq, Int32.reduceToInt, *]; first | (simp; done) | simp [show ¬ way.toInt = 0 by omega, show ¬ way.toInt = 1 by omega, show ¬ way.toInt = 2 by omega]⟩
    · refine a_tableIn 64 dX1_nextSeat_18 (by rw [w_18]; decide) (by rw [w_18]; decide) (by rw [w_18]; rfl) (by decide) ?_
      refine a_iload_n 65 dX1_nextSeat_64 rfl rfl ?_
      refine a_aload_n 66 dX1_nextSeat_65 rfl rfl ?_
      refine a_get fd_X1_31 rfl 69 dX1_nextSeat_66 rfl (by repeat (first | assumption | (refine rg_ne (by first | decide | omega) ?_) | apply rg_eq | refine rg_fr (by assumption) (by first | decide | (simp; omega)) ?_)) rfl ?_
      refine a_iadd 70 dX1_nextSeat_69 rfl ?_
      refine a_aload_n 71 dX1_nextSeat_70 rfl rfl ?_
      refine a_get fd_X1_35 rfl 74 dX1_nextSeat_71 rfl (by repeat (first | assumption | (refine rg_ne (by first | decide | omega) ?_) | apply rg_eq | refine rg_fr (by assumption) (by first | decide | (simp; omega)) ?_)) rfl ?_
      refine a_icmp_ge 86 77 dX1_nextSeat_74 rfl (by decide) (fun c_74 => ?_) (fun c_74 => ?_)
      · refine a_bipush (-9) 88 dX1_nextSeat_86 rfl (by decide) ?_
        exact a_ireturn dX1_nextSeat_88 rfl rfl (Nat.le_of_ble_eq_true rfl) (Nat.le_of_ble_eq_true rfl) ⟨rfl, by simp only [nxS, i_eq, Int32.reduceToInt, *]; first | (simp; done) | simp [show ¬ way.toInt = 0 by omega, show ¬ way.toInt = 1 by omega, show ¬ way.toInt = 2 by omega]⟩
      · refine a_iload_n 78 dX1_nextSeat_77 rfl rfl ?_
        refine a_aload_n 79 dX1_nextSeat_78 rfl rfl ?_
        refine a_get fd_X1_31 rfl 82 dX1_nextSeat_79 rfl (by repeat (first | assumption | (refine rg_ne (by first | decide | omega) ?_) | apply rg_eq | refine rg_fr (by assumption) (by first | decide | (simp; omega)) ?_)) rfl ?_
        refine a_iadd 83 dX1_nextSeat_82 rfl ?_
        refine a_goto 88 dX1_nextSeat_83 (by decide) ?_
        exact a_ireturn dX1_nextSeat_88 rfl rfl (Nat.le_of_ble_eq_true rfl) (Nat.le_of_ble_eq_true rfl) ⟨rfl, by simp only [nxS, i_eq, Int32.reduceToInt, *]; first | (simp; done) | simp [show ¬ way.toInt = 0 by omega, show ¬ way.toInt = 1 by omega, show ¬ way.toInt = 2 by omega]⟩
    · refine a_tableIn 89 dX1_nextSeat_18 (by rw [w_18]; decide) (by rw [w_18]; decide) (by rw [w_18]; rfl) (by decide) ?_
      refine a_iload_n 90 dX1_nextSeat_89 rfl rfl ?_
      refine a_if_le 99 93 dX1_nextSeat_90 rfl (by decide) (fun c_90 => ?_) (fun c_90 => ?_)
      · refine a_bipush (-9) 101 dX1_nextSeat_99 rfl (by decide) ?_
        exact a_ireturn dX1_nextSeat_101 rfl rfl (Nat.le_of_ble_eq_true rfl) (Nat.le_of_ble_eq_true rfl) ⟨rfl, by simp only [nxS, i_eq, Int32.reduceToInt, *]; first | (simp; done) | simp [show ¬ way.toInt = 0 by omega, show ¬ way.toInt = 1 by omega, show ¬ way.toInt = 2 by omega]⟩
      · refine a_iload_n 94 dX1_nextSeat_93 rfl rfl ?_
        refine a_iconst (1) 95 dX1_nextSeat_94 rfl (by decide) ?_
        refine a_isub 96 dX1_nextSeat_95 rfl ?_
        refine a_goto 101 dX1_nextSeat_96 (by decide) ?_
        exact a_ireturn dX1_nextSeat_101 rfl rfl (Nat.le_of_ble_eq_true rfl) (Nat.le_of_ble_eq_true rfl) ⟨rfl, by simp only [nxS, i_eq, Int32.reduceToInt, *]; first | (simp; done) | simp [show ¬ way.toInt = 0 by omega, show ¬ way.toInt = 1 by omega, show ¬ way.toInt = 2 by omega]⟩
    · refine a_tableOut 102 dX1_nextSeat_18 w_18 (by decide) ?_
      refine a_iload_n 103 dX1_nextSeat_102 rfl rfl ?_
      refine a_iconst (1) 104 dX1_nextSeat_103 rfl (by decide) ?_
      refine a_iadd 105 dX1_nextSeat_104 rfl ?_
      refine a_aload_n 106 dX1_nextSeat_105 rfl rfl ?_
      refine a_get fd_X1_31 rfl 109 dX1_nextSeat_106 rfl (by repeat (first | assumption | (refine rg_ne (by first | decide | omega) ?_) | apply rg_eq | refine rg_fr (by assumption) (by first | decide | (simp; omega)) ?_)) rfl ?_
      refine a_icmp_ge 118 112 dX1_nextSeat_109 rfl (by decide) (fun c_109 => ?_) (fun c_109 => ?_)
      · refine a_bipush (-9) 120 dX1_nextSeat_118 rfl (by decide) ?_
        exact a_ireturn dX1_nextSeat_120 rfl rfl (Nat.le_of_ble_eq_true rfl) (Nat.le_of_ble_eq_true rfl) ⟨rfl, by simp only [nxS, i_eq, Int32.reduceToInt, *]; first | (simp; done) | simp [show ¬ way.toInt = 0 by omega, show ¬ way.toInt = 1 by omega, show ¬ way.toInt = 2 by omega]⟩
      · refine a_iload_n 113 dX1_nextSeat_112 rfl rfl ?_
        refine a_iconst (1) 114 dX1_nextSeat_113 rfl (by decide) ?_
        refine a_iadd 115 dX1_nextSeat_114 rfl ?_
        refine a_goto 120 dX1_nextSeat_115 (by decide) ?_
        exact a_ireturn dX1_nextSeat_120 rfl rfl (Nat.le_of_ble_eq_true rfl) (Nat.le_of_ble_eq_true rfl) ⟨rfl, by simp only [nxS, i_eq, Int32.reduceToInt, *]; first | (simp; done) | simp [show ¬ way.toInt = 0 by omega, show ¬ way.toInt = 1 by omega, show ¬ way.toInt = 2 by omega]⟩
  · refine a_bipush (-9) 9 dX1_nextSeat_7 rfl (by decide) ?_
    exact a_ireturn dX1_nextSeat_9 rfl rfl (Nat.le_of_ble_eq_true rfl) (Nat.le_of_ble_eq_true rfl) ⟨rfl, by simp only [nxS, i_eq, Int32.reduceToInt, *]; first | (simp; done) | simp [show ¬ way.toInt = 0 by omega, show ¬ way.toInt = 1 by omega, show ¬ way.toInt = 2 by omega]⟩
set_option maxRecDepth 100000 in
set_option maxHeartbeats 400000 in
theorem k_X1_gapBetween (hc : h[a]? = some (.inr (1, [.ref (gN G + cf), .ref (gN G + cs), .ref (gN G + cl), .ref (gN G + cb), .int w, .int n, .int m, .int bc]))) (c d : Int32) : rM l G 1 mX1_gapBetween 0 0 [.ref (gN G + a), .int c, .int d] h (rV h (some (.int (gapW w n c d)))) := by
  refine rM_start (by decide) (Nat.le_of_ble_eq_true rfl) ?_
  refine a_iload_n 1 dX1_gapBetween_0 rfl rfl ?_
  refine a_iload_n 2 dX1_gapBetween_1 rfl rfl ?_
  refine a_mmin lm_X1_54 rfl 5 dX1_gapBetween_2 rfl (Nat.le_of_ble_eq_true rfl) (Nat.le_of_ble_eq_true rfl) ⟨(Nat.le_of_ble_eq_true rfl), (Nat.le_of_ble_eq_true rfl)⟩ ?_
  refine a_istore_n 6 dX1_gapBetween_5 rfl (by decide) ?_
  refine a_iload_n 7 dX1_gapBetween_6 rfl rfl ?_
  refine a_iload_n 8 dX1_gapBetween_7 rfl rfl ?_
  refine a_mmax lm_X1_60 rfl 11 dX1_gapBetween_8 rfl (Nat.le_of_ble_eq_true rfl) (Nat.le_of_ble_eq_true rfl) ⟨(Nat.le_of_ble_eq_true rfl), (Nat.le_of_ble_eq_true rfl)⟩ ?_
  refine a_istore 13 dX1_gapBetween_11 rfl (by decide) ?_
  refine a_aload_n 14 dX1_gapBetween_13 rfl rfl ?_
  refine a_iload_n 15 dX1_gapBetween_14 rfl rfl ?_
  refine a_iconst (3) 16 dX1_gapBetween_15 rfl (by decide) ?_
  refine a_callV ok_X1_nextSeat ln_X1_63 in_X1_nextSeat rfl 19 dX1_gapBetween_16 rfl (k_X1_nextSeat hc _ 3) (by repeat (first | assumption | (refine rg_ne (by first | decide | omega) ?_) | apply rg_eq | refine rg_fr (by assumption) (by first | decide | (simp; omega)) ?_)) rfl rfl rfl ⟨(Nat.le_of_ble_eq_true rfl), (Nat.le_of_ble_eq_true rfl)⟩ (Nat.le_of_ble_eq_true rfl) ⟨(Nat.le_of_ble_eq_true rfl), (Nat.le_of_ble_eq_true rfl)⟩ ?_
  rintro _ _ ⟨rfl, rfl⟩
  refine a_iload 21 dX1_gapBetween_19 rfl rfl ?_
  refine a_icmp_ne 28 24 dX1_gapBetween_21 rfl (by decide) (fun c_21 => ?_) (fun c_21 => ?_)
  · refine a_aload_n 29 dX1_gapBetween_28 rfl rfl ?_
    refine a_iload_n 30 dX1_gapBetween_29 rfl rfl ?_
    refine a_iconst (1) 31 dX1_gapBetween_30 rfl (by decide) ?_
    refine a_callV ok_X1_nextSeat ln_X1_63 in_X1_nextSeat rfl 34 dX1_gapBetween_31 rfl (k_X1_nextSeat hc _ 1) (by repeat (first | assumption | (refine rg_ne (by first | decide | omega) ?_) | apply rg_eq | refine rg_fr (by assumption) (by first | decide | (simp; omega)) ?_)) rfl rfl rfl ⟨(Nat.le_of_ble_eq_true rfl), (Nat.le_of_ble_eq_true rfl)⟩ (Nat.le_of_ble_eq_true rfl) ⟨(Nat.le_of_ble_eq_true rfl), (Nat.le_of_ble_eq_true rfl)⟩ ?_
    rintro _ _ ⟨rfl, rfl⟩
    refine a_iload 36 dX1_gapBetween_34 rfl rfl ?_
    refine a_icmp_ne 47 39 dX1_gapBetween_36 rfl (by decide) (fun c_36 => ?_) (fun c_36 => ?_)
    · refine a_bipush (-9) 49 dX1_gapBetween_47 rfl (by decide) ?_
      exact a_ireturn dX1_gapBetween_49 rfl rfl (Nat.le_of_ble_eq_true rfl) (Nat.le_of_ble_eq_true rfl) ⟨rfl, by first | rw [gapW, if_neg c_21, if_pos c_36] | rw [gapW, if_neg c_21, if_neg c_36]⟩
    · refine a_iconst (2) 40 dX1_gapBetween_39 rfl (by decide) ?_
      refine a_iload_n 41 dX1_gapBetween_40 rfl rfl ?_
      refine a_imul 42 dX1_gapBetween_41 rfl ?_
      refine a_iconst (1) 43 dX1_gapBetween_42 rfl (by decide) ?_
      refine a_iadd 44 dX1_gapBetween_43 rfl ?_
      refine a_goto 49 dX1_gapBetween_44 (by decide) ?_
      exact a_ireturn dX1_gapBetween_49 rfl rfl (Nat.le_of_ble_eq_true rfl) (Nat.le_of_ble_eq_true rfl) ⟨rfl, by first | rw [gapW, if_neg c_21, if_pos c_36] | rw [gapW, if_neg c_21, if_neg c_36]⟩
  · refine a_iconst (2) 25 dX1_gapBetween_24 rfl (by decide) ?_
    refine a_iload_n 26 dX1_gapBetween_25 rfl rfl ?_
    refine a_imul 27 dX1_gapBetween_26 rfl ?_
    exact a_ireturn dX1_gapBetween_27 rfl rfl (Nat.le_of_ble_eq_true rfl) (Nat.le_of_ble_eq_true rfl) ⟨rfl, by rw [gapW, if_pos c_21]⟩
set_option maxRecDepth 100000 in
set_option maxHeartbeats 400000 in
theorem k_X1_hasBlind (hc : h[a]? = some (.inr (1, [.ref (gN G + cf), .ref (gN G + cs), .ref (gN G + cl), .ref (gN G + cb), .int w, .int n, .int m, .int bc]))) (hB : h[cb]? = some (.inl (gA G 1, 64, .inl B))) (g : Int32) : rM l G 0 mX1_hasBlind 0 0 [.ref (gN G + a), .int g] h (rV h (some (.int (if blW B g then 1 else 0)))) := by
  refine rM_start (by decide) (Nat.le_of_ble_eq_true rfl) ?_
  refine a_iload_n 1 dX1_hasBlind_0 rfl rfl ?_
  refine a_if_lt 26 4 dX1_hasBlind_1 rfl (by decide) (fun c_1 => ?_) (fun c_1 => ?_)
  · refine a_iconst (0) 27 dX1_hasBlind_26 rfl (by decide) ?_
    exact a_ireturn dX1_hasBlind_27 rfl rfl (Nat.le_of_ble_eq_true rfl) (Nat.le_of_ble_eq_true rfl) ⟨rfl, by rw [if_neg (fun q => Int32.not_lt.mpr q.1 c_1)]⟩
  · refine a_iload_n 5 dX1_hasBlind_4 rfl rfl ?_
    refine a_aload_n 6 dX1_hasBlind_5 rfl rfl ?_
    refine a_get fd_X1_21 rfl 9 dX1_hasBlind_6 rfl (by repeat (first | assumption | (refine rg_ne (by first | decide | omega) ?_) | apply rg_eq | refine rg_fr (by assumption) (by first | decide | (simp; omega)) ?_)) rfl ?_
    refine a_alen_1 10 dX1_hasBlind_9 rfl (by repeat (first | assumption | (refine rg_ne (by first | decide | omega) ?_) | apply rg_eq | refine rg_fr (by assumption) (by first | decide | (simp; omega)) ?_)) ?_
    refine a_icmp_ge 26 13 dX1_hasBlind_10 rfl (by decide) (fun c_10 => ?_) (fun c_10 => ?_)
    · refine a_iconst (0) 27 dX1_hasBlind_26 rfl (by decide) ?_
      exact a_ireturn dX1_hasBlind_27 rfl rfl (Nat.le_of_ble_eq_true rfl) (Nat.le_of_ble_eq_true rfl) ⟨rfl, by rw [if_neg (fun q => Int32.not_le.mpr q.2.1 c_10)]⟩
    · refine a_aload_n 14 dX1_hasBlind_13 rfl rfl ?_
      refine a_get fd_X1_21 rfl 17 dX1_hasBlind_14 rfl (by repeat (first | assumption | (refine rg_ne (by first | decide | omega) ?_) | apply rg_eq | refine rg_fr (by assumption) (by first | decide | (simp; omega)) ?_)) rfl ?_
      refine a_iload_n 18 dX1_hasBlind_17 rfl rfl ?_
      refine a_baload 19 dX1_hasBlind_18 rfl (by repeat (first | assumption | (refine rg_ne (by first | decide | omega) ?_) | apply rg_eq | refine rg_fr (by assumption) (by first | decide | (simp; omega)) ?_)) (vin_ge c_1 c_10 (by decide)) ?_
      refine a_if_eq 26 22 dX1_hasBlind_19 rfl (by decide) (fun c_19 => ?_) (fun c_19 => ?_)
      · refine a_iconst (0) 27 dX1_hasBlind_26 rfl (by decide) ?_
        exact a_ireturn dX1_hasBlind_27 rfl rfl (Nat.le_of_ble_eq_true rfl) (Nat.le_of_ble_eq_true rfl) ⟨rfl, by rw [if_neg (fun q => q.2.2 c_19)]⟩
      · refine a_iconst (1) 23 dX1_hasBlind_22 rfl (by decide) ?_
        refine a_goto 27 dX1_hasBlind_23 (by decide) ?_
        exact a_ireturn dX1_hasBlind_27 rfl rfl (Nat.le_of_ble_eq_true rfl) (Nat.le_of_ble_eq_true rfl) ⟨rfl, by rw [if_pos ⟨Int32.not_lt.mp c_1, Int32.not_le.mp c_10, c_19⟩]⟩
set_option maxRecDepth 100000 in
set_option maxHeartbeats 400000 in
theorem k_X1_lesserSeat (g : Int32) : rM l G 0 mX1_lesserSeat 0 0 [.ref (gN G + a), .int g] h (rV h (some (.int (g >>> (1 &&& 31))))) := by
  refine rM_start (by decide) (Nat.le_of_ble_eq_true rfl) ?_
  refine a_iload_n 1 dX1_lesserSeat_0 rfl rfl ?_
  refine a_iconst (1) 2 dX1_lesserSeat_1 rfl (by decide) ?_
  refine a_ishr 3 dX1_lesserSeat_2 rfl ?_
  exact a_ireturn dX1_lesserSeat_3 rfl rfl (Nat.le_of_ble_eq_true rfl) (Nat.le_of_ble_eq_true rfl) ⟨rfl, rfl⟩
set_option maxRecDepth 100000 in
set_option maxHeartbeats 400000 in
theorem k_X1_greaterSeat (hc : h[a]? = some (.inr (1, [.ref (gN G + cf), .ref (gN G + cs), .ref (gN G + cl), .ref (gN G + cb), .int w, .int n, .int m, .int bc]))) (g : Int32) : rM l G 0 mX1_greaterSeat 0 0 [.ref (gN G + a), .int g] h (rV h (some (.int (if g &&& 1 = 0 then (g >>> (1 &&& 31)) + 1 else (g >>> (1 &&& 31)) + w)))) := by
  refine rM_start (by decide) (Nat.le_of_ble_eq_true rfl) ?_
  refine a_iload_n 1 dX1_greaterSeat_0 rfl rfl ?_
  refine a_iconst (1) 2 dX1_greaterSeat_1 rfl (by decide) ?_
  refine a_iand 3 dX1_greaterSeat_2 rfl ?_
  refine a_if_ne 14 6 dX1_greaterSeat_3 rfl (by decide) (fun c_3 => ?_) (fun c_3 => ?_)
  · refine a_iload_n 15 dX1_greaterSeat_14 rfl rfl ?_
    refine a_iconst (1) 16 dX1_greaterSeat_15 rfl (by decide) ?_
    refine a_ishr 17 dX1_greaterSeat_16 rfl ?_
    refine a_aload_n 18 dX1_greaterSeat_17 rfl rfl ?_
    refine a_get fd_X1_31 rfl 21 dX1_greaterSeat_18 rfl (by repeat (first | assumption | (refine rg_ne (by first | decide | omega) ?_) | apply rg_eq | refine rg_fr (by assumption) (by first | decide | (simp; omega)) ?_)) rfl ?_
    refine a_iadd 22 dX1_greaterSeat_21 rfl ?_
    exact a_ireturn dX1_greaterSeat_22 rfl rfl (Nat.le_of_ble_eq_true rfl) (Nat.le_of_ble_eq_true rfl) ⟨rfl, by first | rw [if_pos c_3] | rw [if_neg c_3]⟩
  · refine a_iload_n 7 dX1_greaterSeat_6 rfl rfl ?_
    refine a_iconst (1) 8 dX1_greaterSeat_7 rfl (by decide) ?_
    refine a_ishr 9 dX1_greaterSeat_8 rfl ?_
    refine a_iconst (1) 10 dX1_greaterSeat_9 rfl (by decide) ?_
    refine a_iadd 11 dX1_greaterSeat_10 rfl ?_
    refine a_goto 22 dX1_greaterSeat_11 (by decide) ?_
    exact a_ireturn dX1_greaterSeat_22 rfl rfl (Nat.le_of_ble_eq_true rfl) (Nat.le_of_ble_eq_true rfl) ⟨rfl, by first | rw [if_pos c_3] | rw [if_neg c_3]⟩
set_option maxRecDepth 100000 in
set_option maxHeartbeats 400000 in
theorem k_X1_wayBack (hc : h[a]? = some (.inr (1, [.ref (gN G + cf), .ref (gN G + cs), .ref (gN G + cl), .ref (gN G + cb), .int w, .int n, .int m, .int bc]))) (hB : h[cb]? = some (.inl (gA G 1, 64, .inl B))) (e way : Int32) : rM l G 2 mX1_wayBack 0 0 [.ref (gN G + a), .int e, .int way] h (rV h (some (.int (wayW w n B way 32 (1 <<< (e &&& 31)) e)))) := by
  refine rM_start (by decide) (Nat.le_of_ble_eq_true rfl) ?_
  have L : ∀ (r j : Nat) (set here z : Int32) (o : Option Value) (W0 : Int32), j + r = 32 → z = nI j → wayW w n B way r set here = W0 → rW l G (rRm 2 0 0) mX1_wayBack (rZ G (rV h (some (.int W0))) 0 0) 0 0 10 [some (.ref (gN G + a)), some (.int e), some (.int way), some (.int set), some (.int here), some (.int z), o] [] h := by
    intro r
    induction r with
    | zero =>
      intro j set here z o W0 hj hz hW
      subst hz; subst hW
      refine a_iload 12 dX1_wayBack_10 rfl rfl ?_
      refine a_bipush (32) 14 dX1_wayBack_12 rfl (by decide) ?_
      refine a_icmp_ge 67 17 dX1_wayBack_14 rfl (by decide) (fun c_14 => ?_) (fun c_14 => absurd (nI_le (b := j) (a := 32) (by omega) (by omega)) c_14)
      refine a_iload_n 68 dX1_wayBack_67 rfl rfl ?_
      exact a_ireturn dX1_wayBack_68 rfl rfl (Nat.le_of_ble_eq_true rfl) (Nat.le_of_ble_eq_true rfl) ⟨rfl, rfl⟩
    | succ r ih =>
      intro j set here z o W0 hj hz hW
      subst hz; subst hW
      refine a_iload 12 dX1_wayBack_10 rfl rfl ?_
      refine a_bipush (32) 14 dX1_wayBack_12 rfl (by decide) ?_
      refine a_icmp_ge 67 17 dX1_wayBack_14 rfl (by decide) (fun c_14 => absurd c_14 (nI_ge (a := j) (b := 32) (by omega) (by omega))) (fun c_14 => ?_)
      refine a_aload_n 18 dX1_wayBack_17 rfl rfl ?_
      refine a_iload 20 dX1_wayBack_18 rfl rfl ?_
      refine a_iload_n 21 dX1_wayBack_20 rfl rfl ?_
      refine a_callV ok_X1_nextSeat ln_X1_63 in_X1_nextSeat rfl 24 dX1_wayBack_21 rfl (k_X1_nextSeat hc _ _) (by repeat (first | assumption | (refine rg_ne (by first | decide | omega) ?_) | apply rg_eq | refine rg_fr (by assumption) (by first | decide | (simp; omega)) ?_)) rfl rfl rfl ⟨(Nat.le_of_ble_eq_true rfl), (Nat.le_of_ble_eq_true rfl)⟩ (Nat.le_of_ble_eq_true rfl) ⟨(Nat.le_of_ble_eq_true rfl), (Nat.le_of_ble_eq_true rfl)⟩ ?_
      rintro _ _ ⟨rfl, rfl⟩
      refine a_istore 26 dX1_wayBack_24 rfl (by decide) ?_
      refine a_iload 28 dX1_wayBack_26 rfl rfl ?_
      refine a_bipush (-9) 30 dX1_wayBack_28 rfl (by decide) ?_
      refine a_icmp_eq 48 33 dX1_wayBack_30 rfl (by decide) (fun c_30 => ?_) (fun c_30 => ?_)
      · refine a_iload_n 49 dX1_wayBack_48 rfl rfl ?_
        exact a_ireturn dX1_wayBack_49 rfl rfl (Nat.le_of_ble_eq_true rfl) (Nat.le_of_ble_eq_true rfl) ⟨rfl, by first | rw [wayW, if_pos (Or.inl c_30)] | rw [wayW, if_pos (Or.inr (Decidable.not_not.mp (fun q => c_45 (if_neg q))))]⟩
      · refine a_aload_n 34 dX1_wayBack_33 rfl rfl ?_
        refine a_aload_n 35 dX1_wayBack_34 rfl rfl ?_
        refine a_iload 37 dX1_wayBack_35 rfl rfl ?_
        refine a_iload 39 dX1_wayBack_37 rfl rfl ?_
        refine a_callV ok_X1_gapBetween ln_X1_75 in_X1_gapBetween rfl 42 dX1_wayBack_39 rfl (k_X1_gapBetween hc _ _) (by repeat (first | assumption | (refine rg_ne (by first | decide | omega) ?_) | apply rg_eq | refine rg_fr (by assumption) (by first | decide | (simp; omega)) ?_)) rfl rfl rfl ⟨(Nat.le_of_ble_eq_true rfl), (Nat.le_of_ble_eq_true rfl)⟩ (Nat.le_of_ble_eq_true rfl) ⟨(Nat.le_of_ble_eq_true rfl), (Nat.le_of_ble_eq_true rfl)⟩ ?_
        rintro _ _ ⟨rfl, rfl⟩
        refine a_callV ok_X1_hasBlind ln_X1_78 in_X1_hasBlind rfl 45 dX1_wayBack_42 rfl (k_X1_hasBlind hc hB _) (by repeat (first | assumption | (refine rg_ne (by first | decide | omega) ?_) | apply rg_eq | refine rg_fr (by assumption) (by first | decide | (simp; omega)) ?_)) rfl rfl rfl ⟨(Nat.le_of_ble_eq_true rfl), (Nat.le_of_ble_eq_true rfl)⟩ (Nat.le_of_ble_eq_true rfl) ⟨(Nat.le_of_ble_eq_true rfl), (Nat.le_of_ble_eq_true rfl)⟩ ?_
        rintro _ _ ⟨rfl, rfl⟩
        refine a_if_eq 50 48 dX1_wayBack_45 rfl (by decide) (fun c_45 => ?_) (fun c_45 => ?_)
        · refine a_iload_n 51 dX1_wayBack_50 rfl rfl ?_
          refine a_iconst (1) 52 dX1_wayBack_51 rfl (by decide) ?_
          refine a_iload 54 dX1_wayBack_52 rfl rfl ?_
          refine a_ishl 55 dX1_wayBack_54 rfl ?_
          refine a_ior 56 dX1_wayBack_55 rfl ?_
          refine a_istore_n 57 dX1_wayBack_56 rfl (by decide) ?_
          refine a_iload 59 dX1_wayBack_57 rfl rfl ?_
          refine a_istore 61 dX1_wayBack_59 rfl (by decide) ?_
          refine a_iinc _ 64 dX1_wayBack_61 rfl rfl (by decide) rfl ?_
          refine a_goto 10 dX1_wayBack_64 (by decide) ?_
          exact ih (j + 1) _ _ _ _ _ (by omega) (nI_1 j) (by rw [wayW, if_neg (fun q => q.elim c_30 (b_eq0.mp c_45))])
        · refine a_iload_n 49 dX1_wayBack_48 rfl rfl ?_
          exact a_ireturn dX1_wayBack_49 rfl rfl (Nat.le_of_ble_eq_true rfl) (Nat.le_of_ble_eq_true rfl) ⟨rfl, by first | rw [wayW, if_pos (Or.inl c_30)] | rw [wayW, if_pos (Or.inr (Decidable.not_not.mp (fun q => c_45 (if_neg q))))]⟩
  refine a_iconst (1) 1 dX1_wayBack_0 rfl (by decide) ?_
  refine a_iload_n 2 dX1_wayBack_1 rfl rfl ?_
  refine a_ishl 3 dX1_wayBack_2 rfl ?_
  refine a_istore_n 4 dX1_wayBack_3 rfl (by decide) ?_
  refine a_iload_n 5 dX1_wayBack_4 rfl rfl ?_
  refine a_istore 7 dX1_wayBack_5 rfl (by decide) ?_
  refine a_iconst (0) 8 dX1_wayBack_7 rfl (by decide) ?_
  refine a_istore 10 dX1_wayBack_8 rfl (by decide) ?_
  exact L 32 0 _ _ _ _ _ (by omega) rfl rfl
set_option maxRecDepth 100000 in
set_option maxHeartbeats 400000 in
theorem k_X1_lineFrom (hc : h[a]? = some (.inr (1, [.ref (gN G + cf), .ref (gN G + cs), .ref (gN G + cl), .ref (gN G + cb), .int w, .int n, .int m, .int bc]))) (hB : h[cb]? = some (.inl (gA G 1, 64, .inl B))) (e way : Int32) : rM l G 3 mX1_lineFrom 0 0 [.ref (gN G + a), .int e, .int way] h (rV h (some (.int (lineW w n m B way 32 0 e)))) := by
  refine rM_start (by decide) (Nat.le_of_ble_eq_true rfl) ?_
  have L : ∀ (r j : Nat) (set here z : Int32) (o o7 : Option Value) (W0 : Int32), j + r = 32 → z = nI j → lineW w n m B way r set here = W0 → rW l G (rRm 3 0 0) mX1_lineFrom (rZ G (rV h (some (.int W0))) 0 0) 0 0 8 [some (.ref (gN G + a)), some (.int e), some (.int way), some (.int set), some (.int here), some (.int z), o, o7] [] h := by
    intro r
    induction r with
    | zero =>
      intro j set here z o o7 W0 hj hz hW
      subst hz; subst hW
      refine a_iload 10 dX1_lineFrom_8 rfl rfl ?_
      refine a_bipush (32) 12 dX1_lineFrom_10 rfl (by decide) ?_
      refine a_icmp_ge 115 15 dX1_lineFrom_12 rfl (by decide) (fun c_12 => ?_) (fun c_12 => absurd (nI_le (b := j) (a := 32) (by omega) (by omega)) c_12)
      refine a_iload_n 116 dX1_lineFrom_115 rfl rfl ?_
      exact a_ireturn dX1_lineFrom_116 rfl rfl (Nat.le_of_ble_eq_true rfl) (Nat.le_of_ble_eq_true rfl) ⟨rfl, rfl⟩
    | succ r ih =>
      intro j set here z o o7 W0 hj hz hW
      subst hz; subst hW
      refine a_iload 10 dX1_lineFrom_8 rfl rfl ?_
      refine a_bipush (32) 12 dX1_lineFrom_10 rfl (by decide) ?_
      refine a_icmp_ge 115 15 dX1_lineFrom_12 rfl (by decide) (fun c_12 => absurd c_12 (nI_ge (a := j) (b := 32) (by omega) (by omega))) (fun c_12 => ?_)
      refine a_aload_n 16 dX1_lineFrom_15 rfl rfl ?_
      refine a_iload 18 dX1_lineFrom_16 rfl rfl ?_
      refine a_iload_n 19 dX1_lineFrom_18 rfl rfl ?_
      refine a_callV ok_X1_nextSeat ln_X1_63 in_X1_nextSeat rfl 22 dX1_lineFrom_19 rfl (k_X1_nextSeat hc _ _) (by repeat (first | assumption | (refine rg_ne (by first | decide | omega) ?_) | apply rg_eq | refine rg_fr (by assumption) (by first | decide | (simp; omega)) ?_)) rfl rfl rfl ⟨(Nat.le_of_ble_eq_true rfl), (Nat.le_of_ble_eq_true rfl)⟩ (Nat.le_of_ble_eq_true rfl) ⟨(Nat.le_of_ble_eq_true rfl), (Nat.le_of_ble_eq_true rfl)⟩ ?_
      rintro _ _ ⟨rfl, rfl⟩
      refine a_istore 24 dX1_lineFrom_22 rfl (by decide) ?_
      refine a_iload 26 dX1_lineFrom_24 rfl rfl ?_
      refine a_bipush (-9) 28 dX1_lineFrom_26 rfl (by decide) ?_
      refine a_icmp_ne 81 31 dX1_lineFrom_28 rfl (by decide) (fun c_28 => ?_) (fun c_28 => ?_)
      · refine a_aload_n 82 dX1_lineFrom_81 rfl rfl ?_
        refine a_aload_n 83 dX1_lineFrom_82 rfl rfl ?_
        refine a_iload 85 dX1_lineFrom_83 rfl rfl ?_
        refine a_iload 87 dX1_lineFrom_85 rfl rfl ?_
        refine a_callV ok_X1_gapBetween ln_X1_75 in_X1_gapBetween rfl 90 dX1_lineFrom_87 rfl (k_X1_gapBetween hc _ _) (by repeat (first | assumption | (refine rg_ne (by first | decide | omega) ?_) | apply rg_eq | refine rg_fr (by assumption) (by first | decide | (simp; omega)) ?_)) rfl rfl rfl ⟨(Nat.le_of_ble_eq_true rfl), (Nat.le_of_ble_eq_true rfl)⟩ (Nat.le_of_ble_eq_true rfl) ⟨(Nat.le_of_ble_eq_true rfl), (Nat.le_of_ble_eq_true rfl)⟩ ?_
        rintro _ _ ⟨rfl, rfl⟩
        refine a_callV ok_X1_hasBlind ln_X1_78 in_X1_hasBlind rfl 93 dX1_lineFrom_90 rfl (k_X1_hasBlind hc hB _) (by repeat (first | assumption | (refine rg_ne (by first | decide | omega) ?_) | apply rg_eq | refine rg_fr (by assumption) (by first | decide | (simp; omega)) ?_)) rfl rfl rfl ⟨(Nat.le_of_ble_eq_true rfl), (Nat.le_of_ble_eq_true rfl)⟩ (Nat.le_of_ble_eq_true rfl) ⟨(Nat.le_of_ble_eq_true rfl), (Nat.le_of_ble_eq_true rfl)⟩ ?_
        rintro _ _ ⟨rfl, rfl⟩
        refine a_if_eq 98 96 dX1_lineFrom_93 rfl (by decide) (fun c_93 => ?_) (fun c_93 => ?_)
        · refine a_iload_n 99 dX1_lineFrom_98 rfl rfl ?_
          refine a_iconst (1) 100 dX1_lineFrom_99 rfl (by decide) ?_
          refine a_iload 102 dX1_lineFrom_100 rfl rfl ?_
          refine a_ishl 103 dX1_lineFrom_102 rfl ?_
          refine a_ior 104 dX1_lineFrom_103 rfl ?_
          refine a_istore_n 105 dX1_lineFrom_104 rfl (by decide) ?_
          refine a_iload 107 dX1_lineFrom_105 rfl rfl ?_
          refine a_istore 109 dX1_lineFrom_107 rfl (by decide) ?_
          refine a_iinc _ 112 dX1_lineFrom_109 rfl rfl (by decide) rfl ?_
          refine a_goto 8 dX1_lineFrom_112 (by decide) ?_
          exact ih (j + 1) _ _ _ _ _ _ (by omega) (nI_1 j) (by rw [lineW, if_neg c_28, if_neg (b_eq0.mp c_93)])
        · refine a_iload_n 97 dX1_lineFrom_96 rfl rfl ?_
          exact a_ireturn dX1_lineFrom_97 rfl rfl (Nat.le_of_ble_eq_true rfl) (Nat.le_of_ble_eq_true rfl) ⟨rfl, by rw [lineW, if_neg c_28, if_pos (Decidable.not_not.mp (fun q => c_93 (if_neg q)))]⟩
      · refine a_aload_n 32 dX1_lineFrom_31 rfl rfl ?_
        refine a_get fd_X1_40 rfl 35 dX1_lineFrom_32 rfl (by repeat (first | assumption | (refine rg_ne (by first | decide | omega) ?_) | apply rg_eq | refine rg_fr (by assumption) (by first | decide | (simp; omega)) ?_)) rfl ?_
        refine a_if_eq 51 38 dX1_lineFrom_35 rfl (by decide) (fun c_35 => ?_) (fun c_35 => ?_)
        · refine a_iconst (0) 52 dX1_lineFrom_51 rfl (by decide) ?_
          refine a_istore 54 dX1_lineFrom_52 rfl (by decide) ?_
          refine a_iload 56 dX1_lineFrom_54 rfl rfl ?_
          refine a_if_eq 79 59 dX1_lineFrom_56 rfl (by decide) (fun c_56 => ?_) (fun c_56 => ?_)
          · refine a_iload_n 80 dX1_lineFrom_79 rfl rfl ?_
            exact a_ireturn dX1_lineFrom_80 rfl rfl (Nat.le_of_ble_eq_true rfl) (Nat.le_of_ble_eq_true rfl) ⟨rfl, by rw [lineW, if_pos c_28]; simp_all⟩
          · refine a_iload_n 60 dX1_lineFrom_59 rfl rfl ?_
            refine a_aload_n 61 dX1_lineFrom_60 rfl rfl ?_
            refine a_iload 63 dX1_lineFrom_61 rfl rfl ?_
            refine a_iload_n 64 dX1_lineFrom_63 rfl rfl ?_
            refine a_if_ne 71 67 dX1_lineFrom_64 rfl (by decide) (fun c_64 => ?_) (fun c_64 => ?_)
            · refine a_iconst (0) 72 dX1_lineFrom_71 rfl (by decide) ?_
              refine a_callV ok_X1_wayBack ln_X1_72 in_X1_wayBack rfl 75 dX1_lineFrom_72 rfl (k_X1_wayBack hc hB _ _) (by repeat (first | assumption | (refine rg_ne (by first | decide | omega) ?_) | apply rg_eq | refine rg_fr (by assumption) (by first | decide | (simp; omega)) ?_)) rfl rfl rfl ⟨(Nat.le_of_ble_eq_true rfl), (Nat.le_of_ble_eq_true rfl)⟩ (Nat.le_of_ble_eq_true rfl) ⟨(Nat.le_of_ble_eq_true rfl), (Nat.le_of_ble_eq_true rfl)⟩ ?_
              rintro _ _ ⟨rfl, rfl⟩
              refine a_ior 76 dX1_lineFrom_75 rfl ?_
              refine a_goto 80 dX1_lineFrom_76 (by decide) ?_
              exact a_ireturn dX1_lineFrom_80 rfl rfl (Nat.le_of_ble_eq_true rfl) (Nat.le_of_ble_eq_true rfl) ⟨rfl, by rw [lineW, if_pos c_28]; simp_all⟩
            · refine a_iconst (1) 68 dX1_lineFrom_67 rfl (by decide) ?_
              refine a_goto 72 dX1_lineFrom_68 (by decide) ?_
              refine a_callV ok_X1_wayBack ln_X1_72 in_X1_wayBack rfl 75 dX1_lineFrom_72 rfl (k_X1_wayBack hc hB _ _) (by repeat (first | assumption | (refine rg_ne (by first | decide | omega) ?_) | apply rg_eq | refine rg_fr (by assumption) (by first | decide | (simp; omega)) ?_)) rfl rfl rfl ⟨(Nat.le_of_ble_eq_true rfl), (Nat.le_of_ble_eq_true rfl)⟩ (Nat.le_of_ble_eq_true rfl) ⟨(Nat.le_of_ble_eq_true rfl), (Nat.le_of_ble_eq_true rfl)⟩ ?_
              rintro _ _ ⟨rfl, rfl⟩
              refine a_ior 76 dX1_lineFrom_75 rfl ?_
              refine a_goto 80 dX1_lineFrom_76 (by decide) ?_
              exact a_ireturn dX1_lineFrom_80 rfl rfl (Nat.le_of_ble_eq_true rfl) (Nat.le_of_ble_eq_true rfl) ⟨rfl, by rw [lineW, if_pos c_28]; simp_all⟩
        · refine a_iload_n 39 dX1_lineFrom_38 rfl rfl ?_
          refine a_if_eq 47 42 dX1_lineFrom_39 rfl (by decide) (fun c_39 => ?_) (fun c_39 => ?_)
          · refine a_iconst (1) 48 dX1_lineFrom_47 rfl (by decide) ?_
            refine a_goto 52 dX1_lineFrom_48 (by decide) ?_
            refine a_istore 54 dX1_lineFrom_52 rfl (by decide) ?_
            refine a_iload 56 dX1_lineFrom_54 rfl rfl ?_
            refine a_if_eq 79 59 dX1_lineFrom_56 rfl (by decide) (fun c_56 => ?_) (fun c_56 => ?_)
            · refine a_iload_n 80 dX1_lineFrom_79 rfl rfl ?_
              exact a_ireturn dX1_lineFrom_80 rfl rfl (Nat.le_of_ble_eq_true rfl) (Nat.le_of_ble_eq_true rfl) ⟨rfl, by rw [lineW, if_pos c_28]; simp_all⟩
            · refine a_iload_n 60 dX1_lineFrom_59 rfl rfl ?_
              refine a_aload_n 61 dX1_lineFrom_60 rfl rfl ?_
              refine a_iload 63 dX1_lineFrom_61 rfl rfl ?_
              refine a_iload_n 64 dX1_lineFrom_63 rfl rfl ?_
              refine a_if_ne 71 67 dX1_lineFrom_64 rfl (by decide) (fun c_64 => ?_) (fun c_64 => ?_)
              · refine a_iconst (0) 72 dX1_lineFrom_71 rfl (by decide) ?_
                refine a_callV ok_X1_wayBack ln_X1_72 in_X1_wayBack rfl 75 dX1_lineFrom_72 rfl (k_X1_wayBack hc hB _ _) (by repeat (first | assumption | (refine rg_ne (by first | decide | omega) ?_) | apply rg_eq | refine rg_fr (by assumption) (by first | decide | (simp; omega)) ?_)) rfl rfl rfl ⟨(Nat.le_of_ble_eq_true rfl), (Nat.le_of_ble_eq_true rfl)⟩ (Nat.le_of_ble_eq_true rfl) ⟨(Nat.le_of_ble_eq_true rfl), (Nat.le_of_ble_eq_true rfl)⟩ ?_
                rintro _ _ ⟨rfl, rfl⟩
                refine a_ior 76 dX1_lineFrom_75 rfl ?_
                refine a_goto 80 dX1_lineFrom_76 (by decide) ?_
                exact a_ireturn dX1_lineFrom_80 rfl rfl (Nat.le_of_ble_eq_true rfl) (Nat.le_of_ble_eq_true rfl) ⟨rfl, by rw [lineW, if_pos c_28]; simp_all⟩
              · refine a_iconst (1) 68 dX1_lineFrom_67 rfl (by decide) ?_
                refine a_goto 72 dX1_lineFrom_68 (by decide) ?_
                refine a_callV ok_X1_wayBack ln_X1_72 in_X1_wayBack rfl 75 dX1_lineFrom_72 rfl (k_X1_wayBack hc hB _ _) (by repeat (first | assumption | (refine rg_ne (by first | decide | omega) ?_) | apply rg_eq | refine rg_fr (by assumption) (by first | decide | (simp; omega)) ?_)) rfl rfl rfl ⟨(Nat.le_of_ble_eq_true rfl), (Nat.le_of_ble_eq_true rfl)⟩ (Nat.le_of_ble_eq_true rfl) ⟨(Nat.le_of_ble_eq_true rfl), (Nat.le_of_ble_eq_true rfl)⟩ ?_
                rintro _ _ ⟨rfl, rfl⟩
                refine a_ior 76 dX1_lineFrom_75 rfl ?_
                refine a_goto 80 dX1_lineFrom_76 (by decide) ?_
                exact a_ireturn dX1_lineFrom_80 rfl rfl (Nat.le_of_ble_eq_true rfl) (Nat.le_of_ble_eq_true rfl) ⟨rfl, by rw [lineW, if_pos c_28]; simp_all⟩
          · refine a_iload_n 43 dX1_lineFrom_42 rfl rfl ?_
            refine a_iconst (1) 44 dX1_lineFrom_43 rfl (by decide) ?_
            refine a_icmp_ne 51 47 dX1_lineFrom_44 rfl (by decide) (fun c_44 => ?_) (fun c_44 => ?_)
            · refine a_iconst (0) 52 dX1_lineFrom_51 rfl (by decide) ?_
              refine a_istore 54 dX1_lineFrom_52 rfl (by decide) ?_
              refine a_iload 56 dX1_lineFrom_54 rfl rfl ?_
              refine a_if_eq 79 59 dX1_lineFrom_56 rfl (by decide) (fun c_56 => ?_) (fun c_56 => ?_)
              · refine a_iload_n 80 dX1_lineFrom_79 rfl rfl ?_
                exact a_ireturn dX1_lineFrom_80 rfl rfl (Nat.le_of_ble_eq_true rfl) (Nat.le_of_ble_eq_true rfl) ⟨rfl, by rw [lineW, if_pos c_28]; simp_all⟩
              · refine a_iload_n 60 dX1_lineFrom_59 rfl rfl ?_
                refine a_aload_n 61 dX1_lineFrom_60 rfl rfl ?_
                refine a_iload 63 dX1_lineFrom_61 rfl rfl ?_
                refine a_iload_n 64 dX1_lineFrom_63 rfl rfl ?_
                refine a_if_ne 71 67 dX1_lineFrom_64 rfl (by decide) (fun c_64 => ?_) (fun c_64 => ?_)
                · refine a_iconst (0) 72 dX1_lineFrom_71 rfl (by decide) ?_
                  refine a_callV ok_X1_wayBack ln_X1_72 in_X1_wayBack rfl 75 dX1_lineFrom_72 rfl (k_X1_wayBack hc hB _ _) (by repeat (first | assumption | (refine rg_ne (by first | decide | omega) ?_) | apply rg_eq | refine rg_fr (by assumption) (by first | decide | (simp; omega)) ?_)) rfl rfl rfl ⟨(Nat.le_of_ble_eq_true rfl), (Nat.le_of_ble_eq_true rfl)⟩ (Nat.le_of_ble_eq_true rfl) ⟨(Nat.le_of_ble_eq_true rfl), (Nat.le_of_ble_eq_true rfl)⟩ ?_
                  rintro _ _ ⟨rfl, rfl⟩
                  refine a_ior 76 dX1_lineFrom_75 rfl ?_
                  refine a_goto 80 dX1_lineFrom_76 (by decide) ?_
                  exact a_ireturn dX1_lineFrom_80 rfl rfl (Nat.le_of_ble_eq_true rfl) (Nat.le_of_ble_eq_true rfl) ⟨rfl, by rw [lineW, if_pos c_28]; simp_all⟩
                · refine a_iconst (1) 68 dX1_lineFrom_67 rfl (by decide) ?_
                  refine a_goto 72 dX1_lineFrom_68 (by decide) ?_
                  refine a_callV ok_X1_wayBack ln_X1_72 in_X1_wayBack rfl 75 dX1_lineFrom_72 rfl (k_X1_wayBack hc hB _ _) (by repeat (first | assumption | (refine rg_ne (by first | decide | omega) ?_) | apply rg_eq | refine rg_fr (by assumption) (by first | decide | (simp; omega)) ?_)) rfl rfl rfl ⟨(Nat.le_of_ble_eq_true rfl), (Nat.le_of_ble_eq_true rfl)⟩ (Nat.le_of_ble_eq_true rfl) ⟨(Nat.le_of_ble_eq_true rfl), (Nat.le_of_ble_eq_true rfl)⟩ ?_
                  rintro _ _ ⟨rfl, rfl⟩
                  refine a_ior 76 dX1_lineFrom_75 rfl ?_
                  refine a_goto 80 dX1_lineFrom_76 (by decide) ?_
                  exact a_ireturn dX1_lineFrom_80 rfl rfl (Nat.le_of_ble_eq_true rfl) (Nat.le_of_ble_eq_true rfl) ⟨rfl, by rw [lineW, if_pos c_28]; simp_all⟩
            · refine a_iconst (1) 48 dX1_lineFrom_47 rfl (by decide) ?_
              refine a_goto 52 dX1_lineFrom_48 (by decide) ?_
              refine a_istore 54 dX1_lineFrom_52 rfl (by decide) ?_
              refine a_iload 56 dX1_lineFrom_54 rfl rfl ?_
              refine a_if_eq 79 59 dX1_lineFrom_56 rfl (by decide) (fun c_56 => ?_) (fun c_56 => ?_)
              · refine a_iload_n 80 dX1_lineFrom_79 rfl rfl ?_
                exact a_ireturn dX1_lineFrom_80 rfl rfl (Nat.le_of_ble_eq_true rfl) (Nat.le_of_ble_eq_true rfl) ⟨rfl, by rw [lineW, if_pos c_28]; simp_all⟩
              · refine a_iload_n 60 dX1_lineFrom_59 rfl rfl ?_
                refine a_aload_n 61 dX1_lineFrom_60 rfl rfl ?_
                refine a_iload 63 dX1_lineFrom_61 rfl rfl ?_
                refine a_iload_n 64 dX1_lineFrom_63 rfl rfl ?_
                refine a_if_ne 71 67 dX1_lineFrom_64 rfl (by decide) (fun c_64 => ?_) (fun c_64 => ?_)
                · refine a_iconst (0) 72 dX1_lineFrom_71 rfl (by decide) ?_
                  refine a_callV ok_X1_wayBack ln_X1_72 in_X1_wayBack rfl 75 dX1_lineFrom_72 rfl (k_X1_wayBack hc hB _ _) (by repeat (first | assumption | (refine rg_ne (by first | decide | omega) ?_) | apply rg_eq | refine rg_fr (by assumption) (by first | decide | (simp; omega)) ?_)) rfl rfl rfl ⟨(Nat.le_of_ble_eq_true rfl), (Nat.le_of_ble_eq_true rfl)⟩ (Nat.le_of_ble_eq_true rfl) ⟨(Nat.le_of_ble_eq_true rfl), (Nat.le_of_ble_eq_true rfl)⟩ ?_
                  rintro _ _ ⟨rfl, rfl⟩
                  refine a_ior 76 dX1_lineFrom_75 rfl ?_
                  refine a_goto 80 dX1_lineFrom_76 (by decide) ?_
                  exact a_ireturn dX1_lineFrom_80 rfl rfl (Nat.le_of_ble_eq_true rfl) (Nat.le_of_ble_eq_true rfl) ⟨rfl, by rw [lineW, if_pos c_28]; simp_all⟩
                · refine a_iconst (1) 68 dX1_lineFrom_67 rfl (by decide) ?_
                  refine a_goto 72 dX1_lineFrom_68 (by decide) ?_
                  refine a_callV ok_X1_wayBack ln_X1_72 in_X1_wayBack rfl 75 dX1_lineFrom_72 rfl (k_X1_wayBack hc hB _ _) (by repeat (first | assumption | (refine rg_ne (by first | decide | omega) ?_) | apply rg_eq | refine rg_fr (by assumption) (by first | decide | (simp; omega)) ?_)) rfl rfl rfl ⟨(Nat.le_of_ble_eq_true rfl), (Nat.le_of_ble_eq_true rfl)⟩ (Nat.le_of_ble_eq_true rfl) ⟨(Nat.le_of_ble_eq_true rfl), (Nat.le_of_ble_eq_true rfl)⟩ ?_
                  rintro _ _ ⟨rfl, rfl⟩
                  refine a_ior 76 dX1_lineFrom_75 rfl ?_
                  refine a_goto 80 dX1_lineFrom_76 (by decide) ?_
                  exact a_ireturn dX1_lineFrom_80 rfl rfl (Nat.le_of_ble_eq_true rfl) (Nat.le_of_ble_eq_true rfl) ⟨rfl, by rw [lineW, if_pos c_28]; simp_all⟩
  refine a_iconst (0) 1 dX1_lineFrom_0 rfl (by decide) ?_
  refine a_istore_n 2 dX1_lineFrom_1 rfl (by decide) ?_
  refine a_iload_n 3 dX1_lineFrom_2 rfl rfl ?_
  refine a_istore 5 dX1_lineFrom_3 rfl (by decide) ?_
  refine a_iconst (0) 6 dX1_lineFrom_5 rfl (by decide) ?_
  refine a_istore 8 dX1_lineFrom_6 rfl (by decide) ?_
  exact L 32 0 _ _ _ _ _ _ (by omega) rfl rfl
end CARR
