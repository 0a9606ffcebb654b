/-! THE CLASS'S OBJECT at 0; LAWS (numbers at cb), ONES -/
abbrev ytc (G : rG) (on lc lf mk : Int32) : va_E := .inr (10, [.ref (gN G + 1), .ref (gN G + 2), .ref (gN G + 4), .ref (gN G + 7), .ref (gN G + 12), .ref (gN G + 13), .ref (gN G + 14), .ref (gN G + 17), .ref (gN G + 25), .ref (gN G + 26), .ref (gN G + 27), .ref (gN G + 28), .ref (gN G + 29), .int on, .int lc, .int lf, .int mk])
/-- a one of class ci (7 a person, 3 a child, 4 a dog) -/
abbrev pc (ci : Nat) (nu sl ki se : Int32) : va_E := .inr (ci, [.int nu, .int sl, .int ki, .int se])
section PERSONS
variable {l : Launch} {G : rG} {h : rH} {a b cb : Nat} {on lc lf mk nu sl ki se : Int32} {f : Nat → Int32}
set_option maxRecDepth 100000 in
set_option maxHeartbeats 400000 in
theorem k_X5_number (hc : h[b]? = some (.inr (5, [.ref (gN G + cb)]))) (hf : h[cb]? = some (.inl (gA G 0, 7, .inl f))) (c : Int32) : rM l G 0 mX5_number 0 0 [.ref (gN G + b), .int c] h (rV h (some (.int (if 0 ≤ c ∧ c < 7 then f c.toNatClampNeg else 0)))) := by
  refine rM_start (by decide) (Nat.le_of_ble_eq_true rfl) ?_
  refine a_iload_n 1 dX5_number_0 rfl rfl ?_
  refine a_if_lt 22 4 dX5_number_1 rfl (by decide) (fun c_1 => ?_) (fun c_1 => ?_)
  · refine a_iconst (0) 23 dX5_number_22 rfl (by decide) ?_
    exact a_ireturn dX5_number_23 rfl rfl (Nat.le_of_ble_eq_true rfl) (Nat.le_of_ble_eq_true rfl) ⟨rfl, by simp only [i_lt, i_le, Int32.reduceToInt, Int32.reduceOfNat] at *; first | rw [if_pos (by omega)] | rw [if_neg (by omega)]⟩
  · refine a_iload_n 5 dX5_number_4 rfl rfl ?_
    refine a_aload_n 6 dX5_number_5 rfl rfl ?_
    refine a_get fd_X5_9 rfl 9 dX5_number_6 rfl (by repeat (first | assumption | (refine rg_ne (by first | decide | omega) ?_) | apply rg_eq | refine rg_fr (by assumption) (by first | decide | (simp; omega)) ?_)) rfl ?_
    refine a_alen_0 10 dX5_number_9 rfl (by repeat (first | assumption | (refine rg_ne (by first | decide | omega) ?_) | apply rg_eq | refine rg_fr (by assumption) (by first | decide | (simp; omega)) ?_)) ?_
    refine a_icmp_ge 22 13 dX5_number_10 rfl (by decide) (fun c_10 => ?_) (fun c_10 => ?_)
    · refine a_iconst (0) 23 dX5_number_22 rfl (by decide) ?_
      exact a_ireturn dX5_number_23 rfl rfl (Nat.le_of_ble_eq_true rfl) (Nat.le_of_ble_eq_true rfl) ⟨rfl, by simp only [i_lt, i_le, Int32.reduceToInt, Int32.reduceOfNat] at *; first | rw [if_pos (by omega)] | rw [if_neg (by omega)]⟩
    · refine a_aload_n 14 dX5_number_13 rfl rfl ?_
      refine a_get fd_X5_9 rfl 17 dX5_number_14 rfl (by repeat (first | assumption | (refine rg_ne (by first | decide | omega) ?_) | apply rg_eq | refine rg_fr (by assumption) (by first | decide | (simp; omega)) ?_)) rfl ?_
      refine a_iload_n 18 dX5_number_17 rfl rfl ?_
      refine a_iaload 19 dX5_number_18 rfl (by repeat (first | assumption | (refine rg_ne (by first | decide | omega) ?_) | apply rg_eq | refine rg_fr (by assumption) (by first | decide | (simp; omega)) ?_)) (vin_ge c_1 c_10 (by decide)) ?_
      refine a_goto 23 dX5_number_19 (by decide) ?_
      exact a_ireturn dX5_number_23 rfl rfl (Nat.le_of_ble_eq_true rfl) (Nat.le_of_ble_eq_true rfl) ⟨rfl, by simp only [i_lt, i_le, Int32.reduceToInt, Int32.reduceOfNat] at *; first | rw [if_pos (by omega)] | rw [if_neg (by omega)]⟩
theorem k_X5_num (hc : h[b]? = some (.inr (5, [.ref (gN G + cb)]))) (hf : h[cb]? = some (.inl (gA G 0, 7, .inl f))) (j : Nat) (hj : j < 7) : rM l G 0 mX5_number 0 0 [.ref (gN G + b), .int (nI j)] h (rV h (some (.int (f j)))) := by
  have h0 := k_X5_number (l := l) hc hf (nI j)
  rw [if_pos ⟨nI_pos' (by omega), nI_lt (b := 7) (by omega) (by omega)⟩, nI_clamp (by omega)] at h0
  exact h0
set_option maxRecDepth 100000 in
set_option maxHeartbeats 400000 in
theorem k_X5_allows (hc : h[b]? = some (.inr (5, [.ref (gN G + cb)]))) (hf : h[cb]? = some (.inl (gA G 0, 7, .inl f))) (x : Int32) : rM l G 1 mX5_allows 0 0 [.ref (gN G + b), .int x] h (rV h (some (.int (if f 5 ≤ x ∧ x ≤ f 6 then 1 else 0)))) := by
  refine rM_start (by decide) (Nat.le_of_ble_eq_true rfl) ?_
  refine a_iload_n 1 dX5_allows_0 rfl rfl ?_
  refine a_aload_n 2 dX5_allows_1 rfl rfl ?_
  refine a_iconst (5) 3 dX5_allows_2 rfl (by decide) ?_
  refine a_callV ok_X5_number ln_X5_21 in_X5_number rfl 6 dX5_allows_3 rfl (k_X5_num hc hf 5 (by decide)) (by repeat (first | assumption | (refine rg_ne (by first | decide | omega) ?_) | apply rg_eq | refine rg_fr (by assumption) (by first | decide | (simp; omega)) ?_)) rfl rfl rfl ⟨(Nat.le_of_ble_eq_true rfl), (Nat.le_of_ble_eq_true rfl)⟩ (Nat.le_of_ble_eq_true rfl) ⟨(Nat.le_of_ble_eq_true rfl), (Nat.le_of_ble_eq_true rfl)⟩ ?_
  rintro _ _ ⟨rfl, rfl⟩
  refine a_icmp_lt 23 9 dX5_allows_6 rfl (by decide) (fun c_6 => ?_) (fun c_6 => ?_)
  · refine a_iconst (0) 24 dX5_allows_23 rfl (by decide) ?_
    exact a_ireturn dX5_allows_24 rfl rfl (Nat.le_of_ble_eq_true rfl) (Nat.le_of_ble_eq_true rfl) ⟨rfl, by rw [if_neg (fun q => Int32.not_le.mpr c_6 q.1)]⟩
  · refine a_iload_n 10 dX5_allows_9 rfl rfl ?_
    refine a_aload_n 11 dX5_allows_10 rfl rfl ?_
    refine a_bipush (6) 13 dX5_allows_11 rfl (by decide) ?_
    refine a_callV ok_X5_number ln_X5_21 in_X5_number rfl 16 dX5_allows_13 rfl (k_X5_num hc hf 6 (by decide)) (by repeat (first | assumption | (refine rg_ne (by first | decide | omega) ?_) | apply rg_eq | refine rg_fr (by assumption) (by first | decide | (simp; omega)) ?_)) rfl rfl rfl ⟨(Nat.le_of_ble_eq_true rfl), (Nat.le_of_ble_eq_true rfl)⟩ (Nat.le_of_ble_eq_true rfl) ⟨(Nat.le_of_ble_eq_true rfl), (Nat.le_of_ble_eq_true rfl)⟩ ?_
    rintro _ _ ⟨rfl, rfl⟩
    refine a_icmp_gt 23 19 dX5_allows_16 rfl (by decide) (fun c_16 => ?_) (fun c_16 => ?_)
    · refine a_iconst (0) 24 dX5_allows_23 rfl (by decide) ?_
      exact a_ireturn dX5_allows_24 rfl rfl (Nat.le_of_ble_eq_true rfl) (Nat.le_of_ble_eq_true rfl) ⟨rfl, by rw [if_neg (fun q => Int32.not_le.mpr c_16 q.2)]⟩
    · refine a_iconst (1) 20 dX5_allows_19 rfl (by decide) ?_
      refine a_goto 24 dX5_allows_20 (by decide) ?_
      exact a_ireturn dX5_allows_24 rfl rfl (Nat.le_of_ble_eq_true rfl) (Nat.le_of_ble_eq_true rfl) ⟨rfl, by rw [if_pos ⟨Int32.not_lt.mp c_6, Int32.not_lt.mp c_16⟩]⟩
set_option maxRecDepth 100000 in
set_option maxHeartbeats 400000 in
theorem k_X11_leave (hy : h[0]? = some (ytc G on lc lf mk)) (x : Int32) : rM l G 0 mX11_leave 0 0 [.ref (gN G + 0), .int x] h (fun h' v => v = none ∧ h'[0]? = some (ytc G on lc lf (31 * mk + x)) ∧ fr h h' [0]) := by
  refine rM_start (by decide) (Nat.le_of_ble_eq_true rfl) ?_
  refine a_aload_n 1 dX11_leave_0 rfl rfl ?_
  refine a_bipush (31) 3 dX11_leave_1 rfl (by decide) ?_
  refine a_aload_n 4 dX11_leave_3 rfl rfl ?_
  refine a_get fd_X11_362 rfl 7 dX11_leave_4 rfl (by repeat (first | assumption | (refine rg_ne (by first | decide | omega) ?_) | apply rg_eq | refine rg_fr (by assumption) (by first | decide | (simp; omega)) ?_)) rfl ?_
  refine a_imul 8 dX11_leave_7 rfl ?_
  refine a_iload_n 9 dX11_leave_8 rfl rfl ?_
  refine a_iadd 10 dX11_leave_9 rfl ?_
  refine a_put fd_X11_362 cl_X11 rfl 13 dX11_leave_10 rfl (by repeat (first | assumption | (refine rg_ne (by first | decide | omega) ?_) | apply rg_eq | refine rg_fr (by assumption) (by first | decide | (simp; omega)) ?_)) (Nat.le_of_ble_eq_true rfl) rfl rfl rfl ?_
  exact a_return dX11_leave_13 rfl (Nat.le_of_ble_eq_true rfl) (Nat.le_of_ble_eq_true rfl) ⟨rfl, (by repeat (first | assumption | (refine rg_ne (by first | decide | omega) ?_) | apply rg_eq | refine rg_fr (by assumption) (by first | decide | (simp; omega)) ?_)), (by repeat (first | exact fr_refl _ _ | assumption | refine fr_set ?_ (by decide) | refine fr_trans (by assumption) ?_ (by decide)))⟩
set_option maxRecDepth 100000 in
set_option maxHeartbeats 400000 in
theorem k_X7_kind : rM l G 0 mX7_kind 0 0 [.ref (gN G + a)] h (rV h (some (.int 0))) := by
  refine rM_start (by decide) (Nat.le_of_ble_eq_true rfl) ?_
  refine a_iconst (0) 1 dX7_kind_0 rfl (by decide) ?_
  exact a_ireturn dX7_kind_1 rfl rfl (Nat.le_of_ble_eq_true rfl) (Nat.le_of_ble_eq_true rfl) ⟨rfl, rfl⟩
set_option maxRecDepth 100000 in
set_option maxHeartbeats 400000 in
theorem k_X3_kind : rM l G 0 mX3_kind 0 0 [.ref (gN G + a)] h (rV h (some (.int 1))) := by
  refine rM_start (by decide) (Nat.le_of_ble_eq_true rfl) ?_
  refine a_iconst (1) 1 dX3_kind_0 rfl (by decide) ?_
  exact a_ireturn dX3_kind_1 rfl rfl (Nat.le_of_ble_eq_true rfl) (Nat.le_of_ble_eq_true rfl) ⟨rfl, rfl⟩
set_option maxRecDepth 100000 in
set_option maxHeartbeats 400000 in
theorem k_X4_kind : rM l G 0 mX4_kind 0 0 [.ref (gN G + a)] h (rV h (some (.int 2))) := by
  refine rM_start (by decide) (Nat.le_of_ble_eq_true rfl) ?_
  refine a_iconst (2) 1 dX4_kind_0 rfl (by decide) ?_
  exact a_ireturn dX4_kind_1 rfl rfl (Nat.le_of_ble_eq_true rfl) (Nat.le_of_ble_eq_true rfl) ⟨rfl, rfl⟩
set_option maxRecDepth 100000 in
set_option maxHeartbeats 400000 in
theorem k_X7_tired_7 (hc : h[a]? = some (pc 7 nu sl ki se)) : rM l G 0 mX7_tired 0 0 [.ref (gN G + a)] h (rV h (some (.int (9 - sl)))) := by
  refine rM_start (by decide) (Nat.le_of_ble_eq_true rfl) ?_
  refine a_bipush (9) 2 dX7_tired_0 rfl (by decide) ?_
  refine a_aload_n 3 dX7_tired_2 rfl rfl ?_
  refine a_get fd_X7_13_X7 rfl 6 dX7_tired_3 rfl (by repeat (first | assumption | (refine rg_ne (by first | decide | omega) ?_) | apply rg_eq | refine rg_fr (by assumption) (by first | decide | (simp; omega)) ?_)) rfl ?_
  refine a_isub 7 dX7_tired_6 rfl ?_
  exact a_ireturn dX7_tired_7 rfl rfl (Nat.le_of_ble_eq_true rfl) (Nat.le_of_ble_eq_true rfl) ⟨rfl, rfl⟩
set_option maxRecDepth 100000 in
set_option maxHeartbeats 400000 in
theorem k_X7_tired_3 (hc : h[a]? = some (pc 3 nu sl ki se)) : rM l G 0 mX7_tired 0 0 [.ref (gN G + a)] h (rV h (some (.int (9 - sl)))) := by
  refine rM_start (by decide) (Nat.le_of_ble_eq_true rfl) ?_
  refine a_bipush (9) 2 dX7_tired_0 rfl (by decide) ?_
  refine a_aload_n 3 dX7_tired_2 rfl rfl ?_
  refine a_get fd_X7_13_X3 rfl 6 dX7_tired_3 rfl (by repeat (first | assumption | (refine rg_ne (by first | decide | omega) ?_) | apply rg_eq | refine rg_fr (by assumption) (by first | decide | (simp; omega)) ?_)) rfl ?_
  refine a_isub 7 dX7_tired_6 rfl ?_
  exact a_ireturn dX7_tired_7 rfl rfl (Nat.le_of_ble_eq_true rfl) (Nat.le_of_ble_eq_true rfl) ⟨rfl, rfl⟩
set_option maxRecDepth 100000 in
set_option maxHeartbeats 400000 in
theorem k_X7_tired_4 (hc : h[a]? = some (pc 4 nu sl ki se)) : rM l G 0 mX7_tired 0 0 [.ref (gN G + a)] h (rV h (some (.int (9 - sl)))) := by
  refine rM_start (by decide) (Nat.le_of_ble_eq_true rfl) ?_
  refine a_bipush (9) 2 dX7_tired_0 rfl (by decide) ?_
  refine a_aload_n 3 dX7_tired_2 rfl rfl ?_
  refine a_get fd_X7_13_X4 rfl 6 dX7_tired_3 rfl (by repeat (first | assumption | (refine rg_ne (by first | decide | omega) ?_) | apply rg_eq | refine rg_fr (by assumption) (by first | decide | (simp; omega)) ?_)) rfl ?_
  refine a_isub 7 dX7_tired_6 rfl ?_
  exact a_ireturn dX7_tired_7 rfl rfl (Nat.le_of_ble_eq_true rfl) (Nat.le_of_ble_eq_true rfl) ⟨rfl, rfl⟩
set_option maxRecDepth 100000 in
set_option maxHeartbeats 400000 in
theorem k_X7_takes (w : Value) (s k : Int32) : rM l G 0 mX7_takes 0 0 [.ref (gN G + a), .ref (gN G + b), .int s, .int k] h (rV h (some (.int s))) := by
  refine rM_start (by decide) (Nat.le_of_ble_eq_true rfl) ?_
  refine a_iload_n 1 dX7_takes_0 rfl rfl ?_
  exact a_ireturn dX7_takes_1 rfl rfl (Nat.le_of_ble_eq_true rfl) (Nat.le_of_ble_eq_true rfl) ⟨rfl, rfl⟩
set_option maxRecDepth 100000 in
set_option maxHeartbeats 400000 in
theorem k_X7_takesOwn (s : Int32) : rM l G 0 mX7_takesOwn 0 0 [.ref (gN G + a), .ref (gN G + b), .int s] h (rV h (some (.int s))) := by
  refine rM_start (by decide) (Nat.le_of_ble_eq_true rfl) ?_
  refine a_iload_n 1 dX7_takesOwn_0 rfl rfl ?_
  exact a_ireturn dX7_takesOwn_1 rfl rfl (Nat.le_of_ble_eq_true rfl) (Nat.le_of_ble_eq_true rfl) ⟨rfl, rfl⟩
set_option maxRecDepth 100000 in
set_option maxHeartbeats 400000 in
theorem k_X3_takes (ci : Nat) (C : String) (T : u_T) (N : Nat) (hcl : vwCl[ci]? = some (C, T, N)) (ha : h[a]? = some (pc ci nu sl ki se)) (hc : h[b]? = some (.inr (5, [.ref (gN G + cb)]))) (hf : h[cb]? = some (.inl (gA G 0, 7, .inl f))) (s k : Int32) : rM l G 1 mX3_takes 0 0 [.ref (gN G + a), .ref (gN G + b), .int s, .int k] h (rV h (some (.int (s * f 4 / 9)))) := by
  refine rM_start (by decide) (Nat.le_of_ble_eq_true rfl) ?_
  refine a_aload_n 1 dX3_takes_0 rfl rfl ?_
  refine a_aload_n 2 dX3_takes_1 rfl rfl ?_
  refine a_iload_n 3 dX3_takes_2 rfl rfl ?_
  refine a_iload_n 4 dX3_takes_3 rfl rfl ?_
  refine a_callSU ok_X7_takes lns_X3_9 sm_X7_takes sc_3 im_X7_takes (by decide) rfl 7 dX3_takes_4 rfl (k_X7_takes .null s k) (by repeat (first | assumption | (refine rg_ne (by first | decide | omega) ?_) | apply rg_eq | refine rg_fr (by assumption) (by first | decide | (simp; omega)) ?_)) hcl rfl rfl ⟨(Nat.le_of_ble_eq_true rfl), (Nat.le_of_ble_eq_true rfl)⟩ (Nat.le_of_ble_eq_true rfl) ⟨(Nat.le_of_ble_eq_true rfl), (Nat.le_of_ble_eq_true rfl)⟩ ?_
  rintro _ _ ⟨rfl, rfl⟩
  refine a_aload_n 8 dX3_takes_7 rfl rfl ?_
  refine a_iconst (4) 9 dX3_takes_8 rfl (by decide) ?_
  refine a_callV ok_X5_number ln_X3_13 in_X5_number rfl 12 dX3_takes_9 rfl (k_X5_num hc hf 4 (by decide)) (by repeat (first | assumption | (refine rg_ne (by first | decide | omega) ?_) | apply rg_eq | refine rg_fr (by assumption) (by first | decide | (simp; omega)) ?_)) rfl rfl rfl ⟨(Nat.le_of_ble_eq_true rfl), (Nat.le_of_ble_eq_true rfl)⟩ (Nat.le_of_ble_eq_true rfl) ⟨(Nat.le_of_ble_eq_true rfl), (Nat.le_of_ble_eq_true rfl)⟩ ?_
  rintro _ _ ⟨rfl, rfl⟩
  refine a_imul 13 dX3_takes_12 rfl ?_
  refine a_bipush (9) 15 dX3_takes_13 rfl (by decide) ?_
  refine a_idiv 16 dX3_takes_15 rfl (by decide) ?_
  exact a_ireturn dX3_takes_16 rfl rfl (Nat.le_of_ble_eq_true rfl) (Nat.le_of_ble_eq_true rfl) ⟨rfl, rfl⟩
set_option maxRecDepth 100000 in
set_option maxHeartbeats 400000 in
theorem k_X3_takesOwn (ci : Nat) (C : String) (T : u_T) (N : Nat) (hcl : vwCl[ci]? = some (C, T, N)) (ha : h[a]? = some (pc ci nu sl ki se)) (hc : h[b]? = some (.inr (5, [.ref (gN G + cb)]))) (hf : h[cb]? = some (.inl (gA G 0, 7, .inl f))) (s : Int32) : rM l G 1 mX3_takesOwn 0 0 [.ref (gN G + a), .ref (gN G + b), .int s] h (rV h (some (.int (s * f 4 / 9)))) := by
  refine rM_start (by decide) (Nat.le_of_ble_eq_true rfl) ?_
  refine a_aload_n 1 dX3_takesOwn_0 rfl rfl ?_
  refine a_aload_n 2 dX3_takesOwn_1 rfl rfl ?_
  refine a_iload_n 3 dX3_takesOwn_2 rfl rfl ?_
  refine a_callSU ok_X7_takesOwn lns_X3_19 sm_X7_takesOwn sc_3 im_X7_takesOwn (by decide) rfl 6 dX3_takesOwn_3 rfl (k_X7_takesOwn s) (by repeat (first | assumption | (refine rg_ne (by first | decide | omega) ?_) | apply rg_eq | refine rg_fr (by assumption) (by first | decide | (simp; omega)) ?_)) hcl rfl rfl ⟨(Nat.le_of_ble_eq_true rfl), (Nat.le_of_ble_eq_true rfl)⟩ (Nat.le_of_ble_eq_true rfl) ⟨(Nat.le_of_ble_eq_true rfl), (Nat.le_of_ble_eq_true rfl)⟩ ?_
  rintro _ _ ⟨rfl, rfl⟩
  refine a_aload_n 7 dX3_takesOwn_6 rfl rfl ?_
  refine a_iconst (4) 8 dX3_takesOwn_7 rfl (by decide) ?_
  refine a_callV ok_X5_number ln_X3_13 in_X5_number rfl 11 dX3_takesOwn_8 rfl (k_X5_num hc hf 4 (by decide)) (by repeat (first | assumption | (refine rg_ne (by first | decide | omega) ?_) | apply rg_eq | refine rg_fr (by assumption) (by first | decide | (simp; omega)) ?_)) rfl rfl rfl ⟨(Nat.le_of_ble_eq_true rfl), (Nat.le_of_ble_eq_true rfl)⟩ (Nat.le_of_ble_eq_true rfl) ⟨(Nat.le_of_ble_eq_true rfl), (Nat.le_of_ble_eq_true rfl)⟩ ?_
  rintro _ _ ⟨rfl, rfl⟩
  refine a_imul 12 dX3_takesOwn_11 rfl ?_
  refine a_bipush (9) 14 dX3_takesOwn_12 rfl (by decide) ?_
  refine a_idiv 15 dX3_takesOwn_14 rfl (by decide) ?_
  exact a_ireturn dX3_takesOwn_15 rfl rfl (Nat.le_of_ble_eq_true rfl) (Nat.le_of_ble_eq_true rfl) ⟨rfl, rfl⟩
set_option maxRecDepth 100000 in
set_option maxHeartbeats 400000 in
theorem k_X4_takes (ha : h[a]? = some (pc 4 nu sl ki se)) (hc : h[b]? = some (.inr (5, [.ref (gN G + cb)]))) (hf : h[cb]? = some (.inl (gA G 0, 7, .inl f))) (s k : Int32) : rM l G 2 mX4_takes 0 0 [.ref (gN G + a), .ref (gN G + b), .int s, .int k] h (rV h (some (.int (if k = 0 then 0 else s * f 4 / 9)))) := by
  refine rM_start (by decide) (Nat.le_of_ble_eq_true rfl) ?_
  refine a_iload_n 1 dX4_takes_0 rfl rfl ?_
  refine a_if_eq 14 4 dX4_takes_1 rfl (by decide) (fun c_1 => ?_) (fun c_1 => ?_)
  · refine a_iconst (0) 15 dX4_takes_14 rfl (by decide) ?_
    exact a_ireturn dX4_takes_15 rfl rfl (Nat.le_of_ble_eq_true rfl) (Nat.le_of_ble_eq_true rfl) ⟨rfl, by first | rw [if_pos c_1] | rw [if_neg c_1]⟩
  · refine a_aload_n 5 dX4_takes_4 rfl rfl ?_
    refine a_aload_n 6 dX4_takes_5 rfl rfl ?_
    refine a_iload_n 7 dX4_takes_6 rfl rfl ?_
    refine a_iconst (1) 8 dX4_takes_7 rfl (by decide) ?_
    refine a_callSU ok_X3_takes lns_X4_7 sm_X3_takes sc_4 im_X3_takes (by decide) rfl 11 dX4_takes_8 rfl (k_X3_takes 4 _ _ _ rfl ha hc hf s 1) (by repeat (first | assumption | (refine rg_ne (by first | decide | omega) ?_) | apply rg_eq | refine rg_fr (by assumption) (by first | decide | (simp; omega)) ?_)) rfl rfl rfl ⟨(Nat.le_of_ble_eq_true rfl), (Nat.le_of_ble_eq_true rfl)⟩ (Nat.le_of_ble_eq_true rfl) ⟨(Nat.le_of_ble_eq_true rfl), (Nat.le_of_ble_eq_true rfl)⟩ ?_
    rintro _ _ ⟨rfl, rfl⟩
    refine a_goto 15 dX4_takes_11 (by decide) ?_
    exact a_ireturn dX4_takes_15 rfl rfl (Nat.le_of_ble_eq_true rfl) (Nat.le_of_ble_eq_true rfl) ⟨rfl, by first | rw [if_pos c_1] | rw [if_neg c_1]⟩
end PERSONS
