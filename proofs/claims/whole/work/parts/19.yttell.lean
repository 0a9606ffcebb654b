section YTT
variable {l : Launch} {G : rG} {h : rH} {on lc lf mk : Int32} {a ci : Nat} {nu sl ki se : Int32}
set_option maxRecDepth 100000 in
set_option maxHeartbeats 400000 in
theorem k_X7_tells (ha : h[a]? = some (pc 7 nu sl ki se)) (h0 : a ≠ 0) (hy : h[0]? = some (ytc G on lc lf mk)) : rM l G 2 mX7_tells 0 0 [.ref (gN G + a), .ref (gN G + 0)] h (fun h' v => v = some (.int (9 - sl)) ∧ h'[0]? = some (ytc G on lc lf (31 * mk + 1)) ∧ fr h h' [0]) := by
  refine rM_start (by decide) (Nat.le_of_ble_eq_true rfl) ?_
  refine a_aload_n 1 dX7_tells_0 rfl rfl ?_
  refine a_aload_n 2 dX7_tells_1 rfl rfl ?_
  refine a_callV ok_X7_tellsAsPerson ln_X7_19 in_X7_tellsAsPerson rfl 5 dX7_tells_2 rfl (k_X7_tellsAsPerson ha h0 hy (Or.inl rfl)) (by repeat (first | assumption | (refine rg_ne (by first | decide | omega) ?_) | apply rg_eq | refine rg_fr (by assumption) (by first | decide | (simp; omega)) ?_)) rfl rfl rfl ⟨(Nat.le_of_ble_eq_true rfl), (Nat.le_of_ble_eq_true rfl)⟩ (Nat.le_of_ble_eq_true rfl) ⟨(Nat.le_of_ble_eq_true rfl), (Nat.le_of_ble_eq_true rfl)⟩ ?_
  rintro h1 v ⟨rfl, hy1, hf1⟩
  exact a_ireturn dX7_tells_5 rfl rfl (Nat.le_of_ble_eq_true rfl) (Nat.le_of_ble_eq_true rfl) ⟨rfl, hy1, hf1⟩
set_option maxRecDepth 100000 in
set_option maxHeartbeats 400000 in
theorem k_X3_tells (ha : h[a]? = some (pc ci nu sl ki se)) (h0 : a ≠ 0) (hy : h[0]? = some (ytc G on lc lf mk)) (pa : ci = 3 ∨ ci = 4) : rM l G 2 mX3_tells 0 0 [.ref (gN G + a), .ref (gN G + 0)] h (fun h' v => v = some (.int (9 - sl + 100)) ∧ h'[0]? = some (ytc G on lc lf (31 * (31 * mk + 2) + 1)) ∧ fr h h' [0]) := by
  rcases pa with rfl | rfl
  · skip
    refine rM_start (by decide) (Nat.le_of_ble_eq_true rfl) ?_
    refine a_aload_n 1 dX3_tells_0 rfl rfl ?_
    refine a_iconst (2) 2 dX3_tells_1 rfl (by decide) ?_
    refine a_callV ok_X11_leave ln_X3_23 in_X11_leave rfl 5 dX3_tells_2 rfl (k_X11_leave hy 2) (by repeat (first | assumption | (refine rg_ne (by first | decide | omega) ?_) | apply rg_eq | refine rg_fr (by assumption) (by first | decide | (simp; omega)) ?_)) rfl rfl rfl ⟨(Nat.le_of_ble_eq_true rfl), (Nat.le_of_ble_eq_true rfl)⟩ (Nat.le_of_ble_eq_true rfl) ⟨(Nat.le_of_ble_eq_true rfl), (Nat.le_of_ble_eq_true rfl)⟩ ?_
    rintro h1 v ⟨rfl, hy1, hf1⟩
    have ha1 := rg_fr hf1 (by simpa using h0) ha
    refine a_aload_n 6 dX3_tells_5 rfl rfl ?_
    refine a_aload_n 7 dX3_tells_6 rfl rfl ?_
    refine a_callU ok_X7_tellsAsPerson cu_X3_27_X3 rfl 10 dX3_tells_7 rfl (k_X7_tellsAsPerson ha1 h0 hy1 (Or.inr (Or.inl rfl))) (by repeat (first | assumption | (refine rg_ne (by first | decide | omega) ?_) | apply rg_eq | refine rg_fr (by assumption) (by first | decide | (simp; omega)) ?_)) rfl rfl rfl ⟨(Nat.le_of_ble_eq_true rfl), (Nat.le_of_ble_eq_true rfl)⟩ (Nat.le_of_ble_eq_true rfl) ⟨(Nat.le_of_ble_eq_true rfl), (Nat.le_of_ble_eq_true rfl)⟩ ?_
    rintro h2 v ⟨rfl, hy2, hf2⟩
    refine a_bipush (100) 12 dX3_tells_10 rfl (by decide) ?_
    refine a_iadd 13 dX3_tells_12 rfl ?_
    exact a_ireturn dX3_tells_13 rfl rfl (Nat.le_of_ble_eq_true rfl) (Nat.le_of_ble_eq_true rfl) ⟨rfl, hy2, fr_trans hf1 hf2 (fun _ q => q)⟩
  · skip
    refine rM_start (by decide) (Nat.le_of_ble_eq_true rfl) ?_
    refine a_aload_n 1 dX3_tells_0 rfl rfl ?_
    refine a_iconst (2) 2 dX3_tells_1 rfl (by decide) ?_
    refine a_callV ok_X11_leave ln_X3_23 in_X11_leave rfl 5 dX3_tells_2 rfl (k_X11_leave hy 2) (by repeat (first | assumption | (refine rg_ne (by first | decide | omega) ?_) | apply rg_eq | refine rg_fr (by assumption) (by first | decide | (simp; omega)) ?_)) rfl rfl rfl ⟨(Nat.le_of_ble_eq_true rfl), (Nat.le_of_ble_eq_true rfl)⟩ (Nat.le_of_ble_eq_true rfl) ⟨(Nat.le_of_ble_eq_true rfl), (Nat.le_of_ble_eq_true rfl)⟩ ?_
    rintro h1 v ⟨rfl, hy1, hf1⟩
    have ha1 := rg_fr hf1 (by simpa using h0) ha
    refine a_aload_n 6 dX3_tells_5 rfl rfl ?_
    refine a_aload_n 7 dX3_tells_6 rfl rfl ?_
    refine a_callU ok_X7_tellsAsPerson cu_X3_27_X4 rfl 10 dX3_tells_7 rfl (k_X7_tellsAsPerson ha1 h0 hy1 (Or.inr (Or.inr rfl))) (by repeat (first | assumption | (refine rg_ne (by first | decide | omega) ?_) | apply rg_eq | refine rg_fr (by assumption) (by first | decide | (simp; omega)) ?_)) rfl rfl rfl ⟨(Nat.le_of_ble_eq_true rfl), (Nat.le_of_ble_eq_true rfl)⟩ (Nat.le_of_ble_eq_true rfl) ⟨(Nat.le_of_ble_eq_true rfl), (Nat.le_of_ble_eq_true rfl)⟩ ?_
    rintro h2 v ⟨rfl, hy2, hf2⟩
    refine a_bipush (100) 12 dX3_tells_10 rfl (by decide) ?_
    refine a_iadd 13 dX3_tells_12 rfl ?_
    exact a_ireturn dX3_tells_13 rfl rfl (Nat.le_of_ble_eq_true rfl) (Nat.le_of_ble_eq_true rfl) ⟨rfl, hy2, fr_trans hf1 hf2 (fun _ q => q)⟩
set_option maxRecDepth 100000 in
set_option maxHeartbeats 400000 in
theorem k_X4_tells (ha : h[a]? = some (pc 4 nu sl ki se)) (h0 : a ≠ 0) (hy : h[0]? = some (ytc G on lc lf mk)) : rM l G 3 mX4_tells 0 0 [.ref (gN G + a), .ref (gN G + 0)] h (fun h' v => v = some (.int (9 - sl + 100 + (9 - sl))) ∧ h'[0]? = some (ytc G on lc lf (31 * (31 * (31 * (31 * mk + 3) + 2) + 1) + 1)) ∧ fr h h' [0]) := by
  refine rM_start (by decide) (Nat.le_of_ble_eq_true rfl) ?_
  refine a_aload_n 1 dX4_tells_0 rfl rfl ?_
  refine a_iconst (3) 2 dX4_tells_1 rfl (by decide) ?_
  refine a_callV ok_X11_leave ln_X4_11 in_X11_leave rfl 5 dX4_tells_2 rfl (k_X11_leave hy 3) (by repeat (first | assumption | (refine rg_ne (by first | decide | omega) ?_) | apply rg_eq | refine rg_fr (by assumption) (by first | decide | (simp; omega)) ?_)) rfl rfl rfl ⟨(Nat.le_of_ble_eq_true rfl), (Nat.le_of_ble_eq_true rfl)⟩ (Nat.le_of_ble_eq_true rfl) ⟨(Nat.le_of_ble_eq_true rfl), (Nat.le_of_ble_eq_true rfl)⟩ ?_
  rintro h1 v ⟨rfl, hy1, hf1⟩
  have ha1 := rg_fr hf1 (by simpa using h0) ha
  refine a_aload_n 6 dX4_tells_5 rfl rfl ?_
  refine a_aload_n 7 dX4_tells_6 rfl rfl ?_
  refine a_callSU ok_X3_tells lns_X4_17 sm_X3_tells sc_4 im_X3_tells (by decide) rfl 10 dX4_tells_7 rfl (k_X3_tells ha1 h0 hy1 (Or.inr rfl)) (by repeat (first | assumption | (refine rg_ne (by first | decide | omega) ?_) | apply rg_eq | refine rg_fr (by assumption) (by first | decide | (simp; omega)) ?_)) rfl rfl rfl ⟨(Nat.le_of_ble_eq_true rfl), (Nat.le_of_ble_eq_true rfl)⟩ (Nat.le_of_ble_eq_true rfl) ⟨(Nat.le_of_ble_eq_true rfl), (Nat.le_of_ble_eq_true rfl)⟩ ?_
  rintro h2 v ⟨rfl, hy2, hf2⟩
  have ha2 := rg_fr hf2 (by simpa using h0) ha1
  refine a_istore_n 11 dX4_tells_10 rfl (by decide) ?_
  refine a_iload_n 12 dX4_tells_11 rfl rfl ?_
  refine a_aload_n 13 dX4_tells_12 rfl rfl ?_
  refine a_aload_n 14 dX4_tells_13 rfl rfl ?_
  refine a_callU ok_X7_tellsAsPerson cu_X4_21_X4 rfl 17 dX4_tells_14 rfl (k_X7_tellsAsPerson ha2 h0 hy2 (Or.inr (Or.inr rfl))) (by repeat (first | assumption | (refine rg_ne (by first | decide | omega) ?_) | apply rg_eq | refine rg_fr (by assumption) (by first | decide | (simp; omega)) ?_)) rfl rfl rfl ⟨(Nat.le_of_ble_eq_true rfl), (Nat.le_of_ble_eq_true rfl)⟩ (Nat.le_of_ble_eq_true rfl) ⟨(Nat.le_of_ble_eq_true rfl), (Nat.le_of_ble_eq_true rfl)⟩ ?_
  rintro h3 v ⟨rfl, hy3, hf3⟩
  refine a_iadd 18 dX4_tells_17 rfl ?_
  exact a_ireturn dX4_tells_18 rfl rfl (Nat.le_of_ble_eq_true rfl) (Nat.le_of_ble_eq_true rfl) ⟨rfl, hy3, fr_trans hf1 (fr_trans hf2 hf3 (fun _ q => q)) (fun _ q => q)⟩
set_option maxRecDepth 100000 in
set_option maxHeartbeats 400000 in
theorem k_X7_wakes_7 (ha : h[a]? = some (pc 7 nu sl ki se)) (h0 : a ≠ 0) (hy : h[0]? = some (ytc G on lc lf mk)) : rM l G 1 mX7_wakes 0 0 [.ref (gN G + a), .ref (gN G + 0)] h (fun h' v => v = some (.int nu) ∧ h'[0]? = some (ytc G on lc lf (31 * mk + 4)) ∧ fr h h' [0]) := by
  refine rM_start (by decide) (Nat.le_of_ble_eq_true rfl) ?_
  refine a_aload_n 1 dX7_wakes_0 rfl rfl ?_
  refine a_iconst (4) 2 dX7_wakes_1 rfl (by decide) ?_
  refine a_callV ok_X11_leave ln_X7_23 in_X11_leave rfl 5 dX7_wakes_2 rfl (k_X11_leave hy 4) (by repeat (first | assumption | (refine rg_ne (by first | decide | omega) ?_) | apply rg_eq | refine rg_fr (by assumption) (by first | decide | (simp; omega)) ?_)) rfl rfl rfl ⟨(Nat.le_of_ble_eq_true rfl), (Nat.le_of_ble_eq_true rfl)⟩ (Nat.le_of_ble_eq_true rfl) ⟨(Nat.le_of_ble_eq_true rfl), (Nat.le_of_ble_eq_true rfl)⟩ ?_
  rintro h1 v ⟨rfl, hy1, hf1⟩
  have ha1 := rg_fr hf1 (by simpa using h0) ha
  refine a_aload_n 6 dX7_wakes_5 rfl rfl ?_
  refine a_get fd_X7_7_X7 rfl 9 dX7_wakes_6 rfl (by repeat (first | assumption | (refine rg_ne (by first | decide | omega) ?_) | apply rg_eq | refine rg_fr (by assumption) (by first | decide | (simp; omega)) ?_)) rfl ?_
  exact a_ireturn dX7_wakes_9 rfl rfl (Nat.le_of_ble_eq_true rfl) (Nat.le_of_ble_eq_true rfl) ⟨rfl, hy1, hf1⟩
set_option maxRecDepth 100000 in
set_option maxHeartbeats 400000 in
theorem k_X7_wakes_3 (ha : h[a]? = some (pc 3 nu sl ki se)) (h0 : a ≠ 0) (hy : h[0]? = some (ytc G on lc lf mk)) : rM l G 1 mX7_wakes 0 0 [.ref (gN G + a), .ref (gN G + 0)] h (fun h' v => v = some (.int nu) ∧ h'[0]? = some (ytc G on lc lf (31 * mk + 4)) ∧ fr h h' [0]) := by
  refine rM_start (by decide) (Nat.le_of_ble_eq_true rfl) ?_
  refine a_aload_n 1 dX7_wakes_0 rfl rfl ?_
  refine a_iconst (4) 2 dX7_wakes_1 rfl (by decide) ?_
  refine a_callV ok_X11_leave ln_X7_23 in_X11_leave rfl 5 dX7_wakes_2 rfl (k_X11_leave hy 4) (by repeat (first | assumption | (refine rg_ne (by first | decide | omega) ?_) | apply rg_eq | refine rg_fr (by assumption) (by first | decide | (simp; omega)) ?_)) rfl rfl rfl ⟨(Nat.le_of_ble_eq_true rfl), (Nat.le_of_ble_eq_true rfl)⟩ (Nat.le_of_ble_eq_true rfl) ⟨(Nat.le_of_ble_eq_true rfl), (Nat.le_of_ble_eq_true rfl)⟩ ?_
  rintro h1 v ⟨rfl, hy1, hf1⟩
  have ha1 := rg_fr hf1 (by simpa using h0) ha
  refine a_aload_n 6 dX7_wakes_5 rfl rfl ?_
  refine a_get fd_X7_7_X3 rfl 9 dX7_wakes_6 rfl (by repeat (first | assumption | (refine rg_ne (by first | decide | omega) ?_) | apply rg_eq | refine rg_fr (by assumption) (by first | decide | (simp; omega)) ?_)) rfl ?_
  exact a_ireturn dX7_wakes_9 rfl rfl (Nat.le_of_ble_eq_true rfl) (Nat.le_of_ble_eq_true rfl) ⟨rfl, hy1, hf1⟩
set_option maxRecDepth 100000 in
set_option maxHeartbeats 400000 in
theorem k_X4_wakes (hy : h[0]? = some (ytc G on lc lf mk)) : rM l G 1 mX4_wakes 0 0 [.ref (gN G + a), .ref (gN G + 0)] h (fun h' v => v = some (.int 80) ∧ h'[0]? = some (ytc G on lc lf (31 * mk + 5)) ∧ fr h h' [0]) := by
  refine rM_start (by decide) (Nat.le_of_ble_eq_true rfl) ?_
  refine a_aload_n 1 dX4_wakes_0 rfl rfl ?_
  refine a_iconst (5) 2 dX4_wakes_1 rfl (by decide) ?_
  refine a_callV ok_X11_leave ln_X4_11 in_X11_leave rfl 5 dX4_wakes_2 rfl (k_X11_leave hy 5) (by repeat (first | assumption | (refine rg_ne (by first | decide | omega) ?_) | apply rg_eq | refine rg_fr (by assumption) (by first | decide | (simp; omega)) ?_)) rfl rfl rfl ⟨(Nat.le_of_ble_eq_true rfl), (Nat.le_of_ble_eq_true rfl)⟩ (Nat.le_of_ble_eq_true rfl) ⟨(Nat.le_of_ble_eq_true rfl), (Nat.le_of_ble_eq_true rfl)⟩ ?_
  rintro h1 v ⟨rfl, hy1, hf1⟩
  refine a_bipush (80) 7 dX4_wakes_5 rfl (by decide) ?_
  exact a_ireturn dX4_wakes_7 rfl rfl (Nat.le_of_ble_eq_true rfl) (Nat.le_of_ble_eq_true rfl) ⟨rfl, hy1, hf1⟩
end YTT
